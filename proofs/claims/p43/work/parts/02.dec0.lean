theorem dX0_init_0 : decode cX0_init 0 = .ok (.aload_n 0, 1) := by decide +kernel
theorem dX0_init_1 : decode cX0_init 1 = .ok (.invokespecial 3, 3) := by decide +kernel
theorem dX0_init_4 : decode cX0_init 4 = .ok (.aload_n 0, 1) := by decide +kernel
theorem dX0_init_5 : decode cX0_init 5 = .ok (.new 9, 3) := by decide +kernel
theorem dX0_init_8 : decode cX0_init 8 = .ok (.dup, 1) := by decide +kernel
theorem dX0_init_9 : decode cX0_init 9 = .ok (.invokespecial 11, 3) := by decide +kernel
theorem dX0_init_12 : decode cX0_init 12 = .ok (.putfield 12, 3) := by decide +kernel
theorem dX0_init_15 : decode cX0_init 15 = .ok (.aload_n 0, 1) := by decide +kernel
theorem dX0_init_16 : decode cX0_init 16 = .ok (.new 9, 3) := by decide +kernel
theorem dX0_init_19 : decode cX0_init 19 = .ok (.dup, 1) := by decide +kernel
theorem dX0_init_20 : decode cX0_init 20 = .ok (.invokespecial 11, 3) := by decide +kernel
theorem dX0_init_23 : decode cX0_init 23 = .ok (.putfield 18, 3) := by decide +kernel
theorem dX0_init_26 : decode cX0_init 26 = .ok (.aload_n 0, 1) := by decide +kernel
theorem dX0_init_27 : decode cX0_init 27 = .ok (.bipush 8, 2) := by decide +kernel
theorem dX0_init_29 : decode cX0_init 29 = .ok (.newarray .int, 2) := by decide +kernel
theorem dX0_init_31 : decode cX0_init 31 = .ok (.putfield 21, 3) := by decide +kernel
theorem dX0_init_34 : decode cX0_init 34 = .ok (.aload_n 0, 1) := by decide +kernel
theorem dX0_init_35 : decode cX0_init 35 = .ok (.new 9, 3) := by decide +kernel
theorem dX0_init_38 : decode cX0_init 38 = .ok (.dup, 1) := by decide +kernel
theorem dX0_init_39 : decode cX0_init 39 = .ok (.invokespecial 11, 3) := by decide +kernel
theorem dX0_init_42 : decode cX0_init 42 = .ok (.putfield 25, 3) := by decide +kernel
theorem dX0_init_45 : decode cX0_init 45 = .ok (.aload_n 0, 1) := by decide +kernel
theorem dX0_init_46 : decode cX0_init 46 = .ok (.bipush 40, 2) := by decide +kernel
theorem dX0_init_48 : decode cX0_init 48 = .ok (.newarray .int, 2) := by decide +kernel
theorem dX0_init_50 : decode cX0_init 50 = .ok (.putfield 28, 3) := by decide +kernel
theorem dX0_init_53 : decode cX0_init 53 = .ok (.aload_n 0, 1) := by decide +kernel
theorem dX0_init_54 : decode cX0_init 54 = .ok (.iconst (-1), 1) := by decide +kernel
theorem dX0_init_55 : decode cX0_init 55 = .ok (.putfield 31, 3) := by decide +kernel
theorem dX0_init_58 : decode cX0_init 58 = .ok (.aload_n 0, 1) := by decide +kernel
theorem dX0_init_59 : decode cX0_init 59 = .ok (.iconst (-1), 1) := by decide +kernel
theorem dX0_init_60 : decode cX0_init 60 = .ok (.putfield 35, 3) := by decide +kernel
theorem dX0_init_63 : decode cX0_init 63 = .ok (.aload_n 0, 1) := by decide +kernel
theorem dX0_init_64 : decode cX0_init 64 = .ok (.aload_n 1, 1) := by decide +kernel
theorem dX0_init_65 : decode cX0_init 65 = .ok (.putfield 38, 3) := by decide +kernel
theorem dX0_init_68 : decode cX0_init 68 = .ok (.aload_n 0, 1) := by decide +kernel
theorem dX0_init_69 : decode cX0_init 69 = .ok (.aload_n 2, 1) := by decide +kernel
theorem dX0_init_70 : decode cX0_init 70 = .ok (.putfield 42, 3) := by decide +kernel
theorem dX0_init_73 : decode cX0_init 73 = .ok (.aload_n 0, 1) := by decide +kernel
theorem dX0_init_74 : decode cX0_init 74 = .ok (.getfield 21, 3) := by decide +kernel
theorem dX0_init_77 : decode cX0_init 77 = .ok (.iconst (-1), 1) := by decide +kernel
theorem dX0_init_78 : decode cX0_init 78 = .ok (.invokestatic 46, 3) := by decide +kernel
theorem dX0_init_81 : decode cX0_init 81 = .ok (.return_, 1) := by decide +kernel
theorem dX0_lawOn_0 : decode cX0_lawOn 0 = .ok (.aload_n 0, 1) := by decide +kernel
theorem dX0_lawOn_1 : decode cX0_lawOn 1 = .ok (.getfield 21, 3) := by decide +kernel
theorem dX0_lawOn_4 : decode cX0_lawOn 4 = .ok (.iload_n 1, 1) := by decide +kernel
theorem dX0_lawOn_5 : decode cX0_lawOn 5 = .ok (.invokestatic 52, 3) := by decide +kernel
theorem dX0_lawOn_8 : decode cX0_lawOn 8 = .ok (.ireturn, 1) := by decide +kernel
theorem dX0_dropLawsFarFrom_0 : decode cX0_dropLawsFarFrom 0 = .ok (.iconst 0, 1) := by decide +kernel
theorem dX0_dropLawsFarFrom_1 : decode cX0_dropLawsFarFrom 1 = .ok (.istore_n 2, 1) := by decide +kernel
theorem dX0_dropLawsFarFrom_2 : decode cX0_dropLawsFarFrom 2 = .ok (.iload_n 2, 1) := by decide +kernel
theorem dX0_dropLawsFarFrom_3 : decode cX0_dropLawsFarFrom 3 = .ok (.bipush 8, 2) := by decide +kernel
theorem dX0_dropLawsFarFrom_5 : decode cX0_dropLawsFarFrom 5 = .ok (.if_icmp .ge 29, 3) := by decide +kernel
theorem dX0_dropLawsFarFrom_8 : decode cX0_dropLawsFarFrom 8 = .ok (.aload_n 0, 1) := by decide +kernel
theorem dX0_dropLawsFarFrom_9 : decode cX0_dropLawsFarFrom 9 = .ok (.getfield 21, 3) := by decide +kernel
theorem dX0_dropLawsFarFrom_12 : decode cX0_dropLawsFarFrom 12 = .ok (.iload_n 2, 1) := by decide +kernel
theorem dX0_dropLawsFarFrom_13 : decode cX0_dropLawsFarFrom 13 = .ok (.iaload, 1) := by decide +kernel
theorem dX0_dropLawsFarFrom_14 : decode cX0_dropLawsFarFrom 14 = .ok (.iload_n 1, 1) := by decide +kernel
theorem dX0_dropLawsFarFrom_15 : decode cX0_dropLawsFarFrom 15 = .ok (.invokestatic 56, 3) := by decide +kernel
theorem dX0_dropLawsFarFrom_18 : decode cX0_dropLawsFarFrom 18 = .ok (.ifCond .eq 10, 3) := by decide +kernel
theorem dX0_dropLawsFarFrom_21 : decode cX0_dropLawsFarFrom 21 = .ok (.aload_n 0, 1) := by decide +kernel
theorem dX0_dropLawsFarFrom_22 : decode cX0_dropLawsFarFrom 22 = .ok (.getfield 21, 3) := by decide +kernel
theorem dX0_dropLawsFarFrom_25 : decode cX0_dropLawsFarFrom 25 = .ok (.iload_n 2, 1) := by decide +kernel
theorem dX0_dropLawsFarFrom_26 : decode cX0_dropLawsFarFrom 26 = .ok (.iconst (-1), 1) := by decide +kernel
theorem dX0_dropLawsFarFrom_27 : decode cX0_dropLawsFarFrom 27 = .ok (.iastore, 1) := by decide +kernel
theorem dX0_dropLawsFarFrom_28 : decode cX0_dropLawsFarFrom 28 = .ok (.iinc 2 1, 3) := by decide +kernel
theorem dX0_dropLawsFarFrom_31 : decode cX0_dropLawsFarFrom 31 = .ok (.goto (-29), 3) := by decide +kernel
theorem dX0_dropLawsFarFrom_34 : decode cX0_dropLawsFarFrom 34 = .ok (.return_, 1) := by decide +kernel
theorem dX0_isTooFar_0 : decode cX0_isTooFar 0 = .ok (.iload_n 0, 1) := by decide +kernel
theorem dX0_isTooFar_1 : decode cX0_isTooFar 1 = .ok (.iconst (-1), 1) := by decide +kernel
theorem dX0_isTooFar_2 : decode cX0_isTooFar 2 = .ok (.if_icmp .eq 17, 3) := by decide +kernel
theorem dX0_isTooFar_5 : decode cX0_isTooFar 5 = .ok (.iload_n 0, 1) := by decide +kernel
theorem dX0_isTooFar_6 : decode cX0_isTooFar 6 = .ok (.iload_n 1, 1) := by decide +kernel
theorem dX0_isTooFar_7 : decode cX0_isTooFar 7 = .ok (.invokestatic 60, 3) := by decide +kernel
theorem dX0_isTooFar_10 : decode cX0_isTooFar 10 = .ok (.bipush 6, 2) := by decide +kernel
theorem dX0_isTooFar_12 : decode cX0_isTooFar 12 = .ok (.if_icmp .le 7, 3) := by decide +kernel
theorem dX0_isTooFar_15 : decode cX0_isTooFar 15 = .ok (.iconst 1, 1) := by decide +kernel
theorem dX0_isTooFar_16 : decode cX0_isTooFar 16 = .ok (.goto 4, 3) := by decide +kernel
theorem dX0_isTooFar_19 : decode cX0_isTooFar 19 = .ok (.iconst 0, 1) := by decide +kernel
theorem dX0_isTooFar_20 : decode cX0_isTooFar 20 = .ok (.ireturn, 1) := by decide +kernel
theorem dX0_proofAgainst_0 : decode cX0_proofAgainst 0 = .ok (.aload_n 0, 1) := by decide +kernel
theorem dX0_proofAgainst_1 : decode cX0_proofAgainst 1 = .ok (.aload_n 1, 1) := by decide +kernel
theorem dX0_proofAgainst_2 : decode cX0_proofAgainst 2 = .ok (.getfield 64, 3) := by decide +kernel
theorem dX0_proofAgainst_5 : decode cX0_proofAgainst 5 = .ok (.invokevirtual 69, 3) := by decide +kernel
theorem dX0_proofAgainst_8 : decode cX0_proofAgainst 8 = .ok (.istore_n 2, 1) := by decide +kernel
theorem dX0_proofAgainst_9 : decode cX0_proofAgainst 9 = .ok (.iload_n 2, 1) := by decide +kernel
theorem dX0_proofAgainst_10 : decode cX0_proofAgainst 10 = .ok (.iconst (-1), 1) := by decide +kernel
theorem dX0_proofAgainst_11 : decode cX0_proofAgainst 11 = .ok (.if_icmp .eq 7, 3) := by decide +kernel
theorem dX0_proofAgainst_14 : decode cX0_proofAgainst 14 = .ok (.iload_n 2, 1) := by decide +kernel
theorem dX0_proofAgainst_15 : decode cX0_proofAgainst 15 = .ok (.goto 13, 3) := by decide +kernel
theorem dX0_proofAgainst_18 : decode cX0_proofAgainst 18 = .ok (.aload_n 1, 1) := by decide +kernel
theorem dX0_proofAgainst_19 : decode cX0_proofAgainst 19 = .ok (.getfield 73, 3) := by decide +kernel
theorem dX0_proofAgainst_22 : decode cX0_proofAgainst 22 = .ok (.bipush 8, 2) := by decide +kernel
theorem dX0_proofAgainst_24 : decode cX0_proofAgainst 24 = .ok (.iadd, 1) := by decide +kernel
theorem dX0_proofAgainst_25 : decode cX0_proofAgainst 25 = .ok (.bipush 16, 2) := by decide +kernel
theorem dX0_proofAgainst_27 : decode cX0_proofAgainst 27 = .ok (.irem, 1) := by decide +kernel
theorem dX0_proofAgainst_28 : decode cX0_proofAgainst 28 = .ok (.ireturn, 1) := by decide +kernel
theorem dX0_gatherPresent_0 : decode cX0_gatherPresent 0 = .ok (.aload_n 0, 1) := by decide +kernel
theorem dX0_gatherPresent_1 : decode cX0_gatherPresent 1 = .ok (.getfield 25, 3) := by decide +kernel
theorem dX0_gatherPresent_4 : decode cX0_gatherPresent 4 = .ok (.invokevirtual 76, 3) := by decide +kernel
theorem dX0_gatherPresent_7 : decode cX0_gatherPresent 7 = .ok (.iconst 0, 1) := by decide +kernel
theorem dX0_gatherPresent_8 : decode cX0_gatherPresent 8 = .ok (.istore_n 1, 1) := by decide +kernel
theorem dX0_gatherPresent_9 : decode cX0_gatherPresent 9 = .ok (.iload_n 1, 1) := by decide +kernel
theorem dX0_gatherPresent_10 : decode cX0_gatherPresent 10 = .ok (.aload_n 0, 1) := by decide +kernel
theorem dX0_gatherPresent_11 : decode cX0_gatherPresent 11 = .ok (.getfield 38, 3) := by decide +kernel
theorem dX0_gatherPresent_14 : decode cX0_gatherPresent 14 = .ok (.getfield 79, 3) := by decide +kernel
theorem dX0_gatherPresent_17 : decode cX0_gatherPresent 17 = .ok (.invokevirtual 84, 3) := by decide +kernel
theorem dX0_gatherPresent_20 : decode cX0_gatherPresent 20 = .ok (.if_icmp .ge 57, 3) := by decide +kernel
theorem dX0_gatherPresent_23 : decode cX0_gatherPresent 23 = .ok (.aload_n 0, 1) := by decide +kernel
theorem dX0_gatherPresent_24 : decode cX0_gatherPresent 24 = .ok (.getfield 38, 3) := by decide +kernel
theorem dX0_gatherPresent_27 : decode cX0_gatherPresent 27 = .ok (.getfield 79, 3) := by decide +kernel
theorem dX0_gatherPresent_30 : decode cX0_gatherPresent 30 = .ok (.iload_n 1, 1) := by decide +kernel
theorem dX0_gatherPresent_31 : decode cX0_gatherPresent 31 = .ok (.invokevirtual 88, 3) := by decide +kernel
theorem dX0_gatherPresent_34 : decode cX0_gatherPresent 34 = .ok (.checkcast 92, 3) := by decide +kernel
theorem dX0_gatherPresent_37 : decode cX0_gatherPresent 37 = .ok (.astore_n 2, 1) := by decide +kernel
theorem dX0_gatherPresent_38 : decode cX0_gatherPresent 38 = .ok (.aload_n 2, 1) := by decide +kernel
theorem dX0_gatherPresent_39 : decode cX0_gatherPresent 39 = .ok (.invokevirtual 94, 3) := by decide +kernel
theorem dX0_gatherPresent_42 : decode cX0_gatherPresent 42 = .ok (.ifCond .eq 29, 3) := by decide +kernel
theorem dX0_gatherPresent_45 : decode cX0_gatherPresent 45 = .ok (.aload_n 2, 1) := by decide +kernel
theorem dX0_gatherPresent_46 : decode cX0_gatherPresent 46 = .ok (.getfield 98, 3) := by decide +kernel
theorem dX0_gatherPresent_49 : decode cX0_gatherPresent 49 = .ok (.aload_n 0, 1) := by decide +kernel
theorem dX0_gatherPresent_50 : decode cX0_gatherPresent 50 = .ok (.getfield 38, 3) := by decide +kernel
theorem dX0_gatherPresent_53 : decode cX0_gatherPresent 53 = .ok (.getfield 101, 3) := by decide +kernel
theorem dX0_gatherPresent_56 : decode cX0_gatherPresent 56 = .ok (.iadd, 1) := by decide +kernel
theorem dX0_gatherPresent_57 : decode cX0_gatherPresent 57 = .ok (.iconst 4, 1) := by decide +kernel
theorem dX0_gatherPresent_58 : decode cX0_gatherPresent 58 = .ok (.irem, 1) := by decide +kernel
theorem dX0_gatherPresent_59 : decode cX0_gatherPresent 59 = .ok (.ifCond .eq 12, 3) := by decide +kernel
theorem dX0_gatherPresent_62 : decode cX0_gatherPresent 62 = .ok (.aload_n 0, 1) := by decide +kernel
theorem dX0_gatherPresent_63 : decode cX0_gatherPresent 63 = .ok (.getfield 25, 3) := by decide +kernel
theorem dX0_gatherPresent_66 : decode cX0_gatherPresent 66 = .ok (.aload_n 2, 1) := by decide +kernel
theorem dX0_gatherPresent_67 : decode cX0_gatherPresent 67 = .ok (.invokevirtual 104, 3) := by decide +kernel
theorem dX0_gatherPresent_70 : decode cX0_gatherPresent 70 = .ok (.pop, 1) := by decide +kernel
theorem dX0_gatherPresent_71 : decode cX0_gatherPresent 71 = .ok (.iinc 1 1, 3) := by decide +kernel
theorem dX0_gatherPresent_74 : decode cX0_gatherPresent 74 = .ok (.goto (-65), 3) := by decide +kernel
theorem dX0_gatherPresent_77 : decode cX0_gatherPresent 77 = .ok (.return_, 1) := by decide +kernel
theorem dX0_countPresent_0 : decode cX0_countPresent 0 = .ok (.aload_n 0, 1) := by decide +kernel
theorem dX0_countPresent_1 : decode cX0_countPresent 1 = .ok (.invokevirtual 108, 3) := by decide +kernel
theorem dX0_countPresent_4 : decode cX0_countPresent 4 = .ok (.aload_n 0, 1) := by decide +kernel
theorem dX0_countPresent_5 : decode cX0_countPresent 5 = .ok (.getfield 25, 3) := by decide +kernel
theorem dX0_countPresent_8 : decode cX0_countPresent 8 = .ok (.invokevirtual 84, 3) := by decide +kernel
theorem dX0_countPresent_11 : decode cX0_countPresent 11 = .ok (.ireturn, 1) := by decide +kernel
theorem dX0_foretell_0 : decode cX0_foretell 0 = .ok (.aload_n 0, 1) := by decide +kernel
theorem dX0_foretell_1 : decode cX0_foretell 1 = .ok (.invokevirtual 108, 3) := by decide +kernel
theorem dX0_foretell_4 : decode cX0_foretell 4 = .ok (.aload_n 0, 1) := by decide +kernel
theorem dX0_foretell_5 : decode cX0_foretell 5 = .ok (.getfield 25, 3) := by decide +kernel
theorem dX0_foretell_8 : decode cX0_foretell 8 = .ok (.aload_n 1, 1) := by decide +kernel
theorem dX0_foretell_9 : decode cX0_foretell 9 = .ok (.getfield 73, 3) := by decide +kernel
theorem dX0_foretell_12 : decode cX0_foretell 12 = .ok (.invokestatic 111, 3) := by decide +kernel
theorem dX0_foretell_15 : decode cX0_foretell 15 = .ok (.istore_n 2, 1) := by decide +kernel
theorem dX0_foretell_16 : decode cX0_foretell 16 = .ok (.aload_n 1, 1) := by decide +kernel
theorem dX0_foretell_17 : decode cX0_foretell 17 = .ok (.iload_n 2, 1) := by decide +kernel
theorem dX0_foretell_18 : decode cX0_foretell 18 = .ok (.aload_n 0, 1) := by decide +kernel
theorem dX0_foretell_19 : decode cX0_foretell 19 = .ok (.getfield 25, 3) := by decide +kernel
theorem dX0_foretell_22 : decode cX0_foretell 22 = .ok (.invokevirtual 84, 3) := by decide +kernel
theorem dX0_foretell_25 : decode cX0_foretell 25 = .ok (.aload_n 0, 1) := by decide +kernel
theorem dX0_foretell_26 : decode cX0_foretell 26 = .ok (.getfield 38, 3) := by decide +kernel
theorem dX0_foretell_29 : decode cX0_foretell 29 = .ok (.invokevirtual 115, 3) := by decide +kernel
theorem dX0_foretell_32 : decode cX0_foretell 32 = .ok (.invokevirtual 118, 3) := by decide +kernel
theorem dX0_foretell_35 : decode cX0_foretell 35 = .ok (.ifCond .eq 7, 3) := by decide +kernel
theorem dX0_foretell_38 : decode cX0_foretell 38 = .ok (.iload_n 2, 1) := by decide +kernel
theorem dX0_foretell_39 : decode cX0_foretell 39 = .ok (.goto 4, 3) := by decide +kernel
theorem dX0_foretell_42 : decode cX0_foretell 42 = .ok (.iconst (-1), 1) := by decide +kernel
theorem dX0_foretell_43 : decode cX0_foretell 43 = .ok (.ireturn, 1) := by decide +kernel
theorem dX0_vote_0 : decode cX0_vote 0 = .ok (.aload_n 0, 1) := by decide +kernel
theorem dX0_vote_1 : decode cX0_vote 1 = .ok (.aload_n 0, 1) := by decide +kernel
theorem dX0_vote_2 : decode cX0_vote 2 = .ok (.getfield 38, 3) := by decide +kernel
theorem dX0_vote_5 : decode cX0_vote 5 = .ok (.getfield 101, 3) := by decide +kernel
theorem dX0_vote_8 : decode cX0_vote 8 = .ok (.putfield 31, 3) := by decide +kernel
theorem dX0_vote_11 : decode cX0_vote 11 = .ok (.aload_n 0, 1) := by decide +kernel
theorem dX0_vote_12 : decode cX0_vote 12 = .ok (.invokevirtual 108, 3) := by decide +kernel
theorem dX0_vote_15 : decode cX0_vote 15 = .ok (.aload_n 0, 1) := by decide +kernel
theorem dX0_vote_16 : decode cX0_vote 16 = .ok (.getfield 38, 3) := by decide +kernel
theorem dX0_vote_19 : decode cX0_vote 19 = .ok (.invokevirtual 115, 3) := by decide +kernel
theorem dX0_vote_22 : decode cX0_vote 22 = .ok (.istore_n 1, 1) := by decide +kernel
theorem dX0_vote_23 : decode cX0_vote 23 = .ok (.aload_n 0, 1) := by decide +kernel
theorem dX0_vote_24 : decode cX0_vote 24 = .ok (.getfield 38, 3) := by decide +kernel
theorem dX0_vote_27 : decode cX0_vote 27 = .ok (.aload_n 0, 1) := by decide +kernel
theorem dX0_vote_28 : decode cX0_vote 28 = .ok (.getfield 25, 3) := by decide +kernel
theorem dX0_vote_31 : decode cX0_vote 31 = .ok (.invokevirtual 84, 3) := by decide +kernel
theorem dX0_vote_34 : decode cX0_vote 34 = .ok (.iconst 4, 1) := by decide +kernel
theorem dX0_vote_35 : decode cX0_vote 35 = .ok (.idiv, 1) := by decide +kernel
theorem dX0_vote_36 : decode cX0_vote 36 = .ok (.invokevirtual 122, 3) := by decide +kernel
theorem dX0_vote_39 : decode cX0_vote 39 = .ok (.pop, 1) := by decide +kernel
theorem dX0_vote_40 : decode cX0_vote 40 = .ok (.iconst 0, 1) := by decide +kernel
theorem dX0_vote_41 : decode cX0_vote 41 = .ok (.istore_n 2, 1) := by decide +kernel
theorem dX0_vote_42 : decode cX0_vote 42 = .ok (.iconst 0, 1) := by decide +kernel
theorem dX0_vote_43 : decode cX0_vote 43 = .ok (.istore_n 3, 1) := by decide +kernel
theorem dX0_vote_44 : decode cX0_vote 44 = .ok (.iload_n 3, 1) := by decide +kernel
theorem dX0_vote_45 : decode cX0_vote 45 = .ok (.aload_n 0, 1) := by decide +kernel
theorem dX0_vote_46 : decode cX0_vote 46 = .ok (.getfield 12, 3) := by decide +kernel
theorem dX0_vote_49 : decode cX0_vote 49 = .ok (.invokevirtual 84, 3) := by decide +kernel
theorem dX0_vote_52 : decode cX0_vote 52 = .ok (.if_icmp .ge 66, 3) := by decide +kernel
theorem dX0_vote_55 : decode cX0_vote 55 = .ok (.aload_n 0, 1) := by decide +kernel
theorem dX0_vote_56 : decode cX0_vote 56 = .ok (.getfield 12, 3) := by decide +kernel
theorem dX0_vote_59 : decode cX0_vote 59 = .ok (.iload_n 3, 1) := by decide +kernel
theorem dX0_vote_60 : decode cX0_vote 60 = .ok (.invokevirtual 88, 3) := by decide +kernel
theorem dX0_vote_63 : decode cX0_vote 63 = .ok (.checkcast 65, 3) := by decide +kernel
theorem dX0_vote_66 : decode cX0_vote 66 = .ok (.astore 4, 2) := by decide +kernel
theorem dX0_vote_68 : decode cX0_vote 68 = .ok (.aload_n 0, 1) := by decide +kernel
theorem dX0_vote_69 : decode cX0_vote 69 = .ok (.getfield 25, 3) := by decide +kernel
theorem dX0_vote_72 : decode cX0_vote 72 = .ok (.aload 4, 2) := by decide +kernel
theorem dX0_vote_74 : decode cX0_vote 74 = .ok (.getfield 73, 3) := by decide +kernel
theorem dX0_vote_77 : decode cX0_vote 77 = .ok (.invokestatic 111, 3) := by decide +kernel
theorem dX0_vote_80 : decode cX0_vote 80 = .ok (.istore 5, 2) := by decide +kernel
theorem dX0_vote_82 : decode cX0_vote 82 = .ok (.aload 4, 2) := by decide +kernel
theorem dX0_vote_84 : decode cX0_vote 84 = .ok (.iload 5, 2) := by decide +kernel
theorem dX0_vote_86 : decode cX0_vote 86 = .ok (.aload_n 0, 1) := by decide +kernel
theorem dX0_vote_87 : decode cX0_vote 87 = .ok (.getfield 25, 3) := by decide +kernel
theorem dX0_vote_90 : decode cX0_vote 90 = .ok (.invokevirtual 84, 3) := by decide +kernel
theorem dX0_vote_93 : decode cX0_vote 93 = .ok (.iload_n 1, 1) := by decide +kernel
theorem dX0_vote_94 : decode cX0_vote 94 = .ok (.invokevirtual 118, 3) := by decide +kernel
theorem dX0_vote_97 : decode cX0_vote 97 = .ok (.ifCond .eq 15, 3) := by decide +kernel
theorem dX0_vote_100 : decode cX0_vote 100 = .ok (.iload_n 2, 1) := by decide +kernel
theorem dX0_vote_101 : decode cX0_vote 101 = .ok (.iconst 1, 1) := by decide +kernel
theorem dX0_vote_102 : decode cX0_vote 102 = .ok (.iload_n 3, 1) := by decide +kernel
theorem dX0_vote_103 : decode cX0_vote 103 = .ok (.ishl, 1) := by decide +kernel
theorem dX0_vote_104 : decode cX0_vote 104 = .ok (.ior, 1) := by decide +kernel
theorem dX0_vote_105 : decode cX0_vote 105 = .ok (.istore_n 2, 1) := by decide +kernel
theorem dX0_vote_106 : decode cX0_vote 106 = .ok (.aload_n 0, 1) := by decide +kernel
theorem dX0_vote_107 : decode cX0_vote 107 = .ok (.aload 4, 2) := by decide +kernel
theorem dX0_vote_109 : decode cX0_vote 109 = .ok (.invokevirtual 126, 3) := by decide +kernel
theorem dX0_vote_112 : decode cX0_vote 112 = .ok (.iinc 3 1, 3) := by decide +kernel
theorem dX0_vote_115 : decode cX0_vote 115 = .ok (.goto (-71), 3) := by decide +kernel
theorem dX0_vote_118 : decode cX0_vote 118 = .ok (.aload_n 0, 1) := by decide +kernel
theorem dX0_vote_119 : decode cX0_vote 119 = .ok (.getfield 12, 3) := by decide +kernel
theorem dX0_vote_122 : decode cX0_vote 122 = .ok (.invokevirtual 76, 3) := by decide +kernel
theorem dX0_vote_125 : decode cX0_vote 125 = .ok (.iload_n 2, 1) := by decide +kernel
theorem dX0_vote_126 : decode cX0_vote 126 = .ok (.ireturn, 1) := by decide +kernel
theorem dX0_carryOut_0 : decode cX0_carryOut 0 = .ok (.aload_n 1, 1) := by decide +kernel
theorem dX0_carryOut_1 : decode cX0_carryOut 1 = .ok (.getfield 130, 3) := by decide +kernel
theorem dX0_carryOut_4 : decode cX0_carryOut 4 = .ok (.tableswitch 149 0 4 #[36, 44, 86, 109, 132], 36) := by decide +kernel
theorem dX0_carryOut_40 : decode cX0_carryOut 40 = .ok (.aload_n 0, 1) := by decide +kernel
theorem dX0_carryOut_41 : decode cX0_carryOut 41 = .ok (.aload_n 1, 1) := by decide +kernel
theorem dX0_carryOut_42 : decode cX0_carryOut 42 = .ok (.invokevirtual 133, 3) := by decide +kernel
theorem dX0_carryOut_45 : decode cX0_carryOut 45 = .ok (.goto 130, 3) := by decide +kernel
theorem dX0_carryOut_48 : decode cX0_carryOut 48 = .ok (.aload_n 0, 1) := by decide +kernel
theorem dX0_carryOut_49 : decode cX0_carryOut 49 = .ok (.getfield 42, 3) := by decide +kernel
theorem dX0_carryOut_52 : decode cX0_carryOut 52 = .ok (.iconst 1, 1) := by decide +kernel
theorem dX0_carryOut_53 : decode cX0_carryOut 53 = .ok (.aconst_null, 1) := by decide +kernel
theorem dX0_carryOut_54 : decode cX0_carryOut 54 = .ok (.aconst_null, 1) := by decide +kernel
theorem dX0_carryOut_55 : decode cX0_carryOut 55 = .ok (.invokevirtual 136, 3) := by decide +kernel
theorem dX0_carryOut_58 : decode cX0_carryOut 58 = .ok (.aload_n 0, 1) := by decide +kernel
theorem dX0_carryOut_59 : decode cX0_carryOut 59 = .ok (.getfield 42, 3) := by decide +kernel
theorem dX0_carryOut_62 : decode cX0_carryOut 62 = .ok (.aload_n 1, 1) := by decide +kernel
theorem dX0_carryOut_63 : decode cX0_carryOut 63 = .ok (.getfield 73, 3) := by decide +kernel
theorem dX0_carryOut_66 : decode cX0_carryOut 66 = .ok (.invokevirtual 142, 3) := by decide +kernel
theorem dX0_carryOut_69 : decode cX0_carryOut 69 = .ok (.ifCond .eq 106, 3) := by decide +kernel
theorem dX0_carryOut_72 : decode cX0_carryOut 72 = .ok (.aload_n 0, 1) := by decide +kernel
theorem dX0_carryOut_73 : decode cX0_carryOut 73 = .ok (.getfield 21, 3) := by decide +kernel
theorem dX0_carryOut_76 : decode cX0_carryOut 76 = .ok (.aload_n 1, 1) := by decide +kernel
theorem dX0_carryOut_77 : decode cX0_carryOut 77 = .ok (.getfield 64, 3) := by decide +kernel
theorem dX0_carryOut_80 : decode cX0_carryOut 80 = .ok (.aload_n 1, 1) := by decide +kernel
theorem dX0_carryOut_81 : decode cX0_carryOut 81 = .ok (.getfield 73, 3) := by decide +kernel
theorem dX0_carryOut_84 : decode cX0_carryOut 84 = .ok (.invokestatic 145, 3) := by decide +kernel
theorem dX0_carryOut_87 : decode cX0_carryOut 87 = .ok (.goto 88, 3) := by decide +kernel
theorem dX0_carryOut_90 : decode cX0_carryOut 90 = .ok (.aload_n 0, 1) := by decide +kernel
theorem dX0_carryOut_91 : decode cX0_carryOut 91 = .ok (.getfield 38, 3) := by decide +kernel
theorem dX0_carryOut_94 : decode cX0_carryOut 94 = .ok (.dup, 1) := by decide +kernel
theorem dX0_carryOut_95 : decode cX0_carryOut 95 = .ok (.getfield 149, 3) := by decide +kernel
theorem dX0_carryOut_98 : decode cX0_carryOut 98 = .ok (.aload_n 0, 1) := by decide +kernel
theorem dX0_carryOut_99 : decode cX0_carryOut 99 = .ok (.aload_n 1, 1) := by decide +kernel
theorem dX0_carryOut_100 : decode cX0_carryOut 100 = .ok (.getfield 152, 3) := by decide +kernel
theorem dX0_carryOut_103 : decode cX0_carryOut 103 = .ok (.invokevirtual 155, 3) := by decide +kernel
theorem dX0_carryOut_106 : decode cX0_carryOut 106 = .ok (.iadd, 1) := by decide +kernel
theorem dX0_carryOut_107 : decode cX0_carryOut 107 = .ok (.putfield 149, 3) := by decide +kernel
theorem dX0_carryOut_110 : decode cX0_carryOut 110 = .ok (.goto 65, 3) := by decide +kernel
theorem dX0_carryOut_113 : decode cX0_carryOut 113 = .ok (.aload_n 0, 1) := by decide +kernel
theorem dX0_carryOut_114 : decode cX0_carryOut 114 = .ok (.getfield 38, 3) := by decide +kernel
theorem dX0_carryOut_117 : decode cX0_carryOut 117 = .ok (.dup, 1) := by decide +kernel
theorem dX0_carryOut_118 : decode cX0_carryOut 118 = .ok (.getfield 158, 3) := by decide +kernel
theorem dX0_carryOut_121 : decode cX0_carryOut 121 = .ok (.aload_n 0, 1) := by decide +kernel
theorem dX0_carryOut_122 : decode cX0_carryOut 122 = .ok (.aload_n 1, 1) := by decide +kernel
theorem dX0_carryOut_123 : decode cX0_carryOut 123 = .ok (.getfield 152, 3) := by decide +kernel
theorem dX0_carryOut_126 : decode cX0_carryOut 126 = .ok (.invokevirtual 155, 3) := by decide +kernel
theorem dX0_carryOut_129 : decode cX0_carryOut 129 = .ok (.iadd, 1) := by decide +kernel
theorem dX0_carryOut_130 : decode cX0_carryOut 130 = .ok (.putfield 158, 3) := by decide +kernel
theorem dX0_carryOut_133 : decode cX0_carryOut 133 = .ok (.goto 42, 3) := by decide +kernel
theorem dX0_carryOut_136 : decode cX0_carryOut 136 = .ok (.aload_n 0, 1) := by decide +kernel
theorem dX0_carryOut_137 : decode cX0_carryOut 137 = .ok (.getfield 38, 3) := by decide +kernel
theorem dX0_carryOut_140 : decode cX0_carryOut 140 = .ok (.aload_n 1, 1) := by decide +kernel
theorem dX0_carryOut_141 : decode cX0_carryOut 141 = .ok (.getfield 152, 3) := by decide +kernel
theorem dX0_carryOut_144 : decode cX0_carryOut 144 = .ok (.invokevirtual 161, 3) := by decide +kernel
theorem dX0_carryOut_147 : decode cX0_carryOut 147 = .ok (.invokestatic 165, 3) := by decide +kernel
theorem dX0_carryOut_150 : decode cX0_carryOut 150 = .ok (.goto 25, 3) := by decide +kernel
theorem dX0_carryOut_153 : decode cX0_carryOut 153 = .ok (.aload_n 0, 1) := by decide +kernel
theorem dX0_carryOut_154 : decode cX0_carryOut 154 = .ok (.getfield 38, 3) := by decide +kernel
theorem dX0_carryOut_157 : decode cX0_carryOut 157 = .ok (.getfield 169, 3) := by decide +kernel
theorem dX0_carryOut_160 : decode cX0_carryOut 160 = .ok (.iconst (-1), 1) := by decide +kernel
theorem dX0_carryOut_161 : decode cX0_carryOut 161 = .ok (.if_icmp .ne 14, 3) := by decide +kernel
theorem dX0_carryOut_164 : decode cX0_carryOut 164 = .ok (.aload_n 0, 1) := by decide +kernel
theorem dX0_carryOut_165 : decode cX0_carryOut 165 = .ok (.getfield 38, 3) := by decide +kernel
theorem dX0_carryOut_168 : decode cX0_carryOut 168 = .ok (.aload_n 1, 1) := by decide +kernel
theorem dX0_carryOut_169 : decode cX0_carryOut 169 = .ok (.getfield 152, 3) := by decide +kernel
theorem dX0_carryOut_172 : decode cX0_carryOut 172 = .ok (.putfield 169, 3) := by decide +kernel
theorem dX0_carryOut_175 : decode cX0_carryOut 175 = .ok (.return_, 1) := by decide +kernel
theorem dX0_keepDecree_0 : decode cX0_keepDecree 0 = .ok (.aload_n 1, 1) := by decide +kernel
theorem dX0_keepDecree_1 : decode cX0_keepDecree 1 = .ok (.aload_n 0, 1) := by decide +kernel
theorem dX0_keepDecree_2 : decode cX0_keepDecree 2 = .ok (.getfield 38, 3) := by decide +kernel
theorem dX0_keepDecree_5 : decode cX0_keepDecree 5 = .ok (.getfield 101, 3) := by decide +kernel
theorem dX0_keepDecree_8 : decode cX0_keepDecree 8 = .ok (.putfield 172, 3) := by decide +kernel
theorem dX0_keepDecree_11 : decode cX0_keepDecree 11 = .ok (.aload_n 1, 1) := by decide +kernel
theorem dX0_keepDecree_12 : decode cX0_keepDecree 12 = .ok (.iconst 1, 1) := by decide +kernel
theorem dX0_keepDecree_13 : decode cX0_keepDecree 13 = .ok (.putfield 173, 3) := by decide +kernel
theorem dX0_keepDecree_16 : decode cX0_keepDecree 16 = .ok (.aload_n 0, 1) := by decide +kernel
theorem dX0_keepDecree_17 : decode cX0_keepDecree 17 = .ok (.getfield 18, 3) := by decide +kernel
theorem dX0_keepDecree_20 : decode cX0_keepDecree 20 = .ok (.aload_n 1, 1) := by decide +kernel
theorem dX0_keepDecree_21 : decode cX0_keepDecree 21 = .ok (.invokevirtual 104, 3) := by decide +kernel
theorem dX0_keepDecree_24 : decode cX0_keepDecree 24 = .ok (.pop, 1) := by decide +kernel
theorem dX0_keepDecree_25 : decode cX0_keepDecree 25 = .ok (.aload_n 0, 1) := by decide +kernel
theorem dX0_keepDecree_26 : decode cX0_keepDecree 26 = .ok (.getfield 18, 3) := by decide +kernel
theorem dX0_keepDecree_29 : decode cX0_keepDecree 29 = .ok (.invokevirtual 84, 3) := by decide +kernel
theorem dX0_keepDecree_32 : decode cX0_keepDecree 32 = .ok (.bipush 12, 2) := by decide +kernel
theorem dX0_keepDecree_34 : decode cX0_keepDecree 34 = .ok (.if_icmp .le 18, 3) := by decide +kernel
theorem dX0_keepDecree_37 : decode cX0_keepDecree 37 = .ok (.aload_n 0, 1) := by decide +kernel
theorem dX0_keepDecree_38 : decode cX0_keepDecree 38 = .ok (.getfield 18, 3) := by decide +kernel
theorem dX0_keepDecree_41 : decode cX0_keepDecree 41 = .ok (.iconst 0, 1) := by decide +kernel
theorem dX0_keepDecree_42 : decode cX0_keepDecree 42 = .ok (.invokevirtual 177, 3) := by decide +kernel
theorem dX0_keepDecree_45 : decode cX0_keepDecree 45 = .ok (.checkcast 65, 3) := by decide +kernel
theorem dX0_keepDecree_48 : decode cX0_keepDecree 48 = .ok (.iconst 0, 1) := by decide +kernel
theorem dX0_keepDecree_49 : decode cX0_keepDecree 49 = .ok (.putfield 173, 3) := by decide +kernel
theorem dX0_keepDecree_52 : decode cX0_keepDecree 52 = .ok (.return_, 1) := by decide +kernel
theorem dX0_spend_0 : decode cX0_spend 0 = .ok (.aload_n 0, 1) := by decide +kernel
theorem dX0_spend_1 : decode cX0_spend 1 = .ok (.getfield 38, 3) := by decide +kernel
theorem dX0_spend_4 : decode cX0_spend 4 = .ok (.getfield 180, 3) := by decide +kernel
theorem dX0_spend_7 : decode cX0_spend 7 = .ok (.iload_n 1, 1) := by decide +kernel
theorem dX0_spend_8 : decode cX0_spend 8 = .ok (.if_icmp .ge 5, 3) := by decide +kernel
theorem dX0_spend_11 : decode cX0_spend 11 = .ok (.iconst 0, 1) := by decide +kernel
theorem dX0_spend_12 : decode cX0_spend 12 = .ok (.ireturn, 1) := by decide +kernel
theorem dX0_spend_13 : decode cX0_spend 13 = .ok (.aload_n 0, 1) := by decide +kernel
theorem dX0_spend_14 : decode cX0_spend 14 = .ok (.getfield 38, 3) := by decide +kernel
theorem dX0_spend_17 : decode cX0_spend 17 = .ok (.iload_n 1, 1) := by decide +kernel
theorem dX0_spend_18 : decode cX0_spend 18 = .ok (.invokevirtual 122, 3) := by decide +kernel
theorem dX0_spend_21 : decode cX0_spend 21 = .ok (.pop, 1) := by decide +kernel
theorem dX0_spend_22 : decode cX0_spend 22 = .ok (.iload_n 1, 1) := by decide +kernel
theorem dX0_spend_23 : decode cX0_spend 23 = .ok (.ireturn, 1) := by decide +kernel
theorem dX0_callBack_0 : decode cX0_callBack 0 = .ok (.aload_n 0, 1) := by decide +kernel
theorem dX0_callBack_1 : decode cX0_callBack 1 = .ok (.ifnull 16, 3) := by decide +kernel
theorem dX0_callBack_4 : decode cX0_callBack 4 = .ok (.aload_n 0, 1) := by decide +kernel
theorem dX0_callBack_5 : decode cX0_callBack 5 = .ok (.getfield 183, 3) := by decide +kernel
theorem dX0_callBack_8 : decode cX0_callBack 8 = .ok (.iconst 3, 1) := by decide +kernel
theorem dX0_callBack_9 : decode cX0_callBack 9 = .ok (.if_icmp .ne 8, 3) := by decide +kernel
theorem dX0_callBack_12 : decode cX0_callBack 12 = .ok (.aload_n 0, 1) := by decide +kernel
theorem dX0_callBack_13 : decode cX0_callBack 13 = .ok (.iconst 1, 1) := by decide +kernel
theorem dX0_callBack_14 : decode cX0_callBack 14 = .ok (.putfield 183, 3) := by decide +kernel
theorem dX0_callBack_17 : decode cX0_callBack 17 = .ok (.return_, 1) := by decide +kernel
theorem dX0_isHolding_0 : decode cX0_isHolding 0 = .ok (.iload_n 1, 1) := by decide +kernel
theorem dX0_isHolding_1 : decode cX0_isHolding 1 = .ok (.iconst 0, 1) := by decide +kernel
theorem dX0_isHolding_2 : decode cX0_isHolding 2 = .ok (.aload_n 0, 1) := by decide +kernel
theorem dX0_isHolding_3 : decode cX0_isHolding 3 = .ok (.getfield 18, 3) := by decide +kernel
theorem dX0_isHolding_6 : decode cX0_isHolding 6 = .ok (.invokevirtual 84, 3) := by decide +kernel
theorem dX0_isHolding_9 : decode cX0_isHolding 9 = .ok (.iconst 1, 1) := by decide +kernel
theorem dX0_isHolding_10 : decode cX0_isHolding 10 = .ok (.isub, 1) := by decide +kernel
theorem dX0_isHolding_11 : decode cX0_isHolding 11 = .ok (.invokestatic 186, 3) := by decide +kernel
theorem dX0_isHolding_14 : decode cX0_isHolding 14 = .ok (.ifCond .eq 21, 3) := by decide +kernel
theorem dX0_isHolding_17 : decode cX0_isHolding 17 = .ok (.aload_n 0, 1) := by decide +kernel
theorem dX0_isHolding_18 : decode cX0_isHolding 18 = .ok (.aload_n 0, 1) := by decide +kernel
theorem dX0_isHolding_19 : decode cX0_isHolding 19 = .ok (.getfield 18, 3) := by decide +kernel
theorem dX0_isHolding_22 : decode cX0_isHolding 22 = .ok (.iload_n 1, 1) := by decide +kernel
theorem dX0_isHolding_23 : decode cX0_isHolding 23 = .ok (.invokevirtual 88, 3) := by decide +kernel
theorem dX0_isHolding_26 : decode cX0_isHolding 26 = .ok (.checkcast 65, 3) := by decide +kernel
theorem dX0_isHolding_29 : decode cX0_isHolding 29 = .ok (.invokevirtual 189, 3) := by decide +kernel
theorem dX0_isHolding_32 : decode cX0_isHolding 32 = .ok (.ifCond .ne 5, 3) := by decide +kernel
theorem dX0_isHolding_35 : decode cX0_isHolding 35 = .ok (.iconst 0, 1) := by decide +kernel
theorem dX0_isHolding_36 : decode cX0_isHolding 36 = .ok (.ireturn, 1) := by decide +kernel
theorem dX0_isHolding_37 : decode cX0_isHolding 37 = .ok (.aload_n 0, 1) := by decide +kernel
theorem dX0_isHolding_38 : decode cX0_isHolding 38 = .ok (.getfield 18, 3) := by decide +kernel
theorem dX0_isHolding_41 : decode cX0_isHolding 41 = .ok (.iload_n 1, 1) := by decide +kernel
theorem dX0_isHolding_42 : decode cX0_isHolding 42 = .ok (.invokevirtual 88, 3) := by decide +kernel
theorem dX0_isHolding_45 : decode cX0_isHolding 45 = .ok (.checkcast 65, 3) := by decide +kernel
theorem dX0_isHolding_48 : decode cX0_isHolding 48 = .ok (.getfield 64, 3) := by decide +kernel
theorem dX0_isHolding_51 : decode cX0_isHolding 51 = .ok (.istore_n 2, 1) := by decide +kernel
theorem dX0_isHolding_52 : decode cX0_isHolding 52 = .ok (.iload_n 1, 1) := by decide +kernel
theorem dX0_isHolding_53 : decode cX0_isHolding 53 = .ok (.iconst 1, 1) := by decide +kernel
theorem dX0_isHolding_54 : decode cX0_isHolding 54 = .ok (.iadd, 1) := by decide +kernel
theorem dX0_isHolding_55 : decode cX0_isHolding 55 = .ok (.istore_n 3, 1) := by decide +kernel
theorem dX0_isHolding_56 : decode cX0_isHolding 56 = .ok (.iload_n 3, 1) := by decide +kernel
theorem dX0_isHolding_57 : decode cX0_isHolding 57 = .ok (.aload_n 0, 1) := by decide +kernel
theorem dX0_isHolding_58 : decode cX0_isHolding 58 = .ok (.getfield 18, 3) := by decide +kernel
theorem dX0_isHolding_61 : decode cX0_isHolding 61 = .ok (.invokevirtual 84, 3) := by decide +kernel
theorem dX0_isHolding_64 : decode cX0_isHolding 64 = .ok (.if_icmp .ge 42, 3) := by decide +kernel
theorem dX0_isHolding_67 : decode cX0_isHolding 67 = .ok (.aload_n 0, 1) := by decide +kernel
theorem dX0_isHolding_68 : decode cX0_isHolding 68 = .ok (.getfield 18, 3) := by decide +kernel
theorem dX0_isHolding_71 : decode cX0_isHolding 71 = .ok (.iload_n 3, 1) := by decide +kernel
theorem dX0_isHolding_72 : decode cX0_isHolding 72 = .ok (.invokevirtual 88, 3) := by decide +kernel
theorem dX0_isHolding_75 : decode cX0_isHolding 75 = .ok (.checkcast 65, 3) := by decide +kernel
theorem dX0_isHolding_78 : decode cX0_isHolding 78 = .ok (.astore 4, 2) := by decide +kernel
theorem dX0_isHolding_80 : decode cX0_isHolding 80 = .ok (.aload 4, 2) := by decide +kernel
theorem dX0_isHolding_82 : decode cX0_isHolding 82 = .ok (.getfield 64, 3) := by decide +kernel
theorem dX0_isHolding_85 : decode cX0_isHolding 85 = .ok (.iload_n 2, 1) := by decide +kernel
theorem dX0_isHolding_86 : decode cX0_isHolding 86 = .ok (.if_icmp .ne 14, 3) := by decide +kernel
theorem dX0_isHolding_89 : decode cX0_isHolding 89 = .ok (.aload_n 0, 1) := by decide +kernel
theorem dX0_isHolding_90 : decode cX0_isHolding 90 = .ok (.aload 4, 2) := by decide +kernel
theorem dX0_isHolding_92 : decode cX0_isHolding 92 = .ok (.invokevirtual 189, 3) := by decide +kernel
theorem dX0_isHolding_95 : decode cX0_isHolding 95 = .ok (.ifCond .eq 5, 3) := by decide +kernel
theorem dX0_isHolding_98 : decode cX0_isHolding 98 = .ok (.iconst 0, 1) := by decide +kernel
theorem dX0_isHolding_99 : decode cX0_isHolding 99 = .ok (.ireturn, 1) := by decide +kernel
theorem dX0_isHolding_100 : decode cX0_isHolding 100 = .ok (.iinc 3 1, 3) := by decide +kernel
theorem dX0_isHolding_103 : decode cX0_isHolding 103 = .ok (.goto (-47), 3) := by decide +kernel
theorem dX0_isHolding_106 : decode cX0_isHolding 106 = .ok (.iconst 1, 1) := by decide +kernel
theorem dX0_isHolding_107 : decode cX0_isHolding 107 = .ok (.ireturn, 1) := by decide +kernel
theorem dX0_isValid_0 : decode cX0_isValid 0 = .ok (.aload_n 1, 1) := by decide +kernel
theorem dX0_isValid_1 : decode cX0_isValid 1 = .ok (.getfield 193, 3) := by decide +kernel
theorem dX0_isValid_4 : decode cX0_isValid 4 = .ok (.ifCond .ne 36, 3) := by decide +kernel
theorem dX0_isValid_7 : decode cX0_isValid 7 = .ok (.aload_n 0, 1) := by decide +kernel
theorem dX0_isValid_8 : decode cX0_isValid 8 = .ok (.getfield 42, 3) := by decide +kernel
theorem dX0_isValid_11 : decode cX0_isValid 11 = .ok (.aload_n 1, 1) := by decide +kernel
theorem dX0_isValid_12 : decode cX0_isValid 12 = .ok (.invokevirtual 196, 3) := by decide +kernel
theorem dX0_isValid_15 : decode cX0_isValid 15 = .ok (.ifCond .ne 25, 3) := by decide +kernel
theorem dX0_isValid_18 : decode cX0_isValid 18 = .ok (.aload_n 0, 1) := by decide +kernel
theorem dX0_isValid_19 : decode cX0_isValid 19 = .ok (.aload_n 1, 1) := by decide +kernel
theorem dX0_isValid_20 : decode cX0_isValid 20 = .ok (.getfield 64, 3) := by decide +kernel
theorem dX0_isValid_23 : decode cX0_isValid 23 = .ok (.invokevirtual 69, 3) := by decide +kernel
theorem dX0_isValid_26 : decode cX0_isValid 26 = .ok (.aload_n 1, 1) := by decide +kernel
theorem dX0_isValid_27 : decode cX0_isValid 27 = .ok (.getfield 73, 3) := by decide +kernel
theorem dX0_isValid_30 : decode cX0_isValid 30 = .ok (.invokestatic 56, 3) := by decide +kernel
theorem dX0_isValid_33 : decode cX0_isValid 33 = .ok (.ifCond .ne 7, 3) := by decide +kernel
theorem dX0_isValid_36 : decode cX0_isValid 36 = .ok (.iconst 1, 1) := by decide +kernel
theorem dX0_isValid_37 : decode cX0_isValid 37 = .ok (.goto 4, 3) := by decide +kernel
theorem dX0_isValid_40 : decode cX0_isValid 40 = .ok (.iconst 0, 1) := by decide +kernel
theorem dX0_isValid_41 : decode cX0_isValid 41 = .ok (.ireturn, 1) := by decide +kernel
theorem dX0_areDecreesSound_0 : decode cX0_areDecreesSound 0 = .ok (.iconst 0, 1) := by decide +kernel
theorem dX0_areDecreesSound_1 : decode cX0_areDecreesSound 1 = .ok (.istore_n 1, 1) := by decide +kernel
theorem dX0_areDecreesSound_2 : decode cX0_areDecreesSound 2 = .ok (.iload_n 1, 1) := by decide +kernel
theorem dX0_areDecreesSound_3 : decode cX0_areDecreesSound 3 = .ok (.bipush 8, 2) := by decide +kernel
theorem dX0_areDecreesSound_5 : decode cX0_areDecreesSound 5 = .ok (.if_icmp .ge 89, 3) := by decide +kernel
theorem dX0_areDecreesSound_8 : decode cX0_areDecreesSound 8 = .ok (.iconst 0, 1) := by decide +kernel
theorem dX0_areDecreesSound_9 : decode cX0_areDecreesSound 9 = .ok (.istore_n 2, 1) := by decide +kernel
theorem dX0_areDecreesSound_10 : decode cX0_areDecreesSound 10 = .ok (.iconst 0, 1) := by decide +kernel
theorem dX0_areDecreesSound_11 : decode cX0_areDecreesSound 11 = .ok (.istore_n 3, 1) := by decide +kernel
theorem dX0_areDecreesSound_12 : decode cX0_areDecreesSound 12 = .ok (.iload_n 3, 1) := by decide +kernel
theorem dX0_areDecreesSound_13 : decode cX0_areDecreesSound 13 = .ok (.aload_n 0, 1) := by decide +kernel
theorem dX0_areDecreesSound_14 : decode cX0_areDecreesSound 14 = .ok (.getfield 18, 3) := by decide +kernel
theorem dX0_areDecreesSound_17 : decode cX0_areDecreesSound 17 = .ok (.invokevirtual 84, 3) := by decide +kernel
theorem dX0_areDecreesSound_20 : decode cX0_areDecreesSound 20 = .ok (.if_icmp .ge 61, 3) := by decide +kernel
theorem dX0_areDecreesSound_23 : decode cX0_areDecreesSound 23 = .ok (.aload_n 0, 1) := by decide +kernel
theorem dX0_areDecreesSound_24 : decode cX0_areDecreesSound 24 = .ok (.getfield 18, 3) := by decide +kernel
theorem dX0_areDecreesSound_27 : decode cX0_areDecreesSound 27 = .ok (.iload_n 3, 1) := by decide +kernel
theorem dX0_areDecreesSound_28 : decode cX0_areDecreesSound 28 = .ok (.invokevirtual 88, 3) := by decide +kernel
theorem dX0_areDecreesSound_31 : decode cX0_areDecreesSound 31 = .ok (.checkcast 65, 3) := by decide +kernel
theorem dX0_areDecreesSound_34 : decode cX0_areDecreesSound 34 = .ok (.astore 4, 2) := by decide +kernel
theorem dX0_areDecreesSound_36 : decode cX0_areDecreesSound 36 = .ok (.aload 4, 2) := by decide +kernel
theorem dX0_areDecreesSound_38 : decode cX0_areDecreesSound 38 = .ok (.getfield 64, 3) := by decide +kernel
theorem dX0_areDecreesSound_41 : decode cX0_areDecreesSound 41 = .ok (.iload_n 1, 1) := by decide +kernel
theorem dX0_areDecreesSound_42 : decode cX0_areDecreesSound 42 = .ok (.if_icmp .ne 33, 3) := by decide +kernel
theorem dX0_areDecreesSound_45 : decode cX0_areDecreesSound 45 = .ok (.aload_n 0, 1) := by decide +kernel
theorem dX0_areDecreesSound_46 : decode cX0_areDecreesSound 46 = .ok (.iload_n 3, 1) := by decide +kernel
theorem dX0_areDecreesSound_47 : decode cX0_areDecreesSound 47 = .ok (.invokevirtual 199, 3) := by decide +kernel
theorem dX0_areDecreesSound_50 : decode cX0_areDecreesSound 50 = .ok (.ifCond .eq 25, 3) := by decide +kernel
theorem dX0_areDecreesSound_53 : decode cX0_areDecreesSound 53 = .ok (.iinc 2 1, 3) := by decide +kernel
theorem dX0_areDecreesSound_56 : decode cX0_areDecreesSound 56 = .ok (.aload_n 0, 1) := by decide +kernel
theorem dX0_areDecreesSound_57 : decode cX0_areDecreesSound 57 = .ok (.getfield 21, 3) := by decide +kernel
theorem dX0_areDecreesSound_60 : decode cX0_areDecreesSound 60 = .ok (.iload_n 1, 1) := by decide +kernel
theorem dX0_areDecreesSound_61 : decode cX0_areDecreesSound 61 = .ok (.iaload, 1) := by decide +kernel
theorem dX0_areDecreesSound_62 : decode cX0_areDecreesSound 62 = .ok (.aload 4, 2) := by decide +kernel
theorem dX0_areDecreesSound_64 : decode cX0_areDecreesSound 64 = .ok (.getfield 73, 3) := by decide +kernel
theorem dX0_areDecreesSound_67 : decode cX0_areDecreesSound 67 = .ok (.invokestatic 56, 3) := by decide +kernel
theorem dX0_areDecreesSound_70 : decode cX0_areDecreesSound 70 = .ok (.ifCond .eq 5, 3) := by decide +kernel
theorem dX0_areDecreesSound_73 : decode cX0_areDecreesSound 73 = .ok (.iconst 0, 1) := by decide +kernel
theorem dX0_areDecreesSound_74 : decode cX0_areDecreesSound 74 = .ok (.ireturn, 1) := by decide +kernel
theorem dX0_areDecreesSound_75 : decode cX0_areDecreesSound 75 = .ok (.iinc 3 1, 3) := by decide +kernel
theorem dX0_areDecreesSound_78 : decode cX0_areDecreesSound 78 = .ok (.goto (-66), 3) := by decide +kernel
theorem dX0_areDecreesSound_81 : decode cX0_areDecreesSound 81 = .ok (.iload_n 2, 1) := by decide +kernel
theorem dX0_areDecreesSound_82 : decode cX0_areDecreesSound 82 = .ok (.iconst 1, 1) := by decide +kernel
theorem dX0_areDecreesSound_83 : decode cX0_areDecreesSound 83 = .ok (.if_icmp .le 5, 3) := by decide +kernel
theorem dX0_areDecreesSound_86 : decode cX0_areDecreesSound 86 = .ok (.iconst 0, 1) := by decide +kernel
theorem dX0_areDecreesSound_87 : decode cX0_areDecreesSound 87 = .ok (.ireturn, 1) := by decide +kernel
theorem dX0_areDecreesSound_88 : decode cX0_areDecreesSound 88 = .ok (.iinc 1 1, 3) := by decide +kernel
theorem dX0_areDecreesSound_91 : decode cX0_areDecreesSound 91 = .ok (.goto (-89), 3) := by decide +kernel
theorem dX0_areDecreesSound_94 : decode cX0_areDecreesSound 94 = .ok (.iconst 1, 1) := by decide +kernel
theorem dX0_areDecreesSound_95 : decode cX0_areDecreesSound 95 = .ok (.ireturn, 1) := by decide +kernel
theorem dX0_writeSherds_0 : decode cX0_writeSherds 0 = .ok (.aload_n 0, 1) := by decide +kernel
theorem dX0_writeSherds_1 : decode cX0_writeSherds 1 = .ok (.aload_n 0, 1) := by decide +kernel
theorem dX0_writeSherds_2 : decode cX0_writeSherds 2 = .ok (.getfield 38, 3) := by decide +kernel
theorem dX0_writeSherds_5 : decode cX0_writeSherds 5 = .ok (.invokevirtual 202, 3) := by decide +kernel
theorem dX0_writeSherds_8 : decode cX0_writeSherds 8 = .ok (.putfield 35, 3) := by decide +kernel
theorem dX0_writeSherds_11 : decode cX0_writeSherds 11 = .ok (.aload_n 0, 1) := by decide +kernel
theorem dX0_writeSherds_12 : decode cX0_writeSherds 12 = .ok (.invokevirtual 108, 3) := by decide +kernel
theorem dX0_writeSherds_15 : decode cX0_writeSherds 15 = .ok (.aload_n 0, 1) := by decide +kernel
theorem dX0_writeSherds_16 : decode cX0_writeSherds 16 = .ok (.getfield 25, 3) := by decide +kernel
theorem dX0_writeSherds_19 : decode cX0_writeSherds 19 = .ok (.invokevirtual 84, 3) := by decide +kernel
theorem dX0_writeSherds_22 : decode cX0_writeSherds 22 = .ok (.istore_n 1, 1) := by decide +kernel
theorem dX0_writeSherds_23 : decode cX0_writeSherds 23 = .ok (.iload_n 1, 1) := by decide +kernel
theorem dX0_writeSherds_24 : decode cX0_writeSherds 24 = .ok (.bipush 6, 2) := by decide +kernel
theorem dX0_writeSherds_26 : decode cX0_writeSherds 26 = .ok (.if_icmp .lt 16, 3) := by decide +kernel
theorem dX0_writeSherds_29 : decode cX0_writeSherds 29 = .ok (.iconst 3, 1) := by decide +kernel
theorem dX0_writeSherds_30 : decode cX0_writeSherds 30 = .ok (.iload_n 1, 1) := by decide +kernel
theorem dX0_writeSherds_31 : decode cX0_writeSherds 31 = .ok (.imul, 1) := by decide +kernel
theorem dX0_writeSherds_32 : decode cX0_writeSherds 32 = .ok (.aload_n 0, 1) := by decide +kernel
theorem dX0_writeSherds_33 : decode cX0_writeSherds 33 = .ok (.getfield 38, 3) := by decide +kernel
theorem dX0_writeSherds_36 : decode cX0_writeSherds 36 = .ok (.invokevirtual 115, 3) := by decide +kernel
theorem dX0_writeSherds_39 : decode cX0_writeSherds 39 = .ok (.if_icmp .gt 5, 3) := by decide +kernel
theorem dX0_writeSherds_42 : decode cX0_writeSherds 42 = .ok (.aconst_null, 1) := by decide +kernel
theorem dX0_writeSherds_43 : decode cX0_writeSherds 43 = .ok (.areturn, 1) := by decide +kernel
theorem dX0_writeSherds_44 : decode cX0_writeSherds 44 = .ok (.aload_n 0, 1) := by decide +kernel
theorem dX0_writeSherds_45 : decode cX0_writeSherds 45 = .ok (.getfield 28, 3) := by decide +kernel
theorem dX0_writeSherds_48 : decode cX0_writeSherds 48 = .ok (.iconst 0, 1) := by decide +kernel
theorem dX0_writeSherds_49 : decode cX0_writeSherds 49 = .ok (.invokestatic 46, 3) := by decide +kernel
theorem dX0_writeSherds_52 : decode cX0_writeSherds 52 = .ok (.iconst 0, 1) := by decide +kernel
theorem dX0_writeSherds_53 : decode cX0_writeSherds 53 = .ok (.istore_n 2, 1) := by decide +kernel
theorem dX0_writeSherds_54 : decode cX0_writeSherds 54 = .ok (.iload_n 2, 1) := by decide +kernel
theorem dX0_writeSherds_55 : decode cX0_writeSherds 55 = .ok (.iload_n 1, 1) := by decide +kernel
theorem dX0_writeSherds_56 : decode cX0_writeSherds 56 = .ok (.if_icmp .ge 41, 3) := by decide +kernel
theorem dX0_writeSherds_59 : decode cX0_writeSherds 59 = .ok (.aload_n 0, 1) := by decide +kernel
theorem dX0_writeSherds_60 : decode cX0_writeSherds 60 = .ok (.aload_n 0, 1) := by decide +kernel
theorem dX0_writeSherds_61 : decode cX0_writeSherds 61 = .ok (.getfield 25, 3) := by decide +kernel
theorem dX0_writeSherds_64 : decode cX0_writeSherds 64 = .ok (.iload_n 2, 1) := by decide +kernel
theorem dX0_writeSherds_65 : decode cX0_writeSherds 65 = .ok (.invokevirtual 88, 3) := by decide +kernel
theorem dX0_writeSherds_68 : decode cX0_writeSherds 68 = .ok (.checkcast 92, 3) := by decide +kernel
theorem dX0_writeSherds_71 : decode cX0_writeSherds 71 = .ok (.invokevirtual 205, 3) := by decide +kernel
theorem dX0_writeSherds_74 : decode cX0_writeSherds 74 = .ok (.astore_n 3, 1) := by decide +kernel
theorem dX0_writeSherds_75 : decode cX0_writeSherds 75 = .ok (.aload_n 3, 1) := by decide +kernel
theorem dX0_writeSherds_76 : decode cX0_writeSherds 76 = .ok (.ifnull 15, 3) := by decide +kernel
theorem dX0_writeSherds_79 : decode cX0_writeSherds 79 = .ok (.aload_n 0, 1) := by decide +kernel
theorem dX0_writeSherds_80 : decode cX0_writeSherds 80 = .ok (.getfield 28, 3) := by decide +kernel
theorem dX0_writeSherds_83 : decode cX0_writeSherds 83 = .ok (.aload_n 3, 1) := by decide +kernel
theorem dX0_writeSherds_84 : decode cX0_writeSherds 84 = .ok (.getfield 98, 3) := by decide +kernel
theorem dX0_writeSherds_87 : decode cX0_writeSherds 87 = .ok (.iconst 1, 1) := by decide +kernel
theorem dX0_writeSherds_88 : decode cX0_writeSherds 88 = .ok (.invokestatic 209, 3) := by decide +kernel
theorem dX0_writeSherds_91 : decode cX0_writeSherds 91 = .ok (.iinc 2 1, 3) := by decide +kernel
theorem dX0_writeSherds_94 : decode cX0_writeSherds 94 = .ok (.goto (-40), 3) := by decide +kernel
theorem dX0_writeSherds_97 : decode cX0_writeSherds 97 = .ok (.aload_n 0, 1) := by decide +kernel
theorem dX0_writeSherds_98 : decode cX0_writeSherds 98 = .ok (.getfield 28, 3) := by decide +kernel
theorem dX0_writeSherds_101 : decode cX0_writeSherds 101 = .ok (.invokestatic 212, 3) := by decide +kernel
theorem dX0_writeSherds_104 : decode cX0_writeSherds 104 = .ok (.istore_n 2, 1) := by decide +kernel
theorem dX0_writeSherds_105 : decode cX0_writeSherds 105 = .ok (.aload_n 0, 1) := by decide +kernel
theorem dX0_writeSherds_106 : decode cX0_writeSherds 106 = .ok (.getfield 38, 3) := by decide +kernel
theorem dX0_writeSherds_109 : decode cX0_writeSherds 109 = .ok (.iload_n 2, 1) := by decide +kernel
theorem dX0_writeSherds_110 : decode cX0_writeSherds 110 = .ok (.invokevirtual 161, 3) := by decide +kernel
theorem dX0_writeSherds_113 : decode cX0_writeSherds 113 = .ok (.astore_n 3, 1) := by decide +kernel
theorem dX0_writeSherds_114 : decode cX0_writeSherds 114 = .ok (.aload_n 3, 1) := by decide +kernel
theorem dX0_writeSherds_115 : decode cX0_writeSherds 115 = .ok (.ifnull 17, 3) := by decide +kernel
theorem dX0_writeSherds_118 : decode cX0_writeSherds 118 = .ok (.iconst 3, 1) := by decide +kernel
theorem dX0_writeSherds_119 : decode cX0_writeSherds 119 = .ok (.aload_n 0, 1) := by decide +kernel
theorem dX0_writeSherds_120 : decode cX0_writeSherds 120 = .ok (.getfield 28, 3) := by decide +kernel
theorem dX0_writeSherds_123 : decode cX0_writeSherds 123 = .ok (.iload_n 2, 1) := by decide +kernel
theorem dX0_writeSherds_124 : decode cX0_writeSherds 124 = .ok (.invokestatic 52, 3) := by decide +kernel
theorem dX0_writeSherds_127 : decode cX0_writeSherds 127 = .ok (.imul, 1) := by decide +kernel
theorem dX0_writeSherds_128 : decode cX0_writeSherds 128 = .ok (.iload_n 1, 1) := by decide +kernel
theorem dX0_writeSherds_129 : decode cX0_writeSherds 129 = .ok (.if_icmp .ge 5, 3) := by decide +kernel
theorem dX0_writeSherds_132 : decode cX0_writeSherds 132 = .ok (.aconst_null, 1) := by decide +kernel
theorem dX0_writeSherds_133 : decode cX0_writeSherds 133 = .ok (.areturn, 1) := by decide +kernel
theorem dX0_writeSherds_134 : decode cX0_writeSherds 134 = .ok (.aload_n 0, 1) := by decide +kernel
theorem dX0_writeSherds_135 : decode cX0_writeSherds 135 = .ok (.getfield 38, 3) := by decide +kernel
theorem dX0_writeSherds_138 : decode cX0_writeSherds 138 = .ok (.aload_n 3, 1) := by decide +kernel
theorem dX0_writeSherds_139 : decode cX0_writeSherds 139 = .ok (.iconst 3, 1) := by decide +kernel
theorem dX0_writeSherds_140 : decode cX0_writeSherds 140 = .ok (.invokevirtual 216, 3) := by decide +kernel
theorem dX0_writeSherds_143 : decode cX0_writeSherds 143 = .ok (.aload_n 0, 1) := by decide +kernel
theorem dX0_writeSherds_144 : decode cX0_writeSherds 144 = .ok (.getfield 38, 3) := by decide +kernel
theorem dX0_writeSherds_147 : decode cX0_writeSherds 147 = .ok (.dup, 1) := by decide +kernel
theorem dX0_writeSherds_148 : decode cX0_writeSherds 148 = .ok (.getfield 220, 3) := by decide +kernel
theorem dX0_writeSherds_151 : decode cX0_writeSherds 151 = .ok (.iconst 1, 1) := by decide +kernel
theorem dX0_writeSherds_152 : decode cX0_writeSherds 152 = .ok (.iadd, 1) := by decide +kernel
theorem dX0_writeSherds_153 : decode cX0_writeSherds 153 = .ok (.putfield 220, 3) := by decide +kernel
theorem dX0_writeSherds_156 : decode cX0_writeSherds 156 = .ok (.aload_n 3, 1) := by decide +kernel
theorem dX0_writeSherds_157 : decode cX0_writeSherds 157 = .ok (.areturn, 1) := by decide +kernel
theorem dX0_mostForeignTo_0 : decode cX0_mostForeignTo 0 = .ok (.aconst_null, 1) := by decide +kernel
theorem dX0_mostForeignTo_1 : decode cX0_mostForeignTo 1 = .ok (.astore_n 2, 1) := by decide +kernel
theorem dX0_mostForeignTo_2 : decode cX0_mostForeignTo 2 = .ok (.iconst 0, 1) := by decide +kernel
theorem dX0_mostForeignTo_3 : decode cX0_mostForeignTo 3 = .ok (.istore_n 3, 1) := by decide +kernel
theorem dX0_mostForeignTo_4 : decode cX0_mostForeignTo 4 = .ok (.iload_n 3, 1) := by decide +kernel
theorem dX0_mostForeignTo_5 : decode cX0_mostForeignTo 5 = .ok (.aload_n 0, 1) := by decide +kernel
theorem dX0_mostForeignTo_6 : decode cX0_mostForeignTo 6 = .ok (.getfield 38, 3) := by decide +kernel
theorem dX0_mostForeignTo_9 : decode cX0_mostForeignTo 9 = .ok (.getfield 79, 3) := by decide +kernel
theorem dX0_mostForeignTo_12 : decode cX0_mostForeignTo 12 = .ok (.invokevirtual 84, 3) := by decide +kernel
theorem dX0_mostForeignTo_15 : decode cX0_mostForeignTo 15 = .ok (.if_icmp .ge 56, 3) := by decide +kernel
theorem dX0_mostForeignTo_18 : decode cX0_mostForeignTo 18 = .ok (.aload_n 0, 1) := by decide +kernel
theorem dX0_mostForeignTo_19 : decode cX0_mostForeignTo 19 = .ok (.getfield 38, 3) := by decide +kernel
theorem dX0_mostForeignTo_22 : decode cX0_mostForeignTo 22 = .ok (.getfield 79, 3) := by decide +kernel
theorem dX0_mostForeignTo_25 : decode cX0_mostForeignTo 25 = .ok (.iload_n 3, 1) := by decide +kernel
theorem dX0_mostForeignTo_26 : decode cX0_mostForeignTo 26 = .ok (.invokevirtual 88, 3) := by decide +kernel
theorem dX0_mostForeignTo_29 : decode cX0_mostForeignTo 29 = .ok (.checkcast 92, 3) := by decide +kernel
theorem dX0_mostForeignTo_32 : decode cX0_mostForeignTo 32 = .ok (.astore 4, 2) := by decide +kernel
theorem dX0_mostForeignTo_34 : decode cX0_mostForeignTo 34 = .ok (.aload 4, 2) := by decide +kernel
theorem dX0_mostForeignTo_36 : decode cX0_mostForeignTo 36 = .ok (.aload_n 1, 1) := by decide +kernel
theorem dX0_mostForeignTo_37 : decode cX0_mostForeignTo 37 = .ok (.if_acmp .eq 28, 3) := by decide +kernel
theorem dX0_mostForeignTo_40 : decode cX0_mostForeignTo 40 = .ok (.aload 4, 2) := by decide +kernel
theorem dX0_mostForeignTo_42 : decode cX0_mostForeignTo 42 = .ok (.invokevirtual 94, 3) := by decide +kernel
theorem dX0_mostForeignTo_45 : decode cX0_mostForeignTo 45 = .ok (.ifCond .eq 20, 3) := by decide +kernel
theorem dX0_mostForeignTo_48 : decode cX0_mostForeignTo 48 = .ok (.aload_n 2, 1) := by decide +kernel
theorem dX0_mostForeignTo_49 : decode cX0_mostForeignTo 49 = .ok (.ifnull 13, 3) := by decide +kernel
theorem dX0_mostForeignTo_52 : decode cX0_mostForeignTo 52 = .ok (.aload 4, 2) := by decide +kernel
theorem dX0_mostForeignTo_54 : decode cX0_mostForeignTo 54 = .ok (.aload_n 2, 1) := by decide +kernel
theorem dX0_mostForeignTo_55 : decode cX0_mostForeignTo 55 = .ok (.aload_n 1, 1) := by decide +kernel
theorem dX0_mostForeignTo_56 : decode cX0_mostForeignTo 56 = .ok (.invokestatic 223, 3) := by decide +kernel
theorem dX0_mostForeignTo_59 : decode cX0_mostForeignTo 59 = .ok (.ifCond .eq 6, 3) := by decide +kernel
theorem dX0_mostForeignTo_62 : decode cX0_mostForeignTo 62 = .ok (.aload 4, 2) := by decide +kernel
theorem dX0_mostForeignTo_64 : decode cX0_mostForeignTo 64 = .ok (.astore_n 2, 1) := by decide +kernel
theorem dX0_mostForeignTo_65 : decode cX0_mostForeignTo 65 = .ok (.iinc 3 1, 3) := by decide +kernel
theorem dX0_mostForeignTo_68 : decode cX0_mostForeignTo 68 = .ok (.goto (-64), 3) := by decide +kernel
theorem dX0_mostForeignTo_71 : decode cX0_mostForeignTo 71 = .ok (.aload_n 2, 1) := by decide +kernel
theorem dX0_mostForeignTo_72 : decode cX0_mostForeignTo 72 = .ok (.areturn, 1) := by decide +kernel
theorem dX0_isAhead_0 : decode cX0_isAhead 0 = .ok (.aload_n 0, 1) := by decide +kernel
theorem dX0_isAhead_1 : decode cX0_isAhead 1 = .ok (.getfield 227, 3) := by decide +kernel
theorem dX0_isAhead_4 : decode cX0_isAhead 4 = .ok (.aload_n 2, 1) := by decide +kernel
theorem dX0_isAhead_5 : decode cX0_isAhead 5 = .ok (.getfield 227, 3) := by decide +kernel
theorem dX0_isAhead_8 : decode cX0_isAhead 8 = .ok (.invokestatic 60, 3) := by decide +kernel
theorem dX0_isAhead_11 : decode cX0_isAhead 11 = .ok (.aload_n 1, 1) := by decide +kernel
theorem dX0_isAhead_12 : decode cX0_isAhead 12 = .ok (.getfield 227, 3) := by decide +kernel
theorem dX0_isAhead_15 : decode cX0_isAhead 15 = .ok (.aload_n 2, 1) := by decide +kernel
theorem dX0_isAhead_16 : decode cX0_isAhead 16 = .ok (.getfield 227, 3) := by decide +kernel
theorem dX0_isAhead_19 : decode cX0_isAhead 19 = .ok (.invokestatic 60, 3) := by decide +kernel
theorem dX0_isAhead_22 : decode cX0_isAhead 22 = .ok (.isub, 1) := by decide +kernel
theorem dX0_isAhead_23 : decode cX0_isAhead 23 = .ok (.istore_n 3, 1) := by decide +kernel
theorem dX0_isAhead_24 : decode cX0_isAhead 24 = .ok (.iload_n 3, 1) := by decide +kernel
theorem dX0_isAhead_25 : decode cX0_isAhead 25 = .ok (.ifCond .gt 18, 3) := by decide +kernel
theorem dX0_isAhead_28 : decode cX0_isAhead 28 = .ok (.iload_n 3, 1) := by decide +kernel
theorem dX0_isAhead_29 : decode cX0_isAhead 29 = .ok (.ifCond .ne 18, 3) := by decide +kernel
theorem dX0_isAhead_32 : decode cX0_isAhead 32 = .ok (.aload_n 0, 1) := by decide +kernel
theorem dX0_isAhead_33 : decode cX0_isAhead 33 = .ok (.getfield 230, 3) := by decide +kernel
theorem dX0_isAhead_36 : decode cX0_isAhead 36 = .ok (.aload_n 1, 1) := by decide +kernel
theorem dX0_isAhead_37 : decode cX0_isAhead 37 = .ok (.getfield 230, 3) := by decide +kernel
theorem dX0_isAhead_40 : decode cX0_isAhead 40 = .ok (.if_icmp .le 7, 3) := by decide +kernel
theorem dX0_isAhead_43 : decode cX0_isAhead 43 = .ok (.iconst 1, 1) := by decide +kernel
theorem dX0_isAhead_44 : decode cX0_isAhead 44 = .ok (.goto 4, 3) := by decide +kernel
theorem dX0_isAhead_47 : decode cX0_isAhead 47 = .ok (.iconst 0, 1) := by decide +kernel
theorem dX0_isAhead_48 : decode cX0_isAhead 48 = .ok (.ireturn, 1) := by decide +kernel
theorem dX1_init_0 : decode cX1_init 0 = .ok (.aload_n 0, 1) := by decide +kernel
theorem dX1_init_1 : decode cX1_init 1 = .ok (.invokespecial 3, 3) := by decide +kernel
theorem dX1_init_4 : decode cX1_init 4 = .ok (.aload_n 0, 1) := by decide +kernel
theorem dX1_init_5 : decode cX1_init 5 = .ok (.iconst 0, 1) := by decide +kernel
theorem dX1_init_6 : decode cX1_init 6 = .ok (.putfield 9, 3) := by decide +kernel
theorem dX1_init_9 : decode cX1_init 9 = .ok (.aload_n 0, 1) := by decide +kernel
theorem dX1_init_10 : decode cX1_init 10 = .ok (.iconst 0, 1) := by decide +kernel
theorem dX1_init_11 : decode cX1_init 11 = .ok (.putfield 15, 3) := by decide +kernel
theorem dX1_init_14 : decode cX1_init 14 = .ok (.aload_n 0, 1) := by decide +kernel
theorem dX1_init_15 : decode cX1_init 15 = .ok (.iconst 0, 1) := by decide +kernel
theorem dX1_init_16 : decode cX1_init 16 = .ok (.putfield 18, 3) := by decide +kernel
theorem dX1_init_19 : decode cX1_init 19 = .ok (.aload_n 0, 1) := by decide +kernel
theorem dX1_init_20 : decode cX1_init 20 = .ok (.iconst 0, 1) := by decide +kernel
theorem dX1_init_21 : decode cX1_init 21 = .ok (.putfield 21, 3) := by decide +kernel
theorem dX1_init_24 : decode cX1_init 24 = .ok (.aload_n 0, 1) := by decide +kernel
theorem dX1_init_25 : decode cX1_init 25 = .ok (.iconst (-1), 1) := by decide +kernel
theorem dX1_init_26 : decode cX1_init 26 = .ok (.putfield 25, 3) := by decide +kernel
theorem dX1_init_29 : decode cX1_init 29 = .ok (.aload_n 0, 1) := by decide +kernel
theorem dX1_init_30 : decode cX1_init 30 = .ok (.iconst (-1), 1) := by decide +kernel
theorem dX1_init_31 : decode cX1_init 31 = .ok (.putfield 28, 3) := by decide +kernel
theorem dX1_init_34 : decode cX1_init 34 = .ok (.aload_n 0, 1) := by decide +kernel
theorem dX1_init_35 : decode cX1_init 35 = .ok (.iconst 0, 1) := by decide +kernel
theorem dX1_init_36 : decode cX1_init 36 = .ok (.putfield 31, 3) := by decide +kernel
theorem dX1_init_39 : decode cX1_init 39 = .ok (.aload_n 0, 1) := by decide +kernel
theorem dX1_init_40 : decode cX1_init 40 = .ok (.iconst 0, 1) := by decide +kernel
theorem dX1_init_41 : decode cX1_init 41 = .ok (.putfield 34, 3) := by decide +kernel
theorem dX1_init_44 : decode cX1_init 44 = .ok (.aload_n 0, 1) := by decide +kernel
theorem dX1_init_45 : decode cX1_init 45 = .ok (.iconst 0, 1) := by decide +kernel
theorem dX1_init_46 : decode cX1_init 46 = .ok (.putfield 37, 3) := by decide +kernel
theorem dX1_init_49 : decode cX1_init 49 = .ok (.aload_n 0, 1) := by decide +kernel
theorem dX1_init_50 : decode cX1_init 50 = .ok (.iconst 0, 1) := by decide +kernel
theorem dX1_init_51 : decode cX1_init 51 = .ok (.putfield 40, 3) := by decide +kernel
theorem dX1_init_54 : decode cX1_init 54 = .ok (.aload_n 0, 1) := by decide +kernel
theorem dX1_init_55 : decode cX1_init 55 = .ok (.iload_n 1, 1) := by decide +kernel
theorem dX1_init_56 : decode cX1_init 56 = .ok (.putfield 43, 3) := by decide +kernel
theorem dX1_init_59 : decode cX1_init 59 = .ok (.aload_n 0, 1) := by decide +kernel
theorem dX1_init_60 : decode cX1_init 60 = .ok (.iload_n 2, 1) := by decide +kernel
theorem dX1_init_61 : decode cX1_init 61 = .ok (.putfield 46, 3) := by decide +kernel
theorem dX1_init_64 : decode cX1_init 64 = .ok (.aload_n 0, 1) := by decide +kernel
theorem dX1_init_65 : decode cX1_init 65 = .ok (.iload_n 3, 1) := by decide +kernel
theorem dX1_init_66 : decode cX1_init 66 = .ok (.putfield 49, 3) := by decide +kernel
theorem dX1_init_69 : decode cX1_init 69 = .ok (.aload_n 0, 1) := by decide +kernel
theorem dX1_init_70 : decode cX1_init 70 = .ok (.iload 4, 2) := by decide +kernel
theorem dX1_init_72 : decode cX1_init 72 = .ok (.putfield 52, 3) := by decide +kernel
theorem dX1_init_75 : decode cX1_init 75 = .ok (.aload_n 0, 1) := by decide +kernel
theorem dX1_init_76 : decode cX1_init 76 = .ok (.iload 5, 2) := by decide +kernel
theorem dX1_init_78 : decode cX1_init 78 = .ok (.putfield 55, 3) := by decide +kernel
theorem dX1_init_81 : decode cX1_init 81 = .ok (.aload_n 0, 1) := by decide +kernel
theorem dX1_init_82 : decode cX1_init 82 = .ok (.iload 6, 2) := by decide +kernel
theorem dX1_init_84 : decode cX1_init 84 = .ok (.putfield 58, 3) := by decide +kernel
theorem dX1_init_87 : decode cX1_init 87 = .ok (.return_, 1) := by decide +kernel
theorem dX1_tribe_0 : decode cX1_tribe 0 = .ok (.aload_n 0, 1) := by decide +kernel
theorem dX1_tribe_1 : decode cX1_tribe 1 = .ok (.getfield 46, 3) := by decide +kernel
theorem dX1_tribe_4 : decode cX1_tribe 4 = .ok (.iconst 4, 1) := by decide +kernel
theorem dX1_tribe_5 : decode cX1_tribe 5 = .ok (.irem, 1) := by decide +kernel
theorem dX1_tribe_6 : decode cX1_tribe 6 = .ok (.ireturn, 1) := by decide +kernel
theorem dX1_wealthClass_0 : decode cX1_wealthClass 0 = .ok (.aload_n 0, 1) := by decide +kernel
theorem dX1_wealthClass_1 : decode cX1_wealthClass 1 = .ok (.getfield 52, 3) := by decide +kernel
theorem dX1_wealthClass_4 : decode cX1_wealthClass 4 = .ok (.bipush 20, 2) := by decide +kernel
theorem dX1_wealthClass_6 : decode cX1_wealthClass 6 = .ok (.if_icmp .ge 5, 3) := by decide +kernel
theorem dX1_wealthClass_9 : decode cX1_wealthClass 9 = .ok (.iconst 0, 1) := by decide +kernel
theorem dX1_wealthClass_10 : decode cX1_wealthClass 10 = .ok (.ireturn, 1) := by decide +kernel
theorem dX1_wealthClass_11 : decode cX1_wealthClass 11 = .ok (.aload_n 0, 1) := by decide +kernel
theorem dX1_wealthClass_12 : decode cX1_wealthClass 12 = .ok (.getfield 52, 3) := by decide +kernel
theorem dX1_wealthClass_15 : decode cX1_wealthClass 15 = .ok (.bipush 60, 2) := by decide +kernel
theorem dX1_wealthClass_17 : decode cX1_wealthClass 17 = .ok (.if_icmp .ge 5, 3) := by decide +kernel
theorem dX1_wealthClass_20 : decode cX1_wealthClass 20 = .ok (.iconst 1, 1) := by decide +kernel
theorem dX1_wealthClass_21 : decode cX1_wealthClass 21 = .ok (.ireturn, 1) := by decide +kernel
theorem dX1_wealthClass_22 : decode cX1_wealthClass 22 = .ok (.aload_n 0, 1) := by decide +kernel
theorem dX1_wealthClass_23 : decode cX1_wealthClass 23 = .ok (.getfield 52, 3) := by decide +kernel
theorem dX1_wealthClass_26 : decode cX1_wealthClass 26 = .ok (.bipush 120, 2) := by decide +kernel
theorem dX1_wealthClass_28 : decode cX1_wealthClass 28 = .ok (.if_icmp .ge 7, 3) := by decide +kernel
theorem dX1_wealthClass_31 : decode cX1_wealthClass 31 = .ok (.iconst 2, 1) := by decide +kernel
theorem dX1_wealthClass_32 : decode cX1_wealthClass 32 = .ok (.goto 4, 3) := by decide +kernel
theorem dX1_wealthClass_35 : decode cX1_wealthClass 35 = .ok (.iconst 3, 1) := by decide +kernel
theorem dX1_wealthClass_36 : decode cX1_wealthClass 36 = .ok (.ireturn, 1) := by decide +kernel
theorem dX1_isRich_0 : decode cX1_isRich 0 = .ok (.aload_n 0, 1) := by decide +kernel
theorem dX1_isRich_1 : decode cX1_isRich 1 = .ok (.invokevirtual 61, 3) := by decide +kernel
theorem dX1_isRich_4 : decode cX1_isRich 4 = .ok (.iconst 3, 1) := by decide +kernel
theorem dX1_isRich_5 : decode cX1_isRich 5 = .ok (.if_icmp .ne 7, 3) := by decide +kernel
theorem dX1_isRich_8 : decode cX1_isRich 8 = .ok (.iconst 1, 1) := by decide +kernel
theorem dX1_isRich_9 : decode cX1_isRich 9 = .ok (.goto 4, 3) := by decide +kernel
theorem dX1_isRich_12 : decode cX1_isRich 12 = .ok (.iconst 0, 1) := by decide +kernel
theorem dX1_isRich_13 : decode cX1_isRich 13 = .ok (.ireturn, 1) := by decide +kernel
theorem dX1_agrees_0 : decode cX1_agrees 0 = .ok (.aload_n 0, 1) := by decide +kernel
theorem dX1_agrees_1 : decode cX1_agrees 1 = .ok (.getfield 55, 3) := by decide +kernel
theorem dX1_agrees_4 : decode cX1_agrees 4 = .ok (.iload_n 1, 1) := by decide +kernel
theorem dX1_agrees_5 : decode cX1_agrees 5 = .ok (.invokestatic 65, 3) := by decide +kernel
theorem dX1_agrees_8 : decode cX1_agrees 8 = .ok (.iconst 5, 1) := by decide +kernel
theorem dX1_agrees_9 : decode cX1_agrees 9 = .ok (.if_icmp .gt 7, 3) := by decide +kernel
theorem dX1_agrees_12 : decode cX1_agrees 12 = .ok (.iconst 1, 1) := by decide +kernel
theorem dX1_agrees_13 : decode cX1_agrees 13 = .ok (.goto 4, 3) := by decide +kernel
theorem dX1_agrees_16 : decode cX1_agrees 16 = .ok (.iconst 0, 1) := by decide +kernel
theorem dX1_agrees_17 : decode cX1_agrees 17 = .ok (.ireturn, 1) := by decide +kernel
theorem dX1_isFull_0 : decode cX1_isFull 0 = .ok (.aload_n 0, 1) := by decide +kernel
theorem dX1_isFull_1 : decode cX1_isFull 1 = .ok (.getfield 58, 3) := by decide +kernel
theorem dX1_isFull_4 : decode cX1_isFull 4 = .ok (.iconst 1, 1) := by decide +kernel
theorem dX1_isFull_5 : decode cX1_isFull 5 = .ok (.if_icmp .ne 7, 3) := by decide +kernel
theorem dX1_isFull_8 : decode cX1_isFull 8 = .ok (.iconst 1, 1) := by decide +kernel
theorem dX1_isFull_9 : decode cX1_isFull 9 = .ok (.goto 4, 3) := by decide +kernel
theorem dX1_isFull_12 : decode cX1_isFull 12 = .ok (.iconst 0, 1) := by decide +kernel
theorem dX1_isFull_13 : decode cX1_isFull 13 = .ok (.ireturn, 1) := by decide +kernel
theorem dX1_isFullOrOut_0 : decode cX1_isFullOrOut 0 = .ok (.aload_n 0, 1) := by decide +kernel
theorem dX1_isFullOrOut_1 : decode cX1_isFullOrOut 1 = .ok (.getfield 58, 3) := by decide +kernel
theorem dX1_isFullOrOut_4 : decode cX1_isFullOrOut 4 = .ok (.iconst 1, 1) := by decide +kernel
theorem dX1_isFullOrOut_5 : decode cX1_isFullOrOut 5 = .ok (.if_icmp .eq 11, 3) := by decide +kernel
theorem dX1_isFullOrOut_8 : decode cX1_isFullOrOut 8 = .ok (.aload_n 0, 1) := by decide +kernel
theorem dX1_isFullOrOut_9 : decode cX1_isFullOrOut 9 = .ok (.getfield 58, 3) := by decide +kernel
theorem dX1_isFullOrOut_12 : decode cX1_isFullOrOut 12 = .ok (.iconst 2, 1) := by decide +kernel
theorem dX1_isFullOrOut_13 : decode cX1_isFullOrOut 13 = .ok (.if_icmp .ne 7, 3) := by decide +kernel
theorem dX1_isFullOrOut_16 : decode cX1_isFullOrOut 16 = .ok (.iconst 1, 1) := by decide +kernel
theorem dX1_isFullOrOut_17 : decode cX1_isFullOrOut 17 = .ok (.goto 4, 3) := by decide +kernel
theorem dX1_isFullOrOut_20 : decode cX1_isFullOrOut 20 = .ok (.iconst 0, 1) := by decide +kernel
theorem dX1_isFullOrOut_21 : decode cX1_isFullOrOut 21 = .ok (.ireturn, 1) := by decide +kernel
theorem dX1_isGone_0 : decode cX1_isGone 0 = .ok (.aload_n 0, 1) := by decide +kernel
theorem dX1_isGone_1 : decode cX1_isGone 1 = .ok (.getfield 58, 3) := by decide +kernel
theorem dX1_isGone_4 : decode cX1_isGone 4 = .ok (.iconst 3, 1) := by decide +kernel
theorem dX1_isGone_5 : decode cX1_isGone 5 = .ok (.if_icmp .eq 19, 3) := by decide +kernel
theorem dX1_isGone_8 : decode cX1_isGone 8 = .ok (.aload_n 0, 1) := by decide +kernel
theorem dX1_isGone_9 : decode cX1_isGone 9 = .ok (.getfield 58, 3) := by decide +kernel
theorem dX1_isGone_12 : decode cX1_isGone 12 = .ok (.iconst 4, 1) := by decide +kernel
theorem dX1_isGone_13 : decode cX1_isGone 13 = .ok (.if_icmp .eq 11, 3) := by decide +kernel
theorem dX1_isGone_16 : decode cX1_isGone 16 = .ok (.aload_n 0, 1) := by decide +kernel
theorem dX1_isGone_17 : decode cX1_isGone 17 = .ok (.getfield 58, 3) := by decide +kernel
theorem dX1_isGone_20 : decode cX1_isGone 20 = .ok (.iconst 5, 1) := by decide +kernel
theorem dX1_isGone_21 : decode cX1_isGone 21 = .ok (.if_icmp .ne 7, 3) := by decide +kernel
theorem dX1_isGone_24 : decode cX1_isGone 24 = .ok (.iconst 1, 1) := by decide +kernel
theorem dX1_isGone_25 : decode cX1_isGone 25 = .ok (.goto 4, 3) := by decide +kernel
theorem dX1_isGone_28 : decode cX1_isGone 28 = .ok (.iconst 0, 1) := by decide +kernel
theorem dX1_isGone_29 : decode cX1_isGone 29 = .ok (.ireturn, 1) := by decide +kernel
theorem dX1_isBarred_0 : decode cX1_isBarred 0 = .ok (.iload_n 1, 1) := by decide +kernel
theorem dX1_isBarred_1 : decode cX1_isBarred 1 = .ok (.aload_n 0, 1) := by decide +kernel
theorem dX1_isBarred_2 : decode cX1_isBarred 2 = .ok (.getfield 15, 3) := by decide +kernel
theorem dX1_isBarred_5 : decode cX1_isBarred 5 = .ok (.if_icmp .ge 7, 3) := by decide +kernel
theorem dX1_isBarred_8 : decode cX1_isBarred 8 = .ok (.iconst 1, 1) := by decide +kernel
theorem dX1_isBarred_9 : decode cX1_isBarred 9 = .ok (.goto 4, 3) := by decide +kernel
theorem dX1_isBarred_12 : decode cX1_isBarred 12 = .ok (.iconst 0, 1) := by decide +kernel
theorem dX1_isBarred_13 : decode cX1_isBarred 13 = .ok (.ireturn, 1) := by decide +kernel
theorem dX1_canJudge_0 : decode cX1_canJudge 0 = .ok (.aload_n 0, 1) := by decide +kernel
theorem dX1_canJudge_1 : decode cX1_canJudge 1 = .ok (.invokevirtual 69, 3) := by decide +kernel
theorem dX1_canJudge_4 : decode cX1_canJudge 4 = .ok (.ifCond .eq 16, 3) := by decide +kernel
theorem dX1_canJudge_7 : decode cX1_canJudge 7 = .ok (.aload_n 0, 1) := by decide +kernel
theorem dX1_canJudge_8 : decode cX1_canJudge 8 = .ok (.getfield 49, 3) := by decide +kernel
theorem dX1_canJudge_11 : decode cX1_canJudge 11 = .ok (.bipush 30, 2) := by decide +kernel
theorem dX1_canJudge_13 : decode cX1_canJudge 13 = .ok (.if_icmp .lt 7, 3) := by decide +kernel
theorem dX1_canJudge_16 : decode cX1_canJudge 16 = .ok (.iconst 1, 1) := by decide +kernel
theorem dX1_canJudge_17 : decode cX1_canJudge 17 = .ok (.goto 4, 3) := by decide +kernel
theorem dX1_canJudge_20 : decode cX1_canJudge 20 = .ok (.iconst 0, 1) := by decide +kernel
theorem dX1_canJudge_21 : decode cX1_canJudge 21 = .ok (.ireturn, 1) := by decide +kernel
theorem dX1_hasToBear_0 : decode cX1_hasToBear 0 = .ok (.aload_n 0, 1) := by decide +kernel
theorem dX1_hasToBear_1 : decode cX1_hasToBear 1 = .ok (.invokevirtual 73, 3) := by decide +kernel
theorem dX1_hasToBear_4 : decode cX1_hasToBear 4 = .ok (.ifCond .eq 21, 3) := by decide +kernel
theorem dX1_hasToBear_7 : decode cX1_hasToBear 7 = .ok (.aload_n 0, 1) := by decide +kernel
theorem dX1_hasToBear_8 : decode cX1_hasToBear 8 = .ok (.getfield 31, 3) := by decide +kernel
theorem dX1_hasToBear_11 : decode cX1_hasToBear 11 = .ok (.ifCond .eq 14, 3) := by decide +kernel
theorem dX1_hasToBear_14 : decode cX1_hasToBear 14 = .ok (.aload_n 0, 1) := by decide +kernel
theorem dX1_hasToBear_15 : decode cX1_hasToBear 15 = .ok (.getfield 34, 3) := by decide +kernel
theorem dX1_hasToBear_18 : decode cX1_hasToBear 18 = .ok (.ifCond .ne 7, 3) := by decide +kernel
theorem dX1_hasToBear_21 : decode cX1_hasToBear 21 = .ok (.iconst 1, 1) := by decide +kernel
theorem dX1_hasToBear_22 : decode cX1_hasToBear 22 = .ok (.goto 4, 3) := by decide +kernel
theorem dX1_hasToBear_25 : decode cX1_hasToBear 25 = .ok (.iconst 0, 1) := by decide +kernel
theorem dX1_hasToBear_26 : decode cX1_hasToBear 26 = .ok (.ireturn, 1) := by decide +kernel
theorem dX1_mayClaim_0 : decode cX1_mayClaim 0 = .ok (.aload_n 0, 1) := by decide +kernel
theorem dX1_mayClaim_1 : decode cX1_mayClaim 1 = .ok (.invokevirtual 76, 3) := by decide +kernel
theorem dX1_mayClaim_4 : decode cX1_mayClaim 4 = .ok (.ifCond .eq 14, 3) := by decide +kernel
theorem dX1_mayClaim_7 : decode cX1_mayClaim 7 = .ok (.aload_n 0, 1) := by decide +kernel
theorem dX1_mayClaim_8 : decode cX1_mayClaim 8 = .ok (.getfield 40, 3) := by decide +kernel
theorem dX1_mayClaim_11 : decode cX1_mayClaim 11 = .ok (.ifCond .ne 7, 3) := by decide +kernel
theorem dX1_mayClaim_14 : decode cX1_mayClaim 14 = .ok (.iconst 1, 1) := by decide +kernel
theorem dX1_mayClaim_15 : decode cX1_mayClaim 15 = .ok (.goto 4, 3) := by decide +kernel
theorem dX1_mayClaim_18 : decode cX1_mayClaim 18 = .ok (.iconst 0, 1) := by decide +kernel
theorem dX1_mayClaim_19 : decode cX1_mayClaim 19 = .ok (.ireturn, 1) := by decide +kernel
theorem dX1_mayBeClaimed_0 : decode cX1_mayBeClaimed 0 = .ok (.aload_n 0, 1) := by decide +kernel
theorem dX1_mayBeClaimed_1 : decode cX1_mayBeClaimed 1 = .ok (.invokevirtual 69, 3) := by decide +kernel
theorem dX1_mayBeClaimed_4 : decode cX1_mayBeClaimed 4 = .ok (.ifCond .eq 25, 3) := by decide +kernel
theorem dX1_mayBeClaimed_7 : decode cX1_mayBeClaimed 7 = .ok (.aload_n 0, 1) := by decide +kernel
theorem dX1_mayBeClaimed_8 : decode cX1_mayBeClaimed 8 = .ok (.invokevirtual 79, 3) := by decide +kernel
theorem dX1_mayBeClaimed_11 : decode cX1_mayBeClaimed 11 = .ok (.aload_n 1, 1) := by decide +kernel
theorem dX1_mayBeClaimed_12 : decode cX1_mayBeClaimed 12 = .ok (.invokevirtual 79, 3) := by decide +kernel
theorem dX1_mayBeClaimed_15 : decode cX1_mayBeClaimed 15 = .ok (.if_icmp .ne 14, 3) := by decide +kernel
theorem dX1_mayBeClaimed_18 : decode cX1_mayBeClaimed 18 = .ok (.aload_n 0, 1) := by decide +kernel
theorem dX1_mayBeClaimed_19 : decode cX1_mayBeClaimed 19 = .ok (.getfield 31, 3) := by decide +kernel
theorem dX1_mayBeClaimed_22 : decode cX1_mayBeClaimed 22 = .ok (.ifCond .ne 7, 3) := by decide +kernel
theorem dX1_mayBeClaimed_25 : decode cX1_mayBeClaimed 25 = .ok (.iconst 1, 1) := by decide +kernel
theorem dX1_mayBeClaimed_26 : decode cX1_mayBeClaimed 26 = .ok (.goto 4, 3) := by decide +kernel
theorem dX1_mayBeClaimed_29 : decode cX1_mayBeClaimed 29 = .ok (.iconst 0, 1) := by decide +kernel
theorem dX1_mayBeClaimed_30 : decode cX1_mayBeClaimed 30 = .ok (.ireturn, 1) := by decide +kernel
theorem dX1_give_0 : decode cX1_give 0 = .ok (.aload_n 0, 1) := by decide +kernel
theorem dX1_give_1 : decode cX1_give 1 = .ok (.getfield 52, 3) := by decide +kernel
theorem dX1_give_4 : decode cX1_give 4 = .ok (.iload_n 1, 1) := by decide +kernel
theorem dX1_give_5 : decode cX1_give 5 = .ok (.invokestatic 82, 3) := by decide +kernel
theorem dX1_give_8 : decode cX1_give 8 = .ok (.istore_n 2, 1) := by decide +kernel
theorem dX1_give_9 : decode cX1_give 9 = .ok (.aload_n 0, 1) := by decide +kernel
theorem dX1_give_10 : decode cX1_give 10 = .ok (.dup, 1) := by decide +kernel
theorem dX1_give_11 : decode cX1_give 11 = .ok (.getfield 52, 3) := by decide +kernel
theorem dX1_give_14 : decode cX1_give 14 = .ok (.iload_n 2, 1) := by decide +kernel
theorem dX1_give_15 : decode cX1_give 15 = .ok (.isub, 1) := by decide +kernel
theorem dX1_give_16 : decode cX1_give 16 = .ok (.putfield 52, 3) := by decide +kernel
theorem dX1_give_19 : decode cX1_give 19 = .ok (.iload_n 2, 1) := by decide +kernel
theorem dX1_give_20 : decode cX1_give 20 = .ok (.ireturn, 1) := by decide +kernel
theorem dX2_init_0 : decode cX2_init 0 = .ok (.aload_n 0, 1) := by decide +kernel
theorem dX2_init_1 : decode cX2_init 1 = .ok (.invokespecial 3, 3) := by decide +kernel
theorem dX2_init_4 : decode cX2_init 4 = .ok (.aload_n 0, 1) := by decide +kernel
theorem dX2_init_5 : decode cX2_init 5 = .ok (.iconst 0, 1) := by decide +kernel
theorem dX2_init_6 : decode cX2_init 6 = .ok (.putfield 9, 3) := by decide +kernel
theorem dX2_init_9 : decode cX2_init 9 = .ok (.aload_n 0, 1) := by decide +kernel
theorem dX2_init_10 : decode cX2_init 10 = .ok (.iconst 1, 1) := by decide +kernel
theorem dX2_init_11 : decode cX2_init 11 = .ok (.putfield 15, 3) := by decide +kernel
theorem dX2_init_14 : decode cX2_init 14 = .ok (.aload_n 0, 1) := by decide +kernel
theorem dX2_init_15 : decode cX2_init 15 = .ok (.iconst 0, 1) := by decide +kernel
theorem dX2_init_16 : decode cX2_init 16 = .ok (.putfield 19, 3) := by decide +kernel
theorem dX2_init_19 : decode cX2_init 19 = .ok (.aload_n 0, 1) := by decide +kernel
theorem dX2_init_20 : decode cX2_init 20 = .ok (.sipush 300, 3) := by decide +kernel
theorem dX2_init_23 : decode cX2_init 23 = .ok (.putfield 22, 3) := by decide +kernel
theorem dX2_init_26 : decode cX2_init 26 = .ok (.aload_n 0, 1) := by decide +kernel
theorem dX2_init_27 : decode cX2_init 27 = .ok (.iconst 0, 1) := by decide +kernel
theorem dX2_init_28 : decode cX2_init 28 = .ok (.putfield 25, 3) := by decide +kernel
theorem dX2_init_31 : decode cX2_init 31 = .ok (.aload_n 0, 1) := by decide +kernel
theorem dX2_init_32 : decode cX2_init 32 = .ok (.iconst 0, 1) := by decide +kernel
theorem dX2_init_33 : decode cX2_init 33 = .ok (.putfield 28, 3) := by decide +kernel
theorem dX2_init_36 : decode cX2_init 36 = .ok (.aload_n 0, 1) := by decide +kernel
theorem dX2_init_37 : decode cX2_init 37 = .ok (.iconst 0, 1) := by decide +kernel
theorem dX2_init_38 : decode cX2_init 38 = .ok (.putfield 31, 3) := by decide +kernel
theorem dX2_init_41 : decode cX2_init 41 = .ok (.aload_n 0, 1) := by decide +kernel
theorem dX2_init_42 : decode cX2_init 42 = .ok (.iconst 0, 1) := by decide +kernel
theorem dX2_init_43 : decode cX2_init 43 = .ok (.putfield 34, 3) := by decide +kernel
theorem dX2_init_46 : decode cX2_init 46 = .ok (.aload_n 0, 1) := by decide +kernel
theorem dX2_init_47 : decode cX2_init 47 = .ok (.iconst 0, 1) := by decide +kernel
theorem dX2_init_48 : decode cX2_init 48 = .ok (.putfield 37, 3) := by decide +kernel
theorem dX2_init_51 : decode cX2_init 51 = .ok (.aload_n 0, 1) := by decide +kernel
theorem dX2_init_52 : decode cX2_init 52 = .ok (.iconst (-1), 1) := by decide +kernel
theorem dX2_init_53 : decode cX2_init 53 = .ok (.putfield 40, 3) := by decide +kernel
theorem dX2_init_56 : decode cX2_init 56 = .ok (.aload_n 0, 1) := by decide +kernel
theorem dX2_init_57 : decode cX2_init 57 = .ok (.aconst_null, 1) := by decide +kernel
theorem dX2_init_58 : decode cX2_init 58 = .ok (.putfield 43, 3) := by decide +kernel
theorem dX2_init_61 : decode cX2_init 61 = .ok (.aload_n 0, 1) := by decide +kernel
theorem dX2_init_62 : decode cX2_init 62 = .ok (.new 47, 3) := by decide +kernel
theorem dX2_init_65 : decode cX2_init 65 = .ok (.dup, 1) := by decide +kernel
theorem dX2_init_66 : decode cX2_init 66 = .ok (.invokespecial 49, 3) := by decide +kernel
theorem dX2_init_69 : decode cX2_init 69 = .ok (.putfield 50, 3) := by decide +kernel
theorem dX2_init_72 : decode cX2_init 72 = .ok (.aload_n 0, 1) := by decide +kernel
theorem dX2_init_73 : decode cX2_init 73 = .ok (.new 54, 3) := by decide +kernel
theorem dX2_init_76 : decode cX2_init 76 = .ok (.dup, 1) := by decide +kernel
theorem dX2_init_77 : decode cX2_init 77 = .ok (.invokespecial 56, 3) := by decide +kernel
theorem dX2_init_80 : decode cX2_init 80 = .ok (.putfield 57, 3) := by decide +kernel
theorem dX2_init_83 : decode cX2_init 83 = .ok (.aload_n 0, 1) := by decide +kernel
theorem dX2_init_84 : decode cX2_init 84 = .ok (.new 54, 3) := by decide +kernel
theorem dX2_init_87 : decode cX2_init 87 = .ok (.dup, 1) := by decide +kernel
theorem dX2_init_88 : decode cX2_init 88 = .ok (.invokespecial 56, 3) := by decide +kernel
theorem dX2_init_91 : decode cX2_init 91 = .ok (.putfield 61, 3) := by decide +kernel
theorem dX2_init_94 : decode cX2_init 94 = .ok (.aload_n 0, 1) := by decide +kernel
theorem dX2_init_95 : decode cX2_init 95 = .ok (.iconst 3, 1) := by decide +kernel
theorem dX2_init_96 : decode cX2_init 96 = .ok (.anewarray 64, 3) := by decide +kernel
theorem dX2_init_99 : decode cX2_init 99 = .ok (.putfield 66, 3) := by decide +kernel
theorem dX2_init_102 : decode cX2_init 102 = .ok (.aload_n 0, 1) := by decide +kernel
theorem dX2_init_103 : decode cX2_init 103 = .ok (.iconst 3, 1) := by decide +kernel
theorem dX2_init_104 : decode cX2_init 104 = .ok (.newarray .int, 2) := by decide +kernel
theorem dX2_init_106 : decode cX2_init 106 = .ok (.putfield 70, 3) := by decide +kernel
theorem dX2_init_109 : decode cX2_init 109 = .ok (.aload_n 0, 1) := by decide +kernel
theorem dX2_init_110 : decode cX2_init 110 = .ok (.new 54, 3) := by decide +kernel
theorem dX2_init_113 : decode cX2_init 113 = .ok (.dup, 1) := by decide +kernel
theorem dX2_init_114 : decode cX2_init 114 = .ok (.invokespecial 56, 3) := by decide +kernel
theorem dX2_init_117 : decode cX2_init 117 = .ok (.putfield 74, 3) := by decide +kernel
theorem dX2_init_120 : decode cX2_init 120 = .ok (.iconst 0, 1) := by decide +kernel
theorem dX2_init_121 : decode cX2_init 121 = .ok (.istore_n 1, 1) := by decide +kernel
theorem dX2_init_122 : decode cX2_init 122 = .ok (.iload_n 1, 1) := by decide +kernel
theorem dX2_init_123 : decode cX2_init 123 = .ok (.bipush 7, 2) := by decide +kernel
theorem dX2_init_125 : decode cX2_init 125 = .ok (.if_icmp .ge 25, 3) := by decide +kernel
theorem dX2_init_128 : decode cX2_init 128 = .ok (.aload_n 0, 1) := by decide +kernel
theorem dX2_init_129 : decode cX2_init 129 = .ok (.getfield 61, 3) := by decide +kernel
theorem dX2_init_132 : decode cX2_init 132 = .ok (.new 77, 3) := by decide +kernel
theorem dX2_init_135 : decode cX2_init 135 = .ok (.dup, 1) := by decide +kernel
theorem dX2_init_136 : decode cX2_init 136 = .ok (.iload_n 1, 1) := by decide +kernel
theorem dX2_init_137 : decode cX2_init 137 = .ok (.invokespecial 79, 3) := by decide +kernel
theorem dX2_init_140 : decode cX2_init 140 = .ok (.invokevirtual 82, 3) := by decide +kernel
theorem dX2_init_143 : decode cX2_init 143 = .ok (.pop, 1) := by decide +kernel
theorem dX2_init_144 : decode cX2_init 144 = .ok (.iinc 1 1, 3) := by decide +kernel
theorem dX2_init_147 : decode cX2_init 147 = .ok (.goto (-25), 3) := by decide +kernel
theorem dX2_init_150 : decode cX2_init 150 = .ok (.return_, 1) := by decide +kernel
theorem dX2_year_0 : decode cX2_year 0 = .ok (.aload_n 0, 1) := by decide +kernel
theorem dX2_year_1 : decode cX2_year 1 = .ok (.getfield 9, 3) := by decide +kernel
theorem dX2_year_4 : decode cX2_year 4 = .ok (.bipush 40, 2) := by decide +kernel
theorem dX2_year_6 : decode cX2_year 6 = .ok (.idiv, 1) := by decide +kernel
theorem dX2_year_7 : decode cX2_year 7 = .ok (.ireturn, 1) := by decide +kernel
theorem dX2_prytany_0 : decode cX2_prytany 0 = .ok (.aload_n 0, 1) := by decide +kernel
theorem dX2_prytany_1 : decode cX2_prytany 1 = .ok (.getfield 9, 3) := by decide +kernel
theorem dX2_prytany_4 : decode cX2_prytany 4 = .ok (.bipush 40, 2) := by decide +kernel
theorem dX2_prytany_6 : decode cX2_prytany 6 = .ok (.irem, 1) := by decide +kernel
theorem dX2_prytany_7 : decode cX2_prytany 7 = .ok (.bipush 10, 2) := by decide +kernel
theorem dX2_prytany_9 : decode cX2_prytany 9 = .ok (.idiv, 1) := by decide +kernel
theorem dX2_prytany_10 : decode cX2_prytany 10 = .ok (.ireturn, 1) := by decide +kernel
theorem dX2_numbered_0 : decode cX2_numbered 0 = .ok (.iload_n 1, 1) := by decide +kernel
theorem dX2_numbered_1 : decode cX2_numbered 1 = .ok (.iconst 0, 1) := by decide +kernel
theorem dX2_numbered_2 : decode cX2_numbered 2 = .ok (.aload_n 0, 1) := by decide +kernel
theorem dX2_numbered_3 : decode cX2_numbered 3 = .ok (.getfield 57, 3) := by decide +kernel
theorem dX2_numbered_6 : decode cX2_numbered 6 = .ok (.invokevirtual 86, 3) := by decide +kernel
theorem dX2_numbered_9 : decode cX2_numbered 9 = .ok (.iconst 1, 1) := by decide +kernel
theorem dX2_numbered_10 : decode cX2_numbered 10 = .ok (.isub, 1) := by decide +kernel
theorem dX2_numbered_11 : decode cX2_numbered 11 = .ok (.invokestatic 90, 3) := by decide +kernel
theorem dX2_numbered_14 : decode cX2_numbered 14 = .ok (.ifCond .eq 17, 3) := by decide +kernel
theorem dX2_numbered_17 : decode cX2_numbered 17 = .ok (.aload_n 0, 1) := by decide +kernel
theorem dX2_numbered_18 : decode cX2_numbered 18 = .ok (.getfield 57, 3) := by decide +kernel
theorem dX2_numbered_21 : decode cX2_numbered 21 = .ok (.iload_n 1, 1) := by decide +kernel
theorem dX2_numbered_22 : decode cX2_numbered 22 = .ok (.invokevirtual 94, 3) := by decide +kernel
theorem dX2_numbered_25 : decode cX2_numbered 25 = .ok (.checkcast 64, 3) := by decide +kernel
theorem dX2_numbered_28 : decode cX2_numbered 28 = .ok (.goto 4, 3) := by decide +kernel
theorem dX2_numbered_31 : decode cX2_numbered 31 = .ok (.aconst_null, 1) := by decide +kernel
theorem dX2_numbered_32 : decode cX2_numbered 32 = .ok (.areturn, 1) := by decide +kernel
theorem dX2_inscribe_0 : decode cX2_inscribe 0 = .ok (.aload_n 0, 1) := by decide +kernel
theorem dX2_inscribe_1 : decode cX2_inscribe 1 = .ok (.getfield 57, 3) := by decide +kernel
theorem dX2_inscribe_4 : decode cX2_inscribe 4 = .ok (.invokevirtual 86, 3) := by decide +kernel
theorem dX2_inscribe_7 : decode cX2_inscribe 7 = .ok (.istore 6, 2) := by decide +kernel
theorem dX2_inscribe_9 : decode cX2_inscribe 9 = .ok (.aload_n 0, 1) := by decide +kernel
theorem dX2_inscribe_10 : decode cX2_inscribe 10 = .ok (.getfield 57, 3) := by decide +kernel
theorem dX2_inscribe_13 : decode cX2_inscribe 13 = .ok (.new 64, 3) := by decide +kernel
theorem dX2_inscribe_16 : decode cX2_inscribe 16 = .ok (.dup, 1) := by decide +kernel
theorem dX2_inscribe_17 : decode cX2_inscribe 17 = .ok (.iload 6, 2) := by decide +kernel
theorem dX2_inscribe_19 : decode cX2_inscribe 19 = .ok (.iload_n 1, 1) := by decide +kernel
theorem dX2_inscribe_20 : decode cX2_inscribe 20 = .ok (.iload_n 2, 1) := by decide +kernel
theorem dX2_inscribe_21 : decode cX2_inscribe 21 = .ok (.iload_n 3, 1) := by decide +kernel
theorem dX2_inscribe_22 : decode cX2_inscribe 22 = .ok (.iload 4, 2) := by decide +kernel
theorem dX2_inscribe_24 : decode cX2_inscribe 24 = .ok (.iload 5, 2) := by decide +kernel
theorem dX2_inscribe_26 : decode cX2_inscribe 26 = .ok (.invokespecial 98, 3) := by decide +kernel
theorem dX2_inscribe_29 : decode cX2_inscribe 29 = .ok (.invokevirtual 82, 3) := by decide +kernel
theorem dX2_inscribe_32 : decode cX2_inscribe 32 = .ok (.pop, 1) := by decide +kernel
theorem dX2_inscribe_33 : decode cX2_inscribe 33 = .ok (.iload 6, 2) := by decide +kernel
theorem dX2_inscribe_35 : decode cX2_inscribe 35 = .ok (.ireturn, 1) := by decide +kernel
theorem dX2_full_0 : decode cX2_full 0 = .ok (.aload_n 0, 1) := by decide +kernel
theorem dX2_full_1 : decode cX2_full 1 = .ok (.iconst 1, 1) := by decide +kernel
theorem dX2_full_2 : decode cX2_full 2 = .ok (.iconst 0, 1) := by decide +kernel
theorem dX2_full_3 : decode cX2_full 3 = .ok (.iconst (-1), 1) := by decide +kernel
theorem dX2_full_4 : decode cX2_full 4 = .ok (.invokevirtual 130, 3) := by decide +kernel
theorem dX2_full_7 : decode cX2_full 7 = .ok (.ireturn, 1) := by decide +kernel
theorem dX2_fullAgreeing_0 : decode cX2_fullAgreeing 0 = .ok (.iconst 0, 1) := by decide +kernel
theorem dX2_fullAgreeing_1 : decode cX2_fullAgreeing 1 = .ok (.istore_n 2, 1) := by decide +kernel
theorem dX2_fullAgreeing_2 : decode cX2_fullAgreeing 2 = .ok (.iconst 0, 1) := by decide +kernel
theorem dX2_fullAgreeing_3 : decode cX2_fullAgreeing 3 = .ok (.istore_n 3, 1) := by decide +kernel
theorem dX2_fullAgreeing_4 : decode cX2_fullAgreeing 4 = .ok (.iload_n 3, 1) := by decide +kernel
theorem dX2_fullAgreeing_5 : decode cX2_fullAgreeing 5 = .ok (.aload_n 0, 1) := by decide +kernel
theorem dX2_fullAgreeing_6 : decode cX2_fullAgreeing 6 = .ok (.getfield 57, 3) := by decide +kernel
theorem dX2_fullAgreeing_9 : decode cX2_fullAgreeing 9 = .ok (.invokevirtual 86, 3) := by decide +kernel
theorem dX2_fullAgreeing_12 : decode cX2_fullAgreeing 12 = .ok (.if_icmp .ge 50, 3) := by decide +kernel
theorem dX2_fullAgreeing_15 : decode cX2_fullAgreeing 15 = .ok (.aload_n 0, 1) := by decide +kernel
theorem dX2_fullAgreeing_16 : decode cX2_fullAgreeing 16 = .ok (.getfield 57, 3) := by decide +kernel
theorem dX2_fullAgreeing_19 : decode cX2_fullAgreeing 19 = .ok (.iload_n 3, 1) := by decide +kernel
theorem dX2_fullAgreeing_20 : decode cX2_fullAgreeing 20 = .ok (.invokevirtual 94, 3) := by decide +kernel
theorem dX2_fullAgreeing_23 : decode cX2_fullAgreeing 23 = .ok (.checkcast 64, 3) := by decide +kernel
theorem dX2_fullAgreeing_26 : decode cX2_fullAgreeing 26 = .ok (.astore 4, 2) := by decide +kernel
theorem dX2_fullAgreeing_28 : decode cX2_fullAgreeing 28 = .ok (.iload_n 2, 1) := by decide +kernel
theorem dX2_fullAgreeing_29 : decode cX2_fullAgreeing 29 = .ok (.aload 4, 2) := by decide +kernel
theorem dX2_fullAgreeing_31 : decode cX2_fullAgreeing 31 = .ok (.invokevirtual 101, 3) := by decide +kernel
theorem dX2_fullAgreeing_34 : decode cX2_fullAgreeing 34 = .ok (.ifCond .eq 16, 3) := by decide +kernel
theorem dX2_fullAgreeing_37 : decode cX2_fullAgreeing 37 = .ok (.aload 4, 2) := by decide +kernel
theorem dX2_fullAgreeing_39 : decode cX2_fullAgreeing 39 = .ok (.iload_n 1, 1) := by decide +kernel
theorem dX2_fullAgreeing_40 : decode cX2_fullAgreeing 40 = .ok (.invokevirtual 108, 3) := by decide +kernel
theorem dX2_fullAgreeing_43 : decode cX2_fullAgreeing 43 = .ok (.ifCond .eq 7, 3) := by decide +kernel
theorem dX2_fullAgreeing_46 : decode cX2_fullAgreeing 46 = .ok (.iconst 1, 1) := by decide +kernel
theorem dX2_fullAgreeing_47 : decode cX2_fullAgreeing 47 = .ok (.goto 4, 3) := by decide +kernel
theorem dX2_fullAgreeing_50 : decode cX2_fullAgreeing 50 = .ok (.iconst 0, 1) := by decide +kernel
theorem dX2_fullAgreeing_51 : decode cX2_fullAgreeing 51 = .ok (.invokestatic 112, 3) := by decide +kernel
theorem dX2_fullAgreeing_54 : decode cX2_fullAgreeing 54 = .ok (.iadd, 1) := by decide +kernel
theorem dX2_fullAgreeing_55 : decode cX2_fullAgreeing 55 = .ok (.istore_n 2, 1) := by decide +kernel
theorem dX2_fullAgreeing_56 : decode cX2_fullAgreeing 56 = .ok (.iinc 3 1, 3) := by decide +kernel
theorem dX2_fullAgreeing_59 : decode cX2_fullAgreeing 59 = .ok (.goto (-55), 3) := by decide +kernel
theorem dX2_fullAgreeing_62 : decode cX2_fullAgreeing 62 = .ok (.iload_n 2, 1) := by decide +kernel
theorem dX2_fullAgreeing_63 : decode cX2_fullAgreeing 63 = .ok (.ireturn, 1) := by decide +kernel
theorem dX2_councilAgreeing_0 : decode cX2_councilAgreeing 0 = .ok (.iconst 0, 1) := by decide +kernel
theorem dX2_councilAgreeing_1 : decode cX2_councilAgreeing 1 = .ok (.istore_n 2, 1) := by decide +kernel
theorem dX2_councilAgreeing_2 : decode cX2_councilAgreeing 2 = .ok (.iconst 0, 1) := by decide +kernel
theorem dX2_councilAgreeing_3 : decode cX2_councilAgreeing 3 = .ok (.istore_n 3, 1) := by decide +kernel
theorem dX2_councilAgreeing_4 : decode cX2_councilAgreeing 4 = .ok (.iload_n 3, 1) := by decide +kernel
theorem dX2_councilAgreeing_5 : decode cX2_councilAgreeing 5 = .ok (.aload_n 0, 1) := by decide +kernel
theorem dX2_councilAgreeing_6 : decode cX2_councilAgreeing 6 = .ok (.getfield 57, 3) := by decide +kernel
theorem dX2_councilAgreeing_9 : decode cX2_councilAgreeing 9 = .ok (.invokevirtual 86, 3) := by decide +kernel
theorem dX2_councilAgreeing_12 : decode cX2_councilAgreeing 12 = .ok (.if_icmp .ge 50, 3) := by decide +kernel
theorem dX2_councilAgreeing_15 : decode cX2_councilAgreeing 15 = .ok (.aload_n 0, 1) := by decide +kernel
theorem dX2_councilAgreeing_16 : decode cX2_councilAgreeing 16 = .ok (.getfield 57, 3) := by decide +kernel
theorem dX2_councilAgreeing_19 : decode cX2_councilAgreeing 19 = .ok (.iload_n 3, 1) := by decide +kernel
theorem dX2_councilAgreeing_20 : decode cX2_councilAgreeing 20 = .ok (.invokevirtual 94, 3) := by decide +kernel
theorem dX2_councilAgreeing_23 : decode cX2_councilAgreeing 23 = .ok (.checkcast 64, 3) := by decide +kernel
theorem dX2_councilAgreeing_26 : decode cX2_councilAgreeing 26 = .ok (.astore 4, 2) := by decide +kernel
theorem dX2_councilAgreeing_28 : decode cX2_councilAgreeing 28 = .ok (.iload_n 2, 1) := by decide +kernel
theorem dX2_councilAgreeing_29 : decode cX2_councilAgreeing 29 = .ok (.aload 4, 2) := by decide +kernel
theorem dX2_councilAgreeing_31 : decode cX2_councilAgreeing 31 = .ok (.getfield 134, 3) := by decide +kernel
theorem dX2_councilAgreeing_34 : decode cX2_councilAgreeing 34 = .ok (.ifCond .eq 16, 3) := by decide +kernel
