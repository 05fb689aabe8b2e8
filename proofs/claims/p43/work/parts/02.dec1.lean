theorem dX2_councilAgreeing_37 : decode cX2_councilAgreeing 37 = .ok (.aload 4, 2) := by decide +kernel
theorem dX2_councilAgreeing_39 : decode cX2_councilAgreeing 39 = .ok (.iload_n 1, 1) := by decide +kernel
theorem dX2_councilAgreeing_40 : decode cX2_councilAgreeing 40 = .ok (.invokevirtual 108, 3) := by decide +kernel
theorem dX2_councilAgreeing_43 : decode cX2_councilAgreeing 43 = .ok (.ifCond .eq 7, 3) := by decide +kernel
theorem dX2_councilAgreeing_46 : decode cX2_councilAgreeing 46 = .ok (.iconst 1, 1) := by decide +kernel
theorem dX2_councilAgreeing_47 : decode cX2_councilAgreeing 47 = .ok (.goto 4, 3) := by decide +kernel
theorem dX2_councilAgreeing_50 : decode cX2_councilAgreeing 50 = .ok (.iconst 0, 1) := by decide +kernel
theorem dX2_councilAgreeing_51 : decode cX2_councilAgreeing 51 = .ok (.invokestatic 112, 3) := by decide +kernel
theorem dX2_councilAgreeing_54 : decode cX2_councilAgreeing 54 = .ok (.iadd, 1) := by decide +kernel
theorem dX2_councilAgreeing_55 : decode cX2_councilAgreeing 55 = .ok (.istore_n 2, 1) := by decide +kernel
theorem dX2_councilAgreeing_56 : decode cX2_councilAgreeing 56 = .ok (.iinc 3 1, 3) := by decide +kernel
theorem dX2_councilAgreeing_59 : decode cX2_councilAgreeing 59 = .ok (.goto (-55), 3) := by decide +kernel
theorem dX2_councilAgreeing_62 : decode cX2_councilAgreeing 62 = .ok (.iload_n 2, 1) := by decide +kernel
theorem dX2_councilAgreeing_63 : decode cX2_councilAgreeing 63 = .ok (.ireturn, 1) := by decide +kernel
theorem dX2_councillors_0 : decode cX2_councillors 0 = .ok (.iconst 0, 1) := by decide +kernel
theorem dX2_councillors_1 : decode cX2_councillors 1 = .ok (.istore_n 1, 1) := by decide +kernel
theorem dX2_councillors_2 : decode cX2_councillors 2 = .ok (.iconst 0, 1) := by decide +kernel
theorem dX2_councillors_3 : decode cX2_councillors 3 = .ok (.istore_n 2, 1) := by decide +kernel
theorem dX2_councillors_4 : decode cX2_councillors 4 = .ok (.iload_n 2, 1) := by decide +kernel
theorem dX2_councillors_5 : decode cX2_councillors 5 = .ok (.aload_n 0, 1) := by decide +kernel
theorem dX2_councillors_6 : decode cX2_councillors 6 = .ok (.getfield 57, 3) := by decide +kernel
theorem dX2_councillors_9 : decode cX2_councillors 9 = .ok (.invokevirtual 86, 3) := by decide +kernel
theorem dX2_councillors_12 : decode cX2_councillors 12 = .ok (.if_icmp .ge 29, 3) := by decide +kernel
theorem dX2_councillors_15 : decode cX2_councillors 15 = .ok (.iload_n 1, 1) := by decide +kernel
theorem dX2_councillors_16 : decode cX2_councillors 16 = .ok (.aload_n 0, 1) := by decide +kernel
theorem dX2_councillors_17 : decode cX2_councillors 17 = .ok (.getfield 57, 3) := by decide +kernel
theorem dX2_councillors_20 : decode cX2_councillors 20 = .ok (.iload_n 2, 1) := by decide +kernel
theorem dX2_councillors_21 : decode cX2_councillors 21 = .ok (.invokevirtual 94, 3) := by decide +kernel
theorem dX2_councillors_24 : decode cX2_councillors 24 = .ok (.checkcast 64, 3) := by decide +kernel
theorem dX2_councillors_27 : decode cX2_councillors 27 = .ok (.getfield 134, 3) := by decide +kernel
theorem dX2_councillors_30 : decode cX2_councillors 30 = .ok (.invokestatic 112, 3) := by decide +kernel
theorem dX2_councillors_33 : decode cX2_councillors 33 = .ok (.iadd, 1) := by decide +kernel
theorem dX2_councillors_34 : decode cX2_councillors 34 = .ok (.istore_n 1, 1) := by decide +kernel
theorem dX2_councillors_35 : decode cX2_councillors 35 = .ok (.iinc 2 1, 3) := by decide +kernel
theorem dX2_councillors_38 : decode cX2_councillors 38 = .ok (.goto (-34), 3) := by decide +kernel
theorem dX2_councillors_41 : decode cX2_councillors 41 = .ok (.iload_n 1, 1) := by decide +kernel
theorem dX2_councillors_42 : decode cX2_councillors 42 = .ok (.ireturn, 1) := by decide +kernel
theorem dX2_countOf_0 : decode cX2_countOf 0 = .ok (.iconst 0, 1) := by decide +kernel
theorem dX2_countOf_1 : decode cX2_countOf 1 = .ok (.istore 4, 2) := by decide +kernel
theorem dX2_countOf_3 : decode cX2_countOf 3 = .ok (.iconst 0, 1) := by decide +kernel
theorem dX2_countOf_4 : decode cX2_countOf 4 = .ok (.istore 5, 2) := by decide +kernel
theorem dX2_countOf_6 : decode cX2_countOf 6 = .ok (.iload 5, 2) := by decide +kernel
theorem dX2_countOf_8 : decode cX2_countOf 8 = .ok (.aload_n 0, 1) := by decide +kernel
theorem dX2_countOf_9 : decode cX2_countOf 9 = .ok (.getfield 57, 3) := by decide +kernel
theorem dX2_countOf_12 : decode cX2_countOf 12 = .ok (.invokevirtual 86, 3) := by decide +kernel
theorem dX2_countOf_15 : decode cX2_countOf 15 = .ok (.if_icmp .ge 80, 3) := by decide +kernel
theorem dX2_countOf_18 : decode cX2_countOf 18 = .ok (.aload_n 0, 1) := by decide +kernel
theorem dX2_countOf_19 : decode cX2_countOf 19 = .ok (.getfield 57, 3) := by decide +kernel
theorem dX2_countOf_22 : decode cX2_countOf 22 = .ok (.iload 5, 2) := by decide +kernel
theorem dX2_countOf_24 : decode cX2_countOf 24 = .ok (.invokevirtual 94, 3) := by decide +kernel
theorem dX2_countOf_27 : decode cX2_countOf 27 = .ok (.checkcast 64, 3) := by decide +kernel
theorem dX2_countOf_30 : decode cX2_countOf 30 = .ok (.astore 6, 2) := by decide +kernel
theorem dX2_countOf_32 : decode cX2_countOf 32 = .ok (.iload_n 3, 1) := by decide +kernel
theorem dX2_countOf_33 : decode cX2_countOf 33 = .ok (.iconst (-1), 1) := by decide +kernel
theorem dX2_countOf_34 : decode cX2_countOf 34 = .ok (.if_icmp .eq 12, 3) := by decide +kernel
theorem dX2_countOf_37 : decode cX2_countOf 37 = .ok (.aload 6, 2) := by decide +kernel
theorem dX2_countOf_39 : decode cX2_countOf 39 = .ok (.invokevirtual 137, 3) := by decide +kernel
theorem dX2_countOf_42 : decode cX2_countOf 42 = .ok (.iload_n 3, 1) := by decide +kernel
theorem dX2_countOf_43 : decode cX2_countOf 43 = .ok (.if_icmp .ne 7, 3) := by decide +kernel
theorem dX2_countOf_46 : decode cX2_countOf 46 = .ok (.iconst 1, 1) := by decide +kernel
theorem dX2_countOf_47 : decode cX2_countOf 47 = .ok (.goto 4, 3) := by decide +kernel
theorem dX2_countOf_50 : decode cX2_countOf 50 = .ok (.iconst 0, 1) := by decide +kernel
theorem dX2_countOf_51 : decode cX2_countOf 51 = .ok (.istore 7, 2) := by decide +kernel
theorem dX2_countOf_53 : decode cX2_countOf 53 = .ok (.iload 4, 2) := by decide +kernel
theorem dX2_countOf_55 : decode cX2_countOf 55 = .ok (.aload 6, 2) := by decide +kernel
theorem dX2_countOf_57 : decode cX2_countOf 57 = .ok (.getfield 140, 3) := by decide +kernel
theorem dX2_countOf_60 : decode cX2_countOf 60 = .ok (.iload_n 1, 1) := by decide +kernel
theorem dX2_countOf_61 : decode cX2_countOf 61 = .ok (.if_icmp .ne 21, 3) := by decide +kernel
theorem dX2_countOf_64 : decode cX2_countOf 64 = .ok (.aload 6, 2) := by decide +kernel
theorem dX2_countOf_66 : decode cX2_countOf 66 = .ok (.getfield 143, 3) := by decide +kernel
theorem dX2_countOf_69 : decode cX2_countOf 69 = .ok (.iload_n 2, 1) := by decide +kernel
theorem dX2_countOf_70 : decode cX2_countOf 70 = .ok (.if_icmp .lt 12, 3) := by decide +kernel
theorem dX2_countOf_73 : decode cX2_countOf 73 = .ok (.iload 7, 2) := by decide +kernel
theorem dX2_countOf_75 : decode cX2_countOf 75 = .ok (.ifCond .eq 7, 3) := by decide +kernel
theorem dX2_countOf_78 : decode cX2_countOf 78 = .ok (.iconst 1, 1) := by decide +kernel
theorem dX2_countOf_79 : decode cX2_countOf 79 = .ok (.goto 4, 3) := by decide +kernel
theorem dX2_countOf_82 : decode cX2_countOf 82 = .ok (.iconst 0, 1) := by decide +kernel
theorem dX2_countOf_83 : decode cX2_countOf 83 = .ok (.invokestatic 112, 3) := by decide +kernel
theorem dX2_countOf_86 : decode cX2_countOf 86 = .ok (.iadd, 1) := by decide +kernel
theorem dX2_countOf_87 : decode cX2_countOf 87 = .ok (.istore 4, 2) := by decide +kernel
theorem dX2_countOf_89 : decode cX2_countOf 89 = .ok (.iinc 5 1, 3) := by decide +kernel
theorem dX2_countOf_92 : decode cX2_countOf 92 = .ok (.goto (-86), 3) := by decide +kernel
theorem dX2_countOf_95 : decode cX2_countOf 95 = .ok (.iload 4, 2) := by decide +kernel
theorem dX2_countOf_97 : decode cX2_countOf 97 = .ok (.ireturn, 1) := by decide +kernel
theorem dX2_mayAct_0 : decode cX2_mayAct 0 = .ok (.aload_n 1, 1) := by decide +kernel
theorem dX2_mayAct_1 : decode cX2_mayAct 1 = .ok (.invokevirtual 101, 3) := by decide +kernel
theorem dX2_mayAct_4 : decode cX2_mayAct 4 = .ok (.ifCond .eq 18, 3) := by decide +kernel
theorem dX2_mayAct_7 : decode cX2_mayAct 7 = .ok (.aload_n 1, 1) := by decide +kernel
theorem dX2_mayAct_8 : decode cX2_mayAct 8 = .ok (.aload_n 0, 1) := by decide +kernel
theorem dX2_mayAct_9 : decode cX2_mayAct 9 = .ok (.getfield 9, 3) := by decide +kernel
theorem dX2_mayAct_12 : decode cX2_mayAct 12 = .ok (.invokevirtual 146, 3) := by decide +kernel
theorem dX2_mayAct_15 : decode cX2_mayAct 15 = .ok (.ifCond .ne 7, 3) := by decide +kernel
theorem dX2_mayAct_18 : decode cX2_mayAct 18 = .ok (.iconst 1, 1) := by decide +kernel
theorem dX2_mayAct_19 : decode cX2_mayAct 19 = .ok (.goto 4, 3) := by decide +kernel
theorem dX2_mayAct_22 : decode cX2_mayAct 22 = .ok (.iconst 0, 1) := by decide +kernel
theorem dX2_mayAct_23 : decode cX2_mayAct 23 = .ok (.ireturn, 1) := by decide +kernel
theorem dX2_bar_0 : decode cX2_bar 0 = .ok (.aload_n 1, 1) := by decide +kernel
theorem dX2_bar_1 : decode cX2_bar 1 = .ok (.aload_n 0, 1) := by decide +kernel
theorem dX2_bar_2 : decode cX2_bar 2 = .ok (.getfield 9, 3) := by decide +kernel
theorem dX2_bar_5 : decode cX2_bar 5 = .ok (.bipush 40, 2) := by decide +kernel
theorem dX2_bar_7 : decode cX2_bar 7 = .ok (.iadd, 1) := by decide +kernel
theorem dX2_bar_8 : decode cX2_bar 8 = .ok (.putfield 149, 3) := by decide +kernel
theorem dX2_bar_11 : decode cX2_bar 11 = .ok (.return_, 1) := by decide +kernel
theorem dX2_takeIn_0 : decode cX2_takeIn 0 = .ok (.aload_n 0, 1) := by decide +kernel
theorem dX2_takeIn_1 : decode cX2_takeIn 1 = .ok (.dup, 1) := by decide +kernel
theorem dX2_takeIn_2 : decode cX2_takeIn 2 = .ok (.getfield 22, 3) := by decide +kernel
theorem dX2_takeIn_5 : decode cX2_takeIn 5 = .ok (.iload_n 1, 1) := by decide +kernel
theorem dX2_takeIn_6 : decode cX2_takeIn 6 = .ok (.iadd, 1) := by decide +kernel
theorem dX2_takeIn_7 : decode cX2_takeIn 7 = .ok (.putfield 22, 3) := by decide +kernel
theorem dX2_takeIn_10 : decode cX2_takeIn 10 = .ok (.aload_n 0, 1) := by decide +kernel
theorem dX2_takeIn_11 : decode cX2_takeIn 11 = .ok (.dup, 1) := by decide +kernel
theorem dX2_takeIn_12 : decode cX2_takeIn 12 = .ok (.getfield 25, 3) := by decide +kernel
theorem dX2_takeIn_15 : decode cX2_takeIn 15 = .ok (.iload_n 1, 1) := by decide +kernel
theorem dX2_takeIn_16 : decode cX2_takeIn 16 = .ok (.iadd, 1) := by decide +kernel
theorem dX2_takeIn_17 : decode cX2_takeIn 17 = .ok (.putfield 25, 3) := by decide +kernel
theorem dX2_takeIn_20 : decode cX2_takeIn 20 = .ok (.return_, 1) := by decide +kernel
theorem dX2_payOut_0 : decode cX2_payOut 0 = .ok (.aload_n 0, 1) := by decide +kernel
theorem dX2_payOut_1 : decode cX2_payOut 1 = .ok (.getfield 22, 3) := by decide +kernel
theorem dX2_payOut_4 : decode cX2_payOut 4 = .ok (.iload_n 1, 1) := by decide +kernel
theorem dX2_payOut_5 : decode cX2_payOut 5 = .ok (.invokestatic 152, 3) := by decide +kernel
theorem dX2_payOut_8 : decode cX2_payOut 8 = .ok (.istore_n 2, 1) := by decide +kernel
theorem dX2_payOut_9 : decode cX2_payOut 9 = .ok (.aload_n 0, 1) := by decide +kernel
theorem dX2_payOut_10 : decode cX2_payOut 10 = .ok (.dup, 1) := by decide +kernel
theorem dX2_payOut_11 : decode cX2_payOut 11 = .ok (.getfield 22, 3) := by decide +kernel
theorem dX2_payOut_14 : decode cX2_payOut 14 = .ok (.iload_n 2, 1) := by decide +kernel
theorem dX2_payOut_15 : decode cX2_payOut 15 = .ok (.isub, 1) := by decide +kernel
theorem dX2_payOut_16 : decode cX2_payOut 16 = .ok (.putfield 22, 3) := by decide +kernel
theorem dX2_payOut_19 : decode cX2_payOut 19 = .ok (.aload_n 0, 1) := by decide +kernel
theorem dX2_payOut_20 : decode cX2_payOut 20 = .ok (.dup, 1) := by decide +kernel
theorem dX2_payOut_21 : decode cX2_payOut 21 = .ok (.getfield 28, 3) := by decide +kernel
theorem dX2_payOut_24 : decode cX2_payOut 24 = .ok (.iload_n 2, 1) := by decide +kernel
theorem dX2_payOut_25 : decode cX2_payOut 25 = .ok (.iadd, 1) := by decide +kernel
theorem dX2_payOut_26 : decode cX2_payOut 26 = .ok (.putfield 28, 3) := by decide +kernel
theorem dX2_payOut_29 : decode cX2_payOut 29 = .ok (.iload_n 2, 1) := by decide +kernel
theorem dX2_payOut_30 : decode cX2_payOut 30 = .ok (.iload_n 1, 1) := by decide +kernel
theorem dX2_payOut_31 : decode cX2_payOut 31 = .ok (.if_icmp .ne 7, 3) := by decide +kernel
theorem dX2_payOut_34 : decode cX2_payOut 34 = .ok (.iconst 1, 1) := by decide +kernel
theorem dX2_payOut_35 : decode cX2_payOut 35 = .ok (.goto 4, 3) := by decide +kernel
theorem dX2_payOut_38 : decode cX2_payOut 38 = .ok (.iconst 0, 1) := by decide +kernel
theorem dX2_payOut_39 : decode cX2_payOut 39 = .ok (.ireturn, 1) := by decide +kernel
theorem dX2_calm_0 : decode cX2_calm 0 = .ok (.aload_n 0, 1) := by decide +kernel
theorem dX2_calm_1 : decode cX2_calm 1 = .ok (.iconst 0, 1) := by decide +kernel
theorem dX2_calm_2 : decode cX2_calm 2 = .ok (.aload_n 0, 1) := by decide +kernel
theorem dX2_calm_3 : decode cX2_calm 3 = .ok (.getfield 19, 3) := by decide +kernel
theorem dX2_calm_6 : decode cX2_calm 6 = .ok (.iload_n 1, 1) := by decide +kernel
theorem dX2_calm_7 : decode cX2_calm 7 = .ok (.isub, 1) := by decide +kernel
theorem dX2_calm_8 : decode cX2_calm 8 = .ok (.invokestatic 158, 3) := by decide +kernel
theorem dX2_calm_11 : decode cX2_calm 11 = .ok (.putfield 19, 3) := by decide +kernel
theorem dX2_calm_14 : decode cX2_calm 14 = .ok (.return_, 1) := by decide +kernel
theorem dX2_fine_0 : decode cX2_fine 0 = .ok (.aload_n 1, 1) := by decide +kernel
theorem dX2_fine_1 : decode cX2_fine 1 = .ok (.iload_n 2, 1) := by decide +kernel
theorem dX2_fine_2 : decode cX2_fine 2 = .ok (.invokevirtual 161, 3) := by decide +kernel
theorem dX2_fine_5 : decode cX2_fine 5 = .ok (.istore_n 3, 1) := by decide +kernel
theorem dX2_fine_6 : decode cX2_fine 6 = .ok (.aload_n 0, 1) := by decide +kernel
theorem dX2_fine_7 : decode cX2_fine 7 = .ok (.iload_n 3, 1) := by decide +kernel
theorem dX2_fine_8 : decode cX2_fine 8 = .ok (.invokevirtual 165, 3) := by decide +kernel
theorem dX2_fine_11 : decode cX2_fine 11 = .ok (.aload_n 1, 1) := by decide +kernel
theorem dX2_fine_12 : decode cX2_fine 12 = .ok (.dup, 1) := by decide +kernel
theorem dX2_fine_13 : decode cX2_fine 13 = .ok (.getfield 168, 3) := by decide +kernel
theorem dX2_fine_16 : decode cX2_fine 16 = .ok (.iload_n 2, 1) := by decide +kernel
theorem dX2_fine_17 : decode cX2_fine 17 = .ok (.iload_n 3, 1) := by decide +kernel
theorem dX2_fine_18 : decode cX2_fine 18 = .ok (.isub, 1) := by decide +kernel
theorem dX2_fine_19 : decode cX2_fine 19 = .ok (.iadd, 1) := by decide +kernel
theorem dX2_fine_20 : decode cX2_fine 20 = .ok (.putfield 168, 3) := by decide +kernel
theorem dX2_fine_23 : decode cX2_fine 23 = .ok (.aload_n 1, 1) := by decide +kernel
theorem dX2_fine_24 : decode cX2_fine 24 = .ok (.invokevirtual 101, 3) := by decide +kernel
theorem dX2_fine_27 : decode cX2_fine 27 = .ok (.ifCond .eq 20, 3) := by decide +kernel
theorem dX2_fine_30 : decode cX2_fine 30 = .ok (.aload_n 1, 1) := by decide +kernel
theorem dX2_fine_31 : decode cX2_fine 31 = .ok (.getfield 168, 3) := by decide +kernel
theorem dX2_fine_34 : decode cX2_fine 34 = .ok (.ifCond .le 13, 3) := by decide +kernel
theorem dX2_fine_37 : decode cX2_fine 37 = .ok (.aload_n 1, 1) := by decide +kernel
theorem dX2_fine_38 : decode cX2_fine 38 = .ok (.iconst 2, 1) := by decide +kernel
theorem dX2_fine_39 : decode cX2_fine 39 = .ok (.putfield 140, 3) := by decide +kernel
theorem dX2_fine_42 : decode cX2_fine 42 = .ok (.aload_n 0, 1) := by decide +kernel
theorem dX2_fine_43 : decode cX2_fine 43 = .ok (.aload_n 1, 1) := by decide +kernel
theorem dX2_fine_44 : decode cX2_fine 44 = .ok (.invokevirtual 171, 3) := by decide +kernel
theorem dX2_fine_47 : decode cX2_fine 47 = .ok (.return_, 1) := by decide +kernel
theorem dX2_allDebts_0 : decode cX2_allDebts 0 = .ok (.iconst 0, 1) := by decide +kernel
theorem dX2_allDebts_1 : decode cX2_allDebts 1 = .ok (.istore_n 1, 1) := by decide +kernel
theorem dX2_allDebts_2 : decode cX2_allDebts 2 = .ok (.iconst 0, 1) := by decide +kernel
theorem dX2_allDebts_3 : decode cX2_allDebts 3 = .ok (.istore_n 2, 1) := by decide +kernel
theorem dX2_allDebts_4 : decode cX2_allDebts 4 = .ok (.iload_n 2, 1) := by decide +kernel
theorem dX2_allDebts_5 : decode cX2_allDebts 5 = .ok (.aload_n 0, 1) := by decide +kernel
theorem dX2_allDebts_6 : decode cX2_allDebts 6 = .ok (.getfield 57, 3) := by decide +kernel
theorem dX2_allDebts_9 : decode cX2_allDebts 9 = .ok (.invokevirtual 86, 3) := by decide +kernel
theorem dX2_allDebts_12 : decode cX2_allDebts 12 = .ok (.if_icmp .ge 26, 3) := by decide +kernel
theorem dX2_allDebts_15 : decode cX2_allDebts 15 = .ok (.iload_n 1, 1) := by decide +kernel
theorem dX2_allDebts_16 : decode cX2_allDebts 16 = .ok (.aload_n 0, 1) := by decide +kernel
theorem dX2_allDebts_17 : decode cX2_allDebts 17 = .ok (.getfield 57, 3) := by decide +kernel
theorem dX2_allDebts_20 : decode cX2_allDebts 20 = .ok (.iload_n 2, 1) := by decide +kernel
theorem dX2_allDebts_21 : decode cX2_allDebts 21 = .ok (.invokevirtual 94, 3) := by decide +kernel
theorem dX2_allDebts_24 : decode cX2_allDebts 24 = .ok (.checkcast 64, 3) := by decide +kernel
theorem dX2_allDebts_27 : decode cX2_allDebts 27 = .ok (.getfield 168, 3) := by decide +kernel
theorem dX2_allDebts_30 : decode cX2_allDebts 30 = .ok (.iadd, 1) := by decide +kernel
theorem dX2_allDebts_31 : decode cX2_allDebts 31 = .ok (.istore_n 1, 1) := by decide +kernel
theorem dX2_allDebts_32 : decode cX2_allDebts 32 = .ok (.iinc 2 1, 3) := by decide +kernel
theorem dX2_allDebts_35 : decode cX2_allDebts 35 = .ok (.goto (-31), 3) := by decide +kernel
theorem dX2_allDebts_38 : decode cX2_allDebts 38 = .ok (.iload_n 1, 1) := by decide +kernel
theorem dX2_allDebts_39 : decode cX2_allDebts 39 = .ok (.ireturn, 1) := by decide +kernel
theorem dX2_leaveCouncil_0 : decode cX2_leaveCouncil 0 = .ok (.aload_n 1, 1) := by decide +kernel
theorem dX2_leaveCouncil_1 : decode cX2_leaveCouncil 1 = .ok (.iconst 0, 1) := by decide +kernel
theorem dX2_leaveCouncil_2 : decode cX2_leaveCouncil 2 = .ok (.putfield 134, 3) := by decide +kernel
theorem dX2_leaveCouncil_5 : decode cX2_leaveCouncil 5 = .ok (.aload_n 0, 1) := by decide +kernel
theorem dX2_leaveCouncil_6 : decode cX2_leaveCouncil 6 = .ok (.getfield 43, 3) := by decide +kernel
theorem dX2_leaveCouncil_9 : decode cX2_leaveCouncil 9 = .ok (.aload_n 1, 1) := by decide +kernel
theorem dX2_leaveCouncil_10 : decode cX2_leaveCouncil 10 = .ok (.if_acmp .ne 8, 3) := by decide +kernel
theorem dX2_leaveCouncil_13 : decode cX2_leaveCouncil 13 = .ok (.aload_n 0, 1) := by decide +kernel
theorem dX2_leaveCouncil_14 : decode cX2_leaveCouncil 14 = .ok (.aconst_null, 1) := by decide +kernel
theorem dX2_leaveCouncil_15 : decode cX2_leaveCouncil 15 = .ok (.putfield 43, 3) := by decide +kernel
theorem dX2_leaveCouncil_18 : decode cX2_leaveCouncil 18 = .ok (.return_, 1) := by decide +kernel
theorem dX2_dissolveCouncil_0 : decode cX2_dissolveCouncil 0 = .ok (.iconst 0, 1) := by decide +kernel
theorem dX2_dissolveCouncil_1 : decode cX2_dissolveCouncil 1 = .ok (.istore_n 1, 1) := by decide +kernel
theorem dX2_dissolveCouncil_2 : decode cX2_dissolveCouncil 2 = .ok (.iload_n 1, 1) := by decide +kernel
theorem dX2_dissolveCouncil_3 : decode cX2_dissolveCouncil 3 = .ok (.aload_n 0, 1) := by decide +kernel
theorem dX2_dissolveCouncil_4 : decode cX2_dissolveCouncil 4 = .ok (.getfield 57, 3) := by decide +kernel
theorem dX2_dissolveCouncil_7 : decode cX2_dissolveCouncil 7 = .ok (.invokevirtual 86, 3) := by decide +kernel
theorem dX2_dissolveCouncil_10 : decode cX2_dissolveCouncil 10 = .ok (.if_icmp .ge 24, 3) := by decide +kernel
theorem dX2_dissolveCouncil_13 : decode cX2_dissolveCouncil 13 = .ok (.aload_n 0, 1) := by decide +kernel
theorem dX2_dissolveCouncil_14 : decode cX2_dissolveCouncil 14 = .ok (.getfield 57, 3) := by decide +kernel
theorem dX2_dissolveCouncil_17 : decode cX2_dissolveCouncil 17 = .ok (.iload_n 1, 1) := by decide +kernel
theorem dX2_dissolveCouncil_18 : decode cX2_dissolveCouncil 18 = .ok (.invokevirtual 94, 3) := by decide +kernel
theorem dX2_dissolveCouncil_21 : decode cX2_dissolveCouncil 21 = .ok (.checkcast 64, 3) := by decide +kernel
theorem dX2_dissolveCouncil_24 : decode cX2_dissolveCouncil 24 = .ok (.iconst 0, 1) := by decide +kernel
theorem dX2_dissolveCouncil_25 : decode cX2_dissolveCouncil 25 = .ok (.putfield 134, 3) := by decide +kernel
theorem dX2_dissolveCouncil_28 : decode cX2_dissolveCouncil 28 = .ok (.iinc 1 1, 3) := by decide +kernel
theorem dX2_dissolveCouncil_31 : decode cX2_dissolveCouncil 31 = .ok (.goto (-29), 3) := by decide +kernel
theorem dX2_dissolveCouncil_34 : decode cX2_dissolveCouncil 34 = .ok (.aload_n 0, 1) := by decide +kernel
theorem dX2_dissolveCouncil_35 : decode cX2_dissolveCouncil 35 = .ok (.aconst_null, 1) := by decide +kernel
theorem dX2_dissolveCouncil_36 : decode cX2_dissolveCouncil 36 = .ok (.putfield 43, 3) := by decide +kernel
theorem dX2_dissolveCouncil_39 : decode cX2_dissolveCouncil 39 = .ok (.return_, 1) := by decide +kernel
theorem dX2_sendAway_0 : decode cX2_sendAway 0 = .ok (.aload_n 1, 1) := by decide +kernel
theorem dX2_sendAway_1 : decode cX2_sendAway 1 = .ok (.iload_n 2, 1) := by decide +kernel
theorem dX2_sendAway_2 : decode cX2_sendAway 2 = .ok (.putfield 140, 3) := by decide +kernel
theorem dX2_sendAway_5 : decode cX2_sendAway 5 = .ok (.aload_n 0, 1) := by decide +kernel
theorem dX2_sendAway_6 : decode cX2_sendAway 6 = .ok (.aload_n 1, 1) := by decide +kernel
theorem dX2_sendAway_7 : decode cX2_sendAway 7 = .ok (.invokevirtual 171, 3) := by decide +kernel
theorem dX2_sendAway_10 : decode cX2_sendAway 10 = .ok (.iconst 0, 1) := by decide +kernel
theorem dX2_sendAway_11 : decode cX2_sendAway 11 = .ok (.istore_n 3, 1) := by decide +kernel
theorem dX2_sendAway_12 : decode cX2_sendAway 12 = .ok (.iload_n 3, 1) := by decide +kernel
theorem dX2_sendAway_13 : decode cX2_sendAway 13 = .ok (.aload_n 0, 1) := by decide +kernel
theorem dX2_sendAway_14 : decode cX2_sendAway 14 = .ok (.getfield 61, 3) := by decide +kernel
theorem dX2_sendAway_17 : decode cX2_sendAway 17 = .ok (.invokevirtual 86, 3) := by decide +kernel
theorem dX2_sendAway_20 : decode cX2_sendAway 20 = .ok (.if_icmp .ge 42, 3) := by decide +kernel
theorem dX2_sendAway_23 : decode cX2_sendAway 23 = .ok (.aload_n 0, 1) := by decide +kernel
theorem dX2_sendAway_24 : decode cX2_sendAway 24 = .ok (.getfield 61, 3) := by decide +kernel
theorem dX2_sendAway_27 : decode cX2_sendAway 27 = .ok (.iload_n 3, 1) := by decide +kernel
theorem dX2_sendAway_28 : decode cX2_sendAway 28 = .ok (.invokevirtual 94, 3) := by decide +kernel
theorem dX2_sendAway_31 : decode cX2_sendAway 31 = .ok (.checkcast 77, 3) := by decide +kernel
theorem dX2_sendAway_34 : decode cX2_sendAway 34 = .ok (.getfield 175, 3) := by decide +kernel
theorem dX2_sendAway_37 : decode cX2_sendAway 37 = .ok (.aload_n 1, 1) := by decide +kernel
theorem dX2_sendAway_38 : decode cX2_sendAway 38 = .ok (.if_acmp .ne 18, 3) := by decide +kernel
theorem dX2_sendAway_41 : decode cX2_sendAway 41 = .ok (.aload_n 0, 1) := by decide +kernel
theorem dX2_sendAway_42 : decode cX2_sendAway 42 = .ok (.getfield 61, 3) := by decide +kernel
theorem dX2_sendAway_45 : decode cX2_sendAway 45 = .ok (.iload_n 3, 1) := by decide +kernel
theorem dX2_sendAway_46 : decode cX2_sendAway 46 = .ok (.invokevirtual 94, 3) := by decide +kernel
theorem dX2_sendAway_49 : decode cX2_sendAway 49 = .ok (.checkcast 77, 3) := by decide +kernel
theorem dX2_sendAway_52 : decode cX2_sendAway 52 = .ok (.aconst_null, 1) := by decide +kernel
theorem dX2_sendAway_53 : decode cX2_sendAway 53 = .ok (.putfield 175, 3) := by decide +kernel
theorem dX2_sendAway_56 : decode cX2_sendAway 56 = .ok (.iinc 3 1, 3) := by decide +kernel
theorem dX2_sendAway_59 : decode cX2_sendAway 59 = .ok (.goto (-47), 3) := by decide +kernel
theorem dX2_sendAway_62 : decode cX2_sendAway 62 = .ok (.iconst 0, 1) := by decide +kernel
theorem dX2_sendAway_63 : decode cX2_sendAway 63 = .ok (.istore_n 3, 1) := by decide +kernel
theorem dX2_sendAway_64 : decode cX2_sendAway 64 = .ok (.iload_n 3, 1) := by decide +kernel
theorem dX2_sendAway_65 : decode cX2_sendAway 65 = .ok (.iconst 3, 1) := by decide +kernel
theorem dX2_sendAway_66 : decode cX2_sendAway 66 = .ok (.if_icmp .ge 24, 3) := by decide +kernel
theorem dX2_sendAway_69 : decode cX2_sendAway 69 = .ok (.aload_n 0, 1) := by decide +kernel
theorem dX2_sendAway_70 : decode cX2_sendAway 70 = .ok (.getfield 66, 3) := by decide +kernel
theorem dX2_sendAway_73 : decode cX2_sendAway 73 = .ok (.iload_n 3, 1) := by decide +kernel
theorem dX2_sendAway_74 : decode cX2_sendAway 74 = .ok (.aaload, 1) := by decide +kernel
theorem dX2_sendAway_75 : decode cX2_sendAway 75 = .ok (.aload_n 1, 1) := by decide +kernel
theorem dX2_sendAway_76 : decode cX2_sendAway 76 = .ok (.if_acmp .ne 8, 3) := by decide +kernel
theorem dX2_sendAway_79 : decode cX2_sendAway 79 = .ok (.aload_n 0, 1) := by decide +kernel
theorem dX2_sendAway_80 : decode cX2_sendAway 80 = .ok (.iload_n 3, 1) := by decide +kernel
theorem dX2_sendAway_81 : decode cX2_sendAway 81 = .ok (.invokevirtual 178, 3) := by decide +kernel
theorem dX2_sendAway_84 : decode cX2_sendAway 84 = .ok (.iinc 3 1, 3) := by decide +kernel
theorem dX2_sendAway_87 : decode cX2_sendAway 87 = .ok (.goto (-23), 3) := by decide +kernel
theorem dX2_sendAway_90 : decode cX2_sendAway 90 = .ok (.aload_n 1, 1) := by decide +kernel
theorem dX2_sendAway_91 : decode cX2_sendAway 91 = .ok (.iconst 0, 1) := by decide +kernel
theorem dX2_sendAway_92 : decode cX2_sendAway 92 = .ok (.putfield 181, 3) := by decide +kernel
theorem dX2_sendAway_95 : decode cX2_sendAway 95 = .ok (.aload_n 1, 1) := by decide +kernel
theorem dX2_sendAway_96 : decode cX2_sendAway 96 = .ok (.iconst 0, 1) := by decide +kernel
theorem dX2_sendAway_97 : decode cX2_sendAway 97 = .ok (.putfield 184, 3) := by decide +kernel
theorem dX2_sendAway_100 : decode cX2_sendAway 100 = .ok (.aload_n 1, 1) := by decide +kernel
theorem dX2_sendAway_101 : decode cX2_sendAway 101 = .ok (.iconst 0, 1) := by decide +kernel
theorem dX2_sendAway_102 : decode cX2_sendAway 102 = .ok (.putfield 168, 3) := by decide +kernel
theorem dX2_sendAway_105 : decode cX2_sendAway 105 = .ok (.aload_n 1, 1) := by decide +kernel
theorem dX2_sendAway_106 : decode cX2_sendAway 106 = .ok (.iconst (-1), 1) := by decide +kernel
theorem dX2_sendAway_107 : decode cX2_sendAway 107 = .ok (.putfield 187, 3) := by decide +kernel
theorem dX2_sendAway_110 : decode cX2_sendAway 110 = .ok (.return_, 1) := by decide +kernel
theorem dX2_officeOf_0 : decode cX2_officeOf 0 = .ok (.iconst 0, 1) := by decide +kernel
theorem dX2_officeOf_1 : decode cX2_officeOf 1 = .ok (.istore_n 2, 1) := by decide +kernel
theorem dX2_officeOf_2 : decode cX2_officeOf 2 = .ok (.iload_n 2, 1) := by decide +kernel
theorem dX2_officeOf_3 : decode cX2_officeOf 3 = .ok (.aload_n 0, 1) := by decide +kernel
theorem dX2_officeOf_4 : decode cX2_officeOf 4 = .ok (.getfield 61, 3) := by decide +kernel
theorem dX2_officeOf_7 : decode cX2_officeOf 7 = .ok (.invokevirtual 86, 3) := by decide +kernel
theorem dX2_officeOf_10 : decode cX2_officeOf 10 = .ok (.if_icmp .ge 29, 3) := by decide +kernel
theorem dX2_officeOf_13 : decode cX2_officeOf 13 = .ok (.aload_n 0, 1) := by decide +kernel
theorem dX2_officeOf_14 : decode cX2_officeOf 14 = .ok (.getfield 61, 3) := by decide +kernel
theorem dX2_officeOf_17 : decode cX2_officeOf 17 = .ok (.iload_n 2, 1) := by decide +kernel
theorem dX2_officeOf_18 : decode cX2_officeOf 18 = .ok (.invokevirtual 94, 3) := by decide +kernel
theorem dX2_officeOf_21 : decode cX2_officeOf 21 = .ok (.checkcast 77, 3) := by decide +kernel
theorem dX2_officeOf_24 : decode cX2_officeOf 24 = .ok (.getfield 175, 3) := by decide +kernel
theorem dX2_officeOf_27 : decode cX2_officeOf 27 = .ok (.aload_n 1, 1) := by decide +kernel
theorem dX2_officeOf_28 : decode cX2_officeOf 28 = .ok (.if_acmp .ne 5, 3) := by decide +kernel
theorem dX2_officeOf_31 : decode cX2_officeOf 31 = .ok (.iload_n 2, 1) := by decide +kernel
theorem dX2_officeOf_32 : decode cX2_officeOf 32 = .ok (.ireturn, 1) := by decide +kernel
theorem dX2_officeOf_33 : decode cX2_officeOf 33 = .ok (.iinc 2 1, 3) := by decide +kernel
theorem dX2_officeOf_36 : decode cX2_officeOf 36 = .ok (.goto (-34), 3) := by decide +kernel
theorem dX2_officeOf_39 : decode cX2_officeOf 39 = .ok (.iconst (-1), 1) := by decide +kernel
theorem dX2_officeOf_40 : decode cX2_officeOf 40 = .ok (.ireturn, 1) := by decide +kernel
theorem dX2_dismissAll_0 : decode cX2_dismissAll 0 = .ok (.iconst 0, 1) := by decide +kernel
theorem dX2_dismissAll_1 : decode cX2_dismissAll 1 = .ok (.istore_n 1, 1) := by decide +kernel
theorem dX2_dismissAll_2 : decode cX2_dismissAll 2 = .ok (.iload_n 1, 1) := by decide +kernel
theorem dX2_dismissAll_3 : decode cX2_dismissAll 3 = .ok (.aload_n 0, 1) := by decide +kernel
theorem dX2_dismissAll_4 : decode cX2_dismissAll 4 = .ok (.getfield 61, 3) := by decide +kernel
theorem dX2_dismissAll_7 : decode cX2_dismissAll 7 = .ok (.invokevirtual 86, 3) := by decide +kernel
theorem dX2_dismissAll_10 : decode cX2_dismissAll 10 = .ok (.if_icmp .ge 24, 3) := by decide +kernel
theorem dX2_dismissAll_13 : decode cX2_dismissAll 13 = .ok (.aload_n 0, 1) := by decide +kernel
theorem dX2_dismissAll_14 : decode cX2_dismissAll 14 = .ok (.getfield 61, 3) := by decide +kernel
theorem dX2_dismissAll_17 : decode cX2_dismissAll 17 = .ok (.iload_n 1, 1) := by decide +kernel
theorem dX2_dismissAll_18 : decode cX2_dismissAll 18 = .ok (.invokevirtual 94, 3) := by decide +kernel
theorem dX2_dismissAll_21 : decode cX2_dismissAll 21 = .ok (.checkcast 77, 3) := by decide +kernel
theorem dX2_dismissAll_24 : decode cX2_dismissAll 24 = .ok (.aload_n 0, 1) := by decide +kernel
theorem dX2_dismissAll_25 : decode cX2_dismissAll 25 = .ok (.invokevirtual 190, 3) := by decide +kernel
theorem dX2_dismissAll_28 : decode cX2_dismissAll 28 = .ok (.iinc 1 1, 3) := by decide +kernel
theorem dX2_dismissAll_31 : decode cX2_dismissAll 31 = .ok (.goto (-29), 3) := by decide +kernel
theorem dX2_dismissAll_34 : decode cX2_dismissAll 34 = .ok (.return_, 1) := by decide +kernel
theorem dX2_emptyOffices_0 : decode cX2_emptyOffices 0 = .ok (.iconst 0, 1) := by decide +kernel
theorem dX2_emptyOffices_1 : decode cX2_emptyOffices 1 = .ok (.istore_n 1, 1) := by decide +kernel
theorem dX2_emptyOffices_2 : decode cX2_emptyOffices 2 = .ok (.iload_n 1, 1) := by decide +kernel
theorem dX2_emptyOffices_3 : decode cX2_emptyOffices 3 = .ok (.aload_n 0, 1) := by decide +kernel
theorem dX2_emptyOffices_4 : decode cX2_emptyOffices 4 = .ok (.getfield 61, 3) := by decide +kernel
theorem dX2_emptyOffices_7 : decode cX2_emptyOffices 7 = .ok (.invokevirtual 86, 3) := by decide +kernel
theorem dX2_emptyOffices_10 : decode cX2_emptyOffices 10 = .ok (.if_icmp .ge 24, 3) := by decide +kernel
theorem dX2_emptyOffices_13 : decode cX2_emptyOffices 13 = .ok (.aload_n 0, 1) := by decide +kernel
theorem dX2_emptyOffices_14 : decode cX2_emptyOffices 14 = .ok (.getfield 61, 3) := by decide +kernel
theorem dX2_emptyOffices_17 : decode cX2_emptyOffices 17 = .ok (.iload_n 1, 1) := by decide +kernel
theorem dX2_emptyOffices_18 : decode cX2_emptyOffices 18 = .ok (.invokevirtual 94, 3) := by decide +kernel
theorem dX2_emptyOffices_21 : decode cX2_emptyOffices 21 = .ok (.checkcast 77, 3) := by decide +kernel
theorem dX2_emptyOffices_24 : decode cX2_emptyOffices 24 = .ok (.aconst_null, 1) := by decide +kernel
theorem dX2_emptyOffices_25 : decode cX2_emptyOffices 25 = .ok (.putfield 175, 3) := by decide +kernel
theorem dX2_emptyOffices_28 : decode cX2_emptyOffices 28 = .ok (.iinc 1 1, 3) := by decide +kernel
theorem dX2_emptyOffices_31 : decode cX2_emptyOffices 31 = .ok (.goto (-29), 3) := by decide +kernel
theorem dX2_emptyOffices_34 : decode cX2_emptyOffices 34 = .ok (.return_, 1) := by decide +kernel
theorem dX2_askConfidence_0 : decode cX2_askConfidence 0 = .ok (.iconst 0, 1) := by decide +kernel
theorem dX2_askConfidence_1 : decode cX2_askConfidence 1 = .ok (.istore_n 1, 1) := by decide +kernel
theorem dX2_askConfidence_2 : decode cX2_askConfidence 2 = .ok (.iload_n 1, 1) := by decide +kernel
theorem dX2_askConfidence_3 : decode cX2_askConfidence 3 = .ok (.aload_n 0, 1) := by decide +kernel
theorem dX2_askConfidence_4 : decode cX2_askConfidence 4 = .ok (.getfield 61, 3) := by decide +kernel
theorem dX2_askConfidence_7 : decode cX2_askConfidence 7 = .ok (.invokevirtual 86, 3) := by decide +kernel
theorem dX2_askConfidence_10 : decode cX2_askConfidence 10 = .ok (.if_icmp .ge 53, 3) := by decide +kernel
theorem dX2_askConfidence_13 : decode cX2_askConfidence 13 = .ok (.aload_n 0, 1) := by decide +kernel
theorem dX2_askConfidence_14 : decode cX2_askConfidence 14 = .ok (.getfield 61, 3) := by decide +kernel
theorem dX2_askConfidence_17 : decode cX2_askConfidence 17 = .ok (.iload_n 1, 1) := by decide +kernel
theorem dX2_askConfidence_18 : decode cX2_askConfidence 18 = .ok (.invokevirtual 94, 3) := by decide +kernel
theorem dX2_askConfidence_21 : decode cX2_askConfidence 21 = .ok (.checkcast 77, 3) := by decide +kernel
theorem dX2_askConfidence_24 : decode cX2_askConfidence 24 = .ok (.astore_n 2, 1) := by decide +kernel
theorem dX2_askConfidence_25 : decode cX2_askConfidence 25 = .ok (.aload_n 2, 1) := by decide +kernel
theorem dX2_askConfidence_26 : decode cX2_askConfidence 26 = .ok (.getfield 175, 3) := by decide +kernel
theorem dX2_askConfidence_29 : decode cX2_askConfidence 29 = .ok (.ifnull 28, 3) := by decide +kernel
theorem dX2_askConfidence_32 : decode cX2_askConfidence 32 = .ok (.iconst 2, 1) := by decide +kernel
theorem dX2_askConfidence_33 : decode cX2_askConfidence 33 = .ok (.aload_n 0, 1) := by decide +kernel
theorem dX2_askConfidence_34 : decode cX2_askConfidence 34 = .ok (.aload_n 2, 1) := by decide +kernel
theorem dX2_askConfidence_35 : decode cX2_askConfidence 35 = .ok (.getfield 175, 3) := by decide +kernel
theorem dX2_askConfidence_38 : decode cX2_askConfidence 38 = .ok (.getfield 127, 3) := by decide +kernel
theorem dX2_askConfidence_41 : decode cX2_askConfidence 41 = .ok (.invokevirtual 194, 3) := by decide +kernel
theorem dX2_askConfidence_44 : decode cX2_askConfidence 44 = .ok (.imul, 1) := by decide +kernel
theorem dX2_askConfidence_45 : decode cX2_askConfidence 45 = .ok (.aload_n 0, 1) := by decide +kernel
theorem dX2_askConfidence_46 : decode cX2_askConfidence 46 = .ok (.invokevirtual 197, 3) := by decide +kernel
theorem dX2_askConfidence_49 : decode cX2_askConfidence 49 = .ok (.if_icmp .ge 8, 3) := by decide +kernel
theorem dX2_askConfidence_52 : decode cX2_askConfidence 52 = .ok (.aload_n 2, 1) := by decide +kernel
theorem dX2_askConfidence_53 : decode cX2_askConfidence 53 = .ok (.aload_n 0, 1) := by decide +kernel
theorem dX2_askConfidence_54 : decode cX2_askConfidence 54 = .ok (.invokevirtual 190, 3) := by decide +kernel
theorem dX2_askConfidence_57 : decode cX2_askConfidence 57 = .ok (.iinc 1 1, 3) := by decide +kernel
theorem dX2_askConfidence_60 : decode cX2_askConfidence 60 = .ok (.goto (-58), 3) := by decide +kernel
theorem dX2_askConfidence_63 : decode cX2_askConfidence 63 = .ok (.return_, 1) := by decide +kernel
theorem dX2_payOffices_0 : decode cX2_payOffices 0 = .ok (.iconst 0, 1) := by decide +kernel
theorem dX2_payOffices_1 : decode cX2_payOffices 1 = .ok (.istore_n 1, 1) := by decide +kernel
theorem dX2_payOffices_2 : decode cX2_payOffices 2 = .ok (.iload_n 1, 1) := by decide +kernel
theorem dX2_payOffices_3 : decode cX2_payOffices 3 = .ok (.aload_n 0, 1) := by decide +kernel
theorem dX2_payOffices_4 : decode cX2_payOffices 4 = .ok (.getfield 61, 3) := by decide +kernel
theorem dX2_payOffices_7 : decode cX2_payOffices 7 = .ok (.invokevirtual 86, 3) := by decide +kernel
theorem dX2_payOffices_10 : decode cX2_payOffices 10 = .ok (.if_icmp .ge 32, 3) := by decide +kernel
theorem dX2_payOffices_13 : decode cX2_payOffices 13 = .ok (.aload_n 0, 1) := by decide +kernel
theorem dX2_payOffices_14 : decode cX2_payOffices 14 = .ok (.getfield 61, 3) := by decide +kernel
theorem dX2_payOffices_17 : decode cX2_payOffices 17 = .ok (.iload_n 1, 1) := by decide +kernel
theorem dX2_payOffices_18 : decode cX2_payOffices 18 = .ok (.invokevirtual 94, 3) := by decide +kernel
theorem dX2_payOffices_21 : decode cX2_payOffices 21 = .ok (.checkcast 77, 3) := by decide +kernel
theorem dX2_payOffices_24 : decode cX2_payOffices 24 = .ok (.getfield 175, 3) := by decide +kernel
theorem dX2_payOffices_27 : decode cX2_payOffices 27 = .ok (.ifnull 9, 3) := by decide +kernel
theorem dX2_payOffices_30 : decode cX2_payOffices 30 = .ok (.aload_n 0, 1) := by decide +kernel
theorem dX2_payOffices_31 : decode cX2_payOffices 31 = .ok (.iconst 2, 1) := by decide +kernel
theorem dX2_payOffices_32 : decode cX2_payOffices 32 = .ok (.invokevirtual 200, 3) := by decide +kernel
theorem dX2_payOffices_35 : decode cX2_payOffices 35 = .ok (.pop, 1) := by decide +kernel
theorem dX2_payOffices_36 : decode cX2_payOffices 36 = .ok (.iinc 1 1, 3) := by decide +kernel
theorem dX2_payOffices_39 : decode cX2_payOffices 39 = .ok (.goto (-37), 3) := by decide +kernel
theorem dX2_payOffices_42 : decode cX2_payOffices 42 = .ok (.return_, 1) := by decide +kernel
theorem dX2_letLease_0 : decode cX2_letLease 0 = .ok (.iload_n 1, 1) := by decide +kernel
theorem dX2_letLease_1 : decode cX2_letLease 1 = .ok (.iconst 0, 1) := by decide +kernel
theorem dX2_letLease_2 : decode cX2_letLease 2 = .ok (.iconst 2, 1) := by decide +kernel
theorem dX2_letLease_3 : decode cX2_letLease 3 = .ok (.invokestatic 90, 3) := by decide +kernel
theorem dX2_letLease_6 : decode cX2_letLease 6 = .ok (.ifCond .ne 5, 3) := by decide +kernel
theorem dX2_letLease_9 : decode cX2_letLease 9 = .ok (.aconst_null, 1) := by decide +kernel
theorem dX2_letLease_10 : decode cX2_letLease 10 = .ok (.areturn, 1) := by decide +kernel
theorem dX2_letLease_11 : decode cX2_letLease 11 = .ok (.aload_n 0, 1) := by decide +kernel
theorem dX2_letLease_12 : decode cX2_letLease 12 = .ok (.getfield 66, 3) := by decide +kernel
theorem dX2_letLease_15 : decode cX2_letLease 15 = .ok (.iload_n 1, 1) := by decide +kernel
theorem dX2_letLease_16 : decode cX2_letLease 16 = .ok (.aaload, 1) := by decide +kernel
theorem dX2_letLease_17 : decode cX2_letLease 17 = .ok (.astore 4, 2) := by decide +kernel
theorem dX2_letLease_19 : decode cX2_letLease 19 = .ok (.aload_n 0, 1) := by decide +kernel
theorem dX2_letLease_20 : decode cX2_letLease 20 = .ok (.getfield 66, 3) := by decide +kernel
theorem dX2_letLease_23 : decode cX2_letLease 23 = .ok (.iload_n 1, 1) := by decide +kernel
theorem dX2_letLease_24 : decode cX2_letLease 24 = .ok (.aload_n 2, 1) := by decide +kernel
theorem dX2_letLease_25 : decode cX2_letLease 25 = .ok (.aastore, 1) := by decide +kernel
theorem dX2_letLease_26 : decode cX2_letLease 26 = .ok (.aload_n 0, 1) := by decide +kernel
theorem dX2_letLease_27 : decode cX2_letLease 27 = .ok (.getfield 70, 3) := by decide +kernel
theorem dX2_letLease_30 : decode cX2_letLease 30 = .ok (.iload_n 1, 1) := by decide +kernel
theorem dX2_letLease_31 : decode cX2_letLease 31 = .ok (.iload_n 3, 1) := by decide +kernel
theorem dX2_letLease_32 : decode cX2_letLease 32 = .ok (.iastore, 1) := by decide +kernel
theorem dX2_letLease_33 : decode cX2_letLease 33 = .ok (.aload 4, 2) := by decide +kernel
theorem dX2_letLease_35 : decode cX2_letLease 35 = .ok (.areturn, 1) := by decide +kernel
theorem dX2_freeLease_0 : decode cX2_freeLease 0 = .ok (.aload_n 0, 1) := by decide +kernel
theorem dX2_freeLease_1 : decode cX2_freeLease 1 = .ok (.iload_n 1, 1) := by decide +kernel
theorem dX2_freeLease_2 : decode cX2_freeLease 2 = .ok (.aconst_null, 1) := by decide +kernel
theorem dX2_freeLease_3 : decode cX2_freeLease 3 = .ok (.iconst 0, 1) := by decide +kernel
theorem dX2_freeLease_4 : decode cX2_freeLease 4 = .ok (.invokevirtual 203, 3) := by decide +kernel
theorem dX2_freeLease_7 : decode cX2_freeLease 7 = .ok (.pop, 1) := by decide +kernel
theorem dX2_freeLease_8 : decode cX2_freeLease 8 = .ok (.return_, 1) := by decide +kernel
theorem dX2_collectRents_0 : decode cX2_collectRents 0 = .ok (.iconst 0, 1) := by decide +kernel
theorem dX2_collectRents_1 : decode cX2_collectRents 1 = .ok (.istore_n 1, 1) := by decide +kernel
theorem dX2_collectRents_2 : decode cX2_collectRents 2 = .ok (.iload_n 1, 1) := by decide +kernel
theorem dX2_collectRents_3 : decode cX2_collectRents 3 = .ok (.iconst 3, 1) := by decide +kernel
theorem dX2_collectRents_4 : decode cX2_collectRents 4 = .ok (.if_icmp .ge 31, 3) := by decide +kernel
theorem dX2_collectRents_7 : decode cX2_collectRents 7 = .ok (.aload_n 0, 1) := by decide +kernel
theorem dX2_collectRents_8 : decode cX2_collectRents 8 = .ok (.getfield 66, 3) := by decide +kernel
theorem dX2_collectRents_11 : decode cX2_collectRents 11 = .ok (.iload_n 1, 1) := by decide +kernel
theorem dX2_collectRents_12 : decode cX2_collectRents 12 = .ok (.aaload, 1) := by decide +kernel
theorem dX2_collectRents_13 : decode cX2_collectRents 13 = .ok (.astore_n 2, 1) := by decide +kernel
theorem dX2_collectRents_14 : decode cX2_collectRents 14 = .ok (.aload_n 2, 1) := by decide +kernel
theorem dX2_collectRents_15 : decode cX2_collectRents 15 = .ok (.ifnull 14, 3) := by decide +kernel
theorem dX2_collectRents_18 : decode cX2_collectRents 18 = .ok (.aload_n 0, 1) := by decide +kernel
theorem dX2_collectRents_19 : decode cX2_collectRents 19 = .ok (.aload_n 2, 1) := by decide +kernel
theorem dX2_collectRents_20 : decode cX2_collectRents 20 = .ok (.aload_n 0, 1) := by decide +kernel
theorem dX2_collectRents_21 : decode cX2_collectRents 21 = .ok (.getfield 70, 3) := by decide +kernel
theorem dX2_collectRents_24 : decode cX2_collectRents 24 = .ok (.iload_n 1, 1) := by decide +kernel
theorem dX2_collectRents_25 : decode cX2_collectRents 25 = .ok (.iaload, 1) := by decide +kernel
theorem dX2_collectRents_26 : decode cX2_collectRents 26 = .ok (.invokevirtual 207, 3) := by decide +kernel
theorem dX2_collectRents_29 : decode cX2_collectRents 29 = .ok (.iinc 1 1, 3) := by decide +kernel
theorem dX2_collectRents_32 : decode cX2_collectRents 32 = .ok (.goto (-30), 3) := by decide +kernel
theorem dX2_collectRents_35 : decode cX2_collectRents 35 = .ok (.iconst 0, 1) := by decide +kernel
theorem dX2_collectRents_36 : decode cX2_collectRents 36 = .ok (.istore_n 1, 1) := by decide +kernel
theorem dX2_collectRents_37 : decode cX2_collectRents 37 = .ok (.iload_n 1, 1) := by decide +kernel
theorem dX2_collectRents_38 : decode cX2_collectRents 38 = .ok (.iconst 3, 1) := by decide +kernel
theorem dX2_collectRents_39 : decode cX2_collectRents 39 = .ok (.if_icmp .ge 14, 3) := by decide +kernel
theorem dX2_collectRents_42 : decode cX2_collectRents 42 = .ok (.aload_n 0, 1) := by decide +kernel
theorem dX2_collectRents_43 : decode cX2_collectRents 43 = .ok (.iload_n 1, 1) := by decide +kernel
theorem dX2_collectRents_44 : decode cX2_collectRents 44 = .ok (.invokevirtual 178, 3) := by decide +kernel
theorem dX2_collectRents_47 : decode cX2_collectRents 47 = .ok (.iinc 1 1, 3) := by decide +kernel
theorem dX2_collectRents_50 : decode cX2_collectRents 50 = .ok (.goto (-13), 3) := by decide +kernel
theorem dX2_collectRents_53 : decode cX2_collectRents 53 = .ok (.return_, 1) := by decide +kernel
theorem dX2_growOlder_0 : decode cX2_growOlder 0 = .ok (.iconst 0, 1) := by decide +kernel
theorem dX2_growOlder_1 : decode cX2_growOlder 1 = .ok (.istore_n 1, 1) := by decide +kernel
theorem dX2_growOlder_2 : decode cX2_growOlder 2 = .ok (.iload_n 1, 1) := by decide +kernel
theorem dX2_growOlder_3 : decode cX2_growOlder 3 = .ok (.aload_n 0, 1) := by decide +kernel
theorem dX2_growOlder_4 : decode cX2_growOlder 4 = .ok (.getfield 57, 3) := by decide +kernel
theorem dX2_growOlder_7 : decode cX2_growOlder 7 = .ok (.invokevirtual 86, 3) := by decide +kernel
theorem dX2_growOlder_10 : decode cX2_growOlder 10 = .ok (.if_icmp .ge 46, 3) := by decide +kernel
theorem dX2_growOlder_13 : decode cX2_growOlder 13 = .ok (.aload_n 0, 1) := by decide +kernel
theorem dX2_growOlder_14 : decode cX2_growOlder 14 = .ok (.getfield 57, 3) := by decide +kernel
theorem dX2_growOlder_17 : decode cX2_growOlder 17 = .ok (.iload_n 1, 1) := by decide +kernel
theorem dX2_growOlder_18 : decode cX2_growOlder 18 = .ok (.invokevirtual 94, 3) := by decide +kernel
theorem dX2_growOlder_21 : decode cX2_growOlder 21 = .ok (.checkcast 64, 3) := by decide +kernel
theorem dX2_growOlder_24 : decode cX2_growOlder 24 = .ok (.astore_n 2, 1) := by decide +kernel
theorem dX2_growOlder_25 : decode cX2_growOlder 25 = .ok (.aload_n 2, 1) := by decide +kernel
theorem dX2_growOlder_26 : decode cX2_growOlder 26 = .ok (.dup, 1) := by decide +kernel
theorem dX2_growOlder_27 : decode cX2_growOlder 27 = .ok (.getfield 143, 3) := by decide +kernel
theorem dX2_growOlder_30 : decode cX2_growOlder 30 = .ok (.iconst 1, 1) := by decide +kernel
theorem dX2_growOlder_31 : decode cX2_growOlder 31 = .ok (.iadd, 1) := by decide +kernel
theorem dX2_growOlder_32 : decode cX2_growOlder 32 = .ok (.putfield 143, 3) := by decide +kernel
theorem dX2_growOlder_35 : decode cX2_growOlder 35 = .ok (.aload_n 2, 1) := by decide +kernel
theorem dX2_growOlder_36 : decode cX2_growOlder 36 = .ok (.getfield 143, 3) := by decide +kernel
theorem dX2_growOlder_39 : decode cX2_growOlder 39 = .ok (.bipush 75, 2) := by decide +kernel
theorem dX2_growOlder_41 : decode cX2_growOlder 41 = .ok (.if_icmp .lt 9, 3) := by decide +kernel
theorem dX2_growOlder_44 : decode cX2_growOlder 44 = .ok (.aload_n 0, 1) := by decide +kernel
theorem dX2_growOlder_45 : decode cX2_growOlder 45 = .ok (.aload_n 2, 1) := by decide +kernel
theorem dX2_growOlder_46 : decode cX2_growOlder 46 = .ok (.iconst 4, 1) := by decide +kernel
theorem dX2_growOlder_47 : decode cX2_growOlder 47 = .ok (.invokevirtual 123, 3) := by decide +kernel
theorem dX2_growOlder_50 : decode cX2_growOlder 50 = .ok (.iinc 1 1, 3) := by decide +kernel
theorem dX2_growOlder_53 : decode cX2_growOlder 53 = .ok (.goto (-51), 3) := by decide +kernel
theorem dX2_growOlder_56 : decode cX2_growOlder 56 = .ok (.return_, 1) := by decide +kernel
theorem dX2_areCitizensSound_0 : decode cX2_areCitizensSound 0 = .ok (.iconst 0, 1) := by decide +kernel
theorem dX2_areCitizensSound_1 : decode cX2_areCitizensSound 1 = .ok (.istore_n 1, 1) := by decide +kernel
theorem dX2_areCitizensSound_2 : decode cX2_areCitizensSound 2 = .ok (.iload_n 1, 1) := by decide +kernel
theorem dX2_areCitizensSound_3 : decode cX2_areCitizensSound 3 = .ok (.aload_n 0, 1) := by decide +kernel
theorem dX2_areCitizensSound_4 : decode cX2_areCitizensSound 4 = .ok (.getfield 57, 3) := by decide +kernel
theorem dX2_areCitizensSound_7 : decode cX2_areCitizensSound 7 = .ok (.invokevirtual 86, 3) := by decide +kernel
theorem dX2_areCitizensSound_10 : decode cX2_areCitizensSound 10 = .ok (.if_icmp .ge 47, 3) := by decide +kernel
theorem dX2_areCitizensSound_13 : decode cX2_areCitizensSound 13 = .ok (.aload_n 0, 1) := by decide +kernel
theorem dX2_areCitizensSound_14 : decode cX2_areCitizensSound 14 = .ok (.getfield 57, 3) := by decide +kernel
theorem dX2_areCitizensSound_17 : decode cX2_areCitizensSound 17 = .ok (.iload_n 1, 1) := by decide +kernel
theorem dX2_areCitizensSound_18 : decode cX2_areCitizensSound 18 = .ok (.invokevirtual 94, 3) := by decide +kernel
theorem dX2_areCitizensSound_21 : decode cX2_areCitizensSound 21 = .ok (.checkcast 64, 3) := by decide +kernel
theorem dX2_areCitizensSound_24 : decode cX2_areCitizensSound 24 = .ok (.astore_n 2, 1) := by decide +kernel
theorem dX2_areCitizensSound_25 : decode cX2_areCitizensSound 25 = .ok (.aload_n 2, 1) := by decide +kernel
theorem dX2_areCitizensSound_26 : decode cX2_areCitizensSound 26 = .ok (.invokevirtual 101, 3) := by decide +kernel
theorem dX2_areCitizensSound_29 : decode cX2_areCitizensSound 29 = .ok (.ifCond .eq 13, 3) := by decide +kernel
theorem dX2_areCitizensSound_32 : decode cX2_areCitizensSound 32 = .ok (.aload_n 2, 1) := by decide +kernel
theorem dX2_areCitizensSound_33 : decode cX2_areCitizensSound 33 = .ok (.getfield 168, 3) := by decide +kernel
theorem dX2_areCitizensSound_36 : decode cX2_areCitizensSound 36 = .ok (.ifCond .eq 15, 3) := by decide +kernel
theorem dX2_areCitizensSound_39 : decode cX2_areCitizensSound 39 = .ok (.goto 10, 3) := by decide +kernel
theorem dX2_areCitizensSound_42 : decode cX2_areCitizensSound 42 = .ok (.aload_n 2, 1) := by decide +kernel
theorem dX2_areCitizensSound_43 : decode cX2_areCitizensSound 43 = .ok (.getfield 134, 3) := by decide +kernel
theorem dX2_areCitizensSound_46 : decode cX2_areCitizensSound 46 = .ok (.ifCond .eq 5, 3) := by decide +kernel
theorem dX2_areCitizensSound_49 : decode cX2_areCitizensSound 49 = .ok (.iconst 0, 1) := by decide +kernel
theorem dX2_areCitizensSound_50 : decode cX2_areCitizensSound 50 = .ok (.ireturn, 1) := by decide +kernel
theorem dX2_areCitizensSound_51 : decode cX2_areCitizensSound 51 = .ok (.iinc 1 1, 3) := by decide +kernel
theorem dX2_areCitizensSound_54 : decode cX2_areCitizensSound 54 = .ok (.goto (-52), 3) := by decide +kernel
theorem dX2_areCitizensSound_57 : decode cX2_areCitizensSound 57 = .ok (.iconst 1, 1) := by decide +kernel
theorem dX2_areCitizensSound_58 : decode cX2_areCitizensSound 58 = .ok (.ireturn, 1) := by decide +kernel
theorem dX2_areOfficesSound_0 : decode cX2_areOfficesSound 0 = .ok (.iconst 0, 1) := by decide +kernel
theorem dX2_areOfficesSound_1 : decode cX2_areOfficesSound 1 = .ok (.istore_n 1, 1) := by decide +kernel
theorem dX2_areOfficesSound_2 : decode cX2_areOfficesSound 2 = .ok (.iload_n 1, 1) := by decide +kernel
theorem dX2_areOfficesSound_3 : decode cX2_areOfficesSound 3 = .ok (.aload_n 0, 1) := by decide +kernel
theorem dX2_areOfficesSound_4 : decode cX2_areOfficesSound 4 = .ok (.getfield 61, 3) := by decide +kernel
theorem dX2_areOfficesSound_7 : decode cX2_areOfficesSound 7 = .ok (.invokevirtual 86, 3) := by decide +kernel
theorem dX2_areOfficesSound_10 : decode cX2_areOfficesSound 10 = .ok (.if_icmp .ge 46, 3) := by decide +kernel
theorem dX2_areOfficesSound_13 : decode cX2_areOfficesSound 13 = .ok (.aload_n 0, 1) := by decide +kernel
theorem dX2_areOfficesSound_14 : decode cX2_areOfficesSound 14 = .ok (.getfield 61, 3) := by decide +kernel
theorem dX2_areOfficesSound_17 : decode cX2_areOfficesSound 17 = .ok (.iload_n 1, 1) := by decide +kernel
theorem dX2_areOfficesSound_18 : decode cX2_areOfficesSound 18 = .ok (.invokevirtual 94, 3) := by decide +kernel
theorem dX2_areOfficesSound_21 : decode cX2_areOfficesSound 21 = .ok (.checkcast 77, 3) := by decide +kernel
theorem dX2_areOfficesSound_24 : decode cX2_areOfficesSound 24 = .ok (.getfield 175, 3) := by decide +kernel
theorem dX2_areOfficesSound_27 : decode cX2_areOfficesSound 27 = .ok (.astore_n 2, 1) := by decide +kernel
theorem dX2_areOfficesSound_28 : decode cX2_areOfficesSound 28 = .ok (.aload_n 2, 1) := by decide +kernel
theorem dX2_areOfficesSound_29 : decode cX2_areOfficesSound 29 = .ok (.ifnull 21, 3) := by decide +kernel
theorem dX2_areOfficesSound_32 : decode cX2_areOfficesSound 32 = .ok (.aload_n 2, 1) := by decide +kernel
theorem dX2_areOfficesSound_33 : decode cX2_areOfficesSound 33 = .ok (.invokevirtual 210, 3) := by decide +kernel
theorem dX2_areOfficesSound_36 : decode cX2_areOfficesSound 36 = .ok (.ifCond .eq 12, 3) := by decide +kernel
theorem dX2_areOfficesSound_39 : decode cX2_areOfficesSound 39 = .ok (.aload_n 0, 1) := by decide +kernel
theorem dX2_areOfficesSound_40 : decode cX2_areOfficesSound 40 = .ok (.aload_n 2, 1) := by decide +kernel
theorem dX2_areOfficesSound_41 : decode cX2_areOfficesSound 41 = .ok (.invokevirtual 213, 3) := by decide +kernel
theorem dX2_areOfficesSound_44 : decode cX2_areOfficesSound 44 = .ok (.iload_n 1, 1) := by decide +kernel
theorem dX2_areOfficesSound_45 : decode cX2_areOfficesSound 45 = .ok (.if_icmp .eq 5, 3) := by decide +kernel
theorem dX2_areOfficesSound_48 : decode cX2_areOfficesSound 48 = .ok (.iconst 0, 1) := by decide +kernel
theorem dX2_areOfficesSound_49 : decode cX2_areOfficesSound 49 = .ok (.ireturn, 1) := by decide +kernel
theorem dX2_areOfficesSound_50 : decode cX2_areOfficesSound 50 = .ok (.iinc 1 1, 3) := by decide +kernel
theorem dX2_areOfficesSound_53 : decode cX2_areOfficesSound 53 = .ok (.goto (-51), 3) := by decide +kernel
theorem dX2_areOfficesSound_56 : decode cX2_areOfficesSound 56 = .ok (.iconst 1, 1) := by decide +kernel
theorem dX2_areOfficesSound_57 : decode cX2_areOfficesSound 57 = .ok (.ireturn, 1) := by decide +kernel
theorem dX2_isTreasurySound_0 : decode cX2_isTreasurySound 0 = .ok (.aload_n 0, 1) := by decide +kernel
theorem dX2_isTreasurySound_1 : decode cX2_isTreasurySound 1 = .ok (.getfield 22, 3) := by decide +kernel
theorem dX2_isTreasurySound_4 : decode cX2_isTreasurySound 4 = .ok (.sipush 300, 3) := by decide +kernel
theorem dX2_isTreasurySound_7 : decode cX2_isTreasurySound 7 = .ok (.aload_n 0, 1) := by decide +kernel
theorem dX2_isTreasurySound_8 : decode cX2_isTreasurySound 8 = .ok (.getfield 25, 3) := by decide +kernel
theorem dX2_isTreasurySound_11 : decode cX2_isTreasurySound 11 = .ok (.iadd, 1) := by decide +kernel
theorem dX2_isTreasurySound_12 : decode cX2_isTreasurySound 12 = .ok (.aload_n 0, 1) := by decide +kernel
theorem dX2_isTreasurySound_13 : decode cX2_isTreasurySound 13 = .ok (.getfield 28, 3) := by decide +kernel
theorem dX2_isTreasurySound_16 : decode cX2_isTreasurySound 16 = .ok (.isub, 1) := by decide +kernel
theorem dX2_isTreasurySound_17 : decode cX2_isTreasurySound 17 = .ok (.if_icmp .ne 7, 3) := by decide +kernel
theorem dX2_isTreasurySound_20 : decode cX2_isTreasurySound 20 = .ok (.iconst 1, 1) := by decide +kernel
theorem dX2_isTreasurySound_21 : decode cX2_isTreasurySound 21 = .ok (.goto 4, 3) := by decide +kernel
theorem dX2_isTreasurySound_24 : decode cX2_isTreasurySound 24 = .ok (.iconst 0, 1) := by decide +kernel
theorem dX2_isTreasurySound_25 : decode cX2_isTreasurySound 25 = .ok (.ireturn, 1) := by decide +kernel
theorem dX3_init_0 : decode cX3_init 0 = .ok (.aload_n 0, 1) := by decide +kernel
theorem dX3_init_1 : decode cX3_init 1 = .ok (.invokespecial 3, 3) := by decide +kernel
theorem dX3_init_4 : decode cX3_init 4 = .ok (.aload_n 0, 1) := by decide +kernel
theorem dX3_init_5 : decode cX3_init 5 = .ok (.iconst 4, 1) := by decide +kernel
theorem dX3_init_6 : decode cX3_init 6 = .ok (.newarray .int, 2) := by decide +kernel
theorem dX3_init_8 : decode cX3_init 8 = .ok (.putfield 9, 3) := by decide +kernel
theorem dX3_init_11 : decode cX3_init 11 = .ok (.aload_n 0, 1) := by decide +kernel
theorem dX3_init_12 : decode cX3_init 12 = .ok (.iconst 4, 1) := by decide +kernel
theorem dX3_init_13 : decode cX3_init 13 = .ok (.newarray .int, 2) := by decide +kernel
theorem dX3_init_15 : decode cX3_init 15 = .ok (.putfield 15, 3) := by decide +kernel
theorem dX3_init_18 : decode cX3_init 18 = .ok (.aload_n 0, 1) := by decide +kernel
theorem dX3_init_19 : decode cX3_init 19 = .ok (.new 18, 3) := by decide +kernel
theorem dX3_init_22 : decode cX3_init 22 = .ok (.dup, 1) := by decide +kernel
theorem dX3_init_23 : decode cX3_init 23 = .ok (.invokespecial 20, 3) := by decide +kernel
theorem dX3_init_26 : decode cX3_init 26 = .ok (.putfield 21, 3) := by decide +kernel
theorem dX3_init_29 : decode cX3_init 29 = .ok (.aload_n 0, 1) := by decide +kernel
theorem dX3_init_30 : decode cX3_init 30 = .ok (.new 18, 3) := by decide +kernel
theorem dX3_init_33 : decode cX3_init 33 = .ok (.dup, 1) := by decide +kernel
theorem dX3_init_34 : decode cX3_init 34 = .ok (.invokespecial 20, 3) := by decide +kernel
theorem dX3_init_37 : decode cX3_init 37 = .ok (.putfield 25, 3) := by decide +kernel
theorem dX3_init_40 : decode cX3_init 40 = .ok (.aload_n 0, 1) := by decide +kernel
theorem dX3_init_41 : decode cX3_init 41 = .ok (.aload_n 1, 1) := by decide +kernel
theorem dX3_init_42 : decode cX3_init 42 = .ok (.putfield 28, 3) := by decide +kernel
theorem dX3_init_45 : decode cX3_init 45 = .ok (.aload_n 0, 1) := by decide +kernel
theorem dX3_init_46 : decode cX3_init 46 = .ok (.getfield 9, 3) := by decide +kernel
theorem dX3_init_49 : decode cX3_init 49 = .ok (.iconst (-1), 1) := by decide +kernel
theorem dX3_init_50 : decode cX3_init 50 = .ok (.invokestatic 32, 3) := by decide +kernel
theorem dX3_init_53 : decode cX3_init 53 = .ok (.return_, 1) := by decide +kernel
theorem dX3_size_0 : decode cX3_size 0 = .ok (.aload_n 0, 1) := by decide +kernel
theorem dX3_size_1 : decode cX3_size 1 = .ok (.getfield 28, 3) := by decide +kernel
theorem dX3_size_4 : decode cX3_size 4 = .ok (.invokevirtual 38, 3) := by decide +kernel
theorem dX3_size_7 : decode cX3_size 7 = .ok (.ireturn, 1) := by decide +kernel
theorem dX3_drawMembers_0 : decode cX3_drawMembers 0 = .ok (.aload_n 0, 1) := by decide +kernel
theorem dX3_drawMembers_1 : decode cX3_drawMembers 1 = .ok (.getfield 28, 3) := by decide +kernel
theorem dX3_drawMembers_4 : decode cX3_drawMembers 4 = .ok (.invokevirtual 44, 3) := by decide +kernel
theorem dX3_drawMembers_7 : decode cX3_drawMembers 7 = .ok (.aload_n 0, 1) := by decide +kernel
theorem dX3_drawMembers_8 : decode cX3_drawMembers 8 = .ok (.getfield 25, 3) := by decide +kernel
theorem dX3_drawMembers_11 : decode cX3_drawMembers 11 = .ok (.invokevirtual 47, 3) := by decide +kernel
theorem dX3_drawMembers_14 : decode cX3_drawMembers 14 = .ok (.iconst 0, 1) := by decide +kernel
theorem dX3_drawMembers_15 : decode cX3_drawMembers 15 = .ok (.istore_n 1, 1) := by decide +kernel
theorem dX3_drawMembers_16 : decode cX3_drawMembers 16 = .ok (.iload_n 1, 1) := by decide +kernel
theorem dX3_drawMembers_17 : decode cX3_drawMembers 17 = .ok (.iconst 4, 1) := by decide +kernel
theorem dX3_drawMembers_18 : decode cX3_drawMembers 18 = .ok (.if_icmp .ge 33, 3) := by decide +kernel
theorem dX3_drawMembers_21 : decode cX3_drawMembers 21 = .ok (.aload_n 0, 1) := by decide +kernel
theorem dX3_drawMembers_22 : decode cX3_drawMembers 22 = .ok (.iload_n 1, 1) := by decide +kernel
theorem dX3_drawMembers_23 : decode cX3_drawMembers 23 = .ok (.invokevirtual 50, 3) := by decide +kernel
theorem dX3_drawMembers_26 : decode cX3_drawMembers 26 = .ok (.aload_n 0, 1) := by decide +kernel
theorem dX3_drawMembers_27 : decode cX3_drawMembers 27 = .ok (.getfield 28, 3) := by decide +kernel
theorem dX3_drawMembers_30 : decode cX3_drawMembers 30 = .ok (.getfield 54, 3) := by decide +kernel
theorem dX3_drawMembers_33 : decode cX3_drawMembers 33 = .ok (.aload_n 0, 1) := by decide +kernel
theorem dX3_drawMembers_34 : decode cX3_drawMembers 34 = .ok (.getfield 21, 3) := by decide +kernel
theorem dX3_drawMembers_37 : decode cX3_drawMembers 37 = .ok (.iconst 1, 1) := by decide +kernel
theorem dX3_drawMembers_38 : decode cX3_drawMembers 38 = .ok (.aload_n 0, 1) := by decide +kernel
theorem dX3_drawMembers_39 : decode cX3_drawMembers 39 = .ok (.getfield 25, 3) := by decide +kernel
theorem dX3_drawMembers_42 : decode cX3_drawMembers 42 = .ok (.invokevirtual 58, 3) := by decide +kernel
theorem dX3_drawMembers_45 : decode cX3_drawMembers 45 = .ok (.iinc 1 1, 3) := by decide +kernel
theorem dX3_drawMembers_48 : decode cX3_drawMembers 48 = .ok (.goto (-32), 3) := by decide +kernel
theorem dX3_drawMembers_51 : decode cX3_drawMembers 51 = .ok (.iconst 0, 1) := by decide +kernel
theorem dX3_drawMembers_52 : decode cX3_drawMembers 52 = .ok (.istore_n 1, 1) := by decide +kernel
theorem dX3_drawMembers_53 : decode cX3_drawMembers 53 = .ok (.iload_n 1, 1) := by decide +kernel
theorem dX3_drawMembers_54 : decode cX3_drawMembers 54 = .ok (.aload_n 0, 1) := by decide +kernel
theorem dX3_drawMembers_55 : decode cX3_drawMembers 55 = .ok (.getfield 25, 3) := by decide +kernel
theorem dX3_drawMembers_58 : decode cX3_drawMembers 58 = .ok (.invokevirtual 64, 3) := by decide +kernel
theorem dX3_drawMembers_61 : decode cX3_drawMembers 61 = .ok (.if_icmp .ge 44, 3) := by decide +kernel
theorem dX3_drawMembers_64 : decode cX3_drawMembers 64 = .ok (.aload_n 0, 1) := by decide +kernel
theorem dX3_drawMembers_65 : decode cX3_drawMembers 65 = .ok (.getfield 25, 3) := by decide +kernel
theorem dX3_drawMembers_68 : decode cX3_drawMembers 68 = .ok (.iload_n 1, 1) := by decide +kernel
theorem dX3_drawMembers_69 : decode cX3_drawMembers 69 = .ok (.invokevirtual 67, 3) := by decide +kernel
theorem dX3_drawMembers_72 : decode cX3_drawMembers 72 = .ok (.checkcast 71, 3) := by decide +kernel
theorem dX3_drawMembers_75 : decode cX3_drawMembers 75 = .ok (.iconst 1, 1) := by decide +kernel
theorem dX3_drawMembers_76 : decode cX3_drawMembers 76 = .ok (.putfield 73, 3) := by decide +kernel
theorem dX3_drawMembers_79 : decode cX3_drawMembers 79 = .ok (.aload_n 0, 1) := by decide +kernel
theorem dX3_drawMembers_80 : decode cX3_drawMembers 80 = .ok (.getfield 25, 3) := by decide +kernel
theorem dX3_drawMembers_83 : decode cX3_drawMembers 83 = .ok (.iload_n 1, 1) := by decide +kernel
theorem dX3_drawMembers_84 : decode cX3_drawMembers 84 = .ok (.invokevirtual 67, 3) := by decide +kernel
theorem dX3_drawMembers_87 : decode cX3_drawMembers 87 = .ok (.checkcast 71, 3) := by decide +kernel
theorem dX3_drawMembers_90 : decode cX3_drawMembers 90 = .ok (.dup, 1) := by decide +kernel
theorem dX3_drawMembers_91 : decode cX3_drawMembers 91 = .ok (.getfield 77, 3) := by decide +kernel
theorem dX3_drawMembers_94 : decode cX3_drawMembers 94 = .ok (.iconst 1, 1) := by decide +kernel
theorem dX3_drawMembers_95 : decode cX3_drawMembers 95 = .ok (.iadd, 1) := by decide +kernel
theorem dX3_drawMembers_96 : decode cX3_drawMembers 96 = .ok (.putfield 77, 3) := by decide +kernel
theorem dX3_drawMembers_99 : decode cX3_drawMembers 99 = .ok (.iinc 1 1, 3) := by decide +kernel
theorem dX3_drawMembers_102 : decode cX3_drawMembers 102 = .ok (.goto (-49), 3) := by decide +kernel
theorem dX3_drawMembers_105 : decode cX3_drawMembers 105 = .ok (.aload_n 0, 1) := by decide +kernel
theorem dX3_drawMembers_106 : decode cX3_drawMembers 106 = .ok (.invokevirtual 81, 3) := by decide +kernel
theorem dX3_drawMembers_109 : decode cX3_drawMembers 109 = .ok (.return_, 1) := by decide +kernel
theorem dX3_gatherTickets_0 : decode cX3_gatherTickets 0 = .ok (.aload_n 0, 1) := by decide +kernel
theorem dX3_gatherTickets_1 : decode cX3_gatherTickets 1 = .ok (.getfield 21, 3) := by decide +kernel
theorem dX3_gatherTickets_4 : decode cX3_gatherTickets 4 = .ok (.invokevirtual 47, 3) := by decide +kernel
theorem dX3_gatherTickets_7 : decode cX3_gatherTickets 7 = .ok (.iconst 0, 1) := by decide +kernel
theorem dX3_gatherTickets_8 : decode cX3_gatherTickets 8 = .ok (.istore_n 2, 1) := by decide +kernel
theorem dX3_gatherTickets_9 : decode cX3_gatherTickets 9 = .ok (.iload_n 2, 1) := by decide +kernel
theorem dX3_gatherTickets_10 : decode cX3_gatherTickets 10 = .ok (.aload_n 0, 1) := by decide +kernel
theorem dX3_gatherTickets_11 : decode cX3_gatherTickets 11 = .ok (.getfield 28, 3) := by decide +kernel
theorem dX3_gatherTickets_14 : decode cX3_gatherTickets 14 = .ok (.getfield 84, 3) := by decide +kernel
theorem dX3_gatherTickets_17 : decode cX3_gatherTickets 17 = .ok (.invokevirtual 64, 3) := by decide +kernel
theorem dX3_gatherTickets_20 : decode cX3_gatherTickets 20 = .ok (.if_icmp .ge 49, 3) := by decide +kernel
theorem dX3_gatherTickets_23 : decode cX3_gatherTickets 23 = .ok (.aload_n 0, 1) := by decide +kernel
theorem dX3_gatherTickets_24 : decode cX3_gatherTickets 24 = .ok (.getfield 28, 3) := by decide +kernel
theorem dX3_gatherTickets_27 : decode cX3_gatherTickets 27 = .ok (.getfield 84, 3) := by decide +kernel
theorem dX3_gatherTickets_30 : decode cX3_gatherTickets 30 = .ok (.iload_n 2, 1) := by decide +kernel
theorem dX3_gatherTickets_31 : decode cX3_gatherTickets 31 = .ok (.invokevirtual 67, 3) := by decide +kernel
theorem dX3_gatherTickets_34 : decode cX3_gatherTickets 34 = .ok (.checkcast 71, 3) := by decide +kernel
theorem dX3_gatherTickets_37 : decode cX3_gatherTickets 37 = .ok (.astore_n 3, 1) := by decide +kernel
theorem dX3_gatherTickets_38 : decode cX3_gatherTickets 38 = .ok (.aload_n 3, 1) := by decide +kernel
theorem dX3_gatherTickets_39 : decode cX3_gatherTickets 39 = .ok (.invokevirtual 87, 3) := by decide +kernel
theorem dX3_gatherTickets_42 : decode cX3_gatherTickets 42 = .ok (.iload_n 1, 1) := by decide +kernel
theorem dX3_gatherTickets_43 : decode cX3_gatherTickets 43 = .ok (.if_icmp .ne 20, 3) := by decide +kernel
theorem dX3_gatherTickets_46 : decode cX3_gatherTickets 46 = .ok (.aload_n 0, 1) := by decide +kernel
theorem dX3_gatherTickets_47 : decode cX3_gatherTickets 47 = .ok (.aload_n 3, 1) := by decide +kernel
theorem dX3_gatherTickets_48 : decode cX3_gatherTickets 48 = .ok (.invokevirtual 90, 3) := by decide +kernel
theorem dX3_gatherTickets_51 : decode cX3_gatherTickets 51 = .ok (.ifCond .eq 12, 3) := by decide +kernel
theorem dX3_gatherTickets_54 : decode cX3_gatherTickets 54 = .ok (.aload_n 0, 1) := by decide +kernel
theorem dX3_gatherTickets_55 : decode cX3_gatherTickets 55 = .ok (.getfield 21, 3) := by decide +kernel
theorem dX3_gatherTickets_58 : decode cX3_gatherTickets 58 = .ok (.aload_n 3, 1) := by decide +kernel
theorem dX3_gatherTickets_59 : decode cX3_gatherTickets 59 = .ok (.invokevirtual 94, 3) := by decide +kernel
theorem dX3_gatherTickets_62 : decode cX3_gatherTickets 62 = .ok (.pop, 1) := by decide +kernel
theorem dX3_gatherTickets_63 : decode cX3_gatherTickets 63 = .ok (.iinc 2 1, 3) := by decide +kernel
theorem dX3_gatherTickets_66 : decode cX3_gatherTickets 66 = .ok (.goto (-57), 3) := by decide +kernel
theorem dX3_gatherTickets_69 : decode cX3_gatherTickets 69 = .ok (.return_, 1) := by decide +kernel
theorem dX3_isEligible_0 : decode cX3_isEligible 0 = .ok (.aload_n 1, 1) := by decide +kernel
theorem dX3_isEligible_1 : decode cX3_isEligible 1 = .ok (.invokevirtual 98, 3) := by decide +kernel
theorem dX3_isEligible_4 : decode cX3_isEligible 4 = .ok (.ifCond .eq 50, 3) := by decide +kernel
theorem dX3_isEligible_7 : decode cX3_isEligible 7 = .ok (.aload_n 1, 1) := by decide +kernel
theorem dX3_isEligible_8 : decode cX3_isEligible 8 = .ok (.aload_n 0, 1) := by decide +kernel
theorem dX3_isEligible_9 : decode cX3_isEligible 9 = .ok (.getfield 28, 3) := by decide +kernel
theorem dX3_isEligible_12 : decode cX3_isEligible 12 = .ok (.getfield 102, 3) := by decide +kernel
theorem dX3_isEligible_15 : decode cX3_isEligible 15 = .ok (.invokevirtual 105, 3) := by decide +kernel
theorem dX3_isEligible_18 : decode cX3_isEligible 18 = .ok (.ifCond .ne 36, 3) := by decide +kernel
theorem dX3_isEligible_21 : decode cX3_isEligible 21 = .ok (.aload_n 1, 1) := by decide +kernel
theorem dX3_isEligible_22 : decode cX3_isEligible 22 = .ok (.getfield 109, 3) := by decide +kernel
theorem dX3_isEligible_25 : decode cX3_isEligible 25 = .ok (.bipush 30, 2) := by decide +kernel
theorem dX3_isEligible_27 : decode cX3_isEligible 27 = .ok (.if_icmp .lt 27, 3) := by decide +kernel
theorem dX3_isEligible_30 : decode cX3_isEligible 30 = .ok (.aload_n 0, 1) := by decide +kernel
theorem dX3_isEligible_31 : decode cX3_isEligible 31 = .ok (.getfield 28, 3) := by decide +kernel
theorem dX3_isEligible_34 : decode cX3_isEligible 34 = .ok (.aload_n 1, 1) := by decide +kernel
theorem dX3_isEligible_35 : decode cX3_isEligible 35 = .ok (.invokevirtual 112, 3) := by decide +kernel
theorem dX3_isEligible_38 : decode cX3_isEligible 38 = .ok (.iconst (-1), 1) := by decide +kernel
theorem dX3_isEligible_39 : decode cX3_isEligible 39 = .ok (.if_icmp .ne 15, 3) := by decide +kernel
theorem dX3_isEligible_42 : decode cX3_isEligible 42 = .ok (.aload_n 1, 1) := by decide +kernel
theorem dX3_isEligible_43 : decode cX3_isEligible 43 = .ok (.getfield 77, 3) := by decide +kernel
theorem dX3_isEligible_46 : decode cX3_isEligible 46 = .ok (.iconst 2, 1) := by decide +kernel
theorem dX3_isEligible_47 : decode cX3_isEligible 47 = .ok (.if_icmp .ge 7, 3) := by decide +kernel
theorem dX3_isEligible_50 : decode cX3_isEligible 50 = .ok (.iconst 1, 1) := by decide +kernel
theorem dX3_isEligible_51 : decode cX3_isEligible 51 = .ok (.goto 4, 3) := by decide +kernel
theorem dX3_isEligible_54 : decode cX3_isEligible 54 = .ok (.iconst 0, 1) := by decide +kernel
theorem dX3_isEligible_55 : decode cX3_isEligible 55 = .ok (.ireturn, 1) := by decide +kernel
theorem dX3_drawOrder_0 : decode cX3_drawOrder 0 = .ok (.iconst 0, 1) := by decide +kernel
theorem dX3_drawOrder_1 : decode cX3_drawOrder 1 = .ok (.istore_n 1, 1) := by decide +kernel
theorem dX3_drawOrder_2 : decode cX3_drawOrder 2 = .ok (.iload_n 1, 1) := by decide +kernel
theorem dX3_drawOrder_3 : decode cX3_drawOrder 3 = .ok (.iconst 4, 1) := by decide +kernel
theorem dX3_drawOrder_4 : decode cX3_drawOrder 4 = .ok (.if_icmp .ge 16, 3) := by decide +kernel
theorem dX3_drawOrder_7 : decode cX3_drawOrder 7 = .ok (.aload_n 0, 1) := by decide +kernel
theorem dX3_drawOrder_8 : decode cX3_drawOrder 8 = .ok (.getfield 15, 3) := by decide +kernel
theorem dX3_drawOrder_11 : decode cX3_drawOrder 11 = .ok (.iload_n 1, 1) := by decide +kernel
theorem dX3_drawOrder_12 : decode cX3_drawOrder 12 = .ok (.iload_n 1, 1) := by decide +kernel
theorem dX3_drawOrder_13 : decode cX3_drawOrder 13 = .ok (.iastore, 1) := by decide +kernel
theorem dX3_drawOrder_14 : decode cX3_drawOrder 14 = .ok (.iinc 1 1, 3) := by decide +kernel
theorem dX3_drawOrder_17 : decode cX3_drawOrder 17 = .ok (.goto (-15), 3) := by decide +kernel
theorem dX3_drawOrder_20 : decode cX3_drawOrder 20 = .ok (.iconst 0, 1) := by decide +kernel
theorem dX3_drawOrder_21 : decode cX3_drawOrder 21 = .ok (.istore_n 1, 1) := by decide +kernel
theorem dX3_drawOrder_22 : decode cX3_drawOrder 22 = .ok (.iload_n 1, 1) := by decide +kernel
theorem dX3_drawOrder_23 : decode cX3_drawOrder 23 = .ok (.iconst 4, 1) := by decide +kernel
theorem dX3_drawOrder_24 : decode cX3_drawOrder 24 = .ok (.if_icmp .ge 87, 3) := by decide +kernel
theorem dX3_drawOrder_27 : decode cX3_drawOrder 27 = .ok (.iconst 4, 1) := by decide +kernel
theorem dX3_drawOrder_28 : decode cX3_drawOrder 28 = .ok (.iload_n 1, 1) := by decide +kernel
theorem dX3_drawOrder_29 : decode cX3_drawOrder 29 = .ok (.isub, 1) := by decide +kernel
theorem dX3_drawOrder_30 : decode cX3_drawOrder 30 = .ok (.istore_n 2, 1) := by decide +kernel
theorem dX3_drawOrder_31 : decode cX3_drawOrder 31 = .ok (.iload_n 2, 1) := by decide +kernel
theorem dX3_drawOrder_32 : decode cX3_drawOrder 32 = .ok (.iconst 1, 1) := by decide +kernel
theorem dX3_drawOrder_33 : decode cX3_drawOrder 33 = .ok (.if_icmp .le 17, 3) := by decide +kernel
theorem dX3_drawOrder_36 : decode cX3_drawOrder 36 = .ok (.aload_n 0, 1) := by decide +kernel
theorem dX3_drawOrder_37 : decode cX3_drawOrder 37 = .ok (.getfield 28, 3) := by decide +kernel
theorem dX3_drawOrder_40 : decode cX3_drawOrder 40 = .ok (.getfield 54, 3) := by decide +kernel
theorem dX3_drawOrder_43 : decode cX3_drawOrder 43 = .ok (.iload_n 2, 1) := by decide +kernel
theorem dX3_drawOrder_44 : decode cX3_drawOrder 44 = .ok (.invokevirtual 116, 3) := by decide +kernel
theorem dX3_drawOrder_47 : decode cX3_drawOrder 47 = .ok (.goto 4, 3) := by decide +kernel
theorem dX3_drawOrder_50 : decode cX3_drawOrder 50 = .ok (.iconst 0, 1) := by decide +kernel
theorem dX3_drawOrder_51 : decode cX3_drawOrder 51 = .ok (.istore_n 3, 1) := by decide +kernel
theorem dX3_drawOrder_52 : decode cX3_drawOrder 52 = .ok (.aload_n 0, 1) := by decide +kernel
theorem dX3_drawOrder_53 : decode cX3_drawOrder 53 = .ok (.getfield 9, 3) := by decide +kernel
theorem dX3_drawOrder_56 : decode cX3_drawOrder 56 = .ok (.iload_n 1, 1) := by decide +kernel
theorem dX3_drawOrder_57 : decode cX3_drawOrder 57 = .ok (.aload_n 0, 1) := by decide +kernel
theorem dX3_drawOrder_58 : decode cX3_drawOrder 58 = .ok (.getfield 15, 3) := by decide +kernel
theorem dX3_drawOrder_61 : decode cX3_drawOrder 61 = .ok (.iload_n 3, 1) := by decide +kernel
theorem dX3_drawOrder_62 : decode cX3_drawOrder 62 = .ok (.invokestatic 120, 3) := by decide +kernel
theorem dX3_drawOrder_65 : decode cX3_drawOrder 65 = .ok (.invokestatic 124, 3) := by decide +kernel
theorem dX3_drawOrder_68 : decode cX3_drawOrder 68 = .ok (.iload_n 3, 1) := by decide +kernel
theorem dX3_drawOrder_69 : decode cX3_drawOrder 69 = .ok (.istore 4, 2) := by decide +kernel
theorem dX3_drawOrder_71 : decode cX3_drawOrder 71 = .ok (.iload 4, 2) := by decide +kernel
theorem dX3_drawOrder_73 : decode cX3_drawOrder 73 = .ok (.iconst 1, 1) := by decide +kernel
theorem dX3_drawOrder_74 : decode cX3_drawOrder 74 = .ok (.iadd, 1) := by decide +kernel
theorem dX3_drawOrder_75 : decode cX3_drawOrder 75 = .ok (.iload_n 2, 1) := by decide +kernel
theorem dX3_drawOrder_76 : decode cX3_drawOrder 76 = .ok (.if_icmp .ge 29, 3) := by decide +kernel
theorem dX3_drawOrder_79 : decode cX3_drawOrder 79 = .ok (.aload_n 0, 1) := by decide +kernel
theorem dX3_drawOrder_80 : decode cX3_drawOrder 80 = .ok (.getfield 15, 3) := by decide +kernel
theorem dX3_drawOrder_83 : decode cX3_drawOrder 83 = .ok (.iload 4, 2) := by decide +kernel
theorem dX3_drawOrder_85 : decode cX3_drawOrder 85 = .ok (.aload_n 0, 1) := by decide +kernel
theorem dX3_drawOrder_86 : decode cX3_drawOrder 86 = .ok (.getfield 15, 3) := by decide +kernel
theorem dX3_drawOrder_89 : decode cX3_drawOrder 89 = .ok (.iload 4, 2) := by decide +kernel
theorem dX3_drawOrder_91 : decode cX3_drawOrder 91 = .ok (.iconst 1, 1) := by decide +kernel
theorem dX3_drawOrder_92 : decode cX3_drawOrder 92 = .ok (.iadd, 1) := by decide +kernel
theorem dX3_drawOrder_93 : decode cX3_drawOrder 93 = .ok (.invokestatic 120, 3) := by decide +kernel
theorem dX3_drawOrder_96 : decode cX3_drawOrder 96 = .ok (.invokestatic 124, 3) := by decide +kernel
theorem dX3_drawOrder_99 : decode cX3_drawOrder 99 = .ok (.iinc 4 1, 3) := by decide +kernel
theorem dX3_drawOrder_102 : decode cX3_drawOrder 102 = .ok (.goto (-31), 3) := by decide +kernel
theorem dX3_drawOrder_105 : decode cX3_drawOrder 105 = .ok (.iinc 1 1, 3) := by decide +kernel
theorem dX3_drawOrder_108 : decode cX3_drawOrder 108 = .ok (.goto (-86), 3) := by decide +kernel
theorem dX3_drawOrder_111 : decode cX3_drawOrder 111 = .ok (.return_, 1) := by decide +kernel
theorem dX3_prytanyTribe_0 : decode cX3_prytanyTribe 0 = .ok (.aload_n 0, 1) := by decide +kernel
theorem dX3_prytanyTribe_1 : decode cX3_prytanyTribe 1 = .ok (.getfield 9, 3) := by decide +kernel
theorem dX3_prytanyTribe_4 : decode cX3_prytanyTribe 4 = .ok (.aload_n 0, 1) := by decide +kernel
theorem dX3_prytanyTribe_5 : decode cX3_prytanyTribe 5 = .ok (.getfield 28, 3) := by decide +kernel
theorem dX3_prytanyTribe_8 : decode cX3_prytanyTribe 8 = .ok (.invokevirtual 128, 3) := by decide +kernel
theorem dX3_prytanyTribe_11 : decode cX3_prytanyTribe 11 = .ok (.invokestatic 120, 3) := by decide +kernel
theorem dX3_prytanyTribe_14 : decode cX3_prytanyTribe 14 = .ok (.ireturn, 1) := by decide +kernel
theorem dX3_isPrytanis_0 : decode cX3_isPrytanis 0 = .ok (.aload_n 1, 1) := by decide +kernel
theorem dX3_isPrytanis_1 : decode cX3_isPrytanis 1 = .ok (.getfield 73, 3) := by decide +kernel
theorem dX3_isPrytanis_4 : decode cX3_isPrytanis 4 = .ok (.ifCond .eq 18, 3) := by decide +kernel
theorem dX3_isPrytanis_7 : decode cX3_isPrytanis 7 = .ok (.aload_n 1, 1) := by decide +kernel
theorem dX3_isPrytanis_8 : decode cX3_isPrytanis 8 = .ok (.invokevirtual 87, 3) := by decide +kernel
theorem dX3_isPrytanis_11 : decode cX3_isPrytanis 11 = .ok (.aload_n 0, 1) := by decide +kernel
theorem dX3_isPrytanis_12 : decode cX3_isPrytanis 12 = .ok (.invokevirtual 131, 3) := by decide +kernel
theorem dX3_isPrytanis_15 : decode cX3_isPrytanis 15 = .ok (.if_icmp .ne 7, 3) := by decide +kernel
theorem dX3_isPrytanis_18 : decode cX3_isPrytanis 18 = .ok (.iconst 1, 1) := by decide +kernel
theorem dX3_isPrytanis_19 : decode cX3_isPrytanis 19 = .ok (.goto 4, 3) := by decide +kernel
theorem dX3_isPrytanis_22 : decode cX3_isPrytanis 22 = .ok (.iconst 0, 1) := by decide +kernel
theorem dX3_isPrytanis_23 : decode cX3_isPrytanis 23 = .ok (.ireturn, 1) := by decide +kernel
theorem dX3_prytanes_0 : decode cX3_prytanes 0 = .ok (.iconst 0, 1) := by decide +kernel
theorem dX3_prytanes_1 : decode cX3_prytanes 1 = .ok (.istore_n 1, 1) := by decide +kernel
theorem dX3_prytanes_2 : decode cX3_prytanes 2 = .ok (.iconst 0, 1) := by decide +kernel
theorem dX3_prytanes_3 : decode cX3_prytanes 3 = .ok (.istore_n 2, 1) := by decide +kernel
theorem dX3_prytanes_4 : decode cX3_prytanes 4 = .ok (.iload_n 2, 1) := by decide +kernel
theorem dX3_prytanes_5 : decode cX3_prytanes 5 = .ok (.aload_n 0, 1) := by decide +kernel
theorem dX3_prytanes_6 : decode cX3_prytanes 6 = .ok (.getfield 28, 3) := by decide +kernel
theorem dX3_prytanes_9 : decode cX3_prytanes 9 = .ok (.getfield 84, 3) := by decide +kernel
theorem dX3_prytanes_12 : decode cX3_prytanes 12 = .ok (.invokevirtual 64, 3) := by decide +kernel
theorem dX3_prytanes_15 : decode cX3_prytanes 15 = .ok (.if_icmp .ge 33, 3) := by decide +kernel
theorem dX3_prytanes_18 : decode cX3_prytanes 18 = .ok (.iload_n 1, 1) := by decide +kernel
theorem dX3_prytanes_19 : decode cX3_prytanes 19 = .ok (.aload_n 0, 1) := by decide +kernel
theorem dX3_prytanes_20 : decode cX3_prytanes 20 = .ok (.aload_n 0, 1) := by decide +kernel
theorem dX3_prytanes_21 : decode cX3_prytanes 21 = .ok (.getfield 28, 3) := by decide +kernel
theorem dX3_prytanes_24 : decode cX3_prytanes 24 = .ok (.getfield 84, 3) := by decide +kernel
theorem dX3_prytanes_27 : decode cX3_prytanes 27 = .ok (.iload_n 2, 1) := by decide +kernel
theorem dX3_prytanes_28 : decode cX3_prytanes 28 = .ok (.invokevirtual 67, 3) := by decide +kernel
theorem dX3_prytanes_31 : decode cX3_prytanes 31 = .ok (.checkcast 71, 3) := by decide +kernel
theorem dX3_prytanes_34 : decode cX3_prytanes 34 = .ok (.invokevirtual 134, 3) := by decide +kernel
theorem dX3_prytanes_37 : decode cX3_prytanes 37 = .ok (.invokestatic 137, 3) := by decide +kernel
theorem dX3_prytanes_40 : decode cX3_prytanes 40 = .ok (.iadd, 1) := by decide +kernel
theorem dX3_prytanes_41 : decode cX3_prytanes 41 = .ok (.istore_n 1, 1) := by decide +kernel
theorem dX3_prytanes_42 : decode cX3_prytanes 42 = .ok (.iinc 2 1, 3) := by decide +kernel
theorem dX3_prytanes_45 : decode cX3_prytanes 45 = .ok (.goto (-41), 3) := by decide +kernel
theorem dX3_prytanes_48 : decode cX3_prytanes 48 = .ok (.iload_n 1, 1) := by decide +kernel
theorem dX3_prytanes_49 : decode cX3_prytanes 49 = .ok (.ireturn, 1) := by decide +kernel
theorem dX3_tribes_0 : decode cX3_tribes 0 = .ok (.iconst 0, 1) := by decide +kernel
theorem dX3_tribes_1 : decode cX3_tribes 1 = .ok (.istore_n 1, 1) := by decide +kernel
theorem dX3_tribes_2 : decode cX3_tribes 2 = .ok (.iconst 0, 1) := by decide +kernel
theorem dX3_tribes_3 : decode cX3_tribes 3 = .ok (.istore_n 2, 1) := by decide +kernel
theorem dX3_tribes_4 : decode cX3_tribes 4 = .ok (.iload_n 2, 1) := by decide +kernel
theorem dX3_tribes_5 : decode cX3_tribes 5 = .ok (.aload_n 0, 1) := by decide +kernel
theorem dX3_tribes_6 : decode cX3_tribes 6 = .ok (.getfield 28, 3) := by decide +kernel
theorem dX3_tribes_9 : decode cX3_tribes 9 = .ok (.getfield 84, 3) := by decide +kernel
theorem dX3_tribes_12 : decode cX3_tribes 12 = .ok (.invokevirtual 64, 3) := by decide +kernel
theorem dX3_tribes_15 : decode cX3_tribes 15 = .ok (.if_icmp .ge 40, 3) := by decide +kernel
theorem dX3_tribes_18 : decode cX3_tribes 18 = .ok (.aload_n 0, 1) := by decide +kernel
theorem dX3_tribes_19 : decode cX3_tribes 19 = .ok (.getfield 28, 3) := by decide +kernel
theorem dX3_tribes_22 : decode cX3_tribes 22 = .ok (.getfield 84, 3) := by decide +kernel
theorem dX3_tribes_25 : decode cX3_tribes 25 = .ok (.iload_n 2, 1) := by decide +kernel
theorem dX3_tribes_26 : decode cX3_tribes 26 = .ok (.invokevirtual 67, 3) := by decide +kernel
theorem dX3_tribes_29 : decode cX3_tribes 29 = .ok (.checkcast 71, 3) := by decide +kernel
theorem dX3_tribes_32 : decode cX3_tribes 32 = .ok (.astore_n 3, 1) := by decide +kernel
theorem dX3_tribes_33 : decode cX3_tribes 33 = .ok (.aload_n 3, 1) := by decide +kernel
theorem dX3_tribes_34 : decode cX3_tribes 34 = .ok (.getfield 73, 3) := by decide +kernel
theorem dX3_tribes_37 : decode cX3_tribes 37 = .ok (.ifCond .eq 12, 3) := by decide +kernel
theorem dX3_tribes_40 : decode cX3_tribes 40 = .ok (.iload_n 1, 1) := by decide +kernel
theorem dX3_tribes_41 : decode cX3_tribes 41 = .ok (.iconst 1, 1) := by decide +kernel
theorem dX3_tribes_42 : decode cX3_tribes 42 = .ok (.aload_n 3, 1) := by decide +kernel
theorem dX3_tribes_43 : decode cX3_tribes 43 = .ok (.invokevirtual 87, 3) := by decide +kernel
theorem dX3_tribes_46 : decode cX3_tribes 46 = .ok (.ishl, 1) := by decide +kernel
theorem dX3_tribes_47 : decode cX3_tribes 47 = .ok (.ior, 1) := by decide +kernel
theorem dX3_tribes_48 : decode cX3_tribes 48 = .ok (.istore_n 1, 1) := by decide +kernel
theorem dX3_tribes_49 : decode cX3_tribes 49 = .ok (.iinc 2 1, 3) := by decide +kernel
theorem dX3_tribes_52 : decode cX3_tribes 52 = .ok (.goto (-48), 3) := by decide +kernel
theorem dX3_tribes_55 : decode cX3_tribes 55 = .ok (.iload_n 1, 1) := by decide +kernel
theorem dX3_tribes_56 : decode cX3_tribes 56 = .ok (.ireturn, 1) := by decide +kernel
theorem dX3_drawChair_0 : decode cX3_drawChair 0 = .ok (.aload_n 0, 1) := by decide +kernel
theorem dX3_drawChair_1 : decode cX3_drawChair 1 = .ok (.getfield 28, 3) := by decide +kernel
theorem dX3_drawChair_4 : decode cX3_drawChair 4 = .ok (.aconst_null, 1) := by decide +kernel
theorem dX3_drawChair_5 : decode cX3_drawChair 5 = .ok (.putfield 141, 3) := by decide +kernel
theorem dX3_drawChair_8 : decode cX3_drawChair 8 = .ok (.aload_n 0, 1) := by decide +kernel
theorem dX3_drawChair_9 : decode cX3_drawChair 9 = .ok (.getfield 28, 3) := by decide +kernel
theorem dX3_drawChair_12 : decode cX3_drawChair 12 = .ok (.getfield 145, 3) := by decide +kernel
theorem dX3_drawChair_15 : decode cX3_drawChair 15 = .ok (.ifCond .ne 4, 3) := by decide +kernel
theorem dX3_drawChair_18 : decode cX3_drawChair 18 = .ok (.return_, 1) := by decide +kernel
theorem dX3_drawChair_19 : decode cX3_drawChair 19 = .ok (.aload_n 0, 1) := by decide +kernel
theorem dX3_drawChair_20 : decode cX3_drawChair 20 = .ok (.getfield 28, 3) := by decide +kernel
theorem dX3_drawChair_23 : decode cX3_drawChair 23 = .ok (.getfield 102, 3) := by decide +kernel
theorem dX3_drawChair_26 : decode cX3_drawChair 26 = .ok (.bipush 10, 2) := by decide +kernel
theorem dX3_drawChair_28 : decode cX3_drawChair 28 = .ok (.idiv, 1) := by decide +kernel
theorem dX3_drawChair_29 : decode cX3_drawChair 29 = .ok (.istore_n 1, 1) := by decide +kernel
theorem dX3_drawChair_30 : decode cX3_drawChair 30 = .ok (.aload_n 0, 1) := by decide +kernel
theorem dX3_drawChair_31 : decode cX3_drawChair 31 = .ok (.getfield 21, 3) := by decide +kernel
theorem dX3_drawChair_34 : decode cX3_drawChair 34 = .ok (.invokevirtual 47, 3) := by decide +kernel
theorem dX3_drawChair_37 : decode cX3_drawChair 37 = .ok (.iconst 0, 1) := by decide +kernel
theorem dX3_drawChair_38 : decode cX3_drawChair 38 = .ok (.istore_n 2, 1) := by decide +kernel
theorem dX3_drawChair_39 : decode cX3_drawChair 39 = .ok (.iload_n 2, 1) := by decide +kernel
theorem dX3_drawChair_40 : decode cX3_drawChair 40 = .ok (.aload_n 0, 1) := by decide +kernel
theorem dX3_drawChair_41 : decode cX3_drawChair 41 = .ok (.getfield 28, 3) := by decide +kernel
theorem dX3_drawChair_44 : decode cX3_drawChair 44 = .ok (.getfield 84, 3) := by decide +kernel
theorem dX3_drawChair_47 : decode cX3_drawChair 47 = .ok (.invokevirtual 64, 3) := by decide +kernel
theorem dX3_drawChair_50 : decode cX3_drawChair 50 = .ok (.if_icmp .ge 49, 3) := by decide +kernel
theorem dX3_drawChair_53 : decode cX3_drawChair 53 = .ok (.aload_n 0, 1) := by decide +kernel
theorem dX3_drawChair_54 : decode cX3_drawChair 54 = .ok (.getfield 28, 3) := by decide +kernel
theorem dX3_drawChair_57 : decode cX3_drawChair 57 = .ok (.getfield 84, 3) := by decide +kernel
theorem dX3_drawChair_60 : decode cX3_drawChair 60 = .ok (.iload_n 2, 1) := by decide +kernel
theorem dX3_drawChair_61 : decode cX3_drawChair 61 = .ok (.invokevirtual 67, 3) := by decide +kernel
theorem dX3_drawChair_64 : decode cX3_drawChair 64 = .ok (.checkcast 71, 3) := by decide +kernel
theorem dX3_drawChair_67 : decode cX3_drawChair 67 = .ok (.astore_n 3, 1) := by decide +kernel
theorem dX3_drawChair_68 : decode cX3_drawChair 68 = .ok (.aload_n 0, 1) := by decide +kernel
theorem dX3_drawChair_69 : decode cX3_drawChair 69 = .ok (.aload_n 3, 1) := by decide +kernel
theorem dX3_drawChair_70 : decode cX3_drawChair 70 = .ok (.invokevirtual 134, 3) := by decide +kernel
theorem dX3_drawChair_73 : decode cX3_drawChair 73 = .ok (.ifCond .eq 20, 3) := by decide +kernel
theorem dX3_drawChair_76 : decode cX3_drawChair 76 = .ok (.aload_n 3, 1) := by decide +kernel
theorem dX3_drawChair_77 : decode cX3_drawChair 77 = .ok (.getfield 148, 3) := by decide +kernel
theorem dX3_drawChair_80 : decode cX3_drawChair 80 = .ok (.iload_n 1, 1) := by decide +kernel
theorem dX3_drawChair_81 : decode cX3_drawChair 81 = .ok (.if_icmp .eq 12, 3) := by decide +kernel
theorem dX3_drawChair_84 : decode cX3_drawChair 84 = .ok (.aload_n 0, 1) := by decide +kernel
theorem dX3_drawChair_85 : decode cX3_drawChair 85 = .ok (.getfield 21, 3) := by decide +kernel
theorem dX3_drawChair_88 : decode cX3_drawChair 88 = .ok (.aload_n 3, 1) := by decide +kernel
theorem dX3_drawChair_89 : decode cX3_drawChair 89 = .ok (.invokevirtual 94, 3) := by decide +kernel
theorem dX3_drawChair_92 : decode cX3_drawChair 92 = .ok (.pop, 1) := by decide +kernel
theorem dX3_drawChair_93 : decode cX3_drawChair 93 = .ok (.iinc 2 1, 3) := by decide +kernel
theorem dX3_drawChair_96 : decode cX3_drawChair 96 = .ok (.goto (-57), 3) := by decide +kernel
theorem dX3_drawChair_99 : decode cX3_drawChair 99 = .ok (.aload_n 0, 1) := by decide +kernel
theorem dX3_drawChair_100 : decode cX3_drawChair 100 = .ok (.getfield 28, 3) := by decide +kernel
theorem dX3_drawChair_103 : decode cX3_drawChair 103 = .ok (.getfield 54, 3) := by decide +kernel
theorem dX3_drawChair_106 : decode cX3_drawChair 106 = .ok (.aload_n 0, 1) := by decide +kernel
theorem dX3_drawChair_107 : decode cX3_drawChair 107 = .ok (.getfield 21, 3) := by decide +kernel
theorem dX3_drawChair_110 : decode cX3_drawChair 110 = .ok (.invokevirtual 151, 3) := by decide +kernel
theorem dX3_drawChair_113 : decode cX3_drawChair 113 = .ok (.astore_n 2, 1) := by decide +kernel
theorem dX3_drawChair_114 : decode cX3_drawChair 114 = .ok (.aload_n 2, 1) := by decide +kernel
theorem dX3_drawChair_115 : decode cX3_drawChair 115 = .ok (.ifnull 16, 3) := by decide +kernel
theorem dX3_drawChair_118 : decode cX3_drawChair 118 = .ok (.aload_n 2, 1) := by decide +kernel
theorem dX3_drawChair_119 : decode cX3_drawChair 119 = .ok (.iload_n 1, 1) := by decide +kernel
theorem dX3_drawChair_120 : decode cX3_drawChair 120 = .ok (.putfield 148, 3) := by decide +kernel
theorem dX3_drawChair_123 : decode cX3_drawChair 123 = .ok (.aload_n 0, 1) := by decide +kernel
theorem dX3_drawChair_124 : decode cX3_drawChair 124 = .ok (.getfield 28, 3) := by decide +kernel
theorem dX3_drawChair_127 : decode cX3_drawChair 127 = .ok (.aload_n 2, 1) := by decide +kernel
theorem dX3_drawChair_128 : decode cX3_drawChair 128 = .ok (.putfield 141, 3) := by decide +kernel
theorem dX3_drawChair_131 : decode cX3_drawChair 131 = .ok (.return_, 1) := by decide +kernel
theorem dX3_isChairSound_0 : decode cX3_isChairSound 0 = .ok (.aload_n 0, 1) := by decide +kernel
theorem dX3_isChairSound_1 : decode cX3_isChairSound 1 = .ok (.getfield 28, 3) := by decide +kernel
theorem dX3_isChairSound_4 : decode cX3_isChairSound 4 = .ok (.getfield 141, 3) := by decide +kernel
theorem dX3_isChairSound_7 : decode cX3_isChairSound 7 = .ok (.ifnull 17, 3) := by decide +kernel
theorem dX3_isChairSound_10 : decode cX3_isChairSound 10 = .ok (.aload_n 0, 1) := by decide +kernel
theorem dX3_isChairSound_11 : decode cX3_isChairSound 11 = .ok (.aload_n 0, 1) := by decide +kernel
theorem dX3_isChairSound_12 : decode cX3_isChairSound 12 = .ok (.getfield 28, 3) := by decide +kernel
theorem dX3_isChairSound_15 : decode cX3_isChairSound 15 = .ok (.getfield 141, 3) := by decide +kernel
theorem dX3_isChairSound_18 : decode cX3_isChairSound 18 = .ok (.invokevirtual 134, 3) := by decide +kernel
theorem dX3_isChairSound_21 : decode cX3_isChairSound 21 = .ok (.ifCond .eq 7, 3) := by decide +kernel
theorem dX3_isChairSound_24 : decode cX3_isChairSound 24 = .ok (.iconst 1, 1) := by decide +kernel
theorem dX3_isChairSound_25 : decode cX3_isChairSound 25 = .ok (.goto 4, 3) := by decide +kernel
theorem dX3_isChairSound_28 : decode cX3_isChairSound 28 = .ok (.iconst 0, 1) := by decide +kernel
theorem dX3_isChairSound_29 : decode cX3_isChairSound 29 = .ok (.ireturn, 1) := by decide +kernel
theorem dX4_init_0 : decode cX4_init 0 = .ok (.aload_n 0, 1) := by decide +kernel
theorem dX4_init_1 : decode cX4_init 1 = .ok (.invokespecial 3, 3) := by decide +kernel
theorem dX4_init_4 : decode cX4_init 4 = .ok (.aload_n 0, 1) := by decide +kernel
theorem dX4_init_5 : decode cX4_init 5 = .ok (.new 9, 3) := by decide +kernel
theorem dX4_init_8 : decode cX4_init 8 = .ok (.dup, 1) := by decide +kernel
theorem dX4_init_9 : decode cX4_init 9 = .ok (.invokespecial 11, 3) := by decide +kernel
theorem dX4_init_12 : decode cX4_init 12 = .ok (.putfield 12, 3) := by decide +kernel
theorem dX4_init_15 : decode cX4_init 15 = .ok (.aload_n 0, 1) := by decide +kernel
theorem dX4_init_16 : decode cX4_init 16 = .ok (.new 9, 3) := by decide +kernel
theorem dX4_init_19 : decode cX4_init 19 = .ok (.dup, 1) := by decide +kernel
theorem dX4_init_20 : decode cX4_init 20 = .ok (.invokespecial 11, 3) := by decide +kernel
theorem dX4_init_23 : decode cX4_init 23 = .ok (.putfield 18, 3) := by decide +kernel
theorem dX4_init_26 : decode cX4_init 26 = .ok (.aload_n 0, 1) := by decide +kernel
theorem dX4_init_27 : decode cX4_init 27 = .ok (.new 9, 3) := by decide +kernel
theorem dX4_init_30 : decode cX4_init 30 = .ok (.dup, 1) := by decide +kernel
theorem dX4_init_31 : decode cX4_init 31 = .ok (.invokespecial 11, 3) := by decide +kernel
theorem dX4_init_34 : decode cX4_init 34 = .ok (.putfield 21, 3) := by decide +kernel
theorem dX4_init_37 : decode cX4_init 37 = .ok (.aload_n 0, 1) := by decide +kernel
theorem dX4_init_38 : decode cX4_init 38 = .ok (.iconst 0, 1) := by decide +kernel
theorem dX4_init_39 : decode cX4_init 39 = .ok (.putfield 24, 3) := by decide +kernel
theorem dX4_init_42 : decode cX4_init 42 = .ok (.aload_n 0, 1) := by decide +kernel
theorem dX4_init_43 : decode cX4_init 43 = .ok (.iconst 0, 1) := by decide +kernel
theorem dX4_init_44 : decode cX4_init 44 = .ok (.putfield 28, 3) := by decide +kernel
theorem dX4_init_47 : decode cX4_init 47 = .ok (.aload_n 0, 1) := by decide +kernel
theorem dX4_init_48 : decode cX4_init 48 = .ok (.iconst 0, 1) := by decide +kernel
theorem dX4_init_49 : decode cX4_init 49 = .ok (.putfield 31, 3) := by decide +kernel
theorem dX4_init_52 : decode cX4_init 52 = .ok (.aload_n 0, 1) := by decide +kernel
theorem dX4_init_53 : decode cX4_init 53 = .ok (.iconst 0, 1) := by decide +kernel
theorem dX4_init_54 : decode cX4_init 54 = .ok (.putfield 34, 3) := by decide +kernel
theorem dX4_init_57 : decode cX4_init 57 = .ok (.aload_n 0, 1) := by decide +kernel
theorem dX4_init_58 : decode cX4_init 58 = .ok (.iconst (-1), 1) := by decide +kernel
theorem dX4_init_59 : decode cX4_init 59 = .ok (.putfield 37, 3) := by decide +kernel
theorem dX4_init_62 : decode cX4_init 62 = .ok (.aload_n 0, 1) := by decide +kernel
theorem dX4_init_63 : decode cX4_init 63 = .ok (.aload_n 1, 1) := by decide +kernel
theorem dX4_init_64 : decode cX4_init 64 = .ok (.putfield 40, 3) := by decide +kernel
theorem dX4_init_67 : decode cX4_init 67 = .ok (.return_, 1) := by decide +kernel
theorem dX4_bring_0 : decode cX4_bring 0 = .ok (.aload_n 0, 1) := by decide +kernel
theorem dX4_bring_1 : decode cX4_bring 1 = .ok (.getfield 12, 3) := by decide +kernel
theorem dX4_bring_4 : decode cX4_bring 4 = .ok (.aload_n 1, 1) := by decide +kernel
theorem dX4_bring_5 : decode cX4_bring 5 = .ok (.invokevirtual 44, 3) := by decide +kernel
theorem dX4_bring_8 : decode cX4_bring 8 = .ok (.pop, 1) := by decide +kernel
theorem dX4_bring_9 : decode cX4_bring 9 = .ok (.aload_n 0, 1) := by decide +kernel
theorem dX4_bring_10 : decode cX4_bring 10 = .ok (.getfield 12, 3) := by decide +kernel
theorem dX4_bring_13 : decode cX4_bring 13 = .ok (.invokevirtual 48, 3) := by decide +kernel
theorem dX4_bring_16 : decode cX4_bring 16 = .ok (.iconst 1, 1) := by decide +kernel
theorem dX4_bring_17 : decode cX4_bring 17 = .ok (.isub, 1) := by decide +kernel
theorem dX4_bring_18 : decode cX4_bring 18 = .ok (.ireturn, 1) := by decide +kernel
theorem dX4_isContested_0 : decode cX4_isContested 0 = .ok (.iconst 0, 1) := by decide +kernel
theorem dX4_isContested_1 : decode cX4_isContested 1 = .ok (.istore_n 2, 1) := by decide +kernel
theorem dX4_isContested_2 : decode cX4_isContested 2 = .ok (.iload_n 2, 1) := by decide +kernel
theorem dX4_isContested_3 : decode cX4_isContested 3 = .ok (.aload_n 0, 1) := by decide +kernel
theorem dX4_isContested_4 : decode cX4_isContested 4 = .ok (.getfield 12, 3) := by decide +kernel
theorem dX4_isContested_7 : decode cX4_isContested 7 = .ok (.invokevirtual 48, 3) := by decide +kernel
theorem dX4_isContested_10 : decode cX4_isContested 10 = .ok (.if_icmp .ge 29, 3) := by decide +kernel
theorem dX4_isContested_13 : decode cX4_isContested 13 = .ok (.aload_n 0, 1) := by decide +kernel
theorem dX4_isContested_14 : decode cX4_isContested 14 = .ok (.getfield 12, 3) := by decide +kernel
theorem dX4_isContested_17 : decode cX4_isContested 17 = .ok (.iload_n 2, 1) := by decide +kernel
theorem dX4_isContested_18 : decode cX4_isContested 18 = .ok (.invokevirtual 52, 3) := by decide +kernel
theorem dX4_isContested_21 : decode cX4_isContested 21 = .ok (.checkcast 56, 3) := by decide +kernel
theorem dX4_isContested_24 : decode cX4_isContested 24 = .ok (.getfield 58, 3) := by decide +kernel
theorem dX4_isContested_27 : decode cX4_isContested 27 = .ok (.aload_n 1, 1) := by decide +kernel
theorem dX4_isContested_28 : decode cX4_isContested 28 = .ok (.if_acmp .ne 5, 3) := by decide +kernel
theorem dX4_isContested_31 : decode cX4_isContested 31 = .ok (.iconst 1, 1) := by decide +kernel
theorem dX4_isContested_32 : decode cX4_isContested 32 = .ok (.ireturn, 1) := by decide +kernel
theorem dX4_isContested_33 : decode cX4_isContested 33 = .ok (.iinc 2 1, 3) := by decide +kernel
theorem dX4_isContested_36 : decode cX4_isContested 36 = .ok (.goto (-34), 3) := by decide +kernel
theorem dX4_isContested_39 : decode cX4_isContested 39 = .ok (.iconst 0, 1) := by decide +kernel
theorem dX4_isContested_40 : decode cX4_isContested 40 = .ok (.ireturn, 1) := by decide +kernel
theorem dX4_drawJury_0 : decode cX4_drawJury 0 = .ok (.aload_n 0, 1) := by decide +kernel
theorem dX4_drawJury_1 : decode cX4_drawJury 1 = .ok (.getfield 18, 3) := by decide +kernel
theorem dX4_drawJury_4 : decode cX4_drawJury 4 = .ok (.invokevirtual 62, 3) := by decide +kernel
theorem dX4_drawJury_7 : decode cX4_drawJury 7 = .ok (.iconst 0, 1) := by decide +kernel
theorem dX4_drawJury_8 : decode cX4_drawJury 8 = .ok (.istore 4, 2) := by decide +kernel
