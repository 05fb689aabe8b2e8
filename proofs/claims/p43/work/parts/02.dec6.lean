theorem dJ7_fill_53178_4 : decode cJ7_fill_53178 4 = .ok (.istore_n 3, 1) := by decide +kernel
theorem dJ7_fill_53178_5 : decode cJ7_fill_53178 5 = .ok (.iload_n 2, 1) := by decide +kernel
theorem dJ7_fill_53178_6 : decode cJ7_fill_53178 6 = .ok (.iload_n 3, 1) := by decide +kernel
theorem dJ7_fill_53178_7 : decode cJ7_fill_53178 7 = .ok (.if_icmp .ge 13, 3) := by decide +kernel
theorem dJ7_fill_53178_10 : decode cJ7_fill_53178 10 = .ok (.aload_n 0, 1) := by decide +kernel
theorem dJ7_fill_53178_11 : decode cJ7_fill_53178 11 = .ok (.iload_n 2, 1) := by decide +kernel
theorem dJ7_fill_53178_12 : decode cJ7_fill_53178 12 = .ok (.iload_n 1, 1) := by decide +kernel
theorem dJ7_fill_53178_13 : decode cJ7_fill_53178 13 = .ok (.iastore, 1) := by decide +kernel
theorem dJ7_fill_53178_14 : decode cJ7_fill_53178 14 = .ok (.iinc 2 1, 3) := by decide +kernel
theorem dJ7_fill_53178_17 : decode cJ7_fill_53178 17 = .ok (.goto (-12), 3) := by decide +kernel
theorem dJ7_fill_53178_20 : decode cJ7_fill_53178 20 = .ok (.return_, 1) := by decide +kernel
theorem dJ7_copyOf_1904c_0 : decode cJ7_copyOf_1904c 0 = .ok (.aload_n 0, 1) := by decide +kernel
theorem dJ7_copyOf_1904c_1 : decode cJ7_copyOf_1904c 1 = .ok (.iload_n 1, 1) := by decide +kernel
theorem dJ7_copyOf_1904c_2 : decode cJ7_copyOf_1904c 2 = .ok (.aload_n 0, 1) := by decide +kernel
theorem dJ7_copyOf_1904c_3 : decode cJ7_copyOf_1904c 3 = .ok (.invokevirtual 86, 3) := by decide +kernel
theorem dJ7_copyOf_1904c_6 : decode cJ7_copyOf_1904c 6 = .ok (.invokestatic 300, 3) := by decide +kernel
theorem dJ7_copyOf_1904c_9 : decode cJ7_copyOf_1904c 9 = .ok (.areturn, 1) := by decide +kernel
theorem dJ7_copyOf_6403c_0 : decode cJ7_copyOf_6403c 0 = .ok (.aload_n 2, 1) := by decide +kernel
theorem dJ7_copyOf_6403c_1 : decode cJ7_copyOf_6403c 1 = .ok (.ldc 110, 2) := by decide +kernel
theorem dJ7_copyOf_6403c_3 : decode cJ7_copyOf_6403c 3 = .ok (.if_acmp .ne 10, 3) := by decide +kernel
theorem dJ7_copyOf_6403c_6 : decode cJ7_copyOf_6403c 6 = .ok (.iload_n 1, 1) := by decide +kernel
theorem dJ7_copyOf_6403c_7 : decode cJ7_copyOf_6403c 7 = .ok (.anewarray 2, 3) := by decide +kernel
theorem dJ7_copyOf_6403c_10 : decode cJ7_copyOf_6403c 10 = .ok (.goto 14, 3) := by decide +kernel
theorem dJ7_copyOf_6403c_13 : decode cJ7_copyOf_6403c 13 = .ok (.aload_n 2, 1) := by decide +kernel
theorem dJ7_copyOf_6403c_14 : decode cJ7_copyOf_6403c 14 = .ok (.invokevirtual 90, 3) := by decide +kernel
theorem dJ7_copyOf_6403c_17 : decode cJ7_copyOf_6403c 17 = .ok (.iload_n 1, 1) := by decide +kernel
theorem dJ7_copyOf_6403c_18 : decode cJ7_copyOf_6403c 18 = .ok (.invokestatic 95, 3) := by decide +kernel
theorem dJ7_copyOf_6403c_21 : decode cJ7_copyOf_6403c 21 = .ok (.checkcast 110, 3) := by decide +kernel
theorem dJ7_copyOf_6403c_24 : decode cJ7_copyOf_6403c 24 = .ok (.astore_n 3, 1) := by decide +kernel
theorem dJ7_copyOf_6403c_25 : decode cJ7_copyOf_6403c 25 = .ok (.aload_n 0, 1) := by decide +kernel
theorem dJ7_copyOf_6403c_26 : decode cJ7_copyOf_6403c 26 = .ok (.iconst 0, 1) := by decide +kernel
theorem dJ7_copyOf_6403c_27 : decode cJ7_copyOf_6403c 27 = .ok (.aload_n 3, 1) := by decide +kernel
theorem dJ7_copyOf_6403c_28 : decode cJ7_copyOf_6403c 28 = .ok (.iconst 0, 1) := by decide +kernel
theorem dJ7_copyOf_6403c_29 : decode cJ7_copyOf_6403c 29 = .ok (.aload_n 0, 1) := by decide +kernel
theorem dJ7_copyOf_6403c_30 : decode cJ7_copyOf_6403c 30 = .ok (.arraylength, 1) := by decide +kernel
theorem dJ7_copyOf_6403c_31 : decode cJ7_copyOf_6403c 31 = .ok (.iload_n 1, 1) := by decide +kernel
theorem dJ7_copyOf_6403c_32 : decode cJ7_copyOf_6403c 32 = .ok (.invokestatic 304, 3) := by decide +kernel
theorem dJ7_copyOf_6403c_35 : decode cJ7_copyOf_6403c 35 = .ok (.invokestatic 150, 3) := by decide +kernel
theorem dJ7_copyOf_6403c_38 : decode cJ7_copyOf_6403c 38 = .ok (.aload_n 3, 1) := by decide +kernel
theorem dJ7_copyOf_6403c_39 : decode cJ7_copyOf_6403c 39 = .ok (.areturn, 1) := by decide +kernel
theorem dJ15_checkIndex_7cf53_0 : decode cJ15_checkIndex_7cf53 0 = .ok (.iload_n 0, 1) := by decide +kernel
theorem dJ15_checkIndex_7cf53_1 : decode cJ15_checkIndex_7cf53 1 = .ok (.iload_n 1, 1) := by decide +kernel
theorem dJ15_checkIndex_7cf53_2 : decode cJ15_checkIndex_7cf53 2 = .ok (.aconst_null, 1) := by decide +kernel
theorem dJ15_checkIndex_7cf53_3 : decode cJ15_checkIndex_7cf53 3 = .ok (.invokestatic 105, 3) := by decide +kernel
theorem dJ15_checkIndex_7cf53_6 : decode cJ15_checkIndex_7cf53 6 = .ok (.ireturn, 1) := by decide +kernel
theorem dJ8_newLength_cabcc_0 : decode cJ8_newLength_cabcc 0 = .ok (.iload_n 0, 1) := by decide +kernel
theorem dJ8_newLength_cabcc_1 : decode cJ8_newLength_cabcc 1 = .ok (.iload_n 1, 1) := by decide +kernel
theorem dJ8_newLength_cabcc_2 : decode cJ8_newLength_cabcc 2 = .ok (.iload_n 2, 1) := by decide +kernel
theorem dJ8_newLength_cabcc_3 : decode cJ8_newLength_cabcc 3 = .ok (.invokestatic 194, 3) := by decide +kernel
theorem dJ8_newLength_cabcc_6 : decode cJ8_newLength_cabcc 6 = .ok (.iadd, 1) := by decide +kernel
theorem dJ8_newLength_cabcc_7 : decode cJ8_newLength_cabcc 7 = .ok (.istore_n 3, 1) := by decide +kernel
theorem dJ8_newLength_cabcc_8 : decode cJ8_newLength_cabcc 8 = .ok (.iconst 0, 1) := by decide +kernel
theorem dJ8_newLength_cabcc_9 : decode cJ8_newLength_cabcc 9 = .ok (.iload_n 3, 1) := by decide +kernel
theorem dJ8_newLength_cabcc_10 : decode cJ8_newLength_cabcc 10 = .ok (.if_icmp .ge 11, 3) := by decide +kernel
theorem dJ8_newLength_cabcc_13 : decode cJ8_newLength_cabcc 13 = .ok (.iload_n 3, 1) := by decide +kernel
theorem dJ8_newLength_cabcc_14 : decode cJ8_newLength_cabcc 14 = .ok (.ldc 200, 2) := by decide +kernel
theorem dJ8_newLength_cabcc_16 : decode cJ8_newLength_cabcc 16 = .ok (.if_icmp .gt 5, 3) := by decide +kernel
theorem dJ8_newLength_cabcc_19 : decode cJ8_newLength_cabcc 19 = .ok (.iload_n 3, 1) := by decide +kernel
theorem dJ8_newLength_cabcc_20 : decode cJ8_newLength_cabcc 20 = .ok (.ireturn, 1) := by decide +kernel
theorem dJ8_newLength_cabcc_21 : decode cJ8_newLength_cabcc 21 = .ok (.iload_n 0, 1) := by decide +kernel
theorem dJ8_newLength_cabcc_22 : decode cJ8_newLength_cabcc 22 = .ok (.iload_n 1, 1) := by decide +kernel
theorem dJ8_newLength_cabcc_23 : decode cJ8_newLength_cabcc 23 = .ok (.invokestatic 201, 3) := by decide +kernel
theorem dJ8_newLength_cabcc_26 : decode cJ8_newLength_cabcc 26 = .ok (.ireturn, 1) := by decide +kernel
theorem dJ8_hugeLength_7cf53_0 : decode cJ8_hugeLength_7cf53 0 = .ok (.iload_n 0, 1) := by decide +kernel
theorem dJ8_hugeLength_7cf53_1 : decode cJ8_hugeLength_7cf53 1 = .ok (.iload_n 1, 1) := by decide +kernel
theorem dJ8_hugeLength_7cf53_2 : decode cJ8_hugeLength_7cf53 2 = .ok (.iadd, 1) := by decide +kernel
theorem dJ8_hugeLength_7cf53_3 : decode cJ8_hugeLength_7cf53 3 = .ok (.istore_n 2, 1) := by decide +kernel
theorem dJ8_hugeLength_7cf53_4 : decode cJ8_hugeLength_7cf53 4 = .ok (.iload_n 2, 1) := by decide +kernel
theorem dJ8_hugeLength_7cf53_5 : decode cJ8_hugeLength_7cf53 5 = .ok (.ifCond .ge 44, 3) := by decide +kernel
theorem dJ8_hugeLength_7cf53_8 : decode cJ8_hugeLength_7cf53 8 = .ok (.new 204, 3) := by decide +kernel
theorem dJ8_hugeLength_7cf53_11 : decode cJ8_hugeLength_7cf53 11 = .ok (.dup, 1) := by decide +kernel
theorem dJ8_hugeLength_7cf53_12 : decode cJ8_hugeLength_7cf53 12 = .ok (.new 89, 3) := by decide +kernel
theorem dJ8_hugeLength_7cf53_15 : decode cJ8_hugeLength_7cf53 15 = .ok (.dup, 1) := by decide +kernel
theorem dJ8_hugeLength_7cf53_16 : decode cJ8_hugeLength_7cf53 16 = .ok (.invokespecial 91, 3) := by decide +kernel
theorem dJ8_hugeLength_7cf53_19 : decode cJ8_hugeLength_7cf53 19 = .ok (.ldc 206, 2) := by decide +kernel
theorem dJ8_hugeLength_7cf53_21 : decode cJ8_hugeLength_7cf53 21 = .ok (.invokevirtual 94, 3) := by decide +kernel
theorem dJ8_hugeLength_7cf53_24 : decode cJ8_hugeLength_7cf53 24 = .ok (.iload_n 0, 1) := by decide +kernel
theorem dJ8_hugeLength_7cf53_25 : decode cJ8_hugeLength_7cf53 25 = .ok (.invokevirtual 98, 3) := by decide +kernel
theorem dJ8_hugeLength_7cf53_28 : decode cJ8_hugeLength_7cf53 28 = .ok (.ldc 208, 2) := by decide +kernel
theorem dJ8_hugeLength_7cf53_30 : decode cJ8_hugeLength_7cf53 30 = .ok (.invokevirtual 94, 3) := by decide +kernel
theorem dJ8_hugeLength_7cf53_33 : decode cJ8_hugeLength_7cf53 33 = .ok (.iload_n 1, 1) := by decide +kernel
theorem dJ8_hugeLength_7cf53_34 : decode cJ8_hugeLength_7cf53 34 = .ok (.invokevirtual 98, 3) := by decide +kernel
theorem dJ8_hugeLength_7cf53_37 : decode cJ8_hugeLength_7cf53 37 = .ok (.ldc 210, 2) := by decide +kernel
theorem dJ8_hugeLength_7cf53_39 : decode cJ8_hugeLength_7cf53 39 = .ok (.invokevirtual 94, 3) := by decide +kernel
theorem dJ8_hugeLength_7cf53_42 : decode cJ8_hugeLength_7cf53 42 = .ok (.invokevirtual 101, 3) := by decide +kernel
theorem dJ8_hugeLength_7cf53_45 : decode cJ8_hugeLength_7cf53 45 = .ok (.invokespecial 212, 3) := by decide +kernel
theorem dJ8_hugeLength_7cf53_48 : decode cJ8_hugeLength_7cf53 48 = .ok (.athrow, 1) := by decide +kernel
theorem dJ8_hugeLength_7cf53_49 : decode cJ8_hugeLength_7cf53 49 = .ok (.iload_n 2, 1) := by decide +kernel
theorem dJ8_hugeLength_7cf53_50 : decode cJ8_hugeLength_7cf53 50 = .ok (.ldc 200, 2) := by decide +kernel
theorem dJ8_hugeLength_7cf53_52 : decode cJ8_hugeLength_7cf53 52 = .ok (.if_icmp .gt 6, 3) := by decide +kernel
theorem dJ8_hugeLength_7cf53_55 : decode cJ8_hugeLength_7cf53 55 = .ok (.ldc 200, 2) := by decide +kernel
theorem dJ8_hugeLength_7cf53_57 : decode cJ8_hugeLength_7cf53 57 = .ok (.ireturn, 1) := by decide +kernel
theorem dJ8_hugeLength_7cf53_58 : decode cJ8_hugeLength_7cf53 58 = .ok (.iload_n 2, 1) := by decide +kernel
theorem dJ8_hugeLength_7cf53_59 : decode cJ8_hugeLength_7cf53 59 = .ok (.ireturn, 1) := by decide +kernel
theorem dJ3_checkIndex_8e157_0 : decode cJ3_checkIndex_8e157 0 = .ok (.iload_n 0, 1) := by decide +kernel
theorem dJ3_checkIndex_8e157_1 : decode cJ3_checkIndex_8e157 1 = .ok (.ifCond .lt 8, 3) := by decide +kernel
theorem dJ3_checkIndex_8e157_4 : decode cJ3_checkIndex_8e157 4 = .ok (.iload_n 0, 1) := by decide +kernel
theorem dJ3_checkIndex_8e157_5 : decode cJ3_checkIndex_8e157 5 = .ok (.iload_n 1, 1) := by decide +kernel
theorem dJ3_checkIndex_8e157_6 : decode cJ3_checkIndex_8e157 6 = .ok (.if_icmp .lt 10, 3) := by decide +kernel
theorem dJ3_checkIndex_8e157_9 : decode cJ3_checkIndex_8e157 9 = .ok (.aload_n 2, 1) := by decide +kernel
theorem dJ3_checkIndex_8e157_10 : decode cJ3_checkIndex_8e157 10 = .ok (.iload_n 0, 1) := by decide +kernel
theorem dJ3_checkIndex_8e157_11 : decode cJ3_checkIndex_8e157 11 = .ok (.iload_n 1, 1) := by decide +kernel
theorem dJ3_checkIndex_8e157_12 : decode cJ3_checkIndex_8e157 12 = .ok (.invokestatic 95, 3) := by decide +kernel
theorem dJ3_checkIndex_8e157_15 : decode cJ3_checkIndex_8e157 15 = .ok (.athrow, 1) := by decide +kernel
theorem dJ3_checkIndex_8e157_16 : decode cJ3_checkIndex_8e157 16 = .ok (.iload_n 0, 1) := by decide +kernel
theorem dJ3_checkIndex_8e157_17 : decode cJ3_checkIndex_8e157 17 = .ok (.ireturn, 1) := by decide +kernel
theorem dL_below_0 : decode cL_below 0 = .ok (.iload_n 0, 1) := by decide +kernel
theorem dL_below_1 : decode cL_below 1 = .ok (.ldc 7, 2) := by decide +kernel
theorem dL_below_3 : decode cL_below 3 = .ok (.iand, 1) := by decide +kernel
theorem dL_below_4 : decode cL_below 4 = .ok (.iload_n 1, 1) := by decide +kernel
theorem dL_below_5 : decode cL_below 5 = .ok (.irem, 1) := by decide +kernel
theorem dL_below_6 : decode cL_below 6 = .ok (.ireturn, 1) := by decide +kernel
theorem dL_cell_0 : decode cL_cell 0 = .ok (.iload_n 1, 1) := by decide +kernel
theorem dL_cell_1 : decode cL_cell 1 = .ok (.aload_n 0, 1) := by decide +kernel
theorem dL_cell_2 : decode cL_cell 2 = .ok (.arraylength, 1) := by decide +kernel
theorem dL_cell_3 : decode cL_cell 3 = .ok (.if_icmp .ge 9, 3) := by decide +kernel
theorem dL_cell_6 : decode cL_cell 6 = .ok (.aload_n 0, 1) := by decide +kernel
theorem dL_cell_7 : decode cL_cell 7 = .ok (.iload_n 1, 1) := by decide +kernel
theorem dL_cell_8 : decode cL_cell 8 = .ok (.iaload, 1) := by decide +kernel
theorem dL_cell_9 : decode cL_cell 9 = .ok (.goto 9, 3) := by decide +kernel
theorem dL_cell_12 : decode cL_cell 12 = .ok (.ldc 8, 2) := by decide +kernel
theorem dL_cell_14 : decode cL_cell 14 = .ok (.iload_n 1, 1) := by decide +kernel
theorem dL_cell_15 : decode cL_cell 15 = .ok (.iconst 3, 1) := by decide +kernel
theorem dL_cell_16 : decode cL_cell 16 = .ok (.iadd, 1) := by decide +kernel
theorem dL_cell_17 : decode cL_cell 17 = .ok (.imul, 1) := by decide +kernel
theorem dL_cell_18 : decode cL_cell 18 = .ok (.ireturn, 1) := by decide +kernel
theorem dL_rows_0 : decode cL_rows 0 = .ok (.aload_n 0, 1) := by decide +kernel
theorem dL_rows_1 : decode cL_rows 1 = .ok (.iconst 5, 1) := by decide +kernel
theorem dL_rows_2 : decode cL_rows 2 = .ok (.invokevirtual 9, 3) := by decide +kernel
theorem dL_rows_5 : decode cL_rows 5 = .ok (.bipush 13, 2) := by decide +kernel
theorem dL_rows_7 : decode cL_rows 7 = .ok (.multianewarray 15 2, 4) := by decide +kernel
theorem dL_rows_11 : decode cL_rows 11 = .ok (.astore_n 1, 1) := by decide +kernel
theorem dL_rows_12 : decode cL_rows 12 = .ok (.iconst 0, 1) := by decide +kernel
theorem dL_rows_13 : decode cL_rows 13 = .ok (.istore_n 2, 1) := by decide +kernel
theorem dL_rows_14 : decode cL_rows 14 = .ok (.iload_n 2, 1) := by decide +kernel
theorem dL_rows_15 : decode cL_rows 15 = .ok (.aload_n 1, 1) := by decide +kernel
theorem dL_rows_16 : decode cL_rows 16 = .ok (.arraylength, 1) := by decide +kernel
theorem dL_rows_17 : decode cL_rows 17 = .ok (.if_icmp .ge 34, 3) := by decide +kernel
theorem dL_rows_20 : decode cL_rows 20 = .ok (.iconst 0, 1) := by decide +kernel
theorem dL_rows_21 : decode cL_rows 21 = .ok (.istore_n 3, 1) := by decide +kernel
theorem dL_rows_22 : decode cL_rows 22 = .ok (.iload_n 3, 1) := by decide +kernel
theorem dL_rows_23 : decode cL_rows 23 = .ok (.bipush 13, 2) := by decide +kernel
theorem dL_rows_25 : decode cL_rows 25 = .ok (.if_icmp .ge 20, 3) := by decide +kernel
theorem dL_rows_28 : decode cL_rows 28 = .ok (.aload_n 1, 1) := by decide +kernel
theorem dL_rows_29 : decode cL_rows 29 = .ok (.iload_n 2, 1) := by decide +kernel
theorem dL_rows_30 : decode cL_rows 30 = .ok (.aaload, 1) := by decide +kernel
theorem dL_rows_31 : decode cL_rows 31 = .ok (.iload_n 3, 1) := by decide +kernel
theorem dL_rows_32 : decode cL_rows 32 = .ok (.aload_n 0, 1) := by decide +kernel
theorem dL_rows_33 : decode cL_rows 33 = .ok (.iload_n 2, 1) := by decide +kernel
theorem dL_rows_34 : decode cL_rows 34 = .ok (.iload_n 3, 1) := by decide +kernel
theorem dL_rows_35 : decode cL_rows 35 = .ok (.invokevirtual 17, 3) := by decide +kernel
theorem dL_rows_38 : decode cL_rows 38 = .ok (.iastore, 1) := by decide +kernel
theorem dL_rows_39 : decode cL_rows 39 = .ok (.iinc 3 1, 3) := by decide +kernel
theorem dL_rows_42 : decode cL_rows 42 = .ok (.goto (-20), 3) := by decide +kernel
theorem dL_rows_45 : decode cL_rows 45 = .ok (.iinc 2 1, 3) := by decide +kernel
theorem dL_rows_48 : decode cL_rows 48 = .ok (.goto (-34), 3) := by decide +kernel
theorem dL_rows_51 : decode cL_rows 51 = .ok (.aload_n 1, 1) := by decide +kernel
theorem dL_rows_52 : decode cL_rows 52 = .ok (.areturn, 1) := by decide +kernel
theorem dL_size_0 : decode cL_size 0 = .ok (.iconst 0, 1) := by decide +kernel
theorem dL_size_1 : decode cL_size 1 = .ok (.istore_n 1, 1) := by decide +kernel
theorem dL_size_2 : decode cL_size 2 = .ok (.aload_n 0, 1) := by decide +kernel
theorem dL_size_3 : decode cL_size 3 = .ok (.astore_n 2, 1) := by decide +kernel
theorem dL_size_4 : decode cL_size 4 = .ok (.aload_n 2, 1) := by decide +kernel
theorem dL_size_5 : decode cL_size 5 = .ok (.arraylength, 1) := by decide +kernel
theorem dL_size_6 : decode cL_size 6 = .ok (.istore_n 3, 1) := by decide +kernel
theorem dL_size_7 : decode cL_size 7 = .ok (.iconst 0, 1) := by decide +kernel
theorem dL_size_8 : decode cL_size 8 = .ok (.istore 4, 2) := by decide +kernel
theorem dL_size_10 : decode cL_size 10 = .ok (.iload 4, 2) := by decide +kernel
theorem dL_size_12 : decode cL_size 12 = .ok (.iload_n 3, 1) := by decide +kernel
theorem dL_size_13 : decode cL_size 13 = .ok (.if_icmp .ge 28, 3) := by decide +kernel
theorem dL_size_16 : decode cL_size 16 = .ok (.aload_n 2, 1) := by decide +kernel
theorem dL_size_17 : decode cL_size 17 = .ok (.iload 4, 2) := by decide +kernel
theorem dL_size_19 : decode cL_size 19 = .ok (.baload, 1) := by decide +kernel
theorem dL_size_20 : decode cL_size 20 = .ok (.istore 5, 2) := by decide +kernel
theorem dL_size_22 : decode cL_size 22 = .ok (.iload_n 1, 1) := by decide +kernel
theorem dL_size_23 : decode cL_size 23 = .ok (.iload 5, 2) := by decide +kernel
theorem dL_size_25 : decode cL_size 25 = .ok (.ifCond .eq 7, 3) := by decide +kernel
theorem dL_size_28 : decode cL_size 28 = .ok (.iconst 1, 1) := by decide +kernel
theorem dL_size_29 : decode cL_size 29 = .ok (.goto 4, 3) := by decide +kernel
theorem dL_size_32 : decode cL_size 32 = .ok (.iconst 0, 1) := by decide +kernel
theorem dL_size_33 : decode cL_size 33 = .ok (.iadd, 1) := by decide +kernel
theorem dL_size_34 : decode cL_size 34 = .ok (.istore_n 1, 1) := by decide +kernel
theorem dL_size_35 : decode cL_size 35 = .ok (.iinc 4 1, 3) := by decide +kernel
theorem dL_size_38 : decode cL_size 38 = .ok (.goto (-28), 3) := by decide +kernel
theorem dL_size_41 : decode cL_size 41 = .ok (.iload_n 1, 1) := by decide +kernel
theorem dL_size_42 : decode cL_size 42 = .ok (.ireturn, 1) := by decide +kernel
theorem dL_full_0 : decode cL_full 0 = .ok (.aload_n 0, 1) := by decide +kernel
theorem dL_full_1 : decode cL_full 1 = .ok (.arraylength, 1) := by decide +kernel
theorem dL_full_2 : decode cL_full 2 = .ok (.newarray .boolean, 2) := by decide +kernel
theorem dL_full_4 : decode cL_full 4 = .ok (.astore_n 1, 1) := by decide +kernel
theorem dL_full_5 : decode cL_full 5 = .ok (.iconst 0, 1) := by decide +kernel
theorem dL_full_6 : decode cL_full 6 = .ok (.istore_n 2, 1) := by decide +kernel
theorem dL_full_7 : decode cL_full 7 = .ok (.iload_n 2, 1) := by decide +kernel
theorem dL_full_8 : decode cL_full 8 = .ok (.aload_n 0, 1) := by decide +kernel
theorem dL_full_9 : decode cL_full 9 = .ok (.arraylength, 1) := by decide +kernel
theorem dL_full_10 : decode cL_full 10 = .ok (.if_icmp .ge 27, 3) := by decide +kernel
theorem dL_full_13 : decode cL_full 13 = .ok (.aload_n 1, 1) := by decide +kernel
theorem dL_full_14 : decode cL_full 14 = .ok (.iload_n 2, 1) := by decide +kernel
theorem dL_full_15 : decode cL_full 15 = .ok (.aload_n 0, 1) := by decide +kernel
theorem dL_full_16 : decode cL_full 16 = .ok (.iload_n 2, 1) := by decide +kernel
theorem dL_full_17 : decode cL_full 17 = .ok (.aaload, 1) := by decide +kernel
theorem dL_full_18 : decode cL_full 18 = .ok (.bipush 6, 2) := by decide +kernel
theorem dL_full_20 : decode cL_full 20 = .ok (.iaload, 1) := by decide +kernel
theorem dL_full_21 : decode cL_full 21 = .ok (.iconst 1, 1) := by decide +kernel
theorem dL_full_22 : decode cL_full 22 = .ok (.if_icmp .ne 7, 3) := by decide +kernel
theorem dL_full_25 : decode cL_full 25 = .ok (.iconst 1, 1) := by decide +kernel
theorem dL_full_26 : decode cL_full 26 = .ok (.goto 4, 3) := by decide +kernel
theorem dL_full_29 : decode cL_full 29 = .ok (.iconst 0, 1) := by decide +kernel
theorem dL_full_30 : decode cL_full 30 = .ok (.bastore, 1) := by decide +kernel
theorem dL_full_31 : decode cL_full 31 = .ok (.iinc 2 1, 3) := by decide +kernel
theorem dL_full_34 : decode cL_full 34 = .ok (.goto (-27), 3) := by decide +kernel
theorem dL_full_37 : decode cL_full 37 = .ok (.aload_n 1, 1) := by decide +kernel
theorem dL_full_38 : decode cL_full 38 = .ok (.areturn, 1) := by decide +kernel
theorem dL_present_0 : decode cL_present 0 = .ok (.aload_n 0, 1) := by decide +kernel
theorem dL_present_1 : decode cL_present 1 = .ok (.invokestatic 40, 3) := by decide +kernel
theorem dL_present_4 : decode cL_present 4 = .ok (.astore_n 2, 1) := by decide +kernel
theorem dL_present_5 : decode cL_present 5 = .ok (.iconst 0, 1) := by decide +kernel
theorem dL_present_6 : decode cL_present 6 = .ok (.istore_n 3, 1) := by decide +kernel
theorem dL_present_7 : decode cL_present 7 = .ok (.iload_n 3, 1) := by decide +kernel
theorem dL_present_8 : decode cL_present 8 = .ok (.aload_n 0, 1) := by decide +kernel
theorem dL_present_9 : decode cL_present 9 = .ok (.arraylength, 1) := by decide +kernel
theorem dL_present_10 : decode cL_present 10 = .ok (.if_icmp .ge 28, 3) := by decide +kernel
theorem dL_present_13 : decode cL_present 13 = .ok (.aload_n 2, 1) := by decide +kernel
theorem dL_present_14 : decode cL_present 14 = .ok (.iload_n 3, 1) := by decide +kernel
theorem dL_present_15 : decode cL_present 15 = .ok (.dup2, 1) := by decide +kernel
theorem dL_present_16 : decode cL_present 16 = .ok (.baload, 1) := by decide +kernel
theorem dL_present_17 : decode cL_present 17 = .ok (.iload_n 3, 1) := by decide +kernel
theorem dL_present_18 : decode cL_present 18 = .ok (.iload_n 1, 1) := by decide +kernel
theorem dL_present_19 : decode cL_present 19 = .ok (.iadd, 1) := by decide +kernel
theorem dL_present_20 : decode cL_present 20 = .ok (.iconst 4, 1) := by decide +kernel
theorem dL_present_21 : decode cL_present 21 = .ok (.irem, 1) := by decide +kernel
theorem dL_present_22 : decode cL_present 22 = .ok (.ifCond .le 7, 3) := by decide +kernel
theorem dL_present_25 : decode cL_present 25 = .ok (.iconst 1, 1) := by decide +kernel
theorem dL_present_26 : decode cL_present 26 = .ok (.goto 4, 3) := by decide +kernel
theorem dL_present_29 : decode cL_present 29 = .ok (.iconst 0, 1) := by decide +kernel
theorem dL_present_30 : decode cL_present 30 = .ok (.iand, 1) := by decide +kernel
theorem dL_present_31 : decode cL_present 31 = .ok (.bastore, 1) := by decide +kernel
theorem dL_present_32 : decode cL_present 32 = .ok (.iinc 3 1, 3) := by decide +kernel
theorem dL_present_35 : decode cL_present 35 = .ok (.goto (-28), 3) := by decide +kernel
theorem dL_present_38 : decode cL_present 38 = .ok (.aload_n 2, 1) := by decide +kernel
theorem dL_present_39 : decode cL_present 39 = .ok (.areturn, 1) := by decide +kernel
theorem dL_law_0 : decode cL_law 0 = .ok (.new 10, 3) := by decide +kernel
theorem dL_law_3 : decode cL_law 3 = .ok (.dup, 1) := by decide +kernel
theorem dL_law_4 : decode cL_law 4 = .ok (.invokespecial 44, 3) := by decide +kernel
theorem dL_law_7 : decode cL_law 7 = .ok (.astore_n 1, 1) := by decide +kernel
theorem dL_law_8 : decode cL_law 8 = .ok (.aload_n 1, 1) := by decide +kernel
theorem dL_law_9 : decode cL_law 9 = .ok (.bipush 20, 2) := by decide +kernel
theorem dL_law_11 : decode cL_law 11 = .ok (.aload_n 0, 1) := by decide +kernel
theorem dL_law_12 : decode cL_law 12 = .ok (.iconst 1, 1) := by decide +kernel
theorem dL_law_13 : decode cL_law 13 = .ok (.invokestatic 45, 3) := by decide +kernel
theorem dL_law_16 : decode cL_law 16 = .ok (.bipush 21, 2) := by decide +kernel
theorem dL_law_18 : decode cL_law 18 = .ok (.invokestatic 48, 3) := by decide +kernel
theorem dL_law_21 : decode cL_law 21 = .ok (.iadd, 1) := by decide +kernel
theorem dL_law_22 : decode cL_law 22 = .ok (.aload_n 0, 1) := by decide +kernel
theorem dL_law_23 : decode cL_law 23 = .ok (.iconst 2, 1) := by decide +kernel
theorem dL_law_24 : decode cL_law 24 = .ok (.invokestatic 45, 3) := by decide +kernel
theorem dL_law_27 : decode cL_law 27 = .ok (.bipush 100, 2) := by decide +kernel
theorem dL_law_29 : decode cL_law 29 = .ok (.invokestatic 48, 3) := by decide +kernel
theorem dL_law_32 : decode cL_law 32 = .ok (.invokevirtual 51, 3) := by decide +kernel
theorem dL_law_35 : decode cL_law 35 = .ok (.pop, 1) := by decide +kernel
theorem dL_law_36 : decode cL_law 36 = .ok (.aload_n 1, 1) := by decide +kernel
theorem dL_law_37 : decode cL_law 37 = .ok (.iconst 1, 1) := by decide +kernel
theorem dL_law_38 : decode cL_law 38 = .ok (.aload_n 0, 1) := by decide +kernel
theorem dL_law_39 : decode cL_law 39 = .ok (.iconst 3, 1) := by decide +kernel
theorem dL_law_40 : decode cL_law 40 = .ok (.invokestatic 45, 3) := by decide +kernel
theorem dL_law_43 : decode cL_law 43 = .ok (.bipush 60, 2) := by decide +kernel
theorem dL_law_45 : decode cL_law 45 = .ok (.invokestatic 48, 3) := by decide +kernel
theorem dL_law_48 : decode cL_law 48 = .ok (.iadd, 1) := by decide +kernel
theorem dL_law_49 : decode cL_law 49 = .ok (.iconst 1, 1) := by decide +kernel
theorem dL_law_50 : decode cL_law 50 = .ok (.aload_n 0, 1) := by decide +kernel
theorem dL_law_51 : decode cL_law 51 = .ok (.iconst 4, 1) := by decide +kernel
theorem dL_law_52 : decode cL_law 52 = .ok (.invokestatic 45, 3) := by decide +kernel
theorem dL_law_55 : decode cL_law 55 = .ok (.bipush 99, 2) := by decide +kernel
theorem dL_law_57 : decode cL_law 57 = .ok (.invokestatic 48, 3) := by decide +kernel
theorem dL_law_60 : decode cL_law 60 = .ok (.iadd, 1) := by decide +kernel
theorem dL_law_61 : decode cL_law 61 = .ok (.invokevirtual 54, 3) := by decide +kernel
theorem dL_law_64 : decode cL_law 64 = .ok (.pop, 1) := by decide +kernel
theorem dL_law_65 : decode cL_law 65 = .ok (.iconst 0, 1) := by decide +kernel
theorem dL_law_66 : decode cL_law 66 = .ok (.istore_n 2, 1) := by decide +kernel
theorem dL_law_67 : decode cL_law 67 = .ok (.iload_n 2, 1) := by decide +kernel
theorem dL_law_68 : decode cL_law 68 = .ok (.bipush 70, 2) := by decide +kernel
theorem dL_law_70 : decode cL_law 70 = .ok (.if_icmp .ge 132, 3) := by decide +kernel
theorem dL_law_73 : decode cL_law 73 = .ok (.aload_n 0, 1) := by decide +kernel
theorem dL_law_74 : decode cL_law 74 = .ok (.iload_n 2, 1) := by decide +kernel
theorem dL_law_75 : decode cL_law 75 = .ok (.bipush 16, 2) := by decide +kernel
theorem dL_law_77 : decode cL_law 77 = .ok (.irem, 1) := by decide +kernel
theorem dL_law_78 : decode cL_law 78 = .ok (.invokestatic 45, 3) := by decide +kernel
theorem dL_law_81 : decode cL_law 81 = .ok (.bipush 41, 2) := by decide +kernel
theorem dL_law_83 : decode cL_law 83 = .ok (.iload_n 2, 1) := by decide +kernel
theorem dL_law_84 : decode cL_law 84 = .ok (.imul, 1) := by decide +kernel
theorem dL_law_85 : decode cL_law 85 = .ok (.iadd, 1) := by decide +kernel
theorem dL_law_86 : decode cL_law 86 = .ok (.istore_n 3, 1) := by decide +kernel
theorem dL_law_87 : decode cL_law 87 = .ok (.aload_n 1, 1) := by decide +kernel
theorem dL_law_88 : decode cL_law 88 = .ok (.iconst 4, 1) := by decide +kernel
theorem dL_law_89 : decode cL_law 89 = .ok (.invokevirtual 9, 3) := by decide +kernel
theorem dL_law_92 : decode cL_law 92 = .ok (.istore 4, 2) := by decide +kernel
theorem dL_law_94 : decode cL_law 94 = .ok (.aload_n 1, 1) := by decide +kernel
theorem dL_law_95 : decode cL_law 95 = .ok (.iconst 0, 1) := by decide +kernel
theorem dL_law_96 : decode cL_law 96 = .ok (.invokevirtual 9, 3) := by decide +kernel
theorem dL_law_99 : decode cL_law 99 = .ok (.istore 5, 2) := by decide +kernel
theorem dL_law_101 : decode cL_law 101 = .ok (.aload_n 1, 1) := by decide +kernel
theorem dL_law_102 : decode cL_law 102 = .ok (.iload_n 3, 1) := by decide +kernel
theorem dL_law_103 : decode cL_law 103 = .ok (.iconst 2, 1) := by decide +kernel
theorem dL_law_104 : decode cL_law 104 = .ok (.ishr, 1) := by decide +kernel
theorem dL_law_105 : decode cL_law 105 = .ok (.iload_n 3, 1) := by decide +kernel
theorem dL_law_106 : decode cL_law 106 = .ok (.bipush 20, 2) := by decide +kernel
theorem dL_law_108 : decode cL_law 108 = .ok (.invokestatic 48, 3) := by decide +kernel
theorem dL_law_111 : decode cL_law 111 = .ok (.invokestatic 57, 3) := by decide +kernel
theorem dL_law_114 : decode cL_law 114 = .ok (.aload_n 1, 1) := by decide +kernel
theorem dL_law_115 : decode cL_law 115 = .ok (.iconst 4, 1) := by decide +kernel
theorem dL_law_116 : decode cL_law 116 = .ok (.invokevirtual 9, 3) := by decide +kernel
theorem dL_law_119 : decode cL_law 119 = .ok (.iload 4, 2) := by decide +kernel
theorem dL_law_121 : decode cL_law 121 = .ok (.if_icmp .lt 55, 3) := by decide +kernel
theorem dL_law_124 : decode cL_law 124 = .ok (.aload_n 1, 1) := by decide +kernel
theorem dL_law_125 : decode cL_law 125 = .ok (.iconst 0, 1) := by decide +kernel
theorem dL_law_126 : decode cL_law 126 = .ok (.invokevirtual 9, 3) := by decide +kernel
theorem dL_law_129 : decode cL_law 129 = .ok (.iload 5, 2) := by decide +kernel
theorem dL_law_131 : decode cL_law 131 = .ok (.if_icmp .lt 45, 3) := by decide +kernel
theorem dL_law_134 : decode cL_law 134 = .ok (.aload_n 1, 1) := by decide +kernel
theorem dL_law_135 : decode cL_law 135 = .ok (.iconst 0, 1) := by decide +kernel
theorem dL_law_136 : decode cL_law 136 = .ok (.invokevirtual 61, 3) := by decide +kernel
theorem dL_law_139 : decode cL_law 139 = .ok (.sipush 300, 3) := by decide +kernel
theorem dL_law_142 : decode cL_law 142 = .ok (.aload_n 1, 1) := by decide +kernel
theorem dL_law_143 : decode cL_law 143 = .ok (.bipush 7, 2) := by decide +kernel
theorem dL_law_145 : decode cL_law 145 = .ok (.invokevirtual 61, 3) := by decide +kernel
theorem dL_law_148 : decode cL_law 148 = .ok (.iadd, 1) := by decide +kernel
theorem dL_law_149 : decode cL_law 149 = .ok (.aload_n 1, 1) := by decide +kernel
theorem dL_law_150 : decode cL_law 150 = .ok (.bipush 8, 2) := by decide +kernel
theorem dL_law_152 : decode cL_law 152 = .ok (.invokevirtual 61, 3) := by decide +kernel
theorem dL_law_155 : decode cL_law 155 = .ok (.isub, 1) := by decide +kernel
theorem dL_law_156 : decode cL_law 156 = .ok (.if_icmp .ne 20, 3) := by decide +kernel
theorem dL_law_159 : decode cL_law 159 = .ok (.aload_n 1, 1) := by decide +kernel
theorem dL_law_160 : decode cL_law 160 = .ok (.iconst 0, 1) := by decide +kernel
theorem dL_law_161 : decode cL_law 161 = .ok (.invokevirtual 61, 3) := by decide +kernel
theorem dL_law_164 : decode cL_law 164 = .ok (.ifCond .lt 12, 3) := by decide +kernel
theorem dL_law_167 : decode cL_law 167 = .ok (.aload_n 1, 1) := by decide +kernel
theorem dL_law_168 : decode cL_law 168 = .ok (.bipush 7, 2) := by decide +kernel
theorem dL_law_170 : decode cL_law 170 = .ok (.invokevirtual 9, 3) := by decide +kernel
theorem dL_law_173 : decode cL_law 173 = .ok (.ifCond .ge 5, 3) := by decide +kernel
theorem dL_law_176 : decode cL_law 176 = .ok (.iconst 0, 1) := by decide +kernel
theorem dL_law_177 : decode cL_law 177 = .ok (.ireturn, 1) := by decide +kernel
theorem dL_law_178 : decode cL_law 178 = .ok (.iload_n 2, 1) := by decide +kernel
theorem dL_law_179 : decode cL_law 179 = .ok (.bipush 7, 2) := by decide +kernel
theorem dL_law_181 : decode cL_law 181 = .ok (.irem, 1) := by decide +kernel
theorem dL_law_182 : decode cL_law 182 = .ok (.bipush 6, 2) := by decide +kernel
theorem dL_law_184 : decode cL_law 184 = .ok (.if_icmp .ne 12, 3) := by decide +kernel
theorem dL_law_187 : decode cL_law 187 = .ok (.aload_n 1, 1) := by decide +kernel
theorem dL_law_188 : decode cL_law 188 = .ok (.invokestatic 64, 3) := by decide +kernel
theorem dL_law_191 : decode cL_law 191 = .ok (.ifCond .ne 5, 3) := by decide +kernel
theorem dL_law_194 : decode cL_law 194 = .ok (.iconst 0, 1) := by decide +kernel
theorem dL_law_195 : decode cL_law 195 = .ok (.ireturn, 1) := by decide +kernel
theorem dL_law_196 : decode cL_law 196 = .ok (.iinc 2 1, 3) := by decide +kernel
theorem dL_law_199 : decode cL_law 199 = .ok (.goto (-132), 3) := by decide +kernel
theorem dL_law_202 : decode cL_law 202 = .ok (.iconst 1, 1) := by decide +kernel
theorem dL_law_203 : decode cL_law 203 = .ok (.ireturn, 1) := by decide +kernel
theorem dL_act_0 : decode cL_act 0 = .ok (.iload_n 1, 1) := by decide +kernel
theorem dL_act_1 : decode cL_act 1 = .ok (.aload_n 0, 1) := by decide +kernel
theorem dL_act_2 : decode cL_act 2 = .ok (.iconst 5, 1) := by decide +kernel
theorem dL_act_3 : decode cL_act 3 = .ok (.invokevirtual 9, 3) := by decide +kernel
theorem dL_act_6 : decode cL_act 6 = .ok (.invokestatic 48, 3) := by decide +kernel
theorem dL_act_9 : decode cL_act 9 = .ok (.istore_n 3, 1) := by decide +kernel
theorem dL_act_10 : decode cL_act 10 = .ok (.iload_n 1, 1) := by decide +kernel
theorem dL_act_11 : decode cL_act 11 = .ok (.iconst 3, 1) := by decide +kernel
theorem dL_act_12 : decode cL_act 12 = .ok (.ishr, 1) := by decide +kernel
theorem dL_act_13 : decode cL_act 13 = .ok (.aload_n 0, 1) := by decide +kernel
theorem dL_act_14 : decode cL_act 14 = .ok (.iconst 5, 1) := by decide +kernel
theorem dL_act_15 : decode cL_act 15 = .ok (.invokevirtual 9, 3) := by decide +kernel
theorem dL_act_18 : decode cL_act 18 = .ok (.invokestatic 48, 3) := by decide +kernel
theorem dL_act_21 : decode cL_act 21 = .ok (.istore 4, 2) := by decide +kernel
theorem dL_act_23 : decode cL_act 23 = .ok (.iload_n 2, 1) := by decide +kernel
theorem dL_act_24 : decode cL_act 24 = .ok (.tableswitch 342 0 17 #[88, 96, 96, 96, 137, 137, 145, 162, 178, 178, 215, 223, 241, 267, 276, 287, 305, 313], 88) := by decide +kernel
theorem dL_act_112 : decode cL_act 112 = .ok (.aload_n 0, 1) := by decide +kernel
theorem dL_act_113 : decode cL_act 113 = .ok (.invokevirtual 68, 3) := by decide +kernel
theorem dL_act_116 : decode cL_act 116 = .ok (.pop, 1) := by decide +kernel
theorem dL_act_117 : decode cL_act 117 = .ok (.goto 264, 3) := by decide +kernel
theorem dL_act_120 : decode cL_act 120 = .ok (.aload_n 0, 1) := by decide +kernel
theorem dL_act_121 : decode cL_act 121 = .ok (.iload_n 3, 1) := by decide +kernel
theorem dL_act_122 : decode cL_act 122 = .ok (.iload_n 1, 1) := by decide +kernel
theorem dL_act_123 : decode cL_act 123 = .ok (.iconst 2, 1) := by decide +kernel
theorem dL_act_124 : decode cL_act 124 = .ok (.ishr, 1) := by decide +kernel
theorem dL_act_125 : decode cL_act 125 = .ok (.bipush 6, 2) := by decide +kernel
theorem dL_act_127 : decode cL_act 127 = .ok (.invokestatic 48, 3) := by decide +kernel
theorem dL_act_130 : decode cL_act 130 = .ok (.iload_n 1, 1) := by decide +kernel
theorem dL_act_131 : decode cL_act 131 = .ok (.iconst 4, 1) := by decide +kernel
theorem dL_act_132 : decode cL_act 132 = .ok (.ishr, 1) := by decide +kernel
theorem dL_act_133 : decode cL_act 133 = .ok (.bipush 8, 2) := by decide +kernel
theorem dL_act_135 : decode cL_act 135 = .ok (.invokestatic 48, 3) := by decide +kernel
theorem dL_act_138 : decode cL_act 138 = .ok (.iload_n 1, 1) := by decide +kernel
theorem dL_act_139 : decode cL_act 139 = .ok (.iconst 5, 1) := by decide +kernel
theorem dL_act_140 : decode cL_act 140 = .ok (.ishr, 1) := by decide +kernel
theorem dL_act_141 : decode cL_act 141 = .ok (.bipush 16, 2) := by decide +kernel
theorem dL_act_143 : decode cL_act 143 = .ok (.invokestatic 48, 3) := by decide +kernel
theorem dL_act_146 : decode cL_act 146 = .ok (.iload_n 1, 1) := by decide +kernel
theorem dL_act_147 : decode cL_act 147 = .ok (.iconst 3, 1) := by decide +kernel
theorem dL_act_148 : decode cL_act 148 = .ok (.ishr, 1) := by decide +kernel
theorem dL_act_149 : decode cL_act 149 = .ok (.bipush 60, 2) := by decide +kernel
theorem dL_act_151 : decode cL_act 151 = .ok (.invokestatic 48, 3) := by decide +kernel
theorem dL_act_154 : decode cL_act 154 = .ok (.invokevirtual 72, 3) := by decide +kernel
theorem dL_act_157 : decode cL_act 157 = .ok (.pop, 1) := by decide +kernel
theorem dL_act_158 : decode cL_act 158 = .ok (.goto 223, 3) := by decide +kernel
theorem dL_act_161 : decode cL_act 161 = .ok (.aload_n 0, 1) := by decide +kernel
theorem dL_act_162 : decode cL_act 162 = .ok (.invokevirtual 76, 3) := by decide +kernel
theorem dL_act_165 : decode cL_act 165 = .ok (.pop, 1) := by decide +kernel
theorem dL_act_166 : decode cL_act 166 = .ok (.goto 215, 3) := by decide +kernel
theorem dL_act_169 : decode cL_act 169 = .ok (.aload_n 0, 1) := by decide +kernel
theorem dL_act_170 : decode cL_act 170 = .ok (.iload_n 3, 1) := by decide +kernel
theorem dL_act_171 : decode cL_act 171 = .ok (.iload_n 1, 1) := by decide +kernel
theorem dL_act_172 : decode cL_act 172 = .ok (.iconst 4, 1) := by decide +kernel
theorem dL_act_173 : decode cL_act 173 = .ok (.ishr, 1) := by decide +kernel
theorem dL_act_174 : decode cL_act 174 = .ok (.bipush 7, 2) := by decide +kernel
theorem dL_act_176 : decode cL_act 176 = .ok (.invokestatic 48, 3) := by decide +kernel
theorem dL_act_179 : decode cL_act 179 = .ok (.invokevirtual 79, 3) := by decide +kernel
theorem dL_act_182 : decode cL_act 182 = .ok (.pop, 1) := by decide +kernel
theorem dL_act_183 : decode cL_act 183 = .ok (.goto 198, 3) := by decide +kernel
theorem dL_act_186 : decode cL_act 186 = .ok (.aload_n 0, 1) := by decide +kernel
theorem dL_act_187 : decode cL_act 187 = .ok (.iload_n 1, 1) := by decide +kernel
theorem dL_act_188 : decode cL_act 188 = .ok (.iconst 2, 1) := by decide +kernel
theorem dL_act_189 : decode cL_act 189 = .ok (.ishr, 1) := by decide +kernel
theorem dL_act_190 : decode cL_act 190 = .ok (.bipush 7, 2) := by decide +kernel
theorem dL_act_192 : decode cL_act 192 = .ok (.invokestatic 48, 3) := by decide +kernel
theorem dL_act_195 : decode cL_act 195 = .ok (.invokevirtual 82, 3) := by decide +kernel
theorem dL_act_198 : decode cL_act 198 = .ok (.pop, 1) := by decide +kernel
theorem dL_act_199 : decode cL_act 199 = .ok (.goto 182, 3) := by decide +kernel
theorem dL_act_202 : decode cL_act 202 = .ok (.aload_n 0, 1) := by decide +kernel
theorem dL_act_203 : decode cL_act 203 = .ok (.iload_n 3, 1) := by decide +kernel
theorem dL_act_204 : decode cL_act 204 = .ok (.iload 4, 2) := by decide +kernel
theorem dL_act_206 : decode cL_act 206 = .ok (.iload_n 1, 1) := by decide +kernel
theorem dL_act_207 : decode cL_act 207 = .ok (.iconst 5, 1) := by decide +kernel
theorem dL_act_208 : decode cL_act 208 = .ok (.ishr, 1) := by decide +kernel
theorem dL_act_209 : decode cL_act 209 = .ok (.iconst 2, 1) := by decide +kernel
theorem dL_act_210 : decode cL_act 210 = .ok (.invokestatic 48, 3) := by decide +kernel
theorem dL_act_213 : decode cL_act 213 = .ok (.iconst 1, 1) := by decide +kernel
theorem dL_act_214 : decode cL_act 214 = .ok (.iload_n 1, 1) := by decide +kernel
theorem dL_act_215 : decode cL_act 215 = .ok (.iconst 4, 1) := by decide +kernel
theorem dL_act_216 : decode cL_act 216 = .ok (.ishr, 1) := by decide +kernel
theorem dL_act_217 : decode cL_act 217 = .ok (.bipush 100, 2) := by decide +kernel
theorem dL_act_219 : decode cL_act 219 = .ok (.invokestatic 48, 3) := by decide +kernel
theorem dL_act_222 : decode cL_act 222 = .ok (.iadd, 1) := by decide +kernel
theorem dL_act_223 : decode cL_act 223 = .ok (.iload_n 1, 1) := by decide +kernel
theorem dL_act_224 : decode cL_act 224 = .ok (.bipush 6, 2) := by decide +kernel
theorem dL_act_226 : decode cL_act 226 = .ok (.ishr, 1) := by decide +kernel
theorem dL_act_227 : decode cL_act 227 = .ok (.bipush 16, 2) := by decide +kernel
theorem dL_act_229 : decode cL_act 229 = .ok (.invokestatic 48, 3) := by decide +kernel
theorem dL_act_232 : decode cL_act 232 = .ok (.invokevirtual 85, 3) := by decide +kernel
theorem dL_act_235 : decode cL_act 235 = .ok (.pop, 1) := by decide +kernel
theorem dL_act_236 : decode cL_act 236 = .ok (.goto 145, 3) := by decide +kernel
theorem dL_act_239 : decode cL_act 239 = .ok (.aload_n 0, 1) := by decide +kernel
theorem dL_act_240 : decode cL_act 240 = .ok (.invokevirtual 88, 3) := by decide +kernel
theorem dL_act_243 : decode cL_act 243 = .ok (.pop, 1) := by decide +kernel
theorem dL_act_244 : decode cL_act 244 = .ok (.goto 137, 3) := by decide +kernel
theorem dL_act_247 : decode cL_act 247 = .ok (.aload_n 0, 1) := by decide +kernel
theorem dL_act_248 : decode cL_act 248 = .ok (.iload_n 3, 1) := by decide +kernel
theorem dL_act_249 : decode cL_act 249 = .ok (.iload_n 1, 1) := by decide +kernel
theorem dL_act_250 : decode cL_act 250 = .ok (.iconst 5, 1) := by decide +kernel
theorem dL_act_251 : decode cL_act 251 = .ok (.ishr, 1) := by decide +kernel
theorem dL_act_252 : decode cL_act 252 = .ok (.iconst 4, 1) := by decide +kernel
theorem dL_act_253 : decode cL_act 253 = .ok (.invokestatic 48, 3) := by decide +kernel
theorem dL_act_256 : decode cL_act 256 = .ok (.bipush 30, 2) := by decide +kernel
theorem dL_act_258 : decode cL_act 258 = .ok (.invokevirtual 91, 3) := by decide +kernel
theorem dL_act_261 : decode cL_act 261 = .ok (.pop, 1) := by decide +kernel
theorem dL_act_262 : decode cL_act 262 = .ok (.goto 119, 3) := by decide +kernel
theorem dL_act_265 : decode cL_act 265 = .ok (.aload_n 0, 1) := by decide +kernel
theorem dL_act_266 : decode cL_act 266 = .ok (.iload_n 3, 1) := by decide +kernel
theorem dL_act_267 : decode cL_act 267 = .ok (.iload_n 1, 1) := by decide +kernel
theorem dL_act_268 : decode cL_act 268 = .ok (.iconst 5, 1) := by decide +kernel
theorem dL_act_269 : decode cL_act 269 = .ok (.ishr, 1) := by decide +kernel
theorem dL_act_270 : decode cL_act 270 = .ok (.iconst 3, 1) := by decide +kernel
theorem dL_act_271 : decode cL_act 271 = .ok (.invokestatic 48, 3) := by decide +kernel
theorem dL_act_274 : decode cL_act 274 = .ok (.iconst 1, 1) := by decide +kernel
theorem dL_act_275 : decode cL_act 275 = .ok (.iload_n 1, 1) := by decide +kernel
theorem dL_act_276 : decode cL_act 276 = .ok (.iconst 2, 1) := by decide +kernel
theorem dL_act_277 : decode cL_act 277 = .ok (.ishr, 1) := by decide +kernel
theorem dL_act_278 : decode cL_act 278 = .ok (.bipush 60, 2) := by decide +kernel
theorem dL_act_280 : decode cL_act 280 = .ok (.invokestatic 48, 3) := by decide +kernel
theorem dL_act_283 : decode cL_act 283 = .ok (.iadd, 1) := by decide +kernel
theorem dL_act_284 : decode cL_act 284 = .ok (.invokevirtual 95, 3) := by decide +kernel
theorem dL_act_287 : decode cL_act 287 = .ok (.pop, 1) := by decide +kernel
theorem dL_act_288 : decode cL_act 288 = .ok (.goto 93, 3) := by decide +kernel
theorem dL_act_291 : decode cL_act 291 = .ok (.aload_n 0, 1) := by decide +kernel
theorem dL_act_292 : decode cL_act 292 = .ok (.iload_n 3, 1) := by decide +kernel
theorem dL_act_293 : decode cL_act 293 = .ok (.invokevirtual 98, 3) := by decide +kernel
theorem dL_act_296 : decode cL_act 296 = .ok (.pop, 1) := by decide +kernel
theorem dL_act_297 : decode cL_act 297 = .ok (.goto 84, 3) := by decide +kernel
theorem dL_act_300 : decode cL_act 300 = .ok (.aload_n 0, 1) := by decide +kernel
theorem dL_act_301 : decode cL_act 301 = .ok (.iload_n 3, 1) := by decide +kernel
theorem dL_act_302 : decode cL_act 302 = .ok (.iload 4, 2) := by decide +kernel
theorem dL_act_304 : decode cL_act 304 = .ok (.invokevirtual 101, 3) := by decide +kernel
theorem dL_act_307 : decode cL_act 307 = .ok (.pop, 1) := by decide +kernel
theorem dL_act_308 : decode cL_act 308 = .ok (.goto 73, 3) := by decide +kernel
theorem dL_act_311 : decode cL_act 311 = .ok (.aload_n 0, 1) := by decide +kernel
theorem dL_act_312 : decode cL_act 312 = .ok (.iconst 1, 1) := by decide +kernel
theorem dL_act_313 : decode cL_act 313 = .ok (.iload_n 1, 1) := by decide +kernel
theorem dL_act_314 : decode cL_act 314 = .ok (.iconst 4, 1) := by decide +kernel
theorem dL_act_315 : decode cL_act 315 = .ok (.ishr, 1) := by decide +kernel
theorem dL_act_316 : decode cL_act 316 = .ok (.bipush 15, 2) := by decide +kernel
theorem dL_act_318 : decode cL_act 318 = .ok (.invokestatic 48, 3) := by decide +kernel
theorem dL_act_321 : decode cL_act 321 = .ok (.iadd, 1) := by decide +kernel
theorem dL_act_322 : decode cL_act 322 = .ok (.invokevirtual 104, 3) := by decide +kernel
theorem dL_act_325 : decode cL_act 325 = .ok (.pop, 1) := by decide +kernel
theorem dL_act_326 : decode cL_act 326 = .ok (.goto 55, 3) := by decide +kernel
theorem dL_act_329 : decode cL_act 329 = .ok (.aload_n 0, 1) := by decide +kernel
theorem dL_act_330 : decode cL_act 330 = .ok (.invokevirtual 107, 3) := by decide +kernel
theorem dL_act_333 : decode cL_act 333 = .ok (.pop, 1) := by decide +kernel
theorem dL_act_334 : decode cL_act 334 = .ok (.goto 47, 3) := by decide +kernel
theorem dL_act_337 : decode cL_act 337 = .ok (.aload_n 0, 1) := by decide +kernel
theorem dL_act_338 : decode cL_act 338 = .ok (.iload_n 1, 1) := by decide +kernel
theorem dL_act_339 : decode cL_act 339 = .ok (.iconst 3, 1) := by decide +kernel
theorem dL_act_340 : decode cL_act 340 = .ok (.ishr, 1) := by decide +kernel
theorem dL_act_341 : decode cL_act 341 = .ok (.bipush 16, 2) := by decide +kernel
theorem dL_act_343 : decode cL_act 343 = .ok (.invokestatic 48, 3) := by decide +kernel
theorem dL_act_346 : decode cL_act 346 = .ok (.iload_n 1, 1) := by decide +kernel
theorem dL_act_347 : decode cL_act 347 = .ok (.iconst 2, 1) := by decide +kernel
theorem dL_act_348 : decode cL_act 348 = .ok (.invokestatic 48, 3) := by decide +kernel
theorem dL_act_351 : decode cL_act 351 = .ok (.ifCond .ne 7, 3) := by decide +kernel
theorem dL_act_354 : decode cL_act 354 = .ok (.iconst 1, 1) := by decide +kernel
theorem dL_act_355 : decode cL_act 355 = .ok (.goto 4, 3) := by decide +kernel
theorem dL_act_358 : decode cL_act 358 = .ok (.iconst 0, 1) := by decide +kernel
theorem dL_act_359 : decode cL_act 359 = .ok (.invokevirtual 110, 3) := by decide +kernel
theorem dL_act_362 : decode cL_act 362 = .ok (.pop, 1) := by decide +kernel
theorem dL_act_363 : decode cL_act 363 = .ok (.goto 18, 3) := by decide +kernel
theorem dL_act_366 : decode cL_act 366 = .ok (.aload_n 0, 1) := by decide +kernel
theorem dL_act_367 : decode cL_act 367 = .ok (.iconst 1, 1) := by decide +kernel
theorem dL_act_368 : decode cL_act 368 = .ok (.iload_n 1, 1) := by decide +kernel
theorem dL_act_369 : decode cL_act 369 = .ok (.iconst 2, 1) := by decide +kernel
theorem dL_act_370 : decode cL_act 370 = .ok (.ishr, 1) := by decide +kernel
theorem dL_act_371 : decode cL_act 371 = .ok (.bipush 9, 2) := by decide +kernel
theorem dL_act_373 : decode cL_act 373 = .ok (.invokestatic 48, 3) := by decide +kernel
theorem dL_act_376 : decode cL_act 376 = .ok (.iadd, 1) := by decide +kernel
theorem dL_act_377 : decode cL_act 377 = .ok (.invokevirtual 114, 3) := by decide +kernel
theorem dL_act_380 : decode cL_act 380 = .ok (.pop, 1) := by decide +kernel
theorem dL_act_381 : decode cL_act 381 = .ok (.goto 12, 3) := by decide +kernel
theorem dL_act_384 : decode cL_act 384 = .ok (.astore 5, 2) := by decide +kernel
theorem dL_act_386 : decode cL_act 386 = .ok (.return_, 1) := by decide +kernel
theorem dL_act_387 : decode cL_act 387 = .ok (.astore 5, 2) := by decide +kernel
theorem dL_act_389 : decode cL_act 389 = .ok (.return_, 1) := by decide +kernel
theorem dL_act_390 : decode cL_act 390 = .ok (.astore 5, 2) := by decide +kernel
theorem dL_act_392 : decode cL_act 392 = .ok (.return_, 1) := by decide +kernel
theorem dL_act_393 : decode cL_act 393 = .ok (.return_, 1) := by decide +kernel
theorem dL_isAsked_0 : decode cL_isAsked 0 = .ok (.aload_n 0, 1) := by decide +kernel
theorem dL_isAsked_1 : decode cL_isAsked 1 = .ok (.invokevirtual 123, 3) := by decide +kernel
theorem dL_isAsked_4 : decode cL_isAsked 4 = .ok (.lstore_n 1, 1) := by decide +kernel
theorem dL_isAsked_5 : decode cL_isAsked 5 = .ok (.aload_n 0, 1) := by decide +kernel
theorem dL_isAsked_6 : decode cL_isAsked 6 = .ok (.invokevirtual 127, 3) := by decide +kernel
theorem dL_isAsked_9 : decode cL_isAsked 9 = .ok (.ifCond .ne 5, 3) := by decide +kernel
theorem dL_isAsked_12 : decode cL_isAsked 12 = .ok (.iconst 0, 1) := by decide +kernel
theorem dL_isAsked_13 : decode cL_isAsked 13 = .ok (.ireturn, 1) := by decide +kernel
theorem dL_isAsked_14 : decode cL_isAsked 14 = .ok (.aload_n 0, 1) := by decide +kernel
theorem dL_isAsked_15 : decode cL_isAsked 15 = .ok (.invokestatic 131, 3) := by decide +kernel
theorem dL_isAsked_18 : decode cL_isAsked 18 = .ok (.astore_n 3, 1) := by decide +kernel
theorem dL_isAsked_19 : decode cL_isAsked 19 = .ok (.bipush 7, 2) := by decide +kernel
theorem dL_isAsked_21 : decode cL_isAsked 21 = .ok (.newarray .boolean, 2) := by decide +kernel
theorem dL_isAsked_23 : decode cL_isAsked 23 = .ok (.astore 4, 2) := by decide +kernel
theorem dL_isAsked_25 : decode cL_isAsked 25 = .ok (.iconst 0, 1) := by decide +kernel
theorem dL_isAsked_26 : decode cL_isAsked 26 = .ok (.istore 5, 2) := by decide +kernel
theorem dL_isAsked_28 : decode cL_isAsked 28 = .ok (.iconst 0, 1) := by decide +kernel
theorem dL_isAsked_29 : decode cL_isAsked 29 = .ok (.istore 6, 2) := by decide +kernel
theorem dL_isAsked_31 : decode cL_isAsked 31 = .ok (.iconst 0, 1) := by decide +kernel
theorem dL_isAsked_32 : decode cL_isAsked 32 = .ok (.istore 7, 2) := by decide +kernel
theorem dL_isAsked_34 : decode cL_isAsked 34 = .ok (.iconst 0, 1) := by decide +kernel
theorem dL_isAsked_35 : decode cL_isAsked 35 = .ok (.istore 8, 2) := by decide +kernel
theorem dL_isAsked_37 : decode cL_isAsked 37 = .ok (.iload 8, 2) := by decide +kernel
theorem dL_isAsked_39 : decode cL_isAsked 39 = .ok (.aload_n 3, 1) := by decide +kernel
theorem dL_isAsked_40 : decode cL_isAsked 40 = .ok (.arraylength, 1) := by decide +kernel
theorem dL_isAsked_41 : decode cL_isAsked 41 = .ok (.if_icmp .ge 175, 3) := by decide +kernel
theorem dL_isAsked_44 : decode cL_isAsked 44 = .ok (.aload_n 3, 1) := by decide +kernel
theorem dL_isAsked_45 : decode cL_isAsked 45 = .ok (.iload 8, 2) := by decide +kernel
theorem dL_isAsked_47 : decode cL_isAsked 47 = .ok (.aaload, 1) := by decide +kernel
theorem dL_isAsked_48 : decode cL_isAsked 48 = .ok (.astore 9, 2) := by decide +kernel
theorem dL_isAsked_50 : decode cL_isAsked 50 = .ok (.aload 9, 2) := by decide +kernel
theorem dL_isAsked_52 : decode cL_isAsked 52 = .ok (.bipush 6, 2) := by decide +kernel
theorem dL_isAsked_54 : decode cL_isAsked 54 = .ok (.iaload, 1) := by decide +kernel
theorem dL_isAsked_55 : decode cL_isAsked 55 = .ok (.iconst 1, 1) := by decide +kernel
theorem dL_isAsked_56 : decode cL_isAsked 56 = .ok (.if_icmp .ne 11, 3) := by decide +kernel
theorem dL_isAsked_59 : decode cL_isAsked 59 = .ok (.aload 9, 2) := by decide +kernel
theorem dL_isAsked_61 : decode cL_isAsked 61 = .ok (.bipush 7, 2) := by decide +kernel
theorem dL_isAsked_63 : decode cL_isAsked 63 = .ok (.iaload, 1) := by decide +kernel
theorem dL_isAsked_64 : decode cL_isAsked 64 = .ok (.ifCond .gt 53, 3) := by decide +kernel
theorem dL_isAsked_67 : decode cL_isAsked 67 = .ok (.aload 9, 2) := by decide +kernel
theorem dL_isAsked_69 : decode cL_isAsked 69 = .ok (.bipush 11, 2) := by decide +kernel
theorem dL_isAsked_71 : decode cL_isAsked 71 = .ok (.iaload, 1) := by decide +kernel
theorem dL_isAsked_72 : decode cL_isAsked 72 = .ok (.iconst 1, 1) := by decide +kernel
theorem dL_isAsked_73 : decode cL_isAsked 73 = .ok (.if_icmp .ne 12, 3) := by decide +kernel
theorem dL_isAsked_76 : decode cL_isAsked 76 = .ok (.aload 9, 2) := by decide +kernel
theorem dL_isAsked_78 : decode cL_isAsked 78 = .ok (.bipush 6, 2) := by decide +kernel
theorem dL_isAsked_80 : decode cL_isAsked 80 = .ok (.iaload, 1) := by decide +kernel
theorem dL_isAsked_81 : decode cL_isAsked 81 = .ok (.iconst 1, 1) := by decide +kernel
theorem dL_isAsked_82 : decode cL_isAsked 82 = .ok (.if_icmp .ne 35, 3) := by decide +kernel
theorem dL_isAsked_85 : decode cL_isAsked 85 = .ok (.aload 9, 2) := by decide +kernel
theorem dL_isAsked_87 : decode cL_isAsked 87 = .ok (.bipush 11, 2) := by decide +kernel
theorem dL_isAsked_89 : decode cL_isAsked 89 = .ok (.iaload, 1) := by decide +kernel
theorem dL_isAsked_90 : decode cL_isAsked 90 = .ok (.iconst 1, 1) := by decide +kernel
theorem dL_isAsked_91 : decode cL_isAsked 91 = .ok (.if_icmp .ne 11, 3) := by decide +kernel
theorem dL_isAsked_94 : decode cL_isAsked 94 = .ok (.aload 9, 2) := by decide +kernel
theorem dL_isAsked_96 : decode cL_isAsked 96 = .ok (.bipush 10, 2) := by decide +kernel
theorem dL_isAsked_98 : decode cL_isAsked 98 = .ok (.iaload, 1) := by decide +kernel
theorem dL_isAsked_99 : decode cL_isAsked 99 = .ok (.ifCond .ge 18, 3) := by decide +kernel
theorem dL_isAsked_102 : decode cL_isAsked 102 = .ok (.aload 9, 2) := by decide +kernel
theorem dL_isAsked_104 : decode cL_isAsked 104 = .ok (.iconst 4, 1) := by decide +kernel
theorem dL_isAsked_105 : decode cL_isAsked 105 = .ok (.iaload, 1) := by decide +kernel
theorem dL_isAsked_106 : decode cL_isAsked 106 = .ok (.ifCond .lt 11, 3) := by decide +kernel
theorem dL_isAsked_109 : decode cL_isAsked 109 = .ok (.aload 9, 2) := by decide +kernel
theorem dL_isAsked_111 : decode cL_isAsked 111 = .ok (.bipush 7, 2) := by decide +kernel
theorem dL_isAsked_113 : decode cL_isAsked 113 = .ok (.iaload, 1) := by decide +kernel
theorem dL_isAsked_114 : decode cL_isAsked 114 = .ok (.ifCond .ge 5, 3) := by decide +kernel
theorem dL_isAsked_117 : decode cL_isAsked 117 = .ok (.iconst 0, 1) := by decide +kernel
theorem dL_isAsked_118 : decode cL_isAsked 118 = .ok (.ireturn, 1) := by decide +kernel
theorem dL_isAsked_119 : decode cL_isAsked 119 = .ok (.aload 9, 2) := by decide +kernel
theorem dL_isAsked_121 : decode cL_isAsked 121 = .ok (.bipush 10, 2) := by decide +kernel
theorem dL_isAsked_123 : decode cL_isAsked 123 = .ok (.iaload, 1) := by decide +kernel
theorem dL_isAsked_124 : decode cL_isAsked 124 = .ok (.ifCond .lt 49, 3) := by decide +kernel
theorem dL_isAsked_127 : decode cL_isAsked 127 = .ok (.aload 4, 2) := by decide +kernel
theorem dL_isAsked_129 : decode cL_isAsked 129 = .ok (.aload 9, 2) := by decide +kernel
theorem dL_isAsked_131 : decode cL_isAsked 131 = .ok (.bipush 10, 2) := by decide +kernel
theorem dL_isAsked_133 : decode cL_isAsked 133 = .ok (.iaload, 1) := by decide +kernel
theorem dL_isAsked_134 : decode cL_isAsked 134 = .ok (.baload, 1) := by decide +kernel
theorem dL_isAsked_135 : decode cL_isAsked 135 = .ok (.ifCond .ne 36, 3) := by decide +kernel
theorem dL_isAsked_138 : decode cL_isAsked 138 = .ok (.aload 9, 2) := by decide +kernel
theorem dL_isAsked_140 : decode cL_isAsked 140 = .ok (.bipush 6, 2) := by decide +kernel
theorem dL_isAsked_142 : decode cL_isAsked 142 = .ok (.iaload, 1) := by decide +kernel
theorem dL_isAsked_143 : decode cL_isAsked 143 = .ok (.iconst 1, 1) := by decide +kernel
theorem dL_isAsked_144 : decode cL_isAsked 144 = .ok (.if_icmp .eq 12, 3) := by decide +kernel
theorem dL_isAsked_147 : decode cL_isAsked 147 = .ok (.aload 9, 2) := by decide +kernel
theorem dL_isAsked_149 : decode cL_isAsked 149 = .ok (.bipush 6, 2) := by decide +kernel
theorem dL_isAsked_151 : decode cL_isAsked 151 = .ok (.iaload, 1) := by decide +kernel
theorem dL_isAsked_152 : decode cL_isAsked 152 = .ok (.iconst 2, 1) := by decide +kernel
theorem dL_isAsked_153 : decode cL_isAsked 153 = .ok (.if_icmp .ne 18, 3) := by decide +kernel
theorem dL_isAsked_156 : decode cL_isAsked 156 = .ok (.aload_n 0, 1) := by decide +kernel
theorem dL_isAsked_157 : decode cL_isAsked 157 = .ok (.aload 9, 2) := by decide +kernel
theorem dL_isAsked_159 : decode cL_isAsked 159 = .ok (.bipush 10, 2) := by decide +kernel
theorem dL_isAsked_161 : decode cL_isAsked 161 = .ok (.iaload, 1) := by decide +kernel
theorem dL_isAsked_162 : decode cL_isAsked 162 = .ok (.iconst 0, 1) := by decide +kernel
theorem dL_isAsked_163 : decode cL_isAsked 163 = .ok (.invokevirtual 135, 3) := by decide +kernel
theorem dL_isAsked_166 : decode cL_isAsked 166 = .ok (.iload 8, 2) := by decide +kernel
theorem dL_isAsked_168 : decode cL_isAsked 168 = .ok (.if_icmp .eq 5, 3) := by decide +kernel
theorem dL_isAsked_171 : decode cL_isAsked 171 = .ok (.iconst 0, 1) := by decide +kernel
theorem dL_isAsked_172 : decode cL_isAsked 172 = .ok (.ireturn, 1) := by decide +kernel
theorem dL_isAsked_173 : decode cL_isAsked 173 = .ok (.aload 9, 2) := by decide +kernel
theorem dL_isAsked_175 : decode cL_isAsked 175 = .ok (.bipush 10, 2) := by decide +kernel
theorem dL_isAsked_177 : decode cL_isAsked 177 = .ok (.iaload, 1) := by decide +kernel
theorem dL_isAsked_178 : decode cL_isAsked 178 = .ok (.ifCond .lt 12, 3) := by decide +kernel
theorem dL_isAsked_181 : decode cL_isAsked 181 = .ok (.aload 4, 2) := by decide +kernel
theorem dL_isAsked_183 : decode cL_isAsked 183 = .ok (.aload 9, 2) := by decide +kernel
theorem dL_isAsked_185 : decode cL_isAsked 185 = .ok (.bipush 10, 2) := by decide +kernel
theorem dL_isAsked_187 : decode cL_isAsked 187 = .ok (.iaload, 1) := by decide +kernel
theorem dL_isAsked_188 : decode cL_isAsked 188 = .ok (.iconst 1, 1) := by decide +kernel
theorem dL_isAsked_189 : decode cL_isAsked 189 = .ok (.bastore, 1) := by decide +kernel
theorem dL_isAsked_190 : decode cL_isAsked 190 = .ok (.iload 5, 2) := by decide +kernel
theorem dL_isAsked_192 : decode cL_isAsked 192 = .ok (.aload 9, 2) := by decide +kernel
theorem dL_isAsked_194 : decode cL_isAsked 194 = .ok (.bipush 11, 2) := by decide +kernel
theorem dL_isAsked_196 : decode cL_isAsked 196 = .ok (.iaload, 1) := by decide +kernel
theorem dL_isAsked_197 : decode cL_isAsked 197 = .ok (.iadd, 1) := by decide +kernel
theorem dL_isAsked_198 : decode cL_isAsked 198 = .ok (.istore 5, 2) := by decide +kernel
theorem dL_isAsked_200 : decode cL_isAsked 200 = .ok (.iload 6, 2) := by decide +kernel
theorem dL_isAsked_202 : decode cL_isAsked 202 = .ok (.aload 9, 2) := by decide +kernel
theorem dL_isAsked_204 : decode cL_isAsked 204 = .ok (.bipush 7, 2) := by decide +kernel
theorem dL_isAsked_206 : decode cL_isAsked 206 = .ok (.iaload, 1) := by decide +kernel
theorem dL_isAsked_207 : decode cL_isAsked 207 = .ok (.iadd, 1) := by decide +kernel
theorem dL_isAsked_208 : decode cL_isAsked 208 = .ok (.istore 6, 2) := by decide +kernel
theorem dL_isAsked_210 : decode cL_isAsked 210 = .ok (.iinc 8 1, 3) := by decide +kernel
theorem dL_isAsked_213 : decode cL_isAsked 213 = .ok (.goto (-176), 3) := by decide +kernel
theorem dL_isAsked_216 : decode cL_isAsked 216 = .ok (.iconst 0, 1) := by decide +kernel
theorem dL_isAsked_217 : decode cL_isAsked 217 = .ok (.istore 8, 2) := by decide +kernel
theorem dL_isAsked_219 : decode cL_isAsked 219 = .ok (.iload 8, 2) := by decide +kernel
theorem dL_isAsked_221 : decode cL_isAsked 221 = .ok (.bipush 6, 2) := by decide +kernel
theorem dL_isAsked_223 : decode cL_isAsked 223 = .ok (.if_icmp .ge 22, 3) := by decide +kernel
theorem dL_isAsked_226 : decode cL_isAsked 226 = .ok (.iload 7, 2) := by decide +kernel
theorem dL_isAsked_228 : decode cL_isAsked 228 = .ok (.aload_n 0, 1) := by decide +kernel
theorem dL_isAsked_229 : decode cL_isAsked 229 = .ok (.iload 8, 2) := by decide +kernel
theorem dL_isAsked_231 : decode cL_isAsked 231 = .ok (.iconst 0, 1) := by decide +kernel
theorem dL_isAsked_232 : decode cL_isAsked 232 = .ok (.iconst (-1), 1) := by decide +kernel
theorem dL_isAsked_233 : decode cL_isAsked 233 = .ok (.invokevirtual 138, 3) := by decide +kernel
theorem dL_isAsked_236 : decode cL_isAsked 236 = .ok (.iadd, 1) := by decide +kernel
theorem dL_isAsked_237 : decode cL_isAsked 237 = .ok (.istore 7, 2) := by decide +kernel
theorem dL_isAsked_239 : decode cL_isAsked 239 = .ok (.iinc 8 1, 3) := by decide +kernel
theorem dL_isAsked_242 : decode cL_isAsked 242 = .ok (.goto (-23), 3) := by decide +kernel
theorem dL_isAsked_245 : decode cL_isAsked 245 = .ok (.iconst 0, 1) := by decide +kernel
theorem dL_isAsked_246 : decode cL_isAsked 246 = .ok (.istore 8, 2) := by decide +kernel
theorem dL_isAsked_248 : decode cL_isAsked 248 = .ok (.iload 8, 2) := by decide +kernel
theorem dL_isAsked_250 : decode cL_isAsked 250 = .ok (.bipush 7, 2) := by decide +kernel
theorem dL_isAsked_252 : decode cL_isAsked 252 = .ok (.if_icmp .ge 34, 3) := by decide +kernel
theorem dL_isAsked_255 : decode cL_isAsked 255 = .ok (.aload_n 0, 1) := by decide +kernel
theorem dL_isAsked_256 : decode cL_isAsked 256 = .ok (.iload 8, 2) := by decide +kernel
theorem dL_isAsked_258 : decode cL_isAsked 258 = .ok (.iconst 0, 1) := by decide +kernel
theorem dL_isAsked_259 : decode cL_isAsked 259 = .ok (.invokevirtual 135, 3) := by decide +kernel
theorem dL_isAsked_262 : decode cL_isAsked 262 = .ok (.ifCond .ge 7, 3) := by decide +kernel
theorem dL_isAsked_265 : decode cL_isAsked 265 = .ok (.iconst 1, 1) := by decide +kernel
theorem dL_isAsked_266 : decode cL_isAsked 266 = .ok (.goto 4, 3) := by decide +kernel
theorem dL_isAsked_269 : decode cL_isAsked 269 = .ok (.iconst 0, 1) := by decide +kernel
theorem dL_isAsked_270 : decode cL_isAsked 270 = .ok (.aload 4, 2) := by decide +kernel
theorem dL_isAsked_272 : decode cL_isAsked 272 = .ok (.iload 8, 2) := by decide +kernel
theorem dL_isAsked_274 : decode cL_isAsked 274 = .ok (.baload, 1) := by decide +kernel
theorem dL_isAsked_275 : decode cL_isAsked 275 = .ok (.if_icmp .ne 5, 3) := by decide +kernel
theorem dL_isAsked_278 : decode cL_isAsked 278 = .ok (.iconst 0, 1) := by decide +kernel
theorem dL_isAsked_279 : decode cL_isAsked 279 = .ok (.ireturn, 1) := by decide +kernel
theorem dL_isAsked_280 : decode cL_isAsked 280 = .ok (.iinc 8 1, 3) := by decide +kernel
theorem dL_isAsked_283 : decode cL_isAsked 283 = .ok (.goto (-35), 3) := by decide +kernel
theorem dL_isAsked_286 : decode cL_isAsked 286 = .ok (.iload 7, 2) := by decide +kernel
theorem dL_isAsked_288 : decode cL_isAsked 288 = .ok (.aload_n 3, 1) := by decide +kernel
theorem dL_isAsked_289 : decode cL_isAsked 289 = .ok (.arraylength, 1) := by decide +kernel
theorem dL_isAsked_290 : decode cL_isAsked 290 = .ok (.if_icmp .ne 96, 3) := by decide +kernel
theorem dL_isAsked_293 : decode cL_isAsked 293 = .ok (.iload 5, 2) := by decide +kernel
theorem dL_isAsked_295 : decode cL_isAsked 295 = .ok (.aload_n 0, 1) := by decide +kernel
theorem dL_isAsked_296 : decode cL_isAsked 296 = .ok (.iconst 0, 1) := by decide +kernel
theorem dL_isAsked_297 : decode cL_isAsked 297 = .ok (.invokevirtual 141, 3) := by decide +kernel
theorem dL_isAsked_300 : decode cL_isAsked 300 = .ok (.if_icmp .ne 86, 3) := by decide +kernel
theorem dL_isAsked_303 : decode cL_isAsked 303 = .ok (.iload 6, 2) := by decide +kernel
theorem dL_isAsked_305 : decode cL_isAsked 305 = .ok (.aload_n 0, 1) := by decide +kernel
theorem dL_isAsked_306 : decode cL_isAsked 306 = .ok (.bipush 6, 2) := by decide +kernel
theorem dL_isAsked_308 : decode cL_isAsked 308 = .ok (.invokevirtual 61, 3) := by decide +kernel
theorem dL_isAsked_311 : decode cL_isAsked 311 = .ok (.if_icmp .ne 75, 3) := by decide +kernel
theorem dL_isAsked_314 : decode cL_isAsked 314 = .ok (.aload_n 0, 1) := by decide +kernel
theorem dL_isAsked_315 : decode cL_isAsked 315 = .ok (.bipush 6, 2) := by decide +kernel
theorem dL_isAsked_317 : decode cL_isAsked 317 = .ok (.invokevirtual 9, 3) := by decide +kernel
theorem dL_isAsked_320 : decode cL_isAsked 320 = .ok (.aload_n 3, 1) := by decide +kernel
theorem dL_isAsked_321 : decode cL_isAsked 321 = .ok (.invokestatic 40, 3) := by decide +kernel
theorem dL_isAsked_324 : decode cL_isAsked 324 = .ok (.invokestatic 144, 3) := by decide +kernel
theorem dL_isAsked_327 : decode cL_isAsked 327 = .ok (.if_icmp .ne 59, 3) := by decide +kernel
theorem dL_isAsked_330 : decode cL_isAsked 330 = .ok (.aload_n 0, 1) := by decide +kernel
theorem dL_isAsked_331 : decode cL_isAsked 331 = .ok (.bipush 14, 2) := by decide +kernel
theorem dL_isAsked_333 : decode cL_isAsked 333 = .ok (.invokevirtual 9, 3) := by decide +kernel
theorem dL_isAsked_336 : decode cL_isAsked 336 = .ok (.aload_n 3, 1) := by decide +kernel
theorem dL_isAsked_337 : decode cL_isAsked 337 = .ok (.aload_n 0, 1) := by decide +kernel
theorem dL_isAsked_338 : decode cL_isAsked 338 = .ok (.iconst 0, 1) := by decide +kernel
theorem dL_isAsked_339 : decode cL_isAsked 339 = .ok (.invokevirtual 9, 3) := by decide +kernel
theorem dL_isAsked_342 : decode cL_isAsked 342 = .ok (.invokestatic 148, 3) := by decide +kernel
theorem dL_isAsked_345 : decode cL_isAsked 345 = .ok (.invokestatic 144, 3) := by decide +kernel
theorem dL_isAsked_348 : decode cL_isAsked 348 = .ok (.if_icmp .ne 38, 3) := by decide +kernel
theorem dL_isAsked_351 : decode cL_isAsked 351 = .ok (.aload_n 0, 1) := by decide +kernel
theorem dL_isAsked_352 : decode cL_isAsked 352 = .ok (.iconst 2, 1) := by decide +kernel
theorem dL_isAsked_353 : decode cL_isAsked 353 = .ok (.invokevirtual 141, 3) := by decide +kernel
theorem dL_isAsked_356 : decode cL_isAsked 356 = .ok (.ifCond .lt 17, 3) := by decide +kernel
theorem dL_isAsked_359 : decode cL_isAsked 359 = .ok (.aload_n 3, 1) := by decide +kernel
theorem dL_isAsked_360 : decode cL_isAsked 360 = .ok (.aload_n 0, 1) := by decide +kernel
theorem dL_isAsked_361 : decode cL_isAsked 361 = .ok (.iconst 2, 1) := by decide +kernel
theorem dL_isAsked_362 : decode cL_isAsked 362 = .ok (.invokevirtual 141, 3) := by decide +kernel
theorem dL_isAsked_365 : decode cL_isAsked 365 = .ok (.aaload, 1) := by decide +kernel
theorem dL_isAsked_366 : decode cL_isAsked 366 = .ok (.bipush 11, 2) := by decide +kernel
theorem dL_isAsked_368 : decode cL_isAsked 368 = .ok (.iaload, 1) := by decide +kernel
theorem dL_isAsked_369 : decode cL_isAsked 369 = .ok (.iconst 1, 1) := by decide +kernel
theorem dL_isAsked_370 : decode cL_isAsked 370 = .ok (.if_icmp .ne 16, 3) := by decide +kernel
theorem dL_isAsked_373 : decode cL_isAsked 373 = .ok (.aload_n 0, 1) := by decide +kernel
theorem dL_isAsked_374 : decode cL_isAsked 374 = .ok (.invokevirtual 123, 3) := by decide +kernel
theorem dL_isAsked_377 : decode cL_isAsked 377 = .ok (.lload_n 1, 1) := by decide +kernel
theorem dL_isAsked_378 : decode cL_isAsked 378 = .ok (.lcmp, 1) := by decide +kernel
theorem dL_isAsked_379 : decode cL_isAsked 379 = .ok (.ifCond .ne 7, 3) := by decide +kernel
theorem dL_isAsked_382 : decode cL_isAsked 382 = .ok (.iconst 1, 1) := by decide +kernel
theorem dL_isAsked_383 : decode cL_isAsked 383 = .ok (.goto 4, 3) := by decide +kernel
theorem dL_isAsked_386 : decode cL_isAsked 386 = .ok (.iconst 0, 1) := by decide +kernel
theorem dL_isAsked_387 : decode cL_isAsked 387 = .ok (.ireturn, 1) := by decide +kernel
