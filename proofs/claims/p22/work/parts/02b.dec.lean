theorem dX4_setAt_9 : decode cX4_setAt 9 = .ok (.iadd, 1) := by decide +kernel
theorem dX4_setAt_10 : decode cX4_setAt 10 = .ok (.invokestatic 64, 3) := by decide +kernel
theorem dX4_setAt_13 : decode cX4_setAt 13 = .ok (.ireturn, 1) := by decide +kernel
theorem dX4_coefficientAt_0 : decode cX4_coefficientAt 0 = .ok (.aload_n 0, 1) := by decide +kernel
theorem dX4_coefficientAt_1 : decode cX4_coefficientAt 1 = .ok (.getfield 18, 3) := by decide +kernel
theorem dX4_coefficientAt_4 : decode cX4_coefficientAt 4 = .ok (.iload_n 1, 1) := by decide +kernel
theorem dX4_coefficientAt_5 : decode cX4_coefficientAt 5 = .ok (.bipush 40, 2) := by decide +kernel
theorem dX4_coefficientAt_7 : decode cX4_coefficientAt 7 = .ok (.imul, 1) := by decide +kernel
theorem dX4_coefficientAt_8 : decode cX4_coefficientAt 8 = .ok (.iload_n 2, 1) := by decide +kernel
theorem dX4_coefficientAt_9 : decode cX4_coefficientAt 9 = .ok (.iadd, 1) := by decide +kernel
theorem dX4_coefficientAt_10 : decode cX4_coefficientAt 10 = .ok (.invokestatic 64, 3) := by decide +kernel
theorem dX4_coefficientAt_13 : decode cX4_coefficientAt 13 = .ok (.ireturn, 1) := by decide +kernel
theorem dX4_greatestSize_0 : decode cX4_greatestSize 0 = .ok (.iconst 0, 1) := by decide +kernel
theorem dX4_greatestSize_1 : decode cX4_greatestSize 1 = .ok (.istore_n 2, 1) := by decide +kernel
theorem dX4_greatestSize_2 : decode cX4_greatestSize 2 = .ok (.iconst 0, 1) := by decide +kernel
theorem dX4_greatestSize_3 : decode cX4_greatestSize 3 = .ok (.istore_n 3, 1) := by decide +kernel
theorem dX4_greatestSize_4 : decode cX4_greatestSize 4 = .ok (.iload_n 3, 1) := by decide +kernel
theorem dX4_greatestSize_5 : decode cX4_greatestSize 5 = .ok (.iload_n 1, 1) := by decide +kernel
theorem dX4_greatestSize_6 : decode cX4_greatestSize 6 = .ok (.if_icmp .gt 28, 3) := by decide +kernel
theorem dX4_greatestSize_9 : decode cX4_greatestSize 9 = .ok (.iload_n 3, 1) := by decide +kernel
theorem dX4_greatestSize_10 : decode cX4_greatestSize 10 = .ok (.aload_n 0, 1) := by decide +kernel
theorem dX4_greatestSize_11 : decode cX4_greatestSize 11 = .ok (.getfield 9, 3) := by decide +kernel
theorem dX4_greatestSize_14 : decode cX4_greatestSize 14 = .ok (.arraylength, 1) := by decide +kernel
theorem dX4_greatestSize_15 : decode cX4_greatestSize 15 = .ok (.if_icmp .ge 19, 3) := by decide +kernel
theorem dX4_greatestSize_18 : decode cX4_greatestSize 18 = .ok (.iload_n 2, 1) := by decide +kernel
theorem dX4_greatestSize_19 : decode cX4_greatestSize 19 = .ok (.aload_n 0, 1) := by decide +kernel
theorem dX4_greatestSize_20 : decode cX4_greatestSize 20 = .ok (.iload_n 3, 1) := by decide +kernel
theorem dX4_greatestSize_21 : decode cX4_greatestSize 21 = .ok (.invokevirtual 110, 3) := by decide +kernel
theorem dX4_greatestSize_24 : decode cX4_greatestSize 24 = .ok (.invokestatic 132, 3) := by decide +kernel
theorem dX4_greatestSize_27 : decode cX4_greatestSize 27 = .ok (.istore_n 2, 1) := by decide +kernel
theorem dX4_greatestSize_28 : decode cX4_greatestSize 28 = .ok (.iinc 3 1, 3) := by decide +kernel
theorem dX4_greatestSize_31 : decode cX4_greatestSize 31 = .ok (.goto (-27), 3) := by decide +kernel
theorem dX4_greatestSize_34 : decode cX4_greatestSize 34 = .ok (.iload_n 2, 1) := by decide +kernel
theorem dX4_greatestSize_35 : decode cX4_greatestSize 35 = .ok (.ireturn, 1) := by decide +kernel
theorem dX4_widestOf_0 : decode cX4_widestOf 0 = .ok (.iconst 0, 1) := by decide +kernel
theorem dX4_widestOf_1 : decode cX4_widestOf 1 = .ok (.istore_n 2, 1) := by decide +kernel
theorem dX4_widestOf_2 : decode cX4_widestOf 2 = .ok (.iconst 0, 1) := by decide +kernel
theorem dX4_widestOf_3 : decode cX4_widestOf 3 = .ok (.istore_n 3, 1) := by decide +kernel
theorem dX4_widestOf_4 : decode cX4_widestOf 4 = .ok (.iload_n 3, 1) := by decide +kernel
theorem dX4_widestOf_5 : decode cX4_widestOf 5 = .ok (.aload_n 0, 1) := by decide +kernel
theorem dX4_widestOf_6 : decode cX4_widestOf 6 = .ok (.iload_n 1, 1) := by decide +kernel
theorem dX4_widestOf_7 : decode cX4_widestOf 7 = .ok (.invokevirtual 110, 3) := by decide +kernel
theorem dX4_widestOf_10 : decode cX4_widestOf 10 = .ok (.if_icmp .ge 23, 3) := by decide +kernel
theorem dX4_widestOf_13 : decode cX4_widestOf 13 = .ok (.iload_n 2, 1) := by decide +kernel
theorem dX4_widestOf_14 : decode cX4_widestOf 14 = .ok (.aload_n 0, 1) := by decide +kernel
theorem dX4_widestOf_15 : decode cX4_widestOf 15 = .ok (.iload_n 1, 1) := by decide +kernel
theorem dX4_widestOf_16 : decode cX4_widestOf 16 = .ok (.iload_n 3, 1) := by decide +kernel
theorem dX4_widestOf_17 : decode cX4_widestOf 17 = .ok (.invokevirtual 113, 3) := by decide +kernel
theorem dX4_widestOf_20 : decode cX4_widestOf 20 = .ok (.invokestatic 137, 3) := by decide +kernel
theorem dX4_widestOf_23 : decode cX4_widestOf 23 = .ok (.invokestatic 132, 3) := by decide +kernel
theorem dX4_widestOf_26 : decode cX4_widestOf 26 = .ok (.istore_n 2, 1) := by decide +kernel
theorem dX4_widestOf_27 : decode cX4_widestOf 27 = .ok (.iinc 3 1, 3) := by decide +kernel
theorem dX4_widestOf_30 : decode cX4_widestOf 30 = .ok (.goto (-26), 3) := by decide +kernel
theorem dX4_widestOf_33 : decode cX4_widestOf 33 = .ok (.iload_n 2, 1) := by decide +kernel
theorem dX4_widestOf_34 : decode cX4_widestOf 34 = .ok (.ireturn, 1) := by decide +kernel
theorem dX4_narrowestOf_0 : decode cX4_narrowestOf 0 = .ok (.iconst (-1), 1) := by decide +kernel
theorem dX4_narrowestOf_1 : decode cX4_narrowestOf 1 = .ok (.istore_n 2, 1) := by decide +kernel
theorem dX4_narrowestOf_2 : decode cX4_narrowestOf 2 = .ok (.bipush 18, 2) := by decide +kernel
theorem dX4_narrowestOf_4 : decode cX4_narrowestOf 4 = .ok (.istore_n 3, 1) := by decide +kernel
theorem dX4_narrowestOf_5 : decode cX4_narrowestOf 5 = .ok (.iconst 0, 1) := by decide +kernel
theorem dX4_narrowestOf_6 : decode cX4_narrowestOf 6 = .ok (.istore 4, 2) := by decide +kernel
theorem dX4_narrowestOf_8 : decode cX4_narrowestOf 8 = .ok (.iload 4, 2) := by decide +kernel
theorem dX4_narrowestOf_10 : decode cX4_narrowestOf 10 = .ok (.aload_n 0, 1) := by decide +kernel
theorem dX4_narrowestOf_11 : decode cX4_narrowestOf 11 = .ok (.iload_n 1, 1) := by decide +kernel
theorem dX4_narrowestOf_12 : decode cX4_narrowestOf 12 = .ok (.invokevirtual 110, 3) := by decide +kernel
theorem dX4_narrowestOf_15 : decode cX4_narrowestOf 15 = .ok (.if_icmp .ge 38, 3) := by decide +kernel
theorem dX4_narrowestOf_18 : decode cX4_narrowestOf 18 = .ok (.aload_n 0, 1) := by decide +kernel
theorem dX4_narrowestOf_19 : decode cX4_narrowestOf 19 = .ok (.iload_n 1, 1) := by decide +kernel
theorem dX4_narrowestOf_20 : decode cX4_narrowestOf 20 = .ok (.iload 4, 2) := by decide +kernel
theorem dX4_narrowestOf_22 : decode cX4_narrowestOf 22 = .ok (.invokevirtual 113, 3) := by decide +kernel
theorem dX4_narrowestOf_25 : decode cX4_narrowestOf 25 = .ok (.invokestatic 137, 3) := by decide +kernel
theorem dX4_narrowestOf_28 : decode cX4_narrowestOf 28 = .ok (.istore 5, 2) := by decide +kernel
theorem dX4_narrowestOf_30 : decode cX4_narrowestOf 30 = .ok (.iload 5, 2) := by decide +kernel
theorem dX4_narrowestOf_32 : decode cX4_narrowestOf 32 = .ok (.iload_n 3, 1) := by decide +kernel
theorem dX4_narrowestOf_33 : decode cX4_narrowestOf 33 = .ok (.if_icmp .gt 14, 3) := by decide +kernel
theorem dX4_narrowestOf_36 : decode cX4_narrowestOf 36 = .ok (.iload 5, 2) := by decide +kernel
theorem dX4_narrowestOf_38 : decode cX4_narrowestOf 38 = .ok (.istore_n 3, 1) := by decide +kernel
theorem dX4_narrowestOf_39 : decode cX4_narrowestOf 39 = .ok (.aload_n 0, 1) := by decide +kernel
theorem dX4_narrowestOf_40 : decode cX4_narrowestOf 40 = .ok (.iload_n 1, 1) := by decide +kernel
theorem dX4_narrowestOf_41 : decode cX4_narrowestOf 41 = .ok (.iload 4, 2) := by decide +kernel
theorem dX4_narrowestOf_43 : decode cX4_narrowestOf 43 = .ok (.invokevirtual 113, 3) := by decide +kernel
theorem dX4_narrowestOf_46 : decode cX4_narrowestOf 46 = .ok (.istore_n 2, 1) := by decide +kernel
theorem dX4_narrowestOf_47 : decode cX4_narrowestOf 47 = .ok (.iinc 4 1, 3) := by decide +kernel
theorem dX4_narrowestOf_50 : decode cX4_narrowestOf 50 = .ok (.goto (-42), 3) := by decide +kernel
theorem dX4_narrowestOf_53 : decode cX4_narrowestOf 53 = .ok (.iload_n 2, 1) := by decide +kernel
theorem dX4_narrowestOf_54 : decode cX4_narrowestOf 54 = .ok (.ireturn, 1) := by decide +kernel
theorem dX4_unionOf_0 : decode cX4_unionOf 0 = .ok (.iconst 0, 1) := by decide +kernel
theorem dX4_unionOf_1 : decode cX4_unionOf 1 = .ok (.istore_n 2, 1) := by decide +kernel
theorem dX4_unionOf_2 : decode cX4_unionOf 2 = .ok (.iconst 0, 1) := by decide +kernel
theorem dX4_unionOf_3 : decode cX4_unionOf 3 = .ok (.istore_n 3, 1) := by decide +kernel
theorem dX4_unionOf_4 : decode cX4_unionOf 4 = .ok (.iload_n 3, 1) := by decide +kernel
theorem dX4_unionOf_5 : decode cX4_unionOf 5 = .ok (.aload_n 0, 1) := by decide +kernel
theorem dX4_unionOf_6 : decode cX4_unionOf 6 = .ok (.iload_n 1, 1) := by decide +kernel
theorem dX4_unionOf_7 : decode cX4_unionOf 7 = .ok (.invokevirtual 110, 3) := by decide +kernel
theorem dX4_unionOf_10 : decode cX4_unionOf 10 = .ok (.if_icmp .ge 18, 3) := by decide +kernel
theorem dX4_unionOf_13 : decode cX4_unionOf 13 = .ok (.iload_n 2, 1) := by decide +kernel
theorem dX4_unionOf_14 : decode cX4_unionOf 14 = .ok (.aload_n 0, 1) := by decide +kernel
theorem dX4_unionOf_15 : decode cX4_unionOf 15 = .ok (.iload_n 1, 1) := by decide +kernel
theorem dX4_unionOf_16 : decode cX4_unionOf 16 = .ok (.iload_n 3, 1) := by decide +kernel
theorem dX4_unionOf_17 : decode cX4_unionOf 17 = .ok (.invokevirtual 113, 3) := by decide +kernel
theorem dX4_unionOf_20 : decode cX4_unionOf 20 = .ok (.ior, 1) := by decide +kernel
theorem dX4_unionOf_21 : decode cX4_unionOf 21 = .ok (.istore_n 2, 1) := by decide +kernel
theorem dX4_unionOf_22 : decode cX4_unionOf 22 = .ok (.iinc 3 1, 3) := by decide +kernel
theorem dX4_unionOf_25 : decode cX4_unionOf 25 = .ok (.goto (-21), 3) := by decide +kernel
theorem dX4_unionOf_28 : decode cX4_unionOf 28 = .ok (.iload_n 2, 1) := by decide +kernel
theorem dX4_unionOf_29 : decode cX4_unionOf 29 = .ok (.ireturn, 1) := by decide +kernel
theorem dX4_sumWhere_0 : decode cX4_sumWhere 0 = .ok (.iconst 0, 1) := by decide +kernel
theorem dX4_sumWhere_1 : decode cX4_sumWhere 1 = .ok (.istore_n 3, 1) := by decide +kernel
theorem dX4_sumWhere_2 : decode cX4_sumWhere 2 = .ok (.iconst 0, 1) := by decide +kernel
theorem dX4_sumWhere_3 : decode cX4_sumWhere 3 = .ok (.istore 4, 2) := by decide +kernel
theorem dX4_sumWhere_5 : decode cX4_sumWhere 5 = .ok (.iload 4, 2) := by decide +kernel
theorem dX4_sumWhere_7 : decode cX4_sumWhere 7 = .ok (.aload_n 0, 1) := by decide +kernel
theorem dX4_sumWhere_8 : decode cX4_sumWhere 8 = .ok (.iload_n 1, 1) := by decide +kernel
theorem dX4_sumWhere_9 : decode cX4_sumWhere 9 = .ok (.invokevirtual 110, 3) := by decide +kernel
theorem dX4_sumWhere_12 : decode cX4_sumWhere 12 = .ok (.if_icmp .ge 49, 3) := by decide +kernel
theorem dX4_sumWhere_15 : decode cX4_sumWhere 15 = .ok (.aload_n 0, 1) := by decide +kernel
theorem dX4_sumWhere_16 : decode cX4_sumWhere 16 = .ok (.iload_n 1, 1) := by decide +kernel
theorem dX4_sumWhere_17 : decode cX4_sumWhere 17 = .ok (.iload 4, 2) := by decide +kernel
theorem dX4_sumWhere_19 : decode cX4_sumWhere 19 = .ok (.invokevirtual 113, 3) := by decide +kernel
theorem dX4_sumWhere_22 : decode cX4_sumWhere 22 = .ok (.iload_n 2, 1) := by decide +kernel
theorem dX4_sumWhere_23 : decode cX4_sumWhere 23 = .ok (.iconst (-1), 1) := by decide +kernel
theorem dX4_sumWhere_24 : decode cX4_sumWhere 24 = .ok (.ixor, 1) := by decide +kernel
theorem dX4_sumWhere_25 : decode cX4_sumWhere 25 = .ok (.iand, 1) := by decide +kernel
theorem dX4_sumWhere_26 : decode cX4_sumWhere 26 = .ok (.ifCond .ne 7, 3) := by decide +kernel
theorem dX4_sumWhere_29 : decode cX4_sumWhere 29 = .ok (.iconst 1, 1) := by decide +kernel
theorem dX4_sumWhere_30 : decode cX4_sumWhere 30 = .ok (.goto 4, 3) := by decide +kernel
theorem dX4_sumWhere_33 : decode cX4_sumWhere 33 = .ok (.iconst 0, 1) := by decide +kernel
theorem dX4_sumWhere_34 : decode cX4_sumWhere 34 = .ok (.istore 5, 2) := by decide +kernel
theorem dX4_sumWhere_36 : decode cX4_sumWhere 36 = .ok (.iload_n 3, 1) := by decide +kernel
theorem dX4_sumWhere_37 : decode cX4_sumWhere 37 = .ok (.iload 5, 2) := by decide +kernel
theorem dX4_sumWhere_39 : decode cX4_sumWhere 39 = .ok (.ifCond .eq 13, 3) := by decide +kernel
theorem dX4_sumWhere_42 : decode cX4_sumWhere 42 = .ok (.aload_n 0, 1) := by decide +kernel
theorem dX4_sumWhere_43 : decode cX4_sumWhere 43 = .ok (.iload_n 1, 1) := by decide +kernel
theorem dX4_sumWhere_44 : decode cX4_sumWhere 44 = .ok (.iload 4, 2) := by decide +kernel
theorem dX4_sumWhere_46 : decode cX4_sumWhere 46 = .ok (.invokevirtual 117, 3) := by decide +kernel
theorem dX4_sumWhere_49 : decode cX4_sumWhere 49 = .ok (.goto 4, 3) := by decide +kernel
theorem dX4_sumWhere_52 : decode cX4_sumWhere 52 = .ok (.iconst 0, 1) := by decide +kernel
theorem dX4_sumWhere_53 : decode cX4_sumWhere 53 = .ok (.iadd, 1) := by decide +kernel
theorem dX4_sumWhere_54 : decode cX4_sumWhere 54 = .ok (.istore_n 3, 1) := by decide +kernel
theorem dX4_sumWhere_55 : decode cX4_sumWhere 55 = .ok (.iinc 4 1, 3) := by decide +kernel
theorem dX4_sumWhere_58 : decode cX4_sumWhere 58 = .ok (.goto (-53), 3) := by decide +kernel
theorem dX4_sumWhere_61 : decode cX4_sumWhere 61 = .ok (.iload_n 3, 1) := by decide +kernel
theorem dX4_sumWhere_62 : decode cX4_sumWhere 62 = .ok (.ireturn, 1) := by decide +kernel
theorem dX4_dearestOf_0 : decode cX4_dearestOf 0 = .ok (.iconst 0, 1) := by decide +kernel
theorem dX4_dearestOf_1 : decode cX4_dearestOf 1 = .ok (.istore_n 3, 1) := by decide +kernel
theorem dX4_dearestOf_2 : decode cX4_dearestOf 2 = .ok (.iload_n 3, 1) := by decide +kernel
theorem dX4_dearestOf_3 : decode cX4_dearestOf 3 = .ok (.aload_n 0, 1) := by decide +kernel
theorem dX4_dearestOf_4 : decode cX4_dearestOf 4 = .ok (.iload_n 1, 1) := by decide +kernel
theorem dX4_dearestOf_5 : decode cX4_dearestOf 5 = .ok (.invokevirtual 110, 3) := by decide +kernel
theorem dX4_dearestOf_8 : decode cX4_dearestOf 8 = .ok (.if_icmp .ge 26, 3) := by decide +kernel
theorem dX4_dearestOf_11 : decode cX4_dearestOf 11 = .ok (.aload_n 0, 1) := by decide +kernel
theorem dX4_dearestOf_12 : decode cX4_dearestOf 12 = .ok (.iload_n 1, 1) := by decide +kernel
theorem dX4_dearestOf_13 : decode cX4_dearestOf 13 = .ok (.iload_n 3, 1) := by decide +kernel
theorem dX4_dearestOf_14 : decode cX4_dearestOf 14 = .ok (.invokevirtual 142, 3) := by decide +kernel
theorem dX4_dearestOf_17 : decode cX4_dearestOf 17 = .ok (.iload_n 2, 1) := by decide +kernel
theorem dX4_dearestOf_18 : decode cX4_dearestOf 18 = .ok (.if_icmp .ne 10, 3) := by decide +kernel
theorem dX4_dearestOf_21 : decode cX4_dearestOf 21 = .ok (.aload_n 0, 1) := by decide +kernel
theorem dX4_dearestOf_22 : decode cX4_dearestOf 22 = .ok (.iload_n 1, 1) := by decide +kernel
theorem dX4_dearestOf_23 : decode cX4_dearestOf 23 = .ok (.iload_n 3, 1) := by decide +kernel
theorem dX4_dearestOf_24 : decode cX4_dearestOf 24 = .ok (.invokevirtual 113, 3) := by decide +kernel
theorem dX4_dearestOf_27 : decode cX4_dearestOf 27 = .ok (.ireturn, 1) := by decide +kernel
theorem dX4_dearestOf_28 : decode cX4_dearestOf 28 = .ok (.iinc 3 1, 3) := by decide +kernel
theorem dX4_dearestOf_31 : decode cX4_dearestOf 31 = .ok (.goto (-29), 3) := by decide +kernel
theorem dX4_dearestOf_34 : decode cX4_dearestOf 34 = .ok (.iconst (-1), 1) := by decide +kernel
theorem dX4_dearestOf_35 : decode cX4_dearestOf 35 = .ok (.ireturn, 1) := by decide +kernel
theorem dX4_dearerThan_0 : decode cX4_dearerThan 0 = .ok (.aload_n 0, 1) := by decide +kernel
theorem dX4_dearerThan_1 : decode cX4_dearerThan 1 = .ok (.iload_n 1, 1) := by decide +kernel
theorem dX4_dearerThan_2 : decode cX4_dearerThan 2 = .ok (.iload_n 2, 1) := by decide +kernel
theorem dX4_dearerThan_3 : decode cX4_dearerThan 3 = .ok (.invokevirtual 117, 3) := by decide +kernel
theorem dX4_dearerThan_6 : decode cX4_dearerThan 6 = .ok (.invokestatic 145, 3) := by decide +kernel
theorem dX4_dearerThan_9 : decode cX4_dearerThan 9 = .ok (.istore_n 3, 1) := by decide +kernel
theorem dX4_dearerThan_10 : decode cX4_dearerThan 10 = .ok (.iconst 0, 1) := by decide +kernel
theorem dX4_dearerThan_11 : decode cX4_dearerThan 11 = .ok (.istore 4, 2) := by decide +kernel
theorem dX4_dearerThan_13 : decode cX4_dearerThan 13 = .ok (.iconst 0, 1) := by decide +kernel
theorem dX4_dearerThan_14 : decode cX4_dearerThan 14 = .ok (.istore 5, 2) := by decide +kernel
theorem dX4_dearerThan_16 : decode cX4_dearerThan 16 = .ok (.iload 5, 2) := by decide +kernel
theorem dX4_dearerThan_18 : decode cX4_dearerThan 18 = .ok (.aload_n 0, 1) := by decide +kernel
theorem dX4_dearerThan_19 : decode cX4_dearerThan 19 = .ok (.iload_n 1, 1) := by decide +kernel
theorem dX4_dearerThan_20 : decode cX4_dearerThan 20 = .ok (.invokevirtual 110, 3) := by decide +kernel
theorem dX4_dearerThan_23 : decode cX4_dearerThan 23 = .ok (.if_icmp .ge 49, 3) := by decide +kernel
theorem dX4_dearerThan_26 : decode cX4_dearerThan 26 = .ok (.aload_n 0, 1) := by decide +kernel
theorem dX4_dearerThan_27 : decode cX4_dearerThan 27 = .ok (.iload_n 1, 1) := by decide +kernel
theorem dX4_dearerThan_28 : decode cX4_dearerThan 28 = .ok (.iload 5, 2) := by decide +kernel
theorem dX4_dearerThan_30 : decode cX4_dearerThan 30 = .ok (.invokevirtual 117, 3) := by decide +kernel
theorem dX4_dearerThan_33 : decode cX4_dearerThan 33 = .ok (.invokestatic 145, 3) := by decide +kernel
theorem dX4_dearerThan_36 : decode cX4_dearerThan 36 = .ok (.istore 6, 2) := by decide +kernel
theorem dX4_dearerThan_38 : decode cX4_dearerThan 38 = .ok (.iload 4, 2) := by decide +kernel
theorem dX4_dearerThan_40 : decode cX4_dearerThan 40 = .ok (.iload 6, 2) := by decide +kernel
theorem dX4_dearerThan_42 : decode cX4_dearerThan 42 = .ok (.iload_n 3, 1) := by decide +kernel
theorem dX4_dearerThan_43 : decode cX4_dearerThan 43 = .ok (.if_icmp .gt 15, 3) := by decide +kernel
theorem dX4_dearerThan_46 : decode cX4_dearerThan 46 = .ok (.iload 6, 2) := by decide +kernel
theorem dX4_dearerThan_48 : decode cX4_dearerThan 48 = .ok (.iload_n 3, 1) := by decide +kernel
theorem dX4_dearerThan_49 : decode cX4_dearerThan 49 = .ok (.if_icmp .ne 13, 3) := by decide +kernel
theorem dX4_dearerThan_52 : decode cX4_dearerThan 52 = .ok (.iload 5, 2) := by decide +kernel
theorem dX4_dearerThan_54 : decode cX4_dearerThan 54 = .ok (.iload_n 2, 1) := by decide +kernel
theorem dX4_dearerThan_55 : decode cX4_dearerThan 55 = .ok (.if_icmp .ge 7, 3) := by decide +kernel
theorem dX4_dearerThan_58 : decode cX4_dearerThan 58 = .ok (.iconst 1, 1) := by decide +kernel
theorem dX4_dearerThan_59 : decode cX4_dearerThan 59 = .ok (.goto 4, 3) := by decide +kernel
theorem dX4_dearerThan_62 : decode cX4_dearerThan 62 = .ok (.iconst 0, 1) := by decide +kernel
theorem dX4_dearerThan_63 : decode cX4_dearerThan 63 = .ok (.iadd, 1) := by decide +kernel
theorem dX4_dearerThan_64 : decode cX4_dearerThan 64 = .ok (.istore 4, 2) := by decide +kernel
theorem dX4_dearerThan_66 : decode cX4_dearerThan 66 = .ok (.iinc 5 1, 3) := by decide +kernel
theorem dX4_dearerThan_69 : decode cX4_dearerThan 69 = .ok (.goto (-53), 3) := by decide +kernel
theorem dX4_dearerThan_72 : decode cX4_dearerThan 72 = .ok (.iload 4, 2) := by decide +kernel
theorem dX4_dearerThan_74 : decode cX4_dearerThan 74 = .ok (.ireturn, 1) := by decide +kernel
theorem dX5_init_0 : decode cX5_init 0 = .ok (.aload_n 0, 1) := by decide +kernel
theorem dX5_init_1 : decode cX5_init 1 = .ok (.invokespecial 3, 3) := by decide +kernel
theorem dX5_init_4 : decode cX5_init 4 = .ok (.aload_n 0, 1) := by decide +kernel
theorem dX5_init_5 : decode cX5_init 5 = .ok (.bipush 120, 2) := by decide +kernel
theorem dX5_init_7 : decode cX5_init 7 = .ok (.newarray .byte, 2) := by decide +kernel
theorem dX5_init_9 : decode cX5_init 9 = .ok (.putfield 9, 3) := by decide +kernel
theorem dX5_init_12 : decode cX5_init 12 = .ok (.return_, 1) := by decide +kernel
theorem dX5_append_0 : decode cX5_append 0 = .ok (.aload_n 0, 1) := by decide +kernel
theorem dX5_append_1 : decode cX5_append 1 = .ok (.getfield 15, 3) := by decide +kernel
theorem dX5_append_4 : decode cX5_append 4 = .ok (.ifCond .lt 15, 3) := by decide +kernel
theorem dX5_append_7 : decode cX5_append 7 = .ok (.aload_n 0, 1) := by decide +kernel
theorem dX5_append_8 : decode cX5_append 8 = .ok (.getfield 15, 3) := by decide +kernel
theorem dX5_append_11 : decode cX5_append 11 = .ok (.aload_n 0, 1) := by decide +kernel
theorem dX5_append_12 : decode cX5_append 12 = .ok (.getfield 9, 3) := by decide +kernel
theorem dX5_append_15 : decode cX5_append 15 = .ok (.arraylength, 1) := by decide +kernel
theorem dX5_append_16 : decode cX5_append 16 = .ok (.if_icmp .lt 5, 3) := by decide +kernel
theorem dX5_append_19 : decode cX5_append 19 = .ok (.iconst 0, 1) := by decide +kernel
theorem dX5_append_20 : decode cX5_append 20 = .ok (.ireturn, 1) := by decide +kernel
theorem dX5_append_21 : decode cX5_append 21 = .ok (.aload_n 0, 1) := by decide +kernel
theorem dX5_append_22 : decode cX5_append 22 = .ok (.getfield 9, 3) := by decide +kernel
theorem dX5_append_25 : decode cX5_append 25 = .ok (.aload_n 0, 1) := by decide +kernel
theorem dX5_append_26 : decode cX5_append 26 = .ok (.getfield 15, 3) := by decide +kernel
theorem dX5_append_29 : decode cX5_append 29 = .ok (.iload_n 1, 1) := by decide +kernel
theorem dX5_append_30 : decode cX5_append 30 = .ok (.i2b, 1) := by decide +kernel
theorem dX5_append_31 : decode cX5_append 31 = .ok (.bastore, 1) := by decide +kernel
theorem dX5_append_32 : decode cX5_append 32 = .ok (.aload_n 0, 1) := by decide +kernel
theorem dX5_append_33 : decode cX5_append 33 = .ok (.dup, 1) := by decide +kernel
theorem dX5_append_34 : decode cX5_append 34 = .ok (.getfield 15, 3) := by decide +kernel
theorem dX5_append_37 : decode cX5_append 37 = .ok (.iconst 1, 1) := by decide +kernel
theorem dX5_append_38 : decode cX5_append 38 = .ok (.iadd, 1) := by decide +kernel
theorem dX5_append_39 : decode cX5_append 39 = .ok (.putfield 15, 3) := by decide +kernel
theorem dX5_append_42 : decode cX5_append 42 = .ok (.iconst 1, 1) := by decide +kernel
theorem dX5_append_43 : decode cX5_append 43 = .ok (.ireturn, 1) := by decide +kernel
theorem dX5_byteAt_0 : decode cX5_byteAt 0 = .ok (.iload_n 1, 1) := by decide +kernel
theorem dX5_byteAt_1 : decode cX5_byteAt 1 = .ok (.ifCond .lt 29, 3) := by decide +kernel
theorem dX5_byteAt_4 : decode cX5_byteAt 4 = .ok (.iload_n 1, 1) := by decide +kernel
theorem dX5_byteAt_5 : decode cX5_byteAt 5 = .ok (.aload_n 0, 1) := by decide +kernel
theorem dX5_byteAt_6 : decode cX5_byteAt 6 = .ok (.getfield 15, 3) := by decide +kernel
theorem dX5_byteAt_9 : decode cX5_byteAt 9 = .ok (.if_icmp .ge 21, 3) := by decide +kernel
theorem dX5_byteAt_12 : decode cX5_byteAt 12 = .ok (.iload_n 1, 1) := by decide +kernel
theorem dX5_byteAt_13 : decode cX5_byteAt 13 = .ok (.aload_n 0, 1) := by decide +kernel
theorem dX5_byteAt_14 : decode cX5_byteAt 14 = .ok (.getfield 9, 3) := by decide +kernel
theorem dX5_byteAt_17 : decode cX5_byteAt 17 = .ok (.arraylength, 1) := by decide +kernel
theorem dX5_byteAt_18 : decode cX5_byteAt 18 = .ok (.if_icmp .ge 12, 3) := by decide +kernel
theorem dX5_byteAt_21 : decode cX5_byteAt 21 = .ok (.aload_n 0, 1) := by decide +kernel
theorem dX5_byteAt_22 : decode cX5_byteAt 22 = .ok (.getfield 9, 3) := by decide +kernel
theorem dX5_byteAt_25 : decode cX5_byteAt 25 = .ok (.iload_n 1, 1) := by decide +kernel
theorem dX5_byteAt_26 : decode cX5_byteAt 26 = .ok (.baload, 1) := by decide +kernel
theorem dX5_byteAt_27 : decode cX5_byteAt 27 = .ok (.goto 4, 3) := by decide +kernel
theorem dX5_byteAt_30 : decode cX5_byteAt 30 = .ok (.iconst (-1), 1) := by decide +kernel
theorem dX5_byteAt_31 : decode cX5_byteAt 31 = .ok (.ireturn, 1) := by decide +kernel
theorem dX6_init_0 : decode cX6_init 0 = .ok (.aload_n 0, 1) := by decide +kernel
theorem dX6_init_1 : decode cX6_init 1 = .ok (.invokespecial 3, 3) := by decide +kernel
theorem dX6_init_4 : decode cX6_init 4 = .ok (.aload_n 0, 1) := by decide +kernel
theorem dX6_init_5 : decode cX6_init 5 = .ok (.new 9, 3) := by decide +kernel
theorem dX6_init_8 : decode cX6_init 8 = .ok (.dup, 1) := by decide +kernel
theorem dX6_init_9 : decode cX6_init 9 = .ok (.invokespecial 11, 3) := by decide +kernel
theorem dX6_init_12 : decode cX6_init 12 = .ok (.putfield 12, 3) := by decide +kernel
theorem dX6_init_15 : decode cX6_init 15 = .ok (.aload_n 0, 1) := by decide +kernel
theorem dX6_init_16 : decode cX6_init 16 = .ok (.new 16, 3) := by decide +kernel
theorem dX6_init_19 : decode cX6_init 19 = .ok (.dup, 1) := by decide +kernel
theorem dX6_init_20 : decode cX6_init 20 = .ok (.invokespecial 18, 3) := by decide +kernel
theorem dX6_init_23 : decode cX6_init 23 = .ok (.putfield 19, 3) := by decide +kernel
theorem dX6_init_26 : decode cX6_init 26 = .ok (.aload_n 0, 1) := by decide +kernel
theorem dX6_init_27 : decode cX6_init 27 = .ok (.new 16, 3) := by decide +kernel
theorem dX6_init_30 : decode cX6_init 30 = .ok (.dup, 1) := by decide +kernel
theorem dX6_init_31 : decode cX6_init 31 = .ok (.invokespecial 18, 3) := by decide +kernel
theorem dX6_init_34 : decode cX6_init 34 = .ok (.putfield 23, 3) := by decide +kernel
theorem dX6_init_37 : decode cX6_init 37 = .ok (.aload_n 0, 1) := by decide +kernel
theorem dX6_init_38 : decode cX6_init 38 = .ok (.new 26, 3) := by decide +kernel
theorem dX6_init_41 : decode cX6_init 41 = .ok (.dup, 1) := by decide +kernel
theorem dX6_init_42 : decode cX6_init 42 = .ok (.invokespecial 28, 3) := by decide +kernel
theorem dX6_init_45 : decode cX6_init 45 = .ok (.putfield 29, 3) := by decide +kernel
theorem dX6_init_48 : decode cX6_init 48 = .ok (.aload_n 0, 1) := by decide +kernel
theorem dX6_init_49 : decode cX6_init 49 = .ok (.new 26, 3) := by decide +kernel
theorem dX6_init_52 : decode cX6_init 52 = .ok (.dup, 1) := by decide +kernel
theorem dX6_init_53 : decode cX6_init 53 = .ok (.invokespecial 28, 3) := by decide +kernel
theorem dX6_init_56 : decode cX6_init 56 = .ok (.putfield 33, 3) := by decide +kernel
theorem dX6_init_59 : decode cX6_init 59 = .ok (.aload_n 0, 1) := by decide +kernel
theorem dX6_init_60 : decode cX6_init 60 = .ok (.new 36, 3) := by decide +kernel
theorem dX6_init_63 : decode cX6_init 63 = .ok (.dup, 1) := by decide +kernel
theorem dX6_init_64 : decode cX6_init 64 = .ok (.invokespecial 38, 3) := by decide +kernel
theorem dX6_init_67 : decode cX6_init 67 = .ok (.putfield 39, 3) := by decide +kernel
theorem dX6_init_70 : decode cX6_init 70 = .ok (.return_, 1) := by decide +kernel
theorem dX6_type_0 : decode cX6_type 0 = .ok (.iload_n 1, 1) := by decide +kernel
theorem dX6_type_1 : decode cX6_type 1 = .ok (.ifCond .lt 9, 3) := by decide +kernel
theorem dX6_type_4 : decode cX6_type 4 = .ok (.iload_n 1, 1) := by decide +kernel
theorem dX6_type_5 : decode cX6_type 5 = .ok (.bipush 127, 2) := by decide +kernel
theorem dX6_type_7 : decode cX6_type 7 = .ok (.if_icmp .le 10, 3) := by decide +kernel
theorem dX6_type_10 : decode cX6_type 10 = .ok (.aload_n 0, 1) := by decide +kernel
theorem dX6_type_11 : decode cX6_type 11 = .ok (.bipush (-2), 2) := by decide +kernel
theorem dX6_type_13 : decode cX6_type 13 = .ok (.invokevirtual 43, 3) := by decide +kernel
theorem dX6_type_16 : decode cX6_type 16 = .ok (.ireturn, 1) := by decide +kernel
theorem dX6_type_17 : decode cX6_type 17 = .ok (.aload_n 0, 1) := by decide +kernel
theorem dX6_type_18 : decode cX6_type 18 = .ok (.getfield 12, 3) := by decide +kernel
theorem dX6_type_21 : decode cX6_type 21 = .ok (.getfield 47, 3) := by decide +kernel
theorem dX6_type_24 : decode cX6_type 24 = .ok (.iload_n 1, 1) := by decide +kernel
theorem dX6_type_25 : decode cX6_type 25 = .ok (.invokevirtual 51, 3) := by decide +kernel
theorem dX6_type_28 : decode cX6_type 28 = .ok (.ifCond .eq 16, 3) := by decide +kernel
theorem dX6_type_31 : decode cX6_type 31 = .ok (.aload_n 0, 1) := by decide +kernel
theorem dX6_type_32 : decode cX6_type 32 = .ok (.getfield 12, 3) := by decide +kernel
theorem dX6_type_35 : decode cX6_type 35 = .ok (.getfield 47, 3) := by decide +kernel
theorem dX6_type_38 : decode cX6_type 38 = .ok (.getfield 57, 3) := by decide +kernel
theorem dX6_type_41 : decode cX6_type 41 = .ok (.goto 9, 3) := by decide +kernel
theorem dX6_type_44 : decode cX6_type 44 = .ok (.aload_n 0, 1) := by decide +kernel
theorem dX6_type_45 : decode cX6_type 45 = .ok (.bipush (-4), 2) := by decide +kernel
theorem dX6_type_47 : decode cX6_type 47 = .ok (.invokevirtual 43, 3) := by decide +kernel
theorem dX6_type_50 : decode cX6_type 50 = .ok (.ireturn, 1) := by decide +kernel
theorem dX6_clear_0 : decode cX6_clear 0 = .ok (.aload_n 0, 1) := by decide +kernel
theorem dX6_clear_1 : decode cX6_clear 1 = .ok (.getfield 12, 3) := by decide +kernel
theorem dX6_clear_4 : decode cX6_clear 4 = .ok (.getfield 47, 3) := by decide +kernel
theorem dX6_clear_7 : decode cX6_clear 7 = .ok (.getfield 57, 3) := by decide +kernel
theorem dX6_clear_10 : decode cX6_clear 10 = .ok (.istore_n 1, 1) := by decide +kernel
theorem dX6_clear_11 : decode cX6_clear 11 = .ok (.aload_n 0, 1) := by decide +kernel
theorem dX6_clear_12 : decode cX6_clear 12 = .ok (.getfield 12, 3) := by decide +kernel
theorem dX6_clear_15 : decode cX6_clear 15 = .ok (.getfield 47, 3) := by decide +kernel
theorem dX6_clear_18 : decode cX6_clear 18 = .ok (.iconst 0, 1) := by decide +kernel
theorem dX6_clear_19 : decode cX6_clear 19 = .ok (.putfield 57, 3) := by decide +kernel
theorem dX6_clear_22 : decode cX6_clear 22 = .ok (.iload_n 1, 1) := by decide +kernel
theorem dX6_clear_23 : decode cX6_clear 23 = .ok (.ireturn, 1) := by decide +kernel
theorem dX6_reads_0 : decode cX6_reads 0 = .ok (.aload_n 0, 1) := by decide +kernel
theorem dX6_reads_1 : decode cX6_reads 1 = .ok (.getfield 12, 3) := by decide +kernel
theorem dX6_reads_4 : decode cX6_reads 4 = .ok (.aload_n 0, 1) := by decide +kernel
theorem dX6_reads_5 : decode cX6_reads 5 = .ok (.getfield 23, 3) := by decide +kernel
theorem dX6_reads_8 : decode cX6_reads 8 = .ok (.invokevirtual 61, 3) := by decide +kernel
theorem dX6_reads_11 : decode cX6_reads 11 = .ok (.istore_n 1, 1) := by decide +kernel
theorem dX6_reads_12 : decode cX6_reads 12 = .ok (.iload_n 1, 1) := by decide +kernel
theorem dX6_reads_13 : decode cX6_reads 13 = .ok (.iconst (-1), 1) := by decide +kernel
theorem dX6_reads_14 : decode cX6_reads 14 = .ok (.if_icmp .eq 8, 3) := by decide +kernel
theorem dX6_reads_17 : decode cX6_reads 17 = .ok (.bipush (-10), 2) := by decide +kernel
theorem dX6_reads_19 : decode cX6_reads 19 = .ok (.iload_n 1, 1) := by decide +kernel
theorem dX6_reads_20 : decode cX6_reads 20 = .ok (.isub, 1) := by decide +kernel
theorem dX6_reads_21 : decode cX6_reads 21 = .ok (.ireturn, 1) := by decide +kernel
theorem dX6_reads_22 : decode cX6_reads 22 = .ok (.aload_n 0, 1) := by decide +kernel
theorem dX6_reads_23 : decode cX6_reads 23 = .ok (.getfield 19, 3) := by decide +kernel
theorem dX6_reads_26 : decode cX6_reads 26 = .ok (.aload_n 0, 1) := by decide +kernel
theorem dX6_reads_27 : decode cX6_reads 27 = .ok (.getfield 23, 3) := by decide +kernel
theorem dX6_reads_30 : decode cX6_reads 30 = .ok (.invokevirtual 65, 3) := by decide +kernel
theorem dX6_reads_33 : decode cX6_reads 33 = .ok (.aload_n 0, 1) := by decide +kernel
theorem dX6_reads_34 : decode cX6_reads 34 = .ok (.invokevirtual 69, 3) := by decide +kernel
theorem dX6_reads_37 : decode cX6_reads 37 = .ok (.ireturn, 1) := by decide +kernel
theorem dX6_kind_0 : decode cX6_kind 0 = .ok (.aload_n 0, 1) := by decide +kernel
theorem dX6_kind_1 : decode cX6_kind 1 = .ok (.aload_n 0, 1) := by decide +kernel
theorem dX6_kind_2 : decode cX6_kind 2 = .ok (.iload_n 1, 1) := by decide +kernel
theorem dX6_kind_3 : decode cX6_kind 3 = .ok (.invokevirtual 73, 3) := by decide +kernel
theorem dX6_kind_6 : decode cX6_kind 6 = .ok (.ifCond .eq 19, 3) := by decide +kernel
theorem dX6_kind_9 : decode cX6_kind 9 = .ok (.aload_n 0, 1) := by decide +kernel
theorem dX6_kind_10 : decode cX6_kind 10 = .ok (.getfield 19, 3) := by decide +kernel
theorem dX6_kind_13 : decode cX6_kind 13 = .ok (.iload_n 1, 1) := by decide +kernel
theorem dX6_kind_14 : decode cX6_kind 14 = .ok (.iload_n 2, 1) := by decide +kernel
theorem dX6_kind_15 : decode cX6_kind 15 = .ok (.invokevirtual 76, 3) := by decide +kernel
theorem dX6_kind_18 : decode cX6_kind 18 = .ok (.ifCond .eq 7, 3) := by decide +kernel
theorem dX6_kind_21 : decode cX6_kind 21 = .ok (.iconst 1, 1) := by decide +kernel
theorem dX6_kind_22 : decode cX6_kind 22 = .ok (.goto 4, 3) := by decide +kernel
theorem dX6_kind_25 : decode cX6_kind 25 = .ok (.iconst 0, 1) := by decide +kernel
theorem dX6_kind_26 : decode cX6_kind 26 = .ok (.invokevirtual 80, 3) := by decide +kernel
theorem dX6_kind_29 : decode cX6_kind 29 = .ok (.istore_n 3, 1) := by decide +kernel
theorem dX6_kind_30 : decode cX6_kind 30 = .ok (.iload_n 3, 1) := by decide +kernel
theorem dX6_kind_31 : decode cX6_kind 31 = .ok (.ifCond .eq 5, 3) := by decide +kernel
theorem dX6_kind_34 : decode cX6_kind 34 = .ok (.iload_n 3, 1) := by decide +kernel
theorem dX6_kind_35 : decode cX6_kind 35 = .ok (.ireturn, 1) := by decide +kernel
theorem dX6_kind_36 : decode cX6_kind 36 = .ok (.aload_n 0, 1) := by decide +kernel
theorem dX6_kind_37 : decode cX6_kind 37 = .ok (.getfield 19, 3) := by decide +kernel
theorem dX6_kind_40 : decode cX6_kind 40 = .ok (.iload_n 1, 1) := by decide +kernel
theorem dX6_kind_41 : decode cX6_kind 41 = .ok (.invokevirtual 84, 3) := by decide +kernel
theorem dX6_kind_44 : decode cX6_kind 44 = .ok (.istore 4, 2) := by decide +kernel
theorem dX6_kind_46 : decode cX6_kind 46 = .ok (.aload_n 0, 1) := by decide +kernel
theorem dX6_kind_47 : decode cX6_kind 47 = .ok (.getfield 19, 3) := by decide +kernel
theorem dX6_kind_50 : decode cX6_kind 50 = .ok (.getfield 87, 3) := by decide +kernel
theorem dX6_kind_53 : decode cX6_kind 53 = .ok (.iload_n 1, 1) := by decide +kernel
theorem dX6_kind_54 : decode cX6_kind 54 = .ok (.iload_n 2, 1) := by decide +kernel
theorem dX6_kind_55 : decode cX6_kind 55 = .ok (.invokestatic 91, 3) := by decide +kernel
theorem dX6_kind_58 : decode cX6_kind 58 = .ok (.aload_n 0, 1) := by decide +kernel
theorem dX6_kind_59 : decode cX6_kind 59 = .ok (.invokevirtual 69, 3) := by decide +kernel
theorem dX6_kind_62 : decode cX6_kind 62 = .ok (.pop, 1) := by decide +kernel
theorem dX6_kind_63 : decode cX6_kind 63 = .ok (.iload 4, 2) := by decide +kernel
theorem dX6_kind_65 : decode cX6_kind 65 = .ok (.ireturn, 1) := by decide +kernel
theorem dX6_wire_0 : decode cX6_wire 0 = .ok (.aload_n 0, 1) := by decide +kernel
theorem dX6_wire_1 : decode cX6_wire 1 = .ok (.aload_n 0, 1) := by decide +kernel
theorem dX6_wire_2 : decode cX6_wire 2 = .ok (.iload_n 1, 1) := by decide +kernel
theorem dX6_wire_3 : decode cX6_wire 3 = .ok (.invokevirtual 73, 3) := by decide +kernel
theorem dX6_wire_6 : decode cX6_wire 6 = .ok (.ifCond .eq 25, 3) := by decide +kernel
theorem dX6_wire_9 : decode cX6_wire 9 = .ok (.aload_n 0, 1) := by decide +kernel
theorem dX6_wire_10 : decode cX6_wire 10 = .ok (.iload_n 1, 1) := by decide +kernel
theorem dX6_wire_11 : decode cX6_wire 11 = .ok (.iload_n 2, 1) := by decide +kernel
theorem dX6_wire_12 : decode cX6_wire 12 = .ok (.invokevirtual 95, 3) := by decide +kernel
theorem dX6_wire_15 : decode cX6_wire 15 = .ok (.ifCond .eq 16, 3) := by decide +kernel
theorem dX6_wire_18 : decode cX6_wire 18 = .ok (.aload_n 0, 1) := by decide +kernel
theorem dX6_wire_19 : decode cX6_wire 19 = .ok (.iload_n 1, 1) := by decide +kernel
theorem dX6_wire_20 : decode cX6_wire 20 = .ok (.iload_n 3, 1) := by decide +kernel
theorem dX6_wire_21 : decode cX6_wire 21 = .ok (.invokevirtual 98, 3) := by decide +kernel
theorem dX6_wire_24 : decode cX6_wire 24 = .ok (.ifCond .eq 7, 3) := by decide +kernel
theorem dX6_wire_27 : decode cX6_wire 27 = .ok (.iconst 1, 1) := by decide +kernel
theorem dX6_wire_28 : decode cX6_wire 28 = .ok (.goto 4, 3) := by decide +kernel
theorem dX6_wire_31 : decode cX6_wire 31 = .ok (.iconst 0, 1) := by decide +kernel
theorem dX6_wire_32 : decode cX6_wire 32 = .ok (.invokevirtual 80, 3) := by decide +kernel
theorem dX6_wire_35 : decode cX6_wire 35 = .ok (.istore 4, 2) := by decide +kernel
theorem dX6_wire_37 : decode cX6_wire 37 = .ok (.iload 4, 2) := by decide +kernel
theorem dX6_wire_39 : decode cX6_wire 39 = .ok (.ifCond .eq 6, 3) := by decide +kernel
theorem dX6_wire_42 : decode cX6_wire 42 = .ok (.iload 4, 2) := by decide +kernel
theorem dX6_wire_44 : decode cX6_wire 44 = .ok (.ireturn, 1) := by decide +kernel
theorem dX6_wire_45 : decode cX6_wire 45 = .ok (.iload_n 2, 1) := by decide +kernel
theorem dX6_wire_46 : decode cX6_wire 46 = .ok (.ifCond .ne 13, 3) := by decide +kernel
theorem dX6_wire_49 : decode cX6_wire 49 = .ok (.aload_n 0, 1) := by decide +kernel
theorem dX6_wire_50 : decode cX6_wire 50 = .ok (.getfield 19, 3) := by decide +kernel
theorem dX6_wire_53 : decode cX6_wire 53 = .ok (.getfield 101, 3) := by decide +kernel
theorem dX6_wire_56 : decode cX6_wire 56 = .ok (.goto 10, 3) := by decide +kernel
theorem dX6_wire_59 : decode cX6_wire 59 = .ok (.aload_n 0, 1) := by decide +kernel
theorem dX6_wire_60 : decode cX6_wire 60 = .ok (.getfield 19, 3) := by decide +kernel
theorem dX6_wire_63 : decode cX6_wire 63 = .ok (.getfield 104, 3) := by decide +kernel
theorem dX6_wire_66 : decode cX6_wire 66 = .ok (.astore 5, 2) := by decide +kernel
theorem dX6_wire_68 : decode cX6_wire 68 = .ok (.aload 5, 2) := by decide +kernel
theorem dX6_wire_70 : decode cX6_wire 70 = .ok (.iload_n 1, 1) := by decide +kernel
theorem dX6_wire_71 : decode cX6_wire 71 = .ok (.invokestatic 107, 3) := by decide +kernel
theorem dX6_wire_74 : decode cX6_wire 74 = .ok (.istore 6, 2) := by decide +kernel
theorem dX6_wire_76 : decode cX6_wire 76 = .ok (.aload 5, 2) := by decide +kernel
theorem dX6_wire_78 : decode cX6_wire 78 = .ok (.iload_n 1, 1) := by decide +kernel
theorem dX6_wire_79 : decode cX6_wire 79 = .ok (.iload_n 3, 1) := by decide +kernel
theorem dX6_wire_80 : decode cX6_wire 80 = .ok (.invokestatic 91, 3) := by decide +kernel
theorem dX6_wire_83 : decode cX6_wire 83 = .ok (.aload_n 0, 1) := by decide +kernel
theorem dX6_wire_84 : decode cX6_wire 84 = .ok (.invokevirtual 69, 3) := by decide +kernel
theorem dX6_wire_87 : decode cX6_wire 87 = .ok (.pop, 1) := by decide +kernel
theorem dX6_wire_88 : decode cX6_wire 88 = .ok (.iload 6, 2) := by decide +kernel
theorem dX6_wire_90 : decode cX6_wire 90 = .ok (.ireturn, 1) := by decide +kernel
theorem dX6_of_0 : decode cX6_of 0 = .ok (.aload_n 0, 1) := by decide +kernel
theorem dX6_of_1 : decode cX6_of 1 = .ok (.aload_n 0, 1) := by decide +kernel
theorem dX6_of_2 : decode cX6_of 2 = .ok (.iload_n 1, 1) := by decide +kernel
theorem dX6_of_3 : decode cX6_of 3 = .ok (.invokevirtual 73, 3) := by decide +kernel
theorem dX6_of_6 : decode cX6_of 6 = .ok (.ifCond .eq 16, 3) := by decide +kernel
theorem dX6_of_9 : decode cX6_of 9 = .ok (.iload_n 2, 1) := by decide +kernel
theorem dX6_of_10 : decode cX6_of 10 = .ok (.ifCond .lt 12, 3) := by decide +kernel
theorem dX6_of_13 : decode cX6_of 13 = .ok (.iload_n 2, 1) := by decide +kernel
theorem dX6_of_14 : decode cX6_of 14 = .ok (.iconst 3, 1) := by decide +kernel
theorem dX6_of_15 : decode cX6_of 15 = .ok (.if_icmp .gt 7, 3) := by decide +kernel
theorem dX6_of_18 : decode cX6_of 18 = .ok (.iconst 1, 1) := by decide +kernel
theorem dX6_of_19 : decode cX6_of 19 = .ok (.goto 4, 3) := by decide +kernel
theorem dX6_of_22 : decode cX6_of 22 = .ok (.iconst 0, 1) := by decide +kernel
theorem dX6_of_23 : decode cX6_of 23 = .ok (.invokevirtual 80, 3) := by decide +kernel
theorem dX6_of_26 : decode cX6_of 26 = .ok (.istore_n 3, 1) := by decide +kernel
theorem dX6_of_27 : decode cX6_of 27 = .ok (.iload_n 3, 1) := by decide +kernel
theorem dX6_of_28 : decode cX6_of 28 = .ok (.ifCond .eq 5, 3) := by decide +kernel
theorem dX6_of_31 : decode cX6_of 31 = .ok (.iload_n 3, 1) := by decide +kernel
theorem dX6_of_32 : decode cX6_of 32 = .ok (.ireturn, 1) := by decide +kernel
theorem dX6_of_33 : decode cX6_of 33 = .ok (.iload_n 2, 1) := by decide +kernel
theorem dX6_of_34 : decode cX6_of 34 = .ok (.tableswitch 53 0 2 #[26, 35, 44], 26) := by decide +kernel
theorem dX6_of_60 : decode cX6_of 60 = .ok (.aload_n 0, 1) := by decide +kernel
theorem dX6_of_61 : decode cX6_of 61 = .ok (.getfield 19, 3) := by decide +kernel
theorem dX6_of_64 : decode cX6_of 64 = .ok (.iload_n 1, 1) := by decide +kernel
theorem dX6_of_65 : decode cX6_of 65 = .ok (.invokevirtual 84, 3) := by decide +kernel
theorem dX6_of_68 : decode cX6_of 68 = .ok (.ireturn, 1) := by decide +kernel
theorem dX6_of_69 : decode cX6_of 69 = .ok (.aload_n 0, 1) := by decide +kernel
theorem dX6_of_70 : decode cX6_of 70 = .ok (.getfield 19, 3) := by decide +kernel
theorem dX6_of_73 : decode cX6_of 73 = .ok (.iload_n 1, 1) := by decide +kernel
theorem dX6_of_74 : decode cX6_of 74 = .ok (.invokevirtual 111, 3) := by decide +kernel
theorem dX6_of_77 : decode cX6_of 77 = .ok (.ireturn, 1) := by decide +kernel
theorem dX6_of_78 : decode cX6_of 78 = .ok (.aload_n 0, 1) := by decide +kernel
theorem dX6_of_79 : decode cX6_of 79 = .ok (.getfield 19, 3) := by decide +kernel
theorem dX6_of_82 : decode cX6_of 82 = .ok (.iload_n 1, 1) := by decide +kernel
theorem dX6_of_83 : decode cX6_of 83 = .ok (.invokevirtual 114, 3) := by decide +kernel
theorem dX6_of_86 : decode cX6_of 86 = .ok (.ireturn, 1) := by decide +kernel
theorem dX6_of_87 : decode cX6_of 87 = .ok (.aload_n 0, 1) := by decide +kernel
theorem dX6_of_88 : decode cX6_of 88 = .ok (.getfield 19, 3) := by decide +kernel
theorem dX6_of_91 : decode cX6_of 91 = .ok (.aload_n 0, 1) := by decide +kernel
theorem dX6_of_92 : decode cX6_of 92 = .ok (.getfield 19, 3) := by decide +kernel
theorem dX6_of_95 : decode cX6_of 95 = .ok (.getfield 117, 3) := by decide +kernel
theorem dX6_of_98 : decode cX6_of 98 = .ok (.iload_n 1, 1) := by decide +kernel
theorem dX6_of_99 : decode cX6_of 99 = .ok (.iadd, 1) := by decide +kernel
theorem dX6_of_100 : decode cX6_of 100 = .ok (.invokevirtual 120, 3) := by decide +kernel
theorem dX6_of_103 : decode cX6_of 103 = .ok (.ireturn, 1) := by decide +kernel
theorem dX6_told_0 : decode cX6_told 0 = .ok (.iload_n 1, 1) := by decide +kernel
theorem dX6_told_1 : decode cX6_told 1 = .ok (.ifCond .ne 11, 3) := by decide +kernel
theorem dX6_told_4 : decode cX6_told 4 = .ok (.aload_n 0, 1) := by decide +kernel
theorem dX6_told_5 : decode cX6_told 5 = .ok (.iload_n 2, 1) := by decide +kernel
theorem dX6_told_6 : decode cX6_told 6 = .ok (.invokevirtual 123, 3) := by decide +kernel
theorem dX6_told_9 : decode cX6_told 9 = .ok (.goto 22, 3) := by decide +kernel
theorem dX6_told_12 : decode cX6_told 12 = .ok (.iload_n 1, 1) := by decide +kernel
theorem dX6_told_13 : decode cX6_told 13 = .ok (.iconst 1, 1) := by decide +kernel
theorem dX6_told_14 : decode cX6_told 14 = .ok (.if_icmp .lt 16, 3) := by decide +kernel
theorem dX6_told_17 : decode cX6_told 17 = .ok (.iload_n 1, 1) := by decide +kernel
theorem dX6_told_18 : decode cX6_told 18 = .ok (.iconst 3, 1) := by decide +kernel
theorem dX6_told_19 : decode cX6_told 19 = .ok (.if_icmp .gt 11, 3) := by decide +kernel
theorem dX6_told_22 : decode cX6_told 22 = .ok (.iload_n 2, 1) := by decide +kernel
theorem dX6_told_23 : decode cX6_told 23 = .ok (.ifCond .ne 7, 3) := by decide +kernel
theorem dX6_told_26 : decode cX6_told 26 = .ok (.iconst 1, 1) := by decide +kernel
theorem dX6_told_27 : decode cX6_told 27 = .ok (.goto 4, 3) := by decide +kernel
theorem dX6_told_30 : decode cX6_told 30 = .ok (.iconst 0, 1) := by decide +kernel
theorem dX6_told_31 : decode cX6_told 31 = .ok (.istore_n 3, 1) := by decide +kernel
theorem dX6_told_32 : decode cX6_told 32 = .ok (.aload_n 0, 1) := by decide +kernel
theorem dX6_told_33 : decode cX6_told 33 = .ok (.iload_n 3, 1) := by decide +kernel
theorem dX6_told_34 : decode cX6_told 34 = .ok (.invokevirtual 80, 3) := by decide +kernel
theorem dX6_told_37 : decode cX6_told 37 = .ok (.istore 4, 2) := by decide +kernel
theorem dX6_told_39 : decode cX6_told 39 = .ok (.iload 4, 2) := by decide +kernel
theorem dX6_told_41 : decode cX6_told 41 = .ok (.ifCond .eq 6, 3) := by decide +kernel
theorem dX6_told_44 : decode cX6_told 44 = .ok (.iload 4, 2) := by decide +kernel
theorem dX6_told_46 : decode cX6_told 46 = .ok (.ireturn, 1) := by decide +kernel
theorem dX6_told_47 : decode cX6_told 47 = .ok (.iload_n 1, 1) := by decide +kernel
theorem dX6_told_48 : decode cX6_told 48 = .ok (.tableswitch 53 0 2 #[28, 37, 45], 28) := by decide +kernel
theorem dX6_told_76 : decode cX6_told 76 = .ok (.aload_n 0, 1) := by decide +kernel
theorem dX6_told_77 : decode cX6_told 77 = .ok (.getfield 19, 3) := by decide +kernel
theorem dX6_told_80 : decode cX6_told 80 = .ok (.iload_n 2, 1) := by decide +kernel
theorem dX6_told_81 : decode cX6_told 81 = .ok (.invokevirtual 126, 3) := by decide +kernel
theorem dX6_told_84 : decode cX6_told 84 = .ok (.ireturn, 1) := by decide +kernel
theorem dX6_told_85 : decode cX6_told 85 = .ok (.aload_n 0, 1) := by decide +kernel
theorem dX6_told_86 : decode cX6_told 86 = .ok (.getfield 19, 3) := by decide +kernel
theorem dX6_told_89 : decode cX6_told 89 = .ok (.getfield 129, 3) := by decide +kernel
theorem dX6_told_92 : decode cX6_told 92 = .ok (.ireturn, 1) := by decide +kernel
theorem dX6_told_93 : decode cX6_told 93 = .ok (.aload_n 0, 1) := by decide +kernel
theorem dX6_told_94 : decode cX6_told 94 = .ok (.getfield 19, 3) := by decide +kernel
theorem dX6_told_97 : decode cX6_told 97 = .ok (.getfield 132, 3) := by decide +kernel
theorem dX6_told_100 : decode cX6_told 100 = .ok (.ireturn, 1) := by decide +kernel
theorem dX6_told_101 : decode cX6_told 101 = .ok (.aload_n 0, 1) := by decide +kernel
theorem dX6_told_102 : decode cX6_told 102 = .ok (.getfield 19, 3) := by decide +kernel
theorem dX6_told_105 : decode cX6_told 105 = .ok (.getfield 135, 3) := by decide +kernel
theorem dX6_told_108 : decode cX6_told 108 = .ok (.ireturn, 1) := by decide +kernel
theorem dX6_adder_0 : decode cX6_adder 0 = .ok (.iload_n 1, 1) := by decide +kernel
theorem dX6_adder_1 : decode cX6_adder 1 = .ok (.iconst 1, 1) := by decide +kernel
theorem dX6_adder_2 : decode cX6_adder 2 = .ok (.if_icmp .lt 8, 3) := by decide +kernel
theorem dX6_adder_5 : decode cX6_adder 5 = .ok (.iload_n 1, 1) := by decide +kernel
theorem dX6_adder_6 : decode cX6_adder 6 = .ok (.iconst 3, 1) := by decide +kernel
theorem dX6_adder_7 : decode cX6_adder 7 = .ok (.if_icmp .le 10, 3) := by decide +kernel
theorem dX6_adder_10 : decode cX6_adder 10 = .ok (.aload_n 0, 1) := by decide +kernel
theorem dX6_adder_11 : decode cX6_adder 11 = .ok (.bipush (-2), 2) := by decide +kernel
theorem dX6_adder_13 : decode cX6_adder 13 = .ok (.invokevirtual 43, 3) := by decide +kernel
theorem dX6_adder_16 : decode cX6_adder 16 = .ok (.ireturn, 1) := by decide +kernel
theorem dX6_adder_17 : decode cX6_adder 17 = .ok (.aload_n 0, 1) := by decide +kernel
theorem dX6_adder_18 : decode cX6_adder 18 = .ok (.getfield 19, 3) := by decide +kernel
theorem dX6_adder_21 : decode cX6_adder 21 = .ok (.iconst 2, 1) := by decide +kernel
theorem dX6_adder_22 : decode cX6_adder 22 = .ok (.iload_n 1, 1) := by decide +kernel
theorem dX6_adder_23 : decode cX6_adder 23 = .ok (.imul, 1) := by decide +kernel
theorem dX6_adder_24 : decode cX6_adder 24 = .ok (.invokevirtual 138, 3) := by decide +kernel
theorem dX6_adder_27 : decode cX6_adder 27 = .ok (.aload_n 0, 1) := by decide +kernel
theorem dX6_adder_28 : decode cX6_adder 28 = .ok (.getfield 19, 3) := by decide +kernel
theorem dX6_adder_31 : decode cX6_adder 31 = .ok (.aload_n 0, 1) := by decide +kernel
theorem dX6_adder_32 : decode cX6_adder 32 = .ok (.getfield 19, 3) := by decide +kernel
theorem dX6_adder_35 : decode cX6_adder 35 = .ok (.iconst 3, 1) := by decide +kernel
theorem dX6_adder_36 : decode cX6_adder 36 = .ok (.iconst 0, 1) := by decide +kernel
theorem dX6_adder_37 : decode cX6_adder 37 = .ok (.iload_n 1, 1) := by decide +kernel
theorem dX6_adder_38 : decode cX6_adder 38 = .ok (.invokevirtual 142, 3) := by decide +kernel
theorem dX6_adder_41 : decode cX6_adder 41 = .ok (.invokevirtual 146, 3) := by decide +kernel
theorem dX6_adder_44 : decode cX6_adder 44 = .ok (.aload_n 0, 1) := by decide +kernel
theorem dX6_adder_45 : decode cX6_adder 45 = .ok (.getfield 19, 3) := by decide +kernel
theorem dX6_adder_48 : decode cX6_adder 48 = .ok (.iconst 1, 1) := by decide +kernel
theorem dX6_adder_49 : decode cX6_adder 49 = .ok (.iconst 0, 1) := by decide +kernel
theorem dX6_adder_50 : decode cX6_adder 50 = .ok (.iload_n 1, 1) := by decide +kernel
theorem dX6_adder_51 : decode cX6_adder 51 = .ok (.invokevirtual 142, 3) := by decide +kernel
theorem dX6_adder_54 : decode cX6_adder 54 = .ok (.istore_n 2, 1) := by decide +kernel
theorem dX6_adder_55 : decode cX6_adder 55 = .ok (.iconst 1, 1) := by decide +kernel
theorem dX6_adder_56 : decode cX6_adder 56 = .ok (.istore_n 3, 1) := by decide +kernel
theorem dX6_adder_57 : decode cX6_adder 57 = .ok (.iload_n 3, 1) := by decide +kernel
theorem dX6_adder_58 : decode cX6_adder 58 = .ok (.iload_n 1, 1) := by decide +kernel
theorem dX6_adder_59 : decode cX6_adder 59 = .ok (.if_icmp .ge 81, 3) := by decide +kernel
theorem dX6_adder_62 : decode cX6_adder 62 = .ok (.aload_n 0, 1) := by decide +kernel
theorem dX6_adder_63 : decode cX6_adder 63 = .ok (.getfield 19, 3) := by decide +kernel
theorem dX6_adder_66 : decode cX6_adder 66 = .ok (.iconst 3, 1) := by decide +kernel
theorem dX6_adder_67 : decode cX6_adder 67 = .ok (.iload_n 3, 1) := by decide +kernel
theorem dX6_adder_68 : decode cX6_adder 68 = .ok (.iload_n 1, 1) := by decide +kernel
theorem dX6_adder_69 : decode cX6_adder 69 = .ok (.iload_n 3, 1) := by decide +kernel
theorem dX6_adder_70 : decode cX6_adder 70 = .ok (.iadd, 1) := by decide +kernel
theorem dX6_adder_71 : decode cX6_adder 71 = .ok (.invokevirtual 142, 3) := by decide +kernel
theorem dX6_adder_74 : decode cX6_adder 74 = .ok (.istore 4, 2) := by decide +kernel
theorem dX6_adder_76 : decode cX6_adder 76 = .ok (.aload_n 0, 1) := by decide +kernel
theorem dX6_adder_77 : decode cX6_adder 77 = .ok (.getfield 19, 3) := by decide +kernel
theorem dX6_adder_80 : decode cX6_adder 80 = .ok (.aload_n 0, 1) := by decide +kernel
theorem dX6_adder_81 : decode cX6_adder 81 = .ok (.getfield 19, 3) := by decide +kernel
theorem dX6_adder_84 : decode cX6_adder 84 = .ok (.iconst 3, 1) := by decide +kernel
theorem dX6_adder_85 : decode cX6_adder 85 = .ok (.iload 4, 2) := by decide +kernel
theorem dX6_adder_87 : decode cX6_adder 87 = .ok (.iload_n 2, 1) := by decide +kernel
theorem dX6_adder_88 : decode cX6_adder 88 = .ok (.invokevirtual 142, 3) := by decide +kernel
theorem dX6_adder_91 : decode cX6_adder 91 = .ok (.invokevirtual 146, 3) := by decide +kernel
theorem dX6_adder_94 : decode cX6_adder 94 = .ok (.aload_n 0, 1) := by decide +kernel
theorem dX6_adder_95 : decode cX6_adder 95 = .ok (.getfield 19, 3) := by decide +kernel
theorem dX6_adder_98 : decode cX6_adder 98 = .ok (.iconst 1, 1) := by decide +kernel
theorem dX6_adder_99 : decode cX6_adder 99 = .ok (.iload_n 3, 1) := by decide +kernel
theorem dX6_adder_100 : decode cX6_adder 100 = .ok (.iload_n 1, 1) := by decide +kernel
theorem dX6_adder_101 : decode cX6_adder 101 = .ok (.iload_n 3, 1) := by decide +kernel
theorem dX6_adder_102 : decode cX6_adder 102 = .ok (.iadd, 1) := by decide +kernel
theorem dX6_adder_103 : decode cX6_adder 103 = .ok (.invokevirtual 142, 3) := by decide +kernel
theorem dX6_adder_106 : decode cX6_adder 106 = .ok (.istore 5, 2) := by decide +kernel
theorem dX6_adder_108 : decode cX6_adder 108 = .ok (.aload_n 0, 1) := by decide +kernel
theorem dX6_adder_109 : decode cX6_adder 109 = .ok (.getfield 19, 3) := by decide +kernel
theorem dX6_adder_112 : decode cX6_adder 112 = .ok (.iconst 1, 1) := by decide +kernel
theorem dX6_adder_113 : decode cX6_adder 113 = .ok (.iload 4, 2) := by decide +kernel
theorem dX6_adder_115 : decode cX6_adder 115 = .ok (.iload_n 2, 1) := by decide +kernel
theorem dX6_adder_116 : decode cX6_adder 116 = .ok (.invokevirtual 142, 3) := by decide +kernel
theorem dX6_adder_119 : decode cX6_adder 119 = .ok (.istore 6, 2) := by decide +kernel
theorem dX6_adder_121 : decode cX6_adder 121 = .ok (.aload_n 0, 1) := by decide +kernel
theorem dX6_adder_122 : decode cX6_adder 122 = .ok (.getfield 19, 3) := by decide +kernel
theorem dX6_adder_125 : decode cX6_adder 125 = .ok (.iconst 2, 1) := by decide +kernel
theorem dX6_adder_126 : decode cX6_adder 126 = .ok (.iload 5, 2) := by decide +kernel
theorem dX6_adder_128 : decode cX6_adder 128 = .ok (.iload 6, 2) := by decide +kernel
theorem dX6_adder_130 : decode cX6_adder 130 = .ok (.invokevirtual 142, 3) := by decide +kernel
theorem dX6_adder_133 : decode cX6_adder 133 = .ok (.istore_n 2, 1) := by decide +kernel
theorem dX6_adder_134 : decode cX6_adder 134 = .ok (.iinc 3 1, 3) := by decide +kernel
theorem dX6_adder_137 : decode cX6_adder 137 = .ok (.goto (-80), 3) := by decide +kernel
theorem dX6_adder_140 : decode cX6_adder 140 = .ok (.aload_n 0, 1) := by decide +kernel
theorem dX6_adder_141 : decode cX6_adder 141 = .ok (.getfield 19, 3) := by decide +kernel
theorem dX6_adder_144 : decode cX6_adder 144 = .ok (.iload_n 2, 1) := by decide +kernel
theorem dX6_adder_145 : decode cX6_adder 145 = .ok (.invokevirtual 146, 3) := by decide +kernel
theorem dX6_adder_148 : decode cX6_adder 148 = .ok (.aload_n 0, 1) := by decide +kernel
theorem dX6_adder_149 : decode cX6_adder 149 = .ok (.getfield 19, 3) := by decide +kernel
theorem dX6_adder_152 : decode cX6_adder 152 = .ok (.iconst 0, 1) := by decide +kernel
theorem dX6_adder_153 : decode cX6_adder 153 = .ok (.iload_n 1, 1) := by decide +kernel
theorem dX6_adder_154 : decode cX6_adder 154 = .ok (.iload_n 1, 1) := by decide +kernel
theorem dX6_adder_155 : decode cX6_adder 155 = .ok (.invokevirtual 149, 3) := by decide +kernel
theorem dX6_adder_158 : decode cX6_adder 158 = .ok (.aload_n 0, 1) := by decide +kernel
theorem dX6_adder_159 : decode cX6_adder 159 = .ok (.invokevirtual 69, 3) := by decide +kernel
theorem dX6_adder_162 : decode cX6_adder 162 = .ok (.ireturn, 1) := by decide +kernel
theorem dX6_draw_0 : decode cX6_draw 0 = .ok (.iload_n 2, 1) := by decide +kernel
theorem dX6_draw_1 : decode cX6_draw 1 = .ok (.iconst 1, 1) := by decide +kernel
theorem dX6_draw_2 : decode cX6_draw 2 = .ok (.if_icmp .lt 24, 3) := by decide +kernel
theorem dX6_draw_5 : decode cX6_draw 5 = .ok (.iload_n 2, 1) := by decide +kernel
theorem dX6_draw_6 : decode cX6_draw 6 = .ok (.bipush 6, 2) := by decide +kernel
theorem dX6_draw_8 : decode cX6_draw 8 = .ok (.if_icmp .gt 18, 3) := by decide +kernel
theorem dX6_draw_11 : decode cX6_draw 11 = .ok (.iload_n 3, 1) := by decide +kernel
theorem dX6_draw_12 : decode cX6_draw 12 = .ok (.iconst 1, 1) := by decide +kernel
theorem dX6_draw_13 : decode cX6_draw 13 = .ok (.if_icmp .lt 13, 3) := by decide +kernel
theorem dX6_draw_16 : decode cX6_draw 16 = .ok (.iload_n 3, 1) := by decide +kernel
theorem dX6_draw_17 : decode cX6_draw 17 = .ok (.bipush 12, 2) := by decide +kernel
theorem dX6_draw_19 : decode cX6_draw 19 = .ok (.if_icmp .gt 7, 3) := by decide +kernel
theorem dX6_draw_22 : decode cX6_draw 22 = .ok (.iconst 1, 1) := by decide +kernel
theorem dX6_draw_23 : decode cX6_draw 23 = .ok (.goto 4, 3) := by decide +kernel
theorem dX6_draw_26 : decode cX6_draw 26 = .ok (.iconst 0, 1) := by decide +kernel
theorem dX6_draw_27 : decode cX6_draw 27 = .ok (.istore 4, 2) := by decide +kernel
theorem dX6_draw_29 : decode cX6_draw 29 = .ok (.iload_n 1, 1) := by decide +kernel
theorem dX6_draw_30 : decode cX6_draw 30 = .ok (.ifCond .lt 14, 3) := by decide +kernel
theorem dX6_draw_33 : decode cX6_draw 33 = .ok (.iload_n 1, 1) := by decide +kernel
theorem dX6_draw_34 : decode cX6_draw 34 = .ok (.ldc 153, 2) := by decide +kernel
theorem dX6_draw_36 : decode cX6_draw 36 = .ok (.if_icmp .gt 8, 3) := by decide +kernel
theorem dX6_draw_39 : decode cX6_draw 39 = .ok (.iload 4, 2) := by decide +kernel
theorem dX6_draw_41 : decode cX6_draw 41 = .ok (.ifCond .ne 10, 3) := by decide +kernel
theorem dX6_draw_44 : decode cX6_draw 44 = .ok (.aload_n 0, 1) := by decide +kernel
theorem dX6_draw_45 : decode cX6_draw 45 = .ok (.bipush (-2), 2) := by decide +kernel
theorem dX6_draw_47 : decode cX6_draw 47 = .ok (.invokevirtual 43, 3) := by decide +kernel
theorem dX6_draw_50 : decode cX6_draw 50 = .ok (.ireturn, 1) := by decide +kernel
theorem dX6_draw_51 : decode cX6_draw 51 = .ok (.aload_n 0, 1) := by decide +kernel
theorem dX6_draw_52 : decode cX6_draw 52 = .ok (.getfield 19, 3) := by decide +kernel
theorem dX6_draw_55 : decode cX6_draw 55 = .ok (.iload_n 2, 1) := by decide +kernel
theorem dX6_draw_56 : decode cX6_draw 56 = .ok (.invokevirtual 138, 3) := by decide +kernel
theorem dX6_draw_59 : decode cX6_draw 59 = .ok (.iload_n 1, 1) := by decide +kernel
theorem dX6_draw_60 : decode cX6_draw 60 = .ok (.i2l, 1) := by decide +kernel
theorem dX6_draw_61 : decode cX6_draw 61 = .ok (.lstore 5, 2) := by decide +kernel
theorem dX6_draw_63 : decode cX6_draw 63 = .ok (.iconst 0, 1) := by decide +kernel
theorem dX6_draw_64 : decode cX6_draw 64 = .ok (.istore 7, 2) := by decide +kernel
theorem dX6_draw_66 : decode cX6_draw 66 = .ok (.iload 7, 2) := by decide +kernel
theorem dX6_draw_68 : decode cX6_draw 68 = .ok (.iload_n 3, 1) := by decide +kernel
theorem dX6_draw_69 : decode cX6_draw 69 = .ok (.if_icmp .ge 87, 3) := by decide +kernel
theorem dX6_draw_72 : decode cX6_draw 72 = .ok (.lload 5, 2) := by decide +kernel
theorem dX6_draw_74 : decode cX6_draw 74 = .ok (.ldc2_w 154, 3) := by decide +kernel
theorem dX6_draw_77 : decode cX6_draw 77 = .ok (.lmul, 1) := by decide +kernel
theorem dX6_draw_78 : decode cX6_draw 78 = .ok (.ldc2_w 156, 3) := by decide +kernel
theorem dX6_draw_81 : decode cX6_draw 81 = .ok (.ladd, 1) := by decide +kernel
theorem dX6_draw_82 : decode cX6_draw 82 = .ok (.ldc2_w 158, 3) := by decide +kernel
theorem dX6_draw_85 : decode cX6_draw 85 = .ok (.lrem, 1) := by decide +kernel
theorem dX6_draw_86 : decode cX6_draw 86 = .ok (.lstore 5, 2) := by decide +kernel
theorem dX6_draw_88 : decode cX6_draw 88 = .ok (.lload 5, 2) := by decide +kernel
theorem dX6_draw_90 : decode cX6_draw 90 = .ok (.ldc2_w 160, 3) := by decide +kernel
theorem dX6_draw_93 : decode cX6_draw 93 = .ok (.ldiv, 1) := by decide +kernel
theorem dX6_draw_94 : decode cX6_draw 94 = .ok (.bipush 8, 2) := by decide +kernel
theorem dX6_draw_96 : decode cX6_draw 96 = .ok (.invokestatic 162, 3) := by decide +kernel
theorem dX6_draw_99 : decode cX6_draw 99 = .ok (.istore 8, 2) := by decide +kernel
theorem dX6_draw_101 : decode cX6_draw 101 = .ok (.iload 8, 2) := by decide +kernel
theorem dX6_draw_103 : decode cX6_draw 103 = .ok (.ifCond .ne 7, 3) := by decide +kernel
theorem dX6_draw_106 : decode cX6_draw 106 = .ok (.iconst (-1), 1) := by decide +kernel
theorem dX6_draw_107 : decode cX6_draw 107 = .ok (.goto 16, 3) := by decide +kernel
theorem dX6_draw_110 : decode cX6_draw 110 = .ok (.lload 5, 2) := by decide +kernel
theorem dX6_draw_112 : decode cX6_draw 112 = .ok (.ldc2_w 166, 3) := by decide +kernel
theorem dX6_draw_115 : decode cX6_draw 115 = .ok (.ldiv, 1) := by decide +kernel
theorem dX6_draw_116 : decode cX6_draw 116 = .ok (.iload_n 2, 1) := by decide +kernel
theorem dX6_draw_117 : decode cX6_draw 117 = .ok (.iload 7, 2) := by decide +kernel
theorem dX6_draw_119 : decode cX6_draw 119 = .ok (.iadd, 1) := by decide +kernel
theorem dX6_draw_120 : decode cX6_draw 120 = .ok (.invokestatic 162, 3) := by decide +kernel
theorem dX6_draw_123 : decode cX6_draw 123 = .ok (.istore 9, 2) := by decide +kernel
theorem dX6_draw_125 : decode cX6_draw 125 = .ok (.aload_n 0, 1) := by decide +kernel
theorem dX6_draw_126 : decode cX6_draw 126 = .ok (.getfield 19, 3) := by decide +kernel
theorem dX6_draw_129 : decode cX6_draw 129 = .ok (.iload 8, 2) := by decide +kernel
theorem dX6_draw_131 : decode cX6_draw 131 = .ok (.lload 5, 2) := by decide +kernel
theorem dX6_draw_133 : decode cX6_draw 133 = .ok (.ldc2_w 168, 3) := by decide +kernel
theorem dX6_draw_136 : decode cX6_draw 136 = .ok (.ldiv, 1) := by decide +kernel
theorem dX6_draw_137 : decode cX6_draw 137 = .ok (.iload_n 2, 1) := by decide +kernel
theorem dX6_draw_138 : decode cX6_draw 138 = .ok (.iload 7, 2) := by decide +kernel
theorem dX6_draw_140 : decode cX6_draw 140 = .ok (.iadd, 1) := by decide +kernel
theorem dX6_draw_141 : decode cX6_draw 141 = .ok (.invokestatic 162, 3) := by decide +kernel
theorem dX6_draw_144 : decode cX6_draw 144 = .ok (.iload 9, 2) := by decide +kernel
theorem dX6_draw_146 : decode cX6_draw 146 = .ok (.invokevirtual 142, 3) := by decide +kernel
theorem dX6_draw_149 : decode cX6_draw 149 = .ok (.pop, 1) := by decide +kernel
theorem dX6_draw_150 : decode cX6_draw 150 = .ok (.iinc 7 1, 3) := by decide +kernel
theorem dX6_draw_153 : decode cX6_draw 153 = .ok (.goto (-87), 3) := by decide +kernel
theorem dX6_draw_156 : decode cX6_draw 156 = .ok (.aload_n 0, 1) := by decide +kernel
theorem dX6_draw_157 : decode cX6_draw 157 = .ok (.getfield 19, 3) := by decide +kernel
theorem dX6_draw_160 : decode cX6_draw 160 = .ok (.iload_n 2, 1) := by decide +kernel
theorem dX6_draw_161 : decode cX6_draw 161 = .ok (.iload_n 3, 1) := by decide +kernel
theorem dX6_draw_162 : decode cX6_draw 162 = .ok (.iadd, 1) := by decide +kernel
theorem dX6_draw_163 : decode cX6_draw 163 = .ok (.iconst 1, 1) := by decide +kernel
theorem dX6_draw_164 : decode cX6_draw 164 = .ok (.isub, 1) := by decide +kernel
theorem dX6_draw_165 : decode cX6_draw 165 = .ok (.invokevirtual 146, 3) := by decide +kernel
theorem dX6_draw_168 : decode cX6_draw 168 = .ok (.iload_n 3, 1) := by decide +kernel
theorem dX6_draw_169 : decode cX6_draw 169 = .ok (.iconst 1, 1) := by decide +kernel
theorem dX6_draw_170 : decode cX6_draw 170 = .ok (.if_icmp .le 15, 3) := by decide +kernel
theorem dX6_draw_173 : decode cX6_draw 173 = .ok (.aload_n 0, 1) := by decide +kernel
theorem dX6_draw_174 : decode cX6_draw 174 = .ok (.getfield 19, 3) := by decide +kernel
theorem dX6_draw_177 : decode cX6_draw 177 = .ok (.iload_n 2, 1) := by decide +kernel
theorem dX6_draw_178 : decode cX6_draw 178 = .ok (.iload_n 3, 1) := by decide +kernel
theorem dX6_draw_179 : decode cX6_draw 179 = .ok (.iadd, 1) := by decide +kernel
theorem dX6_draw_180 : decode cX6_draw 180 = .ok (.iconst 2, 1) := by decide +kernel
theorem dX6_draw_181 : decode cX6_draw 181 = .ok (.isub, 1) := by decide +kernel
theorem dX6_draw_182 : decode cX6_draw 182 = .ok (.invokevirtual 146, 3) := by decide +kernel
theorem dX6_draw_185 : decode cX6_draw 185 = .ok (.aload_n 0, 1) := by decide +kernel
theorem dX6_draw_186 : decode cX6_draw 186 = .ok (.getfield 19, 3) := by decide +kernel
theorem dX6_draw_189 : decode cX6_draw 189 = .ok (.iconst 0, 1) := by decide +kernel
theorem dX6_draw_190 : decode cX6_draw 190 = .ok (.iconst 1, 1) := by decide +kernel
theorem dX6_draw_191 : decode cX6_draw 191 = .ok (.iconst 0, 1) := by decide +kernel
theorem dX6_draw_192 : decode cX6_draw 192 = .ok (.invokevirtual 149, 3) := by decide +kernel
theorem dX6_draw_195 : decode cX6_draw 195 = .ok (.aload_n 0, 1) := by decide +kernel
theorem dX6_draw_196 : decode cX6_draw 196 = .ok (.invokevirtual 69, 3) := by decide +kernel
theorem dX6_draw_199 : decode cX6_draw 199 = .ok (.ireturn, 1) := by decide +kernel
theorem dX6_runs_0 : decode cX6_runs 0 = .ok (.aload_n 0, 1) := by decide +kernel
theorem dX6_runs_1 : decode cX6_runs 1 = .ok (.aload_n 0, 1) := by decide +kernel
theorem dX6_runs_2 : decode cX6_runs 2 = .ok (.iload_n 1, 1) := by decide +kernel
theorem dX6_runs_3 : decode cX6_runs 3 = .ok (.invokevirtual 170, 3) := by decide +kernel
theorem dX6_runs_6 : decode cX6_runs 6 = .ok (.ifCond .eq 16, 3) := by decide +kernel
theorem dX6_runs_9 : decode cX6_runs 9 = .ok (.iload_n 2, 1) := by decide +kernel
theorem dX6_runs_10 : decode cX6_runs 10 = .ok (.ifCond .eq 8, 3) := by decide +kernel
theorem dX6_runs_13 : decode cX6_runs 13 = .ok (.iload_n 2, 1) := by decide +kernel
theorem dX6_runs_14 : decode cX6_runs 14 = .ok (.iconst 1, 1) := by decide +kernel
theorem dX6_runs_15 : decode cX6_runs 15 = .ok (.if_icmp .ne 7, 3) := by decide +kernel
theorem dX6_runs_18 : decode cX6_runs 18 = .ok (.iconst 1, 1) := by decide +kernel
theorem dX6_runs_19 : decode cX6_runs 19 = .ok (.goto 4, 3) := by decide +kernel
theorem dX6_runs_22 : decode cX6_runs 22 = .ok (.iconst 0, 1) := by decide +kernel
theorem dX6_runs_23 : decode cX6_runs 23 = .ok (.invokevirtual 80, 3) := by decide +kernel
theorem dX6_runs_26 : decode cX6_runs 26 = .ok (.istore_n 3, 1) := by decide +kernel
theorem dX6_runs_27 : decode cX6_runs 27 = .ok (.iload_n 3, 1) := by decide +kernel
theorem dX6_runs_28 : decode cX6_runs 28 = .ok (.ifCond .eq 5, 3) := by decide +kernel
theorem dX6_runs_31 : decode cX6_runs 31 = .ok (.iload_n 3, 1) := by decide +kernel
theorem dX6_runs_32 : decode cX6_runs 32 = .ok (.ireturn, 1) := by decide +kernel
theorem dX6_runs_33 : decode cX6_runs 33 = .ok (.iload_n 2, 1) := by decide +kernel
theorem dX6_runs_34 : decode cX6_runs 34 = .ok (.ifCond .ne 18, 3) := by decide +kernel
theorem dX6_runs_37 : decode cX6_runs 37 = .ok (.aload_n 0, 1) := by decide +kernel
theorem dX6_runs_38 : decode cX6_runs 38 = .ok (.getfield 29, 3) := by decide +kernel
theorem dX6_runs_41 : decode cX6_runs 41 = .ok (.aload_n 0, 1) := by decide +kernel
theorem dX6_runs_42 : decode cX6_runs 42 = .ok (.getfield 19, 3) := by decide +kernel
theorem dX6_runs_45 : decode cX6_runs 45 = .ok (.iload_n 1, 1) := by decide +kernel
theorem dX6_runs_46 : decode cX6_runs 46 = .ok (.invokevirtual 173, 3) := by decide +kernel
theorem dX6_runs_49 : decode cX6_runs 49 = .ok (.goto 11, 3) := by decide +kernel
theorem dX6_runs_52 : decode cX6_runs 52 = .ok (.aload_n 0, 1) := by decide +kernel
theorem dX6_runs_53 : decode cX6_runs 53 = .ok (.getfield 19, 3) := by decide +kernel
theorem dX6_runs_56 : decode cX6_runs 56 = .ok (.iload_n 1, 1) := by decide +kernel
theorem dX6_runs_57 : decode cX6_runs 57 = .ok (.invokevirtual 177, 3) := by decide +kernel
theorem dX6_runs_60 : decode cX6_runs 60 = .ok (.ireturn, 1) := by decide +kernel
theorem dX6_signal_0 : decode cX6_signal 0 = .ok (.aload_n 0, 1) := by decide +kernel
theorem dX6_signal_1 : decode cX6_signal 1 = .ok (.aload_n 0, 1) := by decide +kernel
theorem dX6_signal_2 : decode cX6_signal 2 = .ok (.iload_n 1, 1) := by decide +kernel
theorem dX6_signal_3 : decode cX6_signal 3 = .ok (.invokevirtual 180, 3) := by decide +kernel
theorem dX6_signal_6 : decode cX6_signal 6 = .ok (.ifCond .eq 15, 3) := by decide +kernel
theorem dX6_signal_9 : decode cX6_signal 9 = .ok (.aload_n 0, 1) := by decide +kernel
theorem dX6_signal_10 : decode cX6_signal 10 = .ok (.iload_n 2, 1) := by decide +kernel
theorem dX6_signal_11 : decode cX6_signal 11 = .ok (.invokevirtual 170, 3) := by decide +kernel
theorem dX6_signal_14 : decode cX6_signal 14 = .ok (.ifCond .eq 7, 3) := by decide +kernel
theorem dX6_signal_17 : decode cX6_signal 17 = .ok (.iconst 1, 1) := by decide +kernel
theorem dX6_signal_18 : decode cX6_signal 18 = .ok (.goto 4, 3) := by decide +kernel
theorem dX6_signal_21 : decode cX6_signal 21 = .ok (.iconst 0, 1) := by decide +kernel
theorem dX6_signal_22 : decode cX6_signal 22 = .ok (.invokevirtual 80, 3) := by decide +kernel
theorem dX6_signal_25 : decode cX6_signal 25 = .ok (.istore_n 3, 1) := by decide +kernel
theorem dX6_signal_26 : decode cX6_signal 26 = .ok (.iload_n 3, 1) := by decide +kernel
theorem dX6_signal_27 : decode cX6_signal 27 = .ok (.ifCond .eq 7, 3) := by decide +kernel
theorem dX6_signal_30 : decode cX6_signal 30 = .ok (.iload_n 3, 1) := by decide +kernel
theorem dX6_signal_31 : decode cX6_signal 31 = .ok (.goto 12, 3) := by decide +kernel
theorem dX6_signal_34 : decode cX6_signal 34 = .ok (.aload_n 0, 1) := by decide +kernel
theorem dX6_signal_35 : decode cX6_signal 35 = .ok (.getfield 29, 3) := by decide +kernel
theorem dX6_signal_38 : decode cX6_signal 38 = .ok (.iload_n 1, 1) := by decide +kernel
theorem dX6_signal_39 : decode cX6_signal 39 = .ok (.iload_n 2, 1) := by decide +kernel
theorem dX6_signal_40 : decode cX6_signal 40 = .ok (.invokevirtual 183, 3) := by decide +kernel
theorem dX6_signal_43 : decode cX6_signal 43 = .ok (.ireturn, 1) := by decide +kernel
theorem dX6_wrong_0 : decode cX6_wrong 0 = .ok (.aload_n 0, 1) := by decide +kernel
theorem dX6_wrong_1 : decode cX6_wrong 1 = .ok (.iload_n 1, 1) := by decide +kernel
theorem dX6_wrong_2 : decode cX6_wrong 2 = .ok (.ifCond .eq 8, 3) := by decide +kernel
theorem dX6_wrong_5 : decode cX6_wrong 5 = .ok (.iload_n 1, 1) := by decide +kernel
theorem dX6_wrong_6 : decode cX6_wrong 6 = .ok (.iconst 1, 1) := by decide +kernel
theorem dX6_wrong_7 : decode cX6_wrong 7 = .ok (.if_icmp .ne 7, 3) := by decide +kernel
theorem dX6_wrong_10 : decode cX6_wrong 10 = .ok (.iconst 1, 1) := by decide +kernel
theorem dX6_wrong_11 : decode cX6_wrong 11 = .ok (.goto 4, 3) := by decide +kernel
theorem dX6_wrong_14 : decode cX6_wrong 14 = .ok (.iconst 0, 1) := by decide +kernel
theorem dX6_wrong_15 : decode cX6_wrong 15 = .ok (.invokevirtual 80, 3) := by decide +kernel
theorem dX6_wrong_18 : decode cX6_wrong 18 = .ok (.istore_n 2, 1) := by decide +kernel
theorem dX6_wrong_19 : decode cX6_wrong 19 = .ok (.iload_n 2, 1) := by decide +kernel
theorem dX6_wrong_20 : decode cX6_wrong 20 = .ok (.ifCond .eq 5, 3) := by decide +kernel
theorem dX6_wrong_23 : decode cX6_wrong 23 = .ok (.iload_n 2, 1) := by decide +kernel
theorem dX6_wrong_24 : decode cX6_wrong 24 = .ok (.ireturn, 1) := by decide +kernel
theorem dX6_wrong_25 : decode cX6_wrong 25 = .ok (.iload_n 1, 1) := by decide +kernel
theorem dX6_wrong_26 : decode cX6_wrong 26 = .ok (.ifCond .ne 17, 3) := by decide +kernel
theorem dX6_wrong_29 : decode cX6_wrong 29 = .ok (.aload_n 0, 1) := by decide +kernel
theorem dX6_wrong_30 : decode cX6_wrong 30 = .ok (.getfield 29, 3) := by decide +kernel
theorem dX6_wrong_33 : decode cX6_wrong 33 = .ok (.aload_n 0, 1) := by decide +kernel
theorem dX6_wrong_34 : decode cX6_wrong 34 = .ok (.getfield 19, 3) := by decide +kernel
theorem dX6_wrong_37 : decode cX6_wrong 37 = .ok (.invokevirtual 187, 3) := by decide +kernel
theorem dX6_wrong_40 : decode cX6_wrong 40 = .ok (.goto 14, 3) := by decide +kernel
theorem dX6_wrong_43 : decode cX6_wrong 43 = .ok (.aload_n 0, 1) := by decide +kernel
theorem dX6_wrong_44 : decode cX6_wrong 44 = .ok (.getfield 29, 3) := by decide +kernel
theorem dX6_wrong_47 : decode cX6_wrong 47 = .ok (.aload_n 0, 1) := by decide +kernel
theorem dX6_wrong_48 : decode cX6_wrong 48 = .ok (.getfield 19, 3) := by decide +kernel
theorem dX6_wrong_51 : decode cX6_wrong 51 = .ok (.invokevirtual 190, 3) := by decide +kernel
theorem dX6_wrong_54 : decode cX6_wrong 54 = .ok (.ireturn, 1) := by decide +kernel
theorem dX6_cures_0 : decode cX6_cures 0 = .ok (.aload_n 0, 1) := by decide +kernel
theorem dX6_cures_1 : decode cX6_cures 1 = .ok (.aload_n 0, 1) := by decide +kernel
theorem dX6_cures_2 : decode cX6_cures 2 = .ok (.iload_n 1, 1) := by decide +kernel
theorem dX6_cures_3 : decode cX6_cures 3 = .ok (.invokevirtual 73, 3) := by decide +kernel
theorem dX6_cures_6 : decode cX6_cures 6 = .ok (.invokevirtual 80, 3) := by decide +kernel
theorem dX6_cures_9 : decode cX6_cures 9 = .ok (.istore_n 2, 1) := by decide +kernel
theorem dX6_cures_10 : decode cX6_cures 10 = .ok (.iload_n 2, 1) := by decide +kernel
theorem dX6_cures_11 : decode cX6_cures 11 = .ok (.ifCond .eq 5, 3) := by decide +kernel
theorem dX6_cures_14 : decode cX6_cures 14 = .ok (.iload_n 2, 1) := by decide +kernel
theorem dX6_cures_15 : decode cX6_cures 15 = .ok (.ireturn, 1) := by decide +kernel
theorem dX6_cures_16 : decode cX6_cures 16 = .ok (.iconst 0, 1) := by decide +kernel
theorem dX6_cures_17 : decode cX6_cures 17 = .ok (.istore_n 3, 1) := by decide +kernel
theorem dX6_cures_18 : decode cX6_cures 18 = .ok (.iconst 0, 1) := by decide +kernel
theorem dX6_cures_19 : decode cX6_cures 19 = .ok (.istore 4, 2) := by decide +kernel
theorem dX6_cures_21 : decode cX6_cures 21 = .ok (.iload 4, 2) := by decide +kernel
theorem dX6_cures_23 : decode cX6_cures 23 = .ok (.bipush 8, 2) := by decide +kernel
theorem dX6_cures_25 : decode cX6_cures 25 = .ok (.if_icmp .ge 62, 3) := by decide +kernel
theorem dX6_cures_28 : decode cX6_cures 28 = .ok (.aload_n 0, 1) := by decide +kernel
theorem dX6_cures_29 : decode cX6_cures 29 = .ok (.getfield 19, 3) := by decide +kernel
theorem dX6_cures_32 : decode cX6_cures 32 = .ok (.iload_n 1, 1) := by decide +kernel
theorem dX6_cures_33 : decode cX6_cures 33 = .ok (.iload 4, 2) := by decide +kernel
theorem dX6_cures_35 : decode cX6_cures 35 = .ok (.invokevirtual 76, 3) := by decide +kernel
theorem dX6_cures_38 : decode cX6_cures 38 = .ok (.ifCond .eq 43, 3) := by decide +kernel
theorem dX6_cures_41 : decode cX6_cures 41 = .ok (.aload_n 0, 1) := by decide +kernel
theorem dX6_cures_42 : decode cX6_cures 42 = .ok (.getfield 33, 3) := by decide +kernel
theorem dX6_cures_45 : decode cX6_cures 45 = .ok (.aload_n 0, 1) := by decide +kernel
theorem dX6_cures_46 : decode cX6_cures 46 = .ok (.getfield 19, 3) := by decide +kernel
theorem dX6_cures_49 : decode cX6_cures 49 = .ok (.iload_n 1, 1) := by decide +kernel
theorem dX6_cures_50 : decode cX6_cures 50 = .ok (.iload 4, 2) := by decide +kernel
theorem dX6_cures_52 : decode cX6_cures 52 = .ok (.invokevirtual 193, 3) := by decide +kernel
theorem dX6_cures_55 : decode cX6_cures 55 = .ok (.iload_n 3, 1) := by decide +kernel
theorem dX6_cures_56 : decode cX6_cures 56 = .ok (.aload_n 0, 1) := by decide +kernel
theorem dX6_cures_57 : decode cX6_cures 57 = .ok (.getfield 33, 3) := by decide +kernel
theorem dX6_cures_60 : decode cX6_cures 60 = .ok (.aload_n 0, 1) := by decide +kernel
theorem dX6_cures_61 : decode cX6_cures 61 = .ok (.getfield 19, 3) := by decide +kernel
theorem dX6_cures_64 : decode cX6_cures 64 = .ok (.invokevirtual 187, 3) := by decide +kernel
theorem dX6_cures_67 : decode cX6_cures 67 = .ok (.iconst (-1), 1) := by decide +kernel
theorem dX6_cures_68 : decode cX6_cures 68 = .ok (.if_icmp .ne 10, 3) := by decide +kernel
theorem dX6_cures_71 : decode cX6_cures 71 = .ok (.iconst 1, 1) := by decide +kernel
theorem dX6_cures_72 : decode cX6_cures 72 = .ok (.iload 4, 2) := by decide +kernel
theorem dX6_cures_74 : decode cX6_cures 74 = .ok (.ishl, 1) := by decide +kernel
theorem dX6_cures_75 : decode cX6_cures 75 = .ok (.goto 4, 3) := by decide +kernel
theorem dX6_cures_78 : decode cX6_cures 78 = .ok (.iconst 0, 1) := by decide +kernel
theorem dX6_cures_79 : decode cX6_cures 79 = .ok (.ior, 1) := by decide +kernel
theorem dX6_cures_80 : decode cX6_cures 80 = .ok (.istore_n 3, 1) := by decide +kernel
theorem dX6_cures_81 : decode cX6_cures 81 = .ok (.iinc 4 1, 3) := by decide +kernel
theorem dX6_cures_84 : decode cX6_cures 84 = .ok (.goto (-63), 3) := by decide +kernel
theorem dX6_cures_87 : decode cX6_cures 87 = .ok (.iload_n 3, 1) := by decide +kernel
theorem dX6_cures_88 : decode cX6_cures 88 = .ok (.ireturn, 1) := by decide +kernel
theorem dX6_right_0 : decode cX6_right 0 = .ok (.aload_n 0, 1) := by decide +kernel
theorem dX6_right_1 : decode cX6_right 1 = .ok (.iconst 1, 1) := by decide +kernel
theorem dX6_right_2 : decode cX6_right 2 = .ok (.aload_n 0, 1) := by decide +kernel
theorem dX6_right_3 : decode cX6_right 3 = .ok (.getfield 19, 3) := by decide +kernel
theorem dX6_right_6 : decode cX6_right 6 = .ok (.getfield 197, 3) := by decide +kernel
theorem dX6_right_9 : decode cX6_right 9 = .ok (.invokevirtual 200, 3) := by decide +kernel
theorem dX6_right_12 : decode cX6_right 12 = .ok (.istore_n 1, 1) := by decide +kernel
theorem dX6_right_13 : decode cX6_right 13 = .ok (.iload_n 1, 1) := by decide +kernel
theorem dX6_right_14 : decode cX6_right 14 = .ok (.ifCond .eq 5, 3) := by decide +kernel
theorem dX6_right_17 : decode cX6_right 17 = .ok (.iload_n 1, 1) := by decide +kernel
theorem dX6_right_18 : decode cX6_right 18 = .ok (.ireturn, 1) := by decide +kernel
theorem dX6_right_19 : decode cX6_right 19 = .ok (.aload_n 0, 1) := by decide +kernel
theorem dX6_right_20 : decode cX6_right 20 = .ok (.getfield 39, 3) := by decide +kernel
theorem dX6_right_23 : decode cX6_right 23 = .ok (.aload_n 0, 1) := by decide +kernel
theorem dX6_right_24 : decode cX6_right 24 = .ok (.getfield 19, 3) := by decide +kernel
theorem dX6_right_27 : decode cX6_right 27 = .ok (.getfield 197, 3) := by decide +kernel
theorem dX6_right_30 : decode cX6_right 30 = .ok (.invokevirtual 204, 3) := by decide +kernel
theorem dX6_right_33 : decode cX6_right 33 = .ok (.ifCond .ne 7, 3) := by decide +kernel
theorem dX6_right_36 : decode cX6_right 36 = .ok (.iconst 1, 1) := by decide +kernel
theorem dX6_right_37 : decode cX6_right 37 = .ok (.goto 4, 3) := by decide +kernel
theorem dX6_right_40 : decode cX6_right 40 = .ok (.iconst 0, 1) := by decide +kernel
theorem dX6_right_41 : decode cX6_right 41 = .ok (.ireturn, 1) := by decide +kernel
theorem dX6_terms_0 : decode cX6_terms 0 = .ok (.aload_n 0, 1) := by decide +kernel
theorem dX6_terms_1 : decode cX6_terms 1 = .ok (.aload_n 0, 1) := by decide +kernel
theorem dX6_terms_2 : decode cX6_terms 2 = .ok (.iload_n 1, 1) := by decide +kernel
theorem dX6_terms_3 : decode cX6_terms 3 = .ok (.invokevirtual 207, 3) := by decide +kernel
theorem dX6_terms_6 : decode cX6_terms 6 = .ok (.iload_n 1, 1) := by decide +kernel
theorem dX6_terms_7 : decode cX6_terms 7 = .ok (.invokevirtual 200, 3) := by decide +kernel
theorem dX6_terms_10 : decode cX6_terms 10 = .ok (.istore_n 2, 1) := by decide +kernel
theorem dX6_terms_11 : decode cX6_terms 11 = .ok (.iload_n 2, 1) := by decide +kernel
theorem dX6_terms_12 : decode cX6_terms 12 = .ok (.ifCond .eq 7, 3) := by decide +kernel
theorem dX6_terms_15 : decode cX6_terms 15 = .ok (.iload_n 2, 1) := by decide +kernel
theorem dX6_terms_16 : decode cX6_terms 16 = .ok (.goto 11, 3) := by decide +kernel
theorem dX6_terms_19 : decode cX6_terms 19 = .ok (.aload_n 0, 1) := by decide +kernel
theorem dX6_terms_20 : decode cX6_terms 20 = .ok (.getfield 39, 3) := by decide +kernel
theorem dX6_terms_23 : decode cX6_terms 23 = .ok (.iload_n 1, 1) := by decide +kernel
theorem dX6_terms_24 : decode cX6_terms 24 = .ok (.invokevirtual 204, 3) := by decide +kernel
theorem dX6_terms_27 : decode cX6_terms 27 = .ok (.ireturn, 1) := by decide +kernel
theorem dX6_term_0 : decode cX6_term 0 = .ok (.aload_n 0, 1) := by decide +kernel
theorem dX6_term_1 : decode cX6_term 1 = .ok (.aload_n 0, 1) := by decide +kernel
theorem dX6_term_2 : decode cX6_term 2 = .ok (.iload_n 1, 1) := by decide +kernel
theorem dX6_term_3 : decode cX6_term 3 = .ok (.invokevirtual 207, 3) := by decide +kernel
theorem dX6_term_6 : decode cX6_term 6 = .ok (.ifCond .eq 20, 3) := by decide +kernel
theorem dX6_term_9 : decode cX6_term 9 = .ok (.iload_n 2, 1) := by decide +kernel
theorem dX6_term_10 : decode cX6_term 10 = .ok (.ifCond .lt 16, 3) := by decide +kernel
theorem dX6_term_13 : decode cX6_term 13 = .ok (.iload_n 3, 1) := by decide +kernel
theorem dX6_term_14 : decode cX6_term 14 = .ok (.ifCond .eq 8, 3) := by decide +kernel
theorem dX6_term_17 : decode cX6_term 17 = .ok (.iload_n 3, 1) := by decide +kernel
theorem dX6_term_18 : decode cX6_term 18 = .ok (.iconst 1, 1) := by decide +kernel
theorem dX6_term_19 : decode cX6_term 19 = .ok (.if_icmp .ne 7, 3) := by decide +kernel
theorem dX6_term_22 : decode cX6_term 22 = .ok (.iconst 1, 1) := by decide +kernel
theorem dX6_term_23 : decode cX6_term 23 = .ok (.goto 4, 3) := by decide +kernel
theorem dX6_term_26 : decode cX6_term 26 = .ok (.iconst 0, 1) := by decide +kernel
theorem dX6_term_27 : decode cX6_term 27 = .ok (.iload_n 1, 1) := by decide +kernel
theorem dX6_term_28 : decode cX6_term 28 = .ok (.invokevirtual 200, 3) := by decide +kernel
theorem dX6_term_31 : decode cX6_term 31 = .ok (.istore 4, 2) := by decide +kernel
theorem dX6_term_33 : decode cX6_term 33 = .ok (.iload 4, 2) := by decide +kernel
theorem dX6_term_35 : decode cX6_term 35 = .ok (.ifCond .eq 6, 3) := by decide +kernel
theorem dX6_term_38 : decode cX6_term 38 = .ok (.iload 4, 2) := by decide +kernel
theorem dX6_term_40 : decode cX6_term 40 = .ok (.ireturn, 1) := by decide +kernel
theorem dX6_term_41 : decode cX6_term 41 = .ok (.iload_n 2, 1) := by decide +kernel
theorem dX6_term_42 : decode cX6_term 42 = .ok (.aload_n 0, 1) := by decide +kernel
theorem dX6_term_43 : decode cX6_term 43 = .ok (.getfield 39, 3) := by decide +kernel
theorem dX6_term_46 : decode cX6_term 46 = .ok (.iload_n 1, 1) := by decide +kernel
theorem dX6_term_47 : decode cX6_term 47 = .ok (.invokevirtual 204, 3) := by decide +kernel
theorem dX6_term_50 : decode cX6_term 50 = .ok (.if_icmp .lt 5, 3) := by decide +kernel
theorem dX6_term_53 : decode cX6_term 53 = .ok (.iconst (-1), 1) := by decide +kernel
theorem dX6_term_54 : decode cX6_term 54 = .ok (.ireturn, 1) := by decide +kernel
theorem dX6_term_55 : decode cX6_term 55 = .ok (.iload_n 3, 1) := by decide +kernel
theorem dX6_term_56 : decode cX6_term 56 = .ok (.ifCond .ne 15, 3) := by decide +kernel
theorem dX6_term_59 : decode cX6_term 59 = .ok (.aload_n 0, 1) := by decide +kernel
theorem dX6_term_60 : decode cX6_term 60 = .ok (.getfield 39, 3) := by decide +kernel
theorem dX6_term_63 : decode cX6_term 63 = .ok (.iload_n 1, 1) := by decide +kernel
theorem dX6_term_64 : decode cX6_term 64 = .ok (.iload_n 2, 1) := by decide +kernel
theorem dX6_term_65 : decode cX6_term 65 = .ok (.invokevirtual 210, 3) := by decide +kernel
theorem dX6_term_68 : decode cX6_term 68 = .ok (.goto 12, 3) := by decide +kernel
theorem dX6_term_71 : decode cX6_term 71 = .ok (.aload_n 0, 1) := by decide +kernel
theorem dX6_term_72 : decode cX6_term 72 = .ok (.getfield 39, 3) := by decide +kernel
theorem dX6_term_75 : decode cX6_term 75 = .ok (.iload_n 1, 1) := by decide +kernel
theorem dX6_term_76 : decode cX6_term 76 = .ok (.iload_n 2, 1) := by decide +kernel
theorem dX6_term_77 : decode cX6_term 77 = .ok (.invokevirtual 213, 3) := by decide +kernel
theorem dX6_term_80 : decode cX6_term 80 = .ok (.ireturn, 1) := by decide +kernel
theorem dX6_most_0 : decode cX6_most 0 = .ok (.aload_n 0, 1) := by decide +kernel
theorem dX6_most_1 : decode cX6_most 1 = .ok (.getfield 19, 3) := by decide +kernel
theorem dX6_most_4 : decode cX6_most 4 = .ok (.getfield 197, 3) := by decide +kernel
theorem dX6_most_7 : decode cX6_most 7 = .ok (.istore_n 2, 1) := by decide +kernel
theorem dX6_most_8 : decode cX6_most 8 = .ok (.aload_n 0, 1) := by decide +kernel
theorem dX6_most_9 : decode cX6_most 9 = .ok (.iload_n 1, 1) := by decide +kernel
theorem dX6_most_10 : decode cX6_most 10 = .ok (.ifCond .lt 12, 3) := by decide +kernel
theorem dX6_most_13 : decode cX6_most 13 = .ok (.iload_n 1, 1) := by decide +kernel
theorem dX6_most_14 : decode cX6_most 14 = .ok (.iconst 2, 1) := by decide +kernel
theorem dX6_most_15 : decode cX6_most 15 = .ok (.if_icmp .gt 7, 3) := by decide +kernel
theorem dX6_most_18 : decode cX6_most 18 = .ok (.iconst 1, 1) := by decide +kernel
theorem dX6_most_19 : decode cX6_most 19 = .ok (.goto 4, 3) := by decide +kernel
theorem dX6_most_22 : decode cX6_most 22 = .ok (.iconst 0, 1) := by decide +kernel
theorem dX6_most_23 : decode cX6_most 23 = .ok (.iload_n 2, 1) := by decide +kernel
theorem dX6_most_24 : decode cX6_most 24 = .ok (.invokevirtual 200, 3) := by decide +kernel
theorem dX6_most_27 : decode cX6_most 27 = .ok (.istore_n 3, 1) := by decide +kernel
theorem dX6_most_28 : decode cX6_most 28 = .ok (.iload_n 3, 1) := by decide +kernel
theorem dX6_most_29 : decode cX6_most 29 = .ok (.ifCond .eq 5, 3) := by decide +kernel
theorem dX6_most_32 : decode cX6_most 32 = .ok (.iload_n 3, 1) := by decide +kernel
theorem dX6_most_33 : decode cX6_most 33 = .ok (.ireturn, 1) := by decide +kernel
theorem dX6_most_34 : decode cX6_most 34 = .ok (.iload_n 1, 1) := by decide +kernel
theorem dX6_most_35 : decode cX6_most 35 = .ok (.lookupswitch 43 #[(0, 25), (1, 34)], 25) := by decide +kernel
theorem dX6_most_60 : decode cX6_most 60 = .ok (.aload_n 0, 1) := by decide +kernel
theorem dX6_most_61 : decode cX6_most 61 = .ok (.getfield 39, 3) := by decide +kernel
theorem dX6_most_64 : decode cX6_most 64 = .ok (.iload_n 2, 1) := by decide +kernel
theorem dX6_most_65 : decode cX6_most 65 = .ok (.invokevirtual 216, 3) := by decide +kernel
theorem dX6_most_68 : decode cX6_most 68 = .ok (.ireturn, 1) := by decide +kernel
theorem dX6_most_69 : decode cX6_most 69 = .ok (.aload_n 0, 1) := by decide +kernel
theorem dX6_most_70 : decode cX6_most 70 = .ok (.getfield 39, 3) := by decide +kernel
theorem dX6_most_73 : decode cX6_most 73 = .ok (.iload_n 2, 1) := by decide +kernel
theorem dX6_most_74 : decode cX6_most 74 = .ok (.invokevirtual 219, 3) := by decide +kernel
theorem dX6_most_77 : decode cX6_most 77 = .ok (.ireturn, 1) := by decide +kernel
theorem dX6_most_78 : decode cX6_most 78 = .ok (.aload_n 0, 1) := by decide +kernel
theorem dX6_most_79 : decode cX6_most 79 = .ok (.getfield 39, 3) := by decide +kernel
theorem dX6_most_82 : decode cX6_most 82 = .ok (.iload_n 2, 1) := by decide +kernel
theorem dX6_most_83 : decode cX6_most 83 = .ok (.iconst (-1), 1) := by decide +kernel
theorem dX6_most_84 : decode cX6_most 84 = .ok (.invokevirtual 222, 3) := by decide +kernel
theorem dX6_most_87 : decode cX6_most 87 = .ok (.ireturn, 1) := by decide +kernel
theorem dX6_dearest_0 : decode cX6_dearest 0 = .ok (.aload_n 0, 1) := by decide +kernel
theorem dX6_dearest_1 : decode cX6_dearest 1 = .ok (.aload_n 0, 1) := by decide +kernel
theorem dX6_dearest_2 : decode cX6_dearest 2 = .ok (.iload_n 1, 1) := by decide +kernel
theorem dX6_dearest_3 : decode cX6_dearest 3 = .ok (.invokevirtual 207, 3) := by decide +kernel
theorem dX6_dearest_6 : decode cX6_dearest 6 = .ok (.ifCond .eq 11, 3) := by decide +kernel
theorem dX6_dearest_9 : decode cX6_dearest 9 = .ok (.iload_n 2, 1) := by decide +kernel
theorem dX6_dearest_10 : decode cX6_dearest 10 = .ok (.ifCond .lt 7, 3) := by decide +kernel
theorem dX6_dearest_13 : decode cX6_dearest 13 = .ok (.iconst 1, 1) := by decide +kernel
theorem dX6_dearest_14 : decode cX6_dearest 14 = .ok (.goto 4, 3) := by decide +kernel
theorem dX6_dearest_17 : decode cX6_dearest 17 = .ok (.iconst 0, 1) := by decide +kernel
theorem dX6_dearest_18 : decode cX6_dearest 18 = .ok (.iload_n 1, 1) := by decide +kernel
theorem dX6_dearest_19 : decode cX6_dearest 19 = .ok (.invokevirtual 200, 3) := by decide +kernel
theorem dX6_dearest_22 : decode cX6_dearest 22 = .ok (.istore_n 3, 1) := by decide +kernel
theorem dX6_dearest_23 : decode cX6_dearest 23 = .ok (.iload_n 3, 1) := by decide +kernel
theorem dX6_dearest_24 : decode cX6_dearest 24 = .ok (.ifCond .eq 7, 3) := by decide +kernel
theorem dX6_dearest_27 : decode cX6_dearest 27 = .ok (.iload_n 3, 1) := by decide +kernel
theorem dX6_dearest_28 : decode cX6_dearest 28 = .ok (.goto 12, 3) := by decide +kernel
theorem dX6_dearest_31 : decode cX6_dearest 31 = .ok (.aload_n 0, 1) := by decide +kernel
theorem dX6_dearest_32 : decode cX6_dearest 32 = .ok (.getfield 39, 3) := by decide +kernel
theorem dX6_dearest_35 : decode cX6_dearest 35 = .ok (.iload_n 1, 1) := by decide +kernel
theorem dX6_dearest_36 : decode cX6_dearest 36 = .ok (.iload_n 2, 1) := by decide +kernel
theorem dX6_dearest_37 : decode cX6_dearest 37 = .ok (.invokevirtual 225, 3) := by decide +kernel
theorem dX6_dearest_40 : decode cX6_dearest 40 = .ok (.ireturn, 1) := by decide +kernel
theorem dX6_value_0 : decode cX6_value 0 = .ok (.aload_n 0, 1) := by decide +kernel
theorem dX6_value_1 : decode cX6_value 1 = .ok (.aload_n 0, 1) := by decide +kernel
theorem dX6_value_2 : decode cX6_value 2 = .ok (.iload_n 1, 1) := by decide +kernel
theorem dX6_value_3 : decode cX6_value 3 = .ok (.invokevirtual 207, 3) := by decide +kernel
theorem dX6_value_6 : decode cX6_value 6 = .ok (.ifCond .eq 15, 3) := by decide +kernel
theorem dX6_value_9 : decode cX6_value 9 = .ok (.aload_n 0, 1) := by decide +kernel
theorem dX6_value_10 : decode cX6_value 10 = .ok (.iload_n 2, 1) := by decide +kernel
theorem dX6_value_11 : decode cX6_value 11 = .ok (.invokevirtual 170, 3) := by decide +kernel
theorem dX6_value_14 : decode cX6_value 14 = .ok (.ifCond .eq 7, 3) := by decide +kernel
theorem dX6_value_17 : decode cX6_value 17 = .ok (.iconst 1, 1) := by decide +kernel
theorem dX6_value_18 : decode cX6_value 18 = .ok (.goto 4, 3) := by decide +kernel
theorem dX6_value_21 : decode cX6_value 21 = .ok (.iconst 0, 1) := by decide +kernel
theorem dX6_value_22 : decode cX6_value 22 = .ok (.iload_n 1, 1) := by decide +kernel
theorem dX6_value_23 : decode cX6_value 23 = .ok (.invokevirtual 200, 3) := by decide +kernel
theorem dX6_value_26 : decode cX6_value 26 = .ok (.istore_n 3, 1) := by decide +kernel
theorem dX6_value_27 : decode cX6_value 27 = .ok (.iload_n 3, 1) := by decide +kernel
theorem dX6_value_28 : decode cX6_value 28 = .ok (.ifCond .eq 7, 3) := by decide +kernel
theorem dX6_value_31 : decode cX6_value 31 = .ok (.iload_n 3, 1) := by decide +kernel
theorem dX6_value_32 : decode cX6_value 32 = .ok (.goto 23, 3) := by decide +kernel
theorem dX6_value_35 : decode cX6_value 35 = .ok (.aload_n 0, 1) := by decide +kernel
theorem dX6_value_36 : decode cX6_value 36 = .ok (.getfield 39, 3) := by decide +kernel
theorem dX6_value_39 : decode cX6_value 39 = .ok (.iload_n 1, 1) := by decide +kernel
theorem dX6_value_40 : decode cX6_value 40 = .ok (.aload_n 0, 1) := by decide +kernel
theorem dX6_value_41 : decode cX6_value 41 = .ok (.getfield 29, 3) := by decide +kernel
theorem dX6_value_44 : decode cX6_value 44 = .ok (.aload_n 0, 1) := by decide +kernel
theorem dX6_value_45 : decode cX6_value 45 = .ok (.getfield 19, 3) := by decide +kernel
theorem dX6_value_48 : decode cX6_value 48 = .ok (.iload_n 2, 1) := by decide +kernel
theorem dX6_value_49 : decode cX6_value 49 = .ok (.invokevirtual 228, 3) := by decide +kernel
theorem dX6_value_52 : decode cX6_value 52 = .ok (.invokevirtual 222, 3) := by decide +kernel
theorem dX6_value_55 : decode cX6_value 55 = .ok (.ireturn, 1) := by decide +kernel
theorem dX6_stands_0 : decode cX6_stands 0 = .ok (.aload_n 0, 1) := by decide +kernel
theorem dX6_stands_1 : decode cX6_stands 1 = .ok (.aload_n 0, 1) := by decide +kernel
theorem dX6_stands_2 : decode cX6_stands 2 = .ok (.iload_n 1, 1) := by decide +kernel
theorem dX6_stands_3 : decode cX6_stands 3 = .ok (.invokevirtual 207, 3) := by decide +kernel
theorem dX6_stands_6 : decode cX6_stands 6 = .ok (.iload_n 1, 1) := by decide +kernel
theorem dX6_stands_7 : decode cX6_stands 7 = .ok (.invokevirtual 200, 3) := by decide +kernel
theorem dX6_stands_10 : decode cX6_stands 10 = .ok (.istore_n 2, 1) := by decide +kernel
theorem dX6_stands_11 : decode cX6_stands 11 = .ok (.iload_n 2, 1) := by decide +kernel
theorem dX6_stands_12 : decode cX6_stands 12 = .ok (.ifCond .eq 7, 3) := by decide +kernel
theorem dX6_stands_15 : decode cX6_stands 15 = .ok (.iload_n 2, 1) := by decide +kernel
theorem dX6_stands_16 : decode cX6_stands 16 = .ok (.goto 11, 3) := by decide +kernel
theorem dX6_stands_19 : decode cX6_stands 19 = .ok (.aload_n 0, 1) := by decide +kernel
theorem dX6_stands_20 : decode cX6_stands 20 = .ok (.getfield 39, 3) := by decide +kernel
theorem dX6_stands_23 : decode cX6_stands 23 = .ok (.iload_n 1, 1) := by decide +kernel
theorem dX6_stands_24 : decode cX6_stands 24 = .ok (.invokevirtual 231, 3) := by decide +kernel
theorem dX6_stands_27 : decode cX6_stands 27 = .ok (.ireturn, 1) := by decide +kernel
theorem dX6_witness_0 : decode cX6_witness 0 = .ok (.aload_n 0, 1) := by decide +kernel
theorem dX6_witness_1 : decode cX6_witness 1 = .ok (.iconst 1, 1) := by decide +kernel
theorem dX6_witness_2 : decode cX6_witness 2 = .ok (.aload_n 0, 1) := by decide +kernel
theorem dX6_witness_3 : decode cX6_witness 3 = .ok (.getfield 19, 3) := by decide +kernel
theorem dX6_witness_6 : decode cX6_witness 6 = .ok (.getfield 197, 3) := by decide +kernel
theorem dX6_witness_9 : decode cX6_witness 9 = .ok (.invokevirtual 200, 3) := by decide +kernel
theorem dX6_witness_12 : decode cX6_witness 12 = .ok (.istore_n 1, 1) := by decide +kernel
theorem dX6_witness_13 : decode cX6_witness 13 = .ok (.iload_n 1, 1) := by decide +kernel
theorem dX6_witness_14 : decode cX6_witness 14 = .ok (.ifCond .eq 7, 3) := by decide +kernel
theorem dX6_witness_17 : decode cX6_witness 17 = .ok (.iload_n 1, 1) := by decide +kernel
theorem dX6_witness_18 : decode cX6_witness 18 = .ok (.goto 17, 3) := by decide +kernel
theorem dX6_witness_21 : decode cX6_witness 21 = .ok (.aload_n 0, 1) := by decide +kernel
theorem dX6_witness_22 : decode cX6_witness 22 = .ok (.getfield 39, 3) := by decide +kernel
theorem dX6_witness_25 : decode cX6_witness 25 = .ok (.aload_n 0, 1) := by decide +kernel
theorem dX6_witness_26 : decode cX6_witness 26 = .ok (.getfield 19, 3) := by decide +kernel
theorem dX6_witness_29 : decode cX6_witness 29 = .ok (.getfield 197, 3) := by decide +kernel
theorem dX6_witness_32 : decode cX6_witness 32 = .ok (.invokevirtual 234, 3) := by decide +kernel
theorem dX6_witness_35 : decode cX6_witness 35 = .ok (.ireturn, 1) := by decide +kernel
theorem dX6_count_0 : decode cX6_count 0 = .ok (.iload_n 1, 1) := by decide +kernel
theorem dX6_count_1 : decode cX6_count 1 = .ok (.tableswitch 93 0 6 #[43, 48, 53, 58, 69, 77, 85], 43) := by decide +kernel
theorem dX6_count_44 : decode cX6_count 44 = .ok (.aload_n 0, 1) := by decide +kernel
theorem dX6_count_45 : decode cX6_count 45 = .ok (.getfield 237, 3) := by decide +kernel
theorem dX6_count_48 : decode cX6_count 48 = .ok (.ireturn, 1) := by decide +kernel
theorem dX6_count_49 : decode cX6_count 49 = .ok (.aload_n 0, 1) := by decide +kernel
theorem dX6_count_50 : decode cX6_count 50 = .ok (.getfield 240, 3) := by decide +kernel
theorem dX6_count_53 : decode cX6_count 53 = .ok (.ireturn, 1) := by decide +kernel
theorem dX6_count_54 : decode cX6_count 54 = .ok (.aload_n 0, 1) := by decide +kernel
theorem dX6_count_55 : decode cX6_count 55 = .ok (.getfield 243, 3) := by decide +kernel
theorem dX6_count_58 : decode cX6_count 58 = .ok (.ireturn, 1) := by decide +kernel
theorem dX6_count_59 : decode cX6_count 59 = .ok (.aload_n 0, 1) := by decide +kernel
theorem dX6_count_60 : decode cX6_count 60 = .ok (.getfield 12, 3) := by decide +kernel
theorem dX6_count_63 : decode cX6_count 63 = .ok (.getfield 47, 3) := by decide +kernel
theorem dX6_count_66 : decode cX6_count 66 = .ok (.getfield 57, 3) := by decide +kernel
theorem dX6_count_69 : decode cX6_count 69 = .ok (.ireturn, 1) := by decide +kernel
theorem dX6_count_70 : decode cX6_count 70 = .ok (.aload_n 0, 1) := by decide +kernel
theorem dX6_count_71 : decode cX6_count 71 = .ok (.getfield 19, 3) := by decide +kernel
theorem dX6_count_74 : decode cX6_count 74 = .ok (.getfield 117, 3) := by decide +kernel
theorem dX6_count_77 : decode cX6_count 77 = .ok (.ireturn, 1) := by decide +kernel
theorem dX6_count_78 : decode cX6_count 78 = .ok (.aload_n 0, 1) := by decide +kernel
theorem dX6_count_79 : decode cX6_count 79 = .ok (.getfield 19, 3) := by decide +kernel
theorem dX6_count_82 : decode cX6_count 82 = .ok (.getfield 197, 3) := by decide +kernel
theorem dX6_count_85 : decode cX6_count 85 = .ok (.ireturn, 1) := by decide +kernel
theorem dX6_count_86 : decode cX6_count 86 = .ok (.aload_n 0, 1) := by decide +kernel
theorem dX6_count_87 : decode cX6_count 87 = .ok (.getfield 19, 3) := by decide +kernel
theorem dX6_count_90 : decode cX6_count 90 = .ok (.getfield 246, 3) := by decide +kernel
theorem dX6_count_93 : decode cX6_count 93 = .ok (.ireturn, 1) := by decide +kernel
theorem dX6_count_94 : decode cX6_count 94 = .ok (.aload_n 0, 1) := by decide +kernel
theorem dX6_count_95 : decode cX6_count 95 = .ok (.bipush (-2), 2) := by decide +kernel
theorem dX6_count_97 : decode cX6_count 97 = .ok (.invokevirtual 43, 3) := by decide +kernel
theorem dX6_count_100 : decode cX6_count 100 = .ok (.ireturn, 1) := by decide +kernel
theorem dX6_digest_0 : decode cX6_digest 0 = .ok (.ldc2_w 249, 3) := by decide +kernel
theorem dX6_digest_3 : decode cX6_digest 3 = .ok (.lstore_n 1, 1) := by decide +kernel
theorem dX6_digest_4 : decode cX6_digest 4 = .ok (.iconst 0, 1) := by decide +kernel
theorem dX6_digest_5 : decode cX6_digest 5 = .ok (.istore_n 3, 1) := by decide +kernel
theorem dX6_digest_6 : decode cX6_digest 6 = .ok (.iload_n 3, 1) := by decide +kernel
theorem dX6_digest_7 : decode cX6_digest 7 = .ok (.bipush 6, 2) := by decide +kernel
theorem dX6_digest_9 : decode cX6_digest 9 = .ok (.if_icmp .gt 22, 3) := by decide +kernel
theorem dX6_digest_12 : decode cX6_digest 12 = .ok (.ldc2_w 251, 3) := by decide +kernel
theorem dX6_digest_15 : decode cX6_digest 15 = .ok (.lload_n 1, 1) := by decide +kernel
theorem dX6_digest_16 : decode cX6_digest 16 = .ok (.lmul, 1) := by decide +kernel
theorem dX6_digest_17 : decode cX6_digest 17 = .ok (.aload_n 0, 1) := by decide +kernel
theorem dX6_digest_18 : decode cX6_digest 18 = .ok (.iload_n 3, 1) := by decide +kernel
theorem dX6_digest_19 : decode cX6_digest 19 = .ok (.invokevirtual 253, 3) := by decide +kernel
theorem dX6_digest_22 : decode cX6_digest 22 = .ok (.i2l, 1) := by decide +kernel
theorem dX6_digest_23 : decode cX6_digest 23 = .ok (.ladd, 1) := by decide +kernel
theorem dX6_digest_24 : decode cX6_digest 24 = .ok (.lstore_n 1, 1) := by decide +kernel
theorem dX6_digest_25 : decode cX6_digest 25 = .ok (.iinc 3 1, 3) := by decide +kernel
theorem dX6_digest_28 : decode cX6_digest 28 = .ok (.goto (-22), 3) := by decide +kernel
theorem dX6_digest_31 : decode cX6_digest 31 = .ok (.iconst 0, 1) := by decide +kernel
theorem dX6_digest_32 : decode cX6_digest 32 = .ok (.istore_n 3, 1) := by decide +kernel
theorem dX6_digest_33 : decode cX6_digest 33 = .ok (.iload_n 3, 1) := by decide +kernel
theorem dX6_digest_34 : decode cX6_digest 34 = .ok (.aload_n 0, 1) := by decide +kernel
theorem dX6_digest_35 : decode cX6_digest 35 = .ok (.getfield 19, 3) := by decide +kernel
theorem dX6_digest_38 : decode cX6_digest 38 = .ok (.getfield 197, 3) := by decide +kernel
theorem dX6_digest_41 : decode cX6_digest 41 = .ok (.if_icmp .ge 57, 3) := by decide +kernel
theorem dX6_digest_44 : decode cX6_digest 44 = .ok (.ldc2_w 251, 3) := by decide +kernel
theorem dX6_digest_47 : decode cX6_digest 47 = .ok (.lload_n 1, 1) := by decide +kernel
theorem dX6_digest_48 : decode cX6_digest 48 = .ok (.lmul, 1) := by decide +kernel
theorem dX6_digest_49 : decode cX6_digest 49 = .ok (.aload_n 0, 1) := by decide +kernel
theorem dX6_digest_50 : decode cX6_digest 50 = .ok (.getfield 19, 3) := by decide +kernel
theorem dX6_digest_53 : decode cX6_digest 53 = .ok (.iload_n 3, 1) := by decide +kernel
theorem dX6_digest_54 : decode cX6_digest 54 = .ok (.invokevirtual 84, 3) := by decide +kernel
theorem dX6_digest_57 : decode cX6_digest 57 = .ok (.i2l, 1) := by decide +kernel
theorem dX6_digest_58 : decode cX6_digest 58 = .ok (.ladd, 1) := by decide +kernel
theorem dX6_digest_59 : decode cX6_digest 59 = .ok (.lstore_n 1, 1) := by decide +kernel
theorem dX6_digest_60 : decode cX6_digest 60 = .ok (.ldc2_w 251, 3) := by decide +kernel
theorem dX6_digest_63 : decode cX6_digest 63 = .ok (.lload_n 1, 1) := by decide +kernel
theorem dX6_digest_64 : decode cX6_digest 64 = .ok (.lmul, 1) := by decide +kernel
theorem dX6_digest_65 : decode cX6_digest 65 = .ok (.aload_n 0, 1) := by decide +kernel
theorem dX6_digest_66 : decode cX6_digest 66 = .ok (.getfield 19, 3) := by decide +kernel
theorem dX6_digest_69 : decode cX6_digest 69 = .ok (.iload_n 3, 1) := by decide +kernel
theorem dX6_digest_70 : decode cX6_digest 70 = .ok (.invokevirtual 111, 3) := by decide +kernel
theorem dX6_digest_73 : decode cX6_digest 73 = .ok (.i2l, 1) := by decide +kernel
theorem dX6_digest_74 : decode cX6_digest 74 = .ok (.ladd, 1) := by decide +kernel
theorem dX6_digest_75 : decode cX6_digest 75 = .ok (.lstore_n 1, 1) := by decide +kernel
theorem dX6_digest_76 : decode cX6_digest 76 = .ok (.ldc2_w 251, 3) := by decide +kernel
theorem dX6_digest_79 : decode cX6_digest 79 = .ok (.lload_n 1, 1) := by decide +kernel
theorem dX6_digest_80 : decode cX6_digest 80 = .ok (.lmul, 1) := by decide +kernel
theorem dX6_digest_81 : decode cX6_digest 81 = .ok (.aload_n 0, 1) := by decide +kernel
theorem dX6_digest_82 : decode cX6_digest 82 = .ok (.getfield 19, 3) := by decide +kernel
theorem dX6_digest_85 : decode cX6_digest 85 = .ok (.iload_n 3, 1) := by decide +kernel
theorem dX6_digest_86 : decode cX6_digest 86 = .ok (.invokevirtual 114, 3) := by decide +kernel
theorem dX6_digest_89 : decode cX6_digest 89 = .ok (.i2l, 1) := by decide +kernel
theorem dX6_digest_90 : decode cX6_digest 90 = .ok (.ladd, 1) := by decide +kernel
theorem dX6_digest_91 : decode cX6_digest 91 = .ok (.lstore_n 1, 1) := by decide +kernel
theorem dX6_digest_92 : decode cX6_digest 92 = .ok (.iinc 3 1, 3) := by decide +kernel
theorem dX6_digest_95 : decode cX6_digest 95 = .ok (.goto (-62), 3) := by decide +kernel
theorem dX6_digest_98 : decode cX6_digest 98 = .ok (.iconst 0, 1) := by decide +kernel
theorem dX6_digest_99 : decode cX6_digest 99 = .ok (.istore_n 3, 1) := by decide +kernel
theorem dX6_digest_100 : decode cX6_digest 100 = .ok (.iload_n 3, 1) := by decide +kernel
theorem dX6_digest_101 : decode cX6_digest 101 = .ok (.aload_n 0, 1) := by decide +kernel
theorem dX6_digest_102 : decode cX6_digest 102 = .ok (.getfield 19, 3) := by decide +kernel
theorem dX6_digest_105 : decode cX6_digest 105 = .ok (.getfield 246, 3) := by decide +kernel
theorem dX6_digest_108 : decode cX6_digest 108 = .ok (.if_icmp .ge 25, 3) := by decide +kernel
theorem dX6_digest_111 : decode cX6_digest 111 = .ok (.ldc2_w 251, 3) := by decide +kernel
theorem dX6_digest_114 : decode cX6_digest 114 = .ok (.lload_n 1, 1) := by decide +kernel
theorem dX6_digest_115 : decode cX6_digest 115 = .ok (.lmul, 1) := by decide +kernel
theorem dX6_digest_116 : decode cX6_digest 116 = .ok (.aload_n 0, 1) := by decide +kernel
theorem dX6_digest_117 : decode cX6_digest 117 = .ok (.getfield 19, 3) := by decide +kernel
theorem dX6_digest_120 : decode cX6_digest 120 = .ok (.iload_n 3, 1) := by decide +kernel
theorem dX6_digest_121 : decode cX6_digest 121 = .ok (.invokevirtual 126, 3) := by decide +kernel
theorem dX6_digest_124 : decode cX6_digest 124 = .ok (.i2l, 1) := by decide +kernel
theorem dX6_digest_125 : decode cX6_digest 125 = .ok (.ladd, 1) := by decide +kernel
theorem dX6_digest_126 : decode cX6_digest 126 = .ok (.lstore_n 1, 1) := by decide +kernel
theorem dX6_digest_127 : decode cX6_digest 127 = .ok (.iinc 3 1, 3) := by decide +kernel
theorem dX6_digest_130 : decode cX6_digest 130 = .ok (.goto (-30), 3) := by decide +kernel
theorem dX6_digest_133 : decode cX6_digest 133 = .ok (.aload_n 0, 1) := by decide +kernel
theorem dX6_digest_134 : decode cX6_digest 134 = .ok (.getfield 19, 3) := by decide +kernel
theorem dX6_digest_137 : decode cX6_digest 137 = .ok (.getfield 256, 3) := by decide +kernel
theorem dX6_digest_140 : decode cX6_digest 140 = .ok (.istore_n 3, 1) := by decide +kernel
theorem dX6_digest_141 : decode cX6_digest 141 = .ok (.ldc2_w 251, 3) := by decide +kernel
theorem dX6_digest_144 : decode cX6_digest 144 = .ok (.lload_n 1, 1) := by decide +kernel
theorem dX6_digest_145 : decode cX6_digest 145 = .ok (.lmul, 1) := by decide +kernel
theorem dX6_digest_146 : decode cX6_digest 146 = .ok (.iload_n 3, 1) := by decide +kernel
theorem dX6_digest_147 : decode cX6_digest 147 = .ok (.ifCond .eq 13, 3) := by decide +kernel
theorem dX6_digest_150 : decode cX6_digest 150 = .ok (.aload_n 0, 1) := by decide +kernel
theorem dX6_digest_151 : decode cX6_digest 151 = .ok (.getfield 19, 3) := by decide +kernel
theorem dX6_digest_154 : decode cX6_digest 154 = .ok (.getfield 129, 3) := by decide +kernel
theorem dX6_digest_157 : decode cX6_digest 157 = .ok (.goto 4, 3) := by decide +kernel
theorem dX6_digest_160 : decode cX6_digest 160 = .ok (.iconst (-1), 1) := by decide +kernel
theorem dX6_digest_161 : decode cX6_digest 161 = .ok (.i2l, 1) := by decide +kernel
theorem dX6_digest_162 : decode cX6_digest 162 = .ok (.ladd, 1) := by decide +kernel
theorem dX6_digest_163 : decode cX6_digest 163 = .ok (.lstore_n 1, 1) := by decide +kernel
theorem dX6_digest_164 : decode cX6_digest 164 = .ok (.ldc2_w 251, 3) := by decide +kernel
theorem dX6_digest_167 : decode cX6_digest 167 = .ok (.lload_n 1, 1) := by decide +kernel
theorem dX6_digest_168 : decode cX6_digest 168 = .ok (.lmul, 1) := by decide +kernel
theorem dX6_digest_169 : decode cX6_digest 169 = .ok (.iload_n 3, 1) := by decide +kernel
theorem dX6_digest_170 : decode cX6_digest 170 = .ok (.ifCond .eq 13, 3) := by decide +kernel
theorem dX6_digest_173 : decode cX6_digest 173 = .ok (.aload_n 0, 1) := by decide +kernel
theorem dX6_digest_174 : decode cX6_digest 174 = .ok (.getfield 19, 3) := by decide +kernel
theorem dX6_digest_177 : decode cX6_digest 177 = .ok (.getfield 132, 3) := by decide +kernel
theorem dX6_digest_180 : decode cX6_digest 180 = .ok (.goto 4, 3) := by decide +kernel
theorem dX6_digest_183 : decode cX6_digest 183 = .ok (.iconst (-1), 1) := by decide +kernel
theorem dX6_digest_184 : decode cX6_digest 184 = .ok (.i2l, 1) := by decide +kernel
theorem dX6_digest_185 : decode cX6_digest 185 = .ok (.ladd, 1) := by decide +kernel
theorem dX6_digest_186 : decode cX6_digest 186 = .ok (.lstore_n 1, 1) := by decide +kernel
theorem dX6_digest_187 : decode cX6_digest 187 = .ok (.ldc2_w 251, 3) := by decide +kernel
theorem dX6_digest_190 : decode cX6_digest 190 = .ok (.lload_n 1, 1) := by decide +kernel
theorem dX6_digest_191 : decode cX6_digest 191 = .ok (.lmul, 1) := by decide +kernel
theorem dX6_digest_192 : decode cX6_digest 192 = .ok (.iload_n 3, 1) := by decide +kernel
theorem dX6_digest_193 : decode cX6_digest 193 = .ok (.ifCond .eq 13, 3) := by decide +kernel
theorem dX6_digest_196 : decode cX6_digest 196 = .ok (.aload_n 0, 1) := by decide +kernel
theorem dX6_digest_197 : decode cX6_digest 197 = .ok (.getfield 19, 3) := by decide +kernel
theorem dX6_digest_200 : decode cX6_digest 200 = .ok (.getfield 135, 3) := by decide +kernel
theorem dX6_digest_203 : decode cX6_digest 203 = .ok (.goto 4, 3) := by decide +kernel
theorem dX6_digest_206 : decode cX6_digest 206 = .ok (.iconst (-1), 1) := by decide +kernel
theorem dX6_digest_207 : decode cX6_digest 207 = .ok (.i2l, 1) := by decide +kernel
theorem dX6_digest_208 : decode cX6_digest 208 = .ok (.ladd, 1) := by decide +kernel
theorem dX6_digest_209 : decode cX6_digest 209 = .ok (.lstore_n 1, 1) := by decide +kernel
theorem dX6_digest_210 : decode cX6_digest 210 = .ok (.ldc2_w 251, 3) := by decide +kernel
theorem dX6_digest_213 : decode cX6_digest 213 = .ok (.lload_n 1, 1) := by decide +kernel
theorem dX6_digest_214 : decode cX6_digest 214 = .ok (.lmul, 1) := by decide +kernel
theorem dX6_digest_215 : decode cX6_digest 215 = .ok (.iload_n 3, 1) := by decide +kernel
theorem dX6_digest_216 : decode cX6_digest 216 = .ok (.ifCond .eq 17, 3) := by decide +kernel
theorem dX6_digest_219 : decode cX6_digest 219 = .ok (.aload_n 0, 1) := by decide +kernel
theorem dX6_digest_220 : decode cX6_digest 220 = .ok (.getfield 29, 3) := by decide +kernel
theorem dX6_digest_223 : decode cX6_digest 223 = .ok (.aload_n 0, 1) := by decide +kernel
theorem dX6_digest_224 : decode cX6_digest 224 = .ok (.getfield 19, 3) := by decide +kernel
theorem dX6_digest_227 : decode cX6_digest 227 = .ok (.invokevirtual 190, 3) := by decide +kernel
theorem dX6_digest_230 : decode cX6_digest 230 = .ok (.goto 4, 3) := by decide +kernel
theorem dX6_digest_233 : decode cX6_digest 233 = .ok (.iconst (-1), 1) := by decide +kernel
theorem dX6_digest_234 : decode cX6_digest 234 = .ok (.i2l, 1) := by decide +kernel
theorem dX6_digest_235 : decode cX6_digest 235 = .ok (.ladd, 1) := by decide +kernel
theorem dX6_digest_236 : decode cX6_digest 236 = .ok (.lreturn, 1) := by decide +kernel
theorem dX6_isGate_0 : decode cX6_isGate 0 = .ok (.iload_n 1, 1) := by decide +kernel
theorem dX6_isGate_1 : decode cX6_isGate 1 = .ok (.ifCond .lt 33, 3) := by decide +kernel
theorem dX6_isGate_4 : decode cX6_isGate 4 = .ok (.iload_n 1, 1) := by decide +kernel
theorem dX6_isGate_5 : decode cX6_isGate 5 = .ok (.aload_n 0, 1) := by decide +kernel
theorem dX6_isGate_6 : decode cX6_isGate 6 = .ok (.getfield 19, 3) := by decide +kernel
theorem dX6_isGate_9 : decode cX6_isGate 9 = .ok (.getfield 256, 3) := by decide +kernel
theorem dX6_isGate_12 : decode cX6_isGate 12 = .ok (.ifCond .eq 13, 3) := by decide +kernel
theorem dX6_isGate_15 : decode cX6_isGate 15 = .ok (.aload_n 0, 1) := by decide +kernel
theorem dX6_isGate_16 : decode cX6_isGate 16 = .ok (.getfield 19, 3) := by decide +kernel
theorem dX6_isGate_19 : decode cX6_isGate 19 = .ok (.getfield 197, 3) := by decide +kernel
theorem dX6_isGate_22 : decode cX6_isGate 22 = .ok (.goto 5, 3) := by decide +kernel
theorem dX6_isGate_25 : decode cX6_isGate 25 = .ok (.bipush 12, 2) := by decide +kernel
theorem dX6_isGate_27 : decode cX6_isGate 27 = .ok (.if_icmp .ge 7, 3) := by decide +kernel
theorem dX6_isGate_30 : decode cX6_isGate 30 = .ok (.iconst 1, 1) := by decide +kernel
theorem dX6_isGate_31 : decode cX6_isGate 31 = .ok (.goto 4, 3) := by decide +kernel
theorem dX6_isGate_34 : decode cX6_isGate 34 = .ok (.iconst 0, 1) := by decide +kernel
theorem dX6_isGate_35 : decode cX6_isGate 35 = .ok (.ireturn, 1) := by decide +kernel
theorem dX6_isSignal_0 : decode cX6_isSignal 0 = .ok (.iload_n 1, 1) := by decide +kernel
theorem dX6_isSignal_1 : decode cX6_isSignal 1 = .ok (.ifCond .lt 33, 3) := by decide +kernel
theorem dX6_isSignal_4 : decode cX6_isSignal 4 = .ok (.iload_n 1, 1) := by decide +kernel
theorem dX6_isSignal_5 : decode cX6_isSignal 5 = .ok (.aload_n 0, 1) := by decide +kernel
theorem dX6_isSignal_6 : decode cX6_isSignal 6 = .ok (.getfield 19, 3) := by decide +kernel
theorem dX6_isSignal_9 : decode cX6_isSignal 9 = .ok (.getfield 256, 3) := by decide +kernel
theorem dX6_isSignal_12 : decode cX6_isSignal 12 = .ok (.ifCond .eq 13, 3) := by decide +kernel
theorem dX6_isSignal_15 : decode cX6_isSignal 15 = .ok (.aload_n 0, 1) := by decide +kernel
theorem dX6_isSignal_16 : decode cX6_isSignal 16 = .ok (.getfield 19, 3) := by decide +kernel
theorem dX6_isSignal_19 : decode cX6_isSignal 19 = .ok (.invokevirtual 260, 3) := by decide +kernel
theorem dX6_isSignal_22 : decode cX6_isSignal 22 = .ok (.goto 5, 3) := by decide +kernel
theorem dX6_isSignal_25 : decode cX6_isSignal 25 = .ok (.bipush 18, 2) := by decide +kernel
theorem dX6_isSignal_27 : decode cX6_isSignal 27 = .ok (.if_icmp .ge 7, 3) := by decide +kernel
theorem dX6_isSignal_30 : decode cX6_isSignal 30 = .ok (.iconst 1, 1) := by decide +kernel
theorem dX6_isSignal_31 : decode cX6_isSignal 31 = .ok (.goto 4, 3) := by decide +kernel
theorem dX6_isSignal_34 : decode cX6_isSignal 34 = .ok (.iconst 0, 1) := by decide +kernel
theorem dX6_isSignal_35 : decode cX6_isSignal 35 = .ok (.ireturn, 1) := by decide +kernel
theorem dX6_isAhead_0 : decode cX6_isAhead 0 = .ok (.iload_n 2, 1) := by decide +kernel
theorem dX6_isAhead_1 : decode cX6_isAhead 1 = .ok (.ifCond .lt 35, 3) := by decide +kernel
theorem dX6_isAhead_4 : decode cX6_isAhead 4 = .ok (.iload_n 2, 1) := by decide +kernel
theorem dX6_isAhead_5 : decode cX6_isAhead 5 = .ok (.aload_n 0, 1) := by decide +kernel
theorem dX6_isAhead_6 : decode cX6_isAhead 6 = .ok (.getfield 19, 3) := by decide +kernel
theorem dX6_isAhead_9 : decode cX6_isAhead 9 = .ok (.getfield 256, 3) := by decide +kernel
theorem dX6_isAhead_12 : decode cX6_isAhead 12 = .ok (.ifCond .eq 15, 3) := by decide +kernel
theorem dX6_isAhead_15 : decode cX6_isAhead 15 = .ok (.aload_n 0, 1) := by decide +kernel
theorem dX6_isAhead_16 : decode cX6_isAhead 16 = .ok (.getfield 19, 3) := by decide +kernel
theorem dX6_isAhead_19 : decode cX6_isAhead 19 = .ok (.getfield 117, 3) := by decide +kernel
theorem dX6_isAhead_22 : decode cX6_isAhead 22 = .ok (.iload_n 1, 1) := by decide +kernel
theorem dX6_isAhead_23 : decode cX6_isAhead 23 = .ok (.iadd, 1) := by decide +kernel
theorem dX6_isAhead_24 : decode cX6_isAhead 24 = .ok (.goto 5, 3) := by decide +kernel
theorem dX6_isAhead_27 : decode cX6_isAhead 27 = .ok (.bipush 18, 2) := by decide +kernel
theorem dX6_isAhead_29 : decode cX6_isAhead 29 = .ok (.if_icmp .ge 7, 3) := by decide +kernel
theorem dX6_isAhead_32 : decode cX6_isAhead 32 = .ok (.iconst 1, 1) := by decide +kernel
theorem dX6_isAhead_33 : decode cX6_isAhead 33 = .ok (.goto 4, 3) := by decide +kernel
theorem dX6_isAhead_36 : decode cX6_isAhead 36 = .ok (.iconst 0, 1) := by decide +kernel
theorem dX6_isAhead_37 : decode cX6_isAhead 37 = .ok (.ireturn, 1) := by decide +kernel
theorem dX6_isWay_0 : decode cX6_isWay 0 = .ok (.iload_n 2, 1) := by decide +kernel
theorem dX6_isWay_1 : decode cX6_isWay 1 = .ok (.ifCond .eq 29, 3) := by decide +kernel
theorem dX6_isWay_4 : decode cX6_isWay 4 = .ok (.iload_n 2, 1) := by decide +kernel
theorem dX6_isWay_5 : decode cX6_isWay 5 = .ok (.iconst 1, 1) := by decide +kernel
theorem dX6_isWay_6 : decode cX6_isWay 6 = .ok (.if_icmp .ne 28, 3) := by decide +kernel
theorem dX6_isWay_9 : decode cX6_isWay 9 = .ok (.aload_n 0, 1) := by decide +kernel
theorem dX6_isWay_10 : decode cX6_isWay 10 = .ok (.getfield 19, 3) := by decide +kernel
theorem dX6_isWay_13 : decode cX6_isWay 13 = .ok (.getfield 256, 3) := by decide +kernel
theorem dX6_isWay_16 : decode cX6_isWay 16 = .ok (.ifCond .eq 14, 3) := by decide +kernel
theorem dX6_isWay_19 : decode cX6_isWay 19 = .ok (.aload_n 0, 1) := by decide +kernel
theorem dX6_isWay_20 : decode cX6_isWay 20 = .ok (.getfield 19, 3) := by decide +kernel
theorem dX6_isWay_23 : decode cX6_isWay 23 = .ok (.iload_n 1, 1) := by decide +kernel
theorem dX6_isWay_24 : decode cX6_isWay 24 = .ok (.invokevirtual 84, 3) := by decide +kernel
theorem dX6_isWay_27 : decode cX6_isWay 27 = .ok (.ifCond .eq 7, 3) := by decide +kernel
theorem dX6_isWay_30 : decode cX6_isWay 30 = .ok (.iconst 1, 1) := by decide +kernel
theorem dX6_isWay_31 : decode cX6_isWay 31 = .ok (.goto 4, 3) := by decide +kernel
theorem dX6_isWay_34 : decode cX6_isWay 34 = .ok (.iconst 0, 1) := by decide +kernel
theorem dX6_isWay_35 : decode cX6_isWay 35 = .ok (.ireturn, 1) := by decide +kernel
theorem dX6_isPlace_0 : decode cX6_isPlace 0 = .ok (.iload_n 1, 1) := by decide +kernel
theorem dX6_isPlace_1 : decode cX6_isPlace 1 = .ok (.ifCond .lt 33, 3) := by decide +kernel
theorem dX6_isPlace_4 : decode cX6_isPlace 4 = .ok (.iload_n 1, 1) := by decide +kernel
theorem dX6_isPlace_5 : decode cX6_isPlace 5 = .ok (.aload_n 0, 1) := by decide +kernel
theorem dX6_isPlace_6 : decode cX6_isPlace 6 = .ok (.getfield 19, 3) := by decide +kernel
theorem dX6_isPlace_9 : decode cX6_isPlace 9 = .ok (.getfield 256, 3) := by decide +kernel
theorem dX6_isPlace_12 : decode cX6_isPlace 12 = .ok (.ifCond .eq 13, 3) := by decide +kernel
theorem dX6_isPlace_15 : decode cX6_isPlace 15 = .ok (.aload_n 0, 1) := by decide +kernel
theorem dX6_isPlace_16 : decode cX6_isPlace 16 = .ok (.getfield 19, 3) := by decide +kernel
theorem dX6_isPlace_19 : decode cX6_isPlace 19 = .ok (.getfield 246, 3) := by decide +kernel
theorem dX6_isPlace_22 : decode cX6_isPlace 22 = .ok (.goto 5, 3) := by decide +kernel
theorem dX6_isPlace_25 : decode cX6_isPlace 25 = .ok (.bipush 7, 2) := by decide +kernel
theorem dX6_isPlace_27 : decode cX6_isPlace 27 = .ok (.if_icmp .ge 7, 3) := by decide +kernel
theorem dX6_isPlace_30 : decode cX6_isPlace 30 = .ok (.iconst 1, 1) := by decide +kernel
theorem dX6_isPlace_31 : decode cX6_isPlace 31 = .ok (.goto 4, 3) := by decide +kernel
theorem dX6_isPlace_34 : decode cX6_isPlace 34 = .ok (.iconst 0, 1) := by decide +kernel
theorem dX6_isPlace_35 : decode cX6_isPlace 35 = .ok (.ireturn, 1) := by decide +kernel
theorem dX6_isStage_0 : decode cX6_isStage 0 = .ok (.iload_n 1, 1) := by decide +kernel
theorem dX6_isStage_1 : decode cX6_isStage 1 = .ok (.ifCond .lt 33, 3) := by decide +kernel
theorem dX6_isStage_4 : decode cX6_isStage 4 = .ok (.iload_n 1, 1) := by decide +kernel
theorem dX6_isStage_5 : decode cX6_isStage 5 = .ok (.aload_n 0, 1) := by decide +kernel
theorem dX6_isStage_6 : decode cX6_isStage 6 = .ok (.getfield 19, 3) := by decide +kernel
theorem dX6_isStage_9 : decode cX6_isStage 9 = .ok (.getfield 256, 3) := by decide +kernel
theorem dX6_isStage_12 : decode cX6_isStage 12 = .ok (.ifCond .eq 13, 3) := by decide +kernel
theorem dX6_isStage_15 : decode cX6_isStage 15 = .ok (.aload_n 0, 1) := by decide +kernel
theorem dX6_isStage_16 : decode cX6_isStage 16 = .ok (.getfield 19, 3) := by decide +kernel
theorem dX6_isStage_19 : decode cX6_isStage 19 = .ok (.getfield 197, 3) := by decide +kernel
theorem dX6_isStage_22 : decode cX6_isStage 22 = .ok (.goto 5, 3) := by decide +kernel
theorem dX6_isStage_25 : decode cX6_isStage 25 = .ok (.bipush 12, 2) := by decide +kernel
theorem dX6_isStage_27 : decode cX6_isStage 27 = .ok (.if_icmp .gt 7, 3) := by decide +kernel
theorem dX6_isStage_30 : decode cX6_isStage 30 = .ok (.iconst 1, 1) := by decide +kernel
theorem dX6_isStage_31 : decode cX6_isStage 31 = .ok (.goto 4, 3) := by decide +kernel
theorem dX6_isStage_34 : decode cX6_isStage 34 = .ok (.iconst 0, 1) := by decide +kernel
theorem dX6_isStage_35 : decode cX6_isStage 35 = .ok (.ireturn, 1) := by decide +kernel
theorem dX6_isInputs_0 : decode cX6_isInputs 0 = .ok (.iload_n 1, 1) := by decide +kernel
theorem dX6_isInputs_1 : decode cX6_isInputs 1 = .ok (.ifCond .lt 35, 3) := by decide +kernel
theorem dX6_isInputs_4 : decode cX6_isInputs 4 = .ok (.iload_n 1, 1) := by decide +kernel
theorem dX6_isInputs_5 : decode cX6_isInputs 5 = .ok (.iconst 1, 1) := by decide +kernel
theorem dX6_isInputs_6 : decode cX6_isInputs 6 = .ok (.aload_n 0, 1) := by decide +kernel
theorem dX6_isInputs_7 : decode cX6_isInputs 7 = .ok (.getfield 19, 3) := by decide +kernel
theorem dX6_isInputs_10 : decode cX6_isInputs 10 = .ok (.getfield 256, 3) := by decide +kernel
theorem dX6_isInputs_13 : decode cX6_isInputs 13 = .ok (.ifCond .eq 13, 3) := by decide +kernel
theorem dX6_isInputs_16 : decode cX6_isInputs 16 = .ok (.aload_n 0, 1) := by decide +kernel
theorem dX6_isInputs_17 : decode cX6_isInputs 17 = .ok (.getfield 19, 3) := by decide +kernel
theorem dX6_isInputs_20 : decode cX6_isInputs 20 = .ok (.getfield 117, 3) := by decide +kernel
theorem dX6_isInputs_23 : decode cX6_isInputs 23 = .ok (.goto 5, 3) := by decide +kernel
theorem dX6_isInputs_26 : decode cX6_isInputs 26 = .ok (.bipush 6, 2) := by decide +kernel
theorem dX6_isInputs_28 : decode cX6_isInputs 28 = .ok (.ishl, 1) := by decide +kernel
theorem dX6_isInputs_29 : decode cX6_isInputs 29 = .ok (.if_icmp .ge 7, 3) := by decide +kernel
theorem dX6_isInputs_32 : decode cX6_isInputs 32 = .ok (.iconst 1, 1) := by decide +kernel
theorem dX6_isInputs_33 : decode cX6_isInputs 33 = .ok (.goto 4, 3) := by decide +kernel
theorem dX6_isInputs_36 : decode cX6_isInputs 36 = .ok (.iconst 0, 1) := by decide +kernel
theorem dX6_isInputs_37 : decode cX6_isInputs 37 = .ok (.ireturn, 1) := by decide +kernel
theorem dX6_refused_0 : decode cX6_refused 0 = .ok (.iload_n 1, 1) := by decide +kernel
theorem dX6_refused_1 : decode cX6_refused 1 = .ok (.bipush (-2), 2) := by decide +kernel
theorem dX6_refused_3 : decode cX6_refused 3 = .ok (.if_icmp .ne 16, 3) := by decide +kernel
theorem dX6_refused_6 : decode cX6_refused 6 = .ok (.aload_n 0, 1) := by decide +kernel
theorem dX6_refused_7 : decode cX6_refused 7 = .ok (.dup, 1) := by decide +kernel
theorem dX6_refused_8 : decode cX6_refused 8 = .ok (.getfield 237, 3) := by decide +kernel
theorem dX6_refused_11 : decode cX6_refused 11 = .ok (.iconst 1, 1) := by decide +kernel
theorem dX6_refused_12 : decode cX6_refused 12 = .ok (.iadd, 1) := by decide +kernel
theorem dX6_refused_13 : decode cX6_refused 13 = .ok (.putfield 237, 3) := by decide +kernel
theorem dX6_refused_16 : decode cX6_refused 16 = .ok (.goto 32, 3) := by decide +kernel
theorem dX6_refused_19 : decode cX6_refused 19 = .ok (.iload_n 1, 1) := by decide +kernel
theorem dX6_refused_20 : decode cX6_refused 20 = .ok (.bipush (-3), 2) := by decide +kernel
theorem dX6_refused_22 : decode cX6_refused 22 = .ok (.if_icmp .ne 16, 3) := by decide +kernel
theorem dX6_refused_25 : decode cX6_refused 25 = .ok (.aload_n 0, 1) := by decide +kernel
theorem dX6_refused_26 : decode cX6_refused 26 = .ok (.dup, 1) := by decide +kernel
theorem dX6_refused_27 : decode cX6_refused 27 = .ok (.getfield 240, 3) := by decide +kernel
theorem dX6_refused_30 : decode cX6_refused 30 = .ok (.iconst 1, 1) := by decide +kernel
theorem dX6_refused_31 : decode cX6_refused 31 = .ok (.iadd, 1) := by decide +kernel
theorem dX6_refused_32 : decode cX6_refused 32 = .ok (.putfield 240, 3) := by decide +kernel
theorem dX6_refused_35 : decode cX6_refused 35 = .ok (.goto 13, 3) := by decide +kernel
theorem dX6_refused_38 : decode cX6_refused 38 = .ok (.aload_n 0, 1) := by decide +kernel
theorem dX6_refused_39 : decode cX6_refused 39 = .ok (.dup, 1) := by decide +kernel
theorem dX6_refused_40 : decode cX6_refused 40 = .ok (.getfield 243, 3) := by decide +kernel
theorem dX6_refused_43 : decode cX6_refused 43 = .ok (.iconst 1, 1) := by decide +kernel
theorem dX6_refused_44 : decode cX6_refused 44 = .ok (.iadd, 1) := by decide +kernel
theorem dX6_refused_45 : decode cX6_refused 45 = .ok (.putfield 243, 3) := by decide +kernel
theorem dX6_refused_48 : decode cX6_refused 48 = .ok (.iload_n 1, 1) := by decide +kernel
theorem dX6_refused_49 : decode cX6_refused 49 = .ok (.ireturn, 1) := by decide +kernel
theorem dX6_refusal_0 : decode cX6_refusal 0 = .ok (.iload_n 1, 1) := by decide +kernel
theorem dX6_refusal_1 : decode cX6_refusal 1 = .ok (.ifCond .ne 10, 3) := by decide +kernel
theorem dX6_refusal_4 : decode cX6_refusal 4 = .ok (.aload_n 0, 1) := by decide +kernel
theorem dX6_refusal_5 : decode cX6_refusal 5 = .ok (.bipush (-2), 2) := by decide +kernel
theorem dX6_refusal_7 : decode cX6_refusal 7 = .ok (.invokevirtual 43, 3) := by decide +kernel
theorem dX6_refusal_10 : decode cX6_refusal 10 = .ok (.ireturn, 1) := by decide +kernel
theorem dX6_refusal_11 : decode cX6_refusal 11 = .ok (.aload_n 0, 1) := by decide +kernel
theorem dX6_refusal_12 : decode cX6_refusal 12 = .ok (.getfield 19, 3) := by decide +kernel
theorem dX6_refusal_15 : decode cX6_refusal 15 = .ok (.getfield 256, 3) := by decide +kernel
theorem dX6_refusal_18 : decode cX6_refusal 18 = .ok (.ifCond .eq 7, 3) := by decide +kernel
theorem dX6_refusal_21 : decode cX6_refusal 21 = .ok (.iconst 0, 1) := by decide +kernel
theorem dX6_refusal_22 : decode cX6_refusal 22 = .ok (.goto 9, 3) := by decide +kernel
theorem dX6_refusal_25 : decode cX6_refusal 25 = .ok (.aload_n 0, 1) := by decide +kernel
theorem dX6_refusal_26 : decode cX6_refusal 26 = .ok (.bipush (-3), 2) := by decide +kernel
theorem dX6_refusal_28 : decode cX6_refusal 28 = .ok (.invokevirtual 43, 3) := by decide +kernel
theorem dX6_refusal_31 : decode cX6_refusal 31 = .ok (.ireturn, 1) := by decide +kernel
theorem dX6_stageRefusal_0 : decode cX6_stageRefusal 0 = .ok (.aload_n 0, 1) := by decide +kernel
theorem dX6_stageRefusal_1 : decode cX6_stageRefusal 1 = .ok (.iload_n 1, 1) := by decide +kernel
theorem dX6_stageRefusal_2 : decode cX6_stageRefusal 2 = .ok (.invokevirtual 80, 3) := by decide +kernel
theorem dX6_stageRefusal_5 : decode cX6_stageRefusal 5 = .ok (.istore_n 3, 1) := by decide +kernel
theorem dX6_stageRefusal_6 : decode cX6_stageRefusal 6 = .ok (.iload_n 3, 1) := by decide +kernel
theorem dX6_stageRefusal_7 : decode cX6_stageRefusal 7 = .ok (.ifCond .eq 5, 3) := by decide +kernel
theorem dX6_stageRefusal_10 : decode cX6_stageRefusal 10 = .ok (.iload_n 3, 1) := by decide +kernel
theorem dX6_stageRefusal_11 : decode cX6_stageRefusal 11 = .ok (.ireturn, 1) := by decide +kernel
theorem dX6_stageRefusal_12 : decode cX6_stageRefusal 12 = .ok (.aload_n 0, 1) := by decide +kernel
theorem dX6_stageRefusal_13 : decode cX6_stageRefusal 13 = .ok (.getfield 39, 3) := by decide +kernel
theorem dX6_stageRefusal_16 : decode cX6_stageRefusal 16 = .ok (.aload_n 0, 1) := by decide +kernel
theorem dX6_stageRefusal_17 : decode cX6_stageRefusal 17 = .ok (.getfield 19, 3) := by decide +kernel
theorem dX6_stageRefusal_20 : decode cX6_stageRefusal 20 = .ok (.iload_n 2, 1) := by decide +kernel
theorem dX6_stageRefusal_21 : decode cX6_stageRefusal 21 = .ok (.invokevirtual 263, 3) := by decide +kernel
theorem dX6_stageRefusal_24 : decode cX6_stageRefusal 24 = .ok (.ifCond .eq 7, 3) := by decide +kernel
theorem dX6_stageRefusal_27 : decode cX6_stageRefusal 27 = .ok (.iconst 0, 1) := by decide +kernel
theorem dX6_stageRefusal_28 : decode cX6_stageRefusal 28 = .ok (.goto 9, 3) := by decide +kernel
theorem dX6_stageRefusal_31 : decode cX6_stageRefusal 31 = .ok (.aload_n 0, 1) := by decide +kernel
theorem dX6_stageRefusal_32 : decode cX6_stageRefusal 32 = .ok (.bipush (-4), 2) := by decide +kernel
theorem dX6_stageRefusal_34 : decode cX6_stageRefusal 34 = .ok (.invokevirtual 43, 3) := by decide +kernel
theorem dX6_stageRefusal_37 : decode cX6_stageRefusal 37 = .ok (.ireturn, 1) := by decide +kernel
theorem dX6_changed_0 : decode cX6_changed 0 = .ok (.aload_n 0, 1) := by decide +kernel
theorem dX6_changed_1 : decode cX6_changed 1 = .ok (.getfield 29, 3) := by decide +kernel
theorem dX6_changed_4 : decode cX6_changed 4 = .ok (.aload_n 0, 1) := by decide +kernel
theorem dX6_changed_5 : decode cX6_changed 5 = .ok (.getfield 19, 3) := by decide +kernel
theorem dX6_changed_8 : decode cX6_changed 8 = .ok (.iconst (-1), 1) := by decide +kernel
theorem dX6_changed_9 : decode cX6_changed 9 = .ok (.iconst (-1), 1) := by decide +kernel
theorem dX6_changed_10 : decode cX6_changed 10 = .ok (.invokevirtual 193, 3) := by decide +kernel
theorem dX6_changed_13 : decode cX6_changed 13 = .ok (.aload_n 0, 1) := by decide +kernel
theorem dX6_changed_14 : decode cX6_changed 14 = .ok (.getfield 39, 3) := by decide +kernel
theorem dX6_changed_17 : decode cX6_changed 17 = .ok (.invokevirtual 267, 3) := by decide +kernel
theorem dX6_changed_20 : decode cX6_changed 20 = .ok (.aload_n 0, 1) := by decide +kernel
theorem dX6_changed_21 : decode cX6_changed 21 = .ok (.getfield 19, 3) := by decide +kernel
theorem dX6_changed_24 : decode cX6_changed 24 = .ok (.getfield 197, 3) := by decide +kernel
theorem dX6_changed_27 : decode cX6_changed 27 = .ok (.ireturn, 1) := by decide +kernel
theorem dX6_at_0 : decode cX6_at 0 = .ok (.iload_n 1, 1) := by decide +kernel
theorem dX6_at_1 : decode cX6_at 1 = .ok (.ifCond .lt 15, 3) := by decide +kernel
theorem dX6_at_4 : decode cX6_at 4 = .ok (.iload_n 1, 1) := by decide +kernel
theorem dX6_at_5 : decode cX6_at 5 = .ok (.aload_n 0, 1) := by decide +kernel
theorem dX6_at_6 : decode cX6_at 6 = .ok (.arraylength, 1) := by decide +kernel
theorem dX6_at_7 : decode cX6_at 7 = .ok (.if_icmp .ge 9, 3) := by decide +kernel
theorem dX6_at_10 : decode cX6_at 10 = .ok (.aload_n 0, 1) := by decide +kernel
theorem dX6_at_11 : decode cX6_at 11 = .ok (.iload_n 1, 1) := by decide +kernel
theorem dX6_at_12 : decode cX6_at 12 = .ok (.iaload, 1) := by decide +kernel
theorem dX6_at_13 : decode cX6_at 13 = .ok (.goto 4, 3) := by decide +kernel
theorem dX6_at_16 : decode cX6_at 16 = .ok (.iconst (-1), 1) := by decide +kernel
theorem dX6_at_17 : decode cX6_at 17 = .ok (.ireturn, 1) := by decide +kernel
theorem dX6_put_0 : decode cX6_put 0 = .ok (.iload_n 1, 1) := by decide +kernel
theorem dX6_put_1 : decode cX6_put 1 = .ok (.ifCond .lt 13, 3) := by decide +kernel
theorem dX6_put_4 : decode cX6_put 4 = .ok (.iload_n 1, 1) := by decide +kernel
theorem dX6_put_5 : decode cX6_put 5 = .ok (.aload_n 0, 1) := by decide +kernel
theorem dX6_put_6 : decode cX6_put 6 = .ok (.arraylength, 1) := by decide +kernel
theorem dX6_put_7 : decode cX6_put 7 = .ok (.if_icmp .ge 7, 3) := by decide +kernel
theorem dX6_put_10 : decode cX6_put 10 = .ok (.aload_n 0, 1) := by decide +kernel
theorem dX6_put_11 : decode cX6_put 11 = .ok (.iload_n 1, 1) := by decide +kernel
theorem dX6_put_12 : decode cX6_put 12 = .ok (.iload_n 2, 1) := by decide +kernel
theorem dX6_put_13 : decode cX6_put 13 = .ok (.iastore, 1) := by decide +kernel
theorem dX6_put_14 : decode cX6_put 14 = .ok (.return_, 1) := by decide +kernel
theorem dX6_leftOver_0 : decode cX6_leftOver 0 = .ok (.iload_n 2, 1) := by decide +kernel
theorem dX6_leftOver_1 : decode cX6_leftOver 1 = .ok (.ifCond .le 11, 3) := by decide +kernel
theorem dX6_leftOver_4 : decode cX6_leftOver 4 = .ok (.lload_n 0, 1) := by decide +kernel
theorem dX6_leftOver_5 : decode cX6_leftOver 5 = .ok (.iload_n 2, 1) := by decide +kernel
theorem dX6_leftOver_6 : decode cX6_leftOver 6 = .ok (.i2l, 1) := by decide +kernel
theorem dX6_leftOver_7 : decode cX6_leftOver 7 = .ok (.lrem, 1) := by decide +kernel
theorem dX6_leftOver_8 : decode cX6_leftOver 8 = .ok (.l2i, 1) := by decide +kernel
theorem dX6_leftOver_9 : decode cX6_leftOver 9 = .ok (.goto 4, 3) := by decide +kernel
theorem dX6_leftOver_12 : decode cX6_leftOver 12 = .ok (.iconst 0, 1) := by decide +kernel
theorem dX6_leftOver_13 : decode cX6_leftOver 13 = .ok (.ireturn, 1) := by decide +kernel
theorem dX6_setOf_0 : decode cX6_setOf 0 = .ok (.iload_n 0, 1) := by decide +kernel
theorem dX6_setOf_1 : decode cX6_setOf 1 = .ok (.ifCond .lt 15, 3) := by decide +kernel
theorem dX6_setOf_4 : decode cX6_setOf 4 = .ok (.iload_n 0, 1) := by decide +kernel
theorem dX6_setOf_5 : decode cX6_setOf 5 = .ok (.bipush 18, 2) := by decide +kernel
theorem dX6_setOf_7 : decode cX6_setOf 7 = .ok (.if_icmp .ge 9, 3) := by decide +kernel
theorem dX6_setOf_10 : decode cX6_setOf 10 = .ok (.iconst 1, 1) := by decide +kernel
theorem dX6_setOf_11 : decode cX6_setOf 11 = .ok (.iload_n 0, 1) := by decide +kernel
theorem dX6_setOf_12 : decode cX6_setOf 12 = .ok (.ishl, 1) := by decide +kernel
theorem dX6_setOf_13 : decode cX6_setOf 13 = .ok (.goto 4, 3) := by decide +kernel
theorem dX6_setOf_16 : decode cX6_setOf 16 = .ok (.iconst 0, 1) := by decide +kernel
theorem dX6_setOf_17 : decode cX6_setOf 17 = .ok (.ireturn, 1) := by decide +kernel
theorem dX7_init_0 : decode cX7_init 0 = .ok (.aload_n 0, 1) := by decide +kernel
theorem dX7_init_1 : decode cX7_init 1 = .ok (.invokespecial 1, 3) := by decide +kernel
theorem dX7_init_4 : decode cX7_init 4 = .ok (.aload_n 0, 1) := by decide +kernel
theorem dX7_init_5 : decode cX7_init 5 = .ok (.bipush 49, 2) := by decide +kernel
theorem dX7_init_7 : decode cX7_init 7 = .ok (.newarray .int, 2) := by decide +kernel
theorem dX7_init_9 : decode cX7_init 9 = .ok (.putfield 7, 3) := by decide +kernel
theorem dX7_init_12 : decode cX7_init 12 = .ok (.aload_n 0, 1) := by decide +kernel
theorem dX7_init_13 : decode cX7_init 13 = .ok (.bipush 49, 2) := by decide +kernel
theorem dX7_init_15 : decode cX7_init 15 = .ok (.newarray .int, 2) := by decide +kernel
theorem dX7_init_17 : decode cX7_init 17 = .ok (.putfield 13, 3) := by decide +kernel
theorem dX7_init_20 : decode cX7_init 20 = .ok (.aload_n 0, 1) := by decide +kernel
theorem dX7_init_21 : decode cX7_init 21 = .ok (.iconst 3, 1) := by decide +kernel
theorem dX7_init_22 : decode cX7_init 22 = .ok (.newarray .int, 2) := by decide +kernel
theorem dX7_init_24 : decode cX7_init 24 = .ok (.putfield 16, 3) := by decide +kernel
theorem dX7_init_27 : decode cX7_init 27 = .ok (.aload_n 0, 1) := by decide +kernel
theorem dX7_init_28 : decode cX7_init 28 = .ok (.bipush 120, 2) := by decide +kernel
theorem dX7_init_30 : decode cX7_init 30 = .ok (.newarray .int, 2) := by decide +kernel
theorem dX7_init_32 : decode cX7_init 32 = .ok (.putfield 19, 3) := by decide +kernel
theorem dX7_init_35 : decode cX7_init 35 = .ok (.aload_n 0, 1) := by decide +kernel
theorem dX7_init_36 : decode cX7_init 36 = .ok (.bipush 73, 2) := by decide +kernel
theorem dX7_init_38 : decode cX7_init 38 = .ok (.newarray .char, 2) := by decide +kernel
theorem dX7_init_40 : decode cX7_init 40 = .ok (.dup, 1) := by decide +kernel
theorem dX7_init_41 : decode cX7_init 41 = .ok (.iconst 0, 1) := by decide +kernel
theorem dX7_init_42 : decode cX7_init 42 = .ok (.bipush 110, 2) := by decide +kernel
theorem dX7_init_44 : decode cX7_init 44 = .ok (.castore, 1) := by decide +kernel
theorem dX7_init_45 : decode cX7_init 45 = .ok (.dup, 1) := by decide +kernel
theorem dX7_init_46 : decode cX7_init 46 = .ok (.iconst 1, 1) := by decide +kernel
theorem dX7_init_47 : decode cX7_init 47 = .ok (.bipush 111, 2) := by decide +kernel
theorem dX7_init_49 : decode cX7_init 49 = .ok (.castore, 1) := by decide +kernel
theorem dX7_init_50 : decode cX7_init 50 = .ok (.dup, 1) := by decide +kernel
theorem dX7_init_51 : decode cX7_init 51 = .ok (.iconst 2, 1) := by decide +kernel
theorem dX7_init_52 : decode cX7_init 52 = .ok (.bipush 116, 2) := by decide +kernel
theorem dX7_init_54 : decode cX7_init 54 = .ok (.castore, 1) := by decide +kernel
theorem dX7_init_55 : decode cX7_init 55 = .ok (.dup, 1) := by decide +kernel
theorem dX7_init_56 : decode cX7_init 56 = .ok (.iconst 3, 1) := by decide +kernel
theorem dX7_init_57 : decode cX7_init 57 = .ok (.bipush 32, 2) := by decide +kernel
theorem dX7_init_59 : decode cX7_init 59 = .ok (.castore, 1) := by decide +kernel
theorem dX7_init_60 : decode cX7_init 60 = .ok (.dup, 1) := by decide +kernel
theorem dX7_init_61 : decode cX7_init 61 = .ok (.iconst 4, 1) := by decide +kernel
theorem dX7_init_62 : decode cX7_init 62 = .ok (.bipush 97, 2) := by decide +kernel
theorem dX7_init_64 : decode cX7_init 64 = .ok (.castore, 1) := by decide +kernel
theorem dX7_init_65 : decode cX7_init 65 = .ok (.dup, 1) := by decide +kernel
theorem dX7_init_66 : decode cX7_init 66 = .ok (.iconst 5, 1) := by decide +kernel
theorem dX7_init_67 : decode cX7_init 67 = .ok (.bipush 110, 2) := by decide +kernel
theorem dX7_init_69 : decode cX7_init 69 = .ok (.castore, 1) := by decide +kernel
theorem dX7_init_70 : decode cX7_init 70 = .ok (.dup, 1) := by decide +kernel
theorem dX7_init_71 : decode cX7_init 71 = .ok (.bipush 6, 2) := by decide +kernel
theorem dX7_init_73 : decode cX7_init 73 = .ok (.bipush 100, 2) := by decide +kernel
theorem dX7_init_75 : decode cX7_init 75 = .ok (.castore, 1) := by decide +kernel
theorem dX7_init_76 : decode cX7_init 76 = .ok (.dup, 1) := by decide +kernel
theorem dX7_init_77 : decode cX7_init 77 = .ok (.bipush 7, 2) := by decide +kernel
theorem dX7_init_79 : decode cX7_init 79 = .ok (.bipush 32, 2) := by decide +kernel
theorem dX7_init_81 : decode cX7_init 81 = .ok (.castore, 1) := by decide +kernel
theorem dX7_init_82 : decode cX7_init 82 = .ok (.dup, 1) := by decide +kernel
theorem dX7_init_83 : decode cX7_init 83 = .ok (.bipush 8, 2) := by decide +kernel
theorem dX7_init_85 : decode cX7_init 85 = .ok (.bipush 111, 2) := by decide +kernel
theorem dX7_init_87 : decode cX7_init 87 = .ok (.castore, 1) := by decide +kernel
theorem dX7_init_88 : decode cX7_init 88 = .ok (.dup, 1) := by decide +kernel
theorem dX7_init_89 : decode cX7_init 89 = .ok (.bipush 9, 2) := by decide +kernel
theorem dX7_init_91 : decode cX7_init 91 = .ok (.bipush 114, 2) := by decide +kernel
theorem dX7_init_93 : decode cX7_init 93 = .ok (.castore, 1) := by decide +kernel
theorem dX7_init_94 : decode cX7_init 94 = .ok (.dup, 1) := by decide +kernel
theorem dX7_init_95 : decode cX7_init 95 = .ok (.bipush 10, 2) := by decide +kernel
theorem dX7_init_97 : decode cX7_init 97 = .ok (.bipush 32, 2) := by decide +kernel
theorem dX7_init_99 : decode cX7_init 99 = .ok (.castore, 1) := by decide +kernel
theorem dX7_init_100 : decode cX7_init 100 = .ok (.dup, 1) := by decide +kernel
theorem dX7_init_101 : decode cX7_init 101 = .ok (.bipush 11, 2) := by decide +kernel
theorem dX7_init_103 : decode cX7_init 103 = .ok (.bipush 120, 2) := by decide +kernel
theorem dX7_init_105 : decode cX7_init 105 = .ok (.castore, 1) := by decide +kernel
theorem dX7_init_106 : decode cX7_init 106 = .ok (.dup, 1) := by decide +kernel
theorem dX7_init_107 : decode cX7_init 107 = .ok (.bipush 12, 2) := by decide +kernel
theorem dX7_init_109 : decode cX7_init 109 = .ok (.bipush 111, 2) := by decide +kernel
theorem dX7_init_111 : decode cX7_init 111 = .ok (.castore, 1) := by decide +kernel
theorem dX7_init_112 : decode cX7_init 112 = .ok (.dup, 1) := by decide +kernel
theorem dX7_init_113 : decode cX7_init 113 = .ok (.bipush 13, 2) := by decide +kernel
theorem dX7_init_115 : decode cX7_init 115 = .ok (.bipush 114, 2) := by decide +kernel
theorem dX7_init_117 : decode cX7_init 117 = .ok (.castore, 1) := by decide +kernel
theorem dX7_init_118 : decode cX7_init 118 = .ok (.dup, 1) := by decide +kernel
theorem dX7_init_119 : decode cX7_init 119 = .ok (.bipush 14, 2) := by decide +kernel
theorem dX7_init_121 : decode cX7_init 121 = .ok (.bipush 32, 2) := by decide +kernel
theorem dX7_init_123 : decode cX7_init 123 = .ok (.castore, 1) := by decide +kernel
theorem dX7_init_124 : decode cX7_init 124 = .ok (.dup, 1) := by decide +kernel
theorem dX7_init_125 : decode cX7_init 125 = .ok (.bipush 15, 2) := by decide +kernel
theorem dX7_init_127 : decode cX7_init 127 = .ok (.bipush 110, 2) := by decide +kernel
theorem dX7_init_129 : decode cX7_init 129 = .ok (.castore, 1) := by decide +kernel
theorem dX7_init_130 : decode cX7_init 130 = .ok (.dup, 1) := by decide +kernel
theorem dX7_init_131 : decode cX7_init 131 = .ok (.bipush 16, 2) := by decide +kernel
theorem dX7_init_133 : decode cX7_init 133 = .ok (.bipush 97, 2) := by decide +kernel
theorem dX7_init_135 : decode cX7_init 135 = .ok (.castore, 1) := by decide +kernel
theorem dX7_init_136 : decode cX7_init 136 = .ok (.dup, 1) := by decide +kernel
theorem dX7_init_137 : decode cX7_init 137 = .ok (.bipush 17, 2) := by decide +kernel
theorem dX7_init_139 : decode cX7_init 139 = .ok (.bipush 110, 2) := by decide +kernel
theorem dX7_init_141 : decode cX7_init 141 = .ok (.castore, 1) := by decide +kernel
theorem dX7_init_142 : decode cX7_init 142 = .ok (.dup, 1) := by decide +kernel
theorem dX7_init_143 : decode cX7_init 143 = .ok (.bipush 18, 2) := by decide +kernel
theorem dX7_init_145 : decode cX7_init 145 = .ok (.bipush 100, 2) := by decide +kernel
theorem dX7_init_147 : decode cX7_init 147 = .ok (.castore, 1) := by decide +kernel
theorem dX7_init_148 : decode cX7_init 148 = .ok (.dup, 1) := by decide +kernel
theorem dX7_init_149 : decode cX7_init 149 = .ok (.bipush 19, 2) := by decide +kernel
theorem dX7_init_151 : decode cX7_init 151 = .ok (.bipush 32, 2) := by decide +kernel
theorem dX7_init_153 : decode cX7_init 153 = .ok (.castore, 1) := by decide +kernel
theorem dX7_init_154 : decode cX7_init 154 = .ok (.dup, 1) := by decide +kernel
theorem dX7_init_155 : decode cX7_init 155 = .ok (.bipush 20, 2) := by decide +kernel
theorem dX7_init_157 : decode cX7_init 157 = .ok (.bipush 110, 2) := by decide +kernel
theorem dX7_init_159 : decode cX7_init 159 = .ok (.castore, 1) := by decide +kernel
theorem dX7_init_160 : decode cX7_init 160 = .ok (.dup, 1) := by decide +kernel
theorem dX7_init_161 : decode cX7_init 161 = .ok (.bipush 21, 2) := by decide +kernel
theorem dX7_init_163 : decode cX7_init 163 = .ok (.bipush 111, 2) := by decide +kernel
theorem dX7_init_165 : decode cX7_init 165 = .ok (.castore, 1) := by decide +kernel
theorem dX7_init_166 : decode cX7_init 166 = .ok (.dup, 1) := by decide +kernel
theorem dX7_init_167 : decode cX7_init 167 = .ok (.bipush 22, 2) := by decide +kernel
theorem dX7_init_169 : decode cX7_init 169 = .ok (.bipush 114, 2) := by decide +kernel
theorem dX7_init_171 : decode cX7_init 171 = .ok (.castore, 1) := by decide +kernel
theorem dX7_init_172 : decode cX7_init 172 = .ok (.dup, 1) := by decide +kernel
theorem dX7_init_173 : decode cX7_init 173 = .ok (.bipush 23, 2) := by decide +kernel
theorem dX7_init_175 : decode cX7_init 175 = .ok (.bipush 32, 2) := by decide +kernel
theorem dX7_init_177 : decode cX7_init 177 = .ok (.castore, 1) := by decide +kernel
theorem dX7_init_178 : decode cX7_init 178 = .ok (.dup, 1) := by decide +kernel
theorem dX7_init_179 : decode cX7_init 179 = .ok (.bipush 24, 2) := by decide +kernel
theorem dX7_init_181 : decode cX7_init 181 = .ok (.bipush 120, 2) := by decide +kernel
theorem dX7_init_183 : decode cX7_init 183 = .ok (.castore, 1) := by decide +kernel
theorem dX7_init_184 : decode cX7_init 184 = .ok (.dup, 1) := by decide +kernel
theorem dX7_init_185 : decode cX7_init 185 = .ok (.bipush 25, 2) := by decide +kernel
theorem dX7_init_187 : decode cX7_init 187 = .ok (.bipush 110, 2) := by decide +kernel
theorem dX7_init_189 : decode cX7_init 189 = .ok (.castore, 1) := by decide +kernel
