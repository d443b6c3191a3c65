theorem dX0_init_0 : decode cX0_init 0 = .ok (.aload_n 0, 1) := by decide +kernel
theorem dX0_init_1 : decode cX0_init 1 = .ok (.invokespecial 3, 3) := by decide +kernel
theorem dX0_init_4 : decode cX0_init 4 = .ok (.aload_n 0, 1) := by decide +kernel
theorem dX0_init_5 : decode cX0_init 5 = .ok (.bipush 12, 2) := by decide +kernel
theorem dX0_init_7 : decode cX0_init 7 = .ok (.newarray .int, 2) := by decide +kernel
theorem dX0_init_9 : decode cX0_init 9 = .ok (.putfield 9, 3) := by decide +kernel
theorem dX0_init_12 : decode cX0_init 12 = .ok (.aload_n 0, 1) := by decide +kernel
theorem dX0_init_13 : decode cX0_init 13 = .ok (.bipush 12, 2) := by decide +kernel
theorem dX0_init_15 : decode cX0_init 15 = .ok (.newarray .int, 2) := by decide +kernel
theorem dX0_init_17 : decode cX0_init 17 = .ok (.putfield 15, 3) := by decide +kernel
theorem dX0_init_20 : decode cX0_init 20 = .ok (.aload_n 0, 1) := by decide +kernel
theorem dX0_init_21 : decode cX0_init 21 = .ok (.bipush 12, 2) := by decide +kernel
theorem dX0_init_23 : decode cX0_init 23 = .ok (.newarray .int, 2) := by decide +kernel
theorem dX0_init_25 : decode cX0_init 25 = .ok (.putfield 18, 3) := by decide +kernel
theorem dX0_init_28 : decode cX0_init 28 = .ok (.aload_n 0, 1) := by decide +kernel
theorem dX0_init_29 : decode cX0_init 29 = .ok (.bipush 7, 2) := by decide +kernel
theorem dX0_init_31 : decode cX0_init 31 = .ok (.newarray .int, 2) := by decide +kernel
theorem dX0_init_33 : decode cX0_init 33 = .ok (.putfield 21, 3) := by decide +kernel
theorem dX0_init_36 : decode cX0_init 36 = .ok (.return_, 1) := by decide +kernel
theorem dX0_begin_0 : decode cX0_begin 0 = .ok (.aload_n 0, 1) := by decide +kernel
theorem dX0_begin_1 : decode cX0_begin 1 = .ok (.iconst 0, 1) := by decide +kernel
theorem dX0_begin_2 : decode cX0_begin 2 = .ok (.putfield 24, 3) := by decide +kernel
theorem dX0_begin_5 : decode cX0_begin 5 = .ok (.aload_n 0, 1) := by decide +kernel
theorem dX0_begin_6 : decode cX0_begin 6 = .ok (.iload_n 1, 1) := by decide +kernel
theorem dX0_begin_7 : decode cX0_begin 7 = .ok (.putfield 28, 3) := by decide +kernel
theorem dX0_begin_10 : decode cX0_begin 10 = .ok (.aload_n 0, 1) := by decide +kernel
theorem dX0_begin_11 : decode cX0_begin 11 = .ok (.iconst 0, 1) := by decide +kernel
theorem dX0_begin_12 : decode cX0_begin 12 = .ok (.putfield 32, 3) := by decide +kernel
theorem dX0_begin_15 : decode cX0_begin 15 = .ok (.aload_n 0, 1) := by decide +kernel
theorem dX0_begin_16 : decode cX0_begin 16 = .ok (.iconst 0, 1) := by decide +kernel
theorem dX0_begin_17 : decode cX0_begin 17 = .ok (.putfield 35, 3) := by decide +kernel
theorem dX0_begin_20 : decode cX0_begin 20 = .ok (.return_, 1) := by decide +kernel
theorem dX0_addGate_0 : decode cX0_addGate 0 = .ok (.aload_n 0, 1) := by decide +kernel
theorem dX0_addGate_1 : decode cX0_addGate 1 = .ok (.getfield 32, 3) := by decide +kernel
theorem dX0_addGate_4 : decode cX0_addGate 4 = .ok (.bipush 12, 2) := by decide +kernel
theorem dX0_addGate_6 : decode cX0_addGate 6 = .ok (.if_icmp .lt 5, 3) := by decide +kernel
theorem dX0_addGate_9 : decode cX0_addGate 9 = .ok (.iconst (-1), 1) := by decide +kernel
theorem dX0_addGate_10 : decode cX0_addGate 10 = .ok (.ireturn, 1) := by decide +kernel
theorem dX0_addGate_11 : decode cX0_addGate 11 = .ok (.aload_n 0, 1) := by decide +kernel
theorem dX0_addGate_12 : decode cX0_addGate 12 = .ok (.getfield 9, 3) := by decide +kernel
theorem dX0_addGate_15 : decode cX0_addGate 15 = .ok (.aload_n 0, 1) := by decide +kernel
theorem dX0_addGate_16 : decode cX0_addGate 16 = .ok (.getfield 32, 3) := by decide +kernel
theorem dX0_addGate_19 : decode cX0_addGate 19 = .ok (.iload_n 1, 1) := by decide +kernel
theorem dX0_addGate_20 : decode cX0_addGate 20 = .ok (.invokestatic 38, 3) := by decide +kernel
theorem dX0_addGate_23 : decode cX0_addGate 23 = .ok (.aload_n 0, 1) := by decide +kernel
theorem dX0_addGate_24 : decode cX0_addGate 24 = .ok (.getfield 15, 3) := by decide +kernel
theorem dX0_addGate_27 : decode cX0_addGate 27 = .ok (.aload_n 0, 1) := by decide +kernel
theorem dX0_addGate_28 : decode cX0_addGate 28 = .ok (.getfield 32, 3) := by decide +kernel
theorem dX0_addGate_31 : decode cX0_addGate 31 = .ok (.iload_n 2, 1) := by decide +kernel
theorem dX0_addGate_32 : decode cX0_addGate 32 = .ok (.invokestatic 38, 3) := by decide +kernel
theorem dX0_addGate_35 : decode cX0_addGate 35 = .ok (.aload_n 0, 1) := by decide +kernel
theorem dX0_addGate_36 : decode cX0_addGate 36 = .ok (.getfield 18, 3) := by decide +kernel
theorem dX0_addGate_39 : decode cX0_addGate 39 = .ok (.aload_n 0, 1) := by decide +kernel
theorem dX0_addGate_40 : decode cX0_addGate 40 = .ok (.getfield 32, 3) := by decide +kernel
theorem dX0_addGate_43 : decode cX0_addGate 43 = .ok (.iload_n 3, 1) := by decide +kernel
theorem dX0_addGate_44 : decode cX0_addGate 44 = .ok (.invokestatic 38, 3) := by decide +kernel
theorem dX0_addGate_47 : decode cX0_addGate 47 = .ok (.aload_n 0, 1) := by decide +kernel
theorem dX0_addGate_48 : decode cX0_addGate 48 = .ok (.dup, 1) := by decide +kernel
theorem dX0_addGate_49 : decode cX0_addGate 49 = .ok (.getfield 32, 3) := by decide +kernel
theorem dX0_addGate_52 : decode cX0_addGate 52 = .ok (.iconst 1, 1) := by decide +kernel
theorem dX0_addGate_53 : decode cX0_addGate 53 = .ok (.iadd, 1) := by decide +kernel
theorem dX0_addGate_54 : decode cX0_addGate 54 = .ok (.putfield 32, 3) := by decide +kernel
theorem dX0_addGate_57 : decode cX0_addGate 57 = .ok (.aload_n 0, 1) := by decide +kernel
theorem dX0_addGate_58 : decode cX0_addGate 58 = .ok (.invokevirtual 42, 3) := by decide +kernel
theorem dX0_addGate_61 : decode cX0_addGate 61 = .ok (.iconst 1, 1) := by decide +kernel
theorem dX0_addGate_62 : decode cX0_addGate 62 = .ok (.isub, 1) := by decide +kernel
theorem dX0_addGate_63 : decode cX0_addGate 63 = .ok (.ireturn, 1) := by decide +kernel
theorem dX0_addOutput_0 : decode cX0_addOutput 0 = .ok (.aload_n 0, 1) := by decide +kernel
theorem dX0_addOutput_1 : decode cX0_addOutput 1 = .ok (.getfield 35, 3) := by decide +kernel
theorem dX0_addOutput_4 : decode cX0_addOutput 4 = .ok (.bipush 7, 2) := by decide +kernel
theorem dX0_addOutput_6 : decode cX0_addOutput 6 = .ok (.if_icmp .ge 25, 3) := by decide +kernel
theorem dX0_addOutput_9 : decode cX0_addOutput 9 = .ok (.aload_n 0, 1) := by decide +kernel
theorem dX0_addOutput_10 : decode cX0_addOutput 10 = .ok (.getfield 21, 3) := by decide +kernel
theorem dX0_addOutput_13 : decode cX0_addOutput 13 = .ok (.aload_n 0, 1) := by decide +kernel
theorem dX0_addOutput_14 : decode cX0_addOutput 14 = .ok (.getfield 35, 3) := by decide +kernel
theorem dX0_addOutput_17 : decode cX0_addOutput 17 = .ok (.iload_n 1, 1) := by decide +kernel
theorem dX0_addOutput_18 : decode cX0_addOutput 18 = .ok (.invokestatic 38, 3) := by decide +kernel
theorem dX0_addOutput_21 : decode cX0_addOutput 21 = .ok (.aload_n 0, 1) := by decide +kernel
theorem dX0_addOutput_22 : decode cX0_addOutput 22 = .ok (.dup, 1) := by decide +kernel
theorem dX0_addOutput_23 : decode cX0_addOutput 23 = .ok (.getfield 35, 3) := by decide +kernel
theorem dX0_addOutput_26 : decode cX0_addOutput 26 = .ok (.iconst 1, 1) := by decide +kernel
theorem dX0_addOutput_27 : decode cX0_addOutput 27 = .ok (.iadd, 1) := by decide +kernel
theorem dX0_addOutput_28 : decode cX0_addOutput 28 = .ok (.putfield 35, 3) := by decide +kernel
theorem dX0_addOutput_31 : decode cX0_addOutput 31 = .ok (.return_, 1) := by decide +kernel
theorem dX0_end_0 : decode cX0_end 0 = .ok (.aload_n 0, 1) := by decide +kernel
theorem dX0_end_1 : decode cX0_end 1 = .ok (.iload_n 1, 1) := by decide +kernel
theorem dX0_end_2 : decode cX0_end 2 = .ok (.putfield 46, 3) := by decide +kernel
theorem dX0_end_5 : decode cX0_end 5 = .ok (.aload_n 0, 1) := by decide +kernel
theorem dX0_end_6 : decode cX0_end 6 = .ok (.iload_n 2, 1) := by decide +kernel
theorem dX0_end_7 : decode cX0_end 7 = .ok (.putfield 49, 3) := by decide +kernel
theorem dX0_end_10 : decode cX0_end 10 = .ok (.aload_n 0, 1) := by decide +kernel
theorem dX0_end_11 : decode cX0_end 11 = .ok (.iload_n 3, 1) := by decide +kernel
theorem dX0_end_12 : decode cX0_end 12 = .ok (.putfield 52, 3) := by decide +kernel
theorem dX0_end_15 : decode cX0_end 15 = .ok (.aload_n 0, 1) := by decide +kernel
theorem dX0_end_16 : decode cX0_end 16 = .ok (.iconst 1, 1) := by decide +kernel
theorem dX0_end_17 : decode cX0_end 17 = .ok (.putfield 24, 3) := by decide +kernel
theorem dX0_end_20 : decode cX0_end 20 = .ok (.return_, 1) := by decide +kernel
theorem dX0_become_0 : decode cX0_become 0 = .ok (.aload_n 0, 1) := by decide +kernel
theorem dX0_become_1 : decode cX0_become 1 = .ok (.aload_n 1, 1) := by decide +kernel
theorem dX0_become_2 : decode cX0_become 2 = .ok (.getfield 28, 3) := by decide +kernel
theorem dX0_become_5 : decode cX0_become 5 = .ok (.invokevirtual 55, 3) := by decide +kernel
theorem dX0_become_8 : decode cX0_become 8 = .ok (.iconst 0, 1) := by decide +kernel
theorem dX0_become_9 : decode cX0_become 9 = .ok (.istore_n 2, 1) := by decide +kernel
theorem dX0_become_10 : decode cX0_become 10 = .ok (.iload_n 2, 1) := by decide +kernel
theorem dX0_become_11 : decode cX0_become 11 = .ok (.aload_n 1, 1) := by decide +kernel
theorem dX0_become_12 : decode cX0_become 12 = .ok (.getfield 32, 3) := by decide +kernel
theorem dX0_become_15 : decode cX0_become 15 = .ok (.if_icmp .ge 29, 3) := by decide +kernel
theorem dX0_become_18 : decode cX0_become 18 = .ok (.aload_n 0, 1) := by decide +kernel
theorem dX0_become_19 : decode cX0_become 19 = .ok (.aload_n 1, 1) := by decide +kernel
theorem dX0_become_20 : decode cX0_become 20 = .ok (.iload_n 2, 1) := by decide +kernel
theorem dX0_become_21 : decode cX0_become 21 = .ok (.invokevirtual 59, 3) := by decide +kernel
theorem dX0_become_24 : decode cX0_become 24 = .ok (.aload_n 1, 1) := by decide +kernel
theorem dX0_become_25 : decode cX0_become 25 = .ok (.iload_n 2, 1) := by decide +kernel
theorem dX0_become_26 : decode cX0_become 26 = .ok (.invokevirtual 63, 3) := by decide +kernel
theorem dX0_become_29 : decode cX0_become 29 = .ok (.aload_n 1, 1) := by decide +kernel
theorem dX0_become_30 : decode cX0_become 30 = .ok (.iload_n 2, 1) := by decide +kernel
theorem dX0_become_31 : decode cX0_become 31 = .ok (.invokevirtual 66, 3) := by decide +kernel
theorem dX0_become_34 : decode cX0_become 34 = .ok (.invokevirtual 69, 3) := by decide +kernel
theorem dX0_become_37 : decode cX0_become 37 = .ok (.pop, 1) := by decide +kernel
theorem dX0_become_38 : decode cX0_become 38 = .ok (.iinc 2 1, 3) := by decide +kernel
theorem dX0_become_41 : decode cX0_become 41 = .ok (.goto (-31), 3) := by decide +kernel
theorem dX0_become_44 : decode cX0_become 44 = .ok (.iconst 0, 1) := by decide +kernel
theorem dX0_become_45 : decode cX0_become 45 = .ok (.istore_n 2, 1) := by decide +kernel
theorem dX0_become_46 : decode cX0_become 46 = .ok (.iload_n 2, 1) := by decide +kernel
theorem dX0_become_47 : decode cX0_become 47 = .ok (.aload_n 1, 1) := by decide +kernel
theorem dX0_become_48 : decode cX0_become 48 = .ok (.getfield 35, 3) := by decide +kernel
theorem dX0_become_51 : decode cX0_become 51 = .ok (.if_icmp .ge 18, 3) := by decide +kernel
theorem dX0_become_54 : decode cX0_become 54 = .ok (.aload_n 0, 1) := by decide +kernel
theorem dX0_become_55 : decode cX0_become 55 = .ok (.aload_n 1, 1) := by decide +kernel
theorem dX0_become_56 : decode cX0_become 56 = .ok (.iload_n 2, 1) := by decide +kernel
theorem dX0_become_57 : decode cX0_become 57 = .ok (.invokevirtual 73, 3) := by decide +kernel
theorem dX0_become_60 : decode cX0_become 60 = .ok (.invokevirtual 76, 3) := by decide +kernel
theorem dX0_become_63 : decode cX0_become 63 = .ok (.iinc 2 1, 3) := by decide +kernel
theorem dX0_become_66 : decode cX0_become 66 = .ok (.goto (-20), 3) := by decide +kernel
theorem dX0_become_69 : decode cX0_become 69 = .ok (.aload_n 0, 1) := by decide +kernel
theorem dX0_become_70 : decode cX0_become 70 = .ok (.aload_n 1, 1) := by decide +kernel
theorem dX0_become_71 : decode cX0_become 71 = .ok (.getfield 46, 3) := by decide +kernel
theorem dX0_become_74 : decode cX0_become 74 = .ok (.aload_n 1, 1) := by decide +kernel
theorem dX0_become_75 : decode cX0_become 75 = .ok (.getfield 49, 3) := by decide +kernel
theorem dX0_become_78 : decode cX0_become 78 = .ok (.aload_n 1, 1) := by decide +kernel
theorem dX0_become_79 : decode cX0_become 79 = .ok (.getfield 52, 3) := by decide +kernel
theorem dX0_become_82 : decode cX0_become 82 = .ok (.invokevirtual 79, 3) := by decide +kernel
theorem dX0_become_85 : decode cX0_become 85 = .ok (.return_, 1) := by decide +kernel
theorem dX0_signals_0 : decode cX0_signals 0 = .ok (.aload_n 0, 1) := by decide +kernel
theorem dX0_signals_1 : decode cX0_signals 1 = .ok (.getfield 28, 3) := by decide +kernel
theorem dX0_signals_4 : decode cX0_signals 4 = .ok (.aload_n 0, 1) := by decide +kernel
theorem dX0_signals_5 : decode cX0_signals 5 = .ok (.getfield 32, 3) := by decide +kernel
theorem dX0_signals_8 : decode cX0_signals 8 = .ok (.iadd, 1) := by decide +kernel
theorem dX0_signals_9 : decode cX0_signals 9 = .ok (.ireturn, 1) := by decide +kernel
theorem dX0_kindOf_0 : decode cX0_kindOf 0 = .ok (.aload_n 0, 1) := by decide +kernel
theorem dX0_kindOf_1 : decode cX0_kindOf 1 = .ok (.getfield 9, 3) := by decide +kernel
theorem dX0_kindOf_4 : decode cX0_kindOf 4 = .ok (.iload_n 1, 1) := by decide +kernel
theorem dX0_kindOf_5 : decode cX0_kindOf 5 = .ok (.invokestatic 83, 3) := by decide +kernel
theorem dX0_kindOf_8 : decode cX0_kindOf 8 = .ok (.ireturn, 1) := by decide +kernel
theorem dX0_xOf_0 : decode cX0_xOf 0 = .ok (.aload_n 0, 1) := by decide +kernel
theorem dX0_xOf_1 : decode cX0_xOf 1 = .ok (.getfield 15, 3) := by decide +kernel
theorem dX0_xOf_4 : decode cX0_xOf 4 = .ok (.iload_n 1, 1) := by decide +kernel
theorem dX0_xOf_5 : decode cX0_xOf 5 = .ok (.invokestatic 83, 3) := by decide +kernel
theorem dX0_xOf_8 : decode cX0_xOf 8 = .ok (.ireturn, 1) := by decide +kernel
theorem dX0_yOf_0 : decode cX0_yOf 0 = .ok (.aload_n 0, 1) := by decide +kernel
theorem dX0_yOf_1 : decode cX0_yOf 1 = .ok (.getfield 18, 3) := by decide +kernel
theorem dX0_yOf_4 : decode cX0_yOf 4 = .ok (.iload_n 1, 1) := by decide +kernel
theorem dX0_yOf_5 : decode cX0_yOf 5 = .ok (.invokestatic 83, 3) := by decide +kernel
theorem dX0_yOf_8 : decode cX0_yOf 8 = .ok (.ireturn, 1) := by decide +kernel
theorem dX0_outputAt_0 : decode cX0_outputAt 0 = .ok (.aload_n 0, 1) := by decide +kernel
theorem dX0_outputAt_1 : decode cX0_outputAt 1 = .ok (.getfield 21, 3) := by decide +kernel
theorem dX0_outputAt_4 : decode cX0_outputAt 4 = .ok (.iload_n 1, 1) := by decide +kernel
theorem dX0_outputAt_5 : decode cX0_outputAt 5 = .ok (.invokestatic 83, 3) := by decide +kernel
theorem dX0_outputAt_8 : decode cX0_outputAt 8 = .ok (.ireturn, 1) := by decide +kernel
theorem dX0_mayPut_0 : decode cX0_mayPut 0 = .ok (.iload_n 2, 1) := by decide +kernel
theorem dX0_mayPut_1 : decode cX0_mayPut 1 = .ok (.ifCond .lt 9, 3) := by decide +kernel
theorem dX0_mayPut_4 : decode cX0_mayPut 4 = .ok (.iload_n 2, 1) := by decide +kernel
theorem dX0_mayPut_5 : decode cX0_mayPut 5 = .ok (.bipush 8, 2) := by decide +kernel
theorem dX0_mayPut_7 : decode cX0_mayPut 7 = .ok (.if_icmp .lt 5, 3) := by decide +kernel
theorem dX0_mayPut_10 : decode cX0_mayPut 10 = .ok (.iconst 0, 1) := by decide +kernel
theorem dX0_mayPut_11 : decode cX0_mayPut 11 = .ok (.ireturn, 1) := by decide +kernel
theorem dX0_mayPut_12 : decode cX0_mayPut 12 = .ok (.aload_n 0, 1) := by decide +kernel
theorem dX0_mayPut_13 : decode cX0_mayPut 13 = .ok (.getfield 24, 3) := by decide +kernel
theorem dX0_mayPut_16 : decode cX0_mayPut 16 = .ok (.ifCond .eq 28, 3) := by decide +kernel
theorem dX0_mayPut_19 : decode cX0_mayPut 19 = .ok (.iload_n 2, 1) := by decide +kernel
theorem dX0_mayPut_20 : decode cX0_mayPut 20 = .ok (.ifCond .ne 7, 3) := by decide +kernel
theorem dX0_mayPut_23 : decode cX0_mayPut 23 = .ok (.iconst 1, 1) := by decide +kernel
theorem dX0_mayPut_24 : decode cX0_mayPut 24 = .ok (.goto 4, 3) := by decide +kernel
theorem dX0_mayPut_27 : decode cX0_mayPut 27 = .ok (.iconst 0, 1) := by decide +kernel
theorem dX0_mayPut_28 : decode cX0_mayPut 28 = .ok (.aload_n 0, 1) := by decide +kernel
theorem dX0_mayPut_29 : decode cX0_mayPut 29 = .ok (.iload_n 1, 1) := by decide +kernel
theorem dX0_mayPut_30 : decode cX0_mayPut 30 = .ok (.invokevirtual 59, 3) := by decide +kernel
theorem dX0_mayPut_33 : decode cX0_mayPut 33 = .ok (.ifCond .ne 7, 3) := by decide +kernel
theorem dX0_mayPut_36 : decode cX0_mayPut 36 = .ok (.iconst 1, 1) := by decide +kernel
theorem dX0_mayPut_37 : decode cX0_mayPut 37 = .ok (.goto 4, 3) := by decide +kernel
theorem dX0_mayPut_40 : decode cX0_mayPut 40 = .ok (.iconst 0, 1) := by decide +kernel
theorem dX0_mayPut_41 : decode cX0_mayPut 41 = .ok (.if_icmp .ne 7, 3) := by decide +kernel
theorem dX0_mayPut_44 : decode cX0_mayPut 44 = .ok (.iconst 1, 1) := by decide +kernel
theorem dX0_mayPut_45 : decode cX0_mayPut 45 = .ok (.goto 4, 3) := by decide +kernel
theorem dX0_mayPut_48 : decode cX0_mayPut 48 = .ok (.iconst 0, 1) := by decide +kernel
theorem dX0_mayPut_49 : decode cX0_mayPut 49 = .ok (.ireturn, 1) := by decide +kernel
theorem dX0_usesOf_0 : decode cX0_usesOf 0 = .ok (.iconst 0, 1) := by decide +kernel
theorem dX0_usesOf_1 : decode cX0_usesOf 1 = .ok (.istore_n 2, 1) := by decide +kernel
theorem dX0_usesOf_2 : decode cX0_usesOf 2 = .ok (.iconst 0, 1) := by decide +kernel
theorem dX0_usesOf_3 : decode cX0_usesOf 3 = .ok (.istore_n 3, 1) := by decide +kernel
theorem dX0_usesOf_4 : decode cX0_usesOf 4 = .ok (.iload_n 3, 1) := by decide +kernel
theorem dX0_usesOf_5 : decode cX0_usesOf 5 = .ok (.aload_n 0, 1) := by decide +kernel
theorem dX0_usesOf_6 : decode cX0_usesOf 6 = .ok (.getfield 32, 3) := by decide +kernel
theorem dX0_usesOf_9 : decode cX0_usesOf 9 = .ok (.if_icmp .ge 35, 3) := by decide +kernel
theorem dX0_usesOf_12 : decode cX0_usesOf 12 = .ok (.iload_n 2, 1) := by decide +kernel
theorem dX0_usesOf_13 : decode cX0_usesOf 13 = .ok (.aload_n 0, 1) := by decide +kernel
theorem dX0_usesOf_14 : decode cX0_usesOf 14 = .ok (.iload_n 3, 1) := by decide +kernel
theorem dX0_usesOf_15 : decode cX0_usesOf 15 = .ok (.invokevirtual 63, 3) := by decide +kernel
theorem dX0_usesOf_18 : decode cX0_usesOf 18 = .ok (.iload_n 1, 1) := by decide +kernel
theorem dX0_usesOf_19 : decode cX0_usesOf 19 = .ok (.if_icmp .eq 12, 3) := by decide +kernel
theorem dX0_usesOf_22 : decode cX0_usesOf 22 = .ok (.aload_n 0, 1) := by decide +kernel
theorem dX0_usesOf_23 : decode cX0_usesOf 23 = .ok (.iload_n 3, 1) := by decide +kernel
theorem dX0_usesOf_24 : decode cX0_usesOf 24 = .ok (.invokevirtual 66, 3) := by decide +kernel
theorem dX0_usesOf_27 : decode cX0_usesOf 27 = .ok (.iload_n 1, 1) := by decide +kernel
theorem dX0_usesOf_28 : decode cX0_usesOf 28 = .ok (.if_icmp .ne 7, 3) := by decide +kernel
theorem dX0_usesOf_31 : decode cX0_usesOf 31 = .ok (.iconst 1, 1) := by decide +kernel
theorem dX0_usesOf_32 : decode cX0_usesOf 32 = .ok (.goto 4, 3) := by decide +kernel
theorem dX0_usesOf_35 : decode cX0_usesOf 35 = .ok (.iconst 0, 1) := by decide +kernel
theorem dX0_usesOf_36 : decode cX0_usesOf 36 = .ok (.iadd, 1) := by decide +kernel
theorem dX0_usesOf_37 : decode cX0_usesOf 37 = .ok (.istore_n 2, 1) := by decide +kernel
theorem dX0_usesOf_38 : decode cX0_usesOf 38 = .ok (.iinc 3 1, 3) := by decide +kernel
theorem dX0_usesOf_41 : decode cX0_usesOf 41 = .ok (.goto (-37), 3) := by decide +kernel
theorem dX0_usesOf_44 : decode cX0_usesOf 44 = .ok (.iconst 0, 1) := by decide +kernel
theorem dX0_usesOf_45 : decode cX0_usesOf 45 = .ok (.istore_n 3, 1) := by decide +kernel
theorem dX0_usesOf_46 : decode cX0_usesOf 46 = .ok (.iload_n 3, 1) := by decide +kernel
theorem dX0_usesOf_47 : decode cX0_usesOf 47 = .ok (.aload_n 0, 1) := by decide +kernel
theorem dX0_usesOf_48 : decode cX0_usesOf 48 = .ok (.getfield 35, 3) := by decide +kernel
theorem dX0_usesOf_51 : decode cX0_usesOf 51 = .ok (.if_icmp .ge 26, 3) := by decide +kernel
theorem dX0_usesOf_54 : decode cX0_usesOf 54 = .ok (.iload_n 2, 1) := by decide +kernel
theorem dX0_usesOf_55 : decode cX0_usesOf 55 = .ok (.aload_n 0, 1) := by decide +kernel
theorem dX0_usesOf_56 : decode cX0_usesOf 56 = .ok (.iload_n 3, 1) := by decide +kernel
theorem dX0_usesOf_57 : decode cX0_usesOf 57 = .ok (.invokevirtual 73, 3) := by decide +kernel
theorem dX0_usesOf_60 : decode cX0_usesOf 60 = .ok (.iload_n 1, 1) := by decide +kernel
theorem dX0_usesOf_61 : decode cX0_usesOf 61 = .ok (.if_icmp .ne 7, 3) := by decide +kernel
theorem dX0_usesOf_64 : decode cX0_usesOf 64 = .ok (.iconst 1, 1) := by decide +kernel
theorem dX0_usesOf_65 : decode cX0_usesOf 65 = .ok (.goto 4, 3) := by decide +kernel
theorem dX0_usesOf_68 : decode cX0_usesOf 68 = .ok (.iconst 0, 1) := by decide +kernel
theorem dX0_usesOf_69 : decode cX0_usesOf 69 = .ok (.iadd, 1) := by decide +kernel
theorem dX0_usesOf_70 : decode cX0_usesOf 70 = .ok (.istore_n 2, 1) := by decide +kernel
theorem dX0_usesOf_71 : decode cX0_usesOf 71 = .ok (.iinc 3 1, 3) := by decide +kernel
theorem dX0_usesOf_74 : decode cX0_usesOf 74 = .ok (.goto (-28), 3) := by decide +kernel
theorem dX0_usesOf_77 : decode cX0_usesOf 77 = .ok (.iload_n 2, 1) := by decide +kernel
theorem dX0_usesOf_78 : decode cX0_usesOf 78 = .ok (.ireturn, 1) := by decide +kernel
theorem dX0_taskFor_0 : decode cX0_taskFor 0 = .ok (.iload_n 1, 1) := by decide +kernel
theorem dX0_taskFor_1 : decode cX0_taskFor 1 = .ok (.iconst 1, 1) := by decide +kernel
theorem dX0_taskFor_2 : decode cX0_taskFor 2 = .ok (.aload_n 0, 1) := by decide +kernel
theorem dX0_taskFor_3 : decode cX0_taskFor 3 = .ok (.getfield 49, 3) := by decide +kernel
theorem dX0_taskFor_6 : decode cX0_taskFor 6 = .ok (.ishl, 1) := by decide +kernel
theorem dX0_taskFor_7 : decode cX0_taskFor 7 = .ok (.iconst 1, 1) := by decide +kernel
theorem dX0_taskFor_8 : decode cX0_taskFor 8 = .ok (.isub, 1) := by decide +kernel
theorem dX0_taskFor_9 : decode cX0_taskFor 9 = .ok (.iand, 1) := by decide +kernel
theorem dX0_taskFor_10 : decode cX0_taskFor 10 = .ok (.istore_n 2, 1) := by decide +kernel
theorem dX0_taskFor_11 : decode cX0_taskFor 11 = .ok (.iload_n 1, 1) := by decide +kernel
theorem dX0_taskFor_12 : decode cX0_taskFor 12 = .ok (.aload_n 0, 1) := by decide +kernel
theorem dX0_taskFor_13 : decode cX0_taskFor 13 = .ok (.getfield 49, 3) := by decide +kernel
theorem dX0_taskFor_16 : decode cX0_taskFor 16 = .ok (.ishr, 1) := by decide +kernel
theorem dX0_taskFor_17 : decode cX0_taskFor 17 = .ok (.iconst 1, 1) := by decide +kernel
theorem dX0_taskFor_18 : decode cX0_taskFor 18 = .ok (.aload_n 0, 1) := by decide +kernel
theorem dX0_taskFor_19 : decode cX0_taskFor 19 = .ok (.getfield 52, 3) := by decide +kernel
theorem dX0_taskFor_22 : decode cX0_taskFor 22 = .ok (.ishl, 1) := by decide +kernel
theorem dX0_taskFor_23 : decode cX0_taskFor 23 = .ok (.iconst 1, 1) := by decide +kernel
theorem dX0_taskFor_24 : decode cX0_taskFor 24 = .ok (.isub, 1) := by decide +kernel
theorem dX0_taskFor_25 : decode cX0_taskFor 25 = .ok (.iand, 1) := by decide +kernel
theorem dX0_taskFor_26 : decode cX0_taskFor 26 = .ok (.istore_n 3, 1) := by decide +kernel
theorem dX0_taskFor_27 : decode cX0_taskFor 27 = .ok (.aload_n 0, 1) := by decide +kernel
theorem dX0_taskFor_28 : decode cX0_taskFor 28 = .ok (.getfield 46, 3) := by decide +kernel
theorem dX0_taskFor_31 : decode cX0_taskFor 31 = .ok (.tableswitch 39 0 2 #[25, 29, 33], 25) := by decide +kernel
theorem dX0_taskFor_56 : decode cX0_taskFor 56 = .ok (.iload_n 2, 1) := by decide +kernel
theorem dX0_taskFor_57 : decode cX0_taskFor 57 = .ok (.iload_n 3, 1) := by decide +kernel
theorem dX0_taskFor_58 : decode cX0_taskFor 58 = .ok (.iadd, 1) := by decide +kernel
theorem dX0_taskFor_59 : decode cX0_taskFor 59 = .ok (.ireturn, 1) := by decide +kernel
theorem dX0_taskFor_60 : decode cX0_taskFor 60 = .ok (.iload_n 2, 1) := by decide +kernel
theorem dX0_taskFor_61 : decode cX0_taskFor 61 = .ok (.iload_n 3, 1) := by decide +kernel
theorem dX0_taskFor_62 : decode cX0_taskFor 62 = .ok (.imul, 1) := by decide +kernel
theorem dX0_taskFor_63 : decode cX0_taskFor 63 = .ok (.ireturn, 1) := by decide +kernel
theorem dX0_taskFor_64 : decode cX0_taskFor 64 = .ok (.iload_n 2, 1) := by decide +kernel
theorem dX0_taskFor_65 : decode cX0_taskFor 65 = .ok (.iload_n 2, 1) := by decide +kernel
theorem dX0_taskFor_66 : decode cX0_taskFor 66 = .ok (.imul, 1) := by decide +kernel
theorem dX0_taskFor_67 : decode cX0_taskFor 67 = .ok (.iload_n 3, 1) := by decide +kernel
theorem dX0_taskFor_68 : decode cX0_taskFor 68 = .ok (.iadd, 1) := by decide +kernel
theorem dX0_taskFor_69 : decode cX0_taskFor 69 = .ok (.ireturn, 1) := by decide +kernel
theorem dX0_taskFor_70 : decode cX0_taskFor 70 = .ok (.iconst 3, 1) := by decide +kernel
theorem dX0_taskFor_71 : decode cX0_taskFor 71 = .ok (.iload_n 2, 1) := by decide +kernel
theorem dX0_taskFor_72 : decode cX0_taskFor 72 = .ok (.imul, 1) := by decide +kernel
theorem dX0_taskFor_73 : decode cX0_taskFor 73 = .ok (.iload_n 3, 1) := by decide +kernel
theorem dX0_taskFor_74 : decode cX0_taskFor 74 = .ok (.isub, 1) := by decide +kernel
theorem dX0_taskFor_75 : decode cX0_taskFor 75 = .ok (.ireturn, 1) := by decide +kernel
theorem dX1_init_0 : decode cX1_init 0 = .ok (.aload_n 0, 1) := by decide +kernel
theorem dX1_init_1 : decode cX1_init 1 = .ok (.invokespecial 3, 3) := by decide +kernel
theorem dX1_init_4 : decode cX1_init 4 = .ok (.aload_n 0, 1) := by decide +kernel
theorem dX1_init_5 : decode cX1_init 5 = .ok (.bipush 18, 2) := by decide +kernel
theorem dX1_init_7 : decode cX1_init 7 = .ok (.newarray .long, 2) := by decide +kernel
theorem dX1_init_9 : decode cX1_init 9 = .ok (.putfield 9, 3) := by decide +kernel
theorem dX1_init_12 : decode cX1_init 12 = .ok (.return_, 1) := by decide +kernel
theorem dX1_fill_0 : decode cX1_fill 0 = .ok (.iconst 0, 1) := by decide +kernel
theorem dX1_fill_1 : decode cX1_fill 1 = .ok (.istore 4, 2) := by decide +kernel
theorem dX1_fill_3 : decode cX1_fill 3 = .ok (.iload 4, 2) := by decide +kernel
theorem dX1_fill_5 : decode cX1_fill 5 = .ok (.aload_n 1, 1) := by decide +kernel
theorem dX1_fill_6 : decode cX1_fill 6 = .ok (.getfield 15, 3) := by decide +kernel
theorem dX1_fill_9 : decode cX1_fill 9 = .ok (.if_icmp .ge 41, 3) := by decide +kernel
theorem dX1_fill_12 : decode cX1_fill 12 = .ok (.iload 4, 2) := by decide +kernel
theorem dX1_fill_14 : decode cX1_fill 14 = .ok (.getstatic 21, 3) := by decide +kernel
theorem dX1_fill_17 : decode cX1_fill 17 = .ok (.arraylength, 1) := by decide +kernel
theorem dX1_fill_18 : decode cX1_fill 18 = .ok (.if_icmp .ge 32, 3) := by decide +kernel
theorem dX1_fill_21 : decode cX1_fill 21 = .ok (.iload 4, 2) := by decide +kernel
theorem dX1_fill_23 : decode cX1_fill 23 = .ok (.aload_n 0, 1) := by decide +kernel
theorem dX1_fill_24 : decode cX1_fill 24 = .ok (.getfield 9, 3) := by decide +kernel
theorem dX1_fill_27 : decode cX1_fill 27 = .ok (.arraylength, 1) := by decide +kernel
theorem dX1_fill_28 : decode cX1_fill 28 = .ok (.if_icmp .ge 22, 3) := by decide +kernel
theorem dX1_fill_31 : decode cX1_fill 31 = .ok (.aload_n 0, 1) := by decide +kernel
theorem dX1_fill_32 : decode cX1_fill 32 = .ok (.getfield 9, 3) := by decide +kernel
theorem dX1_fill_35 : decode cX1_fill 35 = .ok (.iload 4, 2) := by decide +kernel
theorem dX1_fill_37 : decode cX1_fill 37 = .ok (.getstatic 21, 3) := by decide +kernel
theorem dX1_fill_40 : decode cX1_fill 40 = .ok (.iload 4, 2) := by decide +kernel
theorem dX1_fill_42 : decode cX1_fill 42 = .ok (.laload, 1) := by decide +kernel
theorem dX1_fill_43 : decode cX1_fill 43 = .ok (.lastore, 1) := by decide +kernel
theorem dX1_fill_44 : decode cX1_fill 44 = .ok (.iinc 4 1, 3) := by decide +kernel
theorem dX1_fill_47 : decode cX1_fill 47 = .ok (.goto (-44), 3) := by decide +kernel
theorem dX1_fill_50 : decode cX1_fill 50 = .ok (.iconst 0, 1) := by decide +kernel
theorem dX1_fill_51 : decode cX1_fill 51 = .ok (.istore 4, 2) := by decide +kernel
theorem dX1_fill_53 : decode cX1_fill 53 = .ok (.iload 4, 2) := by decide +kernel
theorem dX1_fill_55 : decode cX1_fill 55 = .ok (.aload_n 1, 1) := by decide +kernel
theorem dX1_fill_56 : decode cX1_fill 56 = .ok (.getfield 24, 3) := by decide +kernel
theorem dX1_fill_59 : decode cX1_fill 59 = .ok (.if_icmp .ge 63, 3) := by decide +kernel
theorem dX1_fill_62 : decode cX1_fill 62 = .ok (.aload_n 1, 1) := by decide +kernel
theorem dX1_fill_63 : decode cX1_fill 63 = .ok (.getfield 15, 3) := by decide +kernel
theorem dX1_fill_66 : decode cX1_fill 66 = .ok (.iload 4, 2) := by decide +kernel
theorem dX1_fill_68 : decode cX1_fill 68 = .ok (.iadd, 1) := by decide +kernel
theorem dX1_fill_69 : decode cX1_fill 69 = .ok (.istore 5, 2) := by decide +kernel
theorem dX1_fill_71 : decode cX1_fill 71 = .ok (.iload 5, 2) := by decide +kernel
theorem dX1_fill_73 : decode cX1_fill 73 = .ok (.ifCond .lt 43, 3) := by decide +kernel
theorem dX1_fill_76 : decode cX1_fill 76 = .ok (.iload 5, 2) := by decide +kernel
theorem dX1_fill_78 : decode cX1_fill 78 = .ok (.aload_n 0, 1) := by decide +kernel
theorem dX1_fill_79 : decode cX1_fill 79 = .ok (.getfield 9, 3) := by decide +kernel
theorem dX1_fill_82 : decode cX1_fill 82 = .ok (.arraylength, 1) := by decide +kernel
theorem dX1_fill_83 : decode cX1_fill 83 = .ok (.if_icmp .ge 33, 3) := by decide +kernel
theorem dX1_fill_86 : decode cX1_fill 86 = .ok (.aload_n 0, 1) := by decide +kernel
theorem dX1_fill_87 : decode cX1_fill 87 = .ok (.getfield 9, 3) := by decide +kernel
theorem dX1_fill_90 : decode cX1_fill 90 = .ok (.iload 5, 2) := by decide +kernel
theorem dX1_fill_92 : decode cX1_fill 92 = .ok (.aload_n 0, 1) := by decide +kernel
theorem dX1_fill_93 : decode cX1_fill 93 = .ok (.aload_n 1, 1) := by decide +kernel
theorem dX1_fill_94 : decode cX1_fill 94 = .ok (.iload 4, 2) := by decide +kernel
theorem dX1_fill_96 : decode cX1_fill 96 = .ok (.iload 4, 2) := by decide +kernel
theorem dX1_fill_98 : decode cX1_fill 98 = .ok (.iload_n 2, 1) := by decide +kernel
theorem dX1_fill_99 : decode cX1_fill 99 = .ok (.if_icmp .ne 7, 3) := by decide +kernel
theorem dX1_fill_102 : decode cX1_fill 102 = .ok (.iload_n 3, 1) := by decide +kernel
theorem dX1_fill_103 : decode cX1_fill 103 = .ok (.goto 9, 3) := by decide +kernel
theorem dX1_fill_106 : decode cX1_fill 106 = .ok (.aload_n 1, 1) := by decide +kernel
theorem dX1_fill_107 : decode cX1_fill 107 = .ok (.iload 4, 2) := by decide +kernel
theorem dX1_fill_109 : decode cX1_fill 109 = .ok (.invokevirtual 27, 3) := by decide +kernel
theorem dX1_fill_112 : decode cX1_fill 112 = .ok (.invokevirtual 31, 3) := by decide +kernel
theorem dX1_fill_115 : decode cX1_fill 115 = .ok (.lastore, 1) := by decide +kernel
theorem dX1_fill_116 : decode cX1_fill 116 = .ok (.iinc 4 1, 3) := by decide +kernel
theorem dX1_fill_119 : decode cX1_fill 119 = .ok (.goto (-66), 3) := by decide +kernel
theorem dX1_fill_122 : decode cX1_fill 122 = .ok (.return_, 1) := by decide +kernel
theorem dX1_column_0 : decode cX1_column 0 = .ok (.aload_n 0, 1) := by decide +kernel
theorem dX1_column_1 : decode cX1_column 1 = .ok (.aload_n 1, 1) := by decide +kernel
theorem dX1_column_2 : decode cX1_column 2 = .ok (.iload_n 2, 1) := by decide +kernel
theorem dX1_column_3 : decode cX1_column 3 = .ok (.invokevirtual 35, 3) := by decide +kernel
theorem dX1_column_6 : decode cX1_column 6 = .ok (.invokevirtual 38, 3) := by decide +kernel
theorem dX1_column_9 : decode cX1_column 9 = .ok (.lstore 4, 2) := by decide +kernel
theorem dX1_column_11 : decode cX1_column 11 = .ok (.aload_n 0, 1) := by decide +kernel
theorem dX1_column_12 : decode cX1_column 12 = .ok (.aload_n 1, 1) := by decide +kernel
theorem dX1_column_13 : decode cX1_column 13 = .ok (.iload_n 2, 1) := by decide +kernel
theorem dX1_column_14 : decode cX1_column 14 = .ok (.invokevirtual 42, 3) := by decide +kernel
theorem dX1_column_17 : decode cX1_column 17 = .ok (.invokevirtual 38, 3) := by decide +kernel
theorem dX1_column_20 : decode cX1_column 20 = .ok (.lstore 6, 2) := by decide +kernel
theorem dX1_column_22 : decode cX1_column 22 = .ok (.iload_n 3, 1) := by decide +kernel
theorem dX1_column_23 : decode cX1_column 23 = .ok (.tableswitch 96 0 6 #[41, 48, 54, 60, 66, 76, 86], 41) := by decide +kernel
theorem dX1_column_64 : decode cX1_column 64 = .ok (.lload 4, 2) := by decide +kernel
theorem dX1_column_66 : decode cX1_column 66 = .ok (.ldc2_w 45, 3) := by decide +kernel
theorem dX1_column_69 : decode cX1_column 69 = .ok (.lxor, 1) := by decide +kernel
theorem dX1_column_70 : decode cX1_column 70 = .ok (.lreturn, 1) := by decide +kernel
theorem dX1_column_71 : decode cX1_column 71 = .ok (.lload 4, 2) := by decide +kernel
theorem dX1_column_73 : decode cX1_column 73 = .ok (.lload 6, 2) := by decide +kernel
theorem dX1_column_75 : decode cX1_column 75 = .ok (.land, 1) := by decide +kernel
theorem dX1_column_76 : decode cX1_column 76 = .ok (.lreturn, 1) := by decide +kernel
theorem dX1_column_77 : decode cX1_column 77 = .ok (.lload 4, 2) := by decide +kernel
theorem dX1_column_79 : decode cX1_column 79 = .ok (.lload 6, 2) := by decide +kernel
theorem dX1_column_81 : decode cX1_column 81 = .ok (.lor, 1) := by decide +kernel
theorem dX1_column_82 : decode cX1_column 82 = .ok (.lreturn, 1) := by decide +kernel
theorem dX1_column_83 : decode cX1_column 83 = .ok (.lload 4, 2) := by decide +kernel
theorem dX1_column_85 : decode cX1_column 85 = .ok (.lload 6, 2) := by decide +kernel
theorem dX1_column_87 : decode cX1_column 87 = .ok (.lxor, 1) := by decide +kernel
theorem dX1_column_88 : decode cX1_column 88 = .ok (.lreturn, 1) := by decide +kernel
theorem dX1_column_89 : decode cX1_column 89 = .ok (.lload 4, 2) := by decide +kernel
theorem dX1_column_91 : decode cX1_column 91 = .ok (.lload 6, 2) := by decide +kernel
theorem dX1_column_93 : decode cX1_column 93 = .ok (.land, 1) := by decide +kernel
theorem dX1_column_94 : decode cX1_column 94 = .ok (.ldc2_w 45, 3) := by decide +kernel
theorem dX1_column_97 : decode cX1_column 97 = .ok (.lxor, 1) := by decide +kernel
theorem dX1_column_98 : decode cX1_column 98 = .ok (.lreturn, 1) := by decide +kernel
theorem dX1_column_99 : decode cX1_column 99 = .ok (.lload 4, 2) := by decide +kernel
theorem dX1_column_101 : decode cX1_column 101 = .ok (.lload 6, 2) := by decide +kernel
theorem dX1_column_103 : decode cX1_column 103 = .ok (.lor, 1) := by decide +kernel
theorem dX1_column_104 : decode cX1_column 104 = .ok (.ldc2_w 45, 3) := by decide +kernel
theorem dX1_column_107 : decode cX1_column 107 = .ok (.lxor, 1) := by decide +kernel
theorem dX1_column_108 : decode cX1_column 108 = .ok (.lreturn, 1) := by decide +kernel
theorem dX1_column_109 : decode cX1_column 109 = .ok (.lload 4, 2) := by decide +kernel
theorem dX1_column_111 : decode cX1_column 111 = .ok (.lload 6, 2) := by decide +kernel
theorem dX1_column_113 : decode cX1_column 113 = .ok (.lxor, 1) := by decide +kernel
theorem dX1_column_114 : decode cX1_column 114 = .ok (.ldc2_w 45, 3) := by decide +kernel
theorem dX1_column_117 : decode cX1_column 117 = .ok (.lxor, 1) := by decide +kernel
theorem dX1_column_118 : decode cX1_column 118 = .ok (.lreturn, 1) := by decide +kernel
theorem dX1_column_119 : decode cX1_column 119 = .ok (.lload 4, 2) := by decide +kernel
theorem dX1_column_121 : decode cX1_column 121 = .ok (.lload 6, 2) := by decide +kernel
theorem dX1_column_123 : decode cX1_column 123 = .ok (.ldc2_w 45, 3) := by decide +kernel
theorem dX1_column_126 : decode cX1_column 126 = .ok (.lxor, 1) := by decide +kernel
theorem dX1_column_127 : decode cX1_column 127 = .ok (.land, 1) := by decide +kernel
theorem dX1_column_128 : decode cX1_column 128 = .ok (.lreturn, 1) := by decide +kernel
theorem dX1_row_0 : decode cX1_row 0 = .ok (.iload_n 1, 1) := by decide +kernel
theorem dX1_row_1 : decode cX1_row 1 = .ok (.ifCond .lt 21, 3) := by decide +kernel
theorem dX1_row_4 : decode cX1_row 4 = .ok (.iload_n 1, 1) := by decide +kernel
theorem dX1_row_5 : decode cX1_row 5 = .ok (.aload_n 0, 1) := by decide +kernel
theorem dX1_row_6 : decode cX1_row 6 = .ok (.getfield 9, 3) := by decide +kernel
theorem dX1_row_9 : decode cX1_row 9 = .ok (.arraylength, 1) := by decide +kernel
theorem dX1_row_10 : decode cX1_row 10 = .ok (.if_icmp .ge 12, 3) := by decide +kernel
theorem dX1_row_13 : decode cX1_row 13 = .ok (.aload_n 0, 1) := by decide +kernel
theorem dX1_row_14 : decode cX1_row 14 = .ok (.getfield 9, 3) := by decide +kernel
theorem dX1_row_17 : decode cX1_row 17 = .ok (.iload_n 1, 1) := by decide +kernel
theorem dX1_row_18 : decode cX1_row 18 = .ok (.laload, 1) := by decide +kernel
theorem dX1_row_19 : decode cX1_row 19 = .ok (.goto 4, 3) := by decide +kernel
theorem dX1_row_22 : decode cX1_row 22 = .ok (.lconst 0, 1) := by decide +kernel
theorem dX1_row_23 : decode cX1_row 23 = .ok (.lreturn, 1) := by decide +kernel
theorem dX1_bit_0 : decode cX1_bit 0 = .ok (.aload_n 0, 1) := by decide +kernel
theorem dX1_bit_1 : decode cX1_bit 1 = .ok (.iload_n 1, 1) := by decide +kernel
theorem dX1_bit_2 : decode cX1_bit 2 = .ok (.invokevirtual 38, 3) := by decide +kernel
theorem dX1_bit_5 : decode cX1_bit 5 = .ok (.iload_n 2, 1) := by decide +kernel
theorem dX1_bit_6 : decode cX1_bit 6 = .ok (.lushr, 1) := by decide +kernel
theorem dX1_bit_7 : decode cX1_bit 7 = .ok (.lconst 1, 1) := by decide +kernel
theorem dX1_bit_8 : decode cX1_bit 8 = .ok (.land, 1) := by decide +kernel
theorem dX1_bit_9 : decode cX1_bit 9 = .ok (.l2i, 1) := by decide +kernel
theorem dX1_bit_10 : decode cX1_bit 10 = .ok (.ireturn, 1) := by decide +kernel
theorem dX1_outputsFor_0 : decode cX1_outputsFor 0 = .ok (.iconst 0, 1) := by decide +kernel
theorem dX1_outputsFor_1 : decode cX1_outputsFor 1 = .ok (.istore_n 3, 1) := by decide +kernel
theorem dX1_outputsFor_2 : decode cX1_outputsFor 2 = .ok (.iconst 0, 1) := by decide +kernel
theorem dX1_outputsFor_3 : decode cX1_outputsFor 3 = .ok (.istore 4, 2) := by decide +kernel
theorem dX1_outputsFor_5 : decode cX1_outputsFor 5 = .ok (.iload 4, 2) := by decide +kernel
theorem dX1_outputsFor_7 : decode cX1_outputsFor 7 = .ok (.aload_n 1, 1) := by decide +kernel
theorem dX1_outputsFor_8 : decode cX1_outputsFor 8 = .ok (.getfield 47, 3) := by decide +kernel
theorem dX1_outputsFor_11 : decode cX1_outputsFor 11 = .ok (.if_icmp .ge 26, 3) := by decide +kernel
theorem dX1_outputsFor_14 : decode cX1_outputsFor 14 = .ok (.iload_n 3, 1) := by decide +kernel
theorem dX1_outputsFor_15 : decode cX1_outputsFor 15 = .ok (.aload_n 0, 1) := by decide +kernel
theorem dX1_outputsFor_16 : decode cX1_outputsFor 16 = .ok (.aload_n 1, 1) := by decide +kernel
theorem dX1_outputsFor_17 : decode cX1_outputsFor 17 = .ok (.iload 4, 2) := by decide +kernel
theorem dX1_outputsFor_19 : decode cX1_outputsFor 19 = .ok (.invokevirtual 50, 3) := by decide +kernel
theorem dX1_outputsFor_22 : decode cX1_outputsFor 22 = .ok (.iload_n 2, 1) := by decide +kernel
theorem dX1_outputsFor_23 : decode cX1_outputsFor 23 = .ok (.invokevirtual 53, 3) := by decide +kernel
theorem dX1_outputsFor_26 : decode cX1_outputsFor 26 = .ok (.iload 4, 2) := by decide +kernel
theorem dX1_outputsFor_28 : decode cX1_outputsFor 28 = .ok (.ishl, 1) := by decide +kernel
theorem dX1_outputsFor_29 : decode cX1_outputsFor 29 = .ok (.iadd, 1) := by decide +kernel
theorem dX1_outputsFor_30 : decode cX1_outputsFor 30 = .ok (.istore_n 3, 1) := by decide +kernel
theorem dX1_outputsFor_31 : decode cX1_outputsFor 31 = .ok (.iinc 4 1, 3) := by decide +kernel
theorem dX1_outputsFor_34 : decode cX1_outputsFor 34 = .ok (.goto (-29), 3) := by decide +kernel
theorem dX1_outputsFor_37 : decode cX1_outputsFor 37 = .ok (.iload_n 3, 1) := by decide +kernel
theorem dX1_outputsFor_38 : decode cX1_outputsFor 38 = .ok (.ireturn, 1) := by decide +kernel
theorem dX1_trueSignals_0 : decode cX1_trueSignals 0 = .ok (.iconst 0, 1) := by decide +kernel
theorem dX1_trueSignals_1 : decode cX1_trueSignals 1 = .ok (.istore_n 3, 1) := by decide +kernel
theorem dX1_trueSignals_2 : decode cX1_trueSignals 2 = .ok (.iconst 0, 1) := by decide +kernel
theorem dX1_trueSignals_3 : decode cX1_trueSignals 3 = .ok (.istore 4, 2) := by decide +kernel
theorem dX1_trueSignals_5 : decode cX1_trueSignals 5 = .ok (.iload 4, 2) := by decide +kernel
theorem dX1_trueSignals_7 : decode cX1_trueSignals 7 = .ok (.aload_n 1, 1) := by decide +kernel
theorem dX1_trueSignals_8 : decode cX1_trueSignals 8 = .ok (.invokevirtual 57, 3) := by decide +kernel
theorem dX1_trueSignals_11 : decode cX1_trueSignals 11 = .ok (.if_icmp .ge 22, 3) := by decide +kernel
theorem dX1_trueSignals_14 : decode cX1_trueSignals 14 = .ok (.iload_n 3, 1) := by decide +kernel
theorem dX1_trueSignals_15 : decode cX1_trueSignals 15 = .ok (.aload_n 0, 1) := by decide +kernel
theorem dX1_trueSignals_16 : decode cX1_trueSignals 16 = .ok (.iload 4, 2) := by decide +kernel
theorem dX1_trueSignals_18 : decode cX1_trueSignals 18 = .ok (.iload_n 2, 1) := by decide +kernel
theorem dX1_trueSignals_19 : decode cX1_trueSignals 19 = .ok (.invokevirtual 53, 3) := by decide +kernel
theorem dX1_trueSignals_22 : decode cX1_trueSignals 22 = .ok (.iload 4, 2) := by decide +kernel
theorem dX1_trueSignals_24 : decode cX1_trueSignals 24 = .ok (.ishl, 1) := by decide +kernel
theorem dX1_trueSignals_25 : decode cX1_trueSignals 25 = .ok (.ior, 1) := by decide +kernel
theorem dX1_trueSignals_26 : decode cX1_trueSignals 26 = .ok (.istore_n 3, 1) := by decide +kernel
theorem dX1_trueSignals_27 : decode cX1_trueSignals 27 = .ok (.iinc 4 1, 3) := by decide +kernel
theorem dX1_trueSignals_30 : decode cX1_trueSignals 30 = .ok (.goto (-25), 3) := by decide +kernel
theorem dX1_trueSignals_33 : decode cX1_trueSignals 33 = .ok (.iload_n 3, 1) := by decide +kernel
theorem dX1_trueSignals_34 : decode cX1_trueSignals 34 = .ok (.ireturn, 1) := by decide +kernel
theorem dX1_isWrong_0 : decode cX1_isWrong 0 = .ok (.aload_n 0, 1) := by decide +kernel
theorem dX1_isWrong_1 : decode cX1_isWrong 1 = .ok (.aload_n 1, 1) := by decide +kernel
theorem dX1_isWrong_2 : decode cX1_isWrong 2 = .ok (.iload_n 2, 1) := by decide +kernel
theorem dX1_isWrong_3 : decode cX1_isWrong 3 = .ok (.invokevirtual 61, 3) := by decide +kernel
theorem dX1_isWrong_6 : decode cX1_isWrong 6 = .ok (.aload_n 1, 1) := by decide +kernel
theorem dX1_isWrong_7 : decode cX1_isWrong 7 = .ok (.iload_n 2, 1) := by decide +kernel
theorem dX1_isWrong_8 : decode cX1_isWrong 8 = .ok (.invokevirtual 65, 3) := by decide +kernel
theorem dX1_isWrong_11 : decode cX1_isWrong 11 = .ok (.if_icmp .eq 7, 3) := by decide +kernel
theorem dX1_isWrong_14 : decode cX1_isWrong 14 = .ok (.iconst 1, 1) := by decide +kernel
theorem dX1_isWrong_15 : decode cX1_isWrong 15 = .ok (.goto 4, 3) := by decide +kernel
theorem dX1_isWrong_18 : decode cX1_isWrong 18 = .ok (.iconst 0, 1) := by decide +kernel
theorem dX1_isWrong_19 : decode cX1_isWrong 19 = .ok (.ireturn, 1) := by decide +kernel
theorem dX1_firstWrong_0 : decode cX1_firstWrong 0 = .ok (.iconst 1, 1) := by decide +kernel
theorem dX1_firstWrong_1 : decode cX1_firstWrong 1 = .ok (.aload_n 1, 1) := by decide +kernel
theorem dX1_firstWrong_2 : decode cX1_firstWrong 2 = .ok (.getfield 15, 3) := by decide +kernel
theorem dX1_firstWrong_5 : decode cX1_firstWrong 5 = .ok (.ishl, 1) := by decide +kernel
theorem dX1_firstWrong_6 : decode cX1_firstWrong 6 = .ok (.istore_n 2, 1) := by decide +kernel
theorem dX1_firstWrong_7 : decode cX1_firstWrong 7 = .ok (.iconst 0, 1) := by decide +kernel
theorem dX1_firstWrong_8 : decode cX1_firstWrong 8 = .ok (.istore_n 3, 1) := by decide +kernel
theorem dX1_firstWrong_9 : decode cX1_firstWrong 9 = .ok (.iload_n 3, 1) := by decide +kernel
theorem dX1_firstWrong_10 : decode cX1_firstWrong 10 = .ok (.iload_n 2, 1) := by decide +kernel
theorem dX1_firstWrong_11 : decode cX1_firstWrong 11 = .ok (.if_icmp .ge 20, 3) := by decide +kernel
theorem dX1_firstWrong_14 : decode cX1_firstWrong 14 = .ok (.aload_n 0, 1) := by decide +kernel
theorem dX1_firstWrong_15 : decode cX1_firstWrong 15 = .ok (.aload_n 1, 1) := by decide +kernel
theorem dX1_firstWrong_16 : decode cX1_firstWrong 16 = .ok (.iload_n 3, 1) := by decide +kernel
theorem dX1_firstWrong_17 : decode cX1_firstWrong 17 = .ok (.invokevirtual 68, 3) := by decide +kernel
theorem dX1_firstWrong_20 : decode cX1_firstWrong 20 = .ok (.ifCond .eq 5, 3) := by decide +kernel
theorem dX1_firstWrong_23 : decode cX1_firstWrong 23 = .ok (.iload_n 3, 1) := by decide +kernel
theorem dX1_firstWrong_24 : decode cX1_firstWrong 24 = .ok (.ireturn, 1) := by decide +kernel
theorem dX1_firstWrong_25 : decode cX1_firstWrong 25 = .ok (.iinc 3 1, 3) := by decide +kernel
theorem dX1_firstWrong_28 : decode cX1_firstWrong 28 = .ok (.goto (-19), 3) := by decide +kernel
theorem dX1_firstWrong_31 : decode cX1_firstWrong 31 = .ok (.iconst (-1), 1) := by decide +kernel
theorem dX1_firstWrong_32 : decode cX1_firstWrong 32 = .ok (.ireturn, 1) := by decide +kernel
theorem dX1_countWrong_0 : decode cX1_countWrong 0 = .ok (.iconst 1, 1) := by decide +kernel
theorem dX1_countWrong_1 : decode cX1_countWrong 1 = .ok (.aload_n 1, 1) := by decide +kernel
theorem dX1_countWrong_2 : decode cX1_countWrong 2 = .ok (.getfield 15, 3) := by decide +kernel
theorem dX1_countWrong_5 : decode cX1_countWrong 5 = .ok (.ishl, 1) := by decide +kernel
theorem dX1_countWrong_6 : decode cX1_countWrong 6 = .ok (.istore_n 2, 1) := by decide +kernel
theorem dX1_countWrong_7 : decode cX1_countWrong 7 = .ok (.iconst 0, 1) := by decide +kernel
theorem dX1_countWrong_8 : decode cX1_countWrong 8 = .ok (.istore_n 3, 1) := by decide +kernel
theorem dX1_countWrong_9 : decode cX1_countWrong 9 = .ok (.iconst 0, 1) := by decide +kernel
theorem dX1_countWrong_10 : decode cX1_countWrong 10 = .ok (.istore 4, 2) := by decide +kernel
theorem dX1_countWrong_12 : decode cX1_countWrong 12 = .ok (.iload 4, 2) := by decide +kernel
theorem dX1_countWrong_14 : decode cX1_countWrong 14 = .ok (.iload_n 2, 1) := by decide +kernel
theorem dX1_countWrong_15 : decode cX1_countWrong 15 = .ok (.if_icmp .ge 27, 3) := by decide +kernel
theorem dX1_countWrong_18 : decode cX1_countWrong 18 = .ok (.iload_n 3, 1) := by decide +kernel
theorem dX1_countWrong_19 : decode cX1_countWrong 19 = .ok (.aload_n 0, 1) := by decide +kernel
theorem dX1_countWrong_20 : decode cX1_countWrong 20 = .ok (.aload_n 1, 1) := by decide +kernel
theorem dX1_countWrong_21 : decode cX1_countWrong 21 = .ok (.iload 4, 2) := by decide +kernel
theorem dX1_countWrong_23 : decode cX1_countWrong 23 = .ok (.invokevirtual 68, 3) := by decide +kernel
theorem dX1_countWrong_26 : decode cX1_countWrong 26 = .ok (.ifCond .eq 7, 3) := by decide +kernel
theorem dX1_countWrong_29 : decode cX1_countWrong 29 = .ok (.iconst 1, 1) := by decide +kernel
theorem dX1_countWrong_30 : decode cX1_countWrong 30 = .ok (.goto 4, 3) := by decide +kernel
theorem dX1_countWrong_33 : decode cX1_countWrong 33 = .ok (.iconst 0, 1) := by decide +kernel
theorem dX1_countWrong_34 : decode cX1_countWrong 34 = .ok (.iadd, 1) := by decide +kernel
theorem dX1_countWrong_35 : decode cX1_countWrong 35 = .ok (.istore_n 3, 1) := by decide +kernel
theorem dX1_countWrong_36 : decode cX1_countWrong 36 = .ok (.iinc 4 1, 3) := by decide +kernel
theorem dX1_countWrong_39 : decode cX1_countWrong 39 = .ok (.goto (-27), 3) := by decide +kernel
theorem dX1_countWrong_42 : decode cX1_countWrong 42 = .ok (.iload_n 3, 1) := by decide +kernel
theorem dX1_countWrong_43 : decode cX1_countWrong 43 = .ok (.ireturn, 1) := by decide +kernel
theorem dX2_init_0 : decode cX2_init 0 = .ok (.aload_n 0, 1) := by decide +kernel
theorem dX2_init_1 : decode cX2_init 1 = .ok (.invokespecial 3, 3) := by decide +kernel
theorem dX2_init_4 : decode cX2_init 4 = .ok (.aload_n 0, 1) := by decide +kernel
theorem dX2_init_5 : decode cX2_init 5 = .ok (.sipush 160, 3) := by decide +kernel
theorem dX2_init_8 : decode cX2_init 8 = .ok (.newarray .int, 2) := by decide +kernel
theorem dX2_init_10 : decode cX2_init 10 = .ok (.putfield 11, 3) := by decide +kernel
theorem dX2_init_13 : decode cX2_init 13 = .ok (.aload_n 0, 1) := by decide +kernel
theorem dX2_init_14 : decode cX2_init 14 = .ok (.sipush 160, 3) := by decide +kernel
theorem dX2_init_17 : decode cX2_init 17 = .ok (.newarray .int, 2) := by decide +kernel
theorem dX2_init_19 : decode cX2_init 19 = .ok (.putfield 15, 3) := by decide +kernel
theorem dX2_init_22 : decode cX2_init 22 = .ok (.return_, 1) := by decide +kernel
theorem dX2_add_0 : decode cX2_add 0 = .ok (.iload_n 2, 1) := by decide +kernel
theorem dX2_add_1 : decode cX2_add 1 = .ok (.ifCond .ne 4, 3) := by decide +kernel
theorem dX2_add_4 : decode cX2_add 4 = .ok (.return_, 1) := by decide +kernel
theorem dX2_add_5 : decode cX2_add 5 = .ok (.aload_n 0, 1) := by decide +kernel
theorem dX2_add_6 : decode cX2_add 6 = .ok (.iload_n 1, 1) := by decide +kernel
theorem dX2_add_7 : decode cX2_add 7 = .ok (.invokevirtual 18, 3) := by decide +kernel
theorem dX2_add_10 : decode cX2_add 10 = .ok (.istore_n 3, 1) := by decide +kernel
theorem dX2_add_11 : decode cX2_add 11 = .ok (.iload_n 3, 1) := by decide +kernel
theorem dX2_add_12 : decode cX2_add 12 = .ok (.aload_n 0, 1) := by decide +kernel
theorem dX2_add_13 : decode cX2_add 13 = .ok (.getfield 22, 3) := by decide +kernel
theorem dX2_add_16 : decode cX2_add 16 = .ok (.if_icmp .ge 15, 3) := by decide +kernel
theorem dX2_add_19 : decode cX2_add 19 = .ok (.aload_n 0, 1) := by decide +kernel
theorem dX2_add_20 : decode cX2_add 20 = .ok (.getfield 11, 3) := by decide +kernel
theorem dX2_add_23 : decode cX2_add 23 = .ok (.iload_n 3, 1) := by decide +kernel
theorem dX2_add_24 : decode cX2_add 24 = .ok (.invokestatic 26, 3) := by decide +kernel
theorem dX2_add_27 : decode cX2_add 27 = .ok (.iload_n 1, 1) := by decide +kernel
theorem dX2_add_28 : decode cX2_add 28 = .ok (.if_icmp .eq 11, 3) := by decide +kernel
theorem dX2_add_31 : decode cX2_add 31 = .ok (.aload_n 0, 1) := by decide +kernel
theorem dX2_add_32 : decode cX2_add 32 = .ok (.iload_n 3, 1) := by decide +kernel
theorem dX2_add_33 : decode cX2_add 33 = .ok (.iload_n 1, 1) := by decide +kernel
theorem dX2_add_34 : decode cX2_add 34 = .ok (.iload_n 2, 1) := by decide +kernel
theorem dX2_add_35 : decode cX2_add 35 = .ok (.invokevirtual 30, 3) := by decide +kernel
theorem dX2_add_38 : decode cX2_add 38 = .ok (.return_, 1) := by decide +kernel
theorem dX2_add_39 : decode cX2_add 39 = .ok (.aload_n 0, 1) := by decide +kernel
theorem dX2_add_40 : decode cX2_add 40 = .ok (.getfield 15, 3) := by decide +kernel
theorem dX2_add_43 : decode cX2_add 43 = .ok (.iload_n 3, 1) := by decide +kernel
theorem dX2_add_44 : decode cX2_add 44 = .ok (.invokestatic 26, 3) := by decide +kernel
theorem dX2_add_47 : decode cX2_add 47 = .ok (.iload_n 2, 1) := by decide +kernel
theorem dX2_add_48 : decode cX2_add 48 = .ok (.iadd, 1) := by decide +kernel
theorem dX2_add_49 : decode cX2_add 49 = .ok (.istore 4, 2) := by decide +kernel
theorem dX2_add_51 : decode cX2_add 51 = .ok (.iload 4, 2) := by decide +kernel
theorem dX2_add_53 : decode cX2_add 53 = .ok (.ifCond .ne 11, 3) := by decide +kernel
theorem dX2_add_56 : decode cX2_add 56 = .ok (.aload_n 0, 1) := by decide +kernel
theorem dX2_add_57 : decode cX2_add 57 = .ok (.iload_n 3, 1) := by decide +kernel
theorem dX2_add_58 : decode cX2_add 58 = .ok (.invokevirtual 34, 3) := by decide +kernel
theorem dX2_add_61 : decode cX2_add 61 = .ok (.goto 13, 3) := by decide +kernel
theorem dX2_add_64 : decode cX2_add 64 = .ok (.aload_n 0, 1) := by decide +kernel
theorem dX2_add_65 : decode cX2_add 65 = .ok (.getfield 15, 3) := by decide +kernel
theorem dX2_add_68 : decode cX2_add 68 = .ok (.iload_n 3, 1) := by decide +kernel
theorem dX2_add_69 : decode cX2_add 69 = .ok (.iload 4, 2) := by decide +kernel
theorem dX2_add_71 : decode cX2_add 71 = .ok (.invokestatic 38, 3) := by decide +kernel
theorem dX2_add_74 : decode cX2_add 74 = .ok (.return_, 1) := by decide +kernel
theorem dX2_placeOf_0 : decode cX2_placeOf 0 = .ok (.iconst 0, 1) := by decide +kernel
theorem dX2_placeOf_1 : decode cX2_placeOf 1 = .ok (.istore_n 2, 1) := by decide +kernel
theorem dX2_placeOf_2 : decode cX2_placeOf 2 = .ok (.aload_n 0, 1) := by decide +kernel
theorem dX2_placeOf_3 : decode cX2_placeOf 3 = .ok (.getfield 22, 3) := by decide +kernel
theorem dX2_placeOf_6 : decode cX2_placeOf 6 = .ok (.istore_n 3, 1) := by decide +kernel
theorem dX2_placeOf_7 : decode cX2_placeOf 7 = .ok (.iconst 0, 1) := by decide +kernel
theorem dX2_placeOf_8 : decode cX2_placeOf 8 = .ok (.istore 4, 2) := by decide +kernel
theorem dX2_placeOf_10 : decode cX2_placeOf 10 = .ok (.iload 4, 2) := by decide +kernel
theorem dX2_placeOf_12 : decode cX2_placeOf 12 = .ok (.bipush 8, 2) := by decide +kernel
theorem dX2_placeOf_14 : decode cX2_placeOf 14 = .ok (.if_icmp .ge 45, 3) := by decide +kernel
theorem dX2_placeOf_17 : decode cX2_placeOf 17 = .ok (.iload_n 2, 1) := by decide +kernel
theorem dX2_placeOf_18 : decode cX2_placeOf 18 = .ok (.iload_n 3, 1) := by decide +kernel
theorem dX2_placeOf_19 : decode cX2_placeOf 19 = .ok (.if_icmp .ge 40, 3) := by decide +kernel
theorem dX2_placeOf_22 : decode cX2_placeOf 22 = .ok (.iload_n 2, 1) := by decide +kernel
theorem dX2_placeOf_23 : decode cX2_placeOf 23 = .ok (.iload_n 3, 1) := by decide +kernel
theorem dX2_placeOf_24 : decode cX2_placeOf 24 = .ok (.iadd, 1) := by decide +kernel
theorem dX2_placeOf_25 : decode cX2_placeOf 25 = .ok (.iconst 1, 1) := by decide +kernel
theorem dX2_placeOf_26 : decode cX2_placeOf 26 = .ok (.iushr, 1) := by decide +kernel
theorem dX2_placeOf_27 : decode cX2_placeOf 27 = .ok (.istore 5, 2) := by decide +kernel
theorem dX2_placeOf_29 : decode cX2_placeOf 29 = .ok (.aload_n 0, 1) := by decide +kernel
theorem dX2_placeOf_30 : decode cX2_placeOf 30 = .ok (.getfield 11, 3) := by decide +kernel
theorem dX2_placeOf_33 : decode cX2_placeOf 33 = .ok (.iload 5, 2) := by decide +kernel
theorem dX2_placeOf_35 : decode cX2_placeOf 35 = .ok (.invokestatic 26, 3) := by decide +kernel
theorem dX2_placeOf_38 : decode cX2_placeOf 38 = .ok (.iload_n 1, 1) := by decide +kernel
theorem dX2_placeOf_39 : decode cX2_placeOf 39 = .ok (.if_icmp .le 11, 3) := by decide +kernel
theorem dX2_placeOf_42 : decode cX2_placeOf 42 = .ok (.iload 5, 2) := by decide +kernel
theorem dX2_placeOf_44 : decode cX2_placeOf 44 = .ok (.iconst 1, 1) := by decide +kernel
theorem dX2_placeOf_45 : decode cX2_placeOf 45 = .ok (.iadd, 1) := by decide +kernel
theorem dX2_placeOf_46 : decode cX2_placeOf 46 = .ok (.istore_n 2, 1) := by decide +kernel
theorem dX2_placeOf_47 : decode cX2_placeOf 47 = .ok (.goto 6, 3) := by decide +kernel
theorem dX2_placeOf_50 : decode cX2_placeOf 50 = .ok (.iload 5, 2) := by decide +kernel
theorem dX2_placeOf_52 : decode cX2_placeOf 52 = .ok (.istore_n 3, 1) := by decide +kernel
theorem dX2_placeOf_53 : decode cX2_placeOf 53 = .ok (.iinc 4 1, 3) := by decide +kernel
theorem dX2_placeOf_56 : decode cX2_placeOf 56 = .ok (.goto (-46), 3) := by decide +kernel
theorem dX2_placeOf_59 : decode cX2_placeOf 59 = .ok (.iload_n 2, 1) := by decide +kernel
theorem dX2_placeOf_60 : decode cX2_placeOf 60 = .ok (.ireturn, 1) := by decide +kernel
theorem dX2_insert_0 : decode cX2_insert 0 = .ok (.iload_n 1, 1) := by decide +kernel
theorem dX2_insert_1 : decode cX2_insert 1 = .ok (.ifCond .lt 21, 3) := by decide +kernel
theorem dX2_insert_4 : decode cX2_insert 4 = .ok (.iload_n 1, 1) := by decide +kernel
theorem dX2_insert_5 : decode cX2_insert 5 = .ok (.aload_n 0, 1) := by decide +kernel
theorem dX2_insert_6 : decode cX2_insert 6 = .ok (.getfield 22, 3) := by decide +kernel
theorem dX2_insert_9 : decode cX2_insert 9 = .ok (.if_icmp .gt 13, 3) := by decide +kernel
theorem dX2_insert_12 : decode cX2_insert 12 = .ok (.aload_n 0, 1) := by decide +kernel
theorem dX2_insert_13 : decode cX2_insert 13 = .ok (.getfield 22, 3) := by decide +kernel
theorem dX2_insert_16 : decode cX2_insert 16 = .ok (.sipush 160, 3) := by decide +kernel
theorem dX2_insert_19 : decode cX2_insert 19 = .ok (.if_icmp .lt 4, 3) := by decide +kernel
theorem dX2_insert_22 : decode cX2_insert 22 = .ok (.return_, 1) := by decide +kernel
theorem dX2_insert_23 : decode cX2_insert 23 = .ok (.aload_n 0, 1) := by decide +kernel
theorem dX2_insert_24 : decode cX2_insert 24 = .ok (.getfield 11, 3) := by decide +kernel
theorem dX2_insert_27 : decode cX2_insert 27 = .ok (.iload_n 1, 1) := by decide +kernel
theorem dX2_insert_28 : decode cX2_insert 28 = .ok (.aload_n 0, 1) := by decide +kernel
theorem dX2_insert_29 : decode cX2_insert 29 = .ok (.getfield 11, 3) := by decide +kernel
theorem dX2_insert_32 : decode cX2_insert 32 = .ok (.iload_n 1, 1) := by decide +kernel
theorem dX2_insert_33 : decode cX2_insert 33 = .ok (.iconst 1, 1) := by decide +kernel
theorem dX2_insert_34 : decode cX2_insert 34 = .ok (.iadd, 1) := by decide +kernel
theorem dX2_insert_35 : decode cX2_insert 35 = .ok (.aload_n 0, 1) := by decide +kernel
theorem dX2_insert_36 : decode cX2_insert 36 = .ok (.getfield 22, 3) := by decide +kernel
theorem dX2_insert_39 : decode cX2_insert 39 = .ok (.iload_n 1, 1) := by decide +kernel
theorem dX2_insert_40 : decode cX2_insert 40 = .ok (.isub, 1) := by decide +kernel
theorem dX2_insert_41 : decode cX2_insert 41 = .ok (.invokestatic 42, 3) := by decide +kernel
theorem dX2_insert_44 : decode cX2_insert 44 = .ok (.aload_n 0, 1) := by decide +kernel
theorem dX2_insert_45 : decode cX2_insert 45 = .ok (.getfield 15, 3) := by decide +kernel
theorem dX2_insert_48 : decode cX2_insert 48 = .ok (.iload_n 1, 1) := by decide +kernel
theorem dX2_insert_49 : decode cX2_insert 49 = .ok (.aload_n 0, 1) := by decide +kernel
theorem dX2_insert_50 : decode cX2_insert 50 = .ok (.getfield 15, 3) := by decide +kernel
theorem dX2_insert_53 : decode cX2_insert 53 = .ok (.iload_n 1, 1) := by decide +kernel
theorem dX2_insert_54 : decode cX2_insert 54 = .ok (.iconst 1, 1) := by decide +kernel
theorem dX2_insert_55 : decode cX2_insert 55 = .ok (.iadd, 1) := by decide +kernel
theorem dX2_insert_56 : decode cX2_insert 56 = .ok (.aload_n 0, 1) := by decide +kernel
theorem dX2_insert_57 : decode cX2_insert 57 = .ok (.getfield 22, 3) := by decide +kernel
theorem dX2_insert_60 : decode cX2_insert 60 = .ok (.iload_n 1, 1) := by decide +kernel
theorem dX2_insert_61 : decode cX2_insert 61 = .ok (.isub, 1) := by decide +kernel
theorem dX2_insert_62 : decode cX2_insert 62 = .ok (.invokestatic 42, 3) := by decide +kernel
theorem dX2_insert_65 : decode cX2_insert 65 = .ok (.aload_n 0, 1) := by decide +kernel
theorem dX2_insert_66 : decode cX2_insert 66 = .ok (.getfield 11, 3) := by decide +kernel
theorem dX2_insert_69 : decode cX2_insert 69 = .ok (.iload_n 1, 1) := by decide +kernel
theorem dX2_insert_70 : decode cX2_insert 70 = .ok (.iload_n 2, 1) := by decide +kernel
theorem dX2_insert_71 : decode cX2_insert 71 = .ok (.invokestatic 38, 3) := by decide +kernel
theorem dX2_insert_74 : decode cX2_insert 74 = .ok (.aload_n 0, 1) := by decide +kernel
theorem dX2_insert_75 : decode cX2_insert 75 = .ok (.getfield 15, 3) := by decide +kernel
theorem dX2_insert_78 : decode cX2_insert 78 = .ok (.iload_n 1, 1) := by decide +kernel
theorem dX2_insert_79 : decode cX2_insert 79 = .ok (.iload_n 3, 1) := by decide +kernel
theorem dX2_insert_80 : decode cX2_insert 80 = .ok (.invokestatic 38, 3) := by decide +kernel
theorem dX2_insert_83 : decode cX2_insert 83 = .ok (.aload_n 0, 1) := by decide +kernel
theorem dX2_insert_84 : decode cX2_insert 84 = .ok (.dup, 1) := by decide +kernel
theorem dX2_insert_85 : decode cX2_insert 85 = .ok (.getfield 22, 3) := by decide +kernel
theorem dX2_insert_88 : decode cX2_insert 88 = .ok (.iconst 1, 1) := by decide +kernel
theorem dX2_insert_89 : decode cX2_insert 89 = .ok (.iadd, 1) := by decide +kernel
theorem dX2_insert_90 : decode cX2_insert 90 = .ok (.putfield 22, 3) := by decide +kernel
theorem dX2_insert_93 : decode cX2_insert 93 = .ok (.return_, 1) := by decide +kernel
theorem dX2_remove_0 : decode cX2_remove 0 = .ok (.iload_n 1, 1) := by decide +kernel
theorem dX2_remove_1 : decode cX2_remove 1 = .ok (.ifCond .lt 21, 3) := by decide +kernel
theorem dX2_remove_4 : decode cX2_remove 4 = .ok (.iload_n 1, 1) := by decide +kernel
theorem dX2_remove_5 : decode cX2_remove 5 = .ok (.aload_n 0, 1) := by decide +kernel
theorem dX2_remove_6 : decode cX2_remove 6 = .ok (.getfield 22, 3) := by decide +kernel
theorem dX2_remove_9 : decode cX2_remove 9 = .ok (.if_icmp .ge 13, 3) := by decide +kernel
theorem dX2_remove_12 : decode cX2_remove 12 = .ok (.aload_n 0, 1) := by decide +kernel
theorem dX2_remove_13 : decode cX2_remove 13 = .ok (.getfield 22, 3) := by decide +kernel
theorem dX2_remove_16 : decode cX2_remove 16 = .ok (.sipush 160, 3) := by decide +kernel
theorem dX2_remove_19 : decode cX2_remove 19 = .ok (.if_icmp .le 4, 3) := by decide +kernel
theorem dX2_remove_22 : decode cX2_remove 22 = .ok (.return_, 1) := by decide +kernel
theorem dX2_remove_23 : decode cX2_remove 23 = .ok (.aload_n 0, 1) := by decide +kernel
theorem dX2_remove_24 : decode cX2_remove 24 = .ok (.getfield 22, 3) := by decide +kernel
theorem dX2_remove_27 : decode cX2_remove 27 = .ok (.iload_n 1, 1) := by decide +kernel
theorem dX2_remove_28 : decode cX2_remove 28 = .ok (.isub, 1) := by decide +kernel
theorem dX2_remove_29 : decode cX2_remove 29 = .ok (.iconst 1, 1) := by decide +kernel
theorem dX2_remove_30 : decode cX2_remove 30 = .ok (.isub, 1) := by decide +kernel
theorem dX2_remove_31 : decode cX2_remove 31 = .ok (.istore_n 2, 1) := by decide +kernel
theorem dX2_remove_32 : decode cX2_remove 32 = .ok (.aload_n 0, 1) := by decide +kernel
theorem dX2_remove_33 : decode cX2_remove 33 = .ok (.getfield 11, 3) := by decide +kernel
theorem dX2_remove_36 : decode cX2_remove 36 = .ok (.iload_n 1, 1) := by decide +kernel
theorem dX2_remove_37 : decode cX2_remove 37 = .ok (.iconst 1, 1) := by decide +kernel
theorem dX2_remove_38 : decode cX2_remove 38 = .ok (.iadd, 1) := by decide +kernel
theorem dX2_remove_39 : decode cX2_remove 39 = .ok (.aload_n 0, 1) := by decide +kernel
theorem dX2_remove_40 : decode cX2_remove 40 = .ok (.getfield 11, 3) := by decide +kernel
theorem dX2_remove_43 : decode cX2_remove 43 = .ok (.iload_n 1, 1) := by decide +kernel
theorem dX2_remove_44 : decode cX2_remove 44 = .ok (.iload_n 2, 1) := by decide +kernel
theorem dX2_remove_45 : decode cX2_remove 45 = .ok (.invokestatic 42, 3) := by decide +kernel
theorem dX2_remove_48 : decode cX2_remove 48 = .ok (.aload_n 0, 1) := by decide +kernel
theorem dX2_remove_49 : decode cX2_remove 49 = .ok (.getfield 15, 3) := by decide +kernel
theorem dX2_remove_52 : decode cX2_remove 52 = .ok (.iload_n 1, 1) := by decide +kernel
theorem dX2_remove_53 : decode cX2_remove 53 = .ok (.iconst 1, 1) := by decide +kernel
theorem dX2_remove_54 : decode cX2_remove 54 = .ok (.iadd, 1) := by decide +kernel
theorem dX2_remove_55 : decode cX2_remove 55 = .ok (.aload_n 0, 1) := by decide +kernel
theorem dX2_remove_56 : decode cX2_remove 56 = .ok (.getfield 15, 3) := by decide +kernel
theorem dX2_remove_59 : decode cX2_remove 59 = .ok (.iload_n 1, 1) := by decide +kernel
theorem dX2_remove_60 : decode cX2_remove 60 = .ok (.iload_n 2, 1) := by decide +kernel
theorem dX2_remove_61 : decode cX2_remove 61 = .ok (.invokestatic 42, 3) := by decide +kernel
theorem dX2_remove_64 : decode cX2_remove 64 = .ok (.aload_n 0, 1) := by decide +kernel
theorem dX2_remove_65 : decode cX2_remove 65 = .ok (.dup, 1) := by decide +kernel
theorem dX2_remove_66 : decode cX2_remove 66 = .ok (.getfield 22, 3) := by decide +kernel
theorem dX2_remove_69 : decode cX2_remove 69 = .ok (.iconst 1, 1) := by decide +kernel
theorem dX2_remove_70 : decode cX2_remove 70 = .ok (.isub, 1) := by decide +kernel
theorem dX2_remove_71 : decode cX2_remove 71 = .ok (.putfield 22, 3) := by decide +kernel
theorem dX2_remove_74 : decode cX2_remove 74 = .ok (.return_, 1) := by decide +kernel
theorem dX3_init_0 : decode cX3_init 0 = .ok (.aload_n 0, 1) := by decide +kernel
theorem dX3_init_1 : decode cX3_init 1 = .ok (.invokespecial 3, 3) := by decide +kernel
theorem dX3_init_4 : decode cX3_init 4 = .ok (.aload_n 0, 1) := by decide +kernel
theorem dX3_init_5 : decode cX3_init 5 = .ok (.new 9, 3) := by decide +kernel
theorem dX3_init_8 : decode cX3_init 8 = .ok (.dup, 1) := by decide +kernel
theorem dX3_init_9 : decode cX3_init 9 = .ok (.invokespecial 11, 3) := by decide +kernel
theorem dX3_init_12 : decode cX3_init 12 = .ok (.putfield 12, 3) := by decide +kernel
theorem dX3_init_15 : decode cX3_init 15 = .ok (.return_, 1) := by decide +kernel
theorem dX3_faultOf_0 : decode cX3_faultOf 0 = .ok (.aload_n 0, 1) := by decide +kernel
theorem dX3_faultOf_1 : decode cX3_faultOf 1 = .ok (.iconst 0, 1) := by decide +kernel
theorem dX3_faultOf_2 : decode cX3_faultOf 2 = .ok (.putfield 18, 3) := by decide +kernel
theorem dX3_faultOf_5 : decode cX3_faultOf 5 = .ok (.aload_n 0, 1) := by decide +kernel
theorem dX3_faultOf_6 : decode cX3_faultOf 6 = .ok (.invokevirtual 22, 3) := by decide +kernel
theorem dX3_faultOf_9 : decode cX3_faultOf 9 = .ok (.aload_n 0, 1) := by decide +kernel
theorem dX3_faultOf_10 : decode cX3_faultOf 10 = .ok (.aload_n 1, 1) := by decide +kernel
theorem dX3_faultOf_11 : decode cX3_faultOf 11 = .ok (.invokevirtual 25, 3) := by decide +kernel
theorem dX3_faultOf_14 : decode cX3_faultOf 14 = .ok (.ifCond .eq 31, 3) := by decide +kernel
theorem dX3_faultOf_17 : decode cX3_faultOf 17 = .ok (.aload_n 0, 1) := by decide +kernel
theorem dX3_faultOf_18 : decode cX3_faultOf 18 = .ok (.aload_n 1, 1) := by decide +kernel
theorem dX3_faultOf_19 : decode cX3_faultOf 19 = .ok (.invokevirtual 29, 3) := by decide +kernel
theorem dX3_faultOf_22 : decode cX3_faultOf 22 = .ok (.ifCond .eq 23, 3) := by decide +kernel
theorem dX3_faultOf_25 : decode cX3_faultOf 25 = .ok (.aload_n 0, 1) := by decide +kernel
theorem dX3_faultOf_26 : decode cX3_faultOf 26 = .ok (.aload_n 1, 1) := by decide +kernel
theorem dX3_faultOf_27 : decode cX3_faultOf 27 = .ok (.invokevirtual 32, 3) := by decide +kernel
theorem dX3_faultOf_30 : decode cX3_faultOf 30 = .ok (.ifCond .eq 15, 3) := by decide +kernel
theorem dX3_faultOf_33 : decode cX3_faultOf 33 = .ok (.aload_n 0, 1) := by decide +kernel
theorem dX3_faultOf_34 : decode cX3_faultOf 34 = .ok (.aload_n 1, 1) := by decide +kernel
theorem dX3_faultOf_35 : decode cX3_faultOf 35 = .ok (.invokevirtual 35, 3) := by decide +kernel
theorem dX3_faultOf_38 : decode cX3_faultOf 38 = .ok (.ifCond .eq 7, 3) := by decide +kernel
theorem dX3_faultOf_41 : decode cX3_faultOf 41 = .ok (.iconst 1, 1) := by decide +kernel
theorem dX3_faultOf_42 : decode cX3_faultOf 42 = .ok (.goto 4, 3) := by decide +kernel
theorem dX3_faultOf_45 : decode cX3_faultOf 45 = .ok (.iconst 0, 1) := by decide +kernel
theorem dX3_faultOf_46 : decode cX3_faultOf 46 = .ok (.istore_n 2, 1) := by decide +kernel
theorem dX3_faultOf_47 : decode cX3_faultOf 47 = .ok (.iload_n 2, 1) := by decide +kernel
theorem dX3_faultOf_48 : decode cX3_faultOf 48 = .ok (.ifCond .eq 14, 3) := by decide +kernel
theorem dX3_faultOf_51 : decode cX3_faultOf 51 = .ok (.aload_n 0, 1) := by decide +kernel
theorem dX3_faultOf_52 : decode cX3_faultOf 52 = .ok (.getfield 38, 3) := by decide +kernel
theorem dX3_faultOf_55 : decode cX3_faultOf 55 = .ok (.ifCond .ne 7, 3) := by decide +kernel
theorem dX3_faultOf_58 : decode cX3_faultOf 58 = .ok (.iconst (-1), 1) := by decide +kernel
theorem dX3_faultOf_59 : decode cX3_faultOf 59 = .ok (.goto 7, 3) := by decide +kernel
theorem dX3_faultOf_62 : decode cX3_faultOf 62 = .ok (.aload_n 0, 1) := by decide +kernel
theorem dX3_faultOf_63 : decode cX3_faultOf 63 = .ok (.getfield 41, 3) := by decide +kernel
theorem dX3_faultOf_66 : decode cX3_faultOf 66 = .ok (.ireturn, 1) := by decide +kernel
theorem dX3_readInputs_0 : decode cX3_readInputs 0 = .ok (.aload_n 0, 1) := by decide +kernel
theorem dX3_readInputs_1 : decode cX3_readInputs 1 = .ok (.ldc 44, 2) := by decide +kernel
theorem dX3_readInputs_3 : decode cX3_readInputs 3 = .ok (.invokevirtual 46, 3) := by decide +kernel
theorem dX3_readInputs_6 : decode cX3_readInputs 6 = .ok (.ifCond .ne 5, 3) := by decide +kernel
theorem dX3_readInputs_9 : decode cX3_readInputs 9 = .ok (.iconst 0, 1) := by decide +kernel
theorem dX3_readInputs_10 : decode cX3_readInputs 10 = .ok (.ireturn, 1) := by decide +kernel
theorem dX3_readInputs_11 : decode cX3_readInputs 11 = .ok (.aload_n 0, 1) := by decide +kernel
theorem dX3_readInputs_12 : decode cX3_readInputs 12 = .ok (.iconst 1, 1) := by decide +kernel
theorem dX3_readInputs_13 : decode cX3_readInputs 13 = .ok (.bipush 6, 2) := by decide +kernel
theorem dX3_readInputs_15 : decode cX3_readInputs 15 = .ok (.invokevirtual 50, 3) := by decide +kernel
theorem dX3_readInputs_18 : decode cX3_readInputs 18 = .ok (.istore_n 2, 1) := by decide +kernel
theorem dX3_readInputs_19 : decode cX3_readInputs 19 = .ok (.iload_n 2, 1) := by decide +kernel
theorem dX3_readInputs_20 : decode cX3_readInputs 20 = .ok (.iconst (-1), 1) := by decide +kernel
theorem dX3_readInputs_21 : decode cX3_readInputs 21 = .ok (.if_icmp .ne 5, 3) := by decide +kernel
theorem dX3_readInputs_24 : decode cX3_readInputs 24 = .ok (.iconst 0, 1) := by decide +kernel
theorem dX3_readInputs_25 : decode cX3_readInputs 25 = .ok (.ireturn, 1) := by decide +kernel
theorem dX3_readInputs_26 : decode cX3_readInputs 26 = .ok (.aload_n 1, 1) := by decide +kernel
theorem dX3_readInputs_27 : decode cX3_readInputs 27 = .ok (.iload_n 2, 1) := by decide +kernel
theorem dX3_readInputs_28 : decode cX3_readInputs 28 = .ok (.invokevirtual 54, 3) := by decide +kernel
theorem dX3_readInputs_31 : decode cX3_readInputs 31 = .ok (.aload_n 0, 1) := by decide +kernel
theorem dX3_readInputs_32 : decode cX3_readInputs 32 = .ok (.invokevirtual 60, 3) := by decide +kernel
theorem dX3_readInputs_35 : decode cX3_readInputs 35 = .ok (.ireturn, 1) := by decide +kernel
theorem dX3_readGates_0 : decode cX3_readGates 0 = .ok (.iconst 0, 1) := by decide +kernel
theorem dX3_readGates_1 : decode cX3_readGates 1 = .ok (.istore_n 2, 1) := by decide +kernel
theorem dX3_readGates_2 : decode cX3_readGates 2 = .ok (.iload_n 2, 1) := by decide +kernel
theorem dX3_readGates_3 : decode cX3_readGates 3 = .ok (.bipush 12, 2) := by decide +kernel
theorem dX3_readGates_5 : decode cX3_readGates 5 = .ok (.if_icmp .ge 28, 3) := by decide +kernel
theorem dX3_readGates_8 : decode cX3_readGates 8 = .ok (.aload_n 0, 1) := by decide +kernel
theorem dX3_readGates_9 : decode cX3_readGates 9 = .ok (.ldc 64, 2) := by decide +kernel
theorem dX3_readGates_11 : decode cX3_readGates 11 = .ok (.invokevirtual 46, 3) := by decide +kernel
theorem dX3_readGates_14 : decode cX3_readGates 14 = .ok (.ifCond .eq 19, 3) := by decide +kernel
theorem dX3_readGates_17 : decode cX3_readGates 17 = .ok (.aload_n 0, 1) := by decide +kernel
theorem dX3_readGates_18 : decode cX3_readGates 18 = .ok (.aload_n 1, 1) := by decide +kernel
theorem dX3_readGates_19 : decode cX3_readGates 19 = .ok (.invokevirtual 66, 3) := by decide +kernel
theorem dX3_readGates_22 : decode cX3_readGates 22 = .ok (.ifCond .ne 5, 3) := by decide +kernel
theorem dX3_readGates_25 : decode cX3_readGates 25 = .ok (.iconst 0, 1) := by decide +kernel
theorem dX3_readGates_26 : decode cX3_readGates 26 = .ok (.ireturn, 1) := by decide +kernel
theorem dX3_readGates_27 : decode cX3_readGates 27 = .ok (.iinc 2 1, 3) := by decide +kernel
theorem dX3_readGates_30 : decode cX3_readGates 30 = .ok (.goto (-28), 3) := by decide +kernel
theorem dX3_readGates_33 : decode cX3_readGates 33 = .ok (.iconst 1, 1) := by decide +kernel
theorem dX3_readGates_34 : decode cX3_readGates 34 = .ok (.ireturn, 1) := by decide +kernel
theorem dX3_readGate_0 : decode cX3_readGate 0 = .ok (.aload_n 0, 1) := by decide +kernel
theorem dX3_readGate_1 : decode cX3_readGate 1 = .ok (.invokevirtual 69, 3) := by decide +kernel
theorem dX3_readGate_4 : decode cX3_readGate 4 = .ok (.istore_n 2, 1) := by decide +kernel
theorem dX3_readGate_5 : decode cX3_readGate 5 = .ok (.iload_n 2, 1) := by decide +kernel
theorem dX3_readGate_6 : decode cX3_readGate 6 = .ok (.iconst (-1), 1) := by decide +kernel
theorem dX3_readGate_7 : decode cX3_readGate 7 = .ok (.if_icmp .ne 5, 3) := by decide +kernel
theorem dX3_readGate_10 : decode cX3_readGate 10 = .ok (.iconst 0, 1) := by decide +kernel
theorem dX3_readGate_11 : decode cX3_readGate 11 = .ok (.ireturn, 1) := by decide +kernel
theorem dX3_readGate_12 : decode cX3_readGate 12 = .ok (.aload_n 0, 1) := by decide +kernel
theorem dX3_readGate_13 : decode cX3_readGate 13 = .ok (.invokevirtual 22, 3) := by decide +kernel
theorem dX3_readGate_16 : decode cX3_readGate 16 = .ok (.aload_n 1, 1) := by decide +kernel
theorem dX3_readGate_17 : decode cX3_readGate 17 = .ok (.invokevirtual 73, 3) := by decide +kernel
theorem dX3_readGate_20 : decode cX3_readGate 20 = .ok (.iconst 1, 1) := by decide +kernel
theorem dX3_readGate_21 : decode cX3_readGate 21 = .ok (.isub, 1) := by decide +kernel
theorem dX3_readGate_22 : decode cX3_readGate 22 = .ok (.istore_n 3, 1) := by decide +kernel
theorem dX3_readGate_23 : decode cX3_readGate 23 = .ok (.aload_n 0, 1) := by decide +kernel
theorem dX3_readGate_24 : decode cX3_readGate 24 = .ok (.iconst 0, 1) := by decide +kernel
theorem dX3_readGate_25 : decode cX3_readGate 25 = .ok (.iload_n 3, 1) := by decide +kernel
theorem dX3_readGate_26 : decode cX3_readGate 26 = .ok (.invokevirtual 50, 3) := by decide +kernel
theorem dX3_readGate_29 : decode cX3_readGate 29 = .ok (.istore 4, 2) := by decide +kernel
theorem dX3_readGate_31 : decode cX3_readGate 31 = .ok (.iload 4, 2) := by decide +kernel
theorem dX3_readGate_33 : decode cX3_readGate 33 = .ok (.iconst (-1), 1) := by decide +kernel
theorem dX3_readGate_34 : decode cX3_readGate 34 = .ok (.if_icmp .ne 5, 3) := by decide +kernel
theorem dX3_readGate_37 : decode cX3_readGate 37 = .ok (.iconst 0, 1) := by decide +kernel
theorem dX3_readGate_38 : decode cX3_readGate 38 = .ok (.ireturn, 1) := by decide +kernel
theorem dX3_readGate_39 : decode cX3_readGate 39 = .ok (.iload_n 2, 1) := by decide +kernel
theorem dX3_readGate_40 : decode cX3_readGate 40 = .ok (.ifCond .ne 7, 3) := by decide +kernel
theorem dX3_readGate_43 : decode cX3_readGate 43 = .ok (.iconst (-1), 1) := by decide +kernel
theorem dX3_readGate_44 : decode cX3_readGate 44 = .ok (.goto 9, 3) := by decide +kernel
theorem dX3_readGate_47 : decode cX3_readGate 47 = .ok (.aload_n 0, 1) := by decide +kernel
theorem dX3_readGate_48 : decode cX3_readGate 48 = .ok (.iconst 0, 1) := by decide +kernel
theorem dX3_readGate_49 : decode cX3_readGate 49 = .ok (.iload_n 3, 1) := by decide +kernel
theorem dX3_readGate_50 : decode cX3_readGate 50 = .ok (.invokevirtual 50, 3) := by decide +kernel
theorem dX3_readGate_53 : decode cX3_readGate 53 = .ok (.istore 5, 2) := by decide +kernel
theorem dX3_readGate_55 : decode cX3_readGate 55 = .ok (.iload_n 2, 1) := by decide +kernel
theorem dX3_readGate_56 : decode cX3_readGate 56 = .ok (.ifCond .eq 11, 3) := by decide +kernel
theorem dX3_readGate_59 : decode cX3_readGate 59 = .ok (.iload 5, 2) := by decide +kernel
theorem dX3_readGate_61 : decode cX3_readGate 61 = .ok (.iconst (-1), 1) := by decide +kernel
theorem dX3_readGate_62 : decode cX3_readGate 62 = .ok (.if_icmp .ne 5, 3) := by decide +kernel
theorem dX3_readGate_65 : decode cX3_readGate 65 = .ok (.iconst 0, 1) := by decide +kernel
theorem dX3_readGate_66 : decode cX3_readGate 66 = .ok (.ireturn, 1) := by decide +kernel
theorem dX3_readGate_67 : decode cX3_readGate 67 = .ok (.aload_n 1, 1) := by decide +kernel
theorem dX3_readGate_68 : decode cX3_readGate 68 = .ok (.iload_n 2, 1) := by decide +kernel
theorem dX3_readGate_69 : decode cX3_readGate 69 = .ok (.iload 4, 2) := by decide +kernel
theorem dX3_readGate_71 : decode cX3_readGate 71 = .ok (.iload 5, 2) := by decide +kernel
theorem dX3_readGate_73 : decode cX3_readGate 73 = .ok (.invokevirtual 76, 3) := by decide +kernel
theorem dX3_readGate_76 : decode cX3_readGate 76 = .ok (.pop, 1) := by decide +kernel
theorem dX3_readGate_77 : decode cX3_readGate 77 = .ok (.aload_n 0, 1) := by decide +kernel
theorem dX3_readGate_78 : decode cX3_readGate 78 = .ok (.invokevirtual 60, 3) := by decide +kernel
theorem dX3_readGate_81 : decode cX3_readGate 81 = .ok (.ireturn, 1) := by decide +kernel
theorem dX3_readOutputs_0 : decode cX3_readOutputs 0 = .ok (.aload_n 0, 1) := by decide +kernel
theorem dX3_readOutputs_1 : decode cX3_readOutputs 1 = .ok (.ldc 80, 2) := by decide +kernel
theorem dX3_readOutputs_3 : decode cX3_readOutputs 3 = .ok (.invokevirtual 46, 3) := by decide +kernel
theorem dX3_readOutputs_6 : decode cX3_readOutputs 6 = .ok (.ifCond .ne 5, 3) := by decide +kernel
theorem dX3_readOutputs_9 : decode cX3_readOutputs 9 = .ok (.iconst 0, 1) := by decide +kernel
theorem dX3_readOutputs_10 : decode cX3_readOutputs 10 = .ok (.ireturn, 1) := by decide +kernel
theorem dX3_readOutputs_11 : decode cX3_readOutputs 11 = .ok (.aload_n 1, 1) := by decide +kernel
theorem dX3_readOutputs_12 : decode cX3_readOutputs 12 = .ok (.invokevirtual 73, 3) := by decide +kernel
theorem dX3_readOutputs_15 : decode cX3_readOutputs 15 = .ok (.iconst 1, 1) := by decide +kernel
theorem dX3_readOutputs_16 : decode cX3_readOutputs 16 = .ok (.isub, 1) := by decide +kernel
theorem dX3_readOutputs_17 : decode cX3_readOutputs 17 = .ok (.istore_n 2, 1) := by decide +kernel
theorem dX3_readOutputs_18 : decode cX3_readOutputs 18 = .ok (.iconst 0, 1) := by decide +kernel
theorem dX3_readOutputs_19 : decode cX3_readOutputs 19 = .ok (.istore_n 3, 1) := by decide +kernel
theorem dX3_readOutputs_20 : decode cX3_readOutputs 20 = .ok (.iload_n 3, 1) := by decide +kernel
theorem dX3_readOutputs_21 : decode cX3_readOutputs 21 = .ok (.bipush 7, 2) := by decide +kernel
theorem dX3_readOutputs_23 : decode cX3_readOutputs 23 = .ok (.if_icmp .ge 43, 3) := by decide +kernel
theorem dX3_readOutputs_26 : decode cX3_readOutputs 26 = .ok (.iload_n 3, 1) := by decide +kernel
theorem dX3_readOutputs_27 : decode cX3_readOutputs 27 = .ok (.ifCond .eq 11, 3) := by decide +kernel
theorem dX3_readOutputs_30 : decode cX3_readOutputs 30 = .ok (.aload_n 0, 1) := by decide +kernel
theorem dX3_readOutputs_31 : decode cX3_readOutputs 31 = .ok (.getfield 38, 3) := by decide +kernel
theorem dX3_readOutputs_34 : decode cX3_readOutputs 34 = .ok (.iconst 2, 1) := by decide +kernel
theorem dX3_readOutputs_35 : decode cX3_readOutputs 35 = .ok (.if_icmp .ne 31, 3) := by decide +kernel
theorem dX3_readOutputs_38 : decode cX3_readOutputs 38 = .ok (.aload_n 0, 1) := by decide +kernel
theorem dX3_readOutputs_39 : decode cX3_readOutputs 39 = .ok (.iconst 0, 1) := by decide +kernel
theorem dX3_readOutputs_40 : decode cX3_readOutputs 40 = .ok (.iload_n 2, 1) := by decide +kernel
theorem dX3_readOutputs_41 : decode cX3_readOutputs 41 = .ok (.invokevirtual 50, 3) := by decide +kernel
theorem dX3_readOutputs_44 : decode cX3_readOutputs 44 = .ok (.istore 4, 2) := by decide +kernel
theorem dX3_readOutputs_46 : decode cX3_readOutputs 46 = .ok (.iload 4, 2) := by decide +kernel
theorem dX3_readOutputs_48 : decode cX3_readOutputs 48 = .ok (.iconst (-1), 1) := by decide +kernel
theorem dX3_readOutputs_49 : decode cX3_readOutputs 49 = .ok (.if_icmp .ne 5, 3) := by decide +kernel
theorem dX3_readOutputs_52 : decode cX3_readOutputs 52 = .ok (.iconst 0, 1) := by decide +kernel
theorem dX3_readOutputs_53 : decode cX3_readOutputs 53 = .ok (.ireturn, 1) := by decide +kernel
theorem dX3_readOutputs_54 : decode cX3_readOutputs 54 = .ok (.aload_n 1, 1) := by decide +kernel
theorem dX3_readOutputs_55 : decode cX3_readOutputs 55 = .ok (.iload 4, 2) := by decide +kernel
theorem dX3_readOutputs_57 : decode cX3_readOutputs 57 = .ok (.invokevirtual 82, 3) := by decide +kernel
theorem dX3_readOutputs_60 : decode cX3_readOutputs 60 = .ok (.iinc 3 1, 3) := by decide +kernel
theorem dX3_readOutputs_63 : decode cX3_readOutputs 63 = .ok (.goto (-43), 3) := by decide +kernel
theorem dX3_readOutputs_66 : decode cX3_readOutputs 66 = .ok (.aload_n 0, 1) := by decide +kernel
theorem dX3_readOutputs_67 : decode cX3_readOutputs 67 = .ok (.invokevirtual 60, 3) := by decide +kernel
theorem dX3_readOutputs_70 : decode cX3_readOutputs 70 = .ok (.ireturn, 1) := by decide +kernel
theorem dX3_readTask_0 : decode cX3_readTask 0 = .ok (.aload_n 0, 1) := by decide +kernel
theorem dX3_readTask_1 : decode cX3_readTask 1 = .ok (.ldc 85, 2) := by decide +kernel
theorem dX3_readTask_3 : decode cX3_readTask 3 = .ok (.invokevirtual 46, 3) := by decide +kernel
theorem dX3_readTask_6 : decode cX3_readTask 6 = .ok (.ifCond .ne 5, 3) := by decide +kernel
theorem dX3_readTask_9 : decode cX3_readTask 9 = .ok (.iconst 0, 1) := by decide +kernel
theorem dX3_readTask_10 : decode cX3_readTask 10 = .ok (.ireturn, 1) := by decide +kernel
theorem dX3_readTask_11 : decode cX3_readTask 11 = .ok (.aload_n 0, 1) := by decide +kernel
theorem dX3_readTask_12 : decode cX3_readTask 12 = .ok (.invokevirtual 87, 3) := by decide +kernel
theorem dX3_readTask_15 : decode cX3_readTask 15 = .ok (.istore_n 2, 1) := by decide +kernel
theorem dX3_readTask_16 : decode cX3_readTask 16 = .ok (.iload_n 2, 1) := by decide +kernel
theorem dX3_readTask_17 : decode cX3_readTask 17 = .ok (.iconst (-1), 1) := by decide +kernel
theorem dX3_readTask_18 : decode cX3_readTask 18 = .ok (.if_icmp .ne 5, 3) := by decide +kernel
theorem dX3_readTask_21 : decode cX3_readTask 21 = .ok (.iconst 0, 1) := by decide +kernel
theorem dX3_readTask_22 : decode cX3_readTask 22 = .ok (.ireturn, 1) := by decide +kernel
theorem dX3_readTask_23 : decode cX3_readTask 23 = .ok (.aload_n 0, 1) := by decide +kernel
theorem dX3_readTask_24 : decode cX3_readTask 24 = .ok (.invokevirtual 22, 3) := by decide +kernel
theorem dX3_readTask_27 : decode cX3_readTask 27 = .ok (.aload_n 0, 1) := by decide +kernel
theorem dX3_readTask_28 : decode cX3_readTask 28 = .ok (.iconst 1, 1) := by decide +kernel
theorem dX3_readTask_29 : decode cX3_readTask 29 = .ok (.aload_n 1, 1) := by decide +kernel
theorem dX3_readTask_30 : decode cX3_readTask 30 = .ok (.getfield 90, 3) := by decide +kernel
theorem dX3_readTask_33 : decode cX3_readTask 33 = .ok (.invokevirtual 50, 3) := by decide +kernel
theorem dX3_readTask_36 : decode cX3_readTask 36 = .ok (.istore_n 3, 1) := by decide +kernel
theorem dX3_readTask_37 : decode cX3_readTask 37 = .ok (.iload_n 3, 1) := by decide +kernel
theorem dX3_readTask_38 : decode cX3_readTask 38 = .ok (.iconst (-1), 1) := by decide +kernel
theorem dX3_readTask_39 : decode cX3_readTask 39 = .ok (.if_icmp .ne 5, 3) := by decide +kernel
theorem dX3_readTask_42 : decode cX3_readTask 42 = .ok (.iconst 0, 1) := by decide +kernel
theorem dX3_readTask_43 : decode cX3_readTask 43 = .ok (.ireturn, 1) := by decide +kernel
theorem dX3_readTask_44 : decode cX3_readTask 44 = .ok (.aload_n 0, 1) := by decide +kernel
theorem dX3_readTask_45 : decode cX3_readTask 45 = .ok (.iconst 0, 1) := by decide +kernel
theorem dX3_readTask_46 : decode cX3_readTask 46 = .ok (.aload_n 1, 1) := by decide +kernel
theorem dX3_readTask_47 : decode cX3_readTask 47 = .ok (.getfield 90, 3) := by decide +kernel
theorem dX3_readTask_50 : decode cX3_readTask 50 = .ok (.iload_n 3, 1) := by decide +kernel
theorem dX3_readTask_51 : decode cX3_readTask 51 = .ok (.isub, 1) := by decide +kernel
theorem dX3_readTask_52 : decode cX3_readTask 52 = .ok (.invokevirtual 50, 3) := by decide +kernel
theorem dX3_readTask_55 : decode cX3_readTask 55 = .ok (.istore 4, 2) := by decide +kernel
theorem dX3_readTask_57 : decode cX3_readTask 57 = .ok (.iload 4, 2) := by decide +kernel
theorem dX3_readTask_59 : decode cX3_readTask 59 = .ok (.iconst (-1), 1) := by decide +kernel
theorem dX3_readTask_60 : decode cX3_readTask 60 = .ok (.if_icmp .ne 5, 3) := by decide +kernel
theorem dX3_readTask_63 : decode cX3_readTask 63 = .ok (.iconst 0, 1) := by decide +kernel
theorem dX3_readTask_64 : decode cX3_readTask 64 = .ok (.ireturn, 1) := by decide +kernel
theorem dX3_readTask_65 : decode cX3_readTask 65 = .ok (.aload_n 1, 1) := by decide +kernel
theorem dX3_readTask_66 : decode cX3_readTask 66 = .ok (.iload_n 2, 1) := by decide +kernel
theorem dX3_readTask_67 : decode cX3_readTask 67 = .ok (.iload_n 3, 1) := by decide +kernel
theorem dX3_readTask_68 : decode cX3_readTask 68 = .ok (.iload 4, 2) := by decide +kernel
theorem dX3_readTask_70 : decode cX3_readTask 70 = .ok (.invokevirtual 93, 3) := by decide +kernel
theorem dX3_readTask_73 : decode cX3_readTask 73 = .ok (.aload_n 0, 1) := by decide +kernel
theorem dX3_readTask_74 : decode cX3_readTask 74 = .ok (.invokevirtual 60, 3) := by decide +kernel
theorem dX3_readTask_77 : decode cX3_readTask 77 = .ok (.ireturn, 1) := by decide +kernel
theorem dX3_gateKind_0 : decode cX3_gateKind 0 = .ok (.iconst 0, 1) := by decide +kernel
theorem dX3_gateKind_1 : decode cX3_gateKind 1 = .ok (.istore_n 1, 1) := by decide +kernel
theorem dX3_gateKind_2 : decode cX3_gateKind 2 = .ok (.iload_n 1, 1) := by decide +kernel
theorem dX3_gateKind_3 : decode cX3_gateKind 3 = .ok (.bipush 8, 2) := by decide +kernel
theorem dX3_gateKind_5 : decode cX3_gateKind 5 = .ok (.if_icmp .ge 22, 3) := by decide +kernel
theorem dX3_gateKind_8 : decode cX3_gateKind 8 = .ok (.aload_n 0, 1) := by decide +kernel
theorem dX3_gateKind_9 : decode cX3_gateKind 9 = .ok (.iload_n 1, 1) := by decide +kernel
theorem dX3_gateKind_10 : decode cX3_gateKind 10 = .ok (.invokestatic 97, 3) := by decide +kernel
theorem dX3_gateKind_13 : decode cX3_gateKind 13 = .ok (.invokevirtual 101, 3) := by decide +kernel
theorem dX3_gateKind_16 : decode cX3_gateKind 16 = .ok (.ifCond .eq 5, 3) := by decide +kernel
theorem dX3_gateKind_19 : decode cX3_gateKind 19 = .ok (.iload_n 1, 1) := by decide +kernel
theorem dX3_gateKind_20 : decode cX3_gateKind 20 = .ok (.ireturn, 1) := by decide +kernel
theorem dX3_gateKind_21 : decode cX3_gateKind 21 = .ok (.iinc 1 1, 3) := by decide +kernel
theorem dX3_gateKind_24 : decode cX3_gateKind 24 = .ok (.goto (-22), 3) := by decide +kernel
theorem dX3_gateKind_27 : decode cX3_gateKind 27 = .ok (.iconst (-1), 1) := by decide +kernel
theorem dX3_gateKind_28 : decode cX3_gateKind 28 = .ok (.ireturn, 1) := by decide +kernel
theorem dX3_taskKind_0 : decode cX3_taskKind 0 = .ok (.iconst 0, 1) := by decide +kernel
theorem dX3_taskKind_1 : decode cX3_taskKind 1 = .ok (.istore_n 1, 1) := by decide +kernel
theorem dX3_taskKind_2 : decode cX3_taskKind 2 = .ok (.iload_n 1, 1) := by decide +kernel
theorem dX3_taskKind_3 : decode cX3_taskKind 3 = .ok (.iconst 4, 1) := by decide +kernel
theorem dX3_taskKind_4 : decode cX3_taskKind 4 = .ok (.if_icmp .ge 22, 3) := by decide +kernel
theorem dX3_taskKind_7 : decode cX3_taskKind 7 = .ok (.aload_n 0, 1) := by decide +kernel
theorem dX3_taskKind_8 : decode cX3_taskKind 8 = .ok (.iload_n 1, 1) := by decide +kernel
theorem dX3_taskKind_9 : decode cX3_taskKind 9 = .ok (.invokestatic 104, 3) := by decide +kernel
theorem dX3_taskKind_12 : decode cX3_taskKind 12 = .ok (.invokevirtual 101, 3) := by decide +kernel
theorem dX3_taskKind_15 : decode cX3_taskKind 15 = .ok (.ifCond .eq 5, 3) := by decide +kernel
theorem dX3_taskKind_18 : decode cX3_taskKind 18 = .ok (.iload_n 1, 1) := by decide +kernel
theorem dX3_taskKind_19 : decode cX3_taskKind 19 = .ok (.ireturn, 1) := by decide +kernel
theorem dX3_taskKind_20 : decode cX3_taskKind 20 = .ok (.iinc 1 1, 3) := by decide +kernel
theorem dX3_taskKind_23 : decode cX3_taskKind 23 = .ok (.goto (-21), 3) := by decide +kernel
theorem dX3_taskKind_26 : decode cX3_taskKind 26 = .ok (.iconst (-1), 1) := by decide +kernel
theorem dX3_taskKind_27 : decode cX3_taskKind 27 = .ok (.ireturn, 1) := by decide +kernel
theorem dX3_gateWord_0 : decode cX3_gateWord 0 = .ok (.iload_n 0, 1) := by decide +kernel
theorem dX3_gateWord_1 : decode cX3_gateWord 1 = .ok (.tableswitch 64 0 6 #[43, 46, 49, 52, 55, 58, 61], 43) := by decide +kernel
theorem dX3_gateWord_44 : decode cX3_gateWord 44 = .ok (.ldc 107, 2) := by decide +kernel
theorem dX3_gateWord_46 : decode cX3_gateWord 46 = .ok (.areturn, 1) := by decide +kernel
theorem dX3_gateWord_47 : decode cX3_gateWord 47 = .ok (.ldc 109, 2) := by decide +kernel
theorem dX3_gateWord_49 : decode cX3_gateWord 49 = .ok (.areturn, 1) := by decide +kernel
theorem dX3_gateWord_50 : decode cX3_gateWord 50 = .ok (.ldc 111, 2) := by decide +kernel
theorem dX3_gateWord_52 : decode cX3_gateWord 52 = .ok (.areturn, 1) := by decide +kernel
theorem dX3_gateWord_53 : decode cX3_gateWord 53 = .ok (.ldc 113, 2) := by decide +kernel
theorem dX3_gateWord_55 : decode cX3_gateWord 55 = .ok (.areturn, 1) := by decide +kernel
theorem dX3_gateWord_56 : decode cX3_gateWord 56 = .ok (.ldc 115, 2) := by decide +kernel
theorem dX3_gateWord_58 : decode cX3_gateWord 58 = .ok (.areturn, 1) := by decide +kernel
theorem dX3_gateWord_59 : decode cX3_gateWord 59 = .ok (.ldc 117, 2) := by decide +kernel
theorem dX3_gateWord_61 : decode cX3_gateWord 61 = .ok (.areturn, 1) := by decide +kernel
theorem dX3_gateWord_62 : decode cX3_gateWord 62 = .ok (.ldc 119, 2) := by decide +kernel
theorem dX3_gateWord_64 : decode cX3_gateWord 64 = .ok (.areturn, 1) := by decide +kernel
theorem dX3_gateWord_65 : decode cX3_gateWord 65 = .ok (.ldc 121, 2) := by decide +kernel
theorem dX3_gateWord_67 : decode cX3_gateWord 67 = .ok (.areturn, 1) := by decide +kernel
theorem dX3_taskWord_0 : decode cX3_taskWord 0 = .ok (.iload_n 0, 1) := by decide +kernel
theorem dX3_taskWord_1 : decode cX3_taskWord 1 = .ok (.tableswitch 36 0 2 #[27, 30, 33], 27) := by decide +kernel
theorem dX3_taskWord_28 : decode cX3_taskWord 28 = .ok (.ldc 123, 2) := by decide +kernel
theorem dX3_taskWord_30 : decode cX3_taskWord 30 = .ok (.areturn, 1) := by decide +kernel
theorem dX3_taskWord_31 : decode cX3_taskWord 31 = .ok (.ldc 125, 2) := by decide +kernel
theorem dX3_taskWord_33 : decode cX3_taskWord 33 = .ok (.areturn, 1) := by decide +kernel
theorem dX3_taskWord_34 : decode cX3_taskWord 34 = .ok (.ldc 127, 2) := by decide +kernel
theorem dX3_taskWord_36 : decode cX3_taskWord 36 = .ok (.areturn, 1) := by decide +kernel
theorem dX3_taskWord_37 : decode cX3_taskWord 37 = .ok (.ldc 129, 2) := by decide +kernel
theorem dX3_taskWord_39 : decode cX3_taskWord 39 = .ok (.areturn, 1) := by decide +kernel
theorem dX3_isWord_0 : decode cX3_isWord 0 = .ok (.aload_n 0, 1) := by decide +kernel
theorem dX3_isWord_1 : decode cX3_isWord 1 = .ok (.getfield 38, 3) := by decide +kernel
theorem dX3_isWord_4 : decode cX3_isWord 4 = .ok (.iconst 1, 1) := by decide +kernel
theorem dX3_isWord_5 : decode cX3_isWord 5 = .ok (.if_icmp .ne 19, 3) := by decide +kernel
theorem dX3_isWord_8 : decode cX3_isWord 8 = .ok (.aload_n 0, 1) := by decide +kernel
theorem dX3_isWord_9 : decode cX3_isWord 9 = .ok (.getfield 18, 3) := by decide +kernel
theorem dX3_isWord_12 : decode cX3_isWord 12 = .ok (.aload_n 0, 1) := by decide +kernel
theorem dX3_isWord_13 : decode cX3_isWord 13 = .ok (.getfield 41, 3) := by decide +kernel
theorem dX3_isWord_16 : decode cX3_isWord 16 = .ok (.isub, 1) := by decide +kernel
theorem dX3_isWord_17 : decode cX3_isWord 17 = .ok (.aload_n 1, 1) := by decide +kernel
theorem dX3_isWord_18 : decode cX3_isWord 18 = .ok (.invokevirtual 131, 3) := by decide +kernel
theorem dX3_isWord_21 : decode cX3_isWord 21 = .ok (.if_icmp .eq 5, 3) := by decide +kernel
theorem dX3_isWord_24 : decode cX3_isWord 24 = .ok (.iconst 0, 1) := by decide +kernel
theorem dX3_isWord_25 : decode cX3_isWord 25 = .ok (.ireturn, 1) := by decide +kernel
theorem dX3_isWord_26 : decode cX3_isWord 26 = .ok (.iconst 0, 1) := by decide +kernel
theorem dX3_isWord_27 : decode cX3_isWord 27 = .ok (.istore_n 2, 1) := by decide +kernel
theorem dX3_isWord_28 : decode cX3_isWord 28 = .ok (.iload_n 2, 1) := by decide +kernel
theorem dX3_isWord_29 : decode cX3_isWord 29 = .ok (.aload_n 1, 1) := by decide +kernel
theorem dX3_isWord_30 : decode cX3_isWord 30 = .ok (.invokevirtual 131, 3) := by decide +kernel
theorem dX3_isWord_33 : decode cX3_isWord 33 = .ok (.if_icmp .ge 32, 3) := by decide +kernel
theorem dX3_isWord_36 : decode cX3_isWord 36 = .ok (.aload_n 0, 1) := by decide +kernel
theorem dX3_isWord_37 : decode cX3_isWord 37 = .ok (.getfield 12, 3) := by decide +kernel
theorem dX3_isWord_40 : decode cX3_isWord 40 = .ok (.aload_n 0, 1) := by decide +kernel
theorem dX3_isWord_41 : decode cX3_isWord 41 = .ok (.getfield 41, 3) := by decide +kernel
theorem dX3_isWord_44 : decode cX3_isWord 44 = .ok (.iload_n 2, 1) := by decide +kernel
theorem dX3_isWord_45 : decode cX3_isWord 45 = .ok (.iadd, 1) := by decide +kernel
theorem dX3_isWord_46 : decode cX3_isWord 46 = .ok (.invokevirtual 136, 3) := by decide +kernel
theorem dX3_isWord_49 : decode cX3_isWord 49 = .ok (.aload_n 1, 1) := by decide +kernel
theorem dX3_isWord_50 : decode cX3_isWord 50 = .ok (.iload_n 2, 1) := by decide +kernel
theorem dX3_isWord_51 : decode cX3_isWord 51 = .ok (.invokevirtual 140, 3) := by decide +kernel
theorem dX3_isWord_54 : decode cX3_isWord 54 = .ok (.if_icmp .eq 5, 3) := by decide +kernel
theorem dX3_isWord_57 : decode cX3_isWord 57 = .ok (.iconst 0, 1) := by decide +kernel
theorem dX3_isWord_58 : decode cX3_isWord 58 = .ok (.ireturn, 1) := by decide +kernel
theorem dX3_isWord_59 : decode cX3_isWord 59 = .ok (.iinc 2 1, 3) := by decide +kernel
theorem dX3_isWord_62 : decode cX3_isWord 62 = .ok (.goto (-34), 3) := by decide +kernel
theorem dX3_isWord_65 : decode cX3_isWord 65 = .ok (.iconst 1, 1) := by decide +kernel
theorem dX3_isWord_66 : decode cX3_isWord 66 = .ok (.ireturn, 1) := by decide +kernel
theorem dX3_takeWord_0 : decode cX3_takeWord 0 = .ok (.aload_n 0, 1) := by decide +kernel
theorem dX3_takeWord_1 : decode cX3_takeWord 1 = .ok (.aload_n 1, 1) := by decide +kernel
theorem dX3_takeWord_2 : decode cX3_takeWord 2 = .ok (.invokevirtual 101, 3) := by decide +kernel
theorem dX3_takeWord_5 : decode cX3_takeWord 5 = .ok (.ifCond .ne 5, 3) := by decide +kernel
theorem dX3_takeWord_8 : decode cX3_takeWord 8 = .ok (.iconst 0, 1) := by decide +kernel
theorem dX3_takeWord_9 : decode cX3_takeWord 9 = .ok (.ireturn, 1) := by decide +kernel
theorem dX3_takeWord_10 : decode cX3_takeWord 10 = .ok (.aload_n 0, 1) := by decide +kernel
theorem dX3_takeWord_11 : decode cX3_takeWord 11 = .ok (.invokevirtual 22, 3) := by decide +kernel
theorem dX3_takeWord_14 : decode cX3_takeWord 14 = .ok (.iconst 1, 1) := by decide +kernel
theorem dX3_takeWord_15 : decode cX3_takeWord 15 = .ok (.ireturn, 1) := by decide +kernel
theorem dX3_takeNumber_0 : decode cX3_takeNumber 0 = .ok (.aload_n 0, 1) := by decide +kernel
theorem dX3_takeNumber_1 : decode cX3_takeNumber 1 = .ok (.getfield 38, 3) := by decide +kernel
theorem dX3_takeNumber_4 : decode cX3_takeNumber 4 = .ok (.iconst 2, 1) := by decide +kernel
theorem dX3_takeNumber_5 : decode cX3_takeNumber 5 = .ok (.if_icmp .ne 16, 3) := by decide +kernel
theorem dX3_takeNumber_8 : decode cX3_takeNumber 8 = .ok (.aload_n 0, 1) := by decide +kernel
theorem dX3_takeNumber_9 : decode cX3_takeNumber 9 = .ok (.getfield 18, 3) := by decide +kernel
theorem dX3_takeNumber_12 : decode cX3_takeNumber 12 = .ok (.aload_n 0, 1) := by decide +kernel
theorem dX3_takeNumber_13 : decode cX3_takeNumber 13 = .ok (.getfield 41, 3) := by decide +kernel
theorem dX3_takeNumber_16 : decode cX3_takeNumber 16 = .ok (.isub, 1) := by decide +kernel
theorem dX3_takeNumber_17 : decode cX3_takeNumber 17 = .ok (.iconst 2, 1) := by decide +kernel
theorem dX3_takeNumber_18 : decode cX3_takeNumber 18 = .ok (.if_icmp .le 5, 3) := by decide +kernel
theorem dX3_takeNumber_21 : decode cX3_takeNumber 21 = .ok (.iconst (-1), 1) := by decide +kernel
theorem dX3_takeNumber_22 : decode cX3_takeNumber 22 = .ok (.ireturn, 1) := by decide +kernel
theorem dX3_takeNumber_23 : decode cX3_takeNumber 23 = .ok (.iconst 0, 1) := by decide +kernel
theorem dX3_takeNumber_24 : decode cX3_takeNumber 24 = .ok (.istore_n 3, 1) := by decide +kernel
theorem dX3_takeNumber_25 : decode cX3_takeNumber 25 = .ok (.aload_n 0, 1) := by decide +kernel
theorem dX3_takeNumber_26 : decode cX3_takeNumber 26 = .ok (.getfield 41, 3) := by decide +kernel
theorem dX3_takeNumber_29 : decode cX3_takeNumber 29 = .ok (.istore 4, 2) := by decide +kernel
theorem dX3_takeNumber_31 : decode cX3_takeNumber 31 = .ok (.iload 4, 2) := by decide +kernel
theorem dX3_takeNumber_33 : decode cX3_takeNumber 33 = .ok (.aload_n 0, 1) := by decide +kernel
theorem dX3_takeNumber_34 : decode cX3_takeNumber 34 = .ok (.getfield 18, 3) := by decide +kernel
theorem dX3_takeNumber_37 : decode cX3_takeNumber 37 = .ok (.if_icmp .ge 27, 3) := by decide +kernel
theorem dX3_takeNumber_40 : decode cX3_takeNumber 40 = .ok (.bipush 10, 2) := by decide +kernel
theorem dX3_takeNumber_42 : decode cX3_takeNumber 42 = .ok (.iload_n 3, 1) := by decide +kernel
theorem dX3_takeNumber_43 : decode cX3_takeNumber 43 = .ok (.imul, 1) := by decide +kernel
theorem dX3_takeNumber_44 : decode cX3_takeNumber 44 = .ok (.aload_n 0, 1) := by decide +kernel
theorem dX3_takeNumber_45 : decode cX3_takeNumber 45 = .ok (.getfield 12, 3) := by decide +kernel
theorem dX3_takeNumber_48 : decode cX3_takeNumber 48 = .ok (.iload 4, 2) := by decide +kernel
theorem dX3_takeNumber_50 : decode cX3_takeNumber 50 = .ok (.invokevirtual 136, 3) := by decide +kernel
theorem dX3_takeNumber_53 : decode cX3_takeNumber 53 = .ok (.iadd, 1) := by decide +kernel
theorem dX3_takeNumber_54 : decode cX3_takeNumber 54 = .ok (.bipush 48, 2) := by decide +kernel
theorem dX3_takeNumber_56 : decode cX3_takeNumber 56 = .ok (.isub, 1) := by decide +kernel
theorem dX3_takeNumber_57 : decode cX3_takeNumber 57 = .ok (.istore_n 3, 1) := by decide +kernel
theorem dX3_takeNumber_58 : decode cX3_takeNumber 58 = .ok (.iinc 4 1, 3) := by decide +kernel
theorem dX3_takeNumber_61 : decode cX3_takeNumber 61 = .ok (.goto (-30), 3) := by decide +kernel
theorem dX3_takeNumber_64 : decode cX3_takeNumber 64 = .ok (.iload_n 3, 1) := by decide +kernel
theorem dX3_takeNumber_65 : decode cX3_takeNumber 65 = .ok (.iload_n 1, 1) := by decide +kernel
theorem dX3_takeNumber_66 : decode cX3_takeNumber 66 = .ok (.if_icmp .lt 8, 3) := by decide +kernel
theorem dX3_takeNumber_69 : decode cX3_takeNumber 69 = .ok (.iload_n 3, 1) := by decide +kernel
theorem dX3_takeNumber_70 : decode cX3_takeNumber 70 = .ok (.iload_n 2, 1) := by decide +kernel
theorem dX3_takeNumber_71 : decode cX3_takeNumber 71 = .ok (.if_icmp .le 5, 3) := by decide +kernel
theorem dX3_takeNumber_74 : decode cX3_takeNumber 74 = .ok (.iconst (-1), 1) := by decide +kernel
theorem dX3_takeNumber_75 : decode cX3_takeNumber 75 = .ok (.ireturn, 1) := by decide +kernel
theorem dX3_takeNumber_76 : decode cX3_takeNumber 76 = .ok (.aload_n 0, 1) := by decide +kernel
theorem dX3_takeNumber_77 : decode cX3_takeNumber 77 = .ok (.invokevirtual 22, 3) := by decide +kernel
theorem dX3_takeNumber_80 : decode cX3_takeNumber 80 = .ok (.iload_n 3, 1) := by decide +kernel
theorem dX3_takeNumber_81 : decode cX3_takeNumber 81 = .ok (.ireturn, 1) := by decide +kernel
theorem dX3_takeSemicolon_0 : decode cX3_takeSemicolon 0 = .ok (.aload_n 0, 1) := by decide +kernel
theorem dX3_takeSemicolon_1 : decode cX3_takeSemicolon 1 = .ok (.getfield 38, 3) := by decide +kernel
theorem dX3_takeSemicolon_4 : decode cX3_takeSemicolon 4 = .ok (.iconst 3, 1) := by decide +kernel
theorem dX3_takeSemicolon_5 : decode cX3_takeSemicolon 5 = .ok (.if_icmp .ne 19, 3) := by decide +kernel
theorem dX3_takeSemicolon_8 : decode cX3_takeSemicolon 8 = .ok (.aload_n 0, 1) := by decide +kernel
theorem dX3_takeSemicolon_9 : decode cX3_takeSemicolon 9 = .ok (.getfield 12, 3) := by decide +kernel
theorem dX3_takeSemicolon_12 : decode cX3_takeSemicolon 12 = .ok (.aload_n 0, 1) := by decide +kernel
theorem dX3_takeSemicolon_13 : decode cX3_takeSemicolon 13 = .ok (.getfield 41, 3) := by decide +kernel
theorem dX3_takeSemicolon_16 : decode cX3_takeSemicolon 16 = .ok (.invokevirtual 136, 3) := by decide +kernel
theorem dX3_takeSemicolon_19 : decode cX3_takeSemicolon 19 = .ok (.bipush 59, 2) := by decide +kernel
theorem dX3_takeSemicolon_21 : decode cX3_takeSemicolon 21 = .ok (.if_icmp .eq 5, 3) := by decide +kernel
theorem dX3_takeSemicolon_24 : decode cX3_takeSemicolon 24 = .ok (.iconst 0, 1) := by decide +kernel
theorem dX3_takeSemicolon_25 : decode cX3_takeSemicolon 25 = .ok (.ireturn, 1) := by decide +kernel
theorem dX3_takeSemicolon_26 : decode cX3_takeSemicolon 26 = .ok (.aload_n 0, 1) := by decide +kernel
theorem dX3_takeSemicolon_27 : decode cX3_takeSemicolon 27 = .ok (.invokevirtual 22, 3) := by decide +kernel
theorem dX3_takeSemicolon_30 : decode cX3_takeSemicolon 30 = .ok (.iconst 1, 1) := by decide +kernel
theorem dX3_takeSemicolon_31 : decode cX3_takeSemicolon 31 = .ok (.ireturn, 1) := by decide +kernel
theorem dX3_advance_0 : decode cX3_advance 0 = .ok (.aload_n 0, 1) := by decide +kernel
theorem dX3_advance_1 : decode cX3_advance 1 = .ok (.aload_n 0, 1) := by decide +kernel
theorem dX3_advance_2 : decode cX3_advance 2 = .ok (.getfield 18, 3) := by decide +kernel
theorem dX3_advance_5 : decode cX3_advance 5 = .ok (.putfield 41, 3) := by decide +kernel
theorem dX3_advance_8 : decode cX3_advance 8 = .ok (.aload_n 0, 1) := by decide +kernel
theorem dX3_advance_9 : decode cX3_advance 9 = .ok (.getfield 41, 3) := by decide +kernel
theorem dX3_advance_12 : decode cX3_advance 12 = .ok (.aload_n 0, 1) := by decide +kernel
theorem dX3_advance_13 : decode cX3_advance 13 = .ok (.getfield 12, 3) := by decide +kernel
theorem dX3_advance_16 : decode cX3_advance 16 = .ok (.getfield 144, 3) := by decide +kernel
theorem dX3_advance_19 : decode cX3_advance 19 = .ok (.if_icmp .ge 32, 3) := by decide +kernel
theorem dX3_advance_22 : decode cX3_advance 22 = .ok (.aload_n 0, 1) := by decide +kernel
theorem dX3_advance_23 : decode cX3_advance 23 = .ok (.getfield 12, 3) := by decide +kernel
theorem dX3_advance_26 : decode cX3_advance 26 = .ok (.aload_n 0, 1) := by decide +kernel
theorem dX3_advance_27 : decode cX3_advance 27 = .ok (.getfield 41, 3) := by decide +kernel
theorem dX3_advance_30 : decode cX3_advance 30 = .ok (.invokevirtual 136, 3) := by decide +kernel
theorem dX3_advance_33 : decode cX3_advance 33 = .ok (.bipush 32, 2) := by decide +kernel
theorem dX3_advance_35 : decode cX3_advance 35 = .ok (.if_icmp .ne 16, 3) := by decide +kernel
theorem dX3_advance_38 : decode cX3_advance 38 = .ok (.aload_n 0, 1) := by decide +kernel
theorem dX3_advance_39 : decode cX3_advance 39 = .ok (.dup, 1) := by decide +kernel
theorem dX3_advance_40 : decode cX3_advance 40 = .ok (.getfield 41, 3) := by decide +kernel
theorem dX3_advance_43 : decode cX3_advance 43 = .ok (.iconst 1, 1) := by decide +kernel
theorem dX3_advance_44 : decode cX3_advance 44 = .ok (.iadd, 1) := by decide +kernel
theorem dX3_advance_45 : decode cX3_advance 45 = .ok (.putfield 41, 3) := by decide +kernel
theorem dX3_advance_48 : decode cX3_advance 48 = .ok (.goto (-40), 3) := by decide +kernel
theorem dX3_advance_51 : decode cX3_advance 51 = .ok (.aload_n 0, 1) := by decide +kernel
theorem dX3_advance_52 : decode cX3_advance 52 = .ok (.aload_n 0, 1) := by decide +kernel
theorem dX3_advance_53 : decode cX3_advance 53 = .ok (.getfield 12, 3) := by decide +kernel
theorem dX3_advance_56 : decode cX3_advance 56 = .ok (.aload_n 0, 1) := by decide +kernel
theorem dX3_advance_57 : decode cX3_advance 57 = .ok (.getfield 41, 3) := by decide +kernel
theorem dX3_advance_60 : decode cX3_advance 60 = .ok (.invokevirtual 136, 3) := by decide +kernel
theorem dX3_advance_63 : decode cX3_advance 63 = .ok (.invokestatic 146, 3) := by decide +kernel
theorem dX3_advance_66 : decode cX3_advance 66 = .ok (.putfield 38, 3) := by decide +kernel
theorem dX3_advance_69 : decode cX3_advance 69 = .ok (.aload_n 0, 1) := by decide +kernel
theorem dX3_advance_70 : decode cX3_advance 70 = .ok (.aload_n 0, 1) := by decide +kernel
theorem dX3_advance_71 : decode cX3_advance 71 = .ok (.getfield 38, 3) := by decide +kernel
theorem dX3_advance_74 : decode cX3_advance 74 = .ok (.ifCond .ne 10, 3) := by decide +kernel
theorem dX3_advance_77 : decode cX3_advance 77 = .ok (.aload_n 0, 1) := by decide +kernel
theorem dX3_advance_78 : decode cX3_advance 78 = .ok (.getfield 41, 3) := by decide +kernel
theorem dX3_advance_81 : decode cX3_advance 81 = .ok (.goto 9, 3) := by decide +kernel
theorem dX3_advance_84 : decode cX3_advance 84 = .ok (.aload_n 0, 1) := by decide +kernel
theorem dX3_advance_85 : decode cX3_advance 85 = .ok (.getfield 41, 3) := by decide +kernel
theorem dX3_advance_88 : decode cX3_advance 88 = .ok (.iconst 1, 1) := by decide +kernel
theorem dX3_advance_89 : decode cX3_advance 89 = .ok (.iadd, 1) := by decide +kernel
theorem dX3_advance_90 : decode cX3_advance 90 = .ok (.putfield 18, 3) := by decide +kernel
theorem dX3_advance_93 : decode cX3_advance 93 = .ok (.aload_n 0, 1) := by decide +kernel
theorem dX3_advance_94 : decode cX3_advance 94 = .ok (.getfield 38, 3) := by decide +kernel
theorem dX3_advance_97 : decode cX3_advance 97 = .ok (.iconst 1, 1) := by decide +kernel
theorem dX3_advance_98 : decode cX3_advance 98 = .ok (.if_icmp .eq 11, 3) := by decide +kernel
theorem dX3_advance_101 : decode cX3_advance 101 = .ok (.aload_n 0, 1) := by decide +kernel
theorem dX3_advance_102 : decode cX3_advance 102 = .ok (.getfield 38, 3) := by decide +kernel
theorem dX3_advance_105 : decode cX3_advance 105 = .ok (.iconst 2, 1) := by decide +kernel
theorem dX3_advance_106 : decode cX3_advance 106 = .ok (.if_icmp .ne 7, 3) := by decide +kernel
theorem dX3_advance_109 : decode cX3_advance 109 = .ok (.iconst 1, 1) := by decide +kernel
theorem dX3_advance_110 : decode cX3_advance 110 = .ok (.goto 4, 3) := by decide +kernel
theorem dX3_advance_113 : decode cX3_advance 113 = .ok (.iconst 0, 1) := by decide +kernel
theorem dX3_advance_114 : decode cX3_advance 114 = .ok (.istore_n 1, 1) := by decide +kernel
theorem dX3_advance_115 : decode cX3_advance 115 = .ok (.iload_n 1, 1) := by decide +kernel
theorem dX3_advance_116 : decode cX3_advance 116 = .ok (.ifCond .eq 51, 3) := by decide +kernel
theorem dX3_advance_119 : decode cX3_advance 119 = .ok (.aload_n 0, 1) := by decide +kernel
theorem dX3_advance_120 : decode cX3_advance 120 = .ok (.getfield 18, 3) := by decide +kernel
theorem dX3_advance_123 : decode cX3_advance 123 = .ok (.aload_n 0, 1) := by decide +kernel
theorem dX3_advance_124 : decode cX3_advance 124 = .ok (.getfield 12, 3) := by decide +kernel
theorem dX3_advance_127 : decode cX3_advance 127 = .ok (.getfield 144, 3) := by decide +kernel
theorem dX3_advance_130 : decode cX3_advance 130 = .ok (.if_icmp .ge 37, 3) := by decide +kernel
theorem dX3_advance_133 : decode cX3_advance 133 = .ok (.aload_n 0, 1) := by decide +kernel
theorem dX3_advance_134 : decode cX3_advance 134 = .ok (.getfield 12, 3) := by decide +kernel
theorem dX3_advance_137 : decode cX3_advance 137 = .ok (.aload_n 0, 1) := by decide +kernel
theorem dX3_advance_138 : decode cX3_advance 138 = .ok (.getfield 18, 3) := by decide +kernel
theorem dX3_advance_141 : decode cX3_advance 141 = .ok (.invokevirtual 136, 3) := by decide +kernel
theorem dX3_advance_144 : decode cX3_advance 144 = .ok (.invokestatic 146, 3) := by decide +kernel
theorem dX3_advance_147 : decode cX3_advance 147 = .ok (.aload_n 0, 1) := by decide +kernel
theorem dX3_advance_148 : decode cX3_advance 148 = .ok (.getfield 38, 3) := by decide +kernel
theorem dX3_advance_151 : decode cX3_advance 151 = .ok (.if_icmp .ne 16, 3) := by decide +kernel
theorem dX3_advance_154 : decode cX3_advance 154 = .ok (.aload_n 0, 1) := by decide +kernel
theorem dX3_advance_155 : decode cX3_advance 155 = .ok (.dup, 1) := by decide +kernel
theorem dX3_advance_156 : decode cX3_advance 156 = .ok (.getfield 18, 3) := by decide +kernel
theorem dX3_advance_159 : decode cX3_advance 159 = .ok (.iconst 1, 1) := by decide +kernel
theorem dX3_advance_160 : decode cX3_advance 160 = .ok (.iadd, 1) := by decide +kernel
theorem dX3_advance_161 : decode cX3_advance 161 = .ok (.putfield 18, 3) := by decide +kernel
theorem dX3_advance_164 : decode cX3_advance 164 = .ok (.goto (-49), 3) := by decide +kernel
theorem dX3_advance_167 : decode cX3_advance 167 = .ok (.return_, 1) := by decide +kernel
theorem dX3_sortOf_0 : decode cX3_sortOf 0 = .ok (.iload_n 0, 1) := by decide +kernel
theorem dX3_sortOf_1 : decode cX3_sortOf 1 = .ok (.iconst (-1), 1) := by decide +kernel
theorem dX3_sortOf_2 : decode cX3_sortOf 2 = .ok (.if_icmp .ne 5, 3) := by decide +kernel
theorem dX3_sortOf_5 : decode cX3_sortOf 5 = .ok (.iconst 0, 1) := by decide +kernel
theorem dX3_sortOf_6 : decode cX3_sortOf 6 = .ok (.ireturn, 1) := by decide +kernel
theorem dX3_sortOf_7 : decode cX3_sortOf 7 = .ok (.iload_n 0, 1) := by decide +kernel
theorem dX3_sortOf_8 : decode cX3_sortOf 8 = .ok (.bipush 48, 2) := by decide +kernel
theorem dX3_sortOf_10 : decode cX3_sortOf 10 = .ok (.if_icmp .lt 11, 3) := by decide +kernel
theorem dX3_sortOf_13 : decode cX3_sortOf 13 = .ok (.iload_n 0, 1) := by decide +kernel
theorem dX3_sortOf_14 : decode cX3_sortOf 14 = .ok (.bipush 57, 2) := by decide +kernel
theorem dX3_sortOf_16 : decode cX3_sortOf 16 = .ok (.if_icmp .gt 5, 3) := by decide +kernel
theorem dX3_sortOf_19 : decode cX3_sortOf 19 = .ok (.iconst 2, 1) := by decide +kernel
theorem dX3_sortOf_20 : decode cX3_sortOf 20 = .ok (.ireturn, 1) := by decide +kernel
theorem dX3_sortOf_21 : decode cX3_sortOf 21 = .ok (.iload_n 0, 1) := by decide +kernel
theorem dX3_sortOf_22 : decode cX3_sortOf 22 = .ok (.bipush 97, 2) := by decide +kernel
theorem dX3_sortOf_24 : decode cX3_sortOf 24 = .ok (.if_icmp .lt 9, 3) := by decide +kernel
theorem dX3_sortOf_27 : decode cX3_sortOf 27 = .ok (.iload_n 0, 1) := by decide +kernel
theorem dX3_sortOf_28 : decode cX3_sortOf 28 = .ok (.bipush 122, 2) := by decide +kernel
theorem dX3_sortOf_30 : decode cX3_sortOf 30 = .ok (.if_icmp .le 15, 3) := by decide +kernel
theorem dX3_sortOf_33 : decode cX3_sortOf 33 = .ok (.iload_n 0, 1) := by decide +kernel
theorem dX3_sortOf_34 : decode cX3_sortOf 34 = .ok (.bipush 65, 2) := by decide +kernel
theorem dX3_sortOf_36 : decode cX3_sortOf 36 = .ok (.if_icmp .lt 13, 3) := by decide +kernel
theorem dX3_sortOf_39 : decode cX3_sortOf 39 = .ok (.iload_n 0, 1) := by decide +kernel
theorem dX3_sortOf_40 : decode cX3_sortOf 40 = .ok (.bipush 90, 2) := by decide +kernel
theorem dX3_sortOf_42 : decode cX3_sortOf 42 = .ok (.if_icmp .gt 7, 3) := by decide +kernel
theorem dX3_sortOf_45 : decode cX3_sortOf 45 = .ok (.iconst 1, 1) := by decide +kernel
theorem dX3_sortOf_46 : decode cX3_sortOf 46 = .ok (.goto 4, 3) := by decide +kernel
theorem dX3_sortOf_49 : decode cX3_sortOf 49 = .ok (.iconst 0, 1) := by decide +kernel
theorem dX3_sortOf_50 : decode cX3_sortOf 50 = .ok (.istore_n 1, 1) := by decide +kernel
theorem dX3_sortOf_51 : decode cX3_sortOf 51 = .ok (.iload_n 1, 1) := by decide +kernel
theorem dX3_sortOf_52 : decode cX3_sortOf 52 = .ok (.ifCond .eq 7, 3) := by decide +kernel
theorem dX3_sortOf_55 : decode cX3_sortOf 55 = .ok (.iconst 1, 1) := by decide +kernel
theorem dX3_sortOf_56 : decode cX3_sortOf 56 = .ok (.goto 4, 3) := by decide +kernel
theorem dX3_sortOf_59 : decode cX3_sortOf 59 = .ok (.iconst 3, 1) := by decide +kernel
theorem dX3_sortOf_60 : decode cX3_sortOf 60 = .ok (.ireturn, 1) := by decide +kernel
theorem dX4_init_0 : decode cX4_init 0 = .ok (.aload_n 0, 1) := by decide +kernel
theorem dX4_init_1 : decode cX4_init 1 = .ok (.invokespecial 3, 3) := by decide +kernel
theorem dX4_init_4 : decode cX4_init 4 = .ok (.aload_n 0, 1) := by decide +kernel
theorem dX4_init_5 : decode cX4_init 5 = .ok (.bipush 13, 2) := by decide +kernel
theorem dX4_init_7 : decode cX4_init 7 = .ok (.newarray .int, 2) := by decide +kernel
theorem dX4_init_9 : decode cX4_init 9 = .ok (.putfield 9, 3) := by decide +kernel
theorem dX4_init_12 : decode cX4_init 12 = .ok (.aload_n 0, 1) := by decide +kernel
theorem dX4_init_13 : decode cX4_init 13 = .ok (.sipush 520, 3) := by decide +kernel
theorem dX4_init_16 : decode cX4_init 16 = .ok (.newarray .int, 2) := by decide +kernel
theorem dX4_init_18 : decode cX4_init 18 = .ok (.putfield 15, 3) := by decide +kernel
theorem dX4_init_21 : decode cX4_init 21 = .ok (.aload_n 0, 1) := by decide +kernel
theorem dX4_init_22 : decode cX4_init 22 = .ok (.sipush 520, 3) := by decide +kernel
theorem dX4_init_25 : decode cX4_init 25 = .ok (.newarray .int, 2) := by decide +kernel
theorem dX4_init_27 : decode cX4_init 27 = .ok (.putfield 18, 3) := by decide +kernel
theorem dX4_init_30 : decode cX4_init 30 = .ok (.aload_n 0, 1) := by decide +kernel
theorem dX4_init_31 : decode cX4_init 31 = .ok (.new 21, 3) := by decide +kernel
theorem dX4_init_34 : decode cX4_init 34 = .ok (.dup, 1) := by decide +kernel
theorem dX4_init_35 : decode cX4_init 35 = .ok (.invokespecial 23, 3) := by decide +kernel
theorem dX4_init_38 : decode cX4_init 38 = .ok (.putfield 24, 3) := by decide +kernel
theorem dX4_init_41 : decode cX4_init 41 = .ok (.return_, 1) := by decide +kernel
theorem dX4_forget_0 : decode cX4_forget 0 = .ok (.aload_n 0, 1) := by decide +kernel
theorem dX4_forget_1 : decode cX4_forget 1 = .ok (.iconst 0, 1) := by decide +kernel
theorem dX4_forget_2 : decode cX4_forget 2 = .ok (.putfield 28, 3) := by decide +kernel
theorem dX4_forget_5 : decode cX4_forget 5 = .ok (.aload_n 0, 1) := by decide +kernel
theorem dX4_forget_6 : decode cX4_forget 6 = .ok (.iconst 0, 1) := by decide +kernel
theorem dX4_forget_7 : decode cX4_forget 7 = .ok (.putfield 32, 3) := by decide +kernel
theorem dX4_forget_10 : decode cX4_forget 10 = .ok (.return_, 1) := by decide +kernel
theorem dX4_reach_0 : decode cX4_reach 0 = .ok (.aload_n 0, 1) := by decide +kernel
theorem dX4_reach_1 : decode cX4_reach 1 = .ok (.getfield 28, 3) := by decide +kernel
theorem dX4_reach_4 : decode cX4_reach 4 = .ok (.istore_n 3, 1) := by decide +kernel
theorem dX4_reach_5 : decode cX4_reach 5 = .ok (.iload_n 3, 1) := by decide +kernel
theorem dX4_reach_6 : decode cX4_reach 6 = .ok (.iload_n 2, 1) := by decide +kernel
theorem dX4_reach_7 : decode cX4_reach 7 = .ok (.if_icmp .gt 69, 3) := by decide +kernel
theorem dX4_reach_10 : decode cX4_reach 10 = .ok (.iload_n 3, 1) := by decide +kernel
theorem dX4_reach_11 : decode cX4_reach 11 = .ok (.aload_n 0, 1) := by decide +kernel
theorem dX4_reach_12 : decode cX4_reach 12 = .ok (.getfield 9, 3) := by decide +kernel
theorem dX4_reach_15 : decode cX4_reach 15 = .ok (.arraylength, 1) := by decide +kernel
theorem dX4_reach_16 : decode cX4_reach 16 = .ok (.if_icmp .ge 60, 3) := by decide +kernel
theorem dX4_reach_19 : decode cX4_reach 19 = .ok (.aload_n 0, 1) := by decide +kernel
theorem dX4_reach_20 : decode cX4_reach 20 = .ok (.getfield 32, 3) := by decide +kernel
theorem dX4_reach_23 : decode cX4_reach 23 = .ok (.ifCond .ne 53, 3) := by decide +kernel
theorem dX4_reach_26 : decode cX4_reach 26 = .ok (.aload_n 0, 1) := by decide +kernel
theorem dX4_reach_27 : decode cX4_reach 27 = .ok (.getfield 24, 3) := by decide +kernel
theorem dX4_reach_30 : decode cX4_reach 30 = .ok (.iconst 0, 1) := by decide +kernel
theorem dX4_reach_31 : decode cX4_reach 31 = .ok (.putfield 36, 3) := by decide +kernel
theorem dX4_reach_34 : decode cX4_reach 34 = .ok (.iload_n 3, 1) := by decide +kernel
theorem dX4_reach_35 : decode cX4_reach 35 = .ok (.ifCond .ne 16, 3) := by decide +kernel
theorem dX4_reach_38 : decode cX4_reach 38 = .ok (.aload_n 0, 1) := by decide +kernel
theorem dX4_reach_39 : decode cX4_reach 39 = .ok (.aload_n 1, 1) := by decide +kernel
theorem dX4_reach_40 : decode cX4_reach 40 = .ok (.invokevirtual 39, 3) := by decide +kernel
theorem dX4_reach_43 : decode cX4_reach 43 = .ok (.aload_n 0, 1) := by decide +kernel
theorem dX4_reach_44 : decode cX4_reach 44 = .ok (.aload_n 1, 1) := by decide +kernel
theorem dX4_reach_45 : decode cX4_reach 45 = .ok (.invokevirtual 43, 3) := by decide +kernel
theorem dX4_reach_48 : decode cX4_reach 48 = .ok (.goto 17, 3) := by decide +kernel
theorem dX4_reach_51 : decode cX4_reach 51 = .ok (.aload_n 0, 1) := by decide +kernel
theorem dX4_reach_52 : decode cX4_reach 52 = .ok (.aload_n 1, 1) := by decide +kernel
theorem dX4_reach_53 : decode cX4_reach 53 = .ok (.iload_n 3, 1) := by decide +kernel
theorem dX4_reach_54 : decode cX4_reach 54 = .ok (.iconst 1, 1) := by decide +kernel
theorem dX4_reach_55 : decode cX4_reach 55 = .ok (.isub, 1) := by decide +kernel
theorem dX4_reach_56 : decode cX4_reach 56 = .ok (.aload_n 1, 1) := by decide +kernel
theorem dX4_reach_57 : decode cX4_reach 57 = .ok (.getfield 46, 3) := by decide +kernel
theorem dX4_reach_60 : decode cX4_reach 60 = .ok (.iload_n 3, 1) := by decide +kernel
theorem dX4_reach_61 : decode cX4_reach 61 = .ok (.isub, 1) := by decide +kernel
theorem dX4_reach_62 : decode cX4_reach 62 = .ok (.invokevirtual 51, 3) := by decide +kernel
theorem dX4_reach_65 : decode cX4_reach 65 = .ok (.aload_n 0, 1) := by decide +kernel
theorem dX4_reach_66 : decode cX4_reach 66 = .ok (.iload_n 3, 1) := by decide +kernel
theorem dX4_reach_67 : decode cX4_reach 67 = .ok (.invokevirtual 55, 3) := by decide +kernel
theorem dX4_reach_70 : decode cX4_reach 70 = .ok (.iinc 3 1, 3) := by decide +kernel
theorem dX4_reach_73 : decode cX4_reach 73 = .ok (.goto (-68), 3) := by decide +kernel
theorem dX4_reach_76 : decode cX4_reach 76 = .ok (.iload_n 2, 1) := by decide +kernel
theorem dX4_reach_77 : decode cX4_reach 77 = .ok (.aload_n 0, 1) := by decide +kernel
theorem dX4_reach_78 : decode cX4_reach 78 = .ok (.getfield 28, 3) := by decide +kernel
theorem dX4_reach_81 : decode cX4_reach 81 = .ok (.if_icmp .ge 7, 3) := by decide +kernel
theorem dX4_reach_84 : decode cX4_reach 84 = .ok (.iconst 1, 1) := by decide +kernel
theorem dX4_reach_85 : decode cX4_reach 85 = .ok (.goto 4, 3) := by decide +kernel
theorem dX4_reach_88 : decode cX4_reach 88 = .ok (.iconst 0, 1) := by decide +kernel
theorem dX4_reach_89 : decode cX4_reach 89 = .ok (.ireturn, 1) := by decide +kernel
theorem dX4_keep_0 : decode cX4_keep 0 = .ok (.aload_n 0, 1) := by decide +kernel
theorem dX4_keep_1 : decode cX4_keep 1 = .ok (.getfield 24, 3) := by decide +kernel
theorem dX4_keep_4 : decode cX4_keep 4 = .ok (.getfield 36, 3) := by decide +kernel
theorem dX4_keep_7 : decode cX4_keep 7 = .ok (.bipush 40, 2) := by decide +kernel
theorem dX4_keep_9 : decode cX4_keep 9 = .ok (.if_icmp .le 9, 3) := by decide +kernel
theorem dX4_keep_12 : decode cX4_keep 12 = .ok (.aload_n 0, 1) := by decide +kernel
theorem dX4_keep_13 : decode cX4_keep 13 = .ok (.iconst 1, 1) := by decide +kernel
theorem dX4_keep_14 : decode cX4_keep 14 = .ok (.putfield 32, 3) := by decide +kernel
theorem dX4_keep_17 : decode cX4_keep 17 = .ok (.return_, 1) := by decide +kernel
theorem dX4_keep_18 : decode cX4_keep 18 = .ok (.aload_n 0, 1) := by decide +kernel
theorem dX4_keep_19 : decode cX4_keep 19 = .ok (.getfield 9, 3) := by decide +kernel
theorem dX4_keep_22 : decode cX4_keep 22 = .ok (.iload_n 1, 1) := by decide +kernel
theorem dX4_keep_23 : decode cX4_keep 23 = .ok (.aload_n 0, 1) := by decide +kernel
theorem dX4_keep_24 : decode cX4_keep 24 = .ok (.getfield 24, 3) := by decide +kernel
theorem dX4_keep_27 : decode cX4_keep 27 = .ok (.getfield 36, 3) := by decide +kernel
theorem dX4_keep_30 : decode cX4_keep 30 = .ok (.invokestatic 59, 3) := by decide +kernel
theorem dX4_keep_33 : decode cX4_keep 33 = .ok (.iconst 0, 1) := by decide +kernel
theorem dX4_keep_34 : decode cX4_keep 34 = .ok (.istore_n 2, 1) := by decide +kernel
theorem dX4_keep_35 : decode cX4_keep 35 = .ok (.iload_n 2, 1) := by decide +kernel
theorem dX4_keep_36 : decode cX4_keep 36 = .ok (.aload_n 0, 1) := by decide +kernel
theorem dX4_keep_37 : decode cX4_keep 37 = .ok (.getfield 24, 3) := by decide +kernel
theorem dX4_keep_40 : decode cX4_keep 40 = .ok (.getfield 36, 3) := by decide +kernel
theorem dX4_keep_43 : decode cX4_keep 43 = .ok (.if_icmp .ge 57, 3) := by decide +kernel
theorem dX4_keep_46 : decode cX4_keep 46 = .ok (.aload_n 0, 1) := by decide +kernel
theorem dX4_keep_47 : decode cX4_keep 47 = .ok (.getfield 15, 3) := by decide +kernel
theorem dX4_keep_50 : decode cX4_keep 50 = .ok (.iload_n 1, 1) := by decide +kernel
theorem dX4_keep_51 : decode cX4_keep 51 = .ok (.bipush 40, 2) := by decide +kernel
theorem dX4_keep_53 : decode cX4_keep 53 = .ok (.imul, 1) := by decide +kernel
theorem dX4_keep_54 : decode cX4_keep 54 = .ok (.iload_n 2, 1) := by decide +kernel
theorem dX4_keep_55 : decode cX4_keep 55 = .ok (.iadd, 1) := by decide +kernel
theorem dX4_keep_56 : decode cX4_keep 56 = .ok (.aload_n 0, 1) := by decide +kernel
theorem dX4_keep_57 : decode cX4_keep 57 = .ok (.getfield 24, 3) := by decide +kernel
theorem dX4_keep_60 : decode cX4_keep 60 = .ok (.getfield 63, 3) := by decide +kernel
theorem dX4_keep_63 : decode cX4_keep 63 = .ok (.iload_n 2, 1) := by decide +kernel
theorem dX4_keep_64 : decode cX4_keep 64 = .ok (.invokestatic 64, 3) := by decide +kernel
theorem dX4_keep_67 : decode cX4_keep 67 = .ok (.invokestatic 59, 3) := by decide +kernel
theorem dX4_keep_70 : decode cX4_keep 70 = .ok (.aload_n 0, 1) := by decide +kernel
theorem dX4_keep_71 : decode cX4_keep 71 = .ok (.getfield 18, 3) := by decide +kernel
theorem dX4_keep_74 : decode cX4_keep 74 = .ok (.iload_n 1, 1) := by decide +kernel
theorem dX4_keep_75 : decode cX4_keep 75 = .ok (.bipush 40, 2) := by decide +kernel
theorem dX4_keep_77 : decode cX4_keep 77 = .ok (.imul, 1) := by decide +kernel
theorem dX4_keep_78 : decode cX4_keep 78 = .ok (.iload_n 2, 1) := by decide +kernel
theorem dX4_keep_79 : decode cX4_keep 79 = .ok (.iadd, 1) := by decide +kernel
theorem dX4_keep_80 : decode cX4_keep 80 = .ok (.aload_n 0, 1) := by decide +kernel
theorem dX4_keep_81 : decode cX4_keep 81 = .ok (.getfield 24, 3) := by decide +kernel
theorem dX4_keep_84 : decode cX4_keep 84 = .ok (.getfield 68, 3) := by decide +kernel
theorem dX4_keep_87 : decode cX4_keep 87 = .ok (.iload_n 2, 1) := by decide +kernel
theorem dX4_keep_88 : decode cX4_keep 88 = .ok (.invokestatic 64, 3) := by decide +kernel
theorem dX4_keep_91 : decode cX4_keep 91 = .ok (.invokestatic 59, 3) := by decide +kernel
theorem dX4_keep_94 : decode cX4_keep 94 = .ok (.iinc 2 1, 3) := by decide +kernel
theorem dX4_keep_97 : decode cX4_keep 97 = .ok (.goto (-62), 3) := by decide +kernel
theorem dX4_keep_100 : decode cX4_keep 100 = .ok (.aload_n 0, 1) := by decide +kernel
theorem dX4_keep_101 : decode cX4_keep 101 = .ok (.iload_n 1, 1) := by decide +kernel
theorem dX4_keep_102 : decode cX4_keep 102 = .ok (.iconst 1, 1) := by decide +kernel
theorem dX4_keep_103 : decode cX4_keep 103 = .ok (.iadd, 1) := by decide +kernel
theorem dX4_keep_104 : decode cX4_keep 104 = .ok (.putfield 28, 3) := by decide +kernel
theorem dX4_keep_107 : decode cX4_keep 107 = .ok (.return_, 1) := by decide +kernel
theorem dX4_addOutputs_0 : decode cX4_addOutputs 0 = .ok (.iconst 0, 1) := by decide +kernel
theorem dX4_addOutputs_1 : decode cX4_addOutputs 1 = .ok (.istore_n 2, 1) := by decide +kernel
theorem dX4_addOutputs_2 : decode cX4_addOutputs 2 = .ok (.iload_n 2, 1) := by decide +kernel
theorem dX4_addOutputs_3 : decode cX4_addOutputs 3 = .ok (.aload_n 1, 1) := by decide +kernel
theorem dX4_addOutputs_4 : decode cX4_addOutputs 4 = .ok (.getfield 69, 3) := by decide +kernel
theorem dX4_addOutputs_7 : decode cX4_addOutputs 7 = .ok (.if_icmp .ge 27, 3) := by decide +kernel
theorem dX4_addOutputs_10 : decode cX4_addOutputs 10 = .ok (.aload_n 0, 1) := by decide +kernel
theorem dX4_addOutputs_11 : decode cX4_addOutputs 11 = .ok (.getfield 24, 3) := by decide +kernel
theorem dX4_addOutputs_14 : decode cX4_addOutputs 14 = .ok (.aload_n 1, 1) := by decide +kernel
theorem dX4_addOutputs_15 : decode cX4_addOutputs 15 = .ok (.iload_n 2, 1) := by decide +kernel
theorem dX4_addOutputs_16 : decode cX4_addOutputs 16 = .ok (.invokevirtual 72, 3) := by decide +kernel
theorem dX4_addOutputs_19 : decode cX4_addOutputs 19 = .ok (.invokestatic 76, 3) := by decide +kernel
theorem dX4_addOutputs_22 : decode cX4_addOutputs 22 = .ok (.iconst 1, 1) := by decide +kernel
theorem dX4_addOutputs_23 : decode cX4_addOutputs 23 = .ok (.iload_n 2, 1) := by decide +kernel
theorem dX4_addOutputs_24 : decode cX4_addOutputs 24 = .ok (.ishl, 1) := by decide +kernel
theorem dX4_addOutputs_25 : decode cX4_addOutputs 25 = .ok (.invokevirtual 79, 3) := by decide +kernel
theorem dX4_addOutputs_28 : decode cX4_addOutputs 28 = .ok (.iinc 2 1, 3) := by decide +kernel
theorem dX4_addOutputs_31 : decode cX4_addOutputs 31 = .ok (.goto (-29), 3) := by decide +kernel
theorem dX4_addOutputs_34 : decode cX4_addOutputs 34 = .ok (.return_, 1) := by decide +kernel
theorem dX4_takeTask_0 : decode cX4_takeTask 0 = .ok (.aload_n 1, 1) := by decide +kernel
theorem dX4_takeTask_1 : decode cX4_takeTask 1 = .ok (.getfield 83, 3) := by decide +kernel
theorem dX4_takeTask_4 : decode cX4_takeTask 4 = .ok (.istore_n 2, 1) := by decide +kernel
theorem dX4_takeTask_5 : decode cX4_takeTask 5 = .ok (.aload_n 1, 1) := by decide +kernel
theorem dX4_takeTask_6 : decode cX4_takeTask 6 = .ok (.getfield 86, 3) := by decide +kernel
theorem dX4_takeTask_9 : decode cX4_takeTask 9 = .ok (.iconst 1, 1) := by decide +kernel
theorem dX4_takeTask_10 : decode cX4_takeTask 10 = .ok (.if_icmp .ne 7, 3) := by decide +kernel
theorem dX4_takeTask_13 : decode cX4_takeTask 13 = .ok (.iload_n 2, 1) := by decide +kernel
theorem dX4_takeTask_14 : decode cX4_takeTask 14 = .ok (.goto 4, 3) := by decide +kernel
theorem dX4_takeTask_17 : decode cX4_takeTask 17 = .ok (.iconst 0, 1) := by decide +kernel
theorem dX4_takeTask_18 : decode cX4_takeTask 18 = .ok (.istore_n 3, 1) := by decide +kernel
theorem dX4_takeTask_19 : decode cX4_takeTask 19 = .ok (.aload_n 1, 1) := by decide +kernel
theorem dX4_takeTask_20 : decode cX4_takeTask 20 = .ok (.getfield 86, 3) := by decide +kernel
theorem dX4_takeTask_23 : decode cX4_takeTask 23 = .ok (.iconst 1, 1) := by decide +kernel
theorem dX4_takeTask_24 : decode cX4_takeTask 24 = .ok (.if_icmp .ne 10, 3) := by decide +kernel
theorem dX4_takeTask_27 : decode cX4_takeTask 27 = .ok (.aload_n 1, 1) := by decide +kernel
theorem dX4_takeTask_28 : decode cX4_takeTask 28 = .ok (.getfield 89, 3) := by decide +kernel
theorem dX4_takeTask_31 : decode cX4_takeTask 31 = .ok (.goto 16, 3) := by decide +kernel
theorem dX4_takeTask_34 : decode cX4_takeTask 34 = .ok (.aload_n 1, 1) := by decide +kernel
theorem dX4_takeTask_35 : decode cX4_takeTask 35 = .ok (.getfield 86, 3) := by decide +kernel
theorem dX4_takeTask_38 : decode cX4_takeTask 38 = .ok (.iconst 2, 1) := by decide +kernel
theorem dX4_takeTask_39 : decode cX4_takeTask 39 = .ok (.if_icmp .ne 7, 3) := by decide +kernel
theorem dX4_takeTask_42 : decode cX4_takeTask 42 = .ok (.iload_n 2, 1) := by decide +kernel
theorem dX4_takeTask_43 : decode cX4_takeTask 43 = .ok (.goto 4, 3) := by decide +kernel
theorem dX4_takeTask_46 : decode cX4_takeTask 46 = .ok (.iconst 0, 1) := by decide +kernel
theorem dX4_takeTask_47 : decode cX4_takeTask 47 = .ok (.istore 4, 2) := by decide +kernel
theorem dX4_takeTask_49 : decode cX4_takeTask 49 = .ok (.iconst 0, 1) := by decide +kernel
theorem dX4_takeTask_50 : decode cX4_takeTask 50 = .ok (.istore 5, 2) := by decide +kernel
theorem dX4_takeTask_52 : decode cX4_takeTask 52 = .ok (.iload 5, 2) := by decide +kernel
theorem dX4_takeTask_54 : decode cX4_takeTask 54 = .ok (.iload_n 2, 1) := by decide +kernel
theorem dX4_takeTask_55 : decode cX4_takeTask 55 = .ok (.if_icmp .ge 81, 3) := by decide +kernel
theorem dX4_takeTask_58 : decode cX4_takeTask 58 = .ok (.aload_n 0, 1) := by decide +kernel
theorem dX4_takeTask_59 : decode cX4_takeTask 59 = .ok (.getfield 24, 3) := by decide +kernel
theorem dX4_takeTask_62 : decode cX4_takeTask 62 = .ok (.iload 5, 2) := by decide +kernel
theorem dX4_takeTask_64 : decode cX4_takeTask 64 = .ok (.invokestatic 76, 3) := by decide +kernel
theorem dX4_takeTask_67 : decode cX4_takeTask 67 = .ok (.getstatic 92, 3) := by decide +kernel
theorem dX4_takeTask_70 : decode cX4_takeTask 70 = .ok (.aload_n 1, 1) := by decide +kernel
theorem dX4_takeTask_71 : decode cX4_takeTask 71 = .ok (.getfield 86, 3) := by decide +kernel
theorem dX4_takeTask_74 : decode cX4_takeTask 74 = .ok (.invokestatic 64, 3) := by decide +kernel
theorem dX4_takeTask_77 : decode cX4_takeTask 77 = .ok (.ineg, 1) := by decide +kernel
theorem dX4_takeTask_78 : decode cX4_takeTask 78 = .ok (.iconst 1, 1) := by decide +kernel
theorem dX4_takeTask_79 : decode cX4_takeTask 79 = .ok (.iload 5, 2) := by decide +kernel
theorem dX4_takeTask_81 : decode cX4_takeTask 81 = .ok (.ishl, 1) := by decide +kernel
theorem dX4_takeTask_82 : decode cX4_takeTask 82 = .ok (.imul, 1) := by decide +kernel
theorem dX4_takeTask_83 : decode cX4_takeTask 83 = .ok (.invokevirtual 79, 3) := by decide +kernel
theorem dX4_takeTask_86 : decode cX4_takeTask 86 = .ok (.iconst 0, 1) := by decide +kernel
theorem dX4_takeTask_87 : decode cX4_takeTask 87 = .ok (.istore 6, 2) := by decide +kernel
theorem dX4_takeTask_89 : decode cX4_takeTask 89 = .ok (.iload 6, 2) := by decide +kernel
theorem dX4_takeTask_91 : decode cX4_takeTask 91 = .ok (.iload 4, 2) := by decide +kernel
theorem dX4_takeTask_93 : decode cX4_takeTask 93 = .ok (.if_icmp .ge 37, 3) := by decide +kernel
theorem dX4_takeTask_96 : decode cX4_takeTask 96 = .ok (.aload_n 0, 1) := by decide +kernel
theorem dX4_takeTask_97 : decode cX4_takeTask 97 = .ok (.getfield 24, 3) := by decide +kernel
theorem dX4_takeTask_100 : decode cX4_takeTask 100 = .ok (.iload 5, 2) := by decide +kernel
theorem dX4_takeTask_102 : decode cX4_takeTask 102 = .ok (.invokestatic 76, 3) := by decide +kernel
theorem dX4_takeTask_105 : decode cX4_takeTask 105 = .ok (.iload_n 3, 1) := by decide +kernel
theorem dX4_takeTask_106 : decode cX4_takeTask 106 = .ok (.iload 6, 2) := by decide +kernel
theorem dX4_takeTask_108 : decode cX4_takeTask 108 = .ok (.iadd, 1) := by decide +kernel
theorem dX4_takeTask_109 : decode cX4_takeTask 109 = .ok (.invokestatic 76, 3) := by decide +kernel
theorem dX4_takeTask_112 : decode cX4_takeTask 112 = .ok (.ior, 1) := by decide +kernel
theorem dX4_takeTask_113 : decode cX4_takeTask 113 = .ok (.iconst 1, 1) := by decide +kernel
theorem dX4_takeTask_114 : decode cX4_takeTask 114 = .ok (.iload 5, 2) := by decide +kernel
theorem dX4_takeTask_116 : decode cX4_takeTask 116 = .ok (.iload 6, 2) := by decide +kernel
theorem dX4_takeTask_118 : decode cX4_takeTask 118 = .ok (.iadd, 1) := by decide +kernel
theorem dX4_takeTask_119 : decode cX4_takeTask 119 = .ok (.ishl, 1) := by decide +kernel
theorem dX4_takeTask_120 : decode cX4_takeTask 120 = .ok (.ineg, 1) := by decide +kernel
theorem dX4_takeTask_121 : decode cX4_takeTask 121 = .ok (.invokevirtual 79, 3) := by decide +kernel
theorem dX4_takeTask_124 : decode cX4_takeTask 124 = .ok (.iinc 6 1, 3) := by decide +kernel
theorem dX4_takeTask_127 : decode cX4_takeTask 127 = .ok (.goto (-38), 3) := by decide +kernel
theorem dX4_takeTask_130 : decode cX4_takeTask 130 = .ok (.iinc 5 1, 3) := by decide +kernel
theorem dX4_takeTask_133 : decode cX4_takeTask 133 = .ok (.goto (-81), 3) := by decide +kernel
theorem dX4_takeTask_136 : decode cX4_takeTask 136 = .ok (.iconst 0, 1) := by decide +kernel
theorem dX4_takeTask_137 : decode cX4_takeTask 137 = .ok (.istore 5, 2) := by decide +kernel
theorem dX4_takeTask_139 : decode cX4_takeTask 139 = .ok (.iload 5, 2) := by decide +kernel
theorem dX4_takeTask_141 : decode cX4_takeTask 141 = .ok (.aload_n 1, 1) := by decide +kernel
theorem dX4_takeTask_142 : decode cX4_takeTask 142 = .ok (.getfield 89, 3) := by decide +kernel
theorem dX4_takeTask_145 : decode cX4_takeTask 145 = .ok (.if_icmp .ge 39, 3) := by decide +kernel
theorem dX4_takeTask_148 : decode cX4_takeTask 148 = .ok (.aload_n 0, 1) := by decide +kernel
theorem dX4_takeTask_149 : decode cX4_takeTask 149 = .ok (.getfield 24, 3) := by decide +kernel
theorem dX4_takeTask_152 : decode cX4_takeTask 152 = .ok (.iload_n 2, 1) := by decide +kernel
theorem dX4_takeTask_153 : decode cX4_takeTask 153 = .ok (.iload 5, 2) := by decide +kernel
theorem dX4_takeTask_155 : decode cX4_takeTask 155 = .ok (.iadd, 1) := by decide +kernel
theorem dX4_takeTask_156 : decode cX4_takeTask 156 = .ok (.invokestatic 76, 3) := by decide +kernel
theorem dX4_takeTask_159 : decode cX4_takeTask 159 = .ok (.getstatic 95, 3) := by decide +kernel
theorem dX4_takeTask_162 : decode cX4_takeTask 162 = .ok (.aload_n 1, 1) := by decide +kernel
theorem dX4_takeTask_163 : decode cX4_takeTask 163 = .ok (.getfield 86, 3) := by decide +kernel
theorem dX4_takeTask_166 : decode cX4_takeTask 166 = .ok (.invokestatic 64, 3) := by decide +kernel
theorem dX4_takeTask_169 : decode cX4_takeTask 169 = .ok (.ineg, 1) := by decide +kernel
theorem dX4_takeTask_170 : decode cX4_takeTask 170 = .ok (.iconst 1, 1) := by decide +kernel
theorem dX4_takeTask_171 : decode cX4_takeTask 171 = .ok (.iload 5, 2) := by decide +kernel
theorem dX4_takeTask_173 : decode cX4_takeTask 173 = .ok (.ishl, 1) := by decide +kernel
theorem dX4_takeTask_174 : decode cX4_takeTask 174 = .ok (.imul, 1) := by decide +kernel
theorem dX4_takeTask_175 : decode cX4_takeTask 175 = .ok (.invokevirtual 79, 3) := by decide +kernel
theorem dX4_takeTask_178 : decode cX4_takeTask 178 = .ok (.iinc 5 1, 3) := by decide +kernel
theorem dX4_takeTask_181 : decode cX4_takeTask 181 = .ok (.goto (-42), 3) := by decide +kernel
theorem dX4_takeTask_184 : decode cX4_takeTask 184 = .ok (.return_, 1) := by decide +kernel
theorem dX4_replaceGate_0 : decode cX4_replaceGate 0 = .ok (.aload_n 1, 1) := by decide +kernel
theorem dX4_replaceGate_1 : decode cX4_replaceGate 1 = .ok (.getfield 98, 3) := by decide +kernel
theorem dX4_replaceGate_4 : decode cX4_replaceGate 4 = .ok (.iload_n 3, 1) := by decide +kernel
theorem dX4_replaceGate_5 : decode cX4_replaceGate 5 = .ok (.iadd, 1) := by decide +kernel
theorem dX4_replaceGate_6 : decode cX4_replaceGate 6 = .ok (.invokestatic 76, 3) := by decide +kernel
theorem dX4_replaceGate_9 : decode cX4_replaceGate 9 = .ok (.istore 4, 2) := by decide +kernel
theorem dX4_replaceGate_11 : decode cX4_replaceGate 11 = .ok (.aload_n 1, 1) := by decide +kernel
theorem dX4_replaceGate_12 : decode cX4_replaceGate 12 = .ok (.iload_n 3, 1) := by decide +kernel
theorem dX4_replaceGate_13 : decode cX4_replaceGate 13 = .ok (.invokevirtual 101, 3) := by decide +kernel
theorem dX4_replaceGate_16 : decode cX4_replaceGate 16 = .ok (.invokestatic 76, 3) := by decide +kernel
theorem dX4_replaceGate_19 : decode cX4_replaceGate 19 = .ok (.istore 5, 2) := by decide +kernel
theorem dX4_replaceGate_21 : decode cX4_replaceGate 21 = .ok (.aload_n 1, 1) := by decide +kernel
theorem dX4_replaceGate_22 : decode cX4_replaceGate 22 = .ok (.iload_n 3, 1) := by decide +kernel
theorem dX4_replaceGate_23 : decode cX4_replaceGate 23 = .ok (.invokevirtual 104, 3) := by decide +kernel
theorem dX4_replaceGate_26 : decode cX4_replaceGate 26 = .ok (.invokestatic 76, 3) := by decide +kernel
theorem dX4_replaceGate_29 : decode cX4_replaceGate 29 = .ok (.istore 6, 2) := by decide +kernel
theorem dX4_replaceGate_31 : decode cX4_replaceGate 31 = .ok (.aload_n 1, 1) := by decide +kernel
theorem dX4_replaceGate_32 : decode cX4_replaceGate 32 = .ok (.iload_n 3, 1) := by decide +kernel
theorem dX4_replaceGate_33 : decode cX4_replaceGate 33 = .ok (.invokevirtual 107, 3) := by decide +kernel
theorem dX4_replaceGate_36 : decode cX4_replaceGate 36 = .ok (.istore 7, 2) := by decide +kernel
theorem dX4_replaceGate_38 : decode cX4_replaceGate 38 = .ok (.iconst 0, 1) := by decide +kernel
theorem dX4_replaceGate_39 : decode cX4_replaceGate 39 = .ok (.istore 8, 2) := by decide +kernel
theorem dX4_replaceGate_41 : decode cX4_replaceGate 41 = .ok (.iload 8, 2) := by decide +kernel
theorem dX4_replaceGate_43 : decode cX4_replaceGate 43 = .ok (.aload_n 0, 1) := by decide +kernel
theorem dX4_replaceGate_44 : decode cX4_replaceGate 44 = .ok (.iload_n 2, 1) := by decide +kernel
theorem dX4_replaceGate_45 : decode cX4_replaceGate 45 = .ok (.invokevirtual 110, 3) := by decide +kernel
theorem dX4_replaceGate_48 : decode cX4_replaceGate 48 = .ok (.if_icmp .ge 150, 3) := by decide +kernel
theorem dX4_replaceGate_51 : decode cX4_replaceGate 51 = .ok (.aload_n 0, 1) := by decide +kernel
theorem dX4_replaceGate_52 : decode cX4_replaceGate 52 = .ok (.iload_n 2, 1) := by decide +kernel
theorem dX4_replaceGate_53 : decode cX4_replaceGate 53 = .ok (.iload 8, 2) := by decide +kernel
theorem dX4_replaceGate_55 : decode cX4_replaceGate 55 = .ok (.invokevirtual 113, 3) := by decide +kernel
theorem dX4_replaceGate_58 : decode cX4_replaceGate 58 = .ok (.istore 9, 2) := by decide +kernel
theorem dX4_replaceGate_60 : decode cX4_replaceGate 60 = .ok (.aload_n 0, 1) := by decide +kernel
theorem dX4_replaceGate_61 : decode cX4_replaceGate 61 = .ok (.iload_n 2, 1) := by decide +kernel
theorem dX4_replaceGate_62 : decode cX4_replaceGate 62 = .ok (.iload 8, 2) := by decide +kernel
theorem dX4_replaceGate_64 : decode cX4_replaceGate 64 = .ok (.invokevirtual 117, 3) := by decide +kernel
theorem dX4_replaceGate_67 : decode cX4_replaceGate 67 = .ok (.istore 10, 2) := by decide +kernel
theorem dX4_replaceGate_69 : decode cX4_replaceGate 69 = .ok (.iload 9, 2) := by decide +kernel
theorem dX4_replaceGate_71 : decode cX4_replaceGate 71 = .ok (.iload 4, 2) := by decide +kernel
theorem dX4_replaceGate_73 : decode cX4_replaceGate 73 = .ok (.iand, 1) := by decide +kernel
theorem dX4_replaceGate_74 : decode cX4_replaceGate 74 = .ok (.ifCond .ne 17, 3) := by decide +kernel
theorem dX4_replaceGate_77 : decode cX4_replaceGate 77 = .ok (.aload_n 0, 1) := by decide +kernel
theorem dX4_replaceGate_78 : decode cX4_replaceGate 78 = .ok (.getfield 24, 3) := by decide +kernel
theorem dX4_replaceGate_81 : decode cX4_replaceGate 81 = .ok (.iload 9, 2) := by decide +kernel
theorem dX4_replaceGate_83 : decode cX4_replaceGate 83 = .ok (.iload 10, 2) := by decide +kernel
theorem dX4_replaceGate_85 : decode cX4_replaceGate 85 = .ok (.invokevirtual 79, 3) := by decide +kernel
theorem dX4_replaceGate_88 : decode cX4_replaceGate 88 = .ok (.goto 104, 3) := by decide +kernel
theorem dX4_replaceGate_91 : decode cX4_replaceGate 91 = .ok (.iload 9, 2) := by decide +kernel
theorem dX4_replaceGate_93 : decode cX4_replaceGate 93 = .ok (.iload 4, 2) := by decide +kernel
theorem dX4_replaceGate_95 : decode cX4_replaceGate 95 = .ok (.iconst (-1), 1) := by decide +kernel
theorem dX4_replaceGate_96 : decode cX4_replaceGate 96 = .ok (.ixor, 1) := by decide +kernel
theorem dX4_replaceGate_97 : decode cX4_replaceGate 97 = .ok (.iand, 1) := by decide +kernel
theorem dX4_replaceGate_98 : decode cX4_replaceGate 98 = .ok (.istore 11, 2) := by decide +kernel
theorem dX4_replaceGate_100 : decode cX4_replaceGate 100 = .ok (.aload_n 0, 1) := by decide +kernel
theorem dX4_replaceGate_101 : decode cX4_replaceGate 101 = .ok (.getfield 24, 3) := by decide +kernel
theorem dX4_replaceGate_104 : decode cX4_replaceGate 104 = .ok (.iload 11, 2) := by decide +kernel
theorem dX4_replaceGate_106 : decode cX4_replaceGate 106 = .ok (.iload 10, 2) := by decide +kernel
theorem dX4_replaceGate_108 : decode cX4_replaceGate 108 = .ok (.getstatic 120, 3) := by decide +kernel
theorem dX4_replaceGate_111 : decode cX4_replaceGate 111 = .ok (.iload 7, 2) := by decide +kernel
theorem dX4_replaceGate_113 : decode cX4_replaceGate 113 = .ok (.invokestatic 64, 3) := by decide +kernel
theorem dX4_replaceGate_116 : decode cX4_replaceGate 116 = .ok (.imul, 1) := by decide +kernel
theorem dX4_replaceGate_117 : decode cX4_replaceGate 117 = .ok (.invokevirtual 79, 3) := by decide +kernel
theorem dX4_replaceGate_120 : decode cX4_replaceGate 120 = .ok (.aload_n 0, 1) := by decide +kernel
theorem dX4_replaceGate_121 : decode cX4_replaceGate 121 = .ok (.getfield 24, 3) := by decide +kernel
theorem dX4_replaceGate_124 : decode cX4_replaceGate 124 = .ok (.iload 11, 2) := by decide +kernel
theorem dX4_replaceGate_126 : decode cX4_replaceGate 126 = .ok (.iload 5, 2) := by decide +kernel
theorem dX4_replaceGate_128 : decode cX4_replaceGate 128 = .ok (.ior, 1) := by decide +kernel
theorem dX4_replaceGate_129 : decode cX4_replaceGate 129 = .ok (.iload 10, 2) := by decide +kernel
theorem dX4_replaceGate_131 : decode cX4_replaceGate 131 = .ok (.getstatic 123, 3) := by decide +kernel
theorem dX4_replaceGate_134 : decode cX4_replaceGate 134 = .ok (.iload 7, 2) := by decide +kernel
theorem dX4_replaceGate_136 : decode cX4_replaceGate 136 = .ok (.invokestatic 64, 3) := by decide +kernel
theorem dX4_replaceGate_139 : decode cX4_replaceGate 139 = .ok (.imul, 1) := by decide +kernel
theorem dX4_replaceGate_140 : decode cX4_replaceGate 140 = .ok (.invokevirtual 79, 3) := by decide +kernel
theorem dX4_replaceGate_143 : decode cX4_replaceGate 143 = .ok (.aload_n 0, 1) := by decide +kernel
theorem dX4_replaceGate_144 : decode cX4_replaceGate 144 = .ok (.getfield 24, 3) := by decide +kernel
theorem dX4_replaceGate_147 : decode cX4_replaceGate 147 = .ok (.iload 11, 2) := by decide +kernel
theorem dX4_replaceGate_149 : decode cX4_replaceGate 149 = .ok (.iload 6, 2) := by decide +kernel
theorem dX4_replaceGate_151 : decode cX4_replaceGate 151 = .ok (.ior, 1) := by decide +kernel
theorem dX4_replaceGate_152 : decode cX4_replaceGate 152 = .ok (.iload 10, 2) := by decide +kernel
theorem dX4_replaceGate_154 : decode cX4_replaceGate 154 = .ok (.getstatic 126, 3) := by decide +kernel
theorem dX4_replaceGate_157 : decode cX4_replaceGate 157 = .ok (.iload 7, 2) := by decide +kernel
theorem dX4_replaceGate_159 : decode cX4_replaceGate 159 = .ok (.invokestatic 64, 3) := by decide +kernel
theorem dX4_replaceGate_162 : decode cX4_replaceGate 162 = .ok (.imul, 1) := by decide +kernel
theorem dX4_replaceGate_163 : decode cX4_replaceGate 163 = .ok (.invokevirtual 79, 3) := by decide +kernel
theorem dX4_replaceGate_166 : decode cX4_replaceGate 166 = .ok (.aload_n 0, 1) := by decide +kernel
theorem dX4_replaceGate_167 : decode cX4_replaceGate 167 = .ok (.getfield 24, 3) := by decide +kernel
theorem dX4_replaceGate_170 : decode cX4_replaceGate 170 = .ok (.iload 11, 2) := by decide +kernel
theorem dX4_replaceGate_172 : decode cX4_replaceGate 172 = .ok (.iload 5, 2) := by decide +kernel
theorem dX4_replaceGate_174 : decode cX4_replaceGate 174 = .ok (.ior, 1) := by decide +kernel
theorem dX4_replaceGate_175 : decode cX4_replaceGate 175 = .ok (.iload 6, 2) := by decide +kernel
theorem dX4_replaceGate_177 : decode cX4_replaceGate 177 = .ok (.ior, 1) := by decide +kernel
theorem dX4_replaceGate_178 : decode cX4_replaceGate 178 = .ok (.iload 10, 2) := by decide +kernel
theorem dX4_replaceGate_180 : decode cX4_replaceGate 180 = .ok (.getstatic 129, 3) := by decide +kernel
theorem dX4_replaceGate_183 : decode cX4_replaceGate 183 = .ok (.iload 7, 2) := by decide +kernel
theorem dX4_replaceGate_185 : decode cX4_replaceGate 185 = .ok (.invokestatic 64, 3) := by decide +kernel
theorem dX4_replaceGate_188 : decode cX4_replaceGate 188 = .ok (.imul, 1) := by decide +kernel
theorem dX4_replaceGate_189 : decode cX4_replaceGate 189 = .ok (.invokevirtual 79, 3) := by decide +kernel
theorem dX4_replaceGate_192 : decode cX4_replaceGate 192 = .ok (.iinc 8 1, 3) := by decide +kernel
theorem dX4_replaceGate_195 : decode cX4_replaceGate 195 = .ok (.goto (-154), 3) := by decide +kernel
theorem dX4_replaceGate_198 : decode cX4_replaceGate 198 = .ok (.return_, 1) := by decide +kernel
theorem dX4_sizeOf_0 : decode cX4_sizeOf 0 = .ok (.iload_n 1, 1) := by decide +kernel
theorem dX4_sizeOf_1 : decode cX4_sizeOf 1 = .ok (.ifCond .lt 22, 3) := by decide +kernel
theorem dX4_sizeOf_4 : decode cX4_sizeOf 4 = .ok (.iload_n 1, 1) := by decide +kernel
theorem dX4_sizeOf_5 : decode cX4_sizeOf 5 = .ok (.aload_n 0, 1) := by decide +kernel
theorem dX4_sizeOf_6 : decode cX4_sizeOf 6 = .ok (.getfield 28, 3) := by decide +kernel
theorem dX4_sizeOf_9 : decode cX4_sizeOf 9 = .ok (.if_icmp .ge 14, 3) := by decide +kernel
theorem dX4_sizeOf_12 : decode cX4_sizeOf 12 = .ok (.aload_n 0, 1) := by decide +kernel
theorem dX4_sizeOf_13 : decode cX4_sizeOf 13 = .ok (.getfield 9, 3) := by decide +kernel
theorem dX4_sizeOf_16 : decode cX4_sizeOf 16 = .ok (.iload_n 1, 1) := by decide +kernel
theorem dX4_sizeOf_17 : decode cX4_sizeOf 17 = .ok (.invokestatic 64, 3) := by decide +kernel
theorem dX4_sizeOf_20 : decode cX4_sizeOf 20 = .ok (.goto 4, 3) := by decide +kernel
theorem dX4_sizeOf_23 : decode cX4_sizeOf 23 = .ok (.iconst 0, 1) := by decide +kernel
theorem dX4_sizeOf_24 : decode cX4_sizeOf 24 = .ok (.ireturn, 1) := by decide +kernel
theorem dX4_setAt_0 : decode cX4_setAt 0 = .ok (.aload_n 0, 1) := by decide +kernel
theorem dX4_setAt_1 : decode cX4_setAt 1 = .ok (.getfield 15, 3) := by decide +kernel
theorem dX4_setAt_4 : decode cX4_setAt 4 = .ok (.iload_n 1, 1) := by decide +kernel
theorem dX4_setAt_5 : decode cX4_setAt 5 = .ok (.bipush 40, 2) := by decide +kernel
theorem dX4_setAt_7 : decode cX4_setAt 7 = .ok (.imul, 1) := by decide +kernel
theorem dX4_setAt_8 : decode cX4_setAt 8 = .ok (.iload_n 2, 1) := by decide +kernel
