theorem dX7_task_28 : decode cX7_task 28 = .ok (.ishl, 1) := by decide +kernel
theorem dX7_task_29 : decode cX7_task 29 = .ok (.iconst 1, 1) := by decide +kernel
theorem dX7_task_30 : decode cX7_task 30 = .ok (.isub, 1) := by decide +kernel
theorem dX7_task_31 : decode cX7_task 31 = .ok (.iand, 1) := by decide +kernel
theorem dX7_task_32 : decode cX7_task 32 = .ok (.istore_n 3, 1) := by decide +kernel
theorem dX7_task_33 : decode cX7_task 33 = .ok (.aload_n 0, 1) := by decide +kernel
theorem dX7_task_34 : decode cX7_task 34 = .ok (.getfield 7, 3) := by decide +kernel
theorem dX7_task_37 : decode cX7_task 37 = .ok (.iconst 3, 1) := by decide +kernel
theorem dX7_task_38 : decode cX7_task 38 = .ok (.iaload, 1) := by decide +kernel
theorem dX7_task_39 : decode cX7_task 39 = .ok (.istore 4, 2) := by decide +kernel
theorem dX7_task_41 : decode cX7_task 41 = .ok (.iload 4, 2) := by decide +kernel
theorem dX7_task_43 : decode cX7_task 43 = .ok (.ifCond .ne 9, 3) := by decide +kernel
theorem dX7_task_46 : decode cX7_task 46 = .ok (.iload_n 2, 1) := by decide +kernel
theorem dX7_task_47 : decode cX7_task 47 = .ok (.iload_n 3, 1) := by decide +kernel
theorem dX7_task_48 : decode cX7_task 48 = .ok (.iadd, 1) := by decide +kernel
theorem dX7_task_49 : decode cX7_task 49 = .ok (.goto 34, 3) := by decide +kernel
theorem dX7_task_52 : decode cX7_task 52 = .ok (.iload 4, 2) := by decide +kernel
theorem dX7_task_54 : decode cX7_task 54 = .ok (.iconst 1, 1) := by decide +kernel
theorem dX7_task_55 : decode cX7_task 55 = .ok (.if_icmp .ne 9, 3) := by decide +kernel
theorem dX7_task_58 : decode cX7_task 58 = .ok (.iload_n 2, 1) := by decide +kernel
theorem dX7_task_59 : decode cX7_task 59 = .ok (.iload_n 3, 1) := by decide +kernel
theorem dX7_task_60 : decode cX7_task 60 = .ok (.imul, 1) := by decide +kernel
theorem dX7_task_61 : decode cX7_task 61 = .ok (.goto 22, 3) := by decide +kernel
theorem dX7_task_64 : decode cX7_task 64 = .ok (.iload 4, 2) := by decide +kernel
theorem dX7_task_66 : decode cX7_task 66 = .ok (.iconst 2, 1) := by decide +kernel
theorem dX7_task_67 : decode cX7_task 67 = .ok (.if_icmp .ne 11, 3) := by decide +kernel
theorem dX7_task_70 : decode cX7_task 70 = .ok (.iload_n 2, 1) := by decide +kernel
theorem dX7_task_71 : decode cX7_task 71 = .ok (.iload_n 2, 1) := by decide +kernel
theorem dX7_task_72 : decode cX7_task 72 = .ok (.imul, 1) := by decide +kernel
theorem dX7_task_73 : decode cX7_task 73 = .ok (.iload_n 3, 1) := by decide +kernel
theorem dX7_task_74 : decode cX7_task 74 = .ok (.iadd, 1) := by decide +kernel
theorem dX7_task_75 : decode cX7_task 75 = .ok (.goto 8, 3) := by decide +kernel
theorem dX7_task_78 : decode cX7_task 78 = .ok (.iconst 3, 1) := by decide +kernel
theorem dX7_task_79 : decode cX7_task 79 = .ok (.iload_n 2, 1) := by decide +kernel
theorem dX7_task_80 : decode cX7_task 80 = .ok (.imul, 1) := by decide +kernel
theorem dX7_task_81 : decode cX7_task 81 = .ok (.iload_n 3, 1) := by decide +kernel
theorem dX7_task_82 : decode cX7_task 82 = .ok (.isub, 1) := by decide +kernel
theorem dX7_task_83 : decode cX7_task 83 = .ok (.ireturn, 1) := by decide +kernel
theorem dX7_wrongOnes_0 : decode cX7_wrongOnes 0 = .ok (.iconst 0, 1) := by decide +kernel
theorem dX7_wrongOnes_1 : decode cX7_wrongOnes 1 = .ok (.istore_n 2, 1) := by decide +kernel
theorem dX7_wrongOnes_2 : decode cX7_wrongOnes 2 = .ok (.iconst 0, 1) := by decide +kernel
theorem dX7_wrongOnes_3 : decode cX7_wrongOnes 3 = .ok (.istore_n 3, 1) := by decide +kernel
theorem dX7_wrongOnes_4 : decode cX7_wrongOnes 4 = .ok (.iload_n 3, 1) := by decide +kernel
theorem dX7_wrongOnes_5 : decode cX7_wrongOnes 5 = .ok (.iconst 1, 1) := by decide +kernel
theorem dX7_wrongOnes_6 : decode cX7_wrongOnes 6 = .ok (.aload_n 0, 1) := by decide +kernel
theorem dX7_wrongOnes_7 : decode cX7_wrongOnes 7 = .ok (.getfield 7, 3) := by decide +kernel
theorem dX7_wrongOnes_10 : decode cX7_wrongOnes 10 = .ok (.iconst 0, 1) := by decide +kernel
theorem dX7_wrongOnes_11 : decode cX7_wrongOnes 11 = .ok (.iaload, 1) := by decide +kernel
theorem dX7_wrongOnes_12 : decode cX7_wrongOnes 12 = .ok (.ishl, 1) := by decide +kernel
theorem dX7_wrongOnes_13 : decode cX7_wrongOnes 13 = .ok (.if_icmp .ge 31, 3) := by decide +kernel
theorem dX7_wrongOnes_16 : decode cX7_wrongOnes 16 = .ok (.aload_n 0, 1) := by decide +kernel
theorem dX7_wrongOnes_17 : decode cX7_wrongOnes 17 = .ok (.iload_n 3, 1) := by decide +kernel
theorem dX7_wrongOnes_18 : decode cX7_wrongOnes 18 = .ok (.invokevirtual 138, 3) := by decide +kernel
theorem dX7_wrongOnes_21 : decode cX7_wrongOnes 21 = .ok (.aload_n 0, 1) := by decide +kernel
theorem dX7_wrongOnes_22 : decode cX7_wrongOnes 22 = .ok (.iload_n 3, 1) := by decide +kernel
theorem dX7_wrongOnes_23 : decode cX7_wrongOnes 23 = .ok (.invokevirtual 141, 3) := by decide +kernel
theorem dX7_wrongOnes_26 : decode cX7_wrongOnes 26 = .ok (.if_icmp .eq 12, 3) := by decide +kernel
theorem dX7_wrongOnes_29 : decode cX7_wrongOnes 29 = .ok (.iload_n 1, 1) := by decide +kernel
theorem dX7_wrongOnes_30 : decode cX7_wrongOnes 30 = .ok (.ifCond .eq 5, 3) := by decide +kernel
theorem dX7_wrongOnes_33 : decode cX7_wrongOnes 33 = .ok (.iload_n 3, 1) := by decide +kernel
theorem dX7_wrongOnes_34 : decode cX7_wrongOnes 34 = .ok (.ireturn, 1) := by decide +kernel
theorem dX7_wrongOnes_35 : decode cX7_wrongOnes 35 = .ok (.iinc 2 1, 3) := by decide +kernel
theorem dX7_wrongOnes_38 : decode cX7_wrongOnes 38 = .ok (.iinc 3 1, 3) := by decide +kernel
theorem dX7_wrongOnes_41 : decode cX7_wrongOnes 41 = .ok (.goto (-37), 3) := by decide +kernel
theorem dX7_wrongOnes_44 : decode cX7_wrongOnes 44 = .ok (.iload_n 1, 1) := by decide +kernel
theorem dX7_wrongOnes_45 : decode cX7_wrongOnes 45 = .ok (.ifCond .eq 7, 3) := by decide +kernel
theorem dX7_wrongOnes_48 : decode cX7_wrongOnes 48 = .ok (.iconst (-1), 1) := by decide +kernel
theorem dX7_wrongOnes_49 : decode cX7_wrongOnes 49 = .ok (.goto 4, 3) := by decide +kernel
theorem dX7_wrongOnes_52 : decode cX7_wrongOnes 52 = .ok (.iload_n 2, 1) := by decide +kernel
theorem dX7_wrongOnes_53 : decode cX7_wrongOnes 53 = .ok (.ireturn, 1) := by decide +kernel
theorem dX7_runs_0 : decode cX7_runs 0 = .ok (.aload_n 0, 1) := by decide +kernel
theorem dX7_runs_1 : decode cX7_runs 1 = .ok (.iload_n 1, 1) := by decide +kernel
theorem dX7_runs_2 : decode cX7_runs 2 = .ok (.invokevirtual 144, 3) := by decide +kernel
theorem dX7_runs_5 : decode cX7_runs 5 = .ok (.ifCond .eq 16, 3) := by decide +kernel
theorem dX7_runs_8 : decode cX7_runs 8 = .ok (.iload_n 2, 1) := by decide +kernel
theorem dX7_runs_9 : decode cX7_runs 9 = .ok (.iconst 0, 1) := by decide +kernel
theorem dX7_runs_10 : decode cX7_runs 10 = .ok (.iconst 1, 1) := by decide +kernel
theorem dX7_runs_11 : decode cX7_runs 11 = .ok (.invokestatic 39, 3) := by decide +kernel
theorem dX7_runs_14 : decode cX7_runs 14 = .ok (.ifCond .eq 7, 3) := by decide +kernel
theorem dX7_runs_17 : decode cX7_runs 17 = .ok (.iconst 1, 1) := by decide +kernel
theorem dX7_runs_18 : decode cX7_runs 18 = .ok (.goto 4, 3) := by decide +kernel
theorem dX7_runs_21 : decode cX7_runs 21 = .ok (.iconst 0, 1) := by decide +kernel
theorem dX7_runs_22 : decode cX7_runs 22 = .ok (.istore_n 3, 1) := by decide +kernel
theorem dX7_runs_23 : decode cX7_runs 23 = .ok (.iload_n 3, 1) := by decide +kernel
theorem dX7_runs_24 : decode cX7_runs 24 = .ok (.ifCond .eq 10, 3) := by decide +kernel
theorem dX7_runs_27 : decode cX7_runs 27 = .ok (.aload_n 0, 1) := by decide +kernel
theorem dX7_runs_28 : decode cX7_runs 28 = .ok (.invokevirtual 94, 3) := by decide +kernel
theorem dX7_runs_31 : decode cX7_runs 31 = .ok (.ifCond .ne 9, 3) := by decide +kernel
theorem dX7_runs_34 : decode cX7_runs 34 = .ok (.aload_n 0, 1) := by decide +kernel
theorem dX7_runs_35 : decode cX7_runs 35 = .ok (.iload_n 3, 1) := by decide +kernel
theorem dX7_runs_36 : decode cX7_runs 36 = .ok (.invokevirtual 100, 3) := by decide +kernel
theorem dX7_runs_39 : decode cX7_runs 39 = .ok (.ireturn, 1) := by decide +kernel
theorem dX7_runs_40 : decode cX7_runs 40 = .ok (.iload_n 2, 1) := by decide +kernel
theorem dX7_runs_41 : decode cX7_runs 41 = .ok (.ifCond .ne 11, 3) := by decide +kernel
theorem dX7_runs_44 : decode cX7_runs 44 = .ok (.aload_n 0, 1) := by decide +kernel
theorem dX7_runs_45 : decode cX7_runs 45 = .ok (.iload_n 1, 1) := by decide +kernel
theorem dX7_runs_46 : decode cX7_runs 46 = .ok (.invokevirtual 138, 3) := by decide +kernel
theorem dX7_runs_49 : decode cX7_runs 49 = .ok (.goto 8, 3) := by decide +kernel
theorem dX7_runs_52 : decode cX7_runs 52 = .ok (.aload_n 0, 1) := by decide +kernel
theorem dX7_runs_53 : decode cX7_runs 53 = .ok (.iload_n 1, 1) := by decide +kernel
theorem dX7_runs_54 : decode cX7_runs 54 = .ok (.invokevirtual 141, 3) := by decide +kernel
theorem dX7_runs_57 : decode cX7_runs 57 = .ok (.ireturn, 1) := by decide +kernel
theorem dX7_signal_0 : decode cX7_signal 0 = .ok (.iload_n 1, 1) := by decide +kernel
theorem dX7_signal_1 : decode cX7_signal 1 = .ok (.iconst 0, 1) := by decide +kernel
theorem dX7_signal_2 : decode cX7_signal 2 = .ok (.aload_n 0, 1) := by decide +kernel
theorem dX7_signal_3 : decode cX7_signal 3 = .ok (.invokevirtual 94, 3) := by decide +kernel
theorem dX7_signal_6 : decode cX7_signal 6 = .ok (.ifCond .eq 21, 3) := by decide +kernel
theorem dX7_signal_9 : decode cX7_signal 9 = .ok (.aload_n 0, 1) := by decide +kernel
theorem dX7_signal_10 : decode cX7_signal 10 = .ok (.getfield 7, 3) := by decide +kernel
theorem dX7_signal_13 : decode cX7_signal 13 = .ok (.iconst 0, 1) := by decide +kernel
theorem dX7_signal_14 : decode cX7_signal 14 = .ok (.iaload, 1) := by decide +kernel
theorem dX7_signal_15 : decode cX7_signal 15 = .ok (.aload_n 0, 1) := by decide +kernel
theorem dX7_signal_16 : decode cX7_signal 16 = .ok (.getfield 7, 3) := by decide +kernel
theorem dX7_signal_19 : decode cX7_signal 19 = .ok (.iconst 1, 1) := by decide +kernel
theorem dX7_signal_20 : decode cX7_signal 20 = .ok (.iaload, 1) := by decide +kernel
theorem dX7_signal_21 : decode cX7_signal 21 = .ok (.iadd, 1) := by decide +kernel
theorem dX7_signal_22 : decode cX7_signal 22 = .ok (.iconst 1, 1) := by decide +kernel
theorem dX7_signal_23 : decode cX7_signal 23 = .ok (.isub, 1) := by decide +kernel
theorem dX7_signal_24 : decode cX7_signal 24 = .ok (.goto 5, 3) := by decide +kernel
theorem dX7_signal_27 : decode cX7_signal 27 = .ok (.bipush 17, 2) := by decide +kernel
theorem dX7_signal_29 : decode cX7_signal 29 = .ok (.invokestatic 39, 3) := by decide +kernel
theorem dX7_signal_32 : decode cX7_signal 32 = .ok (.ifCond .eq 15, 3) := by decide +kernel
theorem dX7_signal_35 : decode cX7_signal 35 = .ok (.aload_n 0, 1) := by decide +kernel
theorem dX7_signal_36 : decode cX7_signal 36 = .ok (.iload_n 2, 1) := by decide +kernel
theorem dX7_signal_37 : decode cX7_signal 37 = .ok (.invokevirtual 144, 3) := by decide +kernel
theorem dX7_signal_40 : decode cX7_signal 40 = .ok (.ifCond .eq 7, 3) := by decide +kernel
theorem dX7_signal_43 : decode cX7_signal 43 = .ok (.iconst 1, 1) := by decide +kernel
theorem dX7_signal_44 : decode cX7_signal 44 = .ok (.goto 4, 3) := by decide +kernel
theorem dX7_signal_47 : decode cX7_signal 47 = .ok (.iconst 0, 1) := by decide +kernel
theorem dX7_signal_48 : decode cX7_signal 48 = .ok (.istore_n 3, 1) := by decide +kernel
theorem dX7_signal_49 : decode cX7_signal 49 = .ok (.iload_n 3, 1) := by decide +kernel
theorem dX7_signal_50 : decode cX7_signal 50 = .ok (.ifCond .eq 10, 3) := by decide +kernel
theorem dX7_signal_53 : decode cX7_signal 53 = .ok (.aload_n 0, 1) := by decide +kernel
theorem dX7_signal_54 : decode cX7_signal 54 = .ok (.invokevirtual 94, 3) := by decide +kernel
theorem dX7_signal_57 : decode cX7_signal 57 = .ok (.ifCond .ne 9, 3) := by decide +kernel
theorem dX7_signal_60 : decode cX7_signal 60 = .ok (.aload_n 0, 1) := by decide +kernel
theorem dX7_signal_61 : decode cX7_signal 61 = .ok (.iload_n 3, 1) := by decide +kernel
theorem dX7_signal_62 : decode cX7_signal 62 = .ok (.invokevirtual 100, 3) := by decide +kernel
theorem dX7_signal_65 : decode cX7_signal 65 = .ok (.ireturn, 1) := by decide +kernel
theorem dX7_signal_66 : decode cX7_signal 66 = .ok (.aload_n 0, 1) := by decide +kernel
theorem dX7_signal_67 : decode cX7_signal 67 = .ok (.iload_n 2, 1) := by decide +kernel
theorem dX7_signal_68 : decode cX7_signal 68 = .ok (.invokevirtual 135, 3) := by decide +kernel
theorem dX7_signal_71 : decode cX7_signal 71 = .ok (.iload_n 1, 1) := by decide +kernel
theorem dX7_signal_72 : decode cX7_signal 72 = .ok (.ishr, 1) := by decide +kernel
theorem dX7_signal_73 : decode cX7_signal 73 = .ok (.iconst 1, 1) := by decide +kernel
theorem dX7_signal_74 : decode cX7_signal 74 = .ok (.iand, 1) := by decide +kernel
theorem dX7_signal_75 : decode cX7_signal 75 = .ok (.ireturn, 1) := by decide +kernel
theorem dX7_wrong_0 : decode cX7_wrong 0 = .ok (.iload_n 1, 1) := by decide +kernel
theorem dX7_wrong_1 : decode cX7_wrong 1 = .ok (.iconst 0, 1) := by decide +kernel
theorem dX7_wrong_2 : decode cX7_wrong 2 = .ok (.iconst 1, 1) := by decide +kernel
theorem dX7_wrong_3 : decode cX7_wrong 3 = .ok (.invokestatic 39, 3) := by decide +kernel
theorem dX7_wrong_6 : decode cX7_wrong 6 = .ok (.istore_n 2, 1) := by decide +kernel
theorem dX7_wrong_7 : decode cX7_wrong 7 = .ok (.iload_n 2, 1) := by decide +kernel
theorem dX7_wrong_8 : decode cX7_wrong 8 = .ok (.ifCond .eq 10, 3) := by decide +kernel
theorem dX7_wrong_11 : decode cX7_wrong 11 = .ok (.aload_n 0, 1) := by decide +kernel
theorem dX7_wrong_12 : decode cX7_wrong 12 = .ok (.invokevirtual 94, 3) := by decide +kernel
theorem dX7_wrong_15 : decode cX7_wrong 15 = .ok (.ifCond .ne 9, 3) := by decide +kernel
theorem dX7_wrong_18 : decode cX7_wrong 18 = .ok (.aload_n 0, 1) := by decide +kernel
theorem dX7_wrong_19 : decode cX7_wrong 19 = .ok (.iload_n 2, 1) := by decide +kernel
theorem dX7_wrong_20 : decode cX7_wrong 20 = .ok (.invokevirtual 100, 3) := by decide +kernel
theorem dX7_wrong_23 : decode cX7_wrong 23 = .ok (.ireturn, 1) := by decide +kernel
theorem dX7_wrong_24 : decode cX7_wrong 24 = .ok (.aload_n 0, 1) := by decide +kernel
theorem dX7_wrong_25 : decode cX7_wrong 25 = .ok (.iload_n 1, 1) := by decide +kernel
theorem dX7_wrong_26 : decode cX7_wrong 26 = .ok (.ifCond .ne 7, 3) := by decide +kernel
theorem dX7_wrong_29 : decode cX7_wrong 29 = .ok (.iconst 1, 1) := by decide +kernel
theorem dX7_wrong_30 : decode cX7_wrong 30 = .ok (.goto 4, 3) := by decide +kernel
theorem dX7_wrong_33 : decode cX7_wrong 33 = .ok (.iconst 0, 1) := by decide +kernel
theorem dX7_wrong_34 : decode cX7_wrong 34 = .ok (.invokevirtual 147, 3) := by decide +kernel
theorem dX7_wrong_37 : decode cX7_wrong 37 = .ok (.ireturn, 1) := by decide +kernel
theorem dX7_cures_0 : decode cX7_cures 0 = .ok (.aload_n 0, 1) := by decide +kernel
theorem dX7_cures_1 : decode cX7_cures 1 = .ok (.iload_n 1, 1) := by decide +kernel
theorem dX7_cures_2 : decode cX7_cures 2 = .ok (.invokevirtual 97, 3) := by decide +kernel
theorem dX7_cures_5 : decode cX7_cures 5 = .ok (.istore_n 2, 1) := by decide +kernel
theorem dX7_cures_6 : decode cX7_cures 6 = .ok (.iload_n 2, 1) := by decide +kernel
theorem dX7_cures_7 : decode cX7_cures 7 = .ok (.ifCond .eq 10, 3) := by decide +kernel
theorem dX7_cures_10 : decode cX7_cures 10 = .ok (.aload_n 0, 1) := by decide +kernel
theorem dX7_cures_11 : decode cX7_cures 11 = .ok (.invokevirtual 94, 3) := by decide +kernel
theorem dX7_cures_14 : decode cX7_cures 14 = .ok (.ifCond .ne 9, 3) := by decide +kernel
theorem dX7_cures_17 : decode cX7_cures 17 = .ok (.aload_n 0, 1) := by decide +kernel
theorem dX7_cures_18 : decode cX7_cures 18 = .ok (.iload_n 2, 1) := by decide +kernel
theorem dX7_cures_19 : decode cX7_cures 19 = .ok (.invokevirtual 100, 3) := by decide +kernel
theorem dX7_cures_22 : decode cX7_cures 22 = .ok (.ireturn, 1) := by decide +kernel
theorem dX7_cures_23 : decode cX7_cures 23 = .ok (.aload_n 0, 1) := by decide +kernel
theorem dX7_cures_24 : decode cX7_cures 24 = .ok (.getfield 7, 3) := by decide +kernel
theorem dX7_cures_27 : decode cX7_cures 27 = .ok (.bipush 6, 2) := by decide +kernel
theorem dX7_cures_29 : decode cX7_cures 29 = .ok (.iload_n 1, 1) := by decide +kernel
theorem dX7_cures_30 : decode cX7_cures 30 = .ok (.iadd, 1) := by decide +kernel
theorem dX7_cures_31 : decode cX7_cures 31 = .ok (.iaload, 1) := by decide +kernel
theorem dX7_cures_32 : decode cX7_cures 32 = .ok (.istore_n 3, 1) := by decide +kernel
theorem dX7_cures_33 : decode cX7_cures 33 = .ok (.iconst 0, 1) := by decide +kernel
theorem dX7_cures_34 : decode cX7_cures 34 = .ok (.istore 4, 2) := by decide +kernel
theorem dX7_cures_36 : decode cX7_cures 36 = .ok (.iload_n 3, 1) := by decide +kernel
theorem dX7_cures_37 : decode cX7_cures 37 = .ok (.ifCond .ne 7, 3) := by decide +kernel
theorem dX7_cures_40 : decode cX7_cures 40 = .ok (.iconst 0, 1) := by decide +kernel
theorem dX7_cures_41 : decode cX7_cures 41 = .ok (.goto 4, 3) := by decide +kernel
theorem dX7_cures_44 : decode cX7_cures 44 = .ok (.iconst 1, 1) := by decide +kernel
theorem dX7_cures_45 : decode cX7_cures 45 = .ok (.istore 5, 2) := by decide +kernel
theorem dX7_cures_47 : decode cX7_cures 47 = .ok (.iload 5, 2) := by decide +kernel
theorem dX7_cures_49 : decode cX7_cures 49 = .ok (.iload_n 3, 1) := by decide +kernel
theorem dX7_cures_50 : decode cX7_cures 50 = .ok (.ifCond .ne 7, 3) := by decide +kernel
theorem dX7_cures_53 : decode cX7_cures 53 = .ok (.iconst 1, 1) := by decide +kernel
theorem dX7_cures_54 : decode cX7_cures 54 = .ok (.goto 5, 3) := by decide +kernel
theorem dX7_cures_57 : decode cX7_cures 57 = .ok (.bipush 8, 2) := by decide +kernel
theorem dX7_cures_59 : decode cX7_cures 59 = .ok (.if_icmp .ge 42, 3) := by decide +kernel
theorem dX7_cures_62 : decode cX7_cures 62 = .ok (.aload_n 0, 1) := by decide +kernel
theorem dX7_cures_63 : decode cX7_cures 63 = .ok (.getfield 7, 3) := by decide +kernel
theorem dX7_cures_66 : decode cX7_cures 66 = .ok (.bipush 6, 2) := by decide +kernel
theorem dX7_cures_68 : decode cX7_cures 68 = .ok (.iload_n 1, 1) := by decide +kernel
theorem dX7_cures_69 : decode cX7_cures 69 = .ok (.iadd, 1) := by decide +kernel
theorem dX7_cures_70 : decode cX7_cures 70 = .ok (.iload 5, 2) := by decide +kernel
theorem dX7_cures_72 : decode cX7_cures 72 = .ok (.iastore, 1) := by decide +kernel
theorem dX7_cures_73 : decode cX7_cures 73 = .ok (.iload 4, 2) := by decide +kernel
theorem dX7_cures_75 : decode cX7_cures 75 = .ok (.aload_n 0, 1) := by decide +kernel
theorem dX7_cures_76 : decode cX7_cures 76 = .ok (.iconst 1, 1) := by decide +kernel
theorem dX7_cures_77 : decode cX7_cures 77 = .ok (.invokevirtual 147, 3) := by decide +kernel
theorem dX7_cures_80 : decode cX7_cures 80 = .ok (.iconst (-1), 1) := by decide +kernel
theorem dX7_cures_81 : decode cX7_cures 81 = .ok (.if_icmp .ne 10, 3) := by decide +kernel
theorem dX7_cures_84 : decode cX7_cures 84 = .ok (.iconst 1, 1) := by decide +kernel
theorem dX7_cures_85 : decode cX7_cures 85 = .ok (.iload 5, 2) := by decide +kernel
theorem dX7_cures_87 : decode cX7_cures 87 = .ok (.ishl, 1) := by decide +kernel
theorem dX7_cures_88 : decode cX7_cures 88 = .ok (.goto 4, 3) := by decide +kernel
theorem dX7_cures_91 : decode cX7_cures 91 = .ok (.iconst 0, 1) := by decide +kernel
theorem dX7_cures_92 : decode cX7_cures 92 = .ok (.ior, 1) := by decide +kernel
theorem dX7_cures_93 : decode cX7_cures 93 = .ok (.istore 4, 2) := by decide +kernel
theorem dX7_cures_95 : decode cX7_cures 95 = .ok (.iinc 5 1, 3) := by decide +kernel
theorem dX7_cures_98 : decode cX7_cures 98 = .ok (.goto (-51), 3) := by decide +kernel
theorem dX7_cures_101 : decode cX7_cures 101 = .ok (.aload_n 0, 1) := by decide +kernel
theorem dX7_cures_102 : decode cX7_cures 102 = .ok (.getfield 7, 3) := by decide +kernel
theorem dX7_cures_105 : decode cX7_cures 105 = .ok (.bipush 6, 2) := by decide +kernel
theorem dX7_cures_107 : decode cX7_cures 107 = .ok (.iload_n 1, 1) := by decide +kernel
theorem dX7_cures_108 : decode cX7_cures 108 = .ok (.iadd, 1) := by decide +kernel
theorem dX7_cures_109 : decode cX7_cures 109 = .ok (.iload_n 3, 1) := by decide +kernel
theorem dX7_cures_110 : decode cX7_cures 110 = .ok (.iastore, 1) := by decide +kernel
theorem dX7_cures_111 : decode cX7_cures 111 = .ok (.iload 4, 2) := by decide +kernel
theorem dX7_cures_113 : decode cX7_cures 113 = .ok (.ireturn, 1) := by decide +kernel
theorem dX7_adds_0 : decode cX7_adds 0 = .ok (.iconst 0, 1) := by decide +kernel
theorem dX7_adds_1 : decode cX7_adds 1 = .ok (.istore 4, 2) := by decide +kernel
theorem dX7_adds_3 : decode cX7_adds 3 = .ok (.iload 4, 2) := by decide +kernel
theorem dX7_adds_5 : decode cX7_adds 5 = .ok (.aload_n 0, 1) := by decide +kernel
theorem dX7_adds_6 : decode cX7_adds 6 = .ok (.getfield 150, 3) := by decide +kernel
theorem dX7_adds_9 : decode cX7_adds 9 = .ok (.if_icmp .ge 20, 3) := by decide +kernel
theorem dX7_adds_12 : decode cX7_adds 12 = .ok (.aload_n 0, 1) := by decide +kernel
theorem dX7_adds_13 : decode cX7_adds 13 = .ok (.getfield 33, 3) := by decide +kernel
theorem dX7_adds_16 : decode cX7_adds 16 = .ok (.iload 4, 2) := by decide +kernel
theorem dX7_adds_18 : decode cX7_adds 18 = .ok (.iaload, 1) := by decide +kernel
theorem dX7_adds_19 : decode cX7_adds 19 = .ok (.iload_n 1, 1) := by decide +kernel
theorem dX7_adds_20 : decode cX7_adds 20 = .ok (.if_icmp .eq 9, 3) := by decide +kernel
theorem dX7_adds_23 : decode cX7_adds 23 = .ok (.iinc 4 1, 3) := by decide +kernel
theorem dX7_adds_26 : decode cX7_adds 26 = .ok (.goto (-23), 3) := by decide +kernel
theorem dX7_adds_29 : decode cX7_adds 29 = .ok (.iload 4, 2) := by decide +kernel
theorem dX7_adds_31 : decode cX7_adds 31 = .ok (.aload_n 0, 1) := by decide +kernel
theorem dX7_adds_32 : decode cX7_adds 32 = .ok (.getfield 150, 3) := by decide +kernel
theorem dX7_adds_35 : decode cX7_adds 35 = .ok (.if_icmp .ne 33, 3) := by decide +kernel
theorem dX7_adds_38 : decode cX7_adds 38 = .ok (.aload_n 0, 1) := by decide +kernel
theorem dX7_adds_39 : decode cX7_adds 39 = .ok (.getfield 33, 3) := by decide +kernel
theorem dX7_adds_42 : decode cX7_adds 42 = .ok (.aload_n 0, 1) := by decide +kernel
theorem dX7_adds_43 : decode cX7_adds 43 = .ok (.getfield 150, 3) := by decide +kernel
theorem dX7_adds_46 : decode cX7_adds 46 = .ok (.iload_n 1, 1) := by decide +kernel
theorem dX7_adds_47 : decode cX7_adds 47 = .ok (.iastore, 1) := by decide +kernel
theorem dX7_adds_48 : decode cX7_adds 48 = .ok (.aload_n 0, 1) := by decide +kernel
theorem dX7_adds_49 : decode cX7_adds 49 = .ok (.getfield 36, 3) := by decide +kernel
theorem dX7_adds_52 : decode cX7_adds 52 = .ok (.aload_n 0, 1) := by decide +kernel
theorem dX7_adds_53 : decode cX7_adds 53 = .ok (.getfield 150, 3) := by decide +kernel
theorem dX7_adds_56 : decode cX7_adds 56 = .ok (.lconst 0, 1) := by decide +kernel
theorem dX7_adds_57 : decode cX7_adds 57 = .ok (.lastore, 1) := by decide +kernel
theorem dX7_adds_58 : decode cX7_adds 58 = .ok (.aload_n 0, 1) := by decide +kernel
theorem dX7_adds_59 : decode cX7_adds 59 = .ok (.dup, 1) := by decide +kernel
theorem dX7_adds_60 : decode cX7_adds 60 = .ok (.getfield 150, 3) := by decide +kernel
theorem dX7_adds_63 : decode cX7_adds 63 = .ok (.iconst 1, 1) := by decide +kernel
theorem dX7_adds_64 : decode cX7_adds 64 = .ok (.iadd, 1) := by decide +kernel
theorem dX7_adds_65 : decode cX7_adds 65 = .ok (.putfield 150, 3) := by decide +kernel
theorem dX7_adds_68 : decode cX7_adds 68 = .ok (.aload_n 0, 1) := by decide +kernel
theorem dX7_adds_69 : decode cX7_adds 69 = .ok (.getfield 36, 3) := by decide +kernel
theorem dX7_adds_72 : decode cX7_adds 72 = .ok (.iload 4, 2) := by decide +kernel
theorem dX7_adds_74 : decode cX7_adds 74 = .ok (.dup2, 1) := by decide +kernel
theorem dX7_adds_75 : decode cX7_adds 75 = .ok (.laload, 1) := by decide +kernel
theorem dX7_adds_76 : decode cX7_adds 76 = .ok (.lload_n 2, 1) := by decide +kernel
theorem dX7_adds_77 : decode cX7_adds 77 = .ok (.ladd, 1) := by decide +kernel
theorem dX7_adds_78 : decode cX7_adds 78 = .ok (.lastore, 1) := by decide +kernel
theorem dX7_adds_79 : decode cX7_adds 79 = .ok (.return_, 1) := by decide +kernel
theorem dX7_becomes_0 : decode cX7_becomes 0 = .ok (.aload_n 0, 1) := by decide +kernel
theorem dX7_becomes_1 : decode cX7_becomes 1 = .ok (.iconst 0, 1) := by decide +kernel
theorem dX7_becomes_2 : decode cX7_becomes 2 = .ok (.putfield 153, 3) := by decide +kernel
theorem dX7_becomes_5 : decode cX7_becomes 5 = .ok (.iconst 0, 1) := by decide +kernel
theorem dX7_becomes_6 : decode cX7_becomes 6 = .ok (.istore_n 1, 1) := by decide +kernel
theorem dX7_becomes_7 : decode cX7_becomes 7 = .ok (.iload_n 1, 1) := by decide +kernel
theorem dX7_becomes_8 : decode cX7_becomes 8 = .ok (.aload_n 0, 1) := by decide +kernel
theorem dX7_becomes_9 : decode cX7_becomes 9 = .ok (.getfield 150, 3) := by decide +kernel
theorem dX7_becomes_12 : decode cX7_becomes 12 = .ok (.if_icmp .ge 114, 3) := by decide +kernel
theorem dX7_becomes_15 : decode cX7_becomes 15 = .ok (.aload_n 0, 1) := by decide +kernel
theorem dX7_becomes_16 : decode cX7_becomes 16 = .ok (.getfield 36, 3) := by decide +kernel
theorem dX7_becomes_19 : decode cX7_becomes 19 = .ok (.iload_n 1, 1) := by decide +kernel
theorem dX7_becomes_20 : decode cX7_becomes 20 = .ok (.laload, 1) := by decide +kernel
theorem dX7_becomes_21 : decode cX7_becomes 21 = .ok (.lconst 0, 1) := by decide +kernel
theorem dX7_becomes_22 : decode cX7_becomes 22 = .ok (.lcmp, 1) := by decide +kernel
theorem dX7_becomes_23 : decode cX7_becomes 23 = .ok (.ifCond .eq 97, 3) := by decide +kernel
theorem dX7_becomes_26 : decode cX7_becomes 26 = .ok (.aload_n 0, 1) := by decide +kernel
theorem dX7_becomes_27 : decode cX7_becomes 27 = .ok (.getfield 153, 3) := by decide +kernel
theorem dX7_becomes_30 : decode cX7_becomes 30 = .ok (.istore_n 2, 1) := by decide +kernel
theorem dX7_becomes_31 : decode cX7_becomes 31 = .ok (.iload_n 2, 1) := by decide +kernel
theorem dX7_becomes_32 : decode cX7_becomes 32 = .ok (.ifCond .le 54, 3) := by decide +kernel
theorem dX7_becomes_35 : decode cX7_becomes 35 = .ok (.aload_n 0, 1) := by decide +kernel
theorem dX7_becomes_36 : decode cX7_becomes 36 = .ok (.getfield 26, 3) := by decide +kernel
theorem dX7_becomes_39 : decode cX7_becomes 39 = .ok (.iload_n 2, 1) := by decide +kernel
theorem dX7_becomes_40 : decode cX7_becomes 40 = .ok (.iconst 1, 1) := by decide +kernel
theorem dX7_becomes_41 : decode cX7_becomes 41 = .ok (.isub, 1) := by decide +kernel
theorem dX7_becomes_42 : decode cX7_becomes 42 = .ok (.iaload, 1) := by decide +kernel
theorem dX7_becomes_43 : decode cX7_becomes 43 = .ok (.aload_n 0, 1) := by decide +kernel
theorem dX7_becomes_44 : decode cX7_becomes 44 = .ok (.getfield 33, 3) := by decide +kernel
theorem dX7_becomes_47 : decode cX7_becomes 47 = .ok (.iload_n 1, 1) := by decide +kernel
theorem dX7_becomes_48 : decode cX7_becomes 48 = .ok (.iaload, 1) := by decide +kernel
theorem dX7_becomes_49 : decode cX7_becomes 49 = .ok (.if_icmp .ge 37, 3) := by decide +kernel
theorem dX7_becomes_52 : decode cX7_becomes 52 = .ok (.aload_n 0, 1) := by decide +kernel
theorem dX7_becomes_53 : decode cX7_becomes 53 = .ok (.getfield 26, 3) := by decide +kernel
theorem dX7_becomes_56 : decode cX7_becomes 56 = .ok (.iload_n 2, 1) := by decide +kernel
theorem dX7_becomes_57 : decode cX7_becomes 57 = .ok (.aload_n 0, 1) := by decide +kernel
theorem dX7_becomes_58 : decode cX7_becomes 58 = .ok (.getfield 26, 3) := by decide +kernel
theorem dX7_becomes_61 : decode cX7_becomes 61 = .ok (.iload_n 2, 1) := by decide +kernel
theorem dX7_becomes_62 : decode cX7_becomes 62 = .ok (.iconst 1, 1) := by decide +kernel
theorem dX7_becomes_63 : decode cX7_becomes 63 = .ok (.isub, 1) := by decide +kernel
theorem dX7_becomes_64 : decode cX7_becomes 64 = .ok (.iaload, 1) := by decide +kernel
theorem dX7_becomes_65 : decode cX7_becomes 65 = .ok (.iastore, 1) := by decide +kernel
theorem dX7_becomes_66 : decode cX7_becomes 66 = .ok (.aload_n 0, 1) := by decide +kernel
theorem dX7_becomes_67 : decode cX7_becomes 67 = .ok (.getfield 29, 3) := by decide +kernel
theorem dX7_becomes_70 : decode cX7_becomes 70 = .ok (.iload_n 2, 1) := by decide +kernel
theorem dX7_becomes_71 : decode cX7_becomes 71 = .ok (.aload_n 0, 1) := by decide +kernel
theorem dX7_becomes_72 : decode cX7_becomes 72 = .ok (.getfield 29, 3) := by decide +kernel
theorem dX7_becomes_75 : decode cX7_becomes 75 = .ok (.iload_n 2, 1) := by decide +kernel
theorem dX7_becomes_76 : decode cX7_becomes 76 = .ok (.iconst 1, 1) := by decide +kernel
theorem dX7_becomes_77 : decode cX7_becomes 77 = .ok (.isub, 1) := by decide +kernel
theorem dX7_becomes_78 : decode cX7_becomes 78 = .ok (.laload, 1) := by decide +kernel
theorem dX7_becomes_79 : decode cX7_becomes 79 = .ok (.lastore, 1) := by decide +kernel
theorem dX7_becomes_80 : decode cX7_becomes 80 = .ok (.iinc 2 (-1), 3) := by decide +kernel
theorem dX7_becomes_83 : decode cX7_becomes 83 = .ok (.goto (-52), 3) := by decide +kernel
theorem dX7_becomes_86 : decode cX7_becomes 86 = .ok (.aload_n 0, 1) := by decide +kernel
theorem dX7_becomes_87 : decode cX7_becomes 87 = .ok (.getfield 26, 3) := by decide +kernel
theorem dX7_becomes_90 : decode cX7_becomes 90 = .ok (.iload_n 2, 1) := by decide +kernel
theorem dX7_becomes_91 : decode cX7_becomes 91 = .ok (.aload_n 0, 1) := by decide +kernel
theorem dX7_becomes_92 : decode cX7_becomes 92 = .ok (.getfield 33, 3) := by decide +kernel
theorem dX7_becomes_95 : decode cX7_becomes 95 = .ok (.iload_n 1, 1) := by decide +kernel
theorem dX7_becomes_96 : decode cX7_becomes 96 = .ok (.iaload, 1) := by decide +kernel
theorem dX7_becomes_97 : decode cX7_becomes 97 = .ok (.iastore, 1) := by decide +kernel
theorem dX7_becomes_98 : decode cX7_becomes 98 = .ok (.aload_n 0, 1) := by decide +kernel
theorem dX7_becomes_99 : decode cX7_becomes 99 = .ok (.getfield 29, 3) := by decide +kernel
theorem dX7_becomes_102 : decode cX7_becomes 102 = .ok (.iload_n 2, 1) := by decide +kernel
theorem dX7_becomes_103 : decode cX7_becomes 103 = .ok (.aload_n 0, 1) := by decide +kernel
theorem dX7_becomes_104 : decode cX7_becomes 104 = .ok (.getfield 36, 3) := by decide +kernel
theorem dX7_becomes_107 : decode cX7_becomes 107 = .ok (.iload_n 1, 1) := by decide +kernel
theorem dX7_becomes_108 : decode cX7_becomes 108 = .ok (.laload, 1) := by decide +kernel
theorem dX7_becomes_109 : decode cX7_becomes 109 = .ok (.lastore, 1) := by decide +kernel
theorem dX7_becomes_110 : decode cX7_becomes 110 = .ok (.aload_n 0, 1) := by decide +kernel
theorem dX7_becomes_111 : decode cX7_becomes 111 = .ok (.dup, 1) := by decide +kernel
theorem dX7_becomes_112 : decode cX7_becomes 112 = .ok (.getfield 153, 3) := by decide +kernel
theorem dX7_becomes_115 : decode cX7_becomes 115 = .ok (.iconst 1, 1) := by decide +kernel
theorem dX7_becomes_116 : decode cX7_becomes 116 = .ok (.iadd, 1) := by decide +kernel
theorem dX7_becomes_117 : decode cX7_becomes 117 = .ok (.putfield 153, 3) := by decide +kernel
theorem dX7_becomes_120 : decode cX7_becomes 120 = .ok (.iinc 1 1, 3) := by decide +kernel
theorem dX7_becomes_123 : decode cX7_becomes 123 = .ok (.goto (-116), 3) := by decide +kernel
theorem dX7_becomes_126 : decode cX7_becomes 126 = .ok (.aload_n 0, 1) := by decide +kernel
theorem dX7_becomes_127 : decode cX7_becomes 127 = .ok (.iconst 0, 1) := by decide +kernel
theorem dX7_becomes_128 : decode cX7_becomes 128 = .ok (.putfield 150, 3) := by decide +kernel
theorem dX7_becomes_131 : decode cX7_becomes 131 = .ok (.aload_n 0, 1) := by decide +kernel
theorem dX7_becomes_132 : decode cX7_becomes 132 = .ok (.getfield 153, 3) := by decide +kernel
theorem dX7_becomes_135 : decode cX7_becomes 135 = .ok (.bipush 40, 2) := by decide +kernel
theorem dX7_becomes_137 : decode cX7_becomes 137 = .ok (.if_icmp .gt 7, 3) := by decide +kernel
theorem dX7_becomes_140 : decode cX7_becomes 140 = .ok (.iconst 1, 1) := by decide +kernel
theorem dX7_becomes_141 : decode cX7_becomes 141 = .ok (.goto 4, 3) := by decide +kernel
theorem dX7_becomes_144 : decode cX7_becomes 144 = .ok (.iconst 0, 1) := by decide +kernel
theorem dX7_becomes_145 : decode cX7_becomes 145 = .ok (.ireturn, 1) := by decide +kernel
theorem dX7_begin_0 : decode cX7_begin 0 = .ok (.aload_n 0, 1) := by decide +kernel
theorem dX7_begin_1 : decode cX7_begin 1 = .ok (.iconst 0, 1) := by decide +kernel
theorem dX7_begin_2 : decode cX7_begin 2 = .ok (.putfield 150, 3) := by decide +kernel
theorem dX7_begin_5 : decode cX7_begin 5 = .ok (.iconst 0, 1) := by decide +kernel
theorem dX7_begin_6 : decode cX7_begin 6 = .ok (.istore_n 1, 1) := by decide +kernel
theorem dX7_begin_7 : decode cX7_begin 7 = .ok (.iload_n 1, 1) := by decide +kernel
theorem dX7_begin_8 : decode cX7_begin 8 = .ok (.aload_n 0, 1) := by decide +kernel
theorem dX7_begin_9 : decode cX7_begin 9 = .ok (.getfield 7, 3) := by decide +kernel
theorem dX7_begin_12 : decode cX7_begin 12 = .ok (.iconst 2, 1) := by decide +kernel
theorem dX7_begin_13 : decode cX7_begin 13 = .ok (.iaload, 1) := by decide +kernel
theorem dX7_begin_14 : decode cX7_begin 14 = .ok (.if_icmp .ge 27, 3) := by decide +kernel
theorem dX7_begin_17 : decode cX7_begin 17 = .ok (.aload_n 0, 1) := by decide +kernel
theorem dX7_begin_18 : decode cX7_begin 18 = .ok (.iconst 1, 1) := by decide +kernel
theorem dX7_begin_19 : decode cX7_begin 19 = .ok (.aload_n 0, 1) := by decide +kernel
theorem dX7_begin_20 : decode cX7_begin 20 = .ok (.getfield 7, 3) := by decide +kernel
theorem dX7_begin_23 : decode cX7_begin 23 = .ok (.bipush 42, 2) := by decide +kernel
theorem dX7_begin_25 : decode cX7_begin 25 = .ok (.iload_n 1, 1) := by decide +kernel
theorem dX7_begin_26 : decode cX7_begin 26 = .ok (.iadd, 1) := by decide +kernel
theorem dX7_begin_27 : decode cX7_begin 27 = .ok (.iaload, 1) := by decide +kernel
theorem dX7_begin_28 : decode cX7_begin 28 = .ok (.ishl, 1) := by decide +kernel
theorem dX7_begin_29 : decode cX7_begin 29 = .ok (.lconst 1, 1) := by decide +kernel
theorem dX7_begin_30 : decode cX7_begin 30 = .ok (.iload_n 1, 1) := by decide +kernel
theorem dX7_begin_31 : decode cX7_begin 31 = .ok (.lshl, 1) := by decide +kernel
theorem dX7_begin_32 : decode cX7_begin 32 = .ok (.invokevirtual 156, 3) := by decide +kernel
theorem dX7_begin_35 : decode cX7_begin 35 = .ok (.iinc 1 1, 3) := by decide +kernel
theorem dX7_begin_38 : decode cX7_begin 38 = .ok (.goto (-31), 3) := by decide +kernel
theorem dX7_begin_41 : decode cX7_begin 41 = .ok (.aload_n 0, 1) := by decide +kernel
theorem dX7_begin_42 : decode cX7_begin 42 = .ok (.getfield 7, 3) := by decide +kernel
theorem dX7_begin_45 : decode cX7_begin 45 = .ok (.iconst 4, 1) := by decide +kernel
theorem dX7_begin_46 : decode cX7_begin 46 = .ok (.iaload, 1) := by decide +kernel
theorem dX7_begin_47 : decode cX7_begin 47 = .ok (.istore_n 1, 1) := by decide +kernel
theorem dX7_begin_48 : decode cX7_begin 48 = .ok (.aload_n 0, 1) := by decide +kernel
theorem dX7_begin_49 : decode cX7_begin 49 = .ok (.getfield 7, 3) := by decide +kernel
theorem dX7_begin_52 : decode cX7_begin 52 = .ok (.iconst 5, 1) := by decide +kernel
theorem dX7_begin_53 : decode cX7_begin 53 = .ok (.iaload, 1) := by decide +kernel
theorem dX7_begin_54 : decode cX7_begin 54 = .ok (.istore_n 2, 1) := by decide +kernel
theorem dX7_begin_55 : decode cX7_begin 55 = .ok (.aload_n 0, 1) := by decide +kernel
theorem dX7_begin_56 : decode cX7_begin 56 = .ok (.getfield 7, 3) := by decide +kernel
theorem dX7_begin_59 : decode cX7_begin 59 = .ok (.iconst 3, 1) := by decide +kernel
theorem dX7_begin_60 : decode cX7_begin 60 = .ok (.iaload, 1) := by decide +kernel
theorem dX7_begin_61 : decode cX7_begin 61 = .ok (.istore_n 3, 1) := by decide +kernel
theorem dX7_begin_62 : decode cX7_begin 62 = .ok (.iconst 0, 1) := by decide +kernel
theorem dX7_begin_63 : decode cX7_begin 63 = .ok (.istore 4, 2) := by decide +kernel
theorem dX7_begin_65 : decode cX7_begin 65 = .ok (.iload 4, 2) := by decide +kernel
theorem dX7_begin_67 : decode cX7_begin 67 = .ok (.iload_n 1, 1) := by decide +kernel
theorem dX7_begin_68 : decode cX7_begin 68 = .ok (.if_icmp .ge 118, 3) := by decide +kernel
theorem dX7_begin_71 : decode cX7_begin 71 = .ok (.iconst 0, 1) := by decide +kernel
theorem dX7_begin_72 : decode cX7_begin 72 = .ok (.istore 5, 2) := by decide +kernel
theorem dX7_begin_74 : decode cX7_begin 74 = .ok (.iload 5, 2) := by decide +kernel
theorem dX7_begin_76 : decode cX7_begin 76 = .ok (.iload_n 3, 1) := by decide +kernel
theorem dX7_begin_77 : decode cX7_begin 77 = .ok (.iconst 1, 1) := by decide +kernel
theorem dX7_begin_78 : decode cX7_begin 78 = .ok (.if_icmp .ne 7, 3) := by decide +kernel
theorem dX7_begin_81 : decode cX7_begin 81 = .ok (.iload_n 2, 1) := by decide +kernel
theorem dX7_begin_82 : decode cX7_begin 82 = .ok (.goto 13, 3) := by decide +kernel
theorem dX7_begin_85 : decode cX7_begin 85 = .ok (.iload_n 3, 1) := by decide +kernel
theorem dX7_begin_86 : decode cX7_begin 86 = .ok (.iconst 2, 1) := by decide +kernel
theorem dX7_begin_87 : decode cX7_begin 87 = .ok (.if_icmp .ne 7, 3) := by decide +kernel
theorem dX7_begin_90 : decode cX7_begin 90 = .ok (.iload_n 1, 1) := by decide +kernel
theorem dX7_begin_91 : decode cX7_begin 91 = .ok (.goto 4, 3) := by decide +kernel
theorem dX7_begin_94 : decode cX7_begin 94 = .ok (.iconst 1, 1) := by decide +kernel
theorem dX7_begin_95 : decode cX7_begin 95 = .ok (.if_icmp .ge 85, 3) := by decide +kernel
theorem dX7_begin_98 : decode cX7_begin 98 = .ok (.iload_n 3, 1) := by decide +kernel
theorem dX7_begin_99 : decode cX7_begin 99 = .ok (.iconst 1, 1) := by decide +kernel
theorem dX7_begin_100 : decode cX7_begin 100 = .ok (.if_icmp .ne 12, 3) := by decide +kernel
theorem dX7_begin_103 : decode cX7_begin 103 = .ok (.iconst 1, 1) := by decide +kernel
theorem dX7_begin_104 : decode cX7_begin 104 = .ok (.iload_n 1, 1) := by decide +kernel
theorem dX7_begin_105 : decode cX7_begin 105 = .ok (.iload 5, 2) := by decide +kernel
theorem dX7_begin_107 : decode cX7_begin 107 = .ok (.iadd, 1) := by decide +kernel
theorem dX7_begin_108 : decode cX7_begin 108 = .ok (.ishl, 1) := by decide +kernel
theorem dX7_begin_109 : decode cX7_begin 109 = .ok (.goto 16, 3) := by decide +kernel
theorem dX7_begin_112 : decode cX7_begin 112 = .ok (.iload_n 3, 1) := by decide +kernel
theorem dX7_begin_113 : decode cX7_begin 113 = .ok (.iconst 2, 1) := by decide +kernel
theorem dX7_begin_114 : decode cX7_begin 114 = .ok (.if_icmp .ne 10, 3) := by decide +kernel
theorem dX7_begin_117 : decode cX7_begin 117 = .ok (.iconst 1, 1) := by decide +kernel
theorem dX7_begin_118 : decode cX7_begin 118 = .ok (.iload 5, 2) := by decide +kernel
theorem dX7_begin_120 : decode cX7_begin 120 = .ok (.ishl, 1) := by decide +kernel
theorem dX7_begin_121 : decode cX7_begin 121 = .ok (.goto 4, 3) := by decide +kernel
theorem dX7_begin_124 : decode cX7_begin 124 = .ok (.iconst 0, 1) := by decide +kernel
theorem dX7_begin_125 : decode cX7_begin 125 = .ok (.istore 6, 2) := by decide +kernel
theorem dX7_begin_127 : decode cX7_begin 127 = .ok (.aload_n 0, 1) := by decide +kernel
theorem dX7_begin_128 : decode cX7_begin 128 = .ok (.iconst 1, 1) := by decide +kernel
theorem dX7_begin_129 : decode cX7_begin 129 = .ok (.iload 4, 2) := by decide +kernel
theorem dX7_begin_131 : decode cX7_begin 131 = .ok (.ishl, 1) := by decide +kernel
theorem dX7_begin_132 : decode cX7_begin 132 = .ok (.iload 6, 2) := by decide +kernel
theorem dX7_begin_134 : decode cX7_begin 134 = .ok (.ior, 1) := by decide +kernel
theorem dX7_begin_135 : decode cX7_begin 135 = .ok (.iload_n 3, 1) := by decide +kernel
theorem dX7_begin_136 : decode cX7_begin 136 = .ok (.ifCond .ne 11, 3) := by decide +kernel
theorem dX7_begin_139 : decode cX7_begin 139 = .ok (.lconst 1, 1) := by decide +kernel
theorem dX7_begin_140 : decode cX7_begin 140 = .ok (.iload 4, 2) := by decide +kernel
theorem dX7_begin_142 : decode cX7_begin 142 = .ok (.lshl, 1) := by decide +kernel
theorem dX7_begin_143 : decode cX7_begin 143 = .ok (.lneg, 1) := by decide +kernel
theorem dX7_begin_144 : decode cX7_begin 144 = .ok (.goto 27, 3) := by decide +kernel
theorem dX7_begin_147 : decode cX7_begin 147 = .ok (.iload_n 3, 1) := by decide +kernel
theorem dX7_begin_148 : decode cX7_begin 148 = .ok (.iconst 3, 1) := by decide +kernel
theorem dX7_begin_149 : decode cX7_begin 149 = .ok (.if_icmp .ge 14, 3) := by decide +kernel
theorem dX7_begin_152 : decode cX7_begin 152 = .ok (.lconst 1, 1) := by decide +kernel
theorem dX7_begin_153 : decode cX7_begin 153 = .ok (.iload 4, 2) := by decide +kernel
theorem dX7_begin_155 : decode cX7_begin 155 = .ok (.iload 5, 2) := by decide +kernel
theorem dX7_begin_157 : decode cX7_begin 157 = .ok (.iadd, 1) := by decide +kernel
theorem dX7_begin_158 : decode cX7_begin 158 = .ok (.lshl, 1) := by decide +kernel
theorem dX7_begin_159 : decode cX7_begin 159 = .ok (.lneg, 1) := by decide +kernel
theorem dX7_begin_160 : decode cX7_begin 160 = .ok (.goto 11, 3) := by decide +kernel
theorem dX7_begin_163 : decode cX7_begin 163 = .ok (.ldc2_w 160, 3) := by decide +kernel
theorem dX7_begin_166 : decode cX7_begin 166 = .ok (.lconst 1, 1) := by decide +kernel
theorem dX7_begin_167 : decode cX7_begin 167 = .ok (.iload 4, 2) := by decide +kernel
theorem dX7_begin_169 : decode cX7_begin 169 = .ok (.lshl, 1) := by decide +kernel
theorem dX7_begin_170 : decode cX7_begin 170 = .ok (.lmul, 1) := by decide +kernel
theorem dX7_begin_171 : decode cX7_begin 171 = .ok (.invokevirtual 156, 3) := by decide +kernel
theorem dX7_begin_174 : decode cX7_begin 174 = .ok (.iinc 5 1, 3) := by decide +kernel
theorem dX7_begin_177 : decode cX7_begin 177 = .ok (.goto (-103), 3) := by decide +kernel
theorem dX7_begin_180 : decode cX7_begin 180 = .ok (.iinc 4 1, 3) := by decide +kernel
theorem dX7_begin_183 : decode cX7_begin 183 = .ok (.goto (-118), 3) := by decide +kernel
theorem dX7_begin_186 : decode cX7_begin 186 = .ok (.iconst 0, 1) := by decide +kernel
theorem dX7_begin_187 : decode cX7_begin 187 = .ok (.istore 4, 2) := by decide +kernel
theorem dX7_begin_189 : decode cX7_begin 189 = .ok (.iload 4, 2) := by decide +kernel
theorem dX7_begin_191 : decode cX7_begin 191 = .ok (.iload_n 2, 1) := by decide +kernel
theorem dX7_begin_192 : decode cX7_begin 192 = .ok (.if_icmp .ge 41, 3) := by decide +kernel
theorem dX7_begin_195 : decode cX7_begin 195 = .ok (.iload_n 3, 1) := by decide +kernel
theorem dX7_begin_196 : decode cX7_begin 196 = .ok (.iconst 1, 1) := by decide +kernel
theorem dX7_begin_197 : decode cX7_begin 197 = .ok (.if_icmp .eq 36, 3) := by decide +kernel
theorem dX7_begin_200 : decode cX7_begin 200 = .ok (.aload_n 0, 1) := by decide +kernel
theorem dX7_begin_201 : decode cX7_begin 201 = .ok (.iconst 1, 1) := by decide +kernel
theorem dX7_begin_202 : decode cX7_begin 202 = .ok (.iload_n 1, 1) := by decide +kernel
theorem dX7_begin_203 : decode cX7_begin 203 = .ok (.iload 4, 2) := by decide +kernel
theorem dX7_begin_205 : decode cX7_begin 205 = .ok (.iadd, 1) := by decide +kernel
theorem dX7_begin_206 : decode cX7_begin 206 = .ok (.ishl, 1) := by decide +kernel
theorem dX7_begin_207 : decode cX7_begin 207 = .ok (.iload_n 3, 1) := by decide +kernel
theorem dX7_begin_208 : decode cX7_begin 208 = .ok (.iconst 3, 1) := by decide +kernel
theorem dX7_begin_209 : decode cX7_begin 209 = .ok (.if_icmp .ne 10, 3) := by decide +kernel
theorem dX7_begin_212 : decode cX7_begin 212 = .ok (.lconst 1, 1) := by decide +kernel
theorem dX7_begin_213 : decode cX7_begin 213 = .ok (.iload 4, 2) := by decide +kernel
theorem dX7_begin_215 : decode cX7_begin 215 = .ok (.lshl, 1) := by decide +kernel
theorem dX7_begin_216 : decode cX7_begin 216 = .ok (.goto 8, 3) := by decide +kernel
theorem dX7_begin_219 : decode cX7_begin 219 = .ok (.lconst 1, 1) := by decide +kernel
theorem dX7_begin_220 : decode cX7_begin 220 = .ok (.iload 4, 2) := by decide +kernel
theorem dX7_begin_222 : decode cX7_begin 222 = .ok (.lshl, 1) := by decide +kernel
theorem dX7_begin_223 : decode cX7_begin 223 = .ok (.lneg, 1) := by decide +kernel
theorem dX7_begin_224 : decode cX7_begin 224 = .ok (.invokevirtual 156, 3) := by decide +kernel
theorem dX7_begin_227 : decode cX7_begin 227 = .ok (.iinc 4 1, 3) := by decide +kernel
theorem dX7_begin_230 : decode cX7_begin 230 = .ok (.goto (-41), 3) := by decide +kernel
theorem dX7_begin_233 : decode cX7_begin 233 = .ok (.aload_n 0, 1) := by decide +kernel
theorem dX7_begin_234 : decode cX7_begin 234 = .ok (.invokevirtual 162, 3) := by decide +kernel
theorem dX7_begin_237 : decode cX7_begin 237 = .ok (.ireturn, 1) := by decide +kernel
theorem dX7_puts_0 : decode cX7_puts 0 = .ok (.iconst 1, 1) := by decide +kernel
theorem dX7_puts_1 : decode cX7_puts 1 = .ok (.aload_n 0, 1) := by decide +kernel
theorem dX7_puts_2 : decode cX7_puts 2 = .ok (.getfield 7, 3) := by decide +kernel
theorem dX7_puts_5 : decode cX7_puts 5 = .ok (.bipush 18, 2) := by decide +kernel
theorem dX7_puts_7 : decode cX7_puts 7 = .ok (.iload_n 1, 1) := by decide +kernel
theorem dX7_puts_8 : decode cX7_puts 8 = .ok (.iadd, 1) := by decide +kernel
theorem dX7_puts_9 : decode cX7_puts 9 = .ok (.iaload, 1) := by decide +kernel
theorem dX7_puts_10 : decode cX7_puts 10 = .ok (.ishl, 1) := by decide +kernel
theorem dX7_puts_11 : decode cX7_puts 11 = .ok (.istore 5, 2) := by decide +kernel
theorem dX7_puts_13 : decode cX7_puts 13 = .ok (.aload_n 0, 1) := by decide +kernel
theorem dX7_puts_14 : decode cX7_puts 14 = .ok (.getfield 7, 3) := by decide +kernel
theorem dX7_puts_17 : decode cX7_puts 17 = .ok (.bipush 6, 2) := by decide +kernel
theorem dX7_puts_19 : decode cX7_puts 19 = .ok (.iload_n 1, 1) := by decide +kernel
theorem dX7_puts_20 : decode cX7_puts 20 = .ok (.iadd, 1) := by decide +kernel
theorem dX7_puts_21 : decode cX7_puts 21 = .ok (.iaload, 1) := by decide +kernel
theorem dX7_puts_22 : decode cX7_puts 22 = .ok (.istore 6, 2) := by decide +kernel
theorem dX7_puts_24 : decode cX7_puts 24 = .ok (.iload 6, 2) := by decide +kernel
theorem dX7_puts_26 : decode cX7_puts 26 = .ok (.ifCond .ne 7, 3) := by decide +kernel
theorem dX7_puts_29 : decode cX7_puts 29 = .ok (.iconst 0, 1) := by decide +kernel
theorem dX7_puts_30 : decode cX7_puts 30 = .ok (.goto 14, 3) := by decide +kernel
theorem dX7_puts_33 : decode cX7_puts 33 = .ok (.iconst 1, 1) := by decide +kernel
theorem dX7_puts_34 : decode cX7_puts 34 = .ok (.aload_n 0, 1) := by decide +kernel
theorem dX7_puts_35 : decode cX7_puts 35 = .ok (.getfield 7, 3) := by decide +kernel
theorem dX7_puts_38 : decode cX7_puts 38 = .ok (.bipush 30, 2) := by decide +kernel
theorem dX7_puts_40 : decode cX7_puts 40 = .ok (.iload_n 1, 1) := by decide +kernel
theorem dX7_puts_41 : decode cX7_puts 41 = .ok (.iadd, 1) := by decide +kernel
theorem dX7_puts_42 : decode cX7_puts 42 = .ok (.iaload, 1) := by decide +kernel
theorem dX7_puts_43 : decode cX7_puts 43 = .ok (.ishl, 1) := by decide +kernel
theorem dX7_puts_44 : decode cX7_puts 44 = .ok (.istore 7, 2) := by decide +kernel
theorem dX7_puts_46 : decode cX7_puts 46 = .ok (.iload 6, 2) := by decide +kernel
theorem dX7_puts_48 : decode cX7_puts 48 = .ok (.ifCond .eq 22, 3) := by decide +kernel
theorem dX7_puts_51 : decode cX7_puts 51 = .ok (.iload 6, 2) := by decide +kernel
theorem dX7_puts_53 : decode cX7_puts 53 = .ok (.iconst 4, 1) := by decide +kernel
theorem dX7_puts_54 : decode cX7_puts 54 = .ok (.if_icmp .eq 16, 3) := by decide +kernel
theorem dX7_puts_57 : decode cX7_puts 57 = .ok (.iload 6, 2) := by decide +kernel
theorem dX7_puts_59 : decode cX7_puts 59 = .ok (.iconst 5, 1) := by decide +kernel
theorem dX7_puts_60 : decode cX7_puts 60 = .ok (.if_icmp .eq 10, 3) := by decide +kernel
theorem dX7_puts_63 : decode cX7_puts 63 = .ok (.iload 6, 2) := by decide +kernel
theorem dX7_puts_65 : decode cX7_puts 65 = .ok (.bipush 6, 2) := by decide +kernel
theorem dX7_puts_67 : decode cX7_puts 67 = .ok (.if_icmp .ne 7, 3) := by decide +kernel
theorem dX7_puts_70 : decode cX7_puts 70 = .ok (.iconst 1, 1) := by decide +kernel
theorem dX7_puts_71 : decode cX7_puts 71 = .ok (.goto 4, 3) := by decide +kernel
theorem dX7_puts_74 : decode cX7_puts 74 = .ok (.iconst 0, 1) := by decide +kernel
theorem dX7_puts_75 : decode cX7_puts 75 = .ok (.istore 8, 2) := by decide +kernel
theorem dX7_puts_77 : decode cX7_puts 77 = .ok (.iload 6, 2) := by decide +kernel
theorem dX7_puts_79 : decode cX7_puts 79 = .ok (.iconst 1, 1) := by decide +kernel
theorem dX7_puts_80 : decode cX7_puts 80 = .ok (.if_icmp .eq 13, 3) := by decide +kernel
theorem dX7_puts_83 : decode cX7_puts 83 = .ok (.iload 6, 2) := by decide +kernel
theorem dX7_puts_85 : decode cX7_puts 85 = .ok (.iconst 4, 1) := by decide +kernel
theorem dX7_puts_86 : decode cX7_puts 86 = .ok (.if_icmp .eq 7, 3) := by decide +kernel
theorem dX7_puts_89 : decode cX7_puts 89 = .ok (.iconst 1, 1) := by decide +kernel
theorem dX7_puts_90 : decode cX7_puts 90 = .ok (.goto 4, 3) := by decide +kernel
theorem dX7_puts_93 : decode cX7_puts 93 = .ok (.iconst 0, 1) := by decide +kernel
theorem dX7_puts_94 : decode cX7_puts 94 = .ok (.istore 9, 2) := by decide +kernel
theorem dX7_puts_96 : decode cX7_puts 96 = .ok (.iload 6, 2) := by decide +kernel
theorem dX7_puts_98 : decode cX7_puts 98 = .ok (.iconst 2, 1) := by decide +kernel
theorem dX7_puts_99 : decode cX7_puts 99 = .ok (.if_icmp .eq 22, 3) := by decide +kernel
theorem dX7_puts_102 : decode cX7_puts 102 = .ok (.iload 6, 2) := by decide +kernel
theorem dX7_puts_104 : decode cX7_puts 104 = .ok (.iconst 3, 1) := by decide +kernel
theorem dX7_puts_105 : decode cX7_puts 105 = .ok (.if_icmp .eq 16, 3) := by decide +kernel
theorem dX7_puts_108 : decode cX7_puts 108 = .ok (.iload 6, 2) := by decide +kernel
theorem dX7_puts_110 : decode cX7_puts 110 = .ok (.iconst 5, 1) := by decide +kernel
theorem dX7_puts_111 : decode cX7_puts 111 = .ok (.if_icmp .eq 10, 3) := by decide +kernel
theorem dX7_puts_114 : decode cX7_puts 114 = .ok (.iload 6, 2) := by decide +kernel
theorem dX7_puts_116 : decode cX7_puts 116 = .ok (.bipush 6, 2) := by decide +kernel
theorem dX7_puts_118 : decode cX7_puts 118 = .ok (.if_icmp .ne 7, 3) := by decide +kernel
theorem dX7_puts_121 : decode cX7_puts 121 = .ok (.iconst 1, 1) := by decide +kernel
theorem dX7_puts_122 : decode cX7_puts 122 = .ok (.goto 4, 3) := by decide +kernel
theorem dX7_puts_125 : decode cX7_puts 125 = .ok (.iconst 0, 1) := by decide +kernel
theorem dX7_puts_126 : decode cX7_puts 126 = .ok (.istore 10, 2) := by decide +kernel
theorem dX7_puts_128 : decode cX7_puts 128 = .ok (.iload 8, 2) := by decide +kernel
theorem dX7_puts_130 : decode cX7_puts 130 = .ok (.ifCond .eq 9, 3) := by decide +kernel
theorem dX7_puts_133 : decode cX7_puts 133 = .ok (.aload_n 0, 1) := by decide +kernel
theorem dX7_puts_134 : decode cX7_puts 134 = .ok (.iload_n 2, 1) := by decide +kernel
theorem dX7_puts_135 : decode cX7_puts 135 = .ok (.lload_n 3, 1) := by decide +kernel
theorem dX7_puts_136 : decode cX7_puts 136 = .ok (.invokevirtual 156, 3) := by decide +kernel
theorem dX7_puts_139 : decode cX7_puts 139 = .ok (.iload 8, 2) := by decide +kernel
theorem dX7_puts_141 : decode cX7_puts 141 = .ok (.ifCond .eq 8, 3) := by decide +kernel
theorem dX7_puts_144 : decode cX7_puts 144 = .ok (.lload_n 3, 1) := by decide +kernel
theorem dX7_puts_145 : decode cX7_puts 145 = .ok (.lneg, 1) := by decide +kernel
theorem dX7_puts_146 : decode cX7_puts 146 = .ok (.goto 4, 3) := by decide +kernel
theorem dX7_puts_149 : decode cX7_puts 149 = .ok (.lload_n 3, 1) := by decide +kernel
theorem dX7_puts_150 : decode cX7_puts 150 = .ok (.lstore 11, 2) := by decide +kernel
theorem dX7_puts_152 : decode cX7_puts 152 = .ok (.iload 9, 2) := by decide +kernel
theorem dX7_puts_154 : decode cX7_puts 154 = .ok (.ifCond .eq 13, 3) := by decide +kernel
theorem dX7_puts_157 : decode cX7_puts 157 = .ok (.aload_n 0, 1) := by decide +kernel
theorem dX7_puts_158 : decode cX7_puts 158 = .ok (.iload_n 2, 1) := by decide +kernel
theorem dX7_puts_159 : decode cX7_puts 159 = .ok (.iload 5, 2) := by decide +kernel
theorem dX7_puts_161 : decode cX7_puts 161 = .ok (.ior, 1) := by decide +kernel
theorem dX7_puts_162 : decode cX7_puts 162 = .ok (.lload 11, 2) := by decide +kernel
theorem dX7_puts_164 : decode cX7_puts 164 = .ok (.invokevirtual 156, 3) := by decide +kernel
theorem dX7_puts_167 : decode cX7_puts 167 = .ok (.iload 10, 2) := by decide +kernel
theorem dX7_puts_169 : decode cX7_puts 169 = .ok (.ifCond .eq 13, 3) := by decide +kernel
theorem dX7_puts_172 : decode cX7_puts 172 = .ok (.aload_n 0, 1) := by decide +kernel
theorem dX7_puts_173 : decode cX7_puts 173 = .ok (.iload_n 2, 1) := by decide +kernel
theorem dX7_puts_174 : decode cX7_puts 174 = .ok (.iload 7, 2) := by decide +kernel
theorem dX7_puts_176 : decode cX7_puts 176 = .ok (.ior, 1) := by decide +kernel
theorem dX7_puts_177 : decode cX7_puts 177 = .ok (.lload 11, 2) := by decide +kernel
theorem dX7_puts_179 : decode cX7_puts 179 = .ok (.invokevirtual 156, 3) := by decide +kernel
theorem dX7_puts_182 : decode cX7_puts 182 = .ok (.iload 6, 2) := by decide +kernel
theorem dX7_puts_184 : decode cX7_puts 184 = .ok (.ifCond .eq 64, 3) := by decide +kernel
theorem dX7_puts_187 : decode cX7_puts 187 = .ok (.iload 6, 2) := by decide +kernel
theorem dX7_puts_189 : decode cX7_puts 189 = .ok (.iconst 3, 1) := by decide +kernel
theorem dX7_puts_190 : decode cX7_puts 190 = .ok (.if_icmp .eq 10, 3) := by decide +kernel
theorem dX7_puts_193 : decode cX7_puts 193 = .ok (.iload 6, 2) := by decide +kernel
theorem dX7_puts_195 : decode cX7_puts 195 = .ok (.bipush 6, 2) := by decide +kernel
theorem dX7_puts_197 : decode cX7_puts 197 = .ok (.if_icmp .ne 7, 3) := by decide +kernel
theorem dX7_puts_200 : decode cX7_puts 200 = .ok (.iconst 1, 1) := by decide +kernel
theorem dX7_puts_201 : decode cX7_puts 201 = .ok (.goto 4, 3) := by decide +kernel
theorem dX7_puts_204 : decode cX7_puts 204 = .ok (.iconst 0, 1) := by decide +kernel
theorem dX7_puts_205 : decode cX7_puts 205 = .ok (.istore 13, 2) := by decide +kernel
theorem dX7_puts_207 : decode cX7_puts 207 = .ok (.iload 9, 2) := by decide +kernel
theorem dX7_puts_209 : decode cX7_puts 209 = .ok (.istore 14, 2) := by decide +kernel
theorem dX7_puts_211 : decode cX7_puts 211 = .ok (.aload_n 0, 1) := by decide +kernel
theorem dX7_puts_212 : decode cX7_puts 212 = .ok (.iload_n 2, 1) := by decide +kernel
theorem dX7_puts_213 : decode cX7_puts 213 = .ok (.iload 5, 2) := by decide +kernel
theorem dX7_puts_215 : decode cX7_puts 215 = .ok (.ior, 1) := by decide +kernel
theorem dX7_puts_216 : decode cX7_puts 216 = .ok (.iload 7, 2) := by decide +kernel
theorem dX7_puts_218 : decode cX7_puts 218 = .ok (.ior, 1) := by decide +kernel
theorem dX7_puts_219 : decode cX7_puts 219 = .ok (.iload 14, 2) := by decide +kernel
theorem dX7_puts_221 : decode cX7_puts 221 = .ok (.ifCond .eq 9, 3) := by decide +kernel
theorem dX7_puts_224 : decode cX7_puts 224 = .ok (.lload 11, 2) := by decide +kernel
theorem dX7_puts_226 : decode cX7_puts 226 = .ok (.lneg, 1) := by decide +kernel
theorem dX7_puts_227 : decode cX7_puts 227 = .ok (.goto 5, 3) := by decide +kernel
theorem dX7_puts_230 : decode cX7_puts 230 = .ok (.lload 11, 2) := by decide +kernel
theorem dX7_puts_232 : decode cX7_puts 232 = .ok (.iload 13, 2) := by decide +kernel
theorem dX7_puts_234 : decode cX7_puts 234 = .ok (.ifCond .eq 9, 3) := by decide +kernel
theorem dX7_puts_237 : decode cX7_puts 237 = .ok (.ldc2_w 165, 3) := by decide +kernel
theorem dX7_puts_240 : decode cX7_puts 240 = .ok (.goto 4, 3) := by decide +kernel
theorem dX7_puts_243 : decode cX7_puts 243 = .ok (.lconst 1, 1) := by decide +kernel
theorem dX7_puts_244 : decode cX7_puts 244 = .ok (.lmul, 1) := by decide +kernel
theorem dX7_puts_245 : decode cX7_puts 245 = .ok (.invokevirtual 156, 3) := by decide +kernel
theorem dX7_puts_248 : decode cX7_puts 248 = .ok (.return_, 1) := by decide +kernel
theorem dX7_step_0 : decode cX7_step 0 = .ok (.iconst 1, 1) := by decide +kernel
theorem dX7_step_1 : decode cX7_step 1 = .ok (.aload_n 0, 1) := by decide +kernel
theorem dX7_step_2 : decode cX7_step 2 = .ok (.getfield 7, 3) := by decide +kernel
theorem dX7_step_5 : decode cX7_step 5 = .ok (.iconst 0, 1) := by decide +kernel
theorem dX7_step_6 : decode cX7_step 6 = .ok (.iaload, 1) := by decide +kernel
theorem dX7_step_7 : decode cX7_step 7 = .ok (.iload_n 1, 1) := by decide +kernel
theorem dX7_step_8 : decode cX7_step 8 = .ok (.iadd, 1) := by decide +kernel
theorem dX7_step_9 : decode cX7_step 9 = .ok (.ishl, 1) := by decide +kernel
theorem dX7_step_10 : decode cX7_step 10 = .ok (.istore_n 2, 1) := by decide +kernel
theorem dX7_step_11 : decode cX7_step 11 = .ok (.iconst 0, 1) := by decide +kernel
theorem dX7_step_12 : decode cX7_step 12 = .ok (.istore_n 3, 1) := by decide +kernel
theorem dX7_step_13 : decode cX7_step 13 = .ok (.iload_n 3, 1) := by decide +kernel
theorem dX7_step_14 : decode cX7_step 14 = .ok (.aload_n 0, 1) := by decide +kernel
theorem dX7_step_15 : decode cX7_step 15 = .ok (.getfield 153, 3) := by decide +kernel
theorem dX7_step_18 : decode cX7_step 18 = .ok (.if_icmp .ge 60, 3) := by decide +kernel
theorem dX7_step_21 : decode cX7_step 21 = .ok (.aload_n 0, 1) := by decide +kernel
theorem dX7_step_22 : decode cX7_step 22 = .ok (.getfield 26, 3) := by decide +kernel
theorem dX7_step_25 : decode cX7_step 25 = .ok (.iload_n 3, 1) := by decide +kernel
theorem dX7_step_26 : decode cX7_step 26 = .ok (.iaload, 1) := by decide +kernel
theorem dX7_step_27 : decode cX7_step 27 = .ok (.iload_n 2, 1) := by decide +kernel
theorem dX7_step_28 : decode cX7_step 28 = .ok (.iand, 1) := by decide +kernel
theorem dX7_step_29 : decode cX7_step 29 = .ok (.ifCond .ne 22, 3) := by decide +kernel
theorem dX7_step_32 : decode cX7_step 32 = .ok (.aload_n 0, 1) := by decide +kernel
theorem dX7_step_33 : decode cX7_step 33 = .ok (.aload_n 0, 1) := by decide +kernel
theorem dX7_step_34 : decode cX7_step 34 = .ok (.getfield 26, 3) := by decide +kernel
theorem dX7_step_37 : decode cX7_step 37 = .ok (.iload_n 3, 1) := by decide +kernel
theorem dX7_step_38 : decode cX7_step 38 = .ok (.iaload, 1) := by decide +kernel
theorem dX7_step_39 : decode cX7_step 39 = .ok (.aload_n 0, 1) := by decide +kernel
theorem dX7_step_40 : decode cX7_step 40 = .ok (.getfield 29, 3) := by decide +kernel
theorem dX7_step_43 : decode cX7_step 43 = .ok (.iload_n 3, 1) := by decide +kernel
theorem dX7_step_44 : decode cX7_step 44 = .ok (.laload, 1) := by decide +kernel
theorem dX7_step_45 : decode cX7_step 45 = .ok (.invokevirtual 156, 3) := by decide +kernel
theorem dX7_step_48 : decode cX7_step 48 = .ok (.goto 24, 3) := by decide +kernel
theorem dX7_step_51 : decode cX7_step 51 = .ok (.aload_n 0, 1) := by decide +kernel
theorem dX7_step_52 : decode cX7_step 52 = .ok (.iload_n 1, 1) := by decide +kernel
theorem dX7_step_53 : decode cX7_step 53 = .ok (.aload_n 0, 1) := by decide +kernel
theorem dX7_step_54 : decode cX7_step 54 = .ok (.getfield 26, 3) := by decide +kernel
theorem dX7_step_57 : decode cX7_step 57 = .ok (.iload_n 3, 1) := by decide +kernel
theorem dX7_step_58 : decode cX7_step 58 = .ok (.iaload, 1) := by decide +kernel
theorem dX7_step_59 : decode cX7_step 59 = .ok (.iload_n 2, 1) := by decide +kernel
theorem dX7_step_60 : decode cX7_step 60 = .ok (.iconst (-1), 1) := by decide +kernel
theorem dX7_step_61 : decode cX7_step 61 = .ok (.ixor, 1) := by decide +kernel
theorem dX7_step_62 : decode cX7_step 62 = .ok (.iand, 1) := by decide +kernel
theorem dX7_step_63 : decode cX7_step 63 = .ok (.aload_n 0, 1) := by decide +kernel
theorem dX7_step_64 : decode cX7_step 64 = .ok (.getfield 29, 3) := by decide +kernel
theorem dX7_step_67 : decode cX7_step 67 = .ok (.iload_n 3, 1) := by decide +kernel
theorem dX7_step_68 : decode cX7_step 68 = .ok (.laload, 1) := by decide +kernel
theorem dX7_step_69 : decode cX7_step 69 = .ok (.invokevirtual 167, 3) := by decide +kernel
theorem dX7_step_72 : decode cX7_step 72 = .ok (.iinc 3 1, 3) := by decide +kernel
theorem dX7_step_75 : decode cX7_step 75 = .ok (.goto (-62), 3) := by decide +kernel
theorem dX7_step_78 : decode cX7_step 78 = .ok (.aload_n 0, 1) := by decide +kernel
theorem dX7_step_79 : decode cX7_step 79 = .ok (.invokevirtual 162, 3) := by decide +kernel
theorem dX7_step_82 : decode cX7_step 82 = .ok (.ireturn, 1) := by decide +kernel
theorem dX7_comes_0 : decode cX7_comes 0 = .ok (.aload_n 0, 1) := by decide +kernel
theorem dX7_comes_1 : decode cX7_comes 1 = .ok (.invokevirtual 171, 3) := by decide +kernel
theorem dX7_comes_4 : decode cX7_comes 4 = .ok (.istore_n 2, 1) := by decide +kernel
theorem dX7_comes_5 : decode cX7_comes 5 = .ok (.aload_n 0, 1) := by decide +kernel
theorem dX7_comes_6 : decode cX7_comes 6 = .ok (.aload_n 0, 1) := by decide +kernel
theorem dX7_comes_7 : decode cX7_comes 7 = .ok (.getfield 153, 3) := by decide +kernel
theorem dX7_comes_10 : decode cX7_comes 10 = .ok (.putfield 174, 3) := by decide +kernel
theorem dX7_comes_13 : decode cX7_comes 13 = .ok (.iconst 0, 1) := by decide +kernel
theorem dX7_comes_14 : decode cX7_comes 14 = .ok (.istore_n 3, 1) := by decide +kernel
theorem dX7_comes_15 : decode cX7_comes 15 = .ok (.iload_n 3, 1) := by decide +kernel
theorem dX7_comes_16 : decode cX7_comes 16 = .ok (.iload_n 1, 1) := by decide +kernel
theorem dX7_comes_17 : decode cX7_comes 17 = .ok (.if_icmp .ge 54, 3) := by decide +kernel
theorem dX7_comes_20 : decode cX7_comes 20 = .ok (.iload_n 2, 1) := by decide +kernel
theorem dX7_comes_21 : decode cX7_comes 21 = .ok (.ifCond .eq 50, 3) := by decide +kernel
theorem dX7_comes_24 : decode cX7_comes 24 = .ok (.aload_n 0, 1) := by decide +kernel
theorem dX7_comes_25 : decode cX7_comes 25 = .ok (.aload_n 0, 1) := by decide +kernel
theorem dX7_comes_26 : decode cX7_comes 26 = .ok (.getfield 7, 3) := by decide +kernel
theorem dX7_comes_29 : decode cX7_comes 29 = .ok (.iconst 1, 1) := by decide +kernel
theorem dX7_comes_30 : decode cX7_comes 30 = .ok (.iaload, 1) := by decide +kernel
theorem dX7_comes_31 : decode cX7_comes 31 = .ok (.iconst 1, 1) := by decide +kernel
theorem dX7_comes_32 : decode cX7_comes 32 = .ok (.isub, 1) := by decide +kernel
theorem dX7_comes_33 : decode cX7_comes 33 = .ok (.iload_n 3, 1) := by decide +kernel
theorem dX7_comes_34 : decode cX7_comes 34 = .ok (.isub, 1) := by decide +kernel
theorem dX7_comes_35 : decode cX7_comes 35 = .ok (.invokevirtual 177, 3) := by decide +kernel
theorem dX7_comes_38 : decode cX7_comes 38 = .ok (.istore_n 2, 1) := by decide +kernel
theorem dX7_comes_39 : decode cX7_comes 39 = .ok (.aload_n 0, 1) := by decide +kernel
theorem dX7_comes_40 : decode cX7_comes 40 = .ok (.aload_n 0, 1) := by decide +kernel
theorem dX7_comes_41 : decode cX7_comes 41 = .ok (.getfield 153, 3) := by decide +kernel
theorem dX7_comes_44 : decode cX7_comes 44 = .ok (.aload_n 0, 1) := by decide +kernel
theorem dX7_comes_45 : decode cX7_comes 45 = .ok (.getfield 174, 3) := by decide +kernel
theorem dX7_comes_48 : decode cX7_comes 48 = .ok (.if_icmp .le 10, 3) := by decide +kernel
theorem dX7_comes_51 : decode cX7_comes 51 = .ok (.aload_n 0, 1) := by decide +kernel
theorem dX7_comes_52 : decode cX7_comes 52 = .ok (.getfield 153, 3) := by decide +kernel
theorem dX7_comes_55 : decode cX7_comes 55 = .ok (.goto 7, 3) := by decide +kernel
theorem dX7_comes_58 : decode cX7_comes 58 = .ok (.aload_n 0, 1) := by decide +kernel
theorem dX7_comes_59 : decode cX7_comes 59 = .ok (.getfield 174, 3) := by decide +kernel
theorem dX7_comes_62 : decode cX7_comes 62 = .ok (.putfield 174, 3) := by decide +kernel
theorem dX7_comes_65 : decode cX7_comes 65 = .ok (.iinc 3 1, 3) := by decide +kernel
theorem dX7_comes_68 : decode cX7_comes 68 = .ok (.goto (-53), 3) := by decide +kernel
theorem dX7_comes_71 : decode cX7_comes 71 = .ok (.iload_n 2, 1) := by decide +kernel
theorem dX7_comes_72 : decode cX7_comes 72 = .ok (.ireturn, 1) := by decide +kernel
theorem dX7_ones_0 : decode cX7_ones 0 = .ok (.iconst 0, 1) := by decide +kernel
theorem dX7_ones_1 : decode cX7_ones 1 = .ok (.istore_n 1, 1) := by decide +kernel
theorem dX7_ones_2 : decode cX7_ones 2 = .ok (.iconst 0, 1) := by decide +kernel
theorem dX7_ones_3 : decode cX7_ones 3 = .ok (.istore_n 2, 1) := by decide +kernel
theorem dX7_ones_4 : decode cX7_ones 4 = .ok (.iload_n 2, 1) := by decide +kernel
theorem dX7_ones_5 : decode cX7_ones 5 = .ok (.bipush 18, 2) := by decide +kernel
theorem dX7_ones_7 : decode cX7_ones 7 = .ok (.if_icmp .ge 17, 3) := by decide +kernel
theorem dX7_ones_10 : decode cX7_ones 10 = .ok (.iload_n 1, 1) := by decide +kernel
theorem dX7_ones_11 : decode cX7_ones 11 = .ok (.iload_n 0, 1) := by decide +kernel
theorem dX7_ones_12 : decode cX7_ones 12 = .ok (.iload_n 2, 1) := by decide +kernel
theorem dX7_ones_13 : decode cX7_ones 13 = .ok (.ishr, 1) := by decide +kernel
theorem dX7_ones_14 : decode cX7_ones 14 = .ok (.iconst 1, 1) := by decide +kernel
theorem dX7_ones_15 : decode cX7_ones 15 = .ok (.iand, 1) := by decide +kernel
theorem dX7_ones_16 : decode cX7_ones 16 = .ok (.iadd, 1) := by decide +kernel
theorem dX7_ones_17 : decode cX7_ones 17 = .ok (.istore_n 1, 1) := by decide +kernel
theorem dX7_ones_18 : decode cX7_ones 18 = .ok (.iinc 2 1, 3) := by decide +kernel
theorem dX7_ones_21 : decode cX7_ones 21 = .ok (.goto (-17), 3) := by decide +kernel
theorem dX7_ones_24 : decode cX7_ones 24 = .ok (.iload_n 1, 1) := by decide +kernel
theorem dX7_ones_25 : decode cX7_ones 25 = .ok (.ireturn, 1) := by decide +kernel
theorem dX7_right_0 : decode cX7_right 0 = .ok (.aload_n 0, 1) := by decide +kernel
theorem dX7_right_1 : decode cX7_right 1 = .ok (.invokevirtual 94, 3) := by decide +kernel
theorem dX7_right_4 : decode cX7_right 4 = .ok (.ifCond .ne 10, 3) := by decide +kernel
theorem dX7_right_7 : decode cX7_right 7 = .ok (.aload_n 0, 1) := by decide +kernel
theorem dX7_right_8 : decode cX7_right 8 = .ok (.bipush (-3), 2) := by decide +kernel
theorem dX7_right_10 : decode cX7_right 10 = .ok (.invokevirtual 43, 3) := by decide +kernel
theorem dX7_right_13 : decode cX7_right 13 = .ok (.ireturn, 1) := by decide +kernel
theorem dX7_right_14 : decode cX7_right 14 = .ok (.aload_n 0, 1) := by decide +kernel
theorem dX7_right_15 : decode cX7_right 15 = .ok (.aload_n 0, 1) := by decide +kernel
theorem dX7_right_16 : decode cX7_right 16 = .ok (.getfield 7, 3) := by decide +kernel
theorem dX7_right_19 : decode cX7_right 19 = .ok (.iconst 1, 1) := by decide +kernel
theorem dX7_right_20 : decode cX7_right 20 = .ok (.iaload, 1) := by decide +kernel
theorem dX7_right_21 : decode cX7_right 21 = .ok (.invokevirtual 180, 3) := by decide +kernel
theorem dX7_right_24 : decode cX7_right 24 = .ok (.ifCond .ne 12, 3) := by decide +kernel
theorem dX7_right_27 : decode cX7_right 27 = .ok (.aload_n 0, 1) := by decide +kernel
theorem dX7_right_28 : decode cX7_right 28 = .ok (.bipush (-4), 2) := by decide +kernel
theorem dX7_right_30 : decode cX7_right 30 = .ok (.invokevirtual 43, 3) := by decide +kernel
theorem dX7_right_33 : decode cX7_right 33 = .ok (.goto 15, 3) := by decide +kernel
theorem dX7_right_36 : decode cX7_right 36 = .ok (.aload_n 0, 1) := by decide +kernel
theorem dX7_right_37 : decode cX7_right 37 = .ok (.getfield 153, 3) := by decide +kernel
theorem dX7_right_40 : decode cX7_right 40 = .ok (.ifCond .ne 7, 3) := by decide +kernel
theorem dX7_right_43 : decode cX7_right 43 = .ok (.iconst 1, 1) := by decide +kernel
theorem dX7_right_44 : decode cX7_right 44 = .ok (.goto 4, 3) := by decide +kernel
theorem dX7_right_47 : decode cX7_right 47 = .ok (.iconst 0, 1) := by decide +kernel
theorem dX7_right_48 : decode cX7_right 48 = .ok (.ireturn, 1) := by decide +kernel
theorem dX7_terms_0 : decode cX7_terms 0 = .ok (.aload_n 0, 1) := by decide +kernel
theorem dX7_terms_1 : decode cX7_terms 1 = .ok (.iload_n 1, 1) := by decide +kernel
theorem dX7_terms_2 : decode cX7_terms 2 = .ok (.invokevirtual 183, 3) := by decide +kernel
theorem dX7_terms_5 : decode cX7_terms 5 = .ok (.istore_n 2, 1) := by decide +kernel
theorem dX7_terms_6 : decode cX7_terms 6 = .ok (.iload_n 2, 1) := by decide +kernel
theorem dX7_terms_7 : decode cX7_terms 7 = .ok (.ifCond .eq 10, 3) := by decide +kernel
theorem dX7_terms_10 : decode cX7_terms 10 = .ok (.aload_n 0, 1) := by decide +kernel
theorem dX7_terms_11 : decode cX7_terms 11 = .ok (.invokevirtual 94, 3) := by decide +kernel
theorem dX7_terms_14 : decode cX7_terms 14 = .ok (.ifCond .ne 9, 3) := by decide +kernel
theorem dX7_terms_17 : decode cX7_terms 17 = .ok (.aload_n 0, 1) := by decide +kernel
theorem dX7_terms_18 : decode cX7_terms 18 = .ok (.iload_n 2, 1) := by decide +kernel
theorem dX7_terms_19 : decode cX7_terms 19 = .ok (.invokevirtual 100, 3) := by decide +kernel
theorem dX7_terms_22 : decode cX7_terms 22 = .ok (.ireturn, 1) := by decide +kernel
theorem dX7_terms_23 : decode cX7_terms 23 = .ok (.aload_n 0, 1) := by decide +kernel
theorem dX7_terms_24 : decode cX7_terms 24 = .ok (.iload_n 1, 1) := by decide +kernel
theorem dX7_terms_25 : decode cX7_terms 25 = .ok (.invokevirtual 180, 3) := by decide +kernel
theorem dX7_terms_28 : decode cX7_terms 28 = .ok (.ifCond .eq 10, 3) := by decide +kernel
theorem dX7_terms_31 : decode cX7_terms 31 = .ok (.aload_n 0, 1) := by decide +kernel
theorem dX7_terms_32 : decode cX7_terms 32 = .ok (.getfield 153, 3) := by decide +kernel
theorem dX7_terms_35 : decode cX7_terms 35 = .ok (.goto 9, 3) := by decide +kernel
theorem dX7_terms_38 : decode cX7_terms 38 = .ok (.aload_n 0, 1) := by decide +kernel
theorem dX7_terms_39 : decode cX7_terms 39 = .ok (.bipush (-4), 2) := by decide +kernel
theorem dX7_terms_41 : decode cX7_terms 41 = .ok (.invokevirtual 43, 3) := by decide +kernel
theorem dX7_terms_44 : decode cX7_terms 44 = .ok (.ireturn, 1) := by decide +kernel
theorem dX7_term_0 : decode cX7_term 0 = .ok (.aload_n 0, 1) := by decide +kernel
theorem dX7_term_1 : decode cX7_term 1 = .ok (.iload_n 1, 1) := by decide +kernel
theorem dX7_term_2 : decode cX7_term 2 = .ok (.invokevirtual 183, 3) := by decide +kernel
theorem dX7_term_5 : decode cX7_term 5 = .ok (.ifCond .eq 20, 3) := by decide +kernel
theorem dX7_term_8 : decode cX7_term 8 = .ok (.iload_n 2, 1) := by decide +kernel
theorem dX7_term_9 : decode cX7_term 9 = .ok (.ifCond .lt 16, 3) := by decide +kernel
theorem dX7_term_12 : decode cX7_term 12 = .ok (.iload_n 3, 1) := by decide +kernel
theorem dX7_term_13 : decode cX7_term 13 = .ok (.iconst 0, 1) := by decide +kernel
theorem dX7_term_14 : decode cX7_term 14 = .ok (.iconst 1, 1) := by decide +kernel
theorem dX7_term_15 : decode cX7_term 15 = .ok (.invokestatic 39, 3) := by decide +kernel
theorem dX7_term_18 : decode cX7_term 18 = .ok (.ifCond .eq 7, 3) := by decide +kernel
theorem dX7_term_21 : decode cX7_term 21 = .ok (.iconst 1, 1) := by decide +kernel
theorem dX7_term_22 : decode cX7_term 22 = .ok (.goto 4, 3) := by decide +kernel
theorem dX7_term_25 : decode cX7_term 25 = .ok (.iconst 0, 1) := by decide +kernel
theorem dX7_term_26 : decode cX7_term 26 = .ok (.istore 4, 2) := by decide +kernel
theorem dX7_term_28 : decode cX7_term 28 = .ok (.iload 4, 2) := by decide +kernel
theorem dX7_term_30 : decode cX7_term 30 = .ok (.ifCond .eq 10, 3) := by decide +kernel
theorem dX7_term_33 : decode cX7_term 33 = .ok (.aload_n 0, 1) := by decide +kernel
theorem dX7_term_34 : decode cX7_term 34 = .ok (.invokevirtual 94, 3) := by decide +kernel
theorem dX7_term_37 : decode cX7_term 37 = .ok (.ifCond .ne 10, 3) := by decide +kernel
theorem dX7_term_40 : decode cX7_term 40 = .ok (.aload_n 0, 1) := by decide +kernel
theorem dX7_term_41 : decode cX7_term 41 = .ok (.iload 4, 2) := by decide +kernel
theorem dX7_term_43 : decode cX7_term 43 = .ok (.invokevirtual 100, 3) := by decide +kernel
theorem dX7_term_46 : decode cX7_term 46 = .ok (.ireturn, 1) := by decide +kernel
theorem dX7_term_47 : decode cX7_term 47 = .ok (.aload_n 0, 1) := by decide +kernel
theorem dX7_term_48 : decode cX7_term 48 = .ok (.iload_n 1, 1) := by decide +kernel
theorem dX7_term_49 : decode cX7_term 49 = .ok (.invokevirtual 180, 3) := by decide +kernel
theorem dX7_term_52 : decode cX7_term 52 = .ok (.ifCond .ne 10, 3) := by decide +kernel
theorem dX7_term_55 : decode cX7_term 55 = .ok (.aload_n 0, 1) := by decide +kernel
theorem dX7_term_56 : decode cX7_term 56 = .ok (.bipush (-4), 2) := by decide +kernel
theorem dX7_term_58 : decode cX7_term 58 = .ok (.invokevirtual 43, 3) := by decide +kernel
theorem dX7_term_61 : decode cX7_term 61 = .ok (.ireturn, 1) := by decide +kernel
theorem dX7_term_62 : decode cX7_term 62 = .ok (.iload_n 2, 1) := by decide +kernel
theorem dX7_term_63 : decode cX7_term 63 = .ok (.aload_n 0, 1) := by decide +kernel
theorem dX7_term_64 : decode cX7_term 64 = .ok (.getfield 153, 3) := by decide +kernel
theorem dX7_term_67 : decode cX7_term 67 = .ok (.if_icmp .lt 7, 3) := by decide +kernel
theorem dX7_term_70 : decode cX7_term 70 = .ok (.iconst (-1), 1) := by decide +kernel
theorem dX7_term_71 : decode cX7_term 71 = .ok (.goto 23, 3) := by decide +kernel
theorem dX7_term_74 : decode cX7_term 74 = .ok (.iload_n 3, 1) := by decide +kernel
theorem dX7_term_75 : decode cX7_term 75 = .ok (.ifCond .ne 13, 3) := by decide +kernel
theorem dX7_term_78 : decode cX7_term 78 = .ok (.aload_n 0, 1) := by decide +kernel
theorem dX7_term_79 : decode cX7_term 79 = .ok (.getfield 29, 3) := by decide +kernel
theorem dX7_term_82 : decode cX7_term 82 = .ok (.iload_n 2, 1) := by decide +kernel
theorem dX7_term_83 : decode cX7_term 83 = .ok (.laload, 1) := by decide +kernel
theorem dX7_term_84 : decode cX7_term 84 = .ok (.l2i, 1) := by decide +kernel
theorem dX7_term_85 : decode cX7_term 85 = .ok (.goto 9, 3) := by decide +kernel
theorem dX7_term_88 : decode cX7_term 88 = .ok (.aload_n 0, 1) := by decide +kernel
theorem dX7_term_89 : decode cX7_term 89 = .ok (.getfield 26, 3) := by decide +kernel
theorem dX7_term_92 : decode cX7_term 92 = .ok (.iload_n 2, 1) := by decide +kernel
theorem dX7_term_93 : decode cX7_term 93 = .ok (.iaload, 1) := by decide +kernel
theorem dX7_term_94 : decode cX7_term 94 = .ok (.ireturn, 1) := by decide +kernel
theorem dX7_most_0 : decode cX7_most 0 = .ok (.iload_n 1, 1) := by decide +kernel
theorem dX7_most_1 : decode cX7_most 1 = .ok (.iconst 0, 1) := by decide +kernel
theorem dX7_most_2 : decode cX7_most 2 = .ok (.iconst 2, 1) := by decide +kernel
theorem dX7_most_3 : decode cX7_most 3 = .ok (.invokestatic 39, 3) := by decide +kernel
theorem dX7_most_6 : decode cX7_most 6 = .ok (.istore_n 2, 1) := by decide +kernel
theorem dX7_most_7 : decode cX7_most 7 = .ok (.iload_n 2, 1) := by decide +kernel
theorem dX7_most_8 : decode cX7_most 8 = .ok (.ifCond .eq 10, 3) := by decide +kernel
theorem dX7_most_11 : decode cX7_most 11 = .ok (.aload_n 0, 1) := by decide +kernel
theorem dX7_most_12 : decode cX7_most 12 = .ok (.invokevirtual 94, 3) := by decide +kernel
theorem dX7_most_15 : decode cX7_most 15 = .ok (.ifCond .ne 9, 3) := by decide +kernel
theorem dX7_most_18 : decode cX7_most 18 = .ok (.aload_n 0, 1) := by decide +kernel
theorem dX7_most_19 : decode cX7_most 19 = .ok (.iload_n 2, 1) := by decide +kernel
theorem dX7_most_20 : decode cX7_most 20 = .ok (.invokevirtual 100, 3) := by decide +kernel
theorem dX7_most_23 : decode cX7_most 23 = .ok (.ireturn, 1) := by decide +kernel
theorem dX7_most_24 : decode cX7_most 24 = .ok (.aload_n 0, 1) := by decide +kernel
theorem dX7_most_25 : decode cX7_most 25 = .ok (.aload_n 0, 1) := by decide +kernel
theorem dX7_most_26 : decode cX7_most 26 = .ok (.getfield 7, 3) := by decide +kernel
theorem dX7_most_29 : decode cX7_most 29 = .ok (.iconst 1, 1) := by decide +kernel
theorem dX7_most_30 : decode cX7_most 30 = .ok (.iaload, 1) := by decide +kernel
theorem dX7_most_31 : decode cX7_most 31 = .ok (.invokevirtual 180, 3) := by decide +kernel
theorem dX7_most_34 : decode cX7_most 34 = .ok (.ifCond .ne 10, 3) := by decide +kernel
theorem dX7_most_37 : decode cX7_most 37 = .ok (.aload_n 0, 1) := by decide +kernel
theorem dX7_most_38 : decode cX7_most 38 = .ok (.bipush (-4), 2) := by decide +kernel
theorem dX7_most_40 : decode cX7_most 40 = .ok (.invokevirtual 43, 3) := by decide +kernel
theorem dX7_most_43 : decode cX7_most 43 = .ok (.ireturn, 1) := by decide +kernel
theorem dX7_most_44 : decode cX7_most 44 = .ok (.iconst 0, 1) := by decide +kernel
theorem dX7_most_45 : decode cX7_most 45 = .ok (.istore_n 3, 1) := by decide +kernel
theorem dX7_most_46 : decode cX7_most 46 = .ok (.lconst 0, 1) := by decide +kernel
theorem dX7_most_47 : decode cX7_most 47 = .ok (.lstore 4, 2) := by decide +kernel
theorem dX7_most_49 : decode cX7_most 49 = .ok (.iconst 0, 1) := by decide +kernel
theorem dX7_most_50 : decode cX7_most 50 = .ok (.istore 6, 2) := by decide +kernel
theorem dX7_most_52 : decode cX7_most 52 = .ok (.iload 6, 2) := by decide +kernel
theorem dX7_most_54 : decode cX7_most 54 = .ok (.aload_n 0, 1) := by decide +kernel
theorem dX7_most_55 : decode cX7_most 55 = .ok (.getfield 153, 3) := by decide +kernel
theorem dX7_most_58 : decode cX7_most 58 = .ok (.if_icmp .ge 50, 3) := by decide +kernel
theorem dX7_most_61 : decode cX7_most 61 = .ok (.aload_n 0, 1) := by decide +kernel
theorem dX7_most_62 : decode cX7_most 62 = .ok (.getfield 26, 3) := by decide +kernel
theorem dX7_most_65 : decode cX7_most 65 = .ok (.iload 6, 2) := by decide +kernel
theorem dX7_most_67 : decode cX7_most 67 = .ok (.iaload, 1) := by decide +kernel
theorem dX7_most_68 : decode cX7_most 68 = .ok (.invokestatic 186, 3) := by decide +kernel
theorem dX7_most_71 : decode cX7_most 71 = .ok (.iload_n 3, 1) := by decide +kernel
theorem dX7_most_72 : decode cX7_most 72 = .ok (.if_icmp .le 16, 3) := by decide +kernel
theorem dX7_most_75 : decode cX7_most 75 = .ok (.aload_n 0, 1) := by decide +kernel
theorem dX7_most_76 : decode cX7_most 76 = .ok (.getfield 26, 3) := by decide +kernel
theorem dX7_most_79 : decode cX7_most 79 = .ok (.iload 6, 2) := by decide +kernel
theorem dX7_most_81 : decode cX7_most 81 = .ok (.iaload, 1) := by decide +kernel
theorem dX7_most_82 : decode cX7_most 82 = .ok (.invokestatic 186, 3) := by decide +kernel
theorem dX7_most_85 : decode cX7_most 85 = .ok (.goto 4, 3) := by decide +kernel
theorem dX7_most_88 : decode cX7_most 88 = .ok (.iload_n 3, 1) := by decide +kernel
theorem dX7_most_89 : decode cX7_most 89 = .ok (.istore_n 3, 1) := by decide +kernel
theorem dX7_most_90 : decode cX7_most 90 = .ok (.lload 4, 2) := by decide +kernel
theorem dX7_most_92 : decode cX7_most 92 = .ok (.aload_n 0, 1) := by decide +kernel
theorem dX7_most_93 : decode cX7_most 93 = .ok (.getfield 29, 3) := by decide +kernel
theorem dX7_most_96 : decode cX7_most 96 = .ok (.iload 6, 2) := by decide +kernel
theorem dX7_most_98 : decode cX7_most 98 = .ok (.laload, 1) := by decide +kernel
theorem dX7_most_99 : decode cX7_most 99 = .ok (.ladd, 1) := by decide +kernel
theorem dX7_most_100 : decode cX7_most 100 = .ok (.lstore 4, 2) := by decide +kernel
theorem dX7_most_102 : decode cX7_most 102 = .ok (.iinc 6 1, 3) := by decide +kernel
theorem dX7_most_105 : decode cX7_most 105 = .ok (.goto (-53), 3) := by decide +kernel
theorem dX7_most_108 : decode cX7_most 108 = .ok (.iload_n 1, 1) := by decide +kernel
theorem dX7_most_109 : decode cX7_most 109 = .ok (.ifCond .ne 10, 3) := by decide +kernel
theorem dX7_most_112 : decode cX7_most 112 = .ok (.aload_n 0, 1) := by decide +kernel
theorem dX7_most_113 : decode cX7_most 113 = .ok (.getfield 174, 3) := by decide +kernel
theorem dX7_most_116 : decode cX7_most 116 = .ok (.goto 15, 3) := by decide +kernel
theorem dX7_most_119 : decode cX7_most 119 = .ok (.iload_n 1, 1) := by decide +kernel
theorem dX7_most_120 : decode cX7_most 120 = .ok (.iconst 1, 1) := by decide +kernel
theorem dX7_most_121 : decode cX7_most 121 = .ok (.if_icmp .ne 7, 3) := by decide +kernel
theorem dX7_most_124 : decode cX7_most 124 = .ok (.iload_n 3, 1) := by decide +kernel
theorem dX7_most_125 : decode cX7_most 125 = .ok (.goto 6, 3) := by decide +kernel
theorem dX7_most_128 : decode cX7_most 128 = .ok (.lload 4, 2) := by decide +kernel
theorem dX7_most_130 : decode cX7_most 130 = .ok (.l2i, 1) := by decide +kernel
theorem dX7_most_131 : decode cX7_most 131 = .ok (.ireturn, 1) := by decide +kernel
theorem dX7_size_0 : decode cX7_size 0 = .ok (.lload_n 0, 1) := by decide +kernel
theorem dX7_size_1 : decode cX7_size 1 = .ok (.lconst 0, 1) := by decide +kernel
theorem dX7_size_2 : decode cX7_size 2 = .ok (.lcmp, 1) := by decide +kernel
theorem dX7_size_3 : decode cX7_size 3 = .ok (.ifCond .ge 8, 3) := by decide +kernel
theorem dX7_size_6 : decode cX7_size 6 = .ok (.lload_n 0, 1) := by decide +kernel
theorem dX7_size_7 : decode cX7_size 7 = .ok (.lneg, 1) := by decide +kernel
theorem dX7_size_8 : decode cX7_size 8 = .ok (.goto 4, 3) := by decide +kernel
theorem dX7_size_11 : decode cX7_size 11 = .ok (.lload_n 0, 1) := by decide +kernel
theorem dX7_size_12 : decode cX7_size 12 = .ok (.lreturn, 1) := by decide +kernel
theorem dX7_dearest_0 : decode cX7_dearest 0 = .ok (.aload_n 0, 1) := by decide +kernel
theorem dX7_dearest_1 : decode cX7_dearest 1 = .ok (.iload_n 1, 1) := by decide +kernel
theorem dX7_dearest_2 : decode cX7_dearest 2 = .ok (.invokevirtual 183, 3) := by decide +kernel
theorem dX7_dearest_5 : decode cX7_dearest 5 = .ok (.ifCond .eq 11, 3) := by decide +kernel
theorem dX7_dearest_8 : decode cX7_dearest 8 = .ok (.iload_n 2, 1) := by decide +kernel
theorem dX7_dearest_9 : decode cX7_dearest 9 = .ok (.ifCond .lt 7, 3) := by decide +kernel
theorem dX7_dearest_12 : decode cX7_dearest 12 = .ok (.iconst 1, 1) := by decide +kernel
theorem dX7_dearest_13 : decode cX7_dearest 13 = .ok (.goto 4, 3) := by decide +kernel
theorem dX7_dearest_16 : decode cX7_dearest 16 = .ok (.iconst 0, 1) := by decide +kernel
theorem dX7_dearest_17 : decode cX7_dearest 17 = .ok (.istore_n 3, 1) := by decide +kernel
theorem dX7_dearest_18 : decode cX7_dearest 18 = .ok (.iload_n 3, 1) := by decide +kernel
theorem dX7_dearest_19 : decode cX7_dearest 19 = .ok (.ifCond .eq 10, 3) := by decide +kernel
theorem dX7_dearest_22 : decode cX7_dearest 22 = .ok (.aload_n 0, 1) := by decide +kernel
theorem dX7_dearest_23 : decode cX7_dearest 23 = .ok (.invokevirtual 94, 3) := by decide +kernel
theorem dX7_dearest_26 : decode cX7_dearest 26 = .ok (.ifCond .ne 9, 3) := by decide +kernel
theorem dX7_dearest_29 : decode cX7_dearest 29 = .ok (.aload_n 0, 1) := by decide +kernel
theorem dX7_dearest_30 : decode cX7_dearest 30 = .ok (.iload_n 3, 1) := by decide +kernel
theorem dX7_dearest_31 : decode cX7_dearest 31 = .ok (.invokevirtual 100, 3) := by decide +kernel
theorem dX7_dearest_34 : decode cX7_dearest 34 = .ok (.ireturn, 1) := by decide +kernel
theorem dX7_dearest_35 : decode cX7_dearest 35 = .ok (.aload_n 0, 1) := by decide +kernel
theorem dX7_dearest_36 : decode cX7_dearest 36 = .ok (.iload_n 1, 1) := by decide +kernel
theorem dX7_dearest_37 : decode cX7_dearest 37 = .ok (.invokevirtual 180, 3) := by decide +kernel
theorem dX7_dearest_40 : decode cX7_dearest 40 = .ok (.ifCond .ne 10, 3) := by decide +kernel
theorem dX7_dearest_43 : decode cX7_dearest 43 = .ok (.aload_n 0, 1) := by decide +kernel
theorem dX7_dearest_44 : decode cX7_dearest 44 = .ok (.bipush (-4), 2) := by decide +kernel
theorem dX7_dearest_46 : decode cX7_dearest 46 = .ok (.invokevirtual 43, 3) := by decide +kernel
theorem dX7_dearest_49 : decode cX7_dearest 49 = .ok (.ireturn, 1) := by decide +kernel
theorem dX7_dearest_50 : decode cX7_dearest 50 = .ok (.iconst (-1), 1) := by decide +kernel
theorem dX7_dearest_51 : decode cX7_dearest 51 = .ok (.istore 4, 2) := by decide +kernel
theorem dX7_dearest_53 : decode cX7_dearest 53 = .ok (.iconst 0, 1) := by decide +kernel
theorem dX7_dearest_54 : decode cX7_dearest 54 = .ok (.istore 5, 2) := by decide +kernel
theorem dX7_dearest_56 : decode cX7_dearest 56 = .ok (.iload 5, 2) := by decide +kernel
theorem dX7_dearest_58 : decode cX7_dearest 58 = .ok (.aload_n 0, 1) := by decide +kernel
theorem dX7_dearest_59 : decode cX7_dearest 59 = .ok (.getfield 153, 3) := by decide +kernel
theorem dX7_dearest_62 : decode cX7_dearest 62 = .ok (.if_icmp .ge 104, 3) := by decide +kernel
theorem dX7_dearest_65 : decode cX7_dearest 65 = .ok (.iconst 0, 1) := by decide +kernel
theorem dX7_dearest_66 : decode cX7_dearest 66 = .ok (.istore 6, 2) := by decide +kernel
theorem dX7_dearest_68 : decode cX7_dearest 68 = .ok (.iconst 0, 1) := by decide +kernel
theorem dX7_dearest_69 : decode cX7_dearest 69 = .ok (.istore 7, 2) := by decide +kernel
theorem dX7_dearest_71 : decode cX7_dearest 71 = .ok (.iload 7, 2) := by decide +kernel
theorem dX7_dearest_73 : decode cX7_dearest 73 = .ok (.aload_n 0, 1) := by decide +kernel
theorem dX7_dearest_74 : decode cX7_dearest 74 = .ok (.getfield 153, 3) := by decide +kernel
theorem dX7_dearest_77 : decode cX7_dearest 77 = .ok (.if_icmp .ge 63, 3) := by decide +kernel
theorem dX7_dearest_80 : decode cX7_dearest 80 = .ok (.aload_n 0, 1) := by decide +kernel
theorem dX7_dearest_81 : decode cX7_dearest 81 = .ok (.getfield 29, 3) := by decide +kernel
theorem dX7_dearest_84 : decode cX7_dearest 84 = .ok (.iload 7, 2) := by decide +kernel
theorem dX7_dearest_86 : decode cX7_dearest 86 = .ok (.laload, 1) := by decide +kernel
theorem dX7_dearest_87 : decode cX7_dearest 87 = .ok (.invokestatic 189, 3) := by decide +kernel
theorem dX7_dearest_90 : decode cX7_dearest 90 = .ok (.aload_n 0, 1) := by decide +kernel
theorem dX7_dearest_91 : decode cX7_dearest 91 = .ok (.getfield 29, 3) := by decide +kernel
theorem dX7_dearest_94 : decode cX7_dearest 94 = .ok (.iload 5, 2) := by decide +kernel
theorem dX7_dearest_96 : decode cX7_dearest 96 = .ok (.laload, 1) := by decide +kernel
theorem dX7_dearest_97 : decode cX7_dearest 97 = .ok (.invokestatic 189, 3) := by decide +kernel
theorem dX7_dearest_100 : decode cX7_dearest 100 = .ok (.lsub, 1) := by decide +kernel
theorem dX7_dearest_101 : decode cX7_dearest 101 = .ok (.lstore 8, 2) := by decide +kernel
theorem dX7_dearest_103 : decode cX7_dearest 103 = .ok (.iload 6, 2) := by decide +kernel
theorem dX7_dearest_105 : decode cX7_dearest 105 = .ok (.lload 8, 2) := by decide +kernel
theorem dX7_dearest_107 : decode cX7_dearest 107 = .ok (.lconst 0, 1) := by decide +kernel
theorem dX7_dearest_108 : decode cX7_dearest 108 = .ok (.lcmp, 1) := by decide +kernel
theorem dX7_dearest_109 : decode cX7_dearest 109 = .ok (.ifCond .gt 17, 3) := by decide +kernel
theorem dX7_dearest_112 : decode cX7_dearest 112 = .ok (.lload 8, 2) := by decide +kernel
theorem dX7_dearest_114 : decode cX7_dearest 114 = .ok (.lconst 0, 1) := by decide +kernel
theorem dX7_dearest_115 : decode cX7_dearest 115 = .ok (.lcmp, 1) := by decide +kernel
theorem dX7_dearest_116 : decode cX7_dearest 116 = .ok (.ifCond .ne 14, 3) := by decide +kernel
theorem dX7_dearest_119 : decode cX7_dearest 119 = .ok (.iload 7, 2) := by decide +kernel
theorem dX7_dearest_121 : decode cX7_dearest 121 = .ok (.iload 5, 2) := by decide +kernel
theorem dX7_dearest_123 : decode cX7_dearest 123 = .ok (.if_icmp .ge 7, 3) := by decide +kernel
theorem dX7_dearest_126 : decode cX7_dearest 126 = .ok (.iconst 1, 1) := by decide +kernel
theorem dX7_dearest_127 : decode cX7_dearest 127 = .ok (.goto 4, 3) := by decide +kernel
theorem dX7_dearest_130 : decode cX7_dearest 130 = .ok (.iconst 0, 1) := by decide +kernel
theorem dX7_dearest_131 : decode cX7_dearest 131 = .ok (.iadd, 1) := by decide +kernel
theorem dX7_dearest_132 : decode cX7_dearest 132 = .ok (.istore 6, 2) := by decide +kernel
theorem dX7_dearest_134 : decode cX7_dearest 134 = .ok (.iinc 7 1, 3) := by decide +kernel
theorem dX7_dearest_137 : decode cX7_dearest 137 = .ok (.goto (-66), 3) := by decide +kernel
theorem dX7_dearest_140 : decode cX7_dearest 140 = .ok (.iload 6, 2) := by decide +kernel
theorem dX7_dearest_142 : decode cX7_dearest 142 = .ok (.iload_n 2, 1) := by decide +kernel
theorem dX7_dearest_143 : decode cX7_dearest 143 = .ok (.if_icmp .ne 13, 3) := by decide +kernel
theorem dX7_dearest_146 : decode cX7_dearest 146 = .ok (.aload_n 0, 1) := by decide +kernel
theorem dX7_dearest_147 : decode cX7_dearest 147 = .ok (.getfield 26, 3) := by decide +kernel
theorem dX7_dearest_150 : decode cX7_dearest 150 = .ok (.iload 5, 2) := by decide +kernel
theorem dX7_dearest_152 : decode cX7_dearest 152 = .ok (.iaload, 1) := by decide +kernel
theorem dX7_dearest_153 : decode cX7_dearest 153 = .ok (.goto 5, 3) := by decide +kernel
theorem dX7_dearest_156 : decode cX7_dearest 156 = .ok (.iload 4, 2) := by decide +kernel
theorem dX7_dearest_158 : decode cX7_dearest 158 = .ok (.istore 4, 2) := by decide +kernel
theorem dX7_dearest_160 : decode cX7_dearest 160 = .ok (.iinc 5 1, 3) := by decide +kernel
theorem dX7_dearest_163 : decode cX7_dearest 163 = .ok (.goto (-107), 3) := by decide +kernel
theorem dX7_dearest_166 : decode cX7_dearest 166 = .ok (.iload 4, 2) := by decide +kernel
theorem dX7_dearest_168 : decode cX7_dearest 168 = .ok (.ireturn, 1) := by decide +kernel
theorem dX7_value_0 : decode cX7_value 0 = .ok (.aload_n 0, 1) := by decide +kernel
theorem dX7_value_1 : decode cX7_value 1 = .ok (.iload_n 1, 1) := by decide +kernel
theorem dX7_value_2 : decode cX7_value 2 = .ok (.invokevirtual 183, 3) := by decide +kernel
theorem dX7_value_5 : decode cX7_value 5 = .ok (.ifCond .eq 15, 3) := by decide +kernel
theorem dX7_value_8 : decode cX7_value 8 = .ok (.aload_n 0, 1) := by decide +kernel
theorem dX7_value_9 : decode cX7_value 9 = .ok (.iload_n 2, 1) := by decide +kernel
theorem dX7_value_10 : decode cX7_value 10 = .ok (.invokevirtual 144, 3) := by decide +kernel
theorem dX7_value_13 : decode cX7_value 13 = .ok (.ifCond .eq 7, 3) := by decide +kernel
theorem dX7_value_16 : decode cX7_value 16 = .ok (.iconst 1, 1) := by decide +kernel
theorem dX7_value_17 : decode cX7_value 17 = .ok (.goto 4, 3) := by decide +kernel
theorem dX7_value_20 : decode cX7_value 20 = .ok (.iconst 0, 1) := by decide +kernel
theorem dX7_value_21 : decode cX7_value 21 = .ok (.istore_n 3, 1) := by decide +kernel
theorem dX7_value_22 : decode cX7_value 22 = .ok (.iload_n 3, 1) := by decide +kernel
theorem dX7_value_23 : decode cX7_value 23 = .ok (.ifCond .eq 10, 3) := by decide +kernel
theorem dX7_value_26 : decode cX7_value 26 = .ok (.aload_n 0, 1) := by decide +kernel
theorem dX7_value_27 : decode cX7_value 27 = .ok (.invokevirtual 94, 3) := by decide +kernel
theorem dX7_value_30 : decode cX7_value 30 = .ok (.ifCond .ne 9, 3) := by decide +kernel
theorem dX7_value_33 : decode cX7_value 33 = .ok (.aload_n 0, 1) := by decide +kernel
theorem dX7_value_34 : decode cX7_value 34 = .ok (.iload_n 3, 1) := by decide +kernel
theorem dX7_value_35 : decode cX7_value 35 = .ok (.invokevirtual 100, 3) := by decide +kernel
theorem dX7_value_38 : decode cX7_value 38 = .ok (.ireturn, 1) := by decide +kernel
theorem dX7_value_39 : decode cX7_value 39 = .ok (.aload_n 0, 1) := by decide +kernel
theorem dX7_value_40 : decode cX7_value 40 = .ok (.iload_n 1, 1) := by decide +kernel
theorem dX7_value_41 : decode cX7_value 41 = .ok (.invokevirtual 180, 3) := by decide +kernel
theorem dX7_value_44 : decode cX7_value 44 = .ok (.ifCond .ne 10, 3) := by decide +kernel
theorem dX7_value_47 : decode cX7_value 47 = .ok (.aload_n 0, 1) := by decide +kernel
theorem dX7_value_48 : decode cX7_value 48 = .ok (.bipush (-4), 2) := by decide +kernel
theorem dX7_value_50 : decode cX7_value 50 = .ok (.invokevirtual 43, 3) := by decide +kernel
theorem dX7_value_53 : decode cX7_value 53 = .ok (.ireturn, 1) := by decide +kernel
theorem dX7_value_54 : decode cX7_value 54 = .ok (.aload_n 0, 1) := by decide +kernel
theorem dX7_value_55 : decode cX7_value 55 = .ok (.iload_n 2, 1) := by decide +kernel
theorem dX7_value_56 : decode cX7_value 56 = .ok (.invokevirtual 135, 3) := by decide +kernel
theorem dX7_value_59 : decode cX7_value 59 = .ok (.istore 4, 2) := by decide +kernel
theorem dX7_value_61 : decode cX7_value 61 = .ok (.lconst 0, 1) := by decide +kernel
theorem dX7_value_62 : decode cX7_value 62 = .ok (.lstore 5, 2) := by decide +kernel
theorem dX7_value_64 : decode cX7_value 64 = .ok (.iconst 0, 1) := by decide +kernel
theorem dX7_value_65 : decode cX7_value 65 = .ok (.istore 7, 2) := by decide +kernel
theorem dX7_value_67 : decode cX7_value 67 = .ok (.iload 7, 2) := by decide +kernel
theorem dX7_value_69 : decode cX7_value 69 = .ok (.aload_n 0, 1) := by decide +kernel
theorem dX7_value_70 : decode cX7_value 70 = .ok (.getfield 153, 3) := by decide +kernel
theorem dX7_value_73 : decode cX7_value 73 = .ok (.if_icmp .ge 40, 3) := by decide +kernel
theorem dX7_value_76 : decode cX7_value 76 = .ok (.lload 5, 2) := by decide +kernel
theorem dX7_value_78 : decode cX7_value 78 = .ok (.aload_n 0, 1) := by decide +kernel
theorem dX7_value_79 : decode cX7_value 79 = .ok (.getfield 26, 3) := by decide +kernel
theorem dX7_value_82 : decode cX7_value 82 = .ok (.iload 7, 2) := by decide +kernel
theorem dX7_value_84 : decode cX7_value 84 = .ok (.iaload, 1) := by decide +kernel
theorem dX7_value_85 : decode cX7_value 85 = .ok (.iload 4, 2) := by decide +kernel
theorem dX7_value_87 : decode cX7_value 87 = .ok (.iconst (-1), 1) := by decide +kernel
theorem dX7_value_88 : decode cX7_value 88 = .ok (.ixor, 1) := by decide +kernel
theorem dX7_value_89 : decode cX7_value 89 = .ok (.iand, 1) := by decide +kernel
theorem dX7_value_90 : decode cX7_value 90 = .ok (.ifCond .ne 13, 3) := by decide +kernel
theorem dX7_value_93 : decode cX7_value 93 = .ok (.aload_n 0, 1) := by decide +kernel
theorem dX7_value_94 : decode cX7_value 94 = .ok (.getfield 29, 3) := by decide +kernel
theorem dX7_value_97 : decode cX7_value 97 = .ok (.iload 7, 2) := by decide +kernel
theorem dX7_value_99 : decode cX7_value 99 = .ok (.laload, 1) := by decide +kernel
theorem dX7_value_100 : decode cX7_value 100 = .ok (.goto 4, 3) := by decide +kernel
theorem dX7_value_103 : decode cX7_value 103 = .ok (.lconst 0, 1) := by decide +kernel
theorem dX7_value_104 : decode cX7_value 104 = .ok (.ladd, 1) := by decide +kernel
theorem dX7_value_105 : decode cX7_value 105 = .ok (.lstore 5, 2) := by decide +kernel
theorem dX7_value_107 : decode cX7_value 107 = .ok (.iinc 7 1, 3) := by decide +kernel
theorem dX7_value_110 : decode cX7_value 110 = .ok (.goto (-43), 3) := by decide +kernel
theorem dX7_value_113 : decode cX7_value 113 = .ok (.lload 5, 2) := by decide +kernel
theorem dX7_value_115 : decode cX7_value 115 = .ok (.l2i, 1) := by decide +kernel
theorem dX7_value_116 : decode cX7_value 116 = .ok (.ireturn, 1) := by decide +kernel
theorem dX7_stands_0 : decode cX7_stands 0 = .ok (.aload_n 0, 1) := by decide +kernel
theorem dX7_stands_1 : decode cX7_stands 1 = .ok (.iload_n 1, 1) := by decide +kernel
theorem dX7_stands_2 : decode cX7_stands 2 = .ok (.invokevirtual 183, 3) := by decide +kernel
theorem dX7_stands_5 : decode cX7_stands 5 = .ok (.istore_n 2, 1) := by decide +kernel
theorem dX7_stands_6 : decode cX7_stands 6 = .ok (.iload_n 2, 1) := by decide +kernel
theorem dX7_stands_7 : decode cX7_stands 7 = .ok (.ifCond .eq 10, 3) := by decide +kernel
theorem dX7_stands_10 : decode cX7_stands 10 = .ok (.aload_n 0, 1) := by decide +kernel
theorem dX7_stands_11 : decode cX7_stands 11 = .ok (.invokevirtual 94, 3) := by decide +kernel
theorem dX7_stands_14 : decode cX7_stands 14 = .ok (.ifCond .ne 9, 3) := by decide +kernel
theorem dX7_stands_17 : decode cX7_stands 17 = .ok (.aload_n 0, 1) := by decide +kernel
theorem dX7_stands_18 : decode cX7_stands 18 = .ok (.iload_n 2, 1) := by decide +kernel
theorem dX7_stands_19 : decode cX7_stands 19 = .ok (.invokevirtual 100, 3) := by decide +kernel
theorem dX7_stands_22 : decode cX7_stands 22 = .ok (.ireturn, 1) := by decide +kernel
theorem dX7_stands_23 : decode cX7_stands 23 = .ok (.aload_n 0, 1) := by decide +kernel
theorem dX7_stands_24 : decode cX7_stands 24 = .ok (.iload_n 1, 1) := by decide +kernel
theorem dX7_stands_25 : decode cX7_stands 25 = .ok (.invokevirtual 180, 3) := by decide +kernel
theorem dX7_stands_28 : decode cX7_stands 28 = .ok (.ifCond .ne 10, 3) := by decide +kernel
theorem dX7_stands_31 : decode cX7_stands 31 = .ok (.aload_n 0, 1) := by decide +kernel
theorem dX7_stands_32 : decode cX7_stands 32 = .ok (.bipush (-4), 2) := by decide +kernel
theorem dX7_stands_34 : decode cX7_stands 34 = .ok (.invokevirtual 43, 3) := by decide +kernel
theorem dX7_stands_37 : decode cX7_stands 37 = .ok (.ireturn, 1) := by decide +kernel
theorem dX7_stands_38 : decode cX7_stands 38 = .ok (.iconst 0, 1) := by decide +kernel
theorem dX7_stands_39 : decode cX7_stands 39 = .ok (.istore_n 3, 1) := by decide +kernel
theorem dX7_stands_40 : decode cX7_stands 40 = .ok (.iconst 0, 1) := by decide +kernel
theorem dX7_stands_41 : decode cX7_stands 41 = .ok (.istore 4, 2) := by decide +kernel
theorem dX7_stands_43 : decode cX7_stands 43 = .ok (.iload 4, 2) := by decide +kernel
theorem dX7_stands_45 : decode cX7_stands 45 = .ok (.aload_n 0, 1) := by decide +kernel
theorem dX7_stands_46 : decode cX7_stands 46 = .ok (.getfield 153, 3) := by decide +kernel
theorem dX7_stands_49 : decode cX7_stands 49 = .ok (.if_icmp .ge 19, 3) := by decide +kernel
theorem dX7_stands_52 : decode cX7_stands 52 = .ok (.iload_n 3, 1) := by decide +kernel
theorem dX7_stands_53 : decode cX7_stands 53 = .ok (.aload_n 0, 1) := by decide +kernel
theorem dX7_stands_54 : decode cX7_stands 54 = .ok (.getfield 26, 3) := by decide +kernel
theorem dX7_stands_57 : decode cX7_stands 57 = .ok (.iload 4, 2) := by decide +kernel
theorem dX7_stands_59 : decode cX7_stands 59 = .ok (.iaload, 1) := by decide +kernel
theorem dX7_stands_60 : decode cX7_stands 60 = .ok (.ior, 1) := by decide +kernel
theorem dX7_stands_61 : decode cX7_stands 61 = .ok (.istore_n 3, 1) := by decide +kernel
theorem dX7_stands_62 : decode cX7_stands 62 = .ok (.iinc 4 1, 3) := by decide +kernel
theorem dX7_stands_65 : decode cX7_stands 65 = .ok (.goto (-22), 3) := by decide +kernel
theorem dX7_stands_68 : decode cX7_stands 68 = .ok (.iload_n 3, 1) := by decide +kernel
theorem dX7_stands_69 : decode cX7_stands 69 = .ok (.ireturn, 1) := by decide +kernel
theorem dX7_witness_0 : decode cX7_witness 0 = .ok (.aload_n 0, 1) := by decide +kernel
theorem dX7_witness_1 : decode cX7_witness 1 = .ok (.invokevirtual 94, 3) := by decide +kernel
theorem dX7_witness_4 : decode cX7_witness 4 = .ok (.ifCond .ne 10, 3) := by decide +kernel
theorem dX7_witness_7 : decode cX7_witness 7 = .ok (.aload_n 0, 1) := by decide +kernel
theorem dX7_witness_8 : decode cX7_witness 8 = .ok (.bipush (-3), 2) := by decide +kernel
theorem dX7_witness_10 : decode cX7_witness 10 = .ok (.invokevirtual 43, 3) := by decide +kernel
theorem dX7_witness_13 : decode cX7_witness 13 = .ok (.ireturn, 1) := by decide +kernel
theorem dX7_witness_14 : decode cX7_witness 14 = .ok (.aload_n 0, 1) := by decide +kernel
theorem dX7_witness_15 : decode cX7_witness 15 = .ok (.aload_n 0, 1) := by decide +kernel
theorem dX7_witness_16 : decode cX7_witness 16 = .ok (.getfield 7, 3) := by decide +kernel
theorem dX7_witness_19 : decode cX7_witness 19 = .ok (.iconst 1, 1) := by decide +kernel
theorem dX7_witness_20 : decode cX7_witness 20 = .ok (.iaload, 1) := by decide +kernel
theorem dX7_witness_21 : decode cX7_witness 21 = .ok (.invokevirtual 180, 3) := by decide +kernel
theorem dX7_witness_24 : decode cX7_witness 24 = .ok (.ifCond .ne 10, 3) := by decide +kernel
theorem dX7_witness_27 : decode cX7_witness 27 = .ok (.aload_n 0, 1) := by decide +kernel
theorem dX7_witness_28 : decode cX7_witness 28 = .ok (.bipush (-4), 2) := by decide +kernel
theorem dX7_witness_30 : decode cX7_witness 30 = .ok (.invokevirtual 43, 3) := by decide +kernel
theorem dX7_witness_33 : decode cX7_witness 33 = .ok (.ireturn, 1) := by decide +kernel
theorem dX7_witness_34 : decode cX7_witness 34 = .ok (.iconst (-1), 1) := by decide +kernel
theorem dX7_witness_35 : decode cX7_witness 35 = .ok (.istore_n 1, 1) := by decide +kernel
theorem dX7_witness_36 : decode cX7_witness 36 = .ok (.aload_n 0, 1) := by decide +kernel
theorem dX7_witness_37 : decode cX7_witness 37 = .ok (.bipush 99, 2) := by decide +kernel
theorem dX7_witness_39 : decode cX7_witness 39 = .ok (.putfield 193, 3) := by decide +kernel
theorem dX7_witness_42 : decode cX7_witness 42 = .ok (.iconst 0, 1) := by decide +kernel
theorem dX7_witness_43 : decode cX7_witness 43 = .ok (.istore_n 2, 1) := by decide +kernel
theorem dX7_witness_44 : decode cX7_witness 44 = .ok (.iload_n 2, 1) := by decide +kernel
theorem dX7_witness_45 : decode cX7_witness 45 = .ok (.aload_n 0, 1) := by decide +kernel
theorem dX7_witness_46 : decode cX7_witness 46 = .ok (.getfield 153, 3) := by decide +kernel
theorem dX7_witness_49 : decode cX7_witness 49 = .ok (.if_icmp .ge 72, 3) := by decide +kernel
theorem dX7_witness_52 : decode cX7_witness 52 = .ok (.aload_n 0, 1) := by decide +kernel
theorem dX7_witness_53 : decode cX7_witness 53 = .ok (.getfield 26, 3) := by decide +kernel
theorem dX7_witness_56 : decode cX7_witness 56 = .ok (.iload_n 2, 1) := by decide +kernel
theorem dX7_witness_57 : decode cX7_witness 57 = .ok (.iaload, 1) := by decide +kernel
theorem dX7_witness_58 : decode cX7_witness 58 = .ok (.invokestatic 186, 3) := by decide +kernel
theorem dX7_witness_61 : decode cX7_witness 61 = .ok (.aload_n 0, 1) := by decide +kernel
theorem dX7_witness_62 : decode cX7_witness 62 = .ok (.getfield 193, 3) := by decide +kernel
theorem dX7_witness_65 : decode cX7_witness 65 = .ok (.if_icmp .gt 12, 3) := by decide +kernel
theorem dX7_witness_68 : decode cX7_witness 68 = .ok (.aload_n 0, 1) := by decide +kernel
theorem dX7_witness_69 : decode cX7_witness 69 = .ok (.getfield 26, 3) := by decide +kernel
theorem dX7_witness_72 : decode cX7_witness 72 = .ok (.iload_n 2, 1) := by decide +kernel
theorem dX7_witness_73 : decode cX7_witness 73 = .ok (.iaload, 1) := by decide +kernel
theorem dX7_witness_74 : decode cX7_witness 74 = .ok (.goto 4, 3) := by decide +kernel
theorem dX7_witness_77 : decode cX7_witness 77 = .ok (.iload_n 1, 1) := by decide +kernel
theorem dX7_witness_78 : decode cX7_witness 78 = .ok (.istore_n 1, 1) := by decide +kernel
theorem dX7_witness_79 : decode cX7_witness 79 = .ok (.aload_n 0, 1) := by decide +kernel
theorem dX7_witness_80 : decode cX7_witness 80 = .ok (.aload_n 0, 1) := by decide +kernel
theorem dX7_witness_81 : decode cX7_witness 81 = .ok (.getfield 26, 3) := by decide +kernel
theorem dX7_witness_84 : decode cX7_witness 84 = .ok (.iload_n 2, 1) := by decide +kernel
theorem dX7_witness_85 : decode cX7_witness 85 = .ok (.iaload, 1) := by decide +kernel
theorem dX7_witness_86 : decode cX7_witness 86 = .ok (.invokestatic 186, 3) := by decide +kernel
theorem dX7_witness_89 : decode cX7_witness 89 = .ok (.aload_n 0, 1) := by decide +kernel
theorem dX7_witness_90 : decode cX7_witness 90 = .ok (.getfield 193, 3) := by decide +kernel
theorem dX7_witness_93 : decode cX7_witness 93 = .ok (.if_icmp .ge 15, 3) := by decide +kernel
theorem dX7_witness_96 : decode cX7_witness 96 = .ok (.aload_n 0, 1) := by decide +kernel
theorem dX7_witness_97 : decode cX7_witness 97 = .ok (.getfield 26, 3) := by decide +kernel
theorem dX7_witness_100 : decode cX7_witness 100 = .ok (.iload_n 2, 1) := by decide +kernel
theorem dX7_witness_101 : decode cX7_witness 101 = .ok (.iaload, 1) := by decide +kernel
theorem dX7_witness_102 : decode cX7_witness 102 = .ok (.invokestatic 186, 3) := by decide +kernel
theorem dX7_witness_105 : decode cX7_witness 105 = .ok (.goto 7, 3) := by decide +kernel
theorem dX7_witness_108 : decode cX7_witness 108 = .ok (.aload_n 0, 1) := by decide +kernel
theorem dX7_witness_109 : decode cX7_witness 109 = .ok (.getfield 193, 3) := by decide +kernel
theorem dX7_witness_112 : decode cX7_witness 112 = .ok (.putfield 193, 3) := by decide +kernel
theorem dX7_witness_115 : decode cX7_witness 115 = .ok (.iinc 2 1, 3) := by decide +kernel
theorem dX7_witness_118 : decode cX7_witness 118 = .ok (.goto (-74), 3) := by decide +kernel
theorem dX7_witness_121 : decode cX7_witness 121 = .ok (.iload_n 1, 1) := by decide +kernel
theorem dX7_witness_122 : decode cX7_witness 122 = .ok (.ireturn, 1) := by decide +kernel
theorem dX7_countOf_0 : decode cX7_countOf 0 = .ok (.iload_n 1, 1) := by decide +kernel
theorem dX7_countOf_1 : decode cX7_countOf 1 = .ok (.tableswitch 65 0 5 #[39, 39, 39, 46, 51, 58], 39) := by decide +kernel
theorem dX7_countOf_40 : decode cX7_countOf 40 = .ok (.aload_n 0, 1) := by decide +kernel
theorem dX7_countOf_41 : decode cX7_countOf 41 = .ok (.getfield 16, 3) := by decide +kernel
theorem dX7_countOf_44 : decode cX7_countOf 44 = .ok (.iload_n 1, 1) := by decide +kernel
theorem dX7_countOf_45 : decode cX7_countOf 45 = .ok (.iaload, 1) := by decide +kernel
theorem dX7_countOf_46 : decode cX7_countOf 46 = .ok (.ireturn, 1) := by decide +kernel
theorem dX7_countOf_47 : decode cX7_countOf 47 = .ok (.aload_n 0, 1) := by decide +kernel
theorem dX7_countOf_48 : decode cX7_countOf 48 = .ok (.getfield 47, 3) := by decide +kernel
theorem dX7_countOf_51 : decode cX7_countOf 51 = .ok (.ireturn, 1) := by decide +kernel
theorem dX7_countOf_52 : decode cX7_countOf 52 = .ok (.aload_n 0, 1) := by decide +kernel
theorem dX7_countOf_53 : decode cX7_countOf 53 = .ok (.getfield 7, 3) := by decide +kernel
theorem dX7_countOf_56 : decode cX7_countOf 56 = .ok (.iconst 0, 1) := by decide +kernel
theorem dX7_countOf_57 : decode cX7_countOf 57 = .ok (.iaload, 1) := by decide +kernel
theorem dX7_countOf_58 : decode cX7_countOf 58 = .ok (.ireturn, 1) := by decide +kernel
theorem dX7_countOf_59 : decode cX7_countOf 59 = .ok (.aload_n 0, 1) := by decide +kernel
theorem dX7_countOf_60 : decode cX7_countOf 60 = .ok (.getfield 7, 3) := by decide +kernel
theorem dX7_countOf_63 : decode cX7_countOf 63 = .ok (.iconst 1, 1) := by decide +kernel
theorem dX7_countOf_64 : decode cX7_countOf 64 = .ok (.iaload, 1) := by decide +kernel
theorem dX7_countOf_65 : decode cX7_countOf 65 = .ok (.ireturn, 1) := by decide +kernel
theorem dX7_countOf_66 : decode cX7_countOf 66 = .ok (.aload_n 0, 1) := by decide +kernel
theorem dX7_countOf_67 : decode cX7_countOf 67 = .ok (.getfield 7, 3) := by decide +kernel
theorem dX7_countOf_70 : decode cX7_countOf 70 = .ok (.iconst 2, 1) := by decide +kernel
theorem dX7_countOf_71 : decode cX7_countOf 71 = .ok (.iaload, 1) := by decide +kernel
theorem dX7_countOf_72 : decode cX7_countOf 72 = .ok (.ireturn, 1) := by decide +kernel
theorem dX7_count_0 : decode cX7_count 0 = .ok (.iload_n 1, 1) := by decide +kernel
theorem dX7_count_1 : decode cX7_count 1 = .ok (.iconst 0, 1) := by decide +kernel
theorem dX7_count_2 : decode cX7_count 2 = .ok (.bipush 6, 2) := by decide +kernel
theorem dX7_count_4 : decode cX7_count 4 = .ok (.invokestatic 39, 3) := by decide +kernel
theorem dX7_count_7 : decode cX7_count 7 = .ok (.ifCond .eq 11, 3) := by decide +kernel
theorem dX7_count_10 : decode cX7_count 10 = .ok (.aload_n 0, 1) := by decide +kernel
theorem dX7_count_11 : decode cX7_count 11 = .ok (.iload_n 1, 1) := by decide +kernel
theorem dX7_count_12 : decode cX7_count 12 = .ok (.invokevirtual 196, 3) := by decide +kernel
theorem dX7_count_15 : decode cX7_count 15 = .ok (.goto 9, 3) := by decide +kernel
theorem dX7_count_18 : decode cX7_count 18 = .ok (.aload_n 0, 1) := by decide +kernel
theorem dX7_count_19 : decode cX7_count 19 = .ok (.bipush (-2), 2) := by decide +kernel
theorem dX7_count_21 : decode cX7_count 21 = .ok (.invokevirtual 43, 3) := by decide +kernel
theorem dX7_count_24 : decode cX7_count 24 = .ok (.ireturn, 1) := by decide +kernel
theorem dX7_digest_0 : decode cX7_digest 0 = .ok (.ldc2_w 199, 3) := by decide +kernel
theorem dX7_digest_3 : decode cX7_digest 3 = .ok (.lstore_n 1, 1) := by decide +kernel
theorem dX7_digest_4 : decode cX7_digest 4 = .ok (.iconst 0, 1) := by decide +kernel
theorem dX7_digest_5 : decode cX7_digest 5 = .ok (.istore_n 3, 1) := by decide +kernel
theorem dX7_digest_6 : decode cX7_digest 6 = .ok (.iload_n 3, 1) := by decide +kernel
theorem dX7_digest_7 : decode cX7_digest 7 = .ok (.bipush 7, 2) := by decide +kernel
theorem dX7_digest_9 : decode cX7_digest 9 = .ok (.if_icmp .ge 22, 3) := by decide +kernel
theorem dX7_digest_12 : decode cX7_digest 12 = .ok (.ldc2_w 201, 3) := by decide +kernel
theorem dX7_digest_15 : decode cX7_digest 15 = .ok (.lload_n 1, 1) := by decide +kernel
theorem dX7_digest_16 : decode cX7_digest 16 = .ok (.lmul, 1) := by decide +kernel
theorem dX7_digest_17 : decode cX7_digest 17 = .ok (.aload_n 0, 1) := by decide +kernel
theorem dX7_digest_18 : decode cX7_digest 18 = .ok (.iload_n 3, 1) := by decide +kernel
theorem dX7_digest_19 : decode cX7_digest 19 = .ok (.invokevirtual 196, 3) := by decide +kernel
theorem dX7_digest_22 : decode cX7_digest 22 = .ok (.i2l, 1) := by decide +kernel
theorem dX7_digest_23 : decode cX7_digest 23 = .ok (.ladd, 1) := by decide +kernel
theorem dX7_digest_24 : decode cX7_digest 24 = .ok (.lstore_n 1, 1) := by decide +kernel
theorem dX7_digest_25 : decode cX7_digest 25 = .ok (.iinc 3 1, 3) := by decide +kernel
theorem dX7_digest_28 : decode cX7_digest 28 = .ok (.goto (-22), 3) := by decide +kernel
theorem dX7_digest_31 : decode cX7_digest 31 = .ok (.iconst 0, 1) := by decide +kernel
theorem dX7_digest_32 : decode cX7_digest 32 = .ok (.istore_n 3, 1) := by decide +kernel
theorem dX7_digest_33 : decode cX7_digest 33 = .ok (.iload_n 3, 1) := by decide +kernel
theorem dX7_digest_34 : decode cX7_digest 34 = .ok (.aload_n 0, 1) := by decide +kernel
theorem dX7_digest_35 : decode cX7_digest 35 = .ok (.getfield 7, 3) := by decide +kernel
theorem dX7_digest_38 : decode cX7_digest 38 = .ok (.iconst 1, 1) := by decide +kernel
theorem dX7_digest_39 : decode cX7_digest 39 = .ok (.iaload, 1) := by decide +kernel
theorem dX7_digest_40 : decode cX7_digest 40 = .ok (.if_icmp .ge 60, 3) := by decide +kernel
theorem dX7_digest_43 : decode cX7_digest 43 = .ok (.ldc2_w 201, 3) := by decide +kernel
theorem dX7_digest_46 : decode cX7_digest 46 = .ok (.lload_n 1, 1) := by decide +kernel
theorem dX7_digest_47 : decode cX7_digest 47 = .ok (.lmul, 1) := by decide +kernel
theorem dX7_digest_48 : decode cX7_digest 48 = .ok (.aload_n 0, 1) := by decide +kernel
theorem dX7_digest_49 : decode cX7_digest 49 = .ok (.getfield 7, 3) := by decide +kernel
theorem dX7_digest_52 : decode cX7_digest 52 = .ok (.bipush 6, 2) := by decide +kernel
theorem dX7_digest_54 : decode cX7_digest 54 = .ok (.iload_n 3, 1) := by decide +kernel
theorem dX7_digest_55 : decode cX7_digest 55 = .ok (.iadd, 1) := by decide +kernel
theorem dX7_digest_56 : decode cX7_digest 56 = .ok (.iaload, 1) := by decide +kernel
theorem dX7_digest_57 : decode cX7_digest 57 = .ok (.i2l, 1) := by decide +kernel
theorem dX7_digest_58 : decode cX7_digest 58 = .ok (.ladd, 1) := by decide +kernel
theorem dX7_digest_59 : decode cX7_digest 59 = .ok (.lstore_n 1, 1) := by decide +kernel
theorem dX7_digest_60 : decode cX7_digest 60 = .ok (.ldc2_w 201, 3) := by decide +kernel
theorem dX7_digest_63 : decode cX7_digest 63 = .ok (.lload_n 1, 1) := by decide +kernel
theorem dX7_digest_64 : decode cX7_digest 64 = .ok (.lmul, 1) := by decide +kernel
theorem dX7_digest_65 : decode cX7_digest 65 = .ok (.aload_n 0, 1) := by decide +kernel
theorem dX7_digest_66 : decode cX7_digest 66 = .ok (.getfield 7, 3) := by decide +kernel
theorem dX7_digest_69 : decode cX7_digest 69 = .ok (.bipush 18, 2) := by decide +kernel
theorem dX7_digest_71 : decode cX7_digest 71 = .ok (.iload_n 3, 1) := by decide +kernel
theorem dX7_digest_72 : decode cX7_digest 72 = .ok (.iadd, 1) := by decide +kernel
theorem dX7_digest_73 : decode cX7_digest 73 = .ok (.iaload, 1) := by decide +kernel
theorem dX7_digest_74 : decode cX7_digest 74 = .ok (.i2l, 1) := by decide +kernel
theorem dX7_digest_75 : decode cX7_digest 75 = .ok (.ladd, 1) := by decide +kernel
theorem dX7_digest_76 : decode cX7_digest 76 = .ok (.lstore_n 1, 1) := by decide +kernel
theorem dX7_digest_77 : decode cX7_digest 77 = .ok (.ldc2_w 201, 3) := by decide +kernel
theorem dX7_digest_80 : decode cX7_digest 80 = .ok (.lload_n 1, 1) := by decide +kernel
theorem dX7_digest_81 : decode cX7_digest 81 = .ok (.lmul, 1) := by decide +kernel
theorem dX7_digest_82 : decode cX7_digest 82 = .ok (.aload_n 0, 1) := by decide +kernel
theorem dX7_digest_83 : decode cX7_digest 83 = .ok (.getfield 7, 3) := by decide +kernel
theorem dX7_digest_86 : decode cX7_digest 86 = .ok (.bipush 30, 2) := by decide +kernel
theorem dX7_digest_88 : decode cX7_digest 88 = .ok (.iload_n 3, 1) := by decide +kernel
theorem dX7_digest_89 : decode cX7_digest 89 = .ok (.iadd, 1) := by decide +kernel
theorem dX7_digest_90 : decode cX7_digest 90 = .ok (.iaload, 1) := by decide +kernel
theorem dX7_digest_91 : decode cX7_digest 91 = .ok (.i2l, 1) := by decide +kernel
theorem dX7_digest_92 : decode cX7_digest 92 = .ok (.ladd, 1) := by decide +kernel
theorem dX7_digest_93 : decode cX7_digest 93 = .ok (.lstore_n 1, 1) := by decide +kernel
theorem dX7_digest_94 : decode cX7_digest 94 = .ok (.iinc 3 1, 3) := by decide +kernel
theorem dX7_digest_97 : decode cX7_digest 97 = .ok (.goto (-64), 3) := by decide +kernel
theorem dX7_digest_100 : decode cX7_digest 100 = .ok (.iconst 0, 1) := by decide +kernel
theorem dX7_digest_101 : decode cX7_digest 101 = .ok (.istore_n 3, 1) := by decide +kernel
theorem dX7_digest_102 : decode cX7_digest 102 = .ok (.iload_n 3, 1) := by decide +kernel
theorem dX7_digest_103 : decode cX7_digest 103 = .ok (.aload_n 0, 1) := by decide +kernel
theorem dX7_digest_104 : decode cX7_digest 104 = .ok (.getfield 7, 3) := by decide +kernel
theorem dX7_digest_107 : decode cX7_digest 107 = .ok (.iconst 2, 1) := by decide +kernel
theorem dX7_digest_108 : decode cX7_digest 108 = .ok (.iaload, 1) := by decide +kernel
theorem dX7_digest_109 : decode cX7_digest 109 = .ok (.if_icmp .ge 26, 3) := by decide +kernel
theorem dX7_digest_112 : decode cX7_digest 112 = .ok (.ldc2_w 201, 3) := by decide +kernel
theorem dX7_digest_115 : decode cX7_digest 115 = .ok (.lload_n 1, 1) := by decide +kernel
theorem dX7_digest_116 : decode cX7_digest 116 = .ok (.lmul, 1) := by decide +kernel
theorem dX7_digest_117 : decode cX7_digest 117 = .ok (.aload_n 0, 1) := by decide +kernel
theorem dX7_digest_118 : decode cX7_digest 118 = .ok (.getfield 7, 3) := by decide +kernel
theorem dX7_digest_121 : decode cX7_digest 121 = .ok (.bipush 42, 2) := by decide +kernel
theorem dX7_digest_123 : decode cX7_digest 123 = .ok (.iload_n 3, 1) := by decide +kernel
theorem dX7_digest_124 : decode cX7_digest 124 = .ok (.iadd, 1) := by decide +kernel
theorem dX7_digest_125 : decode cX7_digest 125 = .ok (.iaload, 1) := by decide +kernel
theorem dX7_digest_126 : decode cX7_digest 126 = .ok (.i2l, 1) := by decide +kernel
theorem dX7_digest_127 : decode cX7_digest 127 = .ok (.ladd, 1) := by decide +kernel
theorem dX7_digest_128 : decode cX7_digest 128 = .ok (.lstore_n 1, 1) := by decide +kernel
theorem dX7_digest_129 : decode cX7_digest 129 = .ok (.iinc 3 1, 3) := by decide +kernel
theorem dX7_digest_132 : decode cX7_digest 132 = .ok (.goto (-30), 3) := by decide +kernel
theorem dX7_digest_135 : decode cX7_digest 135 = .ok (.iconst 3, 1) := by decide +kernel
theorem dX7_digest_136 : decode cX7_digest 136 = .ok (.istore_n 3, 1) := by decide +kernel
theorem dX7_digest_137 : decode cX7_digest 137 = .ok (.iload_n 3, 1) := by decide +kernel
theorem dX7_digest_138 : decode cX7_digest 138 = .ok (.iconst 5, 1) := by decide +kernel
theorem dX7_digest_139 : decode cX7_digest 139 = .ok (.if_icmp .gt 34, 3) := by decide +kernel
theorem dX7_digest_142 : decode cX7_digest 142 = .ok (.ldc2_w 201, 3) := by decide +kernel
theorem dX7_digest_145 : decode cX7_digest 145 = .ok (.lload_n 1, 1) := by decide +kernel
theorem dX7_digest_146 : decode cX7_digest 146 = .ok (.lmul, 1) := by decide +kernel
theorem dX7_digest_147 : decode cX7_digest 147 = .ok (.aload_n 0, 1) := by decide +kernel
theorem dX7_digest_148 : decode cX7_digest 148 = .ok (.invokevirtual 94, 3) := by decide +kernel
theorem dX7_digest_151 : decode cX7_digest 151 = .ok (.ifCond .eq 12, 3) := by decide +kernel
theorem dX7_digest_154 : decode cX7_digest 154 = .ok (.aload_n 0, 1) := by decide +kernel
theorem dX7_digest_155 : decode cX7_digest 155 = .ok (.getfield 7, 3) := by decide +kernel
theorem dX7_digest_158 : decode cX7_digest 158 = .ok (.iload_n 3, 1) := by decide +kernel
theorem dX7_digest_159 : decode cX7_digest 159 = .ok (.iaload, 1) := by decide +kernel
theorem dX7_digest_160 : decode cX7_digest 160 = .ok (.goto 4, 3) := by decide +kernel
theorem dX7_digest_163 : decode cX7_digest 163 = .ok (.iconst (-1), 1) := by decide +kernel
theorem dX7_digest_164 : decode cX7_digest 164 = .ok (.i2l, 1) := by decide +kernel
theorem dX7_digest_165 : decode cX7_digest 165 = .ok (.ladd, 1) := by decide +kernel
theorem dX7_digest_166 : decode cX7_digest 166 = .ok (.lstore_n 1, 1) := by decide +kernel
theorem dX7_digest_167 : decode cX7_digest 167 = .ok (.iinc 3 1, 3) := by decide +kernel
theorem dX7_digest_170 : decode cX7_digest 170 = .ok (.goto (-33), 3) := by decide +kernel
theorem dX7_digest_173 : decode cX7_digest 173 = .ok (.ldc2_w 201, 3) := by decide +kernel
theorem dX7_digest_176 : decode cX7_digest 176 = .ok (.lload_n 1, 1) := by decide +kernel
theorem dX7_digest_177 : decode cX7_digest 177 = .ok (.lmul, 1) := by decide +kernel
theorem dX7_digest_178 : decode cX7_digest 178 = .ok (.aload_n 0, 1) := by decide +kernel
theorem dX7_digest_179 : decode cX7_digest 179 = .ok (.invokevirtual 94, 3) := by decide +kernel
theorem dX7_digest_182 : decode cX7_digest 182 = .ok (.ifCond .eq 11, 3) := by decide +kernel
theorem dX7_digest_185 : decode cX7_digest 185 = .ok (.aload_n 0, 1) := by decide +kernel
theorem dX7_digest_186 : decode cX7_digest 186 = .ok (.iconst 0, 1) := by decide +kernel
theorem dX7_digest_187 : decode cX7_digest 187 = .ok (.invokevirtual 147, 3) := by decide +kernel
theorem dX7_digest_190 : decode cX7_digest 190 = .ok (.goto 4, 3) := by decide +kernel
theorem dX7_digest_193 : decode cX7_digest 193 = .ok (.iconst (-1), 1) := by decide +kernel
theorem dX7_digest_194 : decode cX7_digest 194 = .ok (.i2l, 1) := by decide +kernel
theorem dX7_digest_195 : decode cX7_digest 195 = .ok (.ladd, 1) := by decide +kernel
theorem dX7_digest_196 : decode cX7_digest 196 = .ok (.lreturn, 1) := by decide +kernel
theorem dJ6_bitCount_0f7a4_0 : decode cJ6_bitCount_0f7a4 0 = .ok (.iload_n 0, 1) := by decide +kernel
theorem dJ6_bitCount_0f7a4_1 : decode cJ6_bitCount_0f7a4 1 = .ok (.iload_n 0, 1) := by decide +kernel
theorem dJ6_bitCount_0f7a4_2 : decode cJ6_bitCount_0f7a4 2 = .ok (.iconst 1, 1) := by decide +kernel
theorem dJ6_bitCount_0f7a4_3 : decode cJ6_bitCount_0f7a4 3 = .ok (.iushr, 1) := by decide +kernel
theorem dJ6_bitCount_0f7a4_4 : decode cJ6_bitCount_0f7a4 4 = .ok (.ldc_w 265, 3) := by decide +kernel
theorem dJ6_bitCount_0f7a4_7 : decode cJ6_bitCount_0f7a4 7 = .ok (.iand, 1) := by decide +kernel
theorem dJ6_bitCount_0f7a4_8 : decode cJ6_bitCount_0f7a4 8 = .ok (.isub, 1) := by decide +kernel
theorem dJ6_bitCount_0f7a4_9 : decode cJ6_bitCount_0f7a4 9 = .ok (.istore_n 0, 1) := by decide +kernel
theorem dJ6_bitCount_0f7a4_10 : decode cJ6_bitCount_0f7a4 10 = .ok (.iload_n 0, 1) := by decide +kernel
theorem dJ6_bitCount_0f7a4_11 : decode cJ6_bitCount_0f7a4 11 = .ok (.ldc_w 266, 3) := by decide +kernel
theorem dJ6_bitCount_0f7a4_14 : decode cJ6_bitCount_0f7a4 14 = .ok (.iand, 1) := by decide +kernel
theorem dJ6_bitCount_0f7a4_15 : decode cJ6_bitCount_0f7a4 15 = .ok (.iload_n 0, 1) := by decide +kernel
theorem dJ6_bitCount_0f7a4_16 : decode cJ6_bitCount_0f7a4 16 = .ok (.iconst 2, 1) := by decide +kernel
theorem dJ6_bitCount_0f7a4_17 : decode cJ6_bitCount_0f7a4 17 = .ok (.iushr, 1) := by decide +kernel
theorem dJ6_bitCount_0f7a4_18 : decode cJ6_bitCount_0f7a4 18 = .ok (.ldc_w 266, 3) := by decide +kernel
theorem dJ6_bitCount_0f7a4_21 : decode cJ6_bitCount_0f7a4 21 = .ok (.iand, 1) := by decide +kernel
theorem dJ6_bitCount_0f7a4_22 : decode cJ6_bitCount_0f7a4 22 = .ok (.iadd, 1) := by decide +kernel
theorem dJ6_bitCount_0f7a4_23 : decode cJ6_bitCount_0f7a4 23 = .ok (.istore_n 0, 1) := by decide +kernel
theorem dJ6_bitCount_0f7a4_24 : decode cJ6_bitCount_0f7a4 24 = .ok (.iload_n 0, 1) := by decide +kernel
theorem dJ6_bitCount_0f7a4_25 : decode cJ6_bitCount_0f7a4 25 = .ok (.iload_n 0, 1) := by decide +kernel
theorem dJ6_bitCount_0f7a4_26 : decode cJ6_bitCount_0f7a4 26 = .ok (.iconst 4, 1) := by decide +kernel
theorem dJ6_bitCount_0f7a4_27 : decode cJ6_bitCount_0f7a4 27 = .ok (.iushr, 1) := by decide +kernel
theorem dJ6_bitCount_0f7a4_28 : decode cJ6_bitCount_0f7a4 28 = .ok (.iadd, 1) := by decide +kernel
theorem dJ6_bitCount_0f7a4_29 : decode cJ6_bitCount_0f7a4 29 = .ok (.ldc_w 267, 3) := by decide +kernel
theorem dJ6_bitCount_0f7a4_32 : decode cJ6_bitCount_0f7a4 32 = .ok (.iand, 1) := by decide +kernel
theorem dJ6_bitCount_0f7a4_33 : decode cJ6_bitCount_0f7a4 33 = .ok (.istore_n 0, 1) := by decide +kernel
theorem dJ6_bitCount_0f7a4_34 : decode cJ6_bitCount_0f7a4 34 = .ok (.iload_n 0, 1) := by decide +kernel
theorem dJ6_bitCount_0f7a4_35 : decode cJ6_bitCount_0f7a4 35 = .ok (.iload_n 0, 1) := by decide +kernel
theorem dJ6_bitCount_0f7a4_36 : decode cJ6_bitCount_0f7a4 36 = .ok (.bipush 8, 2) := by decide +kernel
theorem dJ6_bitCount_0f7a4_38 : decode cJ6_bitCount_0f7a4 38 = .ok (.iushr, 1) := by decide +kernel
theorem dJ6_bitCount_0f7a4_39 : decode cJ6_bitCount_0f7a4 39 = .ok (.iadd, 1) := by decide +kernel
theorem dJ6_bitCount_0f7a4_40 : decode cJ6_bitCount_0f7a4 40 = .ok (.istore_n 0, 1) := by decide +kernel
theorem dJ6_bitCount_0f7a4_41 : decode cJ6_bitCount_0f7a4 41 = .ok (.iload_n 0, 1) := by decide +kernel
theorem dJ6_bitCount_0f7a4_42 : decode cJ6_bitCount_0f7a4 42 = .ok (.iload_n 0, 1) := by decide +kernel
theorem dJ6_bitCount_0f7a4_43 : decode cJ6_bitCount_0f7a4 43 = .ok (.bipush 16, 2) := by decide +kernel
theorem dJ6_bitCount_0f7a4_45 : decode cJ6_bitCount_0f7a4 45 = .ok (.iushr, 1) := by decide +kernel
theorem dJ6_bitCount_0f7a4_46 : decode cJ6_bitCount_0f7a4 46 = .ok (.iadd, 1) := by decide +kernel
theorem dJ6_bitCount_0f7a4_47 : decode cJ6_bitCount_0f7a4 47 = .ok (.istore_n 0, 1) := by decide +kernel
theorem dJ6_bitCount_0f7a4_48 : decode cJ6_bitCount_0f7a4 48 = .ok (.iload_n 0, 1) := by decide +kernel
theorem dJ6_bitCount_0f7a4_49 : decode cJ6_bitCount_0f7a4 49 = .ok (.bipush 63, 2) := by decide +kernel
theorem dJ6_bitCount_0f7a4_51 : decode cJ6_bitCount_0f7a4 51 = .ok (.iand, 1) := by decide +kernel
theorem dJ6_bitCount_0f7a4_52 : decode cJ6_bitCount_0f7a4 52 = .ok (.ireturn, 1) := by decide +kernel
theorem dJ9_abs_0f7a4_0 : decode cJ9_abs_0f7a4 0 = .ok (.iload_n 0, 1) := by decide +kernel
theorem dJ9_abs_0f7a4_1 : decode cJ9_abs_0f7a4 1 = .ok (.ifCond .ge 8, 3) := by decide +kernel
theorem dJ9_abs_0f7a4_4 : decode cJ9_abs_0f7a4 4 = .ok (.iload_n 0, 1) := by decide +kernel
theorem dJ9_abs_0f7a4_5 : decode cJ9_abs_0f7a4 5 = .ok (.ineg, 1) := by decide +kernel
theorem dJ9_abs_0f7a4_6 : decode cJ9_abs_0f7a4 6 = .ok (.goto 4, 3) := by decide +kernel
theorem dJ9_abs_0f7a4_9 : decode cJ9_abs_0f7a4 9 = .ok (.iload_n 0, 1) := by decide +kernel
theorem dJ9_abs_0f7a4_10 : decode cJ9_abs_0f7a4 10 = .ok (.ireturn, 1) := by decide +kernel
theorem dJ9_max_7cf53_0 : decode cJ9_max_7cf53 0 = .ok (.iload_n 0, 1) := by decide +kernel
theorem dJ9_max_7cf53_1 : decode cJ9_max_7cf53 1 = .ok (.iload_n 1, 1) := by decide +kernel
theorem dJ9_max_7cf53_2 : decode cJ9_max_7cf53 2 = .ok (.if_icmp .lt 7, 3) := by decide +kernel
theorem dJ9_max_7cf53_5 : decode cJ9_max_7cf53 5 = .ok (.iload_n 0, 1) := by decide +kernel
theorem dJ9_max_7cf53_6 : decode cJ9_max_7cf53 6 = .ok (.goto 4, 3) := by decide +kernel
theorem dJ9_max_7cf53_9 : decode cJ9_max_7cf53 9 = .ok (.iload_n 1, 1) := by decide +kernel
theorem dJ9_max_7cf53_10 : decode cJ9_max_7cf53 10 = .ok (.ireturn, 1) := by decide +kernel
theorem dJ0_length_8abf5_0 : decode cJ0_length_8abf5 0 = .ok (.aload_n 0, 1) := by decide +kernel
theorem dJ0_length_8abf5_1 : decode cJ0_length_8abf5 1 = .ok (.getfield 9, 3) := by decide +kernel
theorem dJ0_length_8abf5_4 : decode cJ0_length_8abf5 4 = .ok (.arraylength, 1) := by decide +kernel
theorem dJ0_length_8abf5_5 : decode cJ0_length_8abf5 5 = .ok (.aload_n 0, 1) := by decide +kernel
theorem dJ0_length_8abf5_6 : decode cJ0_length_8abf5 6 = .ok (.invokevirtual 335, 3) := by decide +kernel
theorem dJ0_length_8abf5_9 : decode cJ0_length_8abf5 9 = .ok (.ishr, 1) := by decide +kernel
theorem dJ0_length_8abf5_10 : decode cJ0_length_8abf5 10 = .ok (.ireturn, 1) := by decide +kernel
theorem dJ0_charAt_5068e_0 : decode cJ0_charAt_5068e 0 = .ok (.aload_n 0, 1) := by decide +kernel
theorem dJ0_charAt_5068e_1 : decode cJ0_charAt_5068e 1 = .ok (.invokevirtual 492, 3) := by decide +kernel
theorem dJ0_charAt_5068e_4 : decode cJ0_charAt_5068e 4 = .ok (.ifCond .eq 12, 3) := by decide +kernel
theorem dJ0_charAt_5068e_7 : decode cJ0_charAt_5068e 7 = .ok (.aload_n 0, 1) := by decide +kernel
theorem dJ0_charAt_5068e_8 : decode cJ0_charAt_5068e 8 = .ok (.getfield 9, 3) := by decide +kernel
theorem dJ0_charAt_5068e_11 : decode cJ0_charAt_5068e 11 = .ok (.iload_n 1, 1) := by decide +kernel
theorem dJ0_charAt_5068e_12 : decode cJ0_charAt_5068e 12 = .ok (.invokestatic 495, 3) := by decide +kernel
theorem dJ0_charAt_5068e_15 : decode cJ0_charAt_5068e 15 = .ok (.ireturn, 1) := by decide +kernel
theorem dJ0_charAt_5068e_16 : decode cJ0_charAt_5068e 16 = .ok (.aload_n 0, 1) := by decide +kernel
theorem dJ0_charAt_5068e_17 : decode cJ0_charAt_5068e 17 = .ok (.getfield 9, 3) := by decide +kernel
theorem dJ0_charAt_5068e_20 : decode cJ0_charAt_5068e 20 = .ok (.iload_n 1, 1) := by decide +kernel
theorem dJ0_charAt_5068e_21 : decode cJ0_charAt_5068e 21 = .ok (.invokestatic 498, 3) := by decide +kernel
theorem dJ0_charAt_5068e_24 : decode cJ0_charAt_5068e 24 = .ok (.ireturn, 1) := by decide +kernel
theorem dJ0_coder_7d493_0 : decode cJ0_coder_7d493 0 = .ok (.getstatic 38, 3) := by decide +kernel
theorem dJ0_coder_7d493_3 : decode cJ0_coder_7d493 3 = .ok (.ifCond .eq 10, 3) := by decide +kernel
theorem dJ0_coder_7d493_6 : decode cJ0_coder_7d493 6 = .ok (.aload_n 0, 1) := by decide +kernel
theorem dJ0_coder_7d493_7 : decode cJ0_coder_7d493 7 = .ok (.getfield 15, 3) := by decide +kernel
theorem dJ0_coder_7d493_10 : decode cJ0_coder_7d493 10 = .ok (.goto 4, 3) := by decide +kernel
theorem dJ0_coder_7d493_13 : decode cJ0_coder_7d493 13 = .ok (.iconst 1, 1) := by decide +kernel
theorem dJ0_coder_7d493_14 : decode cJ0_coder_7d493 14 = .ok (.ireturn, 1) := by decide +kernel
theorem dJ0_isLatin1_aae02_0 : decode cJ0_isLatin1_aae02 0 = .ok (.getstatic 38, 3) := by decide +kernel
theorem dJ0_isLatin1_aae02_3 : decode cJ0_isLatin1_aae02 3 = .ok (.ifCond .eq 14, 3) := by decide +kernel
theorem dJ0_isLatin1_aae02_6 : decode cJ0_isLatin1_aae02 6 = .ok (.aload_n 0, 1) := by decide +kernel
theorem dJ0_isLatin1_aae02_7 : decode cJ0_isLatin1_aae02 7 = .ok (.getfield 15, 3) := by decide +kernel
theorem dJ0_isLatin1_aae02_10 : decode cJ0_isLatin1_aae02 10 = .ok (.ifCond .ne 7, 3) := by decide +kernel
theorem dJ0_isLatin1_aae02_13 : decode cJ0_isLatin1_aae02 13 = .ok (.iconst 1, 1) := by decide +kernel
theorem dJ0_isLatin1_aae02_14 : decode cJ0_isLatin1_aae02 14 = .ok (.goto 4, 3) := by decide +kernel
theorem dJ0_isLatin1_aae02_17 : decode cJ0_isLatin1_aae02 17 = .ok (.iconst 0, 1) := by decide +kernel
theorem dJ0_isLatin1_aae02_18 : decode cJ0_isLatin1_aae02 18 = .ok (.ireturn, 1) := by decide +kernel
theorem dJ0_checkIndex_df160_0 : decode cJ0_checkIndex_df160 0 = .ok (.iload_n 0, 1) := by decide +kernel
theorem dJ0_checkIndex_df160_1 : decode cJ0_checkIndex_df160 1 = .ok (.iload_n 1, 1) := by decide +kernel
theorem dJ0_checkIndex_df160_2 : decode cJ0_checkIndex_df160 2 = .ok (.getstatic 1053, 3) := by decide +kernel
theorem dJ0_checkIndex_df160_5 : decode cJ0_checkIndex_df160 5 = .ok (.invokestatic 1059, 3) := by decide +kernel
theorem dJ0_checkIndex_df160_8 : decode cJ0_checkIndex_df160 8 = .ok (.pop, 1) := by decide +kernel
theorem dJ0_checkIndex_df160_9 : decode cJ0_checkIndex_df160 9 = .ok (.return_, 1) := by decide +kernel
theorem dJ1_charAt_3b067_0 : decode cJ1_charAt_3b067 0 = .ok (.iload_n 1, 1) := by decide +kernel
theorem dJ1_charAt_3b067_1 : decode cJ1_charAt_3b067 1 = .ok (.aload_n 0, 1) := by decide +kernel
theorem dJ1_charAt_3b067_2 : decode cJ1_charAt_3b067 2 = .ok (.arraylength, 1) := by decide +kernel
theorem dJ1_charAt_3b067_3 : decode cJ1_charAt_3b067 3 = .ok (.invokestatic 9, 3) := by decide +kernel
theorem dJ1_charAt_3b067_6 : decode cJ1_charAt_3b067 6 = .ok (.aload_n 0, 1) := by decide +kernel
theorem dJ1_charAt_3b067_7 : decode cJ1_charAt_3b067 7 = .ok (.iload_n 1, 1) := by decide +kernel
theorem dJ1_charAt_3b067_8 : decode cJ1_charAt_3b067 8 = .ok (.baload, 1) := by decide +kernel
theorem dJ1_charAt_3b067_9 : decode cJ1_charAt_3b067 9 = .ok (.sipush 255, 3) := by decide +kernel
theorem dJ1_charAt_3b067_12 : decode cJ1_charAt_3b067 12 = .ok (.iand, 1) := by decide +kernel
theorem dJ1_charAt_3b067_13 : decode cJ1_charAt_3b067 13 = .ok (.i2c, 1) := by decide +kernel
theorem dJ1_charAt_3b067_14 : decode cJ1_charAt_3b067 14 = .ok (.ireturn, 1) := by decide +kernel
theorem dJ2_getChar_3b067_0 : decode cJ2_getChar_3b067 0 = .ok (.getstatic 44, 3) := by decide +kernel
theorem dJ2_getChar_3b067_3 : decode cJ2_getChar_3b067 3 = .ok (.ifCond .ne 25, 3) := by decide +kernel
theorem dJ2_getChar_3b067_6 : decode cJ2_getChar_3b067 6 = .ok (.iload_n 1, 1) := by decide +kernel
theorem dJ2_getChar_3b067_7 : decode cJ2_getChar_3b067 7 = .ok (.ifCond .lt 11, 3) := by decide +kernel
theorem dJ2_getChar_3b067_10 : decode cJ2_getChar_3b067 10 = .ok (.iload_n 1, 1) := by decide +kernel
theorem dJ2_getChar_3b067_11 : decode cJ2_getChar_3b067 11 = .ok (.aload_n 0, 1) := by decide +kernel
theorem dJ2_getChar_3b067_12 : decode cJ2_getChar_3b067 12 = .ok (.invokestatic 48, 3) := by decide +kernel
theorem dJ2_getChar_3b067_15 : decode cJ2_getChar_3b067 15 = .ok (.if_icmp .lt 13, 3) := by decide +kernel
theorem dJ2_getChar_3b067_18 : decode cJ2_getChar_3b067 18 = .ok (.new 52, 3) := by decide +kernel
theorem dJ2_getChar_3b067_21 : decode cJ2_getChar_3b067 21 = .ok (.dup, 1) := by decide +kernel
theorem dJ2_getChar_3b067_22 : decode cJ2_getChar_3b067 22 = .ok (.ldc 54, 2) := by decide +kernel
theorem dJ2_getChar_3b067_24 : decode cJ2_getChar_3b067 24 = .ok (.invokespecial 56, 3) := by decide +kernel
theorem dJ2_getChar_3b067_27 : decode cJ2_getChar_3b067 27 = .ok (.athrow, 1) := by decide +kernel
theorem dJ2_getChar_3b067_28 : decode cJ2_getChar_3b067 28 = .ok (.iload_n 1, 1) := by decide +kernel
theorem dJ2_getChar_3b067_29 : decode cJ2_getChar_3b067 29 = .ok (.iconst 1, 1) := by decide +kernel
theorem dJ2_getChar_3b067_30 : decode cJ2_getChar_3b067 30 = .ok (.ishl, 1) := by decide +kernel
theorem dJ2_getChar_3b067_31 : decode cJ2_getChar_3b067 31 = .ok (.istore_n 1, 1) := by decide +kernel
theorem dJ2_getChar_3b067_32 : decode cJ2_getChar_3b067 32 = .ok (.aload_n 0, 1) := by decide +kernel
theorem dJ2_getChar_3b067_33 : decode cJ2_getChar_3b067 33 = .ok (.iload_n 1, 1) := by decide +kernel
theorem dJ2_getChar_3b067_34 : decode cJ2_getChar_3b067 34 = .ok (.iinc 1 1, 3) := by decide +kernel
theorem dJ2_getChar_3b067_37 : decode cJ2_getChar_3b067 37 = .ok (.baload, 1) := by decide +kernel
theorem dJ2_getChar_3b067_38 : decode cJ2_getChar_3b067 38 = .ok (.sipush 255, 3) := by decide +kernel
theorem dJ2_getChar_3b067_41 : decode cJ2_getChar_3b067 41 = .ok (.iand, 1) := by decide +kernel
theorem dJ2_getChar_3b067_42 : decode cJ2_getChar_3b067 42 = .ok (.getstatic 59, 3) := by decide +kernel
theorem dJ2_getChar_3b067_45 : decode cJ2_getChar_3b067 45 = .ok (.ishl, 1) := by decide +kernel
theorem dJ2_getChar_3b067_46 : decode cJ2_getChar_3b067 46 = .ok (.aload_n 0, 1) := by decide +kernel
theorem dJ2_getChar_3b067_47 : decode cJ2_getChar_3b067 47 = .ok (.iload_n 1, 1) := by decide +kernel
theorem dJ2_getChar_3b067_48 : decode cJ2_getChar_3b067 48 = .ok (.baload, 1) := by decide +kernel
theorem dJ2_getChar_3b067_49 : decode cJ2_getChar_3b067 49 = .ok (.sipush 255, 3) := by decide +kernel
theorem dJ2_getChar_3b067_52 : decode cJ2_getChar_3b067 52 = .ok (.iand, 1) := by decide +kernel
theorem dJ2_getChar_3b067_53 : decode cJ2_getChar_3b067 53 = .ok (.getstatic 63, 3) := by decide +kernel
theorem dJ2_getChar_3b067_56 : decode cJ2_getChar_3b067 56 = .ok (.ishl, 1) := by decide +kernel
theorem dJ2_getChar_3b067_57 : decode cJ2_getChar_3b067 57 = .ok (.ior, 1) := by decide +kernel
theorem dJ2_getChar_3b067_58 : decode cJ2_getChar_3b067 58 = .ok (.i2c, 1) := by decide +kernel
theorem dJ2_getChar_3b067_59 : decode cJ2_getChar_3b067 59 = .ok (.ireturn, 1) := by decide +kernel
theorem dJ2_length_9d52b_0 : decode cJ2_length_9d52b 0 = .ok (.aload_n 0, 1) := by decide +kernel
theorem dJ2_length_9d52b_1 : decode cJ2_length_9d52b 1 = .ok (.arraylength, 1) := by decide +kernel
theorem dJ2_length_9d52b_2 : decode cJ2_length_9d52b 2 = .ok (.iconst 1, 1) := by decide +kernel
theorem dJ2_length_9d52b_3 : decode cJ2_length_9d52b 3 = .ok (.ishr, 1) := by decide +kernel
theorem dJ2_length_9d52b_4 : decode cJ2_length_9d52b 4 = .ok (.ireturn, 1) := by decide +kernel
theorem dJ2_charAt_3b067_0 : decode cJ2_charAt_3b067 0 = .ok (.iload_n 1, 1) := by decide +kernel
theorem dJ2_charAt_3b067_1 : decode cJ2_charAt_3b067 1 = .ok (.aload_n 0, 1) := by decide +kernel
theorem dJ2_charAt_3b067_2 : decode cJ2_charAt_3b067 2 = .ok (.invokestatic 67, 3) := by decide +kernel
theorem dJ2_charAt_3b067_5 : decode cJ2_charAt_3b067 5 = .ok (.aload_n 0, 1) := by decide +kernel
theorem dJ2_charAt_3b067_6 : decode cJ2_charAt_3b067 6 = .ok (.iload_n 1, 1) := by decide +kernel
theorem dJ2_charAt_3b067_7 : decode cJ2_charAt_3b067 7 = .ok (.invokestatic 71, 3) := by decide +kernel
theorem dJ2_charAt_3b067_10 : decode cJ2_charAt_3b067 10 = .ok (.ireturn, 1) := by decide +kernel
theorem dJ2_checkIndex_2214a_0 : decode cJ2_checkIndex_2214a 0 = .ok (.iload_n 0, 1) := by decide +kernel
theorem dJ2_checkIndex_2214a_1 : decode cJ2_checkIndex_2214a 1 = .ok (.aload_n 1, 1) := by decide +kernel
theorem dJ2_checkIndex_2214a_2 : decode cJ2_checkIndex_2214a 2 = .ok (.invokestatic 48, 3) := by decide +kernel
theorem dJ2_checkIndex_2214a_5 : decode cJ2_checkIndex_2214a 5 = .ok (.invokestatic 414, 3) := by decide +kernel
theorem dJ2_checkIndex_2214a_8 : decode cJ2_checkIndex_2214a 8 = .ok (.return_, 1) := by decide +kernel
theorem dJ3_checkIndex_8e157_0 : decode cJ3_checkIndex_8e157 0 = .ok (.iload_n 0, 1) := by decide +kernel
theorem dJ3_checkIndex_8e157_1 : decode cJ3_checkIndex_8e157 1 = .ok (.ifCond .lt 8, 3) := by decide +kernel
theorem dJ3_checkIndex_8e157_4 : decode cJ3_checkIndex_8e157 4 = .ok (.iload_n 0, 1) := by decide +kernel
theorem dJ3_checkIndex_8e157_5 : decode cJ3_checkIndex_8e157 5 = .ok (.iload_n 1, 1) := by decide +kernel
theorem dJ3_checkIndex_8e157_6 : decode cJ3_checkIndex_8e157 6 = .ok (.if_icmp .lt 10, 3) := by decide +kernel
theorem dJ3_checkIndex_8e157_9 : decode cJ3_checkIndex_8e157 9 = .ok (.aload_n 2, 1) := by decide +kernel
theorem dJ3_checkIndex_8e157_10 : decode cJ3_checkIndex_8e157 10 = .ok (.iload_n 0, 1) := by decide +kernel
theorem dJ3_checkIndex_8e157_11 : decode cJ3_checkIndex_8e157 11 = .ok (.iload_n 1, 1) := by decide +kernel
theorem dJ3_checkIndex_8e157_12 : decode cJ3_checkIndex_8e157 12 = .ok (.invokestatic 95, 3) := by decide +kernel
theorem dJ3_checkIndex_8e157_15 : decode cJ3_checkIndex_8e157 15 = .ok (.athrow, 1) := by decide +kernel
theorem dJ3_checkIndex_8e157_16 : decode cJ3_checkIndex_8e157 16 = .ok (.iload_n 0, 1) := by decide +kernel
theorem dJ3_checkIndex_8e157_17 : decode cJ3_checkIndex_8e157 17 = .ok (.ireturn, 1) := by decide +kernel
