theorem dX3_readOutputs_26 : decode cX3_readOutputs 26 = .ok (.iload_n 3, 1) := by decide +kernel
theorem dX3_readOutputs_27 : decode cX3_readOutputs 27 = .ok (.ifCond .eq 11, 3) := by decide +kernel
theorem dX3_readOutputs_30 : decode cX3_readOutputs 30 = .ok (.aload_n 0, 1) := by decide +kernel
theorem dX3_readOutputs_31 : decode cX3_readOutputs 31 = .ok (.getfield 38, 3) := by decide +kernel
theorem dX3_readOutputs_34 : decode cX3_readOutputs 34 = .ok (.iconst 2, 1) := by decide +kernel
theorem dX3_readOutputs_35 : decode cX3_readOutputs 35 = .ok (.if_icmp .ne 31, 3) := by decide +kernel
theorem dX3_readOutputs_38 : decode cX3_readOutputs 38 = .ok (.aload_n 0, 1) := by decide +kernel
theorem dX3_readOutputs_39 : decode cX3_readOutputs 39 = .ok (.iconst 0, 1) := by decide +kernel
theorem dX3_readOutputs_40 : decode cX3_readOutputs 40 = .ok (.iload_n 2, 1) := by decide +kernel
theorem dX3_readOutputs_41 : decode cX3_readOutputs 41 = .ok (.invokevirtual 50, 3) := by decide +kernel
theorem dX3_readOutputs_44 : decode cX3_readOutputs 44 = .ok (.istore 4, 2) := by decide +kernel
theorem dX3_readOutputs_46 : decode cX3_readOutputs 46 = .ok (.iload 4, 2) := by decide +kernel
theorem dX3_readOutputs_48 : decode cX3_readOutputs 48 = .ok (.iconst (-1), 1) := by decide +kernel
theorem dX3_readOutputs_49 : decode cX3_readOutputs 49 = .ok (.if_icmp .ne 5, 3) := by decide +kernel
theorem dX3_readOutputs_52 : decode cX3_readOutputs 52 = .ok (.iconst 0, 1) := by decide +kernel
theorem dX3_readOutputs_53 : decode cX3_readOutputs 53 = .ok (.ireturn, 1) := by decide +kernel
theorem dX3_readOutputs_54 : decode cX3_readOutputs 54 = .ok (.aload_n 1, 1) := by decide +kernel
theorem dX3_readOutputs_55 : decode cX3_readOutputs 55 = .ok (.iload 4, 2) := by decide +kernel
theorem dX3_readOutputs_57 : decode cX3_readOutputs 57 = .ok (.invokevirtual 82, 3) := by decide +kernel
theorem dX3_readOutputs_60 : decode cX3_readOutputs 60 = .ok (.iinc 3 1, 3) := by decide +kernel
theorem dX3_readOutputs_63 : decode cX3_readOutputs 63 = .ok (.goto (-43), 3) := by decide +kernel
theorem dX3_readOutputs_66 : decode cX3_readOutputs 66 = .ok (.aload_n 0, 1) := by decide +kernel
theorem dX3_readOutputs_67 : decode cX3_readOutputs 67 = .ok (.invokevirtual 60, 3) := by decide +kernel
theorem dX3_readOutputs_70 : decode cX3_readOutputs 70 = .ok (.ireturn, 1) := by decide +kernel
set_option maxRecDepth 20000 in
theorem ggX3_readTask_X3_takeWord : GoodIn wsX3_readTask wsX3_takeWord := goodIn_r _ [6, 7, 8, 9, 5, 10, 11, 12, 13, 14, 15, 16, 17, 18, 19, 20, 21, 22, 23, 24, 25, 26, 27, 28, 29, 30, 31, 32, 33, 34, 35, 36, 37, 38, 39, 40, 41, 42, 43, 44, 45, 46, 47, 48, 49, 50, 51, 52, 53, 54, 55, 56, 57, 58, 59, 60, 61, 62, 63, 64, 65, 66, 67, 68, 69, 70, 71, 72, 73, 74, 75, 76, 77, 78, 114, 115, 116, 117, 118, 119] (by decide +kernel) (by decide +kernel)
set_option maxRecDepth 20000 in
theorem gX3_readTask_X3_takeWord : GoodIn wsX3_readTask (wsV RX3 46 RX3 yX3_takeWord wsX3_takeWord) := goodIn_app (goodIn_of _ (by decide +kernel)) ggX3_readTask_X3_takeWord
set_option maxRecDepth 20000 in
theorem ggX3_readTask_X3_taskKind : GoodIn wsX3_readTask wsX3_taskKind := goodIn_r _ [82, 83, 84, 5, 85, 7, 8, 9, 10, 11, 12, 13, 14, 15, 16, 17, 18, 19, 20, 21, 22, 23, 24, 25, 26, 27, 28, 29, 30, 31, 32, 33, 34, 35, 36, 37, 38, 39, 40, 41, 42, 43, 44, 45, 46, 47, 48, 49, 50, 51, 52, 53, 54, 55, 56, 57, 58, 59, 60, 61, 62, 63, 64, 65, 66, 67, 68, 69, 70, 114, 115, 116, 117, 118, 119] (by decide +kernel) (by decide +kernel)
set_option maxRecDepth 20000 in
theorem gX3_readTask_X3_taskKind : GoodIn wsX3_readTask (wsV RX3 87 RX3 yX3_taskKind wsX3_taskKind) := goodIn_app (goodIn_of _ (by decide +kernel)) ggX3_readTask_X3_taskKind
set_option maxRecDepth 20000 in
theorem ggX3_readTask_X3_advance : GoodIn wsX3_readTask wsX3_advance := goodIn_r _ [74, 12, 13, 14, 75, 11, 27, 28, 29, 30, 31, 32, 33, 76, 77, 5, 78, 114, 115, 116, 117, 118, 119] (by decide +kernel) (by decide +kernel)
set_option maxRecDepth 20000 in
theorem gX3_readTask_X3_advance : GoodIn wsX3_readTask (wsV RX3 22 RX3 yX3_advance wsX3_advance) := goodIn_app (goodIn_of _ (by decide +kernel)) ggX3_readTask_X3_advance
set_option maxRecDepth 20000 in
theorem ggX3_readTask_X3_takeNumber : GoodIn wsX3_readTask wsX3_takeNumber := goodIn_r _ [89, 11, 12, 13, 14, 27, 28, 29, 30, 31, 32, 33, 71, 72, 73, 5, 74, 75, 76, 77, 78, 114, 115, 116, 117, 118, 119] (by decide +kernel) (by decide +kernel)
set_option maxRecDepth 20000 in
theorem gX3_readTask_X3_takeNumber : GoodIn wsX3_readTask (wsV RX3 50 RX3 yX3_takeNumber wsX3_takeNumber) := goodIn_app (goodIn_of _ (by decide +kernel)) ggX3_readTask_X3_takeNumber
set_option maxRecDepth 20000 in
theorem ggX3_readTask_X0_end : GoodIn wsX3_readTask wsX0_end := goodIn_r _ [94, 95, 96, 97, 98, 103, 104, 105, 106, 107, 108, 109, 110, 111, 112, 113] (by decide +kernel) (by decide +kernel)
set_option maxRecDepth 20000 in
theorem gX3_readTask_X0_end : GoodIn wsX3_readTask (wsV RX3 93 RX0 yX0_end wsX0_end) := goodIn_app (goodIn_of _ (by decide +kernel)) ggX3_readTask_X0_end
set_option maxRecDepth 20000 in
theorem ggX3_readTask_X3_takeSemicolon : GoodIn wsX3_readTask wsX3_takeSemicolon := goodIn_r _ [102, 11, 14, 13, 27, 28, 29, 30, 31, 32, 33, 71, 72, 73, 5, 74, 12, 75, 76, 77, 78, 114, 115, 116, 117, 118, 119] (by decide +kernel) (by decide +kernel)
set_option maxRecDepth 20000 in
theorem gX3_readTask_X3_takeSemicolon : GoodIn wsX3_readTask (wsV RX3 60 RX3 yX3_takeSemicolon wsX3_takeSemicolon) := goodIn_app (goodIn_of _ (by decide +kernel)) ggX3_readTask_X3_takeSemicolon
theorem dX3_readTask_0 : decode cX3_readTask 0 = .ok (.aload_n 0, 1) := by decide +kernel
theorem dX3_readTask_1 : decode cX3_readTask 1 = .ok (.ldc 85, 2) := by decide +kernel
theorem dX3_readTask_3 : decode cX3_readTask 3 = .ok (.invokevirtual 46, 3) := by decide +kernel
theorem dX3_readTask_6 : decode cX3_readTask 6 = .ok (.ifCond .ne 5, 3) := by decide +kernel
theorem dX3_readTask_9 : decode cX3_readTask 9 = .ok (.iconst 0, 1) := by decide +kernel
theorem dX3_readTask_10 : decode cX3_readTask 10 = .ok (.ireturn, 1) := by decide +kernel
theorem dX3_readTask_11 : decode cX3_readTask 11 = .ok (.aload_n 0, 1) := by decide +kernel
theorem dX3_readTask_12 : decode cX3_readTask 12 = .ok (.invokevirtual 87, 3) := by decide +kernel
theorem dX3_readTask_15 : decode cX3_readTask 15 = .ok (.istore_n 2, 1) := by decide +kernel
theorem dX3_readTask_16 : decode cX3_readTask 16 = .ok (.iload_n 2, 1) := by decide +kernel
theorem dX3_readTask_17 : decode cX3_readTask 17 = .ok (.iconst (-1), 1) := by decide +kernel
theorem dX3_readTask_18 : decode cX3_readTask 18 = .ok (.if_icmp .ne 5, 3) := by decide +kernel
theorem dX3_readTask_21 : decode cX3_readTask 21 = .ok (.iconst 0, 1) := by decide +kernel
theorem dX3_readTask_22 : decode cX3_readTask 22 = .ok (.ireturn, 1) := by decide +kernel
theorem dX3_readTask_23 : decode cX3_readTask 23 = .ok (.aload_n 0, 1) := by decide +kernel
theorem dX3_readTask_24 : decode cX3_readTask 24 = .ok (.invokevirtual 22, 3) := by decide +kernel
theorem dX3_readTask_27 : decode cX3_readTask 27 = .ok (.aload_n 0, 1) := by decide +kernel
theorem dX3_readTask_28 : decode cX3_readTask 28 = .ok (.iconst 1, 1) := by decide +kernel
theorem dX3_readTask_29 : decode cX3_readTask 29 = .ok (.aload_n 1, 1) := by decide +kernel
theorem dX3_readTask_30 : decode cX3_readTask 30 = .ok (.getfield 90, 3) := by decide +kernel
theorem dX3_readTask_33 : decode cX3_readTask 33 = .ok (.invokevirtual 50, 3) := by decide +kernel
theorem dX3_readTask_36 : decode cX3_readTask 36 = .ok (.istore_n 3, 1) := by decide +kernel
theorem dX3_readTask_37 : decode cX3_readTask 37 = .ok (.iload_n 3, 1) := by decide +kernel
theorem dX3_readTask_38 : decode cX3_readTask 38 = .ok (.iconst (-1), 1) := by decide +kernel
theorem dX3_readTask_39 : decode cX3_readTask 39 = .ok (.if_icmp .ne 5, 3) := by decide +kernel
theorem dX3_readTask_42 : decode cX3_readTask 42 = .ok (.iconst 0, 1) := by decide +kernel
theorem dX3_readTask_43 : decode cX3_readTask 43 = .ok (.ireturn, 1) := by decide +kernel
theorem dX3_readTask_44 : decode cX3_readTask 44 = .ok (.aload_n 0, 1) := by decide +kernel
theorem dX3_readTask_45 : decode cX3_readTask 45 = .ok (.iconst 0, 1) := by decide +kernel
theorem dX3_readTask_46 : decode cX3_readTask 46 = .ok (.aload_n 1, 1) := by decide +kernel
theorem dX3_readTask_47 : decode cX3_readTask 47 = .ok (.getfield 90, 3) := by decide +kernel
theorem dX3_readTask_50 : decode cX3_readTask 50 = .ok (.iload_n 3, 1) := by decide +kernel
theorem dX3_readTask_51 : decode cX3_readTask 51 = .ok (.isub, 1) := by decide +kernel
theorem dX3_readTask_52 : decode cX3_readTask 52 = .ok (.invokevirtual 50, 3) := by decide +kernel
theorem dX3_readTask_55 : decode cX3_readTask 55 = .ok (.istore 4, 2) := by decide +kernel
theorem dX3_readTask_57 : decode cX3_readTask 57 = .ok (.iload 4, 2) := by decide +kernel
theorem dX3_readTask_59 : decode cX3_readTask 59 = .ok (.iconst (-1), 1) := by decide +kernel
theorem dX3_readTask_60 : decode cX3_readTask 60 = .ok (.if_icmp .ne 5, 3) := by decide +kernel
theorem dX3_readTask_63 : decode cX3_readTask 63 = .ok (.iconst 0, 1) := by decide +kernel
theorem dX3_readTask_64 : decode cX3_readTask 64 = .ok (.ireturn, 1) := by decide +kernel
theorem dX3_readTask_65 : decode cX3_readTask 65 = .ok (.aload_n 1, 1) := by decide +kernel
theorem dX3_readTask_66 : decode cX3_readTask 66 = .ok (.iload_n 2, 1) := by decide +kernel
theorem dX3_readTask_67 : decode cX3_readTask 67 = .ok (.iload_n 3, 1) := by decide +kernel
theorem dX3_readTask_68 : decode cX3_readTask 68 = .ok (.iload 4, 2) := by decide +kernel
theorem dX3_readTask_70 : decode cX3_readTask 70 = .ok (.invokevirtual 93, 3) := by decide +kernel
theorem dX3_readTask_73 : decode cX3_readTask 73 = .ok (.aload_n 0, 1) := by decide +kernel
theorem dX3_readTask_74 : decode cX3_readTask 74 = .ok (.invokevirtual 60, 3) := by decide +kernel
theorem dX3_readTask_77 : decode cX3_readTask 77 = .ok (.ireturn, 1) := by decide +kernel
set_option maxRecDepth 20000 in
theorem ggX3_gateKind_X3_gateWord : GoodIn wsX3_gateKind wsX3_gateWord := goodIn_r _ [4] (by decide +kernel) (by decide +kernel)
set_option maxRecDepth 20000 in
theorem gX3_gateKind_X3_gateWord : GoodIn wsX3_gateKind (va_wsS RX3 97 yX3_gateWord wsX3_gateWord) := goodIn_app (goodIn_of _ (by decide +kernel)) ggX3_gateKind_X3_gateWord
set_option maxRecDepth 20000 in
theorem ggX3_gateKind_X3_isWord : GoodIn wsX3_gateKind wsX3_isWord := goodIn_r _ [8, 9, 10, 11, 12, 13, 14, 15, 16, 17, 18, 19, 20, 21, 22, 23, 24, 25, 26, 27, 28, 29, 30, 31, 32, 33, 34, 35, 36, 37, 38, 39, 40, 41, 42, 43, 44, 45, 46, 47, 48, 49, 50, 51, 52, 53, 54, 55, 56, 57, 58, 59, 60, 61, 62, 63, 64, 65, 66, 67, 68, 69, 70, 71, 72, 73, 74] (by decide +kernel) (by decide +kernel)
set_option maxRecDepth 20000 in
theorem gX3_gateKind_X3_isWord : GoodIn wsX3_gateKind (wsV RX3 101 RX3 yX3_isWord wsX3_isWord) := goodIn_app (goodIn_of _ (by decide +kernel)) ggX3_gateKind_X3_isWord
theorem dX3_gateKind_0 : decode cX3_gateKind 0 = .ok (.iconst 0, 1) := by decide +kernel
theorem dX3_gateKind_1 : decode cX3_gateKind 1 = .ok (.istore_n 1, 1) := by decide +kernel
theorem dX3_gateKind_2 : decode cX3_gateKind 2 = .ok (.iload_n 1, 1) := by decide +kernel
theorem dX3_gateKind_3 : decode cX3_gateKind 3 = .ok (.bipush 8, 2) := by decide +kernel
theorem dX3_gateKind_5 : decode cX3_gateKind 5 = .ok (.if_icmp .ge 22, 3) := by decide +kernel
theorem dX3_gateKind_8 : decode cX3_gateKind 8 = .ok (.aload_n 0, 1) := by decide +kernel
theorem dX3_gateKind_9 : decode cX3_gateKind 9 = .ok (.iload_n 1, 1) := by decide +kernel
theorem dX3_gateKind_10 : decode cX3_gateKind 10 = .ok (.invokestatic 97, 3) := by decide +kernel
theorem dX3_gateKind_13 : decode cX3_gateKind 13 = .ok (.invokevirtual 101, 3) := by decide +kernel
theorem dX3_gateKind_16 : decode cX3_gateKind 16 = .ok (.ifCond .eq 5, 3) := by decide +kernel
theorem dX3_gateKind_19 : decode cX3_gateKind 19 = .ok (.iload_n 1, 1) := by decide +kernel
theorem dX3_gateKind_20 : decode cX3_gateKind 20 = .ok (.ireturn, 1) := by decide +kernel
theorem dX3_gateKind_21 : decode cX3_gateKind 21 = .ok (.iinc 1 1, 3) := by decide +kernel
theorem dX3_gateKind_24 : decode cX3_gateKind 24 = .ok (.goto (-22), 3) := by decide +kernel
theorem dX3_gateKind_27 : decode cX3_gateKind 27 = .ok (.iconst (-1), 1) := by decide +kernel
theorem dX3_gateKind_28 : decode cX3_gateKind 28 = .ok (.ireturn, 1) := by decide +kernel
set_option maxRecDepth 20000 in
theorem ggX3_taskKind_X3_taskWord : GoodIn wsX3_taskKind wsX3_taskWord := goodIn_r _ [4] (by decide +kernel) (by decide +kernel)
set_option maxRecDepth 20000 in
theorem gX3_taskKind_X3_taskWord : GoodIn wsX3_taskKind (va_wsS RX3 104 yX3_taskWord wsX3_taskWord) := goodIn_app (goodIn_of _ (by decide +kernel)) ggX3_taskKind_X3_taskWord
set_option maxRecDepth 20000 in
theorem ggX3_taskKind_X3_isWord : GoodIn wsX3_taskKind wsX3_isWord := goodIn_r _ [8, 9, 10, 11, 12, 13, 14, 15, 16, 17, 18, 19, 20, 21, 22, 23, 24, 25, 26, 27, 28, 29, 30, 31, 32, 33, 34, 35, 36, 37, 38, 39, 40, 41, 42, 43, 44, 45, 46, 47, 48, 49, 50, 51, 52, 53, 54, 55, 56, 57, 58, 59, 60, 61, 62, 63, 64, 65, 66, 67, 68, 69, 70, 71, 72, 73, 74] (by decide +kernel) (by decide +kernel)
set_option maxRecDepth 20000 in
theorem gX3_taskKind_X3_isWord : GoodIn wsX3_taskKind (wsV RX3 101 RX3 yX3_isWord wsX3_isWord) := goodIn_app (goodIn_of _ (by decide +kernel)) ggX3_taskKind_X3_isWord
theorem dX3_taskKind_0 : decode cX3_taskKind 0 = .ok (.iconst 0, 1) := by decide +kernel
theorem dX3_taskKind_1 : decode cX3_taskKind 1 = .ok (.istore_n 1, 1) := by decide +kernel
theorem dX3_taskKind_2 : decode cX3_taskKind 2 = .ok (.iload_n 1, 1) := by decide +kernel
theorem dX3_taskKind_3 : decode cX3_taskKind 3 = .ok (.iconst 4, 1) := by decide +kernel
theorem dX3_taskKind_4 : decode cX3_taskKind 4 = .ok (.if_icmp .ge 22, 3) := by decide +kernel
theorem dX3_taskKind_7 : decode cX3_taskKind 7 = .ok (.aload_n 0, 1) := by decide +kernel
theorem dX3_taskKind_8 : decode cX3_taskKind 8 = .ok (.iload_n 1, 1) := by decide +kernel
theorem dX3_taskKind_9 : decode cX3_taskKind 9 = .ok (.invokestatic 104, 3) := by decide +kernel
theorem dX3_taskKind_12 : decode cX3_taskKind 12 = .ok (.invokevirtual 101, 3) := by decide +kernel
theorem dX3_taskKind_15 : decode cX3_taskKind 15 = .ok (.ifCond .eq 5, 3) := by decide +kernel
theorem dX3_taskKind_18 : decode cX3_taskKind 18 = .ok (.iload_n 1, 1) := by decide +kernel
theorem dX3_taskKind_19 : decode cX3_taskKind 19 = .ok (.ireturn, 1) := by decide +kernel
theorem dX3_taskKind_20 : decode cX3_taskKind 20 = .ok (.iinc 1 1, 3) := by decide +kernel
theorem dX3_taskKind_23 : decode cX3_taskKind 23 = .ok (.goto (-21), 3) := by decide +kernel
theorem dX3_taskKind_26 : decode cX3_taskKind 26 = .ok (.iconst (-1), 1) := by decide +kernel
theorem dX3_taskKind_27 : decode cX3_taskKind 27 = .ok (.ireturn, 1) := by decide +kernel
theorem dX3_gateWord_0 : decode cX3_gateWord 0 = .ok (.iload_n 0, 1) := by decide +kernel
theorem dX3_gateWord_1 : decode cX3_gateWord 1 = .ok (.tableswitch 64 0 6 #[43, 46, 49, 52, 55, 58, 61], 43) := by decide +kernel
theorem dX3_gateWord_44 : decode cX3_gateWord 44 = .ok (.ldc 107, 2) := by decide +kernel
theorem dX3_gateWord_46 : decode cX3_gateWord 46 = .ok (.areturn, 1) := by decide +kernel
theorem dX3_gateWord_47 : decode cX3_gateWord 47 = .ok (.ldc 109, 2) := by decide +kernel
theorem dX3_gateWord_49 : decode cX3_gateWord 49 = .ok (.areturn, 1) := by decide +kernel
theorem dX3_gateWord_50 : decode cX3_gateWord 50 = .ok (.ldc 111, 2) := by decide +kernel
theorem dX3_gateWord_52 : decode cX3_gateWord 52 = .ok (.areturn, 1) := by decide +kernel
theorem dX3_gateWord_53 : decode cX3_gateWord 53 = .ok (.ldc 113, 2) := by decide +kernel
theorem dX3_gateWord_55 : decode cX3_gateWord 55 = .ok (.areturn, 1) := by decide +kernel
theorem dX3_gateWord_56 : decode cX3_gateWord 56 = .ok (.ldc 115, 2) := by decide +kernel
theorem dX3_gateWord_58 : decode cX3_gateWord 58 = .ok (.areturn, 1) := by decide +kernel
theorem dX3_gateWord_59 : decode cX3_gateWord 59 = .ok (.ldc 117, 2) := by decide +kernel
theorem dX3_gateWord_61 : decode cX3_gateWord 61 = .ok (.areturn, 1) := by decide +kernel
theorem dX3_gateWord_62 : decode cX3_gateWord 62 = .ok (.ldc 119, 2) := by decide +kernel
theorem dX3_gateWord_64 : decode cX3_gateWord 64 = .ok (.areturn, 1) := by decide +kernel
theorem dX3_gateWord_65 : decode cX3_gateWord 65 = .ok (.ldc 121, 2) := by decide +kernel
theorem dX3_gateWord_67 : decode cX3_gateWord 67 = .ok (.areturn, 1) := by decide +kernel
theorem dX3_taskWord_0 : decode cX3_taskWord 0 = .ok (.iload_n 0, 1) := by decide +kernel
theorem dX3_taskWord_1 : decode cX3_taskWord 1 = .ok (.tableswitch 36 0 2 #[27, 30, 33], 27) := by decide +kernel
theorem dX3_taskWord_28 : decode cX3_taskWord 28 = .ok (.ldc 123, 2) := by decide +kernel
theorem dX3_taskWord_30 : decode cX3_taskWord 30 = .ok (.areturn, 1) := by decide +kernel
theorem dX3_taskWord_31 : decode cX3_taskWord 31 = .ok (.ldc 125, 2) := by decide +kernel
theorem dX3_taskWord_33 : decode cX3_taskWord 33 = .ok (.areturn, 1) := by decide +kernel
theorem dX3_taskWord_34 : decode cX3_taskWord 34 = .ok (.ldc 127, 2) := by decide +kernel
theorem dX3_taskWord_36 : decode cX3_taskWord 36 = .ok (.areturn, 1) := by decide +kernel
theorem dX3_taskWord_37 : decode cX3_taskWord 37 = .ok (.ldc 129, 2) := by decide +kernel
theorem dX3_taskWord_39 : decode cX3_taskWord 39 = .ok (.areturn, 1) := by decide +kernel
set_option maxRecDepth 20000 in
theorem ggX3_isWord_J0_length_8abf5 : GoodIn wsX3_isWord wsJ0_length_8abf5 := goodIn_r _ [9, 10, 11, 12, 13, 8, 14, 15, 16] (by decide +kernel) (by decide +kernel)
set_option maxRecDepth 20000 in
theorem gX3_isWord_J0_length_8abf5 : GoodIn wsX3_isWord (wsV RX3 131 RJ0 yJ0_length_8abf5 wsJ0_length_8abf5) := goodIn_app (goodIn_of _ (by decide +kernel)) ggX3_isWord_J0_length_8abf5
set_option maxRecDepth 20000 in
theorem ggX3_isWord_X5_byteAt : GoodIn wsX3_isWord wsX5_byteAt := goodIn_r _ [21, 22, 23, 65, 66] (by decide +kernel) (by decide +kernel)
set_option maxRecDepth 20000 in
theorem gX3_isWord_X5_byteAt : GoodIn wsX3_isWord (wsV RX3 136 RX5 yX5_byteAt wsX5_byteAt) := goodIn_app (goodIn_of _ (by decide +kernel)) ggX3_isWord_X5_byteAt
set_option maxRecDepth 20000 in
theorem ggX3_isWord_J0_charAt_5068e : GoodIn wsX3_isWord wsJ0_charAt_5068e := goodIn_r _ [27, 10, 28, 29, 30, 8, 31, 15, 16, 32, 33, 34, 35, 36, 37, 38, 39, 40, 41, 42, 43, 44, 45, 46, 47, 48, 49, 50, 51, 52, 53, 54, 55, 56, 57, 58, 59, 60] (by decide +kernel) (by decide +kernel)
set_option maxRecDepth 20000 in
theorem gX3_isWord_J0_charAt_5068e : GoodIn wsX3_isWord (wsV RX3 140 RJ0 yJ0_charAt_5068e wsJ0_charAt_5068e) := goodIn_app (goodIn_of _ (by decide +kernel)) ggX3_isWord_J0_charAt_5068e
theorem dX3_isWord_0 : decode cX3_isWord 0 = .ok (.aload_n 0, 1) := by decide +kernel
theorem dX3_isWord_1 : decode cX3_isWord 1 = .ok (.getfield 38, 3) := by decide +kernel
theorem dX3_isWord_4 : decode cX3_isWord 4 = .ok (.iconst 1, 1) := by decide +kernel
theorem dX3_isWord_5 : decode cX3_isWord 5 = .ok (.if_icmp .ne 19, 3) := by decide +kernel
theorem dX3_isWord_8 : decode cX3_isWord 8 = .ok (.aload_n 0, 1) := by decide +kernel
theorem dX3_isWord_9 : decode cX3_isWord 9 = .ok (.getfield 18, 3) := by decide +kernel
theorem dX3_isWord_12 : decode cX3_isWord 12 = .ok (.aload_n 0, 1) := by decide +kernel
theorem dX3_isWord_13 : decode cX3_isWord 13 = .ok (.getfield 41, 3) := by decide +kernel
theorem dX3_isWord_16 : decode cX3_isWord 16 = .ok (.isub, 1) := by decide +kernel
theorem dX3_isWord_17 : decode cX3_isWord 17 = .ok (.aload_n 1, 1) := by decide +kernel
theorem dX3_isWord_18 : decode cX3_isWord 18 = .ok (.invokevirtual 131, 3) := by decide +kernel
theorem dX3_isWord_21 : decode cX3_isWord 21 = .ok (.if_icmp .eq 5, 3) := by decide +kernel
theorem dX3_isWord_24 : decode cX3_isWord 24 = .ok (.iconst 0, 1) := by decide +kernel
theorem dX3_isWord_25 : decode cX3_isWord 25 = .ok (.ireturn, 1) := by decide +kernel
theorem dX3_isWord_26 : decode cX3_isWord 26 = .ok (.iconst 0, 1) := by decide +kernel
theorem dX3_isWord_27 : decode cX3_isWord 27 = .ok (.istore_n 2, 1) := by decide +kernel
theorem dX3_isWord_28 : decode cX3_isWord 28 = .ok (.iload_n 2, 1) := by decide +kernel
theorem dX3_isWord_29 : decode cX3_isWord 29 = .ok (.aload_n 1, 1) := by decide +kernel
theorem dX3_isWord_30 : decode cX3_isWord 30 = .ok (.invokevirtual 131, 3) := by decide +kernel
theorem dX3_isWord_33 : decode cX3_isWord 33 = .ok (.if_icmp .ge 32, 3) := by decide +kernel
theorem dX3_isWord_36 : decode cX3_isWord 36 = .ok (.aload_n 0, 1) := by decide +kernel
theorem dX3_isWord_37 : decode cX3_isWord 37 = .ok (.getfield 12, 3) := by decide +kernel
theorem dX3_isWord_40 : decode cX3_isWord 40 = .ok (.aload_n 0, 1) := by decide +kernel
theorem dX3_isWord_41 : decode cX3_isWord 41 = .ok (.getfield 41, 3) := by decide +kernel
theorem dX3_isWord_44 : decode cX3_isWord 44 = .ok (.iload_n 2, 1) := by decide +kernel
theorem dX3_isWord_45 : decode cX3_isWord 45 = .ok (.iadd, 1) := by decide +kernel
theorem dX3_isWord_46 : decode cX3_isWord 46 = .ok (.invokevirtual 136, 3) := by decide +kernel
theorem dX3_isWord_49 : decode cX3_isWord 49 = .ok (.aload_n 1, 1) := by decide +kernel
theorem dX3_isWord_50 : decode cX3_isWord 50 = .ok (.iload_n 2, 1) := by decide +kernel
theorem dX3_isWord_51 : decode cX3_isWord 51 = .ok (.invokevirtual 140, 3) := by decide +kernel
theorem dX3_isWord_54 : decode cX3_isWord 54 = .ok (.if_icmp .eq 5, 3) := by decide +kernel
theorem dX3_isWord_57 : decode cX3_isWord 57 = .ok (.iconst 0, 1) := by decide +kernel
theorem dX3_isWord_58 : decode cX3_isWord 58 = .ok (.ireturn, 1) := by decide +kernel
theorem dX3_isWord_59 : decode cX3_isWord 59 = .ok (.iinc 2 1, 3) := by decide +kernel
theorem dX3_isWord_62 : decode cX3_isWord 62 = .ok (.goto (-34), 3) := by decide +kernel
theorem dX3_isWord_65 : decode cX3_isWord 65 = .ok (.iconst 1, 1) := by decide +kernel
theorem dX3_isWord_66 : decode cX3_isWord 66 = .ok (.ireturn, 1) := by decide +kernel
set_option maxRecDepth 20000 in
theorem ggX3_takeWord_X3_isWord : GoodIn wsX3_takeWord wsX3_isWord := goodIn_r _ [5, 6, 7, 8, 9, 10, 11, 12, 13, 14, 15, 16, 17, 18, 19, 20, 21, 22, 23, 24, 25, 26, 27, 28, 29, 30, 31, 32, 33, 34, 35, 36, 37, 38, 39, 40, 41, 42, 43, 44, 45, 46, 47, 48, 49, 50, 51, 52, 53, 54, 55, 56, 57, 58, 59, 60, 61, 62, 63, 64, 65, 74, 75, 76, 77, 78, 79] (by decide +kernel) (by decide +kernel)
set_option maxRecDepth 20000 in
theorem gX3_takeWord_X3_isWord : GoodIn wsX3_takeWord (wsV RX3 101 RX3 yX3_isWord wsX3_isWord) := goodIn_app (goodIn_of _ (by decide +kernel)) ggX3_takeWord_X3_isWord
set_option maxRecDepth 20000 in
theorem ggX3_takeWord_X3_advance : GoodIn wsX3_takeWord wsX3_advance := goodIn_r _ [69, 7, 8, 9, 70, 6, 22, 23, 24, 25, 26, 27, 28, 71, 72, 4, 73, 74, 75, 76, 77, 78, 79] (by decide +kernel) (by decide +kernel)
set_option maxRecDepth 20000 in
theorem gX3_takeWord_X3_advance : GoodIn wsX3_takeWord (wsV RX3 22 RX3 yX3_advance wsX3_advance) := goodIn_app (goodIn_of _ (by decide +kernel)) ggX3_takeWord_X3_advance
theorem dX3_takeWord_0 : decode cX3_takeWord 0 = .ok (.aload_n 0, 1) := by decide +kernel
theorem dX3_takeWord_1 : decode cX3_takeWord 1 = .ok (.aload_n 1, 1) := by decide +kernel
theorem dX3_takeWord_2 : decode cX3_takeWord 2 = .ok (.invokevirtual 101, 3) := by decide +kernel
theorem dX3_takeWord_5 : decode cX3_takeWord 5 = .ok (.ifCond .ne 5, 3) := by decide +kernel
theorem dX3_takeWord_8 : decode cX3_takeWord 8 = .ok (.iconst 0, 1) := by decide +kernel
theorem dX3_takeWord_9 : decode cX3_takeWord 9 = .ok (.ireturn, 1) := by decide +kernel
theorem dX3_takeWord_10 : decode cX3_takeWord 10 = .ok (.aload_n 0, 1) := by decide +kernel
theorem dX3_takeWord_11 : decode cX3_takeWord 11 = .ok (.invokevirtual 22, 3) := by decide +kernel
theorem dX3_takeWord_14 : decode cX3_takeWord 14 = .ok (.iconst 1, 1) := by decide +kernel
theorem dX3_takeWord_15 : decode cX3_takeWord 15 = .ok (.ireturn, 1) := by decide +kernel
set_option maxRecDepth 20000 in
theorem ggX3_takeNumber_X5_byteAt : GoodIn wsX3_takeNumber wsX5_byteAt := goodIn_r _ [9, 10, 11, 25, 26] (by decide +kernel) (by decide +kernel)
set_option maxRecDepth 20000 in
theorem gX3_takeNumber_X5_byteAt : GoodIn wsX3_takeNumber (wsV RX3 136 RX5 yX5_byteAt wsX5_byteAt) := goodIn_app (goodIn_of _ (by decide +kernel)) ggX3_takeNumber_X5_byteAt
set_option maxRecDepth 20000 in
theorem ggX3_takeNumber_X3_advance : GoodIn wsX3_takeNumber wsX3_advance := goodIn_r _ [16, 2, 3, 4, 17, 1, 5, 6, 7, 8, 9, 10, 11, 18, 19, 15, 20, 21, 22, 23, 24, 25, 26] (by decide +kernel) (by decide +kernel)
set_option maxRecDepth 20000 in
theorem gX3_takeNumber_X3_advance : GoodIn wsX3_takeNumber (wsV RX3 22 RX3 yX3_advance wsX3_advance) := goodIn_app (goodIn_of _ (by decide +kernel)) ggX3_takeNumber_X3_advance
theorem dX3_takeNumber_0 : decode cX3_takeNumber 0 = .ok (.aload_n 0, 1) := by decide +kernel
theorem dX3_takeNumber_1 : decode cX3_takeNumber 1 = .ok (.getfield 38, 3) := by decide +kernel
theorem dX3_takeNumber_4 : decode cX3_takeNumber 4 = .ok (.iconst 2, 1) := by decide +kernel
theorem dX3_takeNumber_5 : decode cX3_takeNumber 5 = .ok (.if_icmp .ne 16, 3) := by decide +kernel
theorem dX3_takeNumber_8 : decode cX3_takeNumber 8 = .ok (.aload_n 0, 1) := by decide +kernel
theorem dX3_takeNumber_9 : decode cX3_takeNumber 9 = .ok (.getfield 18, 3) := by decide +kernel
theorem dX3_takeNumber_12 : decode cX3_takeNumber 12 = .ok (.aload_n 0, 1) := by decide +kernel
theorem dX3_takeNumber_13 : decode cX3_takeNumber 13 = .ok (.getfield 41, 3) := by decide +kernel
theorem dX3_takeNumber_16 : decode cX3_takeNumber 16 = .ok (.isub, 1) := by decide +kernel
theorem dX3_takeNumber_17 : decode cX3_takeNumber 17 = .ok (.iconst 2, 1) := by decide +kernel
theorem dX3_takeNumber_18 : decode cX3_takeNumber 18 = .ok (.if_icmp .le 5, 3) := by decide +kernel
theorem dX3_takeNumber_21 : decode cX3_takeNumber 21 = .ok (.iconst (-1), 1) := by decide +kernel
theorem dX3_takeNumber_22 : decode cX3_takeNumber 22 = .ok (.ireturn, 1) := by decide +kernel
theorem dX3_takeNumber_23 : decode cX3_takeNumber 23 = .ok (.iconst 0, 1) := by decide +kernel
theorem dX3_takeNumber_24 : decode cX3_takeNumber 24 = .ok (.istore_n 3, 1) := by decide +kernel
theorem dX3_takeNumber_25 : decode cX3_takeNumber 25 = .ok (.aload_n 0, 1) := by decide +kernel
theorem dX3_takeNumber_26 : decode cX3_takeNumber 26 = .ok (.getfield 41, 3) := by decide +kernel
theorem dX3_takeNumber_29 : decode cX3_takeNumber 29 = .ok (.istore 4, 2) := by decide +kernel
theorem dX3_takeNumber_31 : decode cX3_takeNumber 31 = .ok (.iload 4, 2) := by decide +kernel
theorem dX3_takeNumber_33 : decode cX3_takeNumber 33 = .ok (.aload_n 0, 1) := by decide +kernel
theorem dX3_takeNumber_34 : decode cX3_takeNumber 34 = .ok (.getfield 18, 3) := by decide +kernel
theorem dX3_takeNumber_37 : decode cX3_takeNumber 37 = .ok (.if_icmp .ge 27, 3) := by decide +kernel
theorem dX3_takeNumber_40 : decode cX3_takeNumber 40 = .ok (.bipush 10, 2) := by decide +kernel
theorem dX3_takeNumber_42 : decode cX3_takeNumber 42 = .ok (.iload_n 3, 1) := by decide +kernel
theorem dX3_takeNumber_43 : decode cX3_takeNumber 43 = .ok (.imul, 1) := by decide +kernel
theorem dX3_takeNumber_44 : decode cX3_takeNumber 44 = .ok (.aload_n 0, 1) := by decide +kernel
theorem dX3_takeNumber_45 : decode cX3_takeNumber 45 = .ok (.getfield 12, 3) := by decide +kernel
theorem dX3_takeNumber_48 : decode cX3_takeNumber 48 = .ok (.iload 4, 2) := by decide +kernel
theorem dX3_takeNumber_50 : decode cX3_takeNumber 50 = .ok (.invokevirtual 136, 3) := by decide +kernel
theorem dX3_takeNumber_53 : decode cX3_takeNumber 53 = .ok (.iadd, 1) := by decide +kernel
theorem dX3_takeNumber_54 : decode cX3_takeNumber 54 = .ok (.bipush 48, 2) := by decide +kernel
theorem dX3_takeNumber_56 : decode cX3_takeNumber 56 = .ok (.isub, 1) := by decide +kernel
theorem dX3_takeNumber_57 : decode cX3_takeNumber 57 = .ok (.istore_n 3, 1) := by decide +kernel
theorem dX3_takeNumber_58 : decode cX3_takeNumber 58 = .ok (.iinc 4 1, 3) := by decide +kernel
theorem dX3_takeNumber_61 : decode cX3_takeNumber 61 = .ok (.goto (-30), 3) := by decide +kernel
theorem dX3_takeNumber_64 : decode cX3_takeNumber 64 = .ok (.iload_n 3, 1) := by decide +kernel
theorem dX3_takeNumber_65 : decode cX3_takeNumber 65 = .ok (.iload_n 1, 1) := by decide +kernel
theorem dX3_takeNumber_66 : decode cX3_takeNumber 66 = .ok (.if_icmp .lt 8, 3) := by decide +kernel
theorem dX3_takeNumber_69 : decode cX3_takeNumber 69 = .ok (.iload_n 3, 1) := by decide +kernel
theorem dX3_takeNumber_70 : decode cX3_takeNumber 70 = .ok (.iload_n 2, 1) := by decide +kernel
theorem dX3_takeNumber_71 : decode cX3_takeNumber 71 = .ok (.if_icmp .le 5, 3) := by decide +kernel
theorem dX3_takeNumber_74 : decode cX3_takeNumber 74 = .ok (.iconst (-1), 1) := by decide +kernel
theorem dX3_takeNumber_75 : decode cX3_takeNumber 75 = .ok (.ireturn, 1) := by decide +kernel
theorem dX3_takeNumber_76 : decode cX3_takeNumber 76 = .ok (.aload_n 0, 1) := by decide +kernel
theorem dX3_takeNumber_77 : decode cX3_takeNumber 77 = .ok (.invokevirtual 22, 3) := by decide +kernel
theorem dX3_takeNumber_80 : decode cX3_takeNumber 80 = .ok (.iload_n 3, 1) := by decide +kernel
theorem dX3_takeNumber_81 : decode cX3_takeNumber 81 = .ok (.ireturn, 1) := by decide +kernel
set_option maxRecDepth 20000 in
theorem ggX3_takeSemicolon_X5_byteAt : GoodIn wsX3_takeSemicolon wsX5_byteAt := goodIn_r _ [8, 9, 10, 25, 26] (by decide +kernel) (by decide +kernel)
set_option maxRecDepth 20000 in
theorem gX3_takeSemicolon_X5_byteAt : GoodIn wsX3_takeSemicolon (wsV RX3 136 RX5 yX5_byteAt wsX5_byteAt) := goodIn_app (goodIn_of _ (by decide +kernel)) ggX3_takeSemicolon_X5_byteAt
set_option maxRecDepth 20000 in
theorem ggX3_takeSemicolon_X3_advance : GoodIn wsX3_takeSemicolon wsX3_advance := goodIn_r _ [15, 16, 3, 2, 17, 1, 4, 5, 6, 7, 8, 9, 10, 18, 19, 14, 20, 21, 22, 23, 24, 25, 26] (by decide +kernel) (by decide +kernel)
set_option maxRecDepth 20000 in
theorem gX3_takeSemicolon_X3_advance : GoodIn wsX3_takeSemicolon (wsV RX3 22 RX3 yX3_advance wsX3_advance) := goodIn_app (goodIn_of _ (by decide +kernel)) ggX3_takeSemicolon_X3_advance
theorem dX3_takeSemicolon_0 : decode cX3_takeSemicolon 0 = .ok (.aload_n 0, 1) := by decide +kernel
theorem dX3_takeSemicolon_1 : decode cX3_takeSemicolon 1 = .ok (.getfield 38, 3) := by decide +kernel
theorem dX3_takeSemicolon_4 : decode cX3_takeSemicolon 4 = .ok (.iconst 3, 1) := by decide +kernel
theorem dX3_takeSemicolon_5 : decode cX3_takeSemicolon 5 = .ok (.if_icmp .ne 19, 3) := by decide +kernel
theorem dX3_takeSemicolon_8 : decode cX3_takeSemicolon 8 = .ok (.aload_n 0, 1) := by decide +kernel
theorem dX3_takeSemicolon_9 : decode cX3_takeSemicolon 9 = .ok (.getfield 12, 3) := by decide +kernel
theorem dX3_takeSemicolon_12 : decode cX3_takeSemicolon 12 = .ok (.aload_n 0, 1) := by decide +kernel
theorem dX3_takeSemicolon_13 : decode cX3_takeSemicolon 13 = .ok (.getfield 41, 3) := by decide +kernel
theorem dX3_takeSemicolon_16 : decode cX3_takeSemicolon 16 = .ok (.invokevirtual 136, 3) := by decide +kernel
theorem dX3_takeSemicolon_19 : decode cX3_takeSemicolon 19 = .ok (.bipush 59, 2) := by decide +kernel
theorem dX3_takeSemicolon_21 : decode cX3_takeSemicolon 21 = .ok (.if_icmp .eq 5, 3) := by decide +kernel
theorem dX3_takeSemicolon_24 : decode cX3_takeSemicolon 24 = .ok (.iconst 0, 1) := by decide +kernel
theorem dX3_takeSemicolon_25 : decode cX3_takeSemicolon 25 = .ok (.ireturn, 1) := by decide +kernel
theorem dX3_takeSemicolon_26 : decode cX3_takeSemicolon 26 = .ok (.aload_n 0, 1) := by decide +kernel
theorem dX3_takeSemicolon_27 : decode cX3_takeSemicolon 27 = .ok (.invokevirtual 22, 3) := by decide +kernel
theorem dX3_takeSemicolon_30 : decode cX3_takeSemicolon 30 = .ok (.iconst 1, 1) := by decide +kernel
theorem dX3_takeSemicolon_31 : decode cX3_takeSemicolon 31 = .ok (.ireturn, 1) := by decide +kernel
set_option maxRecDepth 20000 in
theorem ggX3_advance_X5_byteAt : GoodIn wsX3_advance wsX5_byteAt := goodIn_r _ [10, 11, 12, 21, 22] (by decide +kernel) (by decide +kernel)
set_option maxRecDepth 20000 in
theorem gX3_advance_X5_byteAt : GoodIn wsX3_advance (wsV RX3 136 RX5 yX5_byteAt wsX5_byteAt) := goodIn_app (goodIn_of _ (by decide +kernel)) ggX3_advance_X5_byteAt
set_option maxRecDepth 20000 in
theorem ggX3_advance_X3_sortOf : GoodIn wsX3_advance wsX3_sortOf := goodIn_r _ [16] (by decide +kernel) (by decide +kernel)
set_option maxRecDepth 20000 in
theorem gX3_advance_X3_sortOf : GoodIn wsX3_advance (va_wsS RX3 146 yX3_sortOf wsX3_sortOf) := goodIn_app (goodIn_of _ (by decide +kernel)) ggX3_advance_X3_sortOf
theorem dX3_advance_0 : decode cX3_advance 0 = .ok (.aload_n 0, 1) := by decide +kernel
theorem dX3_advance_1 : decode cX3_advance 1 = .ok (.aload_n 0, 1) := by decide +kernel
theorem dX3_advance_2 : decode cX3_advance 2 = .ok (.getfield 18, 3) := by decide +kernel
theorem dX3_advance_5 : decode cX3_advance 5 = .ok (.putfield 41, 3) := by decide +kernel
theorem dX3_advance_8 : decode cX3_advance 8 = .ok (.aload_n 0, 1) := by decide +kernel
theorem dX3_advance_9 : decode cX3_advance 9 = .ok (.getfield 41, 3) := by decide +kernel
theorem dX3_advance_12 : decode cX3_advance 12 = .ok (.aload_n 0, 1) := by decide +kernel
theorem dX3_advance_13 : decode cX3_advance 13 = .ok (.getfield 12, 3) := by decide +kernel
theorem dX3_advance_16 : decode cX3_advance 16 = .ok (.getfield 144, 3) := by decide +kernel
theorem dX3_advance_19 : decode cX3_advance 19 = .ok (.if_icmp .ge 32, 3) := by decide +kernel
theorem dX3_advance_22 : decode cX3_advance 22 = .ok (.aload_n 0, 1) := by decide +kernel
theorem dX3_advance_23 : decode cX3_advance 23 = .ok (.getfield 12, 3) := by decide +kernel
theorem dX3_advance_26 : decode cX3_advance 26 = .ok (.aload_n 0, 1) := by decide +kernel
theorem dX3_advance_27 : decode cX3_advance 27 = .ok (.getfield 41, 3) := by decide +kernel
theorem dX3_advance_30 : decode cX3_advance 30 = .ok (.invokevirtual 136, 3) := by decide +kernel
theorem dX3_advance_33 : decode cX3_advance 33 = .ok (.bipush 32, 2) := by decide +kernel
theorem dX3_advance_35 : decode cX3_advance 35 = .ok (.if_icmp .ne 16, 3) := by decide +kernel
theorem dX3_advance_38 : decode cX3_advance 38 = .ok (.aload_n 0, 1) := by decide +kernel
theorem dX3_advance_39 : decode cX3_advance 39 = .ok (.dup, 1) := by decide +kernel
theorem dX3_advance_40 : decode cX3_advance 40 = .ok (.getfield 41, 3) := by decide +kernel
theorem dX3_advance_43 : decode cX3_advance 43 = .ok (.iconst 1, 1) := by decide +kernel
theorem dX3_advance_44 : decode cX3_advance 44 = .ok (.iadd, 1) := by decide +kernel
theorem dX3_advance_45 : decode cX3_advance 45 = .ok (.putfield 41, 3) := by decide +kernel
theorem dX3_advance_48 : decode cX3_advance 48 = .ok (.goto (-40), 3) := by decide +kernel
theorem dX3_advance_51 : decode cX3_advance 51 = .ok (.aload_n 0, 1) := by decide +kernel
theorem dX3_advance_52 : decode cX3_advance 52 = .ok (.aload_n 0, 1) := by decide +kernel
theorem dX3_advance_53 : decode cX3_advance 53 = .ok (.getfield 12, 3) := by decide +kernel
theorem dX3_advance_56 : decode cX3_advance 56 = .ok (.aload_n 0, 1) := by decide +kernel
theorem dX3_advance_57 : decode cX3_advance 57 = .ok (.getfield 41, 3) := by decide +kernel
theorem dX3_advance_60 : decode cX3_advance 60 = .ok (.invokevirtual 136, 3) := by decide +kernel
theorem dX3_advance_63 : decode cX3_advance 63 = .ok (.invokestatic 146, 3) := by decide +kernel
theorem dX3_advance_66 : decode cX3_advance 66 = .ok (.putfield 38, 3) := by decide +kernel
theorem dX3_advance_69 : decode cX3_advance 69 = .ok (.aload_n 0, 1) := by decide +kernel
theorem dX3_advance_70 : decode cX3_advance 70 = .ok (.aload_n 0, 1) := by decide +kernel
theorem dX3_advance_71 : decode cX3_advance 71 = .ok (.getfield 38, 3) := by decide +kernel
theorem dX3_advance_74 : decode cX3_advance 74 = .ok (.ifCond .ne 10, 3) := by decide +kernel
theorem dX3_advance_77 : decode cX3_advance 77 = .ok (.aload_n 0, 1) := by decide +kernel
theorem dX3_advance_78 : decode cX3_advance 78 = .ok (.getfield 41, 3) := by decide +kernel
theorem dX3_advance_81 : decode cX3_advance 81 = .ok (.goto 9, 3) := by decide +kernel
theorem dX3_advance_84 : decode cX3_advance 84 = .ok (.aload_n 0, 1) := by decide +kernel
theorem dX3_advance_85 : decode cX3_advance 85 = .ok (.getfield 41, 3) := by decide +kernel
theorem dX3_advance_88 : decode cX3_advance 88 = .ok (.iconst 1, 1) := by decide +kernel
theorem dX3_advance_89 : decode cX3_advance 89 = .ok (.iadd, 1) := by decide +kernel
theorem dX3_advance_90 : decode cX3_advance 90 = .ok (.putfield 18, 3) := by decide +kernel
theorem dX3_advance_93 : decode cX3_advance 93 = .ok (.aload_n 0, 1) := by decide +kernel
theorem dX3_advance_94 : decode cX3_advance 94 = .ok (.getfield 38, 3) := by decide +kernel
theorem dX3_advance_97 : decode cX3_advance 97 = .ok (.iconst 1, 1) := by decide +kernel
theorem dX3_advance_98 : decode cX3_advance 98 = .ok (.if_icmp .eq 11, 3) := by decide +kernel
theorem dX3_advance_101 : decode cX3_advance 101 = .ok (.aload_n 0, 1) := by decide +kernel
theorem dX3_advance_102 : decode cX3_advance 102 = .ok (.getfield 38, 3) := by decide +kernel
theorem dX3_advance_105 : decode cX3_advance 105 = .ok (.iconst 2, 1) := by decide +kernel
theorem dX3_advance_106 : decode cX3_advance 106 = .ok (.if_icmp .ne 7, 3) := by decide +kernel
theorem dX3_advance_109 : decode cX3_advance 109 = .ok (.iconst 1, 1) := by decide +kernel
theorem dX3_advance_110 : decode cX3_advance 110 = .ok (.goto 4, 3) := by decide +kernel
theorem dX3_advance_113 : decode cX3_advance 113 = .ok (.iconst 0, 1) := by decide +kernel
theorem dX3_advance_114 : decode cX3_advance 114 = .ok (.istore_n 1, 1) := by decide +kernel
theorem dX3_advance_115 : decode cX3_advance 115 = .ok (.iload_n 1, 1) := by decide +kernel
theorem dX3_advance_116 : decode cX3_advance 116 = .ok (.ifCond .eq 51, 3) := by decide +kernel
theorem dX3_advance_119 : decode cX3_advance 119 = .ok (.aload_n 0, 1) := by decide +kernel
theorem dX3_advance_120 : decode cX3_advance 120 = .ok (.getfield 18, 3) := by decide +kernel
theorem dX3_advance_123 : decode cX3_advance 123 = .ok (.aload_n 0, 1) := by decide +kernel
theorem dX3_advance_124 : decode cX3_advance 124 = .ok (.getfield 12, 3) := by decide +kernel
theorem dX3_advance_127 : decode cX3_advance 127 = .ok (.getfield 144, 3) := by decide +kernel
theorem dX3_advance_130 : decode cX3_advance 130 = .ok (.if_icmp .ge 37, 3) := by decide +kernel
theorem dX3_advance_133 : decode cX3_advance 133 = .ok (.aload_n 0, 1) := by decide +kernel
theorem dX3_advance_134 : decode cX3_advance 134 = .ok (.getfield 12, 3) := by decide +kernel
theorem dX3_advance_137 : decode cX3_advance 137 = .ok (.aload_n 0, 1) := by decide +kernel
theorem dX3_advance_138 : decode cX3_advance 138 = .ok (.getfield 18, 3) := by decide +kernel
theorem dX3_advance_141 : decode cX3_advance 141 = .ok (.invokevirtual 136, 3) := by decide +kernel
theorem dX3_advance_144 : decode cX3_advance 144 = .ok (.invokestatic 146, 3) := by decide +kernel
theorem dX3_advance_147 : decode cX3_advance 147 = .ok (.aload_n 0, 1) := by decide +kernel
theorem dX3_advance_148 : decode cX3_advance 148 = .ok (.getfield 38, 3) := by decide +kernel
theorem dX3_advance_151 : decode cX3_advance 151 = .ok (.if_icmp .ne 16, 3) := by decide +kernel
theorem dX3_advance_154 : decode cX3_advance 154 = .ok (.aload_n 0, 1) := by decide +kernel
theorem dX3_advance_155 : decode cX3_advance 155 = .ok (.dup, 1) := by decide +kernel
theorem dX3_advance_156 : decode cX3_advance 156 = .ok (.getfield 18, 3) := by decide +kernel
theorem dX3_advance_159 : decode cX3_advance 159 = .ok (.iconst 1, 1) := by decide +kernel
theorem dX3_advance_160 : decode cX3_advance 160 = .ok (.iadd, 1) := by decide +kernel
theorem dX3_advance_161 : decode cX3_advance 161 = .ok (.putfield 18, 3) := by decide +kernel
theorem dX3_advance_164 : decode cX3_advance 164 = .ok (.goto (-49), 3) := by decide +kernel
theorem dX3_advance_167 : decode cX3_advance 167 = .ok (.return_, 1) := by decide +kernel
theorem dX3_sortOf_0 : decode cX3_sortOf 0 = .ok (.iload_n 0, 1) := by decide +kernel
theorem dX3_sortOf_1 : decode cX3_sortOf 1 = .ok (.iconst (-1), 1) := by decide +kernel
theorem dX3_sortOf_2 : decode cX3_sortOf 2 = .ok (.if_icmp .ne 5, 3) := by decide +kernel
theorem dX3_sortOf_5 : decode cX3_sortOf 5 = .ok (.iconst 0, 1) := by decide +kernel
theorem dX3_sortOf_6 : decode cX3_sortOf 6 = .ok (.ireturn, 1) := by decide +kernel
theorem dX3_sortOf_7 : decode cX3_sortOf 7 = .ok (.iload_n 0, 1) := by decide +kernel
theorem dX3_sortOf_8 : decode cX3_sortOf 8 = .ok (.bipush 48, 2) := by decide +kernel
theorem dX3_sortOf_10 : decode cX3_sortOf 10 = .ok (.if_icmp .lt 11, 3) := by decide +kernel
theorem dX3_sortOf_13 : decode cX3_sortOf 13 = .ok (.iload_n 0, 1) := by decide +kernel
theorem dX3_sortOf_14 : decode cX3_sortOf 14 = .ok (.bipush 57, 2) := by decide +kernel
theorem dX3_sortOf_16 : decode cX3_sortOf 16 = .ok (.if_icmp .gt 5, 3) := by decide +kernel
theorem dX3_sortOf_19 : decode cX3_sortOf 19 = .ok (.iconst 2, 1) := by decide +kernel
theorem dX3_sortOf_20 : decode cX3_sortOf 20 = .ok (.ireturn, 1) := by decide +kernel
theorem dX3_sortOf_21 : decode cX3_sortOf 21 = .ok (.iload_n 0, 1) := by decide +kernel
theorem dX3_sortOf_22 : decode cX3_sortOf 22 = .ok (.bipush 97, 2) := by decide +kernel
theorem dX3_sortOf_24 : decode cX3_sortOf 24 = .ok (.if_icmp .lt 9, 3) := by decide +kernel
theorem dX3_sortOf_27 : decode cX3_sortOf 27 = .ok (.iload_n 0, 1) := by decide +kernel
theorem dX3_sortOf_28 : decode cX3_sortOf 28 = .ok (.bipush 122, 2) := by decide +kernel
theorem dX3_sortOf_30 : decode cX3_sortOf 30 = .ok (.if_icmp .le 15, 3) := by decide +kernel
theorem dX3_sortOf_33 : decode cX3_sortOf 33 = .ok (.iload_n 0, 1) := by decide +kernel
theorem dX3_sortOf_34 : decode cX3_sortOf 34 = .ok (.bipush 65, 2) := by decide +kernel
theorem dX3_sortOf_36 : decode cX3_sortOf 36 = .ok (.if_icmp .lt 13, 3) := by decide +kernel
theorem dX3_sortOf_39 : decode cX3_sortOf 39 = .ok (.iload_n 0, 1) := by decide +kernel
theorem dX3_sortOf_40 : decode cX3_sortOf 40 = .ok (.bipush 90, 2) := by decide +kernel
theorem dX3_sortOf_42 : decode cX3_sortOf 42 = .ok (.if_icmp .gt 7, 3) := by decide +kernel
theorem dX3_sortOf_45 : decode cX3_sortOf 45 = .ok (.iconst 1, 1) := by decide +kernel
theorem dX3_sortOf_46 : decode cX3_sortOf 46 = .ok (.goto 4, 3) := by decide +kernel
theorem dX3_sortOf_49 : decode cX3_sortOf 49 = .ok (.iconst 0, 1) := by decide +kernel
theorem dX3_sortOf_50 : decode cX3_sortOf 50 = .ok (.istore_n 1, 1) := by decide +kernel
theorem dX3_sortOf_51 : decode cX3_sortOf 51 = .ok (.iload_n 1, 1) := by decide +kernel
theorem dX3_sortOf_52 : decode cX3_sortOf 52 = .ok (.ifCond .eq 7, 3) := by decide +kernel
theorem dX3_sortOf_55 : decode cX3_sortOf 55 = .ok (.iconst 1, 1) := by decide +kernel
theorem dX3_sortOf_56 : decode cX3_sortOf 56 = .ok (.goto 4, 3) := by decide +kernel
theorem dX3_sortOf_59 : decode cX3_sortOf 59 = .ok (.iconst 3, 1) := by decide +kernel
theorem dX3_sortOf_60 : decode cX3_sortOf 60 = .ok (.ireturn, 1) := by decide +kernel
set_option maxRecDepth 20000 in
theorem ggX4_init_X2_init : GoodIn wsX4_init wsX2_init := goodIn_r _ [13, 14, 2, 3, 4, 15, 16, 23, 24, 25] (by decide +kernel) (by decide +kernel)
set_option maxRecDepth 20000 in
theorem gX4_init_X2_init_n23 : GoodIn wsX4_init (wsX2_init) := ggX4_init_X2_init
theorem dX4_init_0 : decode cX4_init 0 = .ok (.aload_n 0, 1) := by decide +kernel
theorem dX4_init_1 : decode cX4_init 1 = .ok (.invokespecial 3, 3) := by decide +kernel
theorem dX4_init_4 : decode cX4_init 4 = .ok (.aload_n 0, 1) := by decide +kernel
theorem dX4_init_5 : decode cX4_init 5 = .ok (.bipush 13, 2) := by decide +kernel
theorem dX4_init_7 : decode cX4_init 7 = .ok (.newarray .int, 2) := by decide +kernel
theorem dX4_init_9 : decode cX4_init 9 = .ok (.putfield 9, 3) := by decide +kernel
theorem dX4_init_12 : decode cX4_init 12 = .ok (.aload_n 0, 1) := by decide +kernel
theorem dX4_init_13 : decode cX4_init 13 = .ok (.sipush 520, 3) := by decide +kernel
theorem dX4_init_16 : decode cX4_init 16 = .ok (.newarray .int, 2) := by decide +kernel
theorem dX4_init_18 : decode cX4_init 18 = .ok (.putfield 15, 3) := by decide +kernel
theorem dX4_init_21 : decode cX4_init 21 = .ok (.aload_n 0, 1) := by decide +kernel
theorem dX4_init_22 : decode cX4_init 22 = .ok (.sipush 520, 3) := by decide +kernel
theorem dX4_init_25 : decode cX4_init 25 = .ok (.newarray .int, 2) := by decide +kernel
theorem dX4_init_27 : decode cX4_init 27 = .ok (.putfield 18, 3) := by decide +kernel
theorem dX4_init_30 : decode cX4_init 30 = .ok (.aload_n 0, 1) := by decide +kernel
theorem dX4_init_31 : decode cX4_init 31 = .ok (.new 21, 3) := by decide +kernel
theorem dX4_init_34 : decode cX4_init 34 = .ok (.dup, 1) := by decide +kernel
theorem dX4_init_35 : decode cX4_init 35 = .ok (.invokespecial 23, 3) := by decide +kernel
theorem dX4_init_38 : decode cX4_init 38 = .ok (.putfield 24, 3) := by decide +kernel
theorem dX4_init_41 : decode cX4_init 41 = .ok (.return_, 1) := by decide +kernel
theorem dX4_forget_0 : decode cX4_forget 0 = .ok (.aload_n 0, 1) := by decide +kernel
theorem dX4_forget_1 : decode cX4_forget 1 = .ok (.iconst 0, 1) := by decide +kernel
theorem dX4_forget_2 : decode cX4_forget 2 = .ok (.putfield 28, 3) := by decide +kernel
theorem dX4_forget_5 : decode cX4_forget 5 = .ok (.aload_n 0, 1) := by decide +kernel
theorem dX4_forget_6 : decode cX4_forget 6 = .ok (.iconst 0, 1) := by decide +kernel
theorem dX4_forget_7 : decode cX4_forget 7 = .ok (.putfield 32, 3) := by decide +kernel
theorem dX4_forget_10 : decode cX4_forget 10 = .ok (.return_, 1) := by decide +kernel
set_option maxRecDepth 20000 in
theorem ggX4_reach_X4_addOutputs : GoodIn wsX4_reach wsX4_addOutputs := goodIn_r _ [11, 12, 4, 13, 14, 15, 16, 17, 18, 19, 20, 21, 22, 23, 24, 25, 26, 27, 28, 29, 30, 31, 32, 33, 34, 35, 36, 37, 38, 39, 40, 41, 42, 43, 44, 45, 46, 47, 48, 49, 112, 113, 114, 115, 116, 117, 118, 119, 120, 121, 122, 103, 104, 105, 106, 107, 108, 109, 110, 111] (by decide +kernel) (by decide +kernel)
set_option maxRecDepth 20000 in
theorem gX4_reach_X4_addOutputs : GoodIn wsX4_reach (wsV RX4 39 RX4 yX4_addOutputs wsX4_addOutputs) := goodIn_app (goodIn_of _ (by decide +kernel)) ggX4_reach_X4_addOutputs
set_option maxRecDepth 20000 in
theorem ggX4_reach_X4_takeTask : GoodIn wsX4_reach wsX4_takeTask := goodIn_r _ [53, 54, 55, 56, 4, 57, 58, 22, 20, 23, 19, 21, 24, 25, 26, 27, 28, 29, 30, 31, 32, 33, 34, 35, 36, 37, 38, 39, 40, 41, 42, 43, 44, 45, 46, 47, 48, 49, 112, 113, 114, 115, 116, 117, 118, 119, 120, 121, 122, 103, 104, 105, 106, 107, 108, 109, 110, 111] (by decide +kernel) (by decide +kernel)
set_option maxRecDepth 20000 in
theorem gX4_reach_X4_takeTask : GoodIn wsX4_reach (wsV RX4 43 RX4 yX4_takeTask wsX4_takeTask) := goodIn_app (goodIn_of _ (by decide +kernel)) ggX4_reach_X4_takeTask
set_option maxRecDepth 20000 in
theorem ggX4_reach_X4_replaceGate : GoodIn wsX4_reach wsX4_replaceGate := goodIn_r _ [62, 63, 4, 64, 65, 66, 67, 22, 20, 23, 68, 69, 70, 16, 71, 72, 19, 21, 73, 74, 75, 76, 77, 78, 79, 80, 81, 82, 83, 84, 85, 10, 86, 1, 2, 87, 88, 89, 90, 91, 92, 93, 94, 95, 96, 24, 25, 26, 27, 28, 29, 30, 31, 32, 33, 34, 35, 36, 37, 38, 39, 40, 41, 42, 43, 44, 45, 46, 47, 48, 49, 112, 113, 114, 115, 116, 117, 118, 119, 120, 121, 122, 103, 104, 105, 106, 107, 108, 109, 110, 111] (by decide +kernel) (by decide +kernel)
set_option maxRecDepth 20000 in
theorem gX4_reach_X4_replaceGate : GoodIn wsX4_reach (wsV RX4 51 RX4 yX4_replaceGate wsX4_replaceGate) := goodIn_app (goodIn_of _ (by decide +kernel)) ggX4_reach_X4_replaceGate
set_option maxRecDepth 20000 in
theorem ggX4_reach_X4_keep : GoodIn wsX4_reach wsX4_keep := goodIn_r _ [100, 4, 5, 3, 2, 91, 101, 96, 102, 1, 44, 20, 45, 19, 21, 103, 104, 105, 106, 107, 108, 109, 110, 111] (by decide +kernel) (by decide +kernel)
set_option maxRecDepth 20000 in
theorem gX4_reach_X4_keep : GoodIn wsX4_reach (wsV RX4 55 RX4 yX4_keep wsX4_keep) := goodIn_app (goodIn_of _ (by decide +kernel)) ggX4_reach_X4_keep
theorem dX4_reach_0 : decode cX4_reach 0 = .ok (.aload_n 0, 1) := by decide +kernel
theorem dX4_reach_1 : decode cX4_reach 1 = .ok (.getfield 28, 3) := by decide +kernel
theorem dX4_reach_4 : decode cX4_reach 4 = .ok (.istore_n 3, 1) := by decide +kernel
theorem dX4_reach_5 : decode cX4_reach 5 = .ok (.iload_n 3, 1) := by decide +kernel
theorem dX4_reach_6 : decode cX4_reach 6 = .ok (.iload_n 2, 1) := by decide +kernel
theorem dX4_reach_7 : decode cX4_reach 7 = .ok (.if_icmp .gt 69, 3) := by decide +kernel
theorem dX4_reach_10 : decode cX4_reach 10 = .ok (.iload_n 3, 1) := by decide +kernel
theorem dX4_reach_11 : decode cX4_reach 11 = .ok (.aload_n 0, 1) := by decide +kernel
theorem dX4_reach_12 : decode cX4_reach 12 = .ok (.getfield 9, 3) := by decide +kernel
theorem dX4_reach_15 : decode cX4_reach 15 = .ok (.arraylength, 1) := by decide +kernel
theorem dX4_reach_16 : decode cX4_reach 16 = .ok (.if_icmp .ge 60, 3) := by decide +kernel
theorem dX4_reach_19 : decode cX4_reach 19 = .ok (.aload_n 0, 1) := by decide +kernel
theorem dX4_reach_20 : decode cX4_reach 20 = .ok (.getfield 32, 3) := by decide +kernel
theorem dX4_reach_23 : decode cX4_reach 23 = .ok (.ifCond .ne 53, 3) := by decide +kernel
theorem dX4_reach_26 : decode cX4_reach 26 = .ok (.aload_n 0, 1) := by decide +kernel
theorem dX4_reach_27 : decode cX4_reach 27 = .ok (.getfield 24, 3) := by decide +kernel
theorem dX4_reach_30 : decode cX4_reach 30 = .ok (.iconst 0, 1) := by decide +kernel
theorem dX4_reach_31 : decode cX4_reach 31 = .ok (.putfield 36, 3) := by decide +kernel
theorem dX4_reach_34 : decode cX4_reach 34 = .ok (.iload_n 3, 1) := by decide +kernel
theorem dX4_reach_35 : decode cX4_reach 35 = .ok (.ifCond .ne 16, 3) := by decide +kernel
theorem dX4_reach_38 : decode cX4_reach 38 = .ok (.aload_n 0, 1) := by decide +kernel
theorem dX4_reach_39 : decode cX4_reach 39 = .ok (.aload_n 1, 1) := by decide +kernel
theorem dX4_reach_40 : decode cX4_reach 40 = .ok (.invokevirtual 39, 3) := by decide +kernel
theorem dX4_reach_43 : decode cX4_reach 43 = .ok (.aload_n 0, 1) := by decide +kernel
theorem dX4_reach_44 : decode cX4_reach 44 = .ok (.aload_n 1, 1) := by decide +kernel
theorem dX4_reach_45 : decode cX4_reach 45 = .ok (.invokevirtual 43, 3) := by decide +kernel
theorem dX4_reach_48 : decode cX4_reach 48 = .ok (.goto 17, 3) := by decide +kernel
theorem dX4_reach_51 : decode cX4_reach 51 = .ok (.aload_n 0, 1) := by decide +kernel
theorem dX4_reach_52 : decode cX4_reach 52 = .ok (.aload_n 1, 1) := by decide +kernel
theorem dX4_reach_53 : decode cX4_reach 53 = .ok (.iload_n 3, 1) := by decide +kernel
theorem dX4_reach_54 : decode cX4_reach 54 = .ok (.iconst 1, 1) := by decide +kernel
theorem dX4_reach_55 : decode cX4_reach 55 = .ok (.isub, 1) := by decide +kernel
theorem dX4_reach_56 : decode cX4_reach 56 = .ok (.aload_n 1, 1) := by decide +kernel
theorem dX4_reach_57 : decode cX4_reach 57 = .ok (.getfield 46, 3) := by decide +kernel
theorem dX4_reach_60 : decode cX4_reach 60 = .ok (.iload_n 3, 1) := by decide +kernel
theorem dX4_reach_61 : decode cX4_reach 61 = .ok (.isub, 1) := by decide +kernel
theorem dX4_reach_62 : decode cX4_reach 62 = .ok (.invokevirtual 51, 3) := by decide +kernel
theorem dX4_reach_65 : decode cX4_reach 65 = .ok (.aload_n 0, 1) := by decide +kernel
theorem dX4_reach_66 : decode cX4_reach 66 = .ok (.iload_n 3, 1) := by decide +kernel
theorem dX4_reach_67 : decode cX4_reach 67 = .ok (.invokevirtual 55, 3) := by decide +kernel
theorem dX4_reach_70 : decode cX4_reach 70 = .ok (.iinc 3 1, 3) := by decide +kernel
theorem dX4_reach_73 : decode cX4_reach 73 = .ok (.goto (-68), 3) := by decide +kernel
theorem dX4_reach_76 : decode cX4_reach 76 = .ok (.iload_n 2, 1) := by decide +kernel
theorem dX4_reach_77 : decode cX4_reach 77 = .ok (.aload_n 0, 1) := by decide +kernel
theorem dX4_reach_78 : decode cX4_reach 78 = .ok (.getfield 28, 3) := by decide +kernel
theorem dX4_reach_81 : decode cX4_reach 81 = .ok (.if_icmp .ge 7, 3) := by decide +kernel
theorem dX4_reach_84 : decode cX4_reach 84 = .ok (.iconst 1, 1) := by decide +kernel
theorem dX4_reach_85 : decode cX4_reach 85 = .ok (.goto 4, 3) := by decide +kernel
theorem dX4_reach_88 : decode cX4_reach 88 = .ok (.iconst 0, 1) := by decide +kernel
theorem dX4_reach_89 : decode cX4_reach 89 = .ok (.ireturn, 1) := by decide +kernel
set_option maxRecDepth 20000 in
theorem ggX4_keep_X6_put : GoodIn wsX4_keep wsX6_put := goodIn_r _ [12] (by decide +kernel) (by decide +kernel)
set_option maxRecDepth 20000 in
theorem gX4_keep_X6_put_n59 : GoodIn wsX4_keep (wsX6_put) := ggX4_keep_X6_put
set_option maxRecDepth 20000 in
theorem ggX4_keep_X6_at : GoodIn wsX4_keep wsX6_at := goodIn_r _ [14] (by decide +kernel) (by decide +kernel)
set_option maxRecDepth 20000 in
theorem gX4_keep_X6_at_n64 : GoodIn wsX4_keep (wsX6_at) := ggX4_keep_X6_at
theorem dX4_keep_0 : decode cX4_keep 0 = .ok (.aload_n 0, 1) := by decide +kernel
theorem dX4_keep_1 : decode cX4_keep 1 = .ok (.getfield 24, 3) := by decide +kernel
theorem dX4_keep_4 : decode cX4_keep 4 = .ok (.getfield 36, 3) := by decide +kernel
theorem dX4_keep_7 : decode cX4_keep 7 = .ok (.bipush 40, 2) := by decide +kernel
theorem dX4_keep_9 : decode cX4_keep 9 = .ok (.if_icmp .le 9, 3) := by decide +kernel
theorem dX4_keep_12 : decode cX4_keep 12 = .ok (.aload_n 0, 1) := by decide +kernel
theorem dX4_keep_13 : decode cX4_keep 13 = .ok (.iconst 1, 1) := by decide +kernel
theorem dX4_keep_14 : decode cX4_keep 14 = .ok (.putfield 32, 3) := by decide +kernel
theorem dX4_keep_17 : decode cX4_keep 17 = .ok (.return_, 1) := by decide +kernel
theorem dX4_keep_18 : decode cX4_keep 18 = .ok (.aload_n 0, 1) := by decide +kernel
theorem dX4_keep_19 : decode cX4_keep 19 = .ok (.getfield 9, 3) := by decide +kernel
theorem dX4_keep_22 : decode cX4_keep 22 = .ok (.iload_n 1, 1) := by decide +kernel
theorem dX4_keep_23 : decode cX4_keep 23 = .ok (.aload_n 0, 1) := by decide +kernel
theorem dX4_keep_24 : decode cX4_keep 24 = .ok (.getfield 24, 3) := by decide +kernel
theorem dX4_keep_27 : decode cX4_keep 27 = .ok (.getfield 36, 3) := by decide +kernel
theorem dX4_keep_30 : decode cX4_keep 30 = .ok (.invokestatic 59, 3) := by decide +kernel
theorem dX4_keep_33 : decode cX4_keep 33 = .ok (.iconst 0, 1) := by decide +kernel
theorem dX4_keep_34 : decode cX4_keep 34 = .ok (.istore_n 2, 1) := by decide +kernel
theorem dX4_keep_35 : decode cX4_keep 35 = .ok (.iload_n 2, 1) := by decide +kernel
theorem dX4_keep_36 : decode cX4_keep 36 = .ok (.aload_n 0, 1) := by decide +kernel
theorem dX4_keep_37 : decode cX4_keep 37 = .ok (.getfield 24, 3) := by decide +kernel
theorem dX4_keep_40 : decode cX4_keep 40 = .ok (.getfield 36, 3) := by decide +kernel
theorem dX4_keep_43 : decode cX4_keep 43 = .ok (.if_icmp .ge 57, 3) := by decide +kernel
theorem dX4_keep_46 : decode cX4_keep 46 = .ok (.aload_n 0, 1) := by decide +kernel
theorem dX4_keep_47 : decode cX4_keep 47 = .ok (.getfield 15, 3) := by decide +kernel
theorem dX4_keep_50 : decode cX4_keep 50 = .ok (.iload_n 1, 1) := by decide +kernel
theorem dX4_keep_51 : decode cX4_keep 51 = .ok (.bipush 40, 2) := by decide +kernel
theorem dX4_keep_53 : decode cX4_keep 53 = .ok (.imul, 1) := by decide +kernel
theorem dX4_keep_54 : decode cX4_keep 54 = .ok (.iload_n 2, 1) := by decide +kernel
theorem dX4_keep_55 : decode cX4_keep 55 = .ok (.iadd, 1) := by decide +kernel
theorem dX4_keep_56 : decode cX4_keep 56 = .ok (.aload_n 0, 1) := by decide +kernel
theorem dX4_keep_57 : decode cX4_keep 57 = .ok (.getfield 24, 3) := by decide +kernel
theorem dX4_keep_60 : decode cX4_keep 60 = .ok (.getfield 63, 3) := by decide +kernel
theorem dX4_keep_63 : decode cX4_keep 63 = .ok (.iload_n 2, 1) := by decide +kernel
theorem dX4_keep_64 : decode cX4_keep 64 = .ok (.invokestatic 64, 3) := by decide +kernel
theorem dX4_keep_67 : decode cX4_keep 67 = .ok (.invokestatic 59, 3) := by decide +kernel
theorem dX4_keep_70 : decode cX4_keep 70 = .ok (.aload_n 0, 1) := by decide +kernel
theorem dX4_keep_71 : decode cX4_keep 71 = .ok (.getfield 18, 3) := by decide +kernel
theorem dX4_keep_74 : decode cX4_keep 74 = .ok (.iload_n 1, 1) := by decide +kernel
theorem dX4_keep_75 : decode cX4_keep 75 = .ok (.bipush 40, 2) := by decide +kernel
theorem dX4_keep_77 : decode cX4_keep 77 = .ok (.imul, 1) := by decide +kernel
theorem dX4_keep_78 : decode cX4_keep 78 = .ok (.iload_n 2, 1) := by decide +kernel
theorem dX4_keep_79 : decode cX4_keep 79 = .ok (.iadd, 1) := by decide +kernel
theorem dX4_keep_80 : decode cX4_keep 80 = .ok (.aload_n 0, 1) := by decide +kernel
theorem dX4_keep_81 : decode cX4_keep 81 = .ok (.getfield 24, 3) := by decide +kernel
theorem dX4_keep_84 : decode cX4_keep 84 = .ok (.getfield 68, 3) := by decide +kernel
theorem dX4_keep_87 : decode cX4_keep 87 = .ok (.iload_n 2, 1) := by decide +kernel
theorem dX4_keep_88 : decode cX4_keep 88 = .ok (.invokestatic 64, 3) := by decide +kernel
theorem dX4_keep_91 : decode cX4_keep 91 = .ok (.invokestatic 59, 3) := by decide +kernel
theorem dX4_keep_94 : decode cX4_keep 94 = .ok (.iinc 2 1, 3) := by decide +kernel
theorem dX4_keep_97 : decode cX4_keep 97 = .ok (.goto (-62), 3) := by decide +kernel
theorem dX4_keep_100 : decode cX4_keep 100 = .ok (.aload_n 0, 1) := by decide +kernel
theorem dX4_keep_101 : decode cX4_keep 101 = .ok (.iload_n 1, 1) := by decide +kernel
theorem dX4_keep_102 : decode cX4_keep 102 = .ok (.iconst 1, 1) := by decide +kernel
theorem dX4_keep_103 : decode cX4_keep 103 = .ok (.iadd, 1) := by decide +kernel
theorem dX4_keep_104 : decode cX4_keep 104 = .ok (.putfield 28, 3) := by decide +kernel
theorem dX4_keep_107 : decode cX4_keep 107 = .ok (.return_, 1) := by decide +kernel
set_option maxRecDepth 20000 in
theorem ggX4_addOutputs_X0_outputAt : GoodIn wsX4_addOutputs wsX0_outputAt := goodIn_r _ [7, 8, 9, 10, 11, 40, 41, 42, 43, 44, 45, 46, 47, 48, 49, 50] (by decide +kernel) (by decide +kernel)
set_option maxRecDepth 20000 in
theorem gX4_addOutputs_X0_outputAt : GoodIn wsX4_addOutputs (wsV RX4 72 RX0 yX0_outputAt wsX0_outputAt) := goodIn_app (goodIn_of _ (by decide +kernel)) ggX4_addOutputs_X0_outputAt
set_option maxRecDepth 20000 in
theorem ggX4_addOutputs_X6_setOf : GoodIn wsX4_addOutputs wsX6_setOf := goodIn_r _ [13] (by decide +kernel) (by decide +kernel)
set_option maxRecDepth 20000 in
theorem gX4_addOutputs_X6_setOf_n76 : GoodIn wsX4_addOutputs (wsX6_setOf) := ggX4_addOutputs_X6_setOf
set_option maxRecDepth 20000 in
theorem ggX4_addOutputs_X2_add : GoodIn wsX4_addOutputs wsX2_add := goodIn_r _ [18, 19, 20, 21, 22, 23, 24, 17, 25, 9, 10, 11, 26, 27, 28, 29, 30, 31, 32, 33, 34, 35, 36, 37, 38, 39, 57, 58, 59] (by decide +kernel) (by decide +kernel)
set_option maxRecDepth 20000 in
theorem gX4_addOutputs_X2_add : GoodIn wsX4_addOutputs (wsV RX4 79 RX2 yX2_add wsX2_add) := goodIn_app (goodIn_of _ (by decide +kernel)) ggX4_addOutputs_X2_add
theorem dX4_addOutputs_0 : decode cX4_addOutputs 0 = .ok (.iconst 0, 1) := by decide +kernel
theorem dX4_addOutputs_1 : decode cX4_addOutputs 1 = .ok (.istore_n 2, 1) := by decide +kernel
theorem dX4_addOutputs_2 : decode cX4_addOutputs 2 = .ok (.iload_n 2, 1) := by decide +kernel
theorem dX4_addOutputs_3 : decode cX4_addOutputs 3 = .ok (.aload_n 1, 1) := by decide +kernel
theorem dX4_addOutputs_4 : decode cX4_addOutputs 4 = .ok (.getfield 69, 3) := by decide +kernel
theorem dX4_addOutputs_7 : decode cX4_addOutputs 7 = .ok (.if_icmp .ge 27, 3) := by decide +kernel
theorem dX4_addOutputs_10 : decode cX4_addOutputs 10 = .ok (.aload_n 0, 1) := by decide +kernel
theorem dX4_addOutputs_11 : decode cX4_addOutputs 11 = .ok (.getfield 24, 3) := by decide +kernel
theorem dX4_addOutputs_14 : decode cX4_addOutputs 14 = .ok (.aload_n 1, 1) := by decide +kernel
theorem dX4_addOutputs_15 : decode cX4_addOutputs 15 = .ok (.iload_n 2, 1) := by decide +kernel
theorem dX4_addOutputs_16 : decode cX4_addOutputs 16 = .ok (.invokevirtual 72, 3) := by decide +kernel
theorem dX4_addOutputs_19 : decode cX4_addOutputs 19 = .ok (.invokestatic 76, 3) := by decide +kernel
theorem dX4_addOutputs_22 : decode cX4_addOutputs 22 = .ok (.iconst 1, 1) := by decide +kernel
theorem dX4_addOutputs_23 : decode cX4_addOutputs 23 = .ok (.iload_n 2, 1) := by decide +kernel
theorem dX4_addOutputs_24 : decode cX4_addOutputs 24 = .ok (.ishl, 1) := by decide +kernel
theorem dX4_addOutputs_25 : decode cX4_addOutputs 25 = .ok (.invokevirtual 79, 3) := by decide +kernel
theorem dX4_addOutputs_28 : decode cX4_addOutputs 28 = .ok (.iinc 2 1, 3) := by decide +kernel
theorem dX4_addOutputs_31 : decode cX4_addOutputs 31 = .ok (.goto (-29), 3) := by decide +kernel
theorem dX4_addOutputs_34 : decode cX4_addOutputs 34 = .ok (.return_, 1) := by decide +kernel
set_option maxRecDepth 20000 in
theorem ggX4_takeTask_X6_setOf : GoodIn wsX4_takeTask wsX6_setOf := goodIn_r _ [9] (by decide +kernel) (by decide +kernel)
set_option maxRecDepth 20000 in
theorem gX4_takeTask_X6_setOf_n76 : GoodIn wsX4_takeTask (wsX6_setOf) := ggX4_takeTask_X6_setOf
set_option maxRecDepth 20000 in
theorem ggX4_takeTask_X6_at : GoodIn wsX4_takeTask wsX6_at := goodIn_r _ [11] (by decide +kernel) (by decide +kernel)
set_option maxRecDepth 20000 in
theorem gX4_takeTask_X6_at_n64 : GoodIn wsX4_takeTask (wsX6_at) := ggX4_takeTask_X6_at
set_option maxRecDepth 20000 in
theorem ggX4_takeTask_X2_add : GoodIn wsX4_takeTask wsX2_add := goodIn_r _ [16, 17, 18, 19, 20, 21, 22, 15, 23, 10, 8, 11, 24, 25, 26, 27, 28, 29, 30, 31, 32, 33, 34, 35, 36, 37, 55, 56, 57] (by decide +kernel) (by decide +kernel)
set_option maxRecDepth 20000 in
theorem gX4_takeTask_X2_add : GoodIn wsX4_takeTask (wsV RX4 79 RX2 yX2_add wsX2_add) := goodIn_app (goodIn_of _ (by decide +kernel)) ggX4_takeTask_X2_add
theorem dX4_takeTask_0 : decode cX4_takeTask 0 = .ok (.aload_n 1, 1) := by decide +kernel
theorem dX4_takeTask_1 : decode cX4_takeTask 1 = .ok (.getfield 83, 3) := by decide +kernel
theorem dX4_takeTask_4 : decode cX4_takeTask 4 = .ok (.istore_n 2, 1) := by decide +kernel
theorem dX4_takeTask_5 : decode cX4_takeTask 5 = .ok (.aload_n 1, 1) := by decide +kernel
theorem dX4_takeTask_6 : decode cX4_takeTask 6 = .ok (.getfield 86, 3) := by decide +kernel
theorem dX4_takeTask_9 : decode cX4_takeTask 9 = .ok (.iconst 1, 1) := by decide +kernel
theorem dX4_takeTask_10 : decode cX4_takeTask 10 = .ok (.if_icmp .ne 7, 3) := by decide +kernel
theorem dX4_takeTask_13 : decode cX4_takeTask 13 = .ok (.iload_n 2, 1) := by decide +kernel
theorem dX4_takeTask_14 : decode cX4_takeTask 14 = .ok (.goto 4, 3) := by decide +kernel
theorem dX4_takeTask_17 : decode cX4_takeTask 17 = .ok (.iconst 0, 1) := by decide +kernel
theorem dX4_takeTask_18 : decode cX4_takeTask 18 = .ok (.istore_n 3, 1) := by decide +kernel
theorem dX4_takeTask_19 : decode cX4_takeTask 19 = .ok (.aload_n 1, 1) := by decide +kernel
theorem dX4_takeTask_20 : decode cX4_takeTask 20 = .ok (.getfield 86, 3) := by decide +kernel
theorem dX4_takeTask_23 : decode cX4_takeTask 23 = .ok (.iconst 1, 1) := by decide +kernel
theorem dX4_takeTask_24 : decode cX4_takeTask 24 = .ok (.if_icmp .ne 10, 3) := by decide +kernel
theorem dX4_takeTask_27 : decode cX4_takeTask 27 = .ok (.aload_n 1, 1) := by decide +kernel
theorem dX4_takeTask_28 : decode cX4_takeTask 28 = .ok (.getfield 89, 3) := by decide +kernel
theorem dX4_takeTask_31 : decode cX4_takeTask 31 = .ok (.goto 16, 3) := by decide +kernel
theorem dX4_takeTask_34 : decode cX4_takeTask 34 = .ok (.aload_n 1, 1) := by decide +kernel
theorem dX4_takeTask_35 : decode cX4_takeTask 35 = .ok (.getfield 86, 3) := by decide +kernel
theorem dX4_takeTask_38 : decode cX4_takeTask 38 = .ok (.iconst 2, 1) := by decide +kernel
theorem dX4_takeTask_39 : decode cX4_takeTask 39 = .ok (.if_icmp .ne 7, 3) := by decide +kernel
theorem dX4_takeTask_42 : decode cX4_takeTask 42 = .ok (.iload_n 2, 1) := by decide +kernel
theorem dX4_takeTask_43 : decode cX4_takeTask 43 = .ok (.goto 4, 3) := by decide +kernel
theorem dX4_takeTask_46 : decode cX4_takeTask 46 = .ok (.iconst 0, 1) := by decide +kernel
theorem dX4_takeTask_47 : decode cX4_takeTask 47 = .ok (.istore 4, 2) := by decide +kernel
theorem dX4_takeTask_49 : decode cX4_takeTask 49 = .ok (.iconst 0, 1) := by decide +kernel
theorem dX4_takeTask_50 : decode cX4_takeTask 50 = .ok (.istore 5, 2) := by decide +kernel
theorem dX4_takeTask_52 : decode cX4_takeTask 52 = .ok (.iload 5, 2) := by decide +kernel
theorem dX4_takeTask_54 : decode cX4_takeTask 54 = .ok (.iload_n 2, 1) := by decide +kernel
theorem dX4_takeTask_55 : decode cX4_takeTask 55 = .ok (.if_icmp .ge 81, 3) := by decide +kernel
theorem dX4_takeTask_58 : decode cX4_takeTask 58 = .ok (.aload_n 0, 1) := by decide +kernel
theorem dX4_takeTask_59 : decode cX4_takeTask 59 = .ok (.getfield 24, 3) := by decide +kernel
theorem dX4_takeTask_62 : decode cX4_takeTask 62 = .ok (.iload 5, 2) := by decide +kernel
theorem dX4_takeTask_64 : decode cX4_takeTask 64 = .ok (.invokestatic 76, 3) := by decide +kernel
theorem dX4_takeTask_67 : decode cX4_takeTask 67 = .ok (.getstatic 92, 3) := by decide +kernel
theorem dX4_takeTask_70 : decode cX4_takeTask 70 = .ok (.aload_n 1, 1) := by decide +kernel
theorem dX4_takeTask_71 : decode cX4_takeTask 71 = .ok (.getfield 86, 3) := by decide +kernel
theorem dX4_takeTask_74 : decode cX4_takeTask 74 = .ok (.invokestatic 64, 3) := by decide +kernel
theorem dX4_takeTask_77 : decode cX4_takeTask 77 = .ok (.ineg, 1) := by decide +kernel
theorem dX4_takeTask_78 : decode cX4_takeTask 78 = .ok (.iconst 1, 1) := by decide +kernel
theorem dX4_takeTask_79 : decode cX4_takeTask 79 = .ok (.iload 5, 2) := by decide +kernel
theorem dX4_takeTask_81 : decode cX4_takeTask 81 = .ok (.ishl, 1) := by decide +kernel
theorem dX4_takeTask_82 : decode cX4_takeTask 82 = .ok (.imul, 1) := by decide +kernel
theorem dX4_takeTask_83 : decode cX4_takeTask 83 = .ok (.invokevirtual 79, 3) := by decide +kernel
theorem dX4_takeTask_86 : decode cX4_takeTask 86 = .ok (.iconst 0, 1) := by decide +kernel
theorem dX4_takeTask_87 : decode cX4_takeTask 87 = .ok (.istore 6, 2) := by decide +kernel
theorem dX4_takeTask_89 : decode cX4_takeTask 89 = .ok (.iload 6, 2) := by decide +kernel
theorem dX4_takeTask_91 : decode cX4_takeTask 91 = .ok (.iload 4, 2) := by decide +kernel
theorem dX4_takeTask_93 : decode cX4_takeTask 93 = .ok (.if_icmp .ge 37, 3) := by decide +kernel
theorem dX4_takeTask_96 : decode cX4_takeTask 96 = .ok (.aload_n 0, 1) := by decide +kernel
theorem dX4_takeTask_97 : decode cX4_takeTask 97 = .ok (.getfield 24, 3) := by decide +kernel
theorem dX4_takeTask_100 : decode cX4_takeTask 100 = .ok (.iload 5, 2) := by decide +kernel
theorem dX4_takeTask_102 : decode cX4_takeTask 102 = .ok (.invokestatic 76, 3) := by decide +kernel
theorem dX4_takeTask_105 : decode cX4_takeTask 105 = .ok (.iload_n 3, 1) := by decide +kernel
theorem dX4_takeTask_106 : decode cX4_takeTask 106 = .ok (.iload 6, 2) := by decide +kernel
theorem dX4_takeTask_108 : decode cX4_takeTask 108 = .ok (.iadd, 1) := by decide +kernel
theorem dX4_takeTask_109 : decode cX4_takeTask 109 = .ok (.invokestatic 76, 3) := by decide +kernel
theorem dX4_takeTask_112 : decode cX4_takeTask 112 = .ok (.ior, 1) := by decide +kernel
theorem dX4_takeTask_113 : decode cX4_takeTask 113 = .ok (.iconst 1, 1) := by decide +kernel
theorem dX4_takeTask_114 : decode cX4_takeTask 114 = .ok (.iload 5, 2) := by decide +kernel
theorem dX4_takeTask_116 : decode cX4_takeTask 116 = .ok (.iload 6, 2) := by decide +kernel
theorem dX4_takeTask_118 : decode cX4_takeTask 118 = .ok (.iadd, 1) := by decide +kernel
theorem dX4_takeTask_119 : decode cX4_takeTask 119 = .ok (.ishl, 1) := by decide +kernel
theorem dX4_takeTask_120 : decode cX4_takeTask 120 = .ok (.ineg, 1) := by decide +kernel
theorem dX4_takeTask_121 : decode cX4_takeTask 121 = .ok (.invokevirtual 79, 3) := by decide +kernel
theorem dX4_takeTask_124 : decode cX4_takeTask 124 = .ok (.iinc 6 1, 3) := by decide +kernel
theorem dX4_takeTask_127 : decode cX4_takeTask 127 = .ok (.goto (-38), 3) := by decide +kernel
theorem dX4_takeTask_130 : decode cX4_takeTask 130 = .ok (.iinc 5 1, 3) := by decide +kernel
theorem dX4_takeTask_133 : decode cX4_takeTask 133 = .ok (.goto (-81), 3) := by decide +kernel
theorem dX4_takeTask_136 : decode cX4_takeTask 136 = .ok (.iconst 0, 1) := by decide +kernel
theorem dX4_takeTask_137 : decode cX4_takeTask 137 = .ok (.istore 5, 2) := by decide +kernel
theorem dX4_takeTask_139 : decode cX4_takeTask 139 = .ok (.iload 5, 2) := by decide +kernel
theorem dX4_takeTask_141 : decode cX4_takeTask 141 = .ok (.aload_n 1, 1) := by decide +kernel
theorem dX4_takeTask_142 : decode cX4_takeTask 142 = .ok (.getfield 89, 3) := by decide +kernel
theorem dX4_takeTask_145 : decode cX4_takeTask 145 = .ok (.if_icmp .ge 39, 3) := by decide +kernel
theorem dX4_takeTask_148 : decode cX4_takeTask 148 = .ok (.aload_n 0, 1) := by decide +kernel
theorem dX4_takeTask_149 : decode cX4_takeTask 149 = .ok (.getfield 24, 3) := by decide +kernel
theorem dX4_takeTask_152 : decode cX4_takeTask 152 = .ok (.iload_n 2, 1) := by decide +kernel
theorem dX4_takeTask_153 : decode cX4_takeTask 153 = .ok (.iload 5, 2) := by decide +kernel
theorem dX4_takeTask_155 : decode cX4_takeTask 155 = .ok (.iadd, 1) := by decide +kernel
theorem dX4_takeTask_156 : decode cX4_takeTask 156 = .ok (.invokestatic 76, 3) := by decide +kernel
theorem dX4_takeTask_159 : decode cX4_takeTask 159 = .ok (.getstatic 95, 3) := by decide +kernel
theorem dX4_takeTask_162 : decode cX4_takeTask 162 = .ok (.aload_n 1, 1) := by decide +kernel
theorem dX4_takeTask_163 : decode cX4_takeTask 163 = .ok (.getfield 86, 3) := by decide +kernel
theorem dX4_takeTask_166 : decode cX4_takeTask 166 = .ok (.invokestatic 64, 3) := by decide +kernel
theorem dX4_takeTask_169 : decode cX4_takeTask 169 = .ok (.ineg, 1) := by decide +kernel
theorem dX4_takeTask_170 : decode cX4_takeTask 170 = .ok (.iconst 1, 1) := by decide +kernel
theorem dX4_takeTask_171 : decode cX4_takeTask 171 = .ok (.iload 5, 2) := by decide +kernel
theorem dX4_takeTask_173 : decode cX4_takeTask 173 = .ok (.ishl, 1) := by decide +kernel
theorem dX4_takeTask_174 : decode cX4_takeTask 174 = .ok (.imul, 1) := by decide +kernel
theorem dX4_takeTask_175 : decode cX4_takeTask 175 = .ok (.invokevirtual 79, 3) := by decide +kernel
theorem dX4_takeTask_178 : decode cX4_takeTask 178 = .ok (.iinc 5 1, 3) := by decide +kernel
theorem dX4_takeTask_181 : decode cX4_takeTask 181 = .ok (.goto (-42), 3) := by decide +kernel
theorem dX4_takeTask_184 : decode cX4_takeTask 184 = .ok (.return_, 1) := by decide +kernel
set_option maxRecDepth 20000 in
theorem ggX4_replaceGate_X6_setOf : GoodIn wsX4_replaceGate wsX6_setOf := goodIn_r _ [9] (by decide +kernel) (by decide +kernel)
set_option maxRecDepth 20000 in
theorem gX4_replaceGate_X6_setOf_n76 : GoodIn wsX4_replaceGate (wsX6_setOf) := ggX4_replaceGate_X6_setOf
set_option maxRecDepth 20000 in
theorem ggX4_replaceGate_X0_xOf : GoodIn wsX4_replaceGate wsX0_xOf := goodIn_r _ [14, 15, 16, 8, 17, 71, 72, 73, 74, 75, 76, 77, 78, 79, 80, 81] (by decide +kernel) (by decide +kernel)
set_option maxRecDepth 20000 in
theorem gX4_replaceGate_X0_xOf : GoodIn wsX4_replaceGate (wsV RX4 101 RX0 yX0_xOf wsX0_xOf) := goodIn_app (goodIn_of _ (by decide +kernel)) ggX4_replaceGate_X0_xOf
set_option maxRecDepth 20000 in
theorem ggX4_replaceGate_X0_yOf : GoodIn wsX4_replaceGate wsX0_yOf := goodIn_r _ [21, 22, 16, 8, 17, 71, 72, 73, 74, 75, 76, 77, 78, 79, 80, 81] (by decide +kernel) (by decide +kernel)
set_option maxRecDepth 20000 in
theorem gX4_replaceGate_X0_yOf : GoodIn wsX4_replaceGate (wsV RX4 104 RX0 yX0_yOf wsX0_yOf) := goodIn_app (goodIn_of _ (by decide +kernel)) ggX4_replaceGate_X0_yOf
set_option maxRecDepth 20000 in
theorem ggX4_replaceGate_X0_kindOf : GoodIn wsX4_replaceGate wsX0_kindOf := goodIn_r _ [26, 27, 16, 8, 17, 71, 72, 73, 74, 75, 76, 77, 78, 79, 80, 81] (by decide +kernel) (by decide +kernel)
set_option maxRecDepth 20000 in
theorem gX4_replaceGate_X0_kindOf : GoodIn wsX4_replaceGate (wsV RX4 107 RX0 yX0_kindOf wsX0_kindOf) := goodIn_app (goodIn_of _ (by decide +kernel)) ggX4_replaceGate_X0_kindOf
set_option maxRecDepth 20000 in
theorem ggX4_replaceGate_X4_sizeOf : GoodIn wsX4_replaceGate wsX4_sizeOf := goodIn_r _ [32, 33, 34, 16, 8, 17, 82, 83, 84, 85, 86, 87] (by decide +kernel) (by decide +kernel)
set_option maxRecDepth 20000 in
theorem gX4_replaceGate_X4_sizeOf : GoodIn wsX4_replaceGate (wsV RX4 110 RX4 yX4_sizeOf wsX4_sizeOf) := goodIn_app (goodIn_of _ (by decide +kernel)) ggX4_replaceGate_X4_sizeOf
set_option maxRecDepth 20000 in
theorem ggX4_replaceGate_X4_setAt : GoodIn wsX4_replaceGate wsX4_setAt := goodIn_r _ [38, 39, 16, 8, 17, 82, 83, 84, 85, 86, 87] (by decide +kernel) (by decide +kernel)
set_option maxRecDepth 20000 in
theorem gX4_replaceGate_X4_setAt : GoodIn wsX4_replaceGate (wsV RX4 113 RX4 yX4_setAt wsX4_setAt) := goodIn_app (goodIn_of _ (by decide +kernel)) ggX4_replaceGate_X4_setAt
set_option maxRecDepth 20000 in
theorem ggX4_replaceGate_X4_coefficientAt : GoodIn wsX4_replaceGate wsX4_coefficientAt := goodIn_r _ [43, 44, 16, 8, 17, 82, 83, 84, 85, 86, 87] (by decide +kernel) (by decide +kernel)
set_option maxRecDepth 20000 in
theorem gX4_replaceGate_X4_coefficientAt : GoodIn wsX4_replaceGate (wsV RX4 117 RX4 yX4_coefficientAt wsX4_coefficientAt) := goodIn_app (goodIn_of _ (by decide +kernel)) ggX4_replaceGate_X4_coefficientAt
set_option maxRecDepth 20000 in
theorem ggX4_replaceGate_X2_add : GoodIn wsX4_replaceGate wsX2_add := goodIn_r _ [49, 50, 51, 52, 53, 54, 55, 48, 56, 16, 8, 17, 57, 58, 59, 60, 61, 62, 63, 64, 65, 66, 67, 68, 69, 70, 88, 89, 90] (by decide +kernel) (by decide +kernel)
set_option maxRecDepth 20000 in
theorem gX4_replaceGate_X2_add : GoodIn wsX4_replaceGate (wsV RX4 79 RX2 yX2_add wsX2_add) := goodIn_app (goodIn_of _ (by decide +kernel)) ggX4_replaceGate_X2_add
set_option maxRecDepth 20000 in
theorem ggX4_replaceGate_X6_at : GoodIn wsX4_replaceGate wsX6_at := goodIn_r _ [17] (by decide +kernel) (by decide +kernel)
set_option maxRecDepth 20000 in
theorem gX4_replaceGate_X6_at_n64 : GoodIn wsX4_replaceGate (wsX6_at) := ggX4_replaceGate_X6_at
theorem dX4_replaceGate_0 : decode cX4_replaceGate 0 = .ok (.aload_n 1, 1) := by decide +kernel
theorem dX4_replaceGate_1 : decode cX4_replaceGate 1 = .ok (.getfield 98, 3) := by decide +kernel
theorem dX4_replaceGate_4 : decode cX4_replaceGate 4 = .ok (.iload_n 3, 1) := by decide +kernel
theorem dX4_replaceGate_5 : decode cX4_replaceGate 5 = .ok (.iadd, 1) := by decide +kernel
theorem dX4_replaceGate_6 : decode cX4_replaceGate 6 = .ok (.invokestatic 76, 3) := by decide +kernel
theorem dX4_replaceGate_9 : decode cX4_replaceGate 9 = .ok (.istore 4, 2) := by decide +kernel
theorem dX4_replaceGate_11 : decode cX4_replaceGate 11 = .ok (.aload_n 1, 1) := by decide +kernel
theorem dX4_replaceGate_12 : decode cX4_replaceGate 12 = .ok (.iload_n 3, 1) := by decide +kernel
theorem dX4_replaceGate_13 : decode cX4_replaceGate 13 = .ok (.invokevirtual 101, 3) := by decide +kernel
theorem dX4_replaceGate_16 : decode cX4_replaceGate 16 = .ok (.invokestatic 76, 3) := by decide +kernel
theorem dX4_replaceGate_19 : decode cX4_replaceGate 19 = .ok (.istore 5, 2) := by decide +kernel
theorem dX4_replaceGate_21 : decode cX4_replaceGate 21 = .ok (.aload_n 1, 1) := by decide +kernel
theorem dX4_replaceGate_22 : decode cX4_replaceGate 22 = .ok (.iload_n 3, 1) := by decide +kernel
theorem dX4_replaceGate_23 : decode cX4_replaceGate 23 = .ok (.invokevirtual 104, 3) := by decide +kernel
theorem dX4_replaceGate_26 : decode cX4_replaceGate 26 = .ok (.invokestatic 76, 3) := by decide +kernel
theorem dX4_replaceGate_29 : decode cX4_replaceGate 29 = .ok (.istore 6, 2) := by decide +kernel
theorem dX4_replaceGate_31 : decode cX4_replaceGate 31 = .ok (.aload_n 1, 1) := by decide +kernel
theorem dX4_replaceGate_32 : decode cX4_replaceGate 32 = .ok (.iload_n 3, 1) := by decide +kernel
theorem dX4_replaceGate_33 : decode cX4_replaceGate 33 = .ok (.invokevirtual 107, 3) := by decide +kernel
theorem dX4_replaceGate_36 : decode cX4_replaceGate 36 = .ok (.istore 7, 2) := by decide +kernel
theorem dX4_replaceGate_38 : decode cX4_replaceGate 38 = .ok (.iconst 0, 1) := by decide +kernel
theorem dX4_replaceGate_39 : decode cX4_replaceGate 39 = .ok (.istore 8, 2) := by decide +kernel
theorem dX4_replaceGate_41 : decode cX4_replaceGate 41 = .ok (.iload 8, 2) := by decide +kernel
theorem dX4_replaceGate_43 : decode cX4_replaceGate 43 = .ok (.aload_n 0, 1) := by decide +kernel
theorem dX4_replaceGate_44 : decode cX4_replaceGate 44 = .ok (.iload_n 2, 1) := by decide +kernel
theorem dX4_replaceGate_45 : decode cX4_replaceGate 45 = .ok (.invokevirtual 110, 3) := by decide +kernel
theorem dX4_replaceGate_48 : decode cX4_replaceGate 48 = .ok (.if_icmp .ge 150, 3) := by decide +kernel
theorem dX4_replaceGate_51 : decode cX4_replaceGate 51 = .ok (.aload_n 0, 1) := by decide +kernel
theorem dX4_replaceGate_52 : decode cX4_replaceGate 52 = .ok (.iload_n 2, 1) := by decide +kernel
theorem dX4_replaceGate_53 : decode cX4_replaceGate 53 = .ok (.iload 8, 2) := by decide +kernel
theorem dX4_replaceGate_55 : decode cX4_replaceGate 55 = .ok (.invokevirtual 113, 3) := by decide +kernel
theorem dX4_replaceGate_58 : decode cX4_replaceGate 58 = .ok (.istore 9, 2) := by decide +kernel
theorem dX4_replaceGate_60 : decode cX4_replaceGate 60 = .ok (.aload_n 0, 1) := by decide +kernel
theorem dX4_replaceGate_61 : decode cX4_replaceGate 61 = .ok (.iload_n 2, 1) := by decide +kernel
theorem dX4_replaceGate_62 : decode cX4_replaceGate 62 = .ok (.iload 8, 2) := by decide +kernel
theorem dX4_replaceGate_64 : decode cX4_replaceGate 64 = .ok (.invokevirtual 117, 3) := by decide +kernel
theorem dX4_replaceGate_67 : decode cX4_replaceGate 67 = .ok (.istore 10, 2) := by decide +kernel
theorem dX4_replaceGate_69 : decode cX4_replaceGate 69 = .ok (.iload 9, 2) := by decide +kernel
theorem dX4_replaceGate_71 : decode cX4_replaceGate 71 = .ok (.iload 4, 2) := by decide +kernel
theorem dX4_replaceGate_73 : decode cX4_replaceGate 73 = .ok (.iand, 1) := by decide +kernel
theorem dX4_replaceGate_74 : decode cX4_replaceGate 74 = .ok (.ifCond .ne 17, 3) := by decide +kernel
theorem dX4_replaceGate_77 : decode cX4_replaceGate 77 = .ok (.aload_n 0, 1) := by decide +kernel
theorem dX4_replaceGate_78 : decode cX4_replaceGate 78 = .ok (.getfield 24, 3) := by decide +kernel
theorem dX4_replaceGate_81 : decode cX4_replaceGate 81 = .ok (.iload 9, 2) := by decide +kernel
theorem dX4_replaceGate_83 : decode cX4_replaceGate 83 = .ok (.iload 10, 2) := by decide +kernel
theorem dX4_replaceGate_85 : decode cX4_replaceGate 85 = .ok (.invokevirtual 79, 3) := by decide +kernel
theorem dX4_replaceGate_88 : decode cX4_replaceGate 88 = .ok (.goto 104, 3) := by decide +kernel
theorem dX4_replaceGate_91 : decode cX4_replaceGate 91 = .ok (.iload 9, 2) := by decide +kernel
theorem dX4_replaceGate_93 : decode cX4_replaceGate 93 = .ok (.iload 4, 2) := by decide +kernel
theorem dX4_replaceGate_95 : decode cX4_replaceGate 95 = .ok (.iconst (-1), 1) := by decide +kernel
theorem dX4_replaceGate_96 : decode cX4_replaceGate 96 = .ok (.ixor, 1) := by decide +kernel
theorem dX4_replaceGate_97 : decode cX4_replaceGate 97 = .ok (.iand, 1) := by decide +kernel
theorem dX4_replaceGate_98 : decode cX4_replaceGate 98 = .ok (.istore 11, 2) := by decide +kernel
theorem dX4_replaceGate_100 : decode cX4_replaceGate 100 = .ok (.aload_n 0, 1) := by decide +kernel
theorem dX4_replaceGate_101 : decode cX4_replaceGate 101 = .ok (.getfield 24, 3) := by decide +kernel
theorem dX4_replaceGate_104 : decode cX4_replaceGate 104 = .ok (.iload 11, 2) := by decide +kernel
theorem dX4_replaceGate_106 : decode cX4_replaceGate 106 = .ok (.iload 10, 2) := by decide +kernel
theorem dX4_replaceGate_108 : decode cX4_replaceGate 108 = .ok (.getstatic 120, 3) := by decide +kernel
theorem dX4_replaceGate_111 : decode cX4_replaceGate 111 = .ok (.iload 7, 2) := by decide +kernel
theorem dX4_replaceGate_113 : decode cX4_replaceGate 113 = .ok (.invokestatic 64, 3) := by decide +kernel
theorem dX4_replaceGate_116 : decode cX4_replaceGate 116 = .ok (.imul, 1) := by decide +kernel
theorem dX4_replaceGate_117 : decode cX4_replaceGate 117 = .ok (.invokevirtual 79, 3) := by decide +kernel
theorem dX4_replaceGate_120 : decode cX4_replaceGate 120 = .ok (.aload_n 0, 1) := by decide +kernel
theorem dX4_replaceGate_121 : decode cX4_replaceGate 121 = .ok (.getfield 24, 3) := by decide +kernel
theorem dX4_replaceGate_124 : decode cX4_replaceGate 124 = .ok (.iload 11, 2) := by decide +kernel
theorem dX4_replaceGate_126 : decode cX4_replaceGate 126 = .ok (.iload 5, 2) := by decide +kernel
theorem dX4_replaceGate_128 : decode cX4_replaceGate 128 = .ok (.ior, 1) := by decide +kernel
theorem dX4_replaceGate_129 : decode cX4_replaceGate 129 = .ok (.iload 10, 2) := by decide +kernel
theorem dX4_replaceGate_131 : decode cX4_replaceGate 131 = .ok (.getstatic 123, 3) := by decide +kernel
theorem dX4_replaceGate_134 : decode cX4_replaceGate 134 = .ok (.iload 7, 2) := by decide +kernel
theorem dX4_replaceGate_136 : decode cX4_replaceGate 136 = .ok (.invokestatic 64, 3) := by decide +kernel
theorem dX4_replaceGate_139 : decode cX4_replaceGate 139 = .ok (.imul, 1) := by decide +kernel
theorem dX4_replaceGate_140 : decode cX4_replaceGate 140 = .ok (.invokevirtual 79, 3) := by decide +kernel
theorem dX4_replaceGate_143 : decode cX4_replaceGate 143 = .ok (.aload_n 0, 1) := by decide +kernel
theorem dX4_replaceGate_144 : decode cX4_replaceGate 144 = .ok (.getfield 24, 3) := by decide +kernel
theorem dX4_replaceGate_147 : decode cX4_replaceGate 147 = .ok (.iload 11, 2) := by decide +kernel
theorem dX4_replaceGate_149 : decode cX4_replaceGate 149 = .ok (.iload 6, 2) := by decide +kernel
theorem dX4_replaceGate_151 : decode cX4_replaceGate 151 = .ok (.ior, 1) := by decide +kernel
theorem dX4_replaceGate_152 : decode cX4_replaceGate 152 = .ok (.iload 10, 2) := by decide +kernel
theorem dX4_replaceGate_154 : decode cX4_replaceGate 154 = .ok (.getstatic 126, 3) := by decide +kernel
theorem dX4_replaceGate_157 : decode cX4_replaceGate 157 = .ok (.iload 7, 2) := by decide +kernel
theorem dX4_replaceGate_159 : decode cX4_replaceGate 159 = .ok (.invokestatic 64, 3) := by decide +kernel
theorem dX4_replaceGate_162 : decode cX4_replaceGate 162 = .ok (.imul, 1) := by decide +kernel
theorem dX4_replaceGate_163 : decode cX4_replaceGate 163 = .ok (.invokevirtual 79, 3) := by decide +kernel
theorem dX4_replaceGate_166 : decode cX4_replaceGate 166 = .ok (.aload_n 0, 1) := by decide +kernel
theorem dX4_replaceGate_167 : decode cX4_replaceGate 167 = .ok (.getfield 24, 3) := by decide +kernel
theorem dX4_replaceGate_170 : decode cX4_replaceGate 170 = .ok (.iload 11, 2) := by decide +kernel
theorem dX4_replaceGate_172 : decode cX4_replaceGate 172 = .ok (.iload 5, 2) := by decide +kernel
theorem dX4_replaceGate_174 : decode cX4_replaceGate 174 = .ok (.ior, 1) := by decide +kernel
theorem dX4_replaceGate_175 : decode cX4_replaceGate 175 = .ok (.iload 6, 2) := by decide +kernel
theorem dX4_replaceGate_177 : decode cX4_replaceGate 177 = .ok (.ior, 1) := by decide +kernel
theorem dX4_replaceGate_178 : decode cX4_replaceGate 178 = .ok (.iload 10, 2) := by decide +kernel
theorem dX4_replaceGate_180 : decode cX4_replaceGate 180 = .ok (.getstatic 129, 3) := by decide +kernel
theorem dX4_replaceGate_183 : decode cX4_replaceGate 183 = .ok (.iload 7, 2) := by decide +kernel
theorem dX4_replaceGate_185 : decode cX4_replaceGate 185 = .ok (.invokestatic 64, 3) := by decide +kernel
theorem dX4_replaceGate_188 : decode cX4_replaceGate 188 = .ok (.imul, 1) := by decide +kernel
theorem dX4_replaceGate_189 : decode cX4_replaceGate 189 = .ok (.invokevirtual 79, 3) := by decide +kernel
theorem dX4_replaceGate_192 : decode cX4_replaceGate 192 = .ok (.iinc 8 1, 3) := by decide +kernel
theorem dX4_replaceGate_195 : decode cX4_replaceGate 195 = .ok (.goto (-154), 3) := by decide +kernel
theorem dX4_replaceGate_198 : decode cX4_replaceGate 198 = .ok (.return_, 1) := by decide +kernel
set_option maxRecDepth 20000 in
theorem ggX4_sizeOf_X6_at : GoodIn wsX4_sizeOf wsX6_at := goodIn_r _ [5] (by decide +kernel) (by decide +kernel)
set_option maxRecDepth 20000 in
theorem gX4_sizeOf_X6_at_n64 : GoodIn wsX4_sizeOf (wsX6_at) := ggX4_sizeOf_X6_at
theorem dX4_sizeOf_0 : decode cX4_sizeOf 0 = .ok (.iload_n 1, 1) := by decide +kernel
theorem dX4_sizeOf_1 : decode cX4_sizeOf 1 = .ok (.ifCond .lt 22, 3) := by decide +kernel
theorem dX4_sizeOf_4 : decode cX4_sizeOf 4 = .ok (.iload_n 1, 1) := by decide +kernel
theorem dX4_sizeOf_5 : decode cX4_sizeOf 5 = .ok (.aload_n 0, 1) := by decide +kernel
theorem dX4_sizeOf_6 : decode cX4_sizeOf 6 = .ok (.getfield 28, 3) := by decide +kernel
theorem dX4_sizeOf_9 : decode cX4_sizeOf 9 = .ok (.if_icmp .ge 14, 3) := by decide +kernel
theorem dX4_sizeOf_12 : decode cX4_sizeOf 12 = .ok (.aload_n 0, 1) := by decide +kernel
theorem dX4_sizeOf_13 : decode cX4_sizeOf 13 = .ok (.getfield 9, 3) := by decide +kernel
theorem dX4_sizeOf_16 : decode cX4_sizeOf 16 = .ok (.iload_n 1, 1) := by decide +kernel
theorem dX4_sizeOf_17 : decode cX4_sizeOf 17 = .ok (.invokestatic 64, 3) := by decide +kernel
theorem dX4_sizeOf_20 : decode cX4_sizeOf 20 = .ok (.goto 4, 3) := by decide +kernel
theorem dX4_sizeOf_23 : decode cX4_sizeOf 23 = .ok (.iconst 0, 1) := by decide +kernel
theorem dX4_sizeOf_24 : decode cX4_sizeOf 24 = .ok (.ireturn, 1) := by decide +kernel
set_option maxRecDepth 20000 in
theorem ggX4_setAt_X6_at : GoodIn wsX4_setAt wsX6_at := goodIn_r _ [4] (by decide +kernel) (by decide +kernel)
set_option maxRecDepth 20000 in
theorem gX4_setAt_X6_at_n64 : GoodIn wsX4_setAt (wsX6_at) := ggX4_setAt_X6_at
theorem dX4_setAt_0 : decode cX4_setAt 0 = .ok (.aload_n 0, 1) := by decide +kernel
theorem dX4_setAt_1 : decode cX4_setAt 1 = .ok (.getfield 15, 3) := by decide +kernel
theorem dX4_setAt_4 : decode cX4_setAt 4 = .ok (.iload_n 1, 1) := by decide +kernel
theorem dX4_setAt_5 : decode cX4_setAt 5 = .ok (.bipush 40, 2) := by decide +kernel
theorem dX4_setAt_7 : decode cX4_setAt 7 = .ok (.imul, 1) := by decide +kernel
theorem dX4_setAt_8 : decode cX4_setAt 8 = .ok (.iload_n 2, 1) := by decide +kernel
theorem dX4_setAt_9 : decode cX4_setAt 9 = .ok (.iadd, 1) := by decide +kernel
theorem dX4_setAt_10 : decode cX4_setAt 10 = .ok (.invokestatic 64, 3) := by decide +kernel
theorem dX4_setAt_13 : decode cX4_setAt 13 = .ok (.ireturn, 1) := by decide +kernel
set_option maxRecDepth 20000 in
theorem ggX4_coefficientAt_X6_at : GoodIn wsX4_coefficientAt wsX6_at := goodIn_r _ [4] (by decide +kernel) (by decide +kernel)
set_option maxRecDepth 20000 in
theorem gX4_coefficientAt_X6_at_n64 : GoodIn wsX4_coefficientAt (wsX6_at) := ggX4_coefficientAt_X6_at
theorem dX4_coefficientAt_0 : decode cX4_coefficientAt 0 = .ok (.aload_n 0, 1) := by decide +kernel
theorem dX4_coefficientAt_1 : decode cX4_coefficientAt 1 = .ok (.getfield 18, 3) := by decide +kernel
theorem dX4_coefficientAt_4 : decode cX4_coefficientAt 4 = .ok (.iload_n 1, 1) := by decide +kernel
theorem dX4_coefficientAt_5 : decode cX4_coefficientAt 5 = .ok (.bipush 40, 2) := by decide +kernel
theorem dX4_coefficientAt_7 : decode cX4_coefficientAt 7 = .ok (.imul, 1) := by decide +kernel
theorem dX4_coefficientAt_8 : decode cX4_coefficientAt 8 = .ok (.iload_n 2, 1) := by decide +kernel
theorem dX4_coefficientAt_9 : decode cX4_coefficientAt 9 = .ok (.iadd, 1) := by decide +kernel
theorem dX4_coefficientAt_10 : decode cX4_coefficientAt 10 = .ok (.invokestatic 64, 3) := by decide +kernel
theorem dX4_coefficientAt_13 : decode cX4_coefficientAt 13 = .ok (.ireturn, 1) := by decide +kernel
set_option maxRecDepth 20000 in
theorem ggX4_greatestSize_X4_sizeOf : GoodIn wsX4_greatestSize wsX4_sizeOf := goodIn_r _ [10, 11, 1, 12, 13, 14, 15, 16, 17, 18, 19, 20] (by decide +kernel) (by decide +kernel)
set_option maxRecDepth 20000 in
theorem gX4_greatestSize_X4_sizeOf : GoodIn wsX4_greatestSize (wsV RX4 110 RX4 yX4_sizeOf wsX4_sizeOf) := goodIn_app (goodIn_of _ (by decide +kernel)) ggX4_greatestSize_X4_sizeOf
theorem dX4_greatestSize_0 : decode cX4_greatestSize 0 = .ok (.iconst 0, 1) := by decide +kernel
theorem dX4_greatestSize_1 : decode cX4_greatestSize 1 = .ok (.istore_n 2, 1) := by decide +kernel
theorem dX4_greatestSize_2 : decode cX4_greatestSize 2 = .ok (.iconst 0, 1) := by decide +kernel
theorem dX4_greatestSize_3 : decode cX4_greatestSize 3 = .ok (.istore_n 3, 1) := by decide +kernel
theorem dX4_greatestSize_4 : decode cX4_greatestSize 4 = .ok (.iload_n 3, 1) := by decide +kernel
theorem dX4_greatestSize_5 : decode cX4_greatestSize 5 = .ok (.iload_n 1, 1) := by decide +kernel
theorem dX4_greatestSize_6 : decode cX4_greatestSize 6 = .ok (.if_icmp .gt 28, 3) := by decide +kernel
theorem dX4_greatestSize_9 : decode cX4_greatestSize 9 = .ok (.iload_n 3, 1) := by decide +kernel
theorem dX4_greatestSize_10 : decode cX4_greatestSize 10 = .ok (.aload_n 0, 1) := by decide +kernel
theorem dX4_greatestSize_11 : decode cX4_greatestSize 11 = .ok (.getfield 9, 3) := by decide +kernel
theorem dX4_greatestSize_14 : decode cX4_greatestSize 14 = .ok (.arraylength, 1) := by decide +kernel
theorem dX4_greatestSize_15 : decode cX4_greatestSize 15 = .ok (.if_icmp .ge 19, 3) := by decide +kernel
theorem dX4_greatestSize_18 : decode cX4_greatestSize 18 = .ok (.iload_n 2, 1) := by decide +kernel
theorem dX4_greatestSize_19 : decode cX4_greatestSize 19 = .ok (.aload_n 0, 1) := by decide +kernel
theorem dX4_greatestSize_20 : decode cX4_greatestSize 20 = .ok (.iload_n 3, 1) := by decide +kernel
theorem dX4_greatestSize_21 : decode cX4_greatestSize 21 = .ok (.invokevirtual 110, 3) := by decide +kernel
theorem dX4_greatestSize_24 : decode cX4_greatestSize 24 = .ok (.invokestatic 132, 3) := by decide +kernel
theorem dX4_greatestSize_27 : decode cX4_greatestSize 27 = .ok (.istore_n 2, 1) := by decide +kernel
theorem dX4_greatestSize_28 : decode cX4_greatestSize 28 = .ok (.iinc 3 1, 3) := by decide +kernel
theorem dX4_greatestSize_31 : decode cX4_greatestSize 31 = .ok (.goto (-27), 3) := by decide +kernel
theorem dX4_greatestSize_34 : decode cX4_greatestSize 34 = .ok (.iload_n 2, 1) := by decide +kernel
theorem dX4_greatestSize_35 : decode cX4_greatestSize 35 = .ok (.ireturn, 1) := by decide +kernel
set_option maxRecDepth 20000 in
theorem ggX4_widestOf_X4_sizeOf : GoodIn wsX4_widestOf wsX4_sizeOf := goodIn_r _ [9, 10, 11, 12, 13, 14, 27, 28, 29, 30, 31, 32] (by decide +kernel) (by decide +kernel)
set_option maxRecDepth 20000 in
theorem gX4_widestOf_X4_sizeOf : GoodIn wsX4_widestOf (wsV RX4 110 RX4 yX4_sizeOf wsX4_sizeOf) := goodIn_app (goodIn_of _ (by decide +kernel)) ggX4_widestOf_X4_sizeOf
set_option maxRecDepth 20000 in
theorem ggX4_widestOf_X4_setAt : GoodIn wsX4_widestOf wsX4_setAt := goodIn_r _ [18, 19, 12, 13, 14, 27, 28, 29, 30, 31, 32] (by decide +kernel) (by decide +kernel)
set_option maxRecDepth 20000 in
theorem gX4_widestOf_X4_setAt : GoodIn wsX4_widestOf (wsV RX4 113 RX4 yX4_setAt wsX4_setAt) := goodIn_app (goodIn_of _ (by decide +kernel)) ggX4_widestOf_X4_setAt
set_option maxRecDepth 20000 in
theorem ggX4_widestOf_J6_bitCount_0f7a4 : GoodIn wsX4_widestOf wsJ6_bitCount_0f7a4 := goodIn_r _ [23, 24, 25, 26] (by decide +kernel) (by decide +kernel)
set_option maxRecDepth 20000 in
theorem gX4_widestOf_J6_bitCount_0f7a4 : GoodIn wsX4_widestOf (va_wsS RX4 137 yJ6_bitCount_0f7a4 wsJ6_bitCount_0f7a4) := goodIn_app (goodIn_of _ (by decide +kernel)) ggX4_widestOf_J6_bitCount_0f7a4
theorem dX4_widestOf_0 : decode cX4_widestOf 0 = .ok (.iconst 0, 1) := by decide +kernel
theorem dX4_widestOf_1 : decode cX4_widestOf 1 = .ok (.istore_n 2, 1) := by decide +kernel
theorem dX4_widestOf_2 : decode cX4_widestOf 2 = .ok (.iconst 0, 1) := by decide +kernel
theorem dX4_widestOf_3 : decode cX4_widestOf 3 = .ok (.istore_n 3, 1) := by decide +kernel
theorem dX4_widestOf_4 : decode cX4_widestOf 4 = .ok (.iload_n 3, 1) := by decide +kernel
theorem dX4_widestOf_5 : decode cX4_widestOf 5 = .ok (.aload_n 0, 1) := by decide +kernel
theorem dX4_widestOf_6 : decode cX4_widestOf 6 = .ok (.iload_n 1, 1) := by decide +kernel
theorem dX4_widestOf_7 : decode cX4_widestOf 7 = .ok (.invokevirtual 110, 3) := by decide +kernel
theorem dX4_widestOf_10 : decode cX4_widestOf 10 = .ok (.if_icmp .ge 23, 3) := by decide +kernel
theorem dX4_widestOf_13 : decode cX4_widestOf 13 = .ok (.iload_n 2, 1) := by decide +kernel
theorem dX4_widestOf_14 : decode cX4_widestOf 14 = .ok (.aload_n 0, 1) := by decide +kernel
theorem dX4_widestOf_15 : decode cX4_widestOf 15 = .ok (.iload_n 1, 1) := by decide +kernel
theorem dX4_widestOf_16 : decode cX4_widestOf 16 = .ok (.iload_n 3, 1) := by decide +kernel
theorem dX4_widestOf_17 : decode cX4_widestOf 17 = .ok (.invokevirtual 113, 3) := by decide +kernel
theorem dX4_widestOf_20 : decode cX4_widestOf 20 = .ok (.invokestatic 137, 3) := by decide +kernel
theorem dX4_widestOf_23 : decode cX4_widestOf 23 = .ok (.invokestatic 132, 3) := by decide +kernel
theorem dX4_widestOf_26 : decode cX4_widestOf 26 = .ok (.istore_n 2, 1) := by decide +kernel
theorem dX4_widestOf_27 : decode cX4_widestOf 27 = .ok (.iinc 3 1, 3) := by decide +kernel
theorem dX4_widestOf_30 : decode cX4_widestOf 30 = .ok (.goto (-26), 3) := by decide +kernel
theorem dX4_widestOf_33 : decode cX4_widestOf 33 = .ok (.iload_n 2, 1) := by decide +kernel
theorem dX4_widestOf_34 : decode cX4_widestOf 34 = .ok (.ireturn, 1) := by decide +kernel
set_option maxRecDepth 20000 in
theorem ggX4_narrowestOf_X4_sizeOf : GoodIn wsX4_narrowestOf wsX4_sizeOf := goodIn_r _ [5, 6, 7, 8, 9, 10, 23, 24, 25, 26, 27, 28] (by decide +kernel) (by decide +kernel)
set_option maxRecDepth 20000 in
theorem gX4_narrowestOf_X4_sizeOf : GoodIn wsX4_narrowestOf (wsV RX4 110 RX4 yX4_sizeOf wsX4_sizeOf) := goodIn_app (goodIn_of _ (by decide +kernel)) ggX4_narrowestOf_X4_sizeOf
set_option maxRecDepth 20000 in
theorem ggX4_narrowestOf_X4_setAt : GoodIn wsX4_narrowestOf wsX4_setAt := goodIn_r _ [14, 15, 8, 9, 10, 23, 24, 25, 26, 27, 28] (by decide +kernel) (by decide +kernel)
set_option maxRecDepth 20000 in
theorem gX4_narrowestOf_X4_setAt : GoodIn wsX4_narrowestOf (wsV RX4 113 RX4 yX4_setAt wsX4_setAt) := goodIn_app (goodIn_of _ (by decide +kernel)) ggX4_narrowestOf_X4_setAt
set_option maxRecDepth 20000 in
theorem ggX4_narrowestOf_J6_bitCount_0f7a4 : GoodIn wsX4_narrowestOf wsJ6_bitCount_0f7a4 := goodIn_r _ [19, 20, 21, 22] (by decide +kernel) (by decide +kernel)
set_option maxRecDepth 20000 in
theorem gX4_narrowestOf_J6_bitCount_0f7a4 : GoodIn wsX4_narrowestOf (va_wsS RX4 137 yJ6_bitCount_0f7a4 wsJ6_bitCount_0f7a4) := goodIn_app (goodIn_of _ (by decide +kernel)) ggX4_narrowestOf_J6_bitCount_0f7a4
theorem dX4_narrowestOf_0 : decode cX4_narrowestOf 0 = .ok (.iconst (-1), 1) := by decide +kernel
theorem dX4_narrowestOf_1 : decode cX4_narrowestOf 1 = .ok (.istore_n 2, 1) := by decide +kernel
theorem dX4_narrowestOf_2 : decode cX4_narrowestOf 2 = .ok (.bipush 18, 2) := by decide +kernel
theorem dX4_narrowestOf_4 : decode cX4_narrowestOf 4 = .ok (.istore_n 3, 1) := by decide +kernel
theorem dX4_narrowestOf_5 : decode cX4_narrowestOf 5 = .ok (.iconst 0, 1) := by decide +kernel
theorem dX4_narrowestOf_6 : decode cX4_narrowestOf 6 = .ok (.istore 4, 2) := by decide +kernel
theorem dX4_narrowestOf_8 : decode cX4_narrowestOf 8 = .ok (.iload 4, 2) := by decide +kernel
theorem dX4_narrowestOf_10 : decode cX4_narrowestOf 10 = .ok (.aload_n 0, 1) := by decide +kernel
theorem dX4_narrowestOf_11 : decode cX4_narrowestOf 11 = .ok (.iload_n 1, 1) := by decide +kernel
theorem dX4_narrowestOf_12 : decode cX4_narrowestOf 12 = .ok (.invokevirtual 110, 3) := by decide +kernel
theorem dX4_narrowestOf_15 : decode cX4_narrowestOf 15 = .ok (.if_icmp .ge 38, 3) := by decide +kernel
theorem dX4_narrowestOf_18 : decode cX4_narrowestOf 18 = .ok (.aload_n 0, 1) := by decide +kernel
theorem dX4_narrowestOf_19 : decode cX4_narrowestOf 19 = .ok (.iload_n 1, 1) := by decide +kernel
theorem dX4_narrowestOf_20 : decode cX4_narrowestOf 20 = .ok (.iload 4, 2) := by decide +kernel
theorem dX4_narrowestOf_22 : decode cX4_narrowestOf 22 = .ok (.invokevirtual 113, 3) := by decide +kernel
theorem dX4_narrowestOf_25 : decode cX4_narrowestOf 25 = .ok (.invokestatic 137, 3) := by decide +kernel
theorem dX4_narrowestOf_28 : decode cX4_narrowestOf 28 = .ok (.istore 5, 2) := by decide +kernel
theorem dX4_narrowestOf_30 : decode cX4_narrowestOf 30 = .ok (.iload 5, 2) := by decide +kernel
theorem dX4_narrowestOf_32 : decode cX4_narrowestOf 32 = .ok (.iload_n 3, 1) := by decide +kernel
theorem dX4_narrowestOf_33 : decode cX4_narrowestOf 33 = .ok (.if_icmp .gt 14, 3) := by decide +kernel
theorem dX4_narrowestOf_36 : decode cX4_narrowestOf 36 = .ok (.iload 5, 2) := by decide +kernel
theorem dX4_narrowestOf_38 : decode cX4_narrowestOf 38 = .ok (.istore_n 3, 1) := by decide +kernel
theorem dX4_narrowestOf_39 : decode cX4_narrowestOf 39 = .ok (.aload_n 0, 1) := by decide +kernel
theorem dX4_narrowestOf_40 : decode cX4_narrowestOf 40 = .ok (.iload_n 1, 1) := by decide +kernel
theorem dX4_narrowestOf_41 : decode cX4_narrowestOf 41 = .ok (.iload 4, 2) := by decide +kernel
theorem dX4_narrowestOf_43 : decode cX4_narrowestOf 43 = .ok (.invokevirtual 113, 3) := by decide +kernel
theorem dX4_narrowestOf_46 : decode cX4_narrowestOf 46 = .ok (.istore_n 2, 1) := by decide +kernel
theorem dX4_narrowestOf_47 : decode cX4_narrowestOf 47 = .ok (.iinc 4 1, 3) := by decide +kernel
theorem dX4_narrowestOf_50 : decode cX4_narrowestOf 50 = .ok (.goto (-42), 3) := by decide +kernel
theorem dX4_narrowestOf_53 : decode cX4_narrowestOf 53 = .ok (.iload_n 2, 1) := by decide +kernel
theorem dX4_narrowestOf_54 : decode cX4_narrowestOf 54 = .ok (.ireturn, 1) := by decide +kernel
set_option maxRecDepth 20000 in
theorem ggX4_unionOf_X4_sizeOf : GoodIn wsX4_unionOf wsX4_sizeOf := goodIn_r _ [5, 6, 7, 8, 9, 10, 16, 17, 18, 19, 20, 21] (by decide +kernel) (by decide +kernel)
set_option maxRecDepth 20000 in
theorem gX4_unionOf_X4_sizeOf : GoodIn wsX4_unionOf (wsV RX4 110 RX4 yX4_sizeOf wsX4_sizeOf) := goodIn_app (goodIn_of _ (by decide +kernel)) ggX4_unionOf_X4_sizeOf
set_option maxRecDepth 20000 in
theorem ggX4_unionOf_X4_setAt : GoodIn wsX4_unionOf wsX4_setAt := goodIn_r _ [14, 15, 8, 9, 10, 16, 17, 18, 19, 20, 21] (by decide +kernel) (by decide +kernel)
set_option maxRecDepth 20000 in
theorem gX4_unionOf_X4_setAt : GoodIn wsX4_unionOf (wsV RX4 113 RX4 yX4_setAt wsX4_setAt) := goodIn_app (goodIn_of _ (by decide +kernel)) ggX4_unionOf_X4_setAt
theorem dX4_unionOf_0 : decode cX4_unionOf 0 = .ok (.iconst 0, 1) := by decide +kernel
theorem dX4_unionOf_1 : decode cX4_unionOf 1 = .ok (.istore_n 2, 1) := by decide +kernel
theorem dX4_unionOf_2 : decode cX4_unionOf 2 = .ok (.iconst 0, 1) := by decide +kernel
theorem dX4_unionOf_3 : decode cX4_unionOf 3 = .ok (.istore_n 3, 1) := by decide +kernel
theorem dX4_unionOf_4 : decode cX4_unionOf 4 = .ok (.iload_n 3, 1) := by decide +kernel
theorem dX4_unionOf_5 : decode cX4_unionOf 5 = .ok (.aload_n 0, 1) := by decide +kernel
theorem dX4_unionOf_6 : decode cX4_unionOf 6 = .ok (.iload_n 1, 1) := by decide +kernel
theorem dX4_unionOf_7 : decode cX4_unionOf 7 = .ok (.invokevirtual 110, 3) := by decide +kernel
theorem dX4_unionOf_10 : decode cX4_unionOf 10 = .ok (.if_icmp .ge 18, 3) := by decide +kernel
theorem dX4_unionOf_13 : decode cX4_unionOf 13 = .ok (.iload_n 2, 1) := by decide +kernel
theorem dX4_unionOf_14 : decode cX4_unionOf 14 = .ok (.aload_n 0, 1) := by decide +kernel
theorem dX4_unionOf_15 : decode cX4_unionOf 15 = .ok (.iload_n 1, 1) := by decide +kernel
theorem dX4_unionOf_16 : decode cX4_unionOf 16 = .ok (.iload_n 3, 1) := by decide +kernel
theorem dX4_unionOf_17 : decode cX4_unionOf 17 = .ok (.invokevirtual 113, 3) := by decide +kernel
theorem dX4_unionOf_20 : decode cX4_unionOf 20 = .ok (.ior, 1) := by decide +kernel
theorem dX4_unionOf_21 : decode cX4_unionOf 21 = .ok (.istore_n 2, 1) := by decide +kernel
theorem dX4_unionOf_22 : decode cX4_unionOf 22 = .ok (.iinc 3 1, 3) := by decide +kernel
theorem dX4_unionOf_25 : decode cX4_unionOf 25 = .ok (.goto (-21), 3) := by decide +kernel
theorem dX4_unionOf_28 : decode cX4_unionOf 28 = .ok (.iload_n 2, 1) := by decide +kernel
theorem dX4_unionOf_29 : decode cX4_unionOf 29 = .ok (.ireturn, 1) := by decide +kernel
set_option maxRecDepth 20000 in
theorem ggX4_sumWhere_X4_sizeOf : GoodIn wsX4_sumWhere wsX4_sizeOf := goodIn_r _ [5, 6, 7, 8, 9, 10, 21, 22, 23, 24, 25, 26] (by decide +kernel) (by decide +kernel)
set_option maxRecDepth 20000 in
theorem gX4_sumWhere_X4_sizeOf : GoodIn wsX4_sumWhere (wsV RX4 110 RX4 yX4_sizeOf wsX4_sizeOf) := goodIn_app (goodIn_of _ (by decide +kernel)) ggX4_sumWhere_X4_sizeOf
set_option maxRecDepth 20000 in
theorem ggX4_sumWhere_X4_setAt : GoodIn wsX4_sumWhere wsX4_setAt := goodIn_r _ [14, 15, 8, 9, 10, 21, 22, 23, 24, 25, 26] (by decide +kernel) (by decide +kernel)
set_option maxRecDepth 20000 in
theorem gX4_sumWhere_X4_setAt : GoodIn wsX4_sumWhere (wsV RX4 113 RX4 yX4_setAt wsX4_setAt) := goodIn_app (goodIn_of _ (by decide +kernel)) ggX4_sumWhere_X4_setAt
set_option maxRecDepth 20000 in
theorem ggX4_sumWhere_X4_coefficientAt : GoodIn wsX4_sumWhere wsX4_coefficientAt := goodIn_r _ [19, 20, 8, 9, 10, 21, 22, 23, 24, 25, 26] (by decide +kernel) (by decide +kernel)
set_option maxRecDepth 20000 in
theorem gX4_sumWhere_X4_coefficientAt : GoodIn wsX4_sumWhere (wsV RX4 117 RX4 yX4_coefficientAt wsX4_coefficientAt) := goodIn_app (goodIn_of _ (by decide +kernel)) ggX4_sumWhere_X4_coefficientAt
theorem dX4_sumWhere_0 : decode cX4_sumWhere 0 = .ok (.iconst 0, 1) := by decide +kernel
theorem dX4_sumWhere_1 : decode cX4_sumWhere 1 = .ok (.istore_n 3, 1) := by decide +kernel
theorem dX4_sumWhere_2 : decode cX4_sumWhere 2 = .ok (.iconst 0, 1) := by decide +kernel
theorem dX4_sumWhere_3 : decode cX4_sumWhere 3 = .ok (.istore 4, 2) := by decide +kernel
theorem dX4_sumWhere_5 : decode cX4_sumWhere 5 = .ok (.iload 4, 2) := by decide +kernel
theorem dX4_sumWhere_7 : decode cX4_sumWhere 7 = .ok (.aload_n 0, 1) := by decide +kernel
theorem dX4_sumWhere_8 : decode cX4_sumWhere 8 = .ok (.iload_n 1, 1) := by decide +kernel
theorem dX4_sumWhere_9 : decode cX4_sumWhere 9 = .ok (.invokevirtual 110, 3) := by decide +kernel
theorem dX4_sumWhere_12 : decode cX4_sumWhere 12 = .ok (.if_icmp .ge 49, 3) := by decide +kernel
theorem dX4_sumWhere_15 : decode cX4_sumWhere 15 = .ok (.aload_n 0, 1) := by decide +kernel
theorem dX4_sumWhere_16 : decode cX4_sumWhere 16 = .ok (.iload_n 1, 1) := by decide +kernel
theorem dX4_sumWhere_17 : decode cX4_sumWhere 17 = .ok (.iload 4, 2) := by decide +kernel
theorem dX4_sumWhere_19 : decode cX4_sumWhere 19 = .ok (.invokevirtual 113, 3) := by decide +kernel
theorem dX4_sumWhere_22 : decode cX4_sumWhere 22 = .ok (.iload_n 2, 1) := by decide +kernel
theorem dX4_sumWhere_23 : decode cX4_sumWhere 23 = .ok (.iconst (-1), 1) := by decide +kernel
theorem dX4_sumWhere_24 : decode cX4_sumWhere 24 = .ok (.ixor, 1) := by decide +kernel
theorem dX4_sumWhere_25 : decode cX4_sumWhere 25 = .ok (.iand, 1) := by decide +kernel
theorem dX4_sumWhere_26 : decode cX4_sumWhere 26 = .ok (.ifCond .ne 7, 3) := by decide +kernel
theorem dX4_sumWhere_29 : decode cX4_sumWhere 29 = .ok (.iconst 1, 1) := by decide +kernel
theorem dX4_sumWhere_30 : decode cX4_sumWhere 30 = .ok (.goto 4, 3) := by decide +kernel
theorem dX4_sumWhere_33 : decode cX4_sumWhere 33 = .ok (.iconst 0, 1) := by decide +kernel
theorem dX4_sumWhere_34 : decode cX4_sumWhere 34 = .ok (.istore 5, 2) := by decide +kernel
theorem dX4_sumWhere_36 : decode cX4_sumWhere 36 = .ok (.iload_n 3, 1) := by decide +kernel
theorem dX4_sumWhere_37 : decode cX4_sumWhere 37 = .ok (.iload 5, 2) := by decide +kernel
theorem dX4_sumWhere_39 : decode cX4_sumWhere 39 = .ok (.ifCond .eq 13, 3) := by decide +kernel
theorem dX4_sumWhere_42 : decode cX4_sumWhere 42 = .ok (.aload_n 0, 1) := by decide +kernel
theorem dX4_sumWhere_43 : decode cX4_sumWhere 43 = .ok (.iload_n 1, 1) := by decide +kernel
theorem dX4_sumWhere_44 : decode cX4_sumWhere 44 = .ok (.iload 4, 2) := by decide +kernel
theorem dX4_sumWhere_46 : decode cX4_sumWhere 46 = .ok (.invokevirtual 117, 3) := by decide +kernel
theorem dX4_sumWhere_49 : decode cX4_sumWhere 49 = .ok (.goto 4, 3) := by decide +kernel
theorem dX4_sumWhere_52 : decode cX4_sumWhere 52 = .ok (.iconst 0, 1) := by decide +kernel
theorem dX4_sumWhere_53 : decode cX4_sumWhere 53 = .ok (.iadd, 1) := by decide +kernel
theorem dX4_sumWhere_54 : decode cX4_sumWhere 54 = .ok (.istore_n 3, 1) := by decide +kernel
theorem dX4_sumWhere_55 : decode cX4_sumWhere 55 = .ok (.iinc 4 1, 3) := by decide +kernel
theorem dX4_sumWhere_58 : decode cX4_sumWhere 58 = .ok (.goto (-53), 3) := by decide +kernel
theorem dX4_sumWhere_61 : decode cX4_sumWhere 61 = .ok (.iload_n 3, 1) := by decide +kernel
theorem dX4_sumWhere_62 : decode cX4_sumWhere 62 = .ok (.ireturn, 1) := by decide +kernel
set_option maxRecDepth 20000 in
theorem ggX4_dearestOf_X4_sizeOf : GoodIn wsX4_dearestOf wsX4_sizeOf := goodIn_r _ [5, 6, 7, 8, 9, 10, 29, 30, 31, 32, 33, 34] (by decide +kernel) (by decide +kernel)
set_option maxRecDepth 20000 in
theorem gX4_dearestOf_X4_sizeOf : GoodIn wsX4_dearestOf (wsV RX4 110 RX4 yX4_sizeOf wsX4_sizeOf) := goodIn_app (goodIn_of _ (by decide +kernel)) ggX4_dearestOf_X4_sizeOf
set_option maxRecDepth 20000 in
theorem ggX4_dearestOf_X4_dearerThan : GoodIn wsX4_dearestOf wsX4_dearerThan := goodIn_r _ [14, 15, 16, 17, 18, 19, 20, 21, 4, 22, 23, 8, 9, 10, 1, 2, 3, 5, 6, 7, 29, 30, 31, 32, 33, 34] (by decide +kernel) (by decide +kernel)
set_option maxRecDepth 20000 in
theorem gX4_dearestOf_X4_dearerThan : GoodIn wsX4_dearestOf (wsV RX4 142 RX4 yX4_dearerThan wsX4_dearerThan) := goodIn_app (goodIn_of _ (by decide +kernel)) ggX4_dearestOf_X4_dearerThan
set_option maxRecDepth 20000 in
theorem ggX4_dearestOf_X4_setAt : GoodIn wsX4_dearestOf wsX4_setAt := goodIn_r _ [27, 28, 8, 9, 10, 29, 30, 31, 32, 33, 34] (by decide +kernel) (by decide +kernel)
set_option maxRecDepth 20000 in
theorem gX4_dearestOf_X4_setAt : GoodIn wsX4_dearestOf (wsV RX4 113 RX4 yX4_setAt wsX4_setAt) := goodIn_app (goodIn_of _ (by decide +kernel)) ggX4_dearestOf_X4_setAt
theorem dX4_dearestOf_0 : decode cX4_dearestOf 0 = .ok (.iconst 0, 1) := by decide +kernel
theorem dX4_dearestOf_1 : decode cX4_dearestOf 1 = .ok (.istore_n 3, 1) := by decide +kernel
theorem dX4_dearestOf_2 : decode cX4_dearestOf 2 = .ok (.iload_n 3, 1) := by decide +kernel
theorem dX4_dearestOf_3 : decode cX4_dearestOf 3 = .ok (.aload_n 0, 1) := by decide +kernel
theorem dX4_dearestOf_4 : decode cX4_dearestOf 4 = .ok (.iload_n 1, 1) := by decide +kernel
theorem dX4_dearestOf_5 : decode cX4_dearestOf 5 = .ok (.invokevirtual 110, 3) := by decide +kernel
theorem dX4_dearestOf_8 : decode cX4_dearestOf 8 = .ok (.if_icmp .ge 26, 3) := by decide +kernel
theorem dX4_dearestOf_11 : decode cX4_dearestOf 11 = .ok (.aload_n 0, 1) := by decide +kernel
theorem dX4_dearestOf_12 : decode cX4_dearestOf 12 = .ok (.iload_n 1, 1) := by decide +kernel
