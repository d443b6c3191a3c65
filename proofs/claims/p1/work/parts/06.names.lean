theorem dX7_isNumber_53 : decode cX7_isNumber 53 = .ok (.goto (-41), 3) := by decide +kernel
theorem dX7_isNumber_56 : decode cX7_isNumber 56 = .ok (.iload_n 3, 1) := by decide +kernel
theorem dX7_isNumber_57 : decode cX7_isNumber 57 = .ok (.aload_n 0, 1) := by decide +kernel
theorem dX7_isNumber_58 : decode cX7_isNumber 58 = .ok (.getfield 51, 3) := by decide +kernel
theorem dX7_isNumber_61 : decode cX7_isNumber 61 = .ok (.if_icmp .le 27, 3) := by decide +kernel
theorem dX7_isNumber_64 : decode cX7_isNumber 64 = .ok (.iload_n 3, 1) := by decide +kernel
theorem dX7_isNumber_65 : decode cX7_isNumber 65 = .ok (.aload_n 0, 1) := by decide +kernel
theorem dX7_isNumber_66 : decode cX7_isNumber 66 = .ok (.getfield 51, 3) := by decide +kernel
theorem dX7_isNumber_69 : decode cX7_isNumber 69 = .ok (.isub, 1) := by decide +kernel
theorem dX7_isNumber_70 : decode cX7_isNumber 70 = .ok (.iconst 3, 1) := by decide +kernel
theorem dX7_isNumber_71 : decode cX7_isNumber 71 = .ok (.if_icmp .ge 17, 3) := by decide +kernel
theorem dX7_isNumber_74 : decode cX7_isNumber 74 = .ok (.iload 4, 2) := by decide +kernel
theorem dX7_isNumber_76 : decode cX7_isNumber 76 = .ok (.iload_n 1, 1) := by decide +kernel
theorem dX7_isNumber_77 : decode cX7_isNumber 77 = .ok (.iload_n 2, 1) := by decide +kernel
theorem dX7_isNumber_78 : decode cX7_isNumber 78 = .ok (.invokestatic 39, 3) := by decide +kernel
theorem dX7_isNumber_81 : decode cX7_isNumber 81 = .ok (.ifCond .eq 7, 3) := by decide +kernel
theorem dX7_isNumber_84 : decode cX7_isNumber 84 = .ok (.iconst 1, 1) := by decide +kernel
theorem dX7_isNumber_85 : decode cX7_isNumber 85 = .ok (.goto 4, 3) := by decide +kernel
theorem dX7_isNumber_88 : decode cX7_isNumber 88 = .ok (.iconst 0, 1) := by decide +kernel
theorem dX7_isNumber_89 : decode cX7_isNumber 89 = .ok (.istore 5, 2) := by decide +kernel
theorem dX7_isNumber_91 : decode cX7_isNumber 91 = .ok (.aload_n 0, 1) := by decide +kernel
theorem dX7_isNumber_92 : decode cX7_isNumber 92 = .ok (.iload 4, 2) := by decide +kernel
theorem dX7_isNumber_94 : decode cX7_isNumber 94 = .ok (.putfield 64, 3) := by decide +kernel
theorem dX7_isNumber_97 : decode cX7_isNumber 97 = .ok (.aload_n 0, 1) := by decide +kernel
theorem dX7_isNumber_98 : decode cX7_isNumber 98 = .ok (.iload 5, 2) := by decide +kernel
theorem dX7_isNumber_100 : decode cX7_isNumber 100 = .ok (.ifCond .eq 7, 3) := by decide +kernel
theorem dX7_isNumber_103 : decode cX7_isNumber 103 = .ok (.iload_n 3, 1) := by decide +kernel
theorem dX7_isNumber_104 : decode cX7_isNumber 104 = .ok (.goto 7, 3) := by decide +kernel
theorem dX7_isNumber_107 : decode cX7_isNumber 107 = .ok (.aload_n 0, 1) := by decide +kernel
theorem dX7_isNumber_108 : decode cX7_isNumber 108 = .ok (.getfield 51, 3) := by decide +kernel
theorem dX7_isNumber_111 : decode cX7_isNumber 111 = .ok (.putfield 51, 3) := by decide +kernel
theorem dX7_isNumber_114 : decode cX7_isNumber 114 = .ok (.iload 5, 2) := by decide +kernel
theorem dX7_isNumber_116 : decode cX7_isNumber 116 = .ok (.ireturn, 1) := by decide +kernel
set_option maxRecDepth 20000 in
theorem ggX7_isWord_X7_byteAt : GoodIn wsX7_isWord wsX7_byteAt := goodIn_r _ [7, 8, 9, 13, 14, 15, 16, 17, 18, 19, 20, 21, 22, 23, 24, 25, 26, 27, 28] (by decide +kernel) (by decide +kernel)
set_option maxRecDepth 20000 in
theorem gX7_isWord_X7_byteAt : GoodIn wsX7_isWord (wsV RX7 54 RX7 yX7_byteAt wsX7_byteAt) := goodIn_app (goodIn_of _ (by decide +kernel)) ggX7_isWord_X7_byteAt
set_option maxRecDepth 20000 in
theorem ggX7_isWord_X7_in : GoodIn wsX7_isWord wsX7_in := goodIn_r _ [12] (by decide +kernel) (by decide +kernel)
set_option maxRecDepth 20000 in
theorem gX7_isWord_X7_in : GoodIn wsX7_isWord (va_wsS RX7 39 yX7_in wsX7_in) := goodIn_app (goodIn_of _ (by decide +kernel)) ggX7_isWord_X7_in
theorem dX7_isWord_0 : decode cX7_isWord 0 = .ok (.iconst 1, 1) := by decide +kernel
theorem dX7_isWord_1 : decode cX7_isWord 1 = .ok (.istore_n 3, 1) := by decide +kernel
theorem dX7_isWord_2 : decode cX7_isWord 2 = .ok (.iconst 0, 1) := by decide +kernel
theorem dX7_isWord_3 : decode cX7_isWord 3 = .ok (.istore 4, 2) := by decide +kernel
theorem dX7_isWord_5 : decode cX7_isWord 5 = .ok (.iload 4, 2) := by decide +kernel
theorem dX7_isWord_7 : decode cX7_isWord 7 = .ok (.iload_n 2, 1) := by decide +kernel
theorem dX7_isWord_8 : decode cX7_isWord 8 = .ok (.if_icmp .ge 42, 3) := by decide +kernel
theorem dX7_isWord_11 : decode cX7_isWord 11 = .ok (.iload_n 3, 1) := by decide +kernel
theorem dX7_isWord_12 : decode cX7_isWord 12 = .ok (.ifCond .eq 30, 3) := by decide +kernel
theorem dX7_isWord_15 : decode cX7_isWord 15 = .ok (.aload_n 0, 1) := by decide +kernel
theorem dX7_isWord_16 : decode cX7_isWord 16 = .ok (.aload_n 0, 1) := by decide +kernel
theorem dX7_isWord_17 : decode cX7_isWord 17 = .ok (.getfield 51, 3) := by decide +kernel
theorem dX7_isWord_20 : decode cX7_isWord 20 = .ok (.iload 4, 2) := by decide +kernel
theorem dX7_isWord_22 : decode cX7_isWord 22 = .ok (.iadd, 1) := by decide +kernel
theorem dX7_isWord_23 : decode cX7_isWord 23 = .ok (.invokevirtual 54, 3) := by decide +kernel
theorem dX7_isWord_26 : decode cX7_isWord 26 = .ok (.aload_n 0, 1) := by decide +kernel
theorem dX7_isWord_27 : decode cX7_isWord 27 = .ok (.getfield 22, 3) := by decide +kernel
theorem dX7_isWord_30 : decode cX7_isWord 30 = .ok (.iload_n 1, 1) := by decide +kernel
theorem dX7_isWord_31 : decode cX7_isWord 31 = .ok (.iload 4, 2) := by decide +kernel
theorem dX7_isWord_33 : decode cX7_isWord 33 = .ok (.iadd, 1) := by decide +kernel
theorem dX7_isWord_34 : decode cX7_isWord 34 = .ok (.caload, 1) := by decide +kernel
theorem dX7_isWord_35 : decode cX7_isWord 35 = .ok (.if_icmp .ne 7, 3) := by decide +kernel
theorem dX7_isWord_38 : decode cX7_isWord 38 = .ok (.iconst 1, 1) := by decide +kernel
theorem dX7_isWord_39 : decode cX7_isWord 39 = .ok (.goto 4, 3) := by decide +kernel
theorem dX7_isWord_42 : decode cX7_isWord 42 = .ok (.iconst 0, 1) := by decide +kernel
theorem dX7_isWord_43 : decode cX7_isWord 43 = .ok (.istore_n 3, 1) := by decide +kernel
theorem dX7_isWord_44 : decode cX7_isWord 44 = .ok (.iinc 4 1, 3) := by decide +kernel
theorem dX7_isWord_47 : decode cX7_isWord 47 = .ok (.goto (-42), 3) := by decide +kernel
theorem dX7_isWord_50 : decode cX7_isWord 50 = .ok (.iload_n 3, 1) := by decide +kernel
theorem dX7_isWord_51 : decode cX7_isWord 51 = .ok (.ifCond .eq 27, 3) := by decide +kernel
theorem dX7_isWord_54 : decode cX7_isWord 54 = .ok (.aload_n 0, 1) := by decide +kernel
theorem dX7_isWord_55 : decode cX7_isWord 55 = .ok (.aload_n 0, 1) := by decide +kernel
theorem dX7_isWord_56 : decode cX7_isWord 56 = .ok (.getfield 51, 3) := by decide +kernel
theorem dX7_isWord_59 : decode cX7_isWord 59 = .ok (.iload_n 2, 1) := by decide +kernel
theorem dX7_isWord_60 : decode cX7_isWord 60 = .ok (.iadd, 1) := by decide +kernel
theorem dX7_isWord_61 : decode cX7_isWord 61 = .ok (.invokevirtual 54, 3) := by decide +kernel
theorem dX7_isWord_64 : decode cX7_isWord 64 = .ok (.bipush 97, 2) := by decide +kernel
theorem dX7_isWord_66 : decode cX7_isWord 66 = .ok (.bipush 122, 2) := by decide +kernel
theorem dX7_isWord_68 : decode cX7_isWord 68 = .ok (.invokestatic 39, 3) := by decide +kernel
theorem dX7_isWord_71 : decode cX7_isWord 71 = .ok (.ifCond .ne 7, 3) := by decide +kernel
theorem dX7_isWord_74 : decode cX7_isWord 74 = .ok (.iconst 1, 1) := by decide +kernel
theorem dX7_isWord_75 : decode cX7_isWord 75 = .ok (.goto 4, 3) := by decide +kernel
theorem dX7_isWord_78 : decode cX7_isWord 78 = .ok (.iconst 0, 1) := by decide +kernel
theorem dX7_isWord_79 : decode cX7_isWord 79 = .ok (.ireturn, 1) := by decide +kernel
set_option maxRecDepth 20000 in
theorem ggX7_word_X7_skips : GoodIn wsX7_word wsX7_skips := goodIn_r _ [7, 2, 8, 9, 10, 6, 11, 12, 13, 21, 22, 23, 24, 25, 26, 27, 28, 29, 30, 31, 32, 33, 34, 35, 36] (by decide +kernel) (by decide +kernel)
set_option maxRecDepth 20000 in
theorem gX7_word_X7_skips : GoodIn wsX7_word (wsV RX7 57 RX7 yX7_skips wsX7_skips) := goodIn_app (goodIn_of _ (by decide +kernel)) ggX7_word_X7_skips
set_option maxRecDepth 20000 in
theorem ggX7_word_X7_in : GoodIn wsX7_word wsX7_in := goodIn_r _ [16] (by decide +kernel) (by decide +kernel)
set_option maxRecDepth 20000 in
theorem gX7_word_X7_in : GoodIn wsX7_word (va_wsS RX7 39 yX7_in wsX7_in) := goodIn_app (goodIn_of _ (by decide +kernel)) ggX7_word_X7_in
set_option maxRecDepth 20000 in
theorem ggX7_word_X7_isWord : GoodIn wsX7_word wsX7_isWord := goodIn_r _ [20, 2, 1, 8, 9, 10, 6, 11, 12, 13, 14, 15, 16, 21, 22, 23, 24, 25, 26, 27, 28, 29, 30, 31, 32, 33, 34, 35, 36] (by decide +kernel) (by decide +kernel)
set_option maxRecDepth 20000 in
theorem gX7_word_X7_isWord : GoodIn wsX7_word (wsV RX7 67 RX7 yX7_isWord wsX7_isWord) := goodIn_app (goodIn_of _ (by decide +kernel)) ggX7_word_X7_isWord
theorem dX7_word_0 : decode cX7_word 0 = .ok (.aload_n 0, 1) := by decide +kernel
theorem dX7_word_1 : decode cX7_word 1 = .ok (.invokevirtual 57, 3) := by decide +kernel
theorem dX7_word_4 : decode cX7_word 4 = .ok (.iconst 0, 1) := by decide +kernel
theorem dX7_word_5 : decode cX7_word 5 = .ok (.istore_n 3, 1) := by decide +kernel
theorem dX7_word_6 : decode cX7_word 6 = .ok (.iconst 0, 1) := by decide +kernel
theorem dX7_word_7 : decode cX7_word 7 = .ok (.istore 4, 2) := by decide +kernel
theorem dX7_word_9 : decode cX7_word 9 = .ok (.iload 4, 2) := by decide +kernel
theorem dX7_word_11 : decode cX7_word 11 = .ok (.aload_n 0, 1) := by decide +kernel
theorem dX7_word_12 : decode cX7_word 12 = .ok (.getfield 22, 3) := by decide +kernel
theorem dX7_word_15 : decode cX7_word 15 = .ok (.arraylength, 1) := by decide +kernel
theorem dX7_word_16 : decode cX7_word 16 = .ok (.if_icmp .ge 77, 3) := by decide +kernel
theorem dX7_word_19 : decode cX7_word 19 = .ok (.iconst 0, 1) := by decide +kernel
theorem dX7_word_20 : decode cX7_word 20 = .ok (.istore 5, 2) := by decide +kernel
theorem dX7_word_22 : decode cX7_word 22 = .ok (.aload_n 0, 1) := by decide +kernel
theorem dX7_word_23 : decode cX7_word 23 = .ok (.getfield 22, 3) := by decide +kernel
theorem dX7_word_26 : decode cX7_word 26 = .ok (.iload 4, 2) := by decide +kernel
theorem dX7_word_28 : decode cX7_word 28 = .ok (.iload 5, 2) := by decide +kernel
theorem dX7_word_30 : decode cX7_word 30 = .ok (.iadd, 1) := by decide +kernel
theorem dX7_word_31 : decode cX7_word 31 = .ok (.caload, 1) := by decide +kernel
theorem dX7_word_32 : decode cX7_word 32 = .ok (.bipush 32, 2) := by decide +kernel
theorem dX7_word_34 : decode cX7_word 34 = .ok (.if_icmp .eq 9, 3) := by decide +kernel
theorem dX7_word_37 : decode cX7_word 37 = .ok (.iinc 5 1, 3) := by decide +kernel
theorem dX7_word_40 : decode cX7_word 40 = .ok (.goto (-18), 3) := by decide +kernel
theorem dX7_word_43 : decode cX7_word 43 = .ok (.iload_n 3, 1) := by decide +kernel
theorem dX7_word_44 : decode cX7_word 44 = .ok (.iload_n 1, 1) := by decide +kernel
theorem dX7_word_45 : decode cX7_word 45 = .ok (.iload_n 2, 1) := by decide +kernel
theorem dX7_word_46 : decode cX7_word 46 = .ok (.invokestatic 39, 3) := by decide +kernel
theorem dX7_word_49 : decode cX7_word 49 = .ok (.ifCond .eq 29, 3) := by decide +kernel
theorem dX7_word_52 : decode cX7_word 52 = .ok (.aload_n 0, 1) := by decide +kernel
theorem dX7_word_53 : decode cX7_word 53 = .ok (.iload 4, 2) := by decide +kernel
theorem dX7_word_55 : decode cX7_word 55 = .ok (.iload 5, 2) := by decide +kernel
theorem dX7_word_57 : decode cX7_word 57 = .ok (.invokevirtual 67, 3) := by decide +kernel
theorem dX7_word_60 : decode cX7_word 60 = .ok (.ifCond .eq 18, 3) := by decide +kernel
theorem dX7_word_63 : decode cX7_word 63 = .ok (.aload_n 0, 1) := by decide +kernel
theorem dX7_word_64 : decode cX7_word 64 = .ok (.dup, 1) := by decide +kernel
theorem dX7_word_65 : decode cX7_word 65 = .ok (.getfield 51, 3) := by decide +kernel
theorem dX7_word_68 : decode cX7_word 68 = .ok (.iload 5, 2) := by decide +kernel
theorem dX7_word_70 : decode cX7_word 70 = .ok (.iadd, 1) := by decide +kernel
theorem dX7_word_71 : decode cX7_word 71 = .ok (.putfield 51, 3) := by decide +kernel
theorem dX7_word_74 : decode cX7_word 74 = .ok (.iload_n 3, 1) := by decide +kernel
theorem dX7_word_75 : decode cX7_word 75 = .ok (.iload_n 1, 1) := by decide +kernel
theorem dX7_word_76 : decode cX7_word 76 = .ok (.isub, 1) := by decide +kernel
theorem dX7_word_77 : decode cX7_word 77 = .ok (.ireturn, 1) := by decide +kernel
theorem dX7_word_78 : decode cX7_word 78 = .ok (.iinc 3 1, 3) := by decide +kernel
theorem dX7_word_81 : decode cX7_word 81 = .ok (.iload 4, 2) := by decide +kernel
theorem dX7_word_83 : decode cX7_word 83 = .ok (.iload 5, 2) := by decide +kernel
theorem dX7_word_85 : decode cX7_word 85 = .ok (.iconst 1, 1) := by decide +kernel
theorem dX7_word_86 : decode cX7_word 86 = .ok (.iadd, 1) := by decide +kernel
theorem dX7_word_87 : decode cX7_word 87 = .ok (.iadd, 1) := by decide +kernel
theorem dX7_word_88 : decode cX7_word 88 = .ok (.istore 4, 2) := by decide +kernel
theorem dX7_word_90 : decode cX7_word 90 = .ok (.goto (-81), 3) := by decide +kernel
theorem dX7_word_93 : decode cX7_word 93 = .ok (.iconst (-1), 1) := by decide +kernel
theorem dX7_word_94 : decode cX7_word 94 = .ok (.ireturn, 1) := by decide +kernel
set_option maxRecDepth 20000 in
theorem ggX7_ends_X7_skips : GoodIn wsX7_ends wsX7_skips := goodIn_r _ [6, 1, 7, 8, 9, 5, 10, 11, 12, 13, 14, 15, 16, 17, 18, 19, 20, 21, 22, 23, 24, 25, 26, 27, 28] (by decide +kernel) (by decide +kernel)
set_option maxRecDepth 20000 in
theorem gX7_ends_X7_skips : GoodIn wsX7_ends (wsV RX7 57 RX7 yX7_skips wsX7_skips) := goodIn_app (goodIn_of _ (by decide +kernel)) ggX7_ends_X7_skips
set_option maxRecDepth 20000 in
theorem ggX7_ends_X7_byteAt : GoodIn wsX7_ends wsX7_byteAt := goodIn_r _ [10, 11, 12, 13, 14, 15, 16, 17, 18, 19, 20, 21, 22, 23, 24, 25, 26, 27, 28] (by decide +kernel) (by decide +kernel)
set_option maxRecDepth 20000 in
theorem gX7_ends_X7_byteAt : GoodIn wsX7_ends (wsV RX7 54 RX7 yX7_byteAt wsX7_byteAt) := goodIn_app (goodIn_of _ (by decide +kernel)) ggX7_ends_X7_byteAt
theorem dX7_ends_0 : decode cX7_ends 0 = .ok (.aload_n 0, 1) := by decide +kernel
theorem dX7_ends_1 : decode cX7_ends 1 = .ok (.invokevirtual 57, 3) := by decide +kernel
theorem dX7_ends_4 : decode cX7_ends 4 = .ok (.aload_n 0, 1) := by decide +kernel
theorem dX7_ends_5 : decode cX7_ends 5 = .ok (.aload_n 0, 1) := by decide +kernel
theorem dX7_ends_6 : decode cX7_ends 6 = .ok (.getfield 51, 3) := by decide +kernel
theorem dX7_ends_9 : decode cX7_ends 9 = .ok (.invokevirtual 54, 3) := by decide +kernel
theorem dX7_ends_12 : decode cX7_ends 12 = .ok (.bipush 59, 2) := by decide +kernel
theorem dX7_ends_14 : decode cX7_ends 14 = .ok (.if_icmp .ne 7, 3) := by decide +kernel
theorem dX7_ends_17 : decode cX7_ends 17 = .ok (.iconst 1, 1) := by decide +kernel
theorem dX7_ends_18 : decode cX7_ends 18 = .ok (.goto 4, 3) := by decide +kernel
theorem dX7_ends_21 : decode cX7_ends 21 = .ok (.iconst 0, 1) := by decide +kernel
theorem dX7_ends_22 : decode cX7_ends 22 = .ok (.istore_n 1, 1) := by decide +kernel
theorem dX7_ends_23 : decode cX7_ends 23 = .ok (.aload_n 0, 1) := by decide +kernel
theorem dX7_ends_24 : decode cX7_ends 24 = .ok (.dup, 1) := by decide +kernel
theorem dX7_ends_25 : decode cX7_ends 25 = .ok (.getfield 51, 3) := by decide +kernel
theorem dX7_ends_28 : decode cX7_ends 28 = .ok (.iload_n 1, 1) := by decide +kernel
theorem dX7_ends_29 : decode cX7_ends 29 = .ok (.ifCond .eq 7, 3) := by decide +kernel
theorem dX7_ends_32 : decode cX7_ends 32 = .ok (.iconst 1, 1) := by decide +kernel
theorem dX7_ends_33 : decode cX7_ends 33 = .ok (.goto 4, 3) := by decide +kernel
theorem dX7_ends_36 : decode cX7_ends 36 = .ok (.iconst 0, 1) := by decide +kernel
theorem dX7_ends_37 : decode cX7_ends 37 = .ok (.iadd, 1) := by decide +kernel
theorem dX7_ends_38 : decode cX7_ends 38 = .ok (.putfield 51, 3) := by decide +kernel
theorem dX7_ends_41 : decode cX7_ends 41 = .ok (.iload_n 1, 1) := by decide +kernel
theorem dX7_ends_42 : decode cX7_ends 42 = .ok (.ireturn, 1) := by decide +kernel
set_option maxRecDepth 20000 in
theorem ggX7_readsGate_X7_word : GoodIn wsX7_readsGate wsX7_word := goodIn_r _ [7, 8, 9, 10, 11, 12, 6, 13, 14, 15, 16, 17, 18, 19, 20, 21, 22, 23, 24, 25, 26, 38, 39, 40, 41, 42, 43, 44, 45, 46, 47, 48, 49, 50, 51, 52, 53] (by decide +kernel) (by decide +kernel)
set_option maxRecDepth 20000 in
theorem gX7_readsGate_X7_word : GoodIn wsX7_readsGate (wsV RX7 71 RX7 yX7_word wsX7_word) := goodIn_app (goodIn_of _ (by decide +kernel)) ggX7_readsGate_X7_word
set_option maxRecDepth 20000 in
theorem ggX7_readsGate_X7_isNumber : GoodIn wsX7_readsGate wsX7_isNumber := goodIn_r _ [30, 9, 19, 2, 10, 11, 12, 6, 13, 14, 15, 16, 17, 18, 31, 32, 33, 20, 21, 22, 38, 39, 40, 41, 42, 43, 44, 45, 46, 47, 48, 49, 50, 51, 52, 53] (by decide +kernel) (by decide +kernel)
set_option maxRecDepth 20000 in
theorem gX7_readsGate_X7_isNumber : GoodIn wsX7_readsGate (wsV RX7 75 RX7 yX7_isNumber wsX7_isNumber) := goodIn_app (goodIn_of _ (by decide +kernel)) ggX7_readsGate_X7_isNumber
set_option maxRecDepth 20000 in
theorem ggX7_readsGate_X7_ends : GoodIn wsX7_readsGate wsX7_ends := goodIn_r _ [37, 9, 10, 11, 12, 6, 13, 14, 15, 16, 17, 18, 19, 38, 39, 40, 41, 42, 43, 44, 45, 46, 47, 48, 49, 50, 51, 52, 53] (by decide +kernel) (by decide +kernel)
set_option maxRecDepth 20000 in
theorem gX7_readsGate_X7_ends : GoodIn wsX7_readsGate (wsV RX7 78 RX7 yX7_ends wsX7_ends) := goodIn_app (goodIn_of _ (by decide +kernel)) ggX7_readsGate_X7_ends
theorem dX7_readsGate_0 : decode cX7_readsGate 0 = .ok (.aload_n 0, 1) := by decide +kernel
theorem dX7_readsGate_1 : decode cX7_readsGate 1 = .ok (.getfield 13, 3) := by decide +kernel
theorem dX7_readsGate_4 : decode cX7_readsGate 4 = .ok (.iconst 1, 1) := by decide +kernel
theorem dX7_readsGate_5 : decode cX7_readsGate 5 = .ok (.iaload, 1) := by decide +kernel
theorem dX7_readsGate_6 : decode cX7_readsGate 6 = .ok (.istore_n 1, 1) := by decide +kernel
theorem dX7_readsGate_7 : decode cX7_readsGate 7 = .ok (.aload_n 0, 1) := by decide +kernel
theorem dX7_readsGate_8 : decode cX7_readsGate 8 = .ok (.getfield 13, 3) := by decide +kernel
theorem dX7_readsGate_11 : decode cX7_readsGate 11 = .ok (.iconst 0, 1) := by decide +kernel
theorem dX7_readsGate_12 : decode cX7_readsGate 12 = .ok (.iaload, 1) := by decide +kernel
theorem dX7_readsGate_13 : decode cX7_readsGate 13 = .ok (.iload_n 1, 1) := by decide +kernel
theorem dX7_readsGate_14 : decode cX7_readsGate 14 = .ok (.iadd, 1) := by decide +kernel
theorem dX7_readsGate_15 : decode cX7_readsGate 15 = .ok (.iconst 1, 1) := by decide +kernel
theorem dX7_readsGate_16 : decode cX7_readsGate 16 = .ok (.isub, 1) := by decide +kernel
theorem dX7_readsGate_17 : decode cX7_readsGate 17 = .ok (.istore_n 2, 1) := by decide +kernel
theorem dX7_readsGate_18 : decode cX7_readsGate 18 = .ok (.aload_n 0, 1) := by decide +kernel
theorem dX7_readsGate_19 : decode cX7_readsGate 19 = .ok (.iconst 0, 1) := by decide +kernel
theorem dX7_readsGate_20 : decode cX7_readsGate 20 = .ok (.bipush 7, 2) := by decide +kernel
theorem dX7_readsGate_22 : decode cX7_readsGate 22 = .ok (.invokevirtual 71, 3) := by decide +kernel
theorem dX7_readsGate_25 : decode cX7_readsGate 25 = .ok (.istore_n 3, 1) := by decide +kernel
theorem dX7_readsGate_26 : decode cX7_readsGate 26 = .ok (.iload_n 3, 1) := by decide +kernel
theorem dX7_readsGate_27 : decode cX7_readsGate 27 = .ok (.ifCond .ge 5, 3) := by decide +kernel
theorem dX7_readsGate_30 : decode cX7_readsGate 30 = .ok (.iconst 0, 1) := by decide +kernel
theorem dX7_readsGate_31 : decode cX7_readsGate 31 = .ok (.ireturn, 1) := by decide +kernel
theorem dX7_readsGate_32 : decode cX7_readsGate 32 = .ok (.aload_n 0, 1) := by decide +kernel
theorem dX7_readsGate_33 : decode cX7_readsGate 33 = .ok (.getfield 13, 3) := by decide +kernel
theorem dX7_readsGate_36 : decode cX7_readsGate 36 = .ok (.bipush 6, 2) := by decide +kernel
theorem dX7_readsGate_38 : decode cX7_readsGate 38 = .ok (.iload_n 1, 1) := by decide +kernel
theorem dX7_readsGate_39 : decode cX7_readsGate 39 = .ok (.iadd, 1) := by decide +kernel
theorem dX7_readsGate_40 : decode cX7_readsGate 40 = .ok (.iload_n 3, 1) := by decide +kernel
theorem dX7_readsGate_41 : decode cX7_readsGate 41 = .ok (.iastore, 1) := by decide +kernel
theorem dX7_readsGate_42 : decode cX7_readsGate 42 = .ok (.aload_n 0, 1) := by decide +kernel
theorem dX7_readsGate_43 : decode cX7_readsGate 43 = .ok (.iconst 0, 1) := by decide +kernel
theorem dX7_readsGate_44 : decode cX7_readsGate 44 = .ok (.iload_n 2, 1) := by decide +kernel
theorem dX7_readsGate_45 : decode cX7_readsGate 45 = .ok (.invokevirtual 75, 3) := by decide +kernel
theorem dX7_readsGate_48 : decode cX7_readsGate 48 = .ok (.ifCond .ne 5, 3) := by decide +kernel
theorem dX7_readsGate_51 : decode cX7_readsGate 51 = .ok (.iconst 0, 1) := by decide +kernel
theorem dX7_readsGate_52 : decode cX7_readsGate 52 = .ok (.ireturn, 1) := by decide +kernel
theorem dX7_readsGate_53 : decode cX7_readsGate 53 = .ok (.aload_n 0, 1) := by decide +kernel
theorem dX7_readsGate_54 : decode cX7_readsGate 54 = .ok (.getfield 13, 3) := by decide +kernel
theorem dX7_readsGate_57 : decode cX7_readsGate 57 = .ok (.bipush 18, 2) := by decide +kernel
theorem dX7_readsGate_59 : decode cX7_readsGate 59 = .ok (.iload_n 1, 1) := by decide +kernel
theorem dX7_readsGate_60 : decode cX7_readsGate 60 = .ok (.iadd, 1) := by decide +kernel
theorem dX7_readsGate_61 : decode cX7_readsGate 61 = .ok (.aload_n 0, 1) := by decide +kernel
theorem dX7_readsGate_62 : decode cX7_readsGate 62 = .ok (.getfield 64, 3) := by decide +kernel
theorem dX7_readsGate_65 : decode cX7_readsGate 65 = .ok (.iastore, 1) := by decide +kernel
theorem dX7_readsGate_66 : decode cX7_readsGate 66 = .ok (.aload_n 0, 1) := by decide +kernel
theorem dX7_readsGate_67 : decode cX7_readsGate 67 = .ok (.getfield 13, 3) := by decide +kernel
theorem dX7_readsGate_70 : decode cX7_readsGate 70 = .ok (.bipush 30, 2) := by decide +kernel
theorem dX7_readsGate_72 : decode cX7_readsGate 72 = .ok (.iload_n 1, 1) := by decide +kernel
theorem dX7_readsGate_73 : decode cX7_readsGate 73 = .ok (.iadd, 1) := by decide +kernel
theorem dX7_readsGate_74 : decode cX7_readsGate 74 = .ok (.iconst (-1), 1) := by decide +kernel
theorem dX7_readsGate_75 : decode cX7_readsGate 75 = .ok (.iastore, 1) := by decide +kernel
theorem dX7_readsGate_76 : decode cX7_readsGate 76 = .ok (.iload_n 3, 1) := by decide +kernel
theorem dX7_readsGate_77 : decode cX7_readsGate 77 = .ok (.ifCond .eq 27, 3) := by decide +kernel
theorem dX7_readsGate_80 : decode cX7_readsGate 80 = .ok (.aload_n 0, 1) := by decide +kernel
theorem dX7_readsGate_81 : decode cX7_readsGate 81 = .ok (.iconst 0, 1) := by decide +kernel
theorem dX7_readsGate_82 : decode cX7_readsGate 82 = .ok (.iload_n 2, 1) := by decide +kernel
theorem dX7_readsGate_83 : decode cX7_readsGate 83 = .ok (.invokevirtual 75, 3) := by decide +kernel
theorem dX7_readsGate_86 : decode cX7_readsGate 86 = .ok (.ifCond .ne 5, 3) := by decide +kernel
theorem dX7_readsGate_89 : decode cX7_readsGate 89 = .ok (.iconst 0, 1) := by decide +kernel
theorem dX7_readsGate_90 : decode cX7_readsGate 90 = .ok (.ireturn, 1) := by decide +kernel
theorem dX7_readsGate_91 : decode cX7_readsGate 91 = .ok (.aload_n 0, 1) := by decide +kernel
theorem dX7_readsGate_92 : decode cX7_readsGate 92 = .ok (.getfield 13, 3) := by decide +kernel
theorem dX7_readsGate_95 : decode cX7_readsGate 95 = .ok (.bipush 30, 2) := by decide +kernel
theorem dX7_readsGate_97 : decode cX7_readsGate 97 = .ok (.iload_n 1, 1) := by decide +kernel
theorem dX7_readsGate_98 : decode cX7_readsGate 98 = .ok (.iadd, 1) := by decide +kernel
theorem dX7_readsGate_99 : decode cX7_readsGate 99 = .ok (.aload_n 0, 1) := by decide +kernel
theorem dX7_readsGate_100 : decode cX7_readsGate 100 = .ok (.getfield 64, 3) := by decide +kernel
theorem dX7_readsGate_103 : decode cX7_readsGate 103 = .ok (.iastore, 1) := by decide +kernel
theorem dX7_readsGate_104 : decode cX7_readsGate 104 = .ok (.aload_n 0, 1) := by decide +kernel
theorem dX7_readsGate_105 : decode cX7_readsGate 105 = .ok (.getfield 13, 3) := by decide +kernel
theorem dX7_readsGate_108 : decode cX7_readsGate 108 = .ok (.iconst 1, 1) := by decide +kernel
theorem dX7_readsGate_109 : decode cX7_readsGate 109 = .ok (.dup2, 1) := by decide +kernel
theorem dX7_readsGate_110 : decode cX7_readsGate 110 = .ok (.iaload, 1) := by decide +kernel
theorem dX7_readsGate_111 : decode cX7_readsGate 111 = .ok (.iconst 1, 1) := by decide +kernel
theorem dX7_readsGate_112 : decode cX7_readsGate 112 = .ok (.iadd, 1) := by decide +kernel
theorem dX7_readsGate_113 : decode cX7_readsGate 113 = .ok (.iastore, 1) := by decide +kernel
theorem dX7_readsGate_114 : decode cX7_readsGate 114 = .ok (.aload_n 0, 1) := by decide +kernel
theorem dX7_readsGate_115 : decode cX7_readsGate 115 = .ok (.invokevirtual 78, 3) := by decide +kernel
theorem dX7_readsGate_118 : decode cX7_readsGate 118 = .ok (.ireturn, 1) := by decide +kernel
set_option maxRecDepth 20000 in
theorem ggX7_readsOuts_X7_skips : GoodIn wsX7_readsOuts wsX7_skips := goodIn_r _ [8, 2, 9, 10, 11, 7, 12, 13, 14, 29, 30, 31, 32, 33, 34, 35, 36, 37, 38, 39, 40, 41, 42, 43, 44] (by decide +kernel) (by decide +kernel)
set_option maxRecDepth 20000 in
theorem gX7_readsOuts_X7_skips : GoodIn wsX7_readsOuts (wsV RX7 57 RX7 yX7_skips wsX7_skips) := goodIn_app (goodIn_of _ (by decide +kernel)) ggX7_readsOuts_X7_skips
set_option maxRecDepth 20000 in
theorem ggX7_readsOuts_X7_byteAt : GoodIn wsX7_readsOuts wsX7_byteAt := goodIn_r _ [12, 13, 14, 29, 30, 31, 32, 33, 34, 35, 36, 37, 38, 39, 40, 41, 42, 43, 44] (by decide +kernel) (by decide +kernel)
set_option maxRecDepth 20000 in
theorem gX7_readsOuts_X7_byteAt : GoodIn wsX7_readsOuts (wsV RX7 54 RX7 yX7_byteAt wsX7_byteAt) := goodIn_app (goodIn_of _ (by decide +kernel)) ggX7_readsOuts_X7_byteAt
set_option maxRecDepth 20000 in
theorem ggX7_readsOuts_X7_ends : GoodIn wsX7_readsOuts wsX7_ends := goodIn_r _ [18, 2, 4, 5, 6, 7, 8, 9, 10, 11, 12, 13, 14, 29, 30, 31, 32, 33, 34, 35, 36, 37, 38, 39, 40, 41, 42, 43, 44] (by decide +kernel) (by decide +kernel)
set_option maxRecDepth 20000 in
theorem gX7_readsOuts_X7_ends : GoodIn wsX7_readsOuts (wsV RX7 78 RX7 yX7_ends wsX7_ends) := goodIn_app (goodIn_of _ (by decide +kernel)) ggX7_readsOuts_X7_ends
set_option maxRecDepth 20000 in
theorem ggX7_readsOuts_X7_isNumber : GoodIn wsX7_readsOuts wsX7_isNumber := goodIn_r _ [22, 2, 14, 3, 4, 5, 6, 7, 8, 9, 10, 11, 12, 13, 23, 24, 25, 26, 27, 28, 29, 30, 31, 32, 33, 34, 35, 36, 37, 38, 39, 40, 41, 42, 43, 44] (by decide +kernel) (by decide +kernel)
set_option maxRecDepth 20000 in
theorem gX7_readsOuts_X7_isNumber : GoodIn wsX7_readsOuts (wsV RX7 75 RX7 yX7_isNumber wsX7_isNumber) := goodIn_app (goodIn_of _ (by decide +kernel)) ggX7_readsOuts_X7_isNumber
theorem dX7_readsOuts_0 : decode cX7_readsOuts 0 = .ok (.aload_n 0, 1) := by decide +kernel
theorem dX7_readsOuts_1 : decode cX7_readsOuts 1 = .ok (.getfield 13, 3) := by decide +kernel
theorem dX7_readsOuts_4 : decode cX7_readsOuts 4 = .ok (.iconst 0, 1) := by decide +kernel
theorem dX7_readsOuts_5 : decode cX7_readsOuts 5 = .ok (.iaload, 1) := by decide +kernel
theorem dX7_readsOuts_6 : decode cX7_readsOuts 6 = .ok (.aload_n 0, 1) := by decide +kernel
theorem dX7_readsOuts_7 : decode cX7_readsOuts 7 = .ok (.getfield 13, 3) := by decide +kernel
theorem dX7_readsOuts_10 : decode cX7_readsOuts 10 = .ok (.iconst 1, 1) := by decide +kernel
theorem dX7_readsOuts_11 : decode cX7_readsOuts 11 = .ok (.iaload, 1) := by decide +kernel
theorem dX7_readsOuts_12 : decode cX7_readsOuts 12 = .ok (.iadd, 1) := by decide +kernel
theorem dX7_readsOuts_13 : decode cX7_readsOuts 13 = .ok (.iconst 1, 1) := by decide +kernel
theorem dX7_readsOuts_14 : decode cX7_readsOuts 14 = .ok (.isub, 1) := by decide +kernel
theorem dX7_readsOuts_15 : decode cX7_readsOuts 15 = .ok (.istore_n 1, 1) := by decide +kernel
theorem dX7_readsOuts_16 : decode cX7_readsOuts 16 = .ok (.aload_n 0, 1) := by decide +kernel
theorem dX7_readsOuts_17 : decode cX7_readsOuts 17 = .ok (.invokevirtual 57, 3) := by decide +kernel
theorem dX7_readsOuts_20 : decode cX7_readsOuts 20 = .ok (.aload_n 0, 1) := by decide +kernel
theorem dX7_readsOuts_21 : decode cX7_readsOuts 21 = .ok (.getfield 13, 3) := by decide +kernel
theorem dX7_readsOuts_24 : decode cX7_readsOuts 24 = .ok (.iconst 2, 1) := by decide +kernel
theorem dX7_readsOuts_25 : decode cX7_readsOuts 25 = .ok (.iaload, 1) := by decide +kernel
theorem dX7_readsOuts_26 : decode cX7_readsOuts 26 = .ok (.ifCond .le 21, 3) := by decide +kernel
theorem dX7_readsOuts_29 : decode cX7_readsOuts 29 = .ok (.aload_n 0, 1) := by decide +kernel
theorem dX7_readsOuts_30 : decode cX7_readsOuts 30 = .ok (.aload_n 0, 1) := by decide +kernel
theorem dX7_readsOuts_31 : decode cX7_readsOuts 31 = .ok (.getfield 51, 3) := by decide +kernel
theorem dX7_readsOuts_34 : decode cX7_readsOuts 34 = .ok (.invokevirtual 54, 3) := by decide +kernel
theorem dX7_readsOuts_37 : decode cX7_readsOuts 37 = .ok (.bipush 59, 2) := by decide +kernel
theorem dX7_readsOuts_39 : decode cX7_readsOuts 39 = .ok (.if_icmp .ne 8, 3) := by decide +kernel
theorem dX7_readsOuts_42 : decode cX7_readsOuts 42 = .ok (.aload_n 0, 1) := by decide +kernel
theorem dX7_readsOuts_43 : decode cX7_readsOuts 43 = .ok (.invokevirtual 78, 3) := by decide +kernel
theorem dX7_readsOuts_46 : decode cX7_readsOuts 46 = .ok (.ireturn, 1) := by decide +kernel
theorem dX7_readsOuts_47 : decode cX7_readsOuts 47 = .ok (.aload_n 0, 1) := by decide +kernel
theorem dX7_readsOuts_48 : decode cX7_readsOuts 48 = .ok (.getfield 13, 3) := by decide +kernel
theorem dX7_readsOuts_51 : decode cX7_readsOuts 51 = .ok (.iconst 2, 1) := by decide +kernel
theorem dX7_readsOuts_52 : decode cX7_readsOuts 52 = .ok (.iaload, 1) := by decide +kernel
theorem dX7_readsOuts_53 : decode cX7_readsOuts 53 = .ok (.bipush 7, 2) := by decide +kernel
theorem dX7_readsOuts_55 : decode cX7_readsOuts 55 = .ok (.if_icmp .eq 12, 3) := by decide +kernel
theorem dX7_readsOuts_58 : decode cX7_readsOuts 58 = .ok (.aload_n 0, 1) := by decide +kernel
theorem dX7_readsOuts_59 : decode cX7_readsOuts 59 = .ok (.iconst 0, 1) := by decide +kernel
theorem dX7_readsOuts_60 : decode cX7_readsOuts 60 = .ok (.iload_n 1, 1) := by decide +kernel
theorem dX7_readsOuts_61 : decode cX7_readsOuts 61 = .ok (.invokevirtual 75, 3) := by decide +kernel
theorem dX7_readsOuts_64 : decode cX7_readsOuts 64 = .ok (.ifCond .ne 5, 3) := by decide +kernel
theorem dX7_readsOuts_67 : decode cX7_readsOuts 67 = .ok (.iconst 0, 1) := by decide +kernel
theorem dX7_readsOuts_68 : decode cX7_readsOuts 68 = .ok (.ireturn, 1) := by decide +kernel
theorem dX7_readsOuts_69 : decode cX7_readsOuts 69 = .ok (.aload_n 0, 1) := by decide +kernel
theorem dX7_readsOuts_70 : decode cX7_readsOuts 70 = .ok (.getfield 13, 3) := by decide +kernel
theorem dX7_readsOuts_73 : decode cX7_readsOuts 73 = .ok (.bipush 42, 2) := by decide +kernel
theorem dX7_readsOuts_75 : decode cX7_readsOuts 75 = .ok (.aload_n 0, 1) := by decide +kernel
theorem dX7_readsOuts_76 : decode cX7_readsOuts 76 = .ok (.getfield 13, 3) := by decide +kernel
theorem dX7_readsOuts_79 : decode cX7_readsOuts 79 = .ok (.iconst 2, 1) := by decide +kernel
theorem dX7_readsOuts_80 : decode cX7_readsOuts 80 = .ok (.iaload, 1) := by decide +kernel
theorem dX7_readsOuts_81 : decode cX7_readsOuts 81 = .ok (.iadd, 1) := by decide +kernel
theorem dX7_readsOuts_82 : decode cX7_readsOuts 82 = .ok (.aload_n 0, 1) := by decide +kernel
theorem dX7_readsOuts_83 : decode cX7_readsOuts 83 = .ok (.getfield 64, 3) := by decide +kernel
theorem dX7_readsOuts_86 : decode cX7_readsOuts 86 = .ok (.iastore, 1) := by decide +kernel
theorem dX7_readsOuts_87 : decode cX7_readsOuts 87 = .ok (.aload_n 0, 1) := by decide +kernel
theorem dX7_readsOuts_88 : decode cX7_readsOuts 88 = .ok (.getfield 13, 3) := by decide +kernel
theorem dX7_readsOuts_91 : decode cX7_readsOuts 91 = .ok (.iconst 2, 1) := by decide +kernel
theorem dX7_readsOuts_92 : decode cX7_readsOuts 92 = .ok (.dup2, 1) := by decide +kernel
theorem dX7_readsOuts_93 : decode cX7_readsOuts 93 = .ok (.iaload, 1) := by decide +kernel
theorem dX7_readsOuts_94 : decode cX7_readsOuts 94 = .ok (.iconst 1, 1) := by decide +kernel
theorem dX7_readsOuts_95 : decode cX7_readsOuts 95 = .ok (.iadd, 1) := by decide +kernel
theorem dX7_readsOuts_96 : decode cX7_readsOuts 96 = .ok (.iastore, 1) := by decide +kernel
theorem dX7_readsOuts_97 : decode cX7_readsOuts 97 = .ok (.goto (-81), 3) := by decide +kernel
set_option maxRecDepth 20000 in
theorem ggX7_readsTask_X7_word : GoodIn wsX7_readsTask wsX7_word := goodIn_r _ [7, 8, 9, 10, 11, 12, 6, 13, 14, 15, 16, 17, 18, 19, 20, 21, 22, 23, 24, 25, 26, 38, 39, 40, 41, 42, 43, 44, 45, 46, 47, 48, 49, 50, 51, 52, 53] (by decide +kernel) (by decide +kernel)
set_option maxRecDepth 20000 in
theorem gX7_readsTask_X7_word : GoodIn wsX7_readsTask (wsV RX7 71 RX7 yX7_word wsX7_word) := goodIn_app (goodIn_of _ (by decide +kernel)) ggX7_readsTask_X7_word
set_option maxRecDepth 20000 in
theorem ggX7_readsTask_X7_isNumber : GoodIn wsX7_readsTask wsX7_isNumber := goodIn_r _ [30, 9, 19, 2, 10, 11, 12, 6, 13, 14, 15, 16, 17, 18, 31, 32, 33, 20, 21, 22, 38, 39, 40, 41, 42, 43, 44, 45, 46, 47, 48, 49, 50, 51, 52, 53] (by decide +kernel) (by decide +kernel)
set_option maxRecDepth 20000 in
theorem gX7_readsTask_X7_isNumber : GoodIn wsX7_readsTask (wsV RX7 75 RX7 yX7_isNumber wsX7_isNumber) := goodIn_app (goodIn_of _ (by decide +kernel)) ggX7_readsTask_X7_isNumber
set_option maxRecDepth 20000 in
theorem ggX7_readsTask_X7_ends : GoodIn wsX7_readsTask wsX7_ends := goodIn_r _ [37, 9, 10, 11, 12, 6, 13, 14, 15, 16, 17, 18, 19, 38, 39, 40, 41, 42, 43, 44, 45, 46, 47, 48, 49, 50, 51, 52, 53] (by decide +kernel) (by decide +kernel)
set_option maxRecDepth 20000 in
theorem gX7_readsTask_X7_ends : GoodIn wsX7_readsTask (wsV RX7 78 RX7 yX7_ends wsX7_ends) := goodIn_app (goodIn_of _ (by decide +kernel)) ggX7_readsTask_X7_ends
theorem dX7_readsTask_0 : decode cX7_readsTask 0 = .ok (.aload_n 0, 1) := by decide +kernel
theorem dX7_readsTask_1 : decode cX7_readsTask 1 = .ok (.bipush 8, 2) := by decide +kernel
theorem dX7_readsTask_3 : decode cX7_readsTask 3 = .ok (.bipush 11, 2) := by decide +kernel
theorem dX7_readsTask_5 : decode cX7_readsTask 5 = .ok (.invokevirtual 71, 3) := by decide +kernel
theorem dX7_readsTask_8 : decode cX7_readsTask 8 = .ok (.istore_n 1, 1) := by decide +kernel
theorem dX7_readsTask_9 : decode cX7_readsTask 9 = .ok (.iload_n 1, 1) := by decide +kernel
theorem dX7_readsTask_10 : decode cX7_readsTask 10 = .ok (.ifCond .ge 5, 3) := by decide +kernel
theorem dX7_readsTask_13 : decode cX7_readsTask 13 = .ok (.iconst 0, 1) := by decide +kernel
theorem dX7_readsTask_14 : decode cX7_readsTask 14 = .ok (.ireturn, 1) := by decide +kernel
theorem dX7_readsTask_15 : decode cX7_readsTask 15 = .ok (.aload_n 0, 1) := by decide +kernel
theorem dX7_readsTask_16 : decode cX7_readsTask 16 = .ok (.getfield 13, 3) := by decide +kernel
theorem dX7_readsTask_19 : decode cX7_readsTask 19 = .ok (.iconst 3, 1) := by decide +kernel
theorem dX7_readsTask_20 : decode cX7_readsTask 20 = .ok (.iload_n 1, 1) := by decide +kernel
theorem dX7_readsTask_21 : decode cX7_readsTask 21 = .ok (.iastore, 1) := by decide +kernel
theorem dX7_readsTask_22 : decode cX7_readsTask 22 = .ok (.aload_n 0, 1) := by decide +kernel
theorem dX7_readsTask_23 : decode cX7_readsTask 23 = .ok (.iconst 1, 1) := by decide +kernel
theorem dX7_readsTask_24 : decode cX7_readsTask 24 = .ok (.aload_n 0, 1) := by decide +kernel
theorem dX7_readsTask_25 : decode cX7_readsTask 25 = .ok (.getfield 13, 3) := by decide +kernel
theorem dX7_readsTask_28 : decode cX7_readsTask 28 = .ok (.iconst 0, 1) := by decide +kernel
theorem dX7_readsTask_29 : decode cX7_readsTask 29 = .ok (.iaload, 1) := by decide +kernel
theorem dX7_readsTask_30 : decode cX7_readsTask 30 = .ok (.invokevirtual 75, 3) := by decide +kernel
theorem dX7_readsTask_33 : decode cX7_readsTask 33 = .ok (.ifCond .ne 5, 3) := by decide +kernel
theorem dX7_readsTask_36 : decode cX7_readsTask 36 = .ok (.iconst 0, 1) := by decide +kernel
theorem dX7_readsTask_37 : decode cX7_readsTask 37 = .ok (.ireturn, 1) := by decide +kernel
theorem dX7_readsTask_38 : decode cX7_readsTask 38 = .ok (.aload_n 0, 1) := by decide +kernel
theorem dX7_readsTask_39 : decode cX7_readsTask 39 = .ok (.getfield 13, 3) := by decide +kernel
theorem dX7_readsTask_42 : decode cX7_readsTask 42 = .ok (.iconst 4, 1) := by decide +kernel
theorem dX7_readsTask_43 : decode cX7_readsTask 43 = .ok (.aload_n 0, 1) := by decide +kernel
theorem dX7_readsTask_44 : decode cX7_readsTask 44 = .ok (.getfield 64, 3) := by decide +kernel
theorem dX7_readsTask_47 : decode cX7_readsTask 47 = .ok (.iastore, 1) := by decide +kernel
theorem dX7_readsTask_48 : decode cX7_readsTask 48 = .ok (.aload_n 0, 1) := by decide +kernel
theorem dX7_readsTask_49 : decode cX7_readsTask 49 = .ok (.iconst 0, 1) := by decide +kernel
theorem dX7_readsTask_50 : decode cX7_readsTask 50 = .ok (.aload_n 0, 1) := by decide +kernel
theorem dX7_readsTask_51 : decode cX7_readsTask 51 = .ok (.getfield 13, 3) := by decide +kernel
theorem dX7_readsTask_54 : decode cX7_readsTask 54 = .ok (.iconst 0, 1) := by decide +kernel
theorem dX7_readsTask_55 : decode cX7_readsTask 55 = .ok (.iaload, 1) := by decide +kernel
theorem dX7_readsTask_56 : decode cX7_readsTask 56 = .ok (.aload_n 0, 1) := by decide +kernel
theorem dX7_readsTask_57 : decode cX7_readsTask 57 = .ok (.getfield 13, 3) := by decide +kernel
theorem dX7_readsTask_60 : decode cX7_readsTask 60 = .ok (.iconst 4, 1) := by decide +kernel
theorem dX7_readsTask_61 : decode cX7_readsTask 61 = .ok (.iaload, 1) := by decide +kernel
theorem dX7_readsTask_62 : decode cX7_readsTask 62 = .ok (.isub, 1) := by decide +kernel
theorem dX7_readsTask_63 : decode cX7_readsTask 63 = .ok (.invokevirtual 75, 3) := by decide +kernel
theorem dX7_readsTask_66 : decode cX7_readsTask 66 = .ok (.ifCond .ne 5, 3) := by decide +kernel
theorem dX7_readsTask_69 : decode cX7_readsTask 69 = .ok (.iconst 0, 1) := by decide +kernel
theorem dX7_readsTask_70 : decode cX7_readsTask 70 = .ok (.ireturn, 1) := by decide +kernel
theorem dX7_readsTask_71 : decode cX7_readsTask 71 = .ok (.aload_n 0, 1) := by decide +kernel
theorem dX7_readsTask_72 : decode cX7_readsTask 72 = .ok (.getfield 13, 3) := by decide +kernel
theorem dX7_readsTask_75 : decode cX7_readsTask 75 = .ok (.iconst 5, 1) := by decide +kernel
theorem dX7_readsTask_76 : decode cX7_readsTask 76 = .ok (.aload_n 0, 1) := by decide +kernel
theorem dX7_readsTask_77 : decode cX7_readsTask 77 = .ok (.getfield 64, 3) := by decide +kernel
theorem dX7_readsTask_80 : decode cX7_readsTask 80 = .ok (.iastore, 1) := by decide +kernel
theorem dX7_readsTask_81 : decode cX7_readsTask 81 = .ok (.aload_n 0, 1) := by decide +kernel
theorem dX7_readsTask_82 : decode cX7_readsTask 82 = .ok (.invokevirtual 78, 3) := by decide +kernel
theorem dX7_readsTask_85 : decode cX7_readsTask 85 = .ok (.ireturn, 1) := by decide +kernel
set_option maxRecDepth 20000 in
theorem ggX7_readsAll_X7_word : GoodIn wsX7_readsAll wsX7_word := goodIn_r _ [9, 10, 2, 11, 12, 13, 8, 14, 15, 16, 17, 18, 4, 19, 20, 21, 22, 23, 24, 25, 26, 50, 51, 52, 53, 54, 55, 56, 57, 58, 59, 60, 61, 62, 63, 64, 65] (by decide +kernel) (by decide +kernel)
set_option maxRecDepth 20000 in
theorem gX7_readsAll_X7_word : GoodIn wsX7_readsAll (wsV RX7 71 RX7 yX7_word wsX7_word) := goodIn_app (goodIn_of _ (by decide +kernel)) ggX7_readsAll_X7_word
set_option maxRecDepth 20000 in
theorem ggX7_readsAll_X7_isNumber : GoodIn wsX7_readsAll wsX7_isNumber := goodIn_r _ [30, 2, 19, 3, 11, 12, 13, 8, 14, 15, 16, 17, 18, 4, 31, 32, 33, 20, 21, 22, 50, 51, 52, 53, 54, 55, 56, 57, 58, 59, 60, 61, 62, 63, 64, 65] (by decide +kernel) (by decide +kernel)
set_option maxRecDepth 20000 in
theorem gX7_readsAll_X7_isNumber : GoodIn wsX7_readsAll (wsV RX7 75 RX7 yX7_isNumber wsX7_isNumber) := goodIn_app (goodIn_of _ (by decide +kernel)) ggX7_readsAll_X7_isNumber
set_option maxRecDepth 20000 in
theorem ggX7_readsAll_X7_ends : GoodIn wsX7_readsAll wsX7_ends := goodIn_r _ [37, 2, 11, 12, 13, 8, 14, 15, 16, 17, 18, 4, 19, 50, 51, 52, 53, 54, 55, 56, 57, 58, 59, 60, 61, 62, 63, 64, 65] (by decide +kernel) (by decide +kernel)
set_option maxRecDepth 20000 in
theorem gX7_readsAll_X7_ends : GoodIn wsX7_readsAll (wsV RX7 78 RX7 yX7_ends wsX7_ends) := goodIn_app (goodIn_of _ (by decide +kernel)) ggX7_readsAll_X7_ends
set_option maxRecDepth 20000 in
theorem ggX7_readsAll_X7_readsGate : GoodIn wsX7_readsAll wsX7_readsGate := goodIn_r _ [41, 1, 3, 5, 6, 7, 8, 9, 10, 2, 11, 12, 13, 14, 15, 16, 17, 18, 4, 19, 20, 21, 22, 23, 24, 25, 26, 27, 28, 29, 30, 31, 32, 33, 34, 35, 36, 37, 50, 51, 52, 53, 54, 55, 56, 57, 58, 59, 60, 61, 62, 63, 64, 65] (by decide +kernel) (by decide +kernel)
set_option maxRecDepth 20000 in
theorem gX7_readsAll_X7_readsGate : GoodIn wsX7_readsAll (wsV RX7 82 RX7 yX7_readsGate wsX7_readsGate) := goodIn_app (goodIn_of _ (by decide +kernel)) ggX7_readsAll_X7_readsGate
set_option maxRecDepth 20000 in
theorem ggX7_readsAll_X7_readsOuts : GoodIn wsX7_readsAll wsX7_readsOuts := goodIn_r _ [45, 1, 2, 3, 11, 12, 13, 8, 14, 15, 16, 17, 18, 4, 19, 34, 35, 36, 37, 27, 28, 29, 30, 31, 32, 33, 20, 21, 22, 50, 51, 52, 53, 54, 55, 56, 57, 58, 59, 60, 61, 62, 63, 64, 65] (by decide +kernel) (by decide +kernel)
set_option maxRecDepth 20000 in
theorem gX7_readsAll_X7_readsOuts : GoodIn wsX7_readsAll (wsV RX7 85 RX7 yX7_readsOuts wsX7_readsOuts) := goodIn_app (goodIn_of _ (by decide +kernel)) ggX7_readsAll_X7_readsOuts
set_option maxRecDepth 20000 in
theorem ggX7_readsAll_X7_readsTask : GoodIn wsX7_readsAll wsX7_readsTask := goodIn_r _ [49, 1, 3, 5, 6, 7, 8, 9, 10, 2, 11, 12, 13, 14, 15, 16, 17, 18, 4, 19, 20, 21, 22, 23, 24, 25, 26, 27, 28, 29, 30, 31, 32, 33, 34, 35, 36, 37, 50, 51, 52, 53, 54, 55, 56, 57, 58, 59, 60, 61, 62, 63, 64, 65] (by decide +kernel) (by decide +kernel)
set_option maxRecDepth 20000 in
theorem gX7_readsAll_X7_readsTask : GoodIn wsX7_readsAll (wsV RX7 88 RX7 yX7_readsTask wsX7_readsTask) := goodIn_app (goodIn_of _ (by decide +kernel)) ggX7_readsAll_X7_readsTask
set_option maxRecDepth 20000 in
theorem ggX7_readsAll_X7_skips : GoodIn wsX7_readsAll wsX7_skips := goodIn_r _ [14, 2, 15, 16, 17, 8, 18, 4, 19, 50, 51, 52, 53, 54, 55, 56, 57, 58, 59, 60, 61, 62, 63, 64, 65] (by decide +kernel) (by decide +kernel)
set_option maxRecDepth 20000 in
theorem gX7_readsAll_X7_skips : GoodIn wsX7_readsAll (wsV RX7 57 RX7 yX7_skips wsX7_skips) := goodIn_app (goodIn_of _ (by decide +kernel)) ggX7_readsAll_X7_skips
theorem dX7_readsAll_0 : decode cX7_readsAll 0 = .ok (.iconst 0, 1) := by decide +kernel
theorem dX7_readsAll_1 : decode cX7_readsAll 1 = .ok (.istore_n 1, 1) := by decide +kernel
theorem dX7_readsAll_2 : decode cX7_readsAll 2 = .ok (.iload_n 1, 1) := by decide +kernel
theorem dX7_readsAll_3 : decode cX7_readsAll 3 = .ok (.bipush 49, 2) := by decide +kernel
theorem dX7_readsAll_5 : decode cX7_readsAll 5 = .ok (.if_icmp .ge 16, 3) := by decide +kernel
theorem dX7_readsAll_8 : decode cX7_readsAll 8 = .ok (.aload_n 0, 1) := by decide +kernel
theorem dX7_readsAll_9 : decode cX7_readsAll 9 = .ok (.getfield 13, 3) := by decide +kernel
theorem dX7_readsAll_12 : decode cX7_readsAll 12 = .ok (.iload_n 1, 1) := by decide +kernel
theorem dX7_readsAll_13 : decode cX7_readsAll 13 = .ok (.iconst 0, 1) := by decide +kernel
theorem dX7_readsAll_14 : decode cX7_readsAll 14 = .ok (.iastore, 1) := by decide +kernel
theorem dX7_readsAll_15 : decode cX7_readsAll 15 = .ok (.iinc 1 1, 3) := by decide +kernel
theorem dX7_readsAll_18 : decode cX7_readsAll 18 = .ok (.goto (-16), 3) := by decide +kernel
theorem dX7_readsAll_21 : decode cX7_readsAll 21 = .ok (.aload_n 0, 1) := by decide +kernel
theorem dX7_readsAll_22 : decode cX7_readsAll 22 = .ok (.iconst 0, 1) := by decide +kernel
theorem dX7_readsAll_23 : decode cX7_readsAll 23 = .ok (.putfield 51, 3) := by decide +kernel
theorem dX7_readsAll_26 : decode cX7_readsAll 26 = .ok (.aload_n 0, 1) := by decide +kernel
theorem dX7_readsAll_27 : decode cX7_readsAll 27 = .ok (.bipush 12, 2) := by decide +kernel
theorem dX7_readsAll_29 : decode cX7_readsAll 29 = .ok (.bipush 12, 2) := by decide +kernel
theorem dX7_readsAll_31 : decode cX7_readsAll 31 = .ok (.invokevirtual 71, 3) := by decide +kernel
theorem dX7_readsAll_34 : decode cX7_readsAll 34 = .ok (.ifCond .lt 13, 3) := by decide +kernel
theorem dX7_readsAll_37 : decode cX7_readsAll 37 = .ok (.aload_n 0, 1) := by decide +kernel
theorem dX7_readsAll_38 : decode cX7_readsAll 38 = .ok (.iconst 1, 1) := by decide +kernel
theorem dX7_readsAll_39 : decode cX7_readsAll 39 = .ok (.bipush 6, 2) := by decide +kernel
theorem dX7_readsAll_41 : decode cX7_readsAll 41 = .ok (.invokevirtual 75, 3) := by decide +kernel
theorem dX7_readsAll_44 : decode cX7_readsAll 44 = .ok (.ifCond .ne 5, 3) := by decide +kernel
theorem dX7_readsAll_47 : decode cX7_readsAll 47 = .ok (.iconst 0, 1) := by decide +kernel
theorem dX7_readsAll_48 : decode cX7_readsAll 48 = .ok (.ireturn, 1) := by decide +kernel
theorem dX7_readsAll_49 : decode cX7_readsAll 49 = .ok (.aload_n 0, 1) := by decide +kernel
theorem dX7_readsAll_50 : decode cX7_readsAll 50 = .ok (.getfield 13, 3) := by decide +kernel
theorem dX7_readsAll_53 : decode cX7_readsAll 53 = .ok (.iconst 0, 1) := by decide +kernel
theorem dX7_readsAll_54 : decode cX7_readsAll 54 = .ok (.aload_n 0, 1) := by decide +kernel
theorem dX7_readsAll_55 : decode cX7_readsAll 55 = .ok (.getfield 64, 3) := by decide +kernel
theorem dX7_readsAll_58 : decode cX7_readsAll 58 = .ok (.iastore, 1) := by decide +kernel
theorem dX7_readsAll_59 : decode cX7_readsAll 59 = .ok (.aload_n 0, 1) := by decide +kernel
theorem dX7_readsAll_60 : decode cX7_readsAll 60 = .ok (.invokevirtual 78, 3) := by decide +kernel
theorem dX7_readsAll_63 : decode cX7_readsAll 63 = .ok (.ifCond .ne 5, 3) := by decide +kernel
theorem dX7_readsAll_66 : decode cX7_readsAll 66 = .ok (.iconst 0, 1) := by decide +kernel
theorem dX7_readsAll_67 : decode cX7_readsAll 67 = .ok (.ireturn, 1) := by decide +kernel
theorem dX7_readsAll_68 : decode cX7_readsAll 68 = .ok (.aload_n 0, 1) := by decide +kernel
theorem dX7_readsAll_69 : decode cX7_readsAll 69 = .ok (.aload_n 0, 1) := by decide +kernel
theorem dX7_readsAll_70 : decode cX7_readsAll 70 = .ok (.getfield 13, 3) := by decide +kernel
theorem dX7_readsAll_73 : decode cX7_readsAll 73 = .ok (.iconst 1, 1) := by decide +kernel
theorem dX7_readsAll_74 : decode cX7_readsAll 74 = .ok (.iaload, 1) := by decide +kernel
theorem dX7_readsAll_75 : decode cX7_readsAll 75 = .ok (.bipush 12, 2) := by decide +kernel
theorem dX7_readsAll_77 : decode cX7_readsAll 77 = .ok (.if_icmp .ge 8, 3) := by decide +kernel
theorem dX7_readsAll_80 : decode cX7_readsAll 80 = .ok (.bipush 13, 2) := by decide +kernel
theorem dX7_readsAll_82 : decode cX7_readsAll 82 = .ok (.goto 5, 3) := by decide +kernel
theorem dX7_readsAll_85 : decode cX7_readsAll 85 = .ok (.bipush 14, 2) := by decide +kernel
theorem dX7_readsAll_87 : decode cX7_readsAll 87 = .ok (.bipush 14, 2) := by decide +kernel
theorem dX7_readsAll_89 : decode cX7_readsAll 89 = .ok (.invokevirtual 71, 3) := by decide +kernel
theorem dX7_readsAll_92 : decode cX7_readsAll 92 = .ok (.istore_n 1, 1) := by decide +kernel
theorem dX7_readsAll_93 : decode cX7_readsAll 93 = .ok (.iload_n 1, 1) := by decide +kernel
theorem dX7_readsAll_94 : decode cX7_readsAll 94 = .ok (.ifCond .ge 5, 3) := by decide +kernel
theorem dX7_readsAll_97 : decode cX7_readsAll 97 = .ok (.iconst 0, 1) := by decide +kernel
theorem dX7_readsAll_98 : decode cX7_readsAll 98 = .ok (.ireturn, 1) := by decide +kernel
theorem dX7_readsAll_99 : decode cX7_readsAll 99 = .ok (.aload_n 0, 1) := by decide +kernel
theorem dX7_readsAll_100 : decode cX7_readsAll 100 = .ok (.getfield 13, 3) := by decide +kernel
theorem dX7_readsAll_103 : decode cX7_readsAll 103 = .ok (.iconst 1, 1) := by decide +kernel
theorem dX7_readsAll_104 : decode cX7_readsAll 104 = .ok (.iaload, 1) := by decide +kernel
theorem dX7_readsAll_105 : decode cX7_readsAll 105 = .ok (.bipush 12, 2) := by decide +kernel
theorem dX7_readsAll_107 : decode cX7_readsAll 107 = .ok (.if_icmp .ge 11, 3) := by decide +kernel
theorem dX7_readsAll_110 : decode cX7_readsAll 110 = .ok (.iload_n 1, 1) := by decide +kernel
theorem dX7_readsAll_111 : decode cX7_readsAll 111 = .ok (.ifCond .ne 7, 3) := by decide +kernel
theorem dX7_readsAll_114 : decode cX7_readsAll 114 = .ok (.iconst 1, 1) := by decide +kernel
theorem dX7_readsAll_115 : decode cX7_readsAll 115 = .ok (.goto 4, 3) := by decide +kernel
theorem dX7_readsAll_118 : decode cX7_readsAll 118 = .ok (.iconst 0, 1) := by decide +kernel
theorem dX7_readsAll_119 : decode cX7_readsAll 119 = .ok (.istore_n 2, 1) := by decide +kernel
theorem dX7_readsAll_120 : decode cX7_readsAll 120 = .ok (.iload_n 2, 1) := by decide +kernel
theorem dX7_readsAll_121 : decode cX7_readsAll 121 = .ok (.ifCond .eq 12, 3) := by decide +kernel
theorem dX7_readsAll_124 : decode cX7_readsAll 124 = .ok (.aload_n 0, 1) := by decide +kernel
theorem dX7_readsAll_125 : decode cX7_readsAll 125 = .ok (.invokevirtual 82, 3) := by decide +kernel
theorem dX7_readsAll_128 : decode cX7_readsAll 128 = .ok (.ifCond .ne 5, 3) := by decide +kernel
theorem dX7_readsAll_131 : decode cX7_readsAll 131 = .ok (.iconst 0, 1) := by decide +kernel
theorem dX7_readsAll_132 : decode cX7_readsAll 132 = .ok (.ireturn, 1) := by decide +kernel
theorem dX7_readsAll_133 : decode cX7_readsAll 133 = .ok (.iload_n 2, 1) := by decide +kernel
theorem dX7_readsAll_134 : decode cX7_readsAll 134 = .ok (.ifCond .ne 6, 3) := by decide +kernel
theorem dX7_readsAll_137 : decode cX7_readsAll 137 = .ok (.goto 6, 3) := by decide +kernel
theorem dX7_readsAll_140 : decode cX7_readsAll 140 = .ok (.goto (-72), 3) := by decide +kernel
theorem dX7_readsAll_143 : decode cX7_readsAll 143 = .ok (.aload_n 0, 1) := by decide +kernel
theorem dX7_readsAll_144 : decode cX7_readsAll 144 = .ok (.invokevirtual 85, 3) := by decide +kernel
theorem dX7_readsAll_147 : decode cX7_readsAll 147 = .ok (.ifCond .eq 21, 3) := by decide +kernel
theorem dX7_readsAll_150 : decode cX7_readsAll 150 = .ok (.aload_n 0, 1) := by decide +kernel
theorem dX7_readsAll_151 : decode cX7_readsAll 151 = .ok (.bipush 15, 2) := by decide +kernel
theorem dX7_readsAll_153 : decode cX7_readsAll 153 = .ok (.bipush 15, 2) := by decide +kernel
theorem dX7_readsAll_155 : decode cX7_readsAll 155 = .ok (.invokevirtual 71, 3) := by decide +kernel
theorem dX7_readsAll_158 : decode cX7_readsAll 158 = .ok (.ifCond .lt 10, 3) := by decide +kernel
theorem dX7_readsAll_161 : decode cX7_readsAll 161 = .ok (.aload_n 0, 1) := by decide +kernel
theorem dX7_readsAll_162 : decode cX7_readsAll 162 = .ok (.invokevirtual 88, 3) := by decide +kernel
theorem dX7_readsAll_165 : decode cX7_readsAll 165 = .ok (.ifCond .ne 5, 3) := by decide +kernel
theorem dX7_readsAll_168 : decode cX7_readsAll 168 = .ok (.iconst 0, 1) := by decide +kernel
theorem dX7_readsAll_169 : decode cX7_readsAll 169 = .ok (.ireturn, 1) := by decide +kernel
theorem dX7_readsAll_170 : decode cX7_readsAll 170 = .ok (.aload_n 0, 1) := by decide +kernel
theorem dX7_readsAll_171 : decode cX7_readsAll 171 = .ok (.invokevirtual 57, 3) := by decide +kernel
theorem dX7_readsAll_174 : decode cX7_readsAll 174 = .ok (.aload_n 0, 1) := by decide +kernel
theorem dX7_readsAll_175 : decode cX7_readsAll 175 = .ok (.getfield 51, 3) := by decide +kernel
theorem dX7_readsAll_178 : decode cX7_readsAll 178 = .ok (.aload_n 0, 1) := by decide +kernel
theorem dX7_readsAll_179 : decode cX7_readsAll 179 = .ok (.getfield 47, 3) := by decide +kernel
theorem dX7_readsAll_182 : decode cX7_readsAll 182 = .ok (.if_icmp .ne 7, 3) := by decide +kernel
theorem dX7_readsAll_185 : decode cX7_readsAll 185 = .ok (.iconst 1, 1) := by decide +kernel
theorem dX7_readsAll_186 : decode cX7_readsAll 186 = .ok (.goto 4, 3) := by decide +kernel
theorem dX7_readsAll_189 : decode cX7_readsAll 189 = .ok (.iconst 0, 1) := by decide +kernel
theorem dX7_readsAll_190 : decode cX7_readsAll 190 = .ok (.ireturn, 1) := by decide +kernel
set_option maxRecDepth 20000 in
theorem ggX7_reads_X7_readsAll : GoodIn wsX7_reads wsX7_readsAll := goodIn_r _ [8, 3, 1, 9, 10, 11, 12, 13, 7, 14, 15, 16, 17, 18, 19, 20, 21, 22, 23, 24, 25, 26, 27, 28, 29, 30, 31, 32, 33, 34, 35, 36, 37, 38, 39, 40, 41, 42, 43, 44, 45, 46, 47, 48, 49, 50, 51, 52, 53, 54, 55, 56, 57, 58, 59, 60, 61, 62, 63, 64, 65, 66, 67, 68, 69, 70] (by decide +kernel) (by decide +kernel)
set_option maxRecDepth 20000 in
theorem gX7_reads_X7_readsAll : GoodIn wsX7_reads (wsV RX7 91 RX7 yX7_readsAll wsX7_readsAll) := goodIn_app (goodIn_of _ (by decide +kernel)) ggX7_reads_X7_readsAll
theorem dX7_reads_0 : decode cX7_reads 0 = .ok (.aload_n 0, 1) := by decide +kernel
theorem dX7_reads_1 : decode cX7_reads 1 = .ok (.invokevirtual 91, 3) := by decide +kernel
theorem dX7_reads_4 : decode cX7_reads 4 = .ok (.ifCond .ne 11, 3) := by decide +kernel
theorem dX7_reads_7 : decode cX7_reads 7 = .ok (.bipush (-10), 2) := by decide +kernel
theorem dX7_reads_9 : decode cX7_reads 9 = .ok (.aload_n 0, 1) := by decide +kernel
theorem dX7_reads_10 : decode cX7_reads 10 = .ok (.getfield 51, 3) := by decide +kernel
theorem dX7_reads_13 : decode cX7_reads 13 = .ok (.isub, 1) := by decide +kernel
theorem dX7_reads_14 : decode cX7_reads 14 = .ok (.ireturn, 1) := by decide +kernel
theorem dX7_reads_15 : decode cX7_reads 15 = .ok (.iconst 0, 1) := by decide +kernel
theorem dX7_reads_16 : decode cX7_reads 16 = .ok (.istore_n 1, 1) := by decide +kernel
theorem dX7_reads_17 : decode cX7_reads 17 = .ok (.iload_n 1, 1) := by decide +kernel
theorem dX7_reads_18 : decode cX7_reads 18 = .ok (.bipush 49, 2) := by decide +kernel
theorem dX7_reads_20 : decode cX7_reads 20 = .ok (.if_icmp .ge 21, 3) := by decide +kernel
theorem dX7_reads_23 : decode cX7_reads 23 = .ok (.aload_n 0, 1) := by decide +kernel
theorem dX7_reads_24 : decode cX7_reads 24 = .ok (.getfield 7, 3) := by decide +kernel
theorem dX7_reads_27 : decode cX7_reads 27 = .ok (.iload_n 1, 1) := by decide +kernel
theorem dX7_reads_28 : decode cX7_reads 28 = .ok (.aload_n 0, 1) := by decide +kernel
theorem dX7_reads_29 : decode cX7_reads 29 = .ok (.getfield 13, 3) := by decide +kernel
theorem dX7_reads_32 : decode cX7_reads 32 = .ok (.iload_n 1, 1) := by decide +kernel
theorem dX7_reads_33 : decode cX7_reads 33 = .ok (.iaload, 1) := by decide +kernel
theorem dX7_reads_34 : decode cX7_reads 34 = .ok (.iastore, 1) := by decide +kernel
theorem dX7_reads_35 : decode cX7_reads 35 = .ok (.iinc 1 1, 3) := by decide +kernel
theorem dX7_reads_38 : decode cX7_reads 38 = .ok (.goto (-21), 3) := by decide +kernel
theorem dX7_reads_41 : decode cX7_reads 41 = .ok (.aload_n 0, 1) := by decide +kernel
theorem dX7_reads_42 : decode cX7_reads 42 = .ok (.getfield 7, 3) := by decide +kernel
theorem dX7_reads_45 : decode cX7_reads 45 = .ok (.iconst 1, 1) := by decide +kernel
theorem dX7_reads_46 : decode cX7_reads 46 = .ok (.iaload, 1) := by decide +kernel
theorem dX7_reads_47 : decode cX7_reads 47 = .ok (.ireturn, 1) := by decide +kernel
theorem dX7_isThere_0 : decode cX7_isThere 0 = .ok (.aload_n 0, 1) := by decide +kernel
theorem dX7_isThere_1 : decode cX7_isThere 1 = .ok (.getfield 7, 3) := by decide +kernel
theorem dX7_isThere_4 : decode cX7_isThere 4 = .ok (.iconst 0, 1) := by decide +kernel
theorem dX7_isThere_5 : decode cX7_isThere 5 = .ok (.iaload, 1) := by decide +kernel
theorem dX7_isThere_6 : decode cX7_isThere 6 = .ok (.ifCond .le 7, 3) := by decide +kernel
theorem dX7_isThere_9 : decode cX7_isThere 9 = .ok (.iconst 1, 1) := by decide +kernel
theorem dX7_isThere_10 : decode cX7_isThere 10 = .ok (.goto 4, 3) := by decide +kernel
theorem dX7_isThere_13 : decode cX7_isThere 13 = .ok (.iconst 0, 1) := by decide +kernel
theorem dX7_isThere_14 : decode cX7_isThere 14 = .ok (.ireturn, 1) := by decide +kernel
set_option maxRecDepth 20000 in
theorem ggX7_isGate_X7_isThere : GoodIn wsX7_isGate wsX7_isThere := goodIn_r _ [6, 1, 10, 11, 12, 13, 14, 15, 16, 17, 18, 19, 20, 21, 22, 23, 24, 25] (by decide +kernel) (by decide +kernel)
set_option maxRecDepth 20000 in
theorem gX7_isGate_X7_isThere : GoodIn wsX7_isGate (wsV RX7 94 RX7 yX7_isThere wsX7_isThere) := goodIn_app (goodIn_of _ (by decide +kernel)) ggX7_isGate_X7_isThere
set_option maxRecDepth 20000 in
theorem ggX7_isGate_X7_in : GoodIn wsX7_isGate wsX7_in := goodIn_r _ [9] (by decide +kernel) (by decide +kernel)
set_option maxRecDepth 20000 in
theorem gX7_isGate_X7_in : GoodIn wsX7_isGate (va_wsS RX7 39 yX7_in wsX7_in) := goodIn_app (goodIn_of _ (by decide +kernel)) ggX7_isGate_X7_in
theorem dX7_isGate_0 : decode cX7_isGate 0 = .ok (.iload_n 1, 1) := by decide +kernel
theorem dX7_isGate_1 : decode cX7_isGate 1 = .ok (.iconst 0, 1) := by decide +kernel
theorem dX7_isGate_2 : decode cX7_isGate 2 = .ok (.aload_n 0, 1) := by decide +kernel
theorem dX7_isGate_3 : decode cX7_isGate 3 = .ok (.invokevirtual 94, 3) := by decide +kernel
theorem dX7_isGate_6 : decode cX7_isGate 6 = .ok (.ifCond .eq 14, 3) := by decide +kernel
theorem dX7_isGate_9 : decode cX7_isGate 9 = .ok (.aload_n 0, 1) := by decide +kernel
theorem dX7_isGate_10 : decode cX7_isGate 10 = .ok (.getfield 7, 3) := by decide +kernel
theorem dX7_isGate_13 : decode cX7_isGate 13 = .ok (.iconst 1, 1) := by decide +kernel
theorem dX7_isGate_14 : decode cX7_isGate 14 = .ok (.iaload, 1) := by decide +kernel
theorem dX7_isGate_15 : decode cX7_isGate 15 = .ok (.iconst 1, 1) := by decide +kernel
theorem dX7_isGate_16 : decode cX7_isGate 16 = .ok (.isub, 1) := by decide +kernel
theorem dX7_isGate_17 : decode cX7_isGate 17 = .ok (.goto 5, 3) := by decide +kernel
theorem dX7_isGate_20 : decode cX7_isGate 20 = .ok (.bipush 11, 2) := by decide +kernel
theorem dX7_isGate_22 : decode cX7_isGate 22 = .ok (.invokestatic 39, 3) := by decide +kernel
theorem dX7_isGate_25 : decode cX7_isGate 25 = .ok (.ireturn, 1) := by decide +kernel
set_option maxRecDepth 20000 in
theorem ggX7_isInput_X7_isThere : GoodIn wsX7_isInput wsX7_isThere := goodIn_r _ [6, 1, 10, 11, 12, 13, 14, 15, 16, 17, 18, 19, 20, 21, 22, 23, 24, 25] (by decide +kernel) (by decide +kernel)
set_option maxRecDepth 20000 in
theorem gX7_isInput_X7_isThere : GoodIn wsX7_isInput (wsV RX7 94 RX7 yX7_isThere wsX7_isThere) := goodIn_app (goodIn_of _ (by decide +kernel)) ggX7_isInput_X7_isThere
set_option maxRecDepth 20000 in
theorem ggX7_isInput_X7_in : GoodIn wsX7_isInput wsX7_in := goodIn_r _ [9] (by decide +kernel) (by decide +kernel)
set_option maxRecDepth 20000 in
theorem gX7_isInput_X7_in : GoodIn wsX7_isInput (va_wsS RX7 39 yX7_in wsX7_in) := goodIn_app (goodIn_of _ (by decide +kernel)) ggX7_isInput_X7_in
theorem dX7_isInput_0 : decode cX7_isInput 0 = .ok (.iload_n 1, 1) := by decide +kernel
theorem dX7_isInput_1 : decode cX7_isInput 1 = .ok (.iconst 0, 1) := by decide +kernel
theorem dX7_isInput_2 : decode cX7_isInput 2 = .ok (.aload_n 0, 1) := by decide +kernel
theorem dX7_isInput_3 : decode cX7_isInput 3 = .ok (.invokevirtual 94, 3) := by decide +kernel
theorem dX7_isInput_6 : decode cX7_isInput 6 = .ok (.ifCond .eq 16, 3) := by decide +kernel
theorem dX7_isInput_9 : decode cX7_isInput 9 = .ok (.iconst 1, 1) := by decide +kernel
theorem dX7_isInput_10 : decode cX7_isInput 10 = .ok (.aload_n 0, 1) := by decide +kernel
theorem dX7_isInput_11 : decode cX7_isInput 11 = .ok (.getfield 7, 3) := by decide +kernel
theorem dX7_isInput_14 : decode cX7_isInput 14 = .ok (.iconst 0, 1) := by decide +kernel
theorem dX7_isInput_15 : decode cX7_isInput 15 = .ok (.iaload, 1) := by decide +kernel
theorem dX7_isInput_16 : decode cX7_isInput 16 = .ok (.ishl, 1) := by decide +kernel
theorem dX7_isInput_17 : decode cX7_isInput 17 = .ok (.iconst 1, 1) := by decide +kernel
theorem dX7_isInput_18 : decode cX7_isInput 18 = .ok (.isub, 1) := by decide +kernel
theorem dX7_isInput_19 : decode cX7_isInput 19 = .ok (.goto 5, 3) := by decide +kernel
theorem dX7_isInput_22 : decode cX7_isInput 22 = .ok (.bipush 63, 2) := by decide +kernel
theorem dX7_isInput_24 : decode cX7_isInput 24 = .ok (.invokestatic 39, 3) := by decide +kernel
theorem dX7_isInput_27 : decode cX7_isInput 27 = .ok (.ireturn, 1) := by decide +kernel
set_option maxRecDepth 20000 in
theorem ggX7_isStage_X7_isThere : GoodIn wsX7_isStage wsX7_isThere := goodIn_r _ [6, 1, 10, 11, 12, 13, 14, 15, 16, 17, 18, 19, 20, 21, 22, 23, 24, 25] (by decide +kernel) (by decide +kernel)
set_option maxRecDepth 20000 in
theorem gX7_isStage_X7_isThere : GoodIn wsX7_isStage (wsV RX7 94 RX7 yX7_isThere wsX7_isThere) := goodIn_app (goodIn_of _ (by decide +kernel)) ggX7_isStage_X7_isThere
set_option maxRecDepth 20000 in
theorem ggX7_isStage_X7_in : GoodIn wsX7_isStage wsX7_in := goodIn_r _ [9] (by decide +kernel) (by decide +kernel)
set_option maxRecDepth 20000 in
theorem gX7_isStage_X7_in : GoodIn wsX7_isStage (va_wsS RX7 39 yX7_in wsX7_in) := goodIn_app (goodIn_of _ (by decide +kernel)) ggX7_isStage_X7_in
theorem dX7_isStage_0 : decode cX7_isStage 0 = .ok (.iload_n 1, 1) := by decide +kernel
theorem dX7_isStage_1 : decode cX7_isStage 1 = .ok (.iconst 0, 1) := by decide +kernel
theorem dX7_isStage_2 : decode cX7_isStage 2 = .ok (.aload_n 0, 1) := by decide +kernel
theorem dX7_isStage_3 : decode cX7_isStage 3 = .ok (.invokevirtual 94, 3) := by decide +kernel
theorem dX7_isStage_6 : decode cX7_isStage 6 = .ok (.ifCond .eq 12, 3) := by decide +kernel
theorem dX7_isStage_9 : decode cX7_isStage 9 = .ok (.aload_n 0, 1) := by decide +kernel
theorem dX7_isStage_10 : decode cX7_isStage 10 = .ok (.getfield 7, 3) := by decide +kernel
theorem dX7_isStage_13 : decode cX7_isStage 13 = .ok (.iconst 1, 1) := by decide +kernel
theorem dX7_isStage_14 : decode cX7_isStage 14 = .ok (.iaload, 1) := by decide +kernel
theorem dX7_isStage_15 : decode cX7_isStage 15 = .ok (.goto 5, 3) := by decide +kernel
theorem dX7_isStage_18 : decode cX7_isStage 18 = .ok (.bipush 12, 2) := by decide +kernel
theorem dX7_isStage_20 : decode cX7_isStage 20 = .ok (.invokestatic 39, 3) := by decide +kernel
theorem dX7_isStage_23 : decode cX7_isStage 23 = .ok (.ireturn, 1) := by decide +kernel
set_option maxRecDepth 20000 in
theorem ggX7_none_X7_refuses : GoodIn wsX7_none wsX7_refuses := goodIn_r _ [5, 6, 7, 8, 9, 10, 11, 12, 13, 14, 15, 16, 17, 18, 19, 20, 21, 22] (by decide +kernel) (by decide +kernel)
set_option maxRecDepth 20000 in
theorem gX7_none_X7_refuses : GoodIn wsX7_none (wsV RX7 43 RX7 yX7_refuses wsX7_refuses) := goodIn_app (goodIn_of _ (by decide +kernel)) ggX7_none_X7_refuses
theorem dX7_none_0 : decode cX7_none 0 = .ok (.aload_n 0, 1) := by decide +kernel
theorem dX7_none_1 : decode cX7_none 1 = .ok (.iload_n 1, 1) := by decide +kernel
theorem dX7_none_2 : decode cX7_none 2 = .ok (.ifCond .eq 8, 3) := by decide +kernel
theorem dX7_none_5 : decode cX7_none 5 = .ok (.bipush (-3), 2) := by decide +kernel
theorem dX7_none_7 : decode cX7_none 7 = .ok (.goto 5, 3) := by decide +kernel
theorem dX7_none_10 : decode cX7_none 10 = .ok (.bipush (-2), 2) := by decide +kernel
theorem dX7_none_12 : decode cX7_none 12 = .ok (.invokevirtual 43, 3) := by decide +kernel
theorem dX7_none_15 : decode cX7_none 15 = .ok (.ireturn, 1) := by decide +kernel
set_option maxRecDepth 20000 in
theorem ggX7_kind_X7_isGate : GoodIn wsX7_kind wsX7_isGate := goodIn_r _ [6, 1, 7, 8, 9, 5, 10, 11, 12, 13, 23, 24, 25, 26, 27, 28, 29, 30, 31, 32, 33, 34, 35, 36, 37, 38] (by decide +kernel) (by decide +kernel)
set_option maxRecDepth 20000 in
theorem gX7_kind_X7_isGate : GoodIn wsX7_kind (wsV RX7 97 RX7 yX7_isGate wsX7_isGate) := goodIn_app (goodIn_of _ (by decide +kernel)) ggX7_kind_X7_isGate
set_option maxRecDepth 20000 in
theorem ggX7_kind_X7_in : GoodIn wsX7_kind wsX7_in := goodIn_r _ [13] (by decide +kernel) (by decide +kernel)
set_option maxRecDepth 20000 in
theorem gX7_kind_X7_in : GoodIn wsX7_kind (va_wsS RX7 39 yX7_in wsX7_in) := goodIn_app (goodIn_of _ (by decide +kernel)) ggX7_kind_X7_in
set_option maxRecDepth 20000 in
theorem ggX7_kind_X7_isThere : GoodIn wsX7_kind wsX7_isThere := goodIn_r _ [10, 1, 23, 24, 25, 26, 27, 28, 29, 30, 31, 32, 33, 34, 35, 36, 37, 38] (by decide +kernel) (by decide +kernel)
set_option maxRecDepth 20000 in
theorem gX7_kind_X7_isThere : GoodIn wsX7_kind (wsV RX7 94 RX7 yX7_isThere wsX7_isThere) := goodIn_app (goodIn_of _ (by decide +kernel)) ggX7_kind_X7_isThere
set_option maxRecDepth 20000 in
theorem ggX7_kind_X7_none : GoodIn wsX7_kind wsX7_none := goodIn_r _ [17, 18, 19, 20, 5, 21, 22, 23, 24, 25, 26, 27, 28, 29, 30, 31, 32, 33, 34, 35, 36, 37, 38] (by decide +kernel) (by decide +kernel)
set_option maxRecDepth 20000 in
theorem gX7_kind_X7_none : GoodIn wsX7_kind (wsV RX7 100 RX7 yX7_none wsX7_none) := goodIn_app (goodIn_of _ (by decide +kernel)) ggX7_kind_X7_none
theorem dX7_kind_0 : decode cX7_kind 0 = .ok (.aload_n 0, 1) := by decide +kernel
theorem dX7_kind_1 : decode cX7_kind 1 = .ok (.iload_n 1, 1) := by decide +kernel
theorem dX7_kind_2 : decode cX7_kind 2 = .ok (.invokevirtual 97, 3) := by decide +kernel
theorem dX7_kind_5 : decode cX7_kind 5 = .ok (.ifCond .eq 53, 3) := by decide +kernel
theorem dX7_kind_8 : decode cX7_kind 8 = .ok (.iload_n 2, 1) := by decide +kernel
theorem dX7_kind_9 : decode cX7_kind 9 = .ok (.iconst 0, 1) := by decide +kernel
theorem dX7_kind_10 : decode cX7_kind 10 = .ok (.bipush 7, 2) := by decide +kernel
theorem dX7_kind_12 : decode cX7_kind 12 = .ok (.invokestatic 39, 3) := by decide +kernel
theorem dX7_kind_15 : decode cX7_kind 15 = .ok (.ifCond .eq 43, 3) := by decide +kernel
theorem dX7_kind_18 : decode cX7_kind 18 = .ok (.aload_n 0, 1) := by decide +kernel
theorem dX7_kind_19 : decode cX7_kind 19 = .ok (.invokevirtual 94, 3) := by decide +kernel
theorem dX7_kind_22 : decode cX7_kind 22 = .ok (.ifCond .eq 32, 3) := by decide +kernel
theorem dX7_kind_25 : decode cX7_kind 25 = .ok (.aload_n 0, 1) := by decide +kernel
theorem dX7_kind_26 : decode cX7_kind 26 = .ok (.getfield 7, 3) := by decide +kernel
theorem dX7_kind_29 : decode cX7_kind 29 = .ok (.bipush 6, 2) := by decide +kernel
theorem dX7_kind_31 : decode cX7_kind 31 = .ok (.iload_n 1, 1) := by decide +kernel
theorem dX7_kind_32 : decode cX7_kind 32 = .ok (.iadd, 1) := by decide +kernel
theorem dX7_kind_33 : decode cX7_kind 33 = .ok (.iaload, 1) := by decide +kernel
theorem dX7_kind_34 : decode cX7_kind 34 = .ok (.ifCond .ne 7, 3) := by decide +kernel
theorem dX7_kind_37 : decode cX7_kind 37 = .ok (.iconst 1, 1) := by decide +kernel
theorem dX7_kind_38 : decode cX7_kind 38 = .ok (.goto 4, 3) := by decide +kernel
theorem dX7_kind_41 : decode cX7_kind 41 = .ok (.iconst 0, 1) := by decide +kernel
theorem dX7_kind_42 : decode cX7_kind 42 = .ok (.iload_n 2, 1) := by decide +kernel
theorem dX7_kind_43 : decode cX7_kind 43 = .ok (.ifCond .ne 7, 3) := by decide +kernel
theorem dX7_kind_46 : decode cX7_kind 46 = .ok (.iconst 1, 1) := by decide +kernel
theorem dX7_kind_47 : decode cX7_kind 47 = .ok (.goto 4, 3) := by decide +kernel
theorem dX7_kind_50 : decode cX7_kind 50 = .ok (.iconst 0, 1) := by decide +kernel
theorem dX7_kind_51 : decode cX7_kind 51 = .ok (.if_icmp .ne 7, 3) := by decide +kernel
theorem dX7_kind_54 : decode cX7_kind 54 = .ok (.iconst 1, 1) := by decide +kernel
theorem dX7_kind_55 : decode cX7_kind 55 = .ok (.goto 4, 3) := by decide +kernel
theorem dX7_kind_58 : decode cX7_kind 58 = .ok (.iconst 0, 1) := by decide +kernel
theorem dX7_kind_59 : decode cX7_kind 59 = .ok (.istore_n 3, 1) := by decide +kernel
theorem dX7_kind_60 : decode cX7_kind 60 = .ok (.iload_n 3, 1) := by decide +kernel
theorem dX7_kind_61 : decode cX7_kind 61 = .ok (.ifCond .eq 10, 3) := by decide +kernel
theorem dX7_kind_64 : decode cX7_kind 64 = .ok (.aload_n 0, 1) := by decide +kernel
theorem dX7_kind_65 : decode cX7_kind 65 = .ok (.invokevirtual 94, 3) := by decide +kernel
theorem dX7_kind_68 : decode cX7_kind 68 = .ok (.ifCond .ne 9, 3) := by decide +kernel
theorem dX7_kind_71 : decode cX7_kind 71 = .ok (.aload_n 0, 1) := by decide +kernel
theorem dX7_kind_72 : decode cX7_kind 72 = .ok (.iload_n 3, 1) := by decide +kernel
theorem dX7_kind_73 : decode cX7_kind 73 = .ok (.invokevirtual 100, 3) := by decide +kernel
theorem dX7_kind_76 : decode cX7_kind 76 = .ok (.ireturn, 1) := by decide +kernel
theorem dX7_kind_77 : decode cX7_kind 77 = .ok (.aload_n 0, 1) := by decide +kernel
theorem dX7_kind_78 : decode cX7_kind 78 = .ok (.getfield 7, 3) := by decide +kernel
theorem dX7_kind_81 : decode cX7_kind 81 = .ok (.bipush 6, 2) := by decide +kernel
theorem dX7_kind_83 : decode cX7_kind 83 = .ok (.iload_n 1, 1) := by decide +kernel
theorem dX7_kind_84 : decode cX7_kind 84 = .ok (.iadd, 1) := by decide +kernel
theorem dX7_kind_85 : decode cX7_kind 85 = .ok (.iaload, 1) := by decide +kernel
theorem dX7_kind_86 : decode cX7_kind 86 = .ok (.istore 4, 2) := by decide +kernel
theorem dX7_kind_88 : decode cX7_kind 88 = .ok (.aload_n 0, 1) := by decide +kernel
theorem dX7_kind_89 : decode cX7_kind 89 = .ok (.getfield 7, 3) := by decide +kernel
theorem dX7_kind_92 : decode cX7_kind 92 = .ok (.bipush 6, 2) := by decide +kernel
theorem dX7_kind_94 : decode cX7_kind 94 = .ok (.iload_n 1, 1) := by decide +kernel
theorem dX7_kind_95 : decode cX7_kind 95 = .ok (.iadd, 1) := by decide +kernel
theorem dX7_kind_96 : decode cX7_kind 96 = .ok (.iload_n 2, 1) := by decide +kernel
theorem dX7_kind_97 : decode cX7_kind 97 = .ok (.iastore, 1) := by decide +kernel
theorem dX7_kind_98 : decode cX7_kind 98 = .ok (.iload 4, 2) := by decide +kernel
theorem dX7_kind_100 : decode cX7_kind 100 = .ok (.ireturn, 1) := by decide +kernel
set_option maxRecDepth 20000 in
theorem ggX7_wire_X7_isGate : GoodIn wsX7_wire wsX7_isGate := goodIn_r _ [6, 1, 7, 8, 9, 5, 10, 11, 12, 13, 23, 24, 25, 26, 27, 28, 29, 30, 31, 32, 33, 34, 35, 36, 37, 38] (by decide +kernel) (by decide +kernel)
set_option maxRecDepth 20000 in
theorem gX7_wire_X7_isGate : GoodIn wsX7_wire (wsV RX7 97 RX7 yX7_isGate wsX7_isGate) := goodIn_app (goodIn_of _ (by decide +kernel)) ggX7_wire_X7_isGate
set_option maxRecDepth 20000 in
theorem ggX7_wire_X7_in : GoodIn wsX7_wire wsX7_in := goodIn_r _ [13] (by decide +kernel) (by decide +kernel)
set_option maxRecDepth 20000 in
theorem gX7_wire_X7_in : GoodIn wsX7_wire (va_wsS RX7 39 yX7_in wsX7_in) := goodIn_app (goodIn_of _ (by decide +kernel)) ggX7_wire_X7_in
set_option maxRecDepth 20000 in
theorem ggX7_wire_X7_isThere : GoodIn wsX7_wire wsX7_isThere := goodIn_r _ [10, 1, 23, 24, 25, 26, 27, 28, 29, 30, 31, 32, 33, 34, 35, 36, 37, 38] (by decide +kernel) (by decide +kernel)
set_option maxRecDepth 20000 in
theorem gX7_wire_X7_isThere : GoodIn wsX7_wire (wsV RX7 94 RX7 yX7_isThere wsX7_isThere) := goodIn_app (goodIn_of _ (by decide +kernel)) ggX7_wire_X7_isThere
set_option maxRecDepth 20000 in
theorem ggX7_wire_X7_none : GoodIn wsX7_wire wsX7_none := goodIn_r _ [17, 18, 19, 20, 5, 21, 22, 23, 24, 25, 26, 27, 28, 29, 30, 31, 32, 33, 34, 35, 36, 37, 38] (by decide +kernel) (by decide +kernel)
set_option maxRecDepth 20000 in
theorem gX7_wire_X7_none : GoodIn wsX7_wire (wsV RX7 100 RX7 yX7_none wsX7_none) := goodIn_app (goodIn_of _ (by decide +kernel)) ggX7_wire_X7_none
theorem dX7_wire_0 : decode cX7_wire 0 = .ok (.aload_n 0, 1) := by decide +kernel
theorem dX7_wire_1 : decode cX7_wire 1 = .ok (.iload_n 1, 1) := by decide +kernel
theorem dX7_wire_2 : decode cX7_wire 2 = .ok (.invokevirtual 97, 3) := by decide +kernel
theorem dX7_wire_5 : decode cX7_wire 5 = .ok (.ifCond .eq 70, 3) := by decide +kernel
theorem dX7_wire_8 : decode cX7_wire 8 = .ok (.iload_n 2, 1) := by decide +kernel
theorem dX7_wire_9 : decode cX7_wire 9 = .ok (.iconst 0, 1) := by decide +kernel
theorem dX7_wire_10 : decode cX7_wire 10 = .ok (.iconst 1, 1) := by decide +kernel
theorem dX7_wire_11 : decode cX7_wire 11 = .ok (.invokestatic 39, 3) := by decide +kernel
theorem dX7_wire_14 : decode cX7_wire 14 = .ok (.ifCond .eq 61, 3) := by decide +kernel
theorem dX7_wire_17 : decode cX7_wire 17 = .ok (.aload_n 0, 1) := by decide +kernel
theorem dX7_wire_18 : decode cX7_wire 18 = .ok (.invokevirtual 94, 3) := by decide +kernel
theorem dX7_wire_21 : decode cX7_wire 21 = .ok (.ifCond .eq 40, 3) := by decide +kernel
theorem dX7_wire_24 : decode cX7_wire 24 = .ok (.iload_n 3, 1) := by decide +kernel
theorem dX7_wire_25 : decode cX7_wire 25 = .ok (.iconst 0, 1) := by decide +kernel
theorem dX7_wire_26 : decode cX7_wire 26 = .ok (.aload_n 0, 1) := by decide +kernel
theorem dX7_wire_27 : decode cX7_wire 27 = .ok (.getfield 7, 3) := by decide +kernel
theorem dX7_wire_30 : decode cX7_wire 30 = .ok (.iconst 0, 1) := by decide +kernel
theorem dX7_wire_31 : decode cX7_wire 31 = .ok (.iaload, 1) := by decide +kernel
theorem dX7_wire_32 : decode cX7_wire 32 = .ok (.iload_n 1, 1) := by decide +kernel
theorem dX7_wire_33 : decode cX7_wire 33 = .ok (.iadd, 1) := by decide +kernel
theorem dX7_wire_34 : decode cX7_wire 34 = .ok (.iconst 1, 1) := by decide +kernel
theorem dX7_wire_35 : decode cX7_wire 35 = .ok (.isub, 1) := by decide +kernel
theorem dX7_wire_36 : decode cX7_wire 36 = .ok (.invokestatic 39, 3) := by decide +kernel
theorem dX7_wire_39 : decode cX7_wire 39 = .ok (.ifCond .eq 36, 3) := by decide +kernel
theorem dX7_wire_42 : decode cX7_wire 42 = .ok (.iload_n 2, 1) := by decide +kernel
theorem dX7_wire_43 : decode cX7_wire 43 = .ok (.ifCond .eq 28, 3) := by decide +kernel
theorem dX7_wire_46 : decode cX7_wire 46 = .ok (.aload_n 0, 1) := by decide +kernel
theorem dX7_wire_47 : decode cX7_wire 47 = .ok (.getfield 7, 3) := by decide +kernel
theorem dX7_wire_50 : decode cX7_wire 50 = .ok (.bipush 6, 2) := by decide +kernel
theorem dX7_wire_52 : decode cX7_wire 52 = .ok (.iload_n 1, 1) := by decide +kernel
theorem dX7_wire_53 : decode cX7_wire 53 = .ok (.iadd, 1) := by decide +kernel
theorem dX7_wire_54 : decode cX7_wire 54 = .ok (.iaload, 1) := by decide +kernel
theorem dX7_wire_55 : decode cX7_wire 55 = .ok (.ifCond .eq 20, 3) := by decide +kernel
theorem dX7_wire_58 : decode cX7_wire 58 = .ok (.goto 13, 3) := by decide +kernel
theorem dX7_wire_61 : decode cX7_wire 61 = .ok (.iload_n 3, 1) := by decide +kernel
theorem dX7_wire_62 : decode cX7_wire 62 = .ok (.iconst 0, 1) := by decide +kernel
theorem dX7_wire_63 : decode cX7_wire 63 = .ok (.bipush 17, 2) := by decide +kernel
theorem dX7_wire_65 : decode cX7_wire 65 = .ok (.invokestatic 39, 3) := by decide +kernel
theorem dX7_wire_68 : decode cX7_wire 68 = .ok (.ifCond .eq 7, 3) := by decide +kernel
theorem dX7_wire_71 : decode cX7_wire 71 = .ok (.iconst 1, 1) := by decide +kernel
theorem dX7_wire_72 : decode cX7_wire 72 = .ok (.goto 4, 3) := by decide +kernel
theorem dX7_wire_75 : decode cX7_wire 75 = .ok (.iconst 0, 1) := by decide +kernel
theorem dX7_wire_76 : decode cX7_wire 76 = .ok (.istore 4, 2) := by decide +kernel
theorem dX7_wire_78 : decode cX7_wire 78 = .ok (.iload 4, 2) := by decide +kernel
theorem dX7_wire_80 : decode cX7_wire 80 = .ok (.ifCond .eq 10, 3) := by decide +kernel
theorem dX7_wire_83 : decode cX7_wire 83 = .ok (.aload_n 0, 1) := by decide +kernel
theorem dX7_wire_84 : decode cX7_wire 84 = .ok (.invokevirtual 94, 3) := by decide +kernel
theorem dX7_wire_87 : decode cX7_wire 87 = .ok (.ifCond .ne 10, 3) := by decide +kernel
theorem dX7_wire_90 : decode cX7_wire 90 = .ok (.aload_n 0, 1) := by decide +kernel
theorem dX7_wire_91 : decode cX7_wire 91 = .ok (.iload 4, 2) := by decide +kernel
theorem dX7_wire_93 : decode cX7_wire 93 = .ok (.invokevirtual 100, 3) := by decide +kernel
theorem dX7_wire_96 : decode cX7_wire 96 = .ok (.ireturn, 1) := by decide +kernel
theorem dX7_wire_97 : decode cX7_wire 97 = .ok (.iload_n 2, 1) := by decide +kernel
theorem dX7_wire_98 : decode cX7_wire 98 = .ok (.ifCond .ne 8, 3) := by decide +kernel
theorem dX7_wire_101 : decode cX7_wire 101 = .ok (.bipush 18, 2) := by decide +kernel
theorem dX7_wire_103 : decode cX7_wire 103 = .ok (.goto 5, 3) := by decide +kernel
theorem dX7_wire_106 : decode cX7_wire 106 = .ok (.bipush 30, 2) := by decide +kernel
theorem dX7_wire_108 : decode cX7_wire 108 = .ok (.iload_n 1, 1) := by decide +kernel
theorem dX7_wire_109 : decode cX7_wire 109 = .ok (.iadd, 1) := by decide +kernel
theorem dX7_wire_110 : decode cX7_wire 110 = .ok (.istore 5, 2) := by decide +kernel
theorem dX7_wire_112 : decode cX7_wire 112 = .ok (.aload_n 0, 1) := by decide +kernel
theorem dX7_wire_113 : decode cX7_wire 113 = .ok (.getfield 7, 3) := by decide +kernel
theorem dX7_wire_116 : decode cX7_wire 116 = .ok (.iload 5, 2) := by decide +kernel
theorem dX7_wire_118 : decode cX7_wire 118 = .ok (.iaload, 1) := by decide +kernel
theorem dX7_wire_119 : decode cX7_wire 119 = .ok (.istore 6, 2) := by decide +kernel
theorem dX7_wire_121 : decode cX7_wire 121 = .ok (.aload_n 0, 1) := by decide +kernel
theorem dX7_wire_122 : decode cX7_wire 122 = .ok (.getfield 7, 3) := by decide +kernel
theorem dX7_wire_125 : decode cX7_wire 125 = .ok (.iload 5, 2) := by decide +kernel
theorem dX7_wire_127 : decode cX7_wire 127 = .ok (.iload_n 3, 1) := by decide +kernel
theorem dX7_wire_128 : decode cX7_wire 128 = .ok (.iastore, 1) := by decide +kernel
theorem dX7_wire_129 : decode cX7_wire 129 = .ok (.iload 6, 2) := by decide +kernel
theorem dX7_wire_131 : decode cX7_wire 131 = .ok (.ireturn, 1) := by decide +kernel
set_option maxRecDepth 20000 in
theorem ggX7_of_X7_isGate : GoodIn wsX7_of wsX7_isGate := goodIn_r _ [6, 1, 7, 8, 9, 5, 10, 11, 12, 13, 23, 24, 25, 26, 27, 28, 29, 30, 31, 32, 33, 34, 35, 36, 37, 38] (by decide +kernel) (by decide +kernel)
set_option maxRecDepth 20000 in
theorem gX7_of_X7_isGate : GoodIn wsX7_of (wsV RX7 97 RX7 yX7_isGate wsX7_isGate) := goodIn_app (goodIn_of _ (by decide +kernel)) ggX7_of_X7_isGate
set_option maxRecDepth 20000 in
theorem ggX7_of_X7_in : GoodIn wsX7_of wsX7_in := goodIn_r _ [13] (by decide +kernel) (by decide +kernel)
set_option maxRecDepth 20000 in
theorem gX7_of_X7_in : GoodIn wsX7_of (va_wsS RX7 39 yX7_in wsX7_in) := goodIn_app (goodIn_of _ (by decide +kernel)) ggX7_of_X7_in
set_option maxRecDepth 20000 in
theorem ggX7_of_X7_isThere : GoodIn wsX7_of wsX7_isThere := goodIn_r _ [10, 1, 23, 24, 25, 26, 27, 28, 29, 30, 31, 32, 33, 34, 35, 36, 37, 38] (by decide +kernel) (by decide +kernel)
set_option maxRecDepth 20000 in
theorem gX7_of_X7_isThere : GoodIn wsX7_of (wsV RX7 94 RX7 yX7_isThere wsX7_isThere) := goodIn_app (goodIn_of _ (by decide +kernel)) ggX7_of_X7_isThere
set_option maxRecDepth 20000 in
theorem ggX7_of_X7_none : GoodIn wsX7_of wsX7_none := goodIn_r _ [17, 18, 19, 20, 5, 21, 22, 23, 24, 25, 26, 27, 28, 29, 30, 31, 32, 33, 34, 35, 36, 37, 38] (by decide +kernel) (by decide +kernel)
set_option maxRecDepth 20000 in
theorem gX7_of_X7_none : GoodIn wsX7_of (wsV RX7 100 RX7 yX7_none wsX7_none) := goodIn_app (goodIn_of _ (by decide +kernel)) ggX7_of_X7_none
theorem dX7_of_0 : decode cX7_of 0 = .ok (.aload_n 0, 1) := by decide +kernel
theorem dX7_of_1 : decode cX7_of 1 = .ok (.iload_n 1, 1) := by decide +kernel
theorem dX7_of_2 : decode cX7_of 2 = .ok (.invokevirtual 97, 3) := by decide +kernel
theorem dX7_of_5 : decode cX7_of 5 = .ok (.ifCond .eq 16, 3) := by decide +kernel
theorem dX7_of_8 : decode cX7_of 8 = .ok (.iload_n 2, 1) := by decide +kernel
theorem dX7_of_9 : decode cX7_of 9 = .ok (.iconst 0, 1) := by decide +kernel
theorem dX7_of_10 : decode cX7_of 10 = .ok (.iconst 3, 1) := by decide +kernel
theorem dX7_of_11 : decode cX7_of 11 = .ok (.invokestatic 39, 3) := by decide +kernel
theorem dX7_of_14 : decode cX7_of 14 = .ok (.ifCond .eq 7, 3) := by decide +kernel
theorem dX7_of_17 : decode cX7_of 17 = .ok (.iconst 1, 1) := by decide +kernel
theorem dX7_of_18 : decode cX7_of 18 = .ok (.goto 4, 3) := by decide +kernel
theorem dX7_of_21 : decode cX7_of 21 = .ok (.iconst 0, 1) := by decide +kernel
theorem dX7_of_22 : decode cX7_of 22 = .ok (.istore_n 3, 1) := by decide +kernel
theorem dX7_of_23 : decode cX7_of 23 = .ok (.iload_n 3, 1) := by decide +kernel
theorem dX7_of_24 : decode cX7_of 24 = .ok (.ifCond .eq 10, 3) := by decide +kernel
theorem dX7_of_27 : decode cX7_of 27 = .ok (.aload_n 0, 1) := by decide +kernel
theorem dX7_of_28 : decode cX7_of 28 = .ok (.invokevirtual 94, 3) := by decide +kernel
theorem dX7_of_31 : decode cX7_of 31 = .ok (.ifCond .ne 9, 3) := by decide +kernel
theorem dX7_of_34 : decode cX7_of 34 = .ok (.aload_n 0, 1) := by decide +kernel
theorem dX7_of_35 : decode cX7_of 35 = .ok (.iload_n 3, 1) := by decide +kernel
theorem dX7_of_36 : decode cX7_of 36 = .ok (.invokevirtual 100, 3) := by decide +kernel
theorem dX7_of_39 : decode cX7_of 39 = .ok (.ireturn, 1) := by decide +kernel
theorem dX7_of_40 : decode cX7_of 40 = .ok (.iload_n 2, 1) := by decide +kernel
theorem dX7_of_41 : decode cX7_of 41 = .ok (.iconst 3, 1) := by decide +kernel
theorem dX7_of_42 : decode cX7_of 42 = .ok (.if_icmp .ge 46, 3) := by decide +kernel
theorem dX7_of_45 : decode cX7_of 45 = .ok (.iload_n 2, 1) := by decide +kernel
theorem dX7_of_46 : decode cX7_of 46 = .ok (.ifCond .ne 15, 3) := by decide +kernel
theorem dX7_of_49 : decode cX7_of 49 = .ok (.aload_n 0, 1) := by decide +kernel
theorem dX7_of_50 : decode cX7_of 50 = .ok (.getfield 7, 3) := by decide +kernel
theorem dX7_of_53 : decode cX7_of 53 = .ok (.bipush 6, 2) := by decide +kernel
theorem dX7_of_55 : decode cX7_of 55 = .ok (.iload_n 1, 1) := by decide +kernel
theorem dX7_of_56 : decode cX7_of 56 = .ok (.iadd, 1) := by decide +kernel
theorem dX7_of_57 : decode cX7_of 57 = .ok (.iaload, 1) := by decide +kernel
theorem dX7_of_58 : decode cX7_of 58 = .ok (.goto 29, 3) := by decide +kernel
theorem dX7_of_61 : decode cX7_of 61 = .ok (.iload_n 2, 1) := by decide +kernel
theorem dX7_of_62 : decode cX7_of 62 = .ok (.iconst 1, 1) := by decide +kernel
theorem dX7_of_63 : decode cX7_of 63 = .ok (.if_icmp .ne 15, 3) := by decide +kernel
theorem dX7_of_66 : decode cX7_of 66 = .ok (.aload_n 0, 1) := by decide +kernel
theorem dX7_of_67 : decode cX7_of 67 = .ok (.getfield 7, 3) := by decide +kernel
theorem dX7_of_70 : decode cX7_of 70 = .ok (.bipush 18, 2) := by decide +kernel
theorem dX7_of_72 : decode cX7_of 72 = .ok (.iload_n 1, 1) := by decide +kernel
theorem dX7_of_73 : decode cX7_of 73 = .ok (.iadd, 1) := by decide +kernel
theorem dX7_of_74 : decode cX7_of 74 = .ok (.iaload, 1) := by decide +kernel
theorem dX7_of_75 : decode cX7_of 75 = .ok (.goto 12, 3) := by decide +kernel
theorem dX7_of_78 : decode cX7_of 78 = .ok (.aload_n 0, 1) := by decide +kernel
theorem dX7_of_79 : decode cX7_of 79 = .ok (.getfield 7, 3) := by decide +kernel
theorem dX7_of_82 : decode cX7_of 82 = .ok (.bipush 30, 2) := by decide +kernel
theorem dX7_of_84 : decode cX7_of 84 = .ok (.iload_n 1, 1) := by decide +kernel
theorem dX7_of_85 : decode cX7_of 85 = .ok (.iadd, 1) := by decide +kernel
theorem dX7_of_86 : decode cX7_of 86 = .ok (.iaload, 1) := by decide +kernel
theorem dX7_of_87 : decode cX7_of 87 = .ok (.ireturn, 1) := by decide +kernel
theorem dX7_of_88 : decode cX7_of 88 = .ok (.aload_n 0, 1) := by decide +kernel
theorem dX7_of_89 : decode cX7_of 89 = .ok (.getfield 7, 3) := by decide +kernel
theorem dX7_of_92 : decode cX7_of 92 = .ok (.iconst 0, 1) := by decide +kernel
theorem dX7_of_93 : decode cX7_of 93 = .ok (.iaload, 1) := by decide +kernel
theorem dX7_of_94 : decode cX7_of 94 = .ok (.iload_n 1, 1) := by decide +kernel
theorem dX7_of_95 : decode cX7_of 95 = .ok (.iadd, 1) := by decide +kernel
theorem dX7_of_96 : decode cX7_of 96 = .ok (.istore 4, 2) := by decide +kernel
theorem dX7_of_98 : decode cX7_of 98 = .ok (.iconst 0, 1) := by decide +kernel
theorem dX7_of_99 : decode cX7_of 99 = .ok (.istore 5, 2) := by decide +kernel
theorem dX7_of_101 : decode cX7_of 101 = .ok (.iconst 0, 1) := by decide +kernel
theorem dX7_of_102 : decode cX7_of 102 = .ok (.istore 6, 2) := by decide +kernel
theorem dX7_of_104 : decode cX7_of 104 = .ok (.iload 6, 2) := by decide +kernel
theorem dX7_of_106 : decode cX7_of 106 = .ok (.aload_n 0, 1) := by decide +kernel
theorem dX7_of_107 : decode cX7_of 107 = .ok (.getfield 7, 3) := by decide +kernel
theorem dX7_of_110 : decode cX7_of 110 = .ok (.iconst 1, 1) := by decide +kernel
theorem dX7_of_111 : decode cX7_of 111 = .ok (.iaload, 1) := by decide +kernel
theorem dX7_of_112 : decode cX7_of 112 = .ok (.if_icmp .ge 49, 3) := by decide +kernel
theorem dX7_of_115 : decode cX7_of 115 = .ok (.iload 5, 2) := by decide +kernel
theorem dX7_of_117 : decode cX7_of 117 = .ok (.aload_n 0, 1) := by decide +kernel
theorem dX7_of_118 : decode cX7_of 118 = .ok (.getfield 7, 3) := by decide +kernel
theorem dX7_of_121 : decode cX7_of 121 = .ok (.bipush 18, 2) := by decide +kernel
theorem dX7_of_123 : decode cX7_of 123 = .ok (.iload 6, 2) := by decide +kernel
theorem dX7_of_125 : decode cX7_of 125 = .ok (.iadd, 1) := by decide +kernel
theorem dX7_of_126 : decode cX7_of 126 = .ok (.iaload, 1) := by decide +kernel
theorem dX7_of_127 : decode cX7_of 127 = .ok (.iload 4, 2) := by decide +kernel
theorem dX7_of_129 : decode cX7_of 129 = .ok (.if_icmp .eq 18, 3) := by decide +kernel
theorem dX7_of_132 : decode cX7_of 132 = .ok (.aload_n 0, 1) := by decide +kernel
theorem dX7_of_133 : decode cX7_of 133 = .ok (.getfield 7, 3) := by decide +kernel
theorem dX7_of_136 : decode cX7_of 136 = .ok (.bipush 30, 2) := by decide +kernel
theorem dX7_of_138 : decode cX7_of 138 = .ok (.iload 6, 2) := by decide +kernel
theorem dX7_of_140 : decode cX7_of 140 = .ok (.iadd, 1) := by decide +kernel
theorem dX7_of_141 : decode cX7_of 141 = .ok (.iaload, 1) := by decide +kernel
theorem dX7_of_142 : decode cX7_of 142 = .ok (.iload 4, 2) := by decide +kernel
theorem dX7_of_144 : decode cX7_of 144 = .ok (.if_icmp .ne 7, 3) := by decide +kernel
theorem dX7_of_147 : decode cX7_of 147 = .ok (.iconst 1, 1) := by decide +kernel
theorem dX7_of_148 : decode cX7_of 148 = .ok (.goto 4, 3) := by decide +kernel
theorem dX7_of_151 : decode cX7_of 151 = .ok (.iconst 0, 1) := by decide +kernel
theorem dX7_of_152 : decode cX7_of 152 = .ok (.iadd, 1) := by decide +kernel
theorem dX7_of_153 : decode cX7_of 153 = .ok (.istore 5, 2) := by decide +kernel
theorem dX7_of_155 : decode cX7_of 155 = .ok (.iinc 6 1, 3) := by decide +kernel
theorem dX7_of_158 : decode cX7_of 158 = .ok (.goto (-54), 3) := by decide +kernel
theorem dX7_of_161 : decode cX7_of 161 = .ok (.iconst 0, 1) := by decide +kernel
theorem dX7_of_162 : decode cX7_of 162 = .ok (.istore 6, 2) := by decide +kernel
theorem dX7_of_164 : decode cX7_of 164 = .ok (.iload 6, 2) := by decide +kernel
theorem dX7_of_166 : decode cX7_of 166 = .ok (.aload_n 0, 1) := by decide +kernel
theorem dX7_of_167 : decode cX7_of 167 = .ok (.getfield 7, 3) := by decide +kernel
theorem dX7_of_170 : decode cX7_of 170 = .ok (.iconst 2, 1) := by decide +kernel
theorem dX7_of_171 : decode cX7_of 171 = .ok (.iaload, 1) := by decide +kernel
theorem dX7_of_172 : decode cX7_of 172 = .ok (.if_icmp .ge 34, 3) := by decide +kernel
theorem dX7_of_175 : decode cX7_of 175 = .ok (.iload 5, 2) := by decide +kernel
theorem dX7_of_177 : decode cX7_of 177 = .ok (.aload_n 0, 1) := by decide +kernel
theorem dX7_of_178 : decode cX7_of 178 = .ok (.getfield 7, 3) := by decide +kernel
theorem dX7_of_181 : decode cX7_of 181 = .ok (.bipush 42, 2) := by decide +kernel
theorem dX7_of_183 : decode cX7_of 183 = .ok (.iload 6, 2) := by decide +kernel
theorem dX7_of_185 : decode cX7_of 185 = .ok (.iadd, 1) := by decide +kernel
theorem dX7_of_186 : decode cX7_of 186 = .ok (.iaload, 1) := by decide +kernel
theorem dX7_of_187 : decode cX7_of 187 = .ok (.iload 4, 2) := by decide +kernel
theorem dX7_of_189 : decode cX7_of 189 = .ok (.if_icmp .ne 7, 3) := by decide +kernel
theorem dX7_of_192 : decode cX7_of 192 = .ok (.iconst 1, 1) := by decide +kernel
theorem dX7_of_193 : decode cX7_of 193 = .ok (.goto 4, 3) := by decide +kernel
theorem dX7_of_196 : decode cX7_of 196 = .ok (.iconst 0, 1) := by decide +kernel
theorem dX7_of_197 : decode cX7_of 197 = .ok (.iadd, 1) := by decide +kernel
theorem dX7_of_198 : decode cX7_of 198 = .ok (.istore 5, 2) := by decide +kernel
theorem dX7_of_200 : decode cX7_of 200 = .ok (.iinc 6 1, 3) := by decide +kernel
theorem dX7_of_203 : decode cX7_of 203 = .ok (.goto (-39), 3) := by decide +kernel
theorem dX7_of_206 : decode cX7_of 206 = .ok (.iload 5, 2) := by decide +kernel
theorem dX7_of_208 : decode cX7_of 208 = .ok (.ireturn, 1) := by decide +kernel
set_option maxRecDepth 20000 in
theorem ggX7_told_X7_isThere : GoodIn wsX7_told wsX7_isThere := goodIn_r _ [6, 1, 19, 20, 21, 22, 23, 24, 25, 26, 27, 28, 29, 30, 31, 32, 33, 34] (by decide +kernel) (by decide +kernel)
set_option maxRecDepth 20000 in
theorem gX7_told_X7_isThere : GoodIn wsX7_told (wsV RX7 94 RX7 yX7_isThere wsX7_isThere) := goodIn_app (goodIn_of _ (by decide +kernel)) ggX7_told_X7_isThere
set_option maxRecDepth 20000 in
theorem ggX7_told_X7_in : GoodIn wsX7_told wsX7_in := goodIn_r _ [9] (by decide +kernel) (by decide +kernel)
set_option maxRecDepth 20000 in
theorem gX7_told_X7_in : GoodIn wsX7_told (va_wsS RX7 39 yX7_in wsX7_in) := goodIn_app (goodIn_of _ (by decide +kernel)) ggX7_told_X7_in
set_option maxRecDepth 20000 in
theorem ggX7_told_X7_none : GoodIn wsX7_told wsX7_none := goodIn_r _ [13, 14, 15, 16, 5, 17, 18, 19, 20, 21, 22, 23, 24, 25, 26, 27, 28, 29, 30, 31, 32, 33, 34] (by decide +kernel) (by decide +kernel)
set_option maxRecDepth 20000 in
theorem gX7_told_X7_none : GoodIn wsX7_told (wsV RX7 100 RX7 yX7_none wsX7_none) := goodIn_app (goodIn_of _ (by decide +kernel)) ggX7_told_X7_none
theorem dX7_told_0 : decode cX7_told 0 = .ok (.iload_n 1, 1) := by decide +kernel
theorem dX7_told_1 : decode cX7_told 1 = .ok (.ifCond .ne 31, 3) := by decide +kernel
theorem dX7_told_4 : decode cX7_told 4 = .ok (.iload_n 2, 1) := by decide +kernel
theorem dX7_told_5 : decode cX7_told 5 = .ok (.iconst 0, 1) := by decide +kernel
theorem dX7_told_6 : decode cX7_told 6 = .ok (.aload_n 0, 1) := by decide +kernel
theorem dX7_told_7 : decode cX7_told 7 = .ok (.invokevirtual 94, 3) := by decide +kernel
theorem dX7_told_10 : decode cX7_told 10 = .ok (.ifCond .eq 14, 3) := by decide +kernel
theorem dX7_told_13 : decode cX7_told 13 = .ok (.aload_n 0, 1) := by decide +kernel
theorem dX7_told_14 : decode cX7_told 14 = .ok (.getfield 7, 3) := by decide +kernel
theorem dX7_told_17 : decode cX7_told 17 = .ok (.iconst 2, 1) := by decide +kernel
theorem dX7_told_18 : decode cX7_told 18 = .ok (.iaload, 1) := by decide +kernel
theorem dX7_told_19 : decode cX7_told 19 = .ok (.iconst 1, 1) := by decide +kernel
theorem dX7_told_20 : decode cX7_told 20 = .ok (.isub, 1) := by decide +kernel
theorem dX7_told_21 : decode cX7_told 21 = .ok (.goto 5, 3) := by decide +kernel
theorem dX7_told_24 : decode cX7_told 24 = .ok (.bipush 6, 2) := by decide +kernel
theorem dX7_told_26 : decode cX7_told 26 = .ok (.invokestatic 39, 3) := by decide +kernel
theorem dX7_told_29 : decode cX7_told 29 = .ok (.goto 21, 3) := by decide +kernel
theorem dX7_told_32 : decode cX7_told 32 = .ok (.iload_n 1, 1) := by decide +kernel
theorem dX7_told_33 : decode cX7_told 33 = .ok (.iconst 1, 1) := by decide +kernel
theorem dX7_told_34 : decode cX7_told 34 = .ok (.iconst 3, 1) := by decide +kernel
theorem dX7_told_35 : decode cX7_told 35 = .ok (.invokestatic 39, 3) := by decide +kernel
theorem dX7_told_38 : decode cX7_told 38 = .ok (.ifCond .eq 11, 3) := by decide +kernel
theorem dX7_told_41 : decode cX7_told 41 = .ok (.iload_n 2, 1) := by decide +kernel
theorem dX7_told_42 : decode cX7_told 42 = .ok (.ifCond .ne 7, 3) := by decide +kernel
theorem dX7_told_45 : decode cX7_told 45 = .ok (.iconst 1, 1) := by decide +kernel
theorem dX7_told_46 : decode cX7_told 46 = .ok (.goto 4, 3) := by decide +kernel
theorem dX7_told_49 : decode cX7_told 49 = .ok (.iconst 0, 1) := by decide +kernel
theorem dX7_told_50 : decode cX7_told 50 = .ok (.istore_n 3, 1) := by decide +kernel
theorem dX7_told_51 : decode cX7_told 51 = .ok (.iload_n 3, 1) := by decide +kernel
theorem dX7_told_52 : decode cX7_told 52 = .ok (.ifCond .eq 10, 3) := by decide +kernel
theorem dX7_told_55 : decode cX7_told 55 = .ok (.aload_n 0, 1) := by decide +kernel
theorem dX7_told_56 : decode cX7_told 56 = .ok (.invokevirtual 94, 3) := by decide +kernel
theorem dX7_told_59 : decode cX7_told 59 = .ok (.ifCond .ne 9, 3) := by decide +kernel
theorem dX7_told_62 : decode cX7_told 62 = .ok (.aload_n 0, 1) := by decide +kernel
theorem dX7_told_63 : decode cX7_told 63 = .ok (.iload_n 3, 1) := by decide +kernel
theorem dX7_told_64 : decode cX7_told 64 = .ok (.invokevirtual 100, 3) := by decide +kernel
theorem dX7_told_67 : decode cX7_told 67 = .ok (.ireturn, 1) := by decide +kernel
theorem dX7_told_68 : decode cX7_told 68 = .ok (.iload_n 1, 1) := by decide +kernel
theorem dX7_told_69 : decode cX7_told 69 = .ok (.ifCond .ne 15, 3) := by decide +kernel
theorem dX7_told_72 : decode cX7_told 72 = .ok (.aload_n 0, 1) := by decide +kernel
theorem dX7_told_73 : decode cX7_told 73 = .ok (.getfield 7, 3) := by decide +kernel
theorem dX7_told_76 : decode cX7_told 76 = .ok (.bipush 42, 2) := by decide +kernel
theorem dX7_told_78 : decode cX7_told 78 = .ok (.iload_n 2, 1) := by decide +kernel
theorem dX7_told_79 : decode cX7_told 79 = .ok (.iadd, 1) := by decide +kernel
theorem dX7_told_80 : decode cX7_told 80 = .ok (.iaload, 1) := by decide +kernel
theorem dX7_told_81 : decode cX7_told 81 = .ok (.goto 13, 3) := by decide +kernel
theorem dX7_told_84 : decode cX7_told 84 = .ok (.aload_n 0, 1) := by decide +kernel
theorem dX7_told_85 : decode cX7_told 85 = .ok (.getfield 7, 3) := by decide +kernel
theorem dX7_told_88 : decode cX7_told 88 = .ok (.iconst 3, 1) := by decide +kernel
theorem dX7_told_89 : decode cX7_told 89 = .ok (.iload_n 1, 1) := by decide +kernel
theorem dX7_told_90 : decode cX7_told 90 = .ok (.iadd, 1) := by decide +kernel
theorem dX7_told_91 : decode cX7_told 91 = .ok (.iconst 1, 1) := by decide +kernel
theorem dX7_told_92 : decode cX7_told 92 = .ok (.isub, 1) := by decide +kernel
theorem dX7_told_93 : decode cX7_told 93 = .ok (.iaload, 1) := by decide +kernel
theorem dX7_told_94 : decode cX7_told 94 = .ok (.ireturn, 1) := by decide +kernel
theorem dX7_lays_0 : decode cX7_lays 0 = .ok (.aload_n 0, 1) := by decide +kernel
theorem dX7_lays_1 : decode cX7_lays 1 = .ok (.iconst 1, 1) := by decide +kernel
theorem dX7_lays_2 : decode cX7_lays 2 = .ok (.iaload, 1) := by decide +kernel
theorem dX7_lays_3 : decode cX7_lays 3 = .ok (.istore 4, 2) := by decide +kernel
theorem dX7_lays_5 : decode cX7_lays 5 = .ok (.aload_n 0, 1) := by decide +kernel
theorem dX7_lays_6 : decode cX7_lays 6 = .ok (.bipush 6, 2) := by decide +kernel
theorem dX7_lays_8 : decode cX7_lays 8 = .ok (.iload 4, 2) := by decide +kernel
theorem dX7_lays_10 : decode cX7_lays 10 = .ok (.iadd, 1) := by decide +kernel
theorem dX7_lays_11 : decode cX7_lays 11 = .ok (.iload_n 1, 1) := by decide +kernel
theorem dX7_lays_12 : decode cX7_lays 12 = .ok (.iastore, 1) := by decide +kernel
theorem dX7_lays_13 : decode cX7_lays 13 = .ok (.aload_n 0, 1) := by decide +kernel
theorem dX7_lays_14 : decode cX7_lays 14 = .ok (.bipush 18, 2) := by decide +kernel
theorem dX7_lays_16 : decode cX7_lays 16 = .ok (.iload 4, 2) := by decide +kernel
theorem dX7_lays_18 : decode cX7_lays 18 = .ok (.iadd, 1) := by decide +kernel
theorem dX7_lays_19 : decode cX7_lays 19 = .ok (.iload_n 2, 1) := by decide +kernel
theorem dX7_lays_20 : decode cX7_lays 20 = .ok (.iastore, 1) := by decide +kernel
theorem dX7_lays_21 : decode cX7_lays 21 = .ok (.aload_n 0, 1) := by decide +kernel
theorem dX7_lays_22 : decode cX7_lays 22 = .ok (.bipush 30, 2) := by decide +kernel
theorem dX7_lays_24 : decode cX7_lays 24 = .ok (.iload 4, 2) := by decide +kernel
theorem dX7_lays_26 : decode cX7_lays 26 = .ok (.iadd, 1) := by decide +kernel
theorem dX7_lays_27 : decode cX7_lays 27 = .ok (.iload_n 1, 1) := by decide +kernel
theorem dX7_lays_28 : decode cX7_lays 28 = .ok (.ifCond .ne 7, 3) := by decide +kernel
theorem dX7_lays_31 : decode cX7_lays 31 = .ok (.iconst (-1), 1) := by decide +kernel
theorem dX7_lays_32 : decode cX7_lays 32 = .ok (.goto 4, 3) := by decide +kernel
theorem dX7_lays_35 : decode cX7_lays 35 = .ok (.iload_n 3, 1) := by decide +kernel
theorem dX7_lays_36 : decode cX7_lays 36 = .ok (.iastore, 1) := by decide +kernel
theorem dX7_lays_37 : decode cX7_lays 37 = .ok (.aload_n 0, 1) := by decide +kernel
theorem dX7_lays_38 : decode cX7_lays 38 = .ok (.iconst 1, 1) := by decide +kernel
theorem dX7_lays_39 : decode cX7_lays 39 = .ok (.dup2, 1) := by decide +kernel
theorem dX7_lays_40 : decode cX7_lays 40 = .ok (.iaload, 1) := by decide +kernel
theorem dX7_lays_41 : decode cX7_lays 41 = .ok (.iconst 1, 1) := by decide +kernel
theorem dX7_lays_42 : decode cX7_lays 42 = .ok (.iadd, 1) := by decide +kernel
theorem dX7_lays_43 : decode cX7_lays 43 = .ok (.iastore, 1) := by decide +kernel
theorem dX7_lays_44 : decode cX7_lays 44 = .ok (.aload_n 0, 1) := by decide +kernel
theorem dX7_lays_45 : decode cX7_lays 45 = .ok (.iconst 0, 1) := by decide +kernel
theorem dX7_lays_46 : decode cX7_lays 46 = .ok (.iaload, 1) := by decide +kernel
theorem dX7_lays_47 : decode cX7_lays 47 = .ok (.iload 4, 2) := by decide +kernel
theorem dX7_lays_49 : decode cX7_lays 49 = .ok (.iadd, 1) := by decide +kernel
theorem dX7_lays_50 : decode cX7_lays 50 = .ok (.ireturn, 1) := by decide +kernel
theorem dX7_outs_0 : decode cX7_outs 0 = .ok (.aload_n 0, 1) := by decide +kernel
theorem dX7_outs_1 : decode cX7_outs 1 = .ok (.getfield 7, 3) := by decide +kernel
theorem dX7_outs_4 : decode cX7_outs 4 = .ok (.bipush 42, 2) := by decide +kernel
theorem dX7_outs_6 : decode cX7_outs 6 = .ok (.aload_n 0, 1) := by decide +kernel
theorem dX7_outs_7 : decode cX7_outs 7 = .ok (.getfield 7, 3) := by decide +kernel
theorem dX7_outs_10 : decode cX7_outs 10 = .ok (.iconst 2, 1) := by decide +kernel
theorem dX7_outs_11 : decode cX7_outs 11 = .ok (.iaload, 1) := by decide +kernel
theorem dX7_outs_12 : decode cX7_outs 12 = .ok (.iadd, 1) := by decide +kernel
theorem dX7_outs_13 : decode cX7_outs 13 = .ok (.iload_n 1, 1) := by decide +kernel
theorem dX7_outs_14 : decode cX7_outs 14 = .ok (.iastore, 1) := by decide +kernel
theorem dX7_outs_15 : decode cX7_outs 15 = .ok (.aload_n 0, 1) := by decide +kernel
theorem dX7_outs_16 : decode cX7_outs 16 = .ok (.getfield 7, 3) := by decide +kernel
theorem dX7_outs_19 : decode cX7_outs 19 = .ok (.iconst 2, 1) := by decide +kernel
theorem dX7_outs_20 : decode cX7_outs 20 = .ok (.dup2, 1) := by decide +kernel
theorem dX7_outs_21 : decode cX7_outs 21 = .ok (.iaload, 1) := by decide +kernel
theorem dX7_outs_22 : decode cX7_outs 22 = .ok (.iconst 1, 1) := by decide +kernel
theorem dX7_outs_23 : decode cX7_outs 23 = .ok (.iadd, 1) := by decide +kernel
theorem dX7_outs_24 : decode cX7_outs 24 = .ok (.iastore, 1) := by decide +kernel
theorem dX7_outs_25 : decode cX7_outs 25 = .ok (.return_, 1) := by decide +kernel
theorem dX7_begins_0 : decode cX7_begins 0 = .ok (.iconst 0, 1) := by decide +kernel
theorem dX7_begins_1 : decode cX7_begins 1 = .ok (.istore 5, 2) := by decide +kernel
theorem dX7_begins_3 : decode cX7_begins 3 = .ok (.iload 5, 2) := by decide +kernel
theorem dX7_begins_5 : decode cX7_begins 5 = .ok (.bipush 49, 2) := by decide +kernel
theorem dX7_begins_7 : decode cX7_begins 7 = .ok (.if_icmp .ge 17, 3) := by decide +kernel
