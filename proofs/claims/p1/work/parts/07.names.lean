theorem dX7_begins_10 : decode cX7_begins 10 = .ok (.aload_n 0, 1) := by decide +kernel
theorem dX7_begins_11 : decode cX7_begins 11 = .ok (.getfield 7, 3) := by decide +kernel
theorem dX7_begins_14 : decode cX7_begins 14 = .ok (.iload 5, 2) := by decide +kernel
theorem dX7_begins_16 : decode cX7_begins 16 = .ok (.iconst 0, 1) := by decide +kernel
theorem dX7_begins_17 : decode cX7_begins 17 = .ok (.iastore, 1) := by decide +kernel
theorem dX7_begins_18 : decode cX7_begins 18 = .ok (.iinc 5 1, 3) := by decide +kernel
theorem dX7_begins_21 : decode cX7_begins 21 = .ok (.goto (-18), 3) := by decide +kernel
theorem dX7_begins_24 : decode cX7_begins 24 = .ok (.aload_n 0, 1) := by decide +kernel
theorem dX7_begins_25 : decode cX7_begins 25 = .ok (.getfield 7, 3) := by decide +kernel
theorem dX7_begins_28 : decode cX7_begins 28 = .ok (.iconst 0, 1) := by decide +kernel
theorem dX7_begins_29 : decode cX7_begins 29 = .ok (.iload_n 1, 1) := by decide +kernel
theorem dX7_begins_30 : decode cX7_begins 30 = .ok (.iastore, 1) := by decide +kernel
theorem dX7_begins_31 : decode cX7_begins 31 = .ok (.aload_n 0, 1) := by decide +kernel
theorem dX7_begins_32 : decode cX7_begins 32 = .ok (.getfield 7, 3) := by decide +kernel
theorem dX7_begins_35 : decode cX7_begins 35 = .ok (.iconst 3, 1) := by decide +kernel
theorem dX7_begins_36 : decode cX7_begins 36 = .ok (.iload_n 2, 1) := by decide +kernel
theorem dX7_begins_37 : decode cX7_begins 37 = .ok (.iastore, 1) := by decide +kernel
theorem dX7_begins_38 : decode cX7_begins 38 = .ok (.aload_n 0, 1) := by decide +kernel
theorem dX7_begins_39 : decode cX7_begins 39 = .ok (.getfield 7, 3) := by decide +kernel
theorem dX7_begins_42 : decode cX7_begins 42 = .ok (.iconst 4, 1) := by decide +kernel
theorem dX7_begins_43 : decode cX7_begins 43 = .ok (.iload_n 3, 1) := by decide +kernel
theorem dX7_begins_44 : decode cX7_begins 44 = .ok (.iastore, 1) := by decide +kernel
theorem dX7_begins_45 : decode cX7_begins 45 = .ok (.aload_n 0, 1) := by decide +kernel
theorem dX7_begins_46 : decode cX7_begins 46 = .ok (.getfield 7, 3) := by decide +kernel
theorem dX7_begins_49 : decode cX7_begins 49 = .ok (.iconst 5, 1) := by decide +kernel
theorem dX7_begins_50 : decode cX7_begins 50 = .ok (.iload 4, 2) := by decide +kernel
theorem dX7_begins_52 : decode cX7_begins 52 = .ok (.iastore, 1) := by decide +kernel
theorem dX7_begins_53 : decode cX7_begins 53 = .ok (.return_, 1) := by decide +kernel
set_option maxRecDepth 20000 in
theorem ggX7_adder_X7_in : GoodIn wsX7_adder wsX7_in := goodIn_r _ [5] (by decide +kernel) (by decide +kernel)
set_option maxRecDepth 20000 in
theorem gX7_adder_X7_in : GoodIn wsX7_adder (va_wsS RX7 39 yX7_in wsX7_in) := goodIn_app (goodIn_of _ (by decide +kernel)) ggX7_adder_X7_in
set_option maxRecDepth 20000 in
theorem ggX7_adder_X7_refuses : GoodIn wsX7_adder wsX7_refuses := goodIn_r _ [9, 10, 22, 23, 24, 25, 26, 27, 28, 29, 30, 31, 32, 33, 34, 35, 36, 37] (by decide +kernel) (by decide +kernel)
set_option maxRecDepth 20000 in
theorem gX7_adder_X7_refuses : GoodIn wsX7_adder (wsV RX7 43 RX7 yX7_refuses wsX7_refuses) := goodIn_app (goodIn_of _ (by decide +kernel)) ggX7_adder_X7_refuses
set_option maxRecDepth 20000 in
theorem ggX7_adder_X7_begins : GoodIn wsX7_adder wsX7_begins := goodIn_r _ [14, 1, 22, 23, 24, 25, 26, 27, 28, 29, 30, 31, 32, 33, 34, 35, 36, 37] (by decide +kernel) (by decide +kernel)
set_option maxRecDepth 20000 in
theorem gX7_adder_X7_begins : GoodIn wsX7_adder (wsV RX7 104 RX7 yX7_begins wsX7_begins) := goodIn_app (goodIn_of _ (by decide +kernel)) ggX7_adder_X7_begins
set_option maxRecDepth 20000 in
theorem ggX7_adder_X7_lays : GoodIn wsX7_adder wsX7_lays := goodIn_r _ [17] (by decide +kernel) (by decide +kernel)
set_option maxRecDepth 20000 in
theorem gX7_adder_X7_lays : GoodIn wsX7_adder (va_wsS RX7 108 yX7_lays wsX7_lays) := goodIn_app (goodIn_of _ (by decide +kernel)) ggX7_adder_X7_lays
set_option maxRecDepth 20000 in
theorem ggX7_adder_X7_outs : GoodIn wsX7_adder wsX7_outs := goodIn_r _ [21, 1, 22, 23, 24, 25, 26, 27, 28, 29, 30, 31, 32, 33, 34, 35, 36, 37] (by decide +kernel) (by decide +kernel)
set_option maxRecDepth 20000 in
theorem gX7_adder_X7_outs : GoodIn wsX7_adder (wsV RX7 112 RX7 yX7_outs wsX7_outs) := goodIn_app (goodIn_of _ (by decide +kernel)) ggX7_adder_X7_outs
theorem dX7_adder_0 : decode cX7_adder 0 = .ok (.iload_n 1, 1) := by decide +kernel
theorem dX7_adder_1 : decode cX7_adder 1 = .ok (.iconst 1, 1) := by decide +kernel
theorem dX7_adder_2 : decode cX7_adder 2 = .ok (.iconst 3, 1) := by decide +kernel
theorem dX7_adder_3 : decode cX7_adder 3 = .ok (.invokestatic 39, 3) := by decide +kernel
theorem dX7_adder_6 : decode cX7_adder 6 = .ok (.ifCond .ne 10, 3) := by decide +kernel
theorem dX7_adder_9 : decode cX7_adder 9 = .ok (.aload_n 0, 1) := by decide +kernel
theorem dX7_adder_10 : decode cX7_adder 10 = .ok (.bipush (-2), 2) := by decide +kernel
theorem dX7_adder_12 : decode cX7_adder 12 = .ok (.invokevirtual 43, 3) := by decide +kernel
theorem dX7_adder_15 : decode cX7_adder 15 = .ok (.ireturn, 1) := by decide +kernel
theorem dX7_adder_16 : decode cX7_adder 16 = .ok (.aload_n 0, 1) := by decide +kernel
theorem dX7_adder_17 : decode cX7_adder 17 = .ok (.iconst 2, 1) := by decide +kernel
theorem dX7_adder_18 : decode cX7_adder 18 = .ok (.iload_n 1, 1) := by decide +kernel
theorem dX7_adder_19 : decode cX7_adder 19 = .ok (.imul, 1) := by decide +kernel
theorem dX7_adder_20 : decode cX7_adder 20 = .ok (.iconst 0, 1) := by decide +kernel
theorem dX7_adder_21 : decode cX7_adder 21 = .ok (.iload_n 1, 1) := by decide +kernel
theorem dX7_adder_22 : decode cX7_adder 22 = .ok (.iload_n 1, 1) := by decide +kernel
theorem dX7_adder_23 : decode cX7_adder 23 = .ok (.invokevirtual 104, 3) := by decide +kernel
theorem dX7_adder_26 : decode cX7_adder 26 = .ok (.aload_n 0, 1) := by decide +kernel
theorem dX7_adder_27 : decode cX7_adder 27 = .ok (.aload_n 0, 1) := by decide +kernel
theorem dX7_adder_28 : decode cX7_adder 28 = .ok (.getfield 7, 3) := by decide +kernel
theorem dX7_adder_31 : decode cX7_adder 31 = .ok (.iconst 3, 1) := by decide +kernel
theorem dX7_adder_32 : decode cX7_adder 32 = .ok (.iconst 0, 1) := by decide +kernel
theorem dX7_adder_33 : decode cX7_adder 33 = .ok (.iload_n 1, 1) := by decide +kernel
theorem dX7_adder_34 : decode cX7_adder 34 = .ok (.invokestatic 108, 3) := by decide +kernel
theorem dX7_adder_37 : decode cX7_adder 37 = .ok (.invokevirtual 112, 3) := by decide +kernel
theorem dX7_adder_40 : decode cX7_adder 40 = .ok (.aload_n 0, 1) := by decide +kernel
theorem dX7_adder_41 : decode cX7_adder 41 = .ok (.getfield 7, 3) := by decide +kernel
theorem dX7_adder_44 : decode cX7_adder 44 = .ok (.iconst 1, 1) := by decide +kernel
theorem dX7_adder_45 : decode cX7_adder 45 = .ok (.iconst 0, 1) := by decide +kernel
theorem dX7_adder_46 : decode cX7_adder 46 = .ok (.iload_n 1, 1) := by decide +kernel
theorem dX7_adder_47 : decode cX7_adder 47 = .ok (.invokestatic 108, 3) := by decide +kernel
theorem dX7_adder_50 : decode cX7_adder 50 = .ok (.istore_n 2, 1) := by decide +kernel
theorem dX7_adder_51 : decode cX7_adder 51 = .ok (.iconst 1, 1) := by decide +kernel
theorem dX7_adder_52 : decode cX7_adder 52 = .ok (.istore_n 3, 1) := by decide +kernel
theorem dX7_adder_53 : decode cX7_adder 53 = .ok (.iload_n 3, 1) := by decide +kernel
theorem dX7_adder_54 : decode cX7_adder 54 = .ok (.iload_n 1, 1) := by decide +kernel
theorem dX7_adder_55 : decode cX7_adder 55 = .ok (.if_icmp .ge 78, 3) := by decide +kernel
theorem dX7_adder_58 : decode cX7_adder 58 = .ok (.aload_n 0, 1) := by decide +kernel
theorem dX7_adder_59 : decode cX7_adder 59 = .ok (.getfield 7, 3) := by decide +kernel
theorem dX7_adder_62 : decode cX7_adder 62 = .ok (.iconst 3, 1) := by decide +kernel
theorem dX7_adder_63 : decode cX7_adder 63 = .ok (.iload_n 3, 1) := by decide +kernel
theorem dX7_adder_64 : decode cX7_adder 64 = .ok (.iload_n 1, 1) := by decide +kernel
theorem dX7_adder_65 : decode cX7_adder 65 = .ok (.iload_n 3, 1) := by decide +kernel
theorem dX7_adder_66 : decode cX7_adder 66 = .ok (.iadd, 1) := by decide +kernel
theorem dX7_adder_67 : decode cX7_adder 67 = .ok (.invokestatic 108, 3) := by decide +kernel
theorem dX7_adder_70 : decode cX7_adder 70 = .ok (.istore 4, 2) := by decide +kernel
theorem dX7_adder_72 : decode cX7_adder 72 = .ok (.aload_n 0, 1) := by decide +kernel
theorem dX7_adder_73 : decode cX7_adder 73 = .ok (.aload_n 0, 1) := by decide +kernel
theorem dX7_adder_74 : decode cX7_adder 74 = .ok (.getfield 7, 3) := by decide +kernel
theorem dX7_adder_77 : decode cX7_adder 77 = .ok (.iconst 3, 1) := by decide +kernel
theorem dX7_adder_78 : decode cX7_adder 78 = .ok (.iload 4, 2) := by decide +kernel
theorem dX7_adder_80 : decode cX7_adder 80 = .ok (.iload_n 2, 1) := by decide +kernel
theorem dX7_adder_81 : decode cX7_adder 81 = .ok (.invokestatic 108, 3) := by decide +kernel
theorem dX7_adder_84 : decode cX7_adder 84 = .ok (.invokevirtual 112, 3) := by decide +kernel
theorem dX7_adder_87 : decode cX7_adder 87 = .ok (.aload_n 0, 1) := by decide +kernel
theorem dX7_adder_88 : decode cX7_adder 88 = .ok (.getfield 7, 3) := by decide +kernel
theorem dX7_adder_91 : decode cX7_adder 91 = .ok (.iconst 1, 1) := by decide +kernel
theorem dX7_adder_92 : decode cX7_adder 92 = .ok (.iload_n 3, 1) := by decide +kernel
theorem dX7_adder_93 : decode cX7_adder 93 = .ok (.iload_n 1, 1) := by decide +kernel
theorem dX7_adder_94 : decode cX7_adder 94 = .ok (.iload_n 3, 1) := by decide +kernel
theorem dX7_adder_95 : decode cX7_adder 95 = .ok (.iadd, 1) := by decide +kernel
theorem dX7_adder_96 : decode cX7_adder 96 = .ok (.invokestatic 108, 3) := by decide +kernel
theorem dX7_adder_99 : decode cX7_adder 99 = .ok (.istore 5, 2) := by decide +kernel
theorem dX7_adder_101 : decode cX7_adder 101 = .ok (.aload_n 0, 1) := by decide +kernel
theorem dX7_adder_102 : decode cX7_adder 102 = .ok (.getfield 7, 3) := by decide +kernel
theorem dX7_adder_105 : decode cX7_adder 105 = .ok (.iconst 1, 1) := by decide +kernel
theorem dX7_adder_106 : decode cX7_adder 106 = .ok (.iload 4, 2) := by decide +kernel
theorem dX7_adder_108 : decode cX7_adder 108 = .ok (.iload_n 2, 1) := by decide +kernel
theorem dX7_adder_109 : decode cX7_adder 109 = .ok (.invokestatic 108, 3) := by decide +kernel
theorem dX7_adder_112 : decode cX7_adder 112 = .ok (.istore 6, 2) := by decide +kernel
theorem dX7_adder_114 : decode cX7_adder 114 = .ok (.aload_n 0, 1) := by decide +kernel
theorem dX7_adder_115 : decode cX7_adder 115 = .ok (.getfield 7, 3) := by decide +kernel
theorem dX7_adder_118 : decode cX7_adder 118 = .ok (.iconst 2, 1) := by decide +kernel
theorem dX7_adder_119 : decode cX7_adder 119 = .ok (.iload 5, 2) := by decide +kernel
theorem dX7_adder_121 : decode cX7_adder 121 = .ok (.iload 6, 2) := by decide +kernel
theorem dX7_adder_123 : decode cX7_adder 123 = .ok (.invokestatic 108, 3) := by decide +kernel
theorem dX7_adder_126 : decode cX7_adder 126 = .ok (.istore_n 2, 1) := by decide +kernel
theorem dX7_adder_127 : decode cX7_adder 127 = .ok (.iinc 3 1, 3) := by decide +kernel
theorem dX7_adder_130 : decode cX7_adder 130 = .ok (.goto (-77), 3) := by decide +kernel
theorem dX7_adder_133 : decode cX7_adder 133 = .ok (.aload_n 0, 1) := by decide +kernel
theorem dX7_adder_134 : decode cX7_adder 134 = .ok (.iload_n 2, 1) := by decide +kernel
theorem dX7_adder_135 : decode cX7_adder 135 = .ok (.invokevirtual 112, 3) := by decide +kernel
theorem dX7_adder_138 : decode cX7_adder 138 = .ok (.aload_n 0, 1) := by decide +kernel
theorem dX7_adder_139 : decode cX7_adder 139 = .ok (.getfield 7, 3) := by decide +kernel
theorem dX7_adder_142 : decode cX7_adder 142 = .ok (.iconst 1, 1) := by decide +kernel
theorem dX7_adder_143 : decode cX7_adder 143 = .ok (.iaload, 1) := by decide +kernel
theorem dX7_adder_144 : decode cX7_adder 144 = .ok (.ireturn, 1) := by decide +kernel
set_option maxRecDepth 20000 in
theorem ggX7_draw_X7_in : GoodIn wsX7_draw wsX7_in := goodIn_r _ [13] (by decide +kernel) (by decide +kernel)
set_option maxRecDepth 20000 in
theorem gX7_draw_X7_in : GoodIn wsX7_draw (va_wsS RX7 39 yX7_in wsX7_in) := goodIn_app (goodIn_of _ (by decide +kernel)) ggX7_draw_X7_in
set_option maxRecDepth 20000 in
theorem ggX7_draw_X7_refuses : GoodIn wsX7_draw wsX7_refuses := goodIn_r _ [17, 18, 30, 31, 32, 33, 34, 35, 36, 37, 38, 39, 40, 41, 42, 43, 44, 45] (by decide +kernel) (by decide +kernel)
set_option maxRecDepth 20000 in
theorem gX7_draw_X7_refuses : GoodIn wsX7_draw (wsV RX7 43 RX7 yX7_refuses wsX7_refuses) := goodIn_app (goodIn_of _ (by decide +kernel)) ggX7_draw_X7_refuses
set_option maxRecDepth 20000 in
theorem ggX7_draw_X7_begins : GoodIn wsX7_draw wsX7_begins := goodIn_r _ [22, 5, 30, 31, 32, 33, 34, 35, 36, 37, 38, 39, 40, 41, 42, 43, 44, 45] (by decide +kernel) (by decide +kernel)
set_option maxRecDepth 20000 in
theorem gX7_draw_X7_begins : GoodIn wsX7_draw (wsV RX7 104 RX7 yX7_begins wsX7_begins) := goodIn_app (goodIn_of _ (by decide +kernel)) ggX7_draw_X7_begins
set_option maxRecDepth 20000 in
theorem ggX7_draw_X7_lays : GoodIn wsX7_draw wsX7_lays := goodIn_r _ [25] (by decide +kernel) (by decide +kernel)
set_option maxRecDepth 20000 in
theorem gX7_draw_X7_lays : GoodIn wsX7_draw (va_wsS RX7 108 yX7_lays wsX7_lays) := goodIn_app (goodIn_of _ (by decide +kernel)) ggX7_draw_X7_lays
set_option maxRecDepth 20000 in
theorem ggX7_draw_X7_outs : GoodIn wsX7_draw wsX7_outs := goodIn_r _ [29, 5, 30, 31, 32, 33, 34, 35, 36, 37, 38, 39, 40, 41, 42, 43, 44, 45] (by decide +kernel) (by decide +kernel)
set_option maxRecDepth 20000 in
theorem gX7_draw_X7_outs : GoodIn wsX7_draw (wsV RX7 112 RX7 yX7_outs wsX7_outs) := goodIn_app (goodIn_of _ (by decide +kernel)) ggX7_draw_X7_outs
theorem dX7_draw_0 : decode cX7_draw 0 = .ok (.iload_n 1, 1) := by decide +kernel
theorem dX7_draw_1 : decode cX7_draw 1 = .ok (.iconst 0, 1) := by decide +kernel
theorem dX7_draw_2 : decode cX7_draw 2 = .ok (.ldc 116, 2) := by decide +kernel
theorem dX7_draw_4 : decode cX7_draw 4 = .ok (.invokestatic 39, 3) := by decide +kernel
theorem dX7_draw_7 : decode cX7_draw 7 = .ok (.ifCond .eq 23, 3) := by decide +kernel
theorem dX7_draw_10 : decode cX7_draw 10 = .ok (.iload_n 2, 1) := by decide +kernel
theorem dX7_draw_11 : decode cX7_draw 11 = .ok (.iconst 1, 1) := by decide +kernel
theorem dX7_draw_12 : decode cX7_draw 12 = .ok (.bipush 6, 2) := by decide +kernel
theorem dX7_draw_14 : decode cX7_draw 14 = .ok (.invokestatic 39, 3) := by decide +kernel
theorem dX7_draw_17 : decode cX7_draw 17 = .ok (.ifCond .eq 13, 3) := by decide +kernel
theorem dX7_draw_20 : decode cX7_draw 20 = .ok (.iload_n 3, 1) := by decide +kernel
theorem dX7_draw_21 : decode cX7_draw 21 = .ok (.iconst 1, 1) := by decide +kernel
theorem dX7_draw_22 : decode cX7_draw 22 = .ok (.bipush 12, 2) := by decide +kernel
theorem dX7_draw_24 : decode cX7_draw 24 = .ok (.invokestatic 39, 3) := by decide +kernel
theorem dX7_draw_27 : decode cX7_draw 27 = .ok (.ifCond .ne 10, 3) := by decide +kernel
theorem dX7_draw_30 : decode cX7_draw 30 = .ok (.aload_n 0, 1) := by decide +kernel
theorem dX7_draw_31 : decode cX7_draw 31 = .ok (.bipush (-2), 2) := by decide +kernel
theorem dX7_draw_33 : decode cX7_draw 33 = .ok (.invokevirtual 43, 3) := by decide +kernel
theorem dX7_draw_36 : decode cX7_draw 36 = .ok (.ireturn, 1) := by decide +kernel
theorem dX7_draw_37 : decode cX7_draw 37 = .ok (.aload_n 0, 1) := by decide +kernel
theorem dX7_draw_38 : decode cX7_draw 38 = .ok (.iload_n 2, 1) := by decide +kernel
theorem dX7_draw_39 : decode cX7_draw 39 = .ok (.iconst 0, 1) := by decide +kernel
theorem dX7_draw_40 : decode cX7_draw 40 = .ok (.iconst 1, 1) := by decide +kernel
theorem dX7_draw_41 : decode cX7_draw 41 = .ok (.iconst 0, 1) := by decide +kernel
theorem dX7_draw_42 : decode cX7_draw 42 = .ok (.invokevirtual 104, 3) := by decide +kernel
theorem dX7_draw_45 : decode cX7_draw 45 = .ok (.iload_n 1, 1) := by decide +kernel
theorem dX7_draw_46 : decode cX7_draw 46 = .ok (.i2l, 1) := by decide +kernel
theorem dX7_draw_47 : decode cX7_draw 47 = .ok (.lstore 4, 2) := by decide +kernel
theorem dX7_draw_49 : decode cX7_draw 49 = .ok (.iconst 0, 1) := by decide +kernel
theorem dX7_draw_50 : decode cX7_draw 50 = .ok (.istore 6, 2) := by decide +kernel
theorem dX7_draw_52 : decode cX7_draw 52 = .ok (.iload 6, 2) := by decide +kernel
theorem dX7_draw_54 : decode cX7_draw 54 = .ok (.iload_n 3, 1) := by decide +kernel
theorem dX7_draw_55 : decode cX7_draw 55 = .ok (.if_icmp .ge 72, 3) := by decide +kernel
theorem dX7_draw_58 : decode cX7_draw 58 = .ok (.lload 4, 2) := by decide +kernel
theorem dX7_draw_60 : decode cX7_draw 60 = .ok (.ldc2_w 117, 3) := by decide +kernel
theorem dX7_draw_63 : decode cX7_draw 63 = .ok (.lmul, 1) := by decide +kernel
theorem dX7_draw_64 : decode cX7_draw 64 = .ok (.ldc2_w 119, 3) := by decide +kernel
theorem dX7_draw_67 : decode cX7_draw 67 = .ok (.ladd, 1) := by decide +kernel
theorem dX7_draw_68 : decode cX7_draw 68 = .ok (.ldc2_w 121, 3) := by decide +kernel
theorem dX7_draw_71 : decode cX7_draw 71 = .ok (.lrem, 1) := by decide +kernel
theorem dX7_draw_72 : decode cX7_draw 72 = .ok (.lstore 4, 2) := by decide +kernel
theorem dX7_draw_74 : decode cX7_draw 74 = .ok (.iload_n 2, 1) := by decide +kernel
theorem dX7_draw_75 : decode cX7_draw 75 = .ok (.iload 6, 2) := by decide +kernel
theorem dX7_draw_77 : decode cX7_draw 77 = .ok (.iadd, 1) := by decide +kernel
theorem dX7_draw_78 : decode cX7_draw 78 = .ok (.istore 7, 2) := by decide +kernel
theorem dX7_draw_80 : decode cX7_draw 80 = .ok (.aload_n 0, 1) := by decide +kernel
theorem dX7_draw_81 : decode cX7_draw 81 = .ok (.getfield 7, 3) := by decide +kernel
theorem dX7_draw_84 : decode cX7_draw 84 = .ok (.lload 4, 2) := by decide +kernel
theorem dX7_draw_86 : decode cX7_draw 86 = .ok (.ldc2_w 123, 3) := by decide +kernel
theorem dX7_draw_89 : decode cX7_draw 89 = .ok (.ldiv, 1) := by decide +kernel
theorem dX7_draw_90 : decode cX7_draw 90 = .ok (.ldc2_w 125, 3) := by decide +kernel
theorem dX7_draw_93 : decode cX7_draw 93 = .ok (.lrem, 1) := by decide +kernel
theorem dX7_draw_94 : decode cX7_draw 94 = .ok (.l2i, 1) := by decide +kernel
theorem dX7_draw_95 : decode cX7_draw 95 = .ok (.lload 4, 2) := by decide +kernel
theorem dX7_draw_97 : decode cX7_draw 97 = .ok (.ldc2_w 127, 3) := by decide +kernel
theorem dX7_draw_100 : decode cX7_draw 100 = .ok (.ldiv, 1) := by decide +kernel
theorem dX7_draw_101 : decode cX7_draw 101 = .ok (.iload 7, 2) := by decide +kernel
theorem dX7_draw_103 : decode cX7_draw 103 = .ok (.i2l, 1) := by decide +kernel
theorem dX7_draw_104 : decode cX7_draw 104 = .ok (.lrem, 1) := by decide +kernel
theorem dX7_draw_105 : decode cX7_draw 105 = .ok (.l2i, 1) := by decide +kernel
theorem dX7_draw_106 : decode cX7_draw 106 = .ok (.lload 4, 2) := by decide +kernel
theorem dX7_draw_108 : decode cX7_draw 108 = .ok (.ldc2_w 129, 3) := by decide +kernel
theorem dX7_draw_111 : decode cX7_draw 111 = .ok (.ldiv, 1) := by decide +kernel
theorem dX7_draw_112 : decode cX7_draw 112 = .ok (.iload 7, 2) := by decide +kernel
theorem dX7_draw_114 : decode cX7_draw 114 = .ok (.i2l, 1) := by decide +kernel
theorem dX7_draw_115 : decode cX7_draw 115 = .ok (.lrem, 1) := by decide +kernel
theorem dX7_draw_116 : decode cX7_draw 116 = .ok (.l2i, 1) := by decide +kernel
theorem dX7_draw_117 : decode cX7_draw 117 = .ok (.invokestatic 108, 3) := by decide +kernel
theorem dX7_draw_120 : decode cX7_draw 120 = .ok (.pop, 1) := by decide +kernel
theorem dX7_draw_121 : decode cX7_draw 121 = .ok (.iinc 6 1, 3) := by decide +kernel
theorem dX7_draw_124 : decode cX7_draw 124 = .ok (.goto (-72), 3) := by decide +kernel
theorem dX7_draw_127 : decode cX7_draw 127 = .ok (.aload_n 0, 1) := by decide +kernel
theorem dX7_draw_128 : decode cX7_draw 128 = .ok (.iload_n 2, 1) := by decide +kernel
theorem dX7_draw_129 : decode cX7_draw 129 = .ok (.iload_n 3, 1) := by decide +kernel
theorem dX7_draw_130 : decode cX7_draw 130 = .ok (.iadd, 1) := by decide +kernel
theorem dX7_draw_131 : decode cX7_draw 131 = .ok (.iconst 1, 1) := by decide +kernel
theorem dX7_draw_132 : decode cX7_draw 132 = .ok (.isub, 1) := by decide +kernel
theorem dX7_draw_133 : decode cX7_draw 133 = .ok (.invokevirtual 112, 3) := by decide +kernel
theorem dX7_draw_136 : decode cX7_draw 136 = .ok (.iload_n 3, 1) := by decide +kernel
theorem dX7_draw_137 : decode cX7_draw 137 = .ok (.iconst 1, 1) := by decide +kernel
theorem dX7_draw_138 : decode cX7_draw 138 = .ok (.if_icmp .le 12, 3) := by decide +kernel
theorem dX7_draw_141 : decode cX7_draw 141 = .ok (.aload_n 0, 1) := by decide +kernel
theorem dX7_draw_142 : decode cX7_draw 142 = .ok (.iload_n 2, 1) := by decide +kernel
theorem dX7_draw_143 : decode cX7_draw 143 = .ok (.iload_n 3, 1) := by decide +kernel
theorem dX7_draw_144 : decode cX7_draw 144 = .ok (.iadd, 1) := by decide +kernel
theorem dX7_draw_145 : decode cX7_draw 145 = .ok (.iconst 2, 1) := by decide +kernel
theorem dX7_draw_146 : decode cX7_draw 146 = .ok (.isub, 1) := by decide +kernel
theorem dX7_draw_147 : decode cX7_draw 147 = .ok (.invokevirtual 112, 3) := by decide +kernel
theorem dX7_draw_150 : decode cX7_draw 150 = .ok (.iload_n 3, 1) := by decide +kernel
theorem dX7_draw_151 : decode cX7_draw 151 = .ok (.ireturn, 1) := by decide +kernel
theorem dX7_goes_0 : decode cX7_goes 0 = .ok (.iload_n 1, 1) := by decide +kernel
theorem dX7_goes_1 : decode cX7_goes 1 = .ok (.iload_n 2, 1) := by decide +kernel
theorem dX7_goes_2 : decode cX7_goes 2 = .ok (.iand, 1) := by decide +kernel
theorem dX7_goes_3 : decode cX7_goes 3 = .ok (.istore_n 3, 1) := by decide +kernel
theorem dX7_goes_4 : decode cX7_goes 4 = .ok (.iload_n 1, 1) := by decide +kernel
theorem dX7_goes_5 : decode cX7_goes 5 = .ok (.iload_n 2, 1) := by decide +kernel
theorem dX7_goes_6 : decode cX7_goes 6 = .ok (.ior, 1) := by decide +kernel
theorem dX7_goes_7 : decode cX7_goes 7 = .ok (.istore 4, 2) := by decide +kernel
theorem dX7_goes_9 : decode cX7_goes 9 = .ok (.iload_n 0, 1) := by decide +kernel
theorem dX7_goes_10 : decode cX7_goes 10 = .ok (.tableswitch 70 0 6 #[42, 46, 48, 51, 55, 59, 64], 42) := by decide +kernel
theorem dX7_goes_52 : decode cX7_goes 52 = .ok (.iconst 1, 1) := by decide +kernel
theorem dX7_goes_53 : decode cX7_goes 53 = .ok (.iload_n 1, 1) := by decide +kernel
theorem dX7_goes_54 : decode cX7_goes 54 = .ok (.isub, 1) := by decide +kernel
theorem dX7_goes_55 : decode cX7_goes 55 = .ok (.ireturn, 1) := by decide +kernel
theorem dX7_goes_56 : decode cX7_goes 56 = .ok (.iload_n 3, 1) := by decide +kernel
theorem dX7_goes_57 : decode cX7_goes 57 = .ok (.ireturn, 1) := by decide +kernel
theorem dX7_goes_58 : decode cX7_goes 58 = .ok (.iload 4, 2) := by decide +kernel
theorem dX7_goes_60 : decode cX7_goes 60 = .ok (.ireturn, 1) := by decide +kernel
theorem dX7_goes_61 : decode cX7_goes 61 = .ok (.iload_n 1, 1) := by decide +kernel
theorem dX7_goes_62 : decode cX7_goes 62 = .ok (.iload_n 2, 1) := by decide +kernel
theorem dX7_goes_63 : decode cX7_goes 63 = .ok (.ixor, 1) := by decide +kernel
theorem dX7_goes_64 : decode cX7_goes 64 = .ok (.ireturn, 1) := by decide +kernel
theorem dX7_goes_65 : decode cX7_goes 65 = .ok (.iconst 1, 1) := by decide +kernel
theorem dX7_goes_66 : decode cX7_goes 66 = .ok (.iload_n 3, 1) := by decide +kernel
theorem dX7_goes_67 : decode cX7_goes 67 = .ok (.isub, 1) := by decide +kernel
theorem dX7_goes_68 : decode cX7_goes 68 = .ok (.ireturn, 1) := by decide +kernel
theorem dX7_goes_69 : decode cX7_goes 69 = .ok (.iconst 1, 1) := by decide +kernel
theorem dX7_goes_70 : decode cX7_goes 70 = .ok (.iload 4, 2) := by decide +kernel
theorem dX7_goes_72 : decode cX7_goes 72 = .ok (.isub, 1) := by decide +kernel
theorem dX7_goes_73 : decode cX7_goes 73 = .ok (.ireturn, 1) := by decide +kernel
theorem dX7_goes_74 : decode cX7_goes 74 = .ok (.iconst 1, 1) := by decide +kernel
theorem dX7_goes_75 : decode cX7_goes 75 = .ok (.iload_n 1, 1) := by decide +kernel
theorem dX7_goes_76 : decode cX7_goes 76 = .ok (.iload_n 2, 1) := by decide +kernel
theorem dX7_goes_77 : decode cX7_goes 77 = .ok (.ixor, 1) := by decide +kernel
theorem dX7_goes_78 : decode cX7_goes 78 = .ok (.isub, 1) := by decide +kernel
theorem dX7_goes_79 : decode cX7_goes 79 = .ok (.ireturn, 1) := by decide +kernel
theorem dX7_goes_80 : decode cX7_goes 80 = .ok (.iload_n 1, 1) := by decide +kernel
theorem dX7_goes_81 : decode cX7_goes 81 = .ok (.iconst 1, 1) := by decide +kernel
theorem dX7_goes_82 : decode cX7_goes 82 = .ok (.iload_n 2, 1) := by decide +kernel
theorem dX7_goes_83 : decode cX7_goes 83 = .ok (.isub, 1) := by decide +kernel
theorem dX7_goes_84 : decode cX7_goes 84 = .ok (.iand, 1) := by decide +kernel
theorem dX7_goes_85 : decode cX7_goes 85 = .ok (.ireturn, 1) := by decide +kernel
set_option maxRecDepth 20000 in
theorem ggX7_signals_X7_goes : GoodIn wsX7_signals wsX7_goes := goodIn_r _ [5] (by decide +kernel) (by decide +kernel)
set_option maxRecDepth 20000 in
theorem gX7_signals_X7_goes : GoodIn wsX7_signals (va_wsS RX7 131 yX7_goes wsX7_goes) := goodIn_app (goodIn_of _ (by decide +kernel)) ggX7_signals_X7_goes
theorem dX7_signals_0 : decode cX7_signals 0 = .ok (.iload_n 1, 1) := by decide +kernel
theorem dX7_signals_1 : decode cX7_signals 1 = .ok (.istore_n 2, 1) := by decide +kernel
theorem dX7_signals_2 : decode cX7_signals 2 = .ok (.iconst 0, 1) := by decide +kernel
theorem dX7_signals_3 : decode cX7_signals 3 = .ok (.istore_n 3, 1) := by decide +kernel
theorem dX7_signals_4 : decode cX7_signals 4 = .ok (.iload_n 3, 1) := by decide +kernel
theorem dX7_signals_5 : decode cX7_signals 5 = .ok (.aload_n 0, 1) := by decide +kernel
theorem dX7_signals_6 : decode cX7_signals 6 = .ok (.getfield 7, 3) := by decide +kernel
theorem dX7_signals_9 : decode cX7_signals 9 = .ok (.iconst 1, 1) := by decide +kernel
theorem dX7_signals_10 : decode cX7_signals 10 = .ok (.iaload, 1) := by decide +kernel
theorem dX7_signals_11 : decode cX7_signals 11 = .ok (.if_icmp .ge 83, 3) := by decide +kernel
theorem dX7_signals_14 : decode cX7_signals 14 = .ok (.iload_n 2, 1) := by decide +kernel
theorem dX7_signals_15 : decode cX7_signals 15 = .ok (.aload_n 0, 1) := by decide +kernel
theorem dX7_signals_16 : decode cX7_signals 16 = .ok (.getfield 7, 3) := by decide +kernel
theorem dX7_signals_19 : decode cX7_signals 19 = .ok (.bipush 18, 2) := by decide +kernel
theorem dX7_signals_21 : decode cX7_signals 21 = .ok (.iload_n 3, 1) := by decide +kernel
theorem dX7_signals_22 : decode cX7_signals 22 = .ok (.iadd, 1) := by decide +kernel
theorem dX7_signals_23 : decode cX7_signals 23 = .ok (.iaload, 1) := by decide +kernel
theorem dX7_signals_24 : decode cX7_signals 24 = .ok (.ishr, 1) := by decide +kernel
theorem dX7_signals_25 : decode cX7_signals 25 = .ok (.iconst 1, 1) := by decide +kernel
theorem dX7_signals_26 : decode cX7_signals 26 = .ok (.iand, 1) := by decide +kernel
theorem dX7_signals_27 : decode cX7_signals 27 = .ok (.istore 4, 2) := by decide +kernel
theorem dX7_signals_29 : decode cX7_signals 29 = .ok (.aload_n 0, 1) := by decide +kernel
theorem dX7_signals_30 : decode cX7_signals 30 = .ok (.getfield 7, 3) := by decide +kernel
theorem dX7_signals_33 : decode cX7_signals 33 = .ok (.bipush 6, 2) := by decide +kernel
theorem dX7_signals_35 : decode cX7_signals 35 = .ok (.iload_n 3, 1) := by decide +kernel
theorem dX7_signals_36 : decode cX7_signals 36 = .ok (.iadd, 1) := by decide +kernel
theorem dX7_signals_37 : decode cX7_signals 37 = .ok (.iaload, 1) := by decide +kernel
theorem dX7_signals_38 : decode cX7_signals 38 = .ok (.ifCond .ne 7, 3) := by decide +kernel
theorem dX7_signals_41 : decode cX7_signals 41 = .ok (.iconst 0, 1) := by decide +kernel
theorem dX7_signals_42 : decode cX7_signals 42 = .ok (.goto 16, 3) := by decide +kernel
theorem dX7_signals_45 : decode cX7_signals 45 = .ok (.iload_n 2, 1) := by decide +kernel
theorem dX7_signals_46 : decode cX7_signals 46 = .ok (.aload_n 0, 1) := by decide +kernel
theorem dX7_signals_47 : decode cX7_signals 47 = .ok (.getfield 7, 3) := by decide +kernel
theorem dX7_signals_50 : decode cX7_signals 50 = .ok (.bipush 30, 2) := by decide +kernel
theorem dX7_signals_52 : decode cX7_signals 52 = .ok (.iload_n 3, 1) := by decide +kernel
theorem dX7_signals_53 : decode cX7_signals 53 = .ok (.iadd, 1) := by decide +kernel
theorem dX7_signals_54 : decode cX7_signals 54 = .ok (.iaload, 1) := by decide +kernel
theorem dX7_signals_55 : decode cX7_signals 55 = .ok (.ishr, 1) := by decide +kernel
theorem dX7_signals_56 : decode cX7_signals 56 = .ok (.iconst 1, 1) := by decide +kernel
theorem dX7_signals_57 : decode cX7_signals 57 = .ok (.iand, 1) := by decide +kernel
theorem dX7_signals_58 : decode cX7_signals 58 = .ok (.istore 5, 2) := by decide +kernel
theorem dX7_signals_60 : decode cX7_signals 60 = .ok (.iload_n 2, 1) := by decide +kernel
theorem dX7_signals_61 : decode cX7_signals 61 = .ok (.aload_n 0, 1) := by decide +kernel
theorem dX7_signals_62 : decode cX7_signals 62 = .ok (.getfield 7, 3) := by decide +kernel
theorem dX7_signals_65 : decode cX7_signals 65 = .ok (.bipush 6, 2) := by decide +kernel
theorem dX7_signals_67 : decode cX7_signals 67 = .ok (.iload_n 3, 1) := by decide +kernel
theorem dX7_signals_68 : decode cX7_signals 68 = .ok (.iadd, 1) := by decide +kernel
theorem dX7_signals_69 : decode cX7_signals 69 = .ok (.iaload, 1) := by decide +kernel
theorem dX7_signals_70 : decode cX7_signals 70 = .ok (.iload 4, 2) := by decide +kernel
theorem dX7_signals_72 : decode cX7_signals 72 = .ok (.iload 5, 2) := by decide +kernel
theorem dX7_signals_74 : decode cX7_signals 74 = .ok (.invokestatic 131, 3) := by decide +kernel
theorem dX7_signals_77 : decode cX7_signals 77 = .ok (.aload_n 0, 1) := by decide +kernel
theorem dX7_signals_78 : decode cX7_signals 78 = .ok (.getfield 7, 3) := by decide +kernel
theorem dX7_signals_81 : decode cX7_signals 81 = .ok (.iconst 0, 1) := by decide +kernel
theorem dX7_signals_82 : decode cX7_signals 82 = .ok (.iaload, 1) := by decide +kernel
theorem dX7_signals_83 : decode cX7_signals 83 = .ok (.iload_n 3, 1) := by decide +kernel
theorem dX7_signals_84 : decode cX7_signals 84 = .ok (.iadd, 1) := by decide +kernel
theorem dX7_signals_85 : decode cX7_signals 85 = .ok (.ishl, 1) := by decide +kernel
theorem dX7_signals_86 : decode cX7_signals 86 = .ok (.ior, 1) := by decide +kernel
theorem dX7_signals_87 : decode cX7_signals 87 = .ok (.istore_n 2, 1) := by decide +kernel
theorem dX7_signals_88 : decode cX7_signals 88 = .ok (.iinc 3 1, 3) := by decide +kernel
theorem dX7_signals_91 : decode cX7_signals 91 = .ok (.goto (-87), 3) := by decide +kernel
theorem dX7_signals_94 : decode cX7_signals 94 = .ok (.iload_n 2, 1) := by decide +kernel
theorem dX7_signals_95 : decode cX7_signals 95 = .ok (.ireturn, 1) := by decide +kernel
set_option maxRecDepth 20000 in
theorem ggX7_stand_X7_signals : GoodIn wsX7_stand wsX7_signals := goodIn_r _ [6, 1, 7, 8, 5, 9, 10, 11, 12, 13, 14, 15, 16, 17, 18, 19, 20, 21, 22, 23, 24, 25] (by decide +kernel) (by decide +kernel)
set_option maxRecDepth 20000 in
theorem gX7_stand_X7_signals : GoodIn wsX7_stand (wsV RX7 135 RX7 yX7_signals wsX7_signals) := goodIn_app (goodIn_of _ (by decide +kernel)) ggX7_stand_X7_signals
theorem dX7_stand_0 : decode cX7_stand 0 = .ok (.aload_n 0, 1) := by decide +kernel
theorem dX7_stand_1 : decode cX7_stand 1 = .ok (.iload_n 1, 1) := by decide +kernel
theorem dX7_stand_2 : decode cX7_stand 2 = .ok (.invokevirtual 135, 3) := by decide +kernel
theorem dX7_stand_5 : decode cX7_stand 5 = .ok (.istore_n 2, 1) := by decide +kernel
theorem dX7_stand_6 : decode cX7_stand 6 = .ok (.iconst 0, 1) := by decide +kernel
theorem dX7_stand_7 : decode cX7_stand 7 = .ok (.istore_n 3, 1) := by decide +kernel
theorem dX7_stand_8 : decode cX7_stand 8 = .ok (.iconst 0, 1) := by decide +kernel
theorem dX7_stand_9 : decode cX7_stand 9 = .ok (.istore 4, 2) := by decide +kernel
theorem dX7_stand_11 : decode cX7_stand 11 = .ok (.iload 4, 2) := by decide +kernel
theorem dX7_stand_13 : decode cX7_stand 13 = .ok (.aload_n 0, 1) := by decide +kernel
theorem dX7_stand_14 : decode cX7_stand 14 = .ok (.getfield 7, 3) := by decide +kernel
theorem dX7_stand_17 : decode cX7_stand 17 = .ok (.iconst 2, 1) := by decide +kernel
theorem dX7_stand_18 : decode cX7_stand 18 = .ok (.iaload, 1) := by decide +kernel
theorem dX7_stand_19 : decode cX7_stand 19 = .ok (.if_icmp .ge 29, 3) := by decide +kernel
theorem dX7_stand_22 : decode cX7_stand 22 = .ok (.iload_n 3, 1) := by decide +kernel
theorem dX7_stand_23 : decode cX7_stand 23 = .ok (.iload_n 2, 1) := by decide +kernel
theorem dX7_stand_24 : decode cX7_stand 24 = .ok (.aload_n 0, 1) := by decide +kernel
theorem dX7_stand_25 : decode cX7_stand 25 = .ok (.getfield 7, 3) := by decide +kernel
theorem dX7_stand_28 : decode cX7_stand 28 = .ok (.bipush 42, 2) := by decide +kernel
theorem dX7_stand_30 : decode cX7_stand 30 = .ok (.iload 4, 2) := by decide +kernel
theorem dX7_stand_32 : decode cX7_stand 32 = .ok (.iadd, 1) := by decide +kernel
theorem dX7_stand_33 : decode cX7_stand 33 = .ok (.iaload, 1) := by decide +kernel
theorem dX7_stand_34 : decode cX7_stand 34 = .ok (.ishr, 1) := by decide +kernel
theorem dX7_stand_35 : decode cX7_stand 35 = .ok (.iconst 1, 1) := by decide +kernel
theorem dX7_stand_36 : decode cX7_stand 36 = .ok (.iand, 1) := by decide +kernel
theorem dX7_stand_37 : decode cX7_stand 37 = .ok (.iload 4, 2) := by decide +kernel
theorem dX7_stand_39 : decode cX7_stand 39 = .ok (.ishl, 1) := by decide +kernel
theorem dX7_stand_40 : decode cX7_stand 40 = .ok (.iadd, 1) := by decide +kernel
theorem dX7_stand_41 : decode cX7_stand 41 = .ok (.istore_n 3, 1) := by decide +kernel
theorem dX7_stand_42 : decode cX7_stand 42 = .ok (.iinc 4 1, 3) := by decide +kernel
theorem dX7_stand_45 : decode cX7_stand 45 = .ok (.goto (-34), 3) := by decide +kernel
theorem dX7_stand_48 : decode cX7_stand 48 = .ok (.iload_n 3, 1) := by decide +kernel
theorem dX7_stand_49 : decode cX7_stand 49 = .ok (.ireturn, 1) := by decide +kernel
theorem dX7_task_0 : decode cX7_task 0 = .ok (.iload_n 1, 1) := by decide +kernel
theorem dX7_task_1 : decode cX7_task 1 = .ok (.iconst 1, 1) := by decide +kernel
theorem dX7_task_2 : decode cX7_task 2 = .ok (.aload_n 0, 1) := by decide +kernel
theorem dX7_task_3 : decode cX7_task 3 = .ok (.getfield 7, 3) := by decide +kernel
theorem dX7_task_6 : decode cX7_task 6 = .ok (.iconst 4, 1) := by decide +kernel
theorem dX7_task_7 : decode cX7_task 7 = .ok (.iaload, 1) := by decide +kernel
theorem dX7_task_8 : decode cX7_task 8 = .ok (.ishl, 1) := by decide +kernel
theorem dX7_task_9 : decode cX7_task 9 = .ok (.iconst 1, 1) := by decide +kernel
theorem dX7_task_10 : decode cX7_task 10 = .ok (.isub, 1) := by decide +kernel
theorem dX7_task_11 : decode cX7_task 11 = .ok (.iand, 1) := by decide +kernel
theorem dX7_task_12 : decode cX7_task 12 = .ok (.istore_n 2, 1) := by decide +kernel
theorem dX7_task_13 : decode cX7_task 13 = .ok (.iload_n 1, 1) := by decide +kernel
theorem dX7_task_14 : decode cX7_task 14 = .ok (.aload_n 0, 1) := by decide +kernel
theorem dX7_task_15 : decode cX7_task 15 = .ok (.getfield 7, 3) := by decide +kernel
theorem dX7_task_18 : decode cX7_task 18 = .ok (.iconst 4, 1) := by decide +kernel
theorem dX7_task_19 : decode cX7_task 19 = .ok (.iaload, 1) := by decide +kernel
theorem dX7_task_20 : decode cX7_task 20 = .ok (.ishr, 1) := by decide +kernel
theorem dX7_task_21 : decode cX7_task 21 = .ok (.iconst 1, 1) := by decide +kernel
theorem dX7_task_22 : decode cX7_task 22 = .ok (.aload_n 0, 1) := by decide +kernel
theorem dX7_task_23 : decode cX7_task 23 = .ok (.getfield 7, 3) := by decide +kernel
theorem dX7_task_26 : decode cX7_task 26 = .ok (.iconst 5, 1) := by decide +kernel
theorem dX7_task_27 : decode cX7_task 27 = .ok (.iaload, 1) := by decide +kernel
theorem dX7_task_28 : decode cX7_task 28 = .ok (.ishl, 1) := by decide +kernel
theorem dX7_task_29 : decode cX7_task 29 = .ok (.iconst 1, 1) := by decide +kernel
theorem dX7_task_30 : decode cX7_task 30 = .ok (.isub, 1) := by decide +kernel
theorem dX7_task_31 : decode cX7_task 31 = .ok (.iand, 1) := by decide +kernel
theorem dX7_task_32 : decode cX7_task 32 = .ok (.istore_n 3, 1) := by decide +kernel
theorem dX7_task_33 : decode cX7_task 33 = .ok (.aload_n 0, 1) := by decide +kernel
theorem dX7_task_34 : decode cX7_task 34 = .ok (.getfield 7, 3) := by decide +kernel
theorem dX7_task_37 : decode cX7_task 37 = .ok (.iconst 3, 1) := by decide +kernel
theorem dX7_task_38 : decode cX7_task 38 = .ok (.iaload, 1) := by decide +kernel
theorem dX7_task_39 : decode cX7_task 39 = .ok (.istore 4, 2) := by decide +kernel
theorem dX7_task_41 : decode cX7_task 41 = .ok (.iload 4, 2) := by decide +kernel
theorem dX7_task_43 : decode cX7_task 43 = .ok (.ifCond .ne 9, 3) := by decide +kernel
theorem dX7_task_46 : decode cX7_task 46 = .ok (.iload_n 2, 1) := by decide +kernel
theorem dX7_task_47 : decode cX7_task 47 = .ok (.iload_n 3, 1) := by decide +kernel
theorem dX7_task_48 : decode cX7_task 48 = .ok (.iadd, 1) := by decide +kernel
theorem dX7_task_49 : decode cX7_task 49 = .ok (.goto 34, 3) := by decide +kernel
theorem dX7_task_52 : decode cX7_task 52 = .ok (.iload 4, 2) := by decide +kernel
theorem dX7_task_54 : decode cX7_task 54 = .ok (.iconst 1, 1) := by decide +kernel
theorem dX7_task_55 : decode cX7_task 55 = .ok (.if_icmp .ne 9, 3) := by decide +kernel
theorem dX7_task_58 : decode cX7_task 58 = .ok (.iload_n 2, 1) := by decide +kernel
theorem dX7_task_59 : decode cX7_task 59 = .ok (.iload_n 3, 1) := by decide +kernel
theorem dX7_task_60 : decode cX7_task 60 = .ok (.imul, 1) := by decide +kernel
theorem dX7_task_61 : decode cX7_task 61 = .ok (.goto 22, 3) := by decide +kernel
theorem dX7_task_64 : decode cX7_task 64 = .ok (.iload 4, 2) := by decide +kernel
theorem dX7_task_66 : decode cX7_task 66 = .ok (.iconst 2, 1) := by decide +kernel
theorem dX7_task_67 : decode cX7_task 67 = .ok (.if_icmp .ne 11, 3) := by decide +kernel
theorem dX7_task_70 : decode cX7_task 70 = .ok (.iload_n 2, 1) := by decide +kernel
theorem dX7_task_71 : decode cX7_task 71 = .ok (.iload_n 2, 1) := by decide +kernel
theorem dX7_task_72 : decode cX7_task 72 = .ok (.imul, 1) := by decide +kernel
theorem dX7_task_73 : decode cX7_task 73 = .ok (.iload_n 3, 1) := by decide +kernel
theorem dX7_task_74 : decode cX7_task 74 = .ok (.iadd, 1) := by decide +kernel
theorem dX7_task_75 : decode cX7_task 75 = .ok (.goto 8, 3) := by decide +kernel
theorem dX7_task_78 : decode cX7_task 78 = .ok (.iconst 3, 1) := by decide +kernel
theorem dX7_task_79 : decode cX7_task 79 = .ok (.iload_n 2, 1) := by decide +kernel
theorem dX7_task_80 : decode cX7_task 80 = .ok (.imul, 1) := by decide +kernel
theorem dX7_task_81 : decode cX7_task 81 = .ok (.iload_n 3, 1) := by decide +kernel
theorem dX7_task_82 : decode cX7_task 82 = .ok (.isub, 1) := by decide +kernel
theorem dX7_task_83 : decode cX7_task 83 = .ok (.ireturn, 1) := by decide +kernel
set_option maxRecDepth 20000 in
theorem ggX7_wrongOnes_X7_stand : GoodIn wsX7_wrongOnes wsX7_stand := goodIn_r _ [6, 1, 7, 8, 9, 5, 10, 11, 12, 13, 18, 19, 20, 21, 22, 23, 24, 25, 26, 27, 28, 29, 30, 31, 32, 33] (by decide +kernel) (by decide +kernel)
set_option maxRecDepth 20000 in
theorem gX7_wrongOnes_X7_stand : GoodIn wsX7_wrongOnes (wsV RX7 138 RX7 yX7_stand wsX7_stand) := goodIn_app (goodIn_of _ (by decide +kernel)) ggX7_wrongOnes_X7_stand
set_option maxRecDepth 20000 in
theorem ggX7_wrongOnes_X7_task : GoodIn wsX7_wrongOnes wsX7_task := goodIn_r _ [17, 1, 18, 19, 20, 21, 22, 23, 24, 25, 26, 27, 28, 29, 30, 31, 32, 33] (by decide +kernel) (by decide +kernel)
set_option maxRecDepth 20000 in
theorem gX7_wrongOnes_X7_task : GoodIn wsX7_wrongOnes (wsV RX7 141 RX7 yX7_task wsX7_task) := goodIn_app (goodIn_of _ (by decide +kernel)) ggX7_wrongOnes_X7_task
theorem dX7_wrongOnes_0 : decode cX7_wrongOnes 0 = .ok (.iconst 0, 1) := by decide +kernel
theorem dX7_wrongOnes_1 : decode cX7_wrongOnes 1 = .ok (.istore_n 2, 1) := by decide +kernel
theorem dX7_wrongOnes_2 : decode cX7_wrongOnes 2 = .ok (.iconst 0, 1) := by decide +kernel
theorem dX7_wrongOnes_3 : decode cX7_wrongOnes 3 = .ok (.istore_n 3, 1) := by decide +kernel
theorem dX7_wrongOnes_4 : decode cX7_wrongOnes 4 = .ok (.iload_n 3, 1) := by decide +kernel
theorem dX7_wrongOnes_5 : decode cX7_wrongOnes 5 = .ok (.iconst 1, 1) := by decide +kernel
theorem dX7_wrongOnes_6 : decode cX7_wrongOnes 6 = .ok (.aload_n 0, 1) := by decide +kernel
theorem dX7_wrongOnes_7 : decode cX7_wrongOnes 7 = .ok (.getfield 7, 3) := by decide +kernel
theorem dX7_wrongOnes_10 : decode cX7_wrongOnes 10 = .ok (.iconst 0, 1) := by decide +kernel
theorem dX7_wrongOnes_11 : decode cX7_wrongOnes 11 = .ok (.iaload, 1) := by decide +kernel
theorem dX7_wrongOnes_12 : decode cX7_wrongOnes 12 = .ok (.ishl, 1) := by decide +kernel
theorem dX7_wrongOnes_13 : decode cX7_wrongOnes 13 = .ok (.if_icmp .ge 31, 3) := by decide +kernel
theorem dX7_wrongOnes_16 : decode cX7_wrongOnes 16 = .ok (.aload_n 0, 1) := by decide +kernel
theorem dX7_wrongOnes_17 : decode cX7_wrongOnes 17 = .ok (.iload_n 3, 1) := by decide +kernel
theorem dX7_wrongOnes_18 : decode cX7_wrongOnes 18 = .ok (.invokevirtual 138, 3) := by decide +kernel
theorem dX7_wrongOnes_21 : decode cX7_wrongOnes 21 = .ok (.aload_n 0, 1) := by decide +kernel
theorem dX7_wrongOnes_22 : decode cX7_wrongOnes 22 = .ok (.iload_n 3, 1) := by decide +kernel
theorem dX7_wrongOnes_23 : decode cX7_wrongOnes 23 = .ok (.invokevirtual 141, 3) := by decide +kernel
theorem dX7_wrongOnes_26 : decode cX7_wrongOnes 26 = .ok (.if_icmp .eq 12, 3) := by decide +kernel
theorem dX7_wrongOnes_29 : decode cX7_wrongOnes 29 = .ok (.iload_n 1, 1) := by decide +kernel
theorem dX7_wrongOnes_30 : decode cX7_wrongOnes 30 = .ok (.ifCond .eq 5, 3) := by decide +kernel
theorem dX7_wrongOnes_33 : decode cX7_wrongOnes 33 = .ok (.iload_n 3, 1) := by decide +kernel
theorem dX7_wrongOnes_34 : decode cX7_wrongOnes 34 = .ok (.ireturn, 1) := by decide +kernel
theorem dX7_wrongOnes_35 : decode cX7_wrongOnes 35 = .ok (.iinc 2 1, 3) := by decide +kernel
theorem dX7_wrongOnes_38 : decode cX7_wrongOnes 38 = .ok (.iinc 3 1, 3) := by decide +kernel
theorem dX7_wrongOnes_41 : decode cX7_wrongOnes 41 = .ok (.goto (-37), 3) := by decide +kernel
theorem dX7_wrongOnes_44 : decode cX7_wrongOnes 44 = .ok (.iload_n 1, 1) := by decide +kernel
theorem dX7_wrongOnes_45 : decode cX7_wrongOnes 45 = .ok (.ifCond .eq 7, 3) := by decide +kernel
theorem dX7_wrongOnes_48 : decode cX7_wrongOnes 48 = .ok (.iconst (-1), 1) := by decide +kernel
theorem dX7_wrongOnes_49 : decode cX7_wrongOnes 49 = .ok (.goto 4, 3) := by decide +kernel
theorem dX7_wrongOnes_52 : decode cX7_wrongOnes 52 = .ok (.iload_n 2, 1) := by decide +kernel
theorem dX7_wrongOnes_53 : decode cX7_wrongOnes 53 = .ok (.ireturn, 1) := by decide +kernel
set_option maxRecDepth 20000 in
theorem ggX7_runs_X7_isInput : GoodIn wsX7_runs wsX7_isInput := goodIn_r _ [5, 6, 7, 8, 9, 4, 10, 11, 12, 13, 38, 39, 40, 41, 42, 43, 44, 45, 46, 47, 48, 49, 50, 51, 52, 53] (by decide +kernel) (by decide +kernel)
set_option maxRecDepth 20000 in
theorem gX7_runs_X7_isInput : GoodIn wsX7_runs (wsV RX7 144 RX7 yX7_isInput wsX7_isInput) := goodIn_app (goodIn_of _ (by decide +kernel)) ggX7_runs_X7_isInput
set_option maxRecDepth 20000 in
theorem ggX7_runs_X7_in : GoodIn wsX7_runs wsX7_in := goodIn_r _ [13] (by decide +kernel) (by decide +kernel)
set_option maxRecDepth 20000 in
theorem gX7_runs_X7_in : GoodIn wsX7_runs (va_wsS RX7 39 yX7_in wsX7_in) := goodIn_app (goodIn_of _ (by decide +kernel)) ggX7_runs_X7_in
set_option maxRecDepth 20000 in
theorem ggX7_runs_X7_isThere : GoodIn wsX7_runs wsX7_isThere := goodIn_r _ [10, 6, 38, 39, 40, 41, 42, 43, 44, 45, 46, 47, 48, 49, 50, 51, 52, 53] (by decide +kernel) (by decide +kernel)
set_option maxRecDepth 20000 in
theorem gX7_runs_X7_isThere : GoodIn wsX7_runs (wsV RX7 94 RX7 yX7_isThere wsX7_isThere) := goodIn_app (goodIn_of _ (by decide +kernel)) ggX7_runs_X7_isThere
set_option maxRecDepth 20000 in
theorem ggX7_runs_X7_none : GoodIn wsX7_runs wsX7_none := goodIn_r _ [17, 18, 19, 20, 4, 21, 22, 38, 39, 40, 41, 42, 43, 44, 45, 46, 47, 48, 49, 50, 51, 52, 53] (by decide +kernel) (by decide +kernel)
set_option maxRecDepth 20000 in
theorem gX7_runs_X7_none : GoodIn wsX7_runs (wsV RX7 100 RX7 yX7_none wsX7_none) := goodIn_app (goodIn_of _ (by decide +kernel)) ggX7_runs_X7_none
set_option maxRecDepth 20000 in
theorem ggX7_runs_X7_stand : GoodIn wsX7_runs wsX7_stand := goodIn_r _ [26, 6, 27, 28, 29, 4, 30, 31, 32, 33, 38, 39, 40, 41, 42, 43, 44, 45, 46, 47, 48, 49, 50, 51, 52, 53] (by decide +kernel) (by decide +kernel)
set_option maxRecDepth 20000 in
theorem gX7_runs_X7_stand : GoodIn wsX7_runs (wsV RX7 138 RX7 yX7_stand wsX7_stand) := goodIn_app (goodIn_of _ (by decide +kernel)) ggX7_runs_X7_stand
set_option maxRecDepth 20000 in
theorem ggX7_runs_X7_task : GoodIn wsX7_runs wsX7_task := goodIn_r _ [37, 6, 38, 39, 40, 41, 42, 43, 44, 45, 46, 47, 48, 49, 50, 51, 52, 53] (by decide +kernel) (by decide +kernel)
set_option maxRecDepth 20000 in
theorem gX7_runs_X7_task : GoodIn wsX7_runs (wsV RX7 141 RX7 yX7_task wsX7_task) := goodIn_app (goodIn_of _ (by decide +kernel)) ggX7_runs_X7_task
theorem dX7_runs_0 : decode cX7_runs 0 = .ok (.aload_n 0, 1) := by decide +kernel
theorem dX7_runs_1 : decode cX7_runs 1 = .ok (.iload_n 1, 1) := by decide +kernel
theorem dX7_runs_2 : decode cX7_runs 2 = .ok (.invokevirtual 144, 3) := by decide +kernel
theorem dX7_runs_5 : decode cX7_runs 5 = .ok (.ifCond .eq 16, 3) := by decide +kernel
theorem dX7_runs_8 : decode cX7_runs 8 = .ok (.iload_n 2, 1) := by decide +kernel
theorem dX7_runs_9 : decode cX7_runs 9 = .ok (.iconst 0, 1) := by decide +kernel
theorem dX7_runs_10 : decode cX7_runs 10 = .ok (.iconst 1, 1) := by decide +kernel
theorem dX7_runs_11 : decode cX7_runs 11 = .ok (.invokestatic 39, 3) := by decide +kernel
theorem dX7_runs_14 : decode cX7_runs 14 = .ok (.ifCond .eq 7, 3) := by decide +kernel
theorem dX7_runs_17 : decode cX7_runs 17 = .ok (.iconst 1, 1) := by decide +kernel
theorem dX7_runs_18 : decode cX7_runs 18 = .ok (.goto 4, 3) := by decide +kernel
theorem dX7_runs_21 : decode cX7_runs 21 = .ok (.iconst 0, 1) := by decide +kernel
theorem dX7_runs_22 : decode cX7_runs 22 = .ok (.istore_n 3, 1) := by decide +kernel
theorem dX7_runs_23 : decode cX7_runs 23 = .ok (.iload_n 3, 1) := by decide +kernel
theorem dX7_runs_24 : decode cX7_runs 24 = .ok (.ifCond .eq 10, 3) := by decide +kernel
theorem dX7_runs_27 : decode cX7_runs 27 = .ok (.aload_n 0, 1) := by decide +kernel
theorem dX7_runs_28 : decode cX7_runs 28 = .ok (.invokevirtual 94, 3) := by decide +kernel
theorem dX7_runs_31 : decode cX7_runs 31 = .ok (.ifCond .ne 9, 3) := by decide +kernel
theorem dX7_runs_34 : decode cX7_runs 34 = .ok (.aload_n 0, 1) := by decide +kernel
theorem dX7_runs_35 : decode cX7_runs 35 = .ok (.iload_n 3, 1) := by decide +kernel
theorem dX7_runs_36 : decode cX7_runs 36 = .ok (.invokevirtual 100, 3) := by decide +kernel
theorem dX7_runs_39 : decode cX7_runs 39 = .ok (.ireturn, 1) := by decide +kernel
theorem dX7_runs_40 : decode cX7_runs 40 = .ok (.iload_n 2, 1) := by decide +kernel
theorem dX7_runs_41 : decode cX7_runs 41 = .ok (.ifCond .ne 11, 3) := by decide +kernel
theorem dX7_runs_44 : decode cX7_runs 44 = .ok (.aload_n 0, 1) := by decide +kernel
theorem dX7_runs_45 : decode cX7_runs 45 = .ok (.iload_n 1, 1) := by decide +kernel
theorem dX7_runs_46 : decode cX7_runs 46 = .ok (.invokevirtual 138, 3) := by decide +kernel
theorem dX7_runs_49 : decode cX7_runs 49 = .ok (.goto 8, 3) := by decide +kernel
theorem dX7_runs_52 : decode cX7_runs 52 = .ok (.aload_n 0, 1) := by decide +kernel
theorem dX7_runs_53 : decode cX7_runs 53 = .ok (.iload_n 1, 1) := by decide +kernel
theorem dX7_runs_54 : decode cX7_runs 54 = .ok (.invokevirtual 141, 3) := by decide +kernel
theorem dX7_runs_57 : decode cX7_runs 57 = .ok (.ireturn, 1) := by decide +kernel
set_option maxRecDepth 20000 in
theorem ggX7_signal_X7_isThere : GoodIn wsX7_signal wsX7_isThere := goodIn_r _ [6, 1, 30, 31, 32, 33, 34, 35, 36, 37, 38, 39, 40, 41, 42, 43, 44, 45] (by decide +kernel) (by decide +kernel)
set_option maxRecDepth 20000 in
theorem gX7_signal_X7_isThere : GoodIn wsX7_signal (wsV RX7 94 RX7 yX7_isThere wsX7_isThere) := goodIn_app (goodIn_of _ (by decide +kernel)) ggX7_signal_X7_isThere
set_option maxRecDepth 20000 in
theorem ggX7_signal_X7_in : GoodIn wsX7_signal wsX7_in := goodIn_r _ [9] (by decide +kernel) (by decide +kernel)
set_option maxRecDepth 20000 in
theorem gX7_signal_X7_in : GoodIn wsX7_signal (va_wsS RX7 39 yX7_in wsX7_in) := goodIn_app (goodIn_of _ (by decide +kernel)) ggX7_signal_X7_in
set_option maxRecDepth 20000 in
theorem ggX7_signal_X7_isInput : GoodIn wsX7_signal wsX7_isInput := goodIn_r _ [13, 1, 2, 3, 4, 5, 6, 7, 8, 9, 30, 31, 32, 33, 34, 35, 36, 37, 38, 39, 40, 41, 42, 43, 44, 45] (by decide +kernel) (by decide +kernel)
set_option maxRecDepth 20000 in
theorem gX7_signal_X7_isInput : GoodIn wsX7_signal (wsV RX7 144 RX7 yX7_isInput wsX7_isInput) := goodIn_app (goodIn_of _ (by decide +kernel)) ggX7_signal_X7_isInput
set_option maxRecDepth 20000 in
theorem ggX7_signal_X7_none : GoodIn wsX7_signal wsX7_none := goodIn_r _ [17, 18, 19, 20, 5, 21, 22, 30, 31, 32, 33, 34, 35, 36, 37, 38, 39, 40, 41, 42, 43, 44, 45] (by decide +kernel) (by decide +kernel)
set_option maxRecDepth 20000 in
theorem gX7_signal_X7_none : GoodIn wsX7_signal (wsV RX7 100 RX7 yX7_none wsX7_none) := goodIn_app (goodIn_of _ (by decide +kernel)) ggX7_signal_X7_none
set_option maxRecDepth 20000 in
theorem ggX7_signal_X7_signals : GoodIn wsX7_signal wsX7_signals := goodIn_r _ [26, 1, 27, 28, 5, 29, 30, 31, 32, 33, 34, 35, 36, 37, 38, 39, 40, 41, 42, 43, 44, 45] (by decide +kernel) (by decide +kernel)
set_option maxRecDepth 20000 in
theorem gX7_signal_X7_signals : GoodIn wsX7_signal (wsV RX7 135 RX7 yX7_signals wsX7_signals) := goodIn_app (goodIn_of _ (by decide +kernel)) ggX7_signal_X7_signals
theorem dX7_signal_0 : decode cX7_signal 0 = .ok (.iload_n 1, 1) := by decide +kernel
theorem dX7_signal_1 : decode cX7_signal 1 = .ok (.iconst 0, 1) := by decide +kernel
theorem dX7_signal_2 : decode cX7_signal 2 = .ok (.aload_n 0, 1) := by decide +kernel
theorem dX7_signal_3 : decode cX7_signal 3 = .ok (.invokevirtual 94, 3) := by decide +kernel
theorem dX7_signal_6 : decode cX7_signal 6 = .ok (.ifCond .eq 21, 3) := by decide +kernel
theorem dX7_signal_9 : decode cX7_signal 9 = .ok (.aload_n 0, 1) := by decide +kernel
theorem dX7_signal_10 : decode cX7_signal 10 = .ok (.getfield 7, 3) := by decide +kernel
theorem dX7_signal_13 : decode cX7_signal 13 = .ok (.iconst 0, 1) := by decide +kernel
theorem dX7_signal_14 : decode cX7_signal 14 = .ok (.iaload, 1) := by decide +kernel
theorem dX7_signal_15 : decode cX7_signal 15 = .ok (.aload_n 0, 1) := by decide +kernel
theorem dX7_signal_16 : decode cX7_signal 16 = .ok (.getfield 7, 3) := by decide +kernel
theorem dX7_signal_19 : decode cX7_signal 19 = .ok (.iconst 1, 1) := by decide +kernel
theorem dX7_signal_20 : decode cX7_signal 20 = .ok (.iaload, 1) := by decide +kernel
theorem dX7_signal_21 : decode cX7_signal 21 = .ok (.iadd, 1) := by decide +kernel
theorem dX7_signal_22 : decode cX7_signal 22 = .ok (.iconst 1, 1) := by decide +kernel
theorem dX7_signal_23 : decode cX7_signal 23 = .ok (.isub, 1) := by decide +kernel
theorem dX7_signal_24 : decode cX7_signal 24 = .ok (.goto 5, 3) := by decide +kernel
theorem dX7_signal_27 : decode cX7_signal 27 = .ok (.bipush 17, 2) := by decide +kernel
theorem dX7_signal_29 : decode cX7_signal 29 = .ok (.invokestatic 39, 3) := by decide +kernel
theorem dX7_signal_32 : decode cX7_signal 32 = .ok (.ifCond .eq 15, 3) := by decide +kernel
theorem dX7_signal_35 : decode cX7_signal 35 = .ok (.aload_n 0, 1) := by decide +kernel
theorem dX7_signal_36 : decode cX7_signal 36 = .ok (.iload_n 2, 1) := by decide +kernel
theorem dX7_signal_37 : decode cX7_signal 37 = .ok (.invokevirtual 144, 3) := by decide +kernel
theorem dX7_signal_40 : decode cX7_signal 40 = .ok (.ifCond .eq 7, 3) := by decide +kernel
theorem dX7_signal_43 : decode cX7_signal 43 = .ok (.iconst 1, 1) := by decide +kernel
theorem dX7_signal_44 : decode cX7_signal 44 = .ok (.goto 4, 3) := by decide +kernel
theorem dX7_signal_47 : decode cX7_signal 47 = .ok (.iconst 0, 1) := by decide +kernel
theorem dX7_signal_48 : decode cX7_signal 48 = .ok (.istore_n 3, 1) := by decide +kernel
theorem dX7_signal_49 : decode cX7_signal 49 = .ok (.iload_n 3, 1) := by decide +kernel
theorem dX7_signal_50 : decode cX7_signal 50 = .ok (.ifCond .eq 10, 3) := by decide +kernel
theorem dX7_signal_53 : decode cX7_signal 53 = .ok (.aload_n 0, 1) := by decide +kernel
theorem dX7_signal_54 : decode cX7_signal 54 = .ok (.invokevirtual 94, 3) := by decide +kernel
theorem dX7_signal_57 : decode cX7_signal 57 = .ok (.ifCond .ne 9, 3) := by decide +kernel
theorem dX7_signal_60 : decode cX7_signal 60 = .ok (.aload_n 0, 1) := by decide +kernel
theorem dX7_signal_61 : decode cX7_signal 61 = .ok (.iload_n 3, 1) := by decide +kernel
theorem dX7_signal_62 : decode cX7_signal 62 = .ok (.invokevirtual 100, 3) := by decide +kernel
theorem dX7_signal_65 : decode cX7_signal 65 = .ok (.ireturn, 1) := by decide +kernel
theorem dX7_signal_66 : decode cX7_signal 66 = .ok (.aload_n 0, 1) := by decide +kernel
theorem dX7_signal_67 : decode cX7_signal 67 = .ok (.iload_n 2, 1) := by decide +kernel
theorem dX7_signal_68 : decode cX7_signal 68 = .ok (.invokevirtual 135, 3) := by decide +kernel
theorem dX7_signal_71 : decode cX7_signal 71 = .ok (.iload_n 1, 1) := by decide +kernel
theorem dX7_signal_72 : decode cX7_signal 72 = .ok (.ishr, 1) := by decide +kernel
theorem dX7_signal_73 : decode cX7_signal 73 = .ok (.iconst 1, 1) := by decide +kernel
theorem dX7_signal_74 : decode cX7_signal 74 = .ok (.iand, 1) := by decide +kernel
theorem dX7_signal_75 : decode cX7_signal 75 = .ok (.ireturn, 1) := by decide +kernel
set_option maxRecDepth 20000 in
theorem ggX7_wrong_X7_in : GoodIn wsX7_wrong wsX7_in := goodIn_r _ [4] (by decide +kernel) (by decide +kernel)
set_option maxRecDepth 20000 in
theorem gX7_wrong_X7_in : GoodIn wsX7_wrong (va_wsS RX7 39 yX7_in wsX7_in) := goodIn_app (goodIn_of _ (by decide +kernel)) ggX7_wrong_X7_in
set_option maxRecDepth 20000 in
theorem ggX7_wrong_X7_isThere : GoodIn wsX7_wrong wsX7_isThere := goodIn_r _ [8, 9, 38, 39, 40, 41, 42, 43, 44, 45, 46, 47, 48, 49, 50, 51, 52, 53] (by decide +kernel) (by decide +kernel)
set_option maxRecDepth 20000 in
theorem gX7_wrong_X7_isThere : GoodIn wsX7_wrong (wsV RX7 94 RX7 yX7_isThere wsX7_isThere) := goodIn_app (goodIn_of _ (by decide +kernel)) ggX7_wrong_X7_isThere
set_option maxRecDepth 20000 in
theorem ggX7_wrong_X7_none : GoodIn wsX7_wrong wsX7_none := goodIn_r _ [13, 14, 15, 16, 3, 17, 18, 38, 39, 40, 41, 42, 43, 44, 45, 46, 47, 48, 49, 50, 51, 52, 53] (by decide +kernel) (by decide +kernel)
set_option maxRecDepth 20000 in
theorem gX7_wrong_X7_none : GoodIn wsX7_wrong (wsV RX7 100 RX7 yX7_none wsX7_none) := goodIn_app (goodIn_of _ (by decide +kernel)) ggX7_wrong_X7_none
set_option maxRecDepth 20000 in
theorem ggX7_wrong_X7_wrongOnes : GoodIn wsX7_wrong wsX7_wrongOnes := goodIn_r _ [22, 9, 23, 24, 25, 3, 26, 27, 28, 29, 30, 31, 32, 33, 34, 35, 36, 37, 38, 39, 40, 41, 42, 43, 44, 45, 46, 47, 48, 49, 50, 51, 52, 53] (by decide +kernel) (by decide +kernel)
set_option maxRecDepth 20000 in
theorem gX7_wrong_X7_wrongOnes : GoodIn wsX7_wrong (wsV RX7 147 RX7 yX7_wrongOnes wsX7_wrongOnes) := goodIn_app (goodIn_of _ (by decide +kernel)) ggX7_wrong_X7_wrongOnes
theorem dX7_wrong_0 : decode cX7_wrong 0 = .ok (.iload_n 1, 1) := by decide +kernel
theorem dX7_wrong_1 : decode cX7_wrong 1 = .ok (.iconst 0, 1) := by decide +kernel
theorem dX7_wrong_2 : decode cX7_wrong 2 = .ok (.iconst 1, 1) := by decide +kernel
theorem dX7_wrong_3 : decode cX7_wrong 3 = .ok (.invokestatic 39, 3) := by decide +kernel
theorem dX7_wrong_6 : decode cX7_wrong 6 = .ok (.istore_n 2, 1) := by decide +kernel
theorem dX7_wrong_7 : decode cX7_wrong 7 = .ok (.iload_n 2, 1) := by decide +kernel
theorem dX7_wrong_8 : decode cX7_wrong 8 = .ok (.ifCond .eq 10, 3) := by decide +kernel
theorem dX7_wrong_11 : decode cX7_wrong 11 = .ok (.aload_n 0, 1) := by decide +kernel
theorem dX7_wrong_12 : decode cX7_wrong 12 = .ok (.invokevirtual 94, 3) := by decide +kernel
theorem dX7_wrong_15 : decode cX7_wrong 15 = .ok (.ifCond .ne 9, 3) := by decide +kernel
theorem dX7_wrong_18 : decode cX7_wrong 18 = .ok (.aload_n 0, 1) := by decide +kernel
theorem dX7_wrong_19 : decode cX7_wrong 19 = .ok (.iload_n 2, 1) := by decide +kernel
theorem dX7_wrong_20 : decode cX7_wrong 20 = .ok (.invokevirtual 100, 3) := by decide +kernel
theorem dX7_wrong_23 : decode cX7_wrong 23 = .ok (.ireturn, 1) := by decide +kernel
theorem dX7_wrong_24 : decode cX7_wrong 24 = .ok (.aload_n 0, 1) := by decide +kernel
theorem dX7_wrong_25 : decode cX7_wrong 25 = .ok (.iload_n 1, 1) := by decide +kernel
theorem dX7_wrong_26 : decode cX7_wrong 26 = .ok (.ifCond .ne 7, 3) := by decide +kernel
theorem dX7_wrong_29 : decode cX7_wrong 29 = .ok (.iconst 1, 1) := by decide +kernel
theorem dX7_wrong_30 : decode cX7_wrong 30 = .ok (.goto 4, 3) := by decide +kernel
theorem dX7_wrong_33 : decode cX7_wrong 33 = .ok (.iconst 0, 1) := by decide +kernel
theorem dX7_wrong_34 : decode cX7_wrong 34 = .ok (.invokevirtual 147, 3) := by decide +kernel
theorem dX7_wrong_37 : decode cX7_wrong 37 = .ok (.ireturn, 1) := by decide +kernel
set_option maxRecDepth 20000 in
theorem ggX7_cures_X7_isGate : GoodIn wsX7_cures wsX7_isGate := goodIn_r _ [6, 1, 7, 8, 9, 5, 10, 11, 12, 13, 42, 43, 44, 45, 46, 47, 48, 49, 50, 51, 52, 53, 54, 55, 56, 57] (by decide +kernel) (by decide +kernel)
set_option maxRecDepth 20000 in
theorem gX7_cures_X7_isGate : GoodIn wsX7_cures (wsV RX7 97 RX7 yX7_isGate wsX7_isGate) := goodIn_app (goodIn_of _ (by decide +kernel)) ggX7_cures_X7_isGate
set_option maxRecDepth 20000 in
theorem ggX7_cures_X7_isThere : GoodIn wsX7_cures wsX7_isThere := goodIn_r _ [10, 1, 42, 43, 44, 45, 46, 47, 48, 49, 50, 51, 52, 53, 54, 55, 56, 57] (by decide +kernel) (by decide +kernel)
set_option maxRecDepth 20000 in
theorem gX7_cures_X7_isThere : GoodIn wsX7_cures (wsV RX7 94 RX7 yX7_isThere wsX7_isThere) := goodIn_app (goodIn_of _ (by decide +kernel)) ggX7_cures_X7_isThere
set_option maxRecDepth 20000 in
theorem ggX7_cures_X7_none : GoodIn wsX7_cures wsX7_none := goodIn_r _ [17, 18, 19, 20, 5, 21, 22, 42, 43, 44, 45, 46, 47, 48, 49, 50, 51, 52, 53, 54, 55, 56, 57] (by decide +kernel) (by decide +kernel)
set_option maxRecDepth 20000 in
theorem gX7_cures_X7_none : GoodIn wsX7_cures (wsV RX7 100 RX7 yX7_none wsX7_none) := goodIn_app (goodIn_of _ (by decide +kernel)) ggX7_cures_X7_none
set_option maxRecDepth 20000 in
theorem ggX7_cures_X7_wrongOnes : GoodIn wsX7_cures wsX7_wrongOnes := goodIn_r _ [26, 1, 27, 28, 29, 5, 30, 31, 32, 33, 34, 35, 36, 37, 38, 39, 40, 41, 42, 43, 44, 45, 46, 47, 48, 49, 50, 51, 52, 53, 54, 55, 56, 57] (by decide +kernel) (by decide +kernel)
set_option maxRecDepth 20000 in
theorem gX7_cures_X7_wrongOnes : GoodIn wsX7_cures (wsV RX7 147 RX7 yX7_wrongOnes wsX7_wrongOnes) := goodIn_app (goodIn_of _ (by decide +kernel)) ggX7_cures_X7_wrongOnes
theorem dX7_cures_0 : decode cX7_cures 0 = .ok (.aload_n 0, 1) := by decide +kernel
theorem dX7_cures_1 : decode cX7_cures 1 = .ok (.iload_n 1, 1) := by decide +kernel
theorem dX7_cures_2 : decode cX7_cures 2 = .ok (.invokevirtual 97, 3) := by decide +kernel
theorem dX7_cures_5 : decode cX7_cures 5 = .ok (.istore_n 2, 1) := by decide +kernel
theorem dX7_cures_6 : decode cX7_cures 6 = .ok (.iload_n 2, 1) := by decide +kernel
theorem dX7_cures_7 : decode cX7_cures 7 = .ok (.ifCond .eq 10, 3) := by decide +kernel
theorem dX7_cures_10 : decode cX7_cures 10 = .ok (.aload_n 0, 1) := by decide +kernel
theorem dX7_cures_11 : decode cX7_cures 11 = .ok (.invokevirtual 94, 3) := by decide +kernel
theorem dX7_cures_14 : decode cX7_cures 14 = .ok (.ifCond .ne 9, 3) := by decide +kernel
theorem dX7_cures_17 : decode cX7_cures 17 = .ok (.aload_n 0, 1) := by decide +kernel
theorem dX7_cures_18 : decode cX7_cures 18 = .ok (.iload_n 2, 1) := by decide +kernel
theorem dX7_cures_19 : decode cX7_cures 19 = .ok (.invokevirtual 100, 3) := by decide +kernel
theorem dX7_cures_22 : decode cX7_cures 22 = .ok (.ireturn, 1) := by decide +kernel
theorem dX7_cures_23 : decode cX7_cures 23 = .ok (.aload_n 0, 1) := by decide +kernel
theorem dX7_cures_24 : decode cX7_cures 24 = .ok (.getfield 7, 3) := by decide +kernel
theorem dX7_cures_27 : decode cX7_cures 27 = .ok (.bipush 6, 2) := by decide +kernel
theorem dX7_cures_29 : decode cX7_cures 29 = .ok (.iload_n 1, 1) := by decide +kernel
theorem dX7_cures_30 : decode cX7_cures 30 = .ok (.iadd, 1) := by decide +kernel
theorem dX7_cures_31 : decode cX7_cures 31 = .ok (.iaload, 1) := by decide +kernel
theorem dX7_cures_32 : decode cX7_cures 32 = .ok (.istore_n 3, 1) := by decide +kernel
theorem dX7_cures_33 : decode cX7_cures 33 = .ok (.iconst 0, 1) := by decide +kernel
theorem dX7_cures_34 : decode cX7_cures 34 = .ok (.istore 4, 2) := by decide +kernel
theorem dX7_cures_36 : decode cX7_cures 36 = .ok (.iload_n 3, 1) := by decide +kernel
theorem dX7_cures_37 : decode cX7_cures 37 = .ok (.ifCond .ne 7, 3) := by decide +kernel
theorem dX7_cures_40 : decode cX7_cures 40 = .ok (.iconst 0, 1) := by decide +kernel
theorem dX7_cures_41 : decode cX7_cures 41 = .ok (.goto 4, 3) := by decide +kernel
theorem dX7_cures_44 : decode cX7_cures 44 = .ok (.iconst 1, 1) := by decide +kernel
theorem dX7_cures_45 : decode cX7_cures 45 = .ok (.istore 5, 2) := by decide +kernel
theorem dX7_cures_47 : decode cX7_cures 47 = .ok (.iload 5, 2) := by decide +kernel
theorem dX7_cures_49 : decode cX7_cures 49 = .ok (.iload_n 3, 1) := by decide +kernel
theorem dX7_cures_50 : decode cX7_cures 50 = .ok (.ifCond .ne 7, 3) := by decide +kernel
theorem dX7_cures_53 : decode cX7_cures 53 = .ok (.iconst 1, 1) := by decide +kernel
theorem dX7_cures_54 : decode cX7_cures 54 = .ok (.goto 5, 3) := by decide +kernel
theorem dX7_cures_57 : decode cX7_cures 57 = .ok (.bipush 8, 2) := by decide +kernel
theorem dX7_cures_59 : decode cX7_cures 59 = .ok (.if_icmp .ge 42, 3) := by decide +kernel
theorem dX7_cures_62 : decode cX7_cures 62 = .ok (.aload_n 0, 1) := by decide +kernel
theorem dX7_cures_63 : decode cX7_cures 63 = .ok (.getfield 7, 3) := by decide +kernel
theorem dX7_cures_66 : decode cX7_cures 66 = .ok (.bipush 6, 2) := by decide +kernel
theorem dX7_cures_68 : decode cX7_cures 68 = .ok (.iload_n 1, 1) := by decide +kernel
theorem dX7_cures_69 : decode cX7_cures 69 = .ok (.iadd, 1) := by decide +kernel
theorem dX7_cures_70 : decode cX7_cures 70 = .ok (.iload 5, 2) := by decide +kernel
theorem dX7_cures_72 : decode cX7_cures 72 = .ok (.iastore, 1) := by decide +kernel
theorem dX7_cures_73 : decode cX7_cures 73 = .ok (.iload 4, 2) := by decide +kernel
theorem dX7_cures_75 : decode cX7_cures 75 = .ok (.aload_n 0, 1) := by decide +kernel
theorem dX7_cures_76 : decode cX7_cures 76 = .ok (.iconst 1, 1) := by decide +kernel
theorem dX7_cures_77 : decode cX7_cures 77 = .ok (.invokevirtual 147, 3) := by decide +kernel
theorem dX7_cures_80 : decode cX7_cures 80 = .ok (.iconst (-1), 1) := by decide +kernel
theorem dX7_cures_81 : decode cX7_cures 81 = .ok (.if_icmp .ne 10, 3) := by decide +kernel
theorem dX7_cures_84 : decode cX7_cures 84 = .ok (.iconst 1, 1) := by decide +kernel
theorem dX7_cures_85 : decode cX7_cures 85 = .ok (.iload 5, 2) := by decide +kernel
theorem dX7_cures_87 : decode cX7_cures 87 = .ok (.ishl, 1) := by decide +kernel
theorem dX7_cures_88 : decode cX7_cures 88 = .ok (.goto 4, 3) := by decide +kernel
theorem dX7_cures_91 : decode cX7_cures 91 = .ok (.iconst 0, 1) := by decide +kernel
theorem dX7_cures_92 : decode cX7_cures 92 = .ok (.ior, 1) := by decide +kernel
theorem dX7_cures_93 : decode cX7_cures 93 = .ok (.istore 4, 2) := by decide +kernel
theorem dX7_cures_95 : decode cX7_cures 95 = .ok (.iinc 5 1, 3) := by decide +kernel
theorem dX7_cures_98 : decode cX7_cures 98 = .ok (.goto (-51), 3) := by decide +kernel
theorem dX7_cures_101 : decode cX7_cures 101 = .ok (.aload_n 0, 1) := by decide +kernel
theorem dX7_cures_102 : decode cX7_cures 102 = .ok (.getfield 7, 3) := by decide +kernel
theorem dX7_cures_105 : decode cX7_cures 105 = .ok (.bipush 6, 2) := by decide +kernel
theorem dX7_cures_107 : decode cX7_cures 107 = .ok (.iload_n 1, 1) := by decide +kernel
theorem dX7_cures_108 : decode cX7_cures 108 = .ok (.iadd, 1) := by decide +kernel
theorem dX7_cures_109 : decode cX7_cures 109 = .ok (.iload_n 3, 1) := by decide +kernel
theorem dX7_cures_110 : decode cX7_cures 110 = .ok (.iastore, 1) := by decide +kernel
theorem dX7_cures_111 : decode cX7_cures 111 = .ok (.iload 4, 2) := by decide +kernel
theorem dX7_cures_113 : decode cX7_cures 113 = .ok (.ireturn, 1) := by decide +kernel
theorem dX7_adds_0 : decode cX7_adds 0 = .ok (.iconst 0, 1) := by decide +kernel
theorem dX7_adds_1 : decode cX7_adds 1 = .ok (.istore 4, 2) := by decide +kernel
theorem dX7_adds_3 : decode cX7_adds 3 = .ok (.iload 4, 2) := by decide +kernel
theorem dX7_adds_5 : decode cX7_adds 5 = .ok (.aload_n 0, 1) := by decide +kernel
theorem dX7_adds_6 : decode cX7_adds 6 = .ok (.getfield 150, 3) := by decide +kernel
theorem dX7_adds_9 : decode cX7_adds 9 = .ok (.if_icmp .ge 20, 3) := by decide +kernel
theorem dX7_adds_12 : decode cX7_adds 12 = .ok (.aload_n 0, 1) := by decide +kernel
theorem dX7_adds_13 : decode cX7_adds 13 = .ok (.getfield 33, 3) := by decide +kernel
theorem dX7_adds_16 : decode cX7_adds 16 = .ok (.iload 4, 2) := by decide +kernel
theorem dX7_adds_18 : decode cX7_adds 18 = .ok (.iaload, 1) := by decide +kernel
theorem dX7_adds_19 : decode cX7_adds 19 = .ok (.iload_n 1, 1) := by decide +kernel
theorem dX7_adds_20 : decode cX7_adds 20 = .ok (.if_icmp .eq 9, 3) := by decide +kernel
theorem dX7_adds_23 : decode cX7_adds 23 = .ok (.iinc 4 1, 3) := by decide +kernel
theorem dX7_adds_26 : decode cX7_adds 26 = .ok (.goto (-23), 3) := by decide +kernel
theorem dX7_adds_29 : decode cX7_adds 29 = .ok (.iload 4, 2) := by decide +kernel
theorem dX7_adds_31 : decode cX7_adds 31 = .ok (.aload_n 0, 1) := by decide +kernel
theorem dX7_adds_32 : decode cX7_adds 32 = .ok (.getfield 150, 3) := by decide +kernel
theorem dX7_adds_35 : decode cX7_adds 35 = .ok (.if_icmp .ne 33, 3) := by decide +kernel
theorem dX7_adds_38 : decode cX7_adds 38 = .ok (.aload_n 0, 1) := by decide +kernel
theorem dX7_adds_39 : decode cX7_adds 39 = .ok (.getfield 33, 3) := by decide +kernel
theorem dX7_adds_42 : decode cX7_adds 42 = .ok (.aload_n 0, 1) := by decide +kernel
theorem dX7_adds_43 : decode cX7_adds 43 = .ok (.getfield 150, 3) := by decide +kernel
theorem dX7_adds_46 : decode cX7_adds 46 = .ok (.iload_n 1, 1) := by decide +kernel
theorem dX7_adds_47 : decode cX7_adds 47 = .ok (.iastore, 1) := by decide +kernel
theorem dX7_adds_48 : decode cX7_adds 48 = .ok (.aload_n 0, 1) := by decide +kernel
theorem dX7_adds_49 : decode cX7_adds 49 = .ok (.getfield 36, 3) := by decide +kernel
theorem dX7_adds_52 : decode cX7_adds 52 = .ok (.aload_n 0, 1) := by decide +kernel
theorem dX7_adds_53 : decode cX7_adds 53 = .ok (.getfield 150, 3) := by decide +kernel
theorem dX7_adds_56 : decode cX7_adds 56 = .ok (.lconst 0, 1) := by decide +kernel
theorem dX7_adds_57 : decode cX7_adds 57 = .ok (.lastore, 1) := by decide +kernel
theorem dX7_adds_58 : decode cX7_adds 58 = .ok (.aload_n 0, 1) := by decide +kernel
theorem dX7_adds_59 : decode cX7_adds 59 = .ok (.dup, 1) := by decide +kernel
theorem dX7_adds_60 : decode cX7_adds 60 = .ok (.getfield 150, 3) := by decide +kernel
theorem dX7_adds_63 : decode cX7_adds 63 = .ok (.iconst 1, 1) := by decide +kernel
theorem dX7_adds_64 : decode cX7_adds 64 = .ok (.iadd, 1) := by decide +kernel
theorem dX7_adds_65 : decode cX7_adds 65 = .ok (.putfield 150, 3) := by decide +kernel
theorem dX7_adds_68 : decode cX7_adds 68 = .ok (.aload_n 0, 1) := by decide +kernel
theorem dX7_adds_69 : decode cX7_adds 69 = .ok (.getfield 36, 3) := by decide +kernel
theorem dX7_adds_72 : decode cX7_adds 72 = .ok (.iload 4, 2) := by decide +kernel
theorem dX7_adds_74 : decode cX7_adds 74 = .ok (.dup2, 1) := by decide +kernel
theorem dX7_adds_75 : decode cX7_adds 75 = .ok (.laload, 1) := by decide +kernel
theorem dX7_adds_76 : decode cX7_adds 76 = .ok (.lload_n 2, 1) := by decide +kernel
theorem dX7_adds_77 : decode cX7_adds 77 = .ok (.ladd, 1) := by decide +kernel
theorem dX7_adds_78 : decode cX7_adds 78 = .ok (.lastore, 1) := by decide +kernel
theorem dX7_adds_79 : decode cX7_adds 79 = .ok (.return_, 1) := by decide +kernel
theorem dX7_becomes_0 : decode cX7_becomes 0 = .ok (.aload_n 0, 1) := by decide +kernel
theorem dX7_becomes_1 : decode cX7_becomes 1 = .ok (.iconst 0, 1) := by decide +kernel
theorem dX7_becomes_2 : decode cX7_becomes 2 = .ok (.putfield 153, 3) := by decide +kernel
theorem dX7_becomes_5 : decode cX7_becomes 5 = .ok (.iconst 0, 1) := by decide +kernel
theorem dX7_becomes_6 : decode cX7_becomes 6 = .ok (.istore_n 1, 1) := by decide +kernel
theorem dX7_becomes_7 : decode cX7_becomes 7 = .ok (.iload_n 1, 1) := by decide +kernel
theorem dX7_becomes_8 : decode cX7_becomes 8 = .ok (.aload_n 0, 1) := by decide +kernel
theorem dX7_becomes_9 : decode cX7_becomes 9 = .ok (.getfield 150, 3) := by decide +kernel
theorem dX7_becomes_12 : decode cX7_becomes 12 = .ok (.if_icmp .ge 114, 3) := by decide +kernel
theorem dX7_becomes_15 : decode cX7_becomes 15 = .ok (.aload_n 0, 1) := by decide +kernel
theorem dX7_becomes_16 : decode cX7_becomes 16 = .ok (.getfield 36, 3) := by decide +kernel
theorem dX7_becomes_19 : decode cX7_becomes 19 = .ok (.iload_n 1, 1) := by decide +kernel
theorem dX7_becomes_20 : decode cX7_becomes 20 = .ok (.laload, 1) := by decide +kernel
theorem dX7_becomes_21 : decode cX7_becomes 21 = .ok (.lconst 0, 1) := by decide +kernel
theorem dX7_becomes_22 : decode cX7_becomes 22 = .ok (.lcmp, 1) := by decide +kernel
theorem dX7_becomes_23 : decode cX7_becomes 23 = .ok (.ifCond .eq 97, 3) := by decide +kernel
theorem dX7_becomes_26 : decode cX7_becomes 26 = .ok (.aload_n 0, 1) := by decide +kernel
theorem dX7_becomes_27 : decode cX7_becomes 27 = .ok (.getfield 153, 3) := by decide +kernel
theorem dX7_becomes_30 : decode cX7_becomes 30 = .ok (.istore_n 2, 1) := by decide +kernel
theorem dX7_becomes_31 : decode cX7_becomes 31 = .ok (.iload_n 2, 1) := by decide +kernel
theorem dX7_becomes_32 : decode cX7_becomes 32 = .ok (.ifCond .le 54, 3) := by decide +kernel
theorem dX7_becomes_35 : decode cX7_becomes 35 = .ok (.aload_n 0, 1) := by decide +kernel
theorem dX7_becomes_36 : decode cX7_becomes 36 = .ok (.getfield 26, 3) := by decide +kernel
theorem dX7_becomes_39 : decode cX7_becomes 39 = .ok (.iload_n 2, 1) := by decide +kernel
theorem dX7_becomes_40 : decode cX7_becomes 40 = .ok (.iconst 1, 1) := by decide +kernel
theorem dX7_becomes_41 : decode cX7_becomes 41 = .ok (.isub, 1) := by decide +kernel
theorem dX7_becomes_42 : decode cX7_becomes 42 = .ok (.iaload, 1) := by decide +kernel
theorem dX7_becomes_43 : decode cX7_becomes 43 = .ok (.aload_n 0, 1) := by decide +kernel
theorem dX7_becomes_44 : decode cX7_becomes 44 = .ok (.getfield 33, 3) := by decide +kernel
theorem dX7_becomes_47 : decode cX7_becomes 47 = .ok (.iload_n 1, 1) := by decide +kernel
theorem dX7_becomes_48 : decode cX7_becomes 48 = .ok (.iaload, 1) := by decide +kernel
theorem dX7_becomes_49 : decode cX7_becomes 49 = .ok (.if_icmp .ge 37, 3) := by decide +kernel
theorem dX7_becomes_52 : decode cX7_becomes 52 = .ok (.aload_n 0, 1) := by decide +kernel
theorem dX7_becomes_53 : decode cX7_becomes 53 = .ok (.getfield 26, 3) := by decide +kernel
theorem dX7_becomes_56 : decode cX7_becomes 56 = .ok (.iload_n 2, 1) := by decide +kernel
theorem dX7_becomes_57 : decode cX7_becomes 57 = .ok (.aload_n 0, 1) := by decide +kernel
theorem dX7_becomes_58 : decode cX7_becomes 58 = .ok (.getfield 26, 3) := by decide +kernel
theorem dX7_becomes_61 : decode cX7_becomes 61 = .ok (.iload_n 2, 1) := by decide +kernel
theorem dX7_becomes_62 : decode cX7_becomes 62 = .ok (.iconst 1, 1) := by decide +kernel
theorem dX7_becomes_63 : decode cX7_becomes 63 = .ok (.isub, 1) := by decide +kernel
theorem dX7_becomes_64 : decode cX7_becomes 64 = .ok (.iaload, 1) := by decide +kernel
theorem dX7_becomes_65 : decode cX7_becomes 65 = .ok (.iastore, 1) := by decide +kernel
theorem dX7_becomes_66 : decode cX7_becomes 66 = .ok (.aload_n 0, 1) := by decide +kernel
theorem dX7_becomes_67 : decode cX7_becomes 67 = .ok (.getfield 29, 3) := by decide +kernel
theorem dX7_becomes_70 : decode cX7_becomes 70 = .ok (.iload_n 2, 1) := by decide +kernel
theorem dX7_becomes_71 : decode cX7_becomes 71 = .ok (.aload_n 0, 1) := by decide +kernel
theorem dX7_becomes_72 : decode cX7_becomes 72 = .ok (.getfield 29, 3) := by decide +kernel
theorem dX7_becomes_75 : decode cX7_becomes 75 = .ok (.iload_n 2, 1) := by decide +kernel
theorem dX7_becomes_76 : decode cX7_becomes 76 = .ok (.iconst 1, 1) := by decide +kernel
theorem dX7_becomes_77 : decode cX7_becomes 77 = .ok (.isub, 1) := by decide +kernel
theorem dX7_becomes_78 : decode cX7_becomes 78 = .ok (.laload, 1) := by decide +kernel
theorem dX7_becomes_79 : decode cX7_becomes 79 = .ok (.lastore, 1) := by decide +kernel
theorem dX7_becomes_80 : decode cX7_becomes 80 = .ok (.iinc 2 (-1), 3) := by decide +kernel
theorem dX7_becomes_83 : decode cX7_becomes 83 = .ok (.goto (-52), 3) := by decide +kernel
theorem dX7_becomes_86 : decode cX7_becomes 86 = .ok (.aload_n 0, 1) := by decide +kernel
theorem dX7_becomes_87 : decode cX7_becomes 87 = .ok (.getfield 26, 3) := by decide +kernel
theorem dX7_becomes_90 : decode cX7_becomes 90 = .ok (.iload_n 2, 1) := by decide +kernel
theorem dX7_becomes_91 : decode cX7_becomes 91 = .ok (.aload_n 0, 1) := by decide +kernel
theorem dX7_becomes_92 : decode cX7_becomes 92 = .ok (.getfield 33, 3) := by decide +kernel
theorem dX7_becomes_95 : decode cX7_becomes 95 = .ok (.iload_n 1, 1) := by decide +kernel
theorem dX7_becomes_96 : decode cX7_becomes 96 = .ok (.iaload, 1) := by decide +kernel
theorem dX7_becomes_97 : decode cX7_becomes 97 = .ok (.iastore, 1) := by decide +kernel
theorem dX7_becomes_98 : decode cX7_becomes 98 = .ok (.aload_n 0, 1) := by decide +kernel
theorem dX7_becomes_99 : decode cX7_becomes 99 = .ok (.getfield 29, 3) := by decide +kernel
theorem dX7_becomes_102 : decode cX7_becomes 102 = .ok (.iload_n 2, 1) := by decide +kernel
theorem dX7_becomes_103 : decode cX7_becomes 103 = .ok (.aload_n 0, 1) := by decide +kernel
theorem dX7_becomes_104 : decode cX7_becomes 104 = .ok (.getfield 36, 3) := by decide +kernel
theorem dX7_becomes_107 : decode cX7_becomes 107 = .ok (.iload_n 1, 1) := by decide +kernel
theorem dX7_becomes_108 : decode cX7_becomes 108 = .ok (.laload, 1) := by decide +kernel
theorem dX7_becomes_109 : decode cX7_becomes 109 = .ok (.lastore, 1) := by decide +kernel
theorem dX7_becomes_110 : decode cX7_becomes 110 = .ok (.aload_n 0, 1) := by decide +kernel
theorem dX7_becomes_111 : decode cX7_becomes 111 = .ok (.dup, 1) := by decide +kernel
theorem dX7_becomes_112 : decode cX7_becomes 112 = .ok (.getfield 153, 3) := by decide +kernel
theorem dX7_becomes_115 : decode cX7_becomes 115 = .ok (.iconst 1, 1) := by decide +kernel
theorem dX7_becomes_116 : decode cX7_becomes 116 = .ok (.iadd, 1) := by decide +kernel
theorem dX7_becomes_117 : decode cX7_becomes 117 = .ok (.putfield 153, 3) := by decide +kernel
theorem dX7_becomes_120 : decode cX7_becomes 120 = .ok (.iinc 1 1, 3) := by decide +kernel
theorem dX7_becomes_123 : decode cX7_becomes 123 = .ok (.goto (-116), 3) := by decide +kernel
theorem dX7_becomes_126 : decode cX7_becomes 126 = .ok (.aload_n 0, 1) := by decide +kernel
theorem dX7_becomes_127 : decode cX7_becomes 127 = .ok (.iconst 0, 1) := by decide +kernel
theorem dX7_becomes_128 : decode cX7_becomes 128 = .ok (.putfield 150, 3) := by decide +kernel
theorem dX7_becomes_131 : decode cX7_becomes 131 = .ok (.aload_n 0, 1) := by decide +kernel
theorem dX7_becomes_132 : decode cX7_becomes 132 = .ok (.getfield 153, 3) := by decide +kernel
theorem dX7_becomes_135 : decode cX7_becomes 135 = .ok (.bipush 40, 2) := by decide +kernel
theorem dX7_becomes_137 : decode cX7_becomes 137 = .ok (.if_icmp .gt 7, 3) := by decide +kernel
theorem dX7_becomes_140 : decode cX7_becomes 140 = .ok (.iconst 1, 1) := by decide +kernel
theorem dX7_becomes_141 : decode cX7_becomes 141 = .ok (.goto 4, 3) := by decide +kernel
theorem dX7_becomes_144 : decode cX7_becomes 144 = .ok (.iconst 0, 1) := by decide +kernel
theorem dX7_becomes_145 : decode cX7_becomes 145 = .ok (.ireturn, 1) := by decide +kernel
set_option maxRecDepth 20000 in
theorem ggX7_begin_X7_adds : GoodIn wsX7_begin wsX7_adds := goodIn_r _ [8, 1, 9, 10, 18, 19, 20, 21, 22, 23, 24, 25, 26, 27, 28, 29, 30, 31, 32, 33] (by decide +kernel) (by decide +kernel)
set_option maxRecDepth 20000 in
theorem gX7_begin_X7_adds : GoodIn wsX7_begin (wsV RX7 156 RX7 yX7_adds wsX7_adds) := goodIn_app (goodIn_of _ (by decide +kernel)) ggX7_begin_X7_adds
set_option maxRecDepth 20000 in
theorem ggX7_begin_X7_becomes : GoodIn wsX7_begin wsX7_becomes := goodIn_r _ [14, 15, 1, 10, 16, 9, 17, 18, 19, 20, 21, 22, 23, 24, 25, 26, 27, 28, 29, 30, 31, 32, 33] (by decide +kernel) (by decide +kernel)
set_option maxRecDepth 20000 in
theorem gX7_begin_X7_becomes : GoodIn wsX7_begin (wsV RX7 162 RX7 yX7_becomes wsX7_becomes) := goodIn_app (goodIn_of _ (by decide +kernel)) ggX7_begin_X7_becomes
theorem dX7_begin_0 : decode cX7_begin 0 = .ok (.aload_n 0, 1) := by decide +kernel
theorem dX7_begin_1 : decode cX7_begin 1 = .ok (.iconst 0, 1) := by decide +kernel
theorem dX7_begin_2 : decode cX7_begin 2 = .ok (.putfield 150, 3) := by decide +kernel
theorem dX7_begin_5 : decode cX7_begin 5 = .ok (.iconst 0, 1) := by decide +kernel
theorem dX7_begin_6 : decode cX7_begin 6 = .ok (.istore_n 1, 1) := by decide +kernel
theorem dX7_begin_7 : decode cX7_begin 7 = .ok (.iload_n 1, 1) := by decide +kernel
theorem dX7_begin_8 : decode cX7_begin 8 = .ok (.aload_n 0, 1) := by decide +kernel
theorem dX7_begin_9 : decode cX7_begin 9 = .ok (.getfield 7, 3) := by decide +kernel
theorem dX7_begin_12 : decode cX7_begin 12 = .ok (.iconst 2, 1) := by decide +kernel
theorem dX7_begin_13 : decode cX7_begin 13 = .ok (.iaload, 1) := by decide +kernel
theorem dX7_begin_14 : decode cX7_begin 14 = .ok (.if_icmp .ge 27, 3) := by decide +kernel
theorem dX7_begin_17 : decode cX7_begin 17 = .ok (.aload_n 0, 1) := by decide +kernel
theorem dX7_begin_18 : decode cX7_begin 18 = .ok (.iconst 1, 1) := by decide +kernel
theorem dX7_begin_19 : decode cX7_begin 19 = .ok (.aload_n 0, 1) := by decide +kernel
theorem dX7_begin_20 : decode cX7_begin 20 = .ok (.getfield 7, 3) := by decide +kernel
theorem dX7_begin_23 : decode cX7_begin 23 = .ok (.bipush 42, 2) := by decide +kernel
theorem dX7_begin_25 : decode cX7_begin 25 = .ok (.iload_n 1, 1) := by decide +kernel
theorem dX7_begin_26 : decode cX7_begin 26 = .ok (.iadd, 1) := by decide +kernel
theorem dX7_begin_27 : decode cX7_begin 27 = .ok (.iaload, 1) := by decide +kernel
theorem dX7_begin_28 : decode cX7_begin 28 = .ok (.ishl, 1) := by decide +kernel
theorem dX7_begin_29 : decode cX7_begin 29 = .ok (.lconst 1, 1) := by decide +kernel
theorem dX7_begin_30 : decode cX7_begin 30 = .ok (.iload_n 1, 1) := by decide +kernel
theorem dX7_begin_31 : decode cX7_begin 31 = .ok (.lshl, 1) := by decide +kernel
theorem dX7_begin_32 : decode cX7_begin 32 = .ok (.invokevirtual 156, 3) := by decide +kernel
theorem dX7_begin_35 : decode cX7_begin 35 = .ok (.iinc 1 1, 3) := by decide +kernel
theorem dX7_begin_38 : decode cX7_begin 38 = .ok (.goto (-31), 3) := by decide +kernel
theorem dX7_begin_41 : decode cX7_begin 41 = .ok (.aload_n 0, 1) := by decide +kernel
theorem dX7_begin_42 : decode cX7_begin 42 = .ok (.getfield 7, 3) := by decide +kernel
theorem dX7_begin_45 : decode cX7_begin 45 = .ok (.iconst 4, 1) := by decide +kernel
theorem dX7_begin_46 : decode cX7_begin 46 = .ok (.iaload, 1) := by decide +kernel
theorem dX7_begin_47 : decode cX7_begin 47 = .ok (.istore_n 1, 1) := by decide +kernel
theorem dX7_begin_48 : decode cX7_begin 48 = .ok (.aload_n 0, 1) := by decide +kernel
theorem dX7_begin_49 : decode cX7_begin 49 = .ok (.getfield 7, 3) := by decide +kernel
theorem dX7_begin_52 : decode cX7_begin 52 = .ok (.iconst 5, 1) := by decide +kernel
theorem dX7_begin_53 : decode cX7_begin 53 = .ok (.iaload, 1) := by decide +kernel
theorem dX7_begin_54 : decode cX7_begin 54 = .ok (.istore_n 2, 1) := by decide +kernel
theorem dX7_begin_55 : decode cX7_begin 55 = .ok (.aload_n 0, 1) := by decide +kernel
theorem dX7_begin_56 : decode cX7_begin 56 = .ok (.getfield 7, 3) := by decide +kernel
theorem dX7_begin_59 : decode cX7_begin 59 = .ok (.iconst 3, 1) := by decide +kernel
theorem dX7_begin_60 : decode cX7_begin 60 = .ok (.iaload, 1) := by decide +kernel
theorem dX7_begin_61 : decode cX7_begin 61 = .ok (.istore_n 3, 1) := by decide +kernel
theorem dX7_begin_62 : decode cX7_begin 62 = .ok (.iconst 0, 1) := by decide +kernel
theorem dX7_begin_63 : decode cX7_begin 63 = .ok (.istore 4, 2) := by decide +kernel
theorem dX7_begin_65 : decode cX7_begin 65 = .ok (.iload 4, 2) := by decide +kernel
theorem dX7_begin_67 : decode cX7_begin 67 = .ok (.iload_n 1, 1) := by decide +kernel
theorem dX7_begin_68 : decode cX7_begin 68 = .ok (.if_icmp .ge 118, 3) := by decide +kernel
theorem dX7_begin_71 : decode cX7_begin 71 = .ok (.iconst 0, 1) := by decide +kernel
theorem dX7_begin_72 : decode cX7_begin 72 = .ok (.istore 5, 2) := by decide +kernel
theorem dX7_begin_74 : decode cX7_begin 74 = .ok (.iload 5, 2) := by decide +kernel
theorem dX7_begin_76 : decode cX7_begin 76 = .ok (.iload_n 3, 1) := by decide +kernel
theorem dX7_begin_77 : decode cX7_begin 77 = .ok (.iconst 1, 1) := by decide +kernel
theorem dX7_begin_78 : decode cX7_begin 78 = .ok (.if_icmp .ne 7, 3) := by decide +kernel
theorem dX7_begin_81 : decode cX7_begin 81 = .ok (.iload_n 2, 1) := by decide +kernel
theorem dX7_begin_82 : decode cX7_begin 82 = .ok (.goto 13, 3) := by decide +kernel
theorem dX7_begin_85 : decode cX7_begin 85 = .ok (.iload_n 3, 1) := by decide +kernel
theorem dX7_begin_86 : decode cX7_begin 86 = .ok (.iconst 2, 1) := by decide +kernel
theorem dX7_begin_87 : decode cX7_begin 87 = .ok (.if_icmp .ne 7, 3) := by decide +kernel
theorem dX7_begin_90 : decode cX7_begin 90 = .ok (.iload_n 1, 1) := by decide +kernel
theorem dX7_begin_91 : decode cX7_begin 91 = .ok (.goto 4, 3) := by decide +kernel
theorem dX7_begin_94 : decode cX7_begin 94 = .ok (.iconst 1, 1) := by decide +kernel
theorem dX7_begin_95 : decode cX7_begin 95 = .ok (.if_icmp .ge 85, 3) := by decide +kernel
theorem dX7_begin_98 : decode cX7_begin 98 = .ok (.iload_n 3, 1) := by decide +kernel
theorem dX7_begin_99 : decode cX7_begin 99 = .ok (.iconst 1, 1) := by decide +kernel
theorem dX7_begin_100 : decode cX7_begin 100 = .ok (.if_icmp .ne 12, 3) := by decide +kernel
theorem dX7_begin_103 : decode cX7_begin 103 = .ok (.iconst 1, 1) := by decide +kernel
theorem dX7_begin_104 : decode cX7_begin 104 = .ok (.iload_n 1, 1) := by decide +kernel
theorem dX7_begin_105 : decode cX7_begin 105 = .ok (.iload 5, 2) := by decide +kernel
theorem dX7_begin_107 : decode cX7_begin 107 = .ok (.iadd, 1) := by decide +kernel
theorem dX7_begin_108 : decode cX7_begin 108 = .ok (.ishl, 1) := by decide +kernel
theorem dX7_begin_109 : decode cX7_begin 109 = .ok (.goto 16, 3) := by decide +kernel
theorem dX7_begin_112 : decode cX7_begin 112 = .ok (.iload_n 3, 1) := by decide +kernel
theorem dX7_begin_113 : decode cX7_begin 113 = .ok (.iconst 2, 1) := by decide +kernel
theorem dX7_begin_114 : decode cX7_begin 114 = .ok (.if_icmp .ne 10, 3) := by decide +kernel
theorem dX7_begin_117 : decode cX7_begin 117 = .ok (.iconst 1, 1) := by decide +kernel
theorem dX7_begin_118 : decode cX7_begin 118 = .ok (.iload 5, 2) := by decide +kernel
theorem dX7_begin_120 : decode cX7_begin 120 = .ok (.ishl, 1) := by decide +kernel
theorem dX7_begin_121 : decode cX7_begin 121 = .ok (.goto 4, 3) := by decide +kernel
theorem dX7_begin_124 : decode cX7_begin 124 = .ok (.iconst 0, 1) := by decide +kernel
theorem dX7_begin_125 : decode cX7_begin 125 = .ok (.istore 6, 2) := by decide +kernel
theorem dX7_begin_127 : decode cX7_begin 127 = .ok (.aload_n 0, 1) := by decide +kernel
theorem dX7_begin_128 : decode cX7_begin 128 = .ok (.iconst 1, 1) := by decide +kernel
theorem dX7_begin_129 : decode cX7_begin 129 = .ok (.iload 4, 2) := by decide +kernel
theorem dX7_begin_131 : decode cX7_begin 131 = .ok (.ishl, 1) := by decide +kernel
theorem dX7_begin_132 : decode cX7_begin 132 = .ok (.iload 6, 2) := by decide +kernel
theorem dX7_begin_134 : decode cX7_begin 134 = .ok (.ior, 1) := by decide +kernel
theorem dX7_begin_135 : decode cX7_begin 135 = .ok (.iload_n 3, 1) := by decide +kernel
theorem dX7_begin_136 : decode cX7_begin 136 = .ok (.ifCond .ne 11, 3) := by decide +kernel
theorem dX7_begin_139 : decode cX7_begin 139 = .ok (.lconst 1, 1) := by decide +kernel
theorem dX7_begin_140 : decode cX7_begin 140 = .ok (.iload 4, 2) := by decide +kernel
theorem dX7_begin_142 : decode cX7_begin 142 = .ok (.lshl, 1) := by decide +kernel
theorem dX7_begin_143 : decode cX7_begin 143 = .ok (.lneg, 1) := by decide +kernel
theorem dX7_begin_144 : decode cX7_begin 144 = .ok (.goto 27, 3) := by decide +kernel
theorem dX7_begin_147 : decode cX7_begin 147 = .ok (.iload_n 3, 1) := by decide +kernel
theorem dX7_begin_148 : decode cX7_begin 148 = .ok (.iconst 3, 1) := by decide +kernel
theorem dX7_begin_149 : decode cX7_begin 149 = .ok (.if_icmp .ge 14, 3) := by decide +kernel
theorem dX7_begin_152 : decode cX7_begin 152 = .ok (.lconst 1, 1) := by decide +kernel
theorem dX7_begin_153 : decode cX7_begin 153 = .ok (.iload 4, 2) := by decide +kernel
theorem dX7_begin_155 : decode cX7_begin 155 = .ok (.iload 5, 2) := by decide +kernel
theorem dX7_begin_157 : decode cX7_begin 157 = .ok (.iadd, 1) := by decide +kernel
theorem dX7_begin_158 : decode cX7_begin 158 = .ok (.lshl, 1) := by decide +kernel
theorem dX7_begin_159 : decode cX7_begin 159 = .ok (.lneg, 1) := by decide +kernel
theorem dX7_begin_160 : decode cX7_begin 160 = .ok (.goto 11, 3) := by decide +kernel
theorem dX7_begin_163 : decode cX7_begin 163 = .ok (.ldc2_w 160, 3) := by decide +kernel
theorem dX7_begin_166 : decode cX7_begin 166 = .ok (.lconst 1, 1) := by decide +kernel
theorem dX7_begin_167 : decode cX7_begin 167 = .ok (.iload 4, 2) := by decide +kernel
theorem dX7_begin_169 : decode cX7_begin 169 = .ok (.lshl, 1) := by decide +kernel
theorem dX7_begin_170 : decode cX7_begin 170 = .ok (.lmul, 1) := by decide +kernel
theorem dX7_begin_171 : decode cX7_begin 171 = .ok (.invokevirtual 156, 3) := by decide +kernel
theorem dX7_begin_174 : decode cX7_begin 174 = .ok (.iinc 5 1, 3) := by decide +kernel
theorem dX7_begin_177 : decode cX7_begin 177 = .ok (.goto (-103), 3) := by decide +kernel
theorem dX7_begin_180 : decode cX7_begin 180 = .ok (.iinc 4 1, 3) := by decide +kernel
theorem dX7_begin_183 : decode cX7_begin 183 = .ok (.goto (-118), 3) := by decide +kernel
theorem dX7_begin_186 : decode cX7_begin 186 = .ok (.iconst 0, 1) := by decide +kernel
theorem dX7_begin_187 : decode cX7_begin 187 = .ok (.istore 4, 2) := by decide +kernel
theorem dX7_begin_189 : decode cX7_begin 189 = .ok (.iload 4, 2) := by decide +kernel
theorem dX7_begin_191 : decode cX7_begin 191 = .ok (.iload_n 2, 1) := by decide +kernel
theorem dX7_begin_192 : decode cX7_begin 192 = .ok (.if_icmp .ge 41, 3) := by decide +kernel
theorem dX7_begin_195 : decode cX7_begin 195 = .ok (.iload_n 3, 1) := by decide +kernel
theorem dX7_begin_196 : decode cX7_begin 196 = .ok (.iconst 1, 1) := by decide +kernel
theorem dX7_begin_197 : decode cX7_begin 197 = .ok (.if_icmp .eq 36, 3) := by decide +kernel
theorem dX7_begin_200 : decode cX7_begin 200 = .ok (.aload_n 0, 1) := by decide +kernel
theorem dX7_begin_201 : decode cX7_begin 201 = .ok (.iconst 1, 1) := by decide +kernel
theorem dX7_begin_202 : decode cX7_begin 202 = .ok (.iload_n 1, 1) := by decide +kernel
theorem dX7_begin_203 : decode cX7_begin 203 = .ok (.iload 4, 2) := by decide +kernel
theorem dX7_begin_205 : decode cX7_begin 205 = .ok (.iadd, 1) := by decide +kernel
theorem dX7_begin_206 : decode cX7_begin 206 = .ok (.ishl, 1) := by decide +kernel
theorem dX7_begin_207 : decode cX7_begin 207 = .ok (.iload_n 3, 1) := by decide +kernel
theorem dX7_begin_208 : decode cX7_begin 208 = .ok (.iconst 3, 1) := by decide +kernel
theorem dX7_begin_209 : decode cX7_begin 209 = .ok (.if_icmp .ne 10, 3) := by decide +kernel
theorem dX7_begin_212 : decode cX7_begin 212 = .ok (.lconst 1, 1) := by decide +kernel
theorem dX7_begin_213 : decode cX7_begin 213 = .ok (.iload 4, 2) := by decide +kernel
theorem dX7_begin_215 : decode cX7_begin 215 = .ok (.lshl, 1) := by decide +kernel
theorem dX7_begin_216 : decode cX7_begin 216 = .ok (.goto 8, 3) := by decide +kernel
theorem dX7_begin_219 : decode cX7_begin 219 = .ok (.lconst 1, 1) := by decide +kernel
theorem dX7_begin_220 : decode cX7_begin 220 = .ok (.iload 4, 2) := by decide +kernel
theorem dX7_begin_222 : decode cX7_begin 222 = .ok (.lshl, 1) := by decide +kernel
theorem dX7_begin_223 : decode cX7_begin 223 = .ok (.lneg, 1) := by decide +kernel
theorem dX7_begin_224 : decode cX7_begin 224 = .ok (.invokevirtual 156, 3) := by decide +kernel
theorem dX7_begin_227 : decode cX7_begin 227 = .ok (.iinc 4 1, 3) := by decide +kernel
theorem dX7_begin_230 : decode cX7_begin 230 = .ok (.goto (-41), 3) := by decide +kernel
theorem dX7_begin_233 : decode cX7_begin 233 = .ok (.aload_n 0, 1) := by decide +kernel
theorem dX7_begin_234 : decode cX7_begin 234 = .ok (.invokevirtual 162, 3) := by decide +kernel
theorem dX7_begin_237 : decode cX7_begin 237 = .ok (.ireturn, 1) := by decide +kernel
set_option maxRecDepth 20000 in
theorem ggX7_puts_X7_adds : GoodIn wsX7_puts wsX7_adds := goodIn_r _ [7, 8, 9, 10, 11, 12, 13, 14, 15, 16, 17, 18, 19, 20, 21, 22, 23, 24, 25, 26] (by decide +kernel) (by decide +kernel)
set_option maxRecDepth 20000 in
theorem gX7_puts_X7_adds : GoodIn wsX7_puts (wsV RX7 156 RX7 yX7_adds wsX7_adds) := goodIn_app (goodIn_of _ (by decide +kernel)) ggX7_puts_X7_adds
theorem dX7_puts_0 : decode cX7_puts 0 = .ok (.iconst 1, 1) := by decide +kernel
theorem dX7_puts_1 : decode cX7_puts 1 = .ok (.aload_n 0, 1) := by decide +kernel
theorem dX7_puts_2 : decode cX7_puts 2 = .ok (.getfield 7, 3) := by decide +kernel
theorem dX7_puts_5 : decode cX7_puts 5 = .ok (.bipush 18, 2) := by decide +kernel
theorem dX7_puts_7 : decode cX7_puts 7 = .ok (.iload_n 1, 1) := by decide +kernel
theorem dX7_puts_8 : decode cX7_puts 8 = .ok (.iadd, 1) := by decide +kernel
theorem dX7_puts_9 : decode cX7_puts 9 = .ok (.iaload, 1) := by decide +kernel
theorem dX7_puts_10 : decode cX7_puts 10 = .ok (.ishl, 1) := by decide +kernel
theorem dX7_puts_11 : decode cX7_puts 11 = .ok (.istore 5, 2) := by decide +kernel
theorem dX7_puts_13 : decode cX7_puts 13 = .ok (.aload_n 0, 1) := by decide +kernel
theorem dX7_puts_14 : decode cX7_puts 14 = .ok (.getfield 7, 3) := by decide +kernel
theorem dX7_puts_17 : decode cX7_puts 17 = .ok (.bipush 6, 2) := by decide +kernel
theorem dX7_puts_19 : decode cX7_puts 19 = .ok (.iload_n 1, 1) := by decide +kernel
theorem dX7_puts_20 : decode cX7_puts 20 = .ok (.iadd, 1) := by decide +kernel
theorem dX7_puts_21 : decode cX7_puts 21 = .ok (.iaload, 1) := by decide +kernel
theorem dX7_puts_22 : decode cX7_puts 22 = .ok (.istore 6, 2) := by decide +kernel
theorem dX7_puts_24 : decode cX7_puts 24 = .ok (.iload 6, 2) := by decide +kernel
theorem dX7_puts_26 : decode cX7_puts 26 = .ok (.ifCond .ne 7, 3) := by decide +kernel
theorem dX7_puts_29 : decode cX7_puts 29 = .ok (.iconst 0, 1) := by decide +kernel
theorem dX7_puts_30 : decode cX7_puts 30 = .ok (.goto 14, 3) := by decide +kernel
theorem dX7_puts_33 : decode cX7_puts 33 = .ok (.iconst 1, 1) := by decide +kernel
theorem dX7_puts_34 : decode cX7_puts 34 = .ok (.aload_n 0, 1) := by decide +kernel
theorem dX7_puts_35 : decode cX7_puts 35 = .ok (.getfield 7, 3) := by decide +kernel
theorem dX7_puts_38 : decode cX7_puts 38 = .ok (.bipush 30, 2) := by decide +kernel
theorem dX7_puts_40 : decode cX7_puts 40 = .ok (.iload_n 1, 1) := by decide +kernel
theorem dX7_puts_41 : decode cX7_puts 41 = .ok (.iadd, 1) := by decide +kernel
theorem dX7_puts_42 : decode cX7_puts 42 = .ok (.iaload, 1) := by decide +kernel
theorem dX7_puts_43 : decode cX7_puts 43 = .ok (.ishl, 1) := by decide +kernel
theorem dX7_puts_44 : decode cX7_puts 44 = .ok (.istore 7, 2) := by decide +kernel
theorem dX7_puts_46 : decode cX7_puts 46 = .ok (.iload 6, 2) := by decide +kernel
theorem dX7_puts_48 : decode cX7_puts 48 = .ok (.ifCond .eq 22, 3) := by decide +kernel
theorem dX7_puts_51 : decode cX7_puts 51 = .ok (.iload 6, 2) := by decide +kernel
theorem dX7_puts_53 : decode cX7_puts 53 = .ok (.iconst 4, 1) := by decide +kernel
theorem dX7_puts_54 : decode cX7_puts 54 = .ok (.if_icmp .eq 16, 3) := by decide +kernel
theorem dX7_puts_57 : decode cX7_puts 57 = .ok (.iload 6, 2) := by decide +kernel
theorem dX7_puts_59 : decode cX7_puts 59 = .ok (.iconst 5, 1) := by decide +kernel
theorem dX7_puts_60 : decode cX7_puts 60 = .ok (.if_icmp .eq 10, 3) := by decide +kernel
theorem dX7_puts_63 : decode cX7_puts 63 = .ok (.iload 6, 2) := by decide +kernel
theorem dX7_puts_65 : decode cX7_puts 65 = .ok (.bipush 6, 2) := by decide +kernel
theorem dX7_puts_67 : decode cX7_puts 67 = .ok (.if_icmp .ne 7, 3) := by decide +kernel
theorem dX7_puts_70 : decode cX7_puts 70 = .ok (.iconst 1, 1) := by decide +kernel
theorem dX7_puts_71 : decode cX7_puts 71 = .ok (.goto 4, 3) := by decide +kernel
theorem dX7_puts_74 : decode cX7_puts 74 = .ok (.iconst 0, 1) := by decide +kernel
theorem dX7_puts_75 : decode cX7_puts 75 = .ok (.istore 8, 2) := by decide +kernel
theorem dX7_puts_77 : decode cX7_puts 77 = .ok (.iload 6, 2) := by decide +kernel
theorem dX7_puts_79 : decode cX7_puts 79 = .ok (.iconst 1, 1) := by decide +kernel
theorem dX7_puts_80 : decode cX7_puts 80 = .ok (.if_icmp .eq 13, 3) := by decide +kernel
theorem dX7_puts_83 : decode cX7_puts 83 = .ok (.iload 6, 2) := by decide +kernel
theorem dX7_puts_85 : decode cX7_puts 85 = .ok (.iconst 4, 1) := by decide +kernel
theorem dX7_puts_86 : decode cX7_puts 86 = .ok (.if_icmp .eq 7, 3) := by decide +kernel
