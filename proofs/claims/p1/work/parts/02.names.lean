theorem dX0_init_0 : decode cX0_init 0 = .ok (.aload_n 0, 1) := by decide +kernel
theorem dX0_init_1 : decode cX0_init 1 = .ok (.invokespecial 3, 3) := by decide +kernel
theorem dX0_init_4 : decode cX0_init 4 = .ok (.aload_n 0, 1) := by decide +kernel
theorem dX0_init_5 : decode cX0_init 5 = .ok (.bipush 12, 2) := by decide +kernel
theorem dX0_init_7 : decode cX0_init 7 = .ok (.newarray .int, 2) := by decide +kernel
theorem dX0_init_9 : decode cX0_init 9 = .ok (.putfield 9, 3) := by decide +kernel
theorem dX0_init_12 : decode cX0_init 12 = .ok (.aload_n 0, 1) := by decide +kernel
theorem dX0_init_13 : decode cX0_init 13 = .ok (.bipush 12, 2) := by decide +kernel
theorem dX0_init_15 : decode cX0_init 15 = .ok (.newarray .int, 2) := by decide +kernel
theorem dX0_init_17 : decode cX0_init 17 = .ok (.putfield 15, 3) := by decide +kernel
theorem dX0_init_20 : decode cX0_init 20 = .ok (.aload_n 0, 1) := by decide +kernel
theorem dX0_init_21 : decode cX0_init 21 = .ok (.bipush 12, 2) := by decide +kernel
theorem dX0_init_23 : decode cX0_init 23 = .ok (.newarray .int, 2) := by decide +kernel
theorem dX0_init_25 : decode cX0_init 25 = .ok (.putfield 18, 3) := by decide +kernel
theorem dX0_init_28 : decode cX0_init 28 = .ok (.aload_n 0, 1) := by decide +kernel
theorem dX0_init_29 : decode cX0_init 29 = .ok (.bipush 7, 2) := by decide +kernel
theorem dX0_init_31 : decode cX0_init 31 = .ok (.newarray .int, 2) := by decide +kernel
theorem dX0_init_33 : decode cX0_init 33 = .ok (.putfield 21, 3) := by decide +kernel
theorem dX0_init_36 : decode cX0_init 36 = .ok (.return_, 1) := by decide +kernel
theorem dX0_begin_0 : decode cX0_begin 0 = .ok (.aload_n 0, 1) := by decide +kernel
theorem dX0_begin_1 : decode cX0_begin 1 = .ok (.iconst 0, 1) := by decide +kernel
theorem dX0_begin_2 : decode cX0_begin 2 = .ok (.putfield 24, 3) := by decide +kernel
theorem dX0_begin_5 : decode cX0_begin 5 = .ok (.aload_n 0, 1) := by decide +kernel
theorem dX0_begin_6 : decode cX0_begin 6 = .ok (.iload_n 1, 1) := by decide +kernel
theorem dX0_begin_7 : decode cX0_begin 7 = .ok (.putfield 28, 3) := by decide +kernel
theorem dX0_begin_10 : decode cX0_begin 10 = .ok (.aload_n 0, 1) := by decide +kernel
theorem dX0_begin_11 : decode cX0_begin 11 = .ok (.iconst 0, 1) := by decide +kernel
theorem dX0_begin_12 : decode cX0_begin 12 = .ok (.putfield 32, 3) := by decide +kernel
theorem dX0_begin_15 : decode cX0_begin 15 = .ok (.aload_n 0, 1) := by decide +kernel
theorem dX0_begin_16 : decode cX0_begin 16 = .ok (.iconst 0, 1) := by decide +kernel
theorem dX0_begin_17 : decode cX0_begin 17 = .ok (.putfield 35, 3) := by decide +kernel
theorem dX0_begin_20 : decode cX0_begin 20 = .ok (.return_, 1) := by decide +kernel
set_option maxRecDepth 20000 in
theorem ggX0_addGate_X6_put : GoodIn wsX0_addGate wsX6_put := goodIn_r _ [7] (by decide +kernel) (by decide +kernel)
set_option maxRecDepth 20000 in
theorem gX0_addGate_X6_put_n38 : GoodIn wsX0_addGate (wsX6_put) := ggX0_addGate_X6_put
set_option maxRecDepth 20000 in
theorem ggX0_addGate_X0_signals : GoodIn wsX0_addGate wsX0_signals := goodIn_r _ [12, 13, 1, 14, 15, 16, 17, 18, 19, 20, 21, 22, 23, 24] (by decide +kernel) (by decide +kernel)
set_option maxRecDepth 20000 in
theorem gX0_addGate_X0_signals : GoodIn wsX0_addGate (wsV RX0 42 RX0 yX0_signals wsX0_signals) := goodIn_app (goodIn_of _ (by decide +kernel)) ggX0_addGate_X0_signals
theorem dX0_addGate_0 : decode cX0_addGate 0 = .ok (.aload_n 0, 1) := by decide +kernel
theorem dX0_addGate_1 : decode cX0_addGate 1 = .ok (.getfield 32, 3) := by decide +kernel
theorem dX0_addGate_4 : decode cX0_addGate 4 = .ok (.bipush 12, 2) := by decide +kernel
theorem dX0_addGate_6 : decode cX0_addGate 6 = .ok (.if_icmp .lt 5, 3) := by decide +kernel
theorem dX0_addGate_9 : decode cX0_addGate 9 = .ok (.iconst (-1), 1) := by decide +kernel
theorem dX0_addGate_10 : decode cX0_addGate 10 = .ok (.ireturn, 1) := by decide +kernel
theorem dX0_addGate_11 : decode cX0_addGate 11 = .ok (.aload_n 0, 1) := by decide +kernel
theorem dX0_addGate_12 : decode cX0_addGate 12 = .ok (.getfield 9, 3) := by decide +kernel
theorem dX0_addGate_15 : decode cX0_addGate 15 = .ok (.aload_n 0, 1) := by decide +kernel
theorem dX0_addGate_16 : decode cX0_addGate 16 = .ok (.getfield 32, 3) := by decide +kernel
theorem dX0_addGate_19 : decode cX0_addGate 19 = .ok (.iload_n 1, 1) := by decide +kernel
theorem dX0_addGate_20 : decode cX0_addGate 20 = .ok (.invokestatic 38, 3) := by decide +kernel
theorem dX0_addGate_23 : decode cX0_addGate 23 = .ok (.aload_n 0, 1) := by decide +kernel
theorem dX0_addGate_24 : decode cX0_addGate 24 = .ok (.getfield 15, 3) := by decide +kernel
theorem dX0_addGate_27 : decode cX0_addGate 27 = .ok (.aload_n 0, 1) := by decide +kernel
theorem dX0_addGate_28 : decode cX0_addGate 28 = .ok (.getfield 32, 3) := by decide +kernel
theorem dX0_addGate_31 : decode cX0_addGate 31 = .ok (.iload_n 2, 1) := by decide +kernel
theorem dX0_addGate_32 : decode cX0_addGate 32 = .ok (.invokestatic 38, 3) := by decide +kernel
theorem dX0_addGate_35 : decode cX0_addGate 35 = .ok (.aload_n 0, 1) := by decide +kernel
theorem dX0_addGate_36 : decode cX0_addGate 36 = .ok (.getfield 18, 3) := by decide +kernel
theorem dX0_addGate_39 : decode cX0_addGate 39 = .ok (.aload_n 0, 1) := by decide +kernel
theorem dX0_addGate_40 : decode cX0_addGate 40 = .ok (.getfield 32, 3) := by decide +kernel
theorem dX0_addGate_43 : decode cX0_addGate 43 = .ok (.iload_n 3, 1) := by decide +kernel
theorem dX0_addGate_44 : decode cX0_addGate 44 = .ok (.invokestatic 38, 3) := by decide +kernel
theorem dX0_addGate_47 : decode cX0_addGate 47 = .ok (.aload_n 0, 1) := by decide +kernel
theorem dX0_addGate_48 : decode cX0_addGate 48 = .ok (.dup, 1) := by decide +kernel
theorem dX0_addGate_49 : decode cX0_addGate 49 = .ok (.getfield 32, 3) := by decide +kernel
theorem dX0_addGate_52 : decode cX0_addGate 52 = .ok (.iconst 1, 1) := by decide +kernel
theorem dX0_addGate_53 : decode cX0_addGate 53 = .ok (.iadd, 1) := by decide +kernel
theorem dX0_addGate_54 : decode cX0_addGate 54 = .ok (.putfield 32, 3) := by decide +kernel
theorem dX0_addGate_57 : decode cX0_addGate 57 = .ok (.aload_n 0, 1) := by decide +kernel
theorem dX0_addGate_58 : decode cX0_addGate 58 = .ok (.invokevirtual 42, 3) := by decide +kernel
theorem dX0_addGate_61 : decode cX0_addGate 61 = .ok (.iconst 1, 1) := by decide +kernel
theorem dX0_addGate_62 : decode cX0_addGate 62 = .ok (.isub, 1) := by decide +kernel
theorem dX0_addGate_63 : decode cX0_addGate 63 = .ok (.ireturn, 1) := by decide +kernel
set_option maxRecDepth 20000 in
theorem ggX0_addOutput_X6_put : GoodIn wsX0_addOutput wsX6_put := goodIn_r _ [5] (by decide +kernel) (by decide +kernel)
set_option maxRecDepth 20000 in
theorem gX0_addOutput_X6_put_n38 : GoodIn wsX0_addOutput (wsX6_put) := ggX0_addOutput_X6_put
theorem dX0_addOutput_0 : decode cX0_addOutput 0 = .ok (.aload_n 0, 1) := by decide +kernel
theorem dX0_addOutput_1 : decode cX0_addOutput 1 = .ok (.getfield 35, 3) := by decide +kernel
theorem dX0_addOutput_4 : decode cX0_addOutput 4 = .ok (.bipush 7, 2) := by decide +kernel
theorem dX0_addOutput_6 : decode cX0_addOutput 6 = .ok (.if_icmp .ge 25, 3) := by decide +kernel
theorem dX0_addOutput_9 : decode cX0_addOutput 9 = .ok (.aload_n 0, 1) := by decide +kernel
theorem dX0_addOutput_10 : decode cX0_addOutput 10 = .ok (.getfield 21, 3) := by decide +kernel
theorem dX0_addOutput_13 : decode cX0_addOutput 13 = .ok (.aload_n 0, 1) := by decide +kernel
theorem dX0_addOutput_14 : decode cX0_addOutput 14 = .ok (.getfield 35, 3) := by decide +kernel
theorem dX0_addOutput_17 : decode cX0_addOutput 17 = .ok (.iload_n 1, 1) := by decide +kernel
theorem dX0_addOutput_18 : decode cX0_addOutput 18 = .ok (.invokestatic 38, 3) := by decide +kernel
theorem dX0_addOutput_21 : decode cX0_addOutput 21 = .ok (.aload_n 0, 1) := by decide +kernel
theorem dX0_addOutput_22 : decode cX0_addOutput 22 = .ok (.dup, 1) := by decide +kernel
theorem dX0_addOutput_23 : decode cX0_addOutput 23 = .ok (.getfield 35, 3) := by decide +kernel
theorem dX0_addOutput_26 : decode cX0_addOutput 26 = .ok (.iconst 1, 1) := by decide +kernel
theorem dX0_addOutput_27 : decode cX0_addOutput 27 = .ok (.iadd, 1) := by decide +kernel
theorem dX0_addOutput_28 : decode cX0_addOutput 28 = .ok (.putfield 35, 3) := by decide +kernel
theorem dX0_addOutput_31 : decode cX0_addOutput 31 = .ok (.return_, 1) := by decide +kernel
theorem dX0_end_0 : decode cX0_end 0 = .ok (.aload_n 0, 1) := by decide +kernel
theorem dX0_end_1 : decode cX0_end 1 = .ok (.iload_n 1, 1) := by decide +kernel
theorem dX0_end_2 : decode cX0_end 2 = .ok (.putfield 46, 3) := by decide +kernel
theorem dX0_end_5 : decode cX0_end 5 = .ok (.aload_n 0, 1) := by decide +kernel
theorem dX0_end_6 : decode cX0_end 6 = .ok (.iload_n 2, 1) := by decide +kernel
theorem dX0_end_7 : decode cX0_end 7 = .ok (.putfield 49, 3) := by decide +kernel
theorem dX0_end_10 : decode cX0_end 10 = .ok (.aload_n 0, 1) := by decide +kernel
theorem dX0_end_11 : decode cX0_end 11 = .ok (.iload_n 3, 1) := by decide +kernel
theorem dX0_end_12 : decode cX0_end 12 = .ok (.putfield 52, 3) := by decide +kernel
theorem dX0_end_15 : decode cX0_end 15 = .ok (.aload_n 0, 1) := by decide +kernel
theorem dX0_end_16 : decode cX0_end 16 = .ok (.iconst 1, 1) := by decide +kernel
theorem dX0_end_17 : decode cX0_end 17 = .ok (.putfield 24, 3) := by decide +kernel
theorem dX0_end_20 : decode cX0_end 20 = .ok (.return_, 1) := by decide +kernel
set_option maxRecDepth 20000 in
theorem ggX0_become_X0_begin : GoodIn wsX0_become wsX0_begin := goodIn_r _ [11, 12, 1, 2, 3, 54, 55, 56, 57, 58, 59, 60, 61, 62, 63, 64] (by decide +kernel) (by decide +kernel)
set_option maxRecDepth 20000 in
theorem gX0_become_X0_begin : GoodIn wsX0_become (wsV RX0 55 RX0 yX0_begin wsX0_begin) := goodIn_app (goodIn_of _ (by decide +kernel)) ggX0_become_X0_begin
set_option maxRecDepth 20000 in
theorem ggX0_become_X0_kindOf : GoodIn wsX0_become wsX0_kindOf := goodIn_r _ [16, 17, 18, 19, 20, 54, 55, 56, 57, 58, 59, 60, 61, 62, 63, 64] (by decide +kernel) (by decide +kernel)
set_option maxRecDepth 20000 in
theorem gX0_become_X0_kindOf : GoodIn wsX0_become (wsV RX0 59 RX0 yX0_kindOf wsX0_kindOf) := goodIn_app (goodIn_of _ (by decide +kernel)) ggX0_become_X0_kindOf
set_option maxRecDepth 20000 in
theorem ggX0_become_X0_xOf : GoodIn wsX0_become wsX0_xOf := goodIn_r _ [24, 25, 18, 19, 20, 54, 55, 56, 57, 58, 59, 60, 61, 62, 63, 64] (by decide +kernel) (by decide +kernel)
set_option maxRecDepth 20000 in
theorem gX0_become_X0_xOf : GoodIn wsX0_become (wsV RX0 63 RX0 yX0_xOf wsX0_xOf) := goodIn_app (goodIn_of _ (by decide +kernel)) ggX0_become_X0_xOf
set_option maxRecDepth 20000 in
theorem ggX0_become_X0_yOf : GoodIn wsX0_become wsX0_yOf := goodIn_r _ [29, 30, 18, 19, 20, 54, 55, 56, 57, 58, 59, 60, 61, 62, 63, 64] (by decide +kernel) (by decide +kernel)
set_option maxRecDepth 20000 in
theorem gX0_become_X0_yOf : GoodIn wsX0_become (wsV RX0 66 RX0 yX0_yOf wsX0_yOf) := goodIn_app (goodIn_of _ (by decide +kernel)) ggX0_become_X0_yOf
set_option maxRecDepth 20000 in
theorem ggX0_become_X0_addGate : GoodIn wsX0_become wsX0_addGate := goodIn_r _ [34, 2, 17, 25, 30, 35, 19, 36, 37, 38, 39, 10, 40, 1, 54, 55, 56, 57, 58, 59, 60, 61, 62, 63, 64] (by decide +kernel) (by decide +kernel)
set_option maxRecDepth 20000 in
theorem gX0_become_X0_addGate : GoodIn wsX0_become (wsV RX0 69 RX0 yX0_addGate wsX0_addGate) := goodIn_app (goodIn_of _ (by decide +kernel)) ggX0_become_X0_addGate
set_option maxRecDepth 20000 in
theorem ggX0_become_X0_outputAt : GoodIn wsX0_become wsX0_outputAt := goodIn_r _ [44, 45, 18, 19, 20, 54, 55, 56, 57, 58, 59, 60, 61, 62, 63, 64] (by decide +kernel) (by decide +kernel)
set_option maxRecDepth 20000 in
theorem gX0_become_X0_outputAt : GoodIn wsX0_become (wsV RX0 73 RX0 yX0_outputAt wsX0_outputAt) := goodIn_app (goodIn_of _ (by decide +kernel)) ggX0_become_X0_outputAt
set_option maxRecDepth 20000 in
theorem ggX0_become_X0_addOutput : GoodIn wsX0_become wsX0_addOutput := goodIn_r _ [49, 3, 45, 35, 19, 36, 54, 55, 56, 57, 58, 59, 60, 61, 62, 63, 64] (by decide +kernel) (by decide +kernel)
set_option maxRecDepth 20000 in
theorem gX0_become_X0_addOutput : GoodIn wsX0_become (wsV RX0 76 RX0 yX0_addOutput wsX0_addOutput) := goodIn_app (goodIn_of _ (by decide +kernel)) ggX0_become_X0_addOutput
set_option maxRecDepth 20000 in
theorem ggX0_become_X0_end : GoodIn wsX0_become wsX0_end := goodIn_r _ [53, 4, 5, 6, 12, 54, 55, 56, 57, 58, 59, 60, 61, 62, 63, 64] (by decide +kernel) (by decide +kernel)
set_option maxRecDepth 20000 in
theorem gX0_become_X0_end : GoodIn wsX0_become (wsV RX0 79 RX0 yX0_end wsX0_end) := goodIn_app (goodIn_of _ (by decide +kernel)) ggX0_become_X0_end
theorem dX0_become_0 : decode cX0_become 0 = .ok (.aload_n 0, 1) := by decide +kernel
theorem dX0_become_1 : decode cX0_become 1 = .ok (.aload_n 1, 1) := by decide +kernel
theorem dX0_become_2 : decode cX0_become 2 = .ok (.getfield 28, 3) := by decide +kernel
theorem dX0_become_5 : decode cX0_become 5 = .ok (.invokevirtual 55, 3) := by decide +kernel
theorem dX0_become_8 : decode cX0_become 8 = .ok (.iconst 0, 1) := by decide +kernel
theorem dX0_become_9 : decode cX0_become 9 = .ok (.istore_n 2, 1) := by decide +kernel
theorem dX0_become_10 : decode cX0_become 10 = .ok (.iload_n 2, 1) := by decide +kernel
theorem dX0_become_11 : decode cX0_become 11 = .ok (.aload_n 1, 1) := by decide +kernel
theorem dX0_become_12 : decode cX0_become 12 = .ok (.getfield 32, 3) := by decide +kernel
theorem dX0_become_15 : decode cX0_become 15 = .ok (.if_icmp .ge 29, 3) := by decide +kernel
theorem dX0_become_18 : decode cX0_become 18 = .ok (.aload_n 0, 1) := by decide +kernel
theorem dX0_become_19 : decode cX0_become 19 = .ok (.aload_n 1, 1) := by decide +kernel
theorem dX0_become_20 : decode cX0_become 20 = .ok (.iload_n 2, 1) := by decide +kernel
theorem dX0_become_21 : decode cX0_become 21 = .ok (.invokevirtual 59, 3) := by decide +kernel
theorem dX0_become_24 : decode cX0_become 24 = .ok (.aload_n 1, 1) := by decide +kernel
theorem dX0_become_25 : decode cX0_become 25 = .ok (.iload_n 2, 1) := by decide +kernel
theorem dX0_become_26 : decode cX0_become 26 = .ok (.invokevirtual 63, 3) := by decide +kernel
theorem dX0_become_29 : decode cX0_become 29 = .ok (.aload_n 1, 1) := by decide +kernel
theorem dX0_become_30 : decode cX0_become 30 = .ok (.iload_n 2, 1) := by decide +kernel
theorem dX0_become_31 : decode cX0_become 31 = .ok (.invokevirtual 66, 3) := by decide +kernel
theorem dX0_become_34 : decode cX0_become 34 = .ok (.invokevirtual 69, 3) := by decide +kernel
theorem dX0_become_37 : decode cX0_become 37 = .ok (.pop, 1) := by decide +kernel
theorem dX0_become_38 : decode cX0_become 38 = .ok (.iinc 2 1, 3) := by decide +kernel
theorem dX0_become_41 : decode cX0_become 41 = .ok (.goto (-31), 3) := by decide +kernel
theorem dX0_become_44 : decode cX0_become 44 = .ok (.iconst 0, 1) := by decide +kernel
theorem dX0_become_45 : decode cX0_become 45 = .ok (.istore_n 2, 1) := by decide +kernel
theorem dX0_become_46 : decode cX0_become 46 = .ok (.iload_n 2, 1) := by decide +kernel
theorem dX0_become_47 : decode cX0_become 47 = .ok (.aload_n 1, 1) := by decide +kernel
theorem dX0_become_48 : decode cX0_become 48 = .ok (.getfield 35, 3) := by decide +kernel
theorem dX0_become_51 : decode cX0_become 51 = .ok (.if_icmp .ge 18, 3) := by decide +kernel
theorem dX0_become_54 : decode cX0_become 54 = .ok (.aload_n 0, 1) := by decide +kernel
theorem dX0_become_55 : decode cX0_become 55 = .ok (.aload_n 1, 1) := by decide +kernel
theorem dX0_become_56 : decode cX0_become 56 = .ok (.iload_n 2, 1) := by decide +kernel
theorem dX0_become_57 : decode cX0_become 57 = .ok (.invokevirtual 73, 3) := by decide +kernel
theorem dX0_become_60 : decode cX0_become 60 = .ok (.invokevirtual 76, 3) := by decide +kernel
theorem dX0_become_63 : decode cX0_become 63 = .ok (.iinc 2 1, 3) := by decide +kernel
theorem dX0_become_66 : decode cX0_become 66 = .ok (.goto (-20), 3) := by decide +kernel
theorem dX0_become_69 : decode cX0_become 69 = .ok (.aload_n 0, 1) := by decide +kernel
theorem dX0_become_70 : decode cX0_become 70 = .ok (.aload_n 1, 1) := by decide +kernel
theorem dX0_become_71 : decode cX0_become 71 = .ok (.getfield 46, 3) := by decide +kernel
theorem dX0_become_74 : decode cX0_become 74 = .ok (.aload_n 1, 1) := by decide +kernel
theorem dX0_become_75 : decode cX0_become 75 = .ok (.getfield 49, 3) := by decide +kernel
theorem dX0_become_78 : decode cX0_become 78 = .ok (.aload_n 1, 1) := by decide +kernel
theorem dX0_become_79 : decode cX0_become 79 = .ok (.getfield 52, 3) := by decide +kernel
theorem dX0_become_82 : decode cX0_become 82 = .ok (.invokevirtual 79, 3) := by decide +kernel
theorem dX0_become_85 : decode cX0_become 85 = .ok (.return_, 1) := by decide +kernel
theorem dX0_signals_0 : decode cX0_signals 0 = .ok (.aload_n 0, 1) := by decide +kernel
theorem dX0_signals_1 : decode cX0_signals 1 = .ok (.getfield 28, 3) := by decide +kernel
theorem dX0_signals_4 : decode cX0_signals 4 = .ok (.aload_n 0, 1) := by decide +kernel
theorem dX0_signals_5 : decode cX0_signals 5 = .ok (.getfield 32, 3) := by decide +kernel
theorem dX0_signals_8 : decode cX0_signals 8 = .ok (.iadd, 1) := by decide +kernel
theorem dX0_signals_9 : decode cX0_signals 9 = .ok (.ireturn, 1) := by decide +kernel
set_option maxRecDepth 20000 in
theorem ggX0_kindOf_X6_at : GoodIn wsX0_kindOf wsX6_at := goodIn_r _ [4] (by decide +kernel) (by decide +kernel)
set_option maxRecDepth 20000 in
theorem gX0_kindOf_X6_at_n83 : GoodIn wsX0_kindOf (wsX6_at) := ggX0_kindOf_X6_at
theorem dX0_kindOf_0 : decode cX0_kindOf 0 = .ok (.aload_n 0, 1) := by decide +kernel
theorem dX0_kindOf_1 : decode cX0_kindOf 1 = .ok (.getfield 9, 3) := by decide +kernel
theorem dX0_kindOf_4 : decode cX0_kindOf 4 = .ok (.iload_n 1, 1) := by decide +kernel
theorem dX0_kindOf_5 : decode cX0_kindOf 5 = .ok (.invokestatic 83, 3) := by decide +kernel
theorem dX0_kindOf_8 : decode cX0_kindOf 8 = .ok (.ireturn, 1) := by decide +kernel
set_option maxRecDepth 20000 in
theorem ggX0_xOf_X6_at : GoodIn wsX0_xOf wsX6_at := goodIn_r _ [4] (by decide +kernel) (by decide +kernel)
set_option maxRecDepth 20000 in
theorem gX0_xOf_X6_at_n83 : GoodIn wsX0_xOf (wsX6_at) := ggX0_xOf_X6_at
theorem dX0_xOf_0 : decode cX0_xOf 0 = .ok (.aload_n 0, 1) := by decide +kernel
theorem dX0_xOf_1 : decode cX0_xOf 1 = .ok (.getfield 15, 3) := by decide +kernel
theorem dX0_xOf_4 : decode cX0_xOf 4 = .ok (.iload_n 1, 1) := by decide +kernel
theorem dX0_xOf_5 : decode cX0_xOf 5 = .ok (.invokestatic 83, 3) := by decide +kernel
theorem dX0_xOf_8 : decode cX0_xOf 8 = .ok (.ireturn, 1) := by decide +kernel
set_option maxRecDepth 20000 in
theorem ggX0_yOf_X6_at : GoodIn wsX0_yOf wsX6_at := goodIn_r _ [4] (by decide +kernel) (by decide +kernel)
set_option maxRecDepth 20000 in
theorem gX0_yOf_X6_at_n83 : GoodIn wsX0_yOf (wsX6_at) := ggX0_yOf_X6_at
theorem dX0_yOf_0 : decode cX0_yOf 0 = .ok (.aload_n 0, 1) := by decide +kernel
theorem dX0_yOf_1 : decode cX0_yOf 1 = .ok (.getfield 18, 3) := by decide +kernel
theorem dX0_yOf_4 : decode cX0_yOf 4 = .ok (.iload_n 1, 1) := by decide +kernel
theorem dX0_yOf_5 : decode cX0_yOf 5 = .ok (.invokestatic 83, 3) := by decide +kernel
theorem dX0_yOf_8 : decode cX0_yOf 8 = .ok (.ireturn, 1) := by decide +kernel
set_option maxRecDepth 20000 in
theorem ggX0_outputAt_X6_at : GoodIn wsX0_outputAt wsX6_at := goodIn_r _ [4] (by decide +kernel) (by decide +kernel)
set_option maxRecDepth 20000 in
theorem gX0_outputAt_X6_at_n83 : GoodIn wsX0_outputAt (wsX6_at) := ggX0_outputAt_X6_at
theorem dX0_outputAt_0 : decode cX0_outputAt 0 = .ok (.aload_n 0, 1) := by decide +kernel
theorem dX0_outputAt_1 : decode cX0_outputAt 1 = .ok (.getfield 21, 3) := by decide +kernel
theorem dX0_outputAt_4 : decode cX0_outputAt 4 = .ok (.iload_n 1, 1) := by decide +kernel
theorem dX0_outputAt_5 : decode cX0_outputAt 5 = .ok (.invokestatic 83, 3) := by decide +kernel
theorem dX0_outputAt_8 : decode cX0_outputAt 8 = .ok (.ireturn, 1) := by decide +kernel
set_option maxRecDepth 20000 in
theorem ggX0_mayPut_X0_kindOf : GoodIn wsX0_mayPut wsX0_kindOf := goodIn_r _ [6, 7, 8, 9, 10, 11, 12, 13, 14, 15, 16, 17, 18, 19, 20, 21] (by decide +kernel) (by decide +kernel)
set_option maxRecDepth 20000 in
theorem gX0_mayPut_X0_kindOf : GoodIn wsX0_mayPut (wsV RX0 59 RX0 yX0_kindOf wsX0_kindOf) := goodIn_app (goodIn_of _ (by decide +kernel)) ggX0_mayPut_X0_kindOf
theorem dX0_mayPut_0 : decode cX0_mayPut 0 = .ok (.iload_n 2, 1) := by decide +kernel
theorem dX0_mayPut_1 : decode cX0_mayPut 1 = .ok (.ifCond .lt 9, 3) := by decide +kernel
theorem dX0_mayPut_4 : decode cX0_mayPut 4 = .ok (.iload_n 2, 1) := by decide +kernel
theorem dX0_mayPut_5 : decode cX0_mayPut 5 = .ok (.bipush 8, 2) := by decide +kernel
theorem dX0_mayPut_7 : decode cX0_mayPut 7 = .ok (.if_icmp .lt 5, 3) := by decide +kernel
theorem dX0_mayPut_10 : decode cX0_mayPut 10 = .ok (.iconst 0, 1) := by decide +kernel
theorem dX0_mayPut_11 : decode cX0_mayPut 11 = .ok (.ireturn, 1) := by decide +kernel
theorem dX0_mayPut_12 : decode cX0_mayPut 12 = .ok (.aload_n 0, 1) := by decide +kernel
theorem dX0_mayPut_13 : decode cX0_mayPut 13 = .ok (.getfield 24, 3) := by decide +kernel
theorem dX0_mayPut_16 : decode cX0_mayPut 16 = .ok (.ifCond .eq 28, 3) := by decide +kernel
theorem dX0_mayPut_19 : decode cX0_mayPut 19 = .ok (.iload_n 2, 1) := by decide +kernel
theorem dX0_mayPut_20 : decode cX0_mayPut 20 = .ok (.ifCond .ne 7, 3) := by decide +kernel
theorem dX0_mayPut_23 : decode cX0_mayPut 23 = .ok (.iconst 1, 1) := by decide +kernel
theorem dX0_mayPut_24 : decode cX0_mayPut 24 = .ok (.goto 4, 3) := by decide +kernel
theorem dX0_mayPut_27 : decode cX0_mayPut 27 = .ok (.iconst 0, 1) := by decide +kernel
theorem dX0_mayPut_28 : decode cX0_mayPut 28 = .ok (.aload_n 0, 1) := by decide +kernel
theorem dX0_mayPut_29 : decode cX0_mayPut 29 = .ok (.iload_n 1, 1) := by decide +kernel
theorem dX0_mayPut_30 : decode cX0_mayPut 30 = .ok (.invokevirtual 59, 3) := by decide +kernel
theorem dX0_mayPut_33 : decode cX0_mayPut 33 = .ok (.ifCond .ne 7, 3) := by decide +kernel
theorem dX0_mayPut_36 : decode cX0_mayPut 36 = .ok (.iconst 1, 1) := by decide +kernel
theorem dX0_mayPut_37 : decode cX0_mayPut 37 = .ok (.goto 4, 3) := by decide +kernel
theorem dX0_mayPut_40 : decode cX0_mayPut 40 = .ok (.iconst 0, 1) := by decide +kernel
theorem dX0_mayPut_41 : decode cX0_mayPut 41 = .ok (.if_icmp .ne 7, 3) := by decide +kernel
theorem dX0_mayPut_44 : decode cX0_mayPut 44 = .ok (.iconst 1, 1) := by decide +kernel
theorem dX0_mayPut_45 : decode cX0_mayPut 45 = .ok (.goto 4, 3) := by decide +kernel
theorem dX0_mayPut_48 : decode cX0_mayPut 48 = .ok (.iconst 0, 1) := by decide +kernel
theorem dX0_mayPut_49 : decode cX0_mayPut 49 = .ok (.ireturn, 1) := by decide +kernel
set_option maxRecDepth 20000 in
theorem ggX0_usesOf_X0_xOf : GoodIn wsX0_usesOf wsX0_xOf := goodIn_r _ [7, 8, 9, 10, 11, 22, 23, 24, 25, 26, 27, 28, 29, 30, 31, 32] (by decide +kernel) (by decide +kernel)
set_option maxRecDepth 20000 in
theorem gX0_usesOf_X0_xOf : GoodIn wsX0_usesOf (wsV RX0 63 RX0 yX0_xOf wsX0_xOf) := goodIn_app (goodIn_of _ (by decide +kernel)) ggX0_usesOf_X0_xOf
set_option maxRecDepth 20000 in
theorem ggX0_usesOf_X0_yOf : GoodIn wsX0_usesOf wsX0_yOf := goodIn_r _ [15, 16, 9, 10, 11, 22, 23, 24, 25, 26, 27, 28, 29, 30, 31, 32] (by decide +kernel) (by decide +kernel)
set_option maxRecDepth 20000 in
theorem gX0_usesOf_X0_yOf : GoodIn wsX0_usesOf (wsV RX0 66 RX0 yX0_yOf wsX0_yOf) := goodIn_app (goodIn_of _ (by decide +kernel)) ggX0_usesOf_X0_yOf
set_option maxRecDepth 20000 in
theorem ggX0_usesOf_X0_outputAt : GoodIn wsX0_usesOf wsX0_outputAt := goodIn_r _ [20, 21, 9, 10, 11, 22, 23, 24, 25, 26, 27, 28, 29, 30, 31, 32] (by decide +kernel) (by decide +kernel)
set_option maxRecDepth 20000 in
theorem gX0_usesOf_X0_outputAt : GoodIn wsX0_usesOf (wsV RX0 73 RX0 yX0_outputAt wsX0_outputAt) := goodIn_app (goodIn_of _ (by decide +kernel)) ggX0_usesOf_X0_outputAt
theorem dX0_usesOf_0 : decode cX0_usesOf 0 = .ok (.iconst 0, 1) := by decide +kernel
theorem dX0_usesOf_1 : decode cX0_usesOf 1 = .ok (.istore_n 2, 1) := by decide +kernel
theorem dX0_usesOf_2 : decode cX0_usesOf 2 = .ok (.iconst 0, 1) := by decide +kernel
theorem dX0_usesOf_3 : decode cX0_usesOf 3 = .ok (.istore_n 3, 1) := by decide +kernel
theorem dX0_usesOf_4 : decode cX0_usesOf 4 = .ok (.iload_n 3, 1) := by decide +kernel
theorem dX0_usesOf_5 : decode cX0_usesOf 5 = .ok (.aload_n 0, 1) := by decide +kernel
theorem dX0_usesOf_6 : decode cX0_usesOf 6 = .ok (.getfield 32, 3) := by decide +kernel
theorem dX0_usesOf_9 : decode cX0_usesOf 9 = .ok (.if_icmp .ge 35, 3) := by decide +kernel
theorem dX0_usesOf_12 : decode cX0_usesOf 12 = .ok (.iload_n 2, 1) := by decide +kernel
theorem dX0_usesOf_13 : decode cX0_usesOf 13 = .ok (.aload_n 0, 1) := by decide +kernel
theorem dX0_usesOf_14 : decode cX0_usesOf 14 = .ok (.iload_n 3, 1) := by decide +kernel
theorem dX0_usesOf_15 : decode cX0_usesOf 15 = .ok (.invokevirtual 63, 3) := by decide +kernel
theorem dX0_usesOf_18 : decode cX0_usesOf 18 = .ok (.iload_n 1, 1) := by decide +kernel
theorem dX0_usesOf_19 : decode cX0_usesOf 19 = .ok (.if_icmp .eq 12, 3) := by decide +kernel
theorem dX0_usesOf_22 : decode cX0_usesOf 22 = .ok (.aload_n 0, 1) := by decide +kernel
theorem dX0_usesOf_23 : decode cX0_usesOf 23 = .ok (.iload_n 3, 1) := by decide +kernel
theorem dX0_usesOf_24 : decode cX0_usesOf 24 = .ok (.invokevirtual 66, 3) := by decide +kernel
theorem dX0_usesOf_27 : decode cX0_usesOf 27 = .ok (.iload_n 1, 1) := by decide +kernel
theorem dX0_usesOf_28 : decode cX0_usesOf 28 = .ok (.if_icmp .ne 7, 3) := by decide +kernel
theorem dX0_usesOf_31 : decode cX0_usesOf 31 = .ok (.iconst 1, 1) := by decide +kernel
theorem dX0_usesOf_32 : decode cX0_usesOf 32 = .ok (.goto 4, 3) := by decide +kernel
theorem dX0_usesOf_35 : decode cX0_usesOf 35 = .ok (.iconst 0, 1) := by decide +kernel
theorem dX0_usesOf_36 : decode cX0_usesOf 36 = .ok (.iadd, 1) := by decide +kernel
theorem dX0_usesOf_37 : decode cX0_usesOf 37 = .ok (.istore_n 2, 1) := by decide +kernel
theorem dX0_usesOf_38 : decode cX0_usesOf 38 = .ok (.iinc 3 1, 3) := by decide +kernel
theorem dX0_usesOf_41 : decode cX0_usesOf 41 = .ok (.goto (-37), 3) := by decide +kernel
theorem dX0_usesOf_44 : decode cX0_usesOf 44 = .ok (.iconst 0, 1) := by decide +kernel
theorem dX0_usesOf_45 : decode cX0_usesOf 45 = .ok (.istore_n 3, 1) := by decide +kernel
theorem dX0_usesOf_46 : decode cX0_usesOf 46 = .ok (.iload_n 3, 1) := by decide +kernel
theorem dX0_usesOf_47 : decode cX0_usesOf 47 = .ok (.aload_n 0, 1) := by decide +kernel
theorem dX0_usesOf_48 : decode cX0_usesOf 48 = .ok (.getfield 35, 3) := by decide +kernel
theorem dX0_usesOf_51 : decode cX0_usesOf 51 = .ok (.if_icmp .ge 26, 3) := by decide +kernel
theorem dX0_usesOf_54 : decode cX0_usesOf 54 = .ok (.iload_n 2, 1) := by decide +kernel
theorem dX0_usesOf_55 : decode cX0_usesOf 55 = .ok (.aload_n 0, 1) := by decide +kernel
theorem dX0_usesOf_56 : decode cX0_usesOf 56 = .ok (.iload_n 3, 1) := by decide +kernel
theorem dX0_usesOf_57 : decode cX0_usesOf 57 = .ok (.invokevirtual 73, 3) := by decide +kernel
theorem dX0_usesOf_60 : decode cX0_usesOf 60 = .ok (.iload_n 1, 1) := by decide +kernel
theorem dX0_usesOf_61 : decode cX0_usesOf 61 = .ok (.if_icmp .ne 7, 3) := by decide +kernel
theorem dX0_usesOf_64 : decode cX0_usesOf 64 = .ok (.iconst 1, 1) := by decide +kernel
theorem dX0_usesOf_65 : decode cX0_usesOf 65 = .ok (.goto 4, 3) := by decide +kernel
theorem dX0_usesOf_68 : decode cX0_usesOf 68 = .ok (.iconst 0, 1) := by decide +kernel
theorem dX0_usesOf_69 : decode cX0_usesOf 69 = .ok (.iadd, 1) := by decide +kernel
theorem dX0_usesOf_70 : decode cX0_usesOf 70 = .ok (.istore_n 2, 1) := by decide +kernel
theorem dX0_usesOf_71 : decode cX0_usesOf 71 = .ok (.iinc 3 1, 3) := by decide +kernel
theorem dX0_usesOf_74 : decode cX0_usesOf 74 = .ok (.goto (-28), 3) := by decide +kernel
theorem dX0_usesOf_77 : decode cX0_usesOf 77 = .ok (.iload_n 2, 1) := by decide +kernel
theorem dX0_usesOf_78 : decode cX0_usesOf 78 = .ok (.ireturn, 1) := by decide +kernel
theorem dX0_taskFor_0 : decode cX0_taskFor 0 = .ok (.iload_n 1, 1) := by decide +kernel
theorem dX0_taskFor_1 : decode cX0_taskFor 1 = .ok (.iconst 1, 1) := by decide +kernel
theorem dX0_taskFor_2 : decode cX0_taskFor 2 = .ok (.aload_n 0, 1) := by decide +kernel
theorem dX0_taskFor_3 : decode cX0_taskFor 3 = .ok (.getfield 49, 3) := by decide +kernel
theorem dX0_taskFor_6 : decode cX0_taskFor 6 = .ok (.ishl, 1) := by decide +kernel
theorem dX0_taskFor_7 : decode cX0_taskFor 7 = .ok (.iconst 1, 1) := by decide +kernel
theorem dX0_taskFor_8 : decode cX0_taskFor 8 = .ok (.isub, 1) := by decide +kernel
theorem dX0_taskFor_9 : decode cX0_taskFor 9 = .ok (.iand, 1) := by decide +kernel
theorem dX0_taskFor_10 : decode cX0_taskFor 10 = .ok (.istore_n 2, 1) := by decide +kernel
theorem dX0_taskFor_11 : decode cX0_taskFor 11 = .ok (.iload_n 1, 1) := by decide +kernel
theorem dX0_taskFor_12 : decode cX0_taskFor 12 = .ok (.aload_n 0, 1) := by decide +kernel
theorem dX0_taskFor_13 : decode cX0_taskFor 13 = .ok (.getfield 49, 3) := by decide +kernel
theorem dX0_taskFor_16 : decode cX0_taskFor 16 = .ok (.ishr, 1) := by decide +kernel
theorem dX0_taskFor_17 : decode cX0_taskFor 17 = .ok (.iconst 1, 1) := by decide +kernel
theorem dX0_taskFor_18 : decode cX0_taskFor 18 = .ok (.aload_n 0, 1) := by decide +kernel
theorem dX0_taskFor_19 : decode cX0_taskFor 19 = .ok (.getfield 52, 3) := by decide +kernel
theorem dX0_taskFor_22 : decode cX0_taskFor 22 = .ok (.ishl, 1) := by decide +kernel
theorem dX0_taskFor_23 : decode cX0_taskFor 23 = .ok (.iconst 1, 1) := by decide +kernel
theorem dX0_taskFor_24 : decode cX0_taskFor 24 = .ok (.isub, 1) := by decide +kernel
theorem dX0_taskFor_25 : decode cX0_taskFor 25 = .ok (.iand, 1) := by decide +kernel
theorem dX0_taskFor_26 : decode cX0_taskFor 26 = .ok (.istore_n 3, 1) := by decide +kernel
theorem dX0_taskFor_27 : decode cX0_taskFor 27 = .ok (.aload_n 0, 1) := by decide +kernel
theorem dX0_taskFor_28 : decode cX0_taskFor 28 = .ok (.getfield 46, 3) := by decide +kernel
theorem dX0_taskFor_31 : decode cX0_taskFor 31 = .ok (.tableswitch 39 0 2 #[25, 29, 33], 25) := by decide +kernel
theorem dX0_taskFor_56 : decode cX0_taskFor 56 = .ok (.iload_n 2, 1) := by decide +kernel
theorem dX0_taskFor_57 : decode cX0_taskFor 57 = .ok (.iload_n 3, 1) := by decide +kernel
theorem dX0_taskFor_58 : decode cX0_taskFor 58 = .ok (.iadd, 1) := by decide +kernel
theorem dX0_taskFor_59 : decode cX0_taskFor 59 = .ok (.ireturn, 1) := by decide +kernel
theorem dX0_taskFor_60 : decode cX0_taskFor 60 = .ok (.iload_n 2, 1) := by decide +kernel
theorem dX0_taskFor_61 : decode cX0_taskFor 61 = .ok (.iload_n 3, 1) := by decide +kernel
theorem dX0_taskFor_62 : decode cX0_taskFor 62 = .ok (.imul, 1) := by decide +kernel
theorem dX0_taskFor_63 : decode cX0_taskFor 63 = .ok (.ireturn, 1) := by decide +kernel
theorem dX0_taskFor_64 : decode cX0_taskFor 64 = .ok (.iload_n 2, 1) := by decide +kernel
theorem dX0_taskFor_65 : decode cX0_taskFor 65 = .ok (.iload_n 2, 1) := by decide +kernel
theorem dX0_taskFor_66 : decode cX0_taskFor 66 = .ok (.imul, 1) := by decide +kernel
theorem dX0_taskFor_67 : decode cX0_taskFor 67 = .ok (.iload_n 3, 1) := by decide +kernel
theorem dX0_taskFor_68 : decode cX0_taskFor 68 = .ok (.iadd, 1) := by decide +kernel
theorem dX0_taskFor_69 : decode cX0_taskFor 69 = .ok (.ireturn, 1) := by decide +kernel
theorem dX0_taskFor_70 : decode cX0_taskFor 70 = .ok (.iconst 3, 1) := by decide +kernel
theorem dX0_taskFor_71 : decode cX0_taskFor 71 = .ok (.iload_n 2, 1) := by decide +kernel
theorem dX0_taskFor_72 : decode cX0_taskFor 72 = .ok (.imul, 1) := by decide +kernel
theorem dX0_taskFor_73 : decode cX0_taskFor 73 = .ok (.iload_n 3, 1) := by decide +kernel
theorem dX0_taskFor_74 : decode cX0_taskFor 74 = .ok (.isub, 1) := by decide +kernel
theorem dX0_taskFor_75 : decode cX0_taskFor 75 = .ok (.ireturn, 1) := by decide +kernel
theorem dX1_init_0 : decode cX1_init 0 = .ok (.aload_n 0, 1) := by decide +kernel
theorem dX1_init_1 : decode cX1_init 1 = .ok (.invokespecial 3, 3) := by decide +kernel
theorem dX1_init_4 : decode cX1_init 4 = .ok (.aload_n 0, 1) := by decide +kernel
theorem dX1_init_5 : decode cX1_init 5 = .ok (.bipush 18, 2) := by decide +kernel
theorem dX1_init_7 : decode cX1_init 7 = .ok (.newarray .long, 2) := by decide +kernel
theorem dX1_init_9 : decode cX1_init 9 = .ok (.putfield 9, 3) := by decide +kernel
theorem dX1_init_12 : decode cX1_init 12 = .ok (.return_, 1) := by decide +kernel
set_option maxRecDepth 20000 in
theorem ggX1_fill_X0_kindOf : GoodIn wsX1_fill wsX0_kindOf := goodIn_r _ [9, 10, 11, 12, 13, 34, 35, 36, 37, 38, 39, 40, 41, 42, 43, 44] (by decide +kernel) (by decide +kernel)
set_option maxRecDepth 20000 in
theorem gX1_fill_X0_kindOf : GoodIn wsX1_fill (wsV RX1 27 RX0 yX0_kindOf wsX0_kindOf) := goodIn_app (goodIn_of _ (by decide +kernel)) ggX1_fill_X0_kindOf
set_option maxRecDepth 20000 in
theorem ggX1_fill_X1_column : GoodIn wsX1_fill wsX1_column := goodIn_r _ [18, 19, 20, 21, 22, 8, 23, 24, 11, 12, 13, 25, 26, 27, 17, 28, 3, 29, 30, 31, 32, 33, 34, 35, 36, 37, 38, 39, 40, 41, 42, 43, 44, 45] (by decide +kernel) (by decide +kernel)
set_option maxRecDepth 20000 in
theorem gX1_fill_X1_column : GoodIn wsX1_fill (wsV RX1 31 RX1 yX1_column wsX1_column) := goodIn_app (goodIn_of _ (by decide +kernel)) ggX1_fill_X1_column
theorem dX1_fill_0 : decode cX1_fill 0 = .ok (.iconst 0, 1) := by decide +kernel
theorem dX1_fill_1 : decode cX1_fill 1 = .ok (.istore 4, 2) := by decide +kernel
theorem dX1_fill_3 : decode cX1_fill 3 = .ok (.iload 4, 2) := by decide +kernel
theorem dX1_fill_5 : decode cX1_fill 5 = .ok (.aload_n 1, 1) := by decide +kernel
theorem dX1_fill_6 : decode cX1_fill 6 = .ok (.getfield 15, 3) := by decide +kernel
theorem dX1_fill_9 : decode cX1_fill 9 = .ok (.if_icmp .ge 41, 3) := by decide +kernel
theorem dX1_fill_12 : decode cX1_fill 12 = .ok (.iload 4, 2) := by decide +kernel
theorem dX1_fill_14 : decode cX1_fill 14 = .ok (.getstatic 21, 3) := by decide +kernel
theorem dX1_fill_17 : decode cX1_fill 17 = .ok (.arraylength, 1) := by decide +kernel
theorem dX1_fill_18 : decode cX1_fill 18 = .ok (.if_icmp .ge 32, 3) := by decide +kernel
theorem dX1_fill_21 : decode cX1_fill 21 = .ok (.iload 4, 2) := by decide +kernel
theorem dX1_fill_23 : decode cX1_fill 23 = .ok (.aload_n 0, 1) := by decide +kernel
theorem dX1_fill_24 : decode cX1_fill 24 = .ok (.getfield 9, 3) := by decide +kernel
theorem dX1_fill_27 : decode cX1_fill 27 = .ok (.arraylength, 1) := by decide +kernel
theorem dX1_fill_28 : decode cX1_fill 28 = .ok (.if_icmp .ge 22, 3) := by decide +kernel
theorem dX1_fill_31 : decode cX1_fill 31 = .ok (.aload_n 0, 1) := by decide +kernel
theorem dX1_fill_32 : decode cX1_fill 32 = .ok (.getfield 9, 3) := by decide +kernel
theorem dX1_fill_35 : decode cX1_fill 35 = .ok (.iload 4, 2) := by decide +kernel
theorem dX1_fill_37 : decode cX1_fill 37 = .ok (.getstatic 21, 3) := by decide +kernel
theorem dX1_fill_40 : decode cX1_fill 40 = .ok (.iload 4, 2) := by decide +kernel
theorem dX1_fill_42 : decode cX1_fill 42 = .ok (.laload, 1) := by decide +kernel
theorem dX1_fill_43 : decode cX1_fill 43 = .ok (.lastore, 1) := by decide +kernel
theorem dX1_fill_44 : decode cX1_fill 44 = .ok (.iinc 4 1, 3) := by decide +kernel
theorem dX1_fill_47 : decode cX1_fill 47 = .ok (.goto (-44), 3) := by decide +kernel
theorem dX1_fill_50 : decode cX1_fill 50 = .ok (.iconst 0, 1) := by decide +kernel
theorem dX1_fill_51 : decode cX1_fill 51 = .ok (.istore 4, 2) := by decide +kernel
theorem dX1_fill_53 : decode cX1_fill 53 = .ok (.iload 4, 2) := by decide +kernel
theorem dX1_fill_55 : decode cX1_fill 55 = .ok (.aload_n 1, 1) := by decide +kernel
theorem dX1_fill_56 : decode cX1_fill 56 = .ok (.getfield 24, 3) := by decide +kernel
theorem dX1_fill_59 : decode cX1_fill 59 = .ok (.if_icmp .ge 63, 3) := by decide +kernel
theorem dX1_fill_62 : decode cX1_fill 62 = .ok (.aload_n 1, 1) := by decide +kernel
theorem dX1_fill_63 : decode cX1_fill 63 = .ok (.getfield 15, 3) := by decide +kernel
theorem dX1_fill_66 : decode cX1_fill 66 = .ok (.iload 4, 2) := by decide +kernel
theorem dX1_fill_68 : decode cX1_fill 68 = .ok (.iadd, 1) := by decide +kernel
theorem dX1_fill_69 : decode cX1_fill 69 = .ok (.istore 5, 2) := by decide +kernel
theorem dX1_fill_71 : decode cX1_fill 71 = .ok (.iload 5, 2) := by decide +kernel
theorem dX1_fill_73 : decode cX1_fill 73 = .ok (.ifCond .lt 43, 3) := by decide +kernel
theorem dX1_fill_76 : decode cX1_fill 76 = .ok (.iload 5, 2) := by decide +kernel
theorem dX1_fill_78 : decode cX1_fill 78 = .ok (.aload_n 0, 1) := by decide +kernel
theorem dX1_fill_79 : decode cX1_fill 79 = .ok (.getfield 9, 3) := by decide +kernel
theorem dX1_fill_82 : decode cX1_fill 82 = .ok (.arraylength, 1) := by decide +kernel
theorem dX1_fill_83 : decode cX1_fill 83 = .ok (.if_icmp .ge 33, 3) := by decide +kernel
theorem dX1_fill_86 : decode cX1_fill 86 = .ok (.aload_n 0, 1) := by decide +kernel
theorem dX1_fill_87 : decode cX1_fill 87 = .ok (.getfield 9, 3) := by decide +kernel
theorem dX1_fill_90 : decode cX1_fill 90 = .ok (.iload 5, 2) := by decide +kernel
theorem dX1_fill_92 : decode cX1_fill 92 = .ok (.aload_n 0, 1) := by decide +kernel
theorem dX1_fill_93 : decode cX1_fill 93 = .ok (.aload_n 1, 1) := by decide +kernel
theorem dX1_fill_94 : decode cX1_fill 94 = .ok (.iload 4, 2) := by decide +kernel
theorem dX1_fill_96 : decode cX1_fill 96 = .ok (.iload 4, 2) := by decide +kernel
theorem dX1_fill_98 : decode cX1_fill 98 = .ok (.iload_n 2, 1) := by decide +kernel
theorem dX1_fill_99 : decode cX1_fill 99 = .ok (.if_icmp .ne 7, 3) := by decide +kernel
theorem dX1_fill_102 : decode cX1_fill 102 = .ok (.iload_n 3, 1) := by decide +kernel
theorem dX1_fill_103 : decode cX1_fill 103 = .ok (.goto 9, 3) := by decide +kernel
theorem dX1_fill_106 : decode cX1_fill 106 = .ok (.aload_n 1, 1) := by decide +kernel
theorem dX1_fill_107 : decode cX1_fill 107 = .ok (.iload 4, 2) := by decide +kernel
theorem dX1_fill_109 : decode cX1_fill 109 = .ok (.invokevirtual 27, 3) := by decide +kernel
theorem dX1_fill_112 : decode cX1_fill 112 = .ok (.invokevirtual 31, 3) := by decide +kernel
theorem dX1_fill_115 : decode cX1_fill 115 = .ok (.lastore, 1) := by decide +kernel
theorem dX1_fill_116 : decode cX1_fill 116 = .ok (.iinc 4 1, 3) := by decide +kernel
theorem dX1_fill_119 : decode cX1_fill 119 = .ok (.goto (-66), 3) := by decide +kernel
theorem dX1_fill_122 : decode cX1_fill 122 = .ok (.return_, 1) := by decide +kernel
set_option maxRecDepth 20000 in
theorem ggX1_column_X0_xOf : GoodIn wsX1_column wsX0_xOf := goodIn_r _ [6, 7, 8, 9, 10, 22, 23, 24, 25, 26, 27, 28, 29, 30, 31, 32] (by decide +kernel) (by decide +kernel)
set_option maxRecDepth 20000 in
theorem gX1_column_X0_xOf : GoodIn wsX1_column (wsV RX1 35 RX0 yX0_xOf wsX0_xOf) := goodIn_app (goodIn_of _ (by decide +kernel)) ggX1_column_X0_xOf
set_option maxRecDepth 20000 in
theorem ggX1_column_X1_row : GoodIn wsX1_column wsX1_row := goodIn_r _ [15, 16, 33] (by decide +kernel) (by decide +kernel)
set_option maxRecDepth 20000 in
theorem gX1_column_X1_row : GoodIn wsX1_column (wsV RX1 38 RX1 yX1_row wsX1_row) := goodIn_app (goodIn_of _ (by decide +kernel)) ggX1_column_X1_row
set_option maxRecDepth 20000 in
theorem ggX1_column_X0_yOf : GoodIn wsX1_column wsX0_yOf := goodIn_r _ [20, 21, 8, 9, 10, 22, 23, 24, 25, 26, 27, 28, 29, 30, 31, 32] (by decide +kernel) (by decide +kernel)
set_option maxRecDepth 20000 in
theorem gX1_column_X0_yOf : GoodIn wsX1_column (wsV RX1 42 RX0 yX0_yOf wsX0_yOf) := goodIn_app (goodIn_of _ (by decide +kernel)) ggX1_column_X0_yOf
theorem dX1_column_0 : decode cX1_column 0 = .ok (.aload_n 0, 1) := by decide +kernel
theorem dX1_column_1 : decode cX1_column 1 = .ok (.aload_n 1, 1) := by decide +kernel
theorem dX1_column_2 : decode cX1_column 2 = .ok (.iload_n 2, 1) := by decide +kernel
theorem dX1_column_3 : decode cX1_column 3 = .ok (.invokevirtual 35, 3) := by decide +kernel
theorem dX1_column_6 : decode cX1_column 6 = .ok (.invokevirtual 38, 3) := by decide +kernel
theorem dX1_column_9 : decode cX1_column 9 = .ok (.lstore 4, 2) := by decide +kernel
theorem dX1_column_11 : decode cX1_column 11 = .ok (.aload_n 0, 1) := by decide +kernel
theorem dX1_column_12 : decode cX1_column 12 = .ok (.aload_n 1, 1) := by decide +kernel
theorem dX1_column_13 : decode cX1_column 13 = .ok (.iload_n 2, 1) := by decide +kernel
theorem dX1_column_14 : decode cX1_column 14 = .ok (.invokevirtual 42, 3) := by decide +kernel
theorem dX1_column_17 : decode cX1_column 17 = .ok (.invokevirtual 38, 3) := by decide +kernel
theorem dX1_column_20 : decode cX1_column 20 = .ok (.lstore 6, 2) := by decide +kernel
theorem dX1_column_22 : decode cX1_column 22 = .ok (.iload_n 3, 1) := by decide +kernel
theorem dX1_column_23 : decode cX1_column 23 = .ok (.tableswitch 96 0 6 #[41, 48, 54, 60, 66, 76, 86], 41) := by decide +kernel
theorem dX1_column_64 : decode cX1_column 64 = .ok (.lload 4, 2) := by decide +kernel
theorem dX1_column_66 : decode cX1_column 66 = .ok (.ldc2_w 45, 3) := by decide +kernel
theorem dX1_column_69 : decode cX1_column 69 = .ok (.lxor, 1) := by decide +kernel
theorem dX1_column_70 : decode cX1_column 70 = .ok (.lreturn, 1) := by decide +kernel
theorem dX1_column_71 : decode cX1_column 71 = .ok (.lload 4, 2) := by decide +kernel
theorem dX1_column_73 : decode cX1_column 73 = .ok (.lload 6, 2) := by decide +kernel
theorem dX1_column_75 : decode cX1_column 75 = .ok (.land, 1) := by decide +kernel
theorem dX1_column_76 : decode cX1_column 76 = .ok (.lreturn, 1) := by decide +kernel
theorem dX1_column_77 : decode cX1_column 77 = .ok (.lload 4, 2) := by decide +kernel
theorem dX1_column_79 : decode cX1_column 79 = .ok (.lload 6, 2) := by decide +kernel
theorem dX1_column_81 : decode cX1_column 81 = .ok (.lor, 1) := by decide +kernel
theorem dX1_column_82 : decode cX1_column 82 = .ok (.lreturn, 1) := by decide +kernel
theorem dX1_column_83 : decode cX1_column 83 = .ok (.lload 4, 2) := by decide +kernel
theorem dX1_column_85 : decode cX1_column 85 = .ok (.lload 6, 2) := by decide +kernel
theorem dX1_column_87 : decode cX1_column 87 = .ok (.lxor, 1) := by decide +kernel
theorem dX1_column_88 : decode cX1_column 88 = .ok (.lreturn, 1) := by decide +kernel
theorem dX1_column_89 : decode cX1_column 89 = .ok (.lload 4, 2) := by decide +kernel
theorem dX1_column_91 : decode cX1_column 91 = .ok (.lload 6, 2) := by decide +kernel
theorem dX1_column_93 : decode cX1_column 93 = .ok (.land, 1) := by decide +kernel
theorem dX1_column_94 : decode cX1_column 94 = .ok (.ldc2_w 45, 3) := by decide +kernel
theorem dX1_column_97 : decode cX1_column 97 = .ok (.lxor, 1) := by decide +kernel
theorem dX1_column_98 : decode cX1_column 98 = .ok (.lreturn, 1) := by decide +kernel
theorem dX1_column_99 : decode cX1_column 99 = .ok (.lload 4, 2) := by decide +kernel
theorem dX1_column_101 : decode cX1_column 101 = .ok (.lload 6, 2) := by decide +kernel
theorem dX1_column_103 : decode cX1_column 103 = .ok (.lor, 1) := by decide +kernel
theorem dX1_column_104 : decode cX1_column 104 = .ok (.ldc2_w 45, 3) := by decide +kernel
theorem dX1_column_107 : decode cX1_column 107 = .ok (.lxor, 1) := by decide +kernel
theorem dX1_column_108 : decode cX1_column 108 = .ok (.lreturn, 1) := by decide +kernel
theorem dX1_column_109 : decode cX1_column 109 = .ok (.lload 4, 2) := by decide +kernel
theorem dX1_column_111 : decode cX1_column 111 = .ok (.lload 6, 2) := by decide +kernel
theorem dX1_column_113 : decode cX1_column 113 = .ok (.lxor, 1) := by decide +kernel
theorem dX1_column_114 : decode cX1_column 114 = .ok (.ldc2_w 45, 3) := by decide +kernel
theorem dX1_column_117 : decode cX1_column 117 = .ok (.lxor, 1) := by decide +kernel
theorem dX1_column_118 : decode cX1_column 118 = .ok (.lreturn, 1) := by decide +kernel
theorem dX1_column_119 : decode cX1_column 119 = .ok (.lload 4, 2) := by decide +kernel
theorem dX1_column_121 : decode cX1_column 121 = .ok (.lload 6, 2) := by decide +kernel
theorem dX1_column_123 : decode cX1_column 123 = .ok (.ldc2_w 45, 3) := by decide +kernel
theorem dX1_column_126 : decode cX1_column 126 = .ok (.lxor, 1) := by decide +kernel
theorem dX1_column_127 : decode cX1_column 127 = .ok (.land, 1) := by decide +kernel
theorem dX1_column_128 : decode cX1_column 128 = .ok (.lreturn, 1) := by decide +kernel
theorem dX1_row_0 : decode cX1_row 0 = .ok (.iload_n 1, 1) := by decide +kernel
theorem dX1_row_1 : decode cX1_row 1 = .ok (.ifCond .lt 21, 3) := by decide +kernel
theorem dX1_row_4 : decode cX1_row 4 = .ok (.iload_n 1, 1) := by decide +kernel
theorem dX1_row_5 : decode cX1_row 5 = .ok (.aload_n 0, 1) := by decide +kernel
theorem dX1_row_6 : decode cX1_row 6 = .ok (.getfield 9, 3) := by decide +kernel
theorem dX1_row_9 : decode cX1_row 9 = .ok (.arraylength, 1) := by decide +kernel
theorem dX1_row_10 : decode cX1_row 10 = .ok (.if_icmp .ge 12, 3) := by decide +kernel
theorem dX1_row_13 : decode cX1_row 13 = .ok (.aload_n 0, 1) := by decide +kernel
theorem dX1_row_14 : decode cX1_row 14 = .ok (.getfield 9, 3) := by decide +kernel
theorem dX1_row_17 : decode cX1_row 17 = .ok (.iload_n 1, 1) := by decide +kernel
theorem dX1_row_18 : decode cX1_row 18 = .ok (.laload, 1) := by decide +kernel
theorem dX1_row_19 : decode cX1_row 19 = .ok (.goto 4, 3) := by decide +kernel
theorem dX1_row_22 : decode cX1_row 22 = .ok (.lconst 0, 1) := by decide +kernel
theorem dX1_row_23 : decode cX1_row 23 = .ok (.lreturn, 1) := by decide +kernel
set_option maxRecDepth 20000 in
theorem ggX1_bit_X1_row : GoodIn wsX1_bit wsX1_row := goodIn_r _ [5, 6, 7] (by decide +kernel) (by decide +kernel)
set_option maxRecDepth 20000 in
theorem gX1_bit_X1_row : GoodIn wsX1_bit (wsV RX1 38 RX1 yX1_row wsX1_row) := goodIn_app (goodIn_of _ (by decide +kernel)) ggX1_bit_X1_row
theorem dX1_bit_0 : decode cX1_bit 0 = .ok (.aload_n 0, 1) := by decide +kernel
theorem dX1_bit_1 : decode cX1_bit 1 = .ok (.iload_n 1, 1) := by decide +kernel
theorem dX1_bit_2 : decode cX1_bit 2 = .ok (.invokevirtual 38, 3) := by decide +kernel
theorem dX1_bit_5 : decode cX1_bit 5 = .ok (.iload_n 2, 1) := by decide +kernel
theorem dX1_bit_6 : decode cX1_bit 6 = .ok (.lushr, 1) := by decide +kernel
theorem dX1_bit_7 : decode cX1_bit 7 = .ok (.lconst 1, 1) := by decide +kernel
theorem dX1_bit_8 : decode cX1_bit 8 = .ok (.land, 1) := by decide +kernel
theorem dX1_bit_9 : decode cX1_bit 9 = .ok (.l2i, 1) := by decide +kernel
theorem dX1_bit_10 : decode cX1_bit 10 = .ok (.ireturn, 1) := by decide +kernel
set_option maxRecDepth 20000 in
theorem ggX1_outputsFor_X0_outputAt : GoodIn wsX1_outputsFor wsX0_outputAt := goodIn_r _ [6, 7, 8, 9, 10, 21, 22, 23, 24, 25, 26, 27, 28, 29, 30, 31] (by decide +kernel) (by decide +kernel)
set_option maxRecDepth 20000 in
theorem gX1_outputsFor_X0_outputAt : GoodIn wsX1_outputsFor (wsV RX1 50 RX0 yX0_outputAt wsX0_outputAt) := goodIn_app (goodIn_of _ (by decide +kernel)) ggX1_outputsFor_X0_outputAt
set_option maxRecDepth 20000 in
theorem ggX1_outputsFor_X1_bit : GoodIn wsX1_outputsFor wsX1_bit := goodIn_r _ [15, 16, 17, 18, 14, 19, 20, 32] (by decide +kernel) (by decide +kernel)
set_option maxRecDepth 20000 in
theorem gX1_outputsFor_X1_bit : GoodIn wsX1_outputsFor (wsV RX1 53 RX1 yX1_bit wsX1_bit) := goodIn_app (goodIn_of _ (by decide +kernel)) ggX1_outputsFor_X1_bit
theorem dX1_outputsFor_0 : decode cX1_outputsFor 0 = .ok (.iconst 0, 1) := by decide +kernel
theorem dX1_outputsFor_1 : decode cX1_outputsFor 1 = .ok (.istore_n 3, 1) := by decide +kernel
theorem dX1_outputsFor_2 : decode cX1_outputsFor 2 = .ok (.iconst 0, 1) := by decide +kernel
theorem dX1_outputsFor_3 : decode cX1_outputsFor 3 = .ok (.istore 4, 2) := by decide +kernel
theorem dX1_outputsFor_5 : decode cX1_outputsFor 5 = .ok (.iload 4, 2) := by decide +kernel
theorem dX1_outputsFor_7 : decode cX1_outputsFor 7 = .ok (.aload_n 1, 1) := by decide +kernel
theorem dX1_outputsFor_8 : decode cX1_outputsFor 8 = .ok (.getfield 47, 3) := by decide +kernel
theorem dX1_outputsFor_11 : decode cX1_outputsFor 11 = .ok (.if_icmp .ge 26, 3) := by decide +kernel
theorem dX1_outputsFor_14 : decode cX1_outputsFor 14 = .ok (.iload_n 3, 1) := by decide +kernel
theorem dX1_outputsFor_15 : decode cX1_outputsFor 15 = .ok (.aload_n 0, 1) := by decide +kernel
theorem dX1_outputsFor_16 : decode cX1_outputsFor 16 = .ok (.aload_n 1, 1) := by decide +kernel
theorem dX1_outputsFor_17 : decode cX1_outputsFor 17 = .ok (.iload 4, 2) := by decide +kernel
theorem dX1_outputsFor_19 : decode cX1_outputsFor 19 = .ok (.invokevirtual 50, 3) := by decide +kernel
theorem dX1_outputsFor_22 : decode cX1_outputsFor 22 = .ok (.iload_n 2, 1) := by decide +kernel
theorem dX1_outputsFor_23 : decode cX1_outputsFor 23 = .ok (.invokevirtual 53, 3) := by decide +kernel
theorem dX1_outputsFor_26 : decode cX1_outputsFor 26 = .ok (.iload 4, 2) := by decide +kernel
theorem dX1_outputsFor_28 : decode cX1_outputsFor 28 = .ok (.ishl, 1) := by decide +kernel
theorem dX1_outputsFor_29 : decode cX1_outputsFor 29 = .ok (.iadd, 1) := by decide +kernel
theorem dX1_outputsFor_30 : decode cX1_outputsFor 30 = .ok (.istore_n 3, 1) := by decide +kernel
theorem dX1_outputsFor_31 : decode cX1_outputsFor 31 = .ok (.iinc 4 1, 3) := by decide +kernel
theorem dX1_outputsFor_34 : decode cX1_outputsFor 34 = .ok (.goto (-29), 3) := by decide +kernel
theorem dX1_outputsFor_37 : decode cX1_outputsFor 37 = .ok (.iload_n 3, 1) := by decide +kernel
theorem dX1_outputsFor_38 : decode cX1_outputsFor 38 = .ok (.ireturn, 1) := by decide +kernel
set_option maxRecDepth 20000 in
theorem ggX1_trueSignals_X0_signals : GoodIn wsX1_trueSignals wsX0_signals := goodIn_r _ [5, 6, 7, 18, 19, 20, 21, 22, 23, 24, 25, 26, 27, 28] (by decide +kernel) (by decide +kernel)
set_option maxRecDepth 20000 in
theorem gX1_trueSignals_X0_signals : GoodIn wsX1_trueSignals (wsV RX1 57 RX0 yX0_signals wsX0_signals) := goodIn_app (goodIn_of _ (by decide +kernel)) ggX1_trueSignals_X0_signals
set_option maxRecDepth 20000 in
theorem ggX1_trueSignals_X1_bit : GoodIn wsX1_trueSignals wsX1_bit := goodIn_r _ [12, 13, 14, 15, 11, 16, 17, 29] (by decide +kernel) (by decide +kernel)
set_option maxRecDepth 20000 in
theorem gX1_trueSignals_X1_bit : GoodIn wsX1_trueSignals (wsV RX1 53 RX1 yX1_bit wsX1_bit) := goodIn_app (goodIn_of _ (by decide +kernel)) ggX1_trueSignals_X1_bit
theorem dX1_trueSignals_0 : decode cX1_trueSignals 0 = .ok (.iconst 0, 1) := by decide +kernel
theorem dX1_trueSignals_1 : decode cX1_trueSignals 1 = .ok (.istore_n 3, 1) := by decide +kernel
theorem dX1_trueSignals_2 : decode cX1_trueSignals 2 = .ok (.iconst 0, 1) := by decide +kernel
theorem dX1_trueSignals_3 : decode cX1_trueSignals 3 = .ok (.istore 4, 2) := by decide +kernel
theorem dX1_trueSignals_5 : decode cX1_trueSignals 5 = .ok (.iload 4, 2) := by decide +kernel
theorem dX1_trueSignals_7 : decode cX1_trueSignals 7 = .ok (.aload_n 1, 1) := by decide +kernel
theorem dX1_trueSignals_8 : decode cX1_trueSignals 8 = .ok (.invokevirtual 57, 3) := by decide +kernel
theorem dX1_trueSignals_11 : decode cX1_trueSignals 11 = .ok (.if_icmp .ge 22, 3) := by decide +kernel
theorem dX1_trueSignals_14 : decode cX1_trueSignals 14 = .ok (.iload_n 3, 1) := by decide +kernel
theorem dX1_trueSignals_15 : decode cX1_trueSignals 15 = .ok (.aload_n 0, 1) := by decide +kernel
theorem dX1_trueSignals_16 : decode cX1_trueSignals 16 = .ok (.iload 4, 2) := by decide +kernel
theorem dX1_trueSignals_18 : decode cX1_trueSignals 18 = .ok (.iload_n 2, 1) := by decide +kernel
theorem dX1_trueSignals_19 : decode cX1_trueSignals 19 = .ok (.invokevirtual 53, 3) := by decide +kernel
theorem dX1_trueSignals_22 : decode cX1_trueSignals 22 = .ok (.iload 4, 2) := by decide +kernel
theorem dX1_trueSignals_24 : decode cX1_trueSignals 24 = .ok (.ishl, 1) := by decide +kernel
theorem dX1_trueSignals_25 : decode cX1_trueSignals 25 = .ok (.ior, 1) := by decide +kernel
theorem dX1_trueSignals_26 : decode cX1_trueSignals 26 = .ok (.istore_n 3, 1) := by decide +kernel
theorem dX1_trueSignals_27 : decode cX1_trueSignals 27 = .ok (.iinc 4 1, 3) := by decide +kernel
theorem dX1_trueSignals_30 : decode cX1_trueSignals 30 = .ok (.goto (-25), 3) := by decide +kernel
theorem dX1_trueSignals_33 : decode cX1_trueSignals 33 = .ok (.iload_n 3, 1) := by decide +kernel
theorem dX1_trueSignals_34 : decode cX1_trueSignals 34 = .ok (.ireturn, 1) := by decide +kernel
set_option maxRecDepth 20000 in
theorem ggX1_isWrong_X1_outputsFor : GoodIn wsX1_isWrong wsX1_outputsFor := goodIn_r _ [5, 6, 7, 8, 9, 10, 11, 12, 13, 14, 15, 16, 17, 18, 4, 19, 20, 21, 22, 23, 24, 32, 33, 34, 35, 36, 37, 38, 39, 40, 41, 42, 43] (by decide +kernel) (by decide +kernel)
set_option maxRecDepth 20000 in
theorem gX1_isWrong_X1_outputsFor : GoodIn wsX1_isWrong (wsV RX1 61 RX1 yX1_outputsFor wsX1_outputsFor) := goodIn_app (goodIn_of _ (by decide +kernel)) ggX1_isWrong_X1_outputsFor
set_option maxRecDepth 20000 in
theorem ggX1_isWrong_X0_taskFor : GoodIn wsX1_isWrong wsX0_taskFor := goodIn_r _ [28, 29, 30, 31, 32, 33, 34, 35, 36, 37, 38, 39, 40, 41, 42] (by decide +kernel) (by decide +kernel)
set_option maxRecDepth 20000 in
theorem gX1_isWrong_X0_taskFor : GoodIn wsX1_isWrong (wsV RX1 65 RX0 yX0_taskFor wsX0_taskFor) := goodIn_app (goodIn_of _ (by decide +kernel)) ggX1_isWrong_X0_taskFor
theorem dX1_isWrong_0 : decode cX1_isWrong 0 = .ok (.aload_n 0, 1) := by decide +kernel
theorem dX1_isWrong_1 : decode cX1_isWrong 1 = .ok (.aload_n 1, 1) := by decide +kernel
theorem dX1_isWrong_2 : decode cX1_isWrong 2 = .ok (.iload_n 2, 1) := by decide +kernel
theorem dX1_isWrong_3 : decode cX1_isWrong 3 = .ok (.invokevirtual 61, 3) := by decide +kernel
theorem dX1_isWrong_6 : decode cX1_isWrong 6 = .ok (.aload_n 1, 1) := by decide +kernel
theorem dX1_isWrong_7 : decode cX1_isWrong 7 = .ok (.iload_n 2, 1) := by decide +kernel
theorem dX1_isWrong_8 : decode cX1_isWrong 8 = .ok (.invokevirtual 65, 3) := by decide +kernel
theorem dX1_isWrong_11 : decode cX1_isWrong 11 = .ok (.if_icmp .eq 7, 3) := by decide +kernel
theorem dX1_isWrong_14 : decode cX1_isWrong 14 = .ok (.iconst 1, 1) := by decide +kernel
theorem dX1_isWrong_15 : decode cX1_isWrong 15 = .ok (.goto 4, 3) := by decide +kernel
theorem dX1_isWrong_18 : decode cX1_isWrong 18 = .ok (.iconst 0, 1) := by decide +kernel
theorem dX1_isWrong_19 : decode cX1_isWrong 19 = .ok (.ireturn, 1) := by decide +kernel
set_option maxRecDepth 20000 in
theorem ggX1_firstWrong_X1_isWrong : GoodIn wsX1_firstWrong wsX1_isWrong := goodIn_r _ [6, 7, 8, 9, 5, 10, 11, 12, 13, 14, 15, 16, 17, 18, 19, 20, 21, 22, 23, 24, 25, 26, 27, 28, 29, 30, 31, 32, 33, 34, 35, 36, 37, 38, 39, 40, 41, 42, 43, 44, 45, 46, 47, 48] (by decide +kernel) (by decide +kernel)
set_option maxRecDepth 20000 in
theorem gX1_firstWrong_X1_isWrong : GoodIn wsX1_firstWrong (wsV RX1 68 RX1 yX1_isWrong wsX1_isWrong) := goodIn_app (goodIn_of _ (by decide +kernel)) ggX1_firstWrong_X1_isWrong
theorem dX1_firstWrong_0 : decode cX1_firstWrong 0 = .ok (.iconst 1, 1) := by decide +kernel
theorem dX1_firstWrong_1 : decode cX1_firstWrong 1 = .ok (.aload_n 1, 1) := by decide +kernel
theorem dX1_firstWrong_2 : decode cX1_firstWrong 2 = .ok (.getfield 15, 3) := by decide +kernel
theorem dX1_firstWrong_5 : decode cX1_firstWrong 5 = .ok (.ishl, 1) := by decide +kernel
theorem dX1_firstWrong_6 : decode cX1_firstWrong 6 = .ok (.istore_n 2, 1) := by decide +kernel
theorem dX1_firstWrong_7 : decode cX1_firstWrong 7 = .ok (.iconst 0, 1) := by decide +kernel
theorem dX1_firstWrong_8 : decode cX1_firstWrong 8 = .ok (.istore_n 3, 1) := by decide +kernel
theorem dX1_firstWrong_9 : decode cX1_firstWrong 9 = .ok (.iload_n 3, 1) := by decide +kernel
theorem dX1_firstWrong_10 : decode cX1_firstWrong 10 = .ok (.iload_n 2, 1) := by decide +kernel
theorem dX1_firstWrong_11 : decode cX1_firstWrong 11 = .ok (.if_icmp .ge 20, 3) := by decide +kernel
theorem dX1_firstWrong_14 : decode cX1_firstWrong 14 = .ok (.aload_n 0, 1) := by decide +kernel
theorem dX1_firstWrong_15 : decode cX1_firstWrong 15 = .ok (.aload_n 1, 1) := by decide +kernel
theorem dX1_firstWrong_16 : decode cX1_firstWrong 16 = .ok (.iload_n 3, 1) := by decide +kernel
theorem dX1_firstWrong_17 : decode cX1_firstWrong 17 = .ok (.invokevirtual 68, 3) := by decide +kernel
theorem dX1_firstWrong_20 : decode cX1_firstWrong 20 = .ok (.ifCond .eq 5, 3) := by decide +kernel
theorem dX1_firstWrong_23 : decode cX1_firstWrong 23 = .ok (.iload_n 3, 1) := by decide +kernel
theorem dX1_firstWrong_24 : decode cX1_firstWrong 24 = .ok (.ireturn, 1) := by decide +kernel
theorem dX1_firstWrong_25 : decode cX1_firstWrong 25 = .ok (.iinc 3 1, 3) := by decide +kernel
theorem dX1_firstWrong_28 : decode cX1_firstWrong 28 = .ok (.goto (-19), 3) := by decide +kernel
theorem dX1_firstWrong_31 : decode cX1_firstWrong 31 = .ok (.iconst (-1), 1) := by decide +kernel
theorem dX1_firstWrong_32 : decode cX1_firstWrong 32 = .ok (.ireturn, 1) := by decide +kernel
set_option maxRecDepth 20000 in
theorem ggX1_countWrong_X1_isWrong : GoodIn wsX1_countWrong wsX1_isWrong := goodIn_r _ [6, 7, 8, 9, 5, 10, 11, 12, 13, 14, 15, 16, 17, 18, 19, 20, 21, 22, 23, 24, 25, 26, 27, 28, 29, 30, 31, 32, 33, 34, 35, 36, 37, 38, 39, 40, 41, 42, 43, 44, 45, 46, 47, 48] (by decide +kernel) (by decide +kernel)
set_option maxRecDepth 20000 in
theorem gX1_countWrong_X1_isWrong : GoodIn wsX1_countWrong (wsV RX1 68 RX1 yX1_isWrong wsX1_isWrong) := goodIn_app (goodIn_of _ (by decide +kernel)) ggX1_countWrong_X1_isWrong
theorem dX1_countWrong_0 : decode cX1_countWrong 0 = .ok (.iconst 1, 1) := by decide +kernel
theorem dX1_countWrong_1 : decode cX1_countWrong 1 = .ok (.aload_n 1, 1) := by decide +kernel
theorem dX1_countWrong_2 : decode cX1_countWrong 2 = .ok (.getfield 15, 3) := by decide +kernel
theorem dX1_countWrong_5 : decode cX1_countWrong 5 = .ok (.ishl, 1) := by decide +kernel
theorem dX1_countWrong_6 : decode cX1_countWrong 6 = .ok (.istore_n 2, 1) := by decide +kernel
theorem dX1_countWrong_7 : decode cX1_countWrong 7 = .ok (.iconst 0, 1) := by decide +kernel
theorem dX1_countWrong_8 : decode cX1_countWrong 8 = .ok (.istore_n 3, 1) := by decide +kernel
theorem dX1_countWrong_9 : decode cX1_countWrong 9 = .ok (.iconst 0, 1) := by decide +kernel
theorem dX1_countWrong_10 : decode cX1_countWrong 10 = .ok (.istore 4, 2) := by decide +kernel
theorem dX1_countWrong_12 : decode cX1_countWrong 12 = .ok (.iload 4, 2) := by decide +kernel
theorem dX1_countWrong_14 : decode cX1_countWrong 14 = .ok (.iload_n 2, 1) := by decide +kernel
theorem dX1_countWrong_15 : decode cX1_countWrong 15 = .ok (.if_icmp .ge 27, 3) := by decide +kernel
theorem dX1_countWrong_18 : decode cX1_countWrong 18 = .ok (.iload_n 3, 1) := by decide +kernel
theorem dX1_countWrong_19 : decode cX1_countWrong 19 = .ok (.aload_n 0, 1) := by decide +kernel
theorem dX1_countWrong_20 : decode cX1_countWrong 20 = .ok (.aload_n 1, 1) := by decide +kernel
theorem dX1_countWrong_21 : decode cX1_countWrong 21 = .ok (.iload 4, 2) := by decide +kernel
theorem dX1_countWrong_23 : decode cX1_countWrong 23 = .ok (.invokevirtual 68, 3) := by decide +kernel
theorem dX1_countWrong_26 : decode cX1_countWrong 26 = .ok (.ifCond .eq 7, 3) := by decide +kernel
theorem dX1_countWrong_29 : decode cX1_countWrong 29 = .ok (.iconst 1, 1) := by decide +kernel
theorem dX1_countWrong_30 : decode cX1_countWrong 30 = .ok (.goto 4, 3) := by decide +kernel
theorem dX1_countWrong_33 : decode cX1_countWrong 33 = .ok (.iconst 0, 1) := by decide +kernel
theorem dX1_countWrong_34 : decode cX1_countWrong 34 = .ok (.iadd, 1) := by decide +kernel
theorem dX1_countWrong_35 : decode cX1_countWrong 35 = .ok (.istore_n 3, 1) := by decide +kernel
theorem dX1_countWrong_36 : decode cX1_countWrong 36 = .ok (.iinc 4 1, 3) := by decide +kernel
theorem dX1_countWrong_39 : decode cX1_countWrong 39 = .ok (.goto (-27), 3) := by decide +kernel
theorem dX1_countWrong_42 : decode cX1_countWrong 42 = .ok (.iload_n 3, 1) := by decide +kernel
theorem dX1_countWrong_43 : decode cX1_countWrong 43 = .ok (.ireturn, 1) := by decide +kernel
theorem dX2_init_0 : decode cX2_init 0 = .ok (.aload_n 0, 1) := by decide +kernel
theorem dX2_init_1 : decode cX2_init 1 = .ok (.invokespecial 3, 3) := by decide +kernel
theorem dX2_init_4 : decode cX2_init 4 = .ok (.aload_n 0, 1) := by decide +kernel
theorem dX2_init_5 : decode cX2_init 5 = .ok (.sipush 160, 3) := by decide +kernel
theorem dX2_init_8 : decode cX2_init 8 = .ok (.newarray .int, 2) := by decide +kernel
theorem dX2_init_10 : decode cX2_init 10 = .ok (.putfield 11, 3) := by decide +kernel
theorem dX2_init_13 : decode cX2_init 13 = .ok (.aload_n 0, 1) := by decide +kernel
theorem dX2_init_14 : decode cX2_init 14 = .ok (.sipush 160, 3) := by decide +kernel
theorem dX2_init_17 : decode cX2_init 17 = .ok (.newarray .int, 2) := by decide +kernel
theorem dX2_init_19 : decode cX2_init 19 = .ok (.putfield 15, 3) := by decide +kernel
theorem dX2_init_22 : decode cX2_init 22 = .ok (.return_, 1) := by decide +kernel
set_option maxRecDepth 20000 in
theorem ggX2_add_X2_placeOf : GoodIn wsX2_add wsX2_placeOf := goodIn_r _ [8, 1, 2, 9, 10, 11, 26, 27, 28] (by decide +kernel) (by decide +kernel)
set_option maxRecDepth 20000 in
theorem gX2_add_X2_placeOf : GoodIn wsX2_add (wsV RX2 18 RX2 yX2_placeOf wsX2_placeOf) := goodIn_app (goodIn_of _ (by decide +kernel)) ggX2_add_X2_placeOf
set_option maxRecDepth 20000 in
theorem ggX2_add_X6_at : GoodIn wsX2_add wsX6_at := goodIn_r _ [11] (by decide +kernel) (by decide +kernel)
set_option maxRecDepth 20000 in
theorem gX2_add_X6_at_n26 : GoodIn wsX2_add (wsX6_at) := ggX2_add_X6_at
set_option maxRecDepth 20000 in
theorem ggX2_add_X2_insert : GoodIn wsX2_add wsX2_insert := goodIn_r _ [15, 1, 2, 16, 17, 18, 19, 3, 20, 10, 21, 26, 27, 28] (by decide +kernel) (by decide +kernel)
set_option maxRecDepth 20000 in
theorem gX2_add_X2_insert : GoodIn wsX2_add (wsV RX2 30 RX2 yX2_insert wsX2_insert) := goodIn_app (goodIn_of _ (by decide +kernel)) ggX2_add_X2_insert
set_option maxRecDepth 20000 in
theorem ggX2_add_X2_remove : GoodIn wsX2_add wsX2_remove := goodIn_r _ [25, 1, 2, 16, 17, 18, 19, 3, 26, 27, 28] (by decide +kernel) (by decide +kernel)
set_option maxRecDepth 20000 in
theorem gX2_add_X2_remove : GoodIn wsX2_add (wsV RX2 34 RX2 yX2_remove wsX2_remove) := goodIn_app (goodIn_of _ (by decide +kernel)) ggX2_add_X2_remove
set_option maxRecDepth 20000 in
theorem ggX2_add_X6_put : GoodIn wsX2_add wsX6_put := goodIn_r _ [21] (by decide +kernel) (by decide +kernel)
set_option maxRecDepth 20000 in
theorem gX2_add_X6_put_n38 : GoodIn wsX2_add (wsX6_put) := ggX2_add_X6_put
theorem dX2_add_0 : decode cX2_add 0 = .ok (.iload_n 2, 1) := by decide +kernel
theorem dX2_add_1 : decode cX2_add 1 = .ok (.ifCond .ne 4, 3) := by decide +kernel
theorem dX2_add_4 : decode cX2_add 4 = .ok (.return_, 1) := by decide +kernel
theorem dX2_add_5 : decode cX2_add 5 = .ok (.aload_n 0, 1) := by decide +kernel
theorem dX2_add_6 : decode cX2_add 6 = .ok (.iload_n 1, 1) := by decide +kernel
theorem dX2_add_7 : decode cX2_add 7 = .ok (.invokevirtual 18, 3) := by decide +kernel
theorem dX2_add_10 : decode cX2_add 10 = .ok (.istore_n 3, 1) := by decide +kernel
theorem dX2_add_11 : decode cX2_add 11 = .ok (.iload_n 3, 1) := by decide +kernel
theorem dX2_add_12 : decode cX2_add 12 = .ok (.aload_n 0, 1) := by decide +kernel
theorem dX2_add_13 : decode cX2_add 13 = .ok (.getfield 22, 3) := by decide +kernel
theorem dX2_add_16 : decode cX2_add 16 = .ok (.if_icmp .ge 15, 3) := by decide +kernel
theorem dX2_add_19 : decode cX2_add 19 = .ok (.aload_n 0, 1) := by decide +kernel
theorem dX2_add_20 : decode cX2_add 20 = .ok (.getfield 11, 3) := by decide +kernel
theorem dX2_add_23 : decode cX2_add 23 = .ok (.iload_n 3, 1) := by decide +kernel
theorem dX2_add_24 : decode cX2_add 24 = .ok (.invokestatic 26, 3) := by decide +kernel
theorem dX2_add_27 : decode cX2_add 27 = .ok (.iload_n 1, 1) := by decide +kernel
theorem dX2_add_28 : decode cX2_add 28 = .ok (.if_icmp .eq 11, 3) := by decide +kernel
theorem dX2_add_31 : decode cX2_add 31 = .ok (.aload_n 0, 1) := by decide +kernel
theorem dX2_add_32 : decode cX2_add 32 = .ok (.iload_n 3, 1) := by decide +kernel
theorem dX2_add_33 : decode cX2_add 33 = .ok (.iload_n 1, 1) := by decide +kernel
theorem dX2_add_34 : decode cX2_add 34 = .ok (.iload_n 2, 1) := by decide +kernel
theorem dX2_add_35 : decode cX2_add 35 = .ok (.invokevirtual 30, 3) := by decide +kernel
theorem dX2_add_38 : decode cX2_add 38 = .ok (.return_, 1) := by decide +kernel
theorem dX2_add_39 : decode cX2_add 39 = .ok (.aload_n 0, 1) := by decide +kernel
theorem dX2_add_40 : decode cX2_add 40 = .ok (.getfield 15, 3) := by decide +kernel
theorem dX2_add_43 : decode cX2_add 43 = .ok (.iload_n 3, 1) := by decide +kernel
theorem dX2_add_44 : decode cX2_add 44 = .ok (.invokestatic 26, 3) := by decide +kernel
theorem dX2_add_47 : decode cX2_add 47 = .ok (.iload_n 2, 1) := by decide +kernel
theorem dX2_add_48 : decode cX2_add 48 = .ok (.iadd, 1) := by decide +kernel
theorem dX2_add_49 : decode cX2_add 49 = .ok (.istore 4, 2) := by decide +kernel
theorem dX2_add_51 : decode cX2_add 51 = .ok (.iload 4, 2) := by decide +kernel
theorem dX2_add_53 : decode cX2_add 53 = .ok (.ifCond .ne 11, 3) := by decide +kernel
theorem dX2_add_56 : decode cX2_add 56 = .ok (.aload_n 0, 1) := by decide +kernel
theorem dX2_add_57 : decode cX2_add 57 = .ok (.iload_n 3, 1) := by decide +kernel
theorem dX2_add_58 : decode cX2_add 58 = .ok (.invokevirtual 34, 3) := by decide +kernel
theorem dX2_add_61 : decode cX2_add 61 = .ok (.goto 13, 3) := by decide +kernel
theorem dX2_add_64 : decode cX2_add 64 = .ok (.aload_n 0, 1) := by decide +kernel
theorem dX2_add_65 : decode cX2_add 65 = .ok (.getfield 15, 3) := by decide +kernel
theorem dX2_add_68 : decode cX2_add 68 = .ok (.iload_n 3, 1) := by decide +kernel
theorem dX2_add_69 : decode cX2_add 69 = .ok (.iload 4, 2) := by decide +kernel
theorem dX2_add_71 : decode cX2_add 71 = .ok (.invokestatic 38, 3) := by decide +kernel
theorem dX2_add_74 : decode cX2_add 74 = .ok (.return_, 1) := by decide +kernel
set_option maxRecDepth 20000 in
theorem ggX2_placeOf_X6_at : GoodIn wsX2_placeOf wsX6_at := goodIn_r _ [5] (by decide +kernel) (by decide +kernel)
set_option maxRecDepth 20000 in
theorem gX2_placeOf_X6_at_n26 : GoodIn wsX2_placeOf (wsX6_at) := ggX2_placeOf_X6_at
theorem dX2_placeOf_0 : decode cX2_placeOf 0 = .ok (.iconst 0, 1) := by decide +kernel
theorem dX2_placeOf_1 : decode cX2_placeOf 1 = .ok (.istore_n 2, 1) := by decide +kernel
theorem dX2_placeOf_2 : decode cX2_placeOf 2 = .ok (.aload_n 0, 1) := by decide +kernel
theorem dX2_placeOf_3 : decode cX2_placeOf 3 = .ok (.getfield 22, 3) := by decide +kernel
theorem dX2_placeOf_6 : decode cX2_placeOf 6 = .ok (.istore_n 3, 1) := by decide +kernel
theorem dX2_placeOf_7 : decode cX2_placeOf 7 = .ok (.iconst 0, 1) := by decide +kernel
theorem dX2_placeOf_8 : decode cX2_placeOf 8 = .ok (.istore 4, 2) := by decide +kernel
theorem dX2_placeOf_10 : decode cX2_placeOf 10 = .ok (.iload 4, 2) := by decide +kernel
theorem dX2_placeOf_12 : decode cX2_placeOf 12 = .ok (.bipush 8, 2) := by decide +kernel
theorem dX2_placeOf_14 : decode cX2_placeOf 14 = .ok (.if_icmp .ge 45, 3) := by decide +kernel
theorem dX2_placeOf_17 : decode cX2_placeOf 17 = .ok (.iload_n 2, 1) := by decide +kernel
theorem dX2_placeOf_18 : decode cX2_placeOf 18 = .ok (.iload_n 3, 1) := by decide +kernel
theorem dX2_placeOf_19 : decode cX2_placeOf 19 = .ok (.if_icmp .ge 40, 3) := by decide +kernel
theorem dX2_placeOf_22 : decode cX2_placeOf 22 = .ok (.iload_n 2, 1) := by decide +kernel
theorem dX2_placeOf_23 : decode cX2_placeOf 23 = .ok (.iload_n 3, 1) := by decide +kernel
theorem dX2_placeOf_24 : decode cX2_placeOf 24 = .ok (.iadd, 1) := by decide +kernel
theorem dX2_placeOf_25 : decode cX2_placeOf 25 = .ok (.iconst 1, 1) := by decide +kernel
theorem dX2_placeOf_26 : decode cX2_placeOf 26 = .ok (.iushr, 1) := by decide +kernel
theorem dX2_placeOf_27 : decode cX2_placeOf 27 = .ok (.istore 5, 2) := by decide +kernel
theorem dX2_placeOf_29 : decode cX2_placeOf 29 = .ok (.aload_n 0, 1) := by decide +kernel
theorem dX2_placeOf_30 : decode cX2_placeOf 30 = .ok (.getfield 11, 3) := by decide +kernel
theorem dX2_placeOf_33 : decode cX2_placeOf 33 = .ok (.iload 5, 2) := by decide +kernel
theorem dX2_placeOf_35 : decode cX2_placeOf 35 = .ok (.invokestatic 26, 3) := by decide +kernel
theorem dX2_placeOf_38 : decode cX2_placeOf 38 = .ok (.iload_n 1, 1) := by decide +kernel
theorem dX2_placeOf_39 : decode cX2_placeOf 39 = .ok (.if_icmp .le 11, 3) := by decide +kernel
theorem dX2_placeOf_42 : decode cX2_placeOf 42 = .ok (.iload 5, 2) := by decide +kernel
theorem dX2_placeOf_44 : decode cX2_placeOf 44 = .ok (.iconst 1, 1) := by decide +kernel
theorem dX2_placeOf_45 : decode cX2_placeOf 45 = .ok (.iadd, 1) := by decide +kernel
theorem dX2_placeOf_46 : decode cX2_placeOf 46 = .ok (.istore_n 2, 1) := by decide +kernel
theorem dX2_placeOf_47 : decode cX2_placeOf 47 = .ok (.goto 6, 3) := by decide +kernel
theorem dX2_placeOf_50 : decode cX2_placeOf 50 = .ok (.iload 5, 2) := by decide +kernel
theorem dX2_placeOf_52 : decode cX2_placeOf 52 = .ok (.istore_n 3, 1) := by decide +kernel
theorem dX2_placeOf_53 : decode cX2_placeOf 53 = .ok (.iinc 4 1, 3) := by decide +kernel
theorem dX2_placeOf_56 : decode cX2_placeOf 56 = .ok (.goto (-46), 3) := by decide +kernel
theorem dX2_placeOf_59 : decode cX2_placeOf 59 = .ok (.iload_n 2, 1) := by decide +kernel
theorem dX2_placeOf_60 : decode cX2_placeOf 60 = .ok (.ireturn, 1) := by decide +kernel
set_option maxRecDepth 20000 in
theorem ggX2_insert_X6_put : GoodIn wsX2_insert wsX6_put := goodIn_r _ [10] (by decide +kernel) (by decide +kernel)
set_option maxRecDepth 20000 in
theorem gX2_insert_X6_put_n38 : GoodIn wsX2_insert (wsX6_put) := ggX2_insert_X6_put
theorem dX2_insert_0 : decode cX2_insert 0 = .ok (.iload_n 1, 1) := by decide +kernel
theorem dX2_insert_1 : decode cX2_insert 1 = .ok (.ifCond .lt 21, 3) := by decide +kernel
theorem dX2_insert_4 : decode cX2_insert 4 = .ok (.iload_n 1, 1) := by decide +kernel
theorem dX2_insert_5 : decode cX2_insert 5 = .ok (.aload_n 0, 1) := by decide +kernel
theorem dX2_insert_6 : decode cX2_insert 6 = .ok (.getfield 22, 3) := by decide +kernel
theorem dX2_insert_9 : decode cX2_insert 9 = .ok (.if_icmp .gt 13, 3) := by decide +kernel
theorem dX2_insert_12 : decode cX2_insert 12 = .ok (.aload_n 0, 1) := by decide +kernel
theorem dX2_insert_13 : decode cX2_insert 13 = .ok (.getfield 22, 3) := by decide +kernel
theorem dX2_insert_16 : decode cX2_insert 16 = .ok (.sipush 160, 3) := by decide +kernel
theorem dX2_insert_19 : decode cX2_insert 19 = .ok (.if_icmp .lt 4, 3) := by decide +kernel
theorem dX2_insert_22 : decode cX2_insert 22 = .ok (.return_, 1) := by decide +kernel
theorem dX2_insert_23 : decode cX2_insert 23 = .ok (.aload_n 0, 1) := by decide +kernel
theorem dX2_insert_24 : decode cX2_insert 24 = .ok (.getfield 11, 3) := by decide +kernel
theorem dX2_insert_27 : decode cX2_insert 27 = .ok (.iload_n 1, 1) := by decide +kernel
theorem dX2_insert_28 : decode cX2_insert 28 = .ok (.aload_n 0, 1) := by decide +kernel
theorem dX2_insert_29 : decode cX2_insert 29 = .ok (.getfield 11, 3) := by decide +kernel
theorem dX2_insert_32 : decode cX2_insert 32 = .ok (.iload_n 1, 1) := by decide +kernel
theorem dX2_insert_33 : decode cX2_insert 33 = .ok (.iconst 1, 1) := by decide +kernel
theorem dX2_insert_34 : decode cX2_insert 34 = .ok (.iadd, 1) := by decide +kernel
theorem dX2_insert_35 : decode cX2_insert 35 = .ok (.aload_n 0, 1) := by decide +kernel
theorem dX2_insert_36 : decode cX2_insert 36 = .ok (.getfield 22, 3) := by decide +kernel
theorem dX2_insert_39 : decode cX2_insert 39 = .ok (.iload_n 1, 1) := by decide +kernel
theorem dX2_insert_40 : decode cX2_insert 40 = .ok (.isub, 1) := by decide +kernel
theorem dX2_insert_41 : decode cX2_insert 41 = .ok (.invokestatic 42, 3) := by decide +kernel
theorem dX2_insert_44 : decode cX2_insert 44 = .ok (.aload_n 0, 1) := by decide +kernel
theorem dX2_insert_45 : decode cX2_insert 45 = .ok (.getfield 15, 3) := by decide +kernel
theorem dX2_insert_48 : decode cX2_insert 48 = .ok (.iload_n 1, 1) := by decide +kernel
theorem dX2_insert_49 : decode cX2_insert 49 = .ok (.aload_n 0, 1) := by decide +kernel
theorem dX2_insert_50 : decode cX2_insert 50 = .ok (.getfield 15, 3) := by decide +kernel
theorem dX2_insert_53 : decode cX2_insert 53 = .ok (.iload_n 1, 1) := by decide +kernel
theorem dX2_insert_54 : decode cX2_insert 54 = .ok (.iconst 1, 1) := by decide +kernel
theorem dX2_insert_55 : decode cX2_insert 55 = .ok (.iadd, 1) := by decide +kernel
theorem dX2_insert_56 : decode cX2_insert 56 = .ok (.aload_n 0, 1) := by decide +kernel
theorem dX2_insert_57 : decode cX2_insert 57 = .ok (.getfield 22, 3) := by decide +kernel
theorem dX2_insert_60 : decode cX2_insert 60 = .ok (.iload_n 1, 1) := by decide +kernel
theorem dX2_insert_61 : decode cX2_insert 61 = .ok (.isub, 1) := by decide +kernel
theorem dX2_insert_62 : decode cX2_insert 62 = .ok (.invokestatic 42, 3) := by decide +kernel
theorem dX2_insert_65 : decode cX2_insert 65 = .ok (.aload_n 0, 1) := by decide +kernel
theorem dX2_insert_66 : decode cX2_insert 66 = .ok (.getfield 11, 3) := by decide +kernel
theorem dX2_insert_69 : decode cX2_insert 69 = .ok (.iload_n 1, 1) := by decide +kernel
theorem dX2_insert_70 : decode cX2_insert 70 = .ok (.iload_n 2, 1) := by decide +kernel
theorem dX2_insert_71 : decode cX2_insert 71 = .ok (.invokestatic 38, 3) := by decide +kernel
theorem dX2_insert_74 : decode cX2_insert 74 = .ok (.aload_n 0, 1) := by decide +kernel
theorem dX2_insert_75 : decode cX2_insert 75 = .ok (.getfield 15, 3) := by decide +kernel
theorem dX2_insert_78 : decode cX2_insert 78 = .ok (.iload_n 1, 1) := by decide +kernel
theorem dX2_insert_79 : decode cX2_insert 79 = .ok (.iload_n 3, 1) := by decide +kernel
theorem dX2_insert_80 : decode cX2_insert 80 = .ok (.invokestatic 38, 3) := by decide +kernel
theorem dX2_insert_83 : decode cX2_insert 83 = .ok (.aload_n 0, 1) := by decide +kernel
theorem dX2_insert_84 : decode cX2_insert 84 = .ok (.dup, 1) := by decide +kernel
theorem dX2_insert_85 : decode cX2_insert 85 = .ok (.getfield 22, 3) := by decide +kernel
theorem dX2_insert_88 : decode cX2_insert 88 = .ok (.iconst 1, 1) := by decide +kernel
theorem dX2_insert_89 : decode cX2_insert 89 = .ok (.iadd, 1) := by decide +kernel
theorem dX2_insert_90 : decode cX2_insert 90 = .ok (.putfield 22, 3) := by decide +kernel
theorem dX2_insert_93 : decode cX2_insert 93 = .ok (.return_, 1) := by decide +kernel
theorem dX2_remove_0 : decode cX2_remove 0 = .ok (.iload_n 1, 1) := by decide +kernel
theorem dX2_remove_1 : decode cX2_remove 1 = .ok (.ifCond .lt 21, 3) := by decide +kernel
theorem dX2_remove_4 : decode cX2_remove 4 = .ok (.iload_n 1, 1) := by decide +kernel
theorem dX2_remove_5 : decode cX2_remove 5 = .ok (.aload_n 0, 1) := by decide +kernel
theorem dX2_remove_6 : decode cX2_remove 6 = .ok (.getfield 22, 3) := by decide +kernel
theorem dX2_remove_9 : decode cX2_remove 9 = .ok (.if_icmp .ge 13, 3) := by decide +kernel
theorem dX2_remove_12 : decode cX2_remove 12 = .ok (.aload_n 0, 1) := by decide +kernel
theorem dX2_remove_13 : decode cX2_remove 13 = .ok (.getfield 22, 3) := by decide +kernel
theorem dX2_remove_16 : decode cX2_remove 16 = .ok (.sipush 160, 3) := by decide +kernel
theorem dX2_remove_19 : decode cX2_remove 19 = .ok (.if_icmp .le 4, 3) := by decide +kernel
theorem dX2_remove_22 : decode cX2_remove 22 = .ok (.return_, 1) := by decide +kernel
theorem dX2_remove_23 : decode cX2_remove 23 = .ok (.aload_n 0, 1) := by decide +kernel
theorem dX2_remove_24 : decode cX2_remove 24 = .ok (.getfield 22, 3) := by decide +kernel
theorem dX2_remove_27 : decode cX2_remove 27 = .ok (.iload_n 1, 1) := by decide +kernel
theorem dX2_remove_28 : decode cX2_remove 28 = .ok (.isub, 1) := by decide +kernel
theorem dX2_remove_29 : decode cX2_remove 29 = .ok (.iconst 1, 1) := by decide +kernel
theorem dX2_remove_30 : decode cX2_remove 30 = .ok (.isub, 1) := by decide +kernel
theorem dX2_remove_31 : decode cX2_remove 31 = .ok (.istore_n 2, 1) := by decide +kernel
theorem dX2_remove_32 : decode cX2_remove 32 = .ok (.aload_n 0, 1) := by decide +kernel
theorem dX2_remove_33 : decode cX2_remove 33 = .ok (.getfield 11, 3) := by decide +kernel
theorem dX2_remove_36 : decode cX2_remove 36 = .ok (.iload_n 1, 1) := by decide +kernel
theorem dX2_remove_37 : decode cX2_remove 37 = .ok (.iconst 1, 1) := by decide +kernel
theorem dX2_remove_38 : decode cX2_remove 38 = .ok (.iadd, 1) := by decide +kernel
theorem dX2_remove_39 : decode cX2_remove 39 = .ok (.aload_n 0, 1) := by decide +kernel
theorem dX2_remove_40 : decode cX2_remove 40 = .ok (.getfield 11, 3) := by decide +kernel
theorem dX2_remove_43 : decode cX2_remove 43 = .ok (.iload_n 1, 1) := by decide +kernel
theorem dX2_remove_44 : decode cX2_remove 44 = .ok (.iload_n 2, 1) := by decide +kernel
theorem dX2_remove_45 : decode cX2_remove 45 = .ok (.invokestatic 42, 3) := by decide +kernel
theorem dX2_remove_48 : decode cX2_remove 48 = .ok (.aload_n 0, 1) := by decide +kernel
theorem dX2_remove_49 : decode cX2_remove 49 = .ok (.getfield 15, 3) := by decide +kernel
theorem dX2_remove_52 : decode cX2_remove 52 = .ok (.iload_n 1, 1) := by decide +kernel
theorem dX2_remove_53 : decode cX2_remove 53 = .ok (.iconst 1, 1) := by decide +kernel
theorem dX2_remove_54 : decode cX2_remove 54 = .ok (.iadd, 1) := by decide +kernel
theorem dX2_remove_55 : decode cX2_remove 55 = .ok (.aload_n 0, 1) := by decide +kernel
theorem dX2_remove_56 : decode cX2_remove 56 = .ok (.getfield 15, 3) := by decide +kernel
theorem dX2_remove_59 : decode cX2_remove 59 = .ok (.iload_n 1, 1) := by decide +kernel
theorem dX2_remove_60 : decode cX2_remove 60 = .ok (.iload_n 2, 1) := by decide +kernel
theorem dX2_remove_61 : decode cX2_remove 61 = .ok (.invokestatic 42, 3) := by decide +kernel
theorem dX2_remove_64 : decode cX2_remove 64 = .ok (.aload_n 0, 1) := by decide +kernel
theorem dX2_remove_65 : decode cX2_remove 65 = .ok (.dup, 1) := by decide +kernel
theorem dX2_remove_66 : decode cX2_remove 66 = .ok (.getfield 22, 3) := by decide +kernel
theorem dX2_remove_69 : decode cX2_remove 69 = .ok (.iconst 1, 1) := by decide +kernel
theorem dX2_remove_70 : decode cX2_remove 70 = .ok (.isub, 1) := by decide +kernel
theorem dX2_remove_71 : decode cX2_remove 71 = .ok (.putfield 22, 3) := by decide +kernel
theorem dX2_remove_74 : decode cX2_remove 74 = .ok (.return_, 1) := by decide +kernel
set_option maxRecDepth 20000 in
theorem ggX3_init_X5_init : GoodIn wsX3_init wsX5_init := goodIn_r _ [9, 10, 2, 3, 11, 12, 13, 14] (by decide +kernel) (by decide +kernel)
set_option maxRecDepth 20000 in
theorem gX3_init_X5_init_n11 : GoodIn wsX3_init (wsX5_init) := ggX3_init_X5_init
theorem dX3_init_0 : decode cX3_init 0 = .ok (.aload_n 0, 1) := by decide +kernel
theorem dX3_init_1 : decode cX3_init 1 = .ok (.invokespecial 3, 3) := by decide +kernel
theorem dX3_init_4 : decode cX3_init 4 = .ok (.aload_n 0, 1) := by decide +kernel
theorem dX3_init_5 : decode cX3_init 5 = .ok (.new 9, 3) := by decide +kernel
theorem dX3_init_8 : decode cX3_init 8 = .ok (.dup, 1) := by decide +kernel
theorem dX3_init_9 : decode cX3_init 9 = .ok (.invokespecial 11, 3) := by decide +kernel
theorem dX3_init_12 : decode cX3_init 12 = .ok (.putfield 12, 3) := by decide +kernel
theorem dX3_init_15 : decode cX3_init 15 = .ok (.return_, 1) := by decide +kernel
set_option maxRecDepth 20000 in
theorem ggX3_faultOf_X3_advance : GoodIn wsX3_faultOf wsX3_advance := goodIn_r _ [8, 1, 3, 9, 10, 2, 11, 12, 13, 14, 15, 16, 17, 18, 19, 7, 20, 157, 158, 159, 160, 161, 162] (by decide +kernel) (by decide +kernel)
set_option maxRecDepth 20000 in
theorem gX3_faultOf_X3_advance : GoodIn wsX3_faultOf (wsV RX3 22 RX3 yX3_advance wsX3_advance) := goodIn_app (goodIn_of _ (by decide +kernel)) ggX3_faultOf_X3_advance
set_option maxRecDepth 20000 in
theorem ggX3_faultOf_X3_readInputs : GoodIn wsX3_faultOf wsX3_readInputs := goodIn_r _ [24, 25, 26, 27, 7, 28, 29, 30, 31, 32, 2, 1, 3, 9, 33, 34, 35, 36, 37, 38, 39, 40, 41, 42, 43, 44, 11, 12, 13, 14, 15, 16, 17, 45, 46, 47, 48, 49, 50, 51, 52, 53, 54, 55, 56, 57, 58, 59, 60, 61, 62, 63, 64, 65, 66, 67, 68, 69, 70, 71, 72, 73, 74, 75, 76, 77, 78, 79, 80, 81, 4, 5, 6, 8, 10, 18, 19, 20, 82, 83, 84, 85, 86, 87, 88, 89, 90, 91, 92, 93, 94, 95, 96, 97, 98, 157, 158, 159, 160, 161, 162, 163, 164, 165, 166, 167, 168, 169, 170, 171, 172, 173] (by decide +kernel) (by decide +kernel)
set_option maxRecDepth 20000 in
theorem gX3_faultOf_X3_readInputs : GoodIn wsX3_faultOf (wsV RX3 25 RX3 yX3_readInputs wsX3_readInputs) := goodIn_app (goodIn_of _ (by decide +kernel)) ggX3_faultOf_X3_readInputs
set_option maxRecDepth 20000 in
theorem ggX3_faultOf_X3_readGates : GoodIn wsX3_faultOf wsX3_readGates := goodIn_r _ [102, 25, 26, 27, 7, 28, 29, 30, 31, 32, 2, 1, 3, 9, 33, 34, 35, 36, 37, 38, 39, 40, 41, 42, 43, 44, 11, 12, 13, 14, 15, 16, 17, 45, 46, 47, 48, 49, 50, 51, 52, 53, 54, 55, 56, 57, 58, 59, 60, 61, 62, 63, 64, 65, 66, 67, 68, 69, 70, 71, 72, 73, 74, 75, 76, 77, 78, 79, 80, 81, 4, 5, 6, 8, 10, 18, 19, 20, 103, 104, 105, 106, 107, 108, 109, 110, 111, 112, 113, 114, 115, 116, 89, 117, 92, 93, 82, 83, 84, 85, 118, 119, 120, 121, 122, 123, 124, 125, 126, 127, 128, 95, 96, 97, 98, 157, 158, 159, 160, 161, 162, 163, 164, 165, 166, 167, 168, 169, 170, 171, 172, 173] (by decide +kernel) (by decide +kernel)
set_option maxRecDepth 20000 in
theorem gX3_faultOf_X3_readGates : GoodIn wsX3_faultOf (wsV RX3 29 RX3 yX3_readGates wsX3_readGates) := goodIn_app (goodIn_of _ (by decide +kernel)) ggX3_faultOf_X3_readGates
set_option maxRecDepth 20000 in
theorem ggX3_faultOf_X3_readOutputs : GoodIn wsX3_faultOf wsX3_readOutputs := goodIn_r _ [132, 2, 25, 26, 27, 7, 28, 29, 30, 31, 32, 1, 3, 9, 33, 34, 35, 36, 37, 38, 39, 40, 41, 42, 43, 44, 11, 12, 13, 14, 15, 16, 17, 45, 46, 47, 48, 49, 50, 51, 52, 53, 54, 55, 56, 57, 58, 59, 60, 61, 62, 63, 64, 65, 66, 67, 68, 69, 70, 71, 72, 73, 74, 75, 76, 77, 78, 79, 80, 81, 4, 5, 6, 8, 10, 18, 19, 20, 114, 115, 116, 89, 117, 92, 93, 82, 83, 84, 85, 133, 134, 135, 136, 94, 137, 125, 126, 127, 95, 96, 97, 98, 157, 158, 159, 160, 161, 162, 163, 164, 165, 166, 167, 168, 169, 170, 171, 172, 173] (by decide +kernel) (by decide +kernel)
set_option maxRecDepth 20000 in
theorem gX3_faultOf_X3_readOutputs : GoodIn wsX3_faultOf (wsV RX3 32 RX3 yX3_readOutputs wsX3_readOutputs) := goodIn_app (goodIn_of _ (by decide +kernel)) ggX3_faultOf_X3_readOutputs
set_option maxRecDepth 20000 in
theorem ggX3_faultOf_X3_readTask : GoodIn wsX3_faultOf wsX3_readTask := goodIn_r _ [141, 142, 25, 26, 27, 7, 28, 29, 30, 31, 32, 2, 1, 3, 9, 33, 34, 35, 36, 37, 38, 39, 40, 41, 42, 43, 44, 11, 12, 13, 14, 15, 16, 17, 45, 46, 47, 48, 49, 50, 51, 52, 53, 54, 55, 56, 57, 58, 59, 60, 61, 62, 63, 64, 65, 66, 67, 68, 69, 70, 71, 72, 73, 74, 75, 76, 77, 78, 79, 80, 81, 4, 5, 6, 8, 10, 18, 19, 20, 143, 144, 145, 146, 147, 148, 149, 82, 83, 84, 85, 150, 151, 152, 89, 153, 154, 155, 156, 91, 95, 96, 97, 98, 163, 164, 165, 166, 167, 168, 169, 170, 171, 172, 173, 157, 158, 159, 160, 161, 162] (by decide +kernel) (by decide +kernel)
set_option maxRecDepth 20000 in
theorem gX3_faultOf_X3_readTask : GoodIn wsX3_faultOf (wsV RX3 35 RX3 yX3_readTask wsX3_readTask) := goodIn_app (goodIn_of _ (by decide +kernel)) ggX3_faultOf_X3_readTask
theorem dX3_faultOf_0 : decode cX3_faultOf 0 = .ok (.aload_n 0, 1) := by decide +kernel
theorem dX3_faultOf_1 : decode cX3_faultOf 1 = .ok (.iconst 0, 1) := by decide +kernel
theorem dX3_faultOf_2 : decode cX3_faultOf 2 = .ok (.putfield 18, 3) := by decide +kernel
theorem dX3_faultOf_5 : decode cX3_faultOf 5 = .ok (.aload_n 0, 1) := by decide +kernel
theorem dX3_faultOf_6 : decode cX3_faultOf 6 = .ok (.invokevirtual 22, 3) := by decide +kernel
theorem dX3_faultOf_9 : decode cX3_faultOf 9 = .ok (.aload_n 0, 1) := by decide +kernel
theorem dX3_faultOf_10 : decode cX3_faultOf 10 = .ok (.aload_n 1, 1) := by decide +kernel
theorem dX3_faultOf_11 : decode cX3_faultOf 11 = .ok (.invokevirtual 25, 3) := by decide +kernel
theorem dX3_faultOf_14 : decode cX3_faultOf 14 = .ok (.ifCond .eq 31, 3) := by decide +kernel
theorem dX3_faultOf_17 : decode cX3_faultOf 17 = .ok (.aload_n 0, 1) := by decide +kernel
theorem dX3_faultOf_18 : decode cX3_faultOf 18 = .ok (.aload_n 1, 1) := by decide +kernel
theorem dX3_faultOf_19 : decode cX3_faultOf 19 = .ok (.invokevirtual 29, 3) := by decide +kernel
theorem dX3_faultOf_22 : decode cX3_faultOf 22 = .ok (.ifCond .eq 23, 3) := by decide +kernel
theorem dX3_faultOf_25 : decode cX3_faultOf 25 = .ok (.aload_n 0, 1) := by decide +kernel
theorem dX3_faultOf_26 : decode cX3_faultOf 26 = .ok (.aload_n 1, 1) := by decide +kernel
theorem dX3_faultOf_27 : decode cX3_faultOf 27 = .ok (.invokevirtual 32, 3) := by decide +kernel
theorem dX3_faultOf_30 : decode cX3_faultOf 30 = .ok (.ifCond .eq 15, 3) := by decide +kernel
theorem dX3_faultOf_33 : decode cX3_faultOf 33 = .ok (.aload_n 0, 1) := by decide +kernel
theorem dX3_faultOf_34 : decode cX3_faultOf 34 = .ok (.aload_n 1, 1) := by decide +kernel
theorem dX3_faultOf_35 : decode cX3_faultOf 35 = .ok (.invokevirtual 35, 3) := by decide +kernel
theorem dX3_faultOf_38 : decode cX3_faultOf 38 = .ok (.ifCond .eq 7, 3) := by decide +kernel
theorem dX3_faultOf_41 : decode cX3_faultOf 41 = .ok (.iconst 1, 1) := by decide +kernel
theorem dX3_faultOf_42 : decode cX3_faultOf 42 = .ok (.goto 4, 3) := by decide +kernel
theorem dX3_faultOf_45 : decode cX3_faultOf 45 = .ok (.iconst 0, 1) := by decide +kernel
theorem dX3_faultOf_46 : decode cX3_faultOf 46 = .ok (.istore_n 2, 1) := by decide +kernel
theorem dX3_faultOf_47 : decode cX3_faultOf 47 = .ok (.iload_n 2, 1) := by decide +kernel
theorem dX3_faultOf_48 : decode cX3_faultOf 48 = .ok (.ifCond .eq 14, 3) := by decide +kernel
theorem dX3_faultOf_51 : decode cX3_faultOf 51 = .ok (.aload_n 0, 1) := by decide +kernel
theorem dX3_faultOf_52 : decode cX3_faultOf 52 = .ok (.getfield 38, 3) := by decide +kernel
theorem dX3_faultOf_55 : decode cX3_faultOf 55 = .ok (.ifCond .ne 7, 3) := by decide +kernel
theorem dX3_faultOf_58 : decode cX3_faultOf 58 = .ok (.iconst (-1), 1) := by decide +kernel
theorem dX3_faultOf_59 : decode cX3_faultOf 59 = .ok (.goto 7, 3) := by decide +kernel
theorem dX3_faultOf_62 : decode cX3_faultOf 62 = .ok (.aload_n 0, 1) := by decide +kernel
theorem dX3_faultOf_63 : decode cX3_faultOf 63 = .ok (.getfield 41, 3) := by decide +kernel
theorem dX3_faultOf_66 : decode cX3_faultOf 66 = .ok (.ireturn, 1) := by decide +kernel
set_option maxRecDepth 20000 in
theorem ggX3_readInputs_X3_takeWord : GoodIn wsX3_readInputs wsX3_takeWord := goodIn_r _ [5, 6, 7, 8, 4, 9, 10, 11, 12, 13, 14, 15, 16, 17, 18, 19, 20, 21, 22, 23, 24, 25, 26, 27, 28, 29, 30, 31, 32, 33, 34, 35, 36, 37, 38, 39, 40, 41, 42, 43, 44, 45, 46, 47, 48, 49, 50, 51, 52, 53, 54, 55, 56, 57, 58, 59, 60, 61, 62, 63, 64, 65, 66, 67, 68, 69, 70, 71, 72, 73, 74, 75, 76, 77, 95, 96, 97, 98, 99, 100] (by decide +kernel) (by decide +kernel)
set_option maxRecDepth 20000 in
theorem gX3_readInputs_X3_takeWord : GoodIn wsX3_readInputs (wsV RX3 46 RX3 yX3_takeWord wsX3_takeWord) := goodIn_app (goodIn_of _ (by decide +kernel)) ggX3_readInputs_X3_takeWord
set_option maxRecDepth 20000 in
theorem ggX3_readInputs_X3_takeNumber : GoodIn wsX3_readInputs wsX3_takeNumber := goodIn_r _ [81, 10, 11, 12, 13, 26, 27, 28, 29, 30, 31, 32, 70, 71, 72, 4, 73, 74, 75, 76, 77, 95, 96, 97, 98, 99, 100] (by decide +kernel) (by decide +kernel)
set_option maxRecDepth 20000 in
theorem gX3_readInputs_X3_takeNumber : GoodIn wsX3_readInputs (wsV RX3 50 RX3 yX3_takeNumber wsX3_takeNumber) := goodIn_app (goodIn_of _ (by decide +kernel)) ggX3_readInputs_X3_takeNumber
set_option maxRecDepth 20000 in
theorem ggX3_readInputs_X0_begin : GoodIn wsX3_readInputs wsX0_begin := goodIn_r _ [86, 87, 88, 89, 90, 101, 102, 103, 104, 105, 106, 107, 108, 109, 110, 111] (by decide +kernel) (by decide +kernel)
set_option maxRecDepth 20000 in
theorem gX3_readInputs_X0_begin : GoodIn wsX3_readInputs (wsV RX3 54 RX0 yX0_begin wsX0_begin) := goodIn_app (goodIn_of _ (by decide +kernel)) ggX3_readInputs_X0_begin
set_option maxRecDepth 20000 in
theorem ggX3_readInputs_X3_takeSemicolon : GoodIn wsX3_readInputs wsX3_takeSemicolon := goodIn_r _ [94, 10, 13, 12, 26, 27, 28, 29, 30, 31, 32, 70, 71, 72, 4, 73, 11, 74, 75, 76, 77, 95, 96, 97, 98, 99, 100] (by decide +kernel) (by decide +kernel)
set_option maxRecDepth 20000 in
theorem gX3_readInputs_X3_takeSemicolon : GoodIn wsX3_readInputs (wsV RX3 60 RX3 yX3_takeSemicolon wsX3_takeSemicolon) := goodIn_app (goodIn_of _ (by decide +kernel)) ggX3_readInputs_X3_takeSemicolon
theorem dX3_readInputs_0 : decode cX3_readInputs 0 = .ok (.aload_n 0, 1) := by decide +kernel
theorem dX3_readInputs_1 : decode cX3_readInputs 1 = .ok (.ldc 44, 2) := by decide +kernel
theorem dX3_readInputs_3 : decode cX3_readInputs 3 = .ok (.invokevirtual 46, 3) := by decide +kernel
theorem dX3_readInputs_6 : decode cX3_readInputs 6 = .ok (.ifCond .ne 5, 3) := by decide +kernel
theorem dX3_readInputs_9 : decode cX3_readInputs 9 = .ok (.iconst 0, 1) := by decide +kernel
theorem dX3_readInputs_10 : decode cX3_readInputs 10 = .ok (.ireturn, 1) := by decide +kernel
theorem dX3_readInputs_11 : decode cX3_readInputs 11 = .ok (.aload_n 0, 1) := by decide +kernel
theorem dX3_readInputs_12 : decode cX3_readInputs 12 = .ok (.iconst 1, 1) := by decide +kernel
theorem dX3_readInputs_13 : decode cX3_readInputs 13 = .ok (.bipush 6, 2) := by decide +kernel
theorem dX3_readInputs_15 : decode cX3_readInputs 15 = .ok (.invokevirtual 50, 3) := by decide +kernel
theorem dX3_readInputs_18 : decode cX3_readInputs 18 = .ok (.istore_n 2, 1) := by decide +kernel
theorem dX3_readInputs_19 : decode cX3_readInputs 19 = .ok (.iload_n 2, 1) := by decide +kernel
theorem dX3_readInputs_20 : decode cX3_readInputs 20 = .ok (.iconst (-1), 1) := by decide +kernel
theorem dX3_readInputs_21 : decode cX3_readInputs 21 = .ok (.if_icmp .ne 5, 3) := by decide +kernel
theorem dX3_readInputs_24 : decode cX3_readInputs 24 = .ok (.iconst 0, 1) := by decide +kernel
theorem dX3_readInputs_25 : decode cX3_readInputs 25 = .ok (.ireturn, 1) := by decide +kernel
theorem dX3_readInputs_26 : decode cX3_readInputs 26 = .ok (.aload_n 1, 1) := by decide +kernel
theorem dX3_readInputs_27 : decode cX3_readInputs 27 = .ok (.iload_n 2, 1) := by decide +kernel
theorem dX3_readInputs_28 : decode cX3_readInputs 28 = .ok (.invokevirtual 54, 3) := by decide +kernel
theorem dX3_readInputs_31 : decode cX3_readInputs 31 = .ok (.aload_n 0, 1) := by decide +kernel
theorem dX3_readInputs_32 : decode cX3_readInputs 32 = .ok (.invokevirtual 60, 3) := by decide +kernel
theorem dX3_readInputs_35 : decode cX3_readInputs 35 = .ok (.ireturn, 1) := by decide +kernel
set_option maxRecDepth 20000 in
theorem ggX3_readGates_X3_takeWord : GoodIn wsX3_readGates wsX3_takeWord := goodIn_r _ [5, 6, 7, 8, 4, 9, 10, 11, 12, 13, 14, 15, 16, 17, 18, 19, 20, 21, 22, 23, 24, 25, 26, 27, 28, 29, 30, 31, 32, 33, 34, 35, 36, 37, 38, 39, 40, 41, 42, 43, 44, 45, 46, 47, 48, 49, 50, 51, 52, 53, 54, 55, 56, 57, 58, 59, 60, 61, 62, 63, 64, 65, 66, 67, 68, 69, 70, 71, 72, 73, 74, 75, 76, 77, 115, 116, 117, 118, 119, 120] (by decide +kernel) (by decide +kernel)
set_option maxRecDepth 20000 in
theorem gX3_readGates_X3_takeWord : GoodIn wsX3_readGates (wsV RX3 46 RX3 yX3_takeWord wsX3_takeWord) := goodIn_app (goodIn_of _ (by decide +kernel)) ggX3_readGates_X3_takeWord
set_option maxRecDepth 20000 in
theorem ggX3_readGates_X3_readGate : GoodIn wsX3_readGates wsX3_readGate := goodIn_r _ [81, 82, 83, 84, 4, 85, 86, 87, 88, 6, 7, 8, 9, 10, 11, 12, 13, 14, 15, 16, 17, 18, 19, 20, 21, 22, 23, 24, 25, 26, 27, 28, 29, 30, 31, 32, 33, 34, 35, 36, 37, 38, 39, 40, 41, 42, 43, 44, 45, 46, 47, 48, 49, 50, 51, 52, 53, 54, 55, 56, 57, 58, 59, 60, 61, 62, 63, 64, 65, 66, 67, 68, 69, 70, 71, 72, 73, 74, 75, 76, 77, 89, 90, 91, 92, 93, 94, 95, 96, 97, 98, 99, 100, 101, 102, 103, 104, 105, 106, 107, 108, 109, 110, 111, 112, 113, 114, 115, 116, 117, 118, 119, 120, 121, 122, 123, 124, 125, 126, 127, 128, 129, 130, 131] (by decide +kernel) (by decide +kernel)
set_option maxRecDepth 20000 in
theorem gX3_readGates_X3_readGate : GoodIn wsX3_readGates (wsV RX3 66 RX3 yX3_readGate wsX3_readGate) := goodIn_app (goodIn_of _ (by decide +kernel)) ggX3_readGates_X3_readGate
theorem dX3_readGates_0 : decode cX3_readGates 0 = .ok (.iconst 0, 1) := by decide +kernel
theorem dX3_readGates_1 : decode cX3_readGates 1 = .ok (.istore_n 2, 1) := by decide +kernel
theorem dX3_readGates_2 : decode cX3_readGates 2 = .ok (.iload_n 2, 1) := by decide +kernel
theorem dX3_readGates_3 : decode cX3_readGates 3 = .ok (.bipush 12, 2) := by decide +kernel
theorem dX3_readGates_5 : decode cX3_readGates 5 = .ok (.if_icmp .ge 28, 3) := by decide +kernel
theorem dX3_readGates_8 : decode cX3_readGates 8 = .ok (.aload_n 0, 1) := by decide +kernel
theorem dX3_readGates_9 : decode cX3_readGates 9 = .ok (.ldc 64, 2) := by decide +kernel
theorem dX3_readGates_11 : decode cX3_readGates 11 = .ok (.invokevirtual 46, 3) := by decide +kernel
theorem dX3_readGates_14 : decode cX3_readGates 14 = .ok (.ifCond .eq 19, 3) := by decide +kernel
theorem dX3_readGates_17 : decode cX3_readGates 17 = .ok (.aload_n 0, 1) := by decide +kernel
theorem dX3_readGates_18 : decode cX3_readGates 18 = .ok (.aload_n 1, 1) := by decide +kernel
theorem dX3_readGates_19 : decode cX3_readGates 19 = .ok (.invokevirtual 66, 3) := by decide +kernel
theorem dX3_readGates_22 : decode cX3_readGates 22 = .ok (.ifCond .ne 5, 3) := by decide +kernel
theorem dX3_readGates_25 : decode cX3_readGates 25 = .ok (.iconst 0, 1) := by decide +kernel
theorem dX3_readGates_26 : decode cX3_readGates 26 = .ok (.ireturn, 1) := by decide +kernel
theorem dX3_readGates_27 : decode cX3_readGates 27 = .ok (.iinc 2 1, 3) := by decide +kernel
theorem dX3_readGates_30 : decode cX3_readGates 30 = .ok (.goto (-28), 3) := by decide +kernel
theorem dX3_readGates_33 : decode cX3_readGates 33 = .ok (.iconst 1, 1) := by decide +kernel
theorem dX3_readGates_34 : decode cX3_readGates 34 = .ok (.ireturn, 1) := by decide +kernel
set_option maxRecDepth 20000 in
theorem ggX3_readGate_X3_gateKind : GoodIn wsX3_readGate wsX3_gateKind := goodIn_r _ [5, 6, 7, 4, 8, 9, 10, 11, 12, 13, 14, 15, 16, 17, 18, 19, 20, 21, 22, 23, 24, 25, 26, 27, 28, 29, 30, 31, 32, 33, 34, 35, 36, 37, 38, 39, 40, 41, 42, 43, 44, 45, 46, 47, 48, 49, 50, 51, 52, 53, 54, 55, 56, 57, 58, 59, 60, 61, 62, 63, 64, 65, 66, 67, 68, 69, 70, 71, 72, 107, 108, 109, 110, 111, 112] (by decide +kernel) (by decide +kernel)
set_option maxRecDepth 20000 in
theorem gX3_readGate_X3_gateKind : GoodIn wsX3_readGate (wsV RX3 69 RX3 yX3_gateKind wsX3_gateKind) := goodIn_app (goodIn_of _ (by decide +kernel)) ggX3_readGate_X3_gateKind
set_option maxRecDepth 20000 in
theorem ggX3_readGate_X3_advance : GoodIn wsX3_readGate wsX3_advance := goodIn_r _ [76, 14, 15, 16, 77, 13, 29, 30, 31, 32, 33, 34, 35, 78, 79, 4, 80, 107, 108, 109, 110, 111, 112] (by decide +kernel) (by decide +kernel)
set_option maxRecDepth 20000 in
theorem gX3_readGate_X3_advance : GoodIn wsX3_readGate (wsV RX3 22 RX3 yX3_advance wsX3_advance) := goodIn_app (goodIn_of _ (by decide +kernel)) ggX3_readGate_X3_advance
set_option maxRecDepth 20000 in
theorem ggX3_readGate_X0_signals : GoodIn wsX3_readGate wsX0_signals := goodIn_r _ [85, 86, 87, 113, 114, 115, 116, 117, 118, 119, 120, 121, 122, 123] (by decide +kernel) (by decide +kernel)
set_option maxRecDepth 20000 in
theorem gX3_readGate_X0_signals : GoodIn wsX3_readGate (wsV RX3 73 RX0 yX0_signals wsX0_signals) := goodIn_app (goodIn_of _ (by decide +kernel)) ggX3_readGate_X0_signals
set_option maxRecDepth 20000 in
theorem ggX3_readGate_X3_takeNumber : GoodIn wsX3_readGate wsX3_takeNumber := goodIn_r _ [91, 13, 14, 15, 16, 29, 30, 31, 32, 33, 34, 35, 73, 74, 75, 4, 76, 77, 78, 79, 80, 107, 108, 109, 110, 111, 112] (by decide +kernel) (by decide +kernel)
set_option maxRecDepth 20000 in
theorem gX3_readGate_X3_takeNumber : GoodIn wsX3_readGate (wsV RX3 50 RX3 yX3_takeNumber wsX3_takeNumber) := goodIn_app (goodIn_of _ (by decide +kernel)) ggX3_readGate_X3_takeNumber
set_option maxRecDepth 20000 in
theorem ggX3_readGate_X0_addGate : GoodIn wsX3_readGate wsX0_addGate := goodIn_r _ [95, 87, 96, 97, 98, 99, 100, 101, 102, 82, 83, 84, 85, 86, 113, 114, 115, 116, 117, 118, 119, 120, 121, 122, 123] (by decide +kernel) (by decide +kernel)
set_option maxRecDepth 20000 in
theorem gX3_readGate_X0_addGate : GoodIn wsX3_readGate (wsV RX3 76 RX0 yX0_addGate wsX0_addGate) := goodIn_app (goodIn_of _ (by decide +kernel)) ggX3_readGate_X0_addGate
set_option maxRecDepth 20000 in
theorem ggX3_readGate_X3_takeSemicolon : GoodIn wsX3_readGate wsX3_takeSemicolon := goodIn_r _ [106, 13, 16, 15, 29, 30, 31, 32, 33, 34, 35, 73, 74, 75, 4, 76, 14, 77, 78, 79, 80, 107, 108, 109, 110, 111, 112] (by decide +kernel) (by decide +kernel)
set_option maxRecDepth 20000 in
theorem gX3_readGate_X3_takeSemicolon : GoodIn wsX3_readGate (wsV RX3 60 RX3 yX3_takeSemicolon wsX3_takeSemicolon) := goodIn_app (goodIn_of _ (by decide +kernel)) ggX3_readGate_X3_takeSemicolon
theorem dX3_readGate_0 : decode cX3_readGate 0 = .ok (.aload_n 0, 1) := by decide +kernel
theorem dX3_readGate_1 : decode cX3_readGate 1 = .ok (.invokevirtual 69, 3) := by decide +kernel
theorem dX3_readGate_4 : decode cX3_readGate 4 = .ok (.istore_n 2, 1) := by decide +kernel
theorem dX3_readGate_5 : decode cX3_readGate 5 = .ok (.iload_n 2, 1) := by decide +kernel
theorem dX3_readGate_6 : decode cX3_readGate 6 = .ok (.iconst (-1), 1) := by decide +kernel
theorem dX3_readGate_7 : decode cX3_readGate 7 = .ok (.if_icmp .ne 5, 3) := by decide +kernel
theorem dX3_readGate_10 : decode cX3_readGate 10 = .ok (.iconst 0, 1) := by decide +kernel
theorem dX3_readGate_11 : decode cX3_readGate 11 = .ok (.ireturn, 1) := by decide +kernel
theorem dX3_readGate_12 : decode cX3_readGate 12 = .ok (.aload_n 0, 1) := by decide +kernel
theorem dX3_readGate_13 : decode cX3_readGate 13 = .ok (.invokevirtual 22, 3) := by decide +kernel
theorem dX3_readGate_16 : decode cX3_readGate 16 = .ok (.aload_n 1, 1) := by decide +kernel
theorem dX3_readGate_17 : decode cX3_readGate 17 = .ok (.invokevirtual 73, 3) := by decide +kernel
theorem dX3_readGate_20 : decode cX3_readGate 20 = .ok (.iconst 1, 1) := by decide +kernel
theorem dX3_readGate_21 : decode cX3_readGate 21 = .ok (.isub, 1) := by decide +kernel
theorem dX3_readGate_22 : decode cX3_readGate 22 = .ok (.istore_n 3, 1) := by decide +kernel
theorem dX3_readGate_23 : decode cX3_readGate 23 = .ok (.aload_n 0, 1) := by decide +kernel
theorem dX3_readGate_24 : decode cX3_readGate 24 = .ok (.iconst 0, 1) := by decide +kernel
theorem dX3_readGate_25 : decode cX3_readGate 25 = .ok (.iload_n 3, 1) := by decide +kernel
theorem dX3_readGate_26 : decode cX3_readGate 26 = .ok (.invokevirtual 50, 3) := by decide +kernel
theorem dX3_readGate_29 : decode cX3_readGate 29 = .ok (.istore 4, 2) := by decide +kernel
theorem dX3_readGate_31 : decode cX3_readGate 31 = .ok (.iload 4, 2) := by decide +kernel
theorem dX3_readGate_33 : decode cX3_readGate 33 = .ok (.iconst (-1), 1) := by decide +kernel
theorem dX3_readGate_34 : decode cX3_readGate 34 = .ok (.if_icmp .ne 5, 3) := by decide +kernel
theorem dX3_readGate_37 : decode cX3_readGate 37 = .ok (.iconst 0, 1) := by decide +kernel
theorem dX3_readGate_38 : decode cX3_readGate 38 = .ok (.ireturn, 1) := by decide +kernel
theorem dX3_readGate_39 : decode cX3_readGate 39 = .ok (.iload_n 2, 1) := by decide +kernel
theorem dX3_readGate_40 : decode cX3_readGate 40 = .ok (.ifCond .ne 7, 3) := by decide +kernel
theorem dX3_readGate_43 : decode cX3_readGate 43 = .ok (.iconst (-1), 1) := by decide +kernel
theorem dX3_readGate_44 : decode cX3_readGate 44 = .ok (.goto 9, 3) := by decide +kernel
theorem dX3_readGate_47 : decode cX3_readGate 47 = .ok (.aload_n 0, 1) := by decide +kernel
theorem dX3_readGate_48 : decode cX3_readGate 48 = .ok (.iconst 0, 1) := by decide +kernel
theorem dX3_readGate_49 : decode cX3_readGate 49 = .ok (.iload_n 3, 1) := by decide +kernel
theorem dX3_readGate_50 : decode cX3_readGate 50 = .ok (.invokevirtual 50, 3) := by decide +kernel
theorem dX3_readGate_53 : decode cX3_readGate 53 = .ok (.istore 5, 2) := by decide +kernel
theorem dX3_readGate_55 : decode cX3_readGate 55 = .ok (.iload_n 2, 1) := by decide +kernel
theorem dX3_readGate_56 : decode cX3_readGate 56 = .ok (.ifCond .eq 11, 3) := by decide +kernel
theorem dX3_readGate_59 : decode cX3_readGate 59 = .ok (.iload 5, 2) := by decide +kernel
theorem dX3_readGate_61 : decode cX3_readGate 61 = .ok (.iconst (-1), 1) := by decide +kernel
theorem dX3_readGate_62 : decode cX3_readGate 62 = .ok (.if_icmp .ne 5, 3) := by decide +kernel
theorem dX3_readGate_65 : decode cX3_readGate 65 = .ok (.iconst 0, 1) := by decide +kernel
theorem dX3_readGate_66 : decode cX3_readGate 66 = .ok (.ireturn, 1) := by decide +kernel
theorem dX3_readGate_67 : decode cX3_readGate 67 = .ok (.aload_n 1, 1) := by decide +kernel
theorem dX3_readGate_68 : decode cX3_readGate 68 = .ok (.iload_n 2, 1) := by decide +kernel
theorem dX3_readGate_69 : decode cX3_readGate 69 = .ok (.iload 4, 2) := by decide +kernel
theorem dX3_readGate_71 : decode cX3_readGate 71 = .ok (.iload 5, 2) := by decide +kernel
theorem dX3_readGate_73 : decode cX3_readGate 73 = .ok (.invokevirtual 76, 3) := by decide +kernel
theorem dX3_readGate_76 : decode cX3_readGate 76 = .ok (.pop, 1) := by decide +kernel
theorem dX3_readGate_77 : decode cX3_readGate 77 = .ok (.aload_n 0, 1) := by decide +kernel
theorem dX3_readGate_78 : decode cX3_readGate 78 = .ok (.invokevirtual 60, 3) := by decide +kernel
theorem dX3_readGate_81 : decode cX3_readGate 81 = .ok (.ireturn, 1) := by decide +kernel
set_option maxRecDepth 20000 in
theorem ggX3_readOutputs_X3_takeWord : GoodIn wsX3_readOutputs wsX3_takeWord := goodIn_r _ [6, 7, 8, 9, 5, 10, 1, 11, 12, 13, 14, 15, 16, 17, 18, 19, 20, 21, 22, 23, 24, 25, 26, 27, 28, 29, 30, 31, 32, 33, 34, 35, 36, 37, 38, 39, 40, 41, 42, 43, 44, 45, 46, 47, 48, 49, 50, 51, 52, 53, 54, 55, 56, 57, 58, 59, 60, 61, 62, 63, 64, 65, 66, 67, 68, 69, 70, 71, 72, 73, 74, 75, 76, 77, 102, 103, 104, 105, 106, 107] (by decide +kernel) (by decide +kernel)
set_option maxRecDepth 20000 in
theorem gX3_readOutputs_X3_takeWord : GoodIn wsX3_readOutputs (wsV RX3 46 RX3 yX3_takeWord wsX3_takeWord) := goodIn_app (goodIn_of _ (by decide +kernel)) ggX3_readOutputs_X3_takeWord
set_option maxRecDepth 20000 in
theorem ggX3_readOutputs_X0_signals : GoodIn wsX3_readOutputs wsX0_signals := goodIn_r _ [82, 83, 84, 108, 109, 110, 111, 112, 113, 114, 115, 116, 117, 118] (by decide +kernel) (by decide +kernel)
set_option maxRecDepth 20000 in
theorem gX3_readOutputs_X0_signals : GoodIn wsX3_readOutputs (wsV RX3 73 RX0 yX0_signals wsX0_signals) := goodIn_app (goodIn_of _ (by decide +kernel)) ggX3_readOutputs_X0_signals
set_option maxRecDepth 20000 in
theorem ggX3_readOutputs_X3_takeNumber : GoodIn wsX3_readOutputs wsX3_takeNumber := goodIn_r _ [88, 1, 11, 12, 13, 26, 27, 28, 29, 30, 31, 32, 70, 71, 72, 5, 73, 74, 75, 76, 77, 102, 103, 104, 105, 106, 107] (by decide +kernel) (by decide +kernel)
set_option maxRecDepth 20000 in
theorem gX3_readOutputs_X3_takeNumber : GoodIn wsX3_readOutputs (wsV RX3 50 RX3 yX3_takeNumber wsX3_takeNumber) := goodIn_app (goodIn_of _ (by decide +kernel)) ggX3_readOutputs_X3_takeNumber
set_option maxRecDepth 20000 in
theorem ggX3_readOutputs_X0_addOutput : GoodIn wsX3_readOutputs wsX0_addOutput := goodIn_r _ [92, 93, 94, 95, 96, 97, 108, 109, 110, 111, 112, 113, 114, 115, 116, 117, 118] (by decide +kernel) (by decide +kernel)
set_option maxRecDepth 20000 in
theorem gX3_readOutputs_X0_addOutput : GoodIn wsX3_readOutputs (wsV RX3 82 RX0 yX0_addOutput wsX0_addOutput) := goodIn_app (goodIn_of _ (by decide +kernel)) ggX3_readOutputs_X0_addOutput
set_option maxRecDepth 20000 in
theorem ggX3_readOutputs_X3_takeSemicolon : GoodIn wsX3_readOutputs wsX3_takeSemicolon := goodIn_r _ [101, 1, 13, 12, 26, 27, 28, 29, 30, 31, 32, 70, 71, 72, 5, 73, 11, 74, 75, 76, 77, 102, 103, 104, 105, 106, 107] (by decide +kernel) (by decide +kernel)
set_option maxRecDepth 20000 in
theorem gX3_readOutputs_X3_takeSemicolon : GoodIn wsX3_readOutputs (wsV RX3 60 RX3 yX3_takeSemicolon wsX3_takeSemicolon) := goodIn_app (goodIn_of _ (by decide +kernel)) ggX3_readOutputs_X3_takeSemicolon
theorem dX3_readOutputs_0 : decode cX3_readOutputs 0 = .ok (.aload_n 0, 1) := by decide +kernel
theorem dX3_readOutputs_1 : decode cX3_readOutputs 1 = .ok (.ldc 80, 2) := by decide +kernel
theorem dX3_readOutputs_3 : decode cX3_readOutputs 3 = .ok (.invokevirtual 46, 3) := by decide +kernel
theorem dX3_readOutputs_6 : decode cX3_readOutputs 6 = .ok (.ifCond .ne 5, 3) := by decide +kernel
theorem dX3_readOutputs_9 : decode cX3_readOutputs 9 = .ok (.iconst 0, 1) := by decide +kernel
theorem dX3_readOutputs_10 : decode cX3_readOutputs 10 = .ok (.ireturn, 1) := by decide +kernel
theorem dX3_readOutputs_11 : decode cX3_readOutputs 11 = .ok (.aload_n 1, 1) := by decide +kernel
theorem dX3_readOutputs_12 : decode cX3_readOutputs 12 = .ok (.invokevirtual 73, 3) := by decide +kernel
theorem dX3_readOutputs_15 : decode cX3_readOutputs 15 = .ok (.iconst 1, 1) := by decide +kernel
theorem dX3_readOutputs_16 : decode cX3_readOutputs 16 = .ok (.isub, 1) := by decide +kernel
theorem dX3_readOutputs_17 : decode cX3_readOutputs 17 = .ok (.istore_n 2, 1) := by decide +kernel
theorem dX3_readOutputs_18 : decode cX3_readOutputs 18 = .ok (.iconst 0, 1) := by decide +kernel
theorem dX3_readOutputs_19 : decode cX3_readOutputs 19 = .ok (.istore_n 3, 1) := by decide +kernel
theorem dX3_readOutputs_20 : decode cX3_readOutputs 20 = .ok (.iload_n 3, 1) := by decide +kernel
theorem dX3_readOutputs_21 : decode cX3_readOutputs 21 = .ok (.bipush 7, 2) := by decide +kernel
theorem dX3_readOutputs_23 : decode cX3_readOutputs 23 = .ok (.if_icmp .ge 43, 3) := by decide +kernel
