theorem dX4_dearestOf_13 : decode cX4_dearestOf 13 = .ok (.iload_n 3, 1) := by decide +kernel
theorem dX4_dearestOf_14 : decode cX4_dearestOf 14 = .ok (.invokevirtual 142, 3) := by decide +kernel
theorem dX4_dearestOf_17 : decode cX4_dearestOf 17 = .ok (.iload_n 2, 1) := by decide +kernel
theorem dX4_dearestOf_18 : decode cX4_dearestOf 18 = .ok (.if_icmp .ne 10, 3) := by decide +kernel
theorem dX4_dearestOf_21 : decode cX4_dearestOf 21 = .ok (.aload_n 0, 1) := by decide +kernel
theorem dX4_dearestOf_22 : decode cX4_dearestOf 22 = .ok (.iload_n 1, 1) := by decide +kernel
theorem dX4_dearestOf_23 : decode cX4_dearestOf 23 = .ok (.iload_n 3, 1) := by decide +kernel
theorem dX4_dearestOf_24 : decode cX4_dearestOf 24 = .ok (.invokevirtual 113, 3) := by decide +kernel
theorem dX4_dearestOf_27 : decode cX4_dearestOf 27 = .ok (.ireturn, 1) := by decide +kernel
theorem dX4_dearestOf_28 : decode cX4_dearestOf 28 = .ok (.iinc 3 1, 3) := by decide +kernel
theorem dX4_dearestOf_31 : decode cX4_dearestOf 31 = .ok (.goto (-29), 3) := by decide +kernel
theorem dX4_dearestOf_34 : decode cX4_dearestOf 34 = .ok (.iconst (-1), 1) := by decide +kernel
theorem dX4_dearestOf_35 : decode cX4_dearestOf 35 = .ok (.ireturn, 1) := by decide +kernel
set_option maxRecDepth 20000 in
theorem ggX4_dearerThan_X4_coefficientAt : GoodIn wsX4_dearerThan wsX4_coefficientAt := goodIn_r _ [9, 10, 11, 12, 13, 20, 21, 22, 23, 24, 25] (by decide +kernel) (by decide +kernel)
set_option maxRecDepth 20000 in
theorem gX4_dearerThan_X4_coefficientAt : GoodIn wsX4_dearerThan (wsV RX4 117 RX4 yX4_coefficientAt wsX4_coefficientAt) := goodIn_app (goodIn_of _ (by decide +kernel)) ggX4_dearerThan_X4_coefficientAt
set_option maxRecDepth 20000 in
theorem ggX4_dearerThan_X4_sizeOf : GoodIn wsX4_dearerThan wsX4_sizeOf := goodIn_r _ [17, 18, 19, 11, 12, 13, 20, 21, 22, 23, 24, 25] (by decide +kernel) (by decide +kernel)
set_option maxRecDepth 20000 in
theorem gX4_dearerThan_X4_sizeOf : GoodIn wsX4_dearerThan (wsV RX4 110 RX4 yX4_sizeOf wsX4_sizeOf) := goodIn_app (goodIn_of _ (by decide +kernel)) ggX4_dearerThan_X4_sizeOf
theorem dX4_dearerThan_0 : decode cX4_dearerThan 0 = .ok (.aload_n 0, 1) := by decide +kernel
theorem dX4_dearerThan_1 : decode cX4_dearerThan 1 = .ok (.iload_n 1, 1) := by decide +kernel
theorem dX4_dearerThan_2 : decode cX4_dearerThan 2 = .ok (.iload_n 2, 1) := by decide +kernel
theorem dX4_dearerThan_3 : decode cX4_dearerThan 3 = .ok (.invokevirtual 117, 3) := by decide +kernel
theorem dX4_dearerThan_6 : decode cX4_dearerThan 6 = .ok (.invokestatic 145, 3) := by decide +kernel
theorem dX4_dearerThan_9 : decode cX4_dearerThan 9 = .ok (.istore_n 3, 1) := by decide +kernel
theorem dX4_dearerThan_10 : decode cX4_dearerThan 10 = .ok (.iconst 0, 1) := by decide +kernel
theorem dX4_dearerThan_11 : decode cX4_dearerThan 11 = .ok (.istore 4, 2) := by decide +kernel
theorem dX4_dearerThan_13 : decode cX4_dearerThan 13 = .ok (.iconst 0, 1) := by decide +kernel
theorem dX4_dearerThan_14 : decode cX4_dearerThan 14 = .ok (.istore 5, 2) := by decide +kernel
theorem dX4_dearerThan_16 : decode cX4_dearerThan 16 = .ok (.iload 5, 2) := by decide +kernel
theorem dX4_dearerThan_18 : decode cX4_dearerThan 18 = .ok (.aload_n 0, 1) := by decide +kernel
theorem dX4_dearerThan_19 : decode cX4_dearerThan 19 = .ok (.iload_n 1, 1) := by decide +kernel
theorem dX4_dearerThan_20 : decode cX4_dearerThan 20 = .ok (.invokevirtual 110, 3) := by decide +kernel
theorem dX4_dearerThan_23 : decode cX4_dearerThan 23 = .ok (.if_icmp .ge 49, 3) := by decide +kernel
theorem dX4_dearerThan_26 : decode cX4_dearerThan 26 = .ok (.aload_n 0, 1) := by decide +kernel
theorem dX4_dearerThan_27 : decode cX4_dearerThan 27 = .ok (.iload_n 1, 1) := by decide +kernel
theorem dX4_dearerThan_28 : decode cX4_dearerThan 28 = .ok (.iload 5, 2) := by decide +kernel
theorem dX4_dearerThan_30 : decode cX4_dearerThan 30 = .ok (.invokevirtual 117, 3) := by decide +kernel
theorem dX4_dearerThan_33 : decode cX4_dearerThan 33 = .ok (.invokestatic 145, 3) := by decide +kernel
theorem dX4_dearerThan_36 : decode cX4_dearerThan 36 = .ok (.istore 6, 2) := by decide +kernel
theorem dX4_dearerThan_38 : decode cX4_dearerThan 38 = .ok (.iload 4, 2) := by decide +kernel
theorem dX4_dearerThan_40 : decode cX4_dearerThan 40 = .ok (.iload 6, 2) := by decide +kernel
theorem dX4_dearerThan_42 : decode cX4_dearerThan 42 = .ok (.iload_n 3, 1) := by decide +kernel
theorem dX4_dearerThan_43 : decode cX4_dearerThan 43 = .ok (.if_icmp .gt 15, 3) := by decide +kernel
theorem dX4_dearerThan_46 : decode cX4_dearerThan 46 = .ok (.iload 6, 2) := by decide +kernel
theorem dX4_dearerThan_48 : decode cX4_dearerThan 48 = .ok (.iload_n 3, 1) := by decide +kernel
theorem dX4_dearerThan_49 : decode cX4_dearerThan 49 = .ok (.if_icmp .ne 13, 3) := by decide +kernel
theorem dX4_dearerThan_52 : decode cX4_dearerThan 52 = .ok (.iload 5, 2) := by decide +kernel
theorem dX4_dearerThan_54 : decode cX4_dearerThan 54 = .ok (.iload_n 2, 1) := by decide +kernel
theorem dX4_dearerThan_55 : decode cX4_dearerThan 55 = .ok (.if_icmp .ge 7, 3) := by decide +kernel
theorem dX4_dearerThan_58 : decode cX4_dearerThan 58 = .ok (.iconst 1, 1) := by decide +kernel
theorem dX4_dearerThan_59 : decode cX4_dearerThan 59 = .ok (.goto 4, 3) := by decide +kernel
theorem dX4_dearerThan_62 : decode cX4_dearerThan 62 = .ok (.iconst 0, 1) := by decide +kernel
theorem dX4_dearerThan_63 : decode cX4_dearerThan 63 = .ok (.iadd, 1) := by decide +kernel
theorem dX4_dearerThan_64 : decode cX4_dearerThan 64 = .ok (.istore 4, 2) := by decide +kernel
theorem dX4_dearerThan_66 : decode cX4_dearerThan 66 = .ok (.iinc 5 1, 3) := by decide +kernel
theorem dX4_dearerThan_69 : decode cX4_dearerThan 69 = .ok (.goto (-53), 3) := by decide +kernel
theorem dX4_dearerThan_72 : decode cX4_dearerThan 72 = .ok (.iload 4, 2) := by decide +kernel
theorem dX4_dearerThan_74 : decode cX4_dearerThan 74 = .ok (.ireturn, 1) := by decide +kernel
theorem dX5_init_0 : decode cX5_init 0 = .ok (.aload_n 0, 1) := by decide +kernel
theorem dX5_init_1 : decode cX5_init 1 = .ok (.invokespecial 3, 3) := by decide +kernel
theorem dX5_init_4 : decode cX5_init 4 = .ok (.aload_n 0, 1) := by decide +kernel
theorem dX5_init_5 : decode cX5_init 5 = .ok (.bipush 120, 2) := by decide +kernel
theorem dX5_init_7 : decode cX5_init 7 = .ok (.newarray .byte, 2) := by decide +kernel
theorem dX5_init_9 : decode cX5_init 9 = .ok (.putfield 9, 3) := by decide +kernel
theorem dX5_init_12 : decode cX5_init 12 = .ok (.return_, 1) := by decide +kernel
theorem dX5_append_0 : decode cX5_append 0 = .ok (.aload_n 0, 1) := by decide +kernel
theorem dX5_append_1 : decode cX5_append 1 = .ok (.getfield 15, 3) := by decide +kernel
theorem dX5_append_4 : decode cX5_append 4 = .ok (.ifCond .lt 15, 3) := by decide +kernel
theorem dX5_append_7 : decode cX5_append 7 = .ok (.aload_n 0, 1) := by decide +kernel
theorem dX5_append_8 : decode cX5_append 8 = .ok (.getfield 15, 3) := by decide +kernel
theorem dX5_append_11 : decode cX5_append 11 = .ok (.aload_n 0, 1) := by decide +kernel
theorem dX5_append_12 : decode cX5_append 12 = .ok (.getfield 9, 3) := by decide +kernel
theorem dX5_append_15 : decode cX5_append 15 = .ok (.arraylength, 1) := by decide +kernel
theorem dX5_append_16 : decode cX5_append 16 = .ok (.if_icmp .lt 5, 3) := by decide +kernel
theorem dX5_append_19 : decode cX5_append 19 = .ok (.iconst 0, 1) := by decide +kernel
theorem dX5_append_20 : decode cX5_append 20 = .ok (.ireturn, 1) := by decide +kernel
theorem dX5_append_21 : decode cX5_append 21 = .ok (.aload_n 0, 1) := by decide +kernel
theorem dX5_append_22 : decode cX5_append 22 = .ok (.getfield 9, 3) := by decide +kernel
theorem dX5_append_25 : decode cX5_append 25 = .ok (.aload_n 0, 1) := by decide +kernel
theorem dX5_append_26 : decode cX5_append 26 = .ok (.getfield 15, 3) := by decide +kernel
theorem dX5_append_29 : decode cX5_append 29 = .ok (.iload_n 1, 1) := by decide +kernel
theorem dX5_append_30 : decode cX5_append 30 = .ok (.i2b, 1) := by decide +kernel
theorem dX5_append_31 : decode cX5_append 31 = .ok (.bastore, 1) := by decide +kernel
theorem dX5_append_32 : decode cX5_append 32 = .ok (.aload_n 0, 1) := by decide +kernel
theorem dX5_append_33 : decode cX5_append 33 = .ok (.dup, 1) := by decide +kernel
theorem dX5_append_34 : decode cX5_append 34 = .ok (.getfield 15, 3) := by decide +kernel
theorem dX5_append_37 : decode cX5_append 37 = .ok (.iconst 1, 1) := by decide +kernel
theorem dX5_append_38 : decode cX5_append 38 = .ok (.iadd, 1) := by decide +kernel
theorem dX5_append_39 : decode cX5_append 39 = .ok (.putfield 15, 3) := by decide +kernel
theorem dX5_append_42 : decode cX5_append 42 = .ok (.iconst 1, 1) := by decide +kernel
theorem dX5_append_43 : decode cX5_append 43 = .ok (.ireturn, 1) := by decide +kernel
theorem dX5_byteAt_0 : decode cX5_byteAt 0 = .ok (.iload_n 1, 1) := by decide +kernel
theorem dX5_byteAt_1 : decode cX5_byteAt 1 = .ok (.ifCond .lt 29, 3) := by decide +kernel
theorem dX5_byteAt_4 : decode cX5_byteAt 4 = .ok (.iload_n 1, 1) := by decide +kernel
theorem dX5_byteAt_5 : decode cX5_byteAt 5 = .ok (.aload_n 0, 1) := by decide +kernel
theorem dX5_byteAt_6 : decode cX5_byteAt 6 = .ok (.getfield 15, 3) := by decide +kernel
theorem dX5_byteAt_9 : decode cX5_byteAt 9 = .ok (.if_icmp .ge 21, 3) := by decide +kernel
theorem dX5_byteAt_12 : decode cX5_byteAt 12 = .ok (.iload_n 1, 1) := by decide +kernel
theorem dX5_byteAt_13 : decode cX5_byteAt 13 = .ok (.aload_n 0, 1) := by decide +kernel
theorem dX5_byteAt_14 : decode cX5_byteAt 14 = .ok (.getfield 9, 3) := by decide +kernel
theorem dX5_byteAt_17 : decode cX5_byteAt 17 = .ok (.arraylength, 1) := by decide +kernel
theorem dX5_byteAt_18 : decode cX5_byteAt 18 = .ok (.if_icmp .ge 12, 3) := by decide +kernel
theorem dX5_byteAt_21 : decode cX5_byteAt 21 = .ok (.aload_n 0, 1) := by decide +kernel
theorem dX5_byteAt_22 : decode cX5_byteAt 22 = .ok (.getfield 9, 3) := by decide +kernel
theorem dX5_byteAt_25 : decode cX5_byteAt 25 = .ok (.iload_n 1, 1) := by decide +kernel
theorem dX5_byteAt_26 : decode cX5_byteAt 26 = .ok (.baload, 1) := by decide +kernel
theorem dX5_byteAt_27 : decode cX5_byteAt 27 = .ok (.goto 4, 3) := by decide +kernel
theorem dX5_byteAt_30 : decode cX5_byteAt 30 = .ok (.iconst (-1), 1) := by decide +kernel
theorem dX5_byteAt_31 : decode cX5_byteAt 31 = .ok (.ireturn, 1) := by decide +kernel
set_option maxRecDepth 20000 in
theorem ggX6_init_X3_init : GoodIn wsX6_init wsX3_init := goodIn_r _ [23, 24, 2, 3, 25, 26, 27, 28, 29, 30, 31, 32, 33, 93, 94, 62, 63, 64, 65] (by decide +kernel) (by decide +kernel)
set_option maxRecDepth 20000 in
theorem gX6_init_X3_init_n11 : GoodIn wsX6_init (wsX3_init) := ggX6_init_X3_init
set_option maxRecDepth 20000 in
theorem ggX6_init_X0_init : GoodIn wsX6_init wsX0_init := goodIn_r _ [35, 36, 2, 3, 37, 38, 39, 40, 41, 75, 76, 77, 78, 79, 80, 81, 82, 83, 84, 85] (by decide +kernel) (by decide +kernel)
set_option maxRecDepth 20000 in
theorem gX6_init_X0_init_n18 : GoodIn wsX6_init (wsX0_init) := ggX6_init_X0_init
set_option maxRecDepth 20000 in
theorem ggX6_init_X1_init : GoodIn wsX6_init wsX1_init := goodIn_r _ [43, 44, 2, 3, 45, 46, 86] (by decide +kernel) (by decide +kernel)
set_option maxRecDepth 20000 in
theorem gX6_init_X1_init_n28 : GoodIn wsX6_init (wsX1_init) := ggX6_init_X1_init
set_option maxRecDepth 20000 in
theorem ggX6_init_X4_init : GoodIn wsX6_init wsX4_init := goodIn_r _ [48, 49, 2, 3, 37, 50, 51, 52, 53, 54, 55, 56, 57, 58, 59, 60, 61, 87, 88, 89, 90, 91, 92, 95, 96, 97] (by decide +kernel) (by decide +kernel)
set_option maxRecDepth 20000 in
theorem gX6_init_X4_init_n38 : GoodIn wsX6_init (wsX4_init) := ggX6_init_X4_init
theorem dX6_init_0 : decode cX6_init 0 = .ok (.aload_n 0, 1) := by decide +kernel
theorem dX6_init_1 : decode cX6_init 1 = .ok (.invokespecial 3, 3) := by decide +kernel
theorem dX6_init_4 : decode cX6_init 4 = .ok (.aload_n 0, 1) := by decide +kernel
theorem dX6_init_5 : decode cX6_init 5 = .ok (.new 9, 3) := by decide +kernel
theorem dX6_init_8 : decode cX6_init 8 = .ok (.dup, 1) := by decide +kernel
theorem dX6_init_9 : decode cX6_init 9 = .ok (.invokespecial 11, 3) := by decide +kernel
theorem dX6_init_12 : decode cX6_init 12 = .ok (.putfield 12, 3) := by decide +kernel
theorem dX6_init_15 : decode cX6_init 15 = .ok (.aload_n 0, 1) := by decide +kernel
theorem dX6_init_16 : decode cX6_init 16 = .ok (.new 16, 3) := by decide +kernel
theorem dX6_init_19 : decode cX6_init 19 = .ok (.dup, 1) := by decide +kernel
theorem dX6_init_20 : decode cX6_init 20 = .ok (.invokespecial 18, 3) := by decide +kernel
theorem dX6_init_23 : decode cX6_init 23 = .ok (.putfield 19, 3) := by decide +kernel
theorem dX6_init_26 : decode cX6_init 26 = .ok (.aload_n 0, 1) := by decide +kernel
theorem dX6_init_27 : decode cX6_init 27 = .ok (.new 16, 3) := by decide +kernel
theorem dX6_init_30 : decode cX6_init 30 = .ok (.dup, 1) := by decide +kernel
theorem dX6_init_31 : decode cX6_init 31 = .ok (.invokespecial 18, 3) := by decide +kernel
theorem dX6_init_34 : decode cX6_init 34 = .ok (.putfield 23, 3) := by decide +kernel
theorem dX6_init_37 : decode cX6_init 37 = .ok (.aload_n 0, 1) := by decide +kernel
theorem dX6_init_38 : decode cX6_init 38 = .ok (.new 26, 3) := by decide +kernel
theorem dX6_init_41 : decode cX6_init 41 = .ok (.dup, 1) := by decide +kernel
theorem dX6_init_42 : decode cX6_init 42 = .ok (.invokespecial 28, 3) := by decide +kernel
theorem dX6_init_45 : decode cX6_init 45 = .ok (.putfield 29, 3) := by decide +kernel
theorem dX6_init_48 : decode cX6_init 48 = .ok (.aload_n 0, 1) := by decide +kernel
theorem dX6_init_49 : decode cX6_init 49 = .ok (.new 26, 3) := by decide +kernel
theorem dX6_init_52 : decode cX6_init 52 = .ok (.dup, 1) := by decide +kernel
theorem dX6_init_53 : decode cX6_init 53 = .ok (.invokespecial 28, 3) := by decide +kernel
theorem dX6_init_56 : decode cX6_init 56 = .ok (.putfield 33, 3) := by decide +kernel
theorem dX6_init_59 : decode cX6_init 59 = .ok (.aload_n 0, 1) := by decide +kernel
theorem dX6_init_60 : decode cX6_init 60 = .ok (.new 36, 3) := by decide +kernel
theorem dX6_init_63 : decode cX6_init 63 = .ok (.dup, 1) := by decide +kernel
theorem dX6_init_64 : decode cX6_init 64 = .ok (.invokespecial 38, 3) := by decide +kernel
theorem dX6_init_67 : decode cX6_init 67 = .ok (.putfield 39, 3) := by decide +kernel
theorem dX6_init_70 : decode cX6_init 70 = .ok (.return_, 1) := by decide +kernel
set_option maxRecDepth 20000 in
theorem ggX6_type_X6_refused : GoodIn wsX6_type wsX6_refused := goodIn_r _ [8, 9, 10, 11, 19, 20, 21, 22, 23, 24, 25, 26, 27] (by decide +kernel) (by decide +kernel)
set_option maxRecDepth 20000 in
theorem gX6_type_X6_refused : GoodIn wsX6_type (wsV RX6 43 RX6 yX6_refused wsX6_refused) := goodIn_app (goodIn_of _ (by decide +kernel)) ggX6_type_X6_refused
set_option maxRecDepth 20000 in
theorem ggX6_type_X5_append : GoodIn wsX6_type wsX5_append := goodIn_r _ [16, 17, 18, 32, 33] (by decide +kernel) (by decide +kernel)
set_option maxRecDepth 20000 in
theorem gX6_type_X5_append : GoodIn wsX6_type (wsV RX6 51 RX5 yX5_append wsX5_append) := goodIn_app (goodIn_of _ (by decide +kernel)) ggX6_type_X5_append
theorem dX6_type_0 : decode cX6_type 0 = .ok (.iload_n 1, 1) := by decide +kernel
theorem dX6_type_1 : decode cX6_type 1 = .ok (.ifCond .lt 9, 3) := by decide +kernel
theorem dX6_type_4 : decode cX6_type 4 = .ok (.iload_n 1, 1) := by decide +kernel
theorem dX6_type_5 : decode cX6_type 5 = .ok (.bipush 127, 2) := by decide +kernel
theorem dX6_type_7 : decode cX6_type 7 = .ok (.if_icmp .le 10, 3) := by decide +kernel
theorem dX6_type_10 : decode cX6_type 10 = .ok (.aload_n 0, 1) := by decide +kernel
theorem dX6_type_11 : decode cX6_type 11 = .ok (.bipush (-2), 2) := by decide +kernel
theorem dX6_type_13 : decode cX6_type 13 = .ok (.invokevirtual 43, 3) := by decide +kernel
theorem dX6_type_16 : decode cX6_type 16 = .ok (.ireturn, 1) := by decide +kernel
theorem dX6_type_17 : decode cX6_type 17 = .ok (.aload_n 0, 1) := by decide +kernel
theorem dX6_type_18 : decode cX6_type 18 = .ok (.getfield 12, 3) := by decide +kernel
theorem dX6_type_21 : decode cX6_type 21 = .ok (.getfield 47, 3) := by decide +kernel
theorem dX6_type_24 : decode cX6_type 24 = .ok (.iload_n 1, 1) := by decide +kernel
theorem dX6_type_25 : decode cX6_type 25 = .ok (.invokevirtual 51, 3) := by decide +kernel
theorem dX6_type_28 : decode cX6_type 28 = .ok (.ifCond .eq 16, 3) := by decide +kernel
theorem dX6_type_31 : decode cX6_type 31 = .ok (.aload_n 0, 1) := by decide +kernel
theorem dX6_type_32 : decode cX6_type 32 = .ok (.getfield 12, 3) := by decide +kernel
theorem dX6_type_35 : decode cX6_type 35 = .ok (.getfield 47, 3) := by decide +kernel
theorem dX6_type_38 : decode cX6_type 38 = .ok (.getfield 57, 3) := by decide +kernel
theorem dX6_type_41 : decode cX6_type 41 = .ok (.goto 9, 3) := by decide +kernel
theorem dX6_type_44 : decode cX6_type 44 = .ok (.aload_n 0, 1) := by decide +kernel
theorem dX6_type_45 : decode cX6_type 45 = .ok (.bipush (-4), 2) := by decide +kernel
theorem dX6_type_47 : decode cX6_type 47 = .ok (.invokevirtual 43, 3) := by decide +kernel
theorem dX6_type_50 : decode cX6_type 50 = .ok (.ireturn, 1) := by decide +kernel
theorem dX6_clear_0 : decode cX6_clear 0 = .ok (.aload_n 0, 1) := by decide +kernel
theorem dX6_clear_1 : decode cX6_clear 1 = .ok (.getfield 12, 3) := by decide +kernel
theorem dX6_clear_4 : decode cX6_clear 4 = .ok (.getfield 47, 3) := by decide +kernel
theorem dX6_clear_7 : decode cX6_clear 7 = .ok (.getfield 57, 3) := by decide +kernel
theorem dX6_clear_10 : decode cX6_clear 10 = .ok (.istore_n 1, 1) := by decide +kernel
theorem dX6_clear_11 : decode cX6_clear 11 = .ok (.aload_n 0, 1) := by decide +kernel
theorem dX6_clear_12 : decode cX6_clear 12 = .ok (.getfield 12, 3) := by decide +kernel
theorem dX6_clear_15 : decode cX6_clear 15 = .ok (.getfield 47, 3) := by decide +kernel
theorem dX6_clear_18 : decode cX6_clear 18 = .ok (.iconst 0, 1) := by decide +kernel
theorem dX6_clear_19 : decode cX6_clear 19 = .ok (.putfield 57, 3) := by decide +kernel
theorem dX6_clear_22 : decode cX6_clear 22 = .ok (.iload_n 1, 1) := by decide +kernel
theorem dX6_clear_23 : decode cX6_clear 23 = .ok (.ireturn, 1) := by decide +kernel
set_option maxRecDepth 20000 in
theorem ggX6_reads_X3_faultOf : GoodIn wsX6_reads wsX3_faultOf := goodIn_r _ [8, 9, 10, 11, 12, 13, 14, 7, 15, 16, 17, 18, 19, 20, 21, 22, 23, 24, 25, 26, 27, 28, 29, 30, 31, 32, 33, 34, 35, 36, 37, 38, 39, 40, 41, 42, 43, 44, 45, 46, 47, 48, 49, 50, 51, 52, 53, 54, 55, 56, 57, 58, 59, 60, 61, 62, 63, 64, 65, 66, 67, 68, 69, 70, 71, 72, 73, 74, 75, 76, 77, 78, 79, 80, 81, 82, 83, 84, 85, 86, 87, 88, 89, 90, 91, 92, 93, 94, 95, 96, 97, 98, 99, 100, 101, 102, 103, 104, 105, 106, 107, 108, 109, 110, 111, 112, 113, 114, 115, 116, 117, 118, 119, 120, 121, 122, 123, 124, 125, 126, 127, 128, 129, 130, 131, 132, 133, 134, 135, 136, 137, 138, 139, 140, 141, 142, 143, 144, 145, 146, 147, 148, 149, 150, 151, 152, 153, 154, 155, 156, 157, 158, 159, 160, 161, 162, 163, 234, 235, 236, 237, 238, 239, 240, 241, 242, 243, 244, 245, 246, 247, 248, 249, 250] (by decide +kernel) (by decide +kernel)
set_option maxRecDepth 20000 in
theorem gX6_reads_X3_faultOf : GoodIn wsX6_reads (wsV RX6 61 RX3 yX3_faultOf wsX3_faultOf) := goodIn_app (goodIn_of _ (by decide +kernel)) ggX6_reads_X3_faultOf
set_option maxRecDepth 20000 in
theorem ggX6_reads_X0_become : GoodIn wsX6_reads wsX0_become := goodIn_r _ [167, 99, 100, 101, 161, 162, 163, 168, 94, 95, 96, 97, 98, 169, 170, 171, 172, 129, 173, 133, 174, 175, 176, 177, 178, 130, 179, 180, 181, 182, 131, 183, 126, 127, 128, 132, 134, 135, 122, 123, 124, 184, 185, 186, 187, 144, 188, 141, 142, 143, 189, 158, 159, 160, 240, 241, 242, 243, 244, 245, 246, 247, 248, 249, 250] (by decide +kernel) (by decide +kernel)
set_option maxRecDepth 20000 in
theorem gX6_reads_X0_become : GoodIn wsX6_reads (wsV RX6 65 RX0 yX0_become wsX0_become) := goodIn_app (goodIn_of _ (by decide +kernel)) ggX6_reads_X0_become
set_option maxRecDepth 20000 in
theorem ggX6_reads_X6_changed : GoodIn wsX6_reads wsX6_changed := goodIn_r _ [193, 194, 3, 195, 196, 197, 198, 199, 200, 201, 202, 203, 204, 205, 206, 170, 171, 96, 172, 129, 173, 133, 174, 207, 208, 209, 210, 211, 212, 176, 177, 178, 130, 213, 214, 215, 216, 217, 180, 181, 182, 131, 218, 219, 220, 221, 222, 223, 224, 225, 226, 227, 228, 229, 230, 231, 232, 233, 240, 241, 242, 243, 244, 245, 246, 247, 248, 249, 250, 251, 252, 253, 254, 255, 256, 257] (by decide +kernel) (by decide +kernel)
set_option maxRecDepth 20000 in
theorem gX6_reads_X6_changed : GoodIn wsX6_reads (wsV RX6 69 RX6 yX6_changed wsX6_changed) := goodIn_app (goodIn_of _ (by decide +kernel)) ggX6_reads_X6_changed
theorem dX6_reads_0 : decode cX6_reads 0 = .ok (.aload_n 0, 1) := by decide +kernel
theorem dX6_reads_1 : decode cX6_reads 1 = .ok (.getfield 12, 3) := by decide +kernel
theorem dX6_reads_4 : decode cX6_reads 4 = .ok (.aload_n 0, 1) := by decide +kernel
theorem dX6_reads_5 : decode cX6_reads 5 = .ok (.getfield 23, 3) := by decide +kernel
theorem dX6_reads_8 : decode cX6_reads 8 = .ok (.invokevirtual 61, 3) := by decide +kernel
theorem dX6_reads_11 : decode cX6_reads 11 = .ok (.istore_n 1, 1) := by decide +kernel
theorem dX6_reads_12 : decode cX6_reads 12 = .ok (.iload_n 1, 1) := by decide +kernel
theorem dX6_reads_13 : decode cX6_reads 13 = .ok (.iconst (-1), 1) := by decide +kernel
theorem dX6_reads_14 : decode cX6_reads 14 = .ok (.if_icmp .eq 8, 3) := by decide +kernel
theorem dX6_reads_17 : decode cX6_reads 17 = .ok (.bipush (-10), 2) := by decide +kernel
theorem dX6_reads_19 : decode cX6_reads 19 = .ok (.iload_n 1, 1) := by decide +kernel
theorem dX6_reads_20 : decode cX6_reads 20 = .ok (.isub, 1) := by decide +kernel
theorem dX6_reads_21 : decode cX6_reads 21 = .ok (.ireturn, 1) := by decide +kernel
theorem dX6_reads_22 : decode cX6_reads 22 = .ok (.aload_n 0, 1) := by decide +kernel
theorem dX6_reads_23 : decode cX6_reads 23 = .ok (.getfield 19, 3) := by decide +kernel
theorem dX6_reads_26 : decode cX6_reads 26 = .ok (.aload_n 0, 1) := by decide +kernel
theorem dX6_reads_27 : decode cX6_reads 27 = .ok (.getfield 23, 3) := by decide +kernel
theorem dX6_reads_30 : decode cX6_reads 30 = .ok (.invokevirtual 65, 3) := by decide +kernel
theorem dX6_reads_33 : decode cX6_reads 33 = .ok (.aload_n 0, 1) := by decide +kernel
theorem dX6_reads_34 : decode cX6_reads 34 = .ok (.invokevirtual 69, 3) := by decide +kernel
theorem dX6_reads_37 : decode cX6_reads 37 = .ok (.ireturn, 1) := by decide +kernel
set_option maxRecDepth 20000 in
theorem ggX6_kind_X6_isGate : GoodIn wsX6_kind wsX6_isGate := goodIn_r _ [7, 1, 8, 9, 80, 81, 82, 83, 84, 85, 86, 87, 88, 89, 90, 91, 92, 93, 94, 95, 96, 97, 98, 99] (by decide +kernel) (by decide +kernel)
set_option maxRecDepth 20000 in
theorem gX6_kind_X6_isGate : GoodIn wsX6_kind (wsV RX6 73 RX6 yX6_isGate wsX6_isGate) := goodIn_app (goodIn_of _ (by decide +kernel)) ggX6_kind_X6_isGate
set_option maxRecDepth 20000 in
theorem ggX6_kind_X0_mayPut : GoodIn wsX6_kind wsX0_mayPut := goodIn_r _ [14, 15, 16, 17, 18, 13, 19, 20, 21, 6, 22, 89, 90, 91, 92, 93, 94, 95, 96, 97, 98, 99] (by decide +kernel) (by decide +kernel)
set_option maxRecDepth 20000 in
theorem gX6_kind_X0_mayPut : GoodIn wsX6_kind (wsV RX6 76 RX0 yX0_mayPut wsX0_mayPut) := goodIn_app (goodIn_of _ (by decide +kernel)) ggX6_kind_X0_mayPut
set_option maxRecDepth 20000 in
theorem ggX6_kind_X6_refusal : GoodIn wsX6_kind wsX6_refusal := goodIn_r _ [26, 1, 8, 27, 28, 29, 6, 30, 31, 32, 33, 80, 81, 82, 83, 84, 85, 86, 87, 88, 89, 90, 91, 92, 93, 94, 95, 96, 97, 98, 99] (by decide +kernel) (by decide +kernel)
set_option maxRecDepth 20000 in
theorem gX6_kind_X6_refusal : GoodIn wsX6_kind (wsV RX6 80 RX6 yX6_refusal wsX6_refusal) := goodIn_app (goodIn_of _ (by decide +kernel)) ggX6_kind_X6_refusal
set_option maxRecDepth 20000 in
theorem ggX6_kind_X0_kindOf : GoodIn wsX6_kind wsX0_kindOf := goodIn_r _ [19, 20, 21, 6, 22, 89, 90, 91, 92, 93, 94, 95, 96, 97, 98, 99] (by decide +kernel) (by decide +kernel)
set_option maxRecDepth 20000 in
theorem gX6_kind_X0_kindOf : GoodIn wsX6_kind (wsV RX6 84 RX0 yX0_kindOf wsX0_kindOf) := goodIn_app (goodIn_of _ (by decide +kernel)) ggX6_kind_X0_kindOf
set_option maxRecDepth 20000 in
theorem ggX6_kind_X6_put : GoodIn wsX6_kind wsX6_put := goodIn_r _ [37] (by decide +kernel) (by decide +kernel)
set_option maxRecDepth 20000 in
theorem gX6_kind_X6_put : GoodIn wsX6_kind (va_wsS RX6 91 yX6_put wsX6_put) := goodIn_app (goodIn_of _ (by decide +kernel)) ggX6_kind_X6_put
set_option maxRecDepth 20000 in
theorem ggX6_kind_X6_changed : GoodIn wsX6_kind wsX6_changed := goodIn_r _ [41, 42, 1, 43, 9, 44, 45, 46, 47, 48, 49, 50, 51, 52, 53, 17, 18, 13, 19, 20, 21, 6, 22, 54, 55, 56, 57, 58, 59, 60, 61, 62, 63, 64, 65, 66, 67, 68, 69, 70, 71, 72, 73, 74, 75, 76, 77, 78, 79, 80, 81, 82, 83, 84, 85, 86, 87, 88, 89, 90, 91, 92, 93, 94, 95, 96, 97, 98, 99, 100, 101, 102, 103, 104, 105, 106] (by decide +kernel) (by decide +kernel)
set_option maxRecDepth 20000 in
theorem gX6_kind_X6_changed : GoodIn wsX6_kind (wsV RX6 69 RX6 yX6_changed wsX6_changed) := goodIn_app (goodIn_of _ (by decide +kernel)) ggX6_kind_X6_changed
theorem dX6_kind_0 : decode cX6_kind 0 = .ok (.aload_n 0, 1) := by decide +kernel
theorem dX6_kind_1 : decode cX6_kind 1 = .ok (.aload_n 0, 1) := by decide +kernel
theorem dX6_kind_2 : decode cX6_kind 2 = .ok (.iload_n 1, 1) := by decide +kernel
theorem dX6_kind_3 : decode cX6_kind 3 = .ok (.invokevirtual 73, 3) := by decide +kernel
theorem dX6_kind_6 : decode cX6_kind 6 = .ok (.ifCond .eq 19, 3) := by decide +kernel
theorem dX6_kind_9 : decode cX6_kind 9 = .ok (.aload_n 0, 1) := by decide +kernel
theorem dX6_kind_10 : decode cX6_kind 10 = .ok (.getfield 19, 3) := by decide +kernel
theorem dX6_kind_13 : decode cX6_kind 13 = .ok (.iload_n 1, 1) := by decide +kernel
theorem dX6_kind_14 : decode cX6_kind 14 = .ok (.iload_n 2, 1) := by decide +kernel
theorem dX6_kind_15 : decode cX6_kind 15 = .ok (.invokevirtual 76, 3) := by decide +kernel
theorem dX6_kind_18 : decode cX6_kind 18 = .ok (.ifCond .eq 7, 3) := by decide +kernel
theorem dX6_kind_21 : decode cX6_kind 21 = .ok (.iconst 1, 1) := by decide +kernel
theorem dX6_kind_22 : decode cX6_kind 22 = .ok (.goto 4, 3) := by decide +kernel
theorem dX6_kind_25 : decode cX6_kind 25 = .ok (.iconst 0, 1) := by decide +kernel
theorem dX6_kind_26 : decode cX6_kind 26 = .ok (.invokevirtual 80, 3) := by decide +kernel
theorem dX6_kind_29 : decode cX6_kind 29 = .ok (.istore_n 3, 1) := by decide +kernel
theorem dX6_kind_30 : decode cX6_kind 30 = .ok (.iload_n 3, 1) := by decide +kernel
theorem dX6_kind_31 : decode cX6_kind 31 = .ok (.ifCond .eq 5, 3) := by decide +kernel
theorem dX6_kind_34 : decode cX6_kind 34 = .ok (.iload_n 3, 1) := by decide +kernel
theorem dX6_kind_35 : decode cX6_kind 35 = .ok (.ireturn, 1) := by decide +kernel
theorem dX6_kind_36 : decode cX6_kind 36 = .ok (.aload_n 0, 1) := by decide +kernel
theorem dX6_kind_37 : decode cX6_kind 37 = .ok (.getfield 19, 3) := by decide +kernel
theorem dX6_kind_40 : decode cX6_kind 40 = .ok (.iload_n 1, 1) := by decide +kernel
theorem dX6_kind_41 : decode cX6_kind 41 = .ok (.invokevirtual 84, 3) := by decide +kernel
theorem dX6_kind_44 : decode cX6_kind 44 = .ok (.istore 4, 2) := by decide +kernel
theorem dX6_kind_46 : decode cX6_kind 46 = .ok (.aload_n 0, 1) := by decide +kernel
theorem dX6_kind_47 : decode cX6_kind 47 = .ok (.getfield 19, 3) := by decide +kernel
theorem dX6_kind_50 : decode cX6_kind 50 = .ok (.getfield 87, 3) := by decide +kernel
theorem dX6_kind_53 : decode cX6_kind 53 = .ok (.iload_n 1, 1) := by decide +kernel
theorem dX6_kind_54 : decode cX6_kind 54 = .ok (.iload_n 2, 1) := by decide +kernel
theorem dX6_kind_55 : decode cX6_kind 55 = .ok (.invokestatic 91, 3) := by decide +kernel
theorem dX6_kind_58 : decode cX6_kind 58 = .ok (.aload_n 0, 1) := by decide +kernel
theorem dX6_kind_59 : decode cX6_kind 59 = .ok (.invokevirtual 69, 3) := by decide +kernel
theorem dX6_kind_62 : decode cX6_kind 62 = .ok (.pop, 1) := by decide +kernel
theorem dX6_kind_63 : decode cX6_kind 63 = .ok (.iload 4, 2) := by decide +kernel
theorem dX6_kind_65 : decode cX6_kind 65 = .ok (.ireturn, 1) := by decide +kernel
set_option maxRecDepth 20000 in
theorem ggX6_wire_X6_isGate : GoodIn wsX6_wire wsX6_isGate := goodIn_r _ [8, 1, 9, 10, 85, 86, 87, 88, 89, 90, 91, 92, 93, 94, 95, 96, 97, 98, 99, 100, 101, 102, 103, 104] (by decide +kernel) (by decide +kernel)
set_option maxRecDepth 20000 in
theorem gX6_wire_X6_isGate : GoodIn wsX6_wire (wsV RX6 73 RX6 yX6_isGate wsX6_isGate) := goodIn_app (goodIn_of _ (by decide +kernel)) ggX6_wire_X6_isGate
set_option maxRecDepth 20000 in
theorem ggX6_wire_X6_isWay : GoodIn wsX6_wire wsX6_isWay := goodIn_r _ [14, 1, 9, 15, 16, 17, 18, 19, 20, 21, 7, 22, 85, 86, 87, 88, 89, 90, 91, 92, 93, 94, 95, 96, 97, 98, 99, 100, 101, 102, 103, 104] (by decide +kernel) (by decide +kernel)
set_option maxRecDepth 20000 in
theorem gX6_wire_X6_isWay : GoodIn wsX6_wire (wsV RX6 95 RX6 yX6_isWay wsX6_isWay) := goodIn_app (goodIn_of _ (by decide +kernel)) ggX6_wire_X6_isWay
set_option maxRecDepth 20000 in
theorem ggX6_wire_X6_isAhead : GoodIn wsX6_wire wsX6_isAhead := goodIn_r _ [26, 1, 9, 27, 85, 86, 87, 88, 89, 90, 91, 92, 93, 94, 95, 96, 97, 98, 99, 100, 101, 102, 103, 104] (by decide +kernel) (by decide +kernel)
set_option maxRecDepth 20000 in
theorem gX6_wire_X6_isAhead : GoodIn wsX6_wire (wsV RX6 98 RX6 yX6_isAhead wsX6_isAhead) := goodIn_app (goodIn_of _ (by decide +kernel)) ggX6_wire_X6_isAhead
set_option maxRecDepth 20000 in
theorem ggX6_wire_X6_refusal : GoodIn wsX6_wire wsX6_refusal := goodIn_r _ [31, 1, 9, 32, 33, 34, 7, 35, 36, 37, 38, 85, 86, 87, 88, 89, 90, 91, 92, 93, 94, 95, 96, 97, 98, 99, 100, 101, 102, 103, 104] (by decide +kernel) (by decide +kernel)
set_option maxRecDepth 20000 in
theorem gX6_wire_X6_refusal : GoodIn wsX6_wire (wsV RX6 80 RX6 yX6_refusal wsX6_refusal) := goodIn_app (goodIn_of _ (by decide +kernel)) ggX6_wire_X6_refusal
set_option maxRecDepth 20000 in
theorem ggX6_wire_X6_at : GoodIn wsX6_wire wsX6_at := goodIn_r _ [22] (by decide +kernel) (by decide +kernel)
set_option maxRecDepth 20000 in
theorem gX6_wire_X6_at : GoodIn wsX6_wire (va_wsS RX6 107 yX6_at wsX6_at) := goodIn_app (goodIn_of _ (by decide +kernel)) ggX6_wire_X6_at
set_option maxRecDepth 20000 in
theorem ggX6_wire_X6_put : GoodIn wsX6_wire wsX6_put := goodIn_r _ [42] (by decide +kernel) (by decide +kernel)
set_option maxRecDepth 20000 in
theorem gX6_wire_X6_put : GoodIn wsX6_wire (va_wsS RX6 91 yX6_put wsX6_put) := goodIn_app (goodIn_of _ (by decide +kernel)) ggX6_wire_X6_put
set_option maxRecDepth 20000 in
theorem ggX6_wire_X6_changed : GoodIn wsX6_wire wsX6_changed := goodIn_r _ [46, 47, 1, 48, 10, 49, 50, 51, 52, 53, 54, 55, 56, 57, 58, 16, 17, 18, 19, 20, 21, 7, 22, 59, 60, 61, 62, 63, 64, 65, 66, 67, 68, 69, 70, 71, 72, 73, 74, 75, 76, 77, 78, 79, 80, 81, 82, 83, 84, 85, 86, 87, 88, 89, 90, 91, 92, 93, 94, 95, 96, 97, 98, 99, 100, 101, 102, 103, 104, 105, 106, 107, 108, 109, 110, 111] (by decide +kernel) (by decide +kernel)
set_option maxRecDepth 20000 in
theorem gX6_wire_X6_changed : GoodIn wsX6_wire (wsV RX6 69 RX6 yX6_changed wsX6_changed) := goodIn_app (goodIn_of _ (by decide +kernel)) ggX6_wire_X6_changed
theorem dX6_wire_0 : decode cX6_wire 0 = .ok (.aload_n 0, 1) := by decide +kernel
theorem dX6_wire_1 : decode cX6_wire 1 = .ok (.aload_n 0, 1) := by decide +kernel
theorem dX6_wire_2 : decode cX6_wire 2 = .ok (.iload_n 1, 1) := by decide +kernel
theorem dX6_wire_3 : decode cX6_wire 3 = .ok (.invokevirtual 73, 3) := by decide +kernel
theorem dX6_wire_6 : decode cX6_wire 6 = .ok (.ifCond .eq 25, 3) := by decide +kernel
theorem dX6_wire_9 : decode cX6_wire 9 = .ok (.aload_n 0, 1) := by decide +kernel
theorem dX6_wire_10 : decode cX6_wire 10 = .ok (.iload_n 1, 1) := by decide +kernel
theorem dX6_wire_11 : decode cX6_wire 11 = .ok (.iload_n 2, 1) := by decide +kernel
theorem dX6_wire_12 : decode cX6_wire 12 = .ok (.invokevirtual 95, 3) := by decide +kernel
theorem dX6_wire_15 : decode cX6_wire 15 = .ok (.ifCond .eq 16, 3) := by decide +kernel
theorem dX6_wire_18 : decode cX6_wire 18 = .ok (.aload_n 0, 1) := by decide +kernel
theorem dX6_wire_19 : decode cX6_wire 19 = .ok (.iload_n 1, 1) := by decide +kernel
theorem dX6_wire_20 : decode cX6_wire 20 = .ok (.iload_n 3, 1) := by decide +kernel
theorem dX6_wire_21 : decode cX6_wire 21 = .ok (.invokevirtual 98, 3) := by decide +kernel
theorem dX6_wire_24 : decode cX6_wire 24 = .ok (.ifCond .eq 7, 3) := by decide +kernel
theorem dX6_wire_27 : decode cX6_wire 27 = .ok (.iconst 1, 1) := by decide +kernel
theorem dX6_wire_28 : decode cX6_wire 28 = .ok (.goto 4, 3) := by decide +kernel
theorem dX6_wire_31 : decode cX6_wire 31 = .ok (.iconst 0, 1) := by decide +kernel
theorem dX6_wire_32 : decode cX6_wire 32 = .ok (.invokevirtual 80, 3) := by decide +kernel
theorem dX6_wire_35 : decode cX6_wire 35 = .ok (.istore 4, 2) := by decide +kernel
theorem dX6_wire_37 : decode cX6_wire 37 = .ok (.iload 4, 2) := by decide +kernel
theorem dX6_wire_39 : decode cX6_wire 39 = .ok (.ifCond .eq 6, 3) := by decide +kernel
theorem dX6_wire_42 : decode cX6_wire 42 = .ok (.iload 4, 2) := by decide +kernel
theorem dX6_wire_44 : decode cX6_wire 44 = .ok (.ireturn, 1) := by decide +kernel
theorem dX6_wire_45 : decode cX6_wire 45 = .ok (.iload_n 2, 1) := by decide +kernel
theorem dX6_wire_46 : decode cX6_wire 46 = .ok (.ifCond .ne 13, 3) := by decide +kernel
theorem dX6_wire_49 : decode cX6_wire 49 = .ok (.aload_n 0, 1) := by decide +kernel
theorem dX6_wire_50 : decode cX6_wire 50 = .ok (.getfield 19, 3) := by decide +kernel
theorem dX6_wire_53 : decode cX6_wire 53 = .ok (.getfield 101, 3) := by decide +kernel
theorem dX6_wire_56 : decode cX6_wire 56 = .ok (.goto 10, 3) := by decide +kernel
theorem dX6_wire_59 : decode cX6_wire 59 = .ok (.aload_n 0, 1) := by decide +kernel
theorem dX6_wire_60 : decode cX6_wire 60 = .ok (.getfield 19, 3) := by decide +kernel
theorem dX6_wire_63 : decode cX6_wire 63 = .ok (.getfield 104, 3) := by decide +kernel
theorem dX6_wire_66 : decode cX6_wire 66 = .ok (.astore 5, 2) := by decide +kernel
theorem dX6_wire_68 : decode cX6_wire 68 = .ok (.aload 5, 2) := by decide +kernel
theorem dX6_wire_70 : decode cX6_wire 70 = .ok (.iload_n 1, 1) := by decide +kernel
theorem dX6_wire_71 : decode cX6_wire 71 = .ok (.invokestatic 107, 3) := by decide +kernel
theorem dX6_wire_74 : decode cX6_wire 74 = .ok (.istore 6, 2) := by decide +kernel
theorem dX6_wire_76 : decode cX6_wire 76 = .ok (.aload 5, 2) := by decide +kernel
theorem dX6_wire_78 : decode cX6_wire 78 = .ok (.iload_n 1, 1) := by decide +kernel
theorem dX6_wire_79 : decode cX6_wire 79 = .ok (.iload_n 3, 1) := by decide +kernel
theorem dX6_wire_80 : decode cX6_wire 80 = .ok (.invokestatic 91, 3) := by decide +kernel
theorem dX6_wire_83 : decode cX6_wire 83 = .ok (.aload_n 0, 1) := by decide +kernel
theorem dX6_wire_84 : decode cX6_wire 84 = .ok (.invokevirtual 69, 3) := by decide +kernel
theorem dX6_wire_87 : decode cX6_wire 87 = .ok (.pop, 1) := by decide +kernel
theorem dX6_wire_88 : decode cX6_wire 88 = .ok (.iload 6, 2) := by decide +kernel
theorem dX6_wire_90 : decode cX6_wire 90 = .ok (.ireturn, 1) := by decide +kernel
set_option maxRecDepth 20000 in
theorem ggX6_of_X6_isGate : GoodIn wsX6_of wsX6_isGate := goodIn_r _ [7, 1, 8, 9, 52, 53, 54, 55, 56, 57, 58, 59, 60, 61, 62, 63, 64, 65, 66, 67, 68, 69, 70, 71] (by decide +kernel) (by decide +kernel)
set_option maxRecDepth 20000 in
theorem gX6_of_X6_isGate : GoodIn wsX6_of (wsV RX6 73 RX6 yX6_isGate wsX6_isGate) := goodIn_app (goodIn_of _ (by decide +kernel)) ggX6_of_X6_isGate
set_option maxRecDepth 20000 in
theorem ggX6_of_X6_refusal : GoodIn wsX6_of wsX6_refusal := goodIn_r _ [13, 1, 8, 14, 15, 16, 6, 17, 18, 19, 20, 52, 53, 54, 55, 56, 57, 58, 59, 60, 61, 62, 63, 64, 65, 66, 67, 68, 69, 70, 71] (by decide +kernel) (by decide +kernel)
set_option maxRecDepth 20000 in
theorem gX6_of_X6_refusal : GoodIn wsX6_of (wsV RX6 80 RX6 yX6_refusal wsX6_refusal) := goodIn_app (goodIn_of _ (by decide +kernel)) ggX6_of_X6_refusal
set_option maxRecDepth 20000 in
theorem ggX6_of_X0_kindOf : GoodIn wsX6_of wsX0_kindOf := goodIn_r _ [25, 26, 27, 6, 28, 61, 62, 63, 64, 65, 66, 67, 68, 69, 70, 71] (by decide +kernel) (by decide +kernel)
set_option maxRecDepth 20000 in
theorem gX6_of_X0_kindOf : GoodIn wsX6_of (wsV RX6 84 RX0 yX0_kindOf wsX0_kindOf) := goodIn_app (goodIn_of _ (by decide +kernel)) ggX6_of_X0_kindOf
set_option maxRecDepth 20000 in
theorem ggX6_of_X0_xOf : GoodIn wsX6_of wsX0_xOf := goodIn_r _ [32, 33, 27, 6, 28, 61, 62, 63, 64, 65, 66, 67, 68, 69, 70, 71] (by decide +kernel) (by decide +kernel)
set_option maxRecDepth 20000 in
theorem gX6_of_X0_xOf : GoodIn wsX6_of (wsV RX6 111 RX0 yX0_xOf wsX0_xOf) := goodIn_app (goodIn_of _ (by decide +kernel)) ggX6_of_X0_xOf
set_option maxRecDepth 20000 in
theorem ggX6_of_X0_yOf : GoodIn wsX6_of wsX0_yOf := goodIn_r _ [37, 38, 27, 6, 28, 61, 62, 63, 64, 65, 66, 67, 68, 69, 70, 71] (by decide +kernel) (by decide +kernel)
set_option maxRecDepth 20000 in
theorem gX6_of_X0_yOf : GoodIn wsX6_of (wsV RX6 114 RX0 yX0_yOf wsX0_yOf) := goodIn_app (goodIn_of _ (by decide +kernel)) ggX6_of_X0_yOf
set_option maxRecDepth 20000 in
theorem ggX6_of_X0_usesOf : GoodIn wsX6_of wsX0_usesOf := goodIn_r _ [42, 43, 44, 45, 30, 31, 24, 32, 33, 27, 6, 28, 46, 35, 36, 37, 38, 47, 48, 49, 50, 51, 61, 62, 63, 64, 65, 66, 67, 68, 69, 70, 71] (by decide +kernel) (by decide +kernel)
set_option maxRecDepth 20000 in
theorem gX6_of_X0_usesOf : GoodIn wsX6_of (wsV RX6 120 RX0 yX0_usesOf wsX0_usesOf) := goodIn_app (goodIn_of _ (by decide +kernel)) ggX6_of_X0_usesOf
theorem dX6_of_0 : decode cX6_of 0 = .ok (.aload_n 0, 1) := by decide +kernel
theorem dX6_of_1 : decode cX6_of 1 = .ok (.aload_n 0, 1) := by decide +kernel
theorem dX6_of_2 : decode cX6_of 2 = .ok (.iload_n 1, 1) := by decide +kernel
theorem dX6_of_3 : decode cX6_of 3 = .ok (.invokevirtual 73, 3) := by decide +kernel
theorem dX6_of_6 : decode cX6_of 6 = .ok (.ifCond .eq 16, 3) := by decide +kernel
theorem dX6_of_9 : decode cX6_of 9 = .ok (.iload_n 2, 1) := by decide +kernel
theorem dX6_of_10 : decode cX6_of 10 = .ok (.ifCond .lt 12, 3) := by decide +kernel
theorem dX6_of_13 : decode cX6_of 13 = .ok (.iload_n 2, 1) := by decide +kernel
theorem dX6_of_14 : decode cX6_of 14 = .ok (.iconst 3, 1) := by decide +kernel
theorem dX6_of_15 : decode cX6_of 15 = .ok (.if_icmp .gt 7, 3) := by decide +kernel
theorem dX6_of_18 : decode cX6_of 18 = .ok (.iconst 1, 1) := by decide +kernel
theorem dX6_of_19 : decode cX6_of 19 = .ok (.goto 4, 3) := by decide +kernel
theorem dX6_of_22 : decode cX6_of 22 = .ok (.iconst 0, 1) := by decide +kernel
theorem dX6_of_23 : decode cX6_of 23 = .ok (.invokevirtual 80, 3) := by decide +kernel
theorem dX6_of_26 : decode cX6_of 26 = .ok (.istore_n 3, 1) := by decide +kernel
theorem dX6_of_27 : decode cX6_of 27 = .ok (.iload_n 3, 1) := by decide +kernel
theorem dX6_of_28 : decode cX6_of 28 = .ok (.ifCond .eq 5, 3) := by decide +kernel
theorem dX6_of_31 : decode cX6_of 31 = .ok (.iload_n 3, 1) := by decide +kernel
theorem dX6_of_32 : decode cX6_of 32 = .ok (.ireturn, 1) := by decide +kernel
theorem dX6_of_33 : decode cX6_of 33 = .ok (.iload_n 2, 1) := by decide +kernel
theorem dX6_of_34 : decode cX6_of 34 = .ok (.tableswitch 53 0 2 #[26, 35, 44], 26) := by decide +kernel
theorem dX6_of_60 : decode cX6_of 60 = .ok (.aload_n 0, 1) := by decide +kernel
theorem dX6_of_61 : decode cX6_of 61 = .ok (.getfield 19, 3) := by decide +kernel
theorem dX6_of_64 : decode cX6_of 64 = .ok (.iload_n 1, 1) := by decide +kernel
theorem dX6_of_65 : decode cX6_of 65 = .ok (.invokevirtual 84, 3) := by decide +kernel
theorem dX6_of_68 : decode cX6_of 68 = .ok (.ireturn, 1) := by decide +kernel
theorem dX6_of_69 : decode cX6_of 69 = .ok (.aload_n 0, 1) := by decide +kernel
theorem dX6_of_70 : decode cX6_of 70 = .ok (.getfield 19, 3) := by decide +kernel
theorem dX6_of_73 : decode cX6_of 73 = .ok (.iload_n 1, 1) := by decide +kernel
theorem dX6_of_74 : decode cX6_of 74 = .ok (.invokevirtual 111, 3) := by decide +kernel
theorem dX6_of_77 : decode cX6_of 77 = .ok (.ireturn, 1) := by decide +kernel
theorem dX6_of_78 : decode cX6_of 78 = .ok (.aload_n 0, 1) := by decide +kernel
theorem dX6_of_79 : decode cX6_of 79 = .ok (.getfield 19, 3) := by decide +kernel
theorem dX6_of_82 : decode cX6_of 82 = .ok (.iload_n 1, 1) := by decide +kernel
theorem dX6_of_83 : decode cX6_of 83 = .ok (.invokevirtual 114, 3) := by decide +kernel
theorem dX6_of_86 : decode cX6_of 86 = .ok (.ireturn, 1) := by decide +kernel
theorem dX6_of_87 : decode cX6_of 87 = .ok (.aload_n 0, 1) := by decide +kernel
theorem dX6_of_88 : decode cX6_of 88 = .ok (.getfield 19, 3) := by decide +kernel
theorem dX6_of_91 : decode cX6_of 91 = .ok (.aload_n 0, 1) := by decide +kernel
theorem dX6_of_92 : decode cX6_of 92 = .ok (.getfield 19, 3) := by decide +kernel
theorem dX6_of_95 : decode cX6_of 95 = .ok (.getfield 117, 3) := by decide +kernel
theorem dX6_of_98 : decode cX6_of 98 = .ok (.iload_n 1, 1) := by decide +kernel
theorem dX6_of_99 : decode cX6_of 99 = .ok (.iadd, 1) := by decide +kernel
theorem dX6_of_100 : decode cX6_of 100 = .ok (.invokevirtual 120, 3) := by decide +kernel
theorem dX6_of_103 : decode cX6_of 103 = .ok (.ireturn, 1) := by decide +kernel
set_option maxRecDepth 20000 in
theorem ggX6_told_X6_isPlace : GoodIn wsX6_told wsX6_isPlace := goodIn_r _ [9, 1, 10, 11, 31, 32, 33, 34, 35, 36, 37, 38, 39, 40, 41, 42, 43, 44, 45, 46, 47, 48, 49, 50] (by decide +kernel) (by decide +kernel)
set_option maxRecDepth 20000 in
theorem gX6_told_X6_isPlace : GoodIn wsX6_told (wsV RX6 123 RX6 yX6_isPlace wsX6_isPlace) := goodIn_app (goodIn_of _ (by decide +kernel)) ggX6_told_X6_isPlace
set_option maxRecDepth 20000 in
theorem ggX6_told_X6_refusal : GoodIn wsX6_told wsX6_refusal := goodIn_r _ [15, 1, 10, 16, 17, 18, 8, 19, 20, 21, 22, 31, 32, 33, 34, 35, 36, 37, 38, 39, 40, 41, 42, 43, 44, 45, 46, 47, 48, 49, 50] (by decide +kernel) (by decide +kernel)
set_option maxRecDepth 20000 in
theorem gX6_told_X6_refusal : GoodIn wsX6_told (wsV RX6 80 RX6 yX6_refusal wsX6_refusal) := goodIn_app (goodIn_of _ (by decide +kernel)) ggX6_told_X6_refusal
set_option maxRecDepth 20000 in
theorem ggX6_told_X0_outputAt : GoodIn wsX6_told wsX0_outputAt := goodIn_r _ [27, 28, 29, 8, 30, 40, 41, 42, 43, 44, 45, 46, 47, 48, 49, 50] (by decide +kernel) (by decide +kernel)
set_option maxRecDepth 20000 in
theorem gX6_told_X0_outputAt : GoodIn wsX6_told (wsV RX6 126 RX0 yX0_outputAt wsX0_outputAt) := goodIn_app (goodIn_of _ (by decide +kernel)) ggX6_told_X0_outputAt
theorem dX6_told_0 : decode cX6_told 0 = .ok (.iload_n 1, 1) := by decide +kernel
theorem dX6_told_1 : decode cX6_told 1 = .ok (.ifCond .ne 11, 3) := by decide +kernel
theorem dX6_told_4 : decode cX6_told 4 = .ok (.aload_n 0, 1) := by decide +kernel
theorem dX6_told_5 : decode cX6_told 5 = .ok (.iload_n 2, 1) := by decide +kernel
theorem dX6_told_6 : decode cX6_told 6 = .ok (.invokevirtual 123, 3) := by decide +kernel
theorem dX6_told_9 : decode cX6_told 9 = .ok (.goto 22, 3) := by decide +kernel
theorem dX6_told_12 : decode cX6_told 12 = .ok (.iload_n 1, 1) := by decide +kernel
theorem dX6_told_13 : decode cX6_told 13 = .ok (.iconst 1, 1) := by decide +kernel
theorem dX6_told_14 : decode cX6_told 14 = .ok (.if_icmp .lt 16, 3) := by decide +kernel
theorem dX6_told_17 : decode cX6_told 17 = .ok (.iload_n 1, 1) := by decide +kernel
theorem dX6_told_18 : decode cX6_told 18 = .ok (.iconst 3, 1) := by decide +kernel
theorem dX6_told_19 : decode cX6_told 19 = .ok (.if_icmp .gt 11, 3) := by decide +kernel
theorem dX6_told_22 : decode cX6_told 22 = .ok (.iload_n 2, 1) := by decide +kernel
theorem dX6_told_23 : decode cX6_told 23 = .ok (.ifCond .ne 7, 3) := by decide +kernel
theorem dX6_told_26 : decode cX6_told 26 = .ok (.iconst 1, 1) := by decide +kernel
theorem dX6_told_27 : decode cX6_told 27 = .ok (.goto 4, 3) := by decide +kernel
theorem dX6_told_30 : decode cX6_told 30 = .ok (.iconst 0, 1) := by decide +kernel
theorem dX6_told_31 : decode cX6_told 31 = .ok (.istore_n 3, 1) := by decide +kernel
theorem dX6_told_32 : decode cX6_told 32 = .ok (.aload_n 0, 1) := by decide +kernel
theorem dX6_told_33 : decode cX6_told 33 = .ok (.iload_n 3, 1) := by decide +kernel
theorem dX6_told_34 : decode cX6_told 34 = .ok (.invokevirtual 80, 3) := by decide +kernel
theorem dX6_told_37 : decode cX6_told 37 = .ok (.istore 4, 2) := by decide +kernel
theorem dX6_told_39 : decode cX6_told 39 = .ok (.iload 4, 2) := by decide +kernel
theorem dX6_told_41 : decode cX6_told 41 = .ok (.ifCond .eq 6, 3) := by decide +kernel
theorem dX6_told_44 : decode cX6_told 44 = .ok (.iload 4, 2) := by decide +kernel
theorem dX6_told_46 : decode cX6_told 46 = .ok (.ireturn, 1) := by decide +kernel
theorem dX6_told_47 : decode cX6_told 47 = .ok (.iload_n 1, 1) := by decide +kernel
theorem dX6_told_48 : decode cX6_told 48 = .ok (.tableswitch 53 0 2 #[28, 37, 45], 28) := by decide +kernel
theorem dX6_told_76 : decode cX6_told 76 = .ok (.aload_n 0, 1) := by decide +kernel
theorem dX6_told_77 : decode cX6_told 77 = .ok (.getfield 19, 3) := by decide +kernel
theorem dX6_told_80 : decode cX6_told 80 = .ok (.iload_n 2, 1) := by decide +kernel
theorem dX6_told_81 : decode cX6_told 81 = .ok (.invokevirtual 126, 3) := by decide +kernel
theorem dX6_told_84 : decode cX6_told 84 = .ok (.ireturn, 1) := by decide +kernel
theorem dX6_told_85 : decode cX6_told 85 = .ok (.aload_n 0, 1) := by decide +kernel
theorem dX6_told_86 : decode cX6_told 86 = .ok (.getfield 19, 3) := by decide +kernel
theorem dX6_told_89 : decode cX6_told 89 = .ok (.getfield 129, 3) := by decide +kernel
theorem dX6_told_92 : decode cX6_told 92 = .ok (.ireturn, 1) := by decide +kernel
theorem dX6_told_93 : decode cX6_told 93 = .ok (.aload_n 0, 1) := by decide +kernel
theorem dX6_told_94 : decode cX6_told 94 = .ok (.getfield 19, 3) := by decide +kernel
theorem dX6_told_97 : decode cX6_told 97 = .ok (.getfield 132, 3) := by decide +kernel
theorem dX6_told_100 : decode cX6_told 100 = .ok (.ireturn, 1) := by decide +kernel
theorem dX6_told_101 : decode cX6_told 101 = .ok (.aload_n 0, 1) := by decide +kernel
theorem dX6_told_102 : decode cX6_told 102 = .ok (.getfield 19, 3) := by decide +kernel
theorem dX6_told_105 : decode cX6_told 105 = .ok (.getfield 135, 3) := by decide +kernel
theorem dX6_told_108 : decode cX6_told 108 = .ok (.ireturn, 1) := by decide +kernel
set_option maxRecDepth 20000 in
theorem ggX6_adder_X6_refused : GoodIn wsX6_adder wsX6_refused := goodIn_r _ [6, 7, 8, 9, 90, 91, 92, 93, 94, 95, 96, 97, 98] (by decide +kernel) (by decide +kernel)
set_option maxRecDepth 20000 in
theorem gX6_adder_X6_refused : GoodIn wsX6_adder (wsV RX6 43 RX6 yX6_refused wsX6_refused) := goodIn_app (goodIn_of _ (by decide +kernel)) ggX6_adder_X6_refused
set_option maxRecDepth 20000 in
theorem ggX6_adder_X0_begin : GoodIn wsX6_adder wsX0_begin := goodIn_r _ [14, 15, 16, 17, 18, 99, 100, 101, 102, 103, 104, 105, 106, 107, 108, 109] (by decide +kernel) (by decide +kernel)
set_option maxRecDepth 20000 in
theorem gX6_adder_X0_begin : GoodIn wsX6_adder (wsV RX6 138 RX0 yX0_begin wsX0_begin) := goodIn_app (goodIn_of _ (by decide +kernel)) ggX6_adder_X0_begin
set_option maxRecDepth 20000 in
theorem ggX6_adder_X0_addGate : GoodIn wsX6_adder wsX0_addGate := goodIn_r _ [22, 17, 23, 24, 25, 26, 5, 27, 28, 29, 30, 13, 31, 16, 99, 100, 101, 102, 103, 104, 105, 106, 107, 108, 109] (by decide +kernel) (by decide +kernel)
set_option maxRecDepth 20000 in
theorem gX6_adder_X0_addGate : GoodIn wsX6_adder (wsV RX6 142 RX0 yX0_addGate wsX0_addGate) := goodIn_app (goodIn_of _ (by decide +kernel)) ggX6_adder_X0_addGate
set_option maxRecDepth 20000 in
theorem ggX6_adder_X0_addOutput : GoodIn wsX6_adder wsX0_addOutput := goodIn_r _ [35, 18, 36, 26, 5, 27, 99, 100, 101, 102, 103, 104, 105, 106, 107, 108, 109] (by decide +kernel) (by decide +kernel)
set_option maxRecDepth 20000 in
theorem gX6_adder_X0_addOutput : GoodIn wsX6_adder (wsV RX6 146 RX0 yX0_addOutput wsX0_addOutput) := goodIn_app (goodIn_of _ (by decide +kernel)) ggX6_adder_X0_addOutput
set_option maxRecDepth 20000 in
theorem ggX6_adder_X0_end : GoodIn wsX6_adder wsX0_end := goodIn_r _ [40, 41, 42, 43, 15, 99, 100, 101, 102, 103, 104, 105, 106, 107, 108, 109] (by decide +kernel) (by decide +kernel)
set_option maxRecDepth 20000 in
theorem gX6_adder_X0_end : GoodIn wsX6_adder (wsV RX6 149 RX0 yX0_end wsX0_end) := goodIn_app (goodIn_of _ (by decide +kernel)) ggX6_adder_X0_end
set_option maxRecDepth 20000 in
theorem ggX6_adder_X6_changed : GoodIn wsX6_adder wsX6_changed := goodIn_r _ [47, 48, 1, 49, 50, 51, 52, 53, 54, 55, 56, 57, 58, 59, 60, 61, 62, 13, 63, 23, 64, 5, 65, 66, 67, 68, 69, 70, 71, 72, 73, 74, 24, 75, 76, 77, 78, 79, 80, 81, 82, 25, 83, 84, 85, 86, 87, 88, 89, 90, 91, 92, 93, 94, 95, 96, 97, 98, 99, 100, 101, 102, 103, 104, 105, 106, 107, 108, 109, 110, 111, 112, 113, 114, 115, 116] (by decide +kernel) (by decide +kernel)
set_option maxRecDepth 20000 in
theorem gX6_adder_X6_changed : GoodIn wsX6_adder (wsV RX6 69 RX6 yX6_changed wsX6_changed) := goodIn_app (goodIn_of _ (by decide +kernel)) ggX6_adder_X6_changed
theorem dX6_adder_0 : decode cX6_adder 0 = .ok (.iload_n 1, 1) := by decide +kernel
theorem dX6_adder_1 : decode cX6_adder 1 = .ok (.iconst 1, 1) := by decide +kernel
theorem dX6_adder_2 : decode cX6_adder 2 = .ok (.if_icmp .lt 8, 3) := by decide +kernel
theorem dX6_adder_5 : decode cX6_adder 5 = .ok (.iload_n 1, 1) := by decide +kernel
theorem dX6_adder_6 : decode cX6_adder 6 = .ok (.iconst 3, 1) := by decide +kernel
theorem dX6_adder_7 : decode cX6_adder 7 = .ok (.if_icmp .le 10, 3) := by decide +kernel
theorem dX6_adder_10 : decode cX6_adder 10 = .ok (.aload_n 0, 1) := by decide +kernel
theorem dX6_adder_11 : decode cX6_adder 11 = .ok (.bipush (-2), 2) := by decide +kernel
theorem dX6_adder_13 : decode cX6_adder 13 = .ok (.invokevirtual 43, 3) := by decide +kernel
theorem dX6_adder_16 : decode cX6_adder 16 = .ok (.ireturn, 1) := by decide +kernel
theorem dX6_adder_17 : decode cX6_adder 17 = .ok (.aload_n 0, 1) := by decide +kernel
theorem dX6_adder_18 : decode cX6_adder 18 = .ok (.getfield 19, 3) := by decide +kernel
theorem dX6_adder_21 : decode cX6_adder 21 = .ok (.iconst 2, 1) := by decide +kernel
theorem dX6_adder_22 : decode cX6_adder 22 = .ok (.iload_n 1, 1) := by decide +kernel
theorem dX6_adder_23 : decode cX6_adder 23 = .ok (.imul, 1) := by decide +kernel
theorem dX6_adder_24 : decode cX6_adder 24 = .ok (.invokevirtual 138, 3) := by decide +kernel
theorem dX6_adder_27 : decode cX6_adder 27 = .ok (.aload_n 0, 1) := by decide +kernel
theorem dX6_adder_28 : decode cX6_adder 28 = .ok (.getfield 19, 3) := by decide +kernel
theorem dX6_adder_31 : decode cX6_adder 31 = .ok (.aload_n 0, 1) := by decide +kernel
theorem dX6_adder_32 : decode cX6_adder 32 = .ok (.getfield 19, 3) := by decide +kernel
theorem dX6_adder_35 : decode cX6_adder 35 = .ok (.iconst 3, 1) := by decide +kernel
theorem dX6_adder_36 : decode cX6_adder 36 = .ok (.iconst 0, 1) := by decide +kernel
theorem dX6_adder_37 : decode cX6_adder 37 = .ok (.iload_n 1, 1) := by decide +kernel
theorem dX6_adder_38 : decode cX6_adder 38 = .ok (.invokevirtual 142, 3) := by decide +kernel
theorem dX6_adder_41 : decode cX6_adder 41 = .ok (.invokevirtual 146, 3) := by decide +kernel
theorem dX6_adder_44 : decode cX6_adder 44 = .ok (.aload_n 0, 1) := by decide +kernel
theorem dX6_adder_45 : decode cX6_adder 45 = .ok (.getfield 19, 3) := by decide +kernel
theorem dX6_adder_48 : decode cX6_adder 48 = .ok (.iconst 1, 1) := by decide +kernel
theorem dX6_adder_49 : decode cX6_adder 49 = .ok (.iconst 0, 1) := by decide +kernel
theorem dX6_adder_50 : decode cX6_adder 50 = .ok (.iload_n 1, 1) := by decide +kernel
theorem dX6_adder_51 : decode cX6_adder 51 = .ok (.invokevirtual 142, 3) := by decide +kernel
theorem dX6_adder_54 : decode cX6_adder 54 = .ok (.istore_n 2, 1) := by decide +kernel
theorem dX6_adder_55 : decode cX6_adder 55 = .ok (.iconst 1, 1) := by decide +kernel
theorem dX6_adder_56 : decode cX6_adder 56 = .ok (.istore_n 3, 1) := by decide +kernel
theorem dX6_adder_57 : decode cX6_adder 57 = .ok (.iload_n 3, 1) := by decide +kernel
theorem dX6_adder_58 : decode cX6_adder 58 = .ok (.iload_n 1, 1) := by decide +kernel
theorem dX6_adder_59 : decode cX6_adder 59 = .ok (.if_icmp .ge 81, 3) := by decide +kernel
theorem dX6_adder_62 : decode cX6_adder 62 = .ok (.aload_n 0, 1) := by decide +kernel
theorem dX6_adder_63 : decode cX6_adder 63 = .ok (.getfield 19, 3) := by decide +kernel
theorem dX6_adder_66 : decode cX6_adder 66 = .ok (.iconst 3, 1) := by decide +kernel
theorem dX6_adder_67 : decode cX6_adder 67 = .ok (.iload_n 3, 1) := by decide +kernel
theorem dX6_adder_68 : decode cX6_adder 68 = .ok (.iload_n 1, 1) := by decide +kernel
theorem dX6_adder_69 : decode cX6_adder 69 = .ok (.iload_n 3, 1) := by decide +kernel
theorem dX6_adder_70 : decode cX6_adder 70 = .ok (.iadd, 1) := by decide +kernel
theorem dX6_adder_71 : decode cX6_adder 71 = .ok (.invokevirtual 142, 3) := by decide +kernel
theorem dX6_adder_74 : decode cX6_adder 74 = .ok (.istore 4, 2) := by decide +kernel
theorem dX6_adder_76 : decode cX6_adder 76 = .ok (.aload_n 0, 1) := by decide +kernel
theorem dX6_adder_77 : decode cX6_adder 77 = .ok (.getfield 19, 3) := by decide +kernel
theorem dX6_adder_80 : decode cX6_adder 80 = .ok (.aload_n 0, 1) := by decide +kernel
theorem dX6_adder_81 : decode cX6_adder 81 = .ok (.getfield 19, 3) := by decide +kernel
theorem dX6_adder_84 : decode cX6_adder 84 = .ok (.iconst 3, 1) := by decide +kernel
theorem dX6_adder_85 : decode cX6_adder 85 = .ok (.iload 4, 2) := by decide +kernel
theorem dX6_adder_87 : decode cX6_adder 87 = .ok (.iload_n 2, 1) := by decide +kernel
theorem dX6_adder_88 : decode cX6_adder 88 = .ok (.invokevirtual 142, 3) := by decide +kernel
theorem dX6_adder_91 : decode cX6_adder 91 = .ok (.invokevirtual 146, 3) := by decide +kernel
theorem dX6_adder_94 : decode cX6_adder 94 = .ok (.aload_n 0, 1) := by decide +kernel
theorem dX6_adder_95 : decode cX6_adder 95 = .ok (.getfield 19, 3) := by decide +kernel
theorem dX6_adder_98 : decode cX6_adder 98 = .ok (.iconst 1, 1) := by decide +kernel
theorem dX6_adder_99 : decode cX6_adder 99 = .ok (.iload_n 3, 1) := by decide +kernel
theorem dX6_adder_100 : decode cX6_adder 100 = .ok (.iload_n 1, 1) := by decide +kernel
theorem dX6_adder_101 : decode cX6_adder 101 = .ok (.iload_n 3, 1) := by decide +kernel
theorem dX6_adder_102 : decode cX6_adder 102 = .ok (.iadd, 1) := by decide +kernel
theorem dX6_adder_103 : decode cX6_adder 103 = .ok (.invokevirtual 142, 3) := by decide +kernel
theorem dX6_adder_106 : decode cX6_adder 106 = .ok (.istore 5, 2) := by decide +kernel
theorem dX6_adder_108 : decode cX6_adder 108 = .ok (.aload_n 0, 1) := by decide +kernel
theorem dX6_adder_109 : decode cX6_adder 109 = .ok (.getfield 19, 3) := by decide +kernel
theorem dX6_adder_112 : decode cX6_adder 112 = .ok (.iconst 1, 1) := by decide +kernel
theorem dX6_adder_113 : decode cX6_adder 113 = .ok (.iload 4, 2) := by decide +kernel
theorem dX6_adder_115 : decode cX6_adder 115 = .ok (.iload_n 2, 1) := by decide +kernel
theorem dX6_adder_116 : decode cX6_adder 116 = .ok (.invokevirtual 142, 3) := by decide +kernel
theorem dX6_adder_119 : decode cX6_adder 119 = .ok (.istore 6, 2) := by decide +kernel
theorem dX6_adder_121 : decode cX6_adder 121 = .ok (.aload_n 0, 1) := by decide +kernel
theorem dX6_adder_122 : decode cX6_adder 122 = .ok (.getfield 19, 3) := by decide +kernel
theorem dX6_adder_125 : decode cX6_adder 125 = .ok (.iconst 2, 1) := by decide +kernel
theorem dX6_adder_126 : decode cX6_adder 126 = .ok (.iload 5, 2) := by decide +kernel
theorem dX6_adder_128 : decode cX6_adder 128 = .ok (.iload 6, 2) := by decide +kernel
theorem dX6_adder_130 : decode cX6_adder 130 = .ok (.invokevirtual 142, 3) := by decide +kernel
theorem dX6_adder_133 : decode cX6_adder 133 = .ok (.istore_n 2, 1) := by decide +kernel
theorem dX6_adder_134 : decode cX6_adder 134 = .ok (.iinc 3 1, 3) := by decide +kernel
theorem dX6_adder_137 : decode cX6_adder 137 = .ok (.goto (-80), 3) := by decide +kernel
theorem dX6_adder_140 : decode cX6_adder 140 = .ok (.aload_n 0, 1) := by decide +kernel
theorem dX6_adder_141 : decode cX6_adder 141 = .ok (.getfield 19, 3) := by decide +kernel
theorem dX6_adder_144 : decode cX6_adder 144 = .ok (.iload_n 2, 1) := by decide +kernel
theorem dX6_adder_145 : decode cX6_adder 145 = .ok (.invokevirtual 146, 3) := by decide +kernel
theorem dX6_adder_148 : decode cX6_adder 148 = .ok (.aload_n 0, 1) := by decide +kernel
theorem dX6_adder_149 : decode cX6_adder 149 = .ok (.getfield 19, 3) := by decide +kernel
theorem dX6_adder_152 : decode cX6_adder 152 = .ok (.iconst 0, 1) := by decide +kernel
theorem dX6_adder_153 : decode cX6_adder 153 = .ok (.iload_n 1, 1) := by decide +kernel
theorem dX6_adder_154 : decode cX6_adder 154 = .ok (.iload_n 1, 1) := by decide +kernel
theorem dX6_adder_155 : decode cX6_adder 155 = .ok (.invokevirtual 149, 3) := by decide +kernel
theorem dX6_adder_158 : decode cX6_adder 158 = .ok (.aload_n 0, 1) := by decide +kernel
theorem dX6_adder_159 : decode cX6_adder 159 = .ok (.invokevirtual 69, 3) := by decide +kernel
theorem dX6_adder_162 : decode cX6_adder 162 = .ok (.ireturn, 1) := by decide +kernel
set_option maxRecDepth 20000 in
theorem ggX6_draw_X6_refused : GoodIn wsX6_draw wsX6_refused := goodIn_r _ [13, 14, 15, 16, 100, 101, 102, 103, 104, 105, 106, 107, 108] (by decide +kernel) (by decide +kernel)
set_option maxRecDepth 20000 in
theorem gX6_draw_X6_refused : GoodIn wsX6_draw (wsV RX6 43 RX6 yX6_refused wsX6_refused) := goodIn_app (goodIn_of _ (by decide +kernel)) ggX6_draw_X6_refused
set_option maxRecDepth 20000 in
theorem ggX6_draw_X0_begin : GoodIn wsX6_draw wsX0_begin := goodIn_r _ [21, 22, 23, 24, 25, 109, 110, 111, 112, 113, 114, 115, 116, 117, 118, 119] (by decide +kernel) (by decide +kernel)
set_option maxRecDepth 20000 in
theorem gX6_draw_X0_begin : GoodIn wsX6_draw (wsV RX6 138 RX0 yX0_begin wsX0_begin) := goodIn_app (goodIn_of _ (by decide +kernel)) ggX6_draw_X0_begin
set_option maxRecDepth 20000 in
theorem ggX6_draw_X6_leftOver : GoodIn wsX6_draw wsX6_leftOver := goodIn_r _ [28] (by decide +kernel) (by decide +kernel)
set_option maxRecDepth 20000 in
theorem gX6_draw_X6_leftOver : GoodIn wsX6_draw (va_wsS RX6 162 yX6_leftOver wsX6_leftOver) := goodIn_app (goodIn_of _ (by decide +kernel)) ggX6_draw_X6_leftOver
set_option maxRecDepth 20000 in
theorem ggX6_draw_X0_addGate : GoodIn wsX6_draw wsX0_addGate := goodIn_r _ [32, 24, 33, 34, 35, 36, 12, 37, 38, 39, 40, 20, 41, 23, 109, 110, 111, 112, 113, 114, 115, 116, 117, 118, 119] (by decide +kernel) (by decide +kernel)
set_option maxRecDepth 20000 in
theorem gX6_draw_X0_addGate : GoodIn wsX6_draw (wsV RX6 142 RX0 yX0_addGate wsX0_addGate) := goodIn_app (goodIn_of _ (by decide +kernel)) ggX6_draw_X0_addGate
set_option maxRecDepth 20000 in
theorem ggX6_draw_X0_addOutput : GoodIn wsX6_draw wsX0_addOutput := goodIn_r _ [45, 25, 46, 36, 12, 37, 109, 110, 111, 112, 113, 114, 115, 116, 117, 118, 119] (by decide +kernel) (by decide +kernel)
set_option maxRecDepth 20000 in
theorem gX6_draw_X0_addOutput : GoodIn wsX6_draw (wsV RX6 146 RX0 yX0_addOutput wsX0_addOutput) := goodIn_app (goodIn_of _ (by decide +kernel)) ggX6_draw_X0_addOutput
set_option maxRecDepth 20000 in
theorem ggX6_draw_X0_end : GoodIn wsX6_draw wsX0_end := goodIn_r _ [50, 51, 52, 53, 22, 109, 110, 111, 112, 113, 114, 115, 116, 117, 118, 119] (by decide +kernel) (by decide +kernel)
set_option maxRecDepth 20000 in
theorem gX6_draw_X0_end : GoodIn wsX6_draw (wsV RX6 149 RX0 yX0_end wsX0_end) := goodIn_app (goodIn_of _ (by decide +kernel)) ggX6_draw_X0_end
set_option maxRecDepth 20000 in
theorem ggX6_draw_X6_changed : GoodIn wsX6_draw wsX6_changed := goodIn_r _ [57, 58, 2, 59, 60, 61, 62, 63, 64, 65, 66, 67, 68, 69, 70, 71, 72, 20, 73, 33, 74, 12, 75, 76, 77, 78, 79, 80, 81, 82, 83, 84, 34, 85, 86, 87, 88, 89, 90, 91, 92, 35, 93, 94, 95, 96, 97, 98, 99, 100, 101, 102, 103, 104, 105, 106, 107, 108, 109, 110, 111, 112, 113, 114, 115, 116, 117, 118, 119, 120, 121, 122, 123, 124, 125, 126] (by decide +kernel) (by decide +kernel)
set_option maxRecDepth 20000 in
theorem gX6_draw_X6_changed : GoodIn wsX6_draw (wsV RX6 69 RX6 yX6_changed wsX6_changed) := goodIn_app (goodIn_of _ (by decide +kernel)) ggX6_draw_X6_changed
theorem dX6_draw_0 : decode cX6_draw 0 = .ok (.iload_n 2, 1) := by decide +kernel
theorem dX6_draw_1 : decode cX6_draw 1 = .ok (.iconst 1, 1) := by decide +kernel
theorem dX6_draw_2 : decode cX6_draw 2 = .ok (.if_icmp .lt 24, 3) := by decide +kernel
theorem dX6_draw_5 : decode cX6_draw 5 = .ok (.iload_n 2, 1) := by decide +kernel
theorem dX6_draw_6 : decode cX6_draw 6 = .ok (.bipush 6, 2) := by decide +kernel
theorem dX6_draw_8 : decode cX6_draw 8 = .ok (.if_icmp .gt 18, 3) := by decide +kernel
theorem dX6_draw_11 : decode cX6_draw 11 = .ok (.iload_n 3, 1) := by decide +kernel
theorem dX6_draw_12 : decode cX6_draw 12 = .ok (.iconst 1, 1) := by decide +kernel
theorem dX6_draw_13 : decode cX6_draw 13 = .ok (.if_icmp .lt 13, 3) := by decide +kernel
theorem dX6_draw_16 : decode cX6_draw 16 = .ok (.iload_n 3, 1) := by decide +kernel
theorem dX6_draw_17 : decode cX6_draw 17 = .ok (.bipush 12, 2) := by decide +kernel
theorem dX6_draw_19 : decode cX6_draw 19 = .ok (.if_icmp .gt 7, 3) := by decide +kernel
theorem dX6_draw_22 : decode cX6_draw 22 = .ok (.iconst 1, 1) := by decide +kernel
theorem dX6_draw_23 : decode cX6_draw 23 = .ok (.goto 4, 3) := by decide +kernel
theorem dX6_draw_26 : decode cX6_draw 26 = .ok (.iconst 0, 1) := by decide +kernel
theorem dX6_draw_27 : decode cX6_draw 27 = .ok (.istore 4, 2) := by decide +kernel
theorem dX6_draw_29 : decode cX6_draw 29 = .ok (.iload_n 1, 1) := by decide +kernel
theorem dX6_draw_30 : decode cX6_draw 30 = .ok (.ifCond .lt 14, 3) := by decide +kernel
theorem dX6_draw_33 : decode cX6_draw 33 = .ok (.iload_n 1, 1) := by decide +kernel
theorem dX6_draw_34 : decode cX6_draw 34 = .ok (.ldc 153, 2) := by decide +kernel
theorem dX6_draw_36 : decode cX6_draw 36 = .ok (.if_icmp .gt 8, 3) := by decide +kernel
theorem dX6_draw_39 : decode cX6_draw 39 = .ok (.iload 4, 2) := by decide +kernel
theorem dX6_draw_41 : decode cX6_draw 41 = .ok (.ifCond .ne 10, 3) := by decide +kernel
theorem dX6_draw_44 : decode cX6_draw 44 = .ok (.aload_n 0, 1) := by decide +kernel
theorem dX6_draw_45 : decode cX6_draw 45 = .ok (.bipush (-2), 2) := by decide +kernel
theorem dX6_draw_47 : decode cX6_draw 47 = .ok (.invokevirtual 43, 3) := by decide +kernel
theorem dX6_draw_50 : decode cX6_draw 50 = .ok (.ireturn, 1) := by decide +kernel
theorem dX6_draw_51 : decode cX6_draw 51 = .ok (.aload_n 0, 1) := by decide +kernel
theorem dX6_draw_52 : decode cX6_draw 52 = .ok (.getfield 19, 3) := by decide +kernel
theorem dX6_draw_55 : decode cX6_draw 55 = .ok (.iload_n 2, 1) := by decide +kernel
theorem dX6_draw_56 : decode cX6_draw 56 = .ok (.invokevirtual 138, 3) := by decide +kernel
theorem dX6_draw_59 : decode cX6_draw 59 = .ok (.iload_n 1, 1) := by decide +kernel
theorem dX6_draw_60 : decode cX6_draw 60 = .ok (.i2l, 1) := by decide +kernel
theorem dX6_draw_61 : decode cX6_draw 61 = .ok (.lstore 5, 2) := by decide +kernel
theorem dX6_draw_63 : decode cX6_draw 63 = .ok (.iconst 0, 1) := by decide +kernel
theorem dX6_draw_64 : decode cX6_draw 64 = .ok (.istore 7, 2) := by decide +kernel
theorem dX6_draw_66 : decode cX6_draw 66 = .ok (.iload 7, 2) := by decide +kernel
theorem dX6_draw_68 : decode cX6_draw 68 = .ok (.iload_n 3, 1) := by decide +kernel
theorem dX6_draw_69 : decode cX6_draw 69 = .ok (.if_icmp .ge 87, 3) := by decide +kernel
theorem dX6_draw_72 : decode cX6_draw 72 = .ok (.lload 5, 2) := by decide +kernel
theorem dX6_draw_74 : decode cX6_draw 74 = .ok (.ldc2_w 154, 3) := by decide +kernel
theorem dX6_draw_77 : decode cX6_draw 77 = .ok (.lmul, 1) := by decide +kernel
theorem dX6_draw_78 : decode cX6_draw 78 = .ok (.ldc2_w 156, 3) := by decide +kernel
theorem dX6_draw_81 : decode cX6_draw 81 = .ok (.ladd, 1) := by decide +kernel
theorem dX6_draw_82 : decode cX6_draw 82 = .ok (.ldc2_w 158, 3) := by decide +kernel
theorem dX6_draw_85 : decode cX6_draw 85 = .ok (.lrem, 1) := by decide +kernel
theorem dX6_draw_86 : decode cX6_draw 86 = .ok (.lstore 5, 2) := by decide +kernel
theorem dX6_draw_88 : decode cX6_draw 88 = .ok (.lload 5, 2) := by decide +kernel
theorem dX6_draw_90 : decode cX6_draw 90 = .ok (.ldc2_w 160, 3) := by decide +kernel
theorem dX6_draw_93 : decode cX6_draw 93 = .ok (.ldiv, 1) := by decide +kernel
theorem dX6_draw_94 : decode cX6_draw 94 = .ok (.bipush 8, 2) := by decide +kernel
theorem dX6_draw_96 : decode cX6_draw 96 = .ok (.invokestatic 162, 3) := by decide +kernel
theorem dX6_draw_99 : decode cX6_draw 99 = .ok (.istore 8, 2) := by decide +kernel
theorem dX6_draw_101 : decode cX6_draw 101 = .ok (.iload 8, 2) := by decide +kernel
theorem dX6_draw_103 : decode cX6_draw 103 = .ok (.ifCond .ne 7, 3) := by decide +kernel
theorem dX6_draw_106 : decode cX6_draw 106 = .ok (.iconst (-1), 1) := by decide +kernel
theorem dX6_draw_107 : decode cX6_draw 107 = .ok (.goto 16, 3) := by decide +kernel
theorem dX6_draw_110 : decode cX6_draw 110 = .ok (.lload 5, 2) := by decide +kernel
theorem dX6_draw_112 : decode cX6_draw 112 = .ok (.ldc2_w 166, 3) := by decide +kernel
theorem dX6_draw_115 : decode cX6_draw 115 = .ok (.ldiv, 1) := by decide +kernel
theorem dX6_draw_116 : decode cX6_draw 116 = .ok (.iload_n 2, 1) := by decide +kernel
theorem dX6_draw_117 : decode cX6_draw 117 = .ok (.iload 7, 2) := by decide +kernel
theorem dX6_draw_119 : decode cX6_draw 119 = .ok (.iadd, 1) := by decide +kernel
theorem dX6_draw_120 : decode cX6_draw 120 = .ok (.invokestatic 162, 3) := by decide +kernel
theorem dX6_draw_123 : decode cX6_draw 123 = .ok (.istore 9, 2) := by decide +kernel
theorem dX6_draw_125 : decode cX6_draw 125 = .ok (.aload_n 0, 1) := by decide +kernel
theorem dX6_draw_126 : decode cX6_draw 126 = .ok (.getfield 19, 3) := by decide +kernel
theorem dX6_draw_129 : decode cX6_draw 129 = .ok (.iload 8, 2) := by decide +kernel
theorem dX6_draw_131 : decode cX6_draw 131 = .ok (.lload 5, 2) := by decide +kernel
theorem dX6_draw_133 : decode cX6_draw 133 = .ok (.ldc2_w 168, 3) := by decide +kernel
theorem dX6_draw_136 : decode cX6_draw 136 = .ok (.ldiv, 1) := by decide +kernel
theorem dX6_draw_137 : decode cX6_draw 137 = .ok (.iload_n 2, 1) := by decide +kernel
theorem dX6_draw_138 : decode cX6_draw 138 = .ok (.iload 7, 2) := by decide +kernel
theorem dX6_draw_140 : decode cX6_draw 140 = .ok (.iadd, 1) := by decide +kernel
theorem dX6_draw_141 : decode cX6_draw 141 = .ok (.invokestatic 162, 3) := by decide +kernel
theorem dX6_draw_144 : decode cX6_draw 144 = .ok (.iload 9, 2) := by decide +kernel
theorem dX6_draw_146 : decode cX6_draw 146 = .ok (.invokevirtual 142, 3) := by decide +kernel
theorem dX6_draw_149 : decode cX6_draw 149 = .ok (.pop, 1) := by decide +kernel
theorem dX6_draw_150 : decode cX6_draw 150 = .ok (.iinc 7 1, 3) := by decide +kernel
theorem dX6_draw_153 : decode cX6_draw 153 = .ok (.goto (-87), 3) := by decide +kernel
theorem dX6_draw_156 : decode cX6_draw 156 = .ok (.aload_n 0, 1) := by decide +kernel
theorem dX6_draw_157 : decode cX6_draw 157 = .ok (.getfield 19, 3) := by decide +kernel
theorem dX6_draw_160 : decode cX6_draw 160 = .ok (.iload_n 2, 1) := by decide +kernel
theorem dX6_draw_161 : decode cX6_draw 161 = .ok (.iload_n 3, 1) := by decide +kernel
theorem dX6_draw_162 : decode cX6_draw 162 = .ok (.iadd, 1) := by decide +kernel
theorem dX6_draw_163 : decode cX6_draw 163 = .ok (.iconst 1, 1) := by decide +kernel
theorem dX6_draw_164 : decode cX6_draw 164 = .ok (.isub, 1) := by decide +kernel
theorem dX6_draw_165 : decode cX6_draw 165 = .ok (.invokevirtual 146, 3) := by decide +kernel
theorem dX6_draw_168 : decode cX6_draw 168 = .ok (.iload_n 3, 1) := by decide +kernel
theorem dX6_draw_169 : decode cX6_draw 169 = .ok (.iconst 1, 1) := by decide +kernel
theorem dX6_draw_170 : decode cX6_draw 170 = .ok (.if_icmp .le 15, 3) := by decide +kernel
theorem dX6_draw_173 : decode cX6_draw 173 = .ok (.aload_n 0, 1) := by decide +kernel
theorem dX6_draw_174 : decode cX6_draw 174 = .ok (.getfield 19, 3) := by decide +kernel
theorem dX6_draw_177 : decode cX6_draw 177 = .ok (.iload_n 2, 1) := by decide +kernel
theorem dX6_draw_178 : decode cX6_draw 178 = .ok (.iload_n 3, 1) := by decide +kernel
theorem dX6_draw_179 : decode cX6_draw 179 = .ok (.iadd, 1) := by decide +kernel
theorem dX6_draw_180 : decode cX6_draw 180 = .ok (.iconst 2, 1) := by decide +kernel
theorem dX6_draw_181 : decode cX6_draw 181 = .ok (.isub, 1) := by decide +kernel
theorem dX6_draw_182 : decode cX6_draw 182 = .ok (.invokevirtual 146, 3) := by decide +kernel
theorem dX6_draw_185 : decode cX6_draw 185 = .ok (.aload_n 0, 1) := by decide +kernel
theorem dX6_draw_186 : decode cX6_draw 186 = .ok (.getfield 19, 3) := by decide +kernel
theorem dX6_draw_189 : decode cX6_draw 189 = .ok (.iconst 0, 1) := by decide +kernel
theorem dX6_draw_190 : decode cX6_draw 190 = .ok (.iconst 1, 1) := by decide +kernel
theorem dX6_draw_191 : decode cX6_draw 191 = .ok (.iconst 0, 1) := by decide +kernel
theorem dX6_draw_192 : decode cX6_draw 192 = .ok (.invokevirtual 149, 3) := by decide +kernel
theorem dX6_draw_195 : decode cX6_draw 195 = .ok (.aload_n 0, 1) := by decide +kernel
theorem dX6_draw_196 : decode cX6_draw 196 = .ok (.invokevirtual 69, 3) := by decide +kernel
theorem dX6_draw_199 : decode cX6_draw 199 = .ok (.ireturn, 1) := by decide +kernel
set_option maxRecDepth 20000 in
theorem ggX6_runs_X6_isInputs : GoodIn wsX6_runs wsX6_isInputs := goodIn_r _ [7, 2, 8, 9, 51, 52, 53, 54, 55, 56, 57, 58, 59, 60, 61, 62, 63, 64, 65, 66, 67, 68, 69, 70] (by decide +kernel) (by decide +kernel)
set_option maxRecDepth 20000 in
theorem gX6_runs_X6_isInputs : GoodIn wsX6_runs (wsV RX6 170 RX6 yX6_isInputs wsX6_isInputs) := goodIn_app (goodIn_of _ (by decide +kernel)) ggX6_runs_X6_isInputs
set_option maxRecDepth 20000 in
theorem ggX6_runs_X6_refusal : GoodIn wsX6_runs wsX6_refusal := goodIn_r _ [13, 2, 8, 14, 15, 16, 6, 17, 18, 19, 20, 51, 52, 53, 54, 55, 56, 57, 58, 59, 60, 61, 62, 63, 64, 65, 66, 67, 68, 69, 70] (by decide +kernel) (by decide +kernel)
set_option maxRecDepth 20000 in
theorem gX6_runs_X6_refusal : GoodIn wsX6_runs (wsV RX6 80 RX6 yX6_refusal wsX6_refusal) := goodIn_app (goodIn_of _ (by decide +kernel)) ggX6_runs_X6_refusal
set_option maxRecDepth 20000 in
theorem ggX6_runs_X1_outputsFor : GoodIn wsX6_runs wsX1_outputsFor := goodIn_r _ [25, 26, 27, 28, 29, 30, 31, 32, 33, 6, 34, 35, 36, 37, 24, 38, 39, 40, 41, 42, 43, 60, 61, 62, 63, 64, 65, 66, 67, 68, 69, 70, 71] (by decide +kernel) (by decide +kernel)
set_option maxRecDepth 20000 in
theorem gX6_runs_X1_outputsFor : GoodIn wsX6_runs (wsV RX6 173 RX1 yX1_outputsFor wsX1_outputsFor) := goodIn_app (goodIn_of _ (by decide +kernel)) ggX6_runs_X1_outputsFor
set_option maxRecDepth 20000 in
theorem ggX6_runs_X0_taskFor : GoodIn wsX6_runs wsX0_taskFor := goodIn_r _ [47, 48, 49, 50, 60, 61, 62, 63, 64, 65, 66, 67, 68, 69, 70] (by decide +kernel) (by decide +kernel)
set_option maxRecDepth 20000 in
theorem gX6_runs_X0_taskFor : GoodIn wsX6_runs (wsV RX6 177 RX0 yX0_taskFor wsX0_taskFor) := goodIn_app (goodIn_of _ (by decide +kernel)) ggX6_runs_X0_taskFor
theorem dX6_runs_0 : decode cX6_runs 0 = .ok (.aload_n 0, 1) := by decide +kernel
theorem dX6_runs_1 : decode cX6_runs 1 = .ok (.aload_n 0, 1) := by decide +kernel
theorem dX6_runs_2 : decode cX6_runs 2 = .ok (.iload_n 1, 1) := by decide +kernel
theorem dX6_runs_3 : decode cX6_runs 3 = .ok (.invokevirtual 170, 3) := by decide +kernel
theorem dX6_runs_6 : decode cX6_runs 6 = .ok (.ifCond .eq 16, 3) := by decide +kernel
theorem dX6_runs_9 : decode cX6_runs 9 = .ok (.iload_n 2, 1) := by decide +kernel
theorem dX6_runs_10 : decode cX6_runs 10 = .ok (.ifCond .eq 8, 3) := by decide +kernel
theorem dX6_runs_13 : decode cX6_runs 13 = .ok (.iload_n 2, 1) := by decide +kernel
theorem dX6_runs_14 : decode cX6_runs 14 = .ok (.iconst 1, 1) := by decide +kernel
theorem dX6_runs_15 : decode cX6_runs 15 = .ok (.if_icmp .ne 7, 3) := by decide +kernel
theorem dX6_runs_18 : decode cX6_runs 18 = .ok (.iconst 1, 1) := by decide +kernel
theorem dX6_runs_19 : decode cX6_runs 19 = .ok (.goto 4, 3) := by decide +kernel
theorem dX6_runs_22 : decode cX6_runs 22 = .ok (.iconst 0, 1) := by decide +kernel
theorem dX6_runs_23 : decode cX6_runs 23 = .ok (.invokevirtual 80, 3) := by decide +kernel
theorem dX6_runs_26 : decode cX6_runs 26 = .ok (.istore_n 3, 1) := by decide +kernel
theorem dX6_runs_27 : decode cX6_runs 27 = .ok (.iload_n 3, 1) := by decide +kernel
theorem dX6_runs_28 : decode cX6_runs 28 = .ok (.ifCond .eq 5, 3) := by decide +kernel
theorem dX6_runs_31 : decode cX6_runs 31 = .ok (.iload_n 3, 1) := by decide +kernel
theorem dX6_runs_32 : decode cX6_runs 32 = .ok (.ireturn, 1) := by decide +kernel
theorem dX6_runs_33 : decode cX6_runs 33 = .ok (.iload_n 2, 1) := by decide +kernel
theorem dX6_runs_34 : decode cX6_runs 34 = .ok (.ifCond .ne 18, 3) := by decide +kernel
theorem dX6_runs_37 : decode cX6_runs 37 = .ok (.aload_n 0, 1) := by decide +kernel
theorem dX6_runs_38 : decode cX6_runs 38 = .ok (.getfield 29, 3) := by decide +kernel
theorem dX6_runs_41 : decode cX6_runs 41 = .ok (.aload_n 0, 1) := by decide +kernel
theorem dX6_runs_42 : decode cX6_runs 42 = .ok (.getfield 19, 3) := by decide +kernel
theorem dX6_runs_45 : decode cX6_runs 45 = .ok (.iload_n 1, 1) := by decide +kernel
theorem dX6_runs_46 : decode cX6_runs 46 = .ok (.invokevirtual 173, 3) := by decide +kernel
theorem dX6_runs_49 : decode cX6_runs 49 = .ok (.goto 11, 3) := by decide +kernel
theorem dX6_runs_52 : decode cX6_runs 52 = .ok (.aload_n 0, 1) := by decide +kernel
theorem dX6_runs_53 : decode cX6_runs 53 = .ok (.getfield 19, 3) := by decide +kernel
theorem dX6_runs_56 : decode cX6_runs 56 = .ok (.iload_n 1, 1) := by decide +kernel
theorem dX6_runs_57 : decode cX6_runs 57 = .ok (.invokevirtual 177, 3) := by decide +kernel
theorem dX6_runs_60 : decode cX6_runs 60 = .ok (.ireturn, 1) := by decide +kernel
set_option maxRecDepth 20000 in
theorem ggX6_signal_X6_isSignal : GoodIn wsX6_signal wsX6_isSignal := goodIn_r _ [6, 7, 8, 9, 10, 11, 12, 13, 14, 15, 42, 43, 44, 45, 46, 47, 48, 49, 50, 51, 52, 53, 54, 55, 56, 57, 58, 59, 60, 61] (by decide +kernel) (by decide +kernel)
set_option maxRecDepth 20000 in
theorem gX6_signal_X6_isSignal : GoodIn wsX6_signal (wsV RX6 180 RX6 yX6_isSignal wsX6_isSignal) := goodIn_app (goodIn_of _ (by decide +kernel)) ggX6_signal_X6_isSignal
set_option maxRecDepth 20000 in
theorem ggX6_signal_X6_isInputs : GoodIn wsX6_signal wsX6_isInputs := goodIn_r _ [19, 7, 8, 20, 42, 43, 44, 45, 46, 47, 48, 49, 50, 51, 52, 53, 54, 55, 56, 57, 58, 59, 60, 61] (by decide +kernel) (by decide +kernel)
set_option maxRecDepth 20000 in
theorem gX6_signal_X6_isInputs : GoodIn wsX6_signal (wsV RX6 170 RX6 yX6_isInputs wsX6_isInputs) := goodIn_app (goodIn_of _ (by decide +kernel)) ggX6_signal_X6_isInputs
set_option maxRecDepth 20000 in
theorem ggX6_signal_X6_refusal : GoodIn wsX6_signal wsX6_refusal := goodIn_r _ [24, 7, 8, 25, 26, 27, 5, 28, 29, 30, 31, 42, 43, 44, 45, 46, 47, 48, 49, 50, 51, 52, 53, 54, 55, 56, 57, 58, 59, 60, 61] (by decide +kernel) (by decide +kernel)
set_option maxRecDepth 20000 in
theorem gX6_signal_X6_refusal : GoodIn wsX6_signal (wsV RX6 80 RX6 yX6_refusal wsX6_refusal) := goodIn_app (goodIn_of _ (by decide +kernel)) ggX6_signal_X6_refusal
set_option maxRecDepth 20000 in
theorem ggX6_signal_X1_bit : GoodIn wsX6_signal wsX1_bit := goodIn_r _ [36, 37, 38, 39, 35, 40, 41, 62] (by decide +kernel) (by decide +kernel)
set_option maxRecDepth 20000 in
theorem gX6_signal_X1_bit : GoodIn wsX6_signal (wsV RX6 183 RX1 yX1_bit wsX1_bit) := goodIn_app (goodIn_of _ (by decide +kernel)) ggX6_signal_X1_bit
theorem dX6_signal_0 : decode cX6_signal 0 = .ok (.aload_n 0, 1) := by decide +kernel
theorem dX6_signal_1 : decode cX6_signal 1 = .ok (.aload_n 0, 1) := by decide +kernel
theorem dX6_signal_2 : decode cX6_signal 2 = .ok (.iload_n 1, 1) := by decide +kernel
theorem dX6_signal_3 : decode cX6_signal 3 = .ok (.invokevirtual 180, 3) := by decide +kernel
theorem dX6_signal_6 : decode cX6_signal 6 = .ok (.ifCond .eq 15, 3) := by decide +kernel
theorem dX6_signal_9 : decode cX6_signal 9 = .ok (.aload_n 0, 1) := by decide +kernel
theorem dX6_signal_10 : decode cX6_signal 10 = .ok (.iload_n 2, 1) := by decide +kernel
theorem dX6_signal_11 : decode cX6_signal 11 = .ok (.invokevirtual 170, 3) := by decide +kernel
theorem dX6_signal_14 : decode cX6_signal 14 = .ok (.ifCond .eq 7, 3) := by decide +kernel
theorem dX6_signal_17 : decode cX6_signal 17 = .ok (.iconst 1, 1) := by decide +kernel
theorem dX6_signal_18 : decode cX6_signal 18 = .ok (.goto 4, 3) := by decide +kernel
theorem dX6_signal_21 : decode cX6_signal 21 = .ok (.iconst 0, 1) := by decide +kernel
theorem dX6_signal_22 : decode cX6_signal 22 = .ok (.invokevirtual 80, 3) := by decide +kernel
theorem dX6_signal_25 : decode cX6_signal 25 = .ok (.istore_n 3, 1) := by decide +kernel
theorem dX6_signal_26 : decode cX6_signal 26 = .ok (.iload_n 3, 1) := by decide +kernel
theorem dX6_signal_27 : decode cX6_signal 27 = .ok (.ifCond .eq 7, 3) := by decide +kernel
theorem dX6_signal_30 : decode cX6_signal 30 = .ok (.iload_n 3, 1) := by decide +kernel
theorem dX6_signal_31 : decode cX6_signal 31 = .ok (.goto 12, 3) := by decide +kernel
theorem dX6_signal_34 : decode cX6_signal 34 = .ok (.aload_n 0, 1) := by decide +kernel
theorem dX6_signal_35 : decode cX6_signal 35 = .ok (.getfield 29, 3) := by decide +kernel
theorem dX6_signal_38 : decode cX6_signal 38 = .ok (.iload_n 1, 1) := by decide +kernel
theorem dX6_signal_39 : decode cX6_signal 39 = .ok (.iload_n 2, 1) := by decide +kernel
theorem dX6_signal_40 : decode cX6_signal 40 = .ok (.invokevirtual 183, 3) := by decide +kernel
theorem dX6_signal_43 : decode cX6_signal 43 = .ok (.ireturn, 1) := by decide +kernel
set_option maxRecDepth 20000 in
theorem ggX6_wrong_X6_refusal : GoodIn wsX6_wrong wsX6_refusal := goodIn_r _ [7, 2, 8, 9, 10, 11, 6, 12, 13, 14, 15, 59, 60, 61, 62, 63, 64, 65, 66, 67, 68, 69, 70, 71, 72, 73, 74, 75, 76, 77, 78] (by decide +kernel) (by decide +kernel)
set_option maxRecDepth 20000 in
theorem gX6_wrong_X6_refusal : GoodIn wsX6_wrong (wsV RX6 80 RX6 yX6_refusal wsX6_refusal) := goodIn_app (goodIn_of _ (by decide +kernel)) ggX6_wrong_X6_refusal
set_option maxRecDepth 20000 in
theorem ggX6_wrong_X1_firstWrong : GoodIn wsX6_wrong wsX1_firstWrong := goodIn_r _ [20, 21, 22, 23, 24, 19, 25, 26, 27, 28, 29, 30, 31, 32, 33, 34, 35, 36, 37, 6, 38, 39, 40, 41, 42, 43, 44, 45, 46, 47, 48, 49, 50, 51, 52, 53, 54, 68, 69, 70, 71, 72, 73, 74, 75, 76, 77, 78, 79] (by decide +kernel) (by decide +kernel)
set_option maxRecDepth 20000 in
theorem gX6_wrong_X1_firstWrong : GoodIn wsX6_wrong (wsV RX6 187 RX1 yX1_firstWrong wsX1_firstWrong) := goodIn_app (goodIn_of _ (by decide +kernel)) ggX6_wrong_X1_firstWrong
set_option maxRecDepth 20000 in
theorem ggX6_wrong_X1_countWrong : GoodIn wsX6_wrong wsX1_countWrong := goodIn_r _ [58, 21, 22, 23, 24, 19, 25, 26, 27, 28, 29, 30, 31, 32, 33, 34, 35, 36, 37, 6, 38, 39, 40, 41, 42, 43, 44, 45, 46, 47, 48, 49, 50, 51, 52, 53, 54, 68, 69, 70, 71, 72, 73, 74, 75, 76, 77, 78, 79] (by decide +kernel) (by decide +kernel)
set_option maxRecDepth 20000 in
theorem gX6_wrong_X1_countWrong : GoodIn wsX6_wrong (wsV RX6 190 RX1 yX1_countWrong wsX1_countWrong) := goodIn_app (goodIn_of _ (by decide +kernel)) ggX6_wrong_X1_countWrong
theorem dX6_wrong_0 : decode cX6_wrong 0 = .ok (.aload_n 0, 1) := by decide +kernel
theorem dX6_wrong_1 : decode cX6_wrong 1 = .ok (.iload_n 1, 1) := by decide +kernel
theorem dX6_wrong_2 : decode cX6_wrong 2 = .ok (.ifCond .eq 8, 3) := by decide +kernel
theorem dX6_wrong_5 : decode cX6_wrong 5 = .ok (.iload_n 1, 1) := by decide +kernel
theorem dX6_wrong_6 : decode cX6_wrong 6 = .ok (.iconst 1, 1) := by decide +kernel
theorem dX6_wrong_7 : decode cX6_wrong 7 = .ok (.if_icmp .ne 7, 3) := by decide +kernel
theorem dX6_wrong_10 : decode cX6_wrong 10 = .ok (.iconst 1, 1) := by decide +kernel
theorem dX6_wrong_11 : decode cX6_wrong 11 = .ok (.goto 4, 3) := by decide +kernel
theorem dX6_wrong_14 : decode cX6_wrong 14 = .ok (.iconst 0, 1) := by decide +kernel
theorem dX6_wrong_15 : decode cX6_wrong 15 = .ok (.invokevirtual 80, 3) := by decide +kernel
theorem dX6_wrong_18 : decode cX6_wrong 18 = .ok (.istore_n 2, 1) := by decide +kernel
theorem dX6_wrong_19 : decode cX6_wrong 19 = .ok (.iload_n 2, 1) := by decide +kernel
theorem dX6_wrong_20 : decode cX6_wrong 20 = .ok (.ifCond .eq 5, 3) := by decide +kernel
theorem dX6_wrong_23 : decode cX6_wrong 23 = .ok (.iload_n 2, 1) := by decide +kernel
theorem dX6_wrong_24 : decode cX6_wrong 24 = .ok (.ireturn, 1) := by decide +kernel
theorem dX6_wrong_25 : decode cX6_wrong 25 = .ok (.iload_n 1, 1) := by decide +kernel
theorem dX6_wrong_26 : decode cX6_wrong 26 = .ok (.ifCond .ne 17, 3) := by decide +kernel
theorem dX6_wrong_29 : decode cX6_wrong 29 = .ok (.aload_n 0, 1) := by decide +kernel
theorem dX6_wrong_30 : decode cX6_wrong 30 = .ok (.getfield 29, 3) := by decide +kernel
theorem dX6_wrong_33 : decode cX6_wrong 33 = .ok (.aload_n 0, 1) := by decide +kernel
theorem dX6_wrong_34 : decode cX6_wrong 34 = .ok (.getfield 19, 3) := by decide +kernel
theorem dX6_wrong_37 : decode cX6_wrong 37 = .ok (.invokevirtual 187, 3) := by decide +kernel
theorem dX6_wrong_40 : decode cX6_wrong 40 = .ok (.goto 14, 3) := by decide +kernel
theorem dX6_wrong_43 : decode cX6_wrong 43 = .ok (.aload_n 0, 1) := by decide +kernel
theorem dX6_wrong_44 : decode cX6_wrong 44 = .ok (.getfield 29, 3) := by decide +kernel
theorem dX6_wrong_47 : decode cX6_wrong 47 = .ok (.aload_n 0, 1) := by decide +kernel
theorem dX6_wrong_48 : decode cX6_wrong 48 = .ok (.getfield 19, 3) := by decide +kernel
theorem dX6_wrong_51 : decode cX6_wrong 51 = .ok (.invokevirtual 190, 3) := by decide +kernel
theorem dX6_wrong_54 : decode cX6_wrong 54 = .ok (.ireturn, 1) := by decide +kernel
set_option maxRecDepth 20000 in
theorem ggX6_cures_X6_isGate : GoodIn wsX6_cures wsX6_isGate := goodIn_r _ [7, 1, 8, 9, 92, 93, 94, 95, 96, 97, 98, 99, 100, 101, 102, 103, 104, 105, 106, 107, 108, 109, 110, 111] (by decide +kernel) (by decide +kernel)
set_option maxRecDepth 20000 in
theorem gX6_cures_X6_isGate : GoodIn wsX6_cures (wsV RX6 73 RX6 yX6_isGate wsX6_isGate) := goodIn_app (goodIn_of _ (by decide +kernel)) ggX6_cures_X6_isGate
set_option maxRecDepth 20000 in
theorem ggX6_cures_X6_refusal : GoodIn wsX6_cures wsX6_refusal := goodIn_r _ [13, 1, 8, 14, 15, 16, 6, 17, 18, 19, 20, 92, 93, 94, 95, 96, 97, 98, 99, 100, 101, 102, 103, 104, 105, 106, 107, 108, 109, 110, 111] (by decide +kernel) (by decide +kernel)
set_option maxRecDepth 20000 in
theorem gX6_cures_X6_refusal : GoodIn wsX6_cures (wsV RX6 80 RX6 yX6_refusal wsX6_refusal) := goodIn_app (goodIn_of _ (by decide +kernel)) ggX6_cures_X6_refusal
set_option maxRecDepth 20000 in
theorem ggX6_cures_X0_mayPut : GoodIn wsX6_cures wsX0_mayPut := goodIn_r _ [25, 26, 27, 28, 29, 24, 30, 31, 32, 6, 33, 101, 102, 103, 104, 105, 106, 107, 108, 109, 110, 111] (by decide +kernel) (by decide +kernel)
set_option maxRecDepth 20000 in
theorem gX6_cures_X0_mayPut : GoodIn wsX6_cures (wsV RX6 76 RX0 yX0_mayPut wsX0_mayPut) := goodIn_app (goodIn_of _ (by decide +kernel)) ggX6_cures_X0_mayPut
set_option maxRecDepth 20000 in
theorem ggX6_cures_X1_fill : GoodIn wsX6_cures wsX1_fill := goodIn_r _ [38, 39, 40, 41, 42, 43, 28, 29, 24, 30, 31, 32, 6, 33, 44, 45, 46, 37, 47, 48, 49, 50, 51, 52, 53, 54, 55, 56, 57, 58, 59, 60, 61, 62, 101, 102, 103, 104, 105, 106, 107, 108, 109, 110, 111, 112] (by decide +kernel) (by decide +kernel)
set_option maxRecDepth 20000 in
theorem gX6_cures_X1_fill : GoodIn wsX6_cures (wsV RX6 193 RX1 yX1_fill wsX1_fill) := goodIn_app (goodIn_of _ (by decide +kernel)) ggX6_cures_X1_fill
set_option maxRecDepth 20000 in
theorem ggX6_cures_X1_firstWrong : GoodIn wsX6_cures wsX1_firstWrong := goodIn_r _ [66, 39, 67, 68, 69, 37, 70, 71, 72, 73, 74, 75, 76, 77, 78, 24, 79, 80, 32, 6, 33, 81, 82, 83, 84, 54, 55, 56, 57, 41, 85, 86, 87, 88, 89, 90, 91, 101, 102, 103, 104, 105, 106, 107, 108, 109, 110, 111, 112] (by decide +kernel) (by decide +kernel)
set_option maxRecDepth 20000 in
theorem gX6_cures_X1_firstWrong : GoodIn wsX6_cures (wsV RX6 187 RX1 yX1_firstWrong wsX1_firstWrong) := goodIn_app (goodIn_of _ (by decide +kernel)) ggX6_cures_X1_firstWrong
theorem dX6_cures_0 : decode cX6_cures 0 = .ok (.aload_n 0, 1) := by decide +kernel
theorem dX6_cures_1 : decode cX6_cures 1 = .ok (.aload_n 0, 1) := by decide +kernel
theorem dX6_cures_2 : decode cX6_cures 2 = .ok (.iload_n 1, 1) := by decide +kernel
theorem dX6_cures_3 : decode cX6_cures 3 = .ok (.invokevirtual 73, 3) := by decide +kernel
theorem dX6_cures_6 : decode cX6_cures 6 = .ok (.invokevirtual 80, 3) := by decide +kernel
theorem dX6_cures_9 : decode cX6_cures 9 = .ok (.istore_n 2, 1) := by decide +kernel
theorem dX6_cures_10 : decode cX6_cures 10 = .ok (.iload_n 2, 1) := by decide +kernel
theorem dX6_cures_11 : decode cX6_cures 11 = .ok (.ifCond .eq 5, 3) := by decide +kernel
theorem dX6_cures_14 : decode cX6_cures 14 = .ok (.iload_n 2, 1) := by decide +kernel
theorem dX6_cures_15 : decode cX6_cures 15 = .ok (.ireturn, 1) := by decide +kernel
theorem dX6_cures_16 : decode cX6_cures 16 = .ok (.iconst 0, 1) := by decide +kernel
theorem dX6_cures_17 : decode cX6_cures 17 = .ok (.istore_n 3, 1) := by decide +kernel
theorem dX6_cures_18 : decode cX6_cures 18 = .ok (.iconst 0, 1) := by decide +kernel
theorem dX6_cures_19 : decode cX6_cures 19 = .ok (.istore 4, 2) := by decide +kernel
theorem dX6_cures_21 : decode cX6_cures 21 = .ok (.iload 4, 2) := by decide +kernel
theorem dX6_cures_23 : decode cX6_cures 23 = .ok (.bipush 8, 2) := by decide +kernel
theorem dX6_cures_25 : decode cX6_cures 25 = .ok (.if_icmp .ge 62, 3) := by decide +kernel
theorem dX6_cures_28 : decode cX6_cures 28 = .ok (.aload_n 0, 1) := by decide +kernel
theorem dX6_cures_29 : decode cX6_cures 29 = .ok (.getfield 19, 3) := by decide +kernel
theorem dX6_cures_32 : decode cX6_cures 32 = .ok (.iload_n 1, 1) := by decide +kernel
theorem dX6_cures_33 : decode cX6_cures 33 = .ok (.iload 4, 2) := by decide +kernel
theorem dX6_cures_35 : decode cX6_cures 35 = .ok (.invokevirtual 76, 3) := by decide +kernel
theorem dX6_cures_38 : decode cX6_cures 38 = .ok (.ifCond .eq 43, 3) := by decide +kernel
theorem dX6_cures_41 : decode cX6_cures 41 = .ok (.aload_n 0, 1) := by decide +kernel
theorem dX6_cures_42 : decode cX6_cures 42 = .ok (.getfield 33, 3) := by decide +kernel
theorem dX6_cures_45 : decode cX6_cures 45 = .ok (.aload_n 0, 1) := by decide +kernel
theorem dX6_cures_46 : decode cX6_cures 46 = .ok (.getfield 19, 3) := by decide +kernel
theorem dX6_cures_49 : decode cX6_cures 49 = .ok (.iload_n 1, 1) := by decide +kernel
theorem dX6_cures_50 : decode cX6_cures 50 = .ok (.iload 4, 2) := by decide +kernel
theorem dX6_cures_52 : decode cX6_cures 52 = .ok (.invokevirtual 193, 3) := by decide +kernel
theorem dX6_cures_55 : decode cX6_cures 55 = .ok (.iload_n 3, 1) := by decide +kernel
theorem dX6_cures_56 : decode cX6_cures 56 = .ok (.aload_n 0, 1) := by decide +kernel
theorem dX6_cures_57 : decode cX6_cures 57 = .ok (.getfield 33, 3) := by decide +kernel
theorem dX6_cures_60 : decode cX6_cures 60 = .ok (.aload_n 0, 1) := by decide +kernel
theorem dX6_cures_61 : decode cX6_cures 61 = .ok (.getfield 19, 3) := by decide +kernel
theorem dX6_cures_64 : decode cX6_cures 64 = .ok (.invokevirtual 187, 3) := by decide +kernel
theorem dX6_cures_67 : decode cX6_cures 67 = .ok (.iconst (-1), 1) := by decide +kernel
theorem dX6_cures_68 : decode cX6_cures 68 = .ok (.if_icmp .ne 10, 3) := by decide +kernel
theorem dX6_cures_71 : decode cX6_cures 71 = .ok (.iconst 1, 1) := by decide +kernel
theorem dX6_cures_72 : decode cX6_cures 72 = .ok (.iload 4, 2) := by decide +kernel
theorem dX6_cures_74 : decode cX6_cures 74 = .ok (.ishl, 1) := by decide +kernel
theorem dX6_cures_75 : decode cX6_cures 75 = .ok (.goto 4, 3) := by decide +kernel
theorem dX6_cures_78 : decode cX6_cures 78 = .ok (.iconst 0, 1) := by decide +kernel
theorem dX6_cures_79 : decode cX6_cures 79 = .ok (.ior, 1) := by decide +kernel
theorem dX6_cures_80 : decode cX6_cures 80 = .ok (.istore_n 3, 1) := by decide +kernel
theorem dX6_cures_81 : decode cX6_cures 81 = .ok (.iinc 4 1, 3) := by decide +kernel
theorem dX6_cures_84 : decode cX6_cures 84 = .ok (.goto (-63), 3) := by decide +kernel
theorem dX6_cures_87 : decode cX6_cures 87 = .ok (.iload_n 3, 1) := by decide +kernel
theorem dX6_cures_88 : decode cX6_cures 88 = .ok (.ireturn, 1) := by decide +kernel
set_option maxRecDepth 20000 in
theorem ggX6_right_X6_stageRefusal : GoodIn wsX6_right wsX6_stageRefusal := goodIn_r _ [8, 3, 1, 9, 10, 11, 7, 12, 13, 14, 15, 16, 17, 18, 19, 20, 21, 22, 23, 24, 25, 26, 27, 28, 29, 30, 31, 32, 33, 34, 35, 36, 37, 38, 39, 40, 41, 42, 43, 44, 45, 46, 47, 48, 49, 50, 51, 52, 53, 54, 55, 56, 57, 58, 59, 60, 61, 62, 63, 64, 65, 66, 67, 68, 69, 70, 71, 72, 73, 74, 75, 76, 77, 78, 79, 80, 81, 82, 83, 84, 85, 86, 87, 88, 89, 90, 91, 92, 93, 94, 95, 96, 97, 98, 99, 100, 101, 102, 103, 104, 105, 106, 107, 108, 109, 110, 111, 112, 113, 114, 115, 116, 117, 118, 119, 120, 121, 122, 123, 124, 125, 127, 128, 129, 130, 131, 132, 133, 134, 135, 136, 137, 138, 139, 140, 141, 142, 143, 144, 145, 146, 147, 148, 149, 150, 151, 152, 153, 154, 155] (by decide +kernel) (by decide +kernel)
set_option maxRecDepth 20000 in
theorem gX6_right_X6_stageRefusal : GoodIn wsX6_right (wsV RX6 200 RX6 yX6_stageRefusal wsX6_stageRefusal) := goodIn_app (goodIn_of _ (by decide +kernel)) ggX6_right_X6_stageRefusal
set_option maxRecDepth 20000 in
theorem ggX6_right_X4_sizeOf : GoodIn wsX6_right wsX4_sizeOf := goodIn_r _ [109, 26, 27, 43, 7, 44, 147, 148, 149, 150, 151, 152] (by decide +kernel) (by decide +kernel)
set_option maxRecDepth 20000 in
theorem gX6_right_X4_sizeOf : GoodIn wsX6_right (wsV RX6 204 RX4 yX4_sizeOf wsX4_sizeOf) := goodIn_app (goodIn_of _ (by decide +kernel)) ggX6_right_X4_sizeOf
theorem dX6_right_0 : decode cX6_right 0 = .ok (.aload_n 0, 1) := by decide +kernel
theorem dX6_right_1 : decode cX6_right 1 = .ok (.iconst 1, 1) := by decide +kernel
theorem dX6_right_2 : decode cX6_right 2 = .ok (.aload_n 0, 1) := by decide +kernel
theorem dX6_right_3 : decode cX6_right 3 = .ok (.getfield 19, 3) := by decide +kernel
theorem dX6_right_6 : decode cX6_right 6 = .ok (.getfield 197, 3) := by decide +kernel
theorem dX6_right_9 : decode cX6_right 9 = .ok (.invokevirtual 200, 3) := by decide +kernel
theorem dX6_right_12 : decode cX6_right 12 = .ok (.istore_n 1, 1) := by decide +kernel
theorem dX6_right_13 : decode cX6_right 13 = .ok (.iload_n 1, 1) := by decide +kernel
theorem dX6_right_14 : decode cX6_right 14 = .ok (.ifCond .eq 5, 3) := by decide +kernel
theorem dX6_right_17 : decode cX6_right 17 = .ok (.iload_n 1, 1) := by decide +kernel
theorem dX6_right_18 : decode cX6_right 18 = .ok (.ireturn, 1) := by decide +kernel
theorem dX6_right_19 : decode cX6_right 19 = .ok (.aload_n 0, 1) := by decide +kernel
theorem dX6_right_20 : decode cX6_right 20 = .ok (.getfield 39, 3) := by decide +kernel
theorem dX6_right_23 : decode cX6_right 23 = .ok (.aload_n 0, 1) := by decide +kernel
theorem dX6_right_24 : decode cX6_right 24 = .ok (.getfield 19, 3) := by decide +kernel
theorem dX6_right_27 : decode cX6_right 27 = .ok (.getfield 197, 3) := by decide +kernel
theorem dX6_right_30 : decode cX6_right 30 = .ok (.invokevirtual 204, 3) := by decide +kernel
theorem dX6_right_33 : decode cX6_right 33 = .ok (.ifCond .ne 7, 3) := by decide +kernel
theorem dX6_right_36 : decode cX6_right 36 = .ok (.iconst 1, 1) := by decide +kernel
theorem dX6_right_37 : decode cX6_right 37 = .ok (.goto 4, 3) := by decide +kernel
theorem dX6_right_40 : decode cX6_right 40 = .ok (.iconst 0, 1) := by decide +kernel
theorem dX6_right_41 : decode cX6_right 41 = .ok (.ireturn, 1) := by decide +kernel
set_option maxRecDepth 20000 in
theorem ggX6_terms_X6_isStage : GoodIn wsX6_terms wsX6_isStage := goodIn_r _ [6, 7, 8, 9, 131, 132, 133, 134, 135, 136, 137, 138, 139, 140, 141, 142, 143, 144, 145, 146, 147, 148, 149, 150] (by decide +kernel) (by decide +kernel)
set_option maxRecDepth 20000 in
theorem gX6_terms_X6_isStage : GoodIn wsX6_terms (wsV RX6 207 RX6 yX6_isStage wsX6_isStage) := goodIn_app (goodIn_of _ (by decide +kernel)) ggX6_terms_X6_isStage
set_option maxRecDepth 20000 in
theorem ggX6_terms_X6_stageRefusal : GoodIn wsX6_terms wsX6_stageRefusal := goodIn_r _ [13, 1, 7, 14, 15, 16, 5, 17, 8, 18, 19, 20, 21, 22, 23, 24, 25, 26, 27, 28, 29, 30, 31, 32, 33, 34, 35, 36, 37, 38, 39, 40, 41, 42, 43, 44, 45, 46, 47, 48, 49, 50, 51, 52, 53, 54, 55, 56, 57, 58, 59, 60, 61, 62, 63, 64, 65, 66, 67, 68, 69, 70, 71, 72, 73, 74, 75, 76, 77, 78, 79, 80, 81, 82, 83, 84, 85, 86, 87, 88, 89, 90, 91, 92, 93, 94, 95, 96, 97, 98, 99, 100, 101, 102, 103, 104, 105, 106, 107, 108, 109, 110, 111, 112, 113, 114, 115, 116, 117, 118, 119, 120, 121, 122, 123, 124, 125, 126, 127, 128, 129, 131, 132, 133, 134, 135, 136, 137, 138, 139, 140, 141, 142, 143, 144, 145, 146, 147, 148, 149, 150, 151, 152, 153, 154, 155, 156, 157, 158, 159] (by decide +kernel) (by decide +kernel)
set_option maxRecDepth 20000 in
theorem gX6_terms_X6_stageRefusal : GoodIn wsX6_terms (wsV RX6 200 RX6 yX6_stageRefusal wsX6_stageRefusal) := goodIn_app (goodIn_of _ (by decide +kernel)) ggX6_terms_X6_stageRefusal
set_option maxRecDepth 20000 in
theorem ggX6_terms_X4_sizeOf : GoodIn wsX6_terms wsX4_sizeOf := goodIn_r _ [113, 30, 31, 47, 5, 48, 151, 152, 153, 154, 155, 156] (by decide +kernel) (by decide +kernel)
set_option maxRecDepth 20000 in
theorem gX6_terms_X4_sizeOf : GoodIn wsX6_terms (wsV RX6 204 RX4 yX4_sizeOf wsX4_sizeOf) := goodIn_app (goodIn_of _ (by decide +kernel)) ggX6_terms_X4_sizeOf
theorem dX6_terms_0 : decode cX6_terms 0 = .ok (.aload_n 0, 1) := by decide +kernel
theorem dX6_terms_1 : decode cX6_terms 1 = .ok (.aload_n 0, 1) := by decide +kernel
theorem dX6_terms_2 : decode cX6_terms 2 = .ok (.iload_n 1, 1) := by decide +kernel
theorem dX6_terms_3 : decode cX6_terms 3 = .ok (.invokevirtual 207, 3) := by decide +kernel
theorem dX6_terms_6 : decode cX6_terms 6 = .ok (.iload_n 1, 1) := by decide +kernel
theorem dX6_terms_7 : decode cX6_terms 7 = .ok (.invokevirtual 200, 3) := by decide +kernel
theorem dX6_terms_10 : decode cX6_terms 10 = .ok (.istore_n 2, 1) := by decide +kernel
theorem dX6_terms_11 : decode cX6_terms 11 = .ok (.iload_n 2, 1) := by decide +kernel
theorem dX6_terms_12 : decode cX6_terms 12 = .ok (.ifCond .eq 7, 3) := by decide +kernel
theorem dX6_terms_15 : decode cX6_terms 15 = .ok (.iload_n 2, 1) := by decide +kernel
theorem dX6_terms_16 : decode cX6_terms 16 = .ok (.goto 11, 3) := by decide +kernel
theorem dX6_terms_19 : decode cX6_terms 19 = .ok (.aload_n 0, 1) := by decide +kernel
theorem dX6_terms_20 : decode cX6_terms 20 = .ok (.getfield 39, 3) := by decide +kernel
theorem dX6_terms_23 : decode cX6_terms 23 = .ok (.iload_n 1, 1) := by decide +kernel
theorem dX6_terms_24 : decode cX6_terms 24 = .ok (.invokevirtual 204, 3) := by decide +kernel
theorem dX6_terms_27 : decode cX6_terms 27 = .ok (.ireturn, 1) := by decide +kernel
set_option maxRecDepth 20000 in
theorem ggX6_term_X6_isStage : GoodIn wsX6_term wsX6_isStage := goodIn_r _ [6, 7, 8, 9, 133, 134, 135, 136, 137, 138, 139, 140, 141, 142, 143, 144, 145, 146, 147, 148, 149, 150, 151, 152] (by decide +kernel) (by decide +kernel)
set_option maxRecDepth 20000 in
theorem gX6_term_X6_isStage : GoodIn wsX6_term (wsV RX6 207 RX6 yX6_isStage wsX6_isStage) := goodIn_app (goodIn_of _ (by decide +kernel)) ggX6_term_X6_isStage
set_option maxRecDepth 20000 in
theorem ggX6_term_X6_stageRefusal : GoodIn wsX6_term wsX6_stageRefusal := goodIn_r _ [13, 1, 7, 14, 15, 16, 5, 17, 8, 18, 19, 20, 21, 22, 23, 24, 25, 26, 27, 28, 29, 30, 31, 32, 33, 34, 35, 36, 37, 38, 39, 40, 41, 42, 43, 44, 45, 46, 47, 48, 49, 50, 51, 52, 53, 54, 55, 56, 57, 58, 59, 60, 61, 62, 63, 64, 65, 66, 67, 68, 69, 70, 71, 72, 73, 74, 75, 76, 77, 78, 79, 80, 81, 82, 83, 84, 85, 86, 87, 88, 89, 90, 91, 92, 93, 94, 95, 96, 97, 98, 99, 100, 101, 102, 103, 104, 105, 106, 107, 108, 109, 110, 111, 112, 113, 114, 115, 116, 117, 118, 119, 120, 121, 122, 123, 124, 125, 126, 127, 128, 129, 133, 134, 135, 136, 137, 138, 139, 140, 141, 142, 143, 144, 145, 146, 147, 148, 149, 150, 151, 152, 153, 154, 155, 156, 157, 158, 159, 160, 161] (by decide +kernel) (by decide +kernel)
set_option maxRecDepth 20000 in
theorem gX6_term_X6_stageRefusal : GoodIn wsX6_term (wsV RX6 200 RX6 yX6_stageRefusal wsX6_stageRefusal) := goodIn_app (goodIn_of _ (by decide +kernel)) ggX6_term_X6_stageRefusal
set_option maxRecDepth 20000 in
theorem ggX6_term_X4_sizeOf : GoodIn wsX6_term wsX4_sizeOf := goodIn_r _ [113, 30, 31, 47, 5, 48, 153, 154, 155, 156, 157, 158] (by decide +kernel) (by decide +kernel)
set_option maxRecDepth 20000 in
theorem gX6_term_X4_sizeOf : GoodIn wsX6_term (wsV RX6 204 RX4 yX4_sizeOf wsX4_sizeOf) := goodIn_app (goodIn_of _ (by decide +kernel)) ggX6_term_X4_sizeOf
set_option maxRecDepth 20000 in
theorem ggX6_term_X4_coefficientAt : GoodIn wsX6_term wsX4_coefficientAt := goodIn_r _ [122, 123, 47, 5, 48, 153, 154, 155, 156, 157, 158] (by decide +kernel) (by decide +kernel)
set_option maxRecDepth 20000 in
theorem gX6_term_X4_coefficientAt : GoodIn wsX6_term (wsV RX6 210 RX4 yX4_coefficientAt wsX4_coefficientAt) := goodIn_app (goodIn_of _ (by decide +kernel)) ggX6_term_X4_coefficientAt
set_option maxRecDepth 20000 in
theorem ggX6_term_X4_setAt : GoodIn wsX6_term wsX4_setAt := goodIn_r _ [117, 118, 47, 5, 48, 153, 154, 155, 156, 157, 158] (by decide +kernel) (by decide +kernel)
set_option maxRecDepth 20000 in
theorem gX6_term_X4_setAt : GoodIn wsX6_term (wsV RX6 213 RX4 yX4_setAt wsX4_setAt) := goodIn_app (goodIn_of _ (by decide +kernel)) ggX6_term_X4_setAt
theorem dX6_term_0 : decode cX6_term 0 = .ok (.aload_n 0, 1) := by decide +kernel
theorem dX6_term_1 : decode cX6_term 1 = .ok (.aload_n 0, 1) := by decide +kernel
theorem dX6_term_2 : decode cX6_term 2 = .ok (.iload_n 1, 1) := by decide +kernel
theorem dX6_term_3 : decode cX6_term 3 = .ok (.invokevirtual 207, 3) := by decide +kernel
theorem dX6_term_6 : decode cX6_term 6 = .ok (.ifCond .eq 20, 3) := by decide +kernel
theorem dX6_term_9 : decode cX6_term 9 = .ok (.iload_n 2, 1) := by decide +kernel
theorem dX6_term_10 : decode cX6_term 10 = .ok (.ifCond .lt 16, 3) := by decide +kernel
theorem dX6_term_13 : decode cX6_term 13 = .ok (.iload_n 3, 1) := by decide +kernel
theorem dX6_term_14 : decode cX6_term 14 = .ok (.ifCond .eq 8, 3) := by decide +kernel
theorem dX6_term_17 : decode cX6_term 17 = .ok (.iload_n 3, 1) := by decide +kernel
theorem dX6_term_18 : decode cX6_term 18 = .ok (.iconst 1, 1) := by decide +kernel
theorem dX6_term_19 : decode cX6_term 19 = .ok (.if_icmp .ne 7, 3) := by decide +kernel
theorem dX6_term_22 : decode cX6_term 22 = .ok (.iconst 1, 1) := by decide +kernel
theorem dX6_term_23 : decode cX6_term 23 = .ok (.goto 4, 3) := by decide +kernel
theorem dX6_term_26 : decode cX6_term 26 = .ok (.iconst 0, 1) := by decide +kernel
theorem dX6_term_27 : decode cX6_term 27 = .ok (.iload_n 1, 1) := by decide +kernel
theorem dX6_term_28 : decode cX6_term 28 = .ok (.invokevirtual 200, 3) := by decide +kernel
theorem dX6_term_31 : decode cX6_term 31 = .ok (.istore 4, 2) := by decide +kernel
theorem dX6_term_33 : decode cX6_term 33 = .ok (.iload 4, 2) := by decide +kernel
theorem dX6_term_35 : decode cX6_term 35 = .ok (.ifCond .eq 6, 3) := by decide +kernel
theorem dX6_term_38 : decode cX6_term 38 = .ok (.iload 4, 2) := by decide +kernel
theorem dX6_term_40 : decode cX6_term 40 = .ok (.ireturn, 1) := by decide +kernel
theorem dX6_term_41 : decode cX6_term 41 = .ok (.iload_n 2, 1) := by decide +kernel
theorem dX6_term_42 : decode cX6_term 42 = .ok (.aload_n 0, 1) := by decide +kernel
theorem dX6_term_43 : decode cX6_term 43 = .ok (.getfield 39, 3) := by decide +kernel
theorem dX6_term_46 : decode cX6_term 46 = .ok (.iload_n 1, 1) := by decide +kernel
theorem dX6_term_47 : decode cX6_term 47 = .ok (.invokevirtual 204, 3) := by decide +kernel
theorem dX6_term_50 : decode cX6_term 50 = .ok (.if_icmp .lt 5, 3) := by decide +kernel
theorem dX6_term_53 : decode cX6_term 53 = .ok (.iconst (-1), 1) := by decide +kernel
theorem dX6_term_54 : decode cX6_term 54 = .ok (.ireturn, 1) := by decide +kernel
theorem dX6_term_55 : decode cX6_term 55 = .ok (.iload_n 3, 1) := by decide +kernel
theorem dX6_term_56 : decode cX6_term 56 = .ok (.ifCond .ne 15, 3) := by decide +kernel
theorem dX6_term_59 : decode cX6_term 59 = .ok (.aload_n 0, 1) := by decide +kernel
theorem dX6_term_60 : decode cX6_term 60 = .ok (.getfield 39, 3) := by decide +kernel
theorem dX6_term_63 : decode cX6_term 63 = .ok (.iload_n 1, 1) := by decide +kernel
theorem dX6_term_64 : decode cX6_term 64 = .ok (.iload_n 2, 1) := by decide +kernel
theorem dX6_term_65 : decode cX6_term 65 = .ok (.invokevirtual 210, 3) := by decide +kernel
theorem dX6_term_68 : decode cX6_term 68 = .ok (.goto 12, 3) := by decide +kernel
theorem dX6_term_71 : decode cX6_term 71 = .ok (.aload_n 0, 1) := by decide +kernel
theorem dX6_term_72 : decode cX6_term 72 = .ok (.getfield 39, 3) := by decide +kernel
theorem dX6_term_75 : decode cX6_term 75 = .ok (.iload_n 1, 1) := by decide +kernel
theorem dX6_term_76 : decode cX6_term 76 = .ok (.iload_n 2, 1) := by decide +kernel
theorem dX6_term_77 : decode cX6_term 77 = .ok (.invokevirtual 213, 3) := by decide +kernel
theorem dX6_term_80 : decode cX6_term 80 = .ok (.ireturn, 1) := by decide +kernel
set_option maxRecDepth 20000 in
theorem ggX6_most_X6_stageRefusal : GoodIn wsX6_most wsX6_stageRefusal := goodIn_r _ [8, 3, 1, 9, 10, 11, 7, 12, 13, 14, 15, 16, 17, 18, 19, 20, 21, 22, 23, 24, 25, 26, 27, 28, 29, 30, 31, 32, 33, 34, 35, 36, 37, 38, 39, 40, 41, 42, 43, 44, 45, 46, 47, 48, 49, 50, 51, 52, 53, 54, 55, 56, 57, 58, 59, 60, 61, 62, 63, 64, 65, 66, 67, 68, 69, 70, 71, 72, 73, 74, 75, 76, 77, 78, 79, 80, 81, 82, 83, 84, 85, 86, 87, 88, 89, 90, 91, 92, 93, 94, 95, 96, 97, 98, 99, 100, 101, 102, 103, 104, 105, 106, 107, 108, 109, 110, 111, 112, 113, 114, 115, 116, 117, 118, 119, 120, 121, 122, 123, 124, 125, 149, 150, 151, 152, 153, 154, 155, 156, 157, 158, 159, 160, 161, 162, 163, 164, 165, 166, 167, 168, 169, 170, 171, 172, 173, 174, 175, 176, 177] (by decide +kernel) (by decide +kernel)
set_option maxRecDepth 20000 in
theorem gX6_most_X6_stageRefusal : GoodIn wsX6_most (wsV RX6 200 RX6 yX6_stageRefusal wsX6_stageRefusal) := goodIn_app (goodIn_of _ (by decide +kernel)) ggX6_most_X6_stageRefusal
set_option maxRecDepth 20000 in
theorem ggX6_most_X4_greatestSize : GoodIn wsX6_most wsX4_greatestSize := goodIn_r _ [129, 27, 130, 131, 132, 133, 106, 107, 108, 24, 109, 26, 43, 7, 44, 169, 170, 171, 172, 173, 174] (by decide +kernel) (by decide +kernel)
set_option maxRecDepth 20000 in
theorem gX6_most_X4_greatestSize : GoodIn wsX6_most (wsV RX6 216 RX4 yX4_greatestSize wsX4_greatestSize) := goodIn_app (goodIn_of _ (by decide +kernel)) ggX6_most_X4_greatestSize
set_option maxRecDepth 20000 in
theorem ggX6_most_X4_widestOf : GoodIn wsX6_most wsX4_widestOf := goodIn_r _ [137, 130, 131, 132, 133, 106, 107, 108, 24, 109, 26, 27, 43, 7, 44, 110, 111, 112, 113, 114, 138, 139, 140, 141, 142, 143, 144, 169, 170, 171, 172, 173, 174] (by decide +kernel) (by decide +kernel)
set_option maxRecDepth 20000 in
theorem gX6_most_X4_widestOf : GoodIn wsX6_most (wsV RX6 219 RX4 yX4_widestOf wsX4_widestOf) := goodIn_app (goodIn_of _ (by decide +kernel)) ggX6_most_X4_widestOf
set_option maxRecDepth 20000 in
theorem ggX6_most_X4_sumWhere : GoodIn wsX6_most wsX4_sumWhere := goodIn_r _ [148, 106, 107, 108, 24, 109, 26, 27, 43, 7, 44, 110, 111, 112, 113, 114, 115, 116, 117, 118, 119, 169, 170, 171, 172, 173, 174] (by decide +kernel) (by decide +kernel)
set_option maxRecDepth 20000 in
theorem gX6_most_X4_sumWhere : GoodIn wsX6_most (wsV RX6 222 RX4 yX4_sumWhere wsX4_sumWhere) := goodIn_app (goodIn_of _ (by decide +kernel)) ggX6_most_X4_sumWhere
theorem dX6_most_0 : decode cX6_most 0 = .ok (.aload_n 0, 1) := by decide +kernel
theorem dX6_most_1 : decode cX6_most 1 = .ok (.getfield 19, 3) := by decide +kernel
theorem dX6_most_4 : decode cX6_most 4 = .ok (.getfield 197, 3) := by decide +kernel
theorem dX6_most_7 : decode cX6_most 7 = .ok (.istore_n 2, 1) := by decide +kernel
theorem dX6_most_8 : decode cX6_most 8 = .ok (.aload_n 0, 1) := by decide +kernel
theorem dX6_most_9 : decode cX6_most 9 = .ok (.iload_n 1, 1) := by decide +kernel
theorem dX6_most_10 : decode cX6_most 10 = .ok (.ifCond .lt 12, 3) := by decide +kernel
theorem dX6_most_13 : decode cX6_most 13 = .ok (.iload_n 1, 1) := by decide +kernel
theorem dX6_most_14 : decode cX6_most 14 = .ok (.iconst 2, 1) := by decide +kernel
theorem dX6_most_15 : decode cX6_most 15 = .ok (.if_icmp .gt 7, 3) := by decide +kernel
theorem dX6_most_18 : decode cX6_most 18 = .ok (.iconst 1, 1) := by decide +kernel
theorem dX6_most_19 : decode cX6_most 19 = .ok (.goto 4, 3) := by decide +kernel
theorem dX6_most_22 : decode cX6_most 22 = .ok (.iconst 0, 1) := by decide +kernel
theorem dX6_most_23 : decode cX6_most 23 = .ok (.iload_n 2, 1) := by decide +kernel
theorem dX6_most_24 : decode cX6_most 24 = .ok (.invokevirtual 200, 3) := by decide +kernel
theorem dX6_most_27 : decode cX6_most 27 = .ok (.istore_n 3, 1) := by decide +kernel
theorem dX6_most_28 : decode cX6_most 28 = .ok (.iload_n 3, 1) := by decide +kernel
theorem dX6_most_29 : decode cX6_most 29 = .ok (.ifCond .eq 5, 3) := by decide +kernel
theorem dX6_most_32 : decode cX6_most 32 = .ok (.iload_n 3, 1) := by decide +kernel
theorem dX6_most_33 : decode cX6_most 33 = .ok (.ireturn, 1) := by decide +kernel
theorem dX6_most_34 : decode cX6_most 34 = .ok (.iload_n 1, 1) := by decide +kernel
theorem dX6_most_35 : decode cX6_most 35 = .ok (.lookupswitch 43 #[(0, 25), (1, 34)], 25) := by decide +kernel
theorem dX6_most_60 : decode cX6_most 60 = .ok (.aload_n 0, 1) := by decide +kernel
theorem dX6_most_61 : decode cX6_most 61 = .ok (.getfield 39, 3) := by decide +kernel
theorem dX6_most_64 : decode cX6_most 64 = .ok (.iload_n 2, 1) := by decide +kernel
theorem dX6_most_65 : decode cX6_most 65 = .ok (.invokevirtual 216, 3) := by decide +kernel
theorem dX6_most_68 : decode cX6_most 68 = .ok (.ireturn, 1) := by decide +kernel
theorem dX6_most_69 : decode cX6_most 69 = .ok (.aload_n 0, 1) := by decide +kernel
theorem dX6_most_70 : decode cX6_most 70 = .ok (.getfield 39, 3) := by decide +kernel
theorem dX6_most_73 : decode cX6_most 73 = .ok (.iload_n 2, 1) := by decide +kernel
theorem dX6_most_74 : decode cX6_most 74 = .ok (.invokevirtual 219, 3) := by decide +kernel
theorem dX6_most_77 : decode cX6_most 77 = .ok (.ireturn, 1) := by decide +kernel
theorem dX6_most_78 : decode cX6_most 78 = .ok (.aload_n 0, 1) := by decide +kernel
theorem dX6_most_79 : decode cX6_most 79 = .ok (.getfield 39, 3) := by decide +kernel
theorem dX6_most_82 : decode cX6_most 82 = .ok (.iload_n 2, 1) := by decide +kernel
theorem dX6_most_83 : decode cX6_most 83 = .ok (.iconst (-1), 1) := by decide +kernel
theorem dX6_most_84 : decode cX6_most 84 = .ok (.invokevirtual 222, 3) := by decide +kernel
theorem dX6_most_87 : decode cX6_most 87 = .ok (.ireturn, 1) := by decide +kernel
set_option maxRecDepth 20000 in
theorem ggX6_dearest_X6_isStage : GoodIn wsX6_dearest wsX6_isStage := goodIn_r _ [6, 7, 8, 9, 142, 143, 144, 145, 146, 147, 148, 149, 150, 151, 152, 153, 154, 155, 156, 157, 158, 159, 160, 161] (by decide +kernel) (by decide +kernel)
set_option maxRecDepth 20000 in
theorem gX6_dearest_X6_isStage : GoodIn wsX6_dearest (wsV RX6 207 RX6 yX6_isStage wsX6_isStage) := goodIn_app (goodIn_of _ (by decide +kernel)) ggX6_dearest_X6_isStage
set_option maxRecDepth 20000 in
theorem ggX6_dearest_X6_stageRefusal : GoodIn wsX6_dearest wsX6_stageRefusal := goodIn_r _ [13, 1, 7, 14, 15, 16, 5, 17, 8, 18, 19, 20, 21, 22, 23, 24, 25, 26, 27, 28, 29, 30, 31, 32, 33, 34, 35, 36, 37, 38, 39, 40, 41, 42, 43, 44, 45, 46, 47, 48, 49, 50, 51, 52, 53, 54, 55, 56, 57, 58, 59, 60, 61, 62, 63, 64, 65, 66, 67, 68, 69, 70, 71, 72, 73, 74, 75, 76, 77, 78, 79, 80, 81, 82, 83, 84, 85, 86, 87, 88, 89, 90, 91, 92, 93, 94, 95, 96, 97, 98, 99, 100, 101, 102, 103, 104, 105, 106, 107, 108, 109, 110, 111, 112, 113, 114, 115, 116, 117, 118, 119, 120, 121, 122, 123, 124, 125, 126, 127, 128, 129, 142, 143, 144, 145, 146, 147, 148, 149, 150, 151, 152, 153, 154, 155, 156, 157, 158, 159, 160, 161, 162, 163, 164, 165, 166, 167, 168, 169, 170] (by decide +kernel) (by decide +kernel)
set_option maxRecDepth 20000 in
theorem gX6_dearest_X6_stageRefusal : GoodIn wsX6_dearest (wsV RX6 200 RX6 yX6_stageRefusal wsX6_stageRefusal) := goodIn_app (goodIn_of _ (by decide +kernel)) ggX6_dearest_X6_stageRefusal
set_option maxRecDepth 20000 in
theorem ggX6_dearest_X4_dearestOf : GoodIn wsX6_dearest wsX4_dearestOf := goodIn_r _ [133, 110, 111, 112, 28, 113, 30, 31, 47, 5, 48, 134, 135, 136, 137, 138, 139, 140, 141, 119, 120, 121, 122, 123, 114, 115, 116, 117, 118, 162, 163, 164, 165, 166, 167] (by decide +kernel) (by decide +kernel)
set_option maxRecDepth 20000 in
theorem gX6_dearest_X4_dearestOf : GoodIn wsX6_dearest (wsV RX6 225 RX4 yX4_dearestOf wsX4_dearestOf) := goodIn_app (goodIn_of _ (by decide +kernel)) ggX6_dearest_X4_dearestOf
theorem dX6_dearest_0 : decode cX6_dearest 0 = .ok (.aload_n 0, 1) := by decide +kernel
theorem dX6_dearest_1 : decode cX6_dearest 1 = .ok (.aload_n 0, 1) := by decide +kernel
theorem dX6_dearest_2 : decode cX6_dearest 2 = .ok (.iload_n 1, 1) := by decide +kernel
theorem dX6_dearest_3 : decode cX6_dearest 3 = .ok (.invokevirtual 207, 3) := by decide +kernel
theorem dX6_dearest_6 : decode cX6_dearest 6 = .ok (.ifCond .eq 11, 3) := by decide +kernel
theorem dX6_dearest_9 : decode cX6_dearest 9 = .ok (.iload_n 2, 1) := by decide +kernel
theorem dX6_dearest_10 : decode cX6_dearest 10 = .ok (.ifCond .lt 7, 3) := by decide +kernel
theorem dX6_dearest_13 : decode cX6_dearest 13 = .ok (.iconst 1, 1) := by decide +kernel
theorem dX6_dearest_14 : decode cX6_dearest 14 = .ok (.goto 4, 3) := by decide +kernel
theorem dX6_dearest_17 : decode cX6_dearest 17 = .ok (.iconst 0, 1) := by decide +kernel
theorem dX6_dearest_18 : decode cX6_dearest 18 = .ok (.iload_n 1, 1) := by decide +kernel
theorem dX6_dearest_19 : decode cX6_dearest 19 = .ok (.invokevirtual 200, 3) := by decide +kernel
theorem dX6_dearest_22 : decode cX6_dearest 22 = .ok (.istore_n 3, 1) := by decide +kernel
theorem dX6_dearest_23 : decode cX6_dearest 23 = .ok (.iload_n 3, 1) := by decide +kernel
theorem dX6_dearest_24 : decode cX6_dearest 24 = .ok (.ifCond .eq 7, 3) := by decide +kernel
theorem dX6_dearest_27 : decode cX6_dearest 27 = .ok (.iload_n 3, 1) := by decide +kernel
theorem dX6_dearest_28 : decode cX6_dearest 28 = .ok (.goto 12, 3) := by decide +kernel
theorem dX6_dearest_31 : decode cX6_dearest 31 = .ok (.aload_n 0, 1) := by decide +kernel
theorem dX6_dearest_32 : decode cX6_dearest 32 = .ok (.getfield 39, 3) := by decide +kernel
