set_option maxRecDepth 20000 in
theorem ggX0_addGate_X6_put : GoodIn wsX0_addGate wsX6_put := goodIn_r _ [7] rfl (by decide +kernel)
set_option maxRecDepth 20000 in
theorem gX0_addGate_X6_put_n38 : GoodIn wsX0_addGate (wsX6_put) := ggX0_addGate_X6_put
set_option maxRecDepth 20000 in
theorem ggX0_addGate_X0_signals : GoodIn wsX0_addGate wsX0_signals := goodIn_r _ [12, 13, 1, 14, 15, 16, 17, 18, 19, 20, 21, 22, 23, 24] rfl (by decide +kernel)
set_option maxRecDepth 20000 in
theorem gX0_addGate_X0_signals : GoodIn wsX0_addGate (wsV RX0 42 RX0 yX0_signals wsX0_signals) := goodIn_app (goodIn_r _ [8, 9, 10, 11] rfl (by decide +kernel)) ggX0_addGate_X0_signals
set_option maxRecDepth 20000 in
theorem ggX0_addOutput_X6_put : GoodIn wsX0_addOutput wsX6_put := goodIn_r _ [5] rfl (by decide +kernel)
set_option maxRecDepth 20000 in
theorem gX0_addOutput_X6_put_n38 : GoodIn wsX0_addOutput (wsX6_put) := ggX0_addOutput_X6_put
set_option maxRecDepth 20000 in
theorem ggX0_become_X0_begin : GoodIn wsX0_become wsX0_begin := goodIn_r _ [11, 12, 1, 2, 3, 54, 55, 56, 57, 58, 59, 60, 61, 62, 63, 64] rfl (by decide +kernel)
set_option maxRecDepth 20000 in
theorem gX0_become_X0_begin : GoodIn wsX0_become (wsV RX0 55 RX0 yX0_begin wsX0_begin) := goodIn_app (goodIn_r _ [7, 8, 9, 10] rfl (by decide +kernel)) ggX0_become_X0_begin
set_option maxRecDepth 20000 in
theorem ggX0_become_X0_kindOf : GoodIn wsX0_become wsX0_kindOf := goodIn_r _ [16, 17, 18, 19, 20, 54, 55, 56, 57, 58, 59, 60, 61, 62, 63, 64] rfl (by decide +kernel)
set_option maxRecDepth 20000 in
theorem gX0_become_X0_kindOf : GoodIn wsX0_become (wsV RX0 59 RX0 yX0_kindOf wsX0_kindOf) := goodIn_app (goodIn_r _ [13, 14, 15, 10] rfl (by decide +kernel)) ggX0_become_X0_kindOf
set_option maxRecDepth 20000 in
theorem ggX0_become_X0_xOf : GoodIn wsX0_become wsX0_xOf := goodIn_r _ [24, 25, 18, 19, 20, 54, 55, 56, 57, 58, 59, 60, 61, 62, 63, 64] rfl (by decide +kernel)
set_option maxRecDepth 20000 in
theorem gX0_become_X0_xOf : GoodIn wsX0_become (wsV RX0 63 RX0 yX0_xOf wsX0_xOf) := goodIn_app (goodIn_r _ [21, 22, 23, 10] rfl (by decide +kernel)) ggX0_become_X0_xOf
set_option maxRecDepth 20000 in
theorem ggX0_become_X0_yOf : GoodIn wsX0_become wsX0_yOf := goodIn_r _ [29, 30, 18, 19, 20, 54, 55, 56, 57, 58, 59, 60, 61, 62, 63, 64] rfl (by decide +kernel)
set_option maxRecDepth 20000 in
theorem gX0_become_X0_yOf : GoodIn wsX0_become (wsV RX0 66 RX0 yX0_yOf wsX0_yOf) := goodIn_app (goodIn_r _ [26, 27, 28, 10] rfl (by decide +kernel)) ggX0_become_X0_yOf
set_option maxRecDepth 20000 in
theorem ggX0_become_X0_addGate : GoodIn wsX0_become wsX0_addGate := goodIn_r _ [34, 2, 17, 25, 30, 35, 19, 36, 37, 38, 39, 10, 40, 1, 54, 55, 56, 57, 58, 59, 60, 61, 62, 63, 64] rfl (by decide +kernel)
set_option maxRecDepth 20000 in
theorem gX0_become_X0_addGate : GoodIn wsX0_become (wsV RX0 69 RX0 yX0_addGate wsX0_addGate) := goodIn_app (goodIn_r _ [31, 32, 33, 10] rfl (by decide +kernel)) ggX0_become_X0_addGate
set_option maxRecDepth 20000 in
theorem ggX0_become_X0_outputAt : GoodIn wsX0_become wsX0_outputAt := goodIn_r _ [44, 45, 18, 19, 20, 54, 55, 56, 57, 58, 59, 60, 61, 62, 63, 64] rfl (by decide +kernel)
set_option maxRecDepth 20000 in
theorem gX0_become_X0_outputAt : GoodIn wsX0_become (wsV RX0 73 RX0 yX0_outputAt wsX0_outputAt) := goodIn_app (goodIn_r _ [41, 42, 43, 10] rfl (by decide +kernel)) ggX0_become_X0_outputAt
set_option maxRecDepth 20000 in
theorem ggX0_become_X0_addOutput : GoodIn wsX0_become wsX0_addOutput := goodIn_r _ [49, 3, 45, 35, 19, 36, 54, 55, 56, 57, 58, 59, 60, 61, 62, 63, 64] rfl (by decide +kernel)
set_option maxRecDepth 20000 in
theorem gX0_become_X0_addOutput : GoodIn wsX0_become (wsV RX0 76 RX0 yX0_addOutput wsX0_addOutput) := goodIn_app (goodIn_r _ [46, 47, 48, 10] rfl (by decide +kernel)) ggX0_become_X0_addOutput
set_option maxRecDepth 20000 in
theorem ggX0_become_X0_end : GoodIn wsX0_become wsX0_end := goodIn_r _ [53, 4, 5, 6, 12, 54, 55, 56, 57, 58, 59, 60, 61, 62, 63, 64] rfl (by decide +kernel)
set_option maxRecDepth 20000 in
theorem gX0_become_X0_end : GoodIn wsX0_become (wsV RX0 79 RX0 yX0_end wsX0_end) := goodIn_app (goodIn_r _ [50, 51, 52, 10] rfl (by decide +kernel)) ggX0_become_X0_end
set_option maxRecDepth 20000 in
theorem ggX0_kindOf_X6_at : GoodIn wsX0_kindOf wsX6_at := goodIn_r _ [4] rfl (by decide +kernel)
set_option maxRecDepth 20000 in
theorem gX0_kindOf_X6_at_n83 : GoodIn wsX0_kindOf (wsX6_at) := ggX0_kindOf_X6_at
set_option maxRecDepth 20000 in
theorem ggX0_xOf_X6_at : GoodIn wsX0_xOf wsX6_at := goodIn_r _ [4] rfl (by decide +kernel)
set_option maxRecDepth 20000 in
theorem gX0_xOf_X6_at_n83 : GoodIn wsX0_xOf (wsX6_at) := ggX0_xOf_X6_at
set_option maxRecDepth 20000 in
theorem ggX0_yOf_X6_at : GoodIn wsX0_yOf wsX6_at := goodIn_r _ [4] rfl (by decide +kernel)
set_option maxRecDepth 20000 in
theorem gX0_yOf_X6_at_n83 : GoodIn wsX0_yOf (wsX6_at) := ggX0_yOf_X6_at
set_option maxRecDepth 20000 in
theorem ggX0_outputAt_X6_at : GoodIn wsX0_outputAt wsX6_at := goodIn_r _ [4] rfl (by decide +kernel)
set_option maxRecDepth 20000 in
theorem gX0_outputAt_X6_at_n83 : GoodIn wsX0_outputAt (wsX6_at) := ggX0_outputAt_X6_at
set_option maxRecDepth 20000 in
theorem ggX0_mayPut_X0_kindOf : GoodIn wsX0_mayPut wsX0_kindOf := goodIn_r _ [6, 7, 8, 9, 10, 11, 12, 13, 14, 15, 16, 17, 18, 19, 20, 21] rfl (by decide +kernel)
set_option maxRecDepth 20000 in
theorem gX0_mayPut_X0_kindOf : GoodIn wsX0_mayPut (wsV RX0 59 RX0 yX0_kindOf wsX0_kindOf) := goodIn_app (goodIn_r _ [2, 3, 4, 5] rfl (by decide +kernel)) ggX0_mayPut_X0_kindOf
set_option maxRecDepth 20000 in
theorem ggX0_usesOf_X0_xOf : GoodIn wsX0_usesOf wsX0_xOf := goodIn_r _ [7, 8, 9, 10, 11, 22, 23, 24, 25, 26, 27, 28, 29, 30, 31, 32] rfl (by decide +kernel)
set_option maxRecDepth 20000 in
theorem gX0_usesOf_X0_xOf : GoodIn wsX0_usesOf (wsV RX0 63 RX0 yX0_xOf wsX0_xOf) := goodIn_app (goodIn_r _ [3, 4, 5, 6] rfl (by decide +kernel)) ggX0_usesOf_X0_xOf
set_option maxRecDepth 20000 in
theorem ggX0_usesOf_X0_yOf : GoodIn wsX0_usesOf wsX0_yOf := goodIn_r _ [15, 16, 9, 10, 11, 22, 23, 24, 25, 26, 27, 28, 29, 30, 31, 32] rfl (by decide +kernel)
set_option maxRecDepth 20000 in
theorem gX0_usesOf_X0_yOf : GoodIn wsX0_usesOf (wsV RX0 66 RX0 yX0_yOf wsX0_yOf) := goodIn_app (goodIn_r _ [12, 13, 14, 6] rfl (by decide +kernel)) ggX0_usesOf_X0_yOf
set_option maxRecDepth 20000 in
theorem ggX0_usesOf_X0_outputAt : GoodIn wsX0_usesOf wsX0_outputAt := goodIn_r _ [20, 21, 9, 10, 11, 22, 23, 24, 25, 26, 27, 28, 29, 30, 31, 32] rfl (by decide +kernel)
set_option maxRecDepth 20000 in
theorem gX0_usesOf_X0_outputAt : GoodIn wsX0_usesOf (wsV RX0 73 RX0 yX0_outputAt wsX0_outputAt) := goodIn_app (goodIn_r _ [17, 18, 19, 6] rfl (by decide +kernel)) ggX0_usesOf_X0_outputAt
set_option maxRecDepth 20000 in
theorem ggX1_fill_X0_kindOf : GoodIn wsX1_fill wsX0_kindOf := goodIn_r _ [9, 10, 11, 12, 13, 34, 35, 36, 37, 38, 39, 40, 41, 42, 43, 44] rfl (by decide +kernel)
set_option maxRecDepth 20000 in
theorem gX1_fill_X0_kindOf : GoodIn wsX1_fill (wsV RX1 27 RX0 yX0_kindOf wsX0_kindOf) := goodIn_app (goodIn_r _ [5, 6, 7, 8] rfl (by decide +kernel)) ggX1_fill_X0_kindOf
set_option maxRecDepth 20000 in
theorem ggX1_fill_X1_column : GoodIn wsX1_fill wsX1_column := goodIn_r _ [18, 19, 20, 21, 22, 8, 23, 24, 11, 12, 13, 25, 26, 27, 17, 28, 3, 29, 30, 31, 32, 33, 34, 35, 36, 37, 38, 39, 40, 41, 42, 43, 44, 45] rfl (by decide +kernel)
set_option maxRecDepth 20000 in
theorem gX1_fill_X1_column : GoodIn wsX1_fill (wsV RX1 31 RX1 yX1_column wsX1_column) := goodIn_app (goodIn_r _ [14, 15, 16, 17] rfl (by decide +kernel)) ggX1_fill_X1_column
set_option maxRecDepth 20000 in
theorem ggX1_column_X0_xOf : GoodIn wsX1_column wsX0_xOf := goodIn_r _ [6, 7, 8, 9, 10, 22, 23, 24, 25, 26, 27, 28, 29, 30, 31, 32] rfl (by decide +kernel)
set_option maxRecDepth 20000 in
theorem gX1_column_X0_xOf : GoodIn wsX1_column (wsV RX1 35 RX0 yX0_xOf wsX0_xOf) := goodIn_app (goodIn_r _ [2, 3, 4, 5] rfl (by decide +kernel)) ggX1_column_X0_xOf
set_option maxRecDepth 20000 in
theorem ggX1_column_X1_row : GoodIn wsX1_column wsX1_row := goodIn_r _ [15, 16, 33] rfl (by decide +kernel)
set_option maxRecDepth 20000 in
theorem gX1_column_X1_row : GoodIn wsX1_column (wsV RX1 38 RX1 yX1_row wsX1_row) := goodIn_app (goodIn_r _ [11, 12, 13, 14] rfl (by decide +kernel)) ggX1_column_X1_row
set_option maxRecDepth 20000 in
theorem ggX1_column_X0_yOf : GoodIn wsX1_column wsX0_yOf := goodIn_r _ [20, 21, 8, 9, 10, 22, 23, 24, 25, 26, 27, 28, 29, 30, 31, 32] rfl (by decide +kernel)
set_option maxRecDepth 20000 in
theorem gX1_column_X0_yOf : GoodIn wsX1_column (wsV RX1 42 RX0 yX0_yOf wsX0_yOf) := goodIn_app (goodIn_r _ [17, 18, 19, 5] rfl (by decide +kernel)) ggX1_column_X0_yOf
set_option maxRecDepth 20000 in
theorem ggX1_bit_X1_row : GoodIn wsX1_bit wsX1_row := goodIn_r _ [5, 6, 7] rfl (by decide +kernel)
set_option maxRecDepth 20000 in
theorem gX1_bit_X1_row : GoodIn wsX1_bit (wsV RX1 38 RX1 yX1_row wsX1_row) := goodIn_app (goodIn_r _ [1, 2, 3, 4] rfl (by decide +kernel)) ggX1_bit_X1_row
set_option maxRecDepth 20000 in
theorem ggX1_outputsFor_X0_outputAt : GoodIn wsX1_outputsFor wsX0_outputAt := goodIn_r _ [6, 7, 8, 9, 10, 21, 22, 23, 24, 25, 26, 27, 28, 29, 30, 31] rfl (by decide +kernel)
set_option maxRecDepth 20000 in
theorem gX1_outputsFor_X0_outputAt : GoodIn wsX1_outputsFor (wsV RX1 50 RX0 yX0_outputAt wsX0_outputAt) := goodIn_app (goodIn_r _ [2, 3, 4, 5] rfl (by decide +kernel)) ggX1_outputsFor_X0_outputAt
set_option maxRecDepth 20000 in
theorem ggX1_outputsFor_X1_bit : GoodIn wsX1_outputsFor wsX1_bit := goodIn_r _ [15, 16, 17, 18, 14, 19, 20, 32] rfl (by decide +kernel)
set_option maxRecDepth 20000 in
theorem gX1_outputsFor_X1_bit : GoodIn wsX1_outputsFor (wsV RX1 53 RX1 yX1_bit wsX1_bit) := goodIn_app (goodIn_r _ [11, 12, 13, 14] rfl (by decide +kernel)) ggX1_outputsFor_X1_bit
set_option maxRecDepth 20000 in
theorem ggX1_trueSignals_X0_signals : GoodIn wsX1_trueSignals wsX0_signals := goodIn_r _ [5, 6, 7, 18, 19, 20, 21, 22, 23, 24, 25, 26, 27, 28] rfl (by decide +kernel)
set_option maxRecDepth 20000 in
theorem gX1_trueSignals_X0_signals : GoodIn wsX1_trueSignals (wsV RX1 57 RX0 yX0_signals wsX0_signals) := goodIn_app (goodIn_r _ [1, 2, 3, 4] rfl (by decide +kernel)) ggX1_trueSignals_X0_signals
set_option maxRecDepth 20000 in
theorem ggX1_trueSignals_X1_bit : GoodIn wsX1_trueSignals wsX1_bit := goodIn_r _ [12, 13, 14, 15, 11, 16, 17, 29] rfl (by decide +kernel)
set_option maxRecDepth 20000 in
theorem gX1_trueSignals_X1_bit : GoodIn wsX1_trueSignals (wsV RX1 53 RX1 yX1_bit wsX1_bit) := goodIn_app (goodIn_r _ [8, 9, 10, 11] rfl (by decide +kernel)) ggX1_trueSignals_X1_bit
set_option maxRecDepth 20000 in
theorem ggX1_isWrong_X1_outputsFor : GoodIn wsX1_isWrong wsX1_outputsFor := goodIn_r _ [5, 6, 7, 8, 9, 10, 11, 12, 13, 14, 15, 16, 17, 18, 4, 19, 20, 21, 22, 23, 24, 32, 33, 34, 35, 36, 37, 38, 39, 40, 41, 42, 43] rfl (by decide +kernel)
set_option maxRecDepth 20000 in
theorem gX1_isWrong_X1_outputsFor : GoodIn wsX1_isWrong (wsV RX1 61 RX1 yX1_outputsFor wsX1_outputsFor) := goodIn_app (goodIn_r _ [1, 2, 3, 4] rfl (by decide +kernel)) ggX1_isWrong_X1_outputsFor
set_option maxRecDepth 20000 in
theorem ggX1_isWrong_X0_taskFor : GoodIn wsX1_isWrong wsX0_taskFor := goodIn_r _ [28, 29, 30, 31, 32, 33, 34, 35, 36, 37, 38, 39, 40, 41, 42] rfl (by decide +kernel)
set_option maxRecDepth 20000 in
theorem gX1_isWrong_X0_taskFor : GoodIn wsX1_isWrong (wsV RX1 65 RX0 yX0_taskFor wsX0_taskFor) := goodIn_app (goodIn_r _ [25, 26, 27, 10] rfl (by decide +kernel)) ggX1_isWrong_X0_taskFor
set_option maxRecDepth 20000 in
theorem ggX1_firstWrong_X1_isWrong : GoodIn wsX1_firstWrong wsX1_isWrong := goodIn_r _ [6, 7, 8, 9, 5, 10, 11, 12, 13, 14, 15, 16, 17, 18, 19, 20, 21, 22, 23, 24, 25, 26, 27, 28, 29, 30, 31, 32, 33, 34, 35, 36, 37, 38, 39, 40, 41, 42, 43, 44, 45, 46, 47, 48] rfl (by decide +kernel)
set_option maxRecDepth 20000 in
theorem gX1_firstWrong_X1_isWrong : GoodIn wsX1_firstWrong (wsV RX1 68 RX1 yX1_isWrong wsX1_isWrong) := goodIn_app (goodIn_r _ [2, 3, 4, 5] rfl (by decide +kernel)) ggX1_firstWrong_X1_isWrong
set_option maxRecDepth 20000 in
theorem ggX1_countWrong_X1_isWrong : GoodIn wsX1_countWrong wsX1_isWrong := goodIn_r _ [6, 7, 8, 9, 5, 10, 11, 12, 13, 14, 15, 16, 17, 18, 19, 20, 21, 22, 23, 24, 25, 26, 27, 28, 29, 30, 31, 32, 33, 34, 35, 36, 37, 38, 39, 40, 41, 42, 43, 44, 45, 46, 47, 48] rfl (by decide +kernel)
set_option maxRecDepth 20000 in
theorem gX1_countWrong_X1_isWrong : GoodIn wsX1_countWrong (wsV RX1 68 RX1 yX1_isWrong wsX1_isWrong) := goodIn_app (goodIn_r _ [2, 3, 4, 5] rfl (by decide +kernel)) ggX1_countWrong_X1_isWrong
set_option maxRecDepth 20000 in
theorem ggX2_add_X2_placeOf : GoodIn wsX2_add wsX2_placeOf := goodIn_r _ [8, 1, 2, 9, 10, 11, 26, 27, 28] rfl (by decide +kernel)
set_option maxRecDepth 20000 in
theorem gX2_add_X2_placeOf : GoodIn wsX2_add (wsV RX2 18 RX2 yX2_placeOf wsX2_placeOf) := goodIn_app (goodIn_r _ [4, 5, 6, 7] rfl (by decide +kernel)) ggX2_add_X2_placeOf
set_option maxRecDepth 20000 in
theorem ggX2_add_X6_at : GoodIn wsX2_add wsX6_at := goodIn_r _ [11] rfl (by decide +kernel)
set_option maxRecDepth 20000 in
theorem gX2_add_X6_at_n26 : GoodIn wsX2_add (wsX6_at) := ggX2_add_X6_at
set_option maxRecDepth 20000 in
theorem ggX2_add_X2_insert : GoodIn wsX2_add wsX2_insert := goodIn_r _ [15, 1, 2, 16, 17, 18, 19, 3, 20, 10, 21, 26, 27, 28] rfl (by decide +kernel)
set_option maxRecDepth 20000 in
theorem gX2_add_X2_insert : GoodIn wsX2_add (wsV RX2 30 RX2 yX2_insert wsX2_insert) := goodIn_app (goodIn_r _ [12, 13, 14, 7] rfl (by decide +kernel)) ggX2_add_X2_insert
set_option maxRecDepth 20000 in
theorem ggX2_add_X2_remove : GoodIn wsX2_add wsX2_remove := goodIn_r _ [25, 1, 2, 16, 17, 18, 19, 3, 26, 27, 28] rfl (by decide +kernel)
set_option maxRecDepth 20000 in
theorem gX2_add_X2_remove : GoodIn wsX2_add (wsV RX2 34 RX2 yX2_remove wsX2_remove) := goodIn_app (goodIn_r _ [22, 23, 24, 7] rfl (by decide +kernel)) ggX2_add_X2_remove
set_option maxRecDepth 20000 in
theorem ggX2_add_X6_put : GoodIn wsX2_add wsX6_put := goodIn_r _ [21] rfl (by decide +kernel)
set_option maxRecDepth 20000 in
theorem gX2_add_X6_put_n38 : GoodIn wsX2_add (wsX6_put) := ggX2_add_X6_put
set_option maxRecDepth 20000 in
theorem ggX2_placeOf_X6_at : GoodIn wsX2_placeOf wsX6_at := goodIn_r _ [5] rfl (by decide +kernel)
set_option maxRecDepth 20000 in
theorem gX2_placeOf_X6_at_n26 : GoodIn wsX2_placeOf (wsX6_at) := ggX2_placeOf_X6_at
set_option maxRecDepth 20000 in
theorem ggX2_insert_X6_put : GoodIn wsX2_insert wsX6_put := goodIn_r _ [10] rfl (by decide +kernel)
set_option maxRecDepth 20000 in
theorem gX2_insert_X6_put_n38 : GoodIn wsX2_insert (wsX6_put) := ggX2_insert_X6_put
set_option maxRecDepth 20000 in
theorem ggX3_init_X5_init : GoodIn wsX3_init wsX5_init := goodIn_r _ [9, 10, 2, 3, 11, 12, 13, 14] rfl (by decide +kernel)
set_option maxRecDepth 20000 in
theorem gX3_init_X5_init_n11 : GoodIn wsX3_init (wsX5_init) := ggX3_init_X5_init
set_option maxRecDepth 20000 in
theorem ggX3_faultOf_X3_advance : GoodIn wsX3_faultOf wsX3_advance := goodIn_r _ [8, 1, 3, 9, 10, 2, 11, 12, 13, 14, 15, 16, 17, 18, 19, 7, 20, 157, 158, 159, 160, 161, 162] rfl (by decide +kernel)
set_option maxRecDepth 20000 in
theorem gX3_faultOf_X3_advance : GoodIn wsX3_faultOf (wsV RX3 22 RX3 yX3_advance wsX3_advance) := goodIn_app (goodIn_r _ [4, 5, 6, 7] rfl (by decide +kernel)) ggX3_faultOf_X3_advance
set_option maxRecDepth 20000 in
theorem ggX3_faultOf_X3_readInputs : GoodIn wsX3_faultOf wsX3_readInputs := goodIn_r _ [24, 25, 26, 27, 7, 28, 29, 30, 31, 32, 2, 1, 3, 9, 33, 34, 35, 36, 37, 38, 39, 40, 41, 42, 43, 44, 11, 12, 13, 14, 15, 16, 17, 45, 46, 47, 48, 49, 50, 51, 52, 53, 54, 55, 56, 57, 58, 59, 60, 61, 62, 63, 64, 65, 66, 67, 68, 69, 70, 71, 72, 73, 74, 75, 76, 77, 78, 79, 80, 81, 4, 5, 6, 8, 10, 18, 19, 20, 82, 83, 84, 85, 86, 87, 88, 89, 90, 91, 92, 93, 94, 95, 96, 97, 98, 157, 158, 159, 160, 161, 162, 163, 164, 165, 166, 167, 168, 169, 170, 171, 172, 173] rfl (by decide +kernel)
set_option maxRecDepth 20000 in
theorem gX3_faultOf_X3_readInputs : GoodIn wsX3_faultOf (wsV RX3 25 RX3 yX3_readInputs wsX3_readInputs) := goodIn_app (goodIn_r _ [21, 22, 23, 7] rfl (by decide +kernel)) ggX3_faultOf_X3_readInputs
set_option maxRecDepth 20000 in
theorem ggX3_faultOf_X3_readGates : GoodIn wsX3_faultOf wsX3_readGates := goodIn_r _ [102, 25, 26, 27, 7, 28, 29, 30, 31, 32, 2, 1, 3, 9, 33, 34, 35, 36, 37, 38, 39, 40, 41, 42, 43, 44, 11, 12, 13, 14, 15, 16, 17, 45, 46, 47, 48, 49, 50, 51, 52, 53, 54, 55, 56, 57, 58, 59, 60, 61, 62, 63, 64, 65, 66, 67, 68, 69, 70, 71, 72, 73, 74, 75, 76, 77, 78, 79, 80, 81, 4, 5, 6, 8, 10, 18, 19, 20, 103, 104, 105, 106, 107, 108, 109, 110, 111, 112, 113, 114, 115, 116, 89, 117, 92, 93, 82, 83, 84, 85, 118, 119, 120, 121, 122, 123, 124, 125, 126, 127, 128, 95, 96, 97, 98, 157, 158, 159, 160, 161, 162, 163, 164, 165, 166, 167, 168, 169, 170, 171, 172, 173] rfl (by decide +kernel)
set_option maxRecDepth 20000 in
theorem gX3_faultOf_X3_readGates : GoodIn wsX3_faultOf (wsV RX3 29 RX3 yX3_readGates wsX3_readGates) := goodIn_app (goodIn_r _ [99, 100, 101, 7] rfl (by decide +kernel)) ggX3_faultOf_X3_readGates
set_option maxRecDepth 20000 in
theorem ggX3_faultOf_X3_readOutputs : GoodIn wsX3_faultOf wsX3_readOutputs := goodIn_r _ [132, 2, 25, 26, 27, 7, 28, 29, 30, 31, 32, 1, 3, 9, 33, 34, 35, 36, 37, 38, 39, 40, 41, 42, 43, 44, 11, 12, 13, 14, 15, 16, 17, 45, 46, 47, 48, 49, 50, 51, 52, 53, 54, 55, 56, 57, 58, 59, 60, 61, 62, 63, 64, 65, 66, 67, 68, 69, 70, 71, 72, 73, 74, 75, 76, 77, 78, 79, 80, 81, 4, 5, 6, 8, 10, 18, 19, 20, 114, 115, 116, 89, 117, 92, 93, 82, 83, 84, 85, 133, 134, 135, 136, 94, 137, 125, 126, 127, 95, 96, 97, 98, 157, 158, 159, 160, 161, 162, 163, 164, 165, 166, 167, 168, 169, 170, 171, 172, 173] rfl (by decide +kernel)
set_option maxRecDepth 20000 in
theorem gX3_faultOf_X3_readOutputs : GoodIn wsX3_faultOf (wsV RX3 32 RX3 yX3_readOutputs wsX3_readOutputs) := goodIn_app (goodIn_r _ [129, 130, 131, 7] rfl (by decide +kernel)) ggX3_faultOf_X3_readOutputs
set_option maxRecDepth 20000 in
theorem ggX3_faultOf_X3_readTask : GoodIn wsX3_faultOf wsX3_readTask := goodIn_r _ [141, 142, 25, 26, 27, 7, 28, 29, 30, 31, 32, 2, 1, 3, 9, 33, 34, 35, 36, 37, 38, 39, 40, 41, 42, 43, 44, 11, 12, 13, 14, 15, 16, 17, 45, 46, 47, 48, 49, 50, 51, 52, 53, 54, 55, 56, 57, 58, 59, 60, 61, 62, 63, 64, 65, 66, 67, 68, 69, 70, 71, 72, 73, 74, 75, 76, 77, 78, 79, 80, 81, 4, 5, 6, 8, 10, 18, 19, 20, 143, 144, 145, 146, 147, 148, 149, 82, 83, 84, 85, 150, 151, 152, 89, 153, 154, 155, 156, 91, 95, 96, 97, 98, 163, 164, 165, 166, 167, 168, 169, 170, 171, 172, 173, 157, 158, 159, 160, 161, 162] rfl (by decide +kernel)
set_option maxRecDepth 20000 in
theorem gX3_faultOf_X3_readTask : GoodIn wsX3_faultOf (wsV RX3 35 RX3 yX3_readTask wsX3_readTask) := goodIn_app (goodIn_r _ [138, 139, 140, 7] rfl (by decide +kernel)) ggX3_faultOf_X3_readTask
set_option maxRecDepth 20000 in
theorem ggX3_readInputs_X3_takeWord : GoodIn wsX3_readInputs wsX3_takeWord := goodIn_r _ [5, 6, 7, 8, 4, 9, 10, 11, 12, 13, 14, 15, 16, 17, 18, 19, 20, 21, 22, 23, 24, 25, 26, 27, 28, 29, 30, 31, 32, 33, 34, 35, 36, 37, 38, 39, 40, 41, 42, 43, 44, 45, 46, 47, 48, 49, 50, 51, 52, 53, 54, 55, 56, 57, 58, 59, 60, 61, 62, 63, 64, 65, 66, 67, 68, 69, 70, 71, 72, 73, 74, 75, 76, 77, 95, 96, 97, 98, 99, 100] rfl (by decide +kernel)
set_option maxRecDepth 20000 in
theorem gX3_readInputs_X3_takeWord : GoodIn wsX3_readInputs (wsV RX3 46 RX3 yX3_takeWord wsX3_takeWord) := goodIn_app (goodIn_r _ [1, 2, 3, 4] rfl (by decide +kernel)) ggX3_readInputs_X3_takeWord
set_option maxRecDepth 20000 in
theorem ggX3_readInputs_X3_takeNumber : GoodIn wsX3_readInputs wsX3_takeNumber := goodIn_r _ [81, 10, 11, 12, 13, 26, 27, 28, 29, 30, 31, 32, 70, 71, 72, 4, 73, 74, 75, 76, 77, 95, 96, 97, 98, 99, 100] rfl (by decide +kernel)
set_option maxRecDepth 20000 in
theorem gX3_readInputs_X3_takeNumber : GoodIn wsX3_readInputs (wsV RX3 50 RX3 yX3_takeNumber wsX3_takeNumber) := goodIn_app (goodIn_r _ [78, 79, 80, 4] rfl (by decide +kernel)) ggX3_readInputs_X3_takeNumber
set_option maxRecDepth 20000 in
theorem ggX3_readInputs_X0_begin : GoodIn wsX3_readInputs wsX0_begin := goodIn_r _ [86, 87, 88, 89, 90, 101, 102, 103, 104, 105, 106, 107, 108, 109, 110, 111] rfl (by decide +kernel)
set_option maxRecDepth 20000 in
theorem gX3_readInputs_X0_begin : GoodIn wsX3_readInputs (wsV RX3 54 RX0 yX0_begin wsX0_begin) := goodIn_app (goodIn_r _ [82, 83, 84, 85] rfl (by decide +kernel)) ggX3_readInputs_X0_begin
set_option maxRecDepth 20000 in
theorem ggX3_readInputs_X3_takeSemicolon : GoodIn wsX3_readInputs wsX3_takeSemicolon := goodIn_r _ [94, 10, 13, 12, 26, 27, 28, 29, 30, 31, 32, 70, 71, 72, 4, 73, 11, 74, 75, 76, 77, 95, 96, 97, 98, 99, 100] rfl (by decide +kernel)
set_option maxRecDepth 20000 in
theorem gX3_readInputs_X3_takeSemicolon : GoodIn wsX3_readInputs (wsV RX3 60 RX3 yX3_takeSemicolon wsX3_takeSemicolon) := goodIn_app (goodIn_r _ [91, 92, 93, 4] rfl (by decide +kernel)) ggX3_readInputs_X3_takeSemicolon
set_option maxRecDepth 20000 in
theorem ggX3_readGates_X3_takeWord : GoodIn wsX3_readGates wsX3_takeWord := goodIn_r _ [5, 6, 7, 8, 4, 9, 10, 11, 12, 13, 14, 15, 16, 17, 18, 19, 20, 21, 22, 23, 24, 25, 26, 27, 28, 29, 30, 31, 32, 33, 34, 35, 36, 37, 38, 39, 40, 41, 42, 43, 44, 45, 46, 47, 48, 49, 50, 51, 52, 53, 54, 55, 56, 57, 58, 59, 60, 61, 62, 63, 64, 65, 66, 67, 68, 69, 70, 71, 72, 73, 74, 75, 76, 77, 115, 116, 117, 118, 119, 120] rfl (by decide +kernel)
set_option maxRecDepth 20000 in
theorem gX3_readGates_X3_takeWord : GoodIn wsX3_readGates (wsV RX3 46 RX3 yX3_takeWord wsX3_takeWord) := goodIn_app (goodIn_r _ [1, 2, 3, 4] rfl (by decide +kernel)) ggX3_readGates_X3_takeWord
set_option maxRecDepth 20000 in
theorem ggX3_readGates_X3_readGate : GoodIn wsX3_readGates wsX3_readGate := goodIn_r _ [81, 82, 83, 84, 4, 85, 86, 87, 88, 6, 7, 8, 9, 10, 11, 12, 13, 14, 15, 16, 17, 18, 19, 20, 21, 22, 23, 24, 25, 26, 27, 28, 29, 30, 31, 32, 33, 34, 35, 36, 37, 38, 39, 40, 41, 42, 43, 44, 45, 46, 47, 48, 49, 50, 51, 52, 53, 54, 55, 56, 57, 58, 59, 60, 61, 62, 63, 64, 65, 66, 67, 68, 69, 70, 71, 72, 73, 74, 75, 76, 77, 89, 90, 91, 92, 93, 94, 95, 96, 97, 98, 99, 100, 101, 102, 103, 104, 105, 106, 107, 108, 109, 110, 111, 112, 113, 114, 115, 116, 117, 118, 119, 120, 121, 122, 123, 124, 125, 126, 127, 128, 129, 130, 131] rfl (by decide +kernel)
set_option maxRecDepth 20000 in
theorem gX3_readGates_X3_readGate : GoodIn wsX3_readGates (wsV RX3 66 RX3 yX3_readGate wsX3_readGate) := goodIn_app (goodIn_r _ [78, 79, 80, 4] rfl (by decide +kernel)) ggX3_readGates_X3_readGate
set_option maxRecDepth 20000 in
theorem ggX3_readGate_X3_gateKind : GoodIn wsX3_readGate wsX3_gateKind := goodIn_r _ [5, 6, 7, 4, 8, 9, 10, 11, 12, 13, 14, 15, 16, 17, 18, 19, 20, 21, 22, 23, 24, 25, 26, 27, 28, 29, 30, 31, 32, 33, 34, 35, 36, 37, 38, 39, 40, 41, 42, 43, 44, 45, 46, 47, 48, 49, 50, 51, 52, 53, 54, 55, 56, 57, 58, 59, 60, 61, 62, 63, 64, 65, 66, 67, 68, 69, 70, 71, 72, 107, 108, 109, 110, 111, 112] rfl (by decide +kernel)
set_option maxRecDepth 20000 in
theorem gX3_readGate_X3_gateKind : GoodIn wsX3_readGate (wsV RX3 69 RX3 yX3_gateKind wsX3_gateKind) := goodIn_app (goodIn_r _ [1, 2, 3, 4] rfl (by decide +kernel)) ggX3_readGate_X3_gateKind
set_option maxRecDepth 20000 in
theorem ggX3_readGate_X3_advance : GoodIn wsX3_readGate wsX3_advance := goodIn_r _ [76, 14, 15, 16, 77, 13, 29, 30, 31, 32, 33, 34, 35, 78, 79, 4, 80, 107, 108, 109, 110, 111, 112] rfl (by decide +kernel)
set_option maxRecDepth 20000 in
theorem gX3_readGate_X3_advance : GoodIn wsX3_readGate (wsV RX3 22 RX3 yX3_advance wsX3_advance) := goodIn_app (goodIn_r _ [73, 74, 75, 4] rfl (by decide +kernel)) ggX3_readGate_X3_advance
set_option maxRecDepth 20000 in
theorem ggX3_readGate_X0_signals : GoodIn wsX3_readGate wsX0_signals := goodIn_r _ [85, 86, 87, 113, 114, 115, 116, 117, 118, 119, 120, 121, 122, 123] rfl (by decide +kernel)
set_option maxRecDepth 20000 in
theorem gX3_readGate_X0_signals : GoodIn wsX3_readGate (wsV RX3 73 RX0 yX0_signals wsX0_signals) := goodIn_app (goodIn_r _ [81, 82, 83, 84] rfl (by decide +kernel)) ggX3_readGate_X0_signals
set_option maxRecDepth 20000 in
theorem ggX3_readGate_X3_takeNumber : GoodIn wsX3_readGate wsX3_takeNumber := goodIn_r _ [91, 13, 14, 15, 16, 29, 30, 31, 32, 33, 34, 35, 73, 74, 75, 4, 76, 77, 78, 79, 80, 107, 108, 109, 110, 111, 112] rfl (by decide +kernel)
set_option maxRecDepth 20000 in
theorem gX3_readGate_X3_takeNumber : GoodIn wsX3_readGate (wsV RX3 50 RX3 yX3_takeNumber wsX3_takeNumber) := goodIn_app (goodIn_r _ [88, 89, 90, 4] rfl (by decide +kernel)) ggX3_readGate_X3_takeNumber
set_option maxRecDepth 20000 in
theorem ggX3_readGate_X0_addGate : GoodIn wsX3_readGate wsX0_addGate := goodIn_r _ [95, 87, 96, 97, 98, 99, 100, 101, 102, 82, 83, 84, 85, 86, 113, 114, 115, 116, 117, 118, 119, 120, 121, 122, 123] rfl (by decide +kernel)
set_option maxRecDepth 20000 in
theorem gX3_readGate_X0_addGate : GoodIn wsX3_readGate (wsV RX3 76 RX0 yX0_addGate wsX0_addGate) := goodIn_app (goodIn_r _ [92, 93, 94, 84] rfl (by decide +kernel)) ggX3_readGate_X0_addGate
set_option maxRecDepth 20000 in
theorem ggX3_readGate_X3_takeSemicolon : GoodIn wsX3_readGate wsX3_takeSemicolon := goodIn_r _ [106, 13, 16, 15, 29, 30, 31, 32, 33, 34, 35, 73, 74, 75, 4, 76, 14, 77, 78, 79, 80, 107, 108, 109, 110, 111, 112] rfl (by decide +kernel)
set_option maxRecDepth 20000 in
theorem gX3_readGate_X3_takeSemicolon : GoodIn wsX3_readGate (wsV RX3 60 RX3 yX3_takeSemicolon wsX3_takeSemicolon) := goodIn_app (goodIn_r _ [103, 104, 105, 4] rfl (by decide +kernel)) ggX3_readGate_X3_takeSemicolon
set_option maxRecDepth 20000 in
theorem ggX3_readOutputs_X3_takeWord : GoodIn wsX3_readOutputs wsX3_takeWord := goodIn_r _ [6, 7, 8, 9, 5, 10, 1, 11, 12, 13, 14, 15, 16, 17, 18, 19, 20, 21, 22, 23, 24, 25, 26, 27, 28, 29, 30, 31, 32, 33, 34, 35, 36, 37, 38, 39, 40, 41, 42, 43, 44, 45, 46, 47, 48, 49, 50, 51, 52, 53, 54, 55, 56, 57, 58, 59, 60, 61, 62, 63, 64, 65, 66, 67, 68, 69, 70, 71, 72, 73, 74, 75, 76, 77, 102, 103, 104, 105, 106, 107] rfl (by decide +kernel)
set_option maxRecDepth 20000 in
theorem gX3_readOutputs_X3_takeWord : GoodIn wsX3_readOutputs (wsV RX3 46 RX3 yX3_takeWord wsX3_takeWord) := goodIn_app (goodIn_r _ [2, 3, 4, 5] rfl (by decide +kernel)) ggX3_readOutputs_X3_takeWord
set_option maxRecDepth 20000 in
theorem ggX3_readOutputs_X0_signals : GoodIn wsX3_readOutputs wsX0_signals := goodIn_r _ [82, 83, 84, 108, 109, 110, 111, 112, 113, 114, 115, 116, 117, 118] rfl (by decide +kernel)
set_option maxRecDepth 20000 in
theorem gX3_readOutputs_X0_signals : GoodIn wsX3_readOutputs (wsV RX3 73 RX0 yX0_signals wsX0_signals) := goodIn_app (goodIn_r _ [78, 79, 80, 81] rfl (by decide +kernel)) ggX3_readOutputs_X0_signals
set_option maxRecDepth 20000 in
theorem ggX3_readOutputs_X3_takeNumber : GoodIn wsX3_readOutputs wsX3_takeNumber := goodIn_r _ [88, 1, 11, 12, 13, 26, 27, 28, 29, 30, 31, 32, 70, 71, 72, 5, 73, 74, 75, 76, 77, 102, 103, 104, 105, 106, 107] rfl (by decide +kernel)
set_option maxRecDepth 20000 in
theorem gX3_readOutputs_X3_takeNumber : GoodIn wsX3_readOutputs (wsV RX3 50 RX3 yX3_takeNumber wsX3_takeNumber) := goodIn_app (goodIn_r _ [85, 86, 87, 5] rfl (by decide +kernel)) ggX3_readOutputs_X3_takeNumber
set_option maxRecDepth 20000 in
theorem ggX3_readOutputs_X0_addOutput : GoodIn wsX3_readOutputs wsX0_addOutput := goodIn_r _ [92, 93, 94, 95, 96, 97, 108, 109, 110, 111, 112, 113, 114, 115, 116, 117, 118] rfl (by decide +kernel)
set_option maxRecDepth 20000 in
theorem gX3_readOutputs_X0_addOutput : GoodIn wsX3_readOutputs (wsV RX3 82 RX0 yX0_addOutput wsX0_addOutput) := goodIn_app (goodIn_r _ [89, 90, 91, 81] rfl (by decide +kernel)) ggX3_readOutputs_X0_addOutput
set_option maxRecDepth 20000 in
theorem ggX3_readOutputs_X3_takeSemicolon : GoodIn wsX3_readOutputs wsX3_takeSemicolon := goodIn_r _ [101, 1, 13, 12, 26, 27, 28, 29, 30, 31, 32, 70, 71, 72, 5, 73, 11, 74, 75, 76, 77, 102, 103, 104, 105, 106, 107] rfl (by decide +kernel)
set_option maxRecDepth 20000 in
theorem gX3_readOutputs_X3_takeSemicolon : GoodIn wsX3_readOutputs (wsV RX3 60 RX3 yX3_takeSemicolon wsX3_takeSemicolon) := goodIn_app (goodIn_r _ [98, 99, 100, 5] rfl (by decide +kernel)) ggX3_readOutputs_X3_takeSemicolon
set_option maxRecDepth 20000 in
theorem ggX3_readTask_X3_takeWord : GoodIn wsX3_readTask wsX3_takeWord := goodIn_r _ [6, 7, 8, 9, 5, 10, 11, 12, 13, 14, 15, 16, 17, 18, 19, 20, 21, 22, 23, 24, 25, 26, 27, 28, 29, 30, 31, 32, 33, 34, 35, 36, 37, 38, 39, 40, 41, 42, 43, 44, 45, 46, 47, 48, 49, 50, 51, 52, 53, 54, 55, 56, 57, 58, 59, 60, 61, 62, 63, 64, 65, 66, 67, 68, 69, 70, 71, 72, 73, 74, 75, 76, 77, 78, 114, 115, 116, 117, 118, 119] rfl (by decide +kernel)
set_option maxRecDepth 20000 in
theorem gX3_readTask_X3_takeWord : GoodIn wsX3_readTask (wsV RX3 46 RX3 yX3_takeWord wsX3_takeWord) := goodIn_app (goodIn_r _ [2, 3, 4, 5] rfl (by decide +kernel)) ggX3_readTask_X3_takeWord
set_option maxRecDepth 20000 in
theorem ggX3_readTask_X3_taskKind : GoodIn wsX3_readTask wsX3_taskKind := goodIn_r _ [82, 83, 84, 5, 85, 7, 8, 9, 10, 11, 12, 13, 14, 15, 16, 17, 18, 19, 20, 21, 22, 23, 24, 25, 26, 27, 28, 29, 30, 31, 32, 33, 34, 35, 36, 37, 38, 39, 40, 41, 42, 43, 44, 45, 46, 47, 48, 49, 50, 51, 52, 53, 54, 55, 56, 57, 58, 59, 60, 61, 62, 63, 64, 65, 66, 67, 68, 69, 70, 114, 115, 116, 117, 118, 119] rfl (by decide +kernel)
set_option maxRecDepth 20000 in
theorem gX3_readTask_X3_taskKind : GoodIn wsX3_readTask (wsV RX3 87 RX3 yX3_taskKind wsX3_taskKind) := goodIn_app (goodIn_r _ [79, 80, 81, 5] rfl (by decide +kernel)) ggX3_readTask_X3_taskKind
set_option maxRecDepth 20000 in
theorem ggX3_readTask_X3_advance : GoodIn wsX3_readTask wsX3_advance := goodIn_r _ [74, 12, 13, 14, 75, 11, 27, 28, 29, 30, 31, 32, 33, 76, 77, 5, 78, 114, 115, 116, 117, 118, 119] rfl (by decide +kernel)
set_option maxRecDepth 20000 in
theorem gX3_readTask_X3_advance : GoodIn wsX3_readTask (wsV RX3 22 RX3 yX3_advance wsX3_advance) := goodIn_app (goodIn_r _ [71, 72, 73, 5] rfl (by decide +kernel)) ggX3_readTask_X3_advance
set_option maxRecDepth 20000 in
theorem ggX3_readTask_X3_takeNumber : GoodIn wsX3_readTask wsX3_takeNumber := goodIn_r _ [89, 11, 12, 13, 14, 27, 28, 29, 30, 31, 32, 33, 71, 72, 73, 5, 74, 75, 76, 77, 78, 114, 115, 116, 117, 118, 119] rfl (by decide +kernel)
set_option maxRecDepth 20000 in
theorem gX3_readTask_X3_takeNumber : GoodIn wsX3_readTask (wsV RX3 50 RX3 yX3_takeNumber wsX3_takeNumber) := goodIn_app (goodIn_r _ [86, 87, 88, 5] rfl (by decide +kernel)) ggX3_readTask_X3_takeNumber
set_option maxRecDepth 20000 in
theorem ggX3_readTask_X0_end : GoodIn wsX3_readTask wsX0_end := goodIn_r _ [94, 95, 96, 97, 98, 103, 104, 105, 106, 107, 108, 109, 110, 111, 112, 113] rfl (by decide +kernel)
set_option maxRecDepth 20000 in
theorem gX3_readTask_X0_end : GoodIn wsX3_readTask (wsV RX3 93 RX0 yX0_end wsX0_end) := goodIn_app (goodIn_r _ [90, 91, 92, 93] rfl (by decide +kernel)) ggX3_readTask_X0_end
set_option maxRecDepth 20000 in
theorem ggX3_readTask_X3_takeSemicolon : GoodIn wsX3_readTask wsX3_takeSemicolon := goodIn_r _ [102, 11, 14, 13, 27, 28, 29, 30, 31, 32, 33, 71, 72, 73, 5, 74, 12, 75, 76, 77, 78, 114, 115, 116, 117, 118, 119] rfl (by decide +kernel)
set_option maxRecDepth 20000 in
theorem gX3_readTask_X3_takeSemicolon : GoodIn wsX3_readTask (wsV RX3 60 RX3 yX3_takeSemicolon wsX3_takeSemicolon) := goodIn_app (goodIn_r _ [99, 100, 101, 5] rfl (by decide +kernel)) ggX3_readTask_X3_takeSemicolon
set_option maxRecDepth 20000 in
theorem ggX3_gateKind_X3_gateWord : GoodIn wsX3_gateKind wsX3_gateWord := goodIn_r _ [4] rfl (by decide +kernel)
set_option maxRecDepth 20000 in
theorem gX3_gateKind_X3_gateWord : GoodIn wsX3_gateKind (va_wsS RX3 97 yX3_gateWord wsX3_gateWord) := goodIn_app (goodIn_of _ (by decide +kernel)) ggX3_gateKind_X3_gateWord
set_option maxRecDepth 20000 in
theorem ggX3_gateKind_X3_isWord : GoodIn wsX3_gateKind wsX3_isWord := goodIn_r _ [8, 9, 10, 11, 12, 13, 14, 15, 16, 17, 18, 19, 20, 21, 22, 23, 24, 25, 26, 27, 28, 29, 30, 31, 32, 33, 34, 35, 36, 37, 38, 39, 40, 41, 42, 43, 44, 45, 46, 47, 48, 49, 50, 51, 52, 53, 54, 55, 56, 57, 58, 59, 60, 61, 62, 63, 64, 65, 66, 67, 68, 69, 70, 71, 72, 73, 74] rfl (by decide +kernel)
set_option maxRecDepth 20000 in
theorem gX3_gateKind_X3_isWord : GoodIn wsX3_gateKind (wsV RX3 101 RX3 yX3_isWord wsX3_isWord) := goodIn_app (goodIn_r _ [5, 6, 7, 3] rfl (by decide +kernel)) ggX3_gateKind_X3_isWord
set_option maxRecDepth 20000 in
theorem ggX3_taskKind_X3_taskWord : GoodIn wsX3_taskKind wsX3_taskWord := goodIn_r _ [4] rfl (by decide +kernel)
set_option maxRecDepth 20000 in
theorem gX3_taskKind_X3_taskWord : GoodIn wsX3_taskKind (va_wsS RX3 104 yX3_taskWord wsX3_taskWord) := goodIn_app (goodIn_of _ (by decide +kernel)) ggX3_taskKind_X3_taskWord
set_option maxRecDepth 20000 in
theorem ggX3_taskKind_X3_isWord : GoodIn wsX3_taskKind wsX3_isWord := goodIn_r _ [8, 9, 10, 11, 12, 13, 14, 15, 16, 17, 18, 19, 20, 21, 22, 23, 24, 25, 26, 27, 28, 29, 30, 31, 32, 33, 34, 35, 36, 37, 38, 39, 40, 41, 42, 43, 44, 45, 46, 47, 48, 49, 50, 51, 52, 53, 54, 55, 56, 57, 58, 59, 60, 61, 62, 63, 64, 65, 66, 67, 68, 69, 70, 71, 72, 73, 74] rfl (by decide +kernel)
set_option maxRecDepth 20000 in
theorem gX3_taskKind_X3_isWord : GoodIn wsX3_taskKind (wsV RX3 101 RX3 yX3_isWord wsX3_isWord) := goodIn_app (goodIn_r _ [5, 6, 7, 3] rfl (by decide +kernel)) ggX3_taskKind_X3_isWord
set_option maxRecDepth 20000 in
theorem ggX3_isWord_J0_length_8abf5 : GoodIn wsX3_isWord wsJ0_length_8abf5 := goodIn_r _ [9, 10, 11, 12, 13, 8, 14, 15, 16] rfl (by decide +kernel)
set_option maxRecDepth 20000 in
theorem gX3_isWord_J0_length_8abf5 : GoodIn wsX3_isWord (wsV RX3 131 RJ0 yJ0_length_8abf5 wsJ0_length_8abf5) := goodIn_app (goodIn_r _ [5, 6, 7, 8] rfl (by decide +kernel)) ggX3_isWord_J0_length_8abf5
set_option maxRecDepth 20000 in
theorem ggX3_isWord_X5_byteAt : GoodIn wsX3_isWord wsX5_byteAt := goodIn_r _ [21, 22, 23, 65, 66] rfl (by decide +kernel)
set_option maxRecDepth 20000 in
theorem gX3_isWord_X5_byteAt : GoodIn wsX3_isWord (wsV RX3 136 RX5 yX5_byteAt wsX5_byteAt) := goodIn_app (goodIn_r _ [17, 18, 19, 20] rfl (by decide +kernel)) ggX3_isWord_X5_byteAt
set_option maxRecDepth 20000 in
theorem ggX3_isWord_J0_charAt_5068e : GoodIn wsX3_isWord wsJ0_charAt_5068e := goodIn_r _ [27, 10, 28, 29, 30, 8, 31, 15, 16, 32, 33, 34, 35, 36, 37, 38, 39, 40, 41, 42, 43, 44, 45, 46, 47, 48, 49, 50, 51, 52, 53, 54, 55, 56, 57, 58, 59, 60] rfl (by decide +kernel)
set_option maxRecDepth 20000 in
theorem gX3_isWord_J0_charAt_5068e : GoodIn wsX3_isWord (wsV RX3 140 RJ0 yJ0_charAt_5068e wsJ0_charAt_5068e) := goodIn_app (goodIn_r _ [24, 25, 26, 8] rfl (by decide +kernel)) ggX3_isWord_J0_charAt_5068e
set_option maxRecDepth 20000 in
theorem ggX3_takeWord_X3_isWord : GoodIn wsX3_takeWord wsX3_isWord := goodIn_r _ [5, 6, 7, 8, 9, 10, 11, 12, 13, 14, 15, 16, 17, 18, 19, 20, 21, 22, 23, 24, 25, 26, 27, 28, 29, 30, 31, 32, 33, 34, 35, 36, 37, 38, 39, 40, 41, 42, 43, 44, 45, 46, 47, 48, 49, 50, 51, 52, 53, 54, 55, 56, 57, 58, 59, 60, 61, 62, 63, 64, 65, 74, 75, 76, 77, 78, 79] rfl (by decide +kernel)
set_option maxRecDepth 20000 in
theorem gX3_takeWord_X3_isWord : GoodIn wsX3_takeWord (wsV RX3 101 RX3 yX3_isWord wsX3_isWord) := goodIn_app (goodIn_r _ [1, 2, 3, 4] rfl (by decide +kernel)) ggX3_takeWord_X3_isWord
set_option maxRecDepth 20000 in
theorem ggX3_takeWord_X3_advance : GoodIn wsX3_takeWord wsX3_advance := goodIn_r _ [69, 7, 8, 9, 70, 6, 22, 23, 24, 25, 26, 27, 28, 71, 72, 4, 73, 74, 75, 76, 77, 78, 79] rfl (by decide +kernel)
set_option maxRecDepth 20000 in
theorem gX3_takeWord_X3_advance : GoodIn wsX3_takeWord (wsV RX3 22 RX3 yX3_advance wsX3_advance) := goodIn_app (goodIn_r _ [66, 67, 68, 4] rfl (by decide +kernel)) ggX3_takeWord_X3_advance
set_option maxRecDepth 20000 in
theorem ggX3_takeNumber_X5_byteAt : GoodIn wsX3_takeNumber wsX5_byteAt := goodIn_r _ [9, 10, 11, 25, 26] rfl (by decide +kernel)
set_option maxRecDepth 20000 in
theorem gX3_takeNumber_X5_byteAt : GoodIn wsX3_takeNumber (wsV RX3 136 RX5 yX5_byteAt wsX5_byteAt) := goodIn_app (goodIn_r _ [5, 6, 7, 8] rfl (by decide +kernel)) ggX3_takeNumber_X5_byteAt
set_option maxRecDepth 20000 in
theorem ggX3_takeNumber_X3_advance : GoodIn wsX3_takeNumber wsX3_advance := goodIn_r _ [16, 2, 3, 4, 17, 1, 5, 6, 7, 8, 9, 10, 11, 18, 19, 15, 20, 21, 22, 23, 24, 25, 26] rfl (by decide +kernel)
set_option maxRecDepth 20000 in
theorem gX3_takeNumber_X3_advance : GoodIn wsX3_takeNumber (wsV RX3 22 RX3 yX3_advance wsX3_advance) := goodIn_app (goodIn_r _ [12, 13, 14, 15] rfl (by decide +kernel)) ggX3_takeNumber_X3_advance
set_option maxRecDepth 20000 in
theorem ggX3_takeSemicolon_X5_byteAt : GoodIn wsX3_takeSemicolon wsX5_byteAt := goodIn_r _ [8, 9, 10, 25, 26] rfl (by decide +kernel)
set_option maxRecDepth 20000 in
theorem gX3_takeSemicolon_X5_byteAt : GoodIn wsX3_takeSemicolon (wsV RX3 136 RX5 yX5_byteAt wsX5_byteAt) := goodIn_app (goodIn_r _ [4, 5, 6, 7] rfl (by decide +kernel)) ggX3_takeSemicolon_X5_byteAt
set_option maxRecDepth 20000 in
theorem ggX3_takeSemicolon_X3_advance : GoodIn wsX3_takeSemicolon wsX3_advance := goodIn_r _ [15, 16, 3, 2, 17, 1, 4, 5, 6, 7, 8, 9, 10, 18, 19, 14, 20, 21, 22, 23, 24, 25, 26] rfl (by decide +kernel)
set_option maxRecDepth 20000 in
theorem gX3_takeSemicolon_X3_advance : GoodIn wsX3_takeSemicolon (wsV RX3 22 RX3 yX3_advance wsX3_advance) := goodIn_app (goodIn_r _ [11, 12, 13, 14] rfl (by decide +kernel)) ggX3_takeSemicolon_X3_advance
set_option maxRecDepth 20000 in
theorem ggX3_advance_X5_byteAt : GoodIn wsX3_advance wsX5_byteAt := goodIn_r _ [10, 11, 12, 21, 22] rfl (by decide +kernel)
set_option maxRecDepth 20000 in
theorem gX3_advance_X5_byteAt : GoodIn wsX3_advance (wsV RX3 136 RX5 yX5_byteAt wsX5_byteAt) := goodIn_app (goodIn_r _ [6, 7, 8, 9] rfl (by decide +kernel)) ggX3_advance_X5_byteAt
set_option maxRecDepth 20000 in
theorem ggX3_advance_X3_sortOf : GoodIn wsX3_advance wsX3_sortOf := goodIn_r _ [16] rfl (by decide +kernel)
set_option maxRecDepth 20000 in
theorem gX3_advance_X3_sortOf : GoodIn wsX3_advance (va_wsS RX3 146 yX3_sortOf wsX3_sortOf) := goodIn_app (goodIn_of _ (by decide +kernel)) ggX3_advance_X3_sortOf
set_option maxRecDepth 20000 in
theorem ggX4_init_X2_init : GoodIn wsX4_init wsX2_init := goodIn_r _ [13, 14, 2, 3, 4, 15, 16, 23, 24, 25] rfl (by decide +kernel)
set_option maxRecDepth 20000 in
theorem gX4_init_X2_init_n23 : GoodIn wsX4_init (wsX2_init) := ggX4_init_X2_init
set_option maxRecDepth 20000 in
theorem ggX4_reach_X4_addOutputs : GoodIn wsX4_reach wsX4_addOutputs := goodIn_r _ [11, 12, 4, 13, 14, 15, 16, 17, 18, 19, 20, 21, 22, 23, 24, 25, 26, 27, 28, 29, 30, 31, 32, 33, 34, 35, 36, 37, 38, 39, 40, 41, 42, 43, 44, 45, 46, 47, 48, 49, 112, 113, 114, 115, 116, 117, 118, 119, 120, 121, 122, 103, 104, 105, 106, 107, 108, 109, 110, 111] rfl (by decide +kernel)
set_option maxRecDepth 20000 in
theorem gX4_reach_X4_addOutputs : GoodIn wsX4_reach (wsV RX4 39 RX4 yX4_addOutputs wsX4_addOutputs) := goodIn_app (goodIn_r _ [7, 8, 9, 10] rfl (by decide +kernel)) ggX4_reach_X4_addOutputs
set_option maxRecDepth 20000 in
theorem ggX4_reach_X4_takeTask : GoodIn wsX4_reach wsX4_takeTask := goodIn_r _ [53, 54, 55, 56, 4, 57, 58, 22, 20, 23, 19, 21, 24, 25, 26, 27, 28, 29, 30, 31, 32, 33, 34, 35, 36, 37, 38, 39, 40, 41, 42, 43, 44, 45, 46, 47, 48, 49, 112, 113, 114, 115, 116, 117, 118, 119, 120, 121, 122, 103, 104, 105, 106, 107, 108, 109, 110, 111] rfl (by decide +kernel)
set_option maxRecDepth 20000 in
theorem gX4_reach_X4_takeTask : GoodIn wsX4_reach (wsV RX4 43 RX4 yX4_takeTask wsX4_takeTask) := goodIn_app (goodIn_r _ [50, 51, 52, 10] rfl (by decide +kernel)) ggX4_reach_X4_takeTask
set_option maxRecDepth 20000 in
theorem ggX4_reach_X4_replaceGate : GoodIn wsX4_reach wsX4_replaceGate := goodIn_r _ [62, 63, 4, 64, 65, 66, 67, 22, 20, 23, 68, 69, 70, 16, 71, 72, 19, 21, 73, 74, 75, 76, 77, 78, 79, 80, 81, 82, 83, 84, 85, 10, 86, 1, 2, 87, 88, 89, 90, 91, 92, 93, 94, 95, 96, 24, 25, 26, 27, 28, 29, 30, 31, 32, 33, 34, 35, 36, 37, 38, 39, 40, 41, 42, 43, 44, 45, 46, 47, 48, 49, 112, 113, 114, 115, 116, 117, 118, 119, 120, 121, 122, 103, 104, 105, 106, 107, 108, 109, 110, 111] rfl (by decide +kernel)
set_option maxRecDepth 20000 in
theorem gX4_reach_X4_replaceGate : GoodIn wsX4_reach (wsV RX4 51 RX4 yX4_replaceGate wsX4_replaceGate) := goodIn_app (goodIn_r _ [59, 60, 61, 10] rfl (by decide +kernel)) ggX4_reach_X4_replaceGate
set_option maxRecDepth 20000 in
theorem ggX4_reach_X4_keep : GoodIn wsX4_reach wsX4_keep := goodIn_r _ [100, 4, 5, 3, 2, 91, 101, 96, 102, 1, 44, 20, 45, 19, 21, 103, 104, 105, 106, 107, 108, 109, 110, 111] rfl (by decide +kernel)
set_option maxRecDepth 20000 in
theorem gX4_reach_X4_keep : GoodIn wsX4_reach (wsV RX4 55 RX4 yX4_keep wsX4_keep) := goodIn_app (goodIn_r _ [97, 98, 99, 10] rfl (by decide +kernel)) ggX4_reach_X4_keep
set_option maxRecDepth 20000 in
theorem ggX4_keep_X6_put : GoodIn wsX4_keep wsX6_put := goodIn_r _ [12] rfl (by decide +kernel)
set_option maxRecDepth 20000 in
theorem gX4_keep_X6_put_n59 : GoodIn wsX4_keep (wsX6_put) := ggX4_keep_X6_put
set_option maxRecDepth 20000 in
theorem ggX4_keep_X6_at : GoodIn wsX4_keep wsX6_at := goodIn_r _ [14] rfl (by decide +kernel)
set_option maxRecDepth 20000 in
theorem gX4_keep_X6_at_n64 : GoodIn wsX4_keep (wsX6_at) := ggX4_keep_X6_at
set_option maxRecDepth 20000 in
theorem ggX4_addOutputs_X0_outputAt : GoodIn wsX4_addOutputs wsX0_outputAt := goodIn_r _ [7, 8, 9, 10, 11, 40, 41, 42, 43, 44, 45, 46, 47, 48, 49, 50] rfl (by decide +kernel)
set_option maxRecDepth 20000 in
theorem gX4_addOutputs_X0_outputAt : GoodIn wsX4_addOutputs (wsV RX4 72 RX0 yX0_outputAt wsX0_outputAt) := goodIn_app (goodIn_r _ [3, 4, 5, 6] rfl (by decide +kernel)) ggX4_addOutputs_X0_outputAt
set_option maxRecDepth 20000 in
theorem ggX4_addOutputs_X6_setOf : GoodIn wsX4_addOutputs wsX6_setOf := goodIn_r _ [13] rfl (by decide +kernel)
set_option maxRecDepth 20000 in
theorem gX4_addOutputs_X6_setOf_n76 : GoodIn wsX4_addOutputs (wsX6_setOf) := ggX4_addOutputs_X6_setOf
set_option maxRecDepth 20000 in
theorem ggX4_addOutputs_X2_add : GoodIn wsX4_addOutputs wsX2_add := goodIn_r _ [18, 19, 20, 21, 22, 23, 24, 17, 25, 9, 10, 11, 26, 27, 28, 29, 30, 31, 32, 33, 34, 35, 36, 37, 38, 39, 57, 58, 59] rfl (by decide +kernel)
set_option maxRecDepth 20000 in
theorem gX4_addOutputs_X2_add : GoodIn wsX4_addOutputs (wsV RX4 79 RX2 yX2_add wsX2_add) := goodIn_app (goodIn_r _ [14, 15, 16, 17] rfl (by decide +kernel)) ggX4_addOutputs_X2_add
set_option maxRecDepth 20000 in
theorem ggX4_takeTask_X6_setOf : GoodIn wsX4_takeTask wsX6_setOf := goodIn_r _ [9] rfl (by decide +kernel)
set_option maxRecDepth 20000 in
theorem gX4_takeTask_X6_setOf_n76 : GoodIn wsX4_takeTask (wsX6_setOf) := ggX4_takeTask_X6_setOf
set_option maxRecDepth 20000 in
theorem ggX4_takeTask_X6_at : GoodIn wsX4_takeTask wsX6_at := goodIn_r _ [11] rfl (by decide +kernel)
set_option maxRecDepth 20000 in
theorem gX4_takeTask_X6_at_n64 : GoodIn wsX4_takeTask (wsX6_at) := ggX4_takeTask_X6_at
set_option maxRecDepth 20000 in
theorem ggX4_takeTask_X2_add : GoodIn wsX4_takeTask wsX2_add := goodIn_r _ [16, 17, 18, 19, 20, 21, 22, 15, 23, 10, 8, 11, 24, 25, 26, 27, 28, 29, 30, 31, 32, 33, 34, 35, 36, 37, 55, 56, 57] rfl (by decide +kernel)
set_option maxRecDepth 20000 in
theorem gX4_takeTask_X2_add : GoodIn wsX4_takeTask (wsV RX4 79 RX2 yX2_add wsX2_add) := goodIn_app (goodIn_r _ [12, 13, 14, 15] rfl (by decide +kernel)) ggX4_takeTask_X2_add
set_option maxRecDepth 20000 in
theorem ggX4_replaceGate_X6_setOf : GoodIn wsX4_replaceGate wsX6_setOf := goodIn_r _ [9] rfl (by decide +kernel)
set_option maxRecDepth 20000 in
theorem gX4_replaceGate_X6_setOf_n76 : GoodIn wsX4_replaceGate (wsX6_setOf) := ggX4_replaceGate_X6_setOf
set_option maxRecDepth 20000 in
theorem ggX4_replaceGate_X0_xOf : GoodIn wsX4_replaceGate wsX0_xOf := goodIn_r _ [14, 15, 16, 8, 17, 71, 72, 73, 74, 75, 76, 77, 78, 79, 80, 81] rfl (by decide +kernel)
set_option maxRecDepth 20000 in
theorem gX4_replaceGate_X0_xOf : GoodIn wsX4_replaceGate (wsV RX4 101 RX0 yX0_xOf wsX0_xOf) := goodIn_app (goodIn_r _ [10, 11, 12, 13] rfl (by decide +kernel)) ggX4_replaceGate_X0_xOf
set_option maxRecDepth 20000 in
theorem ggX4_replaceGate_X0_yOf : GoodIn wsX4_replaceGate wsX0_yOf := goodIn_r _ [21, 22, 16, 8, 17, 71, 72, 73, 74, 75, 76, 77, 78, 79, 80, 81] rfl (by decide +kernel)
set_option maxRecDepth 20000 in
theorem gX4_replaceGate_X0_yOf : GoodIn wsX4_replaceGate (wsV RX4 104 RX0 yX0_yOf wsX0_yOf) := goodIn_app (goodIn_r _ [18, 19, 20, 13] rfl (by decide +kernel)) ggX4_replaceGate_X0_yOf
set_option maxRecDepth 20000 in
theorem ggX4_replaceGate_X0_kindOf : GoodIn wsX4_replaceGate wsX0_kindOf := goodIn_r _ [26, 27, 16, 8, 17, 71, 72, 73, 74, 75, 76, 77, 78, 79, 80, 81] rfl (by decide +kernel)
set_option maxRecDepth 20000 in
theorem gX4_replaceGate_X0_kindOf : GoodIn wsX4_replaceGate (wsV RX4 107 RX0 yX0_kindOf wsX0_kindOf) := goodIn_app (goodIn_r _ [23, 24, 25, 13] rfl (by decide +kernel)) ggX4_replaceGate_X0_kindOf
set_option maxRecDepth 20000 in
theorem ggX4_replaceGate_X4_sizeOf : GoodIn wsX4_replaceGate wsX4_sizeOf := goodIn_r _ [32, 33, 34, 16, 8, 17, 82, 83, 84, 85, 86, 87] rfl (by decide +kernel)
set_option maxRecDepth 20000 in
theorem gX4_replaceGate_X4_sizeOf : GoodIn wsX4_replaceGate (wsV RX4 110 RX4 yX4_sizeOf wsX4_sizeOf) := goodIn_app (goodIn_r _ [28, 29, 30, 31] rfl (by decide +kernel)) ggX4_replaceGate_X4_sizeOf
set_option maxRecDepth 20000 in
theorem ggX4_replaceGate_X4_setAt : GoodIn wsX4_replaceGate wsX4_setAt := goodIn_r _ [38, 39, 16, 8, 17, 82, 83, 84, 85, 86, 87] rfl (by decide +kernel)
set_option maxRecDepth 20000 in
theorem gX4_replaceGate_X4_setAt : GoodIn wsX4_replaceGate (wsV RX4 113 RX4 yX4_setAt wsX4_setAt) := goodIn_app (goodIn_r _ [35, 36, 37, 31] rfl (by decide +kernel)) ggX4_replaceGate_X4_setAt
set_option maxRecDepth 20000 in
theorem ggX4_replaceGate_X4_coefficientAt : GoodIn wsX4_replaceGate wsX4_coefficientAt := goodIn_r _ [43, 44, 16, 8, 17, 82, 83, 84, 85, 86, 87] rfl (by decide +kernel)
set_option maxRecDepth 20000 in
theorem gX4_replaceGate_X4_coefficientAt : GoodIn wsX4_replaceGate (wsV RX4 117 RX4 yX4_coefficientAt wsX4_coefficientAt) := goodIn_app (goodIn_r _ [40, 41, 42, 31] rfl (by decide +kernel)) ggX4_replaceGate_X4_coefficientAt
set_option maxRecDepth 20000 in
theorem ggX4_replaceGate_X2_add : GoodIn wsX4_replaceGate wsX2_add := goodIn_r _ [49, 50, 51, 52, 53, 54, 55, 48, 56, 16, 8, 17, 57, 58, 59, 60, 61, 62, 63, 64, 65, 66, 67, 68, 69, 70, 88, 89, 90] rfl (by decide +kernel)
set_option maxRecDepth 20000 in
theorem gX4_replaceGate_X2_add : GoodIn wsX4_replaceGate (wsV RX4 79 RX2 yX2_add wsX2_add) := goodIn_app (goodIn_r _ [45, 46, 47, 48] rfl (by decide +kernel)) ggX4_replaceGate_X2_add
set_option maxRecDepth 20000 in
theorem ggX4_replaceGate_X6_at : GoodIn wsX4_replaceGate wsX6_at := goodIn_r _ [17] rfl (by decide +kernel)
set_option maxRecDepth 20000 in
theorem gX4_replaceGate_X6_at_n64 : GoodIn wsX4_replaceGate (wsX6_at) := ggX4_replaceGate_X6_at
set_option maxRecDepth 20000 in
theorem ggX4_sizeOf_X6_at : GoodIn wsX4_sizeOf wsX6_at := goodIn_r _ [5] rfl (by decide +kernel)
set_option maxRecDepth 20000 in
theorem gX4_sizeOf_X6_at_n64 : GoodIn wsX4_sizeOf (wsX6_at) := ggX4_sizeOf_X6_at
set_option maxRecDepth 20000 in
theorem ggX4_setAt_X6_at : GoodIn wsX4_setAt wsX6_at := goodIn_r _ [4] rfl (by decide +kernel)
set_option maxRecDepth 20000 in
theorem gX4_setAt_X6_at_n64 : GoodIn wsX4_setAt (wsX6_at) := ggX4_setAt_X6_at
set_option maxRecDepth 20000 in
theorem ggX4_coefficientAt_X6_at : GoodIn wsX4_coefficientAt wsX6_at := goodIn_r _ [4] rfl (by decide +kernel)
set_option maxRecDepth 20000 in
theorem gX4_coefficientAt_X6_at_n64 : GoodIn wsX4_coefficientAt (wsX6_at) := ggX4_coefficientAt_X6_at
set_option maxRecDepth 20000 in
theorem ggX4_greatestSize_X4_sizeOf : GoodIn wsX4_greatestSize wsX4_sizeOf := goodIn_r _ [10, 11, 1, 12, 13, 14, 15, 16, 17, 18, 19, 20] rfl (by decide +kernel)
set_option maxRecDepth 20000 in
theorem gX4_greatestSize_X4_sizeOf : GoodIn wsX4_greatestSize (wsV RX4 110 RX4 yX4_sizeOf wsX4_sizeOf) := goodIn_app (goodIn_r _ [6, 7, 8, 9] rfl (by decide +kernel)) ggX4_greatestSize_X4_sizeOf
set_option maxRecDepth 20000 in
theorem ggX4_widestOf_X4_sizeOf : GoodIn wsX4_widestOf wsX4_sizeOf := goodIn_r _ [9, 10, 11, 12, 13, 14, 27, 28, 29, 30, 31, 32] rfl (by decide +kernel)
set_option maxRecDepth 20000 in
theorem gX4_widestOf_X4_sizeOf : GoodIn wsX4_widestOf (wsV RX4 110 RX4 yX4_sizeOf wsX4_sizeOf) := goodIn_app (goodIn_r _ [5, 6, 7, 8] rfl (by decide +kernel)) ggX4_widestOf_X4_sizeOf
set_option maxRecDepth 20000 in
theorem ggX4_widestOf_X4_setAt : GoodIn wsX4_widestOf wsX4_setAt := goodIn_r _ [18, 19, 12, 13, 14, 27, 28, 29, 30, 31, 32] rfl (by decide +kernel)
set_option maxRecDepth 20000 in
theorem gX4_widestOf_X4_setAt : GoodIn wsX4_widestOf (wsV RX4 113 RX4 yX4_setAt wsX4_setAt) := goodIn_app (goodIn_r _ [15, 16, 17, 8] rfl (by decide +kernel)) ggX4_widestOf_X4_setAt
set_option maxRecDepth 20000 in
theorem ggX4_widestOf_J6_bitCount_0f7a4 : GoodIn wsX4_widestOf wsJ6_bitCount_0f7a4 := goodIn_r _ [23, 24, 25, 26] rfl (by decide +kernel)
set_option maxRecDepth 20000 in
theorem gX4_widestOf_J6_bitCount_0f7a4 : GoodIn wsX4_widestOf (va_wsS RX4 137 yJ6_bitCount_0f7a4 wsJ6_bitCount_0f7a4) := goodIn_app (goodIn_of _ (by decide +kernel)) ggX4_widestOf_J6_bitCount_0f7a4
set_option maxRecDepth 20000 in
theorem ggX4_narrowestOf_X4_sizeOf : GoodIn wsX4_narrowestOf wsX4_sizeOf := goodIn_r _ [5, 6, 7, 8, 9, 10, 23, 24, 25, 26, 27, 28] rfl (by decide +kernel)
set_option maxRecDepth 20000 in
theorem gX4_narrowestOf_X4_sizeOf : GoodIn wsX4_narrowestOf (wsV RX4 110 RX4 yX4_sizeOf wsX4_sizeOf) := goodIn_app (goodIn_r _ [1, 2, 3, 4] rfl (by decide +kernel)) ggX4_narrowestOf_X4_sizeOf
set_option maxRecDepth 20000 in
theorem ggX4_narrowestOf_X4_setAt : GoodIn wsX4_narrowestOf wsX4_setAt := goodIn_r _ [14, 15, 8, 9, 10, 23, 24, 25, 26, 27, 28] rfl (by decide +kernel)
set_option maxRecDepth 20000 in
theorem gX4_narrowestOf_X4_setAt : GoodIn wsX4_narrowestOf (wsV RX4 113 RX4 yX4_setAt wsX4_setAt) := goodIn_app (goodIn_r _ [11, 12, 13, 4] rfl (by decide +kernel)) ggX4_narrowestOf_X4_setAt
set_option maxRecDepth 20000 in
theorem ggX4_narrowestOf_J6_bitCount_0f7a4 : GoodIn wsX4_narrowestOf wsJ6_bitCount_0f7a4 := goodIn_r _ [19, 20, 21, 22] rfl (by decide +kernel)
set_option maxRecDepth 20000 in
theorem gX4_narrowestOf_J6_bitCount_0f7a4 : GoodIn wsX4_narrowestOf (va_wsS RX4 137 yJ6_bitCount_0f7a4 wsJ6_bitCount_0f7a4) := goodIn_app (goodIn_of _ (by decide +kernel)) ggX4_narrowestOf_J6_bitCount_0f7a4
set_option maxRecDepth 20000 in
theorem ggX4_unionOf_X4_sizeOf : GoodIn wsX4_unionOf wsX4_sizeOf := goodIn_r _ [5, 6, 7, 8, 9, 10, 16, 17, 18, 19, 20, 21] rfl (by decide +kernel)
set_option maxRecDepth 20000 in
theorem gX4_unionOf_X4_sizeOf : GoodIn wsX4_unionOf (wsV RX4 110 RX4 yX4_sizeOf wsX4_sizeOf) := goodIn_app (goodIn_r _ [1, 2, 3, 4] rfl (by decide +kernel)) ggX4_unionOf_X4_sizeOf
set_option maxRecDepth 20000 in
theorem ggX4_unionOf_X4_setAt : GoodIn wsX4_unionOf wsX4_setAt := goodIn_r _ [14, 15, 8, 9, 10, 16, 17, 18, 19, 20, 21] rfl (by decide +kernel)
set_option maxRecDepth 20000 in
theorem gX4_unionOf_X4_setAt : GoodIn wsX4_unionOf (wsV RX4 113 RX4 yX4_setAt wsX4_setAt) := goodIn_app (goodIn_r _ [11, 12, 13, 4] rfl (by decide +kernel)) ggX4_unionOf_X4_setAt
set_option maxRecDepth 20000 in
theorem ggX4_sumWhere_X4_sizeOf : GoodIn wsX4_sumWhere wsX4_sizeOf := goodIn_r _ [5, 6, 7, 8, 9, 10, 21, 22, 23, 24, 25, 26] rfl (by decide +kernel)
set_option maxRecDepth 20000 in
theorem gX4_sumWhere_X4_sizeOf : GoodIn wsX4_sumWhere (wsV RX4 110 RX4 yX4_sizeOf wsX4_sizeOf) := goodIn_app (goodIn_r _ [1, 2, 3, 4] rfl (by decide +kernel)) ggX4_sumWhere_X4_sizeOf
set_option maxRecDepth 20000 in
theorem ggX4_sumWhere_X4_setAt : GoodIn wsX4_sumWhere wsX4_setAt := goodIn_r _ [14, 15, 8, 9, 10, 21, 22, 23, 24, 25, 26] rfl (by decide +kernel)
set_option maxRecDepth 20000 in
theorem gX4_sumWhere_X4_setAt : GoodIn wsX4_sumWhere (wsV RX4 113 RX4 yX4_setAt wsX4_setAt) := goodIn_app (goodIn_r _ [11, 12, 13, 4] rfl (by decide +kernel)) ggX4_sumWhere_X4_setAt
set_option maxRecDepth 20000 in
theorem ggX4_sumWhere_X4_coefficientAt : GoodIn wsX4_sumWhere wsX4_coefficientAt := goodIn_r _ [19, 20, 8, 9, 10, 21, 22, 23, 24, 25, 26] rfl (by decide +kernel)
set_option maxRecDepth 20000 in
theorem gX4_sumWhere_X4_coefficientAt : GoodIn wsX4_sumWhere (wsV RX4 117 RX4 yX4_coefficientAt wsX4_coefficientAt) := goodIn_app (goodIn_r _ [16, 17, 18, 4] rfl (by decide +kernel)) ggX4_sumWhere_X4_coefficientAt
set_option maxRecDepth 20000 in
theorem ggX4_dearestOf_X4_sizeOf : GoodIn wsX4_dearestOf wsX4_sizeOf := goodIn_r _ [5, 6, 7, 8, 9, 10, 29, 30, 31, 32, 33, 34] rfl (by decide +kernel)
set_option maxRecDepth 20000 in
theorem gX4_dearestOf_X4_sizeOf : GoodIn wsX4_dearestOf (wsV RX4 110 RX4 yX4_sizeOf wsX4_sizeOf) := goodIn_app (goodIn_r _ [1, 2, 3, 4] rfl (by decide +kernel)) ggX4_dearestOf_X4_sizeOf
set_option maxRecDepth 20000 in
theorem ggX4_dearestOf_X4_dearerThan : GoodIn wsX4_dearestOf wsX4_dearerThan := goodIn_r _ [14, 15, 16, 17, 18, 19, 20, 21, 4, 22, 23, 8, 9, 10, 1, 2, 3, 5, 6, 7, 29, 30, 31, 32, 33, 34] rfl (by decide +kernel)
set_option maxRecDepth 20000 in
theorem gX4_dearestOf_X4_dearerThan : GoodIn wsX4_dearestOf (wsV RX4 142 RX4 yX4_dearerThan wsX4_dearerThan) := goodIn_app (goodIn_r _ [11, 12, 13, 4] rfl (by decide +kernel)) ggX4_dearestOf_X4_dearerThan
set_option maxRecDepth 20000 in
theorem ggX4_dearestOf_X4_setAt : GoodIn wsX4_dearestOf wsX4_setAt := goodIn_r _ [27, 28, 8, 9, 10, 29, 30, 31, 32, 33, 34] rfl (by decide +kernel)
set_option maxRecDepth 20000 in
theorem gX4_dearestOf_X4_setAt : GoodIn wsX4_dearestOf (wsV RX4 113 RX4 yX4_setAt wsX4_setAt) := goodIn_app (goodIn_r _ [24, 25, 26, 4] rfl (by decide +kernel)) ggX4_dearestOf_X4_setAt
set_option maxRecDepth 20000 in
theorem ggX4_dearerThan_X4_coefficientAt : GoodIn wsX4_dearerThan wsX4_coefficientAt := goodIn_r _ [9, 10, 11, 12, 13, 20, 21, 22, 23, 24, 25] rfl (by decide +kernel)
set_option maxRecDepth 20000 in
theorem gX4_dearerThan_X4_coefficientAt : GoodIn wsX4_dearerThan (wsV RX4 117 RX4 yX4_coefficientAt wsX4_coefficientAt) := goodIn_app (goodIn_r _ [5, 6, 7, 8] rfl (by decide +kernel)) ggX4_dearerThan_X4_coefficientAt
set_option maxRecDepth 20000 in
theorem ggX4_dearerThan_X4_sizeOf : GoodIn wsX4_dearerThan wsX4_sizeOf := goodIn_r _ [17, 18, 19, 11, 12, 13, 20, 21, 22, 23, 24, 25] rfl (by decide +kernel)
set_option maxRecDepth 20000 in
theorem gX4_dearerThan_X4_sizeOf : GoodIn wsX4_dearerThan (wsV RX4 110 RX4 yX4_sizeOf wsX4_sizeOf) := goodIn_app (goodIn_r _ [14, 15, 16, 8] rfl (by decide +kernel)) ggX4_dearerThan_X4_sizeOf
set_option maxRecDepth 20000 in
theorem ggX6_init_X3_init : GoodIn wsX6_init wsX3_init := goodIn_r _ [23, 24, 2, 3, 25, 26, 27, 28, 29, 30, 31, 32, 33, 93, 94, 62, 63, 64, 65] rfl (by decide +kernel)
set_option maxRecDepth 20000 in
theorem gX6_init_X3_init_n11 : GoodIn wsX6_init (wsX3_init) := ggX6_init_X3_init
set_option maxRecDepth 20000 in
theorem ggX6_init_X0_init : GoodIn wsX6_init wsX0_init := goodIn_r _ [35, 36, 2, 3, 37, 38, 39, 40, 41, 75, 76, 77, 78, 79, 80, 81, 82, 83, 84, 85] rfl (by decide +kernel)
set_option maxRecDepth 20000 in
theorem gX6_init_X0_init_n18 : GoodIn wsX6_init (wsX0_init) := ggX6_init_X0_init
set_option maxRecDepth 20000 in
theorem ggX6_init_X1_init : GoodIn wsX6_init wsX1_init := goodIn_r _ [43, 44, 2, 3, 45, 46, 86] rfl (by decide +kernel)
set_option maxRecDepth 20000 in
theorem gX6_init_X1_init_n28 : GoodIn wsX6_init (wsX1_init) := ggX6_init_X1_init
set_option maxRecDepth 20000 in
theorem ggX6_init_X4_init : GoodIn wsX6_init wsX4_init := goodIn_r _ [48, 49, 2, 3, 37, 50, 51, 52, 53, 54, 55, 56, 57, 58, 59, 60, 61, 87, 88, 89, 90, 91, 92, 95, 96, 97] rfl (by decide +kernel)
set_option maxRecDepth 20000 in
theorem gX6_init_X4_init_n38 : GoodIn wsX6_init (wsX4_init) := ggX6_init_X4_init
set_option maxRecDepth 20000 in
theorem ggX6_type_X6_refused : GoodIn wsX6_type wsX6_refused := goodIn_r _ [8, 9, 10, 11, 19, 20, 21, 22, 23, 24, 25, 26, 27] rfl (by decide +kernel)
set_option maxRecDepth 20000 in
theorem gX6_type_X6_refused : GoodIn wsX6_type (wsV RX6 43 RX6 yX6_refused wsX6_refused) := goodIn_app (goodIn_r _ [4, 5, 6, 7] rfl (by decide +kernel)) ggX6_type_X6_refused
set_option maxRecDepth 20000 in
theorem ggX6_type_X5_append : GoodIn wsX6_type wsX5_append := goodIn_r _ [16, 17, 18, 32, 33] rfl (by decide +kernel)
set_option maxRecDepth 20000 in
theorem gX6_type_X5_append : GoodIn wsX6_type (wsV RX6 51 RX5 yX5_append wsX5_append) := goodIn_app (goodIn_r _ [12, 13, 14, 15] rfl (by decide +kernel)) ggX6_type_X5_append
set_option maxRecDepth 20000 in
theorem ggX6_reads_X3_faultOf : GoodIn wsX6_reads wsX3_faultOf := goodIn_r _ [8, 9, 10, 11, 12, 13, 14, 7, 15, 16, 17, 18, 19, 20, 21, 22, 23, 24, 25, 26, 27, 28, 29, 30, 31, 32, 33, 34, 35, 36, 37, 38, 39, 40, 41, 42, 43, 44, 45, 46, 47, 48, 49, 50, 51, 52, 53, 54, 55, 56, 57, 58, 59, 60, 61, 62, 63, 64, 65, 66, 67, 68, 69, 70, 71, 72, 73, 74, 75, 76, 77, 78, 79, 80, 81, 82, 83, 84, 85, 86, 87, 88, 89, 90, 91, 92, 93, 94, 95, 96, 97, 98, 99, 100, 101, 102, 103, 104, 105, 106, 107, 108, 109, 110, 111, 112, 113, 114, 115, 116, 117, 118, 119, 120, 121, 122, 123, 124, 125, 126, 127, 128, 129, 130, 131, 132, 133, 134, 135, 136, 137, 138, 139, 140, 141, 142, 143, 144, 145, 146, 147, 148, 149, 150, 151, 152, 153, 154, 155, 156, 157, 158, 159, 160, 161, 162, 163, 234, 235, 236, 237, 238, 239, 240, 241, 242, 243, 244, 245, 246, 247, 248, 249, 250] rfl (by decide +kernel)
set_option maxRecDepth 20000 in
theorem gX6_reads_X3_faultOf : GoodIn wsX6_reads (wsV RX6 61 RX3 yX3_faultOf wsX3_faultOf) := goodIn_app (goodIn_r _ [4, 5, 6, 7] rfl (by decide +kernel)) ggX6_reads_X3_faultOf
set_option maxRecDepth 20000 in
theorem ggX6_reads_X0_become : GoodIn wsX6_reads wsX0_become := goodIn_r _ [167, 99, 100, 101, 161, 162, 163, 168, 94, 95, 96, 97, 98, 169, 170, 171, 172, 129, 173, 133, 174, 175, 176, 177, 178, 130, 179, 180, 181, 182, 131, 183, 126, 127, 128, 132, 134, 135, 122, 123, 124, 184, 185, 186, 187, 144, 188, 141, 142, 143, 189, 158, 159, 160, 240, 241, 242, 243, 244, 245, 246, 247, 248, 249, 250] rfl (by decide +kernel)
set_option maxRecDepth 20000 in
theorem gX6_reads_X0_become : GoodIn wsX6_reads (wsV RX6 65 RX0 yX0_become wsX0_become) := goodIn_app (goodIn_r _ [164, 165, 166, 96] rfl (by decide +kernel)) ggX6_reads_X0_become
set_option maxRecDepth 20000 in
theorem ggX6_reads_X6_changed : GoodIn wsX6_reads wsX6_changed := goodIn_r _ [193, 194, 3, 195, 196, 197, 198, 199, 200, 201, 202, 203, 204, 205, 206, 170, 171, 96, 172, 129, 173, 133, 174, 207, 208, 209, 210, 211, 212, 176, 177, 178, 130, 213, 214, 215, 216, 217, 180, 181, 182, 131, 218, 219, 220, 221, 222, 223, 224, 225, 226, 227, 228, 229, 230, 231, 232, 233, 240, 241, 242, 243, 244, 245, 246, 247, 248, 249, 250, 251, 252, 253, 254, 255, 256, 257] rfl (by decide +kernel)
set_option maxRecDepth 20000 in
theorem gX6_reads_X6_changed : GoodIn wsX6_reads (wsV RX6 69 RX6 yX6_changed wsX6_changed) := goodIn_app (goodIn_r _ [190, 191, 192, 133] rfl (by decide +kernel)) ggX6_reads_X6_changed
set_option maxRecDepth 20000 in
theorem ggX6_kind_X6_isGate : GoodIn wsX6_kind wsX6_isGate := goodIn_r _ [7, 1, 8, 9, 80, 81, 82, 83, 84, 85, 86, 87, 88, 89, 90, 91, 92, 93, 94, 95, 96, 97, 98, 99] rfl (by decide +kernel)
set_option maxRecDepth 20000 in
theorem gX6_kind_X6_isGate : GoodIn wsX6_kind (wsV RX6 73 RX6 yX6_isGate wsX6_isGate) := goodIn_app (goodIn_r _ [3, 4, 5, 6] rfl (by decide +kernel)) ggX6_kind_X6_isGate
set_option maxRecDepth 20000 in
theorem ggX6_kind_X0_mayPut : GoodIn wsX6_kind wsX0_mayPut := goodIn_r _ [14, 15, 16, 17, 18, 13, 19, 20, 21, 6, 22, 89, 90, 91, 92, 93, 94, 95, 96, 97, 98, 99] rfl (by decide +kernel)
set_option maxRecDepth 20000 in
theorem gX6_kind_X0_mayPut : GoodIn wsX6_kind (wsV RX6 76 RX0 yX0_mayPut wsX0_mayPut) := goodIn_app (goodIn_r _ [10, 11, 12, 13] rfl (by decide +kernel)) ggX6_kind_X0_mayPut
set_option maxRecDepth 20000 in
theorem ggX6_kind_X6_refusal : GoodIn wsX6_kind wsX6_refusal := goodIn_r _ [26, 1, 8, 27, 28, 29, 6, 30, 31, 32, 33, 80, 81, 82, 83, 84, 85, 86, 87, 88, 89, 90, 91, 92, 93, 94, 95, 96, 97, 98, 99] rfl (by decide +kernel)
set_option maxRecDepth 20000 in
theorem gX6_kind_X6_refusal : GoodIn wsX6_kind (wsV RX6 80 RX6 yX6_refusal wsX6_refusal) := goodIn_app (goodIn_r _ [23, 24, 25, 6] rfl (by decide +kernel)) ggX6_kind_X6_refusal
set_option maxRecDepth 20000 in
theorem ggX6_kind_X0_kindOf : GoodIn wsX6_kind wsX0_kindOf := goodIn_r _ [19, 20, 21, 6, 22, 89, 90, 91, 92, 93, 94, 95, 96, 97, 98, 99] rfl (by decide +kernel)
set_option maxRecDepth 20000 in
theorem gX6_kind_X0_kindOf : GoodIn wsX6_kind (wsV RX6 84 RX0 yX0_kindOf wsX0_kindOf) := goodIn_app (goodIn_r _ [34, 17, 18, 13] rfl (by decide +kernel)) ggX6_kind_X0_kindOf
set_option maxRecDepth 20000 in
theorem ggX6_kind_X6_put : GoodIn wsX6_kind wsX6_put := goodIn_r _ [37] rfl (by decide +kernel)
set_option maxRecDepth 20000 in
theorem gX6_kind_X6_put : GoodIn wsX6_kind (va_wsS RX6 91 yX6_put wsX6_put) := goodIn_app (goodIn_of _ (by decide +kernel)) ggX6_kind_X6_put
set_option maxRecDepth 20000 in
theorem ggX6_kind_X6_changed : GoodIn wsX6_kind wsX6_changed := goodIn_r _ [41, 42, 1, 43, 9, 44, 45, 46, 47, 48, 49, 50, 51, 52, 53, 17, 18, 13, 19, 20, 21, 6, 22, 54, 55, 56, 57, 58, 59, 60, 61, 62, 63, 64, 65, 66, 67, 68, 69, 70, 71, 72, 73, 74, 75, 76, 77, 78, 79, 80, 81, 82, 83, 84, 85, 86, 87, 88, 89, 90, 91, 92, 93, 94, 95, 96, 97, 98, 99, 100, 101, 102, 103, 104, 105, 106] rfl (by decide +kernel)
set_option maxRecDepth 20000 in
theorem gX6_kind_X6_changed : GoodIn wsX6_kind (wsV RX6 69 RX6 yX6_changed wsX6_changed) := goodIn_app (goodIn_r _ [38, 39, 40, 6] rfl (by decide +kernel)) ggX6_kind_X6_changed
set_option maxRecDepth 20000 in
theorem ggX6_wire_X6_isGate : GoodIn wsX6_wire wsX6_isGate := goodIn_r _ [8, 1, 9, 10, 85, 86, 87, 88, 89, 90, 91, 92, 93, 94, 95, 96, 97, 98, 99, 100, 101, 102, 103, 104] rfl (by decide +kernel)
set_option maxRecDepth 20000 in
theorem gX6_wire_X6_isGate : GoodIn wsX6_wire (wsV RX6 73 RX6 yX6_isGate wsX6_isGate) := goodIn_app (goodIn_r _ [4, 5, 6, 7] rfl (by decide +kernel)) ggX6_wire_X6_isGate
set_option maxRecDepth 20000 in
theorem ggX6_wire_X6_isWay : GoodIn wsX6_wire wsX6_isWay := goodIn_r _ [14, 1, 9, 15, 16, 17, 18, 19, 20, 21, 7, 22, 85, 86, 87, 88, 89, 90, 91, 92, 93, 94, 95, 96, 97, 98, 99, 100, 101, 102, 103, 104] rfl (by decide +kernel)
set_option maxRecDepth 20000 in
theorem gX6_wire_X6_isWay : GoodIn wsX6_wire (wsV RX6 95 RX6 yX6_isWay wsX6_isWay) := goodIn_app (goodIn_r _ [11, 12, 13, 7] rfl (by decide +kernel)) ggX6_wire_X6_isWay
set_option maxRecDepth 20000 in
theorem ggX6_wire_X6_isAhead : GoodIn wsX6_wire wsX6_isAhead := goodIn_r _ [26, 1, 9, 27, 85, 86, 87, 88, 89, 90, 91, 92, 93, 94, 95, 96, 97, 98, 99, 100, 101, 102, 103, 104] rfl (by decide +kernel)
set_option maxRecDepth 20000 in
theorem gX6_wire_X6_isAhead : GoodIn wsX6_wire (wsV RX6 98 RX6 yX6_isAhead wsX6_isAhead) := goodIn_app (goodIn_r _ [23, 24, 25, 7] rfl (by decide +kernel)) ggX6_wire_X6_isAhead
set_option maxRecDepth 20000 in
theorem ggX6_wire_X6_refusal : GoodIn wsX6_wire wsX6_refusal := goodIn_r _ [31, 1, 9, 32, 33, 34, 7, 35, 36, 37, 38, 85, 86, 87, 88, 89, 90, 91, 92, 93, 94, 95, 96, 97, 98, 99, 100, 101, 102, 103, 104] rfl (by decide +kernel)
set_option maxRecDepth 20000 in
theorem gX6_wire_X6_refusal : GoodIn wsX6_wire (wsV RX6 80 RX6 yX6_refusal wsX6_refusal) := goodIn_app (goodIn_r _ [28, 29, 30, 7] rfl (by decide +kernel)) ggX6_wire_X6_refusal
set_option maxRecDepth 20000 in
theorem ggX6_wire_X6_at : GoodIn wsX6_wire wsX6_at := goodIn_r _ [22] rfl (by decide +kernel)
set_option maxRecDepth 20000 in
theorem gX6_wire_X6_at : GoodIn wsX6_wire (va_wsS RX6 107 yX6_at wsX6_at) := goodIn_app (goodIn_of _ (by decide +kernel)) ggX6_wire_X6_at
set_option maxRecDepth 20000 in
theorem ggX6_wire_X6_put : GoodIn wsX6_wire wsX6_put := goodIn_r _ [42] rfl (by decide +kernel)
set_option maxRecDepth 20000 in
theorem gX6_wire_X6_put : GoodIn wsX6_wire (va_wsS RX6 91 yX6_put wsX6_put) := goodIn_app (goodIn_of _ (by decide +kernel)) ggX6_wire_X6_put
set_option maxRecDepth 20000 in
theorem ggX6_wire_X6_changed : GoodIn wsX6_wire wsX6_changed := goodIn_r _ [46, 47, 1, 48, 10, 49, 50, 51, 52, 53, 54, 55, 56, 57, 58, 16, 17, 18, 19, 20, 21, 7, 22, 59, 60, 61, 62, 63, 64, 65, 66, 67, 68, 69, 70, 71, 72, 73, 74, 75, 76, 77, 78, 79, 80, 81, 82, 83, 84, 85, 86, 87, 88, 89, 90, 91, 92, 93, 94, 95, 96, 97, 98, 99, 100, 101, 102, 103, 104, 105, 106, 107, 108, 109, 110, 111] rfl (by decide +kernel)
set_option maxRecDepth 20000 in
theorem gX6_wire_X6_changed : GoodIn wsX6_wire (wsV RX6 69 RX6 yX6_changed wsX6_changed) := goodIn_app (goodIn_r _ [43, 44, 45, 7] rfl (by decide +kernel)) ggX6_wire_X6_changed
set_option maxRecDepth 20000 in
theorem ggX6_of_X6_isGate : GoodIn wsX6_of wsX6_isGate := goodIn_r _ [7, 1, 8, 9, 52, 53, 54, 55, 56, 57, 58, 59, 60, 61, 62, 63, 64, 65, 66, 67, 68, 69, 70, 71] rfl (by decide +kernel)
set_option maxRecDepth 20000 in
theorem gX6_of_X6_isGate : GoodIn wsX6_of (wsV RX6 73 RX6 yX6_isGate wsX6_isGate) := goodIn_app (goodIn_r _ [3, 4, 5, 6] rfl (by decide +kernel)) ggX6_of_X6_isGate
set_option maxRecDepth 20000 in
theorem ggX6_of_X6_refusal : GoodIn wsX6_of wsX6_refusal := goodIn_r _ [13, 1, 8, 14, 15, 16, 6, 17, 18, 19, 20, 52, 53, 54, 55, 56, 57, 58, 59, 60, 61, 62, 63, 64, 65, 66, 67, 68, 69, 70, 71] rfl (by decide +kernel)
set_option maxRecDepth 20000 in
theorem gX6_of_X6_refusal : GoodIn wsX6_of (wsV RX6 80 RX6 yX6_refusal wsX6_refusal) := goodIn_app (goodIn_r _ [10, 11, 12, 6] rfl (by decide +kernel)) ggX6_of_X6_refusal
set_option maxRecDepth 20000 in
theorem ggX6_of_X0_kindOf : GoodIn wsX6_of wsX0_kindOf := goodIn_r _ [25, 26, 27, 6, 28, 61, 62, 63, 64, 65, 66, 67, 68, 69, 70, 71] rfl (by decide +kernel)
set_option maxRecDepth 20000 in
theorem gX6_of_X0_kindOf : GoodIn wsX6_of (wsV RX6 84 RX0 yX0_kindOf wsX0_kindOf) := goodIn_app (goodIn_r _ [21, 22, 23, 24] rfl (by decide +kernel)) ggX6_of_X0_kindOf
set_option maxRecDepth 20000 in
theorem ggX6_of_X0_xOf : GoodIn wsX6_of wsX0_xOf := goodIn_r _ [32, 33, 27, 6, 28, 61, 62, 63, 64, 65, 66, 67, 68, 69, 70, 71] rfl (by decide +kernel)
set_option maxRecDepth 20000 in
theorem gX6_of_X0_xOf : GoodIn wsX6_of (wsV RX6 111 RX0 yX0_xOf wsX0_xOf) := goodIn_app (goodIn_r _ [29, 30, 31, 24] rfl (by decide +kernel)) ggX6_of_X0_xOf
set_option maxRecDepth 20000 in
theorem ggX6_of_X0_yOf : GoodIn wsX6_of wsX0_yOf := goodIn_r _ [37, 38, 27, 6, 28, 61, 62, 63, 64, 65, 66, 67, 68, 69, 70, 71] rfl (by decide +kernel)
set_option maxRecDepth 20000 in
theorem gX6_of_X0_yOf : GoodIn wsX6_of (wsV RX6 114 RX0 yX0_yOf wsX0_yOf) := goodIn_app (goodIn_r _ [34, 35, 36, 24] rfl (by decide +kernel)) ggX6_of_X0_yOf
set_option maxRecDepth 20000 in
theorem ggX6_of_X0_usesOf : GoodIn wsX6_of wsX0_usesOf := goodIn_r _ [42, 43, 44, 45, 30, 31, 24, 32, 33, 27, 6, 28, 46, 35, 36, 37, 38, 47, 48, 49, 50, 51, 61, 62, 63, 64, 65, 66, 67, 68, 69, 70, 71] rfl (by decide +kernel)
set_option maxRecDepth 20000 in
theorem gX6_of_X0_usesOf : GoodIn wsX6_of (wsV RX6 120 RX0 yX0_usesOf wsX0_usesOf) := goodIn_app (goodIn_r _ [39, 40, 41, 24] rfl (by decide +kernel)) ggX6_of_X0_usesOf
set_option maxRecDepth 20000 in
theorem ggX6_told_X6_isPlace : GoodIn wsX6_told wsX6_isPlace := goodIn_r _ [9, 1, 10, 11, 31, 32, 33, 34, 35, 36, 37, 38, 39, 40, 41, 42, 43, 44, 45, 46, 47, 48, 49, 50] rfl (by decide +kernel)
set_option maxRecDepth 20000 in
theorem gX6_told_X6_isPlace : GoodIn wsX6_told (wsV RX6 123 RX6 yX6_isPlace wsX6_isPlace) := goodIn_app (goodIn_r _ [5, 6, 7, 8] rfl (by decide +kernel)) ggX6_told_X6_isPlace
set_option maxRecDepth 20000 in
theorem ggX6_told_X6_refusal : GoodIn wsX6_told wsX6_refusal := goodIn_r _ [15, 1, 10, 16, 17, 18, 8, 19, 20, 21, 22, 31, 32, 33, 34, 35, 36, 37, 38, 39, 40, 41, 42, 43, 44, 45, 46, 47, 48, 49, 50] rfl (by decide +kernel)
set_option maxRecDepth 20000 in
theorem gX6_told_X6_refusal : GoodIn wsX6_told (wsV RX6 80 RX6 yX6_refusal wsX6_refusal) := goodIn_app (goodIn_r _ [12, 13, 14, 8] rfl (by decide +kernel)) ggX6_told_X6_refusal
set_option maxRecDepth 20000 in
theorem ggX6_told_X0_outputAt : GoodIn wsX6_told wsX0_outputAt := goodIn_r _ [27, 28, 29, 8, 30, 40, 41, 42, 43, 44, 45, 46, 47, 48, 49, 50] rfl (by decide +kernel)
set_option maxRecDepth 20000 in
theorem gX6_told_X0_outputAt : GoodIn wsX6_told (wsV RX6 126 RX0 yX0_outputAt wsX0_outputAt) := goodIn_app (goodIn_r _ [23, 24, 25, 26] rfl (by decide +kernel)) ggX6_told_X0_outputAt
set_option maxRecDepth 20000 in
theorem ggX6_adder_X6_refused : GoodIn wsX6_adder wsX6_refused := goodIn_r _ [6, 7, 8, 9, 90, 91, 92, 93, 94, 95, 96, 97, 98] rfl (by decide +kernel)
set_option maxRecDepth 20000 in
theorem gX6_adder_X6_refused : GoodIn wsX6_adder (wsV RX6 43 RX6 yX6_refused wsX6_refused) := goodIn_app (goodIn_r _ [2, 3, 4, 5] rfl (by decide +kernel)) ggX6_adder_X6_refused
set_option maxRecDepth 20000 in
theorem ggX6_adder_X0_begin : GoodIn wsX6_adder wsX0_begin := goodIn_r _ [14, 15, 16, 17, 18, 99, 100, 101, 102, 103, 104, 105, 106, 107, 108, 109] rfl (by decide +kernel)
set_option maxRecDepth 20000 in
theorem gX6_adder_X0_begin : GoodIn wsX6_adder (wsV RX6 138 RX0 yX0_begin wsX0_begin) := goodIn_app (goodIn_r _ [10, 11, 12, 13] rfl (by decide +kernel)) ggX6_adder_X0_begin
set_option maxRecDepth 20000 in
theorem ggX6_adder_X0_addGate : GoodIn wsX6_adder wsX0_addGate := goodIn_r _ [22, 17, 23, 24, 25, 26, 5, 27, 28, 29, 30, 13, 31, 16, 99, 100, 101, 102, 103, 104, 105, 106, 107, 108, 109] rfl (by decide +kernel)
set_option maxRecDepth 20000 in
theorem gX6_adder_X0_addGate : GoodIn wsX6_adder (wsV RX6 142 RX0 yX0_addGate wsX0_addGate) := goodIn_app (goodIn_r _ [19, 20, 21, 13] rfl (by decide +kernel)) ggX6_adder_X0_addGate
set_option maxRecDepth 20000 in
theorem ggX6_adder_X0_addOutput : GoodIn wsX6_adder wsX0_addOutput := goodIn_r _ [35, 18, 36, 26, 5, 27, 99, 100, 101, 102, 103, 104, 105, 106, 107, 108, 109] rfl (by decide +kernel)
set_option maxRecDepth 20000 in
theorem gX6_adder_X0_addOutput : GoodIn wsX6_adder (wsV RX6 146 RX0 yX0_addOutput wsX0_addOutput) := goodIn_app (goodIn_r _ [32, 33, 34, 13] rfl (by decide +kernel)) ggX6_adder_X0_addOutput
set_option maxRecDepth 20000 in
theorem ggX6_adder_X0_end : GoodIn wsX6_adder wsX0_end := goodIn_r _ [40, 41, 42, 43, 15, 99, 100, 101, 102, 103, 104, 105, 106, 107, 108, 109] rfl (by decide +kernel)
set_option maxRecDepth 20000 in
theorem gX6_adder_X0_end : GoodIn wsX6_adder (wsV RX6 149 RX0 yX0_end wsX0_end) := goodIn_app (goodIn_r _ [37, 38, 39, 13] rfl (by decide +kernel)) ggX6_adder_X0_end
set_option maxRecDepth 20000 in
theorem ggX6_adder_X6_changed : GoodIn wsX6_adder wsX6_changed := goodIn_r _ [47, 48, 1, 49, 50, 51, 52, 53, 54, 55, 56, 57, 58, 59, 60, 61, 62, 13, 63, 23, 64, 5, 65, 66, 67, 68, 69, 70, 71, 72, 73, 74, 24, 75, 76, 77, 78, 79, 80, 81, 82, 25, 83, 84, 85, 86, 87, 88, 89, 90, 91, 92, 93, 94, 95, 96, 97, 98, 99, 100, 101, 102, 103, 104, 105, 106, 107, 108, 109, 110, 111, 112, 113, 114, 115, 116] rfl (by decide +kernel)
set_option maxRecDepth 20000 in
theorem gX6_adder_X6_changed : GoodIn wsX6_adder (wsV RX6 69 RX6 yX6_changed wsX6_changed) := goodIn_app (goodIn_r _ [44, 45, 46, 5] rfl (by decide +kernel)) ggX6_adder_X6_changed
set_option maxRecDepth 20000 in
theorem ggX6_draw_X6_refused : GoodIn wsX6_draw wsX6_refused := goodIn_r _ [13, 14, 15, 16, 100, 101, 102, 103, 104, 105, 106, 107, 108] rfl (by decide +kernel)
set_option maxRecDepth 20000 in
theorem gX6_draw_X6_refused : GoodIn wsX6_draw (wsV RX6 43 RX6 yX6_refused wsX6_refused) := goodIn_app (goodIn_r _ [9, 10, 11, 12] rfl (by decide +kernel)) ggX6_draw_X6_refused
set_option maxRecDepth 20000 in
theorem ggX6_draw_X0_begin : GoodIn wsX6_draw wsX0_begin := goodIn_r _ [21, 22, 23, 24, 25, 109, 110, 111, 112, 113, 114, 115, 116, 117, 118, 119] rfl (by decide +kernel)
set_option maxRecDepth 20000 in
theorem gX6_draw_X0_begin : GoodIn wsX6_draw (wsV RX6 138 RX0 yX0_begin wsX0_begin) := goodIn_app (goodIn_r _ [17, 18, 19, 20] rfl (by decide +kernel)) ggX6_draw_X0_begin
set_option maxRecDepth 20000 in
theorem ggX6_draw_X6_leftOver : GoodIn wsX6_draw wsX6_leftOver := goodIn_r _ [28] rfl (by decide +kernel)
set_option maxRecDepth 20000 in
theorem gX6_draw_X6_leftOver : GoodIn wsX6_draw (va_wsS RX6 162 yX6_leftOver wsX6_leftOver) := goodIn_app (goodIn_of _ (by decide +kernel)) ggX6_draw_X6_leftOver
set_option maxRecDepth 20000 in
theorem ggX6_draw_X0_addGate : GoodIn wsX6_draw wsX0_addGate := goodIn_r _ [32, 24, 33, 34, 35, 36, 12, 37, 38, 39, 40, 20, 41, 23, 109, 110, 111, 112, 113, 114, 115, 116, 117, 118, 119] rfl (by decide +kernel)
set_option maxRecDepth 20000 in
theorem gX6_draw_X0_addGate : GoodIn wsX6_draw (wsV RX6 142 RX0 yX0_addGate wsX0_addGate) := goodIn_app (goodIn_r _ [29, 30, 31, 20] rfl (by decide +kernel)) ggX6_draw_X0_addGate
set_option maxRecDepth 20000 in
theorem ggX6_draw_X0_addOutput : GoodIn wsX6_draw wsX0_addOutput := goodIn_r _ [45, 25, 46, 36, 12, 37, 109, 110, 111, 112, 113, 114, 115, 116, 117, 118, 119] rfl (by decide +kernel)
set_option maxRecDepth 20000 in
theorem gX6_draw_X0_addOutput : GoodIn wsX6_draw (wsV RX6 146 RX0 yX0_addOutput wsX0_addOutput) := goodIn_app (goodIn_r _ [42, 43, 44, 20] rfl (by decide +kernel)) ggX6_draw_X0_addOutput
set_option maxRecDepth 20000 in
theorem ggX6_draw_X0_end : GoodIn wsX6_draw wsX0_end := goodIn_r _ [50, 51, 52, 53, 22, 109, 110, 111, 112, 113, 114, 115, 116, 117, 118, 119] rfl (by decide +kernel)
set_option maxRecDepth 20000 in
theorem gX6_draw_X0_end : GoodIn wsX6_draw (wsV RX6 149 RX0 yX0_end wsX0_end) := goodIn_app (goodIn_r _ [47, 48, 49, 20] rfl (by decide +kernel)) ggX6_draw_X0_end
set_option maxRecDepth 20000 in
theorem ggX6_draw_X6_changed : GoodIn wsX6_draw wsX6_changed := goodIn_r _ [57, 58, 2, 59, 60, 61, 62, 63, 64, 65, 66, 67, 68, 69, 70, 71, 72, 20, 73, 33, 74, 12, 75, 76, 77, 78, 79, 80, 81, 82, 83, 84, 34, 85, 86, 87, 88, 89, 90, 91, 92, 35, 93, 94, 95, 96, 97, 98, 99, 100, 101, 102, 103, 104, 105, 106, 107, 108, 109, 110, 111, 112, 113, 114, 115, 116, 117, 118, 119, 120, 121, 122, 123, 124, 125, 126] rfl (by decide +kernel)
set_option maxRecDepth 20000 in
theorem gX6_draw_X6_changed : GoodIn wsX6_draw (wsV RX6 69 RX6 yX6_changed wsX6_changed) := goodIn_app (goodIn_r _ [54, 55, 56, 12] rfl (by decide +kernel)) ggX6_draw_X6_changed
set_option maxRecDepth 20000 in
theorem ggX6_runs_X6_isInputs : GoodIn wsX6_runs wsX6_isInputs := goodIn_r _ [7, 2, 8, 9, 51, 52, 53, 54, 55, 56, 57, 58, 59, 60, 61, 62, 63, 64, 65, 66, 67, 68, 69, 70] rfl (by decide +kernel)
set_option maxRecDepth 20000 in
theorem gX6_runs_X6_isInputs : GoodIn wsX6_runs (wsV RX6 170 RX6 yX6_isInputs wsX6_isInputs) := goodIn_app (goodIn_r _ [3, 4, 5, 6] rfl (by decide +kernel)) ggX6_runs_X6_isInputs
set_option maxRecDepth 20000 in
theorem ggX6_runs_X6_refusal : GoodIn wsX6_runs wsX6_refusal := goodIn_r _ [13, 2, 8, 14, 15, 16, 6, 17, 18, 19, 20, 51, 52, 53, 54, 55, 56, 57, 58, 59, 60, 61, 62, 63, 64, 65, 66, 67, 68, 69, 70] rfl (by decide +kernel)
set_option maxRecDepth 20000 in
theorem gX6_runs_X6_refusal : GoodIn wsX6_runs (wsV RX6 80 RX6 yX6_refusal wsX6_refusal) := goodIn_app (goodIn_r _ [10, 11, 12, 6] rfl (by decide +kernel)) ggX6_runs_X6_refusal
set_option maxRecDepth 20000 in
theorem ggX6_runs_X1_outputsFor : GoodIn wsX6_runs wsX1_outputsFor := goodIn_r _ [25, 26, 27, 28, 29, 30, 31, 32, 33, 6, 34, 35, 36, 37, 24, 38, 39, 40, 41, 42, 43, 60, 61, 62, 63, 64, 65, 66, 67, 68, 69, 70, 71] rfl (by decide +kernel)
set_option maxRecDepth 20000 in
theorem gX6_runs_X1_outputsFor : GoodIn wsX6_runs (wsV RX6 173 RX1 yX1_outputsFor wsX1_outputsFor) := goodIn_app (goodIn_r _ [21, 22, 23, 24] rfl (by decide +kernel)) ggX6_runs_X1_outputsFor
set_option maxRecDepth 20000 in
theorem ggX6_runs_X0_taskFor : GoodIn wsX6_runs wsX0_taskFor := goodIn_r _ [47, 48, 49, 50, 60, 61, 62, 63, 64, 65, 66, 67, 68, 69, 70] rfl (by decide +kernel)
set_option maxRecDepth 20000 in
theorem gX6_runs_X0_taskFor : GoodIn wsX6_runs (wsV RX6 177 RX0 yX0_taskFor wsX0_taskFor) := goodIn_app (goodIn_r _ [44, 45, 46, 30] rfl (by decide +kernel)) ggX6_runs_X0_taskFor
set_option maxRecDepth 20000 in
theorem ggX6_signal_X6_isSignal : GoodIn wsX6_signal wsX6_isSignal := goodIn_r _ [6, 7, 8, 9, 10, 11, 12, 13, 14, 15, 42, 43, 44, 45, 46, 47, 48, 49, 50, 51, 52, 53, 54, 55, 56, 57, 58, 59, 60, 61] rfl (by decide +kernel)
set_option maxRecDepth 20000 in
theorem gX6_signal_X6_isSignal : GoodIn wsX6_signal (wsV RX6 180 RX6 yX6_isSignal wsX6_isSignal) := goodIn_app (goodIn_r _ [2, 3, 4, 5] rfl (by decide +kernel)) ggX6_signal_X6_isSignal
set_option maxRecDepth 20000 in
theorem ggX6_signal_X6_isInputs : GoodIn wsX6_signal wsX6_isInputs := goodIn_r _ [19, 7, 8, 20, 42, 43, 44, 45, 46, 47, 48, 49, 50, 51, 52, 53, 54, 55, 56, 57, 58, 59, 60, 61] rfl (by decide +kernel)
set_option maxRecDepth 20000 in
theorem gX6_signal_X6_isInputs : GoodIn wsX6_signal (wsV RX6 170 RX6 yX6_isInputs wsX6_isInputs) := goodIn_app (goodIn_r _ [16, 17, 18, 5] rfl (by decide +kernel)) ggX6_signal_X6_isInputs
set_option maxRecDepth 20000 in
theorem ggX6_signal_X6_refusal : GoodIn wsX6_signal wsX6_refusal := goodIn_r _ [24, 7, 8, 25, 26, 27, 5, 28, 29, 30, 31, 42, 43, 44, 45, 46, 47, 48, 49, 50, 51, 52, 53, 54, 55, 56, 57, 58, 59, 60, 61] rfl (by decide +kernel)
set_option maxRecDepth 20000 in
theorem gX6_signal_X6_refusal : GoodIn wsX6_signal (wsV RX6 80 RX6 yX6_refusal wsX6_refusal) := goodIn_app (goodIn_r _ [21, 22, 23, 5] rfl (by decide +kernel)) ggX6_signal_X6_refusal
set_option maxRecDepth 20000 in
theorem ggX6_signal_X1_bit : GoodIn wsX6_signal wsX1_bit := goodIn_r _ [36, 37, 38, 39, 35, 40, 41, 62] rfl (by decide +kernel)
set_option maxRecDepth 20000 in
theorem gX6_signal_X1_bit : GoodIn wsX6_signal (wsV RX6 183 RX1 yX1_bit wsX1_bit) := goodIn_app (goodIn_r _ [32, 33, 34, 35] rfl (by decide +kernel)) ggX6_signal_X1_bit
set_option maxRecDepth 20000 in
theorem ggX6_wrong_X6_refusal : GoodIn wsX6_wrong wsX6_refusal := goodIn_r _ [7, 2, 8, 9, 10, 11, 6, 12, 13, 14, 15, 59, 60, 61, 62, 63, 64, 65, 66, 67, 68, 69, 70, 71, 72, 73, 74, 75, 76, 77, 78] rfl (by decide +kernel)
set_option maxRecDepth 20000 in
theorem gX6_wrong_X6_refusal : GoodIn wsX6_wrong (wsV RX6 80 RX6 yX6_refusal wsX6_refusal) := goodIn_app (goodIn_r _ [3, 4, 5, 6] rfl (by decide +kernel)) ggX6_wrong_X6_refusal
set_option maxRecDepth 20000 in
theorem ggX6_wrong_X1_firstWrong : GoodIn wsX6_wrong wsX1_firstWrong := goodIn_r _ [20, 21, 22, 23, 24, 19, 25, 26, 27, 28, 29, 30, 31, 32, 33, 34, 35, 36, 37, 6, 38, 39, 40, 41, 42, 43, 44, 45, 46, 47, 48, 49, 50, 51, 52, 53, 54, 68, 69, 70, 71, 72, 73, 74, 75, 76, 77, 78, 79] rfl (by decide +kernel)
set_option maxRecDepth 20000 in
theorem gX6_wrong_X1_firstWrong : GoodIn wsX6_wrong (wsV RX6 187 RX1 yX1_firstWrong wsX1_firstWrong) := goodIn_app (goodIn_r _ [16, 17, 18, 19] rfl (by decide +kernel)) ggX6_wrong_X1_firstWrong
set_option maxRecDepth 20000 in
theorem ggX6_wrong_X1_countWrong : GoodIn wsX6_wrong wsX1_countWrong := goodIn_r _ [58, 21, 22, 23, 24, 19, 25, 26, 27, 28, 29, 30, 31, 32, 33, 34, 35, 36, 37, 6, 38, 39, 40, 41, 42, 43, 44, 45, 46, 47, 48, 49, 50, 51, 52, 53, 54, 68, 69, 70, 71, 72, 73, 74, 75, 76, 77, 78, 79] rfl (by decide +kernel)
set_option maxRecDepth 20000 in
theorem gX6_wrong_X1_countWrong : GoodIn wsX6_wrong (wsV RX6 190 RX1 yX1_countWrong wsX1_countWrong) := goodIn_app (goodIn_r _ [55, 56, 57, 19] rfl (by decide +kernel)) ggX6_wrong_X1_countWrong
set_option maxRecDepth 20000 in
theorem ggX6_cures_X6_isGate : GoodIn wsX6_cures wsX6_isGate := goodIn_r _ [7, 1, 8, 9, 92, 93, 94, 95, 96, 97, 98, 99, 100, 101, 102, 103, 104, 105, 106, 107, 108, 109, 110, 111] rfl (by decide +kernel)
set_option maxRecDepth 20000 in
theorem gX6_cures_X6_isGate : GoodIn wsX6_cures (wsV RX6 73 RX6 yX6_isGate wsX6_isGate) := goodIn_app (goodIn_r _ [3, 4, 5, 6] rfl (by decide +kernel)) ggX6_cures_X6_isGate
set_option maxRecDepth 20000 in
theorem ggX6_cures_X6_refusal : GoodIn wsX6_cures wsX6_refusal := goodIn_r _ [13, 1, 8, 14, 15, 16, 6, 17, 18, 19, 20, 92, 93, 94, 95, 96, 97, 98, 99, 100, 101, 102, 103, 104, 105, 106, 107, 108, 109, 110, 111] rfl (by decide +kernel)
set_option maxRecDepth 20000 in
theorem gX6_cures_X6_refusal : GoodIn wsX6_cures (wsV RX6 80 RX6 yX6_refusal wsX6_refusal) := goodIn_app (goodIn_r _ [10, 11, 12, 6] rfl (by decide +kernel)) ggX6_cures_X6_refusal
set_option maxRecDepth 20000 in
theorem ggX6_cures_X0_mayPut : GoodIn wsX6_cures wsX0_mayPut := goodIn_r _ [25, 26, 27, 28, 29, 24, 30, 31, 32, 6, 33, 101, 102, 103, 104, 105, 106, 107, 108, 109, 110, 111] rfl (by decide +kernel)
set_option maxRecDepth 20000 in
theorem gX6_cures_X0_mayPut : GoodIn wsX6_cures (wsV RX6 76 RX0 yX0_mayPut wsX0_mayPut) := goodIn_app (goodIn_r _ [21, 22, 23, 24] rfl (by decide +kernel)) ggX6_cures_X0_mayPut
set_option maxRecDepth 20000 in
theorem ggX6_cures_X1_fill : GoodIn wsX6_cures wsX1_fill := goodIn_r _ [38, 39, 40, 41, 42, 43, 28, 29, 24, 30, 31, 32, 6, 33, 44, 45, 46, 37, 47, 48, 49, 50, 51, 52, 53, 54, 55, 56, 57, 58, 59, 60, 61, 62, 101, 102, 103, 104, 105, 106, 107, 108, 109, 110, 111, 112] rfl (by decide +kernel)
set_option maxRecDepth 20000 in
theorem gX6_cures_X1_fill : GoodIn wsX6_cures (wsV RX6 193 RX1 yX1_fill wsX1_fill) := goodIn_app (goodIn_r _ [34, 35, 36, 37] rfl (by decide +kernel)) ggX6_cures_X1_fill
set_option maxRecDepth 20000 in
theorem ggX6_cures_X1_firstWrong : GoodIn wsX6_cures wsX1_firstWrong := goodIn_r _ [66, 39, 67, 68, 69, 37, 70, 71, 72, 73, 74, 75, 76, 77, 78, 24, 79, 80, 32, 6, 33, 81, 82, 83, 84, 54, 55, 56, 57, 41, 85, 86, 87, 88, 89, 90, 91, 101, 102, 103, 104, 105, 106, 107, 108, 109, 110, 111, 112] rfl (by decide +kernel)
set_option maxRecDepth 20000 in
theorem gX6_cures_X1_firstWrong : GoodIn wsX6_cures (wsV RX6 187 RX1 yX1_firstWrong wsX1_firstWrong) := goodIn_app (goodIn_r _ [63, 64, 65, 37] rfl (by decide +kernel)) ggX6_cures_X1_firstWrong
set_option maxRecDepth 20000 in
theorem ggX6_right_X6_stageRefusal : GoodIn wsX6_right wsX6_stageRefusal := goodIn_r _ [8, 3, 1, 9, 10, 11, 7, 12, 13, 14, 15, 16, 17, 18, 19, 20, 21, 22, 23, 24, 25, 26, 27, 28, 29, 30, 31, 32, 33, 34, 35, 36, 37, 38, 39, 40, 41, 42, 43, 44, 45, 46, 47, 48, 49, 50, 51, 52, 53, 54, 55, 56, 57, 58, 59, 60, 61, 62, 63, 64, 65, 66, 67, 68, 69, 70, 71, 72, 73, 74, 75, 76, 77, 78, 79, 80, 81, 82, 83, 84, 85, 86, 87, 88, 89, 90, 91, 92, 93, 94, 95, 96, 97, 98, 99, 100, 101, 102, 103, 104, 105, 106, 107, 108, 109, 110, 111, 112, 113, 114, 115, 116, 117, 118, 119, 120, 121, 122, 123, 124, 125, 127, 128, 129, 130, 131, 132, 133, 134, 135, 136, 137, 138, 139, 140, 141, 142, 143, 144, 145, 146, 147, 148, 149, 150, 151, 152, 153, 154, 155] rfl (by decide +kernel)
set_option maxRecDepth 20000 in
theorem gX6_right_X6_stageRefusal : GoodIn wsX6_right (wsV RX6 200 RX6 yX6_stageRefusal wsX6_stageRefusal) := goodIn_app (goodIn_r _ [4, 5, 6, 7] rfl (by decide +kernel)) ggX6_right_X6_stageRefusal
set_option maxRecDepth 20000 in
theorem ggX6_right_X4_sizeOf : GoodIn wsX6_right wsX4_sizeOf := goodIn_r _ [109, 26, 27, 43, 7, 44, 147, 148, 149, 150, 151, 152] rfl (by decide +kernel)
set_option maxRecDepth 20000 in
theorem gX6_right_X4_sizeOf : GoodIn wsX6_right (wsV RX6 204 RX4 yX4_sizeOf wsX4_sizeOf) := goodIn_app (goodIn_r _ [126, 107, 108, 24] rfl (by decide +kernel)) ggX6_right_X4_sizeOf
set_option maxRecDepth 20000 in
theorem ggX6_terms_X6_isStage : GoodIn wsX6_terms wsX6_isStage := goodIn_r _ [6, 7, 8, 9, 131, 132, 133, 134, 135, 136, 137, 138, 139, 140, 141, 142, 143, 144, 145, 146, 147, 148, 149, 150] rfl (by decide +kernel)
set_option maxRecDepth 20000 in
theorem gX6_terms_X6_isStage : GoodIn wsX6_terms (wsV RX6 207 RX6 yX6_isStage wsX6_isStage) := goodIn_app (goodIn_r _ [2, 3, 4, 5] rfl (by decide +kernel)) ggX6_terms_X6_isStage
set_option maxRecDepth 20000 in
theorem ggX6_terms_X6_stageRefusal : GoodIn wsX6_terms wsX6_stageRefusal := goodIn_r _ [13, 1, 7, 14, 15, 16, 5, 17, 8, 18, 19, 20, 21, 22, 23, 24, 25, 26, 27, 28, 29, 30, 31, 32, 33, 34, 35, 36, 37, 38, 39, 40, 41, 42, 43, 44, 45, 46, 47, 48, 49, 50, 51, 52, 53, 54, 55, 56, 57, 58, 59, 60, 61, 62, 63, 64, 65, 66, 67, 68, 69, 70, 71, 72, 73, 74, 75, 76, 77, 78, 79, 80, 81, 82, 83, 84, 85, 86, 87, 88, 89, 90, 91, 92, 93, 94, 95, 96, 97, 98, 99, 100, 101, 102, 103, 104, 105, 106, 107, 108, 109, 110, 111, 112, 113, 114, 115, 116, 117, 118, 119, 120, 121, 122, 123, 124, 125, 126, 127, 128, 129, 131, 132, 133, 134, 135, 136, 137, 138, 139, 140, 141, 142, 143, 144, 145, 146, 147, 148, 149, 150, 151, 152, 153, 154, 155, 156, 157, 158, 159] rfl (by decide +kernel)
set_option maxRecDepth 20000 in
theorem gX6_terms_X6_stageRefusal : GoodIn wsX6_terms (wsV RX6 200 RX6 yX6_stageRefusal wsX6_stageRefusal) := goodIn_app (goodIn_r _ [10, 11, 12, 5] rfl (by decide +kernel)) ggX6_terms_X6_stageRefusal
set_option maxRecDepth 20000 in
theorem ggX6_terms_X4_sizeOf : GoodIn wsX6_terms wsX4_sizeOf := goodIn_r _ [113, 30, 31, 47, 5, 48, 151, 152, 153, 154, 155, 156] rfl (by decide +kernel)
set_option maxRecDepth 20000 in
theorem gX6_terms_X4_sizeOf : GoodIn wsX6_terms (wsV RX6 204 RX4 yX4_sizeOf wsX4_sizeOf) := goodIn_app (goodIn_r _ [130, 111, 112, 28] rfl (by decide +kernel)) ggX6_terms_X4_sizeOf
set_option maxRecDepth 20000 in
theorem ggX6_term_X6_isStage : GoodIn wsX6_term wsX6_isStage := goodIn_r _ [6, 7, 8, 9, 133, 134, 135, 136, 137, 138, 139, 140, 141, 142, 143, 144, 145, 146, 147, 148, 149, 150, 151, 152] rfl (by decide +kernel)
set_option maxRecDepth 20000 in
theorem gX6_term_X6_isStage : GoodIn wsX6_term (wsV RX6 207 RX6 yX6_isStage wsX6_isStage) := goodIn_app (goodIn_r _ [2, 3, 4, 5] rfl (by decide +kernel)) ggX6_term_X6_isStage
set_option maxRecDepth 20000 in
theorem ggX6_term_X6_stageRefusal : GoodIn wsX6_term wsX6_stageRefusal := goodIn_r _ [13, 1, 7, 14, 15, 16, 5, 17, 8, 18, 19, 20, 21, 22, 23, 24, 25, 26, 27, 28, 29, 30, 31, 32, 33, 34, 35, 36, 37, 38, 39, 40, 41, 42, 43, 44, 45, 46, 47, 48, 49, 50, 51, 52, 53, 54, 55, 56, 57, 58, 59, 60, 61, 62, 63, 64, 65, 66, 67, 68, 69, 70, 71, 72, 73, 74, 75, 76, 77, 78, 79, 80, 81, 82, 83, 84, 85, 86, 87, 88, 89, 90, 91, 92, 93, 94, 95, 96, 97, 98, 99, 100, 101, 102, 103, 104, 105, 106, 107, 108, 109, 110, 111, 112, 113, 114, 115, 116, 117, 118, 119, 120, 121, 122, 123, 124, 125, 126, 127, 128, 129, 133, 134, 135, 136, 137, 138, 139, 140, 141, 142, 143, 144, 145, 146, 147, 148, 149, 150, 151, 152, 153, 154, 155, 156, 157, 158, 159, 160, 161] rfl (by decide +kernel)
set_option maxRecDepth 20000 in
theorem gX6_term_X6_stageRefusal : GoodIn wsX6_term (wsV RX6 200 RX6 yX6_stageRefusal wsX6_stageRefusal) := goodIn_app (goodIn_r _ [10, 11, 12, 5] rfl (by decide +kernel)) ggX6_term_X6_stageRefusal
set_option maxRecDepth 20000 in
theorem ggX6_term_X4_sizeOf : GoodIn wsX6_term wsX4_sizeOf := goodIn_r _ [113, 30, 31, 47, 5, 48, 153, 154, 155, 156, 157, 158] rfl (by decide +kernel)
set_option maxRecDepth 20000 in
theorem gX6_term_X4_sizeOf : GoodIn wsX6_term (wsV RX6 204 RX4 yX4_sizeOf wsX4_sizeOf) := goodIn_app (goodIn_r _ [130, 111, 112, 28] rfl (by decide +kernel)) ggX6_term_X4_sizeOf
set_option maxRecDepth 20000 in
theorem ggX6_term_X4_coefficientAt : GoodIn wsX6_term wsX4_coefficientAt := goodIn_r _ [122, 123, 47, 5, 48, 153, 154, 155, 156, 157, 158] rfl (by decide +kernel)
set_option maxRecDepth 20000 in
theorem gX6_term_X4_coefficientAt : GoodIn wsX6_term (wsV RX6 210 RX4 yX4_coefficientAt wsX4_coefficientAt) := goodIn_app (goodIn_r _ [131, 120, 121, 28] rfl (by decide +kernel)) ggX6_term_X4_coefficientAt
set_option maxRecDepth 20000 in
theorem ggX6_term_X4_setAt : GoodIn wsX6_term wsX4_setAt := goodIn_r _ [117, 118, 47, 5, 48, 153, 154, 155, 156, 157, 158] rfl (by decide +kernel)
set_option maxRecDepth 20000 in
theorem gX6_term_X4_setAt : GoodIn wsX6_term (wsV RX6 213 RX4 yX4_setAt wsX4_setAt) := goodIn_app (goodIn_r _ [132, 115, 116, 28] rfl (by decide +kernel)) ggX6_term_X4_setAt
set_option maxRecDepth 20000 in
theorem ggX6_most_X6_stageRefusal : GoodIn wsX6_most wsX6_stageRefusal := goodIn_r _ [8, 3, 1, 9, 10, 11, 7, 12, 13, 14, 15, 16, 17, 18, 19, 20, 21, 22, 23, 24, 25, 26, 27, 28, 29, 30, 31, 32, 33, 34, 35, 36, 37, 38, 39, 40, 41, 42, 43, 44, 45, 46, 47, 48, 49, 50, 51, 52, 53, 54, 55, 56, 57, 58, 59, 60, 61, 62, 63, 64, 65, 66, 67, 68, 69, 70, 71, 72, 73, 74, 75, 76, 77, 78, 79, 80, 81, 82, 83, 84, 85, 86, 87, 88, 89, 90, 91, 92, 93, 94, 95, 96, 97, 98, 99, 100, 101, 102, 103, 104, 105, 106, 107, 108, 109, 110, 111, 112, 113, 114, 115, 116, 117, 118, 119, 120, 121, 122, 123, 124, 125, 149, 150, 151, 152, 153, 154, 155, 156, 157, 158, 159, 160, 161, 162, 163, 164, 165, 166, 167, 168, 169, 170, 171, 172, 173, 174, 175, 176, 177] rfl (by decide +kernel)
set_option maxRecDepth 20000 in
theorem gX6_most_X6_stageRefusal : GoodIn wsX6_most (wsV RX6 200 RX6 yX6_stageRefusal wsX6_stageRefusal) := goodIn_app (goodIn_r _ [4, 5, 6, 7] rfl (by decide +kernel)) ggX6_most_X6_stageRefusal
set_option maxRecDepth 20000 in
theorem ggX6_most_X4_greatestSize : GoodIn wsX6_most wsX4_greatestSize := goodIn_r _ [129, 27, 130, 131, 132, 133, 106, 107, 108, 24, 109, 26, 43, 7, 44, 169, 170, 171, 172, 173, 174] rfl (by decide +kernel)
set_option maxRecDepth 20000 in
theorem gX6_most_X4_greatestSize : GoodIn wsX6_most (wsV RX6 216 RX4 yX4_greatestSize wsX4_greatestSize) := goodIn_app (goodIn_r _ [126, 127, 128, 24] rfl (by decide +kernel)) ggX6_most_X4_greatestSize
set_option maxRecDepth 20000 in
theorem ggX6_most_X4_widestOf : GoodIn wsX6_most wsX4_widestOf := goodIn_r _ [137, 130, 131, 132, 133, 106, 107, 108, 24, 109, 26, 27, 43, 7, 44, 110, 111, 112, 113, 114, 138, 139, 140, 141, 142, 143, 144, 169, 170, 171, 172, 173, 174] rfl (by decide +kernel)
set_option maxRecDepth 20000 in
theorem gX6_most_X4_widestOf : GoodIn wsX6_most (wsV RX6 219 RX4 yX4_widestOf wsX4_widestOf) := goodIn_app (goodIn_r _ [134, 135, 136, 24] rfl (by decide +kernel)) ggX6_most_X4_widestOf
set_option maxRecDepth 20000 in
theorem ggX6_most_X4_sumWhere : GoodIn wsX6_most wsX4_sumWhere := goodIn_r _ [148, 106, 107, 108, 24, 109, 26, 27, 43, 7, 44, 110, 111, 112, 113, 114, 115, 116, 117, 118, 119, 169, 170, 171, 172, 173, 174] rfl (by decide +kernel)
set_option maxRecDepth 20000 in
theorem gX6_most_X4_sumWhere : GoodIn wsX6_most (wsV RX6 222 RX4 yX4_sumWhere wsX4_sumWhere) := goodIn_app (goodIn_r _ [145, 146, 147, 24] rfl (by decide +kernel)) ggX6_most_X4_sumWhere
set_option maxRecDepth 20000 in
theorem ggX6_dearest_X6_isStage : GoodIn wsX6_dearest wsX6_isStage := goodIn_r _ [6, 7, 8, 9, 142, 143, 144, 145, 146, 147, 148, 149, 150, 151, 152, 153, 154, 155, 156, 157, 158, 159, 160, 161] rfl (by decide +kernel)
set_option maxRecDepth 20000 in
theorem gX6_dearest_X6_isStage : GoodIn wsX6_dearest (wsV RX6 207 RX6 yX6_isStage wsX6_isStage) := goodIn_app (goodIn_r _ [2, 3, 4, 5] rfl (by decide +kernel)) ggX6_dearest_X6_isStage
set_option maxRecDepth 20000 in
theorem ggX6_dearest_X6_stageRefusal : GoodIn wsX6_dearest wsX6_stageRefusal := goodIn_r _ [13, 1, 7, 14, 15, 16, 5, 17, 8, 18, 19, 20, 21, 22, 23, 24, 25, 26, 27, 28, 29, 30, 31, 32, 33, 34, 35, 36, 37, 38, 39, 40, 41, 42, 43, 44, 45, 46, 47, 48, 49, 50, 51, 52, 53, 54, 55, 56, 57, 58, 59, 60, 61, 62, 63, 64, 65, 66, 67, 68, 69, 70, 71, 72, 73, 74, 75, 76, 77, 78, 79, 80, 81, 82, 83, 84, 85, 86, 87, 88, 89, 90, 91, 92, 93, 94, 95, 96, 97, 98, 99, 100, 101, 102, 103, 104, 105, 106, 107, 108, 109, 110, 111, 112, 113, 114, 115, 116, 117, 118, 119, 120, 121, 122, 123, 124, 125, 126, 127, 128, 129, 142, 143, 144, 145, 146, 147, 148, 149, 150, 151, 152, 153, 154, 155, 156, 157, 158, 159, 160, 161, 162, 163, 164, 165, 166, 167, 168, 169, 170] rfl (by decide +kernel)
set_option maxRecDepth 20000 in
theorem gX6_dearest_X6_stageRefusal : GoodIn wsX6_dearest (wsV RX6 200 RX6 yX6_stageRefusal wsX6_stageRefusal) := goodIn_app (goodIn_r _ [10, 11, 12, 5] rfl (by decide +kernel)) ggX6_dearest_X6_stageRefusal
set_option maxRecDepth 20000 in
theorem ggX6_dearest_X4_dearestOf : GoodIn wsX6_dearest wsX4_dearestOf := goodIn_r _ [133, 110, 111, 112, 28, 113, 30, 31, 47, 5, 48, 134, 135, 136, 137, 138, 139, 140, 141, 119, 120, 121, 122, 123, 114, 115, 116, 117, 118, 162, 163, 164, 165, 166, 167] rfl (by decide +kernel)
set_option maxRecDepth 20000 in
theorem gX6_dearest_X4_dearestOf : GoodIn wsX6_dearest (wsV RX6 225 RX4 yX4_dearestOf wsX4_dearestOf) := goodIn_app (goodIn_r _ [130, 131, 132, 28] rfl (by decide +kernel)) ggX6_dearest_X4_dearestOf
set_option maxRecDepth 20000 in
theorem ggX6_value_X6_isStage : GoodIn wsX6_value wsX6_isStage := goodIn_r _ [8, 3, 9, 10, 160, 161, 162, 163, 164, 165, 166, 167, 168, 169, 170, 171, 172, 173, 174, 175, 176, 177, 178, 179] rfl (by decide +kernel)
set_option maxRecDepth 20000 in
theorem gX6_value_X6_isStage : GoodIn wsX6_value (wsV RX6 207 RX6 yX6_isStage wsX6_isStage) := goodIn_app (goodIn_r _ [4, 5, 6, 7] rfl (by decide +kernel)) ggX6_value_X6_isStage
set_option maxRecDepth 20000 in
theorem ggX6_value_X6_isInputs : GoodIn wsX6_value wsX6_isInputs := goodIn_r _ [14, 3, 9, 15, 160, 161, 162, 163, 164, 165, 166, 167, 168, 169, 170, 171, 172, 173, 174, 175, 176, 177, 178, 179] rfl (by decide +kernel)
set_option maxRecDepth 20000 in
theorem gX6_value_X6_isInputs : GoodIn wsX6_value (wsV RX6 170 RX6 yX6_isInputs wsX6_isInputs) := goodIn_app (goodIn_r _ [11, 12, 13, 7] rfl (by decide +kernel)) ggX6_value_X6_isInputs
set_option maxRecDepth 20000 in
theorem ggX6_value_X6_stageRefusal : GoodIn wsX6_value wsX6_stageRefusal := goodIn_r _ [19, 1, 3, 20, 21, 22, 7, 23, 9, 24, 25, 26, 27, 28, 29, 30, 31, 32, 33, 34, 35, 36, 37, 38, 39, 40, 41, 42, 43, 44, 45, 46, 47, 48, 49, 50, 51, 52, 53, 54, 55, 56, 57, 58, 59, 60, 61, 62, 63, 64, 65, 66, 67, 68, 69, 70, 71, 72, 73, 74, 75, 76, 77, 78, 79, 80, 81, 82, 83, 84, 85, 86, 87, 88, 89, 90, 91, 92, 93, 94, 95, 96, 97, 98, 99, 100, 101, 102, 103, 104, 105, 106, 107, 108, 109, 110, 111, 112, 113, 114, 115, 116, 117, 118, 119, 120, 121, 122, 123, 124, 125, 126, 127, 128, 129, 130, 131, 132, 133, 134, 135, 160, 161, 162, 163, 164, 165, 166, 167, 168, 169, 170, 171, 172, 173, 174, 175, 176, 177, 178, 179, 180, 181, 182, 183, 184, 185, 186, 187, 188] rfl (by decide +kernel)
set_option maxRecDepth 20000 in
theorem gX6_value_X6_stageRefusal : GoodIn wsX6_value (wsV RX6 200 RX6 yX6_stageRefusal wsX6_stageRefusal) := goodIn_app (goodIn_r _ [16, 17, 18, 7] rfl (by decide +kernel)) ggX6_value_X6_stageRefusal
set_option maxRecDepth 20000 in
theorem ggX6_value_X1_trueSignals : GoodIn wsX6_value wsX1_trueSignals := goodIn_r _ [140, 141, 142, 143, 50, 144, 145, 146, 147, 148, 149, 139, 150, 151, 152, 153, 154, 155, 169, 170, 171, 172, 173, 174, 175, 176, 177, 178, 179, 189] rfl (by decide +kernel)
set_option maxRecDepth 20000 in
theorem gX6_value_X1_trueSignals : GoodIn wsX6_value (wsV RX6 228 RX1 yX1_trueSignals wsX1_trueSignals) := goodIn_app (goodIn_r _ [136, 137, 138, 139] rfl (by decide +kernel)) ggX6_value_X1_trueSignals
set_option maxRecDepth 20000 in
theorem ggX6_value_X4_sumWhere : GoodIn wsX6_value wsX4_sumWhere := goodIn_r _ [159, 116, 117, 118, 34, 119, 36, 37, 53, 7, 54, 120, 121, 122, 123, 124, 125, 126, 127, 128, 129, 180, 181, 182, 183, 184, 185] rfl (by decide +kernel)
set_option maxRecDepth 20000 in
theorem gX6_value_X4_sumWhere : GoodIn wsX6_value (wsV RX6 222 RX4 yX4_sumWhere wsX4_sumWhere) := goodIn_app (goodIn_r _ [156, 157, 158, 34] rfl (by decide +kernel)) ggX6_value_X4_sumWhere
set_option maxRecDepth 20000 in
theorem ggX6_stands_X6_isStage : GoodIn wsX6_stands wsX6_isStage := goodIn_r _ [6, 7, 8, 9, 134, 135, 136, 137, 138, 139, 140, 141, 142, 143, 144, 145, 146, 147, 148, 149, 150, 151, 152, 153] rfl (by decide +kernel)
set_option maxRecDepth 20000 in
theorem gX6_stands_X6_isStage : GoodIn wsX6_stands (wsV RX6 207 RX6 yX6_isStage wsX6_isStage) := goodIn_app (goodIn_r _ [2, 3, 4, 5] rfl (by decide +kernel)) ggX6_stands_X6_isStage
set_option maxRecDepth 20000 in
theorem ggX6_stands_X6_stageRefusal : GoodIn wsX6_stands wsX6_stageRefusal := goodIn_r _ [13, 1, 7, 14, 15, 16, 5, 17, 8, 18, 19, 20, 21, 22, 23, 24, 25, 26, 27, 28, 29, 30, 31, 32, 33, 34, 35, 36, 37, 38, 39, 40, 41, 42, 43, 44, 45, 46, 47, 48, 49, 50, 51, 52, 53, 54, 55, 56, 57, 58, 59, 60, 61, 62, 63, 64, 65, 66, 67, 68, 69, 70, 71, 72, 73, 74, 75, 76, 77, 78, 79, 80, 81, 82, 83, 84, 85, 86, 87, 88, 89, 90, 91, 92, 93, 94, 95, 96, 97, 98, 99, 100, 101, 102, 103, 104, 105, 106, 107, 108, 109, 110, 111, 112, 113, 114, 115, 116, 117, 118, 119, 120, 121, 122, 123, 124, 125, 126, 127, 128, 129, 134, 135, 136, 137, 138, 139, 140, 141, 142, 143, 144, 145, 146, 147, 148, 149, 150, 151, 152, 153, 154, 155, 156, 157, 158, 159, 160, 161, 162] rfl (by decide +kernel)
set_option maxRecDepth 20000 in
theorem gX6_stands_X6_stageRefusal : GoodIn wsX6_stands (wsV RX6 200 RX6 yX6_stageRefusal wsX6_stageRefusal) := goodIn_app (goodIn_r _ [10, 11, 12, 5] rfl (by decide +kernel)) ggX6_stands_X6_stageRefusal
set_option maxRecDepth 20000 in
theorem ggX6_stands_X4_unionOf : GoodIn wsX6_stands wsX4_unionOf := goodIn_r _ [133, 110, 111, 112, 28, 113, 30, 31, 47, 5, 48, 114, 115, 116, 117, 118, 154, 155, 156, 157, 158, 159] rfl (by decide +kernel)
set_option maxRecDepth 20000 in
theorem gX6_stands_X4_unionOf : GoodIn wsX6_stands (wsV RX6 231 RX4 yX4_unionOf wsX4_unionOf) := goodIn_app (goodIn_r _ [130, 131, 132, 28] rfl (by decide +kernel)) ggX6_stands_X4_unionOf
set_option maxRecDepth 20000 in
theorem ggX6_witness_X6_stageRefusal : GoodIn wsX6_witness wsX6_stageRefusal := goodIn_r _ [8, 3, 1, 9, 10, 11, 7, 12, 13, 14, 15, 16, 17, 18, 19, 20, 21, 22, 23, 24, 25, 26, 27, 28, 29, 30, 31, 32, 33, 34, 35, 36, 37, 38, 39, 40, 41, 42, 43, 44, 45, 46, 47, 48, 49, 50, 51, 52, 53, 54, 55, 56, 57, 58, 59, 60, 61, 62, 63, 64, 65, 66, 67, 68, 69, 70, 71, 72, 73, 74, 75, 76, 77, 78, 79, 80, 81, 82, 83, 84, 85, 86, 87, 88, 89, 90, 91, 92, 93, 94, 95, 96, 97, 98, 99, 100, 101, 102, 103, 104, 105, 106, 107, 108, 109, 110, 111, 112, 113, 114, 115, 116, 117, 118, 119, 120, 121, 122, 123, 124, 125, 137, 138, 139, 140, 141, 142, 143, 144, 145, 146, 147, 148, 149, 150, 151, 152, 153, 154, 155, 156, 157, 158, 159, 160, 161, 162, 163, 164, 165] rfl (by decide +kernel)
set_option maxRecDepth 20000 in
theorem gX6_witness_X6_stageRefusal : GoodIn wsX6_witness (wsV RX6 200 RX6 yX6_stageRefusal wsX6_stageRefusal) := goodIn_app (goodIn_r _ [4, 5, 6, 7] rfl (by decide +kernel)) ggX6_witness_X6_stageRefusal
set_option maxRecDepth 20000 in
theorem ggX6_witness_X4_narrowestOf : GoodIn wsX6_witness wsX4_narrowestOf := goodIn_r _ [129, 106, 107, 108, 24, 109, 26, 27, 43, 7, 44, 110, 111, 112, 113, 114, 130, 131, 132, 133, 134, 135, 136, 157, 158, 159, 160, 161, 162] rfl (by decide +kernel)
set_option maxRecDepth 20000 in
theorem gX6_witness_X4_narrowestOf : GoodIn wsX6_witness (wsV RX6 234 RX4 yX4_narrowestOf wsX4_narrowestOf) := goodIn_app (goodIn_r _ [126, 127, 128, 24] rfl (by decide +kernel)) ggX6_witness_X4_narrowestOf
set_option maxRecDepth 20000 in
theorem ggX6_count_X6_refused : GoodIn wsX6_count wsX6_refused := goodIn_r _ [15, 1, 2, 3, 16, 17, 18, 19, 20, 21, 22, 23, 24] rfl (by decide +kernel)
set_option maxRecDepth 20000 in
theorem gX6_count_X6_refused : GoodIn wsX6_count (wsV RX6 43 RX6 yX6_refused wsX6_refused) := goodIn_app (goodIn_r _ [11, 12, 13, 14] rfl (by decide +kernel)) ggX6_count_X6_refused
set_option maxRecDepth 20000 in
theorem ggX6_digest_X6_count : GoodIn wsX6_digest wsX6_count := goodIn_r _ [15, 16, 17, 18, 19, 20, 21, 3, 22, 4, 5, 23, 24, 25, 14, 26, 82, 83, 84, 85, 86, 87, 88, 89, 90, 102, 103, 104, 105, 106, 107, 91, 92, 93, 94, 95, 96, 97, 98, 99, 100, 101] rfl (by decide +kernel)
set_option maxRecDepth 20000 in
theorem gX6_digest_X6_count : GoodIn wsX6_digest (wsV RX6 253 RX6 yX6_count wsX6_count) := goodIn_app (goodIn_r _ [11, 12, 13, 14] rfl (by decide +kernel)) ggX6_digest_X6_count
set_option maxRecDepth 20000 in
theorem ggX6_digest_X0_kindOf : GoodIn wsX6_digest wsX0_kindOf := goodIn_r _ [31, 32, 33, 14, 34, 91, 92, 93, 94, 95, 96, 97, 98, 99, 100, 101] rfl (by decide +kernel)
set_option maxRecDepth 20000 in
theorem gX6_digest_X0_kindOf : GoodIn wsX6_digest (wsV RX6 84 RX0 yX0_kindOf wsX0_kindOf) := goodIn_app (goodIn_r _ [27, 28, 29, 30] rfl (by decide +kernel)) ggX6_digest_X0_kindOf
set_option maxRecDepth 20000 in
theorem ggX6_digest_X0_xOf : GoodIn wsX6_digest wsX0_xOf := goodIn_r _ [38, 39, 33, 14, 34, 91, 92, 93, 94, 95, 96, 97, 98, 99, 100, 101] rfl (by decide +kernel)
set_option maxRecDepth 20000 in
theorem gX6_digest_X0_xOf : GoodIn wsX6_digest (wsV RX6 111 RX0 yX0_xOf wsX0_xOf) := goodIn_app (goodIn_r _ [35, 36, 37, 30] rfl (by decide +kernel)) ggX6_digest_X0_xOf
set_option maxRecDepth 20000 in
theorem ggX6_digest_X0_yOf : GoodIn wsX6_digest wsX0_yOf := goodIn_r _ [43, 44, 33, 14, 34, 91, 92, 93, 94, 95, 96, 97, 98, 99, 100, 101] rfl (by decide +kernel)
set_option maxRecDepth 20000 in
theorem gX6_digest_X0_yOf : GoodIn wsX6_digest (wsV RX6 114 RX0 yX0_yOf wsX0_yOf) := goodIn_app (goodIn_r _ [40, 41, 42, 30] rfl (by decide +kernel)) ggX6_digest_X0_yOf
set_option maxRecDepth 20000 in
theorem ggX6_digest_X0_outputAt : GoodIn wsX6_digest wsX0_outputAt := goodIn_r _ [48, 49, 33, 14, 34, 91, 92, 93, 94, 95, 96, 97, 98, 99, 100, 101] rfl (by decide +kernel)
set_option maxRecDepth 20000 in
theorem gX6_digest_X0_outputAt : GoodIn wsX6_digest (wsV RX6 126 RX0 yX0_outputAt wsX0_outputAt) := goodIn_app (goodIn_r _ [45, 46, 47, 30] rfl (by decide +kernel)) ggX6_digest_X0_outputAt
set_option maxRecDepth 20000 in
theorem ggX6_digest_X1_countWrong : GoodIn wsX6_digest wsX1_countWrong := goodIn_r _ [54, 55, 56, 57, 58, 53, 59, 60, 61, 62, 63, 64, 65, 46, 47, 30, 48, 49, 33, 14, 34, 66, 67, 68, 69, 70, 71, 72, 73, 74, 75, 76, 77, 78, 79, 80, 81, 91, 92, 93, 94, 95, 96, 97, 98, 99, 100, 101, 108] rfl (by decide +kernel)
set_option maxRecDepth 20000 in
theorem gX6_digest_X1_countWrong : GoodIn wsX6_digest (wsV RX6 190 RX1 yX1_countWrong wsX1_countWrong) := goodIn_app (goodIn_r _ [50, 51, 52, 53] rfl (by decide +kernel)) ggX6_digest_X1_countWrong
set_option maxRecDepth 20000 in
theorem ggX6_isSignal_X0_signals : GoodIn wsX6_isSignal wsX0_signals := goodIn_r _ [7, 8, 9, 19, 20, 21, 22, 23, 24, 25, 26, 27, 28, 29] rfl (by decide +kernel)
set_option maxRecDepth 20000 in
theorem gX6_isSignal_X0_signals : GoodIn wsX6_isSignal (wsV RX6 260 RX0 yX0_signals wsX0_signals) := goodIn_app (goodIn_r _ [3, 4, 5, 6] rfl (by decide +kernel)) ggX6_isSignal_X0_signals
set_option maxRecDepth 20000 in
theorem ggX6_isWay_X0_kindOf : GoodIn wsX6_isWay wsX0_kindOf := goodIn_r _ [7, 8, 9, 10, 11, 21, 22, 23, 24, 25, 26, 27, 28, 29, 30, 31] rfl (by decide +kernel)
set_option maxRecDepth 20000 in
theorem gX6_isWay_X0_kindOf : GoodIn wsX6_isWay (wsV RX6 84 RX0 yX0_kindOf wsX0_kindOf) := goodIn_app (goodIn_r _ [3, 4, 5, 6] rfl (by decide +kernel)) ggX6_isWay_X0_kindOf
set_option maxRecDepth 20000 in
theorem ggX6_refusal_X6_refused : GoodIn wsX6_refusal wsX6_refused := goodIn_r _ [7, 8, 9, 10, 11, 12, 13, 14, 15, 16, 17, 18, 19] rfl (by decide +kernel)
set_option maxRecDepth 20000 in
theorem gX6_refusal_X6_refused : GoodIn wsX6_refusal (wsV RX6 43 RX6 yX6_refused wsX6_refused) := goodIn_app (goodIn_r _ [3, 4, 5, 6] rfl (by decide +kernel)) ggX6_refusal_X6_refused
set_option maxRecDepth 20000 in
theorem ggX6_stageRefusal_X6_refusal : GoodIn wsX6_stageRefusal wsX6_refusal := goodIn_r _ [7, 2, 8, 9, 10, 11, 6, 12, 13, 14, 15, 121, 122, 123, 124, 125, 126, 127, 128, 129, 130, 131, 132, 133, 134, 135, 136, 137, 138, 139, 140] rfl (by decide +kernel)
set_option maxRecDepth 20000 in
theorem gX6_stageRefusal_X6_refusal : GoodIn wsX6_stageRefusal (wsV RX6 80 RX6 yX6_refusal wsX6_refusal) := goodIn_app (goodIn_r _ [3, 4, 5, 6] rfl (by decide +kernel)) ggX6_stageRefusal_X6_refusal
set_option maxRecDepth 20000 in
theorem ggX6_stageRefusal_X4_reach : GoodIn wsX6_stageRefusal wsX4_reach := goodIn_r _ [20, 21, 22, 23, 24, 25, 26, 27, 28, 29, 19, 30, 31, 32, 33, 34, 35, 36, 37, 38, 6, 39, 40, 41, 42, 43, 44, 45, 46, 47, 48, 49, 50, 51, 52, 53, 54, 55, 56, 57, 58, 59, 60, 61, 62, 63, 64, 65, 66, 67, 68, 69, 70, 71, 72, 73, 74, 75, 76, 77, 78, 79, 80, 81, 82, 83, 84, 85, 86, 87, 88, 89, 90, 91, 92, 93, 94, 95, 96, 97, 98, 99, 100, 101, 102, 103, 104, 105, 106, 107, 108, 109, 110, 111, 112, 113, 114, 115, 116, 117, 118, 119, 120, 141, 142, 143, 144, 145, 146, 147, 148, 149, 130, 131, 132, 133, 134, 135, 136, 137, 138, 139, 140] rfl (by decide +kernel)
set_option maxRecDepth 20000 in
theorem gX6_stageRefusal_X4_reach : GoodIn wsX6_stageRefusal (wsV RX6 263 RX4 yX4_reach wsX4_reach) := goodIn_app (goodIn_r _ [16, 17, 18, 19] rfl (by decide +kernel)) ggX6_stageRefusal_X4_reach
