set_option maxRecDepth 20000 in
theorem ggX6_stageRefusal_X6_refused : GoodIn wsX6_stageRefusal wsX6_refused := goodIn_r _ [12, 13, 14, 15, 121, 122, 123, 124, 125, 126, 127, 128, 129] rfl (by decide +kernel)
set_option maxRecDepth 20000 in
theorem gX6_stageRefusal_X6_refused : GoodIn wsX6_stageRefusal (wsV RX6 43 RX6 yX6_refused wsX6_refused) := goodIn_app (goodIn_r _ [9, 10, 11, 6] rfl (by decide +kernel)) ggX6_stageRefusal_X6_refused
set_option maxRecDepth 20000 in
theorem ggX6_changed_X1_fill : GoodIn wsX6_changed wsX1_fill := goodIn_r _ [9, 10, 11, 12, 13, 14, 15, 16, 17, 18, 19, 20, 21, 22, 23, 24, 25, 8, 26, 27, 28, 29, 30, 31, 32, 33, 34, 35, 36, 37, 38, 39, 40, 41, 58, 59, 60, 61, 62, 63, 64, 65, 66, 67, 68, 69] rfl (by decide +kernel)
set_option maxRecDepth 20000 in
theorem gX6_changed_X1_fill : GoodIn wsX6_changed (wsV RX6 193 RX1 yX1_fill wsX1_fill) := goodIn_app (goodIn_r _ [5, 6, 7, 8] rfl (by decide +kernel)) ggX6_changed_X1_fill
set_option maxRecDepth 20000 in
theorem ggX6_changed_X4_forget : GoodIn wsX6_changed wsX4_forget := goodIn_r _ [46, 47, 48, 70, 71, 72, 73, 74, 75] rfl (by decide +kernel)
set_option maxRecDepth 20000 in
theorem gX6_changed_X4_forget : GoodIn wsX6_changed (wsV RX6 267 RX4 yX4_forget wsX4_forget) := goodIn_app (goodIn_r _ [42, 43, 44, 45] rfl (by decide +kernel)) ggX6_changed_X4_forget
set_option maxRecDepth 20000 in
theorem ggX7_type_X7_in : GoodIn wsX7_type wsX7_in := goodIn_r _ [6] rfl (by decide +kernel)
set_option maxRecDepth 20000 in
theorem gX7_type_X7_in : GoodIn wsX7_type (va_wsS RX7 39 yX7_in wsX7_in) := goodIn_app (goodIn_of _ (by decide +kernel)) ggX7_type_X7_in
set_option maxRecDepth 20000 in
theorem ggX7_type_X7_refuses : GoodIn wsX7_type wsX7_refuses := goodIn_r _ [10, 11, 12, 13, 14, 15, 16, 17, 18, 19, 20, 21, 22, 23, 24, 25, 26, 27] rfl (by decide +kernel)
set_option maxRecDepth 20000 in
theorem gX7_type_X7_refuses : GoodIn wsX7_type (wsV RX7 43 RX7 yX7_refuses wsX7_refuses) := goodIn_app (goodIn_r _ [7, 8, 9, 5] rfl (by decide +kernel)) ggX7_type_X7_refuses
set_option maxRecDepth 20000 in
theorem ggX7_skips_X7_byteAt : GoodIn wsX7_skips wsX7_byteAt := goodIn_r _ [6, 7, 8, 9, 10, 11, 12, 13, 14, 15, 16, 17, 18, 19, 20, 21, 22, 23, 24] rfl (by decide +kernel)
set_option maxRecDepth 20000 in
theorem gX7_skips_X7_byteAt : GoodIn wsX7_skips (wsV RX7 54 RX7 yX7_byteAt wsX7_byteAt) := goodIn_app (goodIn_r _ [2, 3, 4, 5] rfl (by decide +kernel)) ggX7_skips_X7_byteAt
set_option maxRecDepth 20000 in
theorem ggX7_isDigit_X7_in : GoodIn wsX7_isDigit wsX7_in := goodIn_r _ [4] rfl (by decide +kernel)
set_option maxRecDepth 20000 in
theorem gX7_isDigit_X7_in : GoodIn wsX7_isDigit (va_wsS RX7 39 yX7_in wsX7_in) := goodIn_app (goodIn_of _ (by decide +kernel)) ggX7_isDigit_X7_in
set_option maxRecDepth 20000 in
theorem ggX7_isNumber_X7_skips : GoodIn wsX7_isNumber wsX7_skips := goodIn_r _ [8, 1, 9, 10, 11, 7, 12, 13, 2, 20, 21, 22, 23, 24, 25, 26, 27, 28, 29, 30, 31, 32, 33, 34, 35] rfl (by decide +kernel)
set_option maxRecDepth 20000 in
theorem gX7_isNumber_X7_skips : GoodIn wsX7_isNumber (wsV RX7 57 RX7 yX7_skips wsX7_skips) := goodIn_app (goodIn_r _ [4, 5, 6, 7] rfl (by decide +kernel)) ggX7_isNumber_X7_skips
set_option maxRecDepth 20000 in
theorem ggX7_isNumber_X7_byteAt : GoodIn wsX7_isNumber wsX7_byteAt := goodIn_r _ [12, 13, 2, 20, 21, 22, 23, 24, 25, 26, 27, 28, 29, 30, 31, 32, 33, 34, 35] rfl (by decide +kernel)
set_option maxRecDepth 20000 in
theorem gX7_isNumber_X7_byteAt : GoodIn wsX7_isNumber (wsV RX7 54 RX7 yX7_byteAt wsX7_byteAt) := goodIn_app (goodIn_r _ [9, 10, 11, 7] rfl (by decide +kernel)) ggX7_isNumber_X7_byteAt
set_option maxRecDepth 20000 in
theorem ggX7_isNumber_X7_isDigit : GoodIn wsX7_isNumber wsX7_isDigit := goodIn_r _ [16, 17, 18, 7, 19] rfl (by decide +kernel)
set_option maxRecDepth 20000 in
theorem gX7_isNumber_X7_isDigit : GoodIn wsX7_isNumber (va_wsS RX7 60 yX7_isDigit wsX7_isDigit) := goodIn_app (goodIn_of _ (by decide +kernel)) ggX7_isNumber_X7_isDigit
set_option maxRecDepth 20000 in
theorem ggX7_isNumber_X7_in : GoodIn wsX7_isNumber wsX7_in := goodIn_r _ [19] rfl (by decide +kernel)
set_option maxRecDepth 20000 in
theorem gX7_isNumber_X7_in : GoodIn wsX7_isNumber (va_wsS RX7 39 yX7_in wsX7_in) := goodIn_app (goodIn_of _ (by decide +kernel)) ggX7_isNumber_X7_in
set_option maxRecDepth 20000 in
theorem ggX7_isWord_X7_byteAt : GoodIn wsX7_isWord wsX7_byteAt := goodIn_r _ [7, 8, 9, 13, 14, 15, 16, 17, 18, 19, 20, 21, 22, 23, 24, 25, 26, 27, 28] rfl (by decide +kernel)
set_option maxRecDepth 20000 in
theorem gX7_isWord_X7_byteAt : GoodIn wsX7_isWord (wsV RX7 54 RX7 yX7_byteAt wsX7_byteAt) := goodIn_app (goodIn_r _ [3, 4, 5, 6] rfl (by decide +kernel)) ggX7_isWord_X7_byteAt
set_option maxRecDepth 20000 in
theorem ggX7_isWord_X7_in : GoodIn wsX7_isWord wsX7_in := goodIn_r _ [12] rfl (by decide +kernel)
set_option maxRecDepth 20000 in
theorem gX7_isWord_X7_in : GoodIn wsX7_isWord (va_wsS RX7 39 yX7_in wsX7_in) := goodIn_app (goodIn_of _ (by decide +kernel)) ggX7_isWord_X7_in
set_option maxRecDepth 20000 in
theorem ggX7_word_X7_skips : GoodIn wsX7_word wsX7_skips := goodIn_r _ [7, 2, 8, 9, 10, 6, 11, 12, 13, 21, 22, 23, 24, 25, 26, 27, 28, 29, 30, 31, 32, 33, 34, 35, 36] rfl (by decide +kernel)
set_option maxRecDepth 20000 in
theorem gX7_word_X7_skips : GoodIn wsX7_word (wsV RX7 57 RX7 yX7_skips wsX7_skips) := goodIn_app (goodIn_r _ [3, 4, 5, 6] rfl (by decide +kernel)) ggX7_word_X7_skips
set_option maxRecDepth 20000 in
theorem ggX7_word_X7_in : GoodIn wsX7_word wsX7_in := goodIn_r _ [16] rfl (by decide +kernel)
set_option maxRecDepth 20000 in
theorem gX7_word_X7_in : GoodIn wsX7_word (va_wsS RX7 39 yX7_in wsX7_in) := goodIn_app (goodIn_of _ (by decide +kernel)) ggX7_word_X7_in
set_option maxRecDepth 20000 in
theorem ggX7_word_X7_isWord : GoodIn wsX7_word wsX7_isWord := goodIn_r _ [20, 2, 1, 8, 9, 10, 6, 11, 12, 13, 14, 15, 16, 21, 22, 23, 24, 25, 26, 27, 28, 29, 30, 31, 32, 33, 34, 35, 36] rfl (by decide +kernel)
set_option maxRecDepth 20000 in
theorem gX7_word_X7_isWord : GoodIn wsX7_word (wsV RX7 67 RX7 yX7_isWord wsX7_isWord) := goodIn_app (goodIn_r _ [17, 18, 19, 6] rfl (by decide +kernel)) ggX7_word_X7_isWord
set_option maxRecDepth 20000 in
theorem ggX7_ends_X7_skips : GoodIn wsX7_ends wsX7_skips := goodIn_r _ [6, 1, 7, 8, 9, 5, 10, 11, 12, 13, 14, 15, 16, 17, 18, 19, 20, 21, 22, 23, 24, 25, 26, 27, 28] rfl (by decide +kernel)
set_option maxRecDepth 20000 in
theorem gX7_ends_X7_skips : GoodIn wsX7_ends (wsV RX7 57 RX7 yX7_skips wsX7_skips) := goodIn_app (goodIn_r _ [2, 3, 4, 5] rfl (by decide +kernel)) ggX7_ends_X7_skips
set_option maxRecDepth 20000 in
theorem ggX7_ends_X7_byteAt : GoodIn wsX7_ends wsX7_byteAt := goodIn_r _ [10, 11, 12, 13, 14, 15, 16, 17, 18, 19, 20, 21, 22, 23, 24, 25, 26, 27, 28] rfl (by decide +kernel)
set_option maxRecDepth 20000 in
theorem gX7_ends_X7_byteAt : GoodIn wsX7_ends (wsV RX7 54 RX7 yX7_byteAt wsX7_byteAt) := goodIn_app (goodIn_r _ [7, 8, 9, 5] rfl (by decide +kernel)) ggX7_ends_X7_byteAt
set_option maxRecDepth 20000 in
theorem ggX7_readsGate_X7_word : GoodIn wsX7_readsGate wsX7_word := goodIn_r _ [7, 8, 9, 10, 11, 12, 6, 13, 14, 15, 16, 17, 18, 19, 20, 21, 22, 23, 24, 25, 26, 38, 39, 40, 41, 42, 43, 44, 45, 46, 47, 48, 49, 50, 51, 52, 53] rfl (by decide +kernel)
set_option maxRecDepth 20000 in
theorem gX7_readsGate_X7_word : GoodIn wsX7_readsGate (wsV RX7 71 RX7 yX7_word wsX7_word) := goodIn_app (goodIn_r _ [3, 4, 5, 6] rfl (by decide +kernel)) ggX7_readsGate_X7_word
set_option maxRecDepth 20000 in
theorem ggX7_readsGate_X7_isNumber : GoodIn wsX7_readsGate wsX7_isNumber := goodIn_r _ [30, 9, 19, 2, 10, 11, 12, 6, 13, 14, 15, 16, 17, 18, 31, 32, 33, 20, 21, 22, 38, 39, 40, 41, 42, 43, 44, 45, 46, 47, 48, 49, 50, 51, 52, 53] rfl (by decide +kernel)
set_option maxRecDepth 20000 in
theorem gX7_readsGate_X7_isNumber : GoodIn wsX7_readsGate (wsV RX7 75 RX7 yX7_isNumber wsX7_isNumber) := goodIn_app (goodIn_r _ [27, 28, 29, 6] rfl (by decide +kernel)) ggX7_readsGate_X7_isNumber
set_option maxRecDepth 20000 in
theorem ggX7_readsGate_X7_ends : GoodIn wsX7_readsGate wsX7_ends := goodIn_r _ [37, 9, 10, 11, 12, 6, 13, 14, 15, 16, 17, 18, 19, 38, 39, 40, 41, 42, 43, 44, 45, 46, 47, 48, 49, 50, 51, 52, 53] rfl (by decide +kernel)
set_option maxRecDepth 20000 in
theorem gX7_readsGate_X7_ends : GoodIn wsX7_readsGate (wsV RX7 78 RX7 yX7_ends wsX7_ends) := goodIn_app (goodIn_r _ [34, 35, 36, 6] rfl (by decide +kernel)) ggX7_readsGate_X7_ends
set_option maxRecDepth 20000 in
theorem ggX7_readsOuts_X7_skips : GoodIn wsX7_readsOuts wsX7_skips := goodIn_r _ [8, 2, 9, 10, 11, 7, 12, 13, 14, 29, 30, 31, 32, 33, 34, 35, 36, 37, 38, 39, 40, 41, 42, 43, 44] rfl (by decide +kernel)
set_option maxRecDepth 20000 in
theorem gX7_readsOuts_X7_skips : GoodIn wsX7_readsOuts (wsV RX7 57 RX7 yX7_skips wsX7_skips) := goodIn_app (goodIn_r _ [4, 5, 6, 7] rfl (by decide +kernel)) ggX7_readsOuts_X7_skips
set_option maxRecDepth 20000 in
theorem ggX7_readsOuts_X7_byteAt : GoodIn wsX7_readsOuts wsX7_byteAt := goodIn_r _ [12, 13, 14, 29, 30, 31, 32, 33, 34, 35, 36, 37, 38, 39, 40, 41, 42, 43, 44] rfl (by decide +kernel)
set_option maxRecDepth 20000 in
theorem gX7_readsOuts_X7_byteAt : GoodIn wsX7_readsOuts (wsV RX7 54 RX7 yX7_byteAt wsX7_byteAt) := goodIn_app (goodIn_r _ [9, 10, 11, 7] rfl (by decide +kernel)) ggX7_readsOuts_X7_byteAt
set_option maxRecDepth 20000 in
theorem ggX7_readsOuts_X7_ends : GoodIn wsX7_readsOuts wsX7_ends := goodIn_r _ [18, 2, 4, 5, 6, 7, 8, 9, 10, 11, 12, 13, 14, 29, 30, 31, 32, 33, 34, 35, 36, 37, 38, 39, 40, 41, 42, 43, 44] rfl (by decide +kernel)
set_option maxRecDepth 20000 in
theorem gX7_readsOuts_X7_ends : GoodIn wsX7_readsOuts (wsV RX7 78 RX7 yX7_ends wsX7_ends) := goodIn_app (goodIn_r _ [15, 16, 17, 7] rfl (by decide +kernel)) ggX7_readsOuts_X7_ends
set_option maxRecDepth 20000 in
theorem ggX7_readsOuts_X7_isNumber : GoodIn wsX7_readsOuts wsX7_isNumber := goodIn_r _ [22, 2, 14, 3, 4, 5, 6, 7, 8, 9, 10, 11, 12, 13, 23, 24, 25, 26, 27, 28, 29, 30, 31, 32, 33, 34, 35, 36, 37, 38, 39, 40, 41, 42, 43, 44] rfl (by decide +kernel)
set_option maxRecDepth 20000 in
theorem gX7_readsOuts_X7_isNumber : GoodIn wsX7_readsOuts (wsV RX7 75 RX7 yX7_isNumber wsX7_isNumber) := goodIn_app (goodIn_r _ [19, 20, 21, 7] rfl (by decide +kernel)) ggX7_readsOuts_X7_isNumber
set_option maxRecDepth 20000 in
theorem ggX7_readsTask_X7_word : GoodIn wsX7_readsTask wsX7_word := goodIn_r _ [7, 8, 9, 10, 11, 12, 6, 13, 14, 15, 16, 17, 18, 19, 20, 21, 22, 23, 24, 25, 26, 38, 39, 40, 41, 42, 43, 44, 45, 46, 47, 48, 49, 50, 51, 52, 53] rfl (by decide +kernel)
set_option maxRecDepth 20000 in
theorem gX7_readsTask_X7_word : GoodIn wsX7_readsTask (wsV RX7 71 RX7 yX7_word wsX7_word) := goodIn_app (goodIn_r _ [3, 4, 5, 6] rfl (by decide +kernel)) ggX7_readsTask_X7_word
set_option maxRecDepth 20000 in
theorem ggX7_readsTask_X7_isNumber : GoodIn wsX7_readsTask wsX7_isNumber := goodIn_r _ [30, 9, 19, 2, 10, 11, 12, 6, 13, 14, 15, 16, 17, 18, 31, 32, 33, 20, 21, 22, 38, 39, 40, 41, 42, 43, 44, 45, 46, 47, 48, 49, 50, 51, 52, 53] rfl (by decide +kernel)
set_option maxRecDepth 20000 in
theorem gX7_readsTask_X7_isNumber : GoodIn wsX7_readsTask (wsV RX7 75 RX7 yX7_isNumber wsX7_isNumber) := goodIn_app (goodIn_r _ [27, 28, 29, 6] rfl (by decide +kernel)) ggX7_readsTask_X7_isNumber
set_option maxRecDepth 20000 in
theorem ggX7_readsTask_X7_ends : GoodIn wsX7_readsTask wsX7_ends := goodIn_r _ [37, 9, 10, 11, 12, 6, 13, 14, 15, 16, 17, 18, 19, 38, 39, 40, 41, 42, 43, 44, 45, 46, 47, 48, 49, 50, 51, 52, 53] rfl (by decide +kernel)
set_option maxRecDepth 20000 in
theorem gX7_readsTask_X7_ends : GoodIn wsX7_readsTask (wsV RX7 78 RX7 yX7_ends wsX7_ends) := goodIn_app (goodIn_r _ [34, 35, 36, 6] rfl (by decide +kernel)) ggX7_readsTask_X7_ends
set_option maxRecDepth 20000 in
theorem ggX7_readsAll_X7_word : GoodIn wsX7_readsAll wsX7_word := goodIn_r _ [9, 10, 2, 11, 12, 13, 8, 14, 15, 16, 17, 18, 4, 19, 20, 21, 22, 23, 24, 25, 26, 50, 51, 52, 53, 54, 55, 56, 57, 58, 59, 60, 61, 62, 63, 64, 65] rfl (by decide +kernel)
set_option maxRecDepth 20000 in
theorem gX7_readsAll_X7_word : GoodIn wsX7_readsAll (wsV RX7 71 RX7 yX7_word wsX7_word) := goodIn_app (goodIn_r _ [5, 6, 7, 8] rfl (by decide +kernel)) ggX7_readsAll_X7_word
set_option maxRecDepth 20000 in
theorem ggX7_readsAll_X7_isNumber : GoodIn wsX7_readsAll wsX7_isNumber := goodIn_r _ [30, 2, 19, 3, 11, 12, 13, 8, 14, 15, 16, 17, 18, 4, 31, 32, 33, 20, 21, 22, 50, 51, 52, 53, 54, 55, 56, 57, 58, 59, 60, 61, 62, 63, 64, 65] rfl (by decide +kernel)
set_option maxRecDepth 20000 in
theorem gX7_readsAll_X7_isNumber : GoodIn wsX7_readsAll (wsV RX7 75 RX7 yX7_isNumber wsX7_isNumber) := goodIn_app (goodIn_r _ [27, 28, 29, 8] rfl (by decide +kernel)) ggX7_readsAll_X7_isNumber
set_option maxRecDepth 20000 in
theorem ggX7_readsAll_X7_ends : GoodIn wsX7_readsAll wsX7_ends := goodIn_r _ [37, 2, 11, 12, 13, 8, 14, 15, 16, 17, 18, 4, 19, 50, 51, 52, 53, 54, 55, 56, 57, 58, 59, 60, 61, 62, 63, 64, 65] rfl (by decide +kernel)
set_option maxRecDepth 20000 in
theorem gX7_readsAll_X7_ends : GoodIn wsX7_readsAll (wsV RX7 78 RX7 yX7_ends wsX7_ends) := goodIn_app (goodIn_r _ [34, 35, 36, 8] rfl (by decide +kernel)) ggX7_readsAll_X7_ends
set_option maxRecDepth 20000 in
theorem ggX7_readsAll_X7_readsGate : GoodIn wsX7_readsAll wsX7_readsGate := goodIn_r _ [41, 1, 3, 5, 6, 7, 8, 9, 10, 2, 11, 12, 13, 14, 15, 16, 17, 18, 4, 19, 20, 21, 22, 23, 24, 25, 26, 27, 28, 29, 30, 31, 32, 33, 34, 35, 36, 37, 50, 51, 52, 53, 54, 55, 56, 57, 58, 59, 60, 61, 62, 63, 64, 65] rfl (by decide +kernel)
set_option maxRecDepth 20000 in
theorem gX7_readsAll_X7_readsGate : GoodIn wsX7_readsAll (wsV RX7 82 RX7 yX7_readsGate wsX7_readsGate) := goodIn_app (goodIn_r _ [38, 39, 40, 8] rfl (by decide +kernel)) ggX7_readsAll_X7_readsGate
set_option maxRecDepth 20000 in
theorem ggX7_readsAll_X7_readsOuts : GoodIn wsX7_readsAll wsX7_readsOuts := goodIn_r _ [45, 1, 2, 3, 11, 12, 13, 8, 14, 15, 16, 17, 18, 4, 19, 34, 35, 36, 37, 27, 28, 29, 30, 31, 32, 33, 20, 21, 22, 50, 51, 52, 53, 54, 55, 56, 57, 58, 59, 60, 61, 62, 63, 64, 65] rfl (by decide +kernel)
set_option maxRecDepth 20000 in
theorem gX7_readsAll_X7_readsOuts : GoodIn wsX7_readsAll (wsV RX7 85 RX7 yX7_readsOuts wsX7_readsOuts) := goodIn_app (goodIn_r _ [42, 43, 44, 8] rfl (by decide +kernel)) ggX7_readsAll_X7_readsOuts
set_option maxRecDepth 20000 in
theorem ggX7_readsAll_X7_readsTask : GoodIn wsX7_readsAll wsX7_readsTask := goodIn_r _ [49, 1, 3, 5, 6, 7, 8, 9, 10, 2, 11, 12, 13, 14, 15, 16, 17, 18, 4, 19, 20, 21, 22, 23, 24, 25, 26, 27, 28, 29, 30, 31, 32, 33, 34, 35, 36, 37, 50, 51, 52, 53, 54, 55, 56, 57, 58, 59, 60, 61, 62, 63, 64, 65] rfl (by decide +kernel)
set_option maxRecDepth 20000 in
theorem gX7_readsAll_X7_readsTask : GoodIn wsX7_readsAll (wsV RX7 88 RX7 yX7_readsTask wsX7_readsTask) := goodIn_app (goodIn_r _ [46, 47, 48, 8] rfl (by decide +kernel)) ggX7_readsAll_X7_readsTask
set_option maxRecDepth 20000 in
theorem ggX7_readsAll_X7_skips : GoodIn wsX7_readsAll wsX7_skips := goodIn_r _ [14, 2, 15, 16, 17, 8, 18, 4, 19, 50, 51, 52, 53, 54, 55, 56, 57, 58, 59, 60, 61, 62, 63, 64, 65] rfl (by decide +kernel)
set_option maxRecDepth 20000 in
theorem gX7_readsAll_X7_skips : GoodIn wsX7_readsAll (wsV RX7 57 RX7 yX7_skips wsX7_skips) := goodIn_app (goodIn_r _ [11, 12, 13, 8] rfl (by decide +kernel)) ggX7_readsAll_X7_skips
set_option maxRecDepth 20000 in
theorem ggX7_reads_X7_readsAll : GoodIn wsX7_reads wsX7_readsAll := goodIn_r _ [8, 3, 1, 9, 10, 11, 12, 13, 7, 14, 15, 16, 17, 18, 19, 20, 21, 22, 23, 24, 25, 26, 27, 28, 29, 30, 31, 32, 33, 34, 35, 36, 37, 38, 39, 40, 41, 42, 43, 44, 45, 46, 47, 48, 49, 50, 51, 52, 53, 54, 55, 56, 57, 58, 59, 60, 61, 62, 63, 64, 65, 66, 67, 68, 69, 70] rfl (by decide +kernel)
set_option maxRecDepth 20000 in
theorem gX7_reads_X7_readsAll : GoodIn wsX7_reads (wsV RX7 91 RX7 yX7_readsAll wsX7_readsAll) := goodIn_app (goodIn_r _ [4, 5, 6, 7] rfl (by decide +kernel)) ggX7_reads_X7_readsAll
set_option maxRecDepth 20000 in
theorem ggX7_isGate_X7_isThere : GoodIn wsX7_isGate wsX7_isThere := goodIn_r _ [6, 1, 10, 11, 12, 13, 14, 15, 16, 17, 18, 19, 20, 21, 22, 23, 24, 25] rfl (by decide +kernel)
set_option maxRecDepth 20000 in
theorem gX7_isGate_X7_isThere : GoodIn wsX7_isGate (wsV RX7 94 RX7 yX7_isThere wsX7_isThere) := goodIn_app (goodIn_r _ [2, 3, 4, 5] rfl (by decide +kernel)) ggX7_isGate_X7_isThere
set_option maxRecDepth 20000 in
theorem ggX7_isGate_X7_in : GoodIn wsX7_isGate wsX7_in := goodIn_r _ [9] rfl (by decide +kernel)
set_option maxRecDepth 20000 in
theorem gX7_isGate_X7_in : GoodIn wsX7_isGate (va_wsS RX7 39 yX7_in wsX7_in) := goodIn_app (goodIn_of _ (by decide +kernel)) ggX7_isGate_X7_in
set_option maxRecDepth 20000 in
theorem ggX7_isInput_X7_isThere : GoodIn wsX7_isInput wsX7_isThere := goodIn_r _ [6, 1, 10, 11, 12, 13, 14, 15, 16, 17, 18, 19, 20, 21, 22, 23, 24, 25] rfl (by decide +kernel)
set_option maxRecDepth 20000 in
theorem gX7_isInput_X7_isThere : GoodIn wsX7_isInput (wsV RX7 94 RX7 yX7_isThere wsX7_isThere) := goodIn_app (goodIn_r _ [2, 3, 4, 5] rfl (by decide +kernel)) ggX7_isInput_X7_isThere
set_option maxRecDepth 20000 in
theorem ggX7_isInput_X7_in : GoodIn wsX7_isInput wsX7_in := goodIn_r _ [9] rfl (by decide +kernel)
set_option maxRecDepth 20000 in
theorem gX7_isInput_X7_in : GoodIn wsX7_isInput (va_wsS RX7 39 yX7_in wsX7_in) := goodIn_app (goodIn_of _ (by decide +kernel)) ggX7_isInput_X7_in
set_option maxRecDepth 20000 in
theorem ggX7_isStage_X7_isThere : GoodIn wsX7_isStage wsX7_isThere := goodIn_r _ [6, 1, 10, 11, 12, 13, 14, 15, 16, 17, 18, 19, 20, 21, 22, 23, 24, 25] rfl (by decide +kernel)
set_option maxRecDepth 20000 in
theorem gX7_isStage_X7_isThere : GoodIn wsX7_isStage (wsV RX7 94 RX7 yX7_isThere wsX7_isThere) := goodIn_app (goodIn_r _ [2, 3, 4, 5] rfl (by decide +kernel)) ggX7_isStage_X7_isThere
set_option maxRecDepth 20000 in
theorem ggX7_isStage_X7_in : GoodIn wsX7_isStage wsX7_in := goodIn_r _ [9] rfl (by decide +kernel)
set_option maxRecDepth 20000 in
theorem gX7_isStage_X7_in : GoodIn wsX7_isStage (va_wsS RX7 39 yX7_in wsX7_in) := goodIn_app (goodIn_of _ (by decide +kernel)) ggX7_isStage_X7_in
set_option maxRecDepth 20000 in
theorem ggX7_none_X7_refuses : GoodIn wsX7_none wsX7_refuses := goodIn_r _ [5, 6, 7, 8, 9, 10, 11, 12, 13, 14, 15, 16, 17, 18, 19, 20, 21, 22] rfl (by decide +kernel)
set_option maxRecDepth 20000 in
theorem gX7_none_X7_refuses : GoodIn wsX7_none (wsV RX7 43 RX7 yX7_refuses wsX7_refuses) := goodIn_app (goodIn_r _ [1, 2, 3, 4] rfl (by decide +kernel)) ggX7_none_X7_refuses
set_option maxRecDepth 20000 in
theorem ggX7_kind_X7_isGate : GoodIn wsX7_kind wsX7_isGate := goodIn_r _ [6, 1, 7, 8, 9, 5, 10, 11, 12, 13, 23, 24, 25, 26, 27, 28, 29, 30, 31, 32, 33, 34, 35, 36, 37, 38] rfl (by decide +kernel)
set_option maxRecDepth 20000 in
theorem gX7_kind_X7_isGate : GoodIn wsX7_kind (wsV RX7 97 RX7 yX7_isGate wsX7_isGate) := goodIn_app (goodIn_r _ [2, 3, 4, 5] rfl (by decide +kernel)) ggX7_kind_X7_isGate
set_option maxRecDepth 20000 in
theorem ggX7_kind_X7_in : GoodIn wsX7_kind wsX7_in := goodIn_r _ [13] rfl (by decide +kernel)
set_option maxRecDepth 20000 in
theorem gX7_kind_X7_in : GoodIn wsX7_kind (va_wsS RX7 39 yX7_in wsX7_in) := goodIn_app (goodIn_of _ (by decide +kernel)) ggX7_kind_X7_in
set_option maxRecDepth 20000 in
theorem ggX7_kind_X7_isThere : GoodIn wsX7_kind wsX7_isThere := goodIn_r _ [10, 1, 23, 24, 25, 26, 27, 28, 29, 30, 31, 32, 33, 34, 35, 36, 37, 38] rfl (by decide +kernel)
set_option maxRecDepth 20000 in
theorem gX7_kind_X7_isThere : GoodIn wsX7_kind (wsV RX7 94 RX7 yX7_isThere wsX7_isThere) := goodIn_app (goodIn_r _ [7, 8, 9, 5] rfl (by decide +kernel)) ggX7_kind_X7_isThere
set_option maxRecDepth 20000 in
theorem ggX7_kind_X7_none : GoodIn wsX7_kind wsX7_none := goodIn_r _ [17, 18, 19, 20, 5, 21, 22, 23, 24, 25, 26, 27, 28, 29, 30, 31, 32, 33, 34, 35, 36, 37, 38] rfl (by decide +kernel)
set_option maxRecDepth 20000 in
theorem gX7_kind_X7_none : GoodIn wsX7_kind (wsV RX7 100 RX7 yX7_none wsX7_none) := goodIn_app (goodIn_r _ [14, 15, 16, 5] rfl (by decide +kernel)) ggX7_kind_X7_none
set_option maxRecDepth 20000 in
theorem ggX7_wire_X7_isGate : GoodIn wsX7_wire wsX7_isGate := goodIn_r _ [6, 1, 7, 8, 9, 5, 10, 11, 12, 13, 23, 24, 25, 26, 27, 28, 29, 30, 31, 32, 33, 34, 35, 36, 37, 38] rfl (by decide +kernel)
set_option maxRecDepth 20000 in
theorem gX7_wire_X7_isGate : GoodIn wsX7_wire (wsV RX7 97 RX7 yX7_isGate wsX7_isGate) := goodIn_app (goodIn_r _ [2, 3, 4, 5] rfl (by decide +kernel)) ggX7_wire_X7_isGate
set_option maxRecDepth 20000 in
theorem ggX7_wire_X7_in : GoodIn wsX7_wire wsX7_in := goodIn_r _ [13] rfl (by decide +kernel)
set_option maxRecDepth 20000 in
theorem gX7_wire_X7_in : GoodIn wsX7_wire (va_wsS RX7 39 yX7_in wsX7_in) := goodIn_app (goodIn_of _ (by decide +kernel)) ggX7_wire_X7_in
set_option maxRecDepth 20000 in
theorem ggX7_wire_X7_isThere : GoodIn wsX7_wire wsX7_isThere := goodIn_r _ [10, 1, 23, 24, 25, 26, 27, 28, 29, 30, 31, 32, 33, 34, 35, 36, 37, 38] rfl (by decide +kernel)
set_option maxRecDepth 20000 in
theorem gX7_wire_X7_isThere : GoodIn wsX7_wire (wsV RX7 94 RX7 yX7_isThere wsX7_isThere) := goodIn_app (goodIn_r _ [7, 8, 9, 5] rfl (by decide +kernel)) ggX7_wire_X7_isThere
set_option maxRecDepth 20000 in
theorem ggX7_wire_X7_none : GoodIn wsX7_wire wsX7_none := goodIn_r _ [17, 18, 19, 20, 5, 21, 22, 23, 24, 25, 26, 27, 28, 29, 30, 31, 32, 33, 34, 35, 36, 37, 38] rfl (by decide +kernel)
set_option maxRecDepth 20000 in
theorem gX7_wire_X7_none : GoodIn wsX7_wire (wsV RX7 100 RX7 yX7_none wsX7_none) := goodIn_app (goodIn_r _ [14, 15, 16, 5] rfl (by decide +kernel)) ggX7_wire_X7_none
set_option maxRecDepth 20000 in
theorem ggX7_of_X7_isGate : GoodIn wsX7_of wsX7_isGate := goodIn_r _ [6, 1, 7, 8, 9, 5, 10, 11, 12, 13, 23, 24, 25, 26, 27, 28, 29, 30, 31, 32, 33, 34, 35, 36, 37, 38] rfl (by decide +kernel)
set_option maxRecDepth 20000 in
theorem gX7_of_X7_isGate : GoodIn wsX7_of (wsV RX7 97 RX7 yX7_isGate wsX7_isGate) := goodIn_app (goodIn_r _ [2, 3, 4, 5] rfl (by decide +kernel)) ggX7_of_X7_isGate
set_option maxRecDepth 20000 in
theorem ggX7_of_X7_in : GoodIn wsX7_of wsX7_in := goodIn_r _ [13] rfl (by decide +kernel)
set_option maxRecDepth 20000 in
theorem gX7_of_X7_in : GoodIn wsX7_of (va_wsS RX7 39 yX7_in wsX7_in) := goodIn_app (goodIn_of _ (by decide +kernel)) ggX7_of_X7_in
set_option maxRecDepth 20000 in
theorem ggX7_of_X7_isThere : GoodIn wsX7_of wsX7_isThere := goodIn_r _ [10, 1, 23, 24, 25, 26, 27, 28, 29, 30, 31, 32, 33, 34, 35, 36, 37, 38] rfl (by decide +kernel)
set_option maxRecDepth 20000 in
theorem gX7_of_X7_isThere : GoodIn wsX7_of (wsV RX7 94 RX7 yX7_isThere wsX7_isThere) := goodIn_app (goodIn_r _ [7, 8, 9, 5] rfl (by decide +kernel)) ggX7_of_X7_isThere
set_option maxRecDepth 20000 in
theorem ggX7_of_X7_none : GoodIn wsX7_of wsX7_none := goodIn_r _ [17, 18, 19, 20, 5, 21, 22, 23, 24, 25, 26, 27, 28, 29, 30, 31, 32, 33, 34, 35, 36, 37, 38] rfl (by decide +kernel)
set_option maxRecDepth 20000 in
theorem gX7_of_X7_none : GoodIn wsX7_of (wsV RX7 100 RX7 yX7_none wsX7_none) := goodIn_app (goodIn_r _ [14, 15, 16, 5] rfl (by decide +kernel)) ggX7_of_X7_none
set_option maxRecDepth 20000 in
theorem ggX7_told_X7_isThere : GoodIn wsX7_told wsX7_isThere := goodIn_r _ [6, 1, 19, 20, 21, 22, 23, 24, 25, 26, 27, 28, 29, 30, 31, 32, 33, 34] rfl (by decide +kernel)
set_option maxRecDepth 20000 in
theorem gX7_told_X7_isThere : GoodIn wsX7_told (wsV RX7 94 RX7 yX7_isThere wsX7_isThere) := goodIn_app (goodIn_r _ [2, 3, 4, 5] rfl (by decide +kernel)) ggX7_told_X7_isThere
set_option maxRecDepth 20000 in
theorem ggX7_told_X7_in : GoodIn wsX7_told wsX7_in := goodIn_r _ [9] rfl (by decide +kernel)
set_option maxRecDepth 20000 in
theorem gX7_told_X7_in : GoodIn wsX7_told (va_wsS RX7 39 yX7_in wsX7_in) := goodIn_app (goodIn_of _ (by decide +kernel)) ggX7_told_X7_in
set_option maxRecDepth 20000 in
theorem ggX7_told_X7_none : GoodIn wsX7_told wsX7_none := goodIn_r _ [13, 14, 15, 16, 5, 17, 18, 19, 20, 21, 22, 23, 24, 25, 26, 27, 28, 29, 30, 31, 32, 33, 34] rfl (by decide +kernel)
set_option maxRecDepth 20000 in
theorem gX7_told_X7_none : GoodIn wsX7_told (wsV RX7 100 RX7 yX7_none wsX7_none) := goodIn_app (goodIn_r _ [10, 11, 12, 5] rfl (by decide +kernel)) ggX7_told_X7_none
set_option maxRecDepth 20000 in
theorem ggX7_adder_X7_in : GoodIn wsX7_adder wsX7_in := goodIn_r _ [5] rfl (by decide +kernel)
set_option maxRecDepth 20000 in
theorem gX7_adder_X7_in : GoodIn wsX7_adder (va_wsS RX7 39 yX7_in wsX7_in) := goodIn_app (goodIn_of _ (by decide +kernel)) ggX7_adder_X7_in
set_option maxRecDepth 20000 in
theorem ggX7_adder_X7_refuses : GoodIn wsX7_adder wsX7_refuses := goodIn_r _ [9, 10, 22, 23, 24, 25, 26, 27, 28, 29, 30, 31, 32, 33, 34, 35, 36, 37] rfl (by decide +kernel)
set_option maxRecDepth 20000 in
theorem gX7_adder_X7_refuses : GoodIn wsX7_adder (wsV RX7 43 RX7 yX7_refuses wsX7_refuses) := goodIn_app (goodIn_r _ [6, 7, 8, 4] rfl (by decide +kernel)) ggX7_adder_X7_refuses
set_option maxRecDepth 20000 in
theorem ggX7_adder_X7_begins : GoodIn wsX7_adder wsX7_begins := goodIn_r _ [14, 1, 22, 23, 24, 25, 26, 27, 28, 29, 30, 31, 32, 33, 34, 35, 36, 37] rfl (by decide +kernel)
set_option maxRecDepth 20000 in
theorem gX7_adder_X7_begins : GoodIn wsX7_adder (wsV RX7 104 RX7 yX7_begins wsX7_begins) := goodIn_app (goodIn_r _ [11, 12, 13, 4] rfl (by decide +kernel)) ggX7_adder_X7_begins
set_option maxRecDepth 20000 in
theorem ggX7_adder_X7_lays : GoodIn wsX7_adder wsX7_lays := goodIn_r _ [17] rfl (by decide +kernel)
set_option maxRecDepth 20000 in
theorem gX7_adder_X7_lays : GoodIn wsX7_adder (va_wsS RX7 108 yX7_lays wsX7_lays) := goodIn_app (goodIn_of _ (by decide +kernel)) ggX7_adder_X7_lays
set_option maxRecDepth 20000 in
theorem ggX7_adder_X7_outs : GoodIn wsX7_adder wsX7_outs := goodIn_r _ [21, 1, 22, 23, 24, 25, 26, 27, 28, 29, 30, 31, 32, 33, 34, 35, 36, 37] rfl (by decide +kernel)
set_option maxRecDepth 20000 in
theorem gX7_adder_X7_outs : GoodIn wsX7_adder (wsV RX7 112 RX7 yX7_outs wsX7_outs) := goodIn_app (goodIn_r _ [18, 19, 20, 4] rfl (by decide +kernel)) ggX7_adder_X7_outs
set_option maxRecDepth 20000 in
theorem ggX7_draw_X7_in : GoodIn wsX7_draw wsX7_in := goodIn_r _ [13] rfl (by decide +kernel)
set_option maxRecDepth 20000 in
theorem gX7_draw_X7_in : GoodIn wsX7_draw (va_wsS RX7 39 yX7_in wsX7_in) := goodIn_app (goodIn_of _ (by decide +kernel)) ggX7_draw_X7_in
set_option maxRecDepth 20000 in
theorem ggX7_draw_X7_refuses : GoodIn wsX7_draw wsX7_refuses := goodIn_r _ [17, 18, 30, 31, 32, 33, 34, 35, 36, 37, 38, 39, 40, 41, 42, 43, 44, 45] rfl (by decide +kernel)
set_option maxRecDepth 20000 in
theorem gX7_draw_X7_refuses : GoodIn wsX7_draw (wsV RX7 43 RX7 yX7_refuses wsX7_refuses) := goodIn_app (goodIn_r _ [14, 15, 16, 12] rfl (by decide +kernel)) ggX7_draw_X7_refuses
set_option maxRecDepth 20000 in
theorem ggX7_draw_X7_begins : GoodIn wsX7_draw wsX7_begins := goodIn_r _ [22, 5, 30, 31, 32, 33, 34, 35, 36, 37, 38, 39, 40, 41, 42, 43, 44, 45] rfl (by decide +kernel)
set_option maxRecDepth 20000 in
theorem gX7_draw_X7_begins : GoodIn wsX7_draw (wsV RX7 104 RX7 yX7_begins wsX7_begins) := goodIn_app (goodIn_r _ [19, 20, 21, 12] rfl (by decide +kernel)) ggX7_draw_X7_begins
set_option maxRecDepth 20000 in
theorem ggX7_draw_X7_lays : GoodIn wsX7_draw wsX7_lays := goodIn_r _ [25] rfl (by decide +kernel)
set_option maxRecDepth 20000 in
theorem gX7_draw_X7_lays : GoodIn wsX7_draw (va_wsS RX7 108 yX7_lays wsX7_lays) := goodIn_app (goodIn_of _ (by decide +kernel)) ggX7_draw_X7_lays
set_option maxRecDepth 20000 in
theorem ggX7_draw_X7_outs : GoodIn wsX7_draw wsX7_outs := goodIn_r _ [29, 5, 30, 31, 32, 33, 34, 35, 36, 37, 38, 39, 40, 41, 42, 43, 44, 45] rfl (by decide +kernel)
set_option maxRecDepth 20000 in
theorem gX7_draw_X7_outs : GoodIn wsX7_draw (wsV RX7 112 RX7 yX7_outs wsX7_outs) := goodIn_app (goodIn_r _ [26, 27, 28, 12] rfl (by decide +kernel)) ggX7_draw_X7_outs
set_option maxRecDepth 20000 in
theorem ggX7_signals_X7_goes : GoodIn wsX7_signals wsX7_goes := goodIn_r _ [5] rfl (by decide +kernel)
set_option maxRecDepth 20000 in
theorem gX7_signals_X7_goes : GoodIn wsX7_signals (va_wsS RX7 131 yX7_goes wsX7_goes) := goodIn_app (goodIn_of _ (by decide +kernel)) ggX7_signals_X7_goes
set_option maxRecDepth 20000 in
theorem ggX7_stand_X7_signals : GoodIn wsX7_stand wsX7_signals := goodIn_r _ [6, 1, 7, 8, 5, 9, 10, 11, 12, 13, 14, 15, 16, 17, 18, 19, 20, 21, 22, 23, 24, 25] rfl (by decide +kernel)
set_option maxRecDepth 20000 in
theorem gX7_stand_X7_signals : GoodIn wsX7_stand (wsV RX7 135 RX7 yX7_signals wsX7_signals) := goodIn_app (goodIn_r _ [2, 3, 4, 5] rfl (by decide +kernel)) ggX7_stand_X7_signals
set_option maxRecDepth 20000 in
theorem ggX7_wrongOnes_X7_stand : GoodIn wsX7_wrongOnes wsX7_stand := goodIn_r _ [6, 1, 7, 8, 9, 5, 10, 11, 12, 13, 18, 19, 20, 21, 22, 23, 24, 25, 26, 27, 28, 29, 30, 31, 32, 33] rfl (by decide +kernel)
set_option maxRecDepth 20000 in
theorem gX7_wrongOnes_X7_stand : GoodIn wsX7_wrongOnes (wsV RX7 138 RX7 yX7_stand wsX7_stand) := goodIn_app (goodIn_r _ [2, 3, 4, 5] rfl (by decide +kernel)) ggX7_wrongOnes_X7_stand
set_option maxRecDepth 20000 in
theorem ggX7_wrongOnes_X7_task : GoodIn wsX7_wrongOnes wsX7_task := goodIn_r _ [17, 1, 18, 19, 20, 21, 22, 23, 24, 25, 26, 27, 28, 29, 30, 31, 32, 33] rfl (by decide +kernel)
set_option maxRecDepth 20000 in
theorem gX7_wrongOnes_X7_task : GoodIn wsX7_wrongOnes (wsV RX7 141 RX7 yX7_task wsX7_task) := goodIn_app (goodIn_r _ [14, 15, 16, 5] rfl (by decide +kernel)) ggX7_wrongOnes_X7_task
set_option maxRecDepth 20000 in
theorem ggX7_runs_X7_isInput : GoodIn wsX7_runs wsX7_isInput := goodIn_r _ [5, 6, 7, 8, 9, 4, 10, 11, 12, 13, 38, 39, 40, 41, 42, 43, 44, 45, 46, 47, 48, 49, 50, 51, 52, 53] rfl (by decide +kernel)
set_option maxRecDepth 20000 in
theorem gX7_runs_X7_isInput : GoodIn wsX7_runs (wsV RX7 144 RX7 yX7_isInput wsX7_isInput) := goodIn_app (goodIn_r _ [1, 2, 3, 4] rfl (by decide +kernel)) ggX7_runs_X7_isInput
set_option maxRecDepth 20000 in
theorem ggX7_runs_X7_in : GoodIn wsX7_runs wsX7_in := goodIn_r _ [13] rfl (by decide +kernel)
set_option maxRecDepth 20000 in
theorem gX7_runs_X7_in : GoodIn wsX7_runs (va_wsS RX7 39 yX7_in wsX7_in) := goodIn_app (goodIn_of _ (by decide +kernel)) ggX7_runs_X7_in
set_option maxRecDepth 20000 in
theorem ggX7_runs_X7_isThere : GoodIn wsX7_runs wsX7_isThere := goodIn_r _ [10, 6, 38, 39, 40, 41, 42, 43, 44, 45, 46, 47, 48, 49, 50, 51, 52, 53] rfl (by decide +kernel)
set_option maxRecDepth 20000 in
theorem gX7_runs_X7_isThere : GoodIn wsX7_runs (wsV RX7 94 RX7 yX7_isThere wsX7_isThere) := goodIn_app (goodIn_r _ [7, 8, 9, 4] rfl (by decide +kernel)) ggX7_runs_X7_isThere
set_option maxRecDepth 20000 in
theorem ggX7_runs_X7_none : GoodIn wsX7_runs wsX7_none := goodIn_r _ [17, 18, 19, 20, 4, 21, 22, 38, 39, 40, 41, 42, 43, 44, 45, 46, 47, 48, 49, 50, 51, 52, 53] rfl (by decide +kernel)
set_option maxRecDepth 20000 in
theorem gX7_runs_X7_none : GoodIn wsX7_runs (wsV RX7 100 RX7 yX7_none wsX7_none) := goodIn_app (goodIn_r _ [14, 15, 16, 4] rfl (by decide +kernel)) ggX7_runs_X7_none
set_option maxRecDepth 20000 in
theorem ggX7_runs_X7_stand : GoodIn wsX7_runs wsX7_stand := goodIn_r _ [26, 6, 27, 28, 29, 4, 30, 31, 32, 33, 38, 39, 40, 41, 42, 43, 44, 45, 46, 47, 48, 49, 50, 51, 52, 53] rfl (by decide +kernel)
set_option maxRecDepth 20000 in
theorem gX7_runs_X7_stand : GoodIn wsX7_runs (wsV RX7 138 RX7 yX7_stand wsX7_stand) := goodIn_app (goodIn_r _ [23, 24, 25, 4] rfl (by decide +kernel)) ggX7_runs_X7_stand
set_option maxRecDepth 20000 in
theorem ggX7_runs_X7_task : GoodIn wsX7_runs wsX7_task := goodIn_r _ [37, 6, 38, 39, 40, 41, 42, 43, 44, 45, 46, 47, 48, 49, 50, 51, 52, 53] rfl (by decide +kernel)
set_option maxRecDepth 20000 in
theorem gX7_runs_X7_task : GoodIn wsX7_runs (wsV RX7 141 RX7 yX7_task wsX7_task) := goodIn_app (goodIn_r _ [34, 35, 36, 4] rfl (by decide +kernel)) ggX7_runs_X7_task
set_option maxRecDepth 20000 in
theorem ggX7_signal_X7_isThere : GoodIn wsX7_signal wsX7_isThere := goodIn_r _ [6, 1, 30, 31, 32, 33, 34, 35, 36, 37, 38, 39, 40, 41, 42, 43, 44, 45] rfl (by decide +kernel)
set_option maxRecDepth 20000 in
theorem gX7_signal_X7_isThere : GoodIn wsX7_signal (wsV RX7 94 RX7 yX7_isThere wsX7_isThere) := goodIn_app (goodIn_r _ [2, 3, 4, 5] rfl (by decide +kernel)) ggX7_signal_X7_isThere
set_option maxRecDepth 20000 in
theorem ggX7_signal_X7_in : GoodIn wsX7_signal wsX7_in := goodIn_r _ [9] rfl (by decide +kernel)
set_option maxRecDepth 20000 in
theorem gX7_signal_X7_in : GoodIn wsX7_signal (va_wsS RX7 39 yX7_in wsX7_in) := goodIn_app (goodIn_of _ (by decide +kernel)) ggX7_signal_X7_in
set_option maxRecDepth 20000 in
theorem ggX7_signal_X7_isInput : GoodIn wsX7_signal wsX7_isInput := goodIn_r _ [13, 1, 2, 3, 4, 5, 6, 7, 8, 9, 30, 31, 32, 33, 34, 35, 36, 37, 38, 39, 40, 41, 42, 43, 44, 45] rfl (by decide +kernel)
set_option maxRecDepth 20000 in
theorem gX7_signal_X7_isInput : GoodIn wsX7_signal (wsV RX7 144 RX7 yX7_isInput wsX7_isInput) := goodIn_app (goodIn_r _ [10, 11, 12, 5] rfl (by decide +kernel)) ggX7_signal_X7_isInput
set_option maxRecDepth 20000 in
theorem ggX7_signal_X7_none : GoodIn wsX7_signal wsX7_none := goodIn_r _ [17, 18, 19, 20, 5, 21, 22, 30, 31, 32, 33, 34, 35, 36, 37, 38, 39, 40, 41, 42, 43, 44, 45] rfl (by decide +kernel)
set_option maxRecDepth 20000 in
theorem gX7_signal_X7_none : GoodIn wsX7_signal (wsV RX7 100 RX7 yX7_none wsX7_none) := goodIn_app (goodIn_r _ [14, 15, 16, 5] rfl (by decide +kernel)) ggX7_signal_X7_none
set_option maxRecDepth 20000 in
theorem ggX7_signal_X7_signals : GoodIn wsX7_signal wsX7_signals := goodIn_r _ [26, 1, 27, 28, 5, 29, 30, 31, 32, 33, 34, 35, 36, 37, 38, 39, 40, 41, 42, 43, 44, 45] rfl (by decide +kernel)
set_option maxRecDepth 20000 in
theorem gX7_signal_X7_signals : GoodIn wsX7_signal (wsV RX7 135 RX7 yX7_signals wsX7_signals) := goodIn_app (goodIn_r _ [23, 24, 25, 5] rfl (by decide +kernel)) ggX7_signal_X7_signals
set_option maxRecDepth 20000 in
theorem ggX7_wrong_X7_in : GoodIn wsX7_wrong wsX7_in := goodIn_r _ [4] rfl (by decide +kernel)
set_option maxRecDepth 20000 in
theorem gX7_wrong_X7_in : GoodIn wsX7_wrong (va_wsS RX7 39 yX7_in wsX7_in) := goodIn_app (goodIn_of _ (by decide +kernel)) ggX7_wrong_X7_in
set_option maxRecDepth 20000 in
theorem ggX7_wrong_X7_isThere : GoodIn wsX7_wrong wsX7_isThere := goodIn_r _ [8, 9, 38, 39, 40, 41, 42, 43, 44, 45, 46, 47, 48, 49, 50, 51, 52, 53] rfl (by decide +kernel)
set_option maxRecDepth 20000 in
theorem gX7_wrong_X7_isThere : GoodIn wsX7_wrong (wsV RX7 94 RX7 yX7_isThere wsX7_isThere) := goodIn_app (goodIn_r _ [5, 6, 7, 3] rfl (by decide +kernel)) ggX7_wrong_X7_isThere
set_option maxRecDepth 20000 in
theorem ggX7_wrong_X7_none : GoodIn wsX7_wrong wsX7_none := goodIn_r _ [13, 14, 15, 16, 3, 17, 18, 38, 39, 40, 41, 42, 43, 44, 45, 46, 47, 48, 49, 50, 51, 52, 53] rfl (by decide +kernel)
set_option maxRecDepth 20000 in
theorem gX7_wrong_X7_none : GoodIn wsX7_wrong (wsV RX7 100 RX7 yX7_none wsX7_none) := goodIn_app (goodIn_r _ [10, 11, 12, 3] rfl (by decide +kernel)) ggX7_wrong_X7_none
set_option maxRecDepth 20000 in
theorem ggX7_wrong_X7_wrongOnes : GoodIn wsX7_wrong wsX7_wrongOnes := goodIn_r _ [22, 9, 23, 24, 25, 3, 26, 27, 28, 29, 30, 31, 32, 33, 34, 35, 36, 37, 38, 39, 40, 41, 42, 43, 44, 45, 46, 47, 48, 49, 50, 51, 52, 53] rfl (by decide +kernel)
set_option maxRecDepth 20000 in
theorem gX7_wrong_X7_wrongOnes : GoodIn wsX7_wrong (wsV RX7 147 RX7 yX7_wrongOnes wsX7_wrongOnes) := goodIn_app (goodIn_r _ [19, 20, 21, 3] rfl (by decide +kernel)) ggX7_wrong_X7_wrongOnes
set_option maxRecDepth 20000 in
theorem ggX7_cures_X7_isGate : GoodIn wsX7_cures wsX7_isGate := goodIn_r _ [6, 1, 7, 8, 9, 5, 10, 11, 12, 13, 42, 43, 44, 45, 46, 47, 48, 49, 50, 51, 52, 53, 54, 55, 56, 57] rfl (by decide +kernel)
set_option maxRecDepth 20000 in
theorem gX7_cures_X7_isGate : GoodIn wsX7_cures (wsV RX7 97 RX7 yX7_isGate wsX7_isGate) := goodIn_app (goodIn_r _ [2, 3, 4, 5] rfl (by decide +kernel)) ggX7_cures_X7_isGate
set_option maxRecDepth 20000 in
theorem ggX7_cures_X7_isThere : GoodIn wsX7_cures wsX7_isThere := goodIn_r _ [10, 1, 42, 43, 44, 45, 46, 47, 48, 49, 50, 51, 52, 53, 54, 55, 56, 57] rfl (by decide +kernel)
set_option maxRecDepth 20000 in
theorem gX7_cures_X7_isThere : GoodIn wsX7_cures (wsV RX7 94 RX7 yX7_isThere wsX7_isThere) := goodIn_app (goodIn_r _ [7, 8, 9, 5] rfl (by decide +kernel)) ggX7_cures_X7_isThere
set_option maxRecDepth 20000 in
theorem ggX7_cures_X7_none : GoodIn wsX7_cures wsX7_none := goodIn_r _ [17, 18, 19, 20, 5, 21, 22, 42, 43, 44, 45, 46, 47, 48, 49, 50, 51, 52, 53, 54, 55, 56, 57] rfl (by decide +kernel)
set_option maxRecDepth 20000 in
theorem gX7_cures_X7_none : GoodIn wsX7_cures (wsV RX7 100 RX7 yX7_none wsX7_none) := goodIn_app (goodIn_r _ [14, 15, 16, 5] rfl (by decide +kernel)) ggX7_cures_X7_none
set_option maxRecDepth 20000 in
theorem ggX7_cures_X7_wrongOnes : GoodIn wsX7_cures wsX7_wrongOnes := goodIn_r _ [26, 1, 27, 28, 29, 5, 30, 31, 32, 33, 34, 35, 36, 37, 38, 39, 40, 41, 42, 43, 44, 45, 46, 47, 48, 49, 50, 51, 52, 53, 54, 55, 56, 57] rfl (by decide +kernel)
set_option maxRecDepth 20000 in
theorem gX7_cures_X7_wrongOnes : GoodIn wsX7_cures (wsV RX7 147 RX7 yX7_wrongOnes wsX7_wrongOnes) := goodIn_app (goodIn_r _ [23, 24, 25, 5] rfl (by decide +kernel)) ggX7_cures_X7_wrongOnes
set_option maxRecDepth 20000 in
theorem ggX7_begin_X7_adds : GoodIn wsX7_begin wsX7_adds := goodIn_r _ [8, 1, 9, 10, 18, 19, 20, 21, 22, 23, 24, 25, 26, 27, 28, 29, 30, 31, 32, 33] rfl (by decide +kernel)
set_option maxRecDepth 20000 in
theorem gX7_begin_X7_adds : GoodIn wsX7_begin (wsV RX7 156 RX7 yX7_adds wsX7_adds) := goodIn_app (goodIn_r _ [4, 5, 6, 7] rfl (by decide +kernel)) ggX7_begin_X7_adds
set_option maxRecDepth 20000 in
theorem ggX7_begin_X7_becomes : GoodIn wsX7_begin wsX7_becomes := goodIn_r _ [14, 15, 1, 10, 16, 9, 17, 18, 19, 20, 21, 22, 23, 24, 25, 26, 27, 28, 29, 30, 31, 32, 33] rfl (by decide +kernel)
set_option maxRecDepth 20000 in
theorem gX7_begin_X7_becomes : GoodIn wsX7_begin (wsV RX7 162 RX7 yX7_becomes wsX7_becomes) := goodIn_app (goodIn_r _ [11, 12, 13, 7] rfl (by decide +kernel)) ggX7_begin_X7_becomes
set_option maxRecDepth 20000 in
theorem ggX7_puts_X7_adds : GoodIn wsX7_puts wsX7_adds := goodIn_r _ [7, 8, 9, 10, 11, 12, 13, 14, 15, 16, 17, 18, 19, 20, 21, 22, 23, 24, 25, 26] rfl (by decide +kernel)
set_option maxRecDepth 20000 in
theorem gX7_puts_X7_adds : GoodIn wsX7_puts (wsV RX7 156 RX7 yX7_adds wsX7_adds) := goodIn_app (goodIn_r _ [3, 4, 5, 6] rfl (by decide +kernel)) ggX7_puts_X7_adds
set_option maxRecDepth 20000 in
theorem ggX7_step_X7_adds : GoodIn wsX7_step wsX7_adds := goodIn_r _ [9, 10, 11, 12, 22, 23, 24, 25, 26, 27, 28, 29, 30, 31, 32, 33, 34, 35, 36, 37] rfl (by decide +kernel)
set_option maxRecDepth 20000 in
theorem gX7_step_X7_adds : GoodIn wsX7_step (wsV RX7 156 RX7 yX7_adds wsX7_adds) := goodIn_app (goodIn_r _ [5, 6, 7, 8] rfl (by decide +kernel)) ggX7_step_X7_adds
set_option maxRecDepth 20000 in
theorem ggX7_step_X7_puts : GoodIn wsX7_step wsX7_puts := goodIn_r _ [16, 1, 17, 5, 6, 7, 8, 9, 10, 11, 12, 22, 23, 24, 25, 26, 27, 28, 29, 30, 31, 32, 33, 34, 35, 36, 37] rfl (by decide +kernel)
set_option maxRecDepth 20000 in
theorem gX7_step_X7_puts : GoodIn wsX7_step (wsV RX7 167 RX7 yX7_puts wsX7_puts) := goodIn_app (goodIn_r _ [13, 14, 15, 8] rfl (by decide +kernel)) ggX7_step_X7_puts
set_option maxRecDepth 20000 in
theorem ggX7_step_X7_becomes : GoodIn wsX7_step wsX7_becomes := goodIn_r _ [21, 2, 10, 12, 3, 11, 4, 22, 23, 24, 25, 26, 27, 28, 29, 30, 31, 32, 33, 34, 35, 36, 37] rfl (by decide +kernel)
set_option maxRecDepth 20000 in
theorem gX7_step_X7_becomes : GoodIn wsX7_step (wsV RX7 162 RX7 yX7_becomes wsX7_becomes) := goodIn_app (goodIn_r _ [18, 19, 20, 8] rfl (by decide +kernel)) ggX7_step_X7_becomes
set_option maxRecDepth 20000 in
theorem ggX7_comes_X7_begin : GoodIn wsX7_comes wsX7_begin := goodIn_r _ [8, 9, 3, 10, 11, 12, 13, 7, 14, 15, 16, 17, 18, 19, 20, 1, 21, 22, 32, 33, 34, 35, 36, 37, 38, 39, 40, 41, 42, 43, 44, 45, 46, 47] rfl (by decide +kernel)
set_option maxRecDepth 20000 in
theorem gX7_comes_X7_begin : GoodIn wsX7_comes (wsV RX7 171 RX7 yX7_begin wsX7_begin) := goodIn_app (goodIn_r _ [4, 5, 6, 7] rfl (by decide +kernel)) ggX7_comes_X7_begin
set_option maxRecDepth 20000 in
theorem ggX7_comes_X7_step : GoodIn wsX7_comes wsX7_step := goodIn_r _ [26, 3, 1, 21, 22, 11, 12, 13, 7, 14, 9, 15, 16, 27, 28, 29, 30, 31, 17, 18, 19, 20, 32, 33, 34, 35, 36, 37, 38, 39, 40, 41, 42, 43, 44, 45, 46, 47] rfl (by decide +kernel)
set_option maxRecDepth 20000 in
theorem gX7_comes_X7_step : GoodIn wsX7_comes (wsV RX7 177 RX7 yX7_step wsX7_step) := goodIn_app (goodIn_r _ [23, 24, 25, 7] rfl (by decide +kernel)) ggX7_comes_X7_step
set_option maxRecDepth 20000 in
theorem ggX7_right_X7_isThere : GoodIn wsX7_right wsX7_isThere := goodIn_r _ [7, 1, 45, 46, 47, 48, 49, 50, 51, 52, 53, 54, 55, 56, 57, 58, 59, 60] rfl (by decide +kernel)
set_option maxRecDepth 20000 in
theorem gX7_right_X7_isThere : GoodIn wsX7_right (wsV RX7 94 RX7 yX7_isThere wsX7_isThere) := goodIn_app (goodIn_r _ [3, 4, 5, 6] rfl (by decide +kernel)) ggX7_right_X7_isThere
set_option maxRecDepth 20000 in
theorem ggX7_right_X7_refuses : GoodIn wsX7_right wsX7_refuses := goodIn_r _ [11, 12, 45, 46, 47, 48, 49, 50, 51, 52, 53, 54, 55, 56, 57, 58, 59, 60] rfl (by decide +kernel)
set_option maxRecDepth 20000 in
theorem gX7_right_X7_refuses : GoodIn wsX7_right (wsV RX7 43 RX7 yX7_refuses wsX7_refuses) := goodIn_app (goodIn_r _ [8, 9, 10, 6] rfl (by decide +kernel)) ggX7_right_X7_refuses
set_option maxRecDepth 20000 in
theorem ggX7_right_X7_comes : GoodIn wsX7_right wsX7_comes := goodIn_r _ [16, 2, 17, 1, 18, 19, 20, 6, 21, 22, 23, 24, 25, 26, 27, 28, 29, 30, 31, 32, 33, 34, 35, 36, 37, 38, 39, 40, 41, 42, 43, 44, 45, 46, 47, 48, 49, 50, 51, 52, 53, 54, 55, 56, 57, 58, 59, 60] rfl (by decide +kernel)
set_option maxRecDepth 20000 in
theorem gX7_right_X7_comes : GoodIn wsX7_right (wsV RX7 180 RX7 yX7_comes wsX7_comes) := goodIn_app (goodIn_r _ [13, 14, 15, 6] rfl (by decide +kernel)) ggX7_right_X7_comes
set_option maxRecDepth 20000 in
theorem ggX7_terms_X7_isStage : GoodIn wsX7_terms wsX7_isStage := goodIn_r _ [6, 7, 8, 9, 10, 5, 11, 12, 13, 14, 56, 57, 58, 59, 60, 61, 62, 63, 64, 65, 66, 67, 68, 69, 70, 71] rfl (by decide +kernel)
set_option maxRecDepth 20000 in
theorem gX7_terms_X7_isStage : GoodIn wsX7_terms (wsV RX7 183 RX7 yX7_isStage wsX7_isStage) := goodIn_app (goodIn_r _ [2, 3, 4, 5] rfl (by decide +kernel)) ggX7_terms_X7_isStage
set_option maxRecDepth 20000 in
theorem ggX7_terms_X7_isThere : GoodIn wsX7_terms wsX7_isThere := goodIn_r _ [11, 7, 56, 57, 58, 59, 60, 61, 62, 63, 64, 65, 66, 67, 68, 69, 70, 71] rfl (by decide +kernel)
set_option maxRecDepth 20000 in
theorem gX7_terms_X7_isThere : GoodIn wsX7_terms (wsV RX7 94 RX7 yX7_isThere wsX7_isThere) := goodIn_app (goodIn_r _ [8, 9, 10, 5] rfl (by decide +kernel)) ggX7_terms_X7_isThere
set_option maxRecDepth 20000 in
theorem ggX7_terms_X7_none : GoodIn wsX7_terms wsX7_none := goodIn_r _ [18, 19, 20, 21, 5, 22, 23, 56, 57, 58, 59, 60, 61, 62, 63, 64, 65, 66, 67, 68, 69, 70, 71] rfl (by decide +kernel)
set_option maxRecDepth 20000 in
theorem gX7_terms_X7_none : GoodIn wsX7_terms (wsV RX7 100 RX7 yX7_none wsX7_none) := goodIn_app (goodIn_r _ [15, 16, 17, 5] rfl (by decide +kernel)) ggX7_terms_X7_none
set_option maxRecDepth 20000 in
theorem ggX7_terms_X7_comes : GoodIn wsX7_terms wsX7_comes := goodIn_r _ [27, 1, 28, 7, 29, 30, 31, 5, 32, 33, 34, 35, 36, 37, 38, 39, 40, 41, 42, 43, 44, 45, 46, 47, 48, 49, 50, 51, 52, 53, 54, 55, 56, 57, 58, 59, 60, 61, 62, 63, 64, 65, 66, 67, 68, 69, 70, 71] rfl (by decide +kernel)
set_option maxRecDepth 20000 in
theorem gX7_terms_X7_comes : GoodIn wsX7_terms (wsV RX7 180 RX7 yX7_comes wsX7_comes) := goodIn_app (goodIn_r _ [24, 25, 26, 5] rfl (by decide +kernel)) ggX7_terms_X7_comes
set_option maxRecDepth 20000 in
theorem ggX7_terms_X7_refuses : GoodIn wsX7_terms wsX7_refuses := goodIn_r _ [22, 23, 56, 57, 58, 59, 60, 61, 62, 63, 64, 65, 66, 67, 68, 69, 70, 71] rfl (by decide +kernel)
set_option maxRecDepth 20000 in
theorem gX7_terms_X7_refuses : GoodIn wsX7_terms (wsV RX7 43 RX7 yX7_refuses wsX7_refuses) := goodIn_app (goodIn_r _ [19, 20, 21, 5] rfl (by decide +kernel)) ggX7_terms_X7_refuses
set_option maxRecDepth 20000 in
theorem ggX7_term_X7_isStage : GoodIn wsX7_term wsX7_isStage := goodIn_r _ [8, 9, 10, 11, 12, 7, 13, 14, 15, 16, 56, 57, 58, 59, 60, 61, 62, 63, 64, 65, 66, 67, 68, 69, 70, 71] rfl (by decide +kernel)
set_option maxRecDepth 20000 in
theorem gX7_term_X7_isStage : GoodIn wsX7_term (wsV RX7 183 RX7 yX7_isStage wsX7_isStage) := goodIn_app (goodIn_r _ [4, 5, 6, 7] rfl (by decide +kernel)) ggX7_term_X7_isStage
set_option maxRecDepth 20000 in
theorem ggX7_term_X7_in : GoodIn wsX7_term wsX7_in := goodIn_r _ [16] rfl (by decide +kernel)
set_option maxRecDepth 20000 in
theorem gX7_term_X7_in : GoodIn wsX7_term (va_wsS RX7 39 yX7_in wsX7_in) := goodIn_app (goodIn_of _ (by decide +kernel)) ggX7_term_X7_in
set_option maxRecDepth 20000 in
theorem ggX7_term_X7_isThere : GoodIn wsX7_term wsX7_isThere := goodIn_r _ [13, 9, 56, 57, 58, 59, 60, 61, 62, 63, 64, 65, 66, 67, 68, 69, 70, 71] rfl (by decide +kernel)
set_option maxRecDepth 20000 in
theorem gX7_term_X7_isThere : GoodIn wsX7_term (wsV RX7 94 RX7 yX7_isThere wsX7_isThere) := goodIn_app (goodIn_r _ [10, 11, 12, 7] rfl (by decide +kernel)) ggX7_term_X7_isThere
set_option maxRecDepth 20000 in
theorem ggX7_term_X7_none : GoodIn wsX7_term wsX7_none := goodIn_r _ [20, 21, 22, 23, 7, 24, 25, 56, 57, 58, 59, 60, 61, 62, 63, 64, 65, 66, 67, 68, 69, 70, 71] rfl (by decide +kernel)
set_option maxRecDepth 20000 in
theorem gX7_term_X7_none : GoodIn wsX7_term (wsV RX7 100 RX7 yX7_none wsX7_none) := goodIn_app (goodIn_r _ [17, 18, 19, 7] rfl (by decide +kernel)) ggX7_term_X7_none
set_option maxRecDepth 20000 in
theorem ggX7_term_X7_comes : GoodIn wsX7_term wsX7_comes := goodIn_r _ [29, 1, 30, 9, 31, 32, 33, 7, 34, 35, 36, 37, 38, 39, 40, 41, 42, 43, 44, 45, 46, 3, 2, 47, 48, 49, 50, 51, 52, 53, 54, 55, 56, 57, 58, 59, 60, 61, 62, 63, 64, 65, 66, 67, 68, 69, 70, 71] rfl (by decide +kernel)
set_option maxRecDepth 20000 in
theorem gX7_term_X7_comes : GoodIn wsX7_term (wsV RX7 180 RX7 yX7_comes wsX7_comes) := goodIn_app (goodIn_r _ [26, 27, 28, 7] rfl (by decide +kernel)) ggX7_term_X7_comes
set_option maxRecDepth 20000 in
theorem ggX7_term_X7_refuses : GoodIn wsX7_term wsX7_refuses := goodIn_r _ [24, 25, 56, 57, 58, 59, 60, 61, 62, 63, 64, 65, 66, 67, 68, 69, 70, 71] rfl (by decide +kernel)
set_option maxRecDepth 20000 in
theorem gX7_term_X7_refuses : GoodIn wsX7_term (wsV RX7 43 RX7 yX7_refuses wsX7_refuses) := goodIn_app (goodIn_r _ [21, 22, 23, 7] rfl (by decide +kernel)) ggX7_term_X7_refuses
set_option maxRecDepth 20000 in
theorem ggX7_most_X7_in : GoodIn wsX7_most wsX7_in := goodIn_r _ [9] rfl (by decide +kernel)
set_option maxRecDepth 20000 in
theorem gX7_most_X7_in : GoodIn wsX7_most (va_wsS RX7 39 yX7_in wsX7_in) := goodIn_app (goodIn_of _ (by decide +kernel)) ggX7_most_X7_in
set_option maxRecDepth 20000 in
theorem ggX7_most_X7_isThere : GoodIn wsX7_most wsX7_isThere := goodIn_r _ [13, 1, 55, 56, 57, 58, 59, 60, 61, 62, 63, 64, 65, 66, 67, 68, 69, 70] rfl (by decide +kernel)
set_option maxRecDepth 20000 in
theorem gX7_most_X7_isThere : GoodIn wsX7_most (wsV RX7 94 RX7 yX7_isThere wsX7_isThere) := goodIn_app (goodIn_r _ [10, 11, 12, 8] rfl (by decide +kernel)) ggX7_most_X7_isThere
set_option maxRecDepth 20000 in
theorem ggX7_most_X7_none : GoodIn wsX7_most wsX7_none := goodIn_r _ [17, 18, 19, 20, 8, 21, 22, 55, 56, 57, 58, 59, 60, 61, 62, 63, 64, 65, 66, 67, 68, 69, 70] rfl (by decide +kernel)
set_option maxRecDepth 20000 in
theorem gX7_most_X7_none : GoodIn wsX7_most (wsV RX7 100 RX7 yX7_none wsX7_none) := goodIn_app (goodIn_r _ [14, 15, 16, 8] rfl (by decide +kernel)) ggX7_most_X7_none
set_option maxRecDepth 20000 in
theorem ggX7_most_X7_comes : GoodIn wsX7_most wsX7_comes := goodIn_r _ [26, 2, 5, 1, 27, 28, 29, 8, 30, 31, 32, 33, 34, 35, 36, 37, 38, 39, 40, 41, 42, 3, 4, 43, 44, 45, 46, 47, 48, 49, 50, 51, 55, 56, 57, 58, 59, 60, 61, 62, 63, 64, 65, 66, 67, 68, 69, 70] rfl (by decide +kernel)
set_option maxRecDepth 20000 in
theorem gX7_most_X7_comes : GoodIn wsX7_most (wsV RX7 180 RX7 yX7_comes wsX7_comes) := goodIn_app (goodIn_r _ [23, 24, 25, 8] rfl (by decide +kernel)) ggX7_most_X7_comes
set_option maxRecDepth 20000 in
theorem ggX7_most_X7_refuses : GoodIn wsX7_most wsX7_refuses := goodIn_r _ [21, 22, 55, 56, 57, 58, 59, 60, 61, 62, 63, 64, 65, 66, 67, 68, 69, 70] rfl (by decide +kernel)
set_option maxRecDepth 20000 in
theorem gX7_most_X7_refuses : GoodIn wsX7_most (wsV RX7 43 RX7 yX7_refuses wsX7_refuses) := goodIn_app (goodIn_r _ [18, 19, 20, 8] rfl (by decide +kernel)) ggX7_most_X7_refuses
set_option maxRecDepth 20000 in
theorem ggX7_most_X7_ones : GoodIn wsX7_most wsX7_ones := goodIn_r _ [54] rfl (by decide +kernel)
set_option maxRecDepth 20000 in
theorem gX7_most_X7_ones : GoodIn wsX7_most (va_wsS RX7 186 yX7_ones wsX7_ones) := goodIn_app (goodIn_of _ (by decide +kernel)) ggX7_most_X7_ones
set_option maxRecDepth 20000 in
theorem ggX7_dearest_X7_isStage : GoodIn wsX7_dearest wsX7_isStage := goodIn_r _ [8, 9, 10, 11, 12, 7, 13, 14, 15, 16, 59, 60, 61, 62, 63, 64, 65, 66, 67, 68, 69, 70, 71, 72, 73, 74] rfl (by decide +kernel)
set_option maxRecDepth 20000 in
theorem gX7_dearest_X7_isStage : GoodIn wsX7_dearest (wsV RX7 183 RX7 yX7_isStage wsX7_isStage) := goodIn_app (goodIn_r _ [4, 5, 6, 7] rfl (by decide +kernel)) ggX7_dearest_X7_isStage
set_option maxRecDepth 20000 in
theorem ggX7_dearest_X7_isThere : GoodIn wsX7_dearest wsX7_isThere := goodIn_r _ [13, 9, 59, 60, 61, 62, 63, 64, 65, 66, 67, 68, 69, 70, 71, 72, 73, 74] rfl (by decide +kernel)
set_option maxRecDepth 20000 in
theorem gX7_dearest_X7_isThere : GoodIn wsX7_dearest (wsV RX7 94 RX7 yX7_isThere wsX7_isThere) := goodIn_app (goodIn_r _ [10, 11, 12, 7] rfl (by decide +kernel)) ggX7_dearest_X7_isThere
set_option maxRecDepth 20000 in
theorem ggX7_dearest_X7_none : GoodIn wsX7_dearest wsX7_none := goodIn_r _ [20, 21, 22, 23, 7, 24, 25, 59, 60, 61, 62, 63, 64, 65, 66, 67, 68, 69, 70, 71, 72, 73, 74] rfl (by decide +kernel)
set_option maxRecDepth 20000 in
theorem gX7_dearest_X7_none : GoodIn wsX7_dearest (wsV RX7 100 RX7 yX7_none wsX7_none) := goodIn_app (goodIn_r _ [17, 18, 19, 7] rfl (by decide +kernel)) ggX7_dearest_X7_none
set_option maxRecDepth 20000 in
theorem ggX7_dearest_X7_comes : GoodIn wsX7_dearest wsX7_comes := goodIn_r _ [29, 1, 30, 9, 31, 32, 33, 7, 34, 35, 36, 37, 38, 39, 40, 41, 42, 43, 44, 45, 46, 3, 2, 47, 48, 49, 50, 51, 52, 53, 54, 55, 59, 60, 61, 62, 63, 64, 65, 66, 67, 68, 69, 70, 71, 72, 73, 74] rfl (by decide +kernel)
set_option maxRecDepth 20000 in
theorem gX7_dearest_X7_comes : GoodIn wsX7_dearest (wsV RX7 180 RX7 yX7_comes wsX7_comes) := goodIn_app (goodIn_r _ [26, 27, 28, 7] rfl (by decide +kernel)) ggX7_dearest_X7_comes
set_option maxRecDepth 20000 in
theorem ggX7_dearest_X7_refuses : GoodIn wsX7_dearest wsX7_refuses := goodIn_r _ [24, 25, 59, 60, 61, 62, 63, 64, 65, 66, 67, 68, 69, 70, 71, 72, 73, 74] rfl (by decide +kernel)
set_option maxRecDepth 20000 in
theorem gX7_dearest_X7_refuses : GoodIn wsX7_dearest (wsV RX7 43 RX7 yX7_refuses wsX7_refuses) := goodIn_app (goodIn_r _ [21, 22, 23, 7] rfl (by decide +kernel)) ggX7_dearest_X7_refuses
set_option maxRecDepth 20000 in
theorem ggX7_dearest_X7_size : GoodIn wsX7_dearest wsX7_size := goodIn_r _ [58] rfl (by decide +kernel)
set_option maxRecDepth 20000 in
theorem gX7_dearest_X7_size : GoodIn wsX7_dearest (va_wsS RX7 189 yX7_size wsX7_size) := goodIn_app (goodIn_of _ (by decide +kernel)) ggX7_dearest_X7_size
set_option maxRecDepth 20000 in
theorem ggX7_value_X7_isStage : GoodIn wsX7_value wsX7_isStage := goodIn_r _ [8, 9, 10, 11, 12, 7, 13, 14, 15, 16, 67, 68, 69, 70, 71, 72, 73, 74, 75, 76, 77, 78, 79, 80, 81, 82] rfl (by decide +kernel)
set_option maxRecDepth 20000 in
theorem gX7_value_X7_isStage : GoodIn wsX7_value (wsV RX7 183 RX7 yX7_isStage wsX7_isStage) := goodIn_app (goodIn_r _ [4, 5, 6, 7] rfl (by decide +kernel)) ggX7_value_X7_isStage
set_option maxRecDepth 20000 in
theorem ggX7_value_X7_isInput : GoodIn wsX7_value wsX7_isInput := goodIn_r _ [20, 9, 10, 11, 12, 7, 13, 14, 15, 16, 67, 68, 69, 70, 71, 72, 73, 74, 75, 76, 77, 78, 79, 80, 81, 82] rfl (by decide +kernel)
set_option maxRecDepth 20000 in
theorem gX7_value_X7_isInput : GoodIn wsX7_value (wsV RX7 144 RX7 yX7_isInput wsX7_isInput) := goodIn_app (goodIn_r _ [17, 18, 19, 7] rfl (by decide +kernel)) ggX7_value_X7_isInput
set_option maxRecDepth 20000 in
theorem ggX7_value_X7_isThere : GoodIn wsX7_value wsX7_isThere := goodIn_r _ [13, 9, 67, 68, 69, 70, 71, 72, 73, 74, 75, 76, 77, 78, 79, 80, 81, 82] rfl (by decide +kernel)
set_option maxRecDepth 20000 in
theorem gX7_value_X7_isThere : GoodIn wsX7_value (wsV RX7 94 RX7 yX7_isThere wsX7_isThere) := goodIn_app (goodIn_r _ [10, 11, 12, 7] rfl (by decide +kernel)) ggX7_value_X7_isThere
set_option maxRecDepth 20000 in
theorem ggX7_value_X7_none : GoodIn wsX7_value wsX7_none := goodIn_r _ [24, 25, 26, 27, 7, 28, 29, 67, 68, 69, 70, 71, 72, 73, 74, 75, 76, 77, 78, 79, 80, 81, 82] rfl (by decide +kernel)
set_option maxRecDepth 20000 in
theorem gX7_value_X7_none : GoodIn wsX7_value (wsV RX7 100 RX7 yX7_none wsX7_none) := goodIn_app (goodIn_r _ [21, 22, 23, 7] rfl (by decide +kernel)) ggX7_value_X7_none
set_option maxRecDepth 20000 in
theorem ggX7_value_X7_comes : GoodIn wsX7_value wsX7_comes := goodIn_r _ [33, 1, 34, 9, 35, 36, 37, 7, 38, 39, 40, 41, 42, 43, 44, 45, 46, 47, 48, 49, 50, 2, 3, 51, 52, 53, 54, 55, 56, 57, 58, 59, 67, 68, 69, 70, 71, 72, 73, 74, 75, 76, 77, 78, 79, 80, 81, 82] rfl (by decide +kernel)
set_option maxRecDepth 20000 in
theorem gX7_value_X7_comes : GoodIn wsX7_value (wsV RX7 180 RX7 yX7_comes wsX7_comes) := goodIn_app (goodIn_r _ [30, 31, 32, 7] rfl (by decide +kernel)) ggX7_value_X7_comes
set_option maxRecDepth 20000 in
theorem ggX7_value_X7_refuses : GoodIn wsX7_value wsX7_refuses := goodIn_r _ [28, 29, 67, 68, 69, 70, 71, 72, 73, 74, 75, 76, 77, 78, 79, 80, 81, 82] rfl (by decide +kernel)
set_option maxRecDepth 20000 in
theorem gX7_value_X7_refuses : GoodIn wsX7_value (wsV RX7 43 RX7 yX7_refuses wsX7_refuses) := goodIn_app (goodIn_r _ [25, 26, 27, 7] rfl (by decide +kernel)) ggX7_value_X7_refuses
set_option maxRecDepth 20000 in
theorem ggX7_value_X7_signals : GoodIn wsX7_value wsX7_signals := goodIn_r _ [63, 9, 64, 65, 7, 66, 67, 68, 69, 70, 71, 72, 73, 74, 75, 76, 77, 78, 79, 80, 81, 82] rfl (by decide +kernel)
set_option maxRecDepth 20000 in
theorem gX7_value_X7_signals : GoodIn wsX7_value (wsV RX7 135 RX7 yX7_signals wsX7_signals) := goodIn_app (goodIn_r _ [60, 61, 62, 7] rfl (by decide +kernel)) ggX7_value_X7_signals
set_option maxRecDepth 20000 in
theorem ggX7_stands_X7_isStage : GoodIn wsX7_stands wsX7_isStage := goodIn_r _ [7, 8, 9, 10, 11, 6, 12, 13, 14, 15, 56, 57, 58, 59, 60, 61, 62, 63, 64, 65, 66, 67, 68, 69, 70, 71] rfl (by decide +kernel)
set_option maxRecDepth 20000 in
theorem gX7_stands_X7_isStage : GoodIn wsX7_stands (wsV RX7 183 RX7 yX7_isStage wsX7_isStage) := goodIn_app (goodIn_r _ [3, 4, 5, 6] rfl (by decide +kernel)) ggX7_stands_X7_isStage
set_option maxRecDepth 20000 in
theorem ggX7_stands_X7_isThere : GoodIn wsX7_stands wsX7_isThere := goodIn_r _ [12, 8, 56, 57, 58, 59, 60, 61, 62, 63, 64, 65, 66, 67, 68, 69, 70, 71] rfl (by decide +kernel)
set_option maxRecDepth 20000 in
theorem gX7_stands_X7_isThere : GoodIn wsX7_stands (wsV RX7 94 RX7 yX7_isThere wsX7_isThere) := goodIn_app (goodIn_r _ [9, 10, 11, 6] rfl (by decide +kernel)) ggX7_stands_X7_isThere
set_option maxRecDepth 20000 in
theorem ggX7_stands_X7_none : GoodIn wsX7_stands wsX7_none := goodIn_r _ [19, 20, 21, 22, 6, 23, 24, 56, 57, 58, 59, 60, 61, 62, 63, 64, 65, 66, 67, 68, 69, 70, 71] rfl (by decide +kernel)
set_option maxRecDepth 20000 in
theorem gX7_stands_X7_none : GoodIn wsX7_stands (wsV RX7 100 RX7 yX7_none wsX7_none) := goodIn_app (goodIn_r _ [16, 17, 18, 6] rfl (by decide +kernel)) ggX7_stands_X7_none
set_option maxRecDepth 20000 in
theorem ggX7_stands_X7_comes : GoodIn wsX7_stands wsX7_comes := goodIn_r _ [28, 1, 29, 8, 30, 31, 32, 6, 33, 34, 35, 36, 37, 38, 39, 40, 41, 42, 43, 44, 45, 2, 46, 47, 48, 49, 50, 51, 52, 53, 54, 55, 56, 57, 58, 59, 60, 61, 62, 63, 64, 65, 66, 67, 68, 69, 70, 71] rfl (by decide +kernel)
set_option maxRecDepth 20000 in
theorem gX7_stands_X7_comes : GoodIn wsX7_stands (wsV RX7 180 RX7 yX7_comes wsX7_comes) := goodIn_app (goodIn_r _ [25, 26, 27, 6] rfl (by decide +kernel)) ggX7_stands_X7_comes
set_option maxRecDepth 20000 in
theorem ggX7_stands_X7_refuses : GoodIn wsX7_stands wsX7_refuses := goodIn_r _ [23, 24, 56, 57, 58, 59, 60, 61, 62, 63, 64, 65, 66, 67, 68, 69, 70, 71] rfl (by decide +kernel)
set_option maxRecDepth 20000 in
theorem gX7_stands_X7_refuses : GoodIn wsX7_stands (wsV RX7 43 RX7 yX7_refuses wsX7_refuses) := goodIn_app (goodIn_r _ [20, 21, 22, 6] rfl (by decide +kernel)) ggX7_stands_X7_refuses
set_option maxRecDepth 20000 in
theorem ggX7_witness_X7_isThere : GoodIn wsX7_witness wsX7_isThere := goodIn_r _ [9, 1, 49, 50, 51, 52, 53, 54, 55, 56, 57, 58, 59, 60, 61, 62, 63, 64] rfl (by decide +kernel)
set_option maxRecDepth 20000 in
theorem gX7_witness_X7_isThere : GoodIn wsX7_witness (wsV RX7 94 RX7 yX7_isThere wsX7_isThere) := goodIn_app (goodIn_r _ [5, 6, 7, 8] rfl (by decide +kernel)) ggX7_witness_X7_isThere
set_option maxRecDepth 20000 in
theorem ggX7_witness_X7_refuses : GoodIn wsX7_witness wsX7_refuses := goodIn_r _ [13, 14, 49, 50, 51, 52, 53, 54, 55, 56, 57, 58, 59, 60, 61, 62, 63, 64] rfl (by decide +kernel)
set_option maxRecDepth 20000 in
theorem gX7_witness_X7_refuses : GoodIn wsX7_witness (wsV RX7 43 RX7 yX7_refuses wsX7_refuses) := goodIn_app (goodIn_r _ [10, 11, 12, 8] rfl (by decide +kernel)) ggX7_witness_X7_refuses
set_option maxRecDepth 20000 in
theorem ggX7_witness_X7_comes : GoodIn wsX7_witness wsX7_comes := goodIn_r _ [18, 3, 19, 1, 20, 21, 22, 8, 23, 24, 25, 26, 27, 28, 29, 30, 31, 32, 33, 34, 35, 4, 36, 37, 38, 39, 40, 41, 42, 43, 44, 45, 49, 50, 51, 52, 53, 54, 55, 56, 57, 58, 59, 60, 61, 62, 63, 64] rfl (by decide +kernel)
set_option maxRecDepth 20000 in
theorem gX7_witness_X7_comes : GoodIn wsX7_witness (wsV RX7 180 RX7 yX7_comes wsX7_comes) := goodIn_app (goodIn_r _ [15, 16, 17, 8] rfl (by decide +kernel)) ggX7_witness_X7_comes
set_option maxRecDepth 20000 in
theorem ggX7_witness_X7_ones : GoodIn wsX7_witness wsX7_ones := goodIn_r _ [48] rfl (by decide +kernel)
set_option maxRecDepth 20000 in
theorem gX7_witness_X7_ones : GoodIn wsX7_witness (va_wsS RX7 186 yX7_ones wsX7_ones) := goodIn_app (goodIn_of _ (by decide +kernel)) ggX7_witness_X7_ones
set_option maxRecDepth 20000 in
theorem ggX7_count_X7_in : GoodIn wsX7_count wsX7_in := goodIn_r _ [4] rfl (by decide +kernel)
set_option maxRecDepth 20000 in
theorem gX7_count_X7_in : GoodIn wsX7_count (va_wsS RX7 39 yX7_in wsX7_in) := goodIn_app (goodIn_of _ (by decide +kernel)) ggX7_count_X7_in
set_option maxRecDepth 20000 in
theorem ggX7_count_X7_countOf : GoodIn wsX7_count wsX7_countOf := goodIn_r _ [8, 9, 10, 11, 16, 17, 18, 19, 20, 21, 22, 23, 24, 25, 26, 27, 28, 29, 30, 31] rfl (by decide +kernel)
set_option maxRecDepth 20000 in
theorem gX7_count_X7_countOf : GoodIn wsX7_count (wsV RX7 196 RX7 yX7_countOf wsX7_countOf) := goodIn_app (goodIn_r _ [5, 6, 7, 3] rfl (by decide +kernel)) ggX7_count_X7_countOf
set_option maxRecDepth 20000 in
theorem ggX7_count_X7_refuses : GoodIn wsX7_count wsX7_refuses := goodIn_r _ [15, 9, 16, 17, 18, 19, 20, 21, 22, 23, 24, 25, 26, 27, 28, 29, 30, 31] rfl (by decide +kernel)
set_option maxRecDepth 20000 in
theorem gX7_count_X7_refuses : GoodIn wsX7_count (wsV RX7 43 RX7 yX7_refuses wsX7_refuses) := goodIn_app (goodIn_r _ [12, 13, 14, 3] rfl (by decide +kernel)) ggX7_count_X7_refuses
set_option maxRecDepth 20000 in
theorem ggX7_digest_X7_countOf : GoodIn wsX7_digest wsX7_countOf := goodIn_r _ [8, 9, 10, 3, 34, 35, 36, 37, 38, 39, 40, 41, 42, 43, 44, 45, 46, 47, 48, 49] rfl (by decide +kernel)
set_option maxRecDepth 20000 in
theorem gX7_digest_X7_countOf : GoodIn wsX7_digest (wsV RX7 196 RX7 yX7_countOf wsX7_countOf) := goodIn_app (goodIn_r _ [4, 5, 6, 7] rfl (by decide +kernel)) ggX7_digest_X7_countOf
set_option maxRecDepth 20000 in
theorem ggX7_digest_X7_isThere : GoodIn wsX7_digest wsX7_isThere := goodIn_r _ [14, 3, 34, 35, 36, 37, 38, 39, 40, 41, 42, 43, 44, 45, 46, 47, 48, 49] rfl (by decide +kernel)
set_option maxRecDepth 20000 in
theorem gX7_digest_X7_isThere : GoodIn wsX7_digest (wsV RX7 94 RX7 yX7_isThere wsX7_isThere) := goodIn_app (goodIn_r _ [11, 12, 13, 7] rfl (by decide +kernel)) ggX7_digest_X7_isThere
set_option maxRecDepth 20000 in
theorem ggX7_digest_X7_wrongOnes : GoodIn wsX7_digest wsX7_wrongOnes := goodIn_r _ [18, 3, 19, 20, 21, 7, 22, 23, 24, 25, 26, 27, 28, 29, 30, 31, 32, 33, 34, 35, 36, 37, 38, 39, 40, 41, 42, 43, 44, 45, 46, 47, 48, 49] rfl (by decide +kernel)
set_option maxRecDepth 20000 in
theorem gX7_digest_X7_wrongOnes : GoodIn wsX7_digest (wsV RX7 147 RX7 yX7_wrongOnes wsX7_wrongOnes) := goodIn_app (goodIn_r _ [15, 16, 17, 7] rfl (by decide +kernel)) ggX7_digest_X7_wrongOnes
set_option maxRecDepth 20000 in
theorem ggJ0_length_8abf5_J0_coder_7d493 : GoodIn wsJ0_length_8abf5 wsJ0_coder_7d493 := goodIn_r _ [6, 7, 8] rfl (by decide +kernel)
set_option maxRecDepth 20000 in
theorem gJ0_length_8abf5_J0_coder_7d493 : GoodIn wsJ0_length_8abf5 (wsV RJ0 335 RJ0 yJ0_coder_7d493 wsJ0_coder_7d493) := goodIn_app (goodIn_r _ [2, 3, 4, 5] rfl (by decide +kernel)) ggJ0_length_8abf5_J0_coder_7d493
set_option maxRecDepth 20000 in
theorem ggJ0_charAt_5068e_J0_isLatin1_aae02 : GoodIn wsJ0_charAt_5068e wsJ0_isLatin1_aae02 := goodIn_r _ [6, 7, 8] rfl (by decide +kernel)
set_option maxRecDepth 20000 in
theorem gJ0_charAt_5068e_J0_isLatin1_aae02 : GoodIn wsJ0_charAt_5068e (wsV RJ0 492 RJ0 yJ0_isLatin1_aae02 wsJ0_isLatin1_aae02) := goodIn_app (goodIn_r _ [2, 3, 4, 5] rfl (by decide +kernel)) ggJ0_charAt_5068e_J0_isLatin1_aae02
set_option maxRecDepth 20000 in
theorem ggJ0_charAt_5068e_J1_charAt_3b067 : GoodIn wsJ0_charAt_5068e wsJ1_charAt_3b067 := goodIn_r _ [12, 13, 14, 5, 15, 16, 17, 18, 19, 20] rfl (by decide +kernel)
set_option maxRecDepth 20000 in
theorem gJ0_charAt_5068e_J1_charAt_3b067 : GoodIn wsJ0_charAt_5068e (va_wsS RJ0 495 yJ1_charAt_3b067 wsJ1_charAt_3b067) := goodIn_app (goodIn_of _ (by decide +kernel)) ggJ0_charAt_5068e_J1_charAt_3b067
set_option maxRecDepth 20000 in
theorem ggJ0_charAt_5068e_J2_charAt_3b067 : GoodIn wsJ0_charAt_5068e wsJ2_charAt_3b067 := goodIn_r _ [24, 25, 26, 23, 27, 28, 29, 30, 31, 14, 5, 15, 16, 17, 18, 19, 20, 32, 33, 34, 35, 36, 37] rfl (by decide +kernel)
set_option maxRecDepth 20000 in
theorem gJ0_charAt_5068e_J2_charAt_3b067 : GoodIn wsJ0_charAt_5068e (va_wsS RJ0 498 yJ2_charAt_3b067 wsJ2_charAt_3b067) := goodIn_app (goodIn_of _ (by decide +kernel)) ggJ0_charAt_5068e_J2_charAt_3b067
set_option maxRecDepth 20000 in
theorem ggJ0_checkIndex_df160_J3_checkIndex_8e157 : GoodIn wsJ0_checkIndex_df160 wsJ3_checkIndex_8e157 := goodIn_r _ [5] rfl (by decide +kernel)
set_option maxRecDepth 20000 in
theorem gJ0_checkIndex_df160_J3_checkIndex_8e157 : GoodIn wsJ0_checkIndex_df160 (va_wsS RJ0 1059 yJ3_checkIndex_8e157 wsJ3_checkIndex_8e157) := goodIn_app (goodIn_of _ (by decide +kernel)) ggJ0_checkIndex_df160_J3_checkIndex_8e157
set_option maxRecDepth 20000 in
theorem ggJ1_charAt_3b067_J0_checkIndex_df160 : GoodIn wsJ1_charAt_3b067 wsJ0_checkIndex_df160 := goodIn_r _ [4, 5, 6, 7, 8, 9] rfl (by decide +kernel)
set_option maxRecDepth 20000 in
theorem gJ1_charAt_3b067_J0_checkIndex_df160 : GoodIn wsJ1_charAt_3b067 (va_wsS RJ1 9 yJ0_checkIndex_df160 wsJ0_checkIndex_df160) := goodIn_app (goodIn_of _ (by decide +kernel)) ggJ1_charAt_3b067_J0_checkIndex_df160
set_option maxRecDepth 20000 in
theorem ggJ2_getChar_3b067_J2_length_9d52b : GoodIn wsJ2_getChar_3b067 wsJ2_length_9d52b := goodIn_r _ [7] rfl (by decide +kernel)
set_option maxRecDepth 20000 in
theorem gJ2_getChar_3b067_J2_length_9d52b : GoodIn wsJ2_getChar_3b067 (va_wsS RJ2 48 yJ2_length_9d52b wsJ2_length_9d52b) := goodIn_app (goodIn_of _ (by decide +kernel)) ggJ2_getChar_3b067_J2_length_9d52b
set_option maxRecDepth 20000 in
theorem ggJ2_charAt_3b067_J2_checkIndex_2214a : GoodIn wsJ2_charAt_3b067 wsJ2_checkIndex_2214a := goodIn_r _ [4, 5, 6, 3, 7, 8, 9, 10, 11, 12, 13, 14, 15, 16] rfl (by decide +kernel)
set_option maxRecDepth 20000 in
theorem gJ2_charAt_3b067_J2_checkIndex_2214a : GoodIn wsJ2_charAt_3b067 (va_wsS RJ2 67 yJ2_checkIndex_2214a wsJ2_checkIndex_2214a) := goodIn_app (goodIn_of _ (by decide +kernel)) ggJ2_charAt_3b067_J2_checkIndex_2214a
set_option maxRecDepth 20000 in
theorem ggJ2_charAt_3b067_J2_getChar_3b067 : GoodIn wsJ2_charAt_3b067 wsJ2_getChar_3b067 := goodIn_r _ [19, 20, 21, 22, 5, 6, 3, 7] rfl (by decide +kernel)
set_option maxRecDepth 20000 in
theorem gJ2_charAt_3b067_J2_getChar_3b067 : GoodIn wsJ2_charAt_3b067 (va_wsS RJ2 71 yJ2_getChar_3b067 wsJ2_getChar_3b067) := goodIn_app (goodIn_of _ (by decide +kernel)) ggJ2_charAt_3b067_J2_getChar_3b067
set_option maxRecDepth 20000 in
theorem ggJ2_checkIndex_2214a_J2_length_9d52b : GoodIn wsJ2_checkIndex_2214a wsJ2_length_9d52b := goodIn_r _ [4] rfl (by decide +kernel)
set_option maxRecDepth 20000 in
theorem gJ2_checkIndex_2214a_J2_length_9d52b : GoodIn wsJ2_checkIndex_2214a (va_wsS RJ2 48 yJ2_length_9d52b wsJ2_length_9d52b) := goodIn_app (goodIn_of _ (by decide +kernel)) ggJ2_checkIndex_2214a_J2_length_9d52b
set_option maxRecDepth 20000 in
theorem ggJ2_checkIndex_2214a_J0_checkIndex_df160 : GoodIn wsJ2_checkIndex_2214a wsJ0_checkIndex_df160 := goodIn_r _ [8, 9, 10, 11, 12, 13] rfl (by decide +kernel)
set_option maxRecDepth 20000 in
theorem gJ2_checkIndex_2214a_J0_checkIndex_df160 : GoodIn wsJ2_checkIndex_2214a (va_wsS RJ2 414 yJ0_checkIndex_df160 wsJ0_checkIndex_df160) := goodIn_app (goodIn_of _ (by decide +kernel)) ggJ2_checkIndex_2214a_J0_checkIndex_df160
set_option maxRecDepth 20000 in
theorem ggL_law_X6_init : GoodIn wsL_law wsX6_init := goodIn_r _ [8, 9, 10, 11, 12, 13, 14, 15, 16, 17, 18, 19, 20, 21, 22, 23, 24, 25, 26, 27, 28, 29, 30, 31, 32, 33, 34, 35, 36, 37, 38, 39, 40, 41, 42, 43, 44, 45, 46, 47, 48, 49, 50, 51, 52, 53, 54, 55, 56, 57, 58, 59, 60, 61, 62, 63, 64, 65, 66, 67, 68, 69, 895, 896, 897, 898, 870, 871, 872, 873, 874, 875, 876, 877, 878, 899, 900, 901, 902, 903, 904, 905, 906, 907, 908, 909, 910, 911, 912, 913, 914, 915, 916, 917, 918, 919, 920, 921] rfl (by decide +kernel)
set_option maxRecDepth 20000 in
theorem gL_law_X6_init : GoodIn wsL_law (wsX6_init) := ggL_law_X6_init
set_option maxRecDepth 20000 in
theorem ggL_law_X7_init : GoodIn wsL_law wsX7_init := goodIn_r _ [72, 73, 10, 11, 45, 74, 75, 76, 77, 78, 79, 80, 53, 81, 82, 83, 879, 880, 881, 882, 883, 884, 885, 886, 887, 888, 889, 890, 891, 892, 893, 894] rfl (by decide +kernel)
set_option maxRecDepth 20000 in
theorem gL_law_X7_init : GoodIn wsL_law (wsX7_init) := ggL_law_X7_init
set_option maxRecDepth 20000 in
theorem ggL_law_X6_type : GoodIn wsL_law wsX6_type := goodIn_r _ [87, 15, 88, 89, 90, 91, 92, 2, 93, 94, 95, 96, 97, 98, 99, 35, 100, 101, 41, 870, 871, 872, 873, 874, 875, 876, 877, 878, 895, 896, 897, 898, 917, 918] rfl (by decide +kernel)
set_option maxRecDepth 20000 in
theorem gL_law_X6_type : GoodIn wsL_law (wsV RL 13 RX6 yX6_type wsX6_type) := goodIn_app (goodIn_r _ [84, 85, 86, 2] rfl (by decide +kernel)) ggL_law_X6_type
set_option maxRecDepth 20000 in
theorem ggL_law_X7_type : GoodIn wsL_law wsX7_type := goodIn_r _ [105, 106, 77, 107, 108, 5, 109, 110, 111, 112, 113, 76, 879, 880, 881, 882, 883, 884, 885, 886, 887, 888, 889, 890, 891, 892, 893, 894] rfl (by decide +kernel)
set_option maxRecDepth 20000 in
theorem gL_law_X7_type : GoodIn wsL_law (wsV RL 17 RX7 yX7_type wsX7_type) := goodIn_app (goodIn_r _ [102, 103, 104, 5] rfl (by decide +kernel)) ggL_law_X7_type
set_option maxRecDepth 20000 in
theorem ggL_law_X6_clear : GoodIn wsL_law wsX6_clear := goodIn_r _ [117, 15, 88, 89, 870, 871, 872, 873, 874, 875, 876, 877, 878, 895, 896, 897, 898, 917, 918] rfl (by decide +kernel)
set_option maxRecDepth 20000 in
theorem gL_law_X6_clear : GoodIn wsL_law (wsV RL 18 RX6 yX6_clear wsX6_clear) := goodIn_app (goodIn_r _ [114, 115, 116, 2] rfl (by decide +kernel)) ggL_law_X6_clear
set_option maxRecDepth 20000 in
theorem ggL_law_X7_clear : GoodIn wsL_law wsX7_clear := goodIn_r _ [121, 106, 879, 880, 881, 882, 883, 884, 885, 886, 887, 888, 889, 890, 891, 892, 893, 894] rfl (by decide +kernel)
set_option maxRecDepth 20000 in
theorem gL_law_X7_clear : GoodIn wsL_law (wsV RL 22 RX7 yX7_clear wsX7_clear) := goodIn_app (goodIn_r _ [118, 119, 120, 5] rfl (by decide +kernel)) ggL_law_X7_clear
set_option maxRecDepth 20000 in
theorem ggL_law_X6_reads : GoodIn wsL_law wsX6_reads := goodIn_r _ [125, 15, 20, 19, 126, 127, 128, 14, 129, 130, 131, 132, 133, 134, 135, 136, 36, 137, 138, 139, 140, 35, 141, 101, 41, 142, 143, 144, 145, 146, 147, 148, 149, 150, 151, 152, 153, 154, 155, 156, 157, 158, 159, 160, 161, 162, 163, 164, 165, 166, 167, 168, 169, 170, 171, 172, 173, 174, 175, 176, 177, 178, 179, 180, 181, 182, 183, 184, 185, 186, 187, 188, 189, 190, 191, 192, 193, 194, 195, 196, 197, 198, 199, 200, 201, 202, 203, 204, 205, 206, 207, 208, 209, 210, 211, 212, 18, 213, 214, 215, 216, 217, 218, 219, 220, 221, 222, 223, 224, 225, 226, 227, 228, 229, 230, 231, 232, 233, 234, 235, 236, 237, 238, 239, 240, 241, 242, 243, 244, 46, 47, 48, 245, 2, 246, 247, 248, 249, 250, 251, 252, 253, 254, 255, 49, 256, 257, 258, 259, 260, 261, 262, 263, 264, 265, 266, 267, 268, 269, 270, 271, 272, 273, 274, 275, 276, 277, 278, 279, 280, 281, 282, 283, 284, 285, 286, 287, 288, 289, 290, 291, 292, 293, 294, 295, 296, 297, 298, 299, 300, 301, 302, 303, 304, 24, 29, 305, 306, 307, 308, 23, 309, 310, 311, 54, 312, 313, 314, 315, 316, 317, 318, 319, 320, 321, 322, 323, 324, 325, 326, 327, 28, 328, 329, 330, 870, 871, 872, 873, 874, 875, 876, 877, 878, 895, 896, 897, 898, 917, 918, 899, 900, 901, 902, 903, 904, 905, 906, 907, 908, 909, 910, 911, 912, 913, 914, 915, 916] rfl (by decide +kernel)
set_option maxRecDepth 20000 in
theorem gL_law_X6_reads : GoodIn wsL_law (wsV RL 23 RX6 yX6_reads wsX6_reads) := goodIn_app (goodIn_r _ [122, 123, 124, 2] rfl (by decide +kernel)) ggL_law_X6_reads
set_option maxRecDepth 20000 in
theorem ggL_law_X7_reads : GoodIn wsL_law wsX7_reads := goodIn_r _ [334, 335, 74, 75, 336, 337, 338, 5, 339, 340, 106, 341, 342, 343, 344, 79, 345, 346, 347, 348, 349, 350, 351, 352, 77, 107, 108, 109, 353, 354, 355, 356, 357, 358, 359, 360, 361, 362, 363, 364, 365, 366, 367, 368, 369, 370, 371, 372, 373, 374, 375, 376, 377, 378, 379, 879, 880, 881, 882, 883, 884, 885, 886, 887, 888, 889, 890, 891, 892, 893, 894] rfl (by decide +kernel)
set_option maxRecDepth 20000 in
theorem gL_law_X7_reads : GoodIn wsL_law (wsV RL 26 RX7 yX7_reads wsX7_reads) := goodIn_app (goodIn_r _ [331, 332, 333, 5] rfl (by decide +kernel)) ggL_law_X7_reads
set_option maxRecDepth 20000 in
theorem ggL_law_X6_kind : GoodIn wsL_law wsX6_kind := goodIn_r _ [383, 19, 384, 385, 386, 387, 2, 388, 389, 305, 390, 391, 392, 18, 393, 214, 280, 281, 282, 283, 46, 284, 285, 394, 395, 396, 397, 90, 91, 92, 93, 94, 95, 96, 398, 399, 245, 246, 301, 302, 303, 304, 24, 29, 306, 307, 308, 23, 309, 310, 311, 54, 312, 313, 314, 315, 316, 317, 318, 319, 287, 288, 289, 47, 320, 321, 322, 323, 324, 291, 292, 293, 48, 325, 326, 327, 28, 328, 329, 330, 870, 871, 872, 873, 874, 875, 876, 877, 878, 899, 900, 901, 902, 903, 904, 905, 906, 907, 908, 909, 910, 911, 912, 913, 914, 915, 916] rfl (by decide +kernel)
set_option maxRecDepth 20000 in
theorem gL_law_X6_kind : GoodIn wsL_law (wsV RL 27 RX6 yX6_kind wsX6_kind) := goodIn_app (goodIn_r _ [380, 381, 382, 2] rfl (by decide +kernel)) ggL_law_X6_kind
set_option maxRecDepth 20000 in
theorem ggL_law_X7_kind : GoodIn wsL_law wsX7_kind := goodIn_r _ [403, 74, 404, 405, 406, 5, 407, 408, 409, 410, 411, 107, 108, 109, 412, 413, 414, 415, 110, 111, 112, 113, 76, 879, 880, 881, 882, 883, 884, 885, 886, 887, 888, 889, 890, 891, 892, 893, 894] rfl (by decide +kernel)
set_option maxRecDepth 20000 in
theorem gL_law_X7_kind : GoodIn wsL_law (wsV RL 31 RX7 yX7_kind wsX7_kind) := goodIn_app (goodIn_r _ [400, 401, 402, 5] rfl (by decide +kernel)) ggL_law_X7_kind
set_option maxRecDepth 20000 in
theorem ggL_law_X6_wire : GoodIn wsL_law wsX6_wire := goodIn_r _ [419, 19, 420, 421, 385, 386, 387, 2, 388, 389, 305, 422, 423, 424, 425, 398, 281, 282, 18, 283, 46, 284, 285, 426, 427, 428, 429, 430, 394, 395, 396, 397, 90, 91, 92, 93, 94, 95, 96, 431, 399, 245, 246, 301, 302, 303, 304, 24, 29, 306, 307, 308, 23, 309, 310, 311, 54, 312, 313, 314, 315, 316, 317, 318, 319, 287, 288, 289, 47, 320, 321, 322, 323, 324, 291, 292, 293, 48, 325, 326, 327, 28, 328, 329, 330, 870, 871, 872, 873, 874, 875, 876, 877, 878, 899, 900, 901, 902, 903, 904, 905, 906, 907, 908, 909, 910, 911, 912, 913, 914, 915, 916] rfl (by decide +kernel)
set_option maxRecDepth 20000 in
theorem gL_law_X6_wire : GoodIn wsL_law (wsV RL 32 RX6 yX6_wire wsX6_wire) := goodIn_app (goodIn_r _ [416, 417, 418, 2] rfl (by decide +kernel)) ggL_law_X6_wire
set_option maxRecDepth 20000 in
theorem ggL_law_X7_wire : GoodIn wsL_law wsX7_wire := goodIn_r _ [435, 74, 404, 405, 406, 5, 407, 408, 409, 410, 411, 107, 108, 109, 412, 413, 414, 415, 110, 111, 112, 113, 76, 879, 880, 881, 882, 883, 884, 885, 886, 887, 888, 889, 890, 891, 892, 893, 894] rfl (by decide +kernel)
set_option maxRecDepth 20000 in
theorem gL_law_X7_wire : GoodIn wsL_law (wsV RL 36 RX7 yX7_wire wsX7_wire) := goodIn_app (goodIn_r _ [432, 433, 434, 5] rfl (by decide +kernel)) ggL_law_X7_wire
set_option maxRecDepth 20000 in
theorem ggL_law_X6_of : GoodIn wsL_law wsX6_of := goodIn_r _ [439, 19, 430, 385, 386, 387, 2, 388, 389, 305, 394, 395, 396, 397, 90, 91, 92, 93, 94, 95, 96, 398, 281, 282, 18, 283, 46, 284, 285, 440, 287, 288, 289, 47, 441, 291, 292, 293, 48, 442, 443, 444, 445, 216, 217, 286, 290, 295, 296, 297, 298, 49, 870, 871, 872, 873, 874, 875, 876, 877, 878, 899, 900, 901, 902, 903, 904, 905, 906, 907, 908, 909] rfl (by decide +kernel)
set_option maxRecDepth 20000 in
theorem gL_law_X6_of : GoodIn wsL_law (wsV RL 37 RX6 yX6_of wsX6_of) := goodIn_app (goodIn_r _ [436, 437, 438, 2] rfl (by decide +kernel)) ggL_law_X6_of
set_option maxRecDepth 20000 in
theorem ggL_law_X7_of : GoodIn wsL_law wsX7_of := goodIn_r _ [449, 74, 404, 405, 406, 5, 407, 408, 409, 410, 411, 107, 108, 109, 412, 413, 414, 415, 110, 111, 112, 113, 76, 879, 880, 881, 882, 883, 884, 885, 886, 887, 888, 889, 890, 891, 892, 893, 894] rfl (by decide +kernel)
set_option maxRecDepth 20000 in
theorem gL_law_X7_of : GoodIn wsL_law (wsV RL 40 RX7 yX7_of wsX7_of) := goodIn_app (goodIn_r _ [446, 447, 448, 5] rfl (by decide +kernel)) ggL_law_X7_of
set_option maxRecDepth 20000 in
theorem ggL_law_X6_told : GoodIn wsL_law wsX6_told := goodIn_r _ [453, 19, 454, 455, 456, 457, 458, 459, 2, 460, 389, 461, 394, 395, 396, 397, 90, 91, 92, 93, 94, 95, 96, 462, 296, 297, 18, 298, 49, 284, 285, 870, 871, 872, 873, 874, 875, 876, 877, 878, 899, 900, 901, 902, 903, 904, 905, 906, 907, 908, 909] rfl (by decide +kernel)
set_option maxRecDepth 20000 in
theorem gL_law_X6_told : GoodIn wsL_law (wsV RL 41 RX6 yX6_told wsX6_told) := goodIn_app (goodIn_r _ [450, 451, 452, 2] rfl (by decide +kernel)) ggL_law_X6_told
set_option maxRecDepth 20000 in
theorem ggL_law_X7_told : GoodIn wsL_law wsX7_told := goodIn_r _ [466, 74, 408, 409, 410, 5, 411, 107, 108, 109, 412, 413, 414, 415, 110, 111, 112, 113, 76, 879, 880, 881, 882, 883, 884, 885, 886, 887, 888, 889, 890, 891, 892, 893, 894] rfl (by decide +kernel)
set_option maxRecDepth 20000 in
theorem gL_law_X7_told : GoodIn wsL_law (wsV RL 44 RX7 yX7_told wsX7_told) := goodIn_app (goodIn_r _ [463, 464, 465, 5] rfl (by decide +kernel)) ggL_law_X7_told
set_option maxRecDepth 20000 in
theorem ggL_law_X6_adder : GoodIn wsL_law wsX6_adder := goodIn_r _ [470, 19, 90, 91, 92, 2, 93, 94, 95, 96, 471, 211, 212, 18, 213, 214, 215, 216, 217, 472, 242, 243, 244, 46, 47, 48, 245, 246, 247, 238, 239, 240, 473, 253, 254, 255, 49, 474, 269, 270, 271, 272, 273, 274, 301, 302, 303, 304, 24, 29, 305, 306, 307, 308, 23, 309, 310, 311, 54, 312, 313, 281, 282, 283, 284, 285, 314, 315, 316, 317, 318, 319, 287, 288, 289, 320, 321, 322, 323, 324, 291, 292, 293, 325, 326, 327, 28, 328, 329, 330, 870, 871, 872, 873, 874, 875, 876, 877, 878, 899, 900, 901, 902, 903, 904, 905, 906, 907, 908, 909, 910, 911, 912, 913, 914, 915, 916] rfl (by decide +kernel)
set_option maxRecDepth 20000 in
theorem gL_law_X6_adder : GoodIn wsL_law (wsV RL 45 RX6 yX6_adder wsX6_adder) := goodIn_app (goodIn_r _ [467, 468, 469, 2] rfl (by decide +kernel)) ggL_law_X6_adder
set_option maxRecDepth 20000 in
theorem ggL_law_X7_adder : GoodIn wsL_law wsX7_adder := goodIn_r _ [478, 74, 107, 108, 5, 109, 110, 111, 112, 113, 76, 479, 480, 481, 482, 483, 484, 485, 486, 487, 488, 489, 879, 880, 881, 882, 883, 884, 885, 886, 887, 888, 889, 890, 891, 892, 893, 894] rfl (by decide +kernel)
set_option maxRecDepth 20000 in
theorem gL_law_X7_adder : GoodIn wsL_law (wsV RL 48 RX7 yX7_adder wsX7_adder) := goodIn_app (goodIn_r _ [475, 476, 477, 5] rfl (by decide +kernel)) ggL_law_X7_adder
set_option maxRecDepth 20000 in
theorem ggL_law_X6_draw : GoodIn wsL_law wsX6_draw := goodIn_r _ [493, 494, 19, 495, 496, 497, 498, 499, 500, 90, 91, 92, 2, 93, 94, 95, 96, 471, 211, 212, 18, 213, 214, 215, 216, 217, 501, 502, 503, 472, 242, 243, 244, 46, 47, 48, 245, 246, 247, 238, 239, 240, 473, 253, 254, 255, 49, 474, 269, 270, 271, 272, 273, 274, 301, 302, 303, 304, 24, 29, 305, 306, 307, 308, 23, 309, 310, 311, 54, 312, 313, 281, 282, 283, 284, 285, 314, 315, 316, 317, 318, 319, 287, 288, 289, 320, 321, 322, 323, 324, 291, 292, 293, 325, 326, 327, 28, 328, 329, 330, 870, 871, 872, 873, 874, 875, 876, 877, 878, 899, 900, 901, 902, 903, 904, 905, 906, 907, 908, 909, 910, 911, 912, 913, 914, 915, 916] rfl (by decide +kernel)
set_option maxRecDepth 20000 in
theorem gL_law_X6_draw : GoodIn wsL_law (wsV RL 49 RX6 yX6_draw wsX6_draw) := goodIn_app (goodIn_r _ [490, 491, 492, 2] rfl (by decide +kernel)) ggL_law_X6_draw
set_option maxRecDepth 20000 in
theorem ggL_law_X7_draw : GoodIn wsL_law wsX7_draw := goodIn_r _ [507, 508, 509, 510, 511, 74, 512, 513, 514, 515, 107, 108, 5, 109, 110, 111, 112, 113, 76, 479, 480, 481, 482, 483, 484, 485, 486, 487, 488, 489, 879, 880, 881, 882, 883, 884, 885, 886, 887, 888, 889, 890, 891, 892, 893, 894] rfl (by decide +kernel)
set_option maxRecDepth 20000 in
theorem gL_law_X7_draw : GoodIn wsL_law (wsV RL 52 RX7 yX7_draw wsX7_draw) := goodIn_app (goodIn_r _ [504, 505, 506, 5] rfl (by decide +kernel)) ggL_law_X7_draw
set_option maxRecDepth 20000 in
theorem ggL_law_X6_runs : GoodIn wsL_law wsX6_runs := goodIn_r _ [519, 24, 19, 520, 521, 522, 2, 523, 389, 430, 394, 395, 396, 397, 90, 91, 92, 93, 94, 95, 96, 524, 525, 526, 23, 527, 528, 529, 296, 297, 18, 298, 49, 284, 285, 530, 531, 532, 533, 320, 321, 322, 323, 54, 534, 535, 536, 537, 273, 274, 272, 870, 871, 872, 873, 874, 875, 876, 877, 878, 899, 900, 901, 902, 903, 904, 905, 906, 907, 908, 909, 910] rfl (by decide +kernel)
set_option maxRecDepth 20000 in
theorem gL_law_X6_runs : GoodIn wsL_law (wsV RL 53 RX6 yX6_runs wsX6_runs) := goodIn_app (goodIn_r _ [516, 517, 518, 2] rfl (by decide +kernel)) ggL_law_X6_runs
set_option maxRecDepth 20000 in
theorem ggL_law_X7_runs : GoodIn wsL_law wsX7_runs := goodIn_r _ [541, 542, 543, 544, 5, 545, 74, 408, 409, 410, 411, 107, 108, 109, 412, 413, 414, 415, 110, 111, 112, 113, 76, 546, 547, 548, 549, 550, 551, 552, 553, 554, 555, 556, 557, 558, 559, 560, 879, 880, 881, 882, 883, 884, 885, 886, 887, 888, 889, 890, 891, 892, 893, 894] rfl (by decide +kernel)
set_option maxRecDepth 20000 in
theorem gL_law_X7_runs : GoodIn wsL_law (wsV RL 56 RX7 yX7_runs wsX7_runs) := goodIn_app (goodIn_r _ [538, 539, 540, 5] rfl (by decide +kernel)) ggL_law_X7_runs
set_option maxRecDepth 20000 in
theorem ggL_law_X6_signal : GoodIn wsL_law wsX6_signal := goodIn_r _ [564, 24, 565, 566, 567, 2, 568, 19, 389, 569, 238, 239, 18, 240, 215, 216, 520, 521, 522, 523, 430, 394, 395, 396, 397, 90, 91, 92, 93, 94, 95, 96, 570, 531, 532, 23, 533, 320, 321, 322, 323, 54, 870, 871, 872, 873, 874, 875, 876, 877, 878, 899, 900, 901, 902, 903, 904, 905, 906, 907, 908, 909, 910] rfl (by decide +kernel)
set_option maxRecDepth 20000 in
theorem gL_law_X6_signal : GoodIn wsL_law (wsV RL 57 RX6 yX6_signal wsX6_signal) := goodIn_app (goodIn_r _ [561, 562, 563, 2] rfl (by decide +kernel)) ggL_law_X6_signal
set_option maxRecDepth 20000 in
theorem ggL_law_X7_signal : GoodIn wsL_law wsX7_signal := goodIn_r _ [574, 74, 408, 409, 410, 5, 411, 107, 108, 109, 542, 543, 544, 545, 412, 413, 414, 415, 110, 111, 112, 113, 76, 550, 551, 552, 553, 554, 555, 556, 879, 880, 881, 882, 883, 884, 885, 886, 887, 888, 889, 890, 891, 892, 893, 894] rfl (by decide +kernel)
set_option maxRecDepth 20000 in
theorem gL_law_X7_signal : GoodIn wsL_law (wsV RL 60 RX7 yX7_signal wsX7_signal) := goodIn_app (goodIn_r _ [571, 572, 573, 5] rfl (by decide +kernel)) ggL_law_X7_signal
set_option maxRecDepth 20000 in
theorem ggL_law_X6_wrong : GoodIn wsL_law wsX6_wrong := goodIn_r _ [578, 24, 19, 394, 395, 396, 2, 397, 389, 90, 91, 92, 93, 94, 95, 96, 579, 580, 581, 23, 582, 310, 583, 584, 585, 586, 587, 525, 526, 527, 528, 529, 296, 297, 18, 298, 49, 284, 285, 530, 531, 532, 533, 320, 321, 322, 323, 54, 588, 535, 536, 537, 273, 274, 272, 589, 590, 591, 592, 870, 871, 872, 873, 874, 875, 876, 877, 878, 899, 900, 901, 902, 903, 904, 905, 906, 907, 908, 909, 910] rfl (by decide +kernel)
set_option maxRecDepth 20000 in
theorem gL_law_X6_wrong : GoodIn wsL_law (wsV RL 61 RX6 yX6_wrong wsX6_wrong) := goodIn_app (goodIn_r _ [575, 576, 577, 2] rfl (by decide +kernel)) ggL_law_X6_wrong
set_option maxRecDepth 20000 in
theorem ggL_law_X7_wrong : GoodIn wsL_law wsX7_wrong := goodIn_r _ [596, 107, 108, 5, 109, 408, 409, 410, 411, 74, 412, 413, 414, 415, 110, 111, 112, 113, 76, 597, 598, 599, 600, 546, 547, 548, 549, 550, 551, 552, 553, 554, 555, 556, 557, 558, 559, 560, 879, 880, 881, 882, 883, 884, 885, 886, 887, 888, 889, 890, 891, 892, 893, 894] rfl (by decide +kernel)
set_option maxRecDepth 20000 in
theorem gL_law_X7_wrong : GoodIn wsL_law (wsV RL 64 RX7 yX7_wrong wsX7_wrong) := goodIn_app (goodIn_r _ [593, 594, 595, 5] rfl (by decide +kernel)) ggL_law_X7_wrong
set_option maxRecDepth 20000 in
theorem ggL_law_X6_cures : GoodIn wsL_law wsX6_cures := goodIn_r _ [604, 19, 25, 385, 386, 387, 2, 388, 389, 305, 394, 395, 396, 397, 90, 91, 92, 93, 94, 95, 96, 390, 391, 392, 18, 393, 214, 280, 281, 282, 283, 46, 284, 285, 306, 307, 308, 23, 309, 310, 311, 54, 312, 313, 314, 315, 316, 317, 318, 319, 287, 288, 289, 47, 320, 321, 322, 323, 324, 291, 292, 293, 48, 579, 580, 581, 582, 583, 584, 585, 586, 587, 525, 526, 527, 528, 529, 296, 297, 298, 49, 530, 531, 532, 533, 588, 535, 536, 537, 273, 274, 272, 870, 871, 872, 873, 874, 875, 876, 877, 878, 899, 900, 901, 902, 903, 904, 905, 906, 907, 908, 909, 910] rfl (by decide +kernel)
set_option maxRecDepth 20000 in
theorem gL_law_X6_cures : GoodIn wsL_law (wsV RL 65 RX6 yX6_cures wsX6_cures) := goodIn_app (goodIn_r _ [601, 602, 603, 2] rfl (by decide +kernel)) ggL_law_X6_cures
set_option maxRecDepth 20000 in
theorem ggL_law_X7_cures : GoodIn wsL_law wsX7_cures := goodIn_r _ [608, 74, 404, 405, 406, 5, 407, 408, 409, 410, 411, 107, 108, 109, 412, 413, 414, 415, 110, 111, 112, 113, 76, 597, 598, 599, 600, 546, 547, 548, 549, 550, 551, 552, 553, 554, 555, 556, 557, 558, 559, 560, 879, 880, 881, 882, 883, 884, 885, 886, 887, 888, 889, 890, 891, 892, 893, 894] rfl (by decide +kernel)
set_option maxRecDepth 20000 in
theorem gL_law_X7_cures : GoodIn wsL_law (wsV RL 68 RX7 yX7_cures wsX7_cures) := goodIn_app (goodIn_r _ [605, 606, 607, 5] rfl (by decide +kernel)) ggL_law_X7_cures
set_option maxRecDepth 20000 in
theorem ggL_law_X6_right : GoodIn wsL_law wsX6_right := goodIn_r _ [612, 19, 305, 29, 613, 614, 615, 2, 616, 394, 395, 396, 397, 389, 90, 91, 92, 93, 94, 95, 96, 617, 618, 619, 28, 620, 329, 58, 330, 64, 621, 622, 623, 624, 625, 626, 627, 628, 296, 297, 18, 298, 49, 284, 285, 629, 630, 631, 632, 633, 63, 634, 635, 68, 69, 636, 637, 638, 639, 640, 641, 642, 643, 644, 645, 646, 647, 245, 246, 648, 649, 650, 651, 652, 653, 654, 655, 656, 657, 658, 659, 660, 661, 662, 663, 664, 665, 666, 667, 668, 669, 670, 287, 288, 289, 47, 671, 291, 292, 293, 48, 672, 281, 282, 283, 46, 673, 674, 675, 676, 677, 678, 679, 680, 59, 681, 682, 683, 684, 60, 685, 686, 687, 688, 689, 690, 691, 870, 871, 872, 873, 874, 875, 876, 877, 878, 899, 900, 901, 902, 903, 904, 905, 906, 907, 908, 909, 911, 912, 913, 914, 915, 916, 919, 920, 921] rfl (by decide +kernel)
set_option maxRecDepth 20000 in
theorem gL_law_X6_right : GoodIn wsL_law (wsV RL 69 RX6 yX6_right wsX6_right) := goodIn_app (goodIn_r _ [609, 610, 611, 2] rfl (by decide +kernel)) ggL_law_X6_right
set_option maxRecDepth 20000 in
theorem ggL_law_X7_right : GoodIn wsL_law wsX7_right := goodIn_r _ [695, 74, 696, 408, 409, 410, 5, 411, 110, 111, 112, 113, 76, 697, 698, 699, 700, 701, 702, 703, 704, 705, 706, 707, 708, 709, 710, 711, 82, 83, 712, 713, 714, 715, 80, 81, 716, 717, 718, 719, 720, 721, 722, 723, 724, 879, 880, 881, 882, 883, 884, 885, 886, 887, 888, 889, 890, 891, 892, 893, 894] rfl (by decide +kernel)
set_option maxRecDepth 20000 in
theorem gL_law_X7_right : GoodIn wsL_law (wsV RL 72 RX7 yX7_right wsX7_right) := goodIn_app (goodIn_r _ [692, 693, 694, 5] rfl (by decide +kernel)) ggL_law_X7_right
set_option maxRecDepth 20000 in
theorem ggL_law_X6_terms : GoodIn wsL_law wsX6_terms := goodIn_r _ [728, 29, 729, 730, 731, 2, 732, 19, 389, 305, 613, 614, 615, 616, 394, 395, 396, 397, 90, 91, 92, 93, 94, 95, 96, 617, 618, 619, 28, 620, 329, 58, 330, 64, 621, 622, 623, 624, 625, 626, 627, 628, 296, 297, 18, 298, 49, 284, 285, 629, 630, 631, 632, 633, 63, 634, 635, 68, 69, 636, 637, 638, 639, 640, 641, 642, 643, 644, 645, 646, 647, 245, 246, 648, 649, 650, 651, 652, 653, 654, 655, 656, 657, 658, 659, 660, 661, 662, 663, 664, 665, 666, 667, 668, 669, 670, 287, 288, 289, 47, 671, 291, 292, 293, 48, 672, 281, 282, 283, 46, 673, 674, 675, 676, 677, 678, 679, 680, 59, 681, 682, 683, 684, 60, 685, 686, 687, 688, 689, 690, 691, 870, 871, 872, 873, 874, 875, 876, 877, 878, 899, 900, 901, 902, 903, 904, 905, 906, 907, 908, 909, 911, 912, 913, 914, 915, 916, 919, 920, 921] rfl (by decide +kernel)
set_option maxRecDepth 20000 in
theorem gL_law_X6_terms : GoodIn wsL_law (wsV RL 73 RX6 yX6_terms wsX6_terms) := goodIn_app (goodIn_r _ [725, 726, 727, 2] rfl (by decide +kernel)) ggL_law_X6_terms
set_option maxRecDepth 20000 in
theorem ggL_law_X7_terms : GoodIn wsL_law wsX7_terms := goodIn_r _ [736, 696, 737, 738, 739, 5, 740, 74, 408, 409, 410, 411, 107, 108, 109, 412, 413, 414, 415, 110, 111, 112, 113, 76, 697, 698, 699, 700, 701, 702, 703, 704, 705, 706, 707, 708, 709, 710, 711, 82, 83, 712, 713, 714, 715, 80, 81, 716, 717, 718, 719, 720, 721, 722, 723, 724, 879, 880, 881, 882, 883, 884, 885, 886, 887, 888, 889, 890, 891, 892, 893, 894] rfl (by decide +kernel)
set_option maxRecDepth 20000 in
theorem gL_law_X7_terms : GoodIn wsL_law (wsV RL 76 RX7 yX7_terms wsX7_terms) := goodIn_app (goodIn_r _ [733, 734, 735, 5] rfl (by decide +kernel)) ggL_law_X7_terms
set_option maxRecDepth 20000 in
theorem ggL_law_X6_term : GoodIn wsL_law wsX6_term := goodIn_r _ [744, 29, 729, 730, 731, 2, 732, 19, 389, 305, 613, 614, 615, 616, 394, 395, 396, 397, 90, 91, 92, 93, 94, 95, 96, 617, 618, 619, 28, 620, 329, 58, 330, 64, 621, 622, 623, 624, 625, 626, 627, 628, 296, 297, 18, 298, 49, 284, 285, 629, 630, 631, 632, 633, 63, 634, 635, 68, 69, 636, 637, 638, 639, 640, 641, 642, 643, 644, 645, 646, 647, 245, 246, 648, 649, 650, 651, 652, 653, 654, 655, 656, 657, 658, 659, 660, 661, 662, 663, 664, 665, 666, 667, 668, 669, 670, 287, 288, 289, 47, 671, 291, 292, 293, 48, 672, 281, 282, 283, 46, 673, 674, 675, 676, 677, 678, 679, 680, 59, 681, 682, 683, 684, 60, 685, 686, 687, 688, 689, 690, 691, 745, 746, 870, 871, 872, 873, 874, 875, 876, 877, 878, 899, 900, 901, 902, 903, 904, 905, 906, 907, 908, 909, 911, 912, 913, 914, 915, 916, 919, 920, 921] rfl (by decide +kernel)
set_option maxRecDepth 20000 in
theorem gL_law_X6_term : GoodIn wsL_law (wsV RL 77 RX6 yX6_term wsX6_term) := goodIn_app (goodIn_r _ [741, 742, 743, 2] rfl (by decide +kernel)) ggL_law_X6_term
set_option maxRecDepth 20000 in
theorem ggL_law_X7_term : GoodIn wsL_law wsX7_term := goodIn_r _ [750, 696, 81, 80, 737, 738, 739, 5, 740, 74, 408, 409, 410, 411, 107, 108, 109, 412, 413, 414, 415, 110, 111, 112, 113, 76, 697, 698, 699, 700, 701, 702, 703, 704, 705, 706, 707, 708, 709, 710, 711, 82, 83, 712, 713, 714, 715, 716, 717, 718, 719, 720, 721, 722, 723, 724, 879, 880, 881, 882, 883, 884, 885, 886, 887, 888, 889, 890, 891, 892, 893, 894] rfl (by decide +kernel)
set_option maxRecDepth 20000 in
theorem gL_law_X7_term : GoodIn wsL_law (wsV RL 80 RX7 yX7_term wsX7_term) := goodIn_app (goodIn_r _ [747, 748, 749, 5] rfl (by decide +kernel)) ggL_law_X7_term
set_option maxRecDepth 20000 in
theorem ggL_law_X6_most : GoodIn wsL_law wsX6_most := goodIn_r _ [754, 19, 305, 29, 613, 614, 615, 2, 616, 394, 395, 396, 397, 389, 90, 91, 92, 93, 94, 95, 96, 617, 618, 619, 28, 620, 329, 58, 330, 64, 621, 622, 623, 624, 625, 626, 627, 628, 296, 297, 18, 298, 49, 284, 285, 629, 630, 631, 632, 633, 63, 634, 635, 68, 69, 636, 637, 638, 639, 640, 641, 642, 643, 644, 645, 646, 647, 245, 246, 648, 649, 650, 651, 652, 653, 654, 655, 656, 657, 658, 659, 660, 661, 662, 663, 664, 665, 666, 667, 668, 669, 670, 287, 288, 289, 47, 671, 291, 292, 293, 48, 672, 281, 282, 283, 46, 673, 674, 675, 676, 677, 678, 679, 680, 59, 681, 682, 683, 684, 60, 685, 686, 687, 688, 689, 690, 755, 756, 757, 758, 759, 760, 761, 762, 763, 764, 765, 766, 767, 768, 769, 770, 771, 772, 773, 774, 775, 776, 777, 870, 871, 872, 873, 874, 875, 876, 877, 878, 899, 900, 901, 902, 903, 904, 905, 906, 907, 908, 909, 911, 912, 913, 914, 915, 916, 919, 920, 921] rfl (by decide +kernel)
set_option maxRecDepth 20000 in
theorem gL_law_X6_most : GoodIn wsL_law (wsV RL 81 RX6 yX6_most wsX6_most) := goodIn_app (goodIn_r _ [751, 752, 753, 2] rfl (by decide +kernel)) ggL_law_X6_most
set_option maxRecDepth 20000 in
theorem ggL_law_X7_most : GoodIn wsL_law wsX7_most := goodIn_r _ [781, 74, 696, 80, 81, 701, 107, 108, 5, 109, 408, 409, 410, 411, 412, 413, 414, 415, 110, 111, 112, 113, 76, 697, 698, 699, 700, 702, 703, 704, 705, 706, 707, 708, 709, 710, 711, 82, 83, 712, 713, 714, 715, 716, 717, 718, 719, 720, 721, 722, 723, 724, 782, 783, 784, 879, 880, 881, 882, 883, 884, 885, 886, 887, 888, 889, 890, 891, 892, 893, 894] rfl (by decide +kernel)
set_option maxRecDepth 20000 in
theorem gL_law_X7_most : GoodIn wsL_law (wsV RL 84 RX7 yX7_most wsX7_most) := goodIn_app (goodIn_r _ [778, 779, 780, 5] rfl (by decide +kernel)) ggL_law_X7_most
set_option maxRecDepth 20000 in
theorem ggL_law_X6_dearest : GoodIn wsL_law wsX6_dearest := goodIn_r _ [788, 29, 729, 730, 731, 2, 732, 19, 389, 305, 613, 614, 615, 616, 394, 395, 396, 397, 90, 91, 92, 93, 94, 95, 96, 617, 618, 619, 28, 620, 329, 58, 330, 64, 621, 622, 623, 624, 625, 626, 627, 628, 296, 297, 18, 298, 49, 284, 285, 629, 630, 631, 632, 633, 63, 634, 635, 68, 69, 636, 637, 638, 639, 640, 641, 642, 643, 644, 645, 646, 647, 245, 246, 648, 649, 650, 651, 652, 653, 654, 655, 656, 657, 658, 659, 660, 661, 662, 663, 664, 665, 666, 667, 668, 669, 670, 287, 288, 289, 47, 671, 291, 292, 293, 48, 672, 281, 282, 283, 46, 673, 674, 675, 676, 677, 678, 679, 680, 59, 681, 682, 683, 684, 60, 685, 686, 687, 688, 689, 690, 789, 790, 791, 792, 793, 794, 795, 796, 797, 798, 761, 799, 870, 871, 872, 873, 874, 875, 876, 877, 878, 899, 900, 901, 902, 903, 904, 905, 906, 907, 908, 909, 911, 912, 913, 914, 915, 916, 919, 920, 921] rfl (by decide +kernel)
set_option maxRecDepth 20000 in
theorem gL_law_X6_dearest : GoodIn wsL_law (wsV RL 85 RX6 yX6_dearest wsX6_dearest) := goodIn_app (goodIn_r _ [785, 786, 787, 2] rfl (by decide +kernel)) ggL_law_X6_dearest
set_option maxRecDepth 20000 in
theorem ggL_law_X7_dearest : GoodIn wsL_law wsX7_dearest := goodIn_r _ [803, 696, 81, 80, 737, 738, 739, 5, 740, 74, 408, 409, 410, 411, 107, 108, 109, 412, 413, 414, 415, 110, 111, 112, 113, 76, 697, 698, 699, 700, 701, 702, 703, 704, 705, 706, 707, 708, 709, 710, 711, 82, 83, 712, 713, 714, 715, 716, 717, 718, 719, 720, 721, 722, 723, 724, 804, 805, 806, 879, 880, 881, 882, 883, 884, 885, 886, 887, 888, 889, 890, 891, 892, 893, 894] rfl (by decide +kernel)
set_option maxRecDepth 20000 in
theorem gL_law_X7_dearest : GoodIn wsL_law (wsV RL 88 RX7 yX7_dearest wsX7_dearest) := goodIn_app (goodIn_r _ [800, 801, 802, 5] rfl (by decide +kernel)) ggL_law_X7_dearest
set_option maxRecDepth 20000 in
theorem ggL_law_X6_value : GoodIn wsL_law wsX6_value := goodIn_r _ [810, 29, 24, 19, 729, 730, 731, 2, 732, 389, 305, 520, 521, 522, 523, 430, 613, 614, 615, 616, 394, 395, 396, 397, 90, 91, 92, 93, 94, 95, 96, 617, 618, 619, 28, 620, 329, 58, 330, 64, 621, 622, 623, 624, 625, 626, 627, 628, 296, 297, 18, 298, 49, 284, 285, 629, 630, 631, 632, 633, 63, 634, 635, 68, 69, 636, 637, 638, 639, 640, 641, 642, 643, 644, 645, 646, 647, 245, 246, 648, 649, 650, 651, 652, 653, 654, 655, 656, 657, 658, 659, 660, 661, 662, 663, 664, 665, 666, 667, 668, 669, 670, 287, 288, 289, 47, 671, 291, 292, 293, 48, 672, 281, 282, 283, 46, 673, 674, 675, 676, 677, 678, 679, 680, 59, 681, 682, 683, 684, 60, 685, 686, 687, 688, 689, 690, 811, 812, 813, 23, 814, 815, 238, 239, 240, 215, 216, 530, 531, 532, 533, 320, 321, 322, 323, 54, 774, 775, 776, 777, 870, 871, 872, 873, 874, 875, 876, 877, 878, 899, 900, 901, 902, 903, 904, 905, 906, 907, 908, 909, 911, 912, 913, 914, 915, 916, 919, 920, 921, 910] rfl (by decide +kernel)
set_option maxRecDepth 20000 in
theorem gL_law_X6_value : GoodIn wsL_law (wsV RL 89 RX6 yX6_value wsX6_value) := goodIn_app (goodIn_r _ [807, 808, 809, 2] rfl (by decide +kernel)) ggL_law_X6_value
set_option maxRecDepth 20000 in
theorem ggL_law_X7_value : GoodIn wsL_law wsX7_value := goodIn_r _ [819, 696, 80, 81, 737, 738, 739, 5, 740, 74, 408, 409, 410, 411, 107, 108, 109, 542, 543, 544, 545, 412, 413, 414, 415, 110, 111, 112, 113, 76, 697, 698, 699, 700, 701, 702, 703, 704, 705, 706, 707, 708, 709, 710, 711, 82, 83, 712, 713, 714, 715, 716, 717, 718, 719, 720, 721, 722, 723, 724, 550, 551, 552, 553, 554, 555, 556, 879, 880, 881, 882, 883, 884, 885, 886, 887, 888, 889, 890, 891, 892, 893, 894] rfl (by decide +kernel)
set_option maxRecDepth 20000 in
theorem gL_law_X7_value : GoodIn wsL_law (wsV RL 92 RX7 yX7_value wsX7_value) := goodIn_app (goodIn_r _ [816, 817, 818, 5] rfl (by decide +kernel)) ggL_law_X7_value
set_option maxRecDepth 20000 in
theorem ggL_law_X6_stands : GoodIn wsL_law wsX6_stands := goodIn_r _ [823, 29, 729, 730, 731, 2, 732, 19, 389, 305, 613, 614, 615, 616, 394, 395, 396, 397, 90, 91, 92, 93, 94, 95, 96, 617, 618, 619, 28, 620, 329, 58, 330, 64, 621, 622, 623, 624, 625, 626, 627, 628, 296, 297, 18, 298, 49, 284, 285, 629, 630, 631, 632, 633, 63, 634, 635, 68, 69, 636, 637, 638, 639, 640, 641, 642, 643, 644, 645, 646, 647, 245, 246, 648, 649, 650, 651, 652, 653, 654, 655, 656, 657, 658, 659, 660, 661, 662, 663, 664, 665, 666, 667, 668, 669, 670, 287, 288, 289, 47, 671, 291, 292, 293, 48, 672, 281, 282, 283, 46, 673, 674, 675, 676, 677, 678, 679, 680, 59, 681, 682, 683, 684, 60, 685, 686, 687, 688, 689, 690, 824, 825, 826, 827, 870, 871, 872, 873, 874, 875, 876, 877, 878, 899, 900, 901, 902, 903, 904, 905, 906, 907, 908, 909, 911, 912, 913, 914, 915, 916, 919, 920, 921] rfl (by decide +kernel)
set_option maxRecDepth 20000 in
theorem gL_law_X6_stands : GoodIn wsL_law (wsV RL 93 RX6 yX6_stands wsX6_stands) := goodIn_app (goodIn_r _ [820, 821, 822, 2] rfl (by decide +kernel)) ggL_law_X6_stands
set_option maxRecDepth 20000 in
theorem ggL_law_X7_stands : GoodIn wsL_law wsX7_stands := goodIn_r _ [831, 696, 80, 737, 738, 739, 5, 740, 74, 408, 409, 410, 411, 107, 108, 109, 412, 413, 414, 415, 110, 111, 112, 113, 76, 697, 698, 699, 700, 701, 702, 703, 704, 705, 706, 707, 708, 709, 710, 711, 82, 83, 712, 713, 714, 715, 81, 716, 717, 718, 719, 720, 721, 722, 723, 724, 879, 880, 881, 882, 883, 884, 885, 886, 887, 888, 889, 890, 891, 892, 893, 894] rfl (by decide +kernel)
set_option maxRecDepth 20000 in
theorem gL_law_X7_stands : GoodIn wsL_law (wsV RL 96 RX7 yX7_stands wsX7_stands) := goodIn_app (goodIn_r _ [828, 829, 830, 5] rfl (by decide +kernel)) ggL_law_X7_stands
set_option maxRecDepth 20000 in
theorem ggL_law_X6_witness : GoodIn wsL_law wsX6_witness := goodIn_r _ [835, 19, 305, 29, 613, 614, 615, 2, 616, 394, 395, 396, 397, 389, 90, 91, 92, 93, 94, 95, 96, 617, 618, 619, 28, 620, 329, 58, 330, 64, 621, 622, 623, 624, 625, 626, 627, 628, 296, 297, 18, 298, 49, 284, 285, 629, 630, 631, 632, 633, 63, 634, 635, 68, 69, 636, 637, 638, 639, 640, 641, 642, 643, 644, 645, 646, 647, 245, 246, 648, 649, 650, 651, 652, 653, 654, 655, 656, 657, 658, 659, 660, 661, 662, 663, 664, 665, 666, 667, 668, 669, 670, 287, 288, 289, 47, 671, 291, 292, 293, 48, 672, 281, 282, 283, 46, 673, 674, 675, 676, 677, 678, 679, 680, 59, 681, 682, 683, 684, 60, 685, 686, 687, 688, 689, 690, 836, 837, 838, 839, 767, 768, 769, 770, 771, 772, 773, 870, 871, 872, 873, 874, 875, 876, 877, 878, 899, 900, 901, 902, 903, 904, 905, 906, 907, 908, 909, 911, 912, 913, 914, 915, 916, 919, 920, 921] rfl (by decide +kernel)
set_option maxRecDepth 20000 in
theorem gL_law_X6_witness : GoodIn wsL_law (wsV RL 97 RX6 yX6_witness wsX6_witness) := goodIn_app (goodIn_r _ [832, 833, 834, 2] rfl (by decide +kernel)) ggL_law_X6_witness
set_option maxRecDepth 20000 in
theorem ggL_law_X7_witness : GoodIn wsL_law wsX7_witness := goodIn_r _ [843, 74, 844, 696, 80, 408, 409, 410, 5, 411, 110, 111, 112, 113, 76, 697, 698, 699, 700, 701, 702, 703, 704, 705, 706, 707, 708, 709, 710, 711, 82, 83, 712, 713, 714, 715, 81, 716, 717, 718, 719, 720, 721, 722, 723, 724, 782, 783, 784, 879, 880, 881, 882, 883, 884, 885, 886, 887, 888, 889, 890, 891, 892, 893, 894] rfl (by decide +kernel)
set_option maxRecDepth 20000 in
theorem gL_law_X7_witness : GoodIn wsL_law (wsV RL 100 RX7 yX7_witness wsX7_witness) := goodIn_app (goodIn_r _ [840, 841, 842, 5] rfl (by decide +kernel)) ggL_law_X7_witness
set_option maxRecDepth 20000 in
theorem ggL_law_X6_count : GoodIn wsL_law wsX6_count := goodIn_r _ [848, 94, 95, 96, 15, 88, 89, 19, 430, 305, 461, 90, 91, 92, 2, 93, 870, 871, 872, 873, 874, 875, 876, 877, 878, 895, 896, 897, 898, 917, 918, 899, 900, 901, 902, 903, 904, 905, 906, 907, 908, 909] rfl (by decide +kernel)
set_option maxRecDepth 20000 in
theorem gL_law_X6_count : GoodIn wsL_law (wsV RL 101 RX6 yX6_count wsX6_count) := goodIn_app (goodIn_r _ [845, 846, 847, 2] rfl (by decide +kernel)) ggL_law_X6_count
set_option maxRecDepth 20000 in
theorem ggL_law_X7_count : GoodIn wsL_law wsX7_count := goodIn_r _ [852, 107, 108, 5, 109, 853, 854, 855, 856, 76, 106, 74, 110, 111, 112, 113, 879, 880, 881, 882, 883, 884, 885, 886, 887, 888, 889, 890, 891, 892, 893, 894] rfl (by decide +kernel)
set_option maxRecDepth 20000 in
theorem gL_law_X7_count : GoodIn wsL_law (wsV RL 104 RX7 yX7_count wsX7_count) := goodIn_app (goodIn_r _ [849, 850, 851, 5] rfl (by decide +kernel)) ggL_law_X7_count
set_option maxRecDepth 20000 in
theorem ggL_law_X6_digest : GoodIn wsL_law wsX6_digest := goodIn_r _ [860, 861, 862, 19, 305, 461, 389, 454, 455, 456, 24, 863, 846, 847, 2, 848, 94, 95, 96, 15, 88, 89, 430, 90, 91, 92, 93, 398, 281, 282, 18, 283, 46, 284, 285, 440, 287, 288, 289, 47, 441, 291, 292, 293, 48, 462, 296, 297, 298, 49, 589, 590, 591, 23, 592, 310, 583, 584, 585, 586, 587, 525, 526, 527, 528, 529, 530, 531, 532, 533, 320, 321, 322, 323, 54, 588, 535, 536, 537, 273, 274, 272, 870, 871, 872, 873, 874, 875, 876, 877, 878, 899, 900, 901, 902, 903, 904, 905, 906, 907, 908, 909, 895, 896, 897, 898, 917, 918, 910] rfl (by decide +kernel)
set_option maxRecDepth 20000 in
theorem gL_law_X6_digest : GoodIn wsL_law (wsV RL 105 RX6 yX6_digest wsX6_digest) := goodIn_app (goodIn_r _ [857, 858, 859, 2] rfl (by decide +kernel)) ggL_law_X6_digest
set_option maxRecDepth 20000 in
theorem ggL_law_X7_digest : GoodIn wsL_law wsX7_digest := goodIn_r _ [867, 868, 869, 74, 853, 854, 855, 5, 856, 76, 106, 408, 409, 410, 411, 597, 598, 599, 600, 546, 547, 548, 549, 550, 551, 552, 553, 554, 555, 556, 557, 558, 559, 560, 879, 880, 881, 882, 883, 884, 885, 886, 887, 888, 889, 890, 891, 892, 893, 894] rfl (by decide +kernel)
set_option maxRecDepth 20000 in
theorem gL_law_X7_digest : GoodIn wsL_law (wsV RL 109 RX7 yX7_digest wsX7_digest) := goodIn_app (goodIn_r _ [864, 865, 866, 5] rfl (by decide +kernel)) ggL_law_X7_digest
