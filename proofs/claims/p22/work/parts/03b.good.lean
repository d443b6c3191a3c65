set_option maxRecDepth 20000 in
theorem ggX6_stageRefusal_X6_refused : GoodIn wsX6_stageRefusal wsX6_refused := goodIn_r _ [12, 13, 14, 15, 121, 122, 123, 124, 125, 126, 127, 128, 129] rfl (by decide +kernel)
set_option maxRecDepth 20000 in
theorem gX6_stageRefusal_X6_refused : GoodIn wsX6_stageRefusal (wsV RX6 43 RX6 yX6_refused wsX6_refused) := goodIn_app (goodIn_r _ [9, 10, 11, 6] rfl (by decide +kernel)) ggX6_stageRefusal_X6_refused
set_option maxRecDepth 20000 in
theorem ggX6_changed_X1_fill : GoodIn wsX6_changed wsX1_fill := goodIn_r _ [9, 10, 11, 12, 13, 14, 15, 16, 17, 18, 19, 20, 21, 22, 23, 24, 25, 8, 26, 27, 28, 29, 30, 31, 32, 33, 34, 35, 36, 37, 38, 39, 40, 41, 58, 59, 60, 61, 62, 63, 64, 65, 66, 67, 68, 69] rfl (by decide +kernel)
set_option maxRecDepth 20000 in
theorem gX6_changed_X1_fill : GoodIn wsX6_changed (wsV RX6 193 RX1 yX1_fill wsX1_fill) := goodIn_app (goodIn_r _ [5, 6, 7, 8] rfl (by decide +kernel)) ggX6_changed_X1_fill
set_option maxRecDepth 20000 in
theorem ggX6_changed_X4_forget : GoodIn wsX6_changed wsX4_forget := goodIn_r _ [46, 47, 48, 70, 71, 72, 73, 74, 75] rfl (by decide +kernel)
set_option maxRecDepth 20000 in
theorem gX6_changed_X4_forget : GoodIn wsX6_changed (wsV RX6 267 RX4 yX4_forget wsX4_forget) := goodIn_app (goodIn_r _ [42, 43, 44, 45] rfl (by decide +kernel)) ggX6_changed_X4_forget
set_option maxRecDepth 20000 in
theorem ggX7_type_X7_in : GoodIn wsX7_type wsX7_in := goodIn_r _ [6] rfl (by decide +kernel)
set_option maxRecDepth 20000 in
theorem gX7_type_X7_in : GoodIn wsX7_type (va_wsS RX7 39 yX7_in wsX7_in) := goodIn_app (goodIn_of _ (by decide +kernel)) ggX7_type_X7_in
set_option maxRecDepth 20000 in
theorem ggX7_type_X7_refuses : GoodIn wsX7_type wsX7_refuses := goodIn_r _ [10, 11, 12, 13, 14, 15, 16, 17, 18, 19, 20, 21, 22, 23, 24, 25, 26, 27] rfl (by decide +kernel)
set_option maxRecDepth 20000 in
theorem gX7_type_X7_refuses : GoodIn wsX7_type (wsV RX7 43 RX7 yX7_refuses wsX7_refuses) := goodIn_app (goodIn_r _ [7, 8, 9, 5] rfl (by decide +kernel)) ggX7_type_X7_refuses
set_option maxRecDepth 20000 in
theorem ggX7_skips_X7_byteAt : GoodIn wsX7_skips wsX7_byteAt := goodIn_r _ [6, 7, 8, 9, 10, 11, 12, 13, 14, 15, 16, 17, 18, 19, 20, 21, 22, 23, 24] rfl (by decide +kernel)
set_option maxRecDepth 20000 in
theorem gX7_skips_X7_byteAt : GoodIn wsX7_skips (wsV RX7 54 RX7 yX7_byteAt wsX7_byteAt) := goodIn_app (goodIn_r _ [2, 3, 4, 5] rfl (by decide +kernel)) ggX7_skips_X7_byteAt
set_option maxRecDepth 20000 in
theorem ggX7_isDigit_X7_in : GoodIn wsX7_isDigit wsX7_in := goodIn_r _ [4] rfl (by decide +kernel)
set_option maxRecDepth 20000 in
theorem gX7_isDigit_X7_in : GoodIn wsX7_isDigit (va_wsS RX7 39 yX7_in wsX7_in) := goodIn_app (goodIn_of _ (by decide +kernel)) ggX7_isDigit_X7_in
set_option maxRecDepth 20000 in
theorem ggX7_isNumber_X7_skips : GoodIn wsX7_isNumber wsX7_skips := goodIn_r _ [8, 1, 9, 10, 11, 7, 12, 13, 2, 20, 21, 22, 23, 24, 25, 26, 27, 28, 29, 30, 31, 32, 33, 34, 35] rfl (by decide +kernel)
set_option maxRecDepth 20000 in
theorem gX7_isNumber_X7_skips : GoodIn wsX7_isNumber (wsV RX7 57 RX7 yX7_skips wsX7_skips) := goodIn_app (goodIn_r _ [4, 5, 6, 7] rfl (by decide +kernel)) ggX7_isNumber_X7_skips
set_option maxRecDepth 20000 in
theorem ggX7_isNumber_X7_byteAt : GoodIn wsX7_isNumber wsX7_byteAt := goodIn_r _ [12, 13, 2, 20, 21, 22, 23, 24, 25, 26, 27, 28, 29, 30, 31, 32, 33, 34, 35] rfl (by decide +kernel)
set_option maxRecDepth 20000 in
theorem gX7_isNumber_X7_byteAt : GoodIn wsX7_isNumber (wsV RX7 54 RX7 yX7_byteAt wsX7_byteAt) := goodIn_app (goodIn_r _ [9, 10, 11, 7] rfl (by decide +kernel)) ggX7_isNumber_X7_byteAt
set_option maxRecDepth 20000 in
theorem ggX7_isNumber_X7_isDigit : GoodIn wsX7_isNumber wsX7_isDigit := goodIn_r _ [16, 17, 18, 7, 19] rfl (by decide +kernel)
set_option maxRecDepth 20000 in
theorem gX7_isNumber_X7_isDigit : GoodIn wsX7_isNumber (va_wsS RX7 60 yX7_isDigit wsX7_isDigit) := goodIn_app (goodIn_of _ (by decide +kernel)) ggX7_isNumber_X7_isDigit
set_option maxRecDepth 20000 in
theorem ggX7_isNumber_X7_in : GoodIn wsX7_isNumber wsX7_in := goodIn_r _ [19] rfl (by decide +kernel)
set_option maxRecDepth 20000 in
theorem gX7_isNumber_X7_in : GoodIn wsX7_isNumber (va_wsS RX7 39 yX7_in wsX7_in) := goodIn_app (goodIn_of _ (by decide +kernel)) ggX7_isNumber_X7_in
set_option maxRecDepth 20000 in
theorem ggX7_isWord_X7_byteAt : GoodIn wsX7_isWord wsX7_byteAt := goodIn_r _ [7, 8, 9, 13, 14, 15, 16, 17, 18, 19, 20, 21, 22, 23, 24, 25, 26, 27, 28] rfl (by decide +kernel)
set_option maxRecDepth 20000 in
theorem gX7_isWord_X7_byteAt : GoodIn wsX7_isWord (wsV RX7 54 RX7 yX7_byteAt wsX7_byteAt) := goodIn_app (goodIn_r _ [3, 4, 5, 6] rfl (by decide +kernel)) ggX7_isWord_X7_byteAt
set_option maxRecDepth 20000 in
theorem ggX7_isWord_X7_in : GoodIn wsX7_isWord wsX7_in := goodIn_r _ [12] rfl (by decide +kernel)
set_option maxRecDepth 20000 in
theorem gX7_isWord_X7_in : GoodIn wsX7_isWord (va_wsS RX7 39 yX7_in wsX7_in) := goodIn_app (goodIn_of _ (by decide +kernel)) ggX7_isWord_X7_in
set_option maxRecDepth 20000 in
theorem ggX7_word_X7_skips : GoodIn wsX7_word wsX7_skips := goodIn_r _ [7, 2, 8, 9, 10, 6, 11, 12, 13, 21, 22, 23, 24, 25, 26, 27, 28, 29, 30, 31, 32, 33, 34, 35, 36] rfl (by decide +kernel)
set_option maxRecDepth 20000 in
theorem gX7_word_X7_skips : GoodIn wsX7_word (wsV RX7 57 RX7 yX7_skips wsX7_skips) := goodIn_app (goodIn_r _ [3, 4, 5, 6] rfl (by decide +kernel)) ggX7_word_X7_skips
set_option maxRecDepth 20000 in
theorem ggX7_word_X7_in : GoodIn wsX7_word wsX7_in := goodIn_r _ [16] rfl (by decide +kernel)
set_option maxRecDepth 20000 in
theorem gX7_word_X7_in : GoodIn wsX7_word (va_wsS RX7 39 yX7_in wsX7_in) := goodIn_app (goodIn_of _ (by decide +kernel)) ggX7_word_X7_in
set_option maxRecDepth 20000 in
theorem ggX7_word_X7_isWord : GoodIn wsX7_word wsX7_isWord := goodIn_r _ [20, 2, 1, 8, 9, 10, 6, 11, 12, 13, 14, 15, 16, 21, 22, 23, 24, 25, 26, 27, 28, 29, 30, 31, 32, 33, 34, 35, 36] rfl (by decide +kernel)
set_option maxRecDepth 20000 in
theorem gX7_word_X7_isWord : GoodIn wsX7_word (wsV RX7 67 RX7 yX7_isWord wsX7_isWord) := goodIn_app (goodIn_r _ [17, 18, 19, 6] rfl (by decide +kernel)) ggX7_word_X7_isWord
set_option maxRecDepth 20000 in
theorem ggX7_ends_X7_skips : GoodIn wsX7_ends wsX7_skips := goodIn_r _ [6, 1, 7, 8, 9, 5, 10, 11, 12, 13, 14, 15, 16, 17, 18, 19, 20, 21, 22, 23, 24, 25, 26, 27, 28] rfl (by decide +kernel)
set_option maxRecDepth 20000 in
theorem gX7_ends_X7_skips : GoodIn wsX7_ends (wsV RX7 57 RX7 yX7_skips wsX7_skips) := goodIn_app (goodIn_r _ [2, 3, 4, 5] rfl (by decide +kernel)) ggX7_ends_X7_skips
set_option maxRecDepth 20000 in
theorem ggX7_ends_X7_byteAt : GoodIn wsX7_ends wsX7_byteAt := goodIn_r _ [10, 11, 12, 13, 14, 15, 16, 17, 18, 19, 20, 21, 22, 23, 24, 25, 26, 27, 28] rfl (by decide +kernel)
set_option maxRecDepth 20000 in
theorem gX7_ends_X7_byteAt : GoodIn wsX7_ends (wsV RX7 54 RX7 yX7_byteAt wsX7_byteAt) := goodIn_app (goodIn_r _ [7, 8, 9, 5] rfl (by decide +kernel)) ggX7_ends_X7_byteAt
set_option maxRecDepth 20000 in
theorem ggX7_readsGate_X7_word : GoodIn wsX7_readsGate wsX7_word := goodIn_r _ [7, 8, 9, 10, 11, 12, 6, 13, 14, 15, 16, 17, 18, 19, 20, 21, 22, 23, 24, 25, 26, 38, 39, 40, 41, 42, 43, 44, 45, 46, 47, 48, 49, 50, 51, 52, 53] rfl (by decide +kernel)
set_option maxRecDepth 20000 in
theorem gX7_readsGate_X7_word : GoodIn wsX7_readsGate (wsV RX7 71 RX7 yX7_word wsX7_word) := goodIn_app (goodIn_r _ [3, 4, 5, 6] rfl (by decide +kernel)) ggX7_readsGate_X7_word
set_option maxRecDepth 20000 in
theorem ggX7_readsGate_X7_isNumber : GoodIn wsX7_readsGate wsX7_isNumber := goodIn_r _ [30, 9, 19, 2, 10, 11, 12, 6, 13, 14, 15, 16, 17, 18, 31, 32, 33, 20, 21, 22, 38, 39, 40, 41, 42, 43, 44, 45, 46, 47, 48, 49, 50, 51, 52, 53] rfl (by decide +kernel)
set_option maxRecDepth 20000 in
theorem gX7_readsGate_X7_isNumber : GoodIn wsX7_readsGate (wsV RX7 75 RX7 yX7_isNumber wsX7_isNumber) := goodIn_app (goodIn_r _ [27, 28, 29, 6] rfl (by decide +kernel)) ggX7_readsGate_X7_isNumber
set_option maxRecDepth 20000 in
theorem ggX7_readsGate_X7_ends : GoodIn wsX7_readsGate wsX7_ends := goodIn_r _ [37, 9, 10, 11, 12, 6, 13, 14, 15, 16, 17, 18, 19, 38, 39, 40, 41, 42, 43, 44, 45, 46, 47, 48, 49, 50, 51, 52, 53] rfl (by decide +kernel)
set_option maxRecDepth 20000 in
theorem gX7_readsGate_X7_ends : GoodIn wsX7_readsGate (wsV RX7 78 RX7 yX7_ends wsX7_ends) := goodIn_app (goodIn_r _ [34, 35, 36, 6] rfl (by decide +kernel)) ggX7_readsGate_X7_ends
set_option maxRecDepth 20000 in
theorem ggX7_readsOuts_X7_skips : GoodIn wsX7_readsOuts wsX7_skips := goodIn_r _ [8, 2, 9, 10, 11, 7, 12, 13, 14, 29, 30, 31, 32, 33, 34, 35, 36, 37, 38, 39, 40, 41, 42, 43, 44] rfl (by decide +kernel)
set_option maxRecDepth 20000 in
theorem gX7_readsOuts_X7_skips : GoodIn wsX7_readsOuts (wsV RX7 57 RX7 yX7_skips wsX7_skips) := goodIn_app (goodIn_r _ [4, 5, 6, 7] rfl (by decide +kernel)) ggX7_readsOuts_X7_skips
set_option maxRecDepth 20000 in
theorem ggX7_readsOuts_X7_byteAt : GoodIn wsX7_readsOuts wsX7_byteAt := goodIn_r _ [12, 13, 14, 29, 30, 31, 32, 33, 34, 35, 36, 37, 38, 39, 40, 41, 42, 43, 44] rfl (by decide +kernel)
set_option maxRecDepth 20000 in
theorem gX7_readsOuts_X7_byteAt : GoodIn wsX7_readsOuts (wsV RX7 54 RX7 yX7_byteAt wsX7_byteAt) := goodIn_app (goodIn_r _ [9, 10, 11, 7] rfl (by decide +kernel)) ggX7_readsOuts_X7_byteAt
set_option maxRecDepth 20000 in
theorem ggX7_readsOuts_X7_ends : GoodIn wsX7_readsOuts wsX7_ends := goodIn_r _ [18, 2, 4, 5, 6, 7, 8, 9, 10, 11, 12, 13, 14, 29, 30, 31, 32, 33, 34, 35, 36, 37, 38, 39, 40, 41, 42, 43, 44] rfl (by decide +kernel)
set_option maxRecDepth 20000 in
theorem gX7_readsOuts_X7_ends : GoodIn wsX7_readsOuts (wsV RX7 78 RX7 yX7_ends wsX7_ends) := goodIn_app (goodIn_r _ [15, 16, 17, 7] rfl (by decide +kernel)) ggX7_readsOuts_X7_ends
set_option maxRecDepth 20000 in
theorem ggX7_readsOuts_X7_isNumber : GoodIn wsX7_readsOuts wsX7_isNumber := goodIn_r _ [22, 2, 14, 3, 4, 5, 6, 7, 8, 9, 10, 11, 12, 13, 23, 24, 25, 26, 27, 28, 29, 30, 31, 32, 33, 34, 35, 36, 37, 38, 39, 40, 41, 42, 43, 44] rfl (by decide +kernel)
set_option maxRecDepth 20000 in
theorem gX7_readsOuts_X7_isNumber : GoodIn wsX7_readsOuts (wsV RX7 75 RX7 yX7_isNumber wsX7_isNumber) := goodIn_app (goodIn_r _ [19, 20, 21, 7] rfl (by decide +kernel)) ggX7_readsOuts_X7_isNumber
set_option maxRecDepth 20000 in
theorem ggX7_readsTask_X7_word : GoodIn wsX7_readsTask wsX7_word := goodIn_r _ [7, 8, 9, 10, 11, 12, 6, 13, 14, 15, 16, 17, 18, 19, 20, 21, 22, 23, 24, 25, 26, 38, 39, 40, 41, 42, 43, 44, 45, 46, 47, 48, 49, 50, 51, 52, 53] rfl (by decide +kernel)
set_option maxRecDepth 20000 in
theorem gX7_readsTask_X7_word : GoodIn wsX7_readsTask (wsV RX7 71 RX7 yX7_word wsX7_word) := goodIn_app (goodIn_r _ [3, 4, 5, 6] rfl (by decide +kernel)) ggX7_readsTask_X7_word
set_option maxRecDepth 20000 in
theorem ggX7_readsTask_X7_isNumber : GoodIn wsX7_readsTask wsX7_isNumber := goodIn_r _ [30, 9, 19, 2, 10, 11, 12, 6, 13, 14, 15, 16, 17, 18, 31, 32, 33, 20, 21, 22, 38, 39, 40, 41, 42, 43, 44, 45, 46, 47, 48, 49, 50, 51, 52, 53] rfl (by decide +kernel)
set_option maxRecDepth 20000 in
theorem gX7_readsTask_X7_isNumber : GoodIn wsX7_readsTask (wsV RX7 75 RX7 yX7_isNumber wsX7_isNumber) := goodIn_app (goodIn_r _ [27, 28, 29, 6] rfl (by decide +kernel)) ggX7_readsTask_X7_isNumber
set_option maxRecDepth 20000 in
theorem ggX7_readsTask_X7_ends : GoodIn wsX7_readsTask wsX7_ends := goodIn_r _ [37, 9, 10, 11, 12, 6, 13, 14, 15, 16, 17, 18, 19, 38, 39, 40, 41, 42, 43, 44, 45, 46, 47, 48, 49, 50, 51, 52, 53] rfl (by decide +kernel)
set_option maxRecDepth 20000 in
theorem gX7_readsTask_X7_ends : GoodIn wsX7_readsTask (wsV RX7 78 RX7 yX7_ends wsX7_ends) := goodIn_app (goodIn_r _ [34, 35, 36, 6] rfl (by decide +kernel)) ggX7_readsTask_X7_ends
set_option maxRecDepth 20000 in
theorem ggX7_readsAll_X7_word : GoodIn wsX7_readsAll wsX7_word := goodIn_r _ [9, 10, 2, 11, 12, 13, 8, 14, 15, 16, 17, 18, 4, 19, 20, 21, 22, 23, 24, 25, 26, 50, 51, 52, 53, 54, 55, 56, 57, 58, 59, 60, 61, 62, 63, 64, 65] rfl (by decide +kernel)
set_option maxRecDepth 20000 in
theorem gX7_readsAll_X7_word : GoodIn wsX7_readsAll (wsV RX7 71 RX7 yX7_word wsX7_word) := goodIn_app (goodIn_r _ [5, 6, 7, 8] rfl (by decide +kernel)) ggX7_readsAll_X7_word
set_option maxRecDepth 20000 in
theorem ggX7_readsAll_X7_isNumber : GoodIn wsX7_readsAll wsX7_isNumber := goodIn_r _ [30, 2, 19, 3, 11, 12, 13, 8, 14, 15, 16, 17, 18, 4, 31, 32, 33, 20, 21, 22, 50, 51, 52, 53, 54, 55, 56, 57, 58, 59, 60, 61, 62, 63, 64, 65] rfl (by decide +kernel)
set_option maxRecDepth 20000 in
theorem gX7_readsAll_X7_isNumber : GoodIn wsX7_readsAll (wsV RX7 75 RX7 yX7_isNumber wsX7_isNumber) := goodIn_app (goodIn_r _ [27, 28, 29, 8] rfl (by decide +kernel)) ggX7_readsAll_X7_isNumber
set_option maxRecDepth 20000 in
theorem ggX7_readsAll_X7_ends : GoodIn wsX7_readsAll wsX7_ends := goodIn_r _ [37, 2, 11, 12, 13, 8, 14, 15, 16, 17, 18, 4, 19, 50, 51, 52, 53, 54, 55, 56, 57, 58, 59, 60, 61, 62, 63, 64, 65] rfl (by decide +kernel)
set_option maxRecDepth 20000 in
theorem gX7_readsAll_X7_ends : GoodIn wsX7_readsAll (wsV RX7 78 RX7 yX7_ends wsX7_ends) := goodIn_app (goodIn_r _ [34, 35, 36, 8] rfl (by decide +kernel)) ggX7_readsAll_X7_ends
set_option maxRecDepth 20000 in
theorem ggX7_readsAll_X7_readsGate : GoodIn wsX7_readsAll wsX7_readsGate := goodIn_r _ [41, 1, 3, 5, 6, 7, 8, 9, 10, 2, 11, 12, 13, 14, 15, 16, 17, 18, 4, 19, 20, 21, 22, 23, 24, 25, 26, 27, 28, 29, 30, 31, 32, 33, 34, 35, 36, 37, 50, 51, 52, 53, 54, 55, 56, 57, 58, 59, 60, 61, 62, 63, 64, 65] rfl (by decide +kernel)
set_option maxRecDepth 20000 in
theorem gX7_readsAll_X7_readsGate : GoodIn wsX7_readsAll (wsV RX7 82 RX7 yX7_readsGate wsX7_readsGate) := goodIn_app (goodIn_r _ [38, 39, 40, 8] rfl (by decide +kernel)) ggX7_readsAll_X7_readsGate
set_option maxRecDepth 20000 in
theorem ggX7_readsAll_X7_readsOuts : GoodIn wsX7_readsAll wsX7_readsOuts := goodIn_r _ [45, 1, 2, 3, 11, 12, 13, 8, 14, 15, 16, 17, 18, 4, 19, 34, 35, 36, 37, 27, 28, 29, 30, 31, 32, 33, 20, 21, 22, 50, 51, 52, 53, 54, 55, 56, 57, 58, 59, 60, 61, 62, 63, 64, 65] rfl (by decide +kernel)
set_option maxRecDepth 20000 in
theorem gX7_readsAll_X7_readsOuts : GoodIn wsX7_readsAll (wsV RX7 85 RX7 yX7_readsOuts wsX7_readsOuts) := goodIn_app (goodIn_r _ [42, 43, 44, 8] rfl (by decide +kernel)) ggX7_readsAll_X7_readsOuts
set_option maxRecDepth 20000 in
theorem ggX7_readsAll_X7_readsTask : GoodIn wsX7_readsAll wsX7_readsTask := goodIn_r _ [49, 1, 3, 5, 6, 7, 8, 9, 10, 2, 11, 12, 13, 14, 15, 16, 17, 18, 4, 19, 20, 21, 22, 23, 24, 25, 26, 27, 28, 29, 30, 31, 32, 33, 34, 35, 36, 37, 50, 51, 52, 53, 54, 55, 56, 57, 58, 59, 60, 61, 62, 63, 64, 65] rfl (by decide +kernel)
set_option maxRecDepth 20000 in
theorem gX7_readsAll_X7_readsTask : GoodIn wsX7_readsAll (wsV RX7 88 RX7 yX7_readsTask wsX7_readsTask) := goodIn_app (goodIn_r _ [46, 47, 48, 8] rfl (by decide +kernel)) ggX7_readsAll_X7_readsTask
set_option maxRecDepth 20000 in
theorem ggX7_readsAll_X7_skips : GoodIn wsX7_readsAll wsX7_skips := goodIn_r _ [14, 2, 15, 16, 17, 8, 18, 4, 19, 50, 51, 52, 53, 54, 55, 56, 57, 58, 59, 60, 61, 62, 63, 64, 65] rfl (by decide +kernel)
set_option maxRecDepth 20000 in
theorem gX7_readsAll_X7_skips : GoodIn wsX7_readsAll (wsV RX7 57 RX7 yX7_skips wsX7_skips) := goodIn_app (goodIn_r _ [11, 12, 13, 8] rfl (by decide +kernel)) ggX7_readsAll_X7_skips
set_option maxRecDepth 20000 in
theorem ggX7_reads_X7_readsAll : GoodIn wsX7_reads wsX7_readsAll := goodIn_r _ [8, 3, 1, 9, 10, 11, 12, 13, 7, 14, 15, 16, 17, 18, 19, 20, 21, 22, 23, 24, 25, 26, 27, 28, 29, 30, 31, 32, 33, 34, 35, 36, 37, 38, 39, 40, 41, 42, 43, 44, 45, 46, 47, 48, 49, 50, 51, 52, 53, 54, 55, 56, 57, 58, 59, 60, 61, 62, 63, 64, 65, 66, 67, 68, 69, 70] rfl (by decide +kernel)
set_option maxRecDepth 20000 in
theorem gX7_reads_X7_readsAll : GoodIn wsX7_reads (wsV RX7 91 RX7 yX7_readsAll wsX7_readsAll) := goodIn_app (goodIn_r _ [4, 5, 6, 7] rfl (by decide +kernel)) ggX7_reads_X7_readsAll
set_option maxRecDepth 20000 in
theorem ggX7_isGate_X7_isThere : GoodIn wsX7_isGate wsX7_isThere := goodIn_r _ [6, 1, 10, 11, 12, 13, 14, 15, 16, 17, 18, 19, 20, 21, 22, 23, 24, 25] rfl (by decide +kernel)
set_option maxRecDepth 20000 in
theorem gX7_isGate_X7_isThere : GoodIn wsX7_isGate (wsV RX7 94 RX7 yX7_isThere wsX7_isThere) := goodIn_app (goodIn_r _ [2, 3, 4, 5] rfl (by decide +kernel)) ggX7_isGate_X7_isThere
set_option maxRecDepth 20000 in
theorem ggX7_isGate_X7_in : GoodIn wsX7_isGate wsX7_in := goodIn_r _ [9] rfl (by decide +kernel)
set_option maxRecDepth 20000 in
theorem gX7_isGate_X7_in : GoodIn wsX7_isGate (va_wsS RX7 39 yX7_in wsX7_in) := goodIn_app (goodIn_of _ (by decide +kernel)) ggX7_isGate_X7_in
set_option maxRecDepth 20000 in
theorem ggX7_isInput_X7_isThere : GoodIn wsX7_isInput wsX7_isThere := goodIn_r _ [6, 1, 10, 11, 12, 13, 14, 15, 16, 17, 18, 19, 20, 21, 22, 23, 24, 25] rfl (by decide +kernel)
set_option maxRecDepth 20000 in
theorem gX7_isInput_X7_isThere : GoodIn wsX7_isInput (wsV RX7 94 RX7 yX7_isThere wsX7_isThere) := goodIn_app (goodIn_r _ [2, 3, 4, 5] rfl (by decide +kernel)) ggX7_isInput_X7_isThere
set_option maxRecDepth 20000 in
theorem ggX7_isInput_X7_in : GoodIn wsX7_isInput wsX7_in := goodIn_r _ [9] rfl (by decide +kernel)
set_option maxRecDepth 20000 in
theorem gX7_isInput_X7_in : GoodIn wsX7_isInput (va_wsS RX7 39 yX7_in wsX7_in) := goodIn_app (goodIn_of _ (by decide +kernel)) ggX7_isInput_X7_in
set_option maxRecDepth 20000 in
theorem ggX7_isStage_X7_isThere : GoodIn wsX7_isStage wsX7_isThere := goodIn_r _ [6, 1, 10, 11, 12, 13, 14, 15, 16, 17, 18, 19, 20, 21, 22, 23, 24, 25] rfl (by decide +kernel)
set_option maxRecDepth 20000 in
theorem gX7_isStage_X7_isThere : GoodIn wsX7_isStage (wsV RX7 94 RX7 yX7_isThere wsX7_isThere) := goodIn_app (goodIn_r _ [2, 3, 4, 5] rfl (by decide +kernel)) ggX7_isStage_X7_isThere
set_option maxRecDepth 20000 in
theorem ggX7_isStage_X7_in : GoodIn wsX7_isStage wsX7_in := goodIn_r _ [9] rfl (by decide +kernel)
set_option maxRecDepth 20000 in
theorem gX7_isStage_X7_in : GoodIn wsX7_isStage (va_wsS RX7 39 yX7_in wsX7_in) := goodIn_app (goodIn_of _ (by decide +kernel)) ggX7_isStage_X7_in
set_option maxRecDepth 20000 in
theorem ggX7_none_X7_refuses : GoodIn wsX7_none wsX7_refuses := goodIn_r _ [5, 6, 7, 8, 9, 10, 11, 12, 13, 14, 15, 16, 17, 18, 19, 20, 21, 22] rfl (by decide +kernel)
set_option maxRecDepth 20000 in
theorem gX7_none_X7_refuses : GoodIn wsX7_none (wsV RX7 43 RX7 yX7_refuses wsX7_refuses) := goodIn_app (goodIn_r _ [1, 2, 3, 4] rfl (by decide +kernel)) ggX7_none_X7_refuses
set_option maxRecDepth 20000 in
theorem ggX7_kind_X7_isGate : GoodIn wsX7_kind wsX7_isGate := goodIn_r _ [6, 1, 7, 8, 9, 5, 10, 11, 12, 13, 23, 24, 25, 26, 27, 28, 29, 30, 31, 32, 33, 34, 35, 36, 37, 38] rfl (by decide +kernel)
set_option maxRecDepth 20000 in
theorem gX7_kind_X7_isGate : GoodIn wsX7_kind (wsV RX7 97 RX7 yX7_isGate wsX7_isGate) := goodIn_app (goodIn_r _ [2, 3, 4, 5] rfl (by decide +kernel)) ggX7_kind_X7_isGate
set_option maxRecDepth 20000 in
theorem ggX7_kind_X7_in : GoodIn wsX7_kind wsX7_in := goodIn_r _ [13] rfl (by decide +kernel)
set_option maxRecDepth 20000 in
theorem gX7_kind_X7_in : GoodIn wsX7_kind (va_wsS RX7 39 yX7_in wsX7_in) := goodIn_app (goodIn_of _ (by decide +kernel)) ggX7_kind_X7_in
set_option maxRecDepth 20000 in
theorem ggX7_kind_X7_isThere : GoodIn wsX7_kind wsX7_isThere := goodIn_r _ [10, 1, 23, 24, 25, 26, 27, 28, 29, 30, 31, 32, 33, 34, 35, 36, 37, 38] rfl (by decide +kernel)
set_option maxRecDepth 20000 in
theorem gX7_kind_X7_isThere : GoodIn wsX7_kind (wsV RX7 94 RX7 yX7_isThere wsX7_isThere) := goodIn_app (goodIn_r _ [7, 8, 9, 5] rfl (by decide +kernel)) ggX7_kind_X7_isThere
set_option maxRecDepth 20000 in
theorem ggX7_kind_X7_none : GoodIn wsX7_kind wsX7_none := goodIn_r _ [17, 18, 19, 20, 5, 21, 22, 23, 24, 25, 26, 27, 28, 29, 30, 31, 32, 33, 34, 35, 36, 37, 38] rfl (by decide +kernel)
set_option maxRecDepth 20000 in
theorem gX7_kind_X7_none : GoodIn wsX7_kind (wsV RX7 100 RX7 yX7_none wsX7_none) := goodIn_app (goodIn_r _ [14, 15, 16, 5] rfl (by decide +kernel)) ggX7_kind_X7_none
set_option maxRecDepth 20000 in
theorem ggX7_wire_X7_isGate : GoodIn wsX7_wire wsX7_isGate := goodIn_r _ [6, 1, 7, 8, 9, 5, 10, 11, 12, 13, 23, 24, 25, 26, 27, 28, 29, 30, 31, 32, 33, 34, 35, 36, 37, 38] rfl (by decide +kernel)
set_option maxRecDepth 20000 in
theorem gX7_wire_X7_isGate : GoodIn wsX7_wire (wsV RX7 97 RX7 yX7_isGate wsX7_isGate) := goodIn_app (goodIn_r _ [2, 3, 4, 5] rfl (by decide +kernel)) ggX7_wire_X7_isGate
set_option maxRecDepth 20000 in
theorem ggX7_wire_X7_in : GoodIn wsX7_wire wsX7_in := goodIn_r _ [13] rfl (by decide +kernel)
set_option maxRecDepth 20000 in
theorem gX7_wire_X7_in : GoodIn wsX7_wire (va_wsS RX7 39 yX7_in wsX7_in) := goodIn_app (goodIn_of _ (by decide +kernel)) ggX7_wire_X7_in
set_option maxRecDepth 20000 in
theorem ggX7_wire_X7_isThere : GoodIn wsX7_wire wsX7_isThere := goodIn_r _ [10, 1, 23, 24, 25, 26, 27, 28, 29, 30, 31, 32, 33, 34, 35, 36, 37, 38] rfl (by decide +kernel)
set_option maxRecDepth 20000 in
theorem gX7_wire_X7_isThere : GoodIn wsX7_wire (wsV RX7 94 RX7 yX7_isThere wsX7_isThere) := goodIn_app (goodIn_r _ [7, 8, 9, 5] rfl (by decide +kernel)) ggX7_wire_X7_isThere
set_option maxRecDepth 20000 in
theorem ggX7_wire_X7_none : GoodIn wsX7_wire wsX7_none := goodIn_r _ [17, 18, 19, 20, 5, 21, 22, 23, 24, 25, 26, 27, 28, 29, 30, 31, 32, 33, 34, 35, 36, 37, 38] rfl (by decide +kernel)
set_option maxRecDepth 20000 in
theorem gX7_wire_X7_none : GoodIn wsX7_wire (wsV RX7 100 RX7 yX7_none wsX7_none) := goodIn_app (goodIn_r _ [14, 15, 16, 5] rfl (by decide +kernel)) ggX7_wire_X7_none
set_option maxRecDepth 20000 in
theorem ggX7_of_X7_isGate : GoodIn wsX7_of wsX7_isGate := goodIn_r _ [6, 1, 7, 8, 9, 5, 10, 11, 12, 13, 23, 24, 25, 26, 27, 28, 29, 30, 31, 32, 33, 34, 35, 36, 37, 38] rfl (by decide +kernel)
set_option maxRecDepth 20000 in
theorem gX7_of_X7_isGate : GoodIn wsX7_of (wsV RX7 97 RX7 yX7_isGate wsX7_isGate) := goodIn_app (goodIn_r _ [2, 3, 4, 5] rfl (by decide +kernel)) ggX7_of_X7_isGate
set_option maxRecDepth 20000 in
theorem ggX7_of_X7_in : GoodIn wsX7_of wsX7_in := goodIn_r _ [13] rfl (by decide +kernel)
set_option maxRecDepth 20000 in
theorem gX7_of_X7_in : GoodIn wsX7_of (va_wsS RX7 39 yX7_in wsX7_in) := goodIn_app (goodIn_of _ (by decide +kernel)) ggX7_of_X7_in
set_option maxRecDepth 20000 in
theorem ggX7_of_X7_isThere : GoodIn wsX7_of wsX7_isThere := goodIn_r _ [10, 1, 23, 24, 25, 26, 27, 28, 29, 30, 31, 32, 33, 34, 35, 36, 37, 38] rfl (by decide +kernel)
set_option maxRecDepth 20000 in
theorem gX7_of_X7_isThere : GoodIn wsX7_of (wsV RX7 94 RX7 yX7_isThere wsX7_isThere) := goodIn_app (goodIn_r _ [7, 8, 9, 5] rfl (by decide +kernel)) ggX7_of_X7_isThere
set_option maxRecDepth 20000 in
theorem ggX7_of_X7_none : GoodIn wsX7_of wsX7_none := goodIn_r _ [17, 18, 19, 20, 5, 21, 22, 23, 24, 25, 26, 27, 28, 29, 30, 31, 32, 33, 34, 35, 36, 37, 38] rfl (by decide +kernel)
set_option maxRecDepth 20000 in
theorem gX7_of_X7_none : GoodIn wsX7_of (wsV RX7 100 RX7 yX7_none wsX7_none) := goodIn_app (goodIn_r _ [14, 15, 16, 5] rfl (by decide +kernel)) ggX7_of_X7_none
set_option maxRecDepth 20000 in
theorem ggX7_told_X7_isThere : GoodIn wsX7_told wsX7_isThere := goodIn_r _ [6, 1, 19, 20, 21, 22, 23, 24, 25, 26, 27, 28, 29, 30, 31, 32, 33, 34] rfl (by decide +kernel)
set_option maxRecDepth 20000 in
theorem gX7_told_X7_isThere : GoodIn wsX7_told (wsV RX7 94 RX7 yX7_isThere wsX7_isThere) := goodIn_app (goodIn_r _ [2, 3, 4, 5] rfl (by decide +kernel)) ggX7_told_X7_isThere
set_option maxRecDepth 20000 in
theorem ggX7_told_X7_in : GoodIn wsX7_told wsX7_in := goodIn_r _ [9] rfl (by decide +kernel)
set_option maxRecDepth 20000 in
theorem gX7_told_X7_in : GoodIn wsX7_told (va_wsS RX7 39 yX7_in wsX7_in) := goodIn_app (goodIn_of _ (by decide +kernel)) ggX7_told_X7_in
set_option maxRecDepth 20000 in
theorem ggX7_told_X7_none : GoodIn wsX7_told wsX7_none := goodIn_r _ [13, 14, 15, 16, 5, 17, 18, 19, 20, 21, 22, 23, 24, 25, 26, 27, 28, 29, 30, 31, 32, 33, 34] rfl (by decide +kernel)
set_option maxRecDepth 20000 in
theorem gX7_told_X7_none : GoodIn wsX7_told (wsV RX7 100 RX7 yX7_none wsX7_none) := goodIn_app (goodIn_r _ [10, 11, 12, 5] rfl (by decide +kernel)) ggX7_told_X7_none
set_option maxRecDepth 20000 in
theorem ggX7_adder_X7_in : GoodIn wsX7_adder wsX7_in := goodIn_r _ [5] rfl (by decide +kernel)
set_option maxRecDepth 20000 in
theorem gX7_adder_X7_in : GoodIn wsX7_adder (va_wsS RX7 39 yX7_in wsX7_in) := goodIn_app (goodIn_of _ (by decide +kernel)) ggX7_adder_X7_in
set_option maxRecDepth 20000 in
theorem ggX7_adder_X7_refuses : GoodIn wsX7_adder wsX7_refuses := goodIn_r _ [9, 10, 22, 23, 24, 25, 26, 27, 28, 29, 30, 31, 32, 33, 34, 35, 36, 37] rfl (by decide +kernel)
set_option maxRecDepth 20000 in
theorem gX7_adder_X7_refuses : GoodIn wsX7_adder (wsV RX7 43 RX7 yX7_refuses wsX7_refuses) := goodIn_app (goodIn_r _ [6, 7, 8, 4] rfl (by decide +kernel)) ggX7_adder_X7_refuses
set_option maxRecDepth 20000 in
theorem ggX7_adder_X7_begins : GoodIn wsX7_adder wsX7_begins := goodIn_r _ [14, 1, 22, 23, 24, 25, 26, 27, 28, 29, 30, 31, 32, 33, 34, 35, 36, 37] rfl (by decide +kernel)
set_option maxRecDepth 20000 in
theorem gX7_adder_X7_begins : GoodIn wsX7_adder (wsV RX7 104 RX7 yX7_begins wsX7_begins) := goodIn_app (goodIn_r _ [11, 12, 13, 4] rfl (by decide +kernel)) ggX7_adder_X7_begins
set_option maxRecDepth 20000 in
theorem ggX7_adder_X7_lays : GoodIn wsX7_adder wsX7_lays := goodIn_r _ [17] rfl (by decide +kernel)
set_option maxRecDepth 20000 in
theorem gX7_adder_X7_lays : GoodIn wsX7_adder (va_wsS RX7 108 yX7_lays wsX7_lays) := goodIn_app (goodIn_of _ (by decide +kernel)) ggX7_adder_X7_lays
set_option maxRecDepth 20000 in
theorem ggX7_adder_X7_outs : GoodIn wsX7_adder wsX7_outs := goodIn_r _ [21, 1, 22, 23, 24, 25, 26, 27, 28, 29, 30, 31, 32, 33, 34, 35, 36, 37] rfl (by decide +kernel)
set_option maxRecDepth 20000 in
theorem gX7_adder_X7_outs : GoodIn wsX7_adder (wsV RX7 112 RX7 yX7_outs wsX7_outs) := goodIn_app (goodIn_r _ [18, 19, 20, 4] rfl (by decide +kernel)) ggX7_adder_X7_outs
set_option maxRecDepth 20000 in
theorem ggX7_draw_X7_in : GoodIn wsX7_draw wsX7_in := goodIn_r _ [13] rfl (by decide +kernel)
set_option maxRecDepth 20000 in
theorem gX7_draw_X7_in : GoodIn wsX7_draw (va_wsS RX7 39 yX7_in wsX7_in) := goodIn_app (goodIn_of _ (by decide +kernel)) ggX7_draw_X7_in
set_option maxRecDepth 20000 in
theorem ggX7_draw_X7_refuses : GoodIn wsX7_draw wsX7_refuses := goodIn_r _ [17, 18, 30, 31, 32, 33, 34, 35, 36, 37, 38, 39, 40, 41, 42, 43, 44, 45] rfl (by decide +kernel)
set_option maxRecDepth 20000 in
theorem gX7_draw_X7_refuses : GoodIn wsX7_draw (wsV RX7 43 RX7 yX7_refuses wsX7_refuses) := goodIn_app (goodIn_r _ [14, 15, 16, 12] rfl (by decide +kernel)) ggX7_draw_X7_refuses
set_option maxRecDepth 20000 in
theorem ggX7_draw_X7_begins : GoodIn wsX7_draw wsX7_begins := goodIn_r _ [22, 5, 30, 31, 32, 33, 34, 35, 36, 37, 38, 39, 40, 41, 42, 43, 44, 45] rfl (by decide +kernel)
set_option maxRecDepth 20000 in
theorem gX7_draw_X7_begins : GoodIn wsX7_draw (wsV RX7 104 RX7 yX7_begins wsX7_begins) := goodIn_app (goodIn_r _ [19, 20, 21, 12] rfl (by decide +kernel)) ggX7_draw_X7_begins
set_option maxRecDepth 20000 in
theorem ggX7_draw_X7_lays : GoodIn wsX7_draw wsX7_lays := goodIn_r _ [25] rfl (by decide +kernel)
set_option maxRecDepth 20000 in
theorem gX7_draw_X7_lays : GoodIn wsX7_draw (va_wsS RX7 108 yX7_lays wsX7_lays) := goodIn_app (goodIn_of _ (by decide +kernel)) ggX7_draw_X7_lays
set_option maxRecDepth 20000 in
theorem ggX7_draw_X7_outs : GoodIn wsX7_draw wsX7_outs := goodIn_r _ [29, 5, 30, 31, 32, 33, 34, 35, 36, 37, 38, 39, 40, 41, 42, 43, 44, 45] rfl (by decide +kernel)
set_option maxRecDepth 20000 in
theorem gX7_draw_X7_outs : GoodIn wsX7_draw (wsV RX7 112 RX7 yX7_outs wsX7_outs) := goodIn_app (goodIn_r _ [26, 27, 28, 12] rfl (by decide +kernel)) ggX7_draw_X7_outs
set_option maxRecDepth 20000 in
theorem ggX7_signals_X7_goes : GoodIn wsX7_signals wsX7_goes := goodIn_r _ [5] rfl (by decide +kernel)
set_option maxRecDepth 20000 in
theorem gX7_signals_X7_goes : GoodIn wsX7_signals (va_wsS RX7 131 yX7_goes wsX7_goes) := goodIn_app (goodIn_of _ (by decide +kernel)) ggX7_signals_X7_goes
set_option maxRecDepth 20000 in
theorem ggX7_stand_X7_signals : GoodIn wsX7_stand wsX7_signals := goodIn_r _ [6, 1, 7, 8, 5, 9, 10, 11, 12, 13, 14, 15, 16, 17, 18, 19, 20, 21, 22, 23, 24, 25] rfl (by decide +kernel)
set_option maxRecDepth 20000 in
theorem gX7_stand_X7_signals : GoodIn wsX7_stand (wsV RX7 135 RX7 yX7_signals wsX7_signals) := goodIn_app (goodIn_r _ [2, 3, 4, 5] rfl (by decide +kernel)) ggX7_stand_X7_signals
set_option maxRecDepth 20000 in
theorem ggX7_wrongOnes_X7_stand : GoodIn wsX7_wrongOnes wsX7_stand := goodIn_r _ [6, 1, 7, 8, 9, 5, 10, 11, 12, 13, 18, 19, 20, 21, 22, 23, 24, 25, 26, 27, 28, 29, 30, 31, 32, 33] rfl (by decide +kernel)
set_option maxRecDepth 20000 in
theorem gX7_wrongOnes_X7_stand : GoodIn wsX7_wrongOnes (wsV RX7 138 RX7 yX7_stand wsX7_stand) := goodIn_app (goodIn_r _ [2, 3, 4, 5] rfl (by decide +kernel)) ggX7_wrongOnes_X7_stand
set_option maxRecDepth 20000 in
theorem ggX7_wrongOnes_X7_task : GoodIn wsX7_wrongOnes wsX7_task := goodIn_r _ [17, 1, 18, 19, 20, 21, 22, 23, 24, 25, 26, 27, 28, 29, 30, 31, 32, 33] rfl (by decide +kernel)
set_option maxRecDepth 20000 in
theorem gX7_wrongOnes_X7_task : GoodIn wsX7_wrongOnes (wsV RX7 141 RX7 yX7_task wsX7_task) := goodIn_app (goodIn_r _ [14, 15, 16, 5] rfl (by decide +kernel)) ggX7_wrongOnes_X7_task
set_option maxRecDepth 20000 in
theorem ggX7_runs_X7_isInput : GoodIn wsX7_runs wsX7_isInput := goodIn_r _ [5, 6, 7, 8, 9, 4, 10, 11, 12, 13, 38, 39, 40, 41, 42, 43, 44, 45, 46, 47, 48, 49, 50, 51, 52, 53] rfl (by decide +kernel)
set_option maxRecDepth 20000 in
theorem gX7_runs_X7_isInput : GoodIn wsX7_runs (wsV RX7 144 RX7 yX7_isInput wsX7_isInput) := goodIn_app (goodIn_r _ [1, 2, 3, 4] rfl (by decide +kernel)) ggX7_runs_X7_isInput
set_option maxRecDepth 20000 in
theorem ggX7_runs_X7_in : GoodIn wsX7_runs wsX7_in := goodIn_r _ [13] rfl (by decide +kernel)
set_option maxRecDepth 20000 in
theorem gX7_runs_X7_in : GoodIn wsX7_runs (va_wsS RX7 39 yX7_in wsX7_in) := goodIn_app (goodIn_of _ (by decide +kernel)) ggX7_runs_X7_in
set_option maxRecDepth 20000 in
theorem ggX7_runs_X7_isThere : GoodIn wsX7_runs wsX7_isThere := goodIn_r _ [10, 6, 38, 39, 40, 41, 42, 43, 44, 45, 46, 47, 48, 49, 50, 51, 52, 53] rfl (by decide +kernel)
set_option maxRecDepth 20000 in
theorem gX7_runs_X7_isThere : GoodIn wsX7_runs (wsV RX7 94 RX7 yX7_isThere wsX7_isThere) := goodIn_app (goodIn_r _ [7, 8, 9, 4] rfl (by decide +kernel)) ggX7_runs_X7_isThere
set_option maxRecDepth 20000 in
theorem ggX7_runs_X7_none : GoodIn wsX7_runs wsX7_none := goodIn_r _ [17, 18, 19, 20, 4, 21, 22, 38, 39, 40, 41, 42, 43, 44, 45, 46, 47, 48, 49, 50, 51, 52, 53] rfl (by decide +kernel)
set_option maxRecDepth 20000 in
theorem gX7_runs_X7_none : GoodIn wsX7_runs (wsV RX7 100 RX7 yX7_none wsX7_none) := goodIn_app (goodIn_r _ [14, 15, 16, 4] rfl (by decide +kernel)) ggX7_runs_X7_none
set_option maxRecDepth 20000 in
theorem ggX7_runs_X7_stand : GoodIn wsX7_runs wsX7_stand := goodIn_r _ [26, 6, 27, 28, 29, 4, 30, 31, 32, 33, 38, 39, 40, 41, 42, 43, 44, 45, 46, 47, 48, 49, 50, 51, 52, 53] rfl (by decide +kernel)
set_option maxRecDepth 20000 in
theorem gX7_runs_X7_stand : GoodIn wsX7_runs (wsV RX7 138 RX7 yX7_stand wsX7_stand) := goodIn_app (goodIn_r _ [23, 24, 25, 4] rfl (by decide +kernel)) ggX7_runs_X7_stand
set_option maxRecDepth 20000 in
theorem ggX7_runs_X7_task : GoodIn wsX7_runs wsX7_task := goodIn_r _ [37, 6, 38, 39, 40, 41, 42, 43, 44, 45, 46, 47, 48, 49, 50, 51, 52, 53] rfl (by decide +kernel)
set_option maxRecDepth 20000 in
theorem gX7_runs_X7_task : GoodIn wsX7_runs (wsV RX7 141 RX7 yX7_task wsX7_task) := goodIn_app (goodIn_r _ [34, 35, 36, 4] rfl (by decide +kernel)) ggX7_runs_X7_task
set_option maxRecDepth 20000 in
theorem ggX7_signal_X7_isThere : GoodIn wsX7_signal wsX7_isThere := goodIn_r _ [6, 1, 30, 31, 32, 33, 34, 35, 36, 37, 38, 39, 40, 41, 42, 43, 44, 45] rfl (by decide +kernel)
set_option maxRecDepth 20000 in
theorem gX7_signal_X7_isThere : GoodIn wsX7_signal (wsV RX7 94 RX7 yX7_isThere wsX7_isThere) := goodIn_app (goodIn_r _ [2, 3, 4, 5] rfl (by decide +kernel)) ggX7_signal_X7_isThere
set_option maxRecDepth 20000 in
theorem ggX7_signal_X7_in : GoodIn wsX7_signal wsX7_in := goodIn_r _ [9] rfl (by decide +kernel)
set_option maxRecDepth 20000 in
theorem gX7_signal_X7_in : GoodIn wsX7_signal (va_wsS RX7 39 yX7_in wsX7_in) := goodIn_app (goodIn_of _ (by decide +kernel)) ggX7_signal_X7_in
set_option maxRecDepth 20000 in
theorem ggX7_signal_X7_isInput : GoodIn wsX7_signal wsX7_isInput := goodIn_r _ [13, 1, 2, 3, 4, 5, 6, 7, 8, 9, 30, 31, 32, 33, 34, 35, 36, 37, 38, 39, 40, 41, 42, 43, 44, 45] rfl (by decide +kernel)
set_option maxRecDepth 20000 in
theorem gX7_signal_X7_isInput : GoodIn wsX7_signal (wsV RX7 144 RX7 yX7_isInput wsX7_isInput) := goodIn_app (goodIn_r _ [10, 11, 12, 5] rfl (by decide +kernel)) ggX7_signal_X7_isInput
set_option maxRecDepth 20000 in
theorem ggX7_signal_X7_none : GoodIn wsX7_signal wsX7_none := goodIn_r _ [17, 18, 19, 20, 5, 21, 22, 30, 31, 32, 33, 34, 35, 36, 37, 38, 39, 40, 41, 42, 43, 44, 45] rfl (by decide +kernel)
set_option maxRecDepth 20000 in
theorem gX7_signal_X7_none : GoodIn wsX7_signal (wsV RX7 100 RX7 yX7_none wsX7_none) := goodIn_app (goodIn_r _ [14, 15, 16, 5] rfl (by decide +kernel)) ggX7_signal_X7_none
set_option maxRecDepth 20000 in
theorem ggX7_signal_X7_signals : GoodIn wsX7_signal wsX7_signals := goodIn_r _ [26, 1, 27, 28, 5, 29, 30, 31, 32, 33, 34, 35, 36, 37, 38, 39, 40, 41, 42, 43, 44, 45] rfl (by decide +kernel)
set_option maxRecDepth 20000 in
theorem gX7_signal_X7_signals : GoodIn wsX7_signal (wsV RX7 135 RX7 yX7_signals wsX7_signals) := goodIn_app (goodIn_r _ [23, 24, 25, 5] rfl (by decide +kernel)) ggX7_signal_X7_signals
set_option maxRecDepth 20000 in
theorem ggX7_wrong_X7_in : GoodIn wsX7_wrong wsX7_in := goodIn_r _ [4] rfl (by decide +kernel)
set_option maxRecDepth 20000 in
theorem gX7_wrong_X7_in : GoodIn wsX7_wrong (va_wsS RX7 39 yX7_in wsX7_in) := goodIn_app (goodIn_of _ (by decide +kernel)) ggX7_wrong_X7_in
set_option maxRecDepth 20000 in
theorem ggX7_wrong_X7_isThere : GoodIn wsX7_wrong wsX7_isThere := goodIn_r _ [8, 9, 38, 39, 40, 41, 42, 43, 44, 45, 46, 47, 48, 49, 50, 51, 52, 53] rfl (by decide +kernel)
set_option maxRecDepth 20000 in
theorem gX7_wrong_X7_isThere : GoodIn wsX7_wrong (wsV RX7 94 RX7 yX7_isThere wsX7_isThere) := goodIn_app (goodIn_r _ [5, 6, 7, 3] rfl (by decide +kernel)) ggX7_wrong_X7_isThere
set_option maxRecDepth 20000 in
theorem ggX7_wrong_X7_none : GoodIn wsX7_wrong wsX7_none := goodIn_r _ [13, 14, 15, 16, 3, 17, 18, 38, 39, 40, 41, 42, 43, 44, 45, 46, 47, 48, 49, 50, 51, 52, 53] rfl (by decide +kernel)
set_option maxRecDepth 20000 in
theorem gX7_wrong_X7_none : GoodIn wsX7_wrong (wsV RX7 100 RX7 yX7_none wsX7_none) := goodIn_app (goodIn_r _ [10, 11, 12, 3] rfl (by decide +kernel)) ggX7_wrong_X7_none
set_option maxRecDepth 20000 in
theorem ggX7_wrong_X7_wrongOnes : GoodIn wsX7_wrong wsX7_wrongOnes := goodIn_r _ [22, 9, 23, 24, 25, 3, 26, 27, 28, 29, 30, 31, 32, 33, 34, 35, 36, 37, 38, 39, 40, 41, 42, 43, 44, 45, 46, 47, 48, 49, 50, 51, 52, 53] rfl (by decide +kernel)
set_option maxRecDepth 20000 in
theorem gX7_wrong_X7_wrongOnes : GoodIn wsX7_wrong (wsV RX7 147 RX7 yX7_wrongOnes wsX7_wrongOnes) := goodIn_app (goodIn_r _ [19, 20, 21, 3] rfl (by decide +kernel)) ggX7_wrong_X7_wrongOnes
set_option maxRecDepth 20000 in
theorem ggX7_cures_X7_isGate : GoodIn wsX7_cures wsX7_isGate := goodIn_r _ [6, 1, 7, 8, 9, 5, 10, 11, 12, 13, 42, 43, 44, 45, 46, 47, 48, 49, 50, 51, 52, 53, 54, 55, 56, 57] rfl (by decide +kernel)
set_option maxRecDepth 20000 in
theorem gX7_cures_X7_isGate : GoodIn wsX7_cures (wsV RX7 97 RX7 yX7_isGate wsX7_isGate) := goodIn_app (goodIn_r _ [2, 3, 4, 5] rfl (by decide +kernel)) ggX7_cures_X7_isGate
set_option maxRecDepth 20000 in
theorem ggX7_cures_X7_isThere : GoodIn wsX7_cures wsX7_isThere := goodIn_r _ [10, 1, 42, 43, 44, 45, 46, 47, 48, 49, 50, 51, 52, 53, 54, 55, 56, 57] rfl (by decide +kernel)
set_option maxRecDepth 20000 in
theorem gX7_cures_X7_isThere : GoodIn wsX7_cures (wsV RX7 94 RX7 yX7_isThere wsX7_isThere) := goodIn_app (goodIn_r _ [7, 8, 9, 5] rfl (by decide +kernel)) ggX7_cures_X7_isThere
set_option maxRecDepth 20000 in
theorem ggX7_cures_X7_none : GoodIn wsX7_cures wsX7_none := goodIn_r _ [17, 18, 19, 20, 5, 21, 22, 42, 43, 44, 45, 46, 47, 48, 49, 50, 51, 52, 53, 54, 55, 56, 57] rfl (by decide +kernel)
set_option maxRecDepth 20000 in
theorem gX7_cures_X7_none : GoodIn wsX7_cures (wsV RX7 100 RX7 yX7_none wsX7_none) := goodIn_app (goodIn_r _ [14, 15, 16, 5] rfl (by decide +kernel)) ggX7_cures_X7_none
set_option maxRecDepth 20000 in
theorem ggX7_cures_X7_wrongOnes : GoodIn wsX7_cures wsX7_wrongOnes := goodIn_r _ [26, 1, 27, 28, 29, 5, 30, 31, 32, 33, 34, 35, 36, 37, 38, 39, 40, 41, 42, 43, 44, 45, 46, 47, 48, 49, 50, 51, 52, 53, 54, 55, 56, 57] rfl (by decide +kernel)
set_option maxRecDepth 20000 in
theorem gX7_cures_X7_wrongOnes : GoodIn wsX7_cures (wsV RX7 147 RX7 yX7_wrongOnes wsX7_wrongOnes) := goodIn_app (goodIn_r _ [23, 24, 25, 5] rfl (by decide +kernel)) ggX7_cures_X7_wrongOnes
set_option maxRecDepth 20000 in
theorem ggX7_begin_X7_adds : GoodIn wsX7_begin wsX7_adds := goodIn_r _ [8, 1, 9, 10, 18, 19, 20, 21, 22, 23, 24, 25, 26, 27, 28, 29, 30, 31, 32, 33] rfl (by decide +kernel)
set_option maxRecDepth 20000 in
theorem gX7_begin_X7_adds : GoodIn wsX7_begin (wsV RX7 156 RX7 yX7_adds wsX7_adds) := goodIn_app (goodIn_r _ [4, 5, 6, 7] rfl (by decide +kernel)) ggX7_begin_X7_adds
set_option maxRecDepth 20000 in
theorem ggX7_begin_X7_becomes : GoodIn wsX7_begin wsX7_becomes := goodIn_r _ [14, 15, 1, 10, 16, 9, 17, 18, 19, 20, 21, 22, 23, 24, 25, 26, 27, 28, 29, 30, 31, 32, 33] rfl (by decide +kernel)
set_option maxRecDepth 20000 in
theorem gX7_begin_X7_becomes : GoodIn wsX7_begin (wsV RX7 162 RX7 yX7_becomes wsX7_becomes) := goodIn_app (goodIn_r _ [11, 12, 13, 7] rfl (by decide +kernel)) ggX7_begin_X7_becomes
set_option maxRecDepth 20000 in
theorem ggX7_puts_X7_adds : GoodIn wsX7_puts wsX7_adds := goodIn_r _ [7, 8, 9, 10, 11, 12, 13, 14, 15, 16, 17, 18, 19, 20, 21, 22, 23, 24, 25, 26] rfl (by decide +kernel)
set_option maxRecDepth 20000 in
theorem gX7_puts_X7_adds : GoodIn wsX7_puts (wsV RX7 156 RX7 yX7_adds wsX7_adds) := goodIn_app (goodIn_r _ [3, 4, 5, 6] rfl (by decide +kernel)) ggX7_puts_X7_adds
set_option maxRecDepth 20000 in
theorem ggX7_step_X7_adds : GoodIn wsX7_step wsX7_adds := goodIn_r _ [9, 10, 11, 12, 22, 23, 24, 25, 26, 27, 28, 29, 30, 31, 32, 33, 34, 35, 36, 37] rfl (by decide +kernel)
set_option maxRecDepth 20000 in
theorem gX7_step_X7_adds : GoodIn wsX7_step (wsV RX7 156 RX7 yX7_adds wsX7_adds) := goodIn_app (goodIn_r _ [5, 6, 7, 8] rfl (by decide +kernel)) ggX7_step_X7_adds
set_option maxRecDepth 20000 in
theorem ggX7_step_X7_puts : GoodIn wsX7_step wsX7_puts := goodIn_r _ [16, 1, 17, 5, 6, 7, 8, 9, 10, 11, 12, 22, 23, 24, 25, 26, 27, 28, 29, 30, 31, 32, 33, 34, 35, 36, 37] rfl (by decide +kernel)
set_option maxRecDepth 20000 in
theorem gX7_step_X7_puts : GoodIn wsX7_step (wsV RX7 167 RX7 yX7_puts wsX7_puts) := goodIn_app (goodIn_r _ [13, 14, 15, 8] rfl (by decide +kernel)) ggX7_step_X7_puts
set_option maxRecDepth 20000 in
theorem ggX7_step_X7_becomes : GoodIn wsX7_step wsX7_becomes := goodIn_r _ [21, 2, 10, 12, 3, 11, 4, 22, 23, 24, 25, 26, 27, 28, 29, 30, 31, 32, 33, 34, 35, 36, 37] rfl (by decide +kernel)
set_option maxRecDepth 20000 in
theorem gX7_step_X7_becomes : GoodIn wsX7_step (wsV RX7 162 RX7 yX7_becomes wsX7_becomes) := goodIn_app (goodIn_r _ [18, 19, 20, 8] rfl (by decide +kernel)) ggX7_step_X7_becomes
set_option maxRecDepth 20000 in
theorem ggX7_comes_X7_begin : GoodIn wsX7_comes wsX7_begin := goodIn_r _ [8, 9, 3, 10, 11, 12, 13, 7, 14, 15, 16, 17, 18, 19, 20, 1, 21, 22, 32, 33, 34, 35, 36, 37, 38, 39, 40, 41, 42, 43, 44, 45, 46, 47] rfl (by decide +kernel)
set_option maxRecDepth 20000 in
theorem gX7_comes_X7_begin : GoodIn wsX7_comes (wsV RX7 171 RX7 yX7_begin wsX7_begin) := goodIn_app (goodIn_r _ [4, 5, 6, 7] rfl (by decide +kernel)) ggX7_comes_X7_begin
set_option maxRecDepth 20000 in
theorem ggX7_comes_X7_step : GoodIn wsX7_comes wsX7_step := goodIn_r _ [26, 3, 1, 21, 22, 11, 12, 13, 7, 14, 9, 15, 16, 27, 28, 29, 30, 31, 17, 18, 19, 20, 32, 33, 34, 35, 36, 37, 38, 39, 40, 41, 42, 43, 44, 45, 46, 47] rfl (by decide +kernel)
set_option maxRecDepth 20000 in
theorem gX7_comes_X7_step : GoodIn wsX7_comes (wsV RX7 177 RX7 yX7_step wsX7_step) := goodIn_app (goodIn_r _ [23, 24, 25, 7] rfl (by decide +kernel)) ggX7_comes_X7_step
set_option maxRecDepth 20000 in
theorem ggX7_right_X7_isThere : GoodIn wsX7_right wsX7_isThere := goodIn_r _ [7, 1, 45, 46, 47, 48, 49, 50, 51, 52, 53, 54, 55, 56, 57, 58, 59, 60] rfl (by decide +kernel)
set_option maxRecDepth 20000 in
theorem gX7_right_X7_isThere : GoodIn wsX7_right (wsV RX7 94 RX7 yX7_isThere wsX7_isThere) := goodIn_app (goodIn_r _ [3, 4, 5, 6] rfl (by decide +kernel)) ggX7_right_X7_isThere
set_option maxRecDepth 20000 in
theorem ggX7_right_X7_refuses : GoodIn wsX7_right wsX7_refuses := goodIn_r _ [11, 12, 45, 46, 47, 48, 49, 50, 51, 52, 53, 54, 55, 56, 57, 58, 59, 60] rfl (by decide +kernel)
set_option maxRecDepth 20000 in
theorem gX7_right_X7_refuses : GoodIn wsX7_right (wsV RX7 43 RX7 yX7_refuses wsX7_refuses) := goodIn_app (goodIn_r _ [8, 9, 10, 6] rfl (by decide +kernel)) ggX7_right_X7_refuses
set_option maxRecDepth 20000 in
theorem ggX7_right_X7_comes : GoodIn wsX7_right wsX7_comes := goodIn_r _ [16, 2, 17, 1, 18, 19, 20, 6, 21, 22, 23, 24, 25, 26, 27, 28, 29, 30, 31, 32, 33, 34, 35, 36, 37, 38, 39, 40, 41, 42, 43, 44, 45, 46, 47, 48, 49, 50, 51, 52, 53, 54, 55, 56, 57, 58, 59, 60] rfl (by decide +kernel)
set_option maxRecDepth 20000 in
theorem gX7_right_X7_comes : GoodIn wsX7_right (wsV RX7 180 RX7 yX7_comes wsX7_comes) := goodIn_app (goodIn_r _ [13, 14, 15, 6] rfl (by decide +kernel)) ggX7_right_X7_comes
set_option maxRecDepth 20000 in
theorem ggX7_terms_X7_isStage : GoodIn wsX7_terms wsX7_isStage := goodIn_r _ [6, 7, 8, 9, 10, 5, 11, 12, 13, 14, 56, 57, 58, 59, 60, 61, 62, 63, 64, 65, 66, 67, 68, 69, 70, 71] rfl (by decide +kernel)
set_option maxRecDepth 20000 in
theorem gX7_terms_X7_isStage : GoodIn wsX7_terms (wsV RX7 183 RX7 yX7_isStage wsX7_isStage) := goodIn_app (goodIn_r _ [2, 3, 4, 5] rfl (by decide +kernel)) ggX7_terms_X7_isStage
set_option maxRecDepth 20000 in
theorem ggX7_terms_X7_isThere : GoodIn wsX7_terms wsX7_isThere := goodIn_r _ [11, 7, 56, 57, 58, 59, 60, 61, 62, 63, 64, 65, 66, 67, 68, 69, 70, 71] rfl (by decide +kernel)
set_option maxRecDepth 20000 in
theorem gX7_terms_X7_isThere : GoodIn wsX7_terms (wsV RX7 94 RX7 yX7_isThere wsX7_isThere) := goodIn_app (goodIn_r _ [8, 9, 10, 5] rfl (by decide +kernel)) ggX7_terms_X7_isThere
set_option maxRecDepth 20000 in
theorem ggX7_terms_X7_none : GoodIn wsX7_terms wsX7_none := goodIn_r _ [18, 19, 20, 21, 5, 22, 23, 56, 57, 58, 59, 60, 61, 62, 63, 64, 65, 66, 67, 68, 69, 70, 71] rfl (by decide +kernel)
set_option maxRecDepth 20000 in
theorem gX7_terms_X7_none : GoodIn wsX7_terms (wsV RX7 100 RX7 yX7_none wsX7_none) := goodIn_app (goodIn_r _ [15, 16, 17, 5] rfl (by decide +kernel)) ggX7_terms_X7_none
set_option maxRecDepth 20000 in
theorem ggX7_terms_X7_comes : GoodIn wsX7_terms wsX7_comes := goodIn_r _ [27, 1, 28, 7, 29, 30, 31, 5, 32, 33, 34, 35, 36, 37, 38, 39, 40, 41, 42, 43, 44, 45, 46, 47, 48, 49, 50, 51, 52, 53, 54, 55, 56, 57, 58, 59, 60, 61, 62, 63, 64, 65, 66, 67, 68, 69, 70, 71] rfl (by decide +kernel)
set_option maxRecDepth 20000 in
theorem gX7_terms_X7_comes : GoodIn wsX7_terms (wsV RX7 180 RX7 yX7_comes wsX7_comes) := goodIn_app (goodIn_r _ [24, 25, 26, 5] rfl (by decide +kernel)) ggX7_terms_X7_comes
set_option maxRecDepth 20000 in
theorem ggX7_terms_X7_refuses : GoodIn wsX7_terms wsX7_refuses := goodIn_r _ [22, 23, 56, 57, 58, 59, 60, 61, 62, 63, 64, 65, 66, 67, 68, 69, 70, 71] rfl (by decide +kernel)
set_option maxRecDepth 20000 in
theorem gX7_terms_X7_refuses : GoodIn wsX7_terms (wsV RX7 43 RX7 yX7_refuses wsX7_refuses) := goodIn_app (goodIn_r _ [19, 20, 21, 5] rfl (by decide +kernel)) ggX7_terms_X7_refuses
set_option maxRecDepth 20000 in
theorem ggX7_term_X7_isStage : GoodIn wsX7_term wsX7_isStage := goodIn_r _ [8, 9, 10, 11, 12, 7, 13, 14, 15, 16, 56, 57, 58, 59, 60, 61, 62, 63, 64, 65, 66, 67, 68, 69, 70, 71] rfl (by decide +kernel)
set_option maxRecDepth 20000 in
theorem gX7_term_X7_isStage : GoodIn wsX7_term (wsV RX7 183 RX7 yX7_isStage wsX7_isStage) := goodIn_app (goodIn_r _ [4, 5, 6, 7] rfl (by decide +kernel)) ggX7_term_X7_isStage
set_option maxRecDepth 20000 in
theorem ggX7_term_X7_in : GoodIn wsX7_term wsX7_in := goodIn_r _ [16] rfl (by decide +kernel)
set_option maxRecDepth 20000 in
theorem gX7_term_X7_in : GoodIn wsX7_term (va_wsS RX7 39 yX7_in wsX7_in) := goodIn_app (goodIn_of _ (by decide +kernel)) ggX7_term_X7_in
set_option maxRecDepth 20000 in
theorem ggX7_term_X7_isThere : GoodIn wsX7_term wsX7_isThere := goodIn_r _ [13, 9, 56, 57, 58, 59, 60, 61, 62, 63, 64, 65, 66, 67, 68, 69, 70, 71] rfl (by decide +kernel)
set_option maxRecDepth 20000 in
theorem gX7_term_X7_isThere : GoodIn wsX7_term (wsV RX7 94 RX7 yX7_isThere wsX7_isThere) := goodIn_app (goodIn_r _ [10, 11, 12, 7] rfl (by decide +kernel)) ggX7_term_X7_isThere
set_option maxRecDepth 20000 in
theorem ggX7_term_X7_none : GoodIn wsX7_term wsX7_none := goodIn_r _ [20, 21, 22, 23, 7, 24, 25, 56, 57, 58, 59, 60, 61, 62, 63, 64, 65, 66, 67, 68, 69, 70, 71] rfl (by decide +kernel)
set_option maxRecDepth 20000 in
theorem gX7_term_X7_none : GoodIn wsX7_term (wsV RX7 100 RX7 yX7_none wsX7_none) := goodIn_app (goodIn_r _ [17, 18, 19, 7] rfl (by decide +kernel)) ggX7_term_X7_none
set_option maxRecDepth 20000 in
theorem ggX7_term_X7_comes : GoodIn wsX7_term wsX7_comes := goodIn_r _ [29, 1, 30, 9, 31, 32, 33, 7, 34, 35, 36, 37, 38, 39, 40, 41, 42, 43, 44, 45, 46, 3, 2, 47, 48, 49, 50, 51, 52, 53, 54, 55, 56, 57, 58, 59, 60, 61, 62, 63, 64, 65, 66, 67, 68, 69, 70, 71] rfl (by decide +kernel)
set_option maxRecDepth 20000 in
theorem gX7_term_X7_comes : GoodIn wsX7_term (wsV RX7 180 RX7 yX7_comes wsX7_comes) := goodIn_app (goodIn_r _ [26, 27, 28, 7] rfl (by decide +kernel)) ggX7_term_X7_comes
set_option maxRecDepth 20000 in
theorem ggX7_term_X7_refuses : GoodIn wsX7_term wsX7_refuses := goodIn_r _ [24, 25, 56, 57, 58, 59, 60, 61, 62, 63, 64, 65, 66, 67, 68, 69, 70, 71] rfl (by decide +kernel)
set_option maxRecDepth 20000 in
theorem gX7_term_X7_refuses : GoodIn wsX7_term (wsV RX7 43 RX7 yX7_refuses wsX7_refuses) := goodIn_app (goodIn_r _ [21, 22, 23, 7] rfl (by decide +kernel)) ggX7_term_X7_refuses
set_option maxRecDepth 20000 in
theorem ggX7_most_X7_in : GoodIn wsX7_most wsX7_in := goodIn_r _ [9] rfl (by decide +kernel)
set_option maxRecDepth 20000 in
theorem gX7_most_X7_in : GoodIn wsX7_most (va_wsS RX7 39 yX7_in wsX7_in) := goodIn_app (goodIn_of _ (by decide +kernel)) ggX7_most_X7_in
set_option maxRecDepth 20000 in
theorem ggX7_most_X7_isThere : GoodIn wsX7_most wsX7_isThere := goodIn_r _ [13, 1, 55, 56, 57, 58, 59, 60, 61, 62, 63, 64, 65, 66, 67, 68, 69, 70] rfl (by decide +kernel)
set_option maxRecDepth 20000 in
theorem gX7_most_X7_isThere : GoodIn wsX7_most (wsV RX7 94 RX7 yX7_isThere wsX7_isThere) := goodIn_app (goodIn_r _ [10, 11, 12, 8] rfl (by decide +kernel)) ggX7_most_X7_isThere
set_option maxRecDepth 20000 in
theorem ggX7_most_X7_none : GoodIn wsX7_most wsX7_none := goodIn_r _ [17, 18, 19, 20, 8, 21, 22, 55, 56, 57, 58, 59, 60, 61, 62, 63, 64, 65, 66, 67, 68, 69, 70] rfl (by decide +kernel)
set_option maxRecDepth 20000 in
theorem gX7_most_X7_none : GoodIn wsX7_most (wsV RX7 100 RX7 yX7_none wsX7_none) := goodIn_app (goodIn_r _ [14, 15, 16, 8] rfl (by decide +kernel)) ggX7_most_X7_none
set_option maxRecDepth 20000 in
theorem ggX7_most_X7_comes : GoodIn wsX7_most wsX7_comes := goodIn_r _ [26, 2, 5, 1, 27, 28, 29, 8, 30, 31, 32, 33, 34, 35, 36, 37, 38, 39, 40, 41, 42, 3, 4, 43, 44, 45, 46, 47, 48, 49, 50, 51, 55, 56, 57, 58, 59, 60, 61, 62, 63, 64, 65, 66, 67, 68, 69, 70] rfl (by decide +kernel)
set_option maxRecDepth 20000 in
theorem gX7_most_X7_comes : GoodIn wsX7_most (wsV RX7 180 RX7 yX7_comes wsX7_comes) := goodIn_app (goodIn_r _ [23, 24, 25, 8] rfl (by decide +kernel)) ggX7_most_X7_comes
set_option maxRecDepth 20000 in
theorem ggX7_most_X7_refuses : GoodIn wsX7_most wsX7_refuses := goodIn_r _ [21, 22, 55, 56, 57, 58, 59, 60, 61, 62, 63, 64, 65, 66, 67, 68, 69, 70] rfl (by decide +kernel)
set_option maxRecDepth 20000 in
theorem gX7_most_X7_refuses : GoodIn wsX7_most (wsV RX7 43 RX7 yX7_refuses wsX7_refuses) := goodIn_app (goodIn_r _ [18, 19, 20, 8] rfl (by decide +kernel)) ggX7_most_X7_refuses
set_option maxRecDepth 20000 in
theorem ggX7_most_X7_ones : GoodIn wsX7_most wsX7_ones := goodIn_r _ [54] rfl (by decide +kernel)
set_option maxRecDepth 20000 in
theorem gX7_most_X7_ones : GoodIn wsX7_most (va_wsS RX7 186 yX7_ones wsX7_ones) := goodIn_app (goodIn_of _ (by decide +kernel)) ggX7_most_X7_ones
set_option maxRecDepth 20000 in
theorem ggX7_dearest_X7_isStage : GoodIn wsX7_dearest wsX7_isStage := goodIn_r _ [8, 9, 10, 11, 12, 7, 13, 14, 15, 16, 59, 60, 61, 62, 63, 64, 65, 66, 67, 68, 69, 70, 71, 72, 73, 74] rfl (by decide +kernel)
set_option maxRecDepth 20000 in
theorem gX7_dearest_X7_isStage : GoodIn wsX7_dearest (wsV RX7 183 RX7 yX7_isStage wsX7_isStage) := goodIn_app (goodIn_r _ [4, 5, 6, 7] rfl (by decide +kernel)) ggX7_dearest_X7_isStage
set_option maxRecDepth 20000 in
theorem ggX7_dearest_X7_isThere : GoodIn wsX7_dearest wsX7_isThere := goodIn_r _ [13, 9, 59, 60, 61, 62, 63, 64, 65, 66, 67, 68, 69, 70, 71, 72, 73, 74] rfl (by decide +kernel)
set_option maxRecDepth 20000 in
theorem gX7_dearest_X7_isThere : GoodIn wsX7_dearest (wsV RX7 94 RX7 yX7_isThere wsX7_isThere) := goodIn_app (goodIn_r _ [10, 11, 12, 7] rfl (by decide +kernel)) ggX7_dearest_X7_isThere
set_option maxRecDepth 20000 in
theorem ggX7_dearest_X7_none : GoodIn wsX7_dearest wsX7_none := goodIn_r _ [20, 21, 22, 23, 7, 24, 25, 59, 60, 61, 62, 63, 64, 65, 66, 67, 68, 69, 70, 71, 72, 73, 74] rfl (by decide +kernel)
set_option maxRecDepth 20000 in
theorem gX7_dearest_X7_none : GoodIn wsX7_dearest (wsV RX7 100 RX7 yX7_none wsX7_none) := goodIn_app (goodIn_r _ [17, 18, 19, 7] rfl (by decide +kernel)) ggX7_dearest_X7_none
set_option maxRecDepth 20000 in
theorem ggX7_dearest_X7_comes : GoodIn wsX7_dearest wsX7_comes := goodIn_r _ [29, 1, 30, 9, 31, 32, 33, 7, 34, 35, 36, 37, 38, 39, 40, 41, 42, 43, 44, 45, 46, 3, 2, 47, 48, 49, 50, 51, 52, 53, 54, 55, 59, 60, 61, 62, 63, 64, 65, 66, 67, 68, 69, 70, 71, 72, 73, 74] rfl (by decide +kernel)
set_option maxRecDepth 20000 in
theorem gX7_dearest_X7_comes : GoodIn wsX7_dearest (wsV RX7 180 RX7 yX7_comes wsX7_comes) := goodIn_app (goodIn_r _ [26, 27, 28, 7] rfl (by decide +kernel)) ggX7_dearest_X7_comes
set_option maxRecDepth 20000 in
theorem ggX7_dearest_X7_refuses : GoodIn wsX7_dearest wsX7_refuses := goodIn_r _ [24, 25, 59, 60, 61, 62, 63, 64, 65, 66, 67, 68, 69, 70, 71, 72, 73, 74] rfl (by decide +kernel)
set_option maxRecDepth 20000 in
theorem gX7_dearest_X7_refuses : GoodIn wsX7_dearest (wsV RX7 43 RX7 yX7_refuses wsX7_refuses) := goodIn_app (goodIn_r _ [21, 22, 23, 7] rfl (by decide +kernel)) ggX7_dearest_X7_refuses
set_option maxRecDepth 20000 in
theorem ggX7_dearest_X7_size : GoodIn wsX7_dearest wsX7_size := goodIn_r _ [58] rfl (by decide +kernel)
set_option maxRecDepth 20000 in
theorem gX7_dearest_X7_size : GoodIn wsX7_dearest (va_wsS RX7 189 yX7_size wsX7_size) := goodIn_app (goodIn_of _ (by decide +kernel)) ggX7_dearest_X7_size
set_option maxRecDepth 20000 in
theorem ggX7_value_X7_isStage : GoodIn wsX7_value wsX7_isStage := goodIn_r _ [8, 9, 10, 11, 12, 7, 13, 14, 15, 16, 67, 68, 69, 70, 71, 72, 73, 74, 75, 76, 77, 78, 79, 80, 81, 82] rfl (by decide +kernel)
set_option maxRecDepth 20000 in
theorem gX7_value_X7_isStage : GoodIn wsX7_value (wsV RX7 183 RX7 yX7_isStage wsX7_isStage) := goodIn_app (goodIn_r _ [4, 5, 6, 7] rfl (by decide +kernel)) ggX7_value_X7_isStage
set_option maxRecDepth 20000 in
theorem ggX7_value_X7_isInput : GoodIn wsX7_value wsX7_isInput := goodIn_r _ [20, 9, 10, 11, 12, 7, 13, 14, 15, 16, 67, 68, 69, 70, 71, 72, 73, 74, 75, 76, 77, 78, 79, 80, 81, 82] rfl (by decide +kernel)
set_option maxRecDepth 20000 in
theorem gX7_value_X7_isInput : GoodIn wsX7_value (wsV RX7 144 RX7 yX7_isInput wsX7_isInput) := goodIn_app (goodIn_r _ [17, 18, 19, 7] rfl (by decide +kernel)) ggX7_value_X7_isInput
set_option maxRecDepth 20000 in
theorem ggX7_value_X7_isThere : GoodIn wsX7_value wsX7_isThere := goodIn_r _ [13, 9, 67, 68, 69, 70, 71, 72, 73, 74, 75, 76, 77, 78, 79, 80, 81, 82] rfl (by decide +kernel)
set_option maxRecDepth 20000 in
theorem gX7_value_X7_isThere : GoodIn wsX7_value (wsV RX7 94 RX7 yX7_isThere wsX7_isThere) := goodIn_app (goodIn_r _ [10, 11, 12, 7] rfl (by decide +kernel)) ggX7_value_X7_isThere
set_option maxRecDepth 20000 in
theorem ggX7_value_X7_none : GoodIn wsX7_value wsX7_none := goodIn_r _ [24, 25, 26, 27, 7, 28, 29, 67, 68, 69, 70, 71, 72, 73, 74, 75, 76, 77, 78, 79, 80, 81, 82] rfl (by decide +kernel)
set_option maxRecDepth 20000 in
theorem gX7_value_X7_none : GoodIn wsX7_value (wsV RX7 100 RX7 yX7_none wsX7_none) := goodIn_app (goodIn_r _ [21, 22, 23, 7] rfl (by decide +kernel)) ggX7_value_X7_none
set_option maxRecDepth 20000 in
theorem ggX7_value_X7_comes : GoodIn wsX7_value wsX7_comes := goodIn_r _ [33, 1, 34, 9, 35, 36, 37, 7, 38, 39, 40, 41, 42, 43, 44, 45, 46, 47, 48, 49, 50, 2, 3, 51, 52, 53, 54, 55, 56, 57, 58, 59, 67, 68, 69, 70, 71, 72, 73, 74, 75, 76, 77, 78, 79, 80, 81, 82] rfl (by decide +kernel)
set_option maxRecDepth 20000 in
theorem gX7_value_X7_comes : GoodIn wsX7_value (wsV RX7 180 RX7 yX7_comes wsX7_comes) := goodIn_app (goodIn_r _ [30, 31, 32, 7] rfl (by decide +kernel)) ggX7_value_X7_comes
set_option maxRecDepth 20000 in
theorem ggX7_value_X7_refuses : GoodIn wsX7_value wsX7_refuses := goodIn_r _ [28, 29, 67, 68, 69, 70, 71, 72, 73, 74, 75, 76, 77, 78, 79, 80, 81, 82] rfl (by decide +kernel)
set_option maxRecDepth 20000 in
theorem gX7_value_X7_refuses : GoodIn wsX7_value (wsV RX7 43 RX7 yX7_refuses wsX7_refuses) := goodIn_app (goodIn_r _ [25, 26, 27, 7] rfl (by decide +kernel)) ggX7_value_X7_refuses
set_option maxRecDepth 20000 in
theorem ggX7_value_X7_signals : GoodIn wsX7_value wsX7_signals := goodIn_r _ [63, 9, 64, 65, 7, 66, 67, 68, 69, 70, 71, 72, 73, 74, 75, 76, 77, 78, 79, 80, 81, 82] rfl (by decide +kernel)
set_option maxRecDepth 20000 in
theorem gX7_value_X7_signals : GoodIn wsX7_value (wsV RX7 135 RX7 yX7_signals wsX7_signals) := goodIn_app (goodIn_r _ [60, 61, 62, 7] rfl (by decide +kernel)) ggX7_value_X7_signals
set_option maxRecDepth 20000 in
theorem ggX7_stands_X7_isStage : GoodIn wsX7_stands wsX7_isStage := goodIn_r _ [7, 8, 9, 10, 11, 6, 12, 13, 14, 15, 56, 57, 58, 59, 60, 61, 62, 63, 64, 65, 66, 67, 68, 69, 70, 71] rfl (by decide +kernel)
set_option maxRecDepth 20000 in
theorem gX7_stands_X7_isStage : GoodIn wsX7_stands (wsV RX7 183 RX7 yX7_isStage wsX7_isStage) := goodIn_app (goodIn_r _ [3, 4, 5, 6] rfl (by decide +kernel)) ggX7_stands_X7_isStage
set_option maxRecDepth 20000 in
theorem ggX7_stands_X7_isThere : GoodIn wsX7_stands wsX7_isThere := goodIn_r _ [12, 8, 56, 57, 58, 59, 60, 61, 62, 63, 64, 65, 66, 67, 68, 69, 70, 71] rfl (by decide +kernel)
set_option maxRecDepth 20000 in
theorem gX7_stands_X7_isThere : GoodIn wsX7_stands (wsV RX7 94 RX7 yX7_isThere wsX7_isThere) := goodIn_app (goodIn_r _ [9, 10, 11, 6] rfl (by decide +kernel)) ggX7_stands_X7_isThere
set_option maxRecDepth 20000 in
theorem ggX7_stands_X7_none : GoodIn wsX7_stands wsX7_none := goodIn_r _ [19, 20, 21, 22, 6, 23, 24, 56, 57, 58, 59, 60, 61, 62, 63, 64, 65, 66, 67, 68, 69, 70, 71] rfl (by decide +kernel)
set_option maxRecDepth 20000 in
theorem gX7_stands_X7_none : GoodIn wsX7_stands (wsV RX7 100 RX7 yX7_none wsX7_none) := goodIn_app (goodIn_r _ [16, 17, 18, 6] rfl (by decide +kernel)) ggX7_stands_X7_none
set_option maxRecDepth 20000 in
theorem ggX7_stands_X7_comes : GoodIn wsX7_stands wsX7_comes := goodIn_r _ [28, 1, 29, 8, 30, 31, 32, 6, 33, 34, 35, 36, 37, 38, 39, 40, 41, 42, 43, 44, 45, 2, 46, 47, 48, 49, 50, 51, 52, 53, 54, 55, 56, 57, 58, 59, 60, 61, 62, 63, 64, 65, 66, 67, 68, 69, 70, 71] rfl (by decide +kernel)
set_option maxRecDepth 20000 in
theorem gX7_stands_X7_comes : GoodIn wsX7_stands (wsV RX7 180 RX7 yX7_comes wsX7_comes) := goodIn_app (goodIn_r _ [25, 26, 27, 6] rfl (by decide +kernel)) ggX7_stands_X7_comes
set_option maxRecDepth 20000 in
theorem ggX7_stands_X7_refuses : GoodIn wsX7_stands wsX7_refuses := goodIn_r _ [23, 24, 56, 57, 58, 59, 60, 61, 62, 63, 64, 65, 66, 67, 68, 69, 70, 71] rfl (by decide +kernel)
set_option maxRecDepth 20000 in
theorem gX7_stands_X7_refuses : GoodIn wsX7_stands (wsV RX7 43 RX7 yX7_refuses wsX7_refuses) := goodIn_app (goodIn_r _ [20, 21, 22, 6] rfl (by decide +kernel)) ggX7_stands_X7_refuses
set_option maxRecDepth 20000 in
theorem ggX7_witness_X7_isThere : GoodIn wsX7_witness wsX7_isThere := goodIn_r _ [9, 1, 49, 50, 51, 52, 53, 54, 55, 56, 57, 58, 59, 60, 61, 62, 63, 64] rfl (by decide +kernel)
set_option maxRecDepth 20000 in
theorem gX7_witness_X7_isThere : GoodIn wsX7_witness (wsV RX7 94 RX7 yX7_isThere wsX7_isThere) := goodIn_app (goodIn_r _ [5, 6, 7, 8] rfl (by decide +kernel)) ggX7_witness_X7_isThere
set_option maxRecDepth 20000 in
theorem ggX7_witness_X7_refuses : GoodIn wsX7_witness wsX7_refuses := goodIn_r _ [13, 14, 49, 50, 51, 52, 53, 54, 55, 56, 57, 58, 59, 60, 61, 62, 63, 64] rfl (by decide +kernel)
set_option maxRecDepth 20000 in
theorem gX7_witness_X7_refuses : GoodIn wsX7_witness (wsV RX7 43 RX7 yX7_refuses wsX7_refuses) := goodIn_app (goodIn_r _ [10, 11, 12, 8] rfl (by decide +kernel)) ggX7_witness_X7_refuses
set_option maxRecDepth 20000 in
theorem ggX7_witness_X7_comes : GoodIn wsX7_witness wsX7_comes := goodIn_r _ [18, 3, 19, 1, 20, 21, 22, 8, 23, 24, 25, 26, 27, 28, 29, 30, 31, 32, 33, 34, 35, 4, 36, 37, 38, 39, 40, 41, 42, 43, 44, 45, 49, 50, 51, 52, 53, 54, 55, 56, 57, 58, 59, 60, 61, 62, 63, 64] rfl (by decide +kernel)
set_option maxRecDepth 20000 in
theorem gX7_witness_X7_comes : GoodIn wsX7_witness (wsV RX7 180 RX7 yX7_comes wsX7_comes) := goodIn_app (goodIn_r _ [15, 16, 17, 8] rfl (by decide +kernel)) ggX7_witness_X7_comes
set_option maxRecDepth 20000 in
theorem ggX7_witness_X7_ones : GoodIn wsX7_witness wsX7_ones := goodIn_r _ [48] rfl (by decide +kernel)
set_option maxRecDepth 20000 in
theorem gX7_witness_X7_ones : GoodIn wsX7_witness (va_wsS RX7 186 yX7_ones wsX7_ones) := goodIn_app (goodIn_of _ (by decide +kernel)) ggX7_witness_X7_ones
set_option maxRecDepth 20000 in
theorem ggX7_count_X7_in : GoodIn wsX7_count wsX7_in := goodIn_r _ [4] rfl (by decide +kernel)
set_option maxRecDepth 20000 in
theorem gX7_count_X7_in : GoodIn wsX7_count (va_wsS RX7 39 yX7_in wsX7_in) := goodIn_app (goodIn_of _ (by decide +kernel)) ggX7_count_X7_in
set_option maxRecDepth 20000 in
theorem ggX7_count_X7_countOf : GoodIn wsX7_count wsX7_countOf := goodIn_r _ [8, 9, 10, 11, 16, 17, 18, 19, 20, 21, 22, 23, 24, 25, 26, 27, 28, 29, 30, 31] rfl (by decide +kernel)
set_option maxRecDepth 20000 in
theorem gX7_count_X7_countOf : GoodIn wsX7_count (wsV RX7 196 RX7 yX7_countOf wsX7_countOf) := goodIn_app (goodIn_r _ [5, 6, 7, 3] rfl (by decide +kernel)) ggX7_count_X7_countOf
set_option maxRecDepth 20000 in
theorem ggX7_count_X7_refuses : GoodIn wsX7_count wsX7_refuses := goodIn_r _ [15, 9, 16, 17, 18, 19, 20, 21, 22, 23, 24, 25, 26, 27, 28, 29, 30, 31] rfl (by decide +kernel)
set_option maxRecDepth 20000 in
theorem gX7_count_X7_refuses : GoodIn wsX7_count (wsV RX7 43 RX7 yX7_refuses wsX7_refuses) := goodIn_app (goodIn_r _ [12, 13, 14, 3] rfl (by decide +kernel)) ggX7_count_X7_refuses
set_option maxRecDepth 20000 in
theorem ggX7_digest_X7_countOf : GoodIn wsX7_digest wsX7_countOf := goodIn_r _ [8, 9, 10, 3, 34, 35, 36, 37, 38, 39, 40, 41, 42, 43, 44, 45, 46, 47, 48, 49] rfl (by decide +kernel)
set_option maxRecDepth 20000 in
theorem gX7_digest_X7_countOf : GoodIn wsX7_digest (wsV RX7 196 RX7 yX7_countOf wsX7_countOf) := goodIn_app (goodIn_r _ [4, 5, 6, 7] rfl (by decide +kernel)) ggX7_digest_X7_countOf
set_option maxRecDepth 20000 in
theorem ggX7_digest_X7_isThere : GoodIn wsX7_digest wsX7_isThere := goodIn_r _ [14, 3, 34, 35, 36, 37, 38, 39, 40, 41, 42, 43, 44, 45, 46, 47, 48, 49] rfl (by decide +kernel)
set_option maxRecDepth 20000 in
theorem gX7_digest_X7_isThere : GoodIn wsX7_digest (wsV RX7 94 RX7 yX7_isThere wsX7_isThere) := goodIn_app (goodIn_r _ [11, 12, 13, 7] rfl (by decide +kernel)) ggX7_digest_X7_isThere
set_option maxRecDepth 20000 in
theorem ggX7_digest_X7_wrongOnes : GoodIn wsX7_digest wsX7_wrongOnes := goodIn_r _ [18, 3, 19, 20, 21, 7, 22, 23, 24, 25, 26, 27, 28, 29, 30, 31, 32, 33, 34, 35, 36, 37, 38, 39, 40, 41, 42, 43, 44, 45, 46, 47, 48, 49] rfl (by decide +kernel)
set_option maxRecDepth 20000 in
theorem gX7_digest_X7_wrongOnes : GoodIn wsX7_digest (wsV RX7 147 RX7 yX7_wrongOnes wsX7_wrongOnes) := goodIn_app (goodIn_r _ [15, 16, 17, 7] rfl (by decide +kernel)) ggX7_digest_X7_wrongOnes
set_option maxRecDepth 20000 in
theorem ggJ0_length_8abf5_J0_coder_7d493 : GoodIn wsJ0_length_8abf5 wsJ0_coder_7d493 := goodIn_r _ [6, 7, 8] rfl (by decide +kernel)
set_option maxRecDepth 20000 in
theorem gJ0_length_8abf5_J0_coder_7d493 : GoodIn wsJ0_length_8abf5 (wsV RJ0 335 RJ0 yJ0_coder_7d493 wsJ0_coder_7d493) := goodIn_app (goodIn_r _ [2, 3, 4, 5] rfl (by decide +kernel)) ggJ0_length_8abf5_J0_coder_7d493
set_option maxRecDepth 20000 in
theorem ggJ0_charAt_5068e_J0_isLatin1_aae02 : GoodIn wsJ0_charAt_5068e wsJ0_isLatin1_aae02 := goodIn_r _ [6, 7, 8] rfl (by decide +kernel)
set_option maxRecDepth 20000 in
theorem gJ0_charAt_5068e_J0_isLatin1_aae02 : GoodIn wsJ0_charAt_5068e (wsV RJ0 492 RJ0 yJ0_isLatin1_aae02 wsJ0_isLatin1_aae02) := goodIn_app (goodIn_r _ [2, 3, 4, 5] rfl (by decide +kernel)) ggJ0_charAt_5068e_J0_isLatin1_aae02
set_option maxRecDepth 20000 in
theorem ggJ0_charAt_5068e_J1_charAt_3b067 : GoodIn wsJ0_charAt_5068e wsJ1_charAt_3b067 := goodIn_r _ [12, 13, 14, 5, 15, 16, 17, 18, 19, 20] rfl (by decide +kernel)
set_option maxRecDepth 20000 in
theorem gJ0_charAt_5068e_J1_charAt_3b067 : GoodIn wsJ0_charAt_5068e (va_wsS RJ0 495 yJ1_charAt_3b067 wsJ1_charAt_3b067) := goodIn_app (goodIn_of _ (by decide +kernel)) ggJ0_charAt_5068e_J1_charAt_3b067
set_option maxRecDepth 20000 in
theorem ggJ0_charAt_5068e_J2_charAt_3b067 : GoodIn wsJ0_charAt_5068e wsJ2_charAt_3b067 := goodIn_r _ [24, 25, 26, 23, 27, 28, 29, 30, 31, 14, 5, 15, 16, 17, 18, 19, 20, 32, 33, 34, 35, 36, 37] rfl (by decide +kernel)
set_option maxRecDepth 20000 in
theorem gJ0_charAt_5068e_J2_charAt_3b067 : GoodIn wsJ0_charAt_5068e (va_wsS RJ0 498 yJ2_charAt_3b067 wsJ2_charAt_3b067) := goodIn_app (goodIn_of _ (by decide +kernel)) ggJ0_charAt_5068e_J2_charAt_3b067
set_option maxRecDepth 20000 in
theorem ggJ0_checkIndex_df160_J3_checkIndex_8e157 : GoodIn wsJ0_checkIndex_df160 wsJ3_checkIndex_8e157 := goodIn_r _ [5] rfl (by decide +kernel)
set_option maxRecDepth 20000 in
theorem gJ0_checkIndex_df160_J3_checkIndex_8e157 : GoodIn wsJ0_checkIndex_df160 (va_wsS RJ0 1059 yJ3_checkIndex_8e157 wsJ3_checkIndex_8e157) := goodIn_app (goodIn_of _ (by decide +kernel)) ggJ0_checkIndex_df160_J3_checkIndex_8e157
set_option maxRecDepth 20000 in
theorem ggJ1_charAt_3b067_J0_checkIndex_df160 : GoodIn wsJ1_charAt_3b067 wsJ0_checkIndex_df160 := goodIn_r _ [4, 5, 6, 7, 8, 9] rfl (by decide +kernel)
set_option maxRecDepth 20000 in
theorem gJ1_charAt_3b067_J0_checkIndex_df160 : GoodIn wsJ1_charAt_3b067 (va_wsS RJ1 9 yJ0_checkIndex_df160 wsJ0_checkIndex_df160) := goodIn_app (goodIn_of _ (by decide +kernel)) ggJ1_charAt_3b067_J0_checkIndex_df160
set_option maxRecDepth 20000 in
theorem ggJ2_getChar_3b067_J2_length_9d52b : GoodIn wsJ2_getChar_3b067 wsJ2_length_9d52b := goodIn_r _ [7] rfl (by decide +kernel)
set_option maxRecDepth 20000 in
theorem gJ2_getChar_3b067_J2_length_9d52b : GoodIn wsJ2_getChar_3b067 (va_wsS RJ2 48 yJ2_length_9d52b wsJ2_length_9d52b) := goodIn_app (goodIn_of _ (by decide +kernel)) ggJ2_getChar_3b067_J2_length_9d52b
set_option maxRecDepth 20000 in
theorem ggJ2_charAt_3b067_J2_checkIndex_2214a : GoodIn wsJ2_charAt_3b067 wsJ2_checkIndex_2214a := goodIn_r _ [4, 5, 6, 3, 7, 8, 9, 10, 11, 12, 13, 14, 15, 16] rfl (by decide +kernel)
set_option maxRecDepth 20000 in
theorem gJ2_charAt_3b067_J2_checkIndex_2214a : GoodIn wsJ2_charAt_3b067 (va_wsS RJ2 67 yJ2_checkIndex_2214a wsJ2_checkIndex_2214a) := goodIn_app (goodIn_of _ (by decide +kernel)) ggJ2_charAt_3b067_J2_checkIndex_2214a
set_option maxRecDepth 20000 in
theorem ggJ2_charAt_3b067_J2_getChar_3b067 : GoodIn wsJ2_charAt_3b067 wsJ2_getChar_3b067 := goodIn_r _ [19, 20, 21, 22, 5, 6, 3, 7] rfl (by decide +kernel)
set_option maxRecDepth 20000 in
theorem gJ2_charAt_3b067_J2_getChar_3b067 : GoodIn wsJ2_charAt_3b067 (va_wsS RJ2 71 yJ2_getChar_3b067 wsJ2_getChar_3b067) := goodIn_app (goodIn_of _ (by decide +kernel)) ggJ2_charAt_3b067_J2_getChar_3b067
set_option maxRecDepth 20000 in
theorem ggJ2_checkIndex_2214a_J2_length_9d52b : GoodIn wsJ2_checkIndex_2214a wsJ2_length_9d52b := goodIn_r _ [4] rfl (by decide +kernel)
set_option maxRecDepth 20000 in
theorem gJ2_checkIndex_2214a_J2_length_9d52b : GoodIn wsJ2_checkIndex_2214a (va_wsS RJ2 48 yJ2_length_9d52b wsJ2_length_9d52b) := goodIn_app (goodIn_of _ (by decide +kernel)) ggJ2_checkIndex_2214a_J2_length_9d52b
set_option maxRecDepth 20000 in
theorem ggJ2_checkIndex_2214a_J0_checkIndex_df160 : GoodIn wsJ2_checkIndex_2214a wsJ0_checkIndex_df160 := goodIn_r _ [8, 9, 10, 11, 12, 13] rfl (by decide +kernel)
set_option maxRecDepth 20000 in
theorem gJ2_checkIndex_2214a_J0_checkIndex_df160 : GoodIn wsJ2_checkIndex_2214a (va_wsS RJ2 414 yJ0_checkIndex_df160 wsJ0_checkIndex_df160) := goodIn_app (goodIn_of _ (by decide +kernel)) ggJ2_checkIndex_2214a_J0_checkIndex_df160
