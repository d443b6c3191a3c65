set_option maxRecDepth 20000 in
theorem ggL_law_X6_init : GoodIn wsL_law wsX6_init := goodIn_r _ [8, 9, 10, 11, 12, 13, 14, 15, 16, 17, 18, 19, 20, 21, 22, 23, 24, 25, 26, 27, 28, 29, 30, 31, 32, 33, 34, 35, 36, 37, 38, 39, 40, 41, 42, 43, 44, 45, 46, 47, 48, 49, 50, 51, 52, 53, 54, 55, 56, 57, 58, 59, 60, 61, 62, 63, 64, 65, 66, 67, 68, 69, 895, 896, 897, 898, 870, 871, 872, 873, 874, 875, 876, 877, 878, 899, 900, 901, 902, 903, 904, 905, 906, 907, 908, 909, 910, 911, 912, 913, 914, 915, 916, 917, 918, 919, 920, 921] rfl (by decide +kernel)
set_option maxRecDepth 20000 in
theorem gL_law_X6_init : GoodIn wsL_law (wsX6_init) := ggL_law_X6_init
set_option maxRecDepth 20000 in
theorem ggL_law_X7_init : GoodIn wsL_law wsX7_init := goodIn_r _ [72, 73, 10, 11, 45, 74, 75, 76, 77, 78, 79, 80, 53, 81, 82, 83, 879, 880, 881, 882, 883, 884, 885, 886, 887, 888, 889, 890, 891, 892, 893, 894] rfl (by decide +kernel)
set_option maxRecDepth 20000 in
theorem gL_law_X7_init : GoodIn wsL_law (wsX7_init) := ggL_law_X7_init
set_option maxRecDepth 20000 in
theorem ggL_law_X6_type : GoodIn wsL_law wsX6_type := goodIn_r _ [87, 15, 88, 89, 90, 91, 92, 2, 93, 94, 95, 96, 97, 98, 99, 35, 100, 101, 41, 870, 871, 872, 873, 874, 875, 876, 877, 878, 895, 896, 897, 898, 917, 918] rfl (by decide +kernel)
set_option maxRecDepth 20000 in
theorem gL_law_X6_type : GoodIn wsL_law (wsV RL 13 RX6 yX6_type wsX6_type) := goodIn_app (goodIn_r _ [84, 85, 86, 2] rfl (by decide +kernel)) ggL_law_X6_type
set_option maxRecDepth 20000 in
theorem ggL_law_X7_type : GoodIn wsL_law wsX7_type := goodIn_r _ [105, 106, 77, 107, 108, 5, 109, 110, 111, 112, 113, 76, 879, 880, 881, 882, 883, 884, 885, 886, 887, 888, 889, 890, 891, 892, 893, 894] rfl (by decide +kernel)
set_option maxRecDepth 20000 in
theorem gL_law_X7_type : GoodIn wsL_law (wsV RL 17 RX7 yX7_type wsX7_type) := goodIn_app (goodIn_r _ [102, 103, 104, 5] rfl (by decide +kernel)) ggL_law_X7_type
set_option maxRecDepth 20000 in
theorem ggL_law_X6_clear : GoodIn wsL_law wsX6_clear := goodIn_r _ [117, 15, 88, 89, 870, 871, 872, 873, 874, 875, 876, 877, 878, 895, 896, 897, 898, 917, 918] rfl (by decide +kernel)
set_option maxRecDepth 20000 in
theorem gL_law_X6_clear : GoodIn wsL_law (wsV RL 18 RX6 yX6_clear wsX6_clear) := goodIn_app (goodIn_r _ [114, 115, 116, 2] rfl (by decide +kernel)) ggL_law_X6_clear
set_option maxRecDepth 20000 in
theorem ggL_law_X7_clear : GoodIn wsL_law wsX7_clear := goodIn_r _ [121, 106, 879, 880, 881, 882, 883, 884, 885, 886, 887, 888, 889, 890, 891, 892, 893, 894] rfl (by decide +kernel)
set_option maxRecDepth 20000 in
theorem gL_law_X7_clear : GoodIn wsL_law (wsV RL 22 RX7 yX7_clear wsX7_clear) := goodIn_app (goodIn_r _ [118, 119, 120, 5] rfl (by decide +kernel)) ggL_law_X7_clear
set_option maxRecDepth 20000 in
theorem ggL_law_X6_reads : GoodIn wsL_law wsX6_reads := goodIn_r _ [125, 15, 20, 19, 126, 127, 128, 14, 129, 130, 131, 132, 133, 134, 135, 136, 36, 137, 138, 139, 140, 35, 141, 101, 41, 142, 143, 144, 145, 146, 147, 148, 149, 150, 151, 152, 153, 154, 155, 156, 157, 158, 159, 160, 161, 162, 163, 164, 165, 166, 167, 168, 169, 170, 171, 172, 173, 174, 175, 176, 177, 178, 179, 180, 181, 182, 183, 184, 185, 186, 187, 188, 189, 190, 191, 192, 193, 194, 195, 196, 197, 198, 199, 200, 201, 202, 203, 204, 205, 206, 207, 208, 209, 210, 211, 212, 18, 213, 214, 215, 216, 217, 218, 219, 220, 221, 222, 223, 224, 225, 226, 227, 228, 229, 230, 231, 232, 233, 234, 235, 236, 237, 238, 239, 240, 241, 242, 243, 244, 46, 47, 48, 245, 2, 246, 247, 248, 249, 250, 251, 252, 253, 254, 255, 49, 256, 257, 258, 259, 260, 261, 262, 263, 264, 265, 266, 267, 268, 269, 270, 271, 272, 273, 274, 275, 276, 277, 278, 279, 280, 281, 282, 283, 284, 285, 286, 287, 288, 289, 290, 291, 292, 293, 294, 295, 296, 297, 298, 299, 300, 301, 302, 303, 304, 24, 29, 305, 306, 307, 308, 23, 309, 310, 311, 54, 312, 313, 314, 315, 316, 317, 318, 319, 320, 321, 322, 323, 324, 325, 326, 327, 28, 328, 329, 330, 870, 871, 872, 873, 874, 875, 876, 877, 878, 895, 896, 897, 898, 917, 918, 899, 900, 901, 902, 903, 904, 905, 906, 907, 908, 909, 910, 911, 912, 913, 914, 915, 916] rfl (by decide +kernel)
set_option maxRecDepth 20000 in
theorem gL_law_X6_reads : GoodIn wsL_law (wsV RL 23 RX6 yX6_reads wsX6_reads) := goodIn_app (goodIn_r _ [122, 123, 124, 2] rfl (by decide +kernel)) ggL_law_X6_reads
set_option maxRecDepth 20000 in
theorem ggL_law_X7_reads : GoodIn wsL_law wsX7_reads := goodIn_r _ [334, 335, 74, 75, 336, 337, 338, 5, 339, 340, 106, 341, 342, 343, 344, 79, 345, 346, 347, 348, 349, 350, 351, 352, 77, 107, 108, 109, 353, 354, 355, 356, 357, 358, 359, 360, 361, 362, 363, 364, 365, 366, 367, 368, 369, 370, 371, 372, 373, 374, 375, 376, 377, 378, 379, 879, 880, 881, 882, 883, 884, 885, 886, 887, 888, 889, 890, 891, 892, 893, 894] rfl (by decide +kernel)
set_option maxRecDepth 20000 in
theorem gL_law_X7_reads : GoodIn wsL_law (wsV RL 26 RX7 yX7_reads wsX7_reads) := goodIn_app (goodIn_r _ [331, 332, 333, 5] rfl (by decide +kernel)) ggL_law_X7_reads
set_option maxRecDepth 20000 in
theorem ggL_law_X6_kind : GoodIn wsL_law wsX6_kind := goodIn_r _ [383, 19, 384, 385, 386, 387, 2, 388, 389, 305, 390, 391, 392, 18, 393, 214, 280, 281, 282, 283, 46, 284, 285, 394, 395, 396, 397, 90, 91, 92, 93, 94, 95, 96, 398, 399, 245, 246, 301, 302, 303, 304, 24, 29, 306, 307, 308, 23, 309, 310, 311, 54, 312, 313, 314, 315, 316, 317, 318, 319, 287, 288, 289, 47, 320, 321, 322, 323, 324, 291, 292, 293, 48, 325, 326, 327, 28, 328, 329, 330, 870, 871, 872, 873, 874, 875, 876, 877, 878, 899, 900, 901, 902, 903, 904, 905, 906, 907, 908, 909, 910, 911, 912, 913, 914, 915, 916] rfl (by decide +kernel)
set_option maxRecDepth 20000 in
theorem gL_law_X6_kind : GoodIn wsL_law (wsV RL 27 RX6 yX6_kind wsX6_kind) := goodIn_app (goodIn_r _ [380, 381, 382, 2] rfl (by decide +kernel)) ggL_law_X6_kind
set_option maxRecDepth 20000 in
theorem ggL_law_X7_kind : GoodIn wsL_law wsX7_kind := goodIn_r _ [403, 74, 404, 405, 406, 5, 407, 408, 409, 410, 411, 107, 108, 109, 412, 413, 414, 415, 110, 111, 112, 113, 76, 879, 880, 881, 882, 883, 884, 885, 886, 887, 888, 889, 890, 891, 892, 893, 894] rfl (by decide +kernel)
set_option maxRecDepth 20000 in
theorem gL_law_X7_kind : GoodIn wsL_law (wsV RL 31 RX7 yX7_kind wsX7_kind) := goodIn_app (goodIn_r _ [400, 401, 402, 5] rfl (by decide +kernel)) ggL_law_X7_kind
set_option maxRecDepth 20000 in
theorem ggL_law_X6_wire : GoodIn wsL_law wsX6_wire := goodIn_r _ [419, 19, 420, 421, 385, 386, 387, 2, 388, 389, 305, 422, 423, 424, 425, 398, 281, 282, 18, 283, 46, 284, 285, 426, 427, 428, 429, 430, 394, 395, 396, 397, 90, 91, 92, 93, 94, 95, 96, 431, 399, 245, 246, 301, 302, 303, 304, 24, 29, 306, 307, 308, 23, 309, 310, 311, 54, 312, 313, 314, 315, 316, 317, 318, 319, 287, 288, 289, 47, 320, 321, 322, 323, 324, 291, 292, 293, 48, 325, 326, 327, 28, 328, 329, 330, 870, 871, 872, 873, 874, 875, 876, 877, 878, 899, 900, 901, 902, 903, 904, 905, 906, 907, 908, 909, 910, 911, 912, 913, 914, 915, 916] rfl (by decide +kernel)
set_option maxRecDepth 20000 in
theorem gL_law_X6_wire : GoodIn wsL_law (wsV RL 32 RX6 yX6_wire wsX6_wire) := goodIn_app (goodIn_r _ [416, 417, 418, 2] rfl (by decide +kernel)) ggL_law_X6_wire
set_option maxRecDepth 20000 in
theorem ggL_law_X7_wire : GoodIn wsL_law wsX7_wire := goodIn_r _ [435, 74, 404, 405, 406, 5, 407, 408, 409, 410, 411, 107, 108, 109, 412, 413, 414, 415, 110, 111, 112, 113, 76, 879, 880, 881, 882, 883, 884, 885, 886, 887, 888, 889, 890, 891, 892, 893, 894] rfl (by decide +kernel)
set_option maxRecDepth 20000 in
theorem gL_law_X7_wire : GoodIn wsL_law (wsV RL 36 RX7 yX7_wire wsX7_wire) := goodIn_app (goodIn_r _ [432, 433, 434, 5] rfl (by decide +kernel)) ggL_law_X7_wire
set_option maxRecDepth 20000 in
theorem ggL_law_X6_of : GoodIn wsL_law wsX6_of := goodIn_r _ [439, 19, 430, 385, 386, 387, 2, 388, 389, 305, 394, 395, 396, 397, 90, 91, 92, 93, 94, 95, 96, 398, 281, 282, 18, 283, 46, 284, 285, 440, 287, 288, 289, 47, 441, 291, 292, 293, 48, 442, 443, 444, 445, 216, 217, 286, 290, 295, 296, 297, 298, 49, 870, 871, 872, 873, 874, 875, 876, 877, 878, 899, 900, 901, 902, 903, 904, 905, 906, 907, 908, 909] rfl (by decide +kernel)
set_option maxRecDepth 20000 in
theorem gL_law_X6_of : GoodIn wsL_law (wsV RL 37 RX6 yX6_of wsX6_of) := goodIn_app (goodIn_r _ [436, 437, 438, 2] rfl (by decide +kernel)) ggL_law_X6_of
set_option maxRecDepth 20000 in
theorem ggL_law_X7_of : GoodIn wsL_law wsX7_of := goodIn_r _ [449, 74, 404, 405, 406, 5, 407, 408, 409, 410, 411, 107, 108, 109, 412, 413, 414, 415, 110, 111, 112, 113, 76, 879, 880, 881, 882, 883, 884, 885, 886, 887, 888, 889, 890, 891, 892, 893, 894] rfl (by decide +kernel)
set_option maxRecDepth 20000 in
theorem gL_law_X7_of : GoodIn wsL_law (wsV RL 40 RX7 yX7_of wsX7_of) := goodIn_app (goodIn_r _ [446, 447, 448, 5] rfl (by decide +kernel)) ggL_law_X7_of
set_option maxRecDepth 20000 in
theorem ggL_law_X6_told : GoodIn wsL_law wsX6_told := goodIn_r _ [453, 19, 454, 455, 456, 457, 458, 459, 2, 460, 389, 461, 394, 395, 396, 397, 90, 91, 92, 93, 94, 95, 96, 462, 296, 297, 18, 298, 49, 284, 285, 870, 871, 872, 873, 874, 875, 876, 877, 878, 899, 900, 901, 902, 903, 904, 905, 906, 907, 908, 909] rfl (by decide +kernel)
set_option maxRecDepth 20000 in
theorem gL_law_X6_told : GoodIn wsL_law (wsV RL 41 RX6 yX6_told wsX6_told) := goodIn_app (goodIn_r _ [450, 451, 452, 2] rfl (by decide +kernel)) ggL_law_X6_told
set_option maxRecDepth 20000 in
theorem ggL_law_X7_told : GoodIn wsL_law wsX7_told := goodIn_r _ [466, 74, 408, 409, 410, 5, 411, 107, 108, 109, 412, 413, 414, 415, 110, 111, 112, 113, 76, 879, 880, 881, 882, 883, 884, 885, 886, 887, 888, 889, 890, 891, 892, 893, 894] rfl (by decide +kernel)
set_option maxRecDepth 20000 in
theorem gL_law_X7_told : GoodIn wsL_law (wsV RL 44 RX7 yX7_told wsX7_told) := goodIn_app (goodIn_r _ [463, 464, 465, 5] rfl (by decide +kernel)) ggL_law_X7_told
set_option maxRecDepth 20000 in
theorem ggL_law_X6_adder : GoodIn wsL_law wsX6_adder := goodIn_r _ [470, 19, 90, 91, 92, 2, 93, 94, 95, 96, 471, 211, 212, 18, 213, 214, 215, 216, 217, 472, 242, 243, 244, 46, 47, 48, 245, 246, 247, 238, 239, 240, 473, 253, 254, 255, 49, 474, 269, 270, 271, 272, 273, 274, 301, 302, 303, 304, 24, 29, 305, 306, 307, 308, 23, 309, 310, 311, 54, 312, 313, 281, 282, 283, 284, 285, 314, 315, 316, 317, 318, 319, 287, 288, 289, 320, 321, 322, 323, 324, 291, 292, 293, 325, 326, 327, 28, 328, 329, 330, 870, 871, 872, 873, 874, 875, 876, 877, 878, 899, 900, 901, 902, 903, 904, 905, 906, 907, 908, 909, 910, 911, 912, 913, 914, 915, 916] rfl (by decide +kernel)
set_option maxRecDepth 20000 in
theorem gL_law_X6_adder : GoodIn wsL_law (wsV RL 45 RX6 yX6_adder wsX6_adder) := goodIn_app (goodIn_r _ [467, 468, 469, 2] rfl (by decide +kernel)) ggL_law_X6_adder
set_option maxRecDepth 20000 in
theorem ggL_law_X7_adder : GoodIn wsL_law wsX7_adder := goodIn_r _ [478, 74, 107, 108, 5, 109, 110, 111, 112, 113, 76, 479, 480, 481, 482, 483, 484, 485, 486, 487, 488, 489, 879, 880, 881, 882, 883, 884, 885, 886, 887, 888, 889, 890, 891, 892, 893, 894] rfl (by decide +kernel)
set_option maxRecDepth 20000 in
theorem gL_law_X7_adder : GoodIn wsL_law (wsV RL 48 RX7 yX7_adder wsX7_adder) := goodIn_app (goodIn_r _ [475, 476, 477, 5] rfl (by decide +kernel)) ggL_law_X7_adder
set_option maxRecDepth 20000 in
theorem ggL_law_X6_draw : GoodIn wsL_law wsX6_draw := goodIn_r _ [493, 494, 19, 495, 496, 497, 498, 499, 500, 90, 91, 92, 2, 93, 94, 95, 96, 471, 211, 212, 18, 213, 214, 215, 216, 217, 501, 502, 503, 472, 242, 243, 244, 46, 47, 48, 245, 246, 247, 238, 239, 240, 473, 253, 254, 255, 49, 474, 269, 270, 271, 272, 273, 274, 301, 302, 303, 304, 24, 29, 305, 306, 307, 308, 23, 309, 310, 311, 54, 312, 313, 281, 282, 283, 284, 285, 314, 315, 316, 317, 318, 319, 287, 288, 289, 320, 321, 322, 323, 324, 291, 292, 293, 325, 326, 327, 28, 328, 329, 330, 870, 871, 872, 873, 874, 875, 876, 877, 878, 899, 900, 901, 902, 903, 904, 905, 906, 907, 908, 909, 910, 911, 912, 913, 914, 915, 916] rfl (by decide +kernel)
set_option maxRecDepth 20000 in
theorem gL_law_X6_draw : GoodIn wsL_law (wsV RL 49 RX6 yX6_draw wsX6_draw) := goodIn_app (goodIn_r _ [490, 491, 492, 2] rfl (by decide +kernel)) ggL_law_X6_draw
set_option maxRecDepth 20000 in
theorem ggL_law_X7_draw : GoodIn wsL_law wsX7_draw := goodIn_r _ [507, 508, 509, 510, 511, 74, 512, 513, 514, 515, 107, 108, 5, 109, 110, 111, 112, 113, 76, 479, 480, 481, 482, 483, 484, 485, 486, 487, 488, 489, 879, 880, 881, 882, 883, 884, 885, 886, 887, 888, 889, 890, 891, 892, 893, 894] rfl (by decide +kernel)
set_option maxRecDepth 20000 in
theorem gL_law_X7_draw : GoodIn wsL_law (wsV RL 52 RX7 yX7_draw wsX7_draw) := goodIn_app (goodIn_r _ [504, 505, 506, 5] rfl (by decide +kernel)) ggL_law_X7_draw
set_option maxRecDepth 20000 in
theorem ggL_law_X6_runs : GoodIn wsL_law wsX6_runs := goodIn_r _ [519, 24, 19, 520, 521, 522, 2, 523, 389, 430, 394, 395, 396, 397, 90, 91, 92, 93, 94, 95, 96, 524, 525, 526, 23, 527, 528, 529, 296, 297, 18, 298, 49, 284, 285, 530, 531, 532, 533, 320, 321, 322, 323, 54, 534, 535, 536, 537, 273, 274, 272, 870, 871, 872, 873, 874, 875, 876, 877, 878, 899, 900, 901, 902, 903, 904, 905, 906, 907, 908, 909, 910] rfl (by decide +kernel)
set_option maxRecDepth 20000 in
theorem gL_law_X6_runs : GoodIn wsL_law (wsV RL 53 RX6 yX6_runs wsX6_runs) := goodIn_app (goodIn_r _ [516, 517, 518, 2] rfl (by decide +kernel)) ggL_law_X6_runs
set_option maxRecDepth 20000 in
theorem ggL_law_X7_runs : GoodIn wsL_law wsX7_runs := goodIn_r _ [541, 542, 543, 544, 5, 545, 74, 408, 409, 410, 411, 107, 108, 109, 412, 413, 414, 415, 110, 111, 112, 113, 76, 546, 547, 548, 549, 550, 551, 552, 553, 554, 555, 556, 557, 558, 559, 560, 879, 880, 881, 882, 883, 884, 885, 886, 887, 888, 889, 890, 891, 892, 893, 894] rfl (by decide +kernel)
set_option maxRecDepth 20000 in
theorem gL_law_X7_runs : GoodIn wsL_law (wsV RL 56 RX7 yX7_runs wsX7_runs) := goodIn_app (goodIn_r _ [538, 539, 540, 5] rfl (by decide +kernel)) ggL_law_X7_runs
set_option maxRecDepth 20000 in
theorem ggL_law_X6_signal : GoodIn wsL_law wsX6_signal := goodIn_r _ [564, 24, 565, 566, 567, 2, 568, 19, 389, 569, 238, 239, 18, 240, 215, 216, 520, 521, 522, 523, 430, 394, 395, 396, 397, 90, 91, 92, 93, 94, 95, 96, 570, 531, 532, 23, 533, 320, 321, 322, 323, 54, 870, 871, 872, 873, 874, 875, 876, 877, 878, 899, 900, 901, 902, 903, 904, 905, 906, 907, 908, 909, 910] rfl (by decide +kernel)
set_option maxRecDepth 20000 in
theorem gL_law_X6_signal : GoodIn wsL_law (wsV RL 57 RX6 yX6_signal wsX6_signal) := goodIn_app (goodIn_r _ [561, 562, 563, 2] rfl (by decide +kernel)) ggL_law_X6_signal
set_option maxRecDepth 20000 in
theorem ggL_law_X7_signal : GoodIn wsL_law wsX7_signal := goodIn_r _ [574, 74, 408, 409, 410, 5, 411, 107, 108, 109, 542, 543, 544, 545, 412, 413, 414, 415, 110, 111, 112, 113, 76, 550, 551, 552, 553, 554, 555, 556, 879, 880, 881, 882, 883, 884, 885, 886, 887, 888, 889, 890, 891, 892, 893, 894] rfl (by decide +kernel)
set_option maxRecDepth 20000 in
theorem gL_law_X7_signal : GoodIn wsL_law (wsV RL 60 RX7 yX7_signal wsX7_signal) := goodIn_app (goodIn_r _ [571, 572, 573, 5] rfl (by decide +kernel)) ggL_law_X7_signal
set_option maxRecDepth 20000 in
theorem ggL_law_X6_wrong : GoodIn wsL_law wsX6_wrong := goodIn_r _ [578, 24, 19, 394, 395, 396, 2, 397, 389, 90, 91, 92, 93, 94, 95, 96, 579, 580, 581, 23, 582, 310, 583, 584, 585, 586, 587, 525, 526, 527, 528, 529, 296, 297, 18, 298, 49, 284, 285, 530, 531, 532, 533, 320, 321, 322, 323, 54, 588, 535, 536, 537, 273, 274, 272, 589, 590, 591, 592, 870, 871, 872, 873, 874, 875, 876, 877, 878, 899, 900, 901, 902, 903, 904, 905, 906, 907, 908, 909, 910] rfl (by decide +kernel)
set_option maxRecDepth 20000 in
theorem gL_law_X6_wrong : GoodIn wsL_law (wsV RL 61 RX6 yX6_wrong wsX6_wrong) := goodIn_app (goodIn_r _ [575, 576, 577, 2] rfl (by decide +kernel)) ggL_law_X6_wrong
set_option maxRecDepth 20000 in
theorem ggL_law_X7_wrong : GoodIn wsL_law wsX7_wrong := goodIn_r _ [596, 107, 108, 5, 109, 408, 409, 410, 411, 74, 412, 413, 414, 415, 110, 111, 112, 113, 76, 597, 598, 599, 600, 546, 547, 548, 549, 550, 551, 552, 553, 554, 555, 556, 557, 558, 559, 560, 879, 880, 881, 882, 883, 884, 885, 886, 887, 888, 889, 890, 891, 892, 893, 894] rfl (by decide +kernel)
set_option maxRecDepth 20000 in
theorem gL_law_X7_wrong : GoodIn wsL_law (wsV RL 64 RX7 yX7_wrong wsX7_wrong) := goodIn_app (goodIn_r _ [593, 594, 595, 5] rfl (by decide +kernel)) ggL_law_X7_wrong
set_option maxRecDepth 20000 in
theorem ggL_law_X6_cures : GoodIn wsL_law wsX6_cures := goodIn_r _ [604, 19, 25, 385, 386, 387, 2, 388, 389, 305, 394, 395, 396, 397, 90, 91, 92, 93, 94, 95, 96, 390, 391, 392, 18, 393, 214, 280, 281, 282, 283, 46, 284, 285, 306, 307, 308, 23, 309, 310, 311, 54, 312, 313, 314, 315, 316, 317, 318, 319, 287, 288, 289, 47, 320, 321, 322, 323, 324, 291, 292, 293, 48, 579, 580, 581, 582, 583, 584, 585, 586, 587, 525, 526, 527, 528, 529, 296, 297, 298, 49, 530, 531, 532, 533, 588, 535, 536, 537, 273, 274, 272, 870, 871, 872, 873, 874, 875, 876, 877, 878, 899, 900, 901, 902, 903, 904, 905, 906, 907, 908, 909, 910] rfl (by decide +kernel)
set_option maxRecDepth 20000 in
theorem gL_law_X6_cures : GoodIn wsL_law (wsV RL 65 RX6 yX6_cures wsX6_cures) := goodIn_app (goodIn_r _ [601, 602, 603, 2] rfl (by decide +kernel)) ggL_law_X6_cures
set_option maxRecDepth 20000 in
theorem ggL_law_X7_cures : GoodIn wsL_law wsX7_cures := goodIn_r _ [608, 74, 404, 405, 406, 5, 407, 408, 409, 410, 411, 107, 108, 109, 412, 413, 414, 415, 110, 111, 112, 113, 76, 597, 598, 599, 600, 546, 547, 548, 549, 550, 551, 552, 553, 554, 555, 556, 557, 558, 559, 560, 879, 880, 881, 882, 883, 884, 885, 886, 887, 888, 889, 890, 891, 892, 893, 894] rfl (by decide +kernel)
set_option maxRecDepth 20000 in
theorem gL_law_X7_cures : GoodIn wsL_law (wsV RL 68 RX7 yX7_cures wsX7_cures) := goodIn_app (goodIn_r _ [605, 606, 607, 5] rfl (by decide +kernel)) ggL_law_X7_cures
set_option maxRecDepth 20000 in
theorem ggL_law_X6_right : GoodIn wsL_law wsX6_right := goodIn_r _ [612, 19, 305, 29, 613, 614, 615, 2, 616, 394, 395, 396, 397, 389, 90, 91, 92, 93, 94, 95, 96, 617, 618, 619, 28, 620, 329, 58, 330, 64, 621, 622, 623, 624, 625, 626, 627, 628, 296, 297, 18, 298, 49, 284, 285, 629, 630, 631, 632, 633, 63, 634, 635, 68, 69, 636, 637, 638, 639, 640, 641, 642, 643, 644, 645, 646, 647, 245, 246, 648, 649, 650, 651, 652, 653, 654, 655, 656, 657, 658, 659, 660, 661, 662, 663, 664, 665, 666, 667, 668, 669, 670, 287, 288, 289, 47, 671, 291, 292, 293, 48, 672, 281, 282, 283, 46, 673, 674, 675, 676, 677, 678, 679, 680, 59, 681, 682, 683, 684, 60, 685, 686, 687, 688, 689, 690, 691, 870, 871, 872, 873, 874, 875, 876, 877, 878, 899, 900, 901, 902, 903, 904, 905, 906, 907, 908, 909, 911, 912, 913, 914, 915, 916, 919, 920, 921] rfl (by decide +kernel)
set_option maxRecDepth 20000 in
theorem gL_law_X6_right : GoodIn wsL_law (wsV RL 69 RX6 yX6_right wsX6_right) := goodIn_app (goodIn_r _ [609, 610, 611, 2] rfl (by decide +kernel)) ggL_law_X6_right
set_option maxRecDepth 20000 in
theorem ggL_law_X7_right : GoodIn wsL_law wsX7_right := goodIn_r _ [695, 74, 696, 408, 409, 410, 5, 411, 110, 111, 112, 113, 76, 697, 698, 699, 700, 701, 702, 703, 704, 705, 706, 707, 708, 709, 710, 711, 82, 83, 712, 713, 714, 715, 80, 81, 716, 717, 718, 719, 720, 721, 722, 723, 724, 879, 880, 881, 882, 883, 884, 885, 886, 887, 888, 889, 890, 891, 892, 893, 894] rfl (by decide +kernel)
set_option maxRecDepth 20000 in
theorem gL_law_X7_right : GoodIn wsL_law (wsV RL 72 RX7 yX7_right wsX7_right) := goodIn_app (goodIn_r _ [692, 693, 694, 5] rfl (by decide +kernel)) ggL_law_X7_right
set_option maxRecDepth 20000 in
theorem ggL_law_X6_terms : GoodIn wsL_law wsX6_terms := goodIn_r _ [728, 29, 729, 730, 731, 2, 732, 19, 389, 305, 613, 614, 615, 616, 394, 395, 396, 397, 90, 91, 92, 93, 94, 95, 96, 617, 618, 619, 28, 620, 329, 58, 330, 64, 621, 622, 623, 624, 625, 626, 627, 628, 296, 297, 18, 298, 49, 284, 285, 629, 630, 631, 632, 633, 63, 634, 635, 68, 69, 636, 637, 638, 639, 640, 641, 642, 643, 644, 645, 646, 647, 245, 246, 648, 649, 650, 651, 652, 653, 654, 655, 656, 657, 658, 659, 660, 661, 662, 663, 664, 665, 666, 667, 668, 669, 670, 287, 288, 289, 47, 671, 291, 292, 293, 48, 672, 281, 282, 283, 46, 673, 674, 675, 676, 677, 678, 679, 680, 59, 681, 682, 683, 684, 60, 685, 686, 687, 688, 689, 690, 691, 870, 871, 872, 873, 874, 875, 876, 877, 878, 899, 900, 901, 902, 903, 904, 905, 906, 907, 908, 909, 911, 912, 913, 914, 915, 916, 919, 920, 921] rfl (by decide +kernel)
set_option maxRecDepth 20000 in
theorem gL_law_X6_terms : GoodIn wsL_law (wsV RL 73 RX6 yX6_terms wsX6_terms) := goodIn_app (goodIn_r _ [725, 726, 727, 2] rfl (by decide +kernel)) ggL_law_X6_terms
set_option maxRecDepth 20000 in
theorem ggL_law_X7_terms : GoodIn wsL_law wsX7_terms := goodIn_r _ [736, 696, 737, 738, 739, 5, 740, 74, 408, 409, 410, 411, 107, 108, 109, 412, 413, 414, 415, 110, 111, 112, 113, 76, 697, 698, 699, 700, 701, 702, 703, 704, 705, 706, 707, 708, 709, 710, 711, 82, 83, 712, 713, 714, 715, 80, 81, 716, 717, 718, 719, 720, 721, 722, 723, 724, 879, 880, 881, 882, 883, 884, 885, 886, 887, 888, 889, 890, 891, 892, 893, 894] rfl (by decide +kernel)
set_option maxRecDepth 20000 in
theorem gL_law_X7_terms : GoodIn wsL_law (wsV RL 76 RX7 yX7_terms wsX7_terms) := goodIn_app (goodIn_r _ [733, 734, 735, 5] rfl (by decide +kernel)) ggL_law_X7_terms
set_option maxRecDepth 20000 in
theorem ggL_law_X6_term : GoodIn wsL_law wsX6_term := goodIn_r _ [744, 29, 729, 730, 731, 2, 732, 19, 389, 305, 613, 614, 615, 616, 394, 395, 396, 397, 90, 91, 92, 93, 94, 95, 96, 617, 618, 619, 28, 620, 329, 58, 330, 64, 621, 622, 623, 624, 625, 626, 627, 628, 296, 297, 18, 298, 49, 284, 285, 629, 630, 631, 632, 633, 63, 634, 635, 68, 69, 636, 637, 638, 639, 640, 641, 642, 643, 644, 645, 646, 647, 245, 246, 648, 649, 650, 651, 652, 653, 654, 655, 656, 657, 658, 659, 660, 661, 662, 663, 664, 665, 666, 667, 668, 669, 670, 287, 288, 289, 47, 671, 291, 292, 293, 48, 672, 281, 282, 283, 46, 673, 674, 675, 676, 677, 678, 679, 680, 59, 681, 682, 683, 684, 60, 685, 686, 687, 688, 689, 690, 691, 745, 746, 870, 871, 872, 873, 874, 875, 876, 877, 878, 899, 900, 901, 902, 903, 904, 905, 906, 907, 908, 909, 911, 912, 913, 914, 915, 916, 919, 920, 921] rfl (by decide +kernel)
set_option maxRecDepth 20000 in
theorem gL_law_X6_term : GoodIn wsL_law (wsV RL 77 RX6 yX6_term wsX6_term) := goodIn_app (goodIn_r _ [741, 742, 743, 2] rfl (by decide +kernel)) ggL_law_X6_term
set_option maxRecDepth 20000 in
theorem ggL_law_X7_term : GoodIn wsL_law wsX7_term := goodIn_r _ [750, 696, 81, 80, 737, 738, 739, 5, 740, 74, 408, 409, 410, 411, 107, 108, 109, 412, 413, 414, 415, 110, 111, 112, 113, 76, 697, 698, 699, 700, 701, 702, 703, 704, 705, 706, 707, 708, 709, 710, 711, 82, 83, 712, 713, 714, 715, 716, 717, 718, 719, 720, 721, 722, 723, 724, 879, 880, 881, 882, 883, 884, 885, 886, 887, 888, 889, 890, 891, 892, 893, 894] rfl (by decide +kernel)
set_option maxRecDepth 20000 in
theorem gL_law_X7_term : GoodIn wsL_law (wsV RL 80 RX7 yX7_term wsX7_term) := goodIn_app (goodIn_r _ [747, 748, 749, 5] rfl (by decide +kernel)) ggL_law_X7_term
set_option maxRecDepth 20000 in
theorem ggL_law_X6_most : GoodIn wsL_law wsX6_most := goodIn_r _ [754, 19, 305, 29, 613, 614, 615, 2, 616, 394, 395, 396, 397, 389, 90, 91, 92, 93, 94, 95, 96, 617, 618, 619, 28, 620, 329, 58, 330, 64, 621, 622, 623, 624, 625, 626, 627, 628, 296, 297, 18, 298, 49, 284, 285, 629, 630, 631, 632, 633, 63, 634, 635, 68, 69, 636, 637, 638, 639, 640, 641, 642, 643, 644, 645, 646, 647, 245, 246, 648, 649, 650, 651, 652, 653, 654, 655, 656, 657, 658, 659, 660, 661, 662, 663, 664, 665, 666, 667, 668, 669, 670, 287, 288, 289, 47, 671, 291, 292, 293, 48, 672, 281, 282, 283, 46, 673, 674, 675, 676, 677, 678, 679, 680, 59, 681, 682, 683, 684, 60, 685, 686, 687, 688, 689, 690, 755, 756, 757, 758, 759, 760, 761, 762, 763, 764, 765, 766, 767, 768, 769, 770, 771, 772, 773, 774, 775, 776, 777, 870, 871, 872, 873, 874, 875, 876, 877, 878, 899, 900, 901, 902, 903, 904, 905, 906, 907, 908, 909, 911, 912, 913, 914, 915, 916, 919, 920, 921] rfl (by decide +kernel)
set_option maxRecDepth 20000 in
theorem gL_law_X6_most : GoodIn wsL_law (wsV RL 81 RX6 yX6_most wsX6_most) := goodIn_app (goodIn_r _ [751, 752, 753, 2] rfl (by decide +kernel)) ggL_law_X6_most
set_option maxRecDepth 20000 in
theorem ggL_law_X7_most : GoodIn wsL_law wsX7_most := goodIn_r _ [781, 74, 696, 80, 81, 701, 107, 108, 5, 109, 408, 409, 410, 411, 412, 413, 414, 415, 110, 111, 112, 113, 76, 697, 698, 699, 700, 702, 703, 704, 705, 706, 707, 708, 709, 710, 711, 82, 83, 712, 713, 714, 715, 716, 717, 718, 719, 720, 721, 722, 723, 724, 782, 783, 784, 879, 880, 881, 882, 883, 884, 885, 886, 887, 888, 889, 890, 891, 892, 893, 894] rfl (by decide +kernel)
set_option maxRecDepth 20000 in
theorem gL_law_X7_most : GoodIn wsL_law (wsV RL 84 RX7 yX7_most wsX7_most) := goodIn_app (goodIn_r _ [778, 779, 780, 5] rfl (by decide +kernel)) ggL_law_X7_most
set_option maxRecDepth 20000 in
theorem ggL_law_X6_dearest : GoodIn wsL_law wsX6_dearest := goodIn_r _ [788, 29, 729, 730, 731, 2, 732, 19, 389, 305, 613, 614, 615, 616, 394, 395, 396, 397, 90, 91, 92, 93, 94, 95, 96, 617, 618, 619, 28, 620, 329, 58, 330, 64, 621, 622, 623, 624, 625, 626, 627, 628, 296, 297, 18, 298, 49, 284, 285, 629, 630, 631, 632, 633, 63, 634, 635, 68, 69, 636, 637, 638, 639, 640, 641, 642, 643, 644, 645, 646, 647, 245, 246, 648, 649, 650, 651, 652, 653, 654, 655, 656, 657, 658, 659, 660, 661, 662, 663, 664, 665, 666, 667, 668, 669, 670, 287, 288, 289, 47, 671, 291, 292, 293, 48, 672, 281, 282, 283, 46, 673, 674, 675, 676, 677, 678, 679, 680, 59, 681, 682, 683, 684, 60, 685, 686, 687, 688, 689, 690, 789, 790, 791, 792, 793, 794, 795, 796, 797, 798, 761, 799, 870, 871, 872, 873, 874, 875, 876, 877, 878, 899, 900, 901, 902, 903, 904, 905, 906, 907, 908, 909, 911, 912, 913, 914, 915, 916, 919, 920, 921] rfl (by decide +kernel)
set_option maxRecDepth 20000 in
theorem gL_law_X6_dearest : GoodIn wsL_law (wsV RL 85 RX6 yX6_dearest wsX6_dearest) := goodIn_app (goodIn_r _ [785, 786, 787, 2] rfl (by decide +kernel)) ggL_law_X6_dearest
set_option maxRecDepth 20000 in
theorem ggL_law_X7_dearest : GoodIn wsL_law wsX7_dearest := goodIn_r _ [803, 696, 81, 80, 737, 738, 739, 5, 740, 74, 408, 409, 410, 411, 107, 108, 109, 412, 413, 414, 415, 110, 111, 112, 113, 76, 697, 698, 699, 700, 701, 702, 703, 704, 705, 706, 707, 708, 709, 710, 711, 82, 83, 712, 713, 714, 715, 716, 717, 718, 719, 720, 721, 722, 723, 724, 804, 805, 806, 879, 880, 881, 882, 883, 884, 885, 886, 887, 888, 889, 890, 891, 892, 893, 894] rfl (by decide +kernel)
set_option maxRecDepth 20000 in
theorem gL_law_X7_dearest : GoodIn wsL_law (wsV RL 88 RX7 yX7_dearest wsX7_dearest) := goodIn_app (goodIn_r _ [800, 801, 802, 5] rfl (by decide +kernel)) ggL_law_X7_dearest
set_option maxRecDepth 20000 in
theorem ggL_law_X6_value : GoodIn wsL_law wsX6_value := goodIn_r _ [810, 29, 24, 19, 729, 730, 731, 2, 732, 389, 305, 520, 521, 522, 523, 430, 613, 614, 615, 616, 394, 395, 396, 397, 90, 91, 92, 93, 94, 95, 96, 617, 618, 619, 28, 620, 329, 58, 330, 64, 621, 622, 623, 624, 625, 626, 627, 628, 296, 297, 18, 298, 49, 284, 285, 629, 630, 631, 632, 633, 63, 634, 635, 68, 69, 636, 637, 638, 639, 640, 641, 642, 643, 644, 645, 646, 647, 245, 246, 648, 649, 650, 651, 652, 653, 654, 655, 656, 657, 658, 659, 660, 661, 662, 663, 664, 665, 666, 667, 668, 669, 670, 287, 288, 289, 47, 671, 291, 292, 293, 48, 672, 281, 282, 283, 46, 673, 674, 675, 676, 677, 678, 679, 680, 59, 681, 682, 683, 684, 60, 685, 686, 687, 688, 689, 690, 811, 812, 813, 23, 814, 815, 238, 239, 240, 215, 216, 530, 531, 532, 533, 320, 321, 322, 323, 54, 774, 775, 776, 777, 870, 871, 872, 873, 874, 875, 876, 877, 878, 899, 900, 901, 902, 903, 904, 905, 906, 907, 908, 909, 911, 912, 913, 914, 915, 916, 919, 920, 921, 910] rfl (by decide +kernel)
set_option maxRecDepth 20000 in
theorem gL_law_X6_value : GoodIn wsL_law (wsV RL 89 RX6 yX6_value wsX6_value) := goodIn_app (goodIn_r _ [807, 808, 809, 2] rfl (by decide +kernel)) ggL_law_X6_value
set_option maxRecDepth 20000 in
theorem ggL_law_X7_value : GoodIn wsL_law wsX7_value := goodIn_r _ [819, 696, 80, 81, 737, 738, 739, 5, 740, 74, 408, 409, 410, 411, 107, 108, 109, 542, 543, 544, 545, 412, 413, 414, 415, 110, 111, 112, 113, 76, 697, 698, 699, 700, 701, 702, 703, 704, 705, 706, 707, 708, 709, 710, 711, 82, 83, 712, 713, 714, 715, 716, 717, 718, 719, 720, 721, 722, 723, 724, 550, 551, 552, 553, 554, 555, 556, 879, 880, 881, 882, 883, 884, 885, 886, 887, 888, 889, 890, 891, 892, 893, 894] rfl (by decide +kernel)
set_option maxRecDepth 20000 in
theorem gL_law_X7_value : GoodIn wsL_law (wsV RL 92 RX7 yX7_value wsX7_value) := goodIn_app (goodIn_r _ [816, 817, 818, 5] rfl (by decide +kernel)) ggL_law_X7_value
set_option maxRecDepth 20000 in
theorem ggL_law_X6_stands : GoodIn wsL_law wsX6_stands := goodIn_r _ [823, 29, 729, 730, 731, 2, 732, 19, 389, 305, 613, 614, 615, 616, 394, 395, 396, 397, 90, 91, 92, 93, 94, 95, 96, 617, 618, 619, 28, 620, 329, 58, 330, 64, 621, 622, 623, 624, 625, 626, 627, 628, 296, 297, 18, 298, 49, 284, 285, 629, 630, 631, 632, 633, 63, 634, 635, 68, 69, 636, 637, 638, 639, 640, 641, 642, 643, 644, 645, 646, 647, 245, 246, 648, 649, 650, 651, 652, 653, 654, 655, 656, 657, 658, 659, 660, 661, 662, 663, 664, 665, 666, 667, 668, 669, 670, 287, 288, 289, 47, 671, 291, 292, 293, 48, 672, 281, 282, 283, 46, 673, 674, 675, 676, 677, 678, 679, 680, 59, 681, 682, 683, 684, 60, 685, 686, 687, 688, 689, 690, 824, 825, 826, 827, 870, 871, 872, 873, 874, 875, 876, 877, 878, 899, 900, 901, 902, 903, 904, 905, 906, 907, 908, 909, 911, 912, 913, 914, 915, 916, 919, 920, 921] rfl (by decide +kernel)
set_option maxRecDepth 20000 in
theorem gL_law_X6_stands : GoodIn wsL_law (wsV RL 93 RX6 yX6_stands wsX6_stands) := goodIn_app (goodIn_r _ [820, 821, 822, 2] rfl (by decide +kernel)) ggL_law_X6_stands
set_option maxRecDepth 20000 in
theorem ggL_law_X7_stands : GoodIn wsL_law wsX7_stands := goodIn_r _ [831, 696, 80, 737, 738, 739, 5, 740, 74, 408, 409, 410, 411, 107, 108, 109, 412, 413, 414, 415, 110, 111, 112, 113, 76, 697, 698, 699, 700, 701, 702, 703, 704, 705, 706, 707, 708, 709, 710, 711, 82, 83, 712, 713, 714, 715, 81, 716, 717, 718, 719, 720, 721, 722, 723, 724, 879, 880, 881, 882, 883, 884, 885, 886, 887, 888, 889, 890, 891, 892, 893, 894] rfl (by decide +kernel)
set_option maxRecDepth 20000 in
theorem gL_law_X7_stands : GoodIn wsL_law (wsV RL 96 RX7 yX7_stands wsX7_stands) := goodIn_app (goodIn_r _ [828, 829, 830, 5] rfl (by decide +kernel)) ggL_law_X7_stands
set_option maxRecDepth 20000 in
theorem ggL_law_X6_witness : GoodIn wsL_law wsX6_witness := goodIn_r _ [835, 19, 305, 29, 613, 614, 615, 2, 616, 394, 395, 396, 397, 389, 90, 91, 92, 93, 94, 95, 96, 617, 618, 619, 28, 620, 329, 58, 330, 64, 621, 622, 623, 624, 625, 626, 627, 628, 296, 297, 18, 298, 49, 284, 285, 629, 630, 631, 632, 633, 63, 634, 635, 68, 69, 636, 637, 638, 639, 640, 641, 642, 643, 644, 645, 646, 647, 245, 246, 648, 649, 650, 651, 652, 653, 654, 655, 656, 657, 658, 659, 660, 661, 662, 663, 664, 665, 666, 667, 668, 669, 670, 287, 288, 289, 47, 671, 291, 292, 293, 48, 672, 281, 282, 283, 46, 673, 674, 675, 676, 677, 678, 679, 680, 59, 681, 682, 683, 684, 60, 685, 686, 687, 688, 689, 690, 836, 837, 838, 839, 767, 768, 769, 770, 771, 772, 773, 870, 871, 872, 873, 874, 875, 876, 877, 878, 899, 900, 901, 902, 903, 904, 905, 906, 907, 908, 909, 911, 912, 913, 914, 915, 916, 919, 920, 921] rfl (by decide +kernel)
set_option maxRecDepth 20000 in
theorem gL_law_X6_witness : GoodIn wsL_law (wsV RL 97 RX6 yX6_witness wsX6_witness) := goodIn_app (goodIn_r _ [832, 833, 834, 2] rfl (by decide +kernel)) ggL_law_X6_witness
set_option maxRecDepth 20000 in
theorem ggL_law_X7_witness : GoodIn wsL_law wsX7_witness := goodIn_r _ [843, 74, 844, 696, 80, 408, 409, 410, 5, 411, 110, 111, 112, 113, 76, 697, 698, 699, 700, 701, 702, 703, 704, 705, 706, 707, 708, 709, 710, 711, 82, 83, 712, 713, 714, 715, 81, 716, 717, 718, 719, 720, 721, 722, 723, 724, 782, 783, 784, 879, 880, 881, 882, 883, 884, 885, 886, 887, 888, 889, 890, 891, 892, 893, 894] rfl (by decide +kernel)
set_option maxRecDepth 20000 in
theorem gL_law_X7_witness : GoodIn wsL_law (wsV RL 100 RX7 yX7_witness wsX7_witness) := goodIn_app (goodIn_r _ [840, 841, 842, 5] rfl (by decide +kernel)) ggL_law_X7_witness
set_option maxRecDepth 20000 in
theorem ggL_law_X6_count : GoodIn wsL_law wsX6_count := goodIn_r _ [848, 94, 95, 96, 15, 88, 89, 19, 430, 305, 461, 90, 91, 92, 2, 93, 870, 871, 872, 873, 874, 875, 876, 877, 878, 895, 896, 897, 898, 917, 918, 899, 900, 901, 902, 903, 904, 905, 906, 907, 908, 909] rfl (by decide +kernel)
set_option maxRecDepth 20000 in
theorem gL_law_X6_count : GoodIn wsL_law (wsV RL 101 RX6 yX6_count wsX6_count) := goodIn_app (goodIn_r _ [845, 846, 847, 2] rfl (by decide +kernel)) ggL_law_X6_count
set_option maxRecDepth 20000 in
theorem ggL_law_X7_count : GoodIn wsL_law wsX7_count := goodIn_r _ [852, 107, 108, 5, 109, 853, 854, 855, 856, 76, 106, 74, 110, 111, 112, 113, 879, 880, 881, 882, 883, 884, 885, 886, 887, 888, 889, 890, 891, 892, 893, 894] rfl (by decide +kernel)
set_option maxRecDepth 20000 in
theorem gL_law_X7_count : GoodIn wsL_law (wsV RL 104 RX7 yX7_count wsX7_count) := goodIn_app (goodIn_r _ [849, 850, 851, 5] rfl (by decide +kernel)) ggL_law_X7_count
set_option maxRecDepth 20000 in
theorem ggL_law_X6_digest : GoodIn wsL_law wsX6_digest := goodIn_r _ [860, 861, 862, 19, 305, 461, 389, 454, 455, 456, 24, 863, 846, 847, 2, 848, 94, 95, 96, 15, 88, 89, 430, 90, 91, 92, 93, 398, 281, 282, 18, 283, 46, 284, 285, 440, 287, 288, 289, 47, 441, 291, 292, 293, 48, 462, 296, 297, 298, 49, 589, 590, 591, 23, 592, 310, 583, 584, 585, 586, 587, 525, 526, 527, 528, 529, 530, 531, 532, 533, 320, 321, 322, 323, 54, 588, 535, 536, 537, 273, 274, 272, 870, 871, 872, 873, 874, 875, 876, 877, 878, 899, 900, 901, 902, 903, 904, 905, 906, 907, 908, 909, 895, 896, 897, 898, 917, 918, 910] rfl (by decide +kernel)
set_option maxRecDepth 20000 in
theorem gL_law_X6_digest : GoodIn wsL_law (wsV RL 105 RX6 yX6_digest wsX6_digest) := goodIn_app (goodIn_r _ [857, 858, 859, 2] rfl (by decide +kernel)) ggL_law_X6_digest
set_option maxRecDepth 20000 in
theorem ggL_law_X7_digest : GoodIn wsL_law wsX7_digest := goodIn_r _ [867, 868, 869, 74, 853, 854, 855, 5, 856, 76, 106, 408, 409, 410, 411, 597, 598, 599, 600, 546, 547, 548, 549, 550, 551, 552, 553, 554, 555, 556, 557, 558, 559, 560, 879, 880, 881, 882, 883, 884, 885, 886, 887, 888, 889, 890, 891, 892, 893, 894] rfl (by decide +kernel)
set_option maxRecDepth 20000 in
theorem gL_law_X7_digest : GoodIn wsL_law (wsV RL 109 RX7 yX7_digest wsX7_digest) := goodIn_app (goodIn_r _ [864, 865, 866, 5] rfl (by decide +kernel)) ggL_law_X7_digest
