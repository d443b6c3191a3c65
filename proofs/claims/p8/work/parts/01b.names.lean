theorem mem_places {big ws : List Cond} (ps : List Nat) (h : ws = ps.filterMap (fun i => big[i]?)) : ∀ w ∈ ws, w ∈ big := by
  intro w hw
  rw [h] at hw
  obtain ⟨i, -, hi⟩ := List.mem_filterMap.mp hw
  exact List.mem_of_getElem? hi
set_option maxRecDepth 20000 in
theorem lin_wsL_law_r1 : ∀ w ∈ wsL_law_r1, w ∈ lw_tbl := mem_places [79, 80, 64, 791, 792, 71, 81, 82, 83, 84, 85, 86, 87, 88, 65, 239, 123, 124, 67, 240, 241, 184, 185, 68] (by decide +kernel)
set_option maxRecDepth 20000 in
theorem lin_wsL_law_r2 : ∀ w ∈ wsL_law_r2, w ∈ lw_tbl := mem_places [242, 243, 195, 196, 69, 244, 90, 91, 92, 93, 94, 66, 109, 96, 97, 98, 108, 99, 126, 127, 128, 183, 153, 155] (by decide +kernel)
set_option maxRecDepth 20000 in
theorem lin_wsL_law_r3 : ∀ w ∈ wsL_law_r3, w ∈ lw_tbl := mem_places [157, 159, 187, 188, 189, 194, 190, 198, 199, 200, 220, 221, 222, 201, 202, 70, 223, 204, 205, 206, 207, 209, 793, 794] (by decide +kernel)
set_option maxRecDepth 20000 in
theorem lin_wsL_law_r4 : ∀ w ∈ wsL_law_r4, w ∈ lw_tbl := mem_places [795, 796, 797, 798, 799, 800, 846, 804, 805, 806, 808, 809, 267, 268, 269, 270, 110, 101, 271, 273, 0, 274, 245, 246] (by decide +kernel)
set_option maxRecDepth 20000 in
theorem lin_wsL_law_r5 : ∀ w ∈ wsL_law_r5, w ∈ lw_tbl := mem_places [247, 275, 276, 277, 278, 100, 847, 848, 849, 850, 801, 851, 852, 853, 854, 856, 34, 857, 279, 280, 281, 282, 858, 859] (by decide +kernel)
set_option maxRecDepth 20000 in
theorem lin_wsL_law_r6 : ∀ w ∈ wsL_law_r6, w ∈ lw_tbl := mem_places [860, 861, 283, 284, 285, 286, 287, 288, 289, 290, 112, 113, 111, 291, 293, 1, 294, 102, 295, 296, 297, 298, 299, 300] (by decide +kernel)
set_option maxRecDepth 20000 in
theorem lin_wsL_law_r7 : ∀ w ∈ wsL_law_r7, w ∈ lw_tbl := mem_places [301, 302, 304, 2, 305, 307, 309, 3, 310, 311, 313, 4, 314, 315, 316, 317, 72, 318, 1085, 319, 320, 321, 322, 323] (by decide +kernel)
set_option maxRecDepth 20000 in
theorem lin_wsL_law_r8 : ∀ w ∈ wsL_law_r8, w ∈ lw_tbl := mem_places [1086, 325, 326, 327, 328, 329, 330, 331, 332, 333, 334, 73, 335, 336, 337, 338, 339, 341, 342, 74, 343, 344, 345, 75] (by decide +kernel)
set_option maxRecDepth 20000 in
theorem lin_wsL_law_r9 : ∀ w ∈ wsL_law_r9, w ∈ lw_tbl := mem_places [346, 347, 348, 349, 350, 351, 352, 353, 354, 355, 356, 357, 359, 361, 363, 365, 5, 366, 367, 368, 369, 370, 129, 132] (by decide +kernel)
set_option maxRecDepth 20000 in
theorem lin_wsL_law_r10 : ∀ w ∈ wsL_law_r10, w ∈ lw_tbl := mem_places [136, 140, 371, 373, 6, 374, 375, 377, 7, 378, 380, 382, 8, 383, 384, 386, 9, 387, 388, 389, 390, 399, 400, 401] (by decide +kernel)
set_option maxRecDepth 20000 in
theorem lin_wsL_law_r11 : ∀ w ∈ wsL_law_r11, w ∈ lw_tbl := mem_places [402, 403, 404, 405, 406, 408, 409, 410, 411, 413, 10, 414, 416, 417, 418, 419, 420, 422, 11, 423, 134, 425, 427, 12] (by decide +kernel)
set_option maxRecDepth 20000 in
theorem lin_wsL_law_r12 : ∀ w ∈ wsL_law_r12, w ∈ lw_tbl := mem_places [428, 429, 430, 431, 436, 437, 438, 439, 144, 147, 150, 440, 441, 442, 443, 444, 445, 446, 447, 448, 450, 451, 452, 453] (by decide +kernel)
set_option maxRecDepth 20000 in
theorem lin_wsL_law_r13 : ∀ w ∈ wsL_law_r13, w ∈ lw_tbl := mem_places [454, 455, 456, 457, 458, 459, 460, 461, 462, 463, 464, 465, 466, 467, 469, 13, 470, 139, 471, 472, 473, 474, 131, 475] (by decide +kernel)
set_option maxRecDepth 20000 in
theorem lin_wsL_law_r14 : ∀ w ∈ wsL_law_r14, w ∈ lw_tbl := mem_places [137, 477, 478, 480, 14, 481, 488, 482, 483, 485, 15, 486, 487, 489, 490, 491, 492, 224, 225, 862, 863, 864, 865, 802] (by decide +kernel)
set_option maxRecDepth 20000 in
theorem lin_wsL_law_r15 : ∀ w ∈ wsL_law_r15, w ∈ lw_tbl := mem_places [866, 868, 35, 869, 803, 870, 872, 36, 873, 874, 876, 37, 877, 878, 880, 38, 881, 882, 884, 39, 885, 886, 888, 40] (by decide +kernel)
set_option maxRecDepth 20000 in
theorem lin_wsL_law_r16 : ∀ w ∈ wsL_law_r16, w ∈ lw_tbl := mem_places [889, 890, 891, 892, 893, 895, 41, 896, 897, 899, 42, 900, 901, 903, 43, 904, 905, 907, 44, 908, 493, 494, 495, 496] (by decide +kernel)
set_option maxRecDepth 20000 in
theorem lin_wsL_law_r17 : ∀ w ∈ wsL_law_r17, w ∈ lw_tbl := mem_places [154, 497, 499, 16, 500, 130, 501, 502, 503, 504, 505, 507, 17, 508, 509, 510, 909, 910, 911, 912, 913, 915, 45, 916] (by decide +kernel)
set_option maxRecDepth 20000 in
theorem lin_wsL_law_r18 : ∀ w ∈ wsL_law_r18, w ∈ lw_tbl := mem_places [917, 919, 46, 920, 921, 923, 47, 924, 511, 512, 513, 514, 156, 158, 515, 517, 18, 518, 519, 521, 19, 522, 135, 523] (by decide +kernel)
set_option maxRecDepth 20000 in
theorem lin_wsL_law_r19 : ∀ w ∈ wsL_law_r19, w ∈ lw_tbl := mem_places [925, 926, 927, 928, 524, 525, 526, 527, 528, 529, 530, 531, 532, 533, 929, 930, 931, 932, 534, 535, 536, 537, 146, 149] (by decide +kernel)
set_option maxRecDepth 20000 in
theorem lin_wsL_law_r20 : ∀ w ∈ wsL_law_r20, w ∈ lw_tbl := mem_places [152, 538, 540, 20, 541, 143, 542, 933, 934, 935, 936, 543, 544, 545, 546, 547, 548, 549, 550, 937, 938, 939, 940, 941] (by decide +kernel)
set_option maxRecDepth 20000 in
theorem lin_wsL_law_r21 : ∀ w ∈ wsL_law_r21, w ∈ lw_tbl := mem_places [943, 48, 944, 945, 946, 947, 948, 950, 49, 951, 551, 552, 553, 554, 555, 556, 557, 558, 559, 563, 564, 560, 561, 562] (by decide +kernel)
set_option maxRecDepth 20000 in
theorem lin_wsL_law_r22 : ∀ w ∈ wsL_law_r22, w ∈ lw_tbl := mem_places [952, 953, 954, 955, 956, 957, 958, 959, 960, 961, 962, 963, 565, 566, 567, 568, 569, 571, 21, 572, 573, 574, 575, 576] (by decide +kernel)
set_option maxRecDepth 20000 in
theorem lin_wsL_law_r23 : ∀ w ∈ wsL_law_r23, w ∈ lw_tbl := mem_places [142, 577, 578, 579, 580, 581, 582, 583, 584, 585, 964, 965, 966, 967, 968, 970, 50, 971, 972, 974, 51, 975, 976, 978] (by decide +kernel)
set_option maxRecDepth 20000 in
theorem lin_wsL_law_r24 : ∀ w ∈ wsL_law_r24, w ∈ lw_tbl := mem_places [52, 979, 980, 981, 982, 983, 985, 53, 986, 586, 587, 588, 589, 590, 592, 22, 593, 594, 595, 987, 988, 989, 990, 596] (by decide +kernel)
set_option maxRecDepth 20000 in
theorem lin_wsL_law_r25 : ∀ w ∈ wsL_law_r25, w ∈ lw_tbl := mem_places [597, 598, 599, 600, 601, 602, 603, 604, 606, 23, 607, 608, 609, 610, 611, 612, 613, 991, 992, 993, 994, 995, 997, 54] (by decide +kernel)
set_option maxRecDepth 20000 in
theorem lin_wsL_law_r26 : ∀ w ∈ wsL_law_r26, w ∈ lw_tbl := mem_places [998, 614, 615, 616, 617, 999, 1000, 1001, 1002, 618, 619, 620, 621, 622, 624, 24, 625, 626, 627, 628, 629, 212, 138, 630] (by decide +kernel)
set_option maxRecDepth 20000 in
theorem lin_wsL_law_r27 : ∀ w ∈ wsL_law_r27, w ∈ lw_tbl := mem_places [632, 25, 633, 141, 634, 636, 637, 638, 639, 640, 641, 211, 642, 644, 26, 645, 647, 649, 27, 650, 651, 653, 652, 76] (by decide +kernel)
set_option maxRecDepth 20000 in
theorem lin_wsL_law_r28 : ∀ w ∈ wsL_law_r28, w ∈ lw_tbl := mem_places [655, 657, 28, 658, 659, 661, 29, 662, 148, 145, 151, 663, 666, 668, 670, 30, 671, 133, 687, 689, 691, 693, 672, 673] (by decide +kernel)
set_option maxRecDepth 20000 in
theorem lin_wsL_law_r29 : ∀ w ∈ wsL_law_r29, w ∈ lw_tbl := mem_places [674, 675, 676, 677, 678, 679, 680, 681, 682, 683, 684, 685, 686, 695, 697, 31, 698, 208, 210, 700, 1003, 1004, 1005, 1006] (by decide +kernel)
set_option maxRecDepth 20000 in
theorem lin_wsL_law_r30 : ∀ w ∈ wsL_law_r30, w ∈ lw_tbl := mem_places [807, 1007, 1009, 55, 1010, 812, 1011, 1013, 56, 1014, 810, 1019, 1015, 1017, 57, 1018, 1020, 1022, 58, 1023, 1024, 1026, 59, 1027] (by decide +kernel)
set_option maxRecDepth 20000 in
theorem lin_wsL_law_r31 : ∀ w ∈ wsL_law_r31, w ∈ lw_tbl := mem_places [1028, 1030, 60, 1031, 1032, 701, 702, 703, 704, 705, 707, 32, 708, 1033, 1034, 1035, 1036, 1037, 1039, 61, 1040, 709, 710, 711] (by decide +kernel)
set_option maxRecDepth 20000 in
theorem lin_wsL_law_r32 : ∀ w ∈ wsL_law_r32, w ∈ lw_tbl := mem_places [712, 713, 714, 1041, 1042, 1043, 1044, 715, 716, 717, 718, 719, 720, 721, 722, 723, 724, 77, 725, 726, 727, 728, 729, 730] (by decide +kernel)
set_option maxRecDepth 20000 in
theorem lin_wsL_law_r33 : ∀ w ∈ wsL_law_r33, w ∈ lw_tbl := mem_places [731, 78, 732, 733, 734, 735, 736, 737, 738, 739, 1045, 1046, 1047, 1048, 1049, 1050, 1051, 740, 741, 742, 743, 744, 745, 746] (by decide +kernel)
set_option maxRecDepth 20000 in
theorem lin_wsL_law_r34 : ∀ w ∈ wsL_law_r34, w ∈ lw_tbl := mem_places [747, 748, 750, 33, 751, 752, 753, 754, 1052, 1053, 1054, 1055, 1056, 1057, 1058, 755, 756, 757, 758, 759, 760, 761, 762, 763] (by decide +kernel)
set_option maxRecDepth 20000 in
theorem lin_wsL_law_r35 : ∀ w ∈ wsL_law_r35, w ∈ lw_tbl := mem_places [1059, 1060, 1061, 1062, 764, 765, 766, 767, 768, 769, 770, 771, 1063, 1064, 1065, 1066, 772, 773, 774, 775, 776, 777, 778, 779] (by decide +kernel)
set_option maxRecDepth 20000 in
theorem lin_wsL_law_r36 : ∀ w ∈ wsL_law_r36, w ∈ lw_tbl := mem_places [1067, 1068, 1069, 1070, 811, 780, 781, 782, 783, 1071, 1072, 1073, 1074, 1075, 1077, 62, 1078, 784, 785, 786, 787, 788, 789, 790] (by decide +kernel)
set_option maxRecDepth 20000 in
theorem lin_wsL_law_r37 : ∀ w ∈ wsL_law_r37, w ∈ lw_tbl := mem_places [1079, 1080, 1081, 1082, 1083, 1084] (by decide +kernel)
set_option maxRecDepth 20000 in
theorem lin_wsX60 : ∀ w ∈ wsX60, w ∈ lw_tbl := mem_places [248, 250, 252, 254, 256, 258, 260, 262, 264] (by decide +kernel)
set_option maxRecDepth 20000 in
theorem lin_wsX70 : ∀ w ∈ wsX70, w ∈ lw_tbl := mem_places [813, 815, 817, 819, 821, 823, 825, 827, 829, 831, 833, 835, 837, 839, 841, 843] (by decide +kernel)
set_option maxRecDepth 20000 in
theorem lin_wsX30 : ∀ w ∈ wsX30, w ∈ lw_tbl := mem_places [114, 116, 118, 120] (by decide +kernel)
set_option maxRecDepth 20000 in
theorem lin_wsX00 : ∀ w ∈ wsX00, w ∈ lw_tbl := mem_places [160, 162, 164, 166, 168, 170, 172, 174, 176, 178, 180] (by decide +kernel)
set_option maxRecDepth 20000 in
theorem lin_wsX10 : ∀ w ∈ wsX10, w ∈ lw_tbl := mem_places [191] (by decide +kernel)
set_option maxRecDepth 20000 in
theorem lin_wsX40 : ∀ w ∈ wsX40, w ∈ lw_tbl := mem_places [226, 228, 230, 232, 234, 236] (by decide +kernel)
set_option maxRecDepth 20000 in
theorem lin_wsX50 : ∀ w ∈ wsX50, w ∈ lw_tbl := mem_places [103, 105] (by decide +kernel)
set_option maxRecDepth 20000 in
theorem lin_wsX20 : ∀ w ∈ wsX20, w ∈ lw_tbl := mem_places [213, 215, 217] (by decide +kernel)
theorem wsL_law_in : ∀ w ∈ wsL_law, w ∈ lw_tbl := (List.forall_mem_append.mpr ⟨(List.forall_mem_append.mpr ⟨(List.forall_mem_append.mpr ⟨(List.forall_mem_append.mpr ⟨(List.forall_mem_append.mpr ⟨(List.forall_mem_append.mpr ⟨(List.forall_mem_append.mpr ⟨(List.forall_mem_append.mpr ⟨(List.forall_mem_append.mpr ⟨(List.forall_mem_append.mpr ⟨lin_wsL_law_r1, (List.forall_mem_append.mpr ⟨lin_wsL_law_r2, (List.forall_mem_append.mpr ⟨lin_wsL_law_r3, (List.forall_mem_append.mpr ⟨lin_wsL_law_r4, (List.forall_mem_append.mpr ⟨lin_wsL_law_r5, (List.forall_mem_append.mpr ⟨lin_wsL_law_r6, (List.forall_mem_append.mpr ⟨lin_wsL_law_r7, (List.forall_mem_append.mpr ⟨lin_wsL_law_r8, (List.forall_mem_append.mpr ⟨lin_wsL_law_r9, (List.forall_mem_append.mpr ⟨lin_wsL_law_r10, (List.forall_mem_append.mpr ⟨lin_wsL_law_r11, (List.forall_mem_append.mpr ⟨lin_wsL_law_r12, (List.forall_mem_append.mpr ⟨lin_wsL_law_r13, (List.forall_mem_append.mpr ⟨lin_wsL_law_r14, (List.forall_mem_append.mpr ⟨lin_wsL_law_r15, (List.forall_mem_append.mpr ⟨lin_wsL_law_r16, (List.forall_mem_append.mpr ⟨lin_wsL_law_r17, (List.forall_mem_append.mpr ⟨lin_wsL_law_r18, (List.forall_mem_append.mpr ⟨lin_wsL_law_r19, (List.forall_mem_append.mpr ⟨lin_wsL_law_r20, (List.forall_mem_append.mpr ⟨lin_wsL_law_r21, (List.forall_mem_append.mpr ⟨lin_wsL_law_r22, (List.forall_mem_append.mpr ⟨lin_wsL_law_r23, (List.forall_mem_append.mpr ⟨lin_wsL_law_r24, (List.forall_mem_append.mpr ⟨lin_wsL_law_r25, (List.forall_mem_append.mpr ⟨lin_wsL_law_r26, (List.forall_mem_append.mpr ⟨lin_wsL_law_r27, (List.forall_mem_append.mpr ⟨lin_wsL_law_r28, (List.forall_mem_append.mpr ⟨lin_wsL_law_r29, (List.forall_mem_append.mpr ⟨lin_wsL_law_r30, (List.forall_mem_append.mpr ⟨lin_wsL_law_r31, (List.forall_mem_append.mpr ⟨lin_wsL_law_r32, (List.forall_mem_append.mpr ⟨lin_wsL_law_r33, (List.forall_mem_append.mpr ⟨lin_wsL_law_r34, (List.forall_mem_append.mpr ⟨lin_wsL_law_r35, (List.forall_mem_append.mpr ⟨lin_wsL_law_r36, lin_wsL_law_r37⟩)⟩)⟩)⟩)⟩)⟩)⟩)⟩)⟩)⟩)⟩)⟩)⟩)⟩)⟩)⟩)⟩)⟩)⟩)⟩)⟩)⟩)⟩)⟩)⟩)⟩)⟩)⟩)⟩)⟩)⟩)⟩)⟩)⟩)⟩)⟩), lin_wsX60⟩), lin_wsX70⟩), lin_wsX30⟩), lin_wsX00⟩), lin_wsX10⟩), lin_wsX40⟩), lin_wsX50⟩), lin_wsX20⟩), (fun _ h => absurd h List.not_mem_nil)⟩)
theorem inlX0 : ∀ w ∈ wsX00, w ∈ wsL_law := fun _ h => List.mem_append_left _ (List.mem_append_left _ (List.mem_append_left _ (List.mem_append_left _ (List.mem_append_left _ (List.mem_append_right _ h)))))
theorem inX0 : ∀ w ∈ wsX00, w ∈ lw_tbl := fun w h => wsL_law_in w (inlX0 w h)
theorem inlX1 : ∀ w ∈ wsX10, w ∈ wsL_law := fun _ h => List.mem_append_left _ (List.mem_append_left _ (List.mem_append_left _ (List.mem_append_left _ (List.mem_append_right _ h))))
theorem inX1 : ∀ w ∈ wsX10, w ∈ lw_tbl := fun w h => wsL_law_in w (inlX1 w h)
theorem inlX2 : ∀ w ∈ wsX20, w ∈ wsL_law := fun _ h => List.mem_append_left _ (List.mem_append_right _ h)
theorem inX2 : ∀ w ∈ wsX20, w ∈ lw_tbl := fun w h => wsL_law_in w (inlX2 w h)
theorem inlX3 : ∀ w ∈ wsX30, w ∈ wsL_law := fun _ h => List.mem_append_left _ (List.mem_append_left _ (List.mem_append_left _ (List.mem_append_left _ (List.mem_append_left _ (List.mem_append_left _ (List.mem_append_right _ h))))))
theorem inX3 : ∀ w ∈ wsX30, w ∈ lw_tbl := fun w h => wsL_law_in w (inlX3 w h)
theorem inlX4 : ∀ w ∈ wsX40, w ∈ wsL_law := fun _ h => List.mem_append_left _ (List.mem_append_left _ (List.mem_append_left _ (List.mem_append_right _ h)))
theorem inX4 : ∀ w ∈ wsX40, w ∈ lw_tbl := fun w h => wsL_law_in w (inlX4 w h)
theorem inlX5 : ∀ w ∈ wsX50, w ∈ wsL_law := fun _ h => List.mem_append_left _ (List.mem_append_left _ (List.mem_append_right _ h))
theorem inX5 : ∀ w ∈ wsX50, w ∈ lw_tbl := fun w h => wsL_law_in w (inlX5 w h)
theorem inlX6 : ∀ w ∈ wsX60, w ∈ wsL_law := fun _ h => List.mem_append_left _ (List.mem_append_left _ (List.mem_append_left _ (List.mem_append_left _ (List.mem_append_left _ (List.mem_append_left _ (List.mem_append_left _ (List.mem_append_left _ (List.mem_append_right _ h))))))))
theorem inX6 : ∀ w ∈ wsX60, w ∈ lw_tbl := fun w h => wsL_law_in w (inlX6 w h)
theorem inlX7 : ∀ w ∈ wsX70, w ∈ wsL_law := fun _ h => List.mem_append_left _ (List.mem_append_left _ (List.mem_append_left _ (List.mem_append_left _ (List.mem_append_left _ (List.mem_append_left _ (List.mem_append_left _ (List.mem_append_right _ h)))))))
theorem inX7 : ∀ w ∈ wsX70, w ∈ lw_tbl := fun w h => wsL_law_in w (inlX7 w h)
theorem inJ6 : ∀ w ∈ wsJ60, w ∈ lw_tbl := by decide +kernel
theorem inJ9 : ∀ w ∈ wsJ90, w ∈ lw_tbl := by decide +kernel
theorem inJ0 : ∀ w ∈ wsJ00, w ∈ lw_tbl := by decide +kernel
theorem inJ1 : ∀ w ∈ wsJ10, w ∈ lw_tbl := by decide +kernel
theorem inJ2 : ∀ w ∈ wsJ20, w ∈ lw_tbl := by decide +kernel
theorem inJ10 : ∀ w ∈ wsJ100, w ∈ lw_tbl := by decide +kernel
theorem inJ3 : ∀ w ∈ wsJ30, w ∈ lw_tbl := by decide +kernel
abbrev vwCl : List vw_C := [(RX0, TX0, 11), (RX1, TX1, 1), (RX2, TX2, 3), (RX3, TX3, 4), (RX4, TX4, 6), (RX5, TX5, 2), (RX6, TX6, 9), (RX7, TX7, 16)]
