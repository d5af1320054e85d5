/-! ===== the law's words are the tables' ===== -/
theorem mem_pl {big : List Cond} (ws : List Cond) (ps : List Nat) (hp : ws = ps.filterMap (fun i => big[i]?)) : ∀ w ∈ ws, w ∈ big := by
  intro w hw
  rw [hp] at hw
  obtain ⟨i, -, hi⟩ := List.mem_filterMap.mp hw
  exact List.mem_of_getElem? hi
set_option maxRecDepth 20000 in
theorem lawin_wsL_law_r1 : ∀ w ∈ wsL_law_r1, w ∈ lw_tbl := mem_pl wsL_law_r1 [93, 94, 80, 708, 709, 89, 1120, 95, 96, 97, 98, 99, 100, 101, 102, 81, 267, 119, 120, 82, 268, 132, 133, 83] (by decide +kernel)
set_option maxRecDepth 20000 in
theorem lawin_wsL_law_r2 : ∀ w ∈ wsL_law_r2, w ∈ lw_tbl := mem_pl wsL_law_r2 [269, 270, 271, 200, 201, 86, 272, 221, 222, 87, 273, 242, 243, 88, 274, 275, 104, 105, 106, 118, 107, 122, 123, 124] (by decide +kernel)
set_option maxRecDepth 20000 in
theorem lawin_wsL_law_r3 : ∀ w ∈ wsL_law_r3, w ∈ lw_tbl := mem_pl wsL_law_r3 [135, 136, 137, 138, 175, 177, 140, 84, 142, 143, 144, 151, 168, 170, 0, 171, 179, 181, 183, 185, 172, 173, 85, 174] (by decide +kernel)
set_option maxRecDepth 20000 in
theorem lawin_wsL_law_r4 : ∀ w ∈ wsL_law_r4, w ∈ lw_tbl := mem_pl wsL_law_r4 [203, 204, 205, 206, 224, 225, 226, 227, 229, 230, 231, 245, 246, 247, 248, 254, 259, 249, 251, 1, 252, 253, 710, 711] (by decide +kernel)
set_option maxRecDepth 20000 in
theorem lawin_wsL_law_r5 : ∀ w ∈ wsL_law_r5, w ∈ lw_tbl := mem_pl wsL_law_r5 [712, 713, 717, 718, 720, 721, 722, 723, 724, 728, 729, 731, 847, 733, 738, 739, 848, 740, 849, 741, 742, 743, 745, 746] (by decide +kernel)
set_option maxRecDepth 20000 in
theorem lawin_wsL_law_r6 : ∀ w ∈ wsL_law_r6, w ∈ lw_tbl := mem_pl wsL_law_r6 [753, 754, 755, 756, 301, 302, 303, 304, 307, 2, 308, 110, 309, 310, 311, 312, 313, 314, 850, 851, 852, 853, 854, 732] (by decide +kernel)
set_option maxRecDepth 20000 in
theorem lawin_wsL_law_r7 : ∀ w ∈ wsL_law_r7, w ∈ lw_tbl := mem_pl wsL_law_r7 [315, 316, 317, 318, 321, 3, 322, 855, 856, 857, 858, 323, 324, 325, 326, 329, 4, 330, 125, 126, 332, 334, 5, 335] (by decide +kernel)
set_option maxRecDepth 20000 in
theorem lawin_wsL_law_r8 : ∀ w ∈ wsL_law_r8, w ∈ lw_tbl := mem_pl wsL_law_r8 [336, 338, 6, 339, 340, 342, 7, 343, 345, 346, 347, 349, 8, 350, 351, 353, 9, 354, 356, 357, 859, 860, 861, 862] (by decide +kernel)
set_option maxRecDepth 20000 in
theorem lawin_wsL_law_r9 : ∀ w ∈ wsL_law_r9, w ∈ lw_tbl := mem_pl wsL_law_r9 [734, 863, 865, 49, 866, 736, 737, 735, 867, 869, 50, 870, 871, 873, 51, 874, 875, 876, 877, 878, 880, 52, 881, 358] (by decide +kernel)
set_option maxRecDepth 20000 in
theorem lawin_wsL_law_r10 : ∀ w ∈ wsL_law_r10, w ∈ lw_tbl := mem_pl wsL_law_r10 [359, 360, 361, 276, 277, 364, 10, 365, 369, 11, 370, 207, 210, 373, 12, 374, 882, 883, 884, 885, 716, 714, 715, 719] (by decide +kernel)
set_option maxRecDepth 20000 in
theorem lawin_wsL_law_r11 : ∀ w ∈ wsL_law_r11, w ∈ lw_tbl := mem_pl wsL_law_r11 [725, 726, 727, 730, 375, 376, 377, 378, 379, 380, 381, 382, 383, 385, 13, 386, 886, 887, 888, 889, 387, 388, 389, 390] (by decide +kernel)
set_option maxRecDepth 20000 in
theorem lawin_wsL_law_r12 : ∀ w ∈ wsL_law_r12, w ∈ lw_tbl := mem_pl wsL_law_r12 [391, 890, 891, 892, 893, 894, 895, 896, 392, 393, 394, 395, 396, 397, 398, 399, 400, 401, 404, 14, 405, 408, 15, 409] (by decide +kernel)
set_option maxRecDepth 20000 in
theorem lawin_wsL_law_r13 : ∀ w ∈ wsL_law_r13, w ∈ lw_tbl := mem_pl wsL_law_r13 [145, 148, 153, 155, 897, 898, 899, 900, 901, 902, 903, 410, 411, 412, 413, 414, 416, 16, 417, 420, 17, 421, 904, 905] (by decide +kernel)
set_option maxRecDepth 20000 in
theorem lawin_wsL_law_r14 : ∀ w ∈ wsL_law_r14, w ∈ lw_tbl := mem_pl wsL_law_r14 [906, 907, 908, 910, 53, 911, 912, 914, 54, 915, 422, 423, 424, 425, 428, 18, 429, 916, 917, 918, 919, 430, 431, 432] (by decide +kernel)
set_option maxRecDepth 20000 in
theorem lawin_wsL_law_r15 : ∀ w ∈ wsL_law_r15, w ∈ lw_tbl := mem_pl wsL_law_r15 [433, 436, 19, 437, 440, 20, 441, 442, 444, 21, 445, 448, 22, 449, 450, 452, 23, 453, 920, 921, 922, 923, 924, 925] (by decide +kernel)
set_option maxRecDepth 20000 in
theorem lawin_wsL_law_r16 : ∀ w ∈ wsL_law_r16, w ∈ lw_tbl := mem_pl wsL_law_r16 [926, 927, 929, 55, 930, 454, 455, 456, 457, 931, 932, 933, 934, 458, 459, 460, 461, 464, 24, 465, 466, 468, 25, 469] (by decide +kernel)
set_option maxRecDepth 20000 in
theorem lawin_wsL_law_r17 : ∀ w ∈ wsL_law_r17, w ∈ lw_tbl := mem_pl wsL_law_r17 [472, 26, 473, 475, 476, 478, 479, 480, 481, 483, 484, 90, 485, 486, 487, 488, 489, 491, 492, 493, 496, 27, 497, 935] (by decide +kernel)
set_option maxRecDepth 20000 in
theorem lawin_wsL_law_r18 : ∀ w ∈ wsL_law_r18, w ∈ lw_tbl := mem_pl wsL_law_r18 [936, 937, 938, 939, 941, 56, 942, 943, 945, 57, 946, 947, 949, 58, 950, 498, 499, 500, 501, 504, 28, 505, 506, 507] (by decide +kernel)
set_option maxRecDepth 20000 in
theorem lawin_wsL_law_r19 : ∀ w ∈ wsL_law_r19, w ∈ lw_tbl := mem_pl wsL_law_r19 [91, 508, 509, 510, 511, 951, 952, 953, 954, 955, 956, 957, 512, 513, 514, 515, 516, 520, 552, 517, 518, 519, 523, 29] (by decide +kernel)
set_option maxRecDepth 20000 in
theorem lawin_wsL_law_r20 : ∀ w ∈ wsL_law_r20, w ∈ lw_tbl := mem_pl wsL_law_r20 [524, 232, 525, 528, 30, 529, 530, 533, 31, 534, 537, 32, 538, 541, 543, 33, 545, 547, 34, 544, 548, 550, 553, 554] (by decide +kernel)
set_option maxRecDepth 20000 in
theorem lawin_wsL_law_r21 : ∀ w ∈ wsL_law_r21, w ∈ lw_tbl := mem_pl wsL_law_r21 [555, 556, 557, 558, 958, 959, 960, 961, 962, 997, 963, 965, 59, 966, 967, 969, 60, 970, 990, 971, 972, 973, 974, 976] (by decide +kernel)
set_option maxRecDepth 20000 in
theorem lawin_wsL_law_r22 : ∀ w ∈ wsL_law_r22, w ∈ lw_tbl := mem_pl wsL_law_r22 [61, 977, 978, 980, 62, 981, 989, 982, 984, 63, 985, 986, 987, 988, 991, 992, 993, 994, 995, 996, 559, 560, 561, 562] (by decide +kernel)
set_option maxRecDepth 20000 in
theorem lawin_wsL_law_r23 : ∀ w ∈ wsL_law_r23, w ∈ lw_tbl := mem_pl wsL_law_r23 [998, 999, 1000, 1001, 564, 565, 566, 567, 1002, 1003, 1004, 1005, 1006, 1008, 64, 1009, 1010, 1012, 65, 1013, 1014, 1016, 66, 1017] (by decide +kernel)
set_option maxRecDepth 20000 in
theorem lawin_wsL_law_r24 : ∀ w ∈ wsL_law_r24, w ∈ lw_tbl := mem_pl wsL_law_r24 [568, 569, 570, 571, 574, 35, 575, 576, 578, 36, 579, 580, 1018, 1019, 1020, 1021, 1022, 1024, 67, 1025, 581, 582, 583, 584] (by decide +kernel)
set_option maxRecDepth 20000 in
theorem lawin_wsL_law_r25 : ∀ w ∈ wsL_law_r25, w ∈ lw_tbl := mem_pl wsL_law_r25 [585, 586, 587, 590, 37, 591, 592, 1026, 1027, 1028, 1029, 1030, 1032, 68, 1033, 593, 594, 595, 596, 1034, 1035, 1036, 1037, 1038] (by decide +kernel)
set_option maxRecDepth 20000 in
theorem lawin_wsL_law_r26 : ∀ w ∈ wsL_law_r26, w ∈ lw_tbl := mem_pl wsL_law_r26 [1040, 69, 1041, 597, 598, 599, 600, 603, 38, 604, 209, 1042, 1043, 1044, 1045, 605, 606, 607, 608, 611, 39, 612, 1046, 1047] (by decide +kernel)
set_option maxRecDepth 20000 in
theorem lawin_wsL_law_r27 : ∀ w ∈ wsL_law_r27, w ∈ lw_tbl := mem_pl wsL_law_r27 [1048, 1049, 613, 614, 615, 616, 619, 40, 620, 621, 623, 41, 624, 1050, 1051, 1052, 1053, 1054, 1056, 70, 1057, 1058, 1060, 71] (by decide +kernel)
set_option maxRecDepth 20000 in
theorem lawin_wsL_law_r28 : ∀ w ∈ wsL_law_r28, w ∈ lw_tbl := mem_pl wsL_law_r28 [1061, 1062, 1064, 72, 1065, 627, 628, 629, 630, 633, 42, 634, 635, 1066, 1067, 1068, 1069, 636, 637, 638, 639, 642, 43, 643] (by decide +kernel)
set_option maxRecDepth 20000 in
theorem lawin_wsL_law_r29 : ∀ w ∈ wsL_law_r29, w ∈ lw_tbl := mem_pl wsL_law_r29 [648, 650, 649, 92, 646, 44, 647, 653, 45, 654, 655, 656, 657, 658, 659, 660, 661, 662, 663, 664, 665, 666, 667, 668] (by decide +kernel)
set_option maxRecDepth 20000 in
theorem lawin_wsL_law_r30 : ∀ w ∈ wsL_law_r30, w ∈ lw_tbl := mem_pl wsL_law_r30 [671, 46, 672, 1070, 1071, 1072, 1073, 1074, 1076, 73, 1077, 744, 1078, 1080, 74, 1081, 1082, 1084, 75, 1085, 1086, 1087, 1088, 1089] (by decide +kernel)
set_option maxRecDepth 20000 in
theorem lawin_wsL_law_r31 : ∀ w ∈ wsL_law_r31, w ∈ lw_tbl := mem_pl wsL_law_r31 [1090, 1092, 76, 1093, 673, 674, 675, 676, 1094, 1095, 1096, 1097, 747, 748, 749, 750, 751, 752, 677, 678, 679, 680, 1098, 1099] (by decide +kernel)
set_option maxRecDepth 20000 in
theorem lawin_wsL_law_r32 : ∀ w ∈ wsL_law_r32, w ∈ lw_tbl := mem_pl wsL_law_r32 [1100, 1101, 681, 682, 683, 684, 1102, 1103, 1104, 1105, 1106, 1108, 77, 1109, 685, 686, 687, 688, 689, 690, 692, 47, 693, 694] (by decide +kernel)
set_option maxRecDepth 20000 in
theorem lawin_wsL_law_r33 : ∀ w ∈ wsL_law_r33, w ∈ lw_tbl := mem_pl wsL_law_r33 [695, 696, 697, 698, 699, 700, 702, 48, 703, 704, 705, 706, 707, 1110, 1111, 1112, 1113, 1114, 757, 1115, 1117, 78, 1118, 1119] (by decide +kernel)
set_option maxRecDepth 20000 in
theorem lawin_wsX70 : ∀ w ∈ wsX70, w ∈ lw_tbl := mem_pl wsX70 [278, 280, 282, 284, 286, 288, 290, 292, 294, 296, 298] (by decide +kernel)
set_option maxRecDepth 20000 in
theorem lawin_wsX80 : ∀ w ∈ wsX80, w ∈ lw_tbl := mem_pl wsX80 [758, 760, 762, 764, 766, 768, 770, 772, 774, 776, 778, 780, 782, 784, 786, 788, 790, 792, 794, 796, 798, 800, 802, 804, 806, 808, 810, 812, 814, 816, 818, 820, 822, 824, 826, 828, 830, 832, 834, 836, 838, 840, 842, 844] (by decide +kernel)
set_option maxRecDepth 20000 in
theorem lawin_wsX20 : ∀ w ∈ wsX20, w ∈ lw_tbl := mem_pl wsX20 [113, 115] (by decide +kernel)
set_option maxRecDepth 20000 in
theorem lawin_wsX30 : ∀ w ∈ wsX30, w ∈ lw_tbl := mem_pl wsX30 [127, 129] (by decide +kernel)
set_option maxRecDepth 20000 in
theorem lawin_wsX40 : ∀ w ∈ wsX40, w ∈ lw_tbl := mem_pl wsX40 [187, 189, 191, 193, 195, 197] (by decide +kernel)
set_option maxRecDepth 20000 in
theorem lawin_wsX60 : ∀ w ∈ wsX60, w ∈ lw_tbl := mem_pl wsX60 [212, 214, 216, 218] (by decide +kernel)
set_option maxRecDepth 20000 in
theorem lawin_wsX10 : ∀ w ∈ wsX10, w ∈ lw_tbl := mem_pl wsX10 [233, 235, 237, 239] (by decide +kernel)
set_option maxRecDepth 20000 in
theorem lawin_wsX00 : ∀ w ∈ wsX00, w ∈ lw_tbl := mem_pl wsX00 [262, 264] (by decide +kernel)
set_option maxRecDepth 20000 in
theorem lawin_wsX50 : ∀ w ∈ wsX50, w ∈ lw_tbl := mem_pl wsX50 [157, 159, 161, 163, 165] (by decide +kernel)
theorem wsL_law_in : ∀ w ∈ wsL_law, w ∈ lw_tbl := by
  exact List.forall_mem_append.mpr ⟨List.forall_mem_append.mpr ⟨List.forall_mem_append.mpr ⟨List.forall_mem_append.mpr ⟨List.forall_mem_append.mpr ⟨List.forall_mem_append.mpr ⟨List.forall_mem_append.mpr ⟨List.forall_mem_append.mpr ⟨List.forall_mem_append.mpr ⟨List.forall_mem_append.mpr ⟨List.forall_mem_append.mpr ⟨lawin_wsL_law_r1, List.forall_mem_append.mpr ⟨lawin_wsL_law_r2, List.forall_mem_append.mpr ⟨lawin_wsL_law_r3, List.forall_mem_append.mpr ⟨lawin_wsL_law_r4, List.forall_mem_append.mpr ⟨lawin_wsL_law_r5, List.forall_mem_append.mpr ⟨lawin_wsL_law_r6, List.forall_mem_append.mpr ⟨lawin_wsL_law_r7, List.forall_mem_append.mpr ⟨lawin_wsL_law_r8, List.forall_mem_append.mpr ⟨lawin_wsL_law_r9, List.forall_mem_append.mpr ⟨lawin_wsL_law_r10, List.forall_mem_append.mpr ⟨lawin_wsL_law_r11, List.forall_mem_append.mpr ⟨lawin_wsL_law_r12, List.forall_mem_append.mpr ⟨lawin_wsL_law_r13, List.forall_mem_append.mpr ⟨lawin_wsL_law_r14, List.forall_mem_append.mpr ⟨lawin_wsL_law_r15, List.forall_mem_append.mpr ⟨lawin_wsL_law_r16, List.forall_mem_append.mpr ⟨lawin_wsL_law_r17, List.forall_mem_append.mpr ⟨lawin_wsL_law_r18, List.forall_mem_append.mpr ⟨lawin_wsL_law_r19, List.forall_mem_append.mpr ⟨lawin_wsL_law_r20, List.forall_mem_append.mpr ⟨lawin_wsL_law_r21, List.forall_mem_append.mpr ⟨lawin_wsL_law_r22, List.forall_mem_append.mpr ⟨lawin_wsL_law_r23, List.forall_mem_append.mpr ⟨lawin_wsL_law_r24, List.forall_mem_append.mpr ⟨lawin_wsL_law_r25, List.forall_mem_append.mpr ⟨lawin_wsL_law_r26, List.forall_mem_append.mpr ⟨lawin_wsL_law_r27, List.forall_mem_append.mpr ⟨lawin_wsL_law_r28, List.forall_mem_append.mpr ⟨lawin_wsL_law_r29, List.forall_mem_append.mpr ⟨lawin_wsL_law_r30, List.forall_mem_append.mpr ⟨lawin_wsL_law_r31, List.forall_mem_append.mpr ⟨lawin_wsL_law_r32, lawin_wsL_law_r33⟩⟩⟩⟩⟩⟩⟩⟩⟩⟩⟩⟩⟩⟩⟩⟩⟩⟩⟩⟩⟩⟩⟩⟩⟩⟩⟩⟩⟩⟩⟩⟩, lawin_wsX70⟩, lawin_wsX80⟩, lawin_wsX20⟩, lawin_wsX30⟩, lawin_wsX40⟩, lawin_wsX60⟩, lawin_wsX10⟩, lawin_wsX00⟩, lawin_wsX50⟩, fun _ h => absurd h List.not_mem_nil⟩
