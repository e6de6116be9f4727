theorem mem_pos {big ws : List Cond} (ps : List Nat) (hp : ws = ps.filterMap (fun i => big[i]?)) : ∀ w ∈ ws, w ∈ big := by
  intro w hw
  rw [hp] at hw
  obtain ⟨i, -, hi⟩ := List.mem_filterMap.mp hw
  exact List.mem_of_getElem? hi
set_option maxRecDepth 20000 in
theorem in_wsL_law_r1 : ∀ w ∈ wsL_law_r1, w ∈ lw_tbl := mem_pos [72, 73, 57, 750, 751, 62, 74, 75, 76, 77, 78, 79, 80, 171, 82, 172, 84, 85, 58, 173, 109, 110, 59, 174] rfl
set_option maxRecDepth 20000 in
theorem in_wsL_law_r2 : ∀ w ∈ wsL_law_r2, w ∈ lw_tbl := mem_pos [123, 124, 60, 175, 153, 61, 87, 88, 89, 108, 90, 92, 94, 96, 112, 113, 114, 126, 127, 128, 129, 130, 131, 155] rfl
set_option maxRecDepth 20000 in
theorem in_wsL_law_r3 : ∀ w ∈ wsL_law_r3, w ∈ lw_tbl := mem_pos [156, 157, 158, 752, 753, 754, 755, 758, 847, 762, 763, 764, 848, 765, 766, 767, 770, 771, 772, 773, 774, 780, 781, 782] rfl
set_option maxRecDepth 20000 in
theorem in_wsL_law_r4 : ∀ w ∈ wsL_law_r4, w ∈ lw_tbl := mem_pos [783, 784, 785, 205, 206, 207, 208, 209, 177, 214, 215, 210, 212, 0, 213, 181, 216, 218, 1, 219, 178, 346, 220, 334] rfl
set_option maxRecDepth 20000 in
theorem in_wsL_law_r5 : ∀ w ∈ wsL_law_r5, w ∈ lw_tbl := mem_pos [338, 231, 179, 221, 222, 63, 223, 224, 230, 225, 226, 227, 228, 229, 232, 234, 2, 235, 180, 236, 64, 237, 238, 239] rfl
set_option maxRecDepth 20000 in
theorem in_wsL_law_r6 : ∀ w ∈ wsL_law_r6, w ∈ lw_tbl := mem_pos [240, 241, 243, 245, 254, 255, 65, 256, 257, 258, 259, 858, 859, 860, 861, 865, 756, 866, 867, 862, 863, 864, 854, 856] rfl
set_option maxRecDepth 20000 in
theorem in_wsL_law_r7 : ∀ w ∈ wsL_law_r7, w ∈ lw_tbl := mem_pos [23, 857, 769, 868, 870, 24, 871, 757, 884, 901, 872, 874, 25, 875, 876, 878, 26, 879, 880, 881, 882, 883, 885, 887] rfl
set_option maxRecDepth 20000 in
theorem in_wsL_law_r8 : ∀ w ∈ wsL_law_r8, w ∈ lw_tbl := mem_pos [27, 888, 889, 890, 891, 892, 893, 894, 895, 896, 897, 898, 899, 900, 902, 904, 28, 905, 768, 759, 760, 761, 906, 907] rfl
set_option maxRecDepth 20000 in
theorem in_wsL_law_r9 : ∀ w ∈ wsL_law_r9, w ∈ lw_tbl := mem_pos [908, 260, 261, 262, 263, 264, 265, 266, 267, 268, 269, 270, 271, 272, 909, 910, 911, 912, 913, 914, 915, 273, 274, 275] rfl
set_option maxRecDepth 20000 in
theorem in_wsL_law_r10 : ∀ w ∈ wsL_law_r10, w ∈ lw_tbl := mem_pos [276, 277, 278, 279, 280, 281, 282, 283, 284, 285, 287, 3, 288, 289, 291, 4, 292, 293, 294, 295, 66, 296, 337, 298] rfl
set_option maxRecDepth 20000 in
theorem in_wsL_law_r11 : ∀ w ∈ wsL_law_r11, w ∈ lw_tbl := mem_pos [299, 300, 301, 302, 303, 916, 917, 918, 919, 920, 921, 922, 923, 925, 29, 926, 927, 928, 929, 930, 932, 30, 933, 934] rfl
set_option maxRecDepth 20000 in
theorem in_wsL_law_r12 : ∀ w ∈ wsL_law_r12, w ∈ lw_tbl := mem_pos [936, 31, 937, 938, 940, 32, 941, 942, 944, 33, 945, 304, 305, 306, 307, 321, 326, 327, 362, 308, 309, 310, 311, 312] rfl
set_option maxRecDepth 20000 in
theorem in_wsL_law_r13 : ∀ w ∈ wsL_law_r13, w ∈ lw_tbl := mem_pos [313, 314, 316, 5, 317, 318, 319, 320, 322, 324, 6, 325, 336, 328, 329, 330, 331, 333, 335, 339, 341, 343, 345, 332] rfl
set_option maxRecDepth 20000 in
theorem in_wsL_law_r14 : ∀ w ∈ wsL_law_r14, w ∈ lw_tbl := mem_pos [946, 947, 948, 949, 950, 951, 363, 364, 365, 366, 367, 952, 953, 954, 955, 853, 368, 369, 370, 371, 372, 374, 7, 375] rfl
set_option maxRecDepth 20000 in
theorem in_wsL_law_r15 : ∀ w ∈ wsL_law_r15, w ∈ lw_tbl := mem_pos [376, 956, 957, 958, 959, 960, 962, 34, 963, 377, 378, 379, 380, 340, 342, 344, 381, 382, 383, 68, 384, 488, 485, 385] rfl
set_option maxRecDepth 20000 in
theorem in_wsL_law_r16 : ∀ w ∈ wsL_law_r16, w ∈ lw_tbl := mem_pos [964, 965, 966, 967, 386, 387, 388, 389, 390, 392, 8, 393, 176, 394, 395, 67, 397, 398, 399, 400, 401, 413, 414, 415] rfl
set_option maxRecDepth 20000 in
theorem in_wsL_law_r17 : ∀ w ∈ wsL_law_r17, w ∈ lw_tbl := mem_pos [416, 403, 402, 417, 418, 419, 420, 421, 422, 423, 424, 425, 426, 427, 428, 429, 430, 968, 969, 970, 971, 972, 974, 35] rfl
set_option maxRecDepth 20000 in
theorem in_wsL_law_r18 : ∀ w ∈ wsL_law_r18, w ∈ lw_tbl := mem_pos [975, 976, 978, 36, 979, 775, 776, 777, 980, 982, 37, 983, 984, 986, 38, 987, 988, 990, 39, 991, 992, 994, 40, 995] rfl
set_option maxRecDepth 20000 in
theorem in_wsL_law_r19 : ∀ w ∈ wsL_law_r19, w ∈ lw_tbl := mem_pos [431, 432, 433, 434, 435, 437, 9, 438, 439, 441, 10, 442, 443, 444, 445, 446, 447, 996, 997, 998, 999, 448, 449, 450] rfl
set_option maxRecDepth 20000 in
theorem in_wsL_law_r20 : ∀ w ∈ wsL_law_r20, w ∈ lw_tbl := mem_pos [451, 452, 454, 11, 455, 456, 458, 12, 459, 477, 478, 460, 461, 462, 463, 464, 466, 13, 467, 468, 470, 14, 471, 472] rfl
set_option maxRecDepth 20000 in
theorem in_wsL_law_r21 : ∀ w ∈ wsL_law_r21, w ∈ lw_tbl := mem_pos [473, 474, 475, 476, 479, 480, 481, 482, 483, 1000, 1001, 1002, 1003, 1004, 1006, 41, 1007, 778, 779, 1008, 1010, 42, 1011, 498] rfl
set_option maxRecDepth 20000 in
theorem in_wsL_law_r22 : ∀ w ∈ wsL_law_r22, w ∈ lw_tbl := mem_pos [499, 500, 501, 484, 1012, 1013, 1014, 1015, 1016, 1018, 43, 1019, 1020, 1022, 44, 1023, 502, 503, 504, 505, 1024, 1025, 1026, 1027] rfl
set_option maxRecDepth 20000 in
theorem in_wsL_law_r23 : ∀ w ∈ wsL_law_r23, w ∈ lw_tbl := mem_pos [506, 507, 508, 509, 510, 511, 512, 513, 514, 1028, 1029, 1030, 1031, 1032, 515, 516, 517, 518, 519, 520, 521, 522, 1033, 1034] rfl
set_option maxRecDepth 20000 in
theorem in_wsL_law_r24 : ∀ w ∈ wsL_law_r24, w ∈ lw_tbl := mem_pos [1035, 1036, 523, 524, 525, 526, 527, 528, 529, 530, 486, 531, 115, 489, 116, 532, 533, 534, 535, 536, 537, 538, 539, 540] rfl
set_option maxRecDepth 20000 in
theorem in_wsL_law_r25 : ∀ w ∈ wsL_law_r25, w ∈ lw_tbl := mem_pos [541, 542, 1037, 1038, 1039, 1040, 1041, 1043, 45, 1044, 543, 544, 545, 546, 117, 547, 548, 549, 550, 551, 552, 553, 554, 555] rfl
set_option maxRecDepth 20000 in
theorem in_wsL_law_r26 : ∀ w ∈ wsL_law_r26, w ∈ lw_tbl := mem_pos [556, 1045, 1046, 1047, 1048, 1049, 1050, 1051, 1052, 1053, 1054, 557, 558, 559, 560, 91, 561, 562, 563, 564, 565, 566, 567, 568] rfl
set_option maxRecDepth 20000 in
theorem in_wsL_law_r27 : ∀ w ∈ wsL_law_r27, w ∈ lw_tbl := mem_pos [569, 570, 95, 571, 572, 69, 573, 574, 575, 576, 577, 578, 579, 580, 581, 583, 15, 584, 585, 586, 587, 490, 588, 589] rfl
set_option maxRecDepth 20000 in
theorem in_wsL_law_r28 : ∀ w ∈ wsL_law_r28, w ∈ lw_tbl := mem_pos [590, 591, 592, 593, 487, 594, 1055, 1056, 1057, 1058, 1059, 1061, 46, 1062, 1063, 1065, 47, 1066, 1067, 1068, 1070, 48, 1071, 1072] rfl
set_option maxRecDepth 20000 in
theorem in_wsL_law_r29 : ∀ w ∈ wsL_law_r29, w ∈ lw_tbl := mem_pos [1073, 1074, 1075, 1077, 49, 1078, 595, 596, 597, 598, 599, 600, 601, 602, 603, 604, 605, 606, 607, 608, 609, 1079, 1080, 1081] rfl
set_option maxRecDepth 20000 in
theorem in_wsL_law_r30 : ∀ w ∈ wsL_law_r30, w ∈ lw_tbl := mem_pos [1082, 1083, 1084, 1085, 610, 611, 612, 613, 614, 616, 16, 617, 93, 618, 619, 620, 621, 622, 623, 70, 624, 1086, 1087, 1088] rfl
set_option maxRecDepth 20000 in
theorem in_wsL_law_r31 : ∀ w ∈ wsL_law_r31, w ∈ lw_tbl := mem_pos [1089, 1090, 1092, 50, 1093, 1094, 1096, 51, 1097, 1098, 625, 626, 627, 628, 629, 630, 631, 632, 633, 634, 635, 636, 637, 638] rfl
set_option maxRecDepth 20000 in
theorem in_wsL_law_r32 : ∀ w ∈ wsL_law_r32, w ∈ lw_tbl := mem_pos [639, 1099, 1100, 1101, 1102, 1103, 1105, 52, 1106, 1107, 1108, 1109, 640, 641, 642, 643, 644, 645, 646, 647, 648, 649, 650, 651] rfl
set_option maxRecDepth 20000 in
theorem in_wsL_law_r33 : ∀ w ∈ wsL_law_r33, w ∈ lw_tbl := mem_pos [652, 653, 654, 655, 656, 657, 1110, 1111, 1112, 1113, 1114, 1115, 658, 659, 660, 661, 135, 662, 663, 664, 665, 666, 667, 669] rfl
set_option maxRecDepth 20000 in
theorem in_wsL_law_r34 : ∀ w ∈ wsL_law_r34, w ∈ lw_tbl := mem_pos [17, 670, 671, 133, 132, 682, 683, 684, 672, 674, 18, 675, 136, 134, 676, 677, 679, 19, 680, 681, 685, 687, 20, 688] rfl
set_option maxRecDepth 20000 in
theorem in_wsL_law_r35 : ∀ w ∈ wsL_law_r35, w ∈ lw_tbl := mem_pos [1116, 1117, 1118, 1119, 1120, 1122, 53, 1123, 1124, 1126, 54, 1127, 1128, 1130, 55, 1131, 1132, 1133, 1134, 689, 690, 691, 692, 137] rfl
set_option maxRecDepth 20000 in
theorem in_wsL_law_r36 : ∀ w ∈ wsL_law_r36, w ∈ lw_tbl := mem_pos [1135, 1136, 1137, 1138, 693, 694, 695, 696, 163, 697, 699, 21, 700, 701, 702, 703, 704, 160, 162, 705, 1139, 1140, 1141, 1142] rfl
set_option maxRecDepth 20000 in
theorem in_wsL_law_r37 : ∀ w ∈ wsL_law_r37, w ∈ lw_tbl := mem_pos [1143, 1144, 1145, 706, 707, 708, 709, 714, 710, 711, 712, 713, 715, 716, 717, 718, 719, 720, 721, 722, 1146, 1147, 1148, 1149] rfl
set_option maxRecDepth 20000 in
theorem in_wsL_law_r38 : ∀ w ∈ wsL_law_r38, w ∈ lw_tbl := mem_pos [1150, 723, 724, 725, 726, 161, 159, 727, 729, 728, 71, 1151, 1152, 1153, 1154, 730, 731, 732, 733, 734, 735, 736, 737, 1155] rfl
set_option maxRecDepth 20000 in
theorem in_wsL_law_r39 : ∀ w ∈ wsL_law_r39, w ∈ lw_tbl := mem_pos [1156, 1157, 1158, 738, 739, 740, 741, 242, 244, 246, 849, 850, 851, 852, 742, 743, 744, 745, 746, 748, 22, 749, 1159, 1160] rfl
set_option maxRecDepth 20000 in
theorem in_wsL_law_r40 : ∀ w ∈ wsL_law_r40, w ∈ lw_tbl := mem_pos [1161, 1162] rfl
set_option maxRecDepth 20000 in
theorem inX0 : ∀ w ∈ u_ws RX0 TX0 7, w ∈ lw_tbl := by decide +kernel
set_option maxRecDepth 20000 in
theorem inX1 : ∀ w ∈ u_ws RX1 TX1 0, w ∈ lw_tbl := by decide +kernel
set_option maxRecDepth 20000 in
theorem inX2 : ∀ w ∈ u_ws RX2 TX2 5, w ∈ lw_tbl := by decide +kernel
set_option maxRecDepth 20000 in
theorem inX3 : ∀ w ∈ u_ws RX3 TX3 3, w ∈ lw_tbl := by decide +kernel
set_option maxRecDepth 20000 in
theorem inX4 : ∀ w ∈ u_ws RX4 TX4 4, w ∈ lw_tbl := by decide +kernel
set_option maxRecDepth 20000 in
theorem inX5 : ∀ w ∈ u_ws RX5 TX5 3, w ∈ lw_tbl := by decide +kernel
set_option maxRecDepth 20000 in
theorem inX6 : ∀ w ∈ u_ws RX6 TX6 3, w ∈ lw_tbl := by decide +kernel
set_option maxRecDepth 20000 in
theorem inX7 : ∀ w ∈ u_ws RX7 TX7 7, w ∈ lw_tbl := by decide +kernel
set_option maxRecDepth 20000 in
theorem inX8 : ∀ w ∈ u_ws RX8 TX8 2, w ∈ lw_tbl := by decide +kernel
set_option maxRecDepth 20000 in
theorem inX9 : ∀ w ∈ u_ws RX9 TX9 11, w ∈ lw_tbl := by decide +kernel
set_option maxRecDepth 20000 in
theorem inX10 : ∀ w ∈ u_ws RX10 TX10 30, w ∈ lw_tbl := by decide +kernel
set_option maxRecDepth 20000 in
theorem wsL_law_in : ∀ w ∈ wsL_law, w ∈ lw_tbl := by
  unfold wsL_law
  exact List.forall_mem_append.mpr ⟨List.forall_mem_append.mpr ⟨List.forall_mem_append.mpr ⟨List.forall_mem_append.mpr ⟨List.forall_mem_append.mpr ⟨List.forall_mem_append.mpr ⟨List.forall_mem_append.mpr ⟨List.forall_mem_append.mpr ⟨List.forall_mem_append.mpr ⟨List.forall_mem_append.mpr ⟨List.forall_mem_append.mpr ⟨List.forall_mem_append.mpr ⟨in_wsL_law_r1, List.forall_mem_append.mpr ⟨in_wsL_law_r2, List.forall_mem_append.mpr ⟨in_wsL_law_r3, List.forall_mem_append.mpr ⟨in_wsL_law_r4, List.forall_mem_append.mpr ⟨in_wsL_law_r5, List.forall_mem_append.mpr ⟨in_wsL_law_r6, List.forall_mem_append.mpr ⟨in_wsL_law_r7, List.forall_mem_append.mpr ⟨in_wsL_law_r8, List.forall_mem_append.mpr ⟨in_wsL_law_r9, List.forall_mem_append.mpr ⟨in_wsL_law_r10, List.forall_mem_append.mpr ⟨in_wsL_law_r11, List.forall_mem_append.mpr ⟨in_wsL_law_r12, List.forall_mem_append.mpr ⟨in_wsL_law_r13, List.forall_mem_append.mpr ⟨in_wsL_law_r14, List.forall_mem_append.mpr ⟨in_wsL_law_r15, List.forall_mem_append.mpr ⟨in_wsL_law_r16, List.forall_mem_append.mpr ⟨in_wsL_law_r17, List.forall_mem_append.mpr ⟨in_wsL_law_r18, List.forall_mem_append.mpr ⟨in_wsL_law_r19, List.forall_mem_append.mpr ⟨in_wsL_law_r20, List.forall_mem_append.mpr ⟨in_wsL_law_r21, List.forall_mem_append.mpr ⟨in_wsL_law_r22, List.forall_mem_append.mpr ⟨in_wsL_law_r23, List.forall_mem_append.mpr ⟨in_wsL_law_r24, List.forall_mem_append.mpr ⟨in_wsL_law_r25, List.forall_mem_append.mpr ⟨in_wsL_law_r26, List.forall_mem_append.mpr ⟨in_wsL_law_r27, List.forall_mem_append.mpr ⟨in_wsL_law_r28, List.forall_mem_append.mpr ⟨in_wsL_law_r29, List.forall_mem_append.mpr ⟨in_wsL_law_r30, List.forall_mem_append.mpr ⟨in_wsL_law_r31, List.forall_mem_append.mpr ⟨in_wsL_law_r32, List.forall_mem_append.mpr ⟨in_wsL_law_r33, List.forall_mem_append.mpr ⟨in_wsL_law_r34, List.forall_mem_append.mpr ⟨in_wsL_law_r35, List.forall_mem_append.mpr ⟨in_wsL_law_r36, List.forall_mem_append.mpr ⟨in_wsL_law_r37, List.forall_mem_append.mpr ⟨in_wsL_law_r38, List.forall_mem_append.mpr ⟨in_wsL_law_r39, in_wsL_law_r40⟩⟩⟩⟩⟩⟩⟩⟩⟩⟩⟩⟩⟩⟩⟩⟩⟩⟩⟩⟩⟩⟩⟩⟩⟩⟩⟩⟩⟩⟩⟩⟩⟩⟩⟩⟩⟩⟩⟩, inX9⟩, inX10⟩, inX2⟩, inX8⟩, inX0⟩, inX6⟩, inX7⟩, inX5⟩, inX3⟩, inX4⟩, fun _ h => absurd h List.not_mem_nil⟩
