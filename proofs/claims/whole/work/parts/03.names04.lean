set_option maxRecDepth 20000 in
theorem wq_1 : ∀ w ∈ wsL_law0_r1, w ∈ lw_tbl := fun w h => (goodIn_r wsL_law0_r1 [35, 36, 22, 769, 770, 23, 74, 1156, 37, 38, 39, 40, 41, 42, 43, 75, 44, 45, 46, 47, 48, 49, 50, 51] (by decide +kernel) (by decide +kernel) w h).1
set_option maxRecDepth 20000 in
theorem wq_2 : ∀ w ∈ wsL_law0_r2, w ∈ lw_tbl := fun w h => (goodIn_r wsL_law0_r2 [52, 771, 772, 773, 774, 777, 778, 779, 780, 781, 782, 783, 784, 785, 786, 775, 214, 215, 21, 216, 217, 294, 295, 296] (by decide +kernel) (by decide +kernel) w h).1
set_option maxRecDepth 20000 in
theorem wq_3 : ∀ w ∈ wsL_law0_r3, w ∈ lw_tbl := fun w h => (goodIn_r wsL_law0_r3 [297, 298, 339, 299, 300, 301, 302, 27, 315, 316, 317, 318, 319, 158, 159, 160, 320, 321, 322, 323, 30, 340, 138, 31] (by decide +kernel) (by decide +kernel) w h).1
set_option maxRecDepth 20000 in
theorem wq_4 : ∀ w ∈ wsL_law0_r4, w ∈ lw_tbl := fun w h => (goodIn_r wsL_law0_r4 [139, 116, 150, 151, 152, 148, 118, 119, 120, 121, 32, 122, 147, 114, 115, 86, 87, 88, 134, 99, 100, 93, 95, 83] (by decide +kernel) (by decide +kernel) w h).1
set_option maxRecDepth 20000 in
theorem wq_5 : ∀ w ∈ wsL_law0_r5, w ∈ lw_tbl := fun w h => (goodIn_r wsL_law0_r5 [161, 145, 146, 149, 89, 90, 91, 92, 94, 96, 97, 84, 341, 343, 2, 344, 153, 154, 155, 156, 157, 345, 346, 347] (by decide +kernel) (by decide +kernel) w h).1
set_option maxRecDepth 20000 in
theorem wq_6 : ∀ w ∈ wsL_law0_r6, w ∈ lw_tbl := fun w h => (goodIn_r wsL_law0_r6 [348, 33, 819, 820, 821, 822, 835, 823, 824, 825, 826, 827, 828, 829, 830, 831, 832, 833, 834, 836, 837, 838, 839, 840] (by decide +kernel) (by decide +kernel) w h).1
set_option maxRecDepth 20000 in
theorem wq_7 : ∀ w ∈ wsL_law0_r7, w ∈ lw_tbl := fun w h => (goodIn_r wsL_law0_r7 [841, 842, 849, 850, 843, 844, 845, 846, 847, 848, 851, 853, 8, 854, 776, 855, 856, 857, 858, 859, 860, 868, 861, 862] (by decide +kernel) (by decide +kernel) w h).1
set_option maxRecDepth 20000 in
theorem wq_8 : ∀ w ∈ wsL_law0_r8, w ∈ lw_tbl := fun w h => (goodIn_r wsL_law0_r8 [863, 864, 865, 866, 867, 765, 766, 767, 768, 364, 365, 366, 367, 368, 369, 370, 371, 80, 81, 82, 85, 869, 870, 871] (by decide +kernel) (by decide +kernel) w h).1
set_option maxRecDepth 20000 in
theorem wq_9 : ∀ w ∈ wsL_law0_r9, w ∈ lw_tbl := fun w h => (goodIn_r wsL_law0_r9 [872, 873, 787, 874, 876, 9, 877, 878, 788, 789, 372, 373, 374, 375, 376, 377, 378, 879, 880, 881, 882, 379, 380, 381] (by decide +kernel) (by decide +kernel) w h).1
set_option maxRecDepth 20000 in
theorem wq_10 : ∀ w ∈ wsL_law0_r10, w ∈ lw_tbl := fun w h => (goodIn_r wsL_law0_r10 [382, 383, 384, 385, 130, 131, 132, 135, 136, 133, 137, 117, 140, 141, 142, 143, 144, 386, 162, 163, 164, 165, 387, 388] (by decide +kernel) (by decide +kernel) w h).1
set_option maxRecDepth 20000 in
theorem wq_11 : ∀ w ∈ wsL_law0_r11, w ∈ lw_tbl := fun w h => (goodIn_r wsL_law0_r11 [389, 98, 883, 884, 885, 886, 887, 888, 889, 890, 391, 392, 393, 394, 395, 396, 397, 401, 402, 398, 399, 400, 403, 404] (by decide +kernel) (by decide +kernel) w h).1
set_option maxRecDepth 20000 in
theorem wq_12 : ∀ w ∈ wsL_law0_r12, w ∈ lw_tbl := fun w h => (goodIn_r wsL_law0_r12 [405, 406, 167, 168, 169, 170, 171, 173, 174, 32, 175, 172, 891, 892, 893, 894, 898, 899, 895, 896, 897, 900, 902, 10] (by decide +kernel) (by decide +kernel) w h).1
set_option maxRecDepth 20000 in
theorem wq_13 : ∀ w ∈ wsL_law0_r13, w ∈ lw_tbl := fun w h => (goodIn_r wsL_law0_r13 [903, 904, 906, 11, 907, 908, 910, 12, 911, 912, 914, 13, 915, 407, 408, 409, 410, 411, 412, 413, 113, 166, 916, 917] (by decide +kernel) (by decide +kernel) w h).1
set_option maxRecDepth 20000 in
theorem wq_14 : ∀ w ∈ wsL_law0_r14, w ∈ lw_tbl := fun w h => (goodIn_r wsL_law0_r14 [918, 919, 415, 416, 417, 418, 419, 420, 421, 920, 921, 922, 923, 423, 424, 425, 426, 427, 428, 429, 111, 430, 431, 432] (by decide +kernel) (by decide +kernel) w h).1
set_option maxRecDepth 20000 in
theorem wq_15 : ∀ w ∈ wsL_law0_r15, w ∈ lw_tbl := fun w h => (goodIn_r wsL_law0_r15 [433, 434, 435, 436, 437, 438, 439, 924, 925, 926, 927, 928, 929, 930, 441, 442, 443, 444, 445, 446, 447, 448, 449, 931] (by decide +kernel) (by decide +kernel) w h).1
set_option maxRecDepth 20000 in
theorem wq_16 : ∀ w ∈ wsL_law0_r16, w ∈ lw_tbl := fun w h => (goodIn_r wsL_law0_r16 [932, 933, 934, 935, 936, 450, 451, 452, 453, 454, 455, 456, 179, 937, 938, 939, 940, 457, 458, 459, 460, 461, 462, 463] (by decide +kernel) (by decide +kernel) w h).1
set_option maxRecDepth 20000 in
theorem wq_17 : ∀ w ∈ wsL_law0_r17, w ∈ lw_tbl := fun w h => (goodIn_r wsL_law0_r17 [464, 465, 466, 941, 942, 943, 944, 945, 946, 947, 467, 468, 469, 470, 471, 472, 473, 184, 185, 186, 187, 188, 189, 948] (by decide +kernel) (by decide +kernel) w h).1
set_option maxRecDepth 20000 in
theorem wq_18 : ∀ w ∈ wsL_law0_r18, w ∈ lw_tbl := fun w h => (goodIn_r wsL_law0_r18 [949, 950, 951, 952, 954, 14, 955, 475, 476, 477, 478, 479, 480, 481, 482, 483, 484, 485, 487, 3, 488, 489, 491, 4] (by decide +kernel) (by decide +kernel) w h).1
set_option maxRecDepth 20000 in
theorem wq_19 : ∀ w ∈ wsL_law0_r19, w ∈ lw_tbl := fun w h => (goodIn_r wsL_law0_r19 [492, 956, 957, 958, 959, 960, 961, 962, 963, 965, 15, 966, 967, 969, 16, 970, 493, 494, 495, 496, 497, 498, 499, 971] (by decide +kernel) (by decide +kernel) w h).1
set_option maxRecDepth 20000 in
theorem wq_20 : ∀ w ∈ wsL_law0_r20, w ∈ lw_tbl := fun w h => (goodIn_r wsL_law0_r20 [972, 973, 974, 500, 501, 502, 503, 504, 505, 506, 975, 976, 977, 978, 979, 507, 508, 509, 510, 511, 512, 513, 980, 981] (by decide +kernel) (by decide +kernel) w h).1
set_option maxRecDepth 20000 in
theorem wq_21 : ∀ w ∈ wsL_law0_r21, w ∈ lw_tbl := fun w h => (goodIn_r wsL_law0_r21 [982, 983, 515, 516, 517, 518, 519, 520, 521, 180, 984, 985, 986, 987, 522, 523, 524, 525, 526, 527, 528, 529, 530, 988] (by decide +kernel) (by decide +kernel) w h).1
set_option maxRecDepth 20000 in
theorem wq_22 : ∀ w ∈ wsL_law0_r22, w ∈ lw_tbl := fun w h => (goodIn_r wsL_law0_r22 [989, 990, 991, 992, 531, 532, 533, 534, 535, 536, 537, 993, 994, 995, 996, 538, 539, 540, 541, 542, 543, 544, 545, 547] (by decide +kernel) (by decide +kernel) w h).1
set_option maxRecDepth 20000 in
theorem wq_23 : ∀ w ∈ wsL_law0_r23, w ∈ lw_tbl := fun w h => (goodIn_r wsL_law0_r23 [5, 548, 997, 998, 999, 1000, 1001, 1003, 17, 1004, 549, 550, 551, 552, 553, 554, 555, 1005, 1006, 1007, 1008, 556, 557, 558] (by decide +kernel) (by decide +kernel) w h).1
set_option maxRecDepth 20000 in
theorem wq_24 : ∀ w ∈ wsL_law0_r24, w ∈ lw_tbl := fun w h => (goodIn_r wsL_law0_r24 [559, 560, 561, 562, 1009, 1010, 1011, 1012, 564, 565, 566, 567, 568, 569, 570, 1013, 1014, 1015, 1016, 571, 572, 573, 574, 575] (by decide +kernel) (by decide +kernel) w h).1
set_option maxRecDepth 20000 in
theorem wq_25 : ∀ w ∈ wsL_law0_r25, w ∈ lw_tbl := fun w h => (goodIn_r wsL_law0_r25 [576, 577, 1017, 1018, 1019, 1020, 578, 579, 580, 581, 582, 583, 584, 585, 586, 587, 588, 589, 193, 1021, 1022, 1023, 1024, 1025] (by decide +kernel) (by decide +kernel) w h).1
set_option maxRecDepth 20000 in
theorem wq_26 : ∀ w ∈ wsL_law0_r26, w ∈ lw_tbl := fun w h => (goodIn_r wsL_law0_r26 [1026, 1027, 1028, 1029, 1030, 590, 591, 592, 593, 594, 595, 596, 597, 1031, 1032, 1033, 1034, 1035, 1036, 598, 599, 600, 601, 602] (by decide +kernel) (by decide +kernel) w h).1
set_option maxRecDepth 20000 in
theorem wq_27 : ∀ w ∈ wsL_law0_r27, w ∈ lw_tbl := fun w h => (goodIn_r wsL_law0_r27 [603, 604, 605, 1037, 1038, 1039, 1040, 607, 608, 609, 610, 611, 612, 613, 620, 621, 614, 615, 34, 616, 617, 618, 619, 201] (by decide +kernel) (by decide +kernel) w h).1
set_option maxRecDepth 20000 in
theorem wq_28 : ∀ w ∈ wsL_law0_r28, w ∈ lw_tbl := fun w h => (goodIn_r wsL_law0_r28 [197, 198, 199, 200, 202, 203, 204, 1041, 1042, 1043, 1044, 1045, 1046, 1047, 1051, 1048, 1049, 1050, 622, 623, 624, 625, 626, 627] (by decide +kernel) (by decide +kernel) w h).1
set_option maxRecDepth 20000 in
theorem wq_29 : ∀ w ∈ wsL_law0_r29, w ∈ lw_tbl := fun w h => (goodIn_r wsL_law0_r29 [628, 1052, 1053, 1054, 1055, 630, 631, 632, 633, 634, 635, 636, 196, 1056, 1057, 1058, 1059, 637, 638, 639, 640, 641, 642, 643] (by decide +kernel) (by decide +kernel) w h).1
set_option maxRecDepth 20000 in
theorem wq_30 : ∀ w ∈ wsL_law0_r30, w ∈ lw_tbl := fun w h => (goodIn_r wsL_law0_r30 [1060, 1061, 1062, 1063, 644, 645, 646, 647, 648, 649, 650, 651, 652, 653, 655, 6, 656, 194, 195, 1064, 1065, 1066, 1067, 1068] (by decide +kernel) (by decide +kernel) w h).1
set_option maxRecDepth 20000 in
theorem wq_31 : ∀ w ∈ wsL_law0_r31, w ∈ lw_tbl := fun w h => (goodIn_r wsL_law0_r31 [1069, 1070, 1072, 18, 1073, 657, 658, 659, 660, 661, 662, 663, 1074, 1075, 1076, 1077, 665, 666, 667, 668, 669, 670, 671, 1078] (by decide +kernel) (by decide +kernel) w h).1
set_option maxRecDepth 20000 in
theorem wq_32 : ∀ w ∈ wsL_law0_r32, w ∈ lw_tbl := fun w h => (goodIn_r wsL_law0_r32 [1079, 1080, 1081, 672, 673, 674, 675, 676, 677, 678, 679, 680, 1082, 1083, 1084, 1085, 1086, 1087, 681, 682, 683, 684, 685, 686] (by decide +kernel) (by decide +kernel) w h).1
set_option maxRecDepth 20000 in
theorem wq_33 : ∀ w ∈ wsL_law0_r33, w ∈ lw_tbl := fun w h => (goodIn_r wsL_law0_r33 [687, 1088, 1089, 1090, 1091, 688, 689, 690, 691, 692, 693, 694, 1092, 1093, 1094, 1095, 695, 696, 697, 698, 699, 700, 701, 702] (by decide +kernel) (by decide +kernel) w h).1
set_option maxRecDepth 20000 in
theorem wq_34 : ∀ w ∈ wsL_law0_r34, w ∈ lw_tbl := fun w h => (goodIn_r wsL_law0_r34 [704, 7, 705, 213, 1096, 1097, 1098, 1099, 706, 707, 708, 709, 710, 711, 712, 1100, 1101, 1102, 1103, 713, 714, 715, 716, 717] (by decide +kernel) (by decide +kernel) w h).1
set_option maxRecDepth 20000 in
theorem wq_35 : ∀ w ∈ wsL_law0_r35, w ∈ lw_tbl := fun w h => (goodIn_r wsL_law0_r35 [718, 719, 1104, 1105, 1106, 1107, 720, 721, 722, 723, 724, 725, 726, 209, 210, 211, 212, 1108, 1109, 1110, 1111, 1112, 1114, 19] (by decide +kernel) (by decide +kernel) w h).1
set_option maxRecDepth 20000 in
theorem wq_36 : ∀ w ∈ wsL_law0_r36, w ∈ lw_tbl := fun w h => (goodIn_r wsL_law0_r36 [1115, 727, 728, 729, 730, 731, 732, 733, 1116, 1117, 1118, 1119, 1120, 734, 735, 736, 737, 738, 739, 740, 1121, 1122, 1123, 1124] (by decide +kernel) (by decide +kernel) w h).1
set_option maxRecDepth 20000 in
theorem wq_37 : ∀ w ∈ wsL_law0_r37, w ∈ lw_tbl := fun w h => (goodIn_r wsL_law0_r37 [741, 742, 743, 744, 745, 746, 747, 756, 748, 749, 750, 751, 752, 753, 754, 755, 1125, 1126, 1127, 1128, 1129, 1131, 20, 1132] (by decide +kernel) (by decide +kernel) w h).1
set_option maxRecDepth 20000 in
theorem wq_38 : ∀ w ∈ wsL_law0_r38, w ∈ lw_tbl := fun w h => (goodIn_r wsL_law0_r38 [758, 759, 760, 761, 762, 763, 764, 1133, 1134, 1135, 1136, 76, 77, 78, 79, 101, 1137, 1138, 1139, 1140, 1141, 102, 103, 104] (by decide +kernel) (by decide +kernel) w h).1
set_option maxRecDepth 20000 in
theorem wq_39 : ∀ w ∈ wsL_law0_r39, w ∈ lw_tbl := fun w h => (goodIn_r wsL_law0_r39 [105, 106, 1142, 1143, 1144, 1145, 1146, 107, 108, 109, 110, 112, 1147, 1148, 1149, 1150, 1151, 123, 124, 125, 126, 127, 128, 129] (by decide +kernel) (by decide +kernel) w h).1
set_option maxRecDepth 20000 in
theorem wq_40 : ∀ w ∈ wsL_law0_r40, w ∈ lw_tbl := fun w h => (goodIn_r wsL_law0_r40 [176, 177, 178, 181, 182, 183, 190, 191, 192, 205, 207, 0, 208, 1152, 1153, 1154, 1155] (by decide +kernel) (by decide +kernel) w h).1
theorem wz_app {a b c : List Cond} (ha : ∀ w ∈ a, w ∈ c) (hb : ∀ w ∈ b, w ∈ c) : ∀ w ∈ a ++ b, w ∈ c := fun w h => (List.mem_append.mp h).elim (ha w) (hb w)
set_option maxRecDepth 20000 in
theorem wsL_law_in0 : ∀ w ∈ wsL_law0, w ∈ lw_tbl := wz_app (wz_app (wz_app (wz_app wq_1 (wz_app wq_2 (wz_app wq_3 (wz_app wq_4 (wz_app wq_5 (wz_app wq_6 (wz_app wq_7 (wz_app wq_8 (wz_app wq_9 (wz_app wq_10 (wz_app wq_11 (wz_app wq_12 (wz_app wq_13 (wz_app wq_14 (wz_app wq_15 (wz_app wq_16 (wz_app wq_17 (wz_app wq_18 (wz_app wq_19 (wz_app wq_20 (wz_app wq_21 (wz_app wq_22 (wz_app wq_23 (wz_app wq_24 (wz_app wq_25 (wz_app wq_26 (wz_app wq_27 (wz_app wq_28 (wz_app wq_29 (wz_app wq_30 (wz_app wq_31 (wz_app wq_32 (wz_app wq_33 (wz_app wq_34 (wz_app wq_35 (wz_app wq_36 (wz_app wq_37 (wz_app wq_38 (wz_app wq_39 wq_40))))))))))))))))))))))))))))))))))))))) (by decide +kernel)) (by decide +kernel)) (fun _ h => nomatch h)
