theorem glh_X10_count : GoodIn lw_tbl ([.code yX10_count cX10_count 6 (some .int)] : List Cond) := goodIn_r _ [609] (by decide +kernel) (by decide +kernel)
set_option maxRecDepth 20000 in
theorem gl_wsX10_count_r1 : GoodIn lw_tbl wsX10_count_r1 := goodIn_r _ [377, 370, 369, 179, 371, 376, 375, 339, 567, 568, 569, 67, 570, 176, 506, 507, 508, 66, 509, 148, 610, 612, 5, 63] (by decide +kernel) (by decide +kernel)
set_option maxRecDepth 20000 in
theorem gl_wsX10_count_r2 : GoodIn lw_tbl wsX10_count_r2 := goodIn_r _ [613, 367, 95, 565, 583, 459, 460, 588, 589, 590, 591, 180, 186, 182, 178, 592, 614, 616, 6, 617, 154, 157, 368, 449] (by decide +kernel) (by decide +kernel)
set_option maxRecDepth 20000 in
theorem gl_wsX10_count_r3 : GoodIn lw_tbl wsX10_count_r3 := goodIn_r _ [450, 451, 65, 452, 115, 453, 454, 455, 456, 117, 461, 463, 0, 464, 378, 379, 618, 619, 620, 68, 621, 221, 217, 153] (by decide +kernel) (by decide +kernel)
set_option maxRecDepth 20000 in
theorem gl_wsX10_count_r4 : GoodIn lw_tbl wsX10_count_r4 := goodIn_r _ [211, 156, 214, 225, 208, 622, 623, 420, 421, 64, 422, 91, 624, 625, 626, 627, 229, 234, 628, 629, 630, 73, 631, 337] (by decide +kernel) (by decide +kernel)
set_option maxRecDepth 20000 in
theorem gl_wsX10_count_r5 : GoodIn lw_tbl wsX10_count_r5 := goodIn_r _ [342, 632, 634, 7, 635, 372, 373, 374, 636, 637, 638, 69, 639, 262, 210, 93, 226, 264, 222, 640, 641, 642, 643, 644] (by decide +kernel) (by decide +kernel)
set_option maxRecDepth 20000 in
theorem gl_wsX10_count_r6 : GoodIn lw_tbl wsX10_count_r6 := goodIn_r _ [645, 646, 647, 124, 128, 648, 649, 650, 651, 120, 652, 653, 654, 655, 94, 100, 656, 658, 8, 659, 660, 661, 75, 662] (by decide +kernel) (by decide +kernel)
set_option maxRecDepth 20000 in
theorem gl_wsX10_count_r7 : GoodIn lw_tbl wsX10_count_r7 := goodIn_r _ [663, 664, 665, 666, 344, 346, 348, 233, 350, 236, 667, 668, 669, 670, 671, 672, 673, 674, 340, 675, 676, 677, 70, 678] (by decide +kernel) (by decide +kernel)
set_option maxRecDepth 20000 in
theorem gl_wsX10_count_r8 : GoodIn lw_tbl wsX10_count_r8 := goodIn_r _ [279, 223, 230, 227, 679, 681, 9, 682, 281, 219, 683, 685, 10, 686, 209, 92, 280, 212, 215, 687, 688, 471, 472, 473] (by decide +kernel) (by decide +kernel)
set_option maxRecDepth 20000 in
theorem gl_wsX10_count_r9 : GoodIn lw_tbl wsX10_count_r9 := goodIn_r _ [122, 126, 689, 691, 11, 692, 282, 693, 695, 12, 696, 697, 698, 76, 699, 700, 701, 702, 703, 705, 13, 706, 98, 707] (by decide +kernel) (by decide +kernel)
set_option maxRecDepth 20000 in
theorem gl_wsX10_count_r10 : GoodIn lw_tbl wsX10_count_r10 := goodIn_r _ [709, 14, 710, 711, 712, 714, 15, 715, 716, 717, 718, 719, 720, 71, 721, 313, 218, 314, 315, 224, 338, 722, 723, 724] (by decide +kernel) (by decide +kernel)
set_option maxRecDepth 20000 in
theorem gl_wsX10_count_r11 : GoodIn lw_tbl wsX10_count_r11 := goodIn_r _ [725, 726, 727, 729, 16, 730, 316, 731, 732, 733, 735, 17, 736, 317, 231, 235, 305, 307, 737, 738, 739, 72, 740, 304] (by decide +kernel) (by decide +kernel)
set_option maxRecDepth 20000 in
theorem gl_wsX10_count_r12 : GoodIn lw_tbl wsX10_count_r12 := goodIn_r _ [306, 741, 742, 743, 744, 745, 746, 747, 748, 749, 750, 751, 752, 754, 18, 755, 228, 756, 757, 758, 759, 760, 761, 763] (by decide +kernel) (by decide +kernel)
set_option maxRecDepth 20000 in
theorem gl_wsX10_count_r13 : GoodIn lw_tbl wsX10_count_r13 := goodIn_r _ [19, 764, 765, 766, 767, 769, 20, 770, 771, 772, 773, 774, 775, 776, 777, 778, 263, 779, 781, 21, 782, 99, 783, 785] (by decide +kernel) (by decide +kernel)
set_option maxRecDepth 20000 in
theorem gl_wsX10_count_r14 : GoodIn lw_tbl wsX10_count_r14 := goodIn_r _ [22, 786, 232, 787, 788, 789, 790, 791, 793, 23, 794, 795, 797, 24, 798, 220, 213, 127, 216, 799, 800, 802, 25, 803] (by decide +kernel) (by decide +kernel)
set_option maxRecDepth 20000 in
theorem gl_wsX10_count_r15 : GoodIn lw_tbl wsX10_count_r15 := goodIn_r _ [123] (by decide +kernel) (by decide +kernel)
set_option maxRecDepth 20000 in
theorem glb_wsX100 : GoodIn lw_tbl wsX100 := goodIn_r _ [380, 382, 384, 386, 388, 390, 392, 394, 396, 398, 400, 402, 404] (by decide +kernel) (by decide +kernel)
set_option maxRecDepth 20000 in
theorem glb_wsX40 : GoodIn lw_tbl wsX40 := goodIn_r _ [187, 189, 191, 193, 195, 197, 199] (by decide +kernel) (by decide +kernel)
set_option maxRecDepth 20000 in
theorem glb_wsX70 : GoodIn lw_tbl wsX70 := goodIn_r _ [352, 354, 356, 358, 360, 362, 364] (by decide +kernel) (by decide +kernel)
set_option maxRecDepth 20000 in
theorem glb_wsX10 : GoodIn lw_tbl wsX10 := goodIn_r _ [159, 161, 163, 165, 167] (by decide +kernel) (by decide +kernel)
set_option maxRecDepth 20000 in
theorem glb_wsX20 : GoodIn lw_tbl wsX20 := goodIn_r _ [101, 103] (by decide +kernel) (by decide +kernel)
set_option maxRecDepth 20000 in
theorem glb_wsX00 : GoodIn lw_tbl wsX00 := goodIn_r _ [130, 132, 134, 136, 138] (by decide +kernel) (by decide +kernel)
set_option maxRecDepth 20000 in
theorem glb_wsX60 : GoodIn lw_tbl wsX60 := goodIn_r _ [237, 239, 241, 243, 245, 247, 249, 251] (by decide +kernel) (by decide +kernel)
set_option maxRecDepth 20000 in
theorem glb_wsX50 : GoodIn lw_tbl wsX50 := goodIn_r _ [265, 267, 269] (by decide +kernel) (by decide +kernel)
set_option maxRecDepth 20000 in
theorem glb_wsX90 : GoodIn lw_tbl wsX90 := goodIn_r _ [283, 285, 287, 289] (by decide +kernel) (by decide +kernel)
set_option maxRecDepth 20000 in
theorem glb_wsX80 : GoodIn lw_tbl wsX80 := goodIn_r _ [318, 320, 322, 324, 326] (by decide +kernel) (by decide +kernel)
set_option maxRecDepth 20000 in
theorem glb_wsX30 : GoodIn lw_tbl wsX30 := goodIn_r _ [308, 310] (by decide +kernel) (by decide +kernel)
theorem glw_X10_count : GoodIn lw_tbl wsX10_count := goodIn_ca (goodIn_ca (goodIn_ca (goodIn_ca (goodIn_ca (goodIn_ca (goodIn_ca (goodIn_ca (goodIn_ca (goodIn_ca (goodIn_ca (goodIn_ca (goodIn_app glh_X10_count gl_wsX10_count_r1) (goodIn_app gl_wsX10_count_r2 (goodIn_app gl_wsX10_count_r3 (goodIn_app gl_wsX10_count_r4 (goodIn_app gl_wsX10_count_r5 (goodIn_app gl_wsX10_count_r6 (goodIn_app gl_wsX10_count_r7 (goodIn_app gl_wsX10_count_r8 (goodIn_app gl_wsX10_count_r9 (goodIn_app gl_wsX10_count_r10 (goodIn_app gl_wsX10_count_r11 (goodIn_app gl_wsX10_count_r12 (goodIn_app gl_wsX10_count_r13 (goodIn_app gl_wsX10_count_r14 (gl_wsX10_count_r15))))))))))))))) glb_wsX100) glb_wsX40) glb_wsX70) glb_wsX10) glb_wsX20) glb_wsX00) glb_wsX60) glb_wsX50) glb_wsX90) glb_wsX80) glb_wsX30
set_option maxRecDepth 20000 in
theorem gl_X10_count : GoodIn lw_tbl (wsV RL 95 RX10 yX10_count wsX10_count) := goodIn_app (goodIn_r _ [606, 607, 608, 63] (by decide +kernel) (by decide +kernel)) glw_X10_count
theorem glh_X11_count : GoodIn lw_tbl ([.code yX11_count cX11_count 6 (some .int)] : List Cond) := goodIn_r _ [1150] (by decide +kernel) (by decide +kernel)
set_option maxRecDepth 20000 in
theorem gl_wsX11_count_r1 : GoodIn lw_tbl wsX11_count_r1 := goodIn_r _ [886, 862, 875, 885, 889, 1123, 1125, 34, 74, 1126, 874, 1028, 1029, 1030, 1091, 1093, 31, 1094, 869, 1139, 1141, 35, 1142, 879] (by decide +kernel) (by decide +kernel)
set_option maxRecDepth 20000 in
theorem gl_wsX11_count_r2 : GoodIn lw_tbl wsX11_count_r2 := goodIn_r _ [881, 880, 878, 1151, 1153, 36, 1154, 871, 872, 865, 1060, 1061, 1062, 1063, 1065, 29, 1066, 860, 861, 1155, 1157, 37, 1158, 887] (by decide +kernel) (by decide +kernel)
set_option maxRecDepth 20000 in
theorem gl_wsX11_count_r3 : GoodIn lw_tbl wsX11_count_r3 := goodIn_r _ [888, 891, 896, 900, 866, 901, 1159, 1161, 38, 1162, 1163, 1165, 39, 1166, 1167, 1169, 40, 1170, 898, 899, 1171, 1173, 41, 1174] (by decide +kernel) (by decide +kernel)
set_option maxRecDepth 20000 in
theorem gl_wsX11_count_r4 : GoodIn lw_tbl wsX11_count_r4 := goodIn_r _ [1175, 1177, 42, 1178, 867, 868, 1179, 1181, 43, 1182, 883, 884, 1183, 1185, 44, 1186, 1190, 1187, 1188, 1189, 1191, 1193, 45, 1194] (by decide +kernel) (by decide +kernel)
set_option maxRecDepth 20000 in
theorem gl_wsX11_count_r5 : GoodIn lw_tbl wsX11_count_r5 := goodIn_r _ [1195, 1197, 46, 1198, 863, 1199, 1200, 1201, 1202, 1204, 47, 1205, 892, 893, 894, 895, 1206, 1208, 48, 1209, 890, 1210, 1212, 49] (by decide +kernel) (by decide +kernel)
set_option maxRecDepth 20000 in
theorem gl_wsX11_count_r6 : GoodIn lw_tbl wsX11_count_r6 := goodIn_r _ [1213, 1067, 1069, 30, 1070, 1214, 1216, 50, 1217, 910, 1218, 1220, 51, 1221, 1222, 1224, 52, 1225, 1226, 1228, 53, 1229, 1230, 1232] (by decide +kernel) (by decide +kernel)
set_option maxRecDepth 20000 in
theorem gl_wsX11_count_r7 : GoodIn lw_tbl wsX11_count_r7 := goodIn_r _ [54, 1233, 911, 912, 1234, 1236, 55, 1237, 1238, 1240, 56, 1241, 1242, 1244, 57, 1245, 1246, 1248, 58, 1249, 1111, 1113, 33, 1114] (by decide +kernel) (by decide +kernel)
set_option maxRecDepth 20000 in
theorem gl_wsX11_count_r8 : GoodIn lw_tbl wsX11_count_r8 := goodIn_r _ [1250, 1252, 59, 1253, 1254, 1256, 60, 1257, 909, 1258, 1260, 61, 1261, 902, 904, 903, 905, 906, 907, 908] (by decide +kernel) (by decide +kernel)
set_option maxRecDepth 20000 in
theorem glb_wsX110 : GoodIn lw_tbl wsX110 := goodIn_r _ [913, 915, 917, 919, 921, 923, 925, 927, 929, 931, 933, 935, 937, 939, 941, 943, 945, 947, 949, 951, 953, 955, 957, 959, 961, 963, 965, 967, 969, 971, 973, 975, 977, 979, 981, 983, 985, 987, 989, 991, 993, 995, 997, 999, 1001, 1003, 1005, 1007, 1009, 1011, 1013, 1015, 1017] (by decide +kernel) (by decide +kernel)
theorem glw_X11_count : GoodIn lw_tbl wsX11_count := goodIn_ca (goodIn_ca (goodIn_app glh_X11_count gl_wsX11_count_r1) (goodIn_app gl_wsX11_count_r2 (goodIn_app gl_wsX11_count_r3 (goodIn_app gl_wsX11_count_r4 (goodIn_app gl_wsX11_count_r5 (goodIn_app gl_wsX11_count_r6 (goodIn_app gl_wsX11_count_r7 (gl_wsX11_count_r8)))))))) glb_wsX110
set_option maxRecDepth 20000 in
theorem gl_X11_count : GoodIn lw_tbl (wsV RL 98 RX11 yX11_count wsX11_count) := goodIn_app (goodIn_r _ [1147, 1148, 1149, 74] (by decide +kernel) (by decide +kernel)) glw_X11_count
