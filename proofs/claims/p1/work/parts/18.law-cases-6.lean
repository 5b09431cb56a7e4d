theorem goodIn_cons_X10_digest {big a : List Cond} {c : Cond} (hc : GoodIn big [c]) (ha : GoodIn big a) : GoodIn big (c :: a) := fun w h => (List.mem_cons.mp h).elim (fun e => hc w (List.mem_cons.mpr (Or.inl e))) (ha w)
set_option maxHeartbeats 4000000 in
set_option maxRecDepth 100000 in
theorem gpX10_digest_0 : GoodIn wsL_law [.code yX10_digest cX10_digest 8 (some .long)] := goodIn_r _ [1419] (by decide +kernel) (by decide +kernel)
set_option maxHeartbeats 4000000 in
set_option maxRecDepth 100000 in
theorem gpX10_digest_1 : GoodIn wsL_law wsX10_digest_r1 := goodIn_r _ [106, 1420, 1421, 68, 289, 69, 1295, 1296, 1297, 5, 1298, 31, 64, 755, 111, 112, 113, 67, 114, 115, 295, 296, 297, 298] (by decide +kernel) (by decide +kernel)
set_option maxHeartbeats 4000000 in
set_option maxRecDepth 100000 in
theorem gpX10_digest_2 : GoodIn wsL_law wsX10_digest_r2 := goodIn_r _ [299, 300, 301, 302, 303, 304, 305, 306, 307, 308, 309, 310, 74, 344, 324, 325, 161, 326, 321, 414, 415, 416, 417, 315] (by decide +kernel) (by decide +kernel)
set_option maxHeartbeats 4000000 in
set_option maxRecDepth 100000 in
theorem gpX10_digest_3 : GoodIn wsL_law wsX10_digest_r3 := goodIn_r _ [418, 593, 594, 595, 457, 458, 459, 901, 902, 903, 904, 483, 484, 485, 486, 316, 525, 526, 527, 528, 168, 323, 331, 332] (by decide +kernel) (by decide +kernel)
set_option maxHeartbeats 4000000 in
set_option maxRecDepth 100000 in
theorem gpX10_digest_4 : GoodIn wsL_law wsX10_digest_r4 := goodIn_r _ [333, 334, 175, 335, 336, 337, 338, 339, 487, 488, 489, 490, 172, 1268, 1269, 1270, 1271, 1242, 1243, 1244, 1245, 1162, 1163, 1164] (by decide +kernel) (by decide +kernel)
set_option maxHeartbeats 4000000 in
set_option maxRecDepth 100000 in
theorem gpX10_digest_5 : GoodIn wsL_law wsX10_digest_r5 := goodIn_r _ [1165, 734, 290, 729, 1166, 1167, 1168, 1169, 1170, 1171, 1172, 1173, 311, 312, 313, 314, 1206, 1207, 1208, 1209, 1333, 1334, 1335, 1336] (by decide +kernel) (by decide +kernel)
set_option maxHeartbeats 4000000 in
set_option maxRecDepth 100000 in
theorem gpX10_digest_6 : GoodIn wsL_law wsX10_digest_r6 := goodIn_r _ [1337, 1338, 1339, 1340, 170, 1368, 1369, 1370, 1371, 1372, 1373, 1374, 1375, 1376, 1377, 1378, 1379, 1380, 452, 897, 898, 899, 900, 686] (by decide +kernel) (by decide +kernel)
set_option maxHeartbeats 4000000 in
set_option maxRecDepth 100000 in
theorem gpX10_digest_7 : GoodIn wsL_law wsX10_digest_r7 := goodIn_r _ [905, 906, 907, 908, 631, 563, 564, 565, 627, 628, 629, 630, 909, 910, 911, 730, 731, 732, 733, 735, 736, 737, 738, 739] (by decide +kernel) (by decide +kernel)
set_option maxHeartbeats 4000000 in
set_option maxRecDepth 100000 in
theorem gpX10_digest_8 : GoodIn wsL_law wsX10_digest_r8 := goodIn_r _ [682, 683, 684, 685, 687, 688, 689, 690, 596, 597, 598, 599, 691, 692, 693, 694, 1117, 1118, 1119, 1120, 1121, 920, 921, 1122] (by decide +kernel) (by decide +kernel)
set_option maxHeartbeats 4000000 in
set_option maxRecDepth 100000 in
theorem gpX10_digest_9 : GoodIn wsL_law wsX10_digest_r9 := goodIn_r _ [923, 924, 925, 926, 927, 928, 929, 13, 14, 930, 931, 932, 933, 934, 935, 936, 937, 938, 939, 940, 941, 1123, 943, 944] (by decide +kernel) (by decide +kernel)
set_option maxHeartbeats 4000000 in
set_option maxRecDepth 100000 in
theorem gpX10_digest_10 : GoodIn wsL_law wsX10_digest_r10 := goodIn_r _ [945, 946, 947, 948, 949, 950, 951, 1124, 953, 954, 955, 956, 957, 958, 959, 960, 961, 962, 963, 964, 965, 966, 967, 968] (by decide +kernel) (by decide +kernel)
set_option maxHeartbeats 4000000 in
set_option maxRecDepth 100000 in
theorem gpX10_digest_11 : GoodIn wsL_law wsX10_digest_r11 := goodIn_r _ [969, 970, 971, 201, 202, 203, 204, 196, 197, 198, 205, 206, 207, 208, 972, 973, 211, 974, 975, 976, 977, 978, 979, 980] (by decide +kernel) (by decide +kernel)
set_option maxHeartbeats 4000000 in
set_option maxRecDepth 100000 in
theorem gpX10_digest_12 : GoodIn wsL_law wsX10_digest_r12 := goodIn_r _ [222, 223, 224, 225, 226, 227, 228, 981, 982, 983, 984, 985, 986, 987, 988, 989, 990, 991, 992, 993, 994, 995, 996, 997] (by decide +kernel) (by decide +kernel)
set_option maxHeartbeats 4000000 in
set_option maxRecDepth 100000 in
theorem gpX10_digest_13 : GoodIn wsL_law wsX10_digest_r13 := goodIn_r _ [998, 999, 1000, 1001, 1002, 1003, 1004, 1005, 1006, 1007, 1008, 1009, 1010, 1011, 1012, 1013, 1014, 1015, 1016, 1017, 1018, 1019, 1020, 1021] (by decide +kernel) (by decide +kernel)
set_option maxHeartbeats 4000000 in
set_option maxRecDepth 100000 in
theorem gpX10_digest_14 : GoodIn wsL_law wsX10_digest_r14 := goodIn_r _ [1022, 1023, 1024, 1025, 1026, 1027, 1028, 1029, 1030, 1125, 1032, 1033, 1034, 1035, 1036, 1037, 1038, 1039, 1040, 264, 1041, 1042, 1043, 1044] (by decide +kernel) (by decide +kernel)
set_option maxHeartbeats 4000000 in
set_option maxRecDepth 100000 in
theorem gpX10_digest_15 : GoodIn wsL_law wsX10_digest_r15 := goodIn_r _ [1045, 1046, 1047, 1048, 1049, 1050, 1051, 1052, 1053, 1054, 1055, 1056, 1057, 1058, 1059, 1060, 1061, 1062, 1063, 1126, 1065, 1066, 1067, 1068] (by decide +kernel) (by decide +kernel)
set_option maxHeartbeats 4000000 in
set_option maxRecDepth 100000 in
theorem gpX10_digest_16 : GoodIn wsL_law wsX10_digest_r16 := goodIn_r _ [1069, 1070, 1071, 1072, 1073, 1074, 1075, 1076, 1077, 1078, 1079, 1080, 1081, 1082, 1083, 1084, 1085, 1086, 1087, 1088, 1089, 1090, 1091, 1092] (by decide +kernel) (by decide +kernel)
set_option maxHeartbeats 4000000 in
set_option maxRecDepth 100000 in
theorem gpX10_digest_17 : GoodIn wsL_law wsX10_digest_r17 := goodIn_r _ [1093, 1094, 1095, 1096, 1097, 1098, 1099, 1100, 1101, 1102, 1103, 1104, 1105, 1106, 1107, 1108, 1109, 1110, 1111, 1112, 1422, 1423, 1424, 1425] (by decide +kernel) (by decide +kernel)
set_option maxHeartbeats 4000000 in
set_option maxRecDepth 100000 in
theorem gpX10_digest_18 : GoodIn wsL_law wsX10_digest_r18 := goodIn_r _ [1426, 1427, 1428, 1429] (by decide +kernel) (by decide +kernel)
set_option maxHeartbeats 4000000 in
set_option maxRecDepth 100000 in
theorem ggL_law_X10_digest : GoodIn wsL_law wsX10_digest := goodIn_cons_X10_digest gpX10_digest_0 (goodIn_app (goodIn_app (goodIn_app (goodIn_app (goodIn_app (goodIn_app (goodIn_app gpX10_digest_1 (goodIn_app gpX10_digest_2 (goodIn_app gpX10_digest_3 (goodIn_app gpX10_digest_4 (goodIn_app gpX10_digest_5 (goodIn_app gpX10_digest_6 (goodIn_app gpX10_digest_7 (goodIn_app gpX10_digest_8 (goodIn_app gpX10_digest_9 (goodIn_app gpX10_digest_10 (goodIn_app gpX10_digest_11 (goodIn_app gpX10_digest_12 (goodIn_app gpX10_digest_13 (goodIn_app gpX10_digest_14 (goodIn_app gpX10_digest_15 (goodIn_app gpX10_digest_16 (goodIn_app gpX10_digest_17 gpX10_digest_18))))))))))))))))) (goodIn_sub inlX10 (by decide +kernel))) (goodIn_sub inlJx4a65c (by decide +kernel))) (goodIn_sub inlX8 (by decide +kernel))) (goodIn_sub inlX9 (by decide +kernel))) (goodIn_sub inlJ4 (by decide +kernel))) (goodIn_sub inlJ0 (by decide +kernel)))
set_option maxRecDepth 20000 in
theorem gL_law_X10_digest : GoodIn wsL_law (wsV RL 253 RX10 yX10_digest wsX10_digest) := goodIn_app (goodIn_of _ (by decide +kernel)) ggL_law_X10_digest
-- gL_law_X10_digest
theorem zz_6 : True := trivial
