theorem goodIn_cons_X6_digest {big a : List Cond} {c : Cond} (hc : GoodIn big [c]) (ha : GoodIn big a) : GoodIn big (c :: a) := fun w h => (List.mem_cons.mp h).elim (fun e => hc w (List.mem_cons.mpr (Or.inl e))) (ha w)
set_option maxHeartbeats 4000000 in
set_option maxRecDepth 100000 in
theorem gpX6_digest_0 : GoodIn wsL_law [.code yX6_digest cX6_digest 4 (some .long)] := goodIn_r _ [1395] (by decide +kernel) (by decide +kernel)
set_option maxHeartbeats 4000000 in
set_option maxRecDepth 100000 in
theorem gpX6_digest_1 : GoodIn wsL_law wsX6_digest_r1 := goodIn_r _ [1396, 18, 21, 1397, 1276, 1277, 2, 1278, 98, 99, 15, 22, 1279, 1280, 1281, 1282, 17, 239, 1283, 1284, 1285, 1286, 20, 382] (by decide +kernel) (by decide +kernel)
set_option maxHeartbeats 4000000 in
set_option maxRecDepth 100000 in
theorem gpX6_digest_2 : GoodIn wsL_law wsX6_digest_r2 := goodIn_r _ [883, 581, 582, 38, 583, 48, 1287, 1288, 1289, 1290, 26, 878, 879, 880, 25, 881, 540, 40, 541, 578, 518, 519, 128, 520] (by decide +kernel) (by decide +kernel)
set_option maxHeartbeats 4000000 in
set_option maxRecDepth 100000 in
theorem gpX6_digest_3 : GoodIn wsL_law wsX6_digest_r3 := goodIn_r _ [258, 259, 260, 261, 144, 262, 263, 264, 265, 266, 267, 268, 434, 399, 400, 401, 269, 270, 271, 272, 145, 435, 403, 404] (by decide +kernel) (by decide +kernel)
set_option maxHeartbeats 4000000 in
set_option maxRecDepth 100000 in
theorem gpX6_digest_4 : GoodIn wsL_law wsX6_digest_r4 := goodIn_r _ [405, 882, 717, 718, 719, 134, 254, 255, 256, 257, 139, 1250, 1251, 1252, 1253, 1226, 1227, 1228, 353, 1229, 360, 1230, 359, 1231] (by decide +kernel) (by decide +kernel)
set_option maxHeartbeats 4000000 in
set_option maxRecDepth 100000 in
theorem gpX6_digest_5 : GoodIn wsL_law wsX6_digest_r5 := goodIn_r _ [1232, 1233, 1234, 1235, 1236, 1398, 1399, 1400, 1401, 1402, 1403, 1404, 1405, 240, 241, 242, 243, 244, 245, 1406, 1139, 1140, 1141, 801] (by decide +kernel) (by decide +kernel)
set_option maxHeartbeats 4000000 in
set_option maxRecDepth 100000 in
theorem gpX6_digest_6 : GoodIn wsL_law wsX6_digest_r6 := goodIn_r _ [237, 238, 702, 703, 1142, 1143, 1144, 1145, 1146, 1147, 1148, 1149, 1150, 1151, 1152, 1153, 1154, 1155, 1156, 1157, 1194, 1195, 1196, 1197] (by decide +kernel) (by decide +kernel)
set_option maxHeartbeats 4000000 in
set_option maxRecDepth 100000 in
theorem gpX6_digest_7 : GoodIn wsL_law wsX6_digest_r7 := goodIn_r _ [140, 1198, 1199, 1200, 1201, 1321, 1322, 1323, 1324, 133, 1325, 1326, 1327, 1328, 281, 282, 283, 284, 138, 1407, 1345, 1346, 1347, 1348] (by decide +kernel) (by decide +kernel)
set_option maxHeartbeats 4000000 in
set_option maxRecDepth 100000 in
theorem gpX6_digest_8 : GoodIn wsL_law wsX6_digest_r8 := goodIn_r _ [1349, 1350, 1351, 32, 1352, 1353, 1354, 1355, 1356, 1357, 1358, 1359, 1360, 1361, 1362, 1363, 1408, 1409, 1410, 1411, 381, 383, 384, 385] (by decide +kernel) (by decide +kernel)
set_option maxHeartbeats 4000000 in
set_option maxRecDepth 100000 in
theorem gpX6_digest_9 : GoodIn wsL_law wsX6_digest_r9 := goodIn_r _ [386, 387, 388, 389, 390, 398, 1412, 874, 875, 876, 429, 877, 436, 437, 438, 439, 884, 613, 614, 615, 542, 472, 473, 474] (by decide +kernel) (by decide +kernel)
set_option maxHeartbeats 4000000 in
set_option maxRecDepth 100000 in
theorem gpX6_digest_10 : GoodIn wsL_law wsX6_digest_r10 := goodIn_r _ [543, 468, 469, 470, 142, 471, 475, 476, 477, 478, 616, 617, 618, 619, 553, 620, 885, 886, 887, 888, 622, 431, 432, 433] (by decide +kernel) (by decide +kernel)
set_option maxHeartbeats 4000000 in
set_option maxRecDepth 100000 in
theorem gpX6_digest_11 : GoodIn wsL_law wsX6_digest_r11 := goodIn_r _ [707, 708, 709, 710, 711, 712, 713, 714, 715, 716, 889, 890, 891, 892, 44, 643, 644, 645, 646, 43, 647, 648, 649, 650] (by decide +kernel) (by decide +kernel)
set_option maxHeartbeats 4000000 in
set_option maxRecDepth 100000 in
theorem gpX6_digest_12 : GoodIn wsL_law wsX6_digest_r12 := goodIn_r _ [651, 652, 653, 654, 655, 656, 657, 52, 658, 659, 660, 661, 662, 663, 664, 665, 666, 667, 668, 669, 670, 585, 586, 587] (by decide +kernel) (by decide +kernel)
set_option maxHeartbeats 4000000 in
set_option maxRecDepth 100000 in
theorem gpX6_digest_13 : GoodIn wsL_law wsX6_digest_r13 := goodIn_r _ [671, 672, 673, 674, 1413, 1414, 1415] (by decide +kernel) (by decide +kernel)
set_option maxHeartbeats 4000000 in
set_option maxRecDepth 100000 in
theorem ggL_law_X6_digest : GoodIn wsL_law wsX6_digest := goodIn_cons_X6_digest gpX6_digest_0 (goodIn_app (goodIn_app (goodIn_app (goodIn_app (goodIn_app (goodIn_app (goodIn_app (goodIn_app (goodIn_app (goodIn_app gpX6_digest_1 (goodIn_app gpX6_digest_2 (goodIn_app gpX6_digest_3 (goodIn_app gpX6_digest_4 (goodIn_app gpX6_digest_5 (goodIn_app gpX6_digest_6 (goodIn_app gpX6_digest_7 (goodIn_app gpX6_digest_8 (goodIn_app gpX6_digest_9 (goodIn_app gpX6_digest_10 (goodIn_app gpX6_digest_11 (goodIn_app gpX6_digest_12 gpX6_digest_13)))))))))))) (goodIn_sub inlX6 (by decide +kernel))) (goodIn_sub inlX0 (by decide +kernel))) (goodIn_sub inlX1 (by decide +kernel))) (goodIn_sub inlX4 (by decide +kernel))) (goodIn_sub inlX5 (by decide +kernel))) (goodIn_sub inlX3 (by decide +kernel))) (goodIn_sub inlX2 (by decide +kernel))) (goodIn_sub (fun _ h => List.mem_append_left _ (List.mem_append_left _ (List.mem_append_right _ h))) (by decide +kernel))) (goodIn_sub (fun _ h => List.mem_append_right _ h) (by decide +kernel)))
set_option maxRecDepth 20000 in
theorem gL_law_X6_digest : GoodIn wsL_law (wsV RL 249 RX6 yX6_digest wsX6_digest) := goodIn_app (goodIn_of _ (by decide +kernel)) ggL_law_X6_digest
-- gL_law_X6_digest
theorem zz_5 : True := trivial
