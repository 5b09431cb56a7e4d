theorem dL_law_825 : decode cL_law 825 = .ok (.aload_n 1, 1) := by decide +kernel
theorem dL_law_826 : decode cL_law 826 = .ok (.aload_n 0, 1) := by decide +kernel
theorem dL_law_827 : decode cL_law 827 = .ok (.iload 4, 2) := by decide +kernel
theorem dL_law_829 : decode cL_law 829 = .ok (.iconst 1, 1) := by decide +kernel
theorem dL_law_830 : decode cL_law 830 = .ok (.iadd, 1) := by decide +kernel
theorem dL_law_831 : decode cL_law 831 = .ok (.iaload, 1) := by decide +kernel
theorem dL_law_832 : decode cL_law 832 = .ok (.aload_n 0, 1) := by decide +kernel
theorem dL_law_833 : decode cL_law 833 = .ok (.iload 4, 2) := by decide +kernel
theorem dL_law_835 : decode cL_law 835 = .ok (.iconst 2, 1) := by decide +kernel
theorem dL_law_836 : decode cL_law 836 = .ok (.iadd, 1) := by decide +kernel
theorem dL_law_837 : decode cL_law 837 = .ok (.iaload, 1) := by decide +kernel
theorem dL_law_838 : decode cL_law 838 = .ok (.aload_n 0, 1) := by decide +kernel
theorem dL_law_839 : decode cL_law 839 = .ok (.iload 4, 2) := by decide +kernel
theorem dL_law_841 : decode cL_law 841 = .ok (.iconst 3, 1) := by decide +kernel
theorem dL_law_842 : decode cL_law 842 = .ok (.iadd, 1) := by decide +kernel
theorem dL_law_843 : decode cL_law 843 = .ok (.iaload, 1) := by decide +kernel
theorem dL_law_844 : decode cL_law 844 = .ok (.aload_n 3, 1) := by decide +kernel
set_option maxRecDepth 20000 in
theorem ggL_law_L_power : GoodIn wsL_law wsL_power := goodIn_ca (goodIn_ca (goodIn_r _ [531, 232, 92, 532, 533, 534, 2, 535, 98, 99, 26, 383, 384, 385, 386, 244, 245, 387, 388, 389, 390, 20, 426, 427, 428, 381, 429, 536, 537, 538, 25, 539, 39, 540, 541, 542, 472, 473, 38, 474, 48, 543, 468, 469, 128, 470, 142, 134, 471, 434, 399, 400, 401, 475, 476, 477, 478, 254, 255, 256, 257, 139, 435, 403, 404, 405, 269, 270, 271, 272, 145, 544, 545, 546, 547, 382, 548, 549, 550, 551, 552, 553, 436, 437, 438, 439, 1444, 1445, 1446, 1430, 1431, 1432, 1433, 1434, 1435, 1436, 1437, 1438, 1476, 1477, 1457, 1458, 1459, 1460, 1461, 1462, 1463, 1464, 1465, 1466, 1467, 1447, 1448, 1449, 1452] (by decide +kernel) (by decide +kernel)) (goodIn_sub (fun _ h => List.mem_append_left _ (List.mem_append_left _ (List.mem_append_right _ h))) (by decide +kernel))) (goodIn_sub (fun _ h => List.mem_append_right _ h) (by decide +kernel))
set_option maxRecDepth 20000 in
theorem gL_law_L_power : GoodIn wsL_law (va_wsS RL 168 yL_power wsL_power) := goodIn_app (goodIn_of _ (by decide +kernel)) ggL_law_L_power
theorem dL_law_845 : decode cL_law 845 = .ok (.invokestatic 168, 3) := by decide +kernel
theorem dL_law_848 : decode cL_law 848 = .ok (.istore 5, 2) := by decide +kernel
theorem dL_law_850 : decode cL_law 850 = .ok (.aload_n 2, 1) := by decide +kernel
theorem dL_law_851 : decode cL_law 851 = .ok (.aload_n 0, 1) := by decide +kernel
theorem dL_law_852 : decode cL_law 852 = .ok (.iload 4, 2) := by decide +kernel
theorem dL_law_854 : decode cL_law 854 = .ok (.iconst 1, 1) := by decide +kernel
theorem dL_law_855 : decode cL_law 855 = .ok (.iadd, 1) := by decide +kernel
theorem dL_law_856 : decode cL_law 856 = .ok (.iaload, 1) := by decide +kernel
theorem dL_law_857 : decode cL_law 857 = .ok (.aload_n 0, 1) := by decide +kernel
theorem dL_law_858 : decode cL_law 858 = .ok (.iload 4, 2) := by decide +kernel
theorem dL_law_860 : decode cL_law 860 = .ok (.iconst 2, 1) := by decide +kernel
theorem dL_law_861 : decode cL_law 861 = .ok (.iadd, 1) := by decide +kernel
theorem dL_law_862 : decode cL_law 862 = .ok (.iaload, 1) := by decide +kernel
theorem dL_law_863 : decode cL_law 863 = .ok (.aload_n 0, 1) := by decide +kernel
theorem dL_law_864 : decode cL_law 864 = .ok (.iload 4, 2) := by decide +kernel
theorem dL_law_866 : decode cL_law 866 = .ok (.iconst 3, 1) := by decide +kernel
theorem dL_law_867 : decode cL_law 867 = .ok (.iadd, 1) := by decide +kernel
theorem dL_law_868 : decode cL_law 868 = .ok (.iaload, 1) := by decide +kernel
set_option maxRecDepth 20000 in
theorem ggL_law_X10_power : GoodIn wsL_law wsX10_power := goodIn_r _ [557, 106, 410, 411, 412, 5, 413, 69, 111, 112, 113, 67, 114, 115, 162, 163, 164, 107, 108, 109, 110, 444, 445, 446, 447, 315, 316, 295, 296, 297, 298, 299, 300, 301, 302, 303, 304, 305, 306, 307, 308, 309, 310, 74, 483, 484, 485, 486, 68, 289, 414, 415, 416, 417, 418, 558, 559, 560, 161, 561, 562, 563, 564, 565, 31, 323, 324, 325, 326, 321, 566, 488, 489, 490, 168, 172, 337, 338, 339, 64, 453, 454, 455, 456, 457, 458, 459, 1439, 1440, 1441, 1442, 1443, 1454, 1455, 1456, 1474, 1475, 1468, 1469, 1470, 1471, 1472, 1473] (by decide +kernel) (by decide +kernel)
set_option maxRecDepth 20000 in
theorem gL_law_X10_power : GoodIn wsL_law (wsV RL 170 RX10 yX10_power wsX10_power) := goodIn_app (goodIn_of _ (by decide +kernel)) ggL_law_X10_power
theorem dL_law_869 : decode cL_law 869 = .ok (.invokevirtual 170, 3) := by decide +kernel
theorem dL_law_872 : decode cL_law 872 = .ok (.istore 6, 2) := by decide +kernel
theorem dL_law_874 : decode cL_law 874 = .ok (.aload_n 2, 1) := by decide +kernel
theorem dL_law_875 : decode cL_law 875 = .ok (.invokevirtual 138, 3) := by decide +kernel
theorem dL_law_878 : decode cL_law 878 = .ok (.iload 5, 2) := by decide +kernel
theorem dL_law_880 : decode cL_law 880 = .ok (.if_icmp .eq 5, 3) := by decide +kernel
theorem dL_law_885 : decode cL_law 885 = .ok (.iload 5, 2) := by decide +kernel
theorem dL_law_887 : decode cL_law 887 = .ok (.ifCond .ne 16, 3) := by decide +kernel
theorem dL_law_903 : decode cL_law 903 = .ok (.goto 1532, 3) := by decide +kernel
theorem dL_law_906 : decode cL_law 906 = .ok (.aload_n 1, 1) := by decide +kernel
theorem dL_law_907 : decode cL_law 907 = .ok (.aload_n 0, 1) := by decide +kernel
theorem dL_law_908 : decode cL_law 908 = .ok (.iload 4, 2) := by decide +kernel
theorem dL_law_910 : decode cL_law 910 = .ok (.iconst 1, 1) := by decide +kernel
theorem dL_law_911 : decode cL_law 911 = .ok (.iadd, 1) := by decide +kernel
theorem dL_law_912 : decode cL_law 912 = .ok (.iaload, 1) := by decide +kernel
theorem dL_law_913 : decode cL_law 913 = .ok (.aload_n 0, 1) := by decide +kernel
theorem dL_law_914 : decode cL_law 914 = .ok (.iload 4, 2) := by decide +kernel
theorem dL_law_916 : decode cL_law 916 = .ok (.iconst 2, 1) := by decide +kernel
theorem dL_law_917 : decode cL_law 917 = .ok (.iadd, 1) := by decide +kernel
theorem dL_law_918 : decode cL_law 918 = .ok (.iaload, 1) := by decide +kernel
theorem dL_law_919 : decode cL_law 919 = .ok (.aload_n 3, 1) := by decide +kernel
set_option maxRecDepth 20000 in
theorem ggL_law_L_invert : GoodIn wsL_law wsL_invert := goodIn_ca (goodIn_ca (goodIn_ca (goodIn_r _ [569, 232, 92, 93, 570, 571, 572, 2, 573, 100, 101, 26, 383, 384, 385, 386, 244, 245, 387, 388, 389, 390, 20, 426, 427, 428, 98, 99, 381, 429, 574, 575, 576, 25, 577, 540, 39, 541, 40, 578, 518, 519, 128, 520, 258, 259, 260, 261, 144, 262, 263, 264, 265, 266, 267, 268, 434, 399, 400, 38, 401, 48, 269, 270, 271, 272, 145, 435, 403, 404, 405, 543, 468, 469, 470, 142, 134, 471, 472, 473, 474, 475, 476, 477, 478, 254, 255, 256, 257, 139, 579, 580, 581, 582, 583, 584, 585, 586, 587, 588, 499, 500, 501, 544, 545, 546, 547, 382, 548, 549, 550, 551, 552, 553, 436, 437, 438, 439, 1444, 1445, 1446, 1430, 1431, 1432, 1433, 1434, 1435, 1436, 1437, 1438, 1476, 1477, 1457, 1458, 1459, 1460, 1461, 1462, 1463, 1464, 1465, 1466, 1467, 1447, 1448, 1449, 1452] (by decide +kernel) (by decide +kernel)) (goodIn_sub (fun _ h => List.mem_append_left _ (List.mem_append_right _ h)) (by decide +kernel))) (goodIn_sub (fun _ h => List.mem_append_right _ h) (by decide +kernel))) (goodIn_sub (fun _ h => List.mem_append_left _ (List.mem_append_left _ (List.mem_append_right _ h))) (by decide +kernel))
set_option maxRecDepth 20000 in
theorem gL_law_L_invert : GoodIn wsL_law (va_wsS RL 171 yL_invert wsL_invert) := goodIn_app (goodIn_of _ (by decide +kernel)) ggL_law_L_invert
theorem dL_law_920 : decode cL_law 920 = .ok (.invokestatic 171, 3) := by decide +kernel
theorem dL_law_923 : decode cL_law 923 = .ok (.istore 5, 2) := by decide +kernel
theorem dL_law_925 : decode cL_law 925 = .ok (.aload_n 2, 1) := by decide +kernel
theorem dL_law_926 : decode cL_law 926 = .ok (.aload_n 0, 1) := by decide +kernel
theorem dL_law_927 : decode cL_law 927 = .ok (.iload 4, 2) := by decide +kernel
theorem dL_law_929 : decode cL_law 929 = .ok (.iconst 1, 1) := by decide +kernel
theorem dL_law_930 : decode cL_law 930 = .ok (.iadd, 1) := by decide +kernel
theorem dL_law_931 : decode cL_law 931 = .ok (.iaload, 1) := by decide +kernel
theorem dL_law_932 : decode cL_law 932 = .ok (.aload_n 0, 1) := by decide +kernel
theorem dL_law_933 : decode cL_law 933 = .ok (.iload 4, 2) := by decide +kernel
theorem dL_law_935 : decode cL_law 935 = .ok (.iconst 2, 1) := by decide +kernel
theorem dL_law_936 : decode cL_law 936 = .ok (.iadd, 1) := by decide +kernel
theorem dL_law_937 : decode cL_law 937 = .ok (.iaload, 1) := by decide +kernel
set_option maxRecDepth 20000 in
theorem ggL_law_X10_invert : GoodIn wsL_law wsX10_invert := goodIn_r _ [592, 106, 410, 411, 412, 5, 413, 69, 111, 112, 113, 67, 114, 115, 162, 163, 164, 107, 108, 109, 110, 444, 445, 446, 447, 315, 316, 295, 296, 297, 298, 299, 300, 301, 302, 303, 304, 305, 306, 307, 308, 309, 310, 74, 483, 484, 485, 486, 68, 289, 414, 415, 416, 417, 418, 525, 526, 527, 161, 528, 31, 168, 323, 324, 325, 326, 321, 331, 332, 333, 334, 175, 335, 336, 337, 338, 339, 64, 487, 488, 489, 490, 172, 593, 594, 595, 457, 458, 459, 596, 597, 598, 599, 452, 506, 507, 508, 509, 453, 454, 455, 456, 1439, 1440, 1441, 1442, 1443, 1454, 1455, 1456, 1474, 1475, 1468, 1469, 1470, 1471, 1472, 1473] (by decide +kernel) (by decide +kernel)
set_option maxRecDepth 20000 in
theorem gL_law_X10_invert : GoodIn wsL_law (wsV RL 173 RX10 yX10_invert wsX10_invert) := goodIn_app (goodIn_of _ (by decide +kernel)) ggL_law_X10_invert
theorem dL_law_938 : decode cL_law 938 = .ok (.invokevirtual 173, 3) := by decide +kernel
theorem dL_law_941 : decode cL_law 941 = .ok (.istore 6, 2) := by decide +kernel
theorem dL_law_943 : decode cL_law 943 = .ok (.aload_n 2, 1) := by decide +kernel
theorem dL_law_944 : decode cL_law 944 = .ok (.invokevirtual 138, 3) := by decide +kernel
theorem dL_law_947 : decode cL_law 947 = .ok (.iload 5, 2) := by decide +kernel
theorem dL_law_949 : decode cL_law 949 = .ok (.if_icmp .eq 5, 3) := by decide +kernel
theorem dL_law_954 : decode cL_law 954 = .ok (.iload 5, 2) := by decide +kernel
theorem dL_law_956 : decode cL_law 956 = .ok (.ifCond .ne 16, 3) := by decide +kernel
theorem dL_law_972 : decode cL_law 972 = .ok (.goto 1463, 3) := by decide +kernel
theorem dL_law_975 : decode cL_law 975 = .ok (.aload_n 1, 1) := by decide +kernel
theorem dL_law_976 : decode cL_law 976 = .ok (.aload_n 0, 1) := by decide +kernel
theorem dL_law_977 : decode cL_law 977 = .ok (.iload 4, 2) := by decide +kernel
theorem dL_law_979 : decode cL_law 979 = .ok (.iconst 1, 1) := by decide +kernel
theorem dL_law_980 : decode cL_law 980 = .ok (.iadd, 1) := by decide +kernel
theorem dL_law_981 : decode cL_law 981 = .ok (.iaload, 1) := by decide +kernel
theorem dL_law_982 : decode cL_law 982 = .ok (.aload_n 0, 1) := by decide +kernel
theorem dL_law_983 : decode cL_law 983 = .ok (.iload 4, 2) := by decide +kernel
theorem dL_law_985 : decode cL_law 985 = .ok (.iconst 2, 1) := by decide +kernel
theorem dL_law_986 : decode cL_law 986 = .ok (.iadd, 1) := by decide +kernel
theorem dL_law_987 : decode cL_law 987 = .ok (.iaload, 1) := by decide +kernel
theorem dL_law_988 : decode cL_law 988 = .ok (.aload_n 3, 1) := by decide +kernel
set_option maxRecDepth 20000 in
theorem ggL_law_L_series : GoodIn wsL_law wsL_series := goodIn_ca (goodIn_ca (goodIn_ca (goodIn_r _ [602, 232, 92, 93, 603, 604, 605, 2, 606, 100, 101, 26, 383, 384, 385, 386, 244, 245, 387, 388, 389, 390, 20, 426, 427, 428, 98, 99, 381, 429, 607, 608, 609, 25, 610, 540, 611, 39, 40, 541, 612, 613, 614, 615, 542, 472, 473, 38, 474, 48, 543, 468, 469, 128, 470, 142, 134, 471, 434, 399, 400, 401, 475, 476, 477, 478, 254, 255, 256, 257, 139, 435, 403, 404, 405, 269, 270, 271, 272, 145, 616, 617, 618, 619, 553, 620, 581, 582, 583, 584, 585, 586, 587, 621, 622, 431, 432, 433, 544, 545, 546, 547, 382, 548, 549, 550, 551, 552, 436, 437, 438, 439, 1444, 1445, 1446, 1430, 1431, 1432, 1433, 1434, 1435, 1436, 1437, 1438, 1476, 1477, 1457, 1458, 1459, 1460, 1461, 1462, 1463, 1464, 1465, 1466, 1467, 1447, 1448, 1449, 1452] (by decide +kernel) (by decide +kernel)) (goodIn_sub (fun _ h => List.mem_append_left _ (List.mem_append_right _ h)) (by decide +kernel))) (goodIn_sub (fun _ h => List.mem_append_right _ h) (by decide +kernel))) (goodIn_sub (fun _ h => List.mem_append_left _ (List.mem_append_left _ (List.mem_append_right _ h))) (by decide +kernel))
set_option maxRecDepth 20000 in
theorem gL_law_L_series : GoodIn wsL_law (va_wsS RL 174 yL_series wsL_series) := goodIn_app (goodIn_of _ (by decide +kernel)) ggL_law_L_series
theorem dL_law_989 : decode cL_law 989 = .ok (.invokestatic 174, 3) := by decide +kernel
theorem dL_law_992 : decode cL_law 992 = .ok (.istore 5, 2) := by decide +kernel
theorem dL_law_994 : decode cL_law 994 = .ok (.aload_n 2, 1) := by decide +kernel
theorem dL_law_995 : decode cL_law 995 = .ok (.aload_n 0, 1) := by decide +kernel
theorem dL_law_996 : decode cL_law 996 = .ok (.iload 4, 2) := by decide +kernel
theorem dL_law_998 : decode cL_law 998 = .ok (.iconst 1, 1) := by decide +kernel
theorem dL_law_999 : decode cL_law 999 = .ok (.iadd, 1) := by decide +kernel
theorem dL_law_1000 : decode cL_law 1000 = .ok (.iaload, 1) := by decide +kernel
theorem dL_law_1001 : decode cL_law 1001 = .ok (.aload_n 0, 1) := by decide +kernel
theorem dL_law_1002 : decode cL_law 1002 = .ok (.iload 4, 2) := by decide +kernel
theorem dL_law_1004 : decode cL_law 1004 = .ok (.iconst 2, 1) := by decide +kernel
theorem dL_law_1005 : decode cL_law 1005 = .ok (.iadd, 1) := by decide +kernel
theorem dL_law_1006 : decode cL_law 1006 = .ok (.iaload, 1) := by decide +kernel
set_option maxRecDepth 20000 in
theorem ggL_law_X10_series : GoodIn wsL_law wsX10_series := goodIn_r _ [626, 106, 410, 411, 412, 5, 413, 69, 111, 112, 113, 67, 114, 115, 162, 163, 164, 107, 108, 109, 110, 444, 445, 446, 447, 315, 316, 295, 296, 297, 298, 299, 300, 301, 302, 303, 304, 305, 306, 307, 308, 309, 310, 74, 627, 628, 629, 630, 64, 483, 484, 485, 486, 68, 289, 631, 563, 564, 161, 565, 31, 323, 324, 325, 326, 321, 414, 415, 416, 417, 418, 487, 488, 489, 490, 168, 172, 337, 338, 339, 457, 458, 459, 596, 597, 598, 599, 452, 558, 559, 560, 561, 562, 566, 448, 449, 450, 451, 453, 454, 455, 456, 1439, 1440, 1441, 1442, 1443, 1454, 1455, 1456, 1474, 1475, 1468, 1469, 1470, 1471, 1472, 1473] (by decide +kernel) (by decide +kernel)
set_option maxRecDepth 20000 in
theorem gL_law_X10_series : GoodIn wsL_law (wsV RL 176 RX10 yX10_series wsX10_series) := goodIn_app (goodIn_of _ (by decide +kernel)) ggL_law_X10_series
theorem dL_law_1007 : decode cL_law 1007 = .ok (.invokevirtual 176, 3) := by decide +kernel
theorem dL_law_1010 : decode cL_law 1010 = .ok (.istore 6, 2) := by decide +kernel
theorem dL_law_1012 : decode cL_law 1012 = .ok (.aload_n 2, 1) := by decide +kernel
theorem dL_law_1013 : decode cL_law 1013 = .ok (.invokevirtual 138, 3) := by decide +kernel
theorem dL_law_1016 : decode cL_law 1016 = .ok (.iload 5, 2) := by decide +kernel
theorem dL_law_1018 : decode cL_law 1018 = .ok (.if_icmp .eq 5, 3) := by decide +kernel
theorem dL_law_1023 : decode cL_law 1023 = .ok (.iload 5, 2) := by decide +kernel
theorem dL_law_1025 : decode cL_law 1025 = .ok (.ifCond .ne 16, 3) := by decide +kernel
theorem dL_law_1041 : decode cL_law 1041 = .ok (.goto 1394, 3) := by decide +kernel
theorem dL_law_1044 : decode cL_law 1044 = .ok (.aload_n 1, 1) := by decide +kernel
theorem dL_law_1045 : decode cL_law 1045 = .ok (.aload_n 0, 1) := by decide +kernel
theorem dL_law_1046 : decode cL_law 1046 = .ok (.iload 4, 2) := by decide +kernel
theorem dL_law_1048 : decode cL_law 1048 = .ok (.iconst 1, 1) := by decide +kernel
theorem dL_law_1049 : decode cL_law 1049 = .ok (.iadd, 1) := by decide +kernel
theorem dL_law_1050 : decode cL_law 1050 = .ok (.iaload, 1) := by decide +kernel
theorem dL_law_1051 : decode cL_law 1051 = .ok (.aload_n 0, 1) := by decide +kernel
theorem dL_law_1052 : decode cL_law 1052 = .ok (.iload 4, 2) := by decide +kernel
theorem dL_law_1054 : decode cL_law 1054 = .ok (.iconst 2, 1) := by decide +kernel
theorem dL_law_1055 : decode cL_law 1055 = .ok (.iadd, 1) := by decide +kernel
theorem dL_law_1056 : decode cL_law 1056 = .ok (.iaload, 1) := by decide +kernel
theorem dL_law_1057 : decode cL_law 1057 = .ok (.aload_n 3, 1) := by decide +kernel
set_option maxRecDepth 20000 in
theorem ggL_law_L_killer : GoodIn wsL_law wsL_killer := goodIn_ca (goodIn_ca (goodIn_ca (goodIn_r _ [634, 232, 92, 93, 635, 636, 637, 2, 638, 100, 101, 26, 383, 384, 385, 386, 244, 245, 387, 388, 389, 390, 20, 426, 427, 428, 98, 99, 381, 429, 639, 640, 641, 25, 642, 540, 44, 643, 39, 644, 645, 646, 43, 647, 648, 649, 650, 651, 255, 256, 128, 257, 139, 652, 399, 400, 38, 401, 48, 653, 270, 271, 272, 145, 654, 655, 656, 657, 52, 658, 659, 660, 661, 662, 663, 664, 665, 666, 667, 668, 669, 670, 585, 586, 587, 269, 671, 672, 673, 674, 542, 472, 473, 474, 675, 621, 676, 403, 404, 405, 544, 545, 546, 547, 382, 548, 549, 550, 551, 552, 553, 436, 437, 438, 439, 1444, 1445, 1446, 1430, 1431, 1432, 1433, 1434, 1435, 1436, 1437, 1438, 1476, 1477, 1457, 1458, 1459, 1460, 1461, 1462, 1463, 1464, 1465, 1466, 1467, 1447, 1448, 1449, 1452, 1453] (by decide +kernel) (by decide +kernel)) (goodIn_sub (fun _ h => List.mem_append_left _ (List.mem_append_right _ h)) (by decide +kernel))) (goodIn_sub (fun _ h => List.mem_append_right _ h) (by decide +kernel))) (goodIn_sub (fun _ h => List.mem_append_left _ (List.mem_append_left _ (List.mem_append_right _ h))) (by decide +kernel))
set_option maxRecDepth 20000 in
theorem gL_law_L_killer : GoodIn wsL_law (va_wsS RL 177 yL_killer wsL_killer) := goodIn_app (goodIn_of _ (by decide +kernel)) ggL_law_L_killer
theorem dL_law_1058 : decode cL_law 1058 = .ok (.invokestatic 177, 3) := by decide +kernel
theorem dL_law_1061 : decode cL_law 1061 = .ok (.istore 5, 2) := by decide +kernel
theorem dL_law_1063 : decode cL_law 1063 = .ok (.aload_n 2, 1) := by decide +kernel
theorem dL_law_1064 : decode cL_law 1064 = .ok (.aload_n 0, 1) := by decide +kernel
theorem dL_law_1065 : decode cL_law 1065 = .ok (.iload 4, 2) := by decide +kernel
theorem dL_law_1067 : decode cL_law 1067 = .ok (.iconst 1, 1) := by decide +kernel
theorem dL_law_1068 : decode cL_law 1068 = .ok (.iadd, 1) := by decide +kernel
theorem dL_law_1069 : decode cL_law 1069 = .ok (.iaload, 1) := by decide +kernel
theorem dL_law_1070 : decode cL_law 1070 = .ok (.aload_n 0, 1) := by decide +kernel
theorem dL_law_1071 : decode cL_law 1071 = .ok (.iload 4, 2) := by decide +kernel
theorem dL_law_1073 : decode cL_law 1073 = .ok (.iconst 2, 1) := by decide +kernel
theorem dL_law_1074 : decode cL_law 1074 = .ok (.iadd, 1) := by decide +kernel
theorem dL_law_1075 : decode cL_law 1075 = .ok (.iaload, 1) := by decide +kernel
set_option maxRecDepth 20000 in
theorem ggL_law_X10_killer : GoodIn wsL_law wsX10_killer := goodIn_r _ [680, 106, 681, 31, 410, 411, 412, 5, 413, 69, 111, 112, 113, 67, 114, 115, 162, 163, 164, 107, 108, 109, 110, 444, 445, 446, 447, 315, 316, 295, 296, 297, 298, 299, 300, 301, 302, 303, 304, 305, 306, 307, 308, 309, 310, 74, 414, 415, 416, 417, 418, 682, 683, 684, 685, 686, 483, 484, 485, 486, 68, 289, 487, 488, 489, 161, 490, 168, 172, 323, 324, 325, 326, 321, 337, 338, 339, 64, 687, 688, 689, 690, 596, 597, 598, 599, 452, 691, 692, 693, 694, 453, 454, 455, 456, 457, 458, 459, 1439, 1440, 1441, 1442, 1443, 1454, 1455, 1456, 1474, 1475, 1468, 1469, 1470, 1471, 1472, 1473] (by decide +kernel) (by decide +kernel)
set_option maxRecDepth 20000 in
theorem gL_law_X10_killer : GoodIn wsL_law (wsV RL 179 RX10 yX10_killer wsX10_killer) := goodIn_app (goodIn_of _ (by decide +kernel)) ggL_law_X10_killer
theorem dL_law_1076 : decode cL_law 1076 = .ok (.invokevirtual 179, 3) := by decide +kernel
theorem dL_law_1079 : decode cL_law 1079 = .ok (.istore 6, 2) := by decide +kernel
theorem dL_law_1081 : decode cL_law 1081 = .ok (.aload_n 2, 1) := by decide +kernel
theorem dL_law_1082 : decode cL_law 1082 = .ok (.invokevirtual 138, 3) := by decide +kernel
theorem dL_law_1085 : decode cL_law 1085 = .ok (.iload 5, 2) := by decide +kernel
theorem dL_law_1087 : decode cL_law 1087 = .ok (.if_icmp .eq 5, 3) := by decide +kernel
theorem dL_law_1092 : decode cL_law 1092 = .ok (.iload 5, 2) := by decide +kernel
theorem dL_law_1094 : decode cL_law 1094 = .ok (.ifCond .ne 16, 3) := by decide +kernel
theorem dL_law_1110 : decode cL_law 1110 = .ok (.goto 1325, 3) := by decide +kernel
theorem dL_law_1113 : decode cL_law 1113 = .ok (.aload_n 1, 1) := by decide +kernel
theorem dL_law_1114 : decode cL_law 1114 = .ok (.aload_n 0, 1) := by decide +kernel
theorem dL_law_1115 : decode cL_law 1115 = .ok (.iload 4, 2) := by decide +kernel
theorem dL_law_1117 : decode cL_law 1117 = .ok (.iconst 1, 1) := by decide +kernel
theorem dL_law_1118 : decode cL_law 1118 = .ok (.iadd, 1) := by decide +kernel
theorem dL_law_1119 : decode cL_law 1119 = .ok (.iaload, 1) := by decide +kernel
theorem dL_law_1120 : decode cL_law 1120 = .ok (.aload_n 3, 1) := by decide +kernel
set_option maxRecDepth 20000 in
theorem ggL_law_L_hang : GoodIn wsL_law wsL_hang := goodIn_ca (goodIn_ca (goodIn_r _ [697, 232, 93, 698, 699, 700, 2, 701, 100, 101, 381, 702, 703, 382, 383, 384, 385, 386, 244, 245, 387, 388, 389, 390, 20, 704, 705, 706, 707, 708, 709, 128, 710, 144, 711, 712, 713, 38, 714, 48, 715, 263, 264, 265, 266, 267, 268, 716, 717, 718, 719, 134, 434, 399, 400, 401, 254, 255, 256, 257, 139, 269, 270, 271, 272, 145, 720, 721, 722, 29, 723, 59, 58, 724, 550, 551, 552, 553, 1444, 1445, 1446, 1476, 1477, 1457, 1458, 1459, 1460, 1461, 1462, 1463, 1464, 1465, 1466, 1467, 1450, 1451, 1430, 1431, 1432, 1433, 1434, 1435, 1436, 1437, 1438, 1452] (by decide +kernel) (by decide +kernel)) (goodIn_sub (fun _ h => List.mem_append_left _ (List.mem_append_right _ h)) (by decide +kernel))) (goodIn_sub (fun _ h => List.mem_append_right _ h) (by decide +kernel))
set_option maxRecDepth 20000 in
theorem gL_law_L_hang : GoodIn wsL_law (va_wsS RL 180 yL_hang wsL_hang) := goodIn_app (goodIn_of _ (by decide +kernel)) ggL_law_L_hang
theorem dL_law_1121 : decode cL_law 1121 = .ok (.invokestatic 180, 3) := by decide +kernel
theorem dL_law_1124 : decode cL_law 1124 = .ok (.istore 5, 2) := by decide +kernel
theorem dL_law_1126 : decode cL_law 1126 = .ok (.aload_n 2, 1) := by decide +kernel
theorem dL_law_1127 : decode cL_law 1127 = .ok (.aload_n 0, 1) := by decide +kernel
theorem dL_law_1128 : decode cL_law 1128 = .ok (.iload 4, 2) := by decide +kernel
theorem dL_law_1130 : decode cL_law 1130 = .ok (.iconst 1, 1) := by decide +kernel
theorem dL_law_1131 : decode cL_law 1131 = .ok (.iadd, 1) := by decide +kernel
theorem dL_law_1132 : decode cL_law 1132 = .ok (.iaload, 1) := by decide +kernel
set_option maxRecDepth 20000 in
theorem ggL_law_X10_hang : GoodIn wsL_law wsX10_hang := goodIn_r _ [728, 106, 729, 410, 411, 412, 5, 413, 69, 111, 112, 113, 67, 114, 115, 162, 163, 164, 107, 108, 109, 110, 483, 484, 485, 486, 68, 315, 316, 289, 295, 296, 297, 298, 299, 300, 301, 302, 303, 304, 305, 306, 307, 308, 309, 310, 74, 730, 731, 732, 733, 734, 414, 415, 416, 417, 418, 457, 458, 459, 735, 335, 336, 736, 737, 738, 739, 487, 488, 489, 161, 490, 31, 168, 172, 323, 324, 325, 326, 321, 337, 338, 339, 64, 506, 507, 508, 509, 177, 178, 179, 180, 181, 182, 183, 184, 185, 186, 187, 188, 189, 190, 191, 192, 193, 194, 73, 195, 196, 197, 198, 199, 200, 201, 202, 203, 204, 205, 206, 207, 208, 209, 210, 211, 212, 213, 214, 215, 216, 217, 218, 219, 220, 221, 222, 223, 224, 225, 226, 227, 228, 1439, 1440, 1441, 1442, 1443, 1468, 1469, 1470, 1471, 1472, 1473, 1454, 1455, 1456, 1474, 1475] (by decide +kernel) (by decide +kernel)
set_option maxRecDepth 20000 in
theorem gL_law_X10_hang : GoodIn wsL_law (wsV RL 182 RX10 yX10_hang wsX10_hang) := goodIn_app (goodIn_of _ (by decide +kernel)) ggL_law_X10_hang
theorem dL_law_1133 : decode cL_law 1133 = .ok (.invokevirtual 182, 3) := by decide +kernel
theorem dL_law_1136 : decode cL_law 1136 = .ok (.istore 6, 2) := by decide +kernel
theorem dL_law_1138 : decode cL_law 1138 = .ok (.aload_n 2, 1) := by decide +kernel
theorem dL_law_1139 : decode cL_law 1139 = .ok (.invokevirtual 138, 3) := by decide +kernel
theorem dL_law_1142 : decode cL_law 1142 = .ok (.iload 5, 2) := by decide +kernel
theorem dL_law_1144 : decode cL_law 1144 = .ok (.if_icmp .eq 5, 3) := by decide +kernel
theorem dL_law_1149 : decode cL_law 1149 = .ok (.iload 5, 2) := by decide +kernel
theorem dL_law_1151 : decode cL_law 1151 = .ok (.ifCond .ne 16, 3) := by decide +kernel
theorem dL_law_1167 : decode cL_law 1167 = .ok (.goto 1268, 3) := by decide +kernel
theorem dL_law_1170 : decode cL_law 1170 = .ok (.aload_n 1, 1) := by decide +kernel
theorem dL_law_1171 : decode cL_law 1171 = .ok (.aload_n 0, 1) := by decide +kernel
theorem dL_law_1172 : decode cL_law 1172 = .ok (.iload 4, 2) := by decide +kernel
theorem dL_law_1174 : decode cL_law 1174 = .ok (.iconst 1, 1) := by decide +kernel
theorem dL_law_1175 : decode cL_law 1175 = .ok (.iadd, 1) := by decide +kernel
theorem dL_law_1176 : decode cL_law 1176 = .ok (.iaload, 1) := by decide +kernel
theorem dL_law_1177 : decode cL_law 1177 = .ok (.aload_n 3, 1) := by decide +kernel
set_option maxRecDepth 20000 in
theorem ggL_law_L_clear : GoodIn wsL_law wsL_clear := goodIn_ca (goodIn_r _ [742, 232, 743, 744, 745, 2, 746, 702, 703, 22, 240, 241, 242, 243, 244, 245, 17, 747, 748, 749, 29, 750, 59, 1444, 1445, 1446, 1457, 1458, 1459, 1460, 1461, 1462, 1463, 1464, 1465, 1466, 1467, 1450, 1451, 1430, 1431, 1432, 1433, 1434, 1435, 1436, 1437, 1438] (by decide +kernel) (by decide +kernel)) (goodIn_sub (fun _ h => List.mem_append_right _ h) (by decide +kernel))
set_option maxRecDepth 20000 in
theorem gL_law_L_clear : GoodIn wsL_law (va_wsS RL 183 yL_clear wsL_clear) := goodIn_app (goodIn_of _ (by decide +kernel)) ggL_law_L_clear
theorem dL_law_1178 : decode cL_law 1178 = .ok (.invokestatic 183, 3) := by decide +kernel
theorem dL_law_1181 : decode cL_law 1181 = .ok (.istore 5, 2) := by decide +kernel
theorem dL_law_1183 : decode cL_law 1183 = .ok (.aload_n 2, 1) := by decide +kernel
theorem dL_law_1184 : decode cL_law 1184 = .ok (.aload_n 0, 1) := by decide +kernel
theorem dL_law_1185 : decode cL_law 1185 = .ok (.iload 4, 2) := by decide +kernel
theorem dL_law_1187 : decode cL_law 1187 = .ok (.iconst 1, 1) := by decide +kernel
theorem dL_law_1188 : decode cL_law 1188 = .ok (.iadd, 1) := by decide +kernel
theorem dL_law_1189 : decode cL_law 1189 = .ok (.iaload, 1) := by decide +kernel
set_option maxRecDepth 20000 in
theorem ggL_law_X10_clear : GoodIn wsL_law wsX10_clear := goodIn_r _ [754, 106, 68, 289, 729, 755, 291, 292, 293, 5, 294, 111, 112, 113, 67, 114, 115, 162, 163, 164, 107, 108, 109, 110, 295, 296, 297, 298, 299, 300, 301, 302, 303, 304, 305, 306, 307, 308, 309, 310, 74, 756, 757, 758, 759, 760, 761, 762, 763, 181, 182, 764, 226, 227, 228, 1439, 1440, 1441, 1442, 1443, 1468, 1469, 1470, 1471, 1472, 1473, 1454, 1455, 1456] (by decide +kernel) (by decide +kernel)
set_option maxRecDepth 20000 in
theorem gL_law_X10_clear : GoodIn wsL_law (wsV RL 185 RX10 yX10_clear wsX10_clear) := goodIn_app (goodIn_of _ (by decide +kernel)) ggL_law_X10_clear
theorem dL_law_1190 : decode cL_law 1190 = .ok (.invokevirtual 185, 3) := by decide +kernel
theorem dL_law_1193 : decode cL_law 1193 = .ok (.istore 6, 2) := by decide +kernel
theorem dL_law_1195 : decode cL_law 1195 = .ok (.aload_n 2, 1) := by decide +kernel
theorem dL_law_1196 : decode cL_law 1196 = .ok (.invokevirtual 138, 3) := by decide +kernel
theorem dL_law_1199 : decode cL_law 1199 = .ok (.iload 5, 2) := by decide +kernel
theorem dL_law_1201 : decode cL_law 1201 = .ok (.if_icmp .eq 5, 3) := by decide +kernel
theorem dL_law_1206 : decode cL_law 1206 = .ok (.iload 5, 2) := by decide +kernel
theorem dL_law_1208 : decode cL_law 1208 = .ok (.ifCond .ne 16, 3) := by decide +kernel
theorem dL_law_1224 : decode cL_law 1224 = .ok (.goto 1211, 3) := by decide +kernel
theorem dL_law_1227 : decode cL_law 1227 = .ok (.aload_n 1, 1) := by decide +kernel
theorem dL_law_1228 : decode cL_law 1228 = .ok (.aload_n 0, 1) := by decide +kernel
theorem dL_law_1229 : decode cL_law 1229 = .ok (.iload 4, 2) := by decide +kernel
theorem dL_law_1231 : decode cL_law 1231 = .ok (.iconst 1, 1) := by decide +kernel
theorem dL_law_1232 : decode cL_law 1232 = .ok (.iadd, 1) := by decide +kernel
theorem dL_law_1233 : decode cL_law 1233 = .ok (.iaload, 1) := by decide +kernel
theorem dL_law_1234 : decode cL_law 1234 = .ok (.aload_n 0, 1) := by decide +kernel
theorem dL_law_1235 : decode cL_law 1235 = .ok (.iload 4, 2) := by decide +kernel
theorem dL_law_1237 : decode cL_law 1237 = .ok (.iconst 2, 1) := by decide +kernel
theorem dL_law_1238 : decode cL_law 1238 = .ok (.iadd, 1) := by decide +kernel
theorem dL_law_1239 : decode cL_law 1239 = .ok (.iaload, 1) := by decide +kernel
theorem dL_law_1240 : decode cL_law 1240 = .ok (.aload_n 0, 1) := by decide +kernel
theorem dL_law_1241 : decode cL_law 1241 = .ok (.iload 4, 2) := by decide +kernel
theorem dL_law_1243 : decode cL_law 1243 = .ok (.iconst 3, 1) := by decide +kernel
theorem dL_law_1244 : decode cL_law 1244 = .ok (.iadd, 1) := by decide +kernel
theorem dL_law_1245 : decode cL_law 1245 = .ok (.iaload, 1) := by decide +kernel
theorem dL_law_1246 : decode cL_law 1246 = .ok (.aload_n 3, 1) := by decide +kernel
set_option maxRecDepth 20000 in
theorem ggL_law_L_mirror : GoodIn wsL_law wsL_mirror := goodIn_ca (goodIn_ca (goodIn_ca (goodIn_r _ [767, 232, 92, 93, 768, 769, 770, 2, 771, 26, 383, 384, 385, 386, 244, 245, 387, 388, 389, 390, 20, 426, 427, 428, 98, 99, 381, 429, 704, 705, 706, 100, 101, 382, 707, 708, 709, 128, 710, 144, 711, 712, 713, 38, 714, 48, 715, 263, 264, 265, 266, 267, 268, 716, 717, 718, 719, 134, 434, 399, 400, 401, 254, 255, 256, 257, 139, 269, 270, 271, 272, 145, 772, 773, 774, 25, 775, 39, 541, 540, 776, 550, 551, 552, 553, 777, 778, 779, 780, 543, 468, 469, 470, 142, 471, 472, 473, 474, 475, 476, 477, 478, 435, 403, 404, 405, 781, 584, 585, 586, 587, 588, 499, 500, 501, 544, 545, 546, 547, 548, 549, 436, 437, 438, 439, 1444, 1445, 1446, 1430, 1431, 1432, 1433, 1434, 1435, 1436, 1437, 1438, 1476, 1477, 1457, 1458, 1459, 1460, 1461, 1462, 1463, 1464, 1465, 1466, 1467, 1452, 1447, 1448, 1449] (by decide +kernel) (by decide +kernel)) (goodIn_sub (fun _ h => List.mem_append_right _ h) (by decide +kernel))) (goodIn_sub (fun _ h => List.mem_append_left _ (List.mem_append_left _ (List.mem_append_right _ h))) (by decide +kernel))) (goodIn_sub (fun _ h => List.mem_append_left _ (List.mem_append_right _ h)) (by decide +kernel))
set_option maxRecDepth 20000 in
theorem gL_law_L_mirror : GoodIn wsL_law (va_wsS RL 186 yL_mirror wsL_mirror) := goodIn_app (goodIn_of _ (by decide +kernel)) ggL_law_L_mirror
theorem dL_law_1247 : decode cL_law 1247 = .ok (.invokestatic 186, 3) := by decide +kernel
theorem dL_law_1250 : decode cL_law 1250 = .ok (.istore 5, 2) := by decide +kernel
theorem dL_law_1252 : decode cL_law 1252 = .ok (.aload_n 2, 1) := by decide +kernel
theorem dL_law_1253 : decode cL_law 1253 = .ok (.aload_n 0, 1) := by decide +kernel
theorem dL_law_1254 : decode cL_law 1254 = .ok (.iload 4, 2) := by decide +kernel
theorem dL_law_1256 : decode cL_law 1256 = .ok (.iconst 1, 1) := by decide +kernel
theorem dL_law_1257 : decode cL_law 1257 = .ok (.iadd, 1) := by decide +kernel
theorem dL_law_1258 : decode cL_law 1258 = .ok (.iaload, 1) := by decide +kernel
theorem dL_law_1259 : decode cL_law 1259 = .ok (.aload_n 0, 1) := by decide +kernel
theorem dL_law_1260 : decode cL_law 1260 = .ok (.iload 4, 2) := by decide +kernel
theorem dL_law_1262 : decode cL_law 1262 = .ok (.iconst 2, 1) := by decide +kernel
theorem dL_law_1263 : decode cL_law 1263 = .ok (.iadd, 1) := by decide +kernel
theorem dL_law_1264 : decode cL_law 1264 = .ok (.iaload, 1) := by decide +kernel
theorem dL_law_1265 : decode cL_law 1265 = .ok (.aload_n 0, 1) := by decide +kernel
theorem dL_law_1266 : decode cL_law 1266 = .ok (.iload 4, 2) := by decide +kernel
theorem dL_law_1268 : decode cL_law 1268 = .ok (.iconst 3, 1) := by decide +kernel
theorem dL_law_1269 : decode cL_law 1269 = .ok (.iadd, 1) := by decide +kernel
theorem dL_law_1270 : decode cL_law 1270 = .ok (.iaload, 1) := by decide +kernel
set_option maxRecDepth 20000 in
theorem ggL_law_X10_mirror : GoodIn wsL_law wsX10_mirror := goodIn_r _ [785, 106, 410, 411, 412, 5, 413, 69, 111, 112, 113, 67, 114, 115, 162, 163, 164, 107, 108, 109, 110, 444, 445, 446, 447, 315, 316, 295, 296, 297, 298, 299, 300, 301, 302, 303, 304, 305, 306, 307, 308, 309, 310, 74, 730, 731, 732, 733, 734, 414, 415, 416, 417, 418, 483, 484, 485, 486, 68, 289, 457, 458, 459, 735, 335, 336, 736, 737, 738, 739, 487, 488, 489, 161, 490, 31, 168, 172, 323, 324, 325, 326, 321, 337, 338, 339, 64, 786, 787, 788, 789, 566, 597, 598, 599, 452, 790, 507, 508, 509, 453, 454, 455, 456, 1439, 1440, 1441, 1442, 1443, 1454, 1455, 1456, 1474, 1475, 1468, 1469, 1470, 1471, 1472, 1473] (by decide +kernel) (by decide +kernel)
set_option maxRecDepth 20000 in
theorem gL_law_X10_mirror : GoodIn wsL_law (wsV RL 188 RX10 yX10_mirror wsX10_mirror) := goodIn_app (goodIn_of _ (by decide +kernel)) ggL_law_X10_mirror
theorem dL_law_1271 : decode cL_law 1271 = .ok (.invokevirtual 188, 3) := by decide +kernel
theorem dL_law_1274 : decode cL_law 1274 = .ok (.istore 6, 2) := by decide +kernel
theorem dL_law_1276 : decode cL_law 1276 = .ok (.aload_n 2, 1) := by decide +kernel
theorem dL_law_1277 : decode cL_law 1277 = .ok (.invokevirtual 138, 3) := by decide +kernel
theorem dL_law_1280 : decode cL_law 1280 = .ok (.iload 5, 2) := by decide +kernel
theorem dL_law_1282 : decode cL_law 1282 = .ok (.if_icmp .eq 5, 3) := by decide +kernel
theorem dL_law_1287 : decode cL_law 1287 = .ok (.iload 5, 2) := by decide +kernel
theorem dL_law_1289 : decode cL_law 1289 = .ok (.ifCond .ne 16, 3) := by decide +kernel
theorem dL_law_1305 : decode cL_law 1305 = .ok (.goto 1130, 3) := by decide +kernel
theorem dL_law_1308 : decode cL_law 1308 = .ok (.aload_n 1, 1) := by decide +kernel
theorem dL_law_1309 : decode cL_law 1309 = .ok (.aload_n 0, 1) := by decide +kernel
theorem dL_law_1310 : decode cL_law 1310 = .ok (.iload 4, 2) := by decide +kernel
theorem dL_law_1312 : decode cL_law 1312 = .ok (.iconst 1, 1) := by decide +kernel
theorem dL_law_1313 : decode cL_law 1313 = .ok (.iadd, 1) := by decide +kernel
theorem dL_law_1314 : decode cL_law 1314 = .ok (.iaload, 1) := by decide +kernel
theorem dL_law_1315 : decode cL_law 1315 = .ok (.aload_n 0, 1) := by decide +kernel
theorem dL_law_1316 : decode cL_law 1316 = .ok (.iload 4, 2) := by decide +kernel
theorem dL_law_1318 : decode cL_law 1318 = .ok (.iconst 2, 1) := by decide +kernel
theorem dL_law_1319 : decode cL_law 1319 = .ok (.iadd, 1) := by decide +kernel
theorem dL_law_1320 : decode cL_law 1320 = .ok (.iaload, 1) := by decide +kernel
theorem dL_law_1321 : decode cL_law 1321 = .ok (.aload_n 3, 1) := by decide +kernel
set_option maxRecDepth 20000 in
theorem ggL_law_L_turn : GoodIn wsL_law wsL_turn := goodIn_ca (goodIn_ca (goodIn_ca (goodIn_r _ [793, 232, 92, 93, 794, 795, 796, 2, 797, 381, 26, 383, 384, 385, 386, 244, 245, 387, 388, 389, 390, 20, 426, 427, 428, 98, 99, 429, 798, 799, 800, 100, 101, 801, 802, 803, 804, 25, 805, 39, 541, 540, 806, 807, 776, 550, 551, 38, 552, 48, 553, 399, 400, 401, 808, 809, 810, 29, 811, 59, 58, 777, 778, 779, 780, 543, 468, 469, 128, 470, 142, 134, 471, 472, 473, 474, 434, 475, 476, 477, 478, 254, 255, 256, 257, 139, 435, 403, 404, 405, 269, 270, 271, 272, 145, 781, 708, 709, 710, 144, 711, 712, 713, 714, 715, 263, 264, 265, 266, 267, 268, 716, 717, 718, 719, 584, 585, 586, 587, 588, 499, 500, 501, 544, 545, 546, 547, 382, 548, 549, 436, 437, 438, 439, 1444, 1445, 1446, 1476, 1477, 1430, 1431, 1432, 1433, 1434, 1435, 1436, 1437, 1438, 1457, 1458, 1459, 1460, 1461, 1462, 1463, 1464, 1465, 1466, 1467, 1447, 1448, 1449, 1450, 1451, 1452] (by decide +kernel) (by decide +kernel)) (goodIn_sub (fun _ h => List.mem_append_right _ h) (by decide +kernel))) (goodIn_sub (fun _ h => List.mem_append_left _ (List.mem_append_left _ (List.mem_append_right _ h))) (by decide +kernel))) (goodIn_sub (fun _ h => List.mem_append_left _ (List.mem_append_right _ h)) (by decide +kernel))
set_option maxRecDepth 20000 in
theorem gL_law_L_turn : GoodIn wsL_law (va_wsS RL 189 yL_turn wsL_turn) := goodIn_app (goodIn_of _ (by decide +kernel)) ggL_law_L_turn
theorem dL_law_1322 : decode cL_law 1322 = .ok (.invokestatic 189, 3) := by decide +kernel
theorem dL_law_1325 : decode cL_law 1325 = .ok (.istore 5, 2) := by decide +kernel
theorem dL_law_1327 : decode cL_law 1327 = .ok (.aload_n 2, 1) := by decide +kernel
theorem dL_law_1328 : decode cL_law 1328 = .ok (.aload_n 0, 1) := by decide +kernel
theorem dL_law_1329 : decode cL_law 1329 = .ok (.iload 4, 2) := by decide +kernel
theorem dL_law_1331 : decode cL_law 1331 = .ok (.iconst 1, 1) := by decide +kernel
theorem dL_law_1332 : decode cL_law 1332 = .ok (.iadd, 1) := by decide +kernel
theorem dL_law_1333 : decode cL_law 1333 = .ok (.iaload, 1) := by decide +kernel
theorem dL_law_1334 : decode cL_law 1334 = .ok (.aload_n 0, 1) := by decide +kernel
theorem dL_law_1335 : decode cL_law 1335 = .ok (.iload 4, 2) := by decide +kernel
theorem dL_law_1337 : decode cL_law 1337 = .ok (.iconst 2, 1) := by decide +kernel
theorem dL_law_1338 : decode cL_law 1338 = .ok (.iadd, 1) := by decide +kernel
theorem dL_law_1339 : decode cL_law 1339 = .ok (.iaload, 1) := by decide +kernel
set_option maxRecDepth 20000 in
theorem ggL_law_X10_turn : GoodIn wsL_law wsX10_turn := goodIn_r _ [815, 106, 734, 729, 686, 410, 411, 412, 5, 413, 69, 111, 112, 113, 67, 114, 115, 162, 163, 164, 107, 108, 109, 110, 444, 445, 446, 447, 315, 316, 295, 296, 297, 298, 299, 300, 301, 302, 303, 304, 305, 306, 307, 308, 309, 310, 74, 483, 484, 485, 486, 68, 289, 414, 415, 416, 417, 418, 506, 507, 508, 161, 509, 31, 168, 323, 324, 325, 326, 321, 337, 338, 339, 64, 786, 787, 788, 789, 566, 488, 489, 490, 172, 597, 598, 599, 452, 790, 453, 454, 455, 456, 457, 458, 459, 1439, 1440, 1441, 1442, 1443, 1468, 1469, 1470, 1471, 1472, 1473, 1454, 1455, 1456, 1474, 1475] (by decide +kernel) (by decide +kernel)
set_option maxRecDepth 20000 in
theorem gL_law_X10_turn : GoodIn wsL_law (wsV RL 191 RX10 yX10_turn wsX10_turn) := goodIn_app (goodIn_of _ (by decide +kernel)) ggL_law_X10_turn
theorem dL_law_1340 : decode cL_law 1340 = .ok (.invokevirtual 191, 3) := by decide +kernel
theorem dL_law_1343 : decode cL_law 1343 = .ok (.istore 6, 2) := by decide +kernel
theorem dL_law_1345 : decode cL_law 1345 = .ok (.aload_n 2, 1) := by decide +kernel
theorem dL_law_1346 : decode cL_law 1346 = .ok (.invokevirtual 138, 3) := by decide +kernel
theorem dL_law_1349 : decode cL_law 1349 = .ok (.iload 5, 2) := by decide +kernel
theorem dL_law_1351 : decode cL_law 1351 = .ok (.if_icmp .eq 5, 3) := by decide +kernel
theorem dL_law_1356 : decode cL_law 1356 = .ok (.iload 5, 2) := by decide +kernel
theorem dL_law_1358 : decode cL_law 1358 = .ok (.ifCond .ne 16, 3) := by decide +kernel
theorem dL_law_1374 : decode cL_law 1374 = .ok (.goto 1061, 3) := by decide +kernel
theorem dL_law_1377 : decode cL_law 1377 = .ok (.aload_n 1, 1) := by decide +kernel
theorem dL_law_1378 : decode cL_law 1378 = .ok (.aload_n 0, 1) := by decide +kernel
theorem dL_law_1379 : decode cL_law 1379 = .ok (.iload 4, 2) := by decide +kernel
theorem dL_law_1381 : decode cL_law 1381 = .ok (.iconst 1, 1) := by decide +kernel
theorem dL_law_1382 : decode cL_law 1382 = .ok (.iadd, 1) := by decide +kernel
theorem dL_law_1383 : decode cL_law 1383 = .ok (.iaload, 1) := by decide +kernel
theorem dL_law_1384 : decode cL_law 1384 = .ok (.aload_n 3, 1) := by decide +kernel
set_option maxRecDepth 20000 in
theorem ggL_law_L_versor : GoodIn wsL_law wsL_versor := goodIn_ca (goodIn_ca (goodIn_r _ [818, 232, 93, 819, 820, 821, 2, 822, 381, 26, 383, 384, 385, 386, 244, 245, 387, 388, 389, 390, 20, 798, 799, 800, 100, 101, 801, 823, 824, 825, 25, 826, 39, 806, 807, 542, 472, 473, 38, 474, 48, 808, 809, 810, 29, 811, 59, 58, 543, 468, 469, 128, 470, 142, 134, 471, 434, 399, 400, 401, 475, 476, 477, 478, 254, 255, 256, 257, 139, 435, 403, 404, 405, 269, 270, 271, 272, 145, 544, 545, 546, 547, 382, 548, 549, 550, 551, 552, 553, 436, 437, 438, 439, 1444, 1445, 1446, 1476, 1477, 1430, 1431, 1432, 1433, 1434, 1435, 1436, 1437, 1438, 1457, 1458, 1459, 1460, 1461, 1462, 1463, 1464, 1465, 1466, 1467, 1447, 1448, 1449, 1450, 1451, 1452] (by decide +kernel) (by decide +kernel)) (goodIn_sub (fun _ h => List.mem_append_right _ h) (by decide +kernel))) (goodIn_sub (fun _ h => List.mem_append_left _ (List.mem_append_right _ h)) (by decide +kernel))
set_option maxRecDepth 20000 in
theorem gL_law_L_versor : GoodIn wsL_law (va_wsS RL 192 yL_versor wsL_versor) := goodIn_app (goodIn_of _ (by decide +kernel)) ggL_law_L_versor
theorem dL_law_1385 : decode cL_law 1385 = .ok (.invokestatic 192, 3) := by decide +kernel
theorem dL_law_1388 : decode cL_law 1388 = .ok (.istore 5, 2) := by decide +kernel
theorem dL_law_1390 : decode cL_law 1390 = .ok (.aload_n 2, 1) := by decide +kernel
theorem dL_law_1391 : decode cL_law 1391 = .ok (.aload_n 0, 1) := by decide +kernel
theorem dL_law_1392 : decode cL_law 1392 = .ok (.iload 4, 2) := by decide +kernel
theorem dL_law_1394 : decode cL_law 1394 = .ok (.iconst 1, 1) := by decide +kernel
theorem dL_law_1395 : decode cL_law 1395 = .ok (.iadd, 1) := by decide +kernel
theorem dL_law_1396 : decode cL_law 1396 = .ok (.iaload, 1) := by decide +kernel
set_option maxRecDepth 20000 in
theorem ggL_law_X10_versor : GoodIn wsL_law wsX10_versor := goodIn_r _ [830, 106, 734, 729, 686, 410, 411, 412, 5, 413, 69, 111, 112, 113, 67, 114, 115, 162, 163, 164, 107, 108, 109, 110, 483, 484, 485, 486, 68, 315, 316, 289, 295, 296, 297, 298, 299, 300, 301, 302, 303, 304, 305, 306, 307, 308, 309, 310, 74, 631, 563, 564, 161, 565, 31, 323, 324, 325, 326, 321, 487, 488, 489, 490, 168, 172, 337, 338, 339, 64, 453, 454, 455, 456, 418, 457, 458, 459, 1439, 1440, 1441, 1442, 1443, 1468, 1469, 1470, 1471, 1472, 1473, 1454, 1455, 1456, 1474, 1475] (by decide +kernel) (by decide +kernel)
set_option maxRecDepth 20000 in
theorem gL_law_X10_versor : GoodIn wsL_law (wsV RL 194 RX10 yX10_versor wsX10_versor) := goodIn_app (goodIn_of _ (by decide +kernel)) ggL_law_X10_versor
theorem dL_law_1397 : decode cL_law 1397 = .ok (.invokevirtual 194, 3) := by decide +kernel
theorem dL_law_1400 : decode cL_law 1400 = .ok (.istore 6, 2) := by decide +kernel
theorem dL_law_1402 : decode cL_law 1402 = .ok (.aload_n 2, 1) := by decide +kernel
theorem dL_law_1403 : decode cL_law 1403 = .ok (.invokevirtual 138, 3) := by decide +kernel
theorem dL_law_1406 : decode cL_law 1406 = .ok (.iload 5, 2) := by decide +kernel
theorem dL_law_1408 : decode cL_law 1408 = .ok (.if_icmp .eq 5, 3) := by decide +kernel
theorem dL_law_1413 : decode cL_law 1413 = .ok (.iload 5, 2) := by decide +kernel
theorem dL_law_1415 : decode cL_law 1415 = .ok (.ifCond .ne 16, 3) := by decide +kernel
theorem dL_law_1431 : decode cL_law 1431 = .ok (.goto 1004, 3) := by decide +kernel
set_option maxHeartbeats 4000000 in
set_option maxRecDepth 100000 in
/-- lk_9 -/
theorem lk_9 {p : Program} {e : Env} {s : State} {m : MethodId} {below : List Frame} {meth : Method} {c : Code} {l : Launch} (hst : l.stackTraces = false) {b : Nat} {xs : Nat → Int32} (C0 : lw_At p s m meth c b 4 xs) {A : Nat → Prop} (hA : ∀ q : Nat, s.heap.size ≤ q → A q) (hA2 : ∀ q : Nat, A q → s.heap.size ≤ q) (hbA : ¬ A b) {dC : Nat → ClassId} {dI : Nat → Nat → Nat} {dE : Nat} (h0 a1 a2 w1 p1 o1 : Nat) (cA1 cA2 : ClassId) (m0 l1 l2 o0 : Nat) (hTb : Tb s) (hZ : Zq2 dE A s s.heap) {H : Heap} {locs : List Loc} (hK : va_K (dC, dI) vwCl [(cA1, .object RX0), (cA2, .object RX1)] s) (hP : va_P (dC, dI) vwCl [(h0, .inr (9, [.int 7, .ref a1, .int 0, .ref a2, .int 0, .int 0, .ref w1, .ref p1, .ref o1])), (a1, .inl (cA1, 4, .inr (.inr (.inr (.inr (fun _ => none)))))), (a2, .inl (cA2, 10, .inr (.inr (.inr (.inr (fun _ => none)))))), (m0, .inr (13, [.int 0, .int 7, .int 0, .ref l1, .ref l2])), (l1, .inr (2, [.int 0, .ref dE, .int 0])), (l2, .inr (2, [.int 0, .ref dE, .int 0])), (o0, .inr (10, [.long 0, .double FP.dconst0, .null]))] H) (hD : va_D A [(h0, .inr (9, [.int 7, .ref a1, .int 0, .ref a2, .int 0, .int 0, .ref w1, .ref p1, .ref o1])), (a1, .inl (cA1, 4, .inr (.inr (.inr (.inr (fun _ => none)))))), (a2, .inl (cA2, 10, .inr (.inr (.inr (.inr (fun _ => none)))))), (m0, .inr (13, [.int 0, .int 7, .int 0, .ref l1, .ref l2])), (l1, .inr (2, [.int 0, .ref dE, .int 0])), (l2, .inr (2, [.int 0, .ref dE, .int 0])), (o0, .inr (10, [.long 0, .double FP.dconst0, .null]))]) (hS : va_S A s.heap H locs) {ls : Array Slot} (hl : lv_has ls 9 [(4, .int 0), (3, .ref o0), (2, .ref m0), (1, .ref h0), (0, .ref b)]) : W p l e room_1 s m #[Value.ref b] below meth c H locs 37 517 (lw_Z below #[Value.ref b] s) (F0 m 825 ls []) := by
  obtain ⟨hx, hb, hr, hml, hown, hts0, hX, hbl, hlocks, hgv⟩ := id C0
  have hts : ∀ w ∈ wsL_law, w.before #[Value.ref b] s = true := lw_words hts0
  refine lv_aload_n hx hb dL_law_825 rfl (lv_at hl 3 rfl) ?_
  refine lv_aload_n hx hb dL_law_826 rfl (lv_at hl 4 rfl) ?_
  refine lv_iload hx hb dL_law_827 (lv_at hl 0 rfl) ?_
  refine lv_iconst (v := 1) hx hb dL_law_829 (by decide) ?_
  refine lv_iadd hx hb dL_law_830 ?_
  refine lv_topi (fun f1 ef1 => ?_)
  obtain rfl : f1 = 1 := ef1.trans (by decide)
  refine va_sld hx hb hX hbl hbA hS (by unfold vp_in; decide) dL_law_831 ?_
  refine lv_aload_n hx hb dL_law_832 rfl (lv_at hl 4 rfl) ?_
  refine lv_iload hx hb dL_law_833 (lv_at hl 0 rfl) ?_
  refine lv_iconst (v := 2) hx hb dL_law_835 (by decide) ?_
  refine lv_iadd hx hb dL_law_836 ?_
  refine lv_topi (fun f2 ef2 => ?_)
  obtain rfl : f2 = 2 := ef2.trans (by decide)
  refine va_sld hx hb hX hbl hbA hS (by unfold vp_in; decide) dL_law_837 ?_
  refine lv_aload_n hx hb dL_law_838 rfl (lv_at hl 4 rfl) ?_
  refine lv_iload hx hb dL_law_839 (lv_at hl 0 rfl) ?_
  refine lv_iconst (v := 3) hx hb dL_law_841 (by decide) ?_
  refine lv_iadd hx hb dL_law_842 ?_
  refine lv_topi (fun f3 ef3 => ?_)
  obtain rfl : f3 = 3 := ef3.trans (by decide)
  refine va_sld hx hb hX hbl hbA hS (by unfold vp_in; decide) dL_law_843 ?_
  refine lv_aload_n hx hb dL_law_844 rfl (lv_at hl 1 rfl) ?_
  have hPc := hP.sub (ws' := [(h0, .inr (9, [.int 7, .ref a1, .int 0, .ref a2, .int 0, .int 0, .ref w1, .ref p1, .ref o1])), (a1, .inl (cA1, 4, .inr (.inr (.inr (.inr (fun _ => none)))))), (a2, .inl (cA2, 10, .inr (.inr (.inr (.inr (fun _ => none))))))]) [0, 1, 2] rfl
  have hDc := hD.sub (ws' := [(h0, .inr (9, [.int 7, .ref a1, .int 0, .ref a2, .int 0, .int 0, .ref w1, .ref p1, .ref o1])), (a1, .inl (cA1, 4, .inr (.inr (.inr (.inr (fun _ => none)))))), (a2, .inl (cA2, 10, .inr (.inr (.inr (.inr (fun _ => none))))))]) [0, 1, 2] (by decide) rfl
  have hKc := hK.sub (tys' := [(cA1, .object RX0), (cA2, .object RX1)]) [0, 1] rfl
  have hFc := va_free (wc := [(h0, .inr (9, [.int 7, .ref a1, .int 0, .ref a2, .int 0, .int 0, .ref w1, .ref p1, .ref o1])), (a1, .inl (cA1, 4, .inr (.inr (.inr (.inr (fun _ => none)))))), (a2, .inl (cA2, 10, .inr (.inr (.inr (.inr (fun _ => none))))))]) hD hS hA [0, 1, 2] rfl
  refine va_calli (vx_runSW (As := [.ref h0, .int (xs (Int32.toNatClampNeg 1)), .int (xs (Int32.toNatClampNeg 2)), .int (xs (Int32.toNatClampNeg 3)), .ref o0]) (rest := []) ⟨hx, hb, hml, hown, hts⟩ (c_L_power l hst dC dI dE h0 a1 a2 w1 p1 o1 cA1 cA2 (xs (Int32.toNatClampNeg 1)) (xs (Int32.toNatClampNeg 2)) (xs (Int32.toNatClampNeg 3)) o0 H.size) (vx_cwSW 5 hts gL_law_L_power rfl rfl rfl (by decide +kernel) ⟨Nat.le_of_ble_eq_true rfl, Nat.le_of_ble_eq_true rfl⟩) ⟨fun a U g mk q => ⟨q.1, PB.blind q.2⟩, fun U hU hW => ⟨rfl, PB.call hPc hKc hDc hTb hZ hS hFc hU hW⟩⟩ rfl rfl hl.1 rfl (lv_room (Nat.le_of_ble_eq_true rfl)) dL_law_845 ⟨Nat.le_of_ble_eq_true rfl, Nat.le_of_ble_eq_true rfl⟩) hS (fun q _ h => hFc q h) hFc (fun r u t H locs ht hvm hw hB hz1 hk1 hS => ?_)
  obtain ⟨hP, hD, hK⟩ := PE.join0 (wc := [(h0, .inr (9, [.int 7, .ref a1, .int 0, .ref a2, .int 0, .int 0, .ref w1, .ref p1, .ref o1])), (a1, .inl (cA1, 4, .inr (.inr (.inr (.inr (fun _ => none)))))), (a2, .inl (cA2, 10, .inr (.inr (.inr (.inr (fun _ => none))))))]) (wr := [(m0, .inr (13, [.int 0, .int 7, .int 0, .ref l1, .ref l2])), (l1, .inr (2, [.int 0, .ref dE, .int 0])), (l2, .inr (2, [.int 0, .ref dE, .int 0])), (o0, .inr (10, [.long 0, .double FP.dconst0, .null]))]) (tr := []) hP hD hK [0, 1, 2] [3, 4, 5, 6] [] rfl rfl rfl (by decide) (by decide) hk1 hFc
  have hP : va_P (dC, dI) vwCl [(m0, .inr (13, [.int 0, .int 7, .int 0, .ref l1, .ref l2])), (l1, .inr (2, [.int 0, .ref dE, .int 0])), (l2, .inr (2, [.int 0, .ref dE, .int 0])), (o0, .inr (10, [.long 0, .double FP.dconst0, .null]))] H := hP
  have hD : va_D A [(m0, .inr (13, [.int 0, .int 7, .int 0, .ref l1, .ref l2])), (l1, .inr (2, [.int 0, .ref dE, .int 0])), (l2, .inr (2, [.int 0, .ref dE, .int 0])), (o0, .inr (10, [.long 0, .double FP.dconst0, .null]))] := hD
  have hK : va_K (dC, dI) vwCl [] s := hK
  subst hw
  refine W.widen (k := 38) (n := 523) (by omega) (by omega) ?_
  refine lv_istore (lv' := [(5, .int 1), (4, .int 0), (3, .ref o0), (2, .ref m0), (1, .ref h0), (0, .ref b)]) hx hb dL_law_848 hl (by decide) rfl (fun ls hl => ?_)
  refine lv_aload_n hx hb dL_law_850 rfl (lv_at hl 3 rfl) ?_
  refine lv_aload_n hx hb dL_law_851 rfl (lv_at hl 5 rfl) ?_
  refine lv_iload hx hb dL_law_852 (lv_at hl 1 rfl) ?_
  refine lv_iconst (v := 1) hx hb dL_law_854 (by decide) ?_
  refine lv_iadd hx hb dL_law_855 ?_
  refine lv_topi (fun f4 ef4 => ?_)
  obtain rfl : f4 = 1 := ef4.trans (by decide)
  refine va_sld hx hb hX hbl hbA hS (by unfold vp_in; decide) dL_law_856 ?_
  refine lv_aload_n hx hb dL_law_857 rfl (lv_at hl 5 rfl) ?_
  refine lv_iload hx hb dL_law_858 (lv_at hl 1 rfl) ?_
  refine lv_iconst (v := 2) hx hb dL_law_860 (by decide) ?_
  refine lv_iadd hx hb dL_law_861 ?_
  refine lv_topi (fun f5 ef5 => ?_)
  obtain rfl : f5 = 2 := ef5.trans (by decide)
  refine va_sld hx hb hX hbl hbA hS (by unfold vp_in; decide) dL_law_862 ?_
  refine lv_aload_n hx hb dL_law_863 rfl (lv_at hl 5 rfl) ?_
  refine lv_iload hx hb dL_law_864 (lv_at hl 1 rfl) ?_
  refine lv_iconst (v := 3) hx hb dL_law_866 (by decide) ?_
  refine lv_iadd hx hb dL_law_867 ?_
  refine lv_topi (fun f6 ef6 => ?_)
  obtain rfl : f6 = 3 := ef6.trans (by decide)
  refine va_sld hx hb hX hbl hbA hS (by unfold vp_in; decide) dL_law_868 ?_
  have hPc := hP.sub (ws' := [(m0, .inr (13, [.int 0, .int 7, .int 0, .ref l1, .ref l2])), (l1, .inr (2, [.int 0, .ref dE, .int 0])), (l2, .inr (2, [.int 0, .ref dE, .int 0]))]) [0, 1, 2] rfl
  have hDc := hD.sub (ws' := [(m0, .inr (13, [.int 0, .int 7, .int 0, .ref l1, .ref l2])), (l1, .inr (2, [.int 0, .ref dE, .int 0])), (l2, .inr (2, [.int 0, .ref dE, .int 0]))]) [0, 1, 2] (by decide) rfl
  have hKc := hK.sub (tys' := []) [] rfl
  have hFc := va_free (wc := [(m0, .inr (13, [.int 0, .int 7, .int 0, .ref l1, .ref l2])), (l1, .inr (2, [.int 0, .ref dE, .int 0])), (l2, .inr (2, [.int 0, .ref dE, .int 0]))]) hD hS hA [0, 1, 2] rfl
  refine va_calli (va_runV (As := [.int (xs (Int32.toNatClampNeg 1)), .int (xs (Int32.toNatClampNeg 2)), .int (xs (Int32.toNatClampNeg 3))]) (rest := []) ⟨hx, hb, hml, hown, hts⟩ (c_M_power l dC dI dE m0 l1 l2 (xs (Int32.toNatClampNeg 1)) (xs (Int32.toNatClampNeg 2)) (xs (Int32.toNatClampNeg 3)) H.size) (cwV 3 hts gL_law_X10_power rfl rfl rfl (by decide +kernel) ⟨Nat.le_of_ble_eq_true rfl, Nat.le_of_ble_eq_true rfl⟩) ⟨fun a U g mk q => ⟨q.1, PB.blind q.2⟩, va_recv hKc hPc (ci := 13) (q0 := 0) rfl rfl, fun U hU hW => ⟨rfl, PB.call hPc hKc hDc hTb hZ hS hFc hU hW⟩⟩ rfl rfl hl.1 rfl (lv_room (Nat.le_of_ble_eq_true rfl)) dL_law_869 ⟨Nat.le_of_ble_eq_true rfl, Nat.le_of_ble_eq_true rfl⟩) hS (fun q _ h => hFc q h) hFc (fun r u t H locs ht hvm hw hB hz1 hk1 hS => ?_)
  obtain ⟨hP, hD, hK⟩ := PE.join (wc := [(m0, .inr (13, [.int 0, .int 7, .int 0, .ref l1, .ref l2])), (l1, .inr (2, [.int 0, .ref dE, .int 0])), (l2, .inr (2, [.int 0, .ref dE, .int 0]))]) (wr := [(o0, .inr (10, [.long 0, .double FP.dconst0, .null]))]) (w1 := [(m0, .inr (13, [.int 1, .int 7, .int 0, .ref l1, .ref l2])), (l1, .inr (2, [.int 0, .ref dE, .int 0])), (l2, .inr (2, [.int 0, .ref dE, .int 0]))]) (tr := []) (t1 := []) hP hD hK [0, 1, 2] [3] [] rfl rfl rfl (by decide) (by decide) hk1 hFc ht hvm hB
  have hP : va_P (dC, dI) vwCl [(o0, .inr (10, [.long 0, .double FP.dconst0, .null])), (m0, .inr (13, [.int 1, .int 7, .int 0, .ref l1, .ref l2])), (l1, .inr (2, [.int 0, .ref dE, .int 0])), (l2, .inr (2, [.int 0, .ref dE, .int 0]))] H := hP
  have hD : va_D A [(o0, .inr (10, [.long 0, .double FP.dconst0, .null])), (m0, .inr (13, [.int 1, .int 7, .int 0, .ref l1, .ref l2])), (l1, .inr (2, [.int 0, .ref dE, .int 0])), (l2, .inr (2, [.int 0, .ref dE, .int 0]))] := hD
  have hK : va_K (dC, dI) vwCl [] s := hK
  subst hw
  refine lv_istore (lv' := [(6, .int 0), (5, .int 1), (4, .int 0), (3, .ref o0), (2, .ref m0), (1, .ref h0), (0, .ref b)]) hx hb dL_law_872 hl (by decide) rfl (fun ls hl => ?_)
  refine lv_aload_n hx hb dL_law_874 rfl (lv_at hl 4 rfl) ?_
  have hPc := hP.sub (ws' := [(m0, .inr (13, [.int 1, .int 7, .int 0, .ref l1, .ref l2]))]) [1] rfl
  have hDc := hD.sub (ws' := [(m0, .inr (13, [.int 1, .int 7, .int 0, .ref l1, .ref l2]))]) [1] (by decide) rfl
  have hKc := hK.sub (tys' := []) [] rfl
  have hFc := va_free (wc := [(m0, .inr (13, [.int 1, .int 7, .int 0, .ref l1, .ref l2]))]) hD hS hA [1] rfl
  refine va_calli (va_runV (As := []) (rest := []) ⟨hx, hb, hml, hown, hts⟩ (c_M_thrown l dC dI dE m0 1 7 0 l1 l2 H.size) (cwV 0 hts gL_law_X10_thrown rfl rfl rfl (by decide +kernel) ⟨Nat.le_of_ble_eq_true rfl, Nat.le_of_ble_eq_true rfl⟩) ⟨fun a U g mk q => ⟨q.1, PB.blind q.2⟩, va_recv hKc hPc (ci := 13) (q0 := 0) rfl rfl, fun U hU hW => ⟨rfl, PB.call hPc hKc hDc hTb hZ hS hFc hU hW⟩⟩ rfl rfl hl.1 rfl (lv_room (Nat.le_of_ble_eq_true rfl)) dL_law_875 ⟨Nat.le_of_ble_eq_true rfl, Nat.le_of_ble_eq_true rfl⟩) hS (fun q _ h => hFc q h) hFc (fun r u t H locs ht hvm hw hB hz1 hk1 hS => ?_)
  obtain ⟨hP, hD, hK⟩ := PE.join0 (wc := [(m0, .inr (13, [.int 1, .int 7, .int 0, .ref l1, .ref l2]))]) (wr := [(o0, .inr (10, [.long 0, .double FP.dconst0, .null])), (l1, .inr (2, [.int 0, .ref dE, .int 0])), (l2, .inr (2, [.int 0, .ref dE, .int 0]))]) (tr := []) hP hD hK [1] [0, 2, 3] [] rfl rfl rfl (by decide) (by decide) hk1 hFc
  have hP : va_P (dC, dI) vwCl [(o0, .inr (10, [.long 0, .double FP.dconst0, .null])), (l1, .inr (2, [.int 0, .ref dE, .int 0])), (l2, .inr (2, [.int 0, .ref dE, .int 0]))] H := hP
  have hD : va_D A [(o0, .inr (10, [.long 0, .double FP.dconst0, .null])), (l1, .inr (2, [.int 0, .ref dE, .int 0])), (l2, .inr (2, [.int 0, .ref dE, .int 0]))] := hD
  have hK : va_K (dC, dI) vwCl [] s := hK
  subst hw
  refine lv_iload hx hb dL_law_878 (lv_at hl 1 rfl) ?_
  refine lv_icmp_eq (tgt := 885) hx hb dL_law_880 (by decide) (fun _ => ?_) (fun c9 => absurd (by decide) c9)
  refine lv_iload hx hb dL_law_885 (lv_at hl 1 rfl) ?_
  refine lv_if_ne (tgt := 903) hx hb dL_law_887 (by decide) (fun _ => ?_) (fun c9 => absurd c9 (by decide))
  refine lv_goto (tgt := 2435) hx hb dL_law_903 (by decide) ?_
  exact lk_end C0 hA2 hbA hS (Nat.le_of_ble_eq_true rfl) (Nat.le_of_ble_eq_true rfl) (lv_sub hl [2, 6] rfl)

set_option maxHeartbeats 4000000 in
set_option maxRecDepth 100000 in
/-- lk_10 -/
theorem lk_10 {p : Program} {e : Env} {s : State} {m : MethodId} {below : List Frame} {meth : Method} {c : Code} {l : Launch} (hst : l.stackTraces = false) {b : Nat} {xs : Nat → Int32} (C0 : lw_At p s m meth c b 4 xs) {A : Nat → Prop} (hA : ∀ q : Nat, s.heap.size ≤ q → A q) (hA2 : ∀ q : Nat, A q → s.heap.size ≤ q) (hbA : ¬ A b) {dC : Nat → ClassId} {dI : Nat → Nat → Nat} {dE : Nat} (h0 a1 a2 w1 p1 o1 : Nat) (cA1 cA2 : ClassId) (m0 l1 l2 o0 : Nat) (hTb : Tb s) (hZ : Zq2 dE A s s.heap) {H : Heap} {locs : List Loc} (hK : va_K (dC, dI) vwCl [(cA1, .object RX0), (cA2, .object RX1)] s) (hP : va_P (dC, dI) vwCl [(h0, .inr (9, [.int 7, .ref a1, .int 0, .ref a2, .int 0, .int 0, .ref w1, .ref p1, .ref o1])), (a1, .inl (cA1, 4, .inr (.inr (.inr (.inr (fun _ => none)))))), (a2, .inl (cA2, 10, .inr (.inr (.inr (.inr (fun _ => none)))))), (m0, .inr (13, [.int 0, .int 7, .int 0, .ref l1, .ref l2])), (l1, .inr (2, [.int 0, .ref dE, .int 0])), (l2, .inr (2, [.int 0, .ref dE, .int 0])), (o0, .inr (10, [.long 0, .double FP.dconst0, .null]))] H) (hD : va_D A [(h0, .inr (9, [.int 7, .ref a1, .int 0, .ref a2, .int 0, .int 0, .ref w1, .ref p1, .ref o1])), (a1, .inl (cA1, 4, .inr (.inr (.inr (.inr (fun _ => none)))))), (a2, .inl (cA2, 10, .inr (.inr (.inr (.inr (fun _ => none)))))), (m0, .inr (13, [.int 0, .int 7, .int 0, .ref l1, .ref l2])), (l1, .inr (2, [.int 0, .ref dE, .int 0])), (l2, .inr (2, [.int 0, .ref dE, .int 0])), (o0, .inr (10, [.long 0, .double FP.dconst0, .null]))]) (hS : va_S A s.heap H locs) {ls : Array Slot} (hl : lv_has ls 9 [(4, .int 0), (3, .ref o0), (2, .ref m0), (1, .ref h0), (0, .ref b)]) : W p l e room_1 s m #[Value.ref b] below meth c H locs 37 517 (lw_Z below #[Value.ref b] s) (F0 m 906 ls []) := by
  obtain ⟨hx, hb, hr, hml, hown, hts0, hX, hbl, hlocks, hgv⟩ := id C0
  have hts : ∀ w ∈ wsL_law, w.before #[Value.ref b] s = true := lw_words hts0
  refine lv_aload_n hx hb dL_law_906 rfl (lv_at hl 3 rfl) ?_
  refine lv_aload_n hx hb dL_law_907 rfl (lv_at hl 4 rfl) ?_
  refine lv_iload hx hb dL_law_908 (lv_at hl 0 rfl) ?_
  refine lv_iconst (v := 1) hx hb dL_law_910 (by decide) ?_
  refine lv_iadd hx hb dL_law_911 ?_
  refine lv_topi (fun f1 ef1 => ?_)
  obtain rfl : f1 = 1 := ef1.trans (by decide)
  refine va_sld hx hb hX hbl hbA hS (by unfold vp_in; decide) dL_law_912 ?_
  refine lv_aload_n hx hb dL_law_913 rfl (lv_at hl 4 rfl) ?_
  refine lv_iload hx hb dL_law_914 (lv_at hl 0 rfl) ?_
  refine lv_iconst (v := 2) hx hb dL_law_916 (by decide) ?_
  refine lv_iadd hx hb dL_law_917 ?_
  refine lv_topi (fun f2 ef2 => ?_)
  obtain rfl : f2 = 2 := ef2.trans (by decide)
  refine va_sld hx hb hX hbl hbA hS (by unfold vp_in; decide) dL_law_918 ?_
  refine lv_aload_n hx hb dL_law_919 rfl (lv_at hl 1 rfl) ?_
  have hPc := hP.sub (ws' := [(h0, .inr (9, [.int 7, .ref a1, .int 0, .ref a2, .int 0, .int 0, .ref w1, .ref p1, .ref o1])), (a1, .inl (cA1, 4, .inr (.inr (.inr (.inr (fun _ => none)))))), (a2, .inl (cA2, 10, .inr (.inr (.inr (.inr (fun _ => none))))))]) [0, 1, 2] rfl
  have hDc := hD.sub (ws' := [(h0, .inr (9, [.int 7, .ref a1, .int 0, .ref a2, .int 0, .int 0, .ref w1, .ref p1, .ref o1])), (a1, .inl (cA1, 4, .inr (.inr (.inr (.inr (fun _ => none)))))), (a2, .inl (cA2, 10, .inr (.inr (.inr (.inr (fun _ => none))))))]) [0, 1, 2] (by decide) rfl
  have hKc := hK.sub (tys' := [(cA1, .object RX0), (cA2, .object RX1)]) [0, 1] rfl
  have hFc := va_free (wc := [(h0, .inr (9, [.int 7, .ref a1, .int 0, .ref a2, .int 0, .int 0, .ref w1, .ref p1, .ref o1])), (a1, .inl (cA1, 4, .inr (.inr (.inr (.inr (fun _ => none)))))), (a2, .inl (cA2, 10, .inr (.inr (.inr (.inr (fun _ => none))))))]) hD hS hA [0, 1, 2] rfl
  refine va_calli (vx_runSW (As := [.ref h0, .int (xs (Int32.toNatClampNeg 1)), .int (xs (Int32.toNatClampNeg 2)), .ref o0]) (rest := []) ⟨hx, hb, hml, hown, hts⟩ (c_L_invert l hst dC dI dE h0 a1 a2 w1 p1 o1 cA1 cA2 (xs (Int32.toNatClampNeg 1)) (xs (Int32.toNatClampNeg 2)) o0 H.size) (vx_cwSW 4 hts gL_law_L_invert rfl rfl rfl (by decide +kernel) ⟨Nat.le_of_ble_eq_true rfl, Nat.le_of_ble_eq_true rfl⟩) ⟨fun a U g mk q => ⟨q.1, PB.blind q.2⟩, fun U hU hW => ⟨rfl, PB.call hPc hKc hDc hTb hZ hS hFc hU hW⟩⟩ rfl rfl hl.1 rfl (lv_room (Nat.le_of_ble_eq_true rfl)) dL_law_920 ⟨Nat.le_of_ble_eq_true rfl, Nat.le_of_ble_eq_true rfl⟩) hS (fun q _ h => hFc q h) hFc (fun r u t H locs ht hvm hw hB hz1 hk1 hS => ?_)
  obtain ⟨hP, hD, hK⟩ := PE.join0 (wc := [(h0, .inr (9, [.int 7, .ref a1, .int 0, .ref a2, .int 0, .int 0, .ref w1, .ref p1, .ref o1])), (a1, .inl (cA1, 4, .inr (.inr (.inr (.inr (fun _ => none)))))), (a2, .inl (cA2, 10, .inr (.inr (.inr (.inr (fun _ => none))))))]) (wr := [(m0, .inr (13, [.int 0, .int 7, .int 0, .ref l1, .ref l2])), (l1, .inr (2, [.int 0, .ref dE, .int 0])), (l2, .inr (2, [.int 0, .ref dE, .int 0])), (o0, .inr (10, [.long 0, .double FP.dconst0, .null]))]) (tr := []) hP hD hK [0, 1, 2] [3, 4, 5, 6] [] rfl rfl rfl (by decide) (by decide) hk1 hFc
  have hP : va_P (dC, dI) vwCl [(m0, .inr (13, [.int 0, .int 7, .int 0, .ref l1, .ref l2])), (l1, .inr (2, [.int 0, .ref dE, .int 0])), (l2, .inr (2, [.int 0, .ref dE, .int 0])), (o0, .inr (10, [.long 0, .double FP.dconst0, .null]))] H := hP
  have hD : va_D A [(m0, .inr (13, [.int 0, .int 7, .int 0, .ref l1, .ref l2])), (l1, .inr (2, [.int 0, .ref dE, .int 0])), (l2, .inr (2, [.int 0, .ref dE, .int 0])), (o0, .inr (10, [.long 0, .double FP.dconst0, .null]))] := hD
  have hK : va_K (dC, dI) vwCl [] s := hK
  subst hw
  refine W.widen (k := 38) (n := 523) (by omega) (by omega) ?_
  refine lv_istore (lv' := [(5, .int 1), (4, .int 0), (3, .ref o0), (2, .ref m0), (1, .ref h0), (0, .ref b)]) hx hb dL_law_923 hl (by decide) rfl (fun ls hl => ?_)
  refine lv_aload_n hx hb dL_law_925 rfl (lv_at hl 3 rfl) ?_
  refine lv_aload_n hx hb dL_law_926 rfl (lv_at hl 5 rfl) ?_
  refine lv_iload hx hb dL_law_927 (lv_at hl 1 rfl) ?_
  refine lv_iconst (v := 1) hx hb dL_law_929 (by decide) ?_
  refine lv_iadd hx hb dL_law_930 ?_
  refine lv_topi (fun f3 ef3 => ?_)
  obtain rfl : f3 = 1 := ef3.trans (by decide)
  refine va_sld hx hb hX hbl hbA hS (by unfold vp_in; decide) dL_law_931 ?_
  refine lv_aload_n hx hb dL_law_932 rfl (lv_at hl 5 rfl) ?_
  refine lv_iload hx hb dL_law_933 (lv_at hl 1 rfl) ?_
  refine lv_iconst (v := 2) hx hb dL_law_935 (by decide) ?_
  refine lv_iadd hx hb dL_law_936 ?_
  refine lv_topi (fun f4 ef4 => ?_)
  obtain rfl : f4 = 2 := ef4.trans (by decide)
  refine va_sld hx hb hX hbl hbA hS (by unfold vp_in; decide) dL_law_937 ?_
  have hPc := hP.sub (ws' := [(m0, .inr (13, [.int 0, .int 7, .int 0, .ref l1, .ref l2])), (l1, .inr (2, [.int 0, .ref dE, .int 0])), (l2, .inr (2, [.int 0, .ref dE, .int 0]))]) [0, 1, 2] rfl
  have hDc := hD.sub (ws' := [(m0, .inr (13, [.int 0, .int 7, .int 0, .ref l1, .ref l2])), (l1, .inr (2, [.int 0, .ref dE, .int 0])), (l2, .inr (2, [.int 0, .ref dE, .int 0]))]) [0, 1, 2] (by decide) rfl
  have hKc := hK.sub (tys' := []) [] rfl
  have hFc := va_free (wc := [(m0, .inr (13, [.int 0, .int 7, .int 0, .ref l1, .ref l2])), (l1, .inr (2, [.int 0, .ref dE, .int 0])), (l2, .inr (2, [.int 0, .ref dE, .int 0]))]) hD hS hA [0, 1, 2] rfl
  refine va_calli (va_runV (As := [.int (xs (Int32.toNatClampNeg 1)), .int (xs (Int32.toNatClampNeg 2))]) (rest := []) ⟨hx, hb, hml, hown, hts⟩ (c_M_invert l dC dI dE m0 l1 l2 (xs (Int32.toNatClampNeg 1)) (xs (Int32.toNatClampNeg 2)) H.size) (cwV 2 hts gL_law_X10_invert rfl rfl rfl (by decide +kernel) ⟨Nat.le_of_ble_eq_true rfl, Nat.le_of_ble_eq_true rfl⟩) ⟨fun a U g mk q => ⟨q.1, PB.blind q.2⟩, va_recv hKc hPc (ci := 13) (q0 := 0) rfl rfl, fun U hU hW => ⟨rfl, PB.call hPc hKc hDc hTb hZ hS hFc hU hW⟩⟩ rfl rfl hl.1 rfl (lv_room (Nat.le_of_ble_eq_true rfl)) dL_law_938 ⟨Nat.le_of_ble_eq_true rfl, Nat.le_of_ble_eq_true rfl⟩) hS (fun q _ h => hFc q h) hFc (fun r u t H locs ht hvm hw hB hz1 hk1 hS => ?_)
  obtain ⟨hP, hD, hK⟩ := PE.join (wc := [(m0, .inr (13, [.int 0, .int 7, .int 0, .ref l1, .ref l2])), (l1, .inr (2, [.int 0, .ref dE, .int 0])), (l2, .inr (2, [.int 0, .ref dE, .int 0]))]) (wr := [(o0, .inr (10, [.long 0, .double FP.dconst0, .null]))]) (w1 := [(m0, .inr (13, [.int 1, .int 7, .int 0, .ref l1, .ref l2])), (l1, .inr (2, [.int 0, .ref dE, .int 0])), (l2, .inr (2, [.int 0, .ref dE, .int 0]))]) (tr := []) (t1 := []) hP hD hK [0, 1, 2] [3] [] rfl rfl rfl (by decide) (by decide) hk1 hFc ht hvm hB
  have hP : va_P (dC, dI) vwCl [(o0, .inr (10, [.long 0, .double FP.dconst0, .null])), (m0, .inr (13, [.int 1, .int 7, .int 0, .ref l1, .ref l2])), (l1, .inr (2, [.int 0, .ref dE, .int 0])), (l2, .inr (2, [.int 0, .ref dE, .int 0]))] H := hP
  have hD : va_D A [(o0, .inr (10, [.long 0, .double FP.dconst0, .null])), (m0, .inr (13, [.int 1, .int 7, .int 0, .ref l1, .ref l2])), (l1, .inr (2, [.int 0, .ref dE, .int 0])), (l2, .inr (2, [.int 0, .ref dE, .int 0]))] := hD
  have hK : va_K (dC, dI) vwCl [] s := hK
  subst hw
  refine lv_istore (lv' := [(6, .int 0), (5, .int 1), (4, .int 0), (3, .ref o0), (2, .ref m0), (1, .ref h0), (0, .ref b)]) hx hb dL_law_941 hl (by decide) rfl (fun ls hl => ?_)
  refine lv_aload_n hx hb dL_law_943 rfl (lv_at hl 4 rfl) ?_
  have hPc := hP.sub (ws' := [(m0, .inr (13, [.int 1, .int 7, .int 0, .ref l1, .ref l2]))]) [1] rfl
  have hDc := hD.sub (ws' := [(m0, .inr (13, [.int 1, .int 7, .int 0, .ref l1, .ref l2]))]) [1] (by decide) rfl
  have hKc := hK.sub (tys' := []) [] rfl
  have hFc := va_free (wc := [(m0, .inr (13, [.int 1, .int 7, .int 0, .ref l1, .ref l2]))]) hD hS hA [1] rfl
  refine va_calli (va_runV (As := []) (rest := []) ⟨hx, hb, hml, hown, hts⟩ (c_M_thrown l dC dI dE m0 1 7 0 l1 l2 H.size) (cwV 0 hts gL_law_X10_thrown rfl rfl rfl (by decide +kernel) ⟨Nat.le_of_ble_eq_true rfl, Nat.le_of_ble_eq_true rfl⟩) ⟨fun a U g mk q => ⟨q.1, PB.blind q.2⟩, va_recv hKc hPc (ci := 13) (q0 := 0) rfl rfl, fun U hU hW => ⟨rfl, PB.call hPc hKc hDc hTb hZ hS hFc hU hW⟩⟩ rfl rfl hl.1 rfl (lv_room (Nat.le_of_ble_eq_true rfl)) dL_law_944 ⟨Nat.le_of_ble_eq_true rfl, Nat.le_of_ble_eq_true rfl⟩) hS (fun q _ h => hFc q h) hFc (fun r u t H locs ht hvm hw hB hz1 hk1 hS => ?_)
  obtain ⟨hP, hD, hK⟩ := PE.join0 (wc := [(m0, .inr (13, [.int 1, .int 7, .int 0, .ref l1, .ref l2]))]) (wr := [(o0, .inr (10, [.long 0, .double FP.dconst0, .null])), (l1, .inr (2, [.int 0, .ref dE, .int 0])), (l2, .inr (2, [.int 0, .ref dE, .int 0]))]) (tr := []) hP hD hK [1] [0, 2, 3] [] rfl rfl rfl (by decide) (by decide) hk1 hFc
  have hP : va_P (dC, dI) vwCl [(o0, .inr (10, [.long 0, .double FP.dconst0, .null])), (l1, .inr (2, [.int 0, .ref dE, .int 0])), (l2, .inr (2, [.int 0, .ref dE, .int 0]))] H := hP
  have hD : va_D A [(o0, .inr (10, [.long 0, .double FP.dconst0, .null])), (l1, .inr (2, [.int 0, .ref dE, .int 0])), (l2, .inr (2, [.int 0, .ref dE, .int 0]))] := hD
  have hK : va_K (dC, dI) vwCl [] s := hK
  subst hw
  refine lv_iload hx hb dL_law_947 (lv_at hl 1 rfl) ?_
  refine lv_icmp_eq (tgt := 954) hx hb dL_law_949 (by decide) (fun _ => ?_) (fun c9 => absurd (by decide) c9)
  refine lv_iload hx hb dL_law_954 (lv_at hl 1 rfl) ?_
  refine lv_if_ne (tgt := 972) hx hb dL_law_956 (by decide) (fun _ => ?_) (fun c9 => absurd c9 (by decide))
  refine lv_goto (tgt := 2435) hx hb dL_law_972 (by decide) ?_
  exact lk_end C0 hA2 hbA hS (Nat.le_of_ble_eq_true rfl) (Nat.le_of_ble_eq_true rfl) (lv_sub hl [2, 6] rfl)

set_option maxHeartbeats 4000000 in
set_option maxRecDepth 100000 in
/-- lk_11 -/
theorem lk_11 {p : Program} {e : Env} {s : State} {m : MethodId} {below : List Frame} {meth : Method} {c : Code} {l : Launch} (hst : l.stackTraces = false) {b : Nat} {xs : Nat → Int32} (C0 : lw_At p s m meth c b 4 xs) {A : Nat → Prop} (hA : ∀ q : Nat, s.heap.size ≤ q → A q) (hA2 : ∀ q : Nat, A q → s.heap.size ≤ q) (hbA : ¬ A b) {dC : Nat → ClassId} {dI : Nat → Nat → Nat} {dE : Nat} (h0 a1 a2 w1 p1 o1 : Nat) (cA1 cA2 : ClassId) (m0 l1 l2 o0 : Nat) (hTb : Tb s) (hZ : Zq2 dE A s s.heap) {H : Heap} {locs : List Loc} (hK : va_K (dC, dI) vwCl [(cA1, .object RX0), (cA2, .object RX1)] s) (hP : va_P (dC, dI) vwCl [(h0, .inr (9, [.int 7, .ref a1, .int 0, .ref a2, .int 0, .int 0, .ref w1, .ref p1, .ref o1])), (a1, .inl (cA1, 4, .inr (.inr (.inr (.inr (fun _ => none)))))), (a2, .inl (cA2, 10, .inr (.inr (.inr (.inr (fun _ => none)))))), (m0, .inr (13, [.int 0, .int 7, .int 0, .ref l1, .ref l2])), (l1, .inr (2, [.int 0, .ref dE, .int 0])), (l2, .inr (2, [.int 0, .ref dE, .int 0])), (o0, .inr (10, [.long 0, .double FP.dconst0, .null]))] H) (hD : va_D A [(h0, .inr (9, [.int 7, .ref a1, .int 0, .ref a2, .int 0, .int 0, .ref w1, .ref p1, .ref o1])), (a1, .inl (cA1, 4, .inr (.inr (.inr (.inr (fun _ => none)))))), (a2, .inl (cA2, 10, .inr (.inr (.inr (.inr (fun _ => none)))))), (m0, .inr (13, [.int 0, .int 7, .int 0, .ref l1, .ref l2])), (l1, .inr (2, [.int 0, .ref dE, .int 0])), (l2, .inr (2, [.int 0, .ref dE, .int 0])), (o0, .inr (10, [.long 0, .double FP.dconst0, .null]))]) (hS : va_S A s.heap H locs) {ls : Array Slot} (hl : lv_has ls 9 [(4, .int 0), (3, .ref o0), (2, .ref m0), (1, .ref h0), (0, .ref b)]) : W p l e room_1 s m #[Value.ref b] below meth c H locs 37 517 (lw_Z below #[Value.ref b] s) (F0 m 975 ls []) := by
  obtain ⟨hx, hb, hr, hml, hown, hts0, hX, hbl, hlocks, hgv⟩ := id C0
  have hts : ∀ w ∈ wsL_law, w.before #[Value.ref b] s = true := lw_words hts0
  refine lv_aload_n hx hb dL_law_975 rfl (lv_at hl 3 rfl) ?_
  refine lv_aload_n hx hb dL_law_976 rfl (lv_at hl 4 rfl) ?_
  refine lv_iload hx hb dL_law_977 (lv_at hl 0 rfl) ?_
  refine lv_iconst (v := 1) hx hb dL_law_979 (by decide) ?_
  refine lv_iadd hx hb dL_law_980 ?_
  refine lv_topi (fun f1 ef1 => ?_)
  obtain rfl : f1 = 1 := ef1.trans (by decide)
  refine va_sld hx hb hX hbl hbA hS (by unfold vp_in; decide) dL_law_981 ?_
  refine lv_aload_n hx hb dL_law_982 rfl (lv_at hl 4 rfl) ?_
  refine lv_iload hx hb dL_law_983 (lv_at hl 0 rfl) ?_
  refine lv_iconst (v := 2) hx hb dL_law_985 (by decide) ?_
  refine lv_iadd hx hb dL_law_986 ?_
  refine lv_topi (fun f2 ef2 => ?_)
  obtain rfl : f2 = 2 := ef2.trans (by decide)
  refine va_sld hx hb hX hbl hbA hS (by unfold vp_in; decide) dL_law_987 ?_
  refine lv_aload_n hx hb dL_law_988 rfl (lv_at hl 1 rfl) ?_
  have hPc := hP.sub (ws' := [(h0, .inr (9, [.int 7, .ref a1, .int 0, .ref a2, .int 0, .int 0, .ref w1, .ref p1, .ref o1])), (a1, .inl (cA1, 4, .inr (.inr (.inr (.inr (fun _ => none)))))), (a2, .inl (cA2, 10, .inr (.inr (.inr (.inr (fun _ => none))))))]) [0, 1, 2] rfl
  have hDc := hD.sub (ws' := [(h0, .inr (9, [.int 7, .ref a1, .int 0, .ref a2, .int 0, .int 0, .ref w1, .ref p1, .ref o1])), (a1, .inl (cA1, 4, .inr (.inr (.inr (.inr (fun _ => none)))))), (a2, .inl (cA2, 10, .inr (.inr (.inr (.inr (fun _ => none))))))]) [0, 1, 2] (by decide) rfl
  have hKc := hK.sub (tys' := [(cA1, .object RX0), (cA2, .object RX1)]) [0, 1] rfl
  have hFc := va_free (wc := [(h0, .inr (9, [.int 7, .ref a1, .int 0, .ref a2, .int 0, .int 0, .ref w1, .ref p1, .ref o1])), (a1, .inl (cA1, 4, .inr (.inr (.inr (.inr (fun _ => none)))))), (a2, .inl (cA2, 10, .inr (.inr (.inr (.inr (fun _ => none))))))]) hD hS hA [0, 1, 2] rfl
  refine va_calli (vx_runSW (As := [.ref h0, .int (xs (Int32.toNatClampNeg 1)), .int (xs (Int32.toNatClampNeg 2)), .ref o0]) (rest := []) ⟨hx, hb, hml, hown, hts⟩ (c_L_series l hst dC dI dE h0 a1 a2 w1 p1 o1 cA1 cA2 (xs (Int32.toNatClampNeg 1)) (xs (Int32.toNatClampNeg 2)) o0 H.size) (vx_cwSW 4 hts gL_law_L_series rfl rfl rfl (by decide +kernel) ⟨Nat.le_of_ble_eq_true rfl, Nat.le_of_ble_eq_true rfl⟩) ⟨fun a U g mk q => ⟨q.1, PB.blind q.2⟩, fun U hU hW => ⟨rfl, PB.call hPc hKc hDc hTb hZ hS hFc hU hW⟩⟩ rfl rfl hl.1 rfl (lv_room (Nat.le_of_ble_eq_true rfl)) dL_law_989 ⟨Nat.le_of_ble_eq_true rfl, Nat.le_of_ble_eq_true rfl⟩) hS (fun q _ h => hFc q h) hFc (fun r u t H locs ht hvm hw hB hz1 hk1 hS => ?_)
  obtain ⟨hP, hD, hK⟩ := PE.join0 (wc := [(h0, .inr (9, [.int 7, .ref a1, .int 0, .ref a2, .int 0, .int 0, .ref w1, .ref p1, .ref o1])), (a1, .inl (cA1, 4, .inr (.inr (.inr (.inr (fun _ => none)))))), (a2, .inl (cA2, 10, .inr (.inr (.inr (.inr (fun _ => none))))))]) (wr := [(m0, .inr (13, [.int 0, .int 7, .int 0, .ref l1, .ref l2])), (l1, .inr (2, [.int 0, .ref dE, .int 0])), (l2, .inr (2, [.int 0, .ref dE, .int 0])), (o0, .inr (10, [.long 0, .double FP.dconst0, .null]))]) (tr := []) hP hD hK [0, 1, 2] [3, 4, 5, 6] [] rfl rfl rfl (by decide) (by decide) hk1 hFc
  have hP : va_P (dC, dI) vwCl [(m0, .inr (13, [.int 0, .int 7, .int 0, .ref l1, .ref l2])), (l1, .inr (2, [.int 0, .ref dE, .int 0])), (l2, .inr (2, [.int 0, .ref dE, .int 0])), (o0, .inr (10, [.long 0, .double FP.dconst0, .null]))] H := hP
  have hD : va_D A [(m0, .inr (13, [.int 0, .int 7, .int 0, .ref l1, .ref l2])), (l1, .inr (2, [.int 0, .ref dE, .int 0])), (l2, .inr (2, [.int 0, .ref dE, .int 0])), (o0, .inr (10, [.long 0, .double FP.dconst0, .null]))] := hD
  have hK : va_K (dC, dI) vwCl [] s := hK
  subst hw
  refine W.widen (k := 38) (n := 523) (by omega) (by omega) ?_
  refine lv_istore (lv' := [(5, .int 1), (4, .int 0), (3, .ref o0), (2, .ref m0), (1, .ref h0), (0, .ref b)]) hx hb dL_law_992 hl (by decide) rfl (fun ls hl => ?_)
  refine lv_aload_n hx hb dL_law_994 rfl (lv_at hl 3 rfl) ?_
  refine lv_aload_n hx hb dL_law_995 rfl (lv_at hl 5 rfl) ?_
  refine lv_iload hx hb dL_law_996 (lv_at hl 1 rfl) ?_
  refine lv_iconst (v := 1) hx hb dL_law_998 (by decide) ?_
  refine lv_iadd hx hb dL_law_999 ?_
  refine lv_topi (fun f3 ef3 => ?_)
  obtain rfl : f3 = 1 := ef3.trans (by decide)
  refine va_sld hx hb hX hbl hbA hS (by unfold vp_in; decide) dL_law_1000 ?_
  refine lv_aload_n hx hb dL_law_1001 rfl (lv_at hl 5 rfl) ?_
  refine lv_iload hx hb dL_law_1002 (lv_at hl 1 rfl) ?_
  refine lv_iconst (v := 2) hx hb dL_law_1004 (by decide) ?_
  refine lv_iadd hx hb dL_law_1005 ?_
  refine lv_topi (fun f4 ef4 => ?_)
  obtain rfl : f4 = 2 := ef4.trans (by decide)
  refine va_sld hx hb hX hbl hbA hS (by unfold vp_in; decide) dL_law_1006 ?_
  have hPc := hP.sub (ws' := [(m0, .inr (13, [.int 0, .int 7, .int 0, .ref l1, .ref l2])), (l1, .inr (2, [.int 0, .ref dE, .int 0])), (l2, .inr (2, [.int 0, .ref dE, .int 0]))]) [0, 1, 2] rfl
  have hDc := hD.sub (ws' := [(m0, .inr (13, [.int 0, .int 7, .int 0, .ref l1, .ref l2])), (l1, .inr (2, [.int 0, .ref dE, .int 0])), (l2, .inr (2, [.int 0, .ref dE, .int 0]))]) [0, 1, 2] (by decide) rfl
  have hKc := hK.sub (tys' := []) [] rfl
  have hFc := va_free (wc := [(m0, .inr (13, [.int 0, .int 7, .int 0, .ref l1, .ref l2])), (l1, .inr (2, [.int 0, .ref dE, .int 0])), (l2, .inr (2, [.int 0, .ref dE, .int 0]))]) hD hS hA [0, 1, 2] rfl
  refine va_calli (va_runV (As := [.int (xs (Int32.toNatClampNeg 1)), .int (xs (Int32.toNatClampNeg 2))]) (rest := []) ⟨hx, hb, hml, hown, hts⟩ (c_M_series l dC dI dE m0 l1 l2 (xs (Int32.toNatClampNeg 1)) (xs (Int32.toNatClampNeg 2)) H.size) (cwV 2 hts gL_law_X10_series rfl rfl rfl (by decide +kernel) ⟨Nat.le_of_ble_eq_true rfl, Nat.le_of_ble_eq_true rfl⟩) ⟨fun a U g mk q => ⟨q.1, PB.blind q.2⟩, va_recv hKc hPc (ci := 13) (q0 := 0) rfl rfl, fun U hU hW => ⟨rfl, PB.call hPc hKc hDc hTb hZ hS hFc hU hW⟩⟩ rfl rfl hl.1 rfl (lv_room (Nat.le_of_ble_eq_true rfl)) dL_law_1007 ⟨Nat.le_of_ble_eq_true rfl, Nat.le_of_ble_eq_true rfl⟩) hS (fun q _ h => hFc q h) hFc (fun r u t H locs ht hvm hw hB hz1 hk1 hS => ?_)
  obtain ⟨hP, hD, hK⟩ := PE.join (wc := [(m0, .inr (13, [.int 0, .int 7, .int 0, .ref l1, .ref l2])), (l1, .inr (2, [.int 0, .ref dE, .int 0])), (l2, .inr (2, [.int 0, .ref dE, .int 0]))]) (wr := [(o0, .inr (10, [.long 0, .double FP.dconst0, .null]))]) (w1 := [(m0, .inr (13, [.int 1, .int 7, .int 0, .ref l1, .ref l2])), (l1, .inr (2, [.int 0, .ref dE, .int 0])), (l2, .inr (2, [.int 0, .ref dE, .int 0]))]) (tr := []) (t1 := []) hP hD hK [0, 1, 2] [3] [] rfl rfl rfl (by decide) (by decide) hk1 hFc ht hvm hB
  have hP : va_P (dC, dI) vwCl [(o0, .inr (10, [.long 0, .double FP.dconst0, .null])), (m0, .inr (13, [.int 1, .int 7, .int 0, .ref l1, .ref l2])), (l1, .inr (2, [.int 0, .ref dE, .int 0])), (l2, .inr (2, [.int 0, .ref dE, .int 0]))] H := hP
  have hD : va_D A [(o0, .inr (10, [.long 0, .double FP.dconst0, .null])), (m0, .inr (13, [.int 1, .int 7, .int 0, .ref l1, .ref l2])), (l1, .inr (2, [.int 0, .ref dE, .int 0])), (l2, .inr (2, [.int 0, .ref dE, .int 0]))] := hD
  have hK : va_K (dC, dI) vwCl [] s := hK
  subst hw
  refine lv_istore (lv' := [(6, .int 0), (5, .int 1), (4, .int 0), (3, .ref o0), (2, .ref m0), (1, .ref h0), (0, .ref b)]) hx hb dL_law_1010 hl (by decide) rfl (fun ls hl => ?_)
  refine lv_aload_n hx hb dL_law_1012 rfl (lv_at hl 4 rfl) ?_
  have hPc := hP.sub (ws' := [(m0, .inr (13, [.int 1, .int 7, .int 0, .ref l1, .ref l2]))]) [1] rfl
  have hDc := hD.sub (ws' := [(m0, .inr (13, [.int 1, .int 7, .int 0, .ref l1, .ref l2]))]) [1] (by decide) rfl
  have hKc := hK.sub (tys' := []) [] rfl
  have hFc := va_free (wc := [(m0, .inr (13, [.int 1, .int 7, .int 0, .ref l1, .ref l2]))]) hD hS hA [1] rfl
  refine va_calli (va_runV (As := []) (rest := []) ⟨hx, hb, hml, hown, hts⟩ (c_M_thrown l dC dI dE m0 1 7 0 l1 l2 H.size) (cwV 0 hts gL_law_X10_thrown rfl rfl rfl (by decide +kernel) ⟨Nat.le_of_ble_eq_true rfl, Nat.le_of_ble_eq_true rfl⟩) ⟨fun a U g mk q => ⟨q.1, PB.blind q.2⟩, va_recv hKc hPc (ci := 13) (q0 := 0) rfl rfl, fun U hU hW => ⟨rfl, PB.call hPc hKc hDc hTb hZ hS hFc hU hW⟩⟩ rfl rfl hl.1 rfl (lv_room (Nat.le_of_ble_eq_true rfl)) dL_law_1013 ⟨Nat.le_of_ble_eq_true rfl, Nat.le_of_ble_eq_true rfl⟩) hS (fun q _ h => hFc q h) hFc (fun r u t H locs ht hvm hw hB hz1 hk1 hS => ?_)
  obtain ⟨hP, hD, hK⟩ := PE.join0 (wc := [(m0, .inr (13, [.int 1, .int 7, .int 0, .ref l1, .ref l2]))]) (wr := [(o0, .inr (10, [.long 0, .double FP.dconst0, .null])), (l1, .inr (2, [.int 0, .ref dE, .int 0])), (l2, .inr (2, [.int 0, .ref dE, .int 0]))]) (tr := []) hP hD hK [1] [0, 2, 3] [] rfl rfl rfl (by decide) (by decide) hk1 hFc
  have hP : va_P (dC, dI) vwCl [(o0, .inr (10, [.long 0, .double FP.dconst0, .null])), (l1, .inr (2, [.int 0, .ref dE, .int 0])), (l2, .inr (2, [.int 0, .ref dE, .int 0]))] H := hP
  have hD : va_D A [(o0, .inr (10, [.long 0, .double FP.dconst0, .null])), (l1, .inr (2, [.int 0, .ref dE, .int 0])), (l2, .inr (2, [.int 0, .ref dE, .int 0]))] := hD
  have hK : va_K (dC, dI) vwCl [] s := hK
  subst hw
  refine lv_iload hx hb dL_law_1016 (lv_at hl 1 rfl) ?_
  refine lv_icmp_eq (tgt := 1023) hx hb dL_law_1018 (by decide) (fun _ => ?_) (fun c9 => absurd (by decide) c9)
  refine lv_iload hx hb dL_law_1023 (lv_at hl 1 rfl) ?_
  refine lv_if_ne (tgt := 1041) hx hb dL_law_1025 (by decide) (fun _ => ?_) (fun c9 => absurd c9 (by decide))
  refine lv_goto (tgt := 2435) hx hb dL_law_1041 (by decide) ?_
  exact lk_end C0 hA2 hbA hS (Nat.le_of_ble_eq_true rfl) (Nat.le_of_ble_eq_true rfl) (lv_sub hl [2, 6] rfl)

set_option maxHeartbeats 4000000 in
set_option maxRecDepth 100000 in
/-- lk_12 -/
theorem lk_12 {p : Program} {e : Env} {s : State} {m : MethodId} {below : List Frame} {meth : Method} {c : Code} {l : Launch} (hst : l.stackTraces = false) {b : Nat} {xs : Nat → Int32} (C0 : lw_At p s m meth c b 4 xs) {A : Nat → Prop} (hA : ∀ q : Nat, s.heap.size ≤ q → A q) (hA2 : ∀ q : Nat, A q → s.heap.size ≤ q) (hbA : ¬ A b) {dC : Nat → ClassId} {dI : Nat → Nat → Nat} {dE : Nat} (h0 a1 a2 w1 p1 o1 : Nat) (cA1 cA2 : ClassId) (m0 l1 l2 o0 : Nat) (hTb : Tb s) (hZ : Zq2 dE A s s.heap) {H : Heap} {locs : List Loc} (hK : va_K (dC, dI) vwCl [(cA1, .object RX0), (cA2, .object RX1)] s) (hP : va_P (dC, dI) vwCl [(h0, .inr (9, [.int 7, .ref a1, .int 0, .ref a2, .int 0, .int 0, .ref w1, .ref p1, .ref o1])), (a1, .inl (cA1, 4, .inr (.inr (.inr (.inr (fun _ => none)))))), (a2, .inl (cA2, 10, .inr (.inr (.inr (.inr (fun _ => none)))))), (m0, .inr (13, [.int 0, .int 7, .int 0, .ref l1, .ref l2])), (l1, .inr (2, [.int 0, .ref dE, .int 0])), (l2, .inr (2, [.int 0, .ref dE, .int 0])), (o0, .inr (10, [.long 0, .double FP.dconst0, .null]))] H) (hD : va_D A [(h0, .inr (9, [.int 7, .ref a1, .int 0, .ref a2, .int 0, .int 0, .ref w1, .ref p1, .ref o1])), (a1, .inl (cA1, 4, .inr (.inr (.inr (.inr (fun _ => none)))))), (a2, .inl (cA2, 10, .inr (.inr (.inr (.inr (fun _ => none)))))), (m0, .inr (13, [.int 0, .int 7, .int 0, .ref l1, .ref l2])), (l1, .inr (2, [.int 0, .ref dE, .int 0])), (l2, .inr (2, [.int 0, .ref dE, .int 0])), (o0, .inr (10, [.long 0, .double FP.dconst0, .null]))]) (hS : va_S A s.heap H locs) {ls : Array Slot} (hl : lv_has ls 9 [(4, .int 0), (3, .ref o0), (2, .ref m0), (1, .ref h0), (0, .ref b)]) : W p l e room_1 s m #[Value.ref b] below meth c H locs 37 517 (lw_Z below #[Value.ref b] s) (F0 m 1044 ls []) := by
  obtain ⟨hx, hb, hr, hml, hown, hts0, hX, hbl, hlocks, hgv⟩ := id C0
  have hts : ∀ w ∈ wsL_law, w.before #[Value.ref b] s = true := lw_words hts0
  refine lv_aload_n hx hb dL_law_1044 rfl (lv_at hl 3 rfl) ?_
  refine lv_aload_n hx hb dL_law_1045 rfl (lv_at hl 4 rfl) ?_
  refine lv_iload hx hb dL_law_1046 (lv_at hl 0 rfl) ?_
  refine lv_iconst (v := 1) hx hb dL_law_1048 (by decide) ?_
  refine lv_iadd hx hb dL_law_1049 ?_
  refine lv_topi (fun f1 ef1 => ?_)
  obtain rfl : f1 = 1 := ef1.trans (by decide)
  refine va_sld hx hb hX hbl hbA hS (by unfold vp_in; decide) dL_law_1050 ?_
  refine lv_aload_n hx hb dL_law_1051 rfl (lv_at hl 4 rfl) ?_
  refine lv_iload hx hb dL_law_1052 (lv_at hl 0 rfl) ?_
  refine lv_iconst (v := 2) hx hb dL_law_1054 (by decide) ?_
  refine lv_iadd hx hb dL_law_1055 ?_
  refine lv_topi (fun f2 ef2 => ?_)
  obtain rfl : f2 = 2 := ef2.trans (by decide)
  refine va_sld hx hb hX hbl hbA hS (by unfold vp_in; decide) dL_law_1056 ?_
  refine lv_aload_n hx hb dL_law_1057 rfl (lv_at hl 1 rfl) ?_
  have hPc := hP.sub (ws' := [(h0, .inr (9, [.int 7, .ref a1, .int 0, .ref a2, .int 0, .int 0, .ref w1, .ref p1, .ref o1])), (a1, .inl (cA1, 4, .inr (.inr (.inr (.inr (fun _ => none)))))), (a2, .inl (cA2, 10, .inr (.inr (.inr (.inr (fun _ => none))))))]) [0, 1, 2] rfl
  have hDc := hD.sub (ws' := [(h0, .inr (9, [.int 7, .ref a1, .int 0, .ref a2, .int 0, .int 0, .ref w1, .ref p1, .ref o1])), (a1, .inl (cA1, 4, .inr (.inr (.inr (.inr (fun _ => none)))))), (a2, .inl (cA2, 10, .inr (.inr (.inr (.inr (fun _ => none))))))]) [0, 1, 2] (by decide) rfl
  have hKc := hK.sub (tys' := [(cA1, .object RX0), (cA2, .object RX1)]) [0, 1] rfl
  have hFc := va_free (wc := [(h0, .inr (9, [.int 7, .ref a1, .int 0, .ref a2, .int 0, .int 0, .ref w1, .ref p1, .ref o1])), (a1, .inl (cA1, 4, .inr (.inr (.inr (.inr (fun _ => none)))))), (a2, .inl (cA2, 10, .inr (.inr (.inr (.inr (fun _ => none))))))]) hD hS hA [0, 1, 2] rfl
  refine va_calli (vx_runSW (As := [.ref h0, .int (xs (Int32.toNatClampNeg 1)), .int (xs (Int32.toNatClampNeg 2)), .ref o0]) (rest := []) ⟨hx, hb, hml, hown, hts⟩ (c_L_killer l hst dC dI dE h0 a1 a2 w1 p1 o1 cA1 cA2 (xs (Int32.toNatClampNeg 1)) (xs (Int32.toNatClampNeg 2)) o0 H.size) (vx_cwSW 4 hts gL_law_L_killer rfl rfl rfl (by decide +kernel) ⟨Nat.le_of_ble_eq_true rfl, Nat.le_of_ble_eq_true rfl⟩) ⟨fun a U g mk q => ⟨q.1, PB.blind q.2⟩, fun U hU hW => ⟨rfl, PB.call hPc hKc hDc hTb hZ hS hFc hU hW⟩⟩ rfl rfl hl.1 rfl (lv_room (Nat.le_of_ble_eq_true rfl)) dL_law_1058 ⟨Nat.le_of_ble_eq_true rfl, Nat.le_of_ble_eq_true rfl⟩) hS (fun q _ h => hFc q h) hFc (fun r u t H locs ht hvm hw hB hz1 hk1 hS => ?_)
  obtain ⟨hP, hD, hK⟩ := PE.join0 (wc := [(h0, .inr (9, [.int 7, .ref a1, .int 0, .ref a2, .int 0, .int 0, .ref w1, .ref p1, .ref o1])), (a1, .inl (cA1, 4, .inr (.inr (.inr (.inr (fun _ => none)))))), (a2, .inl (cA2, 10, .inr (.inr (.inr (.inr (fun _ => none))))))]) (wr := [(m0, .inr (13, [.int 0, .int 7, .int 0, .ref l1, .ref l2])), (l1, .inr (2, [.int 0, .ref dE, .int 0])), (l2, .inr (2, [.int 0, .ref dE, .int 0])), (o0, .inr (10, [.long 0, .double FP.dconst0, .null]))]) (tr := []) hP hD hK [0, 1, 2] [3, 4, 5, 6] [] rfl rfl rfl (by decide) (by decide) hk1 hFc
  have hP : va_P (dC, dI) vwCl [(m0, .inr (13, [.int 0, .int 7, .int 0, .ref l1, .ref l2])), (l1, .inr (2, [.int 0, .ref dE, .int 0])), (l2, .inr (2, [.int 0, .ref dE, .int 0])), (o0, .inr (10, [.long 0, .double FP.dconst0, .null]))] H := hP
  have hD : va_D A [(m0, .inr (13, [.int 0, .int 7, .int 0, .ref l1, .ref l2])), (l1, .inr (2, [.int 0, .ref dE, .int 0])), (l2, .inr (2, [.int 0, .ref dE, .int 0])), (o0, .inr (10, [.long 0, .double FP.dconst0, .null]))] := hD
  have hK : va_K (dC, dI) vwCl [] s := hK
  subst hw
  refine W.widen (k := 38) (n := 523) (by omega) (by omega) ?_
  refine lv_istore (lv' := [(5, .int 1), (4, .int 0), (3, .ref o0), (2, .ref m0), (1, .ref h0), (0, .ref b)]) hx hb dL_law_1061 hl (by decide) rfl (fun ls hl => ?_)
  refine lv_aload_n hx hb dL_law_1063 rfl (lv_at hl 3 rfl) ?_
  refine lv_aload_n hx hb dL_law_1064 rfl (lv_at hl 5 rfl) ?_
  refine lv_iload hx hb dL_law_1065 (lv_at hl 1 rfl) ?_
  refine lv_iconst (v := 1) hx hb dL_law_1067 (by decide) ?_
  refine lv_iadd hx hb dL_law_1068 ?_
  refine lv_topi (fun f3 ef3 => ?_)
  obtain rfl : f3 = 1 := ef3.trans (by decide)
  refine va_sld hx hb hX hbl hbA hS (by unfold vp_in; decide) dL_law_1069 ?_
  refine lv_aload_n hx hb dL_law_1070 rfl (lv_at hl 5 rfl) ?_
  refine lv_iload hx hb dL_law_1071 (lv_at hl 1 rfl) ?_
  refine lv_iconst (v := 2) hx hb dL_law_1073 (by decide) ?_
  refine lv_iadd hx hb dL_law_1074 ?_
  refine lv_topi (fun f4 ef4 => ?_)
  obtain rfl : f4 = 2 := ef4.trans (by decide)
  refine va_sld hx hb hX hbl hbA hS (by unfold vp_in; decide) dL_law_1075 ?_
  have hPc := hP.sub (ws' := [(m0, .inr (13, [.int 0, .int 7, .int 0, .ref l1, .ref l2])), (l1, .inr (2, [.int 0, .ref dE, .int 0])), (l2, .inr (2, [.int 0, .ref dE, .int 0]))]) [0, 1, 2] rfl
  have hDc := hD.sub (ws' := [(m0, .inr (13, [.int 0, .int 7, .int 0, .ref l1, .ref l2])), (l1, .inr (2, [.int 0, .ref dE, .int 0])), (l2, .inr (2, [.int 0, .ref dE, .int 0]))]) [0, 1, 2] (by decide) rfl
  have hKc := hK.sub (tys' := []) [] rfl
  have hFc := va_free (wc := [(m0, .inr (13, [.int 0, .int 7, .int 0, .ref l1, .ref l2])), (l1, .inr (2, [.int 0, .ref dE, .int 0])), (l2, .inr (2, [.int 0, .ref dE, .int 0]))]) hD hS hA [0, 1, 2] rfl
  refine va_calli (va_runV (As := [.int (xs (Int32.toNatClampNeg 1)), .int (xs (Int32.toNatClampNeg 2))]) (rest := []) ⟨hx, hb, hml, hown, hts⟩ (c_M_killer l dC dI dE m0 l1 l2 (xs (Int32.toNatClampNeg 1)) (xs (Int32.toNatClampNeg 2)) H.size) (cwV 2 hts gL_law_X10_killer rfl rfl rfl (by decide +kernel) ⟨Nat.le_of_ble_eq_true rfl, Nat.le_of_ble_eq_true rfl⟩) ⟨fun a U g mk q => ⟨q.1, PB.blind q.2⟩, va_recv hKc hPc (ci := 13) (q0 := 0) rfl rfl, fun U hU hW => ⟨rfl, PB.call hPc hKc hDc hTb hZ hS hFc hU hW⟩⟩ rfl rfl hl.1 rfl (lv_room (Nat.le_of_ble_eq_true rfl)) dL_law_1076 ⟨Nat.le_of_ble_eq_true rfl, Nat.le_of_ble_eq_true rfl⟩) hS (fun q _ h => hFc q h) hFc (fun r u t H locs ht hvm hw hB hz1 hk1 hS => ?_)
  obtain ⟨hP, hD, hK⟩ := PE.join (wc := [(m0, .inr (13, [.int 0, .int 7, .int 0, .ref l1, .ref l2])), (l1, .inr (2, [.int 0, .ref dE, .int 0])), (l2, .inr (2, [.int 0, .ref dE, .int 0]))]) (wr := [(o0, .inr (10, [.long 0, .double FP.dconst0, .null]))]) (w1 := [(m0, .inr (13, [.int 1, .int 7, .int 0, .ref l1, .ref l2])), (l1, .inr (2, [.int 0, .ref dE, .int 0])), (l2, .inr (2, [.int 0, .ref dE, .int 0]))]) (tr := []) (t1 := []) hP hD hK [0, 1, 2] [3] [] rfl rfl rfl (by decide) (by decide) hk1 hFc ht hvm hB
  have hP : va_P (dC, dI) vwCl [(o0, .inr (10, [.long 0, .double FP.dconst0, .null])), (m0, .inr (13, [.int 1, .int 7, .int 0, .ref l1, .ref l2])), (l1, .inr (2, [.int 0, .ref dE, .int 0])), (l2, .inr (2, [.int 0, .ref dE, .int 0]))] H := hP
  have hD : va_D A [(o0, .inr (10, [.long 0, .double FP.dconst0, .null])), (m0, .inr (13, [.int 1, .int 7, .int 0, .ref l1, .ref l2])), (l1, .inr (2, [.int 0, .ref dE, .int 0])), (l2, .inr (2, [.int 0, .ref dE, .int 0]))] := hD
  have hK : va_K (dC, dI) vwCl [] s := hK
  subst hw
  refine lv_istore (lv' := [(6, .int 0), (5, .int 1), (4, .int 0), (3, .ref o0), (2, .ref m0), (1, .ref h0), (0, .ref b)]) hx hb dL_law_1079 hl (by decide) rfl (fun ls hl => ?_)
  refine lv_aload_n hx hb dL_law_1081 rfl (lv_at hl 4 rfl) ?_
  have hPc := hP.sub (ws' := [(m0, .inr (13, [.int 1, .int 7, .int 0, .ref l1, .ref l2]))]) [1] rfl
  have hDc := hD.sub (ws' := [(m0, .inr (13, [.int 1, .int 7, .int 0, .ref l1, .ref l2]))]) [1] (by decide) rfl
  have hKc := hK.sub (tys' := []) [] rfl
  have hFc := va_free (wc := [(m0, .inr (13, [.int 1, .int 7, .int 0, .ref l1, .ref l2]))]) hD hS hA [1] rfl
  refine va_calli (va_runV (As := []) (rest := []) ⟨hx, hb, hml, hown, hts⟩ (c_M_thrown l dC dI dE m0 1 7 0 l1 l2 H.size) (cwV 0 hts gL_law_X10_thrown rfl rfl rfl (by decide +kernel) ⟨Nat.le_of_ble_eq_true rfl, Nat.le_of_ble_eq_true rfl⟩) ⟨fun a U g mk q => ⟨q.1, PB.blind q.2⟩, va_recv hKc hPc (ci := 13) (q0 := 0) rfl rfl, fun U hU hW => ⟨rfl, PB.call hPc hKc hDc hTb hZ hS hFc hU hW⟩⟩ rfl rfl hl.1 rfl (lv_room (Nat.le_of_ble_eq_true rfl)) dL_law_1082 ⟨Nat.le_of_ble_eq_true rfl, Nat.le_of_ble_eq_true rfl⟩) hS (fun q _ h => hFc q h) hFc (fun r u t H locs ht hvm hw hB hz1 hk1 hS => ?_)
  obtain ⟨hP, hD, hK⟩ := PE.join0 (wc := [(m0, .inr (13, [.int 1, .int 7, .int 0, .ref l1, .ref l2]))]) (wr := [(o0, .inr (10, [.long 0, .double FP.dconst0, .null])), (l1, .inr (2, [.int 0, .ref dE, .int 0])), (l2, .inr (2, [.int 0, .ref dE, .int 0]))]) (tr := []) hP hD hK [1] [0, 2, 3] [] rfl rfl rfl (by decide) (by decide) hk1 hFc
  have hP : va_P (dC, dI) vwCl [(o0, .inr (10, [.long 0, .double FP.dconst0, .null])), (l1, .inr (2, [.int 0, .ref dE, .int 0])), (l2, .inr (2, [.int 0, .ref dE, .int 0]))] H := hP
  have hD : va_D A [(o0, .inr (10, [.long 0, .double FP.dconst0, .null])), (l1, .inr (2, [.int 0, .ref dE, .int 0])), (l2, .inr (2, [.int 0, .ref dE, .int 0]))] := hD
  have hK : va_K (dC, dI) vwCl [] s := hK
  subst hw
  refine lv_iload hx hb dL_law_1085 (lv_at hl 1 rfl) ?_
  refine lv_icmp_eq (tgt := 1092) hx hb dL_law_1087 (by decide) (fun _ => ?_) (fun c9 => absurd (by decide) c9)
  refine lv_iload hx hb dL_law_1092 (lv_at hl 1 rfl) ?_
  refine lv_if_ne (tgt := 1110) hx hb dL_law_1094 (by decide) (fun _ => ?_) (fun c9 => absurd c9 (by decide))
  refine lv_goto (tgt := 2435) hx hb dL_law_1110 (by decide) ?_
  exact lk_end C0 hA2 hbA hS (Nat.le_of_ble_eq_true rfl) (Nat.le_of_ble_eq_true rfl) (lv_sub hl [2, 6] rfl)

set_option maxHeartbeats 4000000 in
set_option maxRecDepth 100000 in
/-- lk_13 -/
theorem lk_13 {p : Program} {e : Env} {s : State} {m : MethodId} {below : List Frame} {meth : Method} {c : Code} {l : Launch} (hst : l.stackTraces = false) {b : Nat} {xs : Nat → Int32} (C0 : lw_At p s m meth c b 4 xs) {A : Nat → Prop} (hA : ∀ q : Nat, s.heap.size ≤ q → A q) (hA2 : ∀ q : Nat, A q → s.heap.size ≤ q) (hbA : ¬ A b) {dC : Nat → ClassId} {dI : Nat → Nat → Nat} {dE : Nat} (h0 a1 a2 w1 p1 o1 : Nat) (cA1 cA2 : ClassId) (m0 l1 l2 o0 : Nat) (hTb : Tb s) (hZ : Zq2 dE A s s.heap) {H : Heap} {locs : List Loc} (hK : va_K (dC, dI) vwCl [(cA1, .object RX0), (cA2, .object RX1)] s) (hP : va_P (dC, dI) vwCl [(h0, .inr (9, [.int 7, .ref a1, .int 0, .ref a2, .int 0, .int 0, .ref w1, .ref p1, .ref o1])), (a1, .inl (cA1, 4, .inr (.inr (.inr (.inr (fun _ => none)))))), (a2, .inl (cA2, 10, .inr (.inr (.inr (.inr (fun _ => none)))))), (m0, .inr (13, [.int 0, .int 7, .int 0, .ref l1, .ref l2])), (l1, .inr (2, [.int 0, .ref dE, .int 0])), (l2, .inr (2, [.int 0, .ref dE, .int 0])), (o0, .inr (10, [.long 0, .double FP.dconst0, .null]))] H) (hD : va_D A [(h0, .inr (9, [.int 7, .ref a1, .int 0, .ref a2, .int 0, .int 0, .ref w1, .ref p1, .ref o1])), (a1, .inl (cA1, 4, .inr (.inr (.inr (.inr (fun _ => none)))))), (a2, .inl (cA2, 10, .inr (.inr (.inr (.inr (fun _ => none)))))), (m0, .inr (13, [.int 0, .int 7, .int 0, .ref l1, .ref l2])), (l1, .inr (2, [.int 0, .ref dE, .int 0])), (l2, .inr (2, [.int 0, .ref dE, .int 0])), (o0, .inr (10, [.long 0, .double FP.dconst0, .null]))]) (hS : va_S A s.heap H locs) {ls : Array Slot} (hl : lv_has ls 9 [(4, .int 0), (3, .ref o0), (2, .ref m0), (1, .ref h0), (0, .ref b)]) : W p l e room_1 s m #[Value.ref b] below meth c H locs 37 517 (lw_Z below #[Value.ref b] s) (F0 m 1113 ls []) := by
  obtain ⟨hx, hb, hr, hml, hown, hts0, hX, hbl, hlocks, hgv⟩ := id C0
  have hts : ∀ w ∈ wsL_law, w.before #[Value.ref b] s = true := lw_words hts0
  refine lv_aload_n hx hb dL_law_1113 rfl (lv_at hl 3 rfl) ?_
  refine lv_aload_n hx hb dL_law_1114 rfl (lv_at hl 4 rfl) ?_
  refine lv_iload hx hb dL_law_1115 (lv_at hl 0 rfl) ?_
  refine lv_iconst (v := 1) hx hb dL_law_1117 (by decide) ?_
  refine lv_iadd hx hb dL_law_1118 ?_
  refine lv_topi (fun f1 ef1 => ?_)
  obtain rfl : f1 = 1 := ef1.trans (by decide)
  refine va_sld hx hb hX hbl hbA hS (by unfold vp_in; decide) dL_law_1119 ?_
  refine lv_aload_n hx hb dL_law_1120 rfl (lv_at hl 1 rfl) ?_
  have hPc := hP.sub (ws' := [(h0, .inr (9, [.int 7, .ref a1, .int 0, .ref a2, .int 0, .int 0, .ref w1, .ref p1, .ref o1])), (a1, .inl (cA1, 4, .inr (.inr (.inr (.inr (fun _ => none)))))), (a2, .inl (cA2, 10, .inr (.inr (.inr (.inr (fun _ => none))))))]) [0, 1, 2] rfl
  have hDc := hD.sub (ws' := [(h0, .inr (9, [.int 7, .ref a1, .int 0, .ref a2, .int 0, .int 0, .ref w1, .ref p1, .ref o1])), (a1, .inl (cA1, 4, .inr (.inr (.inr (.inr (fun _ => none)))))), (a2, .inl (cA2, 10, .inr (.inr (.inr (.inr (fun _ => none))))))]) [0, 1, 2] (by decide) rfl
  have hKc := hK.sub (tys' := [(cA1, .object RX0), (cA2, .object RX1)]) [0, 1] rfl
  have hFc := va_free (wc := [(h0, .inr (9, [.int 7, .ref a1, .int 0, .ref a2, .int 0, .int 0, .ref w1, .ref p1, .ref o1])), (a1, .inl (cA1, 4, .inr (.inr (.inr (.inr (fun _ => none)))))), (a2, .inl (cA2, 10, .inr (.inr (.inr (.inr (fun _ => none))))))]) hD hS hA [0, 1, 2] rfl
  refine va_calli (vx_runSW (As := [.ref h0, .int (xs (Int32.toNatClampNeg 1)), .ref o0]) (rest := []) ⟨hx, hb, hml, hown, hts⟩ (c_L_hang l hst dC dI dE h0 a1 a2 w1 p1 o1 cA1 cA2 (xs (Int32.toNatClampNeg 1)) o0 H.size) (vx_cwSW 3 hts gL_law_L_hang rfl rfl rfl (by decide +kernel) ⟨Nat.le_of_ble_eq_true rfl, Nat.le_of_ble_eq_true rfl⟩) ⟨fun a U g mk q => ⟨q.1, PB.blind q.2⟩, fun U hU hW => ⟨rfl, PB.call hPc hKc hDc hTb hZ hS hFc hU hW⟩⟩ rfl rfl hl.1 rfl (lv_room (Nat.le_of_ble_eq_true rfl)) dL_law_1121 ⟨Nat.le_of_ble_eq_true rfl, Nat.le_of_ble_eq_true rfl⟩) hS (fun q _ h => hFc q h) hFc (fun r u t H locs ht hvm hw hB hz1 hk1 hS => ?_)
  obtain ⟨hP, hD, hK⟩ := PE.join0 (wc := [(h0, .inr (9, [.int 7, .ref a1, .int 0, .ref a2, .int 0, .int 0, .ref w1, .ref p1, .ref o1])), (a1, .inl (cA1, 4, .inr (.inr (.inr (.inr (fun _ => none)))))), (a2, .inl (cA2, 10, .inr (.inr (.inr (.inr (fun _ => none))))))]) (wr := [(m0, .inr (13, [.int 0, .int 7, .int 0, .ref l1, .ref l2])), (l1, .inr (2, [.int 0, .ref dE, .int 0])), (l2, .inr (2, [.int 0, .ref dE, .int 0])), (o0, .inr (10, [.long 0, .double FP.dconst0, .null]))]) (tr := []) hP hD hK [0, 1, 2] [3, 4, 5, 6] [] rfl rfl rfl (by decide) (by decide) hk1 hFc
  have hP : va_P (dC, dI) vwCl [(m0, .inr (13, [.int 0, .int 7, .int 0, .ref l1, .ref l2])), (l1, .inr (2, [.int 0, .ref dE, .int 0])), (l2, .inr (2, [.int 0, .ref dE, .int 0])), (o0, .inr (10, [.long 0, .double FP.dconst0, .null]))] H := hP
  have hD : va_D A [(m0, .inr (13, [.int 0, .int 7, .int 0, .ref l1, .ref l2])), (l1, .inr (2, [.int 0, .ref dE, .int 0])), (l2, .inr (2, [.int 0, .ref dE, .int 0])), (o0, .inr (10, [.long 0, .double FP.dconst0, .null]))] := hD
  have hK : va_K (dC, dI) vwCl [] s := hK
  subst hw
  refine W.widen (k := 38) (n := 523) (by omega) (by omega) ?_
  refine lv_istore (lv' := [(5, .int 1), (4, .int 0), (3, .ref o0), (2, .ref m0), (1, .ref h0), (0, .ref b)]) hx hb dL_law_1124 hl (by decide) rfl (fun ls hl => ?_)
  refine lv_aload_n hx hb dL_law_1126 rfl (lv_at hl 3 rfl) ?_
  refine lv_aload_n hx hb dL_law_1127 rfl (lv_at hl 5 rfl) ?_
  refine lv_iload hx hb dL_law_1128 (lv_at hl 1 rfl) ?_
  refine lv_iconst (v := 1) hx hb dL_law_1130 (by decide) ?_
  refine lv_iadd hx hb dL_law_1131 ?_
  refine lv_topi (fun f2 ef2 => ?_)
  obtain rfl : f2 = 1 := ef2.trans (by decide)
  refine va_sld hx hb hX hbl hbA hS (by unfold vp_in; decide) dL_law_1132 ?_
  have hPc := hP.sub (ws' := [(m0, .inr (13, [.int 0, .int 7, .int 0, .ref l1, .ref l2])), (l1, .inr (2, [.int 0, .ref dE, .int 0])), (l2, .inr (2, [.int 0, .ref dE, .int 0]))]) [0, 1, 2] rfl
  have hDc := hD.sub (ws' := [(m0, .inr (13, [.int 0, .int 7, .int 0, .ref l1, .ref l2])), (l1, .inr (2, [.int 0, .ref dE, .int 0])), (l2, .inr (2, [.int 0, .ref dE, .int 0]))]) [0, 1, 2] (by decide) rfl
  have hKc := hK.sub (tys' := []) [] rfl
  have hFc := va_free (wc := [(m0, .inr (13, [.int 0, .int 7, .int 0, .ref l1, .ref l2])), (l1, .inr (2, [.int 0, .ref dE, .int 0])), (l2, .inr (2, [.int 0, .ref dE, .int 0]))]) hD hS hA [0, 1, 2] rfl
  refine va_calli (va_runV (As := [.int (xs (Int32.toNatClampNeg 1))]) (rest := []) ⟨hx, hb, hml, hown, hts⟩ (c_M_hang l dC dI dE m0 l1 l2 (xs (Int32.toNatClampNeg 1)) H.size) (cwV 1 hts gL_law_X10_hang rfl rfl rfl (by decide +kernel) ⟨Nat.le_of_ble_eq_true rfl, Nat.le_of_ble_eq_true rfl⟩) ⟨fun a U g mk q => ⟨q.1, PB.blind q.2⟩, va_recv hKc hPc (ci := 13) (q0 := 0) rfl rfl, fun U hU hW => ⟨rfl, PB.call hPc hKc hDc hTb hZ hS hFc hU hW⟩⟩ rfl rfl hl.1 rfl (lv_room (Nat.le_of_ble_eq_true rfl)) dL_law_1133 ⟨Nat.le_of_ble_eq_true rfl, Nat.le_of_ble_eq_true rfl⟩) hS (fun q _ h => hFc q h) hFc (fun r u t H locs ht hvm hw hB hz1 hk1 hS => ?_)
  obtain ⟨hP, hD, hK⟩ := PE.join (wc := [(m0, .inr (13, [.int 0, .int 7, .int 0, .ref l1, .ref l2])), (l1, .inr (2, [.int 0, .ref dE, .int 0])), (l2, .inr (2, [.int 0, .ref dE, .int 0]))]) (wr := [(o0, .inr (10, [.long 0, .double FP.dconst0, .null]))]) (w1 := [(m0, .inr (13, [.int 1, .int 7, .int 0, .ref l1, .ref l2])), (l1, .inr (2, [.int 0, .ref dE, .int 0])), (l2, .inr (2, [.int 0, .ref dE, .int 0]))]) (tr := []) (t1 := []) hP hD hK [0, 1, 2] [3] [] rfl rfl rfl (by decide) (by decide) hk1 hFc ht hvm hB
  have hP : va_P (dC, dI) vwCl [(o0, .inr (10, [.long 0, .double FP.dconst0, .null])), (m0, .inr (13, [.int 1, .int 7, .int 0, .ref l1, .ref l2])), (l1, .inr (2, [.int 0, .ref dE, .int 0])), (l2, .inr (2, [.int 0, .ref dE, .int 0]))] H := hP
  have hD : va_D A [(o0, .inr (10, [.long 0, .double FP.dconst0, .null])), (m0, .inr (13, [.int 1, .int 7, .int 0, .ref l1, .ref l2])), (l1, .inr (2, [.int 0, .ref dE, .int 0])), (l2, .inr (2, [.int 0, .ref dE, .int 0]))] := hD
  have hK : va_K (dC, dI) vwCl [] s := hK
  subst hw
  refine lv_istore (lv' := [(6, .int 0), (5, .int 1), (4, .int 0), (3, .ref o0), (2, .ref m0), (1, .ref h0), (0, .ref b)]) hx hb dL_law_1136 hl (by decide) rfl (fun ls hl => ?_)
  refine lv_aload_n hx hb dL_law_1138 rfl (lv_at hl 4 rfl) ?_
  have hPc := hP.sub (ws' := [(m0, .inr (13, [.int 1, .int 7, .int 0, .ref l1, .ref l2]))]) [1] rfl
  have hDc := hD.sub (ws' := [(m0, .inr (13, [.int 1, .int 7, .int 0, .ref l1, .ref l2]))]) [1] (by decide) rfl
  have hKc := hK.sub (tys' := []) [] rfl
  have hFc := va_free (wc := [(m0, .inr (13, [.int 1, .int 7, .int 0, .ref l1, .ref l2]))]) hD hS hA [1] rfl
  refine va_calli (va_runV (As := []) (rest := []) ⟨hx, hb, hml, hown, hts⟩ (c_M_thrown l dC dI dE m0 1 7 0 l1 l2 H.size) (cwV 0 hts gL_law_X10_thrown rfl rfl rfl (by decide +kernel) ⟨Nat.le_of_ble_eq_true rfl, Nat.le_of_ble_eq_true rfl⟩) ⟨fun a U g mk q => ⟨q.1, PB.blind q.2⟩, va_recv hKc hPc (ci := 13) (q0 := 0) rfl rfl, fun U hU hW => ⟨rfl, PB.call hPc hKc hDc hTb hZ hS hFc hU hW⟩⟩ rfl rfl hl.1 rfl (lv_room (Nat.le_of_ble_eq_true rfl)) dL_law_1139 ⟨Nat.le_of_ble_eq_true rfl, Nat.le_of_ble_eq_true rfl⟩) hS (fun q _ h => hFc q h) hFc (fun r u t H locs ht hvm hw hB hz1 hk1 hS => ?_)
  obtain ⟨hP, hD, hK⟩ := PE.join0 (wc := [(m0, .inr (13, [.int 1, .int 7, .int 0, .ref l1, .ref l2]))]) (wr := [(o0, .inr (10, [.long 0, .double FP.dconst0, .null])), (l1, .inr (2, [.int 0, .ref dE, .int 0])), (l2, .inr (2, [.int 0, .ref dE, .int 0]))]) (tr := []) hP hD hK [1] [0, 2, 3] [] rfl rfl rfl (by decide) (by decide) hk1 hFc
  have hP : va_P (dC, dI) vwCl [(o0, .inr (10, [.long 0, .double FP.dconst0, .null])), (l1, .inr (2, [.int 0, .ref dE, .int 0])), (l2, .inr (2, [.int 0, .ref dE, .int 0]))] H := hP
  have hD : va_D A [(o0, .inr (10, [.long 0, .double FP.dconst0, .null])), (l1, .inr (2, [.int 0, .ref dE, .int 0])), (l2, .inr (2, [.int 0, .ref dE, .int 0]))] := hD
  have hK : va_K (dC, dI) vwCl [] s := hK
  subst hw
  refine lv_iload hx hb dL_law_1142 (lv_at hl 1 rfl) ?_
  refine lv_icmp_eq (tgt := 1149) hx hb dL_law_1144 (by decide) (fun _ => ?_) (fun c9 => absurd (by decide) c9)
  refine lv_iload hx hb dL_law_1149 (lv_at hl 1 rfl) ?_
  refine lv_if_ne (tgt := 1167) hx hb dL_law_1151 (by decide) (fun _ => ?_) (fun c9 => absurd c9 (by decide))
  refine lv_goto (tgt := 2435) hx hb dL_law_1167 (by decide) ?_
  exact lk_end C0 hA2 hbA hS (Nat.le_of_ble_eq_true rfl) (Nat.le_of_ble_eq_true rfl) (lv_sub hl [2, 6] rfl)

set_option maxHeartbeats 4000000 in
set_option maxRecDepth 100000 in
/-- lk_14 -/
theorem lk_14 {p : Program} {e : Env} {s : State} {m : MethodId} {below : List Frame} {meth : Method} {c : Code} {l : Launch} (hst : l.stackTraces = false) {b : Nat} {xs : Nat → Int32} (C0 : lw_At p s m meth c b 4 xs) {A : Nat → Prop} (hA : ∀ q : Nat, s.heap.size ≤ q → A q) (hA2 : ∀ q : Nat, A q → s.heap.size ≤ q) (hbA : ¬ A b) {dC : Nat → ClassId} {dI : Nat → Nat → Nat} {dE : Nat} (h0 a1 a2 w1 p1 o1 : Nat) (cA1 cA2 : ClassId) (m0 l1 l2 o0 : Nat) (hTb : Tb s) (hZ : Zq2 dE A s s.heap) {H : Heap} {locs : List Loc} (hK : va_K (dC, dI) vwCl [(cA1, .object RX0), (cA2, .object RX1)] s) (hP : va_P (dC, dI) vwCl [(h0, .inr (9, [.int 7, .ref a1, .int 0, .ref a2, .int 0, .int 0, .ref w1, .ref p1, .ref o1])), (a1, .inl (cA1, 4, .inr (.inr (.inr (.inr (fun _ => none)))))), (a2, .inl (cA2, 10, .inr (.inr (.inr (.inr (fun _ => none)))))), (m0, .inr (13, [.int 0, .int 7, .int 0, .ref l1, .ref l2])), (l1, .inr (2, [.int 0, .ref dE, .int 0])), (l2, .inr (2, [.int 0, .ref dE, .int 0])), (o0, .inr (10, [.long 0, .double FP.dconst0, .null]))] H) (hD : va_D A [(h0, .inr (9, [.int 7, .ref a1, .int 0, .ref a2, .int 0, .int 0, .ref w1, .ref p1, .ref o1])), (a1, .inl (cA1, 4, .inr (.inr (.inr (.inr (fun _ => none)))))), (a2, .inl (cA2, 10, .inr (.inr (.inr (.inr (fun _ => none)))))), (m0, .inr (13, [.int 0, .int 7, .int 0, .ref l1, .ref l2])), (l1, .inr (2, [.int 0, .ref dE, .int 0])), (l2, .inr (2, [.int 0, .ref dE, .int 0])), (o0, .inr (10, [.long 0, .double FP.dconst0, .null]))]) (hS : va_S A s.heap H locs) {ls : Array Slot} (hl : lv_has ls 9 [(4, .int 0), (3, .ref o0), (2, .ref m0), (1, .ref h0), (0, .ref b)]) : W p l e room_1 s m #[Value.ref b] below meth c H locs 37 517 (lw_Z below #[Value.ref b] s) (F0 m 1170 ls []) := by
  obtain ⟨hx, hb, hr, hml, hown, hts0, hX, hbl, hlocks, hgv⟩ := id C0
  have hts : ∀ w ∈ wsL_law, w.before #[Value.ref b] s = true := lw_words hts0
  refine lv_aload_n hx hb dL_law_1170 rfl (lv_at hl 3 rfl) ?_
  refine lv_aload_n hx hb dL_law_1171 rfl (lv_at hl 4 rfl) ?_
  refine lv_iload hx hb dL_law_1172 (lv_at hl 0 rfl) ?_
  refine lv_iconst (v := 1) hx hb dL_law_1174 (by decide) ?_
  refine lv_iadd hx hb dL_law_1175 ?_
  refine lv_topi (fun f1 ef1 => ?_)
  obtain rfl : f1 = 1 := ef1.trans (by decide)
  refine va_sld hx hb hX hbl hbA hS (by unfold vp_in; decide) dL_law_1176 ?_
  refine lv_aload_n hx hb dL_law_1177 rfl (lv_at hl 1 rfl) ?_
  have hPc := hP.sub (ws' := [(h0, .inr (9, [.int 7, .ref a1, .int 0, .ref a2, .int 0, .int 0, .ref w1, .ref p1, .ref o1])), (a1, .inl (cA1, 4, .inr (.inr (.inr (.inr (fun _ => none)))))), (a2, .inl (cA2, 10, .inr (.inr (.inr (.inr (fun _ => none))))))]) [0, 1, 2] rfl
  have hDc := hD.sub (ws' := [(h0, .inr (9, [.int 7, .ref a1, .int 0, .ref a2, .int 0, .int 0, .ref w1, .ref p1, .ref o1])), (a1, .inl (cA1, 4, .inr (.inr (.inr (.inr (fun _ => none)))))), (a2, .inl (cA2, 10, .inr (.inr (.inr (.inr (fun _ => none))))))]) [0, 1, 2] (by decide) rfl
  have hKc := hK.sub (tys' := [(cA1, .object RX0), (cA2, .object RX1)]) [0, 1] rfl
  have hFc := va_free (wc := [(h0, .inr (9, [.int 7, .ref a1, .int 0, .ref a2, .int 0, .int 0, .ref w1, .ref p1, .ref o1])), (a1, .inl (cA1, 4, .inr (.inr (.inr (.inr (fun _ => none)))))), (a2, .inl (cA2, 10, .inr (.inr (.inr (.inr (fun _ => none))))))]) hD hS hA [0, 1, 2] rfl
  refine va_calli (vx_runSW (As := [.ref h0, .int (xs (Int32.toNatClampNeg 1)), .ref o0]) (rest := []) ⟨hx, hb, hml, hown, hts⟩ (c_L_clear l hst dC dI dE h0 a1 a2 w1 p1 o1 cA1 cA2 (xs (Int32.toNatClampNeg 1)) o0 H.size) (vx_cwSW 3 hts gL_law_L_clear rfl rfl rfl (by decide +kernel) ⟨Nat.le_of_ble_eq_true rfl, Nat.le_of_ble_eq_true rfl⟩) ⟨fun a U g mk q => ⟨q.1, PB.blind q.2⟩, fun U hU hW => ⟨rfl, PB.call hPc hKc hDc hTb hZ hS hFc hU hW⟩⟩ rfl rfl hl.1 rfl (lv_room (Nat.le_of_ble_eq_true rfl)) dL_law_1178 ⟨Nat.le_of_ble_eq_true rfl, Nat.le_of_ble_eq_true rfl⟩) hS (fun q _ h => hFc q h) hFc (fun r u t H locs ht hvm hw hB hz1 hk1 hS => ?_)
  obtain ⟨hP, hD, hK⟩ := PE.join0 (wc := [(h0, .inr (9, [.int 7, .ref a1, .int 0, .ref a2, .int 0, .int 0, .ref w1, .ref p1, .ref o1])), (a1, .inl (cA1, 4, .inr (.inr (.inr (.inr (fun _ => none)))))), (a2, .inl (cA2, 10, .inr (.inr (.inr (.inr (fun _ => none))))))]) (wr := [(m0, .inr (13, [.int 0, .int 7, .int 0, .ref l1, .ref l2])), (l1, .inr (2, [.int 0, .ref dE, .int 0])), (l2, .inr (2, [.int 0, .ref dE, .int 0])), (o0, .inr (10, [.long 0, .double FP.dconst0, .null]))]) (tr := []) hP hD hK [0, 1, 2] [3, 4, 5, 6] [] rfl rfl rfl (by decide) (by decide) hk1 hFc
  have hP : va_P (dC, dI) vwCl [(m0, .inr (13, [.int 0, .int 7, .int 0, .ref l1, .ref l2])), (l1, .inr (2, [.int 0, .ref dE, .int 0])), (l2, .inr (2, [.int 0, .ref dE, .int 0])), (o0, .inr (10, [.long 0, .double FP.dconst0, .null]))] H := hP
  have hD : va_D A [(m0, .inr (13, [.int 0, .int 7, .int 0, .ref l1, .ref l2])), (l1, .inr (2, [.int 0, .ref dE, .int 0])), (l2, .inr (2, [.int 0, .ref dE, .int 0])), (o0, .inr (10, [.long 0, .double FP.dconst0, .null]))] := hD
  have hK : va_K (dC, dI) vwCl [] s := hK
  subst hw
  refine W.widen (k := 38) (n := 523) (by omega) (by omega) ?_
  refine lv_istore (lv' := [(5, .int 1), (4, .int 0), (3, .ref o0), (2, .ref m0), (1, .ref h0), (0, .ref b)]) hx hb dL_law_1181 hl (by decide) rfl (fun ls hl => ?_)
  refine lv_aload_n hx hb dL_law_1183 rfl (lv_at hl 3 rfl) ?_
  refine lv_aload_n hx hb dL_law_1184 rfl (lv_at hl 5 rfl) ?_
  refine lv_iload hx hb dL_law_1185 (lv_at hl 1 rfl) ?_
  refine lv_iconst (v := 1) hx hb dL_law_1187 (by decide) ?_
  refine lv_iadd hx hb dL_law_1188 ?_
  refine lv_topi (fun f2 ef2 => ?_)
  obtain rfl : f2 = 1 := ef2.trans (by decide)
  refine va_sld hx hb hX hbl hbA hS (by unfold vp_in; decide) dL_law_1189 ?_
  have hPc := hP.sub (ws' := [(m0, .inr (13, [.int 0, .int 7, .int 0, .ref l1, .ref l2])), (l1, .inr (2, [.int 0, .ref dE, .int 0])), (l2, .inr (2, [.int 0, .ref dE, .int 0]))]) [0, 1, 2] rfl
  have hDc := hD.sub (ws' := [(m0, .inr (13, [.int 0, .int 7, .int 0, .ref l1, .ref l2])), (l1, .inr (2, [.int 0, .ref dE, .int 0])), (l2, .inr (2, [.int 0, .ref dE, .int 0]))]) [0, 1, 2] (by decide) rfl
  have hKc := hK.sub (tys' := []) [] rfl
  have hFc := va_free (wc := [(m0, .inr (13, [.int 0, .int 7, .int 0, .ref l1, .ref l2])), (l1, .inr (2, [.int 0, .ref dE, .int 0])), (l2, .inr (2, [.int 0, .ref dE, .int 0]))]) hD hS hA [0, 1, 2] rfl
  refine va_calli (va_runV (As := [.int (xs (Int32.toNatClampNeg 1))]) (rest := []) ⟨hx, hb, hml, hown, hts⟩ (c_M_clear l dC dI dE m0 l1 l2 (xs (Int32.toNatClampNeg 1)) H.size) (cwV 1 hts gL_law_X10_clear rfl rfl rfl (by decide +kernel) ⟨Nat.le_of_ble_eq_true rfl, Nat.le_of_ble_eq_true rfl⟩) ⟨fun a U g mk q => ⟨q.1, PB.blind q.2⟩, va_recv hKc hPc (ci := 13) (q0 := 0) rfl rfl, fun U hU hW => ⟨rfl, PB.call hPc hKc hDc hTb hZ hS hFc hU hW⟩⟩ rfl rfl hl.1 rfl (lv_room (Nat.le_of_ble_eq_true rfl)) dL_law_1190 ⟨Nat.le_of_ble_eq_true rfl, Nat.le_of_ble_eq_true rfl⟩) hS (fun q _ h => hFc q h) hFc (fun r u t H locs ht hvm hw hB hz1 hk1 hS => ?_)
  obtain ⟨hP, hD, hK⟩ := PE.join (wc := [(m0, .inr (13, [.int 0, .int 7, .int 0, .ref l1, .ref l2])), (l1, .inr (2, [.int 0, .ref dE, .int 0])), (l2, .inr (2, [.int 0, .ref dE, .int 0]))]) (wr := [(o0, .inr (10, [.long 0, .double FP.dconst0, .null]))]) (w1 := [(m0, .inr (13, [.int 1, .int 7, .int 0, .ref l1, .ref l2])), (l1, .inr (2, [.int 0, .ref dE, .int 0])), (l2, .inr (2, [.int 0, .ref dE, .int 0]))]) (tr := []) (t1 := []) hP hD hK [0, 1, 2] [3] [] rfl rfl rfl (by decide) (by decide) hk1 hFc ht hvm hB
  have hP : va_P (dC, dI) vwCl [(o0, .inr (10, [.long 0, .double FP.dconst0, .null])), (m0, .inr (13, [.int 1, .int 7, .int 0, .ref l1, .ref l2])), (l1, .inr (2, [.int 0, .ref dE, .int 0])), (l2, .inr (2, [.int 0, .ref dE, .int 0]))] H := hP
  have hD : va_D A [(o0, .inr (10, [.long 0, .double FP.dconst0, .null])), (m0, .inr (13, [.int 1, .int 7, .int 0, .ref l1, .ref l2])), (l1, .inr (2, [.int 0, .ref dE, .int 0])), (l2, .inr (2, [.int 0, .ref dE, .int 0]))] := hD
  have hK : va_K (dC, dI) vwCl [] s := hK
  subst hw
  refine lv_istore (lv' := [(6, .int 0), (5, .int 1), (4, .int 0), (3, .ref o0), (2, .ref m0), (1, .ref h0), (0, .ref b)]) hx hb dL_law_1193 hl (by decide) rfl (fun ls hl => ?_)
  refine lv_aload_n hx hb dL_law_1195 rfl (lv_at hl 4 rfl) ?_
  have hPc := hP.sub (ws' := [(m0, .inr (13, [.int 1, .int 7, .int 0, .ref l1, .ref l2]))]) [1] rfl
  have hDc := hD.sub (ws' := [(m0, .inr (13, [.int 1, .int 7, .int 0, .ref l1, .ref l2]))]) [1] (by decide) rfl
  have hKc := hK.sub (tys' := []) [] rfl
  have hFc := va_free (wc := [(m0, .inr (13, [.int 1, .int 7, .int 0, .ref l1, .ref l2]))]) hD hS hA [1] rfl
  refine va_calli (va_runV (As := []) (rest := []) ⟨hx, hb, hml, hown, hts⟩ (c_M_thrown l dC dI dE m0 1 7 0 l1 l2 H.size) (cwV 0 hts gL_law_X10_thrown rfl rfl rfl (by decide +kernel) ⟨Nat.le_of_ble_eq_true rfl, Nat.le_of_ble_eq_true rfl⟩) ⟨fun a U g mk q => ⟨q.1, PB.blind q.2⟩, va_recv hKc hPc (ci := 13) (q0 := 0) rfl rfl, fun U hU hW => ⟨rfl, PB.call hPc hKc hDc hTb hZ hS hFc hU hW⟩⟩ rfl rfl hl.1 rfl (lv_room (Nat.le_of_ble_eq_true rfl)) dL_law_1196 ⟨Nat.le_of_ble_eq_true rfl, Nat.le_of_ble_eq_true rfl⟩) hS (fun q _ h => hFc q h) hFc (fun r u t H locs ht hvm hw hB hz1 hk1 hS => ?_)
  obtain ⟨hP, hD, hK⟩ := PE.join0 (wc := [(m0, .inr (13, [.int 1, .int 7, .int 0, .ref l1, .ref l2]))]) (wr := [(o0, .inr (10, [.long 0, .double FP.dconst0, .null])), (l1, .inr (2, [.int 0, .ref dE, .int 0])), (l2, .inr (2, [.int 0, .ref dE, .int 0]))]) (tr := []) hP hD hK [1] [0, 2, 3] [] rfl rfl rfl (by decide) (by decide) hk1 hFc
  have hP : va_P (dC, dI) vwCl [(o0, .inr (10, [.long 0, .double FP.dconst0, .null])), (l1, .inr (2, [.int 0, .ref dE, .int 0])), (l2, .inr (2, [.int 0, .ref dE, .int 0]))] H := hP
  have hD : va_D A [(o0, .inr (10, [.long 0, .double FP.dconst0, .null])), (l1, .inr (2, [.int 0, .ref dE, .int 0])), (l2, .inr (2, [.int 0, .ref dE, .int 0]))] := hD
  have hK : va_K (dC, dI) vwCl [] s := hK
  subst hw
  refine lv_iload hx hb dL_law_1199 (lv_at hl 1 rfl) ?_
  refine lv_icmp_eq (tgt := 1206) hx hb dL_law_1201 (by decide) (fun _ => ?_) (fun c9 => absurd (by decide) c9)
  refine lv_iload hx hb dL_law_1206 (lv_at hl 1 rfl) ?_
  refine lv_if_ne (tgt := 1224) hx hb dL_law_1208 (by decide) (fun _ => ?_) (fun c9 => absurd c9 (by decide))
  refine lv_goto (tgt := 2435) hx hb dL_law_1224 (by decide) ?_
  exact lk_end C0 hA2 hbA hS (Nat.le_of_ble_eq_true rfl) (Nat.le_of_ble_eq_true rfl) (lv_sub hl [2, 6] rfl)

set_option maxHeartbeats 4000000 in
set_option maxRecDepth 100000 in
/-- lk_15 -/
theorem lk_15 {p : Program} {e : Env} {s : State} {m : MethodId} {below : List Frame} {meth : Method} {c : Code} {l : Launch} (hst : l.stackTraces = false) {b : Nat} {xs : Nat → Int32} (C0 : lw_At p s m meth c b 4 xs) {A : Nat → Prop} (hA : ∀ q : Nat, s.heap.size ≤ q → A q) (hA2 : ∀ q : Nat, A q → s.heap.size ≤ q) (hbA : ¬ A b) {dC : Nat → ClassId} {dI : Nat → Nat → Nat} {dE : Nat} (h0 a1 a2 w1 p1 o1 : Nat) (cA1 cA2 : ClassId) (m0 l1 l2 o0 : Nat) (hTb : Tb s) (hZ : Zq2 dE A s s.heap) {H : Heap} {locs : List Loc} (hK : va_K (dC, dI) vwCl [(cA1, .object RX0), (cA2, .object RX1)] s) (hP : va_P (dC, dI) vwCl [(h0, .inr (9, [.int 7, .ref a1, .int 0, .ref a2, .int 0, .int 0, .ref w1, .ref p1, .ref o1])), (a1, .inl (cA1, 4, .inr (.inr (.inr (.inr (fun _ => none)))))), (a2, .inl (cA2, 10, .inr (.inr (.inr (.inr (fun _ => none)))))), (m0, .inr (13, [.int 0, .int 7, .int 0, .ref l1, .ref l2])), (l1, .inr (2, [.int 0, .ref dE, .int 0])), (l2, .inr (2, [.int 0, .ref dE, .int 0])), (o0, .inr (10, [.long 0, .double FP.dconst0, .null]))] H) (hD : va_D A [(h0, .inr (9, [.int 7, .ref a1, .int 0, .ref a2, .int 0, .int 0, .ref w1, .ref p1, .ref o1])), (a1, .inl (cA1, 4, .inr (.inr (.inr (.inr (fun _ => none)))))), (a2, .inl (cA2, 10, .inr (.inr (.inr (.inr (fun _ => none)))))), (m0, .inr (13, [.int 0, .int 7, .int 0, .ref l1, .ref l2])), (l1, .inr (2, [.int 0, .ref dE, .int 0])), (l2, .inr (2, [.int 0, .ref dE, .int 0])), (o0, .inr (10, [.long 0, .double FP.dconst0, .null]))]) (hS : va_S A s.heap H locs) {ls : Array Slot} (hl : lv_has ls 9 [(4, .int 0), (3, .ref o0), (2, .ref m0), (1, .ref h0), (0, .ref b)]) : W p l e room_1 s m #[Value.ref b] below meth c H locs 37 517 (lw_Z below #[Value.ref b] s) (F0 m 1227 ls []) := by
  obtain ⟨hx, hb, hr, hml, hown, hts0, hX, hbl, hlocks, hgv⟩ := id C0
  have hts : ∀ w ∈ wsL_law, w.before #[Value.ref b] s = true := lw_words hts0
  refine lv_aload_n hx hb dL_law_1227 rfl (lv_at hl 3 rfl) ?_
  refine lv_aload_n hx hb dL_law_1228 rfl (lv_at hl 4 rfl) ?_
  refine lv_iload hx hb dL_law_1229 (lv_at hl 0 rfl) ?_
  refine lv_iconst (v := 1) hx hb dL_law_1231 (by decide) ?_
  refine lv_iadd hx hb dL_law_1232 ?_
  refine lv_topi (fun f1 ef1 => ?_)
  obtain rfl : f1 = 1 := ef1.trans (by decide)
  refine va_sld hx hb hX hbl hbA hS (by unfold vp_in; decide) dL_law_1233 ?_
  refine lv_aload_n hx hb dL_law_1234 rfl (lv_at hl 4 rfl) ?_
  refine lv_iload hx hb dL_law_1235 (lv_at hl 0 rfl) ?_
  refine lv_iconst (v := 2) hx hb dL_law_1237 (by decide) ?_
  refine lv_iadd hx hb dL_law_1238 ?_
  refine lv_topi (fun f2 ef2 => ?_)
  obtain rfl : f2 = 2 := ef2.trans (by decide)
  refine va_sld hx hb hX hbl hbA hS (by unfold vp_in; decide) dL_law_1239 ?_
  refine lv_aload_n hx hb dL_law_1240 rfl (lv_at hl 4 rfl) ?_
  refine lv_iload hx hb dL_law_1241 (lv_at hl 0 rfl) ?_
  refine lv_iconst (v := 3) hx hb dL_law_1243 (by decide) ?_
  refine lv_iadd hx hb dL_law_1244 ?_
  refine lv_topi (fun f3 ef3 => ?_)
  obtain rfl : f3 = 3 := ef3.trans (by decide)
  refine va_sld hx hb hX hbl hbA hS (by unfold vp_in; decide) dL_law_1245 ?_
  refine lv_aload_n hx hb dL_law_1246 rfl (lv_at hl 1 rfl) ?_
  have hPc := hP.sub (ws' := [(h0, .inr (9, [.int 7, .ref a1, .int 0, .ref a2, .int 0, .int 0, .ref w1, .ref p1, .ref o1])), (a1, .inl (cA1, 4, .inr (.inr (.inr (.inr (fun _ => none)))))), (a2, .inl (cA2, 10, .inr (.inr (.inr (.inr (fun _ => none))))))]) [0, 1, 2] rfl
  have hDc := hD.sub (ws' := [(h0, .inr (9, [.int 7, .ref a1, .int 0, .ref a2, .int 0, .int 0, .ref w1, .ref p1, .ref o1])), (a1, .inl (cA1, 4, .inr (.inr (.inr (.inr (fun _ => none)))))), (a2, .inl (cA2, 10, .inr (.inr (.inr (.inr (fun _ => none))))))]) [0, 1, 2] (by decide) rfl
  have hKc := hK.sub (tys' := [(cA1, .object RX0), (cA2, .object RX1)]) [0, 1] rfl
  have hFc := va_free (wc := [(h0, .inr (9, [.int 7, .ref a1, .int 0, .ref a2, .int 0, .int 0, .ref w1, .ref p1, .ref o1])), (a1, .inl (cA1, 4, .inr (.inr (.inr (.inr (fun _ => none)))))), (a2, .inl (cA2, 10, .inr (.inr (.inr (.inr (fun _ => none))))))]) hD hS hA [0, 1, 2] rfl
  refine va_calli (vx_runSW (As := [.ref h0, .int (xs (Int32.toNatClampNeg 1)), .int (xs (Int32.toNatClampNeg 2)), .int (xs (Int32.toNatClampNeg 3)), .ref o0]) (rest := []) ⟨hx, hb, hml, hown, hts⟩ (c_L_mirror l hst dC dI dE h0 a1 a2 w1 p1 o1 cA1 cA2 (xs (Int32.toNatClampNeg 1)) (xs (Int32.toNatClampNeg 2)) (xs (Int32.toNatClampNeg 3)) o0 H.size) (vx_cwSW 5 hts gL_law_L_mirror rfl rfl rfl (by decide +kernel) ⟨Nat.le_of_ble_eq_true rfl, Nat.le_of_ble_eq_true rfl⟩) ⟨fun a U g mk q => ⟨q.1, PB.blind q.2⟩, fun U hU hW => ⟨rfl, PB.call hPc hKc hDc hTb hZ hS hFc hU hW⟩⟩ rfl rfl hl.1 rfl (lv_room (Nat.le_of_ble_eq_true rfl)) dL_law_1247 ⟨Nat.le_of_ble_eq_true rfl, Nat.le_of_ble_eq_true rfl⟩) hS (fun q _ h => hFc q h) hFc (fun r u t H locs ht hvm hw hB hz1 hk1 hS => ?_)
  obtain ⟨hP, hD, hK⟩ := PE.join0 (wc := [(h0, .inr (9, [.int 7, .ref a1, .int 0, .ref a2, .int 0, .int 0, .ref w1, .ref p1, .ref o1])), (a1, .inl (cA1, 4, .inr (.inr (.inr (.inr (fun _ => none)))))), (a2, .inl (cA2, 10, .inr (.inr (.inr (.inr (fun _ => none))))))]) (wr := [(m0, .inr (13, [.int 0, .int 7, .int 0, .ref l1, .ref l2])), (l1, .inr (2, [.int 0, .ref dE, .int 0])), (l2, .inr (2, [.int 0, .ref dE, .int 0])), (o0, .inr (10, [.long 0, .double FP.dconst0, .null]))]) (tr := []) hP hD hK [0, 1, 2] [3, 4, 5, 6] [] rfl rfl rfl (by decide) (by decide) hk1 hFc
  have hP : va_P (dC, dI) vwCl [(m0, .inr (13, [.int 0, .int 7, .int 0, .ref l1, .ref l2])), (l1, .inr (2, [.int 0, .ref dE, .int 0])), (l2, .inr (2, [.int 0, .ref dE, .int 0])), (o0, .inr (10, [.long 0, .double FP.dconst0, .null]))] H := hP
  have hD : va_D A [(m0, .inr (13, [.int 0, .int 7, .int 0, .ref l1, .ref l2])), (l1, .inr (2, [.int 0, .ref dE, .int 0])), (l2, .inr (2, [.int 0, .ref dE, .int 0])), (o0, .inr (10, [.long 0, .double FP.dconst0, .null]))] := hD
  have hK : va_K (dC, dI) vwCl [] s := hK
  subst hw
  refine W.widen (k := 38) (n := 523) (by omega) (by omega) ?_
  refine lv_istore (lv' := [(5, .int 1), (4, .int 0), (3, .ref o0), (2, .ref m0), (1, .ref h0), (0, .ref b)]) hx hb dL_law_1250 hl (by decide) rfl (fun ls hl => ?_)
  refine lv_aload_n hx hb dL_law_1252 rfl (lv_at hl 3 rfl) ?_
  refine lv_aload_n hx hb dL_law_1253 rfl (lv_at hl 5 rfl) ?_
  refine lv_iload hx hb dL_law_1254 (lv_at hl 1 rfl) ?_
  refine lv_iconst (v := 1) hx hb dL_law_1256 (by decide) ?_
  refine lv_iadd hx hb dL_law_1257 ?_
  refine lv_topi (fun f4 ef4 => ?_)
  obtain rfl : f4 = 1 := ef4.trans (by decide)
  refine va_sld hx hb hX hbl hbA hS (by unfold vp_in; decide) dL_law_1258 ?_
  refine lv_aload_n hx hb dL_law_1259 rfl (lv_at hl 5 rfl) ?_
  refine lv_iload hx hb dL_law_1260 (lv_at hl 1 rfl) ?_
  refine lv_iconst (v := 2) hx hb dL_law_1262 (by decide) ?_
  refine lv_iadd hx hb dL_law_1263 ?_
  refine lv_topi (fun f5 ef5 => ?_)
  obtain rfl : f5 = 2 := ef5.trans (by decide)
  refine va_sld hx hb hX hbl hbA hS (by unfold vp_in; decide) dL_law_1264 ?_
  refine lv_aload_n hx hb dL_law_1265 rfl (lv_at hl 5 rfl) ?_
  refine lv_iload hx hb dL_law_1266 (lv_at hl 1 rfl) ?_
  refine lv_iconst (v := 3) hx hb dL_law_1268 (by decide) ?_
  refine lv_iadd hx hb dL_law_1269 ?_
  refine lv_topi (fun f6 ef6 => ?_)
  obtain rfl : f6 = 3 := ef6.trans (by decide)
  refine va_sld hx hb hX hbl hbA hS (by unfold vp_in; decide) dL_law_1270 ?_
  have hPc := hP.sub (ws' := [(m0, .inr (13, [.int 0, .int 7, .int 0, .ref l1, .ref l2])), (l1, .inr (2, [.int 0, .ref dE, .int 0])), (l2, .inr (2, [.int 0, .ref dE, .int 0]))]) [0, 1, 2] rfl
  have hDc := hD.sub (ws' := [(m0, .inr (13, [.int 0, .int 7, .int 0, .ref l1, .ref l2])), (l1, .inr (2, [.int 0, .ref dE, .int 0])), (l2, .inr (2, [.int 0, .ref dE, .int 0]))]) [0, 1, 2] (by decide) rfl
  have hKc := hK.sub (tys' := []) [] rfl
  have hFc := va_free (wc := [(m0, .inr (13, [.int 0, .int 7, .int 0, .ref l1, .ref l2])), (l1, .inr (2, [.int 0, .ref dE, .int 0])), (l2, .inr (2, [.int 0, .ref dE, .int 0]))]) hD hS hA [0, 1, 2] rfl
  refine va_calli (va_runV (As := [.int (xs (Int32.toNatClampNeg 1)), .int (xs (Int32.toNatClampNeg 2)), .int (xs (Int32.toNatClampNeg 3))]) (rest := []) ⟨hx, hb, hml, hown, hts⟩ (c_M_mirror l dC dI dE m0 l1 l2 (xs (Int32.toNatClampNeg 1)) (xs (Int32.toNatClampNeg 2)) (xs (Int32.toNatClampNeg 3)) H.size) (cwV 3 hts gL_law_X10_mirror rfl rfl rfl (by decide +kernel) ⟨Nat.le_of_ble_eq_true rfl, Nat.le_of_ble_eq_true rfl⟩) ⟨fun a U g mk q => ⟨q.1, PB.blind q.2⟩, va_recv hKc hPc (ci := 13) (q0 := 0) rfl rfl, fun U hU hW => ⟨rfl, PB.call hPc hKc hDc hTb hZ hS hFc hU hW⟩⟩ rfl rfl hl.1 rfl (lv_room (Nat.le_of_ble_eq_true rfl)) dL_law_1271 ⟨Nat.le_of_ble_eq_true rfl, Nat.le_of_ble_eq_true rfl⟩) hS (fun q _ h => hFc q h) hFc (fun r u t H locs ht hvm hw hB hz1 hk1 hS => ?_)
  obtain ⟨hP, hD, hK⟩ := PE.join (wc := [(m0, .inr (13, [.int 0, .int 7, .int 0, .ref l1, .ref l2])), (l1, .inr (2, [.int 0, .ref dE, .int 0])), (l2, .inr (2, [.int 0, .ref dE, .int 0]))]) (wr := [(o0, .inr (10, [.long 0, .double FP.dconst0, .null]))]) (w1 := [(m0, .inr (13, [.int 1, .int 7, .int 0, .ref l1, .ref l2])), (l1, .inr (2, [.int 0, .ref dE, .int 0])), (l2, .inr (2, [.int 0, .ref dE, .int 0]))]) (tr := []) (t1 := []) hP hD hK [0, 1, 2] [3] [] rfl rfl rfl (by decide) (by decide) hk1 hFc ht hvm hB
  have hP : va_P (dC, dI) vwCl [(o0, .inr (10, [.long 0, .double FP.dconst0, .null])), (m0, .inr (13, [.int 1, .int 7, .int 0, .ref l1, .ref l2])), (l1, .inr (2, [.int 0, .ref dE, .int 0])), (l2, .inr (2, [.int 0, .ref dE, .int 0]))] H := hP
  have hD : va_D A [(o0, .inr (10, [.long 0, .double FP.dconst0, .null])), (m0, .inr (13, [.int 1, .int 7, .int 0, .ref l1, .ref l2])), (l1, .inr (2, [.int 0, .ref dE, .int 0])), (l2, .inr (2, [.int 0, .ref dE, .int 0]))] := hD
  have hK : va_K (dC, dI) vwCl [] s := hK
  subst hw
  refine lv_istore (lv' := [(6, .int 0), (5, .int 1), (4, .int 0), (3, .ref o0), (2, .ref m0), (1, .ref h0), (0, .ref b)]) hx hb dL_law_1274 hl (by decide) rfl (fun ls hl => ?_)
  refine lv_aload_n hx hb dL_law_1276 rfl (lv_at hl 4 rfl) ?_
  have hPc := hP.sub (ws' := [(m0, .inr (13, [.int 1, .int 7, .int 0, .ref l1, .ref l2]))]) [1] rfl
  have hDc := hD.sub (ws' := [(m0, .inr (13, [.int 1, .int 7, .int 0, .ref l1, .ref l2]))]) [1] (by decide) rfl
  have hKc := hK.sub (tys' := []) [] rfl
  have hFc := va_free (wc := [(m0, .inr (13, [.int 1, .int 7, .int 0, .ref l1, .ref l2]))]) hD hS hA [1] rfl
  refine va_calli (va_runV (As := []) (rest := []) ⟨hx, hb, hml, hown, hts⟩ (c_M_thrown l dC dI dE m0 1 7 0 l1 l2 H.size) (cwV 0 hts gL_law_X10_thrown rfl rfl rfl (by decide +kernel) ⟨Nat.le_of_ble_eq_true rfl, Nat.le_of_ble_eq_true rfl⟩) ⟨fun a U g mk q => ⟨q.1, PB.blind q.2⟩, va_recv hKc hPc (ci := 13) (q0 := 0) rfl rfl, fun U hU hW => ⟨rfl, PB.call hPc hKc hDc hTb hZ hS hFc hU hW⟩⟩ rfl rfl hl.1 rfl (lv_room (Nat.le_of_ble_eq_true rfl)) dL_law_1277 ⟨Nat.le_of_ble_eq_true rfl, Nat.le_of_ble_eq_true rfl⟩) hS (fun q _ h => hFc q h) hFc (fun r u t H locs ht hvm hw hB hz1 hk1 hS => ?_)
  obtain ⟨hP, hD, hK⟩ := PE.join0 (wc := [(m0, .inr (13, [.int 1, .int 7, .int 0, .ref l1, .ref l2]))]) (wr := [(o0, .inr (10, [.long 0, .double FP.dconst0, .null])), (l1, .inr (2, [.int 0, .ref dE, .int 0])), (l2, .inr (2, [.int 0, .ref dE, .int 0]))]) (tr := []) hP hD hK [1] [0, 2, 3] [] rfl rfl rfl (by decide) (by decide) hk1 hFc
  have hP : va_P (dC, dI) vwCl [(o0, .inr (10, [.long 0, .double FP.dconst0, .null])), (l1, .inr (2, [.int 0, .ref dE, .int 0])), (l2, .inr (2, [.int 0, .ref dE, .int 0]))] H := hP
  have hD : va_D A [(o0, .inr (10, [.long 0, .double FP.dconst0, .null])), (l1, .inr (2, [.int 0, .ref dE, .int 0])), (l2, .inr (2, [.int 0, .ref dE, .int 0]))] := hD
  have hK : va_K (dC, dI) vwCl [] s := hK
  subst hw
  refine lv_iload hx hb dL_law_1280 (lv_at hl 1 rfl) ?_
  refine lv_icmp_eq (tgt := 1287) hx hb dL_law_1282 (by decide) (fun _ => ?_) (fun c9 => absurd (by decide) c9)
  refine lv_iload hx hb dL_law_1287 (lv_at hl 1 rfl) ?_
  refine lv_if_ne (tgt := 1305) hx hb dL_law_1289 (by decide) (fun _ => ?_) (fun c9 => absurd c9 (by decide))
  refine lv_goto (tgt := 2435) hx hb dL_law_1305 (by decide) ?_
  exact lk_end C0 hA2 hbA hS (Nat.le_of_ble_eq_true rfl) (Nat.le_of_ble_eq_true rfl) (lv_sub hl [2, 6] rfl)

set_option maxHeartbeats 4000000 in
set_option maxRecDepth 100000 in
/-- lk_16 -/
theorem lk_16 {p : Program} {e : Env} {s : State} {m : MethodId} {below : List Frame} {meth : Method} {c : Code} {l : Launch} (hst : l.stackTraces = false) {b : Nat} {xs : Nat → Int32} (C0 : lw_At p s m meth c b 4 xs) {A : Nat → Prop} (hA : ∀ q : Nat, s.heap.size ≤ q → A q) (hA2 : ∀ q : Nat, A q → s.heap.size ≤ q) (hbA : ¬ A b) {dC : Nat → ClassId} {dI : Nat → Nat → Nat} {dE : Nat} (h0 a1 a2 w1 p1 o1 : Nat) (cA1 cA2 : ClassId) (m0 l1 l2 o0 : Nat) (hTb : Tb s) (hZ : Zq2 dE A s s.heap) {H : Heap} {locs : List Loc} (hK : va_K (dC, dI) vwCl [(cA1, .object RX0), (cA2, .object RX1)] s) (hP : va_P (dC, dI) vwCl [(h0, .inr (9, [.int 7, .ref a1, .int 0, .ref a2, .int 0, .int 0, .ref w1, .ref p1, .ref o1])), (a1, .inl (cA1, 4, .inr (.inr (.inr (.inr (fun _ => none)))))), (a2, .inl (cA2, 10, .inr (.inr (.inr (.inr (fun _ => none)))))), (m0, .inr (13, [.int 0, .int 7, .int 0, .ref l1, .ref l2])), (l1, .inr (2, [.int 0, .ref dE, .int 0])), (l2, .inr (2, [.int 0, .ref dE, .int 0])), (o0, .inr (10, [.long 0, .double FP.dconst0, .null]))] H) (hD : va_D A [(h0, .inr (9, [.int 7, .ref a1, .int 0, .ref a2, .int 0, .int 0, .ref w1, .ref p1, .ref o1])), (a1, .inl (cA1, 4, .inr (.inr (.inr (.inr (fun _ => none)))))), (a2, .inl (cA2, 10, .inr (.inr (.inr (.inr (fun _ => none)))))), (m0, .inr (13, [.int 0, .int 7, .int 0, .ref l1, .ref l2])), (l1, .inr (2, [.int 0, .ref dE, .int 0])), (l2, .inr (2, [.int 0, .ref dE, .int 0])), (o0, .inr (10, [.long 0, .double FP.dconst0, .null]))]) (hS : va_S A s.heap H locs) {ls : Array Slot} (hl : lv_has ls 9 [(4, .int 0), (3, .ref o0), (2, .ref m0), (1, .ref h0), (0, .ref b)]) : W p l e room_1 s m #[Value.ref b] below meth c H locs 37 517 (lw_Z below #[Value.ref b] s) (F0 m 1308 ls []) := by
  obtain ⟨hx, hb, hr, hml, hown, hts0, hX, hbl, hlocks, hgv⟩ := id C0
  have hts : ∀ w ∈ wsL_law, w.before #[Value.ref b] s = true := lw_words hts0
  refine lv_aload_n hx hb dL_law_1308 rfl (lv_at hl 3 rfl) ?_
  refine lv_aload_n hx hb dL_law_1309 rfl (lv_at hl 4 rfl) ?_
  refine lv_iload hx hb dL_law_1310 (lv_at hl 0 rfl) ?_
  refine lv_iconst (v := 1) hx hb dL_law_1312 (by decide) ?_
  refine lv_iadd hx hb dL_law_1313 ?_
  refine lv_topi (fun f1 ef1 => ?_)
  obtain rfl : f1 = 1 := ef1.trans (by decide)
  refine va_sld hx hb hX hbl hbA hS (by unfold vp_in; decide) dL_law_1314 ?_
  refine lv_aload_n hx hb dL_law_1315 rfl (lv_at hl 4 rfl) ?_
  refine lv_iload hx hb dL_law_1316 (lv_at hl 0 rfl) ?_
  refine lv_iconst (v := 2) hx hb dL_law_1318 (by decide) ?_
  refine lv_iadd hx hb dL_law_1319 ?_
  refine lv_topi (fun f2 ef2 => ?_)
  obtain rfl : f2 = 2 := ef2.trans (by decide)
  refine va_sld hx hb hX hbl hbA hS (by unfold vp_in; decide) dL_law_1320 ?_
  refine lv_aload_n hx hb dL_law_1321 rfl (lv_at hl 1 rfl) ?_
  have hPc := hP.sub (ws' := [(h0, .inr (9, [.int 7, .ref a1, .int 0, .ref a2, .int 0, .int 0, .ref w1, .ref p1, .ref o1])), (a1, .inl (cA1, 4, .inr (.inr (.inr (.inr (fun _ => none)))))), (a2, .inl (cA2, 10, .inr (.inr (.inr (.inr (fun _ => none))))))]) [0, 1, 2] rfl
  have hDc := hD.sub (ws' := [(h0, .inr (9, [.int 7, .ref a1, .int 0, .ref a2, .int 0, .int 0, .ref w1, .ref p1, .ref o1])), (a1, .inl (cA1, 4, .inr (.inr (.inr (.inr (fun _ => none)))))), (a2, .inl (cA2, 10, .inr (.inr (.inr (.inr (fun _ => none))))))]) [0, 1, 2] (by decide) rfl
  have hKc := hK.sub (tys' := [(cA1, .object RX0), (cA2, .object RX1)]) [0, 1] rfl
  have hFc := va_free (wc := [(h0, .inr (9, [.int 7, .ref a1, .int 0, .ref a2, .int 0, .int 0, .ref w1, .ref p1, .ref o1])), (a1, .inl (cA1, 4, .inr (.inr (.inr (.inr (fun _ => none)))))), (a2, .inl (cA2, 10, .inr (.inr (.inr (.inr (fun _ => none))))))]) hD hS hA [0, 1, 2] rfl
  refine va_calli (vx_runSW (As := [.ref h0, .int (xs (Int32.toNatClampNeg 1)), .int (xs (Int32.toNatClampNeg 2)), .ref o0]) (rest := []) ⟨hx, hb, hml, hown, hts⟩ (c_L_turn l hst dC dI dE h0 a1 a2 w1 p1 o1 cA1 cA2 (xs (Int32.toNatClampNeg 1)) (xs (Int32.toNatClampNeg 2)) o0 H.size) (vx_cwSW 4 hts gL_law_L_turn rfl rfl rfl (by decide +kernel) ⟨Nat.le_of_ble_eq_true rfl, Nat.le_of_ble_eq_true rfl⟩) ⟨fun a U g mk q => ⟨q.1, PB.blind q.2⟩, fun U hU hW => ⟨rfl, PB.call hPc hKc hDc hTb hZ hS hFc hU hW⟩⟩ rfl rfl hl.1 rfl (lv_room (Nat.le_of_ble_eq_true rfl)) dL_law_1322 ⟨Nat.le_of_ble_eq_true rfl, Nat.le_of_ble_eq_true rfl⟩) hS (fun q _ h => hFc q h) hFc (fun r u t H locs ht hvm hw hB hz1 hk1 hS => ?_)
  obtain ⟨hP, hD, hK⟩ := PE.join0 (wc := [(h0, .inr (9, [.int 7, .ref a1, .int 0, .ref a2, .int 0, .int 0, .ref w1, .ref p1, .ref o1])), (a1, .inl (cA1, 4, .inr (.inr (.inr (.inr (fun _ => none)))))), (a2, .inl (cA2, 10, .inr (.inr (.inr (.inr (fun _ => none))))))]) (wr := [(m0, .inr (13, [.int 0, .int 7, .int 0, .ref l1, .ref l2])), (l1, .inr (2, [.int 0, .ref dE, .int 0])), (l2, .inr (2, [.int 0, .ref dE, .int 0])), (o0, .inr (10, [.long 0, .double FP.dconst0, .null]))]) (tr := []) hP hD hK [0, 1, 2] [3, 4, 5, 6] [] rfl rfl rfl (by decide) (by decide) hk1 hFc
  have hP : va_P (dC, dI) vwCl [(m0, .inr (13, [.int 0, .int 7, .int 0, .ref l1, .ref l2])), (l1, .inr (2, [.int 0, .ref dE, .int 0])), (l2, .inr (2, [.int 0, .ref dE, .int 0])), (o0, .inr (10, [.long 0, .double FP.dconst0, .null]))] H := hP
  have hD : va_D A [(m0, .inr (13, [.int 0, .int 7, .int 0, .ref l1, .ref l2])), (l1, .inr (2, [.int 0, .ref dE, .int 0])), (l2, .inr (2, [.int 0, .ref dE, .int 0])), (o0, .inr (10, [.long 0, .double FP.dconst0, .null]))] := hD
  have hK : va_K (dC, dI) vwCl [] s := hK
  subst hw
  refine W.widen (k := 38) (n := 523) (by omega) (by omega) ?_
  refine lv_istore (lv' := [(5, .int 1), (4, .int 0), (3, .ref o0), (2, .ref m0), (1, .ref h0), (0, .ref b)]) hx hb dL_law_1325 hl (by decide) rfl (fun ls hl => ?_)
  refine lv_aload_n hx hb dL_law_1327 rfl (lv_at hl 3 rfl) ?_
  refine lv_aload_n hx hb dL_law_1328 rfl (lv_at hl 5 rfl) ?_
  refine lv_iload hx hb dL_law_1329 (lv_at hl 1 rfl) ?_
  refine lv_iconst (v := 1) hx hb dL_law_1331 (by decide) ?_
  refine lv_iadd hx hb dL_law_1332 ?_
  refine lv_topi (fun f3 ef3 => ?_)
  obtain rfl : f3 = 1 := ef3.trans (by decide)
  refine va_sld hx hb hX hbl hbA hS (by unfold vp_in; decide) dL_law_1333 ?_
  refine lv_aload_n hx hb dL_law_1334 rfl (lv_at hl 5 rfl) ?_
  refine lv_iload hx hb dL_law_1335 (lv_at hl 1 rfl) ?_
  refine lv_iconst (v := 2) hx hb dL_law_1337 (by decide) ?_
  refine lv_iadd hx hb dL_law_1338 ?_
  refine lv_topi (fun f4 ef4 => ?_)
  obtain rfl : f4 = 2 := ef4.trans (by decide)
  refine va_sld hx hb hX hbl hbA hS (by unfold vp_in; decide) dL_law_1339 ?_
  have hPc := hP.sub (ws' := [(m0, .inr (13, [.int 0, .int 7, .int 0, .ref l1, .ref l2])), (l1, .inr (2, [.int 0, .ref dE, .int 0])), (l2, .inr (2, [.int 0, .ref dE, .int 0]))]) [0, 1, 2] rfl
  have hDc := hD.sub (ws' := [(m0, .inr (13, [.int 0, .int 7, .int 0, .ref l1, .ref l2])), (l1, .inr (2, [.int 0, .ref dE, .int 0])), (l2, .inr (2, [.int 0, .ref dE, .int 0]))]) [0, 1, 2] (by decide) rfl
  have hKc := hK.sub (tys' := []) [] rfl
  have hFc := va_free (wc := [(m0, .inr (13, [.int 0, .int 7, .int 0, .ref l1, .ref l2])), (l1, .inr (2, [.int 0, .ref dE, .int 0])), (l2, .inr (2, [.int 0, .ref dE, .int 0]))]) hD hS hA [0, 1, 2] rfl
  refine va_calli (va_runV (As := [.int (xs (Int32.toNatClampNeg 1)), .int (xs (Int32.toNatClampNeg 2))]) (rest := []) ⟨hx, hb, hml, hown, hts⟩ (c_M_turn l dC dI dE m0 l1 l2 (xs (Int32.toNatClampNeg 1)) (xs (Int32.toNatClampNeg 2)) H.size) (cwV 2 hts gL_law_X10_turn rfl rfl rfl (by decide +kernel) ⟨Nat.le_of_ble_eq_true rfl, Nat.le_of_ble_eq_true rfl⟩) ⟨fun a U g mk q => ⟨q.1, PB.blind q.2⟩, va_recv hKc hPc (ci := 13) (q0 := 0) rfl rfl, fun U hU hW => ⟨rfl, PB.call hPc hKc hDc hTb hZ hS hFc hU hW⟩⟩ rfl rfl hl.1 rfl (lv_room (Nat.le_of_ble_eq_true rfl)) dL_law_1340 ⟨Nat.le_of_ble_eq_true rfl, Nat.le_of_ble_eq_true rfl⟩) hS (fun q _ h => hFc q h) hFc (fun r u t H locs ht hvm hw hB hz1 hk1 hS => ?_)
  obtain ⟨hP, hD, hK⟩ := PE.join (wc := [(m0, .inr (13, [.int 0, .int 7, .int 0, .ref l1, .ref l2])), (l1, .inr (2, [.int 0, .ref dE, .int 0])), (l2, .inr (2, [.int 0, .ref dE, .int 0]))]) (wr := [(o0, .inr (10, [.long 0, .double FP.dconst0, .null]))]) (w1 := [(m0, .inr (13, [.int 1, .int 7, .int 0, .ref l1, .ref l2])), (l1, .inr (2, [.int 0, .ref dE, .int 0])), (l2, .inr (2, [.int 0, .ref dE, .int 0]))]) (tr := []) (t1 := []) hP hD hK [0, 1, 2] [3] [] rfl rfl rfl (by decide) (by decide) hk1 hFc ht hvm hB
  have hP : va_P (dC, dI) vwCl [(o0, .inr (10, [.long 0, .double FP.dconst0, .null])), (m0, .inr (13, [.int 1, .int 7, .int 0, .ref l1, .ref l2])), (l1, .inr (2, [.int 0, .ref dE, .int 0])), (l2, .inr (2, [.int 0, .ref dE, .int 0]))] H := hP
  have hD : va_D A [(o0, .inr (10, [.long 0, .double FP.dconst0, .null])), (m0, .inr (13, [.int 1, .int 7, .int 0, .ref l1, .ref l2])), (l1, .inr (2, [.int 0, .ref dE, .int 0])), (l2, .inr (2, [.int 0, .ref dE, .int 0]))] := hD
  have hK : va_K (dC, dI) vwCl [] s := hK
  subst hw
  refine lv_istore (lv' := [(6, .int 0), (5, .int 1), (4, .int 0), (3, .ref o0), (2, .ref m0), (1, .ref h0), (0, .ref b)]) hx hb dL_law_1343 hl (by decide) rfl (fun ls hl => ?_)
  refine lv_aload_n hx hb dL_law_1345 rfl (lv_at hl 4 rfl) ?_
  have hPc := hP.sub (ws' := [(m0, .inr (13, [.int 1, .int 7, .int 0, .ref l1, .ref l2]))]) [1] rfl
  have hDc := hD.sub (ws' := [(m0, .inr (13, [.int 1, .int 7, .int 0, .ref l1, .ref l2]))]) [1] (by decide) rfl
  have hKc := hK.sub (tys' := []) [] rfl
  have hFc := va_free (wc := [(m0, .inr (13, [.int 1, .int 7, .int 0, .ref l1, .ref l2]))]) hD hS hA [1] rfl
  refine va_calli (va_runV (As := []) (rest := []) ⟨hx, hb, hml, hown, hts⟩ (c_M_thrown l dC dI dE m0 1 7 0 l1 l2 H.size) (cwV 0 hts gL_law_X10_thrown rfl rfl rfl (by decide +kernel) ⟨Nat.le_of_ble_eq_true rfl, Nat.le_of_ble_eq_true rfl⟩) ⟨fun a U g mk q => ⟨q.1, PB.blind q.2⟩, va_recv hKc hPc (ci := 13) (q0 := 0) rfl rfl, fun U hU hW => ⟨rfl, PB.call hPc hKc hDc hTb hZ hS hFc hU hW⟩⟩ rfl rfl hl.1 rfl (lv_room (Nat.le_of_ble_eq_true rfl)) dL_law_1346 ⟨Nat.le_of_ble_eq_true rfl, Nat.le_of_ble_eq_true rfl⟩) hS (fun q _ h => hFc q h) hFc (fun r u t H locs ht hvm hw hB hz1 hk1 hS => ?_)
  obtain ⟨hP, hD, hK⟩ := PE.join0 (wc := [(m0, .inr (13, [.int 1, .int 7, .int 0, .ref l1, .ref l2]))]) (wr := [(o0, .inr (10, [.long 0, .double FP.dconst0, .null])), (l1, .inr (2, [.int 0, .ref dE, .int 0])), (l2, .inr (2, [.int 0, .ref dE, .int 0]))]) (tr := []) hP hD hK [1] [0, 2, 3] [] rfl rfl rfl (by decide) (by decide) hk1 hFc
  have hP : va_P (dC, dI) vwCl [(o0, .inr (10, [.long 0, .double FP.dconst0, .null])), (l1, .inr (2, [.int 0, .ref dE, .int 0])), (l2, .inr (2, [.int 0, .ref dE, .int 0]))] H := hP
  have hD : va_D A [(o0, .inr (10, [.long 0, .double FP.dconst0, .null])), (l1, .inr (2, [.int 0, .ref dE, .int 0])), (l2, .inr (2, [.int 0, .ref dE, .int 0]))] := hD
  have hK : va_K (dC, dI) vwCl [] s := hK
  subst hw
  refine lv_iload hx hb dL_law_1349 (lv_at hl 1 rfl) ?_
  refine lv_icmp_eq (tgt := 1356) hx hb dL_law_1351 (by decide) (fun _ => ?_) (fun c9 => absurd (by decide) c9)
  refine lv_iload hx hb dL_law_1356 (lv_at hl 1 rfl) ?_
  refine lv_if_ne (tgt := 1374) hx hb dL_law_1358 (by decide) (fun _ => ?_) (fun c9 => absurd c9 (by decide))
  refine lv_goto (tgt := 2435) hx hb dL_law_1374 (by decide) ?_
  exact lk_end C0 hA2 hbA hS (Nat.le_of_ble_eq_true rfl) (Nat.le_of_ble_eq_true rfl) (lv_sub hl [2, 6] rfl)

set_option maxHeartbeats 4000000 in
set_option maxRecDepth 100000 in
/-- lk_17 -/
theorem lk_17 {p : Program} {e : Env} {s : State} {m : MethodId} {below : List Frame} {meth : Method} {c : Code} {l : Launch} (hst : l.stackTraces = false) {b : Nat} {xs : Nat → Int32} (C0 : lw_At p s m meth c b 4 xs) {A : Nat → Prop} (hA : ∀ q : Nat, s.heap.size ≤ q → A q) (hA2 : ∀ q : Nat, A q → s.heap.size ≤ q) (hbA : ¬ A b) {dC : Nat → ClassId} {dI : Nat → Nat → Nat} {dE : Nat} (h0 a1 a2 w1 p1 o1 : Nat) (cA1 cA2 : ClassId) (m0 l1 l2 o0 : Nat) (hTb : Tb s) (hZ : Zq2 dE A s s.heap) {H : Heap} {locs : List Loc} (hK : va_K (dC, dI) vwCl [(cA1, .object RX0), (cA2, .object RX1)] s) (hP : va_P (dC, dI) vwCl [(h0, .inr (9, [.int 7, .ref a1, .int 0, .ref a2, .int 0, .int 0, .ref w1, .ref p1, .ref o1])), (a1, .inl (cA1, 4, .inr (.inr (.inr (.inr (fun _ => none)))))), (a2, .inl (cA2, 10, .inr (.inr (.inr (.inr (fun _ => none)))))), (m0, .inr (13, [.int 0, .int 7, .int 0, .ref l1, .ref l2])), (l1, .inr (2, [.int 0, .ref dE, .int 0])), (l2, .inr (2, [.int 0, .ref dE, .int 0])), (o0, .inr (10, [.long 0, .double FP.dconst0, .null]))] H) (hD : va_D A [(h0, .inr (9, [.int 7, .ref a1, .int 0, .ref a2, .int 0, .int 0, .ref w1, .ref p1, .ref o1])), (a1, .inl (cA1, 4, .inr (.inr (.inr (.inr (fun _ => none)))))), (a2, .inl (cA2, 10, .inr (.inr (.inr (.inr (fun _ => none)))))), (m0, .inr (13, [.int 0, .int 7, .int 0, .ref l1, .ref l2])), (l1, .inr (2, [.int 0, .ref dE, .int 0])), (l2, .inr (2, [.int 0, .ref dE, .int 0])), (o0, .inr (10, [.long 0, .double FP.dconst0, .null]))]) (hS : va_S A s.heap H locs) {ls : Array Slot} (hl : lv_has ls 9 [(4, .int 0), (3, .ref o0), (2, .ref m0), (1, .ref h0), (0, .ref b)]) : W p l e room_1 s m #[Value.ref b] below meth c H locs 37 517 (lw_Z below #[Value.ref b] s) (F0 m 1377 ls []) := by
  obtain ⟨hx, hb, hr, hml, hown, hts0, hX, hbl, hlocks, hgv⟩ := id C0
  have hts : ∀ w ∈ wsL_law, w.before #[Value.ref b] s = true := lw_words hts0
  refine lv_aload_n hx hb dL_law_1377 rfl (lv_at hl 3 rfl) ?_
  refine lv_aload_n hx hb dL_law_1378 rfl (lv_at hl 4 rfl) ?_
  refine lv_iload hx hb dL_law_1379 (lv_at hl 0 rfl) ?_
  refine lv_iconst (v := 1) hx hb dL_law_1381 (by decide) ?_
  refine lv_iadd hx hb dL_law_1382 ?_
  refine lv_topi (fun f1 ef1 => ?_)
  obtain rfl : f1 = 1 := ef1.trans (by decide)
  refine va_sld hx hb hX hbl hbA hS (by unfold vp_in; decide) dL_law_1383 ?_
  refine lv_aload_n hx hb dL_law_1384 rfl (lv_at hl 1 rfl) ?_
  have hPc := hP.sub (ws' := [(h0, .inr (9, [.int 7, .ref a1, .int 0, .ref a2, .int 0, .int 0, .ref w1, .ref p1, .ref o1])), (a1, .inl (cA1, 4, .inr (.inr (.inr (.inr (fun _ => none)))))), (a2, .inl (cA2, 10, .inr (.inr (.inr (.inr (fun _ => none))))))]) [0, 1, 2] rfl
  have hDc := hD.sub (ws' := [(h0, .inr (9, [.int 7, .ref a1, .int 0, .ref a2, .int 0, .int 0, .ref w1, .ref p1, .ref o1])), (a1, .inl (cA1, 4, .inr (.inr (.inr (.inr (fun _ => none)))))), (a2, .inl (cA2, 10, .inr (.inr (.inr (.inr (fun _ => none))))))]) [0, 1, 2] (by decide) rfl
  have hKc := hK.sub (tys' := [(cA1, .object RX0), (cA2, .object RX1)]) [0, 1] rfl
  have hFc := va_free (wc := [(h0, .inr (9, [.int 7, .ref a1, .int 0, .ref a2, .int 0, .int 0, .ref w1, .ref p1, .ref o1])), (a1, .inl (cA1, 4, .inr (.inr (.inr (.inr (fun _ => none)))))), (a2, .inl (cA2, 10, .inr (.inr (.inr (.inr (fun _ => none))))))]) hD hS hA [0, 1, 2] rfl
  refine va_calli (vx_runSW (As := [.ref h0, .int (xs (Int32.toNatClampNeg 1)), .ref o0]) (rest := []) ⟨hx, hb, hml, hown, hts⟩ (c_L_versor l hst dC dI dE h0 a1 a2 w1 p1 o1 cA1 cA2 (xs (Int32.toNatClampNeg 1)) o0 H.size) (vx_cwSW 3 hts gL_law_L_versor rfl rfl rfl (by decide +kernel) ⟨Nat.le_of_ble_eq_true rfl, Nat.le_of_ble_eq_true rfl⟩) ⟨fun a U g mk q => ⟨q.1, PB.blind q.2⟩, fun U hU hW => ⟨rfl, PB.call hPc hKc hDc hTb hZ hS hFc hU hW⟩⟩ rfl rfl hl.1 rfl (lv_room (Nat.le_of_ble_eq_true rfl)) dL_law_1385 ⟨Nat.le_of_ble_eq_true rfl, Nat.le_of_ble_eq_true rfl⟩) hS (fun q _ h => hFc q h) hFc (fun r u t H locs ht hvm hw hB hz1 hk1 hS => ?_)
  obtain ⟨hP, hD, hK⟩ := PE.join0 (wc := [(h0, .inr (9, [.int 7, .ref a1, .int 0, .ref a2, .int 0, .int 0, .ref w1, .ref p1, .ref o1])), (a1, .inl (cA1, 4, .inr (.inr (.inr (.inr (fun _ => none)))))), (a2, .inl (cA2, 10, .inr (.inr (.inr (.inr (fun _ => none))))))]) (wr := [(m0, .inr (13, [.int 0, .int 7, .int 0, .ref l1, .ref l2])), (l1, .inr (2, [.int 0, .ref dE, .int 0])), (l2, .inr (2, [.int 0, .ref dE, .int 0])), (o0, .inr (10, [.long 0, .double FP.dconst0, .null]))]) (tr := []) hP hD hK [0, 1, 2] [3, 4, 5, 6] [] rfl rfl rfl (by decide) (by decide) hk1 hFc
  have hP : va_P (dC, dI) vwCl [(m0, .inr (13, [.int 0, .int 7, .int 0, .ref l1, .ref l2])), (l1, .inr (2, [.int 0, .ref dE, .int 0])), (l2, .inr (2, [.int 0, .ref dE, .int 0])), (o0, .inr (10, [.long 0, .double FP.dconst0, .null]))] H := hP
  have hD : va_D A [(m0, .inr (13, [.int 0, .int 7, .int 0, .ref l1, .ref l2])), (l1, .inr (2, [.int 0, .ref dE, .int 0])), (l2, .inr (2, [.int 0, .ref dE, .int 0])), (o0, .inr (10, [.long 0, .double FP.dconst0, .null]))] := hD
  have hK : va_K (dC, dI) vwCl [] s := hK
  subst hw
  refine W.widen (k := 38) (n := 523) (by omega) (by omega) ?_
  refine lv_istore (lv' := [(5, .int 1), (4, .int 0), (3, .ref o0), (2, .ref m0), (1, .ref h0), (0, .ref b)]) hx hb dL_law_1388 hl (by decide) rfl (fun ls hl => ?_)
  refine lv_aload_n hx hb dL_law_1390 rfl (lv_at hl 3 rfl) ?_
  refine lv_aload_n hx hb dL_law_1391 rfl (lv_at hl 5 rfl) ?_
  refine lv_iload hx hb dL_law_1392 (lv_at hl 1 rfl) ?_
  refine lv_iconst (v := 1) hx hb dL_law_1394 (by decide) ?_
  refine lv_iadd hx hb dL_law_1395 ?_
  refine lv_topi (fun f2 ef2 => ?_)
  obtain rfl : f2 = 1 := ef2.trans (by decide)
  refine va_sld hx hb hX hbl hbA hS (by unfold vp_in; decide) dL_law_1396 ?_
  have hPc := hP.sub (ws' := [(m0, .inr (13, [.int 0, .int 7, .int 0, .ref l1, .ref l2])), (l1, .inr (2, [.int 0, .ref dE, .int 0])), (l2, .inr (2, [.int 0, .ref dE, .int 0]))]) [0, 1, 2] rfl
  have hDc := hD.sub (ws' := [(m0, .inr (13, [.int 0, .int 7, .int 0, .ref l1, .ref l2])), (l1, .inr (2, [.int 0, .ref dE, .int 0])), (l2, .inr (2, [.int 0, .ref dE, .int 0]))]) [0, 1, 2] (by decide) rfl
  have hKc := hK.sub (tys' := []) [] rfl
  have hFc := va_free (wc := [(m0, .inr (13, [.int 0, .int 7, .int 0, .ref l1, .ref l2])), (l1, .inr (2, [.int 0, .ref dE, .int 0])), (l2, .inr (2, [.int 0, .ref dE, .int 0]))]) hD hS hA [0, 1, 2] rfl
  refine va_calli (va_runV (As := [.int (xs (Int32.toNatClampNeg 1))]) (rest := []) ⟨hx, hb, hml, hown, hts⟩ (c_M_versor l dC dI dE m0 l1 l2 (xs (Int32.toNatClampNeg 1)) H.size) (cwV 1 hts gL_law_X10_versor rfl rfl rfl (by decide +kernel) ⟨Nat.le_of_ble_eq_true rfl, Nat.le_of_ble_eq_true rfl⟩) ⟨fun a U g mk q => ⟨q.1, PB.blind q.2⟩, va_recv hKc hPc (ci := 13) (q0 := 0) rfl rfl, fun U hU hW => ⟨rfl, PB.call hPc hKc hDc hTb hZ hS hFc hU hW⟩⟩ rfl rfl hl.1 rfl (lv_room (Nat.le_of_ble_eq_true rfl)) dL_law_1397 ⟨Nat.le_of_ble_eq_true rfl, Nat.le_of_ble_eq_true rfl⟩) hS (fun q _ h => hFc q h) hFc (fun r u t H locs ht hvm hw hB hz1 hk1 hS => ?_)
  obtain ⟨hP, hD, hK⟩ := PE.join (wc := [(m0, .inr (13, [.int 0, .int 7, .int 0, .ref l1, .ref l2])), (l1, .inr (2, [.int 0, .ref dE, .int 0])), (l2, .inr (2, [.int 0, .ref dE, .int 0]))]) (wr := [(o0, .inr (10, [.long 0, .double FP.dconst0, .null]))]) (w1 := [(m0, .inr (13, [.int 1, .int 7, .int 0, .ref l1, .ref l2])), (l1, .inr (2, [.int 0, .ref dE, .int 0])), (l2, .inr (2, [.int 0, .ref dE, .int 0]))]) (tr := []) (t1 := []) hP hD hK [0, 1, 2] [3] [] rfl rfl rfl (by decide) (by decide) hk1 hFc ht hvm hB
  have hP : va_P (dC, dI) vwCl [(o0, .inr (10, [.long 0, .double FP.dconst0, .null])), (m0, .inr (13, [.int 1, .int 7, .int 0, .ref l1, .ref l2])), (l1, .inr (2, [.int 0, .ref dE, .int 0])), (l2, .inr (2, [.int 0, .ref dE, .int 0]))] H := hP
  have hD : va_D A [(o0, .inr (10, [.long 0, .double FP.dconst0, .null])), (m0, .inr (13, [.int 1, .int 7, .int 0, .ref l1, .ref l2])), (l1, .inr (2, [.int 0, .ref dE, .int 0])), (l2, .inr (2, [.int 0, .ref dE, .int 0]))] := hD
  have hK : va_K (dC, dI) vwCl [] s := hK
  subst hw
  refine lv_istore (lv' := [(6, .int 0), (5, .int 1), (4, .int 0), (3, .ref o0), (2, .ref m0), (1, .ref h0), (0, .ref b)]) hx hb dL_law_1400 hl (by decide) rfl (fun ls hl => ?_)
  refine lv_aload_n hx hb dL_law_1402 rfl (lv_at hl 4 rfl) ?_
  have hPc := hP.sub (ws' := [(m0, .inr (13, [.int 1, .int 7, .int 0, .ref l1, .ref l2]))]) [1] rfl
  have hDc := hD.sub (ws' := [(m0, .inr (13, [.int 1, .int 7, .int 0, .ref l1, .ref l2]))]) [1] (by decide) rfl
  have hKc := hK.sub (tys' := []) [] rfl
  have hFc := va_free (wc := [(m0, .inr (13, [.int 1, .int 7, .int 0, .ref l1, .ref l2]))]) hD hS hA [1] rfl
  refine va_calli (va_runV (As := []) (rest := []) ⟨hx, hb, hml, hown, hts⟩ (c_M_thrown l dC dI dE m0 1 7 0 l1 l2 H.size) (cwV 0 hts gL_law_X10_thrown rfl rfl rfl (by decide +kernel) ⟨Nat.le_of_ble_eq_true rfl, Nat.le_of_ble_eq_true rfl⟩) ⟨fun a U g mk q => ⟨q.1, PB.blind q.2⟩, va_recv hKc hPc (ci := 13) (q0 := 0) rfl rfl, fun U hU hW => ⟨rfl, PB.call hPc hKc hDc hTb hZ hS hFc hU hW⟩⟩ rfl rfl hl.1 rfl (lv_room (Nat.le_of_ble_eq_true rfl)) dL_law_1403 ⟨Nat.le_of_ble_eq_true rfl, Nat.le_of_ble_eq_true rfl⟩) hS (fun q _ h => hFc q h) hFc (fun r u t H locs ht hvm hw hB hz1 hk1 hS => ?_)
  obtain ⟨hP, hD, hK⟩ := PE.join0 (wc := [(m0, .inr (13, [.int 1, .int 7, .int 0, .ref l1, .ref l2]))]) (wr := [(o0, .inr (10, [.long 0, .double FP.dconst0, .null])), (l1, .inr (2, [.int 0, .ref dE, .int 0])), (l2, .inr (2, [.int 0, .ref dE, .int 0]))]) (tr := []) hP hD hK [1] [0, 2, 3] [] rfl rfl rfl (by decide) (by decide) hk1 hFc
  have hP : va_P (dC, dI) vwCl [(o0, .inr (10, [.long 0, .double FP.dconst0, .null])), (l1, .inr (2, [.int 0, .ref dE, .int 0])), (l2, .inr (2, [.int 0, .ref dE, .int 0]))] H := hP
  have hD : va_D A [(o0, .inr (10, [.long 0, .double FP.dconst0, .null])), (l1, .inr (2, [.int 0, .ref dE, .int 0])), (l2, .inr (2, [.int 0, .ref dE, .int 0]))] := hD
  have hK : va_K (dC, dI) vwCl [] s := hK
  subst hw
  refine lv_iload hx hb dL_law_1406 (lv_at hl 1 rfl) ?_
  refine lv_icmp_eq (tgt := 1413) hx hb dL_law_1408 (by decide) (fun _ => ?_) (fun c9 => absurd (by decide) c9)
  refine lv_iload hx hb dL_law_1413 (lv_at hl 1 rfl) ?_
  refine lv_if_ne (tgt := 1431) hx hb dL_law_1415 (by decide) (fun _ => ?_) (fun c9 => absurd c9 (by decide))
  refine lv_goto (tgt := 2435) hx hb dL_law_1431 (by decide) ?_
  exact lk_end C0 hA2 hbA hS (Nat.le_of_ble_eq_true rfl) (Nat.le_of_ble_eq_true rfl) (lv_sub hl [2, 6] rfl)

