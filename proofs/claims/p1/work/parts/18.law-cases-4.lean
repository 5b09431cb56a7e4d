theorem dL_law_2035 : decode cL_law 2035 = .ok (.aload_n 1, 1) := by decide +kernel
set_option maxRecDepth 20000 in
theorem ggL_law_X6_poise : GoodIn wsL_law wsX6_poise := goodIn_r _ [1249, 21, 1250, 1251, 1252, 2, 1253, 20, 1226, 1227, 1228, 353, 1229, 360, 1230, 359, 1231, 399, 400, 38, 401, 48, 1232, 1233, 1234, 128, 1235, 145, 1236, 581, 582, 583, 1254, 1255, 1256, 1257, 1258, 1259, 1260, 1430, 1431, 1432, 1433, 1434, 1435, 1436, 1437, 1438, 1476, 1477, 1457, 1458, 1459, 1460, 1461, 1462, 1463, 1464, 1465, 1466, 1467, 1452] (by decide +kernel) (by decide +kernel)
set_option maxRecDepth 20000 in
theorem gL_law_X6_poise : GoodIn wsL_law (wsV RL 230 RX6 yX6_poise wsX6_poise) := goodIn_app (goodIn_of _ (by decide +kernel)) ggL_law_X6_poise
theorem dL_law_2036 : decode cL_law 2036 = .ok (.invokevirtual 230, 3) := by decide +kernel
theorem dL_law_2039 : decode cL_law 2039 = .ok (.dstore 5, 2) := by decide +kernel
theorem dL_law_2041 : decode cL_law 2041 = .ok (.aload_n 2, 1) := by decide +kernel
set_option maxRecDepth 20000 in
theorem ggL_law_X10_poise : GoodIn wsL_law wsX10_poise := goodIn_r _ [1264, 106, 69, 1265, 1266, 197, 1267, 111, 112, 113, 67, 114, 115, 1268, 1269, 1270, 5, 1271, 1242, 1243, 1244, 1245, 64, 414, 415, 416, 417, 315, 418, 295, 296, 297, 298, 299, 300, 301, 302, 303, 304, 305, 306, 307, 308, 309, 310, 74, 593, 594, 595, 457, 458, 459, 1439, 1440, 1441, 1442, 1443, 1454, 1455, 1456, 1474, 1475] (by decide +kernel) (by decide +kernel)
set_option maxRecDepth 20000 in
theorem gL_law_X10_poise : GoodIn wsL_law (wsV RL 233 RX10 yX10_poise wsX10_poise) := goodIn_app (goodIn_of _ (by decide +kernel)) ggL_law_X10_poise
theorem dL_law_2042 : decode cL_law 2042 = .ok (.invokevirtual 233, 3) := by decide +kernel
theorem dL_law_2045 : decode cL_law 2045 = .ok (.dstore 7, 2) := by decide +kernel
theorem dL_law_2047 : decode cL_law 2047 = .ok (.dload 5, 2) := by decide +kernel
theorem dL_law_2049 : decode cL_law 2049 = .ok (.dload 7, 2) := by decide +kernel
theorem dL_law_2051 : decode cL_law 2051 = .ok (.dcmp .l, 1) := by decide +kernel
theorem dL_law_2052 : decode cL_law 2052 = .ok (.ifCond .eq 21, 3) := by decide +kernel
theorem dL_law_2073 : decode cL_law 2073 = .ok (.goto 362, 3) := by decide +kernel
theorem dL_law_2076 : decode cL_law 2076 = .ok (.aload_n 1, 1) := by decide +kernel
theorem dL_law_2077 : decode cL_law 2077 = .ok (.aload_n 0, 1) := by decide +kernel
theorem dL_law_2078 : decode cL_law 2078 = .ok (.iload 4, 2) := by decide +kernel
theorem dL_law_2080 : decode cL_law 2080 = .ok (.iconst 1, 1) := by decide +kernel
theorem dL_law_2081 : decode cL_law 2081 = .ok (.iadd, 1) := by decide +kernel
theorem dL_law_2082 : decode cL_law 2082 = .ok (.iaload, 1) := by decide +kernel
theorem dL_law_2083 : decode cL_law 2083 = .ok (.aload_n 3, 1) := by decide +kernel
set_option maxRecDepth 20000 in
theorem ggL_law_L_many : GoodIn wsL_law wsL_many := goodIn_ca (goodIn_r _ [1274, 92, 1275, 1276, 1277, 2, 1278, 98, 99, 15, 18, 21, 22, 1279, 1280, 1281, 1282, 17, 239, 1283, 1284, 1285, 1286, 20, 382, 883, 581, 582, 38, 583, 48, 1287, 1288, 1289, 1290, 26, 878, 879, 880, 25, 881, 540, 40, 541, 578, 518, 519, 128, 520, 258, 259, 260, 261, 144, 262, 263, 264, 265, 266, 267, 268, 434, 399, 400, 401, 269, 270, 271, 272, 145, 435, 403, 404, 405, 882, 717, 718, 719, 134, 254, 255, 256, 257, 139, 1250, 1251, 1252, 1253, 1226, 1227, 1228, 353, 1229, 360, 1230, 359, 1231, 1232, 1233, 1234, 1235, 1236, 1444, 1445, 1446, 1430, 1431, 1432, 1433, 1434, 1435, 1436, 1437, 1438, 1457, 1458, 1459, 1460, 1461, 1462, 1463, 1464, 1465, 1466, 1467, 1476, 1477, 1452, 1447, 1448, 1449] (by decide +kernel) (by decide +kernel)) (goodIn_sub (fun _ h => List.mem_append_left _ (List.mem_append_left _ (List.mem_append_right _ h))) (by decide +kernel))
set_option maxRecDepth 20000 in
theorem gL_law_L_many : GoodIn wsL_law (va_wsS RL 234 yL_many wsL_many) := goodIn_app (goodIn_of _ (by decide +kernel)) ggL_law_L_many
theorem dL_law_2084 : decode cL_law 2084 = .ok (.invokestatic 234, 3) := by decide +kernel
theorem dL_law_2087 : decode cL_law 2087 = .ok (.istore 5, 2) := by decide +kernel
theorem dL_law_2089 : decode cL_law 2089 = .ok (.aload_n 2, 1) := by decide +kernel
theorem dL_law_2090 : decode cL_law 2090 = .ok (.aload_n 0, 1) := by decide +kernel
theorem dL_law_2091 : decode cL_law 2091 = .ok (.iload 4, 2) := by decide +kernel
theorem dL_law_2093 : decode cL_law 2093 = .ok (.iconst 1, 1) := by decide +kernel
theorem dL_law_2094 : decode cL_law 2094 = .ok (.iadd, 1) := by decide +kernel
theorem dL_law_2095 : decode cL_law 2095 = .ok (.iaload, 1) := by decide +kernel
set_option maxRecDepth 20000 in
theorem ggL_law_X10_many : GoodIn wsL_law wsX10_many := goodIn_r _ [1294, 106, 162, 163, 5, 164, 107, 108, 109, 110, 1295, 1296, 1297, 1298, 68, 289, 69, 31, 64, 755, 111, 112, 113, 67, 114, 115, 295, 296, 297, 298, 299, 300, 301, 302, 303, 304, 305, 306, 307, 308, 309, 310, 74, 344, 324, 325, 161, 326, 321, 414, 415, 416, 417, 315, 418, 593, 594, 595, 457, 458, 459, 901, 902, 903, 904, 483, 484, 485, 486, 316, 525, 526, 527, 528, 168, 323, 331, 332, 333, 334, 175, 335, 336, 337, 338, 339, 487, 488, 489, 490, 172, 1268, 1269, 1270, 1271, 1242, 1243, 1244, 1245, 1439, 1440, 1441, 1442, 1443, 1454, 1455, 1456, 1468, 1469, 1470, 1471, 1472, 1473, 1474, 1475] (by decide +kernel) (by decide +kernel)
set_option maxRecDepth 20000 in
theorem gL_law_X10_many : GoodIn wsL_law (wsV RL 236 RX10 yX10_many wsX10_many) := goodIn_app (goodIn_of _ (by decide +kernel)) ggL_law_X10_many
theorem dL_law_2096 : decode cL_law 2096 = .ok (.invokevirtual 236, 3) := by decide +kernel
theorem dL_law_2099 : decode cL_law 2099 = .ok (.istore 6, 2) := by decide +kernel
theorem dL_law_2101 : decode cL_law 2101 = .ok (.aload_n 2, 1) := by decide +kernel
theorem dL_law_2102 : decode cL_law 2102 = .ok (.invokevirtual 138, 3) := by decide +kernel
theorem dL_law_2105 : decode cL_law 2105 = .ok (.iload 5, 2) := by decide +kernel
theorem dL_law_2107 : decode cL_law 2107 = .ok (.if_icmp .eq 5, 3) := by decide +kernel
theorem dL_law_2112 : decode cL_law 2112 = .ok (.iload 5, 2) := by decide +kernel
theorem dL_law_2114 : decode cL_law 2114 = .ok (.ifCond .ne 16, 3) := by decide +kernel
theorem dL_law_2117 : decode cL_law 2117 = .ok (.aload_n 3, 1) := by decide +kernel
theorem dL_law_2118 : decode cL_law 2118 = .ok (.getfield 13, 3) := by decide +kernel
theorem dL_law_2121 : decode cL_law 2121 = .ok (.iload 6, 2) := by decide +kernel
theorem dL_law_2123 : decode cL_law 2123 = .ok (.i2l, 1) := by decide +kernel
theorem dL_law_2124 : decode cL_law 2124 = .ok (.lcmp, 1) := by decide +kernel
theorem dL_law_2125 : decode cL_law 2125 = .ok (.ifCond .eq 5, 3) := by decide +kernel
theorem dL_law_2130 : decode cL_law 2130 = .ok (.goto 305, 3) := by decide +kernel
theorem dL_law_2133 : decode cL_law 2133 = .ok (.aload_n 1, 1) := by decide +kernel
theorem dL_law_2134 : decode cL_law 2134 = .ok (.aload_n 0, 1) := by decide +kernel
theorem dL_law_2135 : decode cL_law 2135 = .ok (.iload 4, 2) := by decide +kernel
theorem dL_law_2137 : decode cL_law 2137 = .ok (.iconst 1, 1) := by decide +kernel
theorem dL_law_2138 : decode cL_law 2138 = .ok (.iadd, 1) := by decide +kernel
theorem dL_law_2139 : decode cL_law 2139 = .ok (.iaload, 1) := by decide +kernel
theorem dL_law_2140 : decode cL_law 2140 = .ok (.aload_n 0, 1) := by decide +kernel
theorem dL_law_2141 : decode cL_law 2141 = .ok (.iload 4, 2) := by decide +kernel
theorem dL_law_2143 : decode cL_law 2143 = .ok (.iconst 2, 1) := by decide +kernel
theorem dL_law_2144 : decode cL_law 2144 = .ok (.iadd, 1) := by decide +kernel
theorem dL_law_2145 : decode cL_law 2145 = .ok (.iaload, 1) := by decide +kernel
theorem dL_law_2146 : decode cL_law 2146 = .ok (.aload_n 3, 1) := by decide +kernel
set_option maxRecDepth 20000 in
theorem ggL_law_L_apart : GoodIn wsL_law wsL_apart := goodIn_ca (goodIn_ca (goodIn_r _ [1301, 232, 92, 1302, 1303, 1304, 2, 1305, 26, 548, 383, 384, 385, 386, 244, 245, 387, 388, 389, 390, 20, 426, 427, 428, 98, 99, 381, 429, 1306, 1307, 1308, 25, 1309, 540, 39, 541, 40, 543, 468, 469, 128, 470, 142, 134, 471, 472, 473, 38, 474, 48, 434, 399, 400, 401, 475, 476, 477, 478, 254, 255, 256, 257, 139, 435, 403, 404, 405, 269, 270, 271, 272, 145, 622, 431, 432, 433, 436, 437, 438, 439, 1444, 1445, 1446, 1430, 1431, 1432, 1433, 1434, 1435, 1436, 1437, 1438, 1447, 1448, 1449, 1476, 1477, 1457, 1458, 1459, 1460, 1461, 1462, 1463, 1464, 1465, 1466, 1467, 1452] (by decide +kernel) (by decide +kernel)) (goodIn_sub (fun _ h => List.mem_append_right _ h) (by decide +kernel))) (goodIn_sub (fun _ h => List.mem_append_left _ (List.mem_append_left _ (List.mem_append_right _ h))) (by decide +kernel))
set_option maxRecDepth 20000 in
theorem gL_law_L_apart : GoodIn wsL_law (va_wsS RL 237 yL_apart wsL_apart) := goodIn_app (goodIn_of _ (by decide +kernel)) ggL_law_L_apart
theorem dL_law_2147 : decode cL_law 2147 = .ok (.invokestatic 237, 3) := by decide +kernel
theorem dL_law_2150 : decode cL_law 2150 = .ok (.istore 5, 2) := by decide +kernel
theorem dL_law_2152 : decode cL_law 2152 = .ok (.aload_n 2, 1) := by decide +kernel
theorem dL_law_2153 : decode cL_law 2153 = .ok (.aload_n 0, 1) := by decide +kernel
theorem dL_law_2154 : decode cL_law 2154 = .ok (.iload 4, 2) := by decide +kernel
theorem dL_law_2156 : decode cL_law 2156 = .ok (.iconst 1, 1) := by decide +kernel
theorem dL_law_2157 : decode cL_law 2157 = .ok (.iadd, 1) := by decide +kernel
theorem dL_law_2158 : decode cL_law 2158 = .ok (.iaload, 1) := by decide +kernel
theorem dL_law_2159 : decode cL_law 2159 = .ok (.aload_n 0, 1) := by decide +kernel
theorem dL_law_2160 : decode cL_law 2160 = .ok (.iload 4, 2) := by decide +kernel
theorem dL_law_2162 : decode cL_law 2162 = .ok (.iconst 2, 1) := by decide +kernel
theorem dL_law_2163 : decode cL_law 2163 = .ok (.iadd, 1) := by decide +kernel
theorem dL_law_2164 : decode cL_law 2164 = .ok (.iaload, 1) := by decide +kernel
set_option maxRecDepth 20000 in
theorem ggL_law_X10_apart : GoodIn wsL_law wsX10_apart := goodIn_r _ [1313, 106, 410, 411, 412, 5, 413, 69, 111, 112, 113, 67, 114, 115, 162, 163, 164, 107, 108, 109, 110, 444, 445, 446, 447, 315, 316, 295, 296, 297, 298, 299, 300, 301, 302, 303, 304, 305, 306, 307, 308, 309, 310, 74, 483, 484, 485, 486, 68, 289, 414, 415, 416, 417, 418, 487, 488, 489, 161, 490, 31, 168, 172, 323, 324, 325, 326, 321, 337, 338, 339, 64, 448, 449, 450, 451, 452, 457, 458, 459, 1439, 1440, 1441, 1442, 1443, 1454, 1455, 1456, 1474, 1475, 1468, 1469, 1470, 1471, 1472, 1473] (by decide +kernel) (by decide +kernel)
set_option maxRecDepth 20000 in
theorem gL_law_X10_apart : GoodIn wsL_law (wsV RL 239 RX10 yX10_apart wsX10_apart) := goodIn_app (goodIn_of _ (by decide +kernel)) ggL_law_X10_apart
theorem dL_law_2165 : decode cL_law 2165 = .ok (.invokevirtual 239, 3) := by decide +kernel
theorem dL_law_2168 : decode cL_law 2168 = .ok (.istore 6, 2) := by decide +kernel
theorem dL_law_2170 : decode cL_law 2170 = .ok (.aload_n 2, 1) := by decide +kernel
theorem dL_law_2171 : decode cL_law 2171 = .ok (.invokevirtual 138, 3) := by decide +kernel
theorem dL_law_2174 : decode cL_law 2174 = .ok (.iload 5, 2) := by decide +kernel
theorem dL_law_2176 : decode cL_law 2176 = .ok (.if_icmp .eq 5, 3) := by decide +kernel
theorem dL_law_2181 : decode cL_law 2181 = .ok (.iload 5, 2) := by decide +kernel
theorem dL_law_2183 : decode cL_law 2183 = .ok (.ifCond .ne 16, 3) := by decide +kernel
theorem dL_law_2199 : decode cL_law 2199 = .ok (.goto 236, 3) := by decide +kernel
theorem dL_law_2202 : decode cL_law 2202 = .ok (.aload_n 1, 1) := by decide +kernel
theorem dL_law_2203 : decode cL_law 2203 = .ok (.aload_n 0, 1) := by decide +kernel
theorem dL_law_2204 : decode cL_law 2204 = .ok (.iload 4, 2) := by decide +kernel
theorem dL_law_2206 : decode cL_law 2206 = .ok (.iconst 1, 1) := by decide +kernel
theorem dL_law_2207 : decode cL_law 2207 = .ok (.iadd, 1) := by decide +kernel
theorem dL_law_2208 : decode cL_law 2208 = .ok (.iaload, 1) := by decide +kernel
theorem dL_law_2209 : decode cL_law 2209 = .ok (.aload_n 0, 1) := by decide +kernel
theorem dL_law_2210 : decode cL_law 2210 = .ok (.iload 4, 2) := by decide +kernel
theorem dL_law_2212 : decode cL_law 2212 = .ok (.iconst 2, 1) := by decide +kernel
theorem dL_law_2213 : decode cL_law 2213 = .ok (.iadd, 1) := by decide +kernel
theorem dL_law_2214 : decode cL_law 2214 = .ok (.iaload, 1) := by decide +kernel
theorem dL_law_2215 : decode cL_law 2215 = .ok (.aload_n 3, 1) := by decide +kernel
set_option maxRecDepth 20000 in
theorem ggL_law_L_row : GoodIn wsL_law wsL_row := goodIn_ca (goodIn_ca (goodIn_r _ [1316, 232, 92, 1317, 1318, 1319, 2, 1320, 240, 241, 242, 243, 244, 245, 17, 394, 395, 396, 397, 98, 99, 15, 1321, 1322, 1323, 128, 1324, 133, 145, 1325, 1326, 1327, 1328, 269, 270, 271, 272, 281, 282, 283, 284, 138, 1444, 1445, 1446, 1430, 1431, 1432, 1433, 1434, 1435, 1436, 1437, 1438, 1457, 1458, 1459, 1460, 1461, 1462, 1463, 1464, 1465, 1466, 1467] (by decide +kernel) (by decide +kernel)) (goodIn_sub (fun _ h => List.mem_append_right _ h) (by decide +kernel))) (goodIn_sub (fun _ h => List.mem_append_left _ (List.mem_append_left _ (List.mem_append_right _ h))) (by decide +kernel))
set_option maxRecDepth 20000 in
theorem gL_law_L_row : GoodIn wsL_law (va_wsS RL 240 yL_row wsL_row) := goodIn_app (goodIn_of _ (by decide +kernel)) ggL_law_L_row
theorem dL_law_2216 : decode cL_law 2216 = .ok (.invokestatic 240, 3) := by decide +kernel
theorem dL_law_2219 : decode cL_law 2219 = .ok (.istore 5, 2) := by decide +kernel
theorem dL_law_2221 : decode cL_law 2221 = .ok (.aload_n 2, 1) := by decide +kernel
theorem dL_law_2222 : decode cL_law 2222 = .ok (.aload_n 0, 1) := by decide +kernel
theorem dL_law_2223 : decode cL_law 2223 = .ok (.iload 4, 2) := by decide +kernel
theorem dL_law_2225 : decode cL_law 2225 = .ok (.iconst 1, 1) := by decide +kernel
theorem dL_law_2226 : decode cL_law 2226 = .ok (.iadd, 1) := by decide +kernel
theorem dL_law_2227 : decode cL_law 2227 = .ok (.iaload, 1) := by decide +kernel
theorem dL_law_2228 : decode cL_law 2228 = .ok (.aload_n 0, 1) := by decide +kernel
theorem dL_law_2229 : decode cL_law 2229 = .ok (.iload 4, 2) := by decide +kernel
theorem dL_law_2231 : decode cL_law 2231 = .ok (.iconst 2, 1) := by decide +kernel
theorem dL_law_2232 : decode cL_law 2232 = .ok (.iadd, 1) := by decide +kernel
theorem dL_law_2233 : decode cL_law 2233 = .ok (.iaload, 1) := by decide +kernel
set_option maxRecDepth 20000 in
theorem ggL_law_X10_row_ : GoodIn wsL_law wsX10_row_ := goodIn_r _ [1332, 106, 64, 68, 289, 291, 292, 293, 5, 294, 111, 112, 113, 67, 114, 115, 162, 163, 164, 107, 108, 109, 110, 295, 296, 297, 298, 299, 300, 301, 302, 303, 304, 305, 306, 307, 308, 309, 310, 74, 1333, 1334, 1335, 1336, 290, 1337, 1338, 1339, 161, 1340, 321, 170, 168, 337, 338, 339, 1439, 1440, 1441, 1442, 1443, 1454, 1455, 1456, 1468, 1469, 1470, 1471, 1472, 1473] (by decide +kernel) (by decide +kernel)
set_option maxRecDepth 20000 in
theorem gL_law_X10_row_ : GoodIn wsL_law (wsV RL 242 RX10 yX10_row_ wsX10_row_) := goodIn_app (goodIn_of _ (by decide +kernel)) ggL_law_X10_row_
theorem dL_law_2234 : decode cL_law 2234 = .ok (.invokevirtual 242, 3) := by decide +kernel
theorem dL_law_2237 : decode cL_law 2237 = .ok (.istore 6, 2) := by decide +kernel
theorem dL_law_2239 : decode cL_law 2239 = .ok (.aload_n 2, 1) := by decide +kernel
theorem dL_law_2240 : decode cL_law 2240 = .ok (.invokevirtual 138, 3) := by decide +kernel
theorem dL_law_2243 : decode cL_law 2243 = .ok (.iload 5, 2) := by decide +kernel
theorem dL_law_2245 : decode cL_law 2245 = .ok (.if_icmp .eq 5, 3) := by decide +kernel
theorem dL_law_2250 : decode cL_law 2250 = .ok (.iload 5, 2) := by decide +kernel
theorem dL_law_2252 : decode cL_law 2252 = .ok (.ifCond .ne 16, 3) := by decide +kernel
theorem dL_law_2268 : decode cL_law 2268 = .ok (.goto 167, 3) := by decide +kernel
theorem dL_law_2271 : decode cL_law 2271 = .ok (.aload_n 1, 1) := by decide +kernel
theorem dL_law_2272 : decode cL_law 2272 = .ok (.aload_n 0, 1) := by decide +kernel
theorem dL_law_2273 : decode cL_law 2273 = .ok (.iload 4, 2) := by decide +kernel
theorem dL_law_2275 : decode cL_law 2275 = .ok (.iconst 1, 1) := by decide +kernel
theorem dL_law_2276 : decode cL_law 2276 = .ok (.iadd, 1) := by decide +kernel
theorem dL_law_2277 : decode cL_law 2277 = .ok (.iaload, 1) := by decide +kernel
theorem dL_law_2278 : decode cL_law 2278 = .ok (.aload_n 0, 1) := by decide +kernel
theorem dL_law_2279 : decode cL_law 2279 = .ok (.iload 4, 2) := by decide +kernel
theorem dL_law_2281 : decode cL_law 2281 = .ok (.iconst 2, 1) := by decide +kernel
theorem dL_law_2282 : decode cL_law 2282 = .ok (.iadd, 1) := by decide +kernel
theorem dL_law_2283 : decode cL_law 2283 = .ok (.iaload, 1) := by decide +kernel
theorem dL_law_2284 : decode cL_law 2284 = .ok (.aload_n 3, 1) := by decide +kernel
set_option maxRecDepth 20000 in
theorem ggL_law_L_match : GoodIn wsL_law wsL_match := goodIn_ca (goodIn_r _ [1343, 232, 1344, 1345, 1346, 2, 1347, 237, 240, 241, 242, 243, 244, 245, 17, 1348, 1349, 1350, 1351, 801, 32, 1352, 282, 283, 128, 284, 138, 1353, 1354, 1355, 1356, 1357, 1358, 1359, 145, 269, 270, 271, 272, 1360, 1361, 1362, 1363, 1444, 1445, 1446, 1457, 1458, 1459, 1460, 1461, 1462, 1463, 1464, 1465, 1466, 1467, 1430, 1431, 1432, 1433, 1434, 1435, 1436, 1437, 1438] (by decide +kernel) (by decide +kernel)) (goodIn_sub (fun _ h => List.mem_append_right _ h) (by decide +kernel))
set_option maxRecDepth 20000 in
theorem gL_law_L_match : GoodIn wsL_law (va_wsS RL 243 yL_match wsL_match) := goodIn_app (goodIn_of _ (by decide +kernel)) ggL_law_L_match
theorem dL_law_2285 : decode cL_law 2285 = .ok (.invokestatic 243, 3) := by decide +kernel
theorem dL_law_2288 : decode cL_law 2288 = .ok (.istore 5, 2) := by decide +kernel
theorem dL_law_2290 : decode cL_law 2290 = .ok (.aload_n 2, 1) := by decide +kernel
theorem dL_law_2291 : decode cL_law 2291 = .ok (.aload_n 0, 1) := by decide +kernel
theorem dL_law_2292 : decode cL_law 2292 = .ok (.iload 4, 2) := by decide +kernel
theorem dL_law_2294 : decode cL_law 2294 = .ok (.iconst 1, 1) := by decide +kernel
theorem dL_law_2295 : decode cL_law 2295 = .ok (.iadd, 1) := by decide +kernel
theorem dL_law_2296 : decode cL_law 2296 = .ok (.iaload, 1) := by decide +kernel
theorem dL_law_2297 : decode cL_law 2297 = .ok (.aload_n 0, 1) := by decide +kernel
theorem dL_law_2298 : decode cL_law 2298 = .ok (.iload 4, 2) := by decide +kernel
theorem dL_law_2300 : decode cL_law 2300 = .ok (.iconst 2, 1) := by decide +kernel
theorem dL_law_2301 : decode cL_law 2301 = .ok (.iadd, 1) := by decide +kernel
theorem dL_law_2302 : decode cL_law 2302 = .ok (.iaload, 1) := by decide +kernel
set_option maxRecDepth 20000 in
theorem ggL_law_X10_match : GoodIn wsL_law wsX10_match := goodIn_r _ [1367, 106, 291, 292, 293, 5, 294, 68, 111, 112, 113, 67, 114, 115, 162, 163, 164, 107, 108, 109, 110, 1368, 1369, 1370, 1371, 289, 734, 290, 295, 296, 297, 298, 299, 300, 301, 302, 303, 304, 305, 306, 307, 308, 309, 310, 74, 1372, 1373, 1374, 1375, 1376, 1377, 1378, 1379, 1380, 64, 452, 337, 338, 339, 1439, 1440, 1441, 1442, 1443, 1454, 1455, 1456, 1468, 1469, 1470, 1471, 1472, 1473] (by decide +kernel) (by decide +kernel)
set_option maxRecDepth 20000 in
theorem gL_law_X10_match : GoodIn wsL_law (wsV RL 245 RX10 yX10_match wsX10_match) := goodIn_app (goodIn_of _ (by decide +kernel)) ggL_law_X10_match
theorem dL_law_2303 : decode cL_law 2303 = .ok (.invokevirtual 245, 3) := by decide +kernel
theorem dL_law_2306 : decode cL_law 2306 = .ok (.istore 6, 2) := by decide +kernel
theorem dL_law_2308 : decode cL_law 2308 = .ok (.aload_n 2, 1) := by decide +kernel
theorem dL_law_2309 : decode cL_law 2309 = .ok (.invokevirtual 138, 3) := by decide +kernel
theorem dL_law_2312 : decode cL_law 2312 = .ok (.iload 5, 2) := by decide +kernel
theorem dL_law_2314 : decode cL_law 2314 = .ok (.if_icmp .eq 5, 3) := by decide +kernel
theorem dL_law_2319 : decode cL_law 2319 = .ok (.iload 5, 2) := by decide +kernel
theorem dL_law_2321 : decode cL_law 2321 = .ok (.ifCond .ne 16, 3) := by decide +kernel
theorem dL_law_2337 : decode cL_law 2337 = .ok (.goto 98, 3) := by decide +kernel
theorem dL_law_2340 : decode cL_law 2340 = .ok (.aload_n 1, 1) := by decide +kernel
theorem dL_law_2341 : decode cL_law 2341 = .ok (.aload_n 0, 1) := by decide +kernel
theorem dL_law_2342 : decode cL_law 2342 = .ok (.iload 4, 2) := by decide +kernel
theorem dL_law_2344 : decode cL_law 2344 = .ok (.iconst 1, 1) := by decide +kernel
theorem dL_law_2345 : decode cL_law 2345 = .ok (.iadd, 1) := by decide +kernel
theorem dL_law_2346 : decode cL_law 2346 = .ok (.iaload, 1) := by decide +kernel
theorem dL_law_2347 : decode cL_law 2347 = .ok (.aload_n 0, 1) := by decide +kernel
theorem dL_law_2348 : decode cL_law 2348 = .ok (.iload 4, 2) := by decide +kernel
theorem dL_law_2350 : decode cL_law 2350 = .ok (.iconst 2, 1) := by decide +kernel
theorem dL_law_2351 : decode cL_law 2351 = .ok (.iadd, 1) := by decide +kernel
theorem dL_law_2352 : decode cL_law 2352 = .ok (.iaload, 1) := by decide +kernel
theorem dL_law_2353 : decode cL_law 2353 = .ok (.aload_n 0, 1) := by decide +kernel
theorem dL_law_2354 : decode cL_law 2354 = .ok (.iload 4, 2) := by decide +kernel
theorem dL_law_2356 : decode cL_law 2356 = .ok (.iconst 3, 1) := by decide +kernel
theorem dL_law_2357 : decode cL_law 2357 = .ok (.iadd, 1) := by decide +kernel
theorem dL_law_2358 : decode cL_law 2358 = .ok (.iaload, 1) := by decide +kernel
theorem dL_law_2359 : decode cL_law 2359 = .ok (.aload_n 3, 1) := by decide +kernel
set_option maxRecDepth 20000 in
theorem ggL_law_L_scaleOf : GoodIn wsL_law wsL_scaleOf := goodIn_ca (goodIn_r _ [1383, 232, 1384, 1385, 1386, 2, 1387, 237, 240, 241, 242, 243, 244, 245, 17, 1348, 1349, 1350, 1351, 801, 32, 1352, 282, 283, 128, 284, 138, 1353, 1354, 1355, 1356, 1357, 1358, 1359, 145, 269, 270, 271, 272, 1360, 1361, 1362, 1363, 1444, 1445, 1446, 1457, 1458, 1459, 1460, 1461, 1462, 1463, 1464, 1465, 1466, 1467, 1430, 1431, 1432, 1433, 1434, 1435, 1436, 1437, 1438] (by decide +kernel) (by decide +kernel)) (goodIn_sub (fun _ h => List.mem_append_right _ h) (by decide +kernel))
set_option maxRecDepth 20000 in
theorem gL_law_L_scaleOf : GoodIn wsL_law (va_wsS RL 246 yL_scaleOf wsL_scaleOf) := goodIn_app (goodIn_of _ (by decide +kernel)) ggL_law_L_scaleOf
theorem dL_law_2360 : decode cL_law 2360 = .ok (.invokestatic 246, 3) := by decide +kernel
theorem dL_law_2363 : decode cL_law 2363 = .ok (.istore 5, 2) := by decide +kernel
theorem dL_law_2365 : decode cL_law 2365 = .ok (.aload_n 2, 1) := by decide +kernel
theorem dL_law_2366 : decode cL_law 2366 = .ok (.aload_n 0, 1) := by decide +kernel
theorem dL_law_2367 : decode cL_law 2367 = .ok (.iload 4, 2) := by decide +kernel
theorem dL_law_2369 : decode cL_law 2369 = .ok (.iconst 1, 1) := by decide +kernel
theorem dL_law_2370 : decode cL_law 2370 = .ok (.iadd, 1) := by decide +kernel
theorem dL_law_2371 : decode cL_law 2371 = .ok (.iaload, 1) := by decide +kernel
theorem dL_law_2372 : decode cL_law 2372 = .ok (.aload_n 0, 1) := by decide +kernel
theorem dL_law_2373 : decode cL_law 2373 = .ok (.iload 4, 2) := by decide +kernel
theorem dL_law_2375 : decode cL_law 2375 = .ok (.iconst 2, 1) := by decide +kernel
theorem dL_law_2376 : decode cL_law 2376 = .ok (.iadd, 1) := by decide +kernel
theorem dL_law_2377 : decode cL_law 2377 = .ok (.iaload, 1) := by decide +kernel
theorem dL_law_2378 : decode cL_law 2378 = .ok (.aload_n 0, 1) := by decide +kernel
theorem dL_law_2379 : decode cL_law 2379 = .ok (.iload 4, 2) := by decide +kernel
theorem dL_law_2381 : decode cL_law 2381 = .ok (.iconst 3, 1) := by decide +kernel
theorem dL_law_2382 : decode cL_law 2382 = .ok (.iadd, 1) := by decide +kernel
theorem dL_law_2383 : decode cL_law 2383 = .ok (.iaload, 1) := by decide +kernel
set_option maxRecDepth 20000 in
theorem ggL_law_X10_scaleOf : GoodIn wsL_law wsX10_scaleOf := goodIn_r _ [1391, 106, 68, 289, 290, 1376, 291, 292, 293, 5, 294, 111, 112, 113, 67, 114, 115, 162, 163, 164, 107, 108, 109, 110, 1368, 1369, 1370, 1371, 734, 295, 296, 297, 298, 299, 300, 301, 302, 303, 304, 305, 306, 307, 308, 309, 310, 74, 1372, 1373, 1374, 1375, 1377, 1378, 1379, 1380, 64, 452, 337, 338, 339, 1439, 1440, 1441, 1442, 1443, 1468, 1469, 1470, 1471, 1472, 1473, 1454, 1455, 1456] (by decide +kernel) (by decide +kernel)
set_option maxRecDepth 20000 in
theorem gL_law_X10_scaleOf : GoodIn wsL_law (wsV RL 248 RX10 yX10_scaleOf wsX10_scaleOf) := goodIn_app (goodIn_of _ (by decide +kernel)) ggL_law_X10_scaleOf
theorem dL_law_2384 : decode cL_law 2384 = .ok (.invokevirtual 248, 3) := by decide +kernel
theorem dL_law_2387 : decode cL_law 2387 = .ok (.istore 6, 2) := by decide +kernel
theorem dL_law_2389 : decode cL_law 2389 = .ok (.aload_n 2, 1) := by decide +kernel
theorem dL_law_2390 : decode cL_law 2390 = .ok (.invokevirtual 138, 3) := by decide +kernel
theorem dL_law_2393 : decode cL_law 2393 = .ok (.iload 5, 2) := by decide +kernel
theorem dL_law_2395 : decode cL_law 2395 = .ok (.if_icmp .eq 5, 3) := by decide +kernel
theorem dL_law_2400 : decode cL_law 2400 = .ok (.iload 5, 2) := by decide +kernel
theorem dL_law_2402 : decode cL_law 2402 = .ok (.ifCond .ne 16, 3) := by decide +kernel
theorem dL_law_2418 : decode cL_law 2418 = .ok (.goto 17, 3) := by decide +kernel
set_option maxHeartbeats 4000000 in
set_option maxRecDepth 100000 in
/-- lk_27 -/
theorem lk_27 {p : Program} {e : Env} {s : State} {m : MethodId} {below : List Frame} {meth : Method} {c : Code} {l : Launch} (hst : l.stackTraces = false) {b : Nat} {xs : Nat → Int32} (C0 : lw_At p s m meth c b 4 xs) {A : Nat → Prop} (hA : ∀ q : Nat, s.heap.size ≤ q → A q) (hA2 : ∀ q : Nat, A q → s.heap.size ≤ q) (hbA : ¬ A b) {dC : Nat → ClassId} {dI : Nat → Nat → Nat} {dE : Nat} (h0 a1 a2 w1 p1 o1 : Nat) (cA1 cA2 : ClassId) (m0 l1 l2 o0 : Nat) (hTb : Tb s) (hZ : Zq2 dE A s s.heap) {H : Heap} {locs : List Loc} (hK : va_K (dC, dI) vwCl [(cA1, .object RX0), (cA2, .object RX1)] s) (hP : va_P (dC, dI) vwCl [(h0, .inr (9, [.int 7, .ref a1, .int 0, .ref a2, .int 0, .int 0, .ref w1, .ref p1, .ref o1])), (a1, .inl (cA1, 4, .inr (.inr (.inr (.inr (fun _ => none)))))), (a2, .inl (cA2, 10, .inr (.inr (.inr (.inr (fun _ => none)))))), (m0, .inr (13, [.int 0, .int 7, .int 0, .ref l1, .ref l2])), (l1, .inr (2, [.int 0, .ref dE, .int 0])), (l2, .inr (2, [.int 0, .ref dE, .int 0])), (o0, .inr (10, [.long 0, .double FP.dconst0, .null]))] H) (hD : va_D A [(h0, .inr (9, [.int 7, .ref a1, .int 0, .ref a2, .int 0, .int 0, .ref w1, .ref p1, .ref o1])), (a1, .inl (cA1, 4, .inr (.inr (.inr (.inr (fun _ => none)))))), (a2, .inl (cA2, 10, .inr (.inr (.inr (.inr (fun _ => none)))))), (m0, .inr (13, [.int 0, .int 7, .int 0, .ref l1, .ref l2])), (l1, .inr (2, [.int 0, .ref dE, .int 0])), (l2, .inr (2, [.int 0, .ref dE, .int 0])), (o0, .inr (10, [.long 0, .double FP.dconst0, .null]))]) (hS : va_S A s.heap H locs) {ls : Array Slot} (hl : lv_has ls 9 [(4, .int 0), (3, .ref o0), (2, .ref m0), (1, .ref h0), (0, .ref b)]) : W p l e room_1 s m #[Value.ref b] below meth c H locs 37 517 (lw_Z below #[Value.ref b] s) (F0 m 2035 ls []) := by
  obtain ⟨hx, hb, hr, hml, hown, hts0, hX, hbl, hlocks, hgv⟩ := id C0
  have hts : ∀ w ∈ wsL_law, w.before #[Value.ref b] s = true := lw_words hts0
  refine lv_aload_n hx hb dL_law_2035 rfl (lv_at hl 3 rfl) ?_
  have hPc := hP.sub (ws' := [(h0, .inr (9, [.int 7, .ref a1, .int 0, .ref a2, .int 0, .int 0, .ref w1, .ref p1, .ref o1])), (a1, .inl (cA1, 4, .inr (.inr (.inr (.inr (fun _ => none)))))), (a2, .inl (cA2, 10, .inr (.inr (.inr (.inr (fun _ => none))))))]) [0, 1, 2] rfl
  have hDc := hD.sub (ws' := [(h0, .inr (9, [.int 7, .ref a1, .int 0, .ref a2, .int 0, .int 0, .ref w1, .ref p1, .ref o1])), (a1, .inl (cA1, 4, .inr (.inr (.inr (.inr (fun _ => none)))))), (a2, .inl (cA2, 10, .inr (.inr (.inr (.inr (fun _ => none))))))]) [0, 1, 2] (by decide) rfl
  have hKc := hK.sub (tys' := [(cA1, .object RX0), (cA2, .object RX1)]) [0, 1] rfl
  have hFc := va_free (wc := [(h0, .inr (9, [.int 7, .ref a1, .int 0, .ref a2, .int 0, .int 0, .ref w1, .ref p1, .ref o1])), (a1, .inl (cA1, 4, .inr (.inr (.inr (.inr (fun _ => none)))))), (a2, .inl (cA2, 10, .inr (.inr (.inr (.inr (fun _ => none))))))]) hD hS hA [0, 1, 2] rfl
  refine va_calld (va_runV (As := []) (rest := []) ⟨hx, hb, hml, hown, hts⟩ (c_poise l dC dI dE h0 a1 a2 w1 p1 o1 cA1 cA2 H.size) (cwV 0 hts gL_law_X6_poise rfl rfl rfl (by decide +kernel) ⟨Nat.le_of_ble_eq_true rfl, Nat.le_of_ble_eq_true rfl⟩) ⟨fun a U g mk q => ⟨q.1, PB.blind q.2⟩, va_recv hKc hPc (ci := 9) (q0 := 0) rfl rfl, fun U hU hW => ⟨rfl, PB.call hPc hKc hDc hTb hZ hS hFc hU hW⟩⟩ rfl rfl hl.1 rfl (lv_room (Nat.le_of_ble_eq_true rfl)) dL_law_2036 ⟨Nat.le_of_ble_eq_true rfl, Nat.le_of_ble_eq_true rfl⟩) hS (fun q _ h => hFc q h) hFc (fun r u t H locs ht hvm hw hB hz1 hk1 hS => ?_)
  obtain ⟨hP, hD, hK⟩ := PE.join0 (wc := [(h0, .inr (9, [.int 7, .ref a1, .int 0, .ref a2, .int 0, .int 0, .ref w1, .ref p1, .ref o1])), (a1, .inl (cA1, 4, .inr (.inr (.inr (.inr (fun _ => none)))))), (a2, .inl (cA2, 10, .inr (.inr (.inr (.inr (fun _ => none))))))]) (wr := [(m0, .inr (13, [.int 0, .int 7, .int 0, .ref l1, .ref l2])), (l1, .inr (2, [.int 0, .ref dE, .int 0])), (l2, .inr (2, [.int 0, .ref dE, .int 0])), (o0, .inr (10, [.long 0, .double FP.dconst0, .null]))]) (tr := []) hP hD hK [0, 1, 2] [3, 4, 5, 6] [] rfl rfl rfl (by decide) (by decide) hk1 hFc
  have hP : va_P (dC, dI) vwCl [(m0, .inr (13, [.int 0, .int 7, .int 0, .ref l1, .ref l2])), (l1, .inr (2, [.int 0, .ref dE, .int 0])), (l2, .inr (2, [.int 0, .ref dE, .int 0])), (o0, .inr (10, [.long 0, .double FP.dconst0, .null]))] H := hP
  have hD : va_D A [(m0, .inr (13, [.int 0, .int 7, .int 0, .ref l1, .ref l2])), (l1, .inr (2, [.int 0, .ref dE, .int 0])), (l2, .inr (2, [.int 0, .ref dE, .int 0])), (o0, .inr (10, [.long 0, .double FP.dconst0, .null]))] := hD
  have hK : va_K (dC, dI) vwCl [] s := hK
  subst hw
  refine lv_dstore (lv' := [(5, .double FP.dconst0), (4, .int 0), (3, .ref o0), (2, .ref m0), (1, .ref h0), (0, .ref b)]) hx hb dL_law_2039 hl (by decide) rfl (fun ls hl => ?_)
  refine lv_aload_n hx hb dL_law_2041 rfl (lv_at hl 3 rfl) ?_
  have hPc := hP.sub (ws' := [(m0, .inr (13, [.int 0, .int 7, .int 0, .ref l1, .ref l2])), (l1, .inr (2, [.int 0, .ref dE, .int 0])), (l2, .inr (2, [.int 0, .ref dE, .int 0]))]) [0, 1, 2] rfl
  have hDc := hD.sub (ws' := [(m0, .inr (13, [.int 0, .int 7, .int 0, .ref l1, .ref l2])), (l1, .inr (2, [.int 0, .ref dE, .int 0])), (l2, .inr (2, [.int 0, .ref dE, .int 0]))]) [0, 1, 2] (by decide) rfl
  have hKc := hK.sub (tys' := []) [] rfl
  have hFc := va_free (wc := [(m0, .inr (13, [.int 0, .int 7, .int 0, .ref l1, .ref l2])), (l1, .inr (2, [.int 0, .ref dE, .int 0])), (l2, .inr (2, [.int 0, .ref dE, .int 0]))]) hD hS hA [0, 1, 2] rfl
  refine va_calld (va_runV (As := []) (rest := []) ⟨hx, hb, hml, hown, hts⟩ (c_M_poise l dC dI dE m0 l1 l2 H.size) (cwV 0 hts gL_law_X10_poise rfl rfl rfl (by decide +kernel) ⟨Nat.le_of_ble_eq_true rfl, Nat.le_of_ble_eq_true rfl⟩) ⟨fun a U g mk q => ⟨q.1, PB.blind q.2⟩, va_recv hKc hPc (ci := 13) (q0 := 0) rfl rfl, fun U hU hW => ⟨rfl, PB.call hPc hKc hDc hTb hZ hS hFc hU hW⟩⟩ rfl rfl hl.1 rfl (lv_room (Nat.le_of_ble_eq_true rfl)) dL_law_2042 ⟨Nat.le_of_ble_eq_true rfl, Nat.le_of_ble_eq_true rfl⟩) hS (fun q _ h => hFc q h) hFc (fun r u t H locs ht hvm hw hB hz1 hk1 hS => ?_)
  obtain ⟨hP, hD, hK⟩ := PE.join (wc := [(m0, .inr (13, [.int 0, .int 7, .int 0, .ref l1, .ref l2])), (l1, .inr (2, [.int 0, .ref dE, .int 0])), (l2, .inr (2, [.int 0, .ref dE, .int 0]))]) (wr := [(o0, .inr (10, [.long 0, .double FP.dconst0, .null]))]) (w1 := [(m0, .inr (13, [.int 0, .int 7, .int 0, .ref l1, .ref l2])), (l1, .inr (2, [.int 0, .ref dE, .int 0])), (l2, .inr (2, [.int 0, .ref dE, .int 0]))]) (tr := []) (t1 := []) hP hD hK [0, 1, 2] [3] [] rfl rfl rfl (by decide) (by decide) hk1 hFc ht hvm hB
  have hP : va_P (dC, dI) vwCl [(o0, .inr (10, [.long 0, .double FP.dconst0, .null])), (m0, .inr (13, [.int 0, .int 7, .int 0, .ref l1, .ref l2])), (l1, .inr (2, [.int 0, .ref dE, .int 0])), (l2, .inr (2, [.int 0, .ref dE, .int 0]))] H := hP
  have hD : va_D A [(o0, .inr (10, [.long 0, .double FP.dconst0, .null])), (m0, .inr (13, [.int 0, .int 7, .int 0, .ref l1, .ref l2])), (l1, .inr (2, [.int 0, .ref dE, .int 0])), (l2, .inr (2, [.int 0, .ref dE, .int 0]))] := hD
  have hK : va_K (dC, dI) vwCl [] s := hK
  subst hw
  refine lv_dstore (lv' := [(7, .double FP.dconst0), (5, .double FP.dconst0), (4, .int 0), (3, .ref o0), (2, .ref m0), (1, .ref h0), (0, .ref b)]) hx hb dL_law_2045 hl (by decide) rfl (fun ls hl => ?_)
  refine lv_dload hx hb dL_law_2047 (lv_at hl 1 rfl) ?_
  refine lv_dload hx hb dL_law_2049 (lv_at hl 0 rfl) ?_
  refine lv_dcmp hx hb dL_law_2051 ?_
  refine W.eq (g2 := F0 m 2052 ls [.int 0]) (by rw [law_cmp0]) ?_
  refine lv_if_eq (tgt := 2073) hx hb dL_law_2052 (by decide) (fun _ => ?_) (fun c9 => absurd (by decide) c9)
  refine lv_goto (tgt := 2435) hx hb dL_law_2073 (by decide) ?_
  exact lk_end C0 hA2 hbA hS (Nat.le_of_ble_eq_true rfl) (Nat.le_of_ble_eq_true rfl) (lv_sub hl [2, 6] rfl)

set_option maxHeartbeats 4000000 in
set_option maxRecDepth 100000 in
/-- lk_many_0 -/
theorem lk_many_0 {p : Program} {e : Env} {s : State} {m : MethodId} {below : List Frame} {meth : Method} {c : Code} {l : Launch} (hst : l.stackTraces = false) {b : Nat} {xs : Nat → Int32} (C0 : lw_At p s m meth c b 4 xs) {A : Nat → Prop} (hA : ∀ q : Nat, s.heap.size ≤ q → A q) (hA2 : ∀ q : Nat, A q → s.heap.size ≤ q) (hbA : ¬ A b) {dC : Nat → ClassId} {dI : Nat → Nat → Nat} {dE : Nat} (h0 a1 a2 w1 p1 o1 : Nat) (cA1 cA2 : ClassId) (m0 l1 l2 o0 : Nat) (hk : (xs (Int32.toNatClampNeg 1)) = 0) (hTb : Tb s) (hZ : Zq2 dE A s s.heap) {H : Heap} {locs : List Loc} (hK : va_K (dC, dI) vwCl [(cA1, .object RX0), (cA2, .object RX1)] s) (hP : va_P (dC, dI) vwCl [(h0, .inr (9, [.int 7, .ref a1, .int 0, .ref a2, .int 0, .int 0, .ref w1, .ref p1, .ref o1])), (a1, .inl (cA1, 4, .inr (.inr (.inr (.inr (fun _ => none)))))), (a2, .inl (cA2, 10, .inr (.inr (.inr (.inr (fun _ => none)))))), (m0, .inr (13, [.int 0, .int 7, .int 0, .ref l1, .ref l2])), (l1, .inr (2, [.int 0, .ref dE, .int 0])), (l2, .inr (2, [.int 0, .ref dE, .int 0])), (o0, .inr (10, [.long 0, .double FP.dconst0, .null]))] H) (hD : va_D A [(h0, .inr (9, [.int 7, .ref a1, .int 0, .ref a2, .int 0, .int 0, .ref w1, .ref p1, .ref o1])), (a1, .inl (cA1, 4, .inr (.inr (.inr (.inr (fun _ => none)))))), (a2, .inl (cA2, 10, .inr (.inr (.inr (.inr (fun _ => none)))))), (m0, .inr (13, [.int 0, .int 7, .int 0, .ref l1, .ref l2])), (l1, .inr (2, [.int 0, .ref dE, .int 0])), (l2, .inr (2, [.int 0, .ref dE, .int 0])), (o0, .inr (10, [.long 0, .double FP.dconst0, .null]))]) (hS : va_S A s.heap H locs) {ls : Array Slot} (hl : lv_has ls 9 [(4, .int 0), (3, .ref o0), (2, .ref m0), (1, .ref h0), (0, .ref b)]) : W p l e room_1 s m #[Value.ref b] below meth c H locs 37 517 (lw_Z below #[Value.ref b] s) (F0 m 2076 ls []) := by
  obtain ⟨hx, hb, hr, hml, hown, hts0, hX, hbl, hlocks, hgv⟩ := id C0
  have hts : ∀ w ∈ wsL_law, w.before #[Value.ref b] s = true := lw_words hts0
  refine lv_aload_n hx hb dL_law_2076 rfl (lv_at hl 3 rfl) ?_
  refine lv_aload_n hx hb dL_law_2077 rfl (lv_at hl 4 rfl) ?_
  refine lv_iload hx hb dL_law_2078 (lv_at hl 0 rfl) ?_
  refine lv_iconst (v := 1) hx hb dL_law_2080 (by decide) ?_
  refine lv_iadd hx hb dL_law_2081 ?_
  refine lv_topi (fun f1 ef1 => ?_)
  obtain rfl : f1 = 1 := ef1.trans (by decide)
  refine va_sld hx hb hX hbl hbA hS (by unfold vp_in; decide) dL_law_2082 ?_
  refine W.eq (g2 := F0 m 2083 ls [.int 0, .ref h0]) (by rw [hk]) ?_
  refine lv_aload_n hx hb dL_law_2083 rfl (lv_at hl 1 rfl) ?_
  have hPc := hP.sub (ws' := [(h0, .inr (9, [.int 7, .ref a1, .int 0, .ref a2, .int 0, .int 0, .ref w1, .ref p1, .ref o1])), (a1, .inl (cA1, 4, .inr (.inr (.inr (.inr (fun _ => none)))))), (a2, .inl (cA2, 10, .inr (.inr (.inr (.inr (fun _ => none)))))), (o0, .inr (10, [.long 0, .double FP.dconst0, .null]))]) [0, 1, 2, 6] rfl
  have hDc := hD.sub (ws' := [(h0, .inr (9, [.int 7, .ref a1, .int 0, .ref a2, .int 0, .int 0, .ref w1, .ref p1, .ref o1])), (a1, .inl (cA1, 4, .inr (.inr (.inr (.inr (fun _ => none)))))), (a2, .inl (cA2, 10, .inr (.inr (.inr (.inr (fun _ => none)))))), (o0, .inr (10, [.long 0, .double FP.dconst0, .null]))]) [0, 1, 2, 6] (by decide) rfl
  have hKc := hK.sub (tys' := [(cA1, .object RX0), (cA2, .object RX1)]) [0, 1] rfl
  have hFc := va_free (wc := [(h0, .inr (9, [.int 7, .ref a1, .int 0, .ref a2, .int 0, .int 0, .ref w1, .ref p1, .ref o1])), (a1, .inl (cA1, 4, .inr (.inr (.inr (.inr (fun _ => none)))))), (a2, .inl (cA2, 10, .inr (.inr (.inr (.inr (fun _ => none)))))), (o0, .inr (10, [.long 0, .double FP.dconst0, .null]))]) hD hS hA [0, 1, 2, 6] rfl
  refine va_calli (vx_runSW (As := [.ref h0, .int 0, .ref o0]) (rest := []) ⟨hx, hb, hml, hown, hts⟩ (c_L_many_0 l dC dI dE h0 a1 a2 w1 p1 o1 cA1 cA2 o0 H.size) (vx_cwSW 3 hts gL_law_L_many rfl rfl rfl (by decide +kernel) ⟨Nat.le_of_ble_eq_true rfl, Nat.le_of_ble_eq_true rfl⟩) ⟨fun a U g mk q => ⟨q.1, PB.blind q.2⟩, fun U hU hW => ⟨rfl, PB.call hPc hKc hDc hTb hZ hS hFc hU hW⟩⟩ rfl rfl hl.1 rfl (lv_room (Nat.le_of_ble_eq_true rfl)) dL_law_2084 ⟨Nat.le_of_ble_eq_true rfl, Nat.le_of_ble_eq_true rfl⟩) hS (fun q _ h => hFc q h) hFc (fun r u t H locs ht hvm hw hB hz1 hk1 hS => ?_)
  obtain ⟨hP, hD, hK⟩ := PE.join (wc := [(h0, .inr (9, [.int 7, .ref a1, .int 0, .ref a2, .int 0, .int 0, .ref w1, .ref p1, .ref o1])), (a1, .inl (cA1, 4, .inr (.inr (.inr (.inr (fun _ => none)))))), (a2, .inl (cA2, 10, .inr (.inr (.inr (.inr (fun _ => none)))))), (o0, .inr (10, [.long 0, .double FP.dconst0, .null]))]) (wr := [(m0, .inr (13, [.int 0, .int 7, .int 0, .ref l1, .ref l2])), (l1, .inr (2, [.int 0, .ref dE, .int 0])), (l2, .inr (2, [.int 0, .ref dE, .int 0]))]) (w1 := [(o0, .inr (10, [.long 7, .double FP.dconst0, .null]))]) (tr := []) (t1 := []) hP hD hK [0, 1, 2, 6] [3, 4, 5] [] rfl rfl rfl (by decide) (by decide) hk1 hFc ht hvm hB
  have hP : va_P (dC, dI) vwCl [(m0, .inr (13, [.int 0, .int 7, .int 0, .ref l1, .ref l2])), (l1, .inr (2, [.int 0, .ref dE, .int 0])), (l2, .inr (2, [.int 0, .ref dE, .int 0])), (o0, .inr (10, [.long 7, .double FP.dconst0, .null]))] H := hP
  have hD : va_D A [(m0, .inr (13, [.int 0, .int 7, .int 0, .ref l1, .ref l2])), (l1, .inr (2, [.int 0, .ref dE, .int 0])), (l2, .inr (2, [.int 0, .ref dE, .int 0])), (o0, .inr (10, [.long 7, .double FP.dconst0, .null]))] := hD
  have hK : va_K (dC, dI) vwCl [] s := hK
  subst hw
  refine lv_istore (lv' := [(5, .int 0), (4, .int 0), (3, .ref o0), (2, .ref m0), (1, .ref h0), (0, .ref b)]) hx hb dL_law_2087 hl (by decide) rfl (fun ls hl => ?_)
  refine lv_aload_n hx hb dL_law_2089 rfl (lv_at hl 3 rfl) ?_
  refine lv_aload_n hx hb dL_law_2090 rfl (lv_at hl 5 rfl) ?_
  refine lv_iload hx hb dL_law_2091 (lv_at hl 1 rfl) ?_
  refine lv_iconst (v := 1) hx hb dL_law_2093 (by decide) ?_
  refine lv_iadd hx hb dL_law_2094 ?_
  refine lv_topi (fun f2 ef2 => ?_)
  obtain rfl : f2 = 1 := ef2.trans (by decide)
  refine va_sld hx hb hX hbl hbA hS (by unfold vp_in; decide) dL_law_2095 ?_
  refine W.eq (g2 := F0 m 2096 ls [.int 0, .ref m0]) (by rw [hk]) ?_
  have hPc := hP.sub (ws' := [(m0, .inr (13, [.int 0, .int 7, .int 0, .ref l1, .ref l2])), (l1, .inr (2, [.int 0, .ref dE, .int 0])), (l2, .inr (2, [.int 0, .ref dE, .int 0]))]) [0, 1, 2] rfl
  have hDc := hD.sub (ws' := [(m0, .inr (13, [.int 0, .int 7, .int 0, .ref l1, .ref l2])), (l1, .inr (2, [.int 0, .ref dE, .int 0])), (l2, .inr (2, [.int 0, .ref dE, .int 0]))]) [0, 1, 2] (by decide) rfl
  have hKc := hK.sub (tys' := []) [] rfl
  have hFc := va_free (wc := [(m0, .inr (13, [.int 0, .int 7, .int 0, .ref l1, .ref l2])), (l1, .inr (2, [.int 0, .ref dE, .int 0])), (l2, .inr (2, [.int 0, .ref dE, .int 0]))]) hD hS hA [0, 1, 2] rfl
  refine va_calli (va_runV (As := [.int 0]) (rest := []) ⟨hx, hb, hml, hown, hts⟩ (c_M_many_0 l dC dI dE m0 l1 l2 H.size) (cwV 1 hts gL_law_X10_many rfl rfl rfl (by decide +kernel) ⟨Nat.le_of_ble_eq_true rfl, Nat.le_of_ble_eq_true rfl⟩) ⟨fun a U g mk q => ⟨q.1, PB.blind q.2⟩, va_recv hKc hPc (ci := 13) (q0 := 0) rfl rfl, fun U hU hW => ⟨rfl, PB.call hPc hKc hDc hTb hZ hS hFc hU hW⟩⟩ rfl rfl hl.1 rfl (lv_room (Nat.le_of_ble_eq_true rfl)) dL_law_2096 ⟨Nat.le_of_ble_eq_true rfl, Nat.le_of_ble_eq_true rfl⟩) hS (fun q _ h => hFc q h) hFc (fun r u t H locs ht hvm hw hB hz1 hk1 hS => ?_)
  obtain ⟨hP, hD, hK⟩ := PE.join (wc := [(m0, .inr (13, [.int 0, .int 7, .int 0, .ref l1, .ref l2])), (l1, .inr (2, [.int 0, .ref dE, .int 0])), (l2, .inr (2, [.int 0, .ref dE, .int 0]))]) (wr := [(o0, .inr (10, [.long 7, .double FP.dconst0, .null]))]) (w1 := [(m0, .inr (13, [.int 0, .int 7, .int 0, .ref l1, .ref l2])), (l1, .inr (2, [.int 0, .ref dE, .int 0])), (l2, .inr (2, [.int 0, .ref dE, .int 0]))]) (tr := []) (t1 := []) hP hD hK [0, 1, 2] [3] [] rfl rfl rfl (by decide) (by decide) hk1 hFc ht hvm hB
  have hP : va_P (dC, dI) vwCl [(o0, .inr (10, [.long 7, .double FP.dconst0, .null])), (m0, .inr (13, [.int 0, .int 7, .int 0, .ref l1, .ref l2])), (l1, .inr (2, [.int 0, .ref dE, .int 0])), (l2, .inr (2, [.int 0, .ref dE, .int 0]))] H := hP
  have hD : va_D A [(o0, .inr (10, [.long 7, .double FP.dconst0, .null])), (m0, .inr (13, [.int 0, .int 7, .int 0, .ref l1, .ref l2])), (l1, .inr (2, [.int 0, .ref dE, .int 0])), (l2, .inr (2, [.int 0, .ref dE, .int 0]))] := hD
  have hK : va_K (dC, dI) vwCl [] s := hK
  subst hw
  refine W.widen (k := 38) (n := 525) (by omega) (by omega) ?_
  refine lv_istore (lv' := [(6, .int 7), (5, .int 0), (4, .int 0), (3, .ref o0), (2, .ref m0), (1, .ref h0), (0, .ref b)]) hx hb dL_law_2099 hl (by decide) rfl (fun ls hl => ?_)
  refine lv_aload_n hx hb dL_law_2101 rfl (lv_at hl 4 rfl) ?_
  have hPc := hP.sub (ws' := [(m0, .inr (13, [.int 0, .int 7, .int 0, .ref l1, .ref l2]))]) [1] rfl
  have hDc := hD.sub (ws' := [(m0, .inr (13, [.int 0, .int 7, .int 0, .ref l1, .ref l2]))]) [1] (by decide) rfl
  have hKc := hK.sub (tys' := []) [] rfl
  have hFc := va_free (wc := [(m0, .inr (13, [.int 0, .int 7, .int 0, .ref l1, .ref l2]))]) hD hS hA [1] rfl
  refine va_calli (va_runV (As := []) (rest := []) ⟨hx, hb, hml, hown, hts⟩ (c_M_thrown l dC dI dE m0 0 7 0 l1 l2 H.size) (cwV 0 hts gL_law_X10_thrown rfl rfl rfl (by decide +kernel) ⟨Nat.le_of_ble_eq_true rfl, Nat.le_of_ble_eq_true rfl⟩) ⟨fun a U g mk q => ⟨q.1, PB.blind q.2⟩, va_recv hKc hPc (ci := 13) (q0 := 0) rfl rfl, fun U hU hW => ⟨rfl, PB.call hPc hKc hDc hTb hZ hS hFc hU hW⟩⟩ rfl rfl hl.1 rfl (lv_room (Nat.le_of_ble_eq_true rfl)) dL_law_2102 ⟨Nat.le_of_ble_eq_true rfl, Nat.le_of_ble_eq_true rfl⟩) hS (fun q _ h => hFc q h) hFc (fun r u t H locs ht hvm hw hB hz1 hk1 hS => ?_)
  obtain ⟨hP, hD, hK⟩ := PE.join0 (wc := [(m0, .inr (13, [.int 0, .int 7, .int 0, .ref l1, .ref l2]))]) (wr := [(o0, .inr (10, [.long 7, .double FP.dconst0, .null])), (l1, .inr (2, [.int 0, .ref dE, .int 0])), (l2, .inr (2, [.int 0, .ref dE, .int 0]))]) (tr := []) hP hD hK [1] [0, 2, 3] [] rfl rfl rfl (by decide) (by decide) hk1 hFc
  have hP : va_P (dC, dI) vwCl [(o0, .inr (10, [.long 7, .double FP.dconst0, .null])), (l1, .inr (2, [.int 0, .ref dE, .int 0])), (l2, .inr (2, [.int 0, .ref dE, .int 0]))] H := hP
  have hD : va_D A [(o0, .inr (10, [.long 7, .double FP.dconst0, .null])), (l1, .inr (2, [.int 0, .ref dE, .int 0])), (l2, .inr (2, [.int 0, .ref dE, .int 0]))] := hD
  have hK : va_K (dC, dI) vwCl [] s := hK
  subst hw
  refine lv_iload hx hb dL_law_2105 (lv_at hl 1 rfl) ?_
  refine lv_icmp_eq (tgt := 2112) hx hb dL_law_2107 (by decide) (fun _ => ?_) (fun c9 => absurd (by decide) c9)
  refine lv_iload hx hb dL_law_2112 (lv_at hl 1 rfl) ?_
  refine lv_if_ne (tgt := 2130) hx hb dL_law_2114 (by decide) (fun c9 => absurd (by decide) c9) (fun _ => ?_)
  refine lv_aload_n hx hb dL_law_2117 rfl (lv_at hl 3 rfl) ?_
  refine va_getN (D := (dC, dI)) (ci := 10) (v := .long 7) (C := RX7) (T := TX7) (N := 3) hx hb hts inlX7 hown hK hP 0 rfl rfl 0 (by decide) (va_Nw.use rfl (Tb_f1 hTb)) (fun _ h9 => h9) rfl dL_law_2118 ?_
  refine lv_iload hx hb dL_law_2121 (lv_at hl 0 rfl) ?_
  refine lv_i2l (v := 7) hx hb dL_law_2123 (by decide) ?_
  refine W.lcmp hx hb dL_law_2124 ?_
  refine lv_topi (fun f3 ef3 => ?_)
  obtain rfl : f3 = 0 := ef3.trans (by decide)
  refine lv_if_eq (tgt := 2130) hx hb dL_law_2125 (by decide) (fun _ => ?_) (fun c9 => absurd (by decide) c9)
  refine lv_goto (tgt := 2435) hx hb dL_law_2130 (by decide) ?_
  exact lk_end C0 hA2 hbA hS (Nat.le_of_ble_eq_true rfl) (Nat.le_of_ble_eq_true rfl) (lv_sub hl [2, 6] rfl)

set_option maxHeartbeats 4000000 in
set_option maxRecDepth 100000 in
/-- lk_many_1 -/
theorem lk_many_1 {p : Program} {e : Env} {s : State} {m : MethodId} {below : List Frame} {meth : Method} {c : Code} {l : Launch} (hst : l.stackTraces = false) {b : Nat} {xs : Nat → Int32} (C0 : lw_At p s m meth c b 4 xs) {A : Nat → Prop} (hA : ∀ q : Nat, s.heap.size ≤ q → A q) (hA2 : ∀ q : Nat, A q → s.heap.size ≤ q) (hbA : ¬ A b) {dC : Nat → ClassId} {dI : Nat → Nat → Nat} {dE : Nat} (h0 a1 a2 w1 p1 o1 : Nat) (cA1 cA2 : ClassId) (m0 l1 l2 o0 : Nat) (hk : (xs (Int32.toNatClampNeg 1)) = 1) (hTb : Tb s) (hZ : Zq2 dE A s s.heap) {H : Heap} {locs : List Loc} (hK : va_K (dC, dI) vwCl [(cA1, .object RX0), (cA2, .object RX1)] s) (hP : va_P (dC, dI) vwCl [(h0, .inr (9, [.int 7, .ref a1, .int 0, .ref a2, .int 0, .int 0, .ref w1, .ref p1, .ref o1])), (a1, .inl (cA1, 4, .inr (.inr (.inr (.inr (fun _ => none)))))), (a2, .inl (cA2, 10, .inr (.inr (.inr (.inr (fun _ => none)))))), (m0, .inr (13, [.int 0, .int 7, .int 0, .ref l1, .ref l2])), (l1, .inr (2, [.int 0, .ref dE, .int 0])), (l2, .inr (2, [.int 0, .ref dE, .int 0])), (o0, .inr (10, [.long 0, .double FP.dconst0, .null]))] H) (hD : va_D A [(h0, .inr (9, [.int 7, .ref a1, .int 0, .ref a2, .int 0, .int 0, .ref w1, .ref p1, .ref o1])), (a1, .inl (cA1, 4, .inr (.inr (.inr (.inr (fun _ => none)))))), (a2, .inl (cA2, 10, .inr (.inr (.inr (.inr (fun _ => none)))))), (m0, .inr (13, [.int 0, .int 7, .int 0, .ref l1, .ref l2])), (l1, .inr (2, [.int 0, .ref dE, .int 0])), (l2, .inr (2, [.int 0, .ref dE, .int 0])), (o0, .inr (10, [.long 0, .double FP.dconst0, .null]))]) (hS : va_S A s.heap H locs) {ls : Array Slot} (hl : lv_has ls 9 [(4, .int 0), (3, .ref o0), (2, .ref m0), (1, .ref h0), (0, .ref b)]) : W p l e room_1 s m #[Value.ref b] below meth c H locs 37 517 (lw_Z below #[Value.ref b] s) (F0 m 2076 ls []) := by
  obtain ⟨hx, hb, hr, hml, hown, hts0, hX, hbl, hlocks, hgv⟩ := id C0
  have hts : ∀ w ∈ wsL_law, w.before #[Value.ref b] s = true := lw_words hts0
  refine lv_aload_n hx hb dL_law_2076 rfl (lv_at hl 3 rfl) ?_
  refine lv_aload_n hx hb dL_law_2077 rfl (lv_at hl 4 rfl) ?_
  refine lv_iload hx hb dL_law_2078 (lv_at hl 0 rfl) ?_
  refine lv_iconst (v := 1) hx hb dL_law_2080 (by decide) ?_
  refine lv_iadd hx hb dL_law_2081 ?_
  refine lv_topi (fun f1 ef1 => ?_)
  obtain rfl : f1 = 1 := ef1.trans (by decide)
  refine va_sld hx hb hX hbl hbA hS (by unfold vp_in; decide) dL_law_2082 ?_
  refine W.eq (g2 := F0 m 2083 ls [.int 1, .ref h0]) (by rw [hk]) ?_
  refine lv_aload_n hx hb dL_law_2083 rfl (lv_at hl 1 rfl) ?_
  have hPc := hP.sub (ws' := [(h0, .inr (9, [.int 7, .ref a1, .int 0, .ref a2, .int 0, .int 0, .ref w1, .ref p1, .ref o1])), (a1, .inl (cA1, 4, .inr (.inr (.inr (.inr (fun _ => none)))))), (a2, .inl (cA2, 10, .inr (.inr (.inr (.inr (fun _ => none)))))), (o0, .inr (10, [.long 0, .double FP.dconst0, .null]))]) [0, 1, 2, 6] rfl
  have hDc := hD.sub (ws' := [(h0, .inr (9, [.int 7, .ref a1, .int 0, .ref a2, .int 0, .int 0, .ref w1, .ref p1, .ref o1])), (a1, .inl (cA1, 4, .inr (.inr (.inr (.inr (fun _ => none)))))), (a2, .inl (cA2, 10, .inr (.inr (.inr (.inr (fun _ => none)))))), (o0, .inr (10, [.long 0, .double FP.dconst0, .null]))]) [0, 1, 2, 6] (by decide) rfl
  have hKc := hK.sub (tys' := [(cA1, .object RX0), (cA2, .object RX1)]) [0, 1] rfl
  have hFc := va_free (wc := [(h0, .inr (9, [.int 7, .ref a1, .int 0, .ref a2, .int 0, .int 0, .ref w1, .ref p1, .ref o1])), (a1, .inl (cA1, 4, .inr (.inr (.inr (.inr (fun _ => none)))))), (a2, .inl (cA2, 10, .inr (.inr (.inr (.inr (fun _ => none)))))), (o0, .inr (10, [.long 0, .double FP.dconst0, .null]))]) hD hS hA [0, 1, 2, 6] rfl
  refine va_calli (vx_runSW (As := [.ref h0, .int 1, .ref o0]) (rest := []) ⟨hx, hb, hml, hown, hts⟩ (c_L_many_1 l dC dI dE h0 a1 a2 w1 p1 o1 cA1 cA2 o0 H.size) (vx_cwSW 3 hts gL_law_L_many rfl rfl rfl (by decide +kernel) ⟨Nat.le_of_ble_eq_true rfl, Nat.le_of_ble_eq_true rfl⟩) ⟨fun a U g mk q => ⟨q.1, PB.blind q.2⟩, fun U hU hW => ⟨rfl, PB.call hPc hKc hDc hTb hZ hS hFc hU hW⟩⟩ rfl rfl hl.1 rfl (lv_room (Nat.le_of_ble_eq_true rfl)) dL_law_2084 ⟨Nat.le_of_ble_eq_true rfl, Nat.le_of_ble_eq_true rfl⟩) hS (fun q _ h => hFc q h) hFc (fun r u t H locs ht hvm hw hB hz1 hk1 hS => ?_)
  obtain ⟨hP, hD, hK⟩ := PE.join (wc := [(h0, .inr (9, [.int 7, .ref a1, .int 0, .ref a2, .int 0, .int 0, .ref w1, .ref p1, .ref o1])), (a1, .inl (cA1, 4, .inr (.inr (.inr (.inr (fun _ => none)))))), (a2, .inl (cA2, 10, .inr (.inr (.inr (.inr (fun _ => none)))))), (o0, .inr (10, [.long 0, .double FP.dconst0, .null]))]) (wr := [(m0, .inr (13, [.int 0, .int 7, .int 0, .ref l1, .ref l2])), (l1, .inr (2, [.int 0, .ref dE, .int 0])), (l2, .inr (2, [.int 0, .ref dE, .int 0]))]) (w1 := [(o0, .inr (10, [.long 0, .double FP.dconst0, .null]))]) (tr := []) (t1 := []) hP hD hK [0, 1, 2, 6] [3, 4, 5] [] rfl rfl rfl (by decide) (by decide) hk1 hFc ht hvm hB
  have hP : va_P (dC, dI) vwCl [(m0, .inr (13, [.int 0, .int 7, .int 0, .ref l1, .ref l2])), (l1, .inr (2, [.int 0, .ref dE, .int 0])), (l2, .inr (2, [.int 0, .ref dE, .int 0])), (o0, .inr (10, [.long 0, .double FP.dconst0, .null]))] H := hP
  have hD : va_D A [(m0, .inr (13, [.int 0, .int 7, .int 0, .ref l1, .ref l2])), (l1, .inr (2, [.int 0, .ref dE, .int 0])), (l2, .inr (2, [.int 0, .ref dE, .int 0])), (o0, .inr (10, [.long 0, .double FP.dconst0, .null]))] := hD
  have hK : va_K (dC, dI) vwCl [] s := hK
  subst hw
  refine lv_istore (lv' := [(5, .int 0), (4, .int 0), (3, .ref o0), (2, .ref m0), (1, .ref h0), (0, .ref b)]) hx hb dL_law_2087 hl (by decide) rfl (fun ls hl => ?_)
  refine lv_aload_n hx hb dL_law_2089 rfl (lv_at hl 3 rfl) ?_
  refine lv_aload_n hx hb dL_law_2090 rfl (lv_at hl 5 rfl) ?_
  refine lv_iload hx hb dL_law_2091 (lv_at hl 1 rfl) ?_
  refine lv_iconst (v := 1) hx hb dL_law_2093 (by decide) ?_
  refine lv_iadd hx hb dL_law_2094 ?_
  refine lv_topi (fun f2 ef2 => ?_)
  obtain rfl : f2 = 1 := ef2.trans (by decide)
  refine va_sld hx hb hX hbl hbA hS (by unfold vp_in; decide) dL_law_2095 ?_
  refine W.eq (g2 := F0 m 2096 ls [.int 1, .ref m0]) (by rw [hk]) ?_
  have hPc := hP.sub (ws' := [(m0, .inr (13, [.int 0, .int 7, .int 0, .ref l1, .ref l2])), (l1, .inr (2, [.int 0, .ref dE, .int 0])), (l2, .inr (2, [.int 0, .ref dE, .int 0]))]) [0, 1, 2] rfl
  have hDc := hD.sub (ws' := [(m0, .inr (13, [.int 0, .int 7, .int 0, .ref l1, .ref l2])), (l1, .inr (2, [.int 0, .ref dE, .int 0])), (l2, .inr (2, [.int 0, .ref dE, .int 0]))]) [0, 1, 2] (by decide) rfl
  have hKc := hK.sub (tys' := []) [] rfl
  have hFc := va_free (wc := [(m0, .inr (13, [.int 0, .int 7, .int 0, .ref l1, .ref l2])), (l1, .inr (2, [.int 0, .ref dE, .int 0])), (l2, .inr (2, [.int 0, .ref dE, .int 0]))]) hD hS hA [0, 1, 2] rfl
  refine va_calli (va_runV (As := [.int 1]) (rest := []) ⟨hx, hb, hml, hown, hts⟩ (c_M_many_1 l dC dI dE m0 l1 l2 H.size) (cwV 1 hts gL_law_X10_many rfl rfl rfl (by decide +kernel) ⟨Nat.le_of_ble_eq_true rfl, Nat.le_of_ble_eq_true rfl⟩) ⟨fun a U g mk q => ⟨q.1, PB.blind q.2⟩, va_recv hKc hPc (ci := 13) (q0 := 0) rfl rfl, fun U hU hW => ⟨rfl, PB.call hPc hKc hDc hTb hZ hS hFc hU hW⟩⟩ rfl rfl hl.1 rfl (lv_room (Nat.le_of_ble_eq_true rfl)) dL_law_2096 ⟨Nat.le_of_ble_eq_true rfl, Nat.le_of_ble_eq_true rfl⟩) hS (fun q _ h => hFc q h) hFc (fun r u t H locs ht hvm hw hB hz1 hk1 hS => ?_)
  obtain ⟨hP, hD, hK⟩ := PE.join (wc := [(m0, .inr (13, [.int 0, .int 7, .int 0, .ref l1, .ref l2])), (l1, .inr (2, [.int 0, .ref dE, .int 0])), (l2, .inr (2, [.int 0, .ref dE, .int 0]))]) (wr := [(o0, .inr (10, [.long 0, .double FP.dconst0, .null]))]) (w1 := [(m0, .inr (13, [.int 0, .int 7, .int 0, .ref l1, .ref l2])), (l1, .inr (2, [.int 0, .ref dE, .int 0])), (l2, .inr (2, [.int 0, .ref dE, .int 0]))]) (tr := []) (t1 := []) hP hD hK [0, 1, 2] [3] [] rfl rfl rfl (by decide) (by decide) hk1 hFc ht hvm hB
  have hP : va_P (dC, dI) vwCl [(o0, .inr (10, [.long 0, .double FP.dconst0, .null])), (m0, .inr (13, [.int 0, .int 7, .int 0, .ref l1, .ref l2])), (l1, .inr (2, [.int 0, .ref dE, .int 0])), (l2, .inr (2, [.int 0, .ref dE, .int 0]))] H := hP
  have hD : va_D A [(o0, .inr (10, [.long 0, .double FP.dconst0, .null])), (m0, .inr (13, [.int 0, .int 7, .int 0, .ref l1, .ref l2])), (l1, .inr (2, [.int 0, .ref dE, .int 0])), (l2, .inr (2, [.int 0, .ref dE, .int 0]))] := hD
  have hK : va_K (dC, dI) vwCl [] s := hK
  subst hw
  refine W.widen (k := 38) (n := 525) (by omega) (by omega) ?_
  refine lv_istore (lv' := [(6, .int 0), (5, .int 0), (4, .int 0), (3, .ref o0), (2, .ref m0), (1, .ref h0), (0, .ref b)]) hx hb dL_law_2099 hl (by decide) rfl (fun ls hl => ?_)
  refine lv_aload_n hx hb dL_law_2101 rfl (lv_at hl 4 rfl) ?_
  have hPc := hP.sub (ws' := [(m0, .inr (13, [.int 0, .int 7, .int 0, .ref l1, .ref l2]))]) [1] rfl
  have hDc := hD.sub (ws' := [(m0, .inr (13, [.int 0, .int 7, .int 0, .ref l1, .ref l2]))]) [1] (by decide) rfl
  have hKc := hK.sub (tys' := []) [] rfl
  have hFc := va_free (wc := [(m0, .inr (13, [.int 0, .int 7, .int 0, .ref l1, .ref l2]))]) hD hS hA [1] rfl
  refine va_calli (va_runV (As := []) (rest := []) ⟨hx, hb, hml, hown, hts⟩ (c_M_thrown l dC dI dE m0 0 7 0 l1 l2 H.size) (cwV 0 hts gL_law_X10_thrown rfl rfl rfl (by decide +kernel) ⟨Nat.le_of_ble_eq_true rfl, Nat.le_of_ble_eq_true rfl⟩) ⟨fun a U g mk q => ⟨q.1, PB.blind q.2⟩, va_recv hKc hPc (ci := 13) (q0 := 0) rfl rfl, fun U hU hW => ⟨rfl, PB.call hPc hKc hDc hTb hZ hS hFc hU hW⟩⟩ rfl rfl hl.1 rfl (lv_room (Nat.le_of_ble_eq_true rfl)) dL_law_2102 ⟨Nat.le_of_ble_eq_true rfl, Nat.le_of_ble_eq_true rfl⟩) hS (fun q _ h => hFc q h) hFc (fun r u t H locs ht hvm hw hB hz1 hk1 hS => ?_)
  obtain ⟨hP, hD, hK⟩ := PE.join0 (wc := [(m0, .inr (13, [.int 0, .int 7, .int 0, .ref l1, .ref l2]))]) (wr := [(o0, .inr (10, [.long 0, .double FP.dconst0, .null])), (l1, .inr (2, [.int 0, .ref dE, .int 0])), (l2, .inr (2, [.int 0, .ref dE, .int 0]))]) (tr := []) hP hD hK [1] [0, 2, 3] [] rfl rfl rfl (by decide) (by decide) hk1 hFc
  have hP : va_P (dC, dI) vwCl [(o0, .inr (10, [.long 0, .double FP.dconst0, .null])), (l1, .inr (2, [.int 0, .ref dE, .int 0])), (l2, .inr (2, [.int 0, .ref dE, .int 0]))] H := hP
  have hD : va_D A [(o0, .inr (10, [.long 0, .double FP.dconst0, .null])), (l1, .inr (2, [.int 0, .ref dE, .int 0])), (l2, .inr (2, [.int 0, .ref dE, .int 0]))] := hD
  have hK : va_K (dC, dI) vwCl [] s := hK
  subst hw
  refine lv_iload hx hb dL_law_2105 (lv_at hl 1 rfl) ?_
  refine lv_icmp_eq (tgt := 2112) hx hb dL_law_2107 (by decide) (fun _ => ?_) (fun c9 => absurd (by decide) c9)
  refine lv_iload hx hb dL_law_2112 (lv_at hl 1 rfl) ?_
  refine lv_if_ne (tgt := 2130) hx hb dL_law_2114 (by decide) (fun c9 => absurd (by decide) c9) (fun _ => ?_)
  refine lv_aload_n hx hb dL_law_2117 rfl (lv_at hl 3 rfl) ?_
  refine va_getN (D := (dC, dI)) (ci := 10) (v := .long 0) (C := RX7) (T := TX7) (N := 3) hx hb hts inlX7 hown hK hP 0 rfl rfl 0 (by decide) (va_Nw.use rfl (Tb_f1 hTb)) (fun _ h9 => h9) rfl dL_law_2118 ?_
  refine lv_iload hx hb dL_law_2121 (lv_at hl 0 rfl) ?_
  refine lv_i2l (v := 0) hx hb dL_law_2123 (by decide) ?_
  refine W.lcmp hx hb dL_law_2124 ?_
  refine lv_topi (fun f3 ef3 => ?_)
  obtain rfl : f3 = 0 := ef3.trans (by decide)
  refine lv_if_eq (tgt := 2130) hx hb dL_law_2125 (by decide) (fun _ => ?_) (fun c9 => absurd (by decide) c9)
  refine lv_goto (tgt := 2435) hx hb dL_law_2130 (by decide) ?_
  exact lk_end C0 hA2 hbA hS (Nat.le_of_ble_eq_true rfl) (Nat.le_of_ble_eq_true rfl) (lv_sub hl [2, 6] rfl)

set_option maxHeartbeats 4000000 in
set_option maxRecDepth 100000 in
/-- lk_many_2 -/
theorem lk_many_2 {p : Program} {e : Env} {s : State} {m : MethodId} {below : List Frame} {meth : Method} {c : Code} {l : Launch} (hst : l.stackTraces = false) {b : Nat} {xs : Nat → Int32} (C0 : lw_At p s m meth c b 4 xs) {A : Nat → Prop} (hA : ∀ q : Nat, s.heap.size ≤ q → A q) (hA2 : ∀ q : Nat, A q → s.heap.size ≤ q) (hbA : ¬ A b) {dC : Nat → ClassId} {dI : Nat → Nat → Nat} {dE : Nat} (h0 a1 a2 w1 p1 o1 : Nat) (cA1 cA2 : ClassId) (m0 l1 l2 o0 : Nat) (hk : (xs (Int32.toNatClampNeg 1)) = 2) (hTb : Tb s) (hZ : Zq2 dE A s s.heap) {H : Heap} {locs : List Loc} (hK : va_K (dC, dI) vwCl [(cA1, .object RX0), (cA2, .object RX1)] s) (hP : va_P (dC, dI) vwCl [(h0, .inr (9, [.int 7, .ref a1, .int 0, .ref a2, .int 0, .int 0, .ref w1, .ref p1, .ref o1])), (a1, .inl (cA1, 4, .inr (.inr (.inr (.inr (fun _ => none)))))), (a2, .inl (cA2, 10, .inr (.inr (.inr (.inr (fun _ => none)))))), (m0, .inr (13, [.int 0, .int 7, .int 0, .ref l1, .ref l2])), (l1, .inr (2, [.int 0, .ref dE, .int 0])), (l2, .inr (2, [.int 0, .ref dE, .int 0])), (o0, .inr (10, [.long 0, .double FP.dconst0, .null]))] H) (hD : va_D A [(h0, .inr (9, [.int 7, .ref a1, .int 0, .ref a2, .int 0, .int 0, .ref w1, .ref p1, .ref o1])), (a1, .inl (cA1, 4, .inr (.inr (.inr (.inr (fun _ => none)))))), (a2, .inl (cA2, 10, .inr (.inr (.inr (.inr (fun _ => none)))))), (m0, .inr (13, [.int 0, .int 7, .int 0, .ref l1, .ref l2])), (l1, .inr (2, [.int 0, .ref dE, .int 0])), (l2, .inr (2, [.int 0, .ref dE, .int 0])), (o0, .inr (10, [.long 0, .double FP.dconst0, .null]))]) (hS : va_S A s.heap H locs) {ls : Array Slot} (hl : lv_has ls 9 [(4, .int 0), (3, .ref o0), (2, .ref m0), (1, .ref h0), (0, .ref b)]) : W p l e room_1 s m #[Value.ref b] below meth c H locs 37 517 (lw_Z below #[Value.ref b] s) (F0 m 2076 ls []) := by
  obtain ⟨hx, hb, hr, hml, hown, hts0, hX, hbl, hlocks, hgv⟩ := id C0
  have hts : ∀ w ∈ wsL_law, w.before #[Value.ref b] s = true := lw_words hts0
  refine lv_aload_n hx hb dL_law_2076 rfl (lv_at hl 3 rfl) ?_
  refine lv_aload_n hx hb dL_law_2077 rfl (lv_at hl 4 rfl) ?_
  refine lv_iload hx hb dL_law_2078 (lv_at hl 0 rfl) ?_
  refine lv_iconst (v := 1) hx hb dL_law_2080 (by decide) ?_
  refine lv_iadd hx hb dL_law_2081 ?_
  refine lv_topi (fun f1 ef1 => ?_)
  obtain rfl : f1 = 1 := ef1.trans (by decide)
  refine va_sld hx hb hX hbl hbA hS (by unfold vp_in; decide) dL_law_2082 ?_
  refine W.eq (g2 := F0 m 2083 ls [.int 2, .ref h0]) (by rw [hk]) ?_
  refine lv_aload_n hx hb dL_law_2083 rfl (lv_at hl 1 rfl) ?_
  have hPc := hP.sub (ws' := [(h0, .inr (9, [.int 7, .ref a1, .int 0, .ref a2, .int 0, .int 0, .ref w1, .ref p1, .ref o1])), (a1, .inl (cA1, 4, .inr (.inr (.inr (.inr (fun _ => none)))))), (a2, .inl (cA2, 10, .inr (.inr (.inr (.inr (fun _ => none)))))), (o0, .inr (10, [.long 0, .double FP.dconst0, .null]))]) [0, 1, 2, 6] rfl
  have hDc := hD.sub (ws' := [(h0, .inr (9, [.int 7, .ref a1, .int 0, .ref a2, .int 0, .int 0, .ref w1, .ref p1, .ref o1])), (a1, .inl (cA1, 4, .inr (.inr (.inr (.inr (fun _ => none)))))), (a2, .inl (cA2, 10, .inr (.inr (.inr (.inr (fun _ => none)))))), (o0, .inr (10, [.long 0, .double FP.dconst0, .null]))]) [0, 1, 2, 6] (by decide) rfl
  have hKc := hK.sub (tys' := [(cA1, .object RX0), (cA2, .object RX1)]) [0, 1] rfl
  have hFc := va_free (wc := [(h0, .inr (9, [.int 7, .ref a1, .int 0, .ref a2, .int 0, .int 0, .ref w1, .ref p1, .ref o1])), (a1, .inl (cA1, 4, .inr (.inr (.inr (.inr (fun _ => none)))))), (a2, .inl (cA2, 10, .inr (.inr (.inr (.inr (fun _ => none)))))), (o0, .inr (10, [.long 0, .double FP.dconst0, .null]))]) hD hS hA [0, 1, 2, 6] rfl
  refine va_calli (vx_runSW (As := [.ref h0, .int 2, .ref o0]) (rest := []) ⟨hx, hb, hml, hown, hts⟩ (c_L_many_2 l dC dI dE h0 a1 a2 w1 p1 o1 cA1 cA2 o0 H.size) (vx_cwSW 3 hts gL_law_L_many rfl rfl rfl (by decide +kernel) ⟨Nat.le_of_ble_eq_true rfl, Nat.le_of_ble_eq_true rfl⟩) ⟨fun a U g mk q => ⟨q.1, PB.blind q.2⟩, fun U hU hW => ⟨rfl, PB.call hPc hKc hDc hTb hZ hS hFc hU hW⟩⟩ rfl rfl hl.1 rfl (lv_room (Nat.le_of_ble_eq_true rfl)) dL_law_2084 ⟨Nat.le_of_ble_eq_true rfl, Nat.le_of_ble_eq_true rfl⟩) hS (fun q _ h => hFc q h) hFc (fun r u t H locs ht hvm hw hB hz1 hk1 hS => ?_)
  obtain ⟨hP, hD, hK⟩ := PE.join (wc := [(h0, .inr (9, [.int 7, .ref a1, .int 0, .ref a2, .int 0, .int 0, .ref w1, .ref p1, .ref o1])), (a1, .inl (cA1, 4, .inr (.inr (.inr (.inr (fun _ => none)))))), (a2, .inl (cA2, 10, .inr (.inr (.inr (.inr (fun _ => none)))))), (o0, .inr (10, [.long 0, .double FP.dconst0, .null]))]) (wr := [(m0, .inr (13, [.int 0, .int 7, .int 0, .ref l1, .ref l2])), (l1, .inr (2, [.int 0, .ref dE, .int 0])), (l2, .inr (2, [.int 0, .ref dE, .int 0]))]) (w1 := [(o0, .inr (10, [.long 0, .double FP.dconst0, .null]))]) (tr := []) (t1 := []) hP hD hK [0, 1, 2, 6] [3, 4, 5] [] rfl rfl rfl (by decide) (by decide) hk1 hFc ht hvm hB
  have hP : va_P (dC, dI) vwCl [(m0, .inr (13, [.int 0, .int 7, .int 0, .ref l1, .ref l2])), (l1, .inr (2, [.int 0, .ref dE, .int 0])), (l2, .inr (2, [.int 0, .ref dE, .int 0])), (o0, .inr (10, [.long 0, .double FP.dconst0, .null]))] H := hP
  have hD : va_D A [(m0, .inr (13, [.int 0, .int 7, .int 0, .ref l1, .ref l2])), (l1, .inr (2, [.int 0, .ref dE, .int 0])), (l2, .inr (2, [.int 0, .ref dE, .int 0])), (o0, .inr (10, [.long 0, .double FP.dconst0, .null]))] := hD
  have hK : va_K (dC, dI) vwCl [] s := hK
  subst hw
  refine lv_istore (lv' := [(5, .int 0), (4, .int 0), (3, .ref o0), (2, .ref m0), (1, .ref h0), (0, .ref b)]) hx hb dL_law_2087 hl (by decide) rfl (fun ls hl => ?_)
  refine lv_aload_n hx hb dL_law_2089 rfl (lv_at hl 3 rfl) ?_
  refine lv_aload_n hx hb dL_law_2090 rfl (lv_at hl 5 rfl) ?_
  refine lv_iload hx hb dL_law_2091 (lv_at hl 1 rfl) ?_
  refine lv_iconst (v := 1) hx hb dL_law_2093 (by decide) ?_
  refine lv_iadd hx hb dL_law_2094 ?_
  refine lv_topi (fun f2 ef2 => ?_)
  obtain rfl : f2 = 1 := ef2.trans (by decide)
  refine va_sld hx hb hX hbl hbA hS (by unfold vp_in; decide) dL_law_2095 ?_
  refine W.eq (g2 := F0 m 2096 ls [.int 2, .ref m0]) (by rw [hk]) ?_
  have hPc := hP.sub (ws' := [(m0, .inr (13, [.int 0, .int 7, .int 0, .ref l1, .ref l2])), (l1, .inr (2, [.int 0, .ref dE, .int 0])), (l2, .inr (2, [.int 0, .ref dE, .int 0]))]) [0, 1, 2] rfl
  have hDc := hD.sub (ws' := [(m0, .inr (13, [.int 0, .int 7, .int 0, .ref l1, .ref l2])), (l1, .inr (2, [.int 0, .ref dE, .int 0])), (l2, .inr (2, [.int 0, .ref dE, .int 0]))]) [0, 1, 2] (by decide) rfl
  have hKc := hK.sub (tys' := []) [] rfl
  have hFc := va_free (wc := [(m0, .inr (13, [.int 0, .int 7, .int 0, .ref l1, .ref l2])), (l1, .inr (2, [.int 0, .ref dE, .int 0])), (l2, .inr (2, [.int 0, .ref dE, .int 0]))]) hD hS hA [0, 1, 2] rfl
  refine va_calli (va_runV (As := [.int 2]) (rest := []) ⟨hx, hb, hml, hown, hts⟩ (c_M_many_2 l dC dI dE m0 l1 l2 H.size) (cwV 1 hts gL_law_X10_many rfl rfl rfl (by decide +kernel) ⟨Nat.le_of_ble_eq_true rfl, Nat.le_of_ble_eq_true rfl⟩) ⟨fun a U g mk q => ⟨q.1, PB.blind q.2⟩, va_recv hKc hPc (ci := 13) (q0 := 0) rfl rfl, fun U hU hW => ⟨rfl, PB.call hPc hKc hDc hTb hZ hS hFc hU hW⟩⟩ rfl rfl hl.1 rfl (lv_room (Nat.le_of_ble_eq_true rfl)) dL_law_2096 ⟨Nat.le_of_ble_eq_true rfl, Nat.le_of_ble_eq_true rfl⟩) hS (fun q _ h => hFc q h) hFc (fun r u t H locs ht hvm hw hB hz1 hk1 hS => ?_)
  obtain ⟨hP, hD, hK⟩ := PE.join (wc := [(m0, .inr (13, [.int 0, .int 7, .int 0, .ref l1, .ref l2])), (l1, .inr (2, [.int 0, .ref dE, .int 0])), (l2, .inr (2, [.int 0, .ref dE, .int 0]))]) (wr := [(o0, .inr (10, [.long 0, .double FP.dconst0, .null]))]) (w1 := [(m0, .inr (13, [.int 0, .int 7, .int 0, .ref l1, .ref l2])), (l1, .inr (2, [.int 0, .ref dE, .int 0])), (l2, .inr (2, [.int 0, .ref dE, .int 0]))]) (tr := []) (t1 := []) hP hD hK [0, 1, 2] [3] [] rfl rfl rfl (by decide) (by decide) hk1 hFc ht hvm hB
  have hP : va_P (dC, dI) vwCl [(o0, .inr (10, [.long 0, .double FP.dconst0, .null])), (m0, .inr (13, [.int 0, .int 7, .int 0, .ref l1, .ref l2])), (l1, .inr (2, [.int 0, .ref dE, .int 0])), (l2, .inr (2, [.int 0, .ref dE, .int 0]))] H := hP
  have hD : va_D A [(o0, .inr (10, [.long 0, .double FP.dconst0, .null])), (m0, .inr (13, [.int 0, .int 7, .int 0, .ref l1, .ref l2])), (l1, .inr (2, [.int 0, .ref dE, .int 0])), (l2, .inr (2, [.int 0, .ref dE, .int 0]))] := hD
  have hK : va_K (dC, dI) vwCl [] s := hK
  subst hw
  refine W.widen (k := 38) (n := 525) (by omega) (by omega) ?_
  refine lv_istore (lv' := [(6, .int 0), (5, .int 0), (4, .int 0), (3, .ref o0), (2, .ref m0), (1, .ref h0), (0, .ref b)]) hx hb dL_law_2099 hl (by decide) rfl (fun ls hl => ?_)
  refine lv_aload_n hx hb dL_law_2101 rfl (lv_at hl 4 rfl) ?_
  have hPc := hP.sub (ws' := [(m0, .inr (13, [.int 0, .int 7, .int 0, .ref l1, .ref l2]))]) [1] rfl
  have hDc := hD.sub (ws' := [(m0, .inr (13, [.int 0, .int 7, .int 0, .ref l1, .ref l2]))]) [1] (by decide) rfl
  have hKc := hK.sub (tys' := []) [] rfl
  have hFc := va_free (wc := [(m0, .inr (13, [.int 0, .int 7, .int 0, .ref l1, .ref l2]))]) hD hS hA [1] rfl
  refine va_calli (va_runV (As := []) (rest := []) ⟨hx, hb, hml, hown, hts⟩ (c_M_thrown l dC dI dE m0 0 7 0 l1 l2 H.size) (cwV 0 hts gL_law_X10_thrown rfl rfl rfl (by decide +kernel) ⟨Nat.le_of_ble_eq_true rfl, Nat.le_of_ble_eq_true rfl⟩) ⟨fun a U g mk q => ⟨q.1, PB.blind q.2⟩, va_recv hKc hPc (ci := 13) (q0 := 0) rfl rfl, fun U hU hW => ⟨rfl, PB.call hPc hKc hDc hTb hZ hS hFc hU hW⟩⟩ rfl rfl hl.1 rfl (lv_room (Nat.le_of_ble_eq_true rfl)) dL_law_2102 ⟨Nat.le_of_ble_eq_true rfl, Nat.le_of_ble_eq_true rfl⟩) hS (fun q _ h => hFc q h) hFc (fun r u t H locs ht hvm hw hB hz1 hk1 hS => ?_)
  obtain ⟨hP, hD, hK⟩ := PE.join0 (wc := [(m0, .inr (13, [.int 0, .int 7, .int 0, .ref l1, .ref l2]))]) (wr := [(o0, .inr (10, [.long 0, .double FP.dconst0, .null])), (l1, .inr (2, [.int 0, .ref dE, .int 0])), (l2, .inr (2, [.int 0, .ref dE, .int 0]))]) (tr := []) hP hD hK [1] [0, 2, 3] [] rfl rfl rfl (by decide) (by decide) hk1 hFc
  have hP : va_P (dC, dI) vwCl [(o0, .inr (10, [.long 0, .double FP.dconst0, .null])), (l1, .inr (2, [.int 0, .ref dE, .int 0])), (l2, .inr (2, [.int 0, .ref dE, .int 0]))] H := hP
  have hD : va_D A [(o0, .inr (10, [.long 0, .double FP.dconst0, .null])), (l1, .inr (2, [.int 0, .ref dE, .int 0])), (l2, .inr (2, [.int 0, .ref dE, .int 0]))] := hD
  have hK : va_K (dC, dI) vwCl [] s := hK
  subst hw
  refine lv_iload hx hb dL_law_2105 (lv_at hl 1 rfl) ?_
  refine lv_icmp_eq (tgt := 2112) hx hb dL_law_2107 (by decide) (fun _ => ?_) (fun c9 => absurd (by decide) c9)
  refine lv_iload hx hb dL_law_2112 (lv_at hl 1 rfl) ?_
  refine lv_if_ne (tgt := 2130) hx hb dL_law_2114 (by decide) (fun c9 => absurd (by decide) c9) (fun _ => ?_)
  refine lv_aload_n hx hb dL_law_2117 rfl (lv_at hl 3 rfl) ?_
  refine va_getN (D := (dC, dI)) (ci := 10) (v := .long 0) (C := RX7) (T := TX7) (N := 3) hx hb hts inlX7 hown hK hP 0 rfl rfl 0 (by decide) (va_Nw.use rfl (Tb_f1 hTb)) (fun _ h9 => h9) rfl dL_law_2118 ?_
  refine lv_iload hx hb dL_law_2121 (lv_at hl 0 rfl) ?_
  refine lv_i2l (v := 0) hx hb dL_law_2123 (by decide) ?_
  refine W.lcmp hx hb dL_law_2124 ?_
  refine lv_topi (fun f3 ef3 => ?_)
  obtain rfl : f3 = 0 := ef3.trans (by decide)
  refine lv_if_eq (tgt := 2130) hx hb dL_law_2125 (by decide) (fun _ => ?_) (fun c9 => absurd (by decide) c9)
  refine lv_goto (tgt := 2435) hx hb dL_law_2130 (by decide) ?_
  exact lk_end C0 hA2 hbA hS (Nat.le_of_ble_eq_true rfl) (Nat.le_of_ble_eq_true rfl) (lv_sub hl [2, 6] rfl)

set_option maxHeartbeats 4000000 in
set_option maxRecDepth 100000 in
/-- lk_many_3 -/
theorem lk_many_3 {p : Program} {e : Env} {s : State} {m : MethodId} {below : List Frame} {meth : Method} {c : Code} {l : Launch} (hst : l.stackTraces = false) {b : Nat} {xs : Nat → Int32} (C0 : lw_At p s m meth c b 4 xs) {A : Nat → Prop} (hA : ∀ q : Nat, s.heap.size ≤ q → A q) (hA2 : ∀ q : Nat, A q → s.heap.size ≤ q) (hbA : ¬ A b) {dC : Nat → ClassId} {dI : Nat → Nat → Nat} {dE : Nat} (h0 a1 a2 w1 p1 o1 : Nat) (cA1 cA2 : ClassId) (m0 l1 l2 o0 : Nat) (hk : (xs (Int32.toNatClampNeg 1)) = 3) (hTb : Tb s) (hZ : Zq2 dE A s s.heap) {H : Heap} {locs : List Loc} (hK : va_K (dC, dI) vwCl [(cA1, .object RX0), (cA2, .object RX1)] s) (hP : va_P (dC, dI) vwCl [(h0, .inr (9, [.int 7, .ref a1, .int 0, .ref a2, .int 0, .int 0, .ref w1, .ref p1, .ref o1])), (a1, .inl (cA1, 4, .inr (.inr (.inr (.inr (fun _ => none)))))), (a2, .inl (cA2, 10, .inr (.inr (.inr (.inr (fun _ => none)))))), (m0, .inr (13, [.int 0, .int 7, .int 0, .ref l1, .ref l2])), (l1, .inr (2, [.int 0, .ref dE, .int 0])), (l2, .inr (2, [.int 0, .ref dE, .int 0])), (o0, .inr (10, [.long 0, .double FP.dconst0, .null]))] H) (hD : va_D A [(h0, .inr (9, [.int 7, .ref a1, .int 0, .ref a2, .int 0, .int 0, .ref w1, .ref p1, .ref o1])), (a1, .inl (cA1, 4, .inr (.inr (.inr (.inr (fun _ => none)))))), (a2, .inl (cA2, 10, .inr (.inr (.inr (.inr (fun _ => none)))))), (m0, .inr (13, [.int 0, .int 7, .int 0, .ref l1, .ref l2])), (l1, .inr (2, [.int 0, .ref dE, .int 0])), (l2, .inr (2, [.int 0, .ref dE, .int 0])), (o0, .inr (10, [.long 0, .double FP.dconst0, .null]))]) (hS : va_S A s.heap H locs) {ls : Array Slot} (hl : lv_has ls 9 [(4, .int 0), (3, .ref o0), (2, .ref m0), (1, .ref h0), (0, .ref b)]) : W p l e room_1 s m #[Value.ref b] below meth c H locs 37 517 (lw_Z below #[Value.ref b] s) (F0 m 2076 ls []) := by
  obtain ⟨hx, hb, hr, hml, hown, hts0, hX, hbl, hlocks, hgv⟩ := id C0
  have hts : ∀ w ∈ wsL_law, w.before #[Value.ref b] s = true := lw_words hts0
  refine lv_aload_n hx hb dL_law_2076 rfl (lv_at hl 3 rfl) ?_
  refine lv_aload_n hx hb dL_law_2077 rfl (lv_at hl 4 rfl) ?_
  refine lv_iload hx hb dL_law_2078 (lv_at hl 0 rfl) ?_
  refine lv_iconst (v := 1) hx hb dL_law_2080 (by decide) ?_
  refine lv_iadd hx hb dL_law_2081 ?_
  refine lv_topi (fun f1 ef1 => ?_)
  obtain rfl : f1 = 1 := ef1.trans (by decide)
  refine va_sld hx hb hX hbl hbA hS (by unfold vp_in; decide) dL_law_2082 ?_
  refine W.eq (g2 := F0 m 2083 ls [.int 3, .ref h0]) (by rw [hk]) ?_
  refine lv_aload_n hx hb dL_law_2083 rfl (lv_at hl 1 rfl) ?_
  have hPc := hP.sub (ws' := [(h0, .inr (9, [.int 7, .ref a1, .int 0, .ref a2, .int 0, .int 0, .ref w1, .ref p1, .ref o1])), (a1, .inl (cA1, 4, .inr (.inr (.inr (.inr (fun _ => none)))))), (a2, .inl (cA2, 10, .inr (.inr (.inr (.inr (fun _ => none)))))), (o0, .inr (10, [.long 0, .double FP.dconst0, .null]))]) [0, 1, 2, 6] rfl
  have hDc := hD.sub (ws' := [(h0, .inr (9, [.int 7, .ref a1, .int 0, .ref a2, .int 0, .int 0, .ref w1, .ref p1, .ref o1])), (a1, .inl (cA1, 4, .inr (.inr (.inr (.inr (fun _ => none)))))), (a2, .inl (cA2, 10, .inr (.inr (.inr (.inr (fun _ => none)))))), (o0, .inr (10, [.long 0, .double FP.dconst0, .null]))]) [0, 1, 2, 6] (by decide) rfl
  have hKc := hK.sub (tys' := [(cA1, .object RX0), (cA2, .object RX1)]) [0, 1] rfl
  have hFc := va_free (wc := [(h0, .inr (9, [.int 7, .ref a1, .int 0, .ref a2, .int 0, .int 0, .ref w1, .ref p1, .ref o1])), (a1, .inl (cA1, 4, .inr (.inr (.inr (.inr (fun _ => none)))))), (a2, .inl (cA2, 10, .inr (.inr (.inr (.inr (fun _ => none)))))), (o0, .inr (10, [.long 0, .double FP.dconst0, .null]))]) hD hS hA [0, 1, 2, 6] rfl
  refine va_calli (vx_runSW (As := [.ref h0, .int 3, .ref o0]) (rest := []) ⟨hx, hb, hml, hown, hts⟩ (c_L_many_3 l dC dI dE h0 a1 a2 w1 p1 o1 cA1 cA2 o0 H.size) (vx_cwSW 3 hts gL_law_L_many rfl rfl rfl (by decide +kernel) ⟨Nat.le_of_ble_eq_true rfl, Nat.le_of_ble_eq_true rfl⟩) ⟨fun a U g mk q => ⟨q.1, PB.blind q.2⟩, fun U hU hW => ⟨rfl, PB.call hPc hKc hDc hTb hZ hS hFc hU hW⟩⟩ rfl rfl hl.1 rfl (lv_room (Nat.le_of_ble_eq_true rfl)) dL_law_2084 ⟨Nat.le_of_ble_eq_true rfl, Nat.le_of_ble_eq_true rfl⟩) hS (fun q _ h => hFc q h) hFc (fun r u t H locs ht hvm hw hB hz1 hk1 hS => ?_)
  obtain ⟨hP, hD, hK⟩ := PE.join (wc := [(h0, .inr (9, [.int 7, .ref a1, .int 0, .ref a2, .int 0, .int 0, .ref w1, .ref p1, .ref o1])), (a1, .inl (cA1, 4, .inr (.inr (.inr (.inr (fun _ => none)))))), (a2, .inl (cA2, 10, .inr (.inr (.inr (.inr (fun _ => none)))))), (o0, .inr (10, [.long 0, .double FP.dconst0, .null]))]) (wr := [(m0, .inr (13, [.int 0, .int 7, .int 0, .ref l1, .ref l2])), (l1, .inr (2, [.int 0, .ref dE, .int 0])), (l2, .inr (2, [.int 0, .ref dE, .int 0]))]) (w1 := [(o0, .inr (10, [.long 0, .double FP.dconst0, .null]))]) (tr := []) (t1 := []) hP hD hK [0, 1, 2, 6] [3, 4, 5] [] rfl rfl rfl (by decide) (by decide) hk1 hFc ht hvm hB
  have hP : va_P (dC, dI) vwCl [(m0, .inr (13, [.int 0, .int 7, .int 0, .ref l1, .ref l2])), (l1, .inr (2, [.int 0, .ref dE, .int 0])), (l2, .inr (2, [.int 0, .ref dE, .int 0])), (o0, .inr (10, [.long 0, .double FP.dconst0, .null]))] H := hP
  have hD : va_D A [(m0, .inr (13, [.int 0, .int 7, .int 0, .ref l1, .ref l2])), (l1, .inr (2, [.int 0, .ref dE, .int 0])), (l2, .inr (2, [.int 0, .ref dE, .int 0])), (o0, .inr (10, [.long 0, .double FP.dconst0, .null]))] := hD
  have hK : va_K (dC, dI) vwCl [] s := hK
  subst hw
  refine lv_istore (lv' := [(5, .int 0), (4, .int 0), (3, .ref o0), (2, .ref m0), (1, .ref h0), (0, .ref b)]) hx hb dL_law_2087 hl (by decide) rfl (fun ls hl => ?_)
  refine lv_aload_n hx hb dL_law_2089 rfl (lv_at hl 3 rfl) ?_
  refine lv_aload_n hx hb dL_law_2090 rfl (lv_at hl 5 rfl) ?_
  refine lv_iload hx hb dL_law_2091 (lv_at hl 1 rfl) ?_
  refine lv_iconst (v := 1) hx hb dL_law_2093 (by decide) ?_
  refine lv_iadd hx hb dL_law_2094 ?_
  refine lv_topi (fun f2 ef2 => ?_)
  obtain rfl : f2 = 1 := ef2.trans (by decide)
  refine va_sld hx hb hX hbl hbA hS (by unfold vp_in; decide) dL_law_2095 ?_
  refine W.eq (g2 := F0 m 2096 ls [.int 3, .ref m0]) (by rw [hk]) ?_
  have hPc := hP.sub (ws' := [(m0, .inr (13, [.int 0, .int 7, .int 0, .ref l1, .ref l2])), (l1, .inr (2, [.int 0, .ref dE, .int 0])), (l2, .inr (2, [.int 0, .ref dE, .int 0]))]) [0, 1, 2] rfl
  have hDc := hD.sub (ws' := [(m0, .inr (13, [.int 0, .int 7, .int 0, .ref l1, .ref l2])), (l1, .inr (2, [.int 0, .ref dE, .int 0])), (l2, .inr (2, [.int 0, .ref dE, .int 0]))]) [0, 1, 2] (by decide) rfl
  have hKc := hK.sub (tys' := []) [] rfl
  have hFc := va_free (wc := [(m0, .inr (13, [.int 0, .int 7, .int 0, .ref l1, .ref l2])), (l1, .inr (2, [.int 0, .ref dE, .int 0])), (l2, .inr (2, [.int 0, .ref dE, .int 0]))]) hD hS hA [0, 1, 2] rfl
  refine va_calli (va_runV (As := [.int 3]) (rest := []) ⟨hx, hb, hml, hown, hts⟩ (c_M_many_3 l dC dI dE m0 l1 l2 H.size) (cwV 1 hts gL_law_X10_many rfl rfl rfl (by decide +kernel) ⟨Nat.le_of_ble_eq_true rfl, Nat.le_of_ble_eq_true rfl⟩) ⟨fun a U g mk q => ⟨q.1, PB.blind q.2⟩, va_recv hKc hPc (ci := 13) (q0 := 0) rfl rfl, fun U hU hW => ⟨rfl, PB.call hPc hKc hDc hTb hZ hS hFc hU hW⟩⟩ rfl rfl hl.1 rfl (lv_room (Nat.le_of_ble_eq_true rfl)) dL_law_2096 ⟨Nat.le_of_ble_eq_true rfl, Nat.le_of_ble_eq_true rfl⟩) hS (fun q _ h => hFc q h) hFc (fun r u t H locs ht hvm hw hB hz1 hk1 hS => ?_)
  obtain ⟨hP, hD, hK⟩ := PE.join (wc := [(m0, .inr (13, [.int 0, .int 7, .int 0, .ref l1, .ref l2])), (l1, .inr (2, [.int 0, .ref dE, .int 0])), (l2, .inr (2, [.int 0, .ref dE, .int 0]))]) (wr := [(o0, .inr (10, [.long 0, .double FP.dconst0, .null]))]) (w1 := [(m0, .inr (13, [.int 0, .int 7, .int 0, .ref l1, .ref l2])), (l1, .inr (2, [.int 0, .ref dE, .int 0])), (l2, .inr (2, [.int 0, .ref dE, .int 0]))]) (tr := []) (t1 := []) hP hD hK [0, 1, 2] [3] [] rfl rfl rfl (by decide) (by decide) hk1 hFc ht hvm hB
  have hP : va_P (dC, dI) vwCl [(o0, .inr (10, [.long 0, .double FP.dconst0, .null])), (m0, .inr (13, [.int 0, .int 7, .int 0, .ref l1, .ref l2])), (l1, .inr (2, [.int 0, .ref dE, .int 0])), (l2, .inr (2, [.int 0, .ref dE, .int 0]))] H := hP
  have hD : va_D A [(o0, .inr (10, [.long 0, .double FP.dconst0, .null])), (m0, .inr (13, [.int 0, .int 7, .int 0, .ref l1, .ref l2])), (l1, .inr (2, [.int 0, .ref dE, .int 0])), (l2, .inr (2, [.int 0, .ref dE, .int 0]))] := hD
  have hK : va_K (dC, dI) vwCl [] s := hK
  subst hw
  refine W.widen (k := 38) (n := 525) (by omega) (by omega) ?_
  refine lv_istore (lv' := [(6, .int 0), (5, .int 0), (4, .int 0), (3, .ref o0), (2, .ref m0), (1, .ref h0), (0, .ref b)]) hx hb dL_law_2099 hl (by decide) rfl (fun ls hl => ?_)
  refine lv_aload_n hx hb dL_law_2101 rfl (lv_at hl 4 rfl) ?_
  have hPc := hP.sub (ws' := [(m0, .inr (13, [.int 0, .int 7, .int 0, .ref l1, .ref l2]))]) [1] rfl
  have hDc := hD.sub (ws' := [(m0, .inr (13, [.int 0, .int 7, .int 0, .ref l1, .ref l2]))]) [1] (by decide) rfl
  have hKc := hK.sub (tys' := []) [] rfl
  have hFc := va_free (wc := [(m0, .inr (13, [.int 0, .int 7, .int 0, .ref l1, .ref l2]))]) hD hS hA [1] rfl
  refine va_calli (va_runV (As := []) (rest := []) ⟨hx, hb, hml, hown, hts⟩ (c_M_thrown l dC dI dE m0 0 7 0 l1 l2 H.size) (cwV 0 hts gL_law_X10_thrown rfl rfl rfl (by decide +kernel) ⟨Nat.le_of_ble_eq_true rfl, Nat.le_of_ble_eq_true rfl⟩) ⟨fun a U g mk q => ⟨q.1, PB.blind q.2⟩, va_recv hKc hPc (ci := 13) (q0 := 0) rfl rfl, fun U hU hW => ⟨rfl, PB.call hPc hKc hDc hTb hZ hS hFc hU hW⟩⟩ rfl rfl hl.1 rfl (lv_room (Nat.le_of_ble_eq_true rfl)) dL_law_2102 ⟨Nat.le_of_ble_eq_true rfl, Nat.le_of_ble_eq_true rfl⟩) hS (fun q _ h => hFc q h) hFc (fun r u t H locs ht hvm hw hB hz1 hk1 hS => ?_)
  obtain ⟨hP, hD, hK⟩ := PE.join0 (wc := [(m0, .inr (13, [.int 0, .int 7, .int 0, .ref l1, .ref l2]))]) (wr := [(o0, .inr (10, [.long 0, .double FP.dconst0, .null])), (l1, .inr (2, [.int 0, .ref dE, .int 0])), (l2, .inr (2, [.int 0, .ref dE, .int 0]))]) (tr := []) hP hD hK [1] [0, 2, 3] [] rfl rfl rfl (by decide) (by decide) hk1 hFc
  have hP : va_P (dC, dI) vwCl [(o0, .inr (10, [.long 0, .double FP.dconst0, .null])), (l1, .inr (2, [.int 0, .ref dE, .int 0])), (l2, .inr (2, [.int 0, .ref dE, .int 0]))] H := hP
  have hD : va_D A [(o0, .inr (10, [.long 0, .double FP.dconst0, .null])), (l1, .inr (2, [.int 0, .ref dE, .int 0])), (l2, .inr (2, [.int 0, .ref dE, .int 0]))] := hD
  have hK : va_K (dC, dI) vwCl [] s := hK
  subst hw
  refine lv_iload hx hb dL_law_2105 (lv_at hl 1 rfl) ?_
  refine lv_icmp_eq (tgt := 2112) hx hb dL_law_2107 (by decide) (fun _ => ?_) (fun c9 => absurd (by decide) c9)
  refine lv_iload hx hb dL_law_2112 (lv_at hl 1 rfl) ?_
  refine lv_if_ne (tgt := 2130) hx hb dL_law_2114 (by decide) (fun c9 => absurd (by decide) c9) (fun _ => ?_)
  refine lv_aload_n hx hb dL_law_2117 rfl (lv_at hl 3 rfl) ?_
  refine va_getN (D := (dC, dI)) (ci := 10) (v := .long 0) (C := RX7) (T := TX7) (N := 3) hx hb hts inlX7 hown hK hP 0 rfl rfl 0 (by decide) (va_Nw.use rfl (Tb_f1 hTb)) (fun _ h9 => h9) rfl dL_law_2118 ?_
  refine lv_iload hx hb dL_law_2121 (lv_at hl 0 rfl) ?_
  refine lv_i2l (v := 0) hx hb dL_law_2123 (by decide) ?_
  refine W.lcmp hx hb dL_law_2124 ?_
  refine lv_topi (fun f3 ef3 => ?_)
  obtain rfl : f3 = 0 := ef3.trans (by decide)
  refine lv_if_eq (tgt := 2130) hx hb dL_law_2125 (by decide) (fun _ => ?_) (fun c9 => absurd (by decide) c9)
  refine lv_goto (tgt := 2435) hx hb dL_law_2130 (by decide) ?_
  exact lk_end C0 hA2 hbA hS (Nat.le_of_ble_eq_true rfl) (Nat.le_of_ble_eq_true rfl) (lv_sub hl [2, 6] rfl)

set_option maxHeartbeats 4000000 in
set_option maxRecDepth 100000 in
/-- lk_many_4 -/
theorem lk_many_4 {p : Program} {e : Env} {s : State} {m : MethodId} {below : List Frame} {meth : Method} {c : Code} {l : Launch} (hst : l.stackTraces = false) {b : Nat} {xs : Nat → Int32} (C0 : lw_At p s m meth c b 4 xs) {A : Nat → Prop} (hA : ∀ q : Nat, s.heap.size ≤ q → A q) (hA2 : ∀ q : Nat, A q → s.heap.size ≤ q) (hbA : ¬ A b) {dC : Nat → ClassId} {dI : Nat → Nat → Nat} {dE : Nat} (h0 a1 a2 w1 p1 o1 : Nat) (cA1 cA2 : ClassId) (m0 l1 l2 o0 : Nat) (hk : (xs (Int32.toNatClampNeg 1)) = 4) (hTb : Tb s) (hZ : Zq2 dE A s s.heap) {H : Heap} {locs : List Loc} (hK : va_K (dC, dI) vwCl [(cA1, .object RX0), (cA2, .object RX1)] s) (hP : va_P (dC, dI) vwCl [(h0, .inr (9, [.int 7, .ref a1, .int 0, .ref a2, .int 0, .int 0, .ref w1, .ref p1, .ref o1])), (a1, .inl (cA1, 4, .inr (.inr (.inr (.inr (fun _ => none)))))), (a2, .inl (cA2, 10, .inr (.inr (.inr (.inr (fun _ => none)))))), (m0, .inr (13, [.int 0, .int 7, .int 0, .ref l1, .ref l2])), (l1, .inr (2, [.int 0, .ref dE, .int 0])), (l2, .inr (2, [.int 0, .ref dE, .int 0])), (o0, .inr (10, [.long 0, .double FP.dconst0, .null]))] H) (hD : va_D A [(h0, .inr (9, [.int 7, .ref a1, .int 0, .ref a2, .int 0, .int 0, .ref w1, .ref p1, .ref o1])), (a1, .inl (cA1, 4, .inr (.inr (.inr (.inr (fun _ => none)))))), (a2, .inl (cA2, 10, .inr (.inr (.inr (.inr (fun _ => none)))))), (m0, .inr (13, [.int 0, .int 7, .int 0, .ref l1, .ref l2])), (l1, .inr (2, [.int 0, .ref dE, .int 0])), (l2, .inr (2, [.int 0, .ref dE, .int 0])), (o0, .inr (10, [.long 0, .double FP.dconst0, .null]))]) (hS : va_S A s.heap H locs) {ls : Array Slot} (hl : lv_has ls 9 [(4, .int 0), (3, .ref o0), (2, .ref m0), (1, .ref h0), (0, .ref b)]) : W p l e room_1 s m #[Value.ref b] below meth c H locs 37 517 (lw_Z below #[Value.ref b] s) (F0 m 2076 ls []) := by
  obtain ⟨hx, hb, hr, hml, hown, hts0, hX, hbl, hlocks, hgv⟩ := id C0
  have hts : ∀ w ∈ wsL_law, w.before #[Value.ref b] s = true := lw_words hts0
  refine lv_aload_n hx hb dL_law_2076 rfl (lv_at hl 3 rfl) ?_
  refine lv_aload_n hx hb dL_law_2077 rfl (lv_at hl 4 rfl) ?_
  refine lv_iload hx hb dL_law_2078 (lv_at hl 0 rfl) ?_
  refine lv_iconst (v := 1) hx hb dL_law_2080 (by decide) ?_
  refine lv_iadd hx hb dL_law_2081 ?_
  refine lv_topi (fun f1 ef1 => ?_)
  obtain rfl : f1 = 1 := ef1.trans (by decide)
  refine va_sld hx hb hX hbl hbA hS (by unfold vp_in; decide) dL_law_2082 ?_
  refine W.eq (g2 := F0 m 2083 ls [.int 4, .ref h0]) (by rw [hk]) ?_
  refine lv_aload_n hx hb dL_law_2083 rfl (lv_at hl 1 rfl) ?_
  have hPc := hP.sub (ws' := [(h0, .inr (9, [.int 7, .ref a1, .int 0, .ref a2, .int 0, .int 0, .ref w1, .ref p1, .ref o1])), (a1, .inl (cA1, 4, .inr (.inr (.inr (.inr (fun _ => none)))))), (a2, .inl (cA2, 10, .inr (.inr (.inr (.inr (fun _ => none)))))), (o0, .inr (10, [.long 0, .double FP.dconst0, .null]))]) [0, 1, 2, 6] rfl
  have hDc := hD.sub (ws' := [(h0, .inr (9, [.int 7, .ref a1, .int 0, .ref a2, .int 0, .int 0, .ref w1, .ref p1, .ref o1])), (a1, .inl (cA1, 4, .inr (.inr (.inr (.inr (fun _ => none)))))), (a2, .inl (cA2, 10, .inr (.inr (.inr (.inr (fun _ => none)))))), (o0, .inr (10, [.long 0, .double FP.dconst0, .null]))]) [0, 1, 2, 6] (by decide) rfl
  have hKc := hK.sub (tys' := [(cA1, .object RX0), (cA2, .object RX1)]) [0, 1] rfl
  have hFc := va_free (wc := [(h0, .inr (9, [.int 7, .ref a1, .int 0, .ref a2, .int 0, .int 0, .ref w1, .ref p1, .ref o1])), (a1, .inl (cA1, 4, .inr (.inr (.inr (.inr (fun _ => none)))))), (a2, .inl (cA2, 10, .inr (.inr (.inr (.inr (fun _ => none)))))), (o0, .inr (10, [.long 0, .double FP.dconst0, .null]))]) hD hS hA [0, 1, 2, 6] rfl
  refine va_calli (vx_runSW (As := [.ref h0, .int 4, .ref o0]) (rest := []) ⟨hx, hb, hml, hown, hts⟩ (c_L_many_4 l dC dI dE h0 a1 a2 w1 p1 o1 cA1 cA2 o0 H.size) (vx_cwSW 3 hts gL_law_L_many rfl rfl rfl (by decide +kernel) ⟨Nat.le_of_ble_eq_true rfl, Nat.le_of_ble_eq_true rfl⟩) ⟨fun a U g mk q => ⟨q.1, PB.blind q.2⟩, fun U hU hW => ⟨rfl, PB.call hPc hKc hDc hTb hZ hS hFc hU hW⟩⟩ rfl rfl hl.1 rfl (lv_room (Nat.le_of_ble_eq_true rfl)) dL_law_2084 ⟨Nat.le_of_ble_eq_true rfl, Nat.le_of_ble_eq_true rfl⟩) hS (fun q _ h => hFc q h) hFc (fun r u t H locs ht hvm hw hB hz1 hk1 hS => ?_)
  obtain ⟨hP, hD, hK⟩ := PE.join (wc := [(h0, .inr (9, [.int 7, .ref a1, .int 0, .ref a2, .int 0, .int 0, .ref w1, .ref p1, .ref o1])), (a1, .inl (cA1, 4, .inr (.inr (.inr (.inr (fun _ => none)))))), (a2, .inl (cA2, 10, .inr (.inr (.inr (.inr (fun _ => none)))))), (o0, .inr (10, [.long 0, .double FP.dconst0, .null]))]) (wr := [(m0, .inr (13, [.int 0, .int 7, .int 0, .ref l1, .ref l2])), (l1, .inr (2, [.int 0, .ref dE, .int 0])), (l2, .inr (2, [.int 0, .ref dE, .int 0]))]) (w1 := [(o0, .inr (10, [.long 0, .double FP.dconst0, .null]))]) (tr := []) (t1 := []) hP hD hK [0, 1, 2, 6] [3, 4, 5] [] rfl rfl rfl (by decide) (by decide) hk1 hFc ht hvm hB
  have hP : va_P (dC, dI) vwCl [(m0, .inr (13, [.int 0, .int 7, .int 0, .ref l1, .ref l2])), (l1, .inr (2, [.int 0, .ref dE, .int 0])), (l2, .inr (2, [.int 0, .ref dE, .int 0])), (o0, .inr (10, [.long 0, .double FP.dconst0, .null]))] H := hP
  have hD : va_D A [(m0, .inr (13, [.int 0, .int 7, .int 0, .ref l1, .ref l2])), (l1, .inr (2, [.int 0, .ref dE, .int 0])), (l2, .inr (2, [.int 0, .ref dE, .int 0])), (o0, .inr (10, [.long 0, .double FP.dconst0, .null]))] := hD
  have hK : va_K (dC, dI) vwCl [] s := hK
  subst hw
  refine lv_istore (lv' := [(5, .int 0), (4, .int 0), (3, .ref o0), (2, .ref m0), (1, .ref h0), (0, .ref b)]) hx hb dL_law_2087 hl (by decide) rfl (fun ls hl => ?_)
  refine lv_aload_n hx hb dL_law_2089 rfl (lv_at hl 3 rfl) ?_
  refine lv_aload_n hx hb dL_law_2090 rfl (lv_at hl 5 rfl) ?_
  refine lv_iload hx hb dL_law_2091 (lv_at hl 1 rfl) ?_
  refine lv_iconst (v := 1) hx hb dL_law_2093 (by decide) ?_
  refine lv_iadd hx hb dL_law_2094 ?_
  refine lv_topi (fun f2 ef2 => ?_)
  obtain rfl : f2 = 1 := ef2.trans (by decide)
  refine va_sld hx hb hX hbl hbA hS (by unfold vp_in; decide) dL_law_2095 ?_
  refine W.eq (g2 := F0 m 2096 ls [.int 4, .ref m0]) (by rw [hk]) ?_
  have hPc := hP.sub (ws' := [(m0, .inr (13, [.int 0, .int 7, .int 0, .ref l1, .ref l2])), (l1, .inr (2, [.int 0, .ref dE, .int 0])), (l2, .inr (2, [.int 0, .ref dE, .int 0]))]) [0, 1, 2] rfl
  have hDc := hD.sub (ws' := [(m0, .inr (13, [.int 0, .int 7, .int 0, .ref l1, .ref l2])), (l1, .inr (2, [.int 0, .ref dE, .int 0])), (l2, .inr (2, [.int 0, .ref dE, .int 0]))]) [0, 1, 2] (by decide) rfl
  have hKc := hK.sub (tys' := []) [] rfl
  have hFc := va_free (wc := [(m0, .inr (13, [.int 0, .int 7, .int 0, .ref l1, .ref l2])), (l1, .inr (2, [.int 0, .ref dE, .int 0])), (l2, .inr (2, [.int 0, .ref dE, .int 0]))]) hD hS hA [0, 1, 2] rfl
  refine va_calli (va_runV (As := [.int 4]) (rest := []) ⟨hx, hb, hml, hown, hts⟩ (c_M_many_4 l dC dI dE m0 l1 l2 H.size) (cwV 1 hts gL_law_X10_many rfl rfl rfl (by decide +kernel) ⟨Nat.le_of_ble_eq_true rfl, Nat.le_of_ble_eq_true rfl⟩) ⟨fun a U g mk q => ⟨q.1, PB.blind q.2⟩, va_recv hKc hPc (ci := 13) (q0 := 0) rfl rfl, fun U hU hW => ⟨rfl, PB.call hPc hKc hDc hTb hZ hS hFc hU hW⟩⟩ rfl rfl hl.1 rfl (lv_room (Nat.le_of_ble_eq_true rfl)) dL_law_2096 ⟨Nat.le_of_ble_eq_true rfl, Nat.le_of_ble_eq_true rfl⟩) hS (fun q _ h => hFc q h) hFc (fun r u t H locs ht hvm hw hB hz1 hk1 hS => ?_)
  obtain ⟨hP, hD, hK⟩ := PE.join (wc := [(m0, .inr (13, [.int 0, .int 7, .int 0, .ref l1, .ref l2])), (l1, .inr (2, [.int 0, .ref dE, .int 0])), (l2, .inr (2, [.int 0, .ref dE, .int 0]))]) (wr := [(o0, .inr (10, [.long 0, .double FP.dconst0, .null]))]) (w1 := [(m0, .inr (13, [.int 0, .int 7, .int 0, .ref l1, .ref l2])), (l1, .inr (2, [.int 0, .ref dE, .int 0])), (l2, .inr (2, [.int 0, .ref dE, .int 0]))]) (tr := []) (t1 := []) hP hD hK [0, 1, 2] [3] [] rfl rfl rfl (by decide) (by decide) hk1 hFc ht hvm hB
  have hP : va_P (dC, dI) vwCl [(o0, .inr (10, [.long 0, .double FP.dconst0, .null])), (m0, .inr (13, [.int 0, .int 7, .int 0, .ref l1, .ref l2])), (l1, .inr (2, [.int 0, .ref dE, .int 0])), (l2, .inr (2, [.int 0, .ref dE, .int 0]))] H := hP
  have hD : va_D A [(o0, .inr (10, [.long 0, .double FP.dconst0, .null])), (m0, .inr (13, [.int 0, .int 7, .int 0, .ref l1, .ref l2])), (l1, .inr (2, [.int 0, .ref dE, .int 0])), (l2, .inr (2, [.int 0, .ref dE, .int 0]))] := hD
  have hK : va_K (dC, dI) vwCl [] s := hK
  subst hw
  refine W.widen (k := 38) (n := 525) (by omega) (by omega) ?_
  refine lv_istore (lv' := [(6, .int 0), (5, .int 0), (4, .int 0), (3, .ref o0), (2, .ref m0), (1, .ref h0), (0, .ref b)]) hx hb dL_law_2099 hl (by decide) rfl (fun ls hl => ?_)
  refine lv_aload_n hx hb dL_law_2101 rfl (lv_at hl 4 rfl) ?_
  have hPc := hP.sub (ws' := [(m0, .inr (13, [.int 0, .int 7, .int 0, .ref l1, .ref l2]))]) [1] rfl
  have hDc := hD.sub (ws' := [(m0, .inr (13, [.int 0, .int 7, .int 0, .ref l1, .ref l2]))]) [1] (by decide) rfl
  have hKc := hK.sub (tys' := []) [] rfl
  have hFc := va_free (wc := [(m0, .inr (13, [.int 0, .int 7, .int 0, .ref l1, .ref l2]))]) hD hS hA [1] rfl
  refine va_calli (va_runV (As := []) (rest := []) ⟨hx, hb, hml, hown, hts⟩ (c_M_thrown l dC dI dE m0 0 7 0 l1 l2 H.size) (cwV 0 hts gL_law_X10_thrown rfl rfl rfl (by decide +kernel) ⟨Nat.le_of_ble_eq_true rfl, Nat.le_of_ble_eq_true rfl⟩) ⟨fun a U g mk q => ⟨q.1, PB.blind q.2⟩, va_recv hKc hPc (ci := 13) (q0 := 0) rfl rfl, fun U hU hW => ⟨rfl, PB.call hPc hKc hDc hTb hZ hS hFc hU hW⟩⟩ rfl rfl hl.1 rfl (lv_room (Nat.le_of_ble_eq_true rfl)) dL_law_2102 ⟨Nat.le_of_ble_eq_true rfl, Nat.le_of_ble_eq_true rfl⟩) hS (fun q _ h => hFc q h) hFc (fun r u t H locs ht hvm hw hB hz1 hk1 hS => ?_)
  obtain ⟨hP, hD, hK⟩ := PE.join0 (wc := [(m0, .inr (13, [.int 0, .int 7, .int 0, .ref l1, .ref l2]))]) (wr := [(o0, .inr (10, [.long 0, .double FP.dconst0, .null])), (l1, .inr (2, [.int 0, .ref dE, .int 0])), (l2, .inr (2, [.int 0, .ref dE, .int 0]))]) (tr := []) hP hD hK [1] [0, 2, 3] [] rfl rfl rfl (by decide) (by decide) hk1 hFc
  have hP : va_P (dC, dI) vwCl [(o0, .inr (10, [.long 0, .double FP.dconst0, .null])), (l1, .inr (2, [.int 0, .ref dE, .int 0])), (l2, .inr (2, [.int 0, .ref dE, .int 0]))] H := hP
  have hD : va_D A [(o0, .inr (10, [.long 0, .double FP.dconst0, .null])), (l1, .inr (2, [.int 0, .ref dE, .int 0])), (l2, .inr (2, [.int 0, .ref dE, .int 0]))] := hD
  have hK : va_K (dC, dI) vwCl [] s := hK
  subst hw
  refine lv_iload hx hb dL_law_2105 (lv_at hl 1 rfl) ?_
  refine lv_icmp_eq (tgt := 2112) hx hb dL_law_2107 (by decide) (fun _ => ?_) (fun c9 => absurd (by decide) c9)
  refine lv_iload hx hb dL_law_2112 (lv_at hl 1 rfl) ?_
  refine lv_if_ne (tgt := 2130) hx hb dL_law_2114 (by decide) (fun c9 => absurd (by decide) c9) (fun _ => ?_)
  refine lv_aload_n hx hb dL_law_2117 rfl (lv_at hl 3 rfl) ?_
  refine va_getN (D := (dC, dI)) (ci := 10) (v := .long 0) (C := RX7) (T := TX7) (N := 3) hx hb hts inlX7 hown hK hP 0 rfl rfl 0 (by decide) (va_Nw.use rfl (Tb_f1 hTb)) (fun _ h9 => h9) rfl dL_law_2118 ?_
  refine lv_iload hx hb dL_law_2121 (lv_at hl 0 rfl) ?_
  refine lv_i2l (v := 0) hx hb dL_law_2123 (by decide) ?_
  refine W.lcmp hx hb dL_law_2124 ?_
  refine lv_topi (fun f3 ef3 => ?_)
  obtain rfl : f3 = 0 := ef3.trans (by decide)
  refine lv_if_eq (tgt := 2130) hx hb dL_law_2125 (by decide) (fun _ => ?_) (fun c9 => absurd (by decide) c9)
  refine lv_goto (tgt := 2435) hx hb dL_law_2130 (by decide) ?_
  exact lk_end C0 hA2 hbA hS (Nat.le_of_ble_eq_true rfl) (Nat.le_of_ble_eq_true rfl) (lv_sub hl [2, 6] rfl)

set_option maxHeartbeats 4000000 in
set_option maxRecDepth 100000 in
/-- lk_many_5 -/
theorem lk_many_5 {p : Program} {e : Env} {s : State} {m : MethodId} {below : List Frame} {meth : Method} {c : Code} {l : Launch} (hst : l.stackTraces = false) {b : Nat} {xs : Nat → Int32} (C0 : lw_At p s m meth c b 4 xs) {A : Nat → Prop} (hA : ∀ q : Nat, s.heap.size ≤ q → A q) (hA2 : ∀ q : Nat, A q → s.heap.size ≤ q) (hbA : ¬ A b) {dC : Nat → ClassId} {dI : Nat → Nat → Nat} {dE : Nat} (h0 a1 a2 w1 p1 o1 : Nat) (cA1 cA2 : ClassId) (m0 l1 l2 o0 : Nat) (hk : (xs (Int32.toNatClampNeg 1)) = 5) (hTb : Tb s) (hZ : Zq2 dE A s s.heap) {H : Heap} {locs : List Loc} (hK : va_K (dC, dI) vwCl [(cA1, .object RX0), (cA2, .object RX1)] s) (hP : va_P (dC, dI) vwCl [(h0, .inr (9, [.int 7, .ref a1, .int 0, .ref a2, .int 0, .int 0, .ref w1, .ref p1, .ref o1])), (a1, .inl (cA1, 4, .inr (.inr (.inr (.inr (fun _ => none)))))), (a2, .inl (cA2, 10, .inr (.inr (.inr (.inr (fun _ => none)))))), (m0, .inr (13, [.int 0, .int 7, .int 0, .ref l1, .ref l2])), (l1, .inr (2, [.int 0, .ref dE, .int 0])), (l2, .inr (2, [.int 0, .ref dE, .int 0])), (o0, .inr (10, [.long 0, .double FP.dconst0, .null]))] H) (hD : va_D A [(h0, .inr (9, [.int 7, .ref a1, .int 0, .ref a2, .int 0, .int 0, .ref w1, .ref p1, .ref o1])), (a1, .inl (cA1, 4, .inr (.inr (.inr (.inr (fun _ => none)))))), (a2, .inl (cA2, 10, .inr (.inr (.inr (.inr (fun _ => none)))))), (m0, .inr (13, [.int 0, .int 7, .int 0, .ref l1, .ref l2])), (l1, .inr (2, [.int 0, .ref dE, .int 0])), (l2, .inr (2, [.int 0, .ref dE, .int 0])), (o0, .inr (10, [.long 0, .double FP.dconst0, .null]))]) (hS : va_S A s.heap H locs) {ls : Array Slot} (hl : lv_has ls 9 [(4, .int 0), (3, .ref o0), (2, .ref m0), (1, .ref h0), (0, .ref b)]) : W p l e room_1 s m #[Value.ref b] below meth c H locs 37 517 (lw_Z below #[Value.ref b] s) (F0 m 2076 ls []) := by
  obtain ⟨hx, hb, hr, hml, hown, hts0, hX, hbl, hlocks, hgv⟩ := id C0
  have hts : ∀ w ∈ wsL_law, w.before #[Value.ref b] s = true := lw_words hts0
  refine lv_aload_n hx hb dL_law_2076 rfl (lv_at hl 3 rfl) ?_
  refine lv_aload_n hx hb dL_law_2077 rfl (lv_at hl 4 rfl) ?_
  refine lv_iload hx hb dL_law_2078 (lv_at hl 0 rfl) ?_
  refine lv_iconst (v := 1) hx hb dL_law_2080 (by decide) ?_
  refine lv_iadd hx hb dL_law_2081 ?_
  refine lv_topi (fun f1 ef1 => ?_)
  obtain rfl : f1 = 1 := ef1.trans (by decide)
  refine va_sld hx hb hX hbl hbA hS (by unfold vp_in; decide) dL_law_2082 ?_
  refine W.eq (g2 := F0 m 2083 ls [.int 5, .ref h0]) (by rw [hk]) ?_
  refine lv_aload_n hx hb dL_law_2083 rfl (lv_at hl 1 rfl) ?_
  have hPc := hP.sub (ws' := [(h0, .inr (9, [.int 7, .ref a1, .int 0, .ref a2, .int 0, .int 0, .ref w1, .ref p1, .ref o1])), (a1, .inl (cA1, 4, .inr (.inr (.inr (.inr (fun _ => none)))))), (a2, .inl (cA2, 10, .inr (.inr (.inr (.inr (fun _ => none)))))), (o0, .inr (10, [.long 0, .double FP.dconst0, .null]))]) [0, 1, 2, 6] rfl
  have hDc := hD.sub (ws' := [(h0, .inr (9, [.int 7, .ref a1, .int 0, .ref a2, .int 0, .int 0, .ref w1, .ref p1, .ref o1])), (a1, .inl (cA1, 4, .inr (.inr (.inr (.inr (fun _ => none)))))), (a2, .inl (cA2, 10, .inr (.inr (.inr (.inr (fun _ => none)))))), (o0, .inr (10, [.long 0, .double FP.dconst0, .null]))]) [0, 1, 2, 6] (by decide) rfl
  have hKc := hK.sub (tys' := [(cA1, .object RX0), (cA2, .object RX1)]) [0, 1] rfl
  have hFc := va_free (wc := [(h0, .inr (9, [.int 7, .ref a1, .int 0, .ref a2, .int 0, .int 0, .ref w1, .ref p1, .ref o1])), (a1, .inl (cA1, 4, .inr (.inr (.inr (.inr (fun _ => none)))))), (a2, .inl (cA2, 10, .inr (.inr (.inr (.inr (fun _ => none)))))), (o0, .inr (10, [.long 0, .double FP.dconst0, .null]))]) hD hS hA [0, 1, 2, 6] rfl
  refine va_calli (vx_runSW (As := [.ref h0, .int 5, .ref o0]) (rest := []) ⟨hx, hb, hml, hown, hts⟩ (c_L_many_5 l dC dI dE h0 a1 a2 w1 p1 o1 cA1 cA2 o0 H.size) (vx_cwSW 3 hts gL_law_L_many rfl rfl rfl (by decide +kernel) ⟨Nat.le_of_ble_eq_true rfl, Nat.le_of_ble_eq_true rfl⟩) ⟨fun a U g mk q => ⟨q.1, PB.blind q.2⟩, fun U hU hW => ⟨rfl, PB.call hPc hKc hDc hTb hZ hS hFc hU hW⟩⟩ rfl rfl hl.1 rfl (lv_room (Nat.le_of_ble_eq_true rfl)) dL_law_2084 ⟨Nat.le_of_ble_eq_true rfl, Nat.le_of_ble_eq_true rfl⟩) hS (fun q _ h => hFc q h) hFc (fun r u t H locs ht hvm hw hB hz1 hk1 hS => ?_)
  obtain ⟨hP, hD, hK⟩ := PE.join (wc := [(h0, .inr (9, [.int 7, .ref a1, .int 0, .ref a2, .int 0, .int 0, .ref w1, .ref p1, .ref o1])), (a1, .inl (cA1, 4, .inr (.inr (.inr (.inr (fun _ => none)))))), (a2, .inl (cA2, 10, .inr (.inr (.inr (.inr (fun _ => none)))))), (o0, .inr (10, [.long 0, .double FP.dconst0, .null]))]) (wr := [(m0, .inr (13, [.int 0, .int 7, .int 0, .ref l1, .ref l2])), (l1, .inr (2, [.int 0, .ref dE, .int 0])), (l2, .inr (2, [.int 0, .ref dE, .int 0]))]) (w1 := [(o0, .inr (10, [.long 0, .double FP.dconst0, .null]))]) (tr := []) (t1 := []) hP hD hK [0, 1, 2, 6] [3, 4, 5] [] rfl rfl rfl (by decide) (by decide) hk1 hFc ht hvm hB
  have hP : va_P (dC, dI) vwCl [(m0, .inr (13, [.int 0, .int 7, .int 0, .ref l1, .ref l2])), (l1, .inr (2, [.int 0, .ref dE, .int 0])), (l2, .inr (2, [.int 0, .ref dE, .int 0])), (o0, .inr (10, [.long 0, .double FP.dconst0, .null]))] H := hP
  have hD : va_D A [(m0, .inr (13, [.int 0, .int 7, .int 0, .ref l1, .ref l2])), (l1, .inr (2, [.int 0, .ref dE, .int 0])), (l2, .inr (2, [.int 0, .ref dE, .int 0])), (o0, .inr (10, [.long 0, .double FP.dconst0, .null]))] := hD
  have hK : va_K (dC, dI) vwCl [] s := hK
  subst hw
  refine lv_istore (lv' := [(5, .int 0), (4, .int 0), (3, .ref o0), (2, .ref m0), (1, .ref h0), (0, .ref b)]) hx hb dL_law_2087 hl (by decide) rfl (fun ls hl => ?_)
  refine lv_aload_n hx hb dL_law_2089 rfl (lv_at hl 3 rfl) ?_
  refine lv_aload_n hx hb dL_law_2090 rfl (lv_at hl 5 rfl) ?_
  refine lv_iload hx hb dL_law_2091 (lv_at hl 1 rfl) ?_
  refine lv_iconst (v := 1) hx hb dL_law_2093 (by decide) ?_
  refine lv_iadd hx hb dL_law_2094 ?_
  refine lv_topi (fun f2 ef2 => ?_)
  obtain rfl : f2 = 1 := ef2.trans (by decide)
  refine va_sld hx hb hX hbl hbA hS (by unfold vp_in; decide) dL_law_2095 ?_
  refine W.eq (g2 := F0 m 2096 ls [.int 5, .ref m0]) (by rw [hk]) ?_
  have hPc := hP.sub (ws' := [(m0, .inr (13, [.int 0, .int 7, .int 0, .ref l1, .ref l2])), (l1, .inr (2, [.int 0, .ref dE, .int 0])), (l2, .inr (2, [.int 0, .ref dE, .int 0]))]) [0, 1, 2] rfl
  have hDc := hD.sub (ws' := [(m0, .inr (13, [.int 0, .int 7, .int 0, .ref l1, .ref l2])), (l1, .inr (2, [.int 0, .ref dE, .int 0])), (l2, .inr (2, [.int 0, .ref dE, .int 0]))]) [0, 1, 2] (by decide) rfl
  have hKc := hK.sub (tys' := []) [] rfl
  have hFc := va_free (wc := [(m0, .inr (13, [.int 0, .int 7, .int 0, .ref l1, .ref l2])), (l1, .inr (2, [.int 0, .ref dE, .int 0])), (l2, .inr (2, [.int 0, .ref dE, .int 0]))]) hD hS hA [0, 1, 2] rfl
  refine va_calli (va_runV (As := [.int 5]) (rest := []) ⟨hx, hb, hml, hown, hts⟩ (c_M_many_5 l dC dI dE m0 l1 l2 H.size) (cwV 1 hts gL_law_X10_many rfl rfl rfl (by decide +kernel) ⟨Nat.le_of_ble_eq_true rfl, Nat.le_of_ble_eq_true rfl⟩) ⟨fun a U g mk q => ⟨q.1, PB.blind q.2⟩, va_recv hKc hPc (ci := 13) (q0 := 0) rfl rfl, fun U hU hW => ⟨rfl, PB.call hPc hKc hDc hTb hZ hS hFc hU hW⟩⟩ rfl rfl hl.1 rfl (lv_room (Nat.le_of_ble_eq_true rfl)) dL_law_2096 ⟨Nat.le_of_ble_eq_true rfl, Nat.le_of_ble_eq_true rfl⟩) hS (fun q _ h => hFc q h) hFc (fun r u t H locs ht hvm hw hB hz1 hk1 hS => ?_)
  obtain ⟨hP, hD, hK⟩ := PE.join (wc := [(m0, .inr (13, [.int 0, .int 7, .int 0, .ref l1, .ref l2])), (l1, .inr (2, [.int 0, .ref dE, .int 0])), (l2, .inr (2, [.int 0, .ref dE, .int 0]))]) (wr := [(o0, .inr (10, [.long 0, .double FP.dconst0, .null]))]) (w1 := [(m0, .inr (13, [.int 0, .int 7, .int 0, .ref l1, .ref l2])), (l1, .inr (2, [.int 0, .ref dE, .int 0])), (l2, .inr (2, [.int 0, .ref dE, .int 0]))]) (tr := []) (t1 := []) hP hD hK [0, 1, 2] [3] [] rfl rfl rfl (by decide) (by decide) hk1 hFc ht hvm hB
  have hP : va_P (dC, dI) vwCl [(o0, .inr (10, [.long 0, .double FP.dconst0, .null])), (m0, .inr (13, [.int 0, .int 7, .int 0, .ref l1, .ref l2])), (l1, .inr (2, [.int 0, .ref dE, .int 0])), (l2, .inr (2, [.int 0, .ref dE, .int 0]))] H := hP
  have hD : va_D A [(o0, .inr (10, [.long 0, .double FP.dconst0, .null])), (m0, .inr (13, [.int 0, .int 7, .int 0, .ref l1, .ref l2])), (l1, .inr (2, [.int 0, .ref dE, .int 0])), (l2, .inr (2, [.int 0, .ref dE, .int 0]))] := hD
  have hK : va_K (dC, dI) vwCl [] s := hK
  subst hw
  refine W.widen (k := 38) (n := 525) (by omega) (by omega) ?_
  refine lv_istore (lv' := [(6, .int 0), (5, .int 0), (4, .int 0), (3, .ref o0), (2, .ref m0), (1, .ref h0), (0, .ref b)]) hx hb dL_law_2099 hl (by decide) rfl (fun ls hl => ?_)
  refine lv_aload_n hx hb dL_law_2101 rfl (lv_at hl 4 rfl) ?_
  have hPc := hP.sub (ws' := [(m0, .inr (13, [.int 0, .int 7, .int 0, .ref l1, .ref l2]))]) [1] rfl
  have hDc := hD.sub (ws' := [(m0, .inr (13, [.int 0, .int 7, .int 0, .ref l1, .ref l2]))]) [1] (by decide) rfl
  have hKc := hK.sub (tys' := []) [] rfl
  have hFc := va_free (wc := [(m0, .inr (13, [.int 0, .int 7, .int 0, .ref l1, .ref l2]))]) hD hS hA [1] rfl
  refine va_calli (va_runV (As := []) (rest := []) ⟨hx, hb, hml, hown, hts⟩ (c_M_thrown l dC dI dE m0 0 7 0 l1 l2 H.size) (cwV 0 hts gL_law_X10_thrown rfl rfl rfl (by decide +kernel) ⟨Nat.le_of_ble_eq_true rfl, Nat.le_of_ble_eq_true rfl⟩) ⟨fun a U g mk q => ⟨q.1, PB.blind q.2⟩, va_recv hKc hPc (ci := 13) (q0 := 0) rfl rfl, fun U hU hW => ⟨rfl, PB.call hPc hKc hDc hTb hZ hS hFc hU hW⟩⟩ rfl rfl hl.1 rfl (lv_room (Nat.le_of_ble_eq_true rfl)) dL_law_2102 ⟨Nat.le_of_ble_eq_true rfl, Nat.le_of_ble_eq_true rfl⟩) hS (fun q _ h => hFc q h) hFc (fun r u t H locs ht hvm hw hB hz1 hk1 hS => ?_)
  obtain ⟨hP, hD, hK⟩ := PE.join0 (wc := [(m0, .inr (13, [.int 0, .int 7, .int 0, .ref l1, .ref l2]))]) (wr := [(o0, .inr (10, [.long 0, .double FP.dconst0, .null])), (l1, .inr (2, [.int 0, .ref dE, .int 0])), (l2, .inr (2, [.int 0, .ref dE, .int 0]))]) (tr := []) hP hD hK [1] [0, 2, 3] [] rfl rfl rfl (by decide) (by decide) hk1 hFc
  have hP : va_P (dC, dI) vwCl [(o0, .inr (10, [.long 0, .double FP.dconst0, .null])), (l1, .inr (2, [.int 0, .ref dE, .int 0])), (l2, .inr (2, [.int 0, .ref dE, .int 0]))] H := hP
  have hD : va_D A [(o0, .inr (10, [.long 0, .double FP.dconst0, .null])), (l1, .inr (2, [.int 0, .ref dE, .int 0])), (l2, .inr (2, [.int 0, .ref dE, .int 0]))] := hD
  have hK : va_K (dC, dI) vwCl [] s := hK
  subst hw
  refine lv_iload hx hb dL_law_2105 (lv_at hl 1 rfl) ?_
  refine lv_icmp_eq (tgt := 2112) hx hb dL_law_2107 (by decide) (fun _ => ?_) (fun c9 => absurd (by decide) c9)
  refine lv_iload hx hb dL_law_2112 (lv_at hl 1 rfl) ?_
  refine lv_if_ne (tgt := 2130) hx hb dL_law_2114 (by decide) (fun c9 => absurd (by decide) c9) (fun _ => ?_)
  refine lv_aload_n hx hb dL_law_2117 rfl (lv_at hl 3 rfl) ?_
  refine va_getN (D := (dC, dI)) (ci := 10) (v := .long 0) (C := RX7) (T := TX7) (N := 3) hx hb hts inlX7 hown hK hP 0 rfl rfl 0 (by decide) (va_Nw.use rfl (Tb_f1 hTb)) (fun _ h9 => h9) rfl dL_law_2118 ?_
  refine lv_iload hx hb dL_law_2121 (lv_at hl 0 rfl) ?_
  refine lv_i2l (v := 0) hx hb dL_law_2123 (by decide) ?_
  refine W.lcmp hx hb dL_law_2124 ?_
  refine lv_topi (fun f3 ef3 => ?_)
  obtain rfl : f3 = 0 := ef3.trans (by decide)
  refine lv_if_eq (tgt := 2130) hx hb dL_law_2125 (by decide) (fun _ => ?_) (fun c9 => absurd (by decide) c9)
  refine lv_goto (tgt := 2435) hx hb dL_law_2130 (by decide) ?_
  exact lk_end C0 hA2 hbA hS (Nat.le_of_ble_eq_true rfl) (Nat.le_of_ble_eq_true rfl) (lv_sub hl [2, 6] rfl)

set_option maxHeartbeats 4000000 in
set_option maxRecDepth 100000 in
/-- lk_many_6 -/
theorem lk_many_6 {p : Program} {e : Env} {s : State} {m : MethodId} {below : List Frame} {meth : Method} {c : Code} {l : Launch} (hst : l.stackTraces = false) {b : Nat} {xs : Nat → Int32} (C0 : lw_At p s m meth c b 4 xs) {A : Nat → Prop} (hA : ∀ q : Nat, s.heap.size ≤ q → A q) (hA2 : ∀ q : Nat, A q → s.heap.size ≤ q) (hbA : ¬ A b) {dC : Nat → ClassId} {dI : Nat → Nat → Nat} {dE : Nat} (h0 a1 a2 w1 p1 o1 : Nat) (cA1 cA2 : ClassId) (m0 l1 l2 o0 : Nat) (hk : (xs (Int32.toNatClampNeg 1)) = 6) (hTb : Tb s) (hZ : Zq2 dE A s s.heap) {H : Heap} {locs : List Loc} (hK : va_K (dC, dI) vwCl [(cA1, .object RX0), (cA2, .object RX1)] s) (hP : va_P (dC, dI) vwCl [(h0, .inr (9, [.int 7, .ref a1, .int 0, .ref a2, .int 0, .int 0, .ref w1, .ref p1, .ref o1])), (a1, .inl (cA1, 4, .inr (.inr (.inr (.inr (fun _ => none)))))), (a2, .inl (cA2, 10, .inr (.inr (.inr (.inr (fun _ => none)))))), (m0, .inr (13, [.int 0, .int 7, .int 0, .ref l1, .ref l2])), (l1, .inr (2, [.int 0, .ref dE, .int 0])), (l2, .inr (2, [.int 0, .ref dE, .int 0])), (o0, .inr (10, [.long 0, .double FP.dconst0, .null]))] H) (hD : va_D A [(h0, .inr (9, [.int 7, .ref a1, .int 0, .ref a2, .int 0, .int 0, .ref w1, .ref p1, .ref o1])), (a1, .inl (cA1, 4, .inr (.inr (.inr (.inr (fun _ => none)))))), (a2, .inl (cA2, 10, .inr (.inr (.inr (.inr (fun _ => none)))))), (m0, .inr (13, [.int 0, .int 7, .int 0, .ref l1, .ref l2])), (l1, .inr (2, [.int 0, .ref dE, .int 0])), (l2, .inr (2, [.int 0, .ref dE, .int 0])), (o0, .inr (10, [.long 0, .double FP.dconst0, .null]))]) (hS : va_S A s.heap H locs) {ls : Array Slot} (hl : lv_has ls 9 [(4, .int 0), (3, .ref o0), (2, .ref m0), (1, .ref h0), (0, .ref b)]) : W p l e room_1 s m #[Value.ref b] below meth c H locs 37 517 (lw_Z below #[Value.ref b] s) (F0 m 2076 ls []) := by
  obtain ⟨hx, hb, hr, hml, hown, hts0, hX, hbl, hlocks, hgv⟩ := id C0
  have hts : ∀ w ∈ wsL_law, w.before #[Value.ref b] s = true := lw_words hts0
  refine lv_aload_n hx hb dL_law_2076 rfl (lv_at hl 3 rfl) ?_
  refine lv_aload_n hx hb dL_law_2077 rfl (lv_at hl 4 rfl) ?_
  refine lv_iload hx hb dL_law_2078 (lv_at hl 0 rfl) ?_
  refine lv_iconst (v := 1) hx hb dL_law_2080 (by decide) ?_
  refine lv_iadd hx hb dL_law_2081 ?_
  refine lv_topi (fun f1 ef1 => ?_)
  obtain rfl : f1 = 1 := ef1.trans (by decide)
  refine va_sld hx hb hX hbl hbA hS (by unfold vp_in; decide) dL_law_2082 ?_
  refine W.eq (g2 := F0 m 2083 ls [.int 6, .ref h0]) (by rw [hk]) ?_
  refine lv_aload_n hx hb dL_law_2083 rfl (lv_at hl 1 rfl) ?_
  have hPc := hP.sub (ws' := [(h0, .inr (9, [.int 7, .ref a1, .int 0, .ref a2, .int 0, .int 0, .ref w1, .ref p1, .ref o1])), (a1, .inl (cA1, 4, .inr (.inr (.inr (.inr (fun _ => none)))))), (a2, .inl (cA2, 10, .inr (.inr (.inr (.inr (fun _ => none)))))), (o0, .inr (10, [.long 0, .double FP.dconst0, .null]))]) [0, 1, 2, 6] rfl
  have hDc := hD.sub (ws' := [(h0, .inr (9, [.int 7, .ref a1, .int 0, .ref a2, .int 0, .int 0, .ref w1, .ref p1, .ref o1])), (a1, .inl (cA1, 4, .inr (.inr (.inr (.inr (fun _ => none)))))), (a2, .inl (cA2, 10, .inr (.inr (.inr (.inr (fun _ => none)))))), (o0, .inr (10, [.long 0, .double FP.dconst0, .null]))]) [0, 1, 2, 6] (by decide) rfl
  have hKc := hK.sub (tys' := [(cA1, .object RX0), (cA2, .object RX1)]) [0, 1] rfl
  have hFc := va_free (wc := [(h0, .inr (9, [.int 7, .ref a1, .int 0, .ref a2, .int 0, .int 0, .ref w1, .ref p1, .ref o1])), (a1, .inl (cA1, 4, .inr (.inr (.inr (.inr (fun _ => none)))))), (a2, .inl (cA2, 10, .inr (.inr (.inr (.inr (fun _ => none)))))), (o0, .inr (10, [.long 0, .double FP.dconst0, .null]))]) hD hS hA [0, 1, 2, 6] rfl
  refine va_calli (vx_runSW (As := [.ref h0, .int 6, .ref o0]) (rest := []) ⟨hx, hb, hml, hown, hts⟩ (c_L_many_6 l dC dI dE h0 a1 a2 w1 p1 o1 cA1 cA2 o0 H.size) (vx_cwSW 3 hts gL_law_L_many rfl rfl rfl (by decide +kernel) ⟨Nat.le_of_ble_eq_true rfl, Nat.le_of_ble_eq_true rfl⟩) ⟨fun a U g mk q => ⟨q.1, PB.blind q.2⟩, fun U hU hW => ⟨rfl, PB.call hPc hKc hDc hTb hZ hS hFc hU hW⟩⟩ rfl rfl hl.1 rfl (lv_room (Nat.le_of_ble_eq_true rfl)) dL_law_2084 ⟨Nat.le_of_ble_eq_true rfl, Nat.le_of_ble_eq_true rfl⟩) hS (fun q _ h => hFc q h) hFc (fun r u t H locs ht hvm hw hB hz1 hk1 hS => ?_)
  obtain ⟨hP, hD, hK⟩ := PE.join (wc := [(h0, .inr (9, [.int 7, .ref a1, .int 0, .ref a2, .int 0, .int 0, .ref w1, .ref p1, .ref o1])), (a1, .inl (cA1, 4, .inr (.inr (.inr (.inr (fun _ => none)))))), (a2, .inl (cA2, 10, .inr (.inr (.inr (.inr (fun _ => none)))))), (o0, .inr (10, [.long 0, .double FP.dconst0, .null]))]) (wr := [(m0, .inr (13, [.int 0, .int 7, .int 0, .ref l1, .ref l2])), (l1, .inr (2, [.int 0, .ref dE, .int 0])), (l2, .inr (2, [.int 0, .ref dE, .int 0]))]) (w1 := [(o0, .inr (10, [.long 0, .double FP.dconst0, .null]))]) (tr := []) (t1 := []) hP hD hK [0, 1, 2, 6] [3, 4, 5] [] rfl rfl rfl (by decide) (by decide) hk1 hFc ht hvm hB
  have hP : va_P (dC, dI) vwCl [(m0, .inr (13, [.int 0, .int 7, .int 0, .ref l1, .ref l2])), (l1, .inr (2, [.int 0, .ref dE, .int 0])), (l2, .inr (2, [.int 0, .ref dE, .int 0])), (o0, .inr (10, [.long 0, .double FP.dconst0, .null]))] H := hP
  have hD : va_D A [(m0, .inr (13, [.int 0, .int 7, .int 0, .ref l1, .ref l2])), (l1, .inr (2, [.int 0, .ref dE, .int 0])), (l2, .inr (2, [.int 0, .ref dE, .int 0])), (o0, .inr (10, [.long 0, .double FP.dconst0, .null]))] := hD
  have hK : va_K (dC, dI) vwCl [] s := hK
  subst hw
  refine lv_istore (lv' := [(5, .int 0), (4, .int 0), (3, .ref o0), (2, .ref m0), (1, .ref h0), (0, .ref b)]) hx hb dL_law_2087 hl (by decide) rfl (fun ls hl => ?_)
  refine lv_aload_n hx hb dL_law_2089 rfl (lv_at hl 3 rfl) ?_
  refine lv_aload_n hx hb dL_law_2090 rfl (lv_at hl 5 rfl) ?_
  refine lv_iload hx hb dL_law_2091 (lv_at hl 1 rfl) ?_
  refine lv_iconst (v := 1) hx hb dL_law_2093 (by decide) ?_
  refine lv_iadd hx hb dL_law_2094 ?_
  refine lv_topi (fun f2 ef2 => ?_)
  obtain rfl : f2 = 1 := ef2.trans (by decide)
  refine va_sld hx hb hX hbl hbA hS (by unfold vp_in; decide) dL_law_2095 ?_
  refine W.eq (g2 := F0 m 2096 ls [.int 6, .ref m0]) (by rw [hk]) ?_
  have hPc := hP.sub (ws' := [(m0, .inr (13, [.int 0, .int 7, .int 0, .ref l1, .ref l2])), (l1, .inr (2, [.int 0, .ref dE, .int 0])), (l2, .inr (2, [.int 0, .ref dE, .int 0]))]) [0, 1, 2] rfl
  have hDc := hD.sub (ws' := [(m0, .inr (13, [.int 0, .int 7, .int 0, .ref l1, .ref l2])), (l1, .inr (2, [.int 0, .ref dE, .int 0])), (l2, .inr (2, [.int 0, .ref dE, .int 0]))]) [0, 1, 2] (by decide) rfl
  have hKc := hK.sub (tys' := []) [] rfl
  have hFc := va_free (wc := [(m0, .inr (13, [.int 0, .int 7, .int 0, .ref l1, .ref l2])), (l1, .inr (2, [.int 0, .ref dE, .int 0])), (l2, .inr (2, [.int 0, .ref dE, .int 0]))]) hD hS hA [0, 1, 2] rfl
  refine va_calli (va_runV (As := [.int 6]) (rest := []) ⟨hx, hb, hml, hown, hts⟩ (c_M_many_6 l dC dI dE m0 l1 l2 H.size) (cwV 1 hts gL_law_X10_many rfl rfl rfl (by decide +kernel) ⟨Nat.le_of_ble_eq_true rfl, Nat.le_of_ble_eq_true rfl⟩) ⟨fun a U g mk q => ⟨q.1, PB.blind q.2⟩, va_recv hKc hPc (ci := 13) (q0 := 0) rfl rfl, fun U hU hW => ⟨rfl, PB.call hPc hKc hDc hTb hZ hS hFc hU hW⟩⟩ rfl rfl hl.1 rfl (lv_room (Nat.le_of_ble_eq_true rfl)) dL_law_2096 ⟨Nat.le_of_ble_eq_true rfl, Nat.le_of_ble_eq_true rfl⟩) hS (fun q _ h => hFc q h) hFc (fun r u t H locs ht hvm hw hB hz1 hk1 hS => ?_)
  obtain ⟨hP, hD, hK⟩ := PE.join (wc := [(m0, .inr (13, [.int 0, .int 7, .int 0, .ref l1, .ref l2])), (l1, .inr (2, [.int 0, .ref dE, .int 0])), (l2, .inr (2, [.int 0, .ref dE, .int 0]))]) (wr := [(o0, .inr (10, [.long 0, .double FP.dconst0, .null]))]) (w1 := [(m0, .inr (13, [.int 0, .int 7, .int 0, .ref l1, .ref l2])), (l1, .inr (2, [.int 0, .ref dE, .int 0])), (l2, .inr (2, [.int 0, .ref dE, .int 0]))]) (tr := []) (t1 := []) hP hD hK [0, 1, 2] [3] [] rfl rfl rfl (by decide) (by decide) hk1 hFc ht hvm hB
  have hP : va_P (dC, dI) vwCl [(o0, .inr (10, [.long 0, .double FP.dconst0, .null])), (m0, .inr (13, [.int 0, .int 7, .int 0, .ref l1, .ref l2])), (l1, .inr (2, [.int 0, .ref dE, .int 0])), (l2, .inr (2, [.int 0, .ref dE, .int 0]))] H := hP
  have hD : va_D A [(o0, .inr (10, [.long 0, .double FP.dconst0, .null])), (m0, .inr (13, [.int 0, .int 7, .int 0, .ref l1, .ref l2])), (l1, .inr (2, [.int 0, .ref dE, .int 0])), (l2, .inr (2, [.int 0, .ref dE, .int 0]))] := hD
  have hK : va_K (dC, dI) vwCl [] s := hK
  subst hw
  refine W.widen (k := 38) (n := 525) (by omega) (by omega) ?_
  refine lv_istore (lv' := [(6, .int 0), (5, .int 0), (4, .int 0), (3, .ref o0), (2, .ref m0), (1, .ref h0), (0, .ref b)]) hx hb dL_law_2099 hl (by decide) rfl (fun ls hl => ?_)
  refine lv_aload_n hx hb dL_law_2101 rfl (lv_at hl 4 rfl) ?_
  have hPc := hP.sub (ws' := [(m0, .inr (13, [.int 0, .int 7, .int 0, .ref l1, .ref l2]))]) [1] rfl
  have hDc := hD.sub (ws' := [(m0, .inr (13, [.int 0, .int 7, .int 0, .ref l1, .ref l2]))]) [1] (by decide) rfl
  have hKc := hK.sub (tys' := []) [] rfl
  have hFc := va_free (wc := [(m0, .inr (13, [.int 0, .int 7, .int 0, .ref l1, .ref l2]))]) hD hS hA [1] rfl
  refine va_calli (va_runV (As := []) (rest := []) ⟨hx, hb, hml, hown, hts⟩ (c_M_thrown l dC dI dE m0 0 7 0 l1 l2 H.size) (cwV 0 hts gL_law_X10_thrown rfl rfl rfl (by decide +kernel) ⟨Nat.le_of_ble_eq_true rfl, Nat.le_of_ble_eq_true rfl⟩) ⟨fun a U g mk q => ⟨q.1, PB.blind q.2⟩, va_recv hKc hPc (ci := 13) (q0 := 0) rfl rfl, fun U hU hW => ⟨rfl, PB.call hPc hKc hDc hTb hZ hS hFc hU hW⟩⟩ rfl rfl hl.1 rfl (lv_room (Nat.le_of_ble_eq_true rfl)) dL_law_2102 ⟨Nat.le_of_ble_eq_true rfl, Nat.le_of_ble_eq_true rfl⟩) hS (fun q _ h => hFc q h) hFc (fun r u t H locs ht hvm hw hB hz1 hk1 hS => ?_)
  obtain ⟨hP, hD, hK⟩ := PE.join0 (wc := [(m0, .inr (13, [.int 0, .int 7, .int 0, .ref l1, .ref l2]))]) (wr := [(o0, .inr (10, [.long 0, .double FP.dconst0, .null])), (l1, .inr (2, [.int 0, .ref dE, .int 0])), (l2, .inr (2, [.int 0, .ref dE, .int 0]))]) (tr := []) hP hD hK [1] [0, 2, 3] [] rfl rfl rfl (by decide) (by decide) hk1 hFc
  have hP : va_P (dC, dI) vwCl [(o0, .inr (10, [.long 0, .double FP.dconst0, .null])), (l1, .inr (2, [.int 0, .ref dE, .int 0])), (l2, .inr (2, [.int 0, .ref dE, .int 0]))] H := hP
  have hD : va_D A [(o0, .inr (10, [.long 0, .double FP.dconst0, .null])), (l1, .inr (2, [.int 0, .ref dE, .int 0])), (l2, .inr (2, [.int 0, .ref dE, .int 0]))] := hD
  have hK : va_K (dC, dI) vwCl [] s := hK
  subst hw
  refine lv_iload hx hb dL_law_2105 (lv_at hl 1 rfl) ?_
  refine lv_icmp_eq (tgt := 2112) hx hb dL_law_2107 (by decide) (fun _ => ?_) (fun c9 => absurd (by decide) c9)
  refine lv_iload hx hb dL_law_2112 (lv_at hl 1 rfl) ?_
  refine lv_if_ne (tgt := 2130) hx hb dL_law_2114 (by decide) (fun c9 => absurd (by decide) c9) (fun _ => ?_)
  refine lv_aload_n hx hb dL_law_2117 rfl (lv_at hl 3 rfl) ?_
  refine va_getN (D := (dC, dI)) (ci := 10) (v := .long 0) (C := RX7) (T := TX7) (N := 3) hx hb hts inlX7 hown hK hP 0 rfl rfl 0 (by decide) (va_Nw.use rfl (Tb_f1 hTb)) (fun _ h9 => h9) rfl dL_law_2118 ?_
  refine lv_iload hx hb dL_law_2121 (lv_at hl 0 rfl) ?_
  refine lv_i2l (v := 0) hx hb dL_law_2123 (by decide) ?_
  refine W.lcmp hx hb dL_law_2124 ?_
  refine lv_topi (fun f3 ef3 => ?_)
  obtain rfl : f3 = 0 := ef3.trans (by decide)
  refine lv_if_eq (tgt := 2130) hx hb dL_law_2125 (by decide) (fun _ => ?_) (fun c9 => absurd (by decide) c9)
  refine lv_goto (tgt := 2435) hx hb dL_law_2130 (by decide) ?_
  exact lk_end C0 hA2 hbA hS (Nat.le_of_ble_eq_true rfl) (Nat.le_of_ble_eq_true rfl) (lv_sub hl [2, 6] rfl)

set_option maxHeartbeats 4000000 in
set_option maxRecDepth 100000 in
/-- lk_many_7 -/
theorem lk_many_7 {p : Program} {e : Env} {s : State} {m : MethodId} {below : List Frame} {meth : Method} {c : Code} {l : Launch} (hst : l.stackTraces = false) {b : Nat} {xs : Nat → Int32} (C0 : lw_At p s m meth c b 4 xs) {A : Nat → Prop} (hA : ∀ q : Nat, s.heap.size ≤ q → A q) (hA2 : ∀ q : Nat, A q → s.heap.size ≤ q) (hbA : ¬ A b) {dC : Nat → ClassId} {dI : Nat → Nat → Nat} {dE : Nat} (h0 a1 a2 w1 p1 o1 : Nat) (cA1 cA2 : ClassId) (m0 l1 l2 o0 : Nat) (hk : (xs (Int32.toNatClampNeg 1)) = 7) (hTb : Tb s) (hZ : Zq2 dE A s s.heap) {H : Heap} {locs : List Loc} (hK : va_K (dC, dI) vwCl [(cA1, .object RX0), (cA2, .object RX1)] s) (hP : va_P (dC, dI) vwCl [(h0, .inr (9, [.int 7, .ref a1, .int 0, .ref a2, .int 0, .int 0, .ref w1, .ref p1, .ref o1])), (a1, .inl (cA1, 4, .inr (.inr (.inr (.inr (fun _ => none)))))), (a2, .inl (cA2, 10, .inr (.inr (.inr (.inr (fun _ => none)))))), (m0, .inr (13, [.int 0, .int 7, .int 0, .ref l1, .ref l2])), (l1, .inr (2, [.int 0, .ref dE, .int 0])), (l2, .inr (2, [.int 0, .ref dE, .int 0])), (o0, .inr (10, [.long 0, .double FP.dconst0, .null]))] H) (hD : va_D A [(h0, .inr (9, [.int 7, .ref a1, .int 0, .ref a2, .int 0, .int 0, .ref w1, .ref p1, .ref o1])), (a1, .inl (cA1, 4, .inr (.inr (.inr (.inr (fun _ => none)))))), (a2, .inl (cA2, 10, .inr (.inr (.inr (.inr (fun _ => none)))))), (m0, .inr (13, [.int 0, .int 7, .int 0, .ref l1, .ref l2])), (l1, .inr (2, [.int 0, .ref dE, .int 0])), (l2, .inr (2, [.int 0, .ref dE, .int 0])), (o0, .inr (10, [.long 0, .double FP.dconst0, .null]))]) (hS : va_S A s.heap H locs) {ls : Array Slot} (hl : lv_has ls 9 [(4, .int 0), (3, .ref o0), (2, .ref m0), (1, .ref h0), (0, .ref b)]) : W p l e room_1 s m #[Value.ref b] below meth c H locs 37 517 (lw_Z below #[Value.ref b] s) (F0 m 2076 ls []) := by
  obtain ⟨hx, hb, hr, hml, hown, hts0, hX, hbl, hlocks, hgv⟩ := id C0
  have hts : ∀ w ∈ wsL_law, w.before #[Value.ref b] s = true := lw_words hts0
  refine lv_aload_n hx hb dL_law_2076 rfl (lv_at hl 3 rfl) ?_
  refine lv_aload_n hx hb dL_law_2077 rfl (lv_at hl 4 rfl) ?_
  refine lv_iload hx hb dL_law_2078 (lv_at hl 0 rfl) ?_
  refine lv_iconst (v := 1) hx hb dL_law_2080 (by decide) ?_
  refine lv_iadd hx hb dL_law_2081 ?_
  refine lv_topi (fun f1 ef1 => ?_)
  obtain rfl : f1 = 1 := ef1.trans (by decide)
  refine va_sld hx hb hX hbl hbA hS (by unfold vp_in; decide) dL_law_2082 ?_
  refine W.eq (g2 := F0 m 2083 ls [.int 7, .ref h0]) (by rw [hk]) ?_
  refine lv_aload_n hx hb dL_law_2083 rfl (lv_at hl 1 rfl) ?_
  have hPc := hP.sub (ws' := [(h0, .inr (9, [.int 7, .ref a1, .int 0, .ref a2, .int 0, .int 0, .ref w1, .ref p1, .ref o1])), (a1, .inl (cA1, 4, .inr (.inr (.inr (.inr (fun _ => none)))))), (a2, .inl (cA2, 10, .inr (.inr (.inr (.inr (fun _ => none)))))), (o0, .inr (10, [.long 0, .double FP.dconst0, .null]))]) [0, 1, 2, 6] rfl
  have hDc := hD.sub (ws' := [(h0, .inr (9, [.int 7, .ref a1, .int 0, .ref a2, .int 0, .int 0, .ref w1, .ref p1, .ref o1])), (a1, .inl (cA1, 4, .inr (.inr (.inr (.inr (fun _ => none)))))), (a2, .inl (cA2, 10, .inr (.inr (.inr (.inr (fun _ => none)))))), (o0, .inr (10, [.long 0, .double FP.dconst0, .null]))]) [0, 1, 2, 6] (by decide) rfl
  have hKc := hK.sub (tys' := [(cA1, .object RX0), (cA2, .object RX1)]) [0, 1] rfl
  have hFc := va_free (wc := [(h0, .inr (9, [.int 7, .ref a1, .int 0, .ref a2, .int 0, .int 0, .ref w1, .ref p1, .ref o1])), (a1, .inl (cA1, 4, .inr (.inr (.inr (.inr (fun _ => none)))))), (a2, .inl (cA2, 10, .inr (.inr (.inr (.inr (fun _ => none)))))), (o0, .inr (10, [.long 0, .double FP.dconst0, .null]))]) hD hS hA [0, 1, 2, 6] rfl
  refine va_calli (vx_runSW (As := [.ref h0, .int 7, .ref o0]) (rest := []) ⟨hx, hb, hml, hown, hts⟩ (c_L_many_7 l dC dI dE h0 a1 a2 w1 p1 o1 cA1 cA2 o0 H.size) (vx_cwSW 3 hts gL_law_L_many rfl rfl rfl (by decide +kernel) ⟨Nat.le_of_ble_eq_true rfl, Nat.le_of_ble_eq_true rfl⟩) ⟨fun a U g mk q => ⟨q.1, PB.blind q.2⟩, fun U hU hW => ⟨rfl, PB.call hPc hKc hDc hTb hZ hS hFc hU hW⟩⟩ rfl rfl hl.1 rfl (lv_room (Nat.le_of_ble_eq_true rfl)) dL_law_2084 ⟨Nat.le_of_ble_eq_true rfl, Nat.le_of_ble_eq_true rfl⟩) hS (fun q _ h => hFc q h) hFc (fun r u t H locs ht hvm hw hB hz1 hk1 hS => ?_)
  obtain ⟨hP, hD, hK⟩ := PE.join (wc := [(h0, .inr (9, [.int 7, .ref a1, .int 0, .ref a2, .int 0, .int 0, .ref w1, .ref p1, .ref o1])), (a1, .inl (cA1, 4, .inr (.inr (.inr (.inr (fun _ => none)))))), (a2, .inl (cA2, 10, .inr (.inr (.inr (.inr (fun _ => none)))))), (o0, .inr (10, [.long 0, .double FP.dconst0, .null]))]) (wr := [(m0, .inr (13, [.int 0, .int 7, .int 0, .ref l1, .ref l2])), (l1, .inr (2, [.int 0, .ref dE, .int 0])), (l2, .inr (2, [.int 0, .ref dE, .int 0]))]) (w1 := [(o0, .inr (10, [.long 0, .double FP.dconst0, .null]))]) (tr := []) (t1 := []) hP hD hK [0, 1, 2, 6] [3, 4, 5] [] rfl rfl rfl (by decide) (by decide) hk1 hFc ht hvm hB
  have hP : va_P (dC, dI) vwCl [(m0, .inr (13, [.int 0, .int 7, .int 0, .ref l1, .ref l2])), (l1, .inr (2, [.int 0, .ref dE, .int 0])), (l2, .inr (2, [.int 0, .ref dE, .int 0])), (o0, .inr (10, [.long 0, .double FP.dconst0, .null]))] H := hP
  have hD : va_D A [(m0, .inr (13, [.int 0, .int 7, .int 0, .ref l1, .ref l2])), (l1, .inr (2, [.int 0, .ref dE, .int 0])), (l2, .inr (2, [.int 0, .ref dE, .int 0])), (o0, .inr (10, [.long 0, .double FP.dconst0, .null]))] := hD
  have hK : va_K (dC, dI) vwCl [] s := hK
  subst hw
  refine lv_istore (lv' := [(5, .int 0), (4, .int 0), (3, .ref o0), (2, .ref m0), (1, .ref h0), (0, .ref b)]) hx hb dL_law_2087 hl (by decide) rfl (fun ls hl => ?_)
  refine lv_aload_n hx hb dL_law_2089 rfl (lv_at hl 3 rfl) ?_
  refine lv_aload_n hx hb dL_law_2090 rfl (lv_at hl 5 rfl) ?_
  refine lv_iload hx hb dL_law_2091 (lv_at hl 1 rfl) ?_
  refine lv_iconst (v := 1) hx hb dL_law_2093 (by decide) ?_
  refine lv_iadd hx hb dL_law_2094 ?_
  refine lv_topi (fun f2 ef2 => ?_)
  obtain rfl : f2 = 1 := ef2.trans (by decide)
  refine va_sld hx hb hX hbl hbA hS (by unfold vp_in; decide) dL_law_2095 ?_
  refine W.eq (g2 := F0 m 2096 ls [.int 7, .ref m0]) (by rw [hk]) ?_
  have hPc := hP.sub (ws' := [(m0, .inr (13, [.int 0, .int 7, .int 0, .ref l1, .ref l2])), (l1, .inr (2, [.int 0, .ref dE, .int 0])), (l2, .inr (2, [.int 0, .ref dE, .int 0]))]) [0, 1, 2] rfl
  have hDc := hD.sub (ws' := [(m0, .inr (13, [.int 0, .int 7, .int 0, .ref l1, .ref l2])), (l1, .inr (2, [.int 0, .ref dE, .int 0])), (l2, .inr (2, [.int 0, .ref dE, .int 0]))]) [0, 1, 2] (by decide) rfl
  have hKc := hK.sub (tys' := []) [] rfl
  have hFc := va_free (wc := [(m0, .inr (13, [.int 0, .int 7, .int 0, .ref l1, .ref l2])), (l1, .inr (2, [.int 0, .ref dE, .int 0])), (l2, .inr (2, [.int 0, .ref dE, .int 0]))]) hD hS hA [0, 1, 2] rfl
  refine va_calli (va_runV (As := [.int 7]) (rest := []) ⟨hx, hb, hml, hown, hts⟩ (c_M_many_7 l dC dI dE m0 l1 l2 H.size) (cwV 1 hts gL_law_X10_many rfl rfl rfl (by decide +kernel) ⟨Nat.le_of_ble_eq_true rfl, Nat.le_of_ble_eq_true rfl⟩) ⟨fun a U g mk q => ⟨q.1, PB.blind q.2⟩, va_recv hKc hPc (ci := 13) (q0 := 0) rfl rfl, fun U hU hW => ⟨rfl, PB.call hPc hKc hDc hTb hZ hS hFc hU hW⟩⟩ rfl rfl hl.1 rfl (lv_room (Nat.le_of_ble_eq_true rfl)) dL_law_2096 ⟨Nat.le_of_ble_eq_true rfl, Nat.le_of_ble_eq_true rfl⟩) hS (fun q _ h => hFc q h) hFc (fun r u t H locs ht hvm hw hB hz1 hk1 hS => ?_)
  obtain ⟨hP, hD, hK⟩ := PE.join (wc := [(m0, .inr (13, [.int 0, .int 7, .int 0, .ref l1, .ref l2])), (l1, .inr (2, [.int 0, .ref dE, .int 0])), (l2, .inr (2, [.int 0, .ref dE, .int 0]))]) (wr := [(o0, .inr (10, [.long 0, .double FP.dconst0, .null]))]) (w1 := [(m0, .inr (13, [.int 0, .int 7, .int 0, .ref l1, .ref l2])), (l1, .inr (2, [.int 0, .ref dE, .int 0])), (l2, .inr (2, [.int 0, .ref dE, .int 0]))]) (tr := []) (t1 := []) hP hD hK [0, 1, 2] [3] [] rfl rfl rfl (by decide) (by decide) hk1 hFc ht hvm hB
  have hP : va_P (dC, dI) vwCl [(o0, .inr (10, [.long 0, .double FP.dconst0, .null])), (m0, .inr (13, [.int 0, .int 7, .int 0, .ref l1, .ref l2])), (l1, .inr (2, [.int 0, .ref dE, .int 0])), (l2, .inr (2, [.int 0, .ref dE, .int 0]))] H := hP
  have hD : va_D A [(o0, .inr (10, [.long 0, .double FP.dconst0, .null])), (m0, .inr (13, [.int 0, .int 7, .int 0, .ref l1, .ref l2])), (l1, .inr (2, [.int 0, .ref dE, .int 0])), (l2, .inr (2, [.int 0, .ref dE, .int 0]))] := hD
  have hK : va_K (dC, dI) vwCl [] s := hK
  subst hw
  refine W.widen (k := 38) (n := 525) (by omega) (by omega) ?_
  refine lv_istore (lv' := [(6, .int 0), (5, .int 0), (4, .int 0), (3, .ref o0), (2, .ref m0), (1, .ref h0), (0, .ref b)]) hx hb dL_law_2099 hl (by decide) rfl (fun ls hl => ?_)
  refine lv_aload_n hx hb dL_law_2101 rfl (lv_at hl 4 rfl) ?_
  have hPc := hP.sub (ws' := [(m0, .inr (13, [.int 0, .int 7, .int 0, .ref l1, .ref l2]))]) [1] rfl
  have hDc := hD.sub (ws' := [(m0, .inr (13, [.int 0, .int 7, .int 0, .ref l1, .ref l2]))]) [1] (by decide) rfl
  have hKc := hK.sub (tys' := []) [] rfl
  have hFc := va_free (wc := [(m0, .inr (13, [.int 0, .int 7, .int 0, .ref l1, .ref l2]))]) hD hS hA [1] rfl
  refine va_calli (va_runV (As := []) (rest := []) ⟨hx, hb, hml, hown, hts⟩ (c_M_thrown l dC dI dE m0 0 7 0 l1 l2 H.size) (cwV 0 hts gL_law_X10_thrown rfl rfl rfl (by decide +kernel) ⟨Nat.le_of_ble_eq_true rfl, Nat.le_of_ble_eq_true rfl⟩) ⟨fun a U g mk q => ⟨q.1, PB.blind q.2⟩, va_recv hKc hPc (ci := 13) (q0 := 0) rfl rfl, fun U hU hW => ⟨rfl, PB.call hPc hKc hDc hTb hZ hS hFc hU hW⟩⟩ rfl rfl hl.1 rfl (lv_room (Nat.le_of_ble_eq_true rfl)) dL_law_2102 ⟨Nat.le_of_ble_eq_true rfl, Nat.le_of_ble_eq_true rfl⟩) hS (fun q _ h => hFc q h) hFc (fun r u t H locs ht hvm hw hB hz1 hk1 hS => ?_)
  obtain ⟨hP, hD, hK⟩ := PE.join0 (wc := [(m0, .inr (13, [.int 0, .int 7, .int 0, .ref l1, .ref l2]))]) (wr := [(o0, .inr (10, [.long 0, .double FP.dconst0, .null])), (l1, .inr (2, [.int 0, .ref dE, .int 0])), (l2, .inr (2, [.int 0, .ref dE, .int 0]))]) (tr := []) hP hD hK [1] [0, 2, 3] [] rfl rfl rfl (by decide) (by decide) hk1 hFc
  have hP : va_P (dC, dI) vwCl [(o0, .inr (10, [.long 0, .double FP.dconst0, .null])), (l1, .inr (2, [.int 0, .ref dE, .int 0])), (l2, .inr (2, [.int 0, .ref dE, .int 0]))] H := hP
  have hD : va_D A [(o0, .inr (10, [.long 0, .double FP.dconst0, .null])), (l1, .inr (2, [.int 0, .ref dE, .int 0])), (l2, .inr (2, [.int 0, .ref dE, .int 0]))] := hD
  have hK : va_K (dC, dI) vwCl [] s := hK
  subst hw
  refine lv_iload hx hb dL_law_2105 (lv_at hl 1 rfl) ?_
  refine lv_icmp_eq (tgt := 2112) hx hb dL_law_2107 (by decide) (fun _ => ?_) (fun c9 => absurd (by decide) c9)
  refine lv_iload hx hb dL_law_2112 (lv_at hl 1 rfl) ?_
  refine lv_if_ne (tgt := 2130) hx hb dL_law_2114 (by decide) (fun c9 => absurd (by decide) c9) (fun _ => ?_)
  refine lv_aload_n hx hb dL_law_2117 rfl (lv_at hl 3 rfl) ?_
  refine va_getN (D := (dC, dI)) (ci := 10) (v := .long 0) (C := RX7) (T := TX7) (N := 3) hx hb hts inlX7 hown hK hP 0 rfl rfl 0 (by decide) (va_Nw.use rfl (Tb_f1 hTb)) (fun _ h9 => h9) rfl dL_law_2118 ?_
  refine lv_iload hx hb dL_law_2121 (lv_at hl 0 rfl) ?_
  refine lv_i2l (v := 0) hx hb dL_law_2123 (by decide) ?_
  refine W.lcmp hx hb dL_law_2124 ?_
  refine lv_topi (fun f3 ef3 => ?_)
  obtain rfl : f3 = 0 := ef3.trans (by decide)
  refine lv_if_eq (tgt := 2130) hx hb dL_law_2125 (by decide) (fun _ => ?_) (fun c9 => absurd (by decide) c9)
  refine lv_goto (tgt := 2435) hx hb dL_law_2130 (by decide) ?_
  exact lk_end C0 hA2 hbA hS (Nat.le_of_ble_eq_true rfl) (Nat.le_of_ble_eq_true rfl) (lv_sub hl [2, 6] rfl)

set_option maxHeartbeats 4000000 in
set_option maxRecDepth 100000 in
/-- lk_many_no -/
theorem lk_many_no {p : Program} {e : Env} {s : State} {m : MethodId} {below : List Frame} {meth : Method} {c : Code} {l : Launch} (hst : l.stackTraces = false) {b : Nat} {xs : Nat → Int32} (C0 : lw_At p s m meth c b 4 xs) {A : Nat → Prop} (hA : ∀ q : Nat, s.heap.size ≤ q → A q) (hA2 : ∀ q : Nat, A q → s.heap.size ≤ q) (hbA : ¬ A b) {dC : Nat → ClassId} {dI : Nat → Nat → Nat} {dE : Nat} (h0 a1 a2 w1 p1 o1 : Nat) (cA1 cA2 : ClassId) (m0 l1 l2 o0 : Nat) (hm : (xs (Int32.toNatClampNeg 1)).toInt < 0 ∨ 7 < (xs (Int32.toNatClampNeg 1)).toInt) (hTb : Tb s) (hZ : Zq2 dE A s s.heap) {H : Heap} {locs : List Loc} (hK : va_K (dC, dI) vwCl [(cA1, .object RX0), (cA2, .object RX1)] s) (hP : va_P (dC, dI) vwCl [(h0, .inr (9, [.int 7, .ref a1, .int 0, .ref a2, .int 0, .int 0, .ref w1, .ref p1, .ref o1])), (a1, .inl (cA1, 4, .inr (.inr (.inr (.inr (fun _ => none)))))), (a2, .inl (cA2, 10, .inr (.inr (.inr (.inr (fun _ => none)))))), (m0, .inr (13, [.int 0, .int 7, .int 0, .ref l1, .ref l2])), (l1, .inr (2, [.int 0, .ref dE, .int 0])), (l2, .inr (2, [.int 0, .ref dE, .int 0])), (o0, .inr (10, [.long 0, .double FP.dconst0, .null]))] H) (hD : va_D A [(h0, .inr (9, [.int 7, .ref a1, .int 0, .ref a2, .int 0, .int 0, .ref w1, .ref p1, .ref o1])), (a1, .inl (cA1, 4, .inr (.inr (.inr (.inr (fun _ => none)))))), (a2, .inl (cA2, 10, .inr (.inr (.inr (.inr (fun _ => none)))))), (m0, .inr (13, [.int 0, .int 7, .int 0, .ref l1, .ref l2])), (l1, .inr (2, [.int 0, .ref dE, .int 0])), (l2, .inr (2, [.int 0, .ref dE, .int 0])), (o0, .inr (10, [.long 0, .double FP.dconst0, .null]))]) (hS : va_S A s.heap H locs) {ls : Array Slot} (hl : lv_has ls 9 [(4, .int 0), (3, .ref o0), (2, .ref m0), (1, .ref h0), (0, .ref b)]) : W p l e room_1 s m #[Value.ref b] below meth c H locs 37 517 (lw_Z below #[Value.ref b] s) (F0 m 2076 ls []) := by
  obtain ⟨hx, hb, hr, hml, hown, hts0, hX, hbl, hlocks, hgv⟩ := id C0
  have hts : ∀ w ∈ wsL_law, w.before #[Value.ref b] s = true := lw_words hts0
  refine lv_aload_n hx hb dL_law_2076 rfl (lv_at hl 3 rfl) ?_
  refine lv_aload_n hx hb dL_law_2077 rfl (lv_at hl 4 rfl) ?_
  refine lv_iload hx hb dL_law_2078 (lv_at hl 0 rfl) ?_
  refine lv_iconst (v := 1) hx hb dL_law_2080 (by decide) ?_
  refine lv_iadd hx hb dL_law_2081 ?_
  refine lv_topi (fun f1 ef1 => ?_)
  obtain rfl : f1 = 1 := ef1.trans (by decide)
  refine va_sld hx hb hX hbl hbA hS (by unfold vp_in; decide) dL_law_2082 ?_
  refine lv_aload_n hx hb dL_law_2083 rfl (lv_at hl 1 rfl) ?_
  have hPc := hP.sub (ws' := [(h0, .inr (9, [.int 7, .ref a1, .int 0, .ref a2, .int 0, .int 0, .ref w1, .ref p1, .ref o1])), (a1, .inl (cA1, 4, .inr (.inr (.inr (.inr (fun _ => none)))))), (a2, .inl (cA2, 10, .inr (.inr (.inr (.inr (fun _ => none))))))]) [0, 1, 2] rfl
  have hDc := hD.sub (ws' := [(h0, .inr (9, [.int 7, .ref a1, .int 0, .ref a2, .int 0, .int 0, .ref w1, .ref p1, .ref o1])), (a1, .inl (cA1, 4, .inr (.inr (.inr (.inr (fun _ => none)))))), (a2, .inl (cA2, 10, .inr (.inr (.inr (.inr (fun _ => none))))))]) [0, 1, 2] (by decide) rfl
  have hKc := hK.sub (tys' := [(cA1, .object RX0), (cA2, .object RX1)]) [0, 1] rfl
  have hFc := va_free (wc := [(h0, .inr (9, [.int 7, .ref a1, .int 0, .ref a2, .int 0, .int 0, .ref w1, .ref p1, .ref o1])), (a1, .inl (cA1, 4, .inr (.inr (.inr (.inr (fun _ => none)))))), (a2, .inl (cA2, 10, .inr (.inr (.inr (.inr (fun _ => none))))))]) hD hS hA [0, 1, 2] rfl
  refine va_calli (vx_runSW (As := [.ref h0, .int (xs (Int32.toNatClampNeg 1)), .ref o0]) (rest := []) ⟨hx, hb, hml, hown, hts⟩ (c_L_many_no l hst dC dI dE h0 a1 a2 w1 p1 o1 cA1 cA2 (xs (Int32.toNatClampNeg 1)) o0 H.size hm) (vx_cwSW 3 hts gL_law_L_many rfl rfl rfl (by decide +kernel) ⟨Nat.le_of_ble_eq_true rfl, Nat.le_of_ble_eq_true rfl⟩) ⟨fun a U g mk q => ⟨q.1, PB.blind q.2⟩, fun U hU hW => ⟨rfl, PB.call hPc hKc hDc hTb hZ hS hFc hU hW⟩⟩ rfl rfl hl.1 rfl (lv_room (Nat.le_of_ble_eq_true rfl)) dL_law_2084 ⟨Nat.le_of_ble_eq_true rfl, Nat.le_of_ble_eq_true rfl⟩) hS (fun q _ h => hFc q h) hFc (fun r u t H locs ht hvm hw hB hz1 hk1 hS => ?_)
  obtain ⟨hP, hD, hK⟩ := PE.join0 (wc := [(h0, .inr (9, [.int 7, .ref a1, .int 0, .ref a2, .int 0, .int 0, .ref w1, .ref p1, .ref o1])), (a1, .inl (cA1, 4, .inr (.inr (.inr (.inr (fun _ => none)))))), (a2, .inl (cA2, 10, .inr (.inr (.inr (.inr (fun _ => none))))))]) (wr := [(m0, .inr (13, [.int 0, .int 7, .int 0, .ref l1, .ref l2])), (l1, .inr (2, [.int 0, .ref dE, .int 0])), (l2, .inr (2, [.int 0, .ref dE, .int 0])), (o0, .inr (10, [.long 0, .double FP.dconst0, .null]))]) (tr := []) hP hD hK [0, 1, 2] [3, 4, 5, 6] [] rfl rfl rfl (by decide) (by decide) hk1 hFc
  have hP : va_P (dC, dI) vwCl [(m0, .inr (13, [.int 0, .int 7, .int 0, .ref l1, .ref l2])), (l1, .inr (2, [.int 0, .ref dE, .int 0])), (l2, .inr (2, [.int 0, .ref dE, .int 0])), (o0, .inr (10, [.long 0, .double FP.dconst0, .null]))] H := hP
  have hD : va_D A [(m0, .inr (13, [.int 0, .int 7, .int 0, .ref l1, .ref l2])), (l1, .inr (2, [.int 0, .ref dE, .int 0])), (l2, .inr (2, [.int 0, .ref dE, .int 0])), (o0, .inr (10, [.long 0, .double FP.dconst0, .null]))] := hD
  have hK : va_K (dC, dI) vwCl [] s := hK
  subst hw
  refine W.widen (k := 38) (n := 523) (by omega) (by omega) ?_
  refine lv_istore (lv' := [(5, .int 1), (4, .int 0), (3, .ref o0), (2, .ref m0), (1, .ref h0), (0, .ref b)]) hx hb dL_law_2087 hl (by decide) rfl (fun ls hl => ?_)
  refine lv_aload_n hx hb dL_law_2089 rfl (lv_at hl 3 rfl) ?_
  refine lv_aload_n hx hb dL_law_2090 rfl (lv_at hl 5 rfl) ?_
  refine lv_iload hx hb dL_law_2091 (lv_at hl 1 rfl) ?_
  refine lv_iconst (v := 1) hx hb dL_law_2093 (by decide) ?_
  refine lv_iadd hx hb dL_law_2094 ?_
  refine lv_topi (fun f2 ef2 => ?_)
  obtain rfl : f2 = 1 := ef2.trans (by decide)
  refine va_sld hx hb hX hbl hbA hS (by unfold vp_in; decide) dL_law_2095 ?_
  have hPc := hP.sub (ws' := [(m0, .inr (13, [.int 0, .int 7, .int 0, .ref l1, .ref l2])), (l1, .inr (2, [.int 0, .ref dE, .int 0])), (l2, .inr (2, [.int 0, .ref dE, .int 0]))]) [0, 1, 2] rfl
  have hDc := hD.sub (ws' := [(m0, .inr (13, [.int 0, .int 7, .int 0, .ref l1, .ref l2])), (l1, .inr (2, [.int 0, .ref dE, .int 0])), (l2, .inr (2, [.int 0, .ref dE, .int 0]))]) [0, 1, 2] (by decide) rfl
  have hKc := hK.sub (tys' := []) [] rfl
  have hFc := va_free (wc := [(m0, .inr (13, [.int 0, .int 7, .int 0, .ref l1, .ref l2])), (l1, .inr (2, [.int 0, .ref dE, .int 0])), (l2, .inr (2, [.int 0, .ref dE, .int 0]))]) hD hS hA [0, 1, 2] rfl
  refine va_calli (va_runV (As := [.int (xs (Int32.toNatClampNeg 1))]) (rest := []) ⟨hx, hb, hml, hown, hts⟩ (c_M_many_no l dC dI dE m0 l1 l2 (xs (Int32.toNatClampNeg 1)) H.size hm) (cwV 1 hts gL_law_X10_many rfl rfl rfl (by decide +kernel) ⟨Nat.le_of_ble_eq_true rfl, Nat.le_of_ble_eq_true rfl⟩) ⟨fun a U g mk q => ⟨q.1, PB.blind q.2⟩, va_recv hKc hPc (ci := 13) (q0 := 0) rfl rfl, fun U hU hW => ⟨rfl, PB.call hPc hKc hDc hTb hZ hS hFc hU hW⟩⟩ rfl rfl hl.1 rfl (lv_room (Nat.le_of_ble_eq_true rfl)) dL_law_2096 ⟨Nat.le_of_ble_eq_true rfl, Nat.le_of_ble_eq_true rfl⟩) hS (fun q _ h => hFc q h) hFc (fun r u t H locs ht hvm hw hB hz1 hk1 hS => ?_)
  obtain ⟨hP, hD, hK⟩ := PE.join (wc := [(m0, .inr (13, [.int 0, .int 7, .int 0, .ref l1, .ref l2])), (l1, .inr (2, [.int 0, .ref dE, .int 0])), (l2, .inr (2, [.int 0, .ref dE, .int 0]))]) (wr := [(o0, .inr (10, [.long 0, .double FP.dconst0, .null]))]) (w1 := [(m0, .inr (13, [.int 1, .int 7, .int 0, .ref l1, .ref l2])), (l1, .inr (2, [.int 0, .ref dE, .int 0])), (l2, .inr (2, [.int 0, .ref dE, .int 0]))]) (tr := []) (t1 := []) hP hD hK [0, 1, 2] [3] [] rfl rfl rfl (by decide) (by decide) hk1 hFc ht hvm hB
  have hP : va_P (dC, dI) vwCl [(o0, .inr (10, [.long 0, .double FP.dconst0, .null])), (m0, .inr (13, [.int 1, .int 7, .int 0, .ref l1, .ref l2])), (l1, .inr (2, [.int 0, .ref dE, .int 0])), (l2, .inr (2, [.int 0, .ref dE, .int 0]))] H := hP
  have hD : va_D A [(o0, .inr (10, [.long 0, .double FP.dconst0, .null])), (m0, .inr (13, [.int 1, .int 7, .int 0, .ref l1, .ref l2])), (l1, .inr (2, [.int 0, .ref dE, .int 0])), (l2, .inr (2, [.int 0, .ref dE, .int 0]))] := hD
  have hK : va_K (dC, dI) vwCl [] s := hK
  subst hw
  refine lv_istore (lv' := [(6, .int 0), (5, .int 1), (4, .int 0), (3, .ref o0), (2, .ref m0), (1, .ref h0), (0, .ref b)]) hx hb dL_law_2099 hl (by decide) rfl (fun ls hl => ?_)
  refine lv_aload_n hx hb dL_law_2101 rfl (lv_at hl 4 rfl) ?_
  have hPc := hP.sub (ws' := [(m0, .inr (13, [.int 1, .int 7, .int 0, .ref l1, .ref l2]))]) [1] rfl
  have hDc := hD.sub (ws' := [(m0, .inr (13, [.int 1, .int 7, .int 0, .ref l1, .ref l2]))]) [1] (by decide) rfl
  have hKc := hK.sub (tys' := []) [] rfl
  have hFc := va_free (wc := [(m0, .inr (13, [.int 1, .int 7, .int 0, .ref l1, .ref l2]))]) hD hS hA [1] rfl
  refine va_calli (va_runV (As := []) (rest := []) ⟨hx, hb, hml, hown, hts⟩ (c_M_thrown l dC dI dE m0 1 7 0 l1 l2 H.size) (cwV 0 hts gL_law_X10_thrown rfl rfl rfl (by decide +kernel) ⟨Nat.le_of_ble_eq_true rfl, Nat.le_of_ble_eq_true rfl⟩) ⟨fun a U g mk q => ⟨q.1, PB.blind q.2⟩, va_recv hKc hPc (ci := 13) (q0 := 0) rfl rfl, fun U hU hW => ⟨rfl, PB.call hPc hKc hDc hTb hZ hS hFc hU hW⟩⟩ rfl rfl hl.1 rfl (lv_room (Nat.le_of_ble_eq_true rfl)) dL_law_2102 ⟨Nat.le_of_ble_eq_true rfl, Nat.le_of_ble_eq_true rfl⟩) hS (fun q _ h => hFc q h) hFc (fun r u t H locs ht hvm hw hB hz1 hk1 hS => ?_)
  obtain ⟨hP, hD, hK⟩ := PE.join0 (wc := [(m0, .inr (13, [.int 1, .int 7, .int 0, .ref l1, .ref l2]))]) (wr := [(o0, .inr (10, [.long 0, .double FP.dconst0, .null])), (l1, .inr (2, [.int 0, .ref dE, .int 0])), (l2, .inr (2, [.int 0, .ref dE, .int 0]))]) (tr := []) hP hD hK [1] [0, 2, 3] [] rfl rfl rfl (by decide) (by decide) hk1 hFc
  have hP : va_P (dC, dI) vwCl [(o0, .inr (10, [.long 0, .double FP.dconst0, .null])), (l1, .inr (2, [.int 0, .ref dE, .int 0])), (l2, .inr (2, [.int 0, .ref dE, .int 0]))] H := hP
  have hD : va_D A [(o0, .inr (10, [.long 0, .double FP.dconst0, .null])), (l1, .inr (2, [.int 0, .ref dE, .int 0])), (l2, .inr (2, [.int 0, .ref dE, .int 0]))] := hD
  have hK : va_K (dC, dI) vwCl [] s := hK
  subst hw
  refine lv_iload hx hb dL_law_2105 (lv_at hl 1 rfl) ?_
  refine lv_icmp_eq (tgt := 2112) hx hb dL_law_2107 (by decide) (fun _ => ?_) (fun c9 => absurd (by decide) c9)
  refine lv_iload hx hb dL_law_2112 (lv_at hl 1 rfl) ?_
  refine lv_if_ne (tgt := 2130) hx hb dL_law_2114 (by decide) (fun _ => ?_) (fun c9 => absurd c9 (by decide))
  refine lv_goto (tgt := 2435) hx hb dL_law_2130 (by decide) ?_
  exact lk_end C0 hA2 hbA hS (Nat.le_of_ble_eq_true rfl) (Nat.le_of_ble_eq_true rfl) (lv_sub hl [2, 6] rfl)

set_option maxHeartbeats 4000000 in
set_option maxRecDepth 100000 in
/-- lk_28 -/
theorem lk_28 {p : Program} {e : Env} {s : State} {m : MethodId} {below : List Frame} {meth : Method} {c : Code} {l : Launch} (hst : l.stackTraces = false) {b : Nat} {xs : Nat → Int32} (C0 : lw_At p s m meth c b 4 xs) {A : Nat → Prop} (hA : ∀ q : Nat, s.heap.size ≤ q → A q) (hA2 : ∀ q : Nat, A q → s.heap.size ≤ q) (hbA : ¬ A b) {dC : Nat → ClassId} {dI : Nat → Nat → Nat} {dE : Nat} (h0 a1 a2 w1 p1 o1 : Nat) (cA1 cA2 : ClassId) (m0 l1 l2 o0 : Nat) (hTb : Tb s) (hZ : Zq2 dE A s s.heap) {H : Heap} {locs : List Loc} (hK : va_K (dC, dI) vwCl [(cA1, .object RX0), (cA2, .object RX1)] s) (hP : va_P (dC, dI) vwCl [(h0, .inr (9, [.int 7, .ref a1, .int 0, .ref a2, .int 0, .int 0, .ref w1, .ref p1, .ref o1])), (a1, .inl (cA1, 4, .inr (.inr (.inr (.inr (fun _ => none)))))), (a2, .inl (cA2, 10, .inr (.inr (.inr (.inr (fun _ => none)))))), (m0, .inr (13, [.int 0, .int 7, .int 0, .ref l1, .ref l2])), (l1, .inr (2, [.int 0, .ref dE, .int 0])), (l2, .inr (2, [.int 0, .ref dE, .int 0])), (o0, .inr (10, [.long 0, .double FP.dconst0, .null]))] H) (hD : va_D A [(h0, .inr (9, [.int 7, .ref a1, .int 0, .ref a2, .int 0, .int 0, .ref w1, .ref p1, .ref o1])), (a1, .inl (cA1, 4, .inr (.inr (.inr (.inr (fun _ => none)))))), (a2, .inl (cA2, 10, .inr (.inr (.inr (.inr (fun _ => none)))))), (m0, .inr (13, [.int 0, .int 7, .int 0, .ref l1, .ref l2])), (l1, .inr (2, [.int 0, .ref dE, .int 0])), (l2, .inr (2, [.int 0, .ref dE, .int 0])), (o0, .inr (10, [.long 0, .double FP.dconst0, .null]))]) (hS : va_S A s.heap H locs) {ls : Array Slot} (hl : lv_has ls 9 [(4, .int 0), (3, .ref o0), (2, .ref m0), (1, .ref h0), (0, .ref b)]) : W p l e room_1 s m #[Value.ref b] below meth c H locs 37 517 (lw_Z below #[Value.ref b] s) (F0 m 2076 ls []) := by
  by_cases k0 : (xs (Int32.toNatClampNeg 1)) = 0
  · exact lk_many_0 hst C0 hA hA2 hbA h0 a1 a2 w1 p1 o1 cA1 cA2 m0 l1 l2 o0 k0 hTb hZ hK hP hD hS hl
  by_cases k1 : (xs (Int32.toNatClampNeg 1)) = 1
  · exact lk_many_1 hst C0 hA hA2 hbA h0 a1 a2 w1 p1 o1 cA1 cA2 m0 l1 l2 o0 k1 hTb hZ hK hP hD hS hl
  by_cases k2 : (xs (Int32.toNatClampNeg 1)) = 2
  · exact lk_many_2 hst C0 hA hA2 hbA h0 a1 a2 w1 p1 o1 cA1 cA2 m0 l1 l2 o0 k2 hTb hZ hK hP hD hS hl
  by_cases k3 : (xs (Int32.toNatClampNeg 1)) = 3
  · exact lk_many_3 hst C0 hA hA2 hbA h0 a1 a2 w1 p1 o1 cA1 cA2 m0 l1 l2 o0 k3 hTb hZ hK hP hD hS hl
  by_cases k4 : (xs (Int32.toNatClampNeg 1)) = 4
  · exact lk_many_4 hst C0 hA hA2 hbA h0 a1 a2 w1 p1 o1 cA1 cA2 m0 l1 l2 o0 k4 hTb hZ hK hP hD hS hl
  by_cases k5 : (xs (Int32.toNatClampNeg 1)) = 5
  · exact lk_many_5 hst C0 hA hA2 hbA h0 a1 a2 w1 p1 o1 cA1 cA2 m0 l1 l2 o0 k5 hTb hZ hK hP hD hS hl
  by_cases k6 : (xs (Int32.toNatClampNeg 1)) = 6
  · exact lk_many_6 hst C0 hA hA2 hbA h0 a1 a2 w1 p1 o1 cA1 cA2 m0 l1 l2 o0 k6 hTb hZ hK hP hD hS hl
  by_cases k7 : (xs (Int32.toNatClampNeg 1)) = 7
  · exact lk_many_7 hst C0 hA hA2 hbA h0 a1 a2 w1 p1 o1 cA1 cA2 m0 l1 l2 o0 k7 hTb hZ hK hP hD hS hl
  have hm : (xs (Int32.toNatClampNeg 1)).toInt < 0 ∨ 7 < (xs (Int32.toNatClampNeg 1)).toInt := law_many (fun j hj => by
    rcases (show j = 0 ∨ j = 1 ∨ j = 2 ∨ j = 3 ∨ j = 4 ∨ j = 5 ∨ j = 6 ∨ j = 7 by omega) with rfl | rfl | rfl | rfl | rfl | rfl | rfl | rfl
    · exact fun h9 => k0 (h9.trans (by decide +kernel))
    · exact fun h9 => k1 (h9.trans (by decide +kernel))
    · exact fun h9 => k2 (h9.trans (by decide +kernel))
    · exact fun h9 => k3 (h9.trans (by decide +kernel))
    · exact fun h9 => k4 (h9.trans (by decide +kernel))
    · exact fun h9 => k5 (h9.trans (by decide +kernel))
    · exact fun h9 => k6 (h9.trans (by decide +kernel))
    · exact fun h9 => k7 (h9.trans (by decide +kernel)))
  exact lk_many_no hst C0 hA hA2 hbA h0 a1 a2 w1 p1 o1 cA1 cA2 m0 l1 l2 o0 hm hTb hZ hK hP hD hS hl

set_option maxHeartbeats 4000000 in
set_option maxRecDepth 100000 in
/-- lk_29 -/
theorem lk_29 {p : Program} {e : Env} {s : State} {m : MethodId} {below : List Frame} {meth : Method} {c : Code} {l : Launch} (hst : l.stackTraces = false) {b : Nat} {xs : Nat → Int32} (C0 : lw_At p s m meth c b 4 xs) {A : Nat → Prop} (hA : ∀ q : Nat, s.heap.size ≤ q → A q) (hA2 : ∀ q : Nat, A q → s.heap.size ≤ q) (hbA : ¬ A b) {dC : Nat → ClassId} {dI : Nat → Nat → Nat} {dE : Nat} (h0 a1 a2 w1 p1 o1 : Nat) (cA1 cA2 : ClassId) (m0 l1 l2 o0 : Nat) (hTb : Tb s) (hZ : Zq2 dE A s s.heap) {H : Heap} {locs : List Loc} (hK : va_K (dC, dI) vwCl [(cA1, .object RX0), (cA2, .object RX1)] s) (hP : va_P (dC, dI) vwCl [(h0, .inr (9, [.int 7, .ref a1, .int 0, .ref a2, .int 0, .int 0, .ref w1, .ref p1, .ref o1])), (a1, .inl (cA1, 4, .inr (.inr (.inr (.inr (fun _ => none)))))), (a2, .inl (cA2, 10, .inr (.inr (.inr (.inr (fun _ => none)))))), (m0, .inr (13, [.int 0, .int 7, .int 0, .ref l1, .ref l2])), (l1, .inr (2, [.int 0, .ref dE, .int 0])), (l2, .inr (2, [.int 0, .ref dE, .int 0])), (o0, .inr (10, [.long 0, .double FP.dconst0, .null]))] H) (hD : va_D A [(h0, .inr (9, [.int 7, .ref a1, .int 0, .ref a2, .int 0, .int 0, .ref w1, .ref p1, .ref o1])), (a1, .inl (cA1, 4, .inr (.inr (.inr (.inr (fun _ => none)))))), (a2, .inl (cA2, 10, .inr (.inr (.inr (.inr (fun _ => none)))))), (m0, .inr (13, [.int 0, .int 7, .int 0, .ref l1, .ref l2])), (l1, .inr (2, [.int 0, .ref dE, .int 0])), (l2, .inr (2, [.int 0, .ref dE, .int 0])), (o0, .inr (10, [.long 0, .double FP.dconst0, .null]))]) (hS : va_S A s.heap H locs) {ls : Array Slot} (hl : lv_has ls 9 [(4, .int 0), (3, .ref o0), (2, .ref m0), (1, .ref h0), (0, .ref b)]) : W p l e room_1 s m #[Value.ref b] below meth c H locs 37 517 (lw_Z below #[Value.ref b] s) (F0 m 2133 ls []) := by
  obtain ⟨hx, hb, hr, hml, hown, hts0, hX, hbl, hlocks, hgv⟩ := id C0
  have hts : ∀ w ∈ wsL_law, w.before #[Value.ref b] s = true := lw_words hts0
  refine lv_aload_n hx hb dL_law_2133 rfl (lv_at hl 3 rfl) ?_
  refine lv_aload_n hx hb dL_law_2134 rfl (lv_at hl 4 rfl) ?_
  refine lv_iload hx hb dL_law_2135 (lv_at hl 0 rfl) ?_
  refine lv_iconst (v := 1) hx hb dL_law_2137 (by decide) ?_
  refine lv_iadd hx hb dL_law_2138 ?_
  refine lv_topi (fun f1 ef1 => ?_)
  obtain rfl : f1 = 1 := ef1.trans (by decide)
  refine va_sld hx hb hX hbl hbA hS (by unfold vp_in; decide) dL_law_2139 ?_
  refine lv_aload_n hx hb dL_law_2140 rfl (lv_at hl 4 rfl) ?_
  refine lv_iload hx hb dL_law_2141 (lv_at hl 0 rfl) ?_
  refine lv_iconst (v := 2) hx hb dL_law_2143 (by decide) ?_
  refine lv_iadd hx hb dL_law_2144 ?_
  refine lv_topi (fun f2 ef2 => ?_)
  obtain rfl : f2 = 2 := ef2.trans (by decide)
  refine va_sld hx hb hX hbl hbA hS (by unfold vp_in; decide) dL_law_2145 ?_
  refine lv_aload_n hx hb dL_law_2146 rfl (lv_at hl 1 rfl) ?_
  have hPc := hP.sub (ws' := [(h0, .inr (9, [.int 7, .ref a1, .int 0, .ref a2, .int 0, .int 0, .ref w1, .ref p1, .ref o1])), (a1, .inl (cA1, 4, .inr (.inr (.inr (.inr (fun _ => none)))))), (a2, .inl (cA2, 10, .inr (.inr (.inr (.inr (fun _ => none))))))]) [0, 1, 2] rfl
  have hDc := hD.sub (ws' := [(h0, .inr (9, [.int 7, .ref a1, .int 0, .ref a2, .int 0, .int 0, .ref w1, .ref p1, .ref o1])), (a1, .inl (cA1, 4, .inr (.inr (.inr (.inr (fun _ => none)))))), (a2, .inl (cA2, 10, .inr (.inr (.inr (.inr (fun _ => none))))))]) [0, 1, 2] (by decide) rfl
  have hKc := hK.sub (tys' := [(cA1, .object RX0), (cA2, .object RX1)]) [0, 1] rfl
  have hFc := va_free (wc := [(h0, .inr (9, [.int 7, .ref a1, .int 0, .ref a2, .int 0, .int 0, .ref w1, .ref p1, .ref o1])), (a1, .inl (cA1, 4, .inr (.inr (.inr (.inr (fun _ => none)))))), (a2, .inl (cA2, 10, .inr (.inr (.inr (.inr (fun _ => none))))))]) hD hS hA [0, 1, 2] rfl
  refine va_calli (vx_runSW (As := [.ref h0, .int (xs (Int32.toNatClampNeg 1)), .int (xs (Int32.toNatClampNeg 2)), .ref o0]) (rest := []) ⟨hx, hb, hml, hown, hts⟩ (c_L_apart l hst dC dI dE h0 a1 a2 w1 p1 o1 cA1 cA2 (xs (Int32.toNatClampNeg 1)) (xs (Int32.toNatClampNeg 2)) o0 H.size) (vx_cwSW 4 hts gL_law_L_apart rfl rfl rfl (by decide +kernel) ⟨Nat.le_of_ble_eq_true rfl, Nat.le_of_ble_eq_true rfl⟩) ⟨fun a U g mk q => ⟨q.1, PB.blind q.2⟩, fun U hU hW => ⟨rfl, PB.call hPc hKc hDc hTb hZ hS hFc hU hW⟩⟩ rfl rfl hl.1 rfl (lv_room (Nat.le_of_ble_eq_true rfl)) dL_law_2147 ⟨Nat.le_of_ble_eq_true rfl, Nat.le_of_ble_eq_true rfl⟩) hS (fun q _ h => hFc q h) hFc (fun r u t H locs ht hvm hw hB hz1 hk1 hS => ?_)
  obtain ⟨hP, hD, hK⟩ := PE.join0 (wc := [(h0, .inr (9, [.int 7, .ref a1, .int 0, .ref a2, .int 0, .int 0, .ref w1, .ref p1, .ref o1])), (a1, .inl (cA1, 4, .inr (.inr (.inr (.inr (fun _ => none)))))), (a2, .inl (cA2, 10, .inr (.inr (.inr (.inr (fun _ => none))))))]) (wr := [(m0, .inr (13, [.int 0, .int 7, .int 0, .ref l1, .ref l2])), (l1, .inr (2, [.int 0, .ref dE, .int 0])), (l2, .inr (2, [.int 0, .ref dE, .int 0])), (o0, .inr (10, [.long 0, .double FP.dconst0, .null]))]) (tr := []) hP hD hK [0, 1, 2] [3, 4, 5, 6] [] rfl rfl rfl (by decide) (by decide) hk1 hFc
  have hP : va_P (dC, dI) vwCl [(m0, .inr (13, [.int 0, .int 7, .int 0, .ref l1, .ref l2])), (l1, .inr (2, [.int 0, .ref dE, .int 0])), (l2, .inr (2, [.int 0, .ref dE, .int 0])), (o0, .inr (10, [.long 0, .double FP.dconst0, .null]))] H := hP
  have hD : va_D A [(m0, .inr (13, [.int 0, .int 7, .int 0, .ref l1, .ref l2])), (l1, .inr (2, [.int 0, .ref dE, .int 0])), (l2, .inr (2, [.int 0, .ref dE, .int 0])), (o0, .inr (10, [.long 0, .double FP.dconst0, .null]))] := hD
  have hK : va_K (dC, dI) vwCl [] s := hK
  subst hw
  refine W.widen (k := 38) (n := 523) (by omega) (by omega) ?_
  refine lv_istore (lv' := [(5, .int 1), (4, .int 0), (3, .ref o0), (2, .ref m0), (1, .ref h0), (0, .ref b)]) hx hb dL_law_2150 hl (by decide) rfl (fun ls hl => ?_)
  refine lv_aload_n hx hb dL_law_2152 rfl (lv_at hl 3 rfl) ?_
  refine lv_aload_n hx hb dL_law_2153 rfl (lv_at hl 5 rfl) ?_
  refine lv_iload hx hb dL_law_2154 (lv_at hl 1 rfl) ?_
  refine lv_iconst (v := 1) hx hb dL_law_2156 (by decide) ?_
  refine lv_iadd hx hb dL_law_2157 ?_
  refine lv_topi (fun f3 ef3 => ?_)
  obtain rfl : f3 = 1 := ef3.trans (by decide)
  refine va_sld hx hb hX hbl hbA hS (by unfold vp_in; decide) dL_law_2158 ?_
  refine lv_aload_n hx hb dL_law_2159 rfl (lv_at hl 5 rfl) ?_
  refine lv_iload hx hb dL_law_2160 (lv_at hl 1 rfl) ?_
  refine lv_iconst (v := 2) hx hb dL_law_2162 (by decide) ?_
  refine lv_iadd hx hb dL_law_2163 ?_
  refine lv_topi (fun f4 ef4 => ?_)
  obtain rfl : f4 = 2 := ef4.trans (by decide)
  refine va_sld hx hb hX hbl hbA hS (by unfold vp_in; decide) dL_law_2164 ?_
  have hPc := hP.sub (ws' := [(m0, .inr (13, [.int 0, .int 7, .int 0, .ref l1, .ref l2])), (l1, .inr (2, [.int 0, .ref dE, .int 0])), (l2, .inr (2, [.int 0, .ref dE, .int 0]))]) [0, 1, 2] rfl
  have hDc := hD.sub (ws' := [(m0, .inr (13, [.int 0, .int 7, .int 0, .ref l1, .ref l2])), (l1, .inr (2, [.int 0, .ref dE, .int 0])), (l2, .inr (2, [.int 0, .ref dE, .int 0]))]) [0, 1, 2] (by decide) rfl
  have hKc := hK.sub (tys' := []) [] rfl
  have hFc := va_free (wc := [(m0, .inr (13, [.int 0, .int 7, .int 0, .ref l1, .ref l2])), (l1, .inr (2, [.int 0, .ref dE, .int 0])), (l2, .inr (2, [.int 0, .ref dE, .int 0]))]) hD hS hA [0, 1, 2] rfl
  refine va_calli (va_runV (As := [.int (xs (Int32.toNatClampNeg 1)), .int (xs (Int32.toNatClampNeg 2))]) (rest := []) ⟨hx, hb, hml, hown, hts⟩ (c_M_apart l dC dI dE m0 l1 l2 (xs (Int32.toNatClampNeg 1)) (xs (Int32.toNatClampNeg 2)) H.size) (cwV 2 hts gL_law_X10_apart rfl rfl rfl (by decide +kernel) ⟨Nat.le_of_ble_eq_true rfl, Nat.le_of_ble_eq_true rfl⟩) ⟨fun a U g mk q => ⟨q.1, PB.blind q.2⟩, va_recv hKc hPc (ci := 13) (q0 := 0) rfl rfl, fun U hU hW => ⟨rfl, PB.call hPc hKc hDc hTb hZ hS hFc hU hW⟩⟩ rfl rfl hl.1 rfl (lv_room (Nat.le_of_ble_eq_true rfl)) dL_law_2165 ⟨Nat.le_of_ble_eq_true rfl, Nat.le_of_ble_eq_true rfl⟩) hS (fun q _ h => hFc q h) hFc (fun r u t H locs ht hvm hw hB hz1 hk1 hS => ?_)
  obtain ⟨hP, hD, hK⟩ := PE.join (wc := [(m0, .inr (13, [.int 0, .int 7, .int 0, .ref l1, .ref l2])), (l1, .inr (2, [.int 0, .ref dE, .int 0])), (l2, .inr (2, [.int 0, .ref dE, .int 0]))]) (wr := [(o0, .inr (10, [.long 0, .double FP.dconst0, .null]))]) (w1 := [(m0, .inr (13, [.int 1, .int 7, .int 0, .ref l1, .ref l2])), (l1, .inr (2, [.int 0, .ref dE, .int 0])), (l2, .inr (2, [.int 0, .ref dE, .int 0]))]) (tr := []) (t1 := []) hP hD hK [0, 1, 2] [3] [] rfl rfl rfl (by decide) (by decide) hk1 hFc ht hvm hB
  have hP : va_P (dC, dI) vwCl [(o0, .inr (10, [.long 0, .double FP.dconst0, .null])), (m0, .inr (13, [.int 1, .int 7, .int 0, .ref l1, .ref l2])), (l1, .inr (2, [.int 0, .ref dE, .int 0])), (l2, .inr (2, [.int 0, .ref dE, .int 0]))] H := hP
  have hD : va_D A [(o0, .inr (10, [.long 0, .double FP.dconst0, .null])), (m0, .inr (13, [.int 1, .int 7, .int 0, .ref l1, .ref l2])), (l1, .inr (2, [.int 0, .ref dE, .int 0])), (l2, .inr (2, [.int 0, .ref dE, .int 0]))] := hD
  have hK : va_K (dC, dI) vwCl [] s := hK
  subst hw
  refine lv_istore (lv' := [(6, .int 0), (5, .int 1), (4, .int 0), (3, .ref o0), (2, .ref m0), (1, .ref h0), (0, .ref b)]) hx hb dL_law_2168 hl (by decide) rfl (fun ls hl => ?_)
  refine lv_aload_n hx hb dL_law_2170 rfl (lv_at hl 4 rfl) ?_
  have hPc := hP.sub (ws' := [(m0, .inr (13, [.int 1, .int 7, .int 0, .ref l1, .ref l2]))]) [1] rfl
  have hDc := hD.sub (ws' := [(m0, .inr (13, [.int 1, .int 7, .int 0, .ref l1, .ref l2]))]) [1] (by decide) rfl
  have hKc := hK.sub (tys' := []) [] rfl
  have hFc := va_free (wc := [(m0, .inr (13, [.int 1, .int 7, .int 0, .ref l1, .ref l2]))]) hD hS hA [1] rfl
  refine va_calli (va_runV (As := []) (rest := []) ⟨hx, hb, hml, hown, hts⟩ (c_M_thrown l dC dI dE m0 1 7 0 l1 l2 H.size) (cwV 0 hts gL_law_X10_thrown rfl rfl rfl (by decide +kernel) ⟨Nat.le_of_ble_eq_true rfl, Nat.le_of_ble_eq_true rfl⟩) ⟨fun a U g mk q => ⟨q.1, PB.blind q.2⟩, va_recv hKc hPc (ci := 13) (q0 := 0) rfl rfl, fun U hU hW => ⟨rfl, PB.call hPc hKc hDc hTb hZ hS hFc hU hW⟩⟩ rfl rfl hl.1 rfl (lv_room (Nat.le_of_ble_eq_true rfl)) dL_law_2171 ⟨Nat.le_of_ble_eq_true rfl, Nat.le_of_ble_eq_true rfl⟩) hS (fun q _ h => hFc q h) hFc (fun r u t H locs ht hvm hw hB hz1 hk1 hS => ?_)
  obtain ⟨hP, hD, hK⟩ := PE.join0 (wc := [(m0, .inr (13, [.int 1, .int 7, .int 0, .ref l1, .ref l2]))]) (wr := [(o0, .inr (10, [.long 0, .double FP.dconst0, .null])), (l1, .inr (2, [.int 0, .ref dE, .int 0])), (l2, .inr (2, [.int 0, .ref dE, .int 0]))]) (tr := []) hP hD hK [1] [0, 2, 3] [] rfl rfl rfl (by decide) (by decide) hk1 hFc
  have hP : va_P (dC, dI) vwCl [(o0, .inr (10, [.long 0, .double FP.dconst0, .null])), (l1, .inr (2, [.int 0, .ref dE, .int 0])), (l2, .inr (2, [.int 0, .ref dE, .int 0]))] H := hP
  have hD : va_D A [(o0, .inr (10, [.long 0, .double FP.dconst0, .null])), (l1, .inr (2, [.int 0, .ref dE, .int 0])), (l2, .inr (2, [.int 0, .ref dE, .int 0]))] := hD
  have hK : va_K (dC, dI) vwCl [] s := hK
  subst hw
  refine lv_iload hx hb dL_law_2174 (lv_at hl 1 rfl) ?_
  refine lv_icmp_eq (tgt := 2181) hx hb dL_law_2176 (by decide) (fun _ => ?_) (fun c9 => absurd (by decide) c9)
  refine lv_iload hx hb dL_law_2181 (lv_at hl 1 rfl) ?_
  refine lv_if_ne (tgt := 2199) hx hb dL_law_2183 (by decide) (fun _ => ?_) (fun c9 => absurd c9 (by decide))
  refine lv_goto (tgt := 2435) hx hb dL_law_2199 (by decide) ?_
  exact lk_end C0 hA2 hbA hS (Nat.le_of_ble_eq_true rfl) (Nat.le_of_ble_eq_true rfl) (lv_sub hl [2, 6] rfl)

set_option maxHeartbeats 4000000 in
set_option maxRecDepth 100000 in
/-- lk_30 -/
theorem lk_30 {p : Program} {e : Env} {s : State} {m : MethodId} {below : List Frame} {meth : Method} {c : Code} {l : Launch} (hst : l.stackTraces = false) {b : Nat} {xs : Nat → Int32} (C0 : lw_At p s m meth c b 4 xs) {A : Nat → Prop} (hA : ∀ q : Nat, s.heap.size ≤ q → A q) (hA2 : ∀ q : Nat, A q → s.heap.size ≤ q) (hbA : ¬ A b) {dC : Nat → ClassId} {dI : Nat → Nat → Nat} {dE : Nat} (h0 a1 a2 w1 p1 o1 : Nat) (cA1 cA2 : ClassId) (m0 l1 l2 o0 : Nat) (hTb : Tb s) (hZ : Zq2 dE A s s.heap) {H : Heap} {locs : List Loc} (hK : va_K (dC, dI) vwCl [(cA1, .object RX0), (cA2, .object RX1)] s) (hP : va_P (dC, dI) vwCl [(h0, .inr (9, [.int 7, .ref a1, .int 0, .ref a2, .int 0, .int 0, .ref w1, .ref p1, .ref o1])), (a1, .inl (cA1, 4, .inr (.inr (.inr (.inr (fun _ => none)))))), (a2, .inl (cA2, 10, .inr (.inr (.inr (.inr (fun _ => none)))))), (m0, .inr (13, [.int 0, .int 7, .int 0, .ref l1, .ref l2])), (l1, .inr (2, [.int 0, .ref dE, .int 0])), (l2, .inr (2, [.int 0, .ref dE, .int 0])), (o0, .inr (10, [.long 0, .double FP.dconst0, .null]))] H) (hD : va_D A [(h0, .inr (9, [.int 7, .ref a1, .int 0, .ref a2, .int 0, .int 0, .ref w1, .ref p1, .ref o1])), (a1, .inl (cA1, 4, .inr (.inr (.inr (.inr (fun _ => none)))))), (a2, .inl (cA2, 10, .inr (.inr (.inr (.inr (fun _ => none)))))), (m0, .inr (13, [.int 0, .int 7, .int 0, .ref l1, .ref l2])), (l1, .inr (2, [.int 0, .ref dE, .int 0])), (l2, .inr (2, [.int 0, .ref dE, .int 0])), (o0, .inr (10, [.long 0, .double FP.dconst0, .null]))]) (hS : va_S A s.heap H locs) {ls : Array Slot} (hl : lv_has ls 9 [(4, .int 0), (3, .ref o0), (2, .ref m0), (1, .ref h0), (0, .ref b)]) : W p l e room_1 s m #[Value.ref b] below meth c H locs 37 517 (lw_Z below #[Value.ref b] s) (F0 m 2202 ls []) := by
  obtain ⟨hx, hb, hr, hml, hown, hts0, hX, hbl, hlocks, hgv⟩ := id C0
  have hts : ∀ w ∈ wsL_law, w.before #[Value.ref b] s = true := lw_words hts0
  refine lv_aload_n hx hb dL_law_2202 rfl (lv_at hl 3 rfl) ?_
  refine lv_aload_n hx hb dL_law_2203 rfl (lv_at hl 4 rfl) ?_
  refine lv_iload hx hb dL_law_2204 (lv_at hl 0 rfl) ?_
  refine lv_iconst (v := 1) hx hb dL_law_2206 (by decide) ?_
  refine lv_iadd hx hb dL_law_2207 ?_
  refine lv_topi (fun f1 ef1 => ?_)
  obtain rfl : f1 = 1 := ef1.trans (by decide)
  refine va_sld hx hb hX hbl hbA hS (by unfold vp_in; decide) dL_law_2208 ?_
  refine lv_aload_n hx hb dL_law_2209 rfl (lv_at hl 4 rfl) ?_
  refine lv_iload hx hb dL_law_2210 (lv_at hl 0 rfl) ?_
  refine lv_iconst (v := 2) hx hb dL_law_2212 (by decide) ?_
  refine lv_iadd hx hb dL_law_2213 ?_
  refine lv_topi (fun f2 ef2 => ?_)
  obtain rfl : f2 = 2 := ef2.trans (by decide)
  refine va_sld hx hb hX hbl hbA hS (by unfold vp_in; decide) dL_law_2214 ?_
  refine lv_aload_n hx hb dL_law_2215 rfl (lv_at hl 1 rfl) ?_
  have hPc := hP.sub (ws' := [(h0, .inr (9, [.int 7, .ref a1, .int 0, .ref a2, .int 0, .int 0, .ref w1, .ref p1, .ref o1])), (a1, .inl (cA1, 4, .inr (.inr (.inr (.inr (fun _ => none)))))), (a2, .inl (cA2, 10, .inr (.inr (.inr (.inr (fun _ => none))))))]) [0, 1, 2] rfl
  have hDc := hD.sub (ws' := [(h0, .inr (9, [.int 7, .ref a1, .int 0, .ref a2, .int 0, .int 0, .ref w1, .ref p1, .ref o1])), (a1, .inl (cA1, 4, .inr (.inr (.inr (.inr (fun _ => none)))))), (a2, .inl (cA2, 10, .inr (.inr (.inr (.inr (fun _ => none))))))]) [0, 1, 2] (by decide) rfl
  have hKc := hK.sub (tys' := [(cA1, .object RX0), (cA2, .object RX1)]) [0, 1] rfl
  have hFc := va_free (wc := [(h0, .inr (9, [.int 7, .ref a1, .int 0, .ref a2, .int 0, .int 0, .ref w1, .ref p1, .ref o1])), (a1, .inl (cA1, 4, .inr (.inr (.inr (.inr (fun _ => none)))))), (a2, .inl (cA2, 10, .inr (.inr (.inr (.inr (fun _ => none))))))]) hD hS hA [0, 1, 2] rfl
  refine va_calli (vx_runSW (As := [.ref h0, .int (xs (Int32.toNatClampNeg 1)), .int (xs (Int32.toNatClampNeg 2)), .ref o0]) (rest := []) ⟨hx, hb, hml, hown, hts⟩ (c_L_row l hst dC dI dE h0 a1 a2 w1 p1 o1 cA1 cA2 (xs (Int32.toNatClampNeg 1)) (xs (Int32.toNatClampNeg 2)) o0 H.size) (vx_cwSW 4 hts gL_law_L_row rfl rfl rfl (by decide +kernel) ⟨Nat.le_of_ble_eq_true rfl, Nat.le_of_ble_eq_true rfl⟩) ⟨fun a U g mk q => ⟨q.1, PB.blind q.2⟩, fun U hU hW => ⟨rfl, PB.call hPc hKc hDc hTb hZ hS hFc hU hW⟩⟩ rfl rfl hl.1 rfl (lv_room (Nat.le_of_ble_eq_true rfl)) dL_law_2216 ⟨Nat.le_of_ble_eq_true rfl, Nat.le_of_ble_eq_true rfl⟩) hS (fun q _ h => hFc q h) hFc (fun r u t H locs ht hvm hw hB hz1 hk1 hS => ?_)
  obtain ⟨hP, hD, hK⟩ := PE.join0 (wc := [(h0, .inr (9, [.int 7, .ref a1, .int 0, .ref a2, .int 0, .int 0, .ref w1, .ref p1, .ref o1])), (a1, .inl (cA1, 4, .inr (.inr (.inr (.inr (fun _ => none)))))), (a2, .inl (cA2, 10, .inr (.inr (.inr (.inr (fun _ => none))))))]) (wr := [(m0, .inr (13, [.int 0, .int 7, .int 0, .ref l1, .ref l2])), (l1, .inr (2, [.int 0, .ref dE, .int 0])), (l2, .inr (2, [.int 0, .ref dE, .int 0])), (o0, .inr (10, [.long 0, .double FP.dconst0, .null]))]) (tr := []) hP hD hK [0, 1, 2] [3, 4, 5, 6] [] rfl rfl rfl (by decide) (by decide) hk1 hFc
  have hP : va_P (dC, dI) vwCl [(m0, .inr (13, [.int 0, .int 7, .int 0, .ref l1, .ref l2])), (l1, .inr (2, [.int 0, .ref dE, .int 0])), (l2, .inr (2, [.int 0, .ref dE, .int 0])), (o0, .inr (10, [.long 0, .double FP.dconst0, .null]))] H := hP
  have hD : va_D A [(m0, .inr (13, [.int 0, .int 7, .int 0, .ref l1, .ref l2])), (l1, .inr (2, [.int 0, .ref dE, .int 0])), (l2, .inr (2, [.int 0, .ref dE, .int 0])), (o0, .inr (10, [.long 0, .double FP.dconst0, .null]))] := hD
  have hK : va_K (dC, dI) vwCl [] s := hK
  subst hw
  refine W.widen (k := 38) (n := 523) (by omega) (by omega) ?_
  refine lv_istore (lv' := [(5, .int 1), (4, .int 0), (3, .ref o0), (2, .ref m0), (1, .ref h0), (0, .ref b)]) hx hb dL_law_2219 hl (by decide) rfl (fun ls hl => ?_)
  refine lv_aload_n hx hb dL_law_2221 rfl (lv_at hl 3 rfl) ?_
  refine lv_aload_n hx hb dL_law_2222 rfl (lv_at hl 5 rfl) ?_
  refine lv_iload hx hb dL_law_2223 (lv_at hl 1 rfl) ?_
  refine lv_iconst (v := 1) hx hb dL_law_2225 (by decide) ?_
  refine lv_iadd hx hb dL_law_2226 ?_
  refine lv_topi (fun f3 ef3 => ?_)
  obtain rfl : f3 = 1 := ef3.trans (by decide)
  refine va_sld hx hb hX hbl hbA hS (by unfold vp_in; decide) dL_law_2227 ?_
  refine lv_aload_n hx hb dL_law_2228 rfl (lv_at hl 5 rfl) ?_
  refine lv_iload hx hb dL_law_2229 (lv_at hl 1 rfl) ?_
  refine lv_iconst (v := 2) hx hb dL_law_2231 (by decide) ?_
  refine lv_iadd hx hb dL_law_2232 ?_
  refine lv_topi (fun f4 ef4 => ?_)
  obtain rfl : f4 = 2 := ef4.trans (by decide)
  refine va_sld hx hb hX hbl hbA hS (by unfold vp_in; decide) dL_law_2233 ?_
  have hPc := hP.sub (ws' := [(m0, .inr (13, [.int 0, .int 7, .int 0, .ref l1, .ref l2])), (l1, .inr (2, [.int 0, .ref dE, .int 0])), (l2, .inr (2, [.int 0, .ref dE, .int 0]))]) [0, 1, 2] rfl
  have hDc := hD.sub (ws' := [(m0, .inr (13, [.int 0, .int 7, .int 0, .ref l1, .ref l2])), (l1, .inr (2, [.int 0, .ref dE, .int 0])), (l2, .inr (2, [.int 0, .ref dE, .int 0]))]) [0, 1, 2] (by decide) rfl
  have hKc := hK.sub (tys' := []) [] rfl
  have hFc := va_free (wc := [(m0, .inr (13, [.int 0, .int 7, .int 0, .ref l1, .ref l2])), (l1, .inr (2, [.int 0, .ref dE, .int 0])), (l2, .inr (2, [.int 0, .ref dE, .int 0]))]) hD hS hA [0, 1, 2] rfl
  refine va_calli (va_runV (As := [.int (xs (Int32.toNatClampNeg 1)), .int (xs (Int32.toNatClampNeg 2))]) (rest := []) ⟨hx, hb, hml, hown, hts⟩ (c_M_row l dC dI dE m0 l1 l2 (xs (Int32.toNatClampNeg 1)) (xs (Int32.toNatClampNeg 2)) H.size) (cwV 2 hts gL_law_X10_row_ rfl rfl rfl (by decide +kernel) ⟨Nat.le_of_ble_eq_true rfl, Nat.le_of_ble_eq_true rfl⟩) ⟨fun a U g mk q => ⟨q.1, PB.blind q.2⟩, va_recv hKc hPc (ci := 13) (q0 := 0) rfl rfl, fun U hU hW => ⟨rfl, PB.call hPc hKc hDc hTb hZ hS hFc hU hW⟩⟩ rfl rfl hl.1 rfl (lv_room (Nat.le_of_ble_eq_true rfl)) dL_law_2234 ⟨Nat.le_of_ble_eq_true rfl, Nat.le_of_ble_eq_true rfl⟩) hS (fun q _ h => hFc q h) hFc (fun r u t H locs ht hvm hw hB hz1 hk1 hS => ?_)
  obtain ⟨hP, hD, hK⟩ := PE.join (wc := [(m0, .inr (13, [.int 0, .int 7, .int 0, .ref l1, .ref l2])), (l1, .inr (2, [.int 0, .ref dE, .int 0])), (l2, .inr (2, [.int 0, .ref dE, .int 0]))]) (wr := [(o0, .inr (10, [.long 0, .double FP.dconst0, .null]))]) (w1 := [(m0, .inr (13, [.int 1, .int 7, .int 0, .ref l1, .ref l2])), (l1, .inr (2, [.int 0, .ref dE, .int 0])), (l2, .inr (2, [.int 0, .ref dE, .int 0]))]) (tr := []) (t1 := []) hP hD hK [0, 1, 2] [3] [] rfl rfl rfl (by decide) (by decide) hk1 hFc ht hvm hB
  have hP : va_P (dC, dI) vwCl [(o0, .inr (10, [.long 0, .double FP.dconst0, .null])), (m0, .inr (13, [.int 1, .int 7, .int 0, .ref l1, .ref l2])), (l1, .inr (2, [.int 0, .ref dE, .int 0])), (l2, .inr (2, [.int 0, .ref dE, .int 0]))] H := hP
  have hD : va_D A [(o0, .inr (10, [.long 0, .double FP.dconst0, .null])), (m0, .inr (13, [.int 1, .int 7, .int 0, .ref l1, .ref l2])), (l1, .inr (2, [.int 0, .ref dE, .int 0])), (l2, .inr (2, [.int 0, .ref dE, .int 0]))] := hD
  have hK : va_K (dC, dI) vwCl [] s := hK
  subst hw
  refine lv_istore (lv' := [(6, .int 0), (5, .int 1), (4, .int 0), (3, .ref o0), (2, .ref m0), (1, .ref h0), (0, .ref b)]) hx hb dL_law_2237 hl (by decide) rfl (fun ls hl => ?_)
  refine lv_aload_n hx hb dL_law_2239 rfl (lv_at hl 4 rfl) ?_
  have hPc := hP.sub (ws' := [(m0, .inr (13, [.int 1, .int 7, .int 0, .ref l1, .ref l2]))]) [1] rfl
  have hDc := hD.sub (ws' := [(m0, .inr (13, [.int 1, .int 7, .int 0, .ref l1, .ref l2]))]) [1] (by decide) rfl
  have hKc := hK.sub (tys' := []) [] rfl
  have hFc := va_free (wc := [(m0, .inr (13, [.int 1, .int 7, .int 0, .ref l1, .ref l2]))]) hD hS hA [1] rfl
  refine va_calli (va_runV (As := []) (rest := []) ⟨hx, hb, hml, hown, hts⟩ (c_M_thrown l dC dI dE m0 1 7 0 l1 l2 H.size) (cwV 0 hts gL_law_X10_thrown rfl rfl rfl (by decide +kernel) ⟨Nat.le_of_ble_eq_true rfl, Nat.le_of_ble_eq_true rfl⟩) ⟨fun a U g mk q => ⟨q.1, PB.blind q.2⟩, va_recv hKc hPc (ci := 13) (q0 := 0) rfl rfl, fun U hU hW => ⟨rfl, PB.call hPc hKc hDc hTb hZ hS hFc hU hW⟩⟩ rfl rfl hl.1 rfl (lv_room (Nat.le_of_ble_eq_true rfl)) dL_law_2240 ⟨Nat.le_of_ble_eq_true rfl, Nat.le_of_ble_eq_true rfl⟩) hS (fun q _ h => hFc q h) hFc (fun r u t H locs ht hvm hw hB hz1 hk1 hS => ?_)
  obtain ⟨hP, hD, hK⟩ := PE.join0 (wc := [(m0, .inr (13, [.int 1, .int 7, .int 0, .ref l1, .ref l2]))]) (wr := [(o0, .inr (10, [.long 0, .double FP.dconst0, .null])), (l1, .inr (2, [.int 0, .ref dE, .int 0])), (l2, .inr (2, [.int 0, .ref dE, .int 0]))]) (tr := []) hP hD hK [1] [0, 2, 3] [] rfl rfl rfl (by decide) (by decide) hk1 hFc
  have hP : va_P (dC, dI) vwCl [(o0, .inr (10, [.long 0, .double FP.dconst0, .null])), (l1, .inr (2, [.int 0, .ref dE, .int 0])), (l2, .inr (2, [.int 0, .ref dE, .int 0]))] H := hP
  have hD : va_D A [(o0, .inr (10, [.long 0, .double FP.dconst0, .null])), (l1, .inr (2, [.int 0, .ref dE, .int 0])), (l2, .inr (2, [.int 0, .ref dE, .int 0]))] := hD
  have hK : va_K (dC, dI) vwCl [] s := hK
  subst hw
  refine lv_iload hx hb dL_law_2243 (lv_at hl 1 rfl) ?_
  refine lv_icmp_eq (tgt := 2250) hx hb dL_law_2245 (by decide) (fun _ => ?_) (fun c9 => absurd (by decide) c9)
  refine lv_iload hx hb dL_law_2250 (lv_at hl 1 rfl) ?_
  refine lv_if_ne (tgt := 2268) hx hb dL_law_2252 (by decide) (fun _ => ?_) (fun c9 => absurd c9 (by decide))
  refine lv_goto (tgt := 2435) hx hb dL_law_2268 (by decide) ?_
  exact lk_end C0 hA2 hbA hS (Nat.le_of_ble_eq_true rfl) (Nat.le_of_ble_eq_true rfl) (lv_sub hl [2, 6] rfl)

set_option maxHeartbeats 4000000 in
set_option maxRecDepth 100000 in
/-- lk_31 -/
theorem lk_31 {p : Program} {e : Env} {s : State} {m : MethodId} {below : List Frame} {meth : Method} {c : Code} {l : Launch} (hst : l.stackTraces = false) {b : Nat} {xs : Nat → Int32} (C0 : lw_At p s m meth c b 4 xs) {A : Nat → Prop} (hA : ∀ q : Nat, s.heap.size ≤ q → A q) (hA2 : ∀ q : Nat, A q → s.heap.size ≤ q) (hbA : ¬ A b) {dC : Nat → ClassId} {dI : Nat → Nat → Nat} {dE : Nat} (h0 a1 a2 w1 p1 o1 : Nat) (cA1 cA2 : ClassId) (m0 l1 l2 o0 : Nat) (hTb : Tb s) (hZ : Zq2 dE A s s.heap) {H : Heap} {locs : List Loc} (hK : va_K (dC, dI) vwCl [(cA1, .object RX0), (cA2, .object RX1)] s) (hP : va_P (dC, dI) vwCl [(h0, .inr (9, [.int 7, .ref a1, .int 0, .ref a2, .int 0, .int 0, .ref w1, .ref p1, .ref o1])), (a1, .inl (cA1, 4, .inr (.inr (.inr (.inr (fun _ => none)))))), (a2, .inl (cA2, 10, .inr (.inr (.inr (.inr (fun _ => none)))))), (m0, .inr (13, [.int 0, .int 7, .int 0, .ref l1, .ref l2])), (l1, .inr (2, [.int 0, .ref dE, .int 0])), (l2, .inr (2, [.int 0, .ref dE, .int 0])), (o0, .inr (10, [.long 0, .double FP.dconst0, .null]))] H) (hD : va_D A [(h0, .inr (9, [.int 7, .ref a1, .int 0, .ref a2, .int 0, .int 0, .ref w1, .ref p1, .ref o1])), (a1, .inl (cA1, 4, .inr (.inr (.inr (.inr (fun _ => none)))))), (a2, .inl (cA2, 10, .inr (.inr (.inr (.inr (fun _ => none)))))), (m0, .inr (13, [.int 0, .int 7, .int 0, .ref l1, .ref l2])), (l1, .inr (2, [.int 0, .ref dE, .int 0])), (l2, .inr (2, [.int 0, .ref dE, .int 0])), (o0, .inr (10, [.long 0, .double FP.dconst0, .null]))]) (hS : va_S A s.heap H locs) {ls : Array Slot} (hl : lv_has ls 9 [(4, .int 0), (3, .ref o0), (2, .ref m0), (1, .ref h0), (0, .ref b)]) : W p l e room_1 s m #[Value.ref b] below meth c H locs 37 517 (lw_Z below #[Value.ref b] s) (F0 m 2271 ls []) := by
  obtain ⟨hx, hb, hr, hml, hown, hts0, hX, hbl, hlocks, hgv⟩ := id C0
  have hts : ∀ w ∈ wsL_law, w.before #[Value.ref b] s = true := lw_words hts0
  refine lv_aload_n hx hb dL_law_2271 rfl (lv_at hl 3 rfl) ?_
  refine lv_aload_n hx hb dL_law_2272 rfl (lv_at hl 4 rfl) ?_
  refine lv_iload hx hb dL_law_2273 (lv_at hl 0 rfl) ?_
  refine lv_iconst (v := 1) hx hb dL_law_2275 (by decide) ?_
  refine lv_iadd hx hb dL_law_2276 ?_
  refine lv_topi (fun f1 ef1 => ?_)
  obtain rfl : f1 = 1 := ef1.trans (by decide)
  refine va_sld hx hb hX hbl hbA hS (by unfold vp_in; decide) dL_law_2277 ?_
  refine lv_aload_n hx hb dL_law_2278 rfl (lv_at hl 4 rfl) ?_
  refine lv_iload hx hb dL_law_2279 (lv_at hl 0 rfl) ?_
  refine lv_iconst (v := 2) hx hb dL_law_2281 (by decide) ?_
  refine lv_iadd hx hb dL_law_2282 ?_
  refine lv_topi (fun f2 ef2 => ?_)
  obtain rfl : f2 = 2 := ef2.trans (by decide)
  refine va_sld hx hb hX hbl hbA hS (by unfold vp_in; decide) dL_law_2283 ?_
  refine lv_aload_n hx hb dL_law_2284 rfl (lv_at hl 1 rfl) ?_
  have hPc := hP.sub (ws' := [(h0, .inr (9, [.int 7, .ref a1, .int 0, .ref a2, .int 0, .int 0, .ref w1, .ref p1, .ref o1])), (a1, .inl (cA1, 4, .inr (.inr (.inr (.inr (fun _ => none)))))), (a2, .inl (cA2, 10, .inr (.inr (.inr (.inr (fun _ => none))))))]) [0, 1, 2] rfl
  have hDc := hD.sub (ws' := [(h0, .inr (9, [.int 7, .ref a1, .int 0, .ref a2, .int 0, .int 0, .ref w1, .ref p1, .ref o1])), (a1, .inl (cA1, 4, .inr (.inr (.inr (.inr (fun _ => none)))))), (a2, .inl (cA2, 10, .inr (.inr (.inr (.inr (fun _ => none))))))]) [0, 1, 2] (by decide) rfl
  have hKc := hK.sub (tys' := [(cA1, .object RX0), (cA2, .object RX1)]) [0, 1] rfl
  have hFc := va_free (wc := [(h0, .inr (9, [.int 7, .ref a1, .int 0, .ref a2, .int 0, .int 0, .ref w1, .ref p1, .ref o1])), (a1, .inl (cA1, 4, .inr (.inr (.inr (.inr (fun _ => none)))))), (a2, .inl (cA2, 10, .inr (.inr (.inr (.inr (fun _ => none))))))]) hD hS hA [0, 1, 2] rfl
  refine va_calli (vx_runSW (As := [.ref h0, .int (xs (Int32.toNatClampNeg 1)), .int (xs (Int32.toNatClampNeg 2)), .ref o0]) (rest := []) ⟨hx, hb, hml, hown, hts⟩ (c_L_match l hst dC dI dE h0 a1 a2 w1 p1 o1 cA1 cA2 (xs (Int32.toNatClampNeg 1)) (xs (Int32.toNatClampNeg 2)) o0 H.size) (vx_cwSW 4 hts gL_law_L_match rfl rfl rfl (by decide +kernel) ⟨Nat.le_of_ble_eq_true rfl, Nat.le_of_ble_eq_true rfl⟩) ⟨fun a U g mk q => ⟨q.1, PB.blind q.2⟩, fun U hU hW => ⟨rfl, PB.call hPc hKc hDc hTb hZ hS hFc hU hW⟩⟩ rfl rfl hl.1 rfl (lv_room (Nat.le_of_ble_eq_true rfl)) dL_law_2285 ⟨Nat.le_of_ble_eq_true rfl, Nat.le_of_ble_eq_true rfl⟩) hS (fun q _ h => hFc q h) hFc (fun r u t H locs ht hvm hw hB hz1 hk1 hS => ?_)
  obtain ⟨hP, hD, hK⟩ := PE.join0 (wc := [(h0, .inr (9, [.int 7, .ref a1, .int 0, .ref a2, .int 0, .int 0, .ref w1, .ref p1, .ref o1])), (a1, .inl (cA1, 4, .inr (.inr (.inr (.inr (fun _ => none)))))), (a2, .inl (cA2, 10, .inr (.inr (.inr (.inr (fun _ => none))))))]) (wr := [(m0, .inr (13, [.int 0, .int 7, .int 0, .ref l1, .ref l2])), (l1, .inr (2, [.int 0, .ref dE, .int 0])), (l2, .inr (2, [.int 0, .ref dE, .int 0])), (o0, .inr (10, [.long 0, .double FP.dconst0, .null]))]) (tr := []) hP hD hK [0, 1, 2] [3, 4, 5, 6] [] rfl rfl rfl (by decide) (by decide) hk1 hFc
  have hP : va_P (dC, dI) vwCl [(m0, .inr (13, [.int 0, .int 7, .int 0, .ref l1, .ref l2])), (l1, .inr (2, [.int 0, .ref dE, .int 0])), (l2, .inr (2, [.int 0, .ref dE, .int 0])), (o0, .inr (10, [.long 0, .double FP.dconst0, .null]))] H := hP
  have hD : va_D A [(m0, .inr (13, [.int 0, .int 7, .int 0, .ref l1, .ref l2])), (l1, .inr (2, [.int 0, .ref dE, .int 0])), (l2, .inr (2, [.int 0, .ref dE, .int 0])), (o0, .inr (10, [.long 0, .double FP.dconst0, .null]))] := hD
  have hK : va_K (dC, dI) vwCl [] s := hK
  subst hw
  refine W.widen (k := 38) (n := 523) (by omega) (by omega) ?_
  refine lv_istore (lv' := [(5, .int 1), (4, .int 0), (3, .ref o0), (2, .ref m0), (1, .ref h0), (0, .ref b)]) hx hb dL_law_2288 hl (by decide) rfl (fun ls hl => ?_)
  refine lv_aload_n hx hb dL_law_2290 rfl (lv_at hl 3 rfl) ?_
  refine lv_aload_n hx hb dL_law_2291 rfl (lv_at hl 5 rfl) ?_
  refine lv_iload hx hb dL_law_2292 (lv_at hl 1 rfl) ?_
  refine lv_iconst (v := 1) hx hb dL_law_2294 (by decide) ?_
  refine lv_iadd hx hb dL_law_2295 ?_
  refine lv_topi (fun f3 ef3 => ?_)
  obtain rfl : f3 = 1 := ef3.trans (by decide)
  refine va_sld hx hb hX hbl hbA hS (by unfold vp_in; decide) dL_law_2296 ?_
  refine lv_aload_n hx hb dL_law_2297 rfl (lv_at hl 5 rfl) ?_
  refine lv_iload hx hb dL_law_2298 (lv_at hl 1 rfl) ?_
  refine lv_iconst (v := 2) hx hb dL_law_2300 (by decide) ?_
  refine lv_iadd hx hb dL_law_2301 ?_
  refine lv_topi (fun f4 ef4 => ?_)
  obtain rfl : f4 = 2 := ef4.trans (by decide)
  refine va_sld hx hb hX hbl hbA hS (by unfold vp_in; decide) dL_law_2302 ?_
  have hPc := hP.sub (ws' := [(m0, .inr (13, [.int 0, .int 7, .int 0, .ref l1, .ref l2])), (l1, .inr (2, [.int 0, .ref dE, .int 0])), (l2, .inr (2, [.int 0, .ref dE, .int 0]))]) [0, 1, 2] rfl
  have hDc := hD.sub (ws' := [(m0, .inr (13, [.int 0, .int 7, .int 0, .ref l1, .ref l2])), (l1, .inr (2, [.int 0, .ref dE, .int 0])), (l2, .inr (2, [.int 0, .ref dE, .int 0]))]) [0, 1, 2] (by decide) rfl
  have hKc := hK.sub (tys' := []) [] rfl
  have hFc := va_free (wc := [(m0, .inr (13, [.int 0, .int 7, .int 0, .ref l1, .ref l2])), (l1, .inr (2, [.int 0, .ref dE, .int 0])), (l2, .inr (2, [.int 0, .ref dE, .int 0]))]) hD hS hA [0, 1, 2] rfl
  refine va_calli (va_runV (As := [.int (xs (Int32.toNatClampNeg 1)), .int (xs (Int32.toNatClampNeg 2))]) (rest := []) ⟨hx, hb, hml, hown, hts⟩ (c_M_match l dC dI dE m0 l1 l2 (xs (Int32.toNatClampNeg 1)) (xs (Int32.toNatClampNeg 2)) H.size) (cwV 2 hts gL_law_X10_match rfl rfl rfl (by decide +kernel) ⟨Nat.le_of_ble_eq_true rfl, Nat.le_of_ble_eq_true rfl⟩) ⟨fun a U g mk q => ⟨q.1, PB.blind q.2⟩, va_recv hKc hPc (ci := 13) (q0 := 0) rfl rfl, fun U hU hW => ⟨rfl, PB.call hPc hKc hDc hTb hZ hS hFc hU hW⟩⟩ rfl rfl hl.1 rfl (lv_room (Nat.le_of_ble_eq_true rfl)) dL_law_2303 ⟨Nat.le_of_ble_eq_true rfl, Nat.le_of_ble_eq_true rfl⟩) hS (fun q _ h => hFc q h) hFc (fun r u t H locs ht hvm hw hB hz1 hk1 hS => ?_)
  obtain ⟨hP, hD, hK⟩ := PE.join (wc := [(m0, .inr (13, [.int 0, .int 7, .int 0, .ref l1, .ref l2])), (l1, .inr (2, [.int 0, .ref dE, .int 0])), (l2, .inr (2, [.int 0, .ref dE, .int 0]))]) (wr := [(o0, .inr (10, [.long 0, .double FP.dconst0, .null]))]) (w1 := [(m0, .inr (13, [.int 1, .int 7, .int 0, .ref l1, .ref l2])), (l1, .inr (2, [.int 0, .ref dE, .int 0])), (l2, .inr (2, [.int 0, .ref dE, .int 0]))]) (tr := []) (t1 := []) hP hD hK [0, 1, 2] [3] [] rfl rfl rfl (by decide) (by decide) hk1 hFc ht hvm hB
  have hP : va_P (dC, dI) vwCl [(o0, .inr (10, [.long 0, .double FP.dconst0, .null])), (m0, .inr (13, [.int 1, .int 7, .int 0, .ref l1, .ref l2])), (l1, .inr (2, [.int 0, .ref dE, .int 0])), (l2, .inr (2, [.int 0, .ref dE, .int 0]))] H := hP
  have hD : va_D A [(o0, .inr (10, [.long 0, .double FP.dconst0, .null])), (m0, .inr (13, [.int 1, .int 7, .int 0, .ref l1, .ref l2])), (l1, .inr (2, [.int 0, .ref dE, .int 0])), (l2, .inr (2, [.int 0, .ref dE, .int 0]))] := hD
  have hK : va_K (dC, dI) vwCl [] s := hK
  subst hw
  refine lv_istore (lv' := [(6, .int 0), (5, .int 1), (4, .int 0), (3, .ref o0), (2, .ref m0), (1, .ref h0), (0, .ref b)]) hx hb dL_law_2306 hl (by decide) rfl (fun ls hl => ?_)
  refine lv_aload_n hx hb dL_law_2308 rfl (lv_at hl 4 rfl) ?_
  have hPc := hP.sub (ws' := [(m0, .inr (13, [.int 1, .int 7, .int 0, .ref l1, .ref l2]))]) [1] rfl
  have hDc := hD.sub (ws' := [(m0, .inr (13, [.int 1, .int 7, .int 0, .ref l1, .ref l2]))]) [1] (by decide) rfl
  have hKc := hK.sub (tys' := []) [] rfl
  have hFc := va_free (wc := [(m0, .inr (13, [.int 1, .int 7, .int 0, .ref l1, .ref l2]))]) hD hS hA [1] rfl
  refine va_calli (va_runV (As := []) (rest := []) ⟨hx, hb, hml, hown, hts⟩ (c_M_thrown l dC dI dE m0 1 7 0 l1 l2 H.size) (cwV 0 hts gL_law_X10_thrown rfl rfl rfl (by decide +kernel) ⟨Nat.le_of_ble_eq_true rfl, Nat.le_of_ble_eq_true rfl⟩) ⟨fun a U g mk q => ⟨q.1, PB.blind q.2⟩, va_recv hKc hPc (ci := 13) (q0 := 0) rfl rfl, fun U hU hW => ⟨rfl, PB.call hPc hKc hDc hTb hZ hS hFc hU hW⟩⟩ rfl rfl hl.1 rfl (lv_room (Nat.le_of_ble_eq_true rfl)) dL_law_2309 ⟨Nat.le_of_ble_eq_true rfl, Nat.le_of_ble_eq_true rfl⟩) hS (fun q _ h => hFc q h) hFc (fun r u t H locs ht hvm hw hB hz1 hk1 hS => ?_)
  obtain ⟨hP, hD, hK⟩ := PE.join0 (wc := [(m0, .inr (13, [.int 1, .int 7, .int 0, .ref l1, .ref l2]))]) (wr := [(o0, .inr (10, [.long 0, .double FP.dconst0, .null])), (l1, .inr (2, [.int 0, .ref dE, .int 0])), (l2, .inr (2, [.int 0, .ref dE, .int 0]))]) (tr := []) hP hD hK [1] [0, 2, 3] [] rfl rfl rfl (by decide) (by decide) hk1 hFc
  have hP : va_P (dC, dI) vwCl [(o0, .inr (10, [.long 0, .double FP.dconst0, .null])), (l1, .inr (2, [.int 0, .ref dE, .int 0])), (l2, .inr (2, [.int 0, .ref dE, .int 0]))] H := hP
  have hD : va_D A [(o0, .inr (10, [.long 0, .double FP.dconst0, .null])), (l1, .inr (2, [.int 0, .ref dE, .int 0])), (l2, .inr (2, [.int 0, .ref dE, .int 0]))] := hD
  have hK : va_K (dC, dI) vwCl [] s := hK
  subst hw
  refine lv_iload hx hb dL_law_2312 (lv_at hl 1 rfl) ?_
  refine lv_icmp_eq (tgt := 2319) hx hb dL_law_2314 (by decide) (fun _ => ?_) (fun c9 => absurd (by decide) c9)
  refine lv_iload hx hb dL_law_2319 (lv_at hl 1 rfl) ?_
  refine lv_if_ne (tgt := 2337) hx hb dL_law_2321 (by decide) (fun _ => ?_) (fun c9 => absurd c9 (by decide))
  refine lv_goto (tgt := 2435) hx hb dL_law_2337 (by decide) ?_
  exact lk_end C0 hA2 hbA hS (Nat.le_of_ble_eq_true rfl) (Nat.le_of_ble_eq_true rfl) (lv_sub hl [2, 6] rfl)

set_option maxHeartbeats 4000000 in
set_option maxRecDepth 100000 in
/-- lk_32 -/
theorem lk_32 {p : Program} {e : Env} {s : State} {m : MethodId} {below : List Frame} {meth : Method} {c : Code} {l : Launch} (hst : l.stackTraces = false) {b : Nat} {xs : Nat → Int32} (C0 : lw_At p s m meth c b 4 xs) {A : Nat → Prop} (hA : ∀ q : Nat, s.heap.size ≤ q → A q) (hA2 : ∀ q : Nat, A q → s.heap.size ≤ q) (hbA : ¬ A b) {dC : Nat → ClassId} {dI : Nat → Nat → Nat} {dE : Nat} (h0 a1 a2 w1 p1 o1 : Nat) (cA1 cA2 : ClassId) (m0 l1 l2 o0 : Nat) (hTb : Tb s) (hZ : Zq2 dE A s s.heap) {H : Heap} {locs : List Loc} (hK : va_K (dC, dI) vwCl [(cA1, .object RX0), (cA2, .object RX1)] s) (hP : va_P (dC, dI) vwCl [(h0, .inr (9, [.int 7, .ref a1, .int 0, .ref a2, .int 0, .int 0, .ref w1, .ref p1, .ref o1])), (a1, .inl (cA1, 4, .inr (.inr (.inr (.inr (fun _ => none)))))), (a2, .inl (cA2, 10, .inr (.inr (.inr (.inr (fun _ => none)))))), (m0, .inr (13, [.int 0, .int 7, .int 0, .ref l1, .ref l2])), (l1, .inr (2, [.int 0, .ref dE, .int 0])), (l2, .inr (2, [.int 0, .ref dE, .int 0])), (o0, .inr (10, [.long 0, .double FP.dconst0, .null]))] H) (hD : va_D A [(h0, .inr (9, [.int 7, .ref a1, .int 0, .ref a2, .int 0, .int 0, .ref w1, .ref p1, .ref o1])), (a1, .inl (cA1, 4, .inr (.inr (.inr (.inr (fun _ => none)))))), (a2, .inl (cA2, 10, .inr (.inr (.inr (.inr (fun _ => none)))))), (m0, .inr (13, [.int 0, .int 7, .int 0, .ref l1, .ref l2])), (l1, .inr (2, [.int 0, .ref dE, .int 0])), (l2, .inr (2, [.int 0, .ref dE, .int 0])), (o0, .inr (10, [.long 0, .double FP.dconst0, .null]))]) (hS : va_S A s.heap H locs) {ls : Array Slot} (hl : lv_has ls 9 [(4, .int 0), (3, .ref o0), (2, .ref m0), (1, .ref h0), (0, .ref b)]) : W p l e room_1 s m #[Value.ref b] below meth c H locs 37 517 (lw_Z below #[Value.ref b] s) (F0 m 2340 ls []) := by
  obtain ⟨hx, hb, hr, hml, hown, hts0, hX, hbl, hlocks, hgv⟩ := id C0
  have hts : ∀ w ∈ wsL_law, w.before #[Value.ref b] s = true := lw_words hts0
  refine lv_aload_n hx hb dL_law_2340 rfl (lv_at hl 3 rfl) ?_
  refine lv_aload_n hx hb dL_law_2341 rfl (lv_at hl 4 rfl) ?_
  refine lv_iload hx hb dL_law_2342 (lv_at hl 0 rfl) ?_
  refine lv_iconst (v := 1) hx hb dL_law_2344 (by decide) ?_
  refine lv_iadd hx hb dL_law_2345 ?_
  refine lv_topi (fun f1 ef1 => ?_)
  obtain rfl : f1 = 1 := ef1.trans (by decide)
  refine va_sld hx hb hX hbl hbA hS (by unfold vp_in; decide) dL_law_2346 ?_
  refine lv_aload_n hx hb dL_law_2347 rfl (lv_at hl 4 rfl) ?_
  refine lv_iload hx hb dL_law_2348 (lv_at hl 0 rfl) ?_
  refine lv_iconst (v := 2) hx hb dL_law_2350 (by decide) ?_
  refine lv_iadd hx hb dL_law_2351 ?_
  refine lv_topi (fun f2 ef2 => ?_)
  obtain rfl : f2 = 2 := ef2.trans (by decide)
  refine va_sld hx hb hX hbl hbA hS (by unfold vp_in; decide) dL_law_2352 ?_
  refine lv_aload_n hx hb dL_law_2353 rfl (lv_at hl 4 rfl) ?_
  refine lv_iload hx hb dL_law_2354 (lv_at hl 0 rfl) ?_
  refine lv_iconst (v := 3) hx hb dL_law_2356 (by decide) ?_
  refine lv_iadd hx hb dL_law_2357 ?_
  refine lv_topi (fun f3 ef3 => ?_)
  obtain rfl : f3 = 3 := ef3.trans (by decide)
  refine va_sld hx hb hX hbl hbA hS (by unfold vp_in; decide) dL_law_2358 ?_
  refine lv_aload_n hx hb dL_law_2359 rfl (lv_at hl 1 rfl) ?_
  have hPc := hP.sub (ws' := [(h0, .inr (9, [.int 7, .ref a1, .int 0, .ref a2, .int 0, .int 0, .ref w1, .ref p1, .ref o1])), (a1, .inl (cA1, 4, .inr (.inr (.inr (.inr (fun _ => none)))))), (a2, .inl (cA2, 10, .inr (.inr (.inr (.inr (fun _ => none))))))]) [0, 1, 2] rfl
  have hDc := hD.sub (ws' := [(h0, .inr (9, [.int 7, .ref a1, .int 0, .ref a2, .int 0, .int 0, .ref w1, .ref p1, .ref o1])), (a1, .inl (cA1, 4, .inr (.inr (.inr (.inr (fun _ => none)))))), (a2, .inl (cA2, 10, .inr (.inr (.inr (.inr (fun _ => none))))))]) [0, 1, 2] (by decide) rfl
  have hKc := hK.sub (tys' := [(cA1, .object RX0), (cA2, .object RX1)]) [0, 1] rfl
  have hFc := va_free (wc := [(h0, .inr (9, [.int 7, .ref a1, .int 0, .ref a2, .int 0, .int 0, .ref w1, .ref p1, .ref o1])), (a1, .inl (cA1, 4, .inr (.inr (.inr (.inr (fun _ => none)))))), (a2, .inl (cA2, 10, .inr (.inr (.inr (.inr (fun _ => none))))))]) hD hS hA [0, 1, 2] rfl
  refine va_calli (vx_runSW (As := [.ref h0, .int (xs (Int32.toNatClampNeg 1)), .int (xs (Int32.toNatClampNeg 2)), .int (xs (Int32.toNatClampNeg 3)), .ref o0]) (rest := []) ⟨hx, hb, hml, hown, hts⟩ (c_L_scaleOf l hst dC dI dE h0 a1 a2 w1 p1 o1 cA1 cA2 (xs (Int32.toNatClampNeg 1)) (xs (Int32.toNatClampNeg 2)) (xs (Int32.toNatClampNeg 3)) o0 H.size) (vx_cwSW 5 hts gL_law_L_scaleOf rfl rfl rfl (by decide +kernel) ⟨Nat.le_of_ble_eq_true rfl, Nat.le_of_ble_eq_true rfl⟩) ⟨fun a U g mk q => ⟨q.1, PB.blind q.2⟩, fun U hU hW => ⟨rfl, PB.call hPc hKc hDc hTb hZ hS hFc hU hW⟩⟩ rfl rfl hl.1 rfl (lv_room (Nat.le_of_ble_eq_true rfl)) dL_law_2360 ⟨Nat.le_of_ble_eq_true rfl, Nat.le_of_ble_eq_true rfl⟩) hS (fun q _ h => hFc q h) hFc (fun r u t H locs ht hvm hw hB hz1 hk1 hS => ?_)
  obtain ⟨hP, hD, hK⟩ := PE.join0 (wc := [(h0, .inr (9, [.int 7, .ref a1, .int 0, .ref a2, .int 0, .int 0, .ref w1, .ref p1, .ref o1])), (a1, .inl (cA1, 4, .inr (.inr (.inr (.inr (fun _ => none)))))), (a2, .inl (cA2, 10, .inr (.inr (.inr (.inr (fun _ => none))))))]) (wr := [(m0, .inr (13, [.int 0, .int 7, .int 0, .ref l1, .ref l2])), (l1, .inr (2, [.int 0, .ref dE, .int 0])), (l2, .inr (2, [.int 0, .ref dE, .int 0])), (o0, .inr (10, [.long 0, .double FP.dconst0, .null]))]) (tr := []) hP hD hK [0, 1, 2] [3, 4, 5, 6] [] rfl rfl rfl (by decide) (by decide) hk1 hFc
  have hP : va_P (dC, dI) vwCl [(m0, .inr (13, [.int 0, .int 7, .int 0, .ref l1, .ref l2])), (l1, .inr (2, [.int 0, .ref dE, .int 0])), (l2, .inr (2, [.int 0, .ref dE, .int 0])), (o0, .inr (10, [.long 0, .double FP.dconst0, .null]))] H := hP
  have hD : va_D A [(m0, .inr (13, [.int 0, .int 7, .int 0, .ref l1, .ref l2])), (l1, .inr (2, [.int 0, .ref dE, .int 0])), (l2, .inr (2, [.int 0, .ref dE, .int 0])), (o0, .inr (10, [.long 0, .double FP.dconst0, .null]))] := hD
  have hK : va_K (dC, dI) vwCl [] s := hK
  subst hw
  refine W.widen (k := 38) (n := 523) (by omega) (by omega) ?_
  refine lv_istore (lv' := [(5, .int 1), (4, .int 0), (3, .ref o0), (2, .ref m0), (1, .ref h0), (0, .ref b)]) hx hb dL_law_2363 hl (by decide) rfl (fun ls hl => ?_)
  refine lv_aload_n hx hb dL_law_2365 rfl (lv_at hl 3 rfl) ?_
  refine lv_aload_n hx hb dL_law_2366 rfl (lv_at hl 5 rfl) ?_
  refine lv_iload hx hb dL_law_2367 (lv_at hl 1 rfl) ?_
  refine lv_iconst (v := 1) hx hb dL_law_2369 (by decide) ?_
  refine lv_iadd hx hb dL_law_2370 ?_
  refine lv_topi (fun f4 ef4 => ?_)
  obtain rfl : f4 = 1 := ef4.trans (by decide)
  refine va_sld hx hb hX hbl hbA hS (by unfold vp_in; decide) dL_law_2371 ?_
  refine lv_aload_n hx hb dL_law_2372 rfl (lv_at hl 5 rfl) ?_
  refine lv_iload hx hb dL_law_2373 (lv_at hl 1 rfl) ?_
  refine lv_iconst (v := 2) hx hb dL_law_2375 (by decide) ?_
  refine lv_iadd hx hb dL_law_2376 ?_
  refine lv_topi (fun f5 ef5 => ?_)
  obtain rfl : f5 = 2 := ef5.trans (by decide)
  refine va_sld hx hb hX hbl hbA hS (by unfold vp_in; decide) dL_law_2377 ?_
  refine lv_aload_n hx hb dL_law_2378 rfl (lv_at hl 5 rfl) ?_
  refine lv_iload hx hb dL_law_2379 (lv_at hl 1 rfl) ?_
  refine lv_iconst (v := 3) hx hb dL_law_2381 (by decide) ?_
  refine lv_iadd hx hb dL_law_2382 ?_
  refine lv_topi (fun f6 ef6 => ?_)
  obtain rfl : f6 = 3 := ef6.trans (by decide)
  refine va_sld hx hb hX hbl hbA hS (by unfold vp_in; decide) dL_law_2383 ?_
  have hPc := hP.sub (ws' := [(m0, .inr (13, [.int 0, .int 7, .int 0, .ref l1, .ref l2])), (l1, .inr (2, [.int 0, .ref dE, .int 0])), (l2, .inr (2, [.int 0, .ref dE, .int 0]))]) [0, 1, 2] rfl
  have hDc := hD.sub (ws' := [(m0, .inr (13, [.int 0, .int 7, .int 0, .ref l1, .ref l2])), (l1, .inr (2, [.int 0, .ref dE, .int 0])), (l2, .inr (2, [.int 0, .ref dE, .int 0]))]) [0, 1, 2] (by decide) rfl
  have hKc := hK.sub (tys' := []) [] rfl
  have hFc := va_free (wc := [(m0, .inr (13, [.int 0, .int 7, .int 0, .ref l1, .ref l2])), (l1, .inr (2, [.int 0, .ref dE, .int 0])), (l2, .inr (2, [.int 0, .ref dE, .int 0]))]) hD hS hA [0, 1, 2] rfl
  refine va_calli (va_runV (As := [.int (xs (Int32.toNatClampNeg 1)), .int (xs (Int32.toNatClampNeg 2)), .int (xs (Int32.toNatClampNeg 3))]) (rest := []) ⟨hx, hb, hml, hown, hts⟩ (c_M_scaleOf l dC dI dE m0 l1 l2 (xs (Int32.toNatClampNeg 1)) (xs (Int32.toNatClampNeg 2)) (xs (Int32.toNatClampNeg 3)) H.size) (cwV 3 hts gL_law_X10_scaleOf rfl rfl rfl (by decide +kernel) ⟨Nat.le_of_ble_eq_true rfl, Nat.le_of_ble_eq_true rfl⟩) ⟨fun a U g mk q => ⟨q.1, PB.blind q.2⟩, va_recv hKc hPc (ci := 13) (q0 := 0) rfl rfl, fun U hU hW => ⟨rfl, PB.call hPc hKc hDc hTb hZ hS hFc hU hW⟩⟩ rfl rfl hl.1 rfl (lv_room (Nat.le_of_ble_eq_true rfl)) dL_law_2384 ⟨Nat.le_of_ble_eq_true rfl, Nat.le_of_ble_eq_true rfl⟩) hS (fun q _ h => hFc q h) hFc (fun r u t H locs ht hvm hw hB hz1 hk1 hS => ?_)
  obtain ⟨hP, hD, hK⟩ := PE.join (wc := [(m0, .inr (13, [.int 0, .int 7, .int 0, .ref l1, .ref l2])), (l1, .inr (2, [.int 0, .ref dE, .int 0])), (l2, .inr (2, [.int 0, .ref dE, .int 0]))]) (wr := [(o0, .inr (10, [.long 0, .double FP.dconst0, .null]))]) (w1 := [(m0, .inr (13, [.int 1, .int 7, .int 0, .ref l1, .ref l2])), (l1, .inr (2, [.int 0, .ref dE, .int 0])), (l2, .inr (2, [.int 0, .ref dE, .int 0]))]) (tr := []) (t1 := []) hP hD hK [0, 1, 2] [3] [] rfl rfl rfl (by decide) (by decide) hk1 hFc ht hvm hB
  have hP : va_P (dC, dI) vwCl [(o0, .inr (10, [.long 0, .double FP.dconst0, .null])), (m0, .inr (13, [.int 1, .int 7, .int 0, .ref l1, .ref l2])), (l1, .inr (2, [.int 0, .ref dE, .int 0])), (l2, .inr (2, [.int 0, .ref dE, .int 0]))] H := hP
  have hD : va_D A [(o0, .inr (10, [.long 0, .double FP.dconst0, .null])), (m0, .inr (13, [.int 1, .int 7, .int 0, .ref l1, .ref l2])), (l1, .inr (2, [.int 0, .ref dE, .int 0])), (l2, .inr (2, [.int 0, .ref dE, .int 0]))] := hD
  have hK : va_K (dC, dI) vwCl [] s := hK
  subst hw
  refine lv_istore (lv' := [(6, .int 0), (5, .int 1), (4, .int 0), (3, .ref o0), (2, .ref m0), (1, .ref h0), (0, .ref b)]) hx hb dL_law_2387 hl (by decide) rfl (fun ls hl => ?_)
  refine lv_aload_n hx hb dL_law_2389 rfl (lv_at hl 4 rfl) ?_
  have hPc := hP.sub (ws' := [(m0, .inr (13, [.int 1, .int 7, .int 0, .ref l1, .ref l2]))]) [1] rfl
  have hDc := hD.sub (ws' := [(m0, .inr (13, [.int 1, .int 7, .int 0, .ref l1, .ref l2]))]) [1] (by decide) rfl
  have hKc := hK.sub (tys' := []) [] rfl
  have hFc := va_free (wc := [(m0, .inr (13, [.int 1, .int 7, .int 0, .ref l1, .ref l2]))]) hD hS hA [1] rfl
  refine va_calli (va_runV (As := []) (rest := []) ⟨hx, hb, hml, hown, hts⟩ (c_M_thrown l dC dI dE m0 1 7 0 l1 l2 H.size) (cwV 0 hts gL_law_X10_thrown rfl rfl rfl (by decide +kernel) ⟨Nat.le_of_ble_eq_true rfl, Nat.le_of_ble_eq_true rfl⟩) ⟨fun a U g mk q => ⟨q.1, PB.blind q.2⟩, va_recv hKc hPc (ci := 13) (q0 := 0) rfl rfl, fun U hU hW => ⟨rfl, PB.call hPc hKc hDc hTb hZ hS hFc hU hW⟩⟩ rfl rfl hl.1 rfl (lv_room (Nat.le_of_ble_eq_true rfl)) dL_law_2390 ⟨Nat.le_of_ble_eq_true rfl, Nat.le_of_ble_eq_true rfl⟩) hS (fun q _ h => hFc q h) hFc (fun r u t H locs ht hvm hw hB hz1 hk1 hS => ?_)
  obtain ⟨hP, hD, hK⟩ := PE.join0 (wc := [(m0, .inr (13, [.int 1, .int 7, .int 0, .ref l1, .ref l2]))]) (wr := [(o0, .inr (10, [.long 0, .double FP.dconst0, .null])), (l1, .inr (2, [.int 0, .ref dE, .int 0])), (l2, .inr (2, [.int 0, .ref dE, .int 0]))]) (tr := []) hP hD hK [1] [0, 2, 3] [] rfl rfl rfl (by decide) (by decide) hk1 hFc
  have hP : va_P (dC, dI) vwCl [(o0, .inr (10, [.long 0, .double FP.dconst0, .null])), (l1, .inr (2, [.int 0, .ref dE, .int 0])), (l2, .inr (2, [.int 0, .ref dE, .int 0]))] H := hP
  have hD : va_D A [(o0, .inr (10, [.long 0, .double FP.dconst0, .null])), (l1, .inr (2, [.int 0, .ref dE, .int 0])), (l2, .inr (2, [.int 0, .ref dE, .int 0]))] := hD
  have hK : va_K (dC, dI) vwCl [] s := hK
  subst hw
  refine lv_iload hx hb dL_law_2393 (lv_at hl 1 rfl) ?_
  refine lv_icmp_eq (tgt := 2400) hx hb dL_law_2395 (by decide) (fun _ => ?_) (fun c9 => absurd (by decide) c9)
  refine lv_iload hx hb dL_law_2400 (lv_at hl 1 rfl) ?_
  refine lv_if_ne (tgt := 2418) hx hb dL_law_2402 (by decide) (fun _ => ?_) (fun c9 => absurd c9 (by decide))
  refine lv_goto (tgt := 2435) hx hb dL_law_2418 (by decide) ?_
  exact lk_end C0 hA2 hbA hS (Nat.le_of_ble_eq_true rfl) (Nat.le_of_ble_eq_true rfl) (lv_sub hl [2, 6] rfl)

