set_option maxRecDepth 20000 in
theorem ggL_law_X14_got : GoodIn wsL_law wsX14_got := goodIn_r _ [1371, 239, 124, 243, 244, 245, 116, 246, 169, 1495, 1496, 1497, 1498, 1499, 1500, 1501, 1502, 1503, 1504, 1505, 1506, 1507, 1508, 1509, 1510, 1511, 1512, 1513, 1587, 1588, 1589] (by decide +kernel) (by decide +kernel)
set_option maxRecDepth 20000 in
theorem gL_law_X14_got : GoodIn wsL_law (wsV RL 321 RX14 yX14_got wsX14_got) := goodIn_app (goodIn_of _ (by decide +kernel)) ggL_law_X14_got
set_option maxRecDepth 20000 in
theorem ggL_law_L_gotAt : GoodIn wsL_law wsL_gotAt := goodIn_ca (goodIn_ca (goodIn_r _ [1374, 554, 1375, 1376, 1377, 2, 1378, 26, 1342, 1343, 1344, 559, 560, 764, 24, 765, 766, 47, 718, 1482, 1483, 1484, 1485, 1486, 1487, 1488, 1489, 1490, 1491, 1492, 1493, 1494, 1514, 1515, 1516, 1517] (by decide +kernel) (by decide +kernel)) (goodIn_sub (fun _ h => List.mem_append_left _ (List.mem_append_left _ (List.mem_append_left _ (List.mem_append_left _ (List.mem_append_left _ (List.mem_append_left _ (List.mem_append_left _ (List.mem_append_right _ h)))))))) (by decide +kernel))) (goodIn_sub (fun _ h => List.mem_append_left _ (List.mem_append_left _ (List.mem_append_right _ h))) (by decide +kernel))
set_option maxRecDepth 20000 in
theorem gL_law_L_gotAt : GoodIn wsL_law (va_wsS RL 322 yL_gotAt wsL_gotAt) := goodIn_app (goodIn_of _ (by decide +kernel)) ggL_law_L_gotAt
set_option maxRecDepth 20000 in
theorem ggL_law_X14_gotAt : GoodIn wsL_law wsX14_gotAt := goodIn_r _ [1382, 124, 1349, 1350, 1351, 5, 1352, 1205, 210, 184, 211, 239, 772, 243, 244, 245, 116, 246, 169, 240, 241, 242, 286, 287, 288, 289, 290, 291, 292, 293, 294, 295, 296, 297, 298, 299, 300, 301, 135, 774, 775, 776, 727, 777, 736, 1495, 1496, 1497, 1498, 1499, 1500, 1501, 1502, 1503, 1504, 1505, 1506, 1507, 1508, 1509, 1510, 1511, 1512, 1513, 1587, 1588, 1589, 1630] (by decide +kernel) (by decide +kernel)
set_option maxRecDepth 20000 in
theorem gL_law_X14_gotAt : GoodIn wsL_law (wsV RL 324 RX14 yX14_gotAt wsX14_gotAt) := goodIn_app (goodIn_of _ (by decide +kernel)) ggL_law_X14_gotAt
set_option maxRecDepth 20000 in
theorem ggL_law_L_packets : GoodIn wsL_law wsL_packets := goodIn_ca (goodIn_ca (goodIn_r _ [1385, 220, 1386, 1387, 1388, 2, 1389, 225, 226, 38, 1482, 1483, 1484, 1485, 1486, 1487, 1488, 1489, 1490, 1491, 1492, 1493, 1494, 1533, 1534, 1535] (by decide +kernel) (by decide +kernel)) (goodIn_sub (fun _ h => List.mem_append_left _ (List.mem_append_left _ (List.mem_append_left _ (List.mem_append_left _ (List.mem_append_left _ (List.mem_append_left _ (List.mem_append_left _ (List.mem_append_right _ h)))))))) (by decide +kernel))) (goodIn_sub (fun _ h => List.mem_append_left _ (List.mem_append_left _ (List.mem_append_left _ (List.mem_append_left _ (List.mem_append_left _ (List.mem_append_left _ (List.mem_append_right _ h))))))) (by decide +kernel))
set_option maxRecDepth 20000 in
theorem gL_law_L_packets : GoodIn wsL_law (va_wsS RL 325 yL_packets wsL_packets) := goodIn_app (goodIn_of _ (by decide +kernel)) ggL_law_L_packets
set_option maxRecDepth 20000 in
theorem ggL_law_X14_packets : GoodIn wsL_law wsX14_packets := goodIn_r _ [1393, 239, 609, 1210, 1227, 1495, 1496, 1497, 1498, 1499, 1500, 1501, 1502, 1503, 1504, 1505, 1506, 1507, 1508, 1509, 1510, 1511, 1512, 1513] (by decide +kernel) (by decide +kernel)
set_option maxRecDepth 20000 in
theorem gL_law_X14_packets : GoodIn wsL_law (wsV RL 328 RX14 yX14_packets wsX14_packets) := goodIn_app (goodIn_of _ (by decide +kernel)) ggL_law_X14_packets
