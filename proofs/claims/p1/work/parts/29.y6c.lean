set_option maxRecDepth 20000 in
theorem ggL_law_X9_missed : GoodIn wsL_law wsX9_missed := goodIn_r _ [1311, 34, 1482, 1483, 1484, 1485, 1486, 1487, 1488, 1489, 1490, 1491, 1492, 1493, 1494, 1523, 1524, 1525, 1526, 1527, 1528, 1529, 1530, 1531, 1532] (by decide +kernel) (by decide +kernel)
set_option maxRecDepth 20000 in
theorem gL_law_X9_missed : GoodIn wsL_law (wsV RL 305 RX9 yX9_missed wsX9_missed) := goodIn_app (goodIn_of _ (by decide +kernel)) ggL_law_X9_missed
set_option maxRecDepth 20000 in
theorem ggL_law_X14_missed : GoodIn wsL_law wsX14_missed := goodIn_r _ [1315, 239, 467, 1495, 1496, 1497, 1498, 1499, 1500, 1501, 1502, 1503, 1504, 1505, 1506, 1507, 1508, 1509, 1510, 1511, 1512, 1513] (by decide +kernel) (by decide +kernel)
set_option maxRecDepth 20000 in
theorem gL_law_X14_missed : GoodIn wsL_law (wsV RL 308 RX14 yX14_missed wsX14_missed) := goodIn_app (goodIn_of _ (by decide +kernel)) ggL_law_X14_missed
set_option maxRecDepth 20000 in
theorem ggL_law_L_taken : GoodIn wsL_law wsL_taken := goodIn_ca (goodIn_ca (goodIn_ca (goodIn_r _ [1318, 254, 1319, 1320, 1321, 2, 1322, 1323, 1324, 1325, 1326, 259, 260, 261, 262, 263, 264, 265, 266, 43, 15, 793, 794, 795, 232, 233, 234, 1572, 1573, 1574, 1575, 1576, 1577, 1578, 1579, 1580, 1514, 1515, 1516, 1517, 1482, 1483, 1484, 1485, 1486, 1487, 1488, 1489, 1490, 1491, 1492, 1493, 1494, 1536, 1537, 1538, 1539, 1540, 1541, 1542, 1543, 1544, 1545, 1546, 1547, 1548, 1549, 1550, 1551, 1552, 1553, 1554, 1555] (by decide +kernel) (by decide +kernel)) (goodIn_sub (fun _ h => List.mem_append_left _ (List.mem_append_left _ (List.mem_append_left _ (List.mem_append_left _ (List.mem_append_left _ (List.mem_append_left _ (List.mem_append_left _ (List.mem_append_right _ h)))))))) (by decide +kernel))) (goodIn_sub (fun _ h => List.mem_append_left _ (List.mem_append_left _ (List.mem_append_left _ (List.mem_append_left _ (List.mem_append_right _ h))))) (by decide +kernel))) (goodIn_sub (fun _ h => List.mem_append_left _ (List.mem_append_left _ (List.mem_append_left _ (List.mem_append_right _ h)))) (by decide +kernel))
set_option maxRecDepth 20000 in
theorem gL_law_L_taken : GoodIn wsL_law (va_wsS RL 309 yL_taken wsL_taken) := goodIn_app (goodIn_of _ (by decide +kernel)) ggL_law_L_taken
set_option maxRecDepth 20000 in
theorem ggL_law_X14_taken_ : GoodIn wsL_law wsX14_taken_ := goodIn_r _ [1330, 117, 274, 1331, 1332, 1333, 5, 1334, 239, 837, 838, 839, 840, 282, 283, 284, 285, 243, 244, 245, 116, 246, 169, 240, 241, 242, 286, 287, 288, 289, 290, 291, 292, 293, 294, 295, 296, 297, 298, 299, 300, 301, 135, 1495, 1496, 1497, 1498, 1499, 1500, 1501, 1502, 1503, 1504, 1505, 1506, 1507, 1508, 1509, 1510, 1511, 1512, 1513, 1590, 1591, 1592, 1593, 1594, 1595, 1596, 1597, 1598, 1599, 1600, 1601, 1602, 1603, 1604, 1605, 1606, 1607, 1608, 1609, 1610, 1587, 1588, 1589] (by decide +kernel) (by decide +kernel)
set_option maxRecDepth 20000 in
theorem gL_law_X14_taken_ : GoodIn wsL_law (wsV RL 311 RX14 yX14_taken_ wsX14_taken_) := goodIn_app (goodIn_of _ (by decide +kernel)) ggL_law_X14_taken_

