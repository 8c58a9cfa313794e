set_option maxRecDepth 20000 in
theorem ggL_law_L_busyShare : GoodIn wsL_law wsL_busyShare := goodIn_ca (goodIn_ca (goodIn_r _ [1418, 1419, 1420, 1421, 1422, 2, 1423, 1424, 1425, 685, 30, 1482, 1483, 1484, 1485, 1486, 1487, 1488, 1489, 1490, 1491, 1492, 1493, 1494, 1518, 1519, 1520, 1521, 1522] (by decide +kernel) (by decide +kernel)) (goodIn_sub (fun _ h => List.mem_append_left _ (List.mem_append_left _ (List.mem_append_left _ (List.mem_append_left _ (List.mem_append_left _ (List.mem_append_left _ (List.mem_append_left _ (List.mem_append_right _ h)))))))) (by decide +kernel))) (goodIn_sub (fun _ h => List.mem_append_right _ h) (by decide +kernel))
set_option maxRecDepth 20000 in
theorem gL_law_L_busyShare : GoodIn wsL_law (va_wsS RL 335 yL_busyShare wsL_busyShare) := goodIn_app (goodIn_of _ (by decide +kernel)) ggL_law_L_busyShare
set_option maxRecDepth 20000 in
theorem ggL_law_X14_busyShare : GoodIn wsL_law wsX14_busyShare := goodIn_r _ [1429, 690, 239, 1200, 1495, 1496, 1497, 1498, 1499, 1500, 1501, 1502, 1503, 1504, 1505, 1506, 1507, 1508, 1509, 1510, 1511, 1512, 1513] (by decide +kernel) (by decide +kernel)
set_option maxRecDepth 20000 in
theorem gL_law_X14_busyShare : GoodIn wsL_law (wsV RL 338 RX14 yX14_busyShare wsX14_busyShare) := goodIn_app (goodIn_of _ (by decide +kernel)) ggL_law_X14_busyShare
set_option maxRecDepth 20000 in
theorem ggL_law_L_meanBytes : GoodIn wsL_law wsL_meanBytes := goodIn_ca (goodIn_ca (goodIn_r _ [1432, 1419, 1433, 1434, 1435, 2, 1436, 1424, 1425, 34, 1482, 1483, 1484, 1485, 1486, 1487, 1488, 1489, 1490, 1491, 1492, 1493, 1494, 1523, 1524, 1525, 1526, 1527, 1528, 1529, 1530, 1531, 1532] (by decide +kernel) (by decide +kernel)) (goodIn_sub (fun _ h => List.mem_append_left _ (List.mem_append_left _ (List.mem_append_left _ (List.mem_append_left _ (List.mem_append_left _ (List.mem_append_left _ (List.mem_append_left _ (List.mem_append_right _ h)))))))) (by decide +kernel))) (goodIn_sub (fun _ h => List.mem_append_right _ h) (by decide +kernel))
set_option maxRecDepth 20000 in
theorem gL_law_L_meanBytes : GoodIn wsL_law (va_wsS RL 339 yL_meanBytes wsL_meanBytes) := goodIn_app (goodIn_of _ (by decide +kernel)) ggL_law_L_meanBytes
set_option maxRecDepth 20000 in
theorem ggL_law_X14_meanBytes : GoodIn wsL_law wsX14_meanBytes := goodIn_r _ [1440, 465, 239, 466, 1495, 1496, 1497, 1498, 1499, 1500, 1501, 1502, 1503, 1504, 1505, 1506, 1507, 1508, 1509, 1510, 1511, 1512, 1513] (by decide +kernel) (by decide +kernel)
set_option maxRecDepth 20000 in
theorem gL_law_X14_meanBytes : GoodIn wsL_law (wsV RL 341 RX14 yX14_meanBytes wsX14_meanBytes) := goodIn_app (goodIn_of _ (by decide +kernel)) ggL_law_X14_meanBytes
set_option maxRecDepth 20000 in
theorem ggL_law_X9_checksum : GoodIn wsL_law wsX9_checksum := goodIn_ca (goodIn_r _ [1444, 1445, 43, 15, 1446, 26, 764, 24, 765, 766, 47, 718, 1482, 1483, 1484, 1485, 1486, 1487, 1488, 1489, 1490, 1491, 1492, 1493, 1494, 1536, 1537, 1538, 1539, 1540, 1541, 1542, 1543, 1544, 1545, 1546, 1547, 1548, 1549, 1550, 1551, 1552, 1553, 1554, 1555, 1514, 1515, 1516, 1517] (by decide +kernel) (by decide +kernel)) (goodIn_sub (fun _ h => List.mem_append_left _ (List.mem_append_left _ (List.mem_append_left _ (List.mem_append_left _ (List.mem_append_left _ (List.mem_append_left _ (List.mem_append_left _ (List.mem_append_right _ h)))))))) (by decide +kernel))
set_option maxRecDepth 20000 in
theorem gL_law_X9_checksum : GoodIn wsL_law (wsV RL 342 RX9 yX9_checksum wsX9_checksum) := goodIn_app (goodIn_of _ (by decide +kernel)) ggL_law_X9_checksum
set_option maxRecDepth 20000 in
theorem ggL_law_X14_checksum : GoodIn wsL_law wsX14_checksum := goodIn_r _ [1450, 239, 1451, 117, 274, 1452, 1453, 124, 862, 183, 184, 185, 772, 337, 338, 339, 116, 340, 341, 342, 343, 344, 345, 346, 347, 348, 12, 13, 349, 350, 168, 351, 352, 353, 354, 355, 356, 357, 358, 359, 360, 361, 362, 363, 364, 365, 243, 244, 245, 246, 169, 286, 287, 288, 289, 290, 291, 292, 293, 294, 295, 296, 297, 298, 299, 300, 301, 135, 774, 775, 776, 727, 777, 736, 1495, 1496, 1497, 1498, 1499, 1500, 1501, 1502, 1503, 1504, 1505, 1506, 1507, 1508, 1509, 1510, 1511, 1512, 1513, 1590, 1591, 1592, 1593, 1594, 1595, 1596, 1597, 1598, 1599, 1600, 1601, 1602, 1603, 1604, 1605, 1611, 1612, 1613, 1614, 1587, 1588, 1589, 1630] (by decide +kernel) (by decide +kernel)
set_option maxRecDepth 20000 in
theorem gL_law_X14_checksum : GoodIn wsL_law (wsV RL 346 RX14 yX14_checksum wsX14_checksum) := goodIn_app (goodIn_of _ (by decide +kernel)) ggL_law_X14_checksum
set_option maxRecDepth 20000 in
theorem ggL_law_X9_isSound : GoodIn wsL_law wsX9_isSound := goodIn_ca (goodIn_r _ [1457, 1458, 1459, 1460, 2, 1461, 30, 1462, 1463, 1464, 1465, 20, 402, 42, 403, 404, 98, 99, 396, 397, 398, 399, 400, 401, 1466, 1467, 1468, 1469, 15, 1470, 1471, 1472, 1473, 1474, 1475, 1476, 1477, 1482, 1483, 1484, 1485, 1486, 1487, 1488, 1489, 1490, 1491, 1492, 1493, 1494, 1518, 1519, 1520, 1521, 1522, 1556, 1557, 1558, 1559, 1560, 1561, 1562, 1563, 1564, 1565, 1566, 1567, 1568, 1569, 1572, 1573, 1574, 1575, 1576, 1577, 1578, 1579, 1580, 1536, 1537, 1538, 1539, 1540, 1541, 1542, 1543, 1544, 1545, 1546, 1547, 1548, 1549, 1550, 1551, 1552, 1553, 1554, 1555, 1514, 1515, 1516, 1517] (by decide +kernel) (by decide +kernel)) (goodIn_sub (fun _ h => List.mem_append_left _ (List.mem_append_left _ (List.mem_append_left _ (List.mem_append_left _ (List.mem_append_left _ (List.mem_append_left _ (List.mem_append_left _ (List.mem_append_right _ h)))))))) (by decide +kernel))
set_option maxRecDepth 20000 in
theorem gL_law_X9_isSound : GoodIn wsL_law (wsV RL 347 RX9 yX9_isSound wsX9_isSound) := goodIn_app (goodIn_of _ (by decide +kernel)) ggL_law_X9_isSound
set_option maxRecDepth 20000 in
theorem ggL_law_X14_isSound : GoodIn wsL_law wsX14_isSound := goodIn_r _ [1481, 239, 1495, 1496, 1497, 1498, 1499, 1500, 1501, 1502, 1503, 1504, 1505, 1506, 1507, 1508, 1509, 1510, 1511, 1512, 1513] (by decide +kernel) (by decide +kernel)
set_option maxRecDepth 20000 in
theorem gL_law_X14_isSound : GoodIn wsL_law (wsV RL 351 RX14 yX14_isSound wsX14_isSound) := goodIn_app (goodIn_of _ (by decide +kernel)) ggL_law_X14_isSound
