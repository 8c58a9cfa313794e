set_option maxRecDepth 20000 in
theorem ggL_law_L_busyShare : GoodIn wsL_law wsL_busyShare := goodIn_ca (goodIn_ca (goodIn_r _ [1418, 1419, 1420, 1421, 1422, 2, 1423, 1424, 1425, 685, 30, 1482, 1483, 1484, 1485, 1486, 1487, 1488, 1489, 1490, 1491, 1492, 1493, 1494, 1518, 1519, 1520, 1521, 1522] (by decide +kernel) (by decide +kernel)) (goodIn_sub (fun _ h => List.mem_append_left _ (List.mem_append_left _ (List.mem_append_left _ (List.mem_append_left _ (List.mem_append_left _ (List.mem_append_left _ (List.mem_append_left _ (List.mem_append_right _ h)))))))) (by decide +kernel))) (goodIn_sub (fun _ h => List.mem_append_right _ h) (by decide +kernel))
set_option maxRecDepth 20000 in
theorem gL_law_L_busyShare : GoodIn wsL_law (va_wsS RL 335 yL_busyShare wsL_busyShare) := goodIn_app (goodIn_of _ (by decide +kernel)) ggL_law_L_busyShare
set_option maxRecDepth 20000 in
theorem ggL_law_X14_busyShare : GoodIn wsL_law wsX14_busyShare := goodIn_r _ [1429, 690, 239, 1200, 1495, 1496, 1497, 1498, 1499, 1500, 1501, 1502, 1503, 1504, 1505, 1506, 1507, 1508, 1509, 1510, 1511, 1512, 1513] (by decide +kernel) (by decide +kernel)
set_option maxRecDepth 20000 in
theorem gL_law_X14_busyShare : GoodIn wsL_law (wsV RL 338 RX14 yX14_busyShare wsX14_busyShare) := goodIn_app (goodIn_of _ (by decide +kernel)) ggL_law_X14_busyShare
set_option maxRecDepth 20000 in
theorem ggL_law_L_meanBytes : GoodIn wsL_law wsL_meanBytes := goodIn_ca (goodIn_ca (goodIn_r _ [1432, 1419, 1433, 1434, 1435, 2, 1436, 1424, 1425, 34, 1482, 1483, 1484, 1485, 1486, 1487, 1488, 1489, 1490, 1491, 1492, 1493, 1494, 1523, 1524, 1525, 1526, 1527, 1528, 1529, 1530, 1531, 1532] (by decide +kernel) (by decide +kernel)) (goodIn_sub (fun _ h => List.mem_append_left _ (List.mem_append_left _ (List.mem_append_left _ (List.mem_append_left _ (List.mem_append_left _ (List.mem_append_left _ (List.mem_append_left _ (List.mem_append_right _ h)))))))) (by decide +kernel))) (goodIn_sub (fun _ h => List.mem_append_right _ h) (by decide +kernel))
set_option maxRecDepth 20000 in
theorem gL_law_L_meanBytes : GoodIn wsL_law (va_wsS RL 339 yL_meanBytes wsL_meanBytes) := goodIn_app (goodIn_of _ (by decide +kernel)) ggL_law_L_meanBytes
set_option maxRecDepth 20000 in
theorem ggL_law_X14_meanBytes : GoodIn wsL_law wsX14_meanBytes := goodIn_r _ [1440, 465, 239, 466, 1495, 1496, 1497, 1498, 1499, 1500, 1501, 1502, 1503, 1504, 1505, 1506, 1507, 1508, 1509, 1510, 1511, 1512, 1513] (by decide +kernel) (by decide +kernel)
set_option maxRecDepth 20000 in
theorem gL_law_X14_meanBytes : GoodIn wsL_law (wsV RL 341 RX14 yX14_meanBytes wsX14_meanBytes) := goodIn_app (goodIn_of _ (by decide +kernel)) ggL_law_X14_meanBytes
