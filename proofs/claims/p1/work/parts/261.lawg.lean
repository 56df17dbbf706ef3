set_option maxRecDepth 20000 in
theorem ggL_law_X8_init : GoodIn wsL_law wsX8_init := goodIn_r _ [9, 10, 11, 12, 13, 14, 15, 16, 17, 18, 19, 20, 21, 22, 23, 24, 25, 26, 27, 28, 29, 30, 31, 32, 33, 34, 35, 36, 37, 38, 39, 40, 41, 42, 43, 44, 45, 46, 47, 48, 49, 50, 51, 52, 53, 54, 55, 56, 57, 58, 59, 60, 61, 62, 63, 64, 65, 66, 67, 68, 69, 70, 71, 72, 73, 74, 75, 76, 77, 78, 79, 80, 81, 82, 83, 84, 85, 86, 87, 88, 89, 90, 91, 92, 93, 94, 95, 96, 97, 98, 99, 100, 101, 102, 1540, 1541, 1542, 1543, 1544, 1545, 1546, 1547, 1548, 1549, 1550, 1551, 1552, 1553, 1554, 1555, 1483, 1484, 1485, 1486, 1487, 1488, 1489, 1490, 1491, 1492, 1493, 1556, 1557, 1558, 1559, 1560, 1561, 1562, 1563, 1564, 1565, 1566, 1567, 1568, 1569, 1570, 1571, 1572, 1573, 1574, 1575, 1576, 1577, 1578, 1579, 1580, 1581, 1582, 1583, 1584, 1585, 1586, 1587, 1588, 1589, 1590, 1591, 1592, 1593, 1594, 1595, 1596, 1597] rfl (by decide +kernel)
set_option maxRecDepth 20000 in
theorem gL_law_X8_init : GoodIn wsL_law (wsX8_init) := ggL_law_X8_init
set_option maxRecDepth 20000 in
theorem ggL_law_X9_init : GoodIn wsL_law wsX9_init := goodIn_r _ [105, 106, 11, 12, 52, 107, 108, 97, 109, 110, 63, 111, 112, 113, 114, 115, 116, 117, 118, 119, 120, 121, 122, 19, 123, 124, 125, 126, 127, 128, 129, 130, 131, 132, 1494, 1495, 1496, 1497, 1498, 1499, 1500, 1501, 1502, 1503, 1504, 1505, 1506, 1507, 1508, 1509, 1510, 1511, 1512, 1513, 1514, 1515, 1516, 1517, 1518, 1519, 1520, 1521, 1522, 1523, 1524, 1525, 1526, 1527, 1528, 1529, 1530, 1531, 1532, 1533, 1534, 1535, 1536, 1537, 1538, 1539] rfl (by decide +kernel)
set_option maxRecDepth 20000 in
theorem gL_law_X9_init : GoodIn wsL_law (wsX9_init) := ggL_law_X9_init
set_option maxRecDepth 20000 in
theorem ggL_law_X8_feed : GoodIn wsL_law wsX8_feed := goodIn_r _ [136, 24, 137, 138, 139, 140, 23, 141, 142, 143, 144, 145, 146, 64, 147, 1483, 1484, 1485, 1486, 1487, 1488, 1489, 1490, 1491, 1492, 1493, 1556, 1557, 1558, 1559, 1560, 1561, 1562, 1563, 1564, 1565, 1566, 1567] rfl (by decide +kernel)
set_option maxRecDepth 20000 in
theorem gL_law_X8_feed : GoodIn wsL_law (wsV RL 13 RX8 yX8_feed wsX8_feed) := goodIn_app (goodIn_of _ (by decide +kernel)) ggL_law_X8_feed
set_option maxRecDepth 20000 in
theorem ggL_law_X9_feed : GoodIn wsL_law wsX9_feed := goodIn_r _ [151, 152, 153, 154, 155, 156, 5, 157, 111, 1494, 1495, 1496, 1497, 1498, 1499, 1500, 1501, 1502, 1503, 1504, 1505, 1506, 1507, 1508, 1509, 1510, 1511, 1512, 1513, 1514, 1515, 1516, 1517, 1518, 1519, 1520, 1521, 1522, 1523, 1524, 1525, 1526, 1527, 1528, 1529, 1530, 1531, 1532, 1533, 1534, 1535, 1536, 1537, 1538, 1539] rfl (by decide +kernel)
set_option maxRecDepth 20000 in
theorem gL_law_X9_feed : GoodIn wsL_law (wsV RL 17 RX9 yX9_feed wsX9_feed) := goodIn_app (goodIn_of _ (by decide +kernel)) ggL_law_X9_feed
set_option maxRecDepth 20000 in
theorem ggL_law_X8_end : GoodIn wsL_law wsX8_end := goodIn_r _ [161, 24, 137, 1483, 1484, 1485, 1486, 1487, 1488, 1489, 1490, 1491, 1492, 1493, 1556, 1557, 1558, 1559, 1560, 1561, 1562, 1563, 1564, 1565, 1566, 1567] rfl (by decide +kernel)
set_option maxRecDepth 20000 in
theorem gL_law_X8_end : GoodIn wsL_law (wsV RL 18 RX8 yX8_end wsX8_end) := goodIn_app (goodIn_of _ (by decide +kernel)) ggL_law_X8_end
set_option maxRecDepth 20000 in
theorem ggL_law_X9_end : GoodIn wsL_law wsX9_end := goodIn_r _ [165, 152, 153, 166, 167, 5, 168, 1494, 1495, 1496, 1497, 1498, 1499, 1500, 1501, 1502, 1503, 1504, 1505, 1506, 1507, 1508, 1509, 1510, 1511, 1512, 1513, 1514, 1515, 1516, 1517, 1518, 1519, 1520, 1521, 1522, 1523, 1524, 1525, 1526, 1527, 1528, 1529, 1530, 1531, 1532, 1533, 1534, 1535, 1536, 1537, 1538, 1539] rfl (by decide +kernel)
set_option maxRecDepth 20000 in
theorem gL_law_X9_end : GoodIn wsL_law (wsV RL 22 RX9 yX9_end wsX9_end) := goodIn_app (goodIn_of _ (by decide +kernel)) ggL_law_X9_end
set_option maxRecDepth 20000 in
theorem ggL_law_X8_city : GoodIn wsL_law wsX8_city := goodIn_r _ [172, 24, 137, 16, 17, 173, 174, 175, 176, 23, 177, 66, 178, 179, 180, 181, 65, 182, 183, 184, 185, 186, 15, 187, 188, 189, 190, 191, 192, 193, 194, 195, 196, 197, 142, 198, 199, 200, 201, 202, 203, 204, 205, 206, 207, 208, 64, 209, 210, 211, 212, 213, 214, 215, 216, 217, 218, 219, 220, 221, 222, 223, 224, 225, 226, 227, 228, 229, 230, 231, 232, 233, 234, 235, 236, 237, 238, 239, 240, 241, 242, 243, 244, 245, 246, 247, 248, 249, 250, 251, 252, 253, 254, 255, 256, 257, 258, 259, 260, 261, 262, 263, 264, 265, 266, 267, 268, 269, 270, 271, 272, 273, 274, 275, 276, 277, 278, 279, 280, 281, 282, 283, 284, 285, 286, 287, 288, 289, 290, 291, 292, 293, 55, 56, 57, 294, 295, 296, 297, 53, 54, 298, 299, 300, 301, 302, 303, 304, 305, 306, 2, 307, 308, 309, 310, 311, 312, 313, 314, 315, 316, 317, 318, 319, 320, 321, 322, 323, 324, 325, 326, 327, 328, 329, 330, 331, 332, 333, 334, 335, 336, 337, 338, 339, 340, 341, 342, 343, 344, 345, 346, 347, 348, 349, 350, 351, 352, 353, 354, 58, 355, 356, 357, 358, 359, 360, 361, 362, 363, 364, 365, 366, 367, 368, 369, 370, 371, 372, 1483, 1484, 1485, 1486, 1487, 1488, 1489, 1490, 1491, 1492, 1493, 1556, 1557, 1558, 1559, 1560, 1561, 1562, 1563, 1564, 1565, 1566, 1567, 1540, 1541, 1542, 1543, 1544, 1545, 1546, 1547, 1548, 1549, 1550, 1551, 1552, 1553, 1554, 1555] rfl (by decide +kernel)
set_option maxRecDepth 20000 in
theorem gL_law_X8_city : GoodIn wsL_law (wsV RL 23 RX8 yX8_city wsX8_city) := goodIn_app (goodIn_of _ (by decide +kernel)) ggL_law_X8_city
set_option maxRecDepth 20000 in
theorem ggL_law_X9_city : GoodIn wsL_law wsX9_city := goodIn_r _ [376, 152, 377, 113, 378, 114, 379, 380, 381, 382, 5, 383, 115, 116, 117, 118, 119, 122, 384, 385, 386, 387, 388, 389, 390, 391, 392, 393, 394, 395, 396, 397, 153, 398, 399, 111, 400, 401, 402, 403, 404, 405, 406, 407, 408, 409, 410, 411, 412, 413, 414, 415, 416, 417, 418, 419, 420, 421, 422, 423, 424, 425, 426, 427, 428, 429, 430, 166, 167, 168, 431, 432, 433, 434, 435, 436, 437, 438, 439, 120, 121, 440, 441, 442, 443, 444, 445, 446, 447, 448, 449, 450, 451, 452, 453, 454, 455, 456, 457, 458, 459, 460, 461, 462, 463, 464, 465, 466, 467, 468, 469, 470, 471, 472, 473, 474, 112, 475, 476, 477, 478, 479, 480, 481, 1494, 1495, 1496, 1497, 1498, 1499, 1500, 1501, 1502, 1503, 1504, 1505, 1506, 1507, 1508, 1509, 1510, 1511, 1512, 1513, 1514, 1515, 1516, 1517, 1518, 1519, 1520, 1521, 1522, 1523, 1524, 1525, 1526, 1527, 1528, 1529, 1530, 1531, 1532, 1533, 1534, 1535, 1536, 1537, 1538, 1539] rfl (by decide +kernel)
set_option maxRecDepth 20000 in
theorem gL_law_X9_city : GoodIn wsL_law (wsV RL 27 RX9 yX9_city wsX9_city) := goodIn_app (goodIn_of _ (by decide +kernel)) ggL_law_X9_city
set_option maxRecDepth 20000 in
theorem ggL_law_X8_fault : GoodIn wsL_law wsX8_fault := goodIn_r _ [485, 24, 486, 487, 1483, 1484, 1485, 1486, 1487, 1488, 1489, 1490, 1491, 1492, 1493, 1556, 1557, 1558, 1559, 1560, 1561, 1562, 1563, 1564, 1565, 1566, 1567] rfl (by decide +kernel)
set_option maxRecDepth 20000 in
theorem gL_law_X8_fault : GoodIn wsL_law (wsV RL 28 RX8 yX8_fault wsX8_fault) := goodIn_app (goodIn_of _ (by decide +kernel)) ggL_law_X8_fault
set_option maxRecDepth 20000 in
theorem ggL_law_X9_fault : GoodIn wsL_law wsX9_fault := goodIn_r _ [491, 152, 474, 112, 1494, 1495, 1496, 1497, 1498, 1499, 1500, 1501, 1502, 1503, 1504, 1505, 1506, 1507, 1508, 1509, 1510, 1511, 1512, 1513, 1514, 1515, 1516, 1517, 1518, 1519, 1520, 1521, 1522, 1523, 1524, 1525, 1526, 1527, 1528, 1529, 1530, 1531, 1532, 1533, 1534, 1535, 1536, 1537, 1538, 1539] rfl (by decide +kernel)
set_option maxRecDepth 20000 in
theorem gL_law_X9_fault : GoodIn wsL_law (wsV RL 31 RX9 yX9_fault wsX9_fault) := goodIn_app (goodIn_of _ (by decide +kernel)) ggL_law_X9_fault
set_option maxRecDepth 20000 in
theorem ggL_law_X8_tosses : GoodIn wsL_law wsX8_tosses := goodIn_r _ [495, 16, 496, 497, 303, 304, 15, 305, 188, 498, 499, 2, 500, 501, 502, 306, 307, 503, 504, 505, 506, 53, 507, 508, 509, 510, 55, 511, 512, 513, 514, 515, 516, 517, 518, 54, 1483, 1484, 1485, 1486, 1487, 1488, 1489, 1490, 1491, 1492, 1493, 1540, 1541, 1542, 1543, 1544, 1545, 1546, 1547, 1548, 1549, 1550, 1551, 1552, 1553, 1554, 1555] rfl (by decide +kernel)
set_option maxRecDepth 20000 in
theorem gL_law_X8_tosses : GoodIn wsL_law (wsV RL 32 RX8 yX8_tosses wsX8_tosses) := goodIn_app (goodIn_of _ (by decide +kernel)) ggL_law_X8_tosses
set_option maxRecDepth 20000 in
theorem ggL_law_X9_tosses : GoodIn wsL_law wsX9_tosses := goodIn_r _ [522, 152, 523, 115, 524, 525, 526, 5, 527, 114, 166, 167, 168, 528, 529, 530, 531, 532, 533, 534, 535, 117, 536, 537, 538, 539, 116, 540, 541, 542, 543, 118, 1494, 1495, 1496, 1497, 1498, 1499, 1500, 1501, 1502, 1503, 1504, 1505, 1506, 1507, 1508, 1509, 1510, 1511, 1512, 1513, 1514, 1515, 1516, 1517, 1518, 1519, 1520, 1521, 1522, 1523, 1524, 1525, 1526, 1527, 1528, 1529, 1530, 1531, 1532, 1533, 1534, 1535, 1536, 1537, 1538, 1539] rfl (by decide +kernel)
set_option maxRecDepth 20000 in
theorem gL_law_X9_tosses : GoodIn wsL_law (wsV RL 36 RX9 yX9_tosses wsX9_tosses) := goodIn_app (goodIn_of _ (by decide +kernel)) ggL_law_X9_tosses
set_option maxRecDepth 20000 in
theorem ggL_law_X8_period : GoodIn wsL_law wsX8_period := goodIn_r _ [547, 16, 548, 497, 303, 304, 15, 305, 188, 1483, 1484, 1485, 1486, 1487, 1488, 1489, 1490, 1491, 1492, 1493, 1540, 1541, 1542, 1543, 1544, 1545, 1546, 1547, 1548, 1549, 1550, 1551, 1552, 1553, 1554, 1555] rfl (by decide +kernel)
set_option maxRecDepth 20000 in
theorem gL_law_X8_period : GoodIn wsL_law (wsV RL 37 RX8 yX8_period wsX8_period) := goodIn_app (goodIn_of _ (by decide +kernel)) ggL_law_X8_period
set_option maxRecDepth 20000 in
theorem ggL_law_X9_period : GoodIn wsL_law wsX9_period := goodIn_r _ [552, 152, 116, 524, 525, 526, 5, 527, 114, 166, 167, 168, 1494, 1495, 1496, 1497, 1498, 1499, 1500, 1501, 1502, 1503, 1504, 1505, 1506, 1507, 1508, 1509, 1510, 1511, 1512, 1513, 1514, 1515, 1516, 1517, 1518, 1519, 1520, 1521, 1522, 1523, 1524, 1525, 1526, 1527, 1528, 1529, 1530, 1531, 1532, 1533, 1534, 1535, 1536, 1537, 1538, 1539] rfl (by decide +kernel)
set_option maxRecDepth 20000 in
theorem gL_law_X9_period : GoodIn wsL_law (wsV RL 40 RX9 yX9_period wsX9_period) := goodIn_app (goodIn_of _ (by decide +kernel)) ggL_law_X9_period
set_option maxRecDepth 20000 in
theorem ggL_law_X8_turn : GoodIn wsL_law wsX8_turn := goodIn_r _ [556, 16, 28, 557, 558, 559, 15, 560, 188, 561, 562, 563, 27, 564, 565, 566, 567, 568, 569, 570, 571, 70, 572, 573, 574, 575, 576, 577, 202, 203, 204, 578, 100, 101, 102, 579, 580, 581, 582, 583, 512, 513, 514, 584, 504, 505, 506, 53, 507, 508, 509, 510, 55, 511, 585, 516, 517, 518, 54, 586, 587, 588, 589, 590, 591, 1483, 1484, 1485, 1486, 1487, 1488, 1489, 1490, 1491, 1492, 1493, 1540, 1541, 1542, 1543, 1544, 1545, 1546, 1547, 1548, 1549, 1550, 1551, 1552, 1553, 1554, 1555, 1568, 1569, 1570, 1571, 1572, 1573, 1574, 1575] rfl (by decide +kernel)
set_option maxRecDepth 20000 in
theorem gL_law_X8_turn : GoodIn wsL_law (wsV RL 41 RX8 yX8_turn wsX8_turn) := goodIn_app (goodIn_of _ (by decide +kernel)) ggL_law_X8_turn
set_option maxRecDepth 20000 in
theorem ggL_law_X9_turn : GoodIn wsL_law wsX9_turn := goodIn_r _ [595, 152, 596, 597, 598, 5, 599, 114, 600, 601, 602, 603, 116, 1494, 1495, 1496, 1497, 1498, 1499, 1500, 1501, 1502, 1503, 1504, 1505, 1506, 1507, 1508, 1509, 1510, 1511, 1512, 1513, 1514, 1515, 1516, 1517, 1518, 1519, 1520, 1521, 1522, 1523, 1524, 1525, 1526, 1527, 1528, 1529, 1530, 1531, 1532, 1533, 1534, 1535, 1536, 1537, 1538, 1539] rfl (by decide +kernel)
set_option maxRecDepth 20000 in
theorem gL_law_X9_turn : GoodIn wsL_law (wsV RL 44 RX9 yX9_turn wsX9_turn) := goodIn_app (goodIn_of _ (by decide +kernel)) ggL_law_X9_turn
set_option maxRecDepth 20000 in
theorem ggL_law_X8_set : GoodIn wsL_law wsX8_set := goodIn_r _ [607, 16, 608, 299, 300, 15, 301, 55, 302, 303, 304, 305, 188, 497, 502, 306, 2, 307, 503, 504, 505, 506, 53, 507, 508, 509, 510, 511, 512, 513, 514, 515, 516, 517, 518, 54, 609, 295, 296, 297, 193, 298, 1483, 1484, 1485, 1486, 1487, 1488, 1489, 1490, 1491, 1492, 1493, 1540, 1541, 1542, 1543, 1544, 1545, 1546, 1547, 1548, 1549, 1550, 1551, 1552, 1553, 1554, 1555] rfl (by decide +kernel)
set_option maxRecDepth 20000 in
theorem gL_law_X8_set : GoodIn wsL_law (wsV RL 45 RX8 yX8_set wsX8_set) := goodIn_app (goodIn_of _ (by decide +kernel)) ggL_law_X8_set
set_option maxRecDepth 20000 in
theorem ggL_law_X9_set : GoodIn wsL_law wsX9_set := goodIn_r _ [613, 152, 465, 117, 118, 614, 615, 616, 5, 617, 116, 524, 525, 526, 527, 114, 166, 167, 168, 1494, 1495, 1496, 1497, 1498, 1499, 1500, 1501, 1502, 1503, 1504, 1505, 1506, 1507, 1508, 1509, 1510, 1511, 1512, 1513, 1514, 1515, 1516, 1517, 1518, 1519, 1520, 1521, 1522, 1523, 1524, 1525, 1526, 1527, 1528, 1529, 1530, 1531, 1532, 1533, 1534, 1535, 1536, 1537, 1538, 1539] rfl (by decide +kernel)
set_option maxRecDepth 20000 in
theorem gL_law_X9_set : GoodIn wsL_law (wsV RL 49 RX9 yX9_set wsX9_set) := goodIn_app (goodIn_of _ (by decide +kernel)) ggL_law_X9_set
set_option maxRecDepth 20000 in
theorem ggL_law_X8_swap : GoodIn wsL_law wsX8_swap := goodIn_r _ [621, 16, 608, 299, 300, 15, 301, 55, 302, 303, 304, 305, 188, 622, 623, 624, 2, 625, 503, 504, 505, 506, 53, 507, 508, 509, 510, 511, 512, 513, 514, 515, 516, 517, 518, 54, 626, 627, 628, 609, 295, 296, 297, 193, 298, 306, 307, 1483, 1484, 1485, 1486, 1487, 1488, 1489, 1490, 1491, 1492, 1493, 1540, 1541, 1542, 1543, 1544, 1545, 1546, 1547, 1548, 1549, 1550, 1551, 1552, 1553, 1554, 1555] rfl (by decide +kernel)
set_option maxRecDepth 20000 in
theorem gL_law_X8_swap : GoodIn wsL_law (wsV RL 50 RX8 yX8_swap wsX8_swap) := goodIn_app (goodIn_of _ (by decide +kernel)) ggL_law_X8_swap
set_option maxRecDepth 20000 in
theorem ggL_law_X9_swap : GoodIn wsL_law wsX9_swap := goodIn_r _ [632, 152, 117, 465, 118, 614, 615, 616, 5, 617, 116, 524, 525, 526, 527, 114, 166, 167, 168, 1494, 1495, 1496, 1497, 1498, 1499, 1500, 1501, 1502, 1503, 1504, 1505, 1506, 1507, 1508, 1509, 1510, 1511, 1512, 1513, 1514, 1515, 1516, 1517, 1518, 1519, 1520, 1521, 1522, 1523, 1524, 1525, 1526, 1527, 1528, 1529, 1530, 1531, 1532, 1533, 1534, 1535, 1536, 1537, 1538, 1539] rfl (by decide +kernel)
set_option maxRecDepth 20000 in
theorem gL_law_X9_swap : GoodIn wsL_law (wsV RL 53 RX9 yX9_swap wsX9_swap) := goodIn_app (goodIn_of _ (by decide +kernel)) ggL_law_X9_swap
set_option maxRecDepth 20000 in
theorem ggL_law_X8_shift : GoodIn wsL_law wsX8_shift := goodIn_r _ [636, 16, 17, 548, 608, 299, 300, 15, 301, 55, 302, 303, 304, 305, 188, 365, 366, 367, 368, 189, 190, 191, 192, 53, 369, 370, 371, 372, 54, 56, 57, 58, 193, 503, 504, 505, 506, 507, 508, 509, 510, 511, 512, 513, 514, 515, 516, 517, 518, 609, 295, 296, 297, 298, 306, 2, 307, 1483, 1484, 1485, 1486, 1487, 1488, 1489, 1490, 1491, 1492, 1493, 1540, 1541, 1542, 1543, 1544, 1545, 1546, 1547, 1548, 1549, 1550, 1551, 1552, 1553, 1554, 1555] rfl (by decide +kernel)
set_option maxRecDepth 20000 in
theorem gL_law_X8_shift : GoodIn wsL_law (wsV RL 54 RX8 yX8_shift wsX8_shift) := goodIn_app (goodIn_of _ (by decide +kernel)) ggL_law_X8_shift
set_option maxRecDepth 20000 in
theorem ggL_law_X9_shift : GoodIn wsL_law wsX9_shift := goodIn_r _ [640, 152, 116, 124, 117, 125, 118, 614, 615, 616, 5, 617, 524, 525, 526, 527, 114, 166, 167, 168, 1494, 1495, 1496, 1497, 1498, 1499, 1500, 1501, 1502, 1503, 1504, 1505, 1506, 1507, 1508, 1509, 1510, 1511, 1512, 1513, 1514, 1515, 1516, 1517, 1518, 1519, 1520, 1521, 1522, 1523, 1524, 1525, 1526, 1527, 1528, 1529, 1530, 1531, 1532, 1533, 1534, 1535, 1536, 1537, 1538, 1539] rfl (by decide +kernel)
set_option maxRecDepth 20000 in
theorem gL_law_X9_shift : GoodIn wsL_law (wsV RL 58 RX9 yX9_shift wsX9_shift) := goodIn_app (goodIn_of _ (by decide +kernel)) ggL_law_X9_shift
set_option maxRecDepth 20000 in
theorem ggL_law_X8_keeps : GoodIn wsL_law wsX8_keeps := goodIn_r _ [644, 16, 28, 557, 558, 559, 15, 560, 188, 645, 646, 647, 27, 648, 571, 566, 567, 568, 569, 570, 565, 70, 572, 573, 574, 575, 576, 577, 202, 203, 204, 578, 100, 101, 102, 579, 580, 581, 582, 583, 512, 513, 514, 584, 504, 505, 506, 53, 507, 508, 509, 510, 55, 511, 585, 516, 517, 518, 54, 586, 587, 588, 589, 590, 591, 1483, 1484, 1485, 1486, 1487, 1488, 1489, 1490, 1491, 1492, 1493, 1540, 1541, 1542, 1543, 1544, 1545, 1546, 1547, 1548, 1549, 1550, 1551, 1552, 1553, 1554, 1555, 1568, 1569, 1570, 1571, 1572, 1573, 1574, 1575] rfl (by decide +kernel)
set_option maxRecDepth 20000 in
theorem gL_law_X8_keeps : GoodIn wsL_law (wsV RL 59 RX8 yX8_keeps wsX8_keeps) := goodIn_app (goodIn_of _ (by decide +kernel)) ggL_law_X8_keeps
set_option maxRecDepth 20000 in
theorem ggL_law_X9_keeps : GoodIn wsL_law wsX9_keeps := goodIn_r _ [652, 152, 596, 597, 598, 5, 599, 114, 653, 654, 655, 656, 600, 601, 602, 603, 116, 657, 658, 659, 660, 661, 662, 663, 664, 532, 533, 534, 535, 117, 536, 537, 538, 539, 540, 541, 542, 543, 118, 1494, 1495, 1496, 1497, 1498, 1499, 1500, 1501, 1502, 1503, 1504, 1505, 1506, 1507, 1508, 1509, 1510, 1511, 1512, 1513, 1514, 1515, 1516, 1517, 1518, 1519, 1520, 1521, 1522, 1523, 1524, 1525, 1526, 1527, 1528, 1529, 1530, 1531, 1532, 1533, 1534, 1535, 1536, 1537, 1538, 1539] rfl (by decide +kernel)
set_option maxRecDepth 20000 in
theorem gL_law_X9_keeps : GoodIn wsL_law (wsV RL 62 RX9 yX9_keeps wsX9_keeps) := goodIn_app (goodIn_of _ (by decide +kernel)) ggL_law_X9_keeps
set_option maxRecDepth 20000 in
theorem ggL_law_X8_clash : GoodIn wsL_law wsX8_clash := goodIn_r _ [668, 16, 28, 669, 670, 671, 557, 558, 559, 15, 560, 188, 502, 306, 2, 307, 645, 646, 647, 27, 648, 571, 566, 567, 568, 569, 570, 565, 70, 572, 573, 574, 575, 576, 577, 202, 203, 204, 578, 100, 101, 102, 579, 580, 581, 582, 583, 512, 513, 514, 584, 504, 505, 506, 53, 507, 508, 509, 510, 55, 511, 585, 516, 517, 518, 54, 586, 587, 588, 589, 590, 591, 1483, 1484, 1485, 1486, 1487, 1488, 1489, 1490, 1491, 1492, 1493, 1540, 1541, 1542, 1543, 1544, 1545, 1546, 1547, 1548, 1549, 1550, 1551, 1552, 1553, 1554, 1555, 1568, 1569, 1570, 1571, 1572, 1573, 1574, 1575] rfl (by decide +kernel)
set_option maxRecDepth 20000 in
theorem gL_law_X8_clash : GoodIn wsL_law (wsV RL 63 RX8 yX8_clash wsX8_clash) := goodIn_app (goodIn_of _ (by decide +kernel)) ggL_law_X8_clash
set_option maxRecDepth 20000 in
theorem ggL_law_X9_clash : GoodIn wsL_law wsX9_clash := goodIn_r _ [675, 152, 523, 114, 596, 597, 598, 5, 599, 166, 167, 168, 600, 601, 602, 603, 116, 657, 658, 659, 660, 661, 662, 663, 664, 532, 533, 534, 535, 117, 536, 537, 538, 539, 540, 541, 542, 543, 118, 1494, 1495, 1496, 1497, 1498, 1499, 1500, 1501, 1502, 1503, 1504, 1505, 1506, 1507, 1508, 1509, 1510, 1511, 1512, 1513, 1514, 1515, 1516, 1517, 1518, 1519, 1520, 1521, 1522, 1523, 1524, 1525, 1526, 1527, 1528, 1529, 1530, 1531, 1532, 1533, 1534, 1535, 1536, 1537, 1538, 1539] rfl (by decide +kernel)
set_option maxRecDepth 20000 in
theorem gL_law_X9_clash : GoodIn wsL_law (wsV RL 66 RX9 yX9_clash wsX9_clash) := goodIn_app (goodIn_of _ (by decide +kernel)) ggL_law_X9_clash
set_option maxRecDepth 20000 in
theorem ggL_law_X8_balls : GoodIn wsL_law wsX8_balls := goodIn_r _ [679, 16, 28, 557, 558, 559, 15, 560, 188, 645, 646, 647, 27, 648, 571, 566, 567, 568, 569, 570, 565, 70, 572, 573, 574, 575, 576, 577, 202, 203, 204, 578, 100, 101, 102, 579, 580, 581, 582, 583, 512, 513, 514, 584, 504, 505, 506, 53, 507, 508, 509, 510, 55, 511, 585, 516, 517, 518, 54, 586, 587, 588, 589, 590, 591, 680, 681, 682, 683, 684, 685, 686, 687, 1483, 1484, 1485, 1486, 1487, 1488, 1489, 1490, 1491, 1492, 1493, 1540, 1541, 1542, 1543, 1544, 1545, 1546, 1547, 1548, 1549, 1550, 1551, 1552, 1553, 1554, 1555, 1568, 1569, 1570, 1571, 1572, 1573, 1574, 1575] rfl (by decide +kernel)
set_option maxRecDepth 20000 in
theorem gL_law_X8_balls : GoodIn wsL_law (wsV RL 67 RX8 yX8_balls wsX8_balls) := goodIn_app (goodIn_of _ (by decide +kernel)) ggL_law_X8_balls
set_option maxRecDepth 20000 in
theorem ggL_law_X9_balls : GoodIn wsL_law wsX9_balls := goodIn_r _ [691, 152, 596, 597, 598, 5, 599, 114, 653, 654, 655, 656, 600, 601, 602, 603, 116, 657, 658, 659, 660, 661, 662, 663, 664, 532, 533, 534, 535, 117, 536, 537, 538, 539, 540, 541, 542, 543, 118, 692, 693, 694, 695, 1494, 1495, 1496, 1497, 1498, 1499, 1500, 1501, 1502, 1503, 1504, 1505, 1506, 1507, 1508, 1509, 1510, 1511, 1512, 1513, 1514, 1515, 1516, 1517, 1518, 1519, 1520, 1521, 1522, 1523, 1524, 1525, 1526, 1527, 1528, 1529, 1530, 1531, 1532, 1533, 1534, 1535, 1536, 1537, 1538, 1539] rfl (by decide +kernel)
set_option maxRecDepth 20000 in
theorem gL_law_X9_balls : GoodIn wsL_law (wsV RL 70 RX9 yX9_balls wsX9_balls) := goodIn_app (goodIn_of _ (by decide +kernel)) ggL_law_X9_balls
set_option maxRecDepth 20000 in
theorem ggL_law_X8_lands : GoodIn wsL_law wsX8_lands := goodIn_r _ [699, 16, 28, 497, 303, 304, 15, 305, 188, 498, 499, 2, 500, 501, 502, 306, 307, 645, 646, 647, 27, 648, 571, 566, 567, 568, 569, 570, 565, 70, 572, 573, 574, 575, 576, 577, 202, 203, 204, 578, 100, 101, 102, 579, 580, 581, 582, 583, 512, 513, 514, 584, 504, 505, 506, 53, 507, 508, 509, 510, 55, 511, 585, 516, 517, 518, 54, 586, 587, 588, 589, 590, 591, 700, 701, 702, 703, 1483, 1484, 1485, 1486, 1487, 1488, 1489, 1490, 1491, 1492, 1493, 1540, 1541, 1542, 1543, 1544, 1545, 1546, 1547, 1548, 1549, 1550, 1551, 1552, 1553, 1554, 1555, 1568, 1569, 1570, 1571, 1572, 1573, 1574, 1575] rfl (by decide +kernel)
set_option maxRecDepth 20000 in
theorem gL_law_X8_lands : GoodIn wsL_law (wsV RL 71 RX8 yX8_lands wsX8_lands) := goodIn_app (goodIn_of _ (by decide +kernel)) ggL_law_X8_lands
set_option maxRecDepth 20000 in
theorem ggL_law_X9_lands : GoodIn wsL_law wsX9_lands := goodIn_r _ [707, 152, 114, 524, 525, 526, 5, 527, 166, 167, 168, 528, 529, 530, 531, 653, 654, 655, 656, 600, 601, 602, 603, 116, 657, 658, 659, 660, 661, 662, 663, 664, 532, 533, 534, 535, 117, 536, 537, 538, 539, 540, 541, 542, 543, 118, 1494, 1495, 1496, 1497, 1498, 1499, 1500, 1501, 1502, 1503, 1504, 1505, 1506, 1507, 1508, 1509, 1510, 1511, 1512, 1513, 1514, 1515, 1516, 1517, 1518, 1519, 1520, 1521, 1522, 1523, 1524, 1525, 1526, 1527, 1528, 1529, 1530, 1531, 1532, 1533, 1534, 1535, 1536, 1537, 1538, 1539] rfl (by decide +kernel)
set_option maxRecDepth 20000 in
theorem gL_law_X9_lands : GoodIn wsL_law (wsV RL 74 RX9 yX9_lands wsX9_lands) := goodIn_app (goodIn_of _ (by decide +kernel)) ggL_law_X9_lands
