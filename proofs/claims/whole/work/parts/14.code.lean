/-! THE SMALL MACHINE: its methods are the claim's own -/
def am_cT : List Nat := [0, 571, 581, 585, 575, 591, 588, 596, 131, 638, 642, 669, 673, 705, 177, 651, 660, 712, 745, 749, 753, 757, 846, 893, 922, 1040, 1048, 1061, 353, 1185, 1189, 1203, 276, 864, 878, 882, 911, 940, 959, 971, 975, 1020, 1024, 1030, 1034, 1044, 1052, 1056, 1078, 1082, 1115, 1275, 289, 1015, 1074, 1093, 1111, 1129, 1141, 312, 987, 992, 996, 333, 1225, 1311, 125, 525, 529, 536, 541, 545, 549, 552, 556, 559, 563, 567, 619, 624, 629, 634, 647, 656, 665, 677, 681, 117, 417, 421, 425, 429, 433, 437, 441, 445, 454, 701, 721, 725, 765, 769, 777, 781, 785, 793, 797, 805, 809, 817, 825, 832, 839, 842, 853, 860, 874, 889, 900, 907, 918, 929, 936, 948, 955, 967, 983, 1004, 1011, 1070, 1089, 1100, 1107, 1125, 1137, 1148, 1155, 1162, 1169, 1177, 1181, 1198, 1212, 1220, 1235, 1244, 1252, 1260, 1269, 1282, 1290, 1299, 1306, 1318, 1321, 1329, 1335, 1449, 1453, 1457, 1461, 1465, 1469, 1473, 1476, 1480, 1484, 1488, 1492, 1495, 1498, 1503, 1507, 1513, 1517, 1521, 1526, 1530, 1535, 1540, 1545, 1550, 1553, 1558, 1562, 1565, 1568, 1572, 1576, 1580, 1584, 1588, 1592, 1596, 1600, 1604, 1608, 1612, 1616, 1620, 1624, 1628, 1632, 1636, 1640, 1644, 1648, 1652, 1656, 1660, 1664, 1668, 1673, 1677, 1681, 1685, 1689, 1693, 1697, 1701, 1705, 1709, 1713, 1717, 1721, 1725, 1729, 1733, 1737, 1741, 1745, 1749, 1753, 1757, 1761, 1765, 1769, 1773, 1777, 1781, 1785, 1789, 1793, 1797, 1801, 1805, 1809, 1813, 1817, 1821, 1825, 1829, 1833, 1837, 1841, 1845, 1849, 1853, 1857, 1861, 1865, 1869, 1873, 1877, 1881, 1885, 1889, 1893, 1897, 1901, 1905, 1909, 1913, 1917, 1921, 1925, 1929, 1933, 1937, 448, 716, 761, 773, 789, 801, 813, 821, 828, 835, 849, 856, 870, 885, 896, 903, 914, 925, 932, 944, 951, 963, 979, 1000, 1007, 1066, 1085, 1096, 1103, 1121, 1133, 1144, 1151, 1158, 1165, 1173, 1194, 1208, 1216, 1231, 1240, 1248, 1256, 1265, 1278, 1286, 1295, 1302, 1314, 1325]
def am_cw (y : Nat) : Jvm.Cond := if am_hh y = [] then .code (am_name y) (am_code y) (am_nL y) (am_rt y) else .codeWith (am_name y) (am_code y) (am_nL y) (am_rt y) (am_hh y)
theorem am_mlen : am_mt.length = 329 := by decide +kernel
set_option maxRecDepth 100000 in
theorem am_cwi_1 : lw_tbl[571]? = some (am_cw 1) := rfl
set_option maxRecDepth 100000 in
theorem am_cwi_2 : lw_tbl[581]? = some (am_cw 2) := rfl
set_option maxRecDepth 100000 in
theorem am_cwi_3 : lw_tbl[585]? = some (am_cw 3) := rfl
set_option maxRecDepth 100000 in
theorem am_cwi_4 : lw_tbl[575]? = some (am_cw 4) := rfl
set_option maxRecDepth 100000 in
theorem am_cwi_5 : lw_tbl[591]? = some (am_cw 5) := rfl
set_option maxRecDepth 100000 in
theorem am_cwi_6 : lw_tbl[588]? = some (am_cw 6) := rfl
set_option maxRecDepth 100000 in
theorem am_cwi_7 : lw_tbl[596]? = some (am_cw 7) := rfl
set_option maxRecDepth 100000 in
theorem am_cwi_8 : lw_tbl[131]? = some (am_cw 8) := rfl
set_option maxRecDepth 100000 in
theorem am_cwi_9 : lw_tbl[638]? = some (am_cw 9) := rfl
set_option maxRecDepth 100000 in
theorem am_cwi_10 : lw_tbl[642]? = some (am_cw 10) := rfl
set_option maxRecDepth 100000 in
theorem am_cwi_11 : lw_tbl[669]? = some (am_cw 11) := rfl
set_option maxRecDepth 100000 in
theorem am_cwi_12 : lw_tbl[673]? = some (am_cw 12) := rfl
set_option maxRecDepth 100000 in
theorem am_cwi_13 : lw_tbl[705]? = some (am_cw 13) := rfl
set_option maxRecDepth 100000 in
theorem am_cwi_14 : lw_tbl[177]? = some (am_cw 14) := rfl
set_option maxRecDepth 100000 in
theorem am_cwi_15 : lw_tbl[651]? = some (am_cw 15) := rfl
set_option maxRecDepth 100000 in
theorem am_cwi_16 : lw_tbl[660]? = some (am_cw 16) := rfl
set_option maxRecDepth 100000 in
theorem am_cwi_17 : lw_tbl[712]? = some (am_cw 17) := rfl
set_option maxRecDepth 100000 in
theorem am_cwi_18 : lw_tbl[745]? = some (am_cw 18) := rfl
set_option maxRecDepth 100000 in
theorem am_cwi_19 : lw_tbl[749]? = some (am_cw 19) := rfl
set_option maxRecDepth 100000 in
theorem am_cwi_20 : lw_tbl[753]? = some (am_cw 20) := rfl
set_option maxRecDepth 100000 in
theorem am_cwi_21 : lw_tbl[757]? = some (am_cw 21) := rfl
set_option maxRecDepth 100000 in
theorem am_cwi_22 : lw_tbl[846]? = some (am_cw 22) := rfl
set_option maxRecDepth 100000 in
theorem am_cwi_23 : lw_tbl[893]? = some (am_cw 23) := rfl
set_option maxRecDepth 100000 in
theorem am_cwi_24 : lw_tbl[922]? = some (am_cw 24) := rfl
set_option maxRecDepth 100000 in
theorem am_cwi_25 : lw_tbl[1040]? = some (am_cw 25) := rfl
set_option maxRecDepth 100000 in
theorem am_cwi_26 : lw_tbl[1048]? = some (am_cw 26) := rfl
set_option maxRecDepth 100000 in
theorem am_cwi_27 : lw_tbl[1061]? = some (am_cw 27) := rfl
set_option maxRecDepth 100000 in
theorem am_cwi_28 : lw_tbl[353]? = some (am_cw 28) := rfl
set_option maxRecDepth 100000 in
theorem am_cwi_29 : lw_tbl[1185]? = some (am_cw 29) := rfl
set_option maxRecDepth 100000 in
theorem am_cwi_30 : lw_tbl[1189]? = some (am_cw 30) := rfl
set_option maxRecDepth 100000 in
theorem am_cwi_31 : lw_tbl[1203]? = some (am_cw 31) := rfl
set_option maxRecDepth 100000 in
theorem am_cwi_32 : lw_tbl[276]? = some (am_cw 32) := rfl
set_option maxRecDepth 100000 in
theorem am_cwi_33 : lw_tbl[864]? = some (am_cw 33) := rfl
set_option maxRecDepth 100000 in
theorem am_cwi_34 : lw_tbl[878]? = some (am_cw 34) := rfl
set_option maxRecDepth 100000 in
theorem am_cwi_35 : lw_tbl[882]? = some (am_cw 35) := rfl
set_option maxRecDepth 100000 in
theorem am_cwi_36 : lw_tbl[911]? = some (am_cw 36) := rfl
set_option maxRecDepth 100000 in
theorem am_cwi_37 : lw_tbl[940]? = some (am_cw 37) := rfl
set_option maxRecDepth 100000 in
theorem am_cwi_38 : lw_tbl[959]? = some (am_cw 38) := rfl
set_option maxRecDepth 100000 in
theorem am_cwi_39 : lw_tbl[971]? = some (am_cw 39) := rfl
set_option maxRecDepth 100000 in
theorem am_cwi_40 : lw_tbl[975]? = some (am_cw 40) := rfl
set_option maxRecDepth 100000 in
theorem am_cwi_41 : lw_tbl[1020]? = some (am_cw 41) := rfl
set_option maxRecDepth 100000 in
theorem am_cwi_42 : lw_tbl[1024]? = some (am_cw 42) := rfl
set_option maxRecDepth 100000 in
theorem am_cwi_43 : lw_tbl[1030]? = some (am_cw 43) := rfl
set_option maxRecDepth 100000 in
theorem am_cwi_44 : lw_tbl[1034]? = some (am_cw 44) := rfl
set_option maxRecDepth 100000 in
theorem am_cwi_45 : lw_tbl[1044]? = some (am_cw 45) := rfl
set_option maxRecDepth 100000 in
theorem am_cwi_46 : lw_tbl[1052]? = some (am_cw 46) := rfl
set_option maxRecDepth 100000 in
theorem am_cwi_47 : lw_tbl[1056]? = some (am_cw 47) := rfl
set_option maxRecDepth 100000 in
theorem am_cwi_48 : lw_tbl[1078]? = some (am_cw 48) := rfl
set_option maxRecDepth 100000 in
theorem am_cwi_49 : lw_tbl[1082]? = some (am_cw 49) := rfl
set_option maxRecDepth 100000 in
theorem am_cwi_50 : lw_tbl[1115]? = some (am_cw 50) := rfl
set_option maxRecDepth 100000 in
theorem am_cwi_51 : lw_tbl[1275]? = some (am_cw 51) := rfl
set_option maxRecDepth 100000 in
theorem am_cwi_52 : lw_tbl[289]? = some (am_cw 52) := rfl
set_option maxRecDepth 100000 in
theorem am_cwi_53 : lw_tbl[1015]? = some (am_cw 53) := rfl
set_option maxRecDepth 100000 in
theorem am_cwi_54 : lw_tbl[1074]? = some (am_cw 54) := rfl
set_option maxRecDepth 100000 in
theorem am_cwi_55 : lw_tbl[1093]? = some (am_cw 55) := rfl
set_option maxRecDepth 100000 in
theorem am_cwi_56 : lw_tbl[1111]? = some (am_cw 56) := rfl
set_option maxRecDepth 100000 in
theorem am_cwi_57 : lw_tbl[1129]? = some (am_cw 57) := rfl
set_option maxRecDepth 100000 in
theorem am_cwi_58 : lw_tbl[1141]? = some (am_cw 58) := rfl
set_option maxRecDepth 100000 in
theorem am_cwi_59 : lw_tbl[312]? = some (am_cw 59) := rfl
set_option maxRecDepth 100000 in
theorem am_cwi_60 : lw_tbl[987]? = some (am_cw 60) := rfl
set_option maxRecDepth 100000 in
theorem am_cwi_61 : lw_tbl[992]? = some (am_cw 61) := rfl
set_option maxRecDepth 100000 in
theorem am_cwi_62 : lw_tbl[996]? = some (am_cw 62) := rfl
set_option maxRecDepth 100000 in
theorem am_cwi_63 : lw_tbl[333]? = some (am_cw 63) := rfl
set_option maxRecDepth 100000 in
theorem am_cwi_64 : lw_tbl[1225]? = some (am_cw 64) := rfl
set_option maxRecDepth 100000 in
theorem am_cwi_65 : lw_tbl[1311]? = some (am_cw 65) := rfl
set_option maxRecDepth 100000 in
theorem am_cwi_66 : lw_tbl[125]? = some (am_cw 66) := rfl
set_option maxRecDepth 100000 in
theorem am_cwi_67 : lw_tbl[525]? = some (am_cw 67) := rfl
set_option maxRecDepth 100000 in
theorem am_cwi_68 : lw_tbl[529]? = some (am_cw 68) := rfl
set_option maxRecDepth 100000 in
theorem am_cwi_69 : lw_tbl[536]? = some (am_cw 69) := rfl
set_option maxRecDepth 100000 in
theorem am_cwi_70 : lw_tbl[541]? = some (am_cw 70) := rfl
set_option maxRecDepth 100000 in
theorem am_cwi_71 : lw_tbl[545]? = some (am_cw 71) := rfl
set_option maxRecDepth 100000 in
theorem am_cwi_72 : lw_tbl[549]? = some (am_cw 72) := rfl
set_option maxRecDepth 100000 in
theorem am_cwi_73 : lw_tbl[552]? = some (am_cw 73) := rfl
set_option maxRecDepth 100000 in
theorem am_cwi_74 : lw_tbl[556]? = some (am_cw 74) := rfl
set_option maxRecDepth 100000 in
theorem am_cwi_75 : lw_tbl[559]? = some (am_cw 75) := rfl
set_option maxRecDepth 100000 in
theorem am_cwi_76 : lw_tbl[563]? = some (am_cw 76) := rfl
set_option maxRecDepth 100000 in
theorem am_cwi_77 : lw_tbl[567]? = some (am_cw 77) := rfl
set_option maxRecDepth 100000 in
theorem am_cwi_78 : lw_tbl[619]? = some (am_cw 78) := rfl
set_option maxRecDepth 100000 in
theorem am_cwi_79 : lw_tbl[624]? = some (am_cw 79) := rfl
set_option maxRecDepth 100000 in
theorem am_cwi_80 : lw_tbl[629]? = some (am_cw 80) := rfl
set_option maxRecDepth 100000 in
theorem am_cwi_81 : lw_tbl[634]? = some (am_cw 81) := rfl
set_option maxRecDepth 100000 in
theorem am_cwi_82 : lw_tbl[647]? = some (am_cw 82) := rfl
set_option maxRecDepth 100000 in
theorem am_cwi_83 : lw_tbl[656]? = some (am_cw 83) := rfl
set_option maxRecDepth 100000 in
theorem am_cwi_84 : lw_tbl[665]? = some (am_cw 84) := rfl
set_option maxRecDepth 100000 in
theorem am_cwi_85 : lw_tbl[677]? = some (am_cw 85) := rfl
set_option maxRecDepth 100000 in
theorem am_cwi_86 : lw_tbl[681]? = some (am_cw 86) := rfl
set_option maxRecDepth 100000 in
theorem am_cwi_87 : lw_tbl[117]? = some (am_cw 87) := rfl
set_option maxRecDepth 100000 in
theorem am_cwi_88 : lw_tbl[417]? = some (am_cw 88) := rfl
set_option maxRecDepth 100000 in
theorem am_cwi_89 : lw_tbl[421]? = some (am_cw 89) := rfl
set_option maxRecDepth 100000 in
theorem am_cwi_90 : lw_tbl[425]? = some (am_cw 90) := rfl
set_option maxRecDepth 100000 in
theorem am_cwi_91 : lw_tbl[429]? = some (am_cw 91) := rfl
set_option maxRecDepth 100000 in
theorem am_cwi_92 : lw_tbl[433]? = some (am_cw 92) := rfl
set_option maxRecDepth 100000 in
theorem am_cwi_93 : lw_tbl[437]? = some (am_cw 93) := rfl
set_option maxRecDepth 100000 in
theorem am_cwi_94 : lw_tbl[441]? = some (am_cw 94) := rfl
set_option maxRecDepth 100000 in
theorem am_cwi_95 : lw_tbl[445]? = some (am_cw 95) := rfl
set_option maxRecDepth 100000 in
theorem am_cwi_96 : lw_tbl[454]? = some (am_cw 96) := rfl
set_option maxRecDepth 100000 in
theorem am_cwi_97 : lw_tbl[701]? = some (am_cw 97) := rfl
set_option maxRecDepth 100000 in
theorem am_cwi_98 : lw_tbl[721]? = some (am_cw 98) := rfl
set_option maxRecDepth 100000 in
theorem am_cwi_99 : lw_tbl[725]? = some (am_cw 99) := rfl
set_option maxRecDepth 100000 in
theorem am_cwi_100 : lw_tbl[765]? = some (am_cw 100) := rfl
set_option maxRecDepth 100000 in
theorem am_cwi_101 : lw_tbl[769]? = some (am_cw 101) := rfl
set_option maxRecDepth 100000 in
theorem am_cwi_102 : lw_tbl[777]? = some (am_cw 102) := rfl
set_option maxRecDepth 100000 in
theorem am_cwi_103 : lw_tbl[781]? = some (am_cw 103) := rfl
set_option maxRecDepth 100000 in
theorem am_cwi_104 : lw_tbl[785]? = some (am_cw 104) := rfl
set_option maxRecDepth 100000 in
theorem am_cwi_105 : lw_tbl[793]? = some (am_cw 105) := rfl
set_option maxRecDepth 100000 in
theorem am_cwi_106 : lw_tbl[797]? = some (am_cw 106) := rfl
set_option maxRecDepth 100000 in
theorem am_cwi_107 : lw_tbl[805]? = some (am_cw 107) := rfl
set_option maxRecDepth 100000 in
theorem am_cwi_108 : lw_tbl[809]? = some (am_cw 108) := rfl
set_option maxRecDepth 100000 in
theorem am_cwi_109 : lw_tbl[817]? = some (am_cw 109) := rfl
set_option maxRecDepth 100000 in
theorem am_cwi_110 : lw_tbl[825]? = some (am_cw 110) := rfl
set_option maxRecDepth 100000 in
theorem am_cwi_111 : lw_tbl[832]? = some (am_cw 111) := rfl
set_option maxRecDepth 100000 in
theorem am_cwi_112 : lw_tbl[839]? = some (am_cw 112) := rfl
set_option maxRecDepth 100000 in
theorem am_cwi_113 : lw_tbl[842]? = some (am_cw 113) := rfl
set_option maxRecDepth 100000 in
theorem am_cwi_114 : lw_tbl[853]? = some (am_cw 114) := rfl
set_option maxRecDepth 100000 in
theorem am_cwi_115 : lw_tbl[860]? = some (am_cw 115) := rfl
set_option maxRecDepth 100000 in
theorem am_cwi_116 : lw_tbl[874]? = some (am_cw 116) := rfl
set_option maxRecDepth 100000 in
theorem am_cwi_117 : lw_tbl[889]? = some (am_cw 117) := rfl
set_option maxRecDepth 100000 in
theorem am_cwi_118 : lw_tbl[900]? = some (am_cw 118) := rfl
set_option maxRecDepth 100000 in
theorem am_cwi_119 : lw_tbl[907]? = some (am_cw 119) := rfl
set_option maxRecDepth 100000 in
theorem am_cwi_120 : lw_tbl[918]? = some (am_cw 120) := rfl
set_option maxRecDepth 100000 in
theorem am_cwi_121 : lw_tbl[929]? = some (am_cw 121) := rfl
set_option maxRecDepth 100000 in
theorem am_cwi_122 : lw_tbl[936]? = some (am_cw 122) := rfl
set_option maxRecDepth 100000 in
theorem am_cwi_123 : lw_tbl[948]? = some (am_cw 123) := rfl
set_option maxRecDepth 100000 in
theorem am_cwi_124 : lw_tbl[955]? = some (am_cw 124) := rfl
set_option maxRecDepth 100000 in
theorem am_cwi_125 : lw_tbl[967]? = some (am_cw 125) := rfl
set_option maxRecDepth 100000 in
theorem am_cwi_126 : lw_tbl[983]? = some (am_cw 126) := rfl
set_option maxRecDepth 100000 in
theorem am_cwi_127 : lw_tbl[1004]? = some (am_cw 127) := rfl
set_option maxRecDepth 100000 in
theorem am_cwi_128 : lw_tbl[1011]? = some (am_cw 128) := rfl
set_option maxRecDepth 100000 in
theorem am_cwi_129 : lw_tbl[1070]? = some (am_cw 129) := rfl
set_option maxRecDepth 100000 in
theorem am_cwi_130 : lw_tbl[1089]? = some (am_cw 130) := rfl
set_option maxRecDepth 100000 in
theorem am_cwi_131 : lw_tbl[1100]? = some (am_cw 131) := rfl
set_option maxRecDepth 100000 in
theorem am_cwi_132 : lw_tbl[1107]? = some (am_cw 132) := rfl
set_option maxRecDepth 100000 in
theorem am_cwi_133 : lw_tbl[1125]? = some (am_cw 133) := rfl
set_option maxRecDepth 100000 in
theorem am_cwi_134 : lw_tbl[1137]? = some (am_cw 134) := rfl
set_option maxRecDepth 100000 in
theorem am_cwi_135 : lw_tbl[1148]? = some (am_cw 135) := rfl
set_option maxRecDepth 100000 in
theorem am_cwi_136 : lw_tbl[1155]? = some (am_cw 136) := rfl
set_option maxRecDepth 100000 in
theorem am_cwi_137 : lw_tbl[1162]? = some (am_cw 137) := rfl
set_option maxRecDepth 100000 in
theorem am_cwi_138 : lw_tbl[1169]? = some (am_cw 138) := rfl
set_option maxRecDepth 100000 in
theorem am_cwi_139 : lw_tbl[1177]? = some (am_cw 139) := rfl
set_option maxRecDepth 100000 in
theorem am_cwi_140 : lw_tbl[1181]? = some (am_cw 140) := rfl
set_option maxRecDepth 100000 in
theorem am_cwi_141 : lw_tbl[1198]? = some (am_cw 141) := rfl
set_option maxRecDepth 100000 in
theorem am_cwi_142 : lw_tbl[1212]? = some (am_cw 142) := rfl
set_option maxRecDepth 100000 in
theorem am_cwi_143 : lw_tbl[1220]? = some (am_cw 143) := rfl
set_option maxRecDepth 100000 in
theorem am_cwi_144 : lw_tbl[1235]? = some (am_cw 144) := rfl
set_option maxRecDepth 100000 in
theorem am_cwi_145 : lw_tbl[1244]? = some (am_cw 145) := rfl
set_option maxRecDepth 100000 in
theorem am_cwi_146 : lw_tbl[1252]? = some (am_cw 146) := rfl
set_option maxRecDepth 100000 in
theorem am_cwi_147 : lw_tbl[1260]? = some (am_cw 147) := rfl
set_option maxRecDepth 100000 in
theorem am_cwi_148 : lw_tbl[1269]? = some (am_cw 148) := rfl
set_option maxRecDepth 100000 in
theorem am_cwi_149 : lw_tbl[1282]? = some (am_cw 149) := rfl
set_option maxRecDepth 100000 in
theorem am_cwi_150 : lw_tbl[1290]? = some (am_cw 150) := rfl
set_option maxRecDepth 100000 in
theorem am_cwi_151 : lw_tbl[1299]? = some (am_cw 151) := rfl
set_option maxRecDepth 100000 in
theorem am_cwi_152 : lw_tbl[1306]? = some (am_cw 152) := rfl
set_option maxRecDepth 100000 in
theorem am_cwi_153 : lw_tbl[1318]? = some (am_cw 153) := rfl
set_option maxRecDepth 100000 in
theorem am_cwi_154 : lw_tbl[1321]? = some (am_cw 154) := rfl
set_option maxRecDepth 100000 in
theorem am_cwi_155 : lw_tbl[1329]? = some (am_cw 155) := rfl
set_option maxRecDepth 100000 in
theorem am_cwi_156 : lw_tbl[1335]? = some (am_cw 156) := rfl
set_option maxRecDepth 100000 in
theorem am_cwi_157 : lw_tbl[1449]? = some (am_cw 157) := rfl
set_option maxRecDepth 100000 in
theorem am_cwi_158 : lw_tbl[1453]? = some (am_cw 158) := rfl
set_option maxRecDepth 100000 in
theorem am_cwi_159 : lw_tbl[1457]? = some (am_cw 159) := rfl
set_option maxRecDepth 100000 in
theorem am_cwi_160 : lw_tbl[1461]? = some (am_cw 160) := rfl
set_option maxRecDepth 100000 in
theorem am_cwi_161 : lw_tbl[1465]? = some (am_cw 161) := rfl
set_option maxRecDepth 100000 in
theorem am_cwi_162 : lw_tbl[1469]? = some (am_cw 162) := rfl
set_option maxRecDepth 100000 in
theorem am_cwi_163 : lw_tbl[1473]? = some (am_cw 163) := rfl
set_option maxRecDepth 100000 in
theorem am_cwi_164 : lw_tbl[1476]? = some (am_cw 164) := rfl
set_option maxRecDepth 100000 in
theorem am_cwi_165 : lw_tbl[1480]? = some (am_cw 165) := rfl
set_option maxRecDepth 100000 in
theorem am_cwi_166 : lw_tbl[1484]? = some (am_cw 166) := rfl
set_option maxRecDepth 100000 in
theorem am_cwi_167 : lw_tbl[1488]? = some (am_cw 167) := rfl
set_option maxRecDepth 100000 in
theorem am_cwi_168 : lw_tbl[1492]? = some (am_cw 168) := rfl
set_option maxRecDepth 100000 in
theorem am_cwi_169 : lw_tbl[1495]? = some (am_cw 169) := rfl
set_option maxRecDepth 100000 in
theorem am_cwi_170 : lw_tbl[1498]? = some (am_cw 170) := rfl
set_option maxRecDepth 100000 in
theorem am_cwi_171 : lw_tbl[1503]? = some (am_cw 171) := rfl
set_option maxRecDepth 100000 in
theorem am_cwi_172 : lw_tbl[1507]? = some (am_cw 172) := rfl
set_option maxRecDepth 100000 in
theorem am_cwi_173 : lw_tbl[1513]? = some (am_cw 173) := rfl
set_option maxRecDepth 100000 in
theorem am_cwi_174 : lw_tbl[1517]? = some (am_cw 174) := rfl
set_option maxRecDepth 100000 in
theorem am_cwi_175 : lw_tbl[1521]? = some (am_cw 175) := rfl
set_option maxRecDepth 100000 in
theorem am_cwi_176 : lw_tbl[1526]? = some (am_cw 176) := rfl
set_option maxRecDepth 100000 in
theorem am_cwi_177 : lw_tbl[1530]? = some (am_cw 177) := rfl
set_option maxRecDepth 100000 in
theorem am_cwi_178 : lw_tbl[1535]? = some (am_cw 178) := rfl
set_option maxRecDepth 100000 in
theorem am_cwi_179 : lw_tbl[1540]? = some (am_cw 179) := rfl
set_option maxRecDepth 100000 in
theorem am_cwi_180 : lw_tbl[1545]? = some (am_cw 180) := rfl
set_option maxRecDepth 100000 in
theorem am_cwi_181 : lw_tbl[1550]? = some (am_cw 181) := rfl
set_option maxRecDepth 100000 in
theorem am_cwi_182 : lw_tbl[1553]? = some (am_cw 182) := rfl
set_option maxRecDepth 100000 in
theorem am_cwi_183 : lw_tbl[1558]? = some (am_cw 183) := rfl
set_option maxRecDepth 100000 in
theorem am_cwi_184 : lw_tbl[1562]? = some (am_cw 184) := rfl
set_option maxRecDepth 100000 in
theorem am_cwi_185 : lw_tbl[1565]? = some (am_cw 185) := rfl
set_option maxRecDepth 100000 in
theorem am_cwi_186 : lw_tbl[1568]? = some (am_cw 186) := rfl
set_option maxRecDepth 100000 in
theorem am_cwi_187 : lw_tbl[1572]? = some (am_cw 187) := rfl
set_option maxRecDepth 100000 in
theorem am_cwi_188 : lw_tbl[1576]? = some (am_cw 188) := rfl
set_option maxRecDepth 100000 in
theorem am_cwi_189 : lw_tbl[1580]? = some (am_cw 189) := rfl
set_option maxRecDepth 100000 in
theorem am_cwi_190 : lw_tbl[1584]? = some (am_cw 190) := rfl
set_option maxRecDepth 100000 in
theorem am_cwi_191 : lw_tbl[1588]? = some (am_cw 191) := rfl
set_option maxRecDepth 100000 in
theorem am_cwi_192 : lw_tbl[1592]? = some (am_cw 192) := rfl
set_option maxRecDepth 100000 in
theorem am_cwi_193 : lw_tbl[1596]? = some (am_cw 193) := rfl
set_option maxRecDepth 100000 in
theorem am_cwi_194 : lw_tbl[1600]? = some (am_cw 194) := rfl
set_option maxRecDepth 100000 in
theorem am_cwi_195 : lw_tbl[1604]? = some (am_cw 195) := rfl
set_option maxRecDepth 100000 in
theorem am_cwi_196 : lw_tbl[1608]? = some (am_cw 196) := rfl
set_option maxRecDepth 100000 in
theorem am_cwi_197 : lw_tbl[1612]? = some (am_cw 197) := rfl
set_option maxRecDepth 100000 in
theorem am_cwi_198 : lw_tbl[1616]? = some (am_cw 198) := rfl
set_option maxRecDepth 100000 in
theorem am_cwi_199 : lw_tbl[1620]? = some (am_cw 199) := rfl
set_option maxRecDepth 100000 in
theorem am_cwi_200 : lw_tbl[1624]? = some (am_cw 200) := rfl
set_option maxRecDepth 100000 in
theorem am_cwi_201 : lw_tbl[1628]? = some (am_cw 201) := rfl
set_option maxRecDepth 100000 in
theorem am_cwi_202 : lw_tbl[1632]? = some (am_cw 202) := rfl
set_option maxRecDepth 100000 in
theorem am_cwi_203 : lw_tbl[1636]? = some (am_cw 203) := rfl
set_option maxRecDepth 100000 in
theorem am_cwi_204 : lw_tbl[1640]? = some (am_cw 204) := rfl
set_option maxRecDepth 100000 in
theorem am_cwi_205 : lw_tbl[1644]? = some (am_cw 205) := rfl
set_option maxRecDepth 100000 in
theorem am_cwi_206 : lw_tbl[1648]? = some (am_cw 206) := rfl
set_option maxRecDepth 100000 in
theorem am_cwi_207 : lw_tbl[1652]? = some (am_cw 207) := rfl
set_option maxRecDepth 100000 in
theorem am_cwi_208 : lw_tbl[1656]? = some (am_cw 208) := rfl
set_option maxRecDepth 100000 in
theorem am_cwi_209 : lw_tbl[1660]? = some (am_cw 209) := rfl
set_option maxRecDepth 100000 in
theorem am_cwi_210 : lw_tbl[1664]? = some (am_cw 210) := rfl
set_option maxRecDepth 100000 in
theorem am_cwi_211 : lw_tbl[1668]? = some (am_cw 211) := rfl
set_option maxRecDepth 100000 in
theorem am_cwi_212 : lw_tbl[1673]? = some (am_cw 212) := rfl
set_option maxRecDepth 100000 in
theorem am_cwi_213 : lw_tbl[1677]? = some (am_cw 213) := rfl
set_option maxRecDepth 100000 in
theorem am_cwi_214 : lw_tbl[1681]? = some (am_cw 214) := rfl
set_option maxRecDepth 100000 in
theorem am_cwi_215 : lw_tbl[1685]? = some (am_cw 215) := rfl
set_option maxRecDepth 100000 in
theorem am_cwi_216 : lw_tbl[1689]? = some (am_cw 216) := rfl
set_option maxRecDepth 100000 in
theorem am_cwi_217 : lw_tbl[1693]? = some (am_cw 217) := rfl
set_option maxRecDepth 100000 in
theorem am_cwi_218 : lw_tbl[1697]? = some (am_cw 218) := rfl
set_option maxRecDepth 100000 in
theorem am_cwi_219 : lw_tbl[1701]? = some (am_cw 219) := rfl
set_option maxRecDepth 100000 in
theorem am_cwi_220 : lw_tbl[1705]? = some (am_cw 220) := rfl
set_option maxRecDepth 100000 in
theorem am_cwi_221 : lw_tbl[1709]? = some (am_cw 221) := rfl
set_option maxRecDepth 100000 in
theorem am_cwi_222 : lw_tbl[1713]? = some (am_cw 222) := rfl
set_option maxRecDepth 100000 in
theorem am_cwi_223 : lw_tbl[1717]? = some (am_cw 223) := rfl
set_option maxRecDepth 100000 in
theorem am_cwi_224 : lw_tbl[1721]? = some (am_cw 224) := rfl
set_option maxRecDepth 100000 in
theorem am_cwi_225 : lw_tbl[1725]? = some (am_cw 225) := rfl
set_option maxRecDepth 100000 in
theorem am_cwi_226 : lw_tbl[1729]? = some (am_cw 226) := rfl
set_option maxRecDepth 100000 in
theorem am_cwi_227 : lw_tbl[1733]? = some (am_cw 227) := rfl
set_option maxRecDepth 100000 in
theorem am_cwi_228 : lw_tbl[1737]? = some (am_cw 228) := rfl
set_option maxRecDepth 100000 in
theorem am_cwi_229 : lw_tbl[1741]? = some (am_cw 229) := rfl
set_option maxRecDepth 100000 in
theorem am_cwi_230 : lw_tbl[1745]? = some (am_cw 230) := rfl
set_option maxRecDepth 100000 in
theorem am_cwi_231 : lw_tbl[1749]? = some (am_cw 231) := rfl
set_option maxRecDepth 100000 in
theorem am_cwi_232 : lw_tbl[1753]? = some (am_cw 232) := rfl
set_option maxRecDepth 100000 in
theorem am_cwi_233 : lw_tbl[1757]? = some (am_cw 233) := rfl
set_option maxRecDepth 100000 in
theorem am_cwi_234 : lw_tbl[1761]? = some (am_cw 234) := rfl
set_option maxRecDepth 100000 in
theorem am_cwi_235 : lw_tbl[1765]? = some (am_cw 235) := rfl
set_option maxRecDepth 100000 in
theorem am_cwi_236 : lw_tbl[1769]? = some (am_cw 236) := rfl
set_option maxRecDepth 100000 in
theorem am_cwi_237 : lw_tbl[1773]? = some (am_cw 237) := rfl
set_option maxRecDepth 100000 in
theorem am_cwi_238 : lw_tbl[1777]? = some (am_cw 238) := rfl
set_option maxRecDepth 100000 in
theorem am_cwi_239 : lw_tbl[1781]? = some (am_cw 239) := rfl
set_option maxRecDepth 100000 in
theorem am_cwi_240 : lw_tbl[1785]? = some (am_cw 240) := rfl
set_option maxRecDepth 100000 in
theorem am_cwi_241 : lw_tbl[1789]? = some (am_cw 241) := rfl
set_option maxRecDepth 100000 in
theorem am_cwi_242 : lw_tbl[1793]? = some (am_cw 242) := rfl
set_option maxRecDepth 100000 in
theorem am_cwi_243 : lw_tbl[1797]? = some (am_cw 243) := rfl
set_option maxRecDepth 100000 in
theorem am_cwi_244 : lw_tbl[1801]? = some (am_cw 244) := rfl
set_option maxRecDepth 100000 in
theorem am_cwi_245 : lw_tbl[1805]? = some (am_cw 245) := rfl
set_option maxRecDepth 100000 in
theorem am_cwi_246 : lw_tbl[1809]? = some (am_cw 246) := rfl
set_option maxRecDepth 100000 in
theorem am_cwi_247 : lw_tbl[1813]? = some (am_cw 247) := rfl
set_option maxRecDepth 100000 in
theorem am_cwi_248 : lw_tbl[1817]? = some (am_cw 248) := rfl
set_option maxRecDepth 100000 in
theorem am_cwi_249 : lw_tbl[1821]? = some (am_cw 249) := rfl
set_option maxRecDepth 100000 in
theorem am_cwi_250 : lw_tbl[1825]? = some (am_cw 250) := rfl
set_option maxRecDepth 100000 in
theorem am_cwi_251 : lw_tbl[1829]? = some (am_cw 251) := rfl
set_option maxRecDepth 100000 in
theorem am_cwi_252 : lw_tbl[1833]? = some (am_cw 252) := rfl
set_option maxRecDepth 100000 in
theorem am_cwi_253 : lw_tbl[1837]? = some (am_cw 253) := rfl
set_option maxRecDepth 100000 in
theorem am_cwi_254 : lw_tbl[1841]? = some (am_cw 254) := rfl
set_option maxRecDepth 100000 in
theorem am_cwi_255 : lw_tbl[1845]? = some (am_cw 255) := rfl
set_option maxRecDepth 100000 in
theorem am_cwi_256 : lw_tbl[1849]? = some (am_cw 256) := rfl
set_option maxRecDepth 100000 in
theorem am_cwi_257 : lw_tbl[1853]? = some (am_cw 257) := rfl
set_option maxRecDepth 100000 in
theorem am_cwi_258 : lw_tbl[1857]? = some (am_cw 258) := rfl
set_option maxRecDepth 100000 in
theorem am_cwi_259 : lw_tbl[1861]? = some (am_cw 259) := rfl
set_option maxRecDepth 100000 in
theorem am_cwi_260 : lw_tbl[1865]? = some (am_cw 260) := rfl
set_option maxRecDepth 100000 in
theorem am_cwi_261 : lw_tbl[1869]? = some (am_cw 261) := rfl
set_option maxRecDepth 100000 in
theorem am_cwi_262 : lw_tbl[1873]? = some (am_cw 262) := rfl
set_option maxRecDepth 100000 in
theorem am_cwi_263 : lw_tbl[1877]? = some (am_cw 263) := rfl
set_option maxRecDepth 100000 in
theorem am_cwi_264 : lw_tbl[1881]? = some (am_cw 264) := rfl
set_option maxRecDepth 100000 in
theorem am_cwi_265 : lw_tbl[1885]? = some (am_cw 265) := rfl
set_option maxRecDepth 100000 in
theorem am_cwi_266 : lw_tbl[1889]? = some (am_cw 266) := rfl
set_option maxRecDepth 100000 in
theorem am_cwi_267 : lw_tbl[1893]? = some (am_cw 267) := rfl
set_option maxRecDepth 100000 in
theorem am_cwi_268 : lw_tbl[1897]? = some (am_cw 268) := rfl
set_option maxRecDepth 100000 in
theorem am_cwi_269 : lw_tbl[1901]? = some (am_cw 269) := rfl
set_option maxRecDepth 100000 in
theorem am_cwi_270 : lw_tbl[1905]? = some (am_cw 270) := rfl
set_option maxRecDepth 100000 in
theorem am_cwi_271 : lw_tbl[1909]? = some (am_cw 271) := rfl
set_option maxRecDepth 100000 in
theorem am_cwi_272 : lw_tbl[1913]? = some (am_cw 272) := rfl
set_option maxRecDepth 100000 in
theorem am_cwi_273 : lw_tbl[1917]? = some (am_cw 273) := rfl
set_option maxRecDepth 100000 in
theorem am_cwi_274 : lw_tbl[1921]? = some (am_cw 274) := rfl
set_option maxRecDepth 100000 in
theorem am_cwi_275 : lw_tbl[1925]? = some (am_cw 275) := rfl
set_option maxRecDepth 100000 in
theorem am_cwi_276 : lw_tbl[1929]? = some (am_cw 276) := rfl
set_option maxRecDepth 100000 in
theorem am_cwi_277 : lw_tbl[1933]? = some (am_cw 277) := rfl
set_option maxRecDepth 100000 in
theorem am_cwi_278 : lw_tbl[1937]? = some (am_cw 278) := rfl
set_option maxRecDepth 100000 in
theorem am_cwi_279 : lw_tbl[448]? = some (am_cw 279) := rfl
set_option maxRecDepth 100000 in
theorem am_cwi_280 : lw_tbl[716]? = some (am_cw 280) := rfl
set_option maxRecDepth 100000 in
theorem am_cwi_281 : lw_tbl[761]? = some (am_cw 281) := rfl
set_option maxRecDepth 100000 in
theorem am_cwi_282 : lw_tbl[773]? = some (am_cw 282) := rfl
set_option maxRecDepth 100000 in
theorem am_cwi_283 : lw_tbl[789]? = some (am_cw 283) := rfl
set_option maxRecDepth 100000 in
theorem am_cwi_284 : lw_tbl[801]? = some (am_cw 284) := rfl
set_option maxRecDepth 100000 in
theorem am_cwi_285 : lw_tbl[813]? = some (am_cw 285) := rfl
set_option maxRecDepth 100000 in
theorem am_cwi_286 : lw_tbl[821]? = some (am_cw 286) := rfl
set_option maxRecDepth 100000 in
theorem am_cwi_287 : lw_tbl[828]? = some (am_cw 287) := rfl
set_option maxRecDepth 100000 in
theorem am_cwi_288 : lw_tbl[835]? = some (am_cw 288) := rfl
set_option maxRecDepth 100000 in
theorem am_cwi_289 : lw_tbl[849]? = some (am_cw 289) := rfl
set_option maxRecDepth 100000 in
theorem am_cwi_290 : lw_tbl[856]? = some (am_cw 290) := rfl
set_option maxRecDepth 100000 in
theorem am_cwi_291 : lw_tbl[870]? = some (am_cw 291) := rfl
set_option maxRecDepth 100000 in
theorem am_cwi_292 : lw_tbl[885]? = some (am_cw 292) := rfl
set_option maxRecDepth 100000 in
theorem am_cwi_293 : lw_tbl[896]? = some (am_cw 293) := rfl
set_option maxRecDepth 100000 in
theorem am_cwi_294 : lw_tbl[903]? = some (am_cw 294) := rfl
set_option maxRecDepth 100000 in
theorem am_cwi_295 : lw_tbl[914]? = some (am_cw 295) := rfl
set_option maxRecDepth 100000 in
theorem am_cwi_296 : lw_tbl[925]? = some (am_cw 296) := rfl
set_option maxRecDepth 100000 in
theorem am_cwi_297 : lw_tbl[932]? = some (am_cw 297) := rfl
set_option maxRecDepth 100000 in
theorem am_cwi_298 : lw_tbl[944]? = some (am_cw 298) := rfl
set_option maxRecDepth 100000 in
theorem am_cwi_299 : lw_tbl[951]? = some (am_cw 299) := rfl
set_option maxRecDepth 100000 in
theorem am_cwi_300 : lw_tbl[963]? = some (am_cw 300) := rfl
set_option maxRecDepth 100000 in
theorem am_cwi_301 : lw_tbl[979]? = some (am_cw 301) := rfl
set_option maxRecDepth 100000 in
theorem am_cwi_302 : lw_tbl[1000]? = some (am_cw 302) := rfl
set_option maxRecDepth 100000 in
theorem am_cwi_303 : lw_tbl[1007]? = some (am_cw 303) := rfl
set_option maxRecDepth 100000 in
theorem am_cwi_304 : lw_tbl[1066]? = some (am_cw 304) := rfl
set_option maxRecDepth 100000 in
theorem am_cwi_305 : lw_tbl[1085]? = some (am_cw 305) := rfl
set_option maxRecDepth 100000 in
theorem am_cwi_306 : lw_tbl[1096]? = some (am_cw 306) := rfl
set_option maxRecDepth 100000 in
theorem am_cwi_307 : lw_tbl[1103]? = some (am_cw 307) := rfl
set_option maxRecDepth 100000 in
theorem am_cwi_308 : lw_tbl[1121]? = some (am_cw 308) := rfl
set_option maxRecDepth 100000 in
theorem am_cwi_309 : lw_tbl[1133]? = some (am_cw 309) := rfl
set_option maxRecDepth 100000 in
theorem am_cwi_310 : lw_tbl[1144]? = some (am_cw 310) := rfl
set_option maxRecDepth 100000 in
theorem am_cwi_311 : lw_tbl[1151]? = some (am_cw 311) := rfl
set_option maxRecDepth 100000 in
theorem am_cwi_312 : lw_tbl[1158]? = some (am_cw 312) := rfl
set_option maxRecDepth 100000 in
theorem am_cwi_313 : lw_tbl[1165]? = some (am_cw 313) := rfl
set_option maxRecDepth 100000 in
theorem am_cwi_314 : lw_tbl[1173]? = some (am_cw 314) := rfl
set_option maxRecDepth 100000 in
theorem am_cwi_315 : lw_tbl[1194]? = some (am_cw 315) := rfl
set_option maxRecDepth 100000 in
theorem am_cwi_316 : lw_tbl[1208]? = some (am_cw 316) := rfl
set_option maxRecDepth 100000 in
theorem am_cwi_317 : lw_tbl[1216]? = some (am_cw 317) := rfl
set_option maxRecDepth 100000 in
theorem am_cwi_318 : lw_tbl[1231]? = some (am_cw 318) := rfl
set_option maxRecDepth 100000 in
theorem am_cwi_319 : lw_tbl[1240]? = some (am_cw 319) := rfl
set_option maxRecDepth 100000 in
theorem am_cwi_320 : lw_tbl[1248]? = some (am_cw 320) := rfl
set_option maxRecDepth 100000 in
theorem am_cwi_321 : lw_tbl[1256]? = some (am_cw 321) := rfl
set_option maxRecDepth 100000 in
theorem am_cwi_322 : lw_tbl[1265]? = some (am_cw 322) := rfl
set_option maxRecDepth 100000 in
theorem am_cwi_323 : lw_tbl[1278]? = some (am_cw 323) := rfl
set_option maxRecDepth 100000 in
theorem am_cwi_324 : lw_tbl[1286]? = some (am_cw 324) := rfl
set_option maxRecDepth 100000 in
theorem am_cwi_325 : lw_tbl[1295]? = some (am_cw 325) := rfl
set_option maxRecDepth 100000 in
theorem am_cwi_326 : lw_tbl[1302]? = some (am_cw 326) := rfl
set_option maxRecDepth 100000 in
theorem am_cwi_327 : lw_tbl[1314]? = some (am_cw 327) := rfl
set_option maxRecDepth 100000 in
theorem am_cwi_328 : lw_tbl[1325]? = some (am_cw 328) := rfl
theorem am_cw_in : ∀ y, 1 ≤ y → y < 329 → am_cw y ∈ lw_tbl := by
  intro y h1 h2
  rcases Nat.lt_or_ge y 21 with h | h
  · rcases (show y = 1 ∨ y = 2 ∨ y = 3 ∨ y = 4 ∨ y = 5 ∨ y = 6 ∨ y = 7 ∨ y = 8 ∨ y = 9 ∨ y = 10 ∨ y = 11 ∨ y = 12 ∨ y = 13 ∨ y = 14 ∨ y = 15 ∨ y = 16 ∨ y = 17 ∨ y = 18 ∨ y = 19 ∨ y = 20 by omega) with rfl | rfl | rfl | rfl | rfl | rfl | rfl | rfl | rfl | rfl | rfl | rfl | rfl | rfl | rfl | rfl | rfl | rfl | rfl | rfl
    · exact List.mem_of_getElem? am_cwi_1
    · exact List.mem_of_getElem? am_cwi_2
    · exact List.mem_of_getElem? am_cwi_3
    · exact List.mem_of_getElem? am_cwi_4
    · exact List.mem_of_getElem? am_cwi_5
    · exact List.mem_of_getElem? am_cwi_6
    · exact List.mem_of_getElem? am_cwi_7
    · exact List.mem_of_getElem? am_cwi_8
    · exact List.mem_of_getElem? am_cwi_9
    · exact List.mem_of_getElem? am_cwi_10
    · exact List.mem_of_getElem? am_cwi_11
    · exact List.mem_of_getElem? am_cwi_12
    · exact List.mem_of_getElem? am_cwi_13
    · exact List.mem_of_getElem? am_cwi_14
    · exact List.mem_of_getElem? am_cwi_15
    · exact List.mem_of_getElem? am_cwi_16
    · exact List.mem_of_getElem? am_cwi_17
    · exact List.mem_of_getElem? am_cwi_18
    · exact List.mem_of_getElem? am_cwi_19
    · exact List.mem_of_getElem? am_cwi_20
  rcases Nat.lt_or_ge y 41 with h | h
  · rcases (show y = 21 ∨ y = 22 ∨ y = 23 ∨ y = 24 ∨ y = 25 ∨ y = 26 ∨ y = 27 ∨ y = 28 ∨ y = 29 ∨ y = 30 ∨ y = 31 ∨ y = 32 ∨ y = 33 ∨ y = 34 ∨ y = 35 ∨ y = 36 ∨ y = 37 ∨ y = 38 ∨ y = 39 ∨ y = 40 by omega) with rfl | rfl | rfl | rfl | rfl | rfl | rfl | rfl | rfl | rfl | rfl | rfl | rfl | rfl | rfl | rfl | rfl | rfl | rfl | rfl
    · exact List.mem_of_getElem? am_cwi_21
    · exact List.mem_of_getElem? am_cwi_22
    · exact List.mem_of_getElem? am_cwi_23
    · exact List.mem_of_getElem? am_cwi_24
    · exact List.mem_of_getElem? am_cwi_25
    · exact List.mem_of_getElem? am_cwi_26
    · exact List.mem_of_getElem? am_cwi_27
    · exact List.mem_of_getElem? am_cwi_28
    · exact List.mem_of_getElem? am_cwi_29
    · exact List.mem_of_getElem? am_cwi_30
    · exact List.mem_of_getElem? am_cwi_31
    · exact List.mem_of_getElem? am_cwi_32
    · exact List.mem_of_getElem? am_cwi_33
    · exact List.mem_of_getElem? am_cwi_34
    · exact List.mem_of_getElem? am_cwi_35
    · exact List.mem_of_getElem? am_cwi_36
    · exact List.mem_of_getElem? am_cwi_37
    · exact List.mem_of_getElem? am_cwi_38
    · exact List.mem_of_getElem? am_cwi_39
    · exact List.mem_of_getElem? am_cwi_40
  rcases Nat.lt_or_ge y 61 with h | h
  · rcases (show y = 41 ∨ y = 42 ∨ y = 43 ∨ y = 44 ∨ y = 45 ∨ y = 46 ∨ y = 47 ∨ y = 48 ∨ y = 49 ∨ y = 50 ∨ y = 51 ∨ y = 52 ∨ y = 53 ∨ y = 54 ∨ y = 55 ∨ y = 56 ∨ y = 57 ∨ y = 58 ∨ y = 59 ∨ y = 60 by omega) with rfl | rfl | rfl | rfl | rfl | rfl | rfl | rfl | rfl | rfl | rfl | rfl | rfl | rfl | rfl | rfl | rfl | rfl | rfl | rfl
    · exact List.mem_of_getElem? am_cwi_41
    · exact List.mem_of_getElem? am_cwi_42
    · exact List.mem_of_getElem? am_cwi_43
    · exact List.mem_of_getElem? am_cwi_44
    · exact List.mem_of_getElem? am_cwi_45
    · exact List.mem_of_getElem? am_cwi_46
    · exact List.mem_of_getElem? am_cwi_47
    · exact List.mem_of_getElem? am_cwi_48
    · exact List.mem_of_getElem? am_cwi_49
    · exact List.mem_of_getElem? am_cwi_50
    · exact List.mem_of_getElem? am_cwi_51
    · exact List.mem_of_getElem? am_cwi_52
    · exact List.mem_of_getElem? am_cwi_53
    · exact List.mem_of_getElem? am_cwi_54
    · exact List.mem_of_getElem? am_cwi_55
    · exact List.mem_of_getElem? am_cwi_56
    · exact List.mem_of_getElem? am_cwi_57
    · exact List.mem_of_getElem? am_cwi_58
    · exact List.mem_of_getElem? am_cwi_59
    · exact List.mem_of_getElem? am_cwi_60
  rcases Nat.lt_or_ge y 81 with h | h
  · rcases (show y = 61 ∨ y = 62 ∨ y = 63 ∨ y = 64 ∨ y = 65 ∨ y = 66 ∨ y = 67 ∨ y = 68 ∨ y = 69 ∨ y = 70 ∨ y = 71 ∨ y = 72 ∨ y = 73 ∨ y = 74 ∨ y = 75 ∨ y = 76 ∨ y = 77 ∨ y = 78 ∨ y = 79 ∨ y = 80 by omega) with rfl | rfl | rfl | rfl | rfl | rfl | rfl | rfl | rfl | rfl | rfl | rfl | rfl | rfl | rfl | rfl | rfl | rfl | rfl | rfl
    · exact List.mem_of_getElem? am_cwi_61
    · exact List.mem_of_getElem? am_cwi_62
    · exact List.mem_of_getElem? am_cwi_63
    · exact List.mem_of_getElem? am_cwi_64
    · exact List.mem_of_getElem? am_cwi_65
    · exact List.mem_of_getElem? am_cwi_66
    · exact List.mem_of_getElem? am_cwi_67
    · exact List.mem_of_getElem? am_cwi_68
    · exact List.mem_of_getElem? am_cwi_69
    · exact List.mem_of_getElem? am_cwi_70
    · exact List.mem_of_getElem? am_cwi_71
    · exact List.mem_of_getElem? am_cwi_72
    · exact List.mem_of_getElem? am_cwi_73
    · exact List.mem_of_getElem? am_cwi_74
    · exact List.mem_of_getElem? am_cwi_75
    · exact List.mem_of_getElem? am_cwi_76
    · exact List.mem_of_getElem? am_cwi_77
    · exact List.mem_of_getElem? am_cwi_78
    · exact List.mem_of_getElem? am_cwi_79
    · exact List.mem_of_getElem? am_cwi_80
  rcases Nat.lt_or_ge y 101 with h | h
  · rcases (show y = 81 ∨ y = 82 ∨ y = 83 ∨ y = 84 ∨ y = 85 ∨ y = 86 ∨ y = 87 ∨ y = 88 ∨ y = 89 ∨ y = 90 ∨ y = 91 ∨ y = 92 ∨ y = 93 ∨ y = 94 ∨ y = 95 ∨ y = 96 ∨ y = 97 ∨ y = 98 ∨ y = 99 ∨ y = 100 by omega) with rfl | rfl | rfl | rfl | rfl | rfl | rfl | rfl | rfl | rfl | rfl | rfl | rfl | rfl | rfl | rfl | rfl | rfl | rfl | rfl
    · exact List.mem_of_getElem? am_cwi_81
    · exact List.mem_of_getElem? am_cwi_82
    · exact List.mem_of_getElem? am_cwi_83
    · exact List.mem_of_getElem? am_cwi_84
    · exact List.mem_of_getElem? am_cwi_85
    · exact List.mem_of_getElem? am_cwi_86
    · exact List.mem_of_getElem? am_cwi_87
    · exact List.mem_of_getElem? am_cwi_88
    · exact List.mem_of_getElem? am_cwi_89
    · exact List.mem_of_getElem? am_cwi_90
    · exact List.mem_of_getElem? am_cwi_91
    · exact List.mem_of_getElem? am_cwi_92
    · exact List.mem_of_getElem? am_cwi_93
    · exact List.mem_of_getElem? am_cwi_94
    · exact List.mem_of_getElem? am_cwi_95
    · exact List.mem_of_getElem? am_cwi_96
    · exact List.mem_of_getElem? am_cwi_97
    · exact List.mem_of_getElem? am_cwi_98
    · exact List.mem_of_getElem? am_cwi_99
    · exact List.mem_of_getElem? am_cwi_100
  rcases Nat.lt_or_ge y 121 with h | h
  · rcases (show y = 101 ∨ y = 102 ∨ y = 103 ∨ y = 104 ∨ y = 105 ∨ y = 106 ∨ y = 107 ∨ y = 108 ∨ y = 109 ∨ y = 110 ∨ y = 111 ∨ y = 112 ∨ y = 113 ∨ y = 114 ∨ y = 115 ∨ y = 116 ∨ y = 117 ∨ y = 118 ∨ y = 119 ∨ y = 120 by omega) with rfl | rfl | rfl | rfl | rfl | rfl | rfl | rfl | rfl | rfl | rfl | rfl | rfl | rfl | rfl | rfl | rfl | rfl | rfl | rfl
    · exact List.mem_of_getElem? am_cwi_101
    · exact List.mem_of_getElem? am_cwi_102
    · exact List.mem_of_getElem? am_cwi_103
    · exact List.mem_of_getElem? am_cwi_104
    · exact List.mem_of_getElem? am_cwi_105
    · exact List.mem_of_getElem? am_cwi_106
    · exact List.mem_of_getElem? am_cwi_107
    · exact List.mem_of_getElem? am_cwi_108
    · exact List.mem_of_getElem? am_cwi_109
    · exact List.mem_of_getElem? am_cwi_110
    · exact List.mem_of_getElem? am_cwi_111
    · exact List.mem_of_getElem? am_cwi_112
    · exact List.mem_of_getElem? am_cwi_113
    · exact List.mem_of_getElem? am_cwi_114
    · exact List.mem_of_getElem? am_cwi_115
    · exact List.mem_of_getElem? am_cwi_116
    · exact List.mem_of_getElem? am_cwi_117
    · exact List.mem_of_getElem? am_cwi_118
    · exact List.mem_of_getElem? am_cwi_119
    · exact List.mem_of_getElem? am_cwi_120
  rcases Nat.lt_or_ge y 141 with h | h
  · rcases (show y = 121 ∨ y = 122 ∨ y = 123 ∨ y = 124 ∨ y = 125 ∨ y = 126 ∨ y = 127 ∨ y = 128 ∨ y = 129 ∨ y = 130 ∨ y = 131 ∨ y = 132 ∨ y = 133 ∨ y = 134 ∨ y = 135 ∨ y = 136 ∨ y = 137 ∨ y = 138 ∨ y = 139 ∨ y = 140 by omega) with rfl | rfl | rfl | rfl | rfl | rfl | rfl | rfl | rfl | rfl | rfl | rfl | rfl | rfl | rfl | rfl | rfl | rfl | rfl | rfl
    · exact List.mem_of_getElem? am_cwi_121
    · exact List.mem_of_getElem? am_cwi_122
    · exact List.mem_of_getElem? am_cwi_123
    · exact List.mem_of_getElem? am_cwi_124
    · exact List.mem_of_getElem? am_cwi_125
    · exact List.mem_of_getElem? am_cwi_126
    · exact List.mem_of_getElem? am_cwi_127
    · exact List.mem_of_getElem? am_cwi_128
    · exact List.mem_of_getElem? am_cwi_129
    · exact List.mem_of_getElem? am_cwi_130
    · exact List.mem_of_getElem? am_cwi_131
    · exact List.mem_of_getElem? am_cwi_132
    · exact List.mem_of_getElem? am_cwi_133
    · exact List.mem_of_getElem? am_cwi_134
    · exact List.mem_of_getElem? am_cwi_135
    · exact List.mem_of_getElem? am_cwi_136
    · exact List.mem_of_getElem? am_cwi_137
    · exact List.mem_of_getElem? am_cwi_138
    · exact List.mem_of_getElem? am_cwi_139
    · exact List.mem_of_getElem? am_cwi_140
  rcases Nat.lt_or_ge y 161 with h | h
  · rcases (show y = 141 ∨ y = 142 ∨ y = 143 ∨ y = 144 ∨ y = 145 ∨ y = 146 ∨ y = 147 ∨ y = 148 ∨ y = 149 ∨ y = 150 ∨ y = 151 ∨ y = 152 ∨ y = 153 ∨ y = 154 ∨ y = 155 ∨ y = 156 ∨ y = 157 ∨ y = 158 ∨ y = 159 ∨ y = 160 by omega) with rfl | rfl | rfl | rfl | rfl | rfl | rfl | rfl | rfl | rfl | rfl | rfl | rfl | rfl | rfl | rfl | rfl | rfl | rfl | rfl
    · exact List.mem_of_getElem? am_cwi_141
    · exact List.mem_of_getElem? am_cwi_142
    · exact List.mem_of_getElem? am_cwi_143
    · exact List.mem_of_getElem? am_cwi_144
    · exact List.mem_of_getElem? am_cwi_145
    · exact List.mem_of_getElem? am_cwi_146
    · exact List.mem_of_getElem? am_cwi_147
    · exact List.mem_of_getElem? am_cwi_148
    · exact List.mem_of_getElem? am_cwi_149
    · exact List.mem_of_getElem? am_cwi_150
    · exact List.mem_of_getElem? am_cwi_151
    · exact List.mem_of_getElem? am_cwi_152
    · exact List.mem_of_getElem? am_cwi_153
    · exact List.mem_of_getElem? am_cwi_154
    · exact List.mem_of_getElem? am_cwi_155
    · exact List.mem_of_getElem? am_cwi_156
    · exact List.mem_of_getElem? am_cwi_157
    · exact List.mem_of_getElem? am_cwi_158
    · exact List.mem_of_getElem? am_cwi_159
    · exact List.mem_of_getElem? am_cwi_160
  rcases Nat.lt_or_ge y 181 with h | h
  · rcases (show y = 161 ∨ y = 162 ∨ y = 163 ∨ y = 164 ∨ y = 165 ∨ y = 166 ∨ y = 167 ∨ y = 168 ∨ y = 169 ∨ y = 170 ∨ y = 171 ∨ y = 172 ∨ y = 173 ∨ y = 174 ∨ y = 175 ∨ y = 176 ∨ y = 177 ∨ y = 178 ∨ y = 179 ∨ y = 180 by omega) with rfl | rfl | rfl | rfl | rfl | rfl | rfl | rfl | rfl | rfl | rfl | rfl | rfl | rfl | rfl | rfl | rfl | rfl | rfl | rfl
    · exact List.mem_of_getElem? am_cwi_161
    · exact List.mem_of_getElem? am_cwi_162
    · exact List.mem_of_getElem? am_cwi_163
    · exact List.mem_of_getElem? am_cwi_164
    · exact List.mem_of_getElem? am_cwi_165
    · exact List.mem_of_getElem? am_cwi_166
    · exact List.mem_of_getElem? am_cwi_167
    · exact List.mem_of_getElem? am_cwi_168
    · exact List.mem_of_getElem? am_cwi_169
    · exact List.mem_of_getElem? am_cwi_170
    · exact List.mem_of_getElem? am_cwi_171
    · exact List.mem_of_getElem? am_cwi_172
    · exact List.mem_of_getElem? am_cwi_173
    · exact List.mem_of_getElem? am_cwi_174
    · exact List.mem_of_getElem? am_cwi_175
    · exact List.mem_of_getElem? am_cwi_176
    · exact List.mem_of_getElem? am_cwi_177
    · exact List.mem_of_getElem? am_cwi_178
    · exact List.mem_of_getElem? am_cwi_179
    · exact List.mem_of_getElem? am_cwi_180
  rcases Nat.lt_or_ge y 201 with h | h
  · rcases (show y = 181 ∨ y = 182 ∨ y = 183 ∨ y = 184 ∨ y = 185 ∨ y = 186 ∨ y = 187 ∨ y = 188 ∨ y = 189 ∨ y = 190 ∨ y = 191 ∨ y = 192 ∨ y = 193 ∨ y = 194 ∨ y = 195 ∨ y = 196 ∨ y = 197 ∨ y = 198 ∨ y = 199 ∨ y = 200 by omega) with rfl | rfl | rfl | rfl | rfl | rfl | rfl | rfl | rfl | rfl | rfl | rfl | rfl | rfl | rfl | rfl | rfl | rfl | rfl | rfl
    · exact List.mem_of_getElem? am_cwi_181
    · exact List.mem_of_getElem? am_cwi_182
    · exact List.mem_of_getElem? am_cwi_183
    · exact List.mem_of_getElem? am_cwi_184
    · exact List.mem_of_getElem? am_cwi_185
    · exact List.mem_of_getElem? am_cwi_186
    · exact List.mem_of_getElem? am_cwi_187
    · exact List.mem_of_getElem? am_cwi_188
    · exact List.mem_of_getElem? am_cwi_189
    · exact List.mem_of_getElem? am_cwi_190
    · exact List.mem_of_getElem? am_cwi_191
    · exact List.mem_of_getElem? am_cwi_192
    · exact List.mem_of_getElem? am_cwi_193
    · exact List.mem_of_getElem? am_cwi_194
    · exact List.mem_of_getElem? am_cwi_195
    · exact List.mem_of_getElem? am_cwi_196
    · exact List.mem_of_getElem? am_cwi_197
    · exact List.mem_of_getElem? am_cwi_198
    · exact List.mem_of_getElem? am_cwi_199
    · exact List.mem_of_getElem? am_cwi_200
  rcases Nat.lt_or_ge y 221 with h | h
  · rcases (show y = 201 ∨ y = 202 ∨ y = 203 ∨ y = 204 ∨ y = 205 ∨ y = 206 ∨ y = 207 ∨ y = 208 ∨ y = 209 ∨ y = 210 ∨ y = 211 ∨ y = 212 ∨ y = 213 ∨ y = 214 ∨ y = 215 ∨ y = 216 ∨ y = 217 ∨ y = 218 ∨ y = 219 ∨ y = 220 by omega) with rfl | rfl | rfl | rfl | rfl | rfl | rfl | rfl | rfl | rfl | rfl | rfl | rfl | rfl | rfl | rfl | rfl | rfl | rfl | rfl
    · exact List.mem_of_getElem? am_cwi_201
    · exact List.mem_of_getElem? am_cwi_202
    · exact List.mem_of_getElem? am_cwi_203
    · exact List.mem_of_getElem? am_cwi_204
    · exact List.mem_of_getElem? am_cwi_205
    · exact List.mem_of_getElem? am_cwi_206
    · exact List.mem_of_getElem? am_cwi_207
    · exact List.mem_of_getElem? am_cwi_208
    · exact List.mem_of_getElem? am_cwi_209
    · exact List.mem_of_getElem? am_cwi_210
    · exact List.mem_of_getElem? am_cwi_211
    · exact List.mem_of_getElem? am_cwi_212
    · exact List.mem_of_getElem? am_cwi_213
    · exact List.mem_of_getElem? am_cwi_214
    · exact List.mem_of_getElem? am_cwi_215
    · exact List.mem_of_getElem? am_cwi_216
    · exact List.mem_of_getElem? am_cwi_217
    · exact List.mem_of_getElem? am_cwi_218
    · exact List.mem_of_getElem? am_cwi_219
    · exact List.mem_of_getElem? am_cwi_220
  rcases Nat.lt_or_ge y 241 with h | h
  · rcases (show y = 221 ∨ y = 222 ∨ y = 223 ∨ y = 224 ∨ y = 225 ∨ y = 226 ∨ y = 227 ∨ y = 228 ∨ y = 229 ∨ y = 230 ∨ y = 231 ∨ y = 232 ∨ y = 233 ∨ y = 234 ∨ y = 235 ∨ y = 236 ∨ y = 237 ∨ y = 238 ∨ y = 239 ∨ y = 240 by omega) with rfl | rfl | rfl | rfl | rfl | rfl | rfl | rfl | rfl | rfl | rfl | rfl | rfl | rfl | rfl | rfl | rfl | rfl | rfl | rfl
    · exact List.mem_of_getElem? am_cwi_221
    · exact List.mem_of_getElem? am_cwi_222
    · exact List.mem_of_getElem? am_cwi_223
    · exact List.mem_of_getElem? am_cwi_224
    · exact List.mem_of_getElem? am_cwi_225
    · exact List.mem_of_getElem? am_cwi_226
    · exact List.mem_of_getElem? am_cwi_227
    · exact List.mem_of_getElem? am_cwi_228
    · exact List.mem_of_getElem? am_cwi_229
    · exact List.mem_of_getElem? am_cwi_230
    · exact List.mem_of_getElem? am_cwi_231
    · exact List.mem_of_getElem? am_cwi_232
    · exact List.mem_of_getElem? am_cwi_233
    · exact List.mem_of_getElem? am_cwi_234
    · exact List.mem_of_getElem? am_cwi_235
    · exact List.mem_of_getElem? am_cwi_236
    · exact List.mem_of_getElem? am_cwi_237
    · exact List.mem_of_getElem? am_cwi_238
    · exact List.mem_of_getElem? am_cwi_239
    · exact List.mem_of_getElem? am_cwi_240
  rcases Nat.lt_or_ge y 261 with h | h
  · rcases (show y = 241 ∨ y = 242 ∨ y = 243 ∨ y = 244 ∨ y = 245 ∨ y = 246 ∨ y = 247 ∨ y = 248 ∨ y = 249 ∨ y = 250 ∨ y = 251 ∨ y = 252 ∨ y = 253 ∨ y = 254 ∨ y = 255 ∨ y = 256 ∨ y = 257 ∨ y = 258 ∨ y = 259 ∨ y = 260 by omega) with rfl | rfl | rfl | rfl | rfl | rfl | rfl | rfl | rfl | rfl | rfl | rfl | rfl | rfl | rfl | rfl | rfl | rfl | rfl | rfl
    · exact List.mem_of_getElem? am_cwi_241
    · exact List.mem_of_getElem? am_cwi_242
    · exact List.mem_of_getElem? am_cwi_243
    · exact List.mem_of_getElem? am_cwi_244
    · exact List.mem_of_getElem? am_cwi_245
    · exact List.mem_of_getElem? am_cwi_246
    · exact List.mem_of_getElem? am_cwi_247
    · exact List.mem_of_getElem? am_cwi_248
    · exact List.mem_of_getElem? am_cwi_249
    · exact List.mem_of_getElem? am_cwi_250
    · exact List.mem_of_getElem? am_cwi_251
    · exact List.mem_of_getElem? am_cwi_252
    · exact List.mem_of_getElem? am_cwi_253
    · exact List.mem_of_getElem? am_cwi_254
    · exact List.mem_of_getElem? am_cwi_255
    · exact List.mem_of_getElem? am_cwi_256
    · exact List.mem_of_getElem? am_cwi_257
    · exact List.mem_of_getElem? am_cwi_258
    · exact List.mem_of_getElem? am_cwi_259
    · exact List.mem_of_getElem? am_cwi_260
  rcases Nat.lt_or_ge y 281 with h | h
  · rcases (show y = 261 ∨ y = 262 ∨ y = 263 ∨ y = 264 ∨ y = 265 ∨ y = 266 ∨ y = 267 ∨ y = 268 ∨ y = 269 ∨ y = 270 ∨ y = 271 ∨ y = 272 ∨ y = 273 ∨ y = 274 ∨ y = 275 ∨ y = 276 ∨ y = 277 ∨ y = 278 ∨ y = 279 ∨ y = 280 by omega) with rfl | rfl | rfl | rfl | rfl | rfl | rfl | rfl | rfl | rfl | rfl | rfl | rfl | rfl | rfl | rfl | rfl | rfl | rfl | rfl
    · exact List.mem_of_getElem? am_cwi_261
    · exact List.mem_of_getElem? am_cwi_262
    · exact List.mem_of_getElem? am_cwi_263
    · exact List.mem_of_getElem? am_cwi_264
    · exact List.mem_of_getElem? am_cwi_265
    · exact List.mem_of_getElem? am_cwi_266
    · exact List.mem_of_getElem? am_cwi_267
    · exact List.mem_of_getElem? am_cwi_268
    · exact List.mem_of_getElem? am_cwi_269
    · exact List.mem_of_getElem? am_cwi_270
    · exact List.mem_of_getElem? am_cwi_271
    · exact List.mem_of_getElem? am_cwi_272
    · exact List.mem_of_getElem? am_cwi_273
    · exact List.mem_of_getElem? am_cwi_274
    · exact List.mem_of_getElem? am_cwi_275
    · exact List.mem_of_getElem? am_cwi_276
    · exact List.mem_of_getElem? am_cwi_277
    · exact List.mem_of_getElem? am_cwi_278
    · exact List.mem_of_getElem? am_cwi_279
    · exact List.mem_of_getElem? am_cwi_280
  rcases Nat.lt_or_ge y 301 with h | h
  · rcases (show y = 281 ∨ y = 282 ∨ y = 283 ∨ y = 284 ∨ y = 285 ∨ y = 286 ∨ y = 287 ∨ y = 288 ∨ y = 289 ∨ y = 290 ∨ y = 291 ∨ y = 292 ∨ y = 293 ∨ y = 294 ∨ y = 295 ∨ y = 296 ∨ y = 297 ∨ y = 298 ∨ y = 299 ∨ y = 300 by omega) with rfl | rfl | rfl | rfl | rfl | rfl | rfl | rfl | rfl | rfl | rfl | rfl | rfl | rfl | rfl | rfl | rfl | rfl | rfl | rfl
    · exact List.mem_of_getElem? am_cwi_281
    · exact List.mem_of_getElem? am_cwi_282
    · exact List.mem_of_getElem? am_cwi_283
    · exact List.mem_of_getElem? am_cwi_284
    · exact List.mem_of_getElem? am_cwi_285
    · exact List.mem_of_getElem? am_cwi_286
    · exact List.mem_of_getElem? am_cwi_287
    · exact List.mem_of_getElem? am_cwi_288
    · exact List.mem_of_getElem? am_cwi_289
    · exact List.mem_of_getElem? am_cwi_290
    · exact List.mem_of_getElem? am_cwi_291
    · exact List.mem_of_getElem? am_cwi_292
    · exact List.mem_of_getElem? am_cwi_293
    · exact List.mem_of_getElem? am_cwi_294
    · exact List.mem_of_getElem? am_cwi_295
    · exact List.mem_of_getElem? am_cwi_296
    · exact List.mem_of_getElem? am_cwi_297
    · exact List.mem_of_getElem? am_cwi_298
    · exact List.mem_of_getElem? am_cwi_299
    · exact List.mem_of_getElem? am_cwi_300
  rcases Nat.lt_or_ge y 321 with h | h
  · rcases (show y = 301 ∨ y = 302 ∨ y = 303 ∨ y = 304 ∨ y = 305 ∨ y = 306 ∨ y = 307 ∨ y = 308 ∨ y = 309 ∨ y = 310 ∨ y = 311 ∨ y = 312 ∨ y = 313 ∨ y = 314 ∨ y = 315 ∨ y = 316 ∨ y = 317 ∨ y = 318 ∨ y = 319 ∨ y = 320 by omega) with rfl | rfl | rfl | rfl | rfl | rfl | rfl | rfl | rfl | rfl | rfl | rfl | rfl | rfl | rfl | rfl | rfl | rfl | rfl | rfl
    · exact List.mem_of_getElem? am_cwi_301
    · exact List.mem_of_getElem? am_cwi_302
    · exact List.mem_of_getElem? am_cwi_303
    · exact List.mem_of_getElem? am_cwi_304
    · exact List.mem_of_getElem? am_cwi_305
    · exact List.mem_of_getElem? am_cwi_306
    · exact List.mem_of_getElem? am_cwi_307
    · exact List.mem_of_getElem? am_cwi_308
    · exact List.mem_of_getElem? am_cwi_309
    · exact List.mem_of_getElem? am_cwi_310
    · exact List.mem_of_getElem? am_cwi_311
    · exact List.mem_of_getElem? am_cwi_312
    · exact List.mem_of_getElem? am_cwi_313
    · exact List.mem_of_getElem? am_cwi_314
    · exact List.mem_of_getElem? am_cwi_315
    · exact List.mem_of_getElem? am_cwi_316
    · exact List.mem_of_getElem? am_cwi_317
    · exact List.mem_of_getElem? am_cwi_318
    · exact List.mem_of_getElem? am_cwi_319
    · exact List.mem_of_getElem? am_cwi_320
  rcases Nat.lt_or_ge y 329 with h | h
  · rcases (show y = 321 ∨ y = 322 ∨ y = 323 ∨ y = 324 ∨ y = 325 ∨ y = 326 ∨ y = 327 ∨ y = 328 by omega) with rfl | rfl | rfl | rfl | rfl | rfl | rfl | rfl
    · exact List.mem_of_getElem? am_cwi_321
    · exact List.mem_of_getElem? am_cwi_322
    · exact List.mem_of_getElem? am_cwi_323
    · exact List.mem_of_getElem? am_cwi_324
    · exact List.mem_of_getElem? am_cwi_325
    · exact List.mem_of_getElem? am_cwi_326
    · exact List.mem_of_getElem? am_cwi_327
    · exact List.mem_of_getElem? am_cwi_328
  omega
