/-! THE SMALL MACHINE: its methods are the claim's own -/
def am_ph : List Nat := [54, 57, 58, 93, 127, 129, 131, 133, 134]
abbrev am_vd (y : Nat) : Prop := 1 ≤ y ∧ y < 221 ∧ am_ph.contains y = false
def am_cw (y : Nat) : Jvm.Cond := if am_hh y = [] then .code (am_name y) (am_code y) (am_nL y) (am_rt y) else .codeWith (am_name y) (am_code y) (am_nL y) (am_rt y) (am_hh y)
theorem am_mlen : am_mt.length = 221 := by decide +kernel
set_option maxRecDepth 100000 in
theorem am_cwi_1 : lw_tbl[516]? = some (am_cw 1) := rfl
set_option maxRecDepth 100000 in
theorem am_cwi_2 : lw_tbl[887]? = some (am_cw 2) := rfl
set_option maxRecDepth 100000 in
theorem am_cwi_3 : lw_tbl[891]? = some (am_cw 3) := rfl
set_option maxRecDepth 100000 in
theorem am_cwi_4 : lw_tbl[520]? = some (am_cw 4) := rfl
set_option maxRecDepth 100000 in
theorem am_cwi_5 : lw_tbl[714]? = some (am_cw 5) := rfl
set_option maxRecDepth 100000 in
theorem am_cwi_6 : lw_tbl[894]? = some (am_cw 6) := rfl
set_option maxRecDepth 100000 in
theorem am_cwi_7 : lw_tbl[717]? = some (am_cw 7) := rfl
set_option maxRecDepth 100000 in
theorem am_cwi_8 : lw_tbl[84]? = some (am_cw 8) := rfl
set_option maxRecDepth 100000 in
theorem am_cwi_9 : lw_tbl[983]? = some (am_cw 9) := rfl
set_option maxRecDepth 100000 in
theorem am_cwi_10 : lw_tbl[987]? = some (am_cw 10) := rfl
set_option maxRecDepth 100000 in
theorem am_cwi_11 : lw_tbl[1014]? = some (am_cw 11) := rfl
set_option maxRecDepth 100000 in
theorem am_cwi_12 : lw_tbl[1018]? = some (am_cw 12) := rfl
set_option maxRecDepth 100000 in
theorem am_cwi_13 : lw_tbl[1050]? = some (am_cw 13) := rfl
set_option maxRecDepth 100000 in
theorem am_cwi_14 : lw_tbl[127]? = some (am_cw 14) := rfl
set_option maxRecDepth 100000 in
theorem am_cwi_15 : lw_tbl[996]? = some (am_cw 15) := rfl
set_option maxRecDepth 100000 in
theorem am_cwi_16 : lw_tbl[1005]? = some (am_cw 16) := rfl
set_option maxRecDepth 100000 in
theorem am_cwi_17 : lw_tbl[1055]? = some (am_cw 17) := rfl
set_option maxRecDepth 100000 in
theorem am_cwi_18 : lw_tbl[1073]? = some (am_cw 18) := rfl
set_option maxRecDepth 100000 in
theorem am_cwi_19 : lw_tbl[1077]? = some (am_cw 19) := rfl
set_option maxRecDepth 100000 in
theorem am_cwi_20 : lw_tbl[1081]? = some (am_cw 20) := rfl
set_option maxRecDepth 100000 in
theorem am_cwi_21 : lw_tbl[1085]? = some (am_cw 21) := rfl
set_option maxRecDepth 100000 in
theorem am_cwi_22 : lw_tbl[1129]? = some (am_cw 22) := rfl
set_option maxRecDepth 100000 in
theorem am_cwi_23 : lw_tbl[1227]? = some (am_cw 23) := rfl
set_option maxRecDepth 100000 in
theorem am_cwi_24 : lw_tbl[1235]? = some (am_cw 24) := rfl
set_option maxRecDepth 100000 in
theorem am_cwi_25 : lw_tbl[1207]? = some (am_cw 25) := rfl
set_option maxRecDepth 100000 in
theorem am_cwi_26 : lw_tbl[1215]? = some (am_cw 26) := rfl
set_option maxRecDepth 100000 in
theorem am_cwi_27 : lw_tbl[1231]? = some (am_cw 27) := rfl
set_option maxRecDepth 100000 in
theorem am_cwi_28 : lw_tbl[301]? = some (am_cw 28) := rfl
set_option maxRecDepth 100000 in
theorem am_cwi_29 : lw_tbl[1281]? = some (am_cw 29) := rfl
set_option maxRecDepth 100000 in
theorem am_cwi_30 : lw_tbl[1276]? = some (am_cw 30) := rfl
set_option maxRecDepth 100000 in
theorem am_cwi_31 : lw_tbl[1287]? = some (am_cw 31) := rfl
set_option maxRecDepth 100000 in
theorem am_cwi_32 : lw_tbl[225]? = some (am_cw 32) := rfl
set_option maxRecDepth 100000 in
theorem am_cwi_33 : lw_tbl[1137]? = some (am_cw 33) := rfl
set_option maxRecDepth 100000 in
theorem am_cwi_34 : lw_tbl[1146]? = some (am_cw 34) := rfl
set_option maxRecDepth 100000 in
theorem am_cwi_35 : lw_tbl[1150]? = some (am_cw 35) := rfl
set_option maxRecDepth 100000 in
theorem am_cwi_36 : lw_tbl[1203]? = some (am_cw 36) := rfl
set_option maxRecDepth 100000 in
theorem am_cwi_37 : lw_tbl[1158]? = some (am_cw 37) := rfl
set_option maxRecDepth 100000 in
theorem am_cwi_38 : lw_tbl[1189]? = some (am_cw 38) := rfl
set_option maxRecDepth 100000 in
theorem am_cwi_39 : lw_tbl[1180]? = some (am_cw 39) := rfl
set_option maxRecDepth 100000 in
theorem am_cwi_40 : lw_tbl[1184]? = some (am_cw 40) := rfl
set_option maxRecDepth 100000 in
theorem am_cwi_41 : lw_tbl[1172]? = some (am_cw 41) := rfl
set_option maxRecDepth 100000 in
theorem am_cwi_42 : lw_tbl[1176]? = some (am_cw 42) := rfl
set_option maxRecDepth 100000 in
theorem am_cwi_43 : lw_tbl[1194]? = some (am_cw 43) := rfl
set_option maxRecDepth 100000 in
theorem am_cwi_44 : lw_tbl[1198]? = some (am_cw 44) := rfl
set_option maxRecDepth 100000 in
theorem am_cwi_45 : lw_tbl[1211]? = some (am_cw 45) := rfl
set_option maxRecDepth 100000 in
theorem am_cwi_46 : lw_tbl[1219]? = some (am_cw 46) := rfl
set_option maxRecDepth 100000 in
theorem am_cwi_47 : lw_tbl[1223]? = some (am_cw 47) := rfl
set_option maxRecDepth 100000 in
theorem am_cwi_48 : lw_tbl[1325]? = some (am_cw 48) := rfl
set_option maxRecDepth 100000 in
theorem am_cwi_49 : lw_tbl[1329]? = some (am_cw 49) := rfl
set_option maxRecDepth 100000 in
theorem am_cwi_50 : lw_tbl[1256]? = some (am_cw 50) := rfl
set_option maxRecDepth 100000 in
theorem am_cwi_51 : lw_tbl[1345]? = some (am_cw 51) := rfl
set_option maxRecDepth 100000 in
theorem am_cwi_52 : lw_tbl[238]? = some (am_cw 52) := rfl
set_option maxRecDepth 100000 in
theorem am_cwi_53 : lw_tbl[1167]? = some (am_cw 53) := rfl
set_option maxRecDepth 100000 in
theorem am_cwi_55 : lw_tbl[1244]? = some (am_cw 55) := rfl
set_option maxRecDepth 100000 in
theorem am_cwi_56 : lw_tbl[1252]? = some (am_cw 56) := rfl
set_option maxRecDepth 100000 in
theorem am_cwi_59 : lw_tbl[261]? = some (am_cw 59) := rfl
set_option maxRecDepth 100000 in
theorem am_cwi_60 : lw_tbl[1390]? = some (am_cw 60) := rfl
set_option maxRecDepth 100000 in
theorem am_cwi_61 : lw_tbl[1395]? = some (am_cw 61) := rfl
set_option maxRecDepth 100000 in
theorem am_cwi_62 : lw_tbl[1399]? = some (am_cw 62) := rfl
set_option maxRecDepth 100000 in
theorem am_cwi_63 : lw_tbl[281]? = some (am_cw 63) := rfl
set_option maxRecDepth 100000 in
theorem am_cwi_64 : lw_tbl[1303]? = some (am_cw 64) := rfl
set_option maxRecDepth 100000 in
theorem am_cwi_65 : lw_tbl[1369]? = some (am_cw 65) := rfl
set_option maxRecDepth 100000 in
theorem am_cwi_66 : lw_tbl[78]? = some (am_cw 66) := rfl
set_option maxRecDepth 100000 in
theorem am_cwi_67 : lw_tbl[918]? = some (am_cw 67) := rfl
set_option maxRecDepth 100000 in
theorem am_cwi_68 : lw_tbl[922]? = some (am_cw 68) := rfl
set_option maxRecDepth 100000 in
theorem am_cwi_69 : lw_tbl[927]? = some (am_cw 69) := rfl
set_option maxRecDepth 100000 in
theorem am_cwi_70 : lw_tbl[932]? = some (am_cw 70) := rfl
set_option maxRecDepth 100000 in
theorem am_cwi_71 : lw_tbl[936]? = some (am_cw 71) := rfl
set_option maxRecDepth 100000 in
theorem am_cwi_72 : lw_tbl[940]? = some (am_cw 72) := rfl
set_option maxRecDepth 100000 in
theorem am_cwi_73 : lw_tbl[943]? = some (am_cw 73) := rfl
set_option maxRecDepth 100000 in
theorem am_cwi_74 : lw_tbl[947]? = some (am_cw 74) := rfl
set_option maxRecDepth 100000 in
theorem am_cwi_75 : lw_tbl[950]? = some (am_cw 75) := rfl
set_option maxRecDepth 100000 in
theorem am_cwi_76 : lw_tbl[954]? = some (am_cw 76) := rfl
set_option maxRecDepth 100000 in
theorem am_cwi_77 : lw_tbl[958]? = some (am_cw 77) := rfl
set_option maxRecDepth 100000 in
theorem am_cwi_78 : lw_tbl[964]? = some (am_cw 78) := rfl
set_option maxRecDepth 100000 in
theorem am_cwi_79 : lw_tbl[969]? = some (am_cw 79) := rfl
set_option maxRecDepth 100000 in
theorem am_cwi_80 : lw_tbl[974]? = some (am_cw 80) := rfl
set_option maxRecDepth 100000 in
theorem am_cwi_81 : lw_tbl[979]? = some (am_cw 81) := rfl
set_option maxRecDepth 100000 in
theorem am_cwi_82 : lw_tbl[992]? = some (am_cw 82) := rfl
set_option maxRecDepth 100000 in
theorem am_cwi_83 : lw_tbl[1001]? = some (am_cw 83) := rfl
set_option maxRecDepth 100000 in
theorem am_cwi_84 : lw_tbl[1010]? = some (am_cw 84) := rfl
set_option maxRecDepth 100000 in
theorem am_cwi_85 : lw_tbl[1022]? = some (am_cw 85) := rfl
set_option maxRecDepth 100000 in
theorem am_cwi_86 : lw_tbl[1026]? = some (am_cw 86) := rfl
set_option maxRecDepth 100000 in
theorem am_cwi_87 : lw_tbl[70]? = some (am_cw 87) := rfl
set_option maxRecDepth 100000 in
theorem am_cwi_88 : lw_tbl[905]? = some (am_cw 88) := rfl
set_option maxRecDepth 100000 in
theorem am_cwi_89 : lw_tbl[909]? = some (am_cw 89) := rfl
set_option maxRecDepth 100000 in
theorem am_cwi_90 : lw_tbl[365]? = some (am_cw 90) := rfl
set_option maxRecDepth 100000 in
theorem am_cwi_91 : lw_tbl[369]? = some (am_cw 91) := rfl
set_option maxRecDepth 100000 in
theorem am_cwi_92 : lw_tbl[373]? = some (am_cw 92) := rfl
set_option maxRecDepth 100000 in
theorem am_cwi_94 : lw_tbl[474]? = some (am_cw 94) := rfl
set_option maxRecDepth 100000 in
theorem am_cwi_95 : lw_tbl[478]? = some (am_cw 95) := rfl
set_option maxRecDepth 100000 in
theorem am_cwi_96 : lw_tbl[913]? = some (am_cw 96) := rfl
set_option maxRecDepth 100000 in
theorem am_cwi_97 : lw_tbl[1046]? = some (am_cw 97) := rfl
set_option maxRecDepth 100000 in
theorem am_cwi_98 : lw_tbl[1069]? = some (am_cw 98) := rfl
set_option maxRecDepth 100000 in
theorem am_cwi_99 : lw_tbl[381]? = some (am_cw 99) := rfl
set_option maxRecDepth 100000 in
theorem am_cwi_100 : lw_tbl[377]? = some (am_cw 100) := rfl
set_option maxRecDepth 100000 in
theorem am_cwi_101 : lw_tbl[454]? = some (am_cw 101) := rfl
set_option maxRecDepth 100000 in
theorem am_cwi_102 : lw_tbl[1090]? = some (am_cw 102) := rfl
set_option maxRecDepth 100000 in
theorem am_cwi_103 : lw_tbl[1094]? = some (am_cw 103) := rfl
set_option maxRecDepth 100000 in
theorem am_cwi_104 : lw_tbl[1098]? = some (am_cw 104) := rfl
set_option maxRecDepth 100000 in
theorem am_cwi_105 : lw_tbl[1103]? = some (am_cw 105) := rfl
set_option maxRecDepth 100000 in
theorem am_cwi_106 : lw_tbl[1107]? = some (am_cw 106) := rfl
set_option maxRecDepth 100000 in
theorem am_cwi_107 : lw_tbl[1518]? = some (am_cw 107) := rfl
set_option maxRecDepth 100000 in
theorem am_cwi_108 : lw_tbl[1116]? = some (am_cw 108) := rfl
set_option maxRecDepth 100000 in
theorem am_cwi_109 : lw_tbl[1112]? = some (am_cw 109) := rfl
set_option maxRecDepth 100000 in
theorem am_cwi_110 : lw_tbl[1404]? = some (am_cw 110) := rfl
set_option maxRecDepth 100000 in
theorem am_cwi_111 : lw_tbl[1408]? = some (am_cw 111) := rfl
set_option maxRecDepth 100000 in
theorem am_cwi_112 : lw_tbl[1122]? = some (am_cw 112) := rfl
set_option maxRecDepth 100000 in
theorem am_cwi_113 : lw_tbl[1125]? = some (am_cw 113) := rfl
set_option maxRecDepth 100000 in
theorem am_cwi_114 : lw_tbl[1416]? = some (am_cw 114) := rfl
set_option maxRecDepth 100000 in
theorem am_cwi_115 : lw_tbl[1133]? = some (am_cw 115) := rfl
set_option maxRecDepth 100000 in
theorem am_cwi_116 : lw_tbl[1142]? = some (am_cw 116) := rfl
set_option maxRecDepth 100000 in
theorem am_cwi_117 : lw_tbl[1500]? = some (am_cw 117) := rfl
set_option maxRecDepth 100000 in
theorem am_cwi_118 : lw_tbl[1482]? = some (am_cw 118) := rfl
set_option maxRecDepth 100000 in
theorem am_cwi_119 : lw_tbl[1486]? = some (am_cw 119) := rfl
set_option maxRecDepth 100000 in
theorem am_cwi_120 : lw_tbl[1495]? = some (am_cw 120) := rfl
set_option maxRecDepth 100000 in
theorem am_cwi_121 : lw_tbl[1491]? = some (am_cw 121) := rfl
set_option maxRecDepth 100000 in
theorem am_cwi_122 : lw_tbl[1527]? = some (am_cw 122) := rfl
set_option maxRecDepth 100000 in
theorem am_cwi_123 : lw_tbl[1154]? = some (am_cw 123) := rfl
set_option maxRecDepth 100000 in
theorem am_cwi_124 : lw_tbl[1522]? = some (am_cw 124) := rfl
set_option maxRecDepth 100000 in
theorem am_cwi_125 : lw_tbl[1531]? = some (am_cw 125) := rfl
set_option maxRecDepth 100000 in
theorem am_cwi_126 : lw_tbl[1386]? = some (am_cw 126) := rfl
set_option maxRecDepth 100000 in
theorem am_cwi_128 : lw_tbl[1163]? = some (am_cw 128) := rfl
set_option maxRecDepth 100000 in
theorem am_cwi_130 : lw_tbl[1240]? = some (am_cw 130) := rfl
set_option maxRecDepth 100000 in
theorem am_cwi_132 : lw_tbl[1248]? = some (am_cw 132) := rfl
set_option maxRecDepth 100000 in
theorem am_cwi_135 : lw_tbl[1263]? = some (am_cw 135) := rfl
set_option maxRecDepth 100000 in
theorem am_cwi_136 : lw_tbl[1505]? = some (am_cw 136) := rfl
set_option maxRecDepth 100000 in
theorem am_cwi_137 : lw_tbl[1509]? = some (am_cw 137) := rfl
set_option maxRecDepth 100000 in
theorem am_cwi_138 : lw_tbl[1267]? = some (am_cw 138) := rfl
set_option maxRecDepth 100000 in
theorem am_cwi_139 : lw_tbl[1555]? = some (am_cw 139) := rfl
set_option maxRecDepth 100000 in
theorem am_cwi_140 : lw_tbl[1559]? = some (am_cw 140) := rfl
set_option maxRecDepth 100000 in
theorem am_cwi_141 : lw_tbl[1272]? = some (am_cw 141) := rfl
set_option maxRecDepth 100000 in
theorem am_cwi_142 : lw_tbl[1293]? = some (am_cw 142) := rfl
set_option maxRecDepth 100000 in
theorem am_cwi_143 : lw_tbl[1298]? = some (am_cw 143) := rfl
set_option maxRecDepth 100000 in
theorem am_cwi_144 : lw_tbl[1310]? = some (am_cw 144) := rfl
set_option maxRecDepth 100000 in
theorem am_cwi_145 : lw_tbl[1316]? = some (am_cw 145) := rfl
set_option maxRecDepth 100000 in
theorem am_cwi_146 : lw_tbl[1321]? = some (am_cw 146) := rfl
set_option maxRecDepth 100000 in
theorem am_cwi_147 : lw_tbl[1333]? = some (am_cw 147) := rfl
set_option maxRecDepth 100000 in
theorem am_cwi_148 : lw_tbl[1339]? = some (am_cw 148) := rfl
set_option maxRecDepth 100000 in
theorem am_cwi_149 : lw_tbl[1349]? = some (am_cw 149) := rfl
set_option maxRecDepth 100000 in
theorem am_cwi_150 : lw_tbl[1354]? = some (am_cw 150) := rfl
set_option maxRecDepth 100000 in
theorem am_cwi_151 : lw_tbl[1360]? = some (am_cw 151) := rfl
set_option maxRecDepth 100000 in
theorem am_cwi_152 : lw_tbl[1364]? = some (am_cw 152) := rfl
set_option maxRecDepth 100000 in
theorem am_cwi_153 : lw_tbl[1373]? = some (am_cw 153) := rfl
set_option maxRecDepth 100000 in
theorem am_cwi_154 : lw_tbl[1376]? = some (am_cw 154) := rfl
set_option maxRecDepth 100000 in
theorem am_cwi_155 : lw_tbl[1381]? = some (am_cw 155) := rfl
set_option maxRecDepth 100000 in
theorem am_cwi_156 : lw_tbl[646]? = some (am_cw 156) := rfl
set_option maxRecDepth 100000 in
theorem am_cwi_157 : lw_tbl[1598]? = some (am_cw 157) := rfl
set_option maxRecDepth 100000 in
theorem am_cwi_158 : lw_tbl[1601]? = some (am_cw 158) := rfl
set_option maxRecDepth 100000 in
theorem am_cwi_159 : lw_tbl[705]? = some (am_cw 159) := rfl
set_option maxRecDepth 100000 in
theorem am_cwi_160 : lw_tbl[570]? = some (am_cw 160) := rfl
set_option maxRecDepth 100000 in
theorem am_cwi_161 : lw_tbl[1612]? = some (am_cw 161) := rfl
set_option maxRecDepth 100000 in
theorem am_cwi_162 : lw_tbl[1615]? = some (am_cw 162) := rfl
set_option maxRecDepth 100000 in
theorem am_cwi_163 : lw_tbl[1618]? = some (am_cw 163) := rfl
set_option maxRecDepth 100000 in
theorem am_cwi_164 : lw_tbl[560]? = some (am_cw 164) := rfl
set_option maxRecDepth 100000 in
theorem am_cwi_165 : lw_tbl[677]? = some (am_cw 165) := rfl
set_option maxRecDepth 100000 in
theorem am_cwi_166 : lw_tbl[680]? = some (am_cw 166) := rfl
set_option maxRecDepth 100000 in
theorem am_cwi_167 : lw_tbl[511]? = some (am_cw 167) := rfl
set_option maxRecDepth 100000 in
theorem am_cwi_168 : lw_tbl[545]? = some (am_cw 168) := rfl
set_option maxRecDepth 100000 in
theorem am_cwi_169 : lw_tbl[553]? = some (am_cw 169) := rfl
set_option maxRecDepth 100000 in
theorem am_cwi_170 : lw_tbl[557]? = some (am_cw 170) := rfl
set_option maxRecDepth 100000 in
theorem am_cwi_171 : lw_tbl[588]? = some (am_cw 171) := rfl
set_option maxRecDepth 100000 in
theorem am_cwi_172 : lw_tbl[619]? = some (am_cw 172) := rfl
set_option maxRecDepth 100000 in
theorem am_cwi_173 : lw_tbl[623]? = some (am_cw 173) := rfl
set_option maxRecDepth 100000 in
theorem am_cwi_174 : lw_tbl[674]? = some (am_cw 174) := rfl
set_option maxRecDepth 100000 in
theorem am_cwi_175 : lw_tbl[702]? = some (am_cw 175) := rfl
set_option maxRecDepth 100000 in
theorem am_cwi_176 : lw_tbl[1542]? = some (am_cw 176) := rfl
set_option maxRecDepth 100000 in
theorem am_cwi_177 : lw_tbl[1549]? = some (am_cw 177) := rfl
set_option maxRecDepth 100000 in
theorem am_cwi_178 : lw_tbl[1569]? = some (am_cw 178) := rfl
set_option maxRecDepth 100000 in
theorem am_cwi_179 : lw_tbl[1579]? = some (am_cw 179) := rfl
set_option maxRecDepth 100000 in
theorem am_cwi_180 : lw_tbl[1607]? = some (am_cw 180) := rfl
set_option maxRecDepth 100000 in
theorem am_cwi_181 : lw_tbl[508]? = some (am_cw 181) := rfl
set_option maxRecDepth 100000 in
theorem am_cwi_182 : lw_tbl[538]? = some (am_cw 182) := rfl
set_option maxRecDepth 100000 in
theorem am_cwi_183 : lw_tbl[542]? = some (am_cw 183) := rfl
set_option maxRecDepth 100000 in
theorem am_cwi_184 : lw_tbl[671]? = some (am_cw 184) := rfl
set_option maxRecDepth 100000 in
theorem am_cwi_185 : lw_tbl[699]? = some (am_cw 185) := rfl
set_option maxRecDepth 100000 in
theorem am_cwi_186 : lw_tbl[1539]? = some (am_cw 186) := rfl
set_option maxRecDepth 100000 in
theorem am_cwi_187 : lw_tbl[1546]? = some (am_cw 187) := rfl
set_option maxRecDepth 100000 in
theorem am_cwi_188 : lw_tbl[1566]? = some (am_cw 188) := rfl
set_option maxRecDepth 100000 in
theorem am_cwi_189 : lw_tbl[1576]? = some (am_cw 189) := rfl
set_option maxRecDepth 100000 in
theorem am_cwi_190 : lw_tbl[1593]? = some (am_cw 190) := rfl
set_option maxRecDepth 100000 in
theorem am_cwi_191 : lw_tbl[483]? = some (am_cw 191) := rfl
set_option maxRecDepth 100000 in
theorem am_cwi_192 : lw_tbl[495]? = some (am_cw 192) := rfl
set_option maxRecDepth 100000 in
theorem am_cwi_193 : lw_tbl[726]? = some (am_cw 193) := rfl
set_option maxRecDepth 100000 in
theorem am_cwi_194 : lw_tbl[764]? = some (am_cw 194) := rfl
set_option maxRecDepth 100000 in
theorem am_cwi_195 : lw_tbl[501]? = some (am_cw 195) := rfl
set_option maxRecDepth 100000 in
theorem am_cwi_196 : lw_tbl[722]? = some (am_cw 196) := rfl
set_option maxRecDepth 100000 in
theorem am_cwi_197 : lw_tbl[760]? = some (am_cw 197) := rfl
set_option maxRecDepth 100000 in
theorem am_cwi_198 : lw_tbl[810]? = some (am_cw 198) := rfl
set_option maxRecDepth 100000 in
theorem am_cwi_199 : lw_tbl[1427]? = some (am_cw 199) := rfl
set_option maxRecDepth 100000 in
theorem am_cwi_200 : lw_tbl[1431]? = some (am_cw 200) := rfl
set_option maxRecDepth 100000 in
theorem am_cwi_201 : lw_tbl[1436]? = some (am_cw 201) := rfl
set_option maxRecDepth 100000 in
theorem am_cwi_202 : lw_tbl[1440]? = some (am_cw 202) := rfl
set_option maxRecDepth 100000 in
theorem am_cwi_203 : lw_tbl[1444]? = some (am_cw 203) := rfl
set_option maxRecDepth 100000 in
theorem am_cwi_204 : lw_tbl[1449]? = some (am_cw 204) := rfl
set_option maxRecDepth 100000 in
theorem am_cwi_205 : lw_tbl[1453]? = some (am_cw 205) := rfl
set_option maxRecDepth 100000 in
theorem am_cwi_206 : lw_tbl[1457]? = some (am_cw 206) := rfl
set_option maxRecDepth 100000 in
theorem am_cwi_207 : lw_tbl[1461]? = some (am_cw 207) := rfl
set_option maxRecDepth 100000 in
theorem am_cwi_208 : lw_tbl[1478]? = some (am_cw 208) := rfl
set_option maxRecDepth 100000 in
theorem am_cwi_209 : lw_tbl[879]? = some (am_cw 209) := rfl
set_option maxRecDepth 100000 in
theorem am_cwi_210 : lw_tbl[882]? = some (am_cw 210) := rfl
set_option maxRecDepth 100000 in
theorem am_cwi_211 : lw_tbl[1059]? = some (am_cw 211) := rfl
set_option maxRecDepth 100000 in
theorem am_cwi_212 : lw_tbl[1065]? = some (am_cw 212) := rfl
set_option maxRecDepth 100000 in
theorem am_cwi_213 : lw_tbl[1412]? = some (am_cw 213) := rfl
set_option maxRecDepth 100000 in
theorem am_cwi_214 : lw_tbl[1419]? = some (am_cw 214) := rfl
set_option maxRecDepth 100000 in
theorem am_cwi_215 : lw_tbl[1466]? = some (am_cw 215) := rfl
set_option maxRecDepth 100000 in
theorem am_cwi_216 : lw_tbl[1472]? = some (am_cw 216) := rfl
set_option maxRecDepth 100000 in
theorem am_cwi_217 : lw_tbl[1512]? = some (am_cw 217) := rfl
set_option maxRecDepth 100000 in
theorem am_cwi_218 : lw_tbl[1535]? = some (am_cw 218) := rfl
set_option maxRecDepth 100000 in
theorem am_cwi_219 : lw_tbl[1562]? = some (am_cw 219) := rfl
set_option maxRecDepth 100000 in
theorem am_cwi_220 : lw_tbl[1423]? = some (am_cw 220) := rfl
theorem am_cw_in : ∀ y, am_vd y → am_cw y ∈ lw_tbl := by
  intro y h0
  obtain ⟨h1, h2, h3⟩ := h0
  rcases Nat.lt_or_ge y 21 with h | h
  · rcases (show y = 1 ∨ y = 2 ∨ y = 3 ∨ y = 4 ∨ y = 5 ∨ y = 6 ∨ y = 7 ∨ y = 8 ∨ y = 9 ∨ y = 10 ∨ y = 11 ∨ y = 12 ∨ y = 13 ∨ y = 14 ∨ y = 15 ∨ y = 16 ∨ y = 17 ∨ y = 18 ∨ y = 19 ∨ y = 20 by omega) with rfl | rfl | rfl | rfl | rfl | rfl | rfl | rfl | rfl | rfl | rfl | rfl | rfl | rfl | rfl | rfl | rfl | rfl | rfl | rfl
    · exact List.mem_of_getElem? am_cwi_1
    · exact List.mem_of_getElem? am_cwi_2
    · exact List.mem_of_getElem? am_cwi_3
    · exact List.mem_of_getElem? am_cwi_4
    · exact List.mem_of_getElem? am_cwi_5
    · exact List.mem_of_getElem? am_cwi_6
    · exact List.mem_of_getElem? am_cwi_7
    · exact List.mem_of_getElem? am_cwi_8
    · exact List.mem_of_getElem? am_cwi_9
    · exact List.mem_of_getElem? am_cwi_10
    · exact List.mem_of_getElem? am_cwi_11
    · exact List.mem_of_getElem? am_cwi_12
    · exact List.mem_of_getElem? am_cwi_13
    · exact List.mem_of_getElem? am_cwi_14
    · exact List.mem_of_getElem? am_cwi_15
    · exact List.mem_of_getElem? am_cwi_16
    · exact List.mem_of_getElem? am_cwi_17
    · exact List.mem_of_getElem? am_cwi_18
    · exact List.mem_of_getElem? am_cwi_19
    · exact List.mem_of_getElem? am_cwi_20
  rcases Nat.lt_or_ge y 41 with h | h
  · rcases (show y = 21 ∨ y = 22 ∨ y = 23 ∨ y = 24 ∨ y = 25 ∨ y = 26 ∨ y = 27 ∨ y = 28 ∨ y = 29 ∨ y = 30 ∨ y = 31 ∨ y = 32 ∨ y = 33 ∨ y = 34 ∨ y = 35 ∨ y = 36 ∨ y = 37 ∨ y = 38 ∨ y = 39 ∨ y = 40 by omega) with rfl | rfl | rfl | rfl | rfl | rfl | rfl | rfl | rfl | rfl | rfl | rfl | rfl | rfl | rfl | rfl | rfl | rfl | rfl | rfl
    · exact List.mem_of_getElem? am_cwi_21
    · exact List.mem_of_getElem? am_cwi_22
    · exact List.mem_of_getElem? am_cwi_23
    · exact List.mem_of_getElem? am_cwi_24
    · exact List.mem_of_getElem? am_cwi_25
    · exact List.mem_of_getElem? am_cwi_26
    · exact List.mem_of_getElem? am_cwi_27
    · exact List.mem_of_getElem? am_cwi_28
    · exact List.mem_of_getElem? am_cwi_29
    · exact List.mem_of_getElem? am_cwi_30
    · exact List.mem_of_getElem? am_cwi_31
    · exact List.mem_of_getElem? am_cwi_32
    · exact List.mem_of_getElem? am_cwi_33
    · exact List.mem_of_getElem? am_cwi_34
    · exact List.mem_of_getElem? am_cwi_35
    · exact List.mem_of_getElem? am_cwi_36
    · exact List.mem_of_getElem? am_cwi_37
    · exact List.mem_of_getElem? am_cwi_38
    · exact List.mem_of_getElem? am_cwi_39
    · exact List.mem_of_getElem? am_cwi_40
  rcases Nat.lt_or_ge y 61 with h | h
  · rcases (show y = 41 ∨ y = 42 ∨ y = 43 ∨ y = 44 ∨ y = 45 ∨ y = 46 ∨ y = 47 ∨ y = 48 ∨ y = 49 ∨ y = 50 ∨ y = 51 ∨ y = 52 ∨ y = 53 ∨ y = 54 ∨ y = 55 ∨ y = 56 ∨ y = 57 ∨ y = 58 ∨ y = 59 ∨ y = 60 by omega) with rfl | rfl | rfl | rfl | rfl | rfl | rfl | rfl | rfl | rfl | rfl | rfl | rfl | rfl | rfl | rfl | rfl | rfl | rfl | rfl
    · exact List.mem_of_getElem? am_cwi_41
    · exact List.mem_of_getElem? am_cwi_42
    · exact List.mem_of_getElem? am_cwi_43
    · exact List.mem_of_getElem? am_cwi_44
    · exact List.mem_of_getElem? am_cwi_45
    · exact List.mem_of_getElem? am_cwi_46
    · exact List.mem_of_getElem? am_cwi_47
    · exact List.mem_of_getElem? am_cwi_48
    · exact List.mem_of_getElem? am_cwi_49
    · exact List.mem_of_getElem? am_cwi_50
    · exact List.mem_of_getElem? am_cwi_51
    · exact List.mem_of_getElem? am_cwi_52
    · exact List.mem_of_getElem? am_cwi_53
    · cases h3
    · exact List.mem_of_getElem? am_cwi_55
    · exact List.mem_of_getElem? am_cwi_56
    · cases h3
    · cases h3
    · exact List.mem_of_getElem? am_cwi_59
    · exact List.mem_of_getElem? am_cwi_60
  rcases Nat.lt_or_ge y 81 with h | h
  · rcases (show y = 61 ∨ y = 62 ∨ y = 63 ∨ y = 64 ∨ y = 65 ∨ y = 66 ∨ y = 67 ∨ y = 68 ∨ y = 69 ∨ y = 70 ∨ y = 71 ∨ y = 72 ∨ y = 73 ∨ y = 74 ∨ y = 75 ∨ y = 76 ∨ y = 77 ∨ y = 78 ∨ y = 79 ∨ y = 80 by omega) with rfl | rfl | rfl | rfl | rfl | rfl | rfl | rfl | rfl | rfl | rfl | rfl | rfl | rfl | rfl | rfl | rfl | rfl | rfl | rfl
    · exact List.mem_of_getElem? am_cwi_61
    · exact List.mem_of_getElem? am_cwi_62
    · exact List.mem_of_getElem? am_cwi_63
    · exact List.mem_of_getElem? am_cwi_64
    · exact List.mem_of_getElem? am_cwi_65
    · exact List.mem_of_getElem? am_cwi_66
    · exact List.mem_of_getElem? am_cwi_67
    · exact List.mem_of_getElem? am_cwi_68
    · exact List.mem_of_getElem? am_cwi_69
    · exact List.mem_of_getElem? am_cwi_70
    · exact List.mem_of_getElem? am_cwi_71
    · exact List.mem_of_getElem? am_cwi_72
    · exact List.mem_of_getElem? am_cwi_73
    · exact List.mem_of_getElem? am_cwi_74
    · exact List.mem_of_getElem? am_cwi_75
    · exact List.mem_of_getElem? am_cwi_76
    · exact List.mem_of_getElem? am_cwi_77
    · exact List.mem_of_getElem? am_cwi_78
    · exact List.mem_of_getElem? am_cwi_79
    · exact List.mem_of_getElem? am_cwi_80
  rcases Nat.lt_or_ge y 101 with h | h
  · rcases (show y = 81 ∨ y = 82 ∨ y = 83 ∨ y = 84 ∨ y = 85 ∨ y = 86 ∨ y = 87 ∨ y = 88 ∨ y = 89 ∨ y = 90 ∨ y = 91 ∨ y = 92 ∨ y = 93 ∨ y = 94 ∨ y = 95 ∨ y = 96 ∨ y = 97 ∨ y = 98 ∨ y = 99 ∨ y = 100 by omega) with rfl | rfl | rfl | rfl | rfl | rfl | rfl | rfl | rfl | rfl | rfl | rfl | rfl | rfl | rfl | rfl | rfl | rfl | rfl | rfl
    · exact List.mem_of_getElem? am_cwi_81
    · exact List.mem_of_getElem? am_cwi_82
    · exact List.mem_of_getElem? am_cwi_83
    · exact List.mem_of_getElem? am_cwi_84
    · exact List.mem_of_getElem? am_cwi_85
    · exact List.mem_of_getElem? am_cwi_86
    · exact List.mem_of_getElem? am_cwi_87
    · exact List.mem_of_getElem? am_cwi_88
    · exact List.mem_of_getElem? am_cwi_89
    · exact List.mem_of_getElem? am_cwi_90
    · exact List.mem_of_getElem? am_cwi_91
    · exact List.mem_of_getElem? am_cwi_92
    · cases h3
    · exact List.mem_of_getElem? am_cwi_94
    · exact List.mem_of_getElem? am_cwi_95
    · exact List.mem_of_getElem? am_cwi_96
    · exact List.mem_of_getElem? am_cwi_97
    · exact List.mem_of_getElem? am_cwi_98
    · exact List.mem_of_getElem? am_cwi_99
    · exact List.mem_of_getElem? am_cwi_100
  rcases Nat.lt_or_ge y 121 with h | h
  · rcases (show y = 101 ∨ y = 102 ∨ y = 103 ∨ y = 104 ∨ y = 105 ∨ y = 106 ∨ y = 107 ∨ y = 108 ∨ y = 109 ∨ y = 110 ∨ y = 111 ∨ y = 112 ∨ y = 113 ∨ y = 114 ∨ y = 115 ∨ y = 116 ∨ y = 117 ∨ y = 118 ∨ y = 119 ∨ y = 120 by omega) with rfl | rfl | rfl | rfl | rfl | rfl | rfl | rfl | rfl | rfl | rfl | rfl | rfl | rfl | rfl | rfl | rfl | rfl | rfl | rfl
    · exact List.mem_of_getElem? am_cwi_101
    · exact List.mem_of_getElem? am_cwi_102
    · exact List.mem_of_getElem? am_cwi_103
    · exact List.mem_of_getElem? am_cwi_104
    · exact List.mem_of_getElem? am_cwi_105
    · exact List.mem_of_getElem? am_cwi_106
    · exact List.mem_of_getElem? am_cwi_107
    · exact List.mem_of_getElem? am_cwi_108
    · exact List.mem_of_getElem? am_cwi_109
    · exact List.mem_of_getElem? am_cwi_110
    · exact List.mem_of_getElem? am_cwi_111
    · exact List.mem_of_getElem? am_cwi_112
    · exact List.mem_of_getElem? am_cwi_113
    · exact List.mem_of_getElem? am_cwi_114
    · exact List.mem_of_getElem? am_cwi_115
    · exact List.mem_of_getElem? am_cwi_116
    · exact List.mem_of_getElem? am_cwi_117
    · exact List.mem_of_getElem? am_cwi_118
    · exact List.mem_of_getElem? am_cwi_119
    · exact List.mem_of_getElem? am_cwi_120
  rcases Nat.lt_or_ge y 141 with h | h
  · rcases (show y = 121 ∨ y = 122 ∨ y = 123 ∨ y = 124 ∨ y = 125 ∨ y = 126 ∨ y = 127 ∨ y = 128 ∨ y = 129 ∨ y = 130 ∨ y = 131 ∨ y = 132 ∨ y = 133 ∨ y = 134 ∨ y = 135 ∨ y = 136 ∨ y = 137 ∨ y = 138 ∨ y = 139 ∨ y = 140 by omega) with rfl | rfl | rfl | rfl | rfl | rfl | rfl | rfl | rfl | rfl | rfl | rfl | rfl | rfl | rfl | rfl | rfl | rfl | rfl | rfl
    · exact List.mem_of_getElem? am_cwi_121
    · exact List.mem_of_getElem? am_cwi_122
    · exact List.mem_of_getElem? am_cwi_123
    · exact List.mem_of_getElem? am_cwi_124
    · exact List.mem_of_getElem? am_cwi_125
    · exact List.mem_of_getElem? am_cwi_126
    · cases h3
    · exact List.mem_of_getElem? am_cwi_128
    · cases h3
    · exact List.mem_of_getElem? am_cwi_130
    · cases h3
    · exact List.mem_of_getElem? am_cwi_132
    · cases h3
    · cases h3
    · exact List.mem_of_getElem? am_cwi_135
    · exact List.mem_of_getElem? am_cwi_136
    · exact List.mem_of_getElem? am_cwi_137
    · exact List.mem_of_getElem? am_cwi_138
    · exact List.mem_of_getElem? am_cwi_139
    · exact List.mem_of_getElem? am_cwi_140
  rcases Nat.lt_or_ge y 161 with h | h
  · rcases (show y = 141 ∨ y = 142 ∨ y = 143 ∨ y = 144 ∨ y = 145 ∨ y = 146 ∨ y = 147 ∨ y = 148 ∨ y = 149 ∨ y = 150 ∨ y = 151 ∨ y = 152 ∨ y = 153 ∨ y = 154 ∨ y = 155 ∨ y = 156 ∨ y = 157 ∨ y = 158 ∨ y = 159 ∨ y = 160 by omega) with rfl | rfl | rfl | rfl | rfl | rfl | rfl | rfl | rfl | rfl | rfl | rfl | rfl | rfl | rfl | rfl | rfl | rfl | rfl | rfl
    · exact List.mem_of_getElem? am_cwi_141
    · exact List.mem_of_getElem? am_cwi_142
    · exact List.mem_of_getElem? am_cwi_143
    · exact List.mem_of_getElem? am_cwi_144
    · exact List.mem_of_getElem? am_cwi_145
    · exact List.mem_of_getElem? am_cwi_146
    · exact List.mem_of_getElem? am_cwi_147
    · exact List.mem_of_getElem? am_cwi_148
    · exact List.mem_of_getElem? am_cwi_149
    · exact List.mem_of_getElem? am_cwi_150
    · exact List.mem_of_getElem? am_cwi_151
    · exact List.mem_of_getElem? am_cwi_152
    · exact List.mem_of_getElem? am_cwi_153
    · exact List.mem_of_getElem? am_cwi_154
    · exact List.mem_of_getElem? am_cwi_155
    · exact List.mem_of_getElem? am_cwi_156
    · exact List.mem_of_getElem? am_cwi_157
    · exact List.mem_of_getElem? am_cwi_158
    · exact List.mem_of_getElem? am_cwi_159
    · exact List.mem_of_getElem? am_cwi_160
  rcases Nat.lt_or_ge y 181 with h | h
  · rcases (show y = 161 ∨ y = 162 ∨ y = 163 ∨ y = 164 ∨ y = 165 ∨ y = 166 ∨ y = 167 ∨ y = 168 ∨ y = 169 ∨ y = 170 ∨ y = 171 ∨ y = 172 ∨ y = 173 ∨ y = 174 ∨ y = 175 ∨ y = 176 ∨ y = 177 ∨ y = 178 ∨ y = 179 ∨ y = 180 by omega) with rfl | rfl | rfl | rfl | rfl | rfl | rfl | rfl | rfl | rfl | rfl | rfl | rfl | rfl | rfl | rfl | rfl | rfl | rfl | rfl
    · exact List.mem_of_getElem? am_cwi_161
    · exact List.mem_of_getElem? am_cwi_162
    · exact List.mem_of_getElem? am_cwi_163
    · exact List.mem_of_getElem? am_cwi_164
    · exact List.mem_of_getElem? am_cwi_165
    · exact List.mem_of_getElem? am_cwi_166
    · exact List.mem_of_getElem? am_cwi_167
    · exact List.mem_of_getElem? am_cwi_168
    · exact List.mem_of_getElem? am_cwi_169
    · exact List.mem_of_getElem? am_cwi_170
    · exact List.mem_of_getElem? am_cwi_171
    · exact List.mem_of_getElem? am_cwi_172
    · exact List.mem_of_getElem? am_cwi_173
    · exact List.mem_of_getElem? am_cwi_174
    · exact List.mem_of_getElem? am_cwi_175
    · exact List.mem_of_getElem? am_cwi_176
    · exact List.mem_of_getElem? am_cwi_177
    · exact List.mem_of_getElem? am_cwi_178
    · exact List.mem_of_getElem? am_cwi_179
    · exact List.mem_of_getElem? am_cwi_180
  rcases Nat.lt_or_ge y 201 with h | h
  · rcases (show y = 181 ∨ y = 182 ∨ y = 183 ∨ y = 184 ∨ y = 185 ∨ y = 186 ∨ y = 187 ∨ y = 188 ∨ y = 189 ∨ y = 190 ∨ y = 191 ∨ y = 192 ∨ y = 193 ∨ y = 194 ∨ y = 195 ∨ y = 196 ∨ y = 197 ∨ y = 198 ∨ y = 199 ∨ y = 200 by omega) with rfl | rfl | rfl | rfl | rfl | rfl | rfl | rfl | rfl | rfl | rfl | rfl | rfl | rfl | rfl | rfl | rfl | rfl | rfl | rfl
    · exact List.mem_of_getElem? am_cwi_181
    · exact List.mem_of_getElem? am_cwi_182
    · exact List.mem_of_getElem? am_cwi_183
    · exact List.mem_of_getElem? am_cwi_184
    · exact List.mem_of_getElem? am_cwi_185
    · exact List.mem_of_getElem? am_cwi_186
    · exact List.mem_of_getElem? am_cwi_187
    · exact List.mem_of_getElem? am_cwi_188
    · exact List.mem_of_getElem? am_cwi_189
    · exact List.mem_of_getElem? am_cwi_190
    · exact List.mem_of_getElem? am_cwi_191
    · exact List.mem_of_getElem? am_cwi_192
    · exact List.mem_of_getElem? am_cwi_193
    · exact List.mem_of_getElem? am_cwi_194
    · exact List.mem_of_getElem? am_cwi_195
    · exact List.mem_of_getElem? am_cwi_196
    · exact List.mem_of_getElem? am_cwi_197
    · exact List.mem_of_getElem? am_cwi_198
    · exact List.mem_of_getElem? am_cwi_199
    · exact List.mem_of_getElem? am_cwi_200
  rcases Nat.lt_or_ge y 221 with h | h
  · rcases (show y = 201 ∨ y = 202 ∨ y = 203 ∨ y = 204 ∨ y = 205 ∨ y = 206 ∨ y = 207 ∨ y = 208 ∨ y = 209 ∨ y = 210 ∨ y = 211 ∨ y = 212 ∨ y = 213 ∨ y = 214 ∨ y = 215 ∨ y = 216 ∨ y = 217 ∨ y = 218 ∨ y = 219 ∨ y = 220 by omega) with rfl | rfl | rfl | rfl | rfl | rfl | rfl | rfl | rfl | rfl | rfl | rfl | rfl | rfl | rfl | rfl | rfl | rfl | rfl | rfl
    · exact List.mem_of_getElem? am_cwi_201
    · exact List.mem_of_getElem? am_cwi_202
    · exact List.mem_of_getElem? am_cwi_203
    · exact List.mem_of_getElem? am_cwi_204
    · exact List.mem_of_getElem? am_cwi_205
    · exact List.mem_of_getElem? am_cwi_206
    · exact List.mem_of_getElem? am_cwi_207
    · exact List.mem_of_getElem? am_cwi_208
    · exact List.mem_of_getElem? am_cwi_209
    · exact List.mem_of_getElem? am_cwi_210
    · exact List.mem_of_getElem? am_cwi_211
    · exact List.mem_of_getElem? am_cwi_212
    · exact List.mem_of_getElem? am_cwi_213
    · exact List.mem_of_getElem? am_cwi_214
    · exact List.mem_of_getElem? am_cwi_215
    · exact List.mem_of_getElem? am_cwi_216
    · exact List.mem_of_getElem? am_cwi_217
    · exact List.mem_of_getElem? am_cwi_218
    · exact List.mem_of_getElem? am_cwi_219
    · exact List.mem_of_getElem? am_cwi_220
  omega
