/-! THE SMALL MACHINE: its methods are the claim's own -/
def am_cT : List Nat := [0, 571, 581, 585, 575, 591, 588, 596, 131, 638, 642, 669, 673, 705, 177, 651, 660, 712, 745, 749, 753, 757, 846, 893, 922, 1040, 1048, 1061, 353, 1185, 1189, 1203, 276, 864, 878, 882, 911, 940, 959, 971, 975, 1020, 1024, 1030, 1034, 1044, 1052, 1056, 1078, 1082, 1115, 1275, 289, 1015, 1074, 1093, 1111, 1129, 1141, 312, 987, 992, 996, 333, 1225, 1311, 125, 525, 529, 536, 541, 545, 549, 552, 556, 559, 563, 567, 619, 624, 629, 634, 647, 656, 665, 677, 681, 117, 417, 421, 425, 429, 433, 437, 441, 445, 454, 701, 721, 725, 765, 769, 777, 781, 785, 793, 797, 805, 809, 817, 825, 832, 839, 842, 853, 860, 874, 889, 900, 907, 918, 929, 936, 948, 955, 967, 983, 1004, 1011, 1070, 1089, 1100, 1107, 1125, 1137, 1148, 1155, 1162, 1169, 1177, 1181, 1198, 1212, 1220, 1235, 1244, 1252, 1260, 1269, 1282, 1290, 1299, 1306, 1318, 1321, 1329, 1335, 1449, 1453, 1457, 1461, 1465, 1469, 1473, 1476, 1480, 1484, 1488, 1492, 1495, 1498, 1503, 1507, 1513, 1517, 1521, 1526, 1530, 1535, 1540, 1545, 1550, 1553, 1558, 1562, 1565, 1568, 1572, 1576, 1580, 1584, 1588, 1592, 1596, 1600, 1604, 1608, 1612, 1616, 1620, 1624, 1628, 1632, 1636, 1640, 1644, 1648, 1652, 1656, 1660, 1664, 1668, 1673, 1677, 1681, 1685, 1689, 1693, 1697, 1701, 1705, 1709, 1713, 1717, 1721, 1725, 1729, 1733, 1737, 1741, 1745, 1749, 1753, 1757, 1761, 1765, 1769, 1773, 1777, 1781, 1785, 1789, 1793, 1797, 1801, 1805, 1809, 1813, 1817, 1821, 1825, 1829, 1833, 1837, 1841, 1845, 1849, 1853, 1857, 1861, 1865, 1869, 1873, 1877, 1881, 1885, 1889, 1893, 1897, 1901, 1905, 1909, 1913, 1917, 1921, 1925, 1929, 1933, 1937, 448, 716, 761, 773, 789, 801, 813, 821, 828, 835, 849, 856, 870, 885, 896, 903, 914, 925, 932, 944, 951, 963, 979, 1000, 1007, 1066, 1085, 1096, 1103, 1121, 1133, 1144, 1151, 1158, 1165, 1173, 1194, 1208, 1216, 1231, 1240, 1248, 1256, 1265, 1278, 1286, 1295, 1302, 1314, 1325]
def am_cw (y : Nat) : Jvm.Cond := if am_hh y = [] then .code (am_name y) (am_code y) (am_nL y) (am_rt y) else .codeWith (am_name y) (am_code y) (am_nL y) (am_rt y) (am_hh y)
def am_mok (y : Nat) : Bool := am_has (am_cT.getD y 0) (am_cw y) && plainName (am_name y).cls && decide (am_own y = (am_name y).cls) && decide (am_nL y ≤ 40) && decide ((am_name y).cls ≠ "java/lang/invoke/MethodHandle" ∧ (am_name y).cls ≠ "java/lang/invoke/VarHandle") && decide ((parseMethodDescriptor (am_name y).desc).map (fun d => d.parameters.length) = some (am_na y)) && decide (am_rt y = none ∨ am_rt y = some .int ∨ am_rt y = some .boolean ∨ am_rt y = some .char ∨ am_rt y = some .byte ∨ am_rt y = some .float ∨ am_rt y = some .double)
theorem am_mlen : am_mt.length = 329 := by decide +kernel
theorem am_m_chk1 : (List.range 60).all (fun k => am_mok (1 + k)) = true := by decide +kernel
theorem am_m_chk61 : (List.range 60).all (fun k => am_mok (61 + k)) = true := by decide +kernel
theorem am_m_chk121 : (List.range 60).all (fun k => am_mok (121 + k)) = true := by decide +kernel
theorem am_m_chk181 : (List.range 60).all (fun k => am_mok (181 + k)) = true := by decide +kernel
theorem am_m_chk241 : (List.range 60).all (fun k => am_mok (241 + k)) = true := by decide +kernel
theorem am_m_chk301 : (List.range 28).all (fun k => am_mok (301 + k)) = true := by decide +kernel
theorem am_m_ok : ∀ y, 1 ≤ y → y < 329 → am_mok y = true := by
  intro y h1 h2
  rcases Nat.lt_or_ge y 61 with h | h
  · have := am_all am_m_chk1 (i := y - 1) (by omega)
    rw [show 1 + (y - 1) = y by omega] at this
    exact this
  rcases Nat.lt_or_ge y 121 with h | h
  · have := am_all am_m_chk61 (i := y - 61) (by omega)
    rw [show 61 + (y - 61) = y by omega] at this
    exact this
  rcases Nat.lt_or_ge y 181 with h | h
  · have := am_all am_m_chk121 (i := y - 121) (by omega)
    rw [show 121 + (y - 121) = y by omega] at this
    exact this
  rcases Nat.lt_or_ge y 241 with h | h
  · have := am_all am_m_chk181 (i := y - 181) (by omega)
    rw [show 181 + (y - 181) = y by omega] at this
    exact this
  rcases Nat.lt_or_ge y 301 with h | h
  · have := am_all am_m_chk241 (i := y - 241) (by omega)
    rw [show 241 + (y - 241) = y by omega] at this
    exact this
  rcases Nat.lt_or_ge y 329 with h | h
  · have := am_all am_m_chk301 (i := y - 301) (by omega)
    rw [show 301 + (y - 301) = y by omega] at this
    exact this
  omega
def am_hasN (k : Nat) (w : Jvm.Cond) : Bool := match lw_tbl[k]? with
  | some v => decide (v = w)
  | none => false
theorem am_hasN_in {k : Nat} {w : Jvm.Cond} (h : am_hasN k w = true) : w ∈ lw_tbl := by
  unfold am_hasN at h
  split at h
  · next v e =>
    have := of_decide_eq_true h
    subst this
    exact List.mem_of_getElem? e
  · cases h
def am_mlok (oc : Nat) (q : Nat × Nat × Nat × Nat × Nat × Nat × Nat) : Bool :=
  match q.2.1 with
  | 0 => am_has q.2.2.2.1 (.methodLink (am_cn oc) q.1 (am_name q.2.2.1)) && am_has q.2.2.2.2.1 (.instanceMethod (am_name q.2.2.1)) && am_has q.2.2.2.2.2.1 (.initialized (am_name q.2.2.1).cls) && am_has q.2.2.2.2.2.2 (.selects (am_name q.2.2.1).cls (am_name q.2.2.1) (am_name q.2.2.1)) && decide (1 ≤ q.2.2.1 ∧ q.2.2.1 < 329 ∧ (am_oc q.2.2.1 < 10 ∨ am_oc q.2.2.1 = 14) ∧ am_hh q.2.2.1 = [])
  | 1 => am_has q.2.2.2.1 (.methodLink (am_cn oc) q.1 (am_name q.2.2.1)) && am_has q.2.2.2.2.1 (.static (am_name q.2.2.1)) && am_has q.2.2.2.2.2.1 (.initialized (am_name q.2.2.1).cls) && decide (1 ≤ q.2.2.1 ∧ q.2.2.1 < 329)
  | 2 => am_has q.2.2.2.1 (.methodLink (am_cn oc) q.1 (am_name q.2.2.1)) && am_has q.2.2.2.2.1 (.instanceMethod (am_name q.2.2.1)) && am_has q.2.2.2.2.2.1 (.initialized (am_name q.2.2.1).cls) && decide (1 ≤ q.2.2.1 ∧ q.2.2.1 < 329 ∧ (am_name q.2.2.1).name = "<init>" ∧ am_hh q.2.2.1 = [] ∧ am_rt q.2.2.1 = none)
  | 3 => am_hasN q.2.2.2.1 (.methodLinkNest (am_cn oc) q.1 (am_name q.2.2.1) "RodYard") && am_has q.2.2.2.2.1 (.instanceMethod (am_name q.2.2.1)) && am_has q.2.2.2.2.2.1 (.initialized (am_name q.2.2.1).cls) && decide (1 ≤ q.2.2.1 ∧ q.2.2.1 < 329 ∧ (am_name q.2.2.1).name = "<init>" ∧ am_hh q.2.2.1 = [] ∧ am_rt q.2.2.1 = none)
  | 4 => am_has q.2.2.2.1 (.methodLink (am_cn oc) q.1 arraycopyName)
  | 5 => am_has q.2.2.2.1 (.methodLink (am_cn oc) q.1 Lib.objectInit)
  | 6 => am_has q.2.2.2.1 (.methodLink (am_cn oc) q.1 Lib.Math.max.name)
  | 7 => am_has q.2.2.2.1 (.methodLink (am_cn oc) q.1 Lib.Math.min.name)
  | _ => false
theorem am_ml_len : am_mlT.length = 19 := by decide +kernel
theorem am_ml_chk0_0 : (((am_mlT.getD 0 []).drop 0).take 60).all (am_mlok 0) = true := by decide +kernel
theorem am_ml_chk1_0 : (((am_mlT.getD 1 []).drop 0).take 60).all (am_mlok 1) = true := by decide +kernel
theorem am_ml_chk2_0 : (((am_mlT.getD 2 []).drop 0).take 60).all (am_mlok 2) = true := by decide +kernel
theorem am_ml_chk3_0 : (((am_mlT.getD 3 []).drop 0).take 60).all (am_mlok 3) = true := by decide +kernel
theorem am_ml_chk4_0 : (((am_mlT.getD 4 []).drop 0).take 60).all (am_mlok 4) = true := by decide +kernel
theorem am_ml_chk5_0 : (((am_mlT.getD 5 []).drop 0).take 60).all (am_mlok 5) = true := by decide +kernel
theorem am_ml_chk6_0 : (((am_mlT.getD 6 []).drop 0).take 60).all (am_mlok 6) = true := by decide +kernel
theorem am_ml_chk7_0 : (((am_mlT.getD 7 []).drop 0).take 60).all (am_mlok 7) = true := by decide +kernel
theorem am_ml_chk8_0 : (((am_mlT.getD 8 []).drop 0).take 60).all (am_mlok 8) = true := by decide +kernel
theorem am_ml_chk9_0 : (((am_mlT.getD 9 []).drop 0).take 60).all (am_mlok 9) = true := by decide +kernel
theorem am_ml_chk9_60 : (((am_mlT.getD 9 []).drop 60).take 60).all (am_mlok 9) = true := by decide +kernel
theorem am_ml_chk13_0 : (((am_mlT.getD 13 []).drop 0).take 60).all (am_mlok 13) = true := by decide +kernel
theorem am_ml_chk13_60 : (((am_mlT.getD 13 []).drop 60).take 60).all (am_mlok 13) = true := by decide +kernel
theorem am_ml_chk13_120 : (((am_mlT.getD 13 []).drop 120).take 60).all (am_mlok 13) = true := by decide +kernel
theorem am_ml_chk14_0 : (((am_mlT.getD 14 []).drop 0).take 60).all (am_mlok 14) = true := by decide +kernel
theorem am_ml_chk15_0 : (((am_mlT.getD 15 []).drop 0).take 60).all (am_mlok 15) = true := by decide +kernel
theorem am_tk {α : Type} {f : α → Bool} {l : List α} (n : Nat) (h1 : (l.take n).all f = true) (h2 : (l.drop n).all f = true) : l.all f = true := by
  rw [← List.take_append_drop n l, List.all_append, h1, h2]
  rfl
theorem am_ml_d0_60 : ((am_mlT.getD 0 []).drop 60).all (am_mlok 0) = true := by decide +kernel
theorem am_ml_d0_0 : ((am_mlT.getD 0 []).drop 0).all (am_mlok 0) = true := am_tk 60 am_ml_chk0_0 (by rw [List.drop_drop]; exact am_ml_d0_60)
theorem am_ml_k0 : (am_mlT.getD 0 []).all (am_mlok 0) = true := am_ml_d0_0
theorem am_ml_d1_60 : ((am_mlT.getD 1 []).drop 60).all (am_mlok 1) = true := by decide +kernel
theorem am_ml_d1_0 : ((am_mlT.getD 1 []).drop 0).all (am_mlok 1) = true := am_tk 60 am_ml_chk1_0 (by rw [List.drop_drop]; exact am_ml_d1_60)
theorem am_ml_k1 : (am_mlT.getD 1 []).all (am_mlok 1) = true := am_ml_d1_0
theorem am_ml_d2_60 : ((am_mlT.getD 2 []).drop 60).all (am_mlok 2) = true := by decide +kernel
theorem am_ml_d2_0 : ((am_mlT.getD 2 []).drop 0).all (am_mlok 2) = true := am_tk 60 am_ml_chk2_0 (by rw [List.drop_drop]; exact am_ml_d2_60)
theorem am_ml_k2 : (am_mlT.getD 2 []).all (am_mlok 2) = true := am_ml_d2_0
theorem am_ml_d3_60 : ((am_mlT.getD 3 []).drop 60).all (am_mlok 3) = true := by decide +kernel
theorem am_ml_d3_0 : ((am_mlT.getD 3 []).drop 0).all (am_mlok 3) = true := am_tk 60 am_ml_chk3_0 (by rw [List.drop_drop]; exact am_ml_d3_60)
theorem am_ml_k3 : (am_mlT.getD 3 []).all (am_mlok 3) = true := am_ml_d3_0
theorem am_ml_d4_60 : ((am_mlT.getD 4 []).drop 60).all (am_mlok 4) = true := by decide +kernel
theorem am_ml_d4_0 : ((am_mlT.getD 4 []).drop 0).all (am_mlok 4) = true := am_tk 60 am_ml_chk4_0 (by rw [List.drop_drop]; exact am_ml_d4_60)
theorem am_ml_k4 : (am_mlT.getD 4 []).all (am_mlok 4) = true := am_ml_d4_0
theorem am_ml_d5_60 : ((am_mlT.getD 5 []).drop 60).all (am_mlok 5) = true := by decide +kernel
theorem am_ml_d5_0 : ((am_mlT.getD 5 []).drop 0).all (am_mlok 5) = true := am_tk 60 am_ml_chk5_0 (by rw [List.drop_drop]; exact am_ml_d5_60)
theorem am_ml_k5 : (am_mlT.getD 5 []).all (am_mlok 5) = true := am_ml_d5_0
theorem am_ml_d6_60 : ((am_mlT.getD 6 []).drop 60).all (am_mlok 6) = true := by decide +kernel
theorem am_ml_d6_0 : ((am_mlT.getD 6 []).drop 0).all (am_mlok 6) = true := am_tk 60 am_ml_chk6_0 (by rw [List.drop_drop]; exact am_ml_d6_60)
theorem am_ml_k6 : (am_mlT.getD 6 []).all (am_mlok 6) = true := am_ml_d6_0
theorem am_ml_d7_60 : ((am_mlT.getD 7 []).drop 60).all (am_mlok 7) = true := by decide +kernel
theorem am_ml_d7_0 : ((am_mlT.getD 7 []).drop 0).all (am_mlok 7) = true := am_tk 60 am_ml_chk7_0 (by rw [List.drop_drop]; exact am_ml_d7_60)
theorem am_ml_k7 : (am_mlT.getD 7 []).all (am_mlok 7) = true := am_ml_d7_0
theorem am_ml_d8_60 : ((am_mlT.getD 8 []).drop 60).all (am_mlok 8) = true := by decide +kernel
theorem am_ml_d8_0 : ((am_mlT.getD 8 []).drop 0).all (am_mlok 8) = true := am_tk 60 am_ml_chk8_0 (by rw [List.drop_drop]; exact am_ml_d8_60)
theorem am_ml_k8 : (am_mlT.getD 8 []).all (am_mlok 8) = true := am_ml_d8_0
theorem am_ml_d9_120 : ((am_mlT.getD 9 []).drop 120).all (am_mlok 9) = true := by decide +kernel
theorem am_ml_d9_60 : ((am_mlT.getD 9 []).drop 60).all (am_mlok 9) = true := am_tk 60 am_ml_chk9_60 (by rw [List.drop_drop]; exact am_ml_d9_120)
theorem am_ml_d9_0 : ((am_mlT.getD 9 []).drop 0).all (am_mlok 9) = true := am_tk 60 am_ml_chk9_0 (by rw [List.drop_drop]; exact am_ml_d9_60)
theorem am_ml_k9 : (am_mlT.getD 9 []).all (am_mlok 9) = true := am_ml_d9_0
theorem am_ml_d13_180 : ((am_mlT.getD 13 []).drop 180).all (am_mlok 13) = true := by decide +kernel
theorem am_ml_d13_120 : ((am_mlT.getD 13 []).drop 120).all (am_mlok 13) = true := am_tk 60 am_ml_chk13_120 (by rw [List.drop_drop]; exact am_ml_d13_180)
theorem am_ml_d13_60 : ((am_mlT.getD 13 []).drop 60).all (am_mlok 13) = true := am_tk 60 am_ml_chk13_60 (by rw [List.drop_drop]; exact am_ml_d13_120)
theorem am_ml_d13_0 : ((am_mlT.getD 13 []).drop 0).all (am_mlok 13) = true := am_tk 60 am_ml_chk13_0 (by rw [List.drop_drop]; exact am_ml_d13_60)
theorem am_ml_k13 : (am_mlT.getD 13 []).all (am_mlok 13) = true := am_ml_d13_0
theorem am_ml_d14_60 : ((am_mlT.getD 14 []).drop 60).all (am_mlok 14) = true := by decide +kernel
theorem am_ml_d14_0 : ((am_mlT.getD 14 []).drop 0).all (am_mlok 14) = true := am_tk 60 am_ml_chk14_0 (by rw [List.drop_drop]; exact am_ml_d14_60)
theorem am_ml_k14 : (am_mlT.getD 14 []).all (am_mlok 14) = true := am_ml_d14_0
theorem am_ml_d15_60 : ((am_mlT.getD 15 []).drop 60).all (am_mlok 15) = true := by decide +kernel
theorem am_ml_d15_0 : ((am_mlT.getD 15 []).drop 0).all (am_mlok 15) = true := am_tk 60 am_ml_chk15_0 (by rw [List.drop_drop]; exact am_ml_d15_60)
theorem am_ml_k15 : (am_mlT.getD 15 []).all (am_mlok 15) = true := am_ml_d15_0
theorem am_ml_all : ∀ oc, oc < 19 → (am_mlT.getD oc []).all (am_mlok oc) = true := by
  intro oc h
  rcases (show oc = 0 ∨ oc = 1 ∨ oc = 2 ∨ oc = 3 ∨ oc = 4 ∨ oc = 5 ∨ oc = 6 ∨ oc = 7 ∨ oc = 8 ∨ oc = 9 ∨ oc = 10 ∨ oc = 11 ∨ oc = 12 ∨ oc = 13 ∨ oc = 14 ∨ oc = 15 ∨ oc = 16 ∨ oc = 17 ∨ oc = 18 by omega) with rfl | rfl | rfl | rfl | rfl | rfl | rfl | rfl | rfl | rfl | rfl | rfl | rfl | rfl | rfl | rfl | rfl | rfl | rfl
  · exact am_ml_k0
  · exact am_ml_k1
  · exact am_ml_k2
  · exact am_ml_k3
  · exact am_ml_k4
  · exact am_ml_k5
  · exact am_ml_k6
  · exact am_ml_k7
  · exact am_ml_k8
  · exact am_ml_k9
  · decide +kernel
  · decide +kernel
  · decide +kernel
  · exact am_ml_k13
  · exact am_ml_k14
  · exact am_ml_k15
  · decide +kernel
  · decide +kernel
  · decide +kernel
theorem am_ml_ok {oc idx : Nat} {q : Nat × Nat × Nat × Nat × Nat × Nat × Nat} (h : am_ml oc idx = some q) : q.1 = idx ∧ am_mlok oc q = true := by
  unfold am_ml at h
  have h1 := List.mem_of_find?_eq_some h
  have h2 : q.1 = idx := by simpa using List.find?_some h
  exact ⟨h2, List.all_eq_true.mp (am_ml_all oc (am_out (by decide) h1)) q h1⟩
theorem am_w_stmax : Cond.static Lib.Math.max.name ∈ am_ws := am_has_in (k := 866) (by decide +kernel)
theorem am_w_comax : Cond.code Lib.Math.max.name Lib.Math.max.code 2 (some .int) ∈ am_ws := am_has_in (k := 867) (by decide +kernel)
theorem am_w_stmin : Cond.static Lib.Math.min.name ∈ am_ws := am_has_in (k := 531) (by decide +kernel)
theorem am_w_comin : Cond.code Lib.Math.min.name Lib.Math.min.code 2 (some .int) ∈ am_ws := am_has_in (k := 532) (by decide +kernel)
theorem am_w_mi : (Jvm.Cond.initialized "java/lang/Math") ∈ am_ws := am_has_in (k := 105) (by decide +kernel)
theorem am_w_oi : Cond.instanceMethod Lib.objectInit ∈ am_ws := am_has_in (k := 119) (by decide +kernel)
theorem am_w_oc : Cond.code Lib.objectInit ⟨#[0xb1]⟩ 1 none ∈ am_ws := am_has_in (k := 120) (by decide +kernel)
abbrev am_at10 : List Jvm.Cond := vx_atS "RodYard" 101 "java/lang/IndexOutOfBoundsException" ["java/lang/RuntimeException", "java/lang/Exception"]
theorem am_at10_in : ∀ w ∈ am_at10, w ∈ lw_tbl := by decide +kernel
theorem am_at10_g : am_at10.all (fun w => goodWord w || (match w with | .declares _ => true | .castable _ _ => true | _ => false)) = true := by decide +kernel
theorem am_at10_o : am_at10.all vx_ot = true := by decide +kernel
theorem am_w_i10 : (Jvm.Cond.initialized "java/lang/IndexOutOfBoundsException") ∈ am_ws := am_has_in (k := 104) (by decide +kernel)
theorem am_w_k10 : Cond.castable "java/lang/IndexOutOfBoundsException" "java/lang/IndexOutOfBoundsException" ∈ lw_tbl := am_hasN_in (k := 457) (by decide +kernel)
abbrev am_at11 : List Jvm.Cond := vx_atS "RodYard" 125 "java/lang/IllegalArgumentException" ["java/lang/RuntimeException", "java/lang/Exception"]
theorem am_at11_in : ∀ w ∈ am_at11, w ∈ lw_tbl := by decide +kernel
theorem am_at11_g : am_at11.all (fun w => goodWord w || (match w with | .declares _ => true | .castable _ _ => true | _ => false)) = true := by decide +kernel
theorem am_at11_o : am_at11.all vx_ot = true := by decide +kernel
theorem am_w_i11 : (Jvm.Cond.initialized "java/lang/IllegalArgumentException") ∈ am_ws := am_has_in (k := 110) (by decide +kernel)
theorem am_w_k11 : Cond.castable "java/lang/IllegalArgumentException" "java/lang/IllegalArgumentException" ∈ lw_tbl := am_hasN_in (k := 684) (by decide +kernel)
abbrev am_at12 : List Jvm.Cond := vx_atS "RodYard" 348 "java/lang/IllegalStateException" ["java/lang/RuntimeException", "java/lang/Exception"]
theorem am_at12_in : ∀ w ∈ am_at12, w ∈ lw_tbl := by decide +kernel
theorem am_at12_g : am_at12.all (fun w => goodWord w || (match w with | .declares _ => true | .castable _ _ => true | _ => false)) = true := by decide +kernel
theorem am_at12_o : am_at12.all vx_ot = true := by decide +kernel
theorem am_w_i12 : (Jvm.Cond.initialized "java/lang/IllegalStateException") ∈ am_ws := am_has_in (k := 112) (by decide +kernel)
theorem am_w_k12 : Cond.castable "java/lang/IllegalStateException" "java/lang/IllegalStateException" ∈ lw_tbl := am_hasN_in (k := 728) (by decide +kernel)
