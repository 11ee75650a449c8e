/-! THE TABLES ARE RIGHT: the code of each method -/
section ETD
def et_mk (q : MethodName × ByteArray × Nat × Option FieldType) : Cond := .code q.1 q.2.1 q.2.2.1 q.2.2.2
theorem et_k_mem {ks : List (MethodName × ByteArray × Nat × Option FieldType)} (ps : List Nat) (h : ks.map et_mk = ps.filterMap (fun i => lw_tbl[i]?)) : ∀ q ∈ ks, et_mk q ∈ lw_tbl := by
  intro q hq
  have h1 : et_mk q ∈ ks.map et_mk := List.mem_map_of_mem hq
  rw [h] at h1
  obtain ⟨i, -, hi⟩ := List.mem_filterMap.mp h1
  exact List.mem_of_getElem? hi
set_option maxRecDepth 100000 in
theorem et_kok0 : (et_k0.take 40).map et_mk = ([131, 139, 186, 201, 279, 285, 311, 400, 438, 459, 481, 511, 584, 588, 592, 596, 600, 604, 611, 615, 619, 622, 625, 629, 633, 685, 689, 693, 697, 701, 705, 709, 712, 716, 720, 724, 728, 732, 736, 740] : List Nat).filterMap (fun i => lw_tbl[i]?) := rfl
set_option maxRecDepth 100000 in
theorem et_kok1 : (et_k1.take 40).map et_mk = ([743, 747, 751, 758, 761, 764, 767, 771, 775, 779, 783, 788, 792, 799, 804, 809, 813, 817, 821, 825, 830, 834, 838, 842, 846, 853, 857, 860, 864, 868, 872, 876, 881, 885, 889, 897, 902, 906, 910, 914] : List Nat).filterMap (fun i => lw_tbl[i]?) := rfl
set_option maxRecDepth 100000 in
theorem et_kok2 : (et_k2.take 40).map et_mk = ([918, 922, 926, 931, 935, 939, 943, 947, 951, 956, 960, 964, 968, 972, 976, 980, 984, 990, 994, 999, 1003, 1007, 1011, 1017, 1021, 1025, 1029, 1033, 1037, 1041, 1045, 1049, 1053, 1056, 1059, 1062, 1067, 1073, 1077, 1081] : List Nat).filterMap (fun i => lw_tbl[i]?) := rfl
set_option maxRecDepth 100000 in
theorem et_kok3 : (et_k3.take 40).map et_mk = ([1085, 1089, 1093, 1098, 1102, 1106, 1111, 1115, 1119, 1122, 1125, 1129, 1132, 1136, 1140, 1144, 1148, 1151, 1155, 1161, 1165, 1169, 1173, 1178, 1182, 1186, 1193, 1198, 1203, 1209, 1213, 1217, 1222, 1231, 1235, 1239, 1244, 1248, 1252, 1255] : List Nat).filterMap (fun i => lw_tbl[i]?) := rfl
set_option maxRecDepth 100000 in
theorem et_kok4 : (et_k4.take 40).map et_mk = ([1258, 1266, 1270, 1275, 1283, 1287, 1290, 1294, 1298, 1306, 1312, 1316, 1320, 1328, 1401, 1411, 1415, 1419, 1423, 1428, 1432, 1436, 1658, 1662, 1666, 1670, 1673, 1676, 1680, 1684, 1688, 1692, 1696, 1700, 1704, 1707, 1711, 1715, 1719, 1723] : List Nat).filterMap (fun i => lw_tbl[i]?) := rfl
set_option maxRecDepth 100000 in
theorem et_kok5 : (et_k5.take 40).map et_mk = ([1727, 1731, 1735, 1739, 1743, 1747, 1751, 1755, 1759, 1763, 1767, 1771, 1775, 1779, 1783, 1787, 1791, 1795, 1799, 1803, 1807, 1811, 1815, 1819, 1822, 1826, 1830, 1833, 1837, 1841, 1845, 1849, 1853, 1857, 1862, 1866, 1870, 1874, 1878, 1882] : List Nat).filterMap (fun i => lw_tbl[i]?) := rfl
set_option maxRecDepth 100000 in
theorem et_kok6 : (et_k6.take 40).map et_mk = ([1886, 1890, 1894, 1898, 1902, 1906, 1909, 1912, 1915, 1918, 1922, 1927, 1931, 1935, 1939, 1943, 1947, 1951, 1955, 1959, 1963, 1967, 1971, 1975, 1979, 1983, 1988, 1992, 1996, 2000, 2004, 2008, 2012, 2016, 2020, 2024, 2028, 2032, 2036, 2040] : List Nat).filterMap (fun i => lw_tbl[i]?) := rfl
set_option maxRecDepth 100000 in
theorem et_kok7 : (et_k7.take 9).map et_mk = ([2044, 2048, 2052, 2056, 2060, 2064, 2068, 2072, 2076] : List Nat).filterMap (fun i => lw_tbl[i]?) := rfl
end ETD
