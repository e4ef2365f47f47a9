theorem ftA_st : ∀ i, i < 18 → Cond.stringRef RX6 (stIA i) (stT i) ∈ lw_tbl := fun i hi => List.mem_of_getElem? ((by decide +kernel : ∀ k, k < 18 → lw_tbl[[588, 717, 718, 724, 726, 719, 725, 666, 712, 667, 710, 653, 668, 711, 683, 705, 678, 700].getD k 0]? = some (Cond.stringRef RX6 (stIA k) (stT k))) i hi)
theorem ftB_st : ∀ i, i < 18 → Cond.stringRef RX12 (stIB i) (stT i) ∈ lw_tbl := fun i hi => List.mem_of_getElem? ((by decide +kernel : ∀ k, k < 18 → lw_tbl[[1536, 1588, 1589, 1611, 1613, 1606, 1612, 1568, 1601, 1569, 1599, 1559, 1570, 1600, 1577, 1587, 1576, 1586].getD k 0]? = some (Cond.stringRef RX12 (stIB k) (stT k))) i hi)
theorem lyX0 : ∀ w ∈ wsX00, w ∈ lw_tbl := fun w h => by
  obtain ⟨k, hk, rfl⟩ := List.mem_map.mp h
  exact List.mem_of_getElem? ((by decide +kernel : ∀ k, k < 13 → lw_tbl[[304, 306, 308, 310, 312, 314, 316, 318, 320, 322, 324, 326, 328].getD k 0]? = some (u_lay RX0 TX0 k)) k (List.mem_range.mp hk))
theorem lyX1 : ∀ w ∈ wsX10, w ∈ lw_tbl := fun w h => by
  obtain ⟨k, hk, rfl⟩ := List.mem_map.mp h
  exact List.mem_of_getElem? ((by decide +kernel : ∀ k, k < 7 → lw_tbl[[411, 413, 415, 417, 419, 421, 423].getD k 0]? = some (u_lay RX1 TX1 k)) k (List.mem_range.mp hk))
theorem lyX2 : ∀ w ∈ wsX20, w ∈ lw_tbl := fun w h => by
  obtain ⟨k, hk, rfl⟩ := List.mem_map.mp h
  exact List.mem_of_getElem? ((by decide +kernel : ∀ k, k < 4 → lw_tbl[[254, 256, 258, 260].getD k 0]? = some (u_lay RX2 TX2 k)) k (List.mem_range.mp hk))
theorem lyX3 : ∀ w ∈ wsX30, w ∈ lw_tbl := fun w h => by
  obtain ⟨k, hk, rfl⟩ := List.mem_map.mp h
  exact List.mem_of_getElem? ((by decide +kernel : ∀ k, k < 5 → lw_tbl[[377, 379, 381, 383, 385].getD k 0]? = some (u_lay RX3 TX3 k)) k (List.mem_range.mp hk))
theorem lyX4 : ∀ w ∈ wsX40, w ∈ lw_tbl := fun w h => by
  obtain ⟨k, hk, rfl⟩ := List.mem_map.mp h
  exact List.mem_of_getElem? ((by decide +kernel : ∀ k, k < 3 → lw_tbl[[483, 485, 487].getD k 0]? = some (u_lay RX4 TX4 k)) k (List.mem_range.mp hk))
theorem lyX5 : ∀ w ∈ wsX50, w ∈ lw_tbl := fun w h => by
  obtain ⟨k, hk, rfl⟩ := List.mem_map.mp h
  exact List.mem_of_getElem? ((by decide +kernel : ∀ k, k < 2 → lw_tbl[[193, 195].getD k 0]? = some (u_lay RX5 TX5 k)) k (List.mem_range.mp hk))
theorem lyX6 : ∀ w ∈ wsX60, w ∈ lw_tbl := fun w h => by
  obtain ⟨k, hk, rfl⟩ := List.mem_map.mp h
  exact List.mem_of_getElem? ((by decide +kernel : ∀ k, k < 7 → lw_tbl[[342, 344, 346, 348, 350, 352, 354].getD k 0]? = some (u_lay RX6 TX6 k)) k (List.mem_range.mp hk))
theorem lyX7 : ∀ w ∈ wsX70, w ∈ lw_tbl := fun w h => by
  obtain ⟨k, hk, rfl⟩ := List.mem_map.mp h
  exact List.mem_of_getElem? ((by decide +kernel : ∀ k, k < 6 → lw_tbl[[224, 226, 228, 230, 232, 234].getD k 0]? = some (u_lay RX7 TX7 k)) k (List.mem_range.mp hk))
theorem lyX8 : ∀ w ∈ wsX80, w ∈ lw_tbl := fun w h => by
  obtain ⟨k, hk, rfl⟩ := List.mem_map.mp h
  exact List.mem_of_getElem? ((by decide +kernel : ∀ k, k < 5 → lw_tbl[[463, 465, 467, 469, 471].getD k 0]? = some (u_lay RX8 TX8 k)) k (List.mem_range.mp hk))
theorem lyX9 : ∀ w ∈ wsX90, w ∈ lw_tbl := fun w h => by
  obtain ⟨k, hk, rfl⟩ := List.mem_map.mp h
  exact List.mem_of_getElem? ((by decide +kernel : ∀ k, k < 6 → lw_tbl[[439, 441, 443, 445, 447, 449].getD k 0]? = some (u_lay RX9 TX9 k)) k (List.mem_range.mp hk))
theorem lyX10 : ∀ w ∈ wsX100, w ∈ lw_tbl := fun w h => by
  obtain ⟨k, hk, rfl⟩ := List.mem_map.mp h
  exact List.mem_of_getElem? ((by decide +kernel : ∀ k, k < 2 → lw_tbl[[165, 167].getD k 0]? = some (u_lay RX10 TX10 k)) k (List.mem_range.mp hk))
theorem lyX11 : ∀ w ∈ wsX110, w ∈ lw_tbl := fun w h => by
  obtain ⟨k, hk, rfl⟩ := List.mem_map.mp h
  exact List.mem_of_getElem? ((by decide +kernel : ∀ k, k < 16 → lw_tbl[[506, 508, 510, 512, 514, 516, 518, 520, 522, 524, 526, 528, 530, 532, 534, 536].getD k 0]? = some (u_lay RX11 TX11 k)) k (List.mem_range.mp hk))
theorem lyX12 : ∀ w ∈ wsX120, w ∈ lw_tbl := fun w h => by
  obtain ⟨k, hk, rfl⟩ := List.mem_map.mp h
  exact List.mem_of_getElem? ((by decide +kernel : ∀ k, k < 57 → lw_tbl[[1375, 1377, 1379, 1381, 1383, 1385, 1387, 1389, 1391, 1393, 1395, 1397, 1399, 1401, 1403, 1405, 1407, 1409, 1411, 1413, 1415, 1417, 1419, 1421, 1423, 1425, 1427, 1429, 1431, 1433, 1435, 1437, 1439, 1441, 1443, 1445, 1447, 1449, 1451, 1453, 1455, 1457, 1459, 1461, 1463, 1465, 1467, 1469, 1471, 1473, 1475, 1477, 1479, 1481, 1483, 1485, 1487].getD k 0]? = some (u_lay RX12 TX12 k)) k (List.mem_range.mp hk))
theorem tb_1 : ∀ w ∈ tables_1_1, w ∈ lw_tbl := fun w h => List.mem_append_right (k2_sels lw_privs) (List.mem_append_left _ h)
theorem tb_2 : ∀ w ∈ tables_1_2, w ∈ lw_tbl := fun w h => List.mem_append_right (k2_sels lw_privs) (List.mem_append_right tables_1_1 (List.mem_append_left _ h))
theorem tb_3 : ∀ w ∈ tables_1_3, w ∈ lw_tbl := fun w h => List.mem_append_right (k2_sels lw_privs) (List.mem_append_right tables_1_1 (List.mem_append_right tables_1_2 (List.mem_append_left _ h)))
theorem tb_4 : ∀ w ∈ tables_1_4, w ∈ lw_tbl := fun w h => List.mem_append_right (k2_sels lw_privs) (List.mem_append_right tables_1_1 (List.mem_append_right tables_1_2 (List.mem_append_right tables_1_3 (List.mem_append_left _ h))))
theorem tb_5 : ∀ w ∈ tables_1_5, w ∈ lw_tbl := fun w h => List.mem_append_right (k2_sels lw_privs) (List.mem_append_right tables_1_1 (List.mem_append_right tables_1_2 (List.mem_append_right tables_1_3 (List.mem_append_right tables_1_4 (List.mem_append_left _ h)))))
theorem tb_6 : ∀ w ∈ tables_1_6, w ∈ lw_tbl := fun w h => List.mem_append_right (k2_sels lw_privs) (List.mem_append_right tables_1_1 (List.mem_append_right tables_1_2 (List.mem_append_right tables_1_3 (List.mem_append_right tables_1_4 (List.mem_append_right tables_1_5 (List.mem_append_left _ h))))))
theorem tb_7 : ∀ w ∈ tables_1_7, w ∈ lw_tbl := fun w h => List.mem_append_right (k2_sels lw_privs) (List.mem_append_right tables_1_1 (List.mem_append_right tables_1_2 (List.mem_append_right tables_1_3 (List.mem_append_right tables_1_4 (List.mem_append_right tables_1_5 (List.mem_append_right tables_1_6 (List.mem_append_left _ h)))))))
theorem tb_8 : ∀ w ∈ tables_1_8, w ∈ lw_tbl := fun w h => List.mem_append_right (k2_sels lw_privs) (List.mem_append_right tables_1_1 (List.mem_append_right tables_1_2 (List.mem_append_right tables_1_3 (List.mem_append_right tables_1_4 (List.mem_append_right tables_1_5 (List.mem_append_right tables_1_6 (List.mem_append_right tables_1_7 h)))))))
