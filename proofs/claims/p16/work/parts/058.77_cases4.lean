
noncomputable def lsL_c36 : List (Nat × Instr × Nat) := [(1442, .aload_n 1, 1), (1443, .aload_n 0, 1), (1444, .iload_n 3, 1), (1445, .iconst 1, 1), (1446, .iadd, 1), (1447, .iaload, 1), (1448, .aload_n 0, 1), (1449, .iload_n 3, 1), (1450, .iconst 2, 1), (1451, .iadd, 1), (1452, .iaload, 1), (1453, .aload_n 0, 1), (1454, .iload_n 3, 1), (1455, .iconst 3, 1), (1456, .iadd, 1), (1457, .iaload, 1), (1458, .invokevirtual 162, 3), (1461, .pop, 1), (1462, .aload_n 2, 1), (1463, .aload_n 0, 1), (1464, .iload_n 3, 1), (1465, .iconst 1, 1), (1466, .iadd, 1), (1467, .iaload, 1), (1468, .aload_n 0, 1), (1469, .iload_n 3, 1), (1470, .iconst 2, 1), (1471, .iadd, 1), (1472, .iaload, 1), (1473, .aload_n 0, 1), (1474, .iload_n 3, 1), (1475, .iconst 3, 1), (1476, .iadd, 1), (1477, .iaload, 1), (1478, .invokevirtual 165, 3), (1481, .pop, 1), (1482, .goto 574, 3)]
theorem dkL_c36 : dkAll cL_law lsL_c36 = true := dk_fast (by decide +kernel)
set_option maxHeartbeats 4000000 in
set_option maxRecDepth 100000 in
theorem law_c36 {p : Program} {l : Launch} {e : Env} {s : State} {m : MethodId} {below : List Frame} {meth : Method} {c : Code} {dC : Nat → ClassId} {dI : Nat → Nat → Nat} {b L : Nat} {xs : Nat → Int32} (hL : L ≤ 3072) (C0 : lw_At p s m meth c b L xs) (hz : nzA s) {sa sb sa2 sb2 : Nat → Nat} {zf : Value} (hTA : gz_ST RX6 stIA sa sb zf (fun q : Nat => s.heap.size ≤ q) s s.heap) (hTB : gz_ST RX12 stIB sa2 sb2 zf (fun q : Nat => s.heap.size ≤ q) s s.heap) {x0 hm n : Nat} (hn : 6 * n + 6 ≤ L) {H : Heap} {locs : List Loc} {ls : Array Slot} (hI : LInv dC dI s x0 hm H) (hS : va_S (fun q : Nat => s.heap.size ≤ q) s.heap H locs) (hl : lv_has ls 4 [(0, .ref b), (1, .ref x0), (2, .ref hm), (3, .int (nI (6 * n)))]) (next : ∀ (H : Heap) (locs : List Loc) (ls : Array Slot), LInv dC dI s x0 hm H → va_S (fun q : Nat => s.heap.size ≤ q) s.heap H locs → lv_has ls 4 [(0, .ref b), (1, .ref x0), (2, .ref hm), (3, .int (nI (6 * n)))] → W p l e room_1 s m #[Value.ref b] below meth c H locs (400 + (n + 1)) (40000 + 5 * (n + 1)) (lw_Z below #[Value.ref b] s) (F0 m 2056 ls [])) : W p l e room_1 s m #[Value.ref b] below meth c H locs (400 + n) (40000 + 5 * n) (lw_Z below #[Value.ref b] s) (F0 m 1442 ls []) := by
  obtain ⟨hx, hb, hr, hml, hown0, hts, hX, hbl, hlocks, hgv⟩ := id C0
  have hown : s.vm.findClass RL = some m.cls := hown0
  have hA : ∀ q : Nat, s.heap.size ≤ q → (fun q : Nat => s.heap.size ≤ q) q := fun _ h => h
  have hbA : ¬ (fun q : Nat => s.heap.size ≤ q) b := Nat.not_le.mpr hbl
  obtain ⟨ax, kx, vx, fx, gx, rx, mi, mr, km, fm, rfl, hK, hXI, hMI, hlen, hP, hD⟩ := hI
  refine lv_aload_n hx hb (dk_at dkL_c36 0 rfl) rfl (lv_at hl 1 rfl) ?_
  refine lw_arg hx hb hX hbl hbA hS hl (dk_at dkL_c36 1 rfl) (dk_at dkL_c36 2 rfl) (dk_at dkL_c36 3 rfl) (dk_at dkL_c36 4 rfl) (dk_at dkL_c36 5 rfl) 1 (by decide) (Nat.le_of_ble_eq_true rfl) hn hL (fun a1 ea1 => ?_)
  refine lw_arg hx hb hX hbl hbA hS hl (dk_at dkL_c36 6 rfl) (dk_at dkL_c36 7 rfl) (dk_at dkL_c36 8 rfl) (dk_at dkL_c36 9 rfl) (dk_at dkL_c36 10 rfl) 2 (by decide) (Nat.le_of_ble_eq_true rfl) hn hL (fun a2 ea2 => ?_)
  refine lw_arg hx hb hX hbl hbA hS hl (dk_at dkL_c36 11 rfl) (dk_at dkL_c36 12 rfl) (dk_at dkL_c36 13 rfl) (dk_at dkL_c36 14 rfl) (dk_at dkL_c36 15 rfl) 3 (by decide) (Nat.le_of_ble_eq_true rfl) hn hL (fun a3 ea3 => ?_)
  refine lw_cx (st := [.int a3, .int a2, .int a1, .ref (ax 0)]) (rest := []) ⟨hx, hb, hml, hown, hts⟩ (uX11_own l dC dI H.size ax kx vx fx gx rx hXI a1 a2 a3) (cwV 3 hts (gz_lV lm_291 lm_292 lm_293 lm_4 lm_290 lwGA goodGA) rfl rfl rfl hdV_X11_own_X11_3 ⟨Nat.le_of_ble_eq_true rfl, Nat.le_of_ble_eq_true rfl⟩) rfl rfl hl.1 (Nat.le_of_ble_eq_true rfl) (dk_at dkL_c36 16 rfl) (lw_rm (a := 0) (b := 0) hn hL (Nat.le_of_ble_eq_true rfl) (Nat.le_of_ble_eq_true rfl)) hz hK hP hD hS (fun rx9 ax2 kx2 vx2 fx2 gx2 rx2 H locs h0 hXI2 hrelx hK hP hD hS => ?_)
  refine lv_pop hx hb (dk_at dkL_c36 17 rfl) rfl ?_
  refine lv_aload_n hx hb (dk_at dkL_c36 18 rfl) rfl (lv_at hl 2 rfl) ?_
  refine lw_arg hx hb hX hbl hbA hS hl (dk_at dkL_c36 19 rfl) (dk_at dkL_c36 20 rfl) (dk_at dkL_c36 21 rfl) (dk_at dkL_c36 22 rfl) (dk_at dkL_c36 23 rfl) 1 (by decide) (Nat.le_of_ble_eq_true rfl) hn hL (fun a4 ea4 => ?_)
  refine lw_arg hx hb hX hbl hbA hS hl (dk_at dkL_c36 24 rfl) (dk_at dkL_c36 25 rfl) (dk_at dkL_c36 26 rfl) (dk_at dkL_c36 27 rfl) (dk_at dkL_c36 28 rfl) 2 (by decide) (Nat.le_of_ble_eq_true rfl) hn hL (fun a5 ea5 => ?_)
  refine lw_arg hx hb hX hbl hbA hS hl (dk_at dkL_c36 29 rfl) (dk_at dkL_c36 30 rfl) (dk_at dkL_c36 31 rfl) (dk_at dkL_c36 32 rfl) (dk_at dkL_c36 33 rfl) 3 (by decide) (Nat.le_of_ble_eq_true rfl) hn hL (fun a6 ea6 => ?_)
  refine lw_cm (st := [.int a6, .int a5, .int a4, .ref hm]) (rest := []) ⟨hx, hb, hml, hown, hts⟩ (uX12_own l dC dI H.size hm mi mr km fm hMI a4 a5 a6) (cwV 3 hts (gz_lV lm_295 lm_296 lm_297 lm_9 lm_294 lwGB goodGB) rfl rfl rfl hdV_X12_own_X12_3 ⟨Nat.le_of_ble_eq_true rfl, Nat.le_of_ble_eq_true rfl⟩) rfl rfl hl.1 (Nat.le_of_ble_eq_true rfl) (dk_at dkL_c36 34 rfl) (lw_rm2 (a := 0) (b := 0) (a2 := 0) (b2 := 0) hn hL (Nat.le_of_ble_eq_true rfl) (Nat.le_of_ble_eq_true rfl)) hK hP hD hS (fun rm9 mi2 fm2 H locs hMI2 hrelm hP hD hS => ?_)
  refine lv_pop hx hb (dk_at dkL_c36 35 rfl) rfl ?_
  refine lv_goto (tgt := 2056) hx hb (dk_at dkL_c36 36 rfl) (by decide) ?_
  have e90 : a4 = a1 := ea4.trans ea1.symm
  have e91 : a5 = a2 := ea5.trans ea2.symm
  have e92 : a6 = a3 := ea6.trans ea3.symm
  rw [e90, e91, e92] at hrelm
  have hN9 := pr_own hXI hMI hlen hrelx hrelm
  refine W.widen (k := 400 + (n + 1)) (n := 40000 + 5 * (n + 1)) (by omega) (by omega) ?_
  exact next _ _ _ ⟨ax2, kx2, vx2, fx2, gx2, rx2, mi2, mr, km, fm2, h0, hK, hXI2, hMI2, hN9.1, hP, hD⟩ hS hl
noncomputable def lsL_c37 : List (Nat × Instr × Nat) := [(1485, .aload_n 1, 1), (1486, .aload_n 0, 1), (1487, .iload_n 3, 1), (1488, .iconst 1, 1), (1489, .iadd, 1), (1490, .iaload, 1), (1491, .aload_n 0, 1), (1492, .iload_n 3, 1), (1493, .iconst 2, 1), (1494, .iadd, 1), (1495, .iaload, 1), (1496, .aload_n 0, 1), (1497, .iload_n 3, 1), (1498, .iconst 3, 1), (1499, .iadd, 1), (1500, .iaload, 1), (1501, .invokevirtual 166, 3), (1504, .pop, 1), (1505, .aload_n 2, 1), (1506, .aload_n 0, 1), (1507, .iload_n 3, 1), (1508, .iconst 1, 1), (1509, .iadd, 1), (1510, .iaload, 1), (1511, .aload_n 0, 1), (1512, .iload_n 3, 1), (1513, .iconst 2, 1), (1514, .iadd, 1), (1515, .iaload, 1), (1516, .aload_n 0, 1), (1517, .iload_n 3, 1), (1518, .iconst 3, 1), (1519, .iadd, 1), (1520, .iaload, 1), (1521, .invokevirtual 169, 3), (1524, .pop, 1), (1525, .goto 531, 3)]
theorem dkL_c37 : dkAll cL_law lsL_c37 = true := dk_fast (by decide +kernel)
set_option maxHeartbeats 4000000 in
set_option maxRecDepth 100000 in
theorem law_c37 {p : Program} {l : Launch} {e : Env} {s : State} {m : MethodId} {below : List Frame} {meth : Method} {c : Code} {dC : Nat → ClassId} {dI : Nat → Nat → Nat} {b L : Nat} {xs : Nat → Int32} (hL : L ≤ 3072) (C0 : lw_At p s m meth c b L xs) (hz : nzA s) {sa sb sa2 sb2 : Nat → Nat} {zf : Value} (hTA : gz_ST RX6 stIA sa sb zf (fun q : Nat => s.heap.size ≤ q) s s.heap) (hTB : gz_ST RX12 stIB sa2 sb2 zf (fun q : Nat => s.heap.size ≤ q) s s.heap) {x0 hm n : Nat} (hn : 6 * n + 6 ≤ L) {H : Heap} {locs : List Loc} {ls : Array Slot} (hI : LInv dC dI s x0 hm H) (hS : va_S (fun q : Nat => s.heap.size ≤ q) s.heap H locs) (hl : lv_has ls 4 [(0, .ref b), (1, .ref x0), (2, .ref hm), (3, .int (nI (6 * n)))]) (next : ∀ (H : Heap) (locs : List Loc) (ls : Array Slot), LInv dC dI s x0 hm H → va_S (fun q : Nat => s.heap.size ≤ q) s.heap H locs → lv_has ls 4 [(0, .ref b), (1, .ref x0), (2, .ref hm), (3, .int (nI (6 * n)))] → W p l e room_1 s m #[Value.ref b] below meth c H locs (400 + (n + 1)) (40000 + 5 * (n + 1)) (lw_Z below #[Value.ref b] s) (F0 m 2056 ls [])) : W p l e room_1 s m #[Value.ref b] below meth c H locs (400 + n) (40000 + 5 * n) (lw_Z below #[Value.ref b] s) (F0 m 1485 ls []) := by
  obtain ⟨hx, hb, hr, hml, hown0, hts, hX, hbl, hlocks, hgv⟩ := id C0
  have hown : s.vm.findClass RL = some m.cls := hown0
  have hA : ∀ q : Nat, s.heap.size ≤ q → (fun q : Nat => s.heap.size ≤ q) q := fun _ h => h
  have hbA : ¬ (fun q : Nat => s.heap.size ≤ q) b := Nat.not_le.mpr hbl
  obtain ⟨ax, kx, vx, fx, gx, rx, mi, mr, km, fm, rfl, hK, hXI, hMI, hlen, hP, hD⟩ := hI
  refine lv_aload_n hx hb (dk_at dkL_c37 0 rfl) rfl (lv_at hl 1 rfl) ?_
  refine lw_arg hx hb hX hbl hbA hS hl (dk_at dkL_c37 1 rfl) (dk_at dkL_c37 2 rfl) (dk_at dkL_c37 3 rfl) (dk_at dkL_c37 4 rfl) (dk_at dkL_c37 5 rfl) 1 (by decide) (Nat.le_of_ble_eq_true rfl) hn hL (fun a1 ea1 => ?_)
  refine lw_arg hx hb hX hbl hbA hS hl (dk_at dkL_c37 6 rfl) (dk_at dkL_c37 7 rfl) (dk_at dkL_c37 8 rfl) (dk_at dkL_c37 9 rfl) (dk_at dkL_c37 10 rfl) 2 (by decide) (Nat.le_of_ble_eq_true rfl) hn hL (fun a2 ea2 => ?_)
  refine lw_arg hx hb hX hbl hbA hS hl (dk_at dkL_c37 11 rfl) (dk_at dkL_c37 12 rfl) (dk_at dkL_c37 13 rfl) (dk_at dkL_c37 14 rfl) (dk_at dkL_c37 15 rfl) 3 (by decide) (Nat.le_of_ble_eq_true rfl) hn hL (fun a3 ea3 => ?_)
  refine lw_cx (st := [.int a3, .int a2, .int a1, .ref (ax 0)]) (rest := []) ⟨hx, hb, hml, hown, hts⟩ (uX11_apart l dC dI H.size ax kx vx fx gx rx hXI a1 a2 a3) (cwV 3 hts (gz_lV lm_299 lm_300 lm_301 lm_4 lm_298 lwGA goodGA) rfl rfl rfl hdV_X11_apart_X11_3 ⟨Nat.le_of_ble_eq_true rfl, Nat.le_of_ble_eq_true rfl⟩) rfl rfl hl.1 (Nat.le_of_ble_eq_true rfl) (dk_at dkL_c37 16 rfl) (lw_rm (a := 0) (b := 0) hn hL (Nat.le_of_ble_eq_true rfl) (Nat.le_of_ble_eq_true rfl)) hz hK hP hD hS (fun rx9 ax2 kx2 vx2 fx2 gx2 rx2 H locs h0 hXI2 hrelx hK hP hD hS => ?_)
  refine lv_pop hx hb (dk_at dkL_c37 17 rfl) rfl ?_
  refine lv_aload_n hx hb (dk_at dkL_c37 18 rfl) rfl (lv_at hl 2 rfl) ?_
  refine lw_arg hx hb hX hbl hbA hS hl (dk_at dkL_c37 19 rfl) (dk_at dkL_c37 20 rfl) (dk_at dkL_c37 21 rfl) (dk_at dkL_c37 22 rfl) (dk_at dkL_c37 23 rfl) 1 (by decide) (Nat.le_of_ble_eq_true rfl) hn hL (fun a4 ea4 => ?_)
  refine lw_arg hx hb hX hbl hbA hS hl (dk_at dkL_c37 24 rfl) (dk_at dkL_c37 25 rfl) (dk_at dkL_c37 26 rfl) (dk_at dkL_c37 27 rfl) (dk_at dkL_c37 28 rfl) 2 (by decide) (Nat.le_of_ble_eq_true rfl) hn hL (fun a5 ea5 => ?_)
  refine lw_arg hx hb hX hbl hbA hS hl (dk_at dkL_c37 29 rfl) (dk_at dkL_c37 30 rfl) (dk_at dkL_c37 31 rfl) (dk_at dkL_c37 32 rfl) (dk_at dkL_c37 33 rfl) 3 (by decide) (Nat.le_of_ble_eq_true rfl) hn hL (fun a6 ea6 => ?_)
  refine lw_cm (st := [.int a6, .int a5, .int a4, .ref hm]) (rest := []) ⟨hx, hb, hml, hown, hts⟩ (uX12_apart l dC dI H.size hm mi mr km fm hMI a4 a5 a6) (cwV 3 hts (gz_lV lm_303 lm_304 lm_305 lm_9 lm_302 lwGB goodGB) rfl rfl rfl hdV_X12_apart_X12_3 ⟨Nat.le_of_ble_eq_true rfl, Nat.le_of_ble_eq_true rfl⟩) rfl rfl hl.1 (Nat.le_of_ble_eq_true rfl) (dk_at dkL_c37 34 rfl) (lw_rm2 (a := 0) (b := 0) (a2 := 0) (b2 := 0) hn hL (Nat.le_of_ble_eq_true rfl) (Nat.le_of_ble_eq_true rfl)) hK hP hD hS (fun rm9 mi2 fm2 H locs hMI2 hrelm hP hD hS => ?_)
  refine lv_pop hx hb (dk_at dkL_c37 35 rfl) rfl ?_
  refine lv_goto (tgt := 2056) hx hb (dk_at dkL_c37 36 rfl) (by decide) ?_
  have e90 : a4 = a1 := ea4.trans ea1.symm
  have e91 : a5 = a2 := ea5.trans ea2.symm
  have e92 : a6 = a3 := ea6.trans ea3.symm
  rw [e90, e91, e92] at hrelm
  have hN9 := pr_apart hXI hMI hlen hrelx hrelm
  refine W.widen (k := 400 + (n + 1)) (n := 40000 + 5 * (n + 1)) (by omega) (by omega) ?_
  exact next _ _ _ ⟨ax2, kx2, vx2, fx2, gx2, rx2, mi2, mr, km, fm2, h0, hK, hXI2, hMI2, hN9.1, hP, hD⟩ hS hl
noncomputable def lsL_c38 : List (Nat × Instr × Nat) := [(1528, .aload_n 1, 1), (1529, .aload_n 0, 1), (1530, .iload_n 3, 1), (1531, .iconst 1, 1), (1532, .iadd, 1), (1533, .iaload, 1), (1534, .aload_n 0, 1), (1535, .iload_n 3, 1), (1536, .iconst 2, 1), (1537, .iadd, 1), (1538, .iaload, 1), (1539, .invokevirtual 170, 3), (1542, .pop, 1), (1543, .aload_n 2, 1), (1544, .aload_n 0, 1), (1545, .iload_n 3, 1), (1546, .iconst 1, 1), (1547, .iadd, 1), (1548, .iaload, 1), (1549, .aload_n 0, 1), (1550, .iload_n 3, 1), (1551, .iconst 2, 1), (1552, .iadd, 1), (1553, .iaload, 1), (1554, .invokevirtual 173, 3), (1557, .pop, 1), (1558, .goto 498, 3)]
theorem dkL_c38 : dkAll cL_law lsL_c38 = true := dk_fast (by decide +kernel)
set_option maxHeartbeats 4000000 in
set_option maxRecDepth 100000 in
theorem law_c38 {p : Program} {l : Launch} {e : Env} {s : State} {m : MethodId} {below : List Frame} {meth : Method} {c : Code} {dC : Nat → ClassId} {dI : Nat → Nat → Nat} {b L : Nat} {xs : Nat → Int32} (hL : L ≤ 3072) (C0 : lw_At p s m meth c b L xs) (hz : nzA s) {sa sb sa2 sb2 : Nat → Nat} {zf : Value} (hTA : gz_ST RX6 stIA sa sb zf (fun q : Nat => s.heap.size ≤ q) s s.heap) (hTB : gz_ST RX12 stIB sa2 sb2 zf (fun q : Nat => s.heap.size ≤ q) s s.heap) {x0 hm n : Nat} (hn : 6 * n + 6 ≤ L) {H : Heap} {locs : List Loc} {ls : Array Slot} (hI : LInv dC dI s x0 hm H) (hS : va_S (fun q : Nat => s.heap.size ≤ q) s.heap H locs) (hl : lv_has ls 4 [(0, .ref b), (1, .ref x0), (2, .ref hm), (3, .int (nI (6 * n)))]) (next : ∀ (H : Heap) (locs : List Loc) (ls : Array Slot), LInv dC dI s x0 hm H → va_S (fun q : Nat => s.heap.size ≤ q) s.heap H locs → lv_has ls 4 [(0, .ref b), (1, .ref x0), (2, .ref hm), (3, .int (nI (6 * n)))] → W p l e room_1 s m #[Value.ref b] below meth c H locs (400 + (n + 1)) (40000 + 5 * (n + 1)) (lw_Z below #[Value.ref b] s) (F0 m 2056 ls [])) : W p l e room_1 s m #[Value.ref b] below meth c H locs (400 + n) (40000 + 5 * n) (lw_Z below #[Value.ref b] s) (F0 m 1528 ls []) := by
  obtain ⟨hx, hb, hr, hml, hown0, hts, hX, hbl, hlocks, hgv⟩ := id C0
  have hown : s.vm.findClass RL = some m.cls := hown0
  have hA : ∀ q : Nat, s.heap.size ≤ q → (fun q : Nat => s.heap.size ≤ q) q := fun _ h => h
  have hbA : ¬ (fun q : Nat => s.heap.size ≤ q) b := Nat.not_le.mpr hbl
  obtain ⟨ax, kx, vx, fx, gx, rx, mi, mr, km, fm, rfl, hK, hXI, hMI, hlen, hP, hD⟩ := hI
  refine lv_aload_n hx hb (dk_at dkL_c38 0 rfl) rfl (lv_at hl 1 rfl) ?_
  refine lw_arg hx hb hX hbl hbA hS hl (dk_at dkL_c38 1 rfl) (dk_at dkL_c38 2 rfl) (dk_at dkL_c38 3 rfl) (dk_at dkL_c38 4 rfl) (dk_at dkL_c38 5 rfl) 1 (by decide) (Nat.le_of_ble_eq_true rfl) hn hL (fun a1 ea1 => ?_)
  refine lw_arg hx hb hX hbl hbA hS hl (dk_at dkL_c38 6 rfl) (dk_at dkL_c38 7 rfl) (dk_at dkL_c38 8 rfl) (dk_at dkL_c38 9 rfl) (dk_at dkL_c38 10 rfl) 2 (by decide) (Nat.le_of_ble_eq_true rfl) hn hL (fun a2 ea2 => ?_)
  refine lw_cx (st := [.int a2, .int a1, .ref (ax 0)]) (rest := []) ⟨hx, hb, hml, hown, hts⟩ (uX11_hang l dC dI H.size ax kx vx fx gx rx hXI a1 a2) (cwV 2 hts (gz_lV lm_307 lm_308 lm_309 lm_4 lm_306 lwGA goodGA) rfl rfl rfl hdV_X11_hang_X11_2 ⟨Nat.le_of_ble_eq_true rfl, Nat.le_of_ble_eq_true rfl⟩) rfl rfl hl.1 (Nat.le_of_ble_eq_true rfl) (dk_at dkL_c38 11 rfl) (lw_rm (a := 0) (b := 0) hn hL (Nat.le_of_ble_eq_true rfl) (Nat.le_of_ble_eq_true rfl)) hz hK hP hD hS (fun rx9 ax2 kx2 vx2 fx2 gx2 rx2 H locs h0 hXI2 hrelx hK hP hD hS => ?_)
  refine lv_pop hx hb (dk_at dkL_c38 12 rfl) rfl ?_
  refine lv_aload_n hx hb (dk_at dkL_c38 13 rfl) rfl (lv_at hl 2 rfl) ?_
  refine lw_arg hx hb hX hbl hbA hS hl (dk_at dkL_c38 14 rfl) (dk_at dkL_c38 15 rfl) (dk_at dkL_c38 16 rfl) (dk_at dkL_c38 17 rfl) (dk_at dkL_c38 18 rfl) 1 (by decide) (Nat.le_of_ble_eq_true rfl) hn hL (fun a3 ea3 => ?_)
  refine lw_arg hx hb hX hbl hbA hS hl (dk_at dkL_c38 19 rfl) (dk_at dkL_c38 20 rfl) (dk_at dkL_c38 21 rfl) (dk_at dkL_c38 22 rfl) (dk_at dkL_c38 23 rfl) 2 (by decide) (Nat.le_of_ble_eq_true rfl) hn hL (fun a4 ea4 => ?_)
  refine lw_cm (st := [.int a4, .int a3, .ref hm]) (rest := []) ⟨hx, hb, hml, hown, hts⟩ (uX12_hang l dC dI H.size hm mi mr km fm hMI a3 a4) (cwV 2 hts (gz_lV lm_311 lm_312 lm_313 lm_9 lm_310 lwGB goodGB) rfl rfl rfl hdV_X12_hang_X12_2 ⟨Nat.le_of_ble_eq_true rfl, Nat.le_of_ble_eq_true rfl⟩) rfl rfl hl.1 (Nat.le_of_ble_eq_true rfl) (dk_at dkL_c38 24 rfl) (lw_rm2 (a := 0) (b := 0) (a2 := 0) (b2 := 0) hn hL (Nat.le_of_ble_eq_true rfl) (Nat.le_of_ble_eq_true rfl)) hK hP hD hS (fun rm9 mi2 fm2 H locs hMI2 hrelm hP hD hS => ?_)
  refine lv_pop hx hb (dk_at dkL_c38 25 rfl) rfl ?_
  refine lv_goto (tgt := 2056) hx hb (dk_at dkL_c38 26 rfl) (by decide) ?_
  have e90 : a3 = a1 := ea3.trans ea1.symm
  have e91 : a4 = a2 := ea4.trans ea2.symm
  rw [e90, e91] at hrelm
  have hN9 := pr_hang hXI hMI hlen hrelx hrelm
  refine W.widen (k := 400 + (n + 1)) (n := 40000 + 5 * (n + 1)) (by omega) (by omega) ?_
  exact next _ _ _ ⟨ax2, kx2, vx2, fx2, gx2, rx2, mi2, mr, km, fm2, h0, hK, hXI2, hMI2, hN9.1, hP, hD⟩ hS hl
noncomputable def lsL_c39 : List (Nat × Instr × Nat) := [(1561, .aload_n 1, 1), (1562, .aload_n 0, 1), (1563, .iload_n 3, 1), (1564, .iconst 1, 1), (1565, .iadd, 1), (1566, .iaload, 1), (1567, .invokevirtual 174, 3), (1570, .pop, 1), (1571, .aload_n 2, 1), (1572, .aload_n 0, 1), (1573, .iload_n 3, 1), (1574, .iconst 1, 1), (1575, .iadd, 1), (1576, .iaload, 1), (1577, .invokevirtual 177, 3), (1580, .pop, 1), (1581, .goto 475, 3)]
theorem dkL_c39 : dkAll cL_law lsL_c39 = true := dk_fast (by decide +kernel)
set_option maxHeartbeats 4000000 in
set_option maxRecDepth 100000 in
theorem law_c39 {p : Program} {l : Launch} {e : Env} {s : State} {m : MethodId} {below : List Frame} {meth : Method} {c : Code} {dC : Nat → ClassId} {dI : Nat → Nat → Nat} {b L : Nat} {xs : Nat → Int32} (hL : L ≤ 3072) (C0 : lw_At p s m meth c b L xs) (hz : nzA s) {sa sb sa2 sb2 : Nat → Nat} {zf : Value} (hTA : gz_ST RX6 stIA sa sb zf (fun q : Nat => s.heap.size ≤ q) s s.heap) (hTB : gz_ST RX12 stIB sa2 sb2 zf (fun q : Nat => s.heap.size ≤ q) s s.heap) {x0 hm n : Nat} (hn : 6 * n + 6 ≤ L) {H : Heap} {locs : List Loc} {ls : Array Slot} (hI : LInv dC dI s x0 hm H) (hS : va_S (fun q : Nat => s.heap.size ≤ q) s.heap H locs) (hl : lv_has ls 4 [(0, .ref b), (1, .ref x0), (2, .ref hm), (3, .int (nI (6 * n)))]) (next : ∀ (H : Heap) (locs : List Loc) (ls : Array Slot), LInv dC dI s x0 hm H → va_S (fun q : Nat => s.heap.size ≤ q) s.heap H locs → lv_has ls 4 [(0, .ref b), (1, .ref x0), (2, .ref hm), (3, .int (nI (6 * n)))] → W p l e room_1 s m #[Value.ref b] below meth c H locs (400 + (n + 1)) (40000 + 5 * (n + 1)) (lw_Z below #[Value.ref b] s) (F0 m 2056 ls [])) : W p l e room_1 s m #[Value.ref b] below meth c H locs (400 + n) (40000 + 5 * n) (lw_Z below #[Value.ref b] s) (F0 m 1561 ls []) := by
  obtain ⟨hx, hb, hr, hml, hown0, hts, hX, hbl, hlocks, hgv⟩ := id C0
  have hown : s.vm.findClass RL = some m.cls := hown0
  have hA : ∀ q : Nat, s.heap.size ≤ q → (fun q : Nat => s.heap.size ≤ q) q := fun _ h => h
  have hbA : ¬ (fun q : Nat => s.heap.size ≤ q) b := Nat.not_le.mpr hbl
  obtain ⟨ax, kx, vx, fx, gx, rx, mi, mr, km, fm, rfl, hK, hXI, hMI, hlen, hP, hD⟩ := hI
  refine lv_aload_n hx hb (dk_at dkL_c39 0 rfl) rfl (lv_at hl 1 rfl) ?_
  refine lw_arg hx hb hX hbl hbA hS hl (dk_at dkL_c39 1 rfl) (dk_at dkL_c39 2 rfl) (dk_at dkL_c39 3 rfl) (dk_at dkL_c39 4 rfl) (dk_at dkL_c39 5 rfl) 1 (by decide) (Nat.le_of_ble_eq_true rfl) hn hL (fun a1 ea1 => ?_)
  refine lw_cx (st := [.int a1, .ref (ax 0)]) (rest := []) ⟨hx, hb, hml, hown, hts⟩ (uX11_telling l dC dI H.size ax kx vx fx gx rx hXI a1) (cwV 1 hts (gz_lV lm_315 lm_316 lm_317 lm_4 lm_314 lwGA goodGA) rfl rfl rfl hdV_X11_telling_X11_1 ⟨Nat.le_of_ble_eq_true rfl, Nat.le_of_ble_eq_true rfl⟩) rfl rfl hl.1 (Nat.le_of_ble_eq_true rfl) (dk_at dkL_c39 6 rfl) (lw_rm (a := 0) (b := 0) hn hL (Nat.le_of_ble_eq_true rfl) (Nat.le_of_ble_eq_true rfl)) hz hK hP hD hS (fun rx9 ax2 kx2 vx2 fx2 gx2 rx2 H locs h0 hXI2 hrelx hK hP hD hS => ?_)
  refine lv_pop hx hb (dk_at dkL_c39 7 rfl) rfl ?_
  refine lv_aload_n hx hb (dk_at dkL_c39 8 rfl) rfl (lv_at hl 2 rfl) ?_
  refine lw_arg hx hb hX hbl hbA hS hl (dk_at dkL_c39 9 rfl) (dk_at dkL_c39 10 rfl) (dk_at dkL_c39 11 rfl) (dk_at dkL_c39 12 rfl) (dk_at dkL_c39 13 rfl) 1 (by decide) (Nat.le_of_ble_eq_true rfl) hn hL (fun a2 ea2 => ?_)
  refine lw_cm (st := [.int a2, .ref hm]) (rest := []) ⟨hx, hb, hml, hown, hts⟩ (uX12_telling l dC dI H.size hm mi mr km fm hMI a2) (cwV 1 hts (gz_lV lm_319 lm_320 lm_321 lm_9 lm_318 lwGB goodGB) rfl rfl rfl hdV_X12_telling_X12_1 ⟨Nat.le_of_ble_eq_true rfl, Nat.le_of_ble_eq_true rfl⟩) rfl rfl hl.1 (Nat.le_of_ble_eq_true rfl) (dk_at dkL_c39 14 rfl) (lw_rm2 (a := 0) (b := 0) (a2 := 0) (b2 := 0) hn hL (Nat.le_of_ble_eq_true rfl) (Nat.le_of_ble_eq_true rfl)) hK hP hD hS (fun rm9 mi2 fm2 H locs hMI2 hrelm hP hD hS => ?_)
  refine lv_pop hx hb (dk_at dkL_c39 15 rfl) rfl ?_
  refine lv_goto (tgt := 2056) hx hb (dk_at dkL_c39 16 rfl) (by decide) ?_
  have e90 : a2 = a1 := ea2.trans ea1.symm
  rw [e90] at hrelm
  have hN9 := pr_telling hXI hMI hlen hrelx hrelm
  refine W.widen (k := 400 + (n + 1)) (n := 40000 + 5 * (n + 1)) (by omega) (by omega) ?_
  exact next _ _ _ ⟨ax2, kx2, vx2, fx2, gx2, rx2, mi2, mr, km, fm2, h0, hK, hXI2, hMI2, hN9.1, hP, hD⟩ hS hl
noncomputable def lsL_c40 : List (Nat × Instr × Nat) := [(1584, .aload_n 1, 1), (1585, .aload_n 0, 1), (1586, .iload_n 3, 1), (1587, .iconst 1, 1), (1588, .iadd, 1), (1589, .iaload, 1), (1590, .aload_n 0, 1), (1591, .iload_n 3, 1), (1592, .iconst 2, 1), (1593, .iadd, 1), (1594, .iaload, 1), (1595, .invokevirtual 178, 3), (1598, .pop, 1), (1599, .aload_n 2, 1), (1600, .aload_n 0, 1), (1601, .iload_n 3, 1), (1602, .iconst 1, 1), (1603, .iadd, 1), (1604, .iaload, 1), (1605, .aload_n 0, 1), (1606, .iload_n 3, 1), (1607, .iconst 2, 1), (1608, .iadd, 1), (1609, .iaload, 1), (1610, .invokevirtual 181, 3), (1613, .pop, 1), (1614, .goto 442, 3)]
theorem dkL_c40 : dkAll cL_law lsL_c40 = true := dk_fast (by decide +kernel)
set_option maxHeartbeats 4000000 in
set_option maxRecDepth 100000 in
theorem law_c40 {p : Program} {l : Launch} {e : Env} {s : State} {m : MethodId} {below : List Frame} {meth : Method} {c : Code} {dC : Nat → ClassId} {dI : Nat → Nat → Nat} {b L : Nat} {xs : Nat → Int32} (hL : L ≤ 3072) (C0 : lw_At p s m meth c b L xs) (hz : nzA s) {sa sb sa2 sb2 : Nat → Nat} {zf : Value} (hTA : gz_ST RX6 stIA sa sb zf (fun q : Nat => s.heap.size ≤ q) s s.heap) (hTB : gz_ST RX12 stIB sa2 sb2 zf (fun q : Nat => s.heap.size ≤ q) s s.heap) {x0 hm n : Nat} (hn : 6 * n + 6 ≤ L) {H : Heap} {locs : List Loc} {ls : Array Slot} (hI : LInv dC dI s x0 hm H) (hS : va_S (fun q : Nat => s.heap.size ≤ q) s.heap H locs) (hl : lv_has ls 4 [(0, .ref b), (1, .ref x0), (2, .ref hm), (3, .int (nI (6 * n)))]) (next : ∀ (H : Heap) (locs : List Loc) (ls : Array Slot), LInv dC dI s x0 hm H → va_S (fun q : Nat => s.heap.size ≤ q) s.heap H locs → lv_has ls 4 [(0, .ref b), (1, .ref x0), (2, .ref hm), (3, .int (nI (6 * n)))] → W p l e room_1 s m #[Value.ref b] below meth c H locs (400 + (n + 1)) (40000 + 5 * (n + 1)) (lw_Z below #[Value.ref b] s) (F0 m 2056 ls [])) : W p l e room_1 s m #[Value.ref b] below meth c H locs (400 + n) (40000 + 5 * n) (lw_Z below #[Value.ref b] s) (F0 m 1584 ls []) := by
  obtain ⟨hx, hb, hr, hml, hown0, hts, hX, hbl, hlocks, hgv⟩ := id C0
  have hown : s.vm.findClass RL = some m.cls := hown0
  have hA : ∀ q : Nat, s.heap.size ≤ q → (fun q : Nat => s.heap.size ≤ q) q := fun _ h => h
  have hbA : ¬ (fun q : Nat => s.heap.size ≤ q) b := Nat.not_le.mpr hbl
  obtain ⟨ax, kx, vx, fx, gx, rx, mi, mr, km, fm, rfl, hK, hXI, hMI, hlen, hP, hD⟩ := hI
  refine lv_aload_n hx hb (dk_at dkL_c40 0 rfl) rfl (lv_at hl 1 rfl) ?_
  refine lw_arg hx hb hX hbl hbA hS hl (dk_at dkL_c40 1 rfl) (dk_at dkL_c40 2 rfl) (dk_at dkL_c40 3 rfl) (dk_at dkL_c40 4 rfl) (dk_at dkL_c40 5 rfl) 1 (by decide) (Nat.le_of_ble_eq_true rfl) hn hL (fun a1 ea1 => ?_)
  refine lw_arg hx hb hX hbl hbA hS hl (dk_at dkL_c40 6 rfl) (dk_at dkL_c40 7 rfl) (dk_at dkL_c40 8 rfl) (dk_at dkL_c40 9 rfl) (dk_at dkL_c40 10 rfl) 2 (by decide) (Nat.le_of_ble_eq_true rfl) hn hL (fun a2 ea2 => ?_)
  refine lw_cx (st := [.int a2, .int a1, .ref (ax 0)]) (rest := []) ⟨hx, hb, hml, hown, hts⟩ (uX11_trusted l dC dI H.size ax kx vx fx gx rx hXI a1 a2) (cwV 2 hts (gz_lV lm_323 lm_324 lm_325 lm_4 lm_322 lwGA goodGA) rfl rfl rfl hdV_X11_trusted_X11_2 ⟨Nat.le_of_ble_eq_true rfl, Nat.le_of_ble_eq_true rfl⟩) rfl rfl hl.1 (Nat.le_of_ble_eq_true rfl) (dk_at dkL_c40 11 rfl) (lw_rm (a := 0) (b := 0) hn hL (Nat.le_of_ble_eq_true rfl) (Nat.le_of_ble_eq_true rfl)) hz hK hP hD hS (fun rx9 ax2 kx2 vx2 fx2 gx2 rx2 H locs h0 hXI2 hrelx hK hP hD hS => ?_)
  refine lv_pop hx hb (dk_at dkL_c40 12 rfl) rfl ?_
  refine lv_aload_n hx hb (dk_at dkL_c40 13 rfl) rfl (lv_at hl 2 rfl) ?_
  refine lw_arg hx hb hX hbl hbA hS hl (dk_at dkL_c40 14 rfl) (dk_at dkL_c40 15 rfl) (dk_at dkL_c40 16 rfl) (dk_at dkL_c40 17 rfl) (dk_at dkL_c40 18 rfl) 1 (by decide) (Nat.le_of_ble_eq_true rfl) hn hL (fun a3 ea3 => ?_)
  refine lw_arg hx hb hX hbl hbA hS hl (dk_at dkL_c40 19 rfl) (dk_at dkL_c40 20 rfl) (dk_at dkL_c40 21 rfl) (dk_at dkL_c40 22 rfl) (dk_at dkL_c40 23 rfl) 2 (by decide) (Nat.le_of_ble_eq_true rfl) hn hL (fun a4 ea4 => ?_)
  refine lw_cm (st := [.int a4, .int a3, .ref hm]) (rest := []) ⟨hx, hb, hml, hown, hts⟩ (uX12_trusted l dC dI H.size hm mi mr km fm hMI a3 a4) (cwV 2 hts (gz_lV lm_327 lm_328 lm_329 lm_9 lm_326 lwGB goodGB) rfl rfl rfl hdV_X12_trusted_X12_2 ⟨Nat.le_of_ble_eq_true rfl, Nat.le_of_ble_eq_true rfl⟩) rfl rfl hl.1 (Nat.le_of_ble_eq_true rfl) (dk_at dkL_c40 24 rfl) (lw_rm2 (a := 0) (b := 0) (a2 := 0) (b2 := 0) hn hL (Nat.le_of_ble_eq_true rfl) (Nat.le_of_ble_eq_true rfl)) hK hP hD hS (fun rm9 mi2 fm2 H locs hMI2 hrelm hP hD hS => ?_)
  refine lv_pop hx hb (dk_at dkL_c40 25 rfl) rfl ?_
  refine lv_goto (tgt := 2056) hx hb (dk_at dkL_c40 26 rfl) (by decide) ?_
  have e90 : a3 = a1 := ea3.trans ea1.symm
  have e91 : a4 = a2 := ea4.trans ea2.symm
  rw [e90, e91] at hrelm
  have hN9 := pr_trusted hXI hMI hlen hrelx hrelm
  refine W.widen (k := 400 + (n + 1)) (n := 40000 + 5 * (n + 1)) (by omega) (by omega) ?_
  exact next _ _ _ ⟨ax2, kx2, vx2, fx2, gx2, rx2, mi2, mr, km, fm2, h0, hK, hXI2, hMI2, hN9.1, hP, hD⟩ hS hl
noncomputable def lsL_c41 : List (Nat × Instr × Nat) := [(1617, .aload_n 1, 1), (1618, .aload_n 0, 1), (1619, .iload_n 3, 1), (1620, .iconst 1, 1), (1621, .iadd, 1), (1622, .iaload, 1), (1623, .aload_n 0, 1), (1624, .iload_n 3, 1), (1625, .iconst 2, 1), (1626, .iadd, 1), (1627, .iaload, 1), (1628, .invokevirtual 182, 3), (1631, .pop, 1), (1632, .aload_n 2, 1), (1633, .aload_n 0, 1), (1634, .iload_n 3, 1), (1635, .iconst 1, 1), (1636, .iadd, 1), (1637, .iaload, 1), (1638, .aload_n 0, 1), (1639, .iload_n 3, 1), (1640, .iconst 2, 1), (1641, .iadd, 1), (1642, .iaload, 1), (1643, .invokevirtual 185, 3), (1646, .pop, 1), (1647, .goto 409, 3)]
theorem dkL_c41 : dkAll cL_law lsL_c41 = true := dk_fast (by decide +kernel)
set_option maxHeartbeats 4000000 in
set_option maxRecDepth 100000 in
theorem law_c41 {p : Program} {l : Launch} {e : Env} {s : State} {m : MethodId} {below : List Frame} {meth : Method} {c : Code} {dC : Nat → ClassId} {dI : Nat → Nat → Nat} {b L : Nat} {xs : Nat → Int32} (hL : L ≤ 3072) (C0 : lw_At p s m meth c b L xs) (hz : nzA s) {sa sb sa2 sb2 : Nat → Nat} {zf : Value} (hTA : gz_ST RX6 stIA sa sb zf (fun q : Nat => s.heap.size ≤ q) s s.heap) (hTB : gz_ST RX12 stIB sa2 sb2 zf (fun q : Nat => s.heap.size ≤ q) s s.heap) {x0 hm n : Nat} (hn : 6 * n + 6 ≤ L) {H : Heap} {locs : List Loc} {ls : Array Slot} (hI : LInv dC dI s x0 hm H) (hS : va_S (fun q : Nat => s.heap.size ≤ q) s.heap H locs) (hl : lv_has ls 4 [(0, .ref b), (1, .ref x0), (2, .ref hm), (3, .int (nI (6 * n)))]) (next : ∀ (H : Heap) (locs : List Loc) (ls : Array Slot), LInv dC dI s x0 hm H → va_S (fun q : Nat => s.heap.size ≤ q) s.heap H locs → lv_has ls 4 [(0, .ref b), (1, .ref x0), (2, .ref hm), (3, .int (nI (6 * n)))] → W p l e room_1 s m #[Value.ref b] below meth c H locs (400 + (n + 1)) (40000 + 5 * (n + 1)) (lw_Z below #[Value.ref b] s) (F0 m 2056 ls [])) : W p l e room_1 s m #[Value.ref b] below meth c H locs (400 + n) (40000 + 5 * n) (lw_Z below #[Value.ref b] s) (F0 m 1617 ls []) := by
  obtain ⟨hx, hb, hr, hml, hown0, hts, hX, hbl, hlocks, hgv⟩ := id C0
  have hown : s.vm.findClass RL = some m.cls := hown0
  have hA : ∀ q : Nat, s.heap.size ≤ q → (fun q : Nat => s.heap.size ≤ q) q := fun _ h => h
  have hbA : ¬ (fun q : Nat => s.heap.size ≤ q) b := Nat.not_le.mpr hbl
  obtain ⟨ax, kx, vx, fx, gx, rx, mi, mr, km, fm, rfl, hK, hXI, hMI, hlen, hP, hD⟩ := hI
  refine lv_aload_n hx hb (dk_at dkL_c41 0 rfl) rfl (lv_at hl 1 rfl) ?_
  refine lw_arg hx hb hX hbl hbA hS hl (dk_at dkL_c41 1 rfl) (dk_at dkL_c41 2 rfl) (dk_at dkL_c41 3 rfl) (dk_at dkL_c41 4 rfl) (dk_at dkL_c41 5 rfl) 1 (by decide) (Nat.le_of_ble_eq_true rfl) hn hL (fun a1 ea1 => ?_)
  refine lw_arg hx hb hX hbl hbA hS hl (dk_at dkL_c41 6 rfl) (dk_at dkL_c41 7 rfl) (dk_at dkL_c41 8 rfl) (dk_at dkL_c41 9 rfl) (dk_at dkL_c41 10 rfl) 2 (by decide) (Nat.le_of_ble_eq_true rfl) hn hL (fun a2 ea2 => ?_)
  refine lw_cx (st := [.int a2, .int a1, .ref (ax 0)]) (rest := []) ⟨hx, hb, hml, hown, hts⟩ (uX11_days l dC dI H.size ax kx vx fx gx rx hXI a1 a2) (cwV 2 hts (gz_lV lm_331 lm_332 lm_333 lm_4 lm_330 lwGA goodGA) rfl rfl rfl hdV_X11_days_X11_2 ⟨Nat.le_of_ble_eq_true rfl, Nat.le_of_ble_eq_true rfl⟩) rfl rfl hl.1 (Nat.le_of_ble_eq_true rfl) (dk_at dkL_c41 11 rfl) (lw_rm (a := 0) (b := 0) hn hL (Nat.le_of_ble_eq_true rfl) (Nat.le_of_ble_eq_true rfl)) hz hK hP hD hS (fun rx9 ax2 kx2 vx2 fx2 gx2 rx2 H locs h0 hXI2 hrelx hK hP hD hS => ?_)
  refine lv_pop hx hb (dk_at dkL_c41 12 rfl) rfl ?_
  refine lv_aload_n hx hb (dk_at dkL_c41 13 rfl) rfl (lv_at hl 2 rfl) ?_
  refine lw_arg hx hb hX hbl hbA hS hl (dk_at dkL_c41 14 rfl) (dk_at dkL_c41 15 rfl) (dk_at dkL_c41 16 rfl) (dk_at dkL_c41 17 rfl) (dk_at dkL_c41 18 rfl) 1 (by decide) (Nat.le_of_ble_eq_true rfl) hn hL (fun a3 ea3 => ?_)
  refine lw_arg hx hb hX hbl hbA hS hl (dk_at dkL_c41 19 rfl) (dk_at dkL_c41 20 rfl) (dk_at dkL_c41 21 rfl) (dk_at dkL_c41 22 rfl) (dk_at dkL_c41 23 rfl) 2 (by decide) (Nat.le_of_ble_eq_true rfl) hn hL (fun a4 ea4 => ?_)
  refine lw_cm (st := [.int a4, .int a3, .ref hm]) (rest := []) ⟨hx, hb, hml, hown, hts⟩ (uX12_days l dC dI H.size hm mi mr km fm hMI a3 a4) (cwV 2 hts (gz_lV lm_335 lm_336 lm_337 lm_9 lm_334 lwGB goodGB) rfl rfl rfl hdV_X12_days_X12_2 ⟨Nat.le_of_ble_eq_true rfl, Nat.le_of_ble_eq_true rfl⟩) rfl rfl hl.1 (Nat.le_of_ble_eq_true rfl) (dk_at dkL_c41 24 rfl) (lw_rm2 (a := 0) (b := 0) (a2 := 0) (b2 := 0) hn hL (Nat.le_of_ble_eq_true rfl) (Nat.le_of_ble_eq_true rfl)) hK hP hD hS (fun rm9 mi2 fm2 H locs hMI2 hrelm hP hD hS => ?_)
  refine lv_pop hx hb (dk_at dkL_c41 25 rfl) rfl ?_
  refine lv_goto (tgt := 2056) hx hb (dk_at dkL_c41 26 rfl) (by decide) ?_
  have e90 : a3 = a1 := ea3.trans ea1.symm
  have e91 : a4 = a2 := ea4.trans ea2.symm
  rw [e90, e91] at hrelm
  have hN9 := pr_days hXI hMI hlen hrelx hrelm
  refine W.widen (k := 400 + (n + 1)) (n := 40000 + 5 * (n + 1)) (by omega) (by omega) ?_
  exact next _ _ _ ⟨ax2, kx2, vx2, fx2, gx2, rx2, mi2, mr, km, fm2, h0, hK, hXI2, hMI2, hN9.1, hP, hD⟩ hS hl
noncomputable def lsL_c42 : List (Nat × Instr × Nat) := [(1650, .aload_n 1, 1), (1651, .aload_n 0, 1), (1652, .iload_n 3, 1), (1653, .iconst 1, 1), (1654, .iadd, 1), (1655, .iaload, 1), (1656, .aload_n 0, 1), (1657, .iload_n 3, 1), (1658, .iconst 2, 1), (1659, .iadd, 1), (1660, .iaload, 1), (1661, .aload_n 0, 1), (1662, .iload_n 3, 1), (1663, .iconst 3, 1), (1664, .iadd, 1), (1665, .iaload, 1), (1666, .aload_n 0, 1), (1667, .iload_n 3, 1), (1668, .iconst 4, 1), (1669, .iadd, 1), (1670, .iaload, 1), (1671, .invokevirtual 186, 3), (1674, .pop, 1), (1675, .aload_n 2, 1), (1676, .aload_n 0, 1), (1677, .iload_n 3, 1), (1678, .iconst 1, 1), (1679, .iadd, 1), (1680, .iaload, 1), (1681, .aload_n 0, 1), (1682, .iload_n 3, 1), (1683, .iconst 2, 1), (1684, .iadd, 1), (1685, .iaload, 1), (1686, .aload_n 0, 1), (1687, .iload_n 3, 1), (1688, .iconst 3, 1), (1689, .iadd, 1), (1690, .iaload, 1), (1691, .aload_n 0, 1), (1692, .iload_n 3, 1), (1693, .iconst 4, 1), (1694, .iadd, 1), (1695, .iaload, 1), (1696, .invokevirtual 190, 3), (1699, .pop, 1), (1700, .goto 356, 3)]
theorem dkL_c42 : dkAll cL_law lsL_c42 = true := dk_fast (by decide +kernel)
set_option maxHeartbeats 4000000 in
set_option maxRecDepth 100000 in
theorem law_c42 {p : Program} {l : Launch} {e : Env} {s : State} {m : MethodId} {below : List Frame} {meth : Method} {c : Code} {dC : Nat → ClassId} {dI : Nat → Nat → Nat} {b L : Nat} {xs : Nat → Int32} (hL : L ≤ 3072) (C0 : lw_At p s m meth c b L xs) (hz : nzA s) {sa sb sa2 sb2 : Nat → Nat} {zf : Value} (hTA : gz_ST RX6 stIA sa sb zf (fun q : Nat => s.heap.size ≤ q) s s.heap) (hTB : gz_ST RX12 stIB sa2 sb2 zf (fun q : Nat => s.heap.size ≤ q) s s.heap) {x0 hm n : Nat} (hn : 6 * n + 6 ≤ L) {H : Heap} {locs : List Loc} {ls : Array Slot} (hI : LInv dC dI s x0 hm H) (hS : va_S (fun q : Nat => s.heap.size ≤ q) s.heap H locs) (hl : lv_has ls 4 [(0, .ref b), (1, .ref x0), (2, .ref hm), (3, .int (nI (6 * n)))]) (next : ∀ (H : Heap) (locs : List Loc) (ls : Array Slot), LInv dC dI s x0 hm H → va_S (fun q : Nat => s.heap.size ≤ q) s.heap H locs → lv_has ls 4 [(0, .ref b), (1, .ref x0), (2, .ref hm), (3, .int (nI (6 * n)))] → W p l e room_1 s m #[Value.ref b] below meth c H locs (400 + (n + 1)) (40000 + 5 * (n + 1)) (lw_Z below #[Value.ref b] s) (F0 m 2056 ls [])) : W p l e room_1 s m #[Value.ref b] below meth c H locs (400 + n) (40000 + 5 * n) (lw_Z below #[Value.ref b] s) (F0 m 1650 ls []) := by
  obtain ⟨hx, hb, hr, hml, hown0, hts, hX, hbl, hlocks, hgv⟩ := id C0
  have hown : s.vm.findClass RL = some m.cls := hown0
  have hA : ∀ q : Nat, s.heap.size ≤ q → (fun q : Nat => s.heap.size ≤ q) q := fun _ h => h
  have hbA : ¬ (fun q : Nat => s.heap.size ≤ q) b := Nat.not_le.mpr hbl
  obtain ⟨ax, kx, vx, fx, gx, rx, mi, mr, km, fm, rfl, hK, hXI, hMI, hlen, hP, hD⟩ := hI
  refine lv_aload_n hx hb (dk_at dkL_c42 0 rfl) rfl (lv_at hl 1 rfl) ?_
  refine lw_arg hx hb hX hbl hbA hS hl (dk_at dkL_c42 1 rfl) (dk_at dkL_c42 2 rfl) (dk_at dkL_c42 3 rfl) (dk_at dkL_c42 4 rfl) (dk_at dkL_c42 5 rfl) 1 (by decide) (Nat.le_of_ble_eq_true rfl) hn hL (fun a1 ea1 => ?_)
  refine lw_arg hx hb hX hbl hbA hS hl (dk_at dkL_c42 6 rfl) (dk_at dkL_c42 7 rfl) (dk_at dkL_c42 8 rfl) (dk_at dkL_c42 9 rfl) (dk_at dkL_c42 10 rfl) 2 (by decide) (Nat.le_of_ble_eq_true rfl) hn hL (fun a2 ea2 => ?_)
  refine lw_arg hx hb hX hbl hbA hS hl (dk_at dkL_c42 11 rfl) (dk_at dkL_c42 12 rfl) (dk_at dkL_c42 13 rfl) (dk_at dkL_c42 14 rfl) (dk_at dkL_c42 15 rfl) 3 (by decide) (Nat.le_of_ble_eq_true rfl) hn hL (fun a3 ea3 => ?_)
  refine lw_arg hx hb hX hbl hbA hS hl (dk_at dkL_c42 16 rfl) (dk_at dkL_c42 17 rfl) (dk_at dkL_c42 18 rfl) (dk_at dkL_c42 19 rfl) (dk_at dkL_c42 20 rfl) 4 (by decide) (Nat.le_of_ble_eq_true rfl) hn hL (fun a4 ea4 => ?_)
  refine lw_cx (st := [.int a4, .int a3, .int a2, .int a1, .ref (ax 0)]) (rest := []) ⟨hx, hb, hml, hown, hts⟩ (uX11_weekday l dC dI H.size ax kx vx fx gx rx hXI a1 a2 a3 a4) (cwV 4 hts (gz_lV lm_339 lm_340 lm_341 lm_4 lm_338 lwGA goodGA) rfl rfl rfl hdV_X11_weekday_X11_4 ⟨Nat.le_of_ble_eq_true rfl, Nat.le_of_ble_eq_true rfl⟩) rfl rfl hl.1 (Nat.le_of_ble_eq_true rfl) (dk_at dkL_c42 21 rfl) (lw_rm (a := 0) (b := 0) hn hL (Nat.le_of_ble_eq_true rfl) (Nat.le_of_ble_eq_true rfl)) hz hK hP hD hS (fun rx9 ax2 kx2 vx2 fx2 gx2 rx2 H locs h0 hXI2 hrelx hK hP hD hS => ?_)
  refine lv_pop hx hb (dk_at dkL_c42 22 rfl) rfl ?_
  refine lv_aload_n hx hb (dk_at dkL_c42 23 rfl) rfl (lv_at hl 2 rfl) ?_
  refine lw_arg hx hb hX hbl hbA hS hl (dk_at dkL_c42 24 rfl) (dk_at dkL_c42 25 rfl) (dk_at dkL_c42 26 rfl) (dk_at dkL_c42 27 rfl) (dk_at dkL_c42 28 rfl) 1 (by decide) (Nat.le_of_ble_eq_true rfl) hn hL (fun a5 ea5 => ?_)
  refine lw_arg hx hb hX hbl hbA hS hl (dk_at dkL_c42 29 rfl) (dk_at dkL_c42 30 rfl) (dk_at dkL_c42 31 rfl) (dk_at dkL_c42 32 rfl) (dk_at dkL_c42 33 rfl) 2 (by decide) (Nat.le_of_ble_eq_true rfl) hn hL (fun a6 ea6 => ?_)
  refine lw_arg hx hb hX hbl hbA hS hl (dk_at dkL_c42 34 rfl) (dk_at dkL_c42 35 rfl) (dk_at dkL_c42 36 rfl) (dk_at dkL_c42 37 rfl) (dk_at dkL_c42 38 rfl) 3 (by decide) (Nat.le_of_ble_eq_true rfl) hn hL (fun a7 ea7 => ?_)
  refine lw_arg hx hb hX hbl hbA hS hl (dk_at dkL_c42 39 rfl) (dk_at dkL_c42 40 rfl) (dk_at dkL_c42 41 rfl) (dk_at dkL_c42 42 rfl) (dk_at dkL_c42 43 rfl) 4 (by decide) (Nat.le_of_ble_eq_true rfl) hn hL (fun a8 ea8 => ?_)
  refine lw_cm (st := [.int a8, .int a7, .int a6, .int a5, .ref hm]) (rest := []) ⟨hx, hb, hml, hown, hts⟩ (uX12_weekday l dC dI H.size hm mi mr km fm hMI a5 a6 a7 a8) (cwV 4 hts (gz_lV lm_343 lm_344 lm_345 lm_9 lm_342 lwGB goodGB) rfl rfl rfl hdV_X12_weekday_X12_4 ⟨Nat.le_of_ble_eq_true rfl, Nat.le_of_ble_eq_true rfl⟩) rfl rfl hl.1 (Nat.le_of_ble_eq_true rfl) (dk_at dkL_c42 44 rfl) (lw_rm2 (a := 0) (b := 0) (a2 := 0) (b2 := 0) hn hL (Nat.le_of_ble_eq_true rfl) (Nat.le_of_ble_eq_true rfl)) hK hP hD hS (fun rm9 mi2 fm2 H locs hMI2 hrelm hP hD hS => ?_)
  refine lv_pop hx hb (dk_at dkL_c42 45 rfl) rfl ?_
  refine lv_goto (tgt := 2056) hx hb (dk_at dkL_c42 46 rfl) (by decide) ?_
  have e90 : a5 = a1 := ea5.trans ea1.symm
  have e91 : a6 = a2 := ea6.trans ea2.symm
  have e92 : a7 = a3 := ea7.trans ea3.symm
  have e93 : a8 = a4 := ea8.trans ea4.symm
  rw [e90, e91, e92, e93] at hrelm
  have hN9 := pr_weekday hXI hMI hlen hrelx hrelm
  refine W.widen (k := 400 + (n + 1)) (n := 40000 + 5 * (n + 1)) (by omega) (by omega) ?_
  exact next _ _ _ ⟨ax2, kx2, vx2, fx2, gx2, rx2, mi2, mr, km, fm2, h0, hK, hXI2, hMI2, hN9, hP, hD⟩ hS hl
noncomputable def lsL_c43 : List (Nat × Instr × Nat) := [(1703, .aload_n 1, 1), (1704, .aload_n 0, 1), (1705, .iload_n 3, 1), (1706, .iconst 1, 1), (1707, .iadd, 1), (1708, .iaload, 1), (1709, .invokevirtual 191, 3), (1712, .pop, 1), (1713, .aload_n 2, 1), (1714, .aload_n 0, 1), (1715, .iload_n 3, 1), (1716, .iconst 1, 1), (1717, .iadd, 1), (1718, .iaload, 1), (1719, .invokevirtual 194, 3), (1722, .pop, 1), (1723, .goto 333, 3)]
theorem dkL_c43 : dkAll cL_law lsL_c43 = true := dk_fast (by decide +kernel)
set_option maxHeartbeats 4000000 in
set_option maxRecDepth 100000 in
theorem law_c43 {p : Program} {l : Launch} {e : Env} {s : State} {m : MethodId} {below : List Frame} {meth : Method} {c : Code} {dC : Nat → ClassId} {dI : Nat → Nat → Nat} {b L : Nat} {xs : Nat → Int32} (hL : L ≤ 3072) (C0 : lw_At p s m meth c b L xs) (hz : nzA s) {sa sb sa2 sb2 : Nat → Nat} {zf : Value} (hTA : gz_ST RX6 stIA sa sb zf (fun q : Nat => s.heap.size ≤ q) s s.heap) (hTB : gz_ST RX12 stIB sa2 sb2 zf (fun q : Nat => s.heap.size ≤ q) s s.heap) {x0 hm n : Nat} (hn : 6 * n + 6 ≤ L) {H : Heap} {locs : List Loc} {ls : Array Slot} (hI : LInv dC dI s x0 hm H) (hS : va_S (fun q : Nat => s.heap.size ≤ q) s.heap H locs) (hl : lv_has ls 4 [(0, .ref b), (1, .ref x0), (2, .ref hm), (3, .int (nI (6 * n)))]) (next : ∀ (H : Heap) (locs : List Loc) (ls : Array Slot), LInv dC dI s x0 hm H → va_S (fun q : Nat => s.heap.size ≤ q) s.heap H locs → lv_has ls 4 [(0, .ref b), (1, .ref x0), (2, .ref hm), (3, .int (nI (6 * n)))] → W p l e room_1 s m #[Value.ref b] below meth c H locs (400 + (n + 1)) (40000 + 5 * (n + 1)) (lw_Z below #[Value.ref b] s) (F0 m 2056 ls [])) : W p l e room_1 s m #[Value.ref b] below meth c H locs (400 + n) (40000 + 5 * n) (lw_Z below #[Value.ref b] s) (F0 m 1703 ls []) := by
  obtain ⟨hx, hb, hr, hml, hown0, hts, hX, hbl, hlocks, hgv⟩ := id C0
  have hown : s.vm.findClass RL = some m.cls := hown0
  have hA : ∀ q : Nat, s.heap.size ≤ q → (fun q : Nat => s.heap.size ≤ q) q := fun _ h => h
  have hbA : ¬ (fun q : Nat => s.heap.size ≤ q) b := Nat.not_le.mpr hbl
  obtain ⟨ax, kx, vx, fx, gx, rx, mi, mr, km, fm, rfl, hK, hXI, hMI, hlen, hP, hD⟩ := hI
  refine lv_aload_n hx hb (dk_at dkL_c43 0 rfl) rfl (lv_at hl 1 rfl) ?_
  refine lw_arg hx hb hX hbl hbA hS hl (dk_at dkL_c43 1 rfl) (dk_at dkL_c43 2 rfl) (dk_at dkL_c43 3 rfl) (dk_at dkL_c43 4 rfl) (dk_at dkL_c43 5 rfl) 1 (by decide) (Nat.le_of_ble_eq_true rfl) hn hL (fun a1 ea1 => ?_)
  refine lw_cx (st := [.int a1, .ref (ax 0)]) (rest := []) ⟨hx, hb, hml, hown, hts⟩ (uX11_later l dC dI H.size ax kx vx fx gx rx hXI a1) (cwV 1 hts (gz_lV lm_347 lm_348 lm_349 lm_4 lm_346 lwGA goodGA) rfl rfl rfl hdV_X11_later_X11_1 ⟨Nat.le_of_ble_eq_true rfl, Nat.le_of_ble_eq_true rfl⟩) rfl rfl hl.1 (Nat.le_of_ble_eq_true rfl) (dk_at dkL_c43 6 rfl) (lw_rm (a := 0) (b := 0) hn hL (Nat.le_of_ble_eq_true rfl) (Nat.le_of_ble_eq_true rfl)) hz hK hP hD hS (fun rx9 ax2 kx2 vx2 fx2 gx2 rx2 H locs h0 hXI2 hrelx hK hP hD hS => ?_)
  refine lv_pop hx hb (dk_at dkL_c43 7 rfl) rfl ?_
  refine lv_aload_n hx hb (dk_at dkL_c43 8 rfl) rfl (lv_at hl 2 rfl) ?_
  refine lw_arg hx hb hX hbl hbA hS hl (dk_at dkL_c43 9 rfl) (dk_at dkL_c43 10 rfl) (dk_at dkL_c43 11 rfl) (dk_at dkL_c43 12 rfl) (dk_at dkL_c43 13 rfl) 1 (by decide) (Nat.le_of_ble_eq_true rfl) hn hL (fun a2 ea2 => ?_)
  refine lw_cm (st := [.int a2, .ref hm]) (rest := []) ⟨hx, hb, hml, hown, hts⟩ (uX12_later l dC dI H.size hm mi mr km fm hMI a2) (cwV 1 hts (gz_lV lm_351 lm_352 lm_353 lm_9 lm_350 lwGB goodGB) rfl rfl rfl hdV_X12_later_X12_1 ⟨Nat.le_of_ble_eq_true rfl, Nat.le_of_ble_eq_true rfl⟩) rfl rfl hl.1 (Nat.le_of_ble_eq_true rfl) (dk_at dkL_c43 14 rfl) (lw_rm2 (a := 0) (b := 0) (a2 := 0) (b2 := 0) hn hL (Nat.le_of_ble_eq_true rfl) (Nat.le_of_ble_eq_true rfl)) hK hP hD hS (fun rm9 mi2 fm2 H locs hMI2 hrelm hP hD hS => ?_)
  refine lv_pop hx hb (dk_at dkL_c43 15 rfl) rfl ?_
  refine lv_goto (tgt := 2056) hx hb (dk_at dkL_c43 16 rfl) (by decide) ?_
  have e90 : a2 = a1 := ea2.trans ea1.symm
  rw [e90] at hrelm
  have hN9 := pr_later hXI hMI hlen hrelx hrelm
  refine W.widen (k := 400 + (n + 1)) (n := 40000 + 5 * (n + 1)) (by omega) (by omega) ?_
  exact next _ _ _ ⟨ax2, kx2, vx2, fx2, gx2, rx2, mi2, mr, km, fm2, h0, hK, hXI2, hMI2, hN9.1, hP, hD⟩ hS hl
noncomputable def lsL_c44 : List (Nat × Instr × Nat) := [(1726, .aload_n 1, 1), (1727, .aload_n 0, 1), (1728, .iload_n 3, 1), (1729, .iconst 1, 1), (1730, .iadd, 1), (1731, .iaload, 1), (1732, .aload_n 0, 1), (1733, .iload_n 3, 1), (1734, .iconst 2, 1), (1735, .iadd, 1), (1736, .iaload, 1), (1737, .invokevirtual 195, 3), (1740, .pop, 1), (1741, .aload_n 2, 1), (1742, .aload_n 0, 1), (1743, .iload_n 3, 1), (1744, .iconst 1, 1), (1745, .iadd, 1), (1746, .iaload, 1), (1747, .aload_n 0, 1), (1748, .iload_n 3, 1), (1749, .iconst 2, 1), (1750, .iadd, 1), (1751, .iaload, 1), (1752, .invokevirtual 198, 3), (1755, .pop, 1), (1756, .goto 300, 3)]
theorem dkL_c44 : dkAll cL_law lsL_c44 = true := dk_fast (by decide +kernel)
set_option maxHeartbeats 4000000 in
set_option maxRecDepth 100000 in
theorem law_c44 {p : Program} {l : Launch} {e : Env} {s : State} {m : MethodId} {below : List Frame} {meth : Method} {c : Code} {dC : Nat → ClassId} {dI : Nat → Nat → Nat} {b L : Nat} {xs : Nat → Int32} (hL : L ≤ 3072) (C0 : lw_At p s m meth c b L xs) (hz : nzA s) {sa sb sa2 sb2 : Nat → Nat} {zf : Value} (hTA : gz_ST RX6 stIA sa sb zf (fun q : Nat => s.heap.size ≤ q) s s.heap) (hTB : gz_ST RX12 stIB sa2 sb2 zf (fun q : Nat => s.heap.size ≤ q) s s.heap) {x0 hm n : Nat} (hn : 6 * n + 6 ≤ L) {H : Heap} {locs : List Loc} {ls : Array Slot} (hI : LInv dC dI s x0 hm H) (hS : va_S (fun q : Nat => s.heap.size ≤ q) s.heap H locs) (hl : lv_has ls 4 [(0, .ref b), (1, .ref x0), (2, .ref hm), (3, .int (nI (6 * n)))]) (next : ∀ (H : Heap) (locs : List Loc) (ls : Array Slot), LInv dC dI s x0 hm H → va_S (fun q : Nat => s.heap.size ≤ q) s.heap H locs → lv_has ls 4 [(0, .ref b), (1, .ref x0), (2, .ref hm), (3, .int (nI (6 * n)))] → W p l e room_1 s m #[Value.ref b] below meth c H locs (400 + (n + 1)) (40000 + 5 * (n + 1)) (lw_Z below #[Value.ref b] s) (F0 m 2056 ls [])) : W p l e room_1 s m #[Value.ref b] below meth c H locs (400 + n) (40000 + 5 * n) (lw_Z below #[Value.ref b] s) (F0 m 1726 ls []) := by
  obtain ⟨hx, hb, hr, hml, hown0, hts, hX, hbl, hlocks, hgv⟩ := id C0
  have hown : s.vm.findClass RL = some m.cls := hown0
  have hA : ∀ q : Nat, s.heap.size ≤ q → (fun q : Nat => s.heap.size ≤ q) q := fun _ h => h
  have hbA : ¬ (fun q : Nat => s.heap.size ≤ q) b := Nat.not_le.mpr hbl
  obtain ⟨ax, kx, vx, fx, gx, rx, mi, mr, km, fm, rfl, hK, hXI, hMI, hlen, hP, hD⟩ := hI
  refine lv_aload_n hx hb (dk_at dkL_c44 0 rfl) rfl (lv_at hl 1 rfl) ?_
  refine lw_arg hx hb hX hbl hbA hS hl (dk_at dkL_c44 1 rfl) (dk_at dkL_c44 2 rfl) (dk_at dkL_c44 3 rfl) (dk_at dkL_c44 4 rfl) (dk_at dkL_c44 5 rfl) 1 (by decide) (Nat.le_of_ble_eq_true rfl) hn hL (fun a1 ea1 => ?_)
  refine lw_arg hx hb hX hbl hbA hS hl (dk_at dkL_c44 6 rfl) (dk_at dkL_c44 7 rfl) (dk_at dkL_c44 8 rfl) (dk_at dkL_c44 9 rfl) (dk_at dkL_c44 10 rfl) 2 (by decide) (Nat.le_of_ble_eq_true rfl) hn hL (fun a2 ea2 => ?_)
  refine lw_cx (st := [.int a2, .int a1, .ref (ax 0)]) (rest := []) ⟨hx, hb, hml, hown, hts⟩ (uX11_both l dC dI H.size ax kx vx fx gx rx hXI a1 a2) (cwV 2 hts (gz_lV lm_355 lm_356 lm_357 lm_4 lm_354 lwGA goodGA) rfl rfl rfl hdV_X11_both_X11_2 ⟨Nat.le_of_ble_eq_true rfl, Nat.le_of_ble_eq_true rfl⟩) rfl rfl hl.1 (Nat.le_of_ble_eq_true rfl) (dk_at dkL_c44 11 rfl) (lw_rm (a := 0) (b := 0) hn hL (Nat.le_of_ble_eq_true rfl) (Nat.le_of_ble_eq_true rfl)) hz hK hP hD hS (fun rx9 ax2 kx2 vx2 fx2 gx2 rx2 H locs h0 hXI2 hrelx hK hP hD hS => ?_)
  refine lv_pop hx hb (dk_at dkL_c44 12 rfl) rfl ?_
  refine lv_aload_n hx hb (dk_at dkL_c44 13 rfl) rfl (lv_at hl 2 rfl) ?_
  refine lw_arg hx hb hX hbl hbA hS hl (dk_at dkL_c44 14 rfl) (dk_at dkL_c44 15 rfl) (dk_at dkL_c44 16 rfl) (dk_at dkL_c44 17 rfl) (dk_at dkL_c44 18 rfl) 1 (by decide) (Nat.le_of_ble_eq_true rfl) hn hL (fun a3 ea3 => ?_)
  refine lw_arg hx hb hX hbl hbA hS hl (dk_at dkL_c44 19 rfl) (dk_at dkL_c44 20 rfl) (dk_at dkL_c44 21 rfl) (dk_at dkL_c44 22 rfl) (dk_at dkL_c44 23 rfl) 2 (by decide) (Nat.le_of_ble_eq_true rfl) hn hL (fun a4 ea4 => ?_)
  refine lw_cm (st := [.int a4, .int a3, .ref hm]) (rest := []) ⟨hx, hb, hml, hown, hts⟩ (uX12_both l dC dI H.size hm mi mr km fm hMI a3 a4) (cwV 2 hts (gz_lV lm_359 lm_360 lm_361 lm_9 lm_358 lwGB goodGB) rfl rfl rfl hdV_X12_both_X12_2 ⟨Nat.le_of_ble_eq_true rfl, Nat.le_of_ble_eq_true rfl⟩) rfl rfl hl.1 (Nat.le_of_ble_eq_true rfl) (dk_at dkL_c44 24 rfl) (lw_rm2 (a := 0) (b := 0) (a2 := 0) (b2 := 0) hn hL (Nat.le_of_ble_eq_true rfl) (Nat.le_of_ble_eq_true rfl)) hK hP hD hS (fun rm9 mi2 fm2 H locs hMI2 hrelm hP hD hS => ?_)
  refine lv_pop hx hb (dk_at dkL_c44 25 rfl) rfl ?_
  refine lv_goto (tgt := 2056) hx hb (dk_at dkL_c44 26 rfl) (by decide) ?_
  have e90 : a3 = a1 := ea3.trans ea1.symm
  have e91 : a4 = a2 := ea4.trans ea2.symm
  rw [e90, e91] at hrelm
  have hN9 := pr_both hXI hMI hlen hrelx hrelm
  refine W.widen (k := 400 + (n + 1)) (n := 40000 + 5 * (n + 1)) (by omega) (by omega) ?_
  exact next _ _ _ ⟨ax2, kx2, vx2, fx2, gx2, rx2, mi2, mr, km, fm2, h0, hK, hXI2, hMI2, hN9.1, hP, hD⟩ hS hl
