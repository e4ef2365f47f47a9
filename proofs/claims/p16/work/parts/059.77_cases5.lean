
noncomputable def lsL_c45 : List (Nat × Instr × Nat) := [(1759, .aload_n 1, 1), (1760, .aload_n 0, 1), (1761, .iload_n 3, 1), (1762, .iconst 1, 1), (1763, .iadd, 1), (1764, .iaload, 1), (1765, .aload_n 0, 1), (1766, .iload_n 3, 1), (1767, .iconst 2, 1), (1768, .iadd, 1), (1769, .iaload, 1), (1770, .invokevirtual 199, 3), (1773, .pop, 1), (1774, .aload_n 2, 1), (1775, .aload_n 0, 1), (1776, .iload_n 3, 1), (1777, .iconst 1, 1), (1778, .iadd, 1), (1779, .iaload, 1), (1780, .aload_n 0, 1), (1781, .iload_n 3, 1), (1782, .iconst 2, 1), (1783, .iadd, 1), (1784, .iaload, 1), (1785, .invokevirtual 202, 3), (1788, .pop, 1), (1789, .goto 267, 3)]
theorem dkL_c45 : dkAll cL_law lsL_c45 = true := dk_fast (by decide +kernel)
set_option maxHeartbeats 4000000 in
set_option maxRecDepth 100000 in
theorem law_c45 {p : Program} {l : Launch} {e : Env} {s : State} {m : MethodId} {below : List Frame} {meth : Method} {c : Code} {dC : Nat → ClassId} {dI : Nat → Nat → Nat} {b L : Nat} {xs : Nat → Int32} (hL : L ≤ 3072) (C0 : lw_At p s m meth c b L xs) (hz : nzA s) {sa sb sa2 sb2 : Nat → Nat} {zf : Value} (hTA : gz_ST RX6 stIA sa sb zf (fun q : Nat => s.heap.size ≤ q) s s.heap) (hTB : gz_ST RX12 stIB sa2 sb2 zf (fun q : Nat => s.heap.size ≤ q) s s.heap) {x0 hm n : Nat} (hn : 6 * n + 6 ≤ L) {H : Heap} {locs : List Loc} {ls : Array Slot} (hI : LInv dC dI s x0 hm H) (hS : va_S (fun q : Nat => s.heap.size ≤ q) s.heap H locs) (hl : lv_has ls 4 [(0, .ref b), (1, .ref x0), (2, .ref hm), (3, .int (nI (6 * n)))]) (next : ∀ (H : Heap) (locs : List Loc) (ls : Array Slot), LInv dC dI s x0 hm H → va_S (fun q : Nat => s.heap.size ≤ q) s.heap H locs → lv_has ls 4 [(0, .ref b), (1, .ref x0), (2, .ref hm), (3, .int (nI (6 * n)))] → W p l e room_1 s m #[Value.ref b] below meth c H locs (400 + (n + 1)) (40000 + 5 * (n + 1)) (lw_Z below #[Value.ref b] s) (F0 m 2056 ls [])) : W p l e room_1 s m #[Value.ref b] below meth c H locs (400 + n) (40000 + 5 * n) (lw_Z below #[Value.ref b] s) (F0 m 1759 ls []) := by
  obtain ⟨hx, hb, hr, hml, hown0, hts, hX, hbl, hlocks, hgv⟩ := id C0
  have hown : s.vm.findClass RL = some m.cls := hown0
  have hA : ∀ q : Nat, s.heap.size ≤ q → (fun q : Nat => s.heap.size ≤ q) q := fun _ h => h
  have hbA : ¬ (fun q : Nat => s.heap.size ≤ q) b := Nat.not_le.mpr hbl
  obtain ⟨ax, kx, vx, fx, gx, rx, mi, mr, km, fm, rfl, hK, hXI, hMI, hlen, hP, hD⟩ := hI
  refine lv_aload_n hx hb (dk_at dkL_c45 0 rfl) rfl (lv_at hl 1 rfl) ?_
  refine lw_arg hx hb hX hbl hbA hS hl (dk_at dkL_c45 1 rfl) (dk_at dkL_c45 2 rfl) (dk_at dkL_c45 3 rfl) (dk_at dkL_c45 4 rfl) (dk_at dkL_c45 5 rfl) 1 (by decide) (Nat.le_of_ble_eq_true rfl) hn hL (fun a1 ea1 => ?_)
  refine lw_arg hx hb hX hbl hbA hS hl (dk_at dkL_c45 6 rfl) (dk_at dkL_c45 7 rfl) (dk_at dkL_c45 8 rfl) (dk_at dkL_c45 9 rfl) (dk_at dkL_c45 10 rfl) 2 (by decide) (Nat.le_of_ble_eq_true rfl) hn hL (fun a2 ea2 => ?_)
  refine lw_cx (st := [.int a2, .int a1, .ref (ax 0)]) (rest := []) ⟨hx, hb, hml, hown, hts⟩ (uX11_nearest l dC dI H.size ax kx vx fx gx rx hXI a1 a2) (cwV 2 hts (gz_lV lm_363 lm_364 lm_365 lm_4 lm_362 lwGA goodGA) rfl rfl rfl hdV_X11_nearest_X11_2 ⟨Nat.le_of_ble_eq_true rfl, Nat.le_of_ble_eq_true rfl⟩) rfl rfl hl.1 (Nat.le_of_ble_eq_true rfl) (dk_at dkL_c45 11 rfl) (lw_rm (a := 0) (b := 0) hn hL (Nat.le_of_ble_eq_true rfl) (Nat.le_of_ble_eq_true rfl)) hz hK hP hD hS (fun rx9 ax2 kx2 vx2 fx2 gx2 rx2 H locs h0 hXI2 hrelx hK hP hD hS => ?_)
  refine lv_pop hx hb (dk_at dkL_c45 12 rfl) rfl ?_
  refine lv_aload_n hx hb (dk_at dkL_c45 13 rfl) rfl (lv_at hl 2 rfl) ?_
  refine lw_arg hx hb hX hbl hbA hS hl (dk_at dkL_c45 14 rfl) (dk_at dkL_c45 15 rfl) (dk_at dkL_c45 16 rfl) (dk_at dkL_c45 17 rfl) (dk_at dkL_c45 18 rfl) 1 (by decide) (Nat.le_of_ble_eq_true rfl) hn hL (fun a3 ea3 => ?_)
  refine lw_arg hx hb hX hbl hbA hS hl (dk_at dkL_c45 19 rfl) (dk_at dkL_c45 20 rfl) (dk_at dkL_c45 21 rfl) (dk_at dkL_c45 22 rfl) (dk_at dkL_c45 23 rfl) 2 (by decide) (Nat.le_of_ble_eq_true rfl) hn hL (fun a4 ea4 => ?_)
  refine lw_cm (st := [.int a4, .int a3, .ref hm]) (rest := []) ⟨hx, hb, hml, hown, hts⟩ (uX12_nearest l dC dI H.size hm mi mr km fm hMI a3 a4) (cwV 2 hts (gz_lV lm_367 lm_368 lm_369 lm_9 lm_366 lwGB goodGB) rfl rfl rfl hdV_X12_nearest_X12_2 ⟨Nat.le_of_ble_eq_true rfl, Nat.le_of_ble_eq_true rfl⟩) rfl rfl hl.1 (Nat.le_of_ble_eq_true rfl) (dk_at dkL_c45 24 rfl) (lw_rm2 (a := 0) (b := 0) (a2 := 0) (b2 := 0) hn hL (Nat.le_of_ble_eq_true rfl) (Nat.le_of_ble_eq_true rfl)) hK hP hD hS (fun rm9 mi2 fm2 H locs hMI2 hrelm hP hD hS => ?_)
  refine lv_pop hx hb (dk_at dkL_c45 25 rfl) rfl ?_
  refine lv_goto (tgt := 2056) hx hb (dk_at dkL_c45 26 rfl) (by decide) ?_
  have e90 : a3 = a1 := ea3.trans ea1.symm
  have e91 : a4 = a2 := ea4.trans ea2.symm
  rw [e90, e91] at hrelm
  have hN9 := pr_nearest hXI hMI hlen hrelx hrelm
  refine W.widen (k := 400 + (n + 1)) (n := 40000 + 5 * (n + 1)) (by omega) (by omega) ?_
  exact next _ _ _ ⟨ax2, kx2, vx2, fx2, gx2, rx2, mi2, mr, km, fm2, h0, hK, hXI2, hMI2, hN9, hP, hD⟩ hS hl
noncomputable def lsL_c46 : List (Nat × Instr × Nat) := [(1792, .aload_n 1, 1), (1793, .aload_n 0, 1), (1794, .iload_n 3, 1), (1795, .iconst 1, 1), (1796, .iadd, 1), (1797, .iaload, 1), (1798, .aload_n 0, 1), (1799, .iload_n 3, 1), (1800, .iconst 2, 1), (1801, .iadd, 1), (1802, .iaload, 1), (1803, .invokevirtual 203, 3), (1806, .pop, 1), (1807, .aload_n 2, 1), (1808, .aload_n 0, 1), (1809, .iload_n 3, 1), (1810, .iconst 1, 1), (1811, .iadd, 1), (1812, .iaload, 1), (1813, .aload_n 0, 1), (1814, .iload_n 3, 1), (1815, .iconst 2, 1), (1816, .iadd, 1), (1817, .iaload, 1), (1818, .invokevirtual 206, 3), (1821, .pop, 1), (1822, .goto 234, 3)]
theorem dkL_c46 : dkAll cL_law lsL_c46 = true := dk_fast (by decide +kernel)
set_option maxHeartbeats 4000000 in
set_option maxRecDepth 100000 in
theorem law_c46 {p : Program} {l : Launch} {e : Env} {s : State} {m : MethodId} {below : List Frame} {meth : Method} {c : Code} {dC : Nat → ClassId} {dI : Nat → Nat → Nat} {b L : Nat} {xs : Nat → Int32} (hL : L ≤ 3072) (C0 : lw_At p s m meth c b L xs) (hz : nzA s) {sa sb sa2 sb2 : Nat → Nat} {zf : Value} (hTA : gz_ST RX6 stIA sa sb zf (fun q : Nat => s.heap.size ≤ q) s s.heap) (hTB : gz_ST RX12 stIB sa2 sb2 zf (fun q : Nat => s.heap.size ≤ q) s s.heap) {x0 hm n : Nat} (hn : 6 * n + 6 ≤ L) {H : Heap} {locs : List Loc} {ls : Array Slot} (hI : LInv dC dI s x0 hm H) (hS : va_S (fun q : Nat => s.heap.size ≤ q) s.heap H locs) (hl : lv_has ls 4 [(0, .ref b), (1, .ref x0), (2, .ref hm), (3, .int (nI (6 * n)))]) (next : ∀ (H : Heap) (locs : List Loc) (ls : Array Slot), LInv dC dI s x0 hm H → va_S (fun q : Nat => s.heap.size ≤ q) s.heap H locs → lv_has ls 4 [(0, .ref b), (1, .ref x0), (2, .ref hm), (3, .int (nI (6 * n)))] → W p l e room_1 s m #[Value.ref b] below meth c H locs (400 + (n + 1)) (40000 + 5 * (n + 1)) (lw_Z below #[Value.ref b] s) (F0 m 2056 ls [])) : W p l e room_1 s m #[Value.ref b] below meth c H locs (400 + n) (40000 + 5 * n) (lw_Z below #[Value.ref b] s) (F0 m 1792 ls []) := by
  obtain ⟨hx, hb, hr, hml, hown0, hts, hX, hbl, hlocks, hgv⟩ := id C0
  have hown : s.vm.findClass RL = some m.cls := hown0
  have hA : ∀ q : Nat, s.heap.size ≤ q → (fun q : Nat => s.heap.size ≤ q) q := fun _ h => h
  have hbA : ¬ (fun q : Nat => s.heap.size ≤ q) b := Nat.not_le.mpr hbl
  obtain ⟨ax, kx, vx, fx, gx, rx, mi, mr, km, fm, rfl, hK, hXI, hMI, hlen, hP, hD⟩ := hI
  refine lv_aload_n hx hb (dk_at dkL_c46 0 rfl) rfl (lv_at hl 1 rfl) ?_
  refine lw_arg hx hb hX hbl hbA hS hl (dk_at dkL_c46 1 rfl) (dk_at dkL_c46 2 rfl) (dk_at dkL_c46 3 rfl) (dk_at dkL_c46 4 rfl) (dk_at dkL_c46 5 rfl) 1 (by decide) (Nat.le_of_ble_eq_true rfl) hn hL (fun a1 ea1 => ?_)
  refine lw_arg hx hb hX hbl hbA hS hl (dk_at dkL_c46 6 rfl) (dk_at dkL_c46 7 rfl) (dk_at dkL_c46 8 rfl) (dk_at dkL_c46 9 rfl) (dk_at dkL_c46 10 rfl) 2 (by decide) (Nat.le_of_ble_eq_true rfl) hn hL (fun a2 ea2 => ?_)
  refine lw_cx (st := [.int a2, .int a1, .ref (ax 0)]) (rest := []) ⟨hx, hb, hml, hown, hts⟩ (uX11_backed l dC dI H.size ax kx vx fx gx rx hXI a1 a2) (cwV 2 hts (gz_lV lm_371 lm_372 lm_373 lm_4 lm_370 lwGA goodGA) rfl rfl rfl hdV_X11_backed_X11_2 ⟨Nat.le_of_ble_eq_true rfl, Nat.le_of_ble_eq_true rfl⟩) rfl rfl hl.1 (Nat.le_of_ble_eq_true rfl) (dk_at dkL_c46 11 rfl) (lw_rm (a := 0) (b := 0) hn hL (Nat.le_of_ble_eq_true rfl) (Nat.le_of_ble_eq_true rfl)) hz hK hP hD hS (fun rx9 ax2 kx2 vx2 fx2 gx2 rx2 H locs h0 hXI2 hrelx hK hP hD hS => ?_)
  refine lv_pop hx hb (dk_at dkL_c46 12 rfl) rfl ?_
  refine lv_aload_n hx hb (dk_at dkL_c46 13 rfl) rfl (lv_at hl 2 rfl) ?_
  refine lw_arg hx hb hX hbl hbA hS hl (dk_at dkL_c46 14 rfl) (dk_at dkL_c46 15 rfl) (dk_at dkL_c46 16 rfl) (dk_at dkL_c46 17 rfl) (dk_at dkL_c46 18 rfl) 1 (by decide) (Nat.le_of_ble_eq_true rfl) hn hL (fun a3 ea3 => ?_)
  refine lw_arg hx hb hX hbl hbA hS hl (dk_at dkL_c46 19 rfl) (dk_at dkL_c46 20 rfl) (dk_at dkL_c46 21 rfl) (dk_at dkL_c46 22 rfl) (dk_at dkL_c46 23 rfl) 2 (by decide) (Nat.le_of_ble_eq_true rfl) hn hL (fun a4 ea4 => ?_)
  refine lw_cm (st := [.int a4, .int a3, .ref hm]) (rest := []) ⟨hx, hb, hml, hown, hts⟩ (uX12_backed l dC dI H.size hm mi mr km fm hMI a3 a4) (cwV 2 hts (gz_lV lm_375 lm_376 lm_377 lm_9 lm_374 lwGB goodGB) rfl rfl rfl hdV_X12_backed_X12_2 ⟨Nat.le_of_ble_eq_true rfl, Nat.le_of_ble_eq_true rfl⟩) rfl rfl hl.1 (Nat.le_of_ble_eq_true rfl) (dk_at dkL_c46 24 rfl) (lw_rm2 (a := 0) (b := 0) (a2 := 0) (b2 := 0) hn hL (Nat.le_of_ble_eq_true rfl) (Nat.le_of_ble_eq_true rfl)) hK hP hD hS (fun rm9 mi2 fm2 H locs hMI2 hrelm hP hD hS => ?_)
  refine lv_pop hx hb (dk_at dkL_c46 25 rfl) rfl ?_
  refine lv_goto (tgt := 2056) hx hb (dk_at dkL_c46 26 rfl) (by decide) ?_
  have e90 : a3 = a1 := ea3.trans ea1.symm
  have e91 : a4 = a2 := ea4.trans ea2.symm
  rw [e90, e91] at hrelm
  have hN9 := pr_backed hXI hMI hlen hrelx hrelm
  refine W.widen (k := 400 + (n + 1)) (n := 40000 + 5 * (n + 1)) (by omega) (by omega) ?_
  exact next _ _ _ ⟨ax2, kx2, vx2, fx2, gx2, rx2, mi2, mr, km, fm2, h0, hK, hXI2, hMI2, hN9, hP, hD⟩ hS hl
noncomputable def lsL_c47 : List (Nat × Instr × Nat) := [(1825, .aload_n 1, 1), (1826, .aload_n 0, 1), (1827, .iload_n 3, 1), (1828, .iconst 1, 1), (1829, .iadd, 1), (1830, .iaload, 1), (1831, .invokevirtual 207, 3), (1834, .pop, 1), (1835, .aload_n 2, 1), (1836, .aload_n 0, 1), (1837, .iload_n 3, 1), (1838, .iconst 1, 1), (1839, .iadd, 1), (1840, .iaload, 1), (1841, .invokevirtual 210, 3), (1844, .pop, 1), (1845, .goto 211, 3)]
theorem dkL_c47 : dkAll cL_law lsL_c47 = true := dk_fast (by decide +kernel)
set_option maxHeartbeats 4000000 in
set_option maxRecDepth 100000 in
theorem law_c47 {p : Program} {l : Launch} {e : Env} {s : State} {m : MethodId} {below : List Frame} {meth : Method} {c : Code} {dC : Nat → ClassId} {dI : Nat → Nat → Nat} {b L : Nat} {xs : Nat → Int32} (hL : L ≤ 3072) (C0 : lw_At p s m meth c b L xs) (hz : nzA s) {sa sb sa2 sb2 : Nat → Nat} {zf : Value} (hTA : gz_ST RX6 stIA sa sb zf (fun q : Nat => s.heap.size ≤ q) s s.heap) (hTB : gz_ST RX12 stIB sa2 sb2 zf (fun q : Nat => s.heap.size ≤ q) s s.heap) {x0 hm n : Nat} (hn : 6 * n + 6 ≤ L) {H : Heap} {locs : List Loc} {ls : Array Slot} (hI : LInv dC dI s x0 hm H) (hS : va_S (fun q : Nat => s.heap.size ≤ q) s.heap H locs) (hl : lv_has ls 4 [(0, .ref b), (1, .ref x0), (2, .ref hm), (3, .int (nI (6 * n)))]) (next : ∀ (H : Heap) (locs : List Loc) (ls : Array Slot), LInv dC dI s x0 hm H → va_S (fun q : Nat => s.heap.size ≤ q) s.heap H locs → lv_has ls 4 [(0, .ref b), (1, .ref x0), (2, .ref hm), (3, .int (nI (6 * n)))] → W p l e room_1 s m #[Value.ref b] below meth c H locs (400 + (n + 1)) (40000 + 5 * (n + 1)) (lw_Z below #[Value.ref b] s) (F0 m 2056 ls [])) : W p l e room_1 s m #[Value.ref b] below meth c H locs (400 + n) (40000 + 5 * n) (lw_Z below #[Value.ref b] s) (F0 m 1825 ls []) := by
  obtain ⟨hx, hb, hr, hml, hown0, hts, hX, hbl, hlocks, hgv⟩ := id C0
  have hown : s.vm.findClass RL = some m.cls := hown0
  have hA : ∀ q : Nat, s.heap.size ≤ q → (fun q : Nat => s.heap.size ≤ q) q := fun _ h => h
  have hbA : ¬ (fun q : Nat => s.heap.size ≤ q) b := Nat.not_le.mpr hbl
  obtain ⟨ax, kx, vx, fx, gx, rx, mi, mr, km, fm, rfl, hK, hXI, hMI, hlen, hP, hD⟩ := hI
  refine lv_aload_n hx hb (dk_at dkL_c47 0 rfl) rfl (lv_at hl 1 rfl) ?_
  refine lw_arg hx hb hX hbl hbA hS hl (dk_at dkL_c47 1 rfl) (dk_at dkL_c47 2 rfl) (dk_at dkL_c47 3 rfl) (dk_at dkL_c47 4 rfl) (dk_at dkL_c47 5 rfl) 1 (by decide) (Nat.le_of_ble_eq_true rfl) hn hL (fun a1 ea1 => ?_)
  refine lw_cx (st := [.int a1, .ref (ax 0)]) (rest := []) ⟨hx, hb, hml, hown, hts⟩ (uX11_tell l dC dI H.size ax kx vx fx gx rx hXI a1) (cwV 1 hts (gz_lV lm_379 lm_380 lm_381 lm_4 lm_378 lwGA goodGA) rfl rfl rfl hdV_X11_tell_X11_1 ⟨Nat.le_of_ble_eq_true rfl, Nat.le_of_ble_eq_true rfl⟩) rfl rfl hl.1 (Nat.le_of_ble_eq_true rfl) (dk_at dkL_c47 6 rfl) (lw_rm (a := 0) (b := 0) hn hL (Nat.le_of_ble_eq_true rfl) (Nat.le_of_ble_eq_true rfl)) hz hK hP hD hS (fun rx9 ax2 kx2 vx2 fx2 gx2 rx2 H locs h0 hXI2 hrelx hK hP hD hS => ?_)
  refine lv_pop hx hb (dk_at dkL_c47 7 rfl) rfl ?_
  refine lv_aload_n hx hb (dk_at dkL_c47 8 rfl) rfl (lv_at hl 2 rfl) ?_
  refine lw_arg hx hb hX hbl hbA hS hl (dk_at dkL_c47 9 rfl) (dk_at dkL_c47 10 rfl) (dk_at dkL_c47 11 rfl) (dk_at dkL_c47 12 rfl) (dk_at dkL_c47 13 rfl) 1 (by decide) (Nat.le_of_ble_eq_true rfl) hn hL (fun a2 ea2 => ?_)
  refine lw_cm (st := [.int a2, .ref hm]) (rest := []) ⟨hx, hb, hml, hown, hts⟩ (uX12_tell l dC dI H.size hm mi mr km fm hMI a2) (cwV 1 hts (gz_lV lm_383 lm_384 lm_385 lm_9 lm_382 lwGB goodGB) rfl rfl rfl hdV_X12_tell_X12_1 ⟨Nat.le_of_ble_eq_true rfl, Nat.le_of_ble_eq_true rfl⟩) rfl rfl hl.1 (Nat.le_of_ble_eq_true rfl) (dk_at dkL_c47 14 rfl) (lw_rm2 (a := 0) (b := 0) (a2 := 0) (b2 := 0) hn hL (Nat.le_of_ble_eq_true rfl) (Nat.le_of_ble_eq_true rfl)) hK hP hD hS (fun rm9 mi2 fm2 H locs hMI2 hrelm hP hD hS => ?_)
  refine lv_pop hx hb (dk_at dkL_c47 15 rfl) rfl ?_
  refine lv_goto (tgt := 2056) hx hb (dk_at dkL_c47 16 rfl) (by decide) ?_
  have e90 : a2 = a1 := ea2.trans ea1.symm
  rw [e90] at hrelm
  have hN9 := pr_tell hXI hMI hlen hrelx hrelm
  refine W.widen (k := 400 + (n + 1)) (n := 40000 + 5 * (n + 1)) (by omega) (by omega) ?_
  exact next _ _ _ ⟨ax2, kx2, vx2, fx2, gx2, rx2, mi2, mr, km, fm2, h0, hK, hXI2, hMI2, hN9.1, hP, hD⟩ hS hl
noncomputable def lsL_c48 : List (Nat × Instr × Nat) := [(1848, .aload_n 1, 1), (1849, .aload_n 0, 1), (1850, .iload_n 3, 1), (1851, .iconst 1, 1), (1852, .iadd, 1), (1853, .iaload, 1), (1854, .invokevirtual 211, 3), (1857, .pop, 1), (1858, .aload_n 2, 1), (1859, .aload_n 0, 1), (1860, .iload_n 3, 1), (1861, .iconst 1, 1), (1862, .iadd, 1), (1863, .iaload, 1), (1864, .invokevirtual 214, 3), (1867, .pop, 1), (1868, .goto 188, 3)]
theorem dkL_c48 : dkAll cL_law lsL_c48 = true := dk_fast (by decide +kernel)
set_option maxHeartbeats 4000000 in
set_option maxRecDepth 100000 in
theorem law_c48 {p : Program} {l : Launch} {e : Env} {s : State} {m : MethodId} {below : List Frame} {meth : Method} {c : Code} {dC : Nat → ClassId} {dI : Nat → Nat → Nat} {b L : Nat} {xs : Nat → Int32} (hL : L ≤ 3072) (C0 : lw_At p s m meth c b L xs) (hz : nzA s) {sa sb sa2 sb2 : Nat → Nat} {zf : Value} (hTA : gz_ST RX6 stIA sa sb zf (fun q : Nat => s.heap.size ≤ q) s s.heap) (hTB : gz_ST RX12 stIB sa2 sb2 zf (fun q : Nat => s.heap.size ≤ q) s s.heap) {x0 hm n : Nat} (hn : 6 * n + 6 ≤ L) {H : Heap} {locs : List Loc} {ls : Array Slot} (hI : LInv dC dI s x0 hm H) (hS : va_S (fun q : Nat => s.heap.size ≤ q) s.heap H locs) (hl : lv_has ls 4 [(0, .ref b), (1, .ref x0), (2, .ref hm), (3, .int (nI (6 * n)))]) (next : ∀ (H : Heap) (locs : List Loc) (ls : Array Slot), LInv dC dI s x0 hm H → va_S (fun q : Nat => s.heap.size ≤ q) s.heap H locs → lv_has ls 4 [(0, .ref b), (1, .ref x0), (2, .ref hm), (3, .int (nI (6 * n)))] → W p l e room_1 s m #[Value.ref b] below meth c H locs (400 + (n + 1)) (40000 + 5 * (n + 1)) (lw_Z below #[Value.ref b] s) (F0 m 2056 ls [])) : W p l e room_1 s m #[Value.ref b] below meth c H locs (400 + n) (40000 + 5 * n) (lw_Z below #[Value.ref b] s) (F0 m 1848 ls []) := by
  obtain ⟨hx, hb, hr, hml, hown0, hts, hX, hbl, hlocks, hgv⟩ := id C0
  have hown : s.vm.findClass RL = some m.cls := hown0
  have hA : ∀ q : Nat, s.heap.size ≤ q → (fun q : Nat => s.heap.size ≤ q) q := fun _ h => h
  have hbA : ¬ (fun q : Nat => s.heap.size ≤ q) b := Nat.not_le.mpr hbl
  obtain ⟨ax, kx, vx, fx, gx, rx, mi, mr, km, fm, rfl, hK, hXI, hMI, hlen, hP, hD⟩ := hI
  refine lv_aload_n hx hb (dk_at dkL_c48 0 rfl) rfl (lv_at hl 1 rfl) ?_
  refine lw_arg hx hb hX hbl hbA hS hl (dk_at dkL_c48 1 rfl) (dk_at dkL_c48 2 rfl) (dk_at dkL_c48 3 rfl) (dk_at dkL_c48 4 rfl) (dk_at dkL_c48 5 rfl) 1 (by decide) (Nat.le_of_ble_eq_true rfl) hn hL (fun a1 ea1 => ?_)
  refine lw_cx (st := [.int a1, .ref (ax 0)]) (rest := []) ⟨hx, hb, hml, hown, hts⟩ (uX11_octet l dC dI H.size ax kx vx fx gx rx hXI a1) (cwV 1 hts (gz_lV lm_387 lm_388 lm_389 lm_4 lm_386 lwGA goodGA) rfl rfl rfl hdV_X11_octet_X11_1 ⟨Nat.le_of_ble_eq_true rfl, Nat.le_of_ble_eq_true rfl⟩) rfl rfl hl.1 (Nat.le_of_ble_eq_true rfl) (dk_at dkL_c48 6 rfl) (lw_rm (a := 0) (b := 0) hn hL (Nat.le_of_ble_eq_true rfl) (Nat.le_of_ble_eq_true rfl)) hz hK hP hD hS (fun rx9 ax2 kx2 vx2 fx2 gx2 rx2 H locs h0 hXI2 hrelx hK hP hD hS => ?_)
  refine lv_pop hx hb (dk_at dkL_c48 7 rfl) rfl ?_
  refine lv_aload_n hx hb (dk_at dkL_c48 8 rfl) rfl (lv_at hl 2 rfl) ?_
  refine lw_arg hx hb hX hbl hbA hS hl (dk_at dkL_c48 9 rfl) (dk_at dkL_c48 10 rfl) (dk_at dkL_c48 11 rfl) (dk_at dkL_c48 12 rfl) (dk_at dkL_c48 13 rfl) 1 (by decide) (Nat.le_of_ble_eq_true rfl) hn hL (fun a2 ea2 => ?_)
  refine lw_cm (st := [.int a2, .ref hm]) (rest := []) ⟨hx, hb, hml, hown, hts⟩ (uX12_octet l dC dI H.size hm mi mr km fm hMI a2) (cwV 1 hts (gz_lV lm_391 lm_392 lm_393 lm_9 lm_390 lwGB goodGB) rfl rfl rfl hdV_X12_octet_X12_1 ⟨Nat.le_of_ble_eq_true rfl, Nat.le_of_ble_eq_true rfl⟩) rfl rfl hl.1 (Nat.le_of_ble_eq_true rfl) (dk_at dkL_c48 14 rfl) (lw_rm2 (a := 0) (b := 0) (a2 := 0) (b2 := 0) hn hL (Nat.le_of_ble_eq_true rfl) (Nat.le_of_ble_eq_true rfl)) hK hP hD hS (fun rm9 mi2 fm2 H locs hMI2 hrelm hP hD hS => ?_)
  refine lv_pop hx hb (dk_at dkL_c48 15 rfl) rfl ?_
  refine lv_goto (tgt := 2056) hx hb (dk_at dkL_c48 16 rfl) (by decide) ?_
  have e90 : a2 = a1 := ea2.trans ea1.symm
  rw [e90] at hrelm
  have hN9 := pr_octet hXI hMI hlen hrelx hrelm
  refine W.widen (k := 400 + (n + 1)) (n := 40000 + 5 * (n + 1)) (by omega) (by omega) ?_
  exact next _ _ _ ⟨ax2, kx2, vx2, fx2, gx2, rx2, mi2, mr, km, fm2, h0, hK, hXI2, hMI2, hN9.1, hP, hD⟩ hS hl
noncomputable def lsL_c49 : List (Nat × Instr × Nat) := [(1871, .aload_n 1, 1), (1872, .aload_n 0, 1), (1873, .iload_n 3, 1), (1874, .iconst 1, 1), (1875, .iadd, 1), (1876, .iaload, 1), (1877, .aload_n 0, 1), (1878, .iload_n 3, 1), (1879, .iconst 2, 1), (1880, .iadd, 1), (1881, .iaload, 1), (1882, .aload_n 0, 1), (1883, .iload_n 3, 1), (1884, .iconst 3, 1), (1885, .iadd, 1), (1886, .iaload, 1), (1887, .aload_n 0, 1), (1888, .iload_n 3, 1), (1889, .iconst 4, 1), (1890, .iadd, 1), (1891, .iaload, 1), (1892, .aload_n 0, 1), (1893, .iload_n 3, 1), (1894, .iconst 5, 1), (1895, .iadd, 1), (1896, .iaload, 1), (1897, .invokevirtual 215, 3), (1900, .pop, 1), (1901, .aload_n 2, 1), (1902, .aload_n 0, 1), (1903, .iload_n 3, 1), (1904, .iconst 1, 1), (1905, .iadd, 1), (1906, .iaload, 1), (1907, .aload_n 0, 1), (1908, .iload_n 3, 1), (1909, .iconst 2, 1), (1910, .iadd, 1), (1911, .iaload, 1), (1912, .aload_n 0, 1), (1913, .iload_n 3, 1), (1914, .iconst 3, 1), (1915, .iadd, 1), (1916, .iaload, 1), (1917, .aload_n 0, 1), (1918, .iload_n 3, 1), (1919, .iconst 4, 1), (1920, .iadd, 1), (1921, .iaload, 1), (1922, .aload_n 0, 1), (1923, .iload_n 3, 1), (1924, .iconst 5, 1), (1925, .iadd, 1), (1926, .iaload, 1), (1927, .invokevirtual 218, 3), (1930, .pop, 1), (1931, .goto 125, 3)]
theorem dkL_c49 : dkAll cL_law lsL_c49 = true := dk_fast (by decide +kernel)
set_option maxHeartbeats 4000000 in
set_option maxRecDepth 100000 in
theorem law_c49 {p : Program} {l : Launch} {e : Env} {s : State} {m : MethodId} {below : List Frame} {meth : Method} {c : Code} {dC : Nat → ClassId} {dI : Nat → Nat → Nat} {b L : Nat} {xs : Nat → Int32} (hL : L ≤ 3072) (C0 : lw_At p s m meth c b L xs) (hz : nzA s) {sa sb sa2 sb2 : Nat → Nat} {zf : Value} (hTA : gz_ST RX6 stIA sa sb zf (fun q : Nat => s.heap.size ≤ q) s s.heap) (hTB : gz_ST RX12 stIB sa2 sb2 zf (fun q : Nat => s.heap.size ≤ q) s s.heap) {x0 hm n : Nat} (hn : 6 * n + 6 ≤ L) {H : Heap} {locs : List Loc} {ls : Array Slot} (hI : LInv dC dI s x0 hm H) (hS : va_S (fun q : Nat => s.heap.size ≤ q) s.heap H locs) (hl : lv_has ls 4 [(0, .ref b), (1, .ref x0), (2, .ref hm), (3, .int (nI (6 * n)))]) (next : ∀ (H : Heap) (locs : List Loc) (ls : Array Slot), LInv dC dI s x0 hm H → va_S (fun q : Nat => s.heap.size ≤ q) s.heap H locs → lv_has ls 4 [(0, .ref b), (1, .ref x0), (2, .ref hm), (3, .int (nI (6 * n)))] → W p l e room_1 s m #[Value.ref b] below meth c H locs (400 + (n + 1)) (40000 + 5 * (n + 1)) (lw_Z below #[Value.ref b] s) (F0 m 2056 ls [])) : W p l e room_1 s m #[Value.ref b] below meth c H locs (400 + n) (40000 + 5 * n) (lw_Z below #[Value.ref b] s) (F0 m 1871 ls []) := by
  obtain ⟨hx, hb, hr, hml, hown0, hts, hX, hbl, hlocks, hgv⟩ := id C0
  have hown : s.vm.findClass RL = some m.cls := hown0
  have hA : ∀ q : Nat, s.heap.size ≤ q → (fun q : Nat => s.heap.size ≤ q) q := fun _ h => h
  have hbA : ¬ (fun q : Nat => s.heap.size ≤ q) b := Nat.not_le.mpr hbl
  obtain ⟨ax, kx, vx, fx, gx, rx, mi, mr, km, fm, rfl, hK, hXI, hMI, hlen, hP, hD⟩ := hI
  refine lv_aload_n hx hb (dk_at dkL_c49 0 rfl) rfl (lv_at hl 1 rfl) ?_
  refine lw_arg hx hb hX hbl hbA hS hl (dk_at dkL_c49 1 rfl) (dk_at dkL_c49 2 rfl) (dk_at dkL_c49 3 rfl) (dk_at dkL_c49 4 rfl) (dk_at dkL_c49 5 rfl) 1 (by decide) (Nat.le_of_ble_eq_true rfl) hn hL (fun a1 ea1 => ?_)
  refine lw_arg hx hb hX hbl hbA hS hl (dk_at dkL_c49 6 rfl) (dk_at dkL_c49 7 rfl) (dk_at dkL_c49 8 rfl) (dk_at dkL_c49 9 rfl) (dk_at dkL_c49 10 rfl) 2 (by decide) (Nat.le_of_ble_eq_true rfl) hn hL (fun a2 ea2 => ?_)
  refine lw_arg hx hb hX hbl hbA hS hl (dk_at dkL_c49 11 rfl) (dk_at dkL_c49 12 rfl) (dk_at dkL_c49 13 rfl) (dk_at dkL_c49 14 rfl) (dk_at dkL_c49 15 rfl) 3 (by decide) (Nat.le_of_ble_eq_true rfl) hn hL (fun a3 ea3 => ?_)
  refine lw_arg hx hb hX hbl hbA hS hl (dk_at dkL_c49 16 rfl) (dk_at dkL_c49 17 rfl) (dk_at dkL_c49 18 rfl) (dk_at dkL_c49 19 rfl) (dk_at dkL_c49 20 rfl) 4 (by decide) (Nat.le_of_ble_eq_true rfl) hn hL (fun a4 ea4 => ?_)
  refine lw_arg hx hb hX hbl hbA hS hl (dk_at dkL_c49 21 rfl) (dk_at dkL_c49 22 rfl) (dk_at dkL_c49 23 rfl) (dk_at dkL_c49 24 rfl) (dk_at dkL_c49 25 rfl) 5 (by decide) (Nat.le_of_ble_eq_true rfl) hn hL (fun a5 ea5 => ?_)
  refine lw_cx (st := [.int a5, .int a4, .int a3, .int a2, .int a1, .ref (ax 0)]) (rest := []) ⟨hx, hb, hml, hown, hts⟩ (uX11_reports l dC dI H.size ax kx vx fx gx rx hXI a1 a2 a3 a4 a5) (cwV 5 hts (gz_lV lm_395 lm_396 lm_397 lm_4 lm_394 lwGA goodGA) rfl rfl rfl hdV_X11_reports_X11_5 ⟨Nat.le_of_ble_eq_true rfl, Nat.le_of_ble_eq_true rfl⟩) rfl rfl hl.1 (Nat.le_of_ble_eq_true rfl) (dk_at dkL_c49 26 rfl) (lw_rm (a := 0) (b := 0) hn hL (Nat.le_of_ble_eq_true rfl) (Nat.le_of_ble_eq_true rfl)) hz hK hP hD hS (fun rx9 ax2 kx2 vx2 fx2 gx2 rx2 H locs h0 hXI2 hrelx hK hP hD hS => ?_)
  refine lv_pop hx hb (dk_at dkL_c49 27 rfl) rfl ?_
  refine lv_aload_n hx hb (dk_at dkL_c49 28 rfl) rfl (lv_at hl 2 rfl) ?_
  refine lw_arg hx hb hX hbl hbA hS hl (dk_at dkL_c49 29 rfl) (dk_at dkL_c49 30 rfl) (dk_at dkL_c49 31 rfl) (dk_at dkL_c49 32 rfl) (dk_at dkL_c49 33 rfl) 1 (by decide) (Nat.le_of_ble_eq_true rfl) hn hL (fun a6 ea6 => ?_)
  refine lw_arg hx hb hX hbl hbA hS hl (dk_at dkL_c49 34 rfl) (dk_at dkL_c49 35 rfl) (dk_at dkL_c49 36 rfl) (dk_at dkL_c49 37 rfl) (dk_at dkL_c49 38 rfl) 2 (by decide) (Nat.le_of_ble_eq_true rfl) hn hL (fun a7 ea7 => ?_)
  refine lw_arg hx hb hX hbl hbA hS hl (dk_at dkL_c49 39 rfl) (dk_at dkL_c49 40 rfl) (dk_at dkL_c49 41 rfl) (dk_at dkL_c49 42 rfl) (dk_at dkL_c49 43 rfl) 3 (by decide) (Nat.le_of_ble_eq_true rfl) hn hL (fun a8 ea8 => ?_)
  refine lw_arg hx hb hX hbl hbA hS hl (dk_at dkL_c49 44 rfl) (dk_at dkL_c49 45 rfl) (dk_at dkL_c49 46 rfl) (dk_at dkL_c49 47 rfl) (dk_at dkL_c49 48 rfl) 4 (by decide) (Nat.le_of_ble_eq_true rfl) hn hL (fun a9 ea9 => ?_)
  refine lw_arg hx hb hX hbl hbA hS hl (dk_at dkL_c49 49 rfl) (dk_at dkL_c49 50 rfl) (dk_at dkL_c49 51 rfl) (dk_at dkL_c49 52 rfl) (dk_at dkL_c49 53 rfl) 5 (by decide) (Nat.le_of_ble_eq_true rfl) hn hL (fun a10 ea10 => ?_)
  refine lw_cm (st := [.int a10, .int a9, .int a8, .int a7, .int a6, .ref hm]) (rest := []) ⟨hx, hb, hml, hown, hts⟩ (uX12_reports l dC dI H.size hm mi mr km fm hMI a6 a7 a8 a9 a10) (cwV 5 hts (gz_lV lm_399 lm_400 lm_401 lm_9 lm_398 lwGB goodGB) rfl rfl rfl hdV_X12_reports_X12_5 ⟨Nat.le_of_ble_eq_true rfl, Nat.le_of_ble_eq_true rfl⟩) rfl rfl hl.1 (Nat.le_of_ble_eq_true rfl) (dk_at dkL_c49 54 rfl) (lw_rm2 (a := 0) (b := 0) (a2 := 0) (b2 := 0) hn hL (Nat.le_of_ble_eq_true rfl) (Nat.le_of_ble_eq_true rfl)) hK hP hD hS (fun rm9 mi2 fm2 H locs hMI2 hrelm hP hD hS => ?_)
  refine lv_pop hx hb (dk_at dkL_c49 55 rfl) rfl ?_
  refine lv_goto (tgt := 2056) hx hb (dk_at dkL_c49 56 rfl) (by decide) ?_
  have e90 : a6 = a1 := ea6.trans ea1.symm
  have e91 : a7 = a2 := ea7.trans ea2.symm
  have e92 : a8 = a3 := ea8.trans ea3.symm
  have e93 : a9 = a4 := ea9.trans ea4.symm
  have e94 : a10 = a5 := ea10.trans ea5.symm
  rw [e90, e91, e92, e93, e94] at hrelm
  have hN9 := pr_reports hXI hMI hlen hrelx hrelm
  refine W.widen (k := 400 + (n + 1)) (n := 40000 + 5 * (n + 1)) (by omega) (by omega) ?_
  exact next _ _ _ ⟨ax2, kx2, vx2, fx2, gx2, rx2, mi2, mr, km, fm2, h0, hK, hXI2, hMI2, hN9.1, hP, hD⟩ hS hl
noncomputable def lsL_c50 : List (Nat × Instr × Nat) := [(1934, .aload_n 1, 1), (1935, .aload_n 0, 1), (1936, .iload_n 3, 1), (1937, .iconst 1, 1), (1938, .iadd, 1), (1939, .iaload, 1), (1940, .invokevirtual 219, 3), (1943, .pop, 1), (1944, .aload_n 2, 1), (1945, .aload_n 0, 1), (1946, .iload_n 3, 1), (1947, .iconst 1, 1), (1948, .iadd, 1), (1949, .iaload, 1), (1950, .invokevirtual 222, 3), (1953, .pop, 1), (1954, .goto 102, 3)]
theorem dkL_c50 : dkAll cL_law lsL_c50 = true := dk_fast (by decide +kernel)
set_option maxHeartbeats 4000000 in
set_option maxRecDepth 100000 in
theorem law_c50 {p : Program} {l : Launch} {e : Env} {s : State} {m : MethodId} {below : List Frame} {meth : Method} {c : Code} {dC : Nat → ClassId} {dI : Nat → Nat → Nat} {b L : Nat} {xs : Nat → Int32} (hL : L ≤ 3072) (C0 : lw_At p s m meth c b L xs) (hz : nzA s) {sa sb sa2 sb2 : Nat → Nat} {zf : Value} (hTA : gz_ST RX6 stIA sa sb zf (fun q : Nat => s.heap.size ≤ q) s s.heap) (hTB : gz_ST RX12 stIB sa2 sb2 zf (fun q : Nat => s.heap.size ≤ q) s s.heap) {x0 hm n : Nat} (hn : 6 * n + 6 ≤ L) {H : Heap} {locs : List Loc} {ls : Array Slot} (hI : LInv dC dI s x0 hm H) (hS : va_S (fun q : Nat => s.heap.size ≤ q) s.heap H locs) (hl : lv_has ls 4 [(0, .ref b), (1, .ref x0), (2, .ref hm), (3, .int (nI (6 * n)))]) (next : ∀ (H : Heap) (locs : List Loc) (ls : Array Slot), LInv dC dI s x0 hm H → va_S (fun q : Nat => s.heap.size ≤ q) s.heap H locs → lv_has ls 4 [(0, .ref b), (1, .ref x0), (2, .ref hm), (3, .int (nI (6 * n)))] → W p l e room_1 s m #[Value.ref b] below meth c H locs (400 + (n + 1)) (40000 + 5 * (n + 1)) (lw_Z below #[Value.ref b] s) (F0 m 2056 ls [])) : W p l e room_1 s m #[Value.ref b] below meth c H locs (400 + n) (40000 + 5 * n) (lw_Z below #[Value.ref b] s) (F0 m 1934 ls []) := by
  obtain ⟨hx, hb, hr, hml, hown0, hts, hX, hbl, hlocks, hgv⟩ := id C0
  have hown : s.vm.findClass RL = some m.cls := hown0
  have hA : ∀ q : Nat, s.heap.size ≤ q → (fun q : Nat => s.heap.size ≤ q) q := fun _ h => h
  have hbA : ¬ (fun q : Nat => s.heap.size ≤ q) b := Nat.not_le.mpr hbl
  obtain ⟨ax, kx, vx, fx, gx, rx, mi, mr, km, fm, rfl, hK, hXI, hMI, hlen, hP, hD⟩ := hI
  refine lv_aload_n hx hb (dk_at dkL_c50 0 rfl) rfl (lv_at hl 1 rfl) ?_
  refine lw_arg hx hb hX hbl hbA hS hl (dk_at dkL_c50 1 rfl) (dk_at dkL_c50 2 rfl) (dk_at dkL_c50 3 rfl) (dk_at dkL_c50 4 rfl) (dk_at dkL_c50 5 rfl) 1 (by decide) (Nat.le_of_ble_eq_true rfl) hn hL (fun a1 ea1 => ?_)
  refine lw_cx (st := [.int a1, .ref (ax 0)]) (rest := []) ⟨hx, hb, hml, hown, hts⟩ (uX11_strikes l dC dI H.size ax kx vx fx gx rx hXI a1) (cwV 1 hts (gz_lV lm_403 lm_404 lm_405 lm_4 lm_402 lwGA goodGA) rfl rfl rfl hdV_X11_strikes_X11_1 ⟨Nat.le_of_ble_eq_true rfl, Nat.le_of_ble_eq_true rfl⟩) rfl rfl hl.1 (Nat.le_of_ble_eq_true rfl) (dk_at dkL_c50 6 rfl) (lw_rm (a := 0) (b := 0) hn hL (Nat.le_of_ble_eq_true rfl) (Nat.le_of_ble_eq_true rfl)) hz hK hP hD hS (fun rx9 ax2 kx2 vx2 fx2 gx2 rx2 H locs h0 hXI2 hrelx hK hP hD hS => ?_)
  refine lv_pop hx hb (dk_at dkL_c50 7 rfl) rfl ?_
  refine lv_aload_n hx hb (dk_at dkL_c50 8 rfl) rfl (lv_at hl 2 rfl) ?_
  refine lw_arg hx hb hX hbl hbA hS hl (dk_at dkL_c50 9 rfl) (dk_at dkL_c50 10 rfl) (dk_at dkL_c50 11 rfl) (dk_at dkL_c50 12 rfl) (dk_at dkL_c50 13 rfl) 1 (by decide) (Nat.le_of_ble_eq_true rfl) hn hL (fun a2 ea2 => ?_)
  refine lw_cm (st := [.int a2, .ref hm]) (rest := []) ⟨hx, hb, hml, hown, hts⟩ (uX12_strikes l dC dI H.size hm mi mr km fm hMI a2) (cwV 1 hts (gz_lV lm_407 lm_408 lm_409 lm_9 lm_406 lwGB goodGB) rfl rfl rfl hdV_X12_strikes_X12_1 ⟨Nat.le_of_ble_eq_true rfl, Nat.le_of_ble_eq_true rfl⟩) rfl rfl hl.1 (Nat.le_of_ble_eq_true rfl) (dk_at dkL_c50 14 rfl) (lw_rm2 (a := 0) (b := 0) (a2 := 0) (b2 := 0) hn hL (Nat.le_of_ble_eq_true rfl) (Nat.le_of_ble_eq_true rfl)) hK hP hD hS (fun rm9 mi2 fm2 H locs hMI2 hrelm hP hD hS => ?_)
  refine lv_pop hx hb (dk_at dkL_c50 15 rfl) rfl ?_
  refine lv_goto (tgt := 2056) hx hb (dk_at dkL_c50 16 rfl) (by decide) ?_
  have e90 : a2 = a1 := ea2.trans ea1.symm
  rw [e90] at hrelm
  have hN9 := pr_strikes hXI hMI hlen hrelx hrelm
  refine W.widen (k := 400 + (n + 1)) (n := 40000 + 5 * (n + 1)) (by omega) (by omega) ?_
  exact next _ _ _ ⟨ax2, kx2, vx2, fx2, gx2, rx2, mi2, mr, km, fm2, h0, hK, hXI2, hMI2, hN9.1, hP, hD⟩ hS hl
noncomputable def lsL_c51 : List (Nat × Instr × Nat) := [(1957, .aload_n 1, 1), (1958, .aload_n 0, 1), (1959, .iload_n 3, 1), (1960, .iconst 1, 1), (1961, .iadd, 1), (1962, .iaload, 1), (1963, .aload_n 0, 1), (1964, .iload_n 3, 1), (1965, .iconst 2, 1), (1966, .iadd, 1), (1967, .iaload, 1), (1968, .invokevirtual 223, 3), (1971, .pop, 1), (1972, .aload_n 2, 1), (1973, .aload_n 0, 1), (1974, .iload_n 3, 1), (1975, .iconst 1, 1), (1976, .iadd, 1), (1977, .iaload, 1), (1978, .aload_n 0, 1), (1979, .iload_n 3, 1), (1980, .iconst 2, 1), (1981, .iadd, 1), (1982, .iaload, 1), (1983, .invokevirtual 226, 3), (1986, .pop, 1), (1987, .goto 69, 3)]
theorem dkL_c51 : dkAll cL_law lsL_c51 = true := dk_fast (by decide +kernel)
set_option maxHeartbeats 4000000 in
set_option maxRecDepth 100000 in
theorem law_c51 {p : Program} {l : Launch} {e : Env} {s : State} {m : MethodId} {below : List Frame} {meth : Method} {c : Code} {dC : Nat → ClassId} {dI : Nat → Nat → Nat} {b L : Nat} {xs : Nat → Int32} (hL : L ≤ 3072) (C0 : lw_At p s m meth c b L xs) (hz : nzA s) {sa sb sa2 sb2 : Nat → Nat} {zf : Value} (hTA : gz_ST RX6 stIA sa sb zf (fun q : Nat => s.heap.size ≤ q) s s.heap) (hTB : gz_ST RX12 stIB sa2 sb2 zf (fun q : Nat => s.heap.size ≤ q) s s.heap) {x0 hm n : Nat} (hn : 6 * n + 6 ≤ L) {H : Heap} {locs : List Loc} {ls : Array Slot} (hI : LInv dC dI s x0 hm H) (hS : va_S (fun q : Nat => s.heap.size ≤ q) s.heap H locs) (hl : lv_has ls 4 [(0, .ref b), (1, .ref x0), (2, .ref hm), (3, .int (nI (6 * n)))]) (next : ∀ (H : Heap) (locs : List Loc) (ls : Array Slot), LInv dC dI s x0 hm H → va_S (fun q : Nat => s.heap.size ≤ q) s.heap H locs → lv_has ls 4 [(0, .ref b), (1, .ref x0), (2, .ref hm), (3, .int (nI (6 * n)))] → W p l e room_1 s m #[Value.ref b] below meth c H locs (400 + (n + 1)) (40000 + 5 * (n + 1)) (lw_Z below #[Value.ref b] s) (F0 m 2056 ls [])) : W p l e room_1 s m #[Value.ref b] below meth c H locs (400 + n) (40000 + 5 * n) (lw_Z below #[Value.ref b] s) (F0 m 1957 ls []) := by
  obtain ⟨hx, hb, hr, hml, hown0, hts, hX, hbl, hlocks, hgv⟩ := id C0
  have hown : s.vm.findClass RL = some m.cls := hown0
  have hA : ∀ q : Nat, s.heap.size ≤ q → (fun q : Nat => s.heap.size ≤ q) q := fun _ h => h
  have hbA : ¬ (fun q : Nat => s.heap.size ≤ q) b := Nat.not_le.mpr hbl
  obtain ⟨ax, kx, vx, fx, gx, rx, mi, mr, km, fm, rfl, hK, hXI, hMI, hlen, hP, hD⟩ := hI
  refine lv_aload_n hx hb (dk_at dkL_c51 0 rfl) rfl (lv_at hl 1 rfl) ?_
  refine lw_arg hx hb hX hbl hbA hS hl (dk_at dkL_c51 1 rfl) (dk_at dkL_c51 2 rfl) (dk_at dkL_c51 3 rfl) (dk_at dkL_c51 4 rfl) (dk_at dkL_c51 5 rfl) 1 (by decide) (Nat.le_of_ble_eq_true rfl) hn hL (fun a1 ea1 => ?_)
  refine lw_arg hx hb hX hbl hbA hS hl (dk_at dkL_c51 6 rfl) (dk_at dkL_c51 7 rfl) (dk_at dkL_c51 8 rfl) (dk_at dkL_c51 9 rfl) (dk_at dkL_c51 10 rfl) 2 (by decide) (Nat.le_of_ble_eq_true rfl) hn hL (fun a2 ea2 => ?_)
  refine lw_cx (st := [.int a2, .int a1, .ref (ax 0)]) (rest := []) ⟨hx, hb, hml, hown, hts⟩ (uX11_trusts l dC dI H.size ax kx vx fx gx rx hXI a1 a2) (cwV 2 hts (gz_lV lm_411 lm_412 lm_413 lm_4 lm_410 lwGA goodGA) rfl rfl rfl hdV_X11_trusts_X11_2 ⟨Nat.le_of_ble_eq_true rfl, Nat.le_of_ble_eq_true rfl⟩) rfl rfl hl.1 (Nat.le_of_ble_eq_true rfl) (dk_at dkL_c51 11 rfl) (lw_rm (a := 0) (b := 0) hn hL (Nat.le_of_ble_eq_true rfl) (Nat.le_of_ble_eq_true rfl)) hz hK hP hD hS (fun rx9 ax2 kx2 vx2 fx2 gx2 rx2 H locs h0 hXI2 hrelx hK hP hD hS => ?_)
  refine lv_pop hx hb (dk_at dkL_c51 12 rfl) rfl ?_
  refine lv_aload_n hx hb (dk_at dkL_c51 13 rfl) rfl (lv_at hl 2 rfl) ?_
  refine lw_arg hx hb hX hbl hbA hS hl (dk_at dkL_c51 14 rfl) (dk_at dkL_c51 15 rfl) (dk_at dkL_c51 16 rfl) (dk_at dkL_c51 17 rfl) (dk_at dkL_c51 18 rfl) 1 (by decide) (Nat.le_of_ble_eq_true rfl) hn hL (fun a3 ea3 => ?_)
  refine lw_arg hx hb hX hbl hbA hS hl (dk_at dkL_c51 19 rfl) (dk_at dkL_c51 20 rfl) (dk_at dkL_c51 21 rfl) (dk_at dkL_c51 22 rfl) (dk_at dkL_c51 23 rfl) 2 (by decide) (Nat.le_of_ble_eq_true rfl) hn hL (fun a4 ea4 => ?_)
  refine lw_cm (st := [.int a4, .int a3, .ref hm]) (rest := []) ⟨hx, hb, hml, hown, hts⟩ (uX12_trusts l dC dI H.size hm mi mr km fm hMI a3 a4) (cwV 2 hts (gz_lV lm_415 lm_416 lm_417 lm_9 lm_414 lwGB goodGB) rfl rfl rfl hdV_X12_trusts_X12_2 ⟨Nat.le_of_ble_eq_true rfl, Nat.le_of_ble_eq_true rfl⟩) rfl rfl hl.1 (Nat.le_of_ble_eq_true rfl) (dk_at dkL_c51 24 rfl) (lw_rm2 (a := 0) (b := 0) (a2 := 0) (b2 := 0) hn hL (Nat.le_of_ble_eq_true rfl) (Nat.le_of_ble_eq_true rfl)) hK hP hD hS (fun rm9 mi2 fm2 H locs hMI2 hrelm hP hD hS => ?_)
  refine lv_pop hx hb (dk_at dkL_c51 25 rfl) rfl ?_
  refine lv_goto (tgt := 2056) hx hb (dk_at dkL_c51 26 rfl) (by decide) ?_
  have e90 : a3 = a1 := ea3.trans ea1.symm
  have e91 : a4 = a2 := ea4.trans ea2.symm
  rw [e90, e91] at hrelm
  have hN9 := pr_trusts hXI hMI hlen hrelx hrelm
  refine W.widen (k := 400 + (n + 1)) (n := 40000 + 5 * (n + 1)) (by omega) (by omega) ?_
  exact next _ _ _ ⟨ax2, kx2, vx2, fx2, gx2, rx2, mi2, mr, km, fm2, h0, hK, hXI2, hMI2, hN9.1, hP, hD⟩ hS hl
noncomputable def lsL_c52 : List (Nat × Instr × Nat) := [(1990, .aload_n 1, 1), (1991, .aload_n 0, 1), (1992, .iload_n 3, 1), (1993, .iconst 1, 1), (1994, .iadd, 1), (1995, .iaload, 1), (1996, .aload_n 0, 1), (1997, .iload_n 3, 1), (1998, .iconst 2, 1), (1999, .iadd, 1), (2000, .iaload, 1), (2001, .invokevirtual 227, 3), (2004, .pop, 1), (2005, .aload_n 2, 1), (2006, .aload_n 0, 1), (2007, .iload_n 3, 1), (2008, .iconst 1, 1), (2009, .iadd, 1), (2010, .iaload, 1), (2011, .aload_n 0, 1), (2012, .iload_n 3, 1), (2013, .iconst 2, 1), (2014, .iadd, 1), (2015, .iaload, 1), (2016, .invokevirtual 230, 3), (2019, .pop, 1), (2020, .goto 36, 3)]
theorem dkL_c52 : dkAll cL_law lsL_c52 = true := dk_fast (by decide +kernel)
set_option maxHeartbeats 4000000 in
set_option maxRecDepth 100000 in
theorem law_c52 {p : Program} {l : Launch} {e : Env} {s : State} {m : MethodId} {below : List Frame} {meth : Method} {c : Code} {dC : Nat → ClassId} {dI : Nat → Nat → Nat} {b L : Nat} {xs : Nat → Int32} (hL : L ≤ 3072) (C0 : lw_At p s m meth c b L xs) (hz : nzA s) {sa sb sa2 sb2 : Nat → Nat} {zf : Value} (hTA : gz_ST RX6 stIA sa sb zf (fun q : Nat => s.heap.size ≤ q) s s.heap) (hTB : gz_ST RX12 stIB sa2 sb2 zf (fun q : Nat => s.heap.size ≤ q) s s.heap) {x0 hm n : Nat} (hn : 6 * n + 6 ≤ L) {H : Heap} {locs : List Loc} {ls : Array Slot} (hI : LInv dC dI s x0 hm H) (hS : va_S (fun q : Nat => s.heap.size ≤ q) s.heap H locs) (hl : lv_has ls 4 [(0, .ref b), (1, .ref x0), (2, .ref hm), (3, .int (nI (6 * n)))]) (next : ∀ (H : Heap) (locs : List Loc) (ls : Array Slot), LInv dC dI s x0 hm H → va_S (fun q : Nat => s.heap.size ≤ q) s.heap H locs → lv_has ls 4 [(0, .ref b), (1, .ref x0), (2, .ref hm), (3, .int (nI (6 * n)))] → W p l e room_1 s m #[Value.ref b] below meth c H locs (400 + (n + 1)) (40000 + 5 * (n + 1)) (lw_Z below #[Value.ref b] s) (F0 m 2056 ls [])) : W p l e room_1 s m #[Value.ref b] below meth c H locs (400 + n) (40000 + 5 * n) (lw_Z below #[Value.ref b] s) (F0 m 1990 ls []) := by
  obtain ⟨hx, hb, hr, hml, hown0, hts, hX, hbl, hlocks, hgv⟩ := id C0
  have hown : s.vm.findClass RL = some m.cls := hown0
  have hA : ∀ q : Nat, s.heap.size ≤ q → (fun q : Nat => s.heap.size ≤ q) q := fun _ h => h
  have hbA : ¬ (fun q : Nat => s.heap.size ≤ q) b := Nat.not_le.mpr hbl
  obtain ⟨ax, kx, vx, fx, gx, rx, mi, mr, km, fm, rfl, hK, hXI, hMI, hlen, hP, hD⟩ := hI
  refine lv_aload_n hx hb (dk_at dkL_c52 0 rfl) rfl (lv_at hl 1 rfl) ?_
  refine lw_arg hx hb hX hbl hbA hS hl (dk_at dkL_c52 1 rfl) (dk_at dkL_c52 2 rfl) (dk_at dkL_c52 3 rfl) (dk_at dkL_c52 4 rfl) (dk_at dkL_c52 5 rfl) 1 (by decide) (Nat.le_of_ble_eq_true rfl) hn hL (fun a1 ea1 => ?_)
  refine lw_arg hx hb hX hbl hbA hS hl (dk_at dkL_c52 6 rfl) (dk_at dkL_c52 7 rfl) (dk_at dkL_c52 8 rfl) (dk_at dkL_c52 9 rfl) (dk_at dkL_c52 10 rfl) 2 (by decide) (Nat.le_of_ble_eq_true rfl) hn hL (fun a2 ea2 => ?_)
  refine lw_cx (st := [.int a2, .int a1, .ref (ax 0)]) (rest := []) ⟨hx, hb, hml, hown, hts⟩ (uX11_moon l dC dI H.size ax kx vx fx gx rx hXI a1 a2) (cwV 2 hts (gz_lV lm_419 lm_420 lm_421 lm_4 lm_418 lwGA goodGA) rfl rfl rfl hdV_X11_moon_X11_2 ⟨Nat.le_of_ble_eq_true rfl, Nat.le_of_ble_eq_true rfl⟩) rfl rfl hl.1 (Nat.le_of_ble_eq_true rfl) (dk_at dkL_c52 11 rfl) (lw_rm (a := 0) (b := 0) hn hL (Nat.le_of_ble_eq_true rfl) (Nat.le_of_ble_eq_true rfl)) hz hK hP hD hS (fun rx9 ax2 kx2 vx2 fx2 gx2 rx2 H locs h0 hXI2 hrelx hK hP hD hS => ?_)
  refine lv_pop hx hb (dk_at dkL_c52 12 rfl) rfl ?_
  refine lv_aload_n hx hb (dk_at dkL_c52 13 rfl) rfl (lv_at hl 2 rfl) ?_
  refine lw_arg hx hb hX hbl hbA hS hl (dk_at dkL_c52 14 rfl) (dk_at dkL_c52 15 rfl) (dk_at dkL_c52 16 rfl) (dk_at dkL_c52 17 rfl) (dk_at dkL_c52 18 rfl) 1 (by decide) (Nat.le_of_ble_eq_true rfl) hn hL (fun a3 ea3 => ?_)
  refine lw_arg hx hb hX hbl hbA hS hl (dk_at dkL_c52 19 rfl) (dk_at dkL_c52 20 rfl) (dk_at dkL_c52 21 rfl) (dk_at dkL_c52 22 rfl) (dk_at dkL_c52 23 rfl) 2 (by decide) (Nat.le_of_ble_eq_true rfl) hn hL (fun a4 ea4 => ?_)
  refine lw_cm (st := [.int a4, .int a3, .ref hm]) (rest := []) ⟨hx, hb, hml, hown, hts⟩ (uX12_moon l dC dI H.size hm mi mr km fm hMI a3 a4) (cwV 2 hts (gz_lV lm_423 lm_424 lm_425 lm_9 lm_422 lwGB goodGB) rfl rfl rfl hdV_X12_moon_X12_2 ⟨Nat.le_of_ble_eq_true rfl, Nat.le_of_ble_eq_true rfl⟩) rfl rfl hl.1 (Nat.le_of_ble_eq_true rfl) (dk_at dkL_c52 24 rfl) (lw_rm2 (a := 0) (b := 0) (a2 := 0) (b2 := 0) hn hL (Nat.le_of_ble_eq_true rfl) (Nat.le_of_ble_eq_true rfl)) hK hP hD hS (fun rm9 mi2 fm2 H locs hMI2 hrelm hP hD hS => ?_)
  refine lv_pop hx hb (dk_at dkL_c52 25 rfl) rfl ?_
  refine lv_goto (tgt := 2056) hx hb (dk_at dkL_c52 26 rfl) (by decide) ?_
  have e90 : a3 = a1 := ea3.trans ea1.symm
  have e91 : a4 = a2 := ea4.trans ea2.symm
  rw [e90, e91] at hrelm
  have hN9 := pr_moon hXI hMI hlen hrelx hrelm
  refine W.widen (k := 400 + (n + 1)) (n := 40000 + 5 * (n + 1)) (by omega) (by omega) ?_
  exact next _ _ _ ⟨ax2, kx2, vx2, fx2, gx2, rx2, mi2, mr, km, fm2, h0, hK, hXI2, hMI2, hN9.1, hP, hD⟩ hS hl
noncomputable def lsL_c53 : List (Nat × Instr × Nat) := [(2023, .aload_n 1, 1), (2024, .aload_n 0, 1), (2025, .iload_n 3, 1), (2026, .iconst 1, 1), (2027, .iadd, 1), (2028, .iaload, 1), (2029, .aload_n 0, 1), (2030, .iload_n 3, 1), (2031, .iconst 2, 1), (2032, .iadd, 1), (2033, .iaload, 1), (2034, .invokevirtual 231, 3), (2037, .pop, 1), (2038, .aload_n 2, 1), (2039, .aload_n 0, 1), (2040, .iload_n 3, 1), (2041, .iconst 1, 1), (2042, .iadd, 1), (2043, .iaload, 1), (2044, .aload_n 0, 1), (2045, .iload_n 3, 1), (2046, .iconst 2, 1), (2047, .iadd, 1), (2048, .iaload, 1), (2049, .invokevirtual 234, 3), (2052, .pop, 1), (2053, .goto 3, 3)]
theorem dkL_c53 : dkAll cL_law lsL_c53 = true := dk_fast (by decide +kernel)
set_option maxHeartbeats 4000000 in
set_option maxRecDepth 100000 in
theorem law_c53 {p : Program} {l : Launch} {e : Env} {s : State} {m : MethodId} {below : List Frame} {meth : Method} {c : Code} {dC : Nat → ClassId} {dI : Nat → Nat → Nat} {b L : Nat} {xs : Nat → Int32} (hL : L ≤ 3072) (C0 : lw_At p s m meth c b L xs) (hz : nzA s) {sa sb sa2 sb2 : Nat → Nat} {zf : Value} (hTA : gz_ST RX6 stIA sa sb zf (fun q : Nat => s.heap.size ≤ q) s s.heap) (hTB : gz_ST RX12 stIB sa2 sb2 zf (fun q : Nat => s.heap.size ≤ q) s s.heap) {x0 hm n : Nat} (hn : 6 * n + 6 ≤ L) {H : Heap} {locs : List Loc} {ls : Array Slot} (hI : LInv dC dI s x0 hm H) (hS : va_S (fun q : Nat => s.heap.size ≤ q) s.heap H locs) (hl : lv_has ls 4 [(0, .ref b), (1, .ref x0), (2, .ref hm), (3, .int (nI (6 * n)))]) (next : ∀ (H : Heap) (locs : List Loc) (ls : Array Slot), LInv dC dI s x0 hm H → va_S (fun q : Nat => s.heap.size ≤ q) s.heap H locs → lv_has ls 4 [(0, .ref b), (1, .ref x0), (2, .ref hm), (3, .int (nI (6 * n)))] → W p l e room_1 s m #[Value.ref b] below meth c H locs (400 + (n + 1)) (40000 + 5 * (n + 1)) (lw_Z below #[Value.ref b] s) (F0 m 2056 ls [])) : W p l e room_1 s m #[Value.ref b] below meth c H locs (400 + n) (40000 + 5 * n) (lw_Z below #[Value.ref b] s) (F0 m 2023 ls []) := by
  obtain ⟨hx, hb, hr, hml, hown0, hts, hX, hbl, hlocks, hgv⟩ := id C0
  have hown : s.vm.findClass RL = some m.cls := hown0
  have hA : ∀ q : Nat, s.heap.size ≤ q → (fun q : Nat => s.heap.size ≤ q) q := fun _ h => h
  have hbA : ¬ (fun q : Nat => s.heap.size ≤ q) b := Nat.not_le.mpr hbl
  obtain ⟨ax, kx, vx, fx, gx, rx, mi, mr, km, fm, rfl, hK, hXI, hMI, hlen, hP, hD⟩ := hI
  refine lv_aload_n hx hb (dk_at dkL_c53 0 rfl) rfl (lv_at hl 1 rfl) ?_
  refine lw_arg hx hb hX hbl hbA hS hl (dk_at dkL_c53 1 rfl) (dk_at dkL_c53 2 rfl) (dk_at dkL_c53 3 rfl) (dk_at dkL_c53 4 rfl) (dk_at dkL_c53 5 rfl) 1 (by decide) (Nat.le_of_ble_eq_true rfl) hn hL (fun a1 ea1 => ?_)
  refine lw_arg hx hb hX hbl hbA hS hl (dk_at dkL_c53 6 rfl) (dk_at dkL_c53 7 rfl) (dk_at dkL_c53 8 rfl) (dk_at dkL_c53 9 rfl) (dk_at dkL_c53 10 rfl) 2 (by decide) (Nat.le_of_ble_eq_true rfl) hn hL (fun a2 ea2 => ?_)
  refine lw_cx (st := [.int a2, .int a1, .ref (ax 0)]) (rest := []) ⟨hx, hb, hml, hown, hts⟩ (uX11_runs l dC dI H.size ax kx vx fx gx rx hXI a1 a2) (cwV 2 hts (gz_lV lm_427 lm_428 lm_429 lm_4 lm_426 lwGA goodGA) rfl rfl rfl hdV_X11_runs_X11_2 ⟨Nat.le_of_ble_eq_true rfl, Nat.le_of_ble_eq_true rfl⟩) rfl rfl hl.1 (Nat.le_of_ble_eq_true rfl) (dk_at dkL_c53 11 rfl) (lw_rm (a := 0) (b := 0) hn hL (Nat.le_of_ble_eq_true rfl) (Nat.le_of_ble_eq_true rfl)) hz hK hP hD hS (fun rx9 ax2 kx2 vx2 fx2 gx2 rx2 H locs h0 hXI2 hrelx hK hP hD hS => ?_)
  refine lv_pop hx hb (dk_at dkL_c53 12 rfl) rfl ?_
  refine lv_aload_n hx hb (dk_at dkL_c53 13 rfl) rfl (lv_at hl 2 rfl) ?_
  refine lw_arg hx hb hX hbl hbA hS hl (dk_at dkL_c53 14 rfl) (dk_at dkL_c53 15 rfl) (dk_at dkL_c53 16 rfl) (dk_at dkL_c53 17 rfl) (dk_at dkL_c53 18 rfl) 1 (by decide) (Nat.le_of_ble_eq_true rfl) hn hL (fun a3 ea3 => ?_)
  refine lw_arg hx hb hX hbl hbA hS hl (dk_at dkL_c53 19 rfl) (dk_at dkL_c53 20 rfl) (dk_at dkL_c53 21 rfl) (dk_at dkL_c53 22 rfl) (dk_at dkL_c53 23 rfl) 2 (by decide) (Nat.le_of_ble_eq_true rfl) hn hL (fun a4 ea4 => ?_)
  refine lw_cm (st := [.int a4, .int a3, .ref hm]) (rest := []) ⟨hx, hb, hml, hown, hts⟩ (uX12_runs l dC dI H.size hm mi mr km fm hMI a3 a4) (cwV 2 hts (gz_lV lm_431 lm_432 lm_433 lm_9 lm_430 lwGB goodGB) rfl rfl rfl hdV_X12_runs_X12_2 ⟨Nat.le_of_ble_eq_true rfl, Nat.le_of_ble_eq_true rfl⟩) rfl rfl hl.1 (Nat.le_of_ble_eq_true rfl) (dk_at dkL_c53 24 rfl) (lw_rm2 (a := 0) (b := 0) (a2 := 0) (b2 := 0) hn hL (Nat.le_of_ble_eq_true rfl) (Nat.le_of_ble_eq_true rfl)) hK hP hD hS (fun rm9 mi2 fm2 H locs hMI2 hrelm hP hD hS => ?_)
  refine lv_pop hx hb (dk_at dkL_c53 25 rfl) rfl ?_
  refine lv_goto (tgt := 2056) hx hb (dk_at dkL_c53 26 rfl) (by decide) ?_
  have e90 : a3 = a1 := ea3.trans ea1.symm
  have e91 : a4 = a2 := ea4.trans ea2.symm
  rw [e90, e91] at hrelm
  have hN9 := pr_runs hXI hMI hlen hrelx hrelm
  refine W.widen (k := 400 + (n + 1)) (n := 40000 + 5 * (n + 1)) (by omega) (by omega) ?_
  exact next _ _ _ ⟨ax2, kx2, vx2, fx2, gx2, rx2, mi2, mr, km, fm2, h0, hK, hXI2, hMI2, hN9.1, hP, hD⟩ hS hl
