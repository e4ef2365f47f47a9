
noncomputable def lsL_c18 : List (Nat × Instr × Nat) := [(808, .aload_n 1, 1), (809, .aload_n 0, 1), (810, .iload_n 3, 1), (811, .iconst 1, 1), (812, .iadd, 1), (813, .iaload, 1), (814, .aload_n 0, 1), (815, .iload_n 3, 1), (816, .iconst 2, 1), (817, .iadd, 1), (818, .iaload, 1), (819, .invokevirtual 90, 3), (822, .pop, 1), (823, .aload_n 2, 1), (824, .aload_n 0, 1), (825, .iload_n 3, 1), (826, .iconst 1, 1), (827, .iadd, 1), (828, .iaload, 1), (829, .aload_n 0, 1), (830, .iload_n 3, 1), (831, .iconst 2, 1), (832, .iadd, 1), (833, .iaload, 1), (834, .invokevirtual 93, 3), (837, .pop, 1), (838, .goto 1218, 3)]
theorem dkL_c18 : dkAll cL_law lsL_c18 = true := dk_fast (by decide +kernel)
set_option maxHeartbeats 4000000 in
set_option maxRecDepth 100000 in
theorem law_c18 {p : Program} {l : Launch} {e : Env} {s : State} {m : MethodId} {below : List Frame} {meth : Method} {c : Code} {dC : Nat → ClassId} {dI : Nat → Nat → Nat} {b L : Nat} {xs : Nat → Int32} (hL : L ≤ 3072) (C0 : lw_At p s m meth c b L xs) (hz : nzA s) {sa sb sa2 sb2 : Nat → Nat} {zf : Value} (hTA : gz_ST RX6 stIA sa sb zf (fun q : Nat => s.heap.size ≤ q) s s.heap) (hTB : gz_ST RX12 stIB sa2 sb2 zf (fun q : Nat => s.heap.size ≤ q) s s.heap) {x0 hm n : Nat} (hn : 6 * n + 6 ≤ L) {H : Heap} {locs : List Loc} {ls : Array Slot} (hI : LInv dC dI s x0 hm H) (hS : va_S (fun q : Nat => s.heap.size ≤ q) s.heap H locs) (hl : lv_has ls 4 [(0, .ref b), (1, .ref x0), (2, .ref hm), (3, .int (nI (6 * n)))]) (next : ∀ (H : Heap) (locs : List Loc) (ls : Array Slot), LInv dC dI s x0 hm H → va_S (fun q : Nat => s.heap.size ≤ q) s.heap H locs → lv_has ls 4 [(0, .ref b), (1, .ref x0), (2, .ref hm), (3, .int (nI (6 * n)))] → W p l e room_1 s m #[Value.ref b] below meth c H locs (400 + (n + 1)) (40000 + 5 * (n + 1)) (lw_Z below #[Value.ref b] s) (F0 m 2056 ls [])) : W p l e room_1 s m #[Value.ref b] below meth c H locs (400 + n) (40000 + 5 * n) (lw_Z below #[Value.ref b] s) (F0 m 808 ls []) := by
  obtain ⟨hx, hb, hr, hml, hown0, hts, hX, hbl, hlocks, hgv⟩ := id C0
  have hown : s.vm.findClass RL = some m.cls := hown0
  have hA : ∀ q : Nat, s.heap.size ≤ q → (fun q : Nat => s.heap.size ≤ q) q := fun _ h => h
  have hbA : ¬ (fun q : Nat => s.heap.size ≤ q) b := Nat.not_le.mpr hbl
  obtain ⟨ax, kx, vx, fx, gx, rx, mi, mr, km, fm, rfl, hK, hXI, hMI, hlen, hP, hD⟩ := hI
  refine lv_aload_n hx hb (dk_at dkL_c18 0 rfl) rfl (lv_at hl 1 rfl) ?_
  refine lw_arg hx hb hX hbl hbA hS hl (dk_at dkL_c18 1 rfl) (dk_at dkL_c18 2 rfl) (dk_at dkL_c18 3 rfl) (dk_at dkL_c18 4 rfl) (dk_at dkL_c18 5 rfl) 1 (by decide) (Nat.le_of_ble_eq_true rfl) hn hL (fun a1 ea1 => ?_)
  refine lw_arg hx hb hX hbl hbA hS hl (dk_at dkL_c18 6 rfl) (dk_at dkL_c18 7 rfl) (dk_at dkL_c18 8 rfl) (dk_at dkL_c18 9 rfl) (dk_at dkL_c18 10 rfl) 2 (by decide) (Nat.le_of_ble_eq_true rfl) hn hL (fun a2 ea2 => ?_)
  refine lw_cx (st := [.int a2, .int a1, .ref (ax 0)]) (rest := []) ⟨hx, hb, hml, hown, hts⟩ (uX11_lasts l dC dI H.size ax kx vx fx gx rx hXI a1 a2) (cwV 2 hts (gz_lV lm_147 lm_148 lm_149 lm_4 lm_146 lwGA goodGA) rfl rfl rfl hdV_X11_lasts_X11_2 ⟨Nat.le_of_ble_eq_true rfl, Nat.le_of_ble_eq_true rfl⟩) rfl rfl hl.1 (Nat.le_of_ble_eq_true rfl) (dk_at dkL_c18 11 rfl) (lw_rm (a := 0) (b := 0) hn hL (Nat.le_of_ble_eq_true rfl) (Nat.le_of_ble_eq_true rfl)) hz hK hP hD hS (fun rx9 ax2 kx2 vx2 fx2 gx2 rx2 H locs h0 hXI2 hrelx hK hP hD hS => ?_)
  refine lv_pop hx hb (dk_at dkL_c18 12 rfl) rfl ?_
  refine lv_aload_n hx hb (dk_at dkL_c18 13 rfl) rfl (lv_at hl 2 rfl) ?_
  refine lw_arg hx hb hX hbl hbA hS hl (dk_at dkL_c18 14 rfl) (dk_at dkL_c18 15 rfl) (dk_at dkL_c18 16 rfl) (dk_at dkL_c18 17 rfl) (dk_at dkL_c18 18 rfl) 1 (by decide) (Nat.le_of_ble_eq_true rfl) hn hL (fun a3 ea3 => ?_)
  refine lw_arg hx hb hX hbl hbA hS hl (dk_at dkL_c18 19 rfl) (dk_at dkL_c18 20 rfl) (dk_at dkL_c18 21 rfl) (dk_at dkL_c18 22 rfl) (dk_at dkL_c18 23 rfl) 2 (by decide) (Nat.le_of_ble_eq_true rfl) hn hL (fun a4 ea4 => ?_)
  refine lw_cm (st := [.int a4, .int a3, .ref hm]) (rest := []) ⟨hx, hb, hml, hown, hts⟩ (uX12_lasts l dC dI H.size hm mi mr km fm hMI a3 a4) (cwV 2 hts (gz_lV lm_151 lm_152 lm_153 lm_9 lm_150 lwGB goodGB) rfl rfl rfl hdV_X12_lasts_X12_2 ⟨Nat.le_of_ble_eq_true rfl, Nat.le_of_ble_eq_true rfl⟩) rfl rfl hl.1 (Nat.le_of_ble_eq_true rfl) (dk_at dkL_c18 24 rfl) (lw_rm2 (a := 0) (b := 0) (a2 := 0) (b2 := 0) hn hL (Nat.le_of_ble_eq_true rfl) (Nat.le_of_ble_eq_true rfl)) hK hP hD hS (fun rm9 mi2 fm2 H locs hMI2 hrelm hP hD hS => ?_)
  refine lv_pop hx hb (dk_at dkL_c18 25 rfl) rfl ?_
  refine lv_goto (tgt := 2056) hx hb (dk_at dkL_c18 26 rfl) (by decide) ?_
  have e90 : a3 = a1 := ea3.trans ea1.symm
  have e91 : a4 = a2 := ea4.trans ea2.symm
  rw [e90, e91] at hrelm
  have hN9 := pr_lasts hXI hMI hlen hrelx hrelm
  refine W.widen (k := 400 + (n + 1)) (n := 40000 + 5 * (n + 1)) (by omega) (by omega) ?_
  exact next _ _ _ ⟨ax2, kx2, vx2, fx2, gx2, rx2, mi2, mr, km, fm2, h0, hK, hXI2, hMI2, hN9.1, hP, hD⟩ hS hl
noncomputable def lsL_c19 : List (Nat × Instr × Nat) := [(841, .aload_n 1, 1), (842, .aload_n 0, 1), (843, .iload_n 3, 1), (844, .iconst 1, 1), (845, .iadd, 1), (846, .iaload, 1), (847, .aload_n 0, 1), (848, .iload_n 3, 1), (849, .iconst 2, 1), (850, .iadd, 1), (851, .iaload, 1), (852, .aload_n 0, 1), (853, .iload_n 3, 1), (854, .iconst 3, 1), (855, .iadd, 1), (856, .iaload, 1), (857, .invokevirtual 94, 3), (860, .pop, 1), (861, .aload_n 2, 1), (862, .aload_n 0, 1), (863, .iload_n 3, 1), (864, .iconst 1, 1), (865, .iadd, 1), (866, .iaload, 1), (867, .aload_n 0, 1), (868, .iload_n 3, 1), (869, .iconst 2, 1), (870, .iadd, 1), (871, .iaload, 1), (872, .aload_n 0, 1), (873, .iload_n 3, 1), (874, .iconst 3, 1), (875, .iadd, 1), (876, .iaload, 1), (877, .invokevirtual 97, 3), (880, .pop, 1), (881, .goto 1175, 3)]
theorem dkL_c19 : dkAll cL_law lsL_c19 = true := dk_fast (by decide +kernel)
set_option maxHeartbeats 4000000 in
set_option maxRecDepth 100000 in
theorem law_c19 {p : Program} {l : Launch} {e : Env} {s : State} {m : MethodId} {below : List Frame} {meth : Method} {c : Code} {dC : Nat → ClassId} {dI : Nat → Nat → Nat} {b L : Nat} {xs : Nat → Int32} (hL : L ≤ 3072) (C0 : lw_At p s m meth c b L xs) (hz : nzA s) {sa sb sa2 sb2 : Nat → Nat} {zf : Value} (hTA : gz_ST RX6 stIA sa sb zf (fun q : Nat => s.heap.size ≤ q) s s.heap) (hTB : gz_ST RX12 stIB sa2 sb2 zf (fun q : Nat => s.heap.size ≤ q) s s.heap) {x0 hm n : Nat} (hn : 6 * n + 6 ≤ L) {H : Heap} {locs : List Loc} {ls : Array Slot} (hI : LInv dC dI s x0 hm H) (hS : va_S (fun q : Nat => s.heap.size ≤ q) s.heap H locs) (hl : lv_has ls 4 [(0, .ref b), (1, .ref x0), (2, .ref hm), (3, .int (nI (6 * n)))]) (next : ∀ (H : Heap) (locs : List Loc) (ls : Array Slot), LInv dC dI s x0 hm H → va_S (fun q : Nat => s.heap.size ≤ q) s.heap H locs → lv_has ls 4 [(0, .ref b), (1, .ref x0), (2, .ref hm), (3, .int (nI (6 * n)))] → W p l e room_1 s m #[Value.ref b] below meth c H locs (400 + (n + 1)) (40000 + 5 * (n + 1)) (lw_Z below #[Value.ref b] s) (F0 m 2056 ls [])) : W p l e room_1 s m #[Value.ref b] below meth c H locs (400 + n) (40000 + 5 * n) (lw_Z below #[Value.ref b] s) (F0 m 841 ls []) := by
  obtain ⟨hx, hb, hr, hml, hown0, hts, hX, hbl, hlocks, hgv⟩ := id C0
  have hown : s.vm.findClass RL = some m.cls := hown0
  have hA : ∀ q : Nat, s.heap.size ≤ q → (fun q : Nat => s.heap.size ≤ q) q := fun _ h => h
  have hbA : ¬ (fun q : Nat => s.heap.size ≤ q) b := Nat.not_le.mpr hbl
  obtain ⟨ax, kx, vx, fx, gx, rx, mi, mr, km, fm, rfl, hK, hXI, hMI, hlen, hP, hD⟩ := hI
  refine lv_aload_n hx hb (dk_at dkL_c19 0 rfl) rfl (lv_at hl 1 rfl) ?_
  refine lw_arg hx hb hX hbl hbA hS hl (dk_at dkL_c19 1 rfl) (dk_at dkL_c19 2 rfl) (dk_at dkL_c19 3 rfl) (dk_at dkL_c19 4 rfl) (dk_at dkL_c19 5 rfl) 1 (by decide) (Nat.le_of_ble_eq_true rfl) hn hL (fun a1 ea1 => ?_)
  refine lw_arg hx hb hX hbl hbA hS hl (dk_at dkL_c19 6 rfl) (dk_at dkL_c19 7 rfl) (dk_at dkL_c19 8 rfl) (dk_at dkL_c19 9 rfl) (dk_at dkL_c19 10 rfl) 2 (by decide) (Nat.le_of_ble_eq_true rfl) hn hL (fun a2 ea2 => ?_)
  refine lw_arg hx hb hX hbl hbA hS hl (dk_at dkL_c19 11 rfl) (dk_at dkL_c19 12 rfl) (dk_at dkL_c19 13 rfl) (dk_at dkL_c19 14 rfl) (dk_at dkL_c19 15 rfl) 3 (by decide) (Nat.le_of_ble_eq_true rfl) hn hL (fun a3 ea3 => ?_)
  refine lw_cx (st := [.int a3, .int a2, .int a1, .ref (ax 0)]) (rest := []) ⟨hx, hb, hml, hown, hts⟩ (uX11_could l dC dI H.size ax kx vx fx gx rx hXI a1 a2 a3) (cwV 3 hts (gz_lV lm_155 lm_156 lm_157 lm_4 lm_154 lwGA goodGA) rfl rfl rfl hdV_X11_could_X11_3 ⟨Nat.le_of_ble_eq_true rfl, Nat.le_of_ble_eq_true rfl⟩) rfl rfl hl.1 (Nat.le_of_ble_eq_true rfl) (dk_at dkL_c19 16 rfl) (lw_rm (a := 0) (b := 0) hn hL (Nat.le_of_ble_eq_true rfl) (Nat.le_of_ble_eq_true rfl)) hz hK hP hD hS (fun rx9 ax2 kx2 vx2 fx2 gx2 rx2 H locs h0 hXI2 hrelx hK hP hD hS => ?_)
  refine lv_pop hx hb (dk_at dkL_c19 17 rfl) rfl ?_
  refine lv_aload_n hx hb (dk_at dkL_c19 18 rfl) rfl (lv_at hl 2 rfl) ?_
  refine lw_arg hx hb hX hbl hbA hS hl (dk_at dkL_c19 19 rfl) (dk_at dkL_c19 20 rfl) (dk_at dkL_c19 21 rfl) (dk_at dkL_c19 22 rfl) (dk_at dkL_c19 23 rfl) 1 (by decide) (Nat.le_of_ble_eq_true rfl) hn hL (fun a4 ea4 => ?_)
  refine lw_arg hx hb hX hbl hbA hS hl (dk_at dkL_c19 24 rfl) (dk_at dkL_c19 25 rfl) (dk_at dkL_c19 26 rfl) (dk_at dkL_c19 27 rfl) (dk_at dkL_c19 28 rfl) 2 (by decide) (Nat.le_of_ble_eq_true rfl) hn hL (fun a5 ea5 => ?_)
  refine lw_arg hx hb hX hbl hbA hS hl (dk_at dkL_c19 29 rfl) (dk_at dkL_c19 30 rfl) (dk_at dkL_c19 31 rfl) (dk_at dkL_c19 32 rfl) (dk_at dkL_c19 33 rfl) 3 (by decide) (Nat.le_of_ble_eq_true rfl) hn hL (fun a6 ea6 => ?_)
  refine lw_cm (st := [.int a6, .int a5, .int a4, .ref hm]) (rest := []) ⟨hx, hb, hml, hown, hts⟩ (uX12_could l dC dI H.size hm mi mr km fm hMI a4 a5 a6) (cwV 3 hts (gz_lV lm_159 lm_160 lm_161 lm_9 lm_158 lwGB goodGB) rfl rfl rfl hdV_X12_could_X12_3 ⟨Nat.le_of_ble_eq_true rfl, Nat.le_of_ble_eq_true rfl⟩) rfl rfl hl.1 (Nat.le_of_ble_eq_true rfl) (dk_at dkL_c19 34 rfl) (lw_rm2 (a := 0) (b := 0) (a2 := 0) (b2 := 0) hn hL (Nat.le_of_ble_eq_true rfl) (Nat.le_of_ble_eq_true rfl)) hK hP hD hS (fun rm9 mi2 fm2 H locs hMI2 hrelm hP hD hS => ?_)
  refine lv_pop hx hb (dk_at dkL_c19 35 rfl) rfl ?_
  refine lv_goto (tgt := 2056) hx hb (dk_at dkL_c19 36 rfl) (by decide) ?_
  have e90 : a4 = a1 := ea4.trans ea1.symm
  have e91 : a5 = a2 := ea5.trans ea2.symm
  have e92 : a6 = a3 := ea6.trans ea3.symm
  rw [e90, e91, e92] at hrelm
  have hN9 := pr_could hXI hMI hlen hrelx hrelm
  refine W.widen (k := 400 + (n + 1)) (n := 40000 + 5 * (n + 1)) (by omega) (by omega) ?_
  exact next _ _ _ ⟨ax2, kx2, vx2, fx2, gx2, rx2, mi2, mr, km, fm2, h0, hK, hXI2, hMI2, hN9.1, hP, hD⟩ hS hl
noncomputable def lsL_c20 : List (Nat × Instr × Nat) := [(884, .aload_n 1, 1), (885, .aload_n 0, 1), (886, .iload_n 3, 1), (887, .iconst 1, 1), (888, .iadd, 1), (889, .iaload, 1), (890, .aload_n 0, 1), (891, .iload_n 3, 1), (892, .iconst 2, 1), (893, .iadd, 1), (894, .iaload, 1), (895, .invokevirtual 98, 3), (898, .pop, 1), (899, .aload_n 2, 1), (900, .aload_n 0, 1), (901, .iload_n 3, 1), (902, .iconst 1, 1), (903, .iadd, 1), (904, .iaload, 1), (905, .aload_n 0, 1), (906, .iload_n 3, 1), (907, .iconst 2, 1), (908, .iadd, 1), (909, .iaload, 1), (910, .invokevirtual 101, 3), (913, .pop, 1), (914, .goto 1142, 3)]
theorem dkL_c20 : dkAll cL_law lsL_c20 = true := dk_fast (by decide +kernel)
set_option maxHeartbeats 4000000 in
set_option maxRecDepth 100000 in
theorem law_c20 {p : Program} {l : Launch} {e : Env} {s : State} {m : MethodId} {below : List Frame} {meth : Method} {c : Code} {dC : Nat → ClassId} {dI : Nat → Nat → Nat} {b L : Nat} {xs : Nat → Int32} (hL : L ≤ 3072) (C0 : lw_At p s m meth c b L xs) (hz : nzA s) {sa sb sa2 sb2 : Nat → Nat} {zf : Value} (hTA : gz_ST RX6 stIA sa sb zf (fun q : Nat => s.heap.size ≤ q) s s.heap) (hTB : gz_ST RX12 stIB sa2 sb2 zf (fun q : Nat => s.heap.size ≤ q) s s.heap) {x0 hm n : Nat} (hn : 6 * n + 6 ≤ L) {H : Heap} {locs : List Loc} {ls : Array Slot} (hI : LInv dC dI s x0 hm H) (hS : va_S (fun q : Nat => s.heap.size ≤ q) s.heap H locs) (hl : lv_has ls 4 [(0, .ref b), (1, .ref x0), (2, .ref hm), (3, .int (nI (6 * n)))]) (next : ∀ (H : Heap) (locs : List Loc) (ls : Array Slot), LInv dC dI s x0 hm H → va_S (fun q : Nat => s.heap.size ≤ q) s.heap H locs → lv_has ls 4 [(0, .ref b), (1, .ref x0), (2, .ref hm), (3, .int (nI (6 * n)))] → W p l e room_1 s m #[Value.ref b] below meth c H locs (400 + (n + 1)) (40000 + 5 * (n + 1)) (lw_Z below #[Value.ref b] s) (F0 m 2056 ls [])) : W p l e room_1 s m #[Value.ref b] below meth c H locs (400 + n) (40000 + 5 * n) (lw_Z below #[Value.ref b] s) (F0 m 884 ls []) := by
  obtain ⟨hx, hb, hr, hml, hown0, hts, hX, hbl, hlocks, hgv⟩ := id C0
  have hown : s.vm.findClass RL = some m.cls := hown0
  have hA : ∀ q : Nat, s.heap.size ≤ q → (fun q : Nat => s.heap.size ≤ q) q := fun _ h => h
  have hbA : ¬ (fun q : Nat => s.heap.size ≤ q) b := Nat.not_le.mpr hbl
  obtain ⟨ax, kx, vx, fx, gx, rx, mi, mr, km, fm, rfl, hK, hXI, hMI, hlen, hP, hD⟩ := hI
  refine lv_aload_n hx hb (dk_at dkL_c20 0 rfl) rfl (lv_at hl 1 rfl) ?_
  refine lw_arg hx hb hX hbl hbA hS hl (dk_at dkL_c20 1 rfl) (dk_at dkL_c20 2 rfl) (dk_at dkL_c20 3 rfl) (dk_at dkL_c20 4 rfl) (dk_at dkL_c20 5 rfl) 1 (by decide) (Nat.le_of_ble_eq_true rfl) hn hL (fun a1 ea1 => ?_)
  refine lw_arg hx hb hX hbl hbA hS hl (dk_at dkL_c20 6 rfl) (dk_at dkL_c20 7 rfl) (dk_at dkL_c20 8 rfl) (dk_at dkL_c20 9 rfl) (dk_at dkL_c20 10 rfl) 2 (by decide) (Nat.le_of_ble_eq_true rfl) hn hL (fun a2 ea2 => ?_)
  refine lw_cx (st := [.int a2, .int a1, .ref (ax 0)]) (rest := []) ⟨hx, hb, hml, hown, hts⟩ (uX11_lean l dC dI H.size ax kx vx fx gx rx hXI a1 a2) (cwV 2 hts (gz_lV lm_163 lm_164 lm_165 lm_4 lm_162 lwGA goodGA) rfl rfl rfl hdV_X11_lean_X11_2 ⟨Nat.le_of_ble_eq_true rfl, Nat.le_of_ble_eq_true rfl⟩) rfl rfl hl.1 (Nat.le_of_ble_eq_true rfl) (dk_at dkL_c20 11 rfl) (lw_rm (a := 0) (b := 0) hn hL (Nat.le_of_ble_eq_true rfl) (Nat.le_of_ble_eq_true rfl)) hz hK hP hD hS (fun rx9 ax2 kx2 vx2 fx2 gx2 rx2 H locs h0 hXI2 hrelx hK hP hD hS => ?_)
  refine lv_pop hx hb (dk_at dkL_c20 12 rfl) rfl ?_
  refine lv_aload_n hx hb (dk_at dkL_c20 13 rfl) rfl (lv_at hl 2 rfl) ?_
  refine lw_arg hx hb hX hbl hbA hS hl (dk_at dkL_c20 14 rfl) (dk_at dkL_c20 15 rfl) (dk_at dkL_c20 16 rfl) (dk_at dkL_c20 17 rfl) (dk_at dkL_c20 18 rfl) 1 (by decide) (Nat.le_of_ble_eq_true rfl) hn hL (fun a3 ea3 => ?_)
  refine lw_arg hx hb hX hbl hbA hS hl (dk_at dkL_c20 19 rfl) (dk_at dkL_c20 20 rfl) (dk_at dkL_c20 21 rfl) (dk_at dkL_c20 22 rfl) (dk_at dkL_c20 23 rfl) 2 (by decide) (Nat.le_of_ble_eq_true rfl) hn hL (fun a4 ea4 => ?_)
  refine lw_cm (st := [.int a4, .int a3, .ref hm]) (rest := []) ⟨hx, hb, hml, hown, hts⟩ (uX12_lean l dC dI H.size hm mi mr km fm hMI a3 a4) (cwV 2 hts (gz_lV lm_167 lm_168 lm_169 lm_9 lm_166 lwGB goodGB) rfl rfl rfl hdV_X12_lean_X12_2 ⟨Nat.le_of_ble_eq_true rfl, Nat.le_of_ble_eq_true rfl⟩) rfl rfl hl.1 (Nat.le_of_ble_eq_true rfl) (dk_at dkL_c20 24 rfl) (lw_rm2 (a := 0) (b := 0) (a2 := 0) (b2 := 0) hn hL (Nat.le_of_ble_eq_true rfl) (Nat.le_of_ble_eq_true rfl)) hK hP hD hS (fun rm9 mi2 fm2 H locs hMI2 hrelm hP hD hS => ?_)
  refine lv_pop hx hb (dk_at dkL_c20 25 rfl) rfl ?_
  refine lv_goto (tgt := 2056) hx hb (dk_at dkL_c20 26 rfl) (by decide) ?_
  have e90 : a3 = a1 := ea3.trans ea1.symm
  have e91 : a4 = a2 := ea4.trans ea2.symm
  rw [e90, e91] at hrelm
  have hN9 := pr_lean hXI hMI hlen hrelx hrelm
  refine W.widen (k := 400 + (n + 1)) (n := 40000 + 5 * (n + 1)) (by omega) (by omega) ?_
  exact next _ _ _ ⟨ax2, kx2, vx2, fx2, gx2, rx2, mi2, mr, km, fm2, h0, hK, hXI2, hMI2, hN9.1, hP, hD⟩ hS hl
noncomputable def lsL_c21 : List (Nat × Instr × Nat) := [(917, .aload_n 1, 1), (918, .aload_n 0, 1), (919, .iload_n 3, 1), (920, .iconst 1, 1), (921, .iadd, 1), (922, .iaload, 1), (923, .aload_n 0, 1), (924, .iload_n 3, 1), (925, .iconst 2, 1), (926, .iadd, 1), (927, .iaload, 1), (928, .aload_n 0, 1), (929, .iload_n 3, 1), (930, .iconst 3, 1), (931, .iadd, 1), (932, .iaload, 1), (933, .invokevirtual 102, 3), (936, .pop, 1), (937, .aload_n 2, 1), (938, .aload_n 0, 1), (939, .iload_n 3, 1), (940, .iconst 1, 1), (941, .iadd, 1), (942, .iaload, 1), (943, .aload_n 0, 1), (944, .iload_n 3, 1), (945, .iconst 2, 1), (946, .iadd, 1), (947, .iaload, 1), (948, .aload_n 0, 1), (949, .iload_n 3, 1), (950, .iconst 3, 1), (951, .iadd, 1), (952, .iaload, 1), (953, .invokevirtual 105, 3), (956, .pop, 1), (957, .goto 1099, 3)]
theorem dkL_c21 : dkAll cL_law lsL_c21 = true := dk_fast (by decide +kernel)
set_option maxHeartbeats 4000000 in
set_option maxRecDepth 100000 in
theorem law_c21 {p : Program} {l : Launch} {e : Env} {s : State} {m : MethodId} {below : List Frame} {meth : Method} {c : Code} {dC : Nat → ClassId} {dI : Nat → Nat → Nat} {b L : Nat} {xs : Nat → Int32} (hL : L ≤ 3072) (C0 : lw_At p s m meth c b L xs) (hz : nzA s) {sa sb sa2 sb2 : Nat → Nat} {zf : Value} (hTA : gz_ST RX6 stIA sa sb zf (fun q : Nat => s.heap.size ≤ q) s s.heap) (hTB : gz_ST RX12 stIB sa2 sb2 zf (fun q : Nat => s.heap.size ≤ q) s s.heap) {x0 hm n : Nat} (hn : 6 * n + 6 ≤ L) {H : Heap} {locs : List Loc} {ls : Array Slot} (hI : LInv dC dI s x0 hm H) (hS : va_S (fun q : Nat => s.heap.size ≤ q) s.heap H locs) (hl : lv_has ls 4 [(0, .ref b), (1, .ref x0), (2, .ref hm), (3, .int (nI (6 * n)))]) (next : ∀ (H : Heap) (locs : List Loc) (ls : Array Slot), LInv dC dI s x0 hm H → va_S (fun q : Nat => s.heap.size ≤ q) s.heap H locs → lv_has ls 4 [(0, .ref b), (1, .ref x0), (2, .ref hm), (3, .int (nI (6 * n)))] → W p l e room_1 s m #[Value.ref b] below meth c H locs (400 + (n + 1)) (40000 + 5 * (n + 1)) (lw_Z below #[Value.ref b] s) (F0 m 2056 ls [])) : W p l e room_1 s m #[Value.ref b] below meth c H locs (400 + n) (40000 + 5 * n) (lw_Z below #[Value.ref b] s) (F0 m 917 ls []) := by
  obtain ⟨hx, hb, hr, hml, hown0, hts, hX, hbl, hlocks, hgv⟩ := id C0
  have hown : s.vm.findClass RL = some m.cls := hown0
  have hA : ∀ q : Nat, s.heap.size ≤ q → (fun q : Nat => s.heap.size ≤ q) q := fun _ h => h
  have hbA : ¬ (fun q : Nat => s.heap.size ≤ q) b := Nat.not_le.mpr hbl
  obtain ⟨ax, kx, vx, fx, gx, rx, mi, mr, km, fm, rfl, hK, hXI, hMI, hlen, hP, hD⟩ := hI
  refine lv_aload_n hx hb (dk_at dkL_c21 0 rfl) rfl (lv_at hl 1 rfl) ?_
  refine lw_arg hx hb hX hbl hbA hS hl (dk_at dkL_c21 1 rfl) (dk_at dkL_c21 2 rfl) (dk_at dkL_c21 3 rfl) (dk_at dkL_c21 4 rfl) (dk_at dkL_c21 5 rfl) 1 (by decide) (Nat.le_of_ble_eq_true rfl) hn hL (fun a1 ea1 => ?_)
  refine lw_arg hx hb hX hbl hbA hS hl (dk_at dkL_c21 6 rfl) (dk_at dkL_c21 7 rfl) (dk_at dkL_c21 8 rfl) (dk_at dkL_c21 9 rfl) (dk_at dkL_c21 10 rfl) 2 (by decide) (Nat.le_of_ble_eq_true rfl) hn hL (fun a2 ea2 => ?_)
  refine lw_arg hx hb hX hbl hbA hS hl (dk_at dkL_c21 11 rfl) (dk_at dkL_c21 12 rfl) (dk_at dkL_c21 13 rfl) (dk_at dkL_c21 14 rfl) (dk_at dkL_c21 15 rfl) 3 (by decide) (Nat.le_of_ble_eq_true rfl) hn hL (fun a3 ea3 => ?_)
  refine lw_cx (st := [.int a3, .int a2, .int a1, .ref (ax 0)]) (rest := []) ⟨hx, hb, hml, hown, hts⟩ (uX11_ranked l dC dI H.size ax kx vx fx gx rx hXI a1 a2 a3) (cwV 3 hts (gz_lV lm_171 lm_172 lm_173 lm_4 lm_170 lwGA goodGA) rfl rfl rfl hdV_X11_ranked_X11_3 ⟨Nat.le_of_ble_eq_true rfl, Nat.le_of_ble_eq_true rfl⟩) rfl rfl hl.1 (Nat.le_of_ble_eq_true rfl) (dk_at dkL_c21 16 rfl) (lw_rm (a := 0) (b := 0) hn hL (Nat.le_of_ble_eq_true rfl) (Nat.le_of_ble_eq_true rfl)) hz hK hP hD hS (fun rx9 ax2 kx2 vx2 fx2 gx2 rx2 H locs h0 hXI2 hrelx hK hP hD hS => ?_)
  refine lv_pop hx hb (dk_at dkL_c21 17 rfl) rfl ?_
  refine lv_aload_n hx hb (dk_at dkL_c21 18 rfl) rfl (lv_at hl 2 rfl) ?_
  refine lw_arg hx hb hX hbl hbA hS hl (dk_at dkL_c21 19 rfl) (dk_at dkL_c21 20 rfl) (dk_at dkL_c21 21 rfl) (dk_at dkL_c21 22 rfl) (dk_at dkL_c21 23 rfl) 1 (by decide) (Nat.le_of_ble_eq_true rfl) hn hL (fun a4 ea4 => ?_)
  refine lw_arg hx hb hX hbl hbA hS hl (dk_at dkL_c21 24 rfl) (dk_at dkL_c21 25 rfl) (dk_at dkL_c21 26 rfl) (dk_at dkL_c21 27 rfl) (dk_at dkL_c21 28 rfl) 2 (by decide) (Nat.le_of_ble_eq_true rfl) hn hL (fun a5 ea5 => ?_)
  refine lw_arg hx hb hX hbl hbA hS hl (dk_at dkL_c21 29 rfl) (dk_at dkL_c21 30 rfl) (dk_at dkL_c21 31 rfl) (dk_at dkL_c21 32 rfl) (dk_at dkL_c21 33 rfl) 3 (by decide) (Nat.le_of_ble_eq_true rfl) hn hL (fun a6 ea6 => ?_)
  refine lw_cm (st := [.int a6, .int a5, .int a4, .ref hm]) (rest := []) ⟨hx, hb, hml, hown, hts⟩ (uX12_ranked l dC dI H.size hm mi mr km fm hMI a4 a5 a6) (cwV 3 hts (gz_lV lm_175 lm_176 lm_177 lm_9 lm_174 lwGB goodGB) rfl rfl rfl hdV_X12_ranked_X12_3 ⟨Nat.le_of_ble_eq_true rfl, Nat.le_of_ble_eq_true rfl⟩) rfl rfl hl.1 (Nat.le_of_ble_eq_true rfl) (dk_at dkL_c21 34 rfl) (lw_rm2 (a := 0) (b := 0) (a2 := 0) (b2 := 0) hn hL (Nat.le_of_ble_eq_true rfl) (Nat.le_of_ble_eq_true rfl)) hK hP hD hS (fun rm9 mi2 fm2 H locs hMI2 hrelm hP hD hS => ?_)
  refine lv_pop hx hb (dk_at dkL_c21 35 rfl) rfl ?_
  refine lv_goto (tgt := 2056) hx hb (dk_at dkL_c21 36 rfl) (by decide) ?_
  have e90 : a4 = a1 := ea4.trans ea1.symm
  have e91 : a5 = a2 := ea5.trans ea2.symm
  have e92 : a6 = a3 := ea6.trans ea3.symm
  rw [e90, e91, e92] at hrelm
  have hN9 := pr_ranked hXI hMI hlen hrelx hrelm
  refine W.widen (k := 400 + (n + 1)) (n := 40000 + 5 * (n + 1)) (by omega) (by omega) ?_
  exact next _ _ _ ⟨ax2, kx2, vx2, fx2, gx2, rx2, mi2, mr, km, fm2, h0, hK, hXI2, hMI2, hN9, hP, hD⟩ hS hl
noncomputable def lsL_c22 : List (Nat × Instr × Nat) := [(960, .aload_n 1, 1), (961, .aload_n 0, 1), (962, .iload_n 3, 1), (963, .iconst 1, 1), (964, .iadd, 1), (965, .iaload, 1), (966, .aload_n 0, 1), (967, .iload_n 3, 1), (968, .iconst 2, 1), (969, .iadd, 1), (970, .iaload, 1), (971, .invokevirtual 106, 3), (974, .pop, 1), (975, .aload_n 2, 1), (976, .aload_n 0, 1), (977, .iload_n 3, 1), (978, .iconst 1, 1), (979, .iadd, 1), (980, .iaload, 1), (981, .aload_n 0, 1), (982, .iload_n 3, 1), (983, .iconst 2, 1), (984, .iadd, 1), (985, .iaload, 1), (986, .invokevirtual 109, 3), (989, .pop, 1), (990, .goto 1066, 3)]
theorem dkL_c22 : dkAll cL_law lsL_c22 = true := dk_fast (by decide +kernel)
set_option maxHeartbeats 4000000 in
set_option maxRecDepth 100000 in
theorem law_c22 {p : Program} {l : Launch} {e : Env} {s : State} {m : MethodId} {below : List Frame} {meth : Method} {c : Code} {dC : Nat → ClassId} {dI : Nat → Nat → Nat} {b L : Nat} {xs : Nat → Int32} (hL : L ≤ 3072) (C0 : lw_At p s m meth c b L xs) (hz : nzA s) {sa sb sa2 sb2 : Nat → Nat} {zf : Value} (hTA : gz_ST RX6 stIA sa sb zf (fun q : Nat => s.heap.size ≤ q) s s.heap) (hTB : gz_ST RX12 stIB sa2 sb2 zf (fun q : Nat => s.heap.size ≤ q) s s.heap) {x0 hm n : Nat} (hn : 6 * n + 6 ≤ L) {H : Heap} {locs : List Loc} {ls : Array Slot} (hI : LInv dC dI s x0 hm H) (hS : va_S (fun q : Nat => s.heap.size ≤ q) s.heap H locs) (hl : lv_has ls 4 [(0, .ref b), (1, .ref x0), (2, .ref hm), (3, .int (nI (6 * n)))]) (next : ∀ (H : Heap) (locs : List Loc) (ls : Array Slot), LInv dC dI s x0 hm H → va_S (fun q : Nat => s.heap.size ≤ q) s.heap H locs → lv_has ls 4 [(0, .ref b), (1, .ref x0), (2, .ref hm), (3, .int (nI (6 * n)))] → W p l e room_1 s m #[Value.ref b] below meth c H locs (400 + (n + 1)) (40000 + 5 * (n + 1)) (lw_Z below #[Value.ref b] s) (F0 m 2056 ls [])) : W p l e room_1 s m #[Value.ref b] below meth c H locs (400 + n) (40000 + 5 * n) (lw_Z below #[Value.ref b] s) (F0 m 960 ls []) := by
  obtain ⟨hx, hb, hr, hml, hown0, hts, hX, hbl, hlocks, hgv⟩ := id C0
  have hown : s.vm.findClass RL = some m.cls := hown0
  have hA : ∀ q : Nat, s.heap.size ≤ q → (fun q : Nat => s.heap.size ≤ q) q := fun _ h => h
  have hbA : ¬ (fun q : Nat => s.heap.size ≤ q) b := Nat.not_le.mpr hbl
  obtain ⟨ax, kx, vx, fx, gx, rx, mi, mr, km, fm, rfl, hK, hXI, hMI, hlen, hP, hD⟩ := hI
  refine lv_aload_n hx hb (dk_at dkL_c22 0 rfl) rfl (lv_at hl 1 rfl) ?_
  refine lw_arg hx hb hX hbl hbA hS hl (dk_at dkL_c22 1 rfl) (dk_at dkL_c22 2 rfl) (dk_at dkL_c22 3 rfl) (dk_at dkL_c22 4 rfl) (dk_at dkL_c22 5 rfl) 1 (by decide) (Nat.le_of_ble_eq_true rfl) hn hL (fun a1 ea1 => ?_)
  refine lw_arg hx hb hX hbl hbA hS hl (dk_at dkL_c22 6 rfl) (dk_at dkL_c22 7 rfl) (dk_at dkL_c22 8 rfl) (dk_at dkL_c22 9 rfl) (dk_at dkL_c22 10 rfl) 2 (by decide) (Nat.le_of_ble_eq_true rfl) hn hL (fun a2 ea2 => ?_)
  refine lw_cx (st := [.int a2, .int a1, .ref (ax 0)]) (rest := []) ⟨hx, hb, hml, hown, hts⟩ (uX11_rank l dC dI H.size ax kx vx fx gx rx hXI a1 a2) (cwV 2 hts (gz_lV lm_179 lm_180 lm_181 lm_4 lm_178 lwGA goodGA) rfl rfl rfl hdV_X11_rank_X11_2 ⟨Nat.le_of_ble_eq_true rfl, Nat.le_of_ble_eq_true rfl⟩) rfl rfl hl.1 (Nat.le_of_ble_eq_true rfl) (dk_at dkL_c22 11 rfl) (lw_rm (a := 0) (b := 0) hn hL (Nat.le_of_ble_eq_true rfl) (Nat.le_of_ble_eq_true rfl)) hz hK hP hD hS (fun rx9 ax2 kx2 vx2 fx2 gx2 rx2 H locs h0 hXI2 hrelx hK hP hD hS => ?_)
  refine lv_pop hx hb (dk_at dkL_c22 12 rfl) rfl ?_
  refine lv_aload_n hx hb (dk_at dkL_c22 13 rfl) rfl (lv_at hl 2 rfl) ?_
  refine lw_arg hx hb hX hbl hbA hS hl (dk_at dkL_c22 14 rfl) (dk_at dkL_c22 15 rfl) (dk_at dkL_c22 16 rfl) (dk_at dkL_c22 17 rfl) (dk_at dkL_c22 18 rfl) 1 (by decide) (Nat.le_of_ble_eq_true rfl) hn hL (fun a3 ea3 => ?_)
  refine lw_arg hx hb hX hbl hbA hS hl (dk_at dkL_c22 19 rfl) (dk_at dkL_c22 20 rfl) (dk_at dkL_c22 21 rfl) (dk_at dkL_c22 22 rfl) (dk_at dkL_c22 23 rfl) 2 (by decide) (Nat.le_of_ble_eq_true rfl) hn hL (fun a4 ea4 => ?_)
  refine lw_cm (st := [.int a4, .int a3, .ref hm]) (rest := []) ⟨hx, hb, hml, hown, hts⟩ (uX12_rank l dC dI H.size hm mi mr km fm hMI a3 a4) (cwV 2 hts (gz_lV lm_183 lm_184 lm_185 lm_9 lm_182 lwGB goodGB) rfl rfl rfl hdV_X12_rank_X12_2 ⟨Nat.le_of_ble_eq_true rfl, Nat.le_of_ble_eq_true rfl⟩) rfl rfl hl.1 (Nat.le_of_ble_eq_true rfl) (dk_at dkL_c22 24 rfl) (lw_rm2 (a := 0) (b := 0) (a2 := 0) (b2 := 0) hn hL (Nat.le_of_ble_eq_true rfl) (Nat.le_of_ble_eq_true rfl)) hK hP hD hS (fun rm9 mi2 fm2 H locs hMI2 hrelm hP hD hS => ?_)
  refine lv_pop hx hb (dk_at dkL_c22 25 rfl) rfl ?_
  refine lv_goto (tgt := 2056) hx hb (dk_at dkL_c22 26 rfl) (by decide) ?_
  have e90 : a3 = a1 := ea3.trans ea1.symm
  have e91 : a4 = a2 := ea4.trans ea2.symm
  rw [e90, e91] at hrelm
  have hN9 := pr_rank hXI hMI hlen hrelx hrelm
  refine W.widen (k := 400 + (n + 1)) (n := 40000 + 5 * (n + 1)) (by omega) (by omega) ?_
  exact next _ _ _ ⟨ax2, kx2, vx2, fx2, gx2, rx2, mi2, mr, km, fm2, h0, hK, hXI2, hMI2, hN9, hP, hD⟩ hS hl
noncomputable def lsL_c23 : List (Nat × Instr × Nat) := [(993, .aload_n 1, 1), (994, .aload_n 0, 1), (995, .iload_n 3, 1), (996, .iconst 1, 1), (997, .iadd, 1), (998, .iaload, 1), (999, .aload_n 0, 1), (1000, .iload_n 3, 1), (1001, .iconst 2, 1), (1002, .iadd, 1), (1003, .iaload, 1), (1004, .invokevirtual 110, 3), (1007, .pop, 1), (1008, .aload_n 2, 1), (1009, .aload_n 0, 1), (1010, .iload_n 3, 1), (1011, .iconst 1, 1), (1012, .iadd, 1), (1013, .iaload, 1), (1014, .aload_n 0, 1), (1015, .iload_n 3, 1), (1016, .iconst 2, 1), (1017, .iadd, 1), (1018, .iaload, 1), (1019, .invokevirtual 113, 3), (1022, .pop, 1), (1023, .goto 1033, 3)]
theorem dkL_c23 : dkAll cL_law lsL_c23 = true := dk_fast (by decide +kernel)
set_option maxHeartbeats 4000000 in
set_option maxRecDepth 100000 in
theorem law_c23 {p : Program} {l : Launch} {e : Env} {s : State} {m : MethodId} {below : List Frame} {meth : Method} {c : Code} {dC : Nat → ClassId} {dI : Nat → Nat → Nat} {b L : Nat} {xs : Nat → Int32} (hL : L ≤ 3072) (C0 : lw_At p s m meth c b L xs) (hz : nzA s) {sa sb sa2 sb2 : Nat → Nat} {zf : Value} (hTA : gz_ST RX6 stIA sa sb zf (fun q : Nat => s.heap.size ≤ q) s s.heap) (hTB : gz_ST RX12 stIB sa2 sb2 zf (fun q : Nat => s.heap.size ≤ q) s s.heap) {x0 hm n : Nat} (hn : 6 * n + 6 ≤ L) {H : Heap} {locs : List Loc} {ls : Array Slot} (hI : LInv dC dI s x0 hm H) (hS : va_S (fun q : Nat => s.heap.size ≤ q) s.heap H locs) (hl : lv_has ls 4 [(0, .ref b), (1, .ref x0), (2, .ref hm), (3, .int (nI (6 * n)))]) (next : ∀ (H : Heap) (locs : List Loc) (ls : Array Slot), LInv dC dI s x0 hm H → va_S (fun q : Nat => s.heap.size ≤ q) s.heap H locs → lv_has ls 4 [(0, .ref b), (1, .ref x0), (2, .ref hm), (3, .int (nI (6 * n)))] → W p l e room_1 s m #[Value.ref b] below meth c H locs (400 + (n + 1)) (40000 + 5 * (n + 1)) (lw_Z below #[Value.ref b] s) (F0 m 2056 ls [])) : W p l e room_1 s m #[Value.ref b] below meth c H locs (400 + n) (40000 + 5 * n) (lw_Z below #[Value.ref b] s) (F0 m 993 ls []) := by
  obtain ⟨hx, hb, hr, hml, hown0, hts, hX, hbl, hlocks, hgv⟩ := id C0
  have hown : s.vm.findClass RL = some m.cls := hown0
  have hA : ∀ q : Nat, s.heap.size ≤ q → (fun q : Nat => s.heap.size ≤ q) q := fun _ h => h
  have hbA : ¬ (fun q : Nat => s.heap.size ≤ q) b := Nat.not_le.mpr hbl
  obtain ⟨ax, kx, vx, fx, gx, rx, mi, mr, km, fm, rfl, hK, hXI, hMI, hlen, hP, hD⟩ := hI
  refine lv_aload_n hx hb (dk_at dkL_c23 0 rfl) rfl (lv_at hl 1 rfl) ?_
  refine lw_arg hx hb hX hbl hbA hS hl (dk_at dkL_c23 1 rfl) (dk_at dkL_c23 2 rfl) (dk_at dkL_c23 3 rfl) (dk_at dkL_c23 4 rfl) (dk_at dkL_c23 5 rfl) 1 (by decide) (Nat.le_of_ble_eq_true rfl) hn hL (fun a1 ea1 => ?_)
  refine lw_arg hx hb hX hbl hbA hS hl (dk_at dkL_c23 6 rfl) (dk_at dkL_c23 7 rfl) (dk_at dkL_c23 8 rfl) (dk_at dkL_c23 9 rfl) (dk_at dkL_c23 10 rfl) 2 (by decide) (Nat.le_of_ble_eq_true rfl) hn hL (fun a2 ea2 => ?_)
  refine lw_cx (st := [.int a2, .int a1, .ref (ax 0)]) (rest := []) ⟨hx, hb, hml, hown, hts⟩ (uX11_drawn l dC dI H.size ax kx vx fx gx rx hXI a1 a2) (cwV 2 hts (gz_lV lm_187 lm_188 lm_189 lm_4 lm_186 lwGA goodGA) rfl rfl rfl hdV_X11_drawn_X11_2 ⟨Nat.le_of_ble_eq_true rfl, Nat.le_of_ble_eq_true rfl⟩) rfl rfl hl.1 (Nat.le_of_ble_eq_true rfl) (dk_at dkL_c23 11 rfl) (lw_rm (a := 0) (b := 0) hn hL (Nat.le_of_ble_eq_true rfl) (Nat.le_of_ble_eq_true rfl)) hz hK hP hD hS (fun rx9 ax2 kx2 vx2 fx2 gx2 rx2 H locs h0 hXI2 hrelx hK hP hD hS => ?_)
  refine lv_pop hx hb (dk_at dkL_c23 12 rfl) rfl ?_
  refine lv_aload_n hx hb (dk_at dkL_c23 13 rfl) rfl (lv_at hl 2 rfl) ?_
  refine lw_arg hx hb hX hbl hbA hS hl (dk_at dkL_c23 14 rfl) (dk_at dkL_c23 15 rfl) (dk_at dkL_c23 16 rfl) (dk_at dkL_c23 17 rfl) (dk_at dkL_c23 18 rfl) 1 (by decide) (Nat.le_of_ble_eq_true rfl) hn hL (fun a3 ea3 => ?_)
  refine lw_arg hx hb hX hbl hbA hS hl (dk_at dkL_c23 19 rfl) (dk_at dkL_c23 20 rfl) (dk_at dkL_c23 21 rfl) (dk_at dkL_c23 22 rfl) (dk_at dkL_c23 23 rfl) 2 (by decide) (Nat.le_of_ble_eq_true rfl) hn hL (fun a4 ea4 => ?_)
  refine lw_cm (st := [.int a4, .int a3, .ref hm]) (rest := []) ⟨hx, hb, hml, hown, hts⟩ (uX12_drawn l dC dI H.size hm mi mr km fm hMI a3 a4) (cwV 2 hts (gz_lV lm_191 lm_192 lm_193 lm_9 lm_190 lwGB goodGB) rfl rfl rfl hdV_X12_drawn_X12_2 ⟨Nat.le_of_ble_eq_true rfl, Nat.le_of_ble_eq_true rfl⟩) rfl rfl hl.1 (Nat.le_of_ble_eq_true rfl) (dk_at dkL_c23 24 rfl) (lw_rm2 (a := 0) (b := 0) (a2 := 0) (b2 := 0) hn hL (Nat.le_of_ble_eq_true rfl) (Nat.le_of_ble_eq_true rfl)) hK hP hD hS (fun rm9 mi2 fm2 H locs hMI2 hrelm hP hD hS => ?_)
  refine lv_pop hx hb (dk_at dkL_c23 25 rfl) rfl ?_
  refine lv_goto (tgt := 2056) hx hb (dk_at dkL_c23 26 rfl) (by decide) ?_
  have e90 : a3 = a1 := ea3.trans ea1.symm
  have e91 : a4 = a2 := ea4.trans ea2.symm
  rw [e90, e91] at hrelm
  have hN9 := pr_drawn hXI hMI hlen hrelx hrelm
  refine W.widen (k := 400 + (n + 1)) (n := 40000 + 5 * (n + 1)) (by omega) (by omega) ?_
  exact next _ _ _ ⟨ax2, kx2, vx2, fx2, gx2, rx2, mi2, mr, km, fm2, h0, hK, hXI2, hMI2, hN9.1, hP, hD⟩ hS hl
noncomputable def lsL_c24 : List (Nat × Instr × Nat) := [(1026, .aload_n 1, 1), (1027, .aload_n 0, 1), (1028, .iload_n 3, 1), (1029, .iconst 1, 1), (1030, .iadd, 1), (1031, .iaload, 1), (1032, .aload_n 0, 1), (1033, .iload_n 3, 1), (1034, .iconst 2, 1), (1035, .iadd, 1), (1036, .iaload, 1), (1037, .aload_n 0, 1), (1038, .iload_n 3, 1), (1039, .iconst 3, 1), (1040, .iadd, 1), (1041, .iaload, 1), (1042, .invokevirtual 114, 3), (1045, .pop, 1), (1046, .aload_n 2, 1), (1047, .aload_n 0, 1), (1048, .iload_n 3, 1), (1049, .iconst 1, 1), (1050, .iadd, 1), (1051, .iaload, 1), (1052, .aload_n 0, 1), (1053, .iload_n 3, 1), (1054, .iconst 2, 1), (1055, .iadd, 1), (1056, .iaload, 1), (1057, .aload_n 0, 1), (1058, .iload_n 3, 1), (1059, .iconst 3, 1), (1060, .iadd, 1), (1061, .iaload, 1), (1062, .invokevirtual 117, 3), (1065, .pop, 1), (1066, .goto 990, 3)]
theorem dkL_c24 : dkAll cL_law lsL_c24 = true := dk_fast (by decide +kernel)
set_option maxHeartbeats 4000000 in
set_option maxRecDepth 100000 in
theorem law_c24 {p : Program} {l : Launch} {e : Env} {s : State} {m : MethodId} {below : List Frame} {meth : Method} {c : Code} {dC : Nat → ClassId} {dI : Nat → Nat → Nat} {b L : Nat} {xs : Nat → Int32} (hL : L ≤ 3072) (C0 : lw_At p s m meth c b L xs) (hz : nzA s) {sa sb sa2 sb2 : Nat → Nat} {zf : Value} (hTA : gz_ST RX6 stIA sa sb zf (fun q : Nat => s.heap.size ≤ q) s s.heap) (hTB : gz_ST RX12 stIB sa2 sb2 zf (fun q : Nat => s.heap.size ≤ q) s s.heap) {x0 hm n : Nat} (hn : 6 * n + 6 ≤ L) {H : Heap} {locs : List Loc} {ls : Array Slot} (hI : LInv dC dI s x0 hm H) (hS : va_S (fun q : Nat => s.heap.size ≤ q) s.heap H locs) (hl : lv_has ls 4 [(0, .ref b), (1, .ref x0), (2, .ref hm), (3, .int (nI (6 * n)))]) (next : ∀ (H : Heap) (locs : List Loc) (ls : Array Slot), LInv dC dI s x0 hm H → va_S (fun q : Nat => s.heap.size ≤ q) s.heap H locs → lv_has ls 4 [(0, .ref b), (1, .ref x0), (2, .ref hm), (3, .int (nI (6 * n)))] → W p l e room_1 s m #[Value.ref b] below meth c H locs (400 + (n + 1)) (40000 + 5 * (n + 1)) (lw_Z below #[Value.ref b] s) (F0 m 2056 ls [])) : W p l e room_1 s m #[Value.ref b] below meth c H locs (400 + n) (40000 + 5 * n) (lw_Z below #[Value.ref b] s) (F0 m 1026 ls []) := by
  obtain ⟨hx, hb, hr, hml, hown0, hts, hX, hbl, hlocks, hgv⟩ := id C0
  have hown : s.vm.findClass RL = some m.cls := hown0
  have hA : ∀ q : Nat, s.heap.size ≤ q → (fun q : Nat => s.heap.size ≤ q) q := fun _ h => h
  have hbA : ¬ (fun q : Nat => s.heap.size ≤ q) b := Nat.not_le.mpr hbl
  obtain ⟨ax, kx, vx, fx, gx, rx, mi, mr, km, fm, rfl, hK, hXI, hMI, hlen, hP, hD⟩ := hI
  refine lv_aload_n hx hb (dk_at dkL_c24 0 rfl) rfl (lv_at hl 1 rfl) ?_
  refine lw_arg hx hb hX hbl hbA hS hl (dk_at dkL_c24 1 rfl) (dk_at dkL_c24 2 rfl) (dk_at dkL_c24 3 rfl) (dk_at dkL_c24 4 rfl) (dk_at dkL_c24 5 rfl) 1 (by decide) (Nat.le_of_ble_eq_true rfl) hn hL (fun a1 ea1 => ?_)
  refine lw_arg hx hb hX hbl hbA hS hl (dk_at dkL_c24 6 rfl) (dk_at dkL_c24 7 rfl) (dk_at dkL_c24 8 rfl) (dk_at dkL_c24 9 rfl) (dk_at dkL_c24 10 rfl) 2 (by decide) (Nat.le_of_ble_eq_true rfl) hn hL (fun a2 ea2 => ?_)
  refine lw_arg hx hb hX hbl hbA hS hl (dk_at dkL_c24 11 rfl) (dk_at dkL_c24 12 rfl) (dk_at dkL_c24 13 rfl) (dk_at dkL_c24 14 rfl) (dk_at dkL_c24 15 rfl) 3 (by decide) (Nat.le_of_ble_eq_true rfl) hn hL (fun a3 ea3 => ?_)
  refine lw_cx (st := [.int a3, .int a2, .int a1, .ref (ax 0)]) (rest := []) ⟨hx, hb, hml, hown, hts⟩ (uX11_day l dC dI H.size ax kx vx fx gx rx hXI a1 a2 a3) (cwV 3 hts (gz_lV lm_195 lm_196 lm_197 lm_4 lm_194 lwGA goodGA) rfl rfl rfl hdV_X11_day_X11_3 ⟨Nat.le_of_ble_eq_true rfl, Nat.le_of_ble_eq_true rfl⟩) rfl rfl hl.1 (Nat.le_of_ble_eq_true rfl) (dk_at dkL_c24 16 rfl) (lw_rm (a := 0) (b := 0) hn hL (Nat.le_of_ble_eq_true rfl) (Nat.le_of_ble_eq_true rfl)) hz hK hP hD hS (fun rx9 ax2 kx2 vx2 fx2 gx2 rx2 H locs h0 hXI2 hrelx hK hP hD hS => ?_)
  refine lv_pop hx hb (dk_at dkL_c24 17 rfl) rfl ?_
  refine lv_aload_n hx hb (dk_at dkL_c24 18 rfl) rfl (lv_at hl 2 rfl) ?_
  refine lw_arg hx hb hX hbl hbA hS hl (dk_at dkL_c24 19 rfl) (dk_at dkL_c24 20 rfl) (dk_at dkL_c24 21 rfl) (dk_at dkL_c24 22 rfl) (dk_at dkL_c24 23 rfl) 1 (by decide) (Nat.le_of_ble_eq_true rfl) hn hL (fun a4 ea4 => ?_)
  refine lw_arg hx hb hX hbl hbA hS hl (dk_at dkL_c24 24 rfl) (dk_at dkL_c24 25 rfl) (dk_at dkL_c24 26 rfl) (dk_at dkL_c24 27 rfl) (dk_at dkL_c24 28 rfl) 2 (by decide) (Nat.le_of_ble_eq_true rfl) hn hL (fun a5 ea5 => ?_)
  refine lw_arg hx hb hX hbl hbA hS hl (dk_at dkL_c24 29 rfl) (dk_at dkL_c24 30 rfl) (dk_at dkL_c24 31 rfl) (dk_at dkL_c24 32 rfl) (dk_at dkL_c24 33 rfl) 3 (by decide) (Nat.le_of_ble_eq_true rfl) hn hL (fun a6 ea6 => ?_)
  refine lw_cm (st := [.int a6, .int a5, .int a4, .ref hm]) (rest := []) ⟨hx, hb, hml, hown, hts⟩ (uX12_day l dC dI H.size hm mi mr km fm hMI a4 a5 a6) (cwV 3 hts (gz_lV lm_199 lm_200 lm_201 lm_9 lm_198 lwGB goodGB) rfl rfl rfl hdV_X12_day_X12_3 ⟨Nat.le_of_ble_eq_true rfl, Nat.le_of_ble_eq_true rfl⟩) rfl rfl hl.1 (Nat.le_of_ble_eq_true rfl) (dk_at dkL_c24 34 rfl) (lw_rm2 (a := 0) (b := 0) (a2 := 0) (b2 := 0) hn hL (Nat.le_of_ble_eq_true rfl) (Nat.le_of_ble_eq_true rfl)) hK hP hD hS (fun rm9 mi2 fm2 H locs hMI2 hrelm hP hD hS => ?_)
  refine lv_pop hx hb (dk_at dkL_c24 35 rfl) rfl ?_
  refine lv_goto (tgt := 2056) hx hb (dk_at dkL_c24 36 rfl) (by decide) ?_
  have e90 : a4 = a1 := ea4.trans ea1.symm
  have e91 : a5 = a2 := ea5.trans ea2.symm
  have e92 : a6 = a3 := ea6.trans ea3.symm
  rw [e90, e91, e92] at hrelm
  have hN9 := pr_day hXI hMI hlen hrelx hrelm
  refine W.widen (k := 400 + (n + 1)) (n := 40000 + 5 * (n + 1)) (by omega) (by omega) ?_
  exact next _ _ _ ⟨ax2, kx2, vx2, fx2, gx2, rx2, mi2, mr, km, fm2, h0, hK, hXI2, hMI2, hN9.1, hP, hD⟩ hS hl
noncomputable def lsL_c25 : List (Nat × Instr × Nat) := [(1069, .aload_n 1, 1), (1070, .aload_n 0, 1), (1071, .iload_n 3, 1), (1072, .iconst 1, 1), (1073, .iadd, 1), (1074, .iaload, 1), (1075, .aload_n 0, 1), (1076, .iload_n 3, 1), (1077, .iconst 2, 1), (1078, .iadd, 1), (1079, .iaload, 1), (1080, .invokevirtual 118, 3), (1083, .pop, 1), (1084, .aload_n 2, 1), (1085, .aload_n 0, 1), (1086, .iload_n 3, 1), (1087, .iconst 1, 1), (1088, .iadd, 1), (1089, .iaload, 1), (1090, .aload_n 0, 1), (1091, .iload_n 3, 1), (1092, .iconst 2, 1), (1093, .iadd, 1), (1094, .iaload, 1), (1095, .invokevirtual 121, 3), (1098, .pop, 1), (1099, .goto 957, 3)]
theorem dkL_c25 : dkAll cL_law lsL_c25 = true := dk_fast (by decide +kernel)
set_option maxHeartbeats 4000000 in
set_option maxRecDepth 100000 in
theorem law_c25 {p : Program} {l : Launch} {e : Env} {s : State} {m : MethodId} {below : List Frame} {meth : Method} {c : Code} {dC : Nat → ClassId} {dI : Nat → Nat → Nat} {b L : Nat} {xs : Nat → Int32} (hL : L ≤ 3072) (C0 : lw_At p s m meth c b L xs) (hz : nzA s) {sa sb sa2 sb2 : Nat → Nat} {zf : Value} (hTA : gz_ST RX6 stIA sa sb zf (fun q : Nat => s.heap.size ≤ q) s s.heap) (hTB : gz_ST RX12 stIB sa2 sb2 zf (fun q : Nat => s.heap.size ≤ q) s s.heap) {x0 hm n : Nat} (hn : 6 * n + 6 ≤ L) {H : Heap} {locs : List Loc} {ls : Array Slot} (hI : LInv dC dI s x0 hm H) (hS : va_S (fun q : Nat => s.heap.size ≤ q) s.heap H locs) (hl : lv_has ls 4 [(0, .ref b), (1, .ref x0), (2, .ref hm), (3, .int (nI (6 * n)))]) (next : ∀ (H : Heap) (locs : List Loc) (ls : Array Slot), LInv dC dI s x0 hm H → va_S (fun q : Nat => s.heap.size ≤ q) s.heap H locs → lv_has ls 4 [(0, .ref b), (1, .ref x0), (2, .ref hm), (3, .int (nI (6 * n)))] → W p l e room_1 s m #[Value.ref b] below meth c H locs (400 + (n + 1)) (40000 + 5 * (n + 1)) (lw_Z below #[Value.ref b] s) (F0 m 2056 ls [])) : W p l e room_1 s m #[Value.ref b] below meth c H locs (400 + n) (40000 + 5 * n) (lw_Z below #[Value.ref b] s) (F0 m 1069 ls []) := by
  obtain ⟨hx, hb, hr, hml, hown0, hts, hX, hbl, hlocks, hgv⟩ := id C0
  have hown : s.vm.findClass RL = some m.cls := hown0
  have hA : ∀ q : Nat, s.heap.size ≤ q → (fun q : Nat => s.heap.size ≤ q) q := fun _ h => h
  have hbA : ¬ (fun q : Nat => s.heap.size ≤ q) b := Nat.not_le.mpr hbl
  obtain ⟨ax, kx, vx, fx, gx, rx, mi, mr, km, fm, rfl, hK, hXI, hMI, hlen, hP, hD⟩ := hI
  refine lv_aload_n hx hb (dk_at dkL_c25 0 rfl) rfl (lv_at hl 1 rfl) ?_
  refine lw_arg hx hb hX hbl hbA hS hl (dk_at dkL_c25 1 rfl) (dk_at dkL_c25 2 rfl) (dk_at dkL_c25 3 rfl) (dk_at dkL_c25 4 rfl) (dk_at dkL_c25 5 rfl) 1 (by decide) (Nat.le_of_ble_eq_true rfl) hn hL (fun a1 ea1 => ?_)
  refine lw_arg hx hb hX hbl hbA hS hl (dk_at dkL_c25 6 rfl) (dk_at dkL_c25 7 rfl) (dk_at dkL_c25 8 rfl) (dk_at dkL_c25 9 rfl) (dk_at dkL_c25 10 rfl) 2 (by decide) (Nat.le_of_ble_eq_true rfl) hn hL (fun a2 ea2 => ?_)
  refine lw_cx (st := [.int a2, .int a1, .ref (ax 0)]) (rest := []) ⟨hx, hb, hml, hown, hts⟩ (uX11_date l dC dI H.size ax kx vx fx gx rx hXI a1 a2) (cwV 2 hts (gz_lV lm_203 lm_204 lm_205 lm_4 lm_202 lwGA goodGA) rfl rfl rfl hdV_X11_date_X11_2 ⟨Nat.le_of_ble_eq_true rfl, Nat.le_of_ble_eq_true rfl⟩) rfl rfl hl.1 (Nat.le_of_ble_eq_true rfl) (dk_at dkL_c25 11 rfl) (lw_rm (a := 0) (b := 0) hn hL (Nat.le_of_ble_eq_true rfl) (Nat.le_of_ble_eq_true rfl)) hz hK hP hD hS (fun rx9 ax2 kx2 vx2 fx2 gx2 rx2 H locs h0 hXI2 hrelx hK hP hD hS => ?_)
  refine lv_pop hx hb (dk_at dkL_c25 12 rfl) rfl ?_
  refine lv_aload_n hx hb (dk_at dkL_c25 13 rfl) rfl (lv_at hl 2 rfl) ?_
  refine lw_arg hx hb hX hbl hbA hS hl (dk_at dkL_c25 14 rfl) (dk_at dkL_c25 15 rfl) (dk_at dkL_c25 16 rfl) (dk_at dkL_c25 17 rfl) (dk_at dkL_c25 18 rfl) 1 (by decide) (Nat.le_of_ble_eq_true rfl) hn hL (fun a3 ea3 => ?_)
  refine lw_arg hx hb hX hbl hbA hS hl (dk_at dkL_c25 19 rfl) (dk_at dkL_c25 20 rfl) (dk_at dkL_c25 21 rfl) (dk_at dkL_c25 22 rfl) (dk_at dkL_c25 23 rfl) 2 (by decide) (Nat.le_of_ble_eq_true rfl) hn hL (fun a4 ea4 => ?_)
  refine lw_cm (st := [.int a4, .int a3, .ref hm]) (rest := []) ⟨hx, hb, hml, hown, hts⟩ (uX12_date l dC dI H.size hm mi mr km fm hMI a3 a4) (cwV 2 hts (gz_lV lm_207 lm_208 lm_209 lm_9 lm_206 lwGB goodGB) rfl rfl rfl hdV_X12_date_X12_2 ⟨Nat.le_of_ble_eq_true rfl, Nat.le_of_ble_eq_true rfl⟩) rfl rfl hl.1 (Nat.le_of_ble_eq_true rfl) (dk_at dkL_c25 24 rfl) (lw_rm2 (a := 0) (b := 0) (a2 := 0) (b2 := 0) hn hL (Nat.le_of_ble_eq_true rfl) (Nat.le_of_ble_eq_true rfl)) hK hP hD hS (fun rm9 mi2 fm2 H locs hMI2 hrelm hP hD hS => ?_)
  refine lv_pop hx hb (dk_at dkL_c25 25 rfl) rfl ?_
  refine lv_goto (tgt := 2056) hx hb (dk_at dkL_c25 26 rfl) (by decide) ?_
  have e90 : a3 = a1 := ea3.trans ea1.symm
  have e91 : a4 = a2 := ea4.trans ea2.symm
  rw [e90, e91] at hrelm
  have hN9 := pr_date hXI hMI hlen hrelx hrelm
  refine W.widen (k := 400 + (n + 1)) (n := 40000 + 5 * (n + 1)) (by omega) (by omega) ?_
  exact next _ _ _ ⟨ax2, kx2, vx2, fx2, gx2, rx2, mi2, mr, km, fm2, h0, hK, hXI2, hMI2, hN9.1, hP, hD⟩ hS hl
noncomputable def lsL_c26 : List (Nat × Instr × Nat) := [(1102, .aload_n 1, 1), (1103, .aload_n 0, 1), (1104, .iload_n 3, 1), (1105, .iconst 1, 1), (1106, .iadd, 1), (1107, .iaload, 1), (1108, .aload_n 0, 1), (1109, .iload_n 3, 1), (1110, .iconst 2, 1), (1111, .iadd, 1), (1112, .iaload, 1), (1113, .invokevirtual 122, 3), (1116, .pop, 1), (1117, .aload_n 2, 1), (1118, .aload_n 0, 1), (1119, .iload_n 3, 1), (1120, .iconst 1, 1), (1121, .iadd, 1), (1122, .iaload, 1), (1123, .aload_n 0, 1), (1124, .iload_n 3, 1), (1125, .iconst 2, 1), (1126, .iadd, 1), (1127, .iaload, 1), (1128, .invokevirtual 125, 3), (1131, .pop, 1), (1132, .goto 924, 3)]
theorem dkL_c26 : dkAll cL_law lsL_c26 = true := dk_fast (by decide +kernel)
set_option maxHeartbeats 4000000 in
set_option maxRecDepth 100000 in
theorem law_c26 {p : Program} {l : Launch} {e : Env} {s : State} {m : MethodId} {below : List Frame} {meth : Method} {c : Code} {dC : Nat → ClassId} {dI : Nat → Nat → Nat} {b L : Nat} {xs : Nat → Int32} (hL : L ≤ 3072) (C0 : lw_At p s m meth c b L xs) (hz : nzA s) {sa sb sa2 sb2 : Nat → Nat} {zf : Value} (hTA : gz_ST RX6 stIA sa sb zf (fun q : Nat => s.heap.size ≤ q) s s.heap) (hTB : gz_ST RX12 stIB sa2 sb2 zf (fun q : Nat => s.heap.size ≤ q) s s.heap) {x0 hm n : Nat} (hn : 6 * n + 6 ≤ L) {H : Heap} {locs : List Loc} {ls : Array Slot} (hI : LInv dC dI s x0 hm H) (hS : va_S (fun q : Nat => s.heap.size ≤ q) s.heap H locs) (hl : lv_has ls 4 [(0, .ref b), (1, .ref x0), (2, .ref hm), (3, .int (nI (6 * n)))]) (next : ∀ (H : Heap) (locs : List Loc) (ls : Array Slot), LInv dC dI s x0 hm H → va_S (fun q : Nat => s.heap.size ≤ q) s.heap H locs → lv_has ls 4 [(0, .ref b), (1, .ref x0), (2, .ref hm), (3, .int (nI (6 * n)))] → W p l e room_1 s m #[Value.ref b] below meth c H locs (400 + (n + 1)) (40000 + 5 * (n + 1)) (lw_Z below #[Value.ref b] s) (F0 m 2056 ls [])) : W p l e room_1 s m #[Value.ref b] below meth c H locs (400 + n) (40000 + 5 * n) (lw_Z below #[Value.ref b] s) (F0 m 1102 ls []) := by
  obtain ⟨hx, hb, hr, hml, hown0, hts, hX, hbl, hlocks, hgv⟩ := id C0
  have hown : s.vm.findClass RL = some m.cls := hown0
  have hA : ∀ q : Nat, s.heap.size ≤ q → (fun q : Nat => s.heap.size ≤ q) q := fun _ h => h
  have hbA : ¬ (fun q : Nat => s.heap.size ≤ q) b := Nat.not_le.mpr hbl
  obtain ⟨ax, kx, vx, fx, gx, rx, mi, mr, km, fm, rfl, hK, hXI, hMI, hlen, hP, hD⟩ := hI
  refine lv_aload_n hx hb (dk_at dkL_c26 0 rfl) rfl (lv_at hl 1 rfl) ?_
  refine lw_arg hx hb hX hbl hbA hS hl (dk_at dkL_c26 1 rfl) (dk_at dkL_c26 2 rfl) (dk_at dkL_c26 3 rfl) (dk_at dkL_c26 4 rfl) (dk_at dkL_c26 5 rfl) 1 (by decide) (Nat.le_of_ble_eq_true rfl) hn hL (fun a1 ea1 => ?_)
  refine lw_arg hx hb hX hbl hbA hS hl (dk_at dkL_c26 6 rfl) (dk_at dkL_c26 7 rfl) (dk_at dkL_c26 8 rfl) (dk_at dkL_c26 9 rfl) (dk_at dkL_c26 10 rfl) 2 (by decide) (Nat.le_of_ble_eq_true rfl) hn hL (fun a2 ea2 => ?_)
  refine lw_cx (st := [.int a2, .int a1, .ref (ax 0)]) (rest := []) ⟨hx, hb, hml, hown, hts⟩ (uX11_dates l dC dI H.size ax kx vx fx gx rx hXI a1 a2) (cwV 2 hts (gz_lV lm_211 lm_212 lm_213 lm_4 lm_210 lwGA goodGA) rfl rfl rfl hdV_X11_dates_X11_2 ⟨Nat.le_of_ble_eq_true rfl, Nat.le_of_ble_eq_true rfl⟩) rfl rfl hl.1 (Nat.le_of_ble_eq_true rfl) (dk_at dkL_c26 11 rfl) (lw_rm (a := 0) (b := 0) hn hL (Nat.le_of_ble_eq_true rfl) (Nat.le_of_ble_eq_true rfl)) hz hK hP hD hS (fun rx9 ax2 kx2 vx2 fx2 gx2 rx2 H locs h0 hXI2 hrelx hK hP hD hS => ?_)
  refine lv_pop hx hb (dk_at dkL_c26 12 rfl) rfl ?_
  refine lv_aload_n hx hb (dk_at dkL_c26 13 rfl) rfl (lv_at hl 2 rfl) ?_
  refine lw_arg hx hb hX hbl hbA hS hl (dk_at dkL_c26 14 rfl) (dk_at dkL_c26 15 rfl) (dk_at dkL_c26 16 rfl) (dk_at dkL_c26 17 rfl) (dk_at dkL_c26 18 rfl) 1 (by decide) (Nat.le_of_ble_eq_true rfl) hn hL (fun a3 ea3 => ?_)
  refine lw_arg hx hb hX hbl hbA hS hl (dk_at dkL_c26 19 rfl) (dk_at dkL_c26 20 rfl) (dk_at dkL_c26 21 rfl) (dk_at dkL_c26 22 rfl) (dk_at dkL_c26 23 rfl) 2 (by decide) (Nat.le_of_ble_eq_true rfl) hn hL (fun a4 ea4 => ?_)
  refine lw_cm (st := [.int a4, .int a3, .ref hm]) (rest := []) ⟨hx, hb, hml, hown, hts⟩ (uX12_dates l dC dI H.size hm mi mr km fm hMI a3 a4) (cwV 2 hts (gz_lV lm_215 lm_216 lm_217 lm_9 lm_214 lwGB goodGB) rfl rfl rfl hdV_X12_dates_X12_2 ⟨Nat.le_of_ble_eq_true rfl, Nat.le_of_ble_eq_true rfl⟩) rfl rfl hl.1 (Nat.le_of_ble_eq_true rfl) (dk_at dkL_c26 24 rfl) (lw_rm2 (a := 0) (b := 0) (a2 := 0) (b2 := 0) hn hL (Nat.le_of_ble_eq_true rfl) (Nat.le_of_ble_eq_true rfl)) hK hP hD hS (fun rm9 mi2 fm2 H locs hMI2 hrelm hP hD hS => ?_)
  refine lv_pop hx hb (dk_at dkL_c26 25 rfl) rfl ?_
  refine lv_goto (tgt := 2056) hx hb (dk_at dkL_c26 26 rfl) (by decide) ?_
  have e90 : a3 = a1 := ea3.trans ea1.symm
  have e91 : a4 = a2 := ea4.trans ea2.symm
  rw [e90, e91] at hrelm
  have hN9 := pr_dates hXI hMI hlen hrelx hrelm
  refine W.widen (k := 400 + (n + 1)) (n := 40000 + 5 * (n + 1)) (by omega) (by omega) ?_
  exact next _ _ _ ⟨ax2, kx2, vx2, fx2, gx2, rx2, mi2, mr, km, fm2, h0, hK, hXI2, hMI2, hN9, hP, hD⟩ hS hl
