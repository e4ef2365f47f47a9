
noncomputable def lsL_c27 : List (Nat × Instr × Nat) := [(1135, .aload_n 1, 1), (1136, .aload_n 0, 1), (1137, .iload_n 3, 1), (1138, .iconst 1, 1), (1139, .iadd, 1), (1140, .iaload, 1), (1141, .aload_n 0, 1), (1142, .iload_n 3, 1), (1143, .iconst 2, 1), (1144, .iadd, 1), (1145, .iaload, 1), (1146, .invokevirtual 126, 3), (1149, .pop, 1), (1150, .aload_n 2, 1), (1151, .aload_n 0, 1), (1152, .iload_n 3, 1), (1153, .iconst 1, 1), (1154, .iadd, 1), (1155, .iaload, 1), (1156, .aload_n 0, 1), (1157, .iload_n 3, 1), (1158, .iconst 2, 1), (1159, .iadd, 1), (1160, .iaload, 1), (1161, .invokevirtual 129, 3), (1164, .pop, 1), (1165, .goto 891, 3)]
theorem dkL_c27 : dkAll cL_law lsL_c27 = true := dk_fast (by decide +kernel)
set_option maxHeartbeats 4000000 in
set_option maxRecDepth 100000 in
theorem law_c27 {p : Program} {l : Launch} {e : Env} {s : State} {m : MethodId} {below : List Frame} {meth : Method} {c : Code} {dC : Nat → ClassId} {dI : Nat → Nat → Nat} {b L : Nat} {xs : Nat → Int32} (hL : L ≤ 3072) (C0 : lw_At p s m meth c b L xs) (hz : nzA s) {sa sb sa2 sb2 : Nat → Nat} {zf : Value} (hTA : gz_ST RX6 stIA sa sb zf (fun q : Nat => s.heap.size ≤ q) s s.heap) (hTB : gz_ST RX12 stIB sa2 sb2 zf (fun q : Nat => s.heap.size ≤ q) s s.heap) {x0 hm n : Nat} (hn : 6 * n + 6 ≤ L) {H : Heap} {locs : List Loc} {ls : Array Slot} (hI : LInv dC dI s x0 hm H) (hS : va_S (fun q : Nat => s.heap.size ≤ q) s.heap H locs) (hl : lv_has ls 4 [(0, .ref b), (1, .ref x0), (2, .ref hm), (3, .int (nI (6 * n)))]) (next : ∀ (H : Heap) (locs : List Loc) (ls : Array Slot), LInv dC dI s x0 hm H → va_S (fun q : Nat => s.heap.size ≤ q) s.heap H locs → lv_has ls 4 [(0, .ref b), (1, .ref x0), (2, .ref hm), (3, .int (nI (6 * n)))] → W p l e room_1 s m #[Value.ref b] below meth c H locs (400 + (n + 1)) (40000 + 5 * (n + 1)) (lw_Z below #[Value.ref b] s) (F0 m 2056 ls [])) : W p l e room_1 s m #[Value.ref b] below meth c H locs (400 + n) (40000 + 5 * n) (lw_Z below #[Value.ref b] s) (F0 m 1135 ls []) := by
  obtain ⟨hx, hb, hr, hml, hown0, hts, hX, hbl, hlocks, hgv⟩ := id C0
  have hown : s.vm.findClass RL = some m.cls := hown0
  have hA : ∀ q : Nat, s.heap.size ≤ q → (fun q : Nat => s.heap.size ≤ q) q := fun _ h => h
  have hbA : ¬ (fun q : Nat => s.heap.size ≤ q) b := Nat.not_le.mpr hbl
  obtain ⟨ax, kx, vx, fx, gx, rx, mi, mr, km, fm, rfl, hK, hXI, hMI, hlen, hP, hD⟩ := hI
  refine lv_aload_n hx hb (dk_at dkL_c27 0 rfl) rfl (lv_at hl 1 rfl) ?_
  refine lw_arg hx hb hX hbl hbA hS hl (dk_at dkL_c27 1 rfl) (dk_at dkL_c27 2 rfl) (dk_at dkL_c27 3 rfl) (dk_at dkL_c27 4 rfl) (dk_at dkL_c27 5 rfl) 1 (by decide) (Nat.le_of_ble_eq_true rfl) hn hL (fun a1 ea1 => ?_)
  refine lw_arg hx hb hX hbl hbA hS hl (dk_at dkL_c27 6 rfl) (dk_at dkL_c27 7 rfl) (dk_at dkL_c27 8 rfl) (dk_at dkL_c27 9 rfl) (dk_at dkL_c27 10 rfl) 2 (by decide) (Nat.le_of_ble_eq_true rfl) hn hL (fun a2 ea2 => ?_)
  refine lw_cx (st := [.int a2, .int a1, .ref (ax 0)]) (rest := []) ⟨hx, hb, hml, hown, hts⟩ (uX11_likely l dC dI H.size ax kx vx fx gx rx hXI a1 a2) (cwV 2 hts (gz_lV lm_219 lm_220 lm_221 lm_4 lm_218 lwGA goodGA) rfl rfl rfl hdV_X11_likely_X11_2 ⟨Nat.le_of_ble_eq_true rfl, Nat.le_of_ble_eq_true rfl⟩) rfl rfl hl.1 (Nat.le_of_ble_eq_true rfl) (dk_at dkL_c27 11 rfl) (lw_rm (a := 0) (b := 0) hn hL (Nat.le_of_ble_eq_true rfl) (Nat.le_of_ble_eq_true rfl)) hz hK hP hD hS (fun rx9 ax2 kx2 vx2 fx2 gx2 rx2 H locs h0 hXI2 hrelx hK hP hD hS => ?_)
  refine lv_pop hx hb (dk_at dkL_c27 12 rfl) rfl ?_
  refine lv_aload_n hx hb (dk_at dkL_c27 13 rfl) rfl (lv_at hl 2 rfl) ?_
  refine lw_arg hx hb hX hbl hbA hS hl (dk_at dkL_c27 14 rfl) (dk_at dkL_c27 15 rfl) (dk_at dkL_c27 16 rfl) (dk_at dkL_c27 17 rfl) (dk_at dkL_c27 18 rfl) 1 (by decide) (Nat.le_of_ble_eq_true rfl) hn hL (fun a3 ea3 => ?_)
  refine lw_arg hx hb hX hbl hbA hS hl (dk_at dkL_c27 19 rfl) (dk_at dkL_c27 20 rfl) (dk_at dkL_c27 21 rfl) (dk_at dkL_c27 22 rfl) (dk_at dkL_c27 23 rfl) 2 (by decide) (Nat.le_of_ble_eq_true rfl) hn hL (fun a4 ea4 => ?_)
  refine lw_cm (st := [.int a4, .int a3, .ref hm]) (rest := []) ⟨hx, hb, hml, hown, hts⟩ (uX12_likely l dC dI H.size hm mi mr km fm hMI a3 a4) (cwV 2 hts (gz_lV lm_223 lm_224 lm_225 lm_9 lm_222 lwGB goodGB) rfl rfl rfl hdV_X12_likely_X12_2 ⟨Nat.le_of_ble_eq_true rfl, Nat.le_of_ble_eq_true rfl⟩) rfl rfl hl.1 (Nat.le_of_ble_eq_true rfl) (dk_at dkL_c27 24 rfl) (lw_rm2 (a := 0) (b := 0) (a2 := 0) (b2 := 0) hn hL (Nat.le_of_ble_eq_true rfl) (Nat.le_of_ble_eq_true rfl)) hK hP hD hS (fun rm9 mi2 fm2 H locs hMI2 hrelm hP hD hS => ?_)
  refine lv_pop hx hb (dk_at dkL_c27 25 rfl) rfl ?_
  refine lv_goto (tgt := 2056) hx hb (dk_at dkL_c27 26 rfl) (by decide) ?_
  have e90 : a3 = a1 := ea3.trans ea1.symm
  have e91 : a4 = a2 := ea4.trans ea2.symm
  rw [e90, e91] at hrelm
  have hN9 := pr_likely hXI hMI hlen hrelx hrelm
  refine W.widen (k := 400 + (n + 1)) (n := 40000 + 5 * (n + 1)) (by omega) (by omega) ?_
  exact next _ _ _ ⟨ax2, kx2, vx2, fx2, gx2, rx2, mi2, mr, km, fm2, h0, hK, hXI2, hMI2, hN9, hP, hD⟩ hS hl
noncomputable def lsL_c28 : List (Nat × Instr × Nat) := [(1168, .aload_n 1, 1), (1169, .aload_n 0, 1), (1170, .iload_n 3, 1), (1171, .iconst 1, 1), (1172, .iadd, 1), (1173, .iaload, 1), (1174, .aload_n 0, 1), (1175, .iload_n 3, 1), (1176, .iconst 2, 1), (1177, .iadd, 1), (1178, .iaload, 1), (1179, .aload_n 0, 1), (1180, .iload_n 3, 1), (1181, .iconst 3, 1), (1182, .iadd, 1), (1183, .iaload, 1), (1184, .invokevirtual 130, 3), (1187, .pop, 1), (1188, .aload_n 2, 1), (1189, .aload_n 0, 1), (1190, .iload_n 3, 1), (1191, .iconst 1, 1), (1192, .iadd, 1), (1193, .iaload, 1), (1194, .aload_n 0, 1), (1195, .iload_n 3, 1), (1196, .iconst 2, 1), (1197, .iadd, 1), (1198, .iaload, 1), (1199, .aload_n 0, 1), (1200, .iload_n 3, 1), (1201, .iconst 3, 1), (1202, .iadd, 1), (1203, .iaload, 1), (1204, .invokevirtual 133, 3), (1207, .pop, 1), (1208, .goto 848, 3)]
theorem dkL_c28 : dkAll cL_law lsL_c28 = true := dk_fast (by decide +kernel)
set_option maxHeartbeats 4000000 in
set_option maxRecDepth 100000 in
theorem law_c28 {p : Program} {l : Launch} {e : Env} {s : State} {m : MethodId} {below : List Frame} {meth : Method} {c : Code} {dC : Nat → ClassId} {dI : Nat → Nat → Nat} {b L : Nat} {xs : Nat → Int32} (hL : L ≤ 3072) (C0 : lw_At p s m meth c b L xs) (hz : nzA s) {sa sb sa2 sb2 : Nat → Nat} {zf : Value} (hTA : gz_ST RX6 stIA sa sb zf (fun q : Nat => s.heap.size ≤ q) s s.heap) (hTB : gz_ST RX12 stIB sa2 sb2 zf (fun q : Nat => s.heap.size ≤ q) s s.heap) {x0 hm n : Nat} (hn : 6 * n + 6 ≤ L) {H : Heap} {locs : List Loc} {ls : Array Slot} (hI : LInv dC dI s x0 hm H) (hS : va_S (fun q : Nat => s.heap.size ≤ q) s.heap H locs) (hl : lv_has ls 4 [(0, .ref b), (1, .ref x0), (2, .ref hm), (3, .int (nI (6 * n)))]) (next : ∀ (H : Heap) (locs : List Loc) (ls : Array Slot), LInv dC dI s x0 hm H → va_S (fun q : Nat => s.heap.size ≤ q) s.heap H locs → lv_has ls 4 [(0, .ref b), (1, .ref x0), (2, .ref hm), (3, .int (nI (6 * n)))] → W p l e room_1 s m #[Value.ref b] below meth c H locs (400 + (n + 1)) (40000 + 5 * (n + 1)) (lw_Z below #[Value.ref b] s) (F0 m 2056 ls [])) : W p l e room_1 s m #[Value.ref b] below meth c H locs (400 + n) (40000 + 5 * n) (lw_Z below #[Value.ref b] s) (F0 m 1168 ls []) := by
  obtain ⟨hx, hb, hr, hml, hown0, hts, hX, hbl, hlocks, hgv⟩ := id C0
  have hown : s.vm.findClass RL = some m.cls := hown0
  have hA : ∀ q : Nat, s.heap.size ≤ q → (fun q : Nat => s.heap.size ≤ q) q := fun _ h => h
  have hbA : ¬ (fun q : Nat => s.heap.size ≤ q) b := Nat.not_le.mpr hbl
  obtain ⟨ax, kx, vx, fx, gx, rx, mi, mr, km, fm, rfl, hK, hXI, hMI, hlen, hP, hD⟩ := hI
  refine lv_aload_n hx hb (dk_at dkL_c28 0 rfl) rfl (lv_at hl 1 rfl) ?_
  refine lw_arg hx hb hX hbl hbA hS hl (dk_at dkL_c28 1 rfl) (dk_at dkL_c28 2 rfl) (dk_at dkL_c28 3 rfl) (dk_at dkL_c28 4 rfl) (dk_at dkL_c28 5 rfl) 1 (by decide) (Nat.le_of_ble_eq_true rfl) hn hL (fun a1 ea1 => ?_)
  refine lw_arg hx hb hX hbl hbA hS hl (dk_at dkL_c28 6 rfl) (dk_at dkL_c28 7 rfl) (dk_at dkL_c28 8 rfl) (dk_at dkL_c28 9 rfl) (dk_at dkL_c28 10 rfl) 2 (by decide) (Nat.le_of_ble_eq_true rfl) hn hL (fun a2 ea2 => ?_)
  refine lw_arg hx hb hX hbl hbA hS hl (dk_at dkL_c28 11 rfl) (dk_at dkL_c28 12 rfl) (dk_at dkL_c28 13 rfl) (dk_at dkL_c28 14 rfl) (dk_at dkL_c28 15 rfl) 3 (by decide) (Nat.le_of_ble_eq_true rfl) hn hL (fun a3 ea3 => ?_)
  refine lw_cx (st := [.int a3, .int a2, .int a1, .ref (ax 0)]) (rest := []) ⟨hx, hb, hml, hown, hts⟩ (uX11_moved l dC dI H.size ax kx vx fx gx rx hXI a1 a2 a3) (cwV 3 hts (gz_lV lm_227 lm_228 lm_229 lm_4 lm_226 lwGA goodGA) rfl rfl rfl hdV_X11_moved_X11_3 ⟨Nat.le_of_ble_eq_true rfl, Nat.le_of_ble_eq_true rfl⟩) rfl rfl hl.1 (Nat.le_of_ble_eq_true rfl) (dk_at dkL_c28 16 rfl) (lw_rm (a := 0) (b := 0) hn hL (Nat.le_of_ble_eq_true rfl) (Nat.le_of_ble_eq_true rfl)) hz hK hP hD hS (fun rx9 ax2 kx2 vx2 fx2 gx2 rx2 H locs h0 hXI2 hrelx hK hP hD hS => ?_)
  refine lv_pop hx hb (dk_at dkL_c28 17 rfl) rfl ?_
  refine lv_aload_n hx hb (dk_at dkL_c28 18 rfl) rfl (lv_at hl 2 rfl) ?_
  refine lw_arg hx hb hX hbl hbA hS hl (dk_at dkL_c28 19 rfl) (dk_at dkL_c28 20 rfl) (dk_at dkL_c28 21 rfl) (dk_at dkL_c28 22 rfl) (dk_at dkL_c28 23 rfl) 1 (by decide) (Nat.le_of_ble_eq_true rfl) hn hL (fun a4 ea4 => ?_)
  refine lw_arg hx hb hX hbl hbA hS hl (dk_at dkL_c28 24 rfl) (dk_at dkL_c28 25 rfl) (dk_at dkL_c28 26 rfl) (dk_at dkL_c28 27 rfl) (dk_at dkL_c28 28 rfl) 2 (by decide) (Nat.le_of_ble_eq_true rfl) hn hL (fun a5 ea5 => ?_)
  refine lw_arg hx hb hX hbl hbA hS hl (dk_at dkL_c28 29 rfl) (dk_at dkL_c28 30 rfl) (dk_at dkL_c28 31 rfl) (dk_at dkL_c28 32 rfl) (dk_at dkL_c28 33 rfl) 3 (by decide) (Nat.le_of_ble_eq_true rfl) hn hL (fun a6 ea6 => ?_)
  refine lw_cm (st := [.int a6, .int a5, .int a4, .ref hm]) (rest := []) ⟨hx, hb, hml, hown, hts⟩ (uX12_moved l dC dI H.size hm mi mr km fm hMI a4 a5 a6) (cwV 3 hts (gz_lV lm_231 lm_232 lm_233 lm_9 lm_230 lwGB goodGB) rfl rfl rfl hdV_X12_moved_X12_3 ⟨Nat.le_of_ble_eq_true rfl, Nat.le_of_ble_eq_true rfl⟩) rfl rfl hl.1 (Nat.le_of_ble_eq_true rfl) (dk_at dkL_c28 34 rfl) (lw_rm2 (a := 0) (b := 0) (a2 := 0) (b2 := 0) hn hL (Nat.le_of_ble_eq_true rfl) (Nat.le_of_ble_eq_true rfl)) hK hP hD hS (fun rm9 mi2 fm2 H locs hMI2 hrelm hP hD hS => ?_)
  refine lv_pop hx hb (dk_at dkL_c28 35 rfl) rfl ?_
  refine lv_goto (tgt := 2056) hx hb (dk_at dkL_c28 36 rfl) (by decide) ?_
  have e90 : a4 = a1 := ea4.trans ea1.symm
  have e91 : a5 = a2 := ea5.trans ea2.symm
  have e92 : a6 = a3 := ea6.trans ea3.symm
  rw [e90, e91, e92] at hrelm
  have hN9 := pr_moved hXI hMI hlen hrelx hrelm
  refine W.widen (k := 400 + (n + 1)) (n := 40000 + 5 * (n + 1)) (by omega) (by omega) ?_
  exact next _ _ _ ⟨ax2, kx2, vx2, fx2, gx2, rx2, mi2, mr, km, fm2, h0, hK, hXI2, hMI2, hN9.1, hP, hD⟩ hS hl
noncomputable def lsL_c29 : List (Nat × Instr × Nat) := [(1211, .aload_n 1, 1), (1212, .aload_n 0, 1), (1213, .iload_n 3, 1), (1214, .iconst 1, 1), (1215, .iadd, 1), (1216, .iaload, 1), (1217, .invokevirtual 134, 3), (1220, .pop, 1), (1221, .aload_n 2, 1), (1222, .aload_n 0, 1), (1223, .iload_n 3, 1), (1224, .iconst 1, 1), (1225, .iadd, 1), (1226, .iaload, 1), (1227, .invokevirtual 137, 3), (1230, .pop, 1), (1231, .goto 825, 3)]
theorem dkL_c29 : dkAll cL_law lsL_c29 = true := dk_fast (by decide +kernel)
set_option maxHeartbeats 4000000 in
set_option maxRecDepth 100000 in
theorem law_c29 {p : Program} {l : Launch} {e : Env} {s : State} {m : MethodId} {below : List Frame} {meth : Method} {c : Code} {dC : Nat → ClassId} {dI : Nat → Nat → Nat} {b L : Nat} {xs : Nat → Int32} (hL : L ≤ 3072) (C0 : lw_At p s m meth c b L xs) (hz : nzA s) {sa sb sa2 sb2 : Nat → Nat} {zf : Value} (hTA : gz_ST RX6 stIA sa sb zf (fun q : Nat => s.heap.size ≤ q) s s.heap) (hTB : gz_ST RX12 stIB sa2 sb2 zf (fun q : Nat => s.heap.size ≤ q) s s.heap) {x0 hm n : Nat} (hn : 6 * n + 6 ≤ L) {H : Heap} {locs : List Loc} {ls : Array Slot} (hI : LInv dC dI s x0 hm H) (hS : va_S (fun q : Nat => s.heap.size ≤ q) s.heap H locs) (hl : lv_has ls 4 [(0, .ref b), (1, .ref x0), (2, .ref hm), (3, .int (nI (6 * n)))]) (next : ∀ (H : Heap) (locs : List Loc) (ls : Array Slot), LInv dC dI s x0 hm H → va_S (fun q : Nat => s.heap.size ≤ q) s.heap H locs → lv_has ls 4 [(0, .ref b), (1, .ref x0), (2, .ref hm), (3, .int (nI (6 * n)))] → W p l e room_1 s m #[Value.ref b] below meth c H locs (400 + (n + 1)) (40000 + 5 * (n + 1)) (lw_Z below #[Value.ref b] s) (F0 m 2056 ls [])) : W p l e room_1 s m #[Value.ref b] below meth c H locs (400 + n) (40000 + 5 * n) (lw_Z below #[Value.ref b] s) (F0 m 1211 ls []) := by
  obtain ⟨hx, hb, hr, hml, hown0, hts, hX, hbl, hlocks, hgv⟩ := id C0
  have hown : s.vm.findClass RL = some m.cls := hown0
  have hA : ∀ q : Nat, s.heap.size ≤ q → (fun q : Nat => s.heap.size ≤ q) q := fun _ h => h
  have hbA : ¬ (fun q : Nat => s.heap.size ≤ q) b := Nat.not_le.mpr hbl
  obtain ⟨ax, kx, vx, fx, gx, rx, mi, mr, km, fm, rfl, hK, hXI, hMI, hlen, hP, hD⟩ := hI
  refine lv_aload_n hx hb (dk_at dkL_c29 0 rfl) rfl (lv_at hl 1 rfl) ?_
  refine lw_arg hx hb hX hbl hbA hS hl (dk_at dkL_c29 1 rfl) (dk_at dkL_c29 2 rfl) (dk_at dkL_c29 3 rfl) (dk_at dkL_c29 4 rfl) (dk_at dkL_c29 5 rfl) 1 (by decide) (Nat.le_of_ble_eq_true rfl) hn hL (fun a1 ea1 => ?_)
  refine lw_cx (st := [.int a1, .ref (ax 0)]) (rest := []) ⟨hx, hb, hml, hown, hts⟩ (uX11_shifts l dC dI H.size ax kx vx fx gx rx hXI a1) (cwV 1 hts (gz_lV lm_235 lm_236 lm_237 lm_4 lm_234 lwGA goodGA) rfl rfl rfl hdV_X11_shifts_X11_1 ⟨Nat.le_of_ble_eq_true rfl, Nat.le_of_ble_eq_true rfl⟩) rfl rfl hl.1 (Nat.le_of_ble_eq_true rfl) (dk_at dkL_c29 6 rfl) (lw_rm (a := 0) (b := 0) hn hL (Nat.le_of_ble_eq_true rfl) (Nat.le_of_ble_eq_true rfl)) hz hK hP hD hS (fun rx9 ax2 kx2 vx2 fx2 gx2 rx2 H locs h0 hXI2 hrelx hK hP hD hS => ?_)
  refine lv_pop hx hb (dk_at dkL_c29 7 rfl) rfl ?_
  refine lv_aload_n hx hb (dk_at dkL_c29 8 rfl) rfl (lv_at hl 2 rfl) ?_
  refine lw_arg hx hb hX hbl hbA hS hl (dk_at dkL_c29 9 rfl) (dk_at dkL_c29 10 rfl) (dk_at dkL_c29 11 rfl) (dk_at dkL_c29 12 rfl) (dk_at dkL_c29 13 rfl) 1 (by decide) (Nat.le_of_ble_eq_true rfl) hn hL (fun a2 ea2 => ?_)
  refine lw_cm (st := [.int a2, .ref hm]) (rest := []) ⟨hx, hb, hml, hown, hts⟩ (uX12_shifts l dC dI H.size hm mi mr km fm hMI a2) (cwV 1 hts (gz_lV lm_239 lm_240 lm_241 lm_9 lm_238 lwGB goodGB) rfl rfl rfl hdV_X12_shifts_X12_1 ⟨Nat.le_of_ble_eq_true rfl, Nat.le_of_ble_eq_true rfl⟩) rfl rfl hl.1 (Nat.le_of_ble_eq_true rfl) (dk_at dkL_c29 14 rfl) (lw_rm2 (a := 0) (b := 0) (a2 := 0) (b2 := 0) hn hL (Nat.le_of_ble_eq_true rfl) (Nat.le_of_ble_eq_true rfl)) hK hP hD hS (fun rm9 mi2 fm2 H locs hMI2 hrelm hP hD hS => ?_)
  refine lv_pop hx hb (dk_at dkL_c29 15 rfl) rfl ?_
  refine lv_goto (tgt := 2056) hx hb (dk_at dkL_c29 16 rfl) (by decide) ?_
  have e90 : a2 = a1 := ea2.trans ea1.symm
  rw [e90] at hrelm
  have hN9 := pr_shifts hXI hMI hlen hrelx hrelm
  refine W.widen (k := 400 + (n + 1)) (n := 40000 + 5 * (n + 1)) (by omega) (by omega) ?_
  exact next _ _ _ ⟨ax2, kx2, vx2, fx2, gx2, rx2, mi2, mr, km, fm2, h0, hK, hXI2, hMI2, hN9.1, hP, hD⟩ hS hl
noncomputable def lsL_c30 : List (Nat × Instr × Nat) := [(1234, .aload_n 1, 1), (1235, .aload_n 0, 1), (1236, .iload_n 3, 1), (1237, .iconst 1, 1), (1238, .iadd, 1), (1239, .iaload, 1), (1240, .invokevirtual 138, 3), (1243, .pop, 1), (1244, .aload_n 2, 1), (1245, .aload_n 0, 1), (1246, .iload_n 3, 1), (1247, .iconst 1, 1), (1248, .iadd, 1), (1249, .iaload, 1), (1250, .invokevirtual 141, 3), (1253, .pop, 1), (1254, .goto 802, 3)]
theorem dkL_c30 : dkAll cL_law lsL_c30 = true := dk_fast (by decide +kernel)
set_option maxHeartbeats 4000000 in
set_option maxRecDepth 100000 in
theorem law_c30 {p : Program} {l : Launch} {e : Env} {s : State} {m : MethodId} {below : List Frame} {meth : Method} {c : Code} {dC : Nat → ClassId} {dI : Nat → Nat → Nat} {b L : Nat} {xs : Nat → Int32} (hL : L ≤ 3072) (C0 : lw_At p s m meth c b L xs) (hz : nzA s) {sa sb sa2 sb2 : Nat → Nat} {zf : Value} (hTA : gz_ST RX6 stIA sa sb zf (fun q : Nat => s.heap.size ≤ q) s s.heap) (hTB : gz_ST RX12 stIB sa2 sb2 zf (fun q : Nat => s.heap.size ≤ q) s s.heap) {x0 hm n : Nat} (hn : 6 * n + 6 ≤ L) {H : Heap} {locs : List Loc} {ls : Array Slot} (hI : LInv dC dI s x0 hm H) (hS : va_S (fun q : Nat => s.heap.size ≤ q) s.heap H locs) (hl : lv_has ls 4 [(0, .ref b), (1, .ref x0), (2, .ref hm), (3, .int (nI (6 * n)))]) (next : ∀ (H : Heap) (locs : List Loc) (ls : Array Slot), LInv dC dI s x0 hm H → va_S (fun q : Nat => s.heap.size ≤ q) s.heap H locs → lv_has ls 4 [(0, .ref b), (1, .ref x0), (2, .ref hm), (3, .int (nI (6 * n)))] → W p l e room_1 s m #[Value.ref b] below meth c H locs (400 + (n + 1)) (40000 + 5 * (n + 1)) (lw_Z below #[Value.ref b] s) (F0 m 2056 ls [])) : W p l e room_1 s m #[Value.ref b] below meth c H locs (400 + n) (40000 + 5 * n) (lw_Z below #[Value.ref b] s) (F0 m 1234 ls []) := by
  obtain ⟨hx, hb, hr, hml, hown0, hts, hX, hbl, hlocks, hgv⟩ := id C0
  have hown : s.vm.findClass RL = some m.cls := hown0
  have hA : ∀ q : Nat, s.heap.size ≤ q → (fun q : Nat => s.heap.size ≤ q) q := fun _ h => h
  have hbA : ¬ (fun q : Nat => s.heap.size ≤ q) b := Nat.not_le.mpr hbl
  obtain ⟨ax, kx, vx, fx, gx, rx, mi, mr, km, fm, rfl, hK, hXI, hMI, hlen, hP, hD⟩ := hI
  refine lv_aload_n hx hb (dk_at dkL_c30 0 rfl) rfl (lv_at hl 1 rfl) ?_
  refine lw_arg hx hb hX hbl hbA hS hl (dk_at dkL_c30 1 rfl) (dk_at dkL_c30 2 rfl) (dk_at dkL_c30 3 rfl) (dk_at dkL_c30 4 rfl) (dk_at dkL_c30 5 rfl) 1 (by decide) (Nat.le_of_ble_eq_true rfl) hn hL (fun a1 ea1 => ?_)
  refine lw_cx (st := [.int a1, .ref (ax 0)]) (rest := []) ⟨hx, hb, hml, hown, hts⟩ (uX11_settled l dC dI H.size ax kx vx fx gx rx hXI a1) (cwV 1 hts (gz_lV lm_243 lm_244 lm_245 lm_4 lm_242 lwGA goodGA) rfl rfl rfl hdV_X11_settled_X11_1 ⟨Nat.le_of_ble_eq_true rfl, Nat.le_of_ble_eq_true rfl⟩) rfl rfl hl.1 (Nat.le_of_ble_eq_true rfl) (dk_at dkL_c30 6 rfl) (lw_rm (a := 0) (b := 0) hn hL (Nat.le_of_ble_eq_true rfl) (Nat.le_of_ble_eq_true rfl)) hz hK hP hD hS (fun rx9 ax2 kx2 vx2 fx2 gx2 rx2 H locs h0 hXI2 hrelx hK hP hD hS => ?_)
  refine lv_pop hx hb (dk_at dkL_c30 7 rfl) rfl ?_
  refine lv_aload_n hx hb (dk_at dkL_c30 8 rfl) rfl (lv_at hl 2 rfl) ?_
  refine lw_arg hx hb hX hbl hbA hS hl (dk_at dkL_c30 9 rfl) (dk_at dkL_c30 10 rfl) (dk_at dkL_c30 11 rfl) (dk_at dkL_c30 12 rfl) (dk_at dkL_c30 13 rfl) 1 (by decide) (Nat.le_of_ble_eq_true rfl) hn hL (fun a2 ea2 => ?_)
  refine lw_cm (st := [.int a2, .ref hm]) (rest := []) ⟨hx, hb, hml, hown, hts⟩ (uX12_settled l dC dI H.size hm mi mr km fm hMI a2) (cwV 1 hts (gz_lV lm_247 lm_248 lm_249 lm_9 lm_246 lwGB goodGB) rfl rfl rfl hdV_X12_settled_X12_1 ⟨Nat.le_of_ble_eq_true rfl, Nat.le_of_ble_eq_true rfl⟩) rfl rfl hl.1 (Nat.le_of_ble_eq_true rfl) (dk_at dkL_c30 14 rfl) (lw_rm2 (a := 0) (b := 0) (a2 := 0) (b2 := 0) hn hL (Nat.le_of_ble_eq_true rfl) (Nat.le_of_ble_eq_true rfl)) hK hP hD hS (fun rm9 mi2 fm2 H locs hMI2 hrelm hP hD hS => ?_)
  refine lv_pop hx hb (dk_at dkL_c30 15 rfl) rfl ?_
  refine lv_goto (tgt := 2056) hx hb (dk_at dkL_c30 16 rfl) (by decide) ?_
  have e90 : a2 = a1 := ea2.trans ea1.symm
  rw [e90] at hrelm
  have hN9 := pr_settled hXI hMI hlen hrelx hrelm
  refine W.widen (k := 400 + (n + 1)) (n := 40000 + 5 * (n + 1)) (by omega) (by omega) ?_
  exact next _ _ _ ⟨ax2, kx2, vx2, fx2, gx2, rx2, mi2, mr, km, fm2, h0, hK, hXI2, hMI2, hN9.1, hP, hD⟩ hS hl
noncomputable def lsL_c31 : List (Nat × Instr × Nat) := [(1257, .aload_n 1, 1), (1258, .aload_n 0, 1), (1259, .iload_n 3, 1), (1260, .iconst 1, 1), (1261, .iadd, 1), (1262, .iaload, 1), (1263, .aload_n 0, 1), (1264, .iload_n 3, 1), (1265, .iconst 2, 1), (1266, .iadd, 1), (1267, .iaload, 1), (1268, .invokevirtual 142, 3), (1271, .pop, 1), (1272, .aload_n 2, 1), (1273, .aload_n 0, 1), (1274, .iload_n 3, 1), (1275, .iconst 1, 1), (1276, .iadd, 1), (1277, .iaload, 1), (1278, .aload_n 0, 1), (1279, .iload_n 3, 1), (1280, .iconst 2, 1), (1281, .iadd, 1), (1282, .iaload, 1), (1283, .invokevirtual 145, 3), (1286, .pop, 1), (1287, .goto 769, 3)]
theorem dkL_c31 : dkAll cL_law lsL_c31 = true := dk_fast (by decide +kernel)
set_option maxHeartbeats 4000000 in
set_option maxRecDepth 100000 in
theorem law_c31 {p : Program} {l : Launch} {e : Env} {s : State} {m : MethodId} {below : List Frame} {meth : Method} {c : Code} {dC : Nat → ClassId} {dI : Nat → Nat → Nat} {b L : Nat} {xs : Nat → Int32} (hL : L ≤ 3072) (C0 : lw_At p s m meth c b L xs) (hz : nzA s) {sa sb sa2 sb2 : Nat → Nat} {zf : Value} (hTA : gz_ST RX6 stIA sa sb zf (fun q : Nat => s.heap.size ≤ q) s s.heap) (hTB : gz_ST RX12 stIB sa2 sb2 zf (fun q : Nat => s.heap.size ≤ q) s s.heap) {x0 hm n : Nat} (hn : 6 * n + 6 ≤ L) {H : Heap} {locs : List Loc} {ls : Array Slot} (hI : LInv dC dI s x0 hm H) (hS : va_S (fun q : Nat => s.heap.size ≤ q) s.heap H locs) (hl : lv_has ls 4 [(0, .ref b), (1, .ref x0), (2, .ref hm), (3, .int (nI (6 * n)))]) (next : ∀ (H : Heap) (locs : List Loc) (ls : Array Slot), LInv dC dI s x0 hm H → va_S (fun q : Nat => s.heap.size ≤ q) s.heap H locs → lv_has ls 4 [(0, .ref b), (1, .ref x0), (2, .ref hm), (3, .int (nI (6 * n)))] → W p l e room_1 s m #[Value.ref b] below meth c H locs (400 + (n + 1)) (40000 + 5 * (n + 1)) (lw_Z below #[Value.ref b] s) (F0 m 2056 ls [])) : W p l e room_1 s m #[Value.ref b] below meth c H locs (400 + n) (40000 + 5 * n) (lw_Z below #[Value.ref b] s) (F0 m 1257 ls []) := by
  obtain ⟨hx, hb, hr, hml, hown0, hts, hX, hbl, hlocks, hgv⟩ := id C0
  have hown : s.vm.findClass RL = some m.cls := hown0
  have hA : ∀ q : Nat, s.heap.size ≤ q → (fun q : Nat => s.heap.size ≤ q) q := fun _ h => h
  have hbA : ¬ (fun q : Nat => s.heap.size ≤ q) b := Nat.not_le.mpr hbl
  obtain ⟨ax, kx, vx, fx, gx, rx, mi, mr, km, fm, rfl, hK, hXI, hMI, hlen, hP, hD⟩ := hI
  refine lv_aload_n hx hb (dk_at dkL_c31 0 rfl) rfl (lv_at hl 1 rfl) ?_
  refine lw_arg hx hb hX hbl hbA hS hl (dk_at dkL_c31 1 rfl) (dk_at dkL_c31 2 rfl) (dk_at dkL_c31 3 rfl) (dk_at dkL_c31 4 rfl) (dk_at dkL_c31 5 rfl) 1 (by decide) (Nat.le_of_ble_eq_true rfl) hn hL (fun a1 ea1 => ?_)
  refine lw_arg hx hb hX hbl hbA hS hl (dk_at dkL_c31 6 rfl) (dk_at dkL_c31 7 rfl) (dk_at dkL_c31 8 rfl) (dk_at dkL_c31 9 rfl) (dk_at dkL_c31 10 rfl) 2 (by decide) (Nat.le_of_ble_eq_true rfl) hn hL (fun a2 ea2 => ?_)
  refine lw_cx (st := [.int a2, .int a1, .ref (ax 0)]) (rest := []) ⟨hx, hb, hml, hown, hts⟩ (uX11_due l dC dI H.size ax kx vx fx gx rx hXI a1 a2) (cwV 2 hts (gz_lV lm_251 lm_252 lm_253 lm_4 lm_250 lwGA goodGA) rfl rfl rfl hdV_X11_due_X11_2 ⟨Nat.le_of_ble_eq_true rfl, Nat.le_of_ble_eq_true rfl⟩) rfl rfl hl.1 (Nat.le_of_ble_eq_true rfl) (dk_at dkL_c31 11 rfl) (lw_rm (a := 0) (b := 0) hn hL (Nat.le_of_ble_eq_true rfl) (Nat.le_of_ble_eq_true rfl)) hz hK hP hD hS (fun rx9 ax2 kx2 vx2 fx2 gx2 rx2 H locs h0 hXI2 hrelx hK hP hD hS => ?_)
  refine lv_pop hx hb (dk_at dkL_c31 12 rfl) rfl ?_
  refine lv_aload_n hx hb (dk_at dkL_c31 13 rfl) rfl (lv_at hl 2 rfl) ?_
  refine lw_arg hx hb hX hbl hbA hS hl (dk_at dkL_c31 14 rfl) (dk_at dkL_c31 15 rfl) (dk_at dkL_c31 16 rfl) (dk_at dkL_c31 17 rfl) (dk_at dkL_c31 18 rfl) 1 (by decide) (Nat.le_of_ble_eq_true rfl) hn hL (fun a3 ea3 => ?_)
  refine lw_arg hx hb hX hbl hbA hS hl (dk_at dkL_c31 19 rfl) (dk_at dkL_c31 20 rfl) (dk_at dkL_c31 21 rfl) (dk_at dkL_c31 22 rfl) (dk_at dkL_c31 23 rfl) 2 (by decide) (Nat.le_of_ble_eq_true rfl) hn hL (fun a4 ea4 => ?_)
  refine lw_cm (st := [.int a4, .int a3, .ref hm]) (rest := []) ⟨hx, hb, hml, hown, hts⟩ (uX12_due l dC dI H.size hm mi mr km fm hMI a3 a4) (cwV 2 hts (gz_lV lm_255 lm_256 lm_257 lm_9 lm_254 lwGB goodGB) rfl rfl rfl hdV_X12_due_X12_2 ⟨Nat.le_of_ble_eq_true rfl, Nat.le_of_ble_eq_true rfl⟩) rfl rfl hl.1 (Nat.le_of_ble_eq_true rfl) (dk_at dkL_c31 24 rfl) (lw_rm2 (a := 0) (b := 0) (a2 := 0) (b2 := 0) hn hL (Nat.le_of_ble_eq_true rfl) (Nat.le_of_ble_eq_true rfl)) hK hP hD hS (fun rm9 mi2 fm2 H locs hMI2 hrelm hP hD hS => ?_)
  refine lv_pop hx hb (dk_at dkL_c31 25 rfl) rfl ?_
  refine lv_goto (tgt := 2056) hx hb (dk_at dkL_c31 26 rfl) (by decide) ?_
  have e90 : a3 = a1 := ea3.trans ea1.symm
  have e91 : a4 = a2 := ea4.trans ea2.symm
  rw [e90, e91] at hrelm
  have hN9 := pr_due hXI hMI hlen hrelx hrelm
  refine W.widen (k := 400 + (n + 1)) (n := 40000 + 5 * (n + 1)) (by omega) (by omega) ?_
  exact next _ _ _ ⟨ax2, kx2, vx2, fx2, gx2, rx2, mi2, mr, km, fm2, h0, hK, hXI2, hMI2, hN9.1, hP, hD⟩ hS hl
noncomputable def lsL_c32 : List (Nat × Instr × Nat) := [(1290, .aload_n 1, 1), (1291, .aload_n 0, 1), (1292, .iload_n 3, 1), (1293, .iconst 1, 1), (1294, .iadd, 1), (1295, .iaload, 1), (1296, .aload_n 0, 1), (1297, .iload_n 3, 1), (1298, .iconst 2, 1), (1299, .iadd, 1), (1300, .iaload, 1), (1301, .aload_n 0, 1), (1302, .iload_n 3, 1), (1303, .iconst 3, 1), (1304, .iadd, 1), (1305, .iaload, 1), (1306, .invokevirtual 146, 3), (1309, .pop, 1), (1310, .aload_n 2, 1), (1311, .aload_n 0, 1), (1312, .iload_n 3, 1), (1313, .iconst 1, 1), (1314, .iadd, 1), (1315, .iaload, 1), (1316, .aload_n 0, 1), (1317, .iload_n 3, 1), (1318, .iconst 2, 1), (1319, .iadd, 1), (1320, .iaload, 1), (1321, .aload_n 0, 1), (1322, .iload_n 3, 1), (1323, .iconst 3, 1), (1324, .iadd, 1), (1325, .iaload, 1), (1326, .invokevirtual 149, 3), (1329, .pop, 1), (1330, .goto 726, 3)]
theorem dkL_c32 : dkAll cL_law lsL_c32 = true := dk_fast (by decide +kernel)
set_option maxHeartbeats 4000000 in
set_option maxRecDepth 100000 in
theorem law_c32 {p : Program} {l : Launch} {e : Env} {s : State} {m : MethodId} {below : List Frame} {meth : Method} {c : Code} {dC : Nat → ClassId} {dI : Nat → Nat → Nat} {b L : Nat} {xs : Nat → Int32} (hL : L ≤ 3072) (C0 : lw_At p s m meth c b L xs) (hz : nzA s) {sa sb sa2 sb2 : Nat → Nat} {zf : Value} (hTA : gz_ST RX6 stIA sa sb zf (fun q : Nat => s.heap.size ≤ q) s s.heap) (hTB : gz_ST RX12 stIB sa2 sb2 zf (fun q : Nat => s.heap.size ≤ q) s s.heap) {x0 hm n : Nat} (hn : 6 * n + 6 ≤ L) {H : Heap} {locs : List Loc} {ls : Array Slot} (hI : LInv dC dI s x0 hm H) (hS : va_S (fun q : Nat => s.heap.size ≤ q) s.heap H locs) (hl : lv_has ls 4 [(0, .ref b), (1, .ref x0), (2, .ref hm), (3, .int (nI (6 * n)))]) (next : ∀ (H : Heap) (locs : List Loc) (ls : Array Slot), LInv dC dI s x0 hm H → va_S (fun q : Nat => s.heap.size ≤ q) s.heap H locs → lv_has ls 4 [(0, .ref b), (1, .ref x0), (2, .ref hm), (3, .int (nI (6 * n)))] → W p l e room_1 s m #[Value.ref b] below meth c H locs (400 + (n + 1)) (40000 + 5 * (n + 1)) (lw_Z below #[Value.ref b] s) (F0 m 2056 ls [])) : W p l e room_1 s m #[Value.ref b] below meth c H locs (400 + n) (40000 + 5 * n) (lw_Z below #[Value.ref b] s) (F0 m 1290 ls []) := by
  obtain ⟨hx, hb, hr, hml, hown0, hts, hX, hbl, hlocks, hgv⟩ := id C0
  have hown : s.vm.findClass RL = some m.cls := hown0
  have hA : ∀ q : Nat, s.heap.size ≤ q → (fun q : Nat => s.heap.size ≤ q) q := fun _ h => h
  have hbA : ¬ (fun q : Nat => s.heap.size ≤ q) b := Nat.not_le.mpr hbl
  obtain ⟨ax, kx, vx, fx, gx, rx, mi, mr, km, fm, rfl, hK, hXI, hMI, hlen, hP, hD⟩ := hI
  refine lv_aload_n hx hb (dk_at dkL_c32 0 rfl) rfl (lv_at hl 1 rfl) ?_
  refine lw_arg hx hb hX hbl hbA hS hl (dk_at dkL_c32 1 rfl) (dk_at dkL_c32 2 rfl) (dk_at dkL_c32 3 rfl) (dk_at dkL_c32 4 rfl) (dk_at dkL_c32 5 rfl) 1 (by decide) (Nat.le_of_ble_eq_true rfl) hn hL (fun a1 ea1 => ?_)
  refine lw_arg hx hb hX hbl hbA hS hl (dk_at dkL_c32 6 rfl) (dk_at dkL_c32 7 rfl) (dk_at dkL_c32 8 rfl) (dk_at dkL_c32 9 rfl) (dk_at dkL_c32 10 rfl) 2 (by decide) (Nat.le_of_ble_eq_true rfl) hn hL (fun a2 ea2 => ?_)
  refine lw_arg hx hb hX hbl hbA hS hl (dk_at dkL_c32 11 rfl) (dk_at dkL_c32 12 rfl) (dk_at dkL_c32 13 rfl) (dk_at dkL_c32 14 rfl) (dk_at dkL_c32 15 rfl) 3 (by decide) (Nat.le_of_ble_eq_true rfl) hn hL (fun a3 ea3 => ?_)
  refine lw_cx (st := [.int a3, .int a2, .int a1, .ref (ax 0)]) (rest := []) ⟨hx, hb, hml, hown, hts⟩ (uX11_dueSpan l dC dI H.size ax kx vx fx gx rx hXI a1 a2 a3) (cwV 3 hts (gz_lV lm_259 lm_260 lm_261 lm_4 lm_258 lwGA goodGA) rfl rfl rfl hdV_X11_dueSpan_X11_3 ⟨Nat.le_of_ble_eq_true rfl, Nat.le_of_ble_eq_true rfl⟩) rfl rfl hl.1 (Nat.le_of_ble_eq_true rfl) (dk_at dkL_c32 16 rfl) (lw_rm (a := 0) (b := 0) hn hL (Nat.le_of_ble_eq_true rfl) (Nat.le_of_ble_eq_true rfl)) hz hK hP hD hS (fun rx9 ax2 kx2 vx2 fx2 gx2 rx2 H locs h0 hXI2 hrelx hK hP hD hS => ?_)
  refine lv_pop hx hb (dk_at dkL_c32 17 rfl) rfl ?_
  refine lv_aload_n hx hb (dk_at dkL_c32 18 rfl) rfl (lv_at hl 2 rfl) ?_
  refine lw_arg hx hb hX hbl hbA hS hl (dk_at dkL_c32 19 rfl) (dk_at dkL_c32 20 rfl) (dk_at dkL_c32 21 rfl) (dk_at dkL_c32 22 rfl) (dk_at dkL_c32 23 rfl) 1 (by decide) (Nat.le_of_ble_eq_true rfl) hn hL (fun a4 ea4 => ?_)
  refine lw_arg hx hb hX hbl hbA hS hl (dk_at dkL_c32 24 rfl) (dk_at dkL_c32 25 rfl) (dk_at dkL_c32 26 rfl) (dk_at dkL_c32 27 rfl) (dk_at dkL_c32 28 rfl) 2 (by decide) (Nat.le_of_ble_eq_true rfl) hn hL (fun a5 ea5 => ?_)
  refine lw_arg hx hb hX hbl hbA hS hl (dk_at dkL_c32 29 rfl) (dk_at dkL_c32 30 rfl) (dk_at dkL_c32 31 rfl) (dk_at dkL_c32 32 rfl) (dk_at dkL_c32 33 rfl) 3 (by decide) (Nat.le_of_ble_eq_true rfl) hn hL (fun a6 ea6 => ?_)
  refine lw_cm (st := [.int a6, .int a5, .int a4, .ref hm]) (rest := []) ⟨hx, hb, hml, hown, hts⟩ (uX12_dueSpan l dC dI H.size hm mi mr km fm hMI a4 a5 a6) (cwV 3 hts (gz_lV lm_263 lm_264 lm_265 lm_9 lm_262 lwGB goodGB) rfl rfl rfl hdV_X12_dueSpan_X12_3 ⟨Nat.le_of_ble_eq_true rfl, Nat.le_of_ble_eq_true rfl⟩) rfl rfl hl.1 (Nat.le_of_ble_eq_true rfl) (dk_at dkL_c32 34 rfl) (lw_rm2 (a := 0) (b := 0) (a2 := 0) (b2 := 0) hn hL (Nat.le_of_ble_eq_true rfl) (Nat.le_of_ble_eq_true rfl)) hK hP hD hS (fun rm9 mi2 fm2 H locs hMI2 hrelm hP hD hS => ?_)
  refine lv_pop hx hb (dk_at dkL_c32 35 rfl) rfl ?_
  refine lv_goto (tgt := 2056) hx hb (dk_at dkL_c32 36 rfl) (by decide) ?_
  have e90 : a4 = a1 := ea4.trans ea1.symm
  have e91 : a5 = a2 := ea5.trans ea2.symm
  have e92 : a6 = a3 := ea6.trans ea3.symm
  rw [e90, e91, e92] at hrelm
  have hN9 := pr_dueSpan hXI hMI hlen hrelx hrelm
  refine W.widen (k := 400 + (n + 1)) (n := 40000 + 5 * (n + 1)) (by omega) (by omega) ?_
  exact next _ _ _ ⟨ax2, kx2, vx2, fx2, gx2, rx2, mi2, mr, km, fm2, h0, hK, hXI2, hMI2, hN9, hP, hD⟩ hS hl
noncomputable def lsL_c33 : List (Nat × Instr × Nat) := [(1333, .aload_n 1, 1), (1334, .aload_n 0, 1), (1335, .iload_n 3, 1), (1336, .iconst 1, 1), (1337, .iadd, 1), (1338, .iaload, 1), (1339, .aload_n 0, 1), (1340, .iload_n 3, 1), (1341, .iconst 2, 1), (1342, .iadd, 1), (1343, .iaload, 1), (1344, .aload_n 0, 1), (1345, .iload_n 3, 1), (1346, .iconst 3, 1), (1347, .iadd, 1), (1348, .iaload, 1), (1349, .invokevirtual 150, 3), (1352, .pop, 1), (1353, .aload_n 2, 1), (1354, .aload_n 0, 1), (1355, .iload_n 3, 1), (1356, .iconst 1, 1), (1357, .iadd, 1), (1358, .iaload, 1), (1359, .aload_n 0, 1), (1360, .iload_n 3, 1), (1361, .iconst 2, 1), (1362, .iadd, 1), (1363, .iaload, 1), (1364, .aload_n 0, 1), (1365, .iload_n 3, 1), (1366, .iconst 3, 1), (1367, .iadd, 1), (1368, .iaload, 1), (1369, .invokevirtual 153, 3), (1372, .pop, 1), (1373, .goto 683, 3)]
theorem dkL_c33 : dkAll cL_law lsL_c33 = true := dk_fast (by decide +kernel)
set_option maxHeartbeats 4000000 in
set_option maxRecDepth 100000 in
theorem law_c33 {p : Program} {l : Launch} {e : Env} {s : State} {m : MethodId} {below : List Frame} {meth : Method} {c : Code} {dC : Nat → ClassId} {dI : Nat → Nat → Nat} {b L : Nat} {xs : Nat → Int32} (hL : L ≤ 3072) (C0 : lw_At p s m meth c b L xs) (hz : nzA s) {sa sb sa2 sb2 : Nat → Nat} {zf : Value} (hTA : gz_ST RX6 stIA sa sb zf (fun q : Nat => s.heap.size ≤ q) s s.heap) (hTB : gz_ST RX12 stIB sa2 sb2 zf (fun q : Nat => s.heap.size ≤ q) s s.heap) {x0 hm n : Nat} (hn : 6 * n + 6 ≤ L) {H : Heap} {locs : List Loc} {ls : Array Slot} (hI : LInv dC dI s x0 hm H) (hS : va_S (fun q : Nat => s.heap.size ≤ q) s.heap H locs) (hl : lv_has ls 4 [(0, .ref b), (1, .ref x0), (2, .ref hm), (3, .int (nI (6 * n)))]) (next : ∀ (H : Heap) (locs : List Loc) (ls : Array Slot), LInv dC dI s x0 hm H → va_S (fun q : Nat => s.heap.size ≤ q) s.heap H locs → lv_has ls 4 [(0, .ref b), (1, .ref x0), (2, .ref hm), (3, .int (nI (6 * n)))] → W p l e room_1 s m #[Value.ref b] below meth c H locs (400 + (n + 1)) (40000 + 5 * (n + 1)) (lw_Z below #[Value.ref b] s) (F0 m 2056 ls [])) : W p l e room_1 s m #[Value.ref b] below meth c H locs (400 + n) (40000 + 5 * n) (lw_Z below #[Value.ref b] s) (F0 m 1333 ls []) := by
  obtain ⟨hx, hb, hr, hml, hown0, hts, hX, hbl, hlocks, hgv⟩ := id C0
  have hown : s.vm.findClass RL = some m.cls := hown0
  have hA : ∀ q : Nat, s.heap.size ≤ q → (fun q : Nat => s.heap.size ≤ q) q := fun _ h => h
  have hbA : ¬ (fun q : Nat => s.heap.size ≤ q) b := Nat.not_le.mpr hbl
  obtain ⟨ax, kx, vx, fx, gx, rx, mi, mr, km, fm, rfl, hK, hXI, hMI, hlen, hP, hD⟩ := hI
  refine lv_aload_n hx hb (dk_at dkL_c33 0 rfl) rfl (lv_at hl 1 rfl) ?_
  refine lw_arg hx hb hX hbl hbA hS hl (dk_at dkL_c33 1 rfl) (dk_at dkL_c33 2 rfl) (dk_at dkL_c33 3 rfl) (dk_at dkL_c33 4 rfl) (dk_at dkL_c33 5 rfl) 1 (by decide) (Nat.le_of_ble_eq_true rfl) hn hL (fun a1 ea1 => ?_)
  refine lw_arg hx hb hX hbl hbA hS hl (dk_at dkL_c33 6 rfl) (dk_at dkL_c33 7 rfl) (dk_at dkL_c33 8 rfl) (dk_at dkL_c33 9 rfl) (dk_at dkL_c33 10 rfl) 2 (by decide) (Nat.le_of_ble_eq_true rfl) hn hL (fun a2 ea2 => ?_)
  refine lw_arg hx hb hX hbl hbA hS hl (dk_at dkL_c33 11 rfl) (dk_at dkL_c33 12 rfl) (dk_at dkL_c33 13 rfl) (dk_at dkL_c33 14 rfl) (dk_at dkL_c33 15 rfl) 3 (by decide) (Nat.le_of_ble_eq_true rfl) hn hL (fun a3 ea3 => ?_)
  refine lw_cx (st := [.int a3, .int a2, .int a1, .ref (ax 0)]) (rest := []) ⟨hx, hb, hml, hown, hts⟩ (uX11_dueOn l dC dI H.size ax kx vx fx gx rx hXI a1 a2 a3) (cwV 3 hts (gz_lV lm_267 lm_268 lm_269 lm_4 lm_266 lwGA goodGA) rfl rfl rfl hdV_X11_dueOn_X11_3 ⟨Nat.le_of_ble_eq_true rfl, Nat.le_of_ble_eq_true rfl⟩) rfl rfl hl.1 (Nat.le_of_ble_eq_true rfl) (dk_at dkL_c33 16 rfl) (lw_rm (a := 0) (b := 0) hn hL (Nat.le_of_ble_eq_true rfl) (Nat.le_of_ble_eq_true rfl)) hz hK hP hD hS (fun rx9 ax2 kx2 vx2 fx2 gx2 rx2 H locs h0 hXI2 hrelx hK hP hD hS => ?_)
  refine lv_pop hx hb (dk_at dkL_c33 17 rfl) rfl ?_
  refine lv_aload_n hx hb (dk_at dkL_c33 18 rfl) rfl (lv_at hl 2 rfl) ?_
  refine lw_arg hx hb hX hbl hbA hS hl (dk_at dkL_c33 19 rfl) (dk_at dkL_c33 20 rfl) (dk_at dkL_c33 21 rfl) (dk_at dkL_c33 22 rfl) (dk_at dkL_c33 23 rfl) 1 (by decide) (Nat.le_of_ble_eq_true rfl) hn hL (fun a4 ea4 => ?_)
  refine lw_arg hx hb hX hbl hbA hS hl (dk_at dkL_c33 24 rfl) (dk_at dkL_c33 25 rfl) (dk_at dkL_c33 26 rfl) (dk_at dkL_c33 27 rfl) (dk_at dkL_c33 28 rfl) 2 (by decide) (Nat.le_of_ble_eq_true rfl) hn hL (fun a5 ea5 => ?_)
  refine lw_arg hx hb hX hbl hbA hS hl (dk_at dkL_c33 29 rfl) (dk_at dkL_c33 30 rfl) (dk_at dkL_c33 31 rfl) (dk_at dkL_c33 32 rfl) (dk_at dkL_c33 33 rfl) 3 (by decide) (Nat.le_of_ble_eq_true rfl) hn hL (fun a6 ea6 => ?_)
  refine lw_cm (st := [.int a6, .int a5, .int a4, .ref hm]) (rest := []) ⟨hx, hb, hml, hown, hts⟩ (uX12_dueOn l dC dI H.size hm mi mr km fm hMI a4 a5 a6) (cwV 3 hts (gz_lV lm_271 lm_272 lm_273 lm_9 lm_270 lwGB goodGB) rfl rfl rfl hdV_X12_dueOn_X12_3 ⟨Nat.le_of_ble_eq_true rfl, Nat.le_of_ble_eq_true rfl⟩) rfl rfl hl.1 (Nat.le_of_ble_eq_true rfl) (dk_at dkL_c33 34 rfl) (lw_rm2 (a := 0) (b := 0) (a2 := 0) (b2 := 0) hn hL (Nat.le_of_ble_eq_true rfl) (Nat.le_of_ble_eq_true rfl)) hK hP hD hS (fun rm9 mi2 fm2 H locs hMI2 hrelm hP hD hS => ?_)
  refine lv_pop hx hb (dk_at dkL_c33 35 rfl) rfl ?_
  refine lv_goto (tgt := 2056) hx hb (dk_at dkL_c33 36 rfl) (by decide) ?_
  have e90 : a4 = a1 := ea4.trans ea1.symm
  have e91 : a5 = a2 := ea5.trans ea2.symm
  have e92 : a6 = a3 := ea6.trans ea3.symm
  rw [e90, e91, e92] at hrelm
  have hN9 := pr_dueOn hXI hMI hlen hrelx hrelm
  refine W.widen (k := 400 + (n + 1)) (n := 40000 + 5 * (n + 1)) (by omega) (by omega) ?_
  exact next _ _ _ ⟨ax2, kx2, vx2, fx2, gx2, rx2, mi2, mr, km, fm2, h0, hK, hXI2, hMI2, hN9, hP, hD⟩ hS hl
noncomputable def lsL_c34 : List (Nat × Instr × Nat) := [(1376, .aload_n 1, 1), (1377, .aload_n 0, 1), (1378, .iload_n 3, 1), (1379, .iconst 1, 1), (1380, .iadd, 1), (1381, .iaload, 1), (1382, .invokevirtual 154, 3), (1385, .pop, 1), (1386, .aload_n 2, 1), (1387, .aload_n 0, 1), (1388, .iload_n 3, 1), (1389, .iconst 1, 1), (1390, .iadd, 1), (1391, .iaload, 1), (1392, .invokevirtual 157, 3), (1395, .pop, 1), (1396, .goto 660, 3)]
theorem dkL_c34 : dkAll cL_law lsL_c34 = true := dk_fast (by decide +kernel)
set_option maxHeartbeats 4000000 in
set_option maxRecDepth 100000 in
theorem law_c34 {p : Program} {l : Launch} {e : Env} {s : State} {m : MethodId} {below : List Frame} {meth : Method} {c : Code} {dC : Nat → ClassId} {dI : Nat → Nat → Nat} {b L : Nat} {xs : Nat → Int32} (hL : L ≤ 3072) (C0 : lw_At p s m meth c b L xs) (hz : nzA s) {sa sb sa2 sb2 : Nat → Nat} {zf : Value} (hTA : gz_ST RX6 stIA sa sb zf (fun q : Nat => s.heap.size ≤ q) s s.heap) (hTB : gz_ST RX12 stIB sa2 sb2 zf (fun q : Nat => s.heap.size ≤ q) s s.heap) {x0 hm n : Nat} (hn : 6 * n + 6 ≤ L) {H : Heap} {locs : List Loc} {ls : Array Slot} (hI : LInv dC dI s x0 hm H) (hS : va_S (fun q : Nat => s.heap.size ≤ q) s.heap H locs) (hl : lv_has ls 4 [(0, .ref b), (1, .ref x0), (2, .ref hm), (3, .int (nI (6 * n)))]) (next : ∀ (H : Heap) (locs : List Loc) (ls : Array Slot), LInv dC dI s x0 hm H → va_S (fun q : Nat => s.heap.size ≤ q) s.heap H locs → lv_has ls 4 [(0, .ref b), (1, .ref x0), (2, .ref hm), (3, .int (nI (6 * n)))] → W p l e room_1 s m #[Value.ref b] below meth c H locs (400 + (n + 1)) (40000 + 5 * (n + 1)) (lw_Z below #[Value.ref b] s) (F0 m 2056 ls [])) : W p l e room_1 s m #[Value.ref b] below meth c H locs (400 + n) (40000 + 5 * n) (lw_Z below #[Value.ref b] s) (F0 m 1376 ls []) := by
  obtain ⟨hx, hb, hr, hml, hown0, hts, hX, hbl, hlocks, hgv⟩ := id C0
  have hown : s.vm.findClass RL = some m.cls := hown0
  have hA : ∀ q : Nat, s.heap.size ≤ q → (fun q : Nat => s.heap.size ≤ q) q := fun _ h => h
  have hbA : ¬ (fun q : Nat => s.heap.size ≤ q) b := Nat.not_le.mpr hbl
  obtain ⟨ax, kx, vx, fx, gx, rx, mi, mr, km, fm, rfl, hK, hXI, hMI, hlen, hP, hD⟩ := hI
  refine lv_aload_n hx hb (dk_at dkL_c34 0 rfl) rfl (lv_at hl 1 rfl) ?_
  refine lw_arg hx hb hX hbl hbA hS hl (dk_at dkL_c34 1 rfl) (dk_at dkL_c34 2 rfl) (dk_at dkL_c34 3 rfl) (dk_at dkL_c34 4 rfl) (dk_at dkL_c34 5 rfl) 1 (by decide) (Nat.le_of_ble_eq_true rfl) hn hL (fun a1 ea1 => ?_)
  refine lw_cx (st := [.int a1, .ref (ax 0)]) (rest := []) ⟨hx, hb, hml, hown, hts⟩ (uX11_redated l dC dI H.size ax kx vx fx gx rx hXI a1) (cwV 1 hts (gz_lV lm_275 lm_276 lm_277 lm_4 lm_274 lwGA goodGA) rfl rfl rfl hdV_X11_redated_X11_1 ⟨Nat.le_of_ble_eq_true rfl, Nat.le_of_ble_eq_true rfl⟩) rfl rfl hl.1 (Nat.le_of_ble_eq_true rfl) (dk_at dkL_c34 6 rfl) (lw_rm (a := 0) (b := 0) hn hL (Nat.le_of_ble_eq_true rfl) (Nat.le_of_ble_eq_true rfl)) hz hK hP hD hS (fun rx9 ax2 kx2 vx2 fx2 gx2 rx2 H locs h0 hXI2 hrelx hK hP hD hS => ?_)
  refine lv_pop hx hb (dk_at dkL_c34 7 rfl) rfl ?_
  refine lv_aload_n hx hb (dk_at dkL_c34 8 rfl) rfl (lv_at hl 2 rfl) ?_
  refine lw_arg hx hb hX hbl hbA hS hl (dk_at dkL_c34 9 rfl) (dk_at dkL_c34 10 rfl) (dk_at dkL_c34 11 rfl) (dk_at dkL_c34 12 rfl) (dk_at dkL_c34 13 rfl) 1 (by decide) (Nat.le_of_ble_eq_true rfl) hn hL (fun a2 ea2 => ?_)
  refine lw_cm (st := [.int a2, .ref hm]) (rest := []) ⟨hx, hb, hml, hown, hts⟩ (uX12_redated l dC dI H.size hm mi mr km fm hMI a2) (cwV 1 hts (gz_lV lm_279 lm_280 lm_281 lm_9 lm_278 lwGB goodGB) rfl rfl rfl hdV_X12_redated_X12_1 ⟨Nat.le_of_ble_eq_true rfl, Nat.le_of_ble_eq_true rfl⟩) rfl rfl hl.1 (Nat.le_of_ble_eq_true rfl) (dk_at dkL_c34 14 rfl) (lw_rm2 (a := 0) (b := 0) (a2 := 0) (b2 := 0) hn hL (Nat.le_of_ble_eq_true rfl) (Nat.le_of_ble_eq_true rfl)) hK hP hD hS (fun rm9 mi2 fm2 H locs hMI2 hrelm hP hD hS => ?_)
  refine lv_pop hx hb (dk_at dkL_c34 15 rfl) rfl ?_
  refine lv_goto (tgt := 2056) hx hb (dk_at dkL_c34 16 rfl) (by decide) ?_
  have e90 : a2 = a1 := ea2.trans ea1.symm
  rw [e90] at hrelm
  have hN9 := pr_redated hXI hMI hlen hrelx hrelm
  refine W.widen (k := 400 + (n + 1)) (n := 40000 + 5 * (n + 1)) (by omega) (by omega) ?_
  exact next _ _ _ ⟨ax2, kx2, vx2, fx2, gx2, rx2, mi2, mr, km, fm2, h0, hK, hXI2, hMI2, hN9.1, hP, hD⟩ hS hl
noncomputable def lsL_c35 : List (Nat × Instr × Nat) := [(1399, .aload_n 1, 1), (1400, .aload_n 0, 1), (1401, .iload_n 3, 1), (1402, .iconst 1, 1), (1403, .iadd, 1), (1404, .iaload, 1), (1405, .aload_n 0, 1), (1406, .iload_n 3, 1), (1407, .iconst 2, 1), (1408, .iadd, 1), (1409, .iaload, 1), (1410, .aload_n 0, 1), (1411, .iload_n 3, 1), (1412, .iconst 3, 1), (1413, .iadd, 1), (1414, .iaload, 1), (1415, .invokevirtual 158, 3), (1418, .pop, 1), (1419, .aload_n 2, 1), (1420, .aload_n 0, 1), (1421, .iload_n 3, 1), (1422, .iconst 1, 1), (1423, .iadd, 1), (1424, .iaload, 1), (1425, .aload_n 0, 1), (1426, .iload_n 3, 1), (1427, .iconst 2, 1), (1428, .iadd, 1), (1429, .iaload, 1), (1430, .aload_n 0, 1), (1431, .iload_n 3, 1), (1432, .iconst 3, 1), (1433, .iadd, 1), (1434, .iaload, 1), (1435, .invokevirtual 161, 3), (1438, .pop, 1), (1439, .goto 617, 3)]
theorem dkL_c35 : dkAll cL_law lsL_c35 = true := dk_fast (by decide +kernel)
set_option maxHeartbeats 4000000 in
set_option maxRecDepth 100000 in
theorem law_c35 {p : Program} {l : Launch} {e : Env} {s : State} {m : MethodId} {below : List Frame} {meth : Method} {c : Code} {dC : Nat → ClassId} {dI : Nat → Nat → Nat} {b L : Nat} {xs : Nat → Int32} (hL : L ≤ 3072) (C0 : lw_At p s m meth c b L xs) (hz : nzA s) {sa sb sa2 sb2 : Nat → Nat} {zf : Value} (hTA : gz_ST RX6 stIA sa sb zf (fun q : Nat => s.heap.size ≤ q) s s.heap) (hTB : gz_ST RX12 stIB sa2 sb2 zf (fun q : Nat => s.heap.size ≤ q) s s.heap) {x0 hm n : Nat} (hn : 6 * n + 6 ≤ L) {H : Heap} {locs : List Loc} {ls : Array Slot} (hI : LInv dC dI s x0 hm H) (hS : va_S (fun q : Nat => s.heap.size ≤ q) s.heap H locs) (hl : lv_has ls 4 [(0, .ref b), (1, .ref x0), (2, .ref hm), (3, .int (nI (6 * n)))]) (next : ∀ (H : Heap) (locs : List Loc) (ls : Array Slot), LInv dC dI s x0 hm H → va_S (fun q : Nat => s.heap.size ≤ q) s.heap H locs → lv_has ls 4 [(0, .ref b), (1, .ref x0), (2, .ref hm), (3, .int (nI (6 * n)))] → W p l e room_1 s m #[Value.ref b] below meth c H locs (400 + (n + 1)) (40000 + 5 * (n + 1)) (lw_Z below #[Value.ref b] s) (F0 m 2056 ls [])) : W p l e room_1 s m #[Value.ref b] below meth c H locs (400 + n) (40000 + 5 * n) (lw_Z below #[Value.ref b] s) (F0 m 1399 ls []) := by
  obtain ⟨hx, hb, hr, hml, hown0, hts, hX, hbl, hlocks, hgv⟩ := id C0
  have hown : s.vm.findClass RL = some m.cls := hown0
  have hA : ∀ q : Nat, s.heap.size ≤ q → (fun q : Nat => s.heap.size ≤ q) q := fun _ h => h
  have hbA : ¬ (fun q : Nat => s.heap.size ≤ q) b := Nat.not_le.mpr hbl
  obtain ⟨ax, kx, vx, fx, gx, rx, mi, mr, km, fm, rfl, hK, hXI, hMI, hlen, hP, hD⟩ := hI
  refine lv_aload_n hx hb (dk_at dkL_c35 0 rfl) rfl (lv_at hl 1 rfl) ?_
  refine lw_arg hx hb hX hbl hbA hS hl (dk_at dkL_c35 1 rfl) (dk_at dkL_c35 2 rfl) (dk_at dkL_c35 3 rfl) (dk_at dkL_c35 4 rfl) (dk_at dkL_c35 5 rfl) 1 (by decide) (Nat.le_of_ble_eq_true rfl) hn hL (fun a1 ea1 => ?_)
  refine lw_arg hx hb hX hbl hbA hS hl (dk_at dkL_c35 6 rfl) (dk_at dkL_c35 7 rfl) (dk_at dkL_c35 8 rfl) (dk_at dkL_c35 9 rfl) (dk_at dkL_c35 10 rfl) 2 (by decide) (Nat.le_of_ble_eq_true rfl) hn hL (fun a2 ea2 => ?_)
  refine lw_arg hx hb hX hbl hbA hS hl (dk_at dkL_c35 11 rfl) (dk_at dkL_c35 12 rfl) (dk_at dkL_c35 13 rfl) (dk_at dkL_c35 14 rfl) (dk_at dkL_c35 15 rfl) 3 (by decide) (Nat.le_of_ble_eq_true rfl) hn hL (fun a3 ea3 => ?_)
  refine lw_cx (st := [.int a3, .int a2, .int a1, .ref (ax 0)]) (rest := []) ⟨hx, hb, hml, hown, hts⟩ (uX11_longer l dC dI H.size ax kx vx fx gx rx hXI a1 a2 a3) (cwV 3 hts (gz_lV lm_283 lm_284 lm_285 lm_4 lm_282 lwGA goodGA) rfl rfl rfl hdV_X11_longer_X11_3 ⟨Nat.le_of_ble_eq_true rfl, Nat.le_of_ble_eq_true rfl⟩) rfl rfl hl.1 (Nat.le_of_ble_eq_true rfl) (dk_at dkL_c35 16 rfl) (lw_rm (a := 0) (b := 0) hn hL (Nat.le_of_ble_eq_true rfl) (Nat.le_of_ble_eq_true rfl)) hz hK hP hD hS (fun rx9 ax2 kx2 vx2 fx2 gx2 rx2 H locs h0 hXI2 hrelx hK hP hD hS => ?_)
  refine lv_pop hx hb (dk_at dkL_c35 17 rfl) rfl ?_
  refine lv_aload_n hx hb (dk_at dkL_c35 18 rfl) rfl (lv_at hl 2 rfl) ?_
  refine lw_arg hx hb hX hbl hbA hS hl (dk_at dkL_c35 19 rfl) (dk_at dkL_c35 20 rfl) (dk_at dkL_c35 21 rfl) (dk_at dkL_c35 22 rfl) (dk_at dkL_c35 23 rfl) 1 (by decide) (Nat.le_of_ble_eq_true rfl) hn hL (fun a4 ea4 => ?_)
  refine lw_arg hx hb hX hbl hbA hS hl (dk_at dkL_c35 24 rfl) (dk_at dkL_c35 25 rfl) (dk_at dkL_c35 26 rfl) (dk_at dkL_c35 27 rfl) (dk_at dkL_c35 28 rfl) 2 (by decide) (Nat.le_of_ble_eq_true rfl) hn hL (fun a5 ea5 => ?_)
  refine lw_arg hx hb hX hbl hbA hS hl (dk_at dkL_c35 29 rfl) (dk_at dkL_c35 30 rfl) (dk_at dkL_c35 31 rfl) (dk_at dkL_c35 32 rfl) (dk_at dkL_c35 33 rfl) 3 (by decide) (Nat.le_of_ble_eq_true rfl) hn hL (fun a6 ea6 => ?_)
  refine lw_cm (st := [.int a6, .int a5, .int a4, .ref hm]) (rest := []) ⟨hx, hb, hml, hown, hts⟩ (uX12_longer l dC dI H.size hm mi mr km fm hMI a4 a5 a6) (cwV 3 hts (gz_lV lm_287 lm_288 lm_289 lm_9 lm_286 lwGB goodGB) rfl rfl rfl hdV_X12_longer_X12_3 ⟨Nat.le_of_ble_eq_true rfl, Nat.le_of_ble_eq_true rfl⟩) rfl rfl hl.1 (Nat.le_of_ble_eq_true rfl) (dk_at dkL_c35 34 rfl) (lw_rm2 (a := 0) (b := 0) (a2 := 0) (b2 := 0) hn hL (Nat.le_of_ble_eq_true rfl) (Nat.le_of_ble_eq_true rfl)) hK hP hD hS (fun rm9 mi2 fm2 H locs hMI2 hrelm hP hD hS => ?_)
  refine lv_pop hx hb (dk_at dkL_c35 35 rfl) rfl ?_
  refine lv_goto (tgt := 2056) hx hb (dk_at dkL_c35 36 rfl) (by decide) ?_
  have e90 : a4 = a1 := ea4.trans ea1.symm
  have e91 : a5 = a2 := ea5.trans ea2.symm
  have e92 : a6 = a3 := ea6.trans ea3.symm
  rw [e90, e91, e92] at hrelm
  have hN9 := pr_longer hXI hMI hlen hrelx hrelm
  refine W.widen (k := 400 + (n + 1)) (n := 40000 + 5 * (n + 1)) (by omega) (by omega) ?_
  exact next _ _ _ ⟨ax2, kx2, vx2, fx2, gx2, rx2, mi2, mr, km, fm2, h0, hK, hXI2, hMI2, hN9, hP, hD⟩ hS hl
