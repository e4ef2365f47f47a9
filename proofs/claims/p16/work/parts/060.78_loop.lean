theorem dL_law_0 : decode cL_law 0 = .ok (.new 7, 3) := by decide +kernel
theorem dL_law_3 : decode cL_law 3 = .ok (.dup, 1) := by decide +kernel
theorem dL_law_4 : decode cL_law 4 = .ok (.invokespecial 9, 3) := by decide +kernel
theorem dL_law_7 : decode cL_law 7 = .ok (.astore_n 1, 1) := by decide +kernel
theorem dL_law_8 : decode cL_law 8 = .ok (.new 10, 3) := by decide +kernel
theorem dL_law_11 : decode cL_law 11 = .ok (.dup, 1) := by decide +kernel
theorem dL_law_12 : decode cL_law 12 = .ok (.invokespecial 12, 3) := by decide +kernel
theorem dL_law_15 : decode cL_law 15 = .ok (.astore_n 2, 1) := by decide +kernel
theorem dL_law_16 : decode cL_law 16 = .ok (.iconst 0, 1) := by decide +kernel
theorem dL_law_17 : decode cL_law 17 = .ok (.istore_n 3, 1) := by decide +kernel
theorem dL_law_18 : decode cL_law 18 = .ok (.iload_n 3, 1) := by decide +kernel
theorem dL_law_19 : decode cL_law 19 = .ok (.aload_n 0, 1) := by decide +kernel
theorem dL_law_20 : decode cL_law 20 = .ok (.arraylength, 1) := by decide +kernel
theorem dL_law_21 : decode cL_law 21 = .ok (.bipush 6, 2) := by decide +kernel
theorem dL_law_23 : decode cL_law 23 = .ok (.isub, 1) := by decide +kernel
theorem dL_law_24 : decode cL_law 24 = .ok (.if_icmp .gt 2038, 3) := by decide +kernel
theorem dL_law_27 : decode cL_law 27 = .ok (.aload_n 0, 1) := by decide +kernel
theorem dL_law_28 : decode cL_law 28 = .ok (.iload_n 3, 1) := by decide +kernel
theorem dL_law_29 : decode cL_law 29 = .ok (.iaload, 1) := by decide +kernel
theorem dL_law_30 : decode cL_law 30 = .ok (.bipush 63, 2) := by decide +kernel
theorem dL_law_32 : decode cL_law 32 = .ok (.iand, 1) := by decide +kernel
theorem dL_law_33 : decode cL_law 33 = .ok (.tableswitch 2023 0 53 #[231, 294, 317, 330, 353, 376, 409, 442, 475, 498, 531, 554, 587, 620, 653, 676, 709, 752, 775, 808, 851, 884, 927, 960, 993, 1036, 1069, 1102, 1135, 1178, 1201, 1224, 1257, 1300, 1343, 1366, 1409, 1452, 1495, 1528, 1551, 1584, 1617, 1670, 1693, 1726, 1759, 1792, 1815, 1838, 1901, 1924, 1957, 1990], 231) := by decide +kernel
theorem dL_law_2056 : decode cL_law 2056 = .ok (.iinc 3 6, 3) := by decide +kernel
theorem dL_law_2059 : decode cL_law 2059 = .ok (.goto (-2041), 3) := by decide +kernel
theorem dL_law_2062 : decode cL_law 2062 = .ok (.iconst 1, 1) := by decide +kernel
theorem dL_law_2063 : decode cL_law 2063 = .ok (.ireturn, 1) := by decide +kernel
set_option maxHeartbeats 4000000 in
set_option maxRecDepth 100000 in
theorem law_loop {p : Program} {l : Launch} {e : Env} {s : State} {m : MethodId} {below : List Frame} {meth : Method} {c : Code} {dC : Nat → ClassId} {dI : Nat → Nat → Nat} {b L : Nat} {xs : Nat → Int32} (hL : L ≤ 3072) (C0 : lw_At p s m meth c b L xs) (hz : nzA s) {sa sb sa2 sb2 : Nat → Nat} {zf : Value} (hTA : gz_ST RX6 stIA sa sb zf (fun q : Nat => s.heap.size ≤ q) s s.heap) (hTB : gz_ST RX12 stIB sa2 sb2 zf (fun q : Nat => s.heap.size ≤ q) s s.heap) {x0 hm : Nat} : ∀ (k n : Nat) (H : Heap) (locs : List Loc) (ls : Array Slot), L < 6 * n + 6 * k + 6 → n ≤ 513 → LInv dC dI s x0 hm H → va_S (fun q : Nat => s.heap.size ≤ q) s.heap H locs → lv_has ls 4 [(0, .ref b), (1, .ref x0), (2, .ref hm), (3, .int (nI (6 * n)))] → W p l e room_1 s m #[Value.ref b] below meth c H locs (400 + n) (40000 + 5 * n) (lw_Z below #[Value.ref b] s) (F0 m 18 ls []) := by
  obtain ⟨hx, hb, hr, hml, hown0, hts, hX, hbl, hlocks, hgv⟩ := id C0
  have hown : s.vm.findClass RL = some m.cls := hown0
  have hA : ∀ q : Nat, s.heap.size ≤ q → (fun q : Nat => s.heap.size ≤ q) q := fun _ h => h
  have hbA : ¬ (fun q : Nat => s.heap.size ≤ q) b := Nat.not_le.mpr hbl
  intro k
  induction k with
  | zero =>
    intro n H locs ls hk hn9 hI hS hl
    refine lv_iload_n hx hb dL_law_18 rfl (lv_at hl 3 rfl) ?_
    refine lv_aload_n hx hb dL_law_19 rfl (lv_at hl 0 rfl) ?_
    refine va_slen hx hb hX hbl hbA hS dL_law_20 ?_
    refine gz_topi (y := nI L) rfl ?_
    refine lv_bipush (v := 6) hx hb dL_law_21 (by decide) ?_
    refine lv_isub hx hb dL_law_23 ?_
    refine lv_topi (fun y ey => ?_)
    have hy : y.toInt = (L : Int) - 6 := by have h6 : (6 : Int32).toInt = 6 := (by decide); have hl9 := nI_toInt (n := L) (by omega); have h9 := gi_subI ey (by omega) (by omega); rw [h6] at h9; omega
    have hi9 := nI_toInt (n := 6 * n) (by omega)
    refine lv_icmp_gt (tgt := 2062) hx hb dL_law_24 (by decide) (fun c9 => ?_) (fun c9 => absurd (show y < nI (6 * n) by rw [Int32.lt_iff_toInt_lt]; omega) c9)
    refine lv_iconst (v := 1) hx hb dL_law_2062 (by decide) ?_
    refine va_forget (fun q hq => hS.2.2 q hq) ?_
    refine W.widen (k := 600000) (n := 7302250) (by omega) (by omega) ?_
    exact lw_ret hx hb hr hlocks dL_law_2063
  | succ k ih =>
    intro n H locs ls hk hn9 hI hS hl
    refine lv_iload_n hx hb dL_law_18 rfl (lv_at hl 3 rfl) ?_
    refine lv_aload_n hx hb dL_law_19 rfl (lv_at hl 0 rfl) ?_
    refine va_slen hx hb hX hbl hbA hS dL_law_20 ?_
    refine gz_topi (y := nI L) rfl ?_
    refine lv_bipush (v := 6) hx hb dL_law_21 (by decide) ?_
    refine lv_isub hx hb dL_law_23 ?_
    refine lv_topi (fun y ey => ?_)
    have hy : y.toInt = (L : Int) - 6 := by have h6 : (6 : Int32).toInt = 6 := (by decide); have hl9 := nI_toInt (n := L) (by omega); have h9 := gi_subI ey (by omega) (by omega); rw [h6] at h9; omega
    have hi9 := nI_toInt (n := 6 * n) (by omega)
    refine lv_icmp_gt (tgt := 2062) hx hb dL_law_24 (by decide) (fun c9 => ?_) (fun c9 => ?_)
    · refine lv_iconst (v := 1) hx hb dL_law_2062 (by decide) ?_
      refine va_forget (fun q hq => hS.2.2 q hq) ?_
      refine W.widen (k := 600000) (n := 7302250) (by omega) (by omega) ?_
      exact lw_ret hx hb hr hlocks dL_law_2063
    · have hn : 6 * n + 6 ≤ L := by have h9 := Int32.le_iff_toInt_le.mp (Int32.not_lt.mp c9); omega
      have next : ∀ (H : Heap) (locs : List Loc) (ls : Array Slot), LInv dC dI s x0 hm H → va_S (fun q : Nat => s.heap.size ≤ q) s.heap H locs → lv_has ls 4 [(0, .ref b), (1, .ref x0), (2, .ref hm), (3, .int (nI (6 * n)))] → W p l e room_1 s m #[Value.ref b] below meth c H locs (400 + (n + 1)) (40000 + 5 * (n + 1)) (lw_Z below #[Value.ref b] s) (F0 m 2056 ls []) := fun H locs ls hI hS hl => by
        refine lv_iinc (v := nI (6 * (n + 1))) (lv' := [(3, .int (nI (6 * (n + 1)))), (0, .ref b), (1, .ref x0), (2, .ref hm)]) hx hb dL_law_2056 hl (k := 3) rfl (by show nI (6 * n) + 6 = _; rw [gz_ixn n 6 6 rfl]; rfl) (by decide) rfl (fun ls hl => ?_)
        refine lv_goto (tgt := 18) hx hb dL_law_2059 (by decide) ?_
        exact ih (n + 1) H locs ls (by omega) (by omega) hI hS (lv_sub hl [1, 2, 3, 0] rfl)
      refine lv_aload_n hx hb dL_law_27 rfl (lv_at hl 0 rfl) ?_
      refine lv_iload_n hx hb dL_law_28 rfl (lv_at hl 3 rfl) ?_
      refine va_sld hx hb hX hbl hbA hS (vp_in_nI (show 6 * n < L by omega) (by omega)) dL_law_29 ?_
      refine lv_topi (fun z ez => ?_)
      refine lv_bipush (v := 63) hx hb dL_law_30 (by decide) ?_
      refine lv_iand hx hb dL_law_32 ?_
      refine lv_topi (fun w ew => ?_)
      obtain ⟨j, hj, ej⟩ := pk_andE z (m := 63) 6 (by decide)
      rw [← ew] at ej
      by_cases h54 : j < 54
      · rcases (show (0 ≤ j ∧ j < 6) ∨ (6 ≤ j ∧ j < 12) ∨ (12 ≤ j ∧ j < 18) ∨ (18 ≤ j ∧ j < 24) ∨ (24 ≤ j ∧ j < 30) ∨ (30 ≤ j ∧ j < 36) ∨ (36 ≤ j ∧ j < 42) ∨ (42 ≤ j ∧ j < 48) ∨ (48 ≤ j ∧ j < 54) by omega) with hg | hg | hg | hg | hg | hg | hg | hg | hg
        · rcases (show j = 0 ∨ j = 1 ∨ j = 2 ∨ j = 3 ∨ j = 4 ∨ j = 5 by omega) with rfl | rfl | rfl | rfl | rfl | rfl
          · refine lv_tableIn (off := 231) (tgt := 264) hx hb dL_law_33 (by rw [ej]; decide +kernel) (by rw [ej]; decide +kernel) (by rw [ej]; decide +kernel) (by decide) ?_
            exact law_c0 hL C0 hz hTA hTB hn hI hS hl next
          · refine lv_tableIn (off := 294) (tgt := 327) hx hb dL_law_33 (by rw [ej]; decide +kernel) (by rw [ej]; decide +kernel) (by rw [ej]; decide +kernel) (by decide) ?_
            exact law_c1 hL C0 hz hTA hTB hn hI hS hl next
          · refine lv_tableIn (off := 317) (tgt := 350) hx hb dL_law_33 (by rw [ej]; decide +kernel) (by rw [ej]; decide +kernel) (by rw [ej]; decide +kernel) (by decide) ?_
            exact law_c2 hL C0 hz hTA hTB hn hI hS hl next
          · refine lv_tableIn (off := 330) (tgt := 363) hx hb dL_law_33 (by rw [ej]; decide +kernel) (by rw [ej]; decide +kernel) (by rw [ej]; decide +kernel) (by decide) ?_
            exact law_c3 hL C0 hz hTA hTB hn hI hS hl next
          · refine lv_tableIn (off := 353) (tgt := 386) hx hb dL_law_33 (by rw [ej]; decide +kernel) (by rw [ej]; decide +kernel) (by rw [ej]; decide +kernel) (by decide) ?_
            exact law_c4 hL C0 hz hTA hTB hn hI hS hl next
          · refine lv_tableIn (off := 376) (tgt := 409) hx hb dL_law_33 (by rw [ej]; decide +kernel) (by rw [ej]; decide +kernel) (by rw [ej]; decide +kernel) (by decide) ?_
            exact law_c5 hL C0 hz hTA hTB hn hI hS hl next
        · rcases (show j = 6 ∨ j = 7 ∨ j = 8 ∨ j = 9 ∨ j = 10 ∨ j = 11 by omega) with rfl | rfl | rfl | rfl | rfl | rfl
          · refine lv_tableIn (off := 409) (tgt := 442) hx hb dL_law_33 (by rw [ej]; decide +kernel) (by rw [ej]; decide +kernel) (by rw [ej]; decide +kernel) (by decide) ?_
            exact law_c6 hL C0 hz hTA hTB hn hI hS hl next
          · refine lv_tableIn (off := 442) (tgt := 475) hx hb dL_law_33 (by rw [ej]; decide +kernel) (by rw [ej]; decide +kernel) (by rw [ej]; decide +kernel) (by decide) ?_
            exact law_c7 hL C0 hz hTA hTB hn hI hS hl next
          · refine lv_tableIn (off := 475) (tgt := 508) hx hb dL_law_33 (by rw [ej]; decide +kernel) (by rw [ej]; decide +kernel) (by rw [ej]; decide +kernel) (by decide) ?_
            exact law_c8 hL C0 hz hTA hTB hn hI hS hl next
          · refine lv_tableIn (off := 498) (tgt := 531) hx hb dL_law_33 (by rw [ej]; decide +kernel) (by rw [ej]; decide +kernel) (by rw [ej]; decide +kernel) (by decide) ?_
            exact law_c9 hL C0 hz hTA hTB hn hI hS hl next
          · refine lv_tableIn (off := 531) (tgt := 564) hx hb dL_law_33 (by rw [ej]; decide +kernel) (by rw [ej]; decide +kernel) (by rw [ej]; decide +kernel) (by decide) ?_
            exact law_c10 hL C0 hz hTA hTB hn hI hS hl next
          · refine lv_tableIn (off := 554) (tgt := 587) hx hb dL_law_33 (by rw [ej]; decide +kernel) (by rw [ej]; decide +kernel) (by rw [ej]; decide +kernel) (by decide) ?_
            exact law_c11 hL C0 hz hTA hTB hn hI hS hl next
        · rcases (show j = 12 ∨ j = 13 ∨ j = 14 ∨ j = 15 ∨ j = 16 ∨ j = 17 by omega) with rfl | rfl | rfl | rfl | rfl | rfl
          · refine lv_tableIn (off := 587) (tgt := 620) hx hb dL_law_33 (by rw [ej]; decide +kernel) (by rw [ej]; decide +kernel) (by rw [ej]; decide +kernel) (by decide) ?_
            exact law_c12 hL C0 hz hTA hTB hn hI hS hl next
          · refine lv_tableIn (off := 620) (tgt := 653) hx hb dL_law_33 (by rw [ej]; decide +kernel) (by rw [ej]; decide +kernel) (by rw [ej]; decide +kernel) (by decide) ?_
            exact law_c13 hL C0 hz hTA hTB hn hI hS hl next
          · refine lv_tableIn (off := 653) (tgt := 686) hx hb dL_law_33 (by rw [ej]; decide +kernel) (by rw [ej]; decide +kernel) (by rw [ej]; decide +kernel) (by decide) ?_
            exact law_c14 hL C0 hz hTA hTB hn hI hS hl next
          · refine lv_tableIn (off := 676) (tgt := 709) hx hb dL_law_33 (by rw [ej]; decide +kernel) (by rw [ej]; decide +kernel) (by rw [ej]; decide +kernel) (by decide) ?_
            exact law_c15 hL C0 hz hTA hTB hn hI hS hl next
          · refine lv_tableIn (off := 709) (tgt := 742) hx hb dL_law_33 (by rw [ej]; decide +kernel) (by rw [ej]; decide +kernel) (by rw [ej]; decide +kernel) (by decide) ?_
            exact law_c16 hL C0 hz hTA hTB hn hI hS hl next
          · refine lv_tableIn (off := 752) (tgt := 785) hx hb dL_law_33 (by rw [ej]; decide +kernel) (by rw [ej]; decide +kernel) (by rw [ej]; decide +kernel) (by decide) ?_
            exact law_c17 hL C0 hz hTA hTB hn hI hS hl next
        · rcases (show j = 18 ∨ j = 19 ∨ j = 20 ∨ j = 21 ∨ j = 22 ∨ j = 23 by omega) with rfl | rfl | rfl | rfl | rfl | rfl
          · refine lv_tableIn (off := 775) (tgt := 808) hx hb dL_law_33 (by rw [ej]; decide +kernel) (by rw [ej]; decide +kernel) (by rw [ej]; decide +kernel) (by decide) ?_
            exact law_c18 hL C0 hz hTA hTB hn hI hS hl next
          · refine lv_tableIn (off := 808) (tgt := 841) hx hb dL_law_33 (by rw [ej]; decide +kernel) (by rw [ej]; decide +kernel) (by rw [ej]; decide +kernel) (by decide) ?_
            exact law_c19 hL C0 hz hTA hTB hn hI hS hl next
          · refine lv_tableIn (off := 851) (tgt := 884) hx hb dL_law_33 (by rw [ej]; decide +kernel) (by rw [ej]; decide +kernel) (by rw [ej]; decide +kernel) (by decide) ?_
            exact law_c20 hL C0 hz hTA hTB hn hI hS hl next
          · refine lv_tableIn (off := 884) (tgt := 917) hx hb dL_law_33 (by rw [ej]; decide +kernel) (by rw [ej]; decide +kernel) (by rw [ej]; decide +kernel) (by decide) ?_
            exact law_c21 hL C0 hz hTA hTB hn hI hS hl next
          · refine lv_tableIn (off := 927) (tgt := 960) hx hb dL_law_33 (by rw [ej]; decide +kernel) (by rw [ej]; decide +kernel) (by rw [ej]; decide +kernel) (by decide) ?_
            exact law_c22 hL C0 hz hTA hTB hn hI hS hl next
          · refine lv_tableIn (off := 960) (tgt := 993) hx hb dL_law_33 (by rw [ej]; decide +kernel) (by rw [ej]; decide +kernel) (by rw [ej]; decide +kernel) (by decide) ?_
            exact law_c23 hL C0 hz hTA hTB hn hI hS hl next
        · rcases (show j = 24 ∨ j = 25 ∨ j = 26 ∨ j = 27 ∨ j = 28 ∨ j = 29 by omega) with rfl | rfl | rfl | rfl | rfl | rfl
          · refine lv_tableIn (off := 993) (tgt := 1026) hx hb dL_law_33 (by rw [ej]; decide +kernel) (by rw [ej]; decide +kernel) (by rw [ej]; decide +kernel) (by decide) ?_
            exact law_c24 hL C0 hz hTA hTB hn hI hS hl next
          · refine lv_tableIn (off := 1036) (tgt := 1069) hx hb dL_law_33 (by rw [ej]; decide +kernel) (by rw [ej]; decide +kernel) (by rw [ej]; decide +kernel) (by decide) ?_
            exact law_c25 hL C0 hz hTA hTB hn hI hS hl next
          · refine lv_tableIn (off := 1069) (tgt := 1102) hx hb dL_law_33 (by rw [ej]; decide +kernel) (by rw [ej]; decide +kernel) (by rw [ej]; decide +kernel) (by decide) ?_
            exact law_c26 hL C0 hz hTA hTB hn hI hS hl next
          · refine lv_tableIn (off := 1102) (tgt := 1135) hx hb dL_law_33 (by rw [ej]; decide +kernel) (by rw [ej]; decide +kernel) (by rw [ej]; decide +kernel) (by decide) ?_
            exact law_c27 hL C0 hz hTA hTB hn hI hS hl next
          · refine lv_tableIn (off := 1135) (tgt := 1168) hx hb dL_law_33 (by rw [ej]; decide +kernel) (by rw [ej]; decide +kernel) (by rw [ej]; decide +kernel) (by decide) ?_
            exact law_c28 hL C0 hz hTA hTB hn hI hS hl next
          · refine lv_tableIn (off := 1178) (tgt := 1211) hx hb dL_law_33 (by rw [ej]; decide +kernel) (by rw [ej]; decide +kernel) (by rw [ej]; decide +kernel) (by decide) ?_
            exact law_c29 hL C0 hz hTA hTB hn hI hS hl next
        · rcases (show j = 30 ∨ j = 31 ∨ j = 32 ∨ j = 33 ∨ j = 34 ∨ j = 35 by omega) with rfl | rfl | rfl | rfl | rfl | rfl
          · refine lv_tableIn (off := 1201) (tgt := 1234) hx hb dL_law_33 (by rw [ej]; decide +kernel) (by rw [ej]; decide +kernel) (by rw [ej]; decide +kernel) (by decide) ?_
            exact law_c30 hL C0 hz hTA hTB hn hI hS hl next
          · refine lv_tableIn (off := 1224) (tgt := 1257) hx hb dL_law_33 (by rw [ej]; decide +kernel) (by rw [ej]; decide +kernel) (by rw [ej]; decide +kernel) (by decide) ?_
            exact law_c31 hL C0 hz hTA hTB hn hI hS hl next
          · refine lv_tableIn (off := 1257) (tgt := 1290) hx hb dL_law_33 (by rw [ej]; decide +kernel) (by rw [ej]; decide +kernel) (by rw [ej]; decide +kernel) (by decide) ?_
            exact law_c32 hL C0 hz hTA hTB hn hI hS hl next
          · refine lv_tableIn (off := 1300) (tgt := 1333) hx hb dL_law_33 (by rw [ej]; decide +kernel) (by rw [ej]; decide +kernel) (by rw [ej]; decide +kernel) (by decide) ?_
            exact law_c33 hL C0 hz hTA hTB hn hI hS hl next
          · refine lv_tableIn (off := 1343) (tgt := 1376) hx hb dL_law_33 (by rw [ej]; decide +kernel) (by rw [ej]; decide +kernel) (by rw [ej]; decide +kernel) (by decide) ?_
            exact law_c34 hL C0 hz hTA hTB hn hI hS hl next
          · refine lv_tableIn (off := 1366) (tgt := 1399) hx hb dL_law_33 (by rw [ej]; decide +kernel) (by rw [ej]; decide +kernel) (by rw [ej]; decide +kernel) (by decide) ?_
            exact law_c35 hL C0 hz hTA hTB hn hI hS hl next
        · rcases (show j = 36 ∨ j = 37 ∨ j = 38 ∨ j = 39 ∨ j = 40 ∨ j = 41 by omega) with rfl | rfl | rfl | rfl | rfl | rfl
          · refine lv_tableIn (off := 1409) (tgt := 1442) hx hb dL_law_33 (by rw [ej]; decide +kernel) (by rw [ej]; decide +kernel) (by rw [ej]; decide +kernel) (by decide) ?_
            exact law_c36 hL C0 hz hTA hTB hn hI hS hl next
          · refine lv_tableIn (off := 1452) (tgt := 1485) hx hb dL_law_33 (by rw [ej]; decide +kernel) (by rw [ej]; decide +kernel) (by rw [ej]; decide +kernel) (by decide) ?_
            exact law_c37 hL C0 hz hTA hTB hn hI hS hl next
          · refine lv_tableIn (off := 1495) (tgt := 1528) hx hb dL_law_33 (by rw [ej]; decide +kernel) (by rw [ej]; decide +kernel) (by rw [ej]; decide +kernel) (by decide) ?_
            exact law_c38 hL C0 hz hTA hTB hn hI hS hl next
          · refine lv_tableIn (off := 1528) (tgt := 1561) hx hb dL_law_33 (by rw [ej]; decide +kernel) (by rw [ej]; decide +kernel) (by rw [ej]; decide +kernel) (by decide) ?_
            exact law_c39 hL C0 hz hTA hTB hn hI hS hl next
          · refine lv_tableIn (off := 1551) (tgt := 1584) hx hb dL_law_33 (by rw [ej]; decide +kernel) (by rw [ej]; decide +kernel) (by rw [ej]; decide +kernel) (by decide) ?_
            exact law_c40 hL C0 hz hTA hTB hn hI hS hl next
          · refine lv_tableIn (off := 1584) (tgt := 1617) hx hb dL_law_33 (by rw [ej]; decide +kernel) (by rw [ej]; decide +kernel) (by rw [ej]; decide +kernel) (by decide) ?_
            exact law_c41 hL C0 hz hTA hTB hn hI hS hl next
        · rcases (show j = 42 ∨ j = 43 ∨ j = 44 ∨ j = 45 ∨ j = 46 ∨ j = 47 by omega) with rfl | rfl | rfl | rfl | rfl | rfl
          · refine lv_tableIn (off := 1617) (tgt := 1650) hx hb dL_law_33 (by rw [ej]; decide +kernel) (by rw [ej]; decide +kernel) (by rw [ej]; decide +kernel) (by decide) ?_
            exact law_c42 hL C0 hz hTA hTB hn hI hS hl next
          · refine lv_tableIn (off := 1670) (tgt := 1703) hx hb dL_law_33 (by rw [ej]; decide +kernel) (by rw [ej]; decide +kernel) (by rw [ej]; decide +kernel) (by decide) ?_
            exact law_c43 hL C0 hz hTA hTB hn hI hS hl next
          · refine lv_tableIn (off := 1693) (tgt := 1726) hx hb dL_law_33 (by rw [ej]; decide +kernel) (by rw [ej]; decide +kernel) (by rw [ej]; decide +kernel) (by decide) ?_
            exact law_c44 hL C0 hz hTA hTB hn hI hS hl next
          · refine lv_tableIn (off := 1726) (tgt := 1759) hx hb dL_law_33 (by rw [ej]; decide +kernel) (by rw [ej]; decide +kernel) (by rw [ej]; decide +kernel) (by decide) ?_
            exact law_c45 hL C0 hz hTA hTB hn hI hS hl next
          · refine lv_tableIn (off := 1759) (tgt := 1792) hx hb dL_law_33 (by rw [ej]; decide +kernel) (by rw [ej]; decide +kernel) (by rw [ej]; decide +kernel) (by decide) ?_
            exact law_c46 hL C0 hz hTA hTB hn hI hS hl next
          · refine lv_tableIn (off := 1792) (tgt := 1825) hx hb dL_law_33 (by rw [ej]; decide +kernel) (by rw [ej]; decide +kernel) (by rw [ej]; decide +kernel) (by decide) ?_
            exact law_c47 hL C0 hz hTA hTB hn hI hS hl next
        · rcases (show j = 48 ∨ j = 49 ∨ j = 50 ∨ j = 51 ∨ j = 52 ∨ j = 53 by omega) with rfl | rfl | rfl | rfl | rfl | rfl
          · refine lv_tableIn (off := 1815) (tgt := 1848) hx hb dL_law_33 (by rw [ej]; decide +kernel) (by rw [ej]; decide +kernel) (by rw [ej]; decide +kernel) (by decide) ?_
            exact law_c48 hL C0 hz hTA hTB hn hI hS hl next
          · refine lv_tableIn (off := 1838) (tgt := 1871) hx hb dL_law_33 (by rw [ej]; decide +kernel) (by rw [ej]; decide +kernel) (by rw [ej]; decide +kernel) (by decide) ?_
            exact law_c49 hL C0 hz hTA hTB hn hI hS hl next
          · refine lv_tableIn (off := 1901) (tgt := 1934) hx hb dL_law_33 (by rw [ej]; decide +kernel) (by rw [ej]; decide +kernel) (by rw [ej]; decide +kernel) (by decide) ?_
            exact law_c50 hL C0 hz hTA hTB hn hI hS hl next
          · refine lv_tableIn (off := 1924) (tgt := 1957) hx hb dL_law_33 (by rw [ej]; decide +kernel) (by rw [ej]; decide +kernel) (by rw [ej]; decide +kernel) (by decide) ?_
            exact law_c51 hL C0 hz hTA hTB hn hI hS hl next
          · refine lv_tableIn (off := 1957) (tgt := 1990) hx hb dL_law_33 (by rw [ej]; decide +kernel) (by rw [ej]; decide +kernel) (by rw [ej]; decide +kernel) (by decide) ?_
            exact law_c52 hL C0 hz hTA hTB hn hI hS hl next
          · refine lv_tableIn (off := 1990) (tgt := 2023) hx hb dL_law_33 (by rw [ej]; decide +kernel) (by rw [ej]; decide +kernel) (by rw [ej]; decide +kernel) (by decide) ?_
            exact law_c53 hL C0 hz hTA hTB hn hI hS hl next
      · refine lv_tableOut (tgt := 2056) hx hb dL_law_33 (Or.inr (by rw [ej, nI_toInt (by omega)]; omega)) (by decide) ?_
        refine W.widen (k := 400 + (n + 1)) (n := 40000 + 5 * (n + 1)) (by omega) (by omega) ?_
        exact next _ _ _ hI hS hl
