set_option maxHeartbeats 4000000 in
set_option maxRecDepth 100000 in
theorem law_head {p : Program} {l : Launch} {e : Env} {s : State} {m : MethodId} {below : List Frame} {meth : Method} {c : Code} {dC : Nat → ClassId} {dI : Nat → Nat → Nat} {b L : Nat} {xs : Nat → Int32} (hL : L ≤ 6) (C0 : lw_At p s m meth c b L xs) {x0 m0 : Nat} {rx rm : Nat → Nat} {k1 : ClassId} {kf : Nat → ClassId} {H : Heap} {locs : List Loc} {ls : Array Slot} (hK : va_K (dC, dI) vwCl (law_T k1 kf) s) (hP : va_P (dC, dI) vwCl (law_W x0 m0 rx rm k1 kf) H) (hD : va_D (fun q : Nat => s.heap.size ≤ q) (law_W x0 m0 rx rm k1 kf)) (hS : va_S (fun q : Nat => s.heap.size ≤ q) s.heap H locs) (hl : lv_has ls 4 [(0, .ref b), (1, .ref x0), (2, .ref m0), (3, .int 0)]) : W p l e room_1 s m #[Value.ref b] below meth c H locs 1000 100000 (lw_Z below #[Value.ref b] s) (F0 m 18 ls []) := by
  rcases (show L = 0 ∨ L = 1 ∨ L = 2 ∨ L = 3 ∨ L = 4 ∨ L = 5 ∨ L = 6 by omega) with rfl | rfl | rfl | rfl | rfl | rfl | rfl
  · obtain ⟨hx, hb, hr, hml, hown0, hts, hX, hbl, hlocks, hgv⟩ := id C0
    have hown : s.vm.findClass RL = some m.cls := hown0
    have hA : ∀ q : Nat, s.heap.size ≤ q → (fun q : Nat => s.heap.size ≤ q) q := fun _ h => h
    have hbA : ¬ (fun q : Nat => s.heap.size ≤ q) b := Nat.not_le.mpr hbl
    refine lv_iload_n hx hb dL_law_18 rfl (lv_at hl 3 rfl) ?_
    refine lv_aload_n hx hb dL_law_19 rfl (lv_at hl 0 rfl) ?_
    refine va_slen hx hb hX hbl hbA hS dL_law_20 ?_
    refine gz_topi (y := 0) (by decide) ?_
    refine lv_bipush (v := 6) hx hb dL_law_21 (by decide) ?_
    refine lv_isub hx hb dL_law_23 ?_
    refine gz_topi (y := (-6)) (by decide) ?_
    refine lv_icmp_gt (tgt := 2062) hx hb dL_law_24 (by decide) (fun c_1 => ?_) (fun c_1 => absurd (by decide) c_1)
    refine lv_iconst (v := 1) hx hb dL_law_2062 (by decide) ?_
    refine va_forget (fun q hq => hS.2.2 q hq) ?_
    refine W.widen (k := 600000) (n := 7302250) (Nat.le_of_ble_eq_true rfl) (Nat.le_of_ble_eq_true rfl) ?_
    exact lw_ret hx hb hr hlocks dL_law_2063
  · obtain ⟨hx, hb, hr, hml, hown0, hts, hX, hbl, hlocks, hgv⟩ := id C0
    have hown : s.vm.findClass RL = some m.cls := hown0
    have hA : ∀ q : Nat, s.heap.size ≤ q → (fun q : Nat => s.heap.size ≤ q) q := fun _ h => h
    have hbA : ¬ (fun q : Nat => s.heap.size ≤ q) b := Nat.not_le.mpr hbl
    refine lv_iload_n hx hb dL_law_18 rfl (lv_at hl 3 rfl) ?_
    refine lv_aload_n hx hb dL_law_19 rfl (lv_at hl 0 rfl) ?_
    refine va_slen hx hb hX hbl hbA hS dL_law_20 ?_
    refine gz_topi (y := 1) (by decide) ?_
    refine lv_bipush (v := 6) hx hb dL_law_21 (by decide) ?_
    refine lv_isub hx hb dL_law_23 ?_
    refine gz_topi (y := (-5)) (by decide) ?_
    refine lv_icmp_gt (tgt := 2062) hx hb dL_law_24 (by decide) (fun c_1 => ?_) (fun c_1 => absurd (by decide) c_1)
    refine lv_iconst (v := 1) hx hb dL_law_2062 (by decide) ?_
    refine va_forget (fun q hq => hS.2.2 q hq) ?_
    refine W.widen (k := 600000) (n := 7302250) (Nat.le_of_ble_eq_true rfl) (Nat.le_of_ble_eq_true rfl) ?_
    exact lw_ret hx hb hr hlocks dL_law_2063
  · obtain ⟨hx, hb, hr, hml, hown0, hts, hX, hbl, hlocks, hgv⟩ := id C0
    have hown : s.vm.findClass RL = some m.cls := hown0
    have hA : ∀ q : Nat, s.heap.size ≤ q → (fun q : Nat => s.heap.size ≤ q) q := fun _ h => h
    have hbA : ¬ (fun q : Nat => s.heap.size ≤ q) b := Nat.not_le.mpr hbl
    refine lv_iload_n hx hb dL_law_18 rfl (lv_at hl 3 rfl) ?_
    refine lv_aload_n hx hb dL_law_19 rfl (lv_at hl 0 rfl) ?_
    refine va_slen hx hb hX hbl hbA hS dL_law_20 ?_
    refine gz_topi (y := 2) (by decide) ?_
    refine lv_bipush (v := 6) hx hb dL_law_21 (by decide) ?_
    refine lv_isub hx hb dL_law_23 ?_
    refine gz_topi (y := (-4)) (by decide) ?_
    refine lv_icmp_gt (tgt := 2062) hx hb dL_law_24 (by decide) (fun c_1 => ?_) (fun c_1 => absurd (by decide) c_1)
    refine lv_iconst (v := 1) hx hb dL_law_2062 (by decide) ?_
    refine va_forget (fun q hq => hS.2.2 q hq) ?_
    refine W.widen (k := 600000) (n := 7302250) (Nat.le_of_ble_eq_true rfl) (Nat.le_of_ble_eq_true rfl) ?_
    exact lw_ret hx hb hr hlocks dL_law_2063
  · obtain ⟨hx, hb, hr, hml, hown0, hts, hX, hbl, hlocks, hgv⟩ := id C0
    have hown : s.vm.findClass RL = some m.cls := hown0
    have hA : ∀ q : Nat, s.heap.size ≤ q → (fun q : Nat => s.heap.size ≤ q) q := fun _ h => h
    have hbA : ¬ (fun q : Nat => s.heap.size ≤ q) b := Nat.not_le.mpr hbl
    refine lv_iload_n hx hb dL_law_18 rfl (lv_at hl 3 rfl) ?_
    refine lv_aload_n hx hb dL_law_19 rfl (lv_at hl 0 rfl) ?_
    refine va_slen hx hb hX hbl hbA hS dL_law_20 ?_
    refine gz_topi (y := 3) (by decide) ?_
    refine lv_bipush (v := 6) hx hb dL_law_21 (by decide) ?_
    refine lv_isub hx hb dL_law_23 ?_
    refine gz_topi (y := (-3)) (by decide) ?_
    refine lv_icmp_gt (tgt := 2062) hx hb dL_law_24 (by decide) (fun c_1 => ?_) (fun c_1 => absurd (by decide) c_1)
    refine lv_iconst (v := 1) hx hb dL_law_2062 (by decide) ?_
    refine va_forget (fun q hq => hS.2.2 q hq) ?_
    refine W.widen (k := 600000) (n := 7302250) (Nat.le_of_ble_eq_true rfl) (Nat.le_of_ble_eq_true rfl) ?_
    exact lw_ret hx hb hr hlocks dL_law_2063
  · obtain ⟨hx, hb, hr, hml, hown0, hts, hX, hbl, hlocks, hgv⟩ := id C0
    have hown : s.vm.findClass RL = some m.cls := hown0
    have hA : ∀ q : Nat, s.heap.size ≤ q → (fun q : Nat => s.heap.size ≤ q) q := fun _ h => h
    have hbA : ¬ (fun q : Nat => s.heap.size ≤ q) b := Nat.not_le.mpr hbl
    refine lv_iload_n hx hb dL_law_18 rfl (lv_at hl 3 rfl) ?_
    refine lv_aload_n hx hb dL_law_19 rfl (lv_at hl 0 rfl) ?_
    refine va_slen hx hb hX hbl hbA hS dL_law_20 ?_
    refine gz_topi (y := 4) (by decide) ?_
    refine lv_bipush (v := 6) hx hb dL_law_21 (by decide) ?_
    refine lv_isub hx hb dL_law_23 ?_
    refine gz_topi (y := (-2)) (by decide) ?_
    refine lv_icmp_gt (tgt := 2062) hx hb dL_law_24 (by decide) (fun c_1 => ?_) (fun c_1 => absurd (by decide) c_1)
    refine lv_iconst (v := 1) hx hb dL_law_2062 (by decide) ?_
    refine va_forget (fun q hq => hS.2.2 q hq) ?_
    refine W.widen (k := 600000) (n := 7302250) (Nat.le_of_ble_eq_true rfl) (Nat.le_of_ble_eq_true rfl) ?_
    exact lw_ret hx hb hr hlocks dL_law_2063
  · obtain ⟨hx, hb, hr, hml, hown0, hts, hX, hbl, hlocks, hgv⟩ := id C0
    have hown : s.vm.findClass RL = some m.cls := hown0
    have hA : ∀ q : Nat, s.heap.size ≤ q → (fun q : Nat => s.heap.size ≤ q) q := fun _ h => h
    have hbA : ¬ (fun q : Nat => s.heap.size ≤ q) b := Nat.not_le.mpr hbl
    refine lv_iload_n hx hb dL_law_18 rfl (lv_at hl 3 rfl) ?_
    refine lv_aload_n hx hb dL_law_19 rfl (lv_at hl 0 rfl) ?_
    refine va_slen hx hb hX hbl hbA hS dL_law_20 ?_
    refine gz_topi (y := 5) (by decide) ?_
    refine lv_bipush (v := 6) hx hb dL_law_21 (by decide) ?_
    refine lv_isub hx hb dL_law_23 ?_
    refine gz_topi (y := (-1)) (by decide) ?_
    refine lv_icmp_gt (tgt := 2062) hx hb dL_law_24 (by decide) (fun c_1 => ?_) (fun c_1 => absurd (by decide) c_1)
    refine lv_iconst (v := 1) hx hb dL_law_2062 (by decide) ?_
    refine va_forget (fun q hq => hS.2.2 q hq) ?_
    refine W.widen (k := 600000) (n := 7302250) (Nat.le_of_ble_eq_true rfl) (Nat.le_of_ble_eq_true rfl) ?_
    exact lw_ret hx hb hr hlocks dL_law_2063
  · obtain ⟨hx, hb, hr, hml, hown0, hts, hX, hbl, hlocks, hgv⟩ := id C0
    have hown : s.vm.findClass RL = some m.cls := hown0
    have hA : ∀ q : Nat, s.heap.size ≤ q → (fun q : Nat => s.heap.size ≤ q) q := fun _ h => h
    have hbA : ¬ (fun q : Nat => s.heap.size ≤ q) b := Nat.not_le.mpr hbl
    refine lv_iload_n hx hb dL_law_18 rfl (lv_at hl 3 rfl) ?_
    refine lv_aload_n hx hb dL_law_19 rfl (lv_at hl 0 rfl) ?_
    refine va_slen hx hb hX hbl hbA hS dL_law_20 ?_
    refine gz_topi (y := 6) (by decide) ?_
    refine lv_bipush (v := 6) hx hb dL_law_21 (by decide) ?_
    refine lv_isub hx hb dL_law_23 ?_
    refine gz_topi (y := 0) (by decide) ?_
    refine lv_icmp_gt (tgt := 2062) hx hb dL_law_24 (by decide) (fun c_1 => absurd c_1 (by decide)) (fun c_1 => ?_)
    refine lv_aload_n hx hb dL_law_27 rfl (lv_at hl 0 rfl) ?_
    refine lv_iload_n hx hb dL_law_28 rfl (lv_at hl 3 rfl) ?_
    refine va_sld hx hb hX hbl hbA hS (by unfold vp_in; decide) dL_law_29 ?_
    refine gz_topi (y := xs 0) (congrArg xs (by decide)) ?_
    refine lv_bipush (v := 63) hx hb dL_law_30 (by decide) ?_
    refine lv_iand hx hb dL_law_32 ?_
    refine lv_topi (fun x_2 ex_2 => ?_)
    obtain ⟨j, hj, ej⟩ := pk_andE (xs 0) (m := 63) 6 (by decide)
    rw [← ex_2] at ej
    by_cases h54 : j < 54
    · rcases (show (0 ≤ j ∧ j < 6) ∨ (6 ≤ j ∧ j < 12) ∨ (12 ≤ j ∧ j < 18) ∨ (18 ≤ j ∧ j < 24) ∨ (24 ≤ j ∧ j < 30) ∨ (30 ≤ j ∧ j < 36) ∨ (36 ≤ j ∧ j < 42) ∨ (42 ≤ j ∧ j < 48) ∨ (48 ≤ j ∧ j < 54) by omega) with hg | hg | hg | hg | hg | hg | hg | hg | hg
      · rcases (show j = 0 ∨ j = 1 ∨ j = 2 ∨ j = 3 ∨ j = 4 ∨ j = 5 by omega) with rfl | rfl | rfl | rfl | rfl | rfl
        · refine lv_tableIn (off := 231) (tgt := 264) hx hb dL_law_33 (by rw [ej]; decide +kernel) (by rw [ej]; decide +kernel) (by rw [ej]; decide +kernel) (by decide) ?_
          exact law_c0 C0 hK hP hD hS hl
        · refine lv_tableIn (off := 294) (tgt := 327) hx hb dL_law_33 (by rw [ej]; decide +kernel) (by rw [ej]; decide +kernel) (by rw [ej]; decide +kernel) (by decide) ?_
          exact law_c1 C0 hK hP hD hS hl
        · refine lv_tableIn (off := 317) (tgt := 350) hx hb dL_law_33 (by rw [ej]; decide +kernel) (by rw [ej]; decide +kernel) (by rw [ej]; decide +kernel) (by decide) ?_
          exact law_c2 C0 hK hP hD hS hl
        · refine lv_tableIn (off := 330) (tgt := 363) hx hb dL_law_33 (by rw [ej]; decide +kernel) (by rw [ej]; decide +kernel) (by rw [ej]; decide +kernel) (by decide) ?_
          exact law_c3 C0 hK hP hD hS hl
        · refine lv_tableIn (off := 353) (tgt := 386) hx hb dL_law_33 (by rw [ej]; decide +kernel) (by rw [ej]; decide +kernel) (by rw [ej]; decide +kernel) (by decide) ?_
          exact law_c4 C0 hK hP hD hS hl
        · refine lv_tableIn (off := 376) (tgt := 409) hx hb dL_law_33 (by rw [ej]; decide +kernel) (by rw [ej]; decide +kernel) (by rw [ej]; decide +kernel) (by decide) ?_
          exact law_c5 C0 hK hP hD hS hl
      · rcases (show j = 6 ∨ j = 7 ∨ j = 8 ∨ j = 9 ∨ j = 10 ∨ j = 11 by omega) with rfl | rfl | rfl | rfl | rfl | rfl
        · refine lv_tableIn (off := 409) (tgt := 442) hx hb dL_law_33 (by rw [ej]; decide +kernel) (by rw [ej]; decide +kernel) (by rw [ej]; decide +kernel) (by decide) ?_
          exact law_c6 C0 hK hP hD hS hl
        · refine lv_tableIn (off := 442) (tgt := 475) hx hb dL_law_33 (by rw [ej]; decide +kernel) (by rw [ej]; decide +kernel) (by rw [ej]; decide +kernel) (by decide) ?_
          exact law_c7 C0 hK hP hD hS hl
        · refine lv_tableIn (off := 475) (tgt := 508) hx hb dL_law_33 (by rw [ej]; decide +kernel) (by rw [ej]; decide +kernel) (by rw [ej]; decide +kernel) (by decide) ?_
          exact law_c8 C0 hK hP hD hS hl
        · refine lv_tableIn (off := 498) (tgt := 531) hx hb dL_law_33 (by rw [ej]; decide +kernel) (by rw [ej]; decide +kernel) (by rw [ej]; decide +kernel) (by decide) ?_
          exact law_c9 C0 hK hP hD hS hl
        · refine lv_tableIn (off := 531) (tgt := 564) hx hb dL_law_33 (by rw [ej]; decide +kernel) (by rw [ej]; decide +kernel) (by rw [ej]; decide +kernel) (by decide) ?_
          exact law_c10 C0 hK hP hD hS hl
        · refine lv_tableIn (off := 554) (tgt := 587) hx hb dL_law_33 (by rw [ej]; decide +kernel) (by rw [ej]; decide +kernel) (by rw [ej]; decide +kernel) (by decide) ?_
          exact law_c11 C0 hK hP hD hS hl
      · rcases (show j = 12 ∨ j = 13 ∨ j = 14 ∨ j = 15 ∨ j = 16 ∨ j = 17 by omega) with rfl | rfl | rfl | rfl | rfl | rfl
        · refine lv_tableIn (off := 587) (tgt := 620) hx hb dL_law_33 (by rw [ej]; decide +kernel) (by rw [ej]; decide +kernel) (by rw [ej]; decide +kernel) (by decide) ?_
          exact law_c12 C0 hK hP hD hS hl
        · refine lv_tableIn (off := 620) (tgt := 653) hx hb dL_law_33 (by rw [ej]; decide +kernel) (by rw [ej]; decide +kernel) (by rw [ej]; decide +kernel) (by decide) ?_
          exact law_c13 C0 hK hP hD hS hl
        · refine lv_tableIn (off := 653) (tgt := 686) hx hb dL_law_33 (by rw [ej]; decide +kernel) (by rw [ej]; decide +kernel) (by rw [ej]; decide +kernel) (by decide) ?_
          exact law_c14 C0 hK hP hD hS hl
        · refine lv_tableIn (off := 676) (tgt := 709) hx hb dL_law_33 (by rw [ej]; decide +kernel) (by rw [ej]; decide +kernel) (by rw [ej]; decide +kernel) (by decide) ?_
          exact law_c15 C0 hK hP hD hS hl
        · refine lv_tableIn (off := 709) (tgt := 742) hx hb dL_law_33 (by rw [ej]; decide +kernel) (by rw [ej]; decide +kernel) (by rw [ej]; decide +kernel) (by decide) ?_
          exact law_c16 C0 hK hP hD hS hl
        · refine lv_tableIn (off := 752) (tgt := 785) hx hb dL_law_33 (by rw [ej]; decide +kernel) (by rw [ej]; decide +kernel) (by rw [ej]; decide +kernel) (by decide) ?_
          exact law_c17 C0 hK hP hD hS hl
      · rcases (show j = 18 ∨ j = 19 ∨ j = 20 ∨ j = 21 ∨ j = 22 ∨ j = 23 by omega) with rfl | rfl | rfl | rfl | rfl | rfl
        · refine lv_tableIn (off := 775) (tgt := 808) hx hb dL_law_33 (by rw [ej]; decide +kernel) (by rw [ej]; decide +kernel) (by rw [ej]; decide +kernel) (by decide) ?_
          exact law_c18 C0 hK hP hD hS hl
        · refine lv_tableIn (off := 808) (tgt := 841) hx hb dL_law_33 (by rw [ej]; decide +kernel) (by rw [ej]; decide +kernel) (by rw [ej]; decide +kernel) (by decide) ?_
          exact law_c19 C0 hK hP hD hS hl
        · refine lv_tableIn (off := 851) (tgt := 884) hx hb dL_law_33 (by rw [ej]; decide +kernel) (by rw [ej]; decide +kernel) (by rw [ej]; decide +kernel) (by decide) ?_
          exact law_c20 C0 hK hP hD hS hl
        · refine lv_tableIn (off := 884) (tgt := 917) hx hb dL_law_33 (by rw [ej]; decide +kernel) (by rw [ej]; decide +kernel) (by rw [ej]; decide +kernel) (by decide) ?_
          exact law_c21 C0 hK hP hD hS hl
        · refine lv_tableIn (off := 927) (tgt := 960) hx hb dL_law_33 (by rw [ej]; decide +kernel) (by rw [ej]; decide +kernel) (by rw [ej]; decide +kernel) (by decide) ?_
          exact law_c22 C0 hK hP hD hS hl
        · refine lv_tableIn (off := 960) (tgt := 993) hx hb dL_law_33 (by rw [ej]; decide +kernel) (by rw [ej]; decide +kernel) (by rw [ej]; decide +kernel) (by decide) ?_
          exact law_c23 C0 hK hP hD hS hl
      · rcases (show j = 24 ∨ j = 25 ∨ j = 26 ∨ j = 27 ∨ j = 28 ∨ j = 29 by omega) with rfl | rfl | rfl | rfl | rfl | rfl
        · refine lv_tableIn (off := 993) (tgt := 1026) hx hb dL_law_33 (by rw [ej]; decide +kernel) (by rw [ej]; decide +kernel) (by rw [ej]; decide +kernel) (by decide) ?_
          exact law_c24 C0 hK hP hD hS hl
        · refine lv_tableIn (off := 1036) (tgt := 1069) hx hb dL_law_33 (by rw [ej]; decide +kernel) (by rw [ej]; decide +kernel) (by rw [ej]; decide +kernel) (by decide) ?_
          exact law_c25 C0 hK hP hD hS hl
        · refine lv_tableIn (off := 1069) (tgt := 1102) hx hb dL_law_33 (by rw [ej]; decide +kernel) (by rw [ej]; decide +kernel) (by rw [ej]; decide +kernel) (by decide) ?_
          exact law_c26 C0 hK hP hD hS hl
        · refine lv_tableIn (off := 1102) (tgt := 1135) hx hb dL_law_33 (by rw [ej]; decide +kernel) (by rw [ej]; decide +kernel) (by rw [ej]; decide +kernel) (by decide) ?_
          exact law_c27 C0 hK hP hD hS hl
        · refine lv_tableIn (off := 1135) (tgt := 1168) hx hb dL_law_33 (by rw [ej]; decide +kernel) (by rw [ej]; decide +kernel) (by rw [ej]; decide +kernel) (by decide) ?_
          exact law_c28 C0 hK hP hD hS hl
        · refine lv_tableIn (off := 1178) (tgt := 1211) hx hb dL_law_33 (by rw [ej]; decide +kernel) (by rw [ej]; decide +kernel) (by rw [ej]; decide +kernel) (by decide) ?_
          exact law_c29 C0 hK hP hD hS hl
      · rcases (show j = 30 ∨ j = 31 ∨ j = 32 ∨ j = 33 ∨ j = 34 ∨ j = 35 by omega) with rfl | rfl | rfl | rfl | rfl | rfl
        · refine lv_tableIn (off := 1201) (tgt := 1234) hx hb dL_law_33 (by rw [ej]; decide +kernel) (by rw [ej]; decide +kernel) (by rw [ej]; decide +kernel) (by decide) ?_
          exact law_c30 C0 hK hP hD hS hl
        · refine lv_tableIn (off := 1224) (tgt := 1257) hx hb dL_law_33 (by rw [ej]; decide +kernel) (by rw [ej]; decide +kernel) (by rw [ej]; decide +kernel) (by decide) ?_
          exact law_c31 C0 hK hP hD hS hl
        · refine lv_tableIn (off := 1257) (tgt := 1290) hx hb dL_law_33 (by rw [ej]; decide +kernel) (by rw [ej]; decide +kernel) (by rw [ej]; decide +kernel) (by decide) ?_
          exact law_c32 C0 hK hP hD hS hl
        · refine lv_tableIn (off := 1300) (tgt := 1333) hx hb dL_law_33 (by rw [ej]; decide +kernel) (by rw [ej]; decide +kernel) (by rw [ej]; decide +kernel) (by decide) ?_
          exact law_c33 C0 hK hP hD hS hl
        · refine lv_tableIn (off := 1343) (tgt := 1376) hx hb dL_law_33 (by rw [ej]; decide +kernel) (by rw [ej]; decide +kernel) (by rw [ej]; decide +kernel) (by decide) ?_
          exact law_c34 C0 hK hP hD hS hl
        · refine lv_tableIn (off := 1366) (tgt := 1399) hx hb dL_law_33 (by rw [ej]; decide +kernel) (by rw [ej]; decide +kernel) (by rw [ej]; decide +kernel) (by decide) ?_
          exact law_c35 C0 hK hP hD hS hl
      · rcases (show j = 36 ∨ j = 37 ∨ j = 38 ∨ j = 39 ∨ j = 40 ∨ j = 41 by omega) with rfl | rfl | rfl | rfl | rfl | rfl
        · refine lv_tableIn (off := 1409) (tgt := 1442) hx hb dL_law_33 (by rw [ej]; decide +kernel) (by rw [ej]; decide +kernel) (by rw [ej]; decide +kernel) (by decide) ?_
          exact law_c36 C0 hK hP hD hS hl
        · refine lv_tableIn (off := 1452) (tgt := 1485) hx hb dL_law_33 (by rw [ej]; decide +kernel) (by rw [ej]; decide +kernel) (by rw [ej]; decide +kernel) (by decide) ?_
          exact law_c37 C0 hK hP hD hS hl
        · refine lv_tableIn (off := 1495) (tgt := 1528) hx hb dL_law_33 (by rw [ej]; decide +kernel) (by rw [ej]; decide +kernel) (by rw [ej]; decide +kernel) (by decide) ?_
          exact law_c38 C0 hK hP hD hS hl
        · refine lv_tableIn (off := 1528) (tgt := 1561) hx hb dL_law_33 (by rw [ej]; decide +kernel) (by rw [ej]; decide +kernel) (by rw [ej]; decide +kernel) (by decide) ?_
          exact law_c39 C0 hK hP hD hS hl
        · refine lv_tableIn (off := 1551) (tgt := 1584) hx hb dL_law_33 (by rw [ej]; decide +kernel) (by rw [ej]; decide +kernel) (by rw [ej]; decide +kernel) (by decide) ?_
          exact law_c40 C0 hK hP hD hS hl
        · refine lv_tableIn (off := 1584) (tgt := 1617) hx hb dL_law_33 (by rw [ej]; decide +kernel) (by rw [ej]; decide +kernel) (by rw [ej]; decide +kernel) (by decide) ?_
          exact law_c41 C0 hK hP hD hS hl
      · rcases (show j = 42 ∨ j = 43 ∨ j = 44 ∨ j = 45 ∨ j = 46 ∨ j = 47 by omega) with rfl | rfl | rfl | rfl | rfl | rfl
        · refine lv_tableIn (off := 1617) (tgt := 1650) hx hb dL_law_33 (by rw [ej]; decide +kernel) (by rw [ej]; decide +kernel) (by rw [ej]; decide +kernel) (by decide) ?_
          exact law_c42 C0 hK hP hD hS hl
        · refine lv_tableIn (off := 1670) (tgt := 1703) hx hb dL_law_33 (by rw [ej]; decide +kernel) (by rw [ej]; decide +kernel) (by rw [ej]; decide +kernel) (by decide) ?_
          exact law_c43 C0 hK hP hD hS hl
        · refine lv_tableIn (off := 1693) (tgt := 1726) hx hb dL_law_33 (by rw [ej]; decide +kernel) (by rw [ej]; decide +kernel) (by rw [ej]; decide +kernel) (by decide) ?_
          exact law_c44 C0 hK hP hD hS hl
        · refine lv_tableIn (off := 1726) (tgt := 1759) hx hb dL_law_33 (by rw [ej]; decide +kernel) (by rw [ej]; decide +kernel) (by rw [ej]; decide +kernel) (by decide) ?_
          exact law_c45 C0 hK hP hD hS hl
        · refine lv_tableIn (off := 1759) (tgt := 1792) hx hb dL_law_33 (by rw [ej]; decide +kernel) (by rw [ej]; decide +kernel) (by rw [ej]; decide +kernel) (by decide) ?_
          exact law_c46 C0 hK hP hD hS hl
        · refine lv_tableIn (off := 1792) (tgt := 1825) hx hb dL_law_33 (by rw [ej]; decide +kernel) (by rw [ej]; decide +kernel) (by rw [ej]; decide +kernel) (by decide) ?_
          exact law_c47 C0 hK hP hD hS hl
      · rcases (show j = 48 ∨ j = 49 ∨ j = 50 ∨ j = 51 ∨ j = 52 ∨ j = 53 by omega) with rfl | rfl | rfl | rfl | rfl | rfl
        · refine lv_tableIn (off := 1815) (tgt := 1848) hx hb dL_law_33 (by rw [ej]; decide +kernel) (by rw [ej]; decide +kernel) (by rw [ej]; decide +kernel) (by decide) ?_
          exact law_c48 C0 hK hP hD hS hl
        · refine lv_tableIn (off := 1838) (tgt := 1871) hx hb dL_law_33 (by rw [ej]; decide +kernel) (by rw [ej]; decide +kernel) (by rw [ej]; decide +kernel) (by decide) ?_
          exact law_c49 C0 hK hP hD hS hl
        · refine lv_tableIn (off := 1901) (tgt := 1934) hx hb dL_law_33 (by rw [ej]; decide +kernel) (by rw [ej]; decide +kernel) (by rw [ej]; decide +kernel) (by decide) ?_
          exact law_c50 C0 hK hP hD hS hl
        · refine lv_tableIn (off := 1924) (tgt := 1957) hx hb dL_law_33 (by rw [ej]; decide +kernel) (by rw [ej]; decide +kernel) (by rw [ej]; decide +kernel) (by decide) ?_
          exact law_c51 C0 hK hP hD hS hl
        · refine lv_tableIn (off := 1957) (tgt := 1990) hx hb dL_law_33 (by rw [ej]; decide +kernel) (by rw [ej]; decide +kernel) (by rw [ej]; decide +kernel) (by decide) ?_
          exact law_c52 C0 hK hP hD hS hl
        · refine lv_tableIn (off := 1990) (tgt := 2023) hx hb dL_law_33 (by rw [ej]; decide +kernel) (by rw [ej]; decide +kernel) (by rw [ej]; decide +kernel) (by decide) ?_
          exact law_c53 C0 hK hP hD hS hl
    · refine lv_tableOut (tgt := 2056) hx hb dL_law_33 (Or.inr (by rw [ej, nI_toInt (by omega)]; omega)) (by decide) ?_
      exact law_tail C0 (Nat.le_of_ble_eq_true rfl) (Nat.le_of_ble_eq_true rfl) hS (lv_sub hl [0, 3] rfl)
