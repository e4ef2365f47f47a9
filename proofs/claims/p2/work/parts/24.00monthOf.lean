theorem dX12_monthOf_0 : decode cX12_monthOf 0 = .ok (.aload_n 0, 1) := by decide +kernel
theorem dX12_monthOf_1 : decode cX12_monthOf 1 = .ok (.getfield 44, 3) := by decide +kernel
theorem dX12_monthOf_4 : decode cX12_monthOf 4 = .ok (.iload_n 1, 1) := by decide +kernel
theorem dX12_monthOf_5 : decode cX12_monthOf 5 = .ok (.iaload, 1) := by decide +kernel
theorem dX12_monthOf_6 : decode cX12_monthOf 6 = .ok (.ifCond .ne 19, 3) := by decide +kernel
theorem dX12_monthOf_9 : decode cX12_monthOf 9 = .ok (.aload_n 0, 1) := by decide +kernel
theorem dX12_monthOf_10 : decode cX12_monthOf 10 = .ok (.getfield 35, 3) := by decide +kernel
theorem dX12_monthOf_13 : decode cX12_monthOf 13 = .ok (.iload_n 1, 1) := by decide +kernel
theorem dX12_monthOf_14 : decode cX12_monthOf 14 = .ok (.iaload, 1) := by decide +kernel
theorem dX12_monthOf_15 : decode cX12_monthOf 15 = .ok (.aload_n 0, 1) := by decide +kernel
theorem dX12_monthOf_16 : decode cX12_monthOf 16 = .ok (.getfield 41, 3) := by decide +kernel
theorem dX12_monthOf_19 : decode cX12_monthOf 19 = .ok (.iload_n 1, 1) := by decide +kernel
theorem dX12_monthOf_20 : decode cX12_monthOf 20 = .ok (.iaload, 1) := by decide +kernel
theorem dX12_monthOf_21 : decode cX12_monthOf 21 = .ok (.iadd, 1) := by decide +kernel
theorem dX12_monthOf_22 : decode cX12_monthOf 22 = .ok (.goto 9, 3) := by decide +kernel
theorem dX12_monthOf_25 : decode cX12_monthOf 25 = .ok (.aload_n 0, 1) := by decide +kernel
theorem dX12_monthOf_26 : decode cX12_monthOf 26 = .ok (.getfield 35, 3) := by decide +kernel
theorem dX12_monthOf_29 : decode cX12_monthOf 29 = .ok (.iload_n 1, 1) := by decide +kernel
theorem dX12_monthOf_30 : decode cX12_monthOf 30 = .ok (.iaload, 1) := by decide +kernel
theorem dX12_monthOf_31 : decode cX12_monthOf 31 = .ok (.ireturn, 1) := by decide +kernel
set_option maxHeartbeats 4000000 in
set_option maxRecDepth 100000 in
theorem sX12_monthOf (l : Launch) (dC : Nat → ClassId) (dI : Nat → Nat → Nat) (h0 : Nat) (mi : Nat → Int32) (mr : Nat → Nat) (km_deedMonth : ClassId) (fm_deedMonth : Nat → Int32) (km_deedLong : ClassId) (fm_deedLong : Nat → Int32) (km_deedKind : ClassId) (fm_deedKind : Nat → Int32) (p1 : Int32) (gmi_0 : gi (mi 0) 0 24) (gmi_1 : gi (mi 1) 0 5) (gmi_2 : gi (mi 2) 0 5) (gmi_4 : gi (mi 4) 0 1) (gmi_7 : gi (mi 7) 0 6) (gmi_10 : gi (mi 10) 0 24) (gmi_17 : gi (mi 17) 0 8) (gmi_23 : gi (mi 23) 0 300) (gmi_24 : gi (mi 24) 0 1) (gmi_26 : gi (mi 26) 0 1600) (gmi_29 : gi (mi 29) 0 1600) (gmi_30 : gi (mi 30) 0 1600) (gmi_33 : gi (mi 33) 0 1) (gmi_37 : gi (mi 37) 0 1) (gmi_41 : gi (mi 41) 0 24) (gmi_50 : gi (mi 50) 0 1) (gmi_51 : gi (mi 51) 0 1) (gmi_56 : gi (mi 56) 0 80) (gfm_deedMonth : ga fm_deedMonth 8 0 23) (gfm_deedLong : ga fm_deedLong 8 0 600) (gp1 : gi p1 0 7) (hdd : ∀ j : Nat, j < 8 → ((fm_deedKind j).toInt ≠ 0 ∨ (fm_deedMonth j).toInt + (fm_deedLong j).toInt ≤ 23)) : Met l yX12_monthOf (.code yX12_monthOf cX12_monthOf 2 (some .int) :: wsGB) ({ frames := 0, cells := 0, slots := 0, locals := 0 }) (va_Pc [.ref h0, .int p1] (fun U => va_P (dC, dI) vwCl [(h0, .inr (12, fsMM mi mr)), ((mr 8), .inl (km_deedMonth, 8, .inl fm_deedMonth)), ((mr 10), .inl (km_deedLong, 8, .inl fm_deedLong)), ((mr 11), .inl (km_deedKind, 8, .inl fm_deedKind))] U.heap ∧ va_K (dC, dI) vwCl [(km_deedMonth, .int), (km_deedLong, .int), (km_deedKind, .int)] U)) (va_Qi (fun (r : Int32) (u : Unit) => gi r 0 23) (fun _ _ => True) (fun _ => False)) 0 0 (fun _ => False) := by
  refine Met.ofW (cc := cX12_monthOf) (maxL := 2) (ret := (some .int)) (by decide) rfl ?_
  intro p e s m args below meth c s₁ B hml hv
  obtain ⟨rfl, hP, hK⟩ := hv
  have hx := B.exec
  have hb := B.bytes
  have hr := B.returns
  have hts := atoms_spec (ws := (.code yX12_monthOf cX12_monthOf 2 (some .int) :: wsGB)) B.pre
  have hown : s.vm.findClass RX12 = some m.cls := findClass_of_methodNamed B.named
  have hlocks := B.notSynchronized
  have hS : va_S (fun _ => False) s.heap s.heap [] := va_S.rf
  have hl := lv_entry ([.ref h0, .int p1]) (n := 2) (Nat.le_of_ble_eq_true rfl)
  rw [lg_entry_eq]
  generalize (lg_sl ([.ref h0, .int p1]) ++ List.replicate (2 - (lg_sl ([.ref h0, .int p1])).length) Slot.unset).toArray = ls at hl ⊢
  have hl : lv_has ls 2 [(0, .ref h0), (1, .int p1)] := hl
  refine lv_aload_n hx hb dX12_monthOf_0 rfl (lv_at hl 0 rfl) ?_
  refine va_get (D := (dC, dI)) (ci := 12) (v := .ref (mr 11)) (C := RX12) (T := TX12) (N := 57) hx hb hts (fun w h => List.mem_cons_of_mem _ (jnGB_X12 w h)) hown hK hP 0 rfl rfl 21 (by decide) (hts _ (List.mem_cons_of_mem _ mGB_22)) (fun _ h9 => h9) rfl dX12_monthOf_1 ?_
  refine lv_iload_n hx hb dX12_monthOf_4 rfl (lv_at hl 1 rfl) ?_
  refine va_iald hx hb hK hP 3 2 rfl rfl (gi_in gp1 (by decide)) dX12_monthOf_5 ?_
  refine lv_topi (fun x_9 ex_9 => ?_)
  refine lv_if_ne (tgt := 25) hx hb dX12_monthOf_6 (by decide) (fun c_10 => ?_) (fun c_10 => ?_)
  · refine lv_aload_n hx hb dX12_monthOf_25 rfl (lv_at hl 0 rfl) ?_
    refine va_get (D := (dC, dI)) (ci := 12) (v := .ref (mr 8)) (C := RX12) (T := TX12) (N := 57) hx hb hts (fun w h => List.mem_cons_of_mem _ (jnGB_X12 w h)) hown hK hP 0 rfl rfl 18 (by decide) (hts _ (List.mem_cons_of_mem _ mGB_19)) (fun _ h9 => h9) rfl dX12_monthOf_26 ?_
    refine lv_iload_n hx hb dX12_monthOf_29 rfl (lv_at hl 1 rfl) ?_
    refine va_iald hx hb hK hP 1 0 rfl rfl (gi_in gp1 (by decide)) dX12_monthOf_30 ?_
    refine lv_topi (fun x_11 ex_11 => ?_)
    have gx_11 : gi x_11 0 23 := ga_at gfm_deedMonth (gi_in gp1 (by decide)) ex_11
    exact W.iret (v := x_11) hx hb hr (fun t ht hW => ⟨⟨x_11, (), rfl, gx_11, trivial⟩, hS.F ht⟩) hS.2.2 dX12_monthOf_31
  · have g_12 : gi x_9 0 0 := gi_eq c_10 (gi_c 0 0 (by decide))
    refine lv_aload_n hx hb dX12_monthOf_9 rfl (lv_at hl 0 rfl) ?_
    refine va_get (D := (dC, dI)) (ci := 12) (v := .ref (mr 8)) (C := RX12) (T := TX12) (N := 57) hx hb hts (fun w h => List.mem_cons_of_mem _ (jnGB_X12 w h)) hown hK hP 0 rfl rfl 18 (by decide) (hts _ (List.mem_cons_of_mem _ mGB_19)) (fun _ h9 => h9) rfl dX12_monthOf_10 ?_
    refine lv_iload_n hx hb dX12_monthOf_13 rfl (lv_at hl 1 rfl) ?_
    refine va_iald hx hb hK hP 1 0 rfl rfl (gi_in gp1 (by decide)) dX12_monthOf_14 ?_
    refine lv_topi (fun x_13 ex_13 => ?_)
    have gx_13 : gi x_13 0 23 := ga_at gfm_deedMonth (gi_in gp1 (by decide)) ex_13
    refine lv_aload_n hx hb dX12_monthOf_15 rfl (lv_at hl 0 rfl) ?_
    refine va_get (D := (dC, dI)) (ci := 12) (v := .ref (mr 10)) (C := RX12) (T := TX12) (N := 57) hx hb hts (fun w h => List.mem_cons_of_mem _ (jnGB_X12 w h)) hown hK hP 0 rfl rfl 20 (by decide) (hts _ (List.mem_cons_of_mem _ mGB_21)) (fun _ h9 => h9) rfl dX12_monthOf_16 ?_
    refine lv_iload_n hx hb dX12_monthOf_19 rfl (lv_at hl 1 rfl) ?_
    refine va_iald hx hb hK hP 2 1 rfl rfl (gi_in gp1 (by decide)) dX12_monthOf_20 ?_
    refine lv_topi (fun x_14 ex_14 => ?_)
    have gx_14 : gi x_14 0 600 := ga_at gfm_deedLong (gi_in gp1 (by decide)) ex_14
    refine lv_iadd hx hb dX12_monthOf_21 ?_
    refine lv_topi (fun x_15 ex_15 => ?_)
    have gx_15 : gi x_15 0 623 := gi_add ex_15 gx_13 gx_14 (by decide)
    have g_16 : gi x_15 0 23 := gz_deed hdd (gi_in gp1 (by decide)) ex_9 (gz_zero g_12) ex_13 ex_14 ex_15 gx_13 gx_14
    refine lv_goto (tgt := 31) hx hb dX12_monthOf_22 (by decide) ?_
    exact W.iret (v := x_15) hx hb hr (fun t ht hW => ⟨⟨x_15, (), rfl, g_16, trivial⟩, hS.F ht⟩) hS.2.2 dX12_monthOf_31
