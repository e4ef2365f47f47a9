theorem dX12_deed_0 : decode cX12_deed 0 = .ok (.aload_n 0, 1) := by decide +kernel
theorem dX12_deed_1 : decode cX12_deed 1 = .ok (.iload_n 1, 1) := by decide +kernel
theorem dX12_deed_2 : decode cX12_deed 2 = .ok (.invokevirtual 306, 3) := by decide +kernel
theorem dX12_deed_5 : decode cX12_deed 5 = .ok (.ifCond .ne 6, 3) := by decide +kernel
theorem dX12_deed_8 : decode cX12_deed 8 = .ok (.bipush (-2), 2) := by decide +kernel
theorem dX12_deed_10 : decode cX12_deed 10 = .ok (.ireturn, 1) := by decide +kernel
theorem dX12_deed_11 : decode cX12_deed 11 = .ok (.iload_n 2, 1) := by decide +kernel
theorem dX12_deed_12 : decode cX12_deed 12 = .ok (.tableswitch 60 0 3 #[32, 39, 46, 53], 32) := by decide +kernel
theorem dX12_deed_44 : decode cX12_deed 44 = .ok (.aload_n 0, 1) := by decide +kernel
theorem dX12_deed_45 : decode cX12_deed 45 = .ok (.getfield 35, 3) := by decide +kernel
theorem dX12_deed_48 : decode cX12_deed 48 = .ok (.iload_n 1, 1) := by decide +kernel
theorem dX12_deed_49 : decode cX12_deed 49 = .ok (.iaload, 1) := by decide +kernel
theorem dX12_deed_50 : decode cX12_deed 50 = .ok (.ireturn, 1) := by decide +kernel
theorem dX12_deed_51 : decode cX12_deed 51 = .ok (.aload_n 0, 1) := by decide +kernel
theorem dX12_deed_52 : decode cX12_deed 52 = .ok (.getfield 38, 3) := by decide +kernel
theorem dX12_deed_55 : decode cX12_deed 55 = .ok (.iload_n 1, 1) := by decide +kernel
theorem dX12_deed_56 : decode cX12_deed 56 = .ok (.iaload, 1) := by decide +kernel
theorem dX12_deed_57 : decode cX12_deed 57 = .ok (.ireturn, 1) := by decide +kernel
theorem dX12_deed_58 : decode cX12_deed 58 = .ok (.aload_n 0, 1) := by decide +kernel
theorem dX12_deed_59 : decode cX12_deed 59 = .ok (.getfield 41, 3) := by decide +kernel
theorem dX12_deed_62 : decode cX12_deed 62 = .ok (.iload_n 1, 1) := by decide +kernel
theorem dX12_deed_63 : decode cX12_deed 63 = .ok (.iaload, 1) := by decide +kernel
theorem dX12_deed_64 : decode cX12_deed 64 = .ok (.ireturn, 1) := by decide +kernel
theorem dX12_deed_65 : decode cX12_deed 65 = .ok (.aload_n 0, 1) := by decide +kernel
theorem dX12_deed_66 : decode cX12_deed 66 = .ok (.getfield 44, 3) := by decide +kernel
theorem dX12_deed_69 : decode cX12_deed 69 = .ok (.iload_n 1, 1) := by decide +kernel
theorem dX12_deed_70 : decode cX12_deed 70 = .ok (.iaload, 1) := by decide +kernel
theorem dX12_deed_71 : decode cX12_deed 71 = .ok (.ireturn, 1) := by decide +kernel
theorem dX12_deed_72 : decode cX12_deed 72 = .ok (.bipush (-2), 2) := by decide +kernel
theorem dX12_deed_74 : decode cX12_deed 74 = .ok (.ireturn, 1) := by decide +kernel
set_option maxHeartbeats 4000000 in
set_option maxRecDepth 100000 in
theorem sX12_deed (l : Launch) (dC : Nat → ClassId) (dI : Nat → Nat → Nat) (h0 : Nat) (mi : Nat → Int32) (mr : Nat → Nat) (km_deedMonth : ClassId) (fm_deedMonth : Nat → Int32) (km_deedLong : ClassId) (fm_deedLong : Nat → Int32) (km_deedKind : ClassId) (fm_deedKind : Nat → Int32) (km_deedDay : ClassId) (fm_deedDay : Nat → Int32) (p1 : Int32) (p2 : Int32) (gmi_0 : gi (mi 0) 0 24) (gmi_1 : gi (mi 1) 0 5) (gmi_2 : gi (mi 2) 0 5) (gmi_4 : gi (mi 4) 0 1) (gmi_7 : gi (mi 7) 0 6) (gmi_10 : gi (mi 10) 0 24) (gmi_17 : gi (mi 17) 0 8) (gmi_23 : gi (mi 23) 0 300) (gmi_24 : gi (mi 24) 0 1) (gmi_26 : gi (mi 26) 0 1600) (gmi_29 : gi (mi 29) 0 1600) (gmi_30 : gi (mi 30) 0 1600) (gmi_33 : gi (mi 33) 0 1) (gmi_37 : gi (mi 37) 0 1) (gmi_41 : gi (mi 41) 0 24) (gmi_50 : gi (mi 50) 0 1) (gmi_51 : gi (mi 51) 0 1) (gmi_56 : gi (mi 56) 0 80) (gfm_deedMonth : ga fm_deedMonth 8 0 23) (gfm_deedLong : ga fm_deedLong 8 0 600) : Met l yX12_deed (.code yX12_deed cX12_deed 3 (some .int) :: wsGB) ({ frames := 2, cells := 0, slots := 0, locals := 46 }) (va_Pc [.ref h0, .int p1, .int p2] (fun U => va_P (dC, dI) vwCl [(h0, .inr (12, fsMM mi mr)), ((mr 8), .inl (km_deedMonth, 8, .inl fm_deedMonth)), ((mr 10), .inl (km_deedLong, 8, .inl fm_deedLong)), ((mr 11), .inl (km_deedKind, 8, .inl fm_deedKind)), ((mr 9), .inl (km_deedDay, 8, .inl fm_deedDay))] U.heap ∧ va_K (dC, dI) vwCl [(km_deedMonth, .int), (km_deedLong, .int), (km_deedKind, .int), (km_deedDay, .int)] U)) (va_Qi (fun (r : Int32) (u : Unit) => gi r (-2147483648) 2147483647) (fun _ _ => True) (fun _ => False)) 0 0 (fun _ => False) := by
  refine Met.ofW (cc := cX12_deed) (maxL := 3) (ret := (some .int)) (by decide) rfl ?_
  intro p e s m args below meth c s₁ B hml hv
  obtain ⟨rfl, hP, hK⟩ := hv
  have hx := B.exec
  have hb := B.bytes
  have hr := B.returns
  have hts := atoms_spec (ws := (.code yX12_deed cX12_deed 3 (some .int) :: wsGB)) B.pre
  have hown : s.vm.findClass RX12 = some m.cls := findClass_of_methodNamed B.named
  have hlocks := B.notSynchronized
  have hS : va_S (fun _ => False) s.heap s.heap [] := va_S.rf
  have hl := lv_entry ([.ref h0, .int p1, .int p2]) (n := 3) (Nat.le_of_ble_eq_true rfl)
  rw [lg_entry_eq]
  generalize (lg_sl ([.ref h0, .int p1, .int p2]) ++ List.replicate (3 - (lg_sl ([.ref h0, .int p1, .int p2])).length) Slot.unset).toArray = ls at hl ⊢
  have hl : lv_has ls 3 [(0, .ref h0), (1, .int p1), (2, .int p2)] := hl
  refine lv_aload_n hx hb dX12_deed_0 rfl (lv_at hl 0 rfl) ?_
  refine lv_iload_n hx hb dX12_deed_1 rfl (lv_at hl 1 rfl) ?_
  have hPc := hP.sub (ws' := [(h0, .inr (12, fsMM mi mr))]) [0] rfl
  have hKc := hK.sub (tys' := []) [] rfl
  refine va_calli (va_runV (As := [.int p1]) (rest := []) ⟨hx, hb, hml, hown, hts⟩ (sX12_isDeed l dC dI h0 mi mr p1 gmi_0 gmi_1 gmi_2 gmi_4 gmi_7 gmi_10 gmi_17 gmi_23 gmi_24 gmi_26 gmi_29 gmi_30 gmi_33 gmi_37 gmi_41 gmi_50 gmi_51 gmi_56) (cwV 1 hts (gz_gV mGB_242 mGB_243 mGB_244 mGB_1 mGB_245 goodGB) rfl rfl rfl (by decide +kernel) ⟨Nat.le_of_ble_eq_true rfl, Nat.le_of_ble_eq_true rfl⟩) ⟨fun a U g mk q => by obtain ⟨q0, qP, qK⟩ := q; exact ⟨q0, qP, va_K.moved (u := U) (U := U.calling g mk a) (Vm.Alike.refl U.vm) qK⟩, va_recv hKc hPc (ci := 12) (q0 := 0) rfl rfl, fun U hU hW => ⟨rfl, by rw [hU]; exact hPc, va_K.moved hW.alike hKc⟩⟩ rfl rfl hl.1 rfl (lv_room (Nat.le_of_ble_eq_true rfl)) dX12_deed_2 ⟨Nat.zero_le _, Nat.zero_le _⟩) hS (fun q _ h => h.elim) (fun q h => h.elim) (fun r_11 u t H1 locs ht hvm hw hB hz1 hk1 hS => ?_)
  have hP := gz_keep hP hk1
  generalize H1 = H at hP hS ⊢
  have gr_11 : gi r_11 0 1 := hw.1
  have hqr_11 := hw.2
  refine lv_if_ne (tgt := 11) hx hb dX12_deed_5 (by decide) (fun c_12 => ?_) (fun c_12 => ?_)
  · have g_13 : gi r_11 1 1 := gi_ne_lo c_12 gr_11 (gi_c 0 0 (by decide)) (by decide)
    have g_14 : gi p1 0 7 := gi_cap (gi_any p1) (hqr_11 (gz_one g_13)) (by decide)
    refine lv_iload_n hx hb dX12_deed_11 rfl (lv_at hl 2 rfl) ?_
    rcases gz_sw p2 3 (Nat.le_of_ble_eq_true rfl) with hj_15 | ⟨j_15, hj_15, ej_15⟩
    · refine lv_tableOut (tgt := 72) hx hb dX12_deed_12 hj_15 (by decide) ?_
      refine lv_bipush (v := (-2)) hx hb dX12_deed_72 (by decide) ?_
      exact W.iret (v := (-2)) hx hb hr (fun t ht hW => ⟨⟨(-2), (), rfl, (gi_any (-2)), trivial⟩, hS.F ht⟩) hS.2.2 dX12_deed_74
    · rcases (show j_15 = 0 ∨ j_15 = 1 ∨ j_15 = 2 ∨ j_15 = 3 by omega) with rfl | rfl | rfl | rfl
      · refine lv_tableIn (off := 32) (tgt := 44) hx hb dX12_deed_12 (by rw [ej_15]; decide +kernel) (by rw [ej_15]; decide +kernel) (by rw [ej_15]; decide +kernel) (by decide) ?_
        refine lv_aload_n hx hb dX12_deed_44 rfl (lv_at hl 0 rfl) ?_
        refine va_get (D := (dC, dI)) (ci := 12) (v := .ref (mr 8)) (C := RX12) (T := TX12) (N := 57) hx hb hts (fun w h => List.mem_cons_of_mem _ (jnGB_X12 w h)) hown hK hP 0 rfl rfl 18 (by decide) (hts _ (List.mem_cons_of_mem _ mGB_19)) (fun _ h9 => h9) rfl dX12_deed_45 ?_
        refine lv_iload_n hx hb dX12_deed_48 rfl (lv_at hl 1 rfl) ?_
        refine va_iald hx hb hK hP 1 0 rfl rfl (gi_in g_14 (by decide)) dX12_deed_49 ?_
        refine lv_topi (fun x_16 ex_16 => ?_)
        have gx_16 : gi x_16 0 23 := ga_at gfm_deedMonth (gi_in g_14 (by decide)) ex_16
        exact W.iret (v := x_16) hx hb hr (fun t ht hW => ⟨⟨x_16, (), rfl, (gi_any x_16), trivial⟩, hS.F ht⟩) hS.2.2 dX12_deed_50
      · refine lv_tableIn (off := 39) (tgt := 51) hx hb dX12_deed_12 (by rw [ej_15]; decide +kernel) (by rw [ej_15]; decide +kernel) (by rw [ej_15]; decide +kernel) (by decide) ?_
        refine lv_aload_n hx hb dX12_deed_51 rfl (lv_at hl 0 rfl) ?_
        refine va_get (D := (dC, dI)) (ci := 12) (v := .ref (mr 9)) (C := RX12) (T := TX12) (N := 57) hx hb hts (fun w h => List.mem_cons_of_mem _ (jnGB_X12 w h)) hown hK hP 0 rfl rfl 19 (by decide) (hts _ (List.mem_cons_of_mem _ mGB_20)) (fun _ h9 => h9) rfl dX12_deed_52 ?_
        refine lv_iload_n hx hb dX12_deed_55 rfl (lv_at hl 1 rfl) ?_
        refine va_iald hx hb hK hP 4 3 rfl rfl (gi_in g_14 (by decide)) dX12_deed_56 ?_
        refine lv_topi (fun x_17 ex_17 => ?_)
        exact W.iret (v := x_17) hx hb hr (fun t ht hW => ⟨⟨x_17, (), rfl, (gi_any x_17), trivial⟩, hS.F ht⟩) hS.2.2 dX12_deed_57
      · refine lv_tableIn (off := 46) (tgt := 58) hx hb dX12_deed_12 (by rw [ej_15]; decide +kernel) (by rw [ej_15]; decide +kernel) (by rw [ej_15]; decide +kernel) (by decide) ?_
        refine lv_aload_n hx hb dX12_deed_58 rfl (lv_at hl 0 rfl) ?_
        refine va_get (D := (dC, dI)) (ci := 12) (v := .ref (mr 10)) (C := RX12) (T := TX12) (N := 57) hx hb hts (fun w h => List.mem_cons_of_mem _ (jnGB_X12 w h)) hown hK hP 0 rfl rfl 20 (by decide) (hts _ (List.mem_cons_of_mem _ mGB_21)) (fun _ h9 => h9) rfl dX12_deed_59 ?_
        refine lv_iload_n hx hb dX12_deed_62 rfl (lv_at hl 1 rfl) ?_
        refine va_iald hx hb hK hP 2 1 rfl rfl (gi_in g_14 (by decide)) dX12_deed_63 ?_
        refine lv_topi (fun x_18 ex_18 => ?_)
        have gx_18 : gi x_18 0 600 := ga_at gfm_deedLong (gi_in g_14 (by decide)) ex_18
        exact W.iret (v := x_18) hx hb hr (fun t ht hW => ⟨⟨x_18, (), rfl, (gi_any x_18), trivial⟩, hS.F ht⟩) hS.2.2 dX12_deed_64
      · refine lv_tableIn (off := 53) (tgt := 65) hx hb dX12_deed_12 (by rw [ej_15]; decide +kernel) (by rw [ej_15]; decide +kernel) (by rw [ej_15]; decide +kernel) (by decide) ?_
        refine lv_aload_n hx hb dX12_deed_65 rfl (lv_at hl 0 rfl) ?_
        refine va_get (D := (dC, dI)) (ci := 12) (v := .ref (mr 11)) (C := RX12) (T := TX12) (N := 57) hx hb hts (fun w h => List.mem_cons_of_mem _ (jnGB_X12 w h)) hown hK hP 0 rfl rfl 21 (by decide) (hts _ (List.mem_cons_of_mem _ mGB_22)) (fun _ h9 => h9) rfl dX12_deed_66 ?_
        refine lv_iload_n hx hb dX12_deed_69 rfl (lv_at hl 1 rfl) ?_
        refine va_iald hx hb hK hP 3 2 rfl rfl (gi_in g_14 (by decide)) dX12_deed_70 ?_
        refine lv_topi (fun x_19 ex_19 => ?_)
        exact W.iret (v := x_19) hx hb hr (fun t ht hW => ⟨⟨x_19, (), rfl, (gi_any x_19), trivial⟩, hS.F ht⟩) hS.2.2 dX12_deed_71
  · have g_20 : gi r_11 0 0 := gi_eq c_12 (gi_c 0 0 (by decide))
    refine lv_bipush (v := (-2)) hx hb dX12_deed_8 (by decide) ?_
    exact W.iret (v := (-2)) hx hb hr (fun t ht hW => ⟨⟨(-2), (), rfl, (gi_any (-2)), trivial⟩, hS.F ht⟩) hS.2.2 dX12_deed_10
