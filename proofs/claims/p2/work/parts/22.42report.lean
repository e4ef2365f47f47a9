theorem dX12_report_0 : decode cX12_report 0 = .ok (.aload_n 0, 1) := by decide +kernel
theorem dX12_report_1 : decode cX12_report 1 = .ok (.iload_n 1, 1) := by decide +kernel
theorem dX12_report_2 : decode cX12_report 2 = .ok (.invokevirtual 303, 3) := by decide +kernel
theorem dX12_report_5 : decode cX12_report 5 = .ok (.ifCond .ne 6, 3) := by decide +kernel
theorem dX12_report_8 : decode cX12_report 8 = .ok (.bipush (-2), 2) := by decide +kernel
theorem dX12_report_10 : decode cX12_report 10 = .ok (.ireturn, 1) := by decide +kernel
theorem dX12_report_11 : decode cX12_report 11 = .ok (.iload_n 2, 1) := by decide +kernel
theorem dX12_report_12 : decode cX12_report 12 = .ok (.tableswitch 84 0 4 #[36, 43, 63, 70, 77], 36) := by decide +kernel
theorem dX12_report_48 : decode cX12_report 48 = .ok (.aload_n 0, 1) := by decide +kernel
theorem dX12_report_49 : decode cX12_report 49 = .ok (.getfield 16, 3) := by decide +kernel
theorem dX12_report_52 : decode cX12_report 52 = .ok (.iload_n 1, 1) := by decide +kernel
theorem dX12_report_53 : decode cX12_report 53 = .ok (.iaload, 1) := by decide +kernel
theorem dX12_report_54 : decode cX12_report 54 = .ok (.ireturn, 1) := by decide +kernel
theorem dX12_report_55 : decode cX12_report 55 = .ok (.aload_n 0, 1) := by decide +kernel
theorem dX12_report_56 : decode cX12_report 56 = .ok (.getfield 22, 3) := by decide +kernel
theorem dX12_report_59 : decode cX12_report 59 = .ok (.iload_n 1, 1) := by decide +kernel
theorem dX12_report_60 : decode cX12_report 60 = .ok (.baload, 1) := by decide +kernel
theorem dX12_report_61 : decode cX12_report 61 = .ok (.ifCond .eq 7, 3) := by decide +kernel
theorem dX12_report_64 : decode cX12_report 64 = .ok (.iconst 3, 1) := by decide +kernel
theorem dX12_report_65 : decode cX12_report 65 = .ok (.goto 9, 3) := by decide +kernel
theorem dX12_report_68 : decode cX12_report 68 = .ok (.aload_n 0, 1) := by decide +kernel
theorem dX12_report_69 : decode cX12_report 69 = .ok (.getfield 19, 3) := by decide +kernel
theorem dX12_report_72 : decode cX12_report 72 = .ok (.iload_n 1, 1) := by decide +kernel
theorem dX12_report_73 : decode cX12_report 73 = .ok (.iaload, 1) := by decide +kernel
theorem dX12_report_74 : decode cX12_report 74 = .ok (.ireturn, 1) := by decide +kernel
theorem dX12_report_75 : decode cX12_report 75 = .ok (.aload_n 0, 1) := by decide +kernel
theorem dX12_report_76 : decode cX12_report 76 = .ok (.getfield 26, 3) := by decide +kernel
theorem dX12_report_79 : decode cX12_report 79 = .ok (.iload_n 1, 1) := by decide +kernel
theorem dX12_report_80 : decode cX12_report 80 = .ok (.iaload, 1) := by decide +kernel
theorem dX12_report_81 : decode cX12_report 81 = .ok (.ireturn, 1) := by decide +kernel
theorem dX12_report_82 : decode cX12_report 82 = .ok (.aload_n 0, 1) := by decide +kernel
theorem dX12_report_83 : decode cX12_report 83 = .ok (.getfield 29, 3) := by decide +kernel
theorem dX12_report_86 : decode cX12_report 86 = .ok (.iload_n 1, 1) := by decide +kernel
theorem dX12_report_87 : decode cX12_report 87 = .ok (.iaload, 1) := by decide +kernel
theorem dX12_report_88 : decode cX12_report 88 = .ok (.ireturn, 1) := by decide +kernel
theorem dX12_report_89 : decode cX12_report 89 = .ok (.aload_n 0, 1) := by decide +kernel
theorem dX12_report_90 : decode cX12_report 90 = .ok (.getfield 32, 3) := by decide +kernel
theorem dX12_report_93 : decode cX12_report 93 = .ok (.iload_n 1, 1) := by decide +kernel
theorem dX12_report_94 : decode cX12_report 94 = .ok (.iaload, 1) := by decide +kernel
theorem dX12_report_95 : decode cX12_report 95 = .ok (.ireturn, 1) := by decide +kernel
theorem dX12_report_96 : decode cX12_report 96 = .ok (.bipush (-2), 2) := by decide +kernel
theorem dX12_report_98 : decode cX12_report 98 = .ok (.ireturn, 1) := by decide +kernel
set_option maxHeartbeats 4000000 in
set_option maxRecDepth 100000 in
theorem sX12_report (l : Launch) (dC : Nat → ClassId) (dI : Nat → Nat → Nat) (h0 : Nat) (mi : Nat → Int32) (mr : Nat → Nat) (km_verdict : ClassId) (fm_verdict : Nat → Int32) (km_row : ClassId) (fm_row : Nat → Int32) (km_struck : ClassId) (fm_struck : Nat → Int32) (km_reportKnown : ClassId) (fm_reportKnown : Nat → Int32) (km_reportPlace : ClassId) (fm_reportPlace : Nat → Int32) (km_reportMonth : ClassId) (fm_reportMonth : Nat → Int32) (km_reportDay : ClassId) (fm_reportDay : Nat → Int32) (km_reportKind : ClassId) (fm_reportKind : Nat → Int32) (km_trust : ClassId) (fm_trust : Nat → Int32) (km_letter : ClassId) (fm_letter : Nat → Int32) (p1 : Int32) (p2 : Int32) (gmi_0 : gi (mi 0) 0 24) (gmi_1 : gi (mi 1) 0 5) (gmi_2 : gi (mi 2) 0 5) (gmi_4 : gi (mi 4) 0 1) (gmi_7 : gi (mi 7) 0 6) (gmi_10 : gi (mi 10) 0 24) (gmi_17 : gi (mi 17) 0 8) (gmi_23 : gi (mi 23) 0 300) (gmi_24 : gi (mi 24) 0 1) (gmi_26 : gi (mi 26) 0 1600) (gmi_29 : gi (mi 29) 0 1600) (gmi_30 : gi (mi 30) 0 1600) (gmi_33 : gi (mi 33) 0 1) (gmi_37 : gi (mi 37) 0 1) (gmi_41 : gi (mi 41) 0 24) (gmi_50 : gi (mi 50) 0 1) (gmi_51 : gi (mi 51) 0 1) (gmi_56 : gi (mi 56) 0 80) (gfm_row : ga fm_row 24 0 23) (gfm_struck : ga fm_struck 24 0 1) (gfm_reportKnown : ga fm_reportKnown 24 0 999) (gfm_reportPlace : ga fm_reportPlace 24 0 5) (gfm_reportMonth : ga fm_reportMonth 24 0 23) (gfm_reportDay : ga fm_reportDay 24 0 999) : Met l yX12_report (.code yX12_report cX12_report 3 (some .int) :: wsGB) ({ frames := 2, cells := 0, slots := 0, locals := 46 }) (va_Pc [.ref h0, .int p1, .int p2] (fun U => va_P (dC, dI) vwCl [(h0, .inr (12, fsMM mi mr)), ((mr 18), .inl (km_verdict, 24, .inl fm_verdict)), ((mr 19), .inl (km_row, 24, .inl fm_row)), ((mr 4), .inl (km_struck, 24, .inl fm_struck)), ((mr 7), .inl (km_reportKnown, 24, .inl fm_reportKnown)), ((mr 2), .inl (km_reportPlace, 24, .inl fm_reportPlace)), ((mr 5), .inl (km_reportMonth, 24, .inl fm_reportMonth)), ((mr 6), .inl (km_reportDay, 24, .inl fm_reportDay)), ((mr 3), .inl (km_reportKind, 24, .inl fm_reportKind)), ((mr 0), .inl (km_trust, 6, .inl fm_trust)), ((mr 1), .inl (km_letter, 36, .inl fm_letter))] U.heap ∧ va_K (dC, dI) vwCl [(km_verdict, .int), (km_row, .int), (km_struck, .boolean), (km_reportKnown, .int), (km_reportPlace, .int), (km_reportMonth, .int), (km_reportDay, .int), (km_reportKind, .int), (km_trust, .int), (km_letter, .int)] U)) (va_Qi (fun (r : Int32) (u : Unit) => gi r (-2147483648) 2147483647) (fun _ _ => True) (fun _ => False)) 0 0 (fun _ => False) := by
  refine Met.ofW (cc := cX12_report) (maxL := 3) (ret := (some .int)) (by decide) rfl ?_
  intro p e s m args below meth c s₁ B hml hv
  obtain ⟨rfl, hP, hK⟩ := hv
  have hx := B.exec
  have hb := B.bytes
  have hr := B.returns
  have hts := atoms_spec (ws := (.code yX12_report cX12_report 3 (some .int) :: wsGB)) B.pre
  have hown : s.vm.findClass RX12 = some m.cls := findClass_of_methodNamed B.named
  have hlocks := B.notSynchronized
  have hS : va_S (fun _ => False) s.heap s.heap [] := va_S.rf
  have hl := lv_entry ([.ref h0, .int p1, .int p2]) (n := 3) (Nat.le_of_ble_eq_true rfl)
  rw [lg_entry_eq]
  generalize (lg_sl ([.ref h0, .int p1, .int p2]) ++ List.replicate (3 - (lg_sl ([.ref h0, .int p1, .int p2])).length) Slot.unset).toArray = ls at hl ⊢
  have hl : lv_has ls 3 [(0, .ref h0), (1, .int p1), (2, .int p2)] := hl
  refine lv_aload_n hx hb dX12_report_0 rfl (lv_at hl 0 rfl) ?_
  refine lv_iload_n hx hb dX12_report_1 rfl (lv_at hl 1 rfl) ?_
  have hPc := hP.sub (ws' := [(h0, .inr (12, fsMM mi mr))]) [0] rfl
  have hKc := hK.sub (tys' := []) [] rfl
  refine va_calli (va_runV (As := [.int p1]) (rest := []) ⟨hx, hb, hml, hown, hts⟩ (sX12_isReport l dC dI h0 mi mr p1 gmi_0 gmi_1 gmi_2 gmi_4 gmi_7 gmi_10 gmi_17 gmi_23 gmi_24 gmi_26 gmi_29 gmi_30 gmi_33 gmi_37 gmi_41 gmi_50 gmi_51 gmi_56) (cwV 1 hts (gz_gV mGB_235 mGB_236 mGB_237 mGB_1 mGB_238 goodGB) rfl rfl rfl (by decide +kernel) ⟨Nat.le_of_ble_eq_true rfl, Nat.le_of_ble_eq_true rfl⟩) ⟨fun a U g mk q => by obtain ⟨q0, qP, qK⟩ := q; exact ⟨q0, qP, va_K.moved (u := U) (U := U.calling g mk a) (Vm.Alike.refl U.vm) qK⟩, va_recv hKc hPc (ci := 12) (q0 := 0) rfl rfl, fun U hU hW => ⟨rfl, by rw [hU]; exact hPc, va_K.moved hW.alike hKc⟩⟩ rfl rfl hl.1 rfl (lv_room (Nat.le_of_ble_eq_true rfl)) dX12_report_2 ⟨Nat.zero_le _, Nat.zero_le _⟩) hS (fun q _ h => h.elim) (fun q h => h.elim) (fun r_16 u t H1 locs ht hvm hw hB hz1 hk1 hS => ?_)
  have hP := gz_keep hP hk1
  generalize H1 = H at hP hS ⊢
  have gr_16 : gi r_16 0 1 := hw.1
  have hqr_16 := hw.2
  refine lv_if_ne (tgt := 11) hx hb dX12_report_5 (by decide) (fun c_17 => ?_) (fun c_17 => ?_)
  · have g_18 : gi r_16 1 1 := gi_ne_lo c_17 gr_16 (gi_c 0 0 (by decide)) (by decide)
    have g_19 : gi p1 0 23 := gi_cap (gi_any p1) (hqr_16 (gz_one g_18)) (by decide)
    refine lv_iload_n hx hb dX12_report_11 rfl (lv_at hl 2 rfl) ?_
    rcases gz_sw p2 4 (Nat.le_of_ble_eq_true rfl) with hj_20 | ⟨j_20, hj_20, ej_20⟩
    · refine lv_tableOut (tgt := 96) hx hb dX12_report_12 hj_20 (by decide) ?_
      refine lv_bipush (v := (-2)) hx hb dX12_report_96 (by decide) ?_
      exact W.iret (v := (-2)) hx hb hr (fun t ht hW => ⟨⟨(-2), (), rfl, (gi_any (-2)), trivial⟩, hS.F ht⟩) hS.2.2 dX12_report_98
    · rcases (show j_20 = 0 ∨ j_20 = 1 ∨ j_20 = 2 ∨ j_20 = 3 ∨ j_20 = 4 by omega) with rfl | rfl | rfl | rfl | rfl
      · refine lv_tableIn (off := 36) (tgt := 48) hx hb dX12_report_12 (by rw [ej_20]; decide +kernel) (by rw [ej_20]; decide +kernel) (by rw [ej_20]; decide +kernel) (by decide) ?_
        refine lv_aload_n hx hb dX12_report_48 rfl (lv_at hl 0 rfl) ?_
        refine va_get (D := (dC, dI)) (ci := 12) (v := .ref (mr 2)) (C := RX12) (T := TX12) (N := 57) hx hb hts (fun w h => List.mem_cons_of_mem _ (jnGB_X12 w h)) hown hK hP 0 rfl rfl 11 (by decide) (hts _ (List.mem_cons_of_mem _ mGB_12)) (fun _ h9 => h9) rfl dX12_report_49 ?_
        refine lv_iload_n hx hb dX12_report_52 rfl (lv_at hl 1 rfl) ?_
        refine va_iald hx hb hK hP 5 4 rfl rfl (gi_in g_19 (by decide)) dX12_report_53 ?_
        refine lv_topi (fun x_21 ex_21 => ?_)
        have gx_21 : gi x_21 0 5 := ga_at gfm_reportPlace (gi_in g_19 (by decide)) ex_21
        exact W.iret (v := x_21) hx hb hr (fun t ht hW => ⟨⟨x_21, (), rfl, (gi_any x_21), trivial⟩, hS.F ht⟩) hS.2.2 dX12_report_54
      · refine lv_tableIn (off := 43) (tgt := 55) hx hb dX12_report_12 (by rw [ej_20]; decide +kernel) (by rw [ej_20]; decide +kernel) (by rw [ej_20]; decide +kernel) (by decide) ?_
        refine lv_aload_n hx hb dX12_report_55 rfl (lv_at hl 0 rfl) ?_
        refine va_get (D := (dC, dI)) (ci := 12) (v := .ref (mr 4)) (C := RX12) (T := TX12) (N := 57) hx hb hts (fun w h => List.mem_cons_of_mem _ (jnGB_X12 w h)) hown hK hP 0 rfl rfl 13 (by decide) (hts _ (List.mem_cons_of_mem _ mGB_15)) (fun _ h9 => h9) rfl dX12_report_56 ?_
        refine lv_iload_n hx hb dX12_report_59 rfl (lv_at hl 1 rfl) ?_
        refine va_zald hx hb hK hP 3 2 rfl rfl (gi_in g_19 (by decide)) dX12_report_60 ?_
        refine lv_topi (fun x_22 ex_22 => ?_)
        have gx_22 : gi x_22 0 1 := ga_at gfm_struck (gi_in g_19 (by decide)) ex_22
        refine lv_if_eq (tgt := 68) hx hb dX12_report_61 (by decide) (fun c_23 => ?_) (fun c_23 => ?_)
        · have g_24 : gi x_22 0 0 := gi_eq c_23 (gi_c 0 0 (by decide))
          refine lv_aload_n hx hb dX12_report_68 rfl (lv_at hl 0 rfl) ?_
          refine va_get (D := (dC, dI)) (ci := 12) (v := .ref (mr 3)) (C := RX12) (T := TX12) (N := 57) hx hb hts (fun w h => List.mem_cons_of_mem _ (jnGB_X12 w h)) hown hK hP 0 rfl rfl 12 (by decide) (hts _ (List.mem_cons_of_mem _ mGB_13)) (fun _ h9 => h9) rfl dX12_report_69 ?_
          refine lv_iload_n hx hb dX12_report_72 rfl (lv_at hl 1 rfl) ?_
          refine va_iald hx hb hK hP 8 7 rfl rfl (gi_in g_19 (by decide)) dX12_report_73 ?_
          refine lv_topi (fun x_25 ex_25 => ?_)
          exact W.iret (v := x_25) hx hb hr (fun t ht hW => ⟨⟨x_25, (), rfl, (gi_any x_25), trivial⟩, hS.F ht⟩) hS.2.2 dX12_report_74
        · have g_26 : gi x_22 1 1 := gi_ne_lo c_23 gx_22 (gi_c 0 0 (by decide)) (by decide)
          refine lv_iconst (v := 3) hx hb dX12_report_64 (by decide) ?_
          refine lv_goto (tgt := 74) hx hb dX12_report_65 (by decide) ?_
          exact W.iret (v := 3) hx hb hr (fun t ht hW => ⟨⟨3, (), rfl, (gi_any 3), trivial⟩, hS.F ht⟩) hS.2.2 dX12_report_74
      · refine lv_tableIn (off := 63) (tgt := 75) hx hb dX12_report_12 (by rw [ej_20]; decide +kernel) (by rw [ej_20]; decide +kernel) (by rw [ej_20]; decide +kernel) (by decide) ?_
        refine lv_aload_n hx hb dX12_report_75 rfl (lv_at hl 0 rfl) ?_
        refine va_get (D := (dC, dI)) (ci := 12) (v := .ref (mr 5)) (C := RX12) (T := TX12) (N := 57) hx hb hts (fun w h => List.mem_cons_of_mem _ (jnGB_X12 w h)) hown hK hP 0 rfl rfl 14 (by decide) (hts _ (List.mem_cons_of_mem _ mGB_16)) (fun _ h9 => h9) rfl dX12_report_76 ?_
        refine lv_iload_n hx hb dX12_report_79 rfl (lv_at hl 1 rfl) ?_
        refine va_iald hx hb hK hP 6 5 rfl rfl (gi_in g_19 (by decide)) dX12_report_80 ?_
        refine lv_topi (fun x_27 ex_27 => ?_)
        have gx_27 : gi x_27 0 23 := ga_at gfm_reportMonth (gi_in g_19 (by decide)) ex_27
        exact W.iret (v := x_27) hx hb hr (fun t ht hW => ⟨⟨x_27, (), rfl, (gi_any x_27), trivial⟩, hS.F ht⟩) hS.2.2 dX12_report_81
      · refine lv_tableIn (off := 70) (tgt := 82) hx hb dX12_report_12 (by rw [ej_20]; decide +kernel) (by rw [ej_20]; decide +kernel) (by rw [ej_20]; decide +kernel) (by decide) ?_
        refine lv_aload_n hx hb dX12_report_82 rfl (lv_at hl 0 rfl) ?_
        refine va_get (D := (dC, dI)) (ci := 12) (v := .ref (mr 6)) (C := RX12) (T := TX12) (N := 57) hx hb hts (fun w h => List.mem_cons_of_mem _ (jnGB_X12 w h)) hown hK hP 0 rfl rfl 15 (by decide) (hts _ (List.mem_cons_of_mem _ mGB_17)) (fun _ h9 => h9) rfl dX12_report_83 ?_
        refine lv_iload_n hx hb dX12_report_86 rfl (lv_at hl 1 rfl) ?_
        refine va_iald hx hb hK hP 7 6 rfl rfl (gi_in g_19 (by decide)) dX12_report_87 ?_
        refine lv_topi (fun x_28 ex_28 => ?_)
        have gx_28 : gi x_28 0 999 := ga_at gfm_reportDay (gi_in g_19 (by decide)) ex_28
        exact W.iret (v := x_28) hx hb hr (fun t ht hW => ⟨⟨x_28, (), rfl, (gi_any x_28), trivial⟩, hS.F ht⟩) hS.2.2 dX12_report_88
      · refine lv_tableIn (off := 77) (tgt := 89) hx hb dX12_report_12 (by rw [ej_20]; decide +kernel) (by rw [ej_20]; decide +kernel) (by rw [ej_20]; decide +kernel) (by decide) ?_
        refine lv_aload_n hx hb dX12_report_89 rfl (lv_at hl 0 rfl) ?_
        refine va_get (D := (dC, dI)) (ci := 12) (v := .ref (mr 7)) (C := RX12) (T := TX12) (N := 57) hx hb hts (fun w h => List.mem_cons_of_mem _ (jnGB_X12 w h)) hown hK hP 0 rfl rfl 16 (by decide) (hts _ (List.mem_cons_of_mem _ mGB_18)) (fun _ h9 => h9) rfl dX12_report_90 ?_
        refine lv_iload_n hx hb dX12_report_93 rfl (lv_at hl 1 rfl) ?_
        refine va_iald hx hb hK hP 4 3 rfl rfl (gi_in g_19 (by decide)) dX12_report_94 ?_
        refine lv_topi (fun x_29 ex_29 => ?_)
        have gx_29 : gi x_29 0 999 := ga_at gfm_reportKnown (gi_in g_19 (by decide)) ex_29
        exact W.iret (v := x_29) hx hb hr (fun t ht hW => ⟨⟨x_29, (), rfl, (gi_any x_29), trivial⟩, hS.F ht⟩) hS.2.2 dX12_report_95
  · have g_30 : gi r_16 0 0 := gi_eq c_17 (gi_c 0 0 (by decide))
    refine lv_bipush (v := (-2)) hx hb dX12_report_8 (by decide) ?_
    exact W.iret (v := (-2)) hx hb hr (fun t ht hW => ⟨⟨(-2), (), rfl, (gi_any (-2)), trivial⟩, hS.F ht⟩) hS.2.2 dX12_report_10
