theorem dX12_apart_0 : decode cX12_apart 0 = .ok (.aload_n 0, 1) := by decide +kernel
theorem dX12_apart_1 : decode cX12_apart 1 = .ok (.iload_n 1, 1) := by decide +kernel
theorem dX12_apart_2 : decode cX12_apart 2 = .ok (.invokevirtual 359, 3) := by decide +kernel
theorem dX12_apart_5 : decode cX12_apart 5 = .ok (.ifCond .eq 19, 3) := by decide +kernel
theorem dX12_apart_8 : decode cX12_apart 8 = .ok (.aload_n 0, 1) := by decide +kernel
theorem dX12_apart_9 : decode cX12_apart 9 = .ok (.iload_n 2, 1) := by decide +kernel
theorem dX12_apart_10 : decode cX12_apart 10 = .ok (.invokevirtual 294, 3) := by decide +kernel
theorem dX12_apart_13 : decode cX12_apart 13 = .ok (.ifCond .eq 11, 3) := by decide +kernel
theorem dX12_apart_16 : decode cX12_apart 16 = .ok (.aload_n 0, 1) := by decide +kernel
theorem dX12_apart_17 : decode cX12_apart 17 = .ok (.iload_n 3, 1) := by decide +kernel
theorem dX12_apart_18 : decode cX12_apart 18 = .ok (.invokevirtual 294, 3) := by decide +kernel
theorem dX12_apart_21 : decode cX12_apart 21 = .ok (.ifCond .ne 6, 3) := by decide +kernel
theorem dX12_apart_24 : decode cX12_apart 24 = .ok (.bipush (-2), 2) := by decide +kernel
theorem dX12_apart_26 : decode cX12_apart 26 = .ok (.ireturn, 1) := by decide +kernel
theorem dX12_apart_27 : decode cX12_apart 27 = .ok (.aload_n 0, 1) := by decide +kernel
theorem dX12_apart_28 : decode cX12_apart 28 = .ok (.iload_n 1, 1) := by decide +kernel
theorem dX12_apart_29 : decode cX12_apart 29 = .ok (.iload_n 2, 1) := by decide +kernel
theorem dX12_apart_30 : decode cX12_apart 30 = .ok (.invokevirtual 459, 3) := by decide +kernel
theorem dX12_apart_33 : decode cX12_apart 33 = .ok (.aload_n 0, 1) := by decide +kernel
theorem dX12_apart_34 : decode cX12_apart 34 = .ok (.invokevirtual 462, 3) := by decide +kernel
theorem dX12_apart_37 : decode cX12_apart 37 = .ok (.aload_n 0, 1) := by decide +kernel
theorem dX12_apart_38 : decode cX12_apart 38 = .ok (.iload_n 1, 1) := by decide +kernel
theorem dX12_apart_39 : decode cX12_apart 39 = .ok (.iload_n 3, 1) := by decide +kernel
theorem dX12_apart_40 : decode cX12_apart 40 = .ok (.invokevirtual 459, 3) := by decide +kernel
theorem dX12_apart_43 : decode cX12_apart 43 = .ok (.aload_n 0, 1) := by decide +kernel
theorem dX12_apart_44 : decode cX12_apart 44 = .ok (.invokevirtual 465, 3) := by decide +kernel
theorem dX12_apart_47 : decode cX12_apart 47 = .ok (.ireturn, 1) := by decide +kernel
abbrev pb_sX12_apart (dC : Nat → ClassId) (dI : Nat → Nat → Nat) (A9 : Nat → Prop) (h0 : Nat) (mi : Nat → Int32) (mr : Nat → Nat) (km : Nat → ClassId) (fm_must : Nat → Int32) (fm_least : Nat → Int32) (fm_pin : Nat → Int32) (fm_ways : Nat → Int32) (fm_verdict : Nat → Int32) (fm_row : Nat → Int32) (fm_struck : Nat → Int32) (fm_reportKnown : Nat → Int32) (fm_reportPlace : Nat → Int32) (fm_reportMonth : Nat → Int32) (fm_reportDay : Nat → Int32) (fm_reportKind : Nat → Int32) (fm_trust : Nat → Int32) (fm_letter : Nat → Int32) (fm_official : Nat → Int32) (fm_aside : Nat → Int32) (fm_deedMonth : Nat → Int32) (fm_deedDay : Nat → Int32) (fm_deedLong : Nat → Int32) (fm_deedKind : Nat → Int32) (fm_kept : Nat → Int32) (fm_tape : Nat → Int32) (fm_worth : Nat → Int32) (fm_out : Nat → Int32) (p1 : Int32) (p2 : Int32) (p3 : Int32) (w0_37 : Int32) (w0_41 : Int32) (w0_42 : Int32) (z1 : Nat → Int32) (z2 : Nat → Int32) (z3 : Nat → Int32) (z4 : Nat → Int32) (z5 : Nat → Int32) (z6 : Nat → Int32) (z15 : Nat → Int32) (z16 : Nat → Int32) (t : State) : Prop := gi w0_37 0 1 ∧ gi w0_41 0 24 ∧ ga z6 24 0 23 ∧ va_P (dC, dI) vwCl (MWn h0 mr km (mi 0) (mi 1) (mi 2) (mi 3) (mi 4) (mi 5) (mi 6) (mi 7) (mi 10) (mi 17) (mi 23) (mi 24) (mi 26) (mi 27) (mi 28) (mi 29) (mi 30) (mi 31) (mi 32) (mi 33) w0_37 w0_41 w0_42 (mi 43) (mi 44) (mi 45) (mi 47) (mi 48) (mi 49) (mi 50) (mi 51) (mi 54) (mi 56) fm_trust fm_letter fm_reportPlace fm_reportKind fm_struck fm_reportMonth fm_reportDay fm_reportKnown fm_deedMonth fm_deedDay fm_deedLong fm_deedKind fm_kept fm_tape z1 z2 z3 z4 z5 z6 z15 z16 fm_worth fm_out) t.heap ∧ va_D A9 (MWn h0 mr km (mi 0) (mi 1) (mi 2) (mi 3) (mi 4) (mi 5) (mi 6) (mi 7) (mi 10) (mi 17) (mi 23) (mi 24) (mi 26) (mi 27) (mi 28) (mi 29) (mi 30) (mi 31) (mi 32) (mi 33) w0_37 w0_41 w0_42 (mi 43) (mi 44) (mi 45) (mi 47) (mi 48) (mi 49) (mi 50) (mi 51) (mi 54) (mi 56) fm_trust fm_letter fm_reportPlace fm_reportKind fm_struck fm_reportMonth fm_reportDay fm_reportKnown fm_deedMonth fm_deedDay fm_deedLong fm_deedKind fm_kept fm_tape z1 z2 z3 z4 z5 z6 z15 z16 fm_worth fm_out)
set_option maxHeartbeats 4000000 in
set_option maxRecDepth 100000 in
theorem sX12_apart (l : Launch) (dC : Nat → ClassId) (dI : Nat → Nat → Nat) (sz : Nat) (h0 : Nat) (mi : Nat → Int32) (mr : Nat → Nat) (km : Nat → ClassId) (fm_must : Nat → Int32) (fm_least : Nat → Int32) (fm_pin : Nat → Int32) (fm_ways : Nat → Int32) (fm_verdict : Nat → Int32) (fm_row : Nat → Int32) (fm_struck : Nat → Int32) (fm_reportKnown : Nat → Int32) (fm_reportPlace : Nat → Int32) (fm_reportMonth : Nat → Int32) (fm_reportDay : Nat → Int32) (fm_reportKind : Nat → Int32) (fm_trust : Nat → Int32) (fm_letter : Nat → Int32) (fm_official : Nat → Int32) (fm_aside : Nat → Int32) (fm_deedMonth : Nat → Int32) (fm_deedDay : Nat → Int32) (fm_deedLong : Nat → Int32) (fm_deedKind : Nat → Int32) (fm_kept : Nat → Int32) (fm_tape : Nat → Int32) (fm_worth : Nat → Int32) (fm_out : Nat → Int32) (p1 : Int32) (p2 : Int32) (p3 : Int32) (gmi_0 : gi (mi 0) 0 24) (gmi_1 : gi (mi 1) 0 5) (gmi_2 : gi (mi 2) 0 5) (gmi_4 : gi (mi 4) 0 1) (gmi_7 : gi (mi 7) 0 6) (gmi_10 : gi (mi 10) 0 24) (gmi_17 : gi (mi 17) 0 8) (gmi_23 : gi (mi 23) 0 300) (gmi_24 : gi (mi 24) 0 1) (gmi_26 : gi (mi 26) 0 1600) (gmi_29 : gi (mi 29) 0 1600) (gmi_30 : gi (mi 30) 0 1600) (gmi_33 : gi (mi 33) 0 1) (gmi_37 : gi (mi 37) 0 1) (gmi_41 : gi (mi 41) 0 24) (gmi_50 : gi (mi 50) 0 1) (gmi_51 : gi (mi 51) 0 1) (gmi_56 : gi (mi 56) 0 80) (gfm_row : ga fm_row 24 0 23) (gfm_struck : ga fm_struck 24 0 1) (gfm_reportKnown : ga fm_reportKnown 24 0 999) (gfm_reportPlace : ga fm_reportPlace 24 0 5) (gfm_reportMonth : ga fm_reportMonth 24 0 23) (gfm_reportDay : ga fm_reportDay 24 0 999) : Met l yX12_apart (.code yX12_apart cX12_apart 4 (some .int) :: wsGB) ({ frames := 7, cells := 0, slots := 0, locals := 162 }) (va_Pc [.ref h0, .int p1, .int p2, .int p3] (fun U => U.heap.size = sz ∧ va_P (dC, dI) vwCl (MWn h0 mr km (mi 0) (mi 1) (mi 2) (mi 3) (mi 4) (mi 5) (mi 6) (mi 7) (mi 10) (mi 17) (mi 23) (mi 24) (mi 26) (mi 27) (mi 28) (mi 29) (mi 30) (mi 31) (mi 32) (mi 33) (mi 37) (mi 41) (mi 42) (mi 43) (mi 44) (mi 45) (mi 47) (mi 48) (mi 49) (mi 50) (mi 51) (mi 54) (mi 56) fm_trust fm_letter fm_reportPlace fm_reportKind fm_struck fm_reportMonth fm_reportDay fm_reportKnown fm_deedMonth fm_deedDay fm_deedLong fm_deedKind fm_kept fm_tape fm_must fm_least fm_pin fm_ways fm_verdict fm_row fm_official fm_aside fm_worth fm_out) U.heap ∧ va_K (dC, dI) vwCl (MT km) U ∧ va_D (fun _ => True) (MWn h0 mr km (mi 0) (mi 1) (mi 2) (mi 3) (mi 4) (mi 5) (mi 6) (mi 7) (mi 10) (mi 17) (mi 23) (mi 24) (mi 26) (mi 27) (mi 28) (mi 29) (mi 30) (mi 31) (mi 32) (mi 33) (mi 37) (mi 41) (mi 42) (mi 43) (mi 44) (mi 45) (mi 47) (mi 48) (mi 49) (mi 50) (mi 51) (mi 54) (mi 56) fm_trust fm_letter fm_reportPlace fm_reportKind fm_struck fm_reportMonth fm_reportDay fm_reportKnown fm_deedMonth fm_deedDay fm_deedLong fm_deedKind fm_kept fm_tape fm_must fm_least fm_pin fm_ways fm_verdict fm_row fm_official fm_aside fm_worth fm_out))) (va_Qi (fun (r : Int32) (u : Unit) => gi r (-2147483648) 2147483647) (fun _ t => ∃ (w0_37 : Int32) (w0_41 : Int32) (w0_42 : Int32) (z1 : Nat → Int32) (z2 : Nat → Int32) (z3 : Nat → Int32) (z4 : Nat → Int32) (z5 : Nat → Int32) (z6 : Nat → Int32) (z15 : Nat → Int32) (z16 : Nat → Int32), pb_sX12_apart dC dI (va_A (MWn h0 mr km (mi 0) (mi 1) (mi 2) (mi 3) (mi 4) (mi 5) (mi 6) (mi 7) (mi 10) (mi 17) (mi 23) (mi 24) (mi 26) (mi 27) (mi 28) (mi 29) (mi 30) (mi 31) (mi 32) (mi 33) (mi 37) (mi 41) (mi 42) (mi 43) (mi 44) (mi 45) (mi 47) (mi 48) (mi 49) (mi 50) (mi 51) (mi 54) (mi 56) fm_trust fm_letter fm_reportPlace fm_reportKind fm_struck fm_reportMonth fm_reportDay fm_reportKnown fm_deedMonth fm_deedDay fm_deedLong fm_deedKind fm_kept fm_tape fm_must fm_least fm_pin fm_ways fm_verdict fm_row fm_official fm_aside fm_worth fm_out) sz) h0 mi mr km fm_must fm_least fm_pin fm_ways fm_verdict fm_row fm_struck fm_reportKnown fm_reportPlace fm_reportMonth fm_reportDay fm_reportKind fm_trust fm_letter fm_official fm_aside fm_deedMonth fm_deedDay fm_deedLong fm_deedKind fm_kept fm_tape fm_worth fm_out p1 p2 p3 w0_37 w0_41 w0_42 z1 z2 z3 z4 z5 z6 z15 z16 t) (va_A (MWn h0 mr km (mi 0) (mi 1) (mi 2) (mi 3) (mi 4) (mi 5) (mi 6) (mi 7) (mi 10) (mi 17) (mi 23) (mi 24) (mi 26) (mi 27) (mi 28) (mi 29) (mi 30) (mi 31) (mi 32) (mi 33) (mi 37) (mi 41) (mi 42) (mi 43) (mi 44) (mi 45) (mi 47) (mi 48) (mi 49) (mi 50) (mi 51) (mi 54) (mi 56) fm_trust fm_letter fm_reportPlace fm_reportKind fm_struck fm_reportMonth fm_reportDay fm_reportKnown fm_deedMonth fm_deedDay fm_deedLong fm_deedKind fm_kept fm_tape fm_must fm_least fm_pin fm_ways fm_verdict fm_row fm_official fm_aside fm_worth fm_out) sz)) 0 0 (va_A (MWn h0 mr km (mi 0) (mi 1) (mi 2) (mi 3) (mi 4) (mi 5) (mi 6) (mi 7) (mi 10) (mi 17) (mi 23) (mi 24) (mi 26) (mi 27) (mi 28) (mi 29) (mi 30) (mi 31) (mi 32) (mi 33) (mi 37) (mi 41) (mi 42) (mi 43) (mi 44) (mi 45) (mi 47) (mi 48) (mi 49) (mi 50) (mi 51) (mi 54) (mi 56) fm_trust fm_letter fm_reportPlace fm_reportKind fm_struck fm_reportMonth fm_reportDay fm_reportKnown fm_deedMonth fm_deedDay fm_deedLong fm_deedKind fm_kept fm_tape fm_must fm_least fm_pin fm_ways fm_verdict fm_row fm_official fm_aside fm_worth fm_out) sz) := by
  refine Met.ofW (cc := cX12_apart) (maxL := 4) (ret := (some .int)) (by decide) rfl ?_
  intro p e s m args below meth c s₁ B hml hv
  obtain ⟨rfl, hsz, hP, hK, hD0⟩ := hv
  have hx := B.exec
  have hb := B.bytes
  have hr := B.returns
  have hts := atoms_spec (ws := (.code yX12_apart cX12_apart 4 (some .int) :: wsGB)) B.pre
  have hown : s.vm.findClass RX12 = some m.cls := findClass_of_methodNamed B.named
  have hlocks := B.notSynchronized
  subst hsz
  have hD := hD0.self (sz := s.heap.size)
  generalize hAe : va_A (MWn h0 mr km (mi 0) (mi 1) (mi 2) (mi 3) (mi 4) (mi 5) (mi 6) (mi 7) (mi 10) (mi 17) (mi 23) (mi 24) (mi 26) (mi 27) (mi 28) (mi 29) (mi 30) (mi 31) (mi 32) (mi 33) (mi 37) (mi 41) (mi 42) (mi 43) (mi 44) (mi 45) (mi 47) (mi 48) (mi 49) (mi 50) (mi 51) (mi 54) (mi 56) fm_trust fm_letter fm_reportPlace fm_reportKind fm_struck fm_reportMonth fm_reportDay fm_reportKnown fm_deedMonth fm_deedDay fm_deedLong fm_deedKind fm_kept fm_tape fm_must fm_least fm_pin fm_ways fm_verdict fm_row fm_official fm_aside fm_worth fm_out) s.heap.size = A at hD ⊢
  have hA : ∀ q : Nat, s.heap.size ≤ q → A q := fun q h => by rw [← hAe]; exact Or.inr h
  have hS : va_S A s.heap s.heap [] := va_S.rf
  have hl := lv_entry ([.ref h0, .int p1, .int p2, .int p3]) (n := 4) (Nat.le_of_ble_eq_true rfl)
  rw [lg_entry_eq]
  generalize (lg_sl ([.ref h0, .int p1, .int p2, .int p3]) ++ List.replicate (4 - (lg_sl ([.ref h0, .int p1, .int p2, .int p3])).length) Slot.unset).toArray = ls at hl ⊢
  have hl : lv_has ls 4 [(0, .ref h0), (1, .int p1), (2, .int p2), (3, .int p3)] := hl
  refine lv_aload_n hx hb dX12_apart_0 rfl (lv_at hl 0 rfl) ?_
  refine lv_iload_n hx hb dX12_apart_1 rfl (lv_at hl 1 rfl) ?_
  refine va_calli (va_runV (As := [.int p1]) (rest := []) ⟨hx, hb, hml, hown, hts⟩ (sX12_isTime l dC dI h0 mi mr km fm_trust fm_letter fm_reportPlace fm_reportKind fm_struck fm_reportMonth fm_reportDay fm_reportKnown fm_deedMonth fm_deedDay fm_deedLong fm_deedKind fm_kept fm_tape fm_must fm_least fm_pin fm_ways fm_verdict fm_row fm_official fm_aside fm_worth fm_out p1 gmi_0 gmi_1 gmi_2 gmi_4 gmi_7 gmi_10 gmi_17 gmi_23 gmi_24 gmi_26 gmi_29 gmi_30 gmi_33 gmi_37 gmi_41 gmi_50 gmi_51 gmi_56) (cwV 1 hts (gz_gV mGB_256 mGB_257 mGB_258 mGB_1 mGB_259 goodGB) rfl rfl rfl (by decide +kernel) ⟨Nat.le_of_ble_eq_true rfl, Nat.le_of_ble_eq_true rfl⟩) ⟨bl_R, mw_recv hK hP, fun U hU hW => ⟨rfl, by rw [hU]; exact hP, va_K.moved hW.alike hK⟩⟩ rfl rfl hl.1 rfl (lv_room (Nat.le_of_ble_eq_true rfl)) dX12_apart_2 ⟨Nat.zero_le _, Nat.zero_le _⟩) hS (fun q _ h => h.elim) (fun q h => h.elim) (fun r_81 u t H1 locs ht hvm hw hB hz1 hk1 hS => ?_)
  obtain ⟨hw, hE⟩ := hw
  have hP := gz_keep hP hk1
  generalize H1 = H at hP hS ⊢
  have gr_81 : gi r_81 0 1 := hw.1
  have hqr_81 := hw.2
  refine lv_if_eq (tgt := 24) hx hb dX12_apart_5 (by decide) (fun c_82 => ?_) (fun c_82 => ?_)
  · have g_83 : gi r_81 0 0 := gi_eq c_82 (gi_c 0 0 (by decide))
    refine lv_bipush (v := (-2)) hx hb dX12_apart_24 (by decide) ?_
    exact W.iret (v := (-2)) hx hb hr (fun t ht hW => ⟨⟨(-2), (), rfl, (gi_any (-2)), (mi 37), (mi 41), (mi 42), fm_must, fm_least, fm_pin, fm_ways, fm_verdict, fm_row, fm_official, fm_aside, gmi_37, gmi_41, gfm_row, by rw [ht]; exact hP, hD⟩, hS.F ht⟩) hS.2.2 dX12_apart_26
  · have g_84 : gi r_81 1 1 := gi_ne_lo c_82 gr_81 (gi_c 0 0 (by decide)) (by decide)
    have g_85 : gi p1 0 999 := gi_cap (gi_any p1) (hqr_81 (gz_one g_84)) (by decide)
    refine lv_aload_n hx hb dX12_apart_8 rfl (lv_at hl 0 rfl) ?_
    refine lv_iload_n hx hb dX12_apart_9 rfl (lv_at hl 2 rfl) ?_
    refine va_calli (va_runV (As := [.int p2]) (rest := []) ⟨hx, hb, hml, hown, hts⟩ (sX12_isPlace l dC dI h0 mi mr km fm_trust fm_letter fm_reportPlace fm_reportKind fm_struck fm_reportMonth fm_reportDay fm_reportKnown fm_deedMonth fm_deedDay fm_deedLong fm_deedKind fm_kept fm_tape fm_must fm_least fm_pin fm_ways fm_verdict fm_row fm_official fm_aside fm_worth fm_out p2 gmi_0 gmi_1 gmi_2 gmi_4 gmi_7 gmi_10 gmi_17 gmi_23 gmi_24 gmi_26 gmi_29 gmi_30 gmi_33 gmi_37 gmi_41 gmi_50 gmi_51 gmi_56) (cwV 1 hts (gz_gV mGB_224 mGB_225 mGB_226 mGB_1 mGB_227 goodGB) rfl rfl rfl (by decide +kernel) ⟨Nat.le_of_ble_eq_true rfl, Nat.le_of_ble_eq_true rfl⟩) ⟨bl_R, mw_recv hK hP, fun U hU hW => ⟨rfl, by rw [hU]; exact hP, va_K.moved hW.alike hK⟩⟩ rfl rfl hl.1 rfl (lv_room (Nat.le_of_ble_eq_true rfl)) dX12_apart_10 ⟨Nat.zero_le _, Nat.zero_le _⟩) hS (fun q _ h => h.elim) (fun q h => h.elim) (fun r_86 u t H1 locs ht hvm hw hB hz1 hk1 hS => ?_)
    obtain ⟨hw, hE⟩ := hw
    have hP := gz_keep hP hk1
    generalize H1 = H at hP hS ⊢
    have gr_86 : gi r_86 0 1 := hw.1
    have hqr_86 := hw.2
    refine lv_if_eq (tgt := 24) hx hb dX12_apart_13 (by decide) (fun c_87 => ?_) (fun c_87 => ?_)
    · have g_88 : gi r_86 0 0 := gi_eq c_87 (gi_c 0 0 (by decide))
      refine lv_bipush (v := (-2)) hx hb dX12_apart_24 (by decide) ?_
      exact W.iret (v := (-2)) hx hb hr (fun t ht hW => ⟨⟨(-2), (), rfl, (gi_any (-2)), (mi 37), (mi 41), (mi 42), fm_must, fm_least, fm_pin, fm_ways, fm_verdict, fm_row, fm_official, fm_aside, gmi_37, gmi_41, gfm_row, by rw [ht]; exact hP, hD⟩, hS.F ht⟩) hS.2.2 dX12_apart_26
    · have g_89 : gi r_86 1 1 := gi_ne_lo c_87 gr_86 (gi_c 0 0 (by decide)) (by decide)
      have g_90 : gi p2 0 5 := gi_cap (gi_any p2) (hqr_86 (gz_one g_89)) (by decide)
      refine lv_aload_n hx hb dX12_apart_16 rfl (lv_at hl 0 rfl) ?_
      refine lv_iload_n hx hb dX12_apart_17 rfl (lv_at hl 3 rfl) ?_
      refine va_calli (va_runV (As := [.int p3]) (rest := []) ⟨hx, hb, hml, hown, hts⟩ (sX12_isPlace l dC dI h0 mi mr km fm_trust fm_letter fm_reportPlace fm_reportKind fm_struck fm_reportMonth fm_reportDay fm_reportKnown fm_deedMonth fm_deedDay fm_deedLong fm_deedKind fm_kept fm_tape fm_must fm_least fm_pin fm_ways fm_verdict fm_row fm_official fm_aside fm_worth fm_out p3 gmi_0 gmi_1 gmi_2 gmi_4 gmi_7 gmi_10 gmi_17 gmi_23 gmi_24 gmi_26 gmi_29 gmi_30 gmi_33 gmi_37 gmi_41 gmi_50 gmi_51 gmi_56) (cwV 1 hts (gz_gV mGB_224 mGB_225 mGB_226 mGB_1 mGB_227 goodGB) rfl rfl rfl (by decide +kernel) ⟨Nat.le_of_ble_eq_true rfl, Nat.le_of_ble_eq_true rfl⟩) ⟨bl_R, mw_recv hK hP, fun U hU hW => ⟨rfl, by rw [hU]; exact hP, va_K.moved hW.alike hK⟩⟩ rfl rfl hl.1 rfl (lv_room (Nat.le_of_ble_eq_true rfl)) dX12_apart_18 ⟨Nat.zero_le _, Nat.zero_le _⟩) hS (fun q _ h => h.elim) (fun q h => h.elim) (fun r_91 u t H1 locs ht hvm hw hB hz1 hk1 hS => ?_)
      obtain ⟨hw, hE⟩ := hw
      have hP := gz_keep hP hk1
      generalize H1 = H at hP hS ⊢
      have gr_91 : gi r_91 0 1 := hw.1
      have hqr_91 := hw.2
      refine lv_if_ne (tgt := 27) hx hb dX12_apart_21 (by decide) (fun c_92 => ?_) (fun c_92 => ?_)
      · have g_93 : gi r_91 1 1 := gi_ne_lo c_92 gr_91 (gi_c 0 0 (by decide)) (by decide)
        have g_94 : gi p3 0 5 := gi_cap (gi_any p3) (hqr_91 (gz_one g_93)) (by decide)
        refine lv_aload_n hx hb dX12_apart_27 rfl (lv_at hl 0 rfl) ?_
        refine lv_iload_n hx hb dX12_apart_28 rfl (lv_at hl 1 rfl) ?_
        refine lv_iload_n hx hb dX12_apart_29 rfl (lv_at hl 2 rfl) ?_
        have hFc := gz_fullF hD hS hA
        refine va_callv (va_runV (As := [.int p1, .int p2]) (rest := []) ⟨hx, hb, hml, hown, hts⟩ (sX12_ownBy l dC dI H.size h0 mi mr km fm_must fm_least fm_pin fm_ways fm_verdict fm_row fm_struck fm_reportKnown fm_reportPlace fm_reportMonth fm_reportDay fm_reportKind fm_trust fm_letter fm_official fm_deedMonth fm_deedDay fm_deedLong fm_deedKind fm_kept fm_tape fm_aside fm_worth fm_out p1 p2 gmi_0 gmi_1 gmi_2 gmi_4 gmi_7 gmi_10 gmi_17 gmi_23 gmi_24 gmi_26 gmi_29 gmi_30 gmi_33 gmi_37 gmi_41 gmi_50 gmi_51 gmi_56 gfm_row gfm_struck gfm_reportKnown gfm_reportPlace gfm_reportMonth gfm_reportDay) (cwV 2 hts (gz_gV mGB_510 mGB_511 mGB_512 mGB_1 mGB_513 goodGB) rfl rfl rfl (by decide +kernel) ⟨Nat.le_of_ble_eq_true rfl, Nat.le_of_ble_eq_true rfl⟩) ⟨bl_W, mw_recv hK hP, fun U hU hW => ⟨rfl, by rw [hU], by rw [hU]; exact hP, va_K.moved hW.alike hK, hD.weaken (fun _ _ _ _ => trivial)⟩⟩ rfl rfl hl.1 rfl (lv_room (Nat.le_of_ble_eq_true rfl)) dX12_apart_30 ⟨Nat.zero_le _, Nat.zero_le _⟩) hS (fun q _ h => hFc q h) hFc (fun u t H1 locs ht hvm hw hB hz1 hk1 hS => ?_)
        obtain ⟨y_96, y_97, y_98, f_99, f_100, f_101, f_102, f_103, f_104, f_105, hB⟩ := hB
        obtain ⟨gy_96, gy_97, gf_104, hP1, hD1⟩ := hB
        rw [ht] at hP1
        have hD : va_D A (MWn h0 mr km (mi 0) (mi 1) (mi 2) (mi 3) (mi 4) (mi 5) (mi 6) (mi 7) (mi 10) (mi 17) (mi 23) (mi 24) (mi 26) (mi 27) (mi 28) (mi 29) (mi 30) (mi 31) (mi 32) (mi 33) y_96 y_97 y_98 (mi 43) (mi 44) (mi 45) (mi 47) (mi 48) (mi 49) (mi 50) (mi 51) (mi 54) (mi 56) fm_trust fm_letter fm_reportPlace fm_reportKind fm_struck fm_reportMonth fm_reportDay fm_reportKnown fm_deedMonth fm_deedDay fm_deedLong fm_deedKind fm_kept fm_tape f_99 f_100 f_101 f_102 f_103 f_104 f_105 fm_aside fm_worth fm_out) := gz_fullD hFc hD1
        have hP : va_P (dC, dI) vwCl (MWn h0 mr km (mi 0) (mi 1) (mi 2) (mi 3) (mi 4) (mi 5) (mi 6) (mi 7) (mi 10) (mi 17) (mi 23) (mi 24) (mi 26) (mi 27) (mi 28) (mi 29) (mi 30) (mi 31) (mi 32) (mi 33) y_96 y_97 y_98 (mi 43) (mi 44) (mi 45) (mi 47) (mi 48) (mi 49) (mi 50) (mi 51) (mi 54) (mi 56) fm_trust fm_letter fm_reportPlace fm_reportKind fm_struck fm_reportMonth fm_reportDay fm_reportKnown fm_deedMonth fm_deedDay fm_deedLong fm_deedKind fm_kept fm_tape f_99 f_100 f_101 f_102 f_103 f_104 f_105 fm_aside fm_worth fm_out) H1 := hP1
        generalize H1 = H at hP hS ⊢
        refine lv_aload_n hx hb dX12_apart_33 rfl (lv_at hl 0 rfl) ?_
        have hFc := gz_fullF hD hS hA
        refine va_callv (va_runV (As := []) (rest := []) ⟨hx, hb, hml, hown, hts⟩ (sX12_keepsOfficial l dC dI H.size h0 (upd (upd (upd mi 37 y_96) 41 y_97) 42 y_98) mr km f_105 fm_aside fm_trust fm_letter fm_reportPlace fm_reportKind fm_struck fm_reportMonth fm_reportDay fm_reportKnown fm_deedMonth fm_deedDay fm_deedLong fm_deedKind fm_kept fm_tape f_99 f_100 f_101 f_102 f_103 f_104 fm_worth fm_out gmi_0 gmi_1 gmi_2 gmi_4 gmi_7 gmi_10 gmi_17 gmi_23 gmi_24 gmi_26 gmi_29 gmi_30 gmi_33 gy_96 gy_97 gmi_50 gmi_51 gmi_56) (cwV 0 hts (gz_gV mGB_517 mGB_518 mGB_519 mGB_1 mGB_520 goodGB) rfl rfl rfl (by decide +kernel) ⟨Nat.le_of_ble_eq_true rfl, Nat.le_of_ble_eq_true rfl⟩) ⟨bl_W, mw_recv hK hP, fun U hU hW => ⟨rfl, by rw [hU], by rw [hU]; exact hP, va_K.moved hW.alike hK, hD.weaken (fun _ _ _ _ => trivial)⟩⟩ rfl rfl hl.1 rfl (lv_room (Nat.le_of_ble_eq_true rfl)) dX12_apart_34 ⟨Nat.zero_le _, Nat.zero_le _⟩) hS (fun q _ h => hFc q h) hFc (fun u t H1 locs ht hvm hw hB hz1 hk1 hS => ?_)
        obtain ⟨f_107, hB⟩ := hB
        obtain ⟨hP1, hD1⟩ := hB
        rw [ht] at hP1
        have hD : va_D A (MWn h0 mr km (mi 0) (mi 1) (mi 2) (mi 3) (mi 4) (mi 5) (mi 6) (mi 7) (mi 10) (mi 17) (mi 23) (mi 24) (mi 26) (mi 27) (mi 28) (mi 29) (mi 30) (mi 31) (mi 32) (mi 33) y_96 y_97 y_98 (mi 43) (mi 44) (mi 45) (mi 47) (mi 48) (mi 49) (mi 50) (mi 51) (mi 54) (mi 56) fm_trust fm_letter fm_reportPlace fm_reportKind fm_struck fm_reportMonth fm_reportDay fm_reportKnown fm_deedMonth fm_deedDay fm_deedLong fm_deedKind fm_kept fm_tape f_99 f_100 f_101 f_102 f_103 f_104 f_105 f_107 fm_worth fm_out) := gz_fullD hFc hD1
        have hP : va_P (dC, dI) vwCl (MWn h0 mr km (mi 0) (mi 1) (mi 2) (mi 3) (mi 4) (mi 5) (mi 6) (mi 7) (mi 10) (mi 17) (mi 23) (mi 24) (mi 26) (mi 27) (mi 28) (mi 29) (mi 30) (mi 31) (mi 32) (mi 33) y_96 y_97 y_98 (mi 43) (mi 44) (mi 45) (mi 47) (mi 48) (mi 49) (mi 50) (mi 51) (mi 54) (mi 56) fm_trust fm_letter fm_reportPlace fm_reportKind fm_struck fm_reportMonth fm_reportDay fm_reportKnown fm_deedMonth fm_deedDay fm_deedLong fm_deedKind fm_kept fm_tape f_99 f_100 f_101 f_102 f_103 f_104 f_105 f_107 fm_worth fm_out) H1 := hP1
        generalize H1 = H at hP hS ⊢
        refine lv_aload_n hx hb dX12_apart_37 rfl (lv_at hl 0 rfl) ?_
        refine lv_iload_n hx hb dX12_apart_38 rfl (lv_at hl 1 rfl) ?_
        refine lv_iload_n hx hb dX12_apart_39 rfl (lv_at hl 3 rfl) ?_
        have hFc := gz_fullF hD hS hA
        refine va_callv (va_runV (As := [.int p1, .int p3]) (rest := []) ⟨hx, hb, hml, hown, hts⟩ (sX12_ownBy l dC dI H.size h0 (upd (upd (upd mi 37 y_96) 41 y_97) 42 y_98) mr km f_99 f_100 f_101 f_102 f_103 f_104 fm_struck fm_reportKnown fm_reportPlace fm_reportMonth fm_reportDay fm_reportKind fm_trust fm_letter f_105 fm_deedMonth fm_deedDay fm_deedLong fm_deedKind fm_kept fm_tape f_107 fm_worth fm_out p1 p3 gmi_0 gmi_1 gmi_2 gmi_4 gmi_7 gmi_10 gmi_17 gmi_23 gmi_24 gmi_26 gmi_29 gmi_30 gmi_33 gy_96 gy_97 gmi_50 gmi_51 gmi_56 gf_104 gfm_struck gfm_reportKnown gfm_reportPlace gfm_reportMonth gfm_reportDay) (cwV 2 hts (gz_gV mGB_510 mGB_511 mGB_512 mGB_1 mGB_513 goodGB) rfl rfl rfl (by decide +kernel) ⟨Nat.le_of_ble_eq_true rfl, Nat.le_of_ble_eq_true rfl⟩) ⟨bl_W, mw_recv hK hP, fun U hU hW => ⟨rfl, by rw [hU], by rw [hU]; exact hP, va_K.moved hW.alike hK, hD.weaken (fun _ _ _ _ => trivial)⟩⟩ rfl rfl hl.1 rfl (lv_room (Nat.le_of_ble_eq_true rfl)) dX12_apart_40 ⟨Nat.zero_le _, Nat.zero_le _⟩) hS (fun q _ h => hFc q h) hFc (fun u t H1 locs ht hvm hw hB hz1 hk1 hS => ?_)
        obtain ⟨y_109, y_110, y_111, f_112, f_113, f_114, f_115, f_116, f_117, f_118, hB⟩ := hB
        obtain ⟨gy_109, gy_110, gf_117, hP1, hD1⟩ := hB
        rw [ht] at hP1
        have hD : va_D A (MWn h0 mr km (mi 0) (mi 1) (mi 2) (mi 3) (mi 4) (mi 5) (mi 6) (mi 7) (mi 10) (mi 17) (mi 23) (mi 24) (mi 26) (mi 27) (mi 28) (mi 29) (mi 30) (mi 31) (mi 32) (mi 33) y_109 y_110 y_111 (mi 43) (mi 44) (mi 45) (mi 47) (mi 48) (mi 49) (mi 50) (mi 51) (mi 54) (mi 56) fm_trust fm_letter fm_reportPlace fm_reportKind fm_struck fm_reportMonth fm_reportDay fm_reportKnown fm_deedMonth fm_deedDay fm_deedLong fm_deedKind fm_kept fm_tape f_112 f_113 f_114 f_115 f_116 f_117 f_118 f_107 fm_worth fm_out) := gz_fullD hFc hD1
        have hP : va_P (dC, dI) vwCl (MWn h0 mr km (mi 0) (mi 1) (mi 2) (mi 3) (mi 4) (mi 5) (mi 6) (mi 7) (mi 10) (mi 17) (mi 23) (mi 24) (mi 26) (mi 27) (mi 28) (mi 29) (mi 30) (mi 31) (mi 32) (mi 33) y_109 y_110 y_111 (mi 43) (mi 44) (mi 45) (mi 47) (mi 48) (mi 49) (mi 50) (mi 51) (mi 54) (mi 56) fm_trust fm_letter fm_reportPlace fm_reportKind fm_struck fm_reportMonth fm_reportDay fm_reportKnown fm_deedMonth fm_deedDay fm_deedLong fm_deedKind fm_kept fm_tape f_112 f_113 f_114 f_115 f_116 f_117 f_118 f_107 fm_worth fm_out) H1 := hP1
        generalize H1 = H at hP hS ⊢
        refine lv_aload_n hx hb dX12_apart_43 rfl (lv_at hl 0 rfl) ?_
        refine va_calli (va_runV (As := []) (rest := []) ⟨hx, hb, hml, hown, hts⟩ (sX12_unlike l dC dI h0 (upd (upd (upd mi 37 y_109) 41 y_110) 42 y_111) mr km f_118 f_107 fm_trust fm_letter fm_reportPlace fm_reportKind fm_struck fm_reportMonth fm_reportDay fm_reportKnown fm_deedMonth fm_deedDay fm_deedLong fm_deedKind fm_kept fm_tape f_112 f_113 f_114 f_115 f_116 f_117 fm_worth fm_out gmi_0 gmi_1 gmi_2 gmi_4 gmi_7 gmi_10 gmi_17 gmi_23 gmi_24 gmi_26 gmi_29 gmi_30 gmi_33 gy_109 gy_110 gmi_50 gmi_51 gmi_56) (cwV 0 hts (gz_gV mGB_521 mGB_522 mGB_523 mGB_1 mGB_524 goodGB) rfl rfl rfl (by decide +kernel) ⟨Nat.le_of_ble_eq_true rfl, Nat.le_of_ble_eq_true rfl⟩) ⟨bl_R, mw_recv hK hP, fun U hU hW => ⟨rfl, by rw [hU]; exact hP, va_K.moved hW.alike hK⟩⟩ rfl rfl hl.1 rfl (lv_room (Nat.le_of_ble_eq_true rfl)) dX12_apart_44 ⟨Nat.zero_le _, Nat.zero_le _⟩) hS (fun q _ h => h.elim) (fun q h => h.elim) (fun r_119 u t H1 locs ht hvm hw hB hz1 hk1 hS => ?_)
        have hP := gz_keep hP hk1
        generalize H1 = H at hP hS ⊢
        exact W.iret (v := r_119) hx hb hr (fun t ht hW => ⟨⟨r_119, (), rfl, (gi_any r_119), y_109, y_110, y_111, f_112, f_113, f_114, f_115, f_116, f_117, f_118, f_107, gy_109, gy_110, gf_117, by rw [ht]; exact hP, hD⟩, hS.F ht⟩) hS.2.2 dX12_apart_47
      · have g_120 : gi r_91 0 0 := gi_eq c_92 (gi_c 0 0 (by decide))
        refine lv_bipush (v := (-2)) hx hb dX12_apart_24 (by decide) ?_
        exact W.iret (v := (-2)) hx hb hr (fun t ht hW => ⟨⟨(-2), (), rfl, (gi_any (-2)), (mi 37), (mi 41), (mi 42), fm_must, fm_least, fm_pin, fm_ways, fm_verdict, fm_row, fm_official, fm_aside, gmi_37, gmi_41, gfm_row, by rw [ht]; exact hP, hD⟩, hS.F ht⟩) hS.2.2 dX12_apart_26
theorem dX12_hang_0 : decode cX12_hang 0 = .ok (.aload_n 0, 1) := by decide +kernel
theorem dX12_hang_1 : decode cX12_hang 1 = .ok (.iload_n 1, 1) := by decide +kernel
theorem dX12_hang_2 : decode cX12_hang 2 = .ok (.invokevirtual 359, 3) := by decide +kernel
theorem dX12_hang_5 : decode cX12_hang 5 = .ok (.ifCond .eq 20, 3) := by decide +kernel
theorem dX12_hang_8 : decode cX12_hang 8 = .ok (.aload_n 0, 1) := by decide +kernel
theorem dX12_hang_9 : decode cX12_hang 9 = .ok (.iload_n 2, 1) := by decide +kernel
theorem dX12_hang_10 : decode cX12_hang 10 = .ok (.invokevirtual 303, 3) := by decide +kernel
theorem dX12_hang_13 : decode cX12_hang 13 = .ok (.ifCond .eq 12, 3) := by decide +kernel
theorem dX12_hang_16 : decode cX12_hang 16 = .ok (.aload_n 0, 1) := by decide +kernel
theorem dX12_hang_17 : decode cX12_hang 17 = .ok (.getfield 22, 3) := by decide +kernel
theorem dX12_hang_20 : decode cX12_hang 20 = .ok (.iload_n 2, 1) := by decide +kernel
theorem dX12_hang_21 : decode cX12_hang 21 = .ok (.baload, 1) := by decide +kernel
theorem dX12_hang_22 : decode cX12_hang 22 = .ok (.ifCond .eq 6, 3) := by decide +kernel
theorem dX12_hang_25 : decode cX12_hang 25 = .ok (.bipush (-2), 2) := by decide +kernel
theorem dX12_hang_27 : decode cX12_hang 27 = .ok (.ireturn, 1) := by decide +kernel
theorem dX12_hang_28 : decode cX12_hang 28 = .ok (.aload_n 0, 1) := by decide +kernel
theorem dX12_hang_29 : decode cX12_hang 29 = .ok (.iload_n 1, 1) := by decide +kernel
theorem dX12_hang_30 : decode cX12_hang 30 = .ok (.invokevirtual 382, 3) := by decide +kernel
theorem dX12_hang_33 : decode cX12_hang 33 = .ok (.aload_n 0, 1) := by decide +kernel
theorem dX12_hang_34 : decode cX12_hang 34 = .ok (.invokevirtual 462, 3) := by decide +kernel
theorem dX12_hang_37 : decode cX12_hang 37 = .ok (.aload_n 0, 1) := by decide +kernel
theorem dX12_hang_38 : decode cX12_hang 38 = .ok (.iload_n 2, 1) := by decide +kernel
theorem dX12_hang_39 : decode cX12_hang 39 = .ok (.putfield 78, 3) := by decide +kernel
theorem dX12_hang_42 : decode cX12_hang 42 = .ok (.aload_n 0, 1) := by decide +kernel
theorem dX12_hang_43 : decode cX12_hang 43 = .ok (.iload_n 1, 1) := by decide +kernel
theorem dX12_hang_44 : decode cX12_hang 44 = .ok (.invokevirtual 382, 3) := by decide +kernel
theorem dX12_hang_47 : decode cX12_hang 47 = .ok (.aload_n 0, 1) := by decide +kernel
theorem dX12_hang_48 : decode cX12_hang 48 = .ok (.iconst (-1), 1) := by decide +kernel
theorem dX12_hang_49 : decode cX12_hang 49 = .ok (.putfield 78, 3) := by decide +kernel
theorem dX12_hang_52 : decode cX12_hang 52 = .ok (.aload_n 0, 1) := by decide +kernel
theorem dX12_hang_53 : decode cX12_hang 53 = .ok (.invokevirtual 465, 3) := by decide +kernel
theorem dX12_hang_56 : decode cX12_hang 56 = .ok (.ireturn, 1) := by decide +kernel
abbrev pb_sX12_hang (dC : Nat → ClassId) (dI : Nat → Nat → Nat) (A9 : Nat → Prop) (h0 : Nat) (mi : Nat → Int32) (mr : Nat → Nat) (km : Nat → ClassId) (fm_must : Nat → Int32) (fm_least : Nat → Int32) (fm_pin : Nat → Int32) (fm_ways : Nat → Int32) (fm_verdict : Nat → Int32) (fm_row : Nat → Int32) (fm_struck : Nat → Int32) (fm_reportKnown : Nat → Int32) (fm_reportPlace : Nat → Int32) (fm_reportMonth : Nat → Int32) (fm_reportDay : Nat → Int32) (fm_reportKind : Nat → Int32) (fm_trust : Nat → Int32) (fm_letter : Nat → Int32) (fm_official : Nat → Int32) (fm_aside : Nat → Int32) (fm_deedMonth : Nat → Int32) (fm_deedDay : Nat → Int32) (fm_deedLong : Nat → Int32) (fm_deedKind : Nat → Int32) (fm_kept : Nat → Int32) (fm_tape : Nat → Int32) (fm_worth : Nat → Int32) (fm_out : Nat → Int32) (p1 : Int32) (p2 : Int32) (w0_37 : Int32) (w0_41 : Int32) (w0_43 : Int32) (z1 : Nat → Int32) (z2 : Nat → Int32) (z3 : Nat → Int32) (z4 : Nat → Int32) (z5 : Nat → Int32) (z6 : Nat → Int32) (z15 : Nat → Int32) (z16 : Nat → Int32) (t : State) : Prop := gi w0_37 0 1 ∧ gi w0_41 0 24 ∧ ga z6 24 0 23 ∧ va_P (dC, dI) vwCl (MWn h0 mr km (mi 0) (mi 1) (mi 2) (mi 3) (mi 4) (mi 5) (mi 6) (mi 7) (mi 10) (mi 17) (mi 23) (mi 24) (mi 26) (mi 27) (mi 28) (mi 29) (mi 30) (mi 31) (mi 32) (mi 33) w0_37 w0_41 (mi 42) w0_43 (mi 44) (mi 45) (mi 47) (mi 48) (mi 49) (mi 50) (mi 51) (mi 54) (mi 56) fm_trust fm_letter fm_reportPlace fm_reportKind fm_struck fm_reportMonth fm_reportDay fm_reportKnown fm_deedMonth fm_deedDay fm_deedLong fm_deedKind fm_kept fm_tape z1 z2 z3 z4 z5 z6 z15 z16 fm_worth fm_out) t.heap ∧ va_D A9 (MWn h0 mr km (mi 0) (mi 1) (mi 2) (mi 3) (mi 4) (mi 5) (mi 6) (mi 7) (mi 10) (mi 17) (mi 23) (mi 24) (mi 26) (mi 27) (mi 28) (mi 29) (mi 30) (mi 31) (mi 32) (mi 33) w0_37 w0_41 (mi 42) w0_43 (mi 44) (mi 45) (mi 47) (mi 48) (mi 49) (mi 50) (mi 51) (mi 54) (mi 56) fm_trust fm_letter fm_reportPlace fm_reportKind fm_struck fm_reportMonth fm_reportDay fm_reportKnown fm_deedMonth fm_deedDay fm_deedLong fm_deedKind fm_kept fm_tape z1 z2 z3 z4 z5 z6 z15 z16 fm_worth fm_out)
set_option maxHeartbeats 4000000 in
set_option maxRecDepth 100000 in
theorem sX12_hang (l : Launch) (dC : Nat → ClassId) (dI : Nat → Nat → Nat) (sz : Nat) (h0 : Nat) (mi : Nat → Int32) (mr : Nat → Nat) (km : Nat → ClassId) (fm_must : Nat → Int32) (fm_least : Nat → Int32) (fm_pin : Nat → Int32) (fm_ways : Nat → Int32) (fm_verdict : Nat → Int32) (fm_row : Nat → Int32) (fm_struck : Nat → Int32) (fm_reportKnown : Nat → Int32) (fm_reportPlace : Nat → Int32) (fm_reportMonth : Nat → Int32) (fm_reportDay : Nat → Int32) (fm_reportKind : Nat → Int32) (fm_trust : Nat → Int32) (fm_letter : Nat → Int32) (fm_official : Nat → Int32) (fm_aside : Nat → Int32) (fm_deedMonth : Nat → Int32) (fm_deedDay : Nat → Int32) (fm_deedLong : Nat → Int32) (fm_deedKind : Nat → Int32) (fm_kept : Nat → Int32) (fm_tape : Nat → Int32) (fm_worth : Nat → Int32) (fm_out : Nat → Int32) (p1 : Int32) (p2 : Int32) (gmi_0 : gi (mi 0) 0 24) (gmi_1 : gi (mi 1) 0 5) (gmi_2 : gi (mi 2) 0 5) (gmi_4 : gi (mi 4) 0 1) (gmi_7 : gi (mi 7) 0 6) (gmi_10 : gi (mi 10) 0 24) (gmi_17 : gi (mi 17) 0 8) (gmi_23 : gi (mi 23) 0 300) (gmi_24 : gi (mi 24) 0 1) (gmi_26 : gi (mi 26) 0 1600) (gmi_29 : gi (mi 29) 0 1600) (gmi_30 : gi (mi 30) 0 1600) (gmi_33 : gi (mi 33) 0 1) (gmi_37 : gi (mi 37) 0 1) (gmi_41 : gi (mi 41) 0 24) (gmi_50 : gi (mi 50) 0 1) (gmi_51 : gi (mi 51) 0 1) (gmi_56 : gi (mi 56) 0 80) (gfm_row : ga fm_row 24 0 23) (gfm_struck : ga fm_struck 24 0 1) (gfm_reportKnown : ga fm_reportKnown 24 0 999) (gfm_reportPlace : ga fm_reportPlace 24 0 5) (gfm_reportMonth : ga fm_reportMonth 24 0 23) (gfm_reportDay : ga fm_reportDay 24 0 999) : Met l yX12_hang (.code yX12_hang cX12_hang 3 (some .int) :: wsGB) ({ frames := 6, cells := 0, slots := 0, locals := 140 }) (va_Pc [.ref h0, .int p1, .int p2] (fun U => U.heap.size = sz ∧ va_P (dC, dI) vwCl (MWn h0 mr km (mi 0) (mi 1) (mi 2) (mi 3) (mi 4) (mi 5) (mi 6) (mi 7) (mi 10) (mi 17) (mi 23) (mi 24) (mi 26) (mi 27) (mi 28) (mi 29) (mi 30) (mi 31) (mi 32) (mi 33) (mi 37) (mi 41) (mi 42) (mi 43) (mi 44) (mi 45) (mi 47) (mi 48) (mi 49) (mi 50) (mi 51) (mi 54) (mi 56) fm_trust fm_letter fm_reportPlace fm_reportKind fm_struck fm_reportMonth fm_reportDay fm_reportKnown fm_deedMonth fm_deedDay fm_deedLong fm_deedKind fm_kept fm_tape fm_must fm_least fm_pin fm_ways fm_verdict fm_row fm_official fm_aside fm_worth fm_out) U.heap ∧ va_K (dC, dI) vwCl (MT km) U ∧ va_D (fun _ => True) (MWn h0 mr km (mi 0) (mi 1) (mi 2) (mi 3) (mi 4) (mi 5) (mi 6) (mi 7) (mi 10) (mi 17) (mi 23) (mi 24) (mi 26) (mi 27) (mi 28) (mi 29) (mi 30) (mi 31) (mi 32) (mi 33) (mi 37) (mi 41) (mi 42) (mi 43) (mi 44) (mi 45) (mi 47) (mi 48) (mi 49) (mi 50) (mi 51) (mi 54) (mi 56) fm_trust fm_letter fm_reportPlace fm_reportKind fm_struck fm_reportMonth fm_reportDay fm_reportKnown fm_deedMonth fm_deedDay fm_deedLong fm_deedKind fm_kept fm_tape fm_must fm_least fm_pin fm_ways fm_verdict fm_row fm_official fm_aside fm_worth fm_out))) (va_Qi (fun (r : Int32) (u : Unit) => gi r (-2147483648) 2147483647) (fun _ t => ∃ (w0_37 : Int32) (w0_41 : Int32) (w0_43 : Int32) (z1 : Nat → Int32) (z2 : Nat → Int32) (z3 : Nat → Int32) (z4 : Nat → Int32) (z5 : Nat → Int32) (z6 : Nat → Int32) (z15 : Nat → Int32) (z16 : Nat → Int32), pb_sX12_hang dC dI (va_A (MWn h0 mr km (mi 0) (mi 1) (mi 2) (mi 3) (mi 4) (mi 5) (mi 6) (mi 7) (mi 10) (mi 17) (mi 23) (mi 24) (mi 26) (mi 27) (mi 28) (mi 29) (mi 30) (mi 31) (mi 32) (mi 33) (mi 37) (mi 41) (mi 42) (mi 43) (mi 44) (mi 45) (mi 47) (mi 48) (mi 49) (mi 50) (mi 51) (mi 54) (mi 56) fm_trust fm_letter fm_reportPlace fm_reportKind fm_struck fm_reportMonth fm_reportDay fm_reportKnown fm_deedMonth fm_deedDay fm_deedLong fm_deedKind fm_kept fm_tape fm_must fm_least fm_pin fm_ways fm_verdict fm_row fm_official fm_aside fm_worth fm_out) sz) h0 mi mr km fm_must fm_least fm_pin fm_ways fm_verdict fm_row fm_struck fm_reportKnown fm_reportPlace fm_reportMonth fm_reportDay fm_reportKind fm_trust fm_letter fm_official fm_aside fm_deedMonth fm_deedDay fm_deedLong fm_deedKind fm_kept fm_tape fm_worth fm_out p1 p2 w0_37 w0_41 w0_43 z1 z2 z3 z4 z5 z6 z15 z16 t) (va_A (MWn h0 mr km (mi 0) (mi 1) (mi 2) (mi 3) (mi 4) (mi 5) (mi 6) (mi 7) (mi 10) (mi 17) (mi 23) (mi 24) (mi 26) (mi 27) (mi 28) (mi 29) (mi 30) (mi 31) (mi 32) (mi 33) (mi 37) (mi 41) (mi 42) (mi 43) (mi 44) (mi 45) (mi 47) (mi 48) (mi 49) (mi 50) (mi 51) (mi 54) (mi 56) fm_trust fm_letter fm_reportPlace fm_reportKind fm_struck fm_reportMonth fm_reportDay fm_reportKnown fm_deedMonth fm_deedDay fm_deedLong fm_deedKind fm_kept fm_tape fm_must fm_least fm_pin fm_ways fm_verdict fm_row fm_official fm_aside fm_worth fm_out) sz)) 0 0 (va_A (MWn h0 mr km (mi 0) (mi 1) (mi 2) (mi 3) (mi 4) (mi 5) (mi 6) (mi 7) (mi 10) (mi 17) (mi 23) (mi 24) (mi 26) (mi 27) (mi 28) (mi 29) (mi 30) (mi 31) (mi 32) (mi 33) (mi 37) (mi 41) (mi 42) (mi 43) (mi 44) (mi 45) (mi 47) (mi 48) (mi 49) (mi 50) (mi 51) (mi 54) (mi 56) fm_trust fm_letter fm_reportPlace fm_reportKind fm_struck fm_reportMonth fm_reportDay fm_reportKnown fm_deedMonth fm_deedDay fm_deedLong fm_deedKind fm_kept fm_tape fm_must fm_least fm_pin fm_ways fm_verdict fm_row fm_official fm_aside fm_worth fm_out) sz) := by
  refine Met.ofW (cc := cX12_hang) (maxL := 3) (ret := (some .int)) (by decide) rfl ?_
  intro p e s m args below meth c s₁ B hml hv
  obtain ⟨rfl, hsz, hP, hK, hD0⟩ := hv
  have hx := B.exec
  have hb := B.bytes
  have hr := B.returns
  have hts := atoms_spec (ws := (.code yX12_hang cX12_hang 3 (some .int) :: wsGB)) B.pre
  have hown : s.vm.findClass RX12 = some m.cls := findClass_of_methodNamed B.named
  have hlocks := B.notSynchronized
  subst hsz
  have hD := hD0.self (sz := s.heap.size)
  generalize hAe : va_A (MWn h0 mr km (mi 0) (mi 1) (mi 2) (mi 3) (mi 4) (mi 5) (mi 6) (mi 7) (mi 10) (mi 17) (mi 23) (mi 24) (mi 26) (mi 27) (mi 28) (mi 29) (mi 30) (mi 31) (mi 32) (mi 33) (mi 37) (mi 41) (mi 42) (mi 43) (mi 44) (mi 45) (mi 47) (mi 48) (mi 49) (mi 50) (mi 51) (mi 54) (mi 56) fm_trust fm_letter fm_reportPlace fm_reportKind fm_struck fm_reportMonth fm_reportDay fm_reportKnown fm_deedMonth fm_deedDay fm_deedLong fm_deedKind fm_kept fm_tape fm_must fm_least fm_pin fm_ways fm_verdict fm_row fm_official fm_aside fm_worth fm_out) s.heap.size = A at hD ⊢
  have hA : ∀ q : Nat, s.heap.size ≤ q → A q := fun q h => by rw [← hAe]; exact Or.inr h
  have hS : va_S A s.heap s.heap [] := va_S.rf
  have hl := lv_entry ([.ref h0, .int p1, .int p2]) (n := 3) (Nat.le_of_ble_eq_true rfl)
  rw [lg_entry_eq]
  generalize (lg_sl ([.ref h0, .int p1, .int p2]) ++ List.replicate (3 - (lg_sl ([.ref h0, .int p1, .int p2])).length) Slot.unset).toArray = ls at hl ⊢
  have hl : lv_has ls 3 [(0, .ref h0), (1, .int p1), (2, .int p2)] := hl
  refine lv_aload_n hx hb dX12_hang_0 rfl (lv_at hl 0 rfl) ?_
  refine lv_iload_n hx hb dX12_hang_1 rfl (lv_at hl 1 rfl) ?_
  refine va_calli (va_runV (As := [.int p1]) (rest := []) ⟨hx, hb, hml, hown, hts⟩ (sX12_isTime l dC dI h0 mi mr km fm_trust fm_letter fm_reportPlace fm_reportKind fm_struck fm_reportMonth fm_reportDay fm_reportKnown fm_deedMonth fm_deedDay fm_deedLong fm_deedKind fm_kept fm_tape fm_must fm_least fm_pin fm_ways fm_verdict fm_row fm_official fm_aside fm_worth fm_out p1 gmi_0 gmi_1 gmi_2 gmi_4 gmi_7 gmi_10 gmi_17 gmi_23 gmi_24 gmi_26 gmi_29 gmi_30 gmi_33 gmi_37 gmi_41 gmi_50 gmi_51 gmi_56) (cwV 1 hts (gz_gV mGB_256 mGB_257 mGB_258 mGB_1 mGB_259 goodGB) rfl rfl rfl (by decide +kernel) ⟨Nat.le_of_ble_eq_true rfl, Nat.le_of_ble_eq_true rfl⟩) ⟨bl_R, mw_recv hK hP, fun U hU hW => ⟨rfl, by rw [hU]; exact hP, va_K.moved hW.alike hK⟩⟩ rfl rfl hl.1 rfl (lv_room (Nat.le_of_ble_eq_true rfl)) dX12_hang_2 ⟨Nat.zero_le _, Nat.zero_le _⟩) hS (fun q _ h => h.elim) (fun q h => h.elim) (fun r_75 u t H1 locs ht hvm hw hB hz1 hk1 hS => ?_)
  obtain ⟨hw, hE⟩ := hw
  have hP := gz_keep hP hk1
  generalize H1 = H at hP hS ⊢
  have gr_75 : gi r_75 0 1 := hw.1
  have hqr_75 := hw.2
  refine lv_if_eq (tgt := 25) hx hb dX12_hang_5 (by decide) (fun c_76 => ?_) (fun c_76 => ?_)
  · have g_77 : gi r_75 0 0 := gi_eq c_76 (gi_c 0 0 (by decide))
    refine lv_bipush (v := (-2)) hx hb dX12_hang_25 (by decide) ?_
    exact W.iret (v := (-2)) hx hb hr (fun t ht hW => ⟨⟨(-2), (), rfl, (gi_any (-2)), (mi 37), (mi 41), (mi 43), fm_must, fm_least, fm_pin, fm_ways, fm_verdict, fm_row, fm_official, fm_aside, gmi_37, gmi_41, gfm_row, by rw [ht]; exact hP, hD⟩, hS.F ht⟩) hS.2.2 dX12_hang_27
  · have g_78 : gi r_75 1 1 := gi_ne_lo c_76 gr_75 (gi_c 0 0 (by decide)) (by decide)
    have g_79 : gi p1 0 999 := gi_cap (gi_any p1) (hqr_75 (gz_one g_78)) (by decide)
    refine lv_aload_n hx hb dX12_hang_8 rfl (lv_at hl 0 rfl) ?_
    refine lv_iload_n hx hb dX12_hang_9 rfl (lv_at hl 2 rfl) ?_
    refine va_calli (va_runV (As := [.int p2]) (rest := []) ⟨hx, hb, hml, hown, hts⟩ (sX12_isReport l dC dI h0 mi mr km fm_trust fm_letter fm_reportPlace fm_reportKind fm_struck fm_reportMonth fm_reportDay fm_reportKnown fm_deedMonth fm_deedDay fm_deedLong fm_deedKind fm_kept fm_tape fm_must fm_least fm_pin fm_ways fm_verdict fm_row fm_official fm_aside fm_worth fm_out p2 gmi_0 gmi_1 gmi_2 gmi_4 gmi_7 gmi_10 gmi_17 gmi_23 gmi_24 gmi_26 gmi_29 gmi_30 gmi_33 gmi_37 gmi_41 gmi_50 gmi_51 gmi_56) (cwV 1 hts (gz_gV mGB_235 mGB_236 mGB_237 mGB_1 mGB_238 goodGB) rfl rfl rfl (by decide +kernel) ⟨Nat.le_of_ble_eq_true rfl, Nat.le_of_ble_eq_true rfl⟩) ⟨bl_R, mw_recv hK hP, fun U hU hW => ⟨rfl, by rw [hU]; exact hP, va_K.moved hW.alike hK⟩⟩ rfl rfl hl.1 rfl (lv_room (Nat.le_of_ble_eq_true rfl)) dX12_hang_10 ⟨Nat.zero_le _, Nat.zero_le _⟩) hS (fun q _ h => h.elim) (fun q h => h.elim) (fun r_80 u t H1 locs ht hvm hw hB hz1 hk1 hS => ?_)
    obtain ⟨hw, hE⟩ := hw
    have hP := gz_keep hP hk1
    generalize H1 = H at hP hS ⊢
    have gr_80 : gi r_80 0 1 := hw.1
    have hqr_80 := hw.2
    refine lv_if_eq (tgt := 25) hx hb dX12_hang_13 (by decide) (fun c_81 => ?_) (fun c_81 => ?_)
    · have g_82 : gi r_80 0 0 := gi_eq c_81 (gi_c 0 0 (by decide))
      refine lv_bipush (v := (-2)) hx hb dX12_hang_25 (by decide) ?_
      exact W.iret (v := (-2)) hx hb hr (fun t ht hW => ⟨⟨(-2), (), rfl, (gi_any (-2)), (mi 37), (mi 41), (mi 43), fm_must, fm_least, fm_pin, fm_ways, fm_verdict, fm_row, fm_official, fm_aside, gmi_37, gmi_41, gfm_row, by rw [ht]; exact hP, hD⟩, hS.F ht⟩) hS.2.2 dX12_hang_27
    · have g_83 : gi r_80 1 1 := gi_ne_lo c_81 gr_80 (gi_c 0 0 (by decide)) (by decide)
      have g_84 : gi p2 0 23 := gi_cap (gi_any p2) (hqr_80 (gz_one g_83)) (by decide)
      refine lv_aload_n hx hb dX12_hang_16 rfl (lv_at hl 0 rfl) ?_
      refine va_get (D := (dC, dI)) (ci := 12) (v := .ref (mr 4)) (C := RX12) (T := TX12) (N := 57) hx hb hts (fun w h => List.mem_cons_of_mem _ (jnGB_X12 w h)) hown hK hP 0 rfl rfl 13 (by decide) (hts _ (List.mem_cons_of_mem _ mGB_15)) (fun _ h9 => h9) rfl dX12_hang_17 ?_
      refine lv_iload_n hx hb dX12_hang_20 rfl (lv_at hl 2 rfl) ?_
      refine va_zald hx hb hK hP 5 4 rfl rfl (gi_in g_84 (by decide)) dX12_hang_21 ?_
      refine lv_topi (fun x_85 ex_85 => ?_)
      have gx_85 : gi x_85 0 1 := ga_at gfm_struck (gi_in g_84 (by decide)) ex_85
      refine lv_if_eq (tgt := 28) hx hb dX12_hang_22 (by decide) (fun c_86 => ?_) (fun c_86 => ?_)
      · have g_87 : gi x_85 0 0 := gi_eq c_86 (gi_c 0 0 (by decide))
        refine lv_aload_n hx hb dX12_hang_28 rfl (lv_at hl 0 rfl) ?_
        refine lv_iload_n hx hb dX12_hang_29 rfl (lv_at hl 1 rfl) ?_
        have hFc := gz_fullF hD hS hA
        refine va_callv (va_runV (As := [.int p1]) (rest := []) ⟨hx, hb, hml, hown, hts⟩ (sX12_officialBy l dC dI H.size h0 mi mr km fm_must fm_least fm_pin fm_ways fm_verdict fm_row fm_struck fm_reportKnown fm_reportPlace fm_reportMonth fm_reportDay fm_reportKind fm_trust fm_letter fm_official fm_deedMonth fm_deedDay fm_deedLong fm_deedKind fm_kept fm_tape fm_aside fm_worth fm_out p1 gmi_0 gmi_1 gmi_2 gmi_4 gmi_7 gmi_10 gmi_17 gmi_23 gmi_24 gmi_26 gmi_29 gmi_30 gmi_33 gmi_37 gmi_41 gmi_50 gmi_51 gmi_56 gfm_row gfm_struck gfm_reportKnown gfm_reportPlace gfm_reportMonth gfm_reportDay) (cwV 1 hts (gz_gV mGB_358 mGB_359 mGB_360 mGB_1 mGB_361 goodGB) rfl rfl rfl (by decide +kernel) ⟨Nat.le_of_ble_eq_true rfl, Nat.le_of_ble_eq_true rfl⟩) ⟨bl_W, mw_recv hK hP, fun U hU hW => ⟨rfl, by rw [hU], by rw [hU]; exact hP, va_K.moved hW.alike hK, hD.weaken (fun _ _ _ _ => trivial)⟩⟩ rfl rfl hl.1 rfl (lv_room (Nat.le_of_ble_eq_true rfl)) dX12_hang_30 ⟨Nat.zero_le _, Nat.zero_le _⟩) hS (fun q _ h => hFc q h) hFc (fun u t H1 locs ht hvm hw hB hz1 hk1 hS => ?_)
        obtain ⟨y_89, y_90, f_91, f_92, f_93, f_94, f_95, f_96, f_97, hB⟩ := hB
        obtain ⟨gy_89, gy_90, gf_96, hP1, hD1⟩ := hB
        rw [ht] at hP1
        have hD : va_D A (MWn h0 mr km (mi 0) (mi 1) (mi 2) (mi 3) (mi 4) (mi 5) (mi 6) (mi 7) (mi 10) (mi 17) (mi 23) (mi 24) (mi 26) (mi 27) (mi 28) (mi 29) (mi 30) (mi 31) (mi 32) (mi 33) y_89 y_90 (mi 42) (mi 43) (mi 44) (mi 45) (mi 47) (mi 48) (mi 49) (mi 50) (mi 51) (mi 54) (mi 56) fm_trust fm_letter fm_reportPlace fm_reportKind fm_struck fm_reportMonth fm_reportDay fm_reportKnown fm_deedMonth fm_deedDay fm_deedLong fm_deedKind fm_kept fm_tape f_91 f_92 f_93 f_94 f_95 f_96 f_97 fm_aside fm_worth fm_out) := gz_fullD hFc hD1
        have hP : va_P (dC, dI) vwCl (MWn h0 mr km (mi 0) (mi 1) (mi 2) (mi 3) (mi 4) (mi 5) (mi 6) (mi 7) (mi 10) (mi 17) (mi 23) (mi 24) (mi 26) (mi 27) (mi 28) (mi 29) (mi 30) (mi 31) (mi 32) (mi 33) y_89 y_90 (mi 42) (mi 43) (mi 44) (mi 45) (mi 47) (mi 48) (mi 49) (mi 50) (mi 51) (mi 54) (mi 56) fm_trust fm_letter fm_reportPlace fm_reportKind fm_struck fm_reportMonth fm_reportDay fm_reportKnown fm_deedMonth fm_deedDay fm_deedLong fm_deedKind fm_kept fm_tape f_91 f_92 f_93 f_94 f_95 f_96 f_97 fm_aside fm_worth fm_out) H1 := hP1
        generalize H1 = H at hP hS ⊢
        refine lv_aload_n hx hb dX12_hang_33 rfl (lv_at hl 0 rfl) ?_
        have hFc := gz_fullF hD hS hA
        refine va_callv (va_runV (As := []) (rest := []) ⟨hx, hb, hml, hown, hts⟩ (sX12_keepsOfficial l dC dI H.size h0 (upd (upd mi 37 y_89) 41 y_90) mr km f_97 fm_aside fm_trust fm_letter fm_reportPlace fm_reportKind fm_struck fm_reportMonth fm_reportDay fm_reportKnown fm_deedMonth fm_deedDay fm_deedLong fm_deedKind fm_kept fm_tape f_91 f_92 f_93 f_94 f_95 f_96 fm_worth fm_out gmi_0 gmi_1 gmi_2 gmi_4 gmi_7 gmi_10 gmi_17 gmi_23 gmi_24 gmi_26 gmi_29 gmi_30 gmi_33 gy_89 gy_90 gmi_50 gmi_51 gmi_56) (cwV 0 hts (gz_gV mGB_517 mGB_518 mGB_519 mGB_1 mGB_520 goodGB) rfl rfl rfl (by decide +kernel) ⟨Nat.le_of_ble_eq_true rfl, Nat.le_of_ble_eq_true rfl⟩) ⟨bl_W, mw_recv hK hP, fun U hU hW => ⟨rfl, by rw [hU], by rw [hU]; exact hP, va_K.moved hW.alike hK, hD.weaken (fun _ _ _ _ => trivial)⟩⟩ rfl rfl hl.1 rfl (lv_room (Nat.le_of_ble_eq_true rfl)) dX12_hang_34 ⟨Nat.zero_le _, Nat.zero_le _⟩) hS (fun q _ h => hFc q h) hFc (fun u t H1 locs ht hvm hw hB hz1 hk1 hS => ?_)
        obtain ⟨f_99, hB⟩ := hB
        obtain ⟨hP1, hD1⟩ := hB
        rw [ht] at hP1
        have hD : va_D A (MWn h0 mr km (mi 0) (mi 1) (mi 2) (mi 3) (mi 4) (mi 5) (mi 6) (mi 7) (mi 10) (mi 17) (mi 23) (mi 24) (mi 26) (mi 27) (mi 28) (mi 29) (mi 30) (mi 31) (mi 32) (mi 33) y_89 y_90 (mi 42) (mi 43) (mi 44) (mi 45) (mi 47) (mi 48) (mi 49) (mi 50) (mi 51) (mi 54) (mi 56) fm_trust fm_letter fm_reportPlace fm_reportKind fm_struck fm_reportMonth fm_reportDay fm_reportKnown fm_deedMonth fm_deedDay fm_deedLong fm_deedKind fm_kept fm_tape f_91 f_92 f_93 f_94 f_95 f_96 f_97 f_99 fm_worth fm_out) := gz_fullD hFc hD1
        have hP : va_P (dC, dI) vwCl (MWn h0 mr km (mi 0) (mi 1) (mi 2) (mi 3) (mi 4) (mi 5) (mi 6) (mi 7) (mi 10) (mi 17) (mi 23) (mi 24) (mi 26) (mi 27) (mi 28) (mi 29) (mi 30) (mi 31) (mi 32) (mi 33) y_89 y_90 (mi 42) (mi 43) (mi 44) (mi 45) (mi 47) (mi 48) (mi 49) (mi 50) (mi 51) (mi 54) (mi 56) fm_trust fm_letter fm_reportPlace fm_reportKind fm_struck fm_reportMonth fm_reportDay fm_reportKnown fm_deedMonth fm_deedDay fm_deedLong fm_deedKind fm_kept fm_tape f_91 f_92 f_93 f_94 f_95 f_96 f_97 f_99 fm_worth fm_out) H1 := hP1
        generalize H1 = H at hP hS ⊢
        refine lv_aload_n hx hb dX12_hang_37 rfl (lv_at hl 0 rfl) ?_
        refine lv_iload_n hx hb dX12_hang_38 rfl (lv_at hl 2 rfl) ?_
        refine va_put (D := (dC, dI)) (ci := 12) (v := .int p2) (ty := .int) (C := RX12) (T := TX12) (N := 57) hx hb hts (fun w h => List.mem_cons_of_mem _ (jnGB_X12 w h)) tyX12 tyX12_ok nmX12 hown hK hP hD hS 0 rfl rfl 43 (by decide) (hts _ (List.mem_cons_of_mem _ mGB_33)) (fun _ h9 => h9) rfl (by decide +kernel) rfl rfl (Nat.le_of_ble_eq_true rfl) dX12_hang_39 (fun H locs hP hD hS => ?_)
        have hP : va_P (dC, dI) vwCl (MWn h0 mr km (mi 0) (mi 1) (mi 2) (mi 3) (mi 4) (mi 5) (mi 6) (mi 7) (mi 10) (mi 17) (mi 23) (mi 24) (mi 26) (mi 27) (mi 28) (mi 29) (mi 30) (mi 31) (mi 32) (mi 33) y_89 y_90 (mi 42) p2 (mi 44) (mi 45) (mi 47) (mi 48) (mi 49) (mi 50) (mi 51) (mi 54) (mi 56) fm_trust fm_letter fm_reportPlace fm_reportKind fm_struck fm_reportMonth fm_reportDay fm_reportKnown fm_deedMonth fm_deedDay fm_deedLong fm_deedKind fm_kept fm_tape f_91 f_92 f_93 f_94 f_95 f_96 f_97 f_99 fm_worth fm_out) H := hP
        have hD : va_D A (MWn h0 mr km (mi 0) (mi 1) (mi 2) (mi 3) (mi 4) (mi 5) (mi 6) (mi 7) (mi 10) (mi 17) (mi 23) (mi 24) (mi 26) (mi 27) (mi 28) (mi 29) (mi 30) (mi 31) (mi 32) (mi 33) y_89 y_90 (mi 42) p2 (mi 44) (mi 45) (mi 47) (mi 48) (mi 49) (mi 50) (mi 51) (mi 54) (mi 56) fm_trust fm_letter fm_reportPlace fm_reportKind fm_struck fm_reportMonth fm_reportDay fm_reportKnown fm_deedMonth fm_deedDay fm_deedLong fm_deedKind fm_kept fm_tape f_91 f_92 f_93 f_94 f_95 f_96 f_97 f_99 fm_worth fm_out) := hD
        refine lv_aload_n hx hb dX12_hang_42 rfl (lv_at hl 0 rfl) ?_
        refine lv_iload_n hx hb dX12_hang_43 rfl (lv_at hl 1 rfl) ?_
        have hFc := gz_fullF hD hS hA
        refine va_callv (va_runV (As := [.int p1]) (rest := []) ⟨hx, hb, hml, hown, hts⟩ (sX12_officialBy l dC dI H.size h0 (upd (upd (upd mi 37 y_89) 41 y_90) 43 p2) mr km f_91 f_92 f_93 f_94 f_95 f_96 fm_struck fm_reportKnown fm_reportPlace fm_reportMonth fm_reportDay fm_reportKind fm_trust fm_letter f_97 fm_deedMonth fm_deedDay fm_deedLong fm_deedKind fm_kept fm_tape f_99 fm_worth fm_out p1 gmi_0 gmi_1 gmi_2 gmi_4 gmi_7 gmi_10 gmi_17 gmi_23 gmi_24 gmi_26 gmi_29 gmi_30 gmi_33 gy_89 gy_90 gmi_50 gmi_51 gmi_56 gf_96 gfm_struck gfm_reportKnown gfm_reportPlace gfm_reportMonth gfm_reportDay) (cwV 1 hts (gz_gV mGB_358 mGB_359 mGB_360 mGB_1 mGB_361 goodGB) rfl rfl rfl (by decide +kernel) ⟨Nat.le_of_ble_eq_true rfl, Nat.le_of_ble_eq_true rfl⟩) ⟨bl_W, mw_recv hK hP, fun U hU hW => ⟨rfl, by rw [hU], by rw [hU]; exact hP, va_K.moved hW.alike hK, hD.weaken (fun _ _ _ _ => trivial)⟩⟩ rfl rfl hl.1 rfl (lv_room (Nat.le_of_ble_eq_true rfl)) dX12_hang_44 ⟨Nat.zero_le _, Nat.zero_le _⟩) hS (fun q _ h => hFc q h) hFc (fun u t H1 locs ht hvm hw hB hz1 hk1 hS => ?_)
        obtain ⟨y_101, y_102, f_103, f_104, f_105, f_106, f_107, f_108, f_109, hB⟩ := hB
        obtain ⟨gy_101, gy_102, gf_108, hP1, hD1⟩ := hB
        rw [ht] at hP1
        have hD : va_D A (MWn h0 mr km (mi 0) (mi 1) (mi 2) (mi 3) (mi 4) (mi 5) (mi 6) (mi 7) (mi 10) (mi 17) (mi 23) (mi 24) (mi 26) (mi 27) (mi 28) (mi 29) (mi 30) (mi 31) (mi 32) (mi 33) y_101 y_102 (mi 42) p2 (mi 44) (mi 45) (mi 47) (mi 48) (mi 49) (mi 50) (mi 51) (mi 54) (mi 56) fm_trust fm_letter fm_reportPlace fm_reportKind fm_struck fm_reportMonth fm_reportDay fm_reportKnown fm_deedMonth fm_deedDay fm_deedLong fm_deedKind fm_kept fm_tape f_103 f_104 f_105 f_106 f_107 f_108 f_109 f_99 fm_worth fm_out) := gz_fullD hFc hD1
        have hP : va_P (dC, dI) vwCl (MWn h0 mr km (mi 0) (mi 1) (mi 2) (mi 3) (mi 4) (mi 5) (mi 6) (mi 7) (mi 10) (mi 17) (mi 23) (mi 24) (mi 26) (mi 27) (mi 28) (mi 29) (mi 30) (mi 31) (mi 32) (mi 33) y_101 y_102 (mi 42) p2 (mi 44) (mi 45) (mi 47) (mi 48) (mi 49) (mi 50) (mi 51) (mi 54) (mi 56) fm_trust fm_letter fm_reportPlace fm_reportKind fm_struck fm_reportMonth fm_reportDay fm_reportKnown fm_deedMonth fm_deedDay fm_deedLong fm_deedKind fm_kept fm_tape f_103 f_104 f_105 f_106 f_107 f_108 f_109 f_99 fm_worth fm_out) H1 := hP1
        generalize H1 = H at hP hS ⊢
        refine lv_aload_n hx hb dX12_hang_47 rfl (lv_at hl 0 rfl) ?_
        refine lv_iconst (v := (-1)) hx hb dX12_hang_48 (by decide) ?_
        refine va_put (D := (dC, dI)) (ci := 12) (v := .int (-1)) (ty := .int) (C := RX12) (T := TX12) (N := 57) hx hb hts (fun w h => List.mem_cons_of_mem _ (jnGB_X12 w h)) tyX12 tyX12_ok nmX12 hown hK hP hD hS 0 rfl rfl 43 (by decide) (hts _ (List.mem_cons_of_mem _ mGB_33)) (fun _ h9 => h9) rfl (by decide +kernel) rfl rfl (Nat.le_of_ble_eq_true rfl) dX12_hang_49 (fun H locs hP hD hS => ?_)
        have hP : va_P (dC, dI) vwCl (MWn h0 mr km (mi 0) (mi 1) (mi 2) (mi 3) (mi 4) (mi 5) (mi 6) (mi 7) (mi 10) (mi 17) (mi 23) (mi 24) (mi 26) (mi 27) (mi 28) (mi 29) (mi 30) (mi 31) (mi 32) (mi 33) y_101 y_102 (mi 42) (-1) (mi 44) (mi 45) (mi 47) (mi 48) (mi 49) (mi 50) (mi 51) (mi 54) (mi 56) fm_trust fm_letter fm_reportPlace fm_reportKind fm_struck fm_reportMonth fm_reportDay fm_reportKnown fm_deedMonth fm_deedDay fm_deedLong fm_deedKind fm_kept fm_tape f_103 f_104 f_105 f_106 f_107 f_108 f_109 f_99 fm_worth fm_out) H := hP
        have hD : va_D A (MWn h0 mr km (mi 0) (mi 1) (mi 2) (mi 3) (mi 4) (mi 5) (mi 6) (mi 7) (mi 10) (mi 17) (mi 23) (mi 24) (mi 26) (mi 27) (mi 28) (mi 29) (mi 30) (mi 31) (mi 32) (mi 33) y_101 y_102 (mi 42) (-1) (mi 44) (mi 45) (mi 47) (mi 48) (mi 49) (mi 50) (mi 51) (mi 54) (mi 56) fm_trust fm_letter fm_reportPlace fm_reportKind fm_struck fm_reportMonth fm_reportDay fm_reportKnown fm_deedMonth fm_deedDay fm_deedLong fm_deedKind fm_kept fm_tape f_103 f_104 f_105 f_106 f_107 f_108 f_109 f_99 fm_worth fm_out) := hD
        refine lv_aload_n hx hb dX12_hang_52 rfl (lv_at hl 0 rfl) ?_
        refine va_calli (va_runV (As := []) (rest := []) ⟨hx, hb, hml, hown, hts⟩ (sX12_unlike l dC dI h0 (upd (upd (upd mi 37 y_101) 41 y_102) 43 (-1)) mr km f_109 f_99 fm_trust fm_letter fm_reportPlace fm_reportKind fm_struck fm_reportMonth fm_reportDay fm_reportKnown fm_deedMonth fm_deedDay fm_deedLong fm_deedKind fm_kept fm_tape f_103 f_104 f_105 f_106 f_107 f_108 fm_worth fm_out gmi_0 gmi_1 gmi_2 gmi_4 gmi_7 gmi_10 gmi_17 gmi_23 gmi_24 gmi_26 gmi_29 gmi_30 gmi_33 gy_101 gy_102 gmi_50 gmi_51 gmi_56) (cwV 0 hts (gz_gV mGB_521 mGB_522 mGB_523 mGB_1 mGB_524 goodGB) rfl rfl rfl (by decide +kernel) ⟨Nat.le_of_ble_eq_true rfl, Nat.le_of_ble_eq_true rfl⟩) ⟨bl_R, mw_recv hK hP, fun U hU hW => ⟨rfl, by rw [hU]; exact hP, va_K.moved hW.alike hK⟩⟩ rfl rfl hl.1 rfl (lv_room (Nat.le_of_ble_eq_true rfl)) dX12_hang_53 ⟨Nat.zero_le _, Nat.zero_le _⟩) hS (fun q _ h => h.elim) (fun q h => h.elim) (fun r_110 u t H1 locs ht hvm hw hB hz1 hk1 hS => ?_)
        have hP := gz_keep hP hk1
        generalize H1 = H at hP hS ⊢
        exact W.iret (v := r_110) hx hb hr (fun t ht hW => ⟨⟨r_110, (), rfl, (gi_any r_110), y_101, y_102, (-1), f_103, f_104, f_105, f_106, f_107, f_108, f_109, f_99, gy_101, gy_102, gf_108, by rw [ht]; exact hP, hD⟩, hS.F ht⟩) hS.2.2 dX12_hang_56
      · have g_111 : gi x_85 1 1 := gi_ne_lo c_86 gx_85 (gi_c 0 0 (by decide)) (by decide)
        refine lv_bipush (v := (-2)) hx hb dX12_hang_25 (by decide) ?_
        exact W.iret (v := (-2)) hx hb hr (fun t ht hW => ⟨⟨(-2), (), rfl, (gi_any (-2)), (mi 37), (mi 41), (mi 43), fm_must, fm_least, fm_pin, fm_ways, fm_verdict, fm_row, fm_official, fm_aside, gmi_37, gmi_41, gfm_row, by rw [ht]; exact hP, hD⟩, hS.F ht⟩) hS.2.2 dX12_hang_27
theorem dX12_trusted_0 : decode cX12_trusted 0 = .ok (.aload_n 0, 1) := by decide +kernel
theorem dX12_trusted_1 : decode cX12_trusted 1 = .ok (.iload_n 1, 1) := by decide +kernel
theorem dX12_trusted_2 : decode cX12_trusted 2 = .ok (.invokevirtual 359, 3) := by decide +kernel
theorem dX12_trusted_5 : decode cX12_trusted 5 = .ok (.ifCond .eq 20, 3) := by decide +kernel
theorem dX12_trusted_8 : decode cX12_trusted 8 = .ok (.aload_n 0, 1) := by decide +kernel
theorem dX12_trusted_9 : decode cX12_trusted 9 = .ok (.iload_n 2, 1) := by decide +kernel
theorem dX12_trusted_10 : decode cX12_trusted 10 = .ok (.invokevirtual 303, 3) := by decide +kernel
theorem dX12_trusted_13 : decode cX12_trusted 13 = .ok (.ifCond .eq 12, 3) := by decide +kernel
theorem dX12_trusted_16 : decode cX12_trusted 16 = .ok (.aload_n 0, 1) := by decide +kernel
theorem dX12_trusted_17 : decode cX12_trusted 17 = .ok (.getfield 22, 3) := by decide +kernel
theorem dX12_trusted_20 : decode cX12_trusted 20 = .ok (.iload_n 2, 1) := by decide +kernel
theorem dX12_trusted_21 : decode cX12_trusted 21 = .ok (.baload, 1) := by decide +kernel
theorem dX12_trusted_22 : decode cX12_trusted 22 = .ok (.ifCond .eq 6, 3) := by decide +kernel
theorem dX12_trusted_25 : decode cX12_trusted 25 = .ok (.bipush (-2), 2) := by decide +kernel
theorem dX12_trusted_27 : decode cX12_trusted 27 = .ok (.ireturn, 1) := by decide +kernel
theorem dX12_trusted_28 : decode cX12_trusted 28 = .ok (.iconst (-1), 1) := by decide +kernel
theorem dX12_trusted_29 : decode cX12_trusted 29 = .ok (.istore_n 3, 1) := by decide +kernel
theorem dX12_trusted_30 : decode cX12_trusted 30 = .ok (.bipush 9, 2) := by decide +kernel
theorem dX12_trusted_32 : decode cX12_trusted 32 = .ok (.istore 4, 2) := by decide +kernel
theorem dX12_trusted_34 : decode cX12_trusted 34 = .ok (.iload 4, 2) := by decide +kernel
theorem dX12_trusted_36 : decode cX12_trusted 36 = .ok (.ifCond .lt 51, 3) := by decide +kernel
theorem dX12_trusted_39 : decode cX12_trusted 39 = .ok (.aload_n 0, 1) := by decide +kernel
theorem dX12_trusted_40 : decode cX12_trusted 40 = .ok (.aload_n 0, 1) := by decide +kernel
theorem dX12_trusted_41 : decode cX12_trusted 41 = .ok (.getfield 16, 3) := by decide +kernel
theorem dX12_trusted_44 : decode cX12_trusted 44 = .ok (.iload_n 2, 1) := by decide +kernel
theorem dX12_trusted_45 : decode cX12_trusted 45 = .ok (.iaload, 1) := by decide +kernel
theorem dX12_trusted_46 : decode cX12_trusted 46 = .ok (.putfield 84, 3) := by decide +kernel
theorem dX12_trusted_49 : decode cX12_trusted 49 = .ok (.aload_n 0, 1) := by decide +kernel
theorem dX12_trusted_50 : decode cX12_trusted 50 = .ok (.iload 4, 2) := by decide +kernel
theorem dX12_trusted_52 : decode cX12_trusted 52 = .ok (.putfield 81, 3) := by decide +kernel
theorem dX12_trusted_55 : decode cX12_trusted 55 = .ok (.aload_n 0, 1) := by decide +kernel
theorem dX12_trusted_56 : decode cX12_trusted 56 = .ok (.iload_n 1, 1) := by decide +kernel
theorem dX12_trusted_57 : decode cX12_trusted 57 = .ok (.invokevirtual 362, 3) := by decide +kernel
theorem dX12_trusted_60 : decode cX12_trusted 60 = .ok (.aload_n 0, 1) := by decide +kernel
theorem dX12_trusted_61 : decode cX12_trusted 61 = .ok (.getfield 69, 3) := by decide +kernel
theorem dX12_trusted_64 : decode cX12_trusted 64 = .ok (.iload_n 2, 1) := by decide +kernel
theorem dX12_trusted_65 : decode cX12_trusted 65 = .ok (.iaload, 1) := by decide +kernel
theorem dX12_trusted_66 : decode cX12_trusted 66 = .ok (.ifCond .ne 8, 3) := by decide +kernel
theorem dX12_trusted_69 : decode cX12_trusted 69 = .ok (.iload 4, 2) := by decide +kernel
theorem dX12_trusted_71 : decode cX12_trusted 71 = .ok (.goto 4, 3) := by decide +kernel
theorem dX12_trusted_74 : decode cX12_trusted 74 = .ok (.iload_n 3, 1) := by decide +kernel
theorem dX12_trusted_75 : decode cX12_trusted 75 = .ok (.istore_n 3, 1) := by decide +kernel
theorem dX12_trusted_76 : decode cX12_trusted 76 = .ok (.aload_n 0, 1) := by decide +kernel
theorem dX12_trusted_77 : decode cX12_trusted 77 = .ok (.iconst (-1), 1) := by decide +kernel
theorem dX12_trusted_78 : decode cX12_trusted 78 = .ok (.putfield 84, 3) := by decide +kernel
theorem dX12_trusted_81 : decode cX12_trusted 81 = .ok (.iinc 4 (-1), 3) := by decide +kernel
theorem dX12_trusted_84 : decode cX12_trusted 84 = .ok (.goto (-50), 3) := by decide +kernel
theorem dX12_trusted_87 : decode cX12_trusted 87 = .ok (.iload_n 3, 1) := by decide +kernel
theorem dX12_trusted_88 : decode cX12_trusted 88 = .ok (.ireturn, 1) := by decide +kernel
set_option maxHeartbeats 4000000 in
set_option maxRecDepth 100000 in
theorem lp_sX12_trusted {p : Program} {l : Launch} {e : Env} {R : Room} {s : State} {m : MethodId} {args : Array Value} {below : List Frame} {meth : Method} {c : Code} {Q : State → Prop} {A : Nat → Prop} {cells slots : Nat} {dC : Nat → ClassId} {dI : Nat → Nat → Nat} (h0 : Nat) (mi : Nat → Int32) (mr : Nat → Nat) (km : Nat → ClassId) (fm_must : Nat → Int32) (fm_least : Nat → Int32) (fm_pin : Nat → Int32) (fm_ways : Nat → Int32) (fm_verdict : Nat → Int32) (fm_row : Nat → Int32) (fm_struck : Nat → Int32) (fm_reportKnown : Nat → Int32) (fm_reportPlace : Nat → Int32) (fm_reportMonth : Nat → Int32) (fm_reportDay : Nat → Int32) (fm_reportKind : Nat → Int32) (fm_trust : Nat → Int32) (fm_letter : Nat → Int32) (fm_deedMonth : Nat → Int32) (fm_deedDay : Nat → Int32) (fm_deedLong : Nat → Int32) (fm_deedKind : Nat → Int32) (fm_kept : Nat → Int32) (fm_tape : Nat → Int32) (fm_official : Nat → Int32) (fm_aside : Nat → Int32) (fm_worth : Nat → Int32) (fm_out : Nat → Int32) (p1 : Int32) (p2 : Int32) (gmi_0 : gi (mi 0) 0 24) (gmi_1 : gi (mi 1) 0 5) (gmi_2 : gi (mi 2) 0 5) (gmi_4 : gi (mi 4) 0 1) (gmi_7 : gi (mi 7) 0 6) (gmi_10 : gi (mi 10) 0 24) (gmi_17 : gi (mi 17) 0 8) (gmi_23 : gi (mi 23) 0 300) (gmi_24 : gi (mi 24) 0 1) (gmi_26 : gi (mi 26) 0 1600) (gmi_29 : gi (mi 29) 0 1600) (gmi_30 : gi (mi 30) 0 1600) (gmi_33 : gi (mi 33) 0 1) (gmi_37 : gi (mi 37) 0 1) (gmi_41 : gi (mi 41) 0 24) (gmi_50 : gi (mi 50) 0 1) (gmi_51 : gi (mi 51) 0 1) (gmi_56 : gi (mi 56) 0 80) (gfm_row : ga fm_row 24 0 23) (gfm_struck : ga fm_struck 24 0 1) (gfm_reportKnown : ga fm_reportKnown 24 0 999) (gfm_reportPlace : ga fm_reportPlace 24 0 5) (gfm_reportMonth : ga fm_reportMonth 24 0 23) (gfm_reportDay : ga fm_reportDay 24 0 999) (hx : p.tables.exec = Jvm.exec) (hb : c.code = cX12_trusted) (hml : c.maxLocals = 5) (hown : s.vm.findClass RX12 = some m.cls) (hts : ∀ w ∈ ((.code yX12_trusted cX12_trusted 5 (some .int) :: wsGB) : List Cond), w.before args s = true) (hK : va_K (dC, dI) vwCl (MT km) s) (hA : ∀ q : Nat, s.heap.size ≤ q → A q) (hRf : 5 ≤ R.frames) (hRl : 119 ≤ R.locals) (hRc : cells ≤ R.cells) (hRs : slots ≤ R.slots) (kr27 : ∀ (v : Int32) (w0_37 : Int32) (w0_41 : Int32) (w0_44 : Int32) (w0_45 : Int32) (z1 : Nat → Int32) (z2 : Nat → Int32) (z3 : Nat → Int32) (z4 : Nat → Int32) (z5 : Nat → Int32) (z6 : Nat → Int32) (H : Heap) (locs : List Loc) (ls : Array Slot), gi v (-2) (-2) → gi w0_37 0 1 → gi w0_41 0 24 → ga z6 24 0 23 → va_P (dC, dI) vwCl (MWn h0 mr km (mi 0) (mi 1) (mi 2) (mi 3) (mi 4) (mi 5) (mi 6) (mi 7) (mi 10) (mi 17) (mi 23) (mi 24) (mi 26) (mi 27) (mi 28) (mi 29) (mi 30) (mi 31) (mi 32) (mi 33) w0_37 w0_41 (mi 42) (mi 43) w0_44 w0_45 (mi 47) (mi 48) (mi 49) (mi 50) (mi 51) (mi 54) (mi 56) fm_trust fm_letter fm_reportPlace fm_reportKind fm_struck fm_reportMonth fm_reportDay fm_reportKnown fm_deedMonth fm_deedDay fm_deedLong fm_deedKind fm_kept fm_tape z1 z2 z3 z4 z5 z6 fm_official fm_aside fm_worth fm_out) H → va_D A (MWn h0 mr km (mi 0) (mi 1) (mi 2) (mi 3) (mi 4) (mi 5) (mi 6) (mi 7) (mi 10) (mi 17) (mi 23) (mi 24) (mi 26) (mi 27) (mi 28) (mi 29) (mi 30) (mi 31) (mi 32) (mi 33) w0_37 w0_41 (mi 42) (mi 43) w0_44 w0_45 (mi 47) (mi 48) (mi 49) (mi 50) (mi 51) (mi 54) (mi 56) fm_trust fm_letter fm_reportPlace fm_reportKind fm_struck fm_reportMonth fm_reportDay fm_reportKnown fm_deedMonth fm_deedDay fm_deedLong fm_deedKind fm_kept fm_tape z1 z2 z3 z4 z5 z6 fm_official fm_aside fm_worth fm_out) → va_S A s.heap H locs → lv_has ls 5 [] → W p l e R s m args below meth c H locs cells slots Q (F0 m 27 ls [.int v])) (kr88 : ∀ (v : Int32) (w0_37 : Int32) (w0_41 : Int32) (w0_44 : Int32) (w0_45 : Int32) (z1 : Nat → Int32) (z2 : Nat → Int32) (z3 : Nat → Int32) (z4 : Nat → Int32) (z5 : Nat → Int32) (z6 : Nat → Int32) (H : Heap) (locs : List Loc) (ls : Array Slot), gi v (-1) 9 → gi w0_37 0 1 → gi w0_41 0 24 → ga z6 24 0 23 → va_P (dC, dI) vwCl (MWn h0 mr km (mi 0) (mi 1) (mi 2) (mi 3) (mi 4) (mi 5) (mi 6) (mi 7) (mi 10) (mi 17) (mi 23) (mi 24) (mi 26) (mi 27) (mi 28) (mi 29) (mi 30) (mi 31) (mi 32) (mi 33) w0_37 w0_41 (mi 42) (mi 43) w0_44 w0_45 (mi 47) (mi 48) (mi 49) (mi 50) (mi 51) (mi 54) (mi 56) fm_trust fm_letter fm_reportPlace fm_reportKind fm_struck fm_reportMonth fm_reportDay fm_reportKnown fm_deedMonth fm_deedDay fm_deedLong fm_deedKind fm_kept fm_tape z1 z2 z3 z4 z5 z6 fm_official fm_aside fm_worth fm_out) H → va_D A (MWn h0 mr km (mi 0) (mi 1) (mi 2) (mi 3) (mi 4) (mi 5) (mi 6) (mi 7) (mi 10) (mi 17) (mi 23) (mi 24) (mi 26) (mi 27) (mi 28) (mi 29) (mi 30) (mi 31) (mi 32) (mi 33) w0_37 w0_41 (mi 42) (mi 43) w0_44 w0_45 (mi 47) (mi 48) (mi 49) (mi 50) (mi 51) (mi 54) (mi 56) fm_trust fm_letter fm_reportPlace fm_reportKind fm_struck fm_reportMonth fm_reportDay fm_reportKnown fm_deedMonth fm_deedDay fm_deedLong fm_deedKind fm_kept fm_tape z1 z2 z3 z4 z5 z6 fm_official fm_aside fm_worth fm_out) → va_S A s.heap H locs → lv_has ls 5 [] → W p l e R s m args below meth c H locs cells slots Q (F0 m 88 ls [.int v])) : ∀ z : Nat, (∀ (v3 : Int32) (v4 : Int32) (w0_37 : Int32) (w0_41 : Int32) (w0_44 : Int32) (w0_45 : Int32) (z1 : Nat → Int32) (z2 : Nat → Int32) (z3 : Nat → Int32) (z4 : Nat → Int32) (z5 : Nat → Int32) (z6 : Nat → Int32) (H : Heap) (locs : List Loc) (ls : Array Slot), gi p1 0 999 → gi p2 0 23 → gi v3 (-1) 9 → gi v4 (-1) 9 → gi w0_37 0 1 → gi w0_41 0 24 → ga z6 24 0 23 → 3 + 2 * v4.toInt < (z : Int) → va_P (dC, dI) vwCl (MWn h0 mr km (mi 0) (mi 1) (mi 2) (mi 3) (mi 4) (mi 5) (mi 6) (mi 7) (mi 10) (mi 17) (mi 23) (mi 24) (mi 26) (mi 27) (mi 28) (mi 29) (mi 30) (mi 31) (mi 32) (mi 33) w0_37 w0_41 (mi 42) (mi 43) w0_44 w0_45 (mi 47) (mi 48) (mi 49) (mi 50) (mi 51) (mi 54) (mi 56) fm_trust fm_letter fm_reportPlace fm_reportKind fm_struck fm_reportMonth fm_reportDay fm_reportKnown fm_deedMonth fm_deedDay fm_deedLong fm_deedKind fm_kept fm_tape z1 z2 z3 z4 z5 z6 fm_official fm_aside fm_worth fm_out) H → va_D A (MWn h0 mr km (mi 0) (mi 1) (mi 2) (mi 3) (mi 4) (mi 5) (mi 6) (mi 7) (mi 10) (mi 17) (mi 23) (mi 24) (mi 26) (mi 27) (mi 28) (mi 29) (mi 30) (mi 31) (mi 32) (mi 33) w0_37 w0_41 (mi 42) (mi 43) w0_44 w0_45 (mi 47) (mi 48) (mi 49) (mi 50) (mi 51) (mi 54) (mi 56) fm_trust fm_letter fm_reportPlace fm_reportKind fm_struck fm_reportMonth fm_reportDay fm_reportKnown fm_deedMonth fm_deedDay fm_deedLong fm_deedKind fm_kept fm_tape z1 z2 z3 z4 z5 z6 fm_official fm_aside fm_worth fm_out) → va_S A s.heap H locs → lv_has ls 5 [(0, .ref h0), (1, .int p1), (2, .int p2), (3, .int v3), (4, .int v4)] → W p l e R s m args below meth c H locs cells slots Q (F0 m 34 ls [])) := by
  intro z
  induction z with
  | zero =>
    intro v3 v4 w0_37 w0_41 w0_44 w0_45 z1 z2 z3 z4 z5 z6 H locs ls gf_p1 gf_p2 gv3 gv4 gw0_37 gw0_41 gz6 hmu hP hD hS hl
    exact absurd hmu (by have hv41 := gv4.1; have hv42 := gv4.2; omega)
  | succ z ih =>
      intro v3 v4 w0_37 w0_41 w0_44 w0_45 z1 z2 z3 z4 z5 z6 H locs ls gf_p1 gf_p2 gv3 gv4 gw0_37 gw0_41 gz6 hmu hP hD hS hl
      refine lv_iload hx hb dX12_trusted_34 (lv_at hl 4 rfl) ?_
      refine lv_if_lt (tgt := 87) hx hb dX12_trusted_36 (by decide) (fun c_303 => ?_) (fun c_303 => ?_)
      · have g_304 : gi v4 (-1) (-1) := gi_lt_l c_303 gv4 (gi_c 0 0 (by decide)) (by decide)
        refine lv_iload_n hx hb dX12_trusted_87 rfl (lv_at hl 3 rfl) ?_
        exact kr88 v3 w0_37 w0_41 w0_44 w0_45 z1 z2 z3 z4 z5 z6 _ _ _ gv3 gw0_37 gw0_41 gz6 hP hD hS (lv_sub hl [] rfl)
      · have g_305 : gi v4 0 9 := gi_le_r (Int32.not_lt.mp c_303) (gi_c 0 0 (by decide)) gv4
        refine lv_aload_n hx hb dX12_trusted_39 rfl (lv_at hl 0 rfl) ?_
        refine lv_aload_n hx hb dX12_trusted_40 rfl (lv_at hl 0 rfl) ?_
        refine va_get (D := (dC, dI)) (ci := 12) (v := .ref (mr 2)) (C := RX12) (T := TX12) (N := 57) hx hb hts (fun w h => List.mem_cons_of_mem _ (jnGB_X12 w h)) hown hK hP 0 rfl rfl 11 (by decide) (hts _ (List.mem_cons_of_mem _ mGB_12)) (fun _ h9 => h9) rfl dX12_trusted_41 ?_
        refine lv_iload_n hx hb dX12_trusted_44 rfl (lv_at hl 2 rfl) ?_
        refine va_iald hx hb hK hP 3 2 rfl rfl (gi_in gf_p2 (by decide)) dX12_trusted_45 ?_
        refine lv_topi (fun x_306 ex_306 => ?_)
        have gx_306 : gi x_306 0 5 := ga_at gfm_reportPlace (gi_in gf_p2 (by decide)) ex_306
        refine va_put (D := (dC, dI)) (ci := 12) (v := .int x_306) (ty := .int) (C := RX12) (T := TX12) (N := 57) hx hb hts (fun w h => List.mem_cons_of_mem _ (jnGB_X12 w h)) tyX12 tyX12_ok nmX12 hown hK hP hD hS 0 rfl rfl 45 (by decide) (hts _ (List.mem_cons_of_mem _ mGB_35)) (fun _ h9 => h9) rfl (by decide +kernel) rfl rfl (Nat.le_of_ble_eq_true rfl) dX12_trusted_46 (fun H locs hP hD hS => ?_)
        have hP : va_P (dC, dI) vwCl (MWn h0 mr km (mi 0) (mi 1) (mi 2) (mi 3) (mi 4) (mi 5) (mi 6) (mi 7) (mi 10) (mi 17) (mi 23) (mi 24) (mi 26) (mi 27) (mi 28) (mi 29) (mi 30) (mi 31) (mi 32) (mi 33) w0_37 w0_41 (mi 42) (mi 43) w0_44 x_306 (mi 47) (mi 48) (mi 49) (mi 50) (mi 51) (mi 54) (mi 56) fm_trust fm_letter fm_reportPlace fm_reportKind fm_struck fm_reportMonth fm_reportDay fm_reportKnown fm_deedMonth fm_deedDay fm_deedLong fm_deedKind fm_kept fm_tape z1 z2 z3 z4 z5 z6 fm_official fm_aside fm_worth fm_out) H := hP
        have hD : va_D A (MWn h0 mr km (mi 0) (mi 1) (mi 2) (mi 3) (mi 4) (mi 5) (mi 6) (mi 7) (mi 10) (mi 17) (mi 23) (mi 24) (mi 26) (mi 27) (mi 28) (mi 29) (mi 30) (mi 31) (mi 32) (mi 33) w0_37 w0_41 (mi 42) (mi 43) w0_44 x_306 (mi 47) (mi 48) (mi 49) (mi 50) (mi 51) (mi 54) (mi 56) fm_trust fm_letter fm_reportPlace fm_reportKind fm_struck fm_reportMonth fm_reportDay fm_reportKnown fm_deedMonth fm_deedDay fm_deedLong fm_deedKind fm_kept fm_tape z1 z2 z3 z4 z5 z6 fm_official fm_aside fm_worth fm_out) := hD
        refine lv_aload_n hx hb dX12_trusted_49 rfl (lv_at hl 0 rfl) ?_
        refine lv_iload hx hb dX12_trusted_50 (lv_at hl 4 rfl) ?_
        refine va_put (D := (dC, dI)) (ci := 12) (v := .int v4) (ty := .int) (C := RX12) (T := TX12) (N := 57) hx hb hts (fun w h => List.mem_cons_of_mem _ (jnGB_X12 w h)) tyX12 tyX12_ok nmX12 hown hK hP hD hS 0 rfl rfl 44 (by decide) (hts _ (List.mem_cons_of_mem _ mGB_34)) (fun _ h9 => h9) rfl (by decide +kernel) rfl rfl (Nat.le_of_ble_eq_true rfl) dX12_trusted_52 (fun H locs hP hD hS => ?_)
        have hP : va_P (dC, dI) vwCl (MWn h0 mr km (mi 0) (mi 1) (mi 2) (mi 3) (mi 4) (mi 5) (mi 6) (mi 7) (mi 10) (mi 17) (mi 23) (mi 24) (mi 26) (mi 27) (mi 28) (mi 29) (mi 30) (mi 31) (mi 32) (mi 33) w0_37 w0_41 (mi 42) (mi 43) v4 x_306 (mi 47) (mi 48) (mi 49) (mi 50) (mi 51) (mi 54) (mi 56) fm_trust fm_letter fm_reportPlace fm_reportKind fm_struck fm_reportMonth fm_reportDay fm_reportKnown fm_deedMonth fm_deedDay fm_deedLong fm_deedKind fm_kept fm_tape z1 z2 z3 z4 z5 z6 fm_official fm_aside fm_worth fm_out) H := hP
        have hD : va_D A (MWn h0 mr km (mi 0) (mi 1) (mi 2) (mi 3) (mi 4) (mi 5) (mi 6) (mi 7) (mi 10) (mi 17) (mi 23) (mi 24) (mi 26) (mi 27) (mi 28) (mi 29) (mi 30) (mi 31) (mi 32) (mi 33) w0_37 w0_41 (mi 42) (mi 43) v4 x_306 (mi 47) (mi 48) (mi 49) (mi 50) (mi 51) (mi 54) (mi 56) fm_trust fm_letter fm_reportPlace fm_reportKind fm_struck fm_reportMonth fm_reportDay fm_reportKnown fm_deedMonth fm_deedDay fm_deedLong fm_deedKind fm_kept fm_tape z1 z2 z3 z4 z5 z6 fm_official fm_aside fm_worth fm_out) := hD
        refine lv_aload_n hx hb dX12_trusted_55 rfl (lv_at hl 0 rfl) ?_
        refine lv_iload_n hx hb dX12_trusted_56 rfl (lv_at hl 1 rfl) ?_
        have hFc := gz_fullF hD hS hA
        refine va_callv (va_runV (As := [.int p1]) (rest := []) ⟨hx, hb, hml, hown, hts⟩ (sX12_judgesAll l dC dI H.size h0 (upd (upd (upd (upd mi 37 w0_37) 41 w0_41) 44 v4) 45 x_306) mr km z1 z2 z3 z4 z5 z6 fm_struck fm_reportKnown fm_reportPlace fm_reportMonth fm_reportDay fm_reportKind fm_trust fm_letter fm_deedMonth fm_deedDay fm_deedLong fm_deedKind fm_kept fm_tape fm_official fm_aside fm_worth fm_out p1 gmi_0 gmi_1 gmi_2 gmi_4 gmi_7 gmi_10 gmi_17 gmi_23 gmi_24 gmi_26 gmi_29 gmi_30 gmi_33 gw0_37 gw0_41 gmi_50 gmi_51 gmi_56 gz6 gfm_struck gfm_reportKnown gfm_reportPlace gfm_reportMonth gfm_reportDay) (cwV 1 hts (gz_gV mGB_261 mGB_262 mGB_263 mGB_1 mGB_264 goodGB) rfl rfl rfl (by decide +kernel) ⟨Nat.le_trans (Nat.le_of_ble_eq_true rfl) hRf, Nat.le_trans (Nat.le_of_ble_eq_true rfl) hRl⟩) ⟨bl_W, mw_recv hK hP, fun U hU hW => ⟨rfl, by rw [hU], by rw [hU]; exact hP, va_K.moved hW.alike hK, hD.weaken (fun _ _ _ _ => trivial)⟩⟩ rfl rfl hl.1 rfl (lv_room (Nat.le_of_ble_eq_true rfl)) dX12_trusted_57 ⟨hRc, hRs⟩) hS (fun q _ h => hFc q h) hFc (fun u t H1 locs ht hvm hw hB hz1 hk1 hS => ?_)
        obtain ⟨y_308, y_309, f_310, f_311, f_312, f_313, f_314, f_315, hB⟩ := hB
        obtain ⟨gy_308, gy_309, gf_315, hP1, hD1⟩ := hB
        rw [ht] at hP1
        have hD : va_D A (MWn h0 mr km (mi 0) (mi 1) (mi 2) (mi 3) (mi 4) (mi 5) (mi 6) (mi 7) (mi 10) (mi 17) (mi 23) (mi 24) (mi 26) (mi 27) (mi 28) (mi 29) (mi 30) (mi 31) (mi 32) (mi 33) y_308 y_309 (mi 42) (mi 43) v4 x_306 (mi 47) (mi 48) (mi 49) (mi 50) (mi 51) (mi 54) (mi 56) fm_trust fm_letter fm_reportPlace fm_reportKind fm_struck fm_reportMonth fm_reportDay fm_reportKnown fm_deedMonth fm_deedDay fm_deedLong fm_deedKind fm_kept fm_tape f_310 f_311 f_312 f_313 f_314 f_315 fm_official fm_aside fm_worth fm_out) := gz_fullD hFc hD1
        have hP : va_P (dC, dI) vwCl (MWn h0 mr km (mi 0) (mi 1) (mi 2) (mi 3) (mi 4) (mi 5) (mi 6) (mi 7) (mi 10) (mi 17) (mi 23) (mi 24) (mi 26) (mi 27) (mi 28) (mi 29) (mi 30) (mi 31) (mi 32) (mi 33) y_308 y_309 (mi 42) (mi 43) v4 x_306 (mi 47) (mi 48) (mi 49) (mi 50) (mi 51) (mi 54) (mi 56) fm_trust fm_letter fm_reportPlace fm_reportKind fm_struck fm_reportMonth fm_reportDay fm_reportKnown fm_deedMonth fm_deedDay fm_deedLong fm_deedKind fm_kept fm_tape f_310 f_311 f_312 f_313 f_314 f_315 fm_official fm_aside fm_worth fm_out) H1 := hP1
        generalize H1 = H at hP hS ⊢
        refine lv_aload_n hx hb dX12_trusted_60 rfl (lv_at hl 0 rfl) ?_
        refine va_get (D := (dC, dI)) (ci := 12) (v := .ref (mr 18)) (C := RX12) (T := TX12) (N := 57) hx hb hts (fun w h => List.mem_cons_of_mem _ (jnGB_X12 w h)) hown hK hP 0 rfl rfl 39 (by decide) (hts _ (List.mem_cons_of_mem _ mGB_30)) (fun _ h9 => h9) rfl dX12_trusted_61 ?_
        refine lv_iload_n hx hb dX12_trusted_64 rfl (lv_at hl 2 rfl) ?_
        refine va_iald hx hb hK hP 19 18 rfl rfl (gi_in gf_p2 (by decide)) dX12_trusted_65 ?_
        refine lv_topi (fun x_316 ex_316 => ?_)
        refine lv_if_ne (tgt := 74) hx hb dX12_trusted_66 (by decide) (fun c_317 => ?_) (fun c_317 => ?_)
        · refine lv_iload_n hx hb dX12_trusted_74 rfl (lv_at hl 3 rfl) ?_
          refine lv_istore_n (lv' := [(3, .int v3), (0, .ref h0), (1, .int p1), (2, .int p2), (4, .int v4)]) hx hb dX12_trusted_75 rfl hl (by decide) rfl (fun ls hl => ?_)
          refine lv_aload_n hx hb dX12_trusted_76 rfl (lv_at hl 1 rfl) ?_
          refine lv_iconst (v := (-1)) hx hb dX12_trusted_77 (by decide) ?_
          refine va_put (D := (dC, dI)) (ci := 12) (v := .int (-1)) (ty := .int) (C := RX12) (T := TX12) (N := 57) hx hb hts (fun w h => List.mem_cons_of_mem _ (jnGB_X12 w h)) tyX12 tyX12_ok nmX12 hown hK hP hD hS 0 rfl rfl 45 (by decide) (hts _ (List.mem_cons_of_mem _ mGB_35)) (fun _ h9 => h9) rfl (by decide +kernel) rfl rfl (Nat.le_of_ble_eq_true rfl) dX12_trusted_78 (fun H locs hP hD hS => ?_)
          have hP : va_P (dC, dI) vwCl (MWn h0 mr km (mi 0) (mi 1) (mi 2) (mi 3) (mi 4) (mi 5) (mi 6) (mi 7) (mi 10) (mi 17) (mi 23) (mi 24) (mi 26) (mi 27) (mi 28) (mi 29) (mi 30) (mi 31) (mi 32) (mi 33) y_308 y_309 (mi 42) (mi 43) v4 (-1) (mi 47) (mi 48) (mi 49) (mi 50) (mi 51) (mi 54) (mi 56) fm_trust fm_letter fm_reportPlace fm_reportKind fm_struck fm_reportMonth fm_reportDay fm_reportKnown fm_deedMonth fm_deedDay fm_deedLong fm_deedKind fm_kept fm_tape f_310 f_311 f_312 f_313 f_314 f_315 fm_official fm_aside fm_worth fm_out) H := hP
          have hD : va_D A (MWn h0 mr km (mi 0) (mi 1) (mi 2) (mi 3) (mi 4) (mi 5) (mi 6) (mi 7) (mi 10) (mi 17) (mi 23) (mi 24) (mi 26) (mi 27) (mi 28) (mi 29) (mi 30) (mi 31) (mi 32) (mi 33) y_308 y_309 (mi 42) (mi 43) v4 (-1) (mi 47) (mi 48) (mi 49) (mi 50) (mi 51) (mi 54) (mi 56) fm_trust fm_letter fm_reportPlace fm_reportKind fm_struck fm_reportMonth fm_reportDay fm_reportKnown fm_deedMonth fm_deedDay fm_deedLong fm_deedKind fm_kept fm_tape f_310 f_311 f_312 f_313 f_314 f_315 fm_official fm_aside fm_worth fm_out) := hD
          obtain ⟨x_318, ex_318⟩ : ∃ y : Int32, y = v4 + (-1) := ⟨_, rfl⟩
          have gx_318 : gi x_318 (-1) 8 := gi_add ex_318 g_305 (gi_c (-1) (-1) (by decide)) (by decide)
          refine lv_iinc (v := x_318) (lv' := [(4, .int x_318), (3, .int v3), (0, .ref h0), (1, .int p1), (2, .int p2)]) hx hb dX12_trusted_81 hl (k := 4) rfl (by rw [ex_318]; rfl) (by decide) rfl (fun ls hl => ?_)
          refine lv_goto (tgt := 34) hx hb dX12_trusted_84 (by decide) ?_
          exact ih v3 x_318 y_308 y_309 v4 (-1) f_310 f_311 f_312 f_313 f_314 f_315 _ _ _ gf_p1 gf_p2 gv3 (gi_w gx_318 (by decide)) gy_308 gy_309 gf_315 (by have av4 := gv4.1; have bv4 := gv4.2; have qgx_318 := gx_318.1; have rgx_318 := gx_318.2; have igx_318 : x_318.toInt = v4.toInt + (-1) := (by have hcm1 : ((-1) : Int32).toInt = (-1) := (by decide); have h9 := gi_addI ex_318 (by have h1 := g_305.1; have h2 := (gi_c (-1) (-1) (by decide)).1; have h3 := g_305.2; have h4 := (gi_c (-1) (-1) (by decide)).2; omega) (by have h1 := g_305.1; have h2 := (gi_c (-1) (-1) (by decide)).1; have h3 := g_305.2; have h4 := (gi_c (-1) (-1) (by decide)).2; omega); rw [hcm1] at h9; exact h9); have qgv4 := g_305.1; have rgv4 := g_305.2; omega) hP hD hS (lv_sub hl [2, 3, 4, 1, 0] rfl)
        · have g_319 : gi x_316 0 0 := gi_eq c_317 (gi_c 0 0 (by decide))
          refine lv_iload hx hb dX12_trusted_69 (lv_at hl 4 rfl) ?_
          refine lv_goto (tgt := 75) hx hb dX12_trusted_71 (by decide) ?_
          refine lv_istore_n (lv' := [(3, .int v4), (0, .ref h0), (1, .int p1), (2, .int p2), (4, .int v4)]) hx hb dX12_trusted_75 rfl hl (by decide) rfl (fun ls hl => ?_)
          refine lv_aload_n hx hb dX12_trusted_76 rfl (lv_at hl 1 rfl) ?_
          refine lv_iconst (v := (-1)) hx hb dX12_trusted_77 (by decide) ?_
          refine va_put (D := (dC, dI)) (ci := 12) (v := .int (-1)) (ty := .int) (C := RX12) (T := TX12) (N := 57) hx hb hts (fun w h => List.mem_cons_of_mem _ (jnGB_X12 w h)) tyX12 tyX12_ok nmX12 hown hK hP hD hS 0 rfl rfl 45 (by decide) (hts _ (List.mem_cons_of_mem _ mGB_35)) (fun _ h9 => h9) rfl (by decide +kernel) rfl rfl (Nat.le_of_ble_eq_true rfl) dX12_trusted_78 (fun H locs hP hD hS => ?_)
          have hP : va_P (dC, dI) vwCl (MWn h0 mr km (mi 0) (mi 1) (mi 2) (mi 3) (mi 4) (mi 5) (mi 6) (mi 7) (mi 10) (mi 17) (mi 23) (mi 24) (mi 26) (mi 27) (mi 28) (mi 29) (mi 30) (mi 31) (mi 32) (mi 33) y_308 y_309 (mi 42) (mi 43) v4 (-1) (mi 47) (mi 48) (mi 49) (mi 50) (mi 51) (mi 54) (mi 56) fm_trust fm_letter fm_reportPlace fm_reportKind fm_struck fm_reportMonth fm_reportDay fm_reportKnown fm_deedMonth fm_deedDay fm_deedLong fm_deedKind fm_kept fm_tape f_310 f_311 f_312 f_313 f_314 f_315 fm_official fm_aside fm_worth fm_out) H := hP
          have hD : va_D A (MWn h0 mr km (mi 0) (mi 1) (mi 2) (mi 3) (mi 4) (mi 5) (mi 6) (mi 7) (mi 10) (mi 17) (mi 23) (mi 24) (mi 26) (mi 27) (mi 28) (mi 29) (mi 30) (mi 31) (mi 32) (mi 33) y_308 y_309 (mi 42) (mi 43) v4 (-1) (mi 47) (mi 48) (mi 49) (mi 50) (mi 51) (mi 54) (mi 56) fm_trust fm_letter fm_reportPlace fm_reportKind fm_struck fm_reportMonth fm_reportDay fm_reportKnown fm_deedMonth fm_deedDay fm_deedLong fm_deedKind fm_kept fm_tape f_310 f_311 f_312 f_313 f_314 f_315 fm_official fm_aside fm_worth fm_out) := hD
          obtain ⟨x_320, ex_320⟩ : ∃ y : Int32, y = v4 + (-1) := ⟨_, rfl⟩
          have gx_320 : gi x_320 (-1) 8 := gi_add ex_320 g_305 (gi_c (-1) (-1) (by decide)) (by decide)
          refine lv_iinc (v := x_320) (lv' := [(4, .int x_320), (3, .int v4), (0, .ref h0), (1, .int p1), (2, .int p2)]) hx hb dX12_trusted_81 hl (k := 4) rfl (by rw [ex_320]; rfl) (by decide) rfl (fun ls hl => ?_)
          refine lv_goto (tgt := 34) hx hb dX12_trusted_84 (by decide) ?_
          exact ih v4 x_320 y_308 y_309 v4 (-1) f_310 f_311 f_312 f_313 f_314 f_315 _ _ _ gf_p1 gf_p2 (gi_w g_305 (by decide)) (gi_w gx_320 (by decide)) gy_308 gy_309 gf_315 (by have av4 := gv4.1; have bv4 := gv4.2; have qgx_320 := gx_320.1; have rgx_320 := gx_320.2; have igx_320 : x_320.toInt = v4.toInt + (-1) := (by have hcm1 : ((-1) : Int32).toInt = (-1) := (by decide); have h9 := gi_addI ex_320 (by have h1 := g_305.1; have h2 := (gi_c (-1) (-1) (by decide)).1; have h3 := g_305.2; have h4 := (gi_c (-1) (-1) (by decide)).2; omega) (by have h1 := g_305.1; have h2 := (gi_c (-1) (-1) (by decide)).1; have h3 := g_305.2; have h4 := (gi_c (-1) (-1) (by decide)).2; omega); rw [hcm1] at h9; exact h9); have qgv4 := g_305.1; have rgv4 := g_305.2; omega) hP hD hS (lv_sub hl [2, 3, 4, 1, 0] rfl)
abbrev pb_sX12_trusted (dC : Nat → ClassId) (dI : Nat → Nat → Nat) (A9 : Nat → Prop) (h0 : Nat) (mi : Nat → Int32) (mr : Nat → Nat) (km : Nat → ClassId) (fm_must : Nat → Int32) (fm_least : Nat → Int32) (fm_pin : Nat → Int32) (fm_ways : Nat → Int32) (fm_verdict : Nat → Int32) (fm_row : Nat → Int32) (fm_struck : Nat → Int32) (fm_reportKnown : Nat → Int32) (fm_reportPlace : Nat → Int32) (fm_reportMonth : Nat → Int32) (fm_reportDay : Nat → Int32) (fm_reportKind : Nat → Int32) (fm_trust : Nat → Int32) (fm_letter : Nat → Int32) (fm_deedMonth : Nat → Int32) (fm_deedDay : Nat → Int32) (fm_deedLong : Nat → Int32) (fm_deedKind : Nat → Int32) (fm_kept : Nat → Int32) (fm_tape : Nat → Int32) (fm_official : Nat → Int32) (fm_aside : Nat → Int32) (fm_worth : Nat → Int32) (fm_out : Nat → Int32) (p1 : Int32) (p2 : Int32) (w0_37 : Int32) (w0_41 : Int32) (w0_44 : Int32) (w0_45 : Int32) (z1 : Nat → Int32) (z2 : Nat → Int32) (z3 : Nat → Int32) (z4 : Nat → Int32) (z5 : Nat → Int32) (z6 : Nat → Int32) (t : State) : Prop := gi w0_37 0 1 ∧ gi w0_41 0 24 ∧ ga z6 24 0 23 ∧ va_P (dC, dI) vwCl (MWn h0 mr km (mi 0) (mi 1) (mi 2) (mi 3) (mi 4) (mi 5) (mi 6) (mi 7) (mi 10) (mi 17) (mi 23) (mi 24) (mi 26) (mi 27) (mi 28) (mi 29) (mi 30) (mi 31) (mi 32) (mi 33) w0_37 w0_41 (mi 42) (mi 43) w0_44 w0_45 (mi 47) (mi 48) (mi 49) (mi 50) (mi 51) (mi 54) (mi 56) fm_trust fm_letter fm_reportPlace fm_reportKind fm_struck fm_reportMonth fm_reportDay fm_reportKnown fm_deedMonth fm_deedDay fm_deedLong fm_deedKind fm_kept fm_tape z1 z2 z3 z4 z5 z6 fm_official fm_aside fm_worth fm_out) t.heap ∧ va_D A9 (MWn h0 mr km (mi 0) (mi 1) (mi 2) (mi 3) (mi 4) (mi 5) (mi 6) (mi 7) (mi 10) (mi 17) (mi 23) (mi 24) (mi 26) (mi 27) (mi 28) (mi 29) (mi 30) (mi 31) (mi 32) (mi 33) w0_37 w0_41 (mi 42) (mi 43) w0_44 w0_45 (mi 47) (mi 48) (mi 49) (mi 50) (mi 51) (mi 54) (mi 56) fm_trust fm_letter fm_reportPlace fm_reportKind fm_struck fm_reportMonth fm_reportDay fm_reportKnown fm_deedMonth fm_deedDay fm_deedLong fm_deedKind fm_kept fm_tape z1 z2 z3 z4 z5 z6 fm_official fm_aside fm_worth fm_out)
set_option maxHeartbeats 4000000 in
set_option maxRecDepth 100000 in
theorem sX12_trusted (l : Launch) (dC : Nat → ClassId) (dI : Nat → Nat → Nat) (sz : Nat) (h0 : Nat) (mi : Nat → Int32) (mr : Nat → Nat) (km : Nat → ClassId) (fm_must : Nat → Int32) (fm_least : Nat → Int32) (fm_pin : Nat → Int32) (fm_ways : Nat → Int32) (fm_verdict : Nat → Int32) (fm_row : Nat → Int32) (fm_struck : Nat → Int32) (fm_reportKnown : Nat → Int32) (fm_reportPlace : Nat → Int32) (fm_reportMonth : Nat → Int32) (fm_reportDay : Nat → Int32) (fm_reportKind : Nat → Int32) (fm_trust : Nat → Int32) (fm_letter : Nat → Int32) (fm_deedMonth : Nat → Int32) (fm_deedDay : Nat → Int32) (fm_deedLong : Nat → Int32) (fm_deedKind : Nat → Int32) (fm_kept : Nat → Int32) (fm_tape : Nat → Int32) (fm_official : Nat → Int32) (fm_aside : Nat → Int32) (fm_worth : Nat → Int32) (fm_out : Nat → Int32) (p1 : Int32) (p2 : Int32) (gmi_0 : gi (mi 0) 0 24) (gmi_1 : gi (mi 1) 0 5) (gmi_2 : gi (mi 2) 0 5) (gmi_4 : gi (mi 4) 0 1) (gmi_7 : gi (mi 7) 0 6) (gmi_10 : gi (mi 10) 0 24) (gmi_17 : gi (mi 17) 0 8) (gmi_23 : gi (mi 23) 0 300) (gmi_24 : gi (mi 24) 0 1) (gmi_26 : gi (mi 26) 0 1600) (gmi_29 : gi (mi 29) 0 1600) (gmi_30 : gi (mi 30) 0 1600) (gmi_33 : gi (mi 33) 0 1) (gmi_37 : gi (mi 37) 0 1) (gmi_41 : gi (mi 41) 0 24) (gmi_50 : gi (mi 50) 0 1) (gmi_51 : gi (mi 51) 0 1) (gmi_56 : gi (mi 56) 0 80) (gfm_row : ga fm_row 24 0 23) (gfm_struck : ga fm_struck 24 0 1) (gfm_reportKnown : ga fm_reportKnown 24 0 999) (gfm_reportPlace : ga fm_reportPlace 24 0 5) (gfm_reportMonth : ga fm_reportMonth 24 0 23) (gfm_reportDay : ga fm_reportDay 24 0 999) : Met l yX12_trusted (.code yX12_trusted cX12_trusted 5 (some .int) :: wsGB) ({ frames := 5, cells := 0, slots := 0, locals := 119 }) (va_Pc [.ref h0, .int p1, .int p2] (fun U => U.heap.size = sz ∧ va_P (dC, dI) vwCl (MWn h0 mr km (mi 0) (mi 1) (mi 2) (mi 3) (mi 4) (mi 5) (mi 6) (mi 7) (mi 10) (mi 17) (mi 23) (mi 24) (mi 26) (mi 27) (mi 28) (mi 29) (mi 30) (mi 31) (mi 32) (mi 33) (mi 37) (mi 41) (mi 42) (mi 43) (mi 44) (mi 45) (mi 47) (mi 48) (mi 49) (mi 50) (mi 51) (mi 54) (mi 56) fm_trust fm_letter fm_reportPlace fm_reportKind fm_struck fm_reportMonth fm_reportDay fm_reportKnown fm_deedMonth fm_deedDay fm_deedLong fm_deedKind fm_kept fm_tape fm_must fm_least fm_pin fm_ways fm_verdict fm_row fm_official fm_aside fm_worth fm_out) U.heap ∧ va_K (dC, dI) vwCl (MT km) U ∧ va_D (fun _ => True) (MWn h0 mr km (mi 0) (mi 1) (mi 2) (mi 3) (mi 4) (mi 5) (mi 6) (mi 7) (mi 10) (mi 17) (mi 23) (mi 24) (mi 26) (mi 27) (mi 28) (mi 29) (mi 30) (mi 31) (mi 32) (mi 33) (mi 37) (mi 41) (mi 42) (mi 43) (mi 44) (mi 45) (mi 47) (mi 48) (mi 49) (mi 50) (mi 51) (mi 54) (mi 56) fm_trust fm_letter fm_reportPlace fm_reportKind fm_struck fm_reportMonth fm_reportDay fm_reportKnown fm_deedMonth fm_deedDay fm_deedLong fm_deedKind fm_kept fm_tape fm_must fm_least fm_pin fm_ways fm_verdict fm_row fm_official fm_aside fm_worth fm_out))) (va_Qi (fun (r : Int32) (u : Unit) => gi r (-2) 9) (fun _ t => ∃ (w0_37 : Int32) (w0_41 : Int32) (w0_44 : Int32) (w0_45 : Int32) (z1 : Nat → Int32) (z2 : Nat → Int32) (z3 : Nat → Int32) (z4 : Nat → Int32) (z5 : Nat → Int32) (z6 : Nat → Int32), pb_sX12_trusted dC dI (va_A (MWn h0 mr km (mi 0) (mi 1) (mi 2) (mi 3) (mi 4) (mi 5) (mi 6) (mi 7) (mi 10) (mi 17) (mi 23) (mi 24) (mi 26) (mi 27) (mi 28) (mi 29) (mi 30) (mi 31) (mi 32) (mi 33) (mi 37) (mi 41) (mi 42) (mi 43) (mi 44) (mi 45) (mi 47) (mi 48) (mi 49) (mi 50) (mi 51) (mi 54) (mi 56) fm_trust fm_letter fm_reportPlace fm_reportKind fm_struck fm_reportMonth fm_reportDay fm_reportKnown fm_deedMonth fm_deedDay fm_deedLong fm_deedKind fm_kept fm_tape fm_must fm_least fm_pin fm_ways fm_verdict fm_row fm_official fm_aside fm_worth fm_out) sz) h0 mi mr km fm_must fm_least fm_pin fm_ways fm_verdict fm_row fm_struck fm_reportKnown fm_reportPlace fm_reportMonth fm_reportDay fm_reportKind fm_trust fm_letter fm_deedMonth fm_deedDay fm_deedLong fm_deedKind fm_kept fm_tape fm_official fm_aside fm_worth fm_out p1 p2 w0_37 w0_41 w0_44 w0_45 z1 z2 z3 z4 z5 z6 t) (va_A (MWn h0 mr km (mi 0) (mi 1) (mi 2) (mi 3) (mi 4) (mi 5) (mi 6) (mi 7) (mi 10) (mi 17) (mi 23) (mi 24) (mi 26) (mi 27) (mi 28) (mi 29) (mi 30) (mi 31) (mi 32) (mi 33) (mi 37) (mi 41) (mi 42) (mi 43) (mi 44) (mi 45) (mi 47) (mi 48) (mi 49) (mi 50) (mi 51) (mi 54) (mi 56) fm_trust fm_letter fm_reportPlace fm_reportKind fm_struck fm_reportMonth fm_reportDay fm_reportKnown fm_deedMonth fm_deedDay fm_deedLong fm_deedKind fm_kept fm_tape fm_must fm_least fm_pin fm_ways fm_verdict fm_row fm_official fm_aside fm_worth fm_out) sz)) 0 0 (va_A (MWn h0 mr km (mi 0) (mi 1) (mi 2) (mi 3) (mi 4) (mi 5) (mi 6) (mi 7) (mi 10) (mi 17) (mi 23) (mi 24) (mi 26) (mi 27) (mi 28) (mi 29) (mi 30) (mi 31) (mi 32) (mi 33) (mi 37) (mi 41) (mi 42) (mi 43) (mi 44) (mi 45) (mi 47) (mi 48) (mi 49) (mi 50) (mi 51) (mi 54) (mi 56) fm_trust fm_letter fm_reportPlace fm_reportKind fm_struck fm_reportMonth fm_reportDay fm_reportKnown fm_deedMonth fm_deedDay fm_deedLong fm_deedKind fm_kept fm_tape fm_must fm_least fm_pin fm_ways fm_verdict fm_row fm_official fm_aside fm_worth fm_out) sz) := by
  refine Met.ofW (cc := cX12_trusted) (maxL := 5) (ret := (some .int)) (by decide) rfl ?_
  intro p e s m args below meth c s₁ B hml hv
  obtain ⟨rfl, hsz, hP, hK, hD0⟩ := hv
  have hx := B.exec
  have hb := B.bytes
  have hr := B.returns
  have hts := atoms_spec (ws := (.code yX12_trusted cX12_trusted 5 (some .int) :: wsGB)) B.pre
  have hown : s.vm.findClass RX12 = some m.cls := findClass_of_methodNamed B.named
  have hlocks := B.notSynchronized
  subst hsz
  have hD := hD0.self (sz := s.heap.size)
  generalize hAe : va_A (MWn h0 mr km (mi 0) (mi 1) (mi 2) (mi 3) (mi 4) (mi 5) (mi 6) (mi 7) (mi 10) (mi 17) (mi 23) (mi 24) (mi 26) (mi 27) (mi 28) (mi 29) (mi 30) (mi 31) (mi 32) (mi 33) (mi 37) (mi 41) (mi 42) (mi 43) (mi 44) (mi 45) (mi 47) (mi 48) (mi 49) (mi 50) (mi 51) (mi 54) (mi 56) fm_trust fm_letter fm_reportPlace fm_reportKind fm_struck fm_reportMonth fm_reportDay fm_reportKnown fm_deedMonth fm_deedDay fm_deedLong fm_deedKind fm_kept fm_tape fm_must fm_least fm_pin fm_ways fm_verdict fm_row fm_official fm_aside fm_worth fm_out) s.heap.size = A at hD ⊢
  have hA : ∀ q : Nat, s.heap.size ≤ q → A q := fun q h => by rw [← hAe]; exact Or.inr h
  have hS : va_S A s.heap s.heap [] := va_S.rf
  have hl := lv_entry ([.ref h0, .int p1, .int p2]) (n := 5) (Nat.le_of_ble_eq_true rfl)
  rw [lg_entry_eq]
  generalize (lg_sl ([.ref h0, .int p1, .int p2]) ++ List.replicate (5 - (lg_sl ([.ref h0, .int p1, .int p2])).length) Slot.unset).toArray = ls at hl ⊢
  have hl : lv_has ls 5 [(0, .ref h0), (1, .int p1), (2, .int p2)] := hl
  refine lv_aload_n hx hb dX12_trusted_0 rfl (lv_at hl 0 rfl) ?_
  refine lv_iload_n hx hb dX12_trusted_1 rfl (lv_at hl 1 rfl) ?_
  refine va_calli (va_runV (As := [.int p1]) (rest := []) ⟨hx, hb, hml, hown, hts⟩ (sX12_isTime l dC dI h0 mi mr km fm_trust fm_letter fm_reportPlace fm_reportKind fm_struck fm_reportMonth fm_reportDay fm_reportKnown fm_deedMonth fm_deedDay fm_deedLong fm_deedKind fm_kept fm_tape fm_must fm_least fm_pin fm_ways fm_verdict fm_row fm_official fm_aside fm_worth fm_out p1 gmi_0 gmi_1 gmi_2 gmi_4 gmi_7 gmi_10 gmi_17 gmi_23 gmi_24 gmi_26 gmi_29 gmi_30 gmi_33 gmi_37 gmi_41 gmi_50 gmi_51 gmi_56) (cwV 1 hts (gz_gV mGB_256 mGB_257 mGB_258 mGB_1 mGB_259 goodGB) rfl rfl rfl (by decide +kernel) ⟨Nat.le_of_ble_eq_true rfl, Nat.le_of_ble_eq_true rfl⟩) ⟨bl_R, mw_recv hK hP, fun U hU hW => ⟨rfl, by rw [hU]; exact hP, va_K.moved hW.alike hK⟩⟩ rfl rfl hl.1 rfl (lv_room (Nat.le_of_ble_eq_true rfl)) dX12_trusted_2 ⟨Nat.zero_le _, Nat.zero_le _⟩) hS (fun q _ h => h.elim) (fun q h => h.elim) (fun r_321 u t H1 locs ht hvm hw hB hz1 hk1 hS => ?_)
  obtain ⟨hw, hE⟩ := hw
  have hP := gz_keep hP hk1
  generalize H1 = H at hP hS ⊢
  have gr_321 : gi r_321 0 1 := hw.1
  have hqr_321 := hw.2
  refine lv_if_eq (tgt := 25) hx hb dX12_trusted_5 (by decide) (fun c_322 => ?_) (fun c_322 => ?_)
  · have g_323 : gi r_321 0 0 := gi_eq c_322 (gi_c 0 0 (by decide))
    refine lv_bipush (v := (-2)) hx hb dX12_trusted_25 (by decide) ?_
    exact W.iret (v := (-2)) hx hb hr (fun t ht hW => ⟨⟨(-2), (), rfl, (gi_w (gi_c (-2) (-2) (by decide)) (by decide)), (mi 37), (mi 41), (mi 44), (mi 45), fm_must, fm_least, fm_pin, fm_ways, fm_verdict, fm_row, gmi_37, gmi_41, gfm_row, by rw [ht]; exact hP, hD⟩, hS.F ht⟩) hS.2.2 dX12_trusted_27
  · have g_324 : gi r_321 1 1 := gi_ne_lo c_322 gr_321 (gi_c 0 0 (by decide)) (by decide)
    have g_325 : gi p1 0 999 := gi_cap (gi_any p1) (hqr_321 (gz_one g_324)) (by decide)
    refine lv_aload_n hx hb dX12_trusted_8 rfl (lv_at hl 0 rfl) ?_
    refine lv_iload_n hx hb dX12_trusted_9 rfl (lv_at hl 2 rfl) ?_
    refine va_calli (va_runV (As := [.int p2]) (rest := []) ⟨hx, hb, hml, hown, hts⟩ (sX12_isReport l dC dI h0 mi mr km fm_trust fm_letter fm_reportPlace fm_reportKind fm_struck fm_reportMonth fm_reportDay fm_reportKnown fm_deedMonth fm_deedDay fm_deedLong fm_deedKind fm_kept fm_tape fm_must fm_least fm_pin fm_ways fm_verdict fm_row fm_official fm_aside fm_worth fm_out p2 gmi_0 gmi_1 gmi_2 gmi_4 gmi_7 gmi_10 gmi_17 gmi_23 gmi_24 gmi_26 gmi_29 gmi_30 gmi_33 gmi_37 gmi_41 gmi_50 gmi_51 gmi_56) (cwV 1 hts (gz_gV mGB_235 mGB_236 mGB_237 mGB_1 mGB_238 goodGB) rfl rfl rfl (by decide +kernel) ⟨Nat.le_of_ble_eq_true rfl, Nat.le_of_ble_eq_true rfl⟩) ⟨bl_R, mw_recv hK hP, fun U hU hW => ⟨rfl, by rw [hU]; exact hP, va_K.moved hW.alike hK⟩⟩ rfl rfl hl.1 rfl (lv_room (Nat.le_of_ble_eq_true rfl)) dX12_trusted_10 ⟨Nat.zero_le _, Nat.zero_le _⟩) hS (fun q _ h => h.elim) (fun q h => h.elim) (fun r_326 u t H1 locs ht hvm hw hB hz1 hk1 hS => ?_)
    obtain ⟨hw, hE⟩ := hw
    have hP := gz_keep hP hk1
    generalize H1 = H at hP hS ⊢
    have gr_326 : gi r_326 0 1 := hw.1
    have hqr_326 := hw.2
    refine lv_if_eq (tgt := 25) hx hb dX12_trusted_13 (by decide) (fun c_327 => ?_) (fun c_327 => ?_)
    · have g_328 : gi r_326 0 0 := gi_eq c_327 (gi_c 0 0 (by decide))
      refine lv_bipush (v := (-2)) hx hb dX12_trusted_25 (by decide) ?_
      exact W.iret (v := (-2)) hx hb hr (fun t ht hW => ⟨⟨(-2), (), rfl, (gi_w (gi_c (-2) (-2) (by decide)) (by decide)), (mi 37), (mi 41), (mi 44), (mi 45), fm_must, fm_least, fm_pin, fm_ways, fm_verdict, fm_row, gmi_37, gmi_41, gfm_row, by rw [ht]; exact hP, hD⟩, hS.F ht⟩) hS.2.2 dX12_trusted_27
    · have g_329 : gi r_326 1 1 := gi_ne_lo c_327 gr_326 (gi_c 0 0 (by decide)) (by decide)
      have g_330 : gi p2 0 23 := gi_cap (gi_any p2) (hqr_326 (gz_one g_329)) (by decide)
      refine lv_aload_n hx hb dX12_trusted_16 rfl (lv_at hl 0 rfl) ?_
      refine va_get (D := (dC, dI)) (ci := 12) (v := .ref (mr 4)) (C := RX12) (T := TX12) (N := 57) hx hb hts (fun w h => List.mem_cons_of_mem _ (jnGB_X12 w h)) hown hK hP 0 rfl rfl 13 (by decide) (hts _ (List.mem_cons_of_mem _ mGB_15)) (fun _ h9 => h9) rfl dX12_trusted_17 ?_
      refine lv_iload_n hx hb dX12_trusted_20 rfl (lv_at hl 2 rfl) ?_
      refine va_zald hx hb hK hP 5 4 rfl rfl (gi_in g_330 (by decide)) dX12_trusted_21 ?_
      refine lv_topi (fun x_331 ex_331 => ?_)
      have gx_331 : gi x_331 0 1 := ga_at gfm_struck (gi_in g_330 (by decide)) ex_331
      refine lv_if_eq (tgt := 28) hx hb dX12_trusted_22 (by decide) (fun c_332 => ?_) (fun c_332 => ?_)
      · have g_333 : gi x_331 0 0 := gi_eq c_332 (gi_c 0 0 (by decide))
        refine lv_iconst (v := (-1)) hx hb dX12_trusted_28 (by decide) ?_
        refine lv_istore_n (lv' := [(3, .int (-1)), (0, .ref h0), (1, .int p1), (2, .int p2)]) hx hb dX12_trusted_29 rfl hl (by decide) rfl (fun ls hl => ?_)
        refine lv_bipush (v := 9) hx hb dX12_trusted_30 (by decide) ?_
        refine lv_istore (lv' := [(4, .int 9), (3, .int (-1)), (0, .ref h0), (1, .int p1), (2, .int p2)]) hx hb dX12_trusted_32 hl (by decide) rfl (fun ls hl => ?_)
        refine (lp_sX12_trusted h0 mi mr km fm_must fm_least fm_pin fm_ways fm_verdict fm_row fm_struck fm_reportKnown fm_reportPlace fm_reportMonth fm_reportDay fm_reportKind fm_trust fm_letter fm_deedMonth fm_deedDay fm_deedLong fm_deedKind fm_kept fm_tape fm_official fm_aside fm_worth fm_out p1 p2 gmi_0 gmi_1 gmi_2 gmi_4 gmi_7 gmi_10 gmi_17 gmi_23 gmi_24 gmi_26 gmi_29 gmi_30 gmi_33 gmi_37 gmi_41 gmi_50 gmi_51 gmi_56 gfm_row gfm_struck gfm_reportKnown gfm_reportPlace gfm_reportMonth gfm_reportDay hx hb hml hown hts hK hA (Nat.le_of_ble_eq_true rfl) (Nat.le_of_ble_eq_true rfl) (Nat.zero_le _) (Nat.zero_le _) (fun v w0_37 w0_41 w0_44 w0_45 z1 z2 z3 z4 z5 z6 H locs ls gv gw0_37 gw0_41 gz6 hP hD hS hl => ?_) (fun v w0_37 w0_41 w0_44 w0_45 z1 z2 z3 z4 z5 z6 H locs ls gv gw0_37 gw0_41 gz6 hP hD hS hl => ?_) 34) (-1) 9 (mi 37) (mi 41) (mi 44) (mi 45) fm_must fm_least fm_pin fm_ways fm_verdict fm_row _ _ _ g_325 g_330 (gi_w (gi_c (-1) (-1) (by decide)) (by decide)) (gi_w (gi_c 9 9 (by decide)) (by decide)) gmi_37 gmi_41 gfm_row (by have k9 : (9 : Int32).toInt = 9 := (by decide); omega) hP hD hS (lv_sub hl [2, 3, 4, 1, 0] rfl)
        · skip
          exact W.iret (v := v) hx hb hr (fun t ht hW => ⟨⟨v, (), rfl, (gi_w gv (by decide)), w0_37, w0_41, w0_44, w0_45, z1, z2, z3, z4, z5, z6, gw0_37, gw0_41, gz6, by rw [ht]; exact hP, hD⟩, hS.F ht⟩) hS.2.2 dX12_trusted_27
        · skip
          exact W.iret (v := v) hx hb hr (fun t ht hW => ⟨⟨v, (), rfl, (gi_w gv (by decide)), w0_37, w0_41, w0_44, w0_45, z1, z2, z3, z4, z5, z6, gw0_37, gw0_41, gz6, by rw [ht]; exact hP, hD⟩, hS.F ht⟩) hS.2.2 dX12_trusted_88
      · have g_334 : gi x_331 1 1 := gi_ne_lo c_332 gx_331 (gi_c 0 0 (by decide)) (by decide)
        refine lv_bipush (v := (-2)) hx hb dX12_trusted_25 (by decide) ?_
        exact W.iret (v := (-2)) hx hb hr (fun t ht hW => ⟨⟨(-2), (), rfl, (gi_w (gi_c (-2) (-2) (by decide)) (by decide)), (mi 37), (mi 41), (mi 44), (mi 45), fm_must, fm_least, fm_pin, fm_ways, fm_verdict, fm_row, gmi_37, gmi_41, gfm_row, by rw [ht]; exact hP, hD⟩, hS.F ht⟩) hS.2.2 dX12_trusted_27
theorem dX12_telling_0 : decode cX12_telling 0 = .ok (.aload_n 0, 1) := by decide +kernel
theorem dX12_telling_1 : decode cX12_telling 1 = .ok (.iload_n 1, 1) := by decide +kernel
theorem dX12_telling_2 : decode cX12_telling 2 = .ok (.invokevirtual 359, 3) := by decide +kernel
theorem dX12_telling_5 : decode cX12_telling 5 = .ok (.ifCond .ne 6, 3) := by decide +kernel
theorem dX12_telling_8 : decode cX12_telling 8 = .ok (.bipush (-2), 2) := by decide +kernel
theorem dX12_telling_10 : decode cX12_telling 10 = .ok (.ireturn, 1) := by decide +kernel
theorem dX12_telling_11 : decode cX12_telling 11 = .ok (.aload_n 0, 1) := by decide +kernel
theorem dX12_telling_12 : decode cX12_telling 12 = .ok (.iload_n 1, 1) := by decide +kernel
theorem dX12_telling_13 : decode cX12_telling 13 = .ok (.invokevirtual 362, 3) := by decide +kernel
theorem dX12_telling_16 : decode cX12_telling 16 = .ok (.iconst (-1), 1) := by decide +kernel
theorem dX12_telling_17 : decode cX12_telling 17 = .ok (.istore_n 2, 1) := by decide +kernel
theorem dX12_telling_18 : decode cX12_telling 18 = .ok (.iconst 0, 1) := by decide +kernel
theorem dX12_telling_19 : decode cX12_telling 19 = .ok (.istore_n 3, 1) := by decide +kernel
theorem dX12_telling_20 : decode cX12_telling 20 = .ok (.iconst 1, 1) := by decide +kernel
theorem dX12_telling_21 : decode cX12_telling 21 = .ok (.istore 4, 2) := by decide +kernel
theorem dX12_telling_23 : decode cX12_telling 23 = .ok (.iload 4, 2) := by decide +kernel
theorem dX12_telling_25 : decode cX12_telling 25 = .ok (.aload_n 0, 1) := by decide +kernel
theorem dX12_telling_26 : decode cX12_telling 26 = .ok (.getfield 117, 3) := by decide +kernel
theorem dX12_telling_29 : decode cX12_telling 29 = .ok (.if_icmp .gt 67, 3) := by decide +kernel
theorem dX12_telling_32 : decode cX12_telling 32 = .ok (.iconst 0, 1) := by decide +kernel
theorem dX12_telling_33 : decode cX12_telling 33 = .ok (.istore 5, 2) := by decide +kernel
theorem dX12_telling_35 : decode cX12_telling 35 = .ok (.bipush 29, 2) := by decide +kernel
theorem dX12_telling_37 : decode cX12_telling 37 = .ok (.iload 4, 2) := by decide +kernel
theorem dX12_telling_39 : decode cX12_telling 39 = .ok (.imul, 1) := by decide +kernel
theorem dX12_telling_40 : decode cX12_telling 40 = .ok (.istore 6, 2) := by decide +kernel
theorem dX12_telling_42 : decode cX12_telling 42 = .ok (.iload 6, 2) := by decide +kernel
theorem dX12_telling_44 : decode cX12_telling 44 = .ok (.bipush 30, 2) := by decide +kernel
theorem dX12_telling_46 : decode cX12_telling 46 = .ok (.iload 4, 2) := by decide +kernel
theorem dX12_telling_48 : decode cX12_telling 48 = .ok (.imul, 1) := by decide +kernel
theorem dX12_telling_49 : decode cX12_telling 49 = .ok (.if_icmp .gt 24, 3) := by decide +kernel
theorem dX12_telling_52 : decode cX12_telling 52 = .ok (.iload 5, 2) := by decide +kernel
theorem dX12_telling_54 : decode cX12_telling 54 = .ok (.aload_n 0, 1) := by decide +kernel
theorem dX12_telling_55 : decode cX12_telling 55 = .ok (.iload 4, 2) := by decide +kernel
theorem dX12_telling_57 : decode cX12_telling 57 = .ok (.iload 6, 2) := by decide +kernel
theorem dX12_telling_59 : decode cX12_telling 59 = .ok (.invokevirtual 388, 3) := by decide +kernel
theorem dX12_telling_62 : decode cX12_telling 62 = .ok (.invokestatic 219, 3) := by decide +kernel
theorem dX12_telling_65 : decode cX12_telling 65 = .ok (.istore 5, 2) := by decide +kernel
theorem dX12_telling_67 : decode cX12_telling 67 = .ok (.iinc 6 1, 3) := by decide +kernel
theorem dX12_telling_70 : decode cX12_telling 70 = .ok (.goto (-28), 3) := by decide +kernel
theorem dX12_telling_73 : decode cX12_telling 73 = .ok (.iload_n 2, 1) := by decide +kernel
theorem dX12_telling_74 : decode cX12_telling 74 = .ok (.iconst (-1), 1) := by decide +kernel
theorem dX12_telling_75 : decode cX12_telling 75 = .ok (.if_icmp .eq 9, 3) := by decide +kernel
theorem dX12_telling_78 : decode cX12_telling 78 = .ok (.iload 5, 2) := by decide +kernel
theorem dX12_telling_80 : decode cX12_telling 80 = .ok (.iload_n 3, 1) := by decide +kernel
theorem dX12_telling_81 : decode cX12_telling 81 = .ok (.if_icmp .ge 9, 3) := by decide +kernel
theorem dX12_telling_84 : decode cX12_telling 84 = .ok (.iload 4, 2) := by decide +kernel
theorem dX12_telling_86 : decode cX12_telling 86 = .ok (.istore_n 2, 1) := by decide +kernel
theorem dX12_telling_87 : decode cX12_telling 87 = .ok (.iload 5, 2) := by decide +kernel
theorem dX12_telling_89 : decode cX12_telling 89 = .ok (.istore_n 3, 1) := by decide +kernel
theorem dX12_telling_90 : decode cX12_telling 90 = .ok (.iinc 4 1, 3) := by decide +kernel
theorem dX12_telling_93 : decode cX12_telling 93 = .ok (.goto (-70), 3) := by decide +kernel
theorem dX12_telling_96 : decode cX12_telling 96 = .ok (.iload_n 2, 1) := by decide +kernel
theorem dX12_telling_97 : decode cX12_telling 97 = .ok (.ireturn, 1) := by decide +kernel
set_option maxHeartbeats 4000000 in
set_option maxRecDepth 100000 in
theorem lp_sX12_telling {p : Program} {l : Launch} {e : Env} {R : Room} {s : State} {m : MethodId} {args : Array Value} {below : List Frame} {meth : Method} {c : Code} {Q : State → Prop} {A : Nat → Prop} {cells slots : Nat} {dC : Nat → ClassId} {dI : Nat → Nat → Nat} (h0 : Nat) (mi : Nat → Int32) (mr : Nat → Nat) (km : Nat → ClassId) (fm_must : Nat → Int32) (fm_least : Nat → Int32) (fm_pin : Nat → Int32) (fm_ways : Nat → Int32) (fm_verdict : Nat → Int32) (fm_row : Nat → Int32) (fm_struck : Nat → Int32) (fm_reportKnown : Nat → Int32) (fm_reportPlace : Nat → Int32) (fm_reportMonth : Nat → Int32) (fm_reportDay : Nat → Int32) (fm_reportKind : Nat → Int32) (fm_trust : Nat → Int32) (fm_letter : Nat → Int32) (fm_deedMonth : Nat → Int32) (fm_deedDay : Nat → Int32) (fm_deedLong : Nat → Int32) (fm_deedKind : Nat → Int32) (fm_kept : Nat → Int32) (fm_tape : Nat → Int32) (fm_official : Nat → Int32) (fm_aside : Nat → Int32) (fm_worth : Nat → Int32) (fm_out : Nat → Int32) (p1 : Int32) (gmi_0 : gi (mi 0) 0 24) (gmi_1 : gi (mi 1) 0 5) (gmi_2 : gi (mi 2) 0 5) (gmi_4 : gi (mi 4) 0 1) (gmi_7 : gi (mi 7) 0 6) (gmi_10 : gi (mi 10) 0 24) (gmi_17 : gi (mi 17) 0 8) (gmi_23 : gi (mi 23) 0 300) (gmi_24 : gi (mi 24) 0 1) (gmi_26 : gi (mi 26) 0 1600) (gmi_29 : gi (mi 29) 0 1600) (gmi_30 : gi (mi 30) 0 1600) (gmi_33 : gi (mi 33) 0 1) (gmi_37 : gi (mi 37) 0 1) (gmi_41 : gi (mi 41) 0 24) (gmi_50 : gi (mi 50) 0 1) (gmi_51 : gi (mi 51) 0 1) (gmi_56 : gi (mi 56) 0 80) (gfm_row : ga fm_row 24 0 23) (gfm_struck : ga fm_struck 24 0 1) (gfm_reportKnown : ga fm_reportKnown 24 0 999) (gfm_reportPlace : ga fm_reportPlace 24 0 5) (gfm_reportMonth : ga fm_reportMonth 24 0 23) (gfm_reportDay : ga fm_reportDay 24 0 999) (hx : p.tables.exec = Jvm.exec) (hb : c.code = cX12_telling) (hml : c.maxLocals = 7) (hown : s.vm.findClass RX12 = some m.cls) (hts : ∀ w ∈ ((.code yX12_telling cX12_telling 7 (some .int) :: wsGB) : List Cond), w.before args s = true) (hK : va_K (dC, dI) vwCl (MT km) s) (hA : ∀ q : Nat, s.heap.size ≤ q → A q) (hRf : 5 ≤ R.frames) (hRl : 123 ≤ R.locals) (hRc : cells ≤ R.cells) (hRs : slots ≤ R.slots) (kr10 : ∀ (v : Int32) (w0_37 : Int32) (w0_41 : Int32) (z1 : Nat → Int32) (z2 : Nat → Int32) (z3 : Nat → Int32) (z4 : Nat → Int32) (z5 : Nat → Int32) (z6 : Nat → Int32) (H : Heap) (locs : List Loc) (ls : Array Slot), gi v (-2) (-2) → gi w0_37 0 1 → gi w0_41 0 24 → ga z6 24 0 23 → va_P (dC, dI) vwCl (MWn h0 mr km (mi 0) (mi 1) (mi 2) (mi 3) (mi 4) (mi 5) (mi 6) (mi 7) (mi 10) (mi 17) (mi 23) (mi 24) (mi 26) (mi 27) (mi 28) (mi 29) (mi 30) (mi 31) (mi 32) (mi 33) w0_37 w0_41 (mi 42) (mi 43) (mi 44) (mi 45) (mi 47) (mi 48) (mi 49) (mi 50) (mi 51) (mi 54) (mi 56) fm_trust fm_letter fm_reportPlace fm_reportKind fm_struck fm_reportMonth fm_reportDay fm_reportKnown fm_deedMonth fm_deedDay fm_deedLong fm_deedKind fm_kept fm_tape z1 z2 z3 z4 z5 z6 fm_official fm_aside fm_worth fm_out) H → va_D A (MWn h0 mr km (mi 0) (mi 1) (mi 2) (mi 3) (mi 4) (mi 5) (mi 6) (mi 7) (mi 10) (mi 17) (mi 23) (mi 24) (mi 26) (mi 27) (mi 28) (mi 29) (mi 30) (mi 31) (mi 32) (mi 33) w0_37 w0_41 (mi 42) (mi 43) (mi 44) (mi 45) (mi 47) (mi 48) (mi 49) (mi 50) (mi 51) (mi 54) (mi 56) fm_trust fm_letter fm_reportPlace fm_reportKind fm_struck fm_reportMonth fm_reportDay fm_reportKnown fm_deedMonth fm_deedDay fm_deedLong fm_deedKind fm_kept fm_tape z1 z2 z3 z4 z5 z6 fm_official fm_aside fm_worth fm_out) → va_S A s.heap H locs → lv_has ls 7 [] → W p l e R s m args below meth c H locs cells slots Q (F0 m 10 ls [.int v])) (kr97 : ∀ (v : Int32) (w0_37 : Int32) (w0_41 : Int32) (z1 : Nat → Int32) (z2 : Nat → Int32) (z3 : Nat → Int32) (z4 : Nat → Int32) (z5 : Nat → Int32) (z6 : Nat → Int32) (H : Heap) (locs : List Loc) (ls : Array Slot), gi v (-1) 24 → gi w0_37 0 1 → gi w0_41 0 24 → ga z6 24 0 23 → va_P (dC, dI) vwCl (MWn h0 mr km (mi 0) (mi 1) (mi 2) (mi 3) (mi 4) (mi 5) (mi 6) (mi 7) (mi 10) (mi 17) (mi 23) (mi 24) (mi 26) (mi 27) (mi 28) (mi 29) (mi 30) (mi 31) (mi 32) (mi 33) w0_37 w0_41 (mi 42) (mi 43) (mi 44) (mi 45) (mi 47) (mi 48) (mi 49) (mi 50) (mi 51) (mi 54) (mi 56) fm_trust fm_letter fm_reportPlace fm_reportKind fm_struck fm_reportMonth fm_reportDay fm_reportKnown fm_deedMonth fm_deedDay fm_deedLong fm_deedKind fm_kept fm_tape z1 z2 z3 z4 z5 z6 fm_official fm_aside fm_worth fm_out) H → va_D A (MWn h0 mr km (mi 0) (mi 1) (mi 2) (mi 3) (mi 4) (mi 5) (mi 6) (mi 7) (mi 10) (mi 17) (mi 23) (mi 24) (mi 26) (mi 27) (mi 28) (mi 29) (mi 30) (mi 31) (mi 32) (mi 33) w0_37 w0_41 (mi 42) (mi 43) (mi 44) (mi 45) (mi 47) (mi 48) (mi 49) (mi 50) (mi 51) (mi 54) (mi 56) fm_trust fm_letter fm_reportPlace fm_reportKind fm_struck fm_reportMonth fm_reportDay fm_reportKnown fm_deedMonth fm_deedDay fm_deedLong fm_deedKind fm_kept fm_tape z1 z2 z3 z4 z5 z6 fm_official fm_aside fm_worth fm_out) → va_S A s.heap H locs → lv_has ls 7 [] → W p l e R s m args below meth c H locs cells slots Q (F0 m 97 ls [.int v])) : ∀ z : Nat, (∀ (v2 : Int32) (v3 : Int32) (v4 : Int32) (w0_37 : Int32) (w0_41 : Int32) (z1 : Nat → Int32) (z2 : Nat → Int32) (z3 : Nat → Int32) (z4 : Nat → Int32) (z5 : Nat → Int32) (z6 : Nat → Int32) (H : Heap) (locs : List Loc) (ls : Array Slot), gi p1 0 999 → gi v2 (-1) 24 → gi v3 0 2147483647 → gi v4 1 25 → gi w0_37 0 1 → gi w0_41 0 24 → ga z6 24 0 23 → 48651 + (-1946) * v4.toInt < (z : Int) → va_P (dC, dI) vwCl (MWn h0 mr km (mi 0) (mi 1) (mi 2) (mi 3) (mi 4) (mi 5) (mi 6) (mi 7) (mi 10) (mi 17) (mi 23) (mi 24) (mi 26) (mi 27) (mi 28) (mi 29) (mi 30) (mi 31) (mi 32) (mi 33) w0_37 w0_41 (mi 42) (mi 43) (mi 44) (mi 45) (mi 47) (mi 48) (mi 49) (mi 50) (mi 51) (mi 54) (mi 56) fm_trust fm_letter fm_reportPlace fm_reportKind fm_struck fm_reportMonth fm_reportDay fm_reportKnown fm_deedMonth fm_deedDay fm_deedLong fm_deedKind fm_kept fm_tape z1 z2 z3 z4 z5 z6 fm_official fm_aside fm_worth fm_out) H → va_D A (MWn h0 mr km (mi 0) (mi 1) (mi 2) (mi 3) (mi 4) (mi 5) (mi 6) (mi 7) (mi 10) (mi 17) (mi 23) (mi 24) (mi 26) (mi 27) (mi 28) (mi 29) (mi 30) (mi 31) (mi 32) (mi 33) w0_37 w0_41 (mi 42) (mi 43) (mi 44) (mi 45) (mi 47) (mi 48) (mi 49) (mi 50) (mi 51) (mi 54) (mi 56) fm_trust fm_letter fm_reportPlace fm_reportKind fm_struck fm_reportMonth fm_reportDay fm_reportKnown fm_deedMonth fm_deedDay fm_deedLong fm_deedKind fm_kept fm_tape z1 z2 z3 z4 z5 z6 fm_official fm_aside fm_worth fm_out) → va_S A s.heap H locs → lv_has ls 7 [(0, .ref h0), (1, .int p1), (2, .int v2), (3, .int v3), (4, .int v4)] → W p l e R s m args below meth c H locs cells slots Q (F0 m 23 ls [])) ∧ (∀ (v2 : Int32) (v3 : Int32) (v4 : Int32) (v5 : Int32) (v6 : Int32) (w0_37 : Int32) (w0_41 : Int32) (z1 : Nat → Int32) (z2 : Nat → Int32) (z3 : Nat → Int32) (z4 : Nat → Int32) (z5 : Nat → Int32) (z6 : Nat → Int32) (H : Heap) (locs : List Loc) (ls : Array Slot), gi p1 0 999 → gi v2 (-1) 24 → gi v3 0 2147483647 → gi v4 1 24 → gi v5 0 2147483647 → gi v6 29 999 → gi w0_37 0 1 → gi w0_41 0 24 → ga z6 24 0 23 → 48704 + (-1946) * v4.toInt + (-2) * v6.toInt < (z : Int) → va_P (dC, dI) vwCl (MWn h0 mr km (mi 0) (mi 1) (mi 2) (mi 3) (mi 4) (mi 5) (mi 6) (mi 7) (mi 10) (mi 17) (mi 23) (mi 24) (mi 26) (mi 27) (mi 28) (mi 29) (mi 30) (mi 31) (mi 32) (mi 33) w0_37 w0_41 (mi 42) (mi 43) (mi 44) (mi 45) (mi 47) (mi 48) (mi 49) (mi 50) (mi 51) (mi 54) (mi 56) fm_trust fm_letter fm_reportPlace fm_reportKind fm_struck fm_reportMonth fm_reportDay fm_reportKnown fm_deedMonth fm_deedDay fm_deedLong fm_deedKind fm_kept fm_tape z1 z2 z3 z4 z5 z6 fm_official fm_aside fm_worth fm_out) H → va_D A (MWn h0 mr km (mi 0) (mi 1) (mi 2) (mi 3) (mi 4) (mi 5) (mi 6) (mi 7) (mi 10) (mi 17) (mi 23) (mi 24) (mi 26) (mi 27) (mi 28) (mi 29) (mi 30) (mi 31) (mi 32) (mi 33) w0_37 w0_41 (mi 42) (mi 43) (mi 44) (mi 45) (mi 47) (mi 48) (mi 49) (mi 50) (mi 51) (mi 54) (mi 56) fm_trust fm_letter fm_reportPlace fm_reportKind fm_struck fm_reportMonth fm_reportDay fm_reportKnown fm_deedMonth fm_deedDay fm_deedLong fm_deedKind fm_kept fm_tape z1 z2 z3 z4 z5 z6 fm_official fm_aside fm_worth fm_out) → va_S A s.heap H locs → lv_has ls 7 [(0, .ref h0), (1, .int p1), (2, .int v2), (3, .int v3), (4, .int v4), (5, .int v5), (6, .int v6)] → W p l e R s m args below meth c H locs cells slots Q (F0 m 42 ls [])) := by
  intro z
  induction z with
  | zero =>
    refine ⟨?_, ?_⟩
    · intro v2 v3 v4 w0_37 w0_41 z1 z2 z3 z4 z5 z6 H locs ls gf_p1 gv2 gv3 gv4 gw0_37 gw0_41 gz6 hmu hP hD hS hl
      exact absurd hmu (by have hv41 := gv4.1; have hv42 := gv4.2; omega)
    · intro v2 v3 v4 v5 v6 w0_37 w0_41 z1 z2 z3 z4 z5 z6 H locs ls gf_p1 gv2 gv3 gv4 gv5 gv6 gw0_37 gw0_41 gz6 hmu hP hD hS hl
      exact absurd hmu (by have hv41 := gv4.1; have hv42 := gv4.2; have hv61 := gv6.1; have hv62 := gv6.2; omega)
  | succ z ih =>
    refine ⟨?_, ?_⟩
    · intro v2 v3 v4 w0_37 w0_41 z1 z2 z3 z4 z5 z6 H locs ls gf_p1 gv2 gv3 gv4 gw0_37 gw0_41 gz6 hmu hP hD hS hl
      refine lv_iload hx hb dX12_telling_23 (lv_at hl 4 rfl) ?_
      refine lv_aload_n hx hb dX12_telling_25 rfl (lv_at hl 0 rfl) ?_
      refine va_get (D := (dC, dI)) (ci := 12) (v := .int (mi 0)) (C := RX12) (T := TX12) (N := 57) hx hb hts (fun w h => List.mem_cons_of_mem _ (jnGB_X12 w h)) hown hK hP 0 rfl rfl 0 (by decide) (hts _ (List.mem_cons_of_mem _ mGB_103)) (fun _ h9 => h9) rfl dX12_telling_26 ?_
      refine lv_icmp_gt (tgt := 96) hx hb dX12_telling_29 (by decide) (fun c_620 => ?_) (fun c_620 => ?_)
      · refine lv_iload_n hx hb dX12_telling_96 rfl (lv_at hl 2 rfl) ?_
        exact kr97 v2 w0_37 w0_41 z1 z2 z3 z4 z5 z6 _ _ _ gv2 gw0_37 gw0_41 gz6 hP hD hS (lv_sub hl [] rfl)
      · have g_621 : gi v4 1 24 := gi_le_l (Int32.not_lt.mp c_620) gv4 gmi_0
        have g_622 : gi (mi 0) 1 24 := gi_le_r (Int32.not_lt.mp c_620) gv4 gmi_0
        refine lv_iconst (v := 0) hx hb dX12_telling_32 (by decide) ?_
        refine lv_istore (lv' := [(5, .int 0), (0, .ref h0), (1, .int p1), (2, .int v2), (3, .int v3), (4, .int v4)]) hx hb dX12_telling_33 hl (by decide) rfl (fun ls hl => ?_)
        refine lv_bipush (v := 29) hx hb dX12_telling_35 (by decide) ?_
        refine lv_iload hx hb dX12_telling_37 (lv_at hl 5 rfl) ?_
        refine lv_imul hx hb dX12_telling_39 ?_
        refine lv_topi (fun x_623 ex_623 => ?_)
        have gx_623 : gi x_623 29 696 := gi_mul ex_623 (gi_c 29 29 (by decide)) g_621 (by decide)
        refine lv_istore (lv' := [(6, .int x_623), (5, .int 0), (0, .ref h0), (1, .int p1), (2, .int v2), (3, .int v3), (4, .int v4)]) hx hb dX12_telling_40 hl (by decide) rfl (fun ls hl => ?_)
        exact ih.2 v2 v3 v4 0 x_623 w0_37 w0_41 z1 z2 z3 z4 z5 z6 _ _ _ gf_p1 gv2 gv3 g_621 (gi_w (gi_c 0 0 (by decide)) (by decide)) (gi_w gx_623 (by decide)) gw0_37 gw0_41 gz6 (by have av4 := gv4.1; have bv4 := gv4.2; have qgx_623 := gx_623.1; have rgx_623 := gx_623.2; have qgv4 := g_621.1; have rgv4 := g_621.2; omega) hP hD hS (lv_sub hl [2, 3, 4, 5, 6, 1, 0] rfl)
    · intro v2 v3 v4 v5 v6 w0_37 w0_41 z1 z2 z3 z4 z5 z6 H locs ls gf_p1 gv2 gv3 gv4 gv5 gv6 gw0_37 gw0_41 gz6 hmu hP hD hS hl
      refine lv_iload hx hb dX12_telling_42 (lv_at hl 6 rfl) ?_
      refine lv_bipush (v := 30) hx hb dX12_telling_44 (by decide) ?_
      refine lv_iload hx hb dX12_telling_46 (lv_at hl 4 rfl) ?_
      refine lv_imul hx hb dX12_telling_48 ?_
      refine lv_topi (fun x_624 ex_624 => ?_)
      have gx_624 : gi x_624 30 720 := gi_mul ex_624 (gi_c 30 30 (by decide)) gv4 (by decide)
      refine lv_icmp_gt (tgt := 73) hx hb dX12_telling_49 (by decide) (fun c_625 => ?_) (fun c_625 => ?_)
      · have g_626 : gi v6 31 999 := gi_lt_r c_625 gx_624 gv6 (by decide)
        refine lv_iload_n hx hb dX12_telling_73 rfl (lv_at hl 2 rfl) ?_
        refine lv_iconst (v := (-1)) hx hb dX12_telling_74 (by decide) ?_
        refine lv_icmp_eq (tgt := 84) hx hb dX12_telling_75 (by decide) (fun c_627 => ?_) (fun c_627 => ?_)
        · have g_628 : gi v2 (-1) (-1) := gi_eq c_627 (gi_c (-1) (-1) (by decide))
          refine lv_iload hx hb dX12_telling_84 (lv_at hl 4 rfl) ?_
          refine lv_istore_n (lv' := [(2, .int v4), (0, .ref h0), (1, .int p1), (3, .int v3), (4, .int v4), (5, .int v5), (6, .int v6)]) hx hb dX12_telling_86 rfl hl (by decide) rfl (fun ls hl => ?_)
          refine lv_iload hx hb dX12_telling_87 (lv_at hl 5 rfl) ?_
          refine lv_istore_n (lv' := [(3, .int v5), (2, .int v4), (0, .ref h0), (1, .int p1), (4, .int v4), (5, .int v5), (6, .int v6)]) hx hb dX12_telling_89 rfl hl (by decide) rfl (fun ls hl => ?_)
          obtain ⟨x_629, ex_629⟩ : ∃ y : Int32, y = v4 + 1 := ⟨_, rfl⟩
          have gx_629 : gi x_629 2 25 := gi_add ex_629 gv4 (gi_c 1 1 (by decide)) (by decide)
          refine lv_iinc (v := x_629) (lv' := [(4, .int x_629), (3, .int v5), (2, .int v4), (0, .ref h0), (1, .int p1), (5, .int v5), (6, .int v6)]) hx hb dX12_telling_90 hl (k := 4) rfl (by rw [ex_629]; rfl) (by decide) rfl (fun ls hl => ?_)
          refine lv_goto (tgt := 23) hx hb dX12_telling_93 (by decide) ?_
          exact ih.1 v4 v5 x_629 w0_37 w0_41 z1 z2 z3 z4 z5 z6 _ _ _ gf_p1 (gi_w gv4 (by decide)) gv5 (gi_w gx_629 (by decide)) gw0_37 gw0_41 gz6 (by have av4 := gv4.1; have bv4 := gv4.2; have av6 := gv6.1; have bv6 := gv6.2; have qgx_629 := gx_629.1; have rgx_629 := gx_629.2; have igx_629 : x_629.toInt = v4.toInt + 1 := (by have hc1 : (1 : Int32).toInt = 1 := (by decide); have h9 := gi_addI ex_629 (by have h1 := gv4.1; have h2 := (gi_c 1 1 (by decide)).1; have h3 := gv4.2; have h4 := (gi_c 1 1 (by decide)).2; omega) (by have h1 := gv4.1; have h2 := (gi_c 1 1 (by decide)).1; have h3 := gv4.2; have h4 := (gi_c 1 1 (by decide)).2; omega); rw [hc1] at h9; exact h9); have qgv4 := gv4.1; have rgv4 := gv4.2; omega) hP hD hS (lv_sub hl [3, 4, 2, 1, 0] rfl)
        · have g_630 : gi v2 0 24 := gi_ne_lo c_627 gv2 (gi_c (-1) (-1) (by decide)) (by decide)
          refine lv_iload hx hb dX12_telling_78 (lv_at hl 5 rfl) ?_
          refine lv_iload_n hx hb dX12_telling_80 rfl (lv_at hl 3 rfl) ?_
          refine lv_icmp_ge (tgt := 90) hx hb dX12_telling_81 (by decide) (fun c_631 => ?_) (fun c_631 => ?_)
          · obtain ⟨x_632, ex_632⟩ : ∃ y : Int32, y = v4 + 1 := ⟨_, rfl⟩
            have gx_632 : gi x_632 2 25 := gi_add ex_632 gv4 (gi_c 1 1 (by decide)) (by decide)
            refine lv_iinc (v := x_632) (lv' := [(4, .int x_632), (0, .ref h0), (1, .int p1), (2, .int v2), (3, .int v3), (5, .int v5), (6, .int v6)]) hx hb dX12_telling_90 hl (k := 4) rfl (by rw [ex_632]; rfl) (by decide) rfl (fun ls hl => ?_)
            refine lv_goto (tgt := 23) hx hb dX12_telling_93 (by decide) ?_
            exact ih.1 v2 v3 x_632 w0_37 w0_41 z1 z2 z3 z4 z5 z6 _ _ _ gf_p1 (gi_w g_630 (by decide)) gv3 (gi_w gx_632 (by decide)) gw0_37 gw0_41 gz6 (by have av4 := gv4.1; have bv4 := gv4.2; have av6 := gv6.1; have bv6 := gv6.2; have qgx_632 := gx_632.1; have rgx_632 := gx_632.2; have igx_632 : x_632.toInt = v4.toInt + 1 := (by have hc1 : (1 : Int32).toInt = 1 := (by decide); have h9 := gi_addI ex_632 (by have h1 := gv4.1; have h2 := (gi_c 1 1 (by decide)).1; have h3 := gv4.2; have h4 := (gi_c 1 1 (by decide)).2; omega) (by have h1 := gv4.1; have h2 := (gi_c 1 1 (by decide)).1; have h3 := gv4.2; have h4 := (gi_c 1 1 (by decide)).2; omega); rw [hc1] at h9; exact h9); have qgv4 := gv4.1; have rgv4 := gv4.2; omega) hP hD hS (lv_sub hl [1, 2, 3, 4, 0] rfl)
          · have g_633 : gi v5 0 2147483646 := gi_lt_l (Int32.not_le.mp c_631) gv5 gv3 (by decide)
            have g_634 : gi v3 1 2147483647 := gi_lt_r (Int32.not_le.mp c_631) gv5 gv3 (by decide)
            refine lv_iload hx hb dX12_telling_84 (lv_at hl 4 rfl) ?_
            refine lv_istore_n (lv' := [(2, .int v4), (0, .ref h0), (1, .int p1), (3, .int v3), (4, .int v4), (5, .int v5), (6, .int v6)]) hx hb dX12_telling_86 rfl hl (by decide) rfl (fun ls hl => ?_)
            refine lv_iload hx hb dX12_telling_87 (lv_at hl 5 rfl) ?_
            refine lv_istore_n (lv' := [(3, .int v5), (2, .int v4), (0, .ref h0), (1, .int p1), (4, .int v4), (5, .int v5), (6, .int v6)]) hx hb dX12_telling_89 rfl hl (by decide) rfl (fun ls hl => ?_)
            obtain ⟨x_635, ex_635⟩ : ∃ y : Int32, y = v4 + 1 := ⟨_, rfl⟩
            have gx_635 : gi x_635 2 25 := gi_add ex_635 gv4 (gi_c 1 1 (by decide)) (by decide)
            refine lv_iinc (v := x_635) (lv' := [(4, .int x_635), (3, .int v5), (2, .int v4), (0, .ref h0), (1, .int p1), (5, .int v5), (6, .int v6)]) hx hb dX12_telling_90 hl (k := 4) rfl (by rw [ex_635]; rfl) (by decide) rfl (fun ls hl => ?_)
            refine lv_goto (tgt := 23) hx hb dX12_telling_93 (by decide) ?_
            exact ih.1 v4 v5 x_635 w0_37 w0_41 z1 z2 z3 z4 z5 z6 _ _ _ gf_p1 (gi_w gv4 (by decide)) (gi_w g_633 (by decide)) (gi_w gx_635 (by decide)) gw0_37 gw0_41 gz6 (by have av4 := gv4.1; have bv4 := gv4.2; have av6 := gv6.1; have bv6 := gv6.2; have qgx_635 := gx_635.1; have rgx_635 := gx_635.2; have igx_635 : x_635.toInt = v4.toInt + 1 := (by have hc1 : (1 : Int32).toInt = 1 := (by decide); have h9 := gi_addI ex_635 (by have h1 := gv4.1; have h2 := (gi_c 1 1 (by decide)).1; have h3 := gv4.2; have h4 := (gi_c 1 1 (by decide)).2; omega) (by have h1 := gv4.1; have h2 := (gi_c 1 1 (by decide)).1; have h3 := gv4.2; have h4 := (gi_c 1 1 (by decide)).2; omega); rw [hc1] at h9; exact h9); have qgv4 := gv4.1; have rgv4 := gv4.2; omega) hP hD hS (lv_sub hl [3, 4, 2, 1, 0] rfl)
      · have g_636 : gi v6 29 720 := gi_le_l (Int32.not_lt.mp c_625) gv6 gx_624
        refine lv_iload hx hb dX12_telling_52 (lv_at hl 5 rfl) ?_
        refine lv_aload_n hx hb dX12_telling_54 rfl (lv_at hl 0 rfl) ?_
        refine lv_iload hx hb dX12_telling_55 (lv_at hl 4 rfl) ?_
        refine lv_iload hx hb dX12_telling_57 (lv_at hl 6 rfl) ?_
        have hFc := gz_fullF hD hS hA
        refine va_calli (va_runV (As := [.int v4, .int v6]) (rest := [.int v5]) ⟨hx, hb, hml, hown, hts⟩ (sX12_beginsOn l dC dI H.size h0 (upd (upd mi 37 w0_37) 41 w0_41) mr km z1 z2 z3 z4 fm_trust fm_letter fm_reportPlace fm_reportKind fm_struck fm_reportMonth fm_reportDay fm_reportKnown fm_deedMonth fm_deedDay fm_deedLong fm_deedKind fm_kept fm_tape z5 z6 fm_official fm_aside fm_worth fm_out v4 v6 gmi_0 gmi_1 gmi_2 gmi_4 gmi_7 gmi_10 gmi_17 gmi_23 gmi_24 gmi_26 gmi_29 gmi_30 gmi_33 gw0_37 gw0_41 gmi_50 gmi_51 gmi_56 (gi_w gv4 (by decide))) (cwV 2 hts (gz_gV mGB_373 mGB_374 mGB_375 mGB_1 mGB_376 goodGB) rfl rfl rfl (by decide +kernel) ⟨Nat.le_trans (Nat.le_of_ble_eq_true rfl) hRf, Nat.le_trans (Nat.le_of_ble_eq_true rfl) hRl⟩) ⟨bl_W, mw_recv hK hP, fun U hU hW => ⟨rfl, by rw [hU], by rw [hU]; exact hP, va_K.moved hW.alike hK, hD.weaken (fun _ _ _ _ => trivial)⟩⟩ rfl rfl hl.1 rfl (lv_room (Nat.le_of_ble_eq_true rfl)) dX12_telling_59 ⟨hRc, hRs⟩) hS (fun q _ h => hFc q h) hFc (fun r_637 u t H1 locs ht hvm hw hB hz1 hk1 hS => ?_)
        obtain ⟨f_638, f_639, hB⟩ := hB
        obtain ⟨hP1, hD1⟩ := hB
        rw [ht] at hP1
        have hD : va_D A (MWn h0 mr km (mi 0) (mi 1) (mi 2) (mi 3) (mi 4) (mi 5) (mi 6) (mi 7) (mi 10) (mi 17) (mi 23) (mi 24) (mi 26) (mi 27) (mi 28) (mi 29) (mi 30) (mi 31) (mi 32) (mi 33) w0_37 w0_41 (mi 42) (mi 43) (mi 44) (mi 45) (mi 47) (mi 48) (mi 49) (mi 50) (mi 51) (mi 54) (mi 56) fm_trust fm_letter fm_reportPlace fm_reportKind fm_struck fm_reportMonth fm_reportDay fm_reportKnown fm_deedMonth fm_deedDay fm_deedLong fm_deedKind fm_kept fm_tape z1 z2 f_638 f_639 z5 z6 fm_official fm_aside fm_worth fm_out) := gz_fullD hFc hD1
        have hP : va_P (dC, dI) vwCl (MWn h0 mr km (mi 0) (mi 1) (mi 2) (mi 3) (mi 4) (mi 5) (mi 6) (mi 7) (mi 10) (mi 17) (mi 23) (mi 24) (mi 26) (mi 27) (mi 28) (mi 29) (mi 30) (mi 31) (mi 32) (mi 33) w0_37 w0_41 (mi 42) (mi 43) (mi 44) (mi 45) (mi 47) (mi 48) (mi 49) (mi 50) (mi 51) (mi 54) (mi 56) fm_trust fm_letter fm_reportPlace fm_reportKind fm_struck fm_reportMonth fm_reportDay fm_reportKnown fm_deedMonth fm_deedDay fm_deedLong fm_deedKind fm_kept fm_tape z1 z2 f_638 f_639 z5 z6 fm_official fm_aside fm_worth fm_out) H1 := hP1
        generalize H1 = H at hP hS ⊢
        refine va_mmax (own := RX12) hx hb (by rw [hml]; exact hl.1.symm) hown (hts _ (List.mem_cons_of_mem _ mGB_202)) (hts _ (List.mem_cons_of_mem _ mGB_203)) (hts _ (List.mem_cons_of_mem _ mGB_98)) (hts _ (List.mem_cons_of_mem _ mGB_204)) (Nat.le_trans (Nat.le_of_ble_eq_true rfl) hRf) (Nat.le_trans (Nat.le_of_ble_eq_true rfl) hRl) hRc hRs dX12_telling_62 ?_
        refine lv_topi (fun x_640 ex_640 => ?_)
        have gx_640 : gi x_640 0 2147483647 := gi_max ex_640 gv5 (gi_any r_637) (by decide)
        refine lv_istore (lv' := [(5, .int x_640), (0, .ref h0), (1, .int p1), (2, .int v2), (3, .int v3), (4, .int v4), (6, .int v6)]) hx hb dX12_telling_65 hl (by decide) rfl (fun ls hl => ?_)
        obtain ⟨x_641, ex_641⟩ : ∃ y : Int32, y = v6 + 1 := ⟨_, rfl⟩
        have gx_641 : gi x_641 30 721 := gi_add ex_641 g_636 (gi_c 1 1 (by decide)) (by decide)
        refine lv_iinc (v := x_641) (lv' := [(6, .int x_641), (5, .int x_640), (0, .ref h0), (1, .int p1), (2, .int v2), (3, .int v3), (4, .int v4)]) hx hb dX12_telling_67 hl (k := 6) rfl (by rw [ex_641]; rfl) (by decide) rfl (fun ls hl => ?_)
        refine lv_goto (tgt := 42) hx hb dX12_telling_70 (by decide) ?_
        exact ih.2 v2 v3 v4 x_640 x_641 w0_37 w0_41 z1 z2 f_638 f_639 z5 z6 _ _ _ gf_p1 gv2 gv3 gv4 gx_640 (gi_w gx_641 (by decide)) gw0_37 gw0_41 gz6 (by have av4 := gv4.1; have bv4 := gv4.2; have av6 := gv6.1; have bv6 := gv6.2; have qgx_641 := gx_641.1; have rgx_641 := gx_641.2; have igx_641 : x_641.toInt = v6.toInt + 1 := (by have hc1 : (1 : Int32).toInt = 1 := (by decide); have h9 := gi_addI ex_641 (by have h1 := g_636.1; have h2 := (gi_c 1 1 (by decide)).1; have h3 := g_636.2; have h4 := (gi_c 1 1 (by decide)).2; omega) (by have h1 := g_636.1; have h2 := (gi_c 1 1 (by decide)).1; have h3 := g_636.2; have h4 := (gi_c 1 1 (by decide)).2; omega); rw [hc1] at h9; exact h9); have qgv6 := g_636.1; have rgv6 := g_636.2; have qgv4 := gv4.1; have rgv4 := gv4.2; omega) hP hD hS (lv_sub hl [2, 3, 4, 5, 6, 1, 0] rfl)
abbrev pb_sX12_telling (dC : Nat → ClassId) (dI : Nat → Nat → Nat) (A9 : Nat → Prop) (h0 : Nat) (mi : Nat → Int32) (mr : Nat → Nat) (km : Nat → ClassId) (fm_must : Nat → Int32) (fm_least : Nat → Int32) (fm_pin : Nat → Int32) (fm_ways : Nat → Int32) (fm_verdict : Nat → Int32) (fm_row : Nat → Int32) (fm_struck : Nat → Int32) (fm_reportKnown : Nat → Int32) (fm_reportPlace : Nat → Int32) (fm_reportMonth : Nat → Int32) (fm_reportDay : Nat → Int32) (fm_reportKind : Nat → Int32) (fm_trust : Nat → Int32) (fm_letter : Nat → Int32) (fm_deedMonth : Nat → Int32) (fm_deedDay : Nat → Int32) (fm_deedLong : Nat → Int32) (fm_deedKind : Nat → Int32) (fm_kept : Nat → Int32) (fm_tape : Nat → Int32) (fm_official : Nat → Int32) (fm_aside : Nat → Int32) (fm_worth : Nat → Int32) (fm_out : Nat → Int32) (p1 : Int32) (w0_37 : Int32) (w0_41 : Int32) (z1 : Nat → Int32) (z2 : Nat → Int32) (z3 : Nat → Int32) (z4 : Nat → Int32) (z5 : Nat → Int32) (z6 : Nat → Int32) (t : State) : Prop := gi w0_37 0 1 ∧ gi w0_41 0 24 ∧ ga z6 24 0 23 ∧ va_P (dC, dI) vwCl (MWn h0 mr km (mi 0) (mi 1) (mi 2) (mi 3) (mi 4) (mi 5) (mi 6) (mi 7) (mi 10) (mi 17) (mi 23) (mi 24) (mi 26) (mi 27) (mi 28) (mi 29) (mi 30) (mi 31) (mi 32) (mi 33) w0_37 w0_41 (mi 42) (mi 43) (mi 44) (mi 45) (mi 47) (mi 48) (mi 49) (mi 50) (mi 51) (mi 54) (mi 56) fm_trust fm_letter fm_reportPlace fm_reportKind fm_struck fm_reportMonth fm_reportDay fm_reportKnown fm_deedMonth fm_deedDay fm_deedLong fm_deedKind fm_kept fm_tape z1 z2 z3 z4 z5 z6 fm_official fm_aside fm_worth fm_out) t.heap ∧ va_D A9 (MWn h0 mr km (mi 0) (mi 1) (mi 2) (mi 3) (mi 4) (mi 5) (mi 6) (mi 7) (mi 10) (mi 17) (mi 23) (mi 24) (mi 26) (mi 27) (mi 28) (mi 29) (mi 30) (mi 31) (mi 32) (mi 33) w0_37 w0_41 (mi 42) (mi 43) (mi 44) (mi 45) (mi 47) (mi 48) (mi 49) (mi 50) (mi 51) (mi 54) (mi 56) fm_trust fm_letter fm_reportPlace fm_reportKind fm_struck fm_reportMonth fm_reportDay fm_reportKnown fm_deedMonth fm_deedDay fm_deedLong fm_deedKind fm_kept fm_tape z1 z2 z3 z4 z5 z6 fm_official fm_aside fm_worth fm_out)
set_option maxHeartbeats 4000000 in
set_option maxRecDepth 100000 in
theorem sX12_telling (l : Launch) (dC : Nat → ClassId) (dI : Nat → Nat → Nat) (sz : Nat) (h0 : Nat) (mi : Nat → Int32) (mr : Nat → Nat) (km : Nat → ClassId) (fm_must : Nat → Int32) (fm_least : Nat → Int32) (fm_pin : Nat → Int32) (fm_ways : Nat → Int32) (fm_verdict : Nat → Int32) (fm_row : Nat → Int32) (fm_struck : Nat → Int32) (fm_reportKnown : Nat → Int32) (fm_reportPlace : Nat → Int32) (fm_reportMonth : Nat → Int32) (fm_reportDay : Nat → Int32) (fm_reportKind : Nat → Int32) (fm_trust : Nat → Int32) (fm_letter : Nat → Int32) (fm_deedMonth : Nat → Int32) (fm_deedDay : Nat → Int32) (fm_deedLong : Nat → Int32) (fm_deedKind : Nat → Int32) (fm_kept : Nat → Int32) (fm_tape : Nat → Int32) (fm_official : Nat → Int32) (fm_aside : Nat → Int32) (fm_worth : Nat → Int32) (fm_out : Nat → Int32) (p1 : Int32) (gmi_0 : gi (mi 0) 0 24) (gmi_1 : gi (mi 1) 0 5) (gmi_2 : gi (mi 2) 0 5) (gmi_4 : gi (mi 4) 0 1) (gmi_7 : gi (mi 7) 0 6) (gmi_10 : gi (mi 10) 0 24) (gmi_17 : gi (mi 17) 0 8) (gmi_23 : gi (mi 23) 0 300) (gmi_24 : gi (mi 24) 0 1) (gmi_26 : gi (mi 26) 0 1600) (gmi_29 : gi (mi 29) 0 1600) (gmi_30 : gi (mi 30) 0 1600) (gmi_33 : gi (mi 33) 0 1) (gmi_37 : gi (mi 37) 0 1) (gmi_41 : gi (mi 41) 0 24) (gmi_50 : gi (mi 50) 0 1) (gmi_51 : gi (mi 51) 0 1) (gmi_56 : gi (mi 56) 0 80) (gfm_row : ga fm_row 24 0 23) (gfm_struck : ga fm_struck 24 0 1) (gfm_reportKnown : ga fm_reportKnown 24 0 999) (gfm_reportPlace : ga fm_reportPlace 24 0 5) (gfm_reportMonth : ga fm_reportMonth 24 0 23) (gfm_reportDay : ga fm_reportDay 24 0 999) : Met l yX12_telling (.code yX12_telling cX12_telling 7 (some .int) :: wsGB) ({ frames := 5, cells := 0, slots := 0, locals := 123 }) (va_Pc [.ref h0, .int p1] (fun U => U.heap.size = sz ∧ va_P (dC, dI) vwCl (MWn h0 mr km (mi 0) (mi 1) (mi 2) (mi 3) (mi 4) (mi 5) (mi 6) (mi 7) (mi 10) (mi 17) (mi 23) (mi 24) (mi 26) (mi 27) (mi 28) (mi 29) (mi 30) (mi 31) (mi 32) (mi 33) (mi 37) (mi 41) (mi 42) (mi 43) (mi 44) (mi 45) (mi 47) (mi 48) (mi 49) (mi 50) (mi 51) (mi 54) (mi 56) fm_trust fm_letter fm_reportPlace fm_reportKind fm_struck fm_reportMonth fm_reportDay fm_reportKnown fm_deedMonth fm_deedDay fm_deedLong fm_deedKind fm_kept fm_tape fm_must fm_least fm_pin fm_ways fm_verdict fm_row fm_official fm_aside fm_worth fm_out) U.heap ∧ va_K (dC, dI) vwCl (MT km) U ∧ va_D (fun _ => True) (MWn h0 mr km (mi 0) (mi 1) (mi 2) (mi 3) (mi 4) (mi 5) (mi 6) (mi 7) (mi 10) (mi 17) (mi 23) (mi 24) (mi 26) (mi 27) (mi 28) (mi 29) (mi 30) (mi 31) (mi 32) (mi 33) (mi 37) (mi 41) (mi 42) (mi 43) (mi 44) (mi 45) (mi 47) (mi 48) (mi 49) (mi 50) (mi 51) (mi 54) (mi 56) fm_trust fm_letter fm_reportPlace fm_reportKind fm_struck fm_reportMonth fm_reportDay fm_reportKnown fm_deedMonth fm_deedDay fm_deedLong fm_deedKind fm_kept fm_tape fm_must fm_least fm_pin fm_ways fm_verdict fm_row fm_official fm_aside fm_worth fm_out))) (va_Qi (fun (r : Int32) (u : Unit) => gi r (-2) 24) (fun _ t => ∃ (w0_37 : Int32) (w0_41 : Int32) (z1 : Nat → Int32) (z2 : Nat → Int32) (z3 : Nat → Int32) (z4 : Nat → Int32) (z5 : Nat → Int32) (z6 : Nat → Int32), pb_sX12_telling dC dI (va_A (MWn h0 mr km (mi 0) (mi 1) (mi 2) (mi 3) (mi 4) (mi 5) (mi 6) (mi 7) (mi 10) (mi 17) (mi 23) (mi 24) (mi 26) (mi 27) (mi 28) (mi 29) (mi 30) (mi 31) (mi 32) (mi 33) (mi 37) (mi 41) (mi 42) (mi 43) (mi 44) (mi 45) (mi 47) (mi 48) (mi 49) (mi 50) (mi 51) (mi 54) (mi 56) fm_trust fm_letter fm_reportPlace fm_reportKind fm_struck fm_reportMonth fm_reportDay fm_reportKnown fm_deedMonth fm_deedDay fm_deedLong fm_deedKind fm_kept fm_tape fm_must fm_least fm_pin fm_ways fm_verdict fm_row fm_official fm_aside fm_worth fm_out) sz) h0 mi mr km fm_must fm_least fm_pin fm_ways fm_verdict fm_row fm_struck fm_reportKnown fm_reportPlace fm_reportMonth fm_reportDay fm_reportKind fm_trust fm_letter fm_deedMonth fm_deedDay fm_deedLong fm_deedKind fm_kept fm_tape fm_official fm_aside fm_worth fm_out p1 w0_37 w0_41 z1 z2 z3 z4 z5 z6 t) (va_A (MWn h0 mr km (mi 0) (mi 1) (mi 2) (mi 3) (mi 4) (mi 5) (mi 6) (mi 7) (mi 10) (mi 17) (mi 23) (mi 24) (mi 26) (mi 27) (mi 28) (mi 29) (mi 30) (mi 31) (mi 32) (mi 33) (mi 37) (mi 41) (mi 42) (mi 43) (mi 44) (mi 45) (mi 47) (mi 48) (mi 49) (mi 50) (mi 51) (mi 54) (mi 56) fm_trust fm_letter fm_reportPlace fm_reportKind fm_struck fm_reportMonth fm_reportDay fm_reportKnown fm_deedMonth fm_deedDay fm_deedLong fm_deedKind fm_kept fm_tape fm_must fm_least fm_pin fm_ways fm_verdict fm_row fm_official fm_aside fm_worth fm_out) sz)) 0 0 (va_A (MWn h0 mr km (mi 0) (mi 1) (mi 2) (mi 3) (mi 4) (mi 5) (mi 6) (mi 7) (mi 10) (mi 17) (mi 23) (mi 24) (mi 26) (mi 27) (mi 28) (mi 29) (mi 30) (mi 31) (mi 32) (mi 33) (mi 37) (mi 41) (mi 42) (mi 43) (mi 44) (mi 45) (mi 47) (mi 48) (mi 49) (mi 50) (mi 51) (mi 54) (mi 56) fm_trust fm_letter fm_reportPlace fm_reportKind fm_struck fm_reportMonth fm_reportDay fm_reportKnown fm_deedMonth fm_deedDay fm_deedLong fm_deedKind fm_kept fm_tape fm_must fm_least fm_pin fm_ways fm_verdict fm_row fm_official fm_aside fm_worth fm_out) sz) := by
  refine Met.ofW (cc := cX12_telling) (maxL := 7) (ret := (some .int)) (by decide) rfl ?_
  intro p e s m args below meth c s₁ B hml hv
  obtain ⟨rfl, hsz, hP, hK, hD0⟩ := hv
  have hx := B.exec
  have hb := B.bytes
  have hr := B.returns
  have hts := atoms_spec (ws := (.code yX12_telling cX12_telling 7 (some .int) :: wsGB)) B.pre
  have hown : s.vm.findClass RX12 = some m.cls := findClass_of_methodNamed B.named
  have hlocks := B.notSynchronized
  subst hsz
  have hD := hD0.self (sz := s.heap.size)
  generalize hAe : va_A (MWn h0 mr km (mi 0) (mi 1) (mi 2) (mi 3) (mi 4) (mi 5) (mi 6) (mi 7) (mi 10) (mi 17) (mi 23) (mi 24) (mi 26) (mi 27) (mi 28) (mi 29) (mi 30) (mi 31) (mi 32) (mi 33) (mi 37) (mi 41) (mi 42) (mi 43) (mi 44) (mi 45) (mi 47) (mi 48) (mi 49) (mi 50) (mi 51) (mi 54) (mi 56) fm_trust fm_letter fm_reportPlace fm_reportKind fm_struck fm_reportMonth fm_reportDay fm_reportKnown fm_deedMonth fm_deedDay fm_deedLong fm_deedKind fm_kept fm_tape fm_must fm_least fm_pin fm_ways fm_verdict fm_row fm_official fm_aside fm_worth fm_out) s.heap.size = A at hD ⊢
  have hA : ∀ q : Nat, s.heap.size ≤ q → A q := fun q h => by rw [← hAe]; exact Or.inr h
  have hS : va_S A s.heap s.heap [] := va_S.rf
  have hl := lv_entry ([.ref h0, .int p1]) (n := 7) (Nat.le_of_ble_eq_true rfl)
  rw [lg_entry_eq]
  generalize (lg_sl ([.ref h0, .int p1]) ++ List.replicate (7 - (lg_sl ([.ref h0, .int p1])).length) Slot.unset).toArray = ls at hl ⊢
  have hl : lv_has ls 7 [(0, .ref h0), (1, .int p1)] := hl
  refine lv_aload_n hx hb dX12_telling_0 rfl (lv_at hl 0 rfl) ?_
  refine lv_iload_n hx hb dX12_telling_1 rfl (lv_at hl 1 rfl) ?_
  refine va_calli (va_runV (As := [.int p1]) (rest := []) ⟨hx, hb, hml, hown, hts⟩ (sX12_isTime l dC dI h0 mi mr km fm_trust fm_letter fm_reportPlace fm_reportKind fm_struck fm_reportMonth fm_reportDay fm_reportKnown fm_deedMonth fm_deedDay fm_deedLong fm_deedKind fm_kept fm_tape fm_must fm_least fm_pin fm_ways fm_verdict fm_row fm_official fm_aside fm_worth fm_out p1 gmi_0 gmi_1 gmi_2 gmi_4 gmi_7 gmi_10 gmi_17 gmi_23 gmi_24 gmi_26 gmi_29 gmi_30 gmi_33 gmi_37 gmi_41 gmi_50 gmi_51 gmi_56) (cwV 1 hts (gz_gV mGB_256 mGB_257 mGB_258 mGB_1 mGB_259 goodGB) rfl rfl rfl (by decide +kernel) ⟨Nat.le_of_ble_eq_true rfl, Nat.le_of_ble_eq_true rfl⟩) ⟨bl_R, mw_recv hK hP, fun U hU hW => ⟨rfl, by rw [hU]; exact hP, va_K.moved hW.alike hK⟩⟩ rfl rfl hl.1 rfl (lv_room (Nat.le_of_ble_eq_true rfl)) dX12_telling_2 ⟨Nat.zero_le _, Nat.zero_le _⟩) hS (fun q _ h => h.elim) (fun q h => h.elim) (fun r_642 u t H1 locs ht hvm hw hB hz1 hk1 hS => ?_)
  obtain ⟨hw, hE⟩ := hw
  have hP := gz_keep hP hk1
  generalize H1 = H at hP hS ⊢
  have gr_642 : gi r_642 0 1 := hw.1
  have hqr_642 := hw.2
  refine lv_if_ne (tgt := 11) hx hb dX12_telling_5 (by decide) (fun c_643 => ?_) (fun c_643 => ?_)
  · have g_644 : gi r_642 1 1 := gi_ne_lo c_643 gr_642 (gi_c 0 0 (by decide)) (by decide)
    have g_645 : gi p1 0 999 := gi_cap (gi_any p1) (hqr_642 (gz_one g_644)) (by decide)
    refine lv_aload_n hx hb dX12_telling_11 rfl (lv_at hl 0 rfl) ?_
    refine lv_iload_n hx hb dX12_telling_12 rfl (lv_at hl 1 rfl) ?_
    have hFc := gz_fullF hD hS hA
    refine va_callv (va_runV (As := [.int p1]) (rest := []) ⟨hx, hb, hml, hown, hts⟩ (sX12_judgesAll l dC dI H.size h0 mi mr km fm_must fm_least fm_pin fm_ways fm_verdict fm_row fm_struck fm_reportKnown fm_reportPlace fm_reportMonth fm_reportDay fm_reportKind fm_trust fm_letter fm_deedMonth fm_deedDay fm_deedLong fm_deedKind fm_kept fm_tape fm_official fm_aside fm_worth fm_out p1 gmi_0 gmi_1 gmi_2 gmi_4 gmi_7 gmi_10 gmi_17 gmi_23 gmi_24 gmi_26 gmi_29 gmi_30 gmi_33 gmi_37 gmi_41 gmi_50 gmi_51 gmi_56 gfm_row gfm_struck gfm_reportKnown gfm_reportPlace gfm_reportMonth gfm_reportDay) (cwV 1 hts (gz_gV mGB_261 mGB_262 mGB_263 mGB_1 mGB_264 goodGB) rfl rfl rfl (by decide +kernel) ⟨Nat.le_of_ble_eq_true rfl, Nat.le_of_ble_eq_true rfl⟩) ⟨bl_W, mw_recv hK hP, fun U hU hW => ⟨rfl, by rw [hU], by rw [hU]; exact hP, va_K.moved hW.alike hK, hD.weaken (fun _ _ _ _ => trivial)⟩⟩ rfl rfl hl.1 rfl (lv_room (Nat.le_of_ble_eq_true rfl)) dX12_telling_13 ⟨Nat.zero_le _, Nat.zero_le _⟩) hS (fun q _ h => hFc q h) hFc (fun u t H1 locs ht hvm hw hB hz1 hk1 hS => ?_)
    obtain ⟨y_647, y_648, f_649, f_650, f_651, f_652, f_653, f_654, hB⟩ := hB
    obtain ⟨gy_647, gy_648, gf_654, hP1, hD1⟩ := hB
    rw [ht] at hP1
    have hD : va_D A (MWn h0 mr km (mi 0) (mi 1) (mi 2) (mi 3) (mi 4) (mi 5) (mi 6) (mi 7) (mi 10) (mi 17) (mi 23) (mi 24) (mi 26) (mi 27) (mi 28) (mi 29) (mi 30) (mi 31) (mi 32) (mi 33) y_647 y_648 (mi 42) (mi 43) (mi 44) (mi 45) (mi 47) (mi 48) (mi 49) (mi 50) (mi 51) (mi 54) (mi 56) fm_trust fm_letter fm_reportPlace fm_reportKind fm_struck fm_reportMonth fm_reportDay fm_reportKnown fm_deedMonth fm_deedDay fm_deedLong fm_deedKind fm_kept fm_tape f_649 f_650 f_651 f_652 f_653 f_654 fm_official fm_aside fm_worth fm_out) := gz_fullD hFc hD1
    have hP : va_P (dC, dI) vwCl (MWn h0 mr km (mi 0) (mi 1) (mi 2) (mi 3) (mi 4) (mi 5) (mi 6) (mi 7) (mi 10) (mi 17) (mi 23) (mi 24) (mi 26) (mi 27) (mi 28) (mi 29) (mi 30) (mi 31) (mi 32) (mi 33) y_647 y_648 (mi 42) (mi 43) (mi 44) (mi 45) (mi 47) (mi 48) (mi 49) (mi 50) (mi 51) (mi 54) (mi 56) fm_trust fm_letter fm_reportPlace fm_reportKind fm_struck fm_reportMonth fm_reportDay fm_reportKnown fm_deedMonth fm_deedDay fm_deedLong fm_deedKind fm_kept fm_tape f_649 f_650 f_651 f_652 f_653 f_654 fm_official fm_aside fm_worth fm_out) H1 := hP1
    generalize H1 = H at hP hS ⊢
    refine lv_iconst (v := (-1)) hx hb dX12_telling_16 (by decide) ?_
    refine lv_istore_n (lv' := [(2, .int (-1)), (0, .ref h0), (1, .int p1)]) hx hb dX12_telling_17 rfl hl (by decide) rfl (fun ls hl => ?_)
    refine lv_iconst (v := 0) hx hb dX12_telling_18 (by decide) ?_
    refine lv_istore_n (lv' := [(3, .int 0), (2, .int (-1)), (0, .ref h0), (1, .int p1)]) hx hb dX12_telling_19 rfl hl (by decide) rfl (fun ls hl => ?_)
    refine lv_iconst (v := 1) hx hb dX12_telling_20 (by decide) ?_
    refine lv_istore (lv' := [(4, .int 1), (3, .int 0), (2, .int (-1)), (0, .ref h0), (1, .int p1)]) hx hb dX12_telling_21 hl (by decide) rfl (fun ls hl => ?_)
    refine (lp_sX12_telling h0 mi mr km fm_must fm_least fm_pin fm_ways fm_verdict fm_row fm_struck fm_reportKnown fm_reportPlace fm_reportMonth fm_reportDay fm_reportKind fm_trust fm_letter fm_deedMonth fm_deedDay fm_deedLong fm_deedKind fm_kept fm_tape fm_official fm_aside fm_worth fm_out p1 gmi_0 gmi_1 gmi_2 gmi_4 gmi_7 gmi_10 gmi_17 gmi_23 gmi_24 gmi_26 gmi_29 gmi_30 gmi_33 gmi_37 gmi_41 gmi_50 gmi_51 gmi_56 gfm_row gfm_struck gfm_reportKnown gfm_reportPlace gfm_reportMonth gfm_reportDay hx hb hml hown hts hK hA (Nat.le_of_ble_eq_true rfl) (Nat.le_of_ble_eq_true rfl) (Nat.zero_le _) (Nat.zero_le _) (fun v w0_37 w0_41 z1 z2 z3 z4 z5 z6 H locs ls gv gw0_37 gw0_41 gz6 hP hD hS hl => ?_) (fun v w0_37 w0_41 z1 z2 z3 z4 z5 z6 H locs ls gv gw0_37 gw0_41 gz6 hP hD hS hl => ?_) 50606).1 (-1) 0 1 y_647 y_648 f_649 f_650 f_651 f_652 f_653 f_654 _ _ _ g_645 (gi_w (gi_c (-1) (-1) (by decide)) (by decide)) (gi_w (gi_c 0 0 (by decide)) (by decide)) (gi_w (gi_c 1 1 (by decide)) (by decide)) gy_647 gy_648 gf_654 (by have k1 : (1 : Int32).toInt = 1 := (by decide); omega) hP hD hS (lv_sub hl [3, 4, 2, 1, 0] rfl)
    · skip
      exact W.iret (v := v) hx hb hr (fun t ht hW => ⟨⟨v, (), rfl, (gi_w gv (by decide)), w0_37, w0_41, z1, z2, z3, z4, z5, z6, gw0_37, gw0_41, gz6, by rw [ht]; exact hP, hD⟩, hS.F ht⟩) hS.2.2 dX12_telling_10
    · skip
      exact W.iret (v := v) hx hb hr (fun t ht hW => ⟨⟨v, (), rfl, (gi_w gv (by decide)), w0_37, w0_41, z1, z2, z3, z4, z5, z6, gw0_37, gw0_41, gz6, by rw [ht]; exact hP, hD⟩, hS.F ht⟩) hS.2.2 dX12_telling_97
  · have g_655 : gi r_642 0 0 := gi_eq c_643 (gi_c 0 0 (by decide))
    refine lv_bipush (v := (-2)) hx hb dX12_telling_8 (by decide) ?_
    exact W.iret (v := (-2)) hx hb hr (fun t ht hW => ⟨⟨(-2), (), rfl, (gi_w (gi_c (-2) (-2) (by decide)) (by decide)), (mi 37), (mi 41), fm_must, fm_least, fm_pin, fm_ways, fm_verdict, fm_row, gmi_37, gmi_41, gfm_row, by rw [ht]; exact hP, hD⟩, hS.F ht⟩) hS.2.2 dX12_telling_10
theorem dX12_laysRanked_0 : decode cX12_laysRanked 0 = .ok (.aload_n 0, 1) := by decide +kernel
theorem dX12_laysRanked_1 : decode cX12_laysRanked 1 = .ok (.invokevirtual 332, 3) := by decide +kernel
theorem dX12_laysRanked_4 : decode cX12_laysRanked 4 = .ok (.pop, 1) := by decide +kernel
theorem dX12_laysRanked_5 : decode cX12_laysRanked 5 = .ok (.iload_n 1, 1) := by decide +kernel
theorem dX12_laysRanked_6 : decode cX12_laysRanked 6 = .ok (.istore_n 2, 1) := by decide +kernel
theorem dX12_laysRanked_7 : decode cX12_laysRanked 7 = .ok (.iconst 0, 1) := by decide +kernel
theorem dX12_laysRanked_8 : decode cX12_laysRanked 8 = .ok (.istore_n 3, 1) := by decide +kernel
theorem dX12_laysRanked_9 : decode cX12_laysRanked 9 = .ok (.iconst 0, 1) := by decide +kernel
theorem dX12_laysRanked_10 : decode cX12_laysRanked 10 = .ok (.istore 4, 2) := by decide +kernel
theorem dX12_laysRanked_12 : decode cX12_laysRanked 12 = .ok (.aload_n 0, 1) := by decide +kernel
theorem dX12_laysRanked_13 : decode cX12_laysRanked 13 = .ok (.iconst 0, 1) := by decide +kernel
theorem dX12_laysRanked_14 : decode cX12_laysRanked 14 = .ok (.putfield 397, 3) := by decide +kernel
theorem dX12_laysRanked_17 : decode cX12_laysRanked 17 = .ok (.aload_n 0, 1) := by decide +kernel
theorem dX12_laysRanked_18 : decode cX12_laysRanked 18 = .ok (.getfield 87, 3) := by decide +kernel
theorem dX12_laysRanked_21 : decode cX12_laysRanked 21 = .ok (.iconst 0, 1) := by decide +kernel
theorem dX12_laysRanked_22 : decode cX12_laysRanked 22 = .ok (.iconst 0, 1) := by decide +kernel
theorem dX12_laysRanked_23 : decode cX12_laysRanked 23 = .ok (.iastore, 1) := by decide +kernel
theorem dX12_laysRanked_24 : decode cX12_laysRanked 24 = .ok (.iconst 0, 1) := by decide +kernel
theorem dX12_laysRanked_25 : decode cX12_laysRanked 25 = .ok (.istore 5, 2) := by decide +kernel
theorem dX12_laysRanked_27 : decode cX12_laysRanked 27 = .ok (.iload 5, 2) := by decide +kernel
theorem dX12_laysRanked_29 : decode cX12_laysRanked 29 = .ok (.aload_n 0, 1) := by decide +kernel
theorem dX12_laysRanked_30 : decode cX12_laysRanked 30 = .ok (.getfield 117, 3) := by decide +kernel
theorem dX12_laysRanked_33 : decode cX12_laysRanked 33 = .ok (.if_icmp .ge 96, 3) := by decide +kernel
theorem dX12_laysRanked_36 : decode cX12_laysRanked 36 = .ok (.aload_n 0, 1) := by decide +kernel
theorem dX12_laysRanked_37 : decode cX12_laysRanked 37 = .ok (.iload 5, 2) := by decide +kernel
theorem dX12_laysRanked_39 : decode cX12_laysRanked 39 = .ok (.iload_n 3, 1) := by decide +kernel
theorem dX12_laysRanked_40 : decode cX12_laysRanked 40 = .ok (.iload 4, 2) := by decide +kernel
theorem dX12_laysRanked_42 : decode cX12_laysRanked 42 = .ok (.iconst 0, 1) := by decide +kernel
theorem dX12_laysRanked_43 : decode cX12_laysRanked 43 = .ok (.invokevirtual 328, 3) := by decide +kernel
theorem dX12_laysRanked_46 : decode cX12_laysRanked 46 = .ok (.istore 6, 2) := by decide +kernel
theorem dX12_laysRanked_48 : decode cX12_laysRanked 48 = .ok (.iload_n 2, 1) := by decide +kernel
theorem dX12_laysRanked_49 : decode cX12_laysRanked 49 = .ok (.iload 6, 2) := by decide +kernel
theorem dX12_laysRanked_51 : decode cX12_laysRanked 51 = .ok (.if_icmp .ge 7, 3) := by decide +kernel
theorem dX12_laysRanked_54 : decode cX12_laysRanked 54 = .ok (.iconst 0, 1) := by decide +kernel
theorem dX12_laysRanked_55 : decode cX12_laysRanked 55 = .ok (.goto 4, 3) := by decide +kernel
theorem dX12_laysRanked_58 : decode cX12_laysRanked 58 = .ok (.iconst 1, 1) := by decide +kernel
theorem dX12_laysRanked_59 : decode cX12_laysRanked 59 = .ok (.istore 7, 2) := by decide +kernel
theorem dX12_laysRanked_61 : decode cX12_laysRanked 61 = .ok (.iload_n 2, 1) := by decide +kernel
theorem dX12_laysRanked_62 : decode cX12_laysRanked 62 = .ok (.iload 7, 2) := by decide +kernel
theorem dX12_laysRanked_64 : decode cX12_laysRanked 64 = .ok (.iconst 1, 1) := by decide +kernel
theorem dX12_laysRanked_65 : decode cX12_laysRanked 65 = .ok (.if_icmp .ne 8, 3) := by decide +kernel
theorem dX12_laysRanked_68 : decode cX12_laysRanked 68 = .ok (.iload 6, 2) := by decide +kernel
theorem dX12_laysRanked_70 : decode cX12_laysRanked 70 = .ok (.goto 4, 3) := by decide +kernel
theorem dX12_laysRanked_73 : decode cX12_laysRanked 73 = .ok (.iconst 0, 1) := by decide +kernel
theorem dX12_laysRanked_74 : decode cX12_laysRanked 74 = .ok (.isub, 1) := by decide +kernel
theorem dX12_laysRanked_75 : decode cX12_laysRanked 75 = .ok (.istore_n 2, 1) := by decide +kernel
theorem dX12_laysRanked_76 : decode cX12_laysRanked 76 = .ok (.aload_n 0, 1) := by decide +kernel
theorem dX12_laysRanked_77 : decode cX12_laysRanked 77 = .ok (.iload 4, 2) := by decide +kernel
theorem dX12_laysRanked_79 : decode cX12_laysRanked 79 = .ok (.iload 7, 2) := by decide +kernel
theorem dX12_laysRanked_81 : decode cX12_laysRanked 81 = .ok (.invokevirtual 318, 3) := by decide +kernel
theorem dX12_laysRanked_84 : decode cX12_laysRanked 84 = .ok (.istore 4, 2) := by decide +kernel
theorem dX12_laysRanked_86 : decode cX12_laysRanked 86 = .ok (.iload_n 3, 1) := by decide +kernel
theorem dX12_laysRanked_87 : decode cX12_laysRanked 87 = .ok (.iload 7, 2) := by decide +kernel
theorem dX12_laysRanked_89 : decode cX12_laysRanked 89 = .ok (.iadd, 1) := by decide +kernel
theorem dX12_laysRanked_90 : decode cX12_laysRanked 90 = .ok (.istore_n 3, 1) := by decide +kernel
theorem dX12_laysRanked_91 : decode cX12_laysRanked 91 = .ok (.aload_n 0, 1) := by decide +kernel
theorem dX12_laysRanked_92 : decode cX12_laysRanked 92 = .ok (.dup, 1) := by decide +kernel
theorem dX12_laysRanked_93 : decode cX12_laysRanked 93 = .ok (.getfield 397, 3) := by decide +kernel
theorem dX12_laysRanked_96 : decode cX12_laysRanked 96 = .ok (.iload 7, 2) := by decide +kernel
theorem dX12_laysRanked_98 : decode cX12_laysRanked 98 = .ok (.iload 5, 2) := by decide +kernel
theorem dX12_laysRanked_100 : decode cX12_laysRanked 100 = .ok (.ishl, 1) := by decide +kernel
theorem dX12_laysRanked_101 : decode cX12_laysRanked 101 = .ok (.ior, 1) := by decide +kernel
theorem dX12_laysRanked_102 : decode cX12_laysRanked 102 = .ok (.putfield 397, 3) := by decide +kernel
theorem dX12_laysRanked_105 : decode cX12_laysRanked 105 = .ok (.aload_n 0, 1) := by decide +kernel
theorem dX12_laysRanked_106 : decode cX12_laysRanked 106 = .ok (.getfield 87, 3) := by decide +kernel
theorem dX12_laysRanked_109 : decode cX12_laysRanked 109 = .ok (.iload 5, 2) := by decide +kernel
theorem dX12_laysRanked_111 : decode cX12_laysRanked 111 = .ok (.iconst 1, 1) := by decide +kernel
theorem dX12_laysRanked_112 : decode cX12_laysRanked 112 = .ok (.iadd, 1) := by decide +kernel
theorem dX12_laysRanked_113 : decode cX12_laysRanked 113 = .ok (.bipush 29, 2) := by decide +kernel
theorem dX12_laysRanked_115 : decode cX12_laysRanked 115 = .ok (.iload 5, 2) := by decide +kernel
theorem dX12_laysRanked_117 : decode cX12_laysRanked 117 = .ok (.iconst 1, 1) := by decide +kernel
theorem dX12_laysRanked_118 : decode cX12_laysRanked 118 = .ok (.iadd, 1) := by decide +kernel
theorem dX12_laysRanked_119 : decode cX12_laysRanked 119 = .ok (.imul, 1) := by decide +kernel
theorem dX12_laysRanked_120 : decode cX12_laysRanked 120 = .ok (.iload_n 3, 1) := by decide +kernel
theorem dX12_laysRanked_121 : decode cX12_laysRanked 121 = .ok (.iadd, 1) := by decide +kernel
theorem dX12_laysRanked_122 : decode cX12_laysRanked 122 = .ok (.iastore, 1) := by decide +kernel
theorem dX12_laysRanked_123 : decode cX12_laysRanked 123 = .ok (.iinc 5 1, 3) := by decide +kernel
theorem dX12_laysRanked_126 : decode cX12_laysRanked 126 = .ok (.goto (-99), 3) := by decide +kernel
theorem dX12_laysRanked_129 : decode cX12_laysRanked 129 = .ok (.return_, 1) := by decide +kernel
set_option maxHeartbeats 4000000 in
set_option maxRecDepth 100000 in
theorem lp_sX12_laysRanked {p : Program} {l : Launch} {e : Env} {R : Room} {s : State} {m : MethodId} {args : Array Value} {below : List Frame} {meth : Method} {c : Code} {Q : State → Prop} {A : Nat → Prop} {cells slots : Nat} {dC : Nat → ClassId} {dI : Nat → Nat → Nat} (h0 : Nat) (mi : Nat → Int32) (mr : Nat → Nat) (km : Nat → ClassId) (fm_must : Nat → Int32) (fm_least : Nat → Int32) (fm_pin : Nat → Int32) (fm_ways : Nat → Int32) (fm_official : Nat → Int32) (fm_trust : Nat → Int32) (fm_letter : Nat → Int32) (fm_reportPlace : Nat → Int32) (fm_reportKind : Nat → Int32) (fm_struck : Nat → Int32) (fm_reportMonth : Nat → Int32) (fm_reportDay : Nat → Int32) (fm_reportKnown : Nat → Int32) (fm_deedMonth : Nat → Int32) (fm_deedDay : Nat → Int32) (fm_deedLong : Nat → Int32) (fm_deedKind : Nat → Int32) (fm_kept : Nat → Int32) (fm_tape : Nat → Int32) (fm_verdict : Nat → Int32) (fm_row : Nat → Int32) (fm_aside : Nat → Int32) (fm_worth : Nat → Int32) (fm_out : Nat → Int32) (p1 : Int32) (gmi_0 : gi (mi 0) 0 24) (gmi_1 : gi (mi 1) 0 5) (gmi_2 : gi (mi 2) 0 5) (gmi_4 : gi (mi 4) 0 1) (gmi_7 : gi (mi 7) 0 6) (gmi_10 : gi (mi 10) 0 24) (gmi_17 : gi (mi 17) 0 8) (gmi_23 : gi (mi 23) 0 300) (gmi_24 : gi (mi 24) 0 1) (gmi_26 : gi (mi 26) 0 1600) (gmi_29 : gi (mi 29) 0 1600) (gmi_30 : gi (mi 30) 0 1600) (gmi_33 : gi (mi 33) 0 1) (gmi_37 : gi (mi 37) 0 1) (gmi_41 : gi (mi 41) 0 24) (gmi_50 : gi (mi 50) 0 1) (gmi_51 : gi (mi 51) 0 1) (gmi_56 : gi (mi 56) 0 80) (hx : p.tables.exec = Jvm.exec) (hb : c.code = cX12_laysRanked) (hml : c.maxLocals = 8) (hown : s.vm.findClass RX12 = some m.cls) (hts : ∀ w ∈ ((.code yX12_laysRanked cX12_laysRanked 8 none :: wsGB) : List Cond), w.before args s = true) (hK : va_K (dC, dI) vwCl (MT km) s) (hA : ∀ q : Nat, s.heap.size ≤ q → A q) (hRf : 3 ≤ R.frames) (hRl : 73 ≤ R.locals) (hRc : cells ≤ R.cells) (hRs : slots ≤ R.slots) (kr129 : ∀ (w0_47 : Int32) (z4 : Nat → Int32) (z5 : Nat → Int32) (H : Heap) (locs : List Loc) (ls : Array Slot), va_P (dC, dI) vwCl (MWn h0 mr km (mi 0) (mi 1) (mi 2) (mi 3) (mi 4) (mi 5) (mi 6) (mi 7) (mi 10) (mi 17) (mi 23) (mi 24) (mi 26) (mi 27) (mi 28) (mi 29) (mi 30) (mi 31) (mi 32) (mi 33) (mi 37) (mi 41) (mi 42) (mi 43) (mi 44) (mi 45) w0_47 (mi 48) (mi 49) (mi 50) (mi 51) (mi 54) (mi 56) fm_trust fm_letter fm_reportPlace fm_reportKind fm_struck fm_reportMonth fm_reportDay fm_reportKnown fm_deedMonth fm_deedDay fm_deedLong fm_deedKind fm_kept fm_tape fm_must fm_least fm_pin z4 fm_verdict fm_row z5 fm_aside fm_worth fm_out) H → va_D A (MWn h0 mr km (mi 0) (mi 1) (mi 2) (mi 3) (mi 4) (mi 5) (mi 6) (mi 7) (mi 10) (mi 17) (mi 23) (mi 24) (mi 26) (mi 27) (mi 28) (mi 29) (mi 30) (mi 31) (mi 32) (mi 33) (mi 37) (mi 41) (mi 42) (mi 43) (mi 44) (mi 45) w0_47 (mi 48) (mi 49) (mi 50) (mi 51) (mi 54) (mi 56) fm_trust fm_letter fm_reportPlace fm_reportKind fm_struck fm_reportMonth fm_reportDay fm_reportKnown fm_deedMonth fm_deedDay fm_deedLong fm_deedKind fm_kept fm_tape fm_must fm_least fm_pin z4 fm_verdict fm_row z5 fm_aside fm_worth fm_out) → va_S A s.heap H locs → lv_has ls 8 [] → W p l e R s m args below meth c H locs cells slots Q (F0 m 129 ls [])) : ∀ z : Nat, (∀ (v2 : Int32) (v3 : Int32) (v4 : Int32) (v5 : Int32) (w0_47 : Int32) (z4 : Nat → Int32) (z5 : Nat → Int32) (H : Heap) (locs : List Loc) (ls : Array Slot), gi v3 0 24 → gi v4 (-1) 10 → gi v5 0 24 → v3.toInt ≤ v5.toInt → 49 + (-2) * v5.toInt < (z : Int) → va_P (dC, dI) vwCl (MWn h0 mr km (mi 0) (mi 1) (mi 2) (mi 3) (mi 4) (mi 5) (mi 6) (mi 7) (mi 10) (mi 17) (mi 23) (mi 24) (mi 26) (mi 27) (mi 28) (mi 29) (mi 30) (mi 31) (mi 32) (mi 33) (mi 37) (mi 41) (mi 42) (mi 43) (mi 44) (mi 45) w0_47 (mi 48) (mi 49) (mi 50) (mi 51) (mi 54) (mi 56) fm_trust fm_letter fm_reportPlace fm_reportKind fm_struck fm_reportMonth fm_reportDay fm_reportKnown fm_deedMonth fm_deedDay fm_deedLong fm_deedKind fm_kept fm_tape fm_must fm_least fm_pin z4 fm_verdict fm_row z5 fm_aside fm_worth fm_out) H → va_D A (MWn h0 mr km (mi 0) (mi 1) (mi 2) (mi 3) (mi 4) (mi 5) (mi 6) (mi 7) (mi 10) (mi 17) (mi 23) (mi 24) (mi 26) (mi 27) (mi 28) (mi 29) (mi 30) (mi 31) (mi 32) (mi 33) (mi 37) (mi 41) (mi 42) (mi 43) (mi 44) (mi 45) w0_47 (mi 48) (mi 49) (mi 50) (mi 51) (mi 54) (mi 56) fm_trust fm_letter fm_reportPlace fm_reportKind fm_struck fm_reportMonth fm_reportDay fm_reportKnown fm_deedMonth fm_deedDay fm_deedLong fm_deedKind fm_kept fm_tape fm_must fm_least fm_pin z4 fm_verdict fm_row z5 fm_aside fm_worth fm_out) → va_S A s.heap H locs → lv_has ls 8 [(0, .ref h0), (1, .int p1), (2, .int v2), (3, .int v3), (4, .int v4), (5, .int v5)] → W p l e R s m args below meth c H locs cells slots Q (F0 m 27 ls [])) := by
  intro z
  induction z with
  | zero =>
    intro v2 v3 v4 v5 w0_47 z4 z5 H locs ls gv3 gv4 gv5 hle_gv3_gv5 hmu hP hD hS hl
    exact absurd hmu (by have hv51 := gv5.1; have hv52 := gv5.2; omega)
  | succ z ih =>
      intro v2 v3 v4 v5 w0_47 z4 z5 H locs ls gv3 gv4 gv5 hle_gv3_gv5 hmu hP hD hS hl
      refine lv_iload hx hb dX12_laysRanked_27 (lv_at hl 5 rfl) ?_
      refine lv_aload_n hx hb dX12_laysRanked_29 rfl (lv_at hl 0 rfl) ?_
      refine va_get (D := (dC, dI)) (ci := 12) (v := .int (mi 0)) (C := RX12) (T := TX12) (N := 57) hx hb hts (fun w h => List.mem_cons_of_mem _ (jnGB_X12 w h)) hown hK hP 0 rfl rfl 0 (by decide) (hts _ (List.mem_cons_of_mem _ mGB_103)) (fun _ h9 => h9) rfl dX12_laysRanked_30 ?_
      refine lv_icmp_ge (tgt := 129) hx hb dX12_laysRanked_33 (by decide) (fun c_512 => ?_) (fun c_512 => ?_)
      · exact kr129 w0_47 z4 z5 _ _ _ hP hD hS (lv_sub hl [] rfl)
      · have g_513 : gi v5 0 23 := gi_lt_l (Int32.not_le.mp c_512) gv5 gmi_0 (by decide)
        have g_514 : gi v3 0 23 := gi_rel hle_gv3_gv5 gv3 g_513
        have g_515 : gi (mi 0) 1 24 := gi_lt_r (Int32.not_le.mp c_512) gv5 gmi_0 (by decide)
        refine lv_aload_n hx hb dX12_laysRanked_36 rfl (lv_at hl 0 rfl) ?_
        refine lv_iload hx hb dX12_laysRanked_37 (lv_at hl 5 rfl) ?_
        refine lv_iload_n hx hb dX12_laysRanked_39 rfl (lv_at hl 3 rfl) ?_
        refine lv_iload hx hb dX12_laysRanked_40 (lv_at hl 4 rfl) ?_
        refine lv_iconst (v := 0) hx hb dX12_laysRanked_42 (by decide) ?_
        refine va_calli (va_runV (As := [.int v5, .int v3, .int v4, .int 0]) (rest := []) ⟨hx, hb, hml, hown, hts⟩ (sX12_waysBy l dC dI h0 (upd mi 47 w0_47) mr km z4 fm_trust fm_letter fm_reportPlace fm_reportKind fm_struck fm_reportMonth fm_reportDay fm_reportKnown fm_deedMonth fm_deedDay fm_deedLong fm_deedKind fm_kept fm_tape fm_must fm_least fm_pin fm_verdict fm_row z5 fm_aside fm_worth fm_out v5 v3 v4 0 (gi_w g_515 (by decide)) gmi_1 gmi_2 gmi_4 gmi_7 gmi_10 gmi_17 gmi_23 gmi_24 gmi_26 gmi_29 gmi_30 gmi_33 gmi_37 gmi_41 gmi_50 gmi_51 gmi_56 g_513 g_514 gv4 (gi_w (gi_c 0 0 (by decide)) (by decide))) (cwV 4 hts (gz_gV mGB_307 mGB_308 mGB_309 mGB_1 mGB_310 goodGB) rfl rfl rfl (by decide +kernel) ⟨Nat.le_trans (Nat.le_of_ble_eq_true rfl) hRf, Nat.le_trans (Nat.le_of_ble_eq_true rfl) hRl⟩) ⟨bl_R, mw_recv hK hP, fun U hU hW => ⟨rfl, by rw [hU]; exact hP, va_K.moved hW.alike hK⟩⟩ rfl rfl hl.1 rfl (lv_room (Nat.le_of_ble_eq_true rfl)) dX12_laysRanked_43 ⟨hRc, hRs⟩) hS (fun q _ h => h.elim) (fun q h => h.elim) (fun r_516 u t H1 locs ht hvm hw hB hz1 hk1 hS => ?_)
        have hP := gz_keep hP hk1
        generalize H1 = H at hP hS ⊢
        refine lv_istore (lv' := [(6, .int r_516), (0, .ref h0), (1, .int p1), (2, .int v2), (3, .int v3), (4, .int v4), (5, .int v5)]) hx hb dX12_laysRanked_46 hl (by decide) rfl (fun ls hl => ?_)
        refine lv_iload_n hx hb dX12_laysRanked_48 rfl (lv_at hl 3 rfl) ?_
        refine lv_iload hx hb dX12_laysRanked_49 (lv_at hl 0 rfl) ?_
        refine lv_icmp_ge (tgt := 58) hx hb dX12_laysRanked_51 (by decide) (fun c_517 => ?_) (fun c_517 => ?_)
        · refine lv_iconst (v := 1) hx hb dX12_laysRanked_58 (by decide) ?_
          refine lv_istore (lv' := [(7, .int 1), (6, .int r_516), (0, .ref h0), (1, .int p1), (2, .int v2), (3, .int v3), (4, .int v4), (5, .int v5)]) hx hb dX12_laysRanked_59 hl (by decide) rfl (fun ls hl => ?_)
          refine lv_iload_n hx hb dX12_laysRanked_61 rfl (lv_at hl 4 rfl) ?_
          refine lv_iload hx hb dX12_laysRanked_62 (lv_at hl 0 rfl) ?_
          refine lv_iconst (v := 1) hx hb dX12_laysRanked_64 (by decide) ?_
          refine lv_icmp_ne (tgt := 73) hx hb dX12_laysRanked_65 (by decide) (fun c_518 => absurd (gi_is_eq (gi_c 1 1 (by decide)) (gi_c 1 1 (by decide))) c_518) (fun c_518 => ?_)
          refine lv_iload hx hb dX12_laysRanked_68 (lv_at hl 1 rfl) ?_
          refine lv_goto (tgt := 74) hx hb dX12_laysRanked_70 (by decide) ?_
          refine lv_isub hx hb dX12_laysRanked_74 ?_
          refine lv_topi (fun x_519 ex_519 => ?_)
          refine lv_istore_n (lv' := [(2, .int x_519), (7, .int 1), (6, .int r_516), (0, .ref h0), (1, .int p1), (3, .int v3), (4, .int v4), (5, .int v5)]) hx hb dX12_laysRanked_75 rfl hl (by decide) rfl (fun ls hl => ?_)
          refine lv_aload_n hx hb dX12_laysRanked_76 rfl (lv_at hl 3 rfl) ?_
          refine lv_iload hx hb dX12_laysRanked_77 (lv_at hl 6 rfl) ?_
          refine lv_iload hx hb dX12_laysRanked_79 (lv_at hl 1 rfl) ?_
          refine va_calli (va_runV (As := [.int v4, .int 1]) (rest := []) ⟨hx, hb, hml, hown, hts⟩ (sX12_runBehind l dC dI h0 (upd mi 47 w0_47) mr km fm_trust fm_letter fm_reportPlace fm_reportKind fm_struck fm_reportMonth fm_reportDay fm_reportKnown fm_deedMonth fm_deedDay fm_deedLong fm_deedKind fm_kept fm_tape fm_must fm_least fm_pin z4 fm_verdict fm_row z5 fm_aside fm_worth fm_out v4 1 (gi_w g_515 (by decide)) gmi_1 gmi_2 gmi_4 gmi_7 gmi_10 gmi_17 gmi_23 gmi_24 gmi_26 gmi_29 gmi_30 gmi_33 gmi_37 gmi_41 gmi_50 gmi_51 gmi_56 gv4 (gi_w (gi_c 1 1 (by decide)) (by decide))) (cwV 2 hts (gz_gV mGB_311 mGB_312 mGB_313 mGB_1 mGB_314 goodGB) rfl rfl rfl (by decide +kernel) ⟨Nat.le_trans (Nat.le_of_ble_eq_true rfl) hRf, Nat.le_trans (Nat.le_of_ble_eq_true rfl) hRl⟩) ⟨bl_R, mw_recv hK hP, fun U hU hW => ⟨rfl, by rw [hU]; exact hP, va_K.moved hW.alike hK⟩⟩ rfl rfl hl.1 rfl (lv_room (Nat.le_of_ble_eq_true rfl)) dX12_laysRanked_81 ⟨hRc, hRs⟩) hS (fun q _ h => h.elim) (fun q h => h.elim) (fun r_520 u t H1 locs ht hvm hw hB hz1 hk1 hS => ?_)
          have hP := gz_keep hP hk1
          generalize H1 = H at hP hS ⊢
          have gr_520 : gi r_520 (-1) 10 := hw
          refine lv_istore (lv' := [(4, .int r_520), (2, .int x_519), (7, .int 1), (6, .int r_516), (0, .ref h0), (1, .int p1), (3, .int v3), (5, .int v5)]) hx hb dX12_laysRanked_84 hl (by decide) rfl (fun ls hl => ?_)
          refine lv_iload_n hx hb dX12_laysRanked_86 rfl (lv_at hl 6 rfl) ?_
          refine lv_iload hx hb dX12_laysRanked_87 (lv_at hl 2 rfl) ?_
          refine lv_iadd hx hb dX12_laysRanked_89 ?_
          refine lv_topi (fun x_521 ex_521 => ?_)
          have gx_521 : gi x_521 1 24 := gi_add ex_521 g_514 (gi_c 1 1 (by decide)) (by decide)
          refine lv_istore_n (lv' := [(3, .int x_521), (4, .int r_520), (2, .int x_519), (7, .int 1), (6, .int r_516), (0, .ref h0), (1, .int p1), (5, .int v5)]) hx hb dX12_laysRanked_90 rfl hl (by decide) rfl (fun ls hl => ?_)
          refine lv_aload_n hx hb dX12_laysRanked_91 rfl (lv_at hl 5 rfl) ?_
          refine lv_dup hx hb dX12_laysRanked_92 rfl ?_
          refine va_get (D := (dC, dI)) (ci := 12) (v := .int w0_47) (C := RX12) (T := TX12) (N := 57) hx hb hts (fun w h => List.mem_cons_of_mem _ (jnGB_X12 w h)) hown hK hP 0 rfl rfl 47 (by decide) (hts _ (List.mem_cons_of_mem _ mGB_404)) (fun _ h9 => h9) rfl dX12_laysRanked_93 ?_
          refine lv_iload hx hb dX12_laysRanked_96 (lv_at hl 3 rfl) ?_
          refine lv_iload hx hb dX12_laysRanked_98 (lv_at hl 7 rfl) ?_
          refine lv_ishl hx hb dX12_laysRanked_100 ?_
          refine lv_topi (fun x_522 ex_522 => ?_)
          refine lv_ior hx hb dX12_laysRanked_101 ?_
          refine lv_topi (fun x_523 ex_523 => ?_)
          refine va_put (D := (dC, dI)) (ci := 12) (v := .int x_523) (ty := .int) (C := RX12) (T := TX12) (N := 57) hx hb hts (fun w h => List.mem_cons_of_mem _ (jnGB_X12 w h)) tyX12 tyX12_ok nmX12 hown hK hP hD hS 0 rfl rfl 47 (by decide) (hts _ (List.mem_cons_of_mem _ mGB_404)) (fun _ h9 => h9) rfl (by decide +kernel) rfl rfl (Nat.le_of_ble_eq_true rfl) dX12_laysRanked_102 (fun H locs hP hD hS => ?_)
          have hP : va_P (dC, dI) vwCl (MWn h0 mr km (mi 0) (mi 1) (mi 2) (mi 3) (mi 4) (mi 5) (mi 6) (mi 7) (mi 10) (mi 17) (mi 23) (mi 24) (mi 26) (mi 27) (mi 28) (mi 29) (mi 30) (mi 31) (mi 32) (mi 33) (mi 37) (mi 41) (mi 42) (mi 43) (mi 44) (mi 45) x_523 (mi 48) (mi 49) (mi 50) (mi 51) (mi 54) (mi 56) fm_trust fm_letter fm_reportPlace fm_reportKind fm_struck fm_reportMonth fm_reportDay fm_reportKnown fm_deedMonth fm_deedDay fm_deedLong fm_deedKind fm_kept fm_tape fm_must fm_least fm_pin z4 fm_verdict fm_row z5 fm_aside fm_worth fm_out) H := hP
          have hD : va_D A (MWn h0 mr km (mi 0) (mi 1) (mi 2) (mi 3) (mi 4) (mi 5) (mi 6) (mi 7) (mi 10) (mi 17) (mi 23) (mi 24) (mi 26) (mi 27) (mi 28) (mi 29) (mi 30) (mi 31) (mi 32) (mi 33) (mi 37) (mi 41) (mi 42) (mi 43) (mi 44) (mi 45) x_523 (mi 48) (mi 49) (mi 50) (mi 51) (mi 54) (mi 56) fm_trust fm_letter fm_reportPlace fm_reportKind fm_struck fm_reportMonth fm_reportDay fm_reportKnown fm_deedMonth fm_deedDay fm_deedLong fm_deedKind fm_kept fm_tape fm_must fm_least fm_pin z4 fm_verdict fm_row z5 fm_aside fm_worth fm_out) := hD
          refine lv_aload_n hx hb dX12_laysRanked_105 rfl (lv_at hl 5 rfl) ?_
          refine va_get (D := (dC, dI)) (ci := 12) (v := .ref (mr 20)) (C := RX12) (T := TX12) (N := 57) hx hb hts (fun w h => List.mem_cons_of_mem _ (jnGB_X12 w h)) hown hK hP 0 rfl rfl 46 (by decide) (hts _ (List.mem_cons_of_mem _ mGB_36)) (fun _ h9 => h9) rfl dX12_laysRanked_106 ?_
          refine lv_iload hx hb dX12_laysRanked_109 (lv_at hl 7 rfl) ?_
          refine lv_iconst (v := 1) hx hb dX12_laysRanked_111 (by decide) ?_
          refine lv_iadd hx hb dX12_laysRanked_112 ?_
          refine lv_topi (fun x_524 ex_524 => ?_)
          have gx_524 : gi x_524 1 24 := gi_add ex_524 g_513 (gi_c 1 1 (by decide)) (by decide)
          refine lv_bipush (v := 29) hx hb dX12_laysRanked_113 (by decide) ?_
          refine lv_iload hx hb dX12_laysRanked_115 (lv_at hl 7 rfl) ?_
          refine lv_iconst (v := 1) hx hb dX12_laysRanked_117 (by decide) ?_
          refine lv_iadd hx hb dX12_laysRanked_118 ?_
          refine lv_topi (fun x_525 ex_525 => ?_)
          have gx_525 : gi x_525 1 24 := gi_add ex_525 g_513 (gi_c 1 1 (by decide)) (by decide)
          refine lv_imul hx hb dX12_laysRanked_119 ?_
          refine lv_topi (fun x_526 ex_526 => ?_)
          have gx_526 : gi x_526 29 696 := gi_mul ex_526 (gi_c 29 29 (by decide)) gx_525 (by decide)
          refine lv_iload_n hx hb dX12_laysRanked_120 rfl (lv_at hl 0 rfl) ?_
          refine lv_iadd hx hb dX12_laysRanked_121 ?_
          refine lv_topi (fun x_527 ex_527 => ?_)
          have gx_527 : gi x_527 30 720 := gi_add ex_527 gx_526 gx_521 (by decide)
          refine va_iast hx hb hK hP hD hS 21 20 rfl rfl (gi_in gx_524 (by decide)) dX12_laysRanked_122 (fun H locs hP hD hS => ?_)
          have hP : va_P (dC, dI) vwCl (MWn h0 mr km (mi 0) (mi 1) (mi 2) (mi 3) (mi 4) (mi 5) (mi 6) (mi 7) (mi 10) (mi 17) (mi 23) (mi 24) (mi 26) (mi 27) (mi 28) (mi 29) (mi 30) (mi 31) (mi 32) (mi 33) (mi 37) (mi 41) (mi 42) (mi 43) (mi 44) (mi 45) x_523 (mi 48) (mi 49) (mi 50) (mi 51) (mi 54) (mi 56) fm_trust fm_letter fm_reportPlace fm_reportKind fm_struck fm_reportMonth fm_reportDay fm_reportKnown fm_deedMonth fm_deedDay fm_deedLong fm_deedKind fm_kept fm_tape fm_must fm_least fm_pin z4 fm_verdict fm_row (upd z5 (x_524 : Int32).toNatClampNeg x_527) fm_aside fm_worth fm_out) H := hP
          have hD : va_D A (MWn h0 mr km (mi 0) (mi 1) (mi 2) (mi 3) (mi 4) (mi 5) (mi 6) (mi 7) (mi 10) (mi 17) (mi 23) (mi 24) (mi 26) (mi 27) (mi 28) (mi 29) (mi 30) (mi 31) (mi 32) (mi 33) (mi 37) (mi 41) (mi 42) (mi 43) (mi 44) (mi 45) x_523 (mi 48) (mi 49) (mi 50) (mi 51) (mi 54) (mi 56) fm_trust fm_letter fm_reportPlace fm_reportKind fm_struck fm_reportMonth fm_reportDay fm_reportKnown fm_deedMonth fm_deedDay fm_deedLong fm_deedKind fm_kept fm_tape fm_must fm_least fm_pin z4 fm_verdict fm_row (upd z5 (x_524 : Int32).toNatClampNeg x_527) fm_aside fm_worth fm_out) := hD
          generalize upd z5 (x_524 : Int32).toNatClampNeg x_527 = f_528 at hP hD
          obtain ⟨x_529, ex_529⟩ : ∃ y : Int32, y = v5 + 1 := ⟨_, rfl⟩
          have gx_529 : gi x_529 1 24 := gi_add ex_529 g_513 (gi_c 1 1 (by decide)) (by decide)
          refine lv_iinc (v := x_529) (lv' := [(5, .int x_529), (3, .int x_521), (4, .int r_520), (2, .int x_519), (7, .int 1), (6, .int r_516), (0, .ref h0), (1, .int p1)]) hx hb dX12_laysRanked_123 hl (k := 7) rfl (by rw [ex_529]; rfl) (by decide) rfl (fun ls hl => ?_)
          refine lv_goto (tgt := 27) hx hb dX12_laysRanked_126 (by decide) ?_
          exact ih x_519 x_521 r_520 x_529 x_523 z4 f_528 _ _ _ (gi_w gx_521 (by decide)) gr_520 (gi_w gx_529 (by decide)) (by have qgx_529 := gx_529.1; have rgx_529 := gx_529.2; have igx_529 : x_529.toInt = v5.toInt + 1 := (by have hc1 : (1 : Int32).toInt = 1 := (by decide); have h9 := gi_addI ex_529 (by have h1 := g_513.1; have h2 := (gi_c 1 1 (by decide)).1; have h3 := g_513.2; have h4 := (gi_c 1 1 (by decide)).2; omega) (by have h1 := g_513.1; have h2 := (gi_c 1 1 (by decide)).1; have h3 := g_513.2; have h4 := (gi_c 1 1 (by decide)).2; omega); rw [hc1] at h9; exact h9); have qgv5 := g_513.1; have rgv5 := g_513.2; have qgx_521 := gx_521.1; have rgx_521 := gx_521.2; have igx_521 : x_521.toInt = v3.toInt + 1 := (by have hc1 : (1 : Int32).toInt = 1 := (by decide); have h9 := gi_addI ex_521 (by have h1 := g_514.1; have h2 := (gi_c 1 1 (by decide)).1; have h3 := g_514.2; have h4 := (gi_c 1 1 (by decide)).2; omega) (by have h1 := g_514.1; have h2 := (gi_c 1 1 (by decide)).1; have h3 := g_514.2; have h4 := (gi_c 1 1 (by decide)).2; omega); rw [hc1] at h9; exact h9); have qgv3 := g_514.1; have rgv3 := g_514.2; have y1 := (Int32.lt_iff_toInt_lt.mp (Int32.not_le.mp c_512)); have y2 := (Int32.le_iff_toInt_le.mp c_517); omega) (by have av5 := gv5.1; have bv5 := gv5.2; have qgx_529 := gx_529.1; have rgx_529 := gx_529.2; have igx_529 : x_529.toInt = v5.toInt + 1 := (by have hc1 : (1 : Int32).toInt = 1 := (by decide); have h9 := gi_addI ex_529 (by have h1 := g_513.1; have h2 := (gi_c 1 1 (by decide)).1; have h3 := g_513.2; have h4 := (gi_c 1 1 (by decide)).2; omega) (by have h1 := g_513.1; have h2 := (gi_c 1 1 (by decide)).1; have h3 := g_513.2; have h4 := (gi_c 1 1 (by decide)).2; omega); rw [hc1] at h9; exact h9); have qgv5 := g_513.1; have rgv5 := g_513.2; omega) hP hD hS (lv_sub hl [6, 7, 3, 1, 2, 0] rfl)
        · have g_530 : gi v2 (-2147483648) 2147483646 := gi_lt_l (Int32.not_le.mp c_517) (gi_any v2) (gi_any r_516) (by decide)
          have g_531 : gi r_516 (-2147483647) 2147483647 := gi_lt_r (Int32.not_le.mp c_517) (gi_any v2) (gi_any r_516) (by decide)
          refine lv_iconst (v := 0) hx hb dX12_laysRanked_54 (by decide) ?_
          refine lv_goto (tgt := 59) hx hb dX12_laysRanked_55 (by decide) ?_
          refine lv_istore (lv' := [(7, .int 0), (6, .int r_516), (0, .ref h0), (1, .int p1), (2, .int v2), (3, .int v3), (4, .int v4), (5, .int v5)]) hx hb dX12_laysRanked_59 hl (by decide) rfl (fun ls hl => ?_)
          refine lv_iload_n hx hb dX12_laysRanked_61 rfl (lv_at hl 4 rfl) ?_
          refine lv_iload hx hb dX12_laysRanked_62 (lv_at hl 0 rfl) ?_
          refine lv_iconst (v := 1) hx hb dX12_laysRanked_64 (by decide) ?_
          refine lv_icmp_ne (tgt := 73) hx hb dX12_laysRanked_65 (by decide) (fun c_532 => ?_) (fun c_532 => absurd c_532 (gi_no_eq (gi_c 0 0 (by decide)) (gi_c 1 1 (by decide)) (by decide)))
          refine lv_iconst (v := 0) hx hb dX12_laysRanked_73 (by decide) ?_
          refine lv_isub hx hb dX12_laysRanked_74 ?_
          refine lv_topi (fun x_533 ex_533 => ?_)
          have gx_533 : gi x_533 (-2147483648) 2147483646 := gi_sub ex_533 g_530 (gi_c 0 0 (by decide)) (by decide)
          refine lv_istore_n (lv' := [(2, .int x_533), (7, .int 0), (6, .int r_516), (0, .ref h0), (1, .int p1), (3, .int v3), (4, .int v4), (5, .int v5)]) hx hb dX12_laysRanked_75 rfl hl (by decide) rfl (fun ls hl => ?_)
          refine lv_aload_n hx hb dX12_laysRanked_76 rfl (lv_at hl 3 rfl) ?_
          refine lv_iload hx hb dX12_laysRanked_77 (lv_at hl 6 rfl) ?_
          refine lv_iload hx hb dX12_laysRanked_79 (lv_at hl 1 rfl) ?_
          refine va_calli (va_runV (As := [.int v4, .int 0]) (rest := []) ⟨hx, hb, hml, hown, hts⟩ (sX12_runBehind l dC dI h0 (upd mi 47 w0_47) mr km fm_trust fm_letter fm_reportPlace fm_reportKind fm_struck fm_reportMonth fm_reportDay fm_reportKnown fm_deedMonth fm_deedDay fm_deedLong fm_deedKind fm_kept fm_tape fm_must fm_least fm_pin z4 fm_verdict fm_row z5 fm_aside fm_worth fm_out v4 0 (gi_w g_515 (by decide)) gmi_1 gmi_2 gmi_4 gmi_7 gmi_10 gmi_17 gmi_23 gmi_24 gmi_26 gmi_29 gmi_30 gmi_33 gmi_37 gmi_41 gmi_50 gmi_51 gmi_56 gv4 (gi_w (gi_c 0 0 (by decide)) (by decide))) (cwV 2 hts (gz_gV mGB_311 mGB_312 mGB_313 mGB_1 mGB_314 goodGB) rfl rfl rfl (by decide +kernel) ⟨Nat.le_trans (Nat.le_of_ble_eq_true rfl) hRf, Nat.le_trans (Nat.le_of_ble_eq_true rfl) hRl⟩) ⟨bl_R, mw_recv hK hP, fun U hU hW => ⟨rfl, by rw [hU]; exact hP, va_K.moved hW.alike hK⟩⟩ rfl rfl hl.1 rfl (lv_room (Nat.le_of_ble_eq_true rfl)) dX12_laysRanked_81 ⟨hRc, hRs⟩) hS (fun q _ h => h.elim) (fun q h => h.elim) (fun r_534 u t H1 locs ht hvm hw hB hz1 hk1 hS => ?_)
          have hP := gz_keep hP hk1
          generalize H1 = H at hP hS ⊢
          have gr_534 : gi r_534 (-1) 10 := hw
          refine lv_istore (lv' := [(4, .int r_534), (2, .int x_533), (7, .int 0), (6, .int r_516), (0, .ref h0), (1, .int p1), (3, .int v3), (5, .int v5)]) hx hb dX12_laysRanked_84 hl (by decide) rfl (fun ls hl => ?_)
          refine lv_iload_n hx hb dX12_laysRanked_86 rfl (lv_at hl 6 rfl) ?_
          refine lv_iload hx hb dX12_laysRanked_87 (lv_at hl 2 rfl) ?_
          refine lv_iadd hx hb dX12_laysRanked_89 ?_
          refine lv_topi (fun x_535 ex_535 => ?_)
          have gx_535 : gi x_535 0 23 := gi_add ex_535 g_514 (gi_c 0 0 (by decide)) (by decide)
          refine lv_istore_n (lv' := [(3, .int x_535), (4, .int r_534), (2, .int x_533), (7, .int 0), (6, .int r_516), (0, .ref h0), (1, .int p1), (5, .int v5)]) hx hb dX12_laysRanked_90 rfl hl (by decide) rfl (fun ls hl => ?_)
          refine lv_aload_n hx hb dX12_laysRanked_91 rfl (lv_at hl 5 rfl) ?_
          refine lv_dup hx hb dX12_laysRanked_92 rfl ?_
          refine va_get (D := (dC, dI)) (ci := 12) (v := .int w0_47) (C := RX12) (T := TX12) (N := 57) hx hb hts (fun w h => List.mem_cons_of_mem _ (jnGB_X12 w h)) hown hK hP 0 rfl rfl 47 (by decide) (hts _ (List.mem_cons_of_mem _ mGB_404)) (fun _ h9 => h9) rfl dX12_laysRanked_93 ?_
          refine lv_iload hx hb dX12_laysRanked_96 (lv_at hl 3 rfl) ?_
          refine lv_iload hx hb dX12_laysRanked_98 (lv_at hl 7 rfl) ?_
          refine lv_ishl hx hb dX12_laysRanked_100 ?_
          refine lv_topi (fun x_536 ex_536 => ?_)
          refine lv_ior hx hb dX12_laysRanked_101 ?_
          refine lv_topi (fun x_537 ex_537 => ?_)
          refine va_put (D := (dC, dI)) (ci := 12) (v := .int x_537) (ty := .int) (C := RX12) (T := TX12) (N := 57) hx hb hts (fun w h => List.mem_cons_of_mem _ (jnGB_X12 w h)) tyX12 tyX12_ok nmX12 hown hK hP hD hS 0 rfl rfl 47 (by decide) (hts _ (List.mem_cons_of_mem _ mGB_404)) (fun _ h9 => h9) rfl (by decide +kernel) rfl rfl (Nat.le_of_ble_eq_true rfl) dX12_laysRanked_102 (fun H locs hP hD hS => ?_)
          have hP : va_P (dC, dI) vwCl (MWn h0 mr km (mi 0) (mi 1) (mi 2) (mi 3) (mi 4) (mi 5) (mi 6) (mi 7) (mi 10) (mi 17) (mi 23) (mi 24) (mi 26) (mi 27) (mi 28) (mi 29) (mi 30) (mi 31) (mi 32) (mi 33) (mi 37) (mi 41) (mi 42) (mi 43) (mi 44) (mi 45) x_537 (mi 48) (mi 49) (mi 50) (mi 51) (mi 54) (mi 56) fm_trust fm_letter fm_reportPlace fm_reportKind fm_struck fm_reportMonth fm_reportDay fm_reportKnown fm_deedMonth fm_deedDay fm_deedLong fm_deedKind fm_kept fm_tape fm_must fm_least fm_pin z4 fm_verdict fm_row z5 fm_aside fm_worth fm_out) H := hP
          have hD : va_D A (MWn h0 mr km (mi 0) (mi 1) (mi 2) (mi 3) (mi 4) (mi 5) (mi 6) (mi 7) (mi 10) (mi 17) (mi 23) (mi 24) (mi 26) (mi 27) (mi 28) (mi 29) (mi 30) (mi 31) (mi 32) (mi 33) (mi 37) (mi 41) (mi 42) (mi 43) (mi 44) (mi 45) x_537 (mi 48) (mi 49) (mi 50) (mi 51) (mi 54) (mi 56) fm_trust fm_letter fm_reportPlace fm_reportKind fm_struck fm_reportMonth fm_reportDay fm_reportKnown fm_deedMonth fm_deedDay fm_deedLong fm_deedKind fm_kept fm_tape fm_must fm_least fm_pin z4 fm_verdict fm_row z5 fm_aside fm_worth fm_out) := hD
          refine lv_aload_n hx hb dX12_laysRanked_105 rfl (lv_at hl 5 rfl) ?_
          refine va_get (D := (dC, dI)) (ci := 12) (v := .ref (mr 20)) (C := RX12) (T := TX12) (N := 57) hx hb hts (fun w h => List.mem_cons_of_mem _ (jnGB_X12 w h)) hown hK hP 0 rfl rfl 46 (by decide) (hts _ (List.mem_cons_of_mem _ mGB_36)) (fun _ h9 => h9) rfl dX12_laysRanked_106 ?_
          refine lv_iload hx hb dX12_laysRanked_109 (lv_at hl 7 rfl) ?_
          refine lv_iconst (v := 1) hx hb dX12_laysRanked_111 (by decide) ?_
          refine lv_iadd hx hb dX12_laysRanked_112 ?_
          refine lv_topi (fun x_538 ex_538 => ?_)
          have gx_538 : gi x_538 1 24 := gi_add ex_538 g_513 (gi_c 1 1 (by decide)) (by decide)
          refine lv_bipush (v := 29) hx hb dX12_laysRanked_113 (by decide) ?_
          refine lv_iload hx hb dX12_laysRanked_115 (lv_at hl 7 rfl) ?_
          refine lv_iconst (v := 1) hx hb dX12_laysRanked_117 (by decide) ?_
          refine lv_iadd hx hb dX12_laysRanked_118 ?_
          refine lv_topi (fun x_539 ex_539 => ?_)
          have gx_539 : gi x_539 1 24 := gi_add ex_539 g_513 (gi_c 1 1 (by decide)) (by decide)
          refine lv_imul hx hb dX12_laysRanked_119 ?_
          refine lv_topi (fun x_540 ex_540 => ?_)
          have gx_540 : gi x_540 29 696 := gi_mul ex_540 (gi_c 29 29 (by decide)) gx_539 (by decide)
          refine lv_iload_n hx hb dX12_laysRanked_120 rfl (lv_at hl 0 rfl) ?_
          refine lv_iadd hx hb dX12_laysRanked_121 ?_
          refine lv_topi (fun x_541 ex_541 => ?_)
          have gx_541 : gi x_541 29 719 := gi_add ex_541 gx_540 gx_535 (by decide)
          refine va_iast hx hb hK hP hD hS 21 20 rfl rfl (gi_in gx_538 (by decide)) dX12_laysRanked_122 (fun H locs hP hD hS => ?_)
          have hP : va_P (dC, dI) vwCl (MWn h0 mr km (mi 0) (mi 1) (mi 2) (mi 3) (mi 4) (mi 5) (mi 6) (mi 7) (mi 10) (mi 17) (mi 23) (mi 24) (mi 26) (mi 27) (mi 28) (mi 29) (mi 30) (mi 31) (mi 32) (mi 33) (mi 37) (mi 41) (mi 42) (mi 43) (mi 44) (mi 45) x_537 (mi 48) (mi 49) (mi 50) (mi 51) (mi 54) (mi 56) fm_trust fm_letter fm_reportPlace fm_reportKind fm_struck fm_reportMonth fm_reportDay fm_reportKnown fm_deedMonth fm_deedDay fm_deedLong fm_deedKind fm_kept fm_tape fm_must fm_least fm_pin z4 fm_verdict fm_row (upd z5 (x_538 : Int32).toNatClampNeg x_541) fm_aside fm_worth fm_out) H := hP
          have hD : va_D A (MWn h0 mr km (mi 0) (mi 1) (mi 2) (mi 3) (mi 4) (mi 5) (mi 6) (mi 7) (mi 10) (mi 17) (mi 23) (mi 24) (mi 26) (mi 27) (mi 28) (mi 29) (mi 30) (mi 31) (mi 32) (mi 33) (mi 37) (mi 41) (mi 42) (mi 43) (mi 44) (mi 45) x_537 (mi 48) (mi 49) (mi 50) (mi 51) (mi 54) (mi 56) fm_trust fm_letter fm_reportPlace fm_reportKind fm_struck fm_reportMonth fm_reportDay fm_reportKnown fm_deedMonth fm_deedDay fm_deedLong fm_deedKind fm_kept fm_tape fm_must fm_least fm_pin z4 fm_verdict fm_row (upd z5 (x_538 : Int32).toNatClampNeg x_541) fm_aside fm_worth fm_out) := hD
          generalize upd z5 (x_538 : Int32).toNatClampNeg x_541 = f_542 at hP hD
          obtain ⟨x_543, ex_543⟩ : ∃ y : Int32, y = v5 + 1 := ⟨_, rfl⟩
          have gx_543 : gi x_543 1 24 := gi_add ex_543 g_513 (gi_c 1 1 (by decide)) (by decide)
          refine lv_iinc (v := x_543) (lv' := [(5, .int x_543), (3, .int x_535), (4, .int r_534), (2, .int x_533), (7, .int 0), (6, .int r_516), (0, .ref h0), (1, .int p1)]) hx hb dX12_laysRanked_123 hl (k := 7) rfl (by rw [ex_543]; rfl) (by decide) rfl (fun ls hl => ?_)
          refine lv_goto (tgt := 27) hx hb dX12_laysRanked_126 (by decide) ?_
          exact ih x_533 x_535 r_534 x_543 x_537 z4 f_542 _ _ _ (gi_w gx_535 (by decide)) gr_534 (gi_w gx_543 (by decide)) (by have qgx_543 := gx_543.1; have rgx_543 := gx_543.2; have igx_543 : x_543.toInt = v5.toInt + 1 := (by have hc1 : (1 : Int32).toInt = 1 := (by decide); have h9 := gi_addI ex_543 (by have h1 := g_513.1; have h2 := (gi_c 1 1 (by decide)).1; have h3 := g_513.2; have h4 := (gi_c 1 1 (by decide)).2; omega) (by have h1 := g_513.1; have h2 := (gi_c 1 1 (by decide)).1; have h3 := g_513.2; have h4 := (gi_c 1 1 (by decide)).2; omega); rw [hc1] at h9; exact h9); have qgv5 := g_513.1; have rgv5 := g_513.2; have qgx_535 := gx_535.1; have rgx_535 := gx_535.2; have igx_535 : x_535.toInt = v3.toInt + 0 := (by have hc0 : (0 : Int32).toInt = 0 := (by decide); have h9 := gi_addI ex_535 (by have h1 := g_514.1; have h2 := (gi_c 0 0 (by decide)).1; have h3 := g_514.2; have h4 := (gi_c 0 0 (by decide)).2; omega) (by have h1 := g_514.1; have h2 := (gi_c 0 0 (by decide)).1; have h3 := g_514.2; have h4 := (gi_c 0 0 (by decide)).2; omega); rw [hc0] at h9; exact h9); have qgv3 := g_514.1; have rgv3 := g_514.2; have y1 := (Int32.lt_iff_toInt_lt.mp (Int32.not_le.mp c_512)); have y2 := (Int32.lt_iff_toInt_lt.mp (Int32.not_le.mp c_517)); omega) (by have av5 := gv5.1; have bv5 := gv5.2; have qgx_543 := gx_543.1; have rgx_543 := gx_543.2; have igx_543 : x_543.toInt = v5.toInt + 1 := (by have hc1 : (1 : Int32).toInt = 1 := (by decide); have h9 := gi_addI ex_543 (by have h1 := g_513.1; have h2 := (gi_c 1 1 (by decide)).1; have h3 := g_513.2; have h4 := (gi_c 1 1 (by decide)).2; omega) (by have h1 := g_513.1; have h2 := (gi_c 1 1 (by decide)).1; have h3 := g_513.2; have h4 := (gi_c 1 1 (by decide)).2; omega); rw [hc1] at h9; exact h9); have qgv5 := g_513.1; have rgv5 := g_513.2; omega) hP hD hS (lv_sub hl [6, 7, 3, 1, 2, 0] rfl)
abbrev pb_sX12_laysRanked (dC : Nat → ClassId) (dI : Nat → Nat → Nat) (A9 : Nat → Prop) (h0 : Nat) (mi : Nat → Int32) (mr : Nat → Nat) (km : Nat → ClassId) (fm_must : Nat → Int32) (fm_least : Nat → Int32) (fm_pin : Nat → Int32) (fm_ways : Nat → Int32) (fm_official : Nat → Int32) (fm_trust : Nat → Int32) (fm_letter : Nat → Int32) (fm_reportPlace : Nat → Int32) (fm_reportKind : Nat → Int32) (fm_struck : Nat → Int32) (fm_reportMonth : Nat → Int32) (fm_reportDay : Nat → Int32) (fm_reportKnown : Nat → Int32) (fm_deedMonth : Nat → Int32) (fm_deedDay : Nat → Int32) (fm_deedLong : Nat → Int32) (fm_deedKind : Nat → Int32) (fm_kept : Nat → Int32) (fm_tape : Nat → Int32) (fm_verdict : Nat → Int32) (fm_row : Nat → Int32) (fm_aside : Nat → Int32) (fm_worth : Nat → Int32) (fm_out : Nat → Int32) (p1 : Int32) (w0_47 : Int32) (z4 : Nat → Int32) (z5 : Nat → Int32) (t : State) : Prop := va_P (dC, dI) vwCl (MWn h0 mr km (mi 0) (mi 1) (mi 2) (mi 3) (mi 4) (mi 5) (mi 6) (mi 7) (mi 10) (mi 17) (mi 23) (mi 24) (mi 26) (mi 27) (mi 28) (mi 29) (mi 30) (mi 31) (mi 32) (mi 33) (mi 37) (mi 41) (mi 42) (mi 43) (mi 44) (mi 45) w0_47 (mi 48) (mi 49) (mi 50) (mi 51) (mi 54) (mi 56) fm_trust fm_letter fm_reportPlace fm_reportKind fm_struck fm_reportMonth fm_reportDay fm_reportKnown fm_deedMonth fm_deedDay fm_deedLong fm_deedKind fm_kept fm_tape fm_must fm_least fm_pin z4 fm_verdict fm_row z5 fm_aside fm_worth fm_out) t.heap ∧ va_D A9 (MWn h0 mr km (mi 0) (mi 1) (mi 2) (mi 3) (mi 4) (mi 5) (mi 6) (mi 7) (mi 10) (mi 17) (mi 23) (mi 24) (mi 26) (mi 27) (mi 28) (mi 29) (mi 30) (mi 31) (mi 32) (mi 33) (mi 37) (mi 41) (mi 42) (mi 43) (mi 44) (mi 45) w0_47 (mi 48) (mi 49) (mi 50) (mi 51) (mi 54) (mi 56) fm_trust fm_letter fm_reportPlace fm_reportKind fm_struck fm_reportMonth fm_reportDay fm_reportKnown fm_deedMonth fm_deedDay fm_deedLong fm_deedKind fm_kept fm_tape fm_must fm_least fm_pin z4 fm_verdict fm_row z5 fm_aside fm_worth fm_out)
set_option maxHeartbeats 4000000 in
set_option maxRecDepth 100000 in
theorem sX12_laysRanked (l : Launch) (dC : Nat → ClassId) (dI : Nat → Nat → Nat) (sz : Nat) (h0 : Nat) (mi : Nat → Int32) (mr : Nat → Nat) (km : Nat → ClassId) (fm_must : Nat → Int32) (fm_least : Nat → Int32) (fm_pin : Nat → Int32) (fm_ways : Nat → Int32) (fm_official : Nat → Int32) (fm_trust : Nat → Int32) (fm_letter : Nat → Int32) (fm_reportPlace : Nat → Int32) (fm_reportKind : Nat → Int32) (fm_struck : Nat → Int32) (fm_reportMonth : Nat → Int32) (fm_reportDay : Nat → Int32) (fm_reportKnown : Nat → Int32) (fm_deedMonth : Nat → Int32) (fm_deedDay : Nat → Int32) (fm_deedLong : Nat → Int32) (fm_deedKind : Nat → Int32) (fm_kept : Nat → Int32) (fm_tape : Nat → Int32) (fm_verdict : Nat → Int32) (fm_row : Nat → Int32) (fm_aside : Nat → Int32) (fm_worth : Nat → Int32) (fm_out : Nat → Int32) (p1 : Int32) (gmi_0 : gi (mi 0) 0 24) (gmi_1 : gi (mi 1) 0 5) (gmi_2 : gi (mi 2) 0 5) (gmi_4 : gi (mi 4) 0 1) (gmi_7 : gi (mi 7) 0 6) (gmi_10 : gi (mi 10) 0 24) (gmi_17 : gi (mi 17) 0 8) (gmi_23 : gi (mi 23) 0 300) (gmi_24 : gi (mi 24) 0 1) (gmi_26 : gi (mi 26) 0 1600) (gmi_29 : gi (mi 29) 0 1600) (gmi_30 : gi (mi 30) 0 1600) (gmi_33 : gi (mi 33) 0 1) (gmi_37 : gi (mi 37) 0 1) (gmi_41 : gi (mi 41) 0 24) (gmi_50 : gi (mi 50) 0 1) (gmi_51 : gi (mi 51) 0 1) (gmi_56 : gi (mi 56) 0 80) : Met l yX12_laysRanked (.code yX12_laysRanked cX12_laysRanked 8 none :: wsGB) ({ frames := 3, cells := 0, slots := 0, locals := 73 }) (va_Pc [.ref h0, .int p1] (fun U => U.heap.size = sz ∧ va_P (dC, dI) vwCl (MWn h0 mr km (mi 0) (mi 1) (mi 2) (mi 3) (mi 4) (mi 5) (mi 6) (mi 7) (mi 10) (mi 17) (mi 23) (mi 24) (mi 26) (mi 27) (mi 28) (mi 29) (mi 30) (mi 31) (mi 32) (mi 33) (mi 37) (mi 41) (mi 42) (mi 43) (mi 44) (mi 45) (mi 47) (mi 48) (mi 49) (mi 50) (mi 51) (mi 54) (mi 56) fm_trust fm_letter fm_reportPlace fm_reportKind fm_struck fm_reportMonth fm_reportDay fm_reportKnown fm_deedMonth fm_deedDay fm_deedLong fm_deedKind fm_kept fm_tape fm_must fm_least fm_pin fm_ways fm_verdict fm_row fm_official fm_aside fm_worth fm_out) U.heap ∧ va_K (dC, dI) vwCl (MT km) U ∧ va_D (fun _ => True) (MWn h0 mr km (mi 0) (mi 1) (mi 2) (mi 3) (mi 4) (mi 5) (mi 6) (mi 7) (mi 10) (mi 17) (mi 23) (mi 24) (mi 26) (mi 27) (mi 28) (mi 29) (mi 30) (mi 31) (mi 32) (mi 33) (mi 37) (mi 41) (mi 42) (mi 43) (mi 44) (mi 45) (mi 47) (mi 48) (mi 49) (mi 50) (mi 51) (mi 54) (mi 56) fm_trust fm_letter fm_reportPlace fm_reportKind fm_struck fm_reportMonth fm_reportDay fm_reportKnown fm_deedMonth fm_deedDay fm_deedLong fm_deedKind fm_kept fm_tape fm_must fm_least fm_pin fm_ways fm_verdict fm_row fm_official fm_aside fm_worth fm_out))) (va_Qv (fun (u : Unit) => True) (fun _ t => ∃ (w0_47 : Int32) (z4 : Nat → Int32) (z5 : Nat → Int32), pb_sX12_laysRanked dC dI (va_A (MWn h0 mr km (mi 0) (mi 1) (mi 2) (mi 3) (mi 4) (mi 5) (mi 6) (mi 7) (mi 10) (mi 17) (mi 23) (mi 24) (mi 26) (mi 27) (mi 28) (mi 29) (mi 30) (mi 31) (mi 32) (mi 33) (mi 37) (mi 41) (mi 42) (mi 43) (mi 44) (mi 45) (mi 47) (mi 48) (mi 49) (mi 50) (mi 51) (mi 54) (mi 56) fm_trust fm_letter fm_reportPlace fm_reportKind fm_struck fm_reportMonth fm_reportDay fm_reportKnown fm_deedMonth fm_deedDay fm_deedLong fm_deedKind fm_kept fm_tape fm_must fm_least fm_pin fm_ways fm_verdict fm_row fm_official fm_aside fm_worth fm_out) sz) h0 mi mr km fm_must fm_least fm_pin fm_ways fm_official fm_trust fm_letter fm_reportPlace fm_reportKind fm_struck fm_reportMonth fm_reportDay fm_reportKnown fm_deedMonth fm_deedDay fm_deedLong fm_deedKind fm_kept fm_tape fm_verdict fm_row fm_aside fm_worth fm_out p1 w0_47 z4 z5 t) (va_A (MWn h0 mr km (mi 0) (mi 1) (mi 2) (mi 3) (mi 4) (mi 5) (mi 6) (mi 7) (mi 10) (mi 17) (mi 23) (mi 24) (mi 26) (mi 27) (mi 28) (mi 29) (mi 30) (mi 31) (mi 32) (mi 33) (mi 37) (mi 41) (mi 42) (mi 43) (mi 44) (mi 45) (mi 47) (mi 48) (mi 49) (mi 50) (mi 51) (mi 54) (mi 56) fm_trust fm_letter fm_reportPlace fm_reportKind fm_struck fm_reportMonth fm_reportDay fm_reportKnown fm_deedMonth fm_deedDay fm_deedLong fm_deedKind fm_kept fm_tape fm_must fm_least fm_pin fm_ways fm_verdict fm_row fm_official fm_aside fm_worth fm_out) sz)) 0 0 (va_A (MWn h0 mr km (mi 0) (mi 1) (mi 2) (mi 3) (mi 4) (mi 5) (mi 6) (mi 7) (mi 10) (mi 17) (mi 23) (mi 24) (mi 26) (mi 27) (mi 28) (mi 29) (mi 30) (mi 31) (mi 32) (mi 33) (mi 37) (mi 41) (mi 42) (mi 43) (mi 44) (mi 45) (mi 47) (mi 48) (mi 49) (mi 50) (mi 51) (mi 54) (mi 56) fm_trust fm_letter fm_reportPlace fm_reportKind fm_struck fm_reportMonth fm_reportDay fm_reportKnown fm_deedMonth fm_deedDay fm_deedLong fm_deedKind fm_kept fm_tape fm_must fm_least fm_pin fm_ways fm_verdict fm_row fm_official fm_aside fm_worth fm_out) sz) := by
  refine Met.ofW (cc := cX12_laysRanked) (maxL := 8) (ret := none) (by decide) rfl ?_
  intro p e s m args below meth c s₁ B hml hv
  obtain ⟨rfl, hsz, hP, hK, hD0⟩ := hv
  have hx := B.exec
  have hb := B.bytes
  have hr := B.returns
  have hts := atoms_spec (ws := (.code yX12_laysRanked cX12_laysRanked 8 none :: wsGB)) B.pre
  have hown : s.vm.findClass RX12 = some m.cls := findClass_of_methodNamed B.named
  have hlocks := B.notSynchronized
  subst hsz
  have hD := hD0.self (sz := s.heap.size)
  generalize hAe : va_A (MWn h0 mr km (mi 0) (mi 1) (mi 2) (mi 3) (mi 4) (mi 5) (mi 6) (mi 7) (mi 10) (mi 17) (mi 23) (mi 24) (mi 26) (mi 27) (mi 28) (mi 29) (mi 30) (mi 31) (mi 32) (mi 33) (mi 37) (mi 41) (mi 42) (mi 43) (mi 44) (mi 45) (mi 47) (mi 48) (mi 49) (mi 50) (mi 51) (mi 54) (mi 56) fm_trust fm_letter fm_reportPlace fm_reportKind fm_struck fm_reportMonth fm_reportDay fm_reportKnown fm_deedMonth fm_deedDay fm_deedLong fm_deedKind fm_kept fm_tape fm_must fm_least fm_pin fm_ways fm_verdict fm_row fm_official fm_aside fm_worth fm_out) s.heap.size = A at hD ⊢
  have hA : ∀ q : Nat, s.heap.size ≤ q → A q := fun q h => by rw [← hAe]; exact Or.inr h
  have hS : va_S A s.heap s.heap [] := va_S.rf
  have hl := lv_entry ([.ref h0, .int p1]) (n := 8) (Nat.le_of_ble_eq_true rfl)
  rw [lg_entry_eq]
  generalize (lg_sl ([.ref h0, .int p1]) ++ List.replicate (8 - (lg_sl ([.ref h0, .int p1])).length) Slot.unset).toArray = ls at hl ⊢
  have hl : lv_has ls 8 [(0, .ref h0), (1, .int p1)] := hl
  refine lv_aload_n hx hb dX12_laysRanked_0 rfl (lv_at hl 0 rfl) ?_
  have hFc := gz_fullF hD hS hA
  refine va_calli (va_runV (As := []) (rest := []) ⟨hx, hb, hml, hown, hts⟩ (sX12_counts l dC dI s.heap.size h0 mi mr km fm_must fm_least fm_pin fm_ways fm_trust fm_letter fm_reportPlace fm_reportKind fm_struck fm_reportMonth fm_reportDay fm_reportKnown fm_deedMonth fm_deedDay fm_deedLong fm_deedKind fm_kept fm_tape fm_verdict fm_row fm_official fm_aside fm_worth fm_out gmi_0 gmi_1 gmi_2 gmi_4 gmi_7 gmi_10 gmi_17 gmi_23 gmi_24 gmi_26 gmi_29 gmi_30 gmi_33 gmi_37 gmi_41 gmi_50 gmi_51 gmi_56) (cwV 0 hts (gz_gV mGB_299 mGB_300 mGB_301 mGB_1 mGB_302 goodGB) rfl rfl rfl (by decide +kernel) ⟨Nat.le_of_ble_eq_true rfl, Nat.le_of_ble_eq_true rfl⟩) ⟨bl_W, mw_recv hK hP, fun U hU hW => ⟨rfl, by rw [hU], by rw [hU]; exact hP, va_K.moved hW.alike hK, hD.weaken (fun _ _ _ _ => trivial)⟩⟩ rfl rfl hl.1 rfl (lv_room (Nat.le_of_ble_eq_true rfl)) dX12_laysRanked_1 ⟨Nat.zero_le _, Nat.zero_le _⟩) hS (fun q _ h => hFc q h) hFc (fun r_544 u t H1 locs ht hvm hw hB hz1 hk1 hS => ?_)
  obtain ⟨f_545, hB⟩ := hB
  obtain ⟨hP1, hD1⟩ := hB
  rw [ht] at hP1
  have hD : va_D A (MWn h0 mr km (mi 0) (mi 1) (mi 2) (mi 3) (mi 4) (mi 5) (mi 6) (mi 7) (mi 10) (mi 17) (mi 23) (mi 24) (mi 26) (mi 27) (mi 28) (mi 29) (mi 30) (mi 31) (mi 32) (mi 33) (mi 37) (mi 41) (mi 42) (mi 43) (mi 44) (mi 45) (mi 47) (mi 48) (mi 49) (mi 50) (mi 51) (mi 54) (mi 56) fm_trust fm_letter fm_reportPlace fm_reportKind fm_struck fm_reportMonth fm_reportDay fm_reportKnown fm_deedMonth fm_deedDay fm_deedLong fm_deedKind fm_kept fm_tape fm_must fm_least fm_pin f_545 fm_verdict fm_row fm_official fm_aside fm_worth fm_out) := gz_fullD hFc hD1
  have hP : va_P (dC, dI) vwCl (MWn h0 mr km (mi 0) (mi 1) (mi 2) (mi 3) (mi 4) (mi 5) (mi 6) (mi 7) (mi 10) (mi 17) (mi 23) (mi 24) (mi 26) (mi 27) (mi 28) (mi 29) (mi 30) (mi 31) (mi 32) (mi 33) (mi 37) (mi 41) (mi 42) (mi 43) (mi 44) (mi 45) (mi 47) (mi 48) (mi 49) (mi 50) (mi 51) (mi 54) (mi 56) fm_trust fm_letter fm_reportPlace fm_reportKind fm_struck fm_reportMonth fm_reportDay fm_reportKnown fm_deedMonth fm_deedDay fm_deedLong fm_deedKind fm_kept fm_tape fm_must fm_least fm_pin f_545 fm_verdict fm_row fm_official fm_aside fm_worth fm_out) H1 := hP1
  generalize H1 = H at hP hS ⊢
  refine lv_pop hx hb dX12_laysRanked_4 rfl ?_
  refine lv_iload_n hx hb dX12_laysRanked_5 rfl (lv_at hl 1 rfl) ?_
  refine lv_istore_n (lv' := [(2, .int p1), (0, .ref h0), (1, .int p1)]) hx hb dX12_laysRanked_6 rfl hl (by decide) rfl (fun ls hl => ?_)
  refine lv_iconst (v := 0) hx hb dX12_laysRanked_7 (by decide) ?_
  refine lv_istore_n (lv' := [(3, .int 0), (2, .int p1), (0, .ref h0), (1, .int p1)]) hx hb dX12_laysRanked_8 rfl hl (by decide) rfl (fun ls hl => ?_)
  refine lv_iconst (v := 0) hx hb dX12_laysRanked_9 (by decide) ?_
  refine lv_istore (lv' := [(4, .int 0), (3, .int 0), (2, .int p1), (0, .ref h0), (1, .int p1)]) hx hb dX12_laysRanked_10 hl (by decide) rfl (fun ls hl => ?_)
  refine lv_aload_n hx hb dX12_laysRanked_12 rfl (lv_at hl 3 rfl) ?_
  refine lv_iconst (v := 0) hx hb dX12_laysRanked_13 (by decide) ?_
  refine va_put (D := (dC, dI)) (ci := 12) (v := .int 0) (ty := .int) (C := RX12) (T := TX12) (N := 57) hx hb hts (fun w h => List.mem_cons_of_mem _ (jnGB_X12 w h)) tyX12 tyX12_ok nmX12 hown hK hP hD hS 0 rfl rfl 47 (by decide) (hts _ (List.mem_cons_of_mem _ mGB_404)) (fun _ h9 => h9) rfl (by decide +kernel) rfl rfl (Nat.le_of_ble_eq_true rfl) dX12_laysRanked_14 (fun H locs hP hD hS => ?_)
  have hP : va_P (dC, dI) vwCl (MWn h0 mr km (mi 0) (mi 1) (mi 2) (mi 3) (mi 4) (mi 5) (mi 6) (mi 7) (mi 10) (mi 17) (mi 23) (mi 24) (mi 26) (mi 27) (mi 28) (mi 29) (mi 30) (mi 31) (mi 32) (mi 33) (mi 37) (mi 41) (mi 42) (mi 43) (mi 44) (mi 45) 0 (mi 48) (mi 49) (mi 50) (mi 51) (mi 54) (mi 56) fm_trust fm_letter fm_reportPlace fm_reportKind fm_struck fm_reportMonth fm_reportDay fm_reportKnown fm_deedMonth fm_deedDay fm_deedLong fm_deedKind fm_kept fm_tape fm_must fm_least fm_pin f_545 fm_verdict fm_row fm_official fm_aside fm_worth fm_out) H := hP
  have hD : va_D A (MWn h0 mr km (mi 0) (mi 1) (mi 2) (mi 3) (mi 4) (mi 5) (mi 6) (mi 7) (mi 10) (mi 17) (mi 23) (mi 24) (mi 26) (mi 27) (mi 28) (mi 29) (mi 30) (mi 31) (mi 32) (mi 33) (mi 37) (mi 41) (mi 42) (mi 43) (mi 44) (mi 45) 0 (mi 48) (mi 49) (mi 50) (mi 51) (mi 54) (mi 56) fm_trust fm_letter fm_reportPlace fm_reportKind fm_struck fm_reportMonth fm_reportDay fm_reportKnown fm_deedMonth fm_deedDay fm_deedLong fm_deedKind fm_kept fm_tape fm_must fm_least fm_pin f_545 fm_verdict fm_row fm_official fm_aside fm_worth fm_out) := hD
  refine lv_aload_n hx hb dX12_laysRanked_17 rfl (lv_at hl 3 rfl) ?_
  refine va_get (D := (dC, dI)) (ci := 12) (v := .ref (mr 20)) (C := RX12) (T := TX12) (N := 57) hx hb hts (fun w h => List.mem_cons_of_mem _ (jnGB_X12 w h)) hown hK hP 0 rfl rfl 46 (by decide) (hts _ (List.mem_cons_of_mem _ mGB_36)) (fun _ h9 => h9) rfl dX12_laysRanked_18 ?_
  refine lv_iconst (v := 0) hx hb dX12_laysRanked_21 (by decide) ?_
  refine lv_iconst (v := 0) hx hb dX12_laysRanked_22 (by decide) ?_
  refine va_iast hx hb hK hP hD hS 21 20 rfl rfl (gi_in (gi_c 0 0 (by decide)) (by decide)) dX12_laysRanked_23 (fun H locs hP hD hS => ?_)
  have hP : va_P (dC, dI) vwCl (MWn h0 mr km (mi 0) (mi 1) (mi 2) (mi 3) (mi 4) (mi 5) (mi 6) (mi 7) (mi 10) (mi 17) (mi 23) (mi 24) (mi 26) (mi 27) (mi 28) (mi 29) (mi 30) (mi 31) (mi 32) (mi 33) (mi 37) (mi 41) (mi 42) (mi 43) (mi 44) (mi 45) 0 (mi 48) (mi 49) (mi 50) (mi 51) (mi 54) (mi 56) fm_trust fm_letter fm_reportPlace fm_reportKind fm_struck fm_reportMonth fm_reportDay fm_reportKnown fm_deedMonth fm_deedDay fm_deedLong fm_deedKind fm_kept fm_tape fm_must fm_least fm_pin f_545 fm_verdict fm_row (upd fm_official (0 : Int32).toNatClampNeg 0) fm_aside fm_worth fm_out) H := hP
  have hD : va_D A (MWn h0 mr km (mi 0) (mi 1) (mi 2) (mi 3) (mi 4) (mi 5) (mi 6) (mi 7) (mi 10) (mi 17) (mi 23) (mi 24) (mi 26) (mi 27) (mi 28) (mi 29) (mi 30) (mi 31) (mi 32) (mi 33) (mi 37) (mi 41) (mi 42) (mi 43) (mi 44) (mi 45) 0 (mi 48) (mi 49) (mi 50) (mi 51) (mi 54) (mi 56) fm_trust fm_letter fm_reportPlace fm_reportKind fm_struck fm_reportMonth fm_reportDay fm_reportKnown fm_deedMonth fm_deedDay fm_deedLong fm_deedKind fm_kept fm_tape fm_must fm_least fm_pin f_545 fm_verdict fm_row (upd fm_official (0 : Int32).toNatClampNeg 0) fm_aside fm_worth fm_out) := hD
  generalize upd fm_official (0 : Int32).toNatClampNeg 0 = f_546 at hP hD
  refine lv_iconst (v := 0) hx hb dX12_laysRanked_24 (by decide) ?_
  refine lv_istore (lv' := [(5, .int 0), (4, .int 0), (3, .int 0), (2, .int p1), (0, .ref h0), (1, .int p1)]) hx hb dX12_laysRanked_25 hl (by decide) rfl (fun ls hl => ?_)
  refine (lp_sX12_laysRanked h0 mi mr km fm_must fm_least fm_pin fm_ways fm_official fm_trust fm_letter fm_reportPlace fm_reportKind fm_struck fm_reportMonth fm_reportDay fm_reportKnown fm_deedMonth fm_deedDay fm_deedLong fm_deedKind fm_kept fm_tape fm_verdict fm_row fm_aside fm_worth fm_out p1 gmi_0 gmi_1 gmi_2 gmi_4 gmi_7 gmi_10 gmi_17 gmi_23 gmi_24 gmi_26 gmi_29 gmi_30 gmi_33 gmi_37 gmi_41 gmi_50 gmi_51 gmi_56 hx hb hml hown hts hK hA (Nat.le_of_ble_eq_true rfl) (Nat.le_of_ble_eq_true rfl) (Nat.zero_le _) (Nat.zero_le _) (fun w0_47 z4 z5 H locs ls hP hD hS hl => ?_) 62) p1 0 0 0 0 f_545 f_546 _ _ _ (gi_w (gi_c 0 0 (by decide)) (by decide)) (gi_w (gi_c 0 0 (by decide)) (by decide)) (gi_w (gi_c 0 0 (by decide)) (by decide)) (by have k0 : (0 : Int32).toInt = 0 := (by decide); have k0 : (0 : Int32).toInt = 0 := (by decide); omega) (by have k0 : (0 : Int32).toInt = 0 := (by decide); omega) hP hD hS (lv_sub hl [4, 5, 3, 2, 1, 0] rfl)
  · skip
    exact W.vret hx hb hr (fun t ht hW => ⟨⟨(), rfl, trivial, w0_47, z4, z5, by rw [ht]; exact hP, hD⟩, hS.F ht⟩) hS.2.2 dX12_laysRanked_129
theorem dX12_ranked_0 : decode cX12_ranked 0 = .ok (.aload_n 0, 1) := by decide +kernel
theorem dX12_ranked_1 : decode cX12_ranked 1 = .ok (.iload_n 1, 1) := by decide +kernel
theorem dX12_ranked_2 : decode cX12_ranked 2 = .ok (.invokevirtual 359, 3) := by decide +kernel
theorem dX12_ranked_5 : decode cX12_ranked 5 = .ok (.ifCond .eq 15, 3) := by decide +kernel
theorem dX12_ranked_8 : decode cX12_ranked 8 = .ok (.iload_n 2, 1) := by decide +kernel
theorem dX12_ranked_9 : decode cX12_ranked 9 = .ok (.ifCond .lt 11, 3) := by decide +kernel
theorem dX12_ranked_12 : decode cX12_ranked 12 = .ok (.aload_n 0, 1) := by decide +kernel
theorem dX12_ranked_13 : decode cX12_ranked 13 = .ok (.iload_n 3, 1) := by decide +kernel
theorem dX12_ranked_14 : decode cX12_ranked 14 = .ok (.invokevirtual 379, 3) := by decide +kernel
theorem dX12_ranked_17 : decode cX12_ranked 17 = .ok (.ifCond .ne 6, 3) := by decide +kernel
theorem dX12_ranked_20 : decode cX12_ranked 20 = .ok (.bipush (-2), 2) := by decide +kernel
theorem dX12_ranked_22 : decode cX12_ranked 22 = .ok (.ireturn, 1) := by decide +kernel
theorem dX12_ranked_23 : decode cX12_ranked 23 = .ok (.aload_n 0, 1) := by decide +kernel
theorem dX12_ranked_24 : decode cX12_ranked 24 = .ok (.iload_n 1, 1) := by decide +kernel
theorem dX12_ranked_25 : decode cX12_ranked 25 = .ok (.invokevirtual 362, 3) := by decide +kernel
theorem dX12_ranked_28 : decode cX12_ranked 28 = .ok (.iload_n 2, 1) := by decide +kernel
theorem dX12_ranked_29 : decode cX12_ranked 29 = .ok (.aload_n 0, 1) := by decide +kernel
theorem dX12_ranked_30 : decode cX12_ranked 30 = .ok (.invokevirtual 332, 3) := by decide +kernel
theorem dX12_ranked_33 : decode cX12_ranked 33 = .ok (.if_icmp .lt 5, 3) := by decide +kernel
theorem dX12_ranked_36 : decode cX12_ranked 36 = .ok (.iconst (-1), 1) := by decide +kernel
theorem dX12_ranked_37 : decode cX12_ranked 37 = .ok (.ireturn, 1) := by decide +kernel
theorem dX12_ranked_38 : decode cX12_ranked 38 = .ok (.aload_n 0, 1) := by decide +kernel
theorem dX12_ranked_39 : decode cX12_ranked 39 = .ok (.iload_n 2, 1) := by decide +kernel
theorem dX12_ranked_40 : decode cX12_ranked 40 = .ok (.invokevirtual 400, 3) := by decide +kernel
theorem dX12_ranked_43 : decode cX12_ranked 43 = .ok (.aload_n 0, 1) := by decide +kernel
theorem dX12_ranked_44 : decode cX12_ranked 44 = .ok (.getfield 87, 3) := by decide +kernel
theorem dX12_ranked_47 : decode cX12_ranked 47 = .ok (.iload_n 3, 1) := by decide +kernel
theorem dX12_ranked_48 : decode cX12_ranked 48 = .ok (.iaload, 1) := by decide +kernel
theorem dX12_ranked_49 : decode cX12_ranked 49 = .ok (.ireturn, 1) := by decide +kernel
abbrev pb_sX12_ranked (dC : Nat → ClassId) (dI : Nat → Nat → Nat) (A9 : Nat → Prop) (h0 : Nat) (mi : Nat → Int32) (mr : Nat → Nat) (km : Nat → ClassId) (fm_must : Nat → Int32) (fm_least : Nat → Int32) (fm_pin : Nat → Int32) (fm_ways : Nat → Int32) (fm_verdict : Nat → Int32) (fm_row : Nat → Int32) (fm_struck : Nat → Int32) (fm_reportKnown : Nat → Int32) (fm_reportPlace : Nat → Int32) (fm_reportMonth : Nat → Int32) (fm_reportDay : Nat → Int32) (fm_reportKind : Nat → Int32) (fm_trust : Nat → Int32) (fm_letter : Nat → Int32) (fm_official : Nat → Int32) (fm_deedMonth : Nat → Int32) (fm_deedDay : Nat → Int32) (fm_deedLong : Nat → Int32) (fm_deedKind : Nat → Int32) (fm_kept : Nat → Int32) (fm_tape : Nat → Int32) (fm_aside : Nat → Int32) (fm_worth : Nat → Int32) (fm_out : Nat → Int32) (p1 : Int32) (p2 : Int32) (p3 : Int32) (w0_37 : Int32) (w0_41 : Int32) (w0_47 : Int32) (z1 : Nat → Int32) (z2 : Nat → Int32) (z3 : Nat → Int32) (z4 : Nat → Int32) (z5 : Nat → Int32) (z6 : Nat → Int32) (z15 : Nat → Int32) (t : State) : Prop := gi w0_37 0 1 ∧ gi w0_41 0 24 ∧ ga z6 24 0 23 ∧ va_P (dC, dI) vwCl (MWn h0 mr km (mi 0) (mi 1) (mi 2) (mi 3) (mi 4) (mi 5) (mi 6) (mi 7) (mi 10) (mi 17) (mi 23) (mi 24) (mi 26) (mi 27) (mi 28) (mi 29) (mi 30) (mi 31) (mi 32) (mi 33) w0_37 w0_41 (mi 42) (mi 43) (mi 44) (mi 45) w0_47 (mi 48) (mi 49) (mi 50) (mi 51) (mi 54) (mi 56) fm_trust fm_letter fm_reportPlace fm_reportKind fm_struck fm_reportMonth fm_reportDay fm_reportKnown fm_deedMonth fm_deedDay fm_deedLong fm_deedKind fm_kept fm_tape z1 z2 z3 z4 z5 z6 z15 fm_aside fm_worth fm_out) t.heap ∧ va_D A9 (MWn h0 mr km (mi 0) (mi 1) (mi 2) (mi 3) (mi 4) (mi 5) (mi 6) (mi 7) (mi 10) (mi 17) (mi 23) (mi 24) (mi 26) (mi 27) (mi 28) (mi 29) (mi 30) (mi 31) (mi 32) (mi 33) w0_37 w0_41 (mi 42) (mi 43) (mi 44) (mi 45) w0_47 (mi 48) (mi 49) (mi 50) (mi 51) (mi 54) (mi 56) fm_trust fm_letter fm_reportPlace fm_reportKind fm_struck fm_reportMonth fm_reportDay fm_reportKnown fm_deedMonth fm_deedDay fm_deedLong fm_deedKind fm_kept fm_tape z1 z2 z3 z4 z5 z6 z15 fm_aside fm_worth fm_out)
set_option maxHeartbeats 4000000 in
set_option maxRecDepth 100000 in
theorem sX12_ranked (l : Launch) (dC : Nat → ClassId) (dI : Nat → Nat → Nat) (sz : Nat) (h0 : Nat) (mi : Nat → Int32) (mr : Nat → Nat) (km : Nat → ClassId) (fm_must : Nat → Int32) (fm_least : Nat → Int32) (fm_pin : Nat → Int32) (fm_ways : Nat → Int32) (fm_verdict : Nat → Int32) (fm_row : Nat → Int32) (fm_struck : Nat → Int32) (fm_reportKnown : Nat → Int32) (fm_reportPlace : Nat → Int32) (fm_reportMonth : Nat → Int32) (fm_reportDay : Nat → Int32) (fm_reportKind : Nat → Int32) (fm_trust : Nat → Int32) (fm_letter : Nat → Int32) (fm_official : Nat → Int32) (fm_deedMonth : Nat → Int32) (fm_deedDay : Nat → Int32) (fm_deedLong : Nat → Int32) (fm_deedKind : Nat → Int32) (fm_kept : Nat → Int32) (fm_tape : Nat → Int32) (fm_aside : Nat → Int32) (fm_worth : Nat → Int32) (fm_out : Nat → Int32) (p1 : Int32) (p2 : Int32) (p3 : Int32) (gmi_0 : gi (mi 0) 0 24) (gmi_1 : gi (mi 1) 0 5) (gmi_2 : gi (mi 2) 0 5) (gmi_4 : gi (mi 4) 0 1) (gmi_7 : gi (mi 7) 0 6) (gmi_10 : gi (mi 10) 0 24) (gmi_17 : gi (mi 17) 0 8) (gmi_23 : gi (mi 23) 0 300) (gmi_24 : gi (mi 24) 0 1) (gmi_26 : gi (mi 26) 0 1600) (gmi_29 : gi (mi 29) 0 1600) (gmi_30 : gi (mi 30) 0 1600) (gmi_33 : gi (mi 33) 0 1) (gmi_37 : gi (mi 37) 0 1) (gmi_41 : gi (mi 41) 0 24) (gmi_50 : gi (mi 50) 0 1) (gmi_51 : gi (mi 51) 0 1) (gmi_56 : gi (mi 56) 0 80) (gfm_row : ga fm_row 24 0 23) (gfm_struck : ga fm_struck 24 0 1) (gfm_reportKnown : ga fm_reportKnown 24 0 999) (gfm_reportPlace : ga fm_reportPlace 24 0 5) (gfm_reportMonth : ga fm_reportMonth 24 0 23) (gfm_reportDay : ga fm_reportDay 24 0 999) : Met l yX12_ranked (.code yX12_ranked cX12_ranked 4 (some .int) :: wsGB) ({ frames := 5, cells := 0, slots := 0, locals := 119 }) (va_Pc [.ref h0, .int p1, .int p2, .int p3] (fun U => U.heap.size = sz ∧ va_P (dC, dI) vwCl (MWn h0 mr km (mi 0) (mi 1) (mi 2) (mi 3) (mi 4) (mi 5) (mi 6) (mi 7) (mi 10) (mi 17) (mi 23) (mi 24) (mi 26) (mi 27) (mi 28) (mi 29) (mi 30) (mi 31) (mi 32) (mi 33) (mi 37) (mi 41) (mi 42) (mi 43) (mi 44) (mi 45) (mi 47) (mi 48) (mi 49) (mi 50) (mi 51) (mi 54) (mi 56) fm_trust fm_letter fm_reportPlace fm_reportKind fm_struck fm_reportMonth fm_reportDay fm_reportKnown fm_deedMonth fm_deedDay fm_deedLong fm_deedKind fm_kept fm_tape fm_must fm_least fm_pin fm_ways fm_verdict fm_row fm_official fm_aside fm_worth fm_out) U.heap ∧ va_K (dC, dI) vwCl (MT km) U ∧ va_D (fun _ => True) (MWn h0 mr km (mi 0) (mi 1) (mi 2) (mi 3) (mi 4) (mi 5) (mi 6) (mi 7) (mi 10) (mi 17) (mi 23) (mi 24) (mi 26) (mi 27) (mi 28) (mi 29) (mi 30) (mi 31) (mi 32) (mi 33) (mi 37) (mi 41) (mi 42) (mi 43) (mi 44) (mi 45) (mi 47) (mi 48) (mi 49) (mi 50) (mi 51) (mi 54) (mi 56) fm_trust fm_letter fm_reportPlace fm_reportKind fm_struck fm_reportMonth fm_reportDay fm_reportKnown fm_deedMonth fm_deedDay fm_deedLong fm_deedKind fm_kept fm_tape fm_must fm_least fm_pin fm_ways fm_verdict fm_row fm_official fm_aside fm_worth fm_out))) (va_Qi (fun (r : Int32) (u : Unit) => gi r (-2147483648) 2147483647) (fun _ t => ∃ (w0_37 : Int32) (w0_41 : Int32) (w0_47 : Int32) (z1 : Nat → Int32) (z2 : Nat → Int32) (z3 : Nat → Int32) (z4 : Nat → Int32) (z5 : Nat → Int32) (z6 : Nat → Int32) (z15 : Nat → Int32), pb_sX12_ranked dC dI (va_A (MWn h0 mr km (mi 0) (mi 1) (mi 2) (mi 3) (mi 4) (mi 5) (mi 6) (mi 7) (mi 10) (mi 17) (mi 23) (mi 24) (mi 26) (mi 27) (mi 28) (mi 29) (mi 30) (mi 31) (mi 32) (mi 33) (mi 37) (mi 41) (mi 42) (mi 43) (mi 44) (mi 45) (mi 47) (mi 48) (mi 49) (mi 50) (mi 51) (mi 54) (mi 56) fm_trust fm_letter fm_reportPlace fm_reportKind fm_struck fm_reportMonth fm_reportDay fm_reportKnown fm_deedMonth fm_deedDay fm_deedLong fm_deedKind fm_kept fm_tape fm_must fm_least fm_pin fm_ways fm_verdict fm_row fm_official fm_aside fm_worth fm_out) sz) h0 mi mr km fm_must fm_least fm_pin fm_ways fm_verdict fm_row fm_struck fm_reportKnown fm_reportPlace fm_reportMonth fm_reportDay fm_reportKind fm_trust fm_letter fm_official fm_deedMonth fm_deedDay fm_deedLong fm_deedKind fm_kept fm_tape fm_aside fm_worth fm_out p1 p2 p3 w0_37 w0_41 w0_47 z1 z2 z3 z4 z5 z6 z15 t) (va_A (MWn h0 mr km (mi 0) (mi 1) (mi 2) (mi 3) (mi 4) (mi 5) (mi 6) (mi 7) (mi 10) (mi 17) (mi 23) (mi 24) (mi 26) (mi 27) (mi 28) (mi 29) (mi 30) (mi 31) (mi 32) (mi 33) (mi 37) (mi 41) (mi 42) (mi 43) (mi 44) (mi 45) (mi 47) (mi 48) (mi 49) (mi 50) (mi 51) (mi 54) (mi 56) fm_trust fm_letter fm_reportPlace fm_reportKind fm_struck fm_reportMonth fm_reportDay fm_reportKnown fm_deedMonth fm_deedDay fm_deedLong fm_deedKind fm_kept fm_tape fm_must fm_least fm_pin fm_ways fm_verdict fm_row fm_official fm_aside fm_worth fm_out) sz)) 0 0 (va_A (MWn h0 mr km (mi 0) (mi 1) (mi 2) (mi 3) (mi 4) (mi 5) (mi 6) (mi 7) (mi 10) (mi 17) (mi 23) (mi 24) (mi 26) (mi 27) (mi 28) (mi 29) (mi 30) (mi 31) (mi 32) (mi 33) (mi 37) (mi 41) (mi 42) (mi 43) (mi 44) (mi 45) (mi 47) (mi 48) (mi 49) (mi 50) (mi 51) (mi 54) (mi 56) fm_trust fm_letter fm_reportPlace fm_reportKind fm_struck fm_reportMonth fm_reportDay fm_reportKnown fm_deedMonth fm_deedDay fm_deedLong fm_deedKind fm_kept fm_tape fm_must fm_least fm_pin fm_ways fm_verdict fm_row fm_official fm_aside fm_worth fm_out) sz) := by
  refine Met.ofW (cc := cX12_ranked) (maxL := 4) (ret := (some .int)) (by decide) rfl ?_
  intro p e s m args below meth c s₁ B hml hv
  obtain ⟨rfl, hsz, hP, hK, hD0⟩ := hv
  have hx := B.exec
  have hb := B.bytes
  have hr := B.returns
  have hts := atoms_spec (ws := (.code yX12_ranked cX12_ranked 4 (some .int) :: wsGB)) B.pre
  have hown : s.vm.findClass RX12 = some m.cls := findClass_of_methodNamed B.named
  have hlocks := B.notSynchronized
  subst hsz
  have hD := hD0.self (sz := s.heap.size)
  generalize hAe : va_A (MWn h0 mr km (mi 0) (mi 1) (mi 2) (mi 3) (mi 4) (mi 5) (mi 6) (mi 7) (mi 10) (mi 17) (mi 23) (mi 24) (mi 26) (mi 27) (mi 28) (mi 29) (mi 30) (mi 31) (mi 32) (mi 33) (mi 37) (mi 41) (mi 42) (mi 43) (mi 44) (mi 45) (mi 47) (mi 48) (mi 49) (mi 50) (mi 51) (mi 54) (mi 56) fm_trust fm_letter fm_reportPlace fm_reportKind fm_struck fm_reportMonth fm_reportDay fm_reportKnown fm_deedMonth fm_deedDay fm_deedLong fm_deedKind fm_kept fm_tape fm_must fm_least fm_pin fm_ways fm_verdict fm_row fm_official fm_aside fm_worth fm_out) s.heap.size = A at hD ⊢
  have hA : ∀ q : Nat, s.heap.size ≤ q → A q := fun q h => by rw [← hAe]; exact Or.inr h
  have hS : va_S A s.heap s.heap [] := va_S.rf
  have hl := lv_entry ([.ref h0, .int p1, .int p2, .int p3]) (n := 4) (Nat.le_of_ble_eq_true rfl)
  rw [lg_entry_eq]
  generalize (lg_sl ([.ref h0, .int p1, .int p2, .int p3]) ++ List.replicate (4 - (lg_sl ([.ref h0, .int p1, .int p2, .int p3])).length) Slot.unset).toArray = ls at hl ⊢
  have hl : lv_has ls 4 [(0, .ref h0), (1, .int p1), (2, .int p2), (3, .int p3)] := hl
  refine lv_aload_n hx hb dX12_ranked_0 rfl (lv_at hl 0 rfl) ?_
  refine lv_iload_n hx hb dX12_ranked_1 rfl (lv_at hl 1 rfl) ?_
  refine va_calli (va_runV (As := [.int p1]) (rest := []) ⟨hx, hb, hml, hown, hts⟩ (sX12_isTime l dC dI h0 mi mr km fm_trust fm_letter fm_reportPlace fm_reportKind fm_struck fm_reportMonth fm_reportDay fm_reportKnown fm_deedMonth fm_deedDay fm_deedLong fm_deedKind fm_kept fm_tape fm_must fm_least fm_pin fm_ways fm_verdict fm_row fm_official fm_aside fm_worth fm_out p1 gmi_0 gmi_1 gmi_2 gmi_4 gmi_7 gmi_10 gmi_17 gmi_23 gmi_24 gmi_26 gmi_29 gmi_30 gmi_33 gmi_37 gmi_41 gmi_50 gmi_51 gmi_56) (cwV 1 hts (gz_gV mGB_256 mGB_257 mGB_258 mGB_1 mGB_259 goodGB) rfl rfl rfl (by decide +kernel) ⟨Nat.le_of_ble_eq_true rfl, Nat.le_of_ble_eq_true rfl⟩) ⟨bl_R, mw_recv hK hP, fun U hU hW => ⟨rfl, by rw [hU]; exact hP, va_K.moved hW.alike hK⟩⟩ rfl rfl hl.1 rfl (lv_room (Nat.le_of_ble_eq_true rfl)) dX12_ranked_2 ⟨Nat.zero_le _, Nat.zero_le _⟩) hS (fun q _ h => h.elim) (fun q h => h.elim) (fun r_65 u t H1 locs ht hvm hw hB hz1 hk1 hS => ?_)
  obtain ⟨hw, hE⟩ := hw
  have hP := gz_keep hP hk1
  generalize H1 = H at hP hS ⊢
  have gr_65 : gi r_65 0 1 := hw.1
  have hqr_65 := hw.2
  refine lv_if_eq (tgt := 20) hx hb dX12_ranked_5 (by decide) (fun c_66 => ?_) (fun c_66 => ?_)
  · have g_67 : gi r_65 0 0 := gi_eq c_66 (gi_c 0 0 (by decide))
    refine lv_bipush (v := (-2)) hx hb dX12_ranked_20 (by decide) ?_
    exact W.iret (v := (-2)) hx hb hr (fun t ht hW => ⟨⟨(-2), (), rfl, (gi_any (-2)), (mi 37), (mi 41), (mi 47), fm_must, fm_least, fm_pin, fm_ways, fm_verdict, fm_row, fm_official, gmi_37, gmi_41, gfm_row, by rw [ht]; exact hP, hD⟩, hS.F ht⟩) hS.2.2 dX12_ranked_22
  · have g_68 : gi r_65 1 1 := gi_ne_lo c_66 gr_65 (gi_c 0 0 (by decide)) (by decide)
    have g_69 : gi p1 0 999 := gi_cap (gi_any p1) (hqr_65 (gz_one g_68)) (by decide)
    refine lv_iload_n hx hb dX12_ranked_8 rfl (lv_at hl 2 rfl) ?_
    refine lv_if_lt (tgt := 20) hx hb dX12_ranked_9 (by decide) (fun c_70 => ?_) (fun c_70 => ?_)
    · have g_71 : gi p2 (-2147483648) (-1) := gi_lt_l c_70 (gi_any p2) (gi_c 0 0 (by decide)) (by decide)
      refine lv_bipush (v := (-2)) hx hb dX12_ranked_20 (by decide) ?_
      exact W.iret (v := (-2)) hx hb hr (fun t ht hW => ⟨⟨(-2), (), rfl, (gi_any (-2)), (mi 37), (mi 41), (mi 47), fm_must, fm_least, fm_pin, fm_ways, fm_verdict, fm_row, fm_official, gmi_37, gmi_41, gfm_row, by rw [ht]; exact hP, hD⟩, hS.F ht⟩) hS.2.2 dX12_ranked_22
    · have g_72 : gi p2 0 2147483647 := gi_le_r (Int32.not_lt.mp c_70) (gi_c 0 0 (by decide)) (gi_any p2)
      refine lv_aload_n hx hb dX12_ranked_12 rfl (lv_at hl 0 rfl) ?_
      refine lv_iload_n hx hb dX12_ranked_13 rfl (lv_at hl 3 rfl) ?_
      refine va_calli (va_runV (As := [.int p3]) (rest := []) ⟨hx, hb, hml, hown, hts⟩ (sX12_isBegin l dC dI h0 mi mr km fm_trust fm_letter fm_reportPlace fm_reportKind fm_struck fm_reportMonth fm_reportDay fm_reportKnown fm_deedMonth fm_deedDay fm_deedLong fm_deedKind fm_kept fm_tape fm_must fm_least fm_pin fm_ways fm_verdict fm_row fm_official fm_aside fm_worth fm_out p3 gmi_0 gmi_1 gmi_2 gmi_4 gmi_7 gmi_10 gmi_17 gmi_23 gmi_24 gmi_26 gmi_29 gmi_30 gmi_33 gmi_37 gmi_41 gmi_50 gmi_51 gmi_56) (cwV 1 hts (gz_gV mGB_354 mGB_355 mGB_356 mGB_1 mGB_357 goodGB) rfl rfl rfl (by decide +kernel) ⟨Nat.le_of_ble_eq_true rfl, Nat.le_of_ble_eq_true rfl⟩) ⟨bl_R, mw_recv hK hP, fun U hU hW => ⟨rfl, by rw [hU]; exact hP, va_K.moved hW.alike hK⟩⟩ rfl rfl hl.1 rfl (lv_room (Nat.le_of_ble_eq_true rfl)) dX12_ranked_14 ⟨Nat.zero_le _, Nat.zero_le _⟩) hS (fun q _ h => h.elim) (fun q h => h.elim) (fun r_73 u t H1 locs ht hvm hw hB hz1 hk1 hS => ?_)
      have hP := gz_keep hP hk1
      generalize H1 = H at hP hS ⊢
      have gr_73 : gi r_73 0 1 := hw.1
      have hqr_73 := hw.2
      refine lv_if_ne (tgt := 23) hx hb dX12_ranked_17 (by decide) (fun c_74 => ?_) (fun c_74 => ?_)
      · have g_75 : gi r_73 1 1 := gi_ne_lo c_74 gr_73 (gi_c 0 0 (by decide)) (by decide)
        have g_76 : gi p3 0 24 := gi_cap (gi_any p3) (hqr_73 (gz_one g_75)) (by decide)
        refine lv_aload_n hx hb dX12_ranked_23 rfl (lv_at hl 0 rfl) ?_
        refine lv_iload_n hx hb dX12_ranked_24 rfl (lv_at hl 1 rfl) ?_
        have hFc := gz_fullF hD hS hA
        refine va_callv (va_runV (As := [.int p1]) (rest := []) ⟨hx, hb, hml, hown, hts⟩ (sX12_judgesAll l dC dI H.size h0 mi mr km fm_must fm_least fm_pin fm_ways fm_verdict fm_row fm_struck fm_reportKnown fm_reportPlace fm_reportMonth fm_reportDay fm_reportKind fm_trust fm_letter fm_deedMonth fm_deedDay fm_deedLong fm_deedKind fm_kept fm_tape fm_official fm_aside fm_worth fm_out p1 gmi_0 gmi_1 gmi_2 gmi_4 gmi_7 gmi_10 gmi_17 gmi_23 gmi_24 gmi_26 gmi_29 gmi_30 gmi_33 gmi_37 gmi_41 gmi_50 gmi_51 gmi_56 gfm_row gfm_struck gfm_reportKnown gfm_reportPlace gfm_reportMonth gfm_reportDay) (cwV 1 hts (gz_gV mGB_261 mGB_262 mGB_263 mGB_1 mGB_264 goodGB) rfl rfl rfl (by decide +kernel) ⟨Nat.le_of_ble_eq_true rfl, Nat.le_of_ble_eq_true rfl⟩) ⟨bl_W, mw_recv hK hP, fun U hU hW => ⟨rfl, by rw [hU], by rw [hU]; exact hP, va_K.moved hW.alike hK, hD.weaken (fun _ _ _ _ => trivial)⟩⟩ rfl rfl hl.1 rfl (lv_room (Nat.le_of_ble_eq_true rfl)) dX12_ranked_25 ⟨Nat.zero_le _, Nat.zero_le _⟩) hS (fun q _ h => hFc q h) hFc (fun u t H1 locs ht hvm hw hB hz1 hk1 hS => ?_)
        obtain ⟨y_78, y_79, f_80, f_81, f_82, f_83, f_84, f_85, hB⟩ := hB
        obtain ⟨gy_78, gy_79, gf_85, hP1, hD1⟩ := hB
        rw [ht] at hP1
        have hD : va_D A (MWn h0 mr km (mi 0) (mi 1) (mi 2) (mi 3) (mi 4) (mi 5) (mi 6) (mi 7) (mi 10) (mi 17) (mi 23) (mi 24) (mi 26) (mi 27) (mi 28) (mi 29) (mi 30) (mi 31) (mi 32) (mi 33) y_78 y_79 (mi 42) (mi 43) (mi 44) (mi 45) (mi 47) (mi 48) (mi 49) (mi 50) (mi 51) (mi 54) (mi 56) fm_trust fm_letter fm_reportPlace fm_reportKind fm_struck fm_reportMonth fm_reportDay fm_reportKnown fm_deedMonth fm_deedDay fm_deedLong fm_deedKind fm_kept fm_tape f_80 f_81 f_82 f_83 f_84 f_85 fm_official fm_aside fm_worth fm_out) := gz_fullD hFc hD1
        have hP : va_P (dC, dI) vwCl (MWn h0 mr km (mi 0) (mi 1) (mi 2) (mi 3) (mi 4) (mi 5) (mi 6) (mi 7) (mi 10) (mi 17) (mi 23) (mi 24) (mi 26) (mi 27) (mi 28) (mi 29) (mi 30) (mi 31) (mi 32) (mi 33) y_78 y_79 (mi 42) (mi 43) (mi 44) (mi 45) (mi 47) (mi 48) (mi 49) (mi 50) (mi 51) (mi 54) (mi 56) fm_trust fm_letter fm_reportPlace fm_reportKind fm_struck fm_reportMonth fm_reportDay fm_reportKnown fm_deedMonth fm_deedDay fm_deedLong fm_deedKind fm_kept fm_tape f_80 f_81 f_82 f_83 f_84 f_85 fm_official fm_aside fm_worth fm_out) H1 := hP1
        generalize H1 = H at hP hS ⊢
        refine lv_iload_n hx hb dX12_ranked_28 rfl (lv_at hl 2 rfl) ?_
        refine lv_aload_n hx hb dX12_ranked_29 rfl (lv_at hl 0 rfl) ?_
        have hFc := gz_fullF hD hS hA
        refine va_calli (va_runV (As := []) (rest := [.int p2]) ⟨hx, hb, hml, hown, hts⟩ (sX12_counts l dC dI H.size h0 (upd (upd mi 37 y_78) 41 y_79) mr km f_80 f_81 f_82 f_83 fm_trust fm_letter fm_reportPlace fm_reportKind fm_struck fm_reportMonth fm_reportDay fm_reportKnown fm_deedMonth fm_deedDay fm_deedLong fm_deedKind fm_kept fm_tape f_84 f_85 fm_official fm_aside fm_worth fm_out gmi_0 gmi_1 gmi_2 gmi_4 gmi_7 gmi_10 gmi_17 gmi_23 gmi_24 gmi_26 gmi_29 gmi_30 gmi_33 gy_78 gy_79 gmi_50 gmi_51 gmi_56) (cwV 0 hts (gz_gV mGB_299 mGB_300 mGB_301 mGB_1 mGB_302 goodGB) rfl rfl rfl (by decide +kernel) ⟨Nat.le_of_ble_eq_true rfl, Nat.le_of_ble_eq_true rfl⟩) ⟨bl_W, mw_recv hK hP, fun U hU hW => ⟨rfl, by rw [hU], by rw [hU]; exact hP, va_K.moved hW.alike hK, hD.weaken (fun _ _ _ _ => trivial)⟩⟩ rfl rfl hl.1 rfl (lv_room (Nat.le_of_ble_eq_true rfl)) dX12_ranked_30 ⟨Nat.zero_le _, Nat.zero_le _⟩) hS (fun q _ h => hFc q h) hFc (fun r_86 u t H1 locs ht hvm hw hB hz1 hk1 hS => ?_)
        obtain ⟨f_87, hB⟩ := hB
        obtain ⟨hP1, hD1⟩ := hB
        rw [ht] at hP1
        have hD : va_D A (MWn h0 mr km (mi 0) (mi 1) (mi 2) (mi 3) (mi 4) (mi 5) (mi 6) (mi 7) (mi 10) (mi 17) (mi 23) (mi 24) (mi 26) (mi 27) (mi 28) (mi 29) (mi 30) (mi 31) (mi 32) (mi 33) y_78 y_79 (mi 42) (mi 43) (mi 44) (mi 45) (mi 47) (mi 48) (mi 49) (mi 50) (mi 51) (mi 54) (mi 56) fm_trust fm_letter fm_reportPlace fm_reportKind fm_struck fm_reportMonth fm_reportDay fm_reportKnown fm_deedMonth fm_deedDay fm_deedLong fm_deedKind fm_kept fm_tape f_80 f_81 f_82 f_87 f_84 f_85 fm_official fm_aside fm_worth fm_out) := gz_fullD hFc hD1
        have hP : va_P (dC, dI) vwCl (MWn h0 mr km (mi 0) (mi 1) (mi 2) (mi 3) (mi 4) (mi 5) (mi 6) (mi 7) (mi 10) (mi 17) (mi 23) (mi 24) (mi 26) (mi 27) (mi 28) (mi 29) (mi 30) (mi 31) (mi 32) (mi 33) y_78 y_79 (mi 42) (mi 43) (mi 44) (mi 45) (mi 47) (mi 48) (mi 49) (mi 50) (mi 51) (mi 54) (mi 56) fm_trust fm_letter fm_reportPlace fm_reportKind fm_struck fm_reportMonth fm_reportDay fm_reportKnown fm_deedMonth fm_deedDay fm_deedLong fm_deedKind fm_kept fm_tape f_80 f_81 f_82 f_87 f_84 f_85 fm_official fm_aside fm_worth fm_out) H1 := hP1
        generalize H1 = H at hP hS ⊢
        refine lv_icmp_lt (tgt := 38) hx hb dX12_ranked_33 (by decide) (fun c_88 => ?_) (fun c_88 => ?_)
        · have g_89 : gi p2 0 2147483646 := gi_lt_l c_88 g_72 (gi_any r_86) (by decide)
          have g_90 : gi r_86 1 2147483647 := gi_lt_r c_88 g_72 (gi_any r_86) (by decide)
          refine lv_aload_n hx hb dX12_ranked_38 rfl (lv_at hl 0 rfl) ?_
          refine lv_iload_n hx hb dX12_ranked_39 rfl (lv_at hl 2 rfl) ?_
          have hFc := gz_fullF hD hS hA
          refine va_callv (va_runV (As := [.int p2]) (rest := []) ⟨hx, hb, hml, hown, hts⟩ (sX12_laysRanked l dC dI H.size h0 (upd (upd mi 37 y_78) 41 y_79) mr km f_80 f_81 f_82 f_87 fm_official fm_trust fm_letter fm_reportPlace fm_reportKind fm_struck fm_reportMonth fm_reportDay fm_reportKnown fm_deedMonth fm_deedDay fm_deedLong fm_deedKind fm_kept fm_tape f_84 f_85 fm_aside fm_worth fm_out p2 gmi_0 gmi_1 gmi_2 gmi_4 gmi_7 gmi_10 gmi_17 gmi_23 gmi_24 gmi_26 gmi_29 gmi_30 gmi_33 gy_78 gy_79 gmi_50 gmi_51 gmi_56) (cwV 1 hts (gz_gV mGB_400 mGB_401 mGB_402 mGB_1 mGB_403 goodGB) rfl rfl rfl (by decide +kernel) ⟨Nat.le_of_ble_eq_true rfl, Nat.le_of_ble_eq_true rfl⟩) ⟨bl_W, mw_recv hK hP, fun U hU hW => ⟨rfl, by rw [hU], by rw [hU]; exact hP, va_K.moved hW.alike hK, hD.weaken (fun _ _ _ _ => trivial)⟩⟩ rfl rfl hl.1 rfl (lv_room (Nat.le_of_ble_eq_true rfl)) dX12_ranked_40 ⟨Nat.zero_le _, Nat.zero_le _⟩) hS (fun q _ h => hFc q h) hFc (fun u t H1 locs ht hvm hw hB hz1 hk1 hS => ?_)
          obtain ⟨y_92, f_93, f_94, hB⟩ := hB
          obtain ⟨hP1, hD1⟩ := hB
          rw [ht] at hP1
          have hD : va_D A (MWn h0 mr km (mi 0) (mi 1) (mi 2) (mi 3) (mi 4) (mi 5) (mi 6) (mi 7) (mi 10) (mi 17) (mi 23) (mi 24) (mi 26) (mi 27) (mi 28) (mi 29) (mi 30) (mi 31) (mi 32) (mi 33) y_78 y_79 (mi 42) (mi 43) (mi 44) (mi 45) y_92 (mi 48) (mi 49) (mi 50) (mi 51) (mi 54) (mi 56) fm_trust fm_letter fm_reportPlace fm_reportKind fm_struck fm_reportMonth fm_reportDay fm_reportKnown fm_deedMonth fm_deedDay fm_deedLong fm_deedKind fm_kept fm_tape f_80 f_81 f_82 f_93 f_84 f_85 f_94 fm_aside fm_worth fm_out) := gz_fullD hFc hD1
          have hP : va_P (dC, dI) vwCl (MWn h0 mr km (mi 0) (mi 1) (mi 2) (mi 3) (mi 4) (mi 5) (mi 6) (mi 7) (mi 10) (mi 17) (mi 23) (mi 24) (mi 26) (mi 27) (mi 28) (mi 29) (mi 30) (mi 31) (mi 32) (mi 33) y_78 y_79 (mi 42) (mi 43) (mi 44) (mi 45) y_92 (mi 48) (mi 49) (mi 50) (mi 51) (mi 54) (mi 56) fm_trust fm_letter fm_reportPlace fm_reportKind fm_struck fm_reportMonth fm_reportDay fm_reportKnown fm_deedMonth fm_deedDay fm_deedLong fm_deedKind fm_kept fm_tape f_80 f_81 f_82 f_93 f_84 f_85 f_94 fm_aside fm_worth fm_out) H1 := hP1
          generalize H1 = H at hP hS ⊢
          refine lv_aload_n hx hb dX12_ranked_43 rfl (lv_at hl 0 rfl) ?_
          refine va_get (D := (dC, dI)) (ci := 12) (v := .ref (mr 20)) (C := RX12) (T := TX12) (N := 57) hx hb hts (fun w h => List.mem_cons_of_mem _ (jnGB_X12 w h)) hown hK hP 0 rfl rfl 46 (by decide) (hts _ (List.mem_cons_of_mem _ mGB_36)) (fun _ h9 => h9) rfl dX12_ranked_44 ?_
          refine lv_iload_n hx hb dX12_ranked_47 rfl (lv_at hl 3 rfl) ?_
          refine va_iald hx hb hK hP 21 20 rfl rfl (gi_in g_76 (by decide)) dX12_ranked_48 ?_
          refine lv_topi (fun x_95 ex_95 => ?_)
          exact W.iret (v := x_95) hx hb hr (fun t ht hW => ⟨⟨x_95, (), rfl, (gi_any x_95), y_78, y_79, y_92, f_80, f_81, f_82, f_93, f_84, f_85, f_94, gy_78, gy_79, gf_85, by rw [ht]; exact hP, hD⟩, hS.F ht⟩) hS.2.2 dX12_ranked_49
        · refine lv_iconst (v := (-1)) hx hb dX12_ranked_36 (by decide) ?_
          exact W.iret (v := (-1)) hx hb hr (fun t ht hW => ⟨⟨(-1), (), rfl, (gi_any (-1)), y_78, y_79, (mi 47), f_80, f_81, f_82, f_87, f_84, f_85, fm_official, gy_78, gy_79, gf_85, by rw [ht]; exact hP, hD⟩, hS.F ht⟩) hS.2.2 dX12_ranked_37
      · have g_96 : gi r_73 0 0 := gi_eq c_74 (gi_c 0 0 (by decide))
        refine lv_bipush (v := (-2)) hx hb dX12_ranked_20 (by decide) ?_
        exact W.iret (v := (-2)) hx hb hr (fun t ht hW => ⟨⟨(-2), (), rfl, (gi_any (-2)), (mi 37), (mi 41), (mi 47), fm_must, fm_least, fm_pin, fm_ways, fm_verdict, fm_row, fm_official, gmi_37, gmi_41, gfm_row, by rw [ht]; exact hP, hD⟩, hS.F ht⟩) hS.2.2 dX12_ranked_22
theorem dX12_rank_0 : decode cX12_rank 0 = .ok (.aload_n 0, 1) := by decide +kernel
theorem dX12_rank_1 : decode cX12_rank 1 = .ok (.iload_n 1, 1) := by decide +kernel
theorem dX12_rank_2 : decode cX12_rank 2 = .ok (.invokevirtual 359, 3) := by decide +kernel
theorem dX12_rank_5 : decode cX12_rank 5 = .ok (.ifCond .eq 21, 3) := by decide +kernel
theorem dX12_rank_8 : decode cX12_rank 8 = .ok (.iload_n 2, 1) := by decide +kernel
theorem dX12_rank_9 : decode cX12_rank 9 = .ok (.i2l, 1) := by decide +kernel
theorem dX12_rank_10 : decode cX12_rank 10 = .ok (.lconst 0, 1) := by decide +kernel
theorem dX12_rank_11 : decode cX12_rank 11 = .ok (.iconst 1, 1) := by decide +kernel
theorem dX12_rank_12 : decode cX12_rank 12 = .ok (.aload_n 0, 1) := by decide +kernel
theorem dX12_rank_13 : decode cX12_rank 13 = .ok (.getfield 117, 3) := by decide +kernel
theorem dX12_rank_16 : decode cX12_rank 16 = .ok (.ishl, 1) := by decide +kernel
theorem dX12_rank_17 : decode cX12_rank 17 = .ok (.iconst 1, 1) := by decide +kernel
theorem dX12_rank_18 : decode cX12_rank 18 = .ok (.isub, 1) := by decide +kernel
theorem dX12_rank_19 : decode cX12_rank 19 = .ok (.i2l, 1) := by decide +kernel
theorem dX12_rank_20 : decode cX12_rank 20 = .ok (.invokestatic 102, 3) := by decide +kernel
theorem dX12_rank_23 : decode cX12_rank 23 = .ok (.ifCond .ne 6, 3) := by decide +kernel
theorem dX12_rank_26 : decode cX12_rank 26 = .ok (.bipush (-2), 2) := by decide +kernel
theorem dX12_rank_28 : decode cX12_rank 28 = .ok (.ireturn, 1) := by decide +kernel
theorem dX12_rank_29 : decode cX12_rank 29 = .ok (.aload_n 0, 1) := by decide +kernel
theorem dX12_rank_30 : decode cX12_rank 30 = .ok (.iload_n 1, 1) := by decide +kernel
theorem dX12_rank_31 : decode cX12_rank 31 = .ok (.invokevirtual 362, 3) := by decide +kernel
theorem dX12_rank_34 : decode cX12_rank 34 = .ok (.aload_n 0, 1) := by decide +kernel
theorem dX12_rank_35 : decode cX12_rank 35 = .ok (.invokevirtual 332, 3) := by decide +kernel
theorem dX12_rank_38 : decode cX12_rank 38 = .ok (.pop, 1) := by decide +kernel
theorem dX12_rank_39 : decode cX12_rank 39 = .ok (.iconst 0, 1) := by decide +kernel
theorem dX12_rank_40 : decode cX12_rank 40 = .ok (.istore_n 3, 1) := by decide +kernel
theorem dX12_rank_41 : decode cX12_rank 41 = .ok (.iconst 0, 1) := by decide +kernel
theorem dX12_rank_42 : decode cX12_rank 42 = .ok (.istore 4, 2) := by decide +kernel
theorem dX12_rank_44 : decode cX12_rank 44 = .ok (.iconst 0, 1) := by decide +kernel
theorem dX12_rank_45 : decode cX12_rank 45 = .ok (.istore 5, 2) := by decide +kernel
theorem dX12_rank_47 : decode cX12_rank 47 = .ok (.iconst 0, 1) := by decide +kernel
theorem dX12_rank_48 : decode cX12_rank 48 = .ok (.istore 6, 2) := by decide +kernel
theorem dX12_rank_50 : decode cX12_rank 50 = .ok (.iload 6, 2) := by decide +kernel
theorem dX12_rank_52 : decode cX12_rank 52 = .ok (.aload_n 0, 1) := by decide +kernel
theorem dX12_rank_53 : decode cX12_rank 53 = .ok (.getfield 117, 3) := by decide +kernel
theorem dX12_rank_56 : decode cX12_rank 56 = .ok (.if_icmp .ge 75, 3) := by decide +kernel
theorem dX12_rank_59 : decode cX12_rank 59 = .ok (.iload_n 2, 1) := by decide +kernel
theorem dX12_rank_60 : decode cX12_rank 60 = .ok (.iload 6, 2) := by decide +kernel
theorem dX12_rank_62 : decode cX12_rank 62 = .ok (.ishr, 1) := by decide +kernel
theorem dX12_rank_63 : decode cX12_rank 63 = .ok (.iconst 1, 1) := by decide +kernel
theorem dX12_rank_64 : decode cX12_rank 64 = .ok (.iand, 1) := by decide +kernel
theorem dX12_rank_65 : decode cX12_rank 65 = .ok (.istore 7, 2) := by decide +kernel
theorem dX12_rank_67 : decode cX12_rank 67 = .ok (.aload_n 0, 1) := by decide +kernel
theorem dX12_rank_68 : decode cX12_rank 68 = .ok (.iload 6, 2) := by decide +kernel
theorem dX12_rank_70 : decode cX12_rank 70 = .ok (.iload 4, 2) := by decide +kernel
theorem dX12_rank_72 : decode cX12_rank 72 = .ok (.iload 5, 2) := by decide +kernel
theorem dX12_rank_74 : decode cX12_rank 74 = .ok (.iload 7, 2) := by decide +kernel
theorem dX12_rank_76 : decode cX12_rank 76 = .ok (.invokevirtual 328, 3) := by decide +kernel
theorem dX12_rank_79 : decode cX12_rank 79 = .ok (.ifCond .ne 5, 3) := by decide +kernel
theorem dX12_rank_82 : decode cX12_rank 82 = .ok (.iconst (-1), 1) := by decide +kernel
theorem dX12_rank_83 : decode cX12_rank 83 = .ok (.ireturn, 1) := by decide +kernel
theorem dX12_rank_84 : decode cX12_rank 84 = .ok (.iload_n 3, 1) := by decide +kernel
theorem dX12_rank_85 : decode cX12_rank 85 = .ok (.iload 7, 2) := by decide +kernel
theorem dX12_rank_87 : decode cX12_rank 87 = .ok (.iconst 1, 1) := by decide +kernel
theorem dX12_rank_88 : decode cX12_rank 88 = .ok (.if_icmp .ne 17, 3) := by decide +kernel
theorem dX12_rank_91 : decode cX12_rank 91 = .ok (.aload_n 0, 1) := by decide +kernel
theorem dX12_rank_92 : decode cX12_rank 92 = .ok (.iload 6, 2) := by decide +kernel
theorem dX12_rank_94 : decode cX12_rank 94 = .ok (.iload 4, 2) := by decide +kernel
theorem dX12_rank_96 : decode cX12_rank 96 = .ok (.iload 5, 2) := by decide +kernel
theorem dX12_rank_98 : decode cX12_rank 98 = .ok (.iconst 0, 1) := by decide +kernel
theorem dX12_rank_99 : decode cX12_rank 99 = .ok (.invokevirtual 328, 3) := by decide +kernel
theorem dX12_rank_102 : decode cX12_rank 102 = .ok (.goto 4, 3) := by decide +kernel
theorem dX12_rank_105 : decode cX12_rank 105 = .ok (.iconst 0, 1) := by decide +kernel
theorem dX12_rank_106 : decode cX12_rank 106 = .ok (.iadd, 1) := by decide +kernel
theorem dX12_rank_107 : decode cX12_rank 107 = .ok (.istore_n 3, 1) := by decide +kernel
theorem dX12_rank_108 : decode cX12_rank 108 = .ok (.aload_n 0, 1) := by decide +kernel
theorem dX12_rank_109 : decode cX12_rank 109 = .ok (.iload 5, 2) := by decide +kernel
theorem dX12_rank_111 : decode cX12_rank 111 = .ok (.iload 7, 2) := by decide +kernel
theorem dX12_rank_113 : decode cX12_rank 113 = .ok (.invokevirtual 318, 3) := by decide +kernel
theorem dX12_rank_116 : decode cX12_rank 116 = .ok (.istore 5, 2) := by decide +kernel
theorem dX12_rank_118 : decode cX12_rank 118 = .ok (.iload 4, 2) := by decide +kernel
theorem dX12_rank_120 : decode cX12_rank 120 = .ok (.iload 7, 2) := by decide +kernel
theorem dX12_rank_122 : decode cX12_rank 122 = .ok (.iadd, 1) := by decide +kernel
theorem dX12_rank_123 : decode cX12_rank 123 = .ok (.istore 4, 2) := by decide +kernel
theorem dX12_rank_125 : decode cX12_rank 125 = .ok (.iinc 6 1, 3) := by decide +kernel
theorem dX12_rank_128 : decode cX12_rank 128 = .ok (.goto (-78), 3) := by decide +kernel
theorem dX12_rank_131 : decode cX12_rank 131 = .ok (.iload_n 3, 1) := by decide +kernel
theorem dX12_rank_132 : decode cX12_rank 132 = .ok (.ireturn, 1) := by decide +kernel
set_option maxHeartbeats 4000000 in
set_option maxRecDepth 100000 in
theorem lp_sX12_rank {p : Program} {l : Launch} {e : Env} {R : Room} {s : State} {m : MethodId} {args : Array Value} {below : List Frame} {meth : Method} {c : Code} {Q : State → Prop} {A : Nat → Prop} {cells slots : Nat} {dC : Nat → ClassId} {dI : Nat → Nat → Nat} (h0 : Nat) (mi : Nat → Int32) (mr : Nat → Nat) (km : Nat → ClassId) (fm_must : Nat → Int32) (fm_least : Nat → Int32) (fm_pin : Nat → Int32) (fm_ways : Nat → Int32) (fm_verdict : Nat → Int32) (fm_row : Nat → Int32) (fm_struck : Nat → Int32) (fm_reportKnown : Nat → Int32) (fm_reportPlace : Nat → Int32) (fm_reportMonth : Nat → Int32) (fm_reportDay : Nat → Int32) (fm_reportKind : Nat → Int32) (fm_trust : Nat → Int32) (fm_letter : Nat → Int32) (fm_deedMonth : Nat → Int32) (fm_deedDay : Nat → Int32) (fm_deedLong : Nat → Int32) (fm_deedKind : Nat → Int32) (fm_kept : Nat → Int32) (fm_tape : Nat → Int32) (fm_official : Nat → Int32) (fm_aside : Nat → Int32) (fm_worth : Nat → Int32) (fm_out : Nat → Int32) (p1 : Int32) (p2 : Int32) (gmi_0 : gi (mi 0) 0 24) (gmi_1 : gi (mi 1) 0 5) (gmi_2 : gi (mi 2) 0 5) (gmi_4 : gi (mi 4) 0 1) (gmi_7 : gi (mi 7) 0 6) (gmi_10 : gi (mi 10) 0 24) (gmi_17 : gi (mi 17) 0 8) (gmi_23 : gi (mi 23) 0 300) (gmi_24 : gi (mi 24) 0 1) (gmi_26 : gi (mi 26) 0 1600) (gmi_29 : gi (mi 29) 0 1600) (gmi_30 : gi (mi 30) 0 1600) (gmi_33 : gi (mi 33) 0 1) (gmi_37 : gi (mi 37) 0 1) (gmi_41 : gi (mi 41) 0 24) (gmi_50 : gi (mi 50) 0 1) (gmi_51 : gi (mi 51) 0 1) (gmi_56 : gi (mi 56) 0 80) (gfm_row : ga fm_row 24 0 23) (gfm_struck : ga fm_struck 24 0 1) (gfm_reportKnown : ga fm_reportKnown 24 0 999) (gfm_reportPlace : ga fm_reportPlace 24 0 5) (gfm_reportMonth : ga fm_reportMonth 24 0 23) (gfm_reportDay : ga fm_reportDay 24 0 999) (hx : p.tables.exec = Jvm.exec) (hb : c.code = cX12_rank) (hml : c.maxLocals = 8) (hown : s.vm.findClass RX12 = some m.cls) (hts : ∀ w ∈ ((.code yX12_rank cX12_rank 8 (some .int) :: wsGB) : List Cond), w.before args s = true) (hK : va_K (dC, dI) vwCl (MT km) s) (hA : ∀ q : Nat, s.heap.size ≤ q → A q) (hRf : 5 ≤ R.frames) (hRl : 119 ≤ R.locals) (hRc : cells ≤ R.cells) (hRs : slots ≤ R.slots) (kr28 : ∀ (v : Int32) (w0_37 : Int32) (w0_41 : Int32) (z1 : Nat → Int32) (z2 : Nat → Int32) (z3 : Nat → Int32) (z4 : Nat → Int32) (z5 : Nat → Int32) (z6 : Nat → Int32) (H : Heap) (locs : List Loc) (ls : Array Slot), gi v (-2) (-2) → gi w0_37 0 1 → gi w0_41 0 24 → ga z6 24 0 23 → va_P (dC, dI) vwCl (MWn h0 mr km (mi 0) (mi 1) (mi 2) (mi 3) (mi 4) (mi 5) (mi 6) (mi 7) (mi 10) (mi 17) (mi 23) (mi 24) (mi 26) (mi 27) (mi 28) (mi 29) (mi 30) (mi 31) (mi 32) (mi 33) w0_37 w0_41 (mi 42) (mi 43) (mi 44) (mi 45) (mi 47) (mi 48) (mi 49) (mi 50) (mi 51) (mi 54) (mi 56) fm_trust fm_letter fm_reportPlace fm_reportKind fm_struck fm_reportMonth fm_reportDay fm_reportKnown fm_deedMonth fm_deedDay fm_deedLong fm_deedKind fm_kept fm_tape z1 z2 z3 z4 z5 z6 fm_official fm_aside fm_worth fm_out) H → va_D A (MWn h0 mr km (mi 0) (mi 1) (mi 2) (mi 3) (mi 4) (mi 5) (mi 6) (mi 7) (mi 10) (mi 17) (mi 23) (mi 24) (mi 26) (mi 27) (mi 28) (mi 29) (mi 30) (mi 31) (mi 32) (mi 33) w0_37 w0_41 (mi 42) (mi 43) (mi 44) (mi 45) (mi 47) (mi 48) (mi 49) (mi 50) (mi 51) (mi 54) (mi 56) fm_trust fm_letter fm_reportPlace fm_reportKind fm_struck fm_reportMonth fm_reportDay fm_reportKnown fm_deedMonth fm_deedDay fm_deedLong fm_deedKind fm_kept fm_tape z1 z2 z3 z4 z5 z6 fm_official fm_aside fm_worth fm_out) → va_S A s.heap H locs → lv_has ls 8 [] → W p l e R s m args below meth c H locs cells slots Q (F0 m 28 ls [.int v])) (kr132 : ∀ (v : Int32) (w0_37 : Int32) (w0_41 : Int32) (z1 : Nat → Int32) (z2 : Nat → Int32) (z3 : Nat → Int32) (z4 : Nat → Int32) (z5 : Nat → Int32) (z6 : Nat → Int32) (H : Heap) (locs : List Loc) (ls : Array Slot), gi w0_37 0 1 → gi w0_41 0 24 → ga z6 24 0 23 → va_P (dC, dI) vwCl (MWn h0 mr km (mi 0) (mi 1) (mi 2) (mi 3) (mi 4) (mi 5) (mi 6) (mi 7) (mi 10) (mi 17) (mi 23) (mi 24) (mi 26) (mi 27) (mi 28) (mi 29) (mi 30) (mi 31) (mi 32) (mi 33) w0_37 w0_41 (mi 42) (mi 43) (mi 44) (mi 45) (mi 47) (mi 48) (mi 49) (mi 50) (mi 51) (mi 54) (mi 56) fm_trust fm_letter fm_reportPlace fm_reportKind fm_struck fm_reportMonth fm_reportDay fm_reportKnown fm_deedMonth fm_deedDay fm_deedLong fm_deedKind fm_kept fm_tape z1 z2 z3 z4 z5 z6 fm_official fm_aside fm_worth fm_out) H → va_D A (MWn h0 mr km (mi 0) (mi 1) (mi 2) (mi 3) (mi 4) (mi 5) (mi 6) (mi 7) (mi 10) (mi 17) (mi 23) (mi 24) (mi 26) (mi 27) (mi 28) (mi 29) (mi 30) (mi 31) (mi 32) (mi 33) w0_37 w0_41 (mi 42) (mi 43) (mi 44) (mi 45) (mi 47) (mi 48) (mi 49) (mi 50) (mi 51) (mi 54) (mi 56) fm_trust fm_letter fm_reportPlace fm_reportKind fm_struck fm_reportMonth fm_reportDay fm_reportKnown fm_deedMonth fm_deedDay fm_deedLong fm_deedKind fm_kept fm_tape z1 z2 z3 z4 z5 z6 fm_official fm_aside fm_worth fm_out) → va_S A s.heap H locs → lv_has ls 8 [] → W p l e R s m args below meth c H locs cells slots Q (F0 m 132 ls [.int v])) (kr83 : ∀ (v : Int32) (w0_37 : Int32) (w0_41 : Int32) (z1 : Nat → Int32) (z2 : Nat → Int32) (z3 : Nat → Int32) (z4 : Nat → Int32) (z5 : Nat → Int32) (z6 : Nat → Int32) (H : Heap) (locs : List Loc) (ls : Array Slot), gi v (-1) (-1) → gi w0_37 0 1 → gi w0_41 0 24 → ga z6 24 0 23 → va_P (dC, dI) vwCl (MWn h0 mr km (mi 0) (mi 1) (mi 2) (mi 3) (mi 4) (mi 5) (mi 6) (mi 7) (mi 10) (mi 17) (mi 23) (mi 24) (mi 26) (mi 27) (mi 28) (mi 29) (mi 30) (mi 31) (mi 32) (mi 33) w0_37 w0_41 (mi 42) (mi 43) (mi 44) (mi 45) (mi 47) (mi 48) (mi 49) (mi 50) (mi 51) (mi 54) (mi 56) fm_trust fm_letter fm_reportPlace fm_reportKind fm_struck fm_reportMonth fm_reportDay fm_reportKnown fm_deedMonth fm_deedDay fm_deedLong fm_deedKind fm_kept fm_tape z1 z2 z3 z4 z5 z6 fm_official fm_aside fm_worth fm_out) H → va_D A (MWn h0 mr km (mi 0) (mi 1) (mi 2) (mi 3) (mi 4) (mi 5) (mi 6) (mi 7) (mi 10) (mi 17) (mi 23) (mi 24) (mi 26) (mi 27) (mi 28) (mi 29) (mi 30) (mi 31) (mi 32) (mi 33) w0_37 w0_41 (mi 42) (mi 43) (mi 44) (mi 45) (mi 47) (mi 48) (mi 49) (mi 50) (mi 51) (mi 54) (mi 56) fm_trust fm_letter fm_reportPlace fm_reportKind fm_struck fm_reportMonth fm_reportDay fm_reportKnown fm_deedMonth fm_deedDay fm_deedLong fm_deedKind fm_kept fm_tape z1 z2 z3 z4 z5 z6 fm_official fm_aside fm_worth fm_out) → va_S A s.heap H locs → lv_has ls 8 [] → W p l e R s m args below meth c H locs cells slots Q (F0 m 83 ls [.int v])) : ∀ z : Nat, (∀ (v3 : Int32) (v4 : Int32) (v5 : Int32) (v6 : Int32) (w0_37 : Int32) (w0_41 : Int32) (z1 : Nat → Int32) (z2 : Nat → Int32) (z3 : Nat → Int32) (z4 : Nat → Int32) (z5 : Nat → Int32) (z6 : Nat → Int32) (H : Heap) (locs : List Loc) (ls : Array Slot), gi p1 0 999 → gi p2 0 2147483647 → gi v4 0 24 → gi v5 (-1) 10 → gi v6 0 24 → gi w0_37 0 1 → gi w0_41 0 24 → ga z6 24 0 23 → v4.toInt ≤ v6.toInt → 49 + (-2) * v6.toInt < (z : Int) → va_P (dC, dI) vwCl (MWn h0 mr km (mi 0) (mi 1) (mi 2) (mi 3) (mi 4) (mi 5) (mi 6) (mi 7) (mi 10) (mi 17) (mi 23) (mi 24) (mi 26) (mi 27) (mi 28) (mi 29) (mi 30) (mi 31) (mi 32) (mi 33) w0_37 w0_41 (mi 42) (mi 43) (mi 44) (mi 45) (mi 47) (mi 48) (mi 49) (mi 50) (mi 51) (mi 54) (mi 56) fm_trust fm_letter fm_reportPlace fm_reportKind fm_struck fm_reportMonth fm_reportDay fm_reportKnown fm_deedMonth fm_deedDay fm_deedLong fm_deedKind fm_kept fm_tape z1 z2 z3 z4 z5 z6 fm_official fm_aside fm_worth fm_out) H → va_D A (MWn h0 mr km (mi 0) (mi 1) (mi 2) (mi 3) (mi 4) (mi 5) (mi 6) (mi 7) (mi 10) (mi 17) (mi 23) (mi 24) (mi 26) (mi 27) (mi 28) (mi 29) (mi 30) (mi 31) (mi 32) (mi 33) w0_37 w0_41 (mi 42) (mi 43) (mi 44) (mi 45) (mi 47) (mi 48) (mi 49) (mi 50) (mi 51) (mi 54) (mi 56) fm_trust fm_letter fm_reportPlace fm_reportKind fm_struck fm_reportMonth fm_reportDay fm_reportKnown fm_deedMonth fm_deedDay fm_deedLong fm_deedKind fm_kept fm_tape z1 z2 z3 z4 z5 z6 fm_official fm_aside fm_worth fm_out) → va_S A s.heap H locs → lv_has ls 8 [(0, .ref h0), (1, .int p1), (2, .int p2), (3, .int v3), (4, .int v4), (5, .int v5), (6, .int v6)] → W p l e R s m args below meth c H locs cells slots Q (F0 m 50 ls [])) := by
  intro z
  induction z with
  | zero =>
    intro v3 v4 v5 v6 w0_37 w0_41 z1 z2 z3 z4 z5 z6 H locs ls gf_p1 gf_p2 gv4 gv5 gv6 gw0_37 gw0_41 gz6 hle_gv4_gv6 hmu hP hD hS hl
    exact absurd hmu (by have hv61 := gv6.1; have hv62 := gv6.2; omega)
  | succ z ih =>
      intro v3 v4 v5 v6 w0_37 w0_41 z1 z2 z3 z4 z5 z6 H locs ls gf_p1 gf_p2 gv4 gv5 gv6 gw0_37 gw0_41 gz6 hle_gv4_gv6 hmu hP hD hS hl
      refine lv_iload hx hb dX12_rank_50 (lv_at hl 6 rfl) ?_
      refine lv_aload_n hx hb dX12_rank_52 rfl (lv_at hl 0 rfl) ?_
      refine va_get (D := (dC, dI)) (ci := 12) (v := .int (mi 0)) (C := RX12) (T := TX12) (N := 57) hx hb hts (fun w h => List.mem_cons_of_mem _ (jnGB_X12 w h)) hown hK hP 0 rfl rfl 0 (by decide) (hts _ (List.mem_cons_of_mem _ mGB_103)) (fun _ h9 => h9) rfl dX12_rank_53 ?_
      refine lv_icmp_ge (tgt := 131) hx hb dX12_rank_56 (by decide) (fun c_677 => ?_) (fun c_677 => ?_)
      · refine lv_iload_n hx hb dX12_rank_131 rfl (lv_at hl 3 rfl) ?_
        exact kr132 v3 w0_37 w0_41 z1 z2 z3 z4 z5 z6 _ _ _ gw0_37 gw0_41 gz6 hP hD hS (lv_sub hl [] rfl)
      · have g_678 : gi v6 0 23 := gi_lt_l (Int32.not_le.mp c_677) gv6 gmi_0 (by decide)
        have g_679 : gi v4 0 23 := gi_rel hle_gv4_gv6 gv4 g_678
        have g_680 : gi (mi 0) 1 24 := gi_lt_r (Int32.not_le.mp c_677) gv6 gmi_0 (by decide)
        refine lv_iload_n hx hb dX12_rank_59 rfl (lv_at hl 2 rfl) ?_
        refine lv_iload hx hb dX12_rank_60 (lv_at hl 6 rfl) ?_
        refine lv_ishr hx hb dX12_rank_62 ?_
        refine lv_topi (fun x_681 ex_681 => ?_)
        refine lv_iconst (v := 1) hx hb dX12_rank_63 (by decide) ?_
        refine lv_iand hx hb dX12_rank_64 ?_
        refine lv_topi (fun x_682 ex_682 => ?_)
        have gx_682 : gi x_682 0 1 := gi_and1 ex_682
        refine lv_istore (lv' := [(7, .int x_682), (0, .ref h0), (1, .int p1), (2, .int p2), (3, .int v3), (4, .int v4), (5, .int v5), (6, .int v6)]) hx hb dX12_rank_65 hl (by decide) rfl (fun ls hl => ?_)
        refine lv_aload_n hx hb dX12_rank_67 rfl (lv_at hl 1 rfl) ?_
        refine lv_iload hx hb dX12_rank_68 (lv_at hl 7 rfl) ?_
        refine lv_iload hx hb dX12_rank_70 (lv_at hl 5 rfl) ?_
        refine lv_iload hx hb dX12_rank_72 (lv_at hl 6 rfl) ?_
        refine lv_iload hx hb dX12_rank_74 (lv_at hl 0 rfl) ?_
        refine va_calli (va_runV (As := [.int v6, .int v4, .int v5, .int x_682]) (rest := []) ⟨hx, hb, hml, hown, hts⟩ (sX12_waysBy l dC dI h0 (upd (upd mi 37 w0_37) 41 w0_41) mr km z4 fm_trust fm_letter fm_reportPlace fm_reportKind fm_struck fm_reportMonth fm_reportDay fm_reportKnown fm_deedMonth fm_deedDay fm_deedLong fm_deedKind fm_kept fm_tape z1 z2 z3 z5 z6 fm_official fm_aside fm_worth fm_out v6 v4 v5 x_682 (gi_w g_680 (by decide)) gmi_1 gmi_2 gmi_4 gmi_7 gmi_10 gmi_17 gmi_23 gmi_24 gmi_26 gmi_29 gmi_30 gmi_33 gw0_37 gw0_41 gmi_50 gmi_51 gmi_56 g_678 g_679 gv5 gx_682) (cwV 4 hts (gz_gV mGB_307 mGB_308 mGB_309 mGB_1 mGB_310 goodGB) rfl rfl rfl (by decide +kernel) ⟨Nat.le_trans (Nat.le_of_ble_eq_true rfl) hRf, Nat.le_trans (Nat.le_of_ble_eq_true rfl) hRl⟩) ⟨bl_R, mw_recv hK hP, fun U hU hW => ⟨rfl, by rw [hU]; exact hP, va_K.moved hW.alike hK⟩⟩ rfl rfl hl.1 rfl (lv_room (Nat.le_of_ble_eq_true rfl)) dX12_rank_76 ⟨hRc, hRs⟩) hS (fun q _ h => h.elim) (fun q h => h.elim) (fun r_683 u t H1 locs ht hvm hw hB hz1 hk1 hS => ?_)
        have hP := gz_keep hP hk1
        generalize H1 = H at hP hS ⊢
        refine lv_if_ne (tgt := 84) hx hb dX12_rank_79 (by decide) (fun c_684 => ?_) (fun c_684 => ?_)
        · refine lv_iload_n hx hb dX12_rank_84 rfl (lv_at hl 4 rfl) ?_
          refine lv_iload hx hb dX12_rank_85 (lv_at hl 0 rfl) ?_
          refine lv_iconst (v := 1) hx hb dX12_rank_87 (by decide) ?_
          refine lv_icmp_ne (tgt := 105) hx hb dX12_rank_88 (by decide) (fun c_685 => ?_) (fun c_685 => ?_)
          · have g_686 : gi x_682 0 0 := gi_ne_hi c_685 gx_682 (gi_c 1 1 (by decide)) (by decide)
            refine lv_iconst (v := 0) hx hb dX12_rank_105 (by decide) ?_
            refine lv_iadd hx hb dX12_rank_106 ?_
            refine lv_topi (fun x_687 ex_687 => ?_)
            refine lv_istore_n (lv' := [(3, .int x_687), (7, .int x_682), (0, .ref h0), (1, .int p1), (2, .int p2), (4, .int v4), (5, .int v5), (6, .int v6)]) hx hb dX12_rank_107 rfl hl (by decide) rfl (fun ls hl => ?_)
            refine lv_aload_n hx hb dX12_rank_108 rfl (lv_at hl 2 rfl) ?_
            refine lv_iload hx hb dX12_rank_109 (lv_at hl 6 rfl) ?_
            refine lv_iload hx hb dX12_rank_111 (lv_at hl 1 rfl) ?_
            refine va_calli (va_runV (As := [.int v5, .int x_682]) (rest := []) ⟨hx, hb, hml, hown, hts⟩ (sX12_runBehind l dC dI h0 (upd (upd mi 37 w0_37) 41 w0_41) mr km fm_trust fm_letter fm_reportPlace fm_reportKind fm_struck fm_reportMonth fm_reportDay fm_reportKnown fm_deedMonth fm_deedDay fm_deedLong fm_deedKind fm_kept fm_tape z1 z2 z3 z4 z5 z6 fm_official fm_aside fm_worth fm_out v5 x_682 (gi_w g_680 (by decide)) gmi_1 gmi_2 gmi_4 gmi_7 gmi_10 gmi_17 gmi_23 gmi_24 gmi_26 gmi_29 gmi_30 gmi_33 gw0_37 gw0_41 gmi_50 gmi_51 gmi_56 gv5 (gi_w g_686 (by decide))) (cwV 2 hts (gz_gV mGB_311 mGB_312 mGB_313 mGB_1 mGB_314 goodGB) rfl rfl rfl (by decide +kernel) ⟨Nat.le_trans (Nat.le_of_ble_eq_true rfl) hRf, Nat.le_trans (Nat.le_of_ble_eq_true rfl) hRl⟩) ⟨bl_R, mw_recv hK hP, fun U hU hW => ⟨rfl, by rw [hU]; exact hP, va_K.moved hW.alike hK⟩⟩ rfl rfl hl.1 rfl (lv_room (Nat.le_of_ble_eq_true rfl)) dX12_rank_113 ⟨hRc, hRs⟩) hS (fun q _ h => h.elim) (fun q h => h.elim) (fun r_688 u t H1 locs ht hvm hw hB hz1 hk1 hS => ?_)
            have hP := gz_keep hP hk1
            generalize H1 = H at hP hS ⊢
            have gr_688 : gi r_688 (-1) 10 := hw
            refine lv_istore (lv' := [(5, .int r_688), (3, .int x_687), (7, .int x_682), (0, .ref h0), (1, .int p1), (2, .int p2), (4, .int v4), (6, .int v6)]) hx hb dX12_rank_116 hl (by decide) rfl (fun ls hl => ?_)
            refine lv_iload hx hb dX12_rank_118 (lv_at hl 6 rfl) ?_
            refine lv_iload hx hb dX12_rank_120 (lv_at hl 2 rfl) ?_
            refine lv_iadd hx hb dX12_rank_122 ?_
            refine lv_topi (fun x_689 ex_689 => ?_)
            have gx_689 : gi x_689 0 23 := gi_add ex_689 g_679 g_686 (by decide)
            refine lv_istore (lv' := [(4, .int x_689), (5, .int r_688), (3, .int x_687), (7, .int x_682), (0, .ref h0), (1, .int p1), (2, .int p2), (6, .int v6)]) hx hb dX12_rank_123 hl (by decide) rfl (fun ls hl => ?_)
            obtain ⟨x_690, ex_690⟩ : ∃ y : Int32, y = v6 + 1 := ⟨_, rfl⟩
            have gx_690 : gi x_690 1 24 := gi_add ex_690 g_678 (gi_c 1 1 (by decide)) (by decide)
            refine lv_iinc (v := x_690) (lv' := [(6, .int x_690), (4, .int x_689), (5, .int r_688), (3, .int x_687), (7, .int x_682), (0, .ref h0), (1, .int p1), (2, .int p2)]) hx hb dX12_rank_125 hl (k := 7) rfl (by rw [ex_690]; rfl) (by decide) rfl (fun ls hl => ?_)
            refine lv_goto (tgt := 50) hx hb dX12_rank_128 (by decide) ?_
            exact ih x_687 x_689 r_688 x_690 w0_37 w0_41 z1 z2 z3 z4 z5 z6 _ _ _ gf_p1 gf_p2 (gi_w gx_689 (by decide)) gr_688 (gi_w gx_690 (by decide)) gw0_37 gw0_41 gz6 (by have qgx_690 := gx_690.1; have rgx_690 := gx_690.2; have igx_690 : x_690.toInt = v6.toInt + 1 := (by have hc1 : (1 : Int32).toInt = 1 := (by decide); have h9 := gi_addI ex_690 (by have h1 := g_678.1; have h2 := (gi_c 1 1 (by decide)).1; have h3 := g_678.2; have h4 := (gi_c 1 1 (by decide)).2; omega) (by have h1 := g_678.1; have h2 := (gi_c 1 1 (by decide)).1; have h3 := g_678.2; have h4 := (gi_c 1 1 (by decide)).2; omega); rw [hc1] at h9; exact h9); have qgv6 := g_678.1; have rgv6 := g_678.2; have qgx_689 := gx_689.1; have rgx_689 := gx_689.2; have igx_689 : x_689.toInt = v4.toInt + x_682.toInt := (by have h9 := gi_addI ex_689 (by have h1 := g_679.1; have h2 := g_686.1; have h3 := g_679.2; have h4 := g_686.2; omega) (by have h1 := g_679.1; have h2 := g_686.1; have h3 := g_679.2; have h4 := g_686.2; omega); exact h9); have qgx_682 := g_686.1; have rgx_682 := g_686.2; have qgv4 := g_679.1; have rgv4 := g_679.2; have y1 := (Int32.lt_iff_toInt_lt.mp (Int32.not_le.mp c_677)); omega) (by have av6 := gv6.1; have bv6 := gv6.2; have qgx_690 := gx_690.1; have rgx_690 := gx_690.2; have igx_690 : x_690.toInt = v6.toInt + 1 := (by have hc1 : (1 : Int32).toInt = 1 := (by decide); have h9 := gi_addI ex_690 (by have h1 := g_678.1; have h2 := (gi_c 1 1 (by decide)).1; have h3 := g_678.2; have h4 := (gi_c 1 1 (by decide)).2; omega) (by have h1 := g_678.1; have h2 := (gi_c 1 1 (by decide)).1; have h3 := g_678.2; have h4 := (gi_c 1 1 (by decide)).2; omega); rw [hc1] at h9; exact h9); have qgv6 := g_678.1; have rgv6 := g_678.2; omega) hP hD hS (lv_sub hl [5, 6, 7, 3, 1, 2, 0] rfl)
          · have g_691 : gi x_682 1 1 := gi_eq c_685 (gi_c 1 1 (by decide))
            refine lv_aload_n hx hb dX12_rank_91 rfl (lv_at hl 1 rfl) ?_
            refine lv_iload hx hb dX12_rank_92 (lv_at hl 7 rfl) ?_
            refine lv_iload hx hb dX12_rank_94 (lv_at hl 5 rfl) ?_
            refine lv_iload hx hb dX12_rank_96 (lv_at hl 6 rfl) ?_
            refine lv_iconst (v := 0) hx hb dX12_rank_98 (by decide) ?_
            refine va_calli (va_runV (As := [.int v6, .int v4, .int v5, .int 0]) (rest := [.int v3]) ⟨hx, hb, hml, hown, hts⟩ (sX12_waysBy l dC dI h0 (upd (upd mi 37 w0_37) 41 w0_41) mr km z4 fm_trust fm_letter fm_reportPlace fm_reportKind fm_struck fm_reportMonth fm_reportDay fm_reportKnown fm_deedMonth fm_deedDay fm_deedLong fm_deedKind fm_kept fm_tape z1 z2 z3 z5 z6 fm_official fm_aside fm_worth fm_out v6 v4 v5 0 (gi_w g_680 (by decide)) gmi_1 gmi_2 gmi_4 gmi_7 gmi_10 gmi_17 gmi_23 gmi_24 gmi_26 gmi_29 gmi_30 gmi_33 gw0_37 gw0_41 gmi_50 gmi_51 gmi_56 g_678 g_679 gv5 (gi_w (gi_c 0 0 (by decide)) (by decide))) (cwV 4 hts (gz_gV mGB_307 mGB_308 mGB_309 mGB_1 mGB_310 goodGB) rfl rfl rfl (by decide +kernel) ⟨Nat.le_trans (Nat.le_of_ble_eq_true rfl) hRf, Nat.le_trans (Nat.le_of_ble_eq_true rfl) hRl⟩) ⟨bl_R, mw_recv hK hP, fun U hU hW => ⟨rfl, by rw [hU]; exact hP, va_K.moved hW.alike hK⟩⟩ rfl rfl hl.1 rfl (lv_room (Nat.le_of_ble_eq_true rfl)) dX12_rank_99 ⟨hRc, hRs⟩) hS (fun q _ h => h.elim) (fun q h => h.elim) (fun r_692 u t H1 locs ht hvm hw hB hz1 hk1 hS => ?_)
            have hP := gz_keep hP hk1
            generalize H1 = H at hP hS ⊢
            refine lv_goto (tgt := 106) hx hb dX12_rank_102 (by decide) ?_
            refine lv_iadd hx hb dX12_rank_106 ?_
            refine lv_topi (fun x_693 ex_693 => ?_)
            refine lv_istore_n (lv' := [(3, .int x_693), (7, .int x_682), (0, .ref h0), (1, .int p1), (2, .int p2), (4, .int v4), (5, .int v5), (6, .int v6)]) hx hb dX12_rank_107 rfl hl (by decide) rfl (fun ls hl => ?_)
            refine lv_aload_n hx hb dX12_rank_108 rfl (lv_at hl 2 rfl) ?_
            refine lv_iload hx hb dX12_rank_109 (lv_at hl 6 rfl) ?_
            refine lv_iload hx hb dX12_rank_111 (lv_at hl 1 rfl) ?_
            refine va_calli (va_runV (As := [.int v5, .int x_682]) (rest := []) ⟨hx, hb, hml, hown, hts⟩ (sX12_runBehind l dC dI h0 (upd (upd mi 37 w0_37) 41 w0_41) mr km fm_trust fm_letter fm_reportPlace fm_reportKind fm_struck fm_reportMonth fm_reportDay fm_reportKnown fm_deedMonth fm_deedDay fm_deedLong fm_deedKind fm_kept fm_tape z1 z2 z3 z4 z5 z6 fm_official fm_aside fm_worth fm_out v5 x_682 (gi_w g_680 (by decide)) gmi_1 gmi_2 gmi_4 gmi_7 gmi_10 gmi_17 gmi_23 gmi_24 gmi_26 gmi_29 gmi_30 gmi_33 gw0_37 gw0_41 gmi_50 gmi_51 gmi_56 gv5 (gi_w g_691 (by decide))) (cwV 2 hts (gz_gV mGB_311 mGB_312 mGB_313 mGB_1 mGB_314 goodGB) rfl rfl rfl (by decide +kernel) ⟨Nat.le_trans (Nat.le_of_ble_eq_true rfl) hRf, Nat.le_trans (Nat.le_of_ble_eq_true rfl) hRl⟩) ⟨bl_R, mw_recv hK hP, fun U hU hW => ⟨rfl, by rw [hU]; exact hP, va_K.moved hW.alike hK⟩⟩ rfl rfl hl.1 rfl (lv_room (Nat.le_of_ble_eq_true rfl)) dX12_rank_113 ⟨hRc, hRs⟩) hS (fun q _ h => h.elim) (fun q h => h.elim) (fun r_694 u t H1 locs ht hvm hw hB hz1 hk1 hS => ?_)
            have hP := gz_keep hP hk1
            generalize H1 = H at hP hS ⊢
            have gr_694 : gi r_694 (-1) 10 := hw
            refine lv_istore (lv' := [(5, .int r_694), (3, .int x_693), (7, .int x_682), (0, .ref h0), (1, .int p1), (2, .int p2), (4, .int v4), (6, .int v6)]) hx hb dX12_rank_116 hl (by decide) rfl (fun ls hl => ?_)
            refine lv_iload hx hb dX12_rank_118 (lv_at hl 6 rfl) ?_
            refine lv_iload hx hb dX12_rank_120 (lv_at hl 2 rfl) ?_
            refine lv_iadd hx hb dX12_rank_122 ?_
            refine lv_topi (fun x_695 ex_695 => ?_)
            have gx_695 : gi x_695 1 24 := gi_add ex_695 g_679 g_691 (by decide)
            refine lv_istore (lv' := [(4, .int x_695), (5, .int r_694), (3, .int x_693), (7, .int x_682), (0, .ref h0), (1, .int p1), (2, .int p2), (6, .int v6)]) hx hb dX12_rank_123 hl (by decide) rfl (fun ls hl => ?_)
            obtain ⟨x_696, ex_696⟩ : ∃ y : Int32, y = v6 + 1 := ⟨_, rfl⟩
            have gx_696 : gi x_696 1 24 := gi_add ex_696 g_678 (gi_c 1 1 (by decide)) (by decide)
            refine lv_iinc (v := x_696) (lv' := [(6, .int x_696), (4, .int x_695), (5, .int r_694), (3, .int x_693), (7, .int x_682), (0, .ref h0), (1, .int p1), (2, .int p2)]) hx hb dX12_rank_125 hl (k := 7) rfl (by rw [ex_696]; rfl) (by decide) rfl (fun ls hl => ?_)
            refine lv_goto (tgt := 50) hx hb dX12_rank_128 (by decide) ?_
            exact ih x_693 x_695 r_694 x_696 w0_37 w0_41 z1 z2 z3 z4 z5 z6 _ _ _ gf_p1 gf_p2 (gi_w gx_695 (by decide)) gr_694 (gi_w gx_696 (by decide)) gw0_37 gw0_41 gz6 (by have qgx_696 := gx_696.1; have rgx_696 := gx_696.2; have igx_696 : x_696.toInt = v6.toInt + 1 := (by have hc1 : (1 : Int32).toInt = 1 := (by decide); have h9 := gi_addI ex_696 (by have h1 := g_678.1; have h2 := (gi_c 1 1 (by decide)).1; have h3 := g_678.2; have h4 := (gi_c 1 1 (by decide)).2; omega) (by have h1 := g_678.1; have h2 := (gi_c 1 1 (by decide)).1; have h3 := g_678.2; have h4 := (gi_c 1 1 (by decide)).2; omega); rw [hc1] at h9; exact h9); have qgv6 := g_678.1; have rgv6 := g_678.2; have qgx_695 := gx_695.1; have rgx_695 := gx_695.2; have igx_695 : x_695.toInt = v4.toInt + x_682.toInt := (by have h9 := gi_addI ex_695 (by have h1 := g_679.1; have h2 := g_691.1; have h3 := g_679.2; have h4 := g_691.2; omega) (by have h1 := g_679.1; have h2 := g_691.1; have h3 := g_679.2; have h4 := g_691.2; omega); exact h9); have qgx_682 := g_691.1; have rgx_682 := g_691.2; have qgv4 := g_679.1; have rgv4 := g_679.2; have y1 := (Int32.lt_iff_toInt_lt.mp (Int32.not_le.mp c_677)); omega) (by have av6 := gv6.1; have bv6 := gv6.2; have qgx_696 := gx_696.1; have rgx_696 := gx_696.2; have igx_696 : x_696.toInt = v6.toInt + 1 := (by have hc1 : (1 : Int32).toInt = 1 := (by decide); have h9 := gi_addI ex_696 (by have h1 := g_678.1; have h2 := (gi_c 1 1 (by decide)).1; have h3 := g_678.2; have h4 := (gi_c 1 1 (by decide)).2; omega) (by have h1 := g_678.1; have h2 := (gi_c 1 1 (by decide)).1; have h3 := g_678.2; have h4 := (gi_c 1 1 (by decide)).2; omega); rw [hc1] at h9; exact h9); have qgv6 := g_678.1; have rgv6 := g_678.2; omega) hP hD hS (lv_sub hl [5, 6, 7, 3, 1, 2, 0] rfl)
        · have g_697 : gi r_683 0 0 := gi_eq c_684 (gi_c 0 0 (by decide))
          refine lv_iconst (v := (-1)) hx hb dX12_rank_82 (by decide) ?_
          exact kr83 (-1) w0_37 w0_41 z1 z2 z3 z4 z5 z6 _ _ _ (gi_c (-1) (-1) (by decide)) gw0_37 gw0_41 gz6 hP hD hS (lv_sub hl [] rfl)
abbrev pb_sX12_rank (dC : Nat → ClassId) (dI : Nat → Nat → Nat) (A9 : Nat → Prop) (h0 : Nat) (mi : Nat → Int32) (mr : Nat → Nat) (km : Nat → ClassId) (fm_must : Nat → Int32) (fm_least : Nat → Int32) (fm_pin : Nat → Int32) (fm_ways : Nat → Int32) (fm_verdict : Nat → Int32) (fm_row : Nat → Int32) (fm_struck : Nat → Int32) (fm_reportKnown : Nat → Int32) (fm_reportPlace : Nat → Int32) (fm_reportMonth : Nat → Int32) (fm_reportDay : Nat → Int32) (fm_reportKind : Nat → Int32) (fm_trust : Nat → Int32) (fm_letter : Nat → Int32) (fm_deedMonth : Nat → Int32) (fm_deedDay : Nat → Int32) (fm_deedLong : Nat → Int32) (fm_deedKind : Nat → Int32) (fm_kept : Nat → Int32) (fm_tape : Nat → Int32) (fm_official : Nat → Int32) (fm_aside : Nat → Int32) (fm_worth : Nat → Int32) (fm_out : Nat → Int32) (p1 : Int32) (p2 : Int32) (w0_37 : Int32) (w0_41 : Int32) (z1 : Nat → Int32) (z2 : Nat → Int32) (z3 : Nat → Int32) (z4 : Nat → Int32) (z5 : Nat → Int32) (z6 : Nat → Int32) (t : State) : Prop := gi w0_37 0 1 ∧ gi w0_41 0 24 ∧ ga z6 24 0 23 ∧ va_P (dC, dI) vwCl (MWn h0 mr km (mi 0) (mi 1) (mi 2) (mi 3) (mi 4) (mi 5) (mi 6) (mi 7) (mi 10) (mi 17) (mi 23) (mi 24) (mi 26) (mi 27) (mi 28) (mi 29) (mi 30) (mi 31) (mi 32) (mi 33) w0_37 w0_41 (mi 42) (mi 43) (mi 44) (mi 45) (mi 47) (mi 48) (mi 49) (mi 50) (mi 51) (mi 54) (mi 56) fm_trust fm_letter fm_reportPlace fm_reportKind fm_struck fm_reportMonth fm_reportDay fm_reportKnown fm_deedMonth fm_deedDay fm_deedLong fm_deedKind fm_kept fm_tape z1 z2 z3 z4 z5 z6 fm_official fm_aside fm_worth fm_out) t.heap ∧ va_D A9 (MWn h0 mr km (mi 0) (mi 1) (mi 2) (mi 3) (mi 4) (mi 5) (mi 6) (mi 7) (mi 10) (mi 17) (mi 23) (mi 24) (mi 26) (mi 27) (mi 28) (mi 29) (mi 30) (mi 31) (mi 32) (mi 33) w0_37 w0_41 (mi 42) (mi 43) (mi 44) (mi 45) (mi 47) (mi 48) (mi 49) (mi 50) (mi 51) (mi 54) (mi 56) fm_trust fm_letter fm_reportPlace fm_reportKind fm_struck fm_reportMonth fm_reportDay fm_reportKnown fm_deedMonth fm_deedDay fm_deedLong fm_deedKind fm_kept fm_tape z1 z2 z3 z4 z5 z6 fm_official fm_aside fm_worth fm_out)
set_option maxHeartbeats 4000000 in
set_option maxRecDepth 100000 in
theorem sX12_rank (l : Launch) (dC : Nat → ClassId) (dI : Nat → Nat → Nat) (sz : Nat) (h0 : Nat) (mi : Nat → Int32) (mr : Nat → Nat) (km : Nat → ClassId) (fm_must : Nat → Int32) (fm_least : Nat → Int32) (fm_pin : Nat → Int32) (fm_ways : Nat → Int32) (fm_verdict : Nat → Int32) (fm_row : Nat → Int32) (fm_struck : Nat → Int32) (fm_reportKnown : Nat → Int32) (fm_reportPlace : Nat → Int32) (fm_reportMonth : Nat → Int32) (fm_reportDay : Nat → Int32) (fm_reportKind : Nat → Int32) (fm_trust : Nat → Int32) (fm_letter : Nat → Int32) (fm_deedMonth : Nat → Int32) (fm_deedDay : Nat → Int32) (fm_deedLong : Nat → Int32) (fm_deedKind : Nat → Int32) (fm_kept : Nat → Int32) (fm_tape : Nat → Int32) (fm_official : Nat → Int32) (fm_aside : Nat → Int32) (fm_worth : Nat → Int32) (fm_out : Nat → Int32) (p1 : Int32) (p2 : Int32) (gmi_0 : gi (mi 0) 0 24) (gmi_1 : gi (mi 1) 0 5) (gmi_2 : gi (mi 2) 0 5) (gmi_4 : gi (mi 4) 0 1) (gmi_7 : gi (mi 7) 0 6) (gmi_10 : gi (mi 10) 0 24) (gmi_17 : gi (mi 17) 0 8) (gmi_23 : gi (mi 23) 0 300) (gmi_24 : gi (mi 24) 0 1) (gmi_26 : gi (mi 26) 0 1600) (gmi_29 : gi (mi 29) 0 1600) (gmi_30 : gi (mi 30) 0 1600) (gmi_33 : gi (mi 33) 0 1) (gmi_37 : gi (mi 37) 0 1) (gmi_41 : gi (mi 41) 0 24) (gmi_50 : gi (mi 50) 0 1) (gmi_51 : gi (mi 51) 0 1) (gmi_56 : gi (mi 56) 0 80) (gfm_row : ga fm_row 24 0 23) (gfm_struck : ga fm_struck 24 0 1) (gfm_reportKnown : ga fm_reportKnown 24 0 999) (gfm_reportPlace : ga fm_reportPlace 24 0 5) (gfm_reportMonth : ga fm_reportMonth 24 0 23) (gfm_reportDay : ga fm_reportDay 24 0 999) : Met l yX12_rank (.code yX12_rank cX12_rank 8 (some .int) :: wsGB) ({ frames := 5, cells := 0, slots := 0, locals := 119 }) (va_Pc [.ref h0, .int p1, .int p2] (fun U => U.heap.size = sz ∧ va_P (dC, dI) vwCl (MWn h0 mr km (mi 0) (mi 1) (mi 2) (mi 3) (mi 4) (mi 5) (mi 6) (mi 7) (mi 10) (mi 17) (mi 23) (mi 24) (mi 26) (mi 27) (mi 28) (mi 29) (mi 30) (mi 31) (mi 32) (mi 33) (mi 37) (mi 41) (mi 42) (mi 43) (mi 44) (mi 45) (mi 47) (mi 48) (mi 49) (mi 50) (mi 51) (mi 54) (mi 56) fm_trust fm_letter fm_reportPlace fm_reportKind fm_struck fm_reportMonth fm_reportDay fm_reportKnown fm_deedMonth fm_deedDay fm_deedLong fm_deedKind fm_kept fm_tape fm_must fm_least fm_pin fm_ways fm_verdict fm_row fm_official fm_aside fm_worth fm_out) U.heap ∧ va_K (dC, dI) vwCl (MT km) U ∧ va_D (fun _ => True) (MWn h0 mr km (mi 0) (mi 1) (mi 2) (mi 3) (mi 4) (mi 5) (mi 6) (mi 7) (mi 10) (mi 17) (mi 23) (mi 24) (mi 26) (mi 27) (mi 28) (mi 29) (mi 30) (mi 31) (mi 32) (mi 33) (mi 37) (mi 41) (mi 42) (mi 43) (mi 44) (mi 45) (mi 47) (mi 48) (mi 49) (mi 50) (mi 51) (mi 54) (mi 56) fm_trust fm_letter fm_reportPlace fm_reportKind fm_struck fm_reportMonth fm_reportDay fm_reportKnown fm_deedMonth fm_deedDay fm_deedLong fm_deedKind fm_kept fm_tape fm_must fm_least fm_pin fm_ways fm_verdict fm_row fm_official fm_aside fm_worth fm_out))) (va_Qi (fun (r : Int32) (u : Unit) => gi r (-2147483648) 2147483647) (fun _ t => ∃ (w0_37 : Int32) (w0_41 : Int32) (z1 : Nat → Int32) (z2 : Nat → Int32) (z3 : Nat → Int32) (z4 : Nat → Int32) (z5 : Nat → Int32) (z6 : Nat → Int32), pb_sX12_rank dC dI (va_A (MWn h0 mr km (mi 0) (mi 1) (mi 2) (mi 3) (mi 4) (mi 5) (mi 6) (mi 7) (mi 10) (mi 17) (mi 23) (mi 24) (mi 26) (mi 27) (mi 28) (mi 29) (mi 30) (mi 31) (mi 32) (mi 33) (mi 37) (mi 41) (mi 42) (mi 43) (mi 44) (mi 45) (mi 47) (mi 48) (mi 49) (mi 50) (mi 51) (mi 54) (mi 56) fm_trust fm_letter fm_reportPlace fm_reportKind fm_struck fm_reportMonth fm_reportDay fm_reportKnown fm_deedMonth fm_deedDay fm_deedLong fm_deedKind fm_kept fm_tape fm_must fm_least fm_pin fm_ways fm_verdict fm_row fm_official fm_aside fm_worth fm_out) sz) h0 mi mr km fm_must fm_least fm_pin fm_ways fm_verdict fm_row fm_struck fm_reportKnown fm_reportPlace fm_reportMonth fm_reportDay fm_reportKind fm_trust fm_letter fm_deedMonth fm_deedDay fm_deedLong fm_deedKind fm_kept fm_tape fm_official fm_aside fm_worth fm_out p1 p2 w0_37 w0_41 z1 z2 z3 z4 z5 z6 t) (va_A (MWn h0 mr km (mi 0) (mi 1) (mi 2) (mi 3) (mi 4) (mi 5) (mi 6) (mi 7) (mi 10) (mi 17) (mi 23) (mi 24) (mi 26) (mi 27) (mi 28) (mi 29) (mi 30) (mi 31) (mi 32) (mi 33) (mi 37) (mi 41) (mi 42) (mi 43) (mi 44) (mi 45) (mi 47) (mi 48) (mi 49) (mi 50) (mi 51) (mi 54) (mi 56) fm_trust fm_letter fm_reportPlace fm_reportKind fm_struck fm_reportMonth fm_reportDay fm_reportKnown fm_deedMonth fm_deedDay fm_deedLong fm_deedKind fm_kept fm_tape fm_must fm_least fm_pin fm_ways fm_verdict fm_row fm_official fm_aside fm_worth fm_out) sz)) 0 0 (va_A (MWn h0 mr km (mi 0) (mi 1) (mi 2) (mi 3) (mi 4) (mi 5) (mi 6) (mi 7) (mi 10) (mi 17) (mi 23) (mi 24) (mi 26) (mi 27) (mi 28) (mi 29) (mi 30) (mi 31) (mi 32) (mi 33) (mi 37) (mi 41) (mi 42) (mi 43) (mi 44) (mi 45) (mi 47) (mi 48) (mi 49) (mi 50) (mi 51) (mi 54) (mi 56) fm_trust fm_letter fm_reportPlace fm_reportKind fm_struck fm_reportMonth fm_reportDay fm_reportKnown fm_deedMonth fm_deedDay fm_deedLong fm_deedKind fm_kept fm_tape fm_must fm_least fm_pin fm_ways fm_verdict fm_row fm_official fm_aside fm_worth fm_out) sz) := by
  refine Met.ofW (cc := cX12_rank) (maxL := 8) (ret := (some .int)) (by decide) rfl ?_
  intro p e s m args below meth c s₁ B hml hv
  obtain ⟨rfl, hsz, hP, hK, hD0⟩ := hv
  have hx := B.exec
  have hb := B.bytes
  have hr := B.returns
  have hts := atoms_spec (ws := (.code yX12_rank cX12_rank 8 (some .int) :: wsGB)) B.pre
  have hown : s.vm.findClass RX12 = some m.cls := findClass_of_methodNamed B.named
  have hlocks := B.notSynchronized
  subst hsz
  have hD := hD0.self (sz := s.heap.size)
  generalize hAe : va_A (MWn h0 mr km (mi 0) (mi 1) (mi 2) (mi 3) (mi 4) (mi 5) (mi 6) (mi 7) (mi 10) (mi 17) (mi 23) (mi 24) (mi 26) (mi 27) (mi 28) (mi 29) (mi 30) (mi 31) (mi 32) (mi 33) (mi 37) (mi 41) (mi 42) (mi 43) (mi 44) (mi 45) (mi 47) (mi 48) (mi 49) (mi 50) (mi 51) (mi 54) (mi 56) fm_trust fm_letter fm_reportPlace fm_reportKind fm_struck fm_reportMonth fm_reportDay fm_reportKnown fm_deedMonth fm_deedDay fm_deedLong fm_deedKind fm_kept fm_tape fm_must fm_least fm_pin fm_ways fm_verdict fm_row fm_official fm_aside fm_worth fm_out) s.heap.size = A at hD ⊢
  have hA : ∀ q : Nat, s.heap.size ≤ q → A q := fun q h => by rw [← hAe]; exact Or.inr h
  have hS : va_S A s.heap s.heap [] := va_S.rf
  have hl := lv_entry ([.ref h0, .int p1, .int p2]) (n := 8) (Nat.le_of_ble_eq_true rfl)
  rw [lg_entry_eq]
  generalize (lg_sl ([.ref h0, .int p1, .int p2]) ++ List.replicate (8 - (lg_sl ([.ref h0, .int p1, .int p2])).length) Slot.unset).toArray = ls at hl ⊢
  have hl : lv_has ls 8 [(0, .ref h0), (1, .int p1), (2, .int p2)] := hl
  refine lv_aload_n hx hb dX12_rank_0 rfl (lv_at hl 0 rfl) ?_
  refine lv_iload_n hx hb dX12_rank_1 rfl (lv_at hl 1 rfl) ?_
  refine va_calli (va_runV (As := [.int p1]) (rest := []) ⟨hx, hb, hml, hown, hts⟩ (sX12_isTime l dC dI h0 mi mr km fm_trust fm_letter fm_reportPlace fm_reportKind fm_struck fm_reportMonth fm_reportDay fm_reportKnown fm_deedMonth fm_deedDay fm_deedLong fm_deedKind fm_kept fm_tape fm_must fm_least fm_pin fm_ways fm_verdict fm_row fm_official fm_aside fm_worth fm_out p1 gmi_0 gmi_1 gmi_2 gmi_4 gmi_7 gmi_10 gmi_17 gmi_23 gmi_24 gmi_26 gmi_29 gmi_30 gmi_33 gmi_37 gmi_41 gmi_50 gmi_51 gmi_56) (cwV 1 hts (gz_gV mGB_256 mGB_257 mGB_258 mGB_1 mGB_259 goodGB) rfl rfl rfl (by decide +kernel) ⟨Nat.le_of_ble_eq_true rfl, Nat.le_of_ble_eq_true rfl⟩) ⟨bl_R, mw_recv hK hP, fun U hU hW => ⟨rfl, by rw [hU]; exact hP, va_K.moved hW.alike hK⟩⟩ rfl rfl hl.1 rfl (lv_room (Nat.le_of_ble_eq_true rfl)) dX12_rank_2 ⟨Nat.zero_le _, Nat.zero_le _⟩) hS (fun q _ h => h.elim) (fun q h => h.elim) (fun r_698 u t H1 locs ht hvm hw hB hz1 hk1 hS => ?_)
  obtain ⟨hw, hE⟩ := hw
  have hP := gz_keep hP hk1
  generalize H1 = H at hP hS ⊢
  have gr_698 : gi r_698 0 1 := hw.1
  have hqr_698 := hw.2
  refine lv_if_eq (tgt := 26) hx hb dX12_rank_5 (by decide) (fun c_699 => ?_) (fun c_699 => ?_)
  · have g_700 : gi r_698 0 0 := gi_eq c_699 (gi_c 0 0 (by decide))
    refine lv_bipush (v := (-2)) hx hb dX12_rank_26 (by decide) ?_
    exact W.iret (v := (-2)) hx hb hr (fun t ht hW => ⟨⟨(-2), (), rfl, (gi_any (-2)), (mi 37), (mi 41), fm_must, fm_least, fm_pin, fm_ways, fm_verdict, fm_row, gmi_37, gmi_41, gfm_row, by rw [ht]; exact hP, hD⟩, hS.F ht⟩) hS.2.2 dX12_rank_28
  · have g_701 : gi r_698 1 1 := gi_ne_lo c_699 gr_698 (gi_c 0 0 (by decide)) (by decide)
    have g_702 : gi p1 0 999 := gi_cap (gi_any p1) (hqr_698 (gz_one g_701)) (by decide)
    refine lv_iload_n hx hb dX12_rank_8 rfl (lv_at hl 2 rfl) ?_
    refine lv_i2l (v := (p2).toInt64) hx hb dX12_rank_9 rfl ?_
    refine lv_topl (fun l_703 el_703 => ?_)
    refine lv_lconst (v := 0) hx hb dX12_rank_10 (by decide) ?_
    refine lv_iconst (v := 1) hx hb dX12_rank_11 (by decide) ?_
    refine lv_aload_n hx hb dX12_rank_12 rfl (lv_at hl 0 rfl) ?_
    refine va_get (D := (dC, dI)) (ci := 12) (v := .int (mi 0)) (C := RX12) (T := TX12) (N := 57) hx hb hts (fun w h => List.mem_cons_of_mem _ (jnGB_X12 w h)) hown hK hP 0 rfl rfl 0 (by decide) (hts _ (List.mem_cons_of_mem _ mGB_103)) (fun _ h9 => h9) rfl dX12_rank_13 ?_
    refine lv_ishl hx hb dX12_rank_16 ?_
    refine lv_topi (fun x_704 ex_704 => ?_)
    refine lv_iconst (v := 1) hx hb dX12_rank_17 (by decide) ?_
    refine lv_isub hx hb dX12_rank_18 ?_
    refine lv_topi (fun x_705 ex_705 => ?_)
    refine lv_i2l (v := (x_705).toInt64) hx hb dX12_rank_19 rfl ?_
    refine lv_topl (fun l_706 el_706 => ?_)
    have hPc := hP.sub (ws' := []) [] rfl
    have hKc := hK.sub (tys' := []) [] rfl
    refine va_calli (va_runS (As := [.long l_703, .long 0, .long l_706]) (rest := []) ⟨hx, hb, hml, hown, hts⟩ (sX12_in l dC dI l_703 0 l_706) (cwS 3 hts (gz_gS mGB_47 mGB_48 mGB_1 mGB_49 goodGB) rfl rfl rfl (by decide +kernel) ⟨Nat.le_of_ble_eq_true rfl, Nat.le_of_ble_eq_true rfl⟩) ⟨bl_R, fun U hU hW => ⟨rfl, by rw [hU]; exact hPc, va_K.moved hW.alike hKc⟩⟩ rfl rfl hl.1 rfl (lv_room (Nat.le_of_ble_eq_true rfl)) dX12_rank_20 ⟨Nat.zero_le _, Nat.zero_le _⟩) hS (fun q _ h => h.elim) (fun q h => h.elim) (fun r_707 u t H1 locs ht hvm hw hB hz1 hk1 hS => ?_)
    obtain ⟨hw, hE⟩ := hw
    have hP := gz_keep hP hk1
    generalize H1 = H at hP hS ⊢
    have gr_707 : gi r_707 0 1 := hw.1
    have hqr_707 := hw.2
    refine lv_if_ne (tgt := 29) hx hb dX12_rank_23 (by decide) (fun c_708 => ?_) (fun c_708 => ?_)
    · have g_709 : gi r_707 1 1 := gi_ne_lo c_708 gr_707 (gi_c 0 0 (by decide)) (by decide)
      have g_710 : gi p2 0 2147483647 := gi_cap (gi_any p2) (gz_inr (hqr_707.1 (gz_one g_709)) el_703 (A := 0) (B := 2147483647) (by decide) (gz_l2u el_706 (gi_any x_705))) (by decide)
      refine lv_aload_n hx hb dX12_rank_29 rfl (lv_at hl 0 rfl) ?_
      refine lv_iload_n hx hb dX12_rank_30 rfl (lv_at hl 1 rfl) ?_
      have hFc := gz_fullF hD hS hA
      refine va_callv (va_runV (As := [.int p1]) (rest := []) ⟨hx, hb, hml, hown, hts⟩ (sX12_judgesAll l dC dI H.size h0 mi mr km fm_must fm_least fm_pin fm_ways fm_verdict fm_row fm_struck fm_reportKnown fm_reportPlace fm_reportMonth fm_reportDay fm_reportKind fm_trust fm_letter fm_deedMonth fm_deedDay fm_deedLong fm_deedKind fm_kept fm_tape fm_official fm_aside fm_worth fm_out p1 gmi_0 gmi_1 gmi_2 gmi_4 gmi_7 gmi_10 gmi_17 gmi_23 gmi_24 gmi_26 gmi_29 gmi_30 gmi_33 gmi_37 gmi_41 gmi_50 gmi_51 gmi_56 gfm_row gfm_struck gfm_reportKnown gfm_reportPlace gfm_reportMonth gfm_reportDay) (cwV 1 hts (gz_gV mGB_261 mGB_262 mGB_263 mGB_1 mGB_264 goodGB) rfl rfl rfl (by decide +kernel) ⟨Nat.le_of_ble_eq_true rfl, Nat.le_of_ble_eq_true rfl⟩) ⟨bl_W, mw_recv hK hP, fun U hU hW => ⟨rfl, by rw [hU], by rw [hU]; exact hP, va_K.moved hW.alike hK, hD.weaken (fun _ _ _ _ => trivial)⟩⟩ rfl rfl hl.1 rfl (lv_room (Nat.le_of_ble_eq_true rfl)) dX12_rank_31 ⟨Nat.zero_le _, Nat.zero_le _⟩) hS (fun q _ h => hFc q h) hFc (fun u t H1 locs ht hvm hw hB hz1 hk1 hS => ?_)
      obtain ⟨y_712, y_713, f_714, f_715, f_716, f_717, f_718, f_719, hB⟩ := hB
      obtain ⟨gy_712, gy_713, gf_719, hP1, hD1⟩ := hB
      rw [ht] at hP1
      have hD : va_D A (MWn h0 mr km (mi 0) (mi 1) (mi 2) (mi 3) (mi 4) (mi 5) (mi 6) (mi 7) (mi 10) (mi 17) (mi 23) (mi 24) (mi 26) (mi 27) (mi 28) (mi 29) (mi 30) (mi 31) (mi 32) (mi 33) y_712 y_713 (mi 42) (mi 43) (mi 44) (mi 45) (mi 47) (mi 48) (mi 49) (mi 50) (mi 51) (mi 54) (mi 56) fm_trust fm_letter fm_reportPlace fm_reportKind fm_struck fm_reportMonth fm_reportDay fm_reportKnown fm_deedMonth fm_deedDay fm_deedLong fm_deedKind fm_kept fm_tape f_714 f_715 f_716 f_717 f_718 f_719 fm_official fm_aside fm_worth fm_out) := gz_fullD hFc hD1
      have hP : va_P (dC, dI) vwCl (MWn h0 mr km (mi 0) (mi 1) (mi 2) (mi 3) (mi 4) (mi 5) (mi 6) (mi 7) (mi 10) (mi 17) (mi 23) (mi 24) (mi 26) (mi 27) (mi 28) (mi 29) (mi 30) (mi 31) (mi 32) (mi 33) y_712 y_713 (mi 42) (mi 43) (mi 44) (mi 45) (mi 47) (mi 48) (mi 49) (mi 50) (mi 51) (mi 54) (mi 56) fm_trust fm_letter fm_reportPlace fm_reportKind fm_struck fm_reportMonth fm_reportDay fm_reportKnown fm_deedMonth fm_deedDay fm_deedLong fm_deedKind fm_kept fm_tape f_714 f_715 f_716 f_717 f_718 f_719 fm_official fm_aside fm_worth fm_out) H1 := hP1
      generalize H1 = H at hP hS ⊢
      refine lv_aload_n hx hb dX12_rank_34 rfl (lv_at hl 0 rfl) ?_
      have hFc := gz_fullF hD hS hA
      refine va_calli (va_runV (As := []) (rest := []) ⟨hx, hb, hml, hown, hts⟩ (sX12_counts l dC dI H.size h0 (upd (upd mi 37 y_712) 41 y_713) mr km f_714 f_715 f_716 f_717 fm_trust fm_letter fm_reportPlace fm_reportKind fm_struck fm_reportMonth fm_reportDay fm_reportKnown fm_deedMonth fm_deedDay fm_deedLong fm_deedKind fm_kept fm_tape f_718 f_719 fm_official fm_aside fm_worth fm_out gmi_0 gmi_1 gmi_2 gmi_4 gmi_7 gmi_10 gmi_17 gmi_23 gmi_24 gmi_26 gmi_29 gmi_30 gmi_33 gy_712 gy_713 gmi_50 gmi_51 gmi_56) (cwV 0 hts (gz_gV mGB_299 mGB_300 mGB_301 mGB_1 mGB_302 goodGB) rfl rfl rfl (by decide +kernel) ⟨Nat.le_of_ble_eq_true rfl, Nat.le_of_ble_eq_true rfl⟩) ⟨bl_W, mw_recv hK hP, fun U hU hW => ⟨rfl, by rw [hU], by rw [hU]; exact hP, va_K.moved hW.alike hK, hD.weaken (fun _ _ _ _ => trivial)⟩⟩ rfl rfl hl.1 rfl (lv_room (Nat.le_of_ble_eq_true rfl)) dX12_rank_35 ⟨Nat.zero_le _, Nat.zero_le _⟩) hS (fun q _ h => hFc q h) hFc (fun r_720 u t H1 locs ht hvm hw hB hz1 hk1 hS => ?_)
      obtain ⟨f_721, hB⟩ := hB
      obtain ⟨hP1, hD1⟩ := hB
      rw [ht] at hP1
      have hD : va_D A (MWn h0 mr km (mi 0) (mi 1) (mi 2) (mi 3) (mi 4) (mi 5) (mi 6) (mi 7) (mi 10) (mi 17) (mi 23) (mi 24) (mi 26) (mi 27) (mi 28) (mi 29) (mi 30) (mi 31) (mi 32) (mi 33) y_712 y_713 (mi 42) (mi 43) (mi 44) (mi 45) (mi 47) (mi 48) (mi 49) (mi 50) (mi 51) (mi 54) (mi 56) fm_trust fm_letter fm_reportPlace fm_reportKind fm_struck fm_reportMonth fm_reportDay fm_reportKnown fm_deedMonth fm_deedDay fm_deedLong fm_deedKind fm_kept fm_tape f_714 f_715 f_716 f_721 f_718 f_719 fm_official fm_aside fm_worth fm_out) := gz_fullD hFc hD1
      have hP : va_P (dC, dI) vwCl (MWn h0 mr km (mi 0) (mi 1) (mi 2) (mi 3) (mi 4) (mi 5) (mi 6) (mi 7) (mi 10) (mi 17) (mi 23) (mi 24) (mi 26) (mi 27) (mi 28) (mi 29) (mi 30) (mi 31) (mi 32) (mi 33) y_712 y_713 (mi 42) (mi 43) (mi 44) (mi 45) (mi 47) (mi 48) (mi 49) (mi 50) (mi 51) (mi 54) (mi 56) fm_trust fm_letter fm_reportPlace fm_reportKind fm_struck fm_reportMonth fm_reportDay fm_reportKnown fm_deedMonth fm_deedDay fm_deedLong fm_deedKind fm_kept fm_tape f_714 f_715 f_716 f_721 f_718 f_719 fm_official fm_aside fm_worth fm_out) H1 := hP1
      generalize H1 = H at hP hS ⊢
      refine lv_pop hx hb dX12_rank_38 rfl ?_
      refine lv_iconst (v := 0) hx hb dX12_rank_39 (by decide) ?_
      refine lv_istore_n (lv' := [(3, .int 0), (0, .ref h0), (1, .int p1), (2, .int p2)]) hx hb dX12_rank_40 rfl hl (by decide) rfl (fun ls hl => ?_)
      refine lv_iconst (v := 0) hx hb dX12_rank_41 (by decide) ?_
      refine lv_istore (lv' := [(4, .int 0), (3, .int 0), (0, .ref h0), (1, .int p1), (2, .int p2)]) hx hb dX12_rank_42 hl (by decide) rfl (fun ls hl => ?_)
      refine lv_iconst (v := 0) hx hb dX12_rank_44 (by decide) ?_
      refine lv_istore (lv' := [(5, .int 0), (4, .int 0), (3, .int 0), (0, .ref h0), (1, .int p1), (2, .int p2)]) hx hb dX12_rank_45 hl (by decide) rfl (fun ls hl => ?_)
      refine lv_iconst (v := 0) hx hb dX12_rank_47 (by decide) ?_
      refine lv_istore (lv' := [(6, .int 0), (5, .int 0), (4, .int 0), (3, .int 0), (0, .ref h0), (1, .int p1), (2, .int p2)]) hx hb dX12_rank_48 hl (by decide) rfl (fun ls hl => ?_)
      refine (lp_sX12_rank h0 mi mr km fm_must fm_least fm_pin fm_ways fm_verdict fm_row fm_struck fm_reportKnown fm_reportPlace fm_reportMonth fm_reportDay fm_reportKind fm_trust fm_letter fm_deedMonth fm_deedDay fm_deedLong fm_deedKind fm_kept fm_tape fm_official fm_aside fm_worth fm_out p1 p2 gmi_0 gmi_1 gmi_2 gmi_4 gmi_7 gmi_10 gmi_17 gmi_23 gmi_24 gmi_26 gmi_29 gmi_30 gmi_33 gmi_37 gmi_41 gmi_50 gmi_51 gmi_56 gfm_row gfm_struck gfm_reportKnown gfm_reportPlace gfm_reportMonth gfm_reportDay hx hb hml hown hts hK hA (Nat.le_of_ble_eq_true rfl) (Nat.le_of_ble_eq_true rfl) (Nat.zero_le _) (Nat.zero_le _) (fun v w0_37 w0_41 z1 z2 z3 z4 z5 z6 H locs ls gv gw0_37 gw0_41 gz6 hP hD hS hl => ?_) (fun v w0_37 w0_41 z1 z2 z3 z4 z5 z6 H locs ls gw0_37 gw0_41 gz6 hP hD hS hl => ?_) (fun v w0_37 w0_41 z1 z2 z3 z4 z5 z6 H locs ls gv gw0_37 gw0_41 gz6 hP hD hS hl => ?_) 62) 0 0 0 0 y_712 y_713 f_714 f_715 f_716 f_721 f_718 f_719 _ _ _ g_702 g_710 (gi_w (gi_c 0 0 (by decide)) (by decide)) (gi_w (gi_c 0 0 (by decide)) (by decide)) (gi_w (gi_c 0 0 (by decide)) (by decide)) gy_712 gy_713 gf_719 (by have k0 : (0 : Int32).toInt = 0 := (by decide); have k0 : (0 : Int32).toInt = 0 := (by decide); omega) (by have k0 : (0 : Int32).toInt = 0 := (by decide); omega) hP hD hS (lv_sub hl [4, 5, 6, 3, 2, 1, 0] rfl)
      · skip
        exact W.iret (v := v) hx hb hr (fun t ht hW => ⟨⟨v, (), rfl, (gi_any v), w0_37, w0_41, z1, z2, z3, z4, z5, z6, gw0_37, gw0_41, gz6, by rw [ht]; exact hP, hD⟩, hS.F ht⟩) hS.2.2 dX12_rank_28
      · skip
        exact W.iret (v := v) hx hb hr (fun t ht hW => ⟨⟨v, (), rfl, (gi_any v), w0_37, w0_41, z1, z2, z3, z4, z5, z6, gw0_37, gw0_41, gz6, by rw [ht]; exact hP, hD⟩, hS.F ht⟩) hS.2.2 dX12_rank_132
      · skip
        exact W.iret (v := v) hx hb hr (fun t ht hW => ⟨⟨v, (), rfl, (gi_any v), w0_37, w0_41, z1, z2, z3, z4, z5, z6, gw0_37, gw0_41, gz6, by rw [ht]; exact hP, hD⟩, hS.F ht⟩) hS.2.2 dX12_rank_83
    · have g_722 : gi r_707 0 0 := gi_eq c_708 (gi_c 0 0 (by decide))
      refine lv_bipush (v := (-2)) hx hb dX12_rank_26 (by decide) ?_
      exact W.iret (v := (-2)) hx hb hr (fun t ht hW => ⟨⟨(-2), (), rfl, (gi_any (-2)), (mi 37), (mi 41), fm_must, fm_least, fm_pin, fm_ways, fm_verdict, fm_row, gmi_37, gmi_41, gfm_row, by rw [ht]; exact hP, hD⟩, hS.F ht⟩) hS.2.2 dX12_rank_28
theorem dX12_worthBy_0 : decode cX12_worthBy 0 = .ok (.aload_n 0, 1) := by decide +kernel
theorem dX12_worthBy_1 : decode cX12_worthBy 1 = .ok (.iload_n 3, 1) := by decide +kernel
theorem dX12_worthBy_2 : decode cX12_worthBy 2 = .ok (.iload 4, 2) := by decide +kernel
theorem dX12_worthBy_4 : decode cX12_worthBy 4 = .ok (.invokevirtual 318, 3) := by decide +kernel
theorem dX12_worthBy_7 : decode cX12_worthBy 7 = .ok (.istore 5, 2) := by decide +kernel
theorem dX12_worthBy_9 : decode cX12_worthBy 9 = .ok (.iload 5, 2) := by decide +kernel
theorem dX12_worthBy_11 : decode cX12_worthBy 11 = .ok (.iconst (-1), 1) := by decide +kernel
theorem dX12_worthBy_12 : decode cX12_worthBy 12 = .ok (.if_icmp .ne 9, 3) := by decide +kernel
theorem dX12_worthBy_15 : decode cX12_worthBy 15 = .ok (.ldc_w 468, 3) := by decide +kernel
theorem dX12_worthBy_18 : decode cX12_worthBy 18 = .ok (.goto 20, 3) := by decide +kernel
theorem dX12_worthBy_21 : decode cX12_worthBy 21 = .ok (.aload_n 0, 1) := by decide +kernel
theorem dX12_worthBy_22 : decode cX12_worthBy 22 = .ok (.getfield 93, 3) := by decide +kernel
theorem dX12_worthBy_25 : decode cX12_worthBy 25 = .ok (.iload_n 1, 1) := by decide +kernel
theorem dX12_worthBy_26 : decode cX12_worthBy 26 = .ok (.iconst 1, 1) := by decide +kernel
theorem dX12_worthBy_27 : decode cX12_worthBy 27 = .ok (.iadd, 1) := by decide +kernel
theorem dX12_worthBy_28 : decode cX12_worthBy 28 = .ok (.iload_n 2, 1) := by decide +kernel
theorem dX12_worthBy_29 : decode cX12_worthBy 29 = .ok (.iload 4, 2) := by decide +kernel
theorem dX12_worthBy_31 : decode cX12_worthBy 31 = .ok (.iadd, 1) := by decide +kernel
theorem dX12_worthBy_32 : decode cX12_worthBy 32 = .ok (.iload 5, 2) := by decide +kernel
theorem dX12_worthBy_34 : decode cX12_worthBy 34 = .ok (.invokestatic 321, 3) := by decide +kernel
theorem dX12_worthBy_37 : decode cX12_worthBy 37 = .ok (.iaload, 1) := by decide +kernel
theorem dX12_worthBy_38 : decode cX12_worthBy 38 = .ok (.ireturn, 1) := by decide +kernel
set_option maxHeartbeats 4000000 in
set_option maxRecDepth 100000 in
theorem sX12_worthBy (l : Launch) (dC : Nat → ClassId) (dI : Nat → Nat → Nat) (h0 : Nat) (mi : Nat → Int32) (mr : Nat → Nat) (km : Nat → ClassId) (fm_worth : Nat → Int32) (fm_trust : Nat → Int32) (fm_letter : Nat → Int32) (fm_reportPlace : Nat → Int32) (fm_reportKind : Nat → Int32) (fm_struck : Nat → Int32) (fm_reportMonth : Nat → Int32) (fm_reportDay : Nat → Int32) (fm_reportKnown : Nat → Int32) (fm_deedMonth : Nat → Int32) (fm_deedDay : Nat → Int32) (fm_deedLong : Nat → Int32) (fm_deedKind : Nat → Int32) (fm_kept : Nat → Int32) (fm_tape : Nat → Int32) (fm_must : Nat → Int32) (fm_least : Nat → Int32) (fm_pin : Nat → Int32) (fm_ways : Nat → Int32) (fm_verdict : Nat → Int32) (fm_row : Nat → Int32) (fm_official : Nat → Int32) (fm_aside : Nat → Int32) (fm_out : Nat → Int32) (p1 : Int32) (p2 : Int32) (p3 : Int32) (p4 : Int32) (gmi_0 : gi (mi 0) 0 24) (gmi_1 : gi (mi 1) 0 5) (gmi_2 : gi (mi 2) 0 5) (gmi_4 : gi (mi 4) 0 1) (gmi_7 : gi (mi 7) 0 6) (gmi_10 : gi (mi 10) 0 24) (gmi_17 : gi (mi 17) 0 8) (gmi_23 : gi (mi 23) 0 300) (gmi_24 : gi (mi 24) 0 1) (gmi_26 : gi (mi 26) 0 1600) (gmi_29 : gi (mi 29) 0 1600) (gmi_30 : gi (mi 30) 0 1600) (gmi_33 : gi (mi 33) 0 1) (gmi_37 : gi (mi 37) 0 1) (gmi_41 : gi (mi 41) 0 24) (gmi_50 : gi (mi 50) 0 1) (gmi_51 : gi (mi 51) 0 1) (gmi_56 : gi (mi 56) 0 80) (gp1 : gi p1 0 23) (gp2 : gi p2 0 23) (gp3 : gi p3 (-1) 10) (gp4 : gi p4 0 1) : Met l yX12_worthBy (.code yX12_worthBy cX12_worthBy 6 (some .int) :: wsGB) ({ frames := 1, cells := 0, slots := 0, locals := 23 }) (va_Pc [.ref h0, .int p1, .int p2, .int p3, .int p4] (fun U => va_P (dC, dI) vwCl (MWn h0 mr km (mi 0) (mi 1) (mi 2) (mi 3) (mi 4) (mi 5) (mi 6) (mi 7) (mi 10) (mi 17) (mi 23) (mi 24) (mi 26) (mi 27) (mi 28) (mi 29) (mi 30) (mi 31) (mi 32) (mi 33) (mi 37) (mi 41) (mi 42) (mi 43) (mi 44) (mi 45) (mi 47) (mi 48) (mi 49) (mi 50) (mi 51) (mi 54) (mi 56) fm_trust fm_letter fm_reportPlace fm_reportKind fm_struck fm_reportMonth fm_reportDay fm_reportKnown fm_deedMonth fm_deedDay fm_deedLong fm_deedKind fm_kept fm_tape fm_must fm_least fm_pin fm_ways fm_verdict fm_row fm_official fm_aside fm_worth fm_out) U.heap ∧ va_K (dC, dI) vwCl (MT km) U)) (va_Qi (fun (r : Int32) (u : Unit) => gi r (-2147483648) 2147483647) (fun _ _ => True) (fun _ => False)) 0 0 (fun _ => False) := by
  refine Met.ofW (cc := cX12_worthBy) (maxL := 6) (ret := (some .int)) (by decide) rfl ?_
  intro p e s m args below meth c s₁ B hml hv
  obtain ⟨rfl, hP, hK⟩ := hv
  have hx := B.exec
  have hb := B.bytes
  have hr := B.returns
  have hts := atoms_spec (ws := (.code yX12_worthBy cX12_worthBy 6 (some .int) :: wsGB)) B.pre
  have hown : s.vm.findClass RX12 = some m.cls := findClass_of_methodNamed B.named
  have hlocks := B.notSynchronized
  have hS : va_S (fun _ => False) s.heap s.heap [] := va_S.rf
  have hl := lv_entry ([.ref h0, .int p1, .int p2, .int p3, .int p4]) (n := 6) (Nat.le_of_ble_eq_true rfl)
  rw [lg_entry_eq]
  generalize (lg_sl ([.ref h0, .int p1, .int p2, .int p3, .int p4]) ++ List.replicate (6 - (lg_sl ([.ref h0, .int p1, .int p2, .int p3, .int p4])).length) Slot.unset).toArray = ls at hl ⊢
  have hl : lv_has ls 6 [(0, .ref h0), (1, .int p1), (2, .int p2), (3, .int p3), (4, .int p4)] := hl
  refine lv_aload_n hx hb dX12_worthBy_0 rfl (lv_at hl 0 rfl) ?_
  refine lv_iload_n hx hb dX12_worthBy_1 rfl (lv_at hl 3 rfl) ?_
  refine lv_iload hx hb dX12_worthBy_2 (lv_at hl 4 rfl) ?_
  refine va_calli (va_runV (As := [.int p3, .int p4]) (rest := []) ⟨hx, hb, hml, hown, hts⟩ (sX12_runBehind l dC dI h0 mi mr km fm_trust fm_letter fm_reportPlace fm_reportKind fm_struck fm_reportMonth fm_reportDay fm_reportKnown fm_deedMonth fm_deedDay fm_deedLong fm_deedKind fm_kept fm_tape fm_must fm_least fm_pin fm_ways fm_verdict fm_row fm_official fm_aside fm_worth fm_out p3 p4 gmi_0 gmi_1 gmi_2 gmi_4 gmi_7 gmi_10 gmi_17 gmi_23 gmi_24 gmi_26 gmi_29 gmi_30 gmi_33 gmi_37 gmi_41 gmi_50 gmi_51 gmi_56 gp3 gp4) (cwV 2 hts (gz_gV mGB_311 mGB_312 mGB_313 mGB_1 mGB_314 goodGB) rfl rfl rfl (by decide +kernel) ⟨Nat.le_of_ble_eq_true rfl, Nat.le_of_ble_eq_true rfl⟩) ⟨bl_R, mw_recv hK hP, fun U hU hW => ⟨rfl, by rw [hU]; exact hP, va_K.moved hW.alike hK⟩⟩ rfl rfl hl.1 rfl (lv_room (Nat.le_of_ble_eq_true rfl)) dX12_worthBy_4 ⟨Nat.zero_le _, Nat.zero_le _⟩) hS (fun q _ h => h.elim) (fun q h => h.elim) (fun r_9 u t H1 locs ht hvm hw hB hz1 hk1 hS => ?_)
  have hP := gz_keep hP hk1
  generalize H1 = H at hP hS ⊢
  have gr_9 : gi r_9 (-1) 10 := hw
  refine lv_istore (lv' := [(5, .int r_9), (0, .ref h0), (1, .int p1), (2, .int p2), (3, .int p3), (4, .int p4)]) hx hb dX12_worthBy_7 hl (by decide) rfl (fun ls hl => ?_)
  refine lv_iload hx hb dX12_worthBy_9 (lv_at hl 0 rfl) ?_
  refine lv_iconst (v := (-1)) hx hb dX12_worthBy_11 (by decide) ?_
  refine lv_icmp_ne (tgt := 21) hx hb dX12_worthBy_12 (by decide) (fun c_10 => ?_) (fun c_10 => ?_)
  · have g_11 : gi r_9 0 10 := gi_ne_lo c_10 gr_9 (gi_c (-1) (-1) (by decide)) (by decide)
    refine lv_aload_n hx hb dX12_worthBy_21 rfl (lv_at hl 1 rfl) ?_
    refine va_get (D := (dC, dI)) (ci := 12) (v := .ref (mr 22)) (C := RX12) (T := TX12) (N := 57) hx hb hts (fun w h => List.mem_cons_of_mem _ (jnGB_X12 w h)) hown hK hP 0 rfl rfl 53 (by decide) (hts _ (List.mem_cons_of_mem _ mGB_38)) (fun _ h9 => h9) rfl dX12_worthBy_22 ?_
    refine lv_iload_n hx hb dX12_worthBy_25 rfl (lv_at hl 2 rfl) ?_
    refine lv_iconst (v := 1) hx hb dX12_worthBy_26 (by decide) ?_
    refine lv_iadd hx hb dX12_worthBy_27 ?_
    refine lv_topi (fun x_12 ex_12 => ?_)
    have gx_12 : gi x_12 1 24 := gi_add ex_12 gp1 (gi_c 1 1 (by decide)) (by decide)
    refine lv_iload_n hx hb dX12_worthBy_28 rfl (lv_at hl 3 rfl) ?_
    refine lv_iload hx hb dX12_worthBy_29 (lv_at hl 5 rfl) ?_
    refine lv_iadd hx hb dX12_worthBy_31 ?_
    refine lv_topi (fun x_13 ex_13 => ?_)
    have gx_13 : gi x_13 0 24 := gi_add ex_13 gp2 gp4 (by decide)
    refine lv_iload hx hb dX12_worthBy_32 (lv_at hl 0 rfl) ?_
    have hPc := hP.sub (ws' := []) [] rfl
    have hKc := hK.sub (tys' := []) [] rfl
    refine va_calli (va_runS (As := [.int x_12, .int x_13, .int r_9]) (rest := [.ref (mr 22)]) ⟨hx, hb, hml, hown, hts⟩ (sX12_placeOf l dC dI x_12 x_13 r_9 (gi_w gx_12 (by decide)) gx_13 g_11) (cwS 3 hts (gz_gS mGB_315 mGB_316 mGB_1 mGB_317 goodGB) rfl rfl rfl (by decide +kernel) ⟨Nat.le_of_ble_eq_true rfl, Nat.le_of_ble_eq_true rfl⟩) ⟨bl_R, fun U hU hW => ⟨rfl, by rw [hU]; exact hPc, va_K.moved hW.alike hKc⟩⟩ rfl rfl hl.1 rfl (lv_room (Nat.le_of_ble_eq_true rfl)) dX12_worthBy_34 ⟨Nat.zero_le _, Nat.zero_le _⟩) hS (fun q _ h => h.elim) (fun q h => h.elim) (fun r_14 u t H1 locs ht hvm hw hB hz1 hk1 hS => ?_)
    have hP := gz_keep hP hk1
    generalize H1 = H at hP hS ⊢
    have gr_14 : gi r_14 0 6874 := hw
    refine va_iald hx hb hK hP 23 22 rfl rfl (gi_in gr_14 (by decide)) dX12_worthBy_37 ?_
    refine lv_topi (fun x_15 ex_15 => ?_)
    exact W.iret (v := x_15) hx hb hr (fun t ht hW => ⟨⟨x_15, (), rfl, (gi_any x_15), trivial⟩, hS.F ht⟩) hS.2.2 dX12_worthBy_38
  · have g_16 : gi r_9 (-1) (-1) := gi_eq c_10 (gi_c (-1) (-1) (by decide))
    refine lv_ldcw (own := RX12) (v := 100000000) hx hb hown (hts _ (List.mem_cons_of_mem _ mGB_557)) dX12_worthBy_15 ?_
    refine lv_goto (tgt := 38) hx hb dX12_worthBy_18 (by decide) ?_
    exact W.iret (v := 100000000) hx hb hr (fun t ht hW => ⟨⟨100000000, (), rfl, (gi_any 100000000), trivial⟩, hS.F ht⟩) hS.2.2 dX12_worthBy_38
theorem dX12_costOf_0 : decode cX12_costOf 0 = .ok (.iload_n 1, 1) := by decide +kernel
theorem dX12_costOf_1 : decode cX12_costOf 1 = .ok (.ifCond .ne 5, 3) := by decide +kernel
theorem dX12_costOf_4 : decode cX12_costOf 4 = .ok (.iconst 0, 1) := by decide +kernel
theorem dX12_costOf_5 : decode cX12_costOf 5 = .ok (.ireturn, 1) := by decide +kernel
theorem dX12_costOf_6 : decode cX12_costOf 6 = .ok (.iload 4, 2) := by decide +kernel
theorem dX12_costOf_8 : decode cX12_costOf 8 = .ok (.ifCond .eq 38, 3) := by decide +kernel
theorem dX12_costOf_11 : decode cX12_costOf 11 = .ok (.aload_n 0, 1) := by decide +kernel
theorem dX12_costOf_12 : decode cX12_costOf 12 = .ok (.getfield 312, 3) := by decide +kernel
theorem dX12_costOf_15 : decode cX12_costOf 15 = .ok (.ifCond .ne 12, 3) := by decide +kernel
theorem dX12_costOf_18 : decode cX12_costOf 18 = .ok (.aload_n 0, 1) := by decide +kernel
theorem dX12_costOf_19 : decode cX12_costOf 19 = .ok (.iload_n 1, 1) := by decide +kernel
theorem dX12_costOf_20 : decode cX12_costOf 20 = .ok (.iload_n 2, 1) := by decide +kernel
theorem dX12_costOf_21 : decode cX12_costOf 21 = .ok (.invokevirtual 325, 3) := by decide +kernel
theorem dX12_costOf_24 : decode cX12_costOf 24 = .ok (.ifCond .ne 9, 3) := by decide +kernel
theorem dX12_costOf_27 : decode cX12_costOf 27 = .ok (.ldc_w 468, 3) := by decide +kernel
theorem dX12_costOf_30 : decode cX12_costOf 30 = .ok (.goto 15, 3) := by decide +kernel
theorem dX12_costOf_33 : decode cX12_costOf 33 = .ok (.iload_n 2, 1) := by decide +kernel
theorem dX12_costOf_34 : decode cX12_costOf 34 = .ok (.aload_n 0, 1) := by decide +kernel
theorem dX12_costOf_35 : decode cX12_costOf 35 = .ok (.iload_n 1, 1) := by decide +kernel
theorem dX12_costOf_36 : decode cX12_costOf 36 = .ok (.invokevirtual 309, 3) := by decide +kernel
theorem dX12_costOf_39 : decode cX12_costOf 39 = .ok (.isub, 1) := by decide +kernel
theorem dX12_costOf_40 : decode cX12_costOf 40 = .ok (.iconst 1, 1) := by decide +kernel
theorem dX12_costOf_41 : decode cX12_costOf 41 = .ok (.isub, 1) := by decide +kernel
theorem dX12_costOf_42 : decode cX12_costOf 42 = .ok (.invokestatic 469, 3) := by decide +kernel
theorem dX12_costOf_45 : decode cX12_costOf 45 = .ok (.ireturn, 1) := by decide +kernel
theorem dX12_costOf_46 : decode cX12_costOf 46 = .ok (.iconst 0, 1) := by decide +kernel
theorem dX12_costOf_47 : decode cX12_costOf 47 = .ok (.istore 5, 2) := by decide +kernel
theorem dX12_costOf_49 : decode cX12_costOf 49 = .ok (.iconst 0, 1) := by decide +kernel
theorem dX12_costOf_50 : decode cX12_costOf 50 = .ok (.istore 6, 2) := by decide +kernel
theorem dX12_costOf_52 : decode cX12_costOf 52 = .ok (.iload 6, 2) := by decide +kernel
theorem dX12_costOf_54 : decode cX12_costOf 54 = .ok (.aload_n 0, 1) := by decide +kernel
theorem dX12_costOf_55 : decode cX12_costOf 55 = .ok (.getfield 141, 3) := by decide +kernel
theorem dX12_costOf_58 : decode cX12_costOf 58 = .ok (.if_icmp .ge 121, 3) := by decide +kernel
theorem dX12_costOf_61 : decode cX12_costOf 61 = .ok (.aload_n 0, 1) := by decide +kernel
theorem dX12_costOf_62 : decode cX12_costOf 62 = .ok (.getfield 26, 3) := by decide +kernel
theorem dX12_costOf_65 : decode cX12_costOf 65 = .ok (.iload 6, 2) := by decide +kernel
theorem dX12_costOf_67 : decode cX12_costOf 67 = .ok (.iaload, 1) := by decide +kernel
theorem dX12_costOf_68 : decode cX12_costOf 68 = .ok (.iload_n 1, 1) := by decide +kernel
theorem dX12_costOf_69 : decode cX12_costOf 69 = .ok (.if_icmp .ne 104, 3) := by decide +kernel
theorem dX12_costOf_72 : decode cX12_costOf 72 = .ok (.aload_n 0, 1) := by decide +kernel
theorem dX12_costOf_73 : decode cX12_costOf 73 = .ok (.iload 6, 2) := by decide +kernel
theorem dX12_costOf_75 : decode cX12_costOf 75 = .ok (.iload_n 3, 1) := by decide +kernel
theorem dX12_costOf_76 : decode cX12_costOf 76 = .ok (.invokevirtual 341, 3) := by decide +kernel
theorem dX12_costOf_79 : decode cX12_costOf 79 = .ok (.ifCond .eq 94, 3) := by decide +kernel
theorem dX12_costOf_82 : decode cX12_costOf 82 = .ok (.aload_n 0, 1) := by decide +kernel
theorem dX12_costOf_83 : decode cX12_costOf 83 = .ok (.getfield 19, 3) := by decide +kernel
theorem dX12_costOf_86 : decode cX12_costOf 86 = .ok (.iload 6, 2) := by decide +kernel
theorem dX12_costOf_88 : decode cX12_costOf 88 = .ok (.iaload, 1) := by decide +kernel
theorem dX12_costOf_89 : decode cX12_costOf 89 = .ok (.iconst 2, 1) := by decide +kernel
theorem dX12_costOf_90 : decode cX12_costOf 90 = .ok (.if_icmp .ne 6, 3) := by decide +kernel
theorem dX12_costOf_93 : decode cX12_costOf 93 = .ok (.goto 80, 3) := by decide +kernel
theorem dX12_costOf_96 : decode cX12_costOf 96 = .ok (.aload_n 0, 1) := by decide +kernel
theorem dX12_costOf_97 : decode cX12_costOf 97 = .ok (.getfield 19, 3) := by decide +kernel
theorem dX12_costOf_100 : decode cX12_costOf 100 = .ok (.iload 6, 2) := by decide +kernel
theorem dX12_costOf_102 : decode cX12_costOf 102 = .ok (.iaload, 1) := by decide +kernel
theorem dX12_costOf_103 : decode cX12_costOf 103 = .ok (.ifCond .ne 24, 3) := by decide +kernel
theorem dX12_costOf_106 : decode cX12_costOf 106 = .ok (.iload_n 2, 1) := by decide +kernel
theorem dX12_costOf_107 : decode cX12_costOf 107 = .ok (.aload_n 0, 1) := by decide +kernel
theorem dX12_costOf_108 : decode cX12_costOf 108 = .ok (.getfield 29, 3) := by decide +kernel
theorem dX12_costOf_111 : decode cX12_costOf 111 = .ok (.iload 6, 2) := by decide +kernel
theorem dX12_costOf_113 : decode cX12_costOf 113 = .ok (.iaload, 1) := by decide +kernel
theorem dX12_costOf_114 : decode cX12_costOf 114 = .ok (.iconst 1, 1) := by decide +kernel
theorem dX12_costOf_115 : decode cX12_costOf 115 = .ok (.iadd, 1) := by decide +kernel
theorem dX12_costOf_116 : decode cX12_costOf 116 = .ok (.if_icmp .ne 7, 3) := by decide +kernel
theorem dX12_costOf_119 : decode cX12_costOf 119 = .ok (.iconst 1, 1) := by decide +kernel
theorem dX12_costOf_120 : decode cX12_costOf 120 = .ok (.goto 25, 3) := by decide +kernel
theorem dX12_costOf_123 : decode cX12_costOf 123 = .ok (.iconst 0, 1) := by decide +kernel
theorem dX12_costOf_124 : decode cX12_costOf 124 = .ok (.goto 21, 3) := by decide +kernel
theorem dX12_costOf_127 : decode cX12_costOf 127 = .ok (.iload_n 2, 1) := by decide +kernel
theorem dX12_costOf_128 : decode cX12_costOf 128 = .ok (.aload_n 0, 1) := by decide +kernel
theorem dX12_costOf_129 : decode cX12_costOf 129 = .ok (.getfield 29, 3) := by decide +kernel
theorem dX12_costOf_132 : decode cX12_costOf 132 = .ok (.iload 6, 2) := by decide +kernel
theorem dX12_costOf_134 : decode cX12_costOf 134 = .ok (.iaload, 1) := by decide +kernel
theorem dX12_costOf_135 : decode cX12_costOf 135 = .ok (.iconst 1, 1) := by decide +kernel
theorem dX12_costOf_136 : decode cX12_costOf 136 = .ok (.iadd, 1) := by decide +kernel
theorem dX12_costOf_137 : decode cX12_costOf 137 = .ok (.if_icmp .le 7, 3) := by decide +kernel
theorem dX12_costOf_140 : decode cX12_costOf 140 = .ok (.iconst 1, 1) := by decide +kernel
theorem dX12_costOf_141 : decode cX12_costOf 141 = .ok (.goto 4, 3) := by decide +kernel
theorem dX12_costOf_144 : decode cX12_costOf 144 = .ok (.iconst 0, 1) := by decide +kernel
theorem dX12_costOf_145 : decode cX12_costOf 145 = .ok (.istore 7, 2) := by decide +kernel
theorem dX12_costOf_147 : decode cX12_costOf 147 = .ok (.iload 5, 2) := by decide +kernel
theorem dX12_costOf_149 : decode cX12_costOf 149 = .ok (.iload 7, 2) := by decide +kernel
theorem dX12_costOf_151 : decode cX12_costOf 151 = .ok (.ifCond .eq 7, 3) := by decide +kernel
theorem dX12_costOf_154 : decode cX12_costOf 154 = .ok (.iconst 0, 1) := by decide +kernel
theorem dX12_costOf_155 : decode cX12_costOf 155 = .ok (.goto 15, 3) := by decide +kernel
theorem dX12_costOf_158 : decode cX12_costOf 158 = .ok (.aload_n 0, 1) := by decide +kernel
theorem dX12_costOf_159 : decode cX12_costOf 159 = .ok (.getfield 7, 3) := by decide +kernel
theorem dX12_costOf_162 : decode cX12_costOf 162 = .ok (.aload_n 0, 1) := by decide +kernel
theorem dX12_costOf_163 : decode cX12_costOf 163 = .ok (.getfield 16, 3) := by decide +kernel
theorem dX12_costOf_166 : decode cX12_costOf 166 = .ok (.iload 6, 2) := by decide +kernel
theorem dX12_costOf_168 : decode cX12_costOf 168 = .ok (.iaload, 1) := by decide +kernel
theorem dX12_costOf_169 : decode cX12_costOf 169 = .ok (.iaload, 1) := by decide +kernel
theorem dX12_costOf_170 : decode cX12_costOf 170 = .ok (.iadd, 1) := by decide +kernel
theorem dX12_costOf_171 : decode cX12_costOf 171 = .ok (.istore 5, 2) := by decide +kernel
theorem dX12_costOf_173 : decode cX12_costOf 173 = .ok (.iinc 6 1, 3) := by decide +kernel
theorem dX12_costOf_176 : decode cX12_costOf 176 = .ok (.goto (-124), 3) := by decide +kernel
theorem dX12_costOf_179 : decode cX12_costOf 179 = .ok (.iload 5, 2) := by decide +kernel
theorem dX12_costOf_181 : decode cX12_costOf 181 = .ok (.ireturn, 1) := by decide +kernel
set_option maxHeartbeats 4000000 in
set_option maxRecDepth 100000 in
theorem lp_sX12_costOf {p : Program} {l : Launch} {e : Env} {R : Room} {s : State} {m : MethodId} {args : Array Value} {below : List Frame} {meth : Method} {c : Code} {Q : State → Prop} {A : Nat → Prop} {cells slots : Nat} {dC : Nat → ClassId} {dI : Nat → Nat → Nat} (h0 : Nat) (mi : Nat → Int32) (mr : Nat → Nat) (km : Nat → ClassId) (fm_must : Nat → Int32) (fm_least : Nat → Int32) (fm_pin : Nat → Int32) (fm_struck : Nat → Int32) (fm_reportKnown : Nat → Int32) (fm_reportMonth : Nat → Int32) (fm_reportKind : Nat → Int32) (fm_reportDay : Nat → Int32) (fm_reportPlace : Nat → Int32) (fm_trust : Nat → Int32) (fm_letter : Nat → Int32) (fm_deedMonth : Nat → Int32) (fm_deedDay : Nat → Int32) (fm_deedLong : Nat → Int32) (fm_deedKind : Nat → Int32) (fm_kept : Nat → Int32) (fm_tape : Nat → Int32) (fm_ways : Nat → Int32) (fm_verdict : Nat → Int32) (fm_row : Nat → Int32) (fm_official : Nat → Int32) (fm_aside : Nat → Int32) (fm_worth : Nat → Int32) (fm_out : Nat → Int32) (p1 : Int32) (p2 : Int32) (p3 : Int32) (p4 : Int32) (gmi_0 : gi (mi 0) 0 24) (gmi_1 : gi (mi 1) 0 5) (gmi_2 : gi (mi 2) 0 5) (gmi_4 : gi (mi 4) 0 1) (gmi_7 : gi (mi 7) 0 6) (gmi_10 : gi (mi 10) 0 24) (gmi_17 : gi (mi 17) 0 8) (gmi_23 : gi (mi 23) 0 300) (gmi_24 : gi (mi 24) 0 1) (gmi_26 : gi (mi 26) 0 1600) (gmi_29 : gi (mi 29) 0 1600) (gmi_30 : gi (mi 30) 0 1600) (gmi_33 : gi (mi 33) 0 1) (gmi_37 : gi (mi 37) 0 1) (gmi_41 : gi (mi 41) 0 24) (gmi_50 : gi (mi 50) 0 1) (gmi_51 : gi (mi 51) 0 1) (gmi_56 : gi (mi 56) 0 80) (gfm_struck : ga fm_struck 24 0 1) (gfm_reportKnown : ga fm_reportKnown 24 0 999) (gfm_reportMonth : ga fm_reportMonth 24 0 23) (gfm_reportDay : ga fm_reportDay 24 0 999) (gfm_reportPlace : ga fm_reportPlace 24 0 5) (gp1 : gi p1 0 24) (gp4 : gi p4 0 1) (hx : p.tables.exec = Jvm.exec) (hb : c.code = cX12_costOf) (hml : c.maxLocals = 8) (hown : s.vm.findClass RX12 = some m.cls) (hts : ∀ w ∈ ((.code yX12_costOf cX12_costOf 8 (some .int) :: wsGB) : List Cond), w.before args s = true) (hK : va_K (dC, dI) vwCl (MT km) s) (hRf : 1 ≤ R.frames) (hRl : 22 ≤ R.locals) (hRc : cells ≤ R.cells) (hRs : slots ≤ R.slots) (kr45 : ∀ (v : Int32) (H : Heap) (locs : List Loc) (ls : Array Slot), va_P (dC, dI) vwCl (MWn h0 mr km (mi 0) (mi 1) (mi 2) (mi 3) (mi 4) (mi 5) (mi 6) (mi 7) (mi 10) (mi 17) (mi 23) (mi 24) (mi 26) (mi 27) (mi 28) (mi 29) (mi 30) (mi 31) (mi 32) (mi 33) (mi 37) (mi 41) (mi 42) (mi 43) (mi 44) (mi 45) (mi 47) (mi 48) (mi 49) (mi 50) (mi 51) (mi 54) (mi 56) fm_trust fm_letter fm_reportPlace fm_reportKind fm_struck fm_reportMonth fm_reportDay fm_reportKnown fm_deedMonth fm_deedDay fm_deedLong fm_deedKind fm_kept fm_tape fm_must fm_least fm_pin fm_ways fm_verdict fm_row fm_official fm_aside fm_worth fm_out) H → va_S A s.heap H locs → lv_has ls 8 [] → W p l e R s m args below meth c H locs cells slots Q (F0 m 45 ls [.int v])) (kr5 : ∀ (v : Int32) (H : Heap) (locs : List Loc) (ls : Array Slot), gi v 0 0 → va_P (dC, dI) vwCl (MWn h0 mr km (mi 0) (mi 1) (mi 2) (mi 3) (mi 4) (mi 5) (mi 6) (mi 7) (mi 10) (mi 17) (mi 23) (mi 24) (mi 26) (mi 27) (mi 28) (mi 29) (mi 30) (mi 31) (mi 32) (mi 33) (mi 37) (mi 41) (mi 42) (mi 43) (mi 44) (mi 45) (mi 47) (mi 48) (mi 49) (mi 50) (mi 51) (mi 54) (mi 56) fm_trust fm_letter fm_reportPlace fm_reportKind fm_struck fm_reportMonth fm_reportDay fm_reportKnown fm_deedMonth fm_deedDay fm_deedLong fm_deedKind fm_kept fm_tape fm_must fm_least fm_pin fm_ways fm_verdict fm_row fm_official fm_aside fm_worth fm_out) H → va_S A s.heap H locs → lv_has ls 8 [] → W p l e R s m args below meth c H locs cells slots Q (F0 m 5 ls [.int v])) (kr181 : ∀ (v : Int32) (H : Heap) (locs : List Loc) (ls : Array Slot), va_P (dC, dI) vwCl (MWn h0 mr km (mi 0) (mi 1) (mi 2) (mi 3) (mi 4) (mi 5) (mi 6) (mi 7) (mi 10) (mi 17) (mi 23) (mi 24) (mi 26) (mi 27) (mi 28) (mi 29) (mi 30) (mi 31) (mi 32) (mi 33) (mi 37) (mi 41) (mi 42) (mi 43) (mi 44) (mi 45) (mi 47) (mi 48) (mi 49) (mi 50) (mi 51) (mi 54) (mi 56) fm_trust fm_letter fm_reportPlace fm_reportKind fm_struck fm_reportMonth fm_reportDay fm_reportKnown fm_deedMonth fm_deedDay fm_deedLong fm_deedKind fm_kept fm_tape fm_must fm_least fm_pin fm_ways fm_verdict fm_row fm_official fm_aside fm_worth fm_out) H → va_S A s.heap H locs → lv_has ls 8 [] → W p l e R s m args below meth c H locs cells slots Q (F0 m 181 ls [.int v])) : ∀ z : Nat, (∀ (v5 : Int32) (v6 : Int32) (H : Heap) (locs : List Loc) (ls : Array Slot), gi p1 1 24 → gi p4 0 0 → gi v6 0 24 → 49 + (-2) * v6.toInt < (z : Int) → va_P (dC, dI) vwCl (MWn h0 mr km (mi 0) (mi 1) (mi 2) (mi 3) (mi 4) (mi 5) (mi 6) (mi 7) (mi 10) (mi 17) (mi 23) (mi 24) (mi 26) (mi 27) (mi 28) (mi 29) (mi 30) (mi 31) (mi 32) (mi 33) (mi 37) (mi 41) (mi 42) (mi 43) (mi 44) (mi 45) (mi 47) (mi 48) (mi 49) (mi 50) (mi 51) (mi 54) (mi 56) fm_trust fm_letter fm_reportPlace fm_reportKind fm_struck fm_reportMonth fm_reportDay fm_reportKnown fm_deedMonth fm_deedDay fm_deedLong fm_deedKind fm_kept fm_tape fm_must fm_least fm_pin fm_ways fm_verdict fm_row fm_official fm_aside fm_worth fm_out) H → va_S A s.heap H locs → lv_has ls 8 [(0, .ref h0), (1, .int p1), (2, .int p2), (3, .int p3), (4, .int p4), (5, .int v5), (6, .int v6)] → W p l e R s m args below meth c H locs cells slots Q (F0 m 52 ls [])) := by
  intro z
  induction z with
  | zero =>
    intro v5 v6 H locs ls gf_p1 gf_p4 gv6 hmu hP hS hl
    exact absurd hmu (by have hv61 := gv6.1; have hv62 := gv6.2; omega)
  | succ z ih =>
      intro v5 v6 H locs ls gf_p1 gf_p4 gv6 hmu hP hS hl
      refine lv_iload hx hb dX12_costOf_52 (lv_at hl 6 rfl) ?_
      refine lv_aload_n hx hb dX12_costOf_54 rfl (lv_at hl 0 rfl) ?_
      refine va_get (D := (dC, dI)) (ci := 12) (v := .int (mi 10)) (C := RX12) (T := TX12) (N := 57) hx hb hts (fun w h => List.mem_cons_of_mem _ (jnGB_X12 w h)) hown hK hP 0 rfl rfl 10 (by decide) (hts _ (List.mem_cons_of_mem _ mGB_111)) (fun _ h9 => h9) rfl dX12_costOf_55 ?_
      refine lv_icmp_ge (tgt := 179) hx hb dX12_costOf_58 (by decide) (fun c_901 => ?_) (fun c_901 => ?_)
      · refine lv_iload hx hb dX12_costOf_179 (lv_at hl 5 rfl) ?_
        exact kr181 v5 _ _ _ hP hS (lv_sub hl [] rfl)
      · have g_902 : gi v6 0 23 := gi_lt_l (Int32.not_le.mp c_901) gv6 gmi_10 (by decide)
        have g_903 : gi (mi 10) 1 24 := gi_lt_r (Int32.not_le.mp c_901) gv6 gmi_10 (by decide)
        refine lv_aload_n hx hb dX12_costOf_61 rfl (lv_at hl 0 rfl) ?_
        refine va_get (D := (dC, dI)) (ci := 12) (v := .ref (mr 5)) (C := RX12) (T := TX12) (N := 57) hx hb hts (fun w h => List.mem_cons_of_mem _ (jnGB_X12 w h)) hown hK hP 0 rfl rfl 14 (by decide) (hts _ (List.mem_cons_of_mem _ mGB_16)) (fun _ h9 => h9) rfl dX12_costOf_62 ?_
        refine lv_iload hx hb dX12_costOf_65 (lv_at hl 6 rfl) ?_
        refine va_iald hx hb hK hP 6 5 rfl rfl (gi_in g_902 (by decide)) dX12_costOf_67 ?_
        refine lv_topi (fun x_904 ex_904 => ?_)
        have gx_904 : gi x_904 0 23 := ga_at gfm_reportMonth (gi_in g_902 (by decide)) ex_904
        refine lv_iload_n hx hb dX12_costOf_68 rfl (lv_at hl 1 rfl) ?_
        refine lv_icmp_ne (tgt := 173) hx hb dX12_costOf_69 (by decide) (fun c_905 => ?_) (fun c_905 => ?_)
        · obtain ⟨x_906, ex_906⟩ : ∃ y : Int32, y = v6 + 1 := ⟨_, rfl⟩
          have gx_906 : gi x_906 1 24 := gi_add ex_906 g_902 (gi_c 1 1 (by decide)) (by decide)
          refine lv_iinc (v := x_906) (lv' := [(6, .int x_906), (0, .ref h0), (1, .int p1), (2, .int p2), (3, .int p3), (4, .int p4), (5, .int v5)]) hx hb dX12_costOf_173 hl (k := 6) rfl (by rw [ex_906]; rfl) (by decide) rfl (fun ls hl => ?_)
          refine lv_goto (tgt := 52) hx hb dX12_costOf_176 (by decide) ?_
          exact ih v5 x_906 _ _ _ gf_p1 gf_p4 (gi_w gx_906 (by decide)) (by have av6 := gv6.1; have bv6 := gv6.2; have qgx_906 := gx_906.1; have rgx_906 := gx_906.2; have igx_906 : x_906.toInt = v6.toInt + 1 := (by have hc1 : (1 : Int32).toInt = 1 := (by decide); have h9 := gi_addI ex_906 (by have h1 := g_902.1; have h2 := (gi_c 1 1 (by decide)).1; have h3 := g_902.2; have h4 := (gi_c 1 1 (by decide)).2; omega) (by have h1 := g_902.1; have h2 := (gi_c 1 1 (by decide)).1; have h3 := g_902.2; have h4 := (gi_c 1 1 (by decide)).2; omega); rw [hc1] at h9; exact h9); have qgv6 := g_902.1; have rgv6 := g_902.2; omega) hP hS (lv_sub hl [1, 2, 3, 4, 5, 6, 0] rfl)
        · refine lv_aload_n hx hb dX12_costOf_72 rfl (lv_at hl 0 rfl) ?_
          refine lv_iload hx hb dX12_costOf_73 (lv_at hl 6 rfl) ?_
          refine lv_iload_n hx hb dX12_costOf_75 rfl (lv_at hl 3 rfl) ?_
          refine va_calli (va_runV (As := [.int v6, .int p3]) (rest := []) ⟨hx, hb, hml, hown, hts⟩ (sX12_isKnown l dC dI h0 mi mr km fm_struck fm_reportKnown fm_trust fm_letter fm_reportPlace fm_reportKind fm_reportMonth fm_reportDay fm_deedMonth fm_deedDay fm_deedLong fm_deedKind fm_kept fm_tape fm_must fm_least fm_pin fm_ways fm_verdict fm_row fm_official fm_aside fm_worth fm_out v6 p3 gmi_0 gmi_1 gmi_2 gmi_4 gmi_7 (gi_w g_903 (by decide)) gmi_17 gmi_23 gmi_24 gmi_26 gmi_29 gmi_30 gmi_33 gmi_37 gmi_41 gmi_50 gmi_51 gmi_56 gfm_struck gfm_reportKnown g_902) (cwV 2 hts (gz_gV mGB_279 mGB_280 mGB_281 mGB_1 mGB_282 goodGB) rfl rfl rfl (by decide +kernel) ⟨Nat.le_trans (Nat.le_of_ble_eq_true rfl) hRf, Nat.le_trans (Nat.le_of_ble_eq_true rfl) hRl⟩) ⟨bl_R, mw_recv hK hP, fun U hU hW => ⟨rfl, by rw [hU]; exact hP, va_K.moved hW.alike hK⟩⟩ rfl rfl hl.1 rfl (lv_room (Nat.le_of_ble_eq_true rfl)) dX12_costOf_76 ⟨hRc, hRs⟩) hS (fun q _ h => h.elim) (fun q h => h.elim) (fun r_907 u t H1 locs ht hvm hw hB hz1 hk1 hS => ?_)
          obtain ⟨hw, hE⟩ := hw
          have hP := gz_keep hP hk1
          generalize H1 = H at hP hS ⊢
          have gr_907 : gi r_907 0 1 := hw
          refine lv_if_eq (tgt := 173) hx hb dX12_costOf_79 (by decide) (fun c_908 => ?_) (fun c_908 => ?_)
          · have g_909 : gi r_907 0 0 := gi_eq c_908 (gi_c 0 0 (by decide))
            obtain ⟨x_910, ex_910⟩ : ∃ y : Int32, y = v6 + 1 := ⟨_, rfl⟩
            have gx_910 : gi x_910 1 24 := gi_add ex_910 g_902 (gi_c 1 1 (by decide)) (by decide)
            refine lv_iinc (v := x_910) (lv' := [(6, .int x_910), (0, .ref h0), (1, .int p1), (2, .int p2), (3, .int p3), (4, .int p4), (5, .int v5)]) hx hb dX12_costOf_173 hl (k := 6) rfl (by rw [ex_910]; rfl) (by decide) rfl (fun ls hl => ?_)
            refine lv_goto (tgt := 52) hx hb dX12_costOf_176 (by decide) ?_
            exact ih v5 x_910 _ _ _ gf_p1 gf_p4 (gi_w gx_910 (by decide)) (by have av6 := gv6.1; have bv6 := gv6.2; have qgx_910 := gx_910.1; have rgx_910 := gx_910.2; have igx_910 : x_910.toInt = v6.toInt + 1 := (by have hc1 : (1 : Int32).toInt = 1 := (by decide); have h9 := gi_addI ex_910 (by have h1 := g_902.1; have h2 := (gi_c 1 1 (by decide)).1; have h3 := g_902.2; have h4 := (gi_c 1 1 (by decide)).2; omega) (by have h1 := g_902.1; have h2 := (gi_c 1 1 (by decide)).1; have h3 := g_902.2; have h4 := (gi_c 1 1 (by decide)).2; omega); rw [hc1] at h9; exact h9); have qgv6 := g_902.1; have rgv6 := g_902.2; omega) hP hS (lv_sub hl [1, 2, 3, 4, 5, 6, 0] rfl)
          · have g_911 : gi r_907 1 1 := gi_ne_lo c_908 gr_907 (gi_c 0 0 (by decide)) (by decide)
            refine lv_aload_n hx hb dX12_costOf_82 rfl (lv_at hl 0 rfl) ?_
            refine va_get (D := (dC, dI)) (ci := 12) (v := .ref (mr 3)) (C := RX12) (T := TX12) (N := 57) hx hb hts (fun w h => List.mem_cons_of_mem _ (jnGB_X12 w h)) hown hK hP 0 rfl rfl 12 (by decide) (hts _ (List.mem_cons_of_mem _ mGB_13)) (fun _ h9 => h9) rfl dX12_costOf_83 ?_
            refine lv_iload hx hb dX12_costOf_86 (lv_at hl 6 rfl) ?_
            refine va_iald hx hb hK hP 4 3 rfl rfl (gi_in g_902 (by decide)) dX12_costOf_88 ?_
            refine lv_topi (fun x_912 ex_912 => ?_)
            refine lv_iconst (v := 2) hx hb dX12_costOf_89 (by decide) ?_
            refine lv_icmp_ne (tgt := 96) hx hb dX12_costOf_90 (by decide) (fun c_913 => ?_) (fun c_913 => ?_)
            · refine lv_aload_n hx hb dX12_costOf_96 rfl (lv_at hl 0 rfl) ?_
              refine va_get (D := (dC, dI)) (ci := 12) (v := .ref (mr 3)) (C := RX12) (T := TX12) (N := 57) hx hb hts (fun w h => List.mem_cons_of_mem _ (jnGB_X12 w h)) hown hK hP 0 rfl rfl 12 (by decide) (hts _ (List.mem_cons_of_mem _ mGB_13)) (fun _ h9 => h9) rfl dX12_costOf_97 ?_
              refine lv_iload hx hb dX12_costOf_100 (lv_at hl 6 rfl) ?_
              refine va_iald hx hb hK hP 4 3 rfl rfl (gi_in g_902 (by decide)) dX12_costOf_102 ?_
              refine lv_topi (fun x_914 ex_914 => ?_)
              refine lv_if_ne (tgt := 127) hx hb dX12_costOf_103 (by decide) (fun c_915 => ?_) (fun c_915 => ?_)
              · refine lv_iload_n hx hb dX12_costOf_127 rfl (lv_at hl 2 rfl) ?_
                refine lv_aload_n hx hb dX12_costOf_128 rfl (lv_at hl 0 rfl) ?_
                refine va_get (D := (dC, dI)) (ci := 12) (v := .ref (mr 6)) (C := RX12) (T := TX12) (N := 57) hx hb hts (fun w h => List.mem_cons_of_mem _ (jnGB_X12 w h)) hown hK hP 0 rfl rfl 15 (by decide) (hts _ (List.mem_cons_of_mem _ mGB_17)) (fun _ h9 => h9) rfl dX12_costOf_129 ?_
                refine lv_iload hx hb dX12_costOf_132 (lv_at hl 6 rfl) ?_
                refine va_iald hx hb hK hP 7 6 rfl rfl (gi_in g_902 (by decide)) dX12_costOf_134 ?_
                refine lv_topi (fun x_916 ex_916 => ?_)
                have gx_916 : gi x_916 0 999 := ga_at gfm_reportDay (gi_in g_902 (by decide)) ex_916
                refine lv_iconst (v := 1) hx hb dX12_costOf_135 (by decide) ?_
                refine lv_iadd hx hb dX12_costOf_136 ?_
                refine lv_topi (fun x_917 ex_917 => ?_)
                have gx_917 : gi x_917 1 1000 := gi_add ex_917 gx_916 (gi_c 1 1 (by decide)) (by decide)
                refine lv_icmp_le (tgt := 144) hx hb dX12_costOf_137 (by decide) (fun c_918 => ?_) (fun c_918 => ?_)
                · have g_919 : gi p2 (-2147483648) 1000 := gi_le_l c_918 (gi_any p2) gx_917
                  refine lv_iconst (v := 0) hx hb dX12_costOf_144 (by decide) ?_
                  refine lv_istore (lv' := [(7, .int 0), (0, .ref h0), (1, .int p1), (2, .int p2), (3, .int p3), (4, .int p4), (5, .int v5), (6, .int v6)]) hx hb dX12_costOf_145 hl (by decide) rfl (fun ls hl => ?_)
                  refine lv_iload hx hb dX12_costOf_147 (lv_at hl 6 rfl) ?_
                  refine lv_iload hx hb dX12_costOf_149 (lv_at hl 0 rfl) ?_
                  refine lv_if_eq (tgt := 158) hx hb dX12_costOf_151 (by decide) (fun c_920 => ?_) (fun c_920 => absurd (gi_is_eq (gi_c 0 0 (by decide)) (gi_c 0 0 (by decide))) c_920)
                  refine lv_aload_n hx hb dX12_costOf_158 rfl (lv_at hl 1 rfl) ?_
                  refine va_get (D := (dC, dI)) (ci := 12) (v := .ref (mr 0)) (C := RX12) (T := TX12) (N := 57) hx hb hts (fun w h => List.mem_cons_of_mem _ (jnGB_X12 w h)) hown hK hP 0 rfl rfl 8 (by decide) (hts _ (List.mem_cons_of_mem _ mGB_10)) (fun _ h9 => h9) rfl dX12_costOf_159 ?_
                  refine lv_aload_n hx hb dX12_costOf_162 rfl (lv_at hl 1 rfl) ?_
                  refine va_get (D := (dC, dI)) (ci := 12) (v := .ref (mr 2)) (C := RX12) (T := TX12) (N := 57) hx hb hts (fun w h => List.mem_cons_of_mem _ (jnGB_X12 w h)) hown hK hP 0 rfl rfl 11 (by decide) (hts _ (List.mem_cons_of_mem _ mGB_12)) (fun _ h9 => h9) rfl dX12_costOf_163 ?_
                  refine lv_iload hx hb dX12_costOf_166 (lv_at hl 7 rfl) ?_
                  refine va_iald hx hb hK hP 3 2 rfl rfl (gi_in g_902 (by decide)) dX12_costOf_168 ?_
                  refine lv_topi (fun x_921 ex_921 => ?_)
                  have gx_921 : gi x_921 0 5 := ga_at gfm_reportPlace (gi_in g_902 (by decide)) ex_921
                  refine va_iald hx hb hK hP 1 0 rfl rfl (gi_in gx_921 (by decide)) dX12_costOf_169 ?_
                  refine lv_topi (fun x_922 ex_922 => ?_)
                  refine lv_iadd hx hb dX12_costOf_170 ?_
                  refine lv_topi (fun x_923 ex_923 => ?_)
                  refine lv_istore (lv' := [(5, .int x_923), (7, .int 0), (0, .ref h0), (1, .int p1), (2, .int p2), (3, .int p3), (4, .int p4), (6, .int v6)]) hx hb dX12_costOf_171 hl (by decide) rfl (fun ls hl => ?_)
                  obtain ⟨x_924, ex_924⟩ : ∃ y : Int32, y = v6 + 1 := ⟨_, rfl⟩
                  have gx_924 : gi x_924 1 24 := gi_add ex_924 g_902 (gi_c 1 1 (by decide)) (by decide)
                  refine lv_iinc (v := x_924) (lv' := [(6, .int x_924), (5, .int x_923), (7, .int 0), (0, .ref h0), (1, .int p1), (2, .int p2), (3, .int p3), (4, .int p4)]) hx hb dX12_costOf_173 hl (k := 7) rfl (by rw [ex_924]; rfl) (by decide) rfl (fun ls hl => ?_)
                  refine lv_goto (tgt := 52) hx hb dX12_costOf_176 (by decide) ?_
                  exact ih x_923 x_924 _ _ _ gf_p1 gf_p4 (gi_w gx_924 (by decide)) (by have av6 := gv6.1; have bv6 := gv6.2; have qgx_924 := gx_924.1; have rgx_924 := gx_924.2; have igx_924 : x_924.toInt = v6.toInt + 1 := (by have hc1 : (1 : Int32).toInt = 1 := (by decide); have h9 := gi_addI ex_924 (by have h1 := g_902.1; have h2 := (gi_c 1 1 (by decide)).1; have h3 := g_902.2; have h4 := (gi_c 1 1 (by decide)).2; omega) (by have h1 := g_902.1; have h2 := (gi_c 1 1 (by decide)).1; have h3 := g_902.2; have h4 := (gi_c 1 1 (by decide)).2; omega); rw [hc1] at h9; exact h9); have qgv6 := g_902.1; have rgv6 := g_902.2; omega) hP hS (lv_sub hl [3, 4, 5, 6, 7, 1, 0] rfl)
                · have g_925 : gi p2 2 2147483647 := gi_lt_r (Int32.not_le.mp c_918) gx_917 (gi_any p2) (by decide)
                  refine lv_iconst (v := 1) hx hb dX12_costOf_140 (by decide) ?_
                  refine lv_goto (tgt := 145) hx hb dX12_costOf_141 (by decide) ?_
                  refine lv_istore (lv' := [(7, .int 1), (0, .ref h0), (1, .int p1), (2, .int p2), (3, .int p3), (4, .int p4), (5, .int v5), (6, .int v6)]) hx hb dX12_costOf_145 hl (by decide) rfl (fun ls hl => ?_)
                  refine lv_iload hx hb dX12_costOf_147 (lv_at hl 6 rfl) ?_
                  refine lv_iload hx hb dX12_costOf_149 (lv_at hl 0 rfl) ?_
                  refine lv_if_eq (tgt := 158) hx hb dX12_costOf_151 (by decide) (fun c_926 => absurd c_926 (gi_no_eq (gi_c 1 1 (by decide)) (gi_c 0 0 (by decide)) (by decide))) (fun c_926 => ?_)
                  refine lv_iconst (v := 0) hx hb dX12_costOf_154 (by decide) ?_
                  refine lv_goto (tgt := 170) hx hb dX12_costOf_155 (by decide) ?_
                  refine lv_iadd hx hb dX12_costOf_170 ?_
                  refine lv_topi (fun x_927 ex_927 => ?_)
                  refine lv_istore (lv' := [(5, .int x_927), (7, .int 1), (0, .ref h0), (1, .int p1), (2, .int p2), (3, .int p3), (4, .int p4), (6, .int v6)]) hx hb dX12_costOf_171 hl (by decide) rfl (fun ls hl => ?_)
                  obtain ⟨x_928, ex_928⟩ : ∃ y : Int32, y = v6 + 1 := ⟨_, rfl⟩
                  have gx_928 : gi x_928 1 24 := gi_add ex_928 g_902 (gi_c 1 1 (by decide)) (by decide)
                  refine lv_iinc (v := x_928) (lv' := [(6, .int x_928), (5, .int x_927), (7, .int 1), (0, .ref h0), (1, .int p1), (2, .int p2), (3, .int p3), (4, .int p4)]) hx hb dX12_costOf_173 hl (k := 7) rfl (by rw [ex_928]; rfl) (by decide) rfl (fun ls hl => ?_)
                  refine lv_goto (tgt := 52) hx hb dX12_costOf_176 (by decide) ?_
                  exact ih x_927 x_928 _ _ _ gf_p1 gf_p4 (gi_w gx_928 (by decide)) (by have av6 := gv6.1; have bv6 := gv6.2; have qgx_928 := gx_928.1; have rgx_928 := gx_928.2; have igx_928 : x_928.toInt = v6.toInt + 1 := (by have hc1 : (1 : Int32).toInt = 1 := (by decide); have h9 := gi_addI ex_928 (by have h1 := g_902.1; have h2 := (gi_c 1 1 (by decide)).1; have h3 := g_902.2; have h4 := (gi_c 1 1 (by decide)).2; omega) (by have h1 := g_902.1; have h2 := (gi_c 1 1 (by decide)).1; have h3 := g_902.2; have h4 := (gi_c 1 1 (by decide)).2; omega); rw [hc1] at h9; exact h9); have qgv6 := g_902.1; have rgv6 := g_902.2; omega) hP hS (lv_sub hl [3, 4, 5, 6, 7, 1, 0] rfl)
              · have g_929 : gi x_914 0 0 := gi_eq c_915 (gi_c 0 0 (by decide))
                refine lv_iload_n hx hb dX12_costOf_106 rfl (lv_at hl 2 rfl) ?_
                refine lv_aload_n hx hb dX12_costOf_107 rfl (lv_at hl 0 rfl) ?_
                refine va_get (D := (dC, dI)) (ci := 12) (v := .ref (mr 6)) (C := RX12) (T := TX12) (N := 57) hx hb hts (fun w h => List.mem_cons_of_mem _ (jnGB_X12 w h)) hown hK hP 0 rfl rfl 15 (by decide) (hts _ (List.mem_cons_of_mem _ mGB_17)) (fun _ h9 => h9) rfl dX12_costOf_108 ?_
                refine lv_iload hx hb dX12_costOf_111 (lv_at hl 6 rfl) ?_
                refine va_iald hx hb hK hP 7 6 rfl rfl (gi_in g_902 (by decide)) dX12_costOf_113 ?_
                refine lv_topi (fun x_930 ex_930 => ?_)
                have gx_930 : gi x_930 0 999 := ga_at gfm_reportDay (gi_in g_902 (by decide)) ex_930
                refine lv_iconst (v := 1) hx hb dX12_costOf_114 (by decide) ?_
                refine lv_iadd hx hb dX12_costOf_115 ?_
                refine lv_topi (fun x_931 ex_931 => ?_)
                have gx_931 : gi x_931 1 1000 := gi_add ex_931 gx_930 (gi_c 1 1 (by decide)) (by decide)
                refine lv_icmp_ne (tgt := 123) hx hb dX12_costOf_116 (by decide) (fun c_932 => ?_) (fun c_932 => ?_)
                · refine lv_iconst (v := 0) hx hb dX12_costOf_123 (by decide) ?_
                  refine lv_goto (tgt := 145) hx hb dX12_costOf_124 (by decide) ?_
                  refine lv_istore (lv' := [(7, .int 0), (0, .ref h0), (1, .int p1), (2, .int p2), (3, .int p3), (4, .int p4), (5, .int v5), (6, .int v6)]) hx hb dX12_costOf_145 hl (by decide) rfl (fun ls hl => ?_)
                  refine lv_iload hx hb dX12_costOf_147 (lv_at hl 6 rfl) ?_
                  refine lv_iload hx hb dX12_costOf_149 (lv_at hl 0 rfl) ?_
                  refine lv_if_eq (tgt := 158) hx hb dX12_costOf_151 (by decide) (fun c_933 => ?_) (fun c_933 => absurd (gi_is_eq (gi_c 0 0 (by decide)) (gi_c 0 0 (by decide))) c_933)
                  refine lv_aload_n hx hb dX12_costOf_158 rfl (lv_at hl 1 rfl) ?_
                  refine va_get (D := (dC, dI)) (ci := 12) (v := .ref (mr 0)) (C := RX12) (T := TX12) (N := 57) hx hb hts (fun w h => List.mem_cons_of_mem _ (jnGB_X12 w h)) hown hK hP 0 rfl rfl 8 (by decide) (hts _ (List.mem_cons_of_mem _ mGB_10)) (fun _ h9 => h9) rfl dX12_costOf_159 ?_
                  refine lv_aload_n hx hb dX12_costOf_162 rfl (lv_at hl 1 rfl) ?_
                  refine va_get (D := (dC, dI)) (ci := 12) (v := .ref (mr 2)) (C := RX12) (T := TX12) (N := 57) hx hb hts (fun w h => List.mem_cons_of_mem _ (jnGB_X12 w h)) hown hK hP 0 rfl rfl 11 (by decide) (hts _ (List.mem_cons_of_mem _ mGB_12)) (fun _ h9 => h9) rfl dX12_costOf_163 ?_
                  refine lv_iload hx hb dX12_costOf_166 (lv_at hl 7 rfl) ?_
                  refine va_iald hx hb hK hP 3 2 rfl rfl (gi_in g_902 (by decide)) dX12_costOf_168 ?_
                  refine lv_topi (fun x_934 ex_934 => ?_)
                  have gx_934 : gi x_934 0 5 := ga_at gfm_reportPlace (gi_in g_902 (by decide)) ex_934
                  refine va_iald hx hb hK hP 1 0 rfl rfl (gi_in gx_934 (by decide)) dX12_costOf_169 ?_
                  refine lv_topi (fun x_935 ex_935 => ?_)
                  refine lv_iadd hx hb dX12_costOf_170 ?_
                  refine lv_topi (fun x_936 ex_936 => ?_)
                  refine lv_istore (lv' := [(5, .int x_936), (7, .int 0), (0, .ref h0), (1, .int p1), (2, .int p2), (3, .int p3), (4, .int p4), (6, .int v6)]) hx hb dX12_costOf_171 hl (by decide) rfl (fun ls hl => ?_)
                  obtain ⟨x_937, ex_937⟩ : ∃ y : Int32, y = v6 + 1 := ⟨_, rfl⟩
                  have gx_937 : gi x_937 1 24 := gi_add ex_937 g_902 (gi_c 1 1 (by decide)) (by decide)
                  refine lv_iinc (v := x_937) (lv' := [(6, .int x_937), (5, .int x_936), (7, .int 0), (0, .ref h0), (1, .int p1), (2, .int p2), (3, .int p3), (4, .int p4)]) hx hb dX12_costOf_173 hl (k := 7) rfl (by rw [ex_937]; rfl) (by decide) rfl (fun ls hl => ?_)
                  refine lv_goto (tgt := 52) hx hb dX12_costOf_176 (by decide) ?_
                  exact ih x_936 x_937 _ _ _ gf_p1 gf_p4 (gi_w gx_937 (by decide)) (by have av6 := gv6.1; have bv6 := gv6.2; have qgx_937 := gx_937.1; have rgx_937 := gx_937.2; have igx_937 : x_937.toInt = v6.toInt + 1 := (by have hc1 : (1 : Int32).toInt = 1 := (by decide); have h9 := gi_addI ex_937 (by have h1 := g_902.1; have h2 := (gi_c 1 1 (by decide)).1; have h3 := g_902.2; have h4 := (gi_c 1 1 (by decide)).2; omega) (by have h1 := g_902.1; have h2 := (gi_c 1 1 (by decide)).1; have h3 := g_902.2; have h4 := (gi_c 1 1 (by decide)).2; omega); rw [hc1] at h9; exact h9); have qgv6 := g_902.1; have rgv6 := g_902.2; omega) hP hS (lv_sub hl [3, 4, 5, 6, 7, 1, 0] rfl)
                · have g_938 : gi p2 1 1000 := gi_eq c_932 gx_931
                  refine lv_iconst (v := 1) hx hb dX12_costOf_119 (by decide) ?_
                  refine lv_goto (tgt := 145) hx hb dX12_costOf_120 (by decide) ?_
                  refine lv_istore (lv' := [(7, .int 1), (0, .ref h0), (1, .int p1), (2, .int p2), (3, .int p3), (4, .int p4), (5, .int v5), (6, .int v6)]) hx hb dX12_costOf_145 hl (by decide) rfl (fun ls hl => ?_)
                  refine lv_iload hx hb dX12_costOf_147 (lv_at hl 6 rfl) ?_
                  refine lv_iload hx hb dX12_costOf_149 (lv_at hl 0 rfl) ?_
                  refine lv_if_eq (tgt := 158) hx hb dX12_costOf_151 (by decide) (fun c_939 => absurd c_939 (gi_no_eq (gi_c 1 1 (by decide)) (gi_c 0 0 (by decide)) (by decide))) (fun c_939 => ?_)
                  refine lv_iconst (v := 0) hx hb dX12_costOf_154 (by decide) ?_
                  refine lv_goto (tgt := 170) hx hb dX12_costOf_155 (by decide) ?_
                  refine lv_iadd hx hb dX12_costOf_170 ?_
                  refine lv_topi (fun x_940 ex_940 => ?_)
                  refine lv_istore (lv' := [(5, .int x_940), (7, .int 1), (0, .ref h0), (1, .int p1), (2, .int p2), (3, .int p3), (4, .int p4), (6, .int v6)]) hx hb dX12_costOf_171 hl (by decide) rfl (fun ls hl => ?_)
                  obtain ⟨x_941, ex_941⟩ : ∃ y : Int32, y = v6 + 1 := ⟨_, rfl⟩
                  have gx_941 : gi x_941 1 24 := gi_add ex_941 g_902 (gi_c 1 1 (by decide)) (by decide)
                  refine lv_iinc (v := x_941) (lv' := [(6, .int x_941), (5, .int x_940), (7, .int 1), (0, .ref h0), (1, .int p1), (2, .int p2), (3, .int p3), (4, .int p4)]) hx hb dX12_costOf_173 hl (k := 7) rfl (by rw [ex_941]; rfl) (by decide) rfl (fun ls hl => ?_)
                  refine lv_goto (tgt := 52) hx hb dX12_costOf_176 (by decide) ?_
                  exact ih x_940 x_941 _ _ _ gf_p1 gf_p4 (gi_w gx_941 (by decide)) (by have av6 := gv6.1; have bv6 := gv6.2; have qgx_941 := gx_941.1; have rgx_941 := gx_941.2; have igx_941 : x_941.toInt = v6.toInt + 1 := (by have hc1 : (1 : Int32).toInt = 1 := (by decide); have h9 := gi_addI ex_941 (by have h1 := g_902.1; have h2 := (gi_c 1 1 (by decide)).1; have h3 := g_902.2; have h4 := (gi_c 1 1 (by decide)).2; omega) (by have h1 := g_902.1; have h2 := (gi_c 1 1 (by decide)).1; have h3 := g_902.2; have h4 := (gi_c 1 1 (by decide)).2; omega); rw [hc1] at h9; exact h9); have qgv6 := g_902.1; have rgv6 := g_902.2; omega) hP hS (lv_sub hl [3, 4, 5, 6, 7, 1, 0] rfl)
            · have g_942 : gi x_912 2 2 := gi_eq c_913 (gi_c 2 2 (by decide))
              refine lv_goto (tgt := 173) hx hb dX12_costOf_93 (by decide) ?_
              obtain ⟨x_943, ex_943⟩ : ∃ y : Int32, y = v6 + 1 := ⟨_, rfl⟩
              have gx_943 : gi x_943 1 24 := gi_add ex_943 g_902 (gi_c 1 1 (by decide)) (by decide)
              refine lv_iinc (v := x_943) (lv' := [(6, .int x_943), (0, .ref h0), (1, .int p1), (2, .int p2), (3, .int p3), (4, .int p4), (5, .int v5)]) hx hb dX12_costOf_173 hl (k := 6) rfl (by rw [ex_943]; rfl) (by decide) rfl (fun ls hl => ?_)
              refine lv_goto (tgt := 52) hx hb dX12_costOf_176 (by decide) ?_
              exact ih v5 x_943 _ _ _ gf_p1 gf_p4 (gi_w gx_943 (by decide)) (by have av6 := gv6.1; have bv6 := gv6.2; have qgx_943 := gx_943.1; have rgx_943 := gx_943.2; have igx_943 : x_943.toInt = v6.toInt + 1 := (by have hc1 : (1 : Int32).toInt = 1 := (by decide); have h9 := gi_addI ex_943 (by have h1 := g_902.1; have h2 := (gi_c 1 1 (by decide)).1; have h3 := g_902.2; have h4 := (gi_c 1 1 (by decide)).2; omega) (by have h1 := g_902.1; have h2 := (gi_c 1 1 (by decide)).1; have h3 := g_902.2; have h4 := (gi_c 1 1 (by decide)).2; omega); rw [hc1] at h9; exact h9); have qgv6 := g_902.1; have rgv6 := g_902.2; omega) hP hS (lv_sub hl [1, 2, 3, 4, 5, 6, 0] rfl)
set_option maxHeartbeats 4000000 in
set_option maxRecDepth 100000 in
theorem sX12_costOf (l : Launch) (dC : Nat → ClassId) (dI : Nat → Nat → Nat) (h0 : Nat) (mi : Nat → Int32) (mr : Nat → Nat) (km : Nat → ClassId) (fm_must : Nat → Int32) (fm_least : Nat → Int32) (fm_pin : Nat → Int32) (fm_struck : Nat → Int32) (fm_reportKnown : Nat → Int32) (fm_reportMonth : Nat → Int32) (fm_reportKind : Nat → Int32) (fm_reportDay : Nat → Int32) (fm_reportPlace : Nat → Int32) (fm_trust : Nat → Int32) (fm_letter : Nat → Int32) (fm_deedMonth : Nat → Int32) (fm_deedDay : Nat → Int32) (fm_deedLong : Nat → Int32) (fm_deedKind : Nat → Int32) (fm_kept : Nat → Int32) (fm_tape : Nat → Int32) (fm_ways : Nat → Int32) (fm_verdict : Nat → Int32) (fm_row : Nat → Int32) (fm_official : Nat → Int32) (fm_aside : Nat → Int32) (fm_worth : Nat → Int32) (fm_out : Nat → Int32) (p1 : Int32) (p2 : Int32) (p3 : Int32) (p4 : Int32) (gmi_0 : gi (mi 0) 0 24) (gmi_1 : gi (mi 1) 0 5) (gmi_2 : gi (mi 2) 0 5) (gmi_4 : gi (mi 4) 0 1) (gmi_7 : gi (mi 7) 0 6) (gmi_10 : gi (mi 10) 0 24) (gmi_17 : gi (mi 17) 0 8) (gmi_23 : gi (mi 23) 0 300) (gmi_24 : gi (mi 24) 0 1) (gmi_26 : gi (mi 26) 0 1600) (gmi_29 : gi (mi 29) 0 1600) (gmi_30 : gi (mi 30) 0 1600) (gmi_33 : gi (mi 33) 0 1) (gmi_37 : gi (mi 37) 0 1) (gmi_41 : gi (mi 41) 0 24) (gmi_50 : gi (mi 50) 0 1) (gmi_51 : gi (mi 51) 0 1) (gmi_56 : gi (mi 56) 0 80) (gfm_struck : ga fm_struck 24 0 1) (gfm_reportKnown : ga fm_reportKnown 24 0 999) (gfm_reportMonth : ga fm_reportMonth 24 0 23) (gfm_reportDay : ga fm_reportDay 24 0 999) (gfm_reportPlace : ga fm_reportPlace 24 0 5) (gp1 : gi p1 0 24) (gp4 : gi p4 0 1) : Met l yX12_costOf (.code yX12_costOf cX12_costOf 8 (some .int) :: wsGB) ({ frames := 1, cells := 0, slots := 0, locals := 22 }) (va_Pc [.ref h0, .int p1, .int p2, .int p3, .int p4] (fun U => va_P (dC, dI) vwCl (MWn h0 mr km (mi 0) (mi 1) (mi 2) (mi 3) (mi 4) (mi 5) (mi 6) (mi 7) (mi 10) (mi 17) (mi 23) (mi 24) (mi 26) (mi 27) (mi 28) (mi 29) (mi 30) (mi 31) (mi 32) (mi 33) (mi 37) (mi 41) (mi 42) (mi 43) (mi 44) (mi 45) (mi 47) (mi 48) (mi 49) (mi 50) (mi 51) (mi 54) (mi 56) fm_trust fm_letter fm_reportPlace fm_reportKind fm_struck fm_reportMonth fm_reportDay fm_reportKnown fm_deedMonth fm_deedDay fm_deedLong fm_deedKind fm_kept fm_tape fm_must fm_least fm_pin fm_ways fm_verdict fm_row fm_official fm_aside fm_worth fm_out) U.heap ∧ va_K (dC, dI) vwCl (MT km) U)) (va_Qi (fun (r : Int32) (u : Unit) => gi r (-2147483648) 2147483647) (fun _ _ => True) (fun _ => False)) 0 0 (fun _ => False) := by
  refine Met.ofW (cc := cX12_costOf) (maxL := 8) (ret := (some .int)) (by decide) rfl ?_
  intro p e s m args below meth c s₁ B hml hv
  obtain ⟨rfl, hP, hK⟩ := hv
  have hx := B.exec
  have hb := B.bytes
  have hr := B.returns
  have hts := atoms_spec (ws := (.code yX12_costOf cX12_costOf 8 (some .int) :: wsGB)) B.pre
  have hown : s.vm.findClass RX12 = some m.cls := findClass_of_methodNamed B.named
  have hlocks := B.notSynchronized
  have hS : va_S (fun _ => False) s.heap s.heap [] := va_S.rf
  have hl := lv_entry ([.ref h0, .int p1, .int p2, .int p3, .int p4]) (n := 8) (Nat.le_of_ble_eq_true rfl)
  rw [lg_entry_eq]
  generalize (lg_sl ([.ref h0, .int p1, .int p2, .int p3, .int p4]) ++ List.replicate (8 - (lg_sl ([.ref h0, .int p1, .int p2, .int p3, .int p4])).length) Slot.unset).toArray = ls at hl ⊢
  have hl : lv_has ls 8 [(0, .ref h0), (1, .int p1), (2, .int p2), (3, .int p3), (4, .int p4)] := hl
  refine lv_iload_n hx hb dX12_costOf_0 rfl (lv_at hl 1 rfl) ?_
  refine lv_if_ne (tgt := 6) hx hb dX12_costOf_1 (by decide) (fun c_944 => ?_) (fun c_944 => ?_)
  · have g_945 : gi p1 1 24 := gi_ne_lo c_944 gp1 (gi_c 0 0 (by decide)) (by decide)
    refine lv_iload hx hb dX12_costOf_6 (lv_at hl 4 rfl) ?_
    refine lv_if_eq (tgt := 46) hx hb dX12_costOf_8 (by decide) (fun c_946 => ?_) (fun c_946 => ?_)
    · have g_947 : gi p4 0 0 := gi_eq c_946 (gi_c 0 0 (by decide))
      refine lv_iconst (v := 0) hx hb dX12_costOf_46 (by decide) ?_
      refine lv_istore (lv' := [(5, .int 0), (0, .ref h0), (1, .int p1), (2, .int p2), (3, .int p3), (4, .int p4)]) hx hb dX12_costOf_47 hl (by decide) rfl (fun ls hl => ?_)
      refine lv_iconst (v := 0) hx hb dX12_costOf_49 (by decide) ?_
      refine lv_istore (lv' := [(6, .int 0), (5, .int 0), (0, .ref h0), (1, .int p1), (2, .int p2), (3, .int p3), (4, .int p4)]) hx hb dX12_costOf_50 hl (by decide) rfl (fun ls hl => ?_)
      refine (lp_sX12_costOf h0 mi mr km fm_must fm_least fm_pin fm_struck fm_reportKnown fm_reportMonth fm_reportKind fm_reportDay fm_reportPlace fm_trust fm_letter fm_deedMonth fm_deedDay fm_deedLong fm_deedKind fm_kept fm_tape fm_ways fm_verdict fm_row fm_official fm_aside fm_worth fm_out p1 p2 p3 p4 gmi_0 gmi_1 gmi_2 gmi_4 gmi_7 gmi_10 gmi_17 gmi_23 gmi_24 gmi_26 gmi_29 gmi_30 gmi_33 gmi_37 gmi_41 gmi_50 gmi_51 gmi_56 gfm_struck gfm_reportKnown gfm_reportMonth gfm_reportDay gfm_reportPlace gp1 gp4 hx hb hml hown hts hK (Nat.le_of_ble_eq_true rfl) (Nat.le_of_ble_eq_true rfl) (Nat.zero_le _) (Nat.zero_le _) (fun v H locs ls hP hS hl => ?_) (fun v H locs ls gv hP hS hl => ?_) (fun v H locs ls hP hS hl => ?_) 62) 0 0 _ _ _ g_945 g_947 (gi_w (gi_c 0 0 (by decide)) (by decide)) (by have k0 : (0 : Int32).toInt = 0 := (by decide); omega) hP hS (lv_sub hl [2, 3, 4, 5, 6, 1, 0] rfl)
      · skip
        exact W.iret (v := v) hx hb hr (fun t ht hW => ⟨⟨v, (), rfl, (gi_any v), trivial⟩, hS.F ht⟩) hS.2.2 dX12_costOf_45
      · skip
        exact W.iret (v := v) hx hb hr (fun t ht hW => ⟨⟨v, (), rfl, (gi_any v), trivial⟩, hS.F ht⟩) hS.2.2 dX12_costOf_5
      · skip
        exact W.iret (v := v) hx hb hr (fun t ht hW => ⟨⟨v, (), rfl, (gi_any v), trivial⟩, hS.F ht⟩) hS.2.2 dX12_costOf_181
    · have g_948 : gi p4 1 1 := gi_ne_lo c_946 gp4 (gi_c 0 0 (by decide)) (by decide)
      refine lv_aload_n hx hb dX12_costOf_11 rfl (lv_at hl 0 rfl) ?_
      refine va_get (D := (dC, dI)) (ci := 12) (v := .int (mi 37)) (C := RX12) (T := TX12) (N := 57) hx hb hts (fun w h => List.mem_cons_of_mem _ (jnGB_X12 w h)) hown hK hP 0 rfl rfl 37 (by decide) (hts _ (List.mem_cons_of_mem _ mGB_270)) (fun _ h9 => h9) rfl dX12_costOf_12 ?_
      refine lv_if_ne (tgt := 27) hx hb dX12_costOf_15 (by decide) (fun c_949 => ?_) (fun c_949 => ?_)
      · have g_950 : gi (mi 37) 1 1 := gi_ne_lo c_949 gmi_37 (gi_c 0 0 (by decide)) (by decide)
        refine lv_ldcw (own := RX12) (v := 100000000) hx hb hown (hts _ (List.mem_cons_of_mem _ mGB_557)) dX12_costOf_27 ?_
        refine lv_goto (tgt := 45) hx hb dX12_costOf_30 (by decide) ?_
        exact W.iret (v := 100000000) hx hb hr (fun t ht hW => ⟨⟨100000000, (), rfl, (gi_any 100000000), trivial⟩, hS.F ht⟩) hS.2.2 dX12_costOf_45
      · have g_951 : gi (mi 37) 0 0 := gi_eq c_949 (gi_c 0 0 (by decide))
        refine lv_aload_n hx hb dX12_costOf_18 rfl (lv_at hl 0 rfl) ?_
        refine lv_iload_n hx hb dX12_costOf_19 rfl (lv_at hl 1 rfl) ?_
        refine lv_iload_n hx hb dX12_costOf_20 rfl (lv_at hl 2 rfl) ?_
        refine va_calli (va_runV (As := [.int p1, .int p2]) (rest := []) ⟨hx, hb, hml, hown, hts⟩ (sX12_isOpen l dC dI h0 mi mr km fm_must fm_least fm_pin fm_trust fm_letter fm_reportPlace fm_reportKind fm_struck fm_reportMonth fm_reportDay fm_reportKnown fm_deedMonth fm_deedDay fm_deedLong fm_deedKind fm_kept fm_tape fm_ways fm_verdict fm_row fm_official fm_aside fm_worth fm_out p1 p2 gmi_0 gmi_1 gmi_2 gmi_4 gmi_7 gmi_10 gmi_17 gmi_23 gmi_24 gmi_26 gmi_29 gmi_30 gmi_33 (gi_w g_951 (by decide)) gmi_41 gmi_50 gmi_51 gmi_56 (gi_w g_945 (by decide))) (cwV 2 hts (gz_gV mGB_303 mGB_304 mGB_305 mGB_1 mGB_306 goodGB) rfl rfl rfl (by decide +kernel) ⟨Nat.le_of_ble_eq_true rfl, Nat.le_of_ble_eq_true rfl⟩) ⟨bl_R, mw_recv hK hP, fun U hU hW => ⟨rfl, by rw [hU]; exact hP, va_K.moved hW.alike hK⟩⟩ rfl rfl hl.1 rfl (lv_room (Nat.le_of_ble_eq_true rfl)) dX12_costOf_21 ⟨Nat.zero_le _, Nat.zero_le _⟩) hS (fun q _ h => h.elim) (fun q h => h.elim) (fun r_952 u t H1 locs ht hvm hw hB hz1 hk1 hS => ?_)
        have hP := gz_keep hP hk1
        generalize H1 = H at hP hS ⊢
        have gr_952 : gi r_952 0 1 := hw
        refine lv_if_ne (tgt := 33) hx hb dX12_costOf_24 (by decide) (fun c_953 => ?_) (fun c_953 => ?_)
        · have g_954 : gi r_952 1 1 := gi_ne_lo c_953 gr_952 (gi_c 0 0 (by decide)) (by decide)
          refine lv_iload_n hx hb dX12_costOf_33 rfl (lv_at hl 2 rfl) ?_
          refine lv_aload_n hx hb dX12_costOf_34 rfl (lv_at hl 0 rfl) ?_
          refine lv_iload_n hx hb dX12_costOf_35 rfl (lv_at hl 1 rfl) ?_
          refine va_calli (va_runV (As := [.int p1]) (rest := [.int p2]) ⟨hx, hb, hml, hown, hts⟩ (sX12_earlyOf l dC dI h0 mi mr km fm_trust fm_letter fm_reportPlace fm_reportKind fm_struck fm_reportMonth fm_reportDay fm_reportKnown fm_deedMonth fm_deedDay fm_deedLong fm_deedKind fm_kept fm_tape fm_must fm_least fm_pin fm_ways fm_verdict fm_row fm_official fm_aside fm_worth fm_out p1 gmi_0 gmi_1 gmi_2 gmi_4 gmi_7 gmi_10 gmi_17 gmi_23 gmi_24 gmi_26 gmi_29 gmi_30 gmi_33 (gi_w g_951 (by decide)) gmi_41 gmi_50 gmi_51 gmi_56) (cwV 1 hts (gz_gV mGB_249 mGB_250 mGB_251 mGB_1 mGB_252 goodGB) rfl rfl rfl (by decide +kernel) ⟨Nat.le_of_ble_eq_true rfl, Nat.le_of_ble_eq_true rfl⟩) ⟨bl_R, mw_recv hK hP, fun U hU hW => ⟨rfl, by rw [hU]; exact hP, va_K.moved hW.alike hK⟩⟩ rfl rfl hl.1 rfl (lv_room (Nat.le_of_ble_eq_true rfl)) dX12_costOf_36 ⟨Nat.zero_le _, Nat.zero_le _⟩) hS (fun q _ h => h.elim) (fun q h => h.elim) (fun r_955 u t H1 locs ht hvm hw hB hz1 hk1 hS => ?_)
          obtain ⟨hw, hE⟩ := hw
          have hP := gz_keep hP hk1
          generalize H1 = H at hP hS ⊢
          refine lv_isub hx hb dX12_costOf_39 ?_
          refine lv_topi (fun x_956 ex_956 => ?_)
          refine lv_iconst (v := 1) hx hb dX12_costOf_40 (by decide) ?_
          refine lv_isub hx hb dX12_costOf_41 ?_
          refine lv_topi (fun x_957 ex_957 => ?_)
          refine va_mabs (own := RX12) hx hb (by rw [hml]; exact hl.1.symm) hown (hts _ (List.mem_cons_of_mem _ mGB_562)) (hts _ (List.mem_cons_of_mem _ mGB_547)) (hts _ (List.mem_cons_of_mem _ mGB_98)) (hts _ (List.mem_cons_of_mem _ mGB_548)) (Nat.le_of_ble_eq_true rfl) (Nat.le_of_ble_eq_true rfl) (Nat.zero_le _) (Nat.zero_le _) dX12_costOf_42 ?_
          refine lv_topi (fun x_958 ex_958 => ?_)
          exact W.iret (v := x_958) hx hb hr (fun t ht hW => ⟨⟨x_958, (), rfl, (gi_any x_958), trivial⟩, hS.F ht⟩) hS.2.2 dX12_costOf_45
        · have g_959 : gi r_952 0 0 := gi_eq c_953 (gi_c 0 0 (by decide))
          refine lv_ldcw (own := RX12) (v := 100000000) hx hb hown (hts _ (List.mem_cons_of_mem _ mGB_557)) dX12_costOf_27 ?_
          refine lv_goto (tgt := 45) hx hb dX12_costOf_30 (by decide) ?_
          exact W.iret (v := 100000000) hx hb hr (fun t ht hW => ⟨⟨100000000, (), rfl, (gi_any 100000000), trivial⟩, hS.F ht⟩) hS.2.2 dX12_costOf_45
  · have g_960 : gi p1 0 0 := gi_eq c_944 (gi_c 0 0 (by decide))
    refine lv_iconst (v := 0) hx hb dX12_costOf_4 (by decide) ?_
    exact W.iret (v := 0) hx hb hr (fun t ht hW => ⟨⟨0, (), rfl, (gi_any 0), trivial⟩, hS.F ht⟩) hS.2.2 dX12_costOf_5
