noncomputable def lsX12_span : List (Nat × Instr × Nat) := [(0, .aload_n 0, 1), (1, .iload_n 1, 1), (2, .invokevirtual 359, 3), (5, .ifCond .eq 21, 3), (8, .aload_n 0, 1), (9, .iload_n 2, 1), (10, .invokevirtual 379, 3), (13, .ifCond .eq 13, 3), (16, .iload_n 3, 1), (17, .i2l, 1), (18, .lconst 0, 1), (19, .lconst 1, 1), (20, .invokestatic 102, 3), (23, .ifCond .ne 6, 3), (26, .bipush (-2), 2), (28, .ireturn, 1), (29, .aload_n 0, 1), (30, .iload_n 1, 1), (31, .invokevirtual 362, 3), (34, .aload_n 0, 1), (35, .iload_n 2, 1), (36, .iload_n 3, 1), (37, .invokevirtual 391, 3), (40, .ireturn, 1)]
theorem dkX12_span : dkAll cX12_span lsX12_span = true := by decide +kernel
abbrev pb_sX12_span (dC : Nat → ClassId) (dI : Nat → Nat → Nat) (A9 : Nat → Prop) (h0 : Nat) (mi : Nat → Int32) (mr : Nat → Nat) (km : Nat → ClassId) (fm_must : Nat → Int32) (fm_least : Nat → Int32) (fm_pin : Nat → Int32) (fm_ways : Nat → Int32) (fm_verdict : Nat → Int32) (fm_row : Nat → Int32) (fm_struck : Nat → Int32) (fm_reportKnown : Nat → Int32) (fm_reportPlace : Nat → Int32) (fm_reportMonth : Nat → Int32) (fm_reportDay : Nat → Int32) (fm_reportKind : Nat → Int32) (fm_trust : Nat → Int32) (fm_letter : Nat → Int32) (fm_deedMonth : Nat → Int32) (fm_deedDay : Nat → Int32) (fm_deedLong : Nat → Int32) (fm_deedKind : Nat → Int32) (fm_kept : Nat → Int32) (fm_tape : Nat → Int32) (fm_official : Nat → Int32) (fm_aside : Nat → Int32) (fm_worth : Nat → Int32) (fm_out : Nat → Int32) (p1 : Int32) (p2 : Int32) (p3 : Int32) (w0_37 : Int32) (w0_41 : Int32) (z1 : Nat → Int32) (z2 : Nat → Int32) (z3 : Nat → Int32) (z4 : Nat → Int32) (z5 : Nat → Int32) (z6 : Nat → Int32) (t : State) : Prop := gi w0_37 0 1 ∧ gi w0_41 0 24 ∧ ga z6 24 0 23 ∧ va_P (dC, dI) vwCl (MWn h0 mr km (mi 0) (mi 1) (mi 2) (mi 3) (mi 4) (mi 5) (mi 6) (mi 7) (mi 10) (mi 17) (mi 23) (mi 24) (mi 26) (mi 27) (mi 28) (mi 29) (mi 30) (mi 31) (mi 32) (mi 33) w0_37 w0_41 (mi 42) (mi 43) (mi 44) (mi 45) (mi 47) (mi 48) (mi 49) (mi 50) (mi 51) (mi 54) (mi 56) fm_trust fm_letter fm_reportPlace fm_reportKind fm_struck fm_reportMonth fm_reportDay fm_reportKnown fm_deedMonth fm_deedDay fm_deedLong fm_deedKind fm_kept fm_tape z1 z2 z3 z4 z5 z6 fm_official fm_aside fm_worth fm_out) t.heap ∧ va_D A9 (MWn h0 mr km (mi 0) (mi 1) (mi 2) (mi 3) (mi 4) (mi 5) (mi 6) (mi 7) (mi 10) (mi 17) (mi 23) (mi 24) (mi 26) (mi 27) (mi 28) (mi 29) (mi 30) (mi 31) (mi 32) (mi 33) w0_37 w0_41 (mi 42) (mi 43) (mi 44) (mi 45) (mi 47) (mi 48) (mi 49) (mi 50) (mi 51) (mi 54) (mi 56) fm_trust fm_letter fm_reportPlace fm_reportKind fm_struck fm_reportMonth fm_reportDay fm_reportKnown fm_deedMonth fm_deedDay fm_deedLong fm_deedKind fm_kept fm_tape z1 z2 z3 z4 z5 z6 fm_official fm_aside fm_worth fm_out)
set_option maxHeartbeats 4000000 in
set_option maxRecDepth 100000 in
theorem sX12_span (l : Launch) (dC : Nat → ClassId) (dI : Nat → Nat → Nat) (sz : Nat) (h0 : Nat) (mi : Nat → Int32) (mr : Nat → Nat) (km : Nat → ClassId) (fm_must : Nat → Int32) (fm_least : Nat → Int32) (fm_pin : Nat → Int32) (fm_ways : Nat → Int32) (fm_verdict : Nat → Int32) (fm_row : Nat → Int32) (fm_struck : Nat → Int32) (fm_reportKnown : Nat → Int32) (fm_reportPlace : Nat → Int32) (fm_reportMonth : Nat → Int32) (fm_reportDay : Nat → Int32) (fm_reportKind : Nat → Int32) (fm_trust : Nat → Int32) (fm_letter : Nat → Int32) (fm_deedMonth : Nat → Int32) (fm_deedDay : Nat → Int32) (fm_deedLong : Nat → Int32) (fm_deedKind : Nat → Int32) (fm_kept : Nat → Int32) (fm_tape : Nat → Int32) (fm_official : Nat → Int32) (fm_aside : Nat → Int32) (fm_worth : Nat → Int32) (fm_out : Nat → Int32) (p1 : Int32) (p2 : Int32) (p3 : Int32) (gmi_0 : gi (mi 0) 0 24) (gmi_1 : gi (mi 1) 0 5) (gmi_2 : gi (mi 2) 0 5) (gmi_4 : gi (mi 4) 0 1) (gmi_7 : gi (mi 7) 0 6) (gmi_10 : gi (mi 10) 0 24) (gmi_17 : gi (mi 17) 0 8) (gmi_23 : gi (mi 23) 0 300) (gmi_24 : gi (mi 24) 0 1) (gmi_26 : gi (mi 26) 0 1600) (gmi_29 : gi (mi 29) 0 1600) (gmi_30 : gi (mi 30) 0 1600) (gmi_33 : gi (mi 33) 0 1) (gmi_37 : gi (mi 37) 0 1) (gmi_41 : gi (mi 41) 0 24) (gmi_50 : gi (mi 50) 0 1) (gmi_51 : gi (mi 51) 0 1) (gmi_56 : gi (mi 56) 0 80) (gfm_row : ga fm_row 24 0 23) (gfm_struck : ga fm_struck 24 0 1) (gfm_reportKnown : ga fm_reportKnown 24 0 999) (gfm_reportPlace : ga fm_reportPlace 24 0 5) (gfm_reportMonth : ga fm_reportMonth 24 0 23) (gfm_reportDay : ga fm_reportDay 24 0 999) : Met l yX12_span (.code yX12_span cX12_span 4 (some .int) :: wsGB) ({ frames := 6, cells := 0, slots := 0, locals := 147 }) (va_Pc [.ref h0, .int p1, .int p2, .int p3] (fun U => U.heap.size = sz ∧ va_P (dC, dI) vwCl (MWn h0 mr km (mi 0) (mi 1) (mi 2) (mi 3) (mi 4) (mi 5) (mi 6) (mi 7) (mi 10) (mi 17) (mi 23) (mi 24) (mi 26) (mi 27) (mi 28) (mi 29) (mi 30) (mi 31) (mi 32) (mi 33) (mi 37) (mi 41) (mi 42) (mi 43) (mi 44) (mi 45) (mi 47) (mi 48) (mi 49) (mi 50) (mi 51) (mi 54) (mi 56) fm_trust fm_letter fm_reportPlace fm_reportKind fm_struck fm_reportMonth fm_reportDay fm_reportKnown fm_deedMonth fm_deedDay fm_deedLong fm_deedKind fm_kept fm_tape fm_must fm_least fm_pin fm_ways fm_verdict fm_row fm_official fm_aside fm_worth fm_out) U.heap ∧ va_K (dC, dI) vwCl (MT km) U ∧ va_D (fun _ => True) (MWn h0 mr km (mi 0) (mi 1) (mi 2) (mi 3) (mi 4) (mi 5) (mi 6) (mi 7) (mi 10) (mi 17) (mi 23) (mi 24) (mi 26) (mi 27) (mi 28) (mi 29) (mi 30) (mi 31) (mi 32) (mi 33) (mi 37) (mi 41) (mi 42) (mi 43) (mi 44) (mi 45) (mi 47) (mi 48) (mi 49) (mi 50) (mi 51) (mi 54) (mi 56) fm_trust fm_letter fm_reportPlace fm_reportKind fm_struck fm_reportMonth fm_reportDay fm_reportKnown fm_deedMonth fm_deedDay fm_deedLong fm_deedKind fm_kept fm_tape fm_must fm_least fm_pin fm_ways fm_verdict fm_row fm_official fm_aside fm_worth fm_out))) (va_Qi (fun (r : Int32) (u : Unit) => gi r (-2) 720) (fun _ t => ∃ (w0_37 : Int32) (w0_41 : Int32) (z1 : Nat → Int32) (z2 : Nat → Int32) (z3 : Nat → Int32) (z4 : Nat → Int32) (z5 : Nat → Int32) (z6 : Nat → Int32), pb_sX12_span dC dI (va_A (MWn h0 mr km (mi 0) (mi 1) (mi 2) (mi 3) (mi 4) (mi 5) (mi 6) (mi 7) (mi 10) (mi 17) (mi 23) (mi 24) (mi 26) (mi 27) (mi 28) (mi 29) (mi 30) (mi 31) (mi 32) (mi 33) (mi 37) (mi 41) (mi 42) (mi 43) (mi 44) (mi 45) (mi 47) (mi 48) (mi 49) (mi 50) (mi 51) (mi 54) (mi 56) fm_trust fm_letter fm_reportPlace fm_reportKind fm_struck fm_reportMonth fm_reportDay fm_reportKnown fm_deedMonth fm_deedDay fm_deedLong fm_deedKind fm_kept fm_tape fm_must fm_least fm_pin fm_ways fm_verdict fm_row fm_official fm_aside fm_worth fm_out) sz) h0 mi mr km fm_must fm_least fm_pin fm_ways fm_verdict fm_row fm_struck fm_reportKnown fm_reportPlace fm_reportMonth fm_reportDay fm_reportKind fm_trust fm_letter fm_deedMonth fm_deedDay fm_deedLong fm_deedKind fm_kept fm_tape fm_official fm_aside fm_worth fm_out p1 p2 p3 w0_37 w0_41 z1 z2 z3 z4 z5 z6 t) (va_A (MWn h0 mr km (mi 0) (mi 1) (mi 2) (mi 3) (mi 4) (mi 5) (mi 6) (mi 7) (mi 10) (mi 17) (mi 23) (mi 24) (mi 26) (mi 27) (mi 28) (mi 29) (mi 30) (mi 31) (mi 32) (mi 33) (mi 37) (mi 41) (mi 42) (mi 43) (mi 44) (mi 45) (mi 47) (mi 48) (mi 49) (mi 50) (mi 51) (mi 54) (mi 56) fm_trust fm_letter fm_reportPlace fm_reportKind fm_struck fm_reportMonth fm_reportDay fm_reportKnown fm_deedMonth fm_deedDay fm_deedLong fm_deedKind fm_kept fm_tape fm_must fm_least fm_pin fm_ways fm_verdict fm_row fm_official fm_aside fm_worth fm_out) sz)) 0 0 (va_A (MWn h0 mr km (mi 0) (mi 1) (mi 2) (mi 3) (mi 4) (mi 5) (mi 6) (mi 7) (mi 10) (mi 17) (mi 23) (mi 24) (mi 26) (mi 27) (mi 28) (mi 29) (mi 30) (mi 31) (mi 32) (mi 33) (mi 37) (mi 41) (mi 42) (mi 43) (mi 44) (mi 45) (mi 47) (mi 48) (mi 49) (mi 50) (mi 51) (mi 54) (mi 56) fm_trust fm_letter fm_reportPlace fm_reportKind fm_struck fm_reportMonth fm_reportDay fm_reportKnown fm_deedMonth fm_deedDay fm_deedLong fm_deedKind fm_kept fm_tape fm_must fm_least fm_pin fm_ways fm_verdict fm_row fm_official fm_aside fm_worth fm_out) sz) := by
  refine Met.ofW (cc := cX12_span) (maxL := 4) (ret := (some .int)) (by decide) rfl ?_
  intro p e s m args below meth c s₁ B hml hv
  obtain ⟨rfl, hsz, hP, hK, hD0⟩ := hv
  have hx := B.exec
  have hb := B.bytes
  have hr := B.returns
  have hts := atoms_spec (ws := (.code yX12_span cX12_span 4 (some .int) :: wsGB)) B.pre
  have hown : s.vm.findClass RX12 = some m.cls := findClass_of_methodNamed B.named
  have hlocks := B.notSynchronized
  subst hsz
  have hD := hD0.self (sz := s.heap.size)
  generalize hAe : va_A (MWn h0 mr km (mi 0) (mi 1) (mi 2) (mi 3) (mi 4) (mi 5) (mi 6) (mi 7) (mi 10) (mi 17) (mi 23) (mi 24) (mi 26) (mi 27) (mi 28) (mi 29) (mi 30) (mi 31) (mi 32) (mi 33) (mi 37) (mi 41) (mi 42) (mi 43) (mi 44) (mi 45) (mi 47) (mi 48) (mi 49) (mi 50) (mi 51) (mi 54) (mi 56) fm_trust fm_letter fm_reportPlace fm_reportKind fm_struck fm_reportMonth fm_reportDay fm_reportKnown fm_deedMonth fm_deedDay fm_deedLong fm_deedKind fm_kept fm_tape fm_must fm_least fm_pin fm_ways fm_verdict fm_row fm_official fm_aside fm_worth fm_out) s.heap.size = A at hD ⊢
  have hA : ∀ q : Nat, s.heap.size ≤ q → A q := fun q h => by rw [← hAe]; exact Or.inr h
  have hS : va_S A s.heap s.heap [] := va_S.rf
  have hl := lv_entry ([.ref h0, .int p1, .int p2, .int p3]) (n := 4) (Nat.le_of_ble_eq_true rfl)
  rw [lg_entry_eq]
  generalize (lg_sl ([.ref h0, .int p1, .int p2, .int p3]) ++ List.replicate (4 - (lg_sl ([.ref h0, .int p1, .int p2, .int p3])).length) Slot.unset).toArray = ls at hl ⊢
  have hl : lv_has ls 4 [(0, .ref h0), (1, .int p1), (2, .int p2), (3, .int p3)] := hl
  refine lv_aload_n hx hb (dk_at dkX12_span 0 rfl) rfl (lv_at hl 0 rfl) ?_
  refine lv_iload_n hx hb (dk_at dkX12_span 1 rfl) rfl (lv_at hl 1 rfl) ?_
  refine va_calli (va_runV (As := [.int p1]) (rest := []) ⟨hx, hb, hml, hown, hts⟩ (sX12_isTime l dC dI h0 mi mr km fm_trust fm_letter fm_reportPlace fm_reportKind fm_struck fm_reportMonth fm_reportDay fm_reportKnown fm_deedMonth fm_deedDay fm_deedLong fm_deedKind fm_kept fm_tape fm_must fm_least fm_pin fm_ways fm_verdict fm_row fm_official fm_aside fm_worth fm_out p1 gmi_0 gmi_1 gmi_2 gmi_4 gmi_7 gmi_10 gmi_17 gmi_23 gmi_24 gmi_26 gmi_29 gmi_30 gmi_33 gmi_37 gmi_41 gmi_50 gmi_51 gmi_56) (cwV 1 hts (gz_gV mGB_256 mGB_257 mGB_258 mGB_1 mGB_259 goodGB) rfl rfl rfl (by decide +kernel) ⟨Nat.le_of_ble_eq_true rfl, Nat.le_of_ble_eq_true rfl⟩) ⟨bl_R, mw_recv hK hP, fun U hU hW => ⟨rfl, by rw [hU]; exact hP, va_K.moved hW.alike hK⟩⟩ rfl rfl hl.1 rfl (lv_room (Nat.le_of_ble_eq_true rfl)) (dk_at dkX12_span 2 rfl) ⟨Nat.zero_le _, Nat.zero_le _⟩) hS (fun q _ h => h.elim) (fun q h => h.elim) (fun r_57 u t H1 locs ht hvm hw hB hz1 hk1 hS => ?_)
  obtain ⟨hw, hE⟩ := hw
  have hP := gz_keep hP hk1
  generalize H1 = H at hP hS ⊢
  have gr_57 : gi r_57 0 1 := hw.1
  have hqr_57 := hw.2
  refine lv_if_eq (tgt := 26) hx hb (dk_at dkX12_span 3 rfl) (by decide) (fun c_58 => ?_) (fun c_58 => ?_)
  · have g_59 : gi r_57 0 0 := gi_eq c_58 (gi_c 0 0 (by decide))
    refine lv_bipush (v := (-2)) hx hb (dk_at dkX12_span 14 rfl) (by decide) ?_
    exact W.iret (v := (-2)) hx hb hr (fun t ht hW => ⟨⟨(-2), (), rfl, (gi_w (gi_c (-2) (-2) (by decide)) (by decide)), (mi 37), (mi 41), fm_must, fm_least, fm_pin, fm_ways, fm_verdict, fm_row, gmi_37, gmi_41, gfm_row, by rw [ht]; exact hP, hD⟩, hS.F ht⟩) hS.2.2 (dk_at dkX12_span 15 rfl)
  · have g_60 : gi r_57 1 1 := gi_ne_lo c_58 gr_57 (gi_c 0 0 (by decide)) (by decide)
    have g_61 : gi p1 0 999 := gi_cap (gi_any p1) (hqr_57 (gz_one g_60)) (by decide)
    refine lv_aload_n hx hb (dk_at dkX12_span 4 rfl) rfl (lv_at hl 0 rfl) ?_
    refine lv_iload_n hx hb (dk_at dkX12_span 5 rfl) rfl (lv_at hl 2 rfl) ?_
    refine va_calli (va_runV (As := [.int p2]) (rest := []) ⟨hx, hb, hml, hown, hts⟩ (sX12_isBegin l dC dI h0 mi mr km fm_trust fm_letter fm_reportPlace fm_reportKind fm_struck fm_reportMonth fm_reportDay fm_reportKnown fm_deedMonth fm_deedDay fm_deedLong fm_deedKind fm_kept fm_tape fm_must fm_least fm_pin fm_ways fm_verdict fm_row fm_official fm_aside fm_worth fm_out p2 gmi_0 gmi_1 gmi_2 gmi_4 gmi_7 gmi_10 gmi_17 gmi_23 gmi_24 gmi_26 gmi_29 gmi_30 gmi_33 gmi_37 gmi_41 gmi_50 gmi_51 gmi_56) (cwV 1 hts (gz_gV mGB_354 mGB_355 mGB_356 mGB_1 mGB_357 goodGB) rfl rfl rfl (by decide +kernel) ⟨Nat.le_of_ble_eq_true rfl, Nat.le_of_ble_eq_true rfl⟩) ⟨bl_R, mw_recv hK hP, fun U hU hW => ⟨rfl, by rw [hU]; exact hP, va_K.moved hW.alike hK⟩⟩ rfl rfl hl.1 rfl (lv_room (Nat.le_of_ble_eq_true rfl)) (dk_at dkX12_span 6 rfl) ⟨Nat.zero_le _, Nat.zero_le _⟩) hS (fun q _ h => h.elim) (fun q h => h.elim) (fun r_62 u t H1 locs ht hvm hw hB hz1 hk1 hS => ?_)
    have hP := gz_keep hP hk1
    generalize H1 = H at hP hS ⊢
    have gr_62 : gi r_62 0 1 := hw.1
    have hqr_62 := hw.2
    refine lv_if_eq (tgt := 26) hx hb (dk_at dkX12_span 7 rfl) (by decide) (fun c_63 => ?_) (fun c_63 => ?_)
    · have g_64 : gi r_62 0 0 := gi_eq c_63 (gi_c 0 0 (by decide))
      refine lv_bipush (v := (-2)) hx hb (dk_at dkX12_span 14 rfl) (by decide) ?_
      exact W.iret (v := (-2)) hx hb hr (fun t ht hW => ⟨⟨(-2), (), rfl, (gi_w (gi_c (-2) (-2) (by decide)) (by decide)), (mi 37), (mi 41), fm_must, fm_least, fm_pin, fm_ways, fm_verdict, fm_row, gmi_37, gmi_41, gfm_row, by rw [ht]; exact hP, hD⟩, hS.F ht⟩) hS.2.2 (dk_at dkX12_span 15 rfl)
    · have g_65 : gi r_62 1 1 := gi_ne_lo c_63 gr_62 (gi_c 0 0 (by decide)) (by decide)
      have g_66 : gi p2 0 24 := gi_cap (gi_any p2) (hqr_62 (gz_one g_65)) (by decide)
      refine lv_iload_n hx hb (dk_at dkX12_span 8 rfl) rfl (lv_at hl 3 rfl) ?_
      refine lv_i2l (v := (p3).toInt64) hx hb (dk_at dkX12_span 9 rfl) rfl ?_
      refine lv_topl (fun l_67 el_67 => ?_)
      refine lv_lconst (v := 0) hx hb (dk_at dkX12_span 10 rfl) (by decide) ?_
      refine lv_lconst (v := 1) hx hb (dk_at dkX12_span 11 rfl) (by decide) ?_
      have hPc := hP.sub (ws' := []) [] rfl
      have hKc := hK.sub (tys' := []) [] rfl
      refine va_calli (va_runS (As := [.long l_67, .long 0, .long 1]) (rest := []) ⟨hx, hb, hml, hown, hts⟩ (sX12_in l dC dI l_67 0 1) (cwS 3 hts (gz_gS mGB_47 mGB_48 mGB_1 mGB_49 goodGB) rfl rfl rfl (by decide +kernel) ⟨Nat.le_of_ble_eq_true rfl, Nat.le_of_ble_eq_true rfl⟩) ⟨bl_R, fun U hU hW => ⟨rfl, by rw [hU]; exact hPc, va_K.moved hW.alike hKc⟩⟩ rfl rfl hl.1 rfl (lv_room (Nat.le_of_ble_eq_true rfl)) (dk_at dkX12_span 12 rfl) ⟨Nat.zero_le _, Nat.zero_le _⟩) hS (fun q _ h => h.elim) (fun q h => h.elim) (fun r_68 u t H1 locs ht hvm hw hB hz1 hk1 hS => ?_)
      obtain ⟨hw, hE⟩ := hw
      have hP := gz_keep hP hk1
      generalize H1 = H at hP hS ⊢
      have gr_68 : gi r_68 0 1 := hw.1
      have hqr_68 := hw.2
      refine lv_if_ne (tgt := 29) hx hb (dk_at dkX12_span 13 rfl) (by decide) (fun c_69 => ?_) (fun c_69 => ?_)
      · have g_70 : gi r_68 1 1 := gi_ne_lo c_69 gr_68 (gi_c 0 0 (by decide)) (by decide)
        have g_71 : gi p3 0 1 := gi_cap (gi_any p3) (gz_inr (hqr_68.1 (gz_one g_70)) el_67 (A := 0) (B := 1) (by decide) (by decide)) (by decide)
        refine lv_aload_n hx hb (dk_at dkX12_span 16 rfl) rfl (lv_at hl 0 rfl) ?_
        refine lv_iload_n hx hb (dk_at dkX12_span 17 rfl) rfl (lv_at hl 1 rfl) ?_
        have hFc := gz_fullF hD hS hA
        refine va_callv (va_runV (As := [.int p1]) (rest := []) ⟨hx, hb, hml, hown, hts⟩ (sX12_judgesAll l dC dI H.size h0 mi mr km fm_must fm_least fm_pin fm_ways fm_verdict fm_row fm_struck fm_reportKnown fm_reportPlace fm_reportMonth fm_reportDay fm_reportKind fm_trust fm_letter fm_deedMonth fm_deedDay fm_deedLong fm_deedKind fm_kept fm_tape fm_official fm_aside fm_worth fm_out p1 gmi_0 gmi_1 gmi_2 gmi_4 gmi_7 gmi_10 gmi_17 gmi_23 gmi_24 gmi_26 gmi_29 gmi_30 gmi_33 gmi_37 gmi_41 gmi_50 gmi_51 gmi_56 gfm_row gfm_struck gfm_reportKnown gfm_reportPlace gfm_reportMonth gfm_reportDay) (cwV 1 hts (gz_gV mGB_261 mGB_262 mGB_263 mGB_1 mGB_264 goodGB) rfl rfl rfl (by decide +kernel) ⟨Nat.le_of_ble_eq_true rfl, Nat.le_of_ble_eq_true rfl⟩) ⟨bl_W, mw_recv hK hP, fun U hU hW => ⟨rfl, by rw [hU], by rw [hU]; exact hP, va_K.moved hW.alike hK, hD.weaken (fun _ _ _ _ => trivial)⟩⟩ rfl rfl hl.1 rfl (lv_room (Nat.le_of_ble_eq_true rfl)) (dk_at dkX12_span 18 rfl) ⟨Nat.zero_le _, Nat.zero_le _⟩) hS (fun q _ h => hFc q h) hFc (fun u t H1 locs ht hvm hw hB hz1 hk1 hS => ?_)
        obtain ⟨y_73, y_74, f_75, f_76, f_77, f_78, f_79, f_80, hB⟩ := hB
        obtain ⟨gy_73, gy_74, gf_80, hP1, hD1⟩ := hB
        rw [ht] at hP1
        have hD : va_D A (MWn h0 mr km (mi 0) (mi 1) (mi 2) (mi 3) (mi 4) (mi 5) (mi 6) (mi 7) (mi 10) (mi 17) (mi 23) (mi 24) (mi 26) (mi 27) (mi 28) (mi 29) (mi 30) (mi 31) (mi 32) (mi 33) y_73 y_74 (mi 42) (mi 43) (mi 44) (mi 45) (mi 47) (mi 48) (mi 49) (mi 50) (mi 51) (mi 54) (mi 56) fm_trust fm_letter fm_reportPlace fm_reportKind fm_struck fm_reportMonth fm_reportDay fm_reportKnown fm_deedMonth fm_deedDay fm_deedLong fm_deedKind fm_kept fm_tape f_75 f_76 f_77 f_78 f_79 f_80 fm_official fm_aside fm_worth fm_out) := gz_fullD hFc hD1
        have hP : va_P (dC, dI) vwCl (MWn h0 mr km (mi 0) (mi 1) (mi 2) (mi 3) (mi 4) (mi 5) (mi 6) (mi 7) (mi 10) (mi 17) (mi 23) (mi 24) (mi 26) (mi 27) (mi 28) (mi 29) (mi 30) (mi 31) (mi 32) (mi 33) y_73 y_74 (mi 42) (mi 43) (mi 44) (mi 45) (mi 47) (mi 48) (mi 49) (mi 50) (mi 51) (mi 54) (mi 56) fm_trust fm_letter fm_reportPlace fm_reportKind fm_struck fm_reportMonth fm_reportDay fm_reportKnown fm_deedMonth fm_deedDay fm_deedLong fm_deedKind fm_kept fm_tape f_75 f_76 f_77 f_78 f_79 f_80 fm_official fm_aside fm_worth fm_out) H1 := hP1
        generalize H1 = H at hP hS ⊢
        refine lv_aload_n hx hb (dk_at dkX12_span 19 rfl) rfl (lv_at hl 0 rfl) ?_
        refine lv_iload_n hx hb (dk_at dkX12_span 20 rfl) rfl (lv_at hl 2 rfl) ?_
        refine lv_iload_n hx hb (dk_at dkX12_span 21 rfl) rfl (lv_at hl 3 rfl) ?_
        have hFc := gz_fullF hD hS hA
        refine va_calli (va_runV (As := [.int p2, .int p3]) (rest := []) ⟨hx, hb, hml, hown, hts⟩ (sX12_spanOf l dC dI H.size h0 (upd (upd mi 37 y_73) 41 y_74) mr km f_75 f_76 f_77 f_78 fm_trust fm_letter fm_reportPlace fm_reportKind fm_struck fm_reportMonth fm_reportDay fm_reportKnown fm_deedMonth fm_deedDay fm_deedLong fm_deedKind fm_kept fm_tape f_79 f_80 fm_official fm_aside fm_worth fm_out p2 p3 gmi_0 gmi_1 gmi_2 gmi_4 gmi_7 gmi_10 gmi_17 gmi_23 gmi_24 gmi_26 gmi_29 gmi_30 gmi_33 gy_73 gy_74 gmi_50 gmi_51 gmi_56 g_66) (cwV 2 hts (gz_gV mGB_369 mGB_370 mGB_371 mGB_1 mGB_372 goodGB) rfl rfl rfl (by decide +kernel) ⟨Nat.le_of_ble_eq_true rfl, Nat.le_of_ble_eq_true rfl⟩) ⟨bl_W, mw_recv hK hP, fun U hU hW => ⟨rfl, by rw [hU], by rw [hU]; exact hP, va_K.moved hW.alike hK, hD.weaken (fun _ _ _ _ => trivial)⟩⟩ rfl rfl hl.1 rfl (lv_room (Nat.le_of_ble_eq_true rfl)) (dk_at dkX12_span 22 rfl) ⟨Nat.zero_le _, Nat.zero_le _⟩) hS (fun q _ h => hFc q h) hFc (fun r_81 u t H1 locs ht hvm hw hB hz1 hk1 hS => ?_)
        obtain ⟨f_82, f_83, hB⟩ := hB
        obtain ⟨hP1, hD1⟩ := hB
        rw [ht] at hP1
        have hD : va_D A (MWn h0 mr km (mi 0) (mi 1) (mi 2) (mi 3) (mi 4) (mi 5) (mi 6) (mi 7) (mi 10) (mi 17) (mi 23) (mi 24) (mi 26) (mi 27) (mi 28) (mi 29) (mi 30) (mi 31) (mi 32) (mi 33) y_73 y_74 (mi 42) (mi 43) (mi 44) (mi 45) (mi 47) (mi 48) (mi 49) (mi 50) (mi 51) (mi 54) (mi 56) fm_trust fm_letter fm_reportPlace fm_reportKind fm_struck fm_reportMonth fm_reportDay fm_reportKnown fm_deedMonth fm_deedDay fm_deedLong fm_deedKind fm_kept fm_tape f_75 f_76 f_82 f_83 f_79 f_80 fm_official fm_aside fm_worth fm_out) := gz_fullD hFc hD1
        have hP : va_P (dC, dI) vwCl (MWn h0 mr km (mi 0) (mi 1) (mi 2) (mi 3) (mi 4) (mi 5) (mi 6) (mi 7) (mi 10) (mi 17) (mi 23) (mi 24) (mi 26) (mi 27) (mi 28) (mi 29) (mi 30) (mi 31) (mi 32) (mi 33) y_73 y_74 (mi 42) (mi 43) (mi 44) (mi 45) (mi 47) (mi 48) (mi 49) (mi 50) (mi 51) (mi 54) (mi 56) fm_trust fm_letter fm_reportPlace fm_reportKind fm_struck fm_reportMonth fm_reportDay fm_reportKnown fm_deedMonth fm_deedDay fm_deedLong fm_deedKind fm_kept fm_tape f_75 f_76 f_82 f_83 f_79 f_80 fm_official fm_aside fm_worth fm_out) H1 := hP1
        generalize H1 = H at hP hS ⊢
        have gr_81 : gi r_81 (-2) 720 := hw
        exact W.iret (v := r_81) hx hb hr (fun t ht hW => ⟨⟨r_81, (), rfl, gr_81, y_73, y_74, f_75, f_76, f_82, f_83, f_79, f_80, gy_73, gy_74, gf_80, by rw [ht]; exact hP, hD⟩, hS.F ht⟩) hS.2.2 (dk_at dkX12_span 23 rfl)
      · have g_84 : gi r_68 0 0 := gi_eq c_69 (gi_c 0 0 (by decide))
        refine lv_bipush (v := (-2)) hx hb (dk_at dkX12_span 14 rfl) (by decide) ?_
        exact W.iret (v := (-2)) hx hb hr (fun t ht hW => ⟨⟨(-2), (), rfl, (gi_w (gi_c (-2) (-2) (by decide)) (by decide)), (mi 37), (mi 41), fm_must, fm_least, fm_pin, fm_ways, fm_verdict, fm_row, gmi_37, gmi_41, gfm_row, by rw [ht]; exact hP, hD⟩, hS.F ht⟩) hS.2.2 (dk_at dkX12_span 15 rfl)
noncomputable def lsX12_sure : List (Nat × Instr × Nat) := [(0, .aload_n 0, 1), (1, .iload_n 1, 1), (2, .invokevirtual 359, 3), (5, .ifCond .ne 6, 3), (8, .bipush (-2), 2), (10, .ireturn, 1), (11, .aload_n 0, 1), (12, .iload_n 1, 1), (13, .invokevirtual 362, 3), (16, .iconst 0, 1), (17, .istore_n 2, 1), (18, .iconst 0, 1), (19, .istore_n 3, 1), (20, .iload_n 3, 1), (21, .aload_n 0, 1), (22, .getfield 117, 3), (25, .if_icmp .gt 34, 3), (28, .iload_n 2, 1), (29, .aload_n 0, 1), (30, .iload_n 3, 1), (31, .iconst 0, 1), (32, .invokevirtual 391, 3), (35, .aload_n 0, 1), (36, .iload_n 3, 1), (37, .iconst 1, 1), (38, .invokevirtual 391, 3), (41, .if_icmp .ne 9, 3), (44, .iconst 1, 1), (45, .iload_n 3, 1), (46, .ishl, 1), (47, .goto 4, 3), (50, .iconst 0, 1), (51, .ior, 1), (52, .istore_n 2, 1), (53, .iinc 3 1, 3), (56, .goto (-36), 3), (59, .iload_n 2, 1), (60, .ireturn, 1)]
theorem dkX12_sure : dkAll cX12_sure lsX12_sure = true := by decide +kernel
set_option maxHeartbeats 4000000 in
set_option maxRecDepth 100000 in
theorem lp_sX12_sure {p : Program} {l : Launch} {e : Env} {R : Room} {s : State} {m : MethodId} {args : Array Value} {below : List Frame} {meth : Method} {c : Code} {Q : State → Prop} {A : Nat → Prop} {cells slots : Nat} {dC : Nat → ClassId} {dI : Nat → Nat → Nat} (h0 : Nat) (mi : Nat → Int32) (mr : Nat → Nat) (km : Nat → ClassId) (fm_must : Nat → Int32) (fm_least : Nat → Int32) (fm_pin : Nat → Int32) (fm_ways : Nat → Int32) (fm_verdict : Nat → Int32) (fm_row : Nat → Int32) (fm_struck : Nat → Int32) (fm_reportKnown : Nat → Int32) (fm_reportPlace : Nat → Int32) (fm_reportMonth : Nat → Int32) (fm_reportDay : Nat → Int32) (fm_reportKind : Nat → Int32) (fm_trust : Nat → Int32) (fm_letter : Nat → Int32) (fm_deedMonth : Nat → Int32) (fm_deedDay : Nat → Int32) (fm_deedLong : Nat → Int32) (fm_deedKind : Nat → Int32) (fm_kept : Nat → Int32) (fm_tape : Nat → Int32) (fm_official : Nat → Int32) (fm_aside : Nat → Int32) (fm_worth : Nat → Int32) (fm_out : Nat → Int32) (p1 : Int32) (gmi_0 : gi (mi 0) 0 24) (gmi_1 : gi (mi 1) 0 5) (gmi_2 : gi (mi 2) 0 5) (gmi_4 : gi (mi 4) 0 1) (gmi_7 : gi (mi 7) 0 6) (gmi_10 : gi (mi 10) 0 24) (gmi_17 : gi (mi 17) 0 8) (gmi_23 : gi (mi 23) 0 300) (gmi_24 : gi (mi 24) 0 1) (gmi_26 : gi (mi 26) 0 1600) (gmi_29 : gi (mi 29) 0 1600) (gmi_30 : gi (mi 30) 0 1600) (gmi_33 : gi (mi 33) 0 1) (gmi_37 : gi (mi 37) 0 1) (gmi_41 : gi (mi 41) 0 24) (gmi_50 : gi (mi 50) 0 1) (gmi_51 : gi (mi 51) 0 1) (gmi_56 : gi (mi 56) 0 80) (gfm_row : ga fm_row 24 0 23) (gfm_struck : ga fm_struck 24 0 1) (gfm_reportKnown : ga fm_reportKnown 24 0 999) (gfm_reportPlace : ga fm_reportPlace 24 0 5) (gfm_reportMonth : ga fm_reportMonth 24 0 23) (gfm_reportDay : ga fm_reportDay 24 0 999) (hx : p.tables.exec = Jvm.exec) (hb : c.code = cX12_sure) (hml : c.maxLocals = 4) (hown : s.vm.findClass RX12 = some m.cls) (hts : ∀ w ∈ ((.code yX12_sure cX12_sure 4 (some .int) :: wsGB) : List Cond), w.before args s = true) (hK : va_K (dC, dI) vwCl (MT km) s) (hA : ∀ q : Nat, s.heap.size ≤ q → A q) (hRf : 6 ≤ R.frames) (hRl : 147 ≤ R.locals) (hRc : cells ≤ R.cells) (hRs : slots ≤ R.slots) (kr10 : ∀ (v : Int32) (w0_37 : Int32) (w0_41 : Int32) (z1 : Nat → Int32) (z2 : Nat → Int32) (z3 : Nat → Int32) (z4 : Nat → Int32) (z5 : Nat → Int32) (z6 : Nat → Int32) (H : Heap) (locs : List Loc) (ls : Array Slot), gi v (-2) (-2) → gi w0_37 0 1 → gi w0_41 0 24 → ga z6 24 0 23 → va_P (dC, dI) vwCl (MWn h0 mr km (mi 0) (mi 1) (mi 2) (mi 3) (mi 4) (mi 5) (mi 6) (mi 7) (mi 10) (mi 17) (mi 23) (mi 24) (mi 26) (mi 27) (mi 28) (mi 29) (mi 30) (mi 31) (mi 32) (mi 33) w0_37 w0_41 (mi 42) (mi 43) (mi 44) (mi 45) (mi 47) (mi 48) (mi 49) (mi 50) (mi 51) (mi 54) (mi 56) fm_trust fm_letter fm_reportPlace fm_reportKind fm_struck fm_reportMonth fm_reportDay fm_reportKnown fm_deedMonth fm_deedDay fm_deedLong fm_deedKind fm_kept fm_tape z1 z2 z3 z4 z5 z6 fm_official fm_aside fm_worth fm_out) H → va_D A (MWn h0 mr km (mi 0) (mi 1) (mi 2) (mi 3) (mi 4) (mi 5) (mi 6) (mi 7) (mi 10) (mi 17) (mi 23) (mi 24) (mi 26) (mi 27) (mi 28) (mi 29) (mi 30) (mi 31) (mi 32) (mi 33) w0_37 w0_41 (mi 42) (mi 43) (mi 44) (mi 45) (mi 47) (mi 48) (mi 49) (mi 50) (mi 51) (mi 54) (mi 56) fm_trust fm_letter fm_reportPlace fm_reportKind fm_struck fm_reportMonth fm_reportDay fm_reportKnown fm_deedMonth fm_deedDay fm_deedLong fm_deedKind fm_kept fm_tape z1 z2 z3 z4 z5 z6 fm_official fm_aside fm_worth fm_out) → va_S A s.heap H locs → lv_has ls 4 [] → W p l e R s m args below meth c H locs cells slots Q (F0 m 10 ls [.int v])) (kr60 : ∀ (v : Int32) (w0_37 : Int32) (w0_41 : Int32) (z1 : Nat → Int32) (z2 : Nat → Int32) (z3 : Nat → Int32) (z4 : Nat → Int32) (z5 : Nat → Int32) (z6 : Nat → Int32) (H : Heap) (locs : List Loc) (ls : Array Slot), gi w0_37 0 1 → gi w0_41 0 24 → ga z6 24 0 23 → va_P (dC, dI) vwCl (MWn h0 mr km (mi 0) (mi 1) (mi 2) (mi 3) (mi 4) (mi 5) (mi 6) (mi 7) (mi 10) (mi 17) (mi 23) (mi 24) (mi 26) (mi 27) (mi 28) (mi 29) (mi 30) (mi 31) (mi 32) (mi 33) w0_37 w0_41 (mi 42) (mi 43) (mi 44) (mi 45) (mi 47) (mi 48) (mi 49) (mi 50) (mi 51) (mi 54) (mi 56) fm_trust fm_letter fm_reportPlace fm_reportKind fm_struck fm_reportMonth fm_reportDay fm_reportKnown fm_deedMonth fm_deedDay fm_deedLong fm_deedKind fm_kept fm_tape z1 z2 z3 z4 z5 z6 fm_official fm_aside fm_worth fm_out) H → va_D A (MWn h0 mr km (mi 0) (mi 1) (mi 2) (mi 3) (mi 4) (mi 5) (mi 6) (mi 7) (mi 10) (mi 17) (mi 23) (mi 24) (mi 26) (mi 27) (mi 28) (mi 29) (mi 30) (mi 31) (mi 32) (mi 33) w0_37 w0_41 (mi 42) (mi 43) (mi 44) (mi 45) (mi 47) (mi 48) (mi 49) (mi 50) (mi 51) (mi 54) (mi 56) fm_trust fm_letter fm_reportPlace fm_reportKind fm_struck fm_reportMonth fm_reportDay fm_reportKnown fm_deedMonth fm_deedDay fm_deedLong fm_deedKind fm_kept fm_tape z1 z2 z3 z4 z5 z6 fm_official fm_aside fm_worth fm_out) → va_S A s.heap H locs → lv_has ls 4 [] → W p l e R s m args below meth c H locs cells slots Q (F0 m 60 ls [.int v])) : ∀ z : Nat, (∀ (v2 : Int32) (v3 : Int32) (w0_37 : Int32) (w0_41 : Int32) (z1 : Nat → Int32) (z2 : Nat → Int32) (z3 : Nat → Int32) (z4 : Nat → Int32) (z5 : Nat → Int32) (z6 : Nat → Int32) (H : Heap) (locs : List Loc) (ls : Array Slot), gi p1 0 999 → gi v3 0 25 → gi w0_37 0 1 → gi w0_41 0 24 → ga z6 24 0 23 → 51 + (-2) * v3.toInt < (z : Int) → va_P (dC, dI) vwCl (MWn h0 mr km (mi 0) (mi 1) (mi 2) (mi 3) (mi 4) (mi 5) (mi 6) (mi 7) (mi 10) (mi 17) (mi 23) (mi 24) (mi 26) (mi 27) (mi 28) (mi 29) (mi 30) (mi 31) (mi 32) (mi 33) w0_37 w0_41 (mi 42) (mi 43) (mi 44) (mi 45) (mi 47) (mi 48) (mi 49) (mi 50) (mi 51) (mi 54) (mi 56) fm_trust fm_letter fm_reportPlace fm_reportKind fm_struck fm_reportMonth fm_reportDay fm_reportKnown fm_deedMonth fm_deedDay fm_deedLong fm_deedKind fm_kept fm_tape z1 z2 z3 z4 z5 z6 fm_official fm_aside fm_worth fm_out) H → va_D A (MWn h0 mr km (mi 0) (mi 1) (mi 2) (mi 3) (mi 4) (mi 5) (mi 6) (mi 7) (mi 10) (mi 17) (mi 23) (mi 24) (mi 26) (mi 27) (mi 28) (mi 29) (mi 30) (mi 31) (mi 32) (mi 33) w0_37 w0_41 (mi 42) (mi 43) (mi 44) (mi 45) (mi 47) (mi 48) (mi 49) (mi 50) (mi 51) (mi 54) (mi 56) fm_trust fm_letter fm_reportPlace fm_reportKind fm_struck fm_reportMonth fm_reportDay fm_reportKnown fm_deedMonth fm_deedDay fm_deedLong fm_deedKind fm_kept fm_tape z1 z2 z3 z4 z5 z6 fm_official fm_aside fm_worth fm_out) → va_S A s.heap H locs → lv_has ls 4 [(0, .ref h0), (1, .int p1), (2, .int v2), (3, .int v3)] → W p l e R s m args below meth c H locs cells slots Q (F0 m 20 ls [])) := by
  intro z
  induction z with
  | zero =>
    intro v2 v3 w0_37 w0_41 z1 z2 z3 z4 z5 z6 H locs ls gf_p1 gv3 gw0_37 gw0_41 gz6 hmu hP hD hS hl
    exact absurd hmu (by have hv31 := gv3.1; have hv32 := gv3.2; omega)
  | succ z ih =>
      intro v2 v3 w0_37 w0_41 z1 z2 z3 z4 z5 z6 H locs ls gf_p1 gv3 gw0_37 gw0_41 gz6 hmu hP hD hS hl
      refine lv_iload_n hx hb (dk_at dkX12_sure 13 rfl) rfl (lv_at hl 3 rfl) ?_
      refine lv_aload_n hx hb (dk_at dkX12_sure 14 rfl) rfl (lv_at hl 0 rfl) ?_
      refine va_get (D := (dC, dI)) (ci := 12) (v := .int (mi 0)) (C := RX12) (T := TX12) (N := 57) hx hb hts (fun w h => List.mem_cons_of_mem _ (jnGB_X12 w h)) hown hK hP 0 rfl rfl 0 (by decide) (hts _ (List.mem_cons_of_mem _ mGB_103)) (fun _ h9 => h9) rfl (dk_at dkX12_sure 15 rfl) ?_
      refine lv_icmp_gt (tgt := 59) hx hb (dk_at dkX12_sure 16 rfl) (by decide) (fun c_463 => ?_) (fun c_463 => ?_)
      · have g_464 : gi v3 1 25 := gi_lt_r c_463 gmi_0 gv3 (by decide)
        refine lv_iload_n hx hb (dk_at dkX12_sure 36 rfl) rfl (lv_at hl 2 rfl) ?_
        exact kr60 v2 w0_37 w0_41 z1 z2 z3 z4 z5 z6 _ _ _ gw0_37 gw0_41 gz6 hP hD hS (lv_sub hl [] rfl)
      · have g_465 : gi v3 0 24 := gi_le_l (Int32.not_lt.mp c_463) gv3 gmi_0
        refine lv_iload_n hx hb (dk_at dkX12_sure 17 rfl) rfl (lv_at hl 2 rfl) ?_
        refine lv_aload_n hx hb (dk_at dkX12_sure 18 rfl) rfl (lv_at hl 0 rfl) ?_
        refine lv_iload_n hx hb (dk_at dkX12_sure 19 rfl) rfl (lv_at hl 3 rfl) ?_
        refine lv_iconst (v := 0) hx hb (dk_at dkX12_sure 20 rfl) (by decide) ?_
        have hFc := gz_fullF hD hS hA
        refine va_calli (va_runV (As := [.int v3, .int 0]) (rest := [.int v2]) ⟨hx, hb, hml, hown, hts⟩ (sX12_spanOf l dC dI H.size h0 (upd (upd mi 37 w0_37) 41 w0_41) mr km z1 z2 z3 z4 fm_trust fm_letter fm_reportPlace fm_reportKind fm_struck fm_reportMonth fm_reportDay fm_reportKnown fm_deedMonth fm_deedDay fm_deedLong fm_deedKind fm_kept fm_tape z5 z6 fm_official fm_aside fm_worth fm_out v3 0 gmi_0 gmi_1 gmi_2 gmi_4 gmi_7 gmi_10 gmi_17 gmi_23 gmi_24 gmi_26 gmi_29 gmi_30 gmi_33 gw0_37 gw0_41 gmi_50 gmi_51 gmi_56 g_465) (cwV 2 hts (gz_gV mGB_369 mGB_370 mGB_371 mGB_1 mGB_372 goodGB) rfl rfl rfl (by decide +kernel) ⟨Nat.le_trans (Nat.le_of_ble_eq_true rfl) hRf, Nat.le_trans (Nat.le_of_ble_eq_true rfl) hRl⟩) ⟨bl_W, mw_recv hK hP, fun U hU hW => ⟨rfl, by rw [hU], by rw [hU]; exact hP, va_K.moved hW.alike hK, hD.weaken (fun _ _ _ _ => trivial)⟩⟩ rfl rfl hl.1 rfl (lv_room (Nat.le_of_ble_eq_true rfl)) (dk_at dkX12_sure 21 rfl) ⟨hRc, hRs⟩) hS (fun q _ h => hFc q h) hFc (fun r_466 u t H1 locs ht hvm hw hB hz1 hk1 hS => ?_)
        obtain ⟨f_467, f_468, hB⟩ := hB
        obtain ⟨hP1, hD1⟩ := hB
        rw [ht] at hP1
        have hD : va_D A (MWn h0 mr km (mi 0) (mi 1) (mi 2) (mi 3) (mi 4) (mi 5) (mi 6) (mi 7) (mi 10) (mi 17) (mi 23) (mi 24) (mi 26) (mi 27) (mi 28) (mi 29) (mi 30) (mi 31) (mi 32) (mi 33) w0_37 w0_41 (mi 42) (mi 43) (mi 44) (mi 45) (mi 47) (mi 48) (mi 49) (mi 50) (mi 51) (mi 54) (mi 56) fm_trust fm_letter fm_reportPlace fm_reportKind fm_struck fm_reportMonth fm_reportDay fm_reportKnown fm_deedMonth fm_deedDay fm_deedLong fm_deedKind fm_kept fm_tape z1 z2 f_467 f_468 z5 z6 fm_official fm_aside fm_worth fm_out) := gz_fullD hFc hD1
        have hP : va_P (dC, dI) vwCl (MWn h0 mr km (mi 0) (mi 1) (mi 2) (mi 3) (mi 4) (mi 5) (mi 6) (mi 7) (mi 10) (mi 17) (mi 23) (mi 24) (mi 26) (mi 27) (mi 28) (mi 29) (mi 30) (mi 31) (mi 32) (mi 33) w0_37 w0_41 (mi 42) (mi 43) (mi 44) (mi 45) (mi 47) (mi 48) (mi 49) (mi 50) (mi 51) (mi 54) (mi 56) fm_trust fm_letter fm_reportPlace fm_reportKind fm_struck fm_reportMonth fm_reportDay fm_reportKnown fm_deedMonth fm_deedDay fm_deedLong fm_deedKind fm_kept fm_tape z1 z2 f_467 f_468 z5 z6 fm_official fm_aside fm_worth fm_out) H1 := hP1
        generalize H1 = H at hP hS ⊢
        have gr_466 : gi r_466 (-2) 720 := hw
        refine lv_aload_n hx hb (dk_at dkX12_sure 22 rfl) rfl (lv_at hl 0 rfl) ?_
        refine lv_iload_n hx hb (dk_at dkX12_sure 23 rfl) rfl (lv_at hl 3 rfl) ?_
        refine lv_iconst (v := 1) hx hb (dk_at dkX12_sure 24 rfl) (by decide) ?_
        have hFc := gz_fullF hD hS hA
        refine va_calli (va_runV (As := [.int v3, .int 1]) (rest := [.int r_466, .int v2]) ⟨hx, hb, hml, hown, hts⟩ (sX12_spanOf l dC dI H.size h0 (upd (upd mi 37 w0_37) 41 w0_41) mr km z1 z2 f_467 f_468 fm_trust fm_letter fm_reportPlace fm_reportKind fm_struck fm_reportMonth fm_reportDay fm_reportKnown fm_deedMonth fm_deedDay fm_deedLong fm_deedKind fm_kept fm_tape z5 z6 fm_official fm_aside fm_worth fm_out v3 1 gmi_0 gmi_1 gmi_2 gmi_4 gmi_7 gmi_10 gmi_17 gmi_23 gmi_24 gmi_26 gmi_29 gmi_30 gmi_33 gw0_37 gw0_41 gmi_50 gmi_51 gmi_56 g_465) (cwV 2 hts (gz_gV mGB_369 mGB_370 mGB_371 mGB_1 mGB_372 goodGB) rfl rfl rfl (by decide +kernel) ⟨Nat.le_trans (Nat.le_of_ble_eq_true rfl) hRf, Nat.le_trans (Nat.le_of_ble_eq_true rfl) hRl⟩) ⟨bl_W, mw_recv hK hP, fun U hU hW => ⟨rfl, by rw [hU], by rw [hU]; exact hP, va_K.moved hW.alike hK, hD.weaken (fun _ _ _ _ => trivial)⟩⟩ rfl rfl hl.1 rfl (lv_room (Nat.le_of_ble_eq_true rfl)) (dk_at dkX12_sure 25 rfl) ⟨hRc, hRs⟩) hS (fun q _ h => hFc q h) hFc (fun r_469 u t H1 locs ht hvm hw hB hz1 hk1 hS => ?_)
        obtain ⟨f_470, f_471, hB⟩ := hB
        obtain ⟨hP1, hD1⟩ := hB
        rw [ht] at hP1
        have hD : va_D A (MWn h0 mr km (mi 0) (mi 1) (mi 2) (mi 3) (mi 4) (mi 5) (mi 6) (mi 7) (mi 10) (mi 17) (mi 23) (mi 24) (mi 26) (mi 27) (mi 28) (mi 29) (mi 30) (mi 31) (mi 32) (mi 33) w0_37 w0_41 (mi 42) (mi 43) (mi 44) (mi 45) (mi 47) (mi 48) (mi 49) (mi 50) (mi 51) (mi 54) (mi 56) fm_trust fm_letter fm_reportPlace fm_reportKind fm_struck fm_reportMonth fm_reportDay fm_reportKnown fm_deedMonth fm_deedDay fm_deedLong fm_deedKind fm_kept fm_tape z1 z2 f_470 f_471 z5 z6 fm_official fm_aside fm_worth fm_out) := gz_fullD hFc hD1
        have hP : va_P (dC, dI) vwCl (MWn h0 mr km (mi 0) (mi 1) (mi 2) (mi 3) (mi 4) (mi 5) (mi 6) (mi 7) (mi 10) (mi 17) (mi 23) (mi 24) (mi 26) (mi 27) (mi 28) (mi 29) (mi 30) (mi 31) (mi 32) (mi 33) w0_37 w0_41 (mi 42) (mi 43) (mi 44) (mi 45) (mi 47) (mi 48) (mi 49) (mi 50) (mi 51) (mi 54) (mi 56) fm_trust fm_letter fm_reportPlace fm_reportKind fm_struck fm_reportMonth fm_reportDay fm_reportKnown fm_deedMonth fm_deedDay fm_deedLong fm_deedKind fm_kept fm_tape z1 z2 f_470 f_471 z5 z6 fm_official fm_aside fm_worth fm_out) H1 := hP1
        generalize H1 = H at hP hS ⊢
        have gr_469 : gi r_469 (-2) 720 := hw
        refine lv_icmp_ne (tgt := 50) hx hb (dk_at dkX12_sure 26 rfl) (by decide) (fun c_472 => ?_) (fun c_472 => ?_)
        · refine lv_iconst (v := 0) hx hb (dk_at dkX12_sure 31 rfl) (by decide) ?_
          refine lv_ior hx hb (dk_at dkX12_sure 32 rfl) ?_
          refine lv_topi (fun x_473 ex_473 => ?_)
          refine lv_istore_n (lv' := [(2, .int x_473), (0, .ref h0), (1, .int p1), (3, .int v3)]) hx hb (dk_at dkX12_sure 33 rfl) rfl hl (by decide) rfl (fun ls hl => ?_)
          obtain ⟨x_474, ex_474⟩ : ∃ y : Int32, y = v3 + 1 := ⟨_, rfl⟩
          have gx_474 : gi x_474 1 25 := gi_add ex_474 g_465 (gi_c 1 1 (by decide)) (by decide)
          refine lv_iinc (v := x_474) (lv' := [(3, .int x_474), (2, .int x_473), (0, .ref h0), (1, .int p1)]) hx hb (dk_at dkX12_sure 34 rfl) hl (k := 3) rfl (by rw [ex_474]; rfl) (by decide) rfl (fun ls hl => ?_)
          refine lv_goto (tgt := 20) hx hb (dk_at dkX12_sure 35 rfl) (by decide) ?_
          exact ih x_473 x_474 w0_37 w0_41 z1 z2 f_470 f_471 z5 z6 _ _ _ gf_p1 (gi_w gx_474 (by decide)) gw0_37 gw0_41 gz6 (by have av3 := gv3.1; have bv3 := gv3.2; have qgx_474 := gx_474.1; have rgx_474 := gx_474.2; have igx_474 : x_474.toInt = v3.toInt + 1 := (by have hc1 : (1 : Int32).toInt = 1 := (by decide); have h9 := gi_addI ex_474 (by have h1 := g_465.1; have h2 := (gi_c 1 1 (by decide)).1; have h3 := g_465.2; have h4 := (gi_c 1 1 (by decide)).2; omega) (by have h1 := g_465.1; have h2 := (gi_c 1 1 (by decide)).1; have h3 := g_465.2; have h4 := (gi_c 1 1 (by decide)).2; omega); rw [hc1] at h9; exact h9); have qgv3 := g_465.1; have rgv3 := g_465.2; omega) hP hD hS (lv_sub hl [2, 3, 1, 0] rfl)
        · refine lv_iconst (v := 1) hx hb (dk_at dkX12_sure 27 rfl) (by decide) ?_
          refine lv_iload_n hx hb (dk_at dkX12_sure 28 rfl) rfl (lv_at hl 3 rfl) ?_
          refine lv_ishl hx hb (dk_at dkX12_sure 29 rfl) ?_
          refine lv_topi (fun x_475 ex_475 => ?_)
          refine lv_goto (tgt := 51) hx hb (dk_at dkX12_sure 30 rfl) (by decide) ?_
          refine lv_ior hx hb (dk_at dkX12_sure 32 rfl) ?_
          refine lv_topi (fun x_476 ex_476 => ?_)
          refine lv_istore_n (lv' := [(2, .int x_476), (0, .ref h0), (1, .int p1), (3, .int v3)]) hx hb (dk_at dkX12_sure 33 rfl) rfl hl (by decide) rfl (fun ls hl => ?_)
          obtain ⟨x_477, ex_477⟩ : ∃ y : Int32, y = v3 + 1 := ⟨_, rfl⟩
          have gx_477 : gi x_477 1 25 := gi_add ex_477 g_465 (gi_c 1 1 (by decide)) (by decide)
          refine lv_iinc (v := x_477) (lv' := [(3, .int x_477), (2, .int x_476), (0, .ref h0), (1, .int p1)]) hx hb (dk_at dkX12_sure 34 rfl) hl (k := 3) rfl (by rw [ex_477]; rfl) (by decide) rfl (fun ls hl => ?_)
          refine lv_goto (tgt := 20) hx hb (dk_at dkX12_sure 35 rfl) (by decide) ?_
          exact ih x_476 x_477 w0_37 w0_41 z1 z2 f_470 f_471 z5 z6 _ _ _ gf_p1 (gi_w gx_477 (by decide)) gw0_37 gw0_41 gz6 (by have av3 := gv3.1; have bv3 := gv3.2; have qgx_477 := gx_477.1; have rgx_477 := gx_477.2; have igx_477 : x_477.toInt = v3.toInt + 1 := (by have hc1 : (1 : Int32).toInt = 1 := (by decide); have h9 := gi_addI ex_477 (by have h1 := g_465.1; have h2 := (gi_c 1 1 (by decide)).1; have h3 := g_465.2; have h4 := (gi_c 1 1 (by decide)).2; omega) (by have h1 := g_465.1; have h2 := (gi_c 1 1 (by decide)).1; have h3 := g_465.2; have h4 := (gi_c 1 1 (by decide)).2; omega); rw [hc1] at h9; exact h9); have qgv3 := g_465.1; have rgv3 := g_465.2; omega) hP hD hS (lv_sub hl [2, 3, 1, 0] rfl)
abbrev pb_sX12_sure (dC : Nat → ClassId) (dI : Nat → Nat → Nat) (A9 : Nat → Prop) (h0 : Nat) (mi : Nat → Int32) (mr : Nat → Nat) (km : Nat → ClassId) (fm_must : Nat → Int32) (fm_least : Nat → Int32) (fm_pin : Nat → Int32) (fm_ways : Nat → Int32) (fm_verdict : Nat → Int32) (fm_row : Nat → Int32) (fm_struck : Nat → Int32) (fm_reportKnown : Nat → Int32) (fm_reportPlace : Nat → Int32) (fm_reportMonth : Nat → Int32) (fm_reportDay : Nat → Int32) (fm_reportKind : Nat → Int32) (fm_trust : Nat → Int32) (fm_letter : Nat → Int32) (fm_deedMonth : Nat → Int32) (fm_deedDay : Nat → Int32) (fm_deedLong : Nat → Int32) (fm_deedKind : Nat → Int32) (fm_kept : Nat → Int32) (fm_tape : Nat → Int32) (fm_official : Nat → Int32) (fm_aside : Nat → Int32) (fm_worth : Nat → Int32) (fm_out : Nat → Int32) (p1 : Int32) (w0_37 : Int32) (w0_41 : Int32) (z1 : Nat → Int32) (z2 : Nat → Int32) (z3 : Nat → Int32) (z4 : Nat → Int32) (z5 : Nat → Int32) (z6 : Nat → Int32) (t : State) : Prop := gi w0_37 0 1 ∧ gi w0_41 0 24 ∧ ga z6 24 0 23 ∧ va_P (dC, dI) vwCl (MWn h0 mr km (mi 0) (mi 1) (mi 2) (mi 3) (mi 4) (mi 5) (mi 6) (mi 7) (mi 10) (mi 17) (mi 23) (mi 24) (mi 26) (mi 27) (mi 28) (mi 29) (mi 30) (mi 31) (mi 32) (mi 33) w0_37 w0_41 (mi 42) (mi 43) (mi 44) (mi 45) (mi 47) (mi 48) (mi 49) (mi 50) (mi 51) (mi 54) (mi 56) fm_trust fm_letter fm_reportPlace fm_reportKind fm_struck fm_reportMonth fm_reportDay fm_reportKnown fm_deedMonth fm_deedDay fm_deedLong fm_deedKind fm_kept fm_tape z1 z2 z3 z4 z5 z6 fm_official fm_aside fm_worth fm_out) t.heap ∧ va_D A9 (MWn h0 mr km (mi 0) (mi 1) (mi 2) (mi 3) (mi 4) (mi 5) (mi 6) (mi 7) (mi 10) (mi 17) (mi 23) (mi 24) (mi 26) (mi 27) (mi 28) (mi 29) (mi 30) (mi 31) (mi 32) (mi 33) w0_37 w0_41 (mi 42) (mi 43) (mi 44) (mi 45) (mi 47) (mi 48) (mi 49) (mi 50) (mi 51) (mi 54) (mi 56) fm_trust fm_letter fm_reportPlace fm_reportKind fm_struck fm_reportMonth fm_reportDay fm_reportKnown fm_deedMonth fm_deedDay fm_deedLong fm_deedKind fm_kept fm_tape z1 z2 z3 z4 z5 z6 fm_official fm_aside fm_worth fm_out)
set_option maxHeartbeats 4000000 in
set_option maxRecDepth 100000 in
theorem sX12_sure (l : Launch) (dC : Nat → ClassId) (dI : Nat → Nat → Nat) (sz : Nat) (h0 : Nat) (mi : Nat → Int32) (mr : Nat → Nat) (km : Nat → ClassId) (fm_must : Nat → Int32) (fm_least : Nat → Int32) (fm_pin : Nat → Int32) (fm_ways : Nat → Int32) (fm_verdict : Nat → Int32) (fm_row : Nat → Int32) (fm_struck : Nat → Int32) (fm_reportKnown : Nat → Int32) (fm_reportPlace : Nat → Int32) (fm_reportMonth : Nat → Int32) (fm_reportDay : Nat → Int32) (fm_reportKind : Nat → Int32) (fm_trust : Nat → Int32) (fm_letter : Nat → Int32) (fm_deedMonth : Nat → Int32) (fm_deedDay : Nat → Int32) (fm_deedLong : Nat → Int32) (fm_deedKind : Nat → Int32) (fm_kept : Nat → Int32) (fm_tape : Nat → Int32) (fm_official : Nat → Int32) (fm_aside : Nat → Int32) (fm_worth : Nat → Int32) (fm_out : Nat → Int32) (p1 : Int32) (gmi_0 : gi (mi 0) 0 24) (gmi_1 : gi (mi 1) 0 5) (gmi_2 : gi (mi 2) 0 5) (gmi_4 : gi (mi 4) 0 1) (gmi_7 : gi (mi 7) 0 6) (gmi_10 : gi (mi 10) 0 24) (gmi_17 : gi (mi 17) 0 8) (gmi_23 : gi (mi 23) 0 300) (gmi_24 : gi (mi 24) 0 1) (gmi_26 : gi (mi 26) 0 1600) (gmi_29 : gi (mi 29) 0 1600) (gmi_30 : gi (mi 30) 0 1600) (gmi_33 : gi (mi 33) 0 1) (gmi_37 : gi (mi 37) 0 1) (gmi_41 : gi (mi 41) 0 24) (gmi_50 : gi (mi 50) 0 1) (gmi_51 : gi (mi 51) 0 1) (gmi_56 : gi (mi 56) 0 80) (gfm_row : ga fm_row 24 0 23) (gfm_struck : ga fm_struck 24 0 1) (gfm_reportKnown : ga fm_reportKnown 24 0 999) (gfm_reportPlace : ga fm_reportPlace 24 0 5) (gfm_reportMonth : ga fm_reportMonth 24 0 23) (gfm_reportDay : ga fm_reportDay 24 0 999) : Met l yX12_sure (.code yX12_sure cX12_sure 4 (some .int) :: wsGB) ({ frames := 6, cells := 0, slots := 0, locals := 147 }) (va_Pc [.ref h0, .int p1] (fun U => U.heap.size = sz ∧ va_P (dC, dI) vwCl (MWn h0 mr km (mi 0) (mi 1) (mi 2) (mi 3) (mi 4) (mi 5) (mi 6) (mi 7) (mi 10) (mi 17) (mi 23) (mi 24) (mi 26) (mi 27) (mi 28) (mi 29) (mi 30) (mi 31) (mi 32) (mi 33) (mi 37) (mi 41) (mi 42) (mi 43) (mi 44) (mi 45) (mi 47) (mi 48) (mi 49) (mi 50) (mi 51) (mi 54) (mi 56) fm_trust fm_letter fm_reportPlace fm_reportKind fm_struck fm_reportMonth fm_reportDay fm_reportKnown fm_deedMonth fm_deedDay fm_deedLong fm_deedKind fm_kept fm_tape fm_must fm_least fm_pin fm_ways fm_verdict fm_row fm_official fm_aside fm_worth fm_out) U.heap ∧ va_K (dC, dI) vwCl (MT km) U ∧ va_D (fun _ => True) (MWn h0 mr km (mi 0) (mi 1) (mi 2) (mi 3) (mi 4) (mi 5) (mi 6) (mi 7) (mi 10) (mi 17) (mi 23) (mi 24) (mi 26) (mi 27) (mi 28) (mi 29) (mi 30) (mi 31) (mi 32) (mi 33) (mi 37) (mi 41) (mi 42) (mi 43) (mi 44) (mi 45) (mi 47) (mi 48) (mi 49) (mi 50) (mi 51) (mi 54) (mi 56) fm_trust fm_letter fm_reportPlace fm_reportKind fm_struck fm_reportMonth fm_reportDay fm_reportKnown fm_deedMonth fm_deedDay fm_deedLong fm_deedKind fm_kept fm_tape fm_must fm_least fm_pin fm_ways fm_verdict fm_row fm_official fm_aside fm_worth fm_out))) (va_Qi (fun (r : Int32) (u : Unit) => gi r (-2147483648) 2147483647) (fun _ t => ∃ (w0_37 : Int32) (w0_41 : Int32) (z1 : Nat → Int32) (z2 : Nat → Int32) (z3 : Nat → Int32) (z4 : Nat → Int32) (z5 : Nat → Int32) (z6 : Nat → Int32), pb_sX12_sure dC dI (va_A (MWn h0 mr km (mi 0) (mi 1) (mi 2) (mi 3) (mi 4) (mi 5) (mi 6) (mi 7) (mi 10) (mi 17) (mi 23) (mi 24) (mi 26) (mi 27) (mi 28) (mi 29) (mi 30) (mi 31) (mi 32) (mi 33) (mi 37) (mi 41) (mi 42) (mi 43) (mi 44) (mi 45) (mi 47) (mi 48) (mi 49) (mi 50) (mi 51) (mi 54) (mi 56) fm_trust fm_letter fm_reportPlace fm_reportKind fm_struck fm_reportMonth fm_reportDay fm_reportKnown fm_deedMonth fm_deedDay fm_deedLong fm_deedKind fm_kept fm_tape fm_must fm_least fm_pin fm_ways fm_verdict fm_row fm_official fm_aside fm_worth fm_out) sz) h0 mi mr km fm_must fm_least fm_pin fm_ways fm_verdict fm_row fm_struck fm_reportKnown fm_reportPlace fm_reportMonth fm_reportDay fm_reportKind fm_trust fm_letter fm_deedMonth fm_deedDay fm_deedLong fm_deedKind fm_kept fm_tape fm_official fm_aside fm_worth fm_out p1 w0_37 w0_41 z1 z2 z3 z4 z5 z6 t) (va_A (MWn h0 mr km (mi 0) (mi 1) (mi 2) (mi 3) (mi 4) (mi 5) (mi 6) (mi 7) (mi 10) (mi 17) (mi 23) (mi 24) (mi 26) (mi 27) (mi 28) (mi 29) (mi 30) (mi 31) (mi 32) (mi 33) (mi 37) (mi 41) (mi 42) (mi 43) (mi 44) (mi 45) (mi 47) (mi 48) (mi 49) (mi 50) (mi 51) (mi 54) (mi 56) fm_trust fm_letter fm_reportPlace fm_reportKind fm_struck fm_reportMonth fm_reportDay fm_reportKnown fm_deedMonth fm_deedDay fm_deedLong fm_deedKind fm_kept fm_tape fm_must fm_least fm_pin fm_ways fm_verdict fm_row fm_official fm_aside fm_worth fm_out) sz)) 0 0 (va_A (MWn h0 mr km (mi 0) (mi 1) (mi 2) (mi 3) (mi 4) (mi 5) (mi 6) (mi 7) (mi 10) (mi 17) (mi 23) (mi 24) (mi 26) (mi 27) (mi 28) (mi 29) (mi 30) (mi 31) (mi 32) (mi 33) (mi 37) (mi 41) (mi 42) (mi 43) (mi 44) (mi 45) (mi 47) (mi 48) (mi 49) (mi 50) (mi 51) (mi 54) (mi 56) fm_trust fm_letter fm_reportPlace fm_reportKind fm_struck fm_reportMonth fm_reportDay fm_reportKnown fm_deedMonth fm_deedDay fm_deedLong fm_deedKind fm_kept fm_tape fm_must fm_least fm_pin fm_ways fm_verdict fm_row fm_official fm_aside fm_worth fm_out) sz) := by
  refine Met.ofW (cc := cX12_sure) (maxL := 4) (ret := (some .int)) (by decide) rfl ?_
  intro p e s m args below meth c s₁ B hml hv
  obtain ⟨rfl, hsz, hP, hK, hD0⟩ := hv
  have hx := B.exec
  have hb := B.bytes
  have hr := B.returns
  have hts := atoms_spec (ws := (.code yX12_sure cX12_sure 4 (some .int) :: wsGB)) B.pre
  have hown : s.vm.findClass RX12 = some m.cls := findClass_of_methodNamed B.named
  have hlocks := B.notSynchronized
  subst hsz
  have hD := hD0.self (sz := s.heap.size)
  generalize hAe : va_A (MWn h0 mr km (mi 0) (mi 1) (mi 2) (mi 3) (mi 4) (mi 5) (mi 6) (mi 7) (mi 10) (mi 17) (mi 23) (mi 24) (mi 26) (mi 27) (mi 28) (mi 29) (mi 30) (mi 31) (mi 32) (mi 33) (mi 37) (mi 41) (mi 42) (mi 43) (mi 44) (mi 45) (mi 47) (mi 48) (mi 49) (mi 50) (mi 51) (mi 54) (mi 56) fm_trust fm_letter fm_reportPlace fm_reportKind fm_struck fm_reportMonth fm_reportDay fm_reportKnown fm_deedMonth fm_deedDay fm_deedLong fm_deedKind fm_kept fm_tape fm_must fm_least fm_pin fm_ways fm_verdict fm_row fm_official fm_aside fm_worth fm_out) s.heap.size = A at hD ⊢
  have hA : ∀ q : Nat, s.heap.size ≤ q → A q := fun q h => by rw [← hAe]; exact Or.inr h
  have hS : va_S A s.heap s.heap [] := va_S.rf
  have hl := lv_entry ([.ref h0, .int p1]) (n := 4) (Nat.le_of_ble_eq_true rfl)
  rw [lg_entry_eq]
  generalize (lg_sl ([.ref h0, .int p1]) ++ List.replicate (4 - (lg_sl ([.ref h0, .int p1])).length) Slot.unset).toArray = ls at hl ⊢
  have hl : lv_has ls 4 [(0, .ref h0), (1, .int p1)] := hl
  refine lv_aload_n hx hb (dk_at dkX12_sure 0 rfl) rfl (lv_at hl 0 rfl) ?_
  refine lv_iload_n hx hb (dk_at dkX12_sure 1 rfl) rfl (lv_at hl 1 rfl) ?_
  refine va_calli (va_runV (As := [.int p1]) (rest := []) ⟨hx, hb, hml, hown, hts⟩ (sX12_isTime l dC dI h0 mi mr km fm_trust fm_letter fm_reportPlace fm_reportKind fm_struck fm_reportMonth fm_reportDay fm_reportKnown fm_deedMonth fm_deedDay fm_deedLong fm_deedKind fm_kept fm_tape fm_must fm_least fm_pin fm_ways fm_verdict fm_row fm_official fm_aside fm_worth fm_out p1 gmi_0 gmi_1 gmi_2 gmi_4 gmi_7 gmi_10 gmi_17 gmi_23 gmi_24 gmi_26 gmi_29 gmi_30 gmi_33 gmi_37 gmi_41 gmi_50 gmi_51 gmi_56) (cwV 1 hts (gz_gV mGB_256 mGB_257 mGB_258 mGB_1 mGB_259 goodGB) rfl rfl rfl (by decide +kernel) ⟨Nat.le_of_ble_eq_true rfl, Nat.le_of_ble_eq_true rfl⟩) ⟨bl_R, mw_recv hK hP, fun U hU hW => ⟨rfl, by rw [hU]; exact hP, va_K.moved hW.alike hK⟩⟩ rfl rfl hl.1 rfl (lv_room (Nat.le_of_ble_eq_true rfl)) (dk_at dkX12_sure 2 rfl) ⟨Nat.zero_le _, Nat.zero_le _⟩) hS (fun q _ h => h.elim) (fun q h => h.elim) (fun r_478 u t H1 locs ht hvm hw hB hz1 hk1 hS => ?_)
  obtain ⟨hw, hE⟩ := hw
  have hP := gz_keep hP hk1
  generalize H1 = H at hP hS ⊢
  have gr_478 : gi r_478 0 1 := hw.1
  have hqr_478 := hw.2
  refine lv_if_ne (tgt := 11) hx hb (dk_at dkX12_sure 3 rfl) (by decide) (fun c_479 => ?_) (fun c_479 => ?_)
  · have g_480 : gi r_478 1 1 := gi_ne_lo c_479 gr_478 (gi_c 0 0 (by decide)) (by decide)
    have g_481 : gi p1 0 999 := gi_cap (gi_any p1) (hqr_478 (gz_one g_480)) (by decide)
    refine lv_aload_n hx hb (dk_at dkX12_sure 6 rfl) rfl (lv_at hl 0 rfl) ?_
    refine lv_iload_n hx hb (dk_at dkX12_sure 7 rfl) rfl (lv_at hl 1 rfl) ?_
    have hFc := gz_fullF hD hS hA
    refine va_callv (va_runV (As := [.int p1]) (rest := []) ⟨hx, hb, hml, hown, hts⟩ (sX12_judgesAll l dC dI H.size h0 mi mr km fm_must fm_least fm_pin fm_ways fm_verdict fm_row fm_struck fm_reportKnown fm_reportPlace fm_reportMonth fm_reportDay fm_reportKind fm_trust fm_letter fm_deedMonth fm_deedDay fm_deedLong fm_deedKind fm_kept fm_tape fm_official fm_aside fm_worth fm_out p1 gmi_0 gmi_1 gmi_2 gmi_4 gmi_7 gmi_10 gmi_17 gmi_23 gmi_24 gmi_26 gmi_29 gmi_30 gmi_33 gmi_37 gmi_41 gmi_50 gmi_51 gmi_56 gfm_row gfm_struck gfm_reportKnown gfm_reportPlace gfm_reportMonth gfm_reportDay) (cwV 1 hts (gz_gV mGB_261 mGB_262 mGB_263 mGB_1 mGB_264 goodGB) rfl rfl rfl (by decide +kernel) ⟨Nat.le_of_ble_eq_true rfl, Nat.le_of_ble_eq_true rfl⟩) ⟨bl_W, mw_recv hK hP, fun U hU hW => ⟨rfl, by rw [hU], by rw [hU]; exact hP, va_K.moved hW.alike hK, hD.weaken (fun _ _ _ _ => trivial)⟩⟩ rfl rfl hl.1 rfl (lv_room (Nat.le_of_ble_eq_true rfl)) (dk_at dkX12_sure 8 rfl) ⟨Nat.zero_le _, Nat.zero_le _⟩) hS (fun q _ h => hFc q h) hFc (fun u t H1 locs ht hvm hw hB hz1 hk1 hS => ?_)
    obtain ⟨y_483, y_484, f_485, f_486, f_487, f_488, f_489, f_490, hB⟩ := hB
    obtain ⟨gy_483, gy_484, gf_490, hP1, hD1⟩ := hB
    rw [ht] at hP1
    have hD : va_D A (MWn h0 mr km (mi 0) (mi 1) (mi 2) (mi 3) (mi 4) (mi 5) (mi 6) (mi 7) (mi 10) (mi 17) (mi 23) (mi 24) (mi 26) (mi 27) (mi 28) (mi 29) (mi 30) (mi 31) (mi 32) (mi 33) y_483 y_484 (mi 42) (mi 43) (mi 44) (mi 45) (mi 47) (mi 48) (mi 49) (mi 50) (mi 51) (mi 54) (mi 56) fm_trust fm_letter fm_reportPlace fm_reportKind fm_struck fm_reportMonth fm_reportDay fm_reportKnown fm_deedMonth fm_deedDay fm_deedLong fm_deedKind fm_kept fm_tape f_485 f_486 f_487 f_488 f_489 f_490 fm_official fm_aside fm_worth fm_out) := gz_fullD hFc hD1
    have hP : va_P (dC, dI) vwCl (MWn h0 mr km (mi 0) (mi 1) (mi 2) (mi 3) (mi 4) (mi 5) (mi 6) (mi 7) (mi 10) (mi 17) (mi 23) (mi 24) (mi 26) (mi 27) (mi 28) (mi 29) (mi 30) (mi 31) (mi 32) (mi 33) y_483 y_484 (mi 42) (mi 43) (mi 44) (mi 45) (mi 47) (mi 48) (mi 49) (mi 50) (mi 51) (mi 54) (mi 56) fm_trust fm_letter fm_reportPlace fm_reportKind fm_struck fm_reportMonth fm_reportDay fm_reportKnown fm_deedMonth fm_deedDay fm_deedLong fm_deedKind fm_kept fm_tape f_485 f_486 f_487 f_488 f_489 f_490 fm_official fm_aside fm_worth fm_out) H1 := hP1
    generalize H1 = H at hP hS ⊢
    refine lv_iconst (v := 0) hx hb (dk_at dkX12_sure 9 rfl) (by decide) ?_
    refine lv_istore_n (lv' := [(2, .int 0), (0, .ref h0), (1, .int p1)]) hx hb (dk_at dkX12_sure 10 rfl) rfl hl (by decide) rfl (fun ls hl => ?_)
    refine lv_iconst (v := 0) hx hb (dk_at dkX12_sure 11 rfl) (by decide) ?_
    refine lv_istore_n (lv' := [(3, .int 0), (2, .int 0), (0, .ref h0), (1, .int p1)]) hx hb (dk_at dkX12_sure 12 rfl) rfl hl (by decide) rfl (fun ls hl => ?_)
    refine (lp_sX12_sure h0 mi mr km fm_must fm_least fm_pin fm_ways fm_verdict fm_row fm_struck fm_reportKnown fm_reportPlace fm_reportMonth fm_reportDay fm_reportKind fm_trust fm_letter fm_deedMonth fm_deedDay fm_deedLong fm_deedKind fm_kept fm_tape fm_official fm_aside fm_worth fm_out p1 gmi_0 gmi_1 gmi_2 gmi_4 gmi_7 gmi_10 gmi_17 gmi_23 gmi_24 gmi_26 gmi_29 gmi_30 gmi_33 gmi_37 gmi_41 gmi_50 gmi_51 gmi_56 gfm_row gfm_struck gfm_reportKnown gfm_reportPlace gfm_reportMonth gfm_reportDay hx hb hml hown hts hK hA (Nat.le_of_ble_eq_true rfl) (Nat.le_of_ble_eq_true rfl) (Nat.zero_le _) (Nat.zero_le _) (fun v w0_37 w0_41 z1 z2 z3 z4 z5 z6 H locs ls gv gw0_37 gw0_41 gz6 hP hD hS hl => ?_) (fun v w0_37 w0_41 z1 z2 z3 z4 z5 z6 H locs ls gw0_37 gw0_41 gz6 hP hD hS hl => ?_) 64) 0 0 y_483 y_484 f_485 f_486 f_487 f_488 f_489 f_490 _ _ _ g_481 (gi_w (gi_c 0 0 (by decide)) (by decide)) gy_483 gy_484 gf_490 (by have k0 : (0 : Int32).toInt = 0 := (by decide); omega) hP hD hS (lv_sub hl [2, 3, 1, 0] rfl)
    · skip
      exact W.iret (v := v) hx hb hr (fun t ht hW => ⟨⟨v, (), rfl, (gi_any v), w0_37, w0_41, z1, z2, z3, z4, z5, z6, gw0_37, gw0_41, gz6, by rw [ht]; exact hP, hD⟩, hS.F ht⟩) hS.2.2 (dk_at dkX12_sure 5 rfl)
    · skip
      exact W.iret (v := v) hx hb hr (fun t ht hW => ⟨⟨v, (), rfl, (gi_any v), w0_37, w0_41, z1, z2, z3, z4, z5, z6, gw0_37, gw0_41, gz6, by rw [ht]; exact hP, hD⟩, hS.F ht⟩) hS.2.2 (dk_at dkX12_sure 37 rfl)
  · have g_491 : gi r_478 0 0 := gi_eq c_479 (gi_c 0 0 (by decide))
    refine lv_bipush (v := (-2)) hx hb (dk_at dkX12_sure 4 rfl) (by decide) ?_
    exact W.iret (v := (-2)) hx hb hr (fun t ht hW => ⟨⟨(-2), (), rfl, (gi_any (-2)), (mi 37), (mi 41), fm_must, fm_least, fm_pin, fm_ways, fm_verdict, fm_row, gmi_37, gmi_41, gfm_row, by rw [ht]; exact hP, hD⟩, hS.F ht⟩) hS.2.2 (dk_at dkX12_sure 5 rfl)
set_option maxHeartbeats 4000000 in
set_option maxRecDepth 100000 in
theorem uX12_against (l : Launch) (dC : Nat → ClassId) (dI : Nat → Nat → Nat) (sz : Nat) (hm : Nat) (mi : Nat → Int32) (mr : Nat → Nat) (km : Nat → ClassId) (fm : Nat → Nat → Int32) (hI : MI mi fm) (p1 : Int32) (p2 : Int32) : Met l yX12_against (.code yX12_against cX12_against 5 (some .int) :: wsGB) ({ frames := 5, cells := 0, slots := 0, locals := 119 }) (va_Pc [.ref hm, .int p1, .int p2] (fun U => U.heap.size = sz ∧ va_P (dC, dI) vwCl (MW hm mi mr km fm) U.heap ∧ va_K (dC, dI) vwCl (MT km) U ∧ va_D (fun _ => True) (MW hm mi mr km fm))) (va_Qi (fun (r : Int32) (u : Unit) => True) (fun _ t => MB dC dI hm mi mr km fm sz (fun v f => styM mi fm v f) t) (va_A (MW hm mi mr km fm) sz)) 0 0 (va_A (MW hm mi mr km fm) sz) := by
  refine gz_mono (sX12_against l dC dI sz hm mi mr km (fm 14) (fm 15) (fm 16) (fm 17) (fm 18) (fm 19) (fm 4) (fm 7) (fm 2) (fm 5) (fm 6) (fm 3) (fm 0) (fm 1) (fm 8) (fm 9) (fm 10) (fm 11) (fm 12) (fm 13) (fm 20) (fm 21) (fm 22) (fm 23) p1 p2 hI.1 hI.2.1 hI.2.2.1 hI.2.2.2.1 hI.2.2.2.2.1 hI.2.2.2.2.2.1 hI.2.2.2.2.2.2.1 hI.2.2.2.2.2.2.2.1 hI.2.2.2.2.2.2.2.2.1 hI.2.2.2.2.2.2.2.2.2.1 hI.2.2.2.2.2.2.2.2.2.2.1 hI.2.2.2.2.2.2.2.2.2.2.2.1 hI.2.2.2.2.2.2.2.2.2.2.2.2.2.1 hI.2.2.2.2.2.2.2.2.2.2.2.2.2.2.1 hI.2.2.2.2.2.2.2.2.2.2.2.2.2.2.2.1 hI.2.2.2.2.2.2.2.2.2.2.2.2.2.2.2.2.1 hI.2.2.2.2.2.2.2.2.2.2.2.2.2.2.2.2.2.1 hI.2.2.2.2.2.2.2.2.2.2.2.2.2.2.2.2.2.2.1 hI.2.2.2.2.2.2.2.2.2.2.2.2.2.2.2.2.2.2.2.2.2.2.2.2.2.2.1 hI.2.2.2.2.2.2.2.2.2.2.2.2.2.2.2.2.2.2.2.2.1 hI.2.2.2.2.2.2.2.2.2.2.2.2.2.2.2.2.2.2.2.2.2.2.2.1 hI.2.2.2.2.2.2.2.2.2.2.2.2.2.2.2.2.2.2.2.1 hI.2.2.2.2.2.2.2.2.2.2.2.2.2.2.2.2.2.2.2.2.2.1 hI.2.2.2.2.2.2.2.2.2.2.2.2.2.2.2.2.2.2.2.2.2.2.1) ?_ ?_ ?_
  · rintro args s ⟨rfl, hsz, hP, hK, hD⟩
    exact ⟨rfl, hsz, hP, hK, hD⟩
  · rintro args s o t ⟨rfl, hsz, hP, hK, hD⟩ ⟨⟨r, u, ho, hw, hB⟩, hF⟩
    obtain ⟨w0_37, w0_41, z1, z2, z3, z4, z5, z6, hB⟩ := hB
    obtain ⟨gw0_37, gw0_41, gz6, hP1, hD1⟩ := hB
    subst hsz
    exact ⟨⟨r, (), ho, trivial, (upd (upd mi 37 w0_37) 41 w0_41), (updF (updF (updF (updF (updF (updF fm 14 z1) 15 z2) 16 z3) 17 z4) 18 z5) 19 z6), ⟨hI.1, hI.2.1, hI.2.2.1, hI.2.2.2.1, hI.2.2.2.2.1, hI.2.2.2.2.2.1, hI.2.2.2.2.2.2.1, hI.2.2.2.2.2.2.2.1, hI.2.2.2.2.2.2.2.2.1, hI.2.2.2.2.2.2.2.2.2.1, hI.2.2.2.2.2.2.2.2.2.2.1, hI.2.2.2.2.2.2.2.2.2.2.2.1, hI.2.2.2.2.2.2.2.2.2.2.2.2.1, hI.2.2.2.2.2.2.2.2.2.2.2.2.2.1, gw0_37, gw0_41, hI.2.2.2.2.2.2.2.2.2.2.2.2.2.2.2.2.1, hI.2.2.2.2.2.2.2.2.2.2.2.2.2.2.2.2.2.1, hI.2.2.2.2.2.2.2.2.2.2.2.2.2.2.2.2.2.2.1, hI.2.2.2.2.2.2.2.2.2.2.2.2.2.2.2.2.2.2.2.1, hI.2.2.2.2.2.2.2.2.2.2.2.2.2.2.2.2.2.2.2.2.1, hI.2.2.2.2.2.2.2.2.2.2.2.2.2.2.2.2.2.2.2.2.2.1, hI.2.2.2.2.2.2.2.2.2.2.2.2.2.2.2.2.2.2.2.2.2.2.1, hI.2.2.2.2.2.2.2.2.2.2.2.2.2.2.2.2.2.2.2.2.2.2.2.1, hI.2.2.2.2.2.2.2.2.2.2.2.2.2.2.2.2.2.2.2.2.2.2.2.2.1, hI.2.2.2.2.2.2.2.2.2.2.2.2.2.2.2.2.2.2.2.2.2.2.2.2.2.1, gz6, hI.2.2.2.2.2.2.2.2.2.2.2.2.2.2.2.2.2.2.2.2.2.2.2.2.2.2.2.1, hI.2.2.2.2.2.2.2.2.2.2.2.2.2.2.2.2.2.2.2.2.2.2.2.2.2.2.2.2⟩, ⟨rfl, rfl, rfl, rfl, rfl, rfl, rfl, rfl, rfl, rfl, rfl, rfl, rfl, rfl, rfl, rfl, rfl, rfl, rfl, rfl, rfl, rfl, rfl, rfl⟩, hP1, hD1⟩, hF⟩
  · exact fun q h => h
noncomputable def mt_blind (mi : Nat → Int32) (fm : Nat → Nat → Int32) (o : Int32) : Int32 × (Nat → Int32) × (Nat → Nat → Int32) := (o, mi, fm)
noncomputable def ms_blind (mi : Nat → Int32) (fm : Nat → Nat → Int32) (p1 : Int32) (p2 : Int32) : Int32 × (Nat → Int32) × (Nat → Nat → Int32) := mt_blind mi fm (fX12_blind mi (fm 4) (fm 7) (fm 5) (fm 3) p1 p2)
set_option maxHeartbeats 4000000 in
set_option maxRecDepth 100000 in
theorem uX12_blind (l : Launch) (dC : Nat → ClassId) (dI : Nat → Nat → Nat) (sz : Nat) (hm : Nat) (mi : Nat → Int32) (mr : Nat → Nat) (km : Nat → ClassId) (fm : Nat → Nat → Int32) (hI : MI mi fm) (p1 : Int32) (p2 : Int32) : Met l yX12_blind (.code yX12_blind cX12_blind 5 (some .int) :: wsGB) ({ frames := 2, cells := 0, slots := 0, locals := 46 }) (va_Pc [.ref hm, .int p1, .int p2] (fun U => U.heap.size = sz ∧ va_P (dC, dI) vwCl (MW hm mi mr km fm) U.heap ∧ va_K (dC, dI) vwCl (MT km) U ∧ va_D (fun _ => True) (MW hm mi mr km fm))) (va_Qi (fun (r : Int32) (u : Int32) => r = u) (fun r t => MB dC dI hm mi mr km fm sz (fun v f => (r, v, f) = ms_blind mi fm p1 p2) t) (va_A (MW hm mi mr km fm) sz)) 0 0 (va_A (MW hm mi mr km fm) sz) := by
  refine gz_mono (sX12_blind l dC dI hm mi mr km (fm 14) (fm 15) (fm 16) (fm 17) (fm 18) (fm 19) (fm 4) (fm 7) (fm 2) (fm 5) (fm 6) (fm 3) (fm 0) (fm 1) (fm 8) (fm 9) (fm 10) (fm 11) (fm 12) (fm 13) (fm 20) (fm 21) (fm 22) (fm 23) p1 p2 hI.1 hI.2.1 hI.2.2.1 hI.2.2.2.1 hI.2.2.2.2.1 hI.2.2.2.2.2.1 hI.2.2.2.2.2.2.1 hI.2.2.2.2.2.2.2.1 hI.2.2.2.2.2.2.2.2.1 hI.2.2.2.2.2.2.2.2.2.1 hI.2.2.2.2.2.2.2.2.2.2.1 hI.2.2.2.2.2.2.2.2.2.2.2.1 hI.2.2.2.2.2.2.2.2.2.2.2.2.2.1 hI.2.2.2.2.2.2.2.2.2.2.2.2.2.2.1 hI.2.2.2.2.2.2.2.2.2.2.2.2.2.2.2.1 hI.2.2.2.2.2.2.2.2.2.2.2.2.2.2.2.2.1 hI.2.2.2.2.2.2.2.2.2.2.2.2.2.2.2.2.2.1 hI.2.2.2.2.2.2.2.2.2.2.2.2.2.2.2.2.2.2.1 hI.2.2.2.2.2.2.2.2.2.2.2.2.2.2.2.2.2.2.2.2.2.2.2.2.2.2.1 hI.2.2.2.2.2.2.2.2.2.2.2.2.2.2.2.2.2.2.2.2.1 hI.2.2.2.2.2.2.2.2.2.2.2.2.2.2.2.2.2.2.2.2.2.2.2.1 hI.2.2.2.2.2.2.2.2.2.2.2.2.2.2.2.2.2.2.2.1 hI.2.2.2.2.2.2.2.2.2.2.2.2.2.2.2.2.2.2.2.2.2.1 hI.2.2.2.2.2.2.2.2.2.2.2.2.2.2.2.2.2.2.2.2.2.2.1) ?_ ?_ ?_
  · rintro args s ⟨rfl, hsz, hP, hK, hD⟩
    exact ⟨rfl, hP, hK⟩
  · rintro args s o t ⟨rfl, hsz, hP, hK, hD⟩ ⟨⟨r, u, ho, hw, hB⟩, hF⟩
    subst hsz
    exact ⟨⟨r, r, ho, rfl, mi, fm, hI, congrArg (mt_blind mi fm) hw.2, gz_keep hP hF.2, hD.self⟩, hF.1, fun q h1 h2 => hF.2 q h1 (fun h => h.elim)⟩
  · exact fun q h => h.elim
set_option maxHeartbeats 4000000 in
set_option maxRecDepth 100000 in
theorem uX12_ways (l : Launch) (dC : Nat → ClassId) (dI : Nat → Nat → Nat) (sz : Nat) (hm : Nat) (mi : Nat → Int32) (mr : Nat → Nat) (km : Nat → ClassId) (fm : Nat → Nat → Int32) (hI : MI mi fm) (p1 : Int32) : Met l yX12_ways (.code yX12_ways cX12_ways 2 (some .int) :: wsGB) ({ frames := 5, cells := 0, slots := 0, locals := 119 }) (va_Pc [.ref hm, .int p1] (fun U => U.heap.size = sz ∧ va_P (dC, dI) vwCl (MW hm mi mr km fm) U.heap ∧ va_K (dC, dI) vwCl (MT km) U ∧ va_D (fun _ => True) (MW hm mi mr km fm))) (va_Qi (fun (r : Int32) (u : Unit) => True) (fun _ t => MB dC dI hm mi mr km fm sz (fun v f => styM mi fm v f) t) (va_A (MW hm mi mr km fm) sz)) 0 0 (va_A (MW hm mi mr km fm) sz) := by
  refine gz_mono (sX12_ways l dC dI sz hm mi mr km (fm 14) (fm 15) (fm 16) (fm 17) (fm 18) (fm 19) (fm 4) (fm 7) (fm 2) (fm 5) (fm 6) (fm 3) (fm 0) (fm 1) (fm 8) (fm 9) (fm 10) (fm 11) (fm 12) (fm 13) (fm 20) (fm 21) (fm 22) (fm 23) p1 hI.1 hI.2.1 hI.2.2.1 hI.2.2.2.1 hI.2.2.2.2.1 hI.2.2.2.2.2.1 hI.2.2.2.2.2.2.1 hI.2.2.2.2.2.2.2.1 hI.2.2.2.2.2.2.2.2.1 hI.2.2.2.2.2.2.2.2.2.1 hI.2.2.2.2.2.2.2.2.2.2.1 hI.2.2.2.2.2.2.2.2.2.2.2.1 hI.2.2.2.2.2.2.2.2.2.2.2.2.2.1 hI.2.2.2.2.2.2.2.2.2.2.2.2.2.2.1 hI.2.2.2.2.2.2.2.2.2.2.2.2.2.2.2.1 hI.2.2.2.2.2.2.2.2.2.2.2.2.2.2.2.2.1 hI.2.2.2.2.2.2.2.2.2.2.2.2.2.2.2.2.2.1 hI.2.2.2.2.2.2.2.2.2.2.2.2.2.2.2.2.2.2.1 hI.2.2.2.2.2.2.2.2.2.2.2.2.2.2.2.2.2.2.2.2.2.2.2.2.2.2.1 hI.2.2.2.2.2.2.2.2.2.2.2.2.2.2.2.2.2.2.2.2.1 hI.2.2.2.2.2.2.2.2.2.2.2.2.2.2.2.2.2.2.2.2.2.2.2.1 hI.2.2.2.2.2.2.2.2.2.2.2.2.2.2.2.2.2.2.2.1 hI.2.2.2.2.2.2.2.2.2.2.2.2.2.2.2.2.2.2.2.2.2.1 hI.2.2.2.2.2.2.2.2.2.2.2.2.2.2.2.2.2.2.2.2.2.2.1) ?_ ?_ ?_
  · rintro args s ⟨rfl, hsz, hP, hK, hD⟩
    exact ⟨rfl, hsz, hP, hK, hD⟩
  · rintro args s o t ⟨rfl, hsz, hP, hK, hD⟩ ⟨⟨r, u, ho, hw, hB⟩, hF⟩
    obtain ⟨w0_37, w0_41, z1, z2, z3, z4, z5, z6, hB⟩ := hB
    obtain ⟨gw0_37, gw0_41, gz6, hP1, hD1⟩ := hB
    subst hsz
    exact ⟨⟨r, (), ho, trivial, (upd (upd mi 37 w0_37) 41 w0_41), (updF (updF (updF (updF (updF (updF fm 14 z1) 15 z2) 16 z3) 17 z4) 18 z5) 19 z6), ⟨hI.1, hI.2.1, hI.2.2.1, hI.2.2.2.1, hI.2.2.2.2.1, hI.2.2.2.2.2.1, hI.2.2.2.2.2.2.1, hI.2.2.2.2.2.2.2.1, hI.2.2.2.2.2.2.2.2.1, hI.2.2.2.2.2.2.2.2.2.1, hI.2.2.2.2.2.2.2.2.2.2.1, hI.2.2.2.2.2.2.2.2.2.2.2.1, hI.2.2.2.2.2.2.2.2.2.2.2.2.1, hI.2.2.2.2.2.2.2.2.2.2.2.2.2.1, gw0_37, gw0_41, hI.2.2.2.2.2.2.2.2.2.2.2.2.2.2.2.2.1, hI.2.2.2.2.2.2.2.2.2.2.2.2.2.2.2.2.2.1, hI.2.2.2.2.2.2.2.2.2.2.2.2.2.2.2.2.2.2.1, hI.2.2.2.2.2.2.2.2.2.2.2.2.2.2.2.2.2.2.2.1, hI.2.2.2.2.2.2.2.2.2.2.2.2.2.2.2.2.2.2.2.2.1, hI.2.2.2.2.2.2.2.2.2.2.2.2.2.2.2.2.2.2.2.2.2.1, hI.2.2.2.2.2.2.2.2.2.2.2.2.2.2.2.2.2.2.2.2.2.2.1, hI.2.2.2.2.2.2.2.2.2.2.2.2.2.2.2.2.2.2.2.2.2.2.2.1, hI.2.2.2.2.2.2.2.2.2.2.2.2.2.2.2.2.2.2.2.2.2.2.2.2.1, hI.2.2.2.2.2.2.2.2.2.2.2.2.2.2.2.2.2.2.2.2.2.2.2.2.2.1, gz6, hI.2.2.2.2.2.2.2.2.2.2.2.2.2.2.2.2.2.2.2.2.2.2.2.2.2.2.2.1, hI.2.2.2.2.2.2.2.2.2.2.2.2.2.2.2.2.2.2.2.2.2.2.2.2.2.2.2.2⟩, ⟨rfl, rfl, rfl, rfl, rfl, rfl, rfl, rfl, rfl, rfl, rfl, rfl, rfl, rfl, rfl, rfl, rfl, rfl, rfl, rfl, rfl, rfl, rfl, rfl⟩, hP1, hD1⟩, hF⟩
  · exact fun q h => h
set_option maxHeartbeats 4000000 in
set_option maxRecDepth 100000 in
theorem uX12_begin (l : Launch) (dC : Nat → ClassId) (dI : Nat → Nat → Nat) (sz : Nat) (hm : Nat) (mi : Nat → Int32) (mr : Nat → Nat) (km : Nat → ClassId) (fm : Nat → Nat → Int32) (hI : MI mi fm) (p1 : Int32) (p2 : Int32) : Met l yX12_begin (.code yX12_begin cX12_begin 3 (some .int) :: wsGB) ({ frames := 6, cells := 0, slots := 0, locals := 140 }) (va_Pc [.ref hm, .int p1, .int p2] (fun U => U.heap.size = sz ∧ va_P (dC, dI) vwCl (MW hm mi mr km fm) U.heap ∧ va_K (dC, dI) vwCl (MT km) U ∧ va_D (fun _ => True) (MW hm mi mr km fm))) (va_Qi (fun (r : Int32) (u : Unit) => True) (fun _ t => MB dC dI hm mi mr km fm sz (fun v f => styM mi fm v f) t) (va_A (MW hm mi mr km fm) sz)) 0 0 (va_A (MW hm mi mr km fm) sz) := by
  refine gz_mono (sX12_begin l dC dI sz hm mi mr km (fm 14) (fm 15) (fm 16) (fm 17) (fm 18) (fm 19) (fm 4) (fm 7) (fm 2) (fm 5) (fm 6) (fm 3) (fm 0) (fm 1) (fm 20) (fm 8) (fm 9) (fm 10) (fm 11) (fm 12) (fm 13) (fm 21) (fm 22) (fm 23) p1 p2 hI.1 hI.2.1 hI.2.2.1 hI.2.2.2.1 hI.2.2.2.2.1 hI.2.2.2.2.2.1 hI.2.2.2.2.2.2.1 hI.2.2.2.2.2.2.2.1 hI.2.2.2.2.2.2.2.2.1 hI.2.2.2.2.2.2.2.2.2.1 hI.2.2.2.2.2.2.2.2.2.2.1 hI.2.2.2.2.2.2.2.2.2.2.2.1 hI.2.2.2.2.2.2.2.2.2.2.2.2.2.1 hI.2.2.2.2.2.2.2.2.2.2.2.2.2.2.1 hI.2.2.2.2.2.2.2.2.2.2.2.2.2.2.2.1 hI.2.2.2.2.2.2.2.2.2.2.2.2.2.2.2.2.1 hI.2.2.2.2.2.2.2.2.2.2.2.2.2.2.2.2.2.1 hI.2.2.2.2.2.2.2.2.2.2.2.2.2.2.2.2.2.2.1 hI.2.2.2.2.2.2.2.2.2.2.2.2.2.2.2.2.2.2.2.2.2.2.2.2.2.2.1 hI.2.2.2.2.2.2.2.2.2.2.2.2.2.2.2.2.2.2.2.2.1 hI.2.2.2.2.2.2.2.2.2.2.2.2.2.2.2.2.2.2.2.2.2.2.2.1 hI.2.2.2.2.2.2.2.2.2.2.2.2.2.2.2.2.2.2.2.1 hI.2.2.2.2.2.2.2.2.2.2.2.2.2.2.2.2.2.2.2.2.2.1 hI.2.2.2.2.2.2.2.2.2.2.2.2.2.2.2.2.2.2.2.2.2.2.1) ?_ ?_ ?_
  · rintro args s ⟨rfl, hsz, hP, hK, hD⟩
    exact ⟨rfl, hsz, hP, hK, hD⟩
  · rintro args s o t ⟨rfl, hsz, hP, hK, hD⟩ ⟨⟨r, u, ho, hw, hB⟩, hF⟩
    obtain ⟨w0_37, w0_41, z1, z2, z3, z4, z5, z6, z15, hB⟩ := hB
    obtain ⟨gw0_37, gw0_41, gz6, hP1, hD1⟩ := hB
    subst hsz
    exact ⟨⟨r, (), ho, trivial, (upd (upd mi 37 w0_37) 41 w0_41), (updF (updF (updF (updF (updF (updF (updF fm 14 z1) 15 z2) 16 z3) 17 z4) 18 z5) 19 z6) 20 z15), ⟨hI.1, hI.2.1, hI.2.2.1, hI.2.2.2.1, hI.2.2.2.2.1, hI.2.2.2.2.2.1, hI.2.2.2.2.2.2.1, hI.2.2.2.2.2.2.2.1, hI.2.2.2.2.2.2.2.2.1, hI.2.2.2.2.2.2.2.2.2.1, hI.2.2.2.2.2.2.2.2.2.2.1, hI.2.2.2.2.2.2.2.2.2.2.2.1, hI.2.2.2.2.2.2.2.2.2.2.2.2.1, hI.2.2.2.2.2.2.2.2.2.2.2.2.2.1, gw0_37, gw0_41, hI.2.2.2.2.2.2.2.2.2.2.2.2.2.2.2.2.1, hI.2.2.2.2.2.2.2.2.2.2.2.2.2.2.2.2.2.1, hI.2.2.2.2.2.2.2.2.2.2.2.2.2.2.2.2.2.2.1, hI.2.2.2.2.2.2.2.2.2.2.2.2.2.2.2.2.2.2.2.1, hI.2.2.2.2.2.2.2.2.2.2.2.2.2.2.2.2.2.2.2.2.1, hI.2.2.2.2.2.2.2.2.2.2.2.2.2.2.2.2.2.2.2.2.2.1, hI.2.2.2.2.2.2.2.2.2.2.2.2.2.2.2.2.2.2.2.2.2.2.1, hI.2.2.2.2.2.2.2.2.2.2.2.2.2.2.2.2.2.2.2.2.2.2.2.1, hI.2.2.2.2.2.2.2.2.2.2.2.2.2.2.2.2.2.2.2.2.2.2.2.2.1, hI.2.2.2.2.2.2.2.2.2.2.2.2.2.2.2.2.2.2.2.2.2.2.2.2.2.1, gz6, hI.2.2.2.2.2.2.2.2.2.2.2.2.2.2.2.2.2.2.2.2.2.2.2.2.2.2.2.1, hI.2.2.2.2.2.2.2.2.2.2.2.2.2.2.2.2.2.2.2.2.2.2.2.2.2.2.2.2⟩, ⟨rfl, rfl, rfl, rfl, rfl, rfl, rfl, rfl, rfl, rfl, rfl, rfl, rfl, rfl, rfl, rfl, rfl, rfl, rfl, rfl, rfl, rfl, rfl, rfl⟩, hP1, hD1⟩, hF⟩
  · exact fun q h => h
set_option maxHeartbeats 4000000 in
set_option maxRecDepth 100000 in
theorem uX12_span (l : Launch) (dC : Nat → ClassId) (dI : Nat → Nat → Nat) (sz : Nat) (hm : Nat) (mi : Nat → Int32) (mr : Nat → Nat) (km : Nat → ClassId) (fm : Nat → Nat → Int32) (hI : MI mi fm) (p1 : Int32) (p2 : Int32) (p3 : Int32) : Met l yX12_span (.code yX12_span cX12_span 4 (some .int) :: wsGB) ({ frames := 6, cells := 0, slots := 0, locals := 147 }) (va_Pc [.ref hm, .int p1, .int p2, .int p3] (fun U => U.heap.size = sz ∧ va_P (dC, dI) vwCl (MW hm mi mr km fm) U.heap ∧ va_K (dC, dI) vwCl (MT km) U ∧ va_D (fun _ => True) (MW hm mi mr km fm))) (va_Qi (fun (r : Int32) (u : Unit) => True) (fun _ t => MB dC dI hm mi mr km fm sz (fun v f => styM mi fm v f) t) (va_A (MW hm mi mr km fm) sz)) 0 0 (va_A (MW hm mi mr km fm) sz) := by
  refine gz_mono (sX12_span l dC dI sz hm mi mr km (fm 14) (fm 15) (fm 16) (fm 17) (fm 18) (fm 19) (fm 4) (fm 7) (fm 2) (fm 5) (fm 6) (fm 3) (fm 0) (fm 1) (fm 8) (fm 9) (fm 10) (fm 11) (fm 12) (fm 13) (fm 20) (fm 21) (fm 22) (fm 23) p1 p2 p3 hI.1 hI.2.1 hI.2.2.1 hI.2.2.2.1 hI.2.2.2.2.1 hI.2.2.2.2.2.1 hI.2.2.2.2.2.2.1 hI.2.2.2.2.2.2.2.1 hI.2.2.2.2.2.2.2.2.1 hI.2.2.2.2.2.2.2.2.2.1 hI.2.2.2.2.2.2.2.2.2.2.1 hI.2.2.2.2.2.2.2.2.2.2.2.1 hI.2.2.2.2.2.2.2.2.2.2.2.2.2.1 hI.2.2.2.2.2.2.2.2.2.2.2.2.2.2.1 hI.2.2.2.2.2.2.2.2.2.2.2.2.2.2.2.1 hI.2.2.2.2.2.2.2.2.2.2.2.2.2.2.2.2.1 hI.2.2.2.2.2.2.2.2.2.2.2.2.2.2.2.2.2.1 hI.2.2.2.2.2.2.2.2.2.2.2.2.2.2.2.2.2.2.1 hI.2.2.2.2.2.2.2.2.2.2.2.2.2.2.2.2.2.2.2.2.2.2.2.2.2.2.1 hI.2.2.2.2.2.2.2.2.2.2.2.2.2.2.2.2.2.2.2.2.1 hI.2.2.2.2.2.2.2.2.2.2.2.2.2.2.2.2.2.2.2.2.2.2.2.1 hI.2.2.2.2.2.2.2.2.2.2.2.2.2.2.2.2.2.2.2.1 hI.2.2.2.2.2.2.2.2.2.2.2.2.2.2.2.2.2.2.2.2.2.1 hI.2.2.2.2.2.2.2.2.2.2.2.2.2.2.2.2.2.2.2.2.2.2.1) ?_ ?_ ?_
  · rintro args s ⟨rfl, hsz, hP, hK, hD⟩
    exact ⟨rfl, hsz, hP, hK, hD⟩
  · rintro args s o t ⟨rfl, hsz, hP, hK, hD⟩ ⟨⟨r, u, ho, hw, hB⟩, hF⟩
    obtain ⟨w0_37, w0_41, z1, z2, z3, z4, z5, z6, hB⟩ := hB
    obtain ⟨gw0_37, gw0_41, gz6, hP1, hD1⟩ := hB
    subst hsz
    exact ⟨⟨r, (), ho, trivial, (upd (upd mi 37 w0_37) 41 w0_41), (updF (updF (updF (updF (updF (updF fm 14 z1) 15 z2) 16 z3) 17 z4) 18 z5) 19 z6), ⟨hI.1, hI.2.1, hI.2.2.1, hI.2.2.2.1, hI.2.2.2.2.1, hI.2.2.2.2.2.1, hI.2.2.2.2.2.2.1, hI.2.2.2.2.2.2.2.1, hI.2.2.2.2.2.2.2.2.1, hI.2.2.2.2.2.2.2.2.2.1, hI.2.2.2.2.2.2.2.2.2.2.1, hI.2.2.2.2.2.2.2.2.2.2.2.1, hI.2.2.2.2.2.2.2.2.2.2.2.2.1, hI.2.2.2.2.2.2.2.2.2.2.2.2.2.1, gw0_37, gw0_41, hI.2.2.2.2.2.2.2.2.2.2.2.2.2.2.2.2.1, hI.2.2.2.2.2.2.2.2.2.2.2.2.2.2.2.2.2.1, hI.2.2.2.2.2.2.2.2.2.2.2.2.2.2.2.2.2.2.1, hI.2.2.2.2.2.2.2.2.2.2.2.2.2.2.2.2.2.2.2.1, hI.2.2.2.2.2.2.2.2.2.2.2.2.2.2.2.2.2.2.2.2.1, hI.2.2.2.2.2.2.2.2.2.2.2.2.2.2.2.2.2.2.2.2.2.1, hI.2.2.2.2.2.2.2.2.2.2.2.2.2.2.2.2.2.2.2.2.2.2.1, hI.2.2.2.2.2.2.2.2.2.2.2.2.2.2.2.2.2.2.2.2.2.2.2.1, hI.2.2.2.2.2.2.2.2.2.2.2.2.2.2.2.2.2.2.2.2.2.2.2.2.1, hI.2.2.2.2.2.2.2.2.2.2.2.2.2.2.2.2.2.2.2.2.2.2.2.2.2.1, gz6, hI.2.2.2.2.2.2.2.2.2.2.2.2.2.2.2.2.2.2.2.2.2.2.2.2.2.2.2.1, hI.2.2.2.2.2.2.2.2.2.2.2.2.2.2.2.2.2.2.2.2.2.2.2.2.2.2.2.2⟩, ⟨rfl, rfl, rfl, rfl, rfl, rfl, rfl, rfl, rfl, rfl, rfl, rfl, rfl, rfl, rfl, rfl, rfl, rfl, rfl, rfl, rfl, rfl, rfl, rfl⟩, hP1, hD1⟩, hF⟩
  · exact fun q h => h
set_option maxHeartbeats 4000000 in
set_option maxRecDepth 100000 in
theorem uX12_sure (l : Launch) (dC : Nat → ClassId) (dI : Nat → Nat → Nat) (sz : Nat) (hm : Nat) (mi : Nat → Int32) (mr : Nat → Nat) (km : Nat → ClassId) (fm : Nat → Nat → Int32) (hI : MI mi fm) (p1 : Int32) : Met l yX12_sure (.code yX12_sure cX12_sure 4 (some .int) :: wsGB) ({ frames := 6, cells := 0, slots := 0, locals := 147 }) (va_Pc [.ref hm, .int p1] (fun U => U.heap.size = sz ∧ va_P (dC, dI) vwCl (MW hm mi mr km fm) U.heap ∧ va_K (dC, dI) vwCl (MT km) U ∧ va_D (fun _ => True) (MW hm mi mr km fm))) (va_Qi (fun (r : Int32) (u : Unit) => True) (fun _ t => MB dC dI hm mi mr km fm sz (fun v f => styM mi fm v f) t) (va_A (MW hm mi mr km fm) sz)) 0 0 (va_A (MW hm mi mr km fm) sz) := by
  refine gz_mono (sX12_sure l dC dI sz hm mi mr km (fm 14) (fm 15) (fm 16) (fm 17) (fm 18) (fm 19) (fm 4) (fm 7) (fm 2) (fm 5) (fm 6) (fm 3) (fm 0) (fm 1) (fm 8) (fm 9) (fm 10) (fm 11) (fm 12) (fm 13) (fm 20) (fm 21) (fm 22) (fm 23) p1 hI.1 hI.2.1 hI.2.2.1 hI.2.2.2.1 hI.2.2.2.2.1 hI.2.2.2.2.2.1 hI.2.2.2.2.2.2.1 hI.2.2.2.2.2.2.2.1 hI.2.2.2.2.2.2.2.2.1 hI.2.2.2.2.2.2.2.2.2.1 hI.2.2.2.2.2.2.2.2.2.2.1 hI.2.2.2.2.2.2.2.2.2.2.2.1 hI.2.2.2.2.2.2.2.2.2.2.2.2.2.1 hI.2.2.2.2.2.2.2.2.2.2.2.2.2.2.1 hI.2.2.2.2.2.2.2.2.2.2.2.2.2.2.2.1 hI.2.2.2.2.2.2.2.2.2.2.2.2.2.2.2.2.1 hI.2.2.2.2.2.2.2.2.2.2.2.2.2.2.2.2.2.1 hI.2.2.2.2.2.2.2.2.2.2.2.2.2.2.2.2.2.2.1 hI.2.2.2.2.2.2.2.2.2.2.2.2.2.2.2.2.2.2.2.2.2.2.2.2.2.2.1 hI.2.2.2.2.2.2.2.2.2.2.2.2.2.2.2.2.2.2.2.2.1 hI.2.2.2.2.2.2.2.2.2.2.2.2.2.2.2.2.2.2.2.2.2.2.2.1 hI.2.2.2.2.2.2.2.2.2.2.2.2.2.2.2.2.2.2.2.1 hI.2.2.2.2.2.2.2.2.2.2.2.2.2.2.2.2.2.2.2.2.2.1 hI.2.2.2.2.2.2.2.2.2.2.2.2.2.2.2.2.2.2.2.2.2.2.1) ?_ ?_ ?_
  · rintro args s ⟨rfl, hsz, hP, hK, hD⟩
    exact ⟨rfl, hsz, hP, hK, hD⟩
  · rintro args s o t ⟨rfl, hsz, hP, hK, hD⟩ ⟨⟨r, u, ho, hw, hB⟩, hF⟩
    obtain ⟨w0_37, w0_41, z1, z2, z3, z4, z5, z6, hB⟩ := hB
    obtain ⟨gw0_37, gw0_41, gz6, hP1, hD1⟩ := hB
    subst hsz
    exact ⟨⟨r, (), ho, trivial, (upd (upd mi 37 w0_37) 41 w0_41), (updF (updF (updF (updF (updF (updF fm 14 z1) 15 z2) 16 z3) 17 z4) 18 z5) 19 z6), ⟨hI.1, hI.2.1, hI.2.2.1, hI.2.2.2.1, hI.2.2.2.2.1, hI.2.2.2.2.2.1, hI.2.2.2.2.2.2.1, hI.2.2.2.2.2.2.2.1, hI.2.2.2.2.2.2.2.2.1, hI.2.2.2.2.2.2.2.2.2.1, hI.2.2.2.2.2.2.2.2.2.2.1, hI.2.2.2.2.2.2.2.2.2.2.2.1, hI.2.2.2.2.2.2.2.2.2.2.2.2.1, hI.2.2.2.2.2.2.2.2.2.2.2.2.2.1, gw0_37, gw0_41, hI.2.2.2.2.2.2.2.2.2.2.2.2.2.2.2.2.1, hI.2.2.2.2.2.2.2.2.2.2.2.2.2.2.2.2.2.1, hI.2.2.2.2.2.2.2.2.2.2.2.2.2.2.2.2.2.2.1, hI.2.2.2.2.2.2.2.2.2.2.2.2.2.2.2.2.2.2.2.1, hI.2.2.2.2.2.2.2.2.2.2.2.2.2.2.2.2.2.2.2.2.1, hI.2.2.2.2.2.2.2.2.2.2.2.2.2.2.2.2.2.2.2.2.2.1, hI.2.2.2.2.2.2.2.2.2.2.2.2.2.2.2.2.2.2.2.2.2.2.1, hI.2.2.2.2.2.2.2.2.2.2.2.2.2.2.2.2.2.2.2.2.2.2.2.1, hI.2.2.2.2.2.2.2.2.2.2.2.2.2.2.2.2.2.2.2.2.2.2.2.2.1, hI.2.2.2.2.2.2.2.2.2.2.2.2.2.2.2.2.2.2.2.2.2.2.2.2.2.1, gz6, hI.2.2.2.2.2.2.2.2.2.2.2.2.2.2.2.2.2.2.2.2.2.2.2.2.2.2.2.1, hI.2.2.2.2.2.2.2.2.2.2.2.2.2.2.2.2.2.2.2.2.2.2.2.2.2.2.2.2⟩, ⟨rfl, rfl, rfl, rfl, rfl, rfl, rfl, rfl, rfl, rfl, rfl, rfl, rfl, rfl, rfl, rfl, rfl, rfl, rfl, rfl, rfl, rfl, rfl, rfl⟩, hP1, hD1⟩, hF⟩
  · exact fun q h => h
noncomputable def lsX12_octet : List (Nat × Instr × Nat) := [(0, .iload_n 1, 1), (1, .i2l, 1), (2, .lconst 0, 1), (3, .aload_n 0, 1), (4, .getfield 289, 3), (7, .iconst 1, 1), (8, .isub, 1), (9, .i2l, 1), (10, .invokestatic 102, 3), (13, .ifCond .eq 12, 3), (16, .aload_n 0, 1), (17, .getfield 96, 3), (20, .iload_n 1, 1), (21, .iaload, 1), (22, .goto 4, 3), (25, .iconst (-1), 1), (26, .ireturn, 1)]
theorem dkX12_octet : dkAll cX12_octet lsX12_octet = true := by decide +kernel
set_option maxHeartbeats 4000000 in
set_option maxRecDepth 100000 in
theorem sX12_octet (l : Launch) (dC : Nat → ClassId) (dI : Nat → Nat → Nat) (h0 : Nat) (mi : Nat → Int32) (mr : Nat → Nat) (km : Nat → ClassId) (fm_out : Nat → Int32) (fm_trust : Nat → Int32) (fm_letter : Nat → Int32) (fm_reportPlace : Nat → Int32) (fm_reportKind : Nat → Int32) (fm_struck : Nat → Int32) (fm_reportMonth : Nat → Int32) (fm_reportDay : Nat → Int32) (fm_reportKnown : Nat → Int32) (fm_deedMonth : Nat → Int32) (fm_deedDay : Nat → Int32) (fm_deedLong : Nat → Int32) (fm_deedKind : Nat → Int32) (fm_kept : Nat → Int32) (fm_tape : Nat → Int32) (fm_must : Nat → Int32) (fm_least : Nat → Int32) (fm_pin : Nat → Int32) (fm_ways : Nat → Int32) (fm_verdict : Nat → Int32) (fm_row : Nat → Int32) (fm_official : Nat → Int32) (fm_aside : Nat → Int32) (fm_worth : Nat → Int32) (p1 : Int32) (gmi_0 : gi (mi 0) 0 24) (gmi_1 : gi (mi 1) 0 5) (gmi_2 : gi (mi 2) 0 5) (gmi_4 : gi (mi 4) 0 1) (gmi_7 : gi (mi 7) 0 6) (gmi_10 : gi (mi 10) 0 24) (gmi_17 : gi (mi 17) 0 8) (gmi_23 : gi (mi 23) 0 300) (gmi_24 : gi (mi 24) 0 1) (gmi_26 : gi (mi 26) 0 1600) (gmi_29 : gi (mi 29) 0 1600) (gmi_30 : gi (mi 30) 0 1600) (gmi_33 : gi (mi 33) 0 1) (gmi_37 : gi (mi 37) 0 1) (gmi_41 : gi (mi 41) 0 24) (gmi_50 : gi (mi 50) 0 1) (gmi_51 : gi (mi 51) 0 1) (gmi_56 : gi (mi 56) 0 80) : Met l yX12_octet (.code yX12_octet cX12_octet 2 (some .int) :: wsGB) ({ frames := 1, cells := 0, slots := 0, locals := 25 }) (va_Pc [.ref h0, .int p1] (fun U => va_P (dC, dI) vwCl (MWn h0 mr km (mi 0) (mi 1) (mi 2) (mi 3) (mi 4) (mi 5) (mi 6) (mi 7) (mi 10) (mi 17) (mi 23) (mi 24) (mi 26) (mi 27) (mi 28) (mi 29) (mi 30) (mi 31) (mi 32) (mi 33) (mi 37) (mi 41) (mi 42) (mi 43) (mi 44) (mi 45) (mi 47) (mi 48) (mi 49) (mi 50) (mi 51) (mi 54) (mi 56) fm_trust fm_letter fm_reportPlace fm_reportKind fm_struck fm_reportMonth fm_reportDay fm_reportKnown fm_deedMonth fm_deedDay fm_deedLong fm_deedKind fm_kept fm_tape fm_must fm_least fm_pin fm_ways fm_verdict fm_row fm_official fm_aside fm_worth fm_out) U.heap ∧ va_K (dC, dI) vwCl (MT km) U)) (va_Qi (fun (r : Int32) (u : Unit) => gi r (-2147483648) 2147483647) (fun _ _ => True) (fun _ => False)) 0 0 (fun _ => False) := by
  refine Met.ofW (cc := cX12_octet) (maxL := 2) (ret := (some .int)) (by decide) rfl ?_
  intro p e s m args below meth c s₁ B hml hv
  obtain ⟨rfl, hP, hK⟩ := hv
  have hx := B.exec
  have hb := B.bytes
  have hr := B.returns
  have hts := atoms_spec (ws := (.code yX12_octet cX12_octet 2 (some .int) :: wsGB)) B.pre
  have hown : s.vm.findClass RX12 = some m.cls := findClass_of_methodNamed B.named
  have hlocks := B.notSynchronized
  have hS : va_S (fun _ => False) s.heap s.heap [] := va_S.rf
  have hl := lv_entry ([.ref h0, .int p1]) (n := 2) (Nat.le_of_ble_eq_true rfl)
  rw [lg_entry_eq]
  generalize (lg_sl ([.ref h0, .int p1]) ++ List.replicate (2 - (lg_sl ([.ref h0, .int p1])).length) Slot.unset).toArray = ls at hl ⊢
  have hl : lv_has ls 2 [(0, .ref h0), (1, .int p1)] := hl
  refine lv_iload_n hx hb (dk_at dkX12_octet 0 rfl) rfl (lv_at hl 1 rfl) ?_
  refine lv_i2l (v := (p1).toInt64) hx hb (dk_at dkX12_octet 1 rfl) rfl ?_
  refine lv_topl (fun l_10 el_10 => ?_)
  refine lv_lconst (v := 0) hx hb (dk_at dkX12_octet 2 rfl) (by decide) ?_
  refine lv_aload_n hx hb (dk_at dkX12_octet 3 rfl) rfl (lv_at hl 0 rfl) ?_
  refine va_get (D := (dC, dI)) (ci := 12) (v := .int (mi 56)) (C := RX12) (T := TX12) (N := 57) hx hb hts (fun w h => List.mem_cons_of_mem _ (jnGB_X12 w h)) hown hK hP 0 rfl rfl 56 (by decide) (hts _ (List.mem_cons_of_mem _ mGB_219)) (fun _ h9 => h9) rfl (dk_at dkX12_octet 4 rfl) ?_
  refine lv_iconst (v := 1) hx hb (dk_at dkX12_octet 5 rfl) (by decide) ?_
  refine lv_isub hx hb (dk_at dkX12_octet 6 rfl) ?_
  refine lv_topi (fun x_11 ex_11 => ?_)
  have gx_11 : gi x_11 (-1) 79 := gi_sub ex_11 gmi_56 (gi_c 1 1 (by decide)) (by decide)
  refine lv_i2l (v := (x_11).toInt64) hx hb (dk_at dkX12_octet 7 rfl) rfl ?_
  refine lv_topl (fun l_12 el_12 => ?_)
  have hPc := hP.sub (ws' := []) [] rfl
  have hKc := hK.sub (tys' := []) [] rfl
  refine va_calli (va_runS (As := [.long l_10, .long 0, .long l_12]) (rest := []) ⟨hx, hb, hml, hown, hts⟩ (sX12_in l dC dI l_10 0 l_12) (cwS 3 hts (gz_gS mGB_47 mGB_48 mGB_1 mGB_49 goodGB) rfl rfl rfl (by decide +kernel) ⟨Nat.le_of_ble_eq_true rfl, Nat.le_of_ble_eq_true rfl⟩) ⟨bl_R, fun U hU hW => ⟨rfl, by rw [hU]; exact hPc, va_K.moved hW.alike hKc⟩⟩ rfl rfl hl.1 rfl (lv_room (Nat.le_of_ble_eq_true rfl)) (dk_at dkX12_octet 8 rfl) ⟨Nat.zero_le _, Nat.zero_le _⟩) hS (fun q _ h => h.elim) (fun q h => h.elim) (fun r_13 u t H1 locs ht hvm hw hB hz1 hk1 hS => ?_)
  obtain ⟨hw, hE⟩ := hw
  have hP := gz_keep hP hk1
  generalize H1 = H at hP hS ⊢
  have gr_13 : gi r_13 0 1 := hw.1
  have hqr_13 := hw.2
  refine lv_if_eq (tgt := 25) hx hb (dk_at dkX12_octet 9 rfl) (by decide) (fun c_14 => ?_) (fun c_14 => ?_)
  · have g_15 : gi r_13 0 0 := gi_eq c_14 (gi_c 0 0 (by decide))
    refine lv_iconst (v := (-1)) hx hb (dk_at dkX12_octet 15 rfl) (by decide) ?_
    exact W.iret (v := (-1)) hx hb hr (fun t ht hW => ⟨⟨(-1), (), rfl, (gi_any (-1)), trivial⟩, hS.F ht⟩) hS.2.2 (dk_at dkX12_octet 16 rfl)
  · have g_16 : gi r_13 1 1 := gi_ne_lo c_14 gr_13 (gi_c 0 0 (by decide)) (by decide)
    have g_17 : gi p1 0 79 := gi_cap (gi_any p1) (gz_inr (hqr_13.1 (gz_one g_16)) el_10 (A := 0) (B := 79) (by decide) (gz_l2u el_12 gx_11)) (by decide)
    refine lv_aload_n hx hb (dk_at dkX12_octet 10 rfl) rfl (lv_at hl 0 rfl) ?_
    refine va_get (D := (dC, dI)) (ci := 12) (v := .ref (mr 23)) (C := RX12) (T := TX12) (N := 57) hx hb hts (fun w h => List.mem_cons_of_mem _ (jnGB_X12 w h)) hown hK hP 0 rfl rfl 55 (by decide) (hts _ (List.mem_cons_of_mem _ mGB_39)) (fun _ h9 => h9) rfl (dk_at dkX12_octet 11 rfl) ?_
    refine lv_iload_n hx hb (dk_at dkX12_octet 12 rfl) rfl (lv_at hl 1 rfl) ?_
    refine va_iald hx hb hK hP 24 23 rfl rfl (gi_in g_17 (by decide)) (dk_at dkX12_octet 13 rfl) ?_
    refine lv_topi (fun x_18 ex_18 => ?_)
    refine lv_goto (tgt := 26) hx hb (dk_at dkX12_octet 14 rfl) (by decide) ?_
    exact W.iret (v := x_18) hx hb hr (fun t ht hW => ⟨⟨x_18, (), rfl, (gi_any x_18), trivial⟩, hS.F ht⟩) hS.2.2 (dk_at dkX12_octet 16 rfl)
noncomputable def lsX12_runs : List (Nat × Instr × Nat) := [(0, .aload_n 0, 1), (1, .getfield 126, 3), (4, .ifCond .eq 27, 3), (7, .iload_n 1, 1), (8, .i2l, 1), (9, .lconst 1, 1), (10, .ldc2_w 494, 3), (13, .invokestatic 102, 3), (16, .ifCond .eq 15, 3), (19, .iload_n 2, 1), (20, .i2l, 1), (21, .lconst 1, 1), (22, .ldc2_w 494, 3), (25, .invokestatic 102, 3), (28, .ifCond .ne 6, 3), (31, .bipush (-2), 2), (33, .ireturn, 1), (34, .aload_n 0, 1), (35, .sipush 999, 3), (38, .invokevirtual 362, 3), (41, .aload_n 0, 1), (42, .invokevirtual 365, 3), (45, .istore_n 3, 1), (46, .aload_n 0, 1), (47, .getfield 120, 3), (50, .istore 4, 2), (52, .aload_n 0, 1), (53, .getfield 123, 3), (56, .istore 5, 2), (58, .aload_n 0, 1), (59, .iload_n 1, 1), (60, .putfield 120, 3), (63, .aload_n 0, 1), (64, .iload_n 2, 1), (65, .putfield 123, 3), (68, .aload_n 0, 1), (69, .sipush 999, 3), (72, .invokevirtual 362, 3), (75, .aload_n 0, 1), (76, .invokevirtual 365, 3), (79, .iload_n 3, 1), (80, .if_icmp .ne 5, 3), (83, .iconst 0, 1), (84, .ireturn, 1), (85, .aload_n 0, 1), (86, .iload 4, 2), (88, .putfield 120, 3), (91, .aload_n 0, 1), (92, .iload 5, 2), (94, .putfield 123, 3), (97, .bipush (-5), 2), (99, .ireturn, 1)]
theorem dkX12_runs : dkAll cX12_runs lsX12_runs = true := by decide +kernel
abbrev pb_sX12_runs (dC : Nat → ClassId) (dI : Nat → Nat → Nat) (A9 : Nat → Prop) (h0 : Nat) (mi : Nat → Int32) (mr : Nat → Nat) (km : Nat → ClassId) (fm_must : Nat → Int32) (fm_least : Nat → Int32) (fm_pin : Nat → Int32) (fm_ways : Nat → Int32) (fm_verdict : Nat → Int32) (fm_row : Nat → Int32) (fm_struck : Nat → Int32) (fm_reportKnown : Nat → Int32) (fm_reportPlace : Nat → Int32) (fm_reportMonth : Nat → Int32) (fm_reportDay : Nat → Int32) (fm_reportKind : Nat → Int32) (fm_trust : Nat → Int32) (fm_letter : Nat → Int32) (fm_deedMonth : Nat → Int32) (fm_deedDay : Nat → Int32) (fm_deedLong : Nat → Int32) (fm_deedKind : Nat → Int32) (fm_kept : Nat → Int32) (fm_tape : Nat → Int32) (fm_official : Nat → Int32) (fm_aside : Nat → Int32) (fm_worth : Nat → Int32) (fm_out : Nat → Int32) (p1 : Int32) (p2 : Int32) (w0_1 : Int32) (w0_2 : Int32) (w0_37 : Int32) (w0_41 : Int32) (z1 : Nat → Int32) (z2 : Nat → Int32) (z3 : Nat → Int32) (z4 : Nat → Int32) (z5 : Nat → Int32) (z6 : Nat → Int32) (t : State) : Prop := gi w0_1 0 5 ∧ gi w0_2 0 5 ∧ gi w0_37 0 1 ∧ gi w0_41 0 24 ∧ ga z6 24 0 23 ∧ va_P (dC, dI) vwCl (MWn h0 mr km (mi 0) w0_1 w0_2 (mi 3) (mi 4) (mi 5) (mi 6) (mi 7) (mi 10) (mi 17) (mi 23) (mi 24) (mi 26) (mi 27) (mi 28) (mi 29) (mi 30) (mi 31) (mi 32) (mi 33) w0_37 w0_41 (mi 42) (mi 43) (mi 44) (mi 45) (mi 47) (mi 48) (mi 49) (mi 50) (mi 51) (mi 54) (mi 56) fm_trust fm_letter fm_reportPlace fm_reportKind fm_struck fm_reportMonth fm_reportDay fm_reportKnown fm_deedMonth fm_deedDay fm_deedLong fm_deedKind fm_kept fm_tape z1 z2 z3 z4 z5 z6 fm_official fm_aside fm_worth fm_out) t.heap ∧ va_D A9 (MWn h0 mr km (mi 0) w0_1 w0_2 (mi 3) (mi 4) (mi 5) (mi 6) (mi 7) (mi 10) (mi 17) (mi 23) (mi 24) (mi 26) (mi 27) (mi 28) (mi 29) (mi 30) (mi 31) (mi 32) (mi 33) w0_37 w0_41 (mi 42) (mi 43) (mi 44) (mi 45) (mi 47) (mi 48) (mi 49) (mi 50) (mi 51) (mi 54) (mi 56) fm_trust fm_letter fm_reportPlace fm_reportKind fm_struck fm_reportMonth fm_reportDay fm_reportKnown fm_deedMonth fm_deedDay fm_deedLong fm_deedKind fm_kept fm_tape z1 z2 z3 z4 z5 z6 fm_official fm_aside fm_worth fm_out)
set_option maxHeartbeats 4000000 in
set_option maxRecDepth 100000 in
theorem sX12_runs (l : Launch) (dC : Nat → ClassId) (dI : Nat → Nat → Nat) (sz : Nat) (h0 : Nat) (mi : Nat → Int32) (mr : Nat → Nat) (km : Nat → ClassId) (fm_must : Nat → Int32) (fm_least : Nat → Int32) (fm_pin : Nat → Int32) (fm_ways : Nat → Int32) (fm_verdict : Nat → Int32) (fm_row : Nat → Int32) (fm_struck : Nat → Int32) (fm_reportKnown : Nat → Int32) (fm_reportPlace : Nat → Int32) (fm_reportMonth : Nat → Int32) (fm_reportDay : Nat → Int32) (fm_reportKind : Nat → Int32) (fm_trust : Nat → Int32) (fm_letter : Nat → Int32) (fm_deedMonth : Nat → Int32) (fm_deedDay : Nat → Int32) (fm_deedLong : Nat → Int32) (fm_deedKind : Nat → Int32) (fm_kept : Nat → Int32) (fm_tape : Nat → Int32) (fm_official : Nat → Int32) (fm_aside : Nat → Int32) (fm_worth : Nat → Int32) (fm_out : Nat → Int32) (p1 : Int32) (p2 : Int32) (gmi_0 : gi (mi 0) 0 24) (gmi_1 : gi (mi 1) 0 5) (gmi_2 : gi (mi 2) 0 5) (gmi_4 : gi (mi 4) 0 1) (gmi_7 : gi (mi 7) 0 6) (gmi_10 : gi (mi 10) 0 24) (gmi_17 : gi (mi 17) 0 8) (gmi_23 : gi (mi 23) 0 300) (gmi_24 : gi (mi 24) 0 1) (gmi_26 : gi (mi 26) 0 1600) (gmi_29 : gi (mi 29) 0 1600) (gmi_30 : gi (mi 30) 0 1600) (gmi_33 : gi (mi 33) 0 1) (gmi_37 : gi (mi 37) 0 1) (gmi_41 : gi (mi 41) 0 24) (gmi_50 : gi (mi 50) 0 1) (gmi_51 : gi (mi 51) 0 1) (gmi_56 : gi (mi 56) 0 80) (gfm_row : ga fm_row 24 0 23) (gfm_struck : ga fm_struck 24 0 1) (gfm_reportKnown : ga fm_reportKnown 24 0 999) (gfm_reportPlace : ga fm_reportPlace 24 0 5) (gfm_reportMonth : ga fm_reportMonth 24 0 23) (gfm_reportDay : ga fm_reportDay 24 0 999) : Met l yX12_runs (.code yX12_runs cX12_runs 6 (some .int) :: wsGB) ({ frames := 5, cells := 0, slots := 0, locals := 119 }) (va_Pc [.ref h0, .int p1, .int p2] (fun U => U.heap.size = sz ∧ va_P (dC, dI) vwCl (MWn h0 mr km (mi 0) (mi 1) (mi 2) (mi 3) (mi 4) (mi 5) (mi 6) (mi 7) (mi 10) (mi 17) (mi 23) (mi 24) (mi 26) (mi 27) (mi 28) (mi 29) (mi 30) (mi 31) (mi 32) (mi 33) (mi 37) (mi 41) (mi 42) (mi 43) (mi 44) (mi 45) (mi 47) (mi 48) (mi 49) (mi 50) (mi 51) (mi 54) (mi 56) fm_trust fm_letter fm_reportPlace fm_reportKind fm_struck fm_reportMonth fm_reportDay fm_reportKnown fm_deedMonth fm_deedDay fm_deedLong fm_deedKind fm_kept fm_tape fm_must fm_least fm_pin fm_ways fm_verdict fm_row fm_official fm_aside fm_worth fm_out) U.heap ∧ va_K (dC, dI) vwCl (MT km) U ∧ va_D (fun _ => True) (MWn h0 mr km (mi 0) (mi 1) (mi 2) (mi 3) (mi 4) (mi 5) (mi 6) (mi 7) (mi 10) (mi 17) (mi 23) (mi 24) (mi 26) (mi 27) (mi 28) (mi 29) (mi 30) (mi 31) (mi 32) (mi 33) (mi 37) (mi 41) (mi 42) (mi 43) (mi 44) (mi 45) (mi 47) (mi 48) (mi 49) (mi 50) (mi 51) (mi 54) (mi 56) fm_trust fm_letter fm_reportPlace fm_reportKind fm_struck fm_reportMonth fm_reportDay fm_reportKnown fm_deedMonth fm_deedDay fm_deedLong fm_deedKind fm_kept fm_tape fm_must fm_least fm_pin fm_ways fm_verdict fm_row fm_official fm_aside fm_worth fm_out))) (va_Qi (fun (r : Int32) (u : Unit) => gi r (-5) 0) (fun _ t => ∃ (w0_1 : Int32) (w0_2 : Int32) (w0_37 : Int32) (w0_41 : Int32) (z1 : Nat → Int32) (z2 : Nat → Int32) (z3 : Nat → Int32) (z4 : Nat → Int32) (z5 : Nat → Int32) (z6 : Nat → Int32), pb_sX12_runs dC dI (va_A (MWn h0 mr km (mi 0) (mi 1) (mi 2) (mi 3) (mi 4) (mi 5) (mi 6) (mi 7) (mi 10) (mi 17) (mi 23) (mi 24) (mi 26) (mi 27) (mi 28) (mi 29) (mi 30) (mi 31) (mi 32) (mi 33) (mi 37) (mi 41) (mi 42) (mi 43) (mi 44) (mi 45) (mi 47) (mi 48) (mi 49) (mi 50) (mi 51) (mi 54) (mi 56) fm_trust fm_letter fm_reportPlace fm_reportKind fm_struck fm_reportMonth fm_reportDay fm_reportKnown fm_deedMonth fm_deedDay fm_deedLong fm_deedKind fm_kept fm_tape fm_must fm_least fm_pin fm_ways fm_verdict fm_row fm_official fm_aside fm_worth fm_out) sz) h0 mi mr km fm_must fm_least fm_pin fm_ways fm_verdict fm_row fm_struck fm_reportKnown fm_reportPlace fm_reportMonth fm_reportDay fm_reportKind fm_trust fm_letter fm_deedMonth fm_deedDay fm_deedLong fm_deedKind fm_kept fm_tape fm_official fm_aside fm_worth fm_out p1 p2 w0_1 w0_2 w0_37 w0_41 z1 z2 z3 z4 z5 z6 t) (va_A (MWn h0 mr km (mi 0) (mi 1) (mi 2) (mi 3) (mi 4) (mi 5) (mi 6) (mi 7) (mi 10) (mi 17) (mi 23) (mi 24) (mi 26) (mi 27) (mi 28) (mi 29) (mi 30) (mi 31) (mi 32) (mi 33) (mi 37) (mi 41) (mi 42) (mi 43) (mi 44) (mi 45) (mi 47) (mi 48) (mi 49) (mi 50) (mi 51) (mi 54) (mi 56) fm_trust fm_letter fm_reportPlace fm_reportKind fm_struck fm_reportMonth fm_reportDay fm_reportKnown fm_deedMonth fm_deedDay fm_deedLong fm_deedKind fm_kept fm_tape fm_must fm_least fm_pin fm_ways fm_verdict fm_row fm_official fm_aside fm_worth fm_out) sz)) 0 0 (va_A (MWn h0 mr km (mi 0) (mi 1) (mi 2) (mi 3) (mi 4) (mi 5) (mi 6) (mi 7) (mi 10) (mi 17) (mi 23) (mi 24) (mi 26) (mi 27) (mi 28) (mi 29) (mi 30) (mi 31) (mi 32) (mi 33) (mi 37) (mi 41) (mi 42) (mi 43) (mi 44) (mi 45) (mi 47) (mi 48) (mi 49) (mi 50) (mi 51) (mi 54) (mi 56) fm_trust fm_letter fm_reportPlace fm_reportKind fm_struck fm_reportMonth fm_reportDay fm_reportKnown fm_deedMonth fm_deedDay fm_deedLong fm_deedKind fm_kept fm_tape fm_must fm_least fm_pin fm_ways fm_verdict fm_row fm_official fm_aside fm_worth fm_out) sz) := by
  refine Met.ofW (cc := cX12_runs) (maxL := 6) (ret := (some .int)) (by decide) rfl ?_
  intro p e s m args below meth c s₁ B hml hv
  obtain ⟨rfl, hsz, hP, hK, hD0⟩ := hv
  have hx := B.exec
  have hb := B.bytes
  have hr := B.returns
  have hts := atoms_spec (ws := (.code yX12_runs cX12_runs 6 (some .int) :: wsGB)) B.pre
  have hown : s.vm.findClass RX12 = some m.cls := findClass_of_methodNamed B.named
  have hlocks := B.notSynchronized
  subst hsz
  have hD := hD0.self (sz := s.heap.size)
  generalize hAe : va_A (MWn h0 mr km (mi 0) (mi 1) (mi 2) (mi 3) (mi 4) (mi 5) (mi 6) (mi 7) (mi 10) (mi 17) (mi 23) (mi 24) (mi 26) (mi 27) (mi 28) (mi 29) (mi 30) (mi 31) (mi 32) (mi 33) (mi 37) (mi 41) (mi 42) (mi 43) (mi 44) (mi 45) (mi 47) (mi 48) (mi 49) (mi 50) (mi 51) (mi 54) (mi 56) fm_trust fm_letter fm_reportPlace fm_reportKind fm_struck fm_reportMonth fm_reportDay fm_reportKnown fm_deedMonth fm_deedDay fm_deedLong fm_deedKind fm_kept fm_tape fm_must fm_least fm_pin fm_ways fm_verdict fm_row fm_official fm_aside fm_worth fm_out) s.heap.size = A at hD ⊢
  have hA : ∀ q : Nat, s.heap.size ≤ q → A q := fun q h => by rw [← hAe]; exact Or.inr h
  have hS : va_S A s.heap s.heap [] := va_S.rf
  have hl := lv_entry ([.ref h0, .int p1, .int p2]) (n := 6) (Nat.le_of_ble_eq_true rfl)
  rw [lg_entry_eq]
  generalize (lg_sl ([.ref h0, .int p1, .int p2]) ++ List.replicate (6 - (lg_sl ([.ref h0, .int p1, .int p2])).length) Slot.unset).toArray = ls at hl ⊢
  have hl : lv_has ls 6 [(0, .ref h0), (1, .int p1), (2, .int p2)] := hl
  refine lv_aload_n hx hb (dk_at dkX12_runs 0 rfl) rfl (lv_at hl 0 rfl) ?_
  refine va_get (D := (dC, dI)) (ci := 12) (v := .int (mi 3)) (C := RX12) (T := TX12) (N := 57) hx hb hts (fun w h => List.mem_cons_of_mem _ (jnGB_X12 w h)) hown hK hP 0 rfl rfl 3 (by decide) (hts _ (List.mem_cons_of_mem _ mGB_106)) (fun _ h9 => h9) rfl (dk_at dkX12_runs 1 rfl) ?_
  refine lv_if_eq (tgt := 31) hx hb (dk_at dkX12_runs 2 rfl) (by decide) (fun c_71 => ?_) (fun c_71 => ?_)
  · have g_72 : gi (mi 3) 0 0 := gi_eq c_71 (gi_c 0 0 (by decide))
    refine lv_bipush (v := (-2)) hx hb (dk_at dkX12_runs 15 rfl) (by decide) ?_
    exact W.iret (v := (-2)) hx hb hr (fun t ht hW => ⟨⟨(-2), (), rfl, (gi_w (gi_c (-2) (-2) (by decide)) (by decide)), (mi 1), (mi 2), (mi 37), (mi 41), fm_must, fm_least, fm_pin, fm_ways, fm_verdict, fm_row, gmi_1, gmi_2, gmi_37, gmi_41, gfm_row, by rw [ht]; exact hP, hD⟩, hS.F ht⟩) hS.2.2 (dk_at dkX12_runs 16 rfl)
  · refine lv_iload_n hx hb (dk_at dkX12_runs 3 rfl) rfl (lv_at hl 1 rfl) ?_
    refine lv_i2l (v := (p1).toInt64) hx hb (dk_at dkX12_runs 4 rfl) rfl ?_
    refine lv_topl (fun l_73 el_73 => ?_)
    refine lv_lconst (v := 1) hx hb (dk_at dkX12_runs 5 rfl) (by decide) ?_
    refine lv_ldc2 (own := RX12) (v := 5) hx hb hown (hts _ (List.mem_cons_of_mem _ mGB_595)) (dk_at dkX12_runs 6 rfl) ?_
    have hPc := hP.sub (ws' := []) [] rfl
    have hKc := hK.sub (tys' := []) [] rfl
    refine va_calli (va_runS (As := [.long l_73, .long 1, .long 5]) (rest := []) ⟨hx, hb, hml, hown, hts⟩ (sX12_in l dC dI l_73 1 5) (cwS 3 hts (gz_gS mGB_47 mGB_48 mGB_1 mGB_49 goodGB) rfl rfl rfl (by decide +kernel) ⟨Nat.le_of_ble_eq_true rfl, Nat.le_of_ble_eq_true rfl⟩) ⟨bl_R, fun U hU hW => ⟨rfl, by rw [hU]; exact hPc, va_K.moved hW.alike hKc⟩⟩ rfl rfl hl.1 rfl (lv_room (Nat.le_of_ble_eq_true rfl)) (dk_at dkX12_runs 7 rfl) ⟨Nat.zero_le _, Nat.zero_le _⟩) hS (fun q _ h => h.elim) (fun q h => h.elim) (fun r_74 u t H1 locs ht hvm hw hB hz1 hk1 hS => ?_)
    obtain ⟨hw, hE⟩ := hw
    have hP := gz_keep hP hk1
    generalize H1 = H at hP hS ⊢
    have gr_74 : gi r_74 0 1 := hw.1
    have hqr_74 := hw.2
    refine lv_if_eq (tgt := 31) hx hb (dk_at dkX12_runs 8 rfl) (by decide) (fun c_75 => ?_) (fun c_75 => ?_)
    · have g_76 : gi r_74 0 0 := gi_eq c_75 (gi_c 0 0 (by decide))
      refine lv_bipush (v := (-2)) hx hb (dk_at dkX12_runs 15 rfl) (by decide) ?_
      exact W.iret (v := (-2)) hx hb hr (fun t ht hW => ⟨⟨(-2), (), rfl, (gi_w (gi_c (-2) (-2) (by decide)) (by decide)), (mi 1), (mi 2), (mi 37), (mi 41), fm_must, fm_least, fm_pin, fm_ways, fm_verdict, fm_row, gmi_1, gmi_2, gmi_37, gmi_41, gfm_row, by rw [ht]; exact hP, hD⟩, hS.F ht⟩) hS.2.2 (dk_at dkX12_runs 16 rfl)
    · have g_77 : gi r_74 1 1 := gi_ne_lo c_75 gr_74 (gi_c 0 0 (by decide)) (by decide)
      have g_78 : gi p1 1 5 := gi_cap (gi_any p1) (gz_inr (hqr_74.1 (gz_one g_77)) el_73 (A := 1) (B := 5) (by decide) (by decide)) (by decide)
      refine lv_iload_n hx hb (dk_at dkX12_runs 9 rfl) rfl (lv_at hl 2 rfl) ?_
      refine lv_i2l (v := (p2).toInt64) hx hb (dk_at dkX12_runs 10 rfl) rfl ?_
      refine lv_topl (fun l_79 el_79 => ?_)
      refine lv_lconst (v := 1) hx hb (dk_at dkX12_runs 11 rfl) (by decide) ?_
      refine lv_ldc2 (own := RX12) (v := 5) hx hb hown (hts _ (List.mem_cons_of_mem _ mGB_595)) (dk_at dkX12_runs 12 rfl) ?_
      have hPc := hP.sub (ws' := []) [] rfl
      have hKc := hK.sub (tys' := []) [] rfl
      refine va_calli (va_runS (As := [.long l_79, .long 1, .long 5]) (rest := []) ⟨hx, hb, hml, hown, hts⟩ (sX12_in l dC dI l_79 1 5) (cwS 3 hts (gz_gS mGB_47 mGB_48 mGB_1 mGB_49 goodGB) rfl rfl rfl (by decide +kernel) ⟨Nat.le_of_ble_eq_true rfl, Nat.le_of_ble_eq_true rfl⟩) ⟨bl_R, fun U hU hW => ⟨rfl, by rw [hU]; exact hPc, va_K.moved hW.alike hKc⟩⟩ rfl rfl hl.1 rfl (lv_room (Nat.le_of_ble_eq_true rfl)) (dk_at dkX12_runs 13 rfl) ⟨Nat.zero_le _, Nat.zero_le _⟩) hS (fun q _ h => h.elim) (fun q h => h.elim) (fun r_80 u t H1 locs ht hvm hw hB hz1 hk1 hS => ?_)
      obtain ⟨hw, hE⟩ := hw
      have hP := gz_keep hP hk1
      generalize H1 = H at hP hS ⊢
      have gr_80 : gi r_80 0 1 := hw.1
      have hqr_80 := hw.2
      refine lv_if_ne (tgt := 34) hx hb (dk_at dkX12_runs 14 rfl) (by decide) (fun c_81 => ?_) (fun c_81 => ?_)
      · have g_82 : gi r_80 1 1 := gi_ne_lo c_81 gr_80 (gi_c 0 0 (by decide)) (by decide)
        have g_83 : gi p2 1 5 := gi_cap (gi_any p2) (gz_inr (hqr_80.1 (gz_one g_82)) el_79 (A := 1) (B := 5) (by decide) (by decide)) (by decide)
        refine lv_aload_n hx hb (dk_at dkX12_runs 17 rfl) rfl (lv_at hl 0 rfl) ?_
        refine lv_sipush (v := 999) hx hb (dk_at dkX12_runs 18 rfl) (by decide) ?_
        have hFc := gz_fullF hD hS hA
        refine va_callv (va_runV (As := [.int 999]) (rest := []) ⟨hx, hb, hml, hown, hts⟩ (sX12_judgesAll l dC dI H.size h0 mi mr km fm_must fm_least fm_pin fm_ways fm_verdict fm_row fm_struck fm_reportKnown fm_reportPlace fm_reportMonth fm_reportDay fm_reportKind fm_trust fm_letter fm_deedMonth fm_deedDay fm_deedLong fm_deedKind fm_kept fm_tape fm_official fm_aside fm_worth fm_out 999 gmi_0 gmi_1 gmi_2 gmi_4 gmi_7 gmi_10 gmi_17 gmi_23 gmi_24 gmi_26 gmi_29 gmi_30 gmi_33 gmi_37 gmi_41 gmi_50 gmi_51 gmi_56 gfm_row gfm_struck gfm_reportKnown gfm_reportPlace gfm_reportMonth gfm_reportDay) (cwV 1 hts (gz_gV mGB_261 mGB_262 mGB_263 mGB_1 mGB_264 goodGB) rfl rfl rfl (by decide +kernel) ⟨Nat.le_of_ble_eq_true rfl, Nat.le_of_ble_eq_true rfl⟩) ⟨bl_W, mw_recv hK hP, fun U hU hW => ⟨rfl, by rw [hU], by rw [hU]; exact hP, va_K.moved hW.alike hK, hD.weaken (fun _ _ _ _ => trivial)⟩⟩ rfl rfl hl.1 rfl (lv_room (Nat.le_of_ble_eq_true rfl)) (dk_at dkX12_runs 19 rfl) ⟨Nat.zero_le _, Nat.zero_le _⟩) hS (fun q _ h => hFc q h) hFc (fun u t H1 locs ht hvm hw hB hz1 hk1 hS => ?_)
        obtain ⟨y_85, y_86, f_87, f_88, f_89, f_90, f_91, f_92, hB⟩ := hB
        obtain ⟨gy_85, gy_86, gf_92, hP1, hD1⟩ := hB
        rw [ht] at hP1
        have hD : va_D A (MWn h0 mr km (mi 0) (mi 1) (mi 2) (mi 3) (mi 4) (mi 5) (mi 6) (mi 7) (mi 10) (mi 17) (mi 23) (mi 24) (mi 26) (mi 27) (mi 28) (mi 29) (mi 30) (mi 31) (mi 32) (mi 33) y_85 y_86 (mi 42) (mi 43) (mi 44) (mi 45) (mi 47) (mi 48) (mi 49) (mi 50) (mi 51) (mi 54) (mi 56) fm_trust fm_letter fm_reportPlace fm_reportKind fm_struck fm_reportMonth fm_reportDay fm_reportKnown fm_deedMonth fm_deedDay fm_deedLong fm_deedKind fm_kept fm_tape f_87 f_88 f_89 f_90 f_91 f_92 fm_official fm_aside fm_worth fm_out) := gz_fullD hFc hD1
        have hP : va_P (dC, dI) vwCl (MWn h0 mr km (mi 0) (mi 1) (mi 2) (mi 3) (mi 4) (mi 5) (mi 6) (mi 7) (mi 10) (mi 17) (mi 23) (mi 24) (mi 26) (mi 27) (mi 28) (mi 29) (mi 30) (mi 31) (mi 32) (mi 33) y_85 y_86 (mi 42) (mi 43) (mi 44) (mi 45) (mi 47) (mi 48) (mi 49) (mi 50) (mi 51) (mi 54) (mi 56) fm_trust fm_letter fm_reportPlace fm_reportKind fm_struck fm_reportMonth fm_reportDay fm_reportKnown fm_deedMonth fm_deedDay fm_deedLong fm_deedKind fm_kept fm_tape f_87 f_88 f_89 f_90 f_91 f_92 fm_official fm_aside fm_worth fm_out) H1 := hP1
        generalize H1 = H at hP hS ⊢
        refine lv_aload_n hx hb (dk_at dkX12_runs 20 rfl) rfl (lv_at hl 0 rfl) ?_
        refine va_calli (va_runV (As := []) (rest := []) ⟨hx, hb, hml, hown, hts⟩ (sX12_takenBits l dC dI h0 (upd (upd mi 37 y_85) 41 y_86) mr km f_91 fm_trust fm_letter fm_reportPlace fm_reportKind fm_struck fm_reportMonth fm_reportDay fm_reportKnown fm_deedMonth fm_deedDay fm_deedLong fm_deedKind fm_kept fm_tape f_87 f_88 f_89 f_90 f_92 fm_official fm_aside fm_worth fm_out gmi_0 gmi_1 gmi_2 gmi_4 gmi_7 gmi_10 gmi_17 gmi_23 gmi_24 gmi_26 gmi_29 gmi_30 gmi_33 gy_85 gy_86 gmi_50 gmi_51 gmi_56) (cwV 0 hts (gz_gV mGB_327 mGB_328 mGB_329 mGB_1 mGB_330 goodGB) rfl rfl rfl (by decide +kernel) ⟨Nat.le_of_ble_eq_true rfl, Nat.le_of_ble_eq_true rfl⟩) ⟨bl_R, mw_recv hK hP, fun U hU hW => ⟨rfl, by rw [hU]; exact hP, va_K.moved hW.alike hK⟩⟩ rfl rfl hl.1 rfl (lv_room (Nat.le_of_ble_eq_true rfl)) (dk_at dkX12_runs 21 rfl) ⟨Nat.zero_le _, Nat.zero_le _⟩) hS (fun q _ h => h.elim) (fun q h => h.elim) (fun r_93 u t H1 locs ht hvm hw hB hz1 hk1 hS => ?_)
        have hP := gz_keep hP hk1
        generalize H1 = H at hP hS ⊢
        refine lv_istore_n (lv' := [(3, .int r_93), (0, .ref h0), (1, .int p1), (2, .int p2)]) hx hb (dk_at dkX12_runs 22 rfl) rfl hl (by decide) rfl (fun ls hl => ?_)
        refine lv_aload_n hx hb (dk_at dkX12_runs 23 rfl) rfl (lv_at hl 1 rfl) ?_
        refine va_get (D := (dC, dI)) (ci := 12) (v := .int (mi 1)) (C := RX12) (T := TX12) (N := 57) hx hb hts (fun w h => List.mem_cons_of_mem _ (jnGB_X12 w h)) hown hK hP 0 rfl rfl 1 (by decide) (hts _ (List.mem_cons_of_mem _ mGB_104)) (fun _ h9 => h9) rfl (dk_at dkX12_runs 24 rfl) ?_
        refine lv_istore (lv' := [(4, .int (mi 1)), (3, .int r_93), (0, .ref h0), (1, .int p1), (2, .int p2)]) hx hb (dk_at dkX12_runs 25 rfl) hl (by decide) rfl (fun ls hl => ?_)
        refine lv_aload_n hx hb (dk_at dkX12_runs 26 rfl) rfl (lv_at hl 2 rfl) ?_
        refine va_get (D := (dC, dI)) (ci := 12) (v := .int (mi 2)) (C := RX12) (T := TX12) (N := 57) hx hb hts (fun w h => List.mem_cons_of_mem _ (jnGB_X12 w h)) hown hK hP 0 rfl rfl 2 (by decide) (hts _ (List.mem_cons_of_mem _ mGB_105)) (fun _ h9 => h9) rfl (dk_at dkX12_runs 27 rfl) ?_
        refine lv_istore (lv' := [(5, .int (mi 2)), (4, .int (mi 1)), (3, .int r_93), (0, .ref h0), (1, .int p1), (2, .int p2)]) hx hb (dk_at dkX12_runs 28 rfl) hl (by decide) rfl (fun ls hl => ?_)
        refine lv_aload_n hx hb (dk_at dkX12_runs 29 rfl) rfl (lv_at hl 3 rfl) ?_
        refine lv_iload_n hx hb (dk_at dkX12_runs 30 rfl) rfl (lv_at hl 4 rfl) ?_
        refine va_put (D := (dC, dI)) (ci := 12) (v := .int p1) (ty := .int) (C := RX12) (T := TX12) (N := 57) hx hb hts (fun w h => List.mem_cons_of_mem _ (jnGB_X12 w h)) tyX12 tyX12_ok nmX12 hown hK hP hD hS 0 rfl rfl 1 (by decide) (hts _ (List.mem_cons_of_mem _ mGB_104)) (fun _ h9 => h9) rfl (by decide +kernel) rfl rfl (Nat.le_of_ble_eq_true rfl) (dk_at dkX12_runs 31 rfl) (fun H locs hP hD hS => ?_)
        obtain ⟨hP, hD⟩ := gz_both (w := (MWn h0 mr km (mi 0) p1 (mi 2) (mi 3) (mi 4) (mi 5) (mi 6) (mi 7) (mi 10) (mi 17) (mi 23) (mi 24) (mi 26) (mi 27) (mi 28) (mi 29) (mi 30) (mi 31) (mi 32) (mi 33) y_85 y_86 (mi 42) (mi 43) (mi 44) (mi 45) (mi 47) (mi 48) (mi 49) (mi 50) (mi 51) (mi 54) (mi 56) fm_trust fm_letter fm_reportPlace fm_reportKind fm_struck fm_reportMonth fm_reportDay fm_reportKnown fm_deedMonth fm_deedDay fm_deedLong fm_deedKind fm_kept fm_tape f_87 f_88 f_89 f_90 f_91 f_92 fm_official fm_aside fm_worth fm_out)) hP hD
        refine lv_aload_n hx hb (dk_at dkX12_runs 32 rfl) rfl (lv_at hl 3 rfl) ?_
        refine lv_iload_n hx hb (dk_at dkX12_runs 33 rfl) rfl (lv_at hl 5 rfl) ?_
        refine va_put (D := (dC, dI)) (ci := 12) (v := .int p2) (ty := .int) (C := RX12) (T := TX12) (N := 57) hx hb hts (fun w h => List.mem_cons_of_mem _ (jnGB_X12 w h)) tyX12 tyX12_ok nmX12 hown hK hP hD hS 0 rfl rfl 2 (by decide) (hts _ (List.mem_cons_of_mem _ mGB_105)) (fun _ h9 => h9) rfl (by decide +kernel) rfl rfl (Nat.le_of_ble_eq_true rfl) (dk_at dkX12_runs 34 rfl) (fun H locs hP hD hS => ?_)
        obtain ⟨hP, hD⟩ := gz_both (w := (MWn h0 mr km (mi 0) p1 p2 (mi 3) (mi 4) (mi 5) (mi 6) (mi 7) (mi 10) (mi 17) (mi 23) (mi 24) (mi 26) (mi 27) (mi 28) (mi 29) (mi 30) (mi 31) (mi 32) (mi 33) y_85 y_86 (mi 42) (mi 43) (mi 44) (mi 45) (mi 47) (mi 48) (mi 49) (mi 50) (mi 51) (mi 54) (mi 56) fm_trust fm_letter fm_reportPlace fm_reportKind fm_struck fm_reportMonth fm_reportDay fm_reportKnown fm_deedMonth fm_deedDay fm_deedLong fm_deedKind fm_kept fm_tape f_87 f_88 f_89 f_90 f_91 f_92 fm_official fm_aside fm_worth fm_out)) hP hD
        refine lv_aload_n hx hb (dk_at dkX12_runs 35 rfl) rfl (lv_at hl 3 rfl) ?_
        refine lv_sipush (v := 999) hx hb (dk_at dkX12_runs 36 rfl) (by decide) ?_
        have hFc := gz_fullF hD hS hA
        refine va_callv (va_runV (As := [.int 999]) (rest := []) ⟨hx, hb, hml, hown, hts⟩ (sX12_judgesAll l dC dI H.size h0 (upd (upd (upd (upd mi 1 p1) 2 p2) 37 y_85) 41 y_86) mr km f_87 f_88 f_89 f_90 f_91 f_92 fm_struck fm_reportKnown fm_reportPlace fm_reportMonth fm_reportDay fm_reportKind fm_trust fm_letter fm_deedMonth fm_deedDay fm_deedLong fm_deedKind fm_kept fm_tape fm_official fm_aside fm_worth fm_out 999 gmi_0 (gi_w g_78 (by decide)) (gi_w g_83 (by decide)) gmi_4 gmi_7 gmi_10 gmi_17 gmi_23 gmi_24 gmi_26 gmi_29 gmi_30 gmi_33 gy_85 gy_86 gmi_50 gmi_51 gmi_56 gf_92 gfm_struck gfm_reportKnown gfm_reportPlace gfm_reportMonth gfm_reportDay) (cwV 1 hts (gz_gV mGB_261 mGB_262 mGB_263 mGB_1 mGB_264 goodGB) rfl rfl rfl (by decide +kernel) ⟨Nat.le_of_ble_eq_true rfl, Nat.le_of_ble_eq_true rfl⟩) ⟨bl_W, mw_recv hK hP, fun U hU hW => ⟨rfl, by rw [hU], by rw [hU]; exact hP, va_K.moved hW.alike hK, hD.weaken (fun _ _ _ _ => trivial)⟩⟩ rfl rfl hl.1 rfl (lv_room (Nat.le_of_ble_eq_true rfl)) (dk_at dkX12_runs 37 rfl) ⟨Nat.zero_le _, Nat.zero_le _⟩) hS (fun q _ h => hFc q h) hFc (fun u t H1 locs ht hvm hw hB hz1 hk1 hS => ?_)
        obtain ⟨y_95, y_96, f_97, f_98, f_99, f_100, f_101, f_102, hB⟩ := hB
        obtain ⟨gy_95, gy_96, gf_102, hP1, hD1⟩ := hB
        rw [ht] at hP1
        have hD : va_D A (MWn h0 mr km (mi 0) p1 p2 (mi 3) (mi 4) (mi 5) (mi 6) (mi 7) (mi 10) (mi 17) (mi 23) (mi 24) (mi 26) (mi 27) (mi 28) (mi 29) (mi 30) (mi 31) (mi 32) (mi 33) y_95 y_96 (mi 42) (mi 43) (mi 44) (mi 45) (mi 47) (mi 48) (mi 49) (mi 50) (mi 51) (mi 54) (mi 56) fm_trust fm_letter fm_reportPlace fm_reportKind fm_struck fm_reportMonth fm_reportDay fm_reportKnown fm_deedMonth fm_deedDay fm_deedLong fm_deedKind fm_kept fm_tape f_97 f_98 f_99 f_100 f_101 f_102 fm_official fm_aside fm_worth fm_out) := gz_fullD hFc hD1
        have hP : va_P (dC, dI) vwCl (MWn h0 mr km (mi 0) p1 p2 (mi 3) (mi 4) (mi 5) (mi 6) (mi 7) (mi 10) (mi 17) (mi 23) (mi 24) (mi 26) (mi 27) (mi 28) (mi 29) (mi 30) (mi 31) (mi 32) (mi 33) y_95 y_96 (mi 42) (mi 43) (mi 44) (mi 45) (mi 47) (mi 48) (mi 49) (mi 50) (mi 51) (mi 54) (mi 56) fm_trust fm_letter fm_reportPlace fm_reportKind fm_struck fm_reportMonth fm_reportDay fm_reportKnown fm_deedMonth fm_deedDay fm_deedLong fm_deedKind fm_kept fm_tape f_97 f_98 f_99 f_100 f_101 f_102 fm_official fm_aside fm_worth fm_out) H1 := hP1
        generalize H1 = H at hP hS ⊢
        refine lv_aload_n hx hb (dk_at dkX12_runs 38 rfl) rfl (lv_at hl 3 rfl) ?_
        refine va_calli (va_runV (As := []) (rest := []) ⟨hx, hb, hml, hown, hts⟩ (sX12_takenBits l dC dI h0 (upd (upd (upd (upd mi 1 p1) 2 p2) 37 y_95) 41 y_96) mr km f_101 fm_trust fm_letter fm_reportPlace fm_reportKind fm_struck fm_reportMonth fm_reportDay fm_reportKnown fm_deedMonth fm_deedDay fm_deedLong fm_deedKind fm_kept fm_tape f_97 f_98 f_99 f_100 f_102 fm_official fm_aside fm_worth fm_out gmi_0 (gi_w g_78 (by decide)) (gi_w g_83 (by decide)) gmi_4 gmi_7 gmi_10 gmi_17 gmi_23 gmi_24 gmi_26 gmi_29 gmi_30 gmi_33 gy_95 gy_96 gmi_50 gmi_51 gmi_56) (cwV 0 hts (gz_gV mGB_327 mGB_328 mGB_329 mGB_1 mGB_330 goodGB) rfl rfl rfl (by decide +kernel) ⟨Nat.le_of_ble_eq_true rfl, Nat.le_of_ble_eq_true rfl⟩) ⟨bl_R, mw_recv hK hP, fun U hU hW => ⟨rfl, by rw [hU]; exact hP, va_K.moved hW.alike hK⟩⟩ rfl rfl hl.1 rfl (lv_room (Nat.le_of_ble_eq_true rfl)) (dk_at dkX12_runs 39 rfl) ⟨Nat.zero_le _, Nat.zero_le _⟩) hS (fun q _ h => h.elim) (fun q h => h.elim) (fun r_103 u t H1 locs ht hvm hw hB hz1 hk1 hS => ?_)
        have hP := gz_keep hP hk1
        generalize H1 = H at hP hS ⊢
        refine lv_iload_n hx hb (dk_at dkX12_runs 40 rfl) rfl (lv_at hl 2 rfl) ?_
        refine lv_icmp_ne (tgt := 85) hx hb (dk_at dkX12_runs 41 rfl) (by decide) (fun c_104 => ?_) (fun c_104 => ?_)
        · refine lv_aload_n hx hb (dk_at dkX12_runs 44 rfl) rfl (lv_at hl 3 rfl) ?_
          refine lv_iload hx hb (dk_at dkX12_runs 45 rfl) (lv_at hl 1 rfl) ?_
          refine va_put (D := (dC, dI)) (ci := 12) (v := .int (mi 1)) (ty := .int) (C := RX12) (T := TX12) (N := 57) hx hb hts (fun w h => List.mem_cons_of_mem _ (jnGB_X12 w h)) tyX12 tyX12_ok nmX12 hown hK hP hD hS 0 rfl rfl 1 (by decide) (hts _ (List.mem_cons_of_mem _ mGB_104)) (fun _ h9 => h9) rfl (by decide +kernel) rfl rfl (Nat.le_of_ble_eq_true rfl) (dk_at dkX12_runs 46 rfl) (fun H locs hP hD hS => ?_)
          obtain ⟨hP, hD⟩ := gz_both (w := (MWn h0 mr km (mi 0) (mi 1) p2 (mi 3) (mi 4) (mi 5) (mi 6) (mi 7) (mi 10) (mi 17) (mi 23) (mi 24) (mi 26) (mi 27) (mi 28) (mi 29) (mi 30) (mi 31) (mi 32) (mi 33) y_95 y_96 (mi 42) (mi 43) (mi 44) (mi 45) (mi 47) (mi 48) (mi 49) (mi 50) (mi 51) (mi 54) (mi 56) fm_trust fm_letter fm_reportPlace fm_reportKind fm_struck fm_reportMonth fm_reportDay fm_reportKnown fm_deedMonth fm_deedDay fm_deedLong fm_deedKind fm_kept fm_tape f_97 f_98 f_99 f_100 f_101 f_102 fm_official fm_aside fm_worth fm_out)) hP hD
          refine lv_aload_n hx hb (dk_at dkX12_runs 47 rfl) rfl (lv_at hl 3 rfl) ?_
          refine lv_iload hx hb (dk_at dkX12_runs 48 rfl) (lv_at hl 0 rfl) ?_
          refine va_put (D := (dC, dI)) (ci := 12) (v := .int (mi 2)) (ty := .int) (C := RX12) (T := TX12) (N := 57) hx hb hts (fun w h => List.mem_cons_of_mem _ (jnGB_X12 w h)) tyX12 tyX12_ok nmX12 hown hK hP hD hS 0 rfl rfl 2 (by decide) (hts _ (List.mem_cons_of_mem _ mGB_105)) (fun _ h9 => h9) rfl (by decide +kernel) rfl rfl (Nat.le_of_ble_eq_true rfl) (dk_at dkX12_runs 49 rfl) (fun H locs hP hD hS => ?_)
          obtain ⟨hP, hD⟩ := gz_both (w := (MWn h0 mr km (mi 0) (mi 1) (mi 2) (mi 3) (mi 4) (mi 5) (mi 6) (mi 7) (mi 10) (mi 17) (mi 23) (mi 24) (mi 26) (mi 27) (mi 28) (mi 29) (mi 30) (mi 31) (mi 32) (mi 33) y_95 y_96 (mi 42) (mi 43) (mi 44) (mi 45) (mi 47) (mi 48) (mi 49) (mi 50) (mi 51) (mi 54) (mi 56) fm_trust fm_letter fm_reportPlace fm_reportKind fm_struck fm_reportMonth fm_reportDay fm_reportKnown fm_deedMonth fm_deedDay fm_deedLong fm_deedKind fm_kept fm_tape f_97 f_98 f_99 f_100 f_101 f_102 fm_official fm_aside fm_worth fm_out)) hP hD
          refine lv_bipush (v := (-5)) hx hb (dk_at dkX12_runs 50 rfl) (by decide) ?_
          exact W.iret (v := (-5)) hx hb hr (fun t ht hW => ⟨⟨(-5), (), rfl, (gi_w (gi_c (-5) (-5) (by decide)) (by decide)), (mi 1), (mi 2), y_95, y_96, f_97, f_98, f_99, f_100, f_101, f_102, gmi_1, gmi_2, gy_95, gy_96, gf_102, by rw [ht]; exact hP, hD⟩, hS.F ht⟩) hS.2.2 (dk_at dkX12_runs 51 rfl)
        · refine lv_iconst (v := 0) hx hb (dk_at dkX12_runs 42 rfl) (by decide) ?_
          exact W.iret (v := 0) hx hb hr (fun t ht hW => ⟨⟨0, (), rfl, (gi_w (gi_c 0 0 (by decide)) (by decide)), p1, p2, y_95, y_96, f_97, f_98, f_99, f_100, f_101, f_102, (gi_w g_78 (by decide)), (gi_w g_83 (by decide)), gy_95, gy_96, gf_102, by rw [ht]; exact hP, hD⟩, hS.F ht⟩) hS.2.2 (dk_at dkX12_runs 43 rfl)
      · have g_105 : gi r_80 0 0 := gi_eq c_81 (gi_c 0 0 (by decide))
        refine lv_bipush (v := (-2)) hx hb (dk_at dkX12_runs 15 rfl) (by decide) ?_
        exact W.iret (v := (-2)) hx hb hr (fun t ht hW => ⟨⟨(-2), (), rfl, (gi_w (gi_c (-2) (-2) (by decide)) (by decide)), (mi 1), (mi 2), (mi 37), (mi 41), fm_must, fm_least, fm_pin, fm_ways, fm_verdict, fm_row, gmi_1, gmi_2, gmi_37, gmi_41, gfm_row, by rw [ht]; exact hP, hD⟩, hS.F ht⟩) hS.2.2 (dk_at dkX12_runs 16 rfl)
abbrev pb_sX12_runsC (dC : Nat → ClassId) (dI : Nat → Nat → Nat) (A9 : Nat → Prop) (h0 : Nat) (mi : Nat → Int32) (mr : Nat → Nat) (km : Nat → ClassId) (fm_must : Nat → Int32) (fm_least : Nat → Int32) (fm_pin : Nat → Int32) (fm_ways : Nat → Int32) (fm_verdict : Nat → Int32) (fm_row : Nat → Int32) (fm_struck : Nat → Int32) (fm_reportKnown : Nat → Int32) (fm_reportPlace : Nat → Int32) (fm_reportMonth : Nat → Int32) (fm_reportDay : Nat → Int32) (fm_reportKind : Nat → Int32) (fm_trust : Nat → Int32) (fm_letter : Nat → Int32) (fm_deedMonth : Nat → Int32) (fm_deedDay : Nat → Int32) (fm_deedLong : Nat → Int32) (fm_deedKind : Nat → Int32) (fm_kept : Nat → Int32) (fm_tape : Nat → Int32) (fm_official : Nat → Int32) (fm_aside : Nat → Int32) (fm_worth : Nat → Int32) (fm_out : Nat → Int32) (p1 : Int32) (p2 : Int32) (w0_1 : Int32) (w0_2 : Int32) (w0_37 : Int32) (w0_41 : Int32) (z1 : Nat → Int32) (z2 : Nat → Int32) (z3 : Nat → Int32) (z4 : Nat → Int32) (z5 : Nat → Int32) (z6 : Nat → Int32) (t : State) : Prop := gi w0_1 0 5 ∧ gi w0_2 0 5 ∧ gi w0_37 0 1 ∧ gi w0_41 0 24 ∧ ga z6 24 0 23 ∧ ((mi 3).toInt = 0 ∨ (2 ≤ (mi 0).toInt ∧ (mi 0).toInt ≤ 24 ∧ 1 ≤ w0_1.toInt ∧ w0_1.toInt ≤ 5 ∧ 1 ≤ w0_2.toInt ∧ w0_2.toInt ≤ 5)) ∧ va_P (dC, dI) vwCl (MWn h0 mr km (mi 0) w0_1 w0_2 (mi 3) (mi 4) (mi 5) (mi 6) (mi 7) (mi 10) (mi 17) (mi 23) (mi 24) (mi 26) (mi 27) (mi 28) (mi 29) (mi 30) (mi 31) (mi 32) (mi 33) w0_37 w0_41 (mi 42) (mi 43) (mi 44) (mi 45) (mi 47) (mi 48) (mi 49) (mi 50) (mi 51) (mi 54) (mi 56) fm_trust fm_letter fm_reportPlace fm_reportKind fm_struck fm_reportMonth fm_reportDay fm_reportKnown fm_deedMonth fm_deedDay fm_deedLong fm_deedKind fm_kept fm_tape z1 z2 z3 z4 z5 z6 fm_official fm_aside fm_worth fm_out) t.heap ∧ va_D A9 (MWn h0 mr km (mi 0) w0_1 w0_2 (mi 3) (mi 4) (mi 5) (mi 6) (mi 7) (mi 10) (mi 17) (mi 23) (mi 24) (mi 26) (mi 27) (mi 28) (mi 29) (mi 30) (mi 31) (mi 32) (mi 33) w0_37 w0_41 (mi 42) (mi 43) (mi 44) (mi 45) (mi 47) (mi 48) (mi 49) (mi 50) (mi 51) (mi 54) (mi 56) fm_trust fm_letter fm_reportPlace fm_reportKind fm_struck fm_reportMonth fm_reportDay fm_reportKnown fm_deedMonth fm_deedDay fm_deedLong fm_deedKind fm_kept fm_tape z1 z2 z3 z4 z5 z6 fm_official fm_aside fm_worth fm_out)
set_option maxHeartbeats 4000000 in
set_option maxRecDepth 100000 in
theorem sX12_runsC (l : Launch) (dC : Nat → ClassId) (dI : Nat → Nat → Nat) (sz : Nat) (h0 : Nat) (mi : Nat → Int32) (mr : Nat → Nat) (km : Nat → ClassId) (fm_must : Nat → Int32) (fm_least : Nat → Int32) (fm_pin : Nat → Int32) (fm_ways : Nat → Int32) (fm_verdict : Nat → Int32) (fm_row : Nat → Int32) (fm_struck : Nat → Int32) (fm_reportKnown : Nat → Int32) (fm_reportPlace : Nat → Int32) (fm_reportMonth : Nat → Int32) (fm_reportDay : Nat → Int32) (fm_reportKind : Nat → Int32) (fm_trust : Nat → Int32) (fm_letter : Nat → Int32) (fm_deedMonth : Nat → Int32) (fm_deedDay : Nat → Int32) (fm_deedLong : Nat → Int32) (fm_deedKind : Nat → Int32) (fm_kept : Nat → Int32) (fm_tape : Nat → Int32) (fm_official : Nat → Int32) (fm_aside : Nat → Int32) (fm_worth : Nat → Int32) (fm_out : Nat → Int32) (p1 : Int32) (p2 : Int32) (gmi_0 : gi (mi 0) 0 24) (gmi_1 : gi (mi 1) 0 5) (gmi_2 : gi (mi 2) 0 5) (gmi_4 : gi (mi 4) 0 1) (gmi_7 : gi (mi 7) 0 6) (gmi_10 : gi (mi 10) 0 24) (gmi_17 : gi (mi 17) 0 8) (gmi_23 : gi (mi 23) 0 300) (gmi_24 : gi (mi 24) 0 1) (gmi_26 : gi (mi 26) 0 1600) (gmi_29 : gi (mi 29) 0 1600) (gmi_30 : gi (mi 30) 0 1600) (gmi_33 : gi (mi 33) 0 1) (gmi_37 : gi (mi 37) 0 1) (gmi_41 : gi (mi 41) 0 24) (gmi_50 : gi (mi 50) 0 1) (gmi_51 : gi (mi 51) 0 1) (gmi_56 : gi (mi 56) 0 80) (gfm_row : ga fm_row 24 0 23) (gfm_struck : ga fm_struck 24 0 1) (gfm_reportKnown : ga fm_reportKnown 24 0 999) (gfm_reportPlace : ga fm_reportPlace 24 0 5) (gfm_reportMonth : ga fm_reportMonth 24 0 23) (gfm_reportDay : ga fm_reportDay 24 0 999) (hpq0 : ((mi 3).toInt = 0 ∨ (2 ≤ (mi 0).toInt ∧ (mi 0).toInt ≤ 24 ∧ 1 ≤ (mi 1).toInt ∧ (mi 1).toInt ≤ 5 ∧ 1 ≤ (mi 2).toInt ∧ (mi 2).toInt ≤ 5))) : Met l yX12_runs (.code yX12_runs cX12_runs 6 (some .int) :: wsGB) ({ frames := 5, cells := 0, slots := 0, locals := 119 }) (va_Pc [.ref h0, .int p1, .int p2] (fun U => U.heap.size = sz ∧ va_P (dC, dI) vwCl (MWn h0 mr km (mi 0) (mi 1) (mi 2) (mi 3) (mi 4) (mi 5) (mi 6) (mi 7) (mi 10) (mi 17) (mi 23) (mi 24) (mi 26) (mi 27) (mi 28) (mi 29) (mi 30) (mi 31) (mi 32) (mi 33) (mi 37) (mi 41) (mi 42) (mi 43) (mi 44) (mi 45) (mi 47) (mi 48) (mi 49) (mi 50) (mi 51) (mi 54) (mi 56) fm_trust fm_letter fm_reportPlace fm_reportKind fm_struck fm_reportMonth fm_reportDay fm_reportKnown fm_deedMonth fm_deedDay fm_deedLong fm_deedKind fm_kept fm_tape fm_must fm_least fm_pin fm_ways fm_verdict fm_row fm_official fm_aside fm_worth fm_out) U.heap ∧ va_K (dC, dI) vwCl (MT km) U ∧ va_D (fun _ => True) (MWn h0 mr km (mi 0) (mi 1) (mi 2) (mi 3) (mi 4) (mi 5) (mi 6) (mi 7) (mi 10) (mi 17) (mi 23) (mi 24) (mi 26) (mi 27) (mi 28) (mi 29) (mi 30) (mi 31) (mi 32) (mi 33) (mi 37) (mi 41) (mi 42) (mi 43) (mi 44) (mi 45) (mi 47) (mi 48) (mi 49) (mi 50) (mi 51) (mi 54) (mi 56) fm_trust fm_letter fm_reportPlace fm_reportKind fm_struck fm_reportMonth fm_reportDay fm_reportKnown fm_deedMonth fm_deedDay fm_deedLong fm_deedKind fm_kept fm_tape fm_must fm_least fm_pin fm_ways fm_verdict fm_row fm_official fm_aside fm_worth fm_out))) (va_Qi (fun (r : Int32) (u : Unit) => gi r (-5) 0) (fun _ t => ∃ (w0_1 : Int32) (w0_2 : Int32) (w0_37 : Int32) (w0_41 : Int32) (z1 : Nat → Int32) (z2 : Nat → Int32) (z3 : Nat → Int32) (z4 : Nat → Int32) (z5 : Nat → Int32) (z6 : Nat → Int32), pb_sX12_runsC dC dI (va_A (MWn h0 mr km (mi 0) (mi 1) (mi 2) (mi 3) (mi 4) (mi 5) (mi 6) (mi 7) (mi 10) (mi 17) (mi 23) (mi 24) (mi 26) (mi 27) (mi 28) (mi 29) (mi 30) (mi 31) (mi 32) (mi 33) (mi 37) (mi 41) (mi 42) (mi 43) (mi 44) (mi 45) (mi 47) (mi 48) (mi 49) (mi 50) (mi 51) (mi 54) (mi 56) fm_trust fm_letter fm_reportPlace fm_reportKind fm_struck fm_reportMonth fm_reportDay fm_reportKnown fm_deedMonth fm_deedDay fm_deedLong fm_deedKind fm_kept fm_tape fm_must fm_least fm_pin fm_ways fm_verdict fm_row fm_official fm_aside fm_worth fm_out) sz) h0 mi mr km fm_must fm_least fm_pin fm_ways fm_verdict fm_row fm_struck fm_reportKnown fm_reportPlace fm_reportMonth fm_reportDay fm_reportKind fm_trust fm_letter fm_deedMonth fm_deedDay fm_deedLong fm_deedKind fm_kept fm_tape fm_official fm_aside fm_worth fm_out p1 p2 w0_1 w0_2 w0_37 w0_41 z1 z2 z3 z4 z5 z6 t) (va_A (MWn h0 mr km (mi 0) (mi 1) (mi 2) (mi 3) (mi 4) (mi 5) (mi 6) (mi 7) (mi 10) (mi 17) (mi 23) (mi 24) (mi 26) (mi 27) (mi 28) (mi 29) (mi 30) (mi 31) (mi 32) (mi 33) (mi 37) (mi 41) (mi 42) (mi 43) (mi 44) (mi 45) (mi 47) (mi 48) (mi 49) (mi 50) (mi 51) (mi 54) (mi 56) fm_trust fm_letter fm_reportPlace fm_reportKind fm_struck fm_reportMonth fm_reportDay fm_reportKnown fm_deedMonth fm_deedDay fm_deedLong fm_deedKind fm_kept fm_tape fm_must fm_least fm_pin fm_ways fm_verdict fm_row fm_official fm_aside fm_worth fm_out) sz)) 0 0 (va_A (MWn h0 mr km (mi 0) (mi 1) (mi 2) (mi 3) (mi 4) (mi 5) (mi 6) (mi 7) (mi 10) (mi 17) (mi 23) (mi 24) (mi 26) (mi 27) (mi 28) (mi 29) (mi 30) (mi 31) (mi 32) (mi 33) (mi 37) (mi 41) (mi 42) (mi 43) (mi 44) (mi 45) (mi 47) (mi 48) (mi 49) (mi 50) (mi 51) (mi 54) (mi 56) fm_trust fm_letter fm_reportPlace fm_reportKind fm_struck fm_reportMonth fm_reportDay fm_reportKnown fm_deedMonth fm_deedDay fm_deedLong fm_deedKind fm_kept fm_tape fm_must fm_least fm_pin fm_ways fm_verdict fm_row fm_official fm_aside fm_worth fm_out) sz) := by
  refine Met.ofW (cc := cX12_runs) (maxL := 6) (ret := (some .int)) (by decide) rfl ?_
  intro p e s m args below meth c s₁ B hml hv
  obtain ⟨rfl, hsz, hP, hK, hD0⟩ := hv
  have hx := B.exec
  have hb := B.bytes
  have hr := B.returns
  have hts := atoms_spec (ws := (.code yX12_runs cX12_runs 6 (some .int) :: wsGB)) B.pre
  have hown : s.vm.findClass RX12 = some m.cls := findClass_of_methodNamed B.named
  have hlocks := B.notSynchronized
  subst hsz
  have hD := hD0.self (sz := s.heap.size)
  generalize hAe : va_A (MWn h0 mr km (mi 0) (mi 1) (mi 2) (mi 3) (mi 4) (mi 5) (mi 6) (mi 7) (mi 10) (mi 17) (mi 23) (mi 24) (mi 26) (mi 27) (mi 28) (mi 29) (mi 30) (mi 31) (mi 32) (mi 33) (mi 37) (mi 41) (mi 42) (mi 43) (mi 44) (mi 45) (mi 47) (mi 48) (mi 49) (mi 50) (mi 51) (mi 54) (mi 56) fm_trust fm_letter fm_reportPlace fm_reportKind fm_struck fm_reportMonth fm_reportDay fm_reportKnown fm_deedMonth fm_deedDay fm_deedLong fm_deedKind fm_kept fm_tape fm_must fm_least fm_pin fm_ways fm_verdict fm_row fm_official fm_aside fm_worth fm_out) s.heap.size = A at hD ⊢
  have hA : ∀ q : Nat, s.heap.size ≤ q → A q := fun q h => by rw [← hAe]; exact Or.inr h
  have hS : va_S A s.heap s.heap [] := va_S.rf
  have hl := lv_entry ([.ref h0, .int p1, .int p2]) (n := 6) (Nat.le_of_ble_eq_true rfl)
  rw [lg_entry_eq]
  generalize (lg_sl ([.ref h0, .int p1, .int p2]) ++ List.replicate (6 - (lg_sl ([.ref h0, .int p1, .int p2])).length) Slot.unset).toArray = ls at hl ⊢
  have hl : lv_has ls 6 [(0, .ref h0), (1, .int p1), (2, .int p2)] := hl
  refine lv_aload_n hx hb (dk_at dkX12_runs 0 rfl) rfl (lv_at hl 0 rfl) ?_
  refine va_get (D := (dC, dI)) (ci := 12) (v := .int (mi 3)) (C := RX12) (T := TX12) (N := 57) hx hb hts (fun w h => List.mem_cons_of_mem _ (jnGB_X12 w h)) hown hK hP 0 rfl rfl 3 (by decide) (hts _ (List.mem_cons_of_mem _ mGB_106)) (fun _ h9 => h9) rfl (dk_at dkX12_runs 1 rfl) ?_
  refine lv_if_eq (tgt := 31) hx hb (dk_at dkX12_runs 2 rfl) (by decide) (fun c_95 => ?_) (fun c_95 => ?_)
  · have hc_96 : (mi 3).toInt = 0 := by have h9 := congrArg Int32.toInt c_95; rw [show (0 : Int32).toInt = 0 from by decide] at h9; exact h9
    have g_97 : gi (mi 3) 0 0 := gi_eq c_95 (gi_c 0 0 (by decide))
    refine lv_bipush (v := (-2)) hx hb (dk_at dkX12_runs 15 rfl) (by decide) ?_
    exact W.iret (v := (-2)) hx hb hr (fun t ht hW => ⟨⟨(-2), (), rfl, (gi_w (gi_c (-2) (-2) (by decide)) (by decide)), (mi 1), (mi 2), (mi 37), (mi 41), fm_must, fm_least, fm_pin, fm_ways, fm_verdict, fm_row, gmi_1, gmi_2, gmi_37, gmi_41, gfm_row, hpq0, by rw [ht]; exact hP, hD⟩, hS.F ht⟩) hS.2.2 (dk_at dkX12_runs 16 rfl)
  · have hc_98 : (mi 3).toInt ≠ 0 := fun h9 => c_95 (Int32.toInt_inj.mp (by rw [show (0 : Int32).toInt = 0 from by decide]; exact h9))
    refine lv_iload_n hx hb (dk_at dkX12_runs 3 rfl) rfl (lv_at hl 1 rfl) ?_
    refine lv_i2l (v := (p1).toInt64) hx hb (dk_at dkX12_runs 4 rfl) rfl ?_
    refine lv_topl (fun l_99 el_99 => ?_)
    refine lv_lconst (v := 1) hx hb (dk_at dkX12_runs 5 rfl) (by decide) ?_
    refine lv_ldc2 (own := RX12) (v := 5) hx hb hown (hts _ (List.mem_cons_of_mem _ mGB_595)) (dk_at dkX12_runs 6 rfl) ?_
    have hPc := hP.sub (ws' := []) [] rfl
    have hKc := hK.sub (tys' := []) [] rfl
    refine va_calli (va_runS (As := [.long l_99, .long 1, .long 5]) (rest := []) ⟨hx, hb, hml, hown, hts⟩ (sX12_in l dC dI l_99 1 5) (cwS 3 hts (gz_gS mGB_47 mGB_48 mGB_1 mGB_49 goodGB) rfl rfl rfl (by decide +kernel) ⟨Nat.le_of_ble_eq_true rfl, Nat.le_of_ble_eq_true rfl⟩) ⟨bl_R, fun U hU hW => ⟨rfl, by rw [hU]; exact hPc, va_K.moved hW.alike hKc⟩⟩ rfl rfl hl.1 rfl (lv_room (Nat.le_of_ble_eq_true rfl)) (dk_at dkX12_runs 7 rfl) ⟨Nat.zero_le _, Nat.zero_le _⟩) hS (fun q _ h => h.elim) (fun q h => h.elim) (fun r_100 u t H1 locs ht hvm hw hB hz1 hk1 hS => ?_)
    clear hz1
    obtain ⟨hw, hE⟩ := hw
    have hP := gz_keep hP hk1
    generalize H1 = H at hP hS ⊢
    have gr_100 : gi r_100 0 1 := hw.1
    have hqr_100 := hw.2
    refine lv_if_eq (tgt := 31) hx hb (dk_at dkX12_runs 8 rfl) (by decide) (fun c_101 => ?_) (fun c_101 => ?_)
    · have hc_102 : r_100.toInt = 0 := by have h9 := congrArg Int32.toInt c_101; rw [show (0 : Int32).toInt = 0 from by decide] at h9; exact h9
      have g_103 : gi r_100 0 0 := gi_eq c_101 (gi_c 0 0 (by decide))
      have hno_104 := gz_inF (A := 1) (B := 5) (hqr_100.2 (gz_zero1 g_103)) el_99 (by decide) (by decide)
      refine lv_bipush (v := (-2)) hx hb (dk_at dkX12_runs 15 rfl) (by decide) ?_
      exact W.iret (v := (-2)) hx hb hr (fun t ht hW => ⟨⟨(-2), (), rfl, (gi_w (gi_c (-2) (-2) (by decide)) (by decide)), (mi 1), (mi 2), (mi 37), (mi 41), fm_must, fm_least, fm_pin, fm_ways, fm_verdict, fm_row, gmi_1, gmi_2, gmi_37, gmi_41, gfm_row, hpq0, by rw [ht]; exact hP, hD⟩, hS.F ht⟩) hS.2.2 (dk_at dkX12_runs 16 rfl)
    · have hc_105 : r_100.toInt ≠ 0 := fun h9 => c_101 (Int32.toInt_inj.mp (by rw [show (0 : Int32).toInt = 0 from by decide]; exact h9))
      have g_106 : gi r_100 1 1 := gi_ne_lo c_101 gr_100 (gi_c 0 0 (by decide)) (by decide)
      have hin_107 := gz_inT (A := 1) (B := 5) (hqr_100.1 (gz_one g_106)) el_99 (by decide) (by decide)
      have g_108 : gi p1 1 5 := gi_cap (gi_any p1) (gz_inr (hqr_100.1 (gz_one g_106)) el_99 (A := 1) (B := 5) (by decide) (by decide)) (by decide)
      refine lv_iload_n hx hb (dk_at dkX12_runs 9 rfl) rfl (lv_at hl 2 rfl) ?_
      refine lv_i2l (v := (p2).toInt64) hx hb (dk_at dkX12_runs 10 rfl) rfl ?_
      refine lv_topl (fun l_109 el_109 => ?_)
      refine lv_lconst (v := 1) hx hb (dk_at dkX12_runs 11 rfl) (by decide) ?_
      refine lv_ldc2 (own := RX12) (v := 5) hx hb hown (hts _ (List.mem_cons_of_mem _ mGB_595)) (dk_at dkX12_runs 12 rfl) ?_
      have hPc := hP.sub (ws' := []) [] rfl
      have hKc := hK.sub (tys' := []) [] rfl
      refine va_calli (va_runS (As := [.long l_109, .long 1, .long 5]) (rest := []) ⟨hx, hb, hml, hown, hts⟩ (sX12_in l dC dI l_109 1 5) (cwS 3 hts (gz_gS mGB_47 mGB_48 mGB_1 mGB_49 goodGB) rfl rfl rfl (by decide +kernel) ⟨Nat.le_of_ble_eq_true rfl, Nat.le_of_ble_eq_true rfl⟩) ⟨bl_R, fun U hU hW => ⟨rfl, by rw [hU]; exact hPc, va_K.moved hW.alike hKc⟩⟩ rfl rfl hl.1 rfl (lv_room (Nat.le_of_ble_eq_true rfl)) (dk_at dkX12_runs 13 rfl) ⟨Nat.zero_le _, Nat.zero_le _⟩) hS (fun q _ h => h.elim) (fun q h => h.elim) (fun r_110 u t H1 locs ht hvm hw hB hz1 hk1 hS => ?_)
      clear hz1
      obtain ⟨hw, hE⟩ := hw
      have hP := gz_keep hP hk1
      generalize H1 = H at hP hS ⊢
      have gr_110 : gi r_110 0 1 := hw.1
      have hqr_110 := hw.2
      refine lv_if_ne (tgt := 34) hx hb (dk_at dkX12_runs 14 rfl) (by decide) (fun c_111 => ?_) (fun c_111 => ?_)
      · have hc_112 : r_110.toInt ≠ 0 := fun h9 => c_111 (Int32.toInt_inj.mp (by rw [show (0 : Int32).toInt = 0 from by decide]; exact h9))
        have g_113 : gi r_110 1 1 := gi_ne_lo c_111 gr_110 (gi_c 0 0 (by decide)) (by decide)
        have hin_114 := gz_inT (A := 1) (B := 5) (hqr_110.1 (gz_one g_113)) el_109 (by decide) (by decide)
        have g_115 : gi p2 1 5 := gi_cap (gi_any p2) (gz_inr (hqr_110.1 (gz_one g_113)) el_109 (A := 1) (B := 5) (by decide) (by decide)) (by decide)
        refine lv_aload_n hx hb (dk_at dkX12_runs 17 rfl) rfl (lv_at hl 0 rfl) ?_
        refine lv_sipush (v := 999) hx hb (dk_at dkX12_runs 18 rfl) (by decide) ?_
        have hFc := gz_fullF hD hS hA
        refine va_callv (va_runV (As := [.int 999]) (rest := []) ⟨hx, hb, hml, hown, hts⟩ (sX12_judgesAll l dC dI H.size h0 mi mr km fm_must fm_least fm_pin fm_ways fm_verdict fm_row fm_struck fm_reportKnown fm_reportPlace fm_reportMonth fm_reportDay fm_reportKind fm_trust fm_letter fm_deedMonth fm_deedDay fm_deedLong fm_deedKind fm_kept fm_tape fm_official fm_aside fm_worth fm_out 999 gmi_0 gmi_1 gmi_2 gmi_4 gmi_7 gmi_10 gmi_17 gmi_23 gmi_24 gmi_26 gmi_29 gmi_30 gmi_33 gmi_37 gmi_41 gmi_50 gmi_51 gmi_56 gfm_row gfm_struck gfm_reportKnown gfm_reportPlace gfm_reportMonth gfm_reportDay) (cwV 1 hts (gz_gV mGB_261 mGB_262 mGB_263 mGB_1 mGB_264 goodGB) rfl rfl rfl (by decide +kernel) ⟨Nat.le_of_ble_eq_true rfl, Nat.le_of_ble_eq_true rfl⟩) ⟨bl_W, mw_recv hK hP, fun U hU hW => ⟨rfl, by rw [hU], by rw [hU]; exact hP, va_K.moved hW.alike hK, hD.weaken (fun _ _ _ _ => trivial)⟩⟩ rfl rfl hl.1 rfl (lv_room (Nat.le_of_ble_eq_true rfl)) (dk_at dkX12_runs 19 rfl) ⟨Nat.zero_le _, Nat.zero_le _⟩) hS (fun q _ h => hFc q h) hFc (fun u t H1 locs ht hvm hw hB hz1 hk1 hS => ?_)
        clear hz1
        obtain ⟨y_117, y_118, f_119, f_120, f_121, f_122, f_123, f_124, hB⟩ := hB
        obtain ⟨gy_117, gy_118, gf_124, hP1, hD1⟩ := hB
        rw [ht] at hP1
        have hD : va_D A (MWn h0 mr km (mi 0) (mi 1) (mi 2) (mi 3) (mi 4) (mi 5) (mi 6) (mi 7) (mi 10) (mi 17) (mi 23) (mi 24) (mi 26) (mi 27) (mi 28) (mi 29) (mi 30) (mi 31) (mi 32) (mi 33) y_117 y_118 (mi 42) (mi 43) (mi 44) (mi 45) (mi 47) (mi 48) (mi 49) (mi 50) (mi 51) (mi 54) (mi 56) fm_trust fm_letter fm_reportPlace fm_reportKind fm_struck fm_reportMonth fm_reportDay fm_reportKnown fm_deedMonth fm_deedDay fm_deedLong fm_deedKind fm_kept fm_tape f_119 f_120 f_121 f_122 f_123 f_124 fm_official fm_aside fm_worth fm_out) := gz_fullD hFc hD1
        have hP : va_P (dC, dI) vwCl (MWn h0 mr km (mi 0) (mi 1) (mi 2) (mi 3) (mi 4) (mi 5) (mi 6) (mi 7) (mi 10) (mi 17) (mi 23) (mi 24) (mi 26) (mi 27) (mi 28) (mi 29) (mi 30) (mi 31) (mi 32) (mi 33) y_117 y_118 (mi 42) (mi 43) (mi 44) (mi 45) (mi 47) (mi 48) (mi 49) (mi 50) (mi 51) (mi 54) (mi 56) fm_trust fm_letter fm_reportPlace fm_reportKind fm_struck fm_reportMonth fm_reportDay fm_reportKnown fm_deedMonth fm_deedDay fm_deedLong fm_deedKind fm_kept fm_tape f_119 f_120 f_121 f_122 f_123 f_124 fm_official fm_aside fm_worth fm_out) H1 := hP1
        generalize H1 = H at hP hS ⊢
        refine lv_aload_n hx hb (dk_at dkX12_runs 20 rfl) rfl (lv_at hl 0 rfl) ?_
        refine va_calli (va_runV (As := []) (rest := []) ⟨hx, hb, hml, hown, hts⟩ (sX12_takenBits l dC dI h0 (upd (upd mi 37 y_117) 41 y_118) mr km f_123 fm_trust fm_letter fm_reportPlace fm_reportKind fm_struck fm_reportMonth fm_reportDay fm_reportKnown fm_deedMonth fm_deedDay fm_deedLong fm_deedKind fm_kept fm_tape f_119 f_120 f_121 f_122 f_124 fm_official fm_aside fm_worth fm_out gmi_0 gmi_1 gmi_2 gmi_4 gmi_7 gmi_10 gmi_17 gmi_23 gmi_24 gmi_26 gmi_29 gmi_30 gmi_33 gy_117 gy_118 gmi_50 gmi_51 gmi_56) (cwV 0 hts (gz_gV mGB_327 mGB_328 mGB_329 mGB_1 mGB_330 goodGB) rfl rfl rfl (by decide +kernel) ⟨Nat.le_of_ble_eq_true rfl, Nat.le_of_ble_eq_true rfl⟩) ⟨bl_R, mw_recv hK hP, fun U hU hW => ⟨rfl, by rw [hU]; exact hP, va_K.moved hW.alike hK⟩⟩ rfl rfl hl.1 rfl (lv_room (Nat.le_of_ble_eq_true rfl)) (dk_at dkX12_runs 21 rfl) ⟨Nat.zero_le _, Nat.zero_le _⟩) hS (fun q _ h => h.elim) (fun q h => h.elim) (fun r_125 u t H1 locs ht hvm hw hB hz1 hk1 hS => ?_)
        clear hz1
        have hP := gz_keep hP hk1
        generalize H1 = H at hP hS ⊢
        refine lv_istore_n (lv' := [(3, .int r_125), (0, .ref h0), (1, .int p1), (2, .int p2)]) hx hb (dk_at dkX12_runs 22 rfl) rfl hl (by decide) rfl (fun ls hl => ?_)
        refine lv_aload_n hx hb (dk_at dkX12_runs 23 rfl) rfl (lv_at hl 1 rfl) ?_
        refine va_get (D := (dC, dI)) (ci := 12) (v := .int (mi 1)) (C := RX12) (T := TX12) (N := 57) hx hb hts (fun w h => List.mem_cons_of_mem _ (jnGB_X12 w h)) hown hK hP 0 rfl rfl 1 (by decide) (hts _ (List.mem_cons_of_mem _ mGB_104)) (fun _ h9 => h9) rfl (dk_at dkX12_runs 24 rfl) ?_
        refine lv_istore (lv' := [(4, .int (mi 1)), (3, .int r_125), (0, .ref h0), (1, .int p1), (2, .int p2)]) hx hb (dk_at dkX12_runs 25 rfl) hl (by decide) rfl (fun ls hl => ?_)
        refine lv_aload_n hx hb (dk_at dkX12_runs 26 rfl) rfl (lv_at hl 2 rfl) ?_
        refine va_get (D := (dC, dI)) (ci := 12) (v := .int (mi 2)) (C := RX12) (T := TX12) (N := 57) hx hb hts (fun w h => List.mem_cons_of_mem _ (jnGB_X12 w h)) hown hK hP 0 rfl rfl 2 (by decide) (hts _ (List.mem_cons_of_mem _ mGB_105)) (fun _ h9 => h9) rfl (dk_at dkX12_runs 27 rfl) ?_
        refine lv_istore (lv' := [(5, .int (mi 2)), (4, .int (mi 1)), (3, .int r_125), (0, .ref h0), (1, .int p1), (2, .int p2)]) hx hb (dk_at dkX12_runs 28 rfl) hl (by decide) rfl (fun ls hl => ?_)
        refine lv_aload_n hx hb (dk_at dkX12_runs 29 rfl) rfl (lv_at hl 3 rfl) ?_
        refine lv_iload_n hx hb (dk_at dkX12_runs 30 rfl) rfl (lv_at hl 4 rfl) ?_
        refine va_put (D := (dC, dI)) (ci := 12) (v := .int p1) (ty := .int) (C := RX12) (T := TX12) (N := 57) hx hb hts (fun w h => List.mem_cons_of_mem _ (jnGB_X12 w h)) tyX12 tyX12_ok nmX12 hown hK hP hD hS 0 rfl rfl 1 (by decide) (hts _ (List.mem_cons_of_mem _ mGB_104)) (fun _ h9 => h9) rfl (by decide +kernel) rfl rfl (Nat.le_of_ble_eq_true rfl) (dk_at dkX12_runs 31 rfl) (fun H locs hP hD hS => ?_)
        obtain ⟨hP, hD⟩ := gz_both (w := (MWn h0 mr km (mi 0) p1 (mi 2) (mi 3) (mi 4) (mi 5) (mi 6) (mi 7) (mi 10) (mi 17) (mi 23) (mi 24) (mi 26) (mi 27) (mi 28) (mi 29) (mi 30) (mi 31) (mi 32) (mi 33) y_117 y_118 (mi 42) (mi 43) (mi 44) (mi 45) (mi 47) (mi 48) (mi 49) (mi 50) (mi 51) (mi 54) (mi 56) fm_trust fm_letter fm_reportPlace fm_reportKind fm_struck fm_reportMonth fm_reportDay fm_reportKnown fm_deedMonth fm_deedDay fm_deedLong fm_deedKind fm_kept fm_tape f_119 f_120 f_121 f_122 f_123 f_124 fm_official fm_aside fm_worth fm_out)) hP hD
        refine lv_aload_n hx hb (dk_at dkX12_runs 32 rfl) rfl (lv_at hl 3 rfl) ?_
        refine lv_iload_n hx hb (dk_at dkX12_runs 33 rfl) rfl (lv_at hl 5 rfl) ?_
        refine va_put (D := (dC, dI)) (ci := 12) (v := .int p2) (ty := .int) (C := RX12) (T := TX12) (N := 57) hx hb hts (fun w h => List.mem_cons_of_mem _ (jnGB_X12 w h)) tyX12 tyX12_ok nmX12 hown hK hP hD hS 0 rfl rfl 2 (by decide) (hts _ (List.mem_cons_of_mem _ mGB_105)) (fun _ h9 => h9) rfl (by decide +kernel) rfl rfl (Nat.le_of_ble_eq_true rfl) (dk_at dkX12_runs 34 rfl) (fun H locs hP hD hS => ?_)
        obtain ⟨hP, hD⟩ := gz_both (w := (MWn h0 mr km (mi 0) p1 p2 (mi 3) (mi 4) (mi 5) (mi 6) (mi 7) (mi 10) (mi 17) (mi 23) (mi 24) (mi 26) (mi 27) (mi 28) (mi 29) (mi 30) (mi 31) (mi 32) (mi 33) y_117 y_118 (mi 42) (mi 43) (mi 44) (mi 45) (mi 47) (mi 48) (mi 49) (mi 50) (mi 51) (mi 54) (mi 56) fm_trust fm_letter fm_reportPlace fm_reportKind fm_struck fm_reportMonth fm_reportDay fm_reportKnown fm_deedMonth fm_deedDay fm_deedLong fm_deedKind fm_kept fm_tape f_119 f_120 f_121 f_122 f_123 f_124 fm_official fm_aside fm_worth fm_out)) hP hD
        refine lv_aload_n hx hb (dk_at dkX12_runs 35 rfl) rfl (lv_at hl 3 rfl) ?_
        refine lv_sipush (v := 999) hx hb (dk_at dkX12_runs 36 rfl) (by decide) ?_
        have hFc := gz_fullF hD hS hA
        refine va_callv (va_runV (As := [.int 999]) (rest := []) ⟨hx, hb, hml, hown, hts⟩ (sX12_judgesAll l dC dI H.size h0 (upd (upd (upd (upd mi 1 p1) 2 p2) 37 y_117) 41 y_118) mr km f_119 f_120 f_121 f_122 f_123 f_124 fm_struck fm_reportKnown fm_reportPlace fm_reportMonth fm_reportDay fm_reportKind fm_trust fm_letter fm_deedMonth fm_deedDay fm_deedLong fm_deedKind fm_kept fm_tape fm_official fm_aside fm_worth fm_out 999 gmi_0 (gi_w g_108 (by decide)) (gi_w g_115 (by decide)) gmi_4 gmi_7 gmi_10 gmi_17 gmi_23 gmi_24 gmi_26 gmi_29 gmi_30 gmi_33 gy_117 gy_118 gmi_50 gmi_51 gmi_56 gf_124 gfm_struck gfm_reportKnown gfm_reportPlace gfm_reportMonth gfm_reportDay) (cwV 1 hts (gz_gV mGB_261 mGB_262 mGB_263 mGB_1 mGB_264 goodGB) rfl rfl rfl (by decide +kernel) ⟨Nat.le_of_ble_eq_true rfl, Nat.le_of_ble_eq_true rfl⟩) ⟨bl_W, mw_recv hK hP, fun U hU hW => ⟨rfl, by rw [hU], by rw [hU]; exact hP, va_K.moved hW.alike hK, hD.weaken (fun _ _ _ _ => trivial)⟩⟩ rfl rfl hl.1 rfl (lv_room (Nat.le_of_ble_eq_true rfl)) (dk_at dkX12_runs 37 rfl) ⟨Nat.zero_le _, Nat.zero_le _⟩) hS (fun q _ h => hFc q h) hFc (fun u t H1 locs ht hvm hw hB hz1 hk1 hS => ?_)
        clear hz1
        obtain ⟨y_127, y_128, f_129, f_130, f_131, f_132, f_133, f_134, hB⟩ := hB
        obtain ⟨gy_127, gy_128, gf_134, hP1, hD1⟩ := hB
        rw [ht] at hP1
        have hD : va_D A (MWn h0 mr km (mi 0) p1 p2 (mi 3) (mi 4) (mi 5) (mi 6) (mi 7) (mi 10) (mi 17) (mi 23) (mi 24) (mi 26) (mi 27) (mi 28) (mi 29) (mi 30) (mi 31) (mi 32) (mi 33) y_127 y_128 (mi 42) (mi 43) (mi 44) (mi 45) (mi 47) (mi 48) (mi 49) (mi 50) (mi 51) (mi 54) (mi 56) fm_trust fm_letter fm_reportPlace fm_reportKind fm_struck fm_reportMonth fm_reportDay fm_reportKnown fm_deedMonth fm_deedDay fm_deedLong fm_deedKind fm_kept fm_tape f_129 f_130 f_131 f_132 f_133 f_134 fm_official fm_aside fm_worth fm_out) := gz_fullD hFc hD1
        have hP : va_P (dC, dI) vwCl (MWn h0 mr km (mi 0) p1 p2 (mi 3) (mi 4) (mi 5) (mi 6) (mi 7) (mi 10) (mi 17) (mi 23) (mi 24) (mi 26) (mi 27) (mi 28) (mi 29) (mi 30) (mi 31) (mi 32) (mi 33) y_127 y_128 (mi 42) (mi 43) (mi 44) (mi 45) (mi 47) (mi 48) (mi 49) (mi 50) (mi 51) (mi 54) (mi 56) fm_trust fm_letter fm_reportPlace fm_reportKind fm_struck fm_reportMonth fm_reportDay fm_reportKnown fm_deedMonth fm_deedDay fm_deedLong fm_deedKind fm_kept fm_tape f_129 f_130 f_131 f_132 f_133 f_134 fm_official fm_aside fm_worth fm_out) H1 := hP1
        generalize H1 = H at hP hS ⊢
        refine lv_aload_n hx hb (dk_at dkX12_runs 38 rfl) rfl (lv_at hl 3 rfl) ?_
        refine va_calli (va_runV (As := []) (rest := []) ⟨hx, hb, hml, hown, hts⟩ (sX12_takenBits l dC dI h0 (upd (upd (upd (upd mi 1 p1) 2 p2) 37 y_127) 41 y_128) mr km f_133 fm_trust fm_letter fm_reportPlace fm_reportKind fm_struck fm_reportMonth fm_reportDay fm_reportKnown fm_deedMonth fm_deedDay fm_deedLong fm_deedKind fm_kept fm_tape f_129 f_130 f_131 f_132 f_134 fm_official fm_aside fm_worth fm_out gmi_0 (gi_w g_108 (by decide)) (gi_w g_115 (by decide)) gmi_4 gmi_7 gmi_10 gmi_17 gmi_23 gmi_24 gmi_26 gmi_29 gmi_30 gmi_33 gy_127 gy_128 gmi_50 gmi_51 gmi_56) (cwV 0 hts (gz_gV mGB_327 mGB_328 mGB_329 mGB_1 mGB_330 goodGB) rfl rfl rfl (by decide +kernel) ⟨Nat.le_of_ble_eq_true rfl, Nat.le_of_ble_eq_true rfl⟩) ⟨bl_R, mw_recv hK hP, fun U hU hW => ⟨rfl, by rw [hU]; exact hP, va_K.moved hW.alike hK⟩⟩ rfl rfl hl.1 rfl (lv_room (Nat.le_of_ble_eq_true rfl)) (dk_at dkX12_runs 39 rfl) ⟨Nat.zero_le _, Nat.zero_le _⟩) hS (fun q _ h => h.elim) (fun q h => h.elim) (fun r_135 u t H1 locs ht hvm hw hB hz1 hk1 hS => ?_)
        clear hz1
        have hP := gz_keep hP hk1
        generalize H1 = H at hP hS ⊢
        refine lv_iload_n hx hb (dk_at dkX12_runs 40 rfl) rfl (lv_at hl 2 rfl) ?_
        refine lv_icmp_ne (tgt := 85) hx hb (dk_at dkX12_runs 41 rfl) (by decide) (fun c_136 => ?_) (fun c_136 => ?_)
        · have hc_137 : r_135.toInt ≠ r_125.toInt := fun h9 => c_136 (Int32.toInt_inj.mp (by exact h9))
          refine lv_aload_n hx hb (dk_at dkX12_runs 44 rfl) rfl (lv_at hl 3 rfl) ?_
          refine lv_iload hx hb (dk_at dkX12_runs 45 rfl) (lv_at hl 1 rfl) ?_
          refine va_put (D := (dC, dI)) (ci := 12) (v := .int (mi 1)) (ty := .int) (C := RX12) (T := TX12) (N := 57) hx hb hts (fun w h => List.mem_cons_of_mem _ (jnGB_X12 w h)) tyX12 tyX12_ok nmX12 hown hK hP hD hS 0 rfl rfl 1 (by decide) (hts _ (List.mem_cons_of_mem _ mGB_104)) (fun _ h9 => h9) rfl (by decide +kernel) rfl rfl (Nat.le_of_ble_eq_true rfl) (dk_at dkX12_runs 46 rfl) (fun H locs hP hD hS => ?_)
          obtain ⟨hP, hD⟩ := gz_both (w := (MWn h0 mr km (mi 0) (mi 1) p2 (mi 3) (mi 4) (mi 5) (mi 6) (mi 7) (mi 10) (mi 17) (mi 23) (mi 24) (mi 26) (mi 27) (mi 28) (mi 29) (mi 30) (mi 31) (mi 32) (mi 33) y_127 y_128 (mi 42) (mi 43) (mi 44) (mi 45) (mi 47) (mi 48) (mi 49) (mi 50) (mi 51) (mi 54) (mi 56) fm_trust fm_letter fm_reportPlace fm_reportKind fm_struck fm_reportMonth fm_reportDay fm_reportKnown fm_deedMonth fm_deedDay fm_deedLong fm_deedKind fm_kept fm_tape f_129 f_130 f_131 f_132 f_133 f_134 fm_official fm_aside fm_worth fm_out)) hP hD
          refine lv_aload_n hx hb (dk_at dkX12_runs 47 rfl) rfl (lv_at hl 3 rfl) ?_
          refine lv_iload hx hb (dk_at dkX12_runs 48 rfl) (lv_at hl 0 rfl) ?_
          refine va_put (D := (dC, dI)) (ci := 12) (v := .int (mi 2)) (ty := .int) (C := RX12) (T := TX12) (N := 57) hx hb hts (fun w h => List.mem_cons_of_mem _ (jnGB_X12 w h)) tyX12 tyX12_ok nmX12 hown hK hP hD hS 0 rfl rfl 2 (by decide) (hts _ (List.mem_cons_of_mem _ mGB_105)) (fun _ h9 => h9) rfl (by decide +kernel) rfl rfl (Nat.le_of_ble_eq_true rfl) (dk_at dkX12_runs 49 rfl) (fun H locs hP hD hS => ?_)
          obtain ⟨hP, hD⟩ := gz_both (w := (MWn h0 mr km (mi 0) (mi 1) (mi 2) (mi 3) (mi 4) (mi 5) (mi 6) (mi 7) (mi 10) (mi 17) (mi 23) (mi 24) (mi 26) (mi 27) (mi 28) (mi 29) (mi 30) (mi 31) (mi 32) (mi 33) y_127 y_128 (mi 42) (mi 43) (mi 44) (mi 45) (mi 47) (mi 48) (mi 49) (mi 50) (mi 51) (mi 54) (mi 56) fm_trust fm_letter fm_reportPlace fm_reportKind fm_struck fm_reportMonth fm_reportDay fm_reportKnown fm_deedMonth fm_deedDay fm_deedLong fm_deedKind fm_kept fm_tape f_129 f_130 f_131 f_132 f_133 f_134 fm_official fm_aside fm_worth fm_out)) hP hD
          refine lv_bipush (v := (-5)) hx hb (dk_at dkX12_runs 50 rfl) (by decide) ?_
          exact W.iret (v := (-5)) hx hb hr (fun t ht hW => ⟨⟨(-5), (), rfl, (gi_w (gi_c (-5) (-5) (by decide)) (by decide)), (mi 1), (mi 2), y_127, y_128, f_129, f_130, f_131, f_132, f_133, f_134, gmi_1, gmi_2, gy_127, gy_128, gf_134, hpq0, by rw [ht]; exact hP, hD⟩, hS.F ht⟩) hS.2.2 (dk_at dkX12_runs 51 rfl)
        · have hc_138 : r_135.toInt = r_125.toInt := by have h9 := congrArg Int32.toInt c_136; exact h9
          refine lv_iconst (v := 0) hx hb (dk_at dkX12_runs 42 rfl) (by decide) ?_
          exact W.iret (v := 0) hx hb hr (fun t ht hW => ⟨⟨0, (), rfl, (gi_w (gi_c 0 0 (by decide)) (by decide)), p1, p2, y_127, y_128, f_129, f_130, f_131, f_132, f_133, f_134, (gi_w g_108 (by decide)), (gi_w g_115 (by decide)), gy_127, gy_128, gf_134, (show ((mi 3).toInt = 0 ∨ (2 ≤ (mi 0).toInt ∧ (mi 0).toInt ≤ 24 ∧ 1 ≤ p1.toInt ∧ p1.toInt ≤ 5 ∧ 1 ≤ p2.toInt ∧ p2.toInt ≤ 5)) from by have qgp2 := g_115.1; have rgp2 := g_115.2; have qgp1 := g_108.1; have rgp1 := g_108.2; have qgmi_2 := gmi_2.1; have rgmi_2 := gmi_2.2; have qgmi_1 := gmi_1.1; have rgmi_1 := gmi_1.2; have qgmi_0 := gmi_0.1; have rgmi_0 := gmi_0.2; omega), by rw [ht]; exact hP, hD⟩, hS.F ht⟩) hS.2.2 (dk_at dkX12_runs 43 rfl)
      · have hc_139 : r_110.toInt = 0 := by have h9 := congrArg Int32.toInt c_111; rw [show (0 : Int32).toInt = 0 from by decide] at h9; exact h9
        have g_140 : gi r_110 0 0 := gi_eq c_111 (gi_c 0 0 (by decide))
        have hno_141 := gz_inF (A := 1) (B := 5) (hqr_110.2 (gz_zero1 g_140)) el_109 (by decide) (by decide)
        refine lv_bipush (v := (-2)) hx hb (dk_at dkX12_runs 15 rfl) (by decide) ?_
        exact W.iret (v := (-2)) hx hb hr (fun t ht hW => ⟨⟨(-2), (), rfl, (gi_w (gi_c (-2) (-2) (by decide)) (by decide)), (mi 1), (mi 2), (mi 37), (mi 41), fm_must, fm_least, fm_pin, fm_ways, fm_verdict, fm_row, gmi_1, gmi_2, gmi_37, gmi_41, gfm_row, hpq0, by rw [ht]; exact hP, hD⟩, hS.F ht⟩) hS.2.2 (dk_at dkX12_runs 16 rfl)
set_option maxHeartbeats 4000000 in
set_option maxRecDepth 100000 in
theorem uX12_octet (l : Launch) (dC : Nat → ClassId) (dI : Nat → Nat → Nat) (sz : Nat) (hm : Nat) (mi : Nat → Int32) (mr : Nat → Nat) (km : Nat → ClassId) (fm : Nat → Nat → Int32) (hI : MI mi fm) (p1 : Int32) : Met l yX12_octet (.code yX12_octet cX12_octet 2 (some .int) :: wsGB) ({ frames := 1, cells := 0, slots := 0, locals := 25 }) (va_Pc [.ref hm, .int p1] (fun U => U.heap.size = sz ∧ va_P (dC, dI) vwCl (MW hm mi mr km fm) U.heap ∧ va_K (dC, dI) vwCl (MT km) U ∧ va_D (fun _ => True) (MW hm mi mr km fm))) (va_Qi (fun (r : Int32) (u : Unit) => True) (fun _ t => MB dC dI hm mi mr km fm sz (fun v f => styM mi fm v f) t) (va_A (MW hm mi mr km fm) sz)) 0 0 (va_A (MW hm mi mr km fm) sz) := by
  refine gz_mono (sX12_octet l dC dI hm mi mr km (fm 23) (fm 0) (fm 1) (fm 2) (fm 3) (fm 4) (fm 5) (fm 6) (fm 7) (fm 8) (fm 9) (fm 10) (fm 11) (fm 12) (fm 13) (fm 14) (fm 15) (fm 16) (fm 17) (fm 18) (fm 19) (fm 20) (fm 21) (fm 22) p1 hI.1 hI.2.1 hI.2.2.1 hI.2.2.2.1 hI.2.2.2.2.1 hI.2.2.2.2.2.1 hI.2.2.2.2.2.2.1 hI.2.2.2.2.2.2.2.1 hI.2.2.2.2.2.2.2.2.1 hI.2.2.2.2.2.2.2.2.2.1 hI.2.2.2.2.2.2.2.2.2.2.1 hI.2.2.2.2.2.2.2.2.2.2.2.1 hI.2.2.2.2.2.2.2.2.2.2.2.2.2.1 hI.2.2.2.2.2.2.2.2.2.2.2.2.2.2.1 hI.2.2.2.2.2.2.2.2.2.2.2.2.2.2.2.1 hI.2.2.2.2.2.2.2.2.2.2.2.2.2.2.2.2.1 hI.2.2.2.2.2.2.2.2.2.2.2.2.2.2.2.2.2.1 hI.2.2.2.2.2.2.2.2.2.2.2.2.2.2.2.2.2.2.1) ?_ ?_ ?_
  · rintro args s ⟨rfl, hsz, hP, hK, hD⟩
    exact ⟨rfl, hP, hK⟩
  · rintro args s o t ⟨rfl, hsz, hP, hK, hD⟩ ⟨⟨r, u, ho, hw, hB⟩, hF⟩
    subst hsz
    exact ⟨⟨r, (), ho, trivial, mi, fm, hI, ⟨rfl, rfl, rfl, rfl, rfl, rfl, rfl, rfl, rfl, rfl, rfl, rfl, rfl, rfl, rfl, rfl, rfl, rfl, rfl, rfl, rfl, rfl, rfl, rfl⟩, gz_keep hP hF.2, hD.self⟩, hF.1, fun q h1 h2 => hF.2 q h1 (fun h => h.elim)⟩
  · exact fun q h => h.elim
noncomputable def mt_reports (mi : Nat → Int32) (fm : Nat → Nat → Int32) (o : Int32 × Int32 × (Nat → Int32) × (Nat → Int32) × (Nat → Int32) × (Nat → Int32) × (Nat → Int32) × (Nat → Int32)) : Int32 × (Nat → Int32) × (Nat → Nat → Int32) := (o.1, (upd mi 10 o.2.1), (updF (updF (updF (updF (updF (updF fm 2 o.2.2.1) 3 o.2.2.2.1) 5 o.2.2.2.2.1) 6 o.2.2.2.2.2.1) 7 o.2.2.2.2.2.2.1) 4 o.2.2.2.2.2.2.2))
noncomputable def ms_reports (mi : Nat → Int32) (fm : Nat → Nat → Int32) (p1 : Int32) (p2 : Int32) (p3 : Int32) (p4 : Int32) (p5 : Int32) : Int32 × (Nat → Int32) × (Nat → Nat → Int32) := mt_reports mi fm (fX12_reports mi (fm 2) (fm 3) (fm 5) (fm 6) (fm 7) (fm 4) p1 p2 p3 p4 p5)
set_option maxHeartbeats 4000000 in
set_option maxRecDepth 100000 in
theorem uX12_reports (l : Launch) (dC : Nat → ClassId) (dI : Nat → Nat → Nat) (sz : Nat) (hm : Nat) (mi : Nat → Int32) (mr : Nat → Nat) (km : Nat → ClassId) (fm : Nat → Nat → Int32) (hI : MI mi fm) (p1 : Int32) (p2 : Int32) (p3 : Int32) (p4 : Int32) (p5 : Int32) : Met l yX12_reports (.code yX12_reports cX12_reports 6 (some .int) :: wsGB) ({ frames := 2, cells := 0, slots := 0, locals := 46 }) (va_Pc [.ref hm, .int p1, .int p2, .int p3, .int p4, .int p5] (fun U => U.heap.size = sz ∧ va_P (dC, dI) vwCl (MW hm mi mr km fm) U.heap ∧ va_K (dC, dI) vwCl (MT km) U ∧ va_D (fun _ => True) (MW hm mi mr km fm))) (va_Qi (fun (r : Int32) (u : Int32) => r = u) (fun r t => MB dC dI hm mi mr km fm sz (fun v f => (r, v, f) = ms_reports mi fm p1 p2 p3 p4 p5) t) (va_A (MW hm mi mr km fm) sz)) 0 0 (va_A (MW hm mi mr km fm) sz) := by
  refine gz_mono (sX12_reports l dC dI sz hm mi mr km (fm 2) (fm 3) (fm 5) (fm 6) (fm 7) (fm 4) (fm 0) (fm 1) (fm 8) (fm 9) (fm 10) (fm 11) (fm 12) (fm 13) (fm 14) (fm 15) (fm 16) (fm 17) (fm 18) (fm 19) (fm 20) (fm 21) (fm 22) (fm 23) p1 p2 p3 p4 p5 hI.1 hI.2.1 hI.2.2.1 hI.2.2.2.1 hI.2.2.2.2.1 hI.2.2.2.2.2.1 hI.2.2.2.2.2.2.1 hI.2.2.2.2.2.2.2.1 hI.2.2.2.2.2.2.2.2.1 hI.2.2.2.2.2.2.2.2.2.1 hI.2.2.2.2.2.2.2.2.2.2.1 hI.2.2.2.2.2.2.2.2.2.2.2.1 hI.2.2.2.2.2.2.2.2.2.2.2.2.2.1 hI.2.2.2.2.2.2.2.2.2.2.2.2.2.2.1 hI.2.2.2.2.2.2.2.2.2.2.2.2.2.2.2.1 hI.2.2.2.2.2.2.2.2.2.2.2.2.2.2.2.2.1 hI.2.2.2.2.2.2.2.2.2.2.2.2.2.2.2.2.2.1 hI.2.2.2.2.2.2.2.2.2.2.2.2.2.2.2.2.2.2.1 hI.2.2.2.2.2.2.2.2.2.2.2.2.2.2.2.2.2.2.2.1 hI.2.2.2.2.2.2.2.2.2.2.2.2.2.2.2.2.2.2.2.2.2.1 hI.2.2.2.2.2.2.2.2.2.2.2.2.2.2.2.2.2.2.2.2.2.2.1 hI.2.2.2.2.2.2.2.2.2.2.2.2.2.2.2.2.2.2.2.2.2.2.2.1 hI.2.2.2.2.2.2.2.2.2.2.2.2.2.2.2.2.2.2.2.2.1) ?_ ?_ ?_
  · rintro args s ⟨rfl, hsz, hP, hK, hD⟩
    exact ⟨rfl, hsz, hP, hK, hD⟩
  · rintro args s o t ⟨rfl, hsz, hP, hK, hD⟩ ⟨⟨r, u, ho, hw, hB⟩, hF⟩
    obtain ⟨w0_10, z1, z2, z3, z4, z5, z6, hB⟩ := hB
    obtain ⟨gw0_10, gz1, gz3, gz4, gz5, gz6, hE, hP1, hD1⟩ := hB
    obtain ⟨hu9, hw⟩ := hw
    subst hu9
    subst hsz
    exact ⟨⟨r, r, ho, rfl, (upd mi 10 w0_10), (updF (updF (updF (updF (updF (updF fm 2 z1) 3 z2) 5 z3) 6 z4) 7 z5) 4 z6), ⟨hI.1, hI.2.1, hI.2.2.1, hI.2.2.2.1, hI.2.2.2.2.1, gw0_10, hI.2.2.2.2.2.2.1, hI.2.2.2.2.2.2.2.1, hI.2.2.2.2.2.2.2.2.1, hI.2.2.2.2.2.2.2.2.2.1, hI.2.2.2.2.2.2.2.2.2.2.1, hI.2.2.2.2.2.2.2.2.2.2.2.1, hI.2.2.2.2.2.2.2.2.2.2.2.2.1, hI.2.2.2.2.2.2.2.2.2.2.2.2.2.1, hI.2.2.2.2.2.2.2.2.2.2.2.2.2.2.1, hI.2.2.2.2.2.2.2.2.2.2.2.2.2.2.2.1, hI.2.2.2.2.2.2.2.2.2.2.2.2.2.2.2.2.1, hI.2.2.2.2.2.2.2.2.2.2.2.2.2.2.2.2.2.1, hI.2.2.2.2.2.2.2.2.2.2.2.2.2.2.2.2.2.2.1, gz1, gz6, gz3, gz4, gz5, hI.2.2.2.2.2.2.2.2.2.2.2.2.2.2.2.2.2.2.2.2.2.2.2.2.1, hI.2.2.2.2.2.2.2.2.2.2.2.2.2.2.2.2.2.2.2.2.2.2.2.2.2.1, hI.2.2.2.2.2.2.2.2.2.2.2.2.2.2.2.2.2.2.2.2.2.2.2.2.2.2.1, hI.2.2.2.2.2.2.2.2.2.2.2.2.2.2.2.2.2.2.2.2.2.2.2.2.2.2.2.1, hI.2.2.2.2.2.2.2.2.2.2.2.2.2.2.2.2.2.2.2.2.2.2.2.2.2.2.2.2⟩, congrArg (mt_reports mi fm) hE, hP1, hD1⟩, hF⟩
  · exact fun q h => h
noncomputable def mt_strikes (mi : Nat → Int32) (fm : Nat → Nat → Int32) (o : Int32 × (Nat → Int32)) : Int32 × (Nat → Int32) × (Nat → Nat → Int32) := (o.1, mi, (updF fm 4 o.2))
noncomputable def ms_strikes (mi : Nat → Int32) (fm : Nat → Nat → Int32) (p1 : Int32) : Int32 × (Nat → Int32) × (Nat → Nat → Int32) := mt_strikes mi fm (fX12_strikes mi (fm 4) p1)
set_option maxHeartbeats 4000000 in
set_option maxRecDepth 100000 in
theorem uX12_strikes (l : Launch) (dC : Nat → ClassId) (dI : Nat → Nat → Nat) (sz : Nat) (hm : Nat) (mi : Nat → Int32) (mr : Nat → Nat) (km : Nat → ClassId) (fm : Nat → Nat → Int32) (hI : MI mi fm) (p1 : Int32) : Met l yX12_strikes (.code yX12_strikes cX12_strikes 4 (some .int) :: wsGB) ({ frames := 2, cells := 0, slots := 0, locals := 46 }) (va_Pc [.ref hm, .int p1] (fun U => U.heap.size = sz ∧ va_P (dC, dI) vwCl (MW hm mi mr km fm) U.heap ∧ va_K (dC, dI) vwCl (MT km) U ∧ va_D (fun _ => True) (MW hm mi mr km fm))) (va_Qi (fun (r : Int32) (u : Int32) => r = u) (fun r t => MB dC dI hm mi mr km fm sz (fun v f => (r, v, f) = ms_strikes mi fm p1) t) (va_A (MW hm mi mr km fm) sz)) 0 0 (va_A (MW hm mi mr km fm) sz) := by
  refine gz_mono (sX12_strikes l dC dI sz hm mi mr km (fm 4) (fm 0) (fm 1) (fm 2) (fm 3) (fm 5) (fm 6) (fm 7) (fm 8) (fm 9) (fm 10) (fm 11) (fm 12) (fm 13) (fm 14) (fm 15) (fm 16) (fm 17) (fm 18) (fm 19) (fm 20) (fm 21) (fm 22) (fm 23) p1 hI.1 hI.2.1 hI.2.2.1 hI.2.2.2.1 hI.2.2.2.2.1 hI.2.2.2.2.2.1 hI.2.2.2.2.2.2.1 hI.2.2.2.2.2.2.2.1 hI.2.2.2.2.2.2.2.2.1 hI.2.2.2.2.2.2.2.2.2.1 hI.2.2.2.2.2.2.2.2.2.2.1 hI.2.2.2.2.2.2.2.2.2.2.2.1 hI.2.2.2.2.2.2.2.2.2.2.2.2.2.1 hI.2.2.2.2.2.2.2.2.2.2.2.2.2.2.1 hI.2.2.2.2.2.2.2.2.2.2.2.2.2.2.2.1 hI.2.2.2.2.2.2.2.2.2.2.2.2.2.2.2.2.1 hI.2.2.2.2.2.2.2.2.2.2.2.2.2.2.2.2.2.1 hI.2.2.2.2.2.2.2.2.2.2.2.2.2.2.2.2.2.2.1 hI.2.2.2.2.2.2.2.2.2.2.2.2.2.2.2.2.2.2.2.2.1) ?_ ?_ ?_
  · rintro args s ⟨rfl, hsz, hP, hK, hD⟩
    exact ⟨rfl, hsz, hP, hK, hD⟩
  · rintro args s o t ⟨rfl, hsz, hP, hK, hD⟩ ⟨⟨r, u, ho, hw, hB⟩, hF⟩
    obtain ⟨z1, hB⟩ := hB
    obtain ⟨gz1, hE, hP1, hD1⟩ := hB
    obtain ⟨hu9, hw⟩ := hw
    subst hu9
    subst hsz
    exact ⟨⟨r, r, ho, rfl, mi, (updF fm 4 z1), ⟨hI.1, hI.2.1, hI.2.2.1, hI.2.2.2.1, hI.2.2.2.2.1, hI.2.2.2.2.2.1, hI.2.2.2.2.2.2.1, hI.2.2.2.2.2.2.2.1, hI.2.2.2.2.2.2.2.2.1, hI.2.2.2.2.2.2.2.2.2.1, hI.2.2.2.2.2.2.2.2.2.2.1, hI.2.2.2.2.2.2.2.2.2.2.2.1, hI.2.2.2.2.2.2.2.2.2.2.2.2.1, hI.2.2.2.2.2.2.2.2.2.2.2.2.2.1, hI.2.2.2.2.2.2.2.2.2.2.2.2.2.2.1, hI.2.2.2.2.2.2.2.2.2.2.2.2.2.2.2.1, hI.2.2.2.2.2.2.2.2.2.2.2.2.2.2.2.2.1, hI.2.2.2.2.2.2.2.2.2.2.2.2.2.2.2.2.2.1, hI.2.2.2.2.2.2.2.2.2.2.2.2.2.2.2.2.2.2.1, hI.2.2.2.2.2.2.2.2.2.2.2.2.2.2.2.2.2.2.2.1, gz1, hI.2.2.2.2.2.2.2.2.2.2.2.2.2.2.2.2.2.2.2.2.2.1, hI.2.2.2.2.2.2.2.2.2.2.2.2.2.2.2.2.2.2.2.2.2.2.1, hI.2.2.2.2.2.2.2.2.2.2.2.2.2.2.2.2.2.2.2.2.2.2.2.1, hI.2.2.2.2.2.2.2.2.2.2.2.2.2.2.2.2.2.2.2.2.2.2.2.2.1, hI.2.2.2.2.2.2.2.2.2.2.2.2.2.2.2.2.2.2.2.2.2.2.2.2.2.1, hI.2.2.2.2.2.2.2.2.2.2.2.2.2.2.2.2.2.2.2.2.2.2.2.2.2.2.1, hI.2.2.2.2.2.2.2.2.2.2.2.2.2.2.2.2.2.2.2.2.2.2.2.2.2.2.2.1, hI.2.2.2.2.2.2.2.2.2.2.2.2.2.2.2.2.2.2.2.2.2.2.2.2.2.2.2.2⟩, congrArg (mt_strikes mi fm) hE, hP1, hD1⟩, hF⟩
  · exact fun q h => h
noncomputable def mt_trusts (mi : Nat → Int32) (fm : Nat → Nat → Int32) (o : Int32 × (Nat → Int32)) : Int32 × (Nat → Int32) × (Nat → Nat → Int32) := (o.1, mi, (updF fm 0 o.2))
noncomputable def ms_trusts (mi : Nat → Int32) (fm : Nat → Nat → Int32) (p1 : Int32) (p2 : Int32) : Int32 × (Nat → Int32) × (Nat → Nat → Int32) := mt_trusts mi fm (fX12_trusts mi (fm 0) p1 p2)
set_option maxHeartbeats 4000000 in
set_option maxRecDepth 100000 in
theorem uX12_trusts (l : Launch) (dC : Nat → ClassId) (dI : Nat → Nat → Nat) (sz : Nat) (hm : Nat) (mi : Nat → Int32) (mr : Nat → Nat) (km : Nat → ClassId) (fm : Nat → Nat → Int32) (hI : MI mi fm) (p1 : Int32) (p2 : Int32) : Met l yX12_trusts (.code yX12_trusts cX12_trusts 4 (some .int) :: wsGB) ({ frames := 2, cells := 0, slots := 0, locals := 46 }) (va_Pc [.ref hm, .int p1, .int p2] (fun U => U.heap.size = sz ∧ va_P (dC, dI) vwCl (MW hm mi mr km fm) U.heap ∧ va_K (dC, dI) vwCl (MT km) U ∧ va_D (fun _ => True) (MW hm mi mr km fm))) (va_Qi (fun (r : Int32) (u : Int32) => r = u) (fun r t => MB dC dI hm mi mr km fm sz (fun v f => (r, v, f) = ms_trusts mi fm p1 p2) t) (va_A (MW hm mi mr km fm) sz)) 0 0 (va_A (MW hm mi mr km fm) sz) := by
  refine gz_mono (sX12_trusts l dC dI sz hm mi mr km (fm 0) (fm 1) (fm 2) (fm 3) (fm 4) (fm 5) (fm 6) (fm 7) (fm 8) (fm 9) (fm 10) (fm 11) (fm 12) (fm 13) (fm 14) (fm 15) (fm 16) (fm 17) (fm 18) (fm 19) (fm 20) (fm 21) (fm 22) (fm 23) p1 p2 hI.1 hI.2.1 hI.2.2.1 hI.2.2.2.1 hI.2.2.2.2.1 hI.2.2.2.2.2.1 hI.2.2.2.2.2.2.1 hI.2.2.2.2.2.2.2.1 hI.2.2.2.2.2.2.2.2.1 hI.2.2.2.2.2.2.2.2.2.1 hI.2.2.2.2.2.2.2.2.2.2.1 hI.2.2.2.2.2.2.2.2.2.2.2.1 hI.2.2.2.2.2.2.2.2.2.2.2.2.2.1 hI.2.2.2.2.2.2.2.2.2.2.2.2.2.2.1 hI.2.2.2.2.2.2.2.2.2.2.2.2.2.2.2.1 hI.2.2.2.2.2.2.2.2.2.2.2.2.2.2.2.2.1 hI.2.2.2.2.2.2.2.2.2.2.2.2.2.2.2.2.2.1 hI.2.2.2.2.2.2.2.2.2.2.2.2.2.2.2.2.2.2.1) ?_ ?_ ?_
  · rintro args s ⟨rfl, hsz, hP, hK, hD⟩
    exact ⟨rfl, hsz, hP, hK, hD⟩
  · rintro args s o t ⟨rfl, hsz, hP, hK, hD⟩ ⟨⟨r, u, ho, hw, hB⟩, hF⟩
    obtain ⟨z1, hB⟩ := hB
    obtain ⟨hE, hP1, hD1⟩ := hB
    obtain ⟨hu9, hw⟩ := hw
    subst hu9
    subst hsz
    exact ⟨⟨r, r, ho, rfl, mi, (updF fm 0 z1), ⟨hI.1, hI.2.1, hI.2.2.1, hI.2.2.2.1, hI.2.2.2.2.1, hI.2.2.2.2.2.1, hI.2.2.2.2.2.2.1, hI.2.2.2.2.2.2.2.1, hI.2.2.2.2.2.2.2.2.1, hI.2.2.2.2.2.2.2.2.2.1, hI.2.2.2.2.2.2.2.2.2.2.1, hI.2.2.2.2.2.2.2.2.2.2.2.1, hI.2.2.2.2.2.2.2.2.2.2.2.2.1, hI.2.2.2.2.2.2.2.2.2.2.2.2.2.1, hI.2.2.2.2.2.2.2.2.2.2.2.2.2.2.1, hI.2.2.2.2.2.2.2.2.2.2.2.2.2.2.2.1, hI.2.2.2.2.2.2.2.2.2.2.2.2.2.2.2.2.1, hI.2.2.2.2.2.2.2.2.2.2.2.2.2.2.2.2.2.1, hI.2.2.2.2.2.2.2.2.2.2.2.2.2.2.2.2.2.2.1, hI.2.2.2.2.2.2.2.2.2.2.2.2.2.2.2.2.2.2.2.1, hI.2.2.2.2.2.2.2.2.2.2.2.2.2.2.2.2.2.2.2.2.1, hI.2.2.2.2.2.2.2.2.2.2.2.2.2.2.2.2.2.2.2.2.2.1, hI.2.2.2.2.2.2.2.2.2.2.2.2.2.2.2.2.2.2.2.2.2.2.1, hI.2.2.2.2.2.2.2.2.2.2.2.2.2.2.2.2.2.2.2.2.2.2.2.1, hI.2.2.2.2.2.2.2.2.2.2.2.2.2.2.2.2.2.2.2.2.2.2.2.2.1, hI.2.2.2.2.2.2.2.2.2.2.2.2.2.2.2.2.2.2.2.2.2.2.2.2.2.1, hI.2.2.2.2.2.2.2.2.2.2.2.2.2.2.2.2.2.2.2.2.2.2.2.2.2.2.1, hI.2.2.2.2.2.2.2.2.2.2.2.2.2.2.2.2.2.2.2.2.2.2.2.2.2.2.2.1, hI.2.2.2.2.2.2.2.2.2.2.2.2.2.2.2.2.2.2.2.2.2.2.2.2.2.2.2.2⟩, congrArg (mt_trusts mi fm) hE, hP1, hD1⟩, hF⟩
  · exact fun q h => h
noncomputable def mt_moon (mi : Nat → Int32) (fm : Nat → Nat → Int32) (o : Int32 × Int32 × Int32 × Int32) : Int32 × (Nat → Int32) × (Nat → Nat → Int32) := (o.1, (upd (upd (upd mi 4 o.2.1) 5 o.2.2.1) 6 o.2.2.2), fm)
noncomputable def ms_moon (mi : Nat → Int32) (fm : Nat → Nat → Int32) (p1 : Int32) (p2 : Int32) : Int32 × (Nat → Int32) × (Nat → Nat → Int32) := mt_moon mi fm (fX12_moon mi p1 p2)
set_option maxHeartbeats 4000000 in
set_option maxRecDepth 100000 in
theorem uX12_moon (l : Launch) (dC : Nat → ClassId) (dI : Nat → Nat → Nat) (sz : Nat) (hm : Nat) (mi : Nat → Int32) (mr : Nat → Nat) (km : Nat → ClassId) (fm : Nat → Nat → Int32) (hI : MI mi fm) (p1 : Int32) (p2 : Int32) : Met l yX12_moon (.code yX12_moon cX12_moon 3 (some .int) :: wsGB) ({ frames := 1, cells := 0, slots := 0, locals := 25 }) (va_Pc [.ref hm, .int p1, .int p2] (fun U => U.heap.size = sz ∧ va_P (dC, dI) vwCl (MW hm mi mr km fm) U.heap ∧ va_K (dC, dI) vwCl (MT km) U ∧ va_D (fun _ => True) (MW hm mi mr km fm))) (va_Qi (fun (r : Int32) (u : Int32) => r = u) (fun r t => MB dC dI hm mi mr km fm sz (fun v f => (r, v, f) = ms_moon mi fm p1 p2) t) (va_A (MW hm mi mr km fm) sz)) 0 0 (va_A (MW hm mi mr km fm) sz) := by
  refine gz_mono (sX12_moon l dC dI sz hm mi mr km (fm 0) (fm 1) (fm 2) (fm 3) (fm 4) (fm 5) (fm 6) (fm 7) (fm 8) (fm 9) (fm 10) (fm 11) (fm 12) (fm 13) (fm 14) (fm 15) (fm 16) (fm 17) (fm 18) (fm 19) (fm 20) (fm 21) (fm 22) (fm 23) p1 p2 hI.1 hI.2.1 hI.2.2.1 hI.2.2.2.1 hI.2.2.2.2.1 hI.2.2.2.2.2.1 hI.2.2.2.2.2.2.1 hI.2.2.2.2.2.2.2.1 hI.2.2.2.2.2.2.2.2.1 hI.2.2.2.2.2.2.2.2.2.1 hI.2.2.2.2.2.2.2.2.2.2.1 hI.2.2.2.2.2.2.2.2.2.2.2.1 hI.2.2.2.2.2.2.2.2.2.2.2.2.2.1 hI.2.2.2.2.2.2.2.2.2.2.2.2.2.2.1 hI.2.2.2.2.2.2.2.2.2.2.2.2.2.2.2.1 hI.2.2.2.2.2.2.2.2.2.2.2.2.2.2.2.2.1 hI.2.2.2.2.2.2.2.2.2.2.2.2.2.2.2.2.2.1 hI.2.2.2.2.2.2.2.2.2.2.2.2.2.2.2.2.2.2.1) ?_ ?_ ?_
  · rintro args s ⟨rfl, hsz, hP, hK, hD⟩
    exact ⟨rfl, hsz, hP, hK, hD⟩
  · rintro args s o t ⟨rfl, hsz, hP, hK, hD⟩ ⟨⟨r, u, ho, hw, hB⟩, hF⟩
    obtain ⟨w0_4, w0_5, w0_6, hB⟩ := hB
    obtain ⟨gw0_4, hE, hP1, hD1⟩ := hB
    obtain ⟨hu9, hw⟩ := hw
    subst hu9
    subst hsz
    exact ⟨⟨r, r, ho, rfl, (upd (upd (upd mi 4 w0_4) 5 w0_5) 6 w0_6), fm, ⟨hI.1, hI.2.1, hI.2.2.1, gw0_4, hI.2.2.2.2.1, hI.2.2.2.2.2.1, hI.2.2.2.2.2.2.1, hI.2.2.2.2.2.2.2.1, hI.2.2.2.2.2.2.2.2.1, hI.2.2.2.2.2.2.2.2.2.1, hI.2.2.2.2.2.2.2.2.2.2.1, hI.2.2.2.2.2.2.2.2.2.2.2.1, hI.2.2.2.2.2.2.2.2.2.2.2.2.1, hI.2.2.2.2.2.2.2.2.2.2.2.2.2.1, hI.2.2.2.2.2.2.2.2.2.2.2.2.2.2.1, hI.2.2.2.2.2.2.2.2.2.2.2.2.2.2.2.1, hI.2.2.2.2.2.2.2.2.2.2.2.2.2.2.2.2.1, hI.2.2.2.2.2.2.2.2.2.2.2.2.2.2.2.2.2.1, hI.2.2.2.2.2.2.2.2.2.2.2.2.2.2.2.2.2.2.1, hI.2.2.2.2.2.2.2.2.2.2.2.2.2.2.2.2.2.2.2.1, hI.2.2.2.2.2.2.2.2.2.2.2.2.2.2.2.2.2.2.2.2.1, hI.2.2.2.2.2.2.2.2.2.2.2.2.2.2.2.2.2.2.2.2.2.1, hI.2.2.2.2.2.2.2.2.2.2.2.2.2.2.2.2.2.2.2.2.2.2.1, hI.2.2.2.2.2.2.2.2.2.2.2.2.2.2.2.2.2.2.2.2.2.2.2.1, hI.2.2.2.2.2.2.2.2.2.2.2.2.2.2.2.2.2.2.2.2.2.2.2.2.1, hI.2.2.2.2.2.2.2.2.2.2.2.2.2.2.2.2.2.2.2.2.2.2.2.2.2.1, hI.2.2.2.2.2.2.2.2.2.2.2.2.2.2.2.2.2.2.2.2.2.2.2.2.2.2.1, hI.2.2.2.2.2.2.2.2.2.2.2.2.2.2.2.2.2.2.2.2.2.2.2.2.2.2.2.1, hI.2.2.2.2.2.2.2.2.2.2.2.2.2.2.2.2.2.2.2.2.2.2.2.2.2.2.2.2⟩, congrArg (mt_moon mi fm) hE, hP1, hD1⟩, hF⟩
  · exact fun q h => h
set_option maxHeartbeats 4000000 in
set_option maxRecDepth 100000 in
theorem uX12_runs (l : Launch) (dC : Nat → ClassId) (dI : Nat → Nat → Nat) (sz : Nat) (hm : Nat) (mi : Nat → Int32) (mr : Nat → Nat) (km : Nat → ClassId) (fm : Nat → Nat → Int32) (hI : MI mi fm) (p1 : Int32) (p2 : Int32) : Met l yX12_runs (.code yX12_runs cX12_runs 6 (some .int) :: wsGB) ({ frames := 5, cells := 0, slots := 0, locals := 119 }) (va_Pc [.ref hm, .int p1, .int p2] (fun U => U.heap.size = sz ∧ va_P (dC, dI) vwCl (MW hm mi mr km fm) U.heap ∧ va_K (dC, dI) vwCl (MT km) U ∧ va_D (fun _ => True) (MW hm mi mr km fm))) (va_Qi (fun (r : Int32) (u : Unit) => True) (fun _ t => MB dC dI hm mi mr km fm sz (fun v f => styM mi fm v f) t) (va_A (MW hm mi mr km fm) sz)) 0 0 (va_A (MW hm mi mr km fm) sz) := by
  refine gz_mono (sX12_runsC l dC dI sz hm mi mr km (fm 14) (fm 15) (fm 16) (fm 17) (fm 18) (fm 19) (fm 4) (fm 7) (fm 2) (fm 5) (fm 6) (fm 3) (fm 0) (fm 1) (fm 8) (fm 9) (fm 10) (fm 11) (fm 12) (fm 13) (fm 20) (fm 21) (fm 22) (fm 23) p1 p2 hI.1 hI.2.1 hI.2.2.1 hI.2.2.2.1 hI.2.2.2.2.1 hI.2.2.2.2.2.1 hI.2.2.2.2.2.2.1 hI.2.2.2.2.2.2.2.1 hI.2.2.2.2.2.2.2.2.1 hI.2.2.2.2.2.2.2.2.2.1 hI.2.2.2.2.2.2.2.2.2.2.1 hI.2.2.2.2.2.2.2.2.2.2.2.1 hI.2.2.2.2.2.2.2.2.2.2.2.2.2.1 hI.2.2.2.2.2.2.2.2.2.2.2.2.2.2.1 hI.2.2.2.2.2.2.2.2.2.2.2.2.2.2.2.1 hI.2.2.2.2.2.2.2.2.2.2.2.2.2.2.2.2.1 hI.2.2.2.2.2.2.2.2.2.2.2.2.2.2.2.2.2.1 hI.2.2.2.2.2.2.2.2.2.2.2.2.2.2.2.2.2.2.1 hI.2.2.2.2.2.2.2.2.2.2.2.2.2.2.2.2.2.2.2.2.2.2.2.2.2.2.1 hI.2.2.2.2.2.2.2.2.2.2.2.2.2.2.2.2.2.2.2.2.1 hI.2.2.2.2.2.2.2.2.2.2.2.2.2.2.2.2.2.2.2.2.2.2.2.1 hI.2.2.2.2.2.2.2.2.2.2.2.2.2.2.2.2.2.2.2.1 hI.2.2.2.2.2.2.2.2.2.2.2.2.2.2.2.2.2.2.2.2.2.1 hI.2.2.2.2.2.2.2.2.2.2.2.2.2.2.2.2.2.2.2.2.2.2.1 hI.2.2.2.2.2.2.2.2.2.2.2.2.2.2.2.2.2.2.2.2.2.2.2.2.2.2.2.2) ?_ ?_ ?_
  · rintro args s ⟨rfl, hsz, hP, hK, hD⟩
    exact ⟨rfl, hsz, hP, hK, hD⟩
  · rintro args s o t ⟨rfl, hsz, hP, hK, hD⟩ ⟨⟨r, u, ho, hw, hB⟩, hF⟩
    obtain ⟨w0_1, w0_2, w0_37, w0_41, z1, z2, z3, z4, z5, z6, hB⟩ := hB
    obtain ⟨gw0_1, gw0_2, gw0_37, gw0_41, gz6, hpr0, hP1, hD1⟩ := hB
    subst hsz
    exact ⟨⟨r, (), ho, trivial, (upd (upd (upd (upd mi 1 w0_1) 2 w0_2) 37 w0_37) 41 w0_41), (updF (updF (updF (updF (updF (updF fm 14 z1) 15 z2) 16 z3) 17 z4) 18 z5) 19 z6), ⟨hI.1, gw0_1, gw0_2, hI.2.2.2.1, hI.2.2.2.2.1, hI.2.2.2.2.2.1, hI.2.2.2.2.2.2.1, hI.2.2.2.2.2.2.2.1, hI.2.2.2.2.2.2.2.2.1, hI.2.2.2.2.2.2.2.2.2.1, hI.2.2.2.2.2.2.2.2.2.2.1, hI.2.2.2.2.2.2.2.2.2.2.2.1, hI.2.2.2.2.2.2.2.2.2.2.2.2.1, hI.2.2.2.2.2.2.2.2.2.2.2.2.2.1, gw0_37, gw0_41, hI.2.2.2.2.2.2.2.2.2.2.2.2.2.2.2.2.1, hI.2.2.2.2.2.2.2.2.2.2.2.2.2.2.2.2.2.1, hI.2.2.2.2.2.2.2.2.2.2.2.2.2.2.2.2.2.2.1, hI.2.2.2.2.2.2.2.2.2.2.2.2.2.2.2.2.2.2.2.1, hI.2.2.2.2.2.2.2.2.2.2.2.2.2.2.2.2.2.2.2.2.1, hI.2.2.2.2.2.2.2.2.2.2.2.2.2.2.2.2.2.2.2.2.2.1, hI.2.2.2.2.2.2.2.2.2.2.2.2.2.2.2.2.2.2.2.2.2.2.1, hI.2.2.2.2.2.2.2.2.2.2.2.2.2.2.2.2.2.2.2.2.2.2.2.1, hI.2.2.2.2.2.2.2.2.2.2.2.2.2.2.2.2.2.2.2.2.2.2.2.2.1, hI.2.2.2.2.2.2.2.2.2.2.2.2.2.2.2.2.2.2.2.2.2.2.2.2.2.1, gz6, hI.2.2.2.2.2.2.2.2.2.2.2.2.2.2.2.2.2.2.2.2.2.2.2.2.2.2.2.1, hpr0⟩, ⟨rfl, rfl, rfl, rfl, rfl, rfl, rfl, rfl, rfl, rfl, rfl, rfl, rfl, rfl, rfl, rfl, rfl, rfl, rfl, rfl, rfl, rfl, rfl, rfl⟩, hP1, hD1⟩, hF⟩
  · exact fun q h => h
theorem i32_012 {x : Int32} (h : 0 ≤ x.toInt ∧ x.toInt ≤ 2) : x = 0 ∨ x = 1 ∨ x = 2 := by
  rcases (show x.toInt = 0 ∨ x.toInt = 1 ∨ x.toInt = 2 by omega) with q | q | q
  · exact Or.inl (Int32.toInt_inj.mp (by rw [q]; decide))
  · exact Or.inr (Or.inl (Int32.toInt_inj.mp (by rw [q]; decide)))
  · exact Or.inr (Or.inr (Int32.toInt_inj.mp (by rw [q]; decide)))
theorem tx_trusts {xt : Nat → Int32} {m : Nat} (h : ∀ p, p < m → 0 ≤ (xt p).toInt ∧ (xt p).toInt ≤ 9) (cs ts hs pc p1 p2 : Int32) : ∀ p, p < m → 0 ≤ ((fX11_trusts cs ts hs pc xt p1 p2).2.2.2.2 p).toInt ∧ ((fX11_trusts cs ts hs pc xt p1 p2).2.2.2.2 p).toInt ≤ 9 := by
  intro p hp
  have k9 : (9 : Int32).toInt = 9 := by decide
  unfold fX11_trusts bfX11_trusts_18
  rw [cal_b]
  split
  · exact h p hp
  · split
    · exact h p hp
    · rename_i g1
      split
      · rename_i g2
        have g3 := i32le.mp g2
        have g4 : ¬ p2.toInt < 0 := fun q => g1 (i32lt.mpr (by rw [z32]; exact q))
        rw [k9] at g3
        show 0 ≤ (upd xt p1.toNatClampNeg p2 p).toInt ∧ (upd xt p1.toNatClampNeg p2 p).toInt ≤ 9
        unfold upd
        split
        · exact ⟨by omega, g3⟩
        · exact h p hp
      · exact h p hp
theorem drel_fl {L : Nat} {mo fu le li hm ms mp pc rc dc m0 m1 m2 m3 m4 m5 m6 m7 m10 m17 : Int32} {nm xt xp xk xm xd xn xs xa xb xl xi lt yt yp yk ym yd yn ys ya yb yl yi : Nat → Int32} (h : DRel L mo fu le li hm ms mp pc rc dc nm xt xp xk xm xd xn xs xa xb xl xi m0 m1 m2 m3 m4 m5 m6 m7 m10 m17 lt yt yp yk ym yd yn ys ya yb yl yi) (x y : Int32) : DRel L mo x y li hm ms mp pc rc dc nm xt xp xk xm xd xn xs xa xb xl xi m0 x y m3 m4 m5 m6 m7 m10 m17 lt yt yp yk ym yd yn ys ya yb yl yi := by
  obtain ⟨⟨⟨h1, -, -, h4, h5, h6, h7⟩, h8⟩, h9⟩ := h
  exact ⟨⟨⟨h1, rfl, rfl, h4, h5, h6, h7⟩, h8⟩, h9⟩
theorem drel_congr {L : Nat} {mo fu le li hm ms mp pc rc dc m0 m1 m2 m3 m4 m5 m6 m7 m10 m17 : Int32} {nm xt xp xk xm xd xn xs xa xb xl xi lt yt yp yk ym yd yn ys ya yb yl yi : Nat → Int32} {m0' m1' m2' m3' m4' m5' m6' m7' m10' m17' : Int32} {lt' yt' yp' yk' ym' yd' yn' ys' ya' yb' yl' yi' : Nat → Int32} (h : DRel L mo fu le li hm ms mp pc rc dc nm xt xp xk xm xd xn xs xa xb xl xi m0 m1 m2 m3 m4 m5 m6 m7 m10 m17 lt yt yp yk ym yd yn ys ya yb yl yi) (e0 : m0' = m0) (e1 : m1' = m1) (e2 : m2' = m2) (e3 : m3' = m3) (e4 : m4' = m4) (e5 : m5' = m5) (e6 : m6' = m6) (e7 : m7' = m7) (e10 : m10' = m10) (e17 : m17' = m17) (hl : ∀ i, i < 36 → lt' i = lt i) (ht : ∀ i, i < 6 → yt' i = yt i) (gyp : ∀ i, i < 24 → yp' i = yp i) (gyk : ∀ i, i < 24 → yk' i = yk i) (gym : ∀ i, i < 24 → ym' i = ym i) (gyd : ∀ i, i < 24 → yd' i = yd i) (gyn : ∀ i, i < 24 → yn' i = yn i) (gys : ∀ i, i < 24 → ys' i = ys i) (gya : ∀ i, i < 8 → ya' i = ya i) (gyb : ∀ i, i < 8 → yb' i = yb i) (gyl : ∀ i, i < 8 → yl' i = yl i) (gyi : ∀ i, i < 8 → yi' i = yi i) : DRel L mo fu le li hm ms mp pc rc dc nm xt xp xk xm xd xn xs xa xb xl xi m0' m1' m2' m3' m4' m5' m6' m7' m10' m17' lt' yt' yp' yk' ym' yd' yn' ys' ya' yb' yl' yi' := by
  subst e0 e1 e2 e3 e4 e5 e6 e7 e10 e17
  obtain ⟨⟨h1, ⟨m, r, d, hm, hr, hd, a1, a2, a3, a4, a5, a6, hN, hE1, hE2, hE3, hRg⟩, h3⟩, h4⟩ := h
  refine ⟨⟨h1, ⟨m, r, d, hm, hr, hd, a1, a2, a3, a4, a5, a6, ?_, ?_, ?_, ?_, hRg⟩, h3⟩, h4⟩
  · intro p hp
    obtain ⟨q1, q2⟩ := hN p hp
    refine ⟨?_, fun k hk => ?_⟩
    · rw [q1, pcod_inj]
      exact ⟨rfl, fun i _ g2 => by show pdg (lt (6 * p + i)).toInt = pdg (lt' (6 * p + i)).toInt; rw [hl (6 * p + i) (by omega)]⟩
    · rw [hl (6 * p + k) (by omega)]
      exact q2 k hk
  · intro j hj
    rw [ht j (by omega)]
    exact hE1 j hj
  · intro j hj
    obtain ⟨⟨b1, b2, b3, b4, b5, b6⟩, b7⟩ := hE2 j hj
    refine ⟨⟨?_, ?_, ?_, ?_, ?_, ?_⟩, b7⟩
    · rw [gyp j (by omega)]; exact b1
    · rw [gyk j (by omega)]; exact b2
    · rw [gym j (by omega)]; exact b3
    · rw [gyd j (by omega)]; exact b4
    · rw [gyn j (by omega)]; exact b5
    · rw [gys j (by omega)]; exact b6
  · intro j hj
    obtain ⟨b1, b2, b3, b4⟩ := hE3 j hj
    refine ⟨?_, ?_, ?_, ?_⟩
    · rw [gya j (by omega)]; exact b1
    · rw [gyb j (by omega)]; exact b2
    · rw [gyl j (by omega)]; exact b3
    · rw [gyi j (by omega)]; exact b4
def DAT (vx : Nat → Int32) (fx : Nat → Nat → Int32) (mi : Nat → Int32) (fm : Nat → Nat → Int32) : Prop := DRel 1600 (vx 11) (mi 1) (mi 2) (vx 14) (vx 15) (vx 16) (vx 17) (vx 18) (vx 19) (vx 20) (fx 22) (fx 23) (fx 24) (fx 25) (fx 26) (fx 27) (fx 28) (fx 29) (fx 30) (fx 31) (fx 32) (fx 33) (mi 0) (mi 1) (mi 2) (mi 3) (mi 4) (mi 5) (mi 6) (mi 7) (mi 10) (mi 17) (fm 1) (fm 0) (fm 2) (fm 3) (fm 5) (fm 6) (fm 7) (fm 4) (fm 8) (fm 9) (fm 10) (fm 11)
def REL2 (vx : Nat → Int32) (fx : Nat → Nat → Int32) (mi : Nat → Int32) (fm : Nat → Nat → Int32) : Prop := REL0 vx fx mi fm ∧ DAT vx fx mi fm
theorem dat_M {vx : Nat → Int32} {fx : Nat → Nat → Int32} {mi : Nat → Int32} {fm : Nat → Nat → Int32} (h : DAT vx fx mi fm) : (0 < (mi 0).toInt ↔ ¬ mi 3 = 0) ∧ (0 < (mi 0).toInt ↔ 0 < (mi 3).toInt) ∧ 0 ≤ (mi 0).toInt ∧ (mi 0).toInt ≤ 24 := by
  obtain ⟨⟨-, -, h3, h4⟩, h5, h6⟩ := h
  by_cases g : mi 3 = 0
  · have g1 := h6 g
    have g2 : (mi 3).toInt = 0 := by rw [g]; exact z32
    have g3 : (mi 0).toInt = 0 := by rw [g1]; exact z32
    exact ⟨⟨fun q => by omega, fun q => absurd g q⟩, by omega, by omega, by omega⟩
  · have g1 := h5 g
    have g2 : ¬ (mi 3).toInt = 0 := fun q => g (Int32.toInt_inj.mp (by rw [z32]; exact q))
    exact ⟨⟨fun _ => g, fun _ => by omega⟩, by omega, by omega, by omega⟩
theorem r2_report {vx : Nat → Int32} {fx : Nat → Nat → Int32} {gx : Nat → Nat → Int64} {mi : Nat → Int32} {fm : Nat → Nat → Int32} (h : REL2 vx fx mi fm) (hk : ∀ i, i < 8 → fx 33 i = 0 ∨ fx 33 i = 1) {r r2 : Int32} {v : Nat → Int32} {f : Nat → Nat → Int32} {g : Nat → Nat → Int64} {mi2 : Nat → Int32} {fm2 : Nat → Nat → Int32} {p1 p2 : Int32} (hx : (r, v, f, g) = xs_report vx fx gx p1 p2) (hm : (r2, mi2, fm2) = ms_report mi fm p1 p2) : REL2 v f mi2 fm2 ∧ r = r2 := by
  unfold xs_report xt_report at hx
  unfold ms_report mt_report at hm
  have e1 := congrArg (fun o => o.1) hx
  have e2 := congrArg (fun o => o.2.1) hx
  have e3 := congrArg (fun o => o.2.2.1) hx
  have d1 := congrArg (fun o => o.1) hm
  have d2 := congrArg (fun o => o.2.1) hm
  have d3 := congrArg (fun o => o.2.2) hm
  dsimp only at e1 e2 e3 d1 d2 d3
  subst e2 e3 d2 d3
  refine ⟨h, ?_⟩
  rw [e1, d1]
  obtain ⟨hM1, hM2, hM3, hM4⟩ := dat_M h.2
  obtain ⟨⟨⟨w1, -, -, w4, w5, w6, w7⟩, ⟨m, r, d, hm, hr, hd, a1, a2, a3, a4, a5, a6, hN, hE1, hE2, hE3, hRg⟩, -⟩, -⟩ := h.2
  rw [a3]
  exact fl_report hr a4 (fun j hj => (hE2 j hj).1) p1 p2
theorem r2_deed {vx : Nat → Int32} {fx : Nat → Nat → Int32} {gx : Nat → Nat → Int64} {mi : Nat → Int32} {fm : Nat → Nat → Int32} (h : REL2 vx fx mi fm) (hk : ∀ i, i < 8 → fx 33 i = 0 ∨ fx 33 i = 1) {r r2 : Int32} {v : Nat → Int32} {f : Nat → Nat → Int32} {g : Nat → Nat → Int64} {mi2 : Nat → Int32} {fm2 : Nat → Nat → Int32} {p1 p2 : Int32} (hx : (r, v, f, g) = xs_deed vx fx gx p1 p2) (hm : (r2, mi2, fm2) = ms_deed mi fm p1 p2) : REL2 v f mi2 fm2 ∧ r = r2 := by
  unfold xs_deed xt_deed at hx
  unfold ms_deed mt_deed at hm
  have e1 := congrArg (fun o => o.1) hx
  have e2 := congrArg (fun o => o.2.1) hx
  have e3 := congrArg (fun o => o.2.2.1) hx
  have d1 := congrArg (fun o => o.1) hm
  have d2 := congrArg (fun o => o.2.1) hm
  have d3 := congrArg (fun o => o.2.2) hm
  dsimp only at e1 e2 e3 d1 d2 d3
  subst e2 e3 d2 d3
  refine ⟨h, ?_⟩
  rw [e1, d1]
  obtain ⟨hM1, hM2, hM3, hM4⟩ := dat_M h.2
  obtain ⟨⟨⟨w1, -, -, w4, w5, w6, w7⟩, ⟨m, r, d, hm, hr, hd, a1, a2, a3, a4, a5, a6, hN, hE1, hE2, hE3, hRg⟩, -⟩, -⟩ := h.2
  rw [a5]
  exact fl_deed hd a6 hE3 (fun j hj => hk j (by omega)) p1 p2
theorem r2_early {vx : Nat → Int32} {fx : Nat → Nat → Int32} {gx : Nat → Nat → Int64} {mi : Nat → Int32} {fm : Nat → Nat → Int32} (h : REL2 vx fx mi fm) (hk : ∀ i, i < 8 → fx 33 i = 0 ∨ fx 33 i = 1) {r r2 : Int32} {v : Nat → Int32} {f : Nat → Nat → Int32} {g : Nat → Nat → Int64} {mi2 : Nat → Int32} {fm2 : Nat → Nat → Int32} {p1 : Int32} (hx : (r, v, f, g) = xs_early vx fx gx p1) (hm : (r2, mi2, fm2) = ms_early mi fm p1) : REL2 v f mi2 fm2 ∧ r = r2 := by
  unfold xs_early xt_early at hx
  unfold ms_early mt_early at hm
  have e1 := congrArg (fun o => o.1) hx
  have e2 := congrArg (fun o => o.2.1) hx
  have e3 := congrArg (fun o => o.2.2.1) hx
  have d1 := congrArg (fun o => o.1) hm
  have d2 := congrArg (fun o => o.2.1) hm
  have d3 := congrArg (fun o => o.2.2) hm
  dsimp only at e1 e2 e3 d1 d2 d3
  subst e2 e3 d2 d3
  refine ⟨h, ?_⟩
  rw [e1, d1]
  obtain ⟨hM1, hM2, hM3, hM4⟩ := dat_M h.2
  obtain ⟨⟨⟨w1, -, -, w4, w5, w6, w7⟩, ⟨m, r, d, hm, hr, hd, a1, a2, a3, a4, a5, a6, hN, hE1, hE2, hE3, hRg⟩, -⟩, -⟩ := h.2
  rw [w1, w5, w6, w7]
  exact fl_early p1
theorem r2_blind {vx : Nat → Int32} {fx : Nat → Nat → Int32} {gx : Nat → Nat → Int64} {mi : Nat → Int32} {fm : Nat → Nat → Int32} (h : REL2 vx fx mi fm) (hk : ∀ i, i < 8 → fx 33 i = 0 ∨ fx 33 i = 1) {r r2 : Int32} {v : Nat → Int32} {f : Nat → Nat → Int32} {g : Nat → Nat → Int64} {mi2 : Nat → Int32} {fm2 : Nat → Nat → Int32} {p1 p2 : Int32} (hx : (r, v, f, g) = xs_blind vx fx gx p1 p2) (hm : (r2, mi2, fm2) = ms_blind mi fm p1 p2) : REL2 v f mi2 fm2 ∧ r = r2 := by
  unfold xs_blind xt_blind at hx
  unfold ms_blind mt_blind at hm
  have e1 := congrArg (fun o => o.1) hx
  have e2 := congrArg (fun o => o.2.1) hx
  have e3 := congrArg (fun o => o.2.2.1) hx
  have d1 := congrArg (fun o => o.1) hm
  have d2 := congrArg (fun o => o.2.1) hm
  have d3 := congrArg (fun o => o.2.2) hm
  dsimp only at e1 e2 e3 d1 d2 d3
  subst e2 e3 d2 d3
  refine ⟨h, ?_⟩
  rw [e1, d1]
  obtain ⟨hM1, hM2, hM3, hM4⟩ := dat_M h.2
  obtain ⟨⟨⟨w1, -, -, w4, w5, w6, w7⟩, ⟨m, r, d, hm, hr, hd, a1, a2, a3, a4, a5, a6, hN, hE1, hE2, hE3, hRg⟩, -⟩, -⟩ := h.2
  rw [w1, a3]
  exact fl_blind hr a4 (fun j hj => ⟨(hE2 j hj).1.2.1, (hE2 j hj).1.2.2.1, (hE2 j hj).1.2.2.2.2.1, (hE2 j hj).1.2.2.2.2.2⟩) hM2 hM3 hM4 p1 p2
theorem r2_place {vx : Nat → Int32} {fx : Nat → Nat → Int32} {gx : Nat → Nat → Int64} {mi : Nat → Int32} {fm : Nat → Nat → Int32} (h : REL2 vx fx mi fm) (hk : ∀ i, i < 8 → fx 33 i = 0 ∨ fx 33 i = 1) {r r2 : Int32} {v : Nat → Int32} {f : Nat → Nat → Int32} {g : Nat → Nat → Int64} {mi2 : Nat → Int32} {fm2 : Nat → Nat → Int32} {p1 p2 : Int32} (hx : (r, v, f, g) = xs_place vx fx gx p1 p2) (hm : (r2, mi2, fm2) = ms_place mi fm p1 p2) : REL2 v f mi2 fm2 ∧ r = r2 := by
  unfold xs_place xt_place at hx
  unfold ms_place mt_place at hm
  have e1 := congrArg (fun o => o.1) hx
  have e2 := congrArg (fun o => o.2.1) hx
  have e3 := congrArg (fun o => o.2.2.1) hx
  have d1 := congrArg (fun o => o.1) hm
  have d2 := congrArg (fun o => o.2.1) hm
  have d3 := congrArg (fun o => o.2.2) hm
  dsimp only at e1 e2 e3 d1 d2 d3
  subst e2 e3 d2 d3
  refine ⟨h, ?_⟩
  rw [e1, d1]
  obtain ⟨hM1, hM2, hM3, hM4⟩ := dat_M h.2
  obtain ⟨⟨⟨w1, -, -, w4, w5, w6, w7⟩, ⟨m, r, d, hm, hr, hd, a1, a2, a3, a4, a5, a6, hN, hE1, hE2, hE3, hRg⟩, -⟩, -⟩ := h.2
  rw [a1, a3]
  exact fl_place hm hr a2 a4 hN hE1 (fun j hj => ⟨(hE2 j hj).1.1, (hE2 j hj).1.2.2.2.2.2⟩) p1 p2
theorem r2_trusts {vx : Nat → Int32} {fx : Nat → Nat → Int32} {gx : Nat → Nat → Int64} {mi : Nat → Int32} {fm : Nat → Nat → Int32} (h : REL2 vx fx mi fm) {r r2 : Int32} {v : Nat → Int32} {f : Nat → Nat → Int32} {g : Nat → Nat → Int64} {mi2 : Nat → Int32} {fm2 : Nat → Nat → Int32} {p1 p2 : Int32} (hx : (r, v, f, g) = xs_trusts vx fx gx p1 p2) (hm : (r2, mi2, fm2) = ms_trusts mi fm p1 p2) : REL2 v f mi2 fm2 ∧ r = r2 := by
  unfold xs_trusts at hx
  unfold ms_trusts at hm
  obtain ⟨hM1, hM2, hM3, hM4⟩ := dat_M h.2
  obtain ⟨hR, ⟨⟨w1, w2, w3, w4, w5, w6, w7⟩, ⟨m, rr, d, hm6, hr, hd, a1, a2, a3, a4, a5, a6, hN, hE1, hE2, hE3, hRg⟩, w8⟩, w9⟩ := h
  rw [a1] at hx
  have hf := fl_trusts hm6 a2 hE1 (vx 1) (vx 3) (vx 4) p1 p2
  have hTr := tx_trusts (m := m) hRg.2.1 (vx 1) (vx 3) (vx 4) (nI m) p1 p2
  generalize fX11_trusts (vx 1) (vx 3) (vx 4) (nI m) (fx 23) p1 p2 = O at hx hf hTr
  generalize fX12_trusts mi (fm 0) p1 p2 = U at hm hf
  unfold xt_trusts at hx
  unfold mt_trusts at hm
  have e1 := congrArg (fun o => o.1) hx
  have e2 := congrArg (fun o => o.2.1) hx
  have e3 := congrArg (fun o => o.2.2.1) hx
  have d1 := congrArg (fun o => o.1) hm
  have d2 := congrArg (fun o => o.2.1) hm
  have d3 := congrArg (fun o => o.2.2) hm
  dsimp only at e1 e2 e3 d1 d2 d3
  subst e2 e3 d2 d3
  refine ⟨⟨hR, ⟨⟨w1, w2, w3, w4, w5, w6, w7⟩, ⟨m, rr, d, hm6, hr, hd, a1, a2, a3, a4, a5, a6, hN, hf.2, hE2, hE3, ⟨hRg.1, hTr, hRg.2.2⟩⟩, w8⟩, w9⟩, ?_⟩
  rw [e1, d1]
  exact hf.1
theorem r2_moon {vx : Nat → Int32} {fx : Nat → Nat → Int32} {gx : Nat → Nat → Int64} {mi : Nat → Int32} {fm : Nat → Nat → Int32} (h : REL2 vx fx mi fm) {r r2 : Int32} {v : Nat → Int32} {f : Nat → Nat → Int32} {g : Nat → Nat → Int64} {mi2 : Nat → Int32} {fm2 : Nat → Nat → Int32} {p1 p2 : Int32} (hx : (r, v, f, g) = xs_moon vx fx gx p1 p2) (hm : (r2, mi2, fm2) = ms_moon mi fm p1 p2) : REL2 v f mi2 fm2 ∧ r = r2 := by
  unfold xs_moon at hx
  unfold ms_moon at hm
  obtain ⟨hM1, hM2, hM3, hM4⟩ := dat_M h.2
  obtain ⟨hR, ⟨⟨w1, w2, w3, w4, w5, w6, w7⟩, ⟨m, rr, d, hm6, hr, hd, a1, a2, a3, a4, a5, a6, hN, hE1, hE2, hE3, hRg⟩, w8⟩, w9⟩ := h
  rw [w1, w5, w6, w7] at hx
  have hf := fl_moon hM1 (vx 1) (vx 3) (vx 4) p1 p2
  generalize fX11_moon (vx 1) (vx 3) (vx 4) (mi 0) (mi 4) (mi 5) (mi 6) p1 p2 = O at hx hf
  generalize fX12_moon mi p1 p2 = U at hm hf
  unfold xt_moon at hx
  unfold mt_moon at hm
  have e1 := congrArg (fun o => o.1) hx
  have e2 := congrArg (fun o => o.2.1) hx
  have e3 := congrArg (fun o => o.2.2.1) hx
  have d1 := congrArg (fun o => o.1) hm
  have d2 := congrArg (fun o => o.2.1) hm
  have d3 := congrArg (fun o => o.2.2) hm
  dsimp only at e1 e2 e3 d1 d2 d3
  subst e2 e3 d2 d3
  refine ⟨⟨hR, ⟨⟨w1, w2, w3, w4, congrArg (fun o => o.1) hf.2, congrArg (fun o => o.2.1) hf.2, congrArg (fun o => o.2.2) hf.2⟩, ⟨m, rr, d, hm6, hr, hd, a1, a2, a3, a4, a5, a6, hN, hE1, hE2, hE3, hRg⟩, w8⟩, w9⟩, ?_⟩
  rw [e1, d1]
  exact hf.1
theorem r2_strikes {vx : Nat → Int32} {fx : Nat → Nat → Int32} {gx : Nat → Nat → Int64} {mi : Nat → Int32} {fm : Nat → Nat → Int32} (h : REL2 vx fx mi fm) {r r2 : Int32} {v : Nat → Int32} {f : Nat → Nat → Int32} {g : Nat → Nat → Int64} {mi2 : Nat → Int32} {fm2 : Nat → Nat → Int32} {p1 : Int32} (hx : (r, v, f, g) = xs_strikes vx fx gx p1) (hm : (r2, mi2, fm2) = ms_strikes mi fm p1) : REL2 v f mi2 fm2 ∧ r = r2 := by
  unfold xs_strikes at hx
  unfold ms_strikes at hm
  obtain ⟨hM1, hM2, hM3, hM4⟩ := dat_M h.2
  obtain ⟨hR, ⟨⟨w1, w2, w3, w4, w5, w6, w7⟩, ⟨m, rr, d, hm6, hr, hd, a1, a2, a3, a4, a5, a6, hN, hE1, hE2, hE3, hRg⟩, w8⟩, w9⟩ := h
  rw [a1, a3] at hx
  have hf := fl_strikes hm6 hr a4 (fun j hj => ⟨(hE2 j hj).1.2.2.2.2.2, (hE2 j hj).2⟩) (vx 1) (vx 3) (vx 4) p1
  generalize fX11_strikes (vx 1) (vx 3) (vx 4) (nI m) (nI rr) (fx 24) (fx 29) p1 = O at hx hf
  generalize fX12_strikes mi (fm 4) p1 = U at hm hf
  unfold xt_strikes at hx
  unfold mt_strikes at hm
  have e1 := congrArg (fun o => o.1) hx
  have e2 := congrArg (fun o => o.2.1) hx
  have e3 := congrArg (fun o => o.2.2.1) hx
  have d1 := congrArg (fun o => o.1) hm
  have d2 := congrArg (fun o => o.2.1) hm
  have d3 := congrArg (fun o => o.2.2) hm
  dsimp only at e1 e2 e3 d1 d2 d3
  subst e2 e3 d2 d3
  refine ⟨⟨hR, ⟨⟨w1, w2, w3, w4, w5, w6, w7⟩, ⟨m, rr, d, hm6, hr, hd, a1, a2, a3, a4, a5, a6, hN, hE1, fun j hj => ⟨⟨(hE2 j hj).1.1, (hE2 j hj).1.2.1, (hE2 j hj).1.2.2.1, (hE2 j hj).1.2.2.2.1, (hE2 j hj).1.2.2.2.2.1, hf.2 j hj⟩, (hE2 j hj).2⟩, hE3, hRg⟩, w8⟩, w9⟩, ?_⟩
  rw [e1, d1]
  exact hf.1
theorem r2_reports {vx : Nat → Int32} {fx : Nat → Nat → Int32} {gx : Nat → Nat → Int64} {mi : Nat → Int32} {fm : Nat → Nat → Int32} (h : REL2 vx fx mi fm) {r r2 : Int32} {v : Nat → Int32} {f : Nat → Nat → Int32} {g : Nat → Nat → Int64} {mi2 : Nat → Int32} {fm2 : Nat → Nat → Int32} {p1 p2 p3 p4 p5 : Int32} (hx : (r, v, f, g) = xs_reports vx fx gx p1 p2 p3 p4 p5) (hm : (r2, mi2, fm2) = ms_reports mi fm p1 p2 p3 p4 p5) : REL2 v f mi2 fm2 ∧ r = r2 := by
  unfold xs_reports at hx
  unfold ms_reports at hm
  obtain ⟨hM1, hM2, hM3, hM4⟩ := dat_M h.2
  obtain ⟨hR, ⟨⟨w1, w2, w3, w4, w5, w6, w7⟩, ⟨m, rr, d, hm6, hr, hd, a1, a2, a3, a4, a5, a6, hN, hE1, hE2, hE3, hRg⟩, w8⟩, w9⟩ := h
  rw [w1, a1, a3] at hx
  have same : REL2 vx fx mi fm := ⟨hR, ⟨⟨w1, w2, w3, w4, w5, w6, w7⟩, ⟨m, rr, d, hm6, hr, hd, a1, a2, a3, a4, a5, a6, hN, hE1, hE2, hE3, hRg⟩, w8⟩, w9⟩
  unfold xt_reports at hx
  unfold mt_reports at hm
  by_cases hc : ((0 ≤ p1.toInt ∧ p1.toInt < (m : Int)) ∧ (0 ≤ p2.toInt ∧ p2.toInt ≤ 2) ∧ (0 < (mi 0).toInt ∧ 1 ≤ p3.toInt ∧ p3.toInt ≤ (mi 0).toInt - 1) ∧ 0 ≤ p4.toInt ∧ p4.toInt ≤ p5.toInt ∧ p5.toInt ≤ 999)
  · rw [px_reports1 hm6 hr hM3 hM4 _ _ _ _ _ _ _ _ hc] at hx
    rw [mr_reports1 hm6 hr a2 a4 hM1 hM3 hM4 _ _ _ _ _ hc] at hm
    by_cases g24 : rr < 24
    · rw [if_pos g24] at hx hm
      have e1 := congrArg (fun o => o.1) hx
      have e2 := congrArg (fun o => o.2.1) hx
      have e3 := congrArg (fun o => o.2.2.1) hx
      have d1 := congrArg (fun o => o.1) hm
      have d2 := congrArg (fun o => o.2.1) hm
      have d3 := congrArg (fun o => o.2.2) hm
      dsimp only at e1 e2 e3 d1 d2 d3
      subst e2 e3 d2 d3
      refine ⟨⟨hR, ⟨⟨w1, w2, w3, w4, w5, w6, w7⟩, ⟨m, rr + 1, d, hm6, by omega, hd, a1, a2, rfl, rfl, a5, a6, hN, hE1, fun j hj => ⟨⟨upd_eqs p1 (fun i hi => (hE2 i hi).1.1) j hj, upd_eqs p2 (fun i hi => (hE2 i hi).1.2.1) j hj, upd_eqs p3 (fun i hi => (hE2 i hi).1.2.2.1) j hj, upd_eqs p4 (fun i hi => (hE2 i hi).1.2.2.2.1) j hj, upd_eqs p5 (fun i hi => (hE2 i hi).1.2.2.2.2.1) j hj, upd_eqs 0 (fun i hi => (hE2 i hi).1.2.2.2.2.2) j hj⟩, ?_⟩, hE3, drg_report hRg (hM1.1 hc.2.2.1.1) (i32_012 hc.2.1) hc.2.2.1.2⟩, w8⟩, w9⟩, by rw [e1, d1]⟩
      by_cases h1 : j = rr
      · obtain ⟨q1, q2⟩ := clampI hc.1
        exact ⟨_, q1, (show upd (fx 24) rr p1 j = p1 from if_pos h1).trans q2⟩
      · obtain ⟨q1, q2, q3⟩ := (hE2 j (by omega)).2
        exact ⟨q1, q2, (show upd (fx 24) rr p1 j = fx 24 j from if_neg h1).trans q3⟩
    · rw [if_neg g24] at hx hm
      have e1 := congrArg (fun o => o.1) hx
      have e2 := congrArg (fun o => o.2.1) hx
      have e3 := congrArg (fun o => o.2.2.1) hx
      have d1 := congrArg (fun o => o.1) hm
      have d2 := congrArg (fun o => o.2.1) hm
      have d3 := congrArg (fun o => o.2.2) hm
      dsimp only at e1 e2 e3 d1 d2 d3
      subst e2 e3 d2 d3
      exact ⟨⟨hR, ⟨⟨w1, w2, w3, w4, w5, w6, w7⟩, ⟨m, rr, d, hm6, hr, hd, a1, a2, rfl, rfl, a5, a6, hN, hE1, hE2, hE3, hRg⟩, w8⟩, w9⟩, by rw [e1, d1]⟩
  · rw [px_reports0 hm6 hr hM3 hM4 _ _ _ _ _ _ _ _ hc] at hx
    rw [mr_reports0 hm6 hr a2 a4 hM1 hM3 hM4 _ _ _ _ _ hc] at hm
    have e1 := congrArg (fun o => o.1) hx
    have e2 := congrArg (fun o => o.2.1) hx
    have e3 := congrArg (fun o => o.2.2.1) hx
    have d1 := congrArg (fun o => o.1) hm
    have d2 := congrArg (fun o => o.2.1) hm
    have d3 := congrArg (fun o => o.2.2) hm
    dsimp only at e1 e2 e3 d1 d2 d3
    subst e2 e3 d2 d3
    exact ⟨⟨hR, ⟨⟨w1, w2, w3, w4, w5, w6, w7⟩, ⟨m, rr, d, hm6, hr, hd, a1, a2, rfl, rfl, a5, a6, hN, hE1, hE2, hE3, hRg⟩, w8⟩, w9⟩, by rw [e1, d1]⟩
theorem r2_feed {vx : Nat → Int32} {fx : Nat → Nat → Int32} {gx : Nat → Nat → Int64} {mi : Nat → Int32} {fm : Nat → Nat → Int32} (h : REL2 vx fx mi fm) {r r2 : Int32} {v : Nat → Int32} {f : Nat → Nat → Int32} {g : Nat → Nat → Int64} {mi2 : Nat → Int32} {fm2 : Nat → Nat → Int32} {p1 p2 p3 p4 p5 : Int32} (hx : (r, v, f, g) = xs_feed vx fx gx p1 p2 p3 p4 p5) (hm : (r2, mi2, fm2) = ms_feed mi fm p1 p2 p3 p4 p5) : REL2 v f mi2 fm2 ∧ r = r2 := by
  obtain ⟨q1, q2⟩ := rl_feed h.1 hx hm
  refine ⟨⟨q1, ?_⟩, q2⟩
  unfold xs_feed xt_feed at hx
  unfold ms_feed mt_feed at hm
  have e2 := congrArg (fun o => o.2.1) hx
  have e3 := congrArg (fun o => o.2.2.1) hx
  have d2 := congrArg (fun o => o.2.1) hm
  have d3 := congrArg (fun o => o.2.2) hm
  dsimp only at e2 e3 d2 d3
  subst e2 e3 d2 d3
  exact h.2
theorem r2_end {vx : Nat → Int32} {fx : Nat → Nat → Int32} {gx : Nat → Nat → Int64} {mi : Nat → Int32} {fm : Nat → Nat → Int32} (h : REL2 vx fx mi fm) {r r2 : Int32} {v : Nat → Int32} {f : Nat → Nat → Int32} {g : Nat → Nat → Int64} {mi2 : Nat → Int32} {fm2 : Nat → Nat → Int32} {p1 : Int32} (hx : (r, v, f, g) = xs_end vx fx gx p1) (hm : (r2, mi2, fm2) = ms_end mi fm p1) : REL2 v f mi2 fm2 ∧ r = r2 := by
  obtain ⟨q1, q2⟩ := rl_end h.1 hx hm
  refine ⟨⟨q1, ?_⟩, q2⟩
  unfold xs_end xt_end at hx
  unfold ms_end mt_end at hm
  have e2 := congrArg (fun o => o.2.1) hx
  have e3 := congrArg (fun o => o.2.2.1) hx
  have d2 := congrArg (fun o => o.2.1) hm
  have d3 := congrArg (fun o => o.2.2) hm
  dsimp only at e2 e3 d2 d3
  subst e2 e3 d2 d3
  exact h.2
theorem r2_fault {vx : Nat → Int32} {fx : Nat → Nat → Int32} {gx : Nat → Nat → Int64} {mi : Nat → Int32} {fm : Nat → Nat → Int32} (h : REL2 vx fx mi fm) {r r2 : Int32} {v : Nat → Int32} {f : Nat → Nat → Int32} {g : Nat → Nat → Int64} {mi2 : Nat → Int32} {fm2 : Nat → Nat → Int32} {p1 : Int32} (hx : (r, v, f, g) = xs_fault vx fx gx p1) (hm : (r2, mi2, fm2) = ms_fault mi fm p1) : REL2 v f mi2 fm2 ∧ r = r2 := by
  obtain ⟨q1, q2⟩ := rl_fault h.1 hx hm
  refine ⟨⟨q1, ?_⟩, q2⟩
  unfold xs_fault xt_fault at hx
  unfold ms_fault mt_fault at hm
  have e2 := congrArg (fun o => o.2.1) hx
  have e3 := congrArg (fun o => o.2.2.1) hx
  have d2 := congrArg (fun o => o.2.1) hm
  have d3 := congrArg (fun o => o.2.2) hm
  dsimp only at e2 e3 d2 d3
  subst e2 e3 d2 d3
  exact h.2
set_option maxRecDepth 100000 in
theorem alm_fail {n : Nat} {bt tp mi cg0 cg1 cg2 cg3 cg4 cg5 cg6 cg7 cg8 cg9 cg10 cg11 ry0 ry1 ry2 ry3 ry4 ry5 ry6 ry7 ry8 ry9 ry10 ry11 ry12 : Nat → Int32} {cs ts hs tok st : Int32} (hn : n ≤ 1600) (hT : TR n bt tp) (h26 : mi 26 = nI n) {O : Int32 × Int32 × Int32 × Int32 × Int32 × Int32 × Int32 × Int32 × Int32 × Int32 × Int32 × Int32 × Int32 × Int32 × Int32 × Int32 × Int32 × Int32 × Int32 × Int32 × (Nat → Int32) × (Nat → Int32) × (Nat → Int32) × (Nat → Int32) × (Nat → Int32) × (Nat → Int32) × (Nat → Int32) × (Nat → Int32) × (Nat → Int32) × (Nat → Int32) × (Nat → Int32) × (Nat → Int32)} (hO : O = fX11_almanac cs ts hs tok st (nI n) bt cg0 cg1 cg2 cg3 cg4 cg5 cg6 cg7 cg8 cg9 cg10 cg11) {U : Int32 × Int32 × Int32 × Int32 × Int32 × Int32 × Int32 × Int32 × Int32 × Int32 × Int32 × Int32 × Int32 × Int32 × Int32 × Int32 × Int32 × Int32 × Int32 × Int32 × Int32 × (Nat → Int32) × (Nat → Int32) × (Nat → Int32) × (Nat → Int32) × (Nat → Int32) × (Nat → Int32) × (Nat → Int32) × (Nat → Int32) × (Nat → Int32) × (Nat → Int32) × (Nat → Int32) × (Nat → Int32) × (Nat → Int32)} (hU : U = fX12_almanac mi tp ry0 ry1 ry2 ry3 ry4 ry5 ry6 ry7 ry8 ry9 ry10 ry11 ry12) (hfk : ¬ O.2.2.2.2.1 = 0) : ∃ (k fu : Int32 × Int32 × Int32 × Int32 × Int32 × Int32 × Int32 × Int32 × Int32 × Int32 × Int32 × Int32 × (Nat → Int32) × (Nat → Int32) × (Nat → Int32) × (Nat → Int32) × (Nat → Int32) × (Nat → Int32) × (Nat → Int32) × (Nat → Int32) × (Nat → Int32) × (Nat → Int32) × (Nat → Int32) × (Nat → Int32) × (Nat → Int32)) (mi9 t9 l9 a1 a2 a3 a4 a5 b1 b2 b3 b4 s9 : Nat → Int32), k = fX12_movesAll mi ry0 ry1 ry2 ry3 ry4 ry5 ry6 ry7 ry8 ry9 ry10 ry11 ry12 1 ∧ fu = fX12_movesAll_sX12_movesAllR mi9 k.2.2.2.2.2.2.2.2.2.2.2.2.1 t9 l9 a1 a2 a3 a4 a5 b1 b2 b3 b4 s9 0 ∧ U.2.1 = fu.1 ∧ U.2.2.1 = fu.2.1 ∧ U.2.2.2.1 = fu.2.2.1 ∧ U.2.2.2.2.1 = fu.2.2.2.1 ∧ U.2.2.2.2.2.1 = fu.2.2.2.2.1 ∧ U.2.2.2.2.2.2.1 = fu.2.2.2.2.2.1 ∧ U.2.2.2.2.2.2.2.1 = fu.2.2.2.2.2.2.1 ∧ U.2.2.2.2.2.2.2.2.1 = fu.2.2.2.2.2.2.2.1 ∧ U.2.2.2.2.2.2.2.2.2.1 = fu.2.2.2.2.2.2.2.2.1 ∧ U.2.2.2.2.2.2.2.2.2.2.1 = fu.2.2.2.2.2.2.2.2.2.1 ∧ U.2.2.2.2.2.2.2.2.2.2.2.2.2.2.2.2.2.2.2.2.2.2.1 = fu.2.2.2.2.2.2.2.2.2.2.2.2.2.1 ∧ U.2.2.2.2.2.2.2.2.2.2.2.2.2.2.2.2.2.2.2.2.2.2.2.1 = fu.2.2.2.2.2.2.2.2.2.2.2.2.2.2.1 ∧ U.2.2.2.2.2.2.2.2.2.2.2.2.2.2.2.2.2.2.2.2.2.2.2.2.1 = fu.2.2.2.2.2.2.2.2.2.2.2.2.2.2.2.1 ∧ U.2.2.2.2.2.2.2.2.2.2.2.2.2.2.2.2.2.2.2.2.2.2.2.2.2.1 = fu.2.2.2.2.2.2.2.2.2.2.2.2.2.2.2.2.1 ∧ U.2.2.2.2.2.2.2.2.2.2.2.2.2.2.2.2.2.2.2.2.2.2.2.2.2.2.1 = fu.2.2.2.2.2.2.2.2.2.2.2.2.2.2.2.2.2.1 ∧ U.2.2.2.2.2.2.2.2.2.2.2.2.2.2.2.2.2.2.2.2.2.2.2.2.2.2.2.1 = fu.2.2.2.2.2.2.2.2.2.2.2.2.2.2.2.2.2.2.1 ∧ U.2.2.2.2.2.2.2.2.2.2.2.2.2.2.2.2.2.2.2.2.2.2.2.2.2.2.2.2.1 = fu.2.2.2.2.2.2.2.2.2.2.2.2.2.2.2.2.2.2.2.1 ∧ U.2.2.2.2.2.2.2.2.2.2.2.2.2.2.2.2.2.2.2.2.2.2.2.2.2.2.2.2.2.1 = fu.2.2.2.2.2.2.2.2.2.2.2.2.2.2.2.2.2.2.2.2.1 ∧ U.2.2.2.2.2.2.2.2.2.2.2.2.2.2.2.2.2.2.2.2.2.2.2.2.2.2.2.2.2.2.1 = fu.2.2.2.2.2.2.2.2.2.2.2.2.2.2.2.2.2.2.2.2.2.1 ∧ U.2.2.2.2.2.2.2.2.2.2.2.2.2.2.2.2.2.2.2.2.2.2.2.2.2.2.2.2.2.2.2.1 = fu.2.2.2.2.2.2.2.2.2.2.2.2.2.2.2.2.2.2.2.2.2.2.1 ∧ U.2.2.2.2.2.2.2.2.2.2.2.2.2.2.2.2.2.2.2.2.2.2.2.2.2.2.2.2.2.2.2.2.1 = fu.2.2.2.2.2.2.2.2.2.2.2.2.2.2.2.2.2.2.2.2.2.2.2.1 ∧ U.2.2.2.2.2.2.2.2.2.2.2.2.2.2.2.2.2.2.2.2.2.2.2.2.2.2.2.2.2.2.2.2.2 = fu.2.2.2.2.2.2.2.2.2.2.2.2.2.2.2.2.2.2.2.2.2.2.2.2 := by
  unfold fX11_almanac at hO
  obtain ⟨o1, e1, hO⟩ := cal_out hO
  unfold fX6_read at e1
  obtain ⟨w, ew, e1⟩ := cal_out e1
  obtain ⟨q, eq, e1⟩ := cal_out e1
  unfold fX0_wipe at ew
  subst ew
  unfold fX12_almanac at hU
  obtain ⟨k, ek, hU⟩ := cal_out hU
  obtain ⟨x, ex, hU⟩ := cal_out hU
  obtain ⟨s0, hs0⟩ : ∃ s, s = prun (fun j => cB (bt j).toInt) (n - 0) 0 := ⟨_, rfl⟩
  have hs0n : s0 ≤ n := by
    have g := prun_le (fun j => cB (bt j).toInt) (n - 0) 0
    omega
  have eq : q = (nI (ptok (fun j => (bt j).toInt) n s0).1, nI s0, nI (ptok (fun j => (bt j).toInt) n s0).2) := by
    rw [hs0]
    exact eq.trans (px_step (p := 0) hn (Nat.zero_le _))
  have hsr : prun (fun j => cB (tp j).toInt) (n - 0) 0 = s0 := by
    rw [hs0]
    exact prun_eq _ _ (fun j g1 g2 => tr_B hT (by omega))
  obtain ⟨wv, ev1, ev2⟩ := pr_next (tp := tp) (mi := (upd (upd (upd (upd (upd (upd (upd (upd (upd (upd (upd (upd (upd (upd (upd (upd mi 0 0) 1 0) 2 0) 3 0) 4 0) 5 0) 6 0) 7 0) 10 0) 17 0) 23 k.2.2.2.2.2.2.2.2.2.2.1) 24 k.2.2.2.2.2.2.2.2.2.2.2.1) 27 0) 28 (-1)) 29 0) 33 0)) (p := 0) hn (Nat.zero_le _) h26 rfl
  rw [hsr, tr_tok hT] at ev1
  rw [hsr, tr_val hT] at ev2
  have ex : x = (nI (ptok (fun j => (bt j).toInt) n s0).2, nI s0, nI (pkind (ptok (fun j => (bt j).toInt) n s0).1), wv) := ex.trans ev1
  subst eq ex
  have hQ : aQ s0 n bt (aOk s0) (0, -1, nI (ptok (fun j => (bt j).toInt) n s0).1, nI s0, nI (ptok (fun j => (bt j).toInt) n s0).2) (0, -1, nI (ptok (fun j => (bt j).toInt) n s0).2, nI s0, nI (pkind (ptok (fun j => (bt j).toInt) n s0).1), wv, 0) := by
    refine ⟨aRC_ok hs0n, ?_, fun _ => ⟨Nat.le_refl _, hs0n⟩⟩
    unfold aR7
    rw [if_neg (show ¬ (aOk s0).1 = true from Bool.false_ne_true)]
    exact ⟨rfl, rfl, rfl, rfl, hs0n, rfl, rfl, rfl, ev2⟩
  have z0 : (0 : Int32).toInt = 0 := by decide
  have hDD : ∀ (nm xt xp xk xm xd xn xs xa xb xl xi lt yt yp yk ym yd yn ys ya yb yl yi : Nat → Int32), DRel s0 0 0 0 0 0 0 0 0 0 0 nm xt xp xk xm xd xn xs xa xb xl xi 0 0 0 0 0 0 0 0 0 0 lt yt yp yk ym yd yn ys ya yb yl yi := by
    intro nm xt xp xk xm xd xn xs xa xb xl xi lt yt yp yk ym yd yn ys ya yb yl yi
    refine ⟨⟨⟨rfl, rfl, rfl, rfl, rfl, rfl, rfl⟩, ⟨0, 0, 0, by omega, by omega, by omega, rfl, rfl, rfl, rfl, rfl, rfl, fun p hp => absurd hp (by omega), fun j hj => absurd hj (by omega), fun j hj => absurd hj (by omega), fun j hj => absurd hj (by omega), fun _ => ⟨rfl, rfl⟩, fun p hp => absurd hp (by omega), fun p q hp => absurd hp (by omega), fun j hj => absurd hj (by omega), fun j hj => absurd hj (by omega)⟩, by rw [z0]; omega, by rw [z0]; omega⟩, fun q => absurd rfl q, fun _ => rfl⟩
  obtain ⟨X, Y, a, hXe, hYe, hQ2, hD2⟩ := rd_loop (ctok := tok) (cst := st) (w23 := k.2.2.2.2.2.2.2.2.2.2.1) (w24 := k.2.2.2.2.2.2.2.2.2.2.2.1) (kp := k.2.2.2.2.2.2.2.2.2.2.2.2.1) (mi := mi) (cg0 := cg0) (cg1 := cg1) (cg2 := cg2) (cg3 := cg3) (cg4 := cg4) (cg5 := cg5) (cg6 := cg6) (cg7 := cg7) (cg8 := cg8) (cg9 := cg9) (cg10 := cg10) (cg11 := cg11) (ry0 := ry0) (ry1 := ry1) (ry2 := ry2) (ry3 := ry3) (ry4 := ry4) (ry5 := ry5) (ry6 := ry6) (ry7 := ry7) (ry8 := ry8) (ry9 := ry9) (ry10 := ry10) (ry11 := ry11) (ry12 := ry12) hn hT h26 (n + 1) s0 0 1000000000 1000000000 (0, -1, nI (ptok (fun j => (bt j).toInt) n s0).1, nI s0, nI (ptok (fun j => (bt j).toInt) n s0).2) (0, -1, nI (ptok (fun j => (bt j).toInt) n s0).2, nI s0, nI (pkind (ptok (fun j => (bt j).toInt) n s0).1), wv, 0) 0 0 0 0 0 0 0 0 0 0 0 0 0 0 0 0 0 0 0 0 cg0 cg1 cg2 cg3 cg4 cg5 cg6 cg7 cg8 cg9 cg10 cg11 k.2.2.2.2.2.2.2.2.2.2.2.2.2.2.1 k.2.2.2.2.2.2.2.2.2.2.2.2.2.1 k.2.2.2.2.2.2.2.2.2.2.2.2.2.2.2.1 k.2.2.2.2.2.2.2.2.2.2.2.2.2.2.2.2.1 k.2.2.2.2.2.2.2.2.2.2.2.2.2.2.2.2.2.1 k.2.2.2.2.2.2.2.2.2.2.2.2.2.2.2.2.2.2.1 k.2.2.2.2.2.2.2.2.2.2.2.2.2.2.2.2.2.2.2.1 k.2.2.2.2.2.2.2.2.2.2.2.2.2.2.2.2.2.2.2.2.2.2.2.2 k.2.2.2.2.2.2.2.2.2.2.2.2.2.2.2.2.2.2.2.2.1 k.2.2.2.2.2.2.2.2.2.2.2.2.2.2.2.2.2.2.2.2.2.1 k.2.2.2.2.2.2.2.2.2.2.2.2.2.2.2.2.2.2.2.2.2.2.1 k.2.2.2.2.2.2.2.2.2.2.2.2.2.2.2.2.2.2.2.2.2.2.2.1 (by omega) (by omega) hs0n (by omega) (by omega) hQ (hDD _ _ _ _ _ _ _ _ _ _ _ _ _ _ _ _ _ _ _ _ _ _ _ _)
  have e1 : o1 = X := e1.trans hXe
  have hU := hU.trans hYe
  subst e1
  unfold bfX12_almanac_100 at hU
  by_cases ha : a.1 = false
  · rw [if_pos ((aQ_fk hQ2).mpr ha)] at hO
    obtain ⟨fo, -, hO⟩ := cal_out hO
    subst hO
    exact absurd ((aQ_fk hQ2).mpr ha) hfk
  · rw [if_neg (fun q => ha ((aQ_33 hQ2).mp q))] at hU
    obtain ⟨fu, ef, hU⟩ := cal_out hU
    subst hU
    exact ⟨k, fu, _, _, _, _, _, _, _, _, _, _, _, _, _, ek, ef, rfl, rfl, rfl, rfl, rfl, rfl, rfl, rfl, rfl, rfl, rfl, rfl, rfl, rfl, rfl, rfl, rfl, rfl, rfl, rfl, rfl, rfl⟩
set_option maxRecDepth 100000 in
theorem r2_almanac {vx : Nat → Int32} {fx : Nat → Nat → Int32} {gx : Nat → Nat → Int64} {mi : Nat → Int32} {fm : Nat → Nat → Int32} (h : REL2 vx fx mi fm) (hb4 : mi 4 = 0 ∨ mi 4 = 1) (hbs : ∀ i, i < 24 → fm 4 i = 0 ∨ fm 4 i = 1) {r r2 : Int32} {v : Nat → Int32} {f : Nat → Nat → Int32} {g : Nat → Nat → Int64} {mi2 : Nat → Int32} {fm2 : Nat → Nat → Int32} (hx : (r, v, f, g) = xs_almanac vx fx gx) (hm : (r2, mi2, fm2) = ms_almanac mi fm) : REL2 v f mi2 fm2 ∧ r = r2 := by
  obtain ⟨q1, q2⟩ := rl_almanac h.1 hx hm
  refine ⟨⟨q1, ?_⟩, q2⟩
  obtain ⟨⟨n, hn, h10, h26, hT⟩, -⟩ := h.1
  have hDD := h.2
  unfold xs_almanac at hx
  unfold ms_almanac at hm
  rw [h10] at hx
  obtain ⟨O, hO⟩ : ∃ O, O = fX11_almanac (vx 1) (vx 3) (vx 4) (vx 7) (vx 8) (nI n) (fx 0) (fx 46) (fx 47) (fx 48) (fx 49) (fx 50) (fx 51) (fx 52) (fx 53) (fx 54) (fx 55) (fx 56) (fx 57) := ⟨_, rfl⟩
  obtain ⟨U, hU⟩ : ∃ U, U = fX12_almanac mi (fm 13) (fm 12) (fm 0) (fm 1) (fm 2) (fm 3) (fm 5) (fm 6) (fm 7) (fm 8) (fm 9) (fm 10) (fm 11) (fm 4) := ⟨_, rfl⟩
  rw [← hO] at hx
  rw [← hU] at hm
  unfold mt_almanac at hm
  have d2 := congrArg (fun o => o.2.1) hm
  have d3 := congrArg (fun o => o.2.2) hm
  dsimp only at d2 d3
  unfold xt_almanac at hx
  by_cases h0 : O.2.2.2.2.1 = 0
  · obtain ⟨-, -, -, -, -, hN9⟩ := alm_core hn hT h26 hO hU
    have hD9 := drel_mono (drel_fl (hN9 h0) U.2.2.1 U.2.2.2.1) hn
    rw [if_pos h0] at hx
    have e2 := congrArg (fun o => o.2.1) hx
    have e3 := congrArg (fun o => o.2.2.1) hx
    dsimp only at e2 e3
    subst e2 e3 d2 d3
    exact hD9
  · obtain ⟨k, fu, mi9, t9, l9, a1, a2, a3, a4, a5, b1, b2, b3, b4, s9, ek, ef, u0, u1, u2, u3, u4, u5, u6, u7, u8, u9, w0, w1, w2, w3, w4, w5, w6, w7, w8, w9, w10, w11⟩ := alm_fail hn hT h26 hO hU h0
    have hK := kp_facts (mvk_all hb4 hbs ek)
    have hR := mvr_all ef
    obtain ⟨k0, k1, k2, k3, k4, k5, k6, k7, k8, k9, y0, y1, y2, y3, y4, y5, y6, y7, y8, y9, y10, y11⟩ := hK
    obtain ⟨r0, r1, r2, r3, r4, r5, r6, r7, r8, r9, z0, z1, z2, z3, z4, z5, z6, z7, z8, z9, z10, z11⟩ := hR
    rw [if_neg h0] at hx
    have e2 := congrArg (fun o => o.2.1) hx
    have e3 := congrArg (fun o => o.2.2.1) hx
    dsimp only at e2 e3
    subst e2 e3 d2 d3
    have n4 : U.2.2.2.2.2.1 = mi 4 := by
      rw [u4, r4, k4]
      rcases hb4 with q | q
      · rw [q]
        exact if_neg (by decide)
      · rw [q]
        exact if_pos rfl
    have nst : ∀ i, i < 24 → U.2.2.2.2.2.2.2.2.2.2.2.2.2.2.2.2.2.2.2.2.2.2.2.2.2.2.2.2.2.2.2.2.2 i = fm 4 i := by
      intro i hi
      rw [w11, z11 i hi, y11 i hi]
      rcases hbs i hi with q | q
      · rw [q]
        exact if_neg (by decide)
      · rw [q]
        exact if_pos rfl
    exact drel_fl (drel_congr hDD (u0.trans (r0.trans k0)) (u1.trans (r1.trans k1)) (u2.trans (r2.trans k2)) (u3.trans (r3.trans k3)) n4 (u5.trans (r5.trans k5)) (u6.trans (r6.trans k6)) (u7.trans (r7.trans k7)) (u8.trans (r8.trans k8)) (u9.trans (r9.trans k9)) (fun i hi => by rw [w1]; exact (z1 i hi).trans (y1 i hi)) (fun i hi => by rw [w0]; exact (z0 i hi).trans (y0 i hi)) (fun i hi => by rw [w2]; exact (z2 i hi).trans (y2 i hi)) (fun i hi => by rw [w3]; exact (z3 i hi).trans (y3 i hi)) (fun i hi => by rw [w4]; exact (z4 i hi).trans (y4 i hi)) (fun i hi => by rw [w5]; exact (z5 i hi).trans (y5 i hi)) (fun i hi => by rw [w6]; exact (z6 i hi).trans (y6 i hi)) nst (fun i hi => by rw [w7]; exact (z7 i hi).trans (y7 i hi)) (fun i hi => by rw [w8]; exact (z8 i hi).trans (y8 i hi)) (fun i hi => by rw [w9]; exact (z9 i hi).trans (y9 i hi)) (fun i hi => by rw [w10]; exact (z10 i hi).trans (y10 i hi))) _ _
def REL (vx : Nat → Int32) (fx : Nat → Nat → Int32) (gx : Nat → Nat → Int64) (mi : Nat → Int32) (fm : Nat → Nat → Int32) : Prop := REL2 vx fx mi fm
theorem pr_stay {vx : Nat → Int32} {fx : Nat → Nat → Int32} {gx : Nat → Nat → Int64} {mi : Nat → Int32} {fm : Nat → Nat → Int32} (h : REL vx fx gx mi fm) {v : Nat → Int32} {f : Nat → Nat → Int32} {g : Nat → Nat → Int64} {mi2 : Nat → Int32} {fm2 : Nat → Nat → Int32} (hx : styX vx fx v f) (hm : styM mi fm mi2 fm2) : REL v f g mi2 fm2 := by
  obtain ⟨x0, x1, x2, x3, x4, x5, x6, x7, x8, x9, x10, x11, x12, x13, x14, x15, x16, x17, x18, x19, x20, x21, x22, x23⟩ := hx
  obtain ⟨m0, m1, m2, m3, m4, m5, m6, m7, m8, m9, m10, m11, m12, m13, m14, m15, m16, m17, m18, m19, m20, m21, m22, m23⟩ := hm
  have h1 := h.1
  have h2 := drel_fl h.2 (mi2 1) (mi2 2)
  refine ⟨?_, ?_⟩
  · unfold REL0 at h1 ⊢
    rw [x0, x1, x2, x11, m0, m1, m2, m23]
    exact h1
  · unfold DAT
    rw [x3, x4, x5, x6, x7, x8, x9, x10, x12, x13, x14, x15, x16, x17, x18, x19, x20, x21, x22, x23, m3, m4, m5, m6, m7, m8, m9, m10, m11, m12, m13, m14, m15, m16, m17, m18, m19, m20, m21, m22]
    exact h2
theorem pr_feed {vx : Nat → Int32} {fx : Nat → Nat → Int32} {gx : Nat → Nat → Int64} {mi : Nat → Int32} {fm : Nat → Nat → Int32} (hXI : XI vx fx) (hMI : MI mi fm) (h : REL vx fx gx mi fm) {r r2 : Int32} {v : Nat → Int32} {f : Nat → Nat → Int32} {g : Nat → Nat → Int64} {mi2 : Nat → Int32} {fm2 : Nat → Nat → Int32} {p1 p2 p3 p4 p5 : Int32} (hx : (r, v, f, g) = xs_feed vx fx gx p1 p2 p3 p4 p5) (hm : (r2, mi2, fm2) = ms_feed mi fm p1 p2 p3 p4 p5) : REL v f g mi2 fm2 ∧ r = r2 := r2_feed h hx hm
theorem pr_end {vx : Nat → Int32} {fx : Nat → Nat → Int32} {gx : Nat → Nat → Int64} {mi : Nat → Int32} {fm : Nat → Nat → Int32} (hXI : XI vx fx) (hMI : MI mi fm) (h : REL vx fx gx mi fm) {r r2 : Int32} {v : Nat → Int32} {f : Nat → Nat → Int32} {g : Nat → Nat → Int64} {mi2 : Nat → Int32} {fm2 : Nat → Nat → Int32} {p1 : Int32} (hx : (r, v, f, g) = xs_end vx fx gx p1) (hm : (r2, mi2, fm2) = ms_end mi fm p1) : REL v f g mi2 fm2 ∧ r = r2 := r2_end h hx hm
theorem pr_almanac {vx : Nat → Int32} {fx : Nat → Nat → Int32} {gx : Nat → Nat → Int64} {mi : Nat → Int32} {fm : Nat → Nat → Int32} (hXI : XI vx fx) (hMI : MI mi fm) (h : REL vx fx gx mi fm) {r r2 : Int32} {v : Nat → Int32} {f : Nat → Nat → Int32} {g : Nat → Nat → Int64} {mi2 : Nat → Int32} {fm2 : Nat → Nat → Int32} (hx : (r, v, f, g) = xs_almanac vx fx gx) (hm : (r2, mi2, fm2) = ms_almanac mi fm) : REL v f g mi2 fm2 ∧ r = r2 := r2_almanac h (bz_cases hMI.2.2.2.1) (fun i hi => bz_cases (hMI.2.2.2.2.2.2.2.2.2.2.2.2.2.2.2.2.2.2.2.2.1 i hi)) hx hm
theorem pr_fault {vx : Nat → Int32} {fx : Nat → Nat → Int32} {gx : Nat → Nat → Int64} {mi : Nat → Int32} {fm : Nat → Nat → Int32} (hXI : XI vx fx) (hMI : MI mi fm) (h : REL vx fx gx mi fm) {r r2 : Int32} {v : Nat → Int32} {f : Nat → Nat → Int32} {g : Nat → Nat → Int64} {mi2 : Nat → Int32} {fm2 : Nat → Nat → Int32} {p1 : Int32} (hx : (r, v, f, g) = xs_fault vx fx gx p1) (hm : (r2, mi2, fm2) = ms_fault mi fm p1) : REL v f g mi2 fm2 ∧ r = r2 := r2_fault h hx hm
theorem pr_place {vx : Nat → Int32} {fx : Nat → Nat → Int32} {gx : Nat → Nat → Int64} {mi : Nat → Int32} {fm : Nat → Nat → Int32} (hXI : XI vx fx) (hMI : MI mi fm) (h : REL vx fx gx mi fm) {r r2 : Int32} {v : Nat → Int32} {f : Nat → Nat → Int32} {g : Nat → Nat → Int64} {mi2 : Nat → Int32} {fm2 : Nat → Nat → Int32} {p1 p2 : Int32} (hx : (r, v, f, g) = xs_place vx fx gx p1 p2) (hm : (r2, mi2, fm2) = ms_place mi fm p1 p2) : REL v f g mi2 fm2 ∧ r = r2 := r2_place h (fun i hi => bz_cases (hXI.2.2.2.2.2.2.2.2.2.2.2.2.2.2.2.2.2.2.2.2.2.2.2.2.2.2.2.2.2.2.2.2.2.2.2.2.2.2.2.2.2.2.2.2.2.2.2.2.2.2.2.2.2.2.1 i hi)) hx hm
theorem pr_report {vx : Nat → Int32} {fx : Nat → Nat → Int32} {gx : Nat → Nat → Int64} {mi : Nat → Int32} {fm : Nat → Nat → Int32} (hXI : XI vx fx) (hMI : MI mi fm) (h : REL vx fx gx mi fm) {r r2 : Int32} {v : Nat → Int32} {f : Nat → Nat → Int32} {g : Nat → Nat → Int64} {mi2 : Nat → Int32} {fm2 : Nat → Nat → Int32} {p1 p2 : Int32} (hx : (r, v, f, g) = xs_report vx fx gx p1 p2) (hm : (r2, mi2, fm2) = ms_report mi fm p1 p2) : REL v f g mi2 fm2 ∧ r = r2 := r2_report h (fun i hi => bz_cases (hXI.2.2.2.2.2.2.2.2.2.2.2.2.2.2.2.2.2.2.2.2.2.2.2.2.2.2.2.2.2.2.2.2.2.2.2.2.2.2.2.2.2.2.2.2.2.2.2.2.2.2.2.2.2.2.1 i hi)) hx hm
theorem pr_deed {vx : Nat → Int32} {fx : Nat → Nat → Int32} {gx : Nat → Nat → Int64} {mi : Nat → Int32} {fm : Nat → Nat → Int32} (hXI : XI vx fx) (hMI : MI mi fm) (h : REL vx fx gx mi fm) {r r2 : Int32} {v : Nat → Int32} {f : Nat → Nat → Int32} {g : Nat → Nat → Int64} {mi2 : Nat → Int32} {fm2 : Nat → Nat → Int32} {p1 p2 : Int32} (hx : (r, v, f, g) = xs_deed vx fx gx p1 p2) (hm : (r2, mi2, fm2) = ms_deed mi fm p1 p2) : REL v f g mi2 fm2 ∧ r = r2 := r2_deed h (fun i hi => bz_cases (hXI.2.2.2.2.2.2.2.2.2.2.2.2.2.2.2.2.2.2.2.2.2.2.2.2.2.2.2.2.2.2.2.2.2.2.2.2.2.2.2.2.2.2.2.2.2.2.2.2.2.2.2.2.2.2.1 i hi)) hx hm
theorem pr_early {vx : Nat → Int32} {fx : Nat → Nat → Int32} {gx : Nat → Nat → Int64} {mi : Nat → Int32} {fm : Nat → Nat → Int32} (hXI : XI vx fx) (hMI : MI mi fm) (h : REL vx fx gx mi fm) {r r2 : Int32} {v : Nat → Int32} {f : Nat → Nat → Int32} {g : Nat → Nat → Int64} {mi2 : Nat → Int32} {fm2 : Nat → Nat → Int32} {p1 : Int32} (hx : (r, v, f, g) = xs_early vx fx gx p1) (hm : (r2, mi2, fm2) = ms_early mi fm p1) : REL v f g mi2 fm2 ∧ r = r2 := r2_early h (fun i hi => bz_cases (hXI.2.2.2.2.2.2.2.2.2.2.2.2.2.2.2.2.2.2.2.2.2.2.2.2.2.2.2.2.2.2.2.2.2.2.2.2.2.2.2.2.2.2.2.2.2.2.2.2.2.2.2.2.2.2.1 i hi)) hx hm
theorem pr_blind {vx : Nat → Int32} {fx : Nat → Nat → Int32} {gx : Nat → Nat → Int64} {mi : Nat → Int32} {fm : Nat → Nat → Int32} (hXI : XI vx fx) (hMI : MI mi fm) (h : REL vx fx gx mi fm) {r r2 : Int32} {v : Nat → Int32} {f : Nat → Nat → Int32} {g : Nat → Nat → Int64} {mi2 : Nat → Int32} {fm2 : Nat → Nat → Int32} {p1 p2 : Int32} (hx : (r, v, f, g) = xs_blind vx fx gx p1 p2) (hm : (r2, mi2, fm2) = ms_blind mi fm p1 p2) : REL v f g mi2 fm2 ∧ r = r2 := r2_blind h (fun i hi => bz_cases (hXI.2.2.2.2.2.2.2.2.2.2.2.2.2.2.2.2.2.2.2.2.2.2.2.2.2.2.2.2.2.2.2.2.2.2.2.2.2.2.2.2.2.2.2.2.2.2.2.2.2.2.2.2.2.2.1 i hi)) hx hm
theorem pr_reports {vx : Nat → Int32} {fx : Nat → Nat → Int32} {gx : Nat → Nat → Int64} {mi : Nat → Int32} {fm : Nat → Nat → Int32} (hXI : XI vx fx) (hMI : MI mi fm) (h : REL vx fx gx mi fm) {r r2 : Int32} {v : Nat → Int32} {f : Nat → Nat → Int32} {g : Nat → Nat → Int64} {mi2 : Nat → Int32} {fm2 : Nat → Nat → Int32} {p1 p2 p3 p4 p5 : Int32} (hx : (r, v, f, g) = xs_reports vx fx gx p1 p2 p3 p4 p5) (hm : (r2, mi2, fm2) = ms_reports mi fm p1 p2 p3 p4 p5) : REL v f g mi2 fm2 ∧ r = r2 := r2_reports h hx hm
theorem pr_strikes {vx : Nat → Int32} {fx : Nat → Nat → Int32} {gx : Nat → Nat → Int64} {mi : Nat → Int32} {fm : Nat → Nat → Int32} (hXI : XI vx fx) (hMI : MI mi fm) (h : REL vx fx gx mi fm) {r r2 : Int32} {v : Nat → Int32} {f : Nat → Nat → Int32} {g : Nat → Nat → Int64} {mi2 : Nat → Int32} {fm2 : Nat → Nat → Int32} {p1 : Int32} (hx : (r, v, f, g) = xs_strikes vx fx gx p1) (hm : (r2, mi2, fm2) = ms_strikes mi fm p1) : REL v f g mi2 fm2 ∧ r = r2 := r2_strikes h hx hm
theorem pr_trusts {vx : Nat → Int32} {fx : Nat → Nat → Int32} {gx : Nat → Nat → Int64} {mi : Nat → Int32} {fm : Nat → Nat → Int32} (hXI : XI vx fx) (hMI : MI mi fm) (h : REL vx fx gx mi fm) {r r2 : Int32} {v : Nat → Int32} {f : Nat → Nat → Int32} {g : Nat → Nat → Int64} {mi2 : Nat → Int32} {fm2 : Nat → Nat → Int32} {p1 p2 : Int32} (hx : (r, v, f, g) = xs_trusts vx fx gx p1 p2) (hm : (r2, mi2, fm2) = ms_trusts mi fm p1 p2) : REL v f g mi2 fm2 ∧ r = r2 := r2_trusts h hx hm
theorem pr_moon {vx : Nat → Int32} {fx : Nat → Nat → Int32} {gx : Nat → Nat → Int64} {mi : Nat → Int32} {fm : Nat → Nat → Int32} (hXI : XI vx fx) (hMI : MI mi fm) (h : REL vx fx gx mi fm) {r r2 : Int32} {v : Nat → Int32} {f : Nat → Nat → Int32} {g : Nat → Nat → Int64} {mi2 : Nat → Int32} {fm2 : Nat → Nat → Int32} {p1 p2 : Int32} (hx : (r, v, f, g) = xs_moon vx fx gx p1 p2) (hm : (r2, mi2, fm2) = ms_moon mi fm p1 p2) : REL v f g mi2 fm2 ∧ r = r2 := r2_moon h hx hm
