theorem dX12_order_0 : decode cX12_order 0 = .ok (.aload_n 0, 1) := by decide +kernel
theorem dX12_order_1 : decode cX12_order 1 = .ok (.iload_n 1, 1) := by decide +kernel
theorem dX12_order_2 : decode cX12_order 2 = .ok (.invokevirtual 359, 3) := by decide +kernel
theorem dX12_order_5 : decode cX12_order 5 = .ok (.ifCond .eq 7, 3) := by decide +kernel
theorem dX12_order_8 : decode cX12_order 8 = .ok (.iload_n 2, 1) := by decide +kernel
theorem dX12_order_9 : decode cX12_order 9 = .ok (.ifCond .ge 6, 3) := by decide +kernel
theorem dX12_order_12 : decode cX12_order 12 = .ok (.bipush (-2), 2) := by decide +kernel
theorem dX12_order_14 : decode cX12_order 14 = .ok (.ireturn, 1) := by decide +kernel
theorem dX12_order_15 : decode cX12_order 15 = .ok (.aload_n 0, 1) := by decide +kernel
theorem dX12_order_16 : decode cX12_order 16 = .ok (.iload_n 1, 1) := by decide +kernel
theorem dX12_order_17 : decode cX12_order 17 = .ok (.invokevirtual 353, 3) := by decide +kernel
theorem dX12_order_20 : decode cX12_order 20 = .ok (.iload_n 2, 1) := by decide +kernel
theorem dX12_order_21 : decode cX12_order 21 = .ok (.aload_n 0, 1) := by decide +kernel
theorem dX12_order_22 : decode cX12_order 22 = .ok (.getfield 338, 3) := by decide +kernel
theorem dX12_order_25 : decode cX12_order 25 = .ok (.if_icmp .ge 12, 3) := by decide +kernel
theorem dX12_order_28 : decode cX12_order 28 = .ok (.aload_n 0, 1) := by decide +kernel
theorem dX12_order_29 : decode cX12_order 29 = .ok (.getfield 72, 3) := by decide +kernel
theorem dX12_order_32 : decode cX12_order 32 = .ok (.iload_n 2, 1) := by decide +kernel
theorem dX12_order_33 : decode cX12_order 33 = .ok (.iaload, 1) := by decide +kernel
theorem dX12_order_34 : decode cX12_order 34 = .ok (.goto 4, 3) := by decide +kernel
theorem dX12_order_37 : decode cX12_order 37 = .ok (.iconst (-1), 1) := by decide +kernel
theorem dX12_order_38 : decode cX12_order 38 = .ok (.ireturn, 1) := by decide +kernel
abbrev pb_sX12_order (dC : Nat → ClassId) (dI : Nat → Nat → Nat) (A9 : Nat → Prop) (h0 : Nat) (mi : Nat → Int32) (mr : Nat → Nat) (km : Nat → ClassId) (fm_must : Nat → Int32) (fm_least : Nat → Int32) (fm_pin : Nat → Int32) (fm_ways : Nat → Int32) (fm_verdict : Nat → Int32) (fm_row : Nat → Int32) (fm_struck : Nat → Int32) (fm_reportKnown : Nat → Int32) (fm_reportPlace : Nat → Int32) (fm_reportMonth : Nat → Int32) (fm_reportDay : Nat → Int32) (fm_reportKind : Nat → Int32) (fm_trust : Nat → Int32) (fm_letter : Nat → Int32) (fm_deedMonth : Nat → Int32) (fm_deedDay : Nat → Int32) (fm_deedLong : Nat → Int32) (fm_deedKind : Nat → Int32) (fm_kept : Nat → Int32) (fm_tape : Nat → Int32) (fm_official : Nat → Int32) (fm_aside : Nat → Int32) (fm_worth : Nat → Int32) (fm_out : Nat → Int32) (p1 : Int32) (p2 : Int32) (w0_41 : Int32) (z5 : Nat → Int32) (z6 : Nat → Int32) (t : State) : Prop := gi w0_41 0 24 ∧ ga z6 24 0 23 ∧ va_P (dC, dI) vwCl (MWn h0 mr km (mi 0) (mi 1) (mi 2) (mi 3) (mi 4) (mi 5) (mi 6) (mi 7) (mi 10) (mi 17) (mi 23) (mi 24) (mi 26) (mi 27) (mi 28) (mi 29) (mi 30) (mi 31) (mi 32) (mi 33) (mi 37) w0_41 (mi 42) (mi 43) (mi 44) (mi 45) (mi 47) (mi 48) (mi 49) (mi 50) (mi 51) (mi 54) (mi 56) fm_trust fm_letter fm_reportPlace fm_reportKind fm_struck fm_reportMonth fm_reportDay fm_reportKnown fm_deedMonth fm_deedDay fm_deedLong fm_deedKind fm_kept fm_tape fm_must fm_least fm_pin fm_ways z5 z6 fm_official fm_aside fm_worth fm_out) t.heap ∧ va_D A9 (MWn h0 mr km (mi 0) (mi 1) (mi 2) (mi 3) (mi 4) (mi 5) (mi 6) (mi 7) (mi 10) (mi 17) (mi 23) (mi 24) (mi 26) (mi 27) (mi 28) (mi 29) (mi 30) (mi 31) (mi 32) (mi 33) (mi 37) w0_41 (mi 42) (mi 43) (mi 44) (mi 45) (mi 47) (mi 48) (mi 49) (mi 50) (mi 51) (mi 54) (mi 56) fm_trust fm_letter fm_reportPlace fm_reportKind fm_struck fm_reportMonth fm_reportDay fm_reportKnown fm_deedMonth fm_deedDay fm_deedLong fm_deedKind fm_kept fm_tape fm_must fm_least fm_pin fm_ways z5 z6 fm_official fm_aside fm_worth fm_out)
set_option maxHeartbeats 4000000 in
set_option maxRecDepth 100000 in
theorem sX12_order (l : Launch) (dC : Nat → ClassId) (dI : Nat → Nat → Nat) (sz : Nat) (h0 : Nat) (mi : Nat → Int32) (mr : Nat → Nat) (km : Nat → ClassId) (fm_must : Nat → Int32) (fm_least : Nat → Int32) (fm_pin : Nat → Int32) (fm_ways : Nat → Int32) (fm_verdict : Nat → Int32) (fm_row : Nat → Int32) (fm_struck : Nat → Int32) (fm_reportKnown : Nat → Int32) (fm_reportPlace : Nat → Int32) (fm_reportMonth : Nat → Int32) (fm_reportDay : Nat → Int32) (fm_reportKind : Nat → Int32) (fm_trust : Nat → Int32) (fm_letter : Nat → Int32) (fm_deedMonth : Nat → Int32) (fm_deedDay : Nat → Int32) (fm_deedLong : Nat → Int32) (fm_deedKind : Nat → Int32) (fm_kept : Nat → Int32) (fm_tape : Nat → Int32) (fm_official : Nat → Int32) (fm_aside : Nat → Int32) (fm_worth : Nat → Int32) (fm_out : Nat → Int32) (p1 : Int32) (p2 : Int32) (gmi_0 : gi (mi 0) 0 24) (gmi_1 : gi (mi 1) 0 5) (gmi_2 : gi (mi 2) 0 5) (gmi_4 : gi (mi 4) 0 1) (gmi_7 : gi (mi 7) 0 6) (gmi_10 : gi (mi 10) 0 24) (gmi_17 : gi (mi 17) 0 8) (gmi_23 : gi (mi 23) 0 300) (gmi_24 : gi (mi 24) 0 1) (gmi_26 : gi (mi 26) 0 1600) (gmi_29 : gi (mi 29) 0 1600) (gmi_30 : gi (mi 30) 0 1600) (gmi_33 : gi (mi 33) 0 1) (gmi_37 : gi (mi 37) 0 1) (gmi_41 : gi (mi 41) 0 24) (gmi_50 : gi (mi 50) 0 1) (gmi_51 : gi (mi 51) 0 1) (gmi_56 : gi (mi 56) 0 80) (gfm_row : ga fm_row 24 0 23) (gfm_struck : ga fm_struck 24 0 1) (gfm_reportKnown : ga fm_reportKnown 24 0 999) (gfm_reportPlace : ga fm_reportPlace 24 0 5) (gfm_reportMonth : ga fm_reportMonth 24 0 23) (gfm_reportDay : ga fm_reportDay 24 0 999) : Met l yX12_order (.code yX12_order cX12_order 3 (some .int) :: wsGB) ({ frames := 3, cells := 0, slots := 0, locals := 72 }) (va_Pc [.ref h0, .int p1, .int p2] (fun U => U.heap.size = sz ∧ va_P (dC, dI) vwCl (MWn h0 mr km (mi 0) (mi 1) (mi 2) (mi 3) (mi 4) (mi 5) (mi 6) (mi 7) (mi 10) (mi 17) (mi 23) (mi 24) (mi 26) (mi 27) (mi 28) (mi 29) (mi 30) (mi 31) (mi 32) (mi 33) (mi 37) (mi 41) (mi 42) (mi 43) (mi 44) (mi 45) (mi 47) (mi 48) (mi 49) (mi 50) (mi 51) (mi 54) (mi 56) fm_trust fm_letter fm_reportPlace fm_reportKind fm_struck fm_reportMonth fm_reportDay fm_reportKnown fm_deedMonth fm_deedDay fm_deedLong fm_deedKind fm_kept fm_tape fm_must fm_least fm_pin fm_ways fm_verdict fm_row fm_official fm_aside fm_worth fm_out) U.heap ∧ va_K (dC, dI) vwCl (MT km) U ∧ va_D (fun _ => True) (MWn h0 mr km (mi 0) (mi 1) (mi 2) (mi 3) (mi 4) (mi 5) (mi 6) (mi 7) (mi 10) (mi 17) (mi 23) (mi 24) (mi 26) (mi 27) (mi 28) (mi 29) (mi 30) (mi 31) (mi 32) (mi 33) (mi 37) (mi 41) (mi 42) (mi 43) (mi 44) (mi 45) (mi 47) (mi 48) (mi 49) (mi 50) (mi 51) (mi 54) (mi 56) fm_trust fm_letter fm_reportPlace fm_reportKind fm_struck fm_reportMonth fm_reportDay fm_reportKnown fm_deedMonth fm_deedDay fm_deedLong fm_deedKind fm_kept fm_tape fm_must fm_least fm_pin fm_ways fm_verdict fm_row fm_official fm_aside fm_worth fm_out))) (va_Qi (fun (r : Int32) (u : Unit) => gi r (-2) 23) (fun _ t => ∃ (w0_41 : Int32) (z5 : Nat → Int32) (z6 : Nat → Int32), pb_sX12_order dC dI (va_A (MWn h0 mr km (mi 0) (mi 1) (mi 2) (mi 3) (mi 4) (mi 5) (mi 6) (mi 7) (mi 10) (mi 17) (mi 23) (mi 24) (mi 26) (mi 27) (mi 28) (mi 29) (mi 30) (mi 31) (mi 32) (mi 33) (mi 37) (mi 41) (mi 42) (mi 43) (mi 44) (mi 45) (mi 47) (mi 48) (mi 49) (mi 50) (mi 51) (mi 54) (mi 56) fm_trust fm_letter fm_reportPlace fm_reportKind fm_struck fm_reportMonth fm_reportDay fm_reportKnown fm_deedMonth fm_deedDay fm_deedLong fm_deedKind fm_kept fm_tape fm_must fm_least fm_pin fm_ways fm_verdict fm_row fm_official fm_aside fm_worth fm_out) sz) h0 mi mr km fm_must fm_least fm_pin fm_ways fm_verdict fm_row fm_struck fm_reportKnown fm_reportPlace fm_reportMonth fm_reportDay fm_reportKind fm_trust fm_letter fm_deedMonth fm_deedDay fm_deedLong fm_deedKind fm_kept fm_tape fm_official fm_aside fm_worth fm_out p1 p2 w0_41 z5 z6 t) (va_A (MWn h0 mr km (mi 0) (mi 1) (mi 2) (mi 3) (mi 4) (mi 5) (mi 6) (mi 7) (mi 10) (mi 17) (mi 23) (mi 24) (mi 26) (mi 27) (mi 28) (mi 29) (mi 30) (mi 31) (mi 32) (mi 33) (mi 37) (mi 41) (mi 42) (mi 43) (mi 44) (mi 45) (mi 47) (mi 48) (mi 49) (mi 50) (mi 51) (mi 54) (mi 56) fm_trust fm_letter fm_reportPlace fm_reportKind fm_struck fm_reportMonth fm_reportDay fm_reportKnown fm_deedMonth fm_deedDay fm_deedLong fm_deedKind fm_kept fm_tape fm_must fm_least fm_pin fm_ways fm_verdict fm_row fm_official fm_aside fm_worth fm_out) sz)) 0 0 (va_A (MWn h0 mr km (mi 0) (mi 1) (mi 2) (mi 3) (mi 4) (mi 5) (mi 6) (mi 7) (mi 10) (mi 17) (mi 23) (mi 24) (mi 26) (mi 27) (mi 28) (mi 29) (mi 30) (mi 31) (mi 32) (mi 33) (mi 37) (mi 41) (mi 42) (mi 43) (mi 44) (mi 45) (mi 47) (mi 48) (mi 49) (mi 50) (mi 51) (mi 54) (mi 56) fm_trust fm_letter fm_reportPlace fm_reportKind fm_struck fm_reportMonth fm_reportDay fm_reportKnown fm_deedMonth fm_deedDay fm_deedLong fm_deedKind fm_kept fm_tape fm_must fm_least fm_pin fm_ways fm_verdict fm_row fm_official fm_aside fm_worth fm_out) sz) := by
  refine Met.ofW (cc := cX12_order) (maxL := 3) (ret := (some .int)) (by decide) rfl ?_
  intro p e s m args below meth c s₁ B hml hv
  obtain ⟨rfl, hsz, hP, hK, hD0⟩ := hv
  have hx := B.exec
  have hb := B.bytes
  have hr := B.returns
  have hts := atoms_spec (ws := (.code yX12_order cX12_order 3 (some .int) :: wsGB)) B.pre
  have hown : s.vm.findClass RX12 = some m.cls := findClass_of_methodNamed B.named
  have hlocks := B.notSynchronized
  subst hsz
  have hD := hD0.self (sz := s.heap.size)
  generalize hAe : va_A (MWn h0 mr km (mi 0) (mi 1) (mi 2) (mi 3) (mi 4) (mi 5) (mi 6) (mi 7) (mi 10) (mi 17) (mi 23) (mi 24) (mi 26) (mi 27) (mi 28) (mi 29) (mi 30) (mi 31) (mi 32) (mi 33) (mi 37) (mi 41) (mi 42) (mi 43) (mi 44) (mi 45) (mi 47) (mi 48) (mi 49) (mi 50) (mi 51) (mi 54) (mi 56) fm_trust fm_letter fm_reportPlace fm_reportKind fm_struck fm_reportMonth fm_reportDay fm_reportKnown fm_deedMonth fm_deedDay fm_deedLong fm_deedKind fm_kept fm_tape fm_must fm_least fm_pin fm_ways fm_verdict fm_row fm_official fm_aside fm_worth fm_out) s.heap.size = A at hD ⊢
  have hA : ∀ q : Nat, s.heap.size ≤ q → A q := fun q h => by rw [← hAe]; exact Or.inr h
  have hS : va_S A s.heap s.heap [] := va_S.rf
  have hl := lv_entry ([.ref h0, .int p1, .int p2]) (n := 3) (Nat.le_of_ble_eq_true rfl)
  rw [lg_entry_eq]
  generalize (lg_sl ([.ref h0, .int p1, .int p2]) ++ List.replicate (3 - (lg_sl ([.ref h0, .int p1, .int p2])).length) Slot.unset).toArray = ls at hl ⊢
  have hl : lv_has ls 3 [(0, .ref h0), (1, .int p1), (2, .int p2)] := hl
  refine lv_aload_n hx hb dX12_order_0 rfl (lv_at hl 0 rfl) ?_
  refine lv_iload_n hx hb dX12_order_1 rfl (lv_at hl 1 rfl) ?_
  refine va_calli (va_runV (As := [.int p1]) (rest := []) ⟨hx, hb, hml, hown, hts⟩ (sX12_isTime l dC dI h0 mi mr km fm_trust fm_letter fm_reportPlace fm_reportKind fm_struck fm_reportMonth fm_reportDay fm_reportKnown fm_deedMonth fm_deedDay fm_deedLong fm_deedKind fm_kept fm_tape fm_must fm_least fm_pin fm_ways fm_verdict fm_row fm_official fm_aside fm_worth fm_out p1 gmi_0 gmi_1 gmi_2 gmi_4 gmi_7 gmi_10 gmi_17 gmi_23 gmi_24 gmi_26 gmi_29 gmi_30 gmi_33 gmi_37 gmi_41 gmi_50 gmi_51 gmi_56) (cwV 1 hts (gz_gV mGB_256 mGB_257 mGB_258 mGB_1 mGB_259 goodGB) rfl rfl rfl (by decide +kernel) ⟨Nat.le_of_ble_eq_true rfl, Nat.le_of_ble_eq_true rfl⟩) ⟨bl_R, mw_recv hK hP, fun U hU hW => ⟨rfl, by rw [hU]; exact hP, va_K.moved hW.alike hK⟩⟩ rfl rfl hl.1 rfl (lv_room (Nat.le_of_ble_eq_true rfl)) dX12_order_2 ⟨Nat.zero_le _, Nat.zero_le _⟩) hS (fun q _ h => h.elim) (fun q h => h.elim) (fun r_33 u t H1 locs ht hvm hw hB hz1 hk1 hS => ?_)
  obtain ⟨hw, hE⟩ := hw
  have hP := gz_keep hP hk1
  generalize H1 = H at hP hS ⊢
  have gr_33 : gi r_33 0 1 := hw.1
  have hqr_33 := hw.2
  refine lv_if_eq (tgt := 12) hx hb dX12_order_5 (by decide) (fun c_34 => ?_) (fun c_34 => ?_)
  · have g_35 : gi r_33 0 0 := gi_eq c_34 (gi_c 0 0 (by decide))
    refine lv_bipush (v := (-2)) hx hb dX12_order_12 (by decide) ?_
    exact W.iret (v := (-2)) hx hb hr (fun t ht hW => ⟨⟨(-2), (), rfl, (gi_w (gi_c (-2) (-2) (by decide)) (by decide)), (mi 41), fm_verdict, fm_row, gmi_41, gfm_row, by rw [ht]; exact hP, hD⟩, hS.F ht⟩) hS.2.2 dX12_order_14
  · have g_36 : gi r_33 1 1 := gi_ne_lo c_34 gr_33 (gi_c 0 0 (by decide)) (by decide)
    have g_37 : gi p1 0 999 := gi_cap (gi_any p1) (hqr_33 (gz_one g_36)) (by decide)
    refine lv_iload_n hx hb dX12_order_8 rfl (lv_at hl 2 rfl) ?_
    refine lv_if_ge (tgt := 15) hx hb dX12_order_9 (by decide) (fun c_38 => ?_) (fun c_38 => ?_)
    · have g_39 : gi p2 0 2147483647 := gi_le_r c_38 (gi_c 0 0 (by decide)) (gi_any p2)
      refine lv_aload_n hx hb dX12_order_15 rfl (lv_at hl 0 rfl) ?_
      refine lv_iload_n hx hb dX12_order_16 rfl (lv_at hl 1 rfl) ?_
      have hFc := gz_fullF hD hS hA
      refine va_callv (va_runV (As := [.int p1]) (rest := []) ⟨hx, hb, hml, hown, hts⟩ (sX12_laysRow l dC dI H.size h0 mi mr km fm_verdict fm_row fm_struck fm_reportKnown fm_reportPlace fm_reportMonth fm_reportDay fm_reportKind fm_trust fm_letter fm_deedMonth fm_deedDay fm_deedLong fm_deedKind fm_kept fm_tape fm_must fm_least fm_pin fm_ways fm_official fm_aside fm_worth fm_out p1 gmi_0 gmi_1 gmi_2 gmi_4 gmi_7 gmi_10 gmi_17 gmi_23 gmi_24 gmi_26 gmi_29 gmi_30 gmi_33 gmi_37 gmi_41 gmi_50 gmi_51 gmi_56 gfm_row gfm_struck gfm_reportKnown gfm_reportPlace gfm_reportMonth gfm_reportDay) (cwV 1 hts (gz_gV mGB_275 mGB_276 mGB_277 mGB_1 mGB_278 goodGB) rfl rfl rfl (by decide +kernel) ⟨Nat.le_of_ble_eq_true rfl, Nat.le_of_ble_eq_true rfl⟩) ⟨bl_W, mw_recv hK hP, fun U hU hW => ⟨rfl, by rw [hU], by rw [hU]; exact hP, va_K.moved hW.alike hK, hD.weaken (fun _ _ _ _ => trivial)⟩⟩ rfl rfl hl.1 rfl (lv_room (Nat.le_of_ble_eq_true rfl)) dX12_order_17 ⟨Nat.zero_le _, Nat.zero_le _⟩) hS (fun q _ h => hFc q h) hFc (fun u t H1 locs ht hvm hw hB hz1 hk1 hS => ?_)
      obtain ⟨y_41, f_42, f_43, hB⟩ := hB
      obtain ⟨gy_41, gf_43, hP1, hD1⟩ := hB
      rw [ht] at hP1
      have hD : va_D A (MWn h0 mr km (mi 0) (mi 1) (mi 2) (mi 3) (mi 4) (mi 5) (mi 6) (mi 7) (mi 10) (mi 17) (mi 23) (mi 24) (mi 26) (mi 27) (mi 28) (mi 29) (mi 30) (mi 31) (mi 32) (mi 33) (mi 37) y_41 (mi 42) (mi 43) (mi 44) (mi 45) (mi 47) (mi 48) (mi 49) (mi 50) (mi 51) (mi 54) (mi 56) fm_trust fm_letter fm_reportPlace fm_reportKind fm_struck fm_reportMonth fm_reportDay fm_reportKnown fm_deedMonth fm_deedDay fm_deedLong fm_deedKind fm_kept fm_tape fm_must fm_least fm_pin fm_ways f_42 f_43 fm_official fm_aside fm_worth fm_out) := gz_fullD hFc hD1
      have hP : va_P (dC, dI) vwCl (MWn h0 mr km (mi 0) (mi 1) (mi 2) (mi 3) (mi 4) (mi 5) (mi 6) (mi 7) (mi 10) (mi 17) (mi 23) (mi 24) (mi 26) (mi 27) (mi 28) (mi 29) (mi 30) (mi 31) (mi 32) (mi 33) (mi 37) y_41 (mi 42) (mi 43) (mi 44) (mi 45) (mi 47) (mi 48) (mi 49) (mi 50) (mi 51) (mi 54) (mi 56) fm_trust fm_letter fm_reportPlace fm_reportKind fm_struck fm_reportMonth fm_reportDay fm_reportKnown fm_deedMonth fm_deedDay fm_deedLong fm_deedKind fm_kept fm_tape fm_must fm_least fm_pin fm_ways f_42 f_43 fm_official fm_aside fm_worth fm_out) H1 := hP1
      generalize H1 = H at hP hS ⊢
      refine lv_iload_n hx hb dX12_order_20 rfl (lv_at hl 2 rfl) ?_
      refine lv_aload_n hx hb dX12_order_21 rfl (lv_at hl 0 rfl) ?_
      refine va_get (D := (dC, dI)) (ci := 12) (v := .int y_41) (C := RX12) (T := TX12) (N := 57) hx hb hts (fun w h => List.mem_cons_of_mem _ (jnGB_X12 w h)) hown hK hP 0 rfl rfl 41 (by decide) (hts _ (List.mem_cons_of_mem _ mGB_265)) (fun _ h9 => h9) rfl dX12_order_22 ?_
      refine lv_icmp_ge (tgt := 37) hx hb dX12_order_25 (by decide) (fun c_44 => ?_) (fun c_44 => ?_)
      · refine lv_iconst (v := (-1)) hx hb dX12_order_37 (by decide) ?_
        exact W.iret (v := (-1)) hx hb hr (fun t ht hW => ⟨⟨(-1), (), rfl, (gi_w (gi_c (-1) (-1) (by decide)) (by decide)), y_41, f_42, f_43, gy_41, gf_43, by rw [ht]; exact hP, hD⟩, hS.F ht⟩) hS.2.2 dX12_order_38
      · have g_45 : gi p2 0 23 := gi_lt_l (Int32.not_le.mp c_44) g_39 gy_41 (by decide)
        have g_46 : gi y_41 1 24 := gi_lt_r (Int32.not_le.mp c_44) g_39 gy_41 (by decide)
        refine lv_aload_n hx hb dX12_order_28 rfl (lv_at hl 0 rfl) ?_
        refine va_get (D := (dC, dI)) (ci := 12) (v := .ref (mr 19)) (C := RX12) (T := TX12) (N := 57) hx hb hts (fun w h => List.mem_cons_of_mem _ (jnGB_X12 w h)) hown hK hP 0 rfl rfl 40 (by decide) (hts _ (List.mem_cons_of_mem _ mGB_31)) (fun _ h9 => h9) rfl dX12_order_29 ?_
        refine lv_iload_n hx hb dX12_order_32 rfl (lv_at hl 2 rfl) ?_
        refine va_iald hx hb hK hP 20 19 rfl rfl (gi_in g_45 (by decide)) dX12_order_33 ?_
        refine lv_topi (fun x_47 ex_47 => ?_)
        have gx_47 : gi x_47 0 23 := ga_at gf_43 (gi_in g_45 (by decide)) ex_47
        refine lv_goto (tgt := 38) hx hb dX12_order_34 (by decide) ?_
        exact W.iret (v := x_47) hx hb hr (fun t ht hW => ⟨⟨x_47, (), rfl, (gi_w gx_47 (by decide)), y_41, f_42, f_43, (gi_w g_46 (by decide)), gf_43, by rw [ht]; exact hP, hD⟩, hS.F ht⟩) hS.2.2 dX12_order_38
    · have g_48 : gi p2 (-2147483648) (-1) := gi_lt_l (Int32.not_le.mp c_38) (gi_any p2) (gi_c 0 0 (by decide)) (by decide)
      refine lv_bipush (v := (-2)) hx hb dX12_order_12 (by decide) ?_
      exact W.iret (v := (-2)) hx hb hr (fun t ht hW => ⟨⟨(-2), (), rfl, (gi_w (gi_c (-2) (-2) (by decide)) (by decide)), (mi 41), fm_verdict, fm_row, gmi_41, gfm_row, by rw [ht]; exact hP, hD⟩, hS.F ht⟩) hS.2.2 dX12_order_14
theorem dX12_takenBits_0 : decode cX12_takenBits 0 = .ok (.iconst 0, 1) := by decide +kernel
theorem dX12_takenBits_1 : decode cX12_takenBits 1 = .ok (.istore_n 1, 1) := by decide +kernel
theorem dX12_takenBits_2 : decode cX12_takenBits 2 = .ok (.iconst 0, 1) := by decide +kernel
theorem dX12_takenBits_3 : decode cX12_takenBits 3 = .ok (.istore_n 2, 1) := by decide +kernel
theorem dX12_takenBits_4 : decode cX12_takenBits 4 = .ok (.iload_n 2, 1) := by decide +kernel
theorem dX12_takenBits_5 : decode cX12_takenBits 5 = .ok (.aload_n 0, 1) := by decide +kernel
theorem dX12_takenBits_6 : decode cX12_takenBits 6 = .ok (.getfield 141, 3) := by decide +kernel
theorem dX12_takenBits_9 : decode cX12_takenBits 9 = .ok (.if_icmp .ge 28, 3) := by decide +kernel
theorem dX12_takenBits_12 : decode cX12_takenBits 12 = .ok (.iload_n 1, 1) := by decide +kernel
theorem dX12_takenBits_13 : decode cX12_takenBits 13 = .ok (.aload_n 0, 1) := by decide +kernel
theorem dX12_takenBits_14 : decode cX12_takenBits 14 = .ok (.getfield 69, 3) := by decide +kernel
theorem dX12_takenBits_17 : decode cX12_takenBits 17 = .ok (.iload_n 2, 1) := by decide +kernel
theorem dX12_takenBits_18 : decode cX12_takenBits 18 = .ok (.iaload, 1) := by decide +kernel
theorem dX12_takenBits_19 : decode cX12_takenBits 19 = .ok (.ifCond .ne 9, 3) := by decide +kernel
theorem dX12_takenBits_22 : decode cX12_takenBits 22 = .ok (.iconst 1, 1) := by decide +kernel
theorem dX12_takenBits_23 : decode cX12_takenBits 23 = .ok (.iload_n 2, 1) := by decide +kernel
theorem dX12_takenBits_24 : decode cX12_takenBits 24 = .ok (.ishl, 1) := by decide +kernel
theorem dX12_takenBits_25 : decode cX12_takenBits 25 = .ok (.goto 4, 3) := by decide +kernel
theorem dX12_takenBits_28 : decode cX12_takenBits 28 = .ok (.iconst 0, 1) := by decide +kernel
theorem dX12_takenBits_29 : decode cX12_takenBits 29 = .ok (.ior, 1) := by decide +kernel
theorem dX12_takenBits_30 : decode cX12_takenBits 30 = .ok (.istore_n 1, 1) := by decide +kernel
theorem dX12_takenBits_31 : decode cX12_takenBits 31 = .ok (.iinc 2 1, 3) := by decide +kernel
theorem dX12_takenBits_34 : decode cX12_takenBits 34 = .ok (.goto (-30), 3) := by decide +kernel
theorem dX12_takenBits_37 : decode cX12_takenBits 37 = .ok (.iload_n 1, 1) := by decide +kernel
theorem dX12_takenBits_38 : decode cX12_takenBits 38 = .ok (.ireturn, 1) := by decide +kernel
set_option maxHeartbeats 4000000 in
set_option maxRecDepth 100000 in
theorem lp_sX12_takenBits {p : Program} {l : Launch} {e : Env} {R : Room} {s : State} {m : MethodId} {args : Array Value} {below : List Frame} {meth : Method} {c : Code} {Q : State → Prop} {A : Nat → Prop} {cells slots : Nat} {dC : Nat → ClassId} {dI : Nat → Nat → Nat} (h0 : Nat) (mi : Nat → Int32) (mr : Nat → Nat) (km : Nat → ClassId) (fm_verdict : Nat → Int32) (fm_trust : Nat → Int32) (fm_letter : Nat → Int32) (fm_reportPlace : Nat → Int32) (fm_reportKind : Nat → Int32) (fm_struck : Nat → Int32) (fm_reportMonth : Nat → Int32) (fm_reportDay : Nat → Int32) (fm_reportKnown : Nat → Int32) (fm_deedMonth : Nat → Int32) (fm_deedDay : Nat → Int32) (fm_deedLong : Nat → Int32) (fm_deedKind : Nat → Int32) (fm_kept : Nat → Int32) (fm_tape : Nat → Int32) (fm_must : Nat → Int32) (fm_least : Nat → Int32) (fm_pin : Nat → Int32) (fm_ways : Nat → Int32) (fm_row : Nat → Int32) (fm_official : Nat → Int32) (fm_aside : Nat → Int32) (fm_worth : Nat → Int32) (fm_out : Nat → Int32) (gmi_0 : gi (mi 0) 0 24) (gmi_1 : gi (mi 1) 0 5) (gmi_2 : gi (mi 2) 0 5) (gmi_4 : gi (mi 4) 0 1) (gmi_7 : gi (mi 7) 0 6) (gmi_10 : gi (mi 10) 0 24) (gmi_17 : gi (mi 17) 0 8) (gmi_23 : gi (mi 23) 0 300) (gmi_24 : gi (mi 24) 0 1) (gmi_26 : gi (mi 26) 0 1600) (gmi_29 : gi (mi 29) 0 1600) (gmi_30 : gi (mi 30) 0 1600) (gmi_33 : gi (mi 33) 0 1) (gmi_37 : gi (mi 37) 0 1) (gmi_41 : gi (mi 41) 0 24) (gmi_50 : gi (mi 50) 0 1) (gmi_51 : gi (mi 51) 0 1) (gmi_56 : gi (mi 56) 0 80) (hx : p.tables.exec = Jvm.exec) (hb : c.code = cX12_takenBits) (hml : c.maxLocals = 3) (hown : s.vm.findClass RX12 = some m.cls) (hts : ∀ w ∈ ((.code yX12_takenBits cX12_takenBits 3 (some .int) :: wsGB) : List Cond), w.before args s = true) (hK : va_K (dC, dI) vwCl (MT km) s) (hRf : 0 ≤ R.frames) (hRl : 0 ≤ R.locals) (hRc : cells ≤ R.cells) (hRs : slots ≤ R.slots) (kr38 : ∀ (v : Int32) (H : Heap) (locs : List Loc) (ls : Array Slot), va_P (dC, dI) vwCl (MWn h0 mr km (mi 0) (mi 1) (mi 2) (mi 3) (mi 4) (mi 5) (mi 6) (mi 7) (mi 10) (mi 17) (mi 23) (mi 24) (mi 26) (mi 27) (mi 28) (mi 29) (mi 30) (mi 31) (mi 32) (mi 33) (mi 37) (mi 41) (mi 42) (mi 43) (mi 44) (mi 45) (mi 47) (mi 48) (mi 49) (mi 50) (mi 51) (mi 54) (mi 56) fm_trust fm_letter fm_reportPlace fm_reportKind fm_struck fm_reportMonth fm_reportDay fm_reportKnown fm_deedMonth fm_deedDay fm_deedLong fm_deedKind fm_kept fm_tape fm_must fm_least fm_pin fm_ways fm_verdict fm_row fm_official fm_aside fm_worth fm_out) H → va_S A s.heap H locs → lv_has ls 3 [] → W p l e R s m args below meth c H locs cells slots Q (F0 m 38 ls [.int v])) : ∀ z : Nat, (∀ (v1 : Int32) (v2 : Int32) (H : Heap) (locs : List Loc) (ls : Array Slot), gi v2 0 24 → 49 + (-2) * v2.toInt < (z : Int) → va_P (dC, dI) vwCl (MWn h0 mr km (mi 0) (mi 1) (mi 2) (mi 3) (mi 4) (mi 5) (mi 6) (mi 7) (mi 10) (mi 17) (mi 23) (mi 24) (mi 26) (mi 27) (mi 28) (mi 29) (mi 30) (mi 31) (mi 32) (mi 33) (mi 37) (mi 41) (mi 42) (mi 43) (mi 44) (mi 45) (mi 47) (mi 48) (mi 49) (mi 50) (mi 51) (mi 54) (mi 56) fm_trust fm_letter fm_reportPlace fm_reportKind fm_struck fm_reportMonth fm_reportDay fm_reportKnown fm_deedMonth fm_deedDay fm_deedLong fm_deedKind fm_kept fm_tape fm_must fm_least fm_pin fm_ways fm_verdict fm_row fm_official fm_aside fm_worth fm_out) H → va_S A s.heap H locs → lv_has ls 3 [(0, .ref h0), (1, .int v1), (2, .int v2)] → W p l e R s m args below meth c H locs cells slots Q (F0 m 4 ls [])) := by
  intro z
  induction z with
  | zero =>
    intro v1 v2 H locs ls gv2 hmu hP hS hl
    exact absurd hmu (by have hv21 := gv2.1; have hv22 := gv2.2; omega)
  | succ z ih =>
      intro v1 v2 H locs ls gv2 hmu hP hS hl
      refine lv_iload_n hx hb dX12_takenBits_4 rfl (lv_at hl 2 rfl) ?_
      refine lv_aload_n hx hb dX12_takenBits_5 rfl (lv_at hl 0 rfl) ?_
      refine va_get (D := (dC, dI)) (ci := 12) (v := .int (mi 10)) (C := RX12) (T := TX12) (N := 57) hx hb hts (fun w h => List.mem_cons_of_mem _ (jnGB_X12 w h)) hown hK hP 0 rfl rfl 10 (by decide) (hts _ (List.mem_cons_of_mem _ mGB_111)) (fun _ h9 => h9) rfl dX12_takenBits_6 ?_
      refine lv_icmp_ge (tgt := 37) hx hb dX12_takenBits_9 (by decide) (fun c_166 => ?_) (fun c_166 => ?_)
      · refine lv_iload_n hx hb dX12_takenBits_37 rfl (lv_at hl 1 rfl) ?_
        exact kr38 v1 _ _ _ hP hS (lv_sub hl [] rfl)
      · have g_167 : gi v2 0 23 := gi_lt_l (Int32.not_le.mp c_166) gv2 gmi_10 (by decide)
        have g_168 : gi (mi 10) 1 24 := gi_lt_r (Int32.not_le.mp c_166) gv2 gmi_10 (by decide)
        refine lv_iload_n hx hb dX12_takenBits_12 rfl (lv_at hl 1 rfl) ?_
        refine lv_aload_n hx hb dX12_takenBits_13 rfl (lv_at hl 0 rfl) ?_
        refine va_get (D := (dC, dI)) (ci := 12) (v := .ref (mr 18)) (C := RX12) (T := TX12) (N := 57) hx hb hts (fun w h => List.mem_cons_of_mem _ (jnGB_X12 w h)) hown hK hP 0 rfl rfl 39 (by decide) (hts _ (List.mem_cons_of_mem _ mGB_30)) (fun _ h9 => h9) rfl dX12_takenBits_14 ?_
        refine lv_iload_n hx hb dX12_takenBits_17 rfl (lv_at hl 2 rfl) ?_
        refine va_iald hx hb hK hP 19 18 rfl rfl (gi_in g_167 (by decide)) dX12_takenBits_18 ?_
        refine lv_topi (fun x_169 ex_169 => ?_)
        refine lv_if_ne (tgt := 28) hx hb dX12_takenBits_19 (by decide) (fun c_170 => ?_) (fun c_170 => ?_)
        · refine lv_iconst (v := 0) hx hb dX12_takenBits_28 (by decide) ?_
          refine lv_ior hx hb dX12_takenBits_29 ?_
          refine lv_topi (fun x_171 ex_171 => ?_)
          refine lv_istore_n (lv' := [(1, .int x_171), (0, .ref h0), (2, .int v2)]) hx hb dX12_takenBits_30 rfl hl (by decide) rfl (fun ls hl => ?_)
          obtain ⟨x_172, ex_172⟩ : ∃ y : Int32, y = v2 + 1 := ⟨_, rfl⟩
          have gx_172 : gi x_172 1 24 := gi_add ex_172 g_167 (gi_c 1 1 (by decide)) (by decide)
          refine lv_iinc (v := x_172) (lv' := [(2, .int x_172), (1, .int x_171), (0, .ref h0)]) hx hb dX12_takenBits_31 hl (k := 2) rfl (by rw [ex_172]; rfl) (by decide) rfl (fun ls hl => ?_)
          refine lv_goto (tgt := 4) hx hb dX12_takenBits_34 (by decide) ?_
          exact ih x_171 x_172 _ _ _ (gi_w gx_172 (by decide)) (by have av2 := gv2.1; have bv2 := gv2.2; have qgx_172 := gx_172.1; have rgx_172 := gx_172.2; have igx_172 : x_172.toInt = v2.toInt + 1 := (by have hc1 : (1 : Int32).toInt = 1 := (by decide); have h9 := gi_addI ex_172 (by have h1 := g_167.1; have h2 := (gi_c 1 1 (by decide)).1; have h3 := g_167.2; have h4 := (gi_c 1 1 (by decide)).2; omega) (by have h1 := g_167.1; have h2 := (gi_c 1 1 (by decide)).1; have h3 := g_167.2; have h4 := (gi_c 1 1 (by decide)).2; omega); rw [hc1] at h9; exact h9); have qgv2 := g_167.1; have rgv2 := g_167.2; omega) hP hS (lv_sub hl [2, 1, 0] rfl)
        · have g_173 : gi x_169 0 0 := gi_eq c_170 (gi_c 0 0 (by decide))
          refine lv_iconst (v := 1) hx hb dX12_takenBits_22 (by decide) ?_
          refine lv_iload_n hx hb dX12_takenBits_23 rfl (lv_at hl 2 rfl) ?_
          refine lv_ishl hx hb dX12_takenBits_24 ?_
          refine lv_topi (fun x_174 ex_174 => ?_)
          refine lv_goto (tgt := 29) hx hb dX12_takenBits_25 (by decide) ?_
          refine lv_ior hx hb dX12_takenBits_29 ?_
          refine lv_topi (fun x_175 ex_175 => ?_)
          refine lv_istore_n (lv' := [(1, .int x_175), (0, .ref h0), (2, .int v2)]) hx hb dX12_takenBits_30 rfl hl (by decide) rfl (fun ls hl => ?_)
          obtain ⟨x_176, ex_176⟩ : ∃ y : Int32, y = v2 + 1 := ⟨_, rfl⟩
          have gx_176 : gi x_176 1 24 := gi_add ex_176 g_167 (gi_c 1 1 (by decide)) (by decide)
          refine lv_iinc (v := x_176) (lv' := [(2, .int x_176), (1, .int x_175), (0, .ref h0)]) hx hb dX12_takenBits_31 hl (k := 2) rfl (by rw [ex_176]; rfl) (by decide) rfl (fun ls hl => ?_)
          refine lv_goto (tgt := 4) hx hb dX12_takenBits_34 (by decide) ?_
          exact ih x_175 x_176 _ _ _ (gi_w gx_176 (by decide)) (by have av2 := gv2.1; have bv2 := gv2.2; have qgx_176 := gx_176.1; have rgx_176 := gx_176.2; have igx_176 : x_176.toInt = v2.toInt + 1 := (by have hc1 : (1 : Int32).toInt = 1 := (by decide); have h9 := gi_addI ex_176 (by have h1 := g_167.1; have h2 := (gi_c 1 1 (by decide)).1; have h3 := g_167.2; have h4 := (gi_c 1 1 (by decide)).2; omega) (by have h1 := g_167.1; have h2 := (gi_c 1 1 (by decide)).1; have h3 := g_167.2; have h4 := (gi_c 1 1 (by decide)).2; omega); rw [hc1] at h9; exact h9); have qgv2 := g_167.1; have rgv2 := g_167.2; omega) hP hS (lv_sub hl [2, 1, 0] rfl)
set_option maxHeartbeats 4000000 in
set_option maxRecDepth 100000 in
theorem sX12_takenBits (l : Launch) (dC : Nat → ClassId) (dI : Nat → Nat → Nat) (h0 : Nat) (mi : Nat → Int32) (mr : Nat → Nat) (km : Nat → ClassId) (fm_verdict : Nat → Int32) (fm_trust : Nat → Int32) (fm_letter : Nat → Int32) (fm_reportPlace : Nat → Int32) (fm_reportKind : Nat → Int32) (fm_struck : Nat → Int32) (fm_reportMonth : Nat → Int32) (fm_reportDay : Nat → Int32) (fm_reportKnown : Nat → Int32) (fm_deedMonth : Nat → Int32) (fm_deedDay : Nat → Int32) (fm_deedLong : Nat → Int32) (fm_deedKind : Nat → Int32) (fm_kept : Nat → Int32) (fm_tape : Nat → Int32) (fm_must : Nat → Int32) (fm_least : Nat → Int32) (fm_pin : Nat → Int32) (fm_ways : Nat → Int32) (fm_row : Nat → Int32) (fm_official : Nat → Int32) (fm_aside : Nat → Int32) (fm_worth : Nat → Int32) (fm_out : Nat → Int32) (gmi_0 : gi (mi 0) 0 24) (gmi_1 : gi (mi 1) 0 5) (gmi_2 : gi (mi 2) 0 5) (gmi_4 : gi (mi 4) 0 1) (gmi_7 : gi (mi 7) 0 6) (gmi_10 : gi (mi 10) 0 24) (gmi_17 : gi (mi 17) 0 8) (gmi_23 : gi (mi 23) 0 300) (gmi_24 : gi (mi 24) 0 1) (gmi_26 : gi (mi 26) 0 1600) (gmi_29 : gi (mi 29) 0 1600) (gmi_30 : gi (mi 30) 0 1600) (gmi_33 : gi (mi 33) 0 1) (gmi_37 : gi (mi 37) 0 1) (gmi_41 : gi (mi 41) 0 24) (gmi_50 : gi (mi 50) 0 1) (gmi_51 : gi (mi 51) 0 1) (gmi_56 : gi (mi 56) 0 80) : Met l yX12_takenBits (.code yX12_takenBits cX12_takenBits 3 (some .int) :: wsGB) ({ frames := 0, cells := 0, slots := 0, locals := 0 }) (va_Pc [.ref h0] (fun U => va_P (dC, dI) vwCl (MWn h0 mr km (mi 0) (mi 1) (mi 2) (mi 3) (mi 4) (mi 5) (mi 6) (mi 7) (mi 10) (mi 17) (mi 23) (mi 24) (mi 26) (mi 27) (mi 28) (mi 29) (mi 30) (mi 31) (mi 32) (mi 33) (mi 37) (mi 41) (mi 42) (mi 43) (mi 44) (mi 45) (mi 47) (mi 48) (mi 49) (mi 50) (mi 51) (mi 54) (mi 56) fm_trust fm_letter fm_reportPlace fm_reportKind fm_struck fm_reportMonth fm_reportDay fm_reportKnown fm_deedMonth fm_deedDay fm_deedLong fm_deedKind fm_kept fm_tape fm_must fm_least fm_pin fm_ways fm_verdict fm_row fm_official fm_aside fm_worth fm_out) U.heap ∧ va_K (dC, dI) vwCl (MT km) U)) (va_Qi (fun (r : Int32) (u : Unit) => gi r (-2147483648) 2147483647) (fun _ _ => True) (fun _ => False)) 0 0 (fun _ => False) := by
  refine Met.ofW (cc := cX12_takenBits) (maxL := 3) (ret := (some .int)) (by decide) rfl ?_
  intro p e s m args below meth c s₁ B hml hv
  obtain ⟨rfl, hP, hK⟩ := hv
  have hx := B.exec
  have hb := B.bytes
  have hr := B.returns
  have hts := atoms_spec (ws := (.code yX12_takenBits cX12_takenBits 3 (some .int) :: wsGB)) B.pre
  have hown : s.vm.findClass RX12 = some m.cls := findClass_of_methodNamed B.named
  have hlocks := B.notSynchronized
  have hS : va_S (fun _ => False) s.heap s.heap [] := va_S.rf
  have hl := lv_entry ([.ref h0]) (n := 3) (Nat.le_of_ble_eq_true rfl)
  rw [lg_entry_eq]
  generalize (lg_sl ([.ref h0]) ++ List.replicate (3 - (lg_sl ([.ref h0])).length) Slot.unset).toArray = ls at hl ⊢
  have hl : lv_has ls 3 [(0, .ref h0)] := hl
  refine lv_iconst (v := 0) hx hb dX12_takenBits_0 (by decide) ?_
  refine lv_istore_n (lv' := [(1, .int 0), (0, .ref h0)]) hx hb dX12_takenBits_1 rfl hl (by decide) rfl (fun ls hl => ?_)
  refine lv_iconst (v := 0) hx hb dX12_takenBits_2 (by decide) ?_
  refine lv_istore_n (lv' := [(2, .int 0), (1, .int 0), (0, .ref h0)]) hx hb dX12_takenBits_3 rfl hl (by decide) rfl (fun ls hl => ?_)
  refine (lp_sX12_takenBits h0 mi mr km fm_verdict fm_trust fm_letter fm_reportPlace fm_reportKind fm_struck fm_reportMonth fm_reportDay fm_reportKnown fm_deedMonth fm_deedDay fm_deedLong fm_deedKind fm_kept fm_tape fm_must fm_least fm_pin fm_ways fm_row fm_official fm_aside fm_worth fm_out gmi_0 gmi_1 gmi_2 gmi_4 gmi_7 gmi_10 gmi_17 gmi_23 gmi_24 gmi_26 gmi_29 gmi_30 gmi_33 gmi_37 gmi_41 gmi_50 gmi_51 gmi_56 hx hb hml hown hts hK (Nat.le_of_ble_eq_true rfl) (Nat.le_of_ble_eq_true rfl) (Nat.zero_le _) (Nat.zero_le _) (fun v H locs ls hP hS hl => ?_) 62) 0 0 _ _ _ (gi_w (gi_c 0 0 (by decide)) (by decide)) (by have k0 : (0 : Int32).toInt = 0 := (by decide); omega) hP hS (lv_sub hl [2, 1, 0] rfl)
  · skip
    exact W.iret (v := v) hx hb hr (fun t ht hW => ⟨⟨v, (), rfl, (gi_any v), trivial⟩, hS.F ht⟩) hS.2.2 dX12_takenBits_38
theorem dJ6_bitCount_0f7a4_0 : decode cJ6_bitCount_0f7a4 0 = .ok (.iload_n 0, 1) := by decide +kernel
theorem dJ6_bitCount_0f7a4_1 : decode cJ6_bitCount_0f7a4 1 = .ok (.iload_n 0, 1) := by decide +kernel
theorem dJ6_bitCount_0f7a4_2 : decode cJ6_bitCount_0f7a4 2 = .ok (.iconst 1, 1) := by decide +kernel
theorem dJ6_bitCount_0f7a4_3 : decode cJ6_bitCount_0f7a4 3 = .ok (.iushr, 1) := by decide +kernel
theorem dJ6_bitCount_0f7a4_4 : decode cJ6_bitCount_0f7a4 4 = .ok (.ldc_w 265, 3) := by decide +kernel
theorem dJ6_bitCount_0f7a4_7 : decode cJ6_bitCount_0f7a4 7 = .ok (.iand, 1) := by decide +kernel
theorem dJ6_bitCount_0f7a4_8 : decode cJ6_bitCount_0f7a4 8 = .ok (.isub, 1) := by decide +kernel
theorem dJ6_bitCount_0f7a4_9 : decode cJ6_bitCount_0f7a4 9 = .ok (.istore_n 0, 1) := by decide +kernel
theorem dJ6_bitCount_0f7a4_10 : decode cJ6_bitCount_0f7a4 10 = .ok (.iload_n 0, 1) := by decide +kernel
theorem dJ6_bitCount_0f7a4_11 : decode cJ6_bitCount_0f7a4 11 = .ok (.ldc_w 266, 3) := by decide +kernel
theorem dJ6_bitCount_0f7a4_14 : decode cJ6_bitCount_0f7a4 14 = .ok (.iand, 1) := by decide +kernel
theorem dJ6_bitCount_0f7a4_15 : decode cJ6_bitCount_0f7a4 15 = .ok (.iload_n 0, 1) := by decide +kernel
theorem dJ6_bitCount_0f7a4_16 : decode cJ6_bitCount_0f7a4 16 = .ok (.iconst 2, 1) := by decide +kernel
theorem dJ6_bitCount_0f7a4_17 : decode cJ6_bitCount_0f7a4 17 = .ok (.iushr, 1) := by decide +kernel
theorem dJ6_bitCount_0f7a4_18 : decode cJ6_bitCount_0f7a4 18 = .ok (.ldc_w 266, 3) := by decide +kernel
theorem dJ6_bitCount_0f7a4_21 : decode cJ6_bitCount_0f7a4 21 = .ok (.iand, 1) := by decide +kernel
theorem dJ6_bitCount_0f7a4_22 : decode cJ6_bitCount_0f7a4 22 = .ok (.iadd, 1) := by decide +kernel
theorem dJ6_bitCount_0f7a4_23 : decode cJ6_bitCount_0f7a4 23 = .ok (.istore_n 0, 1) := by decide +kernel
theorem dJ6_bitCount_0f7a4_24 : decode cJ6_bitCount_0f7a4 24 = .ok (.iload_n 0, 1) := by decide +kernel
theorem dJ6_bitCount_0f7a4_25 : decode cJ6_bitCount_0f7a4 25 = .ok (.iload_n 0, 1) := by decide +kernel
theorem dJ6_bitCount_0f7a4_26 : decode cJ6_bitCount_0f7a4 26 = .ok (.iconst 4, 1) := by decide +kernel
theorem dJ6_bitCount_0f7a4_27 : decode cJ6_bitCount_0f7a4 27 = .ok (.iushr, 1) := by decide +kernel
theorem dJ6_bitCount_0f7a4_28 : decode cJ6_bitCount_0f7a4 28 = .ok (.iadd, 1) := by decide +kernel
theorem dJ6_bitCount_0f7a4_29 : decode cJ6_bitCount_0f7a4 29 = .ok (.ldc_w 267, 3) := by decide +kernel
theorem dJ6_bitCount_0f7a4_32 : decode cJ6_bitCount_0f7a4 32 = .ok (.iand, 1) := by decide +kernel
theorem dJ6_bitCount_0f7a4_33 : decode cJ6_bitCount_0f7a4 33 = .ok (.istore_n 0, 1) := by decide +kernel
theorem dJ6_bitCount_0f7a4_34 : decode cJ6_bitCount_0f7a4 34 = .ok (.iload_n 0, 1) := by decide +kernel
theorem dJ6_bitCount_0f7a4_35 : decode cJ6_bitCount_0f7a4 35 = .ok (.iload_n 0, 1) := by decide +kernel
theorem dJ6_bitCount_0f7a4_36 : decode cJ6_bitCount_0f7a4 36 = .ok (.bipush 8, 2) := by decide +kernel
theorem dJ6_bitCount_0f7a4_38 : decode cJ6_bitCount_0f7a4 38 = .ok (.iushr, 1) := by decide +kernel
theorem dJ6_bitCount_0f7a4_39 : decode cJ6_bitCount_0f7a4 39 = .ok (.iadd, 1) := by decide +kernel
theorem dJ6_bitCount_0f7a4_40 : decode cJ6_bitCount_0f7a4 40 = .ok (.istore_n 0, 1) := by decide +kernel
theorem dJ6_bitCount_0f7a4_41 : decode cJ6_bitCount_0f7a4 41 = .ok (.iload_n 0, 1) := by decide +kernel
theorem dJ6_bitCount_0f7a4_42 : decode cJ6_bitCount_0f7a4 42 = .ok (.iload_n 0, 1) := by decide +kernel
theorem dJ6_bitCount_0f7a4_43 : decode cJ6_bitCount_0f7a4 43 = .ok (.bipush 16, 2) := by decide +kernel
theorem dJ6_bitCount_0f7a4_45 : decode cJ6_bitCount_0f7a4 45 = .ok (.iushr, 1) := by decide +kernel
theorem dJ6_bitCount_0f7a4_46 : decode cJ6_bitCount_0f7a4 46 = .ok (.iadd, 1) := by decide +kernel
theorem dJ6_bitCount_0f7a4_47 : decode cJ6_bitCount_0f7a4 47 = .ok (.istore_n 0, 1) := by decide +kernel
theorem dJ6_bitCount_0f7a4_48 : decode cJ6_bitCount_0f7a4 48 = .ok (.iload_n 0, 1) := by decide +kernel
theorem dJ6_bitCount_0f7a4_49 : decode cJ6_bitCount_0f7a4 49 = .ok (.bipush 63, 2) := by decide +kernel
theorem dJ6_bitCount_0f7a4_51 : decode cJ6_bitCount_0f7a4 51 = .ok (.iand, 1) := by decide +kernel
theorem dJ6_bitCount_0f7a4_52 : decode cJ6_bitCount_0f7a4 52 = .ok (.ireturn, 1) := by decide +kernel
set_option maxHeartbeats 4000000 in
set_option maxRecDepth 100000 in
theorem sJ6_bitCountB (l : Launch) (dC : Nat → ClassId) (dI : Nat → Nat → Nat) (p0 : Int32)  : Met l yJ6_bitCount_0f7a4 (.code yJ6_bitCount_0f7a4 cJ6_bitCount_0f7a4 1 (some .int) :: wsGB) ({ frames := 0, cells := 0, slots := 0, locals := 0 }) (va_Pc [.int p0] (fun U => va_P (dC, dI) vwCl [] U.heap ∧ va_K (dC, dI) vwCl [] U)) (va_Qi (fun (r : Int32) (u : Unit) => gi r (-2147483648) 2147483647) (fun _ _ => True) (fun _ => False)) 0 0 (fun _ => False) := by
  refine Met.ofW (cc := cJ6_bitCount_0f7a4) (maxL := 1) (ret := (some .int)) (by decide) rfl ?_
  intro p e s m args below meth c s₁ B hml hv
  obtain ⟨rfl, hP, hK⟩ := hv
  have hx := B.exec
  have hb := B.bytes
  have hr := B.returns
  have hts := atoms_spec (ws := (.code yJ6_bitCount_0f7a4 cJ6_bitCount_0f7a4 1 (some .int) :: wsGB)) B.pre
  have hown : s.vm.findClass RJ6 = some m.cls := findClass_of_methodNamed B.named
  have hlocks := B.notSynchronized
  have hS : va_S (fun _ => False) s.heap s.heap [] := va_S.rf
  have hl := lv_entry ([.int p0]) (n := 1) (Nat.le_of_ble_eq_true rfl)
  rw [lg_entry_eq]
  generalize (lg_sl ([.int p0]) ++ List.replicate (1 - (lg_sl ([.int p0])).length) Slot.unset).toArray = ls at hl ⊢
  have hl : lv_has ls 1 [(0, .int p0)] := hl
  refine lv_iload_n hx hb dJ6_bitCount_0f7a4_0 rfl (lv_at hl 0 rfl) ?_
  refine lv_iload_n hx hb dJ6_bitCount_0f7a4_1 rfl (lv_at hl 0 rfl) ?_
  refine lv_iconst (v := 1) hx hb dJ6_bitCount_0f7a4_2 (by decide) ?_
  refine lv_iushr hx hb dJ6_bitCount_0f7a4_3 rfl ?_
  refine lv_topi (fun x_16 ex_16 => ?_)
  refine lv_ldcw (own := RJ6) (v := 1431655765) hx hb hown (hts _ (List.mem_cons_of_mem _ mGB_321)) dJ6_bitCount_0f7a4_4 ?_
  refine lv_iand hx hb dJ6_bitCount_0f7a4_7 ?_
  refine lv_topi (fun x_17 ex_17 => ?_)
  refine lv_isub hx hb dJ6_bitCount_0f7a4_8 ?_
  refine lv_topi (fun x_18 ex_18 => ?_)
  refine lv_istore_n (lv' := [(0, .int x_18)]) hx hb dJ6_bitCount_0f7a4_9 rfl hl (by decide) rfl (fun ls hl => ?_)
  refine lv_iload_n hx hb dJ6_bitCount_0f7a4_10 rfl (lv_at hl 0 rfl) ?_
  refine lv_ldcw (own := RJ6) (v := 858993459) hx hb hown (hts _ (List.mem_cons_of_mem _ mGB_322)) dJ6_bitCount_0f7a4_11 ?_
  refine lv_iand hx hb dJ6_bitCount_0f7a4_14 ?_
  refine lv_topi (fun x_19 ex_19 => ?_)
  refine lv_iload_n hx hb dJ6_bitCount_0f7a4_15 rfl (lv_at hl 0 rfl) ?_
  refine lv_iconst (v := 2) hx hb dJ6_bitCount_0f7a4_16 (by decide) ?_
  refine lv_iushr hx hb dJ6_bitCount_0f7a4_17 rfl ?_
  refine lv_topi (fun x_20 ex_20 => ?_)
  refine lv_ldcw (own := RJ6) (v := 858993459) hx hb hown (hts _ (List.mem_cons_of_mem _ mGB_322)) dJ6_bitCount_0f7a4_18 ?_
  refine lv_iand hx hb dJ6_bitCount_0f7a4_21 ?_
  refine lv_topi (fun x_21 ex_21 => ?_)
  refine lv_iadd hx hb dJ6_bitCount_0f7a4_22 ?_
  refine lv_topi (fun x_22 ex_22 => ?_)
  refine lv_istore_n (lv' := [(0, .int x_22)]) hx hb dJ6_bitCount_0f7a4_23 rfl hl (by decide) rfl (fun ls hl => ?_)
  refine lv_iload_n hx hb dJ6_bitCount_0f7a4_24 rfl (lv_at hl 0 rfl) ?_
  refine lv_iload_n hx hb dJ6_bitCount_0f7a4_25 rfl (lv_at hl 0 rfl) ?_
  refine lv_iconst (v := 4) hx hb dJ6_bitCount_0f7a4_26 (by decide) ?_
  refine lv_iushr hx hb dJ6_bitCount_0f7a4_27 rfl ?_
  refine lv_topi (fun x_23 ex_23 => ?_)
  refine lv_iadd hx hb dJ6_bitCount_0f7a4_28 ?_
  refine lv_topi (fun x_24 ex_24 => ?_)
  refine lv_ldcw (own := RJ6) (v := 252645135) hx hb hown (hts _ (List.mem_cons_of_mem _ mGB_323)) dJ6_bitCount_0f7a4_29 ?_
  refine lv_iand hx hb dJ6_bitCount_0f7a4_32 ?_
  refine lv_topi (fun x_25 ex_25 => ?_)
  refine lv_istore_n (lv' := [(0, .int x_25)]) hx hb dJ6_bitCount_0f7a4_33 rfl hl (by decide) rfl (fun ls hl => ?_)
  refine lv_iload_n hx hb dJ6_bitCount_0f7a4_34 rfl (lv_at hl 0 rfl) ?_
  refine lv_iload_n hx hb dJ6_bitCount_0f7a4_35 rfl (lv_at hl 0 rfl) ?_
  refine lv_bipush (v := 8) hx hb dJ6_bitCount_0f7a4_36 (by decide) ?_
  refine lv_iushr hx hb dJ6_bitCount_0f7a4_38 rfl ?_
  refine lv_topi (fun x_26 ex_26 => ?_)
  refine lv_iadd hx hb dJ6_bitCount_0f7a4_39 ?_
  refine lv_topi (fun x_27 ex_27 => ?_)
  refine lv_istore_n (lv' := [(0, .int x_27)]) hx hb dJ6_bitCount_0f7a4_40 rfl hl (by decide) rfl (fun ls hl => ?_)
  refine lv_iload_n hx hb dJ6_bitCount_0f7a4_41 rfl (lv_at hl 0 rfl) ?_
  refine lv_iload_n hx hb dJ6_bitCount_0f7a4_42 rfl (lv_at hl 0 rfl) ?_
  refine lv_bipush (v := 16) hx hb dJ6_bitCount_0f7a4_43 (by decide) ?_
  refine lv_iushr hx hb dJ6_bitCount_0f7a4_45 rfl ?_
  refine lv_topi (fun x_28 ex_28 => ?_)
  refine lv_iadd hx hb dJ6_bitCount_0f7a4_46 ?_
  refine lv_topi (fun x_29 ex_29 => ?_)
  refine lv_istore_n (lv' := [(0, .int x_29)]) hx hb dJ6_bitCount_0f7a4_47 rfl hl (by decide) rfl (fun ls hl => ?_)
  refine lv_iload_n hx hb dJ6_bitCount_0f7a4_48 rfl (lv_at hl 0 rfl) ?_
  refine lv_bipush (v := 63) hx hb dJ6_bitCount_0f7a4_49 (by decide) ?_
  refine lv_iand hx hb dJ6_bitCount_0f7a4_51 ?_
  refine lv_topi (fun x_30 ex_30 => ?_)
  exact W.iret (v := x_30) hx hb hr (fun t ht hW => ⟨⟨x_30, (), rfl, (gi_any x_30), trivial⟩, hS.F ht⟩) hS.2.2 dJ6_bitCount_0f7a4_52
theorem dX12_taken_0 : decode cX12_taken 0 = .ok (.aload_n 0, 1) := by decide +kernel
theorem dX12_taken_1 : decode cX12_taken 1 = .ok (.iload_n 1, 1) := by decide +kernel
theorem dX12_taken_2 : decode cX12_taken 2 = .ok (.invokevirtual 359, 3) := by decide +kernel
theorem dX12_taken_5 : decode cX12_taken 5 = .ok (.ifCond .ne 6, 3) := by decide +kernel
theorem dX12_taken_8 : decode cX12_taken 8 = .ok (.bipush (-2), 2) := by decide +kernel
theorem dX12_taken_10 : decode cX12_taken 10 = .ok (.ireturn, 1) := by decide +kernel
theorem dX12_taken_11 : decode cX12_taken 11 = .ok (.aload_n 0, 1) := by decide +kernel
theorem dX12_taken_12 : decode cX12_taken 12 = .ok (.iload_n 1, 1) := by decide +kernel
theorem dX12_taken_13 : decode cX12_taken 13 = .ok (.invokevirtual 362, 3) := by decide +kernel
theorem dX12_taken_16 : decode cX12_taken 16 = .ok (.aload_n 0, 1) := by decide +kernel
theorem dX12_taken_17 : decode cX12_taken 17 = .ok (.invokevirtual 365, 3) := by decide +kernel
theorem dX12_taken_20 : decode cX12_taken 20 = .ok (.invokestatic 368, 3) := by decide +kernel
theorem dX12_taken_23 : decode cX12_taken 23 = .ok (.ireturn, 1) := by decide +kernel
abbrev pb_sX12_taken (dC : Nat → ClassId) (dI : Nat → Nat → Nat) (A9 : Nat → Prop) (h0 : Nat) (mi : Nat → Int32) (mr : Nat → Nat) (km : Nat → ClassId) (fm_must : Nat → Int32) (fm_least : Nat → Int32) (fm_pin : Nat → Int32) (fm_ways : Nat → Int32) (fm_verdict : Nat → Int32) (fm_row : Nat → Int32) (fm_struck : Nat → Int32) (fm_reportKnown : Nat → Int32) (fm_reportPlace : Nat → Int32) (fm_reportMonth : Nat → Int32) (fm_reportDay : Nat → Int32) (fm_reportKind : Nat → Int32) (fm_trust : Nat → Int32) (fm_letter : Nat → Int32) (fm_deedMonth : Nat → Int32) (fm_deedDay : Nat → Int32) (fm_deedLong : Nat → Int32) (fm_deedKind : Nat → Int32) (fm_kept : Nat → Int32) (fm_tape : Nat → Int32) (fm_official : Nat → Int32) (fm_aside : Nat → Int32) (fm_worth : Nat → Int32) (fm_out : Nat → Int32) (p1 : Int32) (w0_37 : Int32) (w0_41 : Int32) (z1 : Nat → Int32) (z2 : Nat → Int32) (z3 : Nat → Int32) (z4 : Nat → Int32) (z5 : Nat → Int32) (z6 : Nat → Int32) (t : State) : Prop := gi w0_37 0 1 ∧ gi w0_41 0 24 ∧ ga z6 24 0 23 ∧ va_P (dC, dI) vwCl (MWn h0 mr km (mi 0) (mi 1) (mi 2) (mi 3) (mi 4) (mi 5) (mi 6) (mi 7) (mi 10) (mi 17) (mi 23) (mi 24) (mi 26) (mi 27) (mi 28) (mi 29) (mi 30) (mi 31) (mi 32) (mi 33) w0_37 w0_41 (mi 42) (mi 43) (mi 44) (mi 45) (mi 47) (mi 48) (mi 49) (mi 50) (mi 51) (mi 54) (mi 56) fm_trust fm_letter fm_reportPlace fm_reportKind fm_struck fm_reportMonth fm_reportDay fm_reportKnown fm_deedMonth fm_deedDay fm_deedLong fm_deedKind fm_kept fm_tape z1 z2 z3 z4 z5 z6 fm_official fm_aside fm_worth fm_out) t.heap ∧ va_D A9 (MWn h0 mr km (mi 0) (mi 1) (mi 2) (mi 3) (mi 4) (mi 5) (mi 6) (mi 7) (mi 10) (mi 17) (mi 23) (mi 24) (mi 26) (mi 27) (mi 28) (mi 29) (mi 30) (mi 31) (mi 32) (mi 33) w0_37 w0_41 (mi 42) (mi 43) (mi 44) (mi 45) (mi 47) (mi 48) (mi 49) (mi 50) (mi 51) (mi 54) (mi 56) fm_trust fm_letter fm_reportPlace fm_reportKind fm_struck fm_reportMonth fm_reportDay fm_reportKnown fm_deedMonth fm_deedDay fm_deedLong fm_deedKind fm_kept fm_tape z1 z2 z3 z4 z5 z6 fm_official fm_aside fm_worth fm_out)
set_option maxHeartbeats 4000000 in
set_option maxRecDepth 100000 in
theorem sX12_taken (l : Launch) (dC : Nat → ClassId) (dI : Nat → Nat → Nat) (sz : Nat) (h0 : Nat) (mi : Nat → Int32) (mr : Nat → Nat) (km : Nat → ClassId) (fm_must : Nat → Int32) (fm_least : Nat → Int32) (fm_pin : Nat → Int32) (fm_ways : Nat → Int32) (fm_verdict : Nat → Int32) (fm_row : Nat → Int32) (fm_struck : Nat → Int32) (fm_reportKnown : Nat → Int32) (fm_reportPlace : Nat → Int32) (fm_reportMonth : Nat → Int32) (fm_reportDay : Nat → Int32) (fm_reportKind : Nat → Int32) (fm_trust : Nat → Int32) (fm_letter : Nat → Int32) (fm_deedMonth : Nat → Int32) (fm_deedDay : Nat → Int32) (fm_deedLong : Nat → Int32) (fm_deedKind : Nat → Int32) (fm_kept : Nat → Int32) (fm_tape : Nat → Int32) (fm_official : Nat → Int32) (fm_aside : Nat → Int32) (fm_worth : Nat → Int32) (fm_out : Nat → Int32) (p1 : Int32) (gmi_0 : gi (mi 0) 0 24) (gmi_1 : gi (mi 1) 0 5) (gmi_2 : gi (mi 2) 0 5) (gmi_4 : gi (mi 4) 0 1) (gmi_7 : gi (mi 7) 0 6) (gmi_10 : gi (mi 10) 0 24) (gmi_17 : gi (mi 17) 0 8) (gmi_23 : gi (mi 23) 0 300) (gmi_24 : gi (mi 24) 0 1) (gmi_26 : gi (mi 26) 0 1600) (gmi_29 : gi (mi 29) 0 1600) (gmi_30 : gi (mi 30) 0 1600) (gmi_33 : gi (mi 33) 0 1) (gmi_37 : gi (mi 37) 0 1) (gmi_41 : gi (mi 41) 0 24) (gmi_50 : gi (mi 50) 0 1) (gmi_51 : gi (mi 51) 0 1) (gmi_56 : gi (mi 56) 0 80) (gfm_row : ga fm_row 24 0 23) (gfm_struck : ga fm_struck 24 0 1) (gfm_reportKnown : ga fm_reportKnown 24 0 999) (gfm_reportPlace : ga fm_reportPlace 24 0 5) (gfm_reportMonth : ga fm_reportMonth 24 0 23) (gfm_reportDay : ga fm_reportDay 24 0 999) : Met l yX12_taken (.code yX12_taken cX12_taken 2 (some .int) :: wsGB) ({ frames := 5, cells := 0, slots := 0, locals := 119 }) (va_Pc [.ref h0, .int p1] (fun U => U.heap.size = sz ∧ va_P (dC, dI) vwCl (MWn h0 mr km (mi 0) (mi 1) (mi 2) (mi 3) (mi 4) (mi 5) (mi 6) (mi 7) (mi 10) (mi 17) (mi 23) (mi 24) (mi 26) (mi 27) (mi 28) (mi 29) (mi 30) (mi 31) (mi 32) (mi 33) (mi 37) (mi 41) (mi 42) (mi 43) (mi 44) (mi 45) (mi 47) (mi 48) (mi 49) (mi 50) (mi 51) (mi 54) (mi 56) fm_trust fm_letter fm_reportPlace fm_reportKind fm_struck fm_reportMonth fm_reportDay fm_reportKnown fm_deedMonth fm_deedDay fm_deedLong fm_deedKind fm_kept fm_tape fm_must fm_least fm_pin fm_ways fm_verdict fm_row fm_official fm_aside fm_worth fm_out) U.heap ∧ va_K (dC, dI) vwCl (MT km) U ∧ va_D (fun _ => True) (MWn h0 mr km (mi 0) (mi 1) (mi 2) (mi 3) (mi 4) (mi 5) (mi 6) (mi 7) (mi 10) (mi 17) (mi 23) (mi 24) (mi 26) (mi 27) (mi 28) (mi 29) (mi 30) (mi 31) (mi 32) (mi 33) (mi 37) (mi 41) (mi 42) (mi 43) (mi 44) (mi 45) (mi 47) (mi 48) (mi 49) (mi 50) (mi 51) (mi 54) (mi 56) fm_trust fm_letter fm_reportPlace fm_reportKind fm_struck fm_reportMonth fm_reportDay fm_reportKnown fm_deedMonth fm_deedDay fm_deedLong fm_deedKind fm_kept fm_tape fm_must fm_least fm_pin fm_ways fm_verdict fm_row fm_official fm_aside fm_worth fm_out))) (va_Qi (fun (r : Int32) (u : Unit) => gi r (-2147483648) 2147483647) (fun _ t => ∃ (w0_37 : Int32) (w0_41 : Int32) (z1 : Nat → Int32) (z2 : Nat → Int32) (z3 : Nat → Int32) (z4 : Nat → Int32) (z5 : Nat → Int32) (z6 : Nat → Int32), pb_sX12_taken dC dI (va_A (MWn h0 mr km (mi 0) (mi 1) (mi 2) (mi 3) (mi 4) (mi 5) (mi 6) (mi 7) (mi 10) (mi 17) (mi 23) (mi 24) (mi 26) (mi 27) (mi 28) (mi 29) (mi 30) (mi 31) (mi 32) (mi 33) (mi 37) (mi 41) (mi 42) (mi 43) (mi 44) (mi 45) (mi 47) (mi 48) (mi 49) (mi 50) (mi 51) (mi 54) (mi 56) fm_trust fm_letter fm_reportPlace fm_reportKind fm_struck fm_reportMonth fm_reportDay fm_reportKnown fm_deedMonth fm_deedDay fm_deedLong fm_deedKind fm_kept fm_tape fm_must fm_least fm_pin fm_ways fm_verdict fm_row fm_official fm_aside fm_worth fm_out) sz) h0 mi mr km fm_must fm_least fm_pin fm_ways fm_verdict fm_row fm_struck fm_reportKnown fm_reportPlace fm_reportMonth fm_reportDay fm_reportKind fm_trust fm_letter fm_deedMonth fm_deedDay fm_deedLong fm_deedKind fm_kept fm_tape fm_official fm_aside fm_worth fm_out p1 w0_37 w0_41 z1 z2 z3 z4 z5 z6 t) (va_A (MWn h0 mr km (mi 0) (mi 1) (mi 2) (mi 3) (mi 4) (mi 5) (mi 6) (mi 7) (mi 10) (mi 17) (mi 23) (mi 24) (mi 26) (mi 27) (mi 28) (mi 29) (mi 30) (mi 31) (mi 32) (mi 33) (mi 37) (mi 41) (mi 42) (mi 43) (mi 44) (mi 45) (mi 47) (mi 48) (mi 49) (mi 50) (mi 51) (mi 54) (mi 56) fm_trust fm_letter fm_reportPlace fm_reportKind fm_struck fm_reportMonth fm_reportDay fm_reportKnown fm_deedMonth fm_deedDay fm_deedLong fm_deedKind fm_kept fm_tape fm_must fm_least fm_pin fm_ways fm_verdict fm_row fm_official fm_aside fm_worth fm_out) sz)) 0 0 (va_A (MWn h0 mr km (mi 0) (mi 1) (mi 2) (mi 3) (mi 4) (mi 5) (mi 6) (mi 7) (mi 10) (mi 17) (mi 23) (mi 24) (mi 26) (mi 27) (mi 28) (mi 29) (mi 30) (mi 31) (mi 32) (mi 33) (mi 37) (mi 41) (mi 42) (mi 43) (mi 44) (mi 45) (mi 47) (mi 48) (mi 49) (mi 50) (mi 51) (mi 54) (mi 56) fm_trust fm_letter fm_reportPlace fm_reportKind fm_struck fm_reportMonth fm_reportDay fm_reportKnown fm_deedMonth fm_deedDay fm_deedLong fm_deedKind fm_kept fm_tape fm_must fm_least fm_pin fm_ways fm_verdict fm_row fm_official fm_aside fm_worth fm_out) sz) := by
  refine Met.ofW (cc := cX12_taken) (maxL := 2) (ret := (some .int)) (by decide) rfl ?_
  intro p e s m args below meth c s₁ B hml hv
  obtain ⟨rfl, hsz, hP, hK, hD0⟩ := hv
  have hx := B.exec
  have hb := B.bytes
  have hr := B.returns
  have hts := atoms_spec (ws := (.code yX12_taken cX12_taken 2 (some .int) :: wsGB)) B.pre
  have hown : s.vm.findClass RX12 = some m.cls := findClass_of_methodNamed B.named
  have hlocks := B.notSynchronized
  subst hsz
  have hD := hD0.self (sz := s.heap.size)
  generalize hAe : va_A (MWn h0 mr km (mi 0) (mi 1) (mi 2) (mi 3) (mi 4) (mi 5) (mi 6) (mi 7) (mi 10) (mi 17) (mi 23) (mi 24) (mi 26) (mi 27) (mi 28) (mi 29) (mi 30) (mi 31) (mi 32) (mi 33) (mi 37) (mi 41) (mi 42) (mi 43) (mi 44) (mi 45) (mi 47) (mi 48) (mi 49) (mi 50) (mi 51) (mi 54) (mi 56) fm_trust fm_letter fm_reportPlace fm_reportKind fm_struck fm_reportMonth fm_reportDay fm_reportKnown fm_deedMonth fm_deedDay fm_deedLong fm_deedKind fm_kept fm_tape fm_must fm_least fm_pin fm_ways fm_verdict fm_row fm_official fm_aside fm_worth fm_out) s.heap.size = A at hD ⊢
  have hA : ∀ q : Nat, s.heap.size ≤ q → A q := fun q h => by rw [← hAe]; exact Or.inr h
  have hS : va_S A s.heap s.heap [] := va_S.rf
  have hl := lv_entry ([.ref h0, .int p1]) (n := 2) (Nat.le_of_ble_eq_true rfl)
  rw [lg_entry_eq]
  generalize (lg_sl ([.ref h0, .int p1]) ++ List.replicate (2 - (lg_sl ([.ref h0, .int p1])).length) Slot.unset).toArray = ls at hl ⊢
  have hl : lv_has ls 2 [(0, .ref h0), (1, .int p1)] := hl
  refine lv_aload_n hx hb dX12_taken_0 rfl (lv_at hl 0 rfl) ?_
  refine lv_iload_n hx hb dX12_taken_1 rfl (lv_at hl 1 rfl) ?_
  refine va_calli (va_runV (As := [.int p1]) (rest := []) ⟨hx, hb, hml, hown, hts⟩ (sX12_isTime l dC dI h0 mi mr km fm_trust fm_letter fm_reportPlace fm_reportKind fm_struck fm_reportMonth fm_reportDay fm_reportKnown fm_deedMonth fm_deedDay fm_deedLong fm_deedKind fm_kept fm_tape fm_must fm_least fm_pin fm_ways fm_verdict fm_row fm_official fm_aside fm_worth fm_out p1 gmi_0 gmi_1 gmi_2 gmi_4 gmi_7 gmi_10 gmi_17 gmi_23 gmi_24 gmi_26 gmi_29 gmi_30 gmi_33 gmi_37 gmi_41 gmi_50 gmi_51 gmi_56) (cwV 1 hts (gz_gV mGB_256 mGB_257 mGB_258 mGB_1 mGB_259 goodGB) rfl rfl rfl (by decide +kernel) ⟨Nat.le_of_ble_eq_true rfl, Nat.le_of_ble_eq_true rfl⟩) ⟨bl_R, mw_recv hK hP, fun U hU hW => ⟨rfl, by rw [hU]; exact hP, va_K.moved hW.alike hK⟩⟩ rfl rfl hl.1 rfl (lv_room (Nat.le_of_ble_eq_true rfl)) dX12_taken_2 ⟨Nat.zero_le _, Nat.zero_le _⟩) hS (fun q _ h => h.elim) (fun q h => h.elim) (fun r_33 u t H1 locs ht hvm hw hB hz1 hk1 hS => ?_)
  obtain ⟨hw, hE⟩ := hw
  have hP := gz_keep hP hk1
  generalize H1 = H at hP hS ⊢
  have gr_33 : gi r_33 0 1 := hw.1
  have hqr_33 := hw.2
  refine lv_if_ne (tgt := 11) hx hb dX12_taken_5 (by decide) (fun c_34 => ?_) (fun c_34 => ?_)
  · have g_35 : gi r_33 1 1 := gi_ne_lo c_34 gr_33 (gi_c 0 0 (by decide)) (by decide)
    have g_36 : gi p1 0 999 := gi_cap (gi_any p1) (hqr_33 (gz_one g_35)) (by decide)
    refine lv_aload_n hx hb dX12_taken_11 rfl (lv_at hl 0 rfl) ?_
    refine lv_iload_n hx hb dX12_taken_12 rfl (lv_at hl 1 rfl) ?_
    have hFc := gz_fullF hD hS hA
    refine va_callv (va_runV (As := [.int p1]) (rest := []) ⟨hx, hb, hml, hown, hts⟩ (sX12_judgesAll l dC dI H.size h0 mi mr km fm_must fm_least fm_pin fm_ways fm_verdict fm_row fm_struck fm_reportKnown fm_reportPlace fm_reportMonth fm_reportDay fm_reportKind fm_trust fm_letter fm_deedMonth fm_deedDay fm_deedLong fm_deedKind fm_kept fm_tape fm_official fm_aside fm_worth fm_out p1 gmi_0 gmi_1 gmi_2 gmi_4 gmi_7 gmi_10 gmi_17 gmi_23 gmi_24 gmi_26 gmi_29 gmi_30 gmi_33 gmi_37 gmi_41 gmi_50 gmi_51 gmi_56 gfm_row gfm_struck gfm_reportKnown gfm_reportPlace gfm_reportMonth gfm_reportDay) (cwV 1 hts (gz_gV mGB_261 mGB_262 mGB_263 mGB_1 mGB_264 goodGB) rfl rfl rfl (by decide +kernel) ⟨Nat.le_of_ble_eq_true rfl, Nat.le_of_ble_eq_true rfl⟩) ⟨bl_W, mw_recv hK hP, fun U hU hW => ⟨rfl, by rw [hU], by rw [hU]; exact hP, va_K.moved hW.alike hK, hD.weaken (fun _ _ _ _ => trivial)⟩⟩ rfl rfl hl.1 rfl (lv_room (Nat.le_of_ble_eq_true rfl)) dX12_taken_13 ⟨Nat.zero_le _, Nat.zero_le _⟩) hS (fun q _ h => hFc q h) hFc (fun u t H1 locs ht hvm hw hB hz1 hk1 hS => ?_)
    obtain ⟨y_38, y_39, f_40, f_41, f_42, f_43, f_44, f_45, hB⟩ := hB
    obtain ⟨gy_38, gy_39, gf_45, hP1, hD1⟩ := hB
    rw [ht] at hP1
    have hD : va_D A (MWn h0 mr km (mi 0) (mi 1) (mi 2) (mi 3) (mi 4) (mi 5) (mi 6) (mi 7) (mi 10) (mi 17) (mi 23) (mi 24) (mi 26) (mi 27) (mi 28) (mi 29) (mi 30) (mi 31) (mi 32) (mi 33) y_38 y_39 (mi 42) (mi 43) (mi 44) (mi 45) (mi 47) (mi 48) (mi 49) (mi 50) (mi 51) (mi 54) (mi 56) fm_trust fm_letter fm_reportPlace fm_reportKind fm_struck fm_reportMonth fm_reportDay fm_reportKnown fm_deedMonth fm_deedDay fm_deedLong fm_deedKind fm_kept fm_tape f_40 f_41 f_42 f_43 f_44 f_45 fm_official fm_aside fm_worth fm_out) := gz_fullD hFc hD1
    have hP : va_P (dC, dI) vwCl (MWn h0 mr km (mi 0) (mi 1) (mi 2) (mi 3) (mi 4) (mi 5) (mi 6) (mi 7) (mi 10) (mi 17) (mi 23) (mi 24) (mi 26) (mi 27) (mi 28) (mi 29) (mi 30) (mi 31) (mi 32) (mi 33) y_38 y_39 (mi 42) (mi 43) (mi 44) (mi 45) (mi 47) (mi 48) (mi 49) (mi 50) (mi 51) (mi 54) (mi 56) fm_trust fm_letter fm_reportPlace fm_reportKind fm_struck fm_reportMonth fm_reportDay fm_reportKnown fm_deedMonth fm_deedDay fm_deedLong fm_deedKind fm_kept fm_tape f_40 f_41 f_42 f_43 f_44 f_45 fm_official fm_aside fm_worth fm_out) H1 := hP1
    generalize H1 = H at hP hS ⊢
    refine lv_aload_n hx hb dX12_taken_16 rfl (lv_at hl 0 rfl) ?_
    refine va_calli (va_runV (As := []) (rest := []) ⟨hx, hb, hml, hown, hts⟩ (sX12_takenBits l dC dI h0 (upd (upd mi 37 y_38) 41 y_39) mr km f_44 fm_trust fm_letter fm_reportPlace fm_reportKind fm_struck fm_reportMonth fm_reportDay fm_reportKnown fm_deedMonth fm_deedDay fm_deedLong fm_deedKind fm_kept fm_tape f_40 f_41 f_42 f_43 f_45 fm_official fm_aside fm_worth fm_out gmi_0 gmi_1 gmi_2 gmi_4 gmi_7 gmi_10 gmi_17 gmi_23 gmi_24 gmi_26 gmi_29 gmi_30 gmi_33 gy_38 gy_39 gmi_50 gmi_51 gmi_56) (cwV 0 hts (gz_gV mGB_327 mGB_328 mGB_329 mGB_1 mGB_330 goodGB) rfl rfl rfl (by decide +kernel) ⟨Nat.le_of_ble_eq_true rfl, Nat.le_of_ble_eq_true rfl⟩) ⟨bl_R, mw_recv hK hP, fun U hU hW => ⟨rfl, by rw [hU]; exact hP, va_K.moved hW.alike hK⟩⟩ rfl rfl hl.1 rfl (lv_room (Nat.le_of_ble_eq_true rfl)) dX12_taken_17 ⟨Nat.zero_le _, Nat.zero_le _⟩) hS (fun q _ h => h.elim) (fun q h => h.elim) (fun r_46 u t H1 locs ht hvm hw hB hz1 hk1 hS => ?_)
    have hP := gz_keep hP hk1
    generalize H1 = H at hP hS ⊢
    have hPc := hP.sub (ws' := []) [] rfl
    have hKc := hK.sub (tys' := []) [] rfl
    refine va_calli (va_runS (As := [.int r_46]) (rest := []) ⟨hx, hb, hml, hown, hts⟩ (sJ6_bitCountB l dC dI r_46) (⟨callB_of 1 hts (gz_gP mGB_320 goodGB) rfl rfl rfl (hts _ (List.mem_cons_of_mem _ mGB_319)) (hts _ (List.mem_cons_of_mem _ mGB_331)) (by decide +kernel) ⟨Nat.le_of_ble_eq_true rfl, Nat.le_of_ble_eq_true rfl⟩, (hts _ (List.mem_cons_of_mem _ mGB_318))⟩) ⟨bl_R, fun U hU hW => ⟨rfl, by rw [hU]; exact hPc, va_K.moved hW.alike hKc⟩⟩ rfl rfl hl.1 rfl (lv_room (Nat.le_of_ble_eq_true rfl)) dX12_taken_20 ⟨Nat.zero_le _, Nat.zero_le _⟩) hS (fun q _ h => h.elim) (fun q h => h.elim) (fun r_47 u t H1 locs ht hvm hw hB hz1 hk1 hS => ?_)
    have hP := gz_keep hP hk1
    generalize H1 = H at hP hS ⊢
    exact W.iret (v := r_47) hx hb hr (fun t ht hW => ⟨⟨r_47, (), rfl, (gi_any r_47), y_38, y_39, f_40, f_41, f_42, f_43, f_44, f_45, gy_38, gy_39, gf_45, by rw [ht]; exact hP, hD⟩, hS.F ht⟩) hS.2.2 dX12_taken_23
  · have g_48 : gi r_33 0 0 := gi_eq c_34 (gi_c 0 0 (by decide))
    refine lv_bipush (v := (-2)) hx hb dX12_taken_8 (by decide) ?_
    exact W.iret (v := (-2)) hx hb hr (fun t ht hW => ⟨⟨(-2), (), rfl, (gi_any (-2)), (mi 37), (mi 41), fm_must, fm_least, fm_pin, fm_ways, fm_verdict, fm_row, gmi_37, gmi_41, gfm_row, by rw [ht]; exact hP, hD⟩, hS.F ht⟩) hS.2.2 dX12_taken_10
noncomputable def mt_report (mi : Nat → Int32) (fm : Nat → Nat → Int32) (o : Int32) : Int32 × (Nat → Int32) × (Nat → Nat → Int32) := (o, mi, fm)
noncomputable def ms_report (mi : Nat → Int32) (fm : Nat → Nat → Int32) (p1 : Int32) (p2 : Int32) : Int32 × (Nat → Int32) × (Nat → Nat → Int32) := mt_report mi fm (fX12_report mi (fm 4) (fm 7) (fm 2) (fm 5) (fm 6) (fm 3) p1 p2)
set_option maxHeartbeats 4000000 in
set_option maxRecDepth 100000 in
theorem uX12_report (l : Launch) (dC : Nat → ClassId) (dI : Nat → Nat → Nat) (sz : Nat) (hm : Nat) (mi : Nat → Int32) (mr : Nat → Nat) (km : Nat → ClassId) (fm : Nat → Nat → Int32) (hI : MI mi fm) (p1 : Int32) (p2 : Int32) : Met l yX12_report (.code yX12_report cX12_report 3 (some .int) :: wsGB) ({ frames := 2, cells := 0, slots := 0, locals := 46 }) (va_Pc [.ref hm, .int p1, .int p2] (fun U => U.heap.size = sz ∧ va_P (dC, dI) vwCl (MW hm mi mr km fm) U.heap ∧ va_K (dC, dI) vwCl (MT km) U ∧ va_D (fun _ => True) (MW hm mi mr km fm))) (va_Qi (fun (r : Int32) (u : Int32) => r = u) (fun r t => MB dC dI hm mi mr km fm sz (fun v f => (r, v, f) = ms_report mi fm p1 p2) t) (va_A (MW hm mi mr km fm) sz)) 0 0 (va_A (MW hm mi mr km fm) sz) := by
  refine gz_mono (sX12_report l dC dI hm mi mr km (fm 18) (fm 19) (fm 4) (fm 7) (fm 2) (fm 5) (fm 6) (fm 3) (fm 0) (fm 1) (fm 8) (fm 9) (fm 10) (fm 11) (fm 12) (fm 13) (fm 14) (fm 15) (fm 16) (fm 17) (fm 20) (fm 21) (fm 22) (fm 23) p1 p2 hI.1 hI.2.1 hI.2.2.1 hI.2.2.2.1 hI.2.2.2.2.1 hI.2.2.2.2.2.1 hI.2.2.2.2.2.2.1 hI.2.2.2.2.2.2.2.1 hI.2.2.2.2.2.2.2.2.1 hI.2.2.2.2.2.2.2.2.2.1 hI.2.2.2.2.2.2.2.2.2.2.1 hI.2.2.2.2.2.2.2.2.2.2.2.1 hI.2.2.2.2.2.2.2.2.2.2.2.2.2.1 hI.2.2.2.2.2.2.2.2.2.2.2.2.2.2.1 hI.2.2.2.2.2.2.2.2.2.2.2.2.2.2.2.1 hI.2.2.2.2.2.2.2.2.2.2.2.2.2.2.2.2.1 hI.2.2.2.2.2.2.2.2.2.2.2.2.2.2.2.2.2.1 hI.2.2.2.2.2.2.2.2.2.2.2.2.2.2.2.2.2.2.1 hI.2.2.2.2.2.2.2.2.2.2.2.2.2.2.2.2.2.2.2.2.2.2.2.2.2.2.1 hI.2.2.2.2.2.2.2.2.2.2.2.2.2.2.2.2.2.2.2.2.1 hI.2.2.2.2.2.2.2.2.2.2.2.2.2.2.2.2.2.2.2.2.2.2.2.1 hI.2.2.2.2.2.2.2.2.2.2.2.2.2.2.2.2.2.2.2.1 hI.2.2.2.2.2.2.2.2.2.2.2.2.2.2.2.2.2.2.2.2.2.1 hI.2.2.2.2.2.2.2.2.2.2.2.2.2.2.2.2.2.2.2.2.2.2.1) ?_ ?_ ?_
  · rintro args s ⟨rfl, hsz, hP, hK, hD⟩
    exact ⟨rfl, hP, hK⟩
  · rintro args s o t ⟨rfl, hsz, hP, hK, hD⟩ ⟨⟨r, u, ho, hw, hB⟩, hF⟩
    subst hsz
    exact ⟨⟨r, r, ho, rfl, mi, fm, hI, congrArg (mt_report mi fm) hw.2, gz_keep hP hF.2, hD.self⟩, hF.1, fun q h1 h2 => hF.2 q h1 (fun h => h.elim)⟩
  · exact fun q h => h.elim
noncomputable def mt_deed (mi : Nat → Int32) (fm : Nat → Nat → Int32) (o : Int32) : Int32 × (Nat → Int32) × (Nat → Nat → Int32) := (o, mi, fm)
noncomputable def ms_deed (mi : Nat → Int32) (fm : Nat → Nat → Int32) (p1 : Int32) (p2 : Int32) : Int32 × (Nat → Int32) × (Nat → Nat → Int32) := mt_deed mi fm (fX12_deed mi (fm 8) (fm 10) (fm 11) (fm 9) p1 p2)
set_option maxHeartbeats 4000000 in
set_option maxRecDepth 100000 in
theorem uX12_deed (l : Launch) (dC : Nat → ClassId) (dI : Nat → Nat → Nat) (sz : Nat) (hm : Nat) (mi : Nat → Int32) (mr : Nat → Nat) (km : Nat → ClassId) (fm : Nat → Nat → Int32) (hI : MI mi fm) (p1 : Int32) (p2 : Int32) : Met l yX12_deed (.code yX12_deed cX12_deed 3 (some .int) :: wsGB) ({ frames := 2, cells := 0, slots := 0, locals := 46 }) (va_Pc [.ref hm, .int p1, .int p2] (fun U => U.heap.size = sz ∧ va_P (dC, dI) vwCl (MW hm mi mr km fm) U.heap ∧ va_K (dC, dI) vwCl (MT km) U ∧ va_D (fun _ => True) (MW hm mi mr km fm))) (va_Qi (fun (r : Int32) (u : Int32) => r = u) (fun r t => MB dC dI hm mi mr km fm sz (fun v f => (r, v, f) = ms_deed mi fm p1 p2) t) (va_A (MW hm mi mr km fm) sz)) 0 0 (va_A (MW hm mi mr km fm) sz) := by
  refine gz_mono (sX12_deed l dC dI hm mi mr km (fm 8) (fm 10) (fm 11) (fm 9) (fm 0) (fm 1) (fm 2) (fm 3) (fm 4) (fm 5) (fm 6) (fm 7) (fm 12) (fm 13) (fm 14) (fm 15) (fm 16) (fm 17) (fm 18) (fm 19) (fm 20) (fm 21) (fm 22) (fm 23) p1 p2 hI.1 hI.2.1 hI.2.2.1 hI.2.2.2.1 hI.2.2.2.2.1 hI.2.2.2.2.2.1 hI.2.2.2.2.2.2.1 hI.2.2.2.2.2.2.2.1 hI.2.2.2.2.2.2.2.2.1 hI.2.2.2.2.2.2.2.2.2.1 hI.2.2.2.2.2.2.2.2.2.2.1 hI.2.2.2.2.2.2.2.2.2.2.2.1 hI.2.2.2.2.2.2.2.2.2.2.2.2.2.1 hI.2.2.2.2.2.2.2.2.2.2.2.2.2.2.1 hI.2.2.2.2.2.2.2.2.2.2.2.2.2.2.2.1 hI.2.2.2.2.2.2.2.2.2.2.2.2.2.2.2.2.1 hI.2.2.2.2.2.2.2.2.2.2.2.2.2.2.2.2.2.1 hI.2.2.2.2.2.2.2.2.2.2.2.2.2.2.2.2.2.2.1 hI.2.2.2.2.2.2.2.2.2.2.2.2.2.2.2.2.2.2.2.2.2.2.2.2.1 hI.2.2.2.2.2.2.2.2.2.2.2.2.2.2.2.2.2.2.2.2.2.2.2.2.2.1) ?_ ?_ ?_
  · rintro args s ⟨rfl, hsz, hP, hK, hD⟩
    exact ⟨rfl, hP, hK⟩
  · rintro args s o t ⟨rfl, hsz, hP, hK, hD⟩ ⟨⟨r, u, ho, hw, hB⟩, hF⟩
    subst hsz
    exact ⟨⟨r, r, ho, rfl, mi, fm, hI, congrArg (mt_deed mi fm) hw.2, gz_keep hP hF.2, hD.self⟩, hF.1, fun q h1 h2 => hF.2 q h1 (fun h => h.elim)⟩
  · exact fun q h => h.elim
noncomputable def mt_early (mi : Nat → Int32) (fm : Nat → Nat → Int32) (o : Int32) : Int32 × (Nat → Int32) × (Nat → Nat → Int32) := (o, mi, fm)
noncomputable def ms_early (mi : Nat → Int32) (fm : Nat → Nat → Int32) (p1 : Int32) : Int32 × (Nat → Int32) × (Nat → Nat → Int32) := mt_early mi fm (fX12_early mi p1)
set_option maxHeartbeats 4000000 in
set_option maxRecDepth 100000 in
theorem uX12_early (l : Launch) (dC : Nat → ClassId) (dI : Nat → Nat → Nat) (sz : Nat) (hm : Nat) (mi : Nat → Int32) (mr : Nat → Nat) (km : Nat → ClassId) (fm : Nat → Nat → Int32) (hI : MI mi fm) (p1 : Int32) : Met l yX12_early (.code yX12_early cX12_early 2 (some .int) :: wsGB) ({ frames := 1, cells := 0, slots := 0, locals := 25 }) (va_Pc [.ref hm, .int p1] (fun U => U.heap.size = sz ∧ va_P (dC, dI) vwCl (MW hm mi mr km fm) U.heap ∧ va_K (dC, dI) vwCl (MT km) U ∧ va_D (fun _ => True) (MW hm mi mr km fm))) (va_Qi (fun (r : Int32) (u : Int32) => r = u) (fun r t => MB dC dI hm mi mr km fm sz (fun v f => (r, v, f) = ms_early mi fm p1) t) (va_A (MW hm mi mr km fm) sz)) 0 0 (va_A (MW hm mi mr km fm) sz) := by
  refine gz_mono (sX12_early l dC dI hm mi mr km (fm 0) (fm 1) (fm 2) (fm 3) (fm 4) (fm 5) (fm 6) (fm 7) (fm 8) (fm 9) (fm 10) (fm 11) (fm 12) (fm 13) (fm 14) (fm 15) (fm 16) (fm 17) (fm 18) (fm 19) (fm 20) (fm 21) (fm 22) (fm 23) p1 hI.1 hI.2.1 hI.2.2.1 hI.2.2.2.1 hI.2.2.2.2.1 hI.2.2.2.2.2.1 hI.2.2.2.2.2.2.1 hI.2.2.2.2.2.2.2.1 hI.2.2.2.2.2.2.2.2.1 hI.2.2.2.2.2.2.2.2.2.1 hI.2.2.2.2.2.2.2.2.2.2.1 hI.2.2.2.2.2.2.2.2.2.2.2.1 hI.2.2.2.2.2.2.2.2.2.2.2.2.2.1 hI.2.2.2.2.2.2.2.2.2.2.2.2.2.2.1 hI.2.2.2.2.2.2.2.2.2.2.2.2.2.2.2.1 hI.2.2.2.2.2.2.2.2.2.2.2.2.2.2.2.2.1 hI.2.2.2.2.2.2.2.2.2.2.2.2.2.2.2.2.2.1 hI.2.2.2.2.2.2.2.2.2.2.2.2.2.2.2.2.2.2.1) ?_ ?_ ?_
  · rintro args s ⟨rfl, hsz, hP, hK, hD⟩
    exact ⟨rfl, hP, hK⟩
  · rintro args s o t ⟨rfl, hsz, hP, hK, hD⟩ ⟨⟨r, u, ho, hw, hB⟩, hF⟩
    subst hsz
    exact ⟨⟨r, r, ho, rfl, mi, fm, hI, congrArg (mt_early mi fm) hw.2, gz_keep hP hF.2, hD.self⟩, hF.1, fun q h1 h2 => hF.2 q h1 (fun h => h.elim)⟩
  · exact fun q h => h.elim
set_option maxHeartbeats 4000000 in
set_option maxRecDepth 100000 in
theorem uX12_judged (l : Launch) (dC : Nat → ClassId) (dI : Nat → Nat → Nat) (sz : Nat) (hm : Nat) (mi : Nat → Int32) (mr : Nat → Nat) (km : Nat → ClassId) (fm : Nat → Nat → Int32) (hI : MI mi fm) (p1 : Int32) (p2 : Int32) : Met l yX12_judged (.code yX12_judged cX12_judged 3 (some .int) :: wsGB) ({ frames := 5, cells := 0, slots := 0, locals := 119 }) (va_Pc [.ref hm, .int p1, .int p2] (fun U => U.heap.size = sz ∧ va_P (dC, dI) vwCl (MW hm mi mr km fm) U.heap ∧ va_K (dC, dI) vwCl (MT km) U ∧ va_D (fun _ => True) (MW hm mi mr km fm))) (va_Qi (fun (r : Int32) (u : Unit) => True) (fun _ t => MB dC dI hm mi mr km fm sz (fun v f => styM mi fm v f) t) (va_A (MW hm mi mr km fm) sz)) 0 0 (va_A (MW hm mi mr km fm) sz) := by
  refine gz_mono (sX12_judged l dC dI sz hm mi mr km (fm 14) (fm 15) (fm 16) (fm 17) (fm 18) (fm 19) (fm 4) (fm 7) (fm 2) (fm 5) (fm 6) (fm 3) (fm 0) (fm 1) (fm 8) (fm 9) (fm 10) (fm 11) (fm 12) (fm 13) (fm 20) (fm 21) (fm 22) (fm 23) p1 p2 hI.1 hI.2.1 hI.2.2.1 hI.2.2.2.1 hI.2.2.2.2.1 hI.2.2.2.2.2.1 hI.2.2.2.2.2.2.1 hI.2.2.2.2.2.2.2.1 hI.2.2.2.2.2.2.2.2.1 hI.2.2.2.2.2.2.2.2.2.1 hI.2.2.2.2.2.2.2.2.2.2.1 hI.2.2.2.2.2.2.2.2.2.2.2.1 hI.2.2.2.2.2.2.2.2.2.2.2.2.2.1 hI.2.2.2.2.2.2.2.2.2.2.2.2.2.2.1 hI.2.2.2.2.2.2.2.2.2.2.2.2.2.2.2.1 hI.2.2.2.2.2.2.2.2.2.2.2.2.2.2.2.2.1 hI.2.2.2.2.2.2.2.2.2.2.2.2.2.2.2.2.2.1 hI.2.2.2.2.2.2.2.2.2.2.2.2.2.2.2.2.2.2.1 hI.2.2.2.2.2.2.2.2.2.2.2.2.2.2.2.2.2.2.2.2.2.2.2.2.2.2.1 hI.2.2.2.2.2.2.2.2.2.2.2.2.2.2.2.2.2.2.2.2.1 hI.2.2.2.2.2.2.2.2.2.2.2.2.2.2.2.2.2.2.2.2.2.2.2.1 hI.2.2.2.2.2.2.2.2.2.2.2.2.2.2.2.2.2.2.2.1 hI.2.2.2.2.2.2.2.2.2.2.2.2.2.2.2.2.2.2.2.2.2.1 hI.2.2.2.2.2.2.2.2.2.2.2.2.2.2.2.2.2.2.2.2.2.2.1) ?_ ?_ ?_
  · rintro args s ⟨rfl, hsz, hP, hK, hD⟩
    exact ⟨rfl, hsz, hP, hK, hD⟩
  · rintro args s o t ⟨rfl, hsz, hP, hK, hD⟩ ⟨⟨r, u, ho, hw, hB⟩, hF⟩
    obtain ⟨w0_37, w0_41, z1, z2, z3, z4, z5, z6, hB⟩ := hB
    obtain ⟨gw0_37, gw0_41, gz6, hP1, hD1⟩ := hB
    subst hsz
    exact ⟨⟨r, (), ho, trivial, (upd (upd mi 37 w0_37) 41 w0_41), (updF (updF (updF (updF (updF (updF fm 14 z1) 15 z2) 16 z3) 17 z4) 18 z5) 19 z6), ⟨hI.1, hI.2.1, hI.2.2.1, hI.2.2.2.1, hI.2.2.2.2.1, hI.2.2.2.2.2.1, hI.2.2.2.2.2.2.1, hI.2.2.2.2.2.2.2.1, hI.2.2.2.2.2.2.2.2.1, hI.2.2.2.2.2.2.2.2.2.1, hI.2.2.2.2.2.2.2.2.2.2.1, hI.2.2.2.2.2.2.2.2.2.2.2.1, hI.2.2.2.2.2.2.2.2.2.2.2.2.1, hI.2.2.2.2.2.2.2.2.2.2.2.2.2.1, gw0_37, gw0_41, hI.2.2.2.2.2.2.2.2.2.2.2.2.2.2.2.2.1, hI.2.2.2.2.2.2.2.2.2.2.2.2.2.2.2.2.2.1, hI.2.2.2.2.2.2.2.2.2.2.2.2.2.2.2.2.2.2.1, hI.2.2.2.2.2.2.2.2.2.2.2.2.2.2.2.2.2.2.2.1, hI.2.2.2.2.2.2.2.2.2.2.2.2.2.2.2.2.2.2.2.2.1, hI.2.2.2.2.2.2.2.2.2.2.2.2.2.2.2.2.2.2.2.2.2.1, hI.2.2.2.2.2.2.2.2.2.2.2.2.2.2.2.2.2.2.2.2.2.2.1, hI.2.2.2.2.2.2.2.2.2.2.2.2.2.2.2.2.2.2.2.2.2.2.2.1, hI.2.2.2.2.2.2.2.2.2.2.2.2.2.2.2.2.2.2.2.2.2.2.2.2.1, hI.2.2.2.2.2.2.2.2.2.2.2.2.2.2.2.2.2.2.2.2.2.2.2.2.2.1, gz6, hI.2.2.2.2.2.2.2.2.2.2.2.2.2.2.2.2.2.2.2.2.2.2.2.2.2.2.2.1, hI.2.2.2.2.2.2.2.2.2.2.2.2.2.2.2.2.2.2.2.2.2.2.2.2.2.2.2.2⟩, ⟨rfl, rfl, rfl, rfl, rfl, rfl, rfl, rfl, rfl, rfl, rfl, rfl, rfl, rfl, rfl, rfl, rfl, rfl, rfl, rfl, rfl, rfl, rfl, rfl⟩, hP1, hD1⟩, hF⟩
  · exact fun q h => h
set_option maxHeartbeats 4000000 in
set_option maxRecDepth 100000 in
theorem uX12_taken (l : Launch) (dC : Nat → ClassId) (dI : Nat → Nat → Nat) (sz : Nat) (hm : Nat) (mi : Nat → Int32) (mr : Nat → Nat) (km : Nat → ClassId) (fm : Nat → Nat → Int32) (hI : MI mi fm) (p1 : Int32) : Met l yX12_taken (.code yX12_taken cX12_taken 2 (some .int) :: wsGB) ({ frames := 5, cells := 0, slots := 0, locals := 119 }) (va_Pc [.ref hm, .int p1] (fun U => U.heap.size = sz ∧ va_P (dC, dI) vwCl (MW hm mi mr km fm) U.heap ∧ va_K (dC, dI) vwCl (MT km) U ∧ va_D (fun _ => True) (MW hm mi mr km fm))) (va_Qi (fun (r : Int32) (u : Unit) => True) (fun _ t => MB dC dI hm mi mr km fm sz (fun v f => styM mi fm v f) t) (va_A (MW hm mi mr km fm) sz)) 0 0 (va_A (MW hm mi mr km fm) sz) := by
  refine gz_mono (sX12_taken l dC dI sz hm mi mr km (fm 14) (fm 15) (fm 16) (fm 17) (fm 18) (fm 19) (fm 4) (fm 7) (fm 2) (fm 5) (fm 6) (fm 3) (fm 0) (fm 1) (fm 8) (fm 9) (fm 10) (fm 11) (fm 12) (fm 13) (fm 20) (fm 21) (fm 22) (fm 23) p1 hI.1 hI.2.1 hI.2.2.1 hI.2.2.2.1 hI.2.2.2.2.1 hI.2.2.2.2.2.1 hI.2.2.2.2.2.2.1 hI.2.2.2.2.2.2.2.1 hI.2.2.2.2.2.2.2.2.1 hI.2.2.2.2.2.2.2.2.2.1 hI.2.2.2.2.2.2.2.2.2.2.1 hI.2.2.2.2.2.2.2.2.2.2.2.1 hI.2.2.2.2.2.2.2.2.2.2.2.2.2.1 hI.2.2.2.2.2.2.2.2.2.2.2.2.2.2.1 hI.2.2.2.2.2.2.2.2.2.2.2.2.2.2.2.1 hI.2.2.2.2.2.2.2.2.2.2.2.2.2.2.2.2.1 hI.2.2.2.2.2.2.2.2.2.2.2.2.2.2.2.2.2.1 hI.2.2.2.2.2.2.2.2.2.2.2.2.2.2.2.2.2.2.1 hI.2.2.2.2.2.2.2.2.2.2.2.2.2.2.2.2.2.2.2.2.2.2.2.2.2.2.1 hI.2.2.2.2.2.2.2.2.2.2.2.2.2.2.2.2.2.2.2.2.1 hI.2.2.2.2.2.2.2.2.2.2.2.2.2.2.2.2.2.2.2.2.2.2.2.1 hI.2.2.2.2.2.2.2.2.2.2.2.2.2.2.2.2.2.2.2.1 hI.2.2.2.2.2.2.2.2.2.2.2.2.2.2.2.2.2.2.2.2.2.1 hI.2.2.2.2.2.2.2.2.2.2.2.2.2.2.2.2.2.2.2.2.2.2.1) ?_ ?_ ?_
  · rintro args s ⟨rfl, hsz, hP, hK, hD⟩
    exact ⟨rfl, hsz, hP, hK, hD⟩
  · rintro args s o t ⟨rfl, hsz, hP, hK, hD⟩ ⟨⟨r, u, ho, hw, hB⟩, hF⟩
    obtain ⟨w0_37, w0_41, z1, z2, z3, z4, z5, z6, hB⟩ := hB
    obtain ⟨gw0_37, gw0_41, gz6, hP1, hD1⟩ := hB
    subst hsz
    exact ⟨⟨r, (), ho, trivial, (upd (upd mi 37 w0_37) 41 w0_41), (updF (updF (updF (updF (updF (updF fm 14 z1) 15 z2) 16 z3) 17 z4) 18 z5) 19 z6), ⟨hI.1, hI.2.1, hI.2.2.1, hI.2.2.2.1, hI.2.2.2.2.1, hI.2.2.2.2.2.1, hI.2.2.2.2.2.2.1, hI.2.2.2.2.2.2.2.1, hI.2.2.2.2.2.2.2.2.1, hI.2.2.2.2.2.2.2.2.2.1, hI.2.2.2.2.2.2.2.2.2.2.1, hI.2.2.2.2.2.2.2.2.2.2.2.1, hI.2.2.2.2.2.2.2.2.2.2.2.2.1, hI.2.2.2.2.2.2.2.2.2.2.2.2.2.1, gw0_37, gw0_41, hI.2.2.2.2.2.2.2.2.2.2.2.2.2.2.2.2.1, hI.2.2.2.2.2.2.2.2.2.2.2.2.2.2.2.2.2.1, hI.2.2.2.2.2.2.2.2.2.2.2.2.2.2.2.2.2.2.1, hI.2.2.2.2.2.2.2.2.2.2.2.2.2.2.2.2.2.2.2.1, hI.2.2.2.2.2.2.2.2.2.2.2.2.2.2.2.2.2.2.2.2.1, hI.2.2.2.2.2.2.2.2.2.2.2.2.2.2.2.2.2.2.2.2.2.1, hI.2.2.2.2.2.2.2.2.2.2.2.2.2.2.2.2.2.2.2.2.2.2.1, hI.2.2.2.2.2.2.2.2.2.2.2.2.2.2.2.2.2.2.2.2.2.2.2.1, hI.2.2.2.2.2.2.2.2.2.2.2.2.2.2.2.2.2.2.2.2.2.2.2.2.1, hI.2.2.2.2.2.2.2.2.2.2.2.2.2.2.2.2.2.2.2.2.2.2.2.2.2.1, gz6, hI.2.2.2.2.2.2.2.2.2.2.2.2.2.2.2.2.2.2.2.2.2.2.2.2.2.2.2.1, hI.2.2.2.2.2.2.2.2.2.2.2.2.2.2.2.2.2.2.2.2.2.2.2.2.2.2.2.2⟩, ⟨rfl, rfl, rfl, rfl, rfl, rfl, rfl, rfl, rfl, rfl, rfl, rfl, rfl, rfl, rfl, rfl, rfl, rfl, rfl, rfl, rfl, rfl, rfl, rfl⟩, hP1, hD1⟩, hF⟩
  · exact fun q h => h
set_option maxHeartbeats 4000000 in
set_option maxRecDepth 100000 in
theorem uX12_order (l : Launch) (dC : Nat → ClassId) (dI : Nat → Nat → Nat) (sz : Nat) (hm : Nat) (mi : Nat → Int32) (mr : Nat → Nat) (km : Nat → ClassId) (fm : Nat → Nat → Int32) (hI : MI mi fm) (p1 : Int32) (p2 : Int32) : Met l yX12_order (.code yX12_order cX12_order 3 (some .int) :: wsGB) ({ frames := 3, cells := 0, slots := 0, locals := 72 }) (va_Pc [.ref hm, .int p1, .int p2] (fun U => U.heap.size = sz ∧ va_P (dC, dI) vwCl (MW hm mi mr km fm) U.heap ∧ va_K (dC, dI) vwCl (MT km) U ∧ va_D (fun _ => True) (MW hm mi mr km fm))) (va_Qi (fun (r : Int32) (u : Unit) => True) (fun _ t => MB dC dI hm mi mr km fm sz (fun v f => styM mi fm v f) t) (va_A (MW hm mi mr km fm) sz)) 0 0 (va_A (MW hm mi mr km fm) sz) := by
  refine gz_mono (sX12_order l dC dI sz hm mi mr km (fm 14) (fm 15) (fm 16) (fm 17) (fm 18) (fm 19) (fm 4) (fm 7) (fm 2) (fm 5) (fm 6) (fm 3) (fm 0) (fm 1) (fm 8) (fm 9) (fm 10) (fm 11) (fm 12) (fm 13) (fm 20) (fm 21) (fm 22) (fm 23) p1 p2 hI.1 hI.2.1 hI.2.2.1 hI.2.2.2.1 hI.2.2.2.2.1 hI.2.2.2.2.2.1 hI.2.2.2.2.2.2.1 hI.2.2.2.2.2.2.2.1 hI.2.2.2.2.2.2.2.2.1 hI.2.2.2.2.2.2.2.2.2.1 hI.2.2.2.2.2.2.2.2.2.2.1 hI.2.2.2.2.2.2.2.2.2.2.2.1 hI.2.2.2.2.2.2.2.2.2.2.2.2.2.1 hI.2.2.2.2.2.2.2.2.2.2.2.2.2.2.1 hI.2.2.2.2.2.2.2.2.2.2.2.2.2.2.2.1 hI.2.2.2.2.2.2.2.2.2.2.2.2.2.2.2.2.1 hI.2.2.2.2.2.2.2.2.2.2.2.2.2.2.2.2.2.1 hI.2.2.2.2.2.2.2.2.2.2.2.2.2.2.2.2.2.2.1 hI.2.2.2.2.2.2.2.2.2.2.2.2.2.2.2.2.2.2.2.2.2.2.2.2.2.2.1 hI.2.2.2.2.2.2.2.2.2.2.2.2.2.2.2.2.2.2.2.2.1 hI.2.2.2.2.2.2.2.2.2.2.2.2.2.2.2.2.2.2.2.2.2.2.2.1 hI.2.2.2.2.2.2.2.2.2.2.2.2.2.2.2.2.2.2.2.1 hI.2.2.2.2.2.2.2.2.2.2.2.2.2.2.2.2.2.2.2.2.2.1 hI.2.2.2.2.2.2.2.2.2.2.2.2.2.2.2.2.2.2.2.2.2.2.1) ?_ ?_ ?_
  · rintro args s ⟨rfl, hsz, hP, hK, hD⟩
    exact ⟨rfl, hsz, hP, hK, hD⟩
  · rintro args s o t ⟨rfl, hsz, hP, hK, hD⟩ ⟨⟨r, u, ho, hw, hB⟩, hF⟩
    obtain ⟨w0_41, z5, z6, hB⟩ := hB
    obtain ⟨gw0_41, gz6, hP1, hD1⟩ := hB
    subst hsz
    exact ⟨⟨r, (), ho, trivial, (upd mi 41 w0_41), (updF (updF fm 18 z5) 19 z6), ⟨hI.1, hI.2.1, hI.2.2.1, hI.2.2.2.1, hI.2.2.2.2.1, hI.2.2.2.2.2.1, hI.2.2.2.2.2.2.1, hI.2.2.2.2.2.2.2.1, hI.2.2.2.2.2.2.2.2.1, hI.2.2.2.2.2.2.2.2.2.1, hI.2.2.2.2.2.2.2.2.2.2.1, hI.2.2.2.2.2.2.2.2.2.2.2.1, hI.2.2.2.2.2.2.2.2.2.2.2.2.1, hI.2.2.2.2.2.2.2.2.2.2.2.2.2.1, hI.2.2.2.2.2.2.2.2.2.2.2.2.2.2.1, gw0_41, hI.2.2.2.2.2.2.2.2.2.2.2.2.2.2.2.2.1, hI.2.2.2.2.2.2.2.2.2.2.2.2.2.2.2.2.2.1, hI.2.2.2.2.2.2.2.2.2.2.2.2.2.2.2.2.2.2.1, hI.2.2.2.2.2.2.2.2.2.2.2.2.2.2.2.2.2.2.2.1, hI.2.2.2.2.2.2.2.2.2.2.2.2.2.2.2.2.2.2.2.2.1, hI.2.2.2.2.2.2.2.2.2.2.2.2.2.2.2.2.2.2.2.2.2.1, hI.2.2.2.2.2.2.2.2.2.2.2.2.2.2.2.2.2.2.2.2.2.2.1, hI.2.2.2.2.2.2.2.2.2.2.2.2.2.2.2.2.2.2.2.2.2.2.2.1, hI.2.2.2.2.2.2.2.2.2.2.2.2.2.2.2.2.2.2.2.2.2.2.2.2.1, hI.2.2.2.2.2.2.2.2.2.2.2.2.2.2.2.2.2.2.2.2.2.2.2.2.2.1, gz6, hI.2.2.2.2.2.2.2.2.2.2.2.2.2.2.2.2.2.2.2.2.2.2.2.2.2.2.2.1, hI.2.2.2.2.2.2.2.2.2.2.2.2.2.2.2.2.2.2.2.2.2.2.2.2.2.2.2.2⟩, ⟨rfl, rfl, rfl, rfl, rfl, rfl, rfl, rfl, rfl, rfl, rfl, rfl, rfl, rfl, rfl, rfl, rfl, rfl, rfl, rfl, rfl, rfl, rfl, rfl⟩, hP1, hD1⟩, hF⟩
  · exact fun q h => h
theorem dX12_areBoth_0 : decode cX12_areBoth 0 = .ok (.aload_n 0, 1) := by decide +kernel
theorem dX12_areBoth_1 : decode cX12_areBoth 1 = .ok (.invokevirtual 350, 3) := by decide +kernel
theorem dX12_areBoth_4 : decode cX12_areBoth 4 = .ok (.aload_n 0, 1) := by decide +kernel
theorem dX12_areBoth_5 : decode cX12_areBoth 5 = .ok (.iload_n 1, 1) := by decide +kernel
theorem dX12_areBoth_6 : decode cX12_areBoth 6 = .ok (.invokevirtual 347, 3) := by decide +kernel
theorem dX12_areBoth_9 : decode cX12_areBoth 9 = .ok (.aload_n 0, 1) := by decide +kernel
theorem dX12_areBoth_10 : decode cX12_areBoth 10 = .ok (.iload_n 2, 1) := by decide +kernel
theorem dX12_areBoth_11 : decode cX12_areBoth 11 = .ok (.invokevirtual 347, 3) := by decide +kernel
theorem dX12_areBoth_14 : decode cX12_areBoth 14 = .ok (.aload_n 0, 1) := by decide +kernel
theorem dX12_areBoth_15 : decode cX12_areBoth 15 = .ok (.invokevirtual 332, 3) := by decide +kernel
theorem dX12_areBoth_18 : decode cX12_areBoth 18 = .ok (.ifCond .le 7, 3) := by decide +kernel
theorem dX12_areBoth_21 : decode cX12_areBoth 21 = .ok (.iconst 1, 1) := by decide +kernel
theorem dX12_areBoth_22 : decode cX12_areBoth 22 = .ok (.goto 4, 3) := by decide +kernel
theorem dX12_areBoth_25 : decode cX12_areBoth 25 = .ok (.iconst 0, 1) := by decide +kernel
theorem dX12_areBoth_26 : decode cX12_areBoth 26 = .ok (.ireturn, 1) := by decide +kernel
abbrev pb_sX12_areBoth (dC : Nat → ClassId) (dI : Nat → Nat → Nat) (A9 : Nat → Prop) (h0 : Nat) (mi : Nat → Int32) (mr : Nat → Nat) (km : Nat → ClassId) (fm_must : Nat → Int32) (fm_least : Nat → Int32) (fm_pin : Nat → Int32) (fm_ways : Nat → Int32) (fm_reportMonth : Nat → Int32) (fm_reportDay : Nat → Int32) (fm_reportKind : Nat → Int32) (fm_trust : Nat → Int32) (fm_letter : Nat → Int32) (fm_reportPlace : Nat → Int32) (fm_struck : Nat → Int32) (fm_reportKnown : Nat → Int32) (fm_deedMonth : Nat → Int32) (fm_deedDay : Nat → Int32) (fm_deedLong : Nat → Int32) (fm_deedKind : Nat → Int32) (fm_kept : Nat → Int32) (fm_tape : Nat → Int32) (fm_verdict : Nat → Int32) (fm_row : Nat → Int32) (fm_official : Nat → Int32) (fm_aside : Nat → Int32) (fm_worth : Nat → Int32) (fm_out : Nat → Int32) (p1 : Int32) (p2 : Int32) (w0_37 : Int32) (z1 : Nat → Int32) (z2 : Nat → Int32) (z3 : Nat → Int32) (z4 : Nat → Int32) (t : State) : Prop := gi w0_37 0 1 ∧ va_P (dC, dI) vwCl (MWn h0 mr km (mi 0) (mi 1) (mi 2) (mi 3) (mi 4) (mi 5) (mi 6) (mi 7) (mi 10) (mi 17) (mi 23) (mi 24) (mi 26) (mi 27) (mi 28) (mi 29) (mi 30) (mi 31) (mi 32) (mi 33) w0_37 (mi 41) (mi 42) (mi 43) (mi 44) (mi 45) (mi 47) (mi 48) (mi 49) (mi 50) (mi 51) (mi 54) (mi 56) fm_trust fm_letter fm_reportPlace fm_reportKind fm_struck fm_reportMonth fm_reportDay fm_reportKnown fm_deedMonth fm_deedDay fm_deedLong fm_deedKind fm_kept fm_tape z1 z2 z3 z4 fm_verdict fm_row fm_official fm_aside fm_worth fm_out) t.heap ∧ va_D A9 (MWn h0 mr km (mi 0) (mi 1) (mi 2) (mi 3) (mi 4) (mi 5) (mi 6) (mi 7) (mi 10) (mi 17) (mi 23) (mi 24) (mi 26) (mi 27) (mi 28) (mi 29) (mi 30) (mi 31) (mi 32) (mi 33) w0_37 (mi 41) (mi 42) (mi 43) (mi 44) (mi 45) (mi 47) (mi 48) (mi 49) (mi 50) (mi 51) (mi 54) (mi 56) fm_trust fm_letter fm_reportPlace fm_reportKind fm_struck fm_reportMonth fm_reportDay fm_reportKnown fm_deedMonth fm_deedDay fm_deedLong fm_deedKind fm_kept fm_tape z1 z2 z3 z4 fm_verdict fm_row fm_official fm_aside fm_worth fm_out)
set_option maxHeartbeats 4000000 in
set_option maxRecDepth 100000 in
theorem sX12_areBoth (l : Launch) (dC : Nat → ClassId) (dI : Nat → Nat → Nat) (sz : Nat) (h0 : Nat) (mi : Nat → Int32) (mr : Nat → Nat) (km : Nat → ClassId) (fm_must : Nat → Int32) (fm_least : Nat → Int32) (fm_pin : Nat → Int32) (fm_ways : Nat → Int32) (fm_reportMonth : Nat → Int32) (fm_reportDay : Nat → Int32) (fm_reportKind : Nat → Int32) (fm_trust : Nat → Int32) (fm_letter : Nat → Int32) (fm_reportPlace : Nat → Int32) (fm_struck : Nat → Int32) (fm_reportKnown : Nat → Int32) (fm_deedMonth : Nat → Int32) (fm_deedDay : Nat → Int32) (fm_deedLong : Nat → Int32) (fm_deedKind : Nat → Int32) (fm_kept : Nat → Int32) (fm_tape : Nat → Int32) (fm_verdict : Nat → Int32) (fm_row : Nat → Int32) (fm_official : Nat → Int32) (fm_aside : Nat → Int32) (fm_worth : Nat → Int32) (fm_out : Nat → Int32) (p1 : Int32) (p2 : Int32) (gmi_0 : gi (mi 0) 0 24) (gmi_1 : gi (mi 1) 0 5) (gmi_2 : gi (mi 2) 0 5) (gmi_4 : gi (mi 4) 0 1) (gmi_7 : gi (mi 7) 0 6) (gmi_10 : gi (mi 10) 0 24) (gmi_17 : gi (mi 17) 0 8) (gmi_23 : gi (mi 23) 0 300) (gmi_24 : gi (mi 24) 0 1) (gmi_26 : gi (mi 26) 0 1600) (gmi_29 : gi (mi 29) 0 1600) (gmi_30 : gi (mi 30) 0 1600) (gmi_33 : gi (mi 33) 0 1) (gmi_37 : gi (mi 37) 0 1) (gmi_41 : gi (mi 41) 0 24) (gmi_50 : gi (mi 50) 0 1) (gmi_51 : gi (mi 51) 0 1) (gmi_56 : gi (mi 56) 0 80) (gfm_reportMonth : ga fm_reportMonth 24 0 23) (gfm_reportDay : ga fm_reportDay 24 0 999) (gp1 : gi p1 0 23) (gp2 : gi p2 0 23) : Met l yX12_areBoth (.code yX12_areBoth cX12_areBoth 3 (some .boolean) :: wsGB) ({ frames := 3, cells := 0, slots := 0, locals := 73 }) (va_Pc [.ref h0, .int p1, .int p2] (fun U => U.heap.size = sz ∧ va_P (dC, dI) vwCl (MWn h0 mr km (mi 0) (mi 1) (mi 2) (mi 3) (mi 4) (mi 5) (mi 6) (mi 7) (mi 10) (mi 17) (mi 23) (mi 24) (mi 26) (mi 27) (mi 28) (mi 29) (mi 30) (mi 31) (mi 32) (mi 33) (mi 37) (mi 41) (mi 42) (mi 43) (mi 44) (mi 45) (mi 47) (mi 48) (mi 49) (mi 50) (mi 51) (mi 54) (mi 56) fm_trust fm_letter fm_reportPlace fm_reportKind fm_struck fm_reportMonth fm_reportDay fm_reportKnown fm_deedMonth fm_deedDay fm_deedLong fm_deedKind fm_kept fm_tape fm_must fm_least fm_pin fm_ways fm_verdict fm_row fm_official fm_aside fm_worth fm_out) U.heap ∧ va_K (dC, dI) vwCl (MT km) U ∧ va_D (fun _ => True) (MWn h0 mr km (mi 0) (mi 1) (mi 2) (mi 3) (mi 4) (mi 5) (mi 6) (mi 7) (mi 10) (mi 17) (mi 23) (mi 24) (mi 26) (mi 27) (mi 28) (mi 29) (mi 30) (mi 31) (mi 32) (mi 33) (mi 37) (mi 41) (mi 42) (mi 43) (mi 44) (mi 45) (mi 47) (mi 48) (mi 49) (mi 50) (mi 51) (mi 54) (mi 56) fm_trust fm_letter fm_reportPlace fm_reportKind fm_struck fm_reportMonth fm_reportDay fm_reportKnown fm_deedMonth fm_deedDay fm_deedLong fm_deedKind fm_kept fm_tape fm_must fm_least fm_pin fm_ways fm_verdict fm_row fm_official fm_aside fm_worth fm_out))) (va_Qi (fun (r : Int32) (u : Unit) => gi r 0 1) (fun _ t => ∃ (w0_37 : Int32) (z1 : Nat → Int32) (z2 : Nat → Int32) (z3 : Nat → Int32) (z4 : Nat → Int32), pb_sX12_areBoth dC dI (va_A (MWn h0 mr km (mi 0) (mi 1) (mi 2) (mi 3) (mi 4) (mi 5) (mi 6) (mi 7) (mi 10) (mi 17) (mi 23) (mi 24) (mi 26) (mi 27) (mi 28) (mi 29) (mi 30) (mi 31) (mi 32) (mi 33) (mi 37) (mi 41) (mi 42) (mi 43) (mi 44) (mi 45) (mi 47) (mi 48) (mi 49) (mi 50) (mi 51) (mi 54) (mi 56) fm_trust fm_letter fm_reportPlace fm_reportKind fm_struck fm_reportMonth fm_reportDay fm_reportKnown fm_deedMonth fm_deedDay fm_deedLong fm_deedKind fm_kept fm_tape fm_must fm_least fm_pin fm_ways fm_verdict fm_row fm_official fm_aside fm_worth fm_out) sz) h0 mi mr km fm_must fm_least fm_pin fm_ways fm_reportMonth fm_reportDay fm_reportKind fm_trust fm_letter fm_reportPlace fm_struck fm_reportKnown fm_deedMonth fm_deedDay fm_deedLong fm_deedKind fm_kept fm_tape fm_verdict fm_row fm_official fm_aside fm_worth fm_out p1 p2 w0_37 z1 z2 z3 z4 t) (va_A (MWn h0 mr km (mi 0) (mi 1) (mi 2) (mi 3) (mi 4) (mi 5) (mi 6) (mi 7) (mi 10) (mi 17) (mi 23) (mi 24) (mi 26) (mi 27) (mi 28) (mi 29) (mi 30) (mi 31) (mi 32) (mi 33) (mi 37) (mi 41) (mi 42) (mi 43) (mi 44) (mi 45) (mi 47) (mi 48) (mi 49) (mi 50) (mi 51) (mi 54) (mi 56) fm_trust fm_letter fm_reportPlace fm_reportKind fm_struck fm_reportMonth fm_reportDay fm_reportKnown fm_deedMonth fm_deedDay fm_deedLong fm_deedKind fm_kept fm_tape fm_must fm_least fm_pin fm_ways fm_verdict fm_row fm_official fm_aside fm_worth fm_out) sz)) 0 0 (va_A (MWn h0 mr km (mi 0) (mi 1) (mi 2) (mi 3) (mi 4) (mi 5) (mi 6) (mi 7) (mi 10) (mi 17) (mi 23) (mi 24) (mi 26) (mi 27) (mi 28) (mi 29) (mi 30) (mi 31) (mi 32) (mi 33) (mi 37) (mi 41) (mi 42) (mi 43) (mi 44) (mi 45) (mi 47) (mi 48) (mi 49) (mi 50) (mi 51) (mi 54) (mi 56) fm_trust fm_letter fm_reportPlace fm_reportKind fm_struck fm_reportMonth fm_reportDay fm_reportKnown fm_deedMonth fm_deedDay fm_deedLong fm_deedKind fm_kept fm_tape fm_must fm_least fm_pin fm_ways fm_verdict fm_row fm_official fm_aside fm_worth fm_out) sz) := by
  refine Met.ofW (cc := cX12_areBoth) (maxL := 3) (ret := (some .boolean)) (by decide) rfl ?_
  intro p e s m args below meth c s₁ B hml hv
  obtain ⟨rfl, hsz, hP, hK, hD0⟩ := hv
  have hx := B.exec
  have hb := B.bytes
  have hr := B.returns
  have hts := atoms_spec (ws := (.code yX12_areBoth cX12_areBoth 3 (some .boolean) :: wsGB)) B.pre
  have hown : s.vm.findClass RX12 = some m.cls := findClass_of_methodNamed B.named
  have hlocks := B.notSynchronized
  subst hsz
  have hD := hD0.self (sz := s.heap.size)
  generalize hAe : va_A (MWn h0 mr km (mi 0) (mi 1) (mi 2) (mi 3) (mi 4) (mi 5) (mi 6) (mi 7) (mi 10) (mi 17) (mi 23) (mi 24) (mi 26) (mi 27) (mi 28) (mi 29) (mi 30) (mi 31) (mi 32) (mi 33) (mi 37) (mi 41) (mi 42) (mi 43) (mi 44) (mi 45) (mi 47) (mi 48) (mi 49) (mi 50) (mi 51) (mi 54) (mi 56) fm_trust fm_letter fm_reportPlace fm_reportKind fm_struck fm_reportMonth fm_reportDay fm_reportKnown fm_deedMonth fm_deedDay fm_deedLong fm_deedKind fm_kept fm_tape fm_must fm_least fm_pin fm_ways fm_verdict fm_row fm_official fm_aside fm_worth fm_out) s.heap.size = A at hD ⊢
  have hA : ∀ q : Nat, s.heap.size ≤ q → A q := fun q h => by rw [← hAe]; exact Or.inr h
  have hS : va_S A s.heap s.heap [] := va_S.rf
  have hl := lv_entry ([.ref h0, .int p1, .int p2]) (n := 3) (Nat.le_of_ble_eq_true rfl)
  rw [lg_entry_eq]
  generalize (lg_sl ([.ref h0, .int p1, .int p2]) ++ List.replicate (3 - (lg_sl ([.ref h0, .int p1, .int p2])).length) Slot.unset).toArray = ls at hl ⊢
  have hl : lv_has ls 3 [(0, .ref h0), (1, .int p1), (2, .int p2)] := hl
  refine lv_aload_n hx hb dX12_areBoth_0 rfl (lv_at hl 0 rfl) ?_
  have hFc := gz_fullF hD hS hA
  refine va_callv (va_runV (As := []) (rest := []) ⟨hx, hb, hml, hown, hts⟩ (sX12_frees l dC dI s.heap.size h0 mi mr km fm_must fm_least fm_pin fm_trust fm_letter fm_reportPlace fm_reportKind fm_struck fm_reportMonth fm_reportDay fm_reportKnown fm_deedMonth fm_deedDay fm_deedLong fm_deedKind fm_kept fm_tape fm_ways fm_verdict fm_row fm_official fm_aside fm_worth fm_out gmi_0 gmi_1 gmi_2 gmi_4 gmi_7 gmi_10 gmi_17 gmi_23 gmi_24 gmi_26 gmi_29 gmi_30 gmi_33 gmi_37 gmi_41 gmi_50 gmi_51 gmi_56) (cwV 0 hts (gz_gV mGB_266 mGB_267 mGB_268 mGB_1 mGB_269 goodGB) rfl rfl rfl (by decide +kernel) ⟨Nat.le_of_ble_eq_true rfl, Nat.le_of_ble_eq_true rfl⟩) ⟨bl_W, mw_recv hK hP, fun U hU hW => ⟨rfl, by rw [hU], by rw [hU]; exact hP, va_K.moved hW.alike hK, hD.weaken (fun _ _ _ _ => trivial)⟩⟩ rfl rfl hl.1 rfl (lv_room (Nat.le_of_ble_eq_true rfl)) dX12_areBoth_1 ⟨Nat.zero_le _, Nat.zero_le _⟩) hS (fun q _ h => hFc q h) hFc (fun u t H1 locs ht hvm hw hB hz1 hk1 hS => ?_)
  obtain ⟨y_38, f_39, f_40, f_41, hB⟩ := hB
  obtain ⟨gy_38, hP1, hD1⟩ := hB
  rw [ht] at hP1
  have hD : va_D A (MWn h0 mr km (mi 0) (mi 1) (mi 2) (mi 3) (mi 4) (mi 5) (mi 6) (mi 7) (mi 10) (mi 17) (mi 23) (mi 24) (mi 26) (mi 27) (mi 28) (mi 29) (mi 30) (mi 31) (mi 32) (mi 33) y_38 (mi 41) (mi 42) (mi 43) (mi 44) (mi 45) (mi 47) (mi 48) (mi 49) (mi 50) (mi 51) (mi 54) (mi 56) fm_trust fm_letter fm_reportPlace fm_reportKind fm_struck fm_reportMonth fm_reportDay fm_reportKnown fm_deedMonth fm_deedDay fm_deedLong fm_deedKind fm_kept fm_tape f_39 f_40 f_41 fm_ways fm_verdict fm_row fm_official fm_aside fm_worth fm_out) := gz_fullD hFc hD1
  have hP : va_P (dC, dI) vwCl (MWn h0 mr km (mi 0) (mi 1) (mi 2) (mi 3) (mi 4) (mi 5) (mi 6) (mi 7) (mi 10) (mi 17) (mi 23) (mi 24) (mi 26) (mi 27) (mi 28) (mi 29) (mi 30) (mi 31) (mi 32) (mi 33) y_38 (mi 41) (mi 42) (mi 43) (mi 44) (mi 45) (mi 47) (mi 48) (mi 49) (mi 50) (mi 51) (mi 54) (mi 56) fm_trust fm_letter fm_reportPlace fm_reportKind fm_struck fm_reportMonth fm_reportDay fm_reportKnown fm_deedMonth fm_deedDay fm_deedLong fm_deedKind fm_kept fm_tape f_39 f_40 f_41 fm_ways fm_verdict fm_row fm_official fm_aside fm_worth fm_out) H1 := hP1
  generalize H1 = H at hP hS ⊢
  refine lv_aload_n hx hb dX12_areBoth_4 rfl (lv_at hl 0 rfl) ?_
  refine lv_iload_n hx hb dX12_areBoth_5 rfl (lv_at hl 1 rfl) ?_
  have hFc := gz_fullF hD hS hA
  refine va_callv (va_runV (As := [.int p1]) (rest := []) ⟨hx, hb, hml, hown, hts⟩ (sX12_holds l dC dI H.size h0 (upd mi 37 y_38) mr km fm_reportMonth fm_reportDay fm_reportKind f_39 f_40 fm_trust fm_letter fm_reportPlace fm_struck fm_reportKnown fm_deedMonth fm_deedDay fm_deedLong fm_deedKind fm_kept fm_tape f_41 fm_ways fm_verdict fm_row fm_official fm_aside fm_worth fm_out p1 gmi_0 gmi_1 gmi_2 gmi_4 gmi_7 gmi_10 gmi_17 gmi_23 gmi_24 gmi_26 gmi_29 gmi_30 gmi_33 gy_38 gmi_41 gmi_50 gmi_51 gmi_56 gfm_reportMonth gfm_reportDay gp1) (cwV 1 hts (gz_gV mGB_295 mGB_296 mGB_297 mGB_1 mGB_298 goodGB) rfl rfl rfl (by decide +kernel) ⟨Nat.le_of_ble_eq_true rfl, Nat.le_of_ble_eq_true rfl⟩) ⟨bl_W, mw_recv hK hP, fun U hU hW => ⟨rfl, by rw [hU], by rw [hU]; exact hP, va_K.moved hW.alike hK, hD.weaken (fun _ _ _ _ => trivial)⟩⟩ rfl rfl hl.1 rfl (lv_room (Nat.le_of_ble_eq_true rfl)) dX12_areBoth_6 ⟨Nat.zero_le _, Nat.zero_le _⟩) hS (fun q _ h => hFc q h) hFc (fun u t H1 locs ht hvm hw hB hz1 hk1 hS => ?_)
  obtain ⟨y_43, f_44, f_45, hB⟩ := hB
  obtain ⟨gy_43, hP1, hD1⟩ := hB
  rw [ht] at hP1
  have hD : va_D A (MWn h0 mr km (mi 0) (mi 1) (mi 2) (mi 3) (mi 4) (mi 5) (mi 6) (mi 7) (mi 10) (mi 17) (mi 23) (mi 24) (mi 26) (mi 27) (mi 28) (mi 29) (mi 30) (mi 31) (mi 32) (mi 33) y_43 (mi 41) (mi 42) (mi 43) (mi 44) (mi 45) (mi 47) (mi 48) (mi 49) (mi 50) (mi 51) (mi 54) (mi 56) fm_trust fm_letter fm_reportPlace fm_reportKind fm_struck fm_reportMonth fm_reportDay fm_reportKnown fm_deedMonth fm_deedDay fm_deedLong fm_deedKind fm_kept fm_tape f_44 f_45 f_41 fm_ways fm_verdict fm_row fm_official fm_aside fm_worth fm_out) := gz_fullD hFc hD1
  have hP : va_P (dC, dI) vwCl (MWn h0 mr km (mi 0) (mi 1) (mi 2) (mi 3) (mi 4) (mi 5) (mi 6) (mi 7) (mi 10) (mi 17) (mi 23) (mi 24) (mi 26) (mi 27) (mi 28) (mi 29) (mi 30) (mi 31) (mi 32) (mi 33) y_43 (mi 41) (mi 42) (mi 43) (mi 44) (mi 45) (mi 47) (mi 48) (mi 49) (mi 50) (mi 51) (mi 54) (mi 56) fm_trust fm_letter fm_reportPlace fm_reportKind fm_struck fm_reportMonth fm_reportDay fm_reportKnown fm_deedMonth fm_deedDay fm_deedLong fm_deedKind fm_kept fm_tape f_44 f_45 f_41 fm_ways fm_verdict fm_row fm_official fm_aside fm_worth fm_out) H1 := hP1
  generalize H1 = H at hP hS ⊢
  refine lv_aload_n hx hb dX12_areBoth_9 rfl (lv_at hl 0 rfl) ?_
  refine lv_iload_n hx hb dX12_areBoth_10 rfl (lv_at hl 2 rfl) ?_
  have hFc := gz_fullF hD hS hA
  refine va_callv (va_runV (As := [.int p2]) (rest := []) ⟨hx, hb, hml, hown, hts⟩ (sX12_holds l dC dI H.size h0 (upd mi 37 y_43) mr km fm_reportMonth fm_reportDay fm_reportKind f_44 f_45 fm_trust fm_letter fm_reportPlace fm_struck fm_reportKnown fm_deedMonth fm_deedDay fm_deedLong fm_deedKind fm_kept fm_tape f_41 fm_ways fm_verdict fm_row fm_official fm_aside fm_worth fm_out p2 gmi_0 gmi_1 gmi_2 gmi_4 gmi_7 gmi_10 gmi_17 gmi_23 gmi_24 gmi_26 gmi_29 gmi_30 gmi_33 gy_43 gmi_41 gmi_50 gmi_51 gmi_56 gfm_reportMonth gfm_reportDay gp2) (cwV 1 hts (gz_gV mGB_295 mGB_296 mGB_297 mGB_1 mGB_298 goodGB) rfl rfl rfl (by decide +kernel) ⟨Nat.le_of_ble_eq_true rfl, Nat.le_of_ble_eq_true rfl⟩) ⟨bl_W, mw_recv hK hP, fun U hU hW => ⟨rfl, by rw [hU], by rw [hU]; exact hP, va_K.moved hW.alike hK, hD.weaken (fun _ _ _ _ => trivial)⟩⟩ rfl rfl hl.1 rfl (lv_room (Nat.le_of_ble_eq_true rfl)) dX12_areBoth_11 ⟨Nat.zero_le _, Nat.zero_le _⟩) hS (fun q _ h => hFc q h) hFc (fun u t H1 locs ht hvm hw hB hz1 hk1 hS => ?_)
  obtain ⟨y_47, f_48, f_49, hB⟩ := hB
  obtain ⟨gy_47, hP1, hD1⟩ := hB
  rw [ht] at hP1
  have hD : va_D A (MWn h0 mr km (mi 0) (mi 1) (mi 2) (mi 3) (mi 4) (mi 5) (mi 6) (mi 7) (mi 10) (mi 17) (mi 23) (mi 24) (mi 26) (mi 27) (mi 28) (mi 29) (mi 30) (mi 31) (mi 32) (mi 33) y_47 (mi 41) (mi 42) (mi 43) (mi 44) (mi 45) (mi 47) (mi 48) (mi 49) (mi 50) (mi 51) (mi 54) (mi 56) fm_trust fm_letter fm_reportPlace fm_reportKind fm_struck fm_reportMonth fm_reportDay fm_reportKnown fm_deedMonth fm_deedDay fm_deedLong fm_deedKind fm_kept fm_tape f_48 f_49 f_41 fm_ways fm_verdict fm_row fm_official fm_aside fm_worth fm_out) := gz_fullD hFc hD1
  have hP : va_P (dC, dI) vwCl (MWn h0 mr km (mi 0) (mi 1) (mi 2) (mi 3) (mi 4) (mi 5) (mi 6) (mi 7) (mi 10) (mi 17) (mi 23) (mi 24) (mi 26) (mi 27) (mi 28) (mi 29) (mi 30) (mi 31) (mi 32) (mi 33) y_47 (mi 41) (mi 42) (mi 43) (mi 44) (mi 45) (mi 47) (mi 48) (mi 49) (mi 50) (mi 51) (mi 54) (mi 56) fm_trust fm_letter fm_reportPlace fm_reportKind fm_struck fm_reportMonth fm_reportDay fm_reportKnown fm_deedMonth fm_deedDay fm_deedLong fm_deedKind fm_kept fm_tape f_48 f_49 f_41 fm_ways fm_verdict fm_row fm_official fm_aside fm_worth fm_out) H1 := hP1
  generalize H1 = H at hP hS ⊢
  refine lv_aload_n hx hb dX12_areBoth_14 rfl (lv_at hl 0 rfl) ?_
  have hFc := gz_fullF hD hS hA
  refine va_calli (va_runV (As := []) (rest := []) ⟨hx, hb, hml, hown, hts⟩ (sX12_counts l dC dI H.size h0 (upd mi 37 y_47) mr km f_48 f_49 f_41 fm_ways fm_trust fm_letter fm_reportPlace fm_reportKind fm_struck fm_reportMonth fm_reportDay fm_reportKnown fm_deedMonth fm_deedDay fm_deedLong fm_deedKind fm_kept fm_tape fm_verdict fm_row fm_official fm_aside fm_worth fm_out gmi_0 gmi_1 gmi_2 gmi_4 gmi_7 gmi_10 gmi_17 gmi_23 gmi_24 gmi_26 gmi_29 gmi_30 gmi_33 gy_47 gmi_41 gmi_50 gmi_51 gmi_56) (cwV 0 hts (gz_gV mGB_299 mGB_300 mGB_301 mGB_1 mGB_302 goodGB) rfl rfl rfl (by decide +kernel) ⟨Nat.le_of_ble_eq_true rfl, Nat.le_of_ble_eq_true rfl⟩) ⟨bl_W, mw_recv hK hP, fun U hU hW => ⟨rfl, by rw [hU], by rw [hU]; exact hP, va_K.moved hW.alike hK, hD.weaken (fun _ _ _ _ => trivial)⟩⟩ rfl rfl hl.1 rfl (lv_room (Nat.le_of_ble_eq_true rfl)) dX12_areBoth_15 ⟨Nat.zero_le _, Nat.zero_le _⟩) hS (fun q _ h => hFc q h) hFc (fun r_50 u t H1 locs ht hvm hw hB hz1 hk1 hS => ?_)
  obtain ⟨f_51, hB⟩ := hB
  obtain ⟨hP1, hD1⟩ := hB
  rw [ht] at hP1
  have hD : va_D A (MWn h0 mr km (mi 0) (mi 1) (mi 2) (mi 3) (mi 4) (mi 5) (mi 6) (mi 7) (mi 10) (mi 17) (mi 23) (mi 24) (mi 26) (mi 27) (mi 28) (mi 29) (mi 30) (mi 31) (mi 32) (mi 33) y_47 (mi 41) (mi 42) (mi 43) (mi 44) (mi 45) (mi 47) (mi 48) (mi 49) (mi 50) (mi 51) (mi 54) (mi 56) fm_trust fm_letter fm_reportPlace fm_reportKind fm_struck fm_reportMonth fm_reportDay fm_reportKnown fm_deedMonth fm_deedDay fm_deedLong fm_deedKind fm_kept fm_tape f_48 f_49 f_41 f_51 fm_verdict fm_row fm_official fm_aside fm_worth fm_out) := gz_fullD hFc hD1
  have hP : va_P (dC, dI) vwCl (MWn h0 mr km (mi 0) (mi 1) (mi 2) (mi 3) (mi 4) (mi 5) (mi 6) (mi 7) (mi 10) (mi 17) (mi 23) (mi 24) (mi 26) (mi 27) (mi 28) (mi 29) (mi 30) (mi 31) (mi 32) (mi 33) y_47 (mi 41) (mi 42) (mi 43) (mi 44) (mi 45) (mi 47) (mi 48) (mi 49) (mi 50) (mi 51) (mi 54) (mi 56) fm_trust fm_letter fm_reportPlace fm_reportKind fm_struck fm_reportMonth fm_reportDay fm_reportKnown fm_deedMonth fm_deedDay fm_deedLong fm_deedKind fm_kept fm_tape f_48 f_49 f_41 f_51 fm_verdict fm_row fm_official fm_aside fm_worth fm_out) H1 := hP1
  generalize H1 = H at hP hS ⊢
  refine lv_if_le (tgt := 25) hx hb dX12_areBoth_18 (by decide) (fun c_52 => ?_) (fun c_52 => ?_)
  · have g_53 : gi r_50 (-2147483648) 0 := gi_le_l c_52 (gi_any r_50) (gi_c 0 0 (by decide))
    refine lv_iconst (v := 0) hx hb dX12_areBoth_25 (by decide) ?_
    exact W.zret (v := 0) hx hb hr (by decide) (fun t ht hW => ⟨⟨0, (), rfl, (gi_w (gi_c 0 0 (by decide)) (by decide)), y_47, f_48, f_49, f_41, f_51, gy_47, by rw [ht]; exact hP, hD⟩, hS.F ht⟩) hS.2.2 dX12_areBoth_26
  · have g_54 : gi r_50 1 2147483647 := gi_lt_r (Int32.not_le.mp c_52) (gi_c 0 0 (by decide)) (gi_any r_50) (by decide)
    refine lv_iconst (v := 1) hx hb dX12_areBoth_21 (by decide) ?_
    refine lv_goto (tgt := 26) hx hb dX12_areBoth_22 (by decide) ?_
    exact W.zret (v := 1) hx hb hr (by decide) (fun t ht hW => ⟨⟨1, (), rfl, (gi_w (gi_c 1 1 (by decide)) (by decide)), y_47, f_48, f_49, f_41, f_51, gy_47, by rw [ht]; exact hP, hD⟩, hS.F ht⟩) hS.2.2 dX12_areBoth_26
theorem dX12_against_0 : decode cX12_against 0 = .ok (.aload_n 0, 1) := by decide +kernel
theorem dX12_against_1 : decode cX12_against 1 = .ok (.iload_n 1, 1) := by decide +kernel
theorem dX12_against_2 : decode cX12_against 2 = .ok (.invokevirtual 359, 3) := by decide +kernel
theorem dX12_against_5 : decode cX12_against 5 = .ok (.ifCond .eq 11, 3) := by decide +kernel
theorem dX12_against_8 : decode cX12_against 8 = .ok (.aload_n 0, 1) := by decide +kernel
theorem dX12_against_9 : decode cX12_against 9 = .ok (.iload_n 2, 1) := by decide +kernel
theorem dX12_against_10 : decode cX12_against 10 = .ok (.invokevirtual 303, 3) := by decide +kernel
theorem dX12_against_13 : decode cX12_against 13 = .ok (.ifCond .ne 6, 3) := by decide +kernel
theorem dX12_against_16 : decode cX12_against 16 = .ok (.bipush (-2), 2) := by decide +kernel
theorem dX12_against_18 : decode cX12_against 18 = .ok (.ireturn, 1) := by decide +kernel
theorem dX12_against_19 : decode cX12_against 19 = .ok (.aload_n 0, 1) := by decide +kernel
theorem dX12_against_20 : decode cX12_against 20 = .ok (.iload_n 1, 1) := by decide +kernel
theorem dX12_against_21 : decode cX12_against 21 = .ok (.invokevirtual 362, 3) := by decide +kernel
theorem dX12_against_24 : decode cX12_against 24 = .ok (.aload_n 0, 1) := by decide +kernel
theorem dX12_against_25 : decode cX12_against 25 = .ok (.getfield 69, 3) := by decide +kernel
theorem dX12_against_28 : decode cX12_against 28 = .ok (.iload_n 2, 1) := by decide +kernel
theorem dX12_against_29 : decode cX12_against 29 = .ok (.iaload, 1) := by decide +kernel
theorem dX12_against_30 : decode cX12_against 30 = .ok (.iconst 2, 1) := by decide +kernel
theorem dX12_against_31 : decode cX12_against 31 = .ok (.if_icmp .eq 5, 3) := by decide +kernel
theorem dX12_against_34 : decode cX12_against 34 = .ok (.iconst 0, 1) := by decide +kernel
theorem dX12_against_35 : decode cX12_against 35 = .ok (.ireturn, 1) := by decide +kernel
theorem dX12_against_36 : decode cX12_against 36 = .ok (.iconst 0, 1) := by decide +kernel
theorem dX12_against_37 : decode cX12_against 37 = .ok (.istore_n 3, 1) := by decide +kernel
theorem dX12_against_38 : decode cX12_against 38 = .ok (.iconst 0, 1) := by decide +kernel
theorem dX12_against_39 : decode cX12_against 39 = .ok (.istore 4, 2) := by decide +kernel
theorem dX12_against_41 : decode cX12_against 41 = .ok (.iload 4, 2) := by decide +kernel
theorem dX12_against_43 : decode cX12_against 43 = .ok (.aload_n 0, 1) := by decide +kernel
theorem dX12_against_44 : decode cX12_against 44 = .ok (.getfield 141, 3) := by decide +kernel
theorem dX12_against_47 : decode cX12_against 47 = .ok (.if_icmp .ge 40, 3) := by decide +kernel
theorem dX12_against_50 : decode cX12_against 50 = .ok (.iload_n 3, 1) := by decide +kernel
theorem dX12_against_51 : decode cX12_against 51 = .ok (.aload_n 0, 1) := by decide +kernel
theorem dX12_against_52 : decode cX12_against 52 = .ok (.getfield 69, 3) := by decide +kernel
theorem dX12_against_55 : decode cX12_against 55 = .ok (.iload 4, 2) := by decide +kernel
theorem dX12_against_57 : decode cX12_against 57 = .ok (.iaload, 1) := by decide +kernel
theorem dX12_against_58 : decode cX12_against 58 = .ok (.ifCond .ne 20, 3) := by decide +kernel
theorem dX12_against_61 : decode cX12_against 61 = .ok (.aload_n 0, 1) := by decide +kernel
theorem dX12_against_62 : decode cX12_against 62 = .ok (.iload 4, 2) := by decide +kernel
theorem dX12_against_64 : decode cX12_against 64 = .ok (.iload_n 2, 1) := by decide +kernel
theorem dX12_against_65 : decode cX12_against 65 = .ok (.invokevirtual 373, 3) := by decide +kernel
theorem dX12_against_68 : decode cX12_against 68 = .ok (.ifCond .ne 10, 3) := by decide +kernel
theorem dX12_against_71 : decode cX12_against 71 = .ok (.iconst 1, 1) := by decide +kernel
theorem dX12_against_72 : decode cX12_against 72 = .ok (.iload 4, 2) := by decide +kernel
theorem dX12_against_74 : decode cX12_against 74 = .ok (.ishl, 1) := by decide +kernel
theorem dX12_against_75 : decode cX12_against 75 = .ok (.goto 4, 3) := by decide +kernel
theorem dX12_against_78 : decode cX12_against 78 = .ok (.iconst 0, 1) := by decide +kernel
theorem dX12_against_79 : decode cX12_against 79 = .ok (.ior, 1) := by decide +kernel
theorem dX12_against_80 : decode cX12_against 80 = .ok (.istore_n 3, 1) := by decide +kernel
theorem dX12_against_81 : decode cX12_against 81 = .ok (.iinc 4 1, 3) := by decide +kernel
theorem dX12_against_84 : decode cX12_against 84 = .ok (.goto (-43), 3) := by decide +kernel
theorem dX12_against_87 : decode cX12_against 87 = .ok (.iload_n 3, 1) := by decide +kernel
theorem dX12_against_88 : decode cX12_against 88 = .ok (.ireturn, 1) := by decide +kernel
set_option maxHeartbeats 4000000 in
set_option maxRecDepth 100000 in
theorem lp_sX12_against {p : Program} {l : Launch} {e : Env} {R : Room} {s : State} {m : MethodId} {args : Array Value} {below : List Frame} {meth : Method} {c : Code} {Q : State → Prop} {A : Nat → Prop} {cells slots : Nat} {dC : Nat → ClassId} {dI : Nat → Nat → Nat} (h0 : Nat) (mi : Nat → Int32) (mr : Nat → Nat) (km : Nat → ClassId) (fm_must : Nat → Int32) (fm_least : Nat → Int32) (fm_pin : Nat → Int32) (fm_ways : Nat → Int32) (fm_verdict : Nat → Int32) (fm_row : Nat → Int32) (fm_struck : Nat → Int32) (fm_reportKnown : Nat → Int32) (fm_reportPlace : Nat → Int32) (fm_reportMonth : Nat → Int32) (fm_reportDay : Nat → Int32) (fm_reportKind : Nat → Int32) (fm_trust : Nat → Int32) (fm_letter : Nat → Int32) (fm_deedMonth : Nat → Int32) (fm_deedDay : Nat → Int32) (fm_deedLong : Nat → Int32) (fm_deedKind : Nat → Int32) (fm_kept : Nat → Int32) (fm_tape : Nat → Int32) (fm_official : Nat → Int32) (fm_aside : Nat → Int32) (fm_worth : Nat → Int32) (fm_out : Nat → Int32) (p1 : Int32) (p2 : Int32) (gmi_0 : gi (mi 0) 0 24) (gmi_1 : gi (mi 1) 0 5) (gmi_2 : gi (mi 2) 0 5) (gmi_4 : gi (mi 4) 0 1) (gmi_7 : gi (mi 7) 0 6) (gmi_10 : gi (mi 10) 0 24) (gmi_17 : gi (mi 17) 0 8) (gmi_23 : gi (mi 23) 0 300) (gmi_24 : gi (mi 24) 0 1) (gmi_26 : gi (mi 26) 0 1600) (gmi_29 : gi (mi 29) 0 1600) (gmi_30 : gi (mi 30) 0 1600) (gmi_33 : gi (mi 33) 0 1) (gmi_37 : gi (mi 37) 0 1) (gmi_41 : gi (mi 41) 0 24) (gmi_50 : gi (mi 50) 0 1) (gmi_51 : gi (mi 51) 0 1) (gmi_56 : gi (mi 56) 0 80) (gfm_row : ga fm_row 24 0 23) (gfm_struck : ga fm_struck 24 0 1) (gfm_reportKnown : ga fm_reportKnown 24 0 999) (gfm_reportPlace : ga fm_reportPlace 24 0 5) (gfm_reportMonth : ga fm_reportMonth 24 0 23) (gfm_reportDay : ga fm_reportDay 24 0 999) (hx : p.tables.exec = Jvm.exec) (hb : c.code = cX12_against) (hml : c.maxLocals = 5) (hown : s.vm.findClass RX12 = some m.cls) (hts : ∀ w ∈ ((.code yX12_against cX12_against 5 (some .int) :: wsGB) : List Cond), w.before args s = true) (hK : va_K (dC, dI) vwCl (MT km) s) (hA : ∀ q : Nat, s.heap.size ≤ q → A q) (hRf : 5 ≤ R.frames) (hRl : 119 ≤ R.locals) (hRc : cells ≤ R.cells) (hRs : slots ≤ R.slots) (kr18 : ∀ (v : Int32) (w0_37 : Int32) (w0_41 : Int32) (z1 : Nat → Int32) (z2 : Nat → Int32) (z3 : Nat → Int32) (z4 : Nat → Int32) (z5 : Nat → Int32) (z6 : Nat → Int32) (H : Heap) (locs : List Loc) (ls : Array Slot), gi v (-2) (-2) → gi w0_37 0 1 → gi w0_41 0 24 → ga z6 24 0 23 → va_P (dC, dI) vwCl (MWn h0 mr km (mi 0) (mi 1) (mi 2) (mi 3) (mi 4) (mi 5) (mi 6) (mi 7) (mi 10) (mi 17) (mi 23) (mi 24) (mi 26) (mi 27) (mi 28) (mi 29) (mi 30) (mi 31) (mi 32) (mi 33) w0_37 w0_41 (mi 42) (mi 43) (mi 44) (mi 45) (mi 47) (mi 48) (mi 49) (mi 50) (mi 51) (mi 54) (mi 56) fm_trust fm_letter fm_reportPlace fm_reportKind fm_struck fm_reportMonth fm_reportDay fm_reportKnown fm_deedMonth fm_deedDay fm_deedLong fm_deedKind fm_kept fm_tape z1 z2 z3 z4 z5 z6 fm_official fm_aside fm_worth fm_out) H → va_D A (MWn h0 mr km (mi 0) (mi 1) (mi 2) (mi 3) (mi 4) (mi 5) (mi 6) (mi 7) (mi 10) (mi 17) (mi 23) (mi 24) (mi 26) (mi 27) (mi 28) (mi 29) (mi 30) (mi 31) (mi 32) (mi 33) w0_37 w0_41 (mi 42) (mi 43) (mi 44) (mi 45) (mi 47) (mi 48) (mi 49) (mi 50) (mi 51) (mi 54) (mi 56) fm_trust fm_letter fm_reportPlace fm_reportKind fm_struck fm_reportMonth fm_reportDay fm_reportKnown fm_deedMonth fm_deedDay fm_deedLong fm_deedKind fm_kept fm_tape z1 z2 z3 z4 z5 z6 fm_official fm_aside fm_worth fm_out) → va_S A s.heap H locs → lv_has ls 5 [] → W p l e R s m args below meth c H locs cells slots Q (F0 m 18 ls [.int v])) (kr35 : ∀ (v : Int32) (w0_37 : Int32) (w0_41 : Int32) (z1 : Nat → Int32) (z2 : Nat → Int32) (z3 : Nat → Int32) (z4 : Nat → Int32) (z5 : Nat → Int32) (z6 : Nat → Int32) (H : Heap) (locs : List Loc) (ls : Array Slot), gi v 0 0 → gi w0_37 0 1 → gi w0_41 0 24 → ga z6 24 0 23 → va_P (dC, dI) vwCl (MWn h0 mr km (mi 0) (mi 1) (mi 2) (mi 3) (mi 4) (mi 5) (mi 6) (mi 7) (mi 10) (mi 17) (mi 23) (mi 24) (mi 26) (mi 27) (mi 28) (mi 29) (mi 30) (mi 31) (mi 32) (mi 33) w0_37 w0_41 (mi 42) (mi 43) (mi 44) (mi 45) (mi 47) (mi 48) (mi 49) (mi 50) (mi 51) (mi 54) (mi 56) fm_trust fm_letter fm_reportPlace fm_reportKind fm_struck fm_reportMonth fm_reportDay fm_reportKnown fm_deedMonth fm_deedDay fm_deedLong fm_deedKind fm_kept fm_tape z1 z2 z3 z4 z5 z6 fm_official fm_aside fm_worth fm_out) H → va_D A (MWn h0 mr km (mi 0) (mi 1) (mi 2) (mi 3) (mi 4) (mi 5) (mi 6) (mi 7) (mi 10) (mi 17) (mi 23) (mi 24) (mi 26) (mi 27) (mi 28) (mi 29) (mi 30) (mi 31) (mi 32) (mi 33) w0_37 w0_41 (mi 42) (mi 43) (mi 44) (mi 45) (mi 47) (mi 48) (mi 49) (mi 50) (mi 51) (mi 54) (mi 56) fm_trust fm_letter fm_reportPlace fm_reportKind fm_struck fm_reportMonth fm_reportDay fm_reportKnown fm_deedMonth fm_deedDay fm_deedLong fm_deedKind fm_kept fm_tape z1 z2 z3 z4 z5 z6 fm_official fm_aside fm_worth fm_out) → va_S A s.heap H locs → lv_has ls 5 [] → W p l e R s m args below meth c H locs cells slots Q (F0 m 35 ls [.int v])) (kr88 : ∀ (v : Int32) (w0_37 : Int32) (w0_41 : Int32) (z1 : Nat → Int32) (z2 : Nat → Int32) (z3 : Nat → Int32) (z4 : Nat → Int32) (z5 : Nat → Int32) (z6 : Nat → Int32) (H : Heap) (locs : List Loc) (ls : Array Slot), gi w0_37 0 1 → gi w0_41 0 24 → ga z6 24 0 23 → va_P (dC, dI) vwCl (MWn h0 mr km (mi 0) (mi 1) (mi 2) (mi 3) (mi 4) (mi 5) (mi 6) (mi 7) (mi 10) (mi 17) (mi 23) (mi 24) (mi 26) (mi 27) (mi 28) (mi 29) (mi 30) (mi 31) (mi 32) (mi 33) w0_37 w0_41 (mi 42) (mi 43) (mi 44) (mi 45) (mi 47) (mi 48) (mi 49) (mi 50) (mi 51) (mi 54) (mi 56) fm_trust fm_letter fm_reportPlace fm_reportKind fm_struck fm_reportMonth fm_reportDay fm_reportKnown fm_deedMonth fm_deedDay fm_deedLong fm_deedKind fm_kept fm_tape z1 z2 z3 z4 z5 z6 fm_official fm_aside fm_worth fm_out) H → va_D A (MWn h0 mr km (mi 0) (mi 1) (mi 2) (mi 3) (mi 4) (mi 5) (mi 6) (mi 7) (mi 10) (mi 17) (mi 23) (mi 24) (mi 26) (mi 27) (mi 28) (mi 29) (mi 30) (mi 31) (mi 32) (mi 33) w0_37 w0_41 (mi 42) (mi 43) (mi 44) (mi 45) (mi 47) (mi 48) (mi 49) (mi 50) (mi 51) (mi 54) (mi 56) fm_trust fm_letter fm_reportPlace fm_reportKind fm_struck fm_reportMonth fm_reportDay fm_reportKnown fm_deedMonth fm_deedDay fm_deedLong fm_deedKind fm_kept fm_tape z1 z2 z3 z4 z5 z6 fm_official fm_aside fm_worth fm_out) → va_S A s.heap H locs → lv_has ls 5 [] → W p l e R s m args below meth c H locs cells slots Q (F0 m 88 ls [.int v])) : ∀ z : Nat, (∀ (v3 : Int32) (v4 : Int32) (w0_37 : Int32) (w0_41 : Int32) (z1 : Nat → Int32) (z2 : Nat → Int32) (z3 : Nat → Int32) (z4 : Nat → Int32) (z5 : Nat → Int32) (z6 : Nat → Int32) (H : Heap) (locs : List Loc) (ls : Array Slot), gi p1 0 999 → gi p2 0 23 → gi v4 0 24 → gi w0_37 0 1 → gi w0_41 0 24 → ga z6 24 0 23 → 49 + (-2) * v4.toInt < (z : Int) → va_P (dC, dI) vwCl (MWn h0 mr km (mi 0) (mi 1) (mi 2) (mi 3) (mi 4) (mi 5) (mi 6) (mi 7) (mi 10) (mi 17) (mi 23) (mi 24) (mi 26) (mi 27) (mi 28) (mi 29) (mi 30) (mi 31) (mi 32) (mi 33) w0_37 w0_41 (mi 42) (mi 43) (mi 44) (mi 45) (mi 47) (mi 48) (mi 49) (mi 50) (mi 51) (mi 54) (mi 56) fm_trust fm_letter fm_reportPlace fm_reportKind fm_struck fm_reportMonth fm_reportDay fm_reportKnown fm_deedMonth fm_deedDay fm_deedLong fm_deedKind fm_kept fm_tape z1 z2 z3 z4 z5 z6 fm_official fm_aside fm_worth fm_out) H → va_D A (MWn h0 mr km (mi 0) (mi 1) (mi 2) (mi 3) (mi 4) (mi 5) (mi 6) (mi 7) (mi 10) (mi 17) (mi 23) (mi 24) (mi 26) (mi 27) (mi 28) (mi 29) (mi 30) (mi 31) (mi 32) (mi 33) w0_37 w0_41 (mi 42) (mi 43) (mi 44) (mi 45) (mi 47) (mi 48) (mi 49) (mi 50) (mi 51) (mi 54) (mi 56) fm_trust fm_letter fm_reportPlace fm_reportKind fm_struck fm_reportMonth fm_reportDay fm_reportKnown fm_deedMonth fm_deedDay fm_deedLong fm_deedKind fm_kept fm_tape z1 z2 z3 z4 z5 z6 fm_official fm_aside fm_worth fm_out) → va_S A s.heap H locs → lv_has ls 5 [(0, .ref h0), (1, .int p1), (2, .int p2), (3, .int v3), (4, .int v4)] → W p l e R s m args below meth c H locs cells slots Q (F0 m 41 ls [])) := by
  intro z
  induction z with
  | zero =>
    intro v3 v4 w0_37 w0_41 z1 z2 z3 z4 z5 z6 H locs ls gf_p1 gf_p2 gv4 gw0_37 gw0_41 gz6 hmu hP hD hS hl
    exact absurd hmu (by have hv41 := gv4.1; have hv42 := gv4.2; omega)
  | succ z ih =>
      intro v3 v4 w0_37 w0_41 z1 z2 z3 z4 z5 z6 H locs ls gf_p1 gf_p2 gv4 gw0_37 gw0_41 gz6 hmu hP hD hS hl
      refine lv_iload hx hb dX12_against_41 (lv_at hl 4 rfl) ?_
      refine lv_aload_n hx hb dX12_against_43 rfl (lv_at hl 0 rfl) ?_
      refine va_get (D := (dC, dI)) (ci := 12) (v := .int (mi 10)) (C := RX12) (T := TX12) (N := 57) hx hb hts (fun w h => List.mem_cons_of_mem _ (jnGB_X12 w h)) hown hK hP 0 rfl rfl 10 (by decide) (hts _ (List.mem_cons_of_mem _ mGB_111)) (fun _ h9 => h9) rfl dX12_against_44 ?_
      refine lv_icmp_ge (tgt := 87) hx hb dX12_against_47 (by decide) (fun c_661 => ?_) (fun c_661 => ?_)
      · refine lv_iload_n hx hb dX12_against_87 rfl (lv_at hl 3 rfl) ?_
        exact kr88 v3 w0_37 w0_41 z1 z2 z3 z4 z5 z6 _ _ _ gw0_37 gw0_41 gz6 hP hD hS (lv_sub hl [] rfl)
      · have g_662 : gi v4 0 23 := gi_lt_l (Int32.not_le.mp c_661) gv4 gmi_10 (by decide)
        have g_663 : gi (mi 10) 1 24 := gi_lt_r (Int32.not_le.mp c_661) gv4 gmi_10 (by decide)
        refine lv_iload_n hx hb dX12_against_50 rfl (lv_at hl 3 rfl) ?_
        refine lv_aload_n hx hb dX12_against_51 rfl (lv_at hl 0 rfl) ?_
        refine va_get (D := (dC, dI)) (ci := 12) (v := .ref (mr 18)) (C := RX12) (T := TX12) (N := 57) hx hb hts (fun w h => List.mem_cons_of_mem _ (jnGB_X12 w h)) hown hK hP 0 rfl rfl 39 (by decide) (hts _ (List.mem_cons_of_mem _ mGB_30)) (fun _ h9 => h9) rfl dX12_against_52 ?_
        refine lv_iload hx hb dX12_against_55 (lv_at hl 4 rfl) ?_
        refine va_iald hx hb hK hP 19 18 rfl rfl (gi_in g_662 (by decide)) dX12_against_57 ?_
        refine lv_topi (fun x_664 ex_664 => ?_)
        refine lv_if_ne (tgt := 78) hx hb dX12_against_58 (by decide) (fun c_665 => ?_) (fun c_665 => ?_)
        · refine lv_iconst (v := 0) hx hb dX12_against_78 (by decide) ?_
          refine lv_ior hx hb dX12_against_79 ?_
          refine lv_topi (fun x_666 ex_666 => ?_)
          refine lv_istore_n (lv' := [(3, .int x_666), (0, .ref h0), (1, .int p1), (2, .int p2), (4, .int v4)]) hx hb dX12_against_80 rfl hl (by decide) rfl (fun ls hl => ?_)
          obtain ⟨x_667, ex_667⟩ : ∃ y : Int32, y = v4 + 1 := ⟨_, rfl⟩
          have gx_667 : gi x_667 1 24 := gi_add ex_667 g_662 (gi_c 1 1 (by decide)) (by decide)
          refine lv_iinc (v := x_667) (lv' := [(4, .int x_667), (3, .int x_666), (0, .ref h0), (1, .int p1), (2, .int p2)]) hx hb dX12_against_81 hl (k := 4) rfl (by rw [ex_667]; rfl) (by decide) rfl (fun ls hl => ?_)
          refine lv_goto (tgt := 41) hx hb dX12_against_84 (by decide) ?_
          exact ih x_666 x_667 w0_37 w0_41 z1 z2 z3 z4 z5 z6 _ _ _ gf_p1 gf_p2 (gi_w gx_667 (by decide)) gw0_37 gw0_41 gz6 (by have av4 := gv4.1; have bv4 := gv4.2; have qgx_667 := gx_667.1; have rgx_667 := gx_667.2; have igx_667 : x_667.toInt = v4.toInt + 1 := (by have hc1 : (1 : Int32).toInt = 1 := (by decide); have h9 := gi_addI ex_667 (by have h1 := g_662.1; have h2 := (gi_c 1 1 (by decide)).1; have h3 := g_662.2; have h4 := (gi_c 1 1 (by decide)).2; omega) (by have h1 := g_662.1; have h2 := (gi_c 1 1 (by decide)).1; have h3 := g_662.2; have h4 := (gi_c 1 1 (by decide)).2; omega); rw [hc1] at h9; exact h9); have qgv4 := g_662.1; have rgv4 := g_662.2; omega) hP hD hS (lv_sub hl [2, 3, 4, 1, 0] rfl)
        · have g_668 : gi x_664 0 0 := gi_eq c_665 (gi_c 0 0 (by decide))
          refine lv_aload_n hx hb dX12_against_61 rfl (lv_at hl 0 rfl) ?_
          refine lv_iload hx hb dX12_against_62 (lv_at hl 4 rfl) ?_
          refine lv_iload_n hx hb dX12_against_64 rfl (lv_at hl 2 rfl) ?_
          have hFc := gz_fullF hD hS hA
          refine va_calli (va_runV (As := [.int v4, .int p2]) (rest := [.int v3]) ⟨hx, hb, hml, hown, hts⟩ (sX12_areBoth l dC dI H.size h0 (upd (upd mi 37 w0_37) 41 w0_41) mr km z1 z2 z3 z4 fm_reportMonth fm_reportDay fm_reportKind fm_trust fm_letter fm_reportPlace fm_struck fm_reportKnown fm_deedMonth fm_deedDay fm_deedLong fm_deedKind fm_kept fm_tape z5 z6 fm_official fm_aside fm_worth fm_out v4 p2 gmi_0 gmi_1 gmi_2 gmi_4 gmi_7 (gi_w g_663 (by decide)) gmi_17 gmi_23 gmi_24 gmi_26 gmi_29 gmi_30 gmi_33 gw0_37 gw0_41 gmi_50 gmi_51 gmi_56 gfm_reportMonth gfm_reportDay g_662 gf_p2) (cwV 2 hts (gz_gV mGB_338 mGB_339 mGB_340 mGB_1 mGB_341 goodGB) rfl rfl rfl (by decide +kernel) ⟨Nat.le_trans (Nat.le_of_ble_eq_true rfl) hRf, Nat.le_trans (Nat.le_of_ble_eq_true rfl) hRl⟩) ⟨bl_W, mw_recv hK hP, fun U hU hW => ⟨rfl, by rw [hU], by rw [hU]; exact hP, va_K.moved hW.alike hK, hD.weaken (fun _ _ _ _ => trivial)⟩⟩ rfl rfl hl.1 rfl (lv_room (Nat.le_of_ble_eq_true rfl)) dX12_against_65 ⟨hRc, hRs⟩) hS (fun q _ h => hFc q h) hFc (fun r_669 u t H1 locs ht hvm hw hB hz1 hk1 hS => ?_)
          obtain ⟨y_670, f_671, f_672, f_673, f_674, hB⟩ := hB
          obtain ⟨gy_670, hP1, hD1⟩ := hB
          rw [ht] at hP1
          have hD : va_D A (MWn h0 mr km (mi 0) (mi 1) (mi 2) (mi 3) (mi 4) (mi 5) (mi 6) (mi 7) (mi 10) (mi 17) (mi 23) (mi 24) (mi 26) (mi 27) (mi 28) (mi 29) (mi 30) (mi 31) (mi 32) (mi 33) y_670 w0_41 (mi 42) (mi 43) (mi 44) (mi 45) (mi 47) (mi 48) (mi 49) (mi 50) (mi 51) (mi 54) (mi 56) fm_trust fm_letter fm_reportPlace fm_reportKind fm_struck fm_reportMonth fm_reportDay fm_reportKnown fm_deedMonth fm_deedDay fm_deedLong fm_deedKind fm_kept fm_tape f_671 f_672 f_673 f_674 z5 z6 fm_official fm_aside fm_worth fm_out) := gz_fullD hFc hD1
          have hP : va_P (dC, dI) vwCl (MWn h0 mr km (mi 0) (mi 1) (mi 2) (mi 3) (mi 4) (mi 5) (mi 6) (mi 7) (mi 10) (mi 17) (mi 23) (mi 24) (mi 26) (mi 27) (mi 28) (mi 29) (mi 30) (mi 31) (mi 32) (mi 33) y_670 w0_41 (mi 42) (mi 43) (mi 44) (mi 45) (mi 47) (mi 48) (mi 49) (mi 50) (mi 51) (mi 54) (mi 56) fm_trust fm_letter fm_reportPlace fm_reportKind fm_struck fm_reportMonth fm_reportDay fm_reportKnown fm_deedMonth fm_deedDay fm_deedLong fm_deedKind fm_kept fm_tape f_671 f_672 f_673 f_674 z5 z6 fm_official fm_aside fm_worth fm_out) H1 := hP1
          generalize H1 = H at hP hS ⊢
          have gr_669 : gi r_669 0 1 := hw
          refine lv_if_ne (tgt := 78) hx hb dX12_against_68 (by decide) (fun c_675 => ?_) (fun c_675 => ?_)
          · have g_676 : gi r_669 1 1 := gi_ne_lo c_675 gr_669 (gi_c 0 0 (by decide)) (by decide)
            refine lv_iconst (v := 0) hx hb dX12_against_78 (by decide) ?_
            refine lv_ior hx hb dX12_against_79 ?_
            refine lv_topi (fun x_677 ex_677 => ?_)
            refine lv_istore_n (lv' := [(3, .int x_677), (0, .ref h0), (1, .int p1), (2, .int p2), (4, .int v4)]) hx hb dX12_against_80 rfl hl (by decide) rfl (fun ls hl => ?_)
            obtain ⟨x_678, ex_678⟩ : ∃ y : Int32, y = v4 + 1 := ⟨_, rfl⟩
            have gx_678 : gi x_678 1 24 := gi_add ex_678 g_662 (gi_c 1 1 (by decide)) (by decide)
            refine lv_iinc (v := x_678) (lv' := [(4, .int x_678), (3, .int x_677), (0, .ref h0), (1, .int p1), (2, .int p2)]) hx hb dX12_against_81 hl (k := 4) rfl (by rw [ex_678]; rfl) (by decide) rfl (fun ls hl => ?_)
            refine lv_goto (tgt := 41) hx hb dX12_against_84 (by decide) ?_
            exact ih x_677 x_678 y_670 w0_41 f_671 f_672 f_673 f_674 z5 z6 _ _ _ gf_p1 gf_p2 (gi_w gx_678 (by decide)) gy_670 gw0_41 gz6 (by have av4 := gv4.1; have bv4 := gv4.2; have qgx_678 := gx_678.1; have rgx_678 := gx_678.2; have igx_678 : x_678.toInt = v4.toInt + 1 := (by have hc1 : (1 : Int32).toInt = 1 := (by decide); have h9 := gi_addI ex_678 (by have h1 := g_662.1; have h2 := (gi_c 1 1 (by decide)).1; have h3 := g_662.2; have h4 := (gi_c 1 1 (by decide)).2; omega) (by have h1 := g_662.1; have h2 := (gi_c 1 1 (by decide)).1; have h3 := g_662.2; have h4 := (gi_c 1 1 (by decide)).2; omega); rw [hc1] at h9; exact h9); have qgv4 := g_662.1; have rgv4 := g_662.2; omega) hP hD hS (lv_sub hl [2, 3, 4, 1, 0] rfl)
          · have g_679 : gi r_669 0 0 := gi_eq c_675 (gi_c 0 0 (by decide))
            refine lv_iconst (v := 1) hx hb dX12_against_71 (by decide) ?_
            refine lv_iload hx hb dX12_against_72 (lv_at hl 4 rfl) ?_
            refine lv_ishl hx hb dX12_against_74 ?_
            refine lv_topi (fun x_680 ex_680 => ?_)
            refine lv_goto (tgt := 79) hx hb dX12_against_75 (by decide) ?_
            refine lv_ior hx hb dX12_against_79 ?_
            refine lv_topi (fun x_681 ex_681 => ?_)
            refine lv_istore_n (lv' := [(3, .int x_681), (0, .ref h0), (1, .int p1), (2, .int p2), (4, .int v4)]) hx hb dX12_against_80 rfl hl (by decide) rfl (fun ls hl => ?_)
            obtain ⟨x_682, ex_682⟩ : ∃ y : Int32, y = v4 + 1 := ⟨_, rfl⟩
            have gx_682 : gi x_682 1 24 := gi_add ex_682 g_662 (gi_c 1 1 (by decide)) (by decide)
            refine lv_iinc (v := x_682) (lv' := [(4, .int x_682), (3, .int x_681), (0, .ref h0), (1, .int p1), (2, .int p2)]) hx hb dX12_against_81 hl (k := 4) rfl (by rw [ex_682]; rfl) (by decide) rfl (fun ls hl => ?_)
            refine lv_goto (tgt := 41) hx hb dX12_against_84 (by decide) ?_
            exact ih x_681 x_682 y_670 w0_41 f_671 f_672 f_673 f_674 z5 z6 _ _ _ gf_p1 gf_p2 (gi_w gx_682 (by decide)) gy_670 gw0_41 gz6 (by have av4 := gv4.1; have bv4 := gv4.2; have qgx_682 := gx_682.1; have rgx_682 := gx_682.2; have igx_682 : x_682.toInt = v4.toInt + 1 := (by have hc1 : (1 : Int32).toInt = 1 := (by decide); have h9 := gi_addI ex_682 (by have h1 := g_662.1; have h2 := (gi_c 1 1 (by decide)).1; have h3 := g_662.2; have h4 := (gi_c 1 1 (by decide)).2; omega) (by have h1 := g_662.1; have h2 := (gi_c 1 1 (by decide)).1; have h3 := g_662.2; have h4 := (gi_c 1 1 (by decide)).2; omega); rw [hc1] at h9; exact h9); have qgv4 := g_662.1; have rgv4 := g_662.2; omega) hP hD hS (lv_sub hl [2, 3, 4, 1, 0] rfl)
abbrev pb_sX12_against (dC : Nat → ClassId) (dI : Nat → Nat → Nat) (A9 : Nat → Prop) (h0 : Nat) (mi : Nat → Int32) (mr : Nat → Nat) (km : Nat → ClassId) (fm_must : Nat → Int32) (fm_least : Nat → Int32) (fm_pin : Nat → Int32) (fm_ways : Nat → Int32) (fm_verdict : Nat → Int32) (fm_row : Nat → Int32) (fm_struck : Nat → Int32) (fm_reportKnown : Nat → Int32) (fm_reportPlace : Nat → Int32) (fm_reportMonth : Nat → Int32) (fm_reportDay : Nat → Int32) (fm_reportKind : Nat → Int32) (fm_trust : Nat → Int32) (fm_letter : Nat → Int32) (fm_deedMonth : Nat → Int32) (fm_deedDay : Nat → Int32) (fm_deedLong : Nat → Int32) (fm_deedKind : Nat → Int32) (fm_kept : Nat → Int32) (fm_tape : Nat → Int32) (fm_official : Nat → Int32) (fm_aside : Nat → Int32) (fm_worth : Nat → Int32) (fm_out : Nat → Int32) (p1 : Int32) (p2 : Int32) (w0_37 : Int32) (w0_41 : Int32) (z1 : Nat → Int32) (z2 : Nat → Int32) (z3 : Nat → Int32) (z4 : Nat → Int32) (z5 : Nat → Int32) (z6 : Nat → Int32) (t : State) : Prop := gi w0_37 0 1 ∧ gi w0_41 0 24 ∧ ga z6 24 0 23 ∧ va_P (dC, dI) vwCl (MWn h0 mr km (mi 0) (mi 1) (mi 2) (mi 3) (mi 4) (mi 5) (mi 6) (mi 7) (mi 10) (mi 17) (mi 23) (mi 24) (mi 26) (mi 27) (mi 28) (mi 29) (mi 30) (mi 31) (mi 32) (mi 33) w0_37 w0_41 (mi 42) (mi 43) (mi 44) (mi 45) (mi 47) (mi 48) (mi 49) (mi 50) (mi 51) (mi 54) (mi 56) fm_trust fm_letter fm_reportPlace fm_reportKind fm_struck fm_reportMonth fm_reportDay fm_reportKnown fm_deedMonth fm_deedDay fm_deedLong fm_deedKind fm_kept fm_tape z1 z2 z3 z4 z5 z6 fm_official fm_aside fm_worth fm_out) t.heap ∧ va_D A9 (MWn h0 mr km (mi 0) (mi 1) (mi 2) (mi 3) (mi 4) (mi 5) (mi 6) (mi 7) (mi 10) (mi 17) (mi 23) (mi 24) (mi 26) (mi 27) (mi 28) (mi 29) (mi 30) (mi 31) (mi 32) (mi 33) w0_37 w0_41 (mi 42) (mi 43) (mi 44) (mi 45) (mi 47) (mi 48) (mi 49) (mi 50) (mi 51) (mi 54) (mi 56) fm_trust fm_letter fm_reportPlace fm_reportKind fm_struck fm_reportMonth fm_reportDay fm_reportKnown fm_deedMonth fm_deedDay fm_deedLong fm_deedKind fm_kept fm_tape z1 z2 z3 z4 z5 z6 fm_official fm_aside fm_worth fm_out)
set_option maxHeartbeats 4000000 in
set_option maxRecDepth 100000 in
theorem sX12_against (l : Launch) (dC : Nat → ClassId) (dI : Nat → Nat → Nat) (sz : Nat) (h0 : Nat) (mi : Nat → Int32) (mr : Nat → Nat) (km : Nat → ClassId) (fm_must : Nat → Int32) (fm_least : Nat → Int32) (fm_pin : Nat → Int32) (fm_ways : Nat → Int32) (fm_verdict : Nat → Int32) (fm_row : Nat → Int32) (fm_struck : Nat → Int32) (fm_reportKnown : Nat → Int32) (fm_reportPlace : Nat → Int32) (fm_reportMonth : Nat → Int32) (fm_reportDay : Nat → Int32) (fm_reportKind : Nat → Int32) (fm_trust : Nat → Int32) (fm_letter : Nat → Int32) (fm_deedMonth : Nat → Int32) (fm_deedDay : Nat → Int32) (fm_deedLong : Nat → Int32) (fm_deedKind : Nat → Int32) (fm_kept : Nat → Int32) (fm_tape : Nat → Int32) (fm_official : Nat → Int32) (fm_aside : Nat → Int32) (fm_worth : Nat → Int32) (fm_out : Nat → Int32) (p1 : Int32) (p2 : Int32) (gmi_0 : gi (mi 0) 0 24) (gmi_1 : gi (mi 1) 0 5) (gmi_2 : gi (mi 2) 0 5) (gmi_4 : gi (mi 4) 0 1) (gmi_7 : gi (mi 7) 0 6) (gmi_10 : gi (mi 10) 0 24) (gmi_17 : gi (mi 17) 0 8) (gmi_23 : gi (mi 23) 0 300) (gmi_24 : gi (mi 24) 0 1) (gmi_26 : gi (mi 26) 0 1600) (gmi_29 : gi (mi 29) 0 1600) (gmi_30 : gi (mi 30) 0 1600) (gmi_33 : gi (mi 33) 0 1) (gmi_37 : gi (mi 37) 0 1) (gmi_41 : gi (mi 41) 0 24) (gmi_50 : gi (mi 50) 0 1) (gmi_51 : gi (mi 51) 0 1) (gmi_56 : gi (mi 56) 0 80) (gfm_row : ga fm_row 24 0 23) (gfm_struck : ga fm_struck 24 0 1) (gfm_reportKnown : ga fm_reportKnown 24 0 999) (gfm_reportPlace : ga fm_reportPlace 24 0 5) (gfm_reportMonth : ga fm_reportMonth 24 0 23) (gfm_reportDay : ga fm_reportDay 24 0 999) : Met l yX12_against (.code yX12_against cX12_against 5 (some .int) :: wsGB) ({ frames := 5, cells := 0, slots := 0, locals := 119 }) (va_Pc [.ref h0, .int p1, .int p2] (fun U => U.heap.size = sz ∧ va_P (dC, dI) vwCl (MWn h0 mr km (mi 0) (mi 1) (mi 2) (mi 3) (mi 4) (mi 5) (mi 6) (mi 7) (mi 10) (mi 17) (mi 23) (mi 24) (mi 26) (mi 27) (mi 28) (mi 29) (mi 30) (mi 31) (mi 32) (mi 33) (mi 37) (mi 41) (mi 42) (mi 43) (mi 44) (mi 45) (mi 47) (mi 48) (mi 49) (mi 50) (mi 51) (mi 54) (mi 56) fm_trust fm_letter fm_reportPlace fm_reportKind fm_struck fm_reportMonth fm_reportDay fm_reportKnown fm_deedMonth fm_deedDay fm_deedLong fm_deedKind fm_kept fm_tape fm_must fm_least fm_pin fm_ways fm_verdict fm_row fm_official fm_aside fm_worth fm_out) U.heap ∧ va_K (dC, dI) vwCl (MT km) U ∧ va_D (fun _ => True) (MWn h0 mr km (mi 0) (mi 1) (mi 2) (mi 3) (mi 4) (mi 5) (mi 6) (mi 7) (mi 10) (mi 17) (mi 23) (mi 24) (mi 26) (mi 27) (mi 28) (mi 29) (mi 30) (mi 31) (mi 32) (mi 33) (mi 37) (mi 41) (mi 42) (mi 43) (mi 44) (mi 45) (mi 47) (mi 48) (mi 49) (mi 50) (mi 51) (mi 54) (mi 56) fm_trust fm_letter fm_reportPlace fm_reportKind fm_struck fm_reportMonth fm_reportDay fm_reportKnown fm_deedMonth fm_deedDay fm_deedLong fm_deedKind fm_kept fm_tape fm_must fm_least fm_pin fm_ways fm_verdict fm_row fm_official fm_aside fm_worth fm_out))) (va_Qi (fun (r : Int32) (u : Unit) => gi r (-2147483648) 2147483647) (fun _ t => ∃ (w0_37 : Int32) (w0_41 : Int32) (z1 : Nat → Int32) (z2 : Nat → Int32) (z3 : Nat → Int32) (z4 : Nat → Int32) (z5 : Nat → Int32) (z6 : Nat → Int32), pb_sX12_against dC dI (va_A (MWn h0 mr km (mi 0) (mi 1) (mi 2) (mi 3) (mi 4) (mi 5) (mi 6) (mi 7) (mi 10) (mi 17) (mi 23) (mi 24) (mi 26) (mi 27) (mi 28) (mi 29) (mi 30) (mi 31) (mi 32) (mi 33) (mi 37) (mi 41) (mi 42) (mi 43) (mi 44) (mi 45) (mi 47) (mi 48) (mi 49) (mi 50) (mi 51) (mi 54) (mi 56) fm_trust fm_letter fm_reportPlace fm_reportKind fm_struck fm_reportMonth fm_reportDay fm_reportKnown fm_deedMonth fm_deedDay fm_deedLong fm_deedKind fm_kept fm_tape fm_must fm_least fm_pin fm_ways fm_verdict fm_row fm_official fm_aside fm_worth fm_out) sz) h0 mi mr km fm_must fm_least fm_pin fm_ways fm_verdict fm_row fm_struck fm_reportKnown fm_reportPlace fm_reportMonth fm_reportDay fm_reportKind fm_trust fm_letter fm_deedMonth fm_deedDay fm_deedLong fm_deedKind fm_kept fm_tape fm_official fm_aside fm_worth fm_out p1 p2 w0_37 w0_41 z1 z2 z3 z4 z5 z6 t) (va_A (MWn h0 mr km (mi 0) (mi 1) (mi 2) (mi 3) (mi 4) (mi 5) (mi 6) (mi 7) (mi 10) (mi 17) (mi 23) (mi 24) (mi 26) (mi 27) (mi 28) (mi 29) (mi 30) (mi 31) (mi 32) (mi 33) (mi 37) (mi 41) (mi 42) (mi 43) (mi 44) (mi 45) (mi 47) (mi 48) (mi 49) (mi 50) (mi 51) (mi 54) (mi 56) fm_trust fm_letter fm_reportPlace fm_reportKind fm_struck fm_reportMonth fm_reportDay fm_reportKnown fm_deedMonth fm_deedDay fm_deedLong fm_deedKind fm_kept fm_tape fm_must fm_least fm_pin fm_ways fm_verdict fm_row fm_official fm_aside fm_worth fm_out) sz)) 0 0 (va_A (MWn h0 mr km (mi 0) (mi 1) (mi 2) (mi 3) (mi 4) (mi 5) (mi 6) (mi 7) (mi 10) (mi 17) (mi 23) (mi 24) (mi 26) (mi 27) (mi 28) (mi 29) (mi 30) (mi 31) (mi 32) (mi 33) (mi 37) (mi 41) (mi 42) (mi 43) (mi 44) (mi 45) (mi 47) (mi 48) (mi 49) (mi 50) (mi 51) (mi 54) (mi 56) fm_trust fm_letter fm_reportPlace fm_reportKind fm_struck fm_reportMonth fm_reportDay fm_reportKnown fm_deedMonth fm_deedDay fm_deedLong fm_deedKind fm_kept fm_tape fm_must fm_least fm_pin fm_ways fm_verdict fm_row fm_official fm_aside fm_worth fm_out) sz) := by
  refine Met.ofW (cc := cX12_against) (maxL := 5) (ret := (some .int)) (by decide) rfl ?_
  intro p e s m args below meth c s₁ B hml hv
  obtain ⟨rfl, hsz, hP, hK, hD0⟩ := hv
  have hx := B.exec
  have hb := B.bytes
  have hr := B.returns
  have hts := atoms_spec (ws := (.code yX12_against cX12_against 5 (some .int) :: wsGB)) B.pre
  have hown : s.vm.findClass RX12 = some m.cls := findClass_of_methodNamed B.named
  have hlocks := B.notSynchronized
  subst hsz
  have hD := hD0.self (sz := s.heap.size)
  generalize hAe : va_A (MWn h0 mr km (mi 0) (mi 1) (mi 2) (mi 3) (mi 4) (mi 5) (mi 6) (mi 7) (mi 10) (mi 17) (mi 23) (mi 24) (mi 26) (mi 27) (mi 28) (mi 29) (mi 30) (mi 31) (mi 32) (mi 33) (mi 37) (mi 41) (mi 42) (mi 43) (mi 44) (mi 45) (mi 47) (mi 48) (mi 49) (mi 50) (mi 51) (mi 54) (mi 56) fm_trust fm_letter fm_reportPlace fm_reportKind fm_struck fm_reportMonth fm_reportDay fm_reportKnown fm_deedMonth fm_deedDay fm_deedLong fm_deedKind fm_kept fm_tape fm_must fm_least fm_pin fm_ways fm_verdict fm_row fm_official fm_aside fm_worth fm_out) s.heap.size = A at hD ⊢
  have hA : ∀ q : Nat, s.heap.size ≤ q → A q := fun q h => by rw [← hAe]; exact Or.inr h
  have hS : va_S A s.heap s.heap [] := va_S.rf
  have hl := lv_entry ([.ref h0, .int p1, .int p2]) (n := 5) (Nat.le_of_ble_eq_true rfl)
  rw [lg_entry_eq]
  generalize (lg_sl ([.ref h0, .int p1, .int p2]) ++ List.replicate (5 - (lg_sl ([.ref h0, .int p1, .int p2])).length) Slot.unset).toArray = ls at hl ⊢
  have hl : lv_has ls 5 [(0, .ref h0), (1, .int p1), (2, .int p2)] := hl
  refine lv_aload_n hx hb dX12_against_0 rfl (lv_at hl 0 rfl) ?_
  refine lv_iload_n hx hb dX12_against_1 rfl (lv_at hl 1 rfl) ?_
  refine va_calli (va_runV (As := [.int p1]) (rest := []) ⟨hx, hb, hml, hown, hts⟩ (sX12_isTime l dC dI h0 mi mr km fm_trust fm_letter fm_reportPlace fm_reportKind fm_struck fm_reportMonth fm_reportDay fm_reportKnown fm_deedMonth fm_deedDay fm_deedLong fm_deedKind fm_kept fm_tape fm_must fm_least fm_pin fm_ways fm_verdict fm_row fm_official fm_aside fm_worth fm_out p1 gmi_0 gmi_1 gmi_2 gmi_4 gmi_7 gmi_10 gmi_17 gmi_23 gmi_24 gmi_26 gmi_29 gmi_30 gmi_33 gmi_37 gmi_41 gmi_50 gmi_51 gmi_56) (cwV 1 hts (gz_gV mGB_256 mGB_257 mGB_258 mGB_1 mGB_259 goodGB) rfl rfl rfl (by decide +kernel) ⟨Nat.le_of_ble_eq_true rfl, Nat.le_of_ble_eq_true rfl⟩) ⟨bl_R, mw_recv hK hP, fun U hU hW => ⟨rfl, by rw [hU]; exact hP, va_K.moved hW.alike hK⟩⟩ rfl rfl hl.1 rfl (lv_room (Nat.le_of_ble_eq_true rfl)) dX12_against_2 ⟨Nat.zero_le _, Nat.zero_le _⟩) hS (fun q _ h => h.elim) (fun q h => h.elim) (fun r_683 u t H1 locs ht hvm hw hB hz1 hk1 hS => ?_)
  obtain ⟨hw, hE⟩ := hw
  have hP := gz_keep hP hk1
  generalize H1 = H at hP hS ⊢
  have gr_683 : gi r_683 0 1 := hw.1
  have hqr_683 := hw.2
  refine lv_if_eq (tgt := 16) hx hb dX12_against_5 (by decide) (fun c_684 => ?_) (fun c_684 => ?_)
  · have g_685 : gi r_683 0 0 := gi_eq c_684 (gi_c 0 0 (by decide))
    refine lv_bipush (v := (-2)) hx hb dX12_against_16 (by decide) ?_
    exact W.iret (v := (-2)) hx hb hr (fun t ht hW => ⟨⟨(-2), (), rfl, (gi_any (-2)), (mi 37), (mi 41), fm_must, fm_least, fm_pin, fm_ways, fm_verdict, fm_row, gmi_37, gmi_41, gfm_row, by rw [ht]; exact hP, hD⟩, hS.F ht⟩) hS.2.2 dX12_against_18
  · have g_686 : gi r_683 1 1 := gi_ne_lo c_684 gr_683 (gi_c 0 0 (by decide)) (by decide)
    have g_687 : gi p1 0 999 := gi_cap (gi_any p1) (hqr_683 (gz_one g_686)) (by decide)
    refine lv_aload_n hx hb dX12_against_8 rfl (lv_at hl 0 rfl) ?_
    refine lv_iload_n hx hb dX12_against_9 rfl (lv_at hl 2 rfl) ?_
    refine va_calli (va_runV (As := [.int p2]) (rest := []) ⟨hx, hb, hml, hown, hts⟩ (sX12_isReport l dC dI h0 mi mr km fm_trust fm_letter fm_reportPlace fm_reportKind fm_struck fm_reportMonth fm_reportDay fm_reportKnown fm_deedMonth fm_deedDay fm_deedLong fm_deedKind fm_kept fm_tape fm_must fm_least fm_pin fm_ways fm_verdict fm_row fm_official fm_aside fm_worth fm_out p2 gmi_0 gmi_1 gmi_2 gmi_4 gmi_7 gmi_10 gmi_17 gmi_23 gmi_24 gmi_26 gmi_29 gmi_30 gmi_33 gmi_37 gmi_41 gmi_50 gmi_51 gmi_56) (cwV 1 hts (gz_gV mGB_235 mGB_236 mGB_237 mGB_1 mGB_238 goodGB) rfl rfl rfl (by decide +kernel) ⟨Nat.le_of_ble_eq_true rfl, Nat.le_of_ble_eq_true rfl⟩) ⟨bl_R, mw_recv hK hP, fun U hU hW => ⟨rfl, by rw [hU]; exact hP, va_K.moved hW.alike hK⟩⟩ rfl rfl hl.1 rfl (lv_room (Nat.le_of_ble_eq_true rfl)) dX12_against_10 ⟨Nat.zero_le _, Nat.zero_le _⟩) hS (fun q _ h => h.elim) (fun q h => h.elim) (fun r_688 u t H1 locs ht hvm hw hB hz1 hk1 hS => ?_)
    obtain ⟨hw, hE⟩ := hw
    have hP := gz_keep hP hk1
    generalize H1 = H at hP hS ⊢
    have gr_688 : gi r_688 0 1 := hw.1
    have hqr_688 := hw.2
    refine lv_if_ne (tgt := 19) hx hb dX12_against_13 (by decide) (fun c_689 => ?_) (fun c_689 => ?_)
    · have g_690 : gi r_688 1 1 := gi_ne_lo c_689 gr_688 (gi_c 0 0 (by decide)) (by decide)
      have g_691 : gi p2 0 23 := gi_cap (gi_any p2) (hqr_688 (gz_one g_690)) (by decide)
      refine lv_aload_n hx hb dX12_against_19 rfl (lv_at hl 0 rfl) ?_
      refine lv_iload_n hx hb dX12_against_20 rfl (lv_at hl 1 rfl) ?_
      have hFc := gz_fullF hD hS hA
      refine va_callv (va_runV (As := [.int p1]) (rest := []) ⟨hx, hb, hml, hown, hts⟩ (sX12_judgesAll l dC dI H.size h0 mi mr km fm_must fm_least fm_pin fm_ways fm_verdict fm_row fm_struck fm_reportKnown fm_reportPlace fm_reportMonth fm_reportDay fm_reportKind fm_trust fm_letter fm_deedMonth fm_deedDay fm_deedLong fm_deedKind fm_kept fm_tape fm_official fm_aside fm_worth fm_out p1 gmi_0 gmi_1 gmi_2 gmi_4 gmi_7 gmi_10 gmi_17 gmi_23 gmi_24 gmi_26 gmi_29 gmi_30 gmi_33 gmi_37 gmi_41 gmi_50 gmi_51 gmi_56 gfm_row gfm_struck gfm_reportKnown gfm_reportPlace gfm_reportMonth gfm_reportDay) (cwV 1 hts (gz_gV mGB_261 mGB_262 mGB_263 mGB_1 mGB_264 goodGB) rfl rfl rfl (by decide +kernel) ⟨Nat.le_of_ble_eq_true rfl, Nat.le_of_ble_eq_true rfl⟩) ⟨bl_W, mw_recv hK hP, fun U hU hW => ⟨rfl, by rw [hU], by rw [hU]; exact hP, va_K.moved hW.alike hK, hD.weaken (fun _ _ _ _ => trivial)⟩⟩ rfl rfl hl.1 rfl (lv_room (Nat.le_of_ble_eq_true rfl)) dX12_against_21 ⟨Nat.zero_le _, Nat.zero_le _⟩) hS (fun q _ h => hFc q h) hFc (fun u t H1 locs ht hvm hw hB hz1 hk1 hS => ?_)
      obtain ⟨y_693, y_694, f_695, f_696, f_697, f_698, f_699, f_700, hB⟩ := hB
      obtain ⟨gy_693, gy_694, gf_700, hP1, hD1⟩ := hB
      rw [ht] at hP1
      have hD : va_D A (MWn h0 mr km (mi 0) (mi 1) (mi 2) (mi 3) (mi 4) (mi 5) (mi 6) (mi 7) (mi 10) (mi 17) (mi 23) (mi 24) (mi 26) (mi 27) (mi 28) (mi 29) (mi 30) (mi 31) (mi 32) (mi 33) y_693 y_694 (mi 42) (mi 43) (mi 44) (mi 45) (mi 47) (mi 48) (mi 49) (mi 50) (mi 51) (mi 54) (mi 56) fm_trust fm_letter fm_reportPlace fm_reportKind fm_struck fm_reportMonth fm_reportDay fm_reportKnown fm_deedMonth fm_deedDay fm_deedLong fm_deedKind fm_kept fm_tape f_695 f_696 f_697 f_698 f_699 f_700 fm_official fm_aside fm_worth fm_out) := gz_fullD hFc hD1
      have hP : va_P (dC, dI) vwCl (MWn h0 mr km (mi 0) (mi 1) (mi 2) (mi 3) (mi 4) (mi 5) (mi 6) (mi 7) (mi 10) (mi 17) (mi 23) (mi 24) (mi 26) (mi 27) (mi 28) (mi 29) (mi 30) (mi 31) (mi 32) (mi 33) y_693 y_694 (mi 42) (mi 43) (mi 44) (mi 45) (mi 47) (mi 48) (mi 49) (mi 50) (mi 51) (mi 54) (mi 56) fm_trust fm_letter fm_reportPlace fm_reportKind fm_struck fm_reportMonth fm_reportDay fm_reportKnown fm_deedMonth fm_deedDay fm_deedLong fm_deedKind fm_kept fm_tape f_695 f_696 f_697 f_698 f_699 f_700 fm_official fm_aside fm_worth fm_out) H1 := hP1
      generalize H1 = H at hP hS ⊢
      refine lv_aload_n hx hb dX12_against_24 rfl (lv_at hl 0 rfl) ?_
      refine va_get (D := (dC, dI)) (ci := 12) (v := .ref (mr 18)) (C := RX12) (T := TX12) (N := 57) hx hb hts (fun w h => List.mem_cons_of_mem _ (jnGB_X12 w h)) hown hK hP 0 rfl rfl 39 (by decide) (hts _ (List.mem_cons_of_mem _ mGB_30)) (fun _ h9 => h9) rfl dX12_against_25 ?_
      refine lv_iload_n hx hb dX12_against_28 rfl (lv_at hl 2 rfl) ?_
      refine va_iald hx hb hK hP 19 18 rfl rfl (gi_in g_691 (by decide)) dX12_against_29 ?_
      refine lv_topi (fun x_701 ex_701 => ?_)
      refine lv_iconst (v := 2) hx hb dX12_against_30 (by decide) ?_
      refine lv_icmp_eq (tgt := 36) hx hb dX12_against_31 (by decide) (fun c_702 => ?_) (fun c_702 => ?_)
      · have g_703 : gi x_701 2 2 := gi_eq c_702 (gi_c 2 2 (by decide))
        refine lv_iconst (v := 0) hx hb dX12_against_36 (by decide) ?_
        refine lv_istore_n (lv' := [(3, .int 0), (0, .ref h0), (1, .int p1), (2, .int p2)]) hx hb dX12_against_37 rfl hl (by decide) rfl (fun ls hl => ?_)
        refine lv_iconst (v := 0) hx hb dX12_against_38 (by decide) ?_
        refine lv_istore (lv' := [(4, .int 0), (3, .int 0), (0, .ref h0), (1, .int p1), (2, .int p2)]) hx hb dX12_against_39 hl (by decide) rfl (fun ls hl => ?_)
        refine (lp_sX12_against h0 mi mr km fm_must fm_least fm_pin fm_ways fm_verdict fm_row fm_struck fm_reportKnown fm_reportPlace fm_reportMonth fm_reportDay fm_reportKind fm_trust fm_letter fm_deedMonth fm_deedDay fm_deedLong fm_deedKind fm_kept fm_tape fm_official fm_aside fm_worth fm_out p1 p2 gmi_0 gmi_1 gmi_2 gmi_4 gmi_7 gmi_10 gmi_17 gmi_23 gmi_24 gmi_26 gmi_29 gmi_30 gmi_33 gmi_37 gmi_41 gmi_50 gmi_51 gmi_56 gfm_row gfm_struck gfm_reportKnown gfm_reportPlace gfm_reportMonth gfm_reportDay hx hb hml hown hts hK hA (Nat.le_of_ble_eq_true rfl) (Nat.le_of_ble_eq_true rfl) (Nat.zero_le _) (Nat.zero_le _) (fun v w0_37 w0_41 z1 z2 z3 z4 z5 z6 H locs ls gv gw0_37 gw0_41 gz6 hP hD hS hl => ?_) (fun v w0_37 w0_41 z1 z2 z3 z4 z5 z6 H locs ls gv gw0_37 gw0_41 gz6 hP hD hS hl => ?_) (fun v w0_37 w0_41 z1 z2 z3 z4 z5 z6 H locs ls gw0_37 gw0_41 gz6 hP hD hS hl => ?_) 62) 0 0 y_693 y_694 f_695 f_696 f_697 f_698 f_699 f_700 _ _ _ g_687 g_691 (gi_w (gi_c 0 0 (by decide)) (by decide)) gy_693 gy_694 gf_700 (by have k0 : (0 : Int32).toInt = 0 := (by decide); omega) hP hD hS (lv_sub hl [2, 3, 4, 1, 0] rfl)
        · skip
          exact W.iret (v := v) hx hb hr (fun t ht hW => ⟨⟨v, (), rfl, (gi_any v), w0_37, w0_41, z1, z2, z3, z4, z5, z6, gw0_37, gw0_41, gz6, by rw [ht]; exact hP, hD⟩, hS.F ht⟩) hS.2.2 dX12_against_18
        · skip
          exact W.iret (v := v) hx hb hr (fun t ht hW => ⟨⟨v, (), rfl, (gi_any v), w0_37, w0_41, z1, z2, z3, z4, z5, z6, gw0_37, gw0_41, gz6, by rw [ht]; exact hP, hD⟩, hS.F ht⟩) hS.2.2 dX12_against_35
        · skip
          exact W.iret (v := v) hx hb hr (fun t ht hW => ⟨⟨v, (), rfl, (gi_any v), w0_37, w0_41, z1, z2, z3, z4, z5, z6, gw0_37, gw0_41, gz6, by rw [ht]; exact hP, hD⟩, hS.F ht⟩) hS.2.2 dX12_against_88
      · refine lv_iconst (v := 0) hx hb dX12_against_34 (by decide) ?_
        exact W.iret (v := 0) hx hb hr (fun t ht hW => ⟨⟨0, (), rfl, (gi_any 0), y_693, y_694, f_695, f_696, f_697, f_698, f_699, f_700, gy_693, gy_694, gf_700, by rw [ht]; exact hP, hD⟩, hS.F ht⟩) hS.2.2 dX12_against_35
    · have g_704 : gi r_688 0 0 := gi_eq c_689 (gi_c 0 0 (by decide))
      refine lv_bipush (v := (-2)) hx hb dX12_against_16 (by decide) ?_
      exact W.iret (v := (-2)) hx hb hr (fun t ht hW => ⟨⟨(-2), (), rfl, (gi_any (-2)), (mi 37), (mi 41), fm_must, fm_least, fm_pin, fm_ways, fm_verdict, fm_row, gmi_37, gmi_41, gfm_row, by rw [ht]; exact hP, hD⟩, hS.F ht⟩) hS.2.2 dX12_against_18
theorem dX12_ways_0 : decode cX12_ways 0 = .ok (.aload_n 0, 1) := by decide +kernel
theorem dX12_ways_1 : decode cX12_ways 1 = .ok (.iload_n 1, 1) := by decide +kernel
theorem dX12_ways_2 : decode cX12_ways 2 = .ok (.invokevirtual 359, 3) := by decide +kernel
theorem dX12_ways_5 : decode cX12_ways 5 = .ok (.ifCond .ne 6, 3) := by decide +kernel
theorem dX12_ways_8 : decode cX12_ways 8 = .ok (.bipush (-2), 2) := by decide +kernel
theorem dX12_ways_10 : decode cX12_ways 10 = .ok (.ireturn, 1) := by decide +kernel
theorem dX12_ways_11 : decode cX12_ways 11 = .ok (.aload_n 0, 1) := by decide +kernel
theorem dX12_ways_12 : decode cX12_ways 12 = .ok (.iload_n 1, 1) := by decide +kernel
theorem dX12_ways_13 : decode cX12_ways 13 = .ok (.invokevirtual 362, 3) := by decide +kernel
theorem dX12_ways_16 : decode cX12_ways 16 = .ok (.aload_n 0, 1) := by decide +kernel
theorem dX12_ways_17 : decode cX12_ways 17 = .ok (.invokevirtual 332, 3) := by decide +kernel
theorem dX12_ways_20 : decode cX12_ways 20 = .ok (.ireturn, 1) := by decide +kernel
abbrev pb_sX12_ways (dC : Nat → ClassId) (dI : Nat → Nat → Nat) (A9 : Nat → Prop) (h0 : Nat) (mi : Nat → Int32) (mr : Nat → Nat) (km : Nat → ClassId) (fm_must : Nat → Int32) (fm_least : Nat → Int32) (fm_pin : Nat → Int32) (fm_ways : Nat → Int32) (fm_verdict : Nat → Int32) (fm_row : Nat → Int32) (fm_struck : Nat → Int32) (fm_reportKnown : Nat → Int32) (fm_reportPlace : Nat → Int32) (fm_reportMonth : Nat → Int32) (fm_reportDay : Nat → Int32) (fm_reportKind : Nat → Int32) (fm_trust : Nat → Int32) (fm_letter : Nat → Int32) (fm_deedMonth : Nat → Int32) (fm_deedDay : Nat → Int32) (fm_deedLong : Nat → Int32) (fm_deedKind : Nat → Int32) (fm_kept : Nat → Int32) (fm_tape : Nat → Int32) (fm_official : Nat → Int32) (fm_aside : Nat → Int32) (fm_worth : Nat → Int32) (fm_out : Nat → Int32) (p1 : Int32) (w0_37 : Int32) (w0_41 : Int32) (z1 : Nat → Int32) (z2 : Nat → Int32) (z3 : Nat → Int32) (z4 : Nat → Int32) (z5 : Nat → Int32) (z6 : Nat → Int32) (t : State) : Prop := gi w0_37 0 1 ∧ gi w0_41 0 24 ∧ ga z6 24 0 23 ∧ va_P (dC, dI) vwCl (MWn h0 mr km (mi 0) (mi 1) (mi 2) (mi 3) (mi 4) (mi 5) (mi 6) (mi 7) (mi 10) (mi 17) (mi 23) (mi 24) (mi 26) (mi 27) (mi 28) (mi 29) (mi 30) (mi 31) (mi 32) (mi 33) w0_37 w0_41 (mi 42) (mi 43) (mi 44) (mi 45) (mi 47) (mi 48) (mi 49) (mi 50) (mi 51) (mi 54) (mi 56) fm_trust fm_letter fm_reportPlace fm_reportKind fm_struck fm_reportMonth fm_reportDay fm_reportKnown fm_deedMonth fm_deedDay fm_deedLong fm_deedKind fm_kept fm_tape z1 z2 z3 z4 z5 z6 fm_official fm_aside fm_worth fm_out) t.heap ∧ va_D A9 (MWn h0 mr km (mi 0) (mi 1) (mi 2) (mi 3) (mi 4) (mi 5) (mi 6) (mi 7) (mi 10) (mi 17) (mi 23) (mi 24) (mi 26) (mi 27) (mi 28) (mi 29) (mi 30) (mi 31) (mi 32) (mi 33) w0_37 w0_41 (mi 42) (mi 43) (mi 44) (mi 45) (mi 47) (mi 48) (mi 49) (mi 50) (mi 51) (mi 54) (mi 56) fm_trust fm_letter fm_reportPlace fm_reportKind fm_struck fm_reportMonth fm_reportDay fm_reportKnown fm_deedMonth fm_deedDay fm_deedLong fm_deedKind fm_kept fm_tape z1 z2 z3 z4 z5 z6 fm_official fm_aside fm_worth fm_out)
set_option maxHeartbeats 4000000 in
set_option maxRecDepth 100000 in
theorem sX12_ways (l : Launch) (dC : Nat → ClassId) (dI : Nat → Nat → Nat) (sz : Nat) (h0 : Nat) (mi : Nat → Int32) (mr : Nat → Nat) (km : Nat → ClassId) (fm_must : Nat → Int32) (fm_least : Nat → Int32) (fm_pin : Nat → Int32) (fm_ways : Nat → Int32) (fm_verdict : Nat → Int32) (fm_row : Nat → Int32) (fm_struck : Nat → Int32) (fm_reportKnown : Nat → Int32) (fm_reportPlace : Nat → Int32) (fm_reportMonth : Nat → Int32) (fm_reportDay : Nat → Int32) (fm_reportKind : Nat → Int32) (fm_trust : Nat → Int32) (fm_letter : Nat → Int32) (fm_deedMonth : Nat → Int32) (fm_deedDay : Nat → Int32) (fm_deedLong : Nat → Int32) (fm_deedKind : Nat → Int32) (fm_kept : Nat → Int32) (fm_tape : Nat → Int32) (fm_official : Nat → Int32) (fm_aside : Nat → Int32) (fm_worth : Nat → Int32) (fm_out : Nat → Int32) (p1 : Int32) (gmi_0 : gi (mi 0) 0 24) (gmi_1 : gi (mi 1) 0 5) (gmi_2 : gi (mi 2) 0 5) (gmi_4 : gi (mi 4) 0 1) (gmi_7 : gi (mi 7) 0 6) (gmi_10 : gi (mi 10) 0 24) (gmi_17 : gi (mi 17) 0 8) (gmi_23 : gi (mi 23) 0 300) (gmi_24 : gi (mi 24) 0 1) (gmi_26 : gi (mi 26) 0 1600) (gmi_29 : gi (mi 29) 0 1600) (gmi_30 : gi (mi 30) 0 1600) (gmi_33 : gi (mi 33) 0 1) (gmi_37 : gi (mi 37) 0 1) (gmi_41 : gi (mi 41) 0 24) (gmi_50 : gi (mi 50) 0 1) (gmi_51 : gi (mi 51) 0 1) (gmi_56 : gi (mi 56) 0 80) (gfm_row : ga fm_row 24 0 23) (gfm_struck : ga fm_struck 24 0 1) (gfm_reportKnown : ga fm_reportKnown 24 0 999) (gfm_reportPlace : ga fm_reportPlace 24 0 5) (gfm_reportMonth : ga fm_reportMonth 24 0 23) (gfm_reportDay : ga fm_reportDay 24 0 999) : Met l yX12_ways (.code yX12_ways cX12_ways 2 (some .int) :: wsGB) ({ frames := 5, cells := 0, slots := 0, locals := 119 }) (va_Pc [.ref h0, .int p1] (fun U => U.heap.size = sz ∧ va_P (dC, dI) vwCl (MWn h0 mr km (mi 0) (mi 1) (mi 2) (mi 3) (mi 4) (mi 5) (mi 6) (mi 7) (mi 10) (mi 17) (mi 23) (mi 24) (mi 26) (mi 27) (mi 28) (mi 29) (mi 30) (mi 31) (mi 32) (mi 33) (mi 37) (mi 41) (mi 42) (mi 43) (mi 44) (mi 45) (mi 47) (mi 48) (mi 49) (mi 50) (mi 51) (mi 54) (mi 56) fm_trust fm_letter fm_reportPlace fm_reportKind fm_struck fm_reportMonth fm_reportDay fm_reportKnown fm_deedMonth fm_deedDay fm_deedLong fm_deedKind fm_kept fm_tape fm_must fm_least fm_pin fm_ways fm_verdict fm_row fm_official fm_aside fm_worth fm_out) U.heap ∧ va_K (dC, dI) vwCl (MT km) U ∧ va_D (fun _ => True) (MWn h0 mr km (mi 0) (mi 1) (mi 2) (mi 3) (mi 4) (mi 5) (mi 6) (mi 7) (mi 10) (mi 17) (mi 23) (mi 24) (mi 26) (mi 27) (mi 28) (mi 29) (mi 30) (mi 31) (mi 32) (mi 33) (mi 37) (mi 41) (mi 42) (mi 43) (mi 44) (mi 45) (mi 47) (mi 48) (mi 49) (mi 50) (mi 51) (mi 54) (mi 56) fm_trust fm_letter fm_reportPlace fm_reportKind fm_struck fm_reportMonth fm_reportDay fm_reportKnown fm_deedMonth fm_deedDay fm_deedLong fm_deedKind fm_kept fm_tape fm_must fm_least fm_pin fm_ways fm_verdict fm_row fm_official fm_aside fm_worth fm_out))) (va_Qi (fun (r : Int32) (u : Unit) => gi r (-2147483648) 2147483647) (fun _ t => ∃ (w0_37 : Int32) (w0_41 : Int32) (z1 : Nat → Int32) (z2 : Nat → Int32) (z3 : Nat → Int32) (z4 : Nat → Int32) (z5 : Nat → Int32) (z6 : Nat → Int32), pb_sX12_ways dC dI (va_A (MWn h0 mr km (mi 0) (mi 1) (mi 2) (mi 3) (mi 4) (mi 5) (mi 6) (mi 7) (mi 10) (mi 17) (mi 23) (mi 24) (mi 26) (mi 27) (mi 28) (mi 29) (mi 30) (mi 31) (mi 32) (mi 33) (mi 37) (mi 41) (mi 42) (mi 43) (mi 44) (mi 45) (mi 47) (mi 48) (mi 49) (mi 50) (mi 51) (mi 54) (mi 56) fm_trust fm_letter fm_reportPlace fm_reportKind fm_struck fm_reportMonth fm_reportDay fm_reportKnown fm_deedMonth fm_deedDay fm_deedLong fm_deedKind fm_kept fm_tape fm_must fm_least fm_pin fm_ways fm_verdict fm_row fm_official fm_aside fm_worth fm_out) sz) h0 mi mr km fm_must fm_least fm_pin fm_ways fm_verdict fm_row fm_struck fm_reportKnown fm_reportPlace fm_reportMonth fm_reportDay fm_reportKind fm_trust fm_letter fm_deedMonth fm_deedDay fm_deedLong fm_deedKind fm_kept fm_tape fm_official fm_aside fm_worth fm_out p1 w0_37 w0_41 z1 z2 z3 z4 z5 z6 t) (va_A (MWn h0 mr km (mi 0) (mi 1) (mi 2) (mi 3) (mi 4) (mi 5) (mi 6) (mi 7) (mi 10) (mi 17) (mi 23) (mi 24) (mi 26) (mi 27) (mi 28) (mi 29) (mi 30) (mi 31) (mi 32) (mi 33) (mi 37) (mi 41) (mi 42) (mi 43) (mi 44) (mi 45) (mi 47) (mi 48) (mi 49) (mi 50) (mi 51) (mi 54) (mi 56) fm_trust fm_letter fm_reportPlace fm_reportKind fm_struck fm_reportMonth fm_reportDay fm_reportKnown fm_deedMonth fm_deedDay fm_deedLong fm_deedKind fm_kept fm_tape fm_must fm_least fm_pin fm_ways fm_verdict fm_row fm_official fm_aside fm_worth fm_out) sz)) 0 0 (va_A (MWn h0 mr km (mi 0) (mi 1) (mi 2) (mi 3) (mi 4) (mi 5) (mi 6) (mi 7) (mi 10) (mi 17) (mi 23) (mi 24) (mi 26) (mi 27) (mi 28) (mi 29) (mi 30) (mi 31) (mi 32) (mi 33) (mi 37) (mi 41) (mi 42) (mi 43) (mi 44) (mi 45) (mi 47) (mi 48) (mi 49) (mi 50) (mi 51) (mi 54) (mi 56) fm_trust fm_letter fm_reportPlace fm_reportKind fm_struck fm_reportMonth fm_reportDay fm_reportKnown fm_deedMonth fm_deedDay fm_deedLong fm_deedKind fm_kept fm_tape fm_must fm_least fm_pin fm_ways fm_verdict fm_row fm_official fm_aside fm_worth fm_out) sz) := by
  refine Met.ofW (cc := cX12_ways) (maxL := 2) (ret := (some .int)) (by decide) rfl ?_
  intro p e s m args below meth c s₁ B hml hv
  obtain ⟨rfl, hsz, hP, hK, hD0⟩ := hv
  have hx := B.exec
  have hb := B.bytes
  have hr := B.returns
  have hts := atoms_spec (ws := (.code yX12_ways cX12_ways 2 (some .int) :: wsGB)) B.pre
  have hown : s.vm.findClass RX12 = some m.cls := findClass_of_methodNamed B.named
  have hlocks := B.notSynchronized
  subst hsz
  have hD := hD0.self (sz := s.heap.size)
  generalize hAe : va_A (MWn h0 mr km (mi 0) (mi 1) (mi 2) (mi 3) (mi 4) (mi 5) (mi 6) (mi 7) (mi 10) (mi 17) (mi 23) (mi 24) (mi 26) (mi 27) (mi 28) (mi 29) (mi 30) (mi 31) (mi 32) (mi 33) (mi 37) (mi 41) (mi 42) (mi 43) (mi 44) (mi 45) (mi 47) (mi 48) (mi 49) (mi 50) (mi 51) (mi 54) (mi 56) fm_trust fm_letter fm_reportPlace fm_reportKind fm_struck fm_reportMonth fm_reportDay fm_reportKnown fm_deedMonth fm_deedDay fm_deedLong fm_deedKind fm_kept fm_tape fm_must fm_least fm_pin fm_ways fm_verdict fm_row fm_official fm_aside fm_worth fm_out) s.heap.size = A at hD ⊢
  have hA : ∀ q : Nat, s.heap.size ≤ q → A q := fun q h => by rw [← hAe]; exact Or.inr h
  have hS : va_S A s.heap s.heap [] := va_S.rf
  have hl := lv_entry ([.ref h0, .int p1]) (n := 2) (Nat.le_of_ble_eq_true rfl)
  rw [lg_entry_eq]
  generalize (lg_sl ([.ref h0, .int p1]) ++ List.replicate (2 - (lg_sl ([.ref h0, .int p1])).length) Slot.unset).toArray = ls at hl ⊢
  have hl : lv_has ls 2 [(0, .ref h0), (1, .int p1)] := hl
  refine lv_aload_n hx hb dX12_ways_0 rfl (lv_at hl 0 rfl) ?_
  refine lv_iload_n hx hb dX12_ways_1 rfl (lv_at hl 1 rfl) ?_
  refine va_calli (va_runV (As := [.int p1]) (rest := []) ⟨hx, hb, hml, hown, hts⟩ (sX12_isTime l dC dI h0 mi mr km fm_trust fm_letter fm_reportPlace fm_reportKind fm_struck fm_reportMonth fm_reportDay fm_reportKnown fm_deedMonth fm_deedDay fm_deedLong fm_deedKind fm_kept fm_tape fm_must fm_least fm_pin fm_ways fm_verdict fm_row fm_official fm_aside fm_worth fm_out p1 gmi_0 gmi_1 gmi_2 gmi_4 gmi_7 gmi_10 gmi_17 gmi_23 gmi_24 gmi_26 gmi_29 gmi_30 gmi_33 gmi_37 gmi_41 gmi_50 gmi_51 gmi_56) (cwV 1 hts (gz_gV mGB_256 mGB_257 mGB_258 mGB_1 mGB_259 goodGB) rfl rfl rfl (by decide +kernel) ⟨Nat.le_of_ble_eq_true rfl, Nat.le_of_ble_eq_true rfl⟩) ⟨bl_R, mw_recv hK hP, fun U hU hW => ⟨rfl, by rw [hU]; exact hP, va_K.moved hW.alike hK⟩⟩ rfl rfl hl.1 rfl (lv_room (Nat.le_of_ble_eq_true rfl)) dX12_ways_2 ⟨Nat.zero_le _, Nat.zero_le _⟩) hS (fun q _ h => h.elim) (fun q h => h.elim) (fun r_33 u t H1 locs ht hvm hw hB hz1 hk1 hS => ?_)
  obtain ⟨hw, hE⟩ := hw
  have hP := gz_keep hP hk1
  generalize H1 = H at hP hS ⊢
  have gr_33 : gi r_33 0 1 := hw.1
  have hqr_33 := hw.2
  refine lv_if_ne (tgt := 11) hx hb dX12_ways_5 (by decide) (fun c_34 => ?_) (fun c_34 => ?_)
  · have g_35 : gi r_33 1 1 := gi_ne_lo c_34 gr_33 (gi_c 0 0 (by decide)) (by decide)
    have g_36 : gi p1 0 999 := gi_cap (gi_any p1) (hqr_33 (gz_one g_35)) (by decide)
    refine lv_aload_n hx hb dX12_ways_11 rfl (lv_at hl 0 rfl) ?_
    refine lv_iload_n hx hb dX12_ways_12 rfl (lv_at hl 1 rfl) ?_
    have hFc := gz_fullF hD hS hA
    refine va_callv (va_runV (As := [.int p1]) (rest := []) ⟨hx, hb, hml, hown, hts⟩ (sX12_judgesAll l dC dI H.size h0 mi mr km fm_must fm_least fm_pin fm_ways fm_verdict fm_row fm_struck fm_reportKnown fm_reportPlace fm_reportMonth fm_reportDay fm_reportKind fm_trust fm_letter fm_deedMonth fm_deedDay fm_deedLong fm_deedKind fm_kept fm_tape fm_official fm_aside fm_worth fm_out p1 gmi_0 gmi_1 gmi_2 gmi_4 gmi_7 gmi_10 gmi_17 gmi_23 gmi_24 gmi_26 gmi_29 gmi_30 gmi_33 gmi_37 gmi_41 gmi_50 gmi_51 gmi_56 gfm_row gfm_struck gfm_reportKnown gfm_reportPlace gfm_reportMonth gfm_reportDay) (cwV 1 hts (gz_gV mGB_261 mGB_262 mGB_263 mGB_1 mGB_264 goodGB) rfl rfl rfl (by decide +kernel) ⟨Nat.le_of_ble_eq_true rfl, Nat.le_of_ble_eq_true rfl⟩) ⟨bl_W, mw_recv hK hP, fun U hU hW => ⟨rfl, by rw [hU], by rw [hU]; exact hP, va_K.moved hW.alike hK, hD.weaken (fun _ _ _ _ => trivial)⟩⟩ rfl rfl hl.1 rfl (lv_room (Nat.le_of_ble_eq_true rfl)) dX12_ways_13 ⟨Nat.zero_le _, Nat.zero_le _⟩) hS (fun q _ h => hFc q h) hFc (fun u t H1 locs ht hvm hw hB hz1 hk1 hS => ?_)
    obtain ⟨y_38, y_39, f_40, f_41, f_42, f_43, f_44, f_45, hB⟩ := hB
    obtain ⟨gy_38, gy_39, gf_45, hP1, hD1⟩ := hB
    rw [ht] at hP1
    have hD : va_D A (MWn h0 mr km (mi 0) (mi 1) (mi 2) (mi 3) (mi 4) (mi 5) (mi 6) (mi 7) (mi 10) (mi 17) (mi 23) (mi 24) (mi 26) (mi 27) (mi 28) (mi 29) (mi 30) (mi 31) (mi 32) (mi 33) y_38 y_39 (mi 42) (mi 43) (mi 44) (mi 45) (mi 47) (mi 48) (mi 49) (mi 50) (mi 51) (mi 54) (mi 56) fm_trust fm_letter fm_reportPlace fm_reportKind fm_struck fm_reportMonth fm_reportDay fm_reportKnown fm_deedMonth fm_deedDay fm_deedLong fm_deedKind fm_kept fm_tape f_40 f_41 f_42 f_43 f_44 f_45 fm_official fm_aside fm_worth fm_out) := gz_fullD hFc hD1
    have hP : va_P (dC, dI) vwCl (MWn h0 mr km (mi 0) (mi 1) (mi 2) (mi 3) (mi 4) (mi 5) (mi 6) (mi 7) (mi 10) (mi 17) (mi 23) (mi 24) (mi 26) (mi 27) (mi 28) (mi 29) (mi 30) (mi 31) (mi 32) (mi 33) y_38 y_39 (mi 42) (mi 43) (mi 44) (mi 45) (mi 47) (mi 48) (mi 49) (mi 50) (mi 51) (mi 54) (mi 56) fm_trust fm_letter fm_reportPlace fm_reportKind fm_struck fm_reportMonth fm_reportDay fm_reportKnown fm_deedMonth fm_deedDay fm_deedLong fm_deedKind fm_kept fm_tape f_40 f_41 f_42 f_43 f_44 f_45 fm_official fm_aside fm_worth fm_out) H1 := hP1
    generalize H1 = H at hP hS ⊢
    refine lv_aload_n hx hb dX12_ways_16 rfl (lv_at hl 0 rfl) ?_
    have hFc := gz_fullF hD hS hA
    refine va_calli (va_runV (As := []) (rest := []) ⟨hx, hb, hml, hown, hts⟩ (sX12_counts l dC dI H.size h0 (upd (upd mi 37 y_38) 41 y_39) mr km f_40 f_41 f_42 f_43 fm_trust fm_letter fm_reportPlace fm_reportKind fm_struck fm_reportMonth fm_reportDay fm_reportKnown fm_deedMonth fm_deedDay fm_deedLong fm_deedKind fm_kept fm_tape f_44 f_45 fm_official fm_aside fm_worth fm_out gmi_0 gmi_1 gmi_2 gmi_4 gmi_7 gmi_10 gmi_17 gmi_23 gmi_24 gmi_26 gmi_29 gmi_30 gmi_33 gy_38 gy_39 gmi_50 gmi_51 gmi_56) (cwV 0 hts (gz_gV mGB_299 mGB_300 mGB_301 mGB_1 mGB_302 goodGB) rfl rfl rfl (by decide +kernel) ⟨Nat.le_of_ble_eq_true rfl, Nat.le_of_ble_eq_true rfl⟩) ⟨bl_W, mw_recv hK hP, fun U hU hW => ⟨rfl, by rw [hU], by rw [hU]; exact hP, va_K.moved hW.alike hK, hD.weaken (fun _ _ _ _ => trivial)⟩⟩ rfl rfl hl.1 rfl (lv_room (Nat.le_of_ble_eq_true rfl)) dX12_ways_17 ⟨Nat.zero_le _, Nat.zero_le _⟩) hS (fun q _ h => hFc q h) hFc (fun r_46 u t H1 locs ht hvm hw hB hz1 hk1 hS => ?_)
    obtain ⟨f_47, hB⟩ := hB
    obtain ⟨hP1, hD1⟩ := hB
    rw [ht] at hP1
    have hD : va_D A (MWn h0 mr km (mi 0) (mi 1) (mi 2) (mi 3) (mi 4) (mi 5) (mi 6) (mi 7) (mi 10) (mi 17) (mi 23) (mi 24) (mi 26) (mi 27) (mi 28) (mi 29) (mi 30) (mi 31) (mi 32) (mi 33) y_38 y_39 (mi 42) (mi 43) (mi 44) (mi 45) (mi 47) (mi 48) (mi 49) (mi 50) (mi 51) (mi 54) (mi 56) fm_trust fm_letter fm_reportPlace fm_reportKind fm_struck fm_reportMonth fm_reportDay fm_reportKnown fm_deedMonth fm_deedDay fm_deedLong fm_deedKind fm_kept fm_tape f_40 f_41 f_42 f_47 f_44 f_45 fm_official fm_aside fm_worth fm_out) := gz_fullD hFc hD1
    have hP : va_P (dC, dI) vwCl (MWn h0 mr km (mi 0) (mi 1) (mi 2) (mi 3) (mi 4) (mi 5) (mi 6) (mi 7) (mi 10) (mi 17) (mi 23) (mi 24) (mi 26) (mi 27) (mi 28) (mi 29) (mi 30) (mi 31) (mi 32) (mi 33) y_38 y_39 (mi 42) (mi 43) (mi 44) (mi 45) (mi 47) (mi 48) (mi 49) (mi 50) (mi 51) (mi 54) (mi 56) fm_trust fm_letter fm_reportPlace fm_reportKind fm_struck fm_reportMonth fm_reportDay fm_reportKnown fm_deedMonth fm_deedDay fm_deedLong fm_deedKind fm_kept fm_tape f_40 f_41 f_42 f_47 f_44 f_45 fm_official fm_aside fm_worth fm_out) H1 := hP1
    generalize H1 = H at hP hS ⊢
    exact W.iret (v := r_46) hx hb hr (fun t ht hW => ⟨⟨r_46, (), rfl, (gi_any r_46), y_38, y_39, f_40, f_41, f_42, f_47, f_44, f_45, gy_38, gy_39, gf_45, by rw [ht]; exact hP, hD⟩, hS.F ht⟩) hS.2.2 dX12_ways_20
  · have g_48 : gi r_33 0 0 := gi_eq c_34 (gi_c 0 0 (by decide))
    refine lv_bipush (v := (-2)) hx hb dX12_ways_8 (by decide) ?_
    exact W.iret (v := (-2)) hx hb hr (fun t ht hW => ⟨⟨(-2), (), rfl, (gi_any (-2)), (mi 37), (mi 41), fm_must, fm_least, fm_pin, fm_ways, fm_verdict, fm_row, gmi_37, gmi_41, gfm_row, by rw [ht]; exact hP, hD⟩, hS.F ht⟩) hS.2.2 dX12_ways_10
theorem dX12_laysOfficial_0 : decode cX12_laysOfficial 0 = .ok (.aload_n 0, 1) := by decide +kernel
theorem dX12_laysOfficial_1 : decode cX12_laysOfficial 1 = .ok (.invokevirtual 332, 3) := by decide +kernel
theorem dX12_laysOfficial_4 : decode cX12_laysOfficial 4 = .ok (.pop, 1) := by decide +kernel
theorem dX12_laysOfficial_5 : decode cX12_laysOfficial 5 = .ok (.iconst 0, 1) := by decide +kernel
theorem dX12_laysOfficial_6 : decode cX12_laysOfficial 6 = .ok (.istore_n 1, 1) := by decide +kernel
theorem dX12_laysOfficial_7 : decode cX12_laysOfficial 7 = .ok (.iconst 0, 1) := by decide +kernel
theorem dX12_laysOfficial_8 : decode cX12_laysOfficial 8 = .ok (.istore_n 2, 1) := by decide +kernel
theorem dX12_laysOfficial_9 : decode cX12_laysOfficial 9 = .ok (.aload_n 0, 1) := by decide +kernel
theorem dX12_laysOfficial_10 : decode cX12_laysOfficial 10 = .ok (.getfield 87, 3) := by decide +kernel
theorem dX12_laysOfficial_13 : decode cX12_laysOfficial 13 = .ok (.iconst 0, 1) := by decide +kernel
theorem dX12_laysOfficial_14 : decode cX12_laysOfficial 14 = .ok (.iconst 0, 1) := by decide +kernel
theorem dX12_laysOfficial_15 : decode cX12_laysOfficial 15 = .ok (.iastore, 1) := by decide +kernel
theorem dX12_laysOfficial_16 : decode cX12_laysOfficial 16 = .ok (.iconst 0, 1) := by decide +kernel
theorem dX12_laysOfficial_17 : decode cX12_laysOfficial 17 = .ok (.istore_n 3, 1) := by decide +kernel
theorem dX12_laysOfficial_18 : decode cX12_laysOfficial 18 = .ok (.iload_n 3, 1) := by decide +kernel
theorem dX12_laysOfficial_19 : decode cX12_laysOfficial 19 = .ok (.aload_n 0, 1) := by decide +kernel
theorem dX12_laysOfficial_20 : decode cX12_laysOfficial 20 = .ok (.getfield 117, 3) := by decide +kernel
theorem dX12_laysOfficial_23 : decode cX12_laysOfficial 23 = .ok (.if_icmp .ge 56, 3) := by decide +kernel
theorem dX12_laysOfficial_26 : decode cX12_laysOfficial 26 = .ok (.aload_n 0, 1) := by decide +kernel
theorem dX12_laysOfficial_27 : decode cX12_laysOfficial 27 = .ok (.iload_n 3, 1) := by decide +kernel
theorem dX12_laysOfficial_28 : decode cX12_laysOfficial 28 = .ok (.iload_n 1, 1) := by decide +kernel
theorem dX12_laysOfficial_29 : decode cX12_laysOfficial 29 = .ok (.iload_n 2, 1) := by decide +kernel
theorem dX12_laysOfficial_30 : decode cX12_laysOfficial 30 = .ok (.iconst 1, 1) := by decide +kernel
theorem dX12_laysOfficial_31 : decode cX12_laysOfficial 31 = .ok (.invokevirtual 328, 3) := by decide +kernel
theorem dX12_laysOfficial_34 : decode cX12_laysOfficial 34 = .ok (.ifCond .le 7, 3) := by decide +kernel
theorem dX12_laysOfficial_37 : decode cX12_laysOfficial 37 = .ok (.iconst 1, 1) := by decide +kernel
theorem dX12_laysOfficial_38 : decode cX12_laysOfficial 38 = .ok (.goto 4, 3) := by decide +kernel
theorem dX12_laysOfficial_41 : decode cX12_laysOfficial 41 = .ok (.iconst 0, 1) := by decide +kernel
theorem dX12_laysOfficial_42 : decode cX12_laysOfficial 42 = .ok (.istore 4, 2) := by decide +kernel
theorem dX12_laysOfficial_44 : decode cX12_laysOfficial 44 = .ok (.aload_n 0, 1) := by decide +kernel
theorem dX12_laysOfficial_45 : decode cX12_laysOfficial 45 = .ok (.iload_n 2, 1) := by decide +kernel
theorem dX12_laysOfficial_46 : decode cX12_laysOfficial 46 = .ok (.iload 4, 2) := by decide +kernel
theorem dX12_laysOfficial_48 : decode cX12_laysOfficial 48 = .ok (.invokevirtual 318, 3) := by decide +kernel
theorem dX12_laysOfficial_51 : decode cX12_laysOfficial 51 = .ok (.istore_n 2, 1) := by decide +kernel
theorem dX12_laysOfficial_52 : decode cX12_laysOfficial 52 = .ok (.iload_n 1, 1) := by decide +kernel
theorem dX12_laysOfficial_53 : decode cX12_laysOfficial 53 = .ok (.iload 4, 2) := by decide +kernel
theorem dX12_laysOfficial_55 : decode cX12_laysOfficial 55 = .ok (.iadd, 1) := by decide +kernel
theorem dX12_laysOfficial_56 : decode cX12_laysOfficial 56 = .ok (.istore_n 1, 1) := by decide +kernel
theorem dX12_laysOfficial_57 : decode cX12_laysOfficial 57 = .ok (.aload_n 0, 1) := by decide +kernel
theorem dX12_laysOfficial_58 : decode cX12_laysOfficial 58 = .ok (.getfield 87, 3) := by decide +kernel
theorem dX12_laysOfficial_61 : decode cX12_laysOfficial 61 = .ok (.iload_n 3, 1) := by decide +kernel
theorem dX12_laysOfficial_62 : decode cX12_laysOfficial 62 = .ok (.iconst 1, 1) := by decide +kernel
theorem dX12_laysOfficial_63 : decode cX12_laysOfficial 63 = .ok (.iadd, 1) := by decide +kernel
theorem dX12_laysOfficial_64 : decode cX12_laysOfficial 64 = .ok (.bipush 29, 2) := by decide +kernel
theorem dX12_laysOfficial_66 : decode cX12_laysOfficial 66 = .ok (.iload_n 3, 1) := by decide +kernel
theorem dX12_laysOfficial_67 : decode cX12_laysOfficial 67 = .ok (.iconst 1, 1) := by decide +kernel
theorem dX12_laysOfficial_68 : decode cX12_laysOfficial 68 = .ok (.iadd, 1) := by decide +kernel
theorem dX12_laysOfficial_69 : decode cX12_laysOfficial 69 = .ok (.imul, 1) := by decide +kernel
theorem dX12_laysOfficial_70 : decode cX12_laysOfficial 70 = .ok (.iload_n 1, 1) := by decide +kernel
theorem dX12_laysOfficial_71 : decode cX12_laysOfficial 71 = .ok (.iadd, 1) := by decide +kernel
theorem dX12_laysOfficial_72 : decode cX12_laysOfficial 72 = .ok (.iastore, 1) := by decide +kernel
theorem dX12_laysOfficial_73 : decode cX12_laysOfficial 73 = .ok (.iinc 3 1, 3) := by decide +kernel
theorem dX12_laysOfficial_76 : decode cX12_laysOfficial 76 = .ok (.goto (-58), 3) := by decide +kernel
theorem dX12_laysOfficial_79 : decode cX12_laysOfficial 79 = .ok (.return_, 1) := by decide +kernel
set_option maxHeartbeats 4000000 in
set_option maxRecDepth 100000 in
theorem lp_sX12_laysOfficial {p : Program} {l : Launch} {e : Env} {R : Room} {s : State} {m : MethodId} {args : Array Value} {below : List Frame} {meth : Method} {c : Code} {Q : State → Prop} {A : Nat → Prop} {cells slots : Nat} {dC : Nat → ClassId} {dI : Nat → Nat → Nat} (h0 : Nat) (mi : Nat → Int32) (mr : Nat → Nat) (km : Nat → ClassId) (fm_must : Nat → Int32) (fm_least : Nat → Int32) (fm_pin : Nat → Int32) (fm_ways : Nat → Int32) (fm_official : Nat → Int32) (fm_trust : Nat → Int32) (fm_letter : Nat → Int32) (fm_reportPlace : Nat → Int32) (fm_reportKind : Nat → Int32) (fm_struck : Nat → Int32) (fm_reportMonth : Nat → Int32) (fm_reportDay : Nat → Int32) (fm_reportKnown : Nat → Int32) (fm_deedMonth : Nat → Int32) (fm_deedDay : Nat → Int32) (fm_deedLong : Nat → Int32) (fm_deedKind : Nat → Int32) (fm_kept : Nat → Int32) (fm_tape : Nat → Int32) (fm_verdict : Nat → Int32) (fm_row : Nat → Int32) (fm_aside : Nat → Int32) (fm_worth : Nat → Int32) (fm_out : Nat → Int32) (gmi_0 : gi (mi 0) 0 24) (gmi_1 : gi (mi 1) 0 5) (gmi_2 : gi (mi 2) 0 5) (gmi_4 : gi (mi 4) 0 1) (gmi_7 : gi (mi 7) 0 6) (gmi_10 : gi (mi 10) 0 24) (gmi_17 : gi (mi 17) 0 8) (gmi_23 : gi (mi 23) 0 300) (gmi_24 : gi (mi 24) 0 1) (gmi_26 : gi (mi 26) 0 1600) (gmi_29 : gi (mi 29) 0 1600) (gmi_30 : gi (mi 30) 0 1600) (gmi_33 : gi (mi 33) 0 1) (gmi_37 : gi (mi 37) 0 1) (gmi_41 : gi (mi 41) 0 24) (gmi_50 : gi (mi 50) 0 1) (gmi_51 : gi (mi 51) 0 1) (gmi_56 : gi (mi 56) 0 80) (hx : p.tables.exec = Jvm.exec) (hb : c.code = cX12_laysOfficial) (hml : c.maxLocals = 5) (hown : s.vm.findClass RX12 = some m.cls) (hts : ∀ w ∈ ((.code yX12_laysOfficial cX12_laysOfficial 5 none :: wsGB) : List Cond), w.before args s = true) (hK : va_K (dC, dI) vwCl (MT km) s) (hA : ∀ q : Nat, s.heap.size ≤ q → A q) (hRf : 3 ≤ R.frames) (hRl : 73 ≤ R.locals) (hRc : cells ≤ R.cells) (hRs : slots ≤ R.slots) (kr79 : ∀ (z4 : Nat → Int32) (z5 : Nat → Int32) (H : Heap) (locs : List Loc) (ls : Array Slot), va_P (dC, dI) vwCl (MWn h0 mr km (mi 0) (mi 1) (mi 2) (mi 3) (mi 4) (mi 5) (mi 6) (mi 7) (mi 10) (mi 17) (mi 23) (mi 24) (mi 26) (mi 27) (mi 28) (mi 29) (mi 30) (mi 31) (mi 32) (mi 33) (mi 37) (mi 41) (mi 42) (mi 43) (mi 44) (mi 45) (mi 47) (mi 48) (mi 49) (mi 50) (mi 51) (mi 54) (mi 56) fm_trust fm_letter fm_reportPlace fm_reportKind fm_struck fm_reportMonth fm_reportDay fm_reportKnown fm_deedMonth fm_deedDay fm_deedLong fm_deedKind fm_kept fm_tape fm_must fm_least fm_pin z4 fm_verdict fm_row z5 fm_aside fm_worth fm_out) H → va_D A (MWn h0 mr km (mi 0) (mi 1) (mi 2) (mi 3) (mi 4) (mi 5) (mi 6) (mi 7) (mi 10) (mi 17) (mi 23) (mi 24) (mi 26) (mi 27) (mi 28) (mi 29) (mi 30) (mi 31) (mi 32) (mi 33) (mi 37) (mi 41) (mi 42) (mi 43) (mi 44) (mi 45) (mi 47) (mi 48) (mi 49) (mi 50) (mi 51) (mi 54) (mi 56) fm_trust fm_letter fm_reportPlace fm_reportKind fm_struck fm_reportMonth fm_reportDay fm_reportKnown fm_deedMonth fm_deedDay fm_deedLong fm_deedKind fm_kept fm_tape fm_must fm_least fm_pin z4 fm_verdict fm_row z5 fm_aside fm_worth fm_out) → va_S A s.heap H locs → lv_has ls 5 [] → W p l e R s m args below meth c H locs cells slots Q (F0 m 79 ls [])) : ∀ z : Nat, (∀ (v1 : Int32) (v2 : Int32) (v3 : Int32) (z4 : Nat → Int32) (z5 : Nat → Int32) (H : Heap) (locs : List Loc) (ls : Array Slot), gi v1 0 24 → gi v2 (-1) 10 → gi v3 0 24 → v1.toInt ≤ v3.toInt → 49 + (-2) * v3.toInt < (z : Int) → va_P (dC, dI) vwCl (MWn h0 mr km (mi 0) (mi 1) (mi 2) (mi 3) (mi 4) (mi 5) (mi 6) (mi 7) (mi 10) (mi 17) (mi 23) (mi 24) (mi 26) (mi 27) (mi 28) (mi 29) (mi 30) (mi 31) (mi 32) (mi 33) (mi 37) (mi 41) (mi 42) (mi 43) (mi 44) (mi 45) (mi 47) (mi 48) (mi 49) (mi 50) (mi 51) (mi 54) (mi 56) fm_trust fm_letter fm_reportPlace fm_reportKind fm_struck fm_reportMonth fm_reportDay fm_reportKnown fm_deedMonth fm_deedDay fm_deedLong fm_deedKind fm_kept fm_tape fm_must fm_least fm_pin z4 fm_verdict fm_row z5 fm_aside fm_worth fm_out) H → va_D A (MWn h0 mr km (mi 0) (mi 1) (mi 2) (mi 3) (mi 4) (mi 5) (mi 6) (mi 7) (mi 10) (mi 17) (mi 23) (mi 24) (mi 26) (mi 27) (mi 28) (mi 29) (mi 30) (mi 31) (mi 32) (mi 33) (mi 37) (mi 41) (mi 42) (mi 43) (mi 44) (mi 45) (mi 47) (mi 48) (mi 49) (mi 50) (mi 51) (mi 54) (mi 56) fm_trust fm_letter fm_reportPlace fm_reportKind fm_struck fm_reportMonth fm_reportDay fm_reportKnown fm_deedMonth fm_deedDay fm_deedLong fm_deedKind fm_kept fm_tape fm_must fm_least fm_pin z4 fm_verdict fm_row z5 fm_aside fm_worth fm_out) → va_S A s.heap H locs → lv_has ls 5 [(0, .ref h0), (1, .int v1), (2, .int v2), (3, .int v3)] → W p l e R s m args below meth c H locs cells slots Q (F0 m 18 ls [])) := by
  intro z
  induction z with
  | zero =>
    intro v1 v2 v3 z4 z5 H locs ls gv1 gv2 gv3 hle_gv1_gv3 hmu hP hD hS hl
    exact absurd hmu (by have hv31 := gv3.1; have hv32 := gv3.2; omega)
  | succ z ih =>
      intro v1 v2 v3 z4 z5 H locs ls gv1 gv2 gv3 hle_gv1_gv3 hmu hP hD hS hl
      refine lv_iload_n hx hb dX12_laysOfficial_18 rfl (lv_at hl 3 rfl) ?_
      refine lv_aload_n hx hb dX12_laysOfficial_19 rfl (lv_at hl 0 rfl) ?_
      refine va_get (D := (dC, dI)) (ci := 12) (v := .int (mi 0)) (C := RX12) (T := TX12) (N := 57) hx hb hts (fun w h => List.mem_cons_of_mem _ (jnGB_X12 w h)) hown hK hP 0 rfl rfl 0 (by decide) (hts _ (List.mem_cons_of_mem _ mGB_103)) (fun _ h9 => h9) rfl dX12_laysOfficial_20 ?_
      refine lv_icmp_ge (tgt := 79) hx hb dX12_laysOfficial_23 (by decide) (fun c_392 => ?_) (fun c_392 => ?_)
      · exact kr79 z4 z5 _ _ _ hP hD hS (lv_sub hl [] rfl)
      · have g_393 : gi v3 0 23 := gi_lt_l (Int32.not_le.mp c_392) gv3 gmi_0 (by decide)
        have g_394 : gi v1 0 23 := gi_rel hle_gv1_gv3 gv1 g_393
        have g_395 : gi (mi 0) 1 24 := gi_lt_r (Int32.not_le.mp c_392) gv3 gmi_0 (by decide)
        refine lv_aload_n hx hb dX12_laysOfficial_26 rfl (lv_at hl 0 rfl) ?_
        refine lv_iload_n hx hb dX12_laysOfficial_27 rfl (lv_at hl 3 rfl) ?_
        refine lv_iload_n hx hb dX12_laysOfficial_28 rfl (lv_at hl 1 rfl) ?_
        refine lv_iload_n hx hb dX12_laysOfficial_29 rfl (lv_at hl 2 rfl) ?_
        refine lv_iconst (v := 1) hx hb dX12_laysOfficial_30 (by decide) ?_
        refine va_calli (va_runV (As := [.int v3, .int v1, .int v2, .int 1]) (rest := []) ⟨hx, hb, hml, hown, hts⟩ (sX12_waysBy l dC dI h0 mi mr km z4 fm_trust fm_letter fm_reportPlace fm_reportKind fm_struck fm_reportMonth fm_reportDay fm_reportKnown fm_deedMonth fm_deedDay fm_deedLong fm_deedKind fm_kept fm_tape fm_must fm_least fm_pin fm_verdict fm_row z5 fm_aside fm_worth fm_out v3 v1 v2 1 (gi_w g_395 (by decide)) gmi_1 gmi_2 gmi_4 gmi_7 gmi_10 gmi_17 gmi_23 gmi_24 gmi_26 gmi_29 gmi_30 gmi_33 gmi_37 gmi_41 gmi_50 gmi_51 gmi_56 g_393 g_394 gv2 (gi_w (gi_c 1 1 (by decide)) (by decide))) (cwV 4 hts (gz_gV mGB_307 mGB_308 mGB_309 mGB_1 mGB_310 goodGB) rfl rfl rfl (by decide +kernel) ⟨Nat.le_trans (Nat.le_of_ble_eq_true rfl) hRf, Nat.le_trans (Nat.le_of_ble_eq_true rfl) hRl⟩) ⟨bl_R, mw_recv hK hP, fun U hU hW => ⟨rfl, by rw [hU]; exact hP, va_K.moved hW.alike hK⟩⟩ rfl rfl hl.1 rfl (lv_room (Nat.le_of_ble_eq_true rfl)) dX12_laysOfficial_31 ⟨hRc, hRs⟩) hS (fun q _ h => h.elim) (fun q h => h.elim) (fun r_396 u t H1 locs ht hvm hw hB hz1 hk1 hS => ?_)
        have hP := gz_keep hP hk1
        generalize H1 = H at hP hS ⊢
        refine lv_if_le (tgt := 41) hx hb dX12_laysOfficial_34 (by decide) (fun c_397 => ?_) (fun c_397 => ?_)
        · have g_398 : gi r_396 (-2147483648) 0 := gi_le_l c_397 (gi_any r_396) (gi_c 0 0 (by decide))
          refine lv_iconst (v := 0) hx hb dX12_laysOfficial_41 (by decide) ?_
          refine lv_istore (lv' := [(4, .int 0), (0, .ref h0), (1, .int v1), (2, .int v2), (3, .int v3)]) hx hb dX12_laysOfficial_42 hl (by decide) rfl (fun ls hl => ?_)
          refine lv_aload_n hx hb dX12_laysOfficial_44 rfl (lv_at hl 1 rfl) ?_
          refine lv_iload_n hx hb dX12_laysOfficial_45 rfl (lv_at hl 3 rfl) ?_
          refine lv_iload hx hb dX12_laysOfficial_46 (lv_at hl 0 rfl) ?_
          refine va_calli (va_runV (As := [.int v2, .int 0]) (rest := []) ⟨hx, hb, hml, hown, hts⟩ (sX12_runBehind l dC dI h0 mi mr km fm_trust fm_letter fm_reportPlace fm_reportKind fm_struck fm_reportMonth fm_reportDay fm_reportKnown fm_deedMonth fm_deedDay fm_deedLong fm_deedKind fm_kept fm_tape fm_must fm_least fm_pin z4 fm_verdict fm_row z5 fm_aside fm_worth fm_out v2 0 (gi_w g_395 (by decide)) gmi_1 gmi_2 gmi_4 gmi_7 gmi_10 gmi_17 gmi_23 gmi_24 gmi_26 gmi_29 gmi_30 gmi_33 gmi_37 gmi_41 gmi_50 gmi_51 gmi_56 gv2 (gi_w (gi_c 0 0 (by decide)) (by decide))) (cwV 2 hts (gz_gV mGB_311 mGB_312 mGB_313 mGB_1 mGB_314 goodGB) rfl rfl rfl (by decide +kernel) ⟨Nat.le_trans (Nat.le_of_ble_eq_true rfl) hRf, Nat.le_trans (Nat.le_of_ble_eq_true rfl) hRl⟩) ⟨bl_R, mw_recv hK hP, fun U hU hW => ⟨rfl, by rw [hU]; exact hP, va_K.moved hW.alike hK⟩⟩ rfl rfl hl.1 rfl (lv_room (Nat.le_of_ble_eq_true rfl)) dX12_laysOfficial_48 ⟨hRc, hRs⟩) hS (fun q _ h => h.elim) (fun q h => h.elim) (fun r_399 u t H1 locs ht hvm hw hB hz1 hk1 hS => ?_)
          have hP := gz_keep hP hk1
          generalize H1 = H at hP hS ⊢
          have gr_399 : gi r_399 (-1) 10 := hw
          refine lv_istore_n (lv' := [(2, .int r_399), (4, .int 0), (0, .ref h0), (1, .int v1), (3, .int v3)]) hx hb dX12_laysOfficial_51 rfl hl (by decide) rfl (fun ls hl => ?_)
          refine lv_iload_n hx hb dX12_laysOfficial_52 rfl (lv_at hl 3 rfl) ?_
          refine lv_iload hx hb dX12_laysOfficial_53 (lv_at hl 1 rfl) ?_
          refine lv_iadd hx hb dX12_laysOfficial_55 ?_
          refine lv_topi (fun x_400 ex_400 => ?_)
          have gx_400 : gi x_400 0 23 := gi_add ex_400 g_394 (gi_c 0 0 (by decide)) (by decide)
          refine lv_istore_n (lv' := [(1, .int x_400), (2, .int r_399), (4, .int 0), (0, .ref h0), (3, .int v3)]) hx hb dX12_laysOfficial_56 rfl hl (by decide) rfl (fun ls hl => ?_)
          refine lv_aload_n hx hb dX12_laysOfficial_57 rfl (lv_at hl 3 rfl) ?_
          refine va_get (D := (dC, dI)) (ci := 12) (v := .ref (mr 20)) (C := RX12) (T := TX12) (N := 57) hx hb hts (fun w h => List.mem_cons_of_mem _ (jnGB_X12 w h)) hown hK hP 0 rfl rfl 46 (by decide) (hts _ (List.mem_cons_of_mem _ mGB_36)) (fun _ h9 => h9) rfl dX12_laysOfficial_58 ?_
          refine lv_iload_n hx hb dX12_laysOfficial_61 rfl (lv_at hl 4 rfl) ?_
          refine lv_iconst (v := 1) hx hb dX12_laysOfficial_62 (by decide) ?_
          refine lv_iadd hx hb dX12_laysOfficial_63 ?_
          refine lv_topi (fun x_401 ex_401 => ?_)
          have gx_401 : gi x_401 1 24 := gi_add ex_401 g_393 (gi_c 1 1 (by decide)) (by decide)
          refine lv_bipush (v := 29) hx hb dX12_laysOfficial_64 (by decide) ?_
          refine lv_iload_n hx hb dX12_laysOfficial_66 rfl (lv_at hl 4 rfl) ?_
          refine lv_iconst (v := 1) hx hb dX12_laysOfficial_67 (by decide) ?_
          refine lv_iadd hx hb dX12_laysOfficial_68 ?_
          refine lv_topi (fun x_402 ex_402 => ?_)
          have gx_402 : gi x_402 1 24 := gi_add ex_402 g_393 (gi_c 1 1 (by decide)) (by decide)
          refine lv_imul hx hb dX12_laysOfficial_69 ?_
          refine lv_topi (fun x_403 ex_403 => ?_)
          have gx_403 : gi x_403 29 696 := gi_mul ex_403 (gi_c 29 29 (by decide)) gx_402 (by decide)
          refine lv_iload_n hx hb dX12_laysOfficial_70 rfl (lv_at hl 0 rfl) ?_
          refine lv_iadd hx hb dX12_laysOfficial_71 ?_
          refine lv_topi (fun x_404 ex_404 => ?_)
          have gx_404 : gi x_404 29 719 := gi_add ex_404 gx_403 gx_400 (by decide)
          refine va_iast hx hb hK hP hD hS 21 20 rfl rfl (gi_in gx_401 (by decide)) dX12_laysOfficial_72 (fun H locs hP hD hS => ?_)
          have hP : va_P (dC, dI) vwCl (MWn h0 mr km (mi 0) (mi 1) (mi 2) (mi 3) (mi 4) (mi 5) (mi 6) (mi 7) (mi 10) (mi 17) (mi 23) (mi 24) (mi 26) (mi 27) (mi 28) (mi 29) (mi 30) (mi 31) (mi 32) (mi 33) (mi 37) (mi 41) (mi 42) (mi 43) (mi 44) (mi 45) (mi 47) (mi 48) (mi 49) (mi 50) (mi 51) (mi 54) (mi 56) fm_trust fm_letter fm_reportPlace fm_reportKind fm_struck fm_reportMonth fm_reportDay fm_reportKnown fm_deedMonth fm_deedDay fm_deedLong fm_deedKind fm_kept fm_tape fm_must fm_least fm_pin z4 fm_verdict fm_row (upd z5 (x_401 : Int32).toNatClampNeg x_404) fm_aside fm_worth fm_out) H := hP
          have hD : va_D A (MWn h0 mr km (mi 0) (mi 1) (mi 2) (mi 3) (mi 4) (mi 5) (mi 6) (mi 7) (mi 10) (mi 17) (mi 23) (mi 24) (mi 26) (mi 27) (mi 28) (mi 29) (mi 30) (mi 31) (mi 32) (mi 33) (mi 37) (mi 41) (mi 42) (mi 43) (mi 44) (mi 45) (mi 47) (mi 48) (mi 49) (mi 50) (mi 51) (mi 54) (mi 56) fm_trust fm_letter fm_reportPlace fm_reportKind fm_struck fm_reportMonth fm_reportDay fm_reportKnown fm_deedMonth fm_deedDay fm_deedLong fm_deedKind fm_kept fm_tape fm_must fm_least fm_pin z4 fm_verdict fm_row (upd z5 (x_401 : Int32).toNatClampNeg x_404) fm_aside fm_worth fm_out) := hD
          generalize upd z5 (x_401 : Int32).toNatClampNeg x_404 = f_405 at hP hD
          obtain ⟨x_406, ex_406⟩ : ∃ y : Int32, y = v3 + 1 := ⟨_, rfl⟩
          have gx_406 : gi x_406 1 24 := gi_add ex_406 g_393 (gi_c 1 1 (by decide)) (by decide)
          refine lv_iinc (v := x_406) (lv' := [(3, .int x_406), (1, .int x_400), (2, .int r_399), (4, .int 0), (0, .ref h0)]) hx hb dX12_laysOfficial_73 hl (k := 4) rfl (by rw [ex_406]; rfl) (by decide) rfl (fun ls hl => ?_)
          refine lv_goto (tgt := 18) hx hb dX12_laysOfficial_76 (by decide) ?_
          exact ih x_400 r_399 x_406 z4 f_405 _ _ _ (gi_w gx_400 (by decide)) gr_399 (gi_w gx_406 (by decide)) (by have qgx_406 := gx_406.1; have rgx_406 := gx_406.2; have igx_406 : x_406.toInt = v3.toInt + 1 := (by have hc1 : (1 : Int32).toInt = 1 := (by decide); have h9 := gi_addI ex_406 (by have h1 := g_393.1; have h2 := (gi_c 1 1 (by decide)).1; have h3 := g_393.2; have h4 := (gi_c 1 1 (by decide)).2; omega) (by have h1 := g_393.1; have h2 := (gi_c 1 1 (by decide)).1; have h3 := g_393.2; have h4 := (gi_c 1 1 (by decide)).2; omega); rw [hc1] at h9; exact h9); have qgv3 := g_393.1; have rgv3 := g_393.2; have qgx_400 := gx_400.1; have rgx_400 := gx_400.2; have igx_400 : x_400.toInt = v1.toInt + 0 := (by have hc0 : (0 : Int32).toInt = 0 := (by decide); have h9 := gi_addI ex_400 (by have h1 := g_394.1; have h2 := (gi_c 0 0 (by decide)).1; have h3 := g_394.2; have h4 := (gi_c 0 0 (by decide)).2; omega) (by have h1 := g_394.1; have h2 := (gi_c 0 0 (by decide)).1; have h3 := g_394.2; have h4 := (gi_c 0 0 (by decide)).2; omega); rw [hc0] at h9; exact h9); have qgv1 := g_394.1; have rgv1 := g_394.2; have y1 := (Int32.lt_iff_toInt_lt.mp (Int32.not_le.mp c_392)); omega) (by have av3 := gv3.1; have bv3 := gv3.2; have qgx_406 := gx_406.1; have rgx_406 := gx_406.2; have igx_406 : x_406.toInt = v3.toInt + 1 := (by have hc1 : (1 : Int32).toInt = 1 := (by decide); have h9 := gi_addI ex_406 (by have h1 := g_393.1; have h2 := (gi_c 1 1 (by decide)).1; have h3 := g_393.2; have h4 := (gi_c 1 1 (by decide)).2; omega) (by have h1 := g_393.1; have h2 := (gi_c 1 1 (by decide)).1; have h3 := g_393.2; have h4 := (gi_c 1 1 (by decide)).2; omega); rw [hc1] at h9; exact h9); have qgv3 := g_393.1; have rgv3 := g_393.2; omega) hP hD hS (lv_sub hl [4, 1, 2, 0] rfl)
        · have g_407 : gi r_396 1 2147483647 := gi_lt_r (Int32.not_le.mp c_397) (gi_c 0 0 (by decide)) (gi_any r_396) (by decide)
          refine lv_iconst (v := 1) hx hb dX12_laysOfficial_37 (by decide) ?_
          refine lv_goto (tgt := 42) hx hb dX12_laysOfficial_38 (by decide) ?_
          refine lv_istore (lv' := [(4, .int 1), (0, .ref h0), (1, .int v1), (2, .int v2), (3, .int v3)]) hx hb dX12_laysOfficial_42 hl (by decide) rfl (fun ls hl => ?_)
          refine lv_aload_n hx hb dX12_laysOfficial_44 rfl (lv_at hl 1 rfl) ?_
          refine lv_iload_n hx hb dX12_laysOfficial_45 rfl (lv_at hl 3 rfl) ?_
          refine lv_iload hx hb dX12_laysOfficial_46 (lv_at hl 0 rfl) ?_
          refine va_calli (va_runV (As := [.int v2, .int 1]) (rest := []) ⟨hx, hb, hml, hown, hts⟩ (sX12_runBehind l dC dI h0 mi mr km fm_trust fm_letter fm_reportPlace fm_reportKind fm_struck fm_reportMonth fm_reportDay fm_reportKnown fm_deedMonth fm_deedDay fm_deedLong fm_deedKind fm_kept fm_tape fm_must fm_least fm_pin z4 fm_verdict fm_row z5 fm_aside fm_worth fm_out v2 1 (gi_w g_395 (by decide)) gmi_1 gmi_2 gmi_4 gmi_7 gmi_10 gmi_17 gmi_23 gmi_24 gmi_26 gmi_29 gmi_30 gmi_33 gmi_37 gmi_41 gmi_50 gmi_51 gmi_56 gv2 (gi_w (gi_c 1 1 (by decide)) (by decide))) (cwV 2 hts (gz_gV mGB_311 mGB_312 mGB_313 mGB_1 mGB_314 goodGB) rfl rfl rfl (by decide +kernel) ⟨Nat.le_trans (Nat.le_of_ble_eq_true rfl) hRf, Nat.le_trans (Nat.le_of_ble_eq_true rfl) hRl⟩) ⟨bl_R, mw_recv hK hP, fun U hU hW => ⟨rfl, by rw [hU]; exact hP, va_K.moved hW.alike hK⟩⟩ rfl rfl hl.1 rfl (lv_room (Nat.le_of_ble_eq_true rfl)) dX12_laysOfficial_48 ⟨hRc, hRs⟩) hS (fun q _ h => h.elim) (fun q h => h.elim) (fun r_408 u t H1 locs ht hvm hw hB hz1 hk1 hS => ?_)
          have hP := gz_keep hP hk1
          generalize H1 = H at hP hS ⊢
          have gr_408 : gi r_408 (-1) 10 := hw
          refine lv_istore_n (lv' := [(2, .int r_408), (4, .int 1), (0, .ref h0), (1, .int v1), (3, .int v3)]) hx hb dX12_laysOfficial_51 rfl hl (by decide) rfl (fun ls hl => ?_)
          refine lv_iload_n hx hb dX12_laysOfficial_52 rfl (lv_at hl 3 rfl) ?_
          refine lv_iload hx hb dX12_laysOfficial_53 (lv_at hl 1 rfl) ?_
          refine lv_iadd hx hb dX12_laysOfficial_55 ?_
          refine lv_topi (fun x_409 ex_409 => ?_)
          have gx_409 : gi x_409 1 24 := gi_add ex_409 g_394 (gi_c 1 1 (by decide)) (by decide)
          refine lv_istore_n (lv' := [(1, .int x_409), (2, .int r_408), (4, .int 1), (0, .ref h0), (3, .int v3)]) hx hb dX12_laysOfficial_56 rfl hl (by decide) rfl (fun ls hl => ?_)
          refine lv_aload_n hx hb dX12_laysOfficial_57 rfl (lv_at hl 3 rfl) ?_
          refine va_get (D := (dC, dI)) (ci := 12) (v := .ref (mr 20)) (C := RX12) (T := TX12) (N := 57) hx hb hts (fun w h => List.mem_cons_of_mem _ (jnGB_X12 w h)) hown hK hP 0 rfl rfl 46 (by decide) (hts _ (List.mem_cons_of_mem _ mGB_36)) (fun _ h9 => h9) rfl dX12_laysOfficial_58 ?_
          refine lv_iload_n hx hb dX12_laysOfficial_61 rfl (lv_at hl 4 rfl) ?_
          refine lv_iconst (v := 1) hx hb dX12_laysOfficial_62 (by decide) ?_
          refine lv_iadd hx hb dX12_laysOfficial_63 ?_
          refine lv_topi (fun x_410 ex_410 => ?_)
          have gx_410 : gi x_410 1 24 := gi_add ex_410 g_393 (gi_c 1 1 (by decide)) (by decide)
          refine lv_bipush (v := 29) hx hb dX12_laysOfficial_64 (by decide) ?_
          refine lv_iload_n hx hb dX12_laysOfficial_66 rfl (lv_at hl 4 rfl) ?_
          refine lv_iconst (v := 1) hx hb dX12_laysOfficial_67 (by decide) ?_
          refine lv_iadd hx hb dX12_laysOfficial_68 ?_
          refine lv_topi (fun x_411 ex_411 => ?_)
          have gx_411 : gi x_411 1 24 := gi_add ex_411 g_393 (gi_c 1 1 (by decide)) (by decide)
          refine lv_imul hx hb dX12_laysOfficial_69 ?_
          refine lv_topi (fun x_412 ex_412 => ?_)
          have gx_412 : gi x_412 29 696 := gi_mul ex_412 (gi_c 29 29 (by decide)) gx_411 (by decide)
          refine lv_iload_n hx hb dX12_laysOfficial_70 rfl (lv_at hl 0 rfl) ?_
          refine lv_iadd hx hb dX12_laysOfficial_71 ?_
          refine lv_topi (fun x_413 ex_413 => ?_)
          have gx_413 : gi x_413 30 720 := gi_add ex_413 gx_412 gx_409 (by decide)
          refine va_iast hx hb hK hP hD hS 21 20 rfl rfl (gi_in gx_410 (by decide)) dX12_laysOfficial_72 (fun H locs hP hD hS => ?_)
          have hP : va_P (dC, dI) vwCl (MWn h0 mr km (mi 0) (mi 1) (mi 2) (mi 3) (mi 4) (mi 5) (mi 6) (mi 7) (mi 10) (mi 17) (mi 23) (mi 24) (mi 26) (mi 27) (mi 28) (mi 29) (mi 30) (mi 31) (mi 32) (mi 33) (mi 37) (mi 41) (mi 42) (mi 43) (mi 44) (mi 45) (mi 47) (mi 48) (mi 49) (mi 50) (mi 51) (mi 54) (mi 56) fm_trust fm_letter fm_reportPlace fm_reportKind fm_struck fm_reportMonth fm_reportDay fm_reportKnown fm_deedMonth fm_deedDay fm_deedLong fm_deedKind fm_kept fm_tape fm_must fm_least fm_pin z4 fm_verdict fm_row (upd z5 (x_410 : Int32).toNatClampNeg x_413) fm_aside fm_worth fm_out) H := hP
          have hD : va_D A (MWn h0 mr km (mi 0) (mi 1) (mi 2) (mi 3) (mi 4) (mi 5) (mi 6) (mi 7) (mi 10) (mi 17) (mi 23) (mi 24) (mi 26) (mi 27) (mi 28) (mi 29) (mi 30) (mi 31) (mi 32) (mi 33) (mi 37) (mi 41) (mi 42) (mi 43) (mi 44) (mi 45) (mi 47) (mi 48) (mi 49) (mi 50) (mi 51) (mi 54) (mi 56) fm_trust fm_letter fm_reportPlace fm_reportKind fm_struck fm_reportMonth fm_reportDay fm_reportKnown fm_deedMonth fm_deedDay fm_deedLong fm_deedKind fm_kept fm_tape fm_must fm_least fm_pin z4 fm_verdict fm_row (upd z5 (x_410 : Int32).toNatClampNeg x_413) fm_aside fm_worth fm_out) := hD
          generalize upd z5 (x_410 : Int32).toNatClampNeg x_413 = f_414 at hP hD
          obtain ⟨x_415, ex_415⟩ : ∃ y : Int32, y = v3 + 1 := ⟨_, rfl⟩
          have gx_415 : gi x_415 1 24 := gi_add ex_415 g_393 (gi_c 1 1 (by decide)) (by decide)
          refine lv_iinc (v := x_415) (lv' := [(3, .int x_415), (1, .int x_409), (2, .int r_408), (4, .int 1), (0, .ref h0)]) hx hb dX12_laysOfficial_73 hl (k := 4) rfl (by rw [ex_415]; rfl) (by decide) rfl (fun ls hl => ?_)
          refine lv_goto (tgt := 18) hx hb dX12_laysOfficial_76 (by decide) ?_
          exact ih x_409 r_408 x_415 z4 f_414 _ _ _ (gi_w gx_409 (by decide)) gr_408 (gi_w gx_415 (by decide)) (by have qgx_415 := gx_415.1; have rgx_415 := gx_415.2; have igx_415 : x_415.toInt = v3.toInt + 1 := (by have hc1 : (1 : Int32).toInt = 1 := (by decide); have h9 := gi_addI ex_415 (by have h1 := g_393.1; have h2 := (gi_c 1 1 (by decide)).1; have h3 := g_393.2; have h4 := (gi_c 1 1 (by decide)).2; omega) (by have h1 := g_393.1; have h2 := (gi_c 1 1 (by decide)).1; have h3 := g_393.2; have h4 := (gi_c 1 1 (by decide)).2; omega); rw [hc1] at h9; exact h9); have qgv3 := g_393.1; have rgv3 := g_393.2; have qgx_409 := gx_409.1; have rgx_409 := gx_409.2; have igx_409 : x_409.toInt = v1.toInt + 1 := (by have hc1 : (1 : Int32).toInt = 1 := (by decide); have h9 := gi_addI ex_409 (by have h1 := g_394.1; have h2 := (gi_c 1 1 (by decide)).1; have h3 := g_394.2; have h4 := (gi_c 1 1 (by decide)).2; omega) (by have h1 := g_394.1; have h2 := (gi_c 1 1 (by decide)).1; have h3 := g_394.2; have h4 := (gi_c 1 1 (by decide)).2; omega); rw [hc1] at h9; exact h9); have qgv1 := g_394.1; have rgv1 := g_394.2; have y1 := (Int32.lt_iff_toInt_lt.mp (Int32.not_le.mp c_392)); omega) (by have av3 := gv3.1; have bv3 := gv3.2; have qgx_415 := gx_415.1; have rgx_415 := gx_415.2; have igx_415 : x_415.toInt = v3.toInt + 1 := (by have hc1 : (1 : Int32).toInt = 1 := (by decide); have h9 := gi_addI ex_415 (by have h1 := g_393.1; have h2 := (gi_c 1 1 (by decide)).1; have h3 := g_393.2; have h4 := (gi_c 1 1 (by decide)).2; omega) (by have h1 := g_393.1; have h2 := (gi_c 1 1 (by decide)).1; have h3 := g_393.2; have h4 := (gi_c 1 1 (by decide)).2; omega); rw [hc1] at h9; exact h9); have qgv3 := g_393.1; have rgv3 := g_393.2; omega) hP hD hS (lv_sub hl [4, 1, 2, 0] rfl)
abbrev pb_sX12_laysOfficial (dC : Nat → ClassId) (dI : Nat → Nat → Nat) (A9 : Nat → Prop) (h0 : Nat) (mi : Nat → Int32) (mr : Nat → Nat) (km : Nat → ClassId) (fm_must : Nat → Int32) (fm_least : Nat → Int32) (fm_pin : Nat → Int32) (fm_ways : Nat → Int32) (fm_official : Nat → Int32) (fm_trust : Nat → Int32) (fm_letter : Nat → Int32) (fm_reportPlace : Nat → Int32) (fm_reportKind : Nat → Int32) (fm_struck : Nat → Int32) (fm_reportMonth : Nat → Int32) (fm_reportDay : Nat → Int32) (fm_reportKnown : Nat → Int32) (fm_deedMonth : Nat → Int32) (fm_deedDay : Nat → Int32) (fm_deedLong : Nat → Int32) (fm_deedKind : Nat → Int32) (fm_kept : Nat → Int32) (fm_tape : Nat → Int32) (fm_verdict : Nat → Int32) (fm_row : Nat → Int32) (fm_aside : Nat → Int32) (fm_worth : Nat → Int32) (fm_out : Nat → Int32) (z4 : Nat → Int32) (z5 : Nat → Int32) (t : State) : Prop := va_P (dC, dI) vwCl (MWn h0 mr km (mi 0) (mi 1) (mi 2) (mi 3) (mi 4) (mi 5) (mi 6) (mi 7) (mi 10) (mi 17) (mi 23) (mi 24) (mi 26) (mi 27) (mi 28) (mi 29) (mi 30) (mi 31) (mi 32) (mi 33) (mi 37) (mi 41) (mi 42) (mi 43) (mi 44) (mi 45) (mi 47) (mi 48) (mi 49) (mi 50) (mi 51) (mi 54) (mi 56) fm_trust fm_letter fm_reportPlace fm_reportKind fm_struck fm_reportMonth fm_reportDay fm_reportKnown fm_deedMonth fm_deedDay fm_deedLong fm_deedKind fm_kept fm_tape fm_must fm_least fm_pin z4 fm_verdict fm_row z5 fm_aside fm_worth fm_out) t.heap ∧ va_D A9 (MWn h0 mr km (mi 0) (mi 1) (mi 2) (mi 3) (mi 4) (mi 5) (mi 6) (mi 7) (mi 10) (mi 17) (mi 23) (mi 24) (mi 26) (mi 27) (mi 28) (mi 29) (mi 30) (mi 31) (mi 32) (mi 33) (mi 37) (mi 41) (mi 42) (mi 43) (mi 44) (mi 45) (mi 47) (mi 48) (mi 49) (mi 50) (mi 51) (mi 54) (mi 56) fm_trust fm_letter fm_reportPlace fm_reportKind fm_struck fm_reportMonth fm_reportDay fm_reportKnown fm_deedMonth fm_deedDay fm_deedLong fm_deedKind fm_kept fm_tape fm_must fm_least fm_pin z4 fm_verdict fm_row z5 fm_aside fm_worth fm_out)
set_option maxHeartbeats 4000000 in
set_option maxRecDepth 100000 in
theorem sX12_laysOfficial (l : Launch) (dC : Nat → ClassId) (dI : Nat → Nat → Nat) (sz : Nat) (h0 : Nat) (mi : Nat → Int32) (mr : Nat → Nat) (km : Nat → ClassId) (fm_must : Nat → Int32) (fm_least : Nat → Int32) (fm_pin : Nat → Int32) (fm_ways : Nat → Int32) (fm_official : Nat → Int32) (fm_trust : Nat → Int32) (fm_letter : Nat → Int32) (fm_reportPlace : Nat → Int32) (fm_reportKind : Nat → Int32) (fm_struck : Nat → Int32) (fm_reportMonth : Nat → Int32) (fm_reportDay : Nat → Int32) (fm_reportKnown : Nat → Int32) (fm_deedMonth : Nat → Int32) (fm_deedDay : Nat → Int32) (fm_deedLong : Nat → Int32) (fm_deedKind : Nat → Int32) (fm_kept : Nat → Int32) (fm_tape : Nat → Int32) (fm_verdict : Nat → Int32) (fm_row : Nat → Int32) (fm_aside : Nat → Int32) (fm_worth : Nat → Int32) (fm_out : Nat → Int32) (gmi_0 : gi (mi 0) 0 24) (gmi_1 : gi (mi 1) 0 5) (gmi_2 : gi (mi 2) 0 5) (gmi_4 : gi (mi 4) 0 1) (gmi_7 : gi (mi 7) 0 6) (gmi_10 : gi (mi 10) 0 24) (gmi_17 : gi (mi 17) 0 8) (gmi_23 : gi (mi 23) 0 300) (gmi_24 : gi (mi 24) 0 1) (gmi_26 : gi (mi 26) 0 1600) (gmi_29 : gi (mi 29) 0 1600) (gmi_30 : gi (mi 30) 0 1600) (gmi_33 : gi (mi 33) 0 1) (gmi_37 : gi (mi 37) 0 1) (gmi_41 : gi (mi 41) 0 24) (gmi_50 : gi (mi 50) 0 1) (gmi_51 : gi (mi 51) 0 1) (gmi_56 : gi (mi 56) 0 80) : Met l yX12_laysOfficial (.code yX12_laysOfficial cX12_laysOfficial 5 none :: wsGB) ({ frames := 3, cells := 0, slots := 0, locals := 73 }) (va_Pc [.ref h0] (fun U => U.heap.size = sz ∧ va_P (dC, dI) vwCl (MWn h0 mr km (mi 0) (mi 1) (mi 2) (mi 3) (mi 4) (mi 5) (mi 6) (mi 7) (mi 10) (mi 17) (mi 23) (mi 24) (mi 26) (mi 27) (mi 28) (mi 29) (mi 30) (mi 31) (mi 32) (mi 33) (mi 37) (mi 41) (mi 42) (mi 43) (mi 44) (mi 45) (mi 47) (mi 48) (mi 49) (mi 50) (mi 51) (mi 54) (mi 56) fm_trust fm_letter fm_reportPlace fm_reportKind fm_struck fm_reportMonth fm_reportDay fm_reportKnown fm_deedMonth fm_deedDay fm_deedLong fm_deedKind fm_kept fm_tape fm_must fm_least fm_pin fm_ways fm_verdict fm_row fm_official fm_aside fm_worth fm_out) U.heap ∧ va_K (dC, dI) vwCl (MT km) U ∧ va_D (fun _ => True) (MWn h0 mr km (mi 0) (mi 1) (mi 2) (mi 3) (mi 4) (mi 5) (mi 6) (mi 7) (mi 10) (mi 17) (mi 23) (mi 24) (mi 26) (mi 27) (mi 28) (mi 29) (mi 30) (mi 31) (mi 32) (mi 33) (mi 37) (mi 41) (mi 42) (mi 43) (mi 44) (mi 45) (mi 47) (mi 48) (mi 49) (mi 50) (mi 51) (mi 54) (mi 56) fm_trust fm_letter fm_reportPlace fm_reportKind fm_struck fm_reportMonth fm_reportDay fm_reportKnown fm_deedMonth fm_deedDay fm_deedLong fm_deedKind fm_kept fm_tape fm_must fm_least fm_pin fm_ways fm_verdict fm_row fm_official fm_aside fm_worth fm_out))) (va_Qv (fun (u : Unit) => True) (fun _ t => ∃ (z4 : Nat → Int32) (z5 : Nat → Int32), pb_sX12_laysOfficial dC dI (va_A (MWn h0 mr km (mi 0) (mi 1) (mi 2) (mi 3) (mi 4) (mi 5) (mi 6) (mi 7) (mi 10) (mi 17) (mi 23) (mi 24) (mi 26) (mi 27) (mi 28) (mi 29) (mi 30) (mi 31) (mi 32) (mi 33) (mi 37) (mi 41) (mi 42) (mi 43) (mi 44) (mi 45) (mi 47) (mi 48) (mi 49) (mi 50) (mi 51) (mi 54) (mi 56) fm_trust fm_letter fm_reportPlace fm_reportKind fm_struck fm_reportMonth fm_reportDay fm_reportKnown fm_deedMonth fm_deedDay fm_deedLong fm_deedKind fm_kept fm_tape fm_must fm_least fm_pin fm_ways fm_verdict fm_row fm_official fm_aside fm_worth fm_out) sz) h0 mi mr km fm_must fm_least fm_pin fm_ways fm_official fm_trust fm_letter fm_reportPlace fm_reportKind fm_struck fm_reportMonth fm_reportDay fm_reportKnown fm_deedMonth fm_deedDay fm_deedLong fm_deedKind fm_kept fm_tape fm_verdict fm_row fm_aside fm_worth fm_out z4 z5 t) (va_A (MWn h0 mr km (mi 0) (mi 1) (mi 2) (mi 3) (mi 4) (mi 5) (mi 6) (mi 7) (mi 10) (mi 17) (mi 23) (mi 24) (mi 26) (mi 27) (mi 28) (mi 29) (mi 30) (mi 31) (mi 32) (mi 33) (mi 37) (mi 41) (mi 42) (mi 43) (mi 44) (mi 45) (mi 47) (mi 48) (mi 49) (mi 50) (mi 51) (mi 54) (mi 56) fm_trust fm_letter fm_reportPlace fm_reportKind fm_struck fm_reportMonth fm_reportDay fm_reportKnown fm_deedMonth fm_deedDay fm_deedLong fm_deedKind fm_kept fm_tape fm_must fm_least fm_pin fm_ways fm_verdict fm_row fm_official fm_aside fm_worth fm_out) sz)) 0 0 (va_A (MWn h0 mr km (mi 0) (mi 1) (mi 2) (mi 3) (mi 4) (mi 5) (mi 6) (mi 7) (mi 10) (mi 17) (mi 23) (mi 24) (mi 26) (mi 27) (mi 28) (mi 29) (mi 30) (mi 31) (mi 32) (mi 33) (mi 37) (mi 41) (mi 42) (mi 43) (mi 44) (mi 45) (mi 47) (mi 48) (mi 49) (mi 50) (mi 51) (mi 54) (mi 56) fm_trust fm_letter fm_reportPlace fm_reportKind fm_struck fm_reportMonth fm_reportDay fm_reportKnown fm_deedMonth fm_deedDay fm_deedLong fm_deedKind fm_kept fm_tape fm_must fm_least fm_pin fm_ways fm_verdict fm_row fm_official fm_aside fm_worth fm_out) sz) := by
  refine Met.ofW (cc := cX12_laysOfficial) (maxL := 5) (ret := none) (by decide) rfl ?_
  intro p e s m args below meth c s₁ B hml hv
  obtain ⟨rfl, hsz, hP, hK, hD0⟩ := hv
  have hx := B.exec
  have hb := B.bytes
  have hr := B.returns
  have hts := atoms_spec (ws := (.code yX12_laysOfficial cX12_laysOfficial 5 none :: wsGB)) B.pre
  have hown : s.vm.findClass RX12 = some m.cls := findClass_of_methodNamed B.named
  have hlocks := B.notSynchronized
  subst hsz
  have hD := hD0.self (sz := s.heap.size)
  generalize hAe : va_A (MWn h0 mr km (mi 0) (mi 1) (mi 2) (mi 3) (mi 4) (mi 5) (mi 6) (mi 7) (mi 10) (mi 17) (mi 23) (mi 24) (mi 26) (mi 27) (mi 28) (mi 29) (mi 30) (mi 31) (mi 32) (mi 33) (mi 37) (mi 41) (mi 42) (mi 43) (mi 44) (mi 45) (mi 47) (mi 48) (mi 49) (mi 50) (mi 51) (mi 54) (mi 56) fm_trust fm_letter fm_reportPlace fm_reportKind fm_struck fm_reportMonth fm_reportDay fm_reportKnown fm_deedMonth fm_deedDay fm_deedLong fm_deedKind fm_kept fm_tape fm_must fm_least fm_pin fm_ways fm_verdict fm_row fm_official fm_aside fm_worth fm_out) s.heap.size = A at hD ⊢
  have hA : ∀ q : Nat, s.heap.size ≤ q → A q := fun q h => by rw [← hAe]; exact Or.inr h
  have hS : va_S A s.heap s.heap [] := va_S.rf
  have hl := lv_entry ([.ref h0]) (n := 5) (Nat.le_of_ble_eq_true rfl)
  rw [lg_entry_eq]
  generalize (lg_sl ([.ref h0]) ++ List.replicate (5 - (lg_sl ([.ref h0])).length) Slot.unset).toArray = ls at hl ⊢
  have hl : lv_has ls 5 [(0, .ref h0)] := hl
  refine lv_aload_n hx hb dX12_laysOfficial_0 rfl (lv_at hl 0 rfl) ?_
  have hFc := gz_fullF hD hS hA
  refine va_calli (va_runV (As := []) (rest := []) ⟨hx, hb, hml, hown, hts⟩ (sX12_counts l dC dI s.heap.size h0 mi mr km fm_must fm_least fm_pin fm_ways fm_trust fm_letter fm_reportPlace fm_reportKind fm_struck fm_reportMonth fm_reportDay fm_reportKnown fm_deedMonth fm_deedDay fm_deedLong fm_deedKind fm_kept fm_tape fm_verdict fm_row fm_official fm_aside fm_worth fm_out gmi_0 gmi_1 gmi_2 gmi_4 gmi_7 gmi_10 gmi_17 gmi_23 gmi_24 gmi_26 gmi_29 gmi_30 gmi_33 gmi_37 gmi_41 gmi_50 gmi_51 gmi_56) (cwV 0 hts (gz_gV mGB_299 mGB_300 mGB_301 mGB_1 mGB_302 goodGB) rfl rfl rfl (by decide +kernel) ⟨Nat.le_of_ble_eq_true rfl, Nat.le_of_ble_eq_true rfl⟩) ⟨bl_W, mw_recv hK hP, fun U hU hW => ⟨rfl, by rw [hU], by rw [hU]; exact hP, va_K.moved hW.alike hK, hD.weaken (fun _ _ _ _ => trivial)⟩⟩ rfl rfl hl.1 rfl (lv_room (Nat.le_of_ble_eq_true rfl)) dX12_laysOfficial_1 ⟨Nat.zero_le _, Nat.zero_le _⟩) hS (fun q _ h => hFc q h) hFc (fun r_416 u t H1 locs ht hvm hw hB hz1 hk1 hS => ?_)
  obtain ⟨f_417, hB⟩ := hB
  obtain ⟨hP1, hD1⟩ := hB
  rw [ht] at hP1
  have hD : va_D A (MWn h0 mr km (mi 0) (mi 1) (mi 2) (mi 3) (mi 4) (mi 5) (mi 6) (mi 7) (mi 10) (mi 17) (mi 23) (mi 24) (mi 26) (mi 27) (mi 28) (mi 29) (mi 30) (mi 31) (mi 32) (mi 33) (mi 37) (mi 41) (mi 42) (mi 43) (mi 44) (mi 45) (mi 47) (mi 48) (mi 49) (mi 50) (mi 51) (mi 54) (mi 56) fm_trust fm_letter fm_reportPlace fm_reportKind fm_struck fm_reportMonth fm_reportDay fm_reportKnown fm_deedMonth fm_deedDay fm_deedLong fm_deedKind fm_kept fm_tape fm_must fm_least fm_pin f_417 fm_verdict fm_row fm_official fm_aside fm_worth fm_out) := gz_fullD hFc hD1
  have hP : va_P (dC, dI) vwCl (MWn h0 mr km (mi 0) (mi 1) (mi 2) (mi 3) (mi 4) (mi 5) (mi 6) (mi 7) (mi 10) (mi 17) (mi 23) (mi 24) (mi 26) (mi 27) (mi 28) (mi 29) (mi 30) (mi 31) (mi 32) (mi 33) (mi 37) (mi 41) (mi 42) (mi 43) (mi 44) (mi 45) (mi 47) (mi 48) (mi 49) (mi 50) (mi 51) (mi 54) (mi 56) fm_trust fm_letter fm_reportPlace fm_reportKind fm_struck fm_reportMonth fm_reportDay fm_reportKnown fm_deedMonth fm_deedDay fm_deedLong fm_deedKind fm_kept fm_tape fm_must fm_least fm_pin f_417 fm_verdict fm_row fm_official fm_aside fm_worth fm_out) H1 := hP1
  generalize H1 = H at hP hS ⊢
  refine lv_pop hx hb dX12_laysOfficial_4 rfl ?_
  refine lv_iconst (v := 0) hx hb dX12_laysOfficial_5 (by decide) ?_
  refine lv_istore_n (lv' := [(1, .int 0), (0, .ref h0)]) hx hb dX12_laysOfficial_6 rfl hl (by decide) rfl (fun ls hl => ?_)
  refine lv_iconst (v := 0) hx hb dX12_laysOfficial_7 (by decide) ?_
  refine lv_istore_n (lv' := [(2, .int 0), (1, .int 0), (0, .ref h0)]) hx hb dX12_laysOfficial_8 rfl hl (by decide) rfl (fun ls hl => ?_)
  refine lv_aload_n hx hb dX12_laysOfficial_9 rfl (lv_at hl 2 rfl) ?_
  refine va_get (D := (dC, dI)) (ci := 12) (v := .ref (mr 20)) (C := RX12) (T := TX12) (N := 57) hx hb hts (fun w h => List.mem_cons_of_mem _ (jnGB_X12 w h)) hown hK hP 0 rfl rfl 46 (by decide) (hts _ (List.mem_cons_of_mem _ mGB_36)) (fun _ h9 => h9) rfl dX12_laysOfficial_10 ?_
  refine lv_iconst (v := 0) hx hb dX12_laysOfficial_13 (by decide) ?_
  refine lv_iconst (v := 0) hx hb dX12_laysOfficial_14 (by decide) ?_
  refine va_iast hx hb hK hP hD hS 21 20 rfl rfl (gi_in (gi_c 0 0 (by decide)) (by decide)) dX12_laysOfficial_15 (fun H locs hP hD hS => ?_)
  have hP : va_P (dC, dI) vwCl (MWn h0 mr km (mi 0) (mi 1) (mi 2) (mi 3) (mi 4) (mi 5) (mi 6) (mi 7) (mi 10) (mi 17) (mi 23) (mi 24) (mi 26) (mi 27) (mi 28) (mi 29) (mi 30) (mi 31) (mi 32) (mi 33) (mi 37) (mi 41) (mi 42) (mi 43) (mi 44) (mi 45) (mi 47) (mi 48) (mi 49) (mi 50) (mi 51) (mi 54) (mi 56) fm_trust fm_letter fm_reportPlace fm_reportKind fm_struck fm_reportMonth fm_reportDay fm_reportKnown fm_deedMonth fm_deedDay fm_deedLong fm_deedKind fm_kept fm_tape fm_must fm_least fm_pin f_417 fm_verdict fm_row (upd fm_official (0 : Int32).toNatClampNeg 0) fm_aside fm_worth fm_out) H := hP
  have hD : va_D A (MWn h0 mr km (mi 0) (mi 1) (mi 2) (mi 3) (mi 4) (mi 5) (mi 6) (mi 7) (mi 10) (mi 17) (mi 23) (mi 24) (mi 26) (mi 27) (mi 28) (mi 29) (mi 30) (mi 31) (mi 32) (mi 33) (mi 37) (mi 41) (mi 42) (mi 43) (mi 44) (mi 45) (mi 47) (mi 48) (mi 49) (mi 50) (mi 51) (mi 54) (mi 56) fm_trust fm_letter fm_reportPlace fm_reportKind fm_struck fm_reportMonth fm_reportDay fm_reportKnown fm_deedMonth fm_deedDay fm_deedLong fm_deedKind fm_kept fm_tape fm_must fm_least fm_pin f_417 fm_verdict fm_row (upd fm_official (0 : Int32).toNatClampNeg 0) fm_aside fm_worth fm_out) := hD
  generalize upd fm_official (0 : Int32).toNatClampNeg 0 = f_418 at hP hD
  refine lv_iconst (v := 0) hx hb dX12_laysOfficial_16 (by decide) ?_
  refine lv_istore_n (lv' := [(3, .int 0), (2, .int 0), (1, .int 0), (0, .ref h0)]) hx hb dX12_laysOfficial_17 rfl hl (by decide) rfl (fun ls hl => ?_)
  refine (lp_sX12_laysOfficial h0 mi mr km fm_must fm_least fm_pin fm_ways fm_official fm_trust fm_letter fm_reportPlace fm_reportKind fm_struck fm_reportMonth fm_reportDay fm_reportKnown fm_deedMonth fm_deedDay fm_deedLong fm_deedKind fm_kept fm_tape fm_verdict fm_row fm_aside fm_worth fm_out gmi_0 gmi_1 gmi_2 gmi_4 gmi_7 gmi_10 gmi_17 gmi_23 gmi_24 gmi_26 gmi_29 gmi_30 gmi_33 gmi_37 gmi_41 gmi_50 gmi_51 gmi_56 hx hb hml hown hts hK hA (Nat.le_of_ble_eq_true rfl) (Nat.le_of_ble_eq_true rfl) (Nat.zero_le _) (Nat.zero_le _) (fun z4 z5 H locs ls hP hD hS hl => ?_) 62) 0 0 0 f_417 f_418 _ _ _ (gi_w (gi_c 0 0 (by decide)) (by decide)) (gi_w (gi_c 0 0 (by decide)) (by decide)) (gi_w (gi_c 0 0 (by decide)) (by decide)) (by have k0 : (0 : Int32).toInt = 0 := (by decide); have k0 : (0 : Int32).toInt = 0 := (by decide); omega) (by have k0 : (0 : Int32).toInt = 0 := (by decide); omega) hP hD hS (lv_sub hl [3, 2, 1, 0] rfl)
  · skip
    exact W.vret hx hb hr (fun t ht hW => ⟨⟨(), rfl, trivial, z4, z5, by rw [ht]; exact hP, hD⟩, hS.F ht⟩) hS.2.2 dX12_laysOfficial_79
theorem dX12_officialBy_0 : decode cX12_officialBy 0 = .ok (.aload_n 0, 1) := by decide +kernel
theorem dX12_officialBy_1 : decode cX12_officialBy 1 = .ok (.iload_n 1, 1) := by decide +kernel
theorem dX12_officialBy_2 : decode cX12_officialBy 2 = .ok (.invokevirtual 362, 3) := by decide +kernel
theorem dX12_officialBy_5 : decode cX12_officialBy 5 = .ok (.aload_n 0, 1) := by decide +kernel
theorem dX12_officialBy_6 : decode cX12_officialBy 6 = .ok (.invokevirtual 376, 3) := by decide +kernel
theorem dX12_officialBy_9 : decode cX12_officialBy 9 = .ok (.return_, 1) := by decide +kernel
abbrev pb_sX12_officialBy (dC : Nat → ClassId) (dI : Nat → Nat → Nat) (A9 : Nat → Prop) (h0 : Nat) (mi : Nat → Int32) (mr : Nat → Nat) (km : Nat → ClassId) (fm_must : Nat → Int32) (fm_least : Nat → Int32) (fm_pin : Nat → Int32) (fm_ways : Nat → Int32) (fm_verdict : Nat → Int32) (fm_row : Nat → Int32) (fm_struck : Nat → Int32) (fm_reportKnown : Nat → Int32) (fm_reportPlace : Nat → Int32) (fm_reportMonth : Nat → Int32) (fm_reportDay : Nat → Int32) (fm_reportKind : Nat → Int32) (fm_trust : Nat → Int32) (fm_letter : Nat → Int32) (fm_official : Nat → Int32) (fm_deedMonth : Nat → Int32) (fm_deedDay : Nat → Int32) (fm_deedLong : Nat → Int32) (fm_deedKind : Nat → Int32) (fm_kept : Nat → Int32) (fm_tape : Nat → Int32) (fm_aside : Nat → Int32) (fm_worth : Nat → Int32) (fm_out : Nat → Int32) (p1 : Int32) (w0_37 : Int32) (w0_41 : Int32) (z1 : Nat → Int32) (z2 : Nat → Int32) (z3 : Nat → Int32) (z4 : Nat → Int32) (z5 : Nat → Int32) (z6 : Nat → Int32) (z15 : Nat → Int32) (t : State) : Prop := gi w0_37 0 1 ∧ gi w0_41 0 24 ∧ ga z6 24 0 23 ∧ va_P (dC, dI) vwCl (MWn h0 mr km (mi 0) (mi 1) (mi 2) (mi 3) (mi 4) (mi 5) (mi 6) (mi 7) (mi 10) (mi 17) (mi 23) (mi 24) (mi 26) (mi 27) (mi 28) (mi 29) (mi 30) (mi 31) (mi 32) (mi 33) w0_37 w0_41 (mi 42) (mi 43) (mi 44) (mi 45) (mi 47) (mi 48) (mi 49) (mi 50) (mi 51) (mi 54) (mi 56) fm_trust fm_letter fm_reportPlace fm_reportKind fm_struck fm_reportMonth fm_reportDay fm_reportKnown fm_deedMonth fm_deedDay fm_deedLong fm_deedKind fm_kept fm_tape z1 z2 z3 z4 z5 z6 z15 fm_aside fm_worth fm_out) t.heap ∧ va_D A9 (MWn h0 mr km (mi 0) (mi 1) (mi 2) (mi 3) (mi 4) (mi 5) (mi 6) (mi 7) (mi 10) (mi 17) (mi 23) (mi 24) (mi 26) (mi 27) (mi 28) (mi 29) (mi 30) (mi 31) (mi 32) (mi 33) w0_37 w0_41 (mi 42) (mi 43) (mi 44) (mi 45) (mi 47) (mi 48) (mi 49) (mi 50) (mi 51) (mi 54) (mi 56) fm_trust fm_letter fm_reportPlace fm_reportKind fm_struck fm_reportMonth fm_reportDay fm_reportKnown fm_deedMonth fm_deedDay fm_deedLong fm_deedKind fm_kept fm_tape z1 z2 z3 z4 z5 z6 z15 fm_aside fm_worth fm_out)
set_option maxHeartbeats 4000000 in
set_option maxRecDepth 100000 in
theorem sX12_officialBy (l : Launch) (dC : Nat → ClassId) (dI : Nat → Nat → Nat) (sz : Nat) (h0 : Nat) (mi : Nat → Int32) (mr : Nat → Nat) (km : Nat → ClassId) (fm_must : Nat → Int32) (fm_least : Nat → Int32) (fm_pin : Nat → Int32) (fm_ways : Nat → Int32) (fm_verdict : Nat → Int32) (fm_row : Nat → Int32) (fm_struck : Nat → Int32) (fm_reportKnown : Nat → Int32) (fm_reportPlace : Nat → Int32) (fm_reportMonth : Nat → Int32) (fm_reportDay : Nat → Int32) (fm_reportKind : Nat → Int32) (fm_trust : Nat → Int32) (fm_letter : Nat → Int32) (fm_official : Nat → Int32) (fm_deedMonth : Nat → Int32) (fm_deedDay : Nat → Int32) (fm_deedLong : Nat → Int32) (fm_deedKind : Nat → Int32) (fm_kept : Nat → Int32) (fm_tape : Nat → Int32) (fm_aside : Nat → Int32) (fm_worth : Nat → Int32) (fm_out : Nat → Int32) (p1 : Int32) (gmi_0 : gi (mi 0) 0 24) (gmi_1 : gi (mi 1) 0 5) (gmi_2 : gi (mi 2) 0 5) (gmi_4 : gi (mi 4) 0 1) (gmi_7 : gi (mi 7) 0 6) (gmi_10 : gi (mi 10) 0 24) (gmi_17 : gi (mi 17) 0 8) (gmi_23 : gi (mi 23) 0 300) (gmi_24 : gi (mi 24) 0 1) (gmi_26 : gi (mi 26) 0 1600) (gmi_29 : gi (mi 29) 0 1600) (gmi_30 : gi (mi 30) 0 1600) (gmi_33 : gi (mi 33) 0 1) (gmi_37 : gi (mi 37) 0 1) (gmi_41 : gi (mi 41) 0 24) (gmi_50 : gi (mi 50) 0 1) (gmi_51 : gi (mi 51) 0 1) (gmi_56 : gi (mi 56) 0 80) (gfm_row : ga fm_row 24 0 23) (gfm_struck : ga fm_struck 24 0 1) (gfm_reportKnown : ga fm_reportKnown 24 0 999) (gfm_reportPlace : ga fm_reportPlace 24 0 5) (gfm_reportMonth : ga fm_reportMonth 24 0 23) (gfm_reportDay : ga fm_reportDay 24 0 999) : Met l yX12_officialBy (.code yX12_officialBy cX12_officialBy 2 none :: wsGB) ({ frames := 5, cells := 0, slots := 0, locals := 119 }) (va_Pc [.ref h0, .int p1] (fun U => U.heap.size = sz ∧ va_P (dC, dI) vwCl (MWn h0 mr km (mi 0) (mi 1) (mi 2) (mi 3) (mi 4) (mi 5) (mi 6) (mi 7) (mi 10) (mi 17) (mi 23) (mi 24) (mi 26) (mi 27) (mi 28) (mi 29) (mi 30) (mi 31) (mi 32) (mi 33) (mi 37) (mi 41) (mi 42) (mi 43) (mi 44) (mi 45) (mi 47) (mi 48) (mi 49) (mi 50) (mi 51) (mi 54) (mi 56) fm_trust fm_letter fm_reportPlace fm_reportKind fm_struck fm_reportMonth fm_reportDay fm_reportKnown fm_deedMonth fm_deedDay fm_deedLong fm_deedKind fm_kept fm_tape fm_must fm_least fm_pin fm_ways fm_verdict fm_row fm_official fm_aside fm_worth fm_out) U.heap ∧ va_K (dC, dI) vwCl (MT km) U ∧ va_D (fun _ => True) (MWn h0 mr km (mi 0) (mi 1) (mi 2) (mi 3) (mi 4) (mi 5) (mi 6) (mi 7) (mi 10) (mi 17) (mi 23) (mi 24) (mi 26) (mi 27) (mi 28) (mi 29) (mi 30) (mi 31) (mi 32) (mi 33) (mi 37) (mi 41) (mi 42) (mi 43) (mi 44) (mi 45) (mi 47) (mi 48) (mi 49) (mi 50) (mi 51) (mi 54) (mi 56) fm_trust fm_letter fm_reportPlace fm_reportKind fm_struck fm_reportMonth fm_reportDay fm_reportKnown fm_deedMonth fm_deedDay fm_deedLong fm_deedKind fm_kept fm_tape fm_must fm_least fm_pin fm_ways fm_verdict fm_row fm_official fm_aside fm_worth fm_out))) (va_Qv (fun (u : Unit) => True) (fun _ t => ∃ (w0_37 : Int32) (w0_41 : Int32) (z1 : Nat → Int32) (z2 : Nat → Int32) (z3 : Nat → Int32) (z4 : Nat → Int32) (z5 : Nat → Int32) (z6 : Nat → Int32) (z15 : Nat → Int32), pb_sX12_officialBy dC dI (va_A (MWn h0 mr km (mi 0) (mi 1) (mi 2) (mi 3) (mi 4) (mi 5) (mi 6) (mi 7) (mi 10) (mi 17) (mi 23) (mi 24) (mi 26) (mi 27) (mi 28) (mi 29) (mi 30) (mi 31) (mi 32) (mi 33) (mi 37) (mi 41) (mi 42) (mi 43) (mi 44) (mi 45) (mi 47) (mi 48) (mi 49) (mi 50) (mi 51) (mi 54) (mi 56) fm_trust fm_letter fm_reportPlace fm_reportKind fm_struck fm_reportMonth fm_reportDay fm_reportKnown fm_deedMonth fm_deedDay fm_deedLong fm_deedKind fm_kept fm_tape fm_must fm_least fm_pin fm_ways fm_verdict fm_row fm_official fm_aside fm_worth fm_out) sz) h0 mi mr km fm_must fm_least fm_pin fm_ways fm_verdict fm_row fm_struck fm_reportKnown fm_reportPlace fm_reportMonth fm_reportDay fm_reportKind fm_trust fm_letter fm_official fm_deedMonth fm_deedDay fm_deedLong fm_deedKind fm_kept fm_tape fm_aside fm_worth fm_out p1 w0_37 w0_41 z1 z2 z3 z4 z5 z6 z15 t) (va_A (MWn h0 mr km (mi 0) (mi 1) (mi 2) (mi 3) (mi 4) (mi 5) (mi 6) (mi 7) (mi 10) (mi 17) (mi 23) (mi 24) (mi 26) (mi 27) (mi 28) (mi 29) (mi 30) (mi 31) (mi 32) (mi 33) (mi 37) (mi 41) (mi 42) (mi 43) (mi 44) (mi 45) (mi 47) (mi 48) (mi 49) (mi 50) (mi 51) (mi 54) (mi 56) fm_trust fm_letter fm_reportPlace fm_reportKind fm_struck fm_reportMonth fm_reportDay fm_reportKnown fm_deedMonth fm_deedDay fm_deedLong fm_deedKind fm_kept fm_tape fm_must fm_least fm_pin fm_ways fm_verdict fm_row fm_official fm_aside fm_worth fm_out) sz)) 0 0 (va_A (MWn h0 mr km (mi 0) (mi 1) (mi 2) (mi 3) (mi 4) (mi 5) (mi 6) (mi 7) (mi 10) (mi 17) (mi 23) (mi 24) (mi 26) (mi 27) (mi 28) (mi 29) (mi 30) (mi 31) (mi 32) (mi 33) (mi 37) (mi 41) (mi 42) (mi 43) (mi 44) (mi 45) (mi 47) (mi 48) (mi 49) (mi 50) (mi 51) (mi 54) (mi 56) fm_trust fm_letter fm_reportPlace fm_reportKind fm_struck fm_reportMonth fm_reportDay fm_reportKnown fm_deedMonth fm_deedDay fm_deedLong fm_deedKind fm_kept fm_tape fm_must fm_least fm_pin fm_ways fm_verdict fm_row fm_official fm_aside fm_worth fm_out) sz) := by
  refine Met.ofW (cc := cX12_officialBy) (maxL := 2) (ret := none) (by decide) rfl ?_
  intro p e s m args below meth c s₁ B hml hv
  obtain ⟨rfl, hsz, hP, hK, hD0⟩ := hv
  have hx := B.exec
  have hb := B.bytes
  have hr := B.returns
  have hts := atoms_spec (ws := (.code yX12_officialBy cX12_officialBy 2 none :: wsGB)) B.pre
  have hown : s.vm.findClass RX12 = some m.cls := findClass_of_methodNamed B.named
  have hlocks := B.notSynchronized
  subst hsz
  have hD := hD0.self (sz := s.heap.size)
  generalize hAe : va_A (MWn h0 mr km (mi 0) (mi 1) (mi 2) (mi 3) (mi 4) (mi 5) (mi 6) (mi 7) (mi 10) (mi 17) (mi 23) (mi 24) (mi 26) (mi 27) (mi 28) (mi 29) (mi 30) (mi 31) (mi 32) (mi 33) (mi 37) (mi 41) (mi 42) (mi 43) (mi 44) (mi 45) (mi 47) (mi 48) (mi 49) (mi 50) (mi 51) (mi 54) (mi 56) fm_trust fm_letter fm_reportPlace fm_reportKind fm_struck fm_reportMonth fm_reportDay fm_reportKnown fm_deedMonth fm_deedDay fm_deedLong fm_deedKind fm_kept fm_tape fm_must fm_least fm_pin fm_ways fm_verdict fm_row fm_official fm_aside fm_worth fm_out) s.heap.size = A at hD ⊢
  have hA : ∀ q : Nat, s.heap.size ≤ q → A q := fun q h => by rw [← hAe]; exact Or.inr h
  have hS : va_S A s.heap s.heap [] := va_S.rf
  have hl := lv_entry ([.ref h0, .int p1]) (n := 2) (Nat.le_of_ble_eq_true rfl)
  rw [lg_entry_eq]
  generalize (lg_sl ([.ref h0, .int p1]) ++ List.replicate (2 - (lg_sl ([.ref h0, .int p1])).length) Slot.unset).toArray = ls at hl ⊢
  have hl : lv_has ls 2 [(0, .ref h0), (1, .int p1)] := hl
  refine lv_aload_n hx hb dX12_officialBy_0 rfl (lv_at hl 0 rfl) ?_
  refine lv_iload_n hx hb dX12_officialBy_1 rfl (lv_at hl 1 rfl) ?_
  have hFc := gz_fullF hD hS hA
  refine va_callv (va_runV (As := [.int p1]) (rest := []) ⟨hx, hb, hml, hown, hts⟩ (sX12_judgesAll l dC dI s.heap.size h0 mi mr km fm_must fm_least fm_pin fm_ways fm_verdict fm_row fm_struck fm_reportKnown fm_reportPlace fm_reportMonth fm_reportDay fm_reportKind fm_trust fm_letter fm_deedMonth fm_deedDay fm_deedLong fm_deedKind fm_kept fm_tape fm_official fm_aside fm_worth fm_out p1 gmi_0 gmi_1 gmi_2 gmi_4 gmi_7 gmi_10 gmi_17 gmi_23 gmi_24 gmi_26 gmi_29 gmi_30 gmi_33 gmi_37 gmi_41 gmi_50 gmi_51 gmi_56 gfm_row gfm_struck gfm_reportKnown gfm_reportPlace gfm_reportMonth gfm_reportDay) (cwV 1 hts (gz_gV mGB_261 mGB_262 mGB_263 mGB_1 mGB_264 goodGB) rfl rfl rfl (by decide +kernel) ⟨Nat.le_of_ble_eq_true rfl, Nat.le_of_ble_eq_true rfl⟩) ⟨bl_W, mw_recv hK hP, fun U hU hW => ⟨rfl, by rw [hU], by rw [hU]; exact hP, va_K.moved hW.alike hK, hD.weaken (fun _ _ _ _ => trivial)⟩⟩ rfl rfl hl.1 rfl (lv_room (Nat.le_of_ble_eq_true rfl)) dX12_officialBy_2 ⟨Nat.zero_le _, Nat.zero_le _⟩) hS (fun q _ h => hFc q h) hFc (fun u t H1 locs ht hvm hw hB hz1 hk1 hS => ?_)
  obtain ⟨y_26, y_27, f_28, f_29, f_30, f_31, f_32, f_33, hB⟩ := hB
  obtain ⟨gy_26, gy_27, gf_33, hP1, hD1⟩ := hB
  rw [ht] at hP1
  have hD : va_D A (MWn h0 mr km (mi 0) (mi 1) (mi 2) (mi 3) (mi 4) (mi 5) (mi 6) (mi 7) (mi 10) (mi 17) (mi 23) (mi 24) (mi 26) (mi 27) (mi 28) (mi 29) (mi 30) (mi 31) (mi 32) (mi 33) y_26 y_27 (mi 42) (mi 43) (mi 44) (mi 45) (mi 47) (mi 48) (mi 49) (mi 50) (mi 51) (mi 54) (mi 56) fm_trust fm_letter fm_reportPlace fm_reportKind fm_struck fm_reportMonth fm_reportDay fm_reportKnown fm_deedMonth fm_deedDay fm_deedLong fm_deedKind fm_kept fm_tape f_28 f_29 f_30 f_31 f_32 f_33 fm_official fm_aside fm_worth fm_out) := gz_fullD hFc hD1
  have hP : va_P (dC, dI) vwCl (MWn h0 mr km (mi 0) (mi 1) (mi 2) (mi 3) (mi 4) (mi 5) (mi 6) (mi 7) (mi 10) (mi 17) (mi 23) (mi 24) (mi 26) (mi 27) (mi 28) (mi 29) (mi 30) (mi 31) (mi 32) (mi 33) y_26 y_27 (mi 42) (mi 43) (mi 44) (mi 45) (mi 47) (mi 48) (mi 49) (mi 50) (mi 51) (mi 54) (mi 56) fm_trust fm_letter fm_reportPlace fm_reportKind fm_struck fm_reportMonth fm_reportDay fm_reportKnown fm_deedMonth fm_deedDay fm_deedLong fm_deedKind fm_kept fm_tape f_28 f_29 f_30 f_31 f_32 f_33 fm_official fm_aside fm_worth fm_out) H1 := hP1
  generalize H1 = H at hP hS ⊢
  refine lv_aload_n hx hb dX12_officialBy_5 rfl (lv_at hl 0 rfl) ?_
  have hFc := gz_fullF hD hS hA
  refine va_callv (va_runV (As := []) (rest := []) ⟨hx, hb, hml, hown, hts⟩ (sX12_laysOfficial l dC dI H.size h0 (upd (upd mi 37 y_26) 41 y_27) mr km f_28 f_29 f_30 f_31 fm_official fm_trust fm_letter fm_reportPlace fm_reportKind fm_struck fm_reportMonth fm_reportDay fm_reportKnown fm_deedMonth fm_deedDay fm_deedLong fm_deedKind fm_kept fm_tape f_32 f_33 fm_aside fm_worth fm_out gmi_0 gmi_1 gmi_2 gmi_4 gmi_7 gmi_10 gmi_17 gmi_23 gmi_24 gmi_26 gmi_29 gmi_30 gmi_33 gy_26 gy_27 gmi_50 gmi_51 gmi_56) (cwV 0 hts (gz_gV mGB_362 mGB_363 mGB_364 mGB_1 mGB_365 goodGB) rfl rfl rfl (by decide +kernel) ⟨Nat.le_of_ble_eq_true rfl, Nat.le_of_ble_eq_true rfl⟩) ⟨bl_W, mw_recv hK hP, fun U hU hW => ⟨rfl, by rw [hU], by rw [hU]; exact hP, va_K.moved hW.alike hK, hD.weaken (fun _ _ _ _ => trivial)⟩⟩ rfl rfl hl.1 rfl (lv_room (Nat.le_of_ble_eq_true rfl)) dX12_officialBy_6 ⟨Nat.zero_le _, Nat.zero_le _⟩) hS (fun q _ h => hFc q h) hFc (fun u t H1 locs ht hvm hw hB hz1 hk1 hS => ?_)
  obtain ⟨f_35, f_36, hB⟩ := hB
  obtain ⟨hP1, hD1⟩ := hB
  rw [ht] at hP1
  have hD : va_D A (MWn h0 mr km (mi 0) (mi 1) (mi 2) (mi 3) (mi 4) (mi 5) (mi 6) (mi 7) (mi 10) (mi 17) (mi 23) (mi 24) (mi 26) (mi 27) (mi 28) (mi 29) (mi 30) (mi 31) (mi 32) (mi 33) y_26 y_27 (mi 42) (mi 43) (mi 44) (mi 45) (mi 47) (mi 48) (mi 49) (mi 50) (mi 51) (mi 54) (mi 56) fm_trust fm_letter fm_reportPlace fm_reportKind fm_struck fm_reportMonth fm_reportDay fm_reportKnown fm_deedMonth fm_deedDay fm_deedLong fm_deedKind fm_kept fm_tape f_28 f_29 f_30 f_35 f_32 f_33 f_36 fm_aside fm_worth fm_out) := gz_fullD hFc hD1
  have hP : va_P (dC, dI) vwCl (MWn h0 mr km (mi 0) (mi 1) (mi 2) (mi 3) (mi 4) (mi 5) (mi 6) (mi 7) (mi 10) (mi 17) (mi 23) (mi 24) (mi 26) (mi 27) (mi 28) (mi 29) (mi 30) (mi 31) (mi 32) (mi 33) y_26 y_27 (mi 42) (mi 43) (mi 44) (mi 45) (mi 47) (mi 48) (mi 49) (mi 50) (mi 51) (mi 54) (mi 56) fm_trust fm_letter fm_reportPlace fm_reportKind fm_struck fm_reportMonth fm_reportDay fm_reportKnown fm_deedMonth fm_deedDay fm_deedLong fm_deedKind fm_kept fm_tape f_28 f_29 f_30 f_35 f_32 f_33 f_36 fm_aside fm_worth fm_out) H1 := hP1
  generalize H1 = H at hP hS ⊢
  exact W.vret hx hb hr (fun t ht hW => ⟨⟨(), rfl, trivial, y_26, y_27, f_28, f_29, f_30, f_35, f_32, f_33, f_36, gy_26, gy_27, gf_33, by rw [ht]; exact hP, hD⟩, hS.F ht⟩) hS.2.2 dX12_officialBy_9
theorem dX12_isBegin_0 : decode cX12_isBegin 0 = .ok (.iload_n 1, 1) := by decide +kernel
theorem dX12_isBegin_1 : decode cX12_isBegin 1 = .ok (.i2l, 1) := by decide +kernel
theorem dX12_isBegin_2 : decode cX12_isBegin 2 = .ok (.lconst 0, 1) := by decide +kernel
theorem dX12_isBegin_3 : decode cX12_isBegin 3 = .ok (.aload_n 0, 1) := by decide +kernel
theorem dX12_isBegin_4 : decode cX12_isBegin 4 = .ok (.getfield 117, 3) := by decide +kernel
theorem dX12_isBegin_7 : decode cX12_isBegin 7 = .ok (.i2l, 1) := by decide +kernel
theorem dX12_isBegin_8 : decode cX12_isBegin 8 = .ok (.invokestatic 102, 3) := by decide +kernel
theorem dX12_isBegin_11 : decode cX12_isBegin 11 = .ok (.ireturn, 1) := by decide +kernel
set_option maxHeartbeats 4000000 in
set_option maxRecDepth 100000 in
theorem sX12_isBegin (l : Launch) (dC : Nat → ClassId) (dI : Nat → Nat → Nat) (h0 : Nat) (mi : Nat → Int32) (mr : Nat → Nat) (km : Nat → ClassId) (fm_trust : Nat → Int32) (fm_letter : Nat → Int32) (fm_reportPlace : Nat → Int32) (fm_reportKind : Nat → Int32) (fm_struck : Nat → Int32) (fm_reportMonth : Nat → Int32) (fm_reportDay : Nat → Int32) (fm_reportKnown : Nat → Int32) (fm_deedMonth : Nat → Int32) (fm_deedDay : Nat → Int32) (fm_deedLong : Nat → Int32) (fm_deedKind : Nat → Int32) (fm_kept : Nat → Int32) (fm_tape : Nat → Int32) (fm_must : Nat → Int32) (fm_least : Nat → Int32) (fm_pin : Nat → Int32) (fm_ways : Nat → Int32) (fm_verdict : Nat → Int32) (fm_row : Nat → Int32) (fm_official : Nat → Int32) (fm_aside : Nat → Int32) (fm_worth : Nat → Int32) (fm_out : Nat → Int32) (p1 : Int32) (gmi_0 : gi (mi 0) 0 24) (gmi_1 : gi (mi 1) 0 5) (gmi_2 : gi (mi 2) 0 5) (gmi_4 : gi (mi 4) 0 1) (gmi_7 : gi (mi 7) 0 6) (gmi_10 : gi (mi 10) 0 24) (gmi_17 : gi (mi 17) 0 8) (gmi_23 : gi (mi 23) 0 300) (gmi_24 : gi (mi 24) 0 1) (gmi_26 : gi (mi 26) 0 1600) (gmi_29 : gi (mi 29) 0 1600) (gmi_30 : gi (mi 30) 0 1600) (gmi_33 : gi (mi 33) 0 1) (gmi_37 : gi (mi 37) 0 1) (gmi_41 : gi (mi 41) 0 24) (gmi_50 : gi (mi 50) 0 1) (gmi_51 : gi (mi 51) 0 1) (gmi_56 : gi (mi 56) 0 80) : Met l yX12_isBegin (.code yX12_isBegin cX12_isBegin 2 (some .boolean) :: wsGB) ({ frames := 1, cells := 0, slots := 0, locals := 25 }) (va_Pc [.ref h0, .int p1] (fun U => va_P (dC, dI) vwCl (MWn h0 mr km (mi 0) (mi 1) (mi 2) (mi 3) (mi 4) (mi 5) (mi 6) (mi 7) (mi 10) (mi 17) (mi 23) (mi 24) (mi 26) (mi 27) (mi 28) (mi 29) (mi 30) (mi 31) (mi 32) (mi 33) (mi 37) (mi 41) (mi 42) (mi 43) (mi 44) (mi 45) (mi 47) (mi 48) (mi 49) (mi 50) (mi 51) (mi 54) (mi 56) fm_trust fm_letter fm_reportPlace fm_reportKind fm_struck fm_reportMonth fm_reportDay fm_reportKnown fm_deedMonth fm_deedDay fm_deedLong fm_deedKind fm_kept fm_tape fm_must fm_least fm_pin fm_ways fm_verdict fm_row fm_official fm_aside fm_worth fm_out) U.heap ∧ va_K (dC, dI) vwCl (MT km) U)) (va_Qi (fun (r : Int32) (u : Unit) => gi r 0 1 ∧ (r.toInt = 1 → gi p1 0 24)) (fun _ _ => True) (fun _ => False)) 0 0 (fun _ => False) := by
  refine Met.ofW (cc := cX12_isBegin) (maxL := 2) (ret := (some .boolean)) (by decide) rfl ?_
  intro p e s m args below meth c s₁ B hml hv
  obtain ⟨rfl, hP, hK⟩ := hv
  have hx := B.exec
  have hb := B.bytes
  have hr := B.returns
  have hts := atoms_spec (ws := (.code yX12_isBegin cX12_isBegin 2 (some .boolean) :: wsGB)) B.pre
  have hown : s.vm.findClass RX12 = some m.cls := findClass_of_methodNamed B.named
  have hlocks := B.notSynchronized
  have hS : va_S (fun _ => False) s.heap s.heap [] := va_S.rf
  have hl := lv_entry ([.ref h0, .int p1]) (n := 2) (Nat.le_of_ble_eq_true rfl)
  rw [lg_entry_eq]
  generalize (lg_sl ([.ref h0, .int p1]) ++ List.replicate (2 - (lg_sl ([.ref h0, .int p1])).length) Slot.unset).toArray = ls at hl ⊢
  have hl : lv_has ls 2 [(0, .ref h0), (1, .int p1)] := hl
  refine lv_iload_n hx hb dX12_isBegin_0 rfl (lv_at hl 1 rfl) ?_
  refine lv_i2l (v := (p1).toInt64) hx hb dX12_isBegin_1 rfl ?_
  refine lv_topl (fun l_4 el_4 => ?_)
  refine lv_lconst (v := 0) hx hb dX12_isBegin_2 (by decide) ?_
  refine lv_aload_n hx hb dX12_isBegin_3 rfl (lv_at hl 0 rfl) ?_
  refine va_get (D := (dC, dI)) (ci := 12) (v := .int (mi 0)) (C := RX12) (T := TX12) (N := 57) hx hb hts (fun w h => List.mem_cons_of_mem _ (jnGB_X12 w h)) hown hK hP 0 rfl rfl 0 (by decide) (hts _ (List.mem_cons_of_mem _ mGB_103)) (fun _ h9 => h9) rfl dX12_isBegin_4 ?_
  refine lv_i2l (v := ((mi 0)).toInt64) hx hb dX12_isBegin_7 rfl ?_
  refine lv_topl (fun l_5 el_5 => ?_)
  have hPc := hP.sub (ws' := []) [] rfl
  have hKc := hK.sub (tys' := []) [] rfl
  refine va_calli (va_runS (As := [.long l_4, .long 0, .long l_5]) (rest := []) ⟨hx, hb, hml, hown, hts⟩ (sX12_in l dC dI l_4 0 l_5) (cwS 3 hts (gz_gS mGB_47 mGB_48 mGB_1 mGB_49 goodGB) rfl rfl rfl (by decide +kernel) ⟨Nat.le_of_ble_eq_true rfl, Nat.le_of_ble_eq_true rfl⟩) ⟨bl_R, fun U hU hW => ⟨rfl, by rw [hU]; exact hPc, va_K.moved hW.alike hKc⟩⟩ rfl rfl hl.1 rfl (lv_room (Nat.le_of_ble_eq_true rfl)) dX12_isBegin_8 ⟨Nat.zero_le _, Nat.zero_le _⟩) hS (fun q _ h => h.elim) (fun q h => h.elim) (fun r_6 u t H1 locs ht hvm hw hB hz1 hk1 hS => ?_)
  obtain ⟨hw, hE⟩ := hw
  have hP := gz_keep hP hk1
  generalize H1 = H at hP hS ⊢
  have gr_6 : gi r_6 0 1 := hw.1
  have hqr_6 := hw.2
  exact W.zret (v := r_6) hx hb hr (gz_nb gr_6) (fun t ht hW => ⟨⟨r_6, (), rfl, ⟨gr_6, (fun h1 => (gi_w (gz_inr (hqr_6.1 h1) el_4 (A := 0) (B := 24) (by decide) (gz_l2u el_5 gmi_0)) (by decide)))⟩, trivial⟩, hS.F ht⟩) hS.2.2 dX12_isBegin_11
theorem dX12_begin_0 : decode cX12_begin 0 = .ok (.aload_n 0, 1) := by decide +kernel
theorem dX12_begin_1 : decode cX12_begin 1 = .ok (.iload_n 1, 1) := by decide +kernel
theorem dX12_begin_2 : decode cX12_begin 2 = .ok (.invokevirtual 359, 3) := by decide +kernel
theorem dX12_begin_5 : decode cX12_begin 5 = .ok (.ifCond .eq 11, 3) := by decide +kernel
theorem dX12_begin_8 : decode cX12_begin 8 = .ok (.aload_n 0, 1) := by decide +kernel
theorem dX12_begin_9 : decode cX12_begin 9 = .ok (.iload_n 2, 1) := by decide +kernel
theorem dX12_begin_10 : decode cX12_begin 10 = .ok (.invokevirtual 379, 3) := by decide +kernel
theorem dX12_begin_13 : decode cX12_begin 13 = .ok (.ifCond .ne 6, 3) := by decide +kernel
theorem dX12_begin_16 : decode cX12_begin 16 = .ok (.bipush (-2), 2) := by decide +kernel
theorem dX12_begin_18 : decode cX12_begin 18 = .ok (.ireturn, 1) := by decide +kernel
theorem dX12_begin_19 : decode cX12_begin 19 = .ok (.aload_n 0, 1) := by decide +kernel
theorem dX12_begin_20 : decode cX12_begin 20 = .ok (.iload_n 1, 1) := by decide +kernel
theorem dX12_begin_21 : decode cX12_begin 21 = .ok (.invokevirtual 382, 3) := by decide +kernel
theorem dX12_begin_24 : decode cX12_begin 24 = .ok (.aload_n 0, 1) := by decide +kernel
theorem dX12_begin_25 : decode cX12_begin 25 = .ok (.getfield 87, 3) := by decide +kernel
theorem dX12_begin_28 : decode cX12_begin 28 = .ok (.iload_n 2, 1) := by decide +kernel
theorem dX12_begin_29 : decode cX12_begin 29 = .ok (.iaload, 1) := by decide +kernel
theorem dX12_begin_30 : decode cX12_begin 30 = .ok (.ireturn, 1) := by decide +kernel
abbrev pb_sX12_begin (dC : Nat → ClassId) (dI : Nat → Nat → Nat) (A9 : Nat → Prop) (h0 : Nat) (mi : Nat → Int32) (mr : Nat → Nat) (km : Nat → ClassId) (fm_must : Nat → Int32) (fm_least : Nat → Int32) (fm_pin : Nat → Int32) (fm_ways : Nat → Int32) (fm_verdict : Nat → Int32) (fm_row : Nat → Int32) (fm_struck : Nat → Int32) (fm_reportKnown : Nat → Int32) (fm_reportPlace : Nat → Int32) (fm_reportMonth : Nat → Int32) (fm_reportDay : Nat → Int32) (fm_reportKind : Nat → Int32) (fm_trust : Nat → Int32) (fm_letter : Nat → Int32) (fm_official : Nat → Int32) (fm_deedMonth : Nat → Int32) (fm_deedDay : Nat → Int32) (fm_deedLong : Nat → Int32) (fm_deedKind : Nat → Int32) (fm_kept : Nat → Int32) (fm_tape : Nat → Int32) (fm_aside : Nat → Int32) (fm_worth : Nat → Int32) (fm_out : Nat → Int32) (p1 : Int32) (p2 : Int32) (w0_37 : Int32) (w0_41 : Int32) (z1 : Nat → Int32) (z2 : Nat → Int32) (z3 : Nat → Int32) (z4 : Nat → Int32) (z5 : Nat → Int32) (z6 : Nat → Int32) (z15 : Nat → Int32) (t : State) : Prop := gi w0_37 0 1 ∧ gi w0_41 0 24 ∧ ga z6 24 0 23 ∧ va_P (dC, dI) vwCl (MWn h0 mr km (mi 0) (mi 1) (mi 2) (mi 3) (mi 4) (mi 5) (mi 6) (mi 7) (mi 10) (mi 17) (mi 23) (mi 24) (mi 26) (mi 27) (mi 28) (mi 29) (mi 30) (mi 31) (mi 32) (mi 33) w0_37 w0_41 (mi 42) (mi 43) (mi 44) (mi 45) (mi 47) (mi 48) (mi 49) (mi 50) (mi 51) (mi 54) (mi 56) fm_trust fm_letter fm_reportPlace fm_reportKind fm_struck fm_reportMonth fm_reportDay fm_reportKnown fm_deedMonth fm_deedDay fm_deedLong fm_deedKind fm_kept fm_tape z1 z2 z3 z4 z5 z6 z15 fm_aside fm_worth fm_out) t.heap ∧ va_D A9 (MWn h0 mr km (mi 0) (mi 1) (mi 2) (mi 3) (mi 4) (mi 5) (mi 6) (mi 7) (mi 10) (mi 17) (mi 23) (mi 24) (mi 26) (mi 27) (mi 28) (mi 29) (mi 30) (mi 31) (mi 32) (mi 33) w0_37 w0_41 (mi 42) (mi 43) (mi 44) (mi 45) (mi 47) (mi 48) (mi 49) (mi 50) (mi 51) (mi 54) (mi 56) fm_trust fm_letter fm_reportPlace fm_reportKind fm_struck fm_reportMonth fm_reportDay fm_reportKnown fm_deedMonth fm_deedDay fm_deedLong fm_deedKind fm_kept fm_tape z1 z2 z3 z4 z5 z6 z15 fm_aside fm_worth fm_out)
set_option maxHeartbeats 4000000 in
set_option maxRecDepth 100000 in
theorem sX12_begin (l : Launch) (dC : Nat → ClassId) (dI : Nat → Nat → Nat) (sz : Nat) (h0 : Nat) (mi : Nat → Int32) (mr : Nat → Nat) (km : Nat → ClassId) (fm_must : Nat → Int32) (fm_least : Nat → Int32) (fm_pin : Nat → Int32) (fm_ways : Nat → Int32) (fm_verdict : Nat → Int32) (fm_row : Nat → Int32) (fm_struck : Nat → Int32) (fm_reportKnown : Nat → Int32) (fm_reportPlace : Nat → Int32) (fm_reportMonth : Nat → Int32) (fm_reportDay : Nat → Int32) (fm_reportKind : Nat → Int32) (fm_trust : Nat → Int32) (fm_letter : Nat → Int32) (fm_official : Nat → Int32) (fm_deedMonth : Nat → Int32) (fm_deedDay : Nat → Int32) (fm_deedLong : Nat → Int32) (fm_deedKind : Nat → Int32) (fm_kept : Nat → Int32) (fm_tape : Nat → Int32) (fm_aside : Nat → Int32) (fm_worth : Nat → Int32) (fm_out : Nat → Int32) (p1 : Int32) (p2 : Int32) (gmi_0 : gi (mi 0) 0 24) (gmi_1 : gi (mi 1) 0 5) (gmi_2 : gi (mi 2) 0 5) (gmi_4 : gi (mi 4) 0 1) (gmi_7 : gi (mi 7) 0 6) (gmi_10 : gi (mi 10) 0 24) (gmi_17 : gi (mi 17) 0 8) (gmi_23 : gi (mi 23) 0 300) (gmi_24 : gi (mi 24) 0 1) (gmi_26 : gi (mi 26) 0 1600) (gmi_29 : gi (mi 29) 0 1600) (gmi_30 : gi (mi 30) 0 1600) (gmi_33 : gi (mi 33) 0 1) (gmi_37 : gi (mi 37) 0 1) (gmi_41 : gi (mi 41) 0 24) (gmi_50 : gi (mi 50) 0 1) (gmi_51 : gi (mi 51) 0 1) (gmi_56 : gi (mi 56) 0 80) (gfm_row : ga fm_row 24 0 23) (gfm_struck : ga fm_struck 24 0 1) (gfm_reportKnown : ga fm_reportKnown 24 0 999) (gfm_reportPlace : ga fm_reportPlace 24 0 5) (gfm_reportMonth : ga fm_reportMonth 24 0 23) (gfm_reportDay : ga fm_reportDay 24 0 999) : Met l yX12_begin (.code yX12_begin cX12_begin 3 (some .int) :: wsGB) ({ frames := 6, cells := 0, slots := 0, locals := 140 }) (va_Pc [.ref h0, .int p1, .int p2] (fun U => U.heap.size = sz ∧ va_P (dC, dI) vwCl (MWn h0 mr km (mi 0) (mi 1) (mi 2) (mi 3) (mi 4) (mi 5) (mi 6) (mi 7) (mi 10) (mi 17) (mi 23) (mi 24) (mi 26) (mi 27) (mi 28) (mi 29) (mi 30) (mi 31) (mi 32) (mi 33) (mi 37) (mi 41) (mi 42) (mi 43) (mi 44) (mi 45) (mi 47) (mi 48) (mi 49) (mi 50) (mi 51) (mi 54) (mi 56) fm_trust fm_letter fm_reportPlace fm_reportKind fm_struck fm_reportMonth fm_reportDay fm_reportKnown fm_deedMonth fm_deedDay fm_deedLong fm_deedKind fm_kept fm_tape fm_must fm_least fm_pin fm_ways fm_verdict fm_row fm_official fm_aside fm_worth fm_out) U.heap ∧ va_K (dC, dI) vwCl (MT km) U ∧ va_D (fun _ => True) (MWn h0 mr km (mi 0) (mi 1) (mi 2) (mi 3) (mi 4) (mi 5) (mi 6) (mi 7) (mi 10) (mi 17) (mi 23) (mi 24) (mi 26) (mi 27) (mi 28) (mi 29) (mi 30) (mi 31) (mi 32) (mi 33) (mi 37) (mi 41) (mi 42) (mi 43) (mi 44) (mi 45) (mi 47) (mi 48) (mi 49) (mi 50) (mi 51) (mi 54) (mi 56) fm_trust fm_letter fm_reportPlace fm_reportKind fm_struck fm_reportMonth fm_reportDay fm_reportKnown fm_deedMonth fm_deedDay fm_deedLong fm_deedKind fm_kept fm_tape fm_must fm_least fm_pin fm_ways fm_verdict fm_row fm_official fm_aside fm_worth fm_out))) (va_Qi (fun (r : Int32) (u : Unit) => gi r (-2147483648) 2147483647) (fun _ t => ∃ (w0_37 : Int32) (w0_41 : Int32) (z1 : Nat → Int32) (z2 : Nat → Int32) (z3 : Nat → Int32) (z4 : Nat → Int32) (z5 : Nat → Int32) (z6 : Nat → Int32) (z15 : Nat → Int32), pb_sX12_begin dC dI (va_A (MWn h0 mr km (mi 0) (mi 1) (mi 2) (mi 3) (mi 4) (mi 5) (mi 6) (mi 7) (mi 10) (mi 17) (mi 23) (mi 24) (mi 26) (mi 27) (mi 28) (mi 29) (mi 30) (mi 31) (mi 32) (mi 33) (mi 37) (mi 41) (mi 42) (mi 43) (mi 44) (mi 45) (mi 47) (mi 48) (mi 49) (mi 50) (mi 51) (mi 54) (mi 56) fm_trust fm_letter fm_reportPlace fm_reportKind fm_struck fm_reportMonth fm_reportDay fm_reportKnown fm_deedMonth fm_deedDay fm_deedLong fm_deedKind fm_kept fm_tape fm_must fm_least fm_pin fm_ways fm_verdict fm_row fm_official fm_aside fm_worth fm_out) sz) h0 mi mr km fm_must fm_least fm_pin fm_ways fm_verdict fm_row fm_struck fm_reportKnown fm_reportPlace fm_reportMonth fm_reportDay fm_reportKind fm_trust fm_letter fm_official fm_deedMonth fm_deedDay fm_deedLong fm_deedKind fm_kept fm_tape fm_aside fm_worth fm_out p1 p2 w0_37 w0_41 z1 z2 z3 z4 z5 z6 z15 t) (va_A (MWn h0 mr km (mi 0) (mi 1) (mi 2) (mi 3) (mi 4) (mi 5) (mi 6) (mi 7) (mi 10) (mi 17) (mi 23) (mi 24) (mi 26) (mi 27) (mi 28) (mi 29) (mi 30) (mi 31) (mi 32) (mi 33) (mi 37) (mi 41) (mi 42) (mi 43) (mi 44) (mi 45) (mi 47) (mi 48) (mi 49) (mi 50) (mi 51) (mi 54) (mi 56) fm_trust fm_letter fm_reportPlace fm_reportKind fm_struck fm_reportMonth fm_reportDay fm_reportKnown fm_deedMonth fm_deedDay fm_deedLong fm_deedKind fm_kept fm_tape fm_must fm_least fm_pin fm_ways fm_verdict fm_row fm_official fm_aside fm_worth fm_out) sz)) 0 0 (va_A (MWn h0 mr km (mi 0) (mi 1) (mi 2) (mi 3) (mi 4) (mi 5) (mi 6) (mi 7) (mi 10) (mi 17) (mi 23) (mi 24) (mi 26) (mi 27) (mi 28) (mi 29) (mi 30) (mi 31) (mi 32) (mi 33) (mi 37) (mi 41) (mi 42) (mi 43) (mi 44) (mi 45) (mi 47) (mi 48) (mi 49) (mi 50) (mi 51) (mi 54) (mi 56) fm_trust fm_letter fm_reportPlace fm_reportKind fm_struck fm_reportMonth fm_reportDay fm_reportKnown fm_deedMonth fm_deedDay fm_deedLong fm_deedKind fm_kept fm_tape fm_must fm_least fm_pin fm_ways fm_verdict fm_row fm_official fm_aside fm_worth fm_out) sz) := by
  refine Met.ofW (cc := cX12_begin) (maxL := 3) (ret := (some .int)) (by decide) rfl ?_
  intro p e s m args below meth c s₁ B hml hv
  obtain ⟨rfl, hsz, hP, hK, hD0⟩ := hv
  have hx := B.exec
  have hb := B.bytes
  have hr := B.returns
  have hts := atoms_spec (ws := (.code yX12_begin cX12_begin 3 (some .int) :: wsGB)) B.pre
  have hown : s.vm.findClass RX12 = some m.cls := findClass_of_methodNamed B.named
  have hlocks := B.notSynchronized
  subst hsz
  have hD := hD0.self (sz := s.heap.size)
  generalize hAe : va_A (MWn h0 mr km (mi 0) (mi 1) (mi 2) (mi 3) (mi 4) (mi 5) (mi 6) (mi 7) (mi 10) (mi 17) (mi 23) (mi 24) (mi 26) (mi 27) (mi 28) (mi 29) (mi 30) (mi 31) (mi 32) (mi 33) (mi 37) (mi 41) (mi 42) (mi 43) (mi 44) (mi 45) (mi 47) (mi 48) (mi 49) (mi 50) (mi 51) (mi 54) (mi 56) fm_trust fm_letter fm_reportPlace fm_reportKind fm_struck fm_reportMonth fm_reportDay fm_reportKnown fm_deedMonth fm_deedDay fm_deedLong fm_deedKind fm_kept fm_tape fm_must fm_least fm_pin fm_ways fm_verdict fm_row fm_official fm_aside fm_worth fm_out) s.heap.size = A at hD ⊢
  have hA : ∀ q : Nat, s.heap.size ≤ q → A q := fun q h => by rw [← hAe]; exact Or.inr h
  have hS : va_S A s.heap s.heap [] := va_S.rf
  have hl := lv_entry ([.ref h0, .int p1, .int p2]) (n := 3) (Nat.le_of_ble_eq_true rfl)
  rw [lg_entry_eq]
  generalize (lg_sl ([.ref h0, .int p1, .int p2]) ++ List.replicate (3 - (lg_sl ([.ref h0, .int p1, .int p2])).length) Slot.unset).toArray = ls at hl ⊢
  have hl : lv_has ls 3 [(0, .ref h0), (1, .int p1), (2, .int p2)] := hl
  refine lv_aload_n hx hb dX12_begin_0 rfl (lv_at hl 0 rfl) ?_
  refine lv_iload_n hx hb dX12_begin_1 rfl (lv_at hl 1 rfl) ?_
  refine va_calli (va_runV (As := [.int p1]) (rest := []) ⟨hx, hb, hml, hown, hts⟩ (sX12_isTime l dC dI h0 mi mr km fm_trust fm_letter fm_reportPlace fm_reportKind fm_struck fm_reportMonth fm_reportDay fm_reportKnown fm_deedMonth fm_deedDay fm_deedLong fm_deedKind fm_kept fm_tape fm_must fm_least fm_pin fm_ways fm_verdict fm_row fm_official fm_aside fm_worth fm_out p1 gmi_0 gmi_1 gmi_2 gmi_4 gmi_7 gmi_10 gmi_17 gmi_23 gmi_24 gmi_26 gmi_29 gmi_30 gmi_33 gmi_37 gmi_41 gmi_50 gmi_51 gmi_56) (cwV 1 hts (gz_gV mGB_256 mGB_257 mGB_258 mGB_1 mGB_259 goodGB) rfl rfl rfl (by decide +kernel) ⟨Nat.le_of_ble_eq_true rfl, Nat.le_of_ble_eq_true rfl⟩) ⟨bl_R, mw_recv hK hP, fun U hU hW => ⟨rfl, by rw [hU]; exact hP, va_K.moved hW.alike hK⟩⟩ rfl rfl hl.1 rfl (lv_room (Nat.le_of_ble_eq_true rfl)) dX12_begin_2 ⟨Nat.zero_le _, Nat.zero_le _⟩) hS (fun q _ h => h.elim) (fun q h => h.elim) (fun r_43 u t H1 locs ht hvm hw hB hz1 hk1 hS => ?_)
  obtain ⟨hw, hE⟩ := hw
  have hP := gz_keep hP hk1
  generalize H1 = H at hP hS ⊢
  have gr_43 : gi r_43 0 1 := hw.1
  have hqr_43 := hw.2
  refine lv_if_eq (tgt := 16) hx hb dX12_begin_5 (by decide) (fun c_44 => ?_) (fun c_44 => ?_)
  · have g_45 : gi r_43 0 0 := gi_eq c_44 (gi_c 0 0 (by decide))
    refine lv_bipush (v := (-2)) hx hb dX12_begin_16 (by decide) ?_
    exact W.iret (v := (-2)) hx hb hr (fun t ht hW => ⟨⟨(-2), (), rfl, (gi_any (-2)), (mi 37), (mi 41), fm_must, fm_least, fm_pin, fm_ways, fm_verdict, fm_row, fm_official, gmi_37, gmi_41, gfm_row, by rw [ht]; exact hP, hD⟩, hS.F ht⟩) hS.2.2 dX12_begin_18
  · have g_46 : gi r_43 1 1 := gi_ne_lo c_44 gr_43 (gi_c 0 0 (by decide)) (by decide)
    have g_47 : gi p1 0 999 := gi_cap (gi_any p1) (hqr_43 (gz_one g_46)) (by decide)
    refine lv_aload_n hx hb dX12_begin_8 rfl (lv_at hl 0 rfl) ?_
    refine lv_iload_n hx hb dX12_begin_9 rfl (lv_at hl 2 rfl) ?_
    refine va_calli (va_runV (As := [.int p2]) (rest := []) ⟨hx, hb, hml, hown, hts⟩ (sX12_isBegin l dC dI h0 mi mr km fm_trust fm_letter fm_reportPlace fm_reportKind fm_struck fm_reportMonth fm_reportDay fm_reportKnown fm_deedMonth fm_deedDay fm_deedLong fm_deedKind fm_kept fm_tape fm_must fm_least fm_pin fm_ways fm_verdict fm_row fm_official fm_aside fm_worth fm_out p2 gmi_0 gmi_1 gmi_2 gmi_4 gmi_7 gmi_10 gmi_17 gmi_23 gmi_24 gmi_26 gmi_29 gmi_30 gmi_33 gmi_37 gmi_41 gmi_50 gmi_51 gmi_56) (cwV 1 hts (gz_gV mGB_354 mGB_355 mGB_356 mGB_1 mGB_357 goodGB) rfl rfl rfl (by decide +kernel) ⟨Nat.le_of_ble_eq_true rfl, Nat.le_of_ble_eq_true rfl⟩) ⟨bl_R, mw_recv hK hP, fun U hU hW => ⟨rfl, by rw [hU]; exact hP, va_K.moved hW.alike hK⟩⟩ rfl rfl hl.1 rfl (lv_room (Nat.le_of_ble_eq_true rfl)) dX12_begin_10 ⟨Nat.zero_le _, Nat.zero_le _⟩) hS (fun q _ h => h.elim) (fun q h => h.elim) (fun r_48 u t H1 locs ht hvm hw hB hz1 hk1 hS => ?_)
    have hP := gz_keep hP hk1
    generalize H1 = H at hP hS ⊢
    have gr_48 : gi r_48 0 1 := hw.1
    have hqr_48 := hw.2
    refine lv_if_ne (tgt := 19) hx hb dX12_begin_13 (by decide) (fun c_49 => ?_) (fun c_49 => ?_)
    · have g_50 : gi r_48 1 1 := gi_ne_lo c_49 gr_48 (gi_c 0 0 (by decide)) (by decide)
      have g_51 : gi p2 0 24 := gi_cap (gi_any p2) (hqr_48 (gz_one g_50)) (by decide)
      refine lv_aload_n hx hb dX12_begin_19 rfl (lv_at hl 0 rfl) ?_
      refine lv_iload_n hx hb dX12_begin_20 rfl (lv_at hl 1 rfl) ?_
      have hFc := gz_fullF hD hS hA
      refine va_callv (va_runV (As := [.int p1]) (rest := []) ⟨hx, hb, hml, hown, hts⟩ (sX12_officialBy l dC dI H.size h0 mi mr km fm_must fm_least fm_pin fm_ways fm_verdict fm_row fm_struck fm_reportKnown fm_reportPlace fm_reportMonth fm_reportDay fm_reportKind fm_trust fm_letter fm_official fm_deedMonth fm_deedDay fm_deedLong fm_deedKind fm_kept fm_tape fm_aside fm_worth fm_out p1 gmi_0 gmi_1 gmi_2 gmi_4 gmi_7 gmi_10 gmi_17 gmi_23 gmi_24 gmi_26 gmi_29 gmi_30 gmi_33 gmi_37 gmi_41 gmi_50 gmi_51 gmi_56 gfm_row gfm_struck gfm_reportKnown gfm_reportPlace gfm_reportMonth gfm_reportDay) (cwV 1 hts (gz_gV mGB_358 mGB_359 mGB_360 mGB_1 mGB_361 goodGB) rfl rfl rfl (by decide +kernel) ⟨Nat.le_of_ble_eq_true rfl, Nat.le_of_ble_eq_true rfl⟩) ⟨bl_W, mw_recv hK hP, fun U hU hW => ⟨rfl, by rw [hU], by rw [hU]; exact hP, va_K.moved hW.alike hK, hD.weaken (fun _ _ _ _ => trivial)⟩⟩ rfl rfl hl.1 rfl (lv_room (Nat.le_of_ble_eq_true rfl)) dX12_begin_21 ⟨Nat.zero_le _, Nat.zero_le _⟩) hS (fun q _ h => hFc q h) hFc (fun u t H1 locs ht hvm hw hB hz1 hk1 hS => ?_)
      obtain ⟨y_53, y_54, f_55, f_56, f_57, f_58, f_59, f_60, f_61, hB⟩ := hB
      obtain ⟨gy_53, gy_54, gf_60, hP1, hD1⟩ := hB
      rw [ht] at hP1
      have hD : va_D A (MWn h0 mr km (mi 0) (mi 1) (mi 2) (mi 3) (mi 4) (mi 5) (mi 6) (mi 7) (mi 10) (mi 17) (mi 23) (mi 24) (mi 26) (mi 27) (mi 28) (mi 29) (mi 30) (mi 31) (mi 32) (mi 33) y_53 y_54 (mi 42) (mi 43) (mi 44) (mi 45) (mi 47) (mi 48) (mi 49) (mi 50) (mi 51) (mi 54) (mi 56) fm_trust fm_letter fm_reportPlace fm_reportKind fm_struck fm_reportMonth fm_reportDay fm_reportKnown fm_deedMonth fm_deedDay fm_deedLong fm_deedKind fm_kept fm_tape f_55 f_56 f_57 f_58 f_59 f_60 f_61 fm_aside fm_worth fm_out) := gz_fullD hFc hD1
      have hP : va_P (dC, dI) vwCl (MWn h0 mr km (mi 0) (mi 1) (mi 2) (mi 3) (mi 4) (mi 5) (mi 6) (mi 7) (mi 10) (mi 17) (mi 23) (mi 24) (mi 26) (mi 27) (mi 28) (mi 29) (mi 30) (mi 31) (mi 32) (mi 33) y_53 y_54 (mi 42) (mi 43) (mi 44) (mi 45) (mi 47) (mi 48) (mi 49) (mi 50) (mi 51) (mi 54) (mi 56) fm_trust fm_letter fm_reportPlace fm_reportKind fm_struck fm_reportMonth fm_reportDay fm_reportKnown fm_deedMonth fm_deedDay fm_deedLong fm_deedKind fm_kept fm_tape f_55 f_56 f_57 f_58 f_59 f_60 f_61 fm_aside fm_worth fm_out) H1 := hP1
      generalize H1 = H at hP hS ⊢
      refine lv_aload_n hx hb dX12_begin_24 rfl (lv_at hl 0 rfl) ?_
      refine va_get (D := (dC, dI)) (ci := 12) (v := .ref (mr 20)) (C := RX12) (T := TX12) (N := 57) hx hb hts (fun w h => List.mem_cons_of_mem _ (jnGB_X12 w h)) hown hK hP 0 rfl rfl 46 (by decide) (hts _ (List.mem_cons_of_mem _ mGB_36)) (fun _ h9 => h9) rfl dX12_begin_25 ?_
      refine lv_iload_n hx hb dX12_begin_28 rfl (lv_at hl 2 rfl) ?_
      refine va_iald hx hb hK hP 21 20 rfl rfl (gi_in g_51 (by decide)) dX12_begin_29 ?_
      refine lv_topi (fun x_62 ex_62 => ?_)
      exact W.iret (v := x_62) hx hb hr (fun t ht hW => ⟨⟨x_62, (), rfl, (gi_any x_62), y_53, y_54, f_55, f_56, f_57, f_58, f_59, f_60, f_61, gy_53, gy_54, gf_60, by rw [ht]; exact hP, hD⟩, hS.F ht⟩) hS.2.2 dX12_begin_30
    · have g_63 : gi r_48 0 0 := gi_eq c_49 (gi_c 0 0 (by decide))
      refine lv_bipush (v := (-2)) hx hb dX12_begin_16 (by decide) ?_
      exact W.iret (v := (-2)) hx hb hr (fun t ht hW => ⟨⟨(-2), (), rfl, (gi_any (-2)), (mi 37), (mi 41), fm_must, fm_least, fm_pin, fm_ways, fm_verdict, fm_row, fm_official, gmi_37, gmi_41, gfm_row, by rw [ht]; exact hP, hD⟩, hS.F ht⟩) hS.2.2 dX12_begin_18
theorem dX12_countsWith_0 : decode cX12_countsWith 0 = .ok (.iload_n 2, 1) := by decide +kernel
theorem dX12_countsWith_1 : decode cX12_countsWith 1 = .ok (.i2l, 1) := by decide +kernel
theorem dX12_countsWith_2 : decode cX12_countsWith 2 = .ok (.bipush 29, 2) := by decide +kernel
theorem dX12_countsWith_4 : decode cX12_countsWith 4 = .ok (.iload_n 1, 1) := by decide +kernel
theorem dX12_countsWith_5 : decode cX12_countsWith 5 = .ok (.imul, 1) := by decide +kernel
theorem dX12_countsWith_6 : decode cX12_countsWith 6 = .ok (.i2l, 1) := by decide +kernel
theorem dX12_countsWith_7 : decode cX12_countsWith 7 = .ok (.bipush 30, 2) := by decide +kernel
theorem dX12_countsWith_9 : decode cX12_countsWith 9 = .ok (.iload_n 1, 1) := by decide +kernel
theorem dX12_countsWith_10 : decode cX12_countsWith 10 = .ok (.imul, 1) := by decide +kernel
theorem dX12_countsWith_11 : decode cX12_countsWith 11 = .ok (.i2l, 1) := by decide +kernel
theorem dX12_countsWith_12 : decode cX12_countsWith 12 = .ok (.invokestatic 102, 3) := by decide +kernel
theorem dX12_countsWith_15 : decode cX12_countsWith 15 = .ok (.ifCond .eq 23, 3) := by decide +kernel
theorem dX12_countsWith_18 : decode cX12_countsWith 18 = .ok (.aload_n 0, 1) := by decide +kernel
theorem dX12_countsWith_19 : decode cX12_countsWith 19 = .ok (.getfield 63, 3) := by decide +kernel
theorem dX12_countsWith_22 : decode cX12_countsWith 22 = .ok (.iload_n 1, 1) := by decide +kernel
theorem dX12_countsWith_23 : decode cX12_countsWith 23 = .ok (.iaload, 1) := by decide +kernel
theorem dX12_countsWith_24 : decode cX12_countsWith 24 = .ok (.iconst (-1), 1) := by decide +kernel
theorem dX12_countsWith_25 : decode cX12_countsWith 25 = .ok (.if_icmp .eq 15, 3) := by decide +kernel
theorem dX12_countsWith_28 : decode cX12_countsWith 28 = .ok (.aload_n 0, 1) := by decide +kernel
theorem dX12_countsWith_29 : decode cX12_countsWith 29 = .ok (.getfield 63, 3) := by decide +kernel
theorem dX12_countsWith_32 : decode cX12_countsWith 32 = .ok (.iload_n 1, 1) := by decide +kernel
theorem dX12_countsWith_33 : decode cX12_countsWith 33 = .ok (.iaload, 1) := by decide +kernel
theorem dX12_countsWith_34 : decode cX12_countsWith 34 = .ok (.iload_n 2, 1) := by decide +kernel
theorem dX12_countsWith_35 : decode cX12_countsWith 35 = .ok (.if_icmp .eq 5, 3) := by decide +kernel
theorem dX12_countsWith_38 : decode cX12_countsWith 38 = .ok (.iconst 0, 1) := by decide +kernel
theorem dX12_countsWith_39 : decode cX12_countsWith 39 = .ok (.ireturn, 1) := by decide +kernel
theorem dX12_countsWith_40 : decode cX12_countsWith 40 = .ok (.aload_n 0, 1) := by decide +kernel
theorem dX12_countsWith_41 : decode cX12_countsWith 41 = .ok (.getfield 63, 3) := by decide +kernel
theorem dX12_countsWith_44 : decode cX12_countsWith 44 = .ok (.iload_n 1, 1) := by decide +kernel
theorem dX12_countsWith_45 : decode cX12_countsWith 45 = .ok (.iaload, 1) := by decide +kernel
theorem dX12_countsWith_46 : decode cX12_countsWith 46 = .ok (.istore 5, 2) := by decide +kernel
theorem dX12_countsWith_48 : decode cX12_countsWith 48 = .ok (.aload_n 0, 1) := by decide +kernel
theorem dX12_countsWith_49 : decode cX12_countsWith 49 = .ok (.getfield 63, 3) := by decide +kernel
theorem dX12_countsWith_52 : decode cX12_countsWith 52 = .ok (.iload_n 1, 1) := by decide +kernel
theorem dX12_countsWith_53 : decode cX12_countsWith 53 = .ok (.iload_n 2, 1) := by decide +kernel
theorem dX12_countsWith_54 : decode cX12_countsWith 54 = .ok (.iastore, 1) := by decide +kernel
theorem dX12_countsWith_55 : decode cX12_countsWith 55 = .ok (.iload_n 3, 1) := by decide +kernel
theorem dX12_countsWith_56 : decode cX12_countsWith 56 = .ok (.iconst (-1), 1) := by decide +kernel
theorem dX12_countsWith_57 : decode cX12_countsWith 57 = .ok (.if_icmp .ne 7, 3) := by decide +kernel
theorem dX12_countsWith_60 : decode cX12_countsWith 60 = .ok (.iconst (-1), 1) := by decide +kernel
theorem dX12_countsWith_61 : decode cX12_countsWith 61 = .ok (.goto 9, 3) := by decide +kernel
theorem dX12_countsWith_64 : decode cX12_countsWith 64 = .ok (.aload_n 0, 1) := by decide +kernel
theorem dX12_countsWith_65 : decode cX12_countsWith 65 = .ok (.getfield 63, 3) := by decide +kernel
theorem dX12_countsWith_68 : decode cX12_countsWith 68 = .ok (.iload_n 3, 1) := by decide +kernel
theorem dX12_countsWith_69 : decode cX12_countsWith 69 = .ok (.iaload, 1) := by decide +kernel
theorem dX12_countsWith_70 : decode cX12_countsWith 70 = .ok (.istore 6, 2) := by decide +kernel
theorem dX12_countsWith_72 : decode cX12_countsWith 72 = .ok (.iload_n 3, 1) := by decide +kernel
theorem dX12_countsWith_73 : decode cX12_countsWith 73 = .ok (.iconst (-1), 1) := by decide +kernel
theorem dX12_countsWith_74 : decode cX12_countsWith 74 = .ok (.if_icmp .eq 16, 3) := by decide +kernel
theorem dX12_countsWith_77 : decode cX12_countsWith 77 = .ok (.iload 6, 2) := by decide +kernel
theorem dX12_countsWith_79 : decode cX12_countsWith 79 = .ok (.iconst (-1), 1) := by decide +kernel
theorem dX12_countsWith_80 : decode cX12_countsWith 80 = .ok (.if_icmp .eq 10, 3) := by decide +kernel
theorem dX12_countsWith_83 : decode cX12_countsWith 83 = .ok (.iload 6, 2) := by decide +kernel
theorem dX12_countsWith_85 : decode cX12_countsWith 85 = .ok (.iload 4, 2) := by decide +kernel
theorem dX12_countsWith_87 : decode cX12_countsWith 87 = .ok (.if_icmp .ne 7, 3) := by decide +kernel
theorem dX12_countsWith_90 : decode cX12_countsWith 90 = .ok (.iconst 1, 1) := by decide +kernel
theorem dX12_countsWith_91 : decode cX12_countsWith 91 = .ok (.goto 4, 3) := by decide +kernel
theorem dX12_countsWith_94 : decode cX12_countsWith 94 = .ok (.iconst 0, 1) := by decide +kernel
theorem dX12_countsWith_95 : decode cX12_countsWith 95 = .ok (.istore 7, 2) := by decide +kernel
theorem dX12_countsWith_97 : decode cX12_countsWith 97 = .ok (.iload_n 3, 1) := by decide +kernel
theorem dX12_countsWith_98 : decode cX12_countsWith 98 = .ok (.iconst (-1), 1) := by decide +kernel
theorem dX12_countsWith_99 : decode cX12_countsWith 99 = .ok (.if_icmp .eq 11, 3) := by decide +kernel
theorem dX12_countsWith_102 : decode cX12_countsWith 102 = .ok (.aload_n 0, 1) := by decide +kernel
theorem dX12_countsWith_103 : decode cX12_countsWith 103 = .ok (.getfield 63, 3) := by decide +kernel
theorem dX12_countsWith_106 : decode cX12_countsWith 106 = .ok (.iload_n 3, 1) := by decide +kernel
theorem dX12_countsWith_107 : decode cX12_countsWith 107 = .ok (.iload 4, 2) := by decide +kernel
theorem dX12_countsWith_109 : decode cX12_countsWith 109 = .ok (.iastore, 1) := by decide +kernel
theorem dX12_countsWith_110 : decode cX12_countsWith 110 = .ok (.iload 7, 2) := by decide +kernel
theorem dX12_countsWith_112 : decode cX12_countsWith 112 = .ok (.ifCond .eq 31, 3) := by decide +kernel
theorem dX12_countsWith_115 : decode cX12_countsWith 115 = .ok (.iload_n 3, 1) := by decide +kernel
theorem dX12_countsWith_116 : decode cX12_countsWith 116 = .ok (.iload_n 1, 1) := by decide +kernel
theorem dX12_countsWith_117 : decode cX12_countsWith 117 = .ok (.if_icmp .ne 9, 3) := by decide +kernel
theorem dX12_countsWith_120 : decode cX12_countsWith 120 = .ok (.iload 4, 2) := by decide +kernel
theorem dX12_countsWith_122 : decode cX12_countsWith 122 = .ok (.iload_n 2, 1) := by decide +kernel
theorem dX12_countsWith_123 : decode cX12_countsWith 123 = .ok (.if_icmp .ne 20, 3) := by decide +kernel
theorem dX12_countsWith_126 : decode cX12_countsWith 126 = .ok (.iload_n 2, 1) := by decide +kernel
theorem dX12_countsWith_127 : decode cX12_countsWith 127 = .ok (.ifCond .lt 16, 3) := by decide +kernel
theorem dX12_countsWith_130 : decode cX12_countsWith 130 = .ok (.iload 4, 2) := by decide +kernel
theorem dX12_countsWith_132 : decode cX12_countsWith 132 = .ok (.iconst (-1), 1) := by decide +kernel
theorem dX12_countsWith_133 : decode cX12_countsWith 133 = .ok (.if_icmp .lt 10, 3) := by decide +kernel
theorem dX12_countsWith_136 : decode cX12_countsWith 136 = .ok (.aload_n 0, 1) := by decide +kernel
theorem dX12_countsWith_137 : decode cX12_countsWith 137 = .ok (.invokevirtual 332, 3) := by decide +kernel
theorem dX12_countsWith_140 : decode cX12_countsWith 140 = .ok (.goto 4, 3) := by decide +kernel
theorem dX12_countsWith_143 : decode cX12_countsWith 143 = .ok (.iconst 0, 1) := by decide +kernel
theorem dX12_countsWith_144 : decode cX12_countsWith 144 = .ok (.istore 8, 2) := by decide +kernel
theorem dX12_countsWith_146 : decode cX12_countsWith 146 = .ok (.iload_n 3, 1) := by decide +kernel
theorem dX12_countsWith_147 : decode cX12_countsWith 147 = .ok (.iconst (-1), 1) := by decide +kernel
theorem dX12_countsWith_148 : decode cX12_countsWith 148 = .ok (.if_icmp .eq 11, 3) := by decide +kernel
theorem dX12_countsWith_151 : decode cX12_countsWith 151 = .ok (.aload_n 0, 1) := by decide +kernel
theorem dX12_countsWith_152 : decode cX12_countsWith 152 = .ok (.getfield 63, 3) := by decide +kernel
theorem dX12_countsWith_155 : decode cX12_countsWith 155 = .ok (.iload_n 3, 1) := by decide +kernel
theorem dX12_countsWith_156 : decode cX12_countsWith 156 = .ok (.iload 6, 2) := by decide +kernel
theorem dX12_countsWith_158 : decode cX12_countsWith 158 = .ok (.iastore, 1) := by decide +kernel
theorem dX12_countsWith_159 : decode cX12_countsWith 159 = .ok (.aload_n 0, 1) := by decide +kernel
theorem dX12_countsWith_160 : decode cX12_countsWith 160 = .ok (.getfield 63, 3) := by decide +kernel
theorem dX12_countsWith_163 : decode cX12_countsWith 163 = .ok (.iload_n 1, 1) := by decide +kernel
theorem dX12_countsWith_164 : decode cX12_countsWith 164 = .ok (.iload 5, 2) := by decide +kernel
theorem dX12_countsWith_166 : decode cX12_countsWith 166 = .ok (.iastore, 1) := by decide +kernel
theorem dX12_countsWith_167 : decode cX12_countsWith 167 = .ok (.iload 8, 2) := by decide +kernel
theorem dX12_countsWith_169 : decode cX12_countsWith 169 = .ok (.ireturn, 1) := by decide +kernel
set_option maxHeartbeats 4000000 in
set_option maxRecDepth 100000 in
theorem lp_sX12_countsWith {p : Program} {l : Launch} {e : Env} {R : Room} {s : State} {m : MethodId} {args : Array Value} {below : List Frame} {meth : Method} {c : Code} {Q : State → Prop} {A : Nat → Prop} {cells slots : Nat} {dC : Nat → ClassId} {dI : Nat → Nat → Nat} (h0 : Nat) (mi : Nat → Int32) (mr : Nat → Nat) (km : Nat → ClassId) (fm_must : Nat → Int32) (fm_least : Nat → Int32) (fm_pin : Nat → Int32) (fm_ways : Nat → Int32) (fm_trust : Nat → Int32) (fm_letter : Nat → Int32) (fm_reportPlace : Nat → Int32) (fm_reportKind : Nat → Int32) (fm_struck : Nat → Int32) (fm_reportMonth : Nat → Int32) (fm_reportDay : Nat → Int32) (fm_reportKnown : Nat → Int32) (fm_deedMonth : Nat → Int32) (fm_deedDay : Nat → Int32) (fm_deedLong : Nat → Int32) (fm_deedKind : Nat → Int32) (fm_kept : Nat → Int32) (fm_tape : Nat → Int32) (fm_verdict : Nat → Int32) (fm_row : Nat → Int32) (fm_official : Nat → Int32) (fm_aside : Nat → Int32) (fm_worth : Nat → Int32) (fm_out : Nat → Int32) (p1 : Int32) (p2 : Int32) (p3 : Int32) (p4 : Int32) (gmi_0 : gi (mi 0) 0 24) (gmi_1 : gi (mi 1) 0 5) (gmi_2 : gi (mi 2) 0 5) (gmi_4 : gi (mi 4) 0 1) (gmi_7 : gi (mi 7) 0 6) (gmi_10 : gi (mi 10) 0 24) (gmi_17 : gi (mi 17) 0 8) (gmi_23 : gi (mi 23) 0 300) (gmi_24 : gi (mi 24) 0 1) (gmi_26 : gi (mi 26) 0 1600) (gmi_29 : gi (mi 29) 0 1600) (gmi_30 : gi (mi 30) 0 1600) (gmi_33 : gi (mi 33) 0 1) (gmi_37 : gi (mi 37) 0 1) (gmi_41 : gi (mi 41) 0 24) (gmi_50 : gi (mi 50) 0 1) (gmi_51 : gi (mi 51) 0 1) (gmi_56 : gi (mi 56) 0 80) (gp1 : gi p1 0 24) (gp3 : gi p3 (-1) 24) (hx : p.tables.exec = Jvm.exec) (hb : c.code = cX12_countsWith) (hml : c.maxLocals = 9) (hown : s.vm.findClass RX12 = some m.cls) (hts : ∀ w ∈ ((.code yX12_countsWith cX12_countsWith 9 (some .int) :: wsGB) : List Cond), w.before args s = true) (hK : va_K (dC, dI) vwCl (MT km) s) (hA : ∀ q : Nat, s.heap.size ≤ q → A q) (hRf : 3 ≤ R.frames) (hRl : 73 ≤ R.locals) (hRc : cells ≤ R.cells) (hRs : slots ≤ R.slots) (kr39 : ∀ (v : Int32) (z3 : Nat → Int32) (z4 : Nat → Int32) (H : Heap) (locs : List Loc) (ls : Array Slot), gi v 0 0 → va_P (dC, dI) vwCl (MWn h0 mr km (mi 0) (mi 1) (mi 2) (mi 3) (mi 4) (mi 5) (mi 6) (mi 7) (mi 10) (mi 17) (mi 23) (mi 24) (mi 26) (mi 27) (mi 28) (mi 29) (mi 30) (mi 31) (mi 32) (mi 33) (mi 37) (mi 41) (mi 42) (mi 43) (mi 44) (mi 45) (mi 47) (mi 48) (mi 49) (mi 50) (mi 51) (mi 54) (mi 56) fm_trust fm_letter fm_reportPlace fm_reportKind fm_struck fm_reportMonth fm_reportDay fm_reportKnown fm_deedMonth fm_deedDay fm_deedLong fm_deedKind fm_kept fm_tape fm_must fm_least z3 z4 fm_verdict fm_row fm_official fm_aside fm_worth fm_out) H → va_D A (MWn h0 mr km (mi 0) (mi 1) (mi 2) (mi 3) (mi 4) (mi 5) (mi 6) (mi 7) (mi 10) (mi 17) (mi 23) (mi 24) (mi 26) (mi 27) (mi 28) (mi 29) (mi 30) (mi 31) (mi 32) (mi 33) (mi 37) (mi 41) (mi 42) (mi 43) (mi 44) (mi 45) (mi 47) (mi 48) (mi 49) (mi 50) (mi 51) (mi 54) (mi 56) fm_trust fm_letter fm_reportPlace fm_reportKind fm_struck fm_reportMonth fm_reportDay fm_reportKnown fm_deedMonth fm_deedDay fm_deedLong fm_deedKind fm_kept fm_tape fm_must fm_least z3 z4 fm_verdict fm_row fm_official fm_aside fm_worth fm_out) → va_S A s.heap H locs → lv_has ls 9 [] → W p l e R s m args below meth c H locs cells slots Q (F0 m 39 ls [.int v])) (kr169 : ∀ (v : Int32) (z3 : Nat → Int32) (z4 : Nat → Int32) (H : Heap) (locs : List Loc) (ls : Array Slot), va_P (dC, dI) vwCl (MWn h0 mr km (mi 0) (mi 1) (mi 2) (mi 3) (mi 4) (mi 5) (mi 6) (mi 7) (mi 10) (mi 17) (mi 23) (mi 24) (mi 26) (mi 27) (mi 28) (mi 29) (mi 30) (mi 31) (mi 32) (mi 33) (mi 37) (mi 41) (mi 42) (mi 43) (mi 44) (mi 45) (mi 47) (mi 48) (mi 49) (mi 50) (mi 51) (mi 54) (mi 56) fm_trust fm_letter fm_reportPlace fm_reportKind fm_struck fm_reportMonth fm_reportDay fm_reportKnown fm_deedMonth fm_deedDay fm_deedLong fm_deedKind fm_kept fm_tape fm_must fm_least z3 z4 fm_verdict fm_row fm_official fm_aside fm_worth fm_out) H → va_D A (MWn h0 mr km (mi 0) (mi 1) (mi 2) (mi 3) (mi 4) (mi 5) (mi 6) (mi 7) (mi 10) (mi 17) (mi 23) (mi 24) (mi 26) (mi 27) (mi 28) (mi 29) (mi 30) (mi 31) (mi 32) (mi 33) (mi 37) (mi 41) (mi 42) (mi 43) (mi 44) (mi 45) (mi 47) (mi 48) (mi 49) (mi 50) (mi 51) (mi 54) (mi 56) fm_trust fm_letter fm_reportPlace fm_reportKind fm_struck fm_reportMonth fm_reportDay fm_reportKnown fm_deedMonth fm_deedDay fm_deedLong fm_deedKind fm_kept fm_tape fm_must fm_least z3 z4 fm_verdict fm_row fm_official fm_aside fm_worth fm_out) → va_S A s.heap H locs → lv_has ls 9 [] → W p l e R s m args below meth c H locs cells slots Q (F0 m 169 ls [.int v])) : ∀ z : Nat, (∀ (v5 : Int32) (v6 : Int32) (z3 : Nat → Int32) (H : Heap) (locs : List Loc) (ls : Array Slot), gi p2 0 720 → 3 < (z : Int) → va_P (dC, dI) vwCl (MWn h0 mr km (mi 0) (mi 1) (mi 2) (mi 3) (mi 4) (mi 5) (mi 6) (mi 7) (mi 10) (mi 17) (mi 23) (mi 24) (mi 26) (mi 27) (mi 28) (mi 29) (mi 30) (mi 31) (mi 32) (mi 33) (mi 37) (mi 41) (mi 42) (mi 43) (mi 44) (mi 45) (mi 47) (mi 48) (mi 49) (mi 50) (mi 51) (mi 54) (mi 56) fm_trust fm_letter fm_reportPlace fm_reportKind fm_struck fm_reportMonth fm_reportDay fm_reportKnown fm_deedMonth fm_deedDay fm_deedLong fm_deedKind fm_kept fm_tape fm_must fm_least z3 fm_ways fm_verdict fm_row fm_official fm_aside fm_worth fm_out) H → va_D A (MWn h0 mr km (mi 0) (mi 1) (mi 2) (mi 3) (mi 4) (mi 5) (mi 6) (mi 7) (mi 10) (mi 17) (mi 23) (mi 24) (mi 26) (mi 27) (mi 28) (mi 29) (mi 30) (mi 31) (mi 32) (mi 33) (mi 37) (mi 41) (mi 42) (mi 43) (mi 44) (mi 45) (mi 47) (mi 48) (mi 49) (mi 50) (mi 51) (mi 54) (mi 56) fm_trust fm_letter fm_reportPlace fm_reportKind fm_struck fm_reportMonth fm_reportDay fm_reportKnown fm_deedMonth fm_deedDay fm_deedLong fm_deedKind fm_kept fm_tape fm_must fm_least z3 fm_ways fm_verdict fm_row fm_official fm_aside fm_worth fm_out) → va_S A s.heap H locs → lv_has ls 9 [(0, .ref h0), (1, .int p1), (2, .int p2), (3, .int p3), (4, .int p4), (5, .int v5), (6, .int v6)] → W p l e R s m args below meth c H locs cells slots Q (F0 m 72 ls [])) ∧ (∀ (v5 : Int32) (v6 : Int32) (v7 : Int32) (z3 : Nat → Int32) (H : Heap) (locs : List Loc) (ls : Array Slot), gi p2 0 720 → gi v7 0 1 → 2 < (z : Int) → va_P (dC, dI) vwCl (MWn h0 mr km (mi 0) (mi 1) (mi 2) (mi 3) (mi 4) (mi 5) (mi 6) (mi 7) (mi 10) (mi 17) (mi 23) (mi 24) (mi 26) (mi 27) (mi 28) (mi 29) (mi 30) (mi 31) (mi 32) (mi 33) (mi 37) (mi 41) (mi 42) (mi 43) (mi 44) (mi 45) (mi 47) (mi 48) (mi 49) (mi 50) (mi 51) (mi 54) (mi 56) fm_trust fm_letter fm_reportPlace fm_reportKind fm_struck fm_reportMonth fm_reportDay fm_reportKnown fm_deedMonth fm_deedDay fm_deedLong fm_deedKind fm_kept fm_tape fm_must fm_least z3 fm_ways fm_verdict fm_row fm_official fm_aside fm_worth fm_out) H → va_D A (MWn h0 mr km (mi 0) (mi 1) (mi 2) (mi 3) (mi 4) (mi 5) (mi 6) (mi 7) (mi 10) (mi 17) (mi 23) (mi 24) (mi 26) (mi 27) (mi 28) (mi 29) (mi 30) (mi 31) (mi 32) (mi 33) (mi 37) (mi 41) (mi 42) (mi 43) (mi 44) (mi 45) (mi 47) (mi 48) (mi 49) (mi 50) (mi 51) (mi 54) (mi 56) fm_trust fm_letter fm_reportPlace fm_reportKind fm_struck fm_reportMonth fm_reportDay fm_reportKnown fm_deedMonth fm_deedDay fm_deedLong fm_deedKind fm_kept fm_tape fm_must fm_least z3 fm_ways fm_verdict fm_row fm_official fm_aside fm_worth fm_out) → va_S A s.heap H locs → lv_has ls 9 [(0, .ref h0), (1, .int p1), (2, .int p2), (3, .int p3), (4, .int p4), (5, .int v5), (6, .int v6), (7, .int v7)] → W p l e R s m args below meth c H locs cells slots Q (F0 m 97 ls [])) ∧ (∀ (v5 : Int32) (v6 : Int32) (v7 : Int32) (v8 : Int32) (z3 : Nat → Int32) (z4 : Nat → Int32) (H : Heap) (locs : List Loc) (ls : Array Slot), gi p2 0 720 → gi v7 0 1 → 1 < (z : Int) → va_P (dC, dI) vwCl (MWn h0 mr km (mi 0) (mi 1) (mi 2) (mi 3) (mi 4) (mi 5) (mi 6) (mi 7) (mi 10) (mi 17) (mi 23) (mi 24) (mi 26) (mi 27) (mi 28) (mi 29) (mi 30) (mi 31) (mi 32) (mi 33) (mi 37) (mi 41) (mi 42) (mi 43) (mi 44) (mi 45) (mi 47) (mi 48) (mi 49) (mi 50) (mi 51) (mi 54) (mi 56) fm_trust fm_letter fm_reportPlace fm_reportKind fm_struck fm_reportMonth fm_reportDay fm_reportKnown fm_deedMonth fm_deedDay fm_deedLong fm_deedKind fm_kept fm_tape fm_must fm_least z3 z4 fm_verdict fm_row fm_official fm_aside fm_worth fm_out) H → va_D A (MWn h0 mr km (mi 0) (mi 1) (mi 2) (mi 3) (mi 4) (mi 5) (mi 6) (mi 7) (mi 10) (mi 17) (mi 23) (mi 24) (mi 26) (mi 27) (mi 28) (mi 29) (mi 30) (mi 31) (mi 32) (mi 33) (mi 37) (mi 41) (mi 42) (mi 43) (mi 44) (mi 45) (mi 47) (mi 48) (mi 49) (mi 50) (mi 51) (mi 54) (mi 56) fm_trust fm_letter fm_reportPlace fm_reportKind fm_struck fm_reportMonth fm_reportDay fm_reportKnown fm_deedMonth fm_deedDay fm_deedLong fm_deedKind fm_kept fm_tape fm_must fm_least z3 z4 fm_verdict fm_row fm_official fm_aside fm_worth fm_out) → va_S A s.heap H locs → lv_has ls 9 [(0, .ref h0), (1, .int p1), (2, .int p2), (3, .int p3), (4, .int p4), (5, .int v5), (6, .int v6), (7, .int v7), (8, .int v8)] → W p l e R s m args below meth c H locs cells slots Q (F0 m 146 ls [])) := by
  intro z
  induction z with
  | zero =>
    refine ⟨?_, ?_, ?_⟩
    · intro v5 v6 z3 H locs ls gf_p2 hmu hP hD hS hl
      exact absurd hmu (by omega)
    · intro v5 v6 v7 z3 H locs ls gf_p2 gv7 hmu hP hD hS hl
      exact absurd hmu (by omega)
    · intro v5 v6 v7 v8 z3 z4 H locs ls gf_p2 gv7 hmu hP hD hS hl
      exact absurd hmu (by omega)
  | succ z ih =>
    refine ⟨?_, ?_, ?_⟩
    · intro v5 v6 z3 H locs ls gf_p2 hmu hP hD hS hl
      refine lv_iload_n hx hb dX12_countsWith_72 rfl (lv_at hl 3 rfl) ?_
      refine lv_iconst (v := (-1)) hx hb dX12_countsWith_73 (by decide) ?_
      refine lv_icmp_eq (tgt := 90) hx hb dX12_countsWith_74 (by decide) (fun c_141 => ?_) (fun c_141 => ?_)
      · have g_142 : gi p3 (-1) (-1) := gi_eq c_141 (gi_c (-1) (-1) (by decide))
        refine lv_iconst (v := 1) hx hb dX12_countsWith_90 (by decide) ?_
        refine lv_goto (tgt := 95) hx hb dX12_countsWith_91 (by decide) ?_
        refine lv_istore (lv' := [(7, .int 1), (0, .ref h0), (1, .int p1), (2, .int p2), (3, .int p3), (4, .int p4), (5, .int v5), (6, .int v6)]) hx hb dX12_countsWith_95 hl (by decide) rfl (fun ls hl => ?_)
        exact ih.2.1 v5 v6 1 z3 _ _ _ gf_p2 (gi_w (gi_c 1 1 (by decide)) (by decide)) (by omega) hP hD hS (lv_sub hl [1, 2, 3, 4, 5, 6, 7, 0] rfl)
      · have g_143 : gi p3 0 24 := gi_ne_lo c_141 gp3 (gi_c (-1) (-1) (by decide)) (by decide)
        refine lv_iload hx hb dX12_countsWith_77 (lv_at hl 6 rfl) ?_
        refine lv_iconst (v := (-1)) hx hb dX12_countsWith_79 (by decide) ?_
        refine lv_icmp_eq (tgt := 90) hx hb dX12_countsWith_80 (by decide) (fun c_144 => ?_) (fun c_144 => ?_)
        · have g_145 : gi v6 (-1) (-1) := gi_eq c_144 (gi_c (-1) (-1) (by decide))
          refine lv_iconst (v := 1) hx hb dX12_countsWith_90 (by decide) ?_
          refine lv_goto (tgt := 95) hx hb dX12_countsWith_91 (by decide) ?_
          refine lv_istore (lv' := [(7, .int 1), (0, .ref h0), (1, .int p1), (2, .int p2), (3, .int p3), (4, .int p4), (5, .int v5), (6, .int v6)]) hx hb dX12_countsWith_95 hl (by decide) rfl (fun ls hl => ?_)
          exact ih.2.1 v5 v6 1 z3 _ _ _ gf_p2 (gi_w (gi_c 1 1 (by decide)) (by decide)) (by omega) hP hD hS (lv_sub hl [1, 2, 3, 4, 5, 6, 7, 0] rfl)
        · refine lv_iload hx hb dX12_countsWith_83 (lv_at hl 6 rfl) ?_
          refine lv_iload hx hb dX12_countsWith_85 (lv_at hl 4 rfl) ?_
          refine lv_icmp_ne (tgt := 94) hx hb dX12_countsWith_87 (by decide) (fun c_146 => ?_) (fun c_146 => ?_)
          · refine lv_iconst (v := 0) hx hb dX12_countsWith_94 (by decide) ?_
            refine lv_istore (lv' := [(7, .int 0), (0, .ref h0), (1, .int p1), (2, .int p2), (3, .int p3), (4, .int p4), (5, .int v5), (6, .int v6)]) hx hb dX12_countsWith_95 hl (by decide) rfl (fun ls hl => ?_)
            exact ih.2.1 v5 v6 0 z3 _ _ _ gf_p2 (gi_w (gi_c 0 0 (by decide)) (by decide)) (by omega) hP hD hS (lv_sub hl [1, 2, 3, 4, 5, 6, 7, 0] rfl)
          · refine lv_iconst (v := 1) hx hb dX12_countsWith_90 (by decide) ?_
            refine lv_goto (tgt := 95) hx hb dX12_countsWith_91 (by decide) ?_
            refine lv_istore (lv' := [(7, .int 1), (0, .ref h0), (1, .int p1), (2, .int p2), (3, .int p3), (4, .int p4), (5, .int v5), (6, .int v6)]) hx hb dX12_countsWith_95 hl (by decide) rfl (fun ls hl => ?_)
            exact ih.2.1 v5 v6 1 z3 _ _ _ gf_p2 (gi_w (gi_c 1 1 (by decide)) (by decide)) (by omega) hP hD hS (lv_sub hl [1, 2, 3, 4, 5, 6, 7, 0] rfl)
    · intro v5 v6 v7 z3 H locs ls gf_p2 gv7 hmu hP hD hS hl
      refine lv_iload_n hx hb dX12_countsWith_97 rfl (lv_at hl 3 rfl) ?_
      refine lv_iconst (v := (-1)) hx hb dX12_countsWith_98 (by decide) ?_
      refine lv_icmp_eq (tgt := 110) hx hb dX12_countsWith_99 (by decide) (fun c_147 => ?_) (fun c_147 => ?_)
      · have g_148 : gi p3 (-1) (-1) := gi_eq c_147 (gi_c (-1) (-1) (by decide))
        refine lv_iload hx hb dX12_countsWith_110 (lv_at hl 7 rfl) ?_
        refine lv_if_eq (tgt := 143) hx hb dX12_countsWith_112 (by decide) (fun c_149 => ?_) (fun c_149 => ?_)
        · have g_150 : gi v7 0 0 := gi_eq c_149 (gi_c 0 0 (by decide))
          refine lv_iconst (v := 0) hx hb dX12_countsWith_143 (by decide) ?_
          refine lv_istore (lv' := [(8, .int 0), (0, .ref h0), (1, .int p1), (2, .int p2), (3, .int p3), (4, .int p4), (5, .int v5), (6, .int v6), (7, .int v7)]) hx hb dX12_countsWith_144 hl (by decide) rfl (fun ls hl => ?_)
          exact ih.2.2 v5 v6 v7 0 z3 fm_ways _ _ _ gf_p2 (gi_w g_150 (by decide)) (by omega) hP hD hS (lv_sub hl [1, 2, 3, 4, 5, 6, 7, 8, 0] rfl)
        · have g_151 : gi v7 1 1 := gi_ne_lo c_149 gv7 (gi_c 0 0 (by decide)) (by decide)
          refine lv_iload_n hx hb dX12_countsWith_115 rfl (lv_at hl 3 rfl) ?_
          refine lv_iload_n hx hb dX12_countsWith_116 rfl (lv_at hl 1 rfl) ?_
          refine lv_icmp_ne (tgt := 126) hx hb dX12_countsWith_117 (by decide) (fun c_152 => ?_) (fun c_152 => absurd c_152 (gi_no_eq g_148 gp1 (by decide)))
          refine lv_iload_n hx hb dX12_countsWith_126 rfl (lv_at hl 2 rfl) ?_
          refine lv_if_lt (tgt := 143) hx hb dX12_countsWith_127 (by decide) (fun c_153 => absurd c_153 (gi_no_lt gf_p2 (gi_c 0 0 (by decide)) (by decide))) (fun c_153 => ?_)
          refine lv_iload hx hb dX12_countsWith_130 (lv_at hl 4 rfl) ?_
          refine lv_iconst (v := (-1)) hx hb dX12_countsWith_132 (by decide) ?_
          refine lv_icmp_lt (tgt := 143) hx hb dX12_countsWith_133 (by decide) (fun c_154 => ?_) (fun c_154 => ?_)
          · have g_155 : gi p4 (-2147483648) (-2) := gi_lt_l c_154 (gi_any p4) (gi_c (-1) (-1) (by decide)) (by decide)
            refine lv_iconst (v := 0) hx hb dX12_countsWith_143 (by decide) ?_
            refine lv_istore (lv' := [(8, .int 0), (0, .ref h0), (1, .int p1), (2, .int p2), (3, .int p3), (4, .int p4), (5, .int v5), (6, .int v6), (7, .int v7)]) hx hb dX12_countsWith_144 hl (by decide) rfl (fun ls hl => ?_)
            exact ih.2.2 v5 v6 v7 0 z3 fm_ways _ _ _ gf_p2 (gi_w g_151 (by decide)) (by omega) hP hD hS (lv_sub hl [1, 2, 3, 4, 5, 6, 7, 8, 0] rfl)
          · have g_156 : gi p4 (-1) 2147483647 := gi_le_r (Int32.not_lt.mp c_154) (gi_c (-1) (-1) (by decide)) (gi_any p4)
            refine lv_aload_n hx hb dX12_countsWith_136 rfl (lv_at hl 0 rfl) ?_
            have hFc := gz_fullF hD hS hA
            refine va_calli (va_runV (As := []) (rest := []) ⟨hx, hb, hml, hown, hts⟩ (sX12_counts l dC dI H.size h0 mi mr km fm_must fm_least z3 fm_ways fm_trust fm_letter fm_reportPlace fm_reportKind fm_struck fm_reportMonth fm_reportDay fm_reportKnown fm_deedMonth fm_deedDay fm_deedLong fm_deedKind fm_kept fm_tape fm_verdict fm_row fm_official fm_aside fm_worth fm_out gmi_0 gmi_1 gmi_2 gmi_4 gmi_7 gmi_10 gmi_17 gmi_23 gmi_24 gmi_26 gmi_29 gmi_30 gmi_33 gmi_37 gmi_41 gmi_50 gmi_51 gmi_56) (cwV 0 hts (gz_gV mGB_299 mGB_300 mGB_301 mGB_1 mGB_302 goodGB) rfl rfl rfl (by decide +kernel) ⟨Nat.le_trans (Nat.le_of_ble_eq_true rfl) hRf, Nat.le_trans (Nat.le_of_ble_eq_true rfl) hRl⟩) ⟨bl_W, mw_recv hK hP, fun U hU hW => ⟨rfl, by rw [hU], by rw [hU]; exact hP, va_K.moved hW.alike hK, hD.weaken (fun _ _ _ _ => trivial)⟩⟩ rfl rfl hl.1 rfl (lv_room (Nat.le_of_ble_eq_true rfl)) dX12_countsWith_137 ⟨hRc, hRs⟩) hS (fun q _ h => hFc q h) hFc (fun r_157 u t H1 locs ht hvm hw hB hz1 hk1 hS => ?_)
            obtain ⟨f_158, hB⟩ := hB
            obtain ⟨hP1, hD1⟩ := hB
            rw [ht] at hP1
            have hD : va_D A (MWn h0 mr km (mi 0) (mi 1) (mi 2) (mi 3) (mi 4) (mi 5) (mi 6) (mi 7) (mi 10) (mi 17) (mi 23) (mi 24) (mi 26) (mi 27) (mi 28) (mi 29) (mi 30) (mi 31) (mi 32) (mi 33) (mi 37) (mi 41) (mi 42) (mi 43) (mi 44) (mi 45) (mi 47) (mi 48) (mi 49) (mi 50) (mi 51) (mi 54) (mi 56) fm_trust fm_letter fm_reportPlace fm_reportKind fm_struck fm_reportMonth fm_reportDay fm_reportKnown fm_deedMonth fm_deedDay fm_deedLong fm_deedKind fm_kept fm_tape fm_must fm_least z3 f_158 fm_verdict fm_row fm_official fm_aside fm_worth fm_out) := gz_fullD hFc hD1
            have hP : va_P (dC, dI) vwCl (MWn h0 mr km (mi 0) (mi 1) (mi 2) (mi 3) (mi 4) (mi 5) (mi 6) (mi 7) (mi 10) (mi 17) (mi 23) (mi 24) (mi 26) (mi 27) (mi 28) (mi 29) (mi 30) (mi 31) (mi 32) (mi 33) (mi 37) (mi 41) (mi 42) (mi 43) (mi 44) (mi 45) (mi 47) (mi 48) (mi 49) (mi 50) (mi 51) (mi 54) (mi 56) fm_trust fm_letter fm_reportPlace fm_reportKind fm_struck fm_reportMonth fm_reportDay fm_reportKnown fm_deedMonth fm_deedDay fm_deedLong fm_deedKind fm_kept fm_tape fm_must fm_least z3 f_158 fm_verdict fm_row fm_official fm_aside fm_worth fm_out) H1 := hP1
            generalize H1 = H at hP hS ⊢
            refine lv_goto (tgt := 144) hx hb dX12_countsWith_140 (by decide) ?_
            refine lv_istore (lv' := [(8, .int r_157), (0, .ref h0), (1, .int p1), (2, .int p2), (3, .int p3), (4, .int p4), (5, .int v5), (6, .int v6), (7, .int v7)]) hx hb dX12_countsWith_144 hl (by decide) rfl (fun ls hl => ?_)
            exact ih.2.2 v5 v6 v7 r_157 z3 f_158 _ _ _ gf_p2 (gi_w g_151 (by decide)) (by omega) hP hD hS (lv_sub hl [1, 2, 3, 4, 5, 6, 7, 8, 0] rfl)
      · have g_159 : gi p3 0 24 := gi_ne_lo c_147 gp3 (gi_c (-1) (-1) (by decide)) (by decide)
        refine lv_aload_n hx hb dX12_countsWith_102 rfl (lv_at hl 0 rfl) ?_
        refine va_get (D := (dC, dI)) (ci := 12) (v := .ref (mr 16)) (C := RX12) (T := TX12) (N := 57) hx hb hts (fun w h => List.mem_cons_of_mem _ (jnGB_X12 w h)) hown hK hP 0 rfl rfl 36 (by decide) (hts _ (List.mem_cons_of_mem _ mGB_28)) (fun _ h9 => h9) rfl dX12_countsWith_103 ?_
        refine lv_iload_n hx hb dX12_countsWith_106 rfl (lv_at hl 3 rfl) ?_
        refine lv_iload hx hb dX12_countsWith_107 (lv_at hl 4 rfl) ?_
        refine va_iast hx hb hK hP hD hS 17 16 rfl rfl (gi_in g_159 (by decide)) dX12_countsWith_109 (fun H locs hP hD hS => ?_)
        have hP : va_P (dC, dI) vwCl (MWn h0 mr km (mi 0) (mi 1) (mi 2) (mi 3) (mi 4) (mi 5) (mi 6) (mi 7) (mi 10) (mi 17) (mi 23) (mi 24) (mi 26) (mi 27) (mi 28) (mi 29) (mi 30) (mi 31) (mi 32) (mi 33) (mi 37) (mi 41) (mi 42) (mi 43) (mi 44) (mi 45) (mi 47) (mi 48) (mi 49) (mi 50) (mi 51) (mi 54) (mi 56) fm_trust fm_letter fm_reportPlace fm_reportKind fm_struck fm_reportMonth fm_reportDay fm_reportKnown fm_deedMonth fm_deedDay fm_deedLong fm_deedKind fm_kept fm_tape fm_must fm_least (upd z3 (p3 : Int32).toNatClampNeg p4) fm_ways fm_verdict fm_row fm_official fm_aside fm_worth fm_out) H := hP
        have hD : va_D A (MWn h0 mr km (mi 0) (mi 1) (mi 2) (mi 3) (mi 4) (mi 5) (mi 6) (mi 7) (mi 10) (mi 17) (mi 23) (mi 24) (mi 26) (mi 27) (mi 28) (mi 29) (mi 30) (mi 31) (mi 32) (mi 33) (mi 37) (mi 41) (mi 42) (mi 43) (mi 44) (mi 45) (mi 47) (mi 48) (mi 49) (mi 50) (mi 51) (mi 54) (mi 56) fm_trust fm_letter fm_reportPlace fm_reportKind fm_struck fm_reportMonth fm_reportDay fm_reportKnown fm_deedMonth fm_deedDay fm_deedLong fm_deedKind fm_kept fm_tape fm_must fm_least (upd z3 (p3 : Int32).toNatClampNeg p4) fm_ways fm_verdict fm_row fm_official fm_aside fm_worth fm_out) := hD
        generalize upd z3 (p3 : Int32).toNatClampNeg p4 = f_160 at hP hD
        refine lv_iload hx hb dX12_countsWith_110 (lv_at hl 7 rfl) ?_
        refine lv_if_eq (tgt := 143) hx hb dX12_countsWith_112 (by decide) (fun c_161 => ?_) (fun c_161 => ?_)
        · have g_162 : gi v7 0 0 := gi_eq c_161 (gi_c 0 0 (by decide))
          refine lv_iconst (v := 0) hx hb dX12_countsWith_143 (by decide) ?_
          refine lv_istore (lv' := [(8, .int 0), (0, .ref h0), (1, .int p1), (2, .int p2), (3, .int p3), (4, .int p4), (5, .int v5), (6, .int v6), (7, .int v7)]) hx hb dX12_countsWith_144 hl (by decide) rfl (fun ls hl => ?_)
          exact ih.2.2 v5 v6 v7 0 f_160 fm_ways _ _ _ gf_p2 (gi_w g_162 (by decide)) (by omega) hP hD hS (lv_sub hl [1, 2, 3, 4, 5, 6, 7, 8, 0] rfl)
        · have g_163 : gi v7 1 1 := gi_ne_lo c_161 gv7 (gi_c 0 0 (by decide)) (by decide)
          refine lv_iload_n hx hb dX12_countsWith_115 rfl (lv_at hl 3 rfl) ?_
          refine lv_iload_n hx hb dX12_countsWith_116 rfl (lv_at hl 1 rfl) ?_
          refine lv_icmp_ne (tgt := 126) hx hb dX12_countsWith_117 (by decide) (fun c_164 => ?_) (fun c_164 => ?_)
          · refine lv_iload_n hx hb dX12_countsWith_126 rfl (lv_at hl 2 rfl) ?_
            refine lv_if_lt (tgt := 143) hx hb dX12_countsWith_127 (by decide) (fun c_165 => absurd c_165 (gi_no_lt gf_p2 (gi_c 0 0 (by decide)) (by decide))) (fun c_165 => ?_)
            refine lv_iload hx hb dX12_countsWith_130 (lv_at hl 4 rfl) ?_
            refine lv_iconst (v := (-1)) hx hb dX12_countsWith_132 (by decide) ?_
            refine lv_icmp_lt (tgt := 143) hx hb dX12_countsWith_133 (by decide) (fun c_166 => ?_) (fun c_166 => ?_)
            · have g_167 : gi p4 (-2147483648) (-2) := gi_lt_l c_166 (gi_any p4) (gi_c (-1) (-1) (by decide)) (by decide)
              refine lv_iconst (v := 0) hx hb dX12_countsWith_143 (by decide) ?_
              refine lv_istore (lv' := [(8, .int 0), (0, .ref h0), (1, .int p1), (2, .int p2), (3, .int p3), (4, .int p4), (5, .int v5), (6, .int v6), (7, .int v7)]) hx hb dX12_countsWith_144 hl (by decide) rfl (fun ls hl => ?_)
              exact ih.2.2 v5 v6 v7 0 f_160 fm_ways _ _ _ gf_p2 (gi_w g_163 (by decide)) (by omega) hP hD hS (lv_sub hl [1, 2, 3, 4, 5, 6, 7, 8, 0] rfl)
            · have g_168 : gi p4 (-1) 2147483647 := gi_le_r (Int32.not_lt.mp c_166) (gi_c (-1) (-1) (by decide)) (gi_any p4)
              refine lv_aload_n hx hb dX12_countsWith_136 rfl (lv_at hl 0 rfl) ?_
              have hFc := gz_fullF hD hS hA
              refine va_calli (va_runV (As := []) (rest := []) ⟨hx, hb, hml, hown, hts⟩ (sX12_counts l dC dI H.size h0 mi mr km fm_must fm_least f_160 fm_ways fm_trust fm_letter fm_reportPlace fm_reportKind fm_struck fm_reportMonth fm_reportDay fm_reportKnown fm_deedMonth fm_deedDay fm_deedLong fm_deedKind fm_kept fm_tape fm_verdict fm_row fm_official fm_aside fm_worth fm_out gmi_0 gmi_1 gmi_2 gmi_4 gmi_7 gmi_10 gmi_17 gmi_23 gmi_24 gmi_26 gmi_29 gmi_30 gmi_33 gmi_37 gmi_41 gmi_50 gmi_51 gmi_56) (cwV 0 hts (gz_gV mGB_299 mGB_300 mGB_301 mGB_1 mGB_302 goodGB) rfl rfl rfl (by decide +kernel) ⟨Nat.le_trans (Nat.le_of_ble_eq_true rfl) hRf, Nat.le_trans (Nat.le_of_ble_eq_true rfl) hRl⟩) ⟨bl_W, mw_recv hK hP, fun U hU hW => ⟨rfl, by rw [hU], by rw [hU]; exact hP, va_K.moved hW.alike hK, hD.weaken (fun _ _ _ _ => trivial)⟩⟩ rfl rfl hl.1 rfl (lv_room (Nat.le_of_ble_eq_true rfl)) dX12_countsWith_137 ⟨hRc, hRs⟩) hS (fun q _ h => hFc q h) hFc (fun r_169 u t H1 locs ht hvm hw hB hz1 hk1 hS => ?_)
              obtain ⟨f_170, hB⟩ := hB
              obtain ⟨hP1, hD1⟩ := hB
              rw [ht] at hP1
              have hD : va_D A (MWn h0 mr km (mi 0) (mi 1) (mi 2) (mi 3) (mi 4) (mi 5) (mi 6) (mi 7) (mi 10) (mi 17) (mi 23) (mi 24) (mi 26) (mi 27) (mi 28) (mi 29) (mi 30) (mi 31) (mi 32) (mi 33) (mi 37) (mi 41) (mi 42) (mi 43) (mi 44) (mi 45) (mi 47) (mi 48) (mi 49) (mi 50) (mi 51) (mi 54) (mi 56) fm_trust fm_letter fm_reportPlace fm_reportKind fm_struck fm_reportMonth fm_reportDay fm_reportKnown fm_deedMonth fm_deedDay fm_deedLong fm_deedKind fm_kept fm_tape fm_must fm_least f_160 f_170 fm_verdict fm_row fm_official fm_aside fm_worth fm_out) := gz_fullD hFc hD1
              have hP : va_P (dC, dI) vwCl (MWn h0 mr km (mi 0) (mi 1) (mi 2) (mi 3) (mi 4) (mi 5) (mi 6) (mi 7) (mi 10) (mi 17) (mi 23) (mi 24) (mi 26) (mi 27) (mi 28) (mi 29) (mi 30) (mi 31) (mi 32) (mi 33) (mi 37) (mi 41) (mi 42) (mi 43) (mi 44) (mi 45) (mi 47) (mi 48) (mi 49) (mi 50) (mi 51) (mi 54) (mi 56) fm_trust fm_letter fm_reportPlace fm_reportKind fm_struck fm_reportMonth fm_reportDay fm_reportKnown fm_deedMonth fm_deedDay fm_deedLong fm_deedKind fm_kept fm_tape fm_must fm_least f_160 f_170 fm_verdict fm_row fm_official fm_aside fm_worth fm_out) H1 := hP1
              generalize H1 = H at hP hS ⊢
              refine lv_goto (tgt := 144) hx hb dX12_countsWith_140 (by decide) ?_
              refine lv_istore (lv' := [(8, .int r_169), (0, .ref h0), (1, .int p1), (2, .int p2), (3, .int p3), (4, .int p4), (5, .int v5), (6, .int v6), (7, .int v7)]) hx hb dX12_countsWith_144 hl (by decide) rfl (fun ls hl => ?_)
              exact ih.2.2 v5 v6 v7 r_169 f_160 f_170 _ _ _ gf_p2 (gi_w g_163 (by decide)) (by omega) hP hD hS (lv_sub hl [1, 2, 3, 4, 5, 6, 7, 8, 0] rfl)
          · refine lv_iload hx hb dX12_countsWith_120 (lv_at hl 4 rfl) ?_
            refine lv_iload_n hx hb dX12_countsWith_122 rfl (lv_at hl 2 rfl) ?_
            refine lv_icmp_ne (tgt := 143) hx hb dX12_countsWith_123 (by decide) (fun c_171 => ?_) (fun c_171 => ?_)
            · refine lv_iconst (v := 0) hx hb dX12_countsWith_143 (by decide) ?_
              refine lv_istore (lv' := [(8, .int 0), (0, .ref h0), (1, .int p1), (2, .int p2), (3, .int p3), (4, .int p4), (5, .int v5), (6, .int v6), (7, .int v7)]) hx hb dX12_countsWith_144 hl (by decide) rfl (fun ls hl => ?_)
              exact ih.2.2 v5 v6 v7 0 f_160 fm_ways _ _ _ gf_p2 (gi_w g_163 (by decide)) (by omega) hP hD hS (lv_sub hl [1, 2, 3, 4, 5, 6, 7, 8, 0] rfl)
            · have g_172 : gi p4 0 720 := gi_eq c_171 gf_p2
              refine lv_iload_n hx hb dX12_countsWith_126 rfl (lv_at hl 2 rfl) ?_
              refine lv_if_lt (tgt := 143) hx hb dX12_countsWith_127 (by decide) (fun c_173 => absurd c_173 (gi_no_lt gf_p2 (gi_c 0 0 (by decide)) (by decide))) (fun c_173 => ?_)
              refine lv_iload hx hb dX12_countsWith_130 (lv_at hl 4 rfl) ?_
              refine lv_iconst (v := (-1)) hx hb dX12_countsWith_132 (by decide) ?_
              refine lv_icmp_lt (tgt := 143) hx hb dX12_countsWith_133 (by decide) (fun c_174 => absurd c_174 (gi_no_lt g_172 (gi_c (-1) (-1) (by decide)) (by decide))) (fun c_174 => ?_)
              refine lv_aload_n hx hb dX12_countsWith_136 rfl (lv_at hl 0 rfl) ?_
              have hFc := gz_fullF hD hS hA
              refine va_calli (va_runV (As := []) (rest := []) ⟨hx, hb, hml, hown, hts⟩ (sX12_counts l dC dI H.size h0 mi mr km fm_must fm_least f_160 fm_ways fm_trust fm_letter fm_reportPlace fm_reportKind fm_struck fm_reportMonth fm_reportDay fm_reportKnown fm_deedMonth fm_deedDay fm_deedLong fm_deedKind fm_kept fm_tape fm_verdict fm_row fm_official fm_aside fm_worth fm_out gmi_0 gmi_1 gmi_2 gmi_4 gmi_7 gmi_10 gmi_17 gmi_23 gmi_24 gmi_26 gmi_29 gmi_30 gmi_33 gmi_37 gmi_41 gmi_50 gmi_51 gmi_56) (cwV 0 hts (gz_gV mGB_299 mGB_300 mGB_301 mGB_1 mGB_302 goodGB) rfl rfl rfl (by decide +kernel) ⟨Nat.le_trans (Nat.le_of_ble_eq_true rfl) hRf, Nat.le_trans (Nat.le_of_ble_eq_true rfl) hRl⟩) ⟨bl_W, mw_recv hK hP, fun U hU hW => ⟨rfl, by rw [hU], by rw [hU]; exact hP, va_K.moved hW.alike hK, hD.weaken (fun _ _ _ _ => trivial)⟩⟩ rfl rfl hl.1 rfl (lv_room (Nat.le_of_ble_eq_true rfl)) dX12_countsWith_137 ⟨hRc, hRs⟩) hS (fun q _ h => hFc q h) hFc (fun r_175 u t H1 locs ht hvm hw hB hz1 hk1 hS => ?_)
              obtain ⟨f_176, hB⟩ := hB
              obtain ⟨hP1, hD1⟩ := hB
              rw [ht] at hP1
              have hD : va_D A (MWn h0 mr km (mi 0) (mi 1) (mi 2) (mi 3) (mi 4) (mi 5) (mi 6) (mi 7) (mi 10) (mi 17) (mi 23) (mi 24) (mi 26) (mi 27) (mi 28) (mi 29) (mi 30) (mi 31) (mi 32) (mi 33) (mi 37) (mi 41) (mi 42) (mi 43) (mi 44) (mi 45) (mi 47) (mi 48) (mi 49) (mi 50) (mi 51) (mi 54) (mi 56) fm_trust fm_letter fm_reportPlace fm_reportKind fm_struck fm_reportMonth fm_reportDay fm_reportKnown fm_deedMonth fm_deedDay fm_deedLong fm_deedKind fm_kept fm_tape fm_must fm_least f_160 f_176 fm_verdict fm_row fm_official fm_aside fm_worth fm_out) := gz_fullD hFc hD1
              have hP : va_P (dC, dI) vwCl (MWn h0 mr km (mi 0) (mi 1) (mi 2) (mi 3) (mi 4) (mi 5) (mi 6) (mi 7) (mi 10) (mi 17) (mi 23) (mi 24) (mi 26) (mi 27) (mi 28) (mi 29) (mi 30) (mi 31) (mi 32) (mi 33) (mi 37) (mi 41) (mi 42) (mi 43) (mi 44) (mi 45) (mi 47) (mi 48) (mi 49) (mi 50) (mi 51) (mi 54) (mi 56) fm_trust fm_letter fm_reportPlace fm_reportKind fm_struck fm_reportMonth fm_reportDay fm_reportKnown fm_deedMonth fm_deedDay fm_deedLong fm_deedKind fm_kept fm_tape fm_must fm_least f_160 f_176 fm_verdict fm_row fm_official fm_aside fm_worth fm_out) H1 := hP1
              generalize H1 = H at hP hS ⊢
              refine lv_goto (tgt := 144) hx hb dX12_countsWith_140 (by decide) ?_
              refine lv_istore (lv' := [(8, .int r_175), (0, .ref h0), (1, .int p1), (2, .int p2), (3, .int p3), (4, .int p4), (5, .int v5), (6, .int v6), (7, .int v7)]) hx hb dX12_countsWith_144 hl (by decide) rfl (fun ls hl => ?_)
              exact ih.2.2 v5 v6 v7 r_175 f_160 f_176 _ _ _ gf_p2 (gi_w g_163 (by decide)) (by omega) hP hD hS (lv_sub hl [1, 2, 3, 4, 5, 6, 7, 8, 0] rfl)
    · intro v5 v6 v7 v8 z3 z4 H locs ls gf_p2 gv7 hmu hP hD hS hl
      refine lv_iload_n hx hb dX12_countsWith_146 rfl (lv_at hl 3 rfl) ?_
      refine lv_iconst (v := (-1)) hx hb dX12_countsWith_147 (by decide) ?_
      refine lv_icmp_eq (tgt := 159) hx hb dX12_countsWith_148 (by decide) (fun c_177 => ?_) (fun c_177 => ?_)
      · have g_178 : gi p3 (-1) (-1) := gi_eq c_177 (gi_c (-1) (-1) (by decide))
        refine lv_aload_n hx hb dX12_countsWith_159 rfl (lv_at hl 0 rfl) ?_
        refine va_get (D := (dC, dI)) (ci := 12) (v := .ref (mr 16)) (C := RX12) (T := TX12) (N := 57) hx hb hts (fun w h => List.mem_cons_of_mem _ (jnGB_X12 w h)) hown hK hP 0 rfl rfl 36 (by decide) (hts _ (List.mem_cons_of_mem _ mGB_28)) (fun _ h9 => h9) rfl dX12_countsWith_160 ?_
        refine lv_iload_n hx hb dX12_countsWith_163 rfl (lv_at hl 1 rfl) ?_
        refine lv_iload hx hb dX12_countsWith_164 (lv_at hl 5 rfl) ?_
        refine va_iast hx hb hK hP hD hS 17 16 rfl rfl (gi_in gp1 (by decide)) dX12_countsWith_166 (fun H locs hP hD hS => ?_)
        have hP : va_P (dC, dI) vwCl (MWn h0 mr km (mi 0) (mi 1) (mi 2) (mi 3) (mi 4) (mi 5) (mi 6) (mi 7) (mi 10) (mi 17) (mi 23) (mi 24) (mi 26) (mi 27) (mi 28) (mi 29) (mi 30) (mi 31) (mi 32) (mi 33) (mi 37) (mi 41) (mi 42) (mi 43) (mi 44) (mi 45) (mi 47) (mi 48) (mi 49) (mi 50) (mi 51) (mi 54) (mi 56) fm_trust fm_letter fm_reportPlace fm_reportKind fm_struck fm_reportMonth fm_reportDay fm_reportKnown fm_deedMonth fm_deedDay fm_deedLong fm_deedKind fm_kept fm_tape fm_must fm_least (upd z3 (p1 : Int32).toNatClampNeg v5) z4 fm_verdict fm_row fm_official fm_aside fm_worth fm_out) H := hP
        have hD : va_D A (MWn h0 mr km (mi 0) (mi 1) (mi 2) (mi 3) (mi 4) (mi 5) (mi 6) (mi 7) (mi 10) (mi 17) (mi 23) (mi 24) (mi 26) (mi 27) (mi 28) (mi 29) (mi 30) (mi 31) (mi 32) (mi 33) (mi 37) (mi 41) (mi 42) (mi 43) (mi 44) (mi 45) (mi 47) (mi 48) (mi 49) (mi 50) (mi 51) (mi 54) (mi 56) fm_trust fm_letter fm_reportPlace fm_reportKind fm_struck fm_reportMonth fm_reportDay fm_reportKnown fm_deedMonth fm_deedDay fm_deedLong fm_deedKind fm_kept fm_tape fm_must fm_least (upd z3 (p1 : Int32).toNatClampNeg v5) z4 fm_verdict fm_row fm_official fm_aside fm_worth fm_out) := hD
        generalize upd z3 (p1 : Int32).toNatClampNeg v5 = f_179 at hP hD
        refine lv_iload hx hb dX12_countsWith_167 (lv_at hl 8 rfl) ?_
        exact kr169 v8 f_179 z4 _ _ _ hP hD hS (lv_sub hl [] rfl)
      · have g_180 : gi p3 0 24 := gi_ne_lo c_177 gp3 (gi_c (-1) (-1) (by decide)) (by decide)
        refine lv_aload_n hx hb dX12_countsWith_151 rfl (lv_at hl 0 rfl) ?_
        refine va_get (D := (dC, dI)) (ci := 12) (v := .ref (mr 16)) (C := RX12) (T := TX12) (N := 57) hx hb hts (fun w h => List.mem_cons_of_mem _ (jnGB_X12 w h)) hown hK hP 0 rfl rfl 36 (by decide) (hts _ (List.mem_cons_of_mem _ mGB_28)) (fun _ h9 => h9) rfl dX12_countsWith_152 ?_
        refine lv_iload_n hx hb dX12_countsWith_155 rfl (lv_at hl 3 rfl) ?_
        refine lv_iload hx hb dX12_countsWith_156 (lv_at hl 6 rfl) ?_
        refine va_iast hx hb hK hP hD hS 17 16 rfl rfl (gi_in g_180 (by decide)) dX12_countsWith_158 (fun H locs hP hD hS => ?_)
        have hP : va_P (dC, dI) vwCl (MWn h0 mr km (mi 0) (mi 1) (mi 2) (mi 3) (mi 4) (mi 5) (mi 6) (mi 7) (mi 10) (mi 17) (mi 23) (mi 24) (mi 26) (mi 27) (mi 28) (mi 29) (mi 30) (mi 31) (mi 32) (mi 33) (mi 37) (mi 41) (mi 42) (mi 43) (mi 44) (mi 45) (mi 47) (mi 48) (mi 49) (mi 50) (mi 51) (mi 54) (mi 56) fm_trust fm_letter fm_reportPlace fm_reportKind fm_struck fm_reportMonth fm_reportDay fm_reportKnown fm_deedMonth fm_deedDay fm_deedLong fm_deedKind fm_kept fm_tape fm_must fm_least (upd z3 (p3 : Int32).toNatClampNeg v6) z4 fm_verdict fm_row fm_official fm_aside fm_worth fm_out) H := hP
        have hD : va_D A (MWn h0 mr km (mi 0) (mi 1) (mi 2) (mi 3) (mi 4) (mi 5) (mi 6) (mi 7) (mi 10) (mi 17) (mi 23) (mi 24) (mi 26) (mi 27) (mi 28) (mi 29) (mi 30) (mi 31) (mi 32) (mi 33) (mi 37) (mi 41) (mi 42) (mi 43) (mi 44) (mi 45) (mi 47) (mi 48) (mi 49) (mi 50) (mi 51) (mi 54) (mi 56) fm_trust fm_letter fm_reportPlace fm_reportKind fm_struck fm_reportMonth fm_reportDay fm_reportKnown fm_deedMonth fm_deedDay fm_deedLong fm_deedKind fm_kept fm_tape fm_must fm_least (upd z3 (p3 : Int32).toNatClampNeg v6) z4 fm_verdict fm_row fm_official fm_aside fm_worth fm_out) := hD
        generalize upd z3 (p3 : Int32).toNatClampNeg v6 = f_181 at hP hD
        refine lv_aload_n hx hb dX12_countsWith_159 rfl (lv_at hl 0 rfl) ?_
        refine va_get (D := (dC, dI)) (ci := 12) (v := .ref (mr 16)) (C := RX12) (T := TX12) (N := 57) hx hb hts (fun w h => List.mem_cons_of_mem _ (jnGB_X12 w h)) hown hK hP 0 rfl rfl 36 (by decide) (hts _ (List.mem_cons_of_mem _ mGB_28)) (fun _ h9 => h9) rfl dX12_countsWith_160 ?_
        refine lv_iload_n hx hb dX12_countsWith_163 rfl (lv_at hl 1 rfl) ?_
        refine lv_iload hx hb dX12_countsWith_164 (lv_at hl 5 rfl) ?_
        refine va_iast hx hb hK hP hD hS 17 16 rfl rfl (gi_in gp1 (by decide)) dX12_countsWith_166 (fun H locs hP hD hS => ?_)
        have hP : va_P (dC, dI) vwCl (MWn h0 mr km (mi 0) (mi 1) (mi 2) (mi 3) (mi 4) (mi 5) (mi 6) (mi 7) (mi 10) (mi 17) (mi 23) (mi 24) (mi 26) (mi 27) (mi 28) (mi 29) (mi 30) (mi 31) (mi 32) (mi 33) (mi 37) (mi 41) (mi 42) (mi 43) (mi 44) (mi 45) (mi 47) (mi 48) (mi 49) (mi 50) (mi 51) (mi 54) (mi 56) fm_trust fm_letter fm_reportPlace fm_reportKind fm_struck fm_reportMonth fm_reportDay fm_reportKnown fm_deedMonth fm_deedDay fm_deedLong fm_deedKind fm_kept fm_tape fm_must fm_least (upd f_181 (p1 : Int32).toNatClampNeg v5) z4 fm_verdict fm_row fm_official fm_aside fm_worth fm_out) H := hP
        have hD : va_D A (MWn h0 mr km (mi 0) (mi 1) (mi 2) (mi 3) (mi 4) (mi 5) (mi 6) (mi 7) (mi 10) (mi 17) (mi 23) (mi 24) (mi 26) (mi 27) (mi 28) (mi 29) (mi 30) (mi 31) (mi 32) (mi 33) (mi 37) (mi 41) (mi 42) (mi 43) (mi 44) (mi 45) (mi 47) (mi 48) (mi 49) (mi 50) (mi 51) (mi 54) (mi 56) fm_trust fm_letter fm_reportPlace fm_reportKind fm_struck fm_reportMonth fm_reportDay fm_reportKnown fm_deedMonth fm_deedDay fm_deedLong fm_deedKind fm_kept fm_tape fm_must fm_least (upd f_181 (p1 : Int32).toNatClampNeg v5) z4 fm_verdict fm_row fm_official fm_aside fm_worth fm_out) := hD
        generalize upd f_181 (p1 : Int32).toNatClampNeg v5 = f_182 at hP hD
        refine lv_iload hx hb dX12_countsWith_167 (lv_at hl 8 rfl) ?_
        exact kr169 v8 f_182 z4 _ _ _ hP hD hS (lv_sub hl [] rfl)
abbrev pb_sX12_countsWith (dC : Nat → ClassId) (dI : Nat → Nat → Nat) (A9 : Nat → Prop) (h0 : Nat) (mi : Nat → Int32) (mr : Nat → Nat) (km : Nat → ClassId) (fm_must : Nat → Int32) (fm_least : Nat → Int32) (fm_pin : Nat → Int32) (fm_ways : Nat → Int32) (fm_trust : Nat → Int32) (fm_letter : Nat → Int32) (fm_reportPlace : Nat → Int32) (fm_reportKind : Nat → Int32) (fm_struck : Nat → Int32) (fm_reportMonth : Nat → Int32) (fm_reportDay : Nat → Int32) (fm_reportKnown : Nat → Int32) (fm_deedMonth : Nat → Int32) (fm_deedDay : Nat → Int32) (fm_deedLong : Nat → Int32) (fm_deedKind : Nat → Int32) (fm_kept : Nat → Int32) (fm_tape : Nat → Int32) (fm_verdict : Nat → Int32) (fm_row : Nat → Int32) (fm_official : Nat → Int32) (fm_aside : Nat → Int32) (fm_worth : Nat → Int32) (fm_out : Nat → Int32) (p1 : Int32) (p2 : Int32) (p3 : Int32) (p4 : Int32) (z3 : Nat → Int32) (z4 : Nat → Int32) (t : State) : Prop := va_P (dC, dI) vwCl (MWn h0 mr km (mi 0) (mi 1) (mi 2) (mi 3) (mi 4) (mi 5) (mi 6) (mi 7) (mi 10) (mi 17) (mi 23) (mi 24) (mi 26) (mi 27) (mi 28) (mi 29) (mi 30) (mi 31) (mi 32) (mi 33) (mi 37) (mi 41) (mi 42) (mi 43) (mi 44) (mi 45) (mi 47) (mi 48) (mi 49) (mi 50) (mi 51) (mi 54) (mi 56) fm_trust fm_letter fm_reportPlace fm_reportKind fm_struck fm_reportMonth fm_reportDay fm_reportKnown fm_deedMonth fm_deedDay fm_deedLong fm_deedKind fm_kept fm_tape fm_must fm_least z3 z4 fm_verdict fm_row fm_official fm_aside fm_worth fm_out) t.heap ∧ va_D A9 (MWn h0 mr km (mi 0) (mi 1) (mi 2) (mi 3) (mi 4) (mi 5) (mi 6) (mi 7) (mi 10) (mi 17) (mi 23) (mi 24) (mi 26) (mi 27) (mi 28) (mi 29) (mi 30) (mi 31) (mi 32) (mi 33) (mi 37) (mi 41) (mi 42) (mi 43) (mi 44) (mi 45) (mi 47) (mi 48) (mi 49) (mi 50) (mi 51) (mi 54) (mi 56) fm_trust fm_letter fm_reportPlace fm_reportKind fm_struck fm_reportMonth fm_reportDay fm_reportKnown fm_deedMonth fm_deedDay fm_deedLong fm_deedKind fm_kept fm_tape fm_must fm_least z3 z4 fm_verdict fm_row fm_official fm_aside fm_worth fm_out)
set_option maxHeartbeats 4000000 in
set_option maxRecDepth 100000 in
theorem sX12_countsWith (l : Launch) (dC : Nat → ClassId) (dI : Nat → Nat → Nat) (sz : Nat) (h0 : Nat) (mi : Nat → Int32) (mr : Nat → Nat) (km : Nat → ClassId) (fm_must : Nat → Int32) (fm_least : Nat → Int32) (fm_pin : Nat → Int32) (fm_ways : Nat → Int32) (fm_trust : Nat → Int32) (fm_letter : Nat → Int32) (fm_reportPlace : Nat → Int32) (fm_reportKind : Nat → Int32) (fm_struck : Nat → Int32) (fm_reportMonth : Nat → Int32) (fm_reportDay : Nat → Int32) (fm_reportKnown : Nat → Int32) (fm_deedMonth : Nat → Int32) (fm_deedDay : Nat → Int32) (fm_deedLong : Nat → Int32) (fm_deedKind : Nat → Int32) (fm_kept : Nat → Int32) (fm_tape : Nat → Int32) (fm_verdict : Nat → Int32) (fm_row : Nat → Int32) (fm_official : Nat → Int32) (fm_aside : Nat → Int32) (fm_worth : Nat → Int32) (fm_out : Nat → Int32) (p1 : Int32) (p2 : Int32) (p3 : Int32) (p4 : Int32) (gmi_0 : gi (mi 0) 0 24) (gmi_1 : gi (mi 1) 0 5) (gmi_2 : gi (mi 2) 0 5) (gmi_4 : gi (mi 4) 0 1) (gmi_7 : gi (mi 7) 0 6) (gmi_10 : gi (mi 10) 0 24) (gmi_17 : gi (mi 17) 0 8) (gmi_23 : gi (mi 23) 0 300) (gmi_24 : gi (mi 24) 0 1) (gmi_26 : gi (mi 26) 0 1600) (gmi_29 : gi (mi 29) 0 1600) (gmi_30 : gi (mi 30) 0 1600) (gmi_33 : gi (mi 33) 0 1) (gmi_37 : gi (mi 37) 0 1) (gmi_41 : gi (mi 41) 0 24) (gmi_50 : gi (mi 50) 0 1) (gmi_51 : gi (mi 51) 0 1) (gmi_56 : gi (mi 56) 0 80) (gp1 : gi p1 0 24) (gp3 : gi p3 (-1) 24) : Met l yX12_countsWith (.code yX12_countsWith cX12_countsWith 9 (some .int) :: wsGB) ({ frames := 3, cells := 0, slots := 0, locals := 73 }) (va_Pc [.ref h0, .int p1, .int p2, .int p3, .int p4] (fun U => U.heap.size = sz ∧ va_P (dC, dI) vwCl (MWn h0 mr km (mi 0) (mi 1) (mi 2) (mi 3) (mi 4) (mi 5) (mi 6) (mi 7) (mi 10) (mi 17) (mi 23) (mi 24) (mi 26) (mi 27) (mi 28) (mi 29) (mi 30) (mi 31) (mi 32) (mi 33) (mi 37) (mi 41) (mi 42) (mi 43) (mi 44) (mi 45) (mi 47) (mi 48) (mi 49) (mi 50) (mi 51) (mi 54) (mi 56) fm_trust fm_letter fm_reportPlace fm_reportKind fm_struck fm_reportMonth fm_reportDay fm_reportKnown fm_deedMonth fm_deedDay fm_deedLong fm_deedKind fm_kept fm_tape fm_must fm_least fm_pin fm_ways fm_verdict fm_row fm_official fm_aside fm_worth fm_out) U.heap ∧ va_K (dC, dI) vwCl (MT km) U ∧ va_D (fun _ => True) (MWn h0 mr km (mi 0) (mi 1) (mi 2) (mi 3) (mi 4) (mi 5) (mi 6) (mi 7) (mi 10) (mi 17) (mi 23) (mi 24) (mi 26) (mi 27) (mi 28) (mi 29) (mi 30) (mi 31) (mi 32) (mi 33) (mi 37) (mi 41) (mi 42) (mi 43) (mi 44) (mi 45) (mi 47) (mi 48) (mi 49) (mi 50) (mi 51) (mi 54) (mi 56) fm_trust fm_letter fm_reportPlace fm_reportKind fm_struck fm_reportMonth fm_reportDay fm_reportKnown fm_deedMonth fm_deedDay fm_deedLong fm_deedKind fm_kept fm_tape fm_must fm_least fm_pin fm_ways fm_verdict fm_row fm_official fm_aside fm_worth fm_out))) (va_Qi (fun (r : Int32) (u : Unit) => gi r (-2147483648) 2147483647) (fun _ t => ∃ (z3 : Nat → Int32) (z4 : Nat → Int32), pb_sX12_countsWith dC dI (va_A (MWn h0 mr km (mi 0) (mi 1) (mi 2) (mi 3) (mi 4) (mi 5) (mi 6) (mi 7) (mi 10) (mi 17) (mi 23) (mi 24) (mi 26) (mi 27) (mi 28) (mi 29) (mi 30) (mi 31) (mi 32) (mi 33) (mi 37) (mi 41) (mi 42) (mi 43) (mi 44) (mi 45) (mi 47) (mi 48) (mi 49) (mi 50) (mi 51) (mi 54) (mi 56) fm_trust fm_letter fm_reportPlace fm_reportKind fm_struck fm_reportMonth fm_reportDay fm_reportKnown fm_deedMonth fm_deedDay fm_deedLong fm_deedKind fm_kept fm_tape fm_must fm_least fm_pin fm_ways fm_verdict fm_row fm_official fm_aside fm_worth fm_out) sz) h0 mi mr km fm_must fm_least fm_pin fm_ways fm_trust fm_letter fm_reportPlace fm_reportKind fm_struck fm_reportMonth fm_reportDay fm_reportKnown fm_deedMonth fm_deedDay fm_deedLong fm_deedKind fm_kept fm_tape fm_verdict fm_row fm_official fm_aside fm_worth fm_out p1 p2 p3 p4 z3 z4 t) (va_A (MWn h0 mr km (mi 0) (mi 1) (mi 2) (mi 3) (mi 4) (mi 5) (mi 6) (mi 7) (mi 10) (mi 17) (mi 23) (mi 24) (mi 26) (mi 27) (mi 28) (mi 29) (mi 30) (mi 31) (mi 32) (mi 33) (mi 37) (mi 41) (mi 42) (mi 43) (mi 44) (mi 45) (mi 47) (mi 48) (mi 49) (mi 50) (mi 51) (mi 54) (mi 56) fm_trust fm_letter fm_reportPlace fm_reportKind fm_struck fm_reportMonth fm_reportDay fm_reportKnown fm_deedMonth fm_deedDay fm_deedLong fm_deedKind fm_kept fm_tape fm_must fm_least fm_pin fm_ways fm_verdict fm_row fm_official fm_aside fm_worth fm_out) sz)) 0 0 (va_A (MWn h0 mr km (mi 0) (mi 1) (mi 2) (mi 3) (mi 4) (mi 5) (mi 6) (mi 7) (mi 10) (mi 17) (mi 23) (mi 24) (mi 26) (mi 27) (mi 28) (mi 29) (mi 30) (mi 31) (mi 32) (mi 33) (mi 37) (mi 41) (mi 42) (mi 43) (mi 44) (mi 45) (mi 47) (mi 48) (mi 49) (mi 50) (mi 51) (mi 54) (mi 56) fm_trust fm_letter fm_reportPlace fm_reportKind fm_struck fm_reportMonth fm_reportDay fm_reportKnown fm_deedMonth fm_deedDay fm_deedLong fm_deedKind fm_kept fm_tape fm_must fm_least fm_pin fm_ways fm_verdict fm_row fm_official fm_aside fm_worth fm_out) sz) := by
  refine Met.ofW (cc := cX12_countsWith) (maxL := 9) (ret := (some .int)) (by decide) rfl ?_
  intro p e s m args below meth c s₁ B hml hv
  obtain ⟨rfl, hsz, hP, hK, hD0⟩ := hv
  have hx := B.exec
  have hb := B.bytes
  have hr := B.returns
  have hts := atoms_spec (ws := (.code yX12_countsWith cX12_countsWith 9 (some .int) :: wsGB)) B.pre
  have hown : s.vm.findClass RX12 = some m.cls := findClass_of_methodNamed B.named
  have hlocks := B.notSynchronized
  subst hsz
  have hD := hD0.self (sz := s.heap.size)
  generalize hAe : va_A (MWn h0 mr km (mi 0) (mi 1) (mi 2) (mi 3) (mi 4) (mi 5) (mi 6) (mi 7) (mi 10) (mi 17) (mi 23) (mi 24) (mi 26) (mi 27) (mi 28) (mi 29) (mi 30) (mi 31) (mi 32) (mi 33) (mi 37) (mi 41) (mi 42) (mi 43) (mi 44) (mi 45) (mi 47) (mi 48) (mi 49) (mi 50) (mi 51) (mi 54) (mi 56) fm_trust fm_letter fm_reportPlace fm_reportKind fm_struck fm_reportMonth fm_reportDay fm_reportKnown fm_deedMonth fm_deedDay fm_deedLong fm_deedKind fm_kept fm_tape fm_must fm_least fm_pin fm_ways fm_verdict fm_row fm_official fm_aside fm_worth fm_out) s.heap.size = A at hD ⊢
  have hA : ∀ q : Nat, s.heap.size ≤ q → A q := fun q h => by rw [← hAe]; exact Or.inr h
  have hS : va_S A s.heap s.heap [] := va_S.rf
  have hl := lv_entry ([.ref h0, .int p1, .int p2, .int p3, .int p4]) (n := 9) (Nat.le_of_ble_eq_true rfl)
  rw [lg_entry_eq]
  generalize (lg_sl ([.ref h0, .int p1, .int p2, .int p3, .int p4]) ++ List.replicate (9 - (lg_sl ([.ref h0, .int p1, .int p2, .int p3, .int p4])).length) Slot.unset).toArray = ls at hl ⊢
  have hl : lv_has ls 9 [(0, .ref h0), (1, .int p1), (2, .int p2), (3, .int p3), (4, .int p4)] := hl
  refine lv_iload_n hx hb dX12_countsWith_0 rfl (lv_at hl 2 rfl) ?_
  refine lv_i2l (v := (p2).toInt64) hx hb dX12_countsWith_1 rfl ?_
  refine lv_topl (fun l_183 el_183 => ?_)
  refine lv_bipush (v := 29) hx hb dX12_countsWith_2 (by decide) ?_
  refine lv_iload_n hx hb dX12_countsWith_4 rfl (lv_at hl 1 rfl) ?_
  refine lv_imul hx hb dX12_countsWith_5 ?_
  refine lv_topi (fun x_184 ex_184 => ?_)
  have gx_184 : gi x_184 0 696 := gi_mul ex_184 (gi_c 29 29 (by decide)) gp1 (by decide)
  refine lv_i2l (v := (x_184).toInt64) hx hb dX12_countsWith_6 rfl ?_
  refine lv_topl (fun l_185 el_185 => ?_)
  refine lv_bipush (v := 30) hx hb dX12_countsWith_7 (by decide) ?_
  refine lv_iload_n hx hb dX12_countsWith_9 rfl (lv_at hl 1 rfl) ?_
  refine lv_imul hx hb dX12_countsWith_10 ?_
  refine lv_topi (fun x_186 ex_186 => ?_)
  have gx_186 : gi x_186 0 720 := gi_mul ex_186 (gi_c 30 30 (by decide)) gp1 (by decide)
  refine lv_i2l (v := (x_186).toInt64) hx hb dX12_countsWith_11 rfl ?_
  refine lv_topl (fun l_187 el_187 => ?_)
  have hPc := hP.sub (ws' := []) [] rfl
  have hKc := hK.sub (tys' := []) [] rfl
  refine va_calli (va_runS (As := [.long l_183, .long l_185, .long l_187]) (rest := []) ⟨hx, hb, hml, hown, hts⟩ (sX12_in l dC dI l_183 l_185 l_187) (cwS 3 hts (gz_gS mGB_47 mGB_48 mGB_1 mGB_49 goodGB) rfl rfl rfl (by decide +kernel) ⟨Nat.le_of_ble_eq_true rfl, Nat.le_of_ble_eq_true rfl⟩) ⟨bl_R, fun U hU hW => ⟨rfl, by rw [hU]; exact hPc, va_K.moved hW.alike hKc⟩⟩ rfl rfl hl.1 rfl (lv_room (Nat.le_of_ble_eq_true rfl)) dX12_countsWith_12 ⟨Nat.zero_le _, Nat.zero_le _⟩) hS (fun q _ h => h.elim) (fun q h => h.elim) (fun r_188 u t H1 locs ht hvm hw hB hz1 hk1 hS => ?_)
  obtain ⟨hw, hE⟩ := hw
  have hP := gz_keep hP hk1
  generalize H1 = H at hP hS ⊢
  have gr_188 : gi r_188 0 1 := hw.1
  have hqr_188 := hw.2
  refine lv_if_eq (tgt := 38) hx hb dX12_countsWith_15 (by decide) (fun c_189 => ?_) (fun c_189 => ?_)
  · have g_190 : gi r_188 0 0 := gi_eq c_189 (gi_c 0 0 (by decide))
    refine lv_iconst (v := 0) hx hb dX12_countsWith_38 (by decide) ?_
    exact W.iret (v := 0) hx hb hr (fun t ht hW => ⟨⟨0, (), rfl, (gi_any 0), fm_pin, fm_ways, by rw [ht]; exact hP, hD⟩, hS.F ht⟩) hS.2.2 dX12_countsWith_39
  · have g_191 : gi r_188 1 1 := gi_ne_lo c_189 gr_188 (gi_c 0 0 (by decide)) (by decide)
    have g_192 : gi p2 0 720 := gi_cap (gi_any p2) (gz_inr (hqr_188.1 (gz_one g_191)) el_183 (A := 0) (B := 720) (gz_l2l el_185 gx_184) (gz_l2u el_187 gx_186)) (by decide)
    refine lv_aload_n hx hb dX12_countsWith_18 rfl (lv_at hl 0 rfl) ?_
    refine va_get (D := (dC, dI)) (ci := 12) (v := .ref (mr 16)) (C := RX12) (T := TX12) (N := 57) hx hb hts (fun w h => List.mem_cons_of_mem _ (jnGB_X12 w h)) hown hK hP 0 rfl rfl 36 (by decide) (hts _ (List.mem_cons_of_mem _ mGB_28)) (fun _ h9 => h9) rfl dX12_countsWith_19 ?_
    refine lv_iload_n hx hb dX12_countsWith_22 rfl (lv_at hl 1 rfl) ?_
    refine va_iald hx hb hK hP 17 16 rfl rfl (gi_in gp1 (by decide)) dX12_countsWith_23 ?_
    refine lv_topi (fun x_193 ex_193 => ?_)
    refine lv_iconst (v := (-1)) hx hb dX12_countsWith_24 (by decide) ?_
    refine lv_icmp_eq (tgt := 40) hx hb dX12_countsWith_25 (by decide) (fun c_194 => ?_) (fun c_194 => ?_)
    · have g_195 : gi x_193 (-1) (-1) := gi_eq c_194 (gi_c (-1) (-1) (by decide))
      refine lv_aload_n hx hb dX12_countsWith_40 rfl (lv_at hl 0 rfl) ?_
      refine va_get (D := (dC, dI)) (ci := 12) (v := .ref (mr 16)) (C := RX12) (T := TX12) (N := 57) hx hb hts (fun w h => List.mem_cons_of_mem _ (jnGB_X12 w h)) hown hK hP 0 rfl rfl 36 (by decide) (hts _ (List.mem_cons_of_mem _ mGB_28)) (fun _ h9 => h9) rfl dX12_countsWith_41 ?_
      refine lv_iload_n hx hb dX12_countsWith_44 rfl (lv_at hl 1 rfl) ?_
      refine va_iald hx hb hK hP 17 16 rfl rfl (gi_in gp1 (by decide)) dX12_countsWith_45 ?_
      refine lv_topi (fun x_196 ex_196 => ?_)
      refine lv_istore (lv' := [(5, .int x_196), (0, .ref h0), (1, .int p1), (2, .int p2), (3, .int p3), (4, .int p4)]) hx hb dX12_countsWith_46 hl (by decide) rfl (fun ls hl => ?_)
      refine lv_aload_n hx hb dX12_countsWith_48 rfl (lv_at hl 1 rfl) ?_
      refine va_get (D := (dC, dI)) (ci := 12) (v := .ref (mr 16)) (C := RX12) (T := TX12) (N := 57) hx hb hts (fun w h => List.mem_cons_of_mem _ (jnGB_X12 w h)) hown hK hP 0 rfl rfl 36 (by decide) (hts _ (List.mem_cons_of_mem _ mGB_28)) (fun _ h9 => h9) rfl dX12_countsWith_49 ?_
      refine lv_iload_n hx hb dX12_countsWith_52 rfl (lv_at hl 2 rfl) ?_
      refine lv_iload_n hx hb dX12_countsWith_53 rfl (lv_at hl 3 rfl) ?_
      refine va_iast hx hb hK hP hD hS 17 16 rfl rfl (gi_in gp1 (by decide)) dX12_countsWith_54 (fun H locs hP hD hS => ?_)
      have hP : va_P (dC, dI) vwCl (MWn h0 mr km (mi 0) (mi 1) (mi 2) (mi 3) (mi 4) (mi 5) (mi 6) (mi 7) (mi 10) (mi 17) (mi 23) (mi 24) (mi 26) (mi 27) (mi 28) (mi 29) (mi 30) (mi 31) (mi 32) (mi 33) (mi 37) (mi 41) (mi 42) (mi 43) (mi 44) (mi 45) (mi 47) (mi 48) (mi 49) (mi 50) (mi 51) (mi 54) (mi 56) fm_trust fm_letter fm_reportPlace fm_reportKind fm_struck fm_reportMonth fm_reportDay fm_reportKnown fm_deedMonth fm_deedDay fm_deedLong fm_deedKind fm_kept fm_tape fm_must fm_least (upd fm_pin (p1 : Int32).toNatClampNeg p2) fm_ways fm_verdict fm_row fm_official fm_aside fm_worth fm_out) H := hP
      have hD : va_D A (MWn h0 mr km (mi 0) (mi 1) (mi 2) (mi 3) (mi 4) (mi 5) (mi 6) (mi 7) (mi 10) (mi 17) (mi 23) (mi 24) (mi 26) (mi 27) (mi 28) (mi 29) (mi 30) (mi 31) (mi 32) (mi 33) (mi 37) (mi 41) (mi 42) (mi 43) (mi 44) (mi 45) (mi 47) (mi 48) (mi 49) (mi 50) (mi 51) (mi 54) (mi 56) fm_trust fm_letter fm_reportPlace fm_reportKind fm_struck fm_reportMonth fm_reportDay fm_reportKnown fm_deedMonth fm_deedDay fm_deedLong fm_deedKind fm_kept fm_tape fm_must fm_least (upd fm_pin (p1 : Int32).toNatClampNeg p2) fm_ways fm_verdict fm_row fm_official fm_aside fm_worth fm_out) := hD
      generalize upd fm_pin (p1 : Int32).toNatClampNeg p2 = f_197 at hP hD
      refine lv_iload_n hx hb dX12_countsWith_55 rfl (lv_at hl 4 rfl) ?_
      refine lv_iconst (v := (-1)) hx hb dX12_countsWith_56 (by decide) ?_
      refine lv_icmp_ne (tgt := 64) hx hb dX12_countsWith_57 (by decide) (fun c_198 => ?_) (fun c_198 => ?_)
      · have g_199 : gi p3 0 24 := gi_ne_lo c_198 gp3 (gi_c (-1) (-1) (by decide)) (by decide)
        refine lv_aload_n hx hb dX12_countsWith_64 rfl (lv_at hl 1 rfl) ?_
        refine va_get (D := (dC, dI)) (ci := 12) (v := .ref (mr 16)) (C := RX12) (T := TX12) (N := 57) hx hb hts (fun w h => List.mem_cons_of_mem _ (jnGB_X12 w h)) hown hK hP 0 rfl rfl 36 (by decide) (hts _ (List.mem_cons_of_mem _ mGB_28)) (fun _ h9 => h9) rfl dX12_countsWith_65 ?_
        refine lv_iload_n hx hb dX12_countsWith_68 rfl (lv_at hl 4 rfl) ?_
        refine va_iald hx hb hK hP 17 16 rfl rfl (gi_in g_199 (by decide)) dX12_countsWith_69 ?_
        refine lv_topi (fun x_200 ex_200 => ?_)
        refine lv_istore (lv' := [(6, .int x_200), (5, .int x_196), (0, .ref h0), (1, .int p1), (2, .int p2), (3, .int p3), (4, .int p4)]) hx hb dX12_countsWith_70 hl (by decide) rfl (fun ls hl => ?_)
        refine (lp_sX12_countsWith h0 mi mr km fm_must fm_least fm_pin fm_ways fm_trust fm_letter fm_reportPlace fm_reportKind fm_struck fm_reportMonth fm_reportDay fm_reportKnown fm_deedMonth fm_deedDay fm_deedLong fm_deedKind fm_kept fm_tape fm_verdict fm_row fm_official fm_aside fm_worth fm_out p1 p2 p3 p4 gmi_0 gmi_1 gmi_2 gmi_4 gmi_7 gmi_10 gmi_17 gmi_23 gmi_24 gmi_26 gmi_29 gmi_30 gmi_33 gmi_37 gmi_41 gmi_50 gmi_51 gmi_56 gp1 gp3 hx hb hml hown hts hK hA (Nat.le_of_ble_eq_true rfl) (Nat.le_of_ble_eq_true rfl) (Nat.zero_le _) (Nat.zero_le _) (fun v z3 z4 H locs ls gv hP hD hS hl => ?_) (fun v z3 z4 H locs ls hP hD hS hl => ?_) 5).1 x_196 x_200 f_197 _ _ _ g_192 (by omega) hP hD hS (lv_sub hl [2, 3, 4, 5, 6, 1, 0] rfl)
        · skip
          exact W.iret (v := v) hx hb hr (fun t ht hW => ⟨⟨v, (), rfl, (gi_any v), z3, z4, by rw [ht]; exact hP, hD⟩, hS.F ht⟩) hS.2.2 dX12_countsWith_39
        · skip
          exact W.iret (v := v) hx hb hr (fun t ht hW => ⟨⟨v, (), rfl, (gi_any v), z3, z4, by rw [ht]; exact hP, hD⟩, hS.F ht⟩) hS.2.2 dX12_countsWith_169
      · have g_201 : gi p3 (-1) (-1) := gi_eq c_198 (gi_c (-1) (-1) (by decide))
        refine lv_iconst (v := (-1)) hx hb dX12_countsWith_60 (by decide) ?_
        refine lv_goto (tgt := 70) hx hb dX12_countsWith_61 (by decide) ?_
        refine lv_istore (lv' := [(6, .int (-1)), (5, .int x_196), (0, .ref h0), (1, .int p1), (2, .int p2), (3, .int p3), (4, .int p4)]) hx hb dX12_countsWith_70 hl (by decide) rfl (fun ls hl => ?_)
        refine (lp_sX12_countsWith h0 mi mr km fm_must fm_least fm_pin fm_ways fm_trust fm_letter fm_reportPlace fm_reportKind fm_struck fm_reportMonth fm_reportDay fm_reportKnown fm_deedMonth fm_deedDay fm_deedLong fm_deedKind fm_kept fm_tape fm_verdict fm_row fm_official fm_aside fm_worth fm_out p1 p2 p3 p4 gmi_0 gmi_1 gmi_2 gmi_4 gmi_7 gmi_10 gmi_17 gmi_23 gmi_24 gmi_26 gmi_29 gmi_30 gmi_33 gmi_37 gmi_41 gmi_50 gmi_51 gmi_56 gp1 gp3 hx hb hml hown hts hK hA (Nat.le_of_ble_eq_true rfl) (Nat.le_of_ble_eq_true rfl) (Nat.zero_le _) (Nat.zero_le _) (fun v z3 z4 H locs ls gv hP hD hS hl => ?_) (fun v z3 z4 H locs ls hP hD hS hl => ?_) 5).1 x_196 (-1) f_197 _ _ _ g_192 (by omega) hP hD hS (lv_sub hl [2, 3, 4, 5, 6, 1, 0] rfl)
        · skip
          exact W.iret (v := v) hx hb hr (fun t ht hW => ⟨⟨v, (), rfl, (gi_any v), z3, z4, by rw [ht]; exact hP, hD⟩, hS.F ht⟩) hS.2.2 dX12_countsWith_39
        · skip
          exact W.iret (v := v) hx hb hr (fun t ht hW => ⟨⟨v, (), rfl, (gi_any v), z3, z4, by rw [ht]; exact hP, hD⟩, hS.F ht⟩) hS.2.2 dX12_countsWith_169
    · refine lv_aload_n hx hb dX12_countsWith_28 rfl (lv_at hl 0 rfl) ?_
      refine va_get (D := (dC, dI)) (ci := 12) (v := .ref (mr 16)) (C := RX12) (T := TX12) (N := 57) hx hb hts (fun w h => List.mem_cons_of_mem _ (jnGB_X12 w h)) hown hK hP 0 rfl rfl 36 (by decide) (hts _ (List.mem_cons_of_mem _ mGB_28)) (fun _ h9 => h9) rfl dX12_countsWith_29 ?_
      refine lv_iload_n hx hb dX12_countsWith_32 rfl (lv_at hl 1 rfl) ?_
      refine va_iald hx hb hK hP 17 16 rfl rfl (gi_in gp1 (by decide)) dX12_countsWith_33 ?_
      refine lv_topi (fun x_202 ex_202 => ?_)
      refine lv_iload_n hx hb dX12_countsWith_34 rfl (lv_at hl 2 rfl) ?_
      refine lv_icmp_eq (tgt := 40) hx hb dX12_countsWith_35 (by decide) (fun c_203 => ?_) (fun c_203 => ?_)
      · have g_204 : gi x_202 0 720 := gi_eq c_203 g_192
        refine lv_aload_n hx hb dX12_countsWith_40 rfl (lv_at hl 0 rfl) ?_
        refine va_get (D := (dC, dI)) (ci := 12) (v := .ref (mr 16)) (C := RX12) (T := TX12) (N := 57) hx hb hts (fun w h => List.mem_cons_of_mem _ (jnGB_X12 w h)) hown hK hP 0 rfl rfl 36 (by decide) (hts _ (List.mem_cons_of_mem _ mGB_28)) (fun _ h9 => h9) rfl dX12_countsWith_41 ?_
        refine lv_iload_n hx hb dX12_countsWith_44 rfl (lv_at hl 1 rfl) ?_
        refine va_iald hx hb hK hP 17 16 rfl rfl (gi_in gp1 (by decide)) dX12_countsWith_45 ?_
        refine lv_topi (fun x_205 ex_205 => ?_)
        refine lv_istore (lv' := [(5, .int x_205), (0, .ref h0), (1, .int p1), (2, .int p2), (3, .int p3), (4, .int p4)]) hx hb dX12_countsWith_46 hl (by decide) rfl (fun ls hl => ?_)
        refine lv_aload_n hx hb dX12_countsWith_48 rfl (lv_at hl 1 rfl) ?_
        refine va_get (D := (dC, dI)) (ci := 12) (v := .ref (mr 16)) (C := RX12) (T := TX12) (N := 57) hx hb hts (fun w h => List.mem_cons_of_mem _ (jnGB_X12 w h)) hown hK hP 0 rfl rfl 36 (by decide) (hts _ (List.mem_cons_of_mem _ mGB_28)) (fun _ h9 => h9) rfl dX12_countsWith_49 ?_
        refine lv_iload_n hx hb dX12_countsWith_52 rfl (lv_at hl 2 rfl) ?_
        refine lv_iload_n hx hb dX12_countsWith_53 rfl (lv_at hl 3 rfl) ?_
        refine va_iast hx hb hK hP hD hS 17 16 rfl rfl (gi_in gp1 (by decide)) dX12_countsWith_54 (fun H locs hP hD hS => ?_)
        have hP : va_P (dC, dI) vwCl (MWn h0 mr km (mi 0) (mi 1) (mi 2) (mi 3) (mi 4) (mi 5) (mi 6) (mi 7) (mi 10) (mi 17) (mi 23) (mi 24) (mi 26) (mi 27) (mi 28) (mi 29) (mi 30) (mi 31) (mi 32) (mi 33) (mi 37) (mi 41) (mi 42) (mi 43) (mi 44) (mi 45) (mi 47) (mi 48) (mi 49) (mi 50) (mi 51) (mi 54) (mi 56) fm_trust fm_letter fm_reportPlace fm_reportKind fm_struck fm_reportMonth fm_reportDay fm_reportKnown fm_deedMonth fm_deedDay fm_deedLong fm_deedKind fm_kept fm_tape fm_must fm_least (upd fm_pin (p1 : Int32).toNatClampNeg p2) fm_ways fm_verdict fm_row fm_official fm_aside fm_worth fm_out) H := hP
        have hD : va_D A (MWn h0 mr km (mi 0) (mi 1) (mi 2) (mi 3) (mi 4) (mi 5) (mi 6) (mi 7) (mi 10) (mi 17) (mi 23) (mi 24) (mi 26) (mi 27) (mi 28) (mi 29) (mi 30) (mi 31) (mi 32) (mi 33) (mi 37) (mi 41) (mi 42) (mi 43) (mi 44) (mi 45) (mi 47) (mi 48) (mi 49) (mi 50) (mi 51) (mi 54) (mi 56) fm_trust fm_letter fm_reportPlace fm_reportKind fm_struck fm_reportMonth fm_reportDay fm_reportKnown fm_deedMonth fm_deedDay fm_deedLong fm_deedKind fm_kept fm_tape fm_must fm_least (upd fm_pin (p1 : Int32).toNatClampNeg p2) fm_ways fm_verdict fm_row fm_official fm_aside fm_worth fm_out) := hD
        generalize upd fm_pin (p1 : Int32).toNatClampNeg p2 = f_206 at hP hD
        refine lv_iload_n hx hb dX12_countsWith_55 rfl (lv_at hl 4 rfl) ?_
        refine lv_iconst (v := (-1)) hx hb dX12_countsWith_56 (by decide) ?_
        refine lv_icmp_ne (tgt := 64) hx hb dX12_countsWith_57 (by decide) (fun c_207 => ?_) (fun c_207 => ?_)
        · have g_208 : gi p3 0 24 := gi_ne_lo c_207 gp3 (gi_c (-1) (-1) (by decide)) (by decide)
          refine lv_aload_n hx hb dX12_countsWith_64 rfl (lv_at hl 1 rfl) ?_
          refine va_get (D := (dC, dI)) (ci := 12) (v := .ref (mr 16)) (C := RX12) (T := TX12) (N := 57) hx hb hts (fun w h => List.mem_cons_of_mem _ (jnGB_X12 w h)) hown hK hP 0 rfl rfl 36 (by decide) (hts _ (List.mem_cons_of_mem _ mGB_28)) (fun _ h9 => h9) rfl dX12_countsWith_65 ?_
          refine lv_iload_n hx hb dX12_countsWith_68 rfl (lv_at hl 4 rfl) ?_
          refine va_iald hx hb hK hP 17 16 rfl rfl (gi_in g_208 (by decide)) dX12_countsWith_69 ?_
          refine lv_topi (fun x_209 ex_209 => ?_)
          refine lv_istore (lv' := [(6, .int x_209), (5, .int x_205), (0, .ref h0), (1, .int p1), (2, .int p2), (3, .int p3), (4, .int p4)]) hx hb dX12_countsWith_70 hl (by decide) rfl (fun ls hl => ?_)
          refine (lp_sX12_countsWith h0 mi mr km fm_must fm_least fm_pin fm_ways fm_trust fm_letter fm_reportPlace fm_reportKind fm_struck fm_reportMonth fm_reportDay fm_reportKnown fm_deedMonth fm_deedDay fm_deedLong fm_deedKind fm_kept fm_tape fm_verdict fm_row fm_official fm_aside fm_worth fm_out p1 p2 p3 p4 gmi_0 gmi_1 gmi_2 gmi_4 gmi_7 gmi_10 gmi_17 gmi_23 gmi_24 gmi_26 gmi_29 gmi_30 gmi_33 gmi_37 gmi_41 gmi_50 gmi_51 gmi_56 gp1 gp3 hx hb hml hown hts hK hA (Nat.le_of_ble_eq_true rfl) (Nat.le_of_ble_eq_true rfl) (Nat.zero_le _) (Nat.zero_le _) (fun v z3 z4 H locs ls gv hP hD hS hl => ?_) (fun v z3 z4 H locs ls hP hD hS hl => ?_) 5).1 x_205 x_209 f_206 _ _ _ g_192 (by omega) hP hD hS (lv_sub hl [2, 3, 4, 5, 6, 1, 0] rfl)
          · skip
            exact W.iret (v := v) hx hb hr (fun t ht hW => ⟨⟨v, (), rfl, (gi_any v), z3, z4, by rw [ht]; exact hP, hD⟩, hS.F ht⟩) hS.2.2 dX12_countsWith_39
          · skip
            exact W.iret (v := v) hx hb hr (fun t ht hW => ⟨⟨v, (), rfl, (gi_any v), z3, z4, by rw [ht]; exact hP, hD⟩, hS.F ht⟩) hS.2.2 dX12_countsWith_169
        · have g_210 : gi p3 (-1) (-1) := gi_eq c_207 (gi_c (-1) (-1) (by decide))
          refine lv_iconst (v := (-1)) hx hb dX12_countsWith_60 (by decide) ?_
          refine lv_goto (tgt := 70) hx hb dX12_countsWith_61 (by decide) ?_
          refine lv_istore (lv' := [(6, .int (-1)), (5, .int x_205), (0, .ref h0), (1, .int p1), (2, .int p2), (3, .int p3), (4, .int p4)]) hx hb dX12_countsWith_70 hl (by decide) rfl (fun ls hl => ?_)
          refine (lp_sX12_countsWith h0 mi mr km fm_must fm_least fm_pin fm_ways fm_trust fm_letter fm_reportPlace fm_reportKind fm_struck fm_reportMonth fm_reportDay fm_reportKnown fm_deedMonth fm_deedDay fm_deedLong fm_deedKind fm_kept fm_tape fm_verdict fm_row fm_official fm_aside fm_worth fm_out p1 p2 p3 p4 gmi_0 gmi_1 gmi_2 gmi_4 gmi_7 gmi_10 gmi_17 gmi_23 gmi_24 gmi_26 gmi_29 gmi_30 gmi_33 gmi_37 gmi_41 gmi_50 gmi_51 gmi_56 gp1 gp3 hx hb hml hown hts hK hA (Nat.le_of_ble_eq_true rfl) (Nat.le_of_ble_eq_true rfl) (Nat.zero_le _) (Nat.zero_le _) (fun v z3 z4 H locs ls gv hP hD hS hl => ?_) (fun v z3 z4 H locs ls hP hD hS hl => ?_) 5).1 x_205 (-1) f_206 _ _ _ g_192 (by omega) hP hD hS (lv_sub hl [2, 3, 4, 5, 6, 1, 0] rfl)
          · skip
            exact W.iret (v := v) hx hb hr (fun t ht hW => ⟨⟨v, (), rfl, (gi_any v), z3, z4, by rw [ht]; exact hP, hD⟩, hS.F ht⟩) hS.2.2 dX12_countsWith_39
          · skip
            exact W.iret (v := v) hx hb hr (fun t ht hW => ⟨⟨v, (), rfl, (gi_any v), z3, z4, by rw [ht]; exact hP, hD⟩, hS.F ht⟩) hS.2.2 dX12_countsWith_169
      · refine lv_iconst (v := 0) hx hb dX12_countsWith_38 (by decide) ?_
        exact W.iret (v := 0) hx hb hr (fun t ht hW => ⟨⟨0, (), rfl, (gi_any 0), fm_pin, fm_ways, by rw [ht]; exact hP, hD⟩, hS.F ht⟩) hS.2.2 dX12_countsWith_39
theorem dX12_beginsOn_0 : decode cX12_beginsOn 0 = .ok (.aload_n 0, 1) := by decide +kernel
theorem dX12_beginsOn_1 : decode cX12_beginsOn 1 = .ok (.iload_n 1, 1) := by decide +kernel
theorem dX12_beginsOn_2 : decode cX12_beginsOn 2 = .ok (.iload_n 2, 1) := by decide +kernel
theorem dX12_beginsOn_3 : decode cX12_beginsOn 3 = .ok (.iconst (-1), 1) := by decide +kernel
theorem dX12_beginsOn_4 : decode cX12_beginsOn 4 = .ok (.iconst 0, 1) := by decide +kernel
theorem dX12_beginsOn_5 : decode cX12_beginsOn 5 = .ok (.invokevirtual 385, 3) := by decide +kernel
theorem dX12_beginsOn_8 : decode cX12_beginsOn 8 = .ok (.ireturn, 1) := by decide +kernel
abbrev pb_sX12_beginsOn (dC : Nat → ClassId) (dI : Nat → Nat → Nat) (A9 : Nat → Prop) (h0 : Nat) (mi : Nat → Int32) (mr : Nat → Nat) (km : Nat → ClassId) (fm_must : Nat → Int32) (fm_least : Nat → Int32) (fm_pin : Nat → Int32) (fm_ways : Nat → Int32) (fm_trust : Nat → Int32) (fm_letter : Nat → Int32) (fm_reportPlace : Nat → Int32) (fm_reportKind : Nat → Int32) (fm_struck : Nat → Int32) (fm_reportMonth : Nat → Int32) (fm_reportDay : Nat → Int32) (fm_reportKnown : Nat → Int32) (fm_deedMonth : Nat → Int32) (fm_deedDay : Nat → Int32) (fm_deedLong : Nat → Int32) (fm_deedKind : Nat → Int32) (fm_kept : Nat → Int32) (fm_tape : Nat → Int32) (fm_verdict : Nat → Int32) (fm_row : Nat → Int32) (fm_official : Nat → Int32) (fm_aside : Nat → Int32) (fm_worth : Nat → Int32) (fm_out : Nat → Int32) (p1 : Int32) (p2 : Int32) (z3 : Nat → Int32) (z4 : Nat → Int32) (t : State) : Prop := va_P (dC, dI) vwCl (MWn h0 mr km (mi 0) (mi 1) (mi 2) (mi 3) (mi 4) (mi 5) (mi 6) (mi 7) (mi 10) (mi 17) (mi 23) (mi 24) (mi 26) (mi 27) (mi 28) (mi 29) (mi 30) (mi 31) (mi 32) (mi 33) (mi 37) (mi 41) (mi 42) (mi 43) (mi 44) (mi 45) (mi 47) (mi 48) (mi 49) (mi 50) (mi 51) (mi 54) (mi 56) fm_trust fm_letter fm_reportPlace fm_reportKind fm_struck fm_reportMonth fm_reportDay fm_reportKnown fm_deedMonth fm_deedDay fm_deedLong fm_deedKind fm_kept fm_tape fm_must fm_least z3 z4 fm_verdict fm_row fm_official fm_aside fm_worth fm_out) t.heap ∧ va_D A9 (MWn h0 mr km (mi 0) (mi 1) (mi 2) (mi 3) (mi 4) (mi 5) (mi 6) (mi 7) (mi 10) (mi 17) (mi 23) (mi 24) (mi 26) (mi 27) (mi 28) (mi 29) (mi 30) (mi 31) (mi 32) (mi 33) (mi 37) (mi 41) (mi 42) (mi 43) (mi 44) (mi 45) (mi 47) (mi 48) (mi 49) (mi 50) (mi 51) (mi 54) (mi 56) fm_trust fm_letter fm_reportPlace fm_reportKind fm_struck fm_reportMonth fm_reportDay fm_reportKnown fm_deedMonth fm_deedDay fm_deedLong fm_deedKind fm_kept fm_tape fm_must fm_least z3 z4 fm_verdict fm_row fm_official fm_aside fm_worth fm_out)
set_option maxHeartbeats 4000000 in
set_option maxRecDepth 100000 in
theorem sX12_beginsOn (l : Launch) (dC : Nat → ClassId) (dI : Nat → Nat → Nat) (sz : Nat) (h0 : Nat) (mi : Nat → Int32) (mr : Nat → Nat) (km : Nat → ClassId) (fm_must : Nat → Int32) (fm_least : Nat → Int32) (fm_pin : Nat → Int32) (fm_ways : Nat → Int32) (fm_trust : Nat → Int32) (fm_letter : Nat → Int32) (fm_reportPlace : Nat → Int32) (fm_reportKind : Nat → Int32) (fm_struck : Nat → Int32) (fm_reportMonth : Nat → Int32) (fm_reportDay : Nat → Int32) (fm_reportKnown : Nat → Int32) (fm_deedMonth : Nat → Int32) (fm_deedDay : Nat → Int32) (fm_deedLong : Nat → Int32) (fm_deedKind : Nat → Int32) (fm_kept : Nat → Int32) (fm_tape : Nat → Int32) (fm_verdict : Nat → Int32) (fm_row : Nat → Int32) (fm_official : Nat → Int32) (fm_aside : Nat → Int32) (fm_worth : Nat → Int32) (fm_out : Nat → Int32) (p1 : Int32) (p2 : Int32) (gmi_0 : gi (mi 0) 0 24) (gmi_1 : gi (mi 1) 0 5) (gmi_2 : gi (mi 2) 0 5) (gmi_4 : gi (mi 4) 0 1) (gmi_7 : gi (mi 7) 0 6) (gmi_10 : gi (mi 10) 0 24) (gmi_17 : gi (mi 17) 0 8) (gmi_23 : gi (mi 23) 0 300) (gmi_24 : gi (mi 24) 0 1) (gmi_26 : gi (mi 26) 0 1600) (gmi_29 : gi (mi 29) 0 1600) (gmi_30 : gi (mi 30) 0 1600) (gmi_33 : gi (mi 33) 0 1) (gmi_37 : gi (mi 37) 0 1) (gmi_41 : gi (mi 41) 0 24) (gmi_50 : gi (mi 50) 0 1) (gmi_51 : gi (mi 51) 0 1) (gmi_56 : gi (mi 56) 0 80) (gp1 : gi p1 0 24) : Met l yX12_beginsOn (.code yX12_beginsOn cX12_beginsOn 3 (some .int) :: wsGB) ({ frames := 4, cells := 0, slots := 0, locals := 101 }) (va_Pc [.ref h0, .int p1, .int p2] (fun U => U.heap.size = sz ∧ va_P (dC, dI) vwCl (MWn h0 mr km (mi 0) (mi 1) (mi 2) (mi 3) (mi 4) (mi 5) (mi 6) (mi 7) (mi 10) (mi 17) (mi 23) (mi 24) (mi 26) (mi 27) (mi 28) (mi 29) (mi 30) (mi 31) (mi 32) (mi 33) (mi 37) (mi 41) (mi 42) (mi 43) (mi 44) (mi 45) (mi 47) (mi 48) (mi 49) (mi 50) (mi 51) (mi 54) (mi 56) fm_trust fm_letter fm_reportPlace fm_reportKind fm_struck fm_reportMonth fm_reportDay fm_reportKnown fm_deedMonth fm_deedDay fm_deedLong fm_deedKind fm_kept fm_tape fm_must fm_least fm_pin fm_ways fm_verdict fm_row fm_official fm_aside fm_worth fm_out) U.heap ∧ va_K (dC, dI) vwCl (MT km) U ∧ va_D (fun _ => True) (MWn h0 mr km (mi 0) (mi 1) (mi 2) (mi 3) (mi 4) (mi 5) (mi 6) (mi 7) (mi 10) (mi 17) (mi 23) (mi 24) (mi 26) (mi 27) (mi 28) (mi 29) (mi 30) (mi 31) (mi 32) (mi 33) (mi 37) (mi 41) (mi 42) (mi 43) (mi 44) (mi 45) (mi 47) (mi 48) (mi 49) (mi 50) (mi 51) (mi 54) (mi 56) fm_trust fm_letter fm_reportPlace fm_reportKind fm_struck fm_reportMonth fm_reportDay fm_reportKnown fm_deedMonth fm_deedDay fm_deedLong fm_deedKind fm_kept fm_tape fm_must fm_least fm_pin fm_ways fm_verdict fm_row fm_official fm_aside fm_worth fm_out))) (va_Qi (fun (r : Int32) (u : Unit) => gi r (-2147483648) 2147483647) (fun _ t => ∃ (z3 : Nat → Int32) (z4 : Nat → Int32), pb_sX12_beginsOn dC dI (va_A (MWn h0 mr km (mi 0) (mi 1) (mi 2) (mi 3) (mi 4) (mi 5) (mi 6) (mi 7) (mi 10) (mi 17) (mi 23) (mi 24) (mi 26) (mi 27) (mi 28) (mi 29) (mi 30) (mi 31) (mi 32) (mi 33) (mi 37) (mi 41) (mi 42) (mi 43) (mi 44) (mi 45) (mi 47) (mi 48) (mi 49) (mi 50) (mi 51) (mi 54) (mi 56) fm_trust fm_letter fm_reportPlace fm_reportKind fm_struck fm_reportMonth fm_reportDay fm_reportKnown fm_deedMonth fm_deedDay fm_deedLong fm_deedKind fm_kept fm_tape fm_must fm_least fm_pin fm_ways fm_verdict fm_row fm_official fm_aside fm_worth fm_out) sz) h0 mi mr km fm_must fm_least fm_pin fm_ways fm_trust fm_letter fm_reportPlace fm_reportKind fm_struck fm_reportMonth fm_reportDay fm_reportKnown fm_deedMonth fm_deedDay fm_deedLong fm_deedKind fm_kept fm_tape fm_verdict fm_row fm_official fm_aside fm_worth fm_out p1 p2 z3 z4 t) (va_A (MWn h0 mr km (mi 0) (mi 1) (mi 2) (mi 3) (mi 4) (mi 5) (mi 6) (mi 7) (mi 10) (mi 17) (mi 23) (mi 24) (mi 26) (mi 27) (mi 28) (mi 29) (mi 30) (mi 31) (mi 32) (mi 33) (mi 37) (mi 41) (mi 42) (mi 43) (mi 44) (mi 45) (mi 47) (mi 48) (mi 49) (mi 50) (mi 51) (mi 54) (mi 56) fm_trust fm_letter fm_reportPlace fm_reportKind fm_struck fm_reportMonth fm_reportDay fm_reportKnown fm_deedMonth fm_deedDay fm_deedLong fm_deedKind fm_kept fm_tape fm_must fm_least fm_pin fm_ways fm_verdict fm_row fm_official fm_aside fm_worth fm_out) sz)) 0 0 (va_A (MWn h0 mr km (mi 0) (mi 1) (mi 2) (mi 3) (mi 4) (mi 5) (mi 6) (mi 7) (mi 10) (mi 17) (mi 23) (mi 24) (mi 26) (mi 27) (mi 28) (mi 29) (mi 30) (mi 31) (mi 32) (mi 33) (mi 37) (mi 41) (mi 42) (mi 43) (mi 44) (mi 45) (mi 47) (mi 48) (mi 49) (mi 50) (mi 51) (mi 54) (mi 56) fm_trust fm_letter fm_reportPlace fm_reportKind fm_struck fm_reportMonth fm_reportDay fm_reportKnown fm_deedMonth fm_deedDay fm_deedLong fm_deedKind fm_kept fm_tape fm_must fm_least fm_pin fm_ways fm_verdict fm_row fm_official fm_aside fm_worth fm_out) sz) := by
  refine Met.ofW (cc := cX12_beginsOn) (maxL := 3) (ret := (some .int)) (by decide) rfl ?_
  intro p e s m args below meth c s₁ B hml hv
  obtain ⟨rfl, hsz, hP, hK, hD0⟩ := hv
  have hx := B.exec
  have hb := B.bytes
  have hr := B.returns
  have hts := atoms_spec (ws := (.code yX12_beginsOn cX12_beginsOn 3 (some .int) :: wsGB)) B.pre
  have hown : s.vm.findClass RX12 = some m.cls := findClass_of_methodNamed B.named
  have hlocks := B.notSynchronized
  subst hsz
  have hD := hD0.self (sz := s.heap.size)
  generalize hAe : va_A (MWn h0 mr km (mi 0) (mi 1) (mi 2) (mi 3) (mi 4) (mi 5) (mi 6) (mi 7) (mi 10) (mi 17) (mi 23) (mi 24) (mi 26) (mi 27) (mi 28) (mi 29) (mi 30) (mi 31) (mi 32) (mi 33) (mi 37) (mi 41) (mi 42) (mi 43) (mi 44) (mi 45) (mi 47) (mi 48) (mi 49) (mi 50) (mi 51) (mi 54) (mi 56) fm_trust fm_letter fm_reportPlace fm_reportKind fm_struck fm_reportMonth fm_reportDay fm_reportKnown fm_deedMonth fm_deedDay fm_deedLong fm_deedKind fm_kept fm_tape fm_must fm_least fm_pin fm_ways fm_verdict fm_row fm_official fm_aside fm_worth fm_out) s.heap.size = A at hD ⊢
  have hA : ∀ q : Nat, s.heap.size ≤ q → A q := fun q h => by rw [← hAe]; exact Or.inr h
  have hS : va_S A s.heap s.heap [] := va_S.rf
  have hl := lv_entry ([.ref h0, .int p1, .int p2]) (n := 3) (Nat.le_of_ble_eq_true rfl)
  rw [lg_entry_eq]
  generalize (lg_sl ([.ref h0, .int p1, .int p2]) ++ List.replicate (3 - (lg_sl ([.ref h0, .int p1, .int p2])).length) Slot.unset).toArray = ls at hl ⊢
  have hl : lv_has ls 3 [(0, .ref h0), (1, .int p1), (2, .int p2)] := hl
  refine lv_aload_n hx hb dX12_beginsOn_0 rfl (lv_at hl 0 rfl) ?_
  refine lv_iload_n hx hb dX12_beginsOn_1 rfl (lv_at hl 1 rfl) ?_
  refine lv_iload_n hx hb dX12_beginsOn_2 rfl (lv_at hl 2 rfl) ?_
  refine lv_iconst (v := (-1)) hx hb dX12_beginsOn_3 (by decide) ?_
  refine lv_iconst (v := 0) hx hb dX12_beginsOn_4 (by decide) ?_
  have hFc := gz_fullF hD hS hA
  refine va_calli (va_runV (As := [.int p1, .int p2, .int (-1), .int 0]) (rest := []) ⟨hx, hb, hml, hown, hts⟩ (sX12_countsWith l dC dI s.heap.size h0 mi mr km fm_must fm_least fm_pin fm_ways fm_trust fm_letter fm_reportPlace fm_reportKind fm_struck fm_reportMonth fm_reportDay fm_reportKnown fm_deedMonth fm_deedDay fm_deedLong fm_deedKind fm_kept fm_tape fm_verdict fm_row fm_official fm_aside fm_worth fm_out p1 p2 (-1) 0 gmi_0 gmi_1 gmi_2 gmi_4 gmi_7 gmi_10 gmi_17 gmi_23 gmi_24 gmi_26 gmi_29 gmi_30 gmi_33 gmi_37 gmi_41 gmi_50 gmi_51 gmi_56 gp1 (gi_w (gi_c (-1) (-1) (by decide)) (by decide))) (cwV 4 hts (gz_gV mGB_377 mGB_378 mGB_379 mGB_1 mGB_380 goodGB) rfl rfl rfl (by decide +kernel) ⟨Nat.le_of_ble_eq_true rfl, Nat.le_of_ble_eq_true rfl⟩) ⟨bl_W, mw_recv hK hP, fun U hU hW => ⟨rfl, by rw [hU], by rw [hU]; exact hP, va_K.moved hW.alike hK, hD.weaken (fun _ _ _ _ => trivial)⟩⟩ rfl rfl hl.1 rfl (lv_room (Nat.le_of_ble_eq_true rfl)) dX12_beginsOn_5 ⟨Nat.zero_le _, Nat.zero_le _⟩) hS (fun q _ h => hFc q h) hFc (fun r_7 u t H1 locs ht hvm hw hB hz1 hk1 hS => ?_)
  obtain ⟨f_8, f_9, hB⟩ := hB
  obtain ⟨hP1, hD1⟩ := hB
  rw [ht] at hP1
  have hD : va_D A (MWn h0 mr km (mi 0) (mi 1) (mi 2) (mi 3) (mi 4) (mi 5) (mi 6) (mi 7) (mi 10) (mi 17) (mi 23) (mi 24) (mi 26) (mi 27) (mi 28) (mi 29) (mi 30) (mi 31) (mi 32) (mi 33) (mi 37) (mi 41) (mi 42) (mi 43) (mi 44) (mi 45) (mi 47) (mi 48) (mi 49) (mi 50) (mi 51) (mi 54) (mi 56) fm_trust fm_letter fm_reportPlace fm_reportKind fm_struck fm_reportMonth fm_reportDay fm_reportKnown fm_deedMonth fm_deedDay fm_deedLong fm_deedKind fm_kept fm_tape fm_must fm_least f_8 f_9 fm_verdict fm_row fm_official fm_aside fm_worth fm_out) := gz_fullD hFc hD1
  have hP : va_P (dC, dI) vwCl (MWn h0 mr km (mi 0) (mi 1) (mi 2) (mi 3) (mi 4) (mi 5) (mi 6) (mi 7) (mi 10) (mi 17) (mi 23) (mi 24) (mi 26) (mi 27) (mi 28) (mi 29) (mi 30) (mi 31) (mi 32) (mi 33) (mi 37) (mi 41) (mi 42) (mi 43) (mi 44) (mi 45) (mi 47) (mi 48) (mi 49) (mi 50) (mi 51) (mi 54) (mi 56) fm_trust fm_letter fm_reportPlace fm_reportKind fm_struck fm_reportMonth fm_reportDay fm_reportKnown fm_deedMonth fm_deedDay fm_deedLong fm_deedKind fm_kept fm_tape fm_must fm_least f_8 f_9 fm_verdict fm_row fm_official fm_aside fm_worth fm_out) H1 := hP1
  generalize H1 = H at hP hS ⊢
  exact W.iret (v := r_7) hx hb hr (fun t ht hW => ⟨⟨r_7, (), rfl, (gi_any r_7), f_8, f_9, by rw [ht]; exact hP, hD⟩, hS.F ht⟩) hS.2.2 dX12_beginsOn_8
theorem dX12_spanOf_0 : decode cX12_spanOf 0 = .ok (.iconst 0, 1) := by decide +kernel
theorem dX12_spanOf_1 : decode cX12_spanOf 1 = .ok (.istore_n 3, 1) := by decide +kernel
theorem dX12_spanOf_2 : decode cX12_spanOf 2 = .ok (.iload_n 3, 1) := by decide +kernel
theorem dX12_spanOf_3 : decode cX12_spanOf 3 = .ok (.iload_n 1, 1) := by decide +kernel
theorem dX12_spanOf_4 : decode cX12_spanOf 4 = .ok (.if_icmp .gt 40, 3) := by decide +kernel
theorem dX12_spanOf_7 : decode cX12_spanOf 7 = .ok (.bipush 29, 2) := by decide +kernel
theorem dX12_spanOf_9 : decode cX12_spanOf 9 = .ok (.iload_n 1, 1) := by decide +kernel
theorem dX12_spanOf_10 : decode cX12_spanOf 10 = .ok (.imul, 1) := by decide +kernel
theorem dX12_spanOf_11 : decode cX12_spanOf 11 = .ok (.iload_n 2, 1) := by decide +kernel
theorem dX12_spanOf_12 : decode cX12_spanOf 12 = .ok (.ifCond .ne 7, 3) := by decide +kernel
theorem dX12_spanOf_15 : decode cX12_spanOf 15 = .ok (.iload_n 3, 1) := by decide +kernel
theorem dX12_spanOf_16 : decode cX12_spanOf 16 = .ok (.goto 6, 3) := by decide +kernel
theorem dX12_spanOf_19 : decode cX12_spanOf 19 = .ok (.iload_n 1, 1) := by decide +kernel
theorem dX12_spanOf_20 : decode cX12_spanOf 20 = .ok (.iload_n 3, 1) := by decide +kernel
theorem dX12_spanOf_21 : decode cX12_spanOf 21 = .ok (.isub, 1) := by decide +kernel
theorem dX12_spanOf_22 : decode cX12_spanOf 22 = .ok (.iadd, 1) := by decide +kernel
theorem dX12_spanOf_23 : decode cX12_spanOf 23 = .ok (.istore 4, 2) := by decide +kernel
theorem dX12_spanOf_25 : decode cX12_spanOf 25 = .ok (.aload_n 0, 1) := by decide +kernel
theorem dX12_spanOf_26 : decode cX12_spanOf 26 = .ok (.iload_n 1, 1) := by decide +kernel
theorem dX12_spanOf_27 : decode cX12_spanOf 27 = .ok (.iload 4, 2) := by decide +kernel
theorem dX12_spanOf_29 : decode cX12_spanOf 29 = .ok (.invokevirtual 388, 3) := by decide +kernel
theorem dX12_spanOf_32 : decode cX12_spanOf 32 = .ok (.ifCond .le 6, 3) := by decide +kernel
theorem dX12_spanOf_35 : decode cX12_spanOf 35 = .ok (.iload 4, 2) := by decide +kernel
theorem dX12_spanOf_37 : decode cX12_spanOf 37 = .ok (.ireturn, 1) := by decide +kernel
theorem dX12_spanOf_38 : decode cX12_spanOf 38 = .ok (.iinc 3 1, 3) := by decide +kernel
theorem dX12_spanOf_41 : decode cX12_spanOf 41 = .ok (.goto (-39), 3) := by decide +kernel
theorem dX12_spanOf_44 : decode cX12_spanOf 44 = .ok (.bipush (-2), 2) := by decide +kernel
theorem dX12_spanOf_46 : decode cX12_spanOf 46 = .ok (.ireturn, 1) := by decide +kernel
set_option maxHeartbeats 4000000 in
set_option maxRecDepth 100000 in
theorem lp_sX12_spanOf {p : Program} {l : Launch} {e : Env} {R : Room} {s : State} {m : MethodId} {args : Array Value} {below : List Frame} {meth : Method} {c : Code} {Q : State → Prop} {A : Nat → Prop} {cells slots : Nat} {dC : Nat → ClassId} {dI : Nat → Nat → Nat} (h0 : Nat) (mi : Nat → Int32) (mr : Nat → Nat) (km : Nat → ClassId) (fm_must : Nat → Int32) (fm_least : Nat → Int32) (fm_pin : Nat → Int32) (fm_ways : Nat → Int32) (fm_trust : Nat → Int32) (fm_letter : Nat → Int32) (fm_reportPlace : Nat → Int32) (fm_reportKind : Nat → Int32) (fm_struck : Nat → Int32) (fm_reportMonth : Nat → Int32) (fm_reportDay : Nat → Int32) (fm_reportKnown : Nat → Int32) (fm_deedMonth : Nat → Int32) (fm_deedDay : Nat → Int32) (fm_deedLong : Nat → Int32) (fm_deedKind : Nat → Int32) (fm_kept : Nat → Int32) (fm_tape : Nat → Int32) (fm_verdict : Nat → Int32) (fm_row : Nat → Int32) (fm_official : Nat → Int32) (fm_aside : Nat → Int32) (fm_worth : Nat → Int32) (fm_out : Nat → Int32) (p1 : Int32) (p2 : Int32) (gmi_0 : gi (mi 0) 0 24) (gmi_1 : gi (mi 1) 0 5) (gmi_2 : gi (mi 2) 0 5) (gmi_4 : gi (mi 4) 0 1) (gmi_7 : gi (mi 7) 0 6) (gmi_10 : gi (mi 10) 0 24) (gmi_17 : gi (mi 17) 0 8) (gmi_23 : gi (mi 23) 0 300) (gmi_24 : gi (mi 24) 0 1) (gmi_26 : gi (mi 26) 0 1600) (gmi_29 : gi (mi 29) 0 1600) (gmi_30 : gi (mi 30) 0 1600) (gmi_33 : gi (mi 33) 0 1) (gmi_37 : gi (mi 37) 0 1) (gmi_41 : gi (mi 41) 0 24) (gmi_50 : gi (mi 50) 0 1) (gmi_51 : gi (mi 51) 0 1) (gmi_56 : gi (mi 56) 0 80) (gp1 : gi p1 0 24) (hx : p.tables.exec = Jvm.exec) (hb : c.code = cX12_spanOf) (hml : c.maxLocals = 5) (hown : s.vm.findClass RX12 = some m.cls) (hts : ∀ w ∈ ((.code yX12_spanOf cX12_spanOf 5 (some .int) :: wsGB) : List Cond), w.before args s = true) (hK : va_K (dC, dI) vwCl (MT km) s) (hA : ∀ q : Nat, s.heap.size ≤ q → A q) (hRf : 5 ≤ R.frames) (hRl : 123 ≤ R.locals) (hRc : cells ≤ R.cells) (hRs : slots ≤ R.slots) (kr46 : ∀ (v : Int32) (z3 : Nat → Int32) (z4 : Nat → Int32) (H : Heap) (locs : List Loc) (ls : Array Slot), gi v (-2) (-2) → va_P (dC, dI) vwCl (MWn h0 mr km (mi 0) (mi 1) (mi 2) (mi 3) (mi 4) (mi 5) (mi 6) (mi 7) (mi 10) (mi 17) (mi 23) (mi 24) (mi 26) (mi 27) (mi 28) (mi 29) (mi 30) (mi 31) (mi 32) (mi 33) (mi 37) (mi 41) (mi 42) (mi 43) (mi 44) (mi 45) (mi 47) (mi 48) (mi 49) (mi 50) (mi 51) (mi 54) (mi 56) fm_trust fm_letter fm_reportPlace fm_reportKind fm_struck fm_reportMonth fm_reportDay fm_reportKnown fm_deedMonth fm_deedDay fm_deedLong fm_deedKind fm_kept fm_tape fm_must fm_least z3 z4 fm_verdict fm_row fm_official fm_aside fm_worth fm_out) H → va_D A (MWn h0 mr km (mi 0) (mi 1) (mi 2) (mi 3) (mi 4) (mi 5) (mi 6) (mi 7) (mi 10) (mi 17) (mi 23) (mi 24) (mi 26) (mi 27) (mi 28) (mi 29) (mi 30) (mi 31) (mi 32) (mi 33) (mi 37) (mi 41) (mi 42) (mi 43) (mi 44) (mi 45) (mi 47) (mi 48) (mi 49) (mi 50) (mi 51) (mi 54) (mi 56) fm_trust fm_letter fm_reportPlace fm_reportKind fm_struck fm_reportMonth fm_reportDay fm_reportKnown fm_deedMonth fm_deedDay fm_deedLong fm_deedKind fm_kept fm_tape fm_must fm_least z3 z4 fm_verdict fm_row fm_official fm_aside fm_worth fm_out) → va_S A s.heap H locs → lv_has ls 5 [] → W p l e R s m args below meth c H locs cells slots Q (F0 m 46 ls [.int v])) (kr37 : ∀ (v : Int32) (z3 : Nat → Int32) (z4 : Nat → Int32) (H : Heap) (locs : List Loc) (ls : Array Slot), gi v 0 720 → va_P (dC, dI) vwCl (MWn h0 mr km (mi 0) (mi 1) (mi 2) (mi 3) (mi 4) (mi 5) (mi 6) (mi 7) (mi 10) (mi 17) (mi 23) (mi 24) (mi 26) (mi 27) (mi 28) (mi 29) (mi 30) (mi 31) (mi 32) (mi 33) (mi 37) (mi 41) (mi 42) (mi 43) (mi 44) (mi 45) (mi 47) (mi 48) (mi 49) (mi 50) (mi 51) (mi 54) (mi 56) fm_trust fm_letter fm_reportPlace fm_reportKind fm_struck fm_reportMonth fm_reportDay fm_reportKnown fm_deedMonth fm_deedDay fm_deedLong fm_deedKind fm_kept fm_tape fm_must fm_least z3 z4 fm_verdict fm_row fm_official fm_aside fm_worth fm_out) H → va_D A (MWn h0 mr km (mi 0) (mi 1) (mi 2) (mi 3) (mi 4) (mi 5) (mi 6) (mi 7) (mi 10) (mi 17) (mi 23) (mi 24) (mi 26) (mi 27) (mi 28) (mi 29) (mi 30) (mi 31) (mi 32) (mi 33) (mi 37) (mi 41) (mi 42) (mi 43) (mi 44) (mi 45) (mi 47) (mi 48) (mi 49) (mi 50) (mi 51) (mi 54) (mi 56) fm_trust fm_letter fm_reportPlace fm_reportKind fm_struck fm_reportMonth fm_reportDay fm_reportKnown fm_deedMonth fm_deedDay fm_deedLong fm_deedKind fm_kept fm_tape fm_must fm_least z3 z4 fm_verdict fm_row fm_official fm_aside fm_worth fm_out) → va_S A s.heap H locs → lv_has ls 5 [] → W p l e R s m args below meth c H locs cells slots Q (F0 m 37 ls [.int v])) : ∀ z : Nat, (∀ (v3 : Int32) (z3 : Nat → Int32) (z4 : Nat → Int32) (H : Heap) (locs : List Loc) (ls : Array Slot), gi v3 0 25 → 51 + (-2) * v3.toInt < (z : Int) → va_P (dC, dI) vwCl (MWn h0 mr km (mi 0) (mi 1) (mi 2) (mi 3) (mi 4) (mi 5) (mi 6) (mi 7) (mi 10) (mi 17) (mi 23) (mi 24) (mi 26) (mi 27) (mi 28) (mi 29) (mi 30) (mi 31) (mi 32) (mi 33) (mi 37) (mi 41) (mi 42) (mi 43) (mi 44) (mi 45) (mi 47) (mi 48) (mi 49) (mi 50) (mi 51) (mi 54) (mi 56) fm_trust fm_letter fm_reportPlace fm_reportKind fm_struck fm_reportMonth fm_reportDay fm_reportKnown fm_deedMonth fm_deedDay fm_deedLong fm_deedKind fm_kept fm_tape fm_must fm_least z3 z4 fm_verdict fm_row fm_official fm_aside fm_worth fm_out) H → va_D A (MWn h0 mr km (mi 0) (mi 1) (mi 2) (mi 3) (mi 4) (mi 5) (mi 6) (mi 7) (mi 10) (mi 17) (mi 23) (mi 24) (mi 26) (mi 27) (mi 28) (mi 29) (mi 30) (mi 31) (mi 32) (mi 33) (mi 37) (mi 41) (mi 42) (mi 43) (mi 44) (mi 45) (mi 47) (mi 48) (mi 49) (mi 50) (mi 51) (mi 54) (mi 56) fm_trust fm_letter fm_reportPlace fm_reportKind fm_struck fm_reportMonth fm_reportDay fm_reportKnown fm_deedMonth fm_deedDay fm_deedLong fm_deedKind fm_kept fm_tape fm_must fm_least z3 z4 fm_verdict fm_row fm_official fm_aside fm_worth fm_out) → va_S A s.heap H locs → lv_has ls 5 [(0, .ref h0), (1, .int p1), (2, .int p2), (3, .int v3)] → W p l e R s m args below meth c H locs cells slots Q (F0 m 2 ls [])) := by
  intro z
  induction z with
  | zero =>
    intro v3 z3 z4 H locs ls gv3 hmu hP hD hS hl
    exact absurd hmu (by have hv31 := gv3.1; have hv32 := gv3.2; omega)
  | succ z ih =>
      intro v3 z3 z4 H locs ls gv3 hmu hP hD hS hl
      refine lv_iload_n hx hb dX12_spanOf_2 rfl (lv_at hl 3 rfl) ?_
      refine lv_iload_n hx hb dX12_spanOf_3 rfl (lv_at hl 1 rfl) ?_
      refine lv_icmp_gt (tgt := 44) hx hb dX12_spanOf_4 (by decide) (fun c_367 => ?_) (fun c_367 => ?_)
      · have g_368 : gi v3 1 25 := gi_lt_r c_367 gp1 gv3 (by decide)
        refine lv_bipush (v := (-2)) hx hb dX12_spanOf_44 (by decide) ?_
        exact kr46 (-2) z3 z4 _ _ _ (gi_c (-2) (-2) (by decide)) hP hD hS (lv_sub hl [] rfl)
      · have g_369 : gi v3 0 24 := gi_le_l (Int32.not_lt.mp c_367) gv3 gp1
        refine lv_bipush (v := 29) hx hb dX12_spanOf_7 (by decide) ?_
        refine lv_iload_n hx hb dX12_spanOf_9 rfl (lv_at hl 1 rfl) ?_
        refine lv_imul hx hb dX12_spanOf_10 ?_
        refine lv_topi (fun x_370 ex_370 => ?_)
        have gx_370 : gi x_370 0 696 := gi_mul ex_370 (gi_c 29 29 (by decide)) gp1 (by decide)
        refine lv_iload_n hx hb dX12_spanOf_11 rfl (lv_at hl 2 rfl) ?_
        refine lv_if_ne (tgt := 19) hx hb dX12_spanOf_12 (by decide) (fun c_371 => ?_) (fun c_371 => ?_)
        · refine lv_iload_n hx hb dX12_spanOf_19 rfl (lv_at hl 1 rfl) ?_
          refine lv_iload_n hx hb dX12_spanOf_20 rfl (lv_at hl 3 rfl) ?_
          refine lv_isub hx hb dX12_spanOf_21 ?_
          refine lv_topi (fun x_372 ex_372 => ?_)
          have gx_372 : gi x_372 0 24 := gi_subrel ex_372 (Int32.le_iff_toInt_le.mp (Int32.not_lt.mp c_367)) gp1 g_369 (by decide)
          refine lv_iadd hx hb dX12_spanOf_22 ?_
          refine lv_topi (fun x_373 ex_373 => ?_)
          have gx_373 : gi x_373 0 720 := gi_add ex_373 gx_370 gx_372 (by decide)
          refine lv_istore (lv' := [(4, .int x_373), (0, .ref h0), (1, .int p1), (2, .int p2), (3, .int v3)]) hx hb dX12_spanOf_23 hl (by decide) rfl (fun ls hl => ?_)
          refine lv_aload_n hx hb dX12_spanOf_25 rfl (lv_at hl 1 rfl) ?_
          refine lv_iload_n hx hb dX12_spanOf_26 rfl (lv_at hl 2 rfl) ?_
          refine lv_iload hx hb dX12_spanOf_27 (lv_at hl 0 rfl) ?_
          have hFc := gz_fullF hD hS hA
          refine va_calli (va_runV (As := [.int p1, .int x_373]) (rest := []) ⟨hx, hb, hml, hown, hts⟩ (sX12_beginsOn l dC dI H.size h0 mi mr km fm_must fm_least z3 z4 fm_trust fm_letter fm_reportPlace fm_reportKind fm_struck fm_reportMonth fm_reportDay fm_reportKnown fm_deedMonth fm_deedDay fm_deedLong fm_deedKind fm_kept fm_tape fm_verdict fm_row fm_official fm_aside fm_worth fm_out p1 x_373 gmi_0 gmi_1 gmi_2 gmi_4 gmi_7 gmi_10 gmi_17 gmi_23 gmi_24 gmi_26 gmi_29 gmi_30 gmi_33 gmi_37 gmi_41 gmi_50 gmi_51 gmi_56 gp1) (cwV 2 hts (gz_gV mGB_373 mGB_374 mGB_375 mGB_1 mGB_376 goodGB) rfl rfl rfl (by decide +kernel) ⟨Nat.le_trans (Nat.le_of_ble_eq_true rfl) hRf, Nat.le_trans (Nat.le_of_ble_eq_true rfl) hRl⟩) ⟨bl_W, mw_recv hK hP, fun U hU hW => ⟨rfl, by rw [hU], by rw [hU]; exact hP, va_K.moved hW.alike hK, hD.weaken (fun _ _ _ _ => trivial)⟩⟩ rfl rfl hl.1 rfl (lv_room (Nat.le_of_ble_eq_true rfl)) dX12_spanOf_29 ⟨hRc, hRs⟩) hS (fun q _ h => hFc q h) hFc (fun r_374 u t H1 locs ht hvm hw hB hz1 hk1 hS => ?_)
          obtain ⟨f_375, f_376, hB⟩ := hB
          obtain ⟨hP1, hD1⟩ := hB
          rw [ht] at hP1
          have hD : va_D A (MWn h0 mr km (mi 0) (mi 1) (mi 2) (mi 3) (mi 4) (mi 5) (mi 6) (mi 7) (mi 10) (mi 17) (mi 23) (mi 24) (mi 26) (mi 27) (mi 28) (mi 29) (mi 30) (mi 31) (mi 32) (mi 33) (mi 37) (mi 41) (mi 42) (mi 43) (mi 44) (mi 45) (mi 47) (mi 48) (mi 49) (mi 50) (mi 51) (mi 54) (mi 56) fm_trust fm_letter fm_reportPlace fm_reportKind fm_struck fm_reportMonth fm_reportDay fm_reportKnown fm_deedMonth fm_deedDay fm_deedLong fm_deedKind fm_kept fm_tape fm_must fm_least f_375 f_376 fm_verdict fm_row fm_official fm_aside fm_worth fm_out) := gz_fullD hFc hD1
          have hP : va_P (dC, dI) vwCl (MWn h0 mr km (mi 0) (mi 1) (mi 2) (mi 3) (mi 4) (mi 5) (mi 6) (mi 7) (mi 10) (mi 17) (mi 23) (mi 24) (mi 26) (mi 27) (mi 28) (mi 29) (mi 30) (mi 31) (mi 32) (mi 33) (mi 37) (mi 41) (mi 42) (mi 43) (mi 44) (mi 45) (mi 47) (mi 48) (mi 49) (mi 50) (mi 51) (mi 54) (mi 56) fm_trust fm_letter fm_reportPlace fm_reportKind fm_struck fm_reportMonth fm_reportDay fm_reportKnown fm_deedMonth fm_deedDay fm_deedLong fm_deedKind fm_kept fm_tape fm_must fm_least f_375 f_376 fm_verdict fm_row fm_official fm_aside fm_worth fm_out) H1 := hP1
          generalize H1 = H at hP hS ⊢
          refine lv_if_le (tgt := 38) hx hb dX12_spanOf_32 (by decide) (fun c_377 => ?_) (fun c_377 => ?_)
          · have g_378 : gi r_374 (-2147483648) 0 := gi_le_l c_377 (gi_any r_374) (gi_c 0 0 (by decide))
            obtain ⟨x_379, ex_379⟩ : ∃ y : Int32, y = v3 + 1 := ⟨_, rfl⟩
            have gx_379 : gi x_379 1 25 := gi_add ex_379 g_369 (gi_c 1 1 (by decide)) (by decide)
            refine lv_iinc (v := x_379) (lv' := [(3, .int x_379), (4, .int x_373), (0, .ref h0), (1, .int p1), (2, .int p2)]) hx hb dX12_spanOf_38 hl (k := 4) rfl (by rw [ex_379]; rfl) (by decide) rfl (fun ls hl => ?_)
            refine lv_goto (tgt := 2) hx hb dX12_spanOf_41 (by decide) ?_
            exact ih x_379 f_375 f_376 _ _ _ (gi_w gx_379 (by decide)) (by have av3 := gv3.1; have bv3 := gv3.2; have qgx_379 := gx_379.1; have rgx_379 := gx_379.2; have igx_379 : x_379.toInt = v3.toInt + 1 := (by have hc1 : (1 : Int32).toInt = 1 := (by decide); have h9 := gi_addI ex_379 (by have h1 := g_369.1; have h2 := (gi_c 1 1 (by decide)).1; have h3 := g_369.2; have h4 := (gi_c 1 1 (by decide)).2; omega) (by have h1 := g_369.1; have h2 := (gi_c 1 1 (by decide)).1; have h3 := g_369.2; have h4 := (gi_c 1 1 (by decide)).2; omega); rw [hc1] at h9; exact h9); have qgv3 := g_369.1; have rgv3 := g_369.2; omega) hP hD hS (lv_sub hl [2, 3, 4, 0] rfl)
          · have g_380 : gi r_374 1 2147483647 := gi_lt_r (Int32.not_le.mp c_377) (gi_c 0 0 (by decide)) (gi_any r_374) (by decide)
            refine lv_iload hx hb dX12_spanOf_35 (lv_at hl 0 rfl) ?_
            exact kr37 x_373 f_375 f_376 _ _ _ gx_373 hP hD hS (lv_sub hl [] rfl)
        · have g_381 : gi p2 0 0 := gi_eq c_371 (gi_c 0 0 (by decide))
          refine lv_iload_n hx hb dX12_spanOf_15 rfl (lv_at hl 3 rfl) ?_
          refine lv_goto (tgt := 22) hx hb dX12_spanOf_16 (by decide) ?_
          refine lv_iadd hx hb dX12_spanOf_22 ?_
          refine lv_topi (fun x_382 ex_382 => ?_)
          have gx_382 : gi x_382 0 720 := gi_add ex_382 gx_370 g_369 (by decide)
          refine lv_istore (lv' := [(4, .int x_382), (0, .ref h0), (1, .int p1), (2, .int p2), (3, .int v3)]) hx hb dX12_spanOf_23 hl (by decide) rfl (fun ls hl => ?_)
          refine lv_aload_n hx hb dX12_spanOf_25 rfl (lv_at hl 1 rfl) ?_
          refine lv_iload_n hx hb dX12_spanOf_26 rfl (lv_at hl 2 rfl) ?_
          refine lv_iload hx hb dX12_spanOf_27 (lv_at hl 0 rfl) ?_
          have hFc := gz_fullF hD hS hA
          refine va_calli (va_runV (As := [.int p1, .int x_382]) (rest := []) ⟨hx, hb, hml, hown, hts⟩ (sX12_beginsOn l dC dI H.size h0 mi mr km fm_must fm_least z3 z4 fm_trust fm_letter fm_reportPlace fm_reportKind fm_struck fm_reportMonth fm_reportDay fm_reportKnown fm_deedMonth fm_deedDay fm_deedLong fm_deedKind fm_kept fm_tape fm_verdict fm_row fm_official fm_aside fm_worth fm_out p1 x_382 gmi_0 gmi_1 gmi_2 gmi_4 gmi_7 gmi_10 gmi_17 gmi_23 gmi_24 gmi_26 gmi_29 gmi_30 gmi_33 gmi_37 gmi_41 gmi_50 gmi_51 gmi_56 gp1) (cwV 2 hts (gz_gV mGB_373 mGB_374 mGB_375 mGB_1 mGB_376 goodGB) rfl rfl rfl (by decide +kernel) ⟨Nat.le_trans (Nat.le_of_ble_eq_true rfl) hRf, Nat.le_trans (Nat.le_of_ble_eq_true rfl) hRl⟩) ⟨bl_W, mw_recv hK hP, fun U hU hW => ⟨rfl, by rw [hU], by rw [hU]; exact hP, va_K.moved hW.alike hK, hD.weaken (fun _ _ _ _ => trivial)⟩⟩ rfl rfl hl.1 rfl (lv_room (Nat.le_of_ble_eq_true rfl)) dX12_spanOf_29 ⟨hRc, hRs⟩) hS (fun q _ h => hFc q h) hFc (fun r_383 u t H1 locs ht hvm hw hB hz1 hk1 hS => ?_)
          obtain ⟨f_384, f_385, hB⟩ := hB
          obtain ⟨hP1, hD1⟩ := hB
          rw [ht] at hP1
          have hD : va_D A (MWn h0 mr km (mi 0) (mi 1) (mi 2) (mi 3) (mi 4) (mi 5) (mi 6) (mi 7) (mi 10) (mi 17) (mi 23) (mi 24) (mi 26) (mi 27) (mi 28) (mi 29) (mi 30) (mi 31) (mi 32) (mi 33) (mi 37) (mi 41) (mi 42) (mi 43) (mi 44) (mi 45) (mi 47) (mi 48) (mi 49) (mi 50) (mi 51) (mi 54) (mi 56) fm_trust fm_letter fm_reportPlace fm_reportKind fm_struck fm_reportMonth fm_reportDay fm_reportKnown fm_deedMonth fm_deedDay fm_deedLong fm_deedKind fm_kept fm_tape fm_must fm_least f_384 f_385 fm_verdict fm_row fm_official fm_aside fm_worth fm_out) := gz_fullD hFc hD1
          have hP : va_P (dC, dI) vwCl (MWn h0 mr km (mi 0) (mi 1) (mi 2) (mi 3) (mi 4) (mi 5) (mi 6) (mi 7) (mi 10) (mi 17) (mi 23) (mi 24) (mi 26) (mi 27) (mi 28) (mi 29) (mi 30) (mi 31) (mi 32) (mi 33) (mi 37) (mi 41) (mi 42) (mi 43) (mi 44) (mi 45) (mi 47) (mi 48) (mi 49) (mi 50) (mi 51) (mi 54) (mi 56) fm_trust fm_letter fm_reportPlace fm_reportKind fm_struck fm_reportMonth fm_reportDay fm_reportKnown fm_deedMonth fm_deedDay fm_deedLong fm_deedKind fm_kept fm_tape fm_must fm_least f_384 f_385 fm_verdict fm_row fm_official fm_aside fm_worth fm_out) H1 := hP1
          generalize H1 = H at hP hS ⊢
          refine lv_if_le (tgt := 38) hx hb dX12_spanOf_32 (by decide) (fun c_386 => ?_) (fun c_386 => ?_)
          · have g_387 : gi r_383 (-2147483648) 0 := gi_le_l c_386 (gi_any r_383) (gi_c 0 0 (by decide))
            obtain ⟨x_388, ex_388⟩ : ∃ y : Int32, y = v3 + 1 := ⟨_, rfl⟩
            have gx_388 : gi x_388 1 25 := gi_add ex_388 g_369 (gi_c 1 1 (by decide)) (by decide)
            refine lv_iinc (v := x_388) (lv' := [(3, .int x_388), (4, .int x_382), (0, .ref h0), (1, .int p1), (2, .int p2)]) hx hb dX12_spanOf_38 hl (k := 4) rfl (by rw [ex_388]; rfl) (by decide) rfl (fun ls hl => ?_)
            refine lv_goto (tgt := 2) hx hb dX12_spanOf_41 (by decide) ?_
            exact ih x_388 f_384 f_385 _ _ _ (gi_w gx_388 (by decide)) (by have av3 := gv3.1; have bv3 := gv3.2; have qgx_388 := gx_388.1; have rgx_388 := gx_388.2; have igx_388 : x_388.toInt = v3.toInt + 1 := (by have hc1 : (1 : Int32).toInt = 1 := (by decide); have h9 := gi_addI ex_388 (by have h1 := g_369.1; have h2 := (gi_c 1 1 (by decide)).1; have h3 := g_369.2; have h4 := (gi_c 1 1 (by decide)).2; omega) (by have h1 := g_369.1; have h2 := (gi_c 1 1 (by decide)).1; have h3 := g_369.2; have h4 := (gi_c 1 1 (by decide)).2; omega); rw [hc1] at h9; exact h9); have qgv3 := g_369.1; have rgv3 := g_369.2; omega) hP hD hS (lv_sub hl [2, 3, 4, 0] rfl)
          · have g_389 : gi r_383 1 2147483647 := gi_lt_r (Int32.not_le.mp c_386) (gi_c 0 0 (by decide)) (gi_any r_383) (by decide)
            refine lv_iload hx hb dX12_spanOf_35 (lv_at hl 0 rfl) ?_
            exact kr37 x_382 f_384 f_385 _ _ _ gx_382 hP hD hS (lv_sub hl [] rfl)
abbrev pb_sX12_spanOf (dC : Nat → ClassId) (dI : Nat → Nat → Nat) (A9 : Nat → Prop) (h0 : Nat) (mi : Nat → Int32) (mr : Nat → Nat) (km : Nat → ClassId) (fm_must : Nat → Int32) (fm_least : Nat → Int32) (fm_pin : Nat → Int32) (fm_ways : Nat → Int32) (fm_trust : Nat → Int32) (fm_letter : Nat → Int32) (fm_reportPlace : Nat → Int32) (fm_reportKind : Nat → Int32) (fm_struck : Nat → Int32) (fm_reportMonth : Nat → Int32) (fm_reportDay : Nat → Int32) (fm_reportKnown : Nat → Int32) (fm_deedMonth : Nat → Int32) (fm_deedDay : Nat → Int32) (fm_deedLong : Nat → Int32) (fm_deedKind : Nat → Int32) (fm_kept : Nat → Int32) (fm_tape : Nat → Int32) (fm_verdict : Nat → Int32) (fm_row : Nat → Int32) (fm_official : Nat → Int32) (fm_aside : Nat → Int32) (fm_worth : Nat → Int32) (fm_out : Nat → Int32) (p1 : Int32) (p2 : Int32) (z3 : Nat → Int32) (z4 : Nat → Int32) (t : State) : Prop := va_P (dC, dI) vwCl (MWn h0 mr km (mi 0) (mi 1) (mi 2) (mi 3) (mi 4) (mi 5) (mi 6) (mi 7) (mi 10) (mi 17) (mi 23) (mi 24) (mi 26) (mi 27) (mi 28) (mi 29) (mi 30) (mi 31) (mi 32) (mi 33) (mi 37) (mi 41) (mi 42) (mi 43) (mi 44) (mi 45) (mi 47) (mi 48) (mi 49) (mi 50) (mi 51) (mi 54) (mi 56) fm_trust fm_letter fm_reportPlace fm_reportKind fm_struck fm_reportMonth fm_reportDay fm_reportKnown fm_deedMonth fm_deedDay fm_deedLong fm_deedKind fm_kept fm_tape fm_must fm_least z3 z4 fm_verdict fm_row fm_official fm_aside fm_worth fm_out) t.heap ∧ va_D A9 (MWn h0 mr km (mi 0) (mi 1) (mi 2) (mi 3) (mi 4) (mi 5) (mi 6) (mi 7) (mi 10) (mi 17) (mi 23) (mi 24) (mi 26) (mi 27) (mi 28) (mi 29) (mi 30) (mi 31) (mi 32) (mi 33) (mi 37) (mi 41) (mi 42) (mi 43) (mi 44) (mi 45) (mi 47) (mi 48) (mi 49) (mi 50) (mi 51) (mi 54) (mi 56) fm_trust fm_letter fm_reportPlace fm_reportKind fm_struck fm_reportMonth fm_reportDay fm_reportKnown fm_deedMonth fm_deedDay fm_deedLong fm_deedKind fm_kept fm_tape fm_must fm_least z3 z4 fm_verdict fm_row fm_official fm_aside fm_worth fm_out)
set_option maxHeartbeats 4000000 in
set_option maxRecDepth 100000 in
theorem sX12_spanOf (l : Launch) (dC : Nat → ClassId) (dI : Nat → Nat → Nat) (sz : Nat) (h0 : Nat) (mi : Nat → Int32) (mr : Nat → Nat) (km : Nat → ClassId) (fm_must : Nat → Int32) (fm_least : Nat → Int32) (fm_pin : Nat → Int32) (fm_ways : Nat → Int32) (fm_trust : Nat → Int32) (fm_letter : Nat → Int32) (fm_reportPlace : Nat → Int32) (fm_reportKind : Nat → Int32) (fm_struck : Nat → Int32) (fm_reportMonth : Nat → Int32) (fm_reportDay : Nat → Int32) (fm_reportKnown : Nat → Int32) (fm_deedMonth : Nat → Int32) (fm_deedDay : Nat → Int32) (fm_deedLong : Nat → Int32) (fm_deedKind : Nat → Int32) (fm_kept : Nat → Int32) (fm_tape : Nat → Int32) (fm_verdict : Nat → Int32) (fm_row : Nat → Int32) (fm_official : Nat → Int32) (fm_aside : Nat → Int32) (fm_worth : Nat → Int32) (fm_out : Nat → Int32) (p1 : Int32) (p2 : Int32) (gmi_0 : gi (mi 0) 0 24) (gmi_1 : gi (mi 1) 0 5) (gmi_2 : gi (mi 2) 0 5) (gmi_4 : gi (mi 4) 0 1) (gmi_7 : gi (mi 7) 0 6) (gmi_10 : gi (mi 10) 0 24) (gmi_17 : gi (mi 17) 0 8) (gmi_23 : gi (mi 23) 0 300) (gmi_24 : gi (mi 24) 0 1) (gmi_26 : gi (mi 26) 0 1600) (gmi_29 : gi (mi 29) 0 1600) (gmi_30 : gi (mi 30) 0 1600) (gmi_33 : gi (mi 33) 0 1) (gmi_37 : gi (mi 37) 0 1) (gmi_41 : gi (mi 41) 0 24) (gmi_50 : gi (mi 50) 0 1) (gmi_51 : gi (mi 51) 0 1) (gmi_56 : gi (mi 56) 0 80) (gp1 : gi p1 0 24) : Met l yX12_spanOf (.code yX12_spanOf cX12_spanOf 5 (some .int) :: wsGB) ({ frames := 5, cells := 0, slots := 0, locals := 123 }) (va_Pc [.ref h0, .int p1, .int p2] (fun U => U.heap.size = sz ∧ va_P (dC, dI) vwCl (MWn h0 mr km (mi 0) (mi 1) (mi 2) (mi 3) (mi 4) (mi 5) (mi 6) (mi 7) (mi 10) (mi 17) (mi 23) (mi 24) (mi 26) (mi 27) (mi 28) (mi 29) (mi 30) (mi 31) (mi 32) (mi 33) (mi 37) (mi 41) (mi 42) (mi 43) (mi 44) (mi 45) (mi 47) (mi 48) (mi 49) (mi 50) (mi 51) (mi 54) (mi 56) fm_trust fm_letter fm_reportPlace fm_reportKind fm_struck fm_reportMonth fm_reportDay fm_reportKnown fm_deedMonth fm_deedDay fm_deedLong fm_deedKind fm_kept fm_tape fm_must fm_least fm_pin fm_ways fm_verdict fm_row fm_official fm_aside fm_worth fm_out) U.heap ∧ va_K (dC, dI) vwCl (MT km) U ∧ va_D (fun _ => True) (MWn h0 mr km (mi 0) (mi 1) (mi 2) (mi 3) (mi 4) (mi 5) (mi 6) (mi 7) (mi 10) (mi 17) (mi 23) (mi 24) (mi 26) (mi 27) (mi 28) (mi 29) (mi 30) (mi 31) (mi 32) (mi 33) (mi 37) (mi 41) (mi 42) (mi 43) (mi 44) (mi 45) (mi 47) (mi 48) (mi 49) (mi 50) (mi 51) (mi 54) (mi 56) fm_trust fm_letter fm_reportPlace fm_reportKind fm_struck fm_reportMonth fm_reportDay fm_reportKnown fm_deedMonth fm_deedDay fm_deedLong fm_deedKind fm_kept fm_tape fm_must fm_least fm_pin fm_ways fm_verdict fm_row fm_official fm_aside fm_worth fm_out))) (va_Qi (fun (r : Int32) (u : Unit) => gi r (-2) 720) (fun _ t => ∃ (z3 : Nat → Int32) (z4 : Nat → Int32), pb_sX12_spanOf dC dI (va_A (MWn h0 mr km (mi 0) (mi 1) (mi 2) (mi 3) (mi 4) (mi 5) (mi 6) (mi 7) (mi 10) (mi 17) (mi 23) (mi 24) (mi 26) (mi 27) (mi 28) (mi 29) (mi 30) (mi 31) (mi 32) (mi 33) (mi 37) (mi 41) (mi 42) (mi 43) (mi 44) (mi 45) (mi 47) (mi 48) (mi 49) (mi 50) (mi 51) (mi 54) (mi 56) fm_trust fm_letter fm_reportPlace fm_reportKind fm_struck fm_reportMonth fm_reportDay fm_reportKnown fm_deedMonth fm_deedDay fm_deedLong fm_deedKind fm_kept fm_tape fm_must fm_least fm_pin fm_ways fm_verdict fm_row fm_official fm_aside fm_worth fm_out) sz) h0 mi mr km fm_must fm_least fm_pin fm_ways fm_trust fm_letter fm_reportPlace fm_reportKind fm_struck fm_reportMonth fm_reportDay fm_reportKnown fm_deedMonth fm_deedDay fm_deedLong fm_deedKind fm_kept fm_tape fm_verdict fm_row fm_official fm_aside fm_worth fm_out p1 p2 z3 z4 t) (va_A (MWn h0 mr km (mi 0) (mi 1) (mi 2) (mi 3) (mi 4) (mi 5) (mi 6) (mi 7) (mi 10) (mi 17) (mi 23) (mi 24) (mi 26) (mi 27) (mi 28) (mi 29) (mi 30) (mi 31) (mi 32) (mi 33) (mi 37) (mi 41) (mi 42) (mi 43) (mi 44) (mi 45) (mi 47) (mi 48) (mi 49) (mi 50) (mi 51) (mi 54) (mi 56) fm_trust fm_letter fm_reportPlace fm_reportKind fm_struck fm_reportMonth fm_reportDay fm_reportKnown fm_deedMonth fm_deedDay fm_deedLong fm_deedKind fm_kept fm_tape fm_must fm_least fm_pin fm_ways fm_verdict fm_row fm_official fm_aside fm_worth fm_out) sz)) 0 0 (va_A (MWn h0 mr km (mi 0) (mi 1) (mi 2) (mi 3) (mi 4) (mi 5) (mi 6) (mi 7) (mi 10) (mi 17) (mi 23) (mi 24) (mi 26) (mi 27) (mi 28) (mi 29) (mi 30) (mi 31) (mi 32) (mi 33) (mi 37) (mi 41) (mi 42) (mi 43) (mi 44) (mi 45) (mi 47) (mi 48) (mi 49) (mi 50) (mi 51) (mi 54) (mi 56) fm_trust fm_letter fm_reportPlace fm_reportKind fm_struck fm_reportMonth fm_reportDay fm_reportKnown fm_deedMonth fm_deedDay fm_deedLong fm_deedKind fm_kept fm_tape fm_must fm_least fm_pin fm_ways fm_verdict fm_row fm_official fm_aside fm_worth fm_out) sz) := by
  refine Met.ofW (cc := cX12_spanOf) (maxL := 5) (ret := (some .int)) (by decide) rfl ?_
  intro p e s m args below meth c s₁ B hml hv
  obtain ⟨rfl, hsz, hP, hK, hD0⟩ := hv
  have hx := B.exec
  have hb := B.bytes
  have hr := B.returns
  have hts := atoms_spec (ws := (.code yX12_spanOf cX12_spanOf 5 (some .int) :: wsGB)) B.pre
  have hown : s.vm.findClass RX12 = some m.cls := findClass_of_methodNamed B.named
  have hlocks := B.notSynchronized
  subst hsz
  have hD := hD0.self (sz := s.heap.size)
  generalize hAe : va_A (MWn h0 mr km (mi 0) (mi 1) (mi 2) (mi 3) (mi 4) (mi 5) (mi 6) (mi 7) (mi 10) (mi 17) (mi 23) (mi 24) (mi 26) (mi 27) (mi 28) (mi 29) (mi 30) (mi 31) (mi 32) (mi 33) (mi 37) (mi 41) (mi 42) (mi 43) (mi 44) (mi 45) (mi 47) (mi 48) (mi 49) (mi 50) (mi 51) (mi 54) (mi 56) fm_trust fm_letter fm_reportPlace fm_reportKind fm_struck fm_reportMonth fm_reportDay fm_reportKnown fm_deedMonth fm_deedDay fm_deedLong fm_deedKind fm_kept fm_tape fm_must fm_least fm_pin fm_ways fm_verdict fm_row fm_official fm_aside fm_worth fm_out) s.heap.size = A at hD ⊢
  have hA : ∀ q : Nat, s.heap.size ≤ q → A q := fun q h => by rw [← hAe]; exact Or.inr h
  have hS : va_S A s.heap s.heap [] := va_S.rf
  have hl := lv_entry ([.ref h0, .int p1, .int p2]) (n := 5) (Nat.le_of_ble_eq_true rfl)
  rw [lg_entry_eq]
  generalize (lg_sl ([.ref h0, .int p1, .int p2]) ++ List.replicate (5 - (lg_sl ([.ref h0, .int p1, .int p2])).length) Slot.unset).toArray = ls at hl ⊢
  have hl : lv_has ls 5 [(0, .ref h0), (1, .int p1), (2, .int p2)] := hl
  refine lv_iconst (v := 0) hx hb dX12_spanOf_0 (by decide) ?_
  refine lv_istore_n (lv' := [(3, .int 0), (0, .ref h0), (1, .int p1), (2, .int p2)]) hx hb dX12_spanOf_1 rfl hl (by decide) rfl (fun ls hl => ?_)
  refine (lp_sX12_spanOf h0 mi mr km fm_must fm_least fm_pin fm_ways fm_trust fm_letter fm_reportPlace fm_reportKind fm_struck fm_reportMonth fm_reportDay fm_reportKnown fm_deedMonth fm_deedDay fm_deedLong fm_deedKind fm_kept fm_tape fm_verdict fm_row fm_official fm_aside fm_worth fm_out p1 p2 gmi_0 gmi_1 gmi_2 gmi_4 gmi_7 gmi_10 gmi_17 gmi_23 gmi_24 gmi_26 gmi_29 gmi_30 gmi_33 gmi_37 gmi_41 gmi_50 gmi_51 gmi_56 gp1 hx hb hml hown hts hK hA (Nat.le_of_ble_eq_true rfl) (Nat.le_of_ble_eq_true rfl) (Nat.zero_le _) (Nat.zero_le _) (fun v z3 z4 H locs ls gv hP hD hS hl => ?_) (fun v z3 z4 H locs ls gv hP hD hS hl => ?_) 64) 0 fm_pin fm_ways _ _ _ (gi_w (gi_c 0 0 (by decide)) (by decide)) (by have k0 : (0 : Int32).toInt = 0 := (by decide); omega) hP hD hS (lv_sub hl [1, 2, 3, 0] rfl)
  · skip
    exact W.iret (v := v) hx hb hr (fun t ht hW => ⟨⟨v, (), rfl, (gi_w gv (by decide)), z3, z4, by rw [ht]; exact hP, hD⟩, hS.F ht⟩) hS.2.2 dX12_spanOf_46
  · skip
    exact W.iret (v := v) hx hb hr (fun t ht hW => ⟨⟨v, (), rfl, (gi_w gv (by decide)), z3, z4, by rw [ht]; exact hP, hD⟩, hS.F ht⟩) hS.2.2 dX12_spanOf_37
