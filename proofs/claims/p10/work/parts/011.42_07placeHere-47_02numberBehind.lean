noncomputable def lsX12_placeHere : List (Nat × Instr × Nat) := [(0, .aload_n 0, 1), (1, .getfield 174, 3), (4, .ifCond .ne 16, 3), (7, .aload_n 0, 1), (8, .getfield 164, 3), (11, .iconst 1, 1), (12, .if_icmp .eq 8, 3), (15, .aload_n 0, 1), (16, .iconst 1, 1), (17, .invokevirtual 194, 3), (20, .aload_n 0, 1), (21, .getfield 174, 3), (24, .ifCond .eq 7, 3), (27, .iconst 0, 1), (28, .goto 7, 3), (31, .aload_n 0, 1), (32, .invokevirtual 216, 3), (35, .istore_n 1, 1), (36, .iload_n 1, 1), (37, .iconst (-1), 1), (38, .if_icmp .ne 8, 3), (41, .aload_n 0, 1), (42, .iconst 2, 1), (43, .invokevirtual 194, 3), (46, .aload_n 0, 1), (47, .iconst 1, 1), (48, .invokevirtual 205, 3), (51, .iconst 0, 1), (52, .iload_n 1, 1), (53, .invokestatic 219, 3), (56, .ireturn, 1)]
theorem dkX12_placeHere : dkAll cX12_placeHere lsX12_placeHere = true := by decide +kernel
noncomputable def bfX12_placeHere_46 (mi : Nat → Int32) (fm_tape : Nat → Int32) (fm_letter : Nat → Int32) (v1 : Int32) (w0_27 : Int32) (w0_28 : Int32) (w0_29 : Int32) (w0_30 : Int32) (w0_31 : Int32) (w0_32 : Int32) (w0_33 : Int32) : Int32 × Int32 × Int32 × Int32 × Int32 × Int32 × Int32 × Int32 := cal (fun o4 => ((if (0 : Int32) < v1 then v1 else (0 : Int32)), o4.1, o4.2.1, o4.2.2.1, o4.2.2.2.1, o4.2.2.2.2.1, o4.2.2.2.2.2.1, o4.2.2.2.2.2.2)) (fX12_passes (upd (upd (upd (upd (upd (upd (upd mi 27 w0_27) 28 w0_28) 29 w0_29) 30 w0_30) 31 w0_31) 32 w0_32) 33 w0_33) fm_tape (1 : Int32))
noncomputable def bfX12_placeHere_35 (mi : Nat → Int32) (fm_tape : Nat → Int32) (fm_letter : Nat → Int32) (s0 : Int32) (w0_27 : Int32) (w0_28 : Int32) (w0_29 : Int32) (w0_30 : Int32) (w0_31 : Int32) (w0_32 : Int32) (w0_33 : Int32) : Int32 × Int32 × Int32 × Int32 × Int32 × Int32 × Int32 × Int32 := if s0 = (-1 : Int32) then (cal (fun o3 => bfX12_placeHere_46 mi fm_tape fm_letter s0 o3.1 o3.2.1 w0_29 w0_30 w0_31 w0_32 o3.2.2) (fX12_faults (upd (upd (upd (upd (upd (upd (upd mi 27 w0_27) 28 w0_28) 29 w0_29) 30 w0_30) 31 w0_31) 32 w0_32) 33 w0_33) (2 : Int32))) else (bfX12_placeHere_46 mi fm_tape fm_letter s0 w0_27 w0_28 w0_29 w0_30 w0_31 w0_32 w0_33)
noncomputable def bfX12_placeHere_20 (mi : Nat → Int32) (fm_tape : Nat → Int32) (fm_letter : Nat → Int32) (w0_27 : Int32) (w0_28 : Int32) (w0_29 : Int32) (w0_30 : Int32) (w0_31 : Int32) (w0_32 : Int32) (w0_33 : Int32) : Int32 × Int32 × Int32 × Int32 × Int32 × Int32 × Int32 × Int32 := if w0_33 = (0 : Int32) then (cal (fun o2 => bfX12_placeHere_35 mi fm_tape fm_letter o2 w0_27 w0_28 w0_29 w0_30 w0_31 w0_32 w0_33) (fX12_named (upd (upd (upd (upd (upd (upd (upd mi 27 w0_27) 28 w0_28) 29 w0_29) 30 w0_30) 31 w0_31) 32 w0_32) 33 w0_33) fm_tape fm_letter)) else (bfX12_placeHere_35 mi fm_tape fm_letter (0 : Int32) w0_27 w0_28 w0_29 w0_30 w0_31 w0_32 w0_33)
noncomputable def fX12_placeHere (mi : Nat → Int32) (fm_tape : Nat → Int32) (fm_letter : Nat → Int32) : Int32 × Int32 × Int32 × Int32 × Int32 × Int32 × Int32 × Int32 := if (mi 33) = (0 : Int32) then (if (mi 31) = (1 : Int32) then (bfX12_placeHere_20 mi fm_tape fm_letter (mi 27) (mi 28) (mi 29) (mi 30) (mi 31) (mi 32) (mi 33)) else (cal (fun o1 => bfX12_placeHere_20 mi fm_tape fm_letter o1.1 o1.2.1 (mi 29) (mi 30) (mi 31) (mi 32) o1.2.2) (fX12_faults mi (1 : Int32)))) else (bfX12_placeHere_20 mi fm_tape fm_letter (mi 27) (mi 28) (mi 29) (mi 30) (mi 31) (mi 32) (mi 33))
abbrev pb_sX12_placeHereP (dC : Nat → ClassId) (dI : Nat → Nat → Nat) (A9 : Nat → Prop) (h0 : Nat) (mi : Nat → Int32) (mr : Nat → Nat) (km : Nat → ClassId) (fm_tape : Nat → Int32) (fm_letter : Nat → Int32) (fm_trust : Nat → Int32) (fm_reportPlace : Nat → Int32) (fm_reportKind : Nat → Int32) (fm_struck : Nat → Int32) (fm_reportMonth : Nat → Int32) (fm_reportDay : Nat → Int32) (fm_reportKnown : Nat → Int32) (fm_deedMonth : Nat → Int32) (fm_deedDay : Nat → Int32) (fm_deedLong : Nat → Int32) (fm_deedKind : Nat → Int32) (fm_kept : Nat → Int32) (fm_must : Nat → Int32) (fm_least : Nat → Int32) (fm_pin : Nat → Int32) (fm_ways : Nat → Int32) (fm_verdict : Nat → Int32) (fm_row : Nat → Int32) (fm_official : Nat → Int32) (fm_aside : Nat → Int32) (fm_worth : Nat → Int32) (fm_out : Nat → Int32) (r : Int32) (w0_27 : Int32) (w0_28 : Int32) (w0_29 : Int32) (w0_30 : Int32) (w0_31 : Int32) (w0_32 : Int32) (w0_33 : Int32) (t : State) : Prop := gi w0_29 0 1600 ∧ gi w0_30 0 1600 ∧ gi w0_32 0 100000 ∧ gi w0_33 0 1 ∧ (mi 30).toInt ≤ w0_30.toInt ∧ w0_30.toInt ≤ w0_29.toInt ∧ w0_29.toInt ≤ (mi 26).toInt ∧ (w0_31.toInt = 0 ∨ w0_30.toInt < w0_29.toInt) ∧ (mi 33).toInt ≤ w0_33.toInt ∧ (r, w0_27, w0_28, w0_29, w0_30, w0_31, w0_32, w0_33) = fX12_placeHere mi fm_tape fm_letter ∧ va_P (dC, dI) vwCl (MWn h0 mr km (mi 0) (mi 1) (mi 2) (mi 3) (mi 4) (mi 5) (mi 6) (mi 7) (mi 10) (mi 17) (mi 23) (mi 24) (mi 26) w0_27 w0_28 w0_29 w0_30 w0_31 w0_32 w0_33 (mi 37) (mi 41) (mi 42) (mi 43) (mi 44) (mi 45) (mi 47) (mi 48) (mi 49) (mi 50) (mi 51) (mi 54) (mi 56) fm_trust fm_letter fm_reportPlace fm_reportKind fm_struck fm_reportMonth fm_reportDay fm_reportKnown fm_deedMonth fm_deedDay fm_deedLong fm_deedKind fm_kept fm_tape fm_must fm_least fm_pin fm_ways fm_verdict fm_row fm_official fm_aside fm_worth fm_out) t.heap ∧ va_D A9 (MWn h0 mr km (mi 0) (mi 1) (mi 2) (mi 3) (mi 4) (mi 5) (mi 6) (mi 7) (mi 10) (mi 17) (mi 23) (mi 24) (mi 26) w0_27 w0_28 w0_29 w0_30 w0_31 w0_32 w0_33 (mi 37) (mi 41) (mi 42) (mi 43) (mi 44) (mi 45) (mi 47) (mi 48) (mi 49) (mi 50) (mi 51) (mi 54) (mi 56) fm_trust fm_letter fm_reportPlace fm_reportKind fm_struck fm_reportMonth fm_reportDay fm_reportKnown fm_deedMonth fm_deedDay fm_deedLong fm_deedKind fm_kept fm_tape fm_must fm_least fm_pin fm_ways fm_verdict fm_row fm_official fm_aside fm_worth fm_out)
set_option maxHeartbeats 4000000 in
set_option maxRecDepth 100000 in
theorem sX12_placeHereP (l : Launch) (dC : Nat → ClassId) (dI : Nat → Nat → Nat) (sz : Nat) (h0 : Nat) (mi : Nat → Int32) (mr : Nat → Nat) (km : Nat → ClassId) (fm_tape : Nat → Int32) (fm_letter : Nat → Int32) (fm_trust : Nat → Int32) (fm_reportPlace : Nat → Int32) (fm_reportKind : Nat → Int32) (fm_struck : Nat → Int32) (fm_reportMonth : Nat → Int32) (fm_reportDay : Nat → Int32) (fm_reportKnown : Nat → Int32) (fm_deedMonth : Nat → Int32) (fm_deedDay : Nat → Int32) (fm_deedLong : Nat → Int32) (fm_deedKind : Nat → Int32) (fm_kept : Nat → Int32) (fm_must : Nat → Int32) (fm_least : Nat → Int32) (fm_pin : Nat → Int32) (fm_ways : Nat → Int32) (fm_verdict : Nat → Int32) (fm_row : Nat → Int32) (fm_official : Nat → Int32) (fm_aside : Nat → Int32) (fm_worth : Nat → Int32) (fm_out : Nat → Int32) (gmi_0 : gi (mi 0) 0 100000) (gmi_1 : gi (mi 1) 0 100000) (gmi_2 : gi (mi 2) 0 100000) (gmi_4 : gi (mi 4) 0 1) (gmi_7 : gi (mi 7) 0 6) (gmi_10 : gi (mi 10) 0 24) (gmi_17 : gi (mi 17) 0 8) (gmi_23 : gi (mi 23) 0 300) (gmi_24 : gi (mi 24) 0 1) (gmi_26 : gi (mi 26) 0 1600) (gmi_29 : gi (mi 29) 0 1600) (gmi_30 : gi (mi 30) 0 1600) (gmi_32 : gi (mi 32) 0 100000) (gmi_33 : gi (mi 33) 0 1) (gmi_37 : gi (mi 37) 0 1) (gmi_41 : gi (mi 41) 0 24) (gmi_50 : gi (mi 50) 0 1) (gmi_51 : gi (mi 51) 0 1) (gmi_56 : gi (mi 56) 0 80) (hpq0 : (mi 30).toInt ≤ (mi 29).toInt) (hpq1 : (mi 29).toInt ≤ (mi 26).toInt) (hpq2 : ((mi 31).toInt = 0 ∨ (mi 30).toInt < (mi 29).toInt)) : Met l yX12_placeHere (.code yX12_placeHere cX12_placeHere 2 (some .int) :: wsGB) ({ frames := 4, cells := 0, slots := 0, locals := 88 }) (va_Pc [.ref h0] (fun U => U.heap.size = sz ∧ va_P (dC, dI) vwCl (MWn h0 mr km (mi 0) (mi 1) (mi 2) (mi 3) (mi 4) (mi 5) (mi 6) (mi 7) (mi 10) (mi 17) (mi 23) (mi 24) (mi 26) (mi 27) (mi 28) (mi 29) (mi 30) (mi 31) (mi 32) (mi 33) (mi 37) (mi 41) (mi 42) (mi 43) (mi 44) (mi 45) (mi 47) (mi 48) (mi 49) (mi 50) (mi 51) (mi 54) (mi 56) fm_trust fm_letter fm_reportPlace fm_reportKind fm_struck fm_reportMonth fm_reportDay fm_reportKnown fm_deedMonth fm_deedDay fm_deedLong fm_deedKind fm_kept fm_tape fm_must fm_least fm_pin fm_ways fm_verdict fm_row fm_official fm_aside fm_worth fm_out) U.heap ∧ va_K (dC, dI) vwCl (MT km) U ∧ va_D (fun _ => True) (MWn h0 mr km (mi 0) (mi 1) (mi 2) (mi 3) (mi 4) (mi 5) (mi 6) (mi 7) (mi 10) (mi 17) (mi 23) (mi 24) (mi 26) (mi 27) (mi 28) (mi 29) (mi 30) (mi 31) (mi 32) (mi 33) (mi 37) (mi 41) (mi 42) (mi 43) (mi 44) (mi 45) (mi 47) (mi 48) (mi 49) (mi 50) (mi 51) (mi 54) (mi 56) fm_trust fm_letter fm_reportPlace fm_reportKind fm_struck fm_reportMonth fm_reportDay fm_reportKnown fm_deedMonth fm_deedDay fm_deedLong fm_deedKind fm_kept fm_tape fm_must fm_least fm_pin fm_ways fm_verdict fm_row fm_official fm_aside fm_worth fm_out))) (va_Qi (fun (r : Int32) (u : Int32) => r = u ∧ gi r 0 5) (fun r t => ∃ (w0_27 : Int32) (w0_28 : Int32) (w0_29 : Int32) (w0_30 : Int32) (w0_31 : Int32) (w0_32 : Int32) (w0_33 : Int32), pb_sX12_placeHereP dC dI (va_A (MWn h0 mr km (mi 0) (mi 1) (mi 2) (mi 3) (mi 4) (mi 5) (mi 6) (mi 7) (mi 10) (mi 17) (mi 23) (mi 24) (mi 26) (mi 27) (mi 28) (mi 29) (mi 30) (mi 31) (mi 32) (mi 33) (mi 37) (mi 41) (mi 42) (mi 43) (mi 44) (mi 45) (mi 47) (mi 48) (mi 49) (mi 50) (mi 51) (mi 54) (mi 56) fm_trust fm_letter fm_reportPlace fm_reportKind fm_struck fm_reportMonth fm_reportDay fm_reportKnown fm_deedMonth fm_deedDay fm_deedLong fm_deedKind fm_kept fm_tape fm_must fm_least fm_pin fm_ways fm_verdict fm_row fm_official fm_aside fm_worth fm_out) sz) h0 mi mr km fm_tape fm_letter fm_trust fm_reportPlace fm_reportKind fm_struck fm_reportMonth fm_reportDay fm_reportKnown fm_deedMonth fm_deedDay fm_deedLong fm_deedKind fm_kept fm_must fm_least fm_pin fm_ways fm_verdict fm_row fm_official fm_aside fm_worth fm_out r w0_27 w0_28 w0_29 w0_30 w0_31 w0_32 w0_33 t) (va_A (MWn h0 mr km (mi 0) (mi 1) (mi 2) (mi 3) (mi 4) (mi 5) (mi 6) (mi 7) (mi 10) (mi 17) (mi 23) (mi 24) (mi 26) (mi 27) (mi 28) (mi 29) (mi 30) (mi 31) (mi 32) (mi 33) (mi 37) (mi 41) (mi 42) (mi 43) (mi 44) (mi 45) (mi 47) (mi 48) (mi 49) (mi 50) (mi 51) (mi 54) (mi 56) fm_trust fm_letter fm_reportPlace fm_reportKind fm_struck fm_reportMonth fm_reportDay fm_reportKnown fm_deedMonth fm_deedDay fm_deedLong fm_deedKind fm_kept fm_tape fm_must fm_least fm_pin fm_ways fm_verdict fm_row fm_official fm_aside fm_worth fm_out) sz)) 0 0 (va_A (MWn h0 mr km (mi 0) (mi 1) (mi 2) (mi 3) (mi 4) (mi 5) (mi 6) (mi 7) (mi 10) (mi 17) (mi 23) (mi 24) (mi 26) (mi 27) (mi 28) (mi 29) (mi 30) (mi 31) (mi 32) (mi 33) (mi 37) (mi 41) (mi 42) (mi 43) (mi 44) (mi 45) (mi 47) (mi 48) (mi 49) (mi 50) (mi 51) (mi 54) (mi 56) fm_trust fm_letter fm_reportPlace fm_reportKind fm_struck fm_reportMonth fm_reportDay fm_reportKnown fm_deedMonth fm_deedDay fm_deedLong fm_deedKind fm_kept fm_tape fm_must fm_least fm_pin fm_ways fm_verdict fm_row fm_official fm_aside fm_worth fm_out) sz) := by
  refine Met.ofW (cc := cX12_placeHere) (maxL := 2) (ret := (some .int)) (by decide) rfl ?_
  intro p e s m args below meth c s₁ B hml hv
  obtain ⟨rfl, hsz, hP, hK, hD0⟩ := hv
  have hx := B.exec
  have hb := B.bytes
  have hr := B.returns
  have hts := atoms_spec (ws := (.code yX12_placeHere cX12_placeHere 2 (some .int) :: wsGB)) B.pre
  have hown : s.vm.findClass RX12 = some m.cls := findClass_of_methodNamed B.named
  have hlocks := B.notSynchronized
  subst hsz
  have hD := hD0.self (sz := s.heap.size)
  generalize hAe : va_A (MWn h0 mr km (mi 0) (mi 1) (mi 2) (mi 3) (mi 4) (mi 5) (mi 6) (mi 7) (mi 10) (mi 17) (mi 23) (mi 24) (mi 26) (mi 27) (mi 28) (mi 29) (mi 30) (mi 31) (mi 32) (mi 33) (mi 37) (mi 41) (mi 42) (mi 43) (mi 44) (mi 45) (mi 47) (mi 48) (mi 49) (mi 50) (mi 51) (mi 54) (mi 56) fm_trust fm_letter fm_reportPlace fm_reportKind fm_struck fm_reportMonth fm_reportDay fm_reportKnown fm_deedMonth fm_deedDay fm_deedLong fm_deedKind fm_kept fm_tape fm_must fm_least fm_pin fm_ways fm_verdict fm_row fm_official fm_aside fm_worth fm_out) s.heap.size = A at hD ⊢
  have hA : ∀ q : Nat, s.heap.size ≤ q → A q := fun q h => by rw [← hAe]; exact Or.inr h
  have hS : va_S A s.heap s.heap [] := va_S.rf
  have hl := lv_entry ([.ref h0]) (n := 2) (Nat.le_of_ble_eq_true rfl)
  rw [lg_entry_eq]
  generalize (lg_sl ([.ref h0]) ++ List.replicate (2 - (lg_sl ([.ref h0])).length) Slot.unset).toArray = ls at hl ⊢
  have hl : lv_has ls 2 [(0, .ref h0)] := hl
  obtain ⟨RES, hF⟩ : ∃ R9, fX12_placeHere mi fm_tape fm_letter = R9 := ⟨_, rfl⟩
  have hR9 := hF
  refine lv_aload_n hx hb (dk_at dkX12_placeHere 0 rfl) rfl (lv_at hl 0 rfl) ?_
  refine va_get (D := (dC, dI)) (ci := 12) (v := .int (mi 33)) (C := RX12) (T := TX12) (N := 57) hx hb hts (fun w h => List.mem_cons_of_mem _ (jnGB_X12 w h)) hown hK hP 0 rfl rfl 33 (by decide) (hts _ (List.mem_cons_of_mem _ mGB_114)) (fun _ h9 => h9) rfl (dk_at dkX12_placeHere 1 rfl) ?_
  refine lv_if_ne (tgt := 20) hx hb (dk_at dkX12_placeHere 2 rfl) (by decide) (fun c_139 => ?_) (fun c_139 => ?_)
  · have hF := gf_neg c_139 hF
    have hc_140 : (mi 33).toInt ≠ 0 := fun h9 => c_139 (Int32.toInt_inj.mp (by rw [show (0 : Int32).toInt = 0 from by decide]; exact h9))
    have g_141 : gi (mi 33) 1 1 := gi_ne_lo c_139 gmi_33 (gi_c 0 0 (by decide)) (by decide)
    refine lv_aload_n hx hb (dk_at dkX12_placeHere 10 rfl) rfl (lv_at hl 0 rfl) ?_
    refine va_get (D := (dC, dI)) (ci := 12) (v := .int (mi 33)) (C := RX12) (T := TX12) (N := 57) hx hb hts (fun w h => List.mem_cons_of_mem _ (jnGB_X12 w h)) hown hK hP 0 rfl rfl 33 (by decide) (hts _ (List.mem_cons_of_mem _ mGB_114)) (fun _ h9 => h9) rfl (dk_at dkX12_placeHere 11 rfl) ?_
    refine lv_if_eq (tgt := 31) hx hb (dk_at dkX12_placeHere 12 rfl) (by decide) (fun c_142 => absurd c_142 (gi_no_eq g_141 (gi_c 0 0 (by decide)) (by decide))) (fun c_142 => ?_)
    have hF := gf_neg c_142 hF
    refine lv_iconst (v := 0) hx hb (dk_at dkX12_placeHere 13 rfl) (by decide) ?_
    refine lv_goto (tgt := 35) hx hb (dk_at dkX12_placeHere 14 rfl) (by decide) ?_
    refine lv_istore_n (lv' := [(1, .int 0), (0, .ref h0)]) hx hb (dk_at dkX12_placeHere 17 rfl) rfl hl (by decide) rfl (fun ls hl => ?_)
    refine lv_iload_n hx hb (dk_at dkX12_placeHere 18 rfl) rfl (lv_at hl 0 rfl) ?_
    refine lv_iconst (v := (-1)) hx hb (dk_at dkX12_placeHere 19 rfl) (by decide) ?_
    refine lv_icmp_ne (tgt := 46) hx hb (dk_at dkX12_placeHere 20 rfl) (by decide) (fun c_143 => ?_) (fun c_143 => absurd c_143 (gi_no_eq (gi_c 0 0 (by decide)) (gi_c (-1) (-1) (by decide)) (by decide)))
    first | have hF := gf_neg c_143 hF | skip
    refine lv_aload_n hx hb (dk_at dkX12_placeHere 24 rfl) rfl (lv_at hl 1 rfl) ?_
    refine lv_iconst (v := 1) hx hb (dk_at dkX12_placeHere 25 rfl) (by decide) ?_
    have hFc := gz_fullF hD hS hA
    refine va_callv (va_runV (As := [.int 1]) (rest := []) ⟨hx, hb, hml, hown, hts⟩ (sX12_passesP l dC dI s.heap.size h0 mi mr km fm_tape fm_trust fm_letter fm_reportPlace fm_reportKind fm_struck fm_reportMonth fm_reportDay fm_reportKnown fm_deedMonth fm_deedDay fm_deedLong fm_deedKind fm_kept fm_must fm_least fm_pin fm_ways fm_verdict fm_row fm_official fm_aside fm_worth fm_out 1 gmi_0 gmi_1 gmi_2 gmi_4 gmi_7 gmi_10 gmi_17 gmi_23 gmi_24 gmi_26 gmi_29 gmi_30 gmi_32 (gi_w g_141 (by decide)) gmi_37 gmi_41 gmi_50 gmi_51 gmi_56 (gi_w (gi_c 1 1 (by decide)) (by decide)) hpq0 hpq1 (show ((mi 31).toInt = 0 ∨ (mi 30).toInt < (mi 29).toInt) from by have qgmi_30 := gmi_30.1; have rgmi_30 := gmi_30.2; have qgmi_29 := gmi_29.1; have rgmi_29 := gmi_29.2; have qgmi_26 := gmi_26.1; have rgmi_26 := gmi_26.2; omega)) (cwV 1 hts (gz_gV mGB_161 mGB_162 mGB_163 mGB_1 mGB_164 goodGB) rfl rfl rfl (by decide +kernel) ⟨Nat.le_of_ble_eq_true rfl, Nat.le_of_ble_eq_true rfl⟩) ⟨bl_W, mw_recv hK hP, fun U hU hW => ⟨rfl, by rw [hU], by rw [hU]; exact hP, va_K.moved hW.alike hK, hD.weaken (fun _ _ _ _ => trivial)⟩⟩ rfl rfl hl.1 rfl (lv_room (Nat.le_of_ble_eq_true rfl)) (dk_at dkX12_placeHere 26 rfl) ⟨Nat.zero_le _, Nat.zero_le _⟩) hS (fun q _ h => hFc q h) hFc (fun u t H1 locs ht hvm hw hB hz1 hk1 hS => ?_)
    clear hz1
    obtain ⟨y_145, y_146, y_147, y_148, y_149, y_150, y_151, hB⟩ := hB
    obtain ⟨gy_147, gy_148, gy_150, gy_151, hpr0_r_144, hpr1_r_144, hpr2_r_144, hpr3_r_144, hpr4_r_144, hpr5_r_144, hpr6_r_144, hE, hP1, hD1⟩ := hB
    rw [ht] at hP1
    have hpr0_r_144 : Hid ((mi 30).toInt ≤ y_148.toInt) := hpr0_r_144
    have hpr1_r_144 : Hid (y_148.toInt ≤ y_147.toInt) := hpr1_r_144
    have hpr2_r_144 : Hid (y_147.toInt ≤ (mi 26).toInt) := hpr2_r_144
    have hpr3_r_144 : Hid ((y_149.toInt = 0 ∨ y_148.toInt < y_147.toInt)) := hpr3_r_144
    have hpr4_r_144 : Hid ((mi 33).toInt ≤ y_151.toInt) := hpr4_r_144
    have g_152 : gi y_151 1 1 := gi_relL (Hid.un hpr4_r_144) g_141 gy_151
    have hpr5_r_144 : Hid (((1 : Int) = 1 ∨ y_151.toInt = 1)) := by have h9 : ((1 : Int32).toInt = 1 ∨ y_151.toInt = 1) := hpr5_r_144; rw [show (1 : Int32).toInt = 1 from by decide] at h9; exact h9
    have hpr6_r_144 : Hid ((y_151.toInt = 1 ∨ (mi 29).toInt ≤ y_148.toInt)) := hpr6_r_144
    have hD : va_D A (MWn h0 mr km (mi 0) (mi 1) (mi 2) (mi 3) (mi 4) (mi 5) (mi 6) (mi 7) (mi 10) (mi 17) (mi 23) (mi 24) (mi 26) y_145 y_146 y_147 y_148 y_149 y_150 y_151 (mi 37) (mi 41) (mi 42) (mi 43) (mi 44) (mi 45) (mi 47) (mi 48) (mi 49) (mi 50) (mi 51) (mi 54) (mi 56) fm_trust fm_letter fm_reportPlace fm_reportKind fm_struck fm_reportMonth fm_reportDay fm_reportKnown fm_deedMonth fm_deedDay fm_deedLong fm_deedKind fm_kept fm_tape fm_must fm_least fm_pin fm_ways fm_verdict fm_row fm_official fm_aside fm_worth fm_out) := gz_fullD hFc hD1
    have hP : va_P (dC, dI) vwCl (MWn h0 mr km (mi 0) (mi 1) (mi 2) (mi 3) (mi 4) (mi 5) (mi 6) (mi 7) (mi 10) (mi 17) (mi 23) (mi 24) (mi 26) y_145 y_146 y_147 y_148 y_149 y_150 y_151 (mi 37) (mi 41) (mi 42) (mi 43) (mi 44) (mi 45) (mi 47) (mi 48) (mi 49) (mi 50) (mi 51) (mi 54) (mi 56) fm_trust fm_letter fm_reportPlace fm_reportKind fm_struck fm_reportMonth fm_reportDay fm_reportKnown fm_deedMonth fm_deedDay fm_deedLong fm_deedKind fm_kept fm_tape fm_must fm_least fm_pin fm_ways fm_verdict fm_row fm_official fm_aside fm_worth fm_out) H1 := hP1
    have hF := gf_callm (a := (y_145, y_146, y_147, y_148, y_149, y_150, y_151)) hE hF (by first | with_reducible rfl | simp only [upd_same, upd_app, ↓reduceIte, Nat.reduceEqDiff])
    generalize H1 = H at hP hS ⊢
    refine lv_iconst (v := 0) hx hb (dk_at dkX12_placeHere 27 rfl) (by decide) ?_
    refine lv_iload_n hx hb (dk_at dkX12_placeHere 28 rfl) rfl (lv_at hl 0 rfl) ?_
    refine va_mmax (own := RX12) hx hb (by rw [hml]; exact hl.1.symm) hown (hts _ (List.mem_cons_of_mem _ mGB_202)) (hts _ (List.mem_cons_of_mem _ mGB_203)) (hts _ (List.mem_cons_of_mem _ mGB_98)) (hts _ (List.mem_cons_of_mem _ mGB_204)) (Nat.le_of_ble_eq_true rfl) (Nat.le_of_ble_eq_true rfl) (Nat.zero_le _) (Nat.zero_le _) (dk_at dkX12_placeHere 29 rfl) ?_
    refine lv_topi (fun x_153 ex_153 => ?_)
    have gx_153 : gi x_153 0 0 := gi_max ex_153 (gi_c 0 0 (by decide)) (gi_c 0 0 (by decide)) (by decide)
    exact W.iret (v := x_153) hx hb hr (fun t ht hW => ⟨⟨x_153, x_153, rfl, ⟨rfl, (gi_w gx_153 (by decide))⟩, y_145, y_146, y_147, y_148, y_149, y_150, y_151, gy_147, gy_148, gy_150, (gi_w g_152 (by decide)), (Hid.un hpr0_r_144), (Hid.un hpr1_r_144), (Hid.un hpr2_r_144), (Hid.un hpr3_r_144), (Hid.un hpr4_r_144), by rw [ex_153]; exact hF.trans hR9.symm, by rw [ht]; exact hP, hD⟩, hS.F ht⟩) hS.2.2 (dk_at dkX12_placeHere 30 rfl)
  · have hF := gf_pos c_139 hF
    have hc_154 : (mi 33).toInt = 0 := by have h9 := congrArg Int32.toInt c_139; rw [show (0 : Int32).toInt = 0 from by decide] at h9; exact h9
    have g_155 : gi (mi 33) 0 0 := gi_eq c_139 (gi_c 0 0 (by decide))
    refine lv_aload_n hx hb (dk_at dkX12_placeHere 3 rfl) rfl (lv_at hl 0 rfl) ?_
    refine va_get (D := (dC, dI)) (ci := 12) (v := .int (mi 31)) (C := RX12) (T := TX12) (N := 57) hx hb hts (fun w h => List.mem_cons_of_mem _ (jnGB_X12 w h)) hown hK hP 0 rfl rfl 31 (by decide) (hts _ (List.mem_cons_of_mem _ mGB_116)) (fun _ h9 => h9) rfl (dk_at dkX12_placeHere 4 rfl) ?_
    refine lv_iconst (v := 1) hx hb (dk_at dkX12_placeHere 5 rfl) (by decide) ?_
    refine lv_icmp_eq (tgt := 20) hx hb (dk_at dkX12_placeHere 6 rfl) (by decide) (fun c_156 => ?_) (fun c_156 => ?_)
    · have hF := gf_pos c_156 hF
      have hc_157 : (mi 31).toInt = 1 := by have h9 := congrArg Int32.toInt c_156; rw [show (1 : Int32).toInt = 1 from by decide] at h9; exact h9
      have g_158 : gi (mi 31) 1 1 := gi_eq c_156 (gi_c 1 1 (by decide))
      refine lv_aload_n hx hb (dk_at dkX12_placeHere 10 rfl) rfl (lv_at hl 0 rfl) ?_
      refine va_get (D := (dC, dI)) (ci := 12) (v := .int (mi 33)) (C := RX12) (T := TX12) (N := 57) hx hb hts (fun w h => List.mem_cons_of_mem _ (jnGB_X12 w h)) hown hK hP 0 rfl rfl 33 (by decide) (hts _ (List.mem_cons_of_mem _ mGB_114)) (fun _ h9 => h9) rfl (dk_at dkX12_placeHere 11 rfl) ?_
      refine lv_if_eq (tgt := 31) hx hb (dk_at dkX12_placeHere 12 rfl) (by decide) (fun c_159 => ?_) (fun c_159 => absurd (gi_is_eq g_155 (gi_c 0 0 (by decide))) c_159)
      have hF := gf_pos c_159 hF
      refine lv_aload_n hx hb (dk_at dkX12_placeHere 15 rfl) rfl (lv_at hl 0 rfl) ?_
      refine va_calli (va_runV (As := []) (rest := []) ⟨hx, hb, hml, hown, hts⟩ (sX12_namedP l dC dI h0 mi mr km fm_tape fm_letter fm_trust fm_reportPlace fm_reportKind fm_struck fm_reportMonth fm_reportDay fm_reportKnown fm_deedMonth fm_deedDay fm_deedLong fm_deedKind fm_kept fm_must fm_least fm_pin fm_ways fm_verdict fm_row fm_official fm_aside fm_worth fm_out gmi_0 gmi_1 gmi_2 gmi_4 gmi_7 gmi_10 gmi_17 gmi_23 gmi_24 gmi_26 gmi_29 gmi_30 gmi_32 (gi_w g_155 (by decide)) gmi_37 gmi_41 gmi_50 gmi_51 gmi_56 hpq0 hpq1 (show ((mi 31).toInt = 0 ∨ (mi 30).toInt < (mi 29).toInt) from by have qgmi_31 := g_158.1; have rgmi_31 := g_158.2; have qgmi_30 := gmi_30.1; have rgmi_30 := gmi_30.2; have qgmi_29 := gmi_29.1; have rgmi_29 := gmi_29.2; have qgmi_26 := gmi_26.1; have rgmi_26 := gmi_26.2; omega)) (cwV 0 hts (gz_gV mGB_190 mGB_191 mGB_192 mGB_1 mGB_193 goodGB) rfl rfl rfl (by decide +kernel) ⟨Nat.le_of_ble_eq_true rfl, Nat.le_of_ble_eq_true rfl⟩) ⟨bl_R, mw_recv hK hP, fun U hU hW => ⟨rfl, by rw [hU]; exact hP, va_K.moved hW.alike hK⟩⟩ rfl rfl hl.1 rfl (lv_room (Nat.le_of_ble_eq_true rfl)) (dk_at dkX12_placeHere 16 rfl) ⟨Nat.zero_le _, Nat.zero_le _⟩) hS (fun q _ h => h.elim) (fun q h => h.elim) (fun r_160 u t H1 locs ht hvm hw hB hz1 hk1 hS => ?_)
      clear hz1
      obtain ⟨hw, hE⟩ := hw
      have hP := gz_keep hP hk1
      have hF := gf_callm (a := r_160) hE hF (by first | with_reducible rfl | simp only [upd_same, upd_app, ↓reduceIte, Nat.reduceEqDiff])
      generalize H1 = H at hP hS ⊢
      have gr_160 : gi r_160 (-1) 5 := hw
      refine lv_istore_n (lv' := [(1, .int r_160), (0, .ref h0)]) hx hb (dk_at dkX12_placeHere 17 rfl) rfl hl (by decide) rfl (fun ls hl => ?_)
      refine lv_iload_n hx hb (dk_at dkX12_placeHere 18 rfl) rfl (lv_at hl 0 rfl) ?_
      refine lv_iconst (v := (-1)) hx hb (dk_at dkX12_placeHere 19 rfl) (by decide) ?_
      refine lv_icmp_ne (tgt := 46) hx hb (dk_at dkX12_placeHere 20 rfl) (by decide) (fun c_161 => ?_) (fun c_161 => ?_)
      · have hF := gf_neg c_161 hF
        have hc_162 : r_160.toInt ≠ (-1) := fun h9 => c_161 (Int32.toInt_inj.mp (by rw [show ((-1) : Int32).toInt = (-1) from by decide]; exact h9))
        have g_163 : gi r_160 0 5 := gi_ne_lo c_161 gr_160 (gi_c (-1) (-1) (by decide)) (by decide)
        refine lv_aload_n hx hb (dk_at dkX12_placeHere 24 rfl) rfl (lv_at hl 1 rfl) ?_
        refine lv_iconst (v := 1) hx hb (dk_at dkX12_placeHere 25 rfl) (by decide) ?_
        have hFc := gz_fullF hD hS hA
        refine va_callv (va_runV (As := [.int 1]) (rest := []) ⟨hx, hb, hml, hown, hts⟩ (sX12_passesP l dC dI H.size h0 mi mr km fm_tape fm_trust fm_letter fm_reportPlace fm_reportKind fm_struck fm_reportMonth fm_reportDay fm_reportKnown fm_deedMonth fm_deedDay fm_deedLong fm_deedKind fm_kept fm_must fm_least fm_pin fm_ways fm_verdict fm_row fm_official fm_aside fm_worth fm_out 1 gmi_0 gmi_1 gmi_2 gmi_4 gmi_7 gmi_10 gmi_17 gmi_23 gmi_24 gmi_26 gmi_29 gmi_30 gmi_32 (gi_w g_155 (by decide)) gmi_37 gmi_41 gmi_50 gmi_51 gmi_56 (gi_w (gi_c 1 1 (by decide)) (by decide)) hpq0 hpq1 (show ((mi 31).toInt = 0 ∨ (mi 30).toInt < (mi 29).toInt) from by have qgmi_31 := g_158.1; have rgmi_31 := g_158.2; have qgmi_30 := gmi_30.1; have rgmi_30 := gmi_30.2; have qgmi_29 := gmi_29.1; have rgmi_29 := gmi_29.2; have qgmi_26 := gmi_26.1; have rgmi_26 := gmi_26.2; omega)) (cwV 1 hts (gz_gV mGB_161 mGB_162 mGB_163 mGB_1 mGB_164 goodGB) rfl rfl rfl (by decide +kernel) ⟨Nat.le_of_ble_eq_true rfl, Nat.le_of_ble_eq_true rfl⟩) ⟨bl_W, mw_recv hK hP, fun U hU hW => ⟨rfl, by rw [hU], by rw [hU]; exact hP, va_K.moved hW.alike hK, hD.weaken (fun _ _ _ _ => trivial)⟩⟩ rfl rfl hl.1 rfl (lv_room (Nat.le_of_ble_eq_true rfl)) (dk_at dkX12_placeHere 26 rfl) ⟨Nat.zero_le _, Nat.zero_le _⟩) hS (fun q _ h => hFc q h) hFc (fun u t H1 locs ht hvm hw hB hz1 hk1 hS => ?_)
        clear hz1
        obtain ⟨y_165, y_166, y_167, y_168, y_169, y_170, y_171, hB⟩ := hB
        obtain ⟨gy_167, gy_168, gy_170, gy_171, hpr0_r_164, hpr1_r_164, hpr2_r_164, hpr3_r_164, hpr4_r_164, hpr5_r_164, hpr6_r_164, hE, hP1, hD1⟩ := hB
        rw [ht] at hP1
        have hpr0_r_164 : Hid ((mi 30).toInt ≤ y_168.toInt) := hpr0_r_164
        have hpr1_r_164 : Hid (y_168.toInt ≤ y_167.toInt) := hpr1_r_164
        have hpr2_r_164 : Hid (y_167.toInt ≤ (mi 26).toInt) := hpr2_r_164
        have hpr3_r_164 : Hid ((y_169.toInt = 0 ∨ y_168.toInt < y_167.toInt)) := hpr3_r_164
        have hpr4_r_164 : Hid ((mi 33).toInt ≤ y_171.toInt) := hpr4_r_164
        have hpr5_r_164 : Hid (((1 : Int) = 1 ∨ y_171.toInt = 1)) := by have h9 : ((1 : Int32).toInt = 1 ∨ y_171.toInt = 1) := hpr5_r_164; rw [show (1 : Int32).toInt = 1 from by decide] at h9; exact h9
        have hpr6_r_164 : Hid ((y_171.toInt = 1 ∨ (mi 29).toInt ≤ y_168.toInt)) := hpr6_r_164
        have hD : va_D A (MWn h0 mr km (mi 0) (mi 1) (mi 2) (mi 3) (mi 4) (mi 5) (mi 6) (mi 7) (mi 10) (mi 17) (mi 23) (mi 24) (mi 26) y_165 y_166 y_167 y_168 y_169 y_170 y_171 (mi 37) (mi 41) (mi 42) (mi 43) (mi 44) (mi 45) (mi 47) (mi 48) (mi 49) (mi 50) (mi 51) (mi 54) (mi 56) fm_trust fm_letter fm_reportPlace fm_reportKind fm_struck fm_reportMonth fm_reportDay fm_reportKnown fm_deedMonth fm_deedDay fm_deedLong fm_deedKind fm_kept fm_tape fm_must fm_least fm_pin fm_ways fm_verdict fm_row fm_official fm_aside fm_worth fm_out) := gz_fullD hFc hD1
        have hP : va_P (dC, dI) vwCl (MWn h0 mr km (mi 0) (mi 1) (mi 2) (mi 3) (mi 4) (mi 5) (mi 6) (mi 7) (mi 10) (mi 17) (mi 23) (mi 24) (mi 26) y_165 y_166 y_167 y_168 y_169 y_170 y_171 (mi 37) (mi 41) (mi 42) (mi 43) (mi 44) (mi 45) (mi 47) (mi 48) (mi 49) (mi 50) (mi 51) (mi 54) (mi 56) fm_trust fm_letter fm_reportPlace fm_reportKind fm_struck fm_reportMonth fm_reportDay fm_reportKnown fm_deedMonth fm_deedDay fm_deedLong fm_deedKind fm_kept fm_tape fm_must fm_least fm_pin fm_ways fm_verdict fm_row fm_official fm_aside fm_worth fm_out) H1 := hP1
        have hF := gf_callm (a := (y_165, y_166, y_167, y_168, y_169, y_170, y_171)) hE hF (by first | with_reducible rfl | simp only [upd_same, upd_app, ↓reduceIte, Nat.reduceEqDiff])
        generalize H1 = H at hP hS ⊢
        refine lv_iconst (v := 0) hx hb (dk_at dkX12_placeHere 27 rfl) (by decide) ?_
        refine lv_iload_n hx hb (dk_at dkX12_placeHere 28 rfl) rfl (lv_at hl 0 rfl) ?_
        refine va_mmax (own := RX12) hx hb (by rw [hml]; exact hl.1.symm) hown (hts _ (List.mem_cons_of_mem _ mGB_202)) (hts _ (List.mem_cons_of_mem _ mGB_203)) (hts _ (List.mem_cons_of_mem _ mGB_98)) (hts _ (List.mem_cons_of_mem _ mGB_204)) (Nat.le_of_ble_eq_true rfl) (Nat.le_of_ble_eq_true rfl) (Nat.zero_le _) (Nat.zero_le _) (dk_at dkX12_placeHere 29 rfl) ?_
        refine lv_topi (fun x_172 ex_172 => ?_)
        have gx_172 : gi x_172 0 5 := gi_max ex_172 (gi_c 0 0 (by decide)) g_163 (by decide)
        exact W.iret (v := x_172) hx hb hr (fun t ht hW => ⟨⟨x_172, x_172, rfl, ⟨rfl, gx_172⟩, y_165, y_166, y_167, y_168, y_169, y_170, y_171, gy_167, gy_168, gy_170, gy_171, (Hid.un hpr0_r_164), (Hid.un hpr1_r_164), (Hid.un hpr2_r_164), (Hid.un hpr3_r_164), (Hid.un hpr4_r_164), by rw [ex_172]; exact hF.trans hR9.symm, by rw [ht]; exact hP, hD⟩, hS.F ht⟩) hS.2.2 (dk_at dkX12_placeHere 30 rfl)
      · have hF := gf_pos c_161 hF
        have hc_173 : r_160.toInt = (-1) := by have h9 := congrArg Int32.toInt c_161; rw [show ((-1) : Int32).toInt = (-1) from by decide] at h9; exact h9
        have g_174 : gi r_160 (-1) (-1) := gi_eq c_161 (gi_c (-1) (-1) (by decide))
        refine lv_aload_n hx hb (dk_at dkX12_placeHere 21 rfl) rfl (lv_at hl 1 rfl) ?_
        refine lv_iconst (v := 2) hx hb (dk_at dkX12_placeHere 22 rfl) (by decide) ?_
        have hFc := gz_fullF hD hS hA
        refine va_callv (va_runV (As := [.int 2]) (rest := []) ⟨hx, hb, hml, hown, hts⟩ (sX12_faultsP l dC dI H.size h0 mi mr km fm_trust fm_letter fm_reportPlace fm_reportKind fm_struck fm_reportMonth fm_reportDay fm_reportKnown fm_deedMonth fm_deedDay fm_deedLong fm_deedKind fm_kept fm_tape fm_must fm_least fm_pin fm_ways fm_verdict fm_row fm_official fm_aside fm_worth fm_out 2 gmi_0 gmi_1 gmi_2 gmi_4 gmi_7 gmi_10 gmi_17 gmi_23 gmi_24 gmi_26 gmi_29 gmi_30 gmi_32 (gi_w g_155 (by decide)) gmi_37 gmi_41 gmi_50 gmi_51 gmi_56) (cwV 1 hts (gz_gV mGB_165 mGB_166 mGB_167 mGB_1 mGB_168 goodGB) rfl rfl rfl (by decide +kernel) ⟨Nat.le_of_ble_eq_true rfl, Nat.le_of_ble_eq_true rfl⟩) ⟨bl_W, mw_recv hK hP, fun U hU hW => ⟨rfl, by rw [hU], by rw [hU]; exact hP, va_K.moved hW.alike hK, hD.weaken (fun _ _ _ _ => trivial)⟩⟩ rfl rfl hl.1 rfl (lv_room (Nat.le_of_ble_eq_true rfl)) (dk_at dkX12_placeHere 23 rfl) ⟨Nat.zero_le _, Nat.zero_le _⟩) hS (fun q _ h => hFc q h) hFc (fun u t H1 locs ht hvm hw hB hz1 hk1 hS => ?_)
        clear hz1
        obtain ⟨y_176, y_177, y_178, hB⟩ := hB
        obtain ⟨gy_178, hpr0_r_175, hE, hP1, hD1⟩ := hB
        rw [ht] at hP1
        have hpr0_r_175 : Hid (y_178.toInt = 1) := hpr0_r_175
        have g_179 : gi y_178 1 1 := ⟨by have h8 := Hid.un hpr0_r_175; omega, by have h8 := Hid.un hpr0_r_175; omega⟩
        have hD : va_D A (MWn h0 mr km (mi 0) (mi 1) (mi 2) (mi 3) (mi 4) (mi 5) (mi 6) (mi 7) (mi 10) (mi 17) (mi 23) (mi 24) (mi 26) y_176 y_177 (mi 29) (mi 30) (mi 31) (mi 32) y_178 (mi 37) (mi 41) (mi 42) (mi 43) (mi 44) (mi 45) (mi 47) (mi 48) (mi 49) (mi 50) (mi 51) (mi 54) (mi 56) fm_trust fm_letter fm_reportPlace fm_reportKind fm_struck fm_reportMonth fm_reportDay fm_reportKnown fm_deedMonth fm_deedDay fm_deedLong fm_deedKind fm_kept fm_tape fm_must fm_least fm_pin fm_ways fm_verdict fm_row fm_official fm_aside fm_worth fm_out) := gz_fullD hFc hD1
        have hP : va_P (dC, dI) vwCl (MWn h0 mr km (mi 0) (mi 1) (mi 2) (mi 3) (mi 4) (mi 5) (mi 6) (mi 7) (mi 10) (mi 17) (mi 23) (mi 24) (mi 26) y_176 y_177 (mi 29) (mi 30) (mi 31) (mi 32) y_178 (mi 37) (mi 41) (mi 42) (mi 43) (mi 44) (mi 45) (mi 47) (mi 48) (mi 49) (mi 50) (mi 51) (mi 54) (mi 56) fm_trust fm_letter fm_reportPlace fm_reportKind fm_struck fm_reportMonth fm_reportDay fm_reportKnown fm_deedMonth fm_deedDay fm_deedLong fm_deedKind fm_kept fm_tape fm_must fm_least fm_pin fm_ways fm_verdict fm_row fm_official fm_aside fm_worth fm_out) H1 := hP1
        have hF := gf_callm (a := (y_176, y_177, y_178)) hE hF (by first | with_reducible rfl | simp only [upd_same, upd_app, ↓reduceIte, Nat.reduceEqDiff])
        generalize H1 = H at hP hS ⊢
        refine lv_aload_n hx hb (dk_at dkX12_placeHere 24 rfl) rfl (lv_at hl 1 rfl) ?_
        refine lv_iconst (v := 1) hx hb (dk_at dkX12_placeHere 25 rfl) (by decide) ?_
        have hFc := gz_fullF hD hS hA
        refine va_callv (va_runV (As := [.int 1]) (rest := []) ⟨hx, hb, hml, hown, hts⟩ (sX12_passesP l dC dI H.size h0 (upd (upd (upd mi 27 y_176) 28 y_177) 33 y_178) mr km fm_tape fm_trust fm_letter fm_reportPlace fm_reportKind fm_struck fm_reportMonth fm_reportDay fm_reportKnown fm_deedMonth fm_deedDay fm_deedLong fm_deedKind fm_kept fm_must fm_least fm_pin fm_ways fm_verdict fm_row fm_official fm_aside fm_worth fm_out 1 gmi_0 gmi_1 gmi_2 gmi_4 gmi_7 gmi_10 gmi_17 gmi_23 gmi_24 gmi_26 gmi_29 gmi_30 gmi_32 (gi_w g_179 (by decide)) gmi_37 gmi_41 gmi_50 gmi_51 gmi_56 (gi_w (gi_c 1 1 (by decide)) (by decide)) hpq0 hpq1 (show ((mi 31).toInt = 0 ∨ (mi 30).toInt < (mi 29).toInt) from by have qgmi_31 := g_158.1; have rgmi_31 := g_158.2; have qgmi_30 := gmi_30.1; have rgmi_30 := gmi_30.2; have qgmi_29 := gmi_29.1; have rgmi_29 := gmi_29.2; have qgmi_26 := gmi_26.1; have rgmi_26 := gmi_26.2; omega)) (cwV 1 hts (gz_gV mGB_161 mGB_162 mGB_163 mGB_1 mGB_164 goodGB) rfl rfl rfl (by decide +kernel) ⟨Nat.le_of_ble_eq_true rfl, Nat.le_of_ble_eq_true rfl⟩) ⟨bl_W, mw_recv hK hP, fun U hU hW => ⟨rfl, by rw [hU], by rw [hU]; exact hP, va_K.moved hW.alike hK, hD.weaken (fun _ _ _ _ => trivial)⟩⟩ rfl rfl hl.1 rfl (lv_room (Nat.le_of_ble_eq_true rfl)) (dk_at dkX12_placeHere 26 rfl) ⟨Nat.zero_le _, Nat.zero_le _⟩) hS (fun q _ h => hFc q h) hFc (fun u t H1 locs ht hvm hw hB hz1 hk1 hS => ?_)
        clear hz1
        obtain ⟨y_181, y_182, y_183, y_184, y_185, y_186, y_187, hB⟩ := hB
        obtain ⟨gy_183, gy_184, gy_186, gy_187, hpr0_r_180, hpr1_r_180, hpr2_r_180, hpr3_r_180, hpr4_r_180, hpr5_r_180, hpr6_r_180, hE, hP1, hD1⟩ := hB
        rw [ht] at hP1
        have hpr0_r_180 : Hid ((mi 30).toInt ≤ y_184.toInt) := hpr0_r_180
        have hpr1_r_180 : Hid (y_184.toInt ≤ y_183.toInt) := hpr1_r_180
        have hpr2_r_180 : Hid (y_183.toInt ≤ (mi 26).toInt) := hpr2_r_180
        have hpr3_r_180 : Hid ((y_185.toInt = 0 ∨ y_184.toInt < y_183.toInt)) := hpr3_r_180
        have hpr4_r_180 : Hid (y_178.toInt ≤ y_187.toInt) := hpr4_r_180
        have g_188 : gi y_187 1 1 := gi_relL (Hid.un hpr4_r_180) g_179 gy_187
        have hpr5_r_180 : Hid (((1 : Int) = 1 ∨ y_187.toInt = 1)) := by have h9 : ((1 : Int32).toInt = 1 ∨ y_187.toInt = 1) := hpr5_r_180; rw [show (1 : Int32).toInt = 1 from by decide] at h9; exact h9
        have hpr6_r_180 : Hid ((y_187.toInt = 1 ∨ (mi 29).toInt ≤ y_184.toInt)) := hpr6_r_180
        have hD : va_D A (MWn h0 mr km (mi 0) (mi 1) (mi 2) (mi 3) (mi 4) (mi 5) (mi 6) (mi 7) (mi 10) (mi 17) (mi 23) (mi 24) (mi 26) y_181 y_182 y_183 y_184 y_185 y_186 y_187 (mi 37) (mi 41) (mi 42) (mi 43) (mi 44) (mi 45) (mi 47) (mi 48) (mi 49) (mi 50) (mi 51) (mi 54) (mi 56) fm_trust fm_letter fm_reportPlace fm_reportKind fm_struck fm_reportMonth fm_reportDay fm_reportKnown fm_deedMonth fm_deedDay fm_deedLong fm_deedKind fm_kept fm_tape fm_must fm_least fm_pin fm_ways fm_verdict fm_row fm_official fm_aside fm_worth fm_out) := gz_fullD hFc hD1
        have hP : va_P (dC, dI) vwCl (MWn h0 mr km (mi 0) (mi 1) (mi 2) (mi 3) (mi 4) (mi 5) (mi 6) (mi 7) (mi 10) (mi 17) (mi 23) (mi 24) (mi 26) y_181 y_182 y_183 y_184 y_185 y_186 y_187 (mi 37) (mi 41) (mi 42) (mi 43) (mi 44) (mi 45) (mi 47) (mi 48) (mi 49) (mi 50) (mi 51) (mi 54) (mi 56) fm_trust fm_letter fm_reportPlace fm_reportKind fm_struck fm_reportMonth fm_reportDay fm_reportKnown fm_deedMonth fm_deedDay fm_deedLong fm_deedKind fm_kept fm_tape fm_must fm_least fm_pin fm_ways fm_verdict fm_row fm_official fm_aside fm_worth fm_out) H1 := hP1
        have hF := gf_callm (a := (y_181, y_182, y_183, y_184, y_185, y_186, y_187)) hE hF (by first | with_reducible rfl | simp only [upd_same, upd_app, ↓reduceIte, Nat.reduceEqDiff])
        generalize H1 = H at hP hS ⊢
        refine lv_iconst (v := 0) hx hb (dk_at dkX12_placeHere 27 rfl) (by decide) ?_
        refine lv_iload_n hx hb (dk_at dkX12_placeHere 28 rfl) rfl (lv_at hl 0 rfl) ?_
        refine va_mmax (own := RX12) hx hb (by rw [hml]; exact hl.1.symm) hown (hts _ (List.mem_cons_of_mem _ mGB_202)) (hts _ (List.mem_cons_of_mem _ mGB_203)) (hts _ (List.mem_cons_of_mem _ mGB_98)) (hts _ (List.mem_cons_of_mem _ mGB_204)) (Nat.le_of_ble_eq_true rfl) (Nat.le_of_ble_eq_true rfl) (Nat.zero_le _) (Nat.zero_le _) (dk_at dkX12_placeHere 29 rfl) ?_
        refine lv_topi (fun x_189 ex_189 => ?_)
        have gx_189 : gi x_189 0 0 := gi_max ex_189 (gi_c 0 0 (by decide)) g_174 (by decide)
        exact W.iret (v := x_189) hx hb hr (fun t ht hW => ⟨⟨x_189, x_189, rfl, ⟨rfl, (gi_w gx_189 (by decide))⟩, y_181, y_182, y_183, y_184, y_185, y_186, y_187, gy_183, gy_184, gy_186, (gi_w g_188 (by decide)), (Hid.un hpr0_r_180), (Hid.un hpr1_r_180), (Hid.un hpr2_r_180), (Hid.un hpr3_r_180), (show (mi 33).toInt ≤ y_187.toInt from by have qgy_187 := g_188.1; have rgy_187 := g_188.2; have qgy_178 := g_179.1; have rgy_178 := g_179.2; have qgmi_33 := g_155.1; have rgmi_33 := g_155.2; have zhpr0_r_175 := Hid.un hpr0_r_175; have zhpr4_r_180 := Hid.un hpr4_r_180; omega), by rw [ex_189]; exact hF.trans hR9.symm, by rw [ht]; exact hP, hD⟩, hS.F ht⟩) hS.2.2 (dk_at dkX12_placeHere 30 rfl)
    · have hF := gf_neg c_156 hF
      have hc_190 : (mi 31).toInt ≠ 1 := fun h9 => c_156 (Int32.toInt_inj.mp (by rw [show (1 : Int32).toInt = 1 from by decide]; exact h9))
      refine lv_aload_n hx hb (dk_at dkX12_placeHere 7 rfl) rfl (lv_at hl 0 rfl) ?_
      refine lv_iconst (v := 1) hx hb (dk_at dkX12_placeHere 8 rfl) (by decide) ?_
      have hFc := gz_fullF hD hS hA
      refine va_callv (va_runV (As := [.int 1]) (rest := []) ⟨hx, hb, hml, hown, hts⟩ (sX12_faultsP l dC dI s.heap.size h0 mi mr km fm_trust fm_letter fm_reportPlace fm_reportKind fm_struck fm_reportMonth fm_reportDay fm_reportKnown fm_deedMonth fm_deedDay fm_deedLong fm_deedKind fm_kept fm_tape fm_must fm_least fm_pin fm_ways fm_verdict fm_row fm_official fm_aside fm_worth fm_out 1 gmi_0 gmi_1 gmi_2 gmi_4 gmi_7 gmi_10 gmi_17 gmi_23 gmi_24 gmi_26 gmi_29 gmi_30 gmi_32 (gi_w g_155 (by decide)) gmi_37 gmi_41 gmi_50 gmi_51 gmi_56) (cwV 1 hts (gz_gV mGB_165 mGB_166 mGB_167 mGB_1 mGB_168 goodGB) rfl rfl rfl (by decide +kernel) ⟨Nat.le_of_ble_eq_true rfl, Nat.le_of_ble_eq_true rfl⟩) ⟨bl_W, mw_recv hK hP, fun U hU hW => ⟨rfl, by rw [hU], by rw [hU]; exact hP, va_K.moved hW.alike hK, hD.weaken (fun _ _ _ _ => trivial)⟩⟩ rfl rfl hl.1 rfl (lv_room (Nat.le_of_ble_eq_true rfl)) (dk_at dkX12_placeHere 9 rfl) ⟨Nat.zero_le _, Nat.zero_le _⟩) hS (fun q _ h => hFc q h) hFc (fun u t H1 locs ht hvm hw hB hz1 hk1 hS => ?_)
      clear hz1
      obtain ⟨y_192, y_193, y_194, hB⟩ := hB
      obtain ⟨gy_194, hpr0_r_191, hE, hP1, hD1⟩ := hB
      rw [ht] at hP1
      have hpr0_r_191 : Hid (y_194.toInt = 1) := hpr0_r_191
      have g_195 : gi y_194 1 1 := ⟨by have h8 := Hid.un hpr0_r_191; omega, by have h8 := Hid.un hpr0_r_191; omega⟩
      have hD : va_D A (MWn h0 mr km (mi 0) (mi 1) (mi 2) (mi 3) (mi 4) (mi 5) (mi 6) (mi 7) (mi 10) (mi 17) (mi 23) (mi 24) (mi 26) y_192 y_193 (mi 29) (mi 30) (mi 31) (mi 32) y_194 (mi 37) (mi 41) (mi 42) (mi 43) (mi 44) (mi 45) (mi 47) (mi 48) (mi 49) (mi 50) (mi 51) (mi 54) (mi 56) fm_trust fm_letter fm_reportPlace fm_reportKind fm_struck fm_reportMonth fm_reportDay fm_reportKnown fm_deedMonth fm_deedDay fm_deedLong fm_deedKind fm_kept fm_tape fm_must fm_least fm_pin fm_ways fm_verdict fm_row fm_official fm_aside fm_worth fm_out) := gz_fullD hFc hD1
      have hP : va_P (dC, dI) vwCl (MWn h0 mr km (mi 0) (mi 1) (mi 2) (mi 3) (mi 4) (mi 5) (mi 6) (mi 7) (mi 10) (mi 17) (mi 23) (mi 24) (mi 26) y_192 y_193 (mi 29) (mi 30) (mi 31) (mi 32) y_194 (mi 37) (mi 41) (mi 42) (mi 43) (mi 44) (mi 45) (mi 47) (mi 48) (mi 49) (mi 50) (mi 51) (mi 54) (mi 56) fm_trust fm_letter fm_reportPlace fm_reportKind fm_struck fm_reportMonth fm_reportDay fm_reportKnown fm_deedMonth fm_deedDay fm_deedLong fm_deedKind fm_kept fm_tape fm_must fm_least fm_pin fm_ways fm_verdict fm_row fm_official fm_aside fm_worth fm_out) H1 := hP1
      have hF := gf_callm (a := (y_192, y_193, y_194)) hE hF (by first | with_reducible rfl | simp only [upd_same, upd_app, ↓reduceIte, Nat.reduceEqDiff])
      generalize H1 = H at hP hS ⊢
      refine lv_aload_n hx hb (dk_at dkX12_placeHere 10 rfl) rfl (lv_at hl 0 rfl) ?_
      refine va_get (D := (dC, dI)) (ci := 12) (v := .int y_194) (C := RX12) (T := TX12) (N := 57) hx hb hts (fun w h => List.mem_cons_of_mem _ (jnGB_X12 w h)) hown hK hP 0 rfl rfl 33 (by decide) (hts _ (List.mem_cons_of_mem _ mGB_114)) (fun _ h9 => h9) rfl (dk_at dkX12_placeHere 11 rfl) ?_
      refine lv_if_eq (tgt := 31) hx hb (dk_at dkX12_placeHere 12 rfl) (by decide) (fun c_196 => absurd c_196 (gi_no_eq g_195 (gi_c 0 0 (by decide)) (by decide))) (fun c_196 => ?_)
      have hF := gf_neg c_196 hF
      refine lv_iconst (v := 0) hx hb (dk_at dkX12_placeHere 13 rfl) (by decide) ?_
      refine lv_goto (tgt := 35) hx hb (dk_at dkX12_placeHere 14 rfl) (by decide) ?_
      refine lv_istore_n (lv' := [(1, .int 0), (0, .ref h0)]) hx hb (dk_at dkX12_placeHere 17 rfl) rfl hl (by decide) rfl (fun ls hl => ?_)
      refine lv_iload_n hx hb (dk_at dkX12_placeHere 18 rfl) rfl (lv_at hl 0 rfl) ?_
      refine lv_iconst (v := (-1)) hx hb (dk_at dkX12_placeHere 19 rfl) (by decide) ?_
      refine lv_icmp_ne (tgt := 46) hx hb (dk_at dkX12_placeHere 20 rfl) (by decide) (fun c_197 => ?_) (fun c_197 => absurd c_197 (gi_no_eq (gi_c 0 0 (by decide)) (gi_c (-1) (-1) (by decide)) (by decide)))
      first | have hF := gf_neg c_197 hF | skip
      refine lv_aload_n hx hb (dk_at dkX12_placeHere 24 rfl) rfl (lv_at hl 1 rfl) ?_
      refine lv_iconst (v := 1) hx hb (dk_at dkX12_placeHere 25 rfl) (by decide) ?_
      have hFc := gz_fullF hD hS hA
      refine va_callv (va_runV (As := [.int 1]) (rest := []) ⟨hx, hb, hml, hown, hts⟩ (sX12_passesP l dC dI H.size h0 (upd (upd (upd mi 27 y_192) 28 y_193) 33 y_194) mr km fm_tape fm_trust fm_letter fm_reportPlace fm_reportKind fm_struck fm_reportMonth fm_reportDay fm_reportKnown fm_deedMonth fm_deedDay fm_deedLong fm_deedKind fm_kept fm_must fm_least fm_pin fm_ways fm_verdict fm_row fm_official fm_aside fm_worth fm_out 1 gmi_0 gmi_1 gmi_2 gmi_4 gmi_7 gmi_10 gmi_17 gmi_23 gmi_24 gmi_26 gmi_29 gmi_30 gmi_32 (gi_w g_195 (by decide)) gmi_37 gmi_41 gmi_50 gmi_51 gmi_56 (gi_w (gi_c 1 1 (by decide)) (by decide)) hpq0 hpq1 (show ((mi 31).toInt = 0 ∨ (mi 30).toInt < (mi 29).toInt) from by have qgmi_30 := gmi_30.1; have rgmi_30 := gmi_30.2; have qgmi_29 := gmi_29.1; have rgmi_29 := gmi_29.2; have qgmi_26 := gmi_26.1; have rgmi_26 := gmi_26.2; omega)) (cwV 1 hts (gz_gV mGB_161 mGB_162 mGB_163 mGB_1 mGB_164 goodGB) rfl rfl rfl (by decide +kernel) ⟨Nat.le_of_ble_eq_true rfl, Nat.le_of_ble_eq_true rfl⟩) ⟨bl_W, mw_recv hK hP, fun U hU hW => ⟨rfl, by rw [hU], by rw [hU]; exact hP, va_K.moved hW.alike hK, hD.weaken (fun _ _ _ _ => trivial)⟩⟩ rfl rfl hl.1 rfl (lv_room (Nat.le_of_ble_eq_true rfl)) (dk_at dkX12_placeHere 26 rfl) ⟨Nat.zero_le _, Nat.zero_le _⟩) hS (fun q _ h => hFc q h) hFc (fun u t H1 locs ht hvm hw hB hz1 hk1 hS => ?_)
      clear hz1
      obtain ⟨y_199, y_200, y_201, y_202, y_203, y_204, y_205, hB⟩ := hB
      obtain ⟨gy_201, gy_202, gy_204, gy_205, hpr0_r_198, hpr1_r_198, hpr2_r_198, hpr3_r_198, hpr4_r_198, hpr5_r_198, hpr6_r_198, hE, hP1, hD1⟩ := hB
      rw [ht] at hP1
      have hpr0_r_198 : Hid ((mi 30).toInt ≤ y_202.toInt) := hpr0_r_198
      have hpr1_r_198 : Hid (y_202.toInt ≤ y_201.toInt) := hpr1_r_198
      have hpr2_r_198 : Hid (y_201.toInt ≤ (mi 26).toInt) := hpr2_r_198
      have hpr3_r_198 : Hid ((y_203.toInt = 0 ∨ y_202.toInt < y_201.toInt)) := hpr3_r_198
      have hpr4_r_198 : Hid (y_194.toInt ≤ y_205.toInt) := hpr4_r_198
      have g_206 : gi y_205 1 1 := gi_relL (Hid.un hpr4_r_198) g_195 gy_205
      have hpr5_r_198 : Hid (((1 : Int) = 1 ∨ y_205.toInt = 1)) := by have h9 : ((1 : Int32).toInt = 1 ∨ y_205.toInt = 1) := hpr5_r_198; rw [show (1 : Int32).toInt = 1 from by decide] at h9; exact h9
      have hpr6_r_198 : Hid ((y_205.toInt = 1 ∨ (mi 29).toInt ≤ y_202.toInt)) := hpr6_r_198
      have hD : va_D A (MWn h0 mr km (mi 0) (mi 1) (mi 2) (mi 3) (mi 4) (mi 5) (mi 6) (mi 7) (mi 10) (mi 17) (mi 23) (mi 24) (mi 26) y_199 y_200 y_201 y_202 y_203 y_204 y_205 (mi 37) (mi 41) (mi 42) (mi 43) (mi 44) (mi 45) (mi 47) (mi 48) (mi 49) (mi 50) (mi 51) (mi 54) (mi 56) fm_trust fm_letter fm_reportPlace fm_reportKind fm_struck fm_reportMonth fm_reportDay fm_reportKnown fm_deedMonth fm_deedDay fm_deedLong fm_deedKind fm_kept fm_tape fm_must fm_least fm_pin fm_ways fm_verdict fm_row fm_official fm_aside fm_worth fm_out) := gz_fullD hFc hD1
      have hP : va_P (dC, dI) vwCl (MWn h0 mr km (mi 0) (mi 1) (mi 2) (mi 3) (mi 4) (mi 5) (mi 6) (mi 7) (mi 10) (mi 17) (mi 23) (mi 24) (mi 26) y_199 y_200 y_201 y_202 y_203 y_204 y_205 (mi 37) (mi 41) (mi 42) (mi 43) (mi 44) (mi 45) (mi 47) (mi 48) (mi 49) (mi 50) (mi 51) (mi 54) (mi 56) fm_trust fm_letter fm_reportPlace fm_reportKind fm_struck fm_reportMonth fm_reportDay fm_reportKnown fm_deedMonth fm_deedDay fm_deedLong fm_deedKind fm_kept fm_tape fm_must fm_least fm_pin fm_ways fm_verdict fm_row fm_official fm_aside fm_worth fm_out) H1 := hP1
      have hF := gf_callm (a := (y_199, y_200, y_201, y_202, y_203, y_204, y_205)) hE hF (by first | with_reducible rfl | simp only [upd_same, upd_app, ↓reduceIte, Nat.reduceEqDiff])
      generalize H1 = H at hP hS ⊢
      refine lv_iconst (v := 0) hx hb (dk_at dkX12_placeHere 27 rfl) (by decide) ?_
      refine lv_iload_n hx hb (dk_at dkX12_placeHere 28 rfl) rfl (lv_at hl 0 rfl) ?_
      refine va_mmax (own := RX12) hx hb (by rw [hml]; exact hl.1.symm) hown (hts _ (List.mem_cons_of_mem _ mGB_202)) (hts _ (List.mem_cons_of_mem _ mGB_203)) (hts _ (List.mem_cons_of_mem _ mGB_98)) (hts _ (List.mem_cons_of_mem _ mGB_204)) (Nat.le_of_ble_eq_true rfl) (Nat.le_of_ble_eq_true rfl) (Nat.zero_le _) (Nat.zero_le _) (dk_at dkX12_placeHere 29 rfl) ?_
      refine lv_topi (fun x_207 ex_207 => ?_)
      have gx_207 : gi x_207 0 0 := gi_max ex_207 (gi_c 0 0 (by decide)) (gi_c 0 0 (by decide)) (by decide)
      exact W.iret (v := x_207) hx hb hr (fun t ht hW => ⟨⟨x_207, x_207, rfl, ⟨rfl, (gi_w gx_207 (by decide))⟩, y_199, y_200, y_201, y_202, y_203, y_204, y_205, gy_201, gy_202, gy_204, (gi_w g_206 (by decide)), (Hid.un hpr0_r_198), (Hid.un hpr1_r_198), (Hid.un hpr2_r_198), (Hid.un hpr3_r_198), (show (mi 33).toInt ≤ y_205.toInt from by have qgy_205 := g_206.1; have rgy_205 := g_206.2; have qgy_194 := g_195.1; have rgy_194 := g_195.2; have qgmi_33 := g_155.1; have rgmi_33 := g_155.2; have zhpr0_r_191 := Hid.un hpr0_r_191; have zhpr4_r_198 := Hid.un hpr4_r_198; omega), by rw [ex_207]; exact hF.trans hR9.symm, by rw [ht]; exact hP, hD⟩, hS.F ht⟩) hS.2.2 (dk_at dkX12_placeHere 30 rfl)
abbrev pb_sX12_laysP (dC : Nat → ClassId) (dI : Nat → Nat → Nat) (A9 : Nat → Prop) (h0 : Nat) (mi : Nat → Int32) (mr : Nat → Nat) (km : Nat → ClassId) (fm_reportPlace : Nat → Int32) (fm_reportKind : Nat → Int32) (fm_reportMonth : Nat → Int32) (fm_reportDay : Nat → Int32) (fm_reportKnown : Nat → Int32) (fm_struck : Nat → Int32) (fm_trust : Nat → Int32) (fm_letter : Nat → Int32) (fm_deedMonth : Nat → Int32) (fm_deedDay : Nat → Int32) (fm_deedLong : Nat → Int32) (fm_deedKind : Nat → Int32) (fm_kept : Nat → Int32) (fm_tape : Nat → Int32) (fm_must : Nat → Int32) (fm_least : Nat → Int32) (fm_pin : Nat → Int32) (fm_ways : Nat → Int32) (fm_verdict : Nat → Int32) (fm_row : Nat → Int32) (fm_official : Nat → Int32) (fm_aside : Nat → Int32) (fm_worth : Nat → Int32) (fm_out : Nat → Int32) (p1 : Int32) (p2 : Int32) (p3 : Int32) (p4 : Int32) (p5 : Int32) (w0_10 : Int32) (z1 : Nat → Int32) (z2 : Nat → Int32) (z3 : Nat → Int32) (z4 : Nat → Int32) (z5 : Nat → Int32) (z6 : Nat → Int32) (t : State) : Prop := gi w0_10 0 24 ∧ ga z1 24 0 5 ∧ ga z3 24 0 23 ∧ ga z4 24 0 999 ∧ ga z5 24 0 999 ∧ ga z6 24 0 1 ∧ (w0_10, z1, z2, z3, z4, z5, z6) = fX12_lays mi fm_reportPlace fm_reportKind fm_reportMonth fm_reportDay fm_reportKnown fm_struck p1 p2 p3 p4 p5 ∧ va_P (dC, dI) vwCl (MWn h0 mr km (mi 0) (mi 1) (mi 2) (mi 3) (mi 4) (mi 5) (mi 6) (mi 7) w0_10 (mi 17) (mi 23) (mi 24) (mi 26) (mi 27) (mi 28) (mi 29) (mi 30) (mi 31) (mi 32) (mi 33) (mi 37) (mi 41) (mi 42) (mi 43) (mi 44) (mi 45) (mi 47) (mi 48) (mi 49) (mi 50) (mi 51) (mi 54) (mi 56) fm_trust fm_letter z1 z2 z6 z3 z4 z5 fm_deedMonth fm_deedDay fm_deedLong fm_deedKind fm_kept fm_tape fm_must fm_least fm_pin fm_ways fm_verdict fm_row fm_official fm_aside fm_worth fm_out) t.heap ∧ va_D A9 (MWn h0 mr km (mi 0) (mi 1) (mi 2) (mi 3) (mi 4) (mi 5) (mi 6) (mi 7) w0_10 (mi 17) (mi 23) (mi 24) (mi 26) (mi 27) (mi 28) (mi 29) (mi 30) (mi 31) (mi 32) (mi 33) (mi 37) (mi 41) (mi 42) (mi 43) (mi 44) (mi 45) (mi 47) (mi 48) (mi 49) (mi 50) (mi 51) (mi 54) (mi 56) fm_trust fm_letter z1 z2 z6 z3 z4 z5 fm_deedMonth fm_deedDay fm_deedLong fm_deedKind fm_kept fm_tape fm_must fm_least fm_pin fm_ways fm_verdict fm_row fm_official fm_aside fm_worth fm_out)
set_option maxHeartbeats 4000000 in
set_option maxRecDepth 100000 in
theorem sX12_laysP (l : Launch) (dC : Nat → ClassId) (dI : Nat → Nat → Nat) (sz : Nat) (h0 : Nat) (mi : Nat → Int32) (mr : Nat → Nat) (km : Nat → ClassId) (fm_reportPlace : Nat → Int32) (fm_reportKind : Nat → Int32) (fm_reportMonth : Nat → Int32) (fm_reportDay : Nat → Int32) (fm_reportKnown : Nat → Int32) (fm_struck : Nat → Int32) (fm_trust : Nat → Int32) (fm_letter : Nat → Int32) (fm_deedMonth : Nat → Int32) (fm_deedDay : Nat → Int32) (fm_deedLong : Nat → Int32) (fm_deedKind : Nat → Int32) (fm_kept : Nat → Int32) (fm_tape : Nat → Int32) (fm_must : Nat → Int32) (fm_least : Nat → Int32) (fm_pin : Nat → Int32) (fm_ways : Nat → Int32) (fm_verdict : Nat → Int32) (fm_row : Nat → Int32) (fm_official : Nat → Int32) (fm_aside : Nat → Int32) (fm_worth : Nat → Int32) (fm_out : Nat → Int32) (p1 : Int32) (p2 : Int32) (p3 : Int32) (p4 : Int32) (p5 : Int32) (gmi_0 : gi (mi 0) 0 100000) (gmi_1 : gi (mi 1) 0 100000) (gmi_2 : gi (mi 2) 0 100000) (gmi_4 : gi (mi 4) 0 1) (gmi_7 : gi (mi 7) 0 6) (gmi_10 : gi (mi 10) 0 23) (gmi_17 : gi (mi 17) 0 8) (gmi_23 : gi (mi 23) 0 300) (gmi_24 : gi (mi 24) 0 1) (gmi_26 : gi (mi 26) 0 1600) (gmi_29 : gi (mi 29) 0 1600) (gmi_30 : gi (mi 30) 0 1600) (gmi_32 : gi (mi 32) 0 100000) (gmi_33 : gi (mi 33) 0 1) (gmi_37 : gi (mi 37) 0 1) (gmi_41 : gi (mi 41) 0 24) (gmi_50 : gi (mi 50) 0 1) (gmi_51 : gi (mi 51) 0 1) (gmi_56 : gi (mi 56) 0 80) (gfm_reportPlace : ga fm_reportPlace 24 0 5) (gfm_reportMonth : ga fm_reportMonth 24 0 23) (gfm_reportDay : ga fm_reportDay 24 0 999) (gfm_reportKnown : ga fm_reportKnown 24 0 999) (gfm_struck : ga fm_struck 24 0 1) (gp1 : gi p1 0 5) (gp3 : gi p3 0 23) (gp4 : gi p4 0 999) (gp5 : gi p5 0 999) : Met l yX12_lays (.code yX12_lays cX12_lays 6 none :: wsGB) ({ frames := 0, cells := 0, slots := 0, locals := 0 }) (va_Pc [.ref h0, .int p1, .int p2, .int p3, .int p4, .int p5] (fun U => U.heap.size = sz ∧ va_P (dC, dI) vwCl (MWn h0 mr km (mi 0) (mi 1) (mi 2) (mi 3) (mi 4) (mi 5) (mi 6) (mi 7) (mi 10) (mi 17) (mi 23) (mi 24) (mi 26) (mi 27) (mi 28) (mi 29) (mi 30) (mi 31) (mi 32) (mi 33) (mi 37) (mi 41) (mi 42) (mi 43) (mi 44) (mi 45) (mi 47) (mi 48) (mi 49) (mi 50) (mi 51) (mi 54) (mi 56) fm_trust fm_letter fm_reportPlace fm_reportKind fm_struck fm_reportMonth fm_reportDay fm_reportKnown fm_deedMonth fm_deedDay fm_deedLong fm_deedKind fm_kept fm_tape fm_must fm_least fm_pin fm_ways fm_verdict fm_row fm_official fm_aside fm_worth fm_out) U.heap ∧ va_K (dC, dI) vwCl (MT km) U ∧ va_D (fun _ => True) (MWn h0 mr km (mi 0) (mi 1) (mi 2) (mi 3) (mi 4) (mi 5) (mi 6) (mi 7) (mi 10) (mi 17) (mi 23) (mi 24) (mi 26) (mi 27) (mi 28) (mi 29) (mi 30) (mi 31) (mi 32) (mi 33) (mi 37) (mi 41) (mi 42) (mi 43) (mi 44) (mi 45) (mi 47) (mi 48) (mi 49) (mi 50) (mi 51) (mi 54) (mi 56) fm_trust fm_letter fm_reportPlace fm_reportKind fm_struck fm_reportMonth fm_reportDay fm_reportKnown fm_deedMonth fm_deedDay fm_deedLong fm_deedKind fm_kept fm_tape fm_must fm_least fm_pin fm_ways fm_verdict fm_row fm_official fm_aside fm_worth fm_out))) (va_Qv (fun (u : Unit) => True) (fun _ t => ∃ (w0_10 : Int32) (z1 : Nat → Int32) (z2 : Nat → Int32) (z3 : Nat → Int32) (z4 : Nat → Int32) (z5 : Nat → Int32) (z6 : Nat → Int32), pb_sX12_laysP dC dI (va_A (MWn h0 mr km (mi 0) (mi 1) (mi 2) (mi 3) (mi 4) (mi 5) (mi 6) (mi 7) (mi 10) (mi 17) (mi 23) (mi 24) (mi 26) (mi 27) (mi 28) (mi 29) (mi 30) (mi 31) (mi 32) (mi 33) (mi 37) (mi 41) (mi 42) (mi 43) (mi 44) (mi 45) (mi 47) (mi 48) (mi 49) (mi 50) (mi 51) (mi 54) (mi 56) fm_trust fm_letter fm_reportPlace fm_reportKind fm_struck fm_reportMonth fm_reportDay fm_reportKnown fm_deedMonth fm_deedDay fm_deedLong fm_deedKind fm_kept fm_tape fm_must fm_least fm_pin fm_ways fm_verdict fm_row fm_official fm_aside fm_worth fm_out) sz) h0 mi mr km fm_reportPlace fm_reportKind fm_reportMonth fm_reportDay fm_reportKnown fm_struck fm_trust fm_letter fm_deedMonth fm_deedDay fm_deedLong fm_deedKind fm_kept fm_tape fm_must fm_least fm_pin fm_ways fm_verdict fm_row fm_official fm_aside fm_worth fm_out p1 p2 p3 p4 p5 w0_10 z1 z2 z3 z4 z5 z6 t) (va_A (MWn h0 mr km (mi 0) (mi 1) (mi 2) (mi 3) (mi 4) (mi 5) (mi 6) (mi 7) (mi 10) (mi 17) (mi 23) (mi 24) (mi 26) (mi 27) (mi 28) (mi 29) (mi 30) (mi 31) (mi 32) (mi 33) (mi 37) (mi 41) (mi 42) (mi 43) (mi 44) (mi 45) (mi 47) (mi 48) (mi 49) (mi 50) (mi 51) (mi 54) (mi 56) fm_trust fm_letter fm_reportPlace fm_reportKind fm_struck fm_reportMonth fm_reportDay fm_reportKnown fm_deedMonth fm_deedDay fm_deedLong fm_deedKind fm_kept fm_tape fm_must fm_least fm_pin fm_ways fm_verdict fm_row fm_official fm_aside fm_worth fm_out) sz)) 0 0 (va_A (MWn h0 mr km (mi 0) (mi 1) (mi 2) (mi 3) (mi 4) (mi 5) (mi 6) (mi 7) (mi 10) (mi 17) (mi 23) (mi 24) (mi 26) (mi 27) (mi 28) (mi 29) (mi 30) (mi 31) (mi 32) (mi 33) (mi 37) (mi 41) (mi 42) (mi 43) (mi 44) (mi 45) (mi 47) (mi 48) (mi 49) (mi 50) (mi 51) (mi 54) (mi 56) fm_trust fm_letter fm_reportPlace fm_reportKind fm_struck fm_reportMonth fm_reportDay fm_reportKnown fm_deedMonth fm_deedDay fm_deedLong fm_deedKind fm_kept fm_tape fm_must fm_least fm_pin fm_ways fm_verdict fm_row fm_official fm_aside fm_worth fm_out) sz) := by
  refine Met.ofW (cc := cX12_lays) (maxL := 6) (ret := none) (by decide) rfl ?_
  intro p e s m args below meth c s₁ B hml hv
  obtain ⟨rfl, hsz, hP, hK, hD0⟩ := hv
  have hx := B.exec
  have hb := B.bytes
  have hr := B.returns
  have hts := atoms_spec (ws := (.code yX12_lays cX12_lays 6 none :: wsGB)) B.pre
  have hown : s.vm.findClass RX12 = some m.cls := findClass_of_methodNamed B.named
  have hlocks := B.notSynchronized
  subst hsz
  have hD := hD0.self (sz := s.heap.size)
  generalize hAe : va_A (MWn h0 mr km (mi 0) (mi 1) (mi 2) (mi 3) (mi 4) (mi 5) (mi 6) (mi 7) (mi 10) (mi 17) (mi 23) (mi 24) (mi 26) (mi 27) (mi 28) (mi 29) (mi 30) (mi 31) (mi 32) (mi 33) (mi 37) (mi 41) (mi 42) (mi 43) (mi 44) (mi 45) (mi 47) (mi 48) (mi 49) (mi 50) (mi 51) (mi 54) (mi 56) fm_trust fm_letter fm_reportPlace fm_reportKind fm_struck fm_reportMonth fm_reportDay fm_reportKnown fm_deedMonth fm_deedDay fm_deedLong fm_deedKind fm_kept fm_tape fm_must fm_least fm_pin fm_ways fm_verdict fm_row fm_official fm_aside fm_worth fm_out) s.heap.size = A at hD ⊢
  have hA : ∀ q : Nat, s.heap.size ≤ q → A q := fun q h => by rw [← hAe]; exact Or.inr h
  have hS : va_S A s.heap s.heap [] := va_S.rf
  have hl := lv_entry ([.ref h0, .int p1, .int p2, .int p3, .int p4, .int p5]) (n := 6) (Nat.le_of_ble_eq_true rfl)
  rw [lg_entry_eq]
  generalize (lg_sl ([.ref h0, .int p1, .int p2, .int p3, .int p4, .int p5]) ++ List.replicate (6 - (lg_sl ([.ref h0, .int p1, .int p2, .int p3, .int p4, .int p5])).length) Slot.unset).toArray = ls at hl ⊢
  have hl : lv_has ls 6 [(0, .ref h0), (1, .int p1), (2, .int p2), (3, .int p3), (4, .int p4), (5, .int p5)] := hl
  obtain ⟨RES, hF⟩ : ∃ R9, fX12_lays mi fm_reportPlace fm_reportKind fm_reportMonth fm_reportDay fm_reportKnown fm_struck p1 p2 p3 p4 p5 = R9 := ⟨_, rfl⟩
  have hR9 := hF
  refine lv_aload_n hx hb (dk_at dkX12_lays 0 rfl) rfl (lv_at hl 0 rfl) ?_
  refine va_get (D := (dC, dI)) (ci := 12) (v := .ref (mr 2)) (C := RX12) (T := TX12) (N := 57) hx hb hts (fun w h => List.mem_cons_of_mem _ (jnGB_X12 w h)) hown hK hP 0 rfl rfl 11 (by decide) (hts _ (List.mem_cons_of_mem _ mGB_12)) (fun _ h9 => h9) rfl (dk_at dkX12_lays 1 rfl) ?_
  refine lv_aload_n hx hb (dk_at dkX12_lays 2 rfl) rfl (lv_at hl 0 rfl) ?_
  refine va_get (D := (dC, dI)) (ci := 12) (v := .int (mi 10)) (C := RX12) (T := TX12) (N := 57) hx hb hts (fun w h => List.mem_cons_of_mem _ (jnGB_X12 w h)) hown hK hP 0 rfl rfl 10 (by decide) (hts _ (List.mem_cons_of_mem _ mGB_111)) (fun _ h9 => h9) rfl (dk_at dkX12_lays 3 rfl) ?_
  refine lv_iload_n hx hb (dk_at dkX12_lays 4 rfl) rfl (lv_at hl 1 rfl) ?_
  refine va_iast hx hb hK hP hD hS 3 2 rfl rfl (gi_in gmi_10 (by decide)) (dk_at dkX12_lays 5 rfl) (fun H locs hP hD hS => ?_)
  obtain ⟨hP, hD⟩ := gz_both (w := (MWn h0 mr km (mi 0) (mi 1) (mi 2) (mi 3) (mi 4) (mi 5) (mi 6) (mi 7) (mi 10) (mi 17) (mi 23) (mi 24) (mi 26) (mi 27) (mi 28) (mi 29) (mi 30) (mi 31) (mi 32) (mi 33) (mi 37) (mi 41) (mi 42) (mi 43) (mi 44) (mi 45) (mi 47) (mi 48) (mi 49) (mi 50) (mi 51) (mi 54) (mi 56) fm_trust fm_letter (upd fm_reportPlace ((mi 10) : Int32).toNatClampNeg p1) fm_reportKind fm_struck fm_reportMonth fm_reportDay fm_reportKnown fm_deedMonth fm_deedDay fm_deedLong fm_deedKind fm_kept fm_tape fm_must fm_least fm_pin fm_ways fm_verdict fm_row fm_official fm_aside fm_worth fm_out)) hP hD
  have gf_15 : ga (upd fm_reportPlace ((mi 10) : Int32).toNatClampNeg p1) 24 0 5 := ga_upd gfm_reportPlace gp1
  generalize ef_15 : upd fm_reportPlace ((mi 10) : Int32).toNatClampNeg p1 = f_15 at hP hD gf_15
  refine lv_aload_n hx hb (dk_at dkX12_lays 6 rfl) rfl (lv_at hl 0 rfl) ?_
  refine va_get (D := (dC, dI)) (ci := 12) (v := .ref (mr 3)) (C := RX12) (T := TX12) (N := 57) hx hb hts (fun w h => List.mem_cons_of_mem _ (jnGB_X12 w h)) hown hK hP 0 rfl rfl 12 (by decide) (hts _ (List.mem_cons_of_mem _ mGB_13)) (fun _ h9 => h9) rfl (dk_at dkX12_lays 7 rfl) ?_
  refine lv_aload_n hx hb (dk_at dkX12_lays 8 rfl) rfl (lv_at hl 0 rfl) ?_
  refine va_get (D := (dC, dI)) (ci := 12) (v := .int (mi 10)) (C := RX12) (T := TX12) (N := 57) hx hb hts (fun w h => List.mem_cons_of_mem _ (jnGB_X12 w h)) hown hK hP 0 rfl rfl 10 (by decide) (hts _ (List.mem_cons_of_mem _ mGB_111)) (fun _ h9 => h9) rfl (dk_at dkX12_lays 9 rfl) ?_
  refine lv_iload_n hx hb (dk_at dkX12_lays 10 rfl) rfl (lv_at hl 2 rfl) ?_
  refine va_iast hx hb hK hP hD hS 4 3 rfl rfl (gi_in gmi_10 (by decide)) (dk_at dkX12_lays 11 rfl) (fun H locs hP hD hS => ?_)
  obtain ⟨hP, hD⟩ := gz_both (w := (MWn h0 mr km (mi 0) (mi 1) (mi 2) (mi 3) (mi 4) (mi 5) (mi 6) (mi 7) (mi 10) (mi 17) (mi 23) (mi 24) (mi 26) (mi 27) (mi 28) (mi 29) (mi 30) (mi 31) (mi 32) (mi 33) (mi 37) (mi 41) (mi 42) (mi 43) (mi 44) (mi 45) (mi 47) (mi 48) (mi 49) (mi 50) (mi 51) (mi 54) (mi 56) fm_trust fm_letter f_15 (upd fm_reportKind ((mi 10) : Int32).toNatClampNeg p2) fm_struck fm_reportMonth fm_reportDay fm_reportKnown fm_deedMonth fm_deedDay fm_deedLong fm_deedKind fm_kept fm_tape fm_must fm_least fm_pin fm_ways fm_verdict fm_row fm_official fm_aside fm_worth fm_out)) hP hD
  generalize ef_16 : upd fm_reportKind ((mi 10) : Int32).toNatClampNeg p2 = f_16 at hP hD
  refine lv_aload_n hx hb (dk_at dkX12_lays 12 rfl) rfl (lv_at hl 0 rfl) ?_
  refine va_get (D := (dC, dI)) (ci := 12) (v := .ref (mr 5)) (C := RX12) (T := TX12) (N := 57) hx hb hts (fun w h => List.mem_cons_of_mem _ (jnGB_X12 w h)) hown hK hP 0 rfl rfl 14 (by decide) (hts _ (List.mem_cons_of_mem _ mGB_16)) (fun _ h9 => h9) rfl (dk_at dkX12_lays 13 rfl) ?_
  refine lv_aload_n hx hb (dk_at dkX12_lays 14 rfl) rfl (lv_at hl 0 rfl) ?_
  refine va_get (D := (dC, dI)) (ci := 12) (v := .int (mi 10)) (C := RX12) (T := TX12) (N := 57) hx hb hts (fun w h => List.mem_cons_of_mem _ (jnGB_X12 w h)) hown hK hP 0 rfl rfl 10 (by decide) (hts _ (List.mem_cons_of_mem _ mGB_111)) (fun _ h9 => h9) rfl (dk_at dkX12_lays 15 rfl) ?_
  refine lv_iload_n hx hb (dk_at dkX12_lays 16 rfl) rfl (lv_at hl 3 rfl) ?_
  refine va_iast hx hb hK hP hD hS 6 5 rfl rfl (gi_in gmi_10 (by decide)) (dk_at dkX12_lays 17 rfl) (fun H locs hP hD hS => ?_)
  obtain ⟨hP, hD⟩ := gz_both (w := (MWn h0 mr km (mi 0) (mi 1) (mi 2) (mi 3) (mi 4) (mi 5) (mi 6) (mi 7) (mi 10) (mi 17) (mi 23) (mi 24) (mi 26) (mi 27) (mi 28) (mi 29) (mi 30) (mi 31) (mi 32) (mi 33) (mi 37) (mi 41) (mi 42) (mi 43) (mi 44) (mi 45) (mi 47) (mi 48) (mi 49) (mi 50) (mi 51) (mi 54) (mi 56) fm_trust fm_letter f_15 f_16 fm_struck (upd fm_reportMonth ((mi 10) : Int32).toNatClampNeg p3) fm_reportDay fm_reportKnown fm_deedMonth fm_deedDay fm_deedLong fm_deedKind fm_kept fm_tape fm_must fm_least fm_pin fm_ways fm_verdict fm_row fm_official fm_aside fm_worth fm_out)) hP hD
  have gf_17 : ga (upd fm_reportMonth ((mi 10) : Int32).toNatClampNeg p3) 24 0 23 := ga_upd gfm_reportMonth gp3
  generalize ef_17 : upd fm_reportMonth ((mi 10) : Int32).toNatClampNeg p3 = f_17 at hP hD gf_17
  refine lv_aload_n hx hb (dk_at dkX12_lays 18 rfl) rfl (lv_at hl 0 rfl) ?_
  refine va_get (D := (dC, dI)) (ci := 12) (v := .ref (mr 6)) (C := RX12) (T := TX12) (N := 57) hx hb hts (fun w h => List.mem_cons_of_mem _ (jnGB_X12 w h)) hown hK hP 0 rfl rfl 15 (by decide) (hts _ (List.mem_cons_of_mem _ mGB_17)) (fun _ h9 => h9) rfl (dk_at dkX12_lays 19 rfl) ?_
  refine lv_aload_n hx hb (dk_at dkX12_lays 20 rfl) rfl (lv_at hl 0 rfl) ?_
  refine va_get (D := (dC, dI)) (ci := 12) (v := .int (mi 10)) (C := RX12) (T := TX12) (N := 57) hx hb hts (fun w h => List.mem_cons_of_mem _ (jnGB_X12 w h)) hown hK hP 0 rfl rfl 10 (by decide) (hts _ (List.mem_cons_of_mem _ mGB_111)) (fun _ h9 => h9) rfl (dk_at dkX12_lays 21 rfl) ?_
  refine lv_iload hx hb (dk_at dkX12_lays 22 rfl) (lv_at hl 4 rfl) ?_
  refine va_iast hx hb hK hP hD hS 7 6 rfl rfl (gi_in gmi_10 (by decide)) (dk_at dkX12_lays 23 rfl) (fun H locs hP hD hS => ?_)
  obtain ⟨hP, hD⟩ := gz_both (w := (MWn h0 mr km (mi 0) (mi 1) (mi 2) (mi 3) (mi 4) (mi 5) (mi 6) (mi 7) (mi 10) (mi 17) (mi 23) (mi 24) (mi 26) (mi 27) (mi 28) (mi 29) (mi 30) (mi 31) (mi 32) (mi 33) (mi 37) (mi 41) (mi 42) (mi 43) (mi 44) (mi 45) (mi 47) (mi 48) (mi 49) (mi 50) (mi 51) (mi 54) (mi 56) fm_trust fm_letter f_15 f_16 fm_struck f_17 (upd fm_reportDay ((mi 10) : Int32).toNatClampNeg p4) fm_reportKnown fm_deedMonth fm_deedDay fm_deedLong fm_deedKind fm_kept fm_tape fm_must fm_least fm_pin fm_ways fm_verdict fm_row fm_official fm_aside fm_worth fm_out)) hP hD
  have gf_18 : ga (upd fm_reportDay ((mi 10) : Int32).toNatClampNeg p4) 24 0 999 := ga_upd gfm_reportDay gp4
  generalize ef_18 : upd fm_reportDay ((mi 10) : Int32).toNatClampNeg p4 = f_18 at hP hD gf_18
  refine lv_aload_n hx hb (dk_at dkX12_lays 24 rfl) rfl (lv_at hl 0 rfl) ?_
  refine va_get (D := (dC, dI)) (ci := 12) (v := .ref (mr 7)) (C := RX12) (T := TX12) (N := 57) hx hb hts (fun w h => List.mem_cons_of_mem _ (jnGB_X12 w h)) hown hK hP 0 rfl rfl 16 (by decide) (hts _ (List.mem_cons_of_mem _ mGB_18)) (fun _ h9 => h9) rfl (dk_at dkX12_lays 25 rfl) ?_
  refine lv_aload_n hx hb (dk_at dkX12_lays 26 rfl) rfl (lv_at hl 0 rfl) ?_
  refine va_get (D := (dC, dI)) (ci := 12) (v := .int (mi 10)) (C := RX12) (T := TX12) (N := 57) hx hb hts (fun w h => List.mem_cons_of_mem _ (jnGB_X12 w h)) hown hK hP 0 rfl rfl 10 (by decide) (hts _ (List.mem_cons_of_mem _ mGB_111)) (fun _ h9 => h9) rfl (dk_at dkX12_lays 27 rfl) ?_
  refine lv_iload hx hb (dk_at dkX12_lays 28 rfl) (lv_at hl 5 rfl) ?_
  refine va_iast hx hb hK hP hD hS 8 7 rfl rfl (gi_in gmi_10 (by decide)) (dk_at dkX12_lays 29 rfl) (fun H locs hP hD hS => ?_)
  obtain ⟨hP, hD⟩ := gz_both (w := (MWn h0 mr km (mi 0) (mi 1) (mi 2) (mi 3) (mi 4) (mi 5) (mi 6) (mi 7) (mi 10) (mi 17) (mi 23) (mi 24) (mi 26) (mi 27) (mi 28) (mi 29) (mi 30) (mi 31) (mi 32) (mi 33) (mi 37) (mi 41) (mi 42) (mi 43) (mi 44) (mi 45) (mi 47) (mi 48) (mi 49) (mi 50) (mi 51) (mi 54) (mi 56) fm_trust fm_letter f_15 f_16 fm_struck f_17 f_18 (upd fm_reportKnown ((mi 10) : Int32).toNatClampNeg p5) fm_deedMonth fm_deedDay fm_deedLong fm_deedKind fm_kept fm_tape fm_must fm_least fm_pin fm_ways fm_verdict fm_row fm_official fm_aside fm_worth fm_out)) hP hD
  have gf_19 : ga (upd fm_reportKnown ((mi 10) : Int32).toNatClampNeg p5) 24 0 999 := ga_upd gfm_reportKnown gp5
  generalize ef_19 : upd fm_reportKnown ((mi 10) : Int32).toNatClampNeg p5 = f_19 at hP hD gf_19
  refine lv_aload_n hx hb (dk_at dkX12_lays 30 rfl) rfl (lv_at hl 0 rfl) ?_
  refine va_get (D := (dC, dI)) (ci := 12) (v := .ref (mr 4)) (C := RX12) (T := TX12) (N := 57) hx hb hts (fun w h => List.mem_cons_of_mem _ (jnGB_X12 w h)) hown hK hP 0 rfl rfl 13 (by decide) (hts _ (List.mem_cons_of_mem _ mGB_15)) (fun _ h9 => h9) rfl (dk_at dkX12_lays 31 rfl) ?_
  refine lv_aload_n hx hb (dk_at dkX12_lays 32 rfl) rfl (lv_at hl 0 rfl) ?_
  refine va_get (D := (dC, dI)) (ci := 12) (v := .int (mi 10)) (C := RX12) (T := TX12) (N := 57) hx hb hts (fun w h => List.mem_cons_of_mem _ (jnGB_X12 w h)) hown hK hP 0 rfl rfl 10 (by decide) (hts _ (List.mem_cons_of_mem _ mGB_111)) (fun _ h9 => h9) rfl (dk_at dkX12_lays 33 rfl) ?_
  refine lv_iconst (v := 0) hx hb (dk_at dkX12_lays 34 rfl) (by decide) ?_
  refine va_zast hx hb hK hP hD hS 5 4 rfl rfl (gi_in gmi_10 (by decide)) (dk_at dkX12_lays 35 rfl) (fun H locs hP hD hS => ?_)
  obtain ⟨hP, hD⟩ := gz_both (w := (MWn h0 mr km (mi 0) (mi 1) (mi 2) (mi 3) (mi 4) (mi 5) (mi 6) (mi 7) (mi 10) (mi 17) (mi 23) (mi 24) (mi 26) (mi 27) (mi 28) (mi 29) (mi 30) (mi 31) (mi 32) (mi 33) (mi 37) (mi 41) (mi 42) (mi 43) (mi 44) (mi 45) (mi 47) (mi 48) (mi 49) (mi 50) (mi 51) (mi 54) (mi 56) fm_trust fm_letter f_15 f_16 (upd fm_struck ((mi 10) : Int32).toNatClampNeg (vp_nar .boolean 0)) f_17 f_18 f_19 fm_deedMonth fm_deedDay fm_deedLong fm_deedKind fm_kept fm_tape fm_must fm_least fm_pin fm_ways fm_verdict fm_row fm_official fm_aside fm_worth fm_out)) hP hD
  have gf_20 : ga (upd fm_struck ((mi 10) : Int32).toNatClampNeg (vp_nar .boolean 0)) 24 0 1 := ga_updz gfm_struck (gi_w (gi_c 0 0 (by decide)) (by decide))
  generalize ef_20 : upd fm_struck ((mi 10) : Int32).toNatClampNeg (vp_nar .boolean 0) = f_20 at hP hD gf_20
  refine lv_aload_n hx hb (dk_at dkX12_lays 36 rfl) rfl (lv_at hl 0 rfl) ?_
  refine lv_dup hx hb (dk_at dkX12_lays 37 rfl) rfl ?_
  refine va_get (D := (dC, dI)) (ci := 12) (v := .int (mi 10)) (C := RX12) (T := TX12) (N := 57) hx hb hts (fun w h => List.mem_cons_of_mem _ (jnGB_X12 w h)) hown hK hP 0 rfl rfl 10 (by decide) (hts _ (List.mem_cons_of_mem _ mGB_111)) (fun _ h9 => h9) rfl (dk_at dkX12_lays 38 rfl) ?_
  refine lv_iconst (v := 1) hx hb (dk_at dkX12_lays 39 rfl) (by decide) ?_
  refine lv_iadd hx hb (dk_at dkX12_lays 40 rfl) ?_
  refine lv_topi (fun x_21 ex_21 => ?_)
  have gx_21 : gi x_21 1 24 := gi_add ex_21 gmi_10 (gi_c 1 1 (by decide)) (by decide)
  refine va_put (D := (dC, dI)) (ci := 12) (v := .int x_21) (ty := .int) (C := RX12) (T := TX12) (N := 57) hx hb hts (fun w h => List.mem_cons_of_mem _ (jnGB_X12 w h)) tyX12 tyX12_ok nmX12 hown hK hP hD hS 0 rfl rfl 10 (by decide) (hts _ (List.mem_cons_of_mem _ mGB_111)) (fun _ h9 => h9) rfl (by decide +kernel) rfl rfl (Nat.le_of_ble_eq_true rfl) (dk_at dkX12_lays 41 rfl) (fun H locs hP hD hS => ?_)
  obtain ⟨hP, hD⟩ := gz_both (w := (MWn h0 mr km (mi 0) (mi 1) (mi 2) (mi 3) (mi 4) (mi 5) (mi 6) (mi 7) x_21 (mi 17) (mi 23) (mi 24) (mi 26) (mi 27) (mi 28) (mi 29) (mi 30) (mi 31) (mi 32) (mi 33) (mi 37) (mi 41) (mi 42) (mi 43) (mi 44) (mi 45) (mi 47) (mi 48) (mi 49) (mi 50) (mi 51) (mi 54) (mi 56) fm_trust fm_letter f_15 f_16 f_20 f_17 f_18 f_19 fm_deedMonth fm_deedDay fm_deedLong fm_deedKind fm_kept fm_tape fm_must fm_least fm_pin fm_ways fm_verdict fm_row fm_official fm_aside fm_worth fm_out)) hP hD
  exact W.vret hx hb hr (fun t ht hW => ⟨⟨(), rfl, trivial, x_21, f_15, f_16, f_17, f_18, f_19, f_20, (gi_w gx_21 (by decide)), gf_15, gf_17, gf_18, gf_19, gf_20, by rw [ex_21, ← ef_20, ← ef_19, ← ef_18, ← ef_17, ← ef_16, ← ef_15]; exact hF.trans hR9.symm, by rw [ht]; exact hP, hD⟩, hS.F ht⟩) hS.2.2 (dk_at dkX12_lays 42 rfl)
noncomputable def lsX11_deed : List (Nat × Instr × Nat) := [(0, .aload_n 0, 1), (1, .iload_n 1, 1), (2, .invokevirtual 191, 3), (5, .ifCond .ne 6, 3), (8, .bipush (-2), 2), (10, .ireturn, 1), (11, .aload_n 0, 1), (12, .getfield 19, 3), (15, .getfield 194, 3), (18, .iload_n 1, 1), (19, .aaload, 1), (20, .astore_n 3, 1), (21, .iload_n 2, 1), (22, .tableswitch 58 0 3 #[30, 35, 40, 45], 30), (52, .aload_n 3, 1), (53, .getfield 198, 3), (56, .ireturn, 1), (57, .aload_n 3, 1), (58, .getfield 201, 3), (61, .ireturn, 1), (62, .aload_n 3, 1), (63, .getfield 202, 3), (66, .ireturn, 1), (67, .aload_n 3, 1), (68, .getfield 203, 3), (71, .ifCond .eq 7, 3), (74, .iconst 1, 1), (75, .goto 4, 3), (78, .iconst 0, 1), (79, .ireturn, 1), (80, .bipush (-2), 2), (82, .ireturn, 1)]
theorem dkX11_deed : dkAll cX11_deed lsX11_deed = true := by decide +kernel
noncomputable def bfX11_deed_79 (adeedCount : Int32) (d_month : Nat → Int32) (d_day : Nat → Int32) (d_length : Nat → Int32) (d_inDays : Nat → Int32) (p1 : Int32) (p2 : Int32) (s0 : Int32) : Int32 := s0
noncomputable def fX11_deed (adeedCount : Int32) (d_month : Nat → Int32) (d_day : Nat → Int32) (d_length : Nat → Int32) (d_inDays : Nat → Int32) (p1 : Int32) (p2 : Int32) : Int32 := cal (fun o1 => if o1 = (0 : Int32) then (-2 : Int32) else (if p2 = (0 : Int32) then (d_month p1.toNatClampNeg) else (if p2 = (1 : Int32) then (d_day p1.toNatClampNeg) else (if p2 = (2 : Int32) then (d_length p1.toNatClampNeg) else (if p2 = (3 : Int32) then (if (d_inDays p1.toNatClampNeg) = (0 : Int32) then (bfX11_deed_79 adeedCount d_month d_day d_length d_inDays p1 p2 (0 : Int32)) else (bfX11_deed_79 adeedCount d_month d_day d_length d_inDays p1 p2 (1 : Int32))) else (-2 : Int32)))))) (fX11_hasDeed adeedCount p1)
set_option maxHeartbeats 4000000 in
set_option maxRecDepth 100000 in
theorem sX11_deed (l : Launch) (dC : Nat → ClassId) (dI : Nat → Nat → Nat) (h0 : Nat) (am : Nat) (de : Nat) (xr : Nat) (xs : Nat) (xf : Nat) (co : Nat) (oc : Nat) (ta : Nat) (xq : Nat) (xh : Nat) (xk : Nat) (xo : Nat) (x_outLength : Int32) (x_courtStands : Int32) (x_courtNews : Int32) (x_tallyStands : Int32) (x_historyStands : Int32) (amonths : Int32) (afull : Int32) (alean : Int32) (alines : Int32) (ahasMoon : Int32) (amoonStart : Int32) (amoonStep : Int32) (aplaceCount : Int32) (areportCount : Int32) (adeedCount : Int32) (pl : Nat) (re : Nat) (kde : ClassId) (da : Nat → Nat) (d_month : Nat → Int32) (d_day : Nat → Int32) (d_length : Nat → Int32) (d_inDays : Nat → Int32) (p1 : Int32) (p2 : Int32) (gx_outLength : gi x_outLength 0 72) (gx_courtStands : gi x_courtStands 0 1) (gx_tallyStands : gi x_tallyStands 0 1) (gx_historyStands : gi x_historyStands 0 1) (gamonths : gi amonths 0 24) (gafull : gi afull 0 5) (galean : gi alean 0 5) (gahasMoon : gi ahasMoon 0 1) (gaplaceCount : gi aplaceCount 0 6) (gareportCount : gi areportCount 0 24) (gadeedCount : gi adeedCount 0 8) (gd_month : ga d_month 8 0 23) (gd_length : ga d_length 8 0 600) (gd_inDays : ga d_inDays 8 0 1) : Met l yX11_deed (.code yX11_deed cX11_deed 4 (some .int) :: wsGA) ({ frames := 1, cells := 0, slots := 0, locals := 21 }) (va_Pc [.ref h0, .int p1, .int p2] (fun U => va_P (dC, dI) vwCl [(h0, .inr (11, [.ref xr, .ref am, .ref xs, .ref xf, .ref co, .ref oc, .ref ta, .ref xq, .ref xh, .ref xk, .ref xo, .int x_outLength, .int x_courtStands, .int x_courtNews, .int x_tallyStands, .int x_historyStands])), (am, .inr (0, [.int amonths, .int afull, .int alean, .int alines, .int ahasMoon, .int amoonStart, .int amoonStep, .int aplaceCount, .int areportCount, .int adeedCount, .ref pl, .ref re, .ref de])), (de, .inl (kde, 8, .inr (.inr (.inr (.inr (fun i => some (da i)))))))] U.heap ∧ va_K (dC, dI) vwCl [(kde, .object RX2)] U ∧ nzA U ∧ va_P (dC, dI) vwCl (gz_fam 8 da 2 (fun i => [.int (d_month i), .int (d_day i), .int (d_length i), .int (d_inDays i)])) U.heap)) (va_Qi (fun (r : Int32) (u : Unit) => (gi r (-2147483648) 2147483647) ∧ r = fX11_deed adeedCount d_month d_day d_length d_inDays p1 p2) (fun _ _ => True) (fun _ => False)) 0 0 (fun _ => False) := by
  refine Met.ofW (cc := cX11_deed) (maxL := 4) (ret := (some .int)) (by decide) rfl ?_
  intro p e s m args below meth c s₁ B hml hv
  obtain ⟨rfl, hP, hK, hz, hF0⟩ := hv
  have hx := B.exec
  have hb := B.bytes
  have hr := B.returns
  have hts := atoms_spec (ws := (.code yX11_deed cX11_deed 4 (some .int) :: wsGA)) B.pre
  have hown : s.vm.findClass RX11 = some m.cls := findClass_of_methodNamed B.named
  have hlocks := B.notSynchronized
  have hS : va_S (fun _ => False) s.heap s.heap [] := va_S.rf
  have hFA0 : gz_ap (fun _ => False) (gz_fam 8 da 2 (fun i => [.int (d_month i), .int (d_day i), .int (d_length i), .int (d_inDays i)])) := gz_ap0
  have hl := lv_entry ([.ref h0, .int p1, .int p2]) (n := 4) (Nat.le_of_ble_eq_true rfl)
  rw [lg_entry_eq]
  generalize (lg_sl ([.ref h0, .int p1, .int p2]) ++ List.replicate (4 - (lg_sl ([.ref h0, .int p1, .int p2])).length) Slot.unset).toArray = ls at hl ⊢
  have hl : lv_has ls 4 [(0, .ref h0), (1, .int p1), (2, .int p2)] := hl
  obtain ⟨RES, hF⟩ : ∃ R9, fX11_deed adeedCount d_month d_day d_length d_inDays p1 p2 = R9 := ⟨_, rfl⟩
  have hR9 := hF
  refine lv_aload_n hx hb (dk_at dkX11_deed 0 rfl) rfl (lv_at hl 0 rfl) ?_
  refine lv_iload_n hx hb (dk_at dkX11_deed 1 rfl) rfl (lv_at hl 1 rfl) ?_
  have hPc := hP.sub (ws' := [(h0, .inr (11, [.ref xr, .ref am, .ref xs, .ref xf, .ref co, .ref oc, .ref ta, .ref xq, .ref xh, .ref xk, .ref xo, .int x_outLength, .int x_courtStands, .int x_courtNews, .int x_tallyStands, .int x_historyStands])), (am, .inr (0, [.int amonths, .int afull, .int alean, .int alines, .int ahasMoon, .int amoonStart, .int amoonStep, .int aplaceCount, .int areportCount, .int adeedCount, .ref pl, .ref re, .ref de]))]) [0, 1] rfl
  have hKc := hK.sub (tys' := []) [] rfl
  refine va_calli (va_runV (As := [.int p1]) (rest := []) ⟨hx, hb, hml, hown, hts⟩ (sX11_hasDeed l dC dI h0 am xr xs xf co oc ta xq xh xk xo x_outLength x_courtStands x_courtNews x_tallyStands x_historyStands amonths afull alean alines ahasMoon amoonStart amoonStep aplaceCount areportCount adeedCount pl re de p1 gx_outLength gx_courtStands gx_tallyStands gx_historyStands gamonths gafull galean gahasMoon gaplaceCount gareportCount gadeedCount) (cwV 1 hts (gz_gV mGA_400 mGA_401 mGA_402 mGA_1 mGA_403 goodGA) rfl rfl rfl (by decide +kernel) ⟨Nat.le_of_ble_eq_true rfl, Nat.le_of_ble_eq_true rfl⟩) ⟨bl_I (bl_a bl_P (bl_a bl_K bl_nz)), va_recv hKc hPc (ci := 11) (q0 := 0) rfl rfl, fun U hU hW => ⟨rfl, by rw [hU]; exact hPc, va_K.moved hW.alike hKc, nzA_warm hW hz⟩⟩ rfl rfl hl.1 rfl (lv_room (Nat.le_of_ble_eq_true rfl)) (dk_at dkX11_deed 2 rfl) ⟨Nat.zero_le _, Nat.zero_le _⟩) hS (fun q _ h => h.elim) (fun q h => h.elim) (fun r_14 u t H1 locs ht hvm hw hB hz1 hk1 hS => ?_)
  obtain ⟨hw, hE⟩ := hw
  have hP := gz_keep hP hk1
  have hF := gf_call (a := r_14) hE hF
  generalize H1 = H at hP hS ⊢
  have gr_14 : gi r_14 0 1 := hw.1
  have hqr_14 := hw.2
  refine lv_if_ne (tgt := 11) hx hb (dk_at dkX11_deed 3 rfl) (by decide) (fun c_15 => ?_) (fun c_15 => ?_)
  · have hF := gf_neg c_15 hF
    have g_16 : gi r_14 1 1 := gi_ne_lo c_15 gr_14 (gi_c 0 0 (by decide)) (by decide)
    have g_17 : gi p1 0 7 := gi_cap (gi_any p1) (hqr_14 (gz_one g_16)) (by decide)
    refine lv_aload_n hx hb (dk_at dkX11_deed 6 rfl) rfl (lv_at hl 0 rfl) ?_
    refine va_get (D := (dC, dI)) (ci := 11) (v := .ref am) (C := RX11) (T := TX11) (N := 16) hx hb hts (fun w h => List.mem_cons_of_mem _ (jnGA_X11 w h)) hown hK hP 0 rfl rfl 1 (by decide) (hts _ (List.mem_cons_of_mem _ mGA_14)) (fun _ h9 => h9) rfl (dk_at dkX11_deed 7 rfl) ?_
    refine va_get (D := (dC, dI)) (ci := 0) (v := .ref de) (C := RX0) (T := TX0) (N := 13) hx hb hts (fun w h => List.mem_cons_of_mem _ (jnGA_X0 w h)) hown hK hP 1 rfl rfl 12 (by decide) (hts _ (List.mem_cons_of_mem _ mGA_395)) (fun _ h9 => h9) rfl (dk_at dkX11_deed 8 rfl) ?_
    refine lv_iload_n hx hb (dk_at dkX11_deed 9 rfl) rfl (lv_at hl 1 rfl) ?_
    refine va_aldq hx hb hK hP 2 0 rfl rfl (gi_in g_17 (by decide)) (dk_at dkX11_deed 10 rfl) ?_
    refine W.eq (g2 := F0 m 20 ls [.ref (da p1.toNatClampNeg)]) rfl ?_
    refine lv_astore_n (lv' := [(3, .ref (da p1.toNatClampNeg)), (0, .ref h0), (1, .int p1), (2, .int p2)]) hx hb (dk_at dkX11_deed 11 rfl) rfl hl (by decide) rfl (fun ls hl => ?_)
    refine lv_iload_n hx hb (dk_at dkX11_deed 12 rfl) rfl (lv_at hl 3 rfl) ?_
    rcases gz_sw p2 3 (Nat.le_of_ble_eq_true rfl) with hj_18 | ⟨j_18, hj_18, ej_18⟩
    · refine lv_tableOut (tgt := 80) hx hb (dk_at dkX11_deed 13 rfl) hj_18 (by decide) ?_
      have hF := gf_neg (fun h9 => by have h8 := congrArg Int32.toInt h9; rw [show (0 : Int32).toInt = 0 from by decide] at h8; omega) hF
      have hF := gf_neg (fun h9 => by have h8 := congrArg Int32.toInt h9; rw [show (1 : Int32).toInt = 1 from by decide] at h8; omega) hF
      have hF := gf_neg (fun h9 => by have h8 := congrArg Int32.toInt h9; rw [show (2 : Int32).toInt = 2 from by decide] at h8; omega) hF
      have hF := gf_neg (fun h9 => by have h8 := congrArg Int32.toInt h9; rw [show (3 : Int32).toInt = 3 from by decide] at h8; omega) hF
      refine lv_bipush (v := (-2)) hx hb (dk_at dkX11_deed 30 rfl) (by decide) ?_
      exact W.iret (v := (-2)) hx hb hr (fun t ht hW => ⟨⟨(-2), (), rfl, ⟨(gi_any (-2)), hF.trans hR9.symm⟩, trivial⟩, hS.F ht⟩) hS.2.2 (dk_at dkX11_deed 31 rfl)
    · rcases (show j_18 = 0 ∨ j_18 = 1 ∨ j_18 = 2 ∨ j_18 = 3 by omega) with rfl | rfl | rfl | rfl
      · refine lv_tableIn (off := 30) (tgt := 52) hx hb (dk_at dkX11_deed 13 rfl) (by rw [ej_18]; decide +kernel) (by rw [ej_18]; decide +kernel) (by rw [ej_18]; decide +kernel) (by decide) ?_
        have hF := gf_pos (by rw [ej_18]; rfl) hF
        refine lv_aload_n hx hb (dk_at dkX11_deed 14 rfl) rfl (lv_at hl 0 rfl) ?_
        refine va_get (D := (dC, dI)) (ci := 2) (v := .int (d_month p1.toNatClampNeg)) (C := RX2) (T := TX2) (N := 4) hx hb hts (fun w h => List.mem_cons_of_mem _ (jnGA_X2 w h)) hown hK (gz_ro hF0 hFA0 hS) (p1.toNatClampNeg) (gz_fam_at (gz_clt (gi_in (n := 8) g_17 (by decide)))) rfl 0 (by decide) (hts _ (List.mem_cons_of_mem _ mGA_396)) (fun _ h9 => h9) rfl (dk_at dkX11_deed 15 rfl) ?_
        refine lv_topi (fun x_19 ex_19 => ?_)
        have gx_19 : gi x_19 0 23 := ga_at gd_month (gi_in (n := 8) g_17 (by decide)) ex_19
        exact W.iret (v := x_19) hx hb hr (fun t ht hW => ⟨⟨x_19, (), rfl, ⟨(gi_any x_19), by rw [ex_19]; exact hF.trans hR9.symm⟩, trivial⟩, hS.F ht⟩) hS.2.2 (dk_at dkX11_deed 16 rfl)
      · refine lv_tableIn (off := 35) (tgt := 57) hx hb (dk_at dkX11_deed 13 rfl) (by rw [ej_18]; decide +kernel) (by rw [ej_18]; decide +kernel) (by rw [ej_18]; decide +kernel) (by decide) ?_
        have hF := gf_neg (by rw [ej_18]; decide) hF
        have hF := gf_pos (by rw [ej_18]; rfl) hF
        refine lv_aload_n hx hb (dk_at dkX11_deed 17 rfl) rfl (lv_at hl 0 rfl) ?_
        refine va_get (D := (dC, dI)) (ci := 2) (v := .int (d_day p1.toNatClampNeg)) (C := RX2) (T := TX2) (N := 4) hx hb hts (fun w h => List.mem_cons_of_mem _ (jnGA_X2 w h)) hown hK (gz_ro hF0 hFA0 hS) (p1.toNatClampNeg) (gz_fam_at (gz_clt (gi_in (n := 8) g_17 (by decide)))) rfl 1 (by decide) (hts _ (List.mem_cons_of_mem _ mGA_397)) (fun _ h9 => h9) rfl (dk_at dkX11_deed 18 rfl) ?_
        refine lv_topi (fun x_20 ex_20 => ?_)
        exact W.iret (v := x_20) hx hb hr (fun t ht hW => ⟨⟨x_20, (), rfl, ⟨(gi_any x_20), by rw [ex_20]; exact hF.trans hR9.symm⟩, trivial⟩, hS.F ht⟩) hS.2.2 (dk_at dkX11_deed 19 rfl)
      · refine lv_tableIn (off := 40) (tgt := 62) hx hb (dk_at dkX11_deed 13 rfl) (by rw [ej_18]; decide +kernel) (by rw [ej_18]; decide +kernel) (by rw [ej_18]; decide +kernel) (by decide) ?_
        have hF := gf_neg (by rw [ej_18]; decide) hF
        have hF := gf_neg (by rw [ej_18]; decide) hF
        have hF := gf_pos (by rw [ej_18]; rfl) hF
        refine lv_aload_n hx hb (dk_at dkX11_deed 20 rfl) rfl (lv_at hl 0 rfl) ?_
        refine va_get (D := (dC, dI)) (ci := 2) (v := .int (d_length p1.toNatClampNeg)) (C := RX2) (T := TX2) (N := 4) hx hb hts (fun w h => List.mem_cons_of_mem _ (jnGA_X2 w h)) hown hK (gz_ro hF0 hFA0 hS) (p1.toNatClampNeg) (gz_fam_at (gz_clt (gi_in (n := 8) g_17 (by decide)))) rfl 2 (by decide) (hts _ (List.mem_cons_of_mem _ mGA_398)) (fun _ h9 => h9) rfl (dk_at dkX11_deed 21 rfl) ?_
        refine lv_topi (fun x_21 ex_21 => ?_)
        have gx_21 : gi x_21 0 600 := ga_at gd_length (gi_in (n := 8) g_17 (by decide)) ex_21
        exact W.iret (v := x_21) hx hb hr (fun t ht hW => ⟨⟨x_21, (), rfl, ⟨(gi_any x_21), by rw [ex_21]; exact hF.trans hR9.symm⟩, trivial⟩, hS.F ht⟩) hS.2.2 (dk_at dkX11_deed 22 rfl)
      · refine lv_tableIn (off := 45) (tgt := 67) hx hb (dk_at dkX11_deed 13 rfl) (by rw [ej_18]; decide +kernel) (by rw [ej_18]; decide +kernel) (by rw [ej_18]; decide +kernel) (by decide) ?_
        have hF := gf_neg (by rw [ej_18]; decide) hF
        have hF := gf_neg (by rw [ej_18]; decide) hF
        have hF := gf_neg (by rw [ej_18]; decide) hF
        have hF := gf_pos (by rw [ej_18]; rfl) hF
        refine lv_aload_n hx hb (dk_at dkX11_deed 23 rfl) rfl (lv_at hl 0 rfl) ?_
        refine va_get (D := (dC, dI)) (ci := 2) (v := .int (d_inDays p1.toNatClampNeg)) (C := RX2) (T := TX2) (N := 4) hx hb hts (fun w h => List.mem_cons_of_mem _ (jnGA_X2 w h)) hown hK (gz_ro hF0 hFA0 hS) (p1.toNatClampNeg) (gz_fam_at (gz_clt (gi_in (n := 8) g_17 (by decide)))) rfl 3 (by decide) (hts _ (List.mem_cons_of_mem _ mGA_399)) (fun _ h9 => h9) rfl (dk_at dkX11_deed 24 rfl) ?_
        refine lv_topi (fun x_22 ex_22 => ?_)
        have gx_22 : gi x_22 0 1 := ga_at gd_inDays (gi_in (n := 8) g_17 (by decide)) ex_22
        refine lv_if_eq (tgt := 78) hx hb (dk_at dkX11_deed 25 rfl) (by decide) (fun c_23 => ?_) (fun c_23 => ?_)
        · have hF := gf_pos (by rw [ex_22] at c_23; exact c_23) hF
          have g_24 : gi x_22 0 0 := gi_eq c_23 (gi_c 0 0 (by decide))
          refine lv_iconst (v := 0) hx hb (dk_at dkX11_deed 28 rfl) (by decide) ?_
          exact W.iret (v := 0) hx hb hr (fun t ht hW => ⟨⟨0, (), rfl, ⟨(gi_any 0), hF.trans hR9.symm⟩, trivial⟩, hS.F ht⟩) hS.2.2 (dk_at dkX11_deed 29 rfl)
        · have hF := gf_neg (by rw [ex_22] at c_23; exact c_23) hF
          have g_25 : gi x_22 1 1 := gi_ne_lo c_23 gx_22 (gi_c 0 0 (by decide)) (by decide)
          refine lv_iconst (v := 1) hx hb (dk_at dkX11_deed 26 rfl) (by decide) ?_
          refine lv_goto (tgt := 79) hx hb (dk_at dkX11_deed 27 rfl) (by decide) ?_
          exact W.iret (v := 1) hx hb hr (fun t ht hW => ⟨⟨1, (), rfl, ⟨(gi_any 1), hF.trans hR9.symm⟩, trivial⟩, hS.F ht⟩) hS.2.2 (dk_at dkX11_deed 29 rfl)
  · have hF := gf_pos c_15 hF
    have g_26 : gi r_14 0 0 := gi_eq c_15 (gi_c 0 0 (by decide))
    refine lv_bipush (v := (-2)) hx hb (dk_at dkX11_deed 4 rfl) (by decide) ?_
    exact W.iret (v := (-2)) hx hb hr (fun t ht hW => ⟨⟨(-2), (), rfl, ⟨(gi_any (-2)), hF.trans hR9.symm⟩, trivial⟩, hS.F ht⟩) hS.2.2 (dk_at dkX11_deed 5 rfl)
/-! families: their places by runs of numbers -/
theorem gz_sub {D : va_G} {cl : List vw_C} {ws ws' : va_W} {H : Heap} (h : va_P D cl ws H) (is : List Nat) (hs : is.map (fun i => ws[i]?) = ws'.map some) : va_P D cl ws' H := by
  intro k q hk
  obtain ⟨i, -, hi⟩ := va_in_of is hs hk
  exact h i q hi
theorem gz_ixapp {ws w1 w2 : va_W} {is js : List Nat} (h1 : is.map (fun i => ws[i]?) = w1.map some) (h2 : js.map (fun i => ws[i]?) = w2.map some) : (is ++ js).map (fun i => ws[i]?) = (w1 ++ w2).map some := by
  rw [List.map_append, List.map_append, h1, h2]
theorem gz_ixL {R S w : va_W} {is : List Nat} (h : is.map (fun i => R[i]?) = w.map some) : is.map (fun i => (R ++ S)[i]?) = w.map some := by
  rw [← h]
  apply List.map_congr_left
  intro i hi
  have h1 : R[i]? ∈ is.map (fun i => R[i]?) := List.mem_map.mpr ⟨i, hi, rfl⟩
  rw [h] at h1
  obtain ⟨q, -, hq⟩ := List.mem_map.mp h1
  exact List.getElem?_append_left (List.getElem?_eq_some_iff.mp hq.symm).1
theorem gz_ixR {R S w : va_W} {k n m : Nat} (hm : R.length = m) (h : (List.range' k n).map (fun i => S[i]?) = w.map some) : (List.range' (m + k) n).map (fun i => (R ++ S)[i]?) = w.map some := by
  subst hm
  rw [← h]
  apply List.ext_getElem?
  intro i
  rw [List.getElem?_map, List.getElem?_map]
  by_cases hi : i < n
  · rw [List.getElem?_range' hi, List.getElem?_range' hi]
    show some ((R ++ S)[R.length + k + 1 * i]?) = some (S[k + 1 * i]?)
    rw [List.getElem?_append_right (by omega), show R.length + k + 1 * i - R.length = k + 1 * i by omega]
  · rw [List.getElem?_eq_none (by rw [List.length_range']; omega), List.getElem?_eq_none (by rw [List.length_range']; omega)]
    rfl
theorem gz_ixSelf {n : Nat} {ra : Nat → Nat} {ci : Nat} {g : Nat → List Value} : (List.range' 0 n).map (fun i => (gz_fam n ra ci g)[i]?) = (gz_fam n ra ci g).map some := by
  apply List.ext_getElem?
  intro i
  rw [List.getElem?_map, List.getElem?_map]
  by_cases hi : i < n
  · rw [gz_fam_at hi, List.getElem?_range' hi]
    show some ((gz_fam n ra ci g)[0 + 1 * i]?) = _
    rw [Nat.zero_add, Nat.one_mul, gz_fam_at hi]
    rfl
  · have h1 : (gz_fam n ra ci g)[i]? = none := List.getElem?_eq_none (by rw [gz_famlen]; omega)
    have h2 : (List.range' 0 n)[i]? = none := List.getElem?_eq_none (by rw [List.length_range']; omega)
    rw [h1, h2]
    rfl

noncomputable def lsX11_reports : List (Nat × Instr × Nat) := [(0, .aload_n 0, 1), (1, .iload_n 1, 1), (2, .invokevirtual 144, 3), (5, .ifCond .eq 34, 3), (8, .iload_n 2, 1), (9, .ifCond .lt 30, 3), (12, .iload_n 2, 1), (13, .iconst 2, 1), (14, .if_icmp .gt 25, 3), (17, .aload_n 0, 1), (18, .iload_n 3, 1), (19, .iconst 1, 1), (20, .aload_n 0, 1), (21, .getfield 19, 3), (24, .getfield 120, 3), (27, .iconst 1, 1), (28, .isub, 1), (29, .invokevirtual 209, 3), (32, .ifCond .eq 7, 3), (35, .iconst 1, 1), (36, .goto 4, 3), (39, .iconst 0, 1), (40, .istore 6, 2), (42, .iload 6, 2), (44, .ifCond .eq 23, 3), (47, .iload 4, 2), (49, .ifCond .lt 18, 3), (52, .iload 5, 2), (54, .iload 4, 2), (56, .if_icmp .lt 11, 3), (59, .iload 5, 2), (61, .sipush 999, 3), (64, .if_icmp .le 6, 3), (67, .bipush (-2), 2), (69, .ireturn, 1), (70, .aload_n 0, 1), (71, .getfield 19, 3), (74, .getfield 132, 3), (77, .bipush 24, 2), (79, .if_icmp .lt 6, 3), (82, .bipush (-5), 2), (84, .ireturn, 1), (85, .aload_n 0, 1), (86, .getfield 19, 3), (89, .iload_n 1, 1), (90, .iload_n 2, 1), (91, .iload_n 3, 1), (92, .iload 4, 2), (94, .iload 5, 2), (96, .invokevirtual 388, 3), (99, .aload_n 0, 1), (100, .invokevirtual 111, 3), (103, .aload_n 0, 1), (104, .getfield 19, 3), (107, .getfield 132, 3), (110, .iconst 1, 1), (111, .isub, 1), (112, .ireturn, 1)]
theorem dkX11_reports : dkAll cX11_reports lsX11_reports = true := by decide +kernel
noncomputable def bfX11_reports_67 (x_courtStands : Int32) (x_tallyStands : Int32) (x_historyStands : Int32) (amonths : Int32) (aplaceCount : Int32) (areportCount : Int32) (r_place : Nat → Int32) (r_kind : Nat → Int32) (r_month : Nat → Int32) (r_day : Nat → Int32) (r_known : Nat → Int32) (r_struck : Nat → Int32) (p1 : Int32) (p2 : Int32) (p3 : Int32) (p4 : Int32) (p5 : Int32) (w0_12 : Int32) (w0_14 : Int32) (w0_15 : Int32) (w1_8 : Int32) (z3_0 : Nat → Int32) (z3_1 : Nat → Int32) (z3_2 : Nat → Int32) (z3_3 : Nat → Int32) (z3_4 : Nat → Int32) (z3_5 : Nat → Int32) : Int32 × Int32 × Int32 × Int32 × Int32 × (Nat → Int32) × (Nat → Int32) × (Nat → Int32) × (Nat → Int32) × (Nat → Int32) × (Nat → Int32) := ((-2 : Int32), w0_12, w0_14, w0_15, w1_8, z3_0, z3_1, z3_2, z3_3, z3_4, z3_5)
noncomputable def bfX11_reports_40 (x_courtStands : Int32) (x_tallyStands : Int32) (x_historyStands : Int32) (amonths : Int32) (aplaceCount : Int32) (areportCount : Int32) (r_place : Nat → Int32) (r_kind : Nat → Int32) (r_month : Nat → Int32) (r_day : Nat → Int32) (r_known : Nat → Int32) (r_struck : Nat → Int32) (p1 : Int32) (p2 : Int32) (p3 : Int32) (p4 : Int32) (p5 : Int32) (s0 : Int32) (w0_12 : Int32) (w0_14 : Int32) (w0_15 : Int32) (w1_8 : Int32) (z3_0 : Nat → Int32) (z3_1 : Nat → Int32) (z3_2 : Nat → Int32) (z3_3 : Nat → Int32) (z3_4 : Nat → Int32) (z3_5 : Nat → Int32) : Int32 × Int32 × Int32 × Int32 × Int32 × (Nat → Int32) × (Nat → Int32) × (Nat → Int32) × (Nat → Int32) × (Nat → Int32) × (Nat → Int32) := if s0 = (0 : Int32) then (bfX11_reports_67 x_courtStands x_tallyStands x_historyStands amonths aplaceCount areportCount r_place r_kind r_month r_day r_known r_struck p1 p2 p3 p4 p5 w0_12 w0_14 w0_15 w1_8 z3_0 z3_1 z3_2 z3_3 z3_4 z3_5) else (if p4 < (0 : Int32) then (bfX11_reports_67 x_courtStands x_tallyStands x_historyStands amonths aplaceCount areportCount r_place r_kind r_month r_day r_known r_struck p1 p2 p3 p4 p5 w0_12 w0_14 w0_15 w1_8 z3_0 z3_1 z3_2 z3_3 z3_4 z3_5) else (if p5 < p4 then (bfX11_reports_67 x_courtStands x_tallyStands x_historyStands amonths aplaceCount areportCount r_place r_kind r_month r_day r_known r_struck p1 p2 p3 p4 p5 w0_12 w0_14 w0_15 w1_8 z3_0 z3_1 z3_2 z3_3 z3_4 z3_5) else (if p5 ≤ (999 : Int32) then (if w1_8 < (24 : Int32) then (cal (fun o3 => cal (fun o4 => ((o3.1 - (1 : Int32)), o4.1, o4.2.1, o4.2.2, o3.1, o3.2.1, o3.2.2.1, o3.2.2.2.1, o3.2.2.2.2.1, o3.2.2.2.2.2.1, o3.2.2.2.2.2.2)) fX11_forget) (fX0_addReport w1_8 z3_0 z3_1 z3_2 z3_3 z3_4 z3_5 p1 p2 p3 p4 p5)) else ((-5 : Int32), w0_12, w0_14, w0_15, w1_8, z3_0, z3_1, z3_2, z3_3, z3_4, z3_5)) else (bfX11_reports_67 x_courtStands x_tallyStands x_historyStands amonths aplaceCount areportCount r_place r_kind r_month r_day r_known r_struck p1 p2 p3 p4 p5 w0_12 w0_14 w0_15 w1_8 z3_0 z3_1 z3_2 z3_3 z3_4 z3_5))))
noncomputable def bfX11_reports_39 (x_courtStands : Int32) (x_tallyStands : Int32) (x_historyStands : Int32) (amonths : Int32) (aplaceCount : Int32) (areportCount : Int32) (r_place : Nat → Int32) (r_kind : Nat → Int32) (r_month : Nat → Int32) (r_day : Nat → Int32) (r_known : Nat → Int32) (r_struck : Nat → Int32) (p1 : Int32) (p2 : Int32) (p3 : Int32) (p4 : Int32) (p5 : Int32) (w0_12 : Int32) (w0_14 : Int32) (w0_15 : Int32) (w1_8 : Int32) (z3_0 : Nat → Int32) (z3_1 : Nat → Int32) (z3_2 : Nat → Int32) (z3_3 : Nat → Int32) (z3_4 : Nat → Int32) (z3_5 : Nat → Int32) : Int32 × Int32 × Int32 × Int32 × Int32 × (Nat → Int32) × (Nat → Int32) × (Nat → Int32) × (Nat → Int32) × (Nat → Int32) × (Nat → Int32) := bfX11_reports_40 x_courtStands x_tallyStands x_historyStands amonths aplaceCount areportCount r_place r_kind r_month r_day r_known r_struck p1 p2 p3 p4 p5 (0 : Int32) w0_12 w0_14 w0_15 w1_8 z3_0 z3_1 z3_2 z3_3 z3_4 z3_5
noncomputable def fX11_reports (x_courtStands : Int32) (x_tallyStands : Int32) (x_historyStands : Int32) (amonths : Int32) (aplaceCount : Int32) (areportCount : Int32) (r_place : Nat → Int32) (r_kind : Nat → Int32) (r_month : Nat → Int32) (r_day : Nat → Int32) (r_known : Nat → Int32) (r_struck : Nat → Int32) (p1 : Int32) (p2 : Int32) (p3 : Int32) (p4 : Int32) (p5 : Int32) : Int32 × Int32 × Int32 × Int32 × Int32 × (Nat → Int32) × (Nat → Int32) × (Nat → Int32) × (Nat → Int32) × (Nat → Int32) × (Nat → Int32) := cal (fun o1 => if o1 = (0 : Int32) then (bfX11_reports_39 x_courtStands x_tallyStands x_historyStands amonths aplaceCount areportCount r_place r_kind r_month r_day r_known r_struck p1 p2 p3 p4 p5 x_courtStands x_tallyStands x_historyStands areportCount r_place r_kind r_month r_day r_known r_struck) else (if p2 < (0 : Int32) then (bfX11_reports_39 x_courtStands x_tallyStands x_historyStands amonths aplaceCount areportCount r_place r_kind r_month r_day r_known r_struck p1 p2 p3 p4 p5 x_courtStands x_tallyStands x_historyStands areportCount r_place r_kind r_month r_day r_known r_struck) else (if (2 : Int32) < p2 then (bfX11_reports_39 x_courtStands x_tallyStands x_historyStands amonths aplaceCount areportCount r_place r_kind r_month r_day r_known r_struck p1 p2 p3 p4 p5 x_courtStands x_tallyStands x_historyStands areportCount r_place r_kind r_month r_day r_known r_struck) else (cal (fun o2 => if o2 = (0 : Int32) then (bfX11_reports_39 x_courtStands x_tallyStands x_historyStands amonths aplaceCount areportCount r_place r_kind r_month r_day r_known r_struck p1 p2 p3 p4 p5 x_courtStands x_tallyStands x_historyStands areportCount r_place r_kind r_month r_day r_known r_struck) else (bfX11_reports_40 x_courtStands x_tallyStands x_historyStands amonths aplaceCount areportCount r_place r_kind r_month r_day r_known r_struck p1 p2 p3 p4 p5 (1 : Int32) x_courtStands x_tallyStands x_historyStands areportCount r_place r_kind r_month r_day r_known r_struck)) (fX11_hasMonth amonths p3 (1 : Int32) (amonths - (1 : Int32))))))) (fX11_hasPlace aplaceCount p1)
abbrev pb_sX11_reports (dC : Nat → ClassId) (dI : Nat → Nat → Nat) (A9 : Nat → Prop) (h0 : Nat) (am : Nat) (re : Nat) (ra : Nat → Nat) (xr : Nat) (xs : Nat) (xf : Nat) (co : Nat) (oc : Nat) (ta : Nat) (xq : Nat) (xh : Nat) (xk : Nat) (xo : Nat) (x_outLength : Int32) (x_courtStands : Int32) (x_courtNews : Int32) (x_tallyStands : Int32) (x_historyStands : Int32) (amonths : Int32) (afull : Int32) (alean : Int32) (alines : Int32) (ahasMoon : Int32) (amoonStart : Int32) (amoonStep : Int32) (aplaceCount : Int32) (areportCount : Int32) (adeedCount : Int32) (pl : Nat) (de : Nat) (kre : ClassId) (r_place : Nat → Int32) (r_kind : Nat → Int32) (r_month : Nat → Int32) (r_day : Nat → Int32) (r_known : Nat → Int32) (r_struck : Nat → Int32) (p1 : Int32) (p2 : Int32) (p3 : Int32) (p4 : Int32) (p5 : Int32) (r : Int32) (w0_12 : Int32) (w0_14 : Int32) (w0_15 : Int32) (w1_8 : Int32) (z3_0 : Nat → Int32) (z3_1 : Nat → Int32) (z3_2 : Nat → Int32) (z3_3 : Nat → Int32) (z3_4 : Nat → Int32) (z3_5 : Nat → Int32) (t : State) : Prop := gi w0_12 0 1 ∧ gi w0_14 0 1 ∧ gi w0_15 0 1 ∧ gi w1_8 0 24 ∧ ga z3_0 24 0 5 ∧ ga z3_2 24 0 23 ∧ ga z3_5 24 0 1 ∧ (r, w0_12, w0_14, w0_15, w1_8, z3_0, z3_1, z3_2, z3_3, z3_4, z3_5) = fX11_reports x_courtStands x_tallyStands x_historyStands amonths aplaceCount areportCount r_place r_kind r_month r_day r_known r_struck p1 p2 p3 p4 p5 ∧ va_P (dC, dI) vwCl (([(h0, .inr (11, [.ref xr, .ref am, .ref xs, .ref xf, .ref co, .ref oc, .ref ta, .ref xq, .ref xh, .ref xk, .ref xo, .int x_outLength, .int w0_12, .int x_courtNews, .int w0_14, .int w0_15])), (am, .inr (0, [.int amonths, .int afull, .int alean, .int alines, .int ahasMoon, .int amoonStart, .int amoonStep, .int aplaceCount, .int w1_8, .int adeedCount, .ref pl, .ref re, .ref de])), (re, .inl (kre, 24, .inr (.inr (.inr (.inr (fun i => some (ra i)))))))] : va_W) ++ (gz_fam 24 ra 7 (fun i => [.int (z3_0 i), .int (z3_1 i), .int (z3_2 i), .int (z3_3 i), .int (z3_4 i), .int (z3_5 i)]))) t.heap ∧ va_D A9 (([(h0, .inr (11, [.ref xr, .ref am, .ref xs, .ref xf, .ref co, .ref oc, .ref ta, .ref xq, .ref xh, .ref xk, .ref xo, .int x_outLength, .int w0_12, .int x_courtNews, .int w0_14, .int w0_15])), (am, .inr (0, [.int amonths, .int afull, .int alean, .int alines, .int ahasMoon, .int amoonStart, .int amoonStep, .int aplaceCount, .int w1_8, .int adeedCount, .ref pl, .ref re, .ref de])), (re, .inl (kre, 24, .inr (.inr (.inr (.inr (fun i => some (ra i)))))))] : va_W) ++ (gz_fam 24 ra 7 (fun i => [.int (z3_0 i), .int (z3_1 i), .int (z3_2 i), .int (z3_3 i), .int (z3_4 i), .int (z3_5 i)])))
set_option maxHeartbeats 4000000 in
set_option maxRecDepth 100000 in
theorem sX11_reports (l : Launch) (dC : Nat → ClassId) (dI : Nat → Nat → Nat) (sz : Nat) (h0 : Nat) (am : Nat) (re : Nat) (ra : Nat → Nat) (xr : Nat) (xs : Nat) (xf : Nat) (co : Nat) (oc : Nat) (ta : Nat) (xq : Nat) (xh : Nat) (xk : Nat) (xo : Nat) (x_outLength : Int32) (x_courtStands : Int32) (x_courtNews : Int32) (x_tallyStands : Int32) (x_historyStands : Int32) (amonths : Int32) (afull : Int32) (alean : Int32) (alines : Int32) (ahasMoon : Int32) (amoonStart : Int32) (amoonStep : Int32) (aplaceCount : Int32) (areportCount : Int32) (adeedCount : Int32) (pl : Nat) (de : Nat) (kre : ClassId) (r_place : Nat → Int32) (r_kind : Nat → Int32) (r_month : Nat → Int32) (r_day : Nat → Int32) (r_known : Nat → Int32) (r_struck : Nat → Int32) (p1 : Int32) (p2 : Int32) (p3 : Int32) (p4 : Int32) (p5 : Int32) (gx_outLength : gi x_outLength 0 72) (gx_courtStands : gi x_courtStands 0 1) (gx_tallyStands : gi x_tallyStands 0 1) (gx_historyStands : gi x_historyStands 0 1) (gamonths : gi amonths 0 24) (gafull : gi afull 0 5) (galean : gi alean 0 5) (gahasMoon : gi ahasMoon 0 1) (gaplaceCount : gi aplaceCount 0 6) (gareportCount : gi areportCount 0 24) (gadeedCount : gi adeedCount 0 8) (gr_place : ga r_place 24 0 5) (gr_month : ga r_month 24 0 23) (gr_struck : ga r_struck 24 0 1) : Met l yX11_reports (.code yX11_reports cX11_reports 7 (some .int) :: wsGA) ({ frames := 2, cells := 0, slots := 0, locals := 43 }) (va_Pc [.ref h0, .int p1, .int p2, .int p3, .int p4, .int p5] (fun U => U.heap.size = sz ∧ va_P (dC, dI) vwCl (([(h0, .inr (11, [.ref xr, .ref am, .ref xs, .ref xf, .ref co, .ref oc, .ref ta, .ref xq, .ref xh, .ref xk, .ref xo, .int x_outLength, .int x_courtStands, .int x_courtNews, .int x_tallyStands, .int x_historyStands])), (am, .inr (0, [.int amonths, .int afull, .int alean, .int alines, .int ahasMoon, .int amoonStart, .int amoonStep, .int aplaceCount, .int areportCount, .int adeedCount, .ref pl, .ref re, .ref de])), (re, .inl (kre, 24, .inr (.inr (.inr (.inr (fun i => some (ra i)))))))] : va_W) ++ (gz_fam 24 ra 7 (fun i => [.int (r_place i), .int (r_kind i), .int (r_month i), .int (r_day i), .int (r_known i), .int (r_struck i)]))) U.heap ∧ va_K (dC, dI) vwCl [(kre, .object RX7)] U ∧ va_D (fun _ => True) (([(h0, .inr (11, [.ref xr, .ref am, .ref xs, .ref xf, .ref co, .ref oc, .ref ta, .ref xq, .ref xh, .ref xk, .ref xo, .int x_outLength, .int x_courtStands, .int x_courtNews, .int x_tallyStands, .int x_historyStands])), (am, .inr (0, [.int amonths, .int afull, .int alean, .int alines, .int ahasMoon, .int amoonStart, .int amoonStep, .int aplaceCount, .int areportCount, .int adeedCount, .ref pl, .ref re, .ref de])), (re, .inl (kre, 24, .inr (.inr (.inr (.inr (fun i => some (ra i)))))))] : va_W) ++ (gz_fam 24 ra 7 (fun i => [.int (r_place i), .int (r_kind i), .int (r_month i), .int (r_day i), .int (r_known i), .int (r_struck i)]))) ∧ nzA U)) (va_Qi (fun (r : Int32) (u : Int32) => r = u ∧ gi r (-5) 23) (fun r t => ∃ (w0_12 : Int32) (w0_14 : Int32) (w0_15 : Int32) (w1_8 : Int32) (z3_0 : Nat → Int32) (z3_1 : Nat → Int32) (z3_2 : Nat → Int32) (z3_3 : Nat → Int32) (z3_4 : Nat → Int32) (z3_5 : Nat → Int32), pb_sX11_reports dC dI (va_A (([(h0, .inr (11, [.ref xr, .ref am, .ref xs, .ref xf, .ref co, .ref oc, .ref ta, .ref xq, .ref xh, .ref xk, .ref xo, .int x_outLength, .int x_courtStands, .int x_courtNews, .int x_tallyStands, .int x_historyStands])), (am, .inr (0, [.int amonths, .int afull, .int alean, .int alines, .int ahasMoon, .int amoonStart, .int amoonStep, .int aplaceCount, .int areportCount, .int adeedCount, .ref pl, .ref re, .ref de])), (re, .inl (kre, 24, .inr (.inr (.inr (.inr (fun i => some (ra i)))))))] : va_W) ++ (gz_fam 24 ra 7 (fun i => [.int (r_place i), .int (r_kind i), .int (r_month i), .int (r_day i), .int (r_known i), .int (r_struck i)]))) sz) h0 am re ra xr xs xf co oc ta xq xh xk xo x_outLength x_courtStands x_courtNews x_tallyStands x_historyStands amonths afull alean alines ahasMoon amoonStart amoonStep aplaceCount areportCount adeedCount pl de kre r_place r_kind r_month r_day r_known r_struck p1 p2 p3 p4 p5 r w0_12 w0_14 w0_15 w1_8 z3_0 z3_1 z3_2 z3_3 z3_4 z3_5 t) (va_A (([(h0, .inr (11, [.ref xr, .ref am, .ref xs, .ref xf, .ref co, .ref oc, .ref ta, .ref xq, .ref xh, .ref xk, .ref xo, .int x_outLength, .int x_courtStands, .int x_courtNews, .int x_tallyStands, .int x_historyStands])), (am, .inr (0, [.int amonths, .int afull, .int alean, .int alines, .int ahasMoon, .int amoonStart, .int amoonStep, .int aplaceCount, .int areportCount, .int adeedCount, .ref pl, .ref re, .ref de])), (re, .inl (kre, 24, .inr (.inr (.inr (.inr (fun i => some (ra i)))))))] : va_W) ++ (gz_fam 24 ra 7 (fun i => [.int (r_place i), .int (r_kind i), .int (r_month i), .int (r_day i), .int (r_known i), .int (r_struck i)]))) sz)) 0 0 (va_A (([(h0, .inr (11, [.ref xr, .ref am, .ref xs, .ref xf, .ref co, .ref oc, .ref ta, .ref xq, .ref xh, .ref xk, .ref xo, .int x_outLength, .int x_courtStands, .int x_courtNews, .int x_tallyStands, .int x_historyStands])), (am, .inr (0, [.int amonths, .int afull, .int alean, .int alines, .int ahasMoon, .int amoonStart, .int amoonStep, .int aplaceCount, .int areportCount, .int adeedCount, .ref pl, .ref re, .ref de])), (re, .inl (kre, 24, .inr (.inr (.inr (.inr (fun i => some (ra i)))))))] : va_W) ++ (gz_fam 24 ra 7 (fun i => [.int (r_place i), .int (r_kind i), .int (r_month i), .int (r_day i), .int (r_known i), .int (r_struck i)]))) sz) := by
  refine Met.ofW (cc := cX11_reports) (maxL := 7) (ret := (some .int)) (by decide) rfl ?_
  intro p e s m args below meth c s₁ B hml hv
  obtain ⟨rfl, hsz, hP, hK, hD0, hz⟩ := hv
  have hx := B.exec
  have hb := B.bytes
  have hr := B.returns
  have hts := atoms_spec (ws := (.code yX11_reports cX11_reports 7 (some .int) :: wsGA)) B.pre
  have hown : s.vm.findClass RX11 = some m.cls := findClass_of_methodNamed B.named
  have hlocks := B.notSynchronized
  subst hsz
  have hD := hD0.self (sz := s.heap.size)
  generalize hAe : va_A (([(h0, .inr (11, [.ref xr, .ref am, .ref xs, .ref xf, .ref co, .ref oc, .ref ta, .ref xq, .ref xh, .ref xk, .ref xo, .int x_outLength, .int x_courtStands, .int x_courtNews, .int x_tallyStands, .int x_historyStands])), (am, .inr (0, [.int amonths, .int afull, .int alean, .int alines, .int ahasMoon, .int amoonStart, .int amoonStep, .int aplaceCount, .int areportCount, .int adeedCount, .ref pl, .ref re, .ref de])), (re, .inl (kre, 24, .inr (.inr (.inr (.inr (fun i => some (ra i)))))))] : va_W) ++ (gz_fam 24 ra 7 (fun i => [.int (r_place i), .int (r_kind i), .int (r_month i), .int (r_day i), .int (r_known i), .int (r_struck i)]))) s.heap.size = A at hD ⊢
  have hA : ∀ q : Nat, s.heap.size ≤ q → A q := fun q h => by rw [← hAe]; exact Or.inr h
  have hS : va_S A s.heap s.heap [] := va_S.rf
  have hl := lv_entry ([.ref h0, .int p1, .int p2, .int p3, .int p4, .int p5]) (n := 7) (Nat.le_of_ble_eq_true rfl)
  rw [lg_entry_eq]
  generalize (lg_sl ([.ref h0, .int p1, .int p2, .int p3, .int p4, .int p5]) ++ List.replicate (7 - (lg_sl ([.ref h0, .int p1, .int p2, .int p3, .int p4, .int p5])).length) Slot.unset).toArray = ls at hl ⊢
  have hl : lv_has ls 7 [(0, .ref h0), (1, .int p1), (2, .int p2), (3, .int p3), (4, .int p4), (5, .int p5)] := hl
  obtain ⟨RES, hF⟩ : ∃ R9, fX11_reports x_courtStands x_tallyStands x_historyStands amonths aplaceCount areportCount r_place r_kind r_month r_day r_known r_struck p1 p2 p3 p4 p5 = R9 := ⟨_, rfl⟩
  have hR9 := hF
  refine lv_aload_n hx hb (dk_at dkX11_reports 0 rfl) rfl (lv_at hl 0 rfl) ?_
  refine lv_iload_n hx hb (dk_at dkX11_reports 1 rfl) rfl (lv_at hl 1 rfl) ?_
  have hPc := hP.sub (ws' := [(h0, .inr (11, [.ref xr, .ref am, .ref xs, .ref xf, .ref co, .ref oc, .ref ta, .ref xq, .ref xh, .ref xk, .ref xo, .int x_outLength, .int x_courtStands, .int x_courtNews, .int x_tallyStands, .int x_historyStands])), (am, .inr (0, [.int amonths, .int afull, .int alean, .int alines, .int ahasMoon, .int amoonStart, .int amoonStep, .int aplaceCount, .int areportCount, .int adeedCount, .ref pl, .ref re, .ref de]))]) [0, 1] rfl
  have hKc := hK.sub (tys' := []) [] rfl
  refine va_calli (va_runV (As := [.int p1]) (rest := []) ⟨hx, hb, hml, hown, hts⟩ (sX11_hasPlace l dC dI h0 am xr xs xf co oc ta xq xh xk xo x_outLength x_courtStands x_courtNews x_tallyStands x_historyStands amonths afull alean alines ahasMoon amoonStart amoonStep aplaceCount areportCount adeedCount pl re de p1 gx_outLength gx_courtStands gx_tallyStands gx_historyStands gamonths gafull galean gahasMoon gaplaceCount gareportCount gadeedCount) (cwV 1 hts (gz_gV mGA_366 mGA_367 mGA_368 mGA_1 mGA_369 goodGA) rfl rfl rfl (by decide +kernel) ⟨Nat.le_of_ble_eq_true rfl, Nat.le_of_ble_eq_true rfl⟩) ⟨bl_I (bl_a bl_P (bl_a bl_K bl_nz)), va_recv hKc hPc (ci := 11) (q0 := 0) rfl rfl, fun U hU hW => ⟨rfl, by rw [hU]; exact hPc, va_K.moved hW.alike hKc, nzA_warm hW hz⟩⟩ rfl rfl hl.1 rfl (lv_room (Nat.le_of_ble_eq_true rfl)) (dk_at dkX11_reports 2 rfl) ⟨Nat.zero_le _, Nat.zero_le _⟩) hS (fun q _ h => h.elim) (fun q h => h.elim) (fun r_97 u t H1 locs ht hvm hw hB hz1 hk1 hS => ?_)
  obtain ⟨hw, hE⟩ := hw
  have hP := gz_keep hP hk1
  have hF := gf_call (a := r_97) hE hF
  generalize H1 = H at hP hS ⊢
  have gr_97 : gi r_97 0 1 := hw.1
  have hqr_97 := hw.2
  refine lv_if_eq (tgt := 39) hx hb (dk_at dkX11_reports 3 rfl) (by decide) (fun c_98 => ?_) (fun c_98 => ?_)
  · have hF := gf_pos c_98 hF
    have g_99 : gi r_97 0 0 := gi_eq c_98 (gi_c 0 0 (by decide))
    refine lv_iconst (v := 0) hx hb (dk_at dkX11_reports 21 rfl) (by decide) ?_
    refine lv_istore (lv' := [(6, .int 0), (0, .ref h0), (1, .int p1), (2, .int p2), (3, .int p3), (4, .int p4), (5, .int p5)]) hx hb (dk_at dkX11_reports 22 rfl) hl (by decide) rfl (fun ls hl => ?_)
    refine lv_iload hx hb (dk_at dkX11_reports 23 rfl) (lv_at hl 0 rfl) ?_
    refine lv_if_eq (tgt := 67) hx hb (dk_at dkX11_reports 24 rfl) (by decide) (fun c_100 => ?_) (fun c_100 => absurd (gi_is_eq (gi_c 0 0 (by decide)) (gi_c 0 0 (by decide))) c_100)
    first | have hF := gf_pos c_100 hF | skip
    refine lv_bipush (v := (-2)) hx hb (dk_at dkX11_reports 33 rfl) (by decide) ?_
    exact W.iret (v := (-2)) hx hb hr (fun t ht hW => ⟨⟨(-2), (-2), rfl, ⟨rfl, (gi_w (gi_c (-2) (-2) (by decide)) (by decide))⟩, x_courtStands, x_tallyStands, x_historyStands, areportCount, r_place, r_kind, r_month, r_day, r_known, r_struck, gx_courtStands, gx_tallyStands, gx_historyStands, gareportCount, gr_place, gr_month, gr_struck, hF.trans hR9.symm, by rw [ht]; exact hP, hD⟩, hS.F ht⟩) hS.2.2 (dk_at dkX11_reports 34 rfl)
  · have hF := gf_neg c_98 hF
    have g_101 : gi r_97 1 1 := gi_ne_lo c_98 gr_97 (gi_c 0 0 (by decide)) (by decide)
    have g_102 : gi p1 0 5 := gi_cap (gi_any p1) (hqr_97 (gz_one g_101)) (by decide)
    refine lv_iload_n hx hb (dk_at dkX11_reports 4 rfl) rfl (lv_at hl 2 rfl) ?_
    refine lv_if_lt (tgt := 39) hx hb (dk_at dkX11_reports 5 rfl) (by decide) (fun c_103 => ?_) (fun c_103 => ?_)
    · have hF := gf_pos c_103 hF
      have g_104 : gi p2 (-2147483648) (-1) := gi_lt_l c_103 (gi_any p2) (gi_c 0 0 (by decide)) (by decide)
      refine lv_iconst (v := 0) hx hb (dk_at dkX11_reports 21 rfl) (by decide) ?_
      refine lv_istore (lv' := [(6, .int 0), (0, .ref h0), (1, .int p1), (2, .int p2), (3, .int p3), (4, .int p4), (5, .int p5)]) hx hb (dk_at dkX11_reports 22 rfl) hl (by decide) rfl (fun ls hl => ?_)
      refine lv_iload hx hb (dk_at dkX11_reports 23 rfl) (lv_at hl 0 rfl) ?_
      refine lv_if_eq (tgt := 67) hx hb (dk_at dkX11_reports 24 rfl) (by decide) (fun c_105 => ?_) (fun c_105 => absurd (gi_is_eq (gi_c 0 0 (by decide)) (gi_c 0 0 (by decide))) c_105)
      first | have hF := gf_pos c_105 hF | skip
      refine lv_bipush (v := (-2)) hx hb (dk_at dkX11_reports 33 rfl) (by decide) ?_
      exact W.iret (v := (-2)) hx hb hr (fun t ht hW => ⟨⟨(-2), (-2), rfl, ⟨rfl, (gi_w (gi_c (-2) (-2) (by decide)) (by decide))⟩, x_courtStands, x_tallyStands, x_historyStands, areportCount, r_place, r_kind, r_month, r_day, r_known, r_struck, gx_courtStands, gx_tallyStands, gx_historyStands, gareportCount, gr_place, gr_month, gr_struck, hF.trans hR9.symm, by rw [ht]; exact hP, hD⟩, hS.F ht⟩) hS.2.2 (dk_at dkX11_reports 34 rfl)
    · have hF := gf_neg c_103 hF
      have g_106 : gi p2 0 2147483647 := gi_le_r (Int32.not_lt.mp c_103) (gi_c 0 0 (by decide)) (gi_any p2)
      refine lv_iload_n hx hb (dk_at dkX11_reports 6 rfl) rfl (lv_at hl 2 rfl) ?_
      refine lv_iconst (v := 2) hx hb (dk_at dkX11_reports 7 rfl) (by decide) ?_
      refine lv_icmp_gt (tgt := 39) hx hb (dk_at dkX11_reports 8 rfl) (by decide) (fun c_107 => ?_) (fun c_107 => ?_)
      · have hF := gf_pos c_107 hF
        have g_108 : gi p2 3 2147483647 := gi_lt_r c_107 (gi_c 2 2 (by decide)) g_106 (by decide)
        refine lv_iconst (v := 0) hx hb (dk_at dkX11_reports 21 rfl) (by decide) ?_
        refine lv_istore (lv' := [(6, .int 0), (0, .ref h0), (1, .int p1), (2, .int p2), (3, .int p3), (4, .int p4), (5, .int p5)]) hx hb (dk_at dkX11_reports 22 rfl) hl (by decide) rfl (fun ls hl => ?_)
        refine lv_iload hx hb (dk_at dkX11_reports 23 rfl) (lv_at hl 0 rfl) ?_
        refine lv_if_eq (tgt := 67) hx hb (dk_at dkX11_reports 24 rfl) (by decide) (fun c_109 => ?_) (fun c_109 => absurd (gi_is_eq (gi_c 0 0 (by decide)) (gi_c 0 0 (by decide))) c_109)
        first | have hF := gf_pos c_109 hF | skip
        refine lv_bipush (v := (-2)) hx hb (dk_at dkX11_reports 33 rfl) (by decide) ?_
        exact W.iret (v := (-2)) hx hb hr (fun t ht hW => ⟨⟨(-2), (-2), rfl, ⟨rfl, (gi_w (gi_c (-2) (-2) (by decide)) (by decide))⟩, x_courtStands, x_tallyStands, x_historyStands, areportCount, r_place, r_kind, r_month, r_day, r_known, r_struck, gx_courtStands, gx_tallyStands, gx_historyStands, gareportCount, gr_place, gr_month, gr_struck, hF.trans hR9.symm, by rw [ht]; exact hP, hD⟩, hS.F ht⟩) hS.2.2 (dk_at dkX11_reports 34 rfl)
      · have hF := gf_neg c_107 hF
        have g_110 : gi p2 0 2 := gi_le_l (Int32.not_lt.mp c_107) g_106 (gi_c 2 2 (by decide))
        refine lv_aload_n hx hb (dk_at dkX11_reports 9 rfl) rfl (lv_at hl 0 rfl) ?_
        refine lv_iload_n hx hb (dk_at dkX11_reports 10 rfl) rfl (lv_at hl 3 rfl) ?_
        refine lv_iconst (v := 1) hx hb (dk_at dkX11_reports 11 rfl) (by decide) ?_
        refine lv_aload_n hx hb (dk_at dkX11_reports 12 rfl) rfl (lv_at hl 0 rfl) ?_
        refine va_get (D := (dC, dI)) (ci := 11) (v := .ref am) (C := RX11) (T := TX11) (N := 16) hx hb hts (fun w h => List.mem_cons_of_mem _ (jnGA_X11 w h)) hown hK hP 0 rfl rfl 1 (by decide) (hts _ (List.mem_cons_of_mem _ mGA_14)) (fun _ h9 => h9) rfl (dk_at dkX11_reports 13 rfl) ?_
        refine va_get (D := (dC, dI)) (ci := 0) (v := .int amonths) (C := RX0) (T := TX0) (N := 13) hx hb hts (fun w h => List.mem_cons_of_mem _ (jnGA_X0 w h)) hown hK hP 1 rfl rfl 0 (by decide) (hts _ (List.mem_cons_of_mem _ mGA_353)) (fun _ h9 => h9) rfl (dk_at dkX11_reports 14 rfl) ?_
        refine lv_iconst (v := 1) hx hb (dk_at dkX11_reports 15 rfl) (by decide) ?_
        refine lv_isub hx hb (dk_at dkX11_reports 16 rfl) ?_
        refine lv_topi (fun x_111 ex_111 => ?_)
        have gx_111 : gi x_111 (-1) 23 := gi_sub ex_111 gamonths (gi_c 1 1 (by decide)) (by decide)
        have hPc := hP.sub (ws' := [(h0, .inr (11, [.ref xr, .ref am, .ref xs, .ref xf, .ref co, .ref oc, .ref ta, .ref xq, .ref xh, .ref xk, .ref xo, .int x_outLength, .int x_courtStands, .int x_courtNews, .int x_tallyStands, .int x_historyStands])), (am, .inr (0, [.int amonths, .int afull, .int alean, .int alines, .int ahasMoon, .int amoonStart, .int amoonStep, .int aplaceCount, .int areportCount, .int adeedCount, .ref pl, .ref re, .ref de]))]) [0, 1] rfl
        have hKc := hK.sub (tys' := []) [] rfl
        refine va_calli (va_runV (As := [.int p3, .int 1, .int x_111]) (rest := []) ⟨hx, hb, hml, hown, hts⟩ (sX11_hasMonthA l dC dI h0 am xr xs xf co oc ta xq xh xk xo x_outLength x_courtStands x_courtNews x_tallyStands x_historyStands amonths afull alean alines ahasMoon amoonStart amoonStep aplaceCount areportCount adeedCount pl re de p3 1 x_111 gx_outLength gx_courtStands gx_tallyStands gx_historyStands gamonths gafull galean gahasMoon gaplaceCount gareportCount gadeedCount (gi_w (gi_c 1 1 (by decide)) (by decide)) gx_111) (cwV 3 hts (gz_gV mGA_408 mGA_409 mGA_410 mGA_1 mGA_411 goodGA) rfl rfl rfl (by decide +kernel) ⟨Nat.le_of_ble_eq_true rfl, Nat.le_of_ble_eq_true rfl⟩) ⟨bl_I (bl_a bl_P (bl_a bl_K bl_nz)), va_recv hKc hPc (ci := 11) (q0 := 0) rfl rfl, fun U hU hW => ⟨rfl, by rw [hU]; exact hPc, va_K.moved hW.alike hKc, nzA_warm hW hz⟩⟩ rfl rfl hl.1 rfl (lv_room (Nat.le_of_ble_eq_true rfl)) (dk_at dkX11_reports 17 rfl) ⟨Nat.zero_le _, Nat.zero_le _⟩) hS (fun q _ h => h.elim) (fun q h => h.elim) (fun r_112 u t H1 locs ht hvm hw hB hz1 hk1 hS => ?_)
        obtain ⟨hw, hE⟩ := hw
        have hP := gz_keep hP hk1
        have hF := gf_call (a := r_112) (by rw [ex_111] at hE; exact hE) hF
        generalize H1 = H at hP hS ⊢
        have gr_112 : gi r_112 0 1 := hw.1
        have hqr_112 := hw.2
        refine lv_if_eq (tgt := 39) hx hb (dk_at dkX11_reports 18 rfl) (by decide) (fun c_113 => ?_) (fun c_113 => ?_)
        · have hF := gf_pos c_113 hF
          have g_114 : gi r_112 0 0 := gi_eq c_113 (gi_c 0 0 (by decide))
          refine lv_iconst (v := 0) hx hb (dk_at dkX11_reports 21 rfl) (by decide) ?_
          refine lv_istore (lv' := [(6, .int 0), (0, .ref h0), (1, .int p1), (2, .int p2), (3, .int p3), (4, .int p4), (5, .int p5)]) hx hb (dk_at dkX11_reports 22 rfl) hl (by decide) rfl (fun ls hl => ?_)
          refine lv_iload hx hb (dk_at dkX11_reports 23 rfl) (lv_at hl 0 rfl) ?_
          refine lv_if_eq (tgt := 67) hx hb (dk_at dkX11_reports 24 rfl) (by decide) (fun c_115 => ?_) (fun c_115 => absurd (gi_is_eq (gi_c 0 0 (by decide)) (gi_c 0 0 (by decide))) c_115)
          first | have hF := gf_pos c_115 hF | skip
          refine lv_bipush (v := (-2)) hx hb (dk_at dkX11_reports 33 rfl) (by decide) ?_
          exact W.iret (v := (-2)) hx hb hr (fun t ht hW => ⟨⟨(-2), (-2), rfl, ⟨rfl, (gi_w (gi_c (-2) (-2) (by decide)) (by decide))⟩, x_courtStands, x_tallyStands, x_historyStands, areportCount, r_place, r_kind, r_month, r_day, r_known, r_struck, gx_courtStands, gx_tallyStands, gx_historyStands, gareportCount, gr_place, gr_month, gr_struck, hF.trans hR9.symm, by rw [ht]; exact hP, hD⟩, hS.F ht⟩) hS.2.2 (dk_at dkX11_reports 34 rfl)
        · have hF := gf_neg c_113 hF
          have g_116 : gi r_112 1 1 := gi_ne_lo c_113 gr_112 (gi_c 0 0 (by decide)) (by decide)
          have g_117 : gi p3 0 23 := gi_cap (gi_any p3) (hqr_112 (gz_one g_116)) (by decide)
          refine lv_iconst (v := 1) hx hb (dk_at dkX11_reports 19 rfl) (by decide) ?_
          refine lv_goto (tgt := 40) hx hb (dk_at dkX11_reports 20 rfl) (by decide) ?_
          refine lv_istore (lv' := [(6, .int 1), (0, .ref h0), (1, .int p1), (2, .int p2), (3, .int p3), (4, .int p4), (5, .int p5)]) hx hb (dk_at dkX11_reports 22 rfl) hl (by decide) rfl (fun ls hl => ?_)
          refine lv_iload hx hb (dk_at dkX11_reports 23 rfl) (lv_at hl 0 rfl) ?_
          refine lv_if_eq (tgt := 67) hx hb (dk_at dkX11_reports 24 rfl) (by decide) (fun c_118 => absurd c_118 (gi_no_eq (gi_c 1 1 (by decide)) (gi_c 0 0 (by decide)) (by decide))) (fun c_118 => ?_)
          first | have hF := gf_neg c_118 hF | skip
          refine lv_iload hx hb (dk_at dkX11_reports 25 rfl) (lv_at hl 5 rfl) ?_
          refine lv_if_lt (tgt := 67) hx hb (dk_at dkX11_reports 26 rfl) (by decide) (fun c_119 => ?_) (fun c_119 => ?_)
          · have hF := gf_pos c_119 hF
            have g_120 : gi p4 (-2147483648) (-1) := gi_lt_l c_119 (gi_any p4) (gi_c 0 0 (by decide)) (by decide)
            refine lv_bipush (v := (-2)) hx hb (dk_at dkX11_reports 33 rfl) (by decide) ?_
            exact W.iret (v := (-2)) hx hb hr (fun t ht hW => ⟨⟨(-2), (-2), rfl, ⟨rfl, (gi_w (gi_c (-2) (-2) (by decide)) (by decide))⟩, x_courtStands, x_tallyStands, x_historyStands, areportCount, r_place, r_kind, r_month, r_day, r_known, r_struck, gx_courtStands, gx_tallyStands, gx_historyStands, gareportCount, gr_place, gr_month, gr_struck, hF.trans hR9.symm, by rw [ht]; exact hP, hD⟩, hS.F ht⟩) hS.2.2 (dk_at dkX11_reports 34 rfl)
          · have hF := gf_neg c_119 hF
            have g_121 : gi p4 0 2147483647 := gi_le_r (Int32.not_lt.mp c_119) (gi_c 0 0 (by decide)) (gi_any p4)
            refine lv_iload hx hb (dk_at dkX11_reports 27 rfl) (lv_at hl 6 rfl) ?_
            refine lv_iload hx hb (dk_at dkX11_reports 28 rfl) (lv_at hl 5 rfl) ?_
            refine lv_icmp_lt (tgt := 67) hx hb (dk_at dkX11_reports 29 rfl) (by decide) (fun c_122 => ?_) (fun c_122 => ?_)
            · have hF := gf_pos c_122 hF
              have g_123 : gi p5 (-2147483648) 2147483646 := gi_lt_l c_122 (gi_any p5) g_121 (by decide)
              refine lv_bipush (v := (-2)) hx hb (dk_at dkX11_reports 33 rfl) (by decide) ?_
              exact W.iret (v := (-2)) hx hb hr (fun t ht hW => ⟨⟨(-2), (-2), rfl, ⟨rfl, (gi_w (gi_c (-2) (-2) (by decide)) (by decide))⟩, x_courtStands, x_tallyStands, x_historyStands, areportCount, r_place, r_kind, r_month, r_day, r_known, r_struck, gx_courtStands, gx_tallyStands, gx_historyStands, gareportCount, gr_place, gr_month, gr_struck, hF.trans hR9.symm, by rw [ht]; exact hP, hD⟩, hS.F ht⟩) hS.2.2 (dk_at dkX11_reports 34 rfl)
            · have hF := gf_neg c_122 hF
              have g_124 : gi p5 0 2147483647 := gi_le_r (Int32.not_lt.mp c_122) g_121 (gi_any p5)
              refine lv_iload hx hb (dk_at dkX11_reports 30 rfl) (lv_at hl 6 rfl) ?_
              refine lv_sipush (v := 999) hx hb (dk_at dkX11_reports 31 rfl) (by decide) ?_
              refine lv_icmp_le (tgt := 70) hx hb (dk_at dkX11_reports 32 rfl) (by decide) (fun c_125 => ?_) (fun c_125 => ?_)
              · have hF := gf_pos c_125 hF
                have g_126 : gi p5 0 999 := gi_le_l c_125 g_124 (gi_c 999 999 (by decide))
                have g_127 : gi p4 0 999 := gi_rel (Int32.le_iff_toInt_le.mp (Int32.not_lt.mp c_122)) g_121 g_126
                refine lv_aload_n hx hb (dk_at dkX11_reports 35 rfl) rfl (lv_at hl 1 rfl) ?_
                refine va_get (D := (dC, dI)) (ci := 11) (v := .ref am) (C := RX11) (T := TX11) (N := 16) hx hb hts (fun w h => List.mem_cons_of_mem _ (jnGA_X11 w h)) hown hK hP 0 rfl rfl 1 (by decide) (hts _ (List.mem_cons_of_mem _ mGA_14)) (fun _ h9 => h9) rfl (dk_at dkX11_reports 36 rfl) ?_
                refine va_get (D := (dC, dI)) (ci := 0) (v := .int areportCount) (C := RX0) (T := TX0) (N := 13) hx hb hts (fun w h => List.mem_cons_of_mem _ (jnGA_X0 w h)) hown hK hP 1 rfl rfl 8 (by decide) (hts _ (List.mem_cons_of_mem _ mGA_357)) (fun _ h9 => h9) rfl (dk_at dkX11_reports 37 rfl) ?_
                refine lv_bipush (v := 24) hx hb (dk_at dkX11_reports 38 rfl) (by decide) ?_
                refine lv_icmp_lt (tgt := 85) hx hb (dk_at dkX11_reports 39 rfl) (by decide) (fun c_128 => ?_) (fun c_128 => ?_)
                · have hF := gf_pos c_128 hF
                  have g_129 : gi areportCount 0 23 := gi_lt_l c_128 gareportCount (gi_c 24 24 (by decide)) (by decide)
                  refine lv_aload_n hx hb (dk_at dkX11_reports 42 rfl) rfl (lv_at hl 1 rfl) ?_
                  refine va_get (D := (dC, dI)) (ci := 11) (v := .ref am) (C := RX11) (T := TX11) (N := 16) hx hb hts (fun w h => List.mem_cons_of_mem _ (jnGA_X11 w h)) hown hK hP 0 rfl rfl 1 (by decide) (hts _ (List.mem_cons_of_mem _ mGA_14)) (fun _ h9 => h9) rfl (dk_at dkX11_reports 43 rfl) ?_
                  refine lv_iload_n hx hb (dk_at dkX11_reports 44 rfl) rfl (lv_at hl 2 rfl) ?_
                  refine lv_iload_n hx hb (dk_at dkX11_reports 45 rfl) rfl (lv_at hl 3 rfl) ?_
                  refine lv_iload_n hx hb (dk_at dkX11_reports 46 rfl) rfl (lv_at hl 4 rfl) ?_
                  refine lv_iload hx hb (dk_at dkX11_reports 47 rfl) (lv_at hl 5 rfl) ?_
                  refine lv_iload hx hb (dk_at dkX11_reports 48 rfl) (lv_at hl 6 rfl) ?_
                  have hPc := gz_sub hP (ws' := (([(am, .inr (0, [.int amonths, .int afull, .int alean, .int alines, .int ahasMoon, .int amoonStart, .int amoonStep, .int aplaceCount, .int areportCount, .int adeedCount, .ref pl, .ref re, .ref de])), (re, .inl (kre, 24, .inr (.inr (.inr (.inr (fun i => some (ra i)))))))] : va_W) ++ (gz_fam 24 ra 7 (fun i => [.int (r_place i), .int (r_kind i), .int (r_month i), .int (r_day i), .int (r_known i), .int (r_struck i)])))) ([1, 2] ++ List.range' 3 24) (gz_ixapp rfl (gz_ixR (m := 3) (by simp only [List.length_append, gz_famlen, List.length_cons, List.length_nil]) gz_ixSelf))
                  have hKc := hK.sub (tys' := [(kre, .object RX7)]) [0] rfl
                  have hDc := hD.sub (ws' := (([(am, .inr (0, [.int amonths, .int afull, .int alean, .int alines, .int ahasMoon, .int amoonStart, .int amoonStep, .int aplaceCount, .int areportCount, .int adeedCount, .ref pl, .ref re, .ref de])), (re, .inl (kre, 24, .inr (.inr (.inr (.inr (fun i => some (ra i)))))))] : va_W) ++ (gz_fam 24 ra 7 (fun i => [.int (r_place i), .int (r_kind i), .int (r_month i), .int (r_day i), .int (r_known i), .int (r_struck i)])))) ([1, 2] ++ List.range' 3 24) (by decide +kernel) (gz_ixapp rfl (gz_ixR (m := 3) (by simp only [List.length_append, gz_famlen, List.length_cons, List.length_nil]) gz_ixSelf))
                  have hFc := va_free (wc := (([(am, .inr (0, [.int amonths, .int afull, .int alean, .int alines, .int ahasMoon, .int amoonStart, .int amoonStep, .int aplaceCount, .int areportCount, .int adeedCount, .ref pl, .ref re, .ref de])), (re, .inl (kre, 24, .inr (.inr (.inr (.inr (fun i => some (ra i)))))))] : va_W) ++ (gz_fam 24 ra 7 (fun i => [.int (r_place i), .int (r_kind i), .int (r_month i), .int (r_day i), .int (r_known i), .int (r_struck i)])))) hD hS hA ([1, 2] ++ List.range' 3 24) (gz_ixapp rfl (gz_ixR (m := 3) (by simp only [List.length_append, gz_famlen, List.length_cons, List.length_nil]) gz_ixSelf))
                  refine va_callv (va_runV (As := [.int p1, .int p2, .int p3, .int p4, .int p5]) (rest := []) ⟨hx, hb, hml, hown, hts⟩ (sX0_addReport l dC dI H.size am re ra amonths afull alean alines ahasMoon amoonStart amoonStep aplaceCount areportCount adeedCount pl de kre r_place r_kind r_month r_day r_known r_struck p1 p2 p3 p4 p5 gamonths gafull galean gahasMoon gaplaceCount (gi_w g_129 (by decide)) gadeedCount gr_place gr_month gr_struck g_102 g_117) (cwV 5 hts (gz_gV mGA_898 mGA_314 mGA_315 mGA_13 mGA_316 goodGA) rfl rfl rfl (by decide +kernel) ⟨Nat.le_of_ble_eq_true rfl, Nat.le_of_ble_eq_true rfl⟩) ⟨bl_I (bl_a bl_sz (bl_a bl_P (bl_a bl_K (bl_a bl_c bl_nz)))), va_recv hKc hPc (ci := 0) (q0 := 0) rfl rfl, fun U hU hW => ⟨rfl, by rw [hU], by rw [hU]; exact hPc, va_K.moved hW.alike hKc, hDc.weaken (fun _ _ _ _ => trivial), nzA_warm hW hz⟩⟩ rfl rfl hl.1 rfl (lv_room (Nat.le_of_ble_eq_true rfl)) (dk_at dkX11_reports 49 rfl) ⟨Nat.zero_le _, Nat.zero_le _⟩) hS (fun q _ h => hFc q h) hFc (fun u t H1 locs ht hvm hw hB hz1 hk1 hS => ?_)
                  obtain ⟨y_131, f_132, f_133, f_134, f_135, f_136, f_137, hB⟩ := hB
                  obtain ⟨gy_131, gf_132, gf_134, gf_137, hE, hP1, hD1⟩ := hB
                  rw [ht] at hP1
                  obtain ⟨hP, hD⟩ := va_join (wr := [(h0, .inr (11, [.ref xr, .ref am, .ref xs, .ref xf, .ref co, .ref oc, .ref ta, .ref xq, .ref xh, .ref xk, .ref xo, .int x_outLength, .int x_courtStands, .int x_courtNews, .int x_tallyStands, .int x_historyStands]))]) (w1 := (([(am, .inr (0, [.int amonths, .int afull, .int alean, .int alines, .int ahasMoon, .int amoonStart, .int amoonStep, .int aplaceCount, .int y_131, .int adeedCount, .ref pl, .ref re, .ref de])), (re, .inl (kre, 24, .inr (.inr (.inr (.inr (fun i => some (ra i)))))))] : va_W) ++ (gz_fam 24 ra 7 (fun i => [.int (f_132 i), .int (f_133 i), .int (f_134 i), .int (f_135 i), .int (f_136 i), .int (f_137 i)])))) hP hD ([1, 2] ++ List.range' 3 24) [0] (gz_ixapp rfl (gz_ixR (m := 3) (by simp only [List.length_append, gz_famlen, List.length_cons, List.length_nil]) gz_ixSelf)) rfl (by decide +kernel) (by decide +kernel) hk1 hFc hP1 hD1
                  have hP := gz_sub hP (ws' := (([(h0, .inr (11, [.ref xr, .ref am, .ref xs, .ref xf, .ref co, .ref oc, .ref ta, .ref xq, .ref xh, .ref xk, .ref xo, .int x_outLength, .int x_courtStands, .int x_courtNews, .int x_tallyStands, .int x_historyStands])), (am, .inr (0, [.int amonths, .int afull, .int alean, .int alines, .int ahasMoon, .int amoonStart, .int amoonStep, .int aplaceCount, .int y_131, .int adeedCount, .ref pl, .ref re, .ref de])), (re, .inl (kre, 24, .inr (.inr (.inr (.inr (fun i => some (ra i)))))))] : va_W) ++ (gz_fam 24 ra 7 (fun i => [.int (f_132 i), .int (f_133 i), .int (f_134 i), .int (f_135 i), .int (f_136 i), .int (f_137 i)])))) ([0, 1, 2] ++ List.range' 3 24) (gz_ixapp rfl (gz_ixR (m := 1) (by simp only [List.length_append, gz_famlen, List.length_cons, List.length_nil]) (gz_ixR (m := 2) (by simp only [List.length_append, gz_famlen, List.length_cons, List.length_nil]) gz_ixSelf)))
                  have hD := hD.sub (ws' := (([(h0, .inr (11, [.ref xr, .ref am, .ref xs, .ref xf, .ref co, .ref oc, .ref ta, .ref xq, .ref xh, .ref xk, .ref xo, .int x_outLength, .int x_courtStands, .int x_courtNews, .int x_tallyStands, .int x_historyStands])), (am, .inr (0, [.int amonths, .int afull, .int alean, .int alines, .int ahasMoon, .int amoonStart, .int amoonStep, .int aplaceCount, .int y_131, .int adeedCount, .ref pl, .ref re, .ref de])), (re, .inl (kre, 24, .inr (.inr (.inr (.inr (fun i => some (ra i)))))))] : va_W) ++ (gz_fam 24 ra 7 (fun i => [.int (f_132 i), .int (f_133 i), .int (f_134 i), .int (f_135 i), .int (f_136 i), .int (f_137 i)])))) ([0, 1, 2] ++ List.range' 3 24) (by decide +kernel) (gz_ixapp rfl (gz_ixR (m := 1) (by simp only [List.length_append, gz_famlen, List.length_cons, List.length_nil]) (gz_ixR (m := 2) (by simp only [List.length_append, gz_famlen, List.length_cons, List.length_nil]) gz_ixSelf)))
                  have hF := gf_call (a := (y_131, f_132, f_133, f_134, f_135, f_136, f_137)) hE hF
                  generalize H1 = H at hP hS ⊢
                  refine lv_aload_n hx hb (dk_at dkX11_reports 50 rfl) rfl (lv_at hl 1 rfl) ?_
                  have hPc := hP.sub (ws' := [(h0, .inr (11, [.ref xr, .ref am, .ref xs, .ref xf, .ref co, .ref oc, .ref ta, .ref xq, .ref xh, .ref xk, .ref xo, .int x_outLength, .int x_courtStands, .int x_courtNews, .int x_tallyStands, .int x_historyStands]))]) [0] rfl
                  have hKc := hK.sub (tys' := []) [] rfl
                  have hDc := hD.sub (ws' := [(h0, .inr (11, [.ref xr, .ref am, .ref xs, .ref xf, .ref co, .ref oc, .ref ta, .ref xq, .ref xh, .ref xk, .ref xo, .int x_outLength, .int x_courtStands, .int x_courtNews, .int x_tallyStands, .int x_historyStands]))]) [0] (by decide) rfl
                  have hFc := va_free (wc := [(h0, .inr (11, [.ref xr, .ref am, .ref xs, .ref xf, .ref co, .ref oc, .ref ta, .ref xq, .ref xh, .ref xk, .ref xo, .int x_outLength, .int x_courtStands, .int x_courtNews, .int x_tallyStands, .int x_historyStands]))]) hD hS hA [0] rfl
                  refine va_callv (va_runV (As := []) (rest := []) ⟨hx, hb, hml, hown, hts⟩ (sX11_forget l dC dI H.size h0 xr am xs xf co oc ta xq xh xk xo x_outLength x_courtStands x_courtNews x_tallyStands x_historyStands gx_outLength gx_courtStands gx_tallyStands gx_historyStands) (cwV 0 hts (gz_gV mGA_340 mGA_341 mGA_342 mGA_1 mGA_343 goodGA) rfl rfl rfl (by decide +kernel) ⟨Nat.le_of_ble_eq_true rfl, Nat.le_of_ble_eq_true rfl⟩) ⟨bl_I (bl_a bl_sz (bl_a bl_P (bl_a bl_K (bl_a bl_c bl_nz)))), va_recv hKc hPc (ci := 11) (q0 := 0) rfl rfl, fun U hU hW => ⟨rfl, by rw [hU], by rw [hU]; exact hPc, va_K.moved hW.alike hKc, hDc.weaken (fun _ _ _ _ => trivial), nzA_warm hW hz⟩⟩ rfl rfl hl.1 rfl (lv_room (Nat.le_of_ble_eq_true rfl)) (dk_at dkX11_reports 51 rfl) ⟨Nat.zero_le _, Nat.zero_le _⟩) hS (fun q _ h => hFc q h) hFc (fun u t H1 locs ht hvm hw hB hz1 hk1 hS => ?_)
                  obtain ⟨y_139, y_140, y_141, hB⟩ := hB
                  obtain ⟨gy_139, gy_140, gy_141, hE, hP1, hD1⟩ := hB
                  rw [ht] at hP1
                  obtain ⟨hP, hD⟩ := va_join (wr := (([(am, .inr (0, [.int amonths, .int afull, .int alean, .int alines, .int ahasMoon, .int amoonStart, .int amoonStep, .int aplaceCount, .int y_131, .int adeedCount, .ref pl, .ref re, .ref de])), (re, .inl (kre, 24, .inr (.inr (.inr (.inr (fun i => some (ra i)))))))] : va_W) ++ (gz_fam 24 ra 7 (fun i => [.int (f_132 i), .int (f_133 i), .int (f_134 i), .int (f_135 i), .int (f_136 i), .int (f_137 i)])))) (w1 := [(h0, .inr (11, [.ref xr, .ref am, .ref xs, .ref xf, .ref co, .ref oc, .ref ta, .ref xq, .ref xh, .ref xk, .ref xo, .int x_outLength, .int y_139, .int x_courtNews, .int y_140, .int y_141]))]) hP hD [0] ([1, 2] ++ List.range' 3 24) rfl (gz_ixapp rfl (gz_ixR (m := 3) (by simp only [List.length_append, gz_famlen, List.length_cons, List.length_nil]) gz_ixSelf)) (by decide +kernel) (by decide +kernel) hk1 hFc hP1 hD1
                  have hP := gz_sub hP (ws' := (([(h0, .inr (11, [.ref xr, .ref am, .ref xs, .ref xf, .ref co, .ref oc, .ref ta, .ref xq, .ref xh, .ref xk, .ref xo, .int x_outLength, .int y_139, .int x_courtNews, .int y_140, .int y_141])), (am, .inr (0, [.int amonths, .int afull, .int alean, .int alines, .int ahasMoon, .int amoonStart, .int amoonStep, .int aplaceCount, .int y_131, .int adeedCount, .ref pl, .ref re, .ref de])), (re, .inl (kre, 24, .inr (.inr (.inr (.inr (fun i => some (ra i)))))))] : va_W) ++ (gz_fam 24 ra 7 (fun i => [.int (f_132 i), .int (f_133 i), .int (f_134 i), .int (f_135 i), .int (f_136 i), .int (f_137 i)])))) ([26, 0, 1] ++ List.range' 2 24) (gz_ixapp rfl (gz_ixL (gz_ixR (m := 2) (by simp only [List.length_append, gz_famlen, List.length_cons, List.length_nil]) gz_ixSelf)))
                  have hD := hD.sub (ws' := (([(h0, .inr (11, [.ref xr, .ref am, .ref xs, .ref xf, .ref co, .ref oc, .ref ta, .ref xq, .ref xh, .ref xk, .ref xo, .int x_outLength, .int y_139, .int x_courtNews, .int y_140, .int y_141])), (am, .inr (0, [.int amonths, .int afull, .int alean, .int alines, .int ahasMoon, .int amoonStart, .int amoonStep, .int aplaceCount, .int y_131, .int adeedCount, .ref pl, .ref re, .ref de])), (re, .inl (kre, 24, .inr (.inr (.inr (.inr (fun i => some (ra i)))))))] : va_W) ++ (gz_fam 24 ra 7 (fun i => [.int (f_132 i), .int (f_133 i), .int (f_134 i), .int (f_135 i), .int (f_136 i), .int (f_137 i)])))) ([26, 0, 1] ++ List.range' 2 24) (by decide +kernel) (gz_ixapp rfl (gz_ixL (gz_ixR (m := 2) (by simp only [List.length_append, gz_famlen, List.length_cons, List.length_nil]) gz_ixSelf)))
                  have hF := gf_call (a := (y_139, y_140, y_141)) hE hF
                  generalize H1 = H at hP hS ⊢
                  refine lv_aload_n hx hb (dk_at dkX11_reports 52 rfl) rfl (lv_at hl 1 rfl) ?_
                  refine va_get (D := (dC, dI)) (ci := 11) (v := .ref am) (C := RX11) (T := TX11) (N := 16) hx hb hts (fun w h => List.mem_cons_of_mem _ (jnGA_X11 w h)) hown hK hP 0 rfl rfl 1 (by decide) (hts _ (List.mem_cons_of_mem _ mGA_14)) (fun _ h9 => h9) rfl (dk_at dkX11_reports 53 rfl) ?_
                  refine va_get (D := (dC, dI)) (ci := 0) (v := .int y_131) (C := RX0) (T := TX0) (N := 13) hx hb hts (fun w h => List.mem_cons_of_mem _ (jnGA_X0 w h)) hown hK hP 1 rfl rfl 8 (by decide) (hts _ (List.mem_cons_of_mem _ mGA_357)) (fun _ h9 => h9) rfl (dk_at dkX11_reports 54 rfl) ?_
                  refine lv_iconst (v := 1) hx hb (dk_at dkX11_reports 55 rfl) (by decide) ?_
                  refine lv_isub hx hb (dk_at dkX11_reports 56 rfl) ?_
                  refine lv_topi (fun x_142 ex_142 => ?_)
                  have gx_142 : gi x_142 (-1) 23 := gi_sub ex_142 gy_131 (gi_c 1 1 (by decide)) (by decide)
                  exact W.iret (v := x_142) hx hb hr (fun t ht hW => ⟨⟨x_142, x_142, rfl, ⟨rfl, (gi_w gx_142 (by decide))⟩, y_139, y_140, y_141, y_131, f_132, f_133, f_134, f_135, f_136, f_137, gy_139, gy_140, gy_141, gy_131, gf_132, gf_134, gf_137, by rw [ex_142]; exact hF.trans hR9.symm, by rw [ht]; exact hP, hD⟩, hS.F ht⟩) hS.2.2 (dk_at dkX11_reports 57 rfl)
                · have hF := gf_neg c_128 hF
                  have g_143 : gi areportCount 24 24 := gi_le_r (Int32.not_lt.mp c_128) (gi_c 24 24 (by decide)) gareportCount
                  refine lv_bipush (v := (-5)) hx hb (dk_at dkX11_reports 40 rfl) (by decide) ?_
                  exact W.iret (v := (-5)) hx hb hr (fun t ht hW => ⟨⟨(-5), (-5), rfl, ⟨rfl, (gi_w (gi_c (-5) (-5) (by decide)) (by decide))⟩, x_courtStands, x_tallyStands, x_historyStands, areportCount, r_place, r_kind, r_month, r_day, r_known, r_struck, gx_courtStands, gx_tallyStands, gx_historyStands, (gi_w g_143 (by decide)), gr_place, gr_month, gr_struck, hF.trans hR9.symm, by rw [ht]; exact hP, hD⟩, hS.F ht⟩) hS.2.2 (dk_at dkX11_reports 41 rfl)
              · have hF := gf_neg c_125 hF
                have g_144 : gi p5 1000 2147483647 := gi_lt_r (Int32.not_le.mp c_125) (gi_c 999 999 (by decide)) g_124 (by decide)
                refine lv_bipush (v := (-2)) hx hb (dk_at dkX11_reports 33 rfl) (by decide) ?_
                exact W.iret (v := (-2)) hx hb hr (fun t ht hW => ⟨⟨(-2), (-2), rfl, ⟨rfl, (gi_w (gi_c (-2) (-2) (by decide)) (by decide))⟩, x_courtStands, x_tallyStands, x_historyStands, areportCount, r_place, r_kind, r_month, r_day, r_known, r_struck, gx_courtStands, gx_tallyStands, gx_historyStands, gareportCount, gr_place, gr_month, gr_struck, hF.trans hR9.symm, by rw [ht]; exact hP, hD⟩, hS.F ht⟩) hS.2.2 (dk_at dkX11_reports 34 rfl)
noncomputable def lsX11_strikes : List (Nat × Instr × Nat) := [(0, .aload_n 0, 1), (1, .iload_n 1, 1), (2, .invokevirtual 164, 3), (5, .ifCond .ne 6, 3), (8, .bipush (-2), 2), (10, .ireturn, 1), (11, .aload_n 0, 1), (12, .getfield 19, 3), (15, .getfield 167, 3), (18, .iload_n 1, 1), (19, .aaload, 1), (20, .getfield 176, 3), (23, .ifCond .eq 6, 3), (26, .bipush (-5), 2), (28, .ireturn, 1), (29, .aload_n 0, 1), (30, .getfield 19, 3), (33, .getfield 167, 3), (36, .iload_n 1, 1), (37, .aaload, 1), (38, .iconst 1, 1), (39, .putfield 176, 3), (42, .aload_n 0, 1), (43, .invokevirtual 111, 3), (46, .aload_n 0, 1), (47, .getfield 19, 3), (50, .invokevirtual 392, 3), (53, .ireturn, 1)]
theorem dkX11_strikes : dkAll cX11_strikes lsX11_strikes = true := by decide +kernel
noncomputable def fX11_strikes (x_courtStands : Int32) (x_tallyStands : Int32) (x_historyStands : Int32) (aplaceCount : Int32) (areportCount : Int32) (r_place : Nat → Int32) (r_struck : Nat → Int32) (p1 : Int32) : Int32 × Int32 × Int32 × Int32 × (Nat → Int32) := cal (fun o1 => if o1 = (0 : Int32) then ((-2 : Int32), x_courtStands, x_tallyStands, x_historyStands, r_struck) else (if (r_struck p1.toNatClampNeg) = (0 : Int32) then (cal (fun o2 => cal (fun o3 => (o3, o2.1, o2.2.1, o2.2.2, (upd r_struck (p1.toNatClampNeg) (1 : Int32)))) (fX0_standing aplaceCount areportCount r_place (upd r_struck (p1.toNatClampNeg) (1 : Int32)))) fX11_forget) else ((-5 : Int32), x_courtStands, x_tallyStands, x_historyStands, r_struck))) (fX11_hasReport areportCount p1)
abbrev pb_sX11_strikes (dC : Nat → ClassId) (dI : Nat → Nat → Nat) (A9 : Nat → Prop) (h0 : Nat) (am : Nat) (re : Nat) (ra : Nat → Nat) (xr : Nat) (xs : Nat) (xf : Nat) (co : Nat) (oc : Nat) (ta : Nat) (xq : Nat) (xh : Nat) (xk : Nat) (xo : Nat) (x_outLength : Int32) (x_courtStands : Int32) (x_courtNews : Int32) (x_tallyStands : Int32) (x_historyStands : Int32) (amonths : Int32) (afull : Int32) (alean : Int32) (alines : Int32) (ahasMoon : Int32) (amoonStart : Int32) (amoonStep : Int32) (aplaceCount : Int32) (areportCount : Int32) (adeedCount : Int32) (pl : Nat) (de : Nat) (kre : ClassId) (r_place : Nat → Int32) (r_kind : Nat → Int32) (r_month : Nat → Int32) (r_day : Nat → Int32) (r_known : Nat → Int32) (r_struck : Nat → Int32) (p1 : Int32) (r : Int32) (w0_12 : Int32) (w0_14 : Int32) (w0_15 : Int32) (z3_5 : Nat → Int32) (t : State) : Prop := gi w0_12 0 1 ∧ gi w0_14 0 1 ∧ gi w0_15 0 1 ∧ ga z3_5 24 0 1 ∧ (r, w0_12, w0_14, w0_15, z3_5) = fX11_strikes x_courtStands x_tallyStands x_historyStands aplaceCount areportCount r_place r_struck p1 ∧ va_P (dC, dI) vwCl (([(h0, .inr (11, [.ref xr, .ref am, .ref xs, .ref xf, .ref co, .ref oc, .ref ta, .ref xq, .ref xh, .ref xk, .ref xo, .int x_outLength, .int w0_12, .int x_courtNews, .int w0_14, .int w0_15])), (am, .inr (0, [.int amonths, .int afull, .int alean, .int alines, .int ahasMoon, .int amoonStart, .int amoonStep, .int aplaceCount, .int areportCount, .int adeedCount, .ref pl, .ref re, .ref de])), (re, .inl (kre, 24, .inr (.inr (.inr (.inr (fun i => some (ra i)))))))] : va_W) ++ (gz_fam 24 ra 7 (fun i => [.int (r_place i), .int (r_kind i), .int (r_month i), .int (r_day i), .int (r_known i), .int (z3_5 i)]))) t.heap ∧ va_D A9 (([(h0, .inr (11, [.ref xr, .ref am, .ref xs, .ref xf, .ref co, .ref oc, .ref ta, .ref xq, .ref xh, .ref xk, .ref xo, .int x_outLength, .int w0_12, .int x_courtNews, .int w0_14, .int w0_15])), (am, .inr (0, [.int amonths, .int afull, .int alean, .int alines, .int ahasMoon, .int amoonStart, .int amoonStep, .int aplaceCount, .int areportCount, .int adeedCount, .ref pl, .ref re, .ref de])), (re, .inl (kre, 24, .inr (.inr (.inr (.inr (fun i => some (ra i)))))))] : va_W) ++ (gz_fam 24 ra 7 (fun i => [.int (r_place i), .int (r_kind i), .int (r_month i), .int (r_day i), .int (r_known i), .int (z3_5 i)])))
set_option maxHeartbeats 4000000 in
set_option maxRecDepth 100000 in
theorem sX11_strikes (l : Launch) (dC : Nat → ClassId) (dI : Nat → Nat → Nat) (sz : Nat) (h0 : Nat) (am : Nat) (re : Nat) (ra : Nat → Nat) (xr : Nat) (xs : Nat) (xf : Nat) (co : Nat) (oc : Nat) (ta : Nat) (xq : Nat) (xh : Nat) (xk : Nat) (xo : Nat) (x_outLength : Int32) (x_courtStands : Int32) (x_courtNews : Int32) (x_tallyStands : Int32) (x_historyStands : Int32) (amonths : Int32) (afull : Int32) (alean : Int32) (alines : Int32) (ahasMoon : Int32) (amoonStart : Int32) (amoonStep : Int32) (aplaceCount : Int32) (areportCount : Int32) (adeedCount : Int32) (pl : Nat) (de : Nat) (kre : ClassId) (r_place : Nat → Int32) (r_kind : Nat → Int32) (r_month : Nat → Int32) (r_day : Nat → Int32) (r_known : Nat → Int32) (r_struck : Nat → Int32) (p1 : Int32) (gx_outLength : gi x_outLength 0 72) (gx_courtStands : gi x_courtStands 0 1) (gx_tallyStands : gi x_tallyStands 0 1) (gx_historyStands : gi x_historyStands 0 1) (gamonths : gi amonths 0 24) (gafull : gi afull 0 5) (galean : gi alean 0 5) (gahasMoon : gi ahasMoon 0 1) (gaplaceCount : gi aplaceCount 0 6) (gareportCount : gi areportCount 0 24) (gadeedCount : gi adeedCount 0 8) (gr_place : ga r_place 24 0 5) (gr_month : ga r_month 24 0 23) (gr_struck : ga r_struck 24 0 1) : Met l yX11_strikes (.code yX11_strikes cX11_strikes 2 (some .int) :: wsGA) ({ frames := 2, cells := 0, slots := 0, locals := 45 }) (va_Pc [.ref h0, .int p1] (fun U => U.heap.size = sz ∧ va_P (dC, dI) vwCl (([(h0, .inr (11, [.ref xr, .ref am, .ref xs, .ref xf, .ref co, .ref oc, .ref ta, .ref xq, .ref xh, .ref xk, .ref xo, .int x_outLength, .int x_courtStands, .int x_courtNews, .int x_tallyStands, .int x_historyStands])), (am, .inr (0, [.int amonths, .int afull, .int alean, .int alines, .int ahasMoon, .int amoonStart, .int amoonStep, .int aplaceCount, .int areportCount, .int adeedCount, .ref pl, .ref re, .ref de])), (re, .inl (kre, 24, .inr (.inr (.inr (.inr (fun i => some (ra i)))))))] : va_W) ++ (gz_fam 24 ra 7 (fun i => [.int (r_place i), .int (r_kind i), .int (r_month i), .int (r_day i), .int (r_known i), .int (r_struck i)]))) U.heap ∧ va_K (dC, dI) vwCl [(kre, .object RX7)] U ∧ va_D (fun _ => True) (([(h0, .inr (11, [.ref xr, .ref am, .ref xs, .ref xf, .ref co, .ref oc, .ref ta, .ref xq, .ref xh, .ref xk, .ref xo, .int x_outLength, .int x_courtStands, .int x_courtNews, .int x_tallyStands, .int x_historyStands])), (am, .inr (0, [.int amonths, .int afull, .int alean, .int alines, .int ahasMoon, .int amoonStart, .int amoonStep, .int aplaceCount, .int areportCount, .int adeedCount, .ref pl, .ref re, .ref de])), (re, .inl (kre, 24, .inr (.inr (.inr (.inr (fun i => some (ra i)))))))] : va_W) ++ (gz_fam 24 ra 7 (fun i => [.int (r_place i), .int (r_kind i), .int (r_month i), .int (r_day i), .int (r_known i), .int (r_struck i)]))) ∧ nzA U)) (va_Qi (fun (r : Int32) (u : Int32) => r = u ∧ gi r (-2147483648) 2147483647) (fun r t => ∃ (w0_12 : Int32) (w0_14 : Int32) (w0_15 : Int32) (z3_5 : Nat → Int32), pb_sX11_strikes dC dI (va_A (([(h0, .inr (11, [.ref xr, .ref am, .ref xs, .ref xf, .ref co, .ref oc, .ref ta, .ref xq, .ref xh, .ref xk, .ref xo, .int x_outLength, .int x_courtStands, .int x_courtNews, .int x_tallyStands, .int x_historyStands])), (am, .inr (0, [.int amonths, .int afull, .int alean, .int alines, .int ahasMoon, .int amoonStart, .int amoonStep, .int aplaceCount, .int areportCount, .int adeedCount, .ref pl, .ref re, .ref de])), (re, .inl (kre, 24, .inr (.inr (.inr (.inr (fun i => some (ra i)))))))] : va_W) ++ (gz_fam 24 ra 7 (fun i => [.int (r_place i), .int (r_kind i), .int (r_month i), .int (r_day i), .int (r_known i), .int (r_struck i)]))) sz) h0 am re ra xr xs xf co oc ta xq xh xk xo x_outLength x_courtStands x_courtNews x_tallyStands x_historyStands amonths afull alean alines ahasMoon amoonStart amoonStep aplaceCount areportCount adeedCount pl de kre r_place r_kind r_month r_day r_known r_struck p1 r w0_12 w0_14 w0_15 z3_5 t) (va_A (([(h0, .inr (11, [.ref xr, .ref am, .ref xs, .ref xf, .ref co, .ref oc, .ref ta, .ref xq, .ref xh, .ref xk, .ref xo, .int x_outLength, .int x_courtStands, .int x_courtNews, .int x_tallyStands, .int x_historyStands])), (am, .inr (0, [.int amonths, .int afull, .int alean, .int alines, .int ahasMoon, .int amoonStart, .int amoonStep, .int aplaceCount, .int areportCount, .int adeedCount, .ref pl, .ref re, .ref de])), (re, .inl (kre, 24, .inr (.inr (.inr (.inr (fun i => some (ra i)))))))] : va_W) ++ (gz_fam 24 ra 7 (fun i => [.int (r_place i), .int (r_kind i), .int (r_month i), .int (r_day i), .int (r_known i), .int (r_struck i)]))) sz)) 0 0 (va_A (([(h0, .inr (11, [.ref xr, .ref am, .ref xs, .ref xf, .ref co, .ref oc, .ref ta, .ref xq, .ref xh, .ref xk, .ref xo, .int x_outLength, .int x_courtStands, .int x_courtNews, .int x_tallyStands, .int x_historyStands])), (am, .inr (0, [.int amonths, .int afull, .int alean, .int alines, .int ahasMoon, .int amoonStart, .int amoonStep, .int aplaceCount, .int areportCount, .int adeedCount, .ref pl, .ref re, .ref de])), (re, .inl (kre, 24, .inr (.inr (.inr (.inr (fun i => some (ra i)))))))] : va_W) ++ (gz_fam 24 ra 7 (fun i => [.int (r_place i), .int (r_kind i), .int (r_month i), .int (r_day i), .int (r_known i), .int (r_struck i)]))) sz) := by
  refine Met.ofW (cc := cX11_strikes) (maxL := 2) (ret := (some .int)) (by decide) rfl ?_
  intro p e s m args below meth c s₁ B hml hv
  obtain ⟨rfl, hsz, hP, hK, hD0, hz⟩ := hv
  have hx := B.exec
  have hb := B.bytes
  have hr := B.returns
  have hts := atoms_spec (ws := (.code yX11_strikes cX11_strikes 2 (some .int) :: wsGA)) B.pre
  have hown : s.vm.findClass RX11 = some m.cls := findClass_of_methodNamed B.named
  have hlocks := B.notSynchronized
  subst hsz
  have hD := hD0.self (sz := s.heap.size)
  generalize hAe : va_A (([(h0, .inr (11, [.ref xr, .ref am, .ref xs, .ref xf, .ref co, .ref oc, .ref ta, .ref xq, .ref xh, .ref xk, .ref xo, .int x_outLength, .int x_courtStands, .int x_courtNews, .int x_tallyStands, .int x_historyStands])), (am, .inr (0, [.int amonths, .int afull, .int alean, .int alines, .int ahasMoon, .int amoonStart, .int amoonStep, .int aplaceCount, .int areportCount, .int adeedCount, .ref pl, .ref re, .ref de])), (re, .inl (kre, 24, .inr (.inr (.inr (.inr (fun i => some (ra i)))))))] : va_W) ++ (gz_fam 24 ra 7 (fun i => [.int (r_place i), .int (r_kind i), .int (r_month i), .int (r_day i), .int (r_known i), .int (r_struck i)]))) s.heap.size = A at hD ⊢
  have hA : ∀ q : Nat, s.heap.size ≤ q → A q := fun q h => by rw [← hAe]; exact Or.inr h
  have hS : va_S A s.heap s.heap [] := va_S.rf
  have hl := lv_entry ([.ref h0, .int p1]) (n := 2) (Nat.le_of_ble_eq_true rfl)
  rw [lg_entry_eq]
  generalize (lg_sl ([.ref h0, .int p1]) ++ List.replicate (2 - (lg_sl ([.ref h0, .int p1])).length) Slot.unset).toArray = ls at hl ⊢
  have hl : lv_has ls 2 [(0, .ref h0), (1, .int p1)] := hl
  obtain ⟨RES, hF⟩ : ∃ R9, fX11_strikes x_courtStands x_tallyStands x_historyStands aplaceCount areportCount r_place r_struck p1 = R9 := ⟨_, rfl⟩
  have hR9 := hF
  refine lv_aload_n hx hb (dk_at dkX11_strikes 0 rfl) rfl (lv_at hl 0 rfl) ?_
  refine lv_iload_n hx hb (dk_at dkX11_strikes 1 rfl) rfl (lv_at hl 1 rfl) ?_
  have hPc := hP.sub (ws' := [(h0, .inr (11, [.ref xr, .ref am, .ref xs, .ref xf, .ref co, .ref oc, .ref ta, .ref xq, .ref xh, .ref xk, .ref xo, .int x_outLength, .int x_courtStands, .int x_courtNews, .int x_tallyStands, .int x_historyStands])), (am, .inr (0, [.int amonths, .int afull, .int alean, .int alines, .int ahasMoon, .int amoonStart, .int amoonStep, .int aplaceCount, .int areportCount, .int adeedCount, .ref pl, .ref re, .ref de]))]) [0, 1] rfl
  have hKc := hK.sub (tys' := []) [] rfl
  refine va_calli (va_runV (As := [.int p1]) (rest := []) ⟨hx, hb, hml, hown, hts⟩ (sX11_hasReport l dC dI h0 am xr xs xf co oc ta xq xh xk xo x_outLength x_courtStands x_courtNews x_tallyStands x_historyStands amonths afull alean alines ahasMoon amoonStart amoonStep aplaceCount areportCount adeedCount pl re de p1 gx_outLength gx_courtStands gx_tallyStands gx_historyStands gamonths gafull galean gahasMoon gaplaceCount gareportCount gadeedCount) (cwV 1 hts (gz_gV mGA_388 mGA_389 mGA_390 mGA_1 mGA_391 goodGA) rfl rfl rfl (by decide +kernel) ⟨Nat.le_of_ble_eq_true rfl, Nat.le_of_ble_eq_true rfl⟩) ⟨bl_I (bl_a bl_P (bl_a bl_K bl_nz)), va_recv hKc hPc (ci := 11) (q0 := 0) rfl rfl, fun U hU hW => ⟨rfl, by rw [hU]; exact hPc, va_K.moved hW.alike hKc, nzA_warm hW hz⟩⟩ rfl rfl hl.1 rfl (lv_room (Nat.le_of_ble_eq_true rfl)) (dk_at dkX11_strikes 2 rfl) ⟨Nat.zero_le _, Nat.zero_le _⟩) hS (fun q _ h => h.elim) (fun q h => h.elim) (fun r_31 u t H1 locs ht hvm hw hB hz1 hk1 hS => ?_)
  obtain ⟨hw, hE⟩ := hw
  have hP := gz_keep hP hk1
  have hF := gf_call (a := r_31) hE hF
  generalize H1 = H at hP hS ⊢
  have gr_31 : gi r_31 0 1 := hw.1
  have hqr_31 := hw.2
  refine lv_if_ne (tgt := 11) hx hb (dk_at dkX11_strikes 3 rfl) (by decide) (fun c_32 => ?_) (fun c_32 => ?_)
  · have hF := gf_neg c_32 hF
    have g_33 : gi r_31 1 1 := gi_ne_lo c_32 gr_31 (gi_c 0 0 (by decide)) (by decide)
    have g_34 : gi p1 0 23 := gi_cap (gi_any p1) (hqr_31 (gz_one g_33)) (by decide)
    refine lv_aload_n hx hb (dk_at dkX11_strikes 6 rfl) rfl (lv_at hl 0 rfl) ?_
    refine va_get (D := (dC, dI)) (ci := 11) (v := .ref am) (C := RX11) (T := TX11) (N := 16) hx hb hts (fun w h => List.mem_cons_of_mem _ (jnGA_X11 w h)) hown hK hP 0 rfl rfl 1 (by decide) (hts _ (List.mem_cons_of_mem _ mGA_14)) (fun _ h9 => h9) rfl (dk_at dkX11_strikes 7 rfl) ?_
    refine va_get (D := (dC, dI)) (ci := 0) (v := .ref re) (C := RX0) (T := TX0) (N := 13) hx hb hts (fun w h => List.mem_cons_of_mem _ (jnGA_X0 w h)) hown hK hP 1 rfl rfl 11 (by decide) (hts _ (List.mem_cons_of_mem _ mGA_381)) (fun _ h9 => h9) rfl (dk_at dkX11_strikes 8 rfl) ?_
    refine lv_iload_n hx hb (dk_at dkX11_strikes 9 rfl) rfl (lv_at hl 1 rfl) ?_
    refine va_aldq hx hb hK hP 2 0 rfl rfl (gi_in g_34 (by decide)) (dk_at dkX11_strikes 10 rfl) ?_
    refine W.eq (g2 := F0 m 20 ls [.ref (ra p1.toNatClampNeg)]) rfl ?_
    refine va_get (D := (dC, dI)) (ci := 7) (v := .int (r_struck p1.toNatClampNeg)) (C := RX7) (T := TX7) (N := 6) hx hb hts (fun w h => List.mem_cons_of_mem _ (jnGA_X7 w h)) hown hK hP (List.length [(h0, .inr (11, [.ref xr, .ref am, .ref xs, .ref xf, .ref co, .ref oc, .ref ta, .ref xq, .ref xh, .ref xk, .ref xo, .int x_outLength, .int x_courtStands, .int x_courtNews, .int x_tallyStands, .int x_historyStands])), (am, .inr (0, [.int amonths, .int afull, .int alean, .int alines, .int ahasMoon, .int amoonStart, .int amoonStep, .int aplaceCount, .int areportCount, .int adeedCount, .ref pl, .ref re, .ref de])), (re, .inl (kre, 24, .inr (.inr (.inr (.inr (fun i => some (ra i)))))))] + p1.toNatClampNeg) (gz_famW3 (X := [(h0, .inr (11, [.ref xr, .ref am, .ref xs, .ref xf, .ref co, .ref oc, .ref ta, .ref xq, .ref xh, .ref xk, .ref xo, .int x_outLength, .int x_courtStands, .int x_courtNews, .int x_tallyStands, .int x_historyStands])), (am, .inr (0, [.int amonths, .int afull, .int alean, .int alines, .int ahasMoon, .int amoonStart, .int amoonStep, .int aplaceCount, .int areportCount, .int adeedCount, .ref pl, .ref re, .ref de])), (re, .inl (kre, 24, .inr (.inr (.inr (.inr (fun i => some (ra i)))))))]) ((List.append_nil _).symm) (gz_clt (gi_in (n := 24) g_34 (by decide)))) rfl 5 (by decide) (hts _ (List.mem_cons_of_mem _ mGA_383)) (fun _ h9 => h9) rfl (dk_at dkX11_strikes 11 rfl) ?_
    refine lv_topi (fun x_35 ex_35 => ?_)
    have gx_35 : gi x_35 0 1 := ga_at gr_struck (gi_in (n := 24) g_34 (by decide)) ex_35
    refine lv_if_eq (tgt := 29) hx hb (dk_at dkX11_strikes 12 rfl) (by decide) (fun c_36 => ?_) (fun c_36 => ?_)
    · have hF := gf_pos (by rw [ex_35] at c_36; exact c_36) hF
      have g_37 : gi x_35 0 0 := gi_eq c_36 (gi_c 0 0 (by decide))
      refine lv_aload_n hx hb (dk_at dkX11_strikes 15 rfl) rfl (lv_at hl 0 rfl) ?_
      refine va_get (D := (dC, dI)) (ci := 11) (v := .ref am) (C := RX11) (T := TX11) (N := 16) hx hb hts (fun w h => List.mem_cons_of_mem _ (jnGA_X11 w h)) hown hK hP 0 rfl rfl 1 (by decide) (hts _ (List.mem_cons_of_mem _ mGA_14)) (fun _ h9 => h9) rfl (dk_at dkX11_strikes 16 rfl) ?_
      refine va_get (D := (dC, dI)) (ci := 0) (v := .ref re) (C := RX0) (T := TX0) (N := 13) hx hb hts (fun w h => List.mem_cons_of_mem _ (jnGA_X0 w h)) hown hK hP 1 rfl rfl 11 (by decide) (hts _ (List.mem_cons_of_mem _ mGA_381)) (fun _ h9 => h9) rfl (dk_at dkX11_strikes 17 rfl) ?_
      refine lv_iload_n hx hb (dk_at dkX11_strikes 18 rfl) rfl (lv_at hl 1 rfl) ?_
      refine va_aldq hx hb hK hP 2 0 rfl rfl (gi_in g_34 (by decide)) (dk_at dkX11_strikes 19 rfl) ?_
      refine W.eq (g2 := F0 m 38 ls [.ref (ra p1.toNatClampNeg)]) rfl ?_
      refine lv_iconst (v := 1) hx hb (dk_at dkX11_strikes 20 rfl) (by decide) ?_
      refine va_put (D := (dC, dI)) (ci := 7) (v := .int 1) (ty := .boolean) (C := RX7) (T := TX7) (N := 6) hx hb hts (fun w h => List.mem_cons_of_mem _ (jnGA_X7 w h)) tyX7 tyX7_ok nmX7 hown hK hP hD hS (List.length [(h0, .inr (11, [.ref xr, .ref am, .ref xs, .ref xf, .ref co, .ref oc, .ref ta, .ref xq, .ref xh, .ref xk, .ref xo, .int x_outLength, .int x_courtStands, .int x_courtNews, .int x_tallyStands, .int x_historyStands])), (am, .inr (0, [.int amonths, .int afull, .int alean, .int alines, .int ahasMoon, .int amoonStart, .int amoonStep, .int aplaceCount, .int areportCount, .int adeedCount, .ref pl, .ref re, .ref de])), (re, .inl (kre, 24, .inr (.inr (.inr (.inr (fun i => some (ra i)))))))] + p1.toNatClampNeg) (gz_famW3 (X := [(h0, .inr (11, [.ref xr, .ref am, .ref xs, .ref xf, .ref co, .ref oc, .ref ta, .ref xq, .ref xh, .ref xk, .ref xo, .int x_outLength, .int x_courtStands, .int x_courtNews, .int x_tallyStands, .int x_historyStands])), (am, .inr (0, [.int amonths, .int afull, .int alean, .int alines, .int ahasMoon, .int amoonStart, .int amoonStep, .int aplaceCount, .int areportCount, .int adeedCount, .ref pl, .ref re, .ref de])), (re, .inl (kre, 24, .inr (.inr (.inr (.inr (fun i => some (ra i)))))))]) ((List.append_nil _).symm) (gz_clt (gi_in (n := 24) g_34 (by decide)))) rfl 5 (by decide) (hts _ (List.mem_cons_of_mem _ mGA_383)) (fun _ h9 => h9) rfl (by decide +kernel) rfl rfl (Nat.le_of_ble_eq_true rfl) (dk_at dkX11_strikes 21 rfl) (fun H locs hP hD hS => ?_)
      have hP : va_P (dC, dI) vwCl (([(h0, .inr (11, [.ref xr, .ref am, .ref xs, .ref xf, .ref co, .ref oc, .ref ta, .ref xq, .ref xh, .ref xk, .ref xo, .int x_outLength, .int x_courtStands, .int x_courtNews, .int x_tallyStands, .int x_historyStands])), (am, .inr (0, [.int amonths, .int afull, .int alean, .int alines, .int ahasMoon, .int amoonStart, .int amoonStep, .int aplaceCount, .int areportCount, .int adeedCount, .ref pl, .ref re, .ref de])), (re, .inl (kre, 24, .inr (.inr (.inr (.inr (fun i => some (ra i)))))))] : va_W) ++ (gz_fam 24 ra 7 (fun i => [.int (r_place i), .int (r_kind i), .int (r_month i), .int (r_day i), .int (r_known i), .int ((upd r_struck (p1.toNatClampNeg) 1) i)]))) H := gz_famP (X := [(h0, .inr (11, [.ref xr, .ref am, .ref xs, .ref xf, .ref co, .ref oc, .ref ta, .ref xq, .ref xh, .ref xk, .ref xo, .int x_outLength, .int x_courtStands, .int x_courtNews, .int x_tallyStands, .int x_historyStands])), (am, .inr (0, [.int amonths, .int afull, .int alean, .int alines, .int ahasMoon, .int amoonStart, .int amoonStep, .int aplaceCount, .int areportCount, .int adeedCount, .ref pl, .ref re, .ref de])), (re, .inl (kre, 24, .inr (.inr (.inr (.inr (fun i => some (ra i)))))))]) ((List.append_nil _).symm) ((List.append_nil _).symm) (gz_clt (gi_in (n := 24) g_34 (by decide))) (by simp [upd]) (fun i hi => by simp [upd, hi]) hP
      have hD : va_D A (([(h0, .inr (11, [.ref xr, .ref am, .ref xs, .ref xf, .ref co, .ref oc, .ref ta, .ref xq, .ref xh, .ref xk, .ref xo, .int x_outLength, .int x_courtStands, .int x_courtNews, .int x_tallyStands, .int x_historyStands])), (am, .inr (0, [.int amonths, .int afull, .int alean, .int alines, .int ahasMoon, .int amoonStart, .int amoonStep, .int aplaceCount, .int areportCount, .int adeedCount, .ref pl, .ref re, .ref de])), (re, .inl (kre, 24, .inr (.inr (.inr (.inr (fun i => some (ra i)))))))] : va_W) ++ (gz_fam 24 ra 7 (fun i => [.int (r_place i), .int (r_kind i), .int (r_month i), .int (r_day i), .int (r_known i), .int ((upd r_struck (p1.toNatClampNeg) 1) i)]))) := gz_famD (X := [(h0, .inr (11, [.ref xr, .ref am, .ref xs, .ref xf, .ref co, .ref oc, .ref ta, .ref xq, .ref xh, .ref xk, .ref xo, .int x_outLength, .int x_courtStands, .int x_courtNews, .int x_tallyStands, .int x_historyStands])), (am, .inr (0, [.int amonths, .int afull, .int alean, .int alines, .int ahasMoon, .int amoonStart, .int amoonStep, .int aplaceCount, .int areportCount, .int adeedCount, .ref pl, .ref re, .ref de])), (re, .inl (kre, 24, .inr (.inr (.inr (.inr (fun i => some (ra i)))))))]) ((List.append_nil _).symm) ((List.append_nil _).symm) (gz_clt (gi_in (n := 24) g_34 (by decide))) (by simp [upd]) (fun i hi => by simp [upd, hi]) hD
      have gf_38 : ga (upd r_struck (p1.toNatClampNeg) 1) 24 0 1 := ga_upd gr_struck (gi_w (gi_c 1 1 (by decide)) (by decide))
      generalize ef_38 : upd r_struck (p1.toNatClampNeg) 1 = f_38 at hP hD gf_38
      obtain ⟨hP, hD⟩ := gz_both (w := (([(h0, .inr (11, [.ref xr, .ref am, .ref xs, .ref xf, .ref co, .ref oc, .ref ta, .ref xq, .ref xh, .ref xk, .ref xo, .int x_outLength, .int x_courtStands, .int x_courtNews, .int x_tallyStands, .int x_historyStands])), (am, .inr (0, [.int amonths, .int afull, .int alean, .int alines, .int ahasMoon, .int amoonStart, .int amoonStep, .int aplaceCount, .int areportCount, .int adeedCount, .ref pl, .ref re, .ref de])), (re, .inl (kre, 24, .inr (.inr (.inr (.inr (fun i => some (ra i)))))))] : va_W) ++ (gz_fam 24 ra 7 (fun i => [.int (r_place i), .int (r_kind i), .int (r_month i), .int (r_day i), .int (r_known i), .int (f_38 i)])))) hP hD
      refine lv_aload_n hx hb (dk_at dkX11_strikes 22 rfl) rfl (lv_at hl 0 rfl) ?_
      have hPc := hP.sub (ws' := [(h0, .inr (11, [.ref xr, .ref am, .ref xs, .ref xf, .ref co, .ref oc, .ref ta, .ref xq, .ref xh, .ref xk, .ref xo, .int x_outLength, .int x_courtStands, .int x_courtNews, .int x_tallyStands, .int x_historyStands]))]) [0] rfl
      have hKc := hK.sub (tys' := []) [] rfl
      have hDc := hD.sub (ws' := [(h0, .inr (11, [.ref xr, .ref am, .ref xs, .ref xf, .ref co, .ref oc, .ref ta, .ref xq, .ref xh, .ref xk, .ref xo, .int x_outLength, .int x_courtStands, .int x_courtNews, .int x_tallyStands, .int x_historyStands]))]) [0] (by decide) rfl
      have hFc := va_free (wc := [(h0, .inr (11, [.ref xr, .ref am, .ref xs, .ref xf, .ref co, .ref oc, .ref ta, .ref xq, .ref xh, .ref xk, .ref xo, .int x_outLength, .int x_courtStands, .int x_courtNews, .int x_tallyStands, .int x_historyStands]))]) hD hS hA [0] rfl
      refine va_callv (va_runV (As := []) (rest := []) ⟨hx, hb, hml, hown, hts⟩ (sX11_forget l dC dI H.size h0 xr am xs xf co oc ta xq xh xk xo x_outLength x_courtStands x_courtNews x_tallyStands x_historyStands gx_outLength gx_courtStands gx_tallyStands gx_historyStands) (cwV 0 hts (gz_gV mGA_340 mGA_341 mGA_342 mGA_1 mGA_343 goodGA) rfl rfl rfl (by decide +kernel) ⟨Nat.le_of_ble_eq_true rfl, Nat.le_of_ble_eq_true rfl⟩) ⟨bl_I (bl_a bl_sz (bl_a bl_P (bl_a bl_K (bl_a bl_c bl_nz)))), va_recv hKc hPc (ci := 11) (q0 := 0) rfl rfl, fun U hU hW => ⟨rfl, by rw [hU], by rw [hU]; exact hPc, va_K.moved hW.alike hKc, hDc.weaken (fun _ _ _ _ => trivial), nzA_warm hW hz⟩⟩ rfl rfl hl.1 rfl (lv_room (Nat.le_of_ble_eq_true rfl)) (dk_at dkX11_strikes 23 rfl) ⟨Nat.zero_le _, Nat.zero_le _⟩) hS (fun q _ h => hFc q h) hFc (fun u t H1 locs ht hvm hw hB hz1 hk1 hS => ?_)
      obtain ⟨y_40, y_41, y_42, hB⟩ := hB
      obtain ⟨gy_40, gy_41, gy_42, hE, hP1, hD1⟩ := hB
      rw [ht] at hP1
      obtain ⟨hP, hD⟩ := va_join (wr := (([(am, .inr (0, [.int amonths, .int afull, .int alean, .int alines, .int ahasMoon, .int amoonStart, .int amoonStep, .int aplaceCount, .int areportCount, .int adeedCount, .ref pl, .ref re, .ref de])), (re, .inl (kre, 24, .inr (.inr (.inr (.inr (fun i => some (ra i)))))))] : va_W) ++ (gz_fam 24 ra 7 (fun i => [.int (r_place i), .int (r_kind i), .int (r_month i), .int (r_day i), .int (r_known i), .int (f_38 i)])))) (w1 := [(h0, .inr (11, [.ref xr, .ref am, .ref xs, .ref xf, .ref co, .ref oc, .ref ta, .ref xq, .ref xh, .ref xk, .ref xo, .int x_outLength, .int y_40, .int x_courtNews, .int y_41, .int y_42]))]) hP hD [0] ([1, 2] ++ List.range' 3 24) rfl (gz_ixapp rfl (gz_ixR (m := 3) (by simp only [List.length_append, gz_famlen, List.length_cons, List.length_nil]) gz_ixSelf)) (by decide +kernel) (by decide +kernel) hk1 hFc hP1 hD1
      have hP := gz_sub hP (ws' := (([(h0, .inr (11, [.ref xr, .ref am, .ref xs, .ref xf, .ref co, .ref oc, .ref ta, .ref xq, .ref xh, .ref xk, .ref xo, .int x_outLength, .int y_40, .int x_courtNews, .int y_41, .int y_42])), (am, .inr (0, [.int amonths, .int afull, .int alean, .int alines, .int ahasMoon, .int amoonStart, .int amoonStep, .int aplaceCount, .int areportCount, .int adeedCount, .ref pl, .ref re, .ref de])), (re, .inl (kre, 24, .inr (.inr (.inr (.inr (fun i => some (ra i)))))))] : va_W) ++ (gz_fam 24 ra 7 (fun i => [.int (r_place i), .int (r_kind i), .int (r_month i), .int (r_day i), .int (r_known i), .int (f_38 i)])))) ([26, 0, 1] ++ List.range' 2 24) (gz_ixapp rfl (gz_ixL (gz_ixR (m := 2) (by simp only [List.length_append, gz_famlen, List.length_cons, List.length_nil]) gz_ixSelf)))
      have hD := hD.sub (ws' := (([(h0, .inr (11, [.ref xr, .ref am, .ref xs, .ref xf, .ref co, .ref oc, .ref ta, .ref xq, .ref xh, .ref xk, .ref xo, .int x_outLength, .int y_40, .int x_courtNews, .int y_41, .int y_42])), (am, .inr (0, [.int amonths, .int afull, .int alean, .int alines, .int ahasMoon, .int amoonStart, .int amoonStep, .int aplaceCount, .int areportCount, .int adeedCount, .ref pl, .ref re, .ref de])), (re, .inl (kre, 24, .inr (.inr (.inr (.inr (fun i => some (ra i)))))))] : va_W) ++ (gz_fam 24 ra 7 (fun i => [.int (r_place i), .int (r_kind i), .int (r_month i), .int (r_day i), .int (r_known i), .int (f_38 i)])))) ([26, 0, 1] ++ List.range' 2 24) (by decide +kernel) (gz_ixapp rfl (gz_ixL (gz_ixR (m := 2) (by simp only [List.length_append, gz_famlen, List.length_cons, List.length_nil]) gz_ixSelf)))
      have hF := gf_call (a := (y_40, y_41, y_42)) hE hF
      generalize H1 = H at hP hS ⊢
      refine lv_aload_n hx hb (dk_at dkX11_strikes 24 rfl) rfl (lv_at hl 0 rfl) ?_
      refine va_get (D := (dC, dI)) (ci := 11) (v := .ref am) (C := RX11) (T := TX11) (N := 16) hx hb hts (fun w h => List.mem_cons_of_mem _ (jnGA_X11 w h)) hown hK hP 0 rfl rfl 1 (by decide) (hts _ (List.mem_cons_of_mem _ mGA_14)) (fun _ h9 => h9) rfl (dk_at dkX11_strikes 25 rfl) ?_
      have hPc := hP.sub (ws' := [(am, .inr (0, [.int amonths, .int afull, .int alean, .int alines, .int ahasMoon, .int amoonStart, .int amoonStep, .int aplaceCount, .int areportCount, .int adeedCount, .ref pl, .ref re, .ref de])), (re, .inl (kre, 24, .inr (.inr (.inr (.inr (fun i => some (ra i)))))))]) [1, 2] rfl
      have hKc := hK.sub (tys' := [(kre, .object RX7)]) [0] rfl
      refine va_calli (va_runV (As := []) (rest := []) ⟨hx, hb, hml, hown, hts⟩ (sX0_standing l dC dI am re amonths afull alean alines ahasMoon amoonStart amoonStep aplaceCount areportCount adeedCount pl de kre ra r_place r_kind r_month r_day r_known f_38 gamonths gafull galean gahasMoon gaplaceCount gareportCount gadeedCount gr_place gr_month gf_38) (cwV 0 hts (gz_gV mGA_902 mGA_903 mGA_904 mGA_13 mGA_905 goodGA) rfl rfl rfl (by decide +kernel) ⟨Nat.le_of_ble_eq_true rfl, Nat.le_of_ble_eq_true rfl⟩) ⟨bl_I (bl_a bl_P (bl_a bl_K (bl_a bl_nz bl_P))), va_recv hKc hPc (ci := 0) (q0 := 0) rfl rfl, fun U hU hW => ⟨rfl, by rw [hU]; exact hPc, va_K.moved hW.alike hKc, nzA_warm hW hz, by rw [hU]; exact (gz_sub hP (ws' := (gz_fam 24 ra 7 (fun i => [.int (r_place i), .int (r_kind i), .int (r_month i), .int (r_day i), .int (r_known i), .int (f_38 i)]))) (List.range' 3 24) (gz_ixR (m := 3) (by simp only [List.length_append, gz_famlen, List.length_cons, List.length_nil]) gz_ixSelf))⟩⟩ rfl rfl hl.1 rfl (lv_room (Nat.le_of_ble_eq_true rfl)) (dk_at dkX11_strikes 26 rfl) ⟨Nat.zero_le _, Nat.zero_le _⟩) hS (fun q _ h => h.elim) (fun q h => h.elim) (fun r_43 u t H1 locs ht hvm hw hB hz1 hk1 hS => ?_)
      obtain ⟨hw, hE⟩ := hw
      have hP := gz_keep hP hk1
      have hF := gf_call (a := r_43) (by rw [← ef_38] at hE; exact hE) hF
      generalize H1 = H at hP hS ⊢
      exact W.iret (v := r_43) hx hb hr (fun t ht hW => ⟨⟨r_43, r_43, rfl, ⟨rfl, (gi_any r_43)⟩, y_40, y_41, y_42, f_38, gy_40, gy_41, gy_42, gf_38, by rw [← ef_38]; exact hF.trans hR9.symm, by rw [ht]; exact hP, hD⟩, hS.F ht⟩) hS.2.2 (dk_at dkX11_strikes 27 rfl)
    · have hF := gf_neg (by rw [ex_35] at c_36; exact c_36) hF
      have g_44 : gi x_35 1 1 := gi_ne_lo c_36 gx_35 (gi_c 0 0 (by decide)) (by decide)
      refine lv_bipush (v := (-5)) hx hb (dk_at dkX11_strikes 13 rfl) (by decide) ?_
      exact W.iret (v := (-5)) hx hb hr (fun t ht hW => ⟨⟨(-5), (-5), rfl, ⟨rfl, (gi_any (-5))⟩, x_courtStands, x_tallyStands, x_historyStands, r_struck, gx_courtStands, gx_tallyStands, gx_historyStands, gr_struck, hF.trans hR9.symm, by rw [ht]; exact hP, hD⟩, hS.F ht⟩) hS.2.2 (dk_at dkX11_strikes 14 rfl)
  · have hF := gf_pos c_32 hF
    have g_45 : gi r_31 0 0 := gi_eq c_32 (gi_c 0 0 (by decide))
    refine lv_bipush (v := (-2)) hx hb (dk_at dkX11_strikes 4 rfl) (by decide) ?_
    exact W.iret (v := (-2)) hx hb hr (fun t ht hW => ⟨⟨(-2), (-2), rfl, ⟨rfl, (gi_any (-2))⟩, x_courtStands, x_tallyStands, x_historyStands, r_struck, gx_courtStands, gx_tallyStands, gx_historyStands, gr_struck, hF.trans hR9.symm, by rw [ht]; exact hP, hD⟩, hS.F ht⟩) hS.2.2 (dk_at dkX11_strikes 5 rfl)
noncomputable def lsX11_trusts : List (Nat × Instr × Nat) := [(0, .aload_n 0, 1), (1, .iload_n 1, 1), (2, .invokevirtual 144, 3), (5, .ifCond .eq 13, 3), (8, .iload_n 2, 1), (9, .ifCond .lt 9, 3), (12, .iload_n 2, 1), (13, .bipush 9, 2), (15, .if_icmp .le 6, 3), (18, .bipush (-2), 2), (20, .ireturn, 1), (21, .aload_n 0, 1), (22, .getfield 19, 3), (25, .getfield 148, 3), (28, .iload_n 1, 1), (29, .aaload, 1), (30, .getfield 152, 3), (33, .istore_n 3, 1), (34, .aload_n 0, 1), (35, .getfield 19, 3), (38, .getfield 148, 3), (41, .iload_n 1, 1), (42, .aaload, 1), (43, .iload_n 2, 1), (44, .putfield 152, 3), (47, .aload_n 0, 1), (48, .invokevirtual 111, 3), (51, .iload_n 3, 1), (52, .ireturn, 1)]
theorem dkX11_trusts : dkAll cX11_trusts lsX11_trusts = true := by decide +kernel
noncomputable def bfX11_trusts_18 (x_courtStands : Int32) (x_tallyStands : Int32) (x_historyStands : Int32) (aplaceCount : Int32) (p_trust : Nat → Int32) (p1 : Int32) (p2 : Int32) (w0_12 : Int32) (w0_14 : Int32) (w0_15 : Int32) (z3_1 : Nat → Int32) : Int32 × Int32 × Int32 × Int32 × (Nat → Int32) := ((-2 : Int32), w0_12, w0_14, w0_15, z3_1)
noncomputable def fX11_trusts (x_courtStands : Int32) (x_tallyStands : Int32) (x_historyStands : Int32) (aplaceCount : Int32) (p_trust : Nat → Int32) (p1 : Int32) (p2 : Int32) : Int32 × Int32 × Int32 × Int32 × (Nat → Int32) := cal (fun o1 => if o1 = (0 : Int32) then (bfX11_trusts_18 x_courtStands x_tallyStands x_historyStands aplaceCount p_trust p1 p2 x_courtStands x_tallyStands x_historyStands p_trust) else (if p2 < (0 : Int32) then (bfX11_trusts_18 x_courtStands x_tallyStands x_historyStands aplaceCount p_trust p1 p2 x_courtStands x_tallyStands x_historyStands p_trust) else (if p2 ≤ (9 : Int32) then (cal (fun o2 => ((p_trust p1.toNatClampNeg), o2.1, o2.2.1, o2.2.2, (upd p_trust (p1.toNatClampNeg) p2))) fX11_forget) else (bfX11_trusts_18 x_courtStands x_tallyStands x_historyStands aplaceCount p_trust p1 p2 x_courtStands x_tallyStands x_historyStands p_trust)))) (fX11_hasPlace aplaceCount p1)
abbrev pb_sX11_trusts (dC : Nat → ClassId) (dI : Nat → Nat → Nat) (A9 : Nat → Prop) (h0 : Nat) (am : Nat) (pl : Nat) (pa : Nat → Nat) (xr : Nat) (xs : Nat) (xf : Nat) (co : Nat) (oc : Nat) (ta : Nat) (xq : Nat) (xh : Nat) (xk : Nat) (xo : Nat) (x_outLength : Int32) (x_courtStands : Int32) (x_courtNews : Int32) (x_tallyStands : Int32) (x_historyStands : Int32) (amonths : Int32) (afull : Int32) (alean : Int32) (alines : Int32) (ahasMoon : Int32) (amoonStart : Int32) (amoonStep : Int32) (aplaceCount : Int32) (areportCount : Int32) (adeedCount : Int32) (re : Nat) (de : Nat) (kpl : ClassId) (p_name : Nat → Int32) (p_trust : Nat → Int32) (p1 : Int32) (p2 : Int32) (r : Int32) (w0_12 : Int32) (w0_14 : Int32) (w0_15 : Int32) (z3_1 : Nat → Int32) (t : State) : Prop := gi w0_12 0 1 ∧ gi w0_14 0 1 ∧ gi w0_15 0 1 ∧ (r, w0_12, w0_14, w0_15, z3_1) = fX11_trusts x_courtStands x_tallyStands x_historyStands aplaceCount p_trust p1 p2 ∧ va_P (dC, dI) vwCl (([(h0, .inr (11, [.ref xr, .ref am, .ref xs, .ref xf, .ref co, .ref oc, .ref ta, .ref xq, .ref xh, .ref xk, .ref xo, .int x_outLength, .int w0_12, .int x_courtNews, .int w0_14, .int w0_15])), (am, .inr (0, [.int amonths, .int afull, .int alean, .int alines, .int ahasMoon, .int amoonStart, .int amoonStep, .int aplaceCount, .int areportCount, .int adeedCount, .ref pl, .ref re, .ref de])), (pl, .inl (kpl, 6, .inr (.inr (.inr (.inr (fun i => some (pa i)))))))] : va_W) ++ (gz_fam 6 pa 5 (fun i => [.int (p_name i), .int (z3_1 i)]))) t.heap ∧ va_D A9 (([(h0, .inr (11, [.ref xr, .ref am, .ref xs, .ref xf, .ref co, .ref oc, .ref ta, .ref xq, .ref xh, .ref xk, .ref xo, .int x_outLength, .int w0_12, .int x_courtNews, .int w0_14, .int w0_15])), (am, .inr (0, [.int amonths, .int afull, .int alean, .int alines, .int ahasMoon, .int amoonStart, .int amoonStep, .int aplaceCount, .int areportCount, .int adeedCount, .ref pl, .ref re, .ref de])), (pl, .inl (kpl, 6, .inr (.inr (.inr (.inr (fun i => some (pa i)))))))] : va_W) ++ (gz_fam 6 pa 5 (fun i => [.int (p_name i), .int (z3_1 i)])))
set_option maxHeartbeats 4000000 in
set_option maxRecDepth 100000 in
theorem sX11_trusts (l : Launch) (dC : Nat → ClassId) (dI : Nat → Nat → Nat) (sz : Nat) (h0 : Nat) (am : Nat) (pl : Nat) (pa : Nat → Nat) (xr : Nat) (xs : Nat) (xf : Nat) (co : Nat) (oc : Nat) (ta : Nat) (xq : Nat) (xh : Nat) (xk : Nat) (xo : Nat) (x_outLength : Int32) (x_courtStands : Int32) (x_courtNews : Int32) (x_tallyStands : Int32) (x_historyStands : Int32) (amonths : Int32) (afull : Int32) (alean : Int32) (alines : Int32) (ahasMoon : Int32) (amoonStart : Int32) (amoonStep : Int32) (aplaceCount : Int32) (areportCount : Int32) (adeedCount : Int32) (re : Nat) (de : Nat) (kpl : ClassId) (p_name : Nat → Int32) (p_trust : Nat → Int32) (p1 : Int32) (p2 : Int32) (gx_outLength : gi x_outLength 0 72) (gx_courtStands : gi x_courtStands 0 1) (gx_tallyStands : gi x_tallyStands 0 1) (gx_historyStands : gi x_historyStands 0 1) (gamonths : gi amonths 0 24) (gafull : gi afull 0 5) (galean : gi alean 0 5) (gahasMoon : gi ahasMoon 0 1) (gaplaceCount : gi aplaceCount 0 6) (gareportCount : gi areportCount 0 24) (gadeedCount : gi adeedCount 0 8) : Met l yX11_trusts (.code yX11_trusts cX11_trusts 4 (some .int) :: wsGA) ({ frames := 1, cells := 0, slots := 0, locals := 21 }) (va_Pc [.ref h0, .int p1, .int p2] (fun U => U.heap.size = sz ∧ va_P (dC, dI) vwCl (([(h0, .inr (11, [.ref xr, .ref am, .ref xs, .ref xf, .ref co, .ref oc, .ref ta, .ref xq, .ref xh, .ref xk, .ref xo, .int x_outLength, .int x_courtStands, .int x_courtNews, .int x_tallyStands, .int x_historyStands])), (am, .inr (0, [.int amonths, .int afull, .int alean, .int alines, .int ahasMoon, .int amoonStart, .int amoonStep, .int aplaceCount, .int areportCount, .int adeedCount, .ref pl, .ref re, .ref de])), (pl, .inl (kpl, 6, .inr (.inr (.inr (.inr (fun i => some (pa i)))))))] : va_W) ++ (gz_fam 6 pa 5 (fun i => [.int (p_name i), .int (p_trust i)]))) U.heap ∧ va_K (dC, dI) vwCl [(kpl, .object RX5)] U ∧ va_D (fun _ => True) (([(h0, .inr (11, [.ref xr, .ref am, .ref xs, .ref xf, .ref co, .ref oc, .ref ta, .ref xq, .ref xh, .ref xk, .ref xo, .int x_outLength, .int x_courtStands, .int x_courtNews, .int x_tallyStands, .int x_historyStands])), (am, .inr (0, [.int amonths, .int afull, .int alean, .int alines, .int ahasMoon, .int amoonStart, .int amoonStep, .int aplaceCount, .int areportCount, .int adeedCount, .ref pl, .ref re, .ref de])), (pl, .inl (kpl, 6, .inr (.inr (.inr (.inr (fun i => some (pa i)))))))] : va_W) ++ (gz_fam 6 pa 5 (fun i => [.int (p_name i), .int (p_trust i)]))) ∧ nzA U)) (va_Qi (fun (r : Int32) (u : Int32) => r = u ∧ gi r (-2147483648) 2147483647) (fun r t => ∃ (w0_12 : Int32) (w0_14 : Int32) (w0_15 : Int32) (z3_1 : Nat → Int32), pb_sX11_trusts dC dI (va_A (([(h0, .inr (11, [.ref xr, .ref am, .ref xs, .ref xf, .ref co, .ref oc, .ref ta, .ref xq, .ref xh, .ref xk, .ref xo, .int x_outLength, .int x_courtStands, .int x_courtNews, .int x_tallyStands, .int x_historyStands])), (am, .inr (0, [.int amonths, .int afull, .int alean, .int alines, .int ahasMoon, .int amoonStart, .int amoonStep, .int aplaceCount, .int areportCount, .int adeedCount, .ref pl, .ref re, .ref de])), (pl, .inl (kpl, 6, .inr (.inr (.inr (.inr (fun i => some (pa i)))))))] : va_W) ++ (gz_fam 6 pa 5 (fun i => [.int (p_name i), .int (p_trust i)]))) sz) h0 am pl pa xr xs xf co oc ta xq xh xk xo x_outLength x_courtStands x_courtNews x_tallyStands x_historyStands amonths afull alean alines ahasMoon amoonStart amoonStep aplaceCount areportCount adeedCount re de kpl p_name p_trust p1 p2 r w0_12 w0_14 w0_15 z3_1 t) (va_A (([(h0, .inr (11, [.ref xr, .ref am, .ref xs, .ref xf, .ref co, .ref oc, .ref ta, .ref xq, .ref xh, .ref xk, .ref xo, .int x_outLength, .int x_courtStands, .int x_courtNews, .int x_tallyStands, .int x_historyStands])), (am, .inr (0, [.int amonths, .int afull, .int alean, .int alines, .int ahasMoon, .int amoonStart, .int amoonStep, .int aplaceCount, .int areportCount, .int adeedCount, .ref pl, .ref re, .ref de])), (pl, .inl (kpl, 6, .inr (.inr (.inr (.inr (fun i => some (pa i)))))))] : va_W) ++ (gz_fam 6 pa 5 (fun i => [.int (p_name i), .int (p_trust i)]))) sz)) 0 0 (va_A (([(h0, .inr (11, [.ref xr, .ref am, .ref xs, .ref xf, .ref co, .ref oc, .ref ta, .ref xq, .ref xh, .ref xk, .ref xo, .int x_outLength, .int x_courtStands, .int x_courtNews, .int x_tallyStands, .int x_historyStands])), (am, .inr (0, [.int amonths, .int afull, .int alean, .int alines, .int ahasMoon, .int amoonStart, .int amoonStep, .int aplaceCount, .int areportCount, .int adeedCount, .ref pl, .ref re, .ref de])), (pl, .inl (kpl, 6, .inr (.inr (.inr (.inr (fun i => some (pa i)))))))] : va_W) ++ (gz_fam 6 pa 5 (fun i => [.int (p_name i), .int (p_trust i)]))) sz) := by
  refine Met.ofW (cc := cX11_trusts) (maxL := 4) (ret := (some .int)) (by decide) rfl ?_
  intro p e s m args below meth c s₁ B hml hv
  obtain ⟨rfl, hsz, hP, hK, hD0, hz⟩ := hv
  have hx := B.exec
  have hb := B.bytes
  have hr := B.returns
  have hts := atoms_spec (ws := (.code yX11_trusts cX11_trusts 4 (some .int) :: wsGA)) B.pre
  have hown : s.vm.findClass RX11 = some m.cls := findClass_of_methodNamed B.named
  have hlocks := B.notSynchronized
  subst hsz
  have hD := hD0.self (sz := s.heap.size)
  generalize hAe : va_A (([(h0, .inr (11, [.ref xr, .ref am, .ref xs, .ref xf, .ref co, .ref oc, .ref ta, .ref xq, .ref xh, .ref xk, .ref xo, .int x_outLength, .int x_courtStands, .int x_courtNews, .int x_tallyStands, .int x_historyStands])), (am, .inr (0, [.int amonths, .int afull, .int alean, .int alines, .int ahasMoon, .int amoonStart, .int amoonStep, .int aplaceCount, .int areportCount, .int adeedCount, .ref pl, .ref re, .ref de])), (pl, .inl (kpl, 6, .inr (.inr (.inr (.inr (fun i => some (pa i)))))))] : va_W) ++ (gz_fam 6 pa 5 (fun i => [.int (p_name i), .int (p_trust i)]))) s.heap.size = A at hD ⊢
  have hA : ∀ q : Nat, s.heap.size ≤ q → A q := fun q h => by rw [← hAe]; exact Or.inr h
  have hS : va_S A s.heap s.heap [] := va_S.rf
  have hl := lv_entry ([.ref h0, .int p1, .int p2]) (n := 4) (Nat.le_of_ble_eq_true rfl)
  rw [lg_entry_eq]
  generalize (lg_sl ([.ref h0, .int p1, .int p2]) ++ List.replicate (4 - (lg_sl ([.ref h0, .int p1, .int p2])).length) Slot.unset).toArray = ls at hl ⊢
  have hl : lv_has ls 4 [(0, .ref h0), (1, .int p1), (2, .int p2)] := hl
  obtain ⟨RES, hF⟩ : ∃ R9, fX11_trusts x_courtStands x_tallyStands x_historyStands aplaceCount p_trust p1 p2 = R9 := ⟨_, rfl⟩
  have hR9 := hF
  refine lv_aload_n hx hb (dk_at dkX11_trusts 0 rfl) rfl (lv_at hl 0 rfl) ?_
  refine lv_iload_n hx hb (dk_at dkX11_trusts 1 rfl) rfl (lv_at hl 1 rfl) ?_
  have hPc := hP.sub (ws' := [(h0, .inr (11, [.ref xr, .ref am, .ref xs, .ref xf, .ref co, .ref oc, .ref ta, .ref xq, .ref xh, .ref xk, .ref xo, .int x_outLength, .int x_courtStands, .int x_courtNews, .int x_tallyStands, .int x_historyStands])), (am, .inr (0, [.int amonths, .int afull, .int alean, .int alines, .int ahasMoon, .int amoonStart, .int amoonStep, .int aplaceCount, .int areportCount, .int adeedCount, .ref pl, .ref re, .ref de]))]) [0, 1] rfl
  have hKc := hK.sub (tys' := []) [] rfl
  refine va_calli (va_runV (As := [.int p1]) (rest := []) ⟨hx, hb, hml, hown, hts⟩ (sX11_hasPlace l dC dI h0 am xr xs xf co oc ta xq xh xk xo x_outLength x_courtStands x_courtNews x_tallyStands x_historyStands amonths afull alean alines ahasMoon amoonStart amoonStep aplaceCount areportCount adeedCount pl re de p1 gx_outLength gx_courtStands gx_tallyStands gx_historyStands gamonths gafull galean gahasMoon gaplaceCount gareportCount gadeedCount) (cwV 1 hts (gz_gV mGA_366 mGA_367 mGA_368 mGA_1 mGA_369 goodGA) rfl rfl rfl (by decide +kernel) ⟨Nat.le_of_ble_eq_true rfl, Nat.le_of_ble_eq_true rfl⟩) ⟨bl_I (bl_a bl_P (bl_a bl_K bl_nz)), va_recv hKc hPc (ci := 11) (q0 := 0) rfl rfl, fun U hU hW => ⟨rfl, by rw [hU]; exact hPc, va_K.moved hW.alike hKc, nzA_warm hW hz⟩⟩ rfl rfl hl.1 rfl (lv_room (Nat.le_of_ble_eq_true rfl)) (dk_at dkX11_trusts 2 rfl) ⟨Nat.zero_le _, Nat.zero_le _⟩) hS (fun q _ h => h.elim) (fun q h => h.elim) (fun r_35 u t H1 locs ht hvm hw hB hz1 hk1 hS => ?_)
  obtain ⟨hw, hE⟩ := hw
  have hP := gz_keep hP hk1
  have hF := gf_call (a := r_35) hE hF
  generalize H1 = H at hP hS ⊢
  have gr_35 : gi r_35 0 1 := hw.1
  have hqr_35 := hw.2
  refine lv_if_eq (tgt := 18) hx hb (dk_at dkX11_trusts 3 rfl) (by decide) (fun c_36 => ?_) (fun c_36 => ?_)
  · have hF := gf_pos c_36 hF
    have g_37 : gi r_35 0 0 := gi_eq c_36 (gi_c 0 0 (by decide))
    refine lv_bipush (v := (-2)) hx hb (dk_at dkX11_trusts 9 rfl) (by decide) ?_
    exact W.iret (v := (-2)) hx hb hr (fun t ht hW => ⟨⟨(-2), (-2), rfl, ⟨rfl, (gi_any (-2))⟩, x_courtStands, x_tallyStands, x_historyStands, p_trust, gx_courtStands, gx_tallyStands, gx_historyStands, hF.trans hR9.symm, by rw [ht]; exact hP, hD⟩, hS.F ht⟩) hS.2.2 (dk_at dkX11_trusts 10 rfl)
  · have hF := gf_neg c_36 hF
    have g_38 : gi r_35 1 1 := gi_ne_lo c_36 gr_35 (gi_c 0 0 (by decide)) (by decide)
    have g_39 : gi p1 0 5 := gi_cap (gi_any p1) (hqr_35 (gz_one g_38)) (by decide)
    refine lv_iload_n hx hb (dk_at dkX11_trusts 4 rfl) rfl (lv_at hl 2 rfl) ?_
    refine lv_if_lt (tgt := 18) hx hb (dk_at dkX11_trusts 5 rfl) (by decide) (fun c_40 => ?_) (fun c_40 => ?_)
    · have hF := gf_pos c_40 hF
      have g_41 : gi p2 (-2147483648) (-1) := gi_lt_l c_40 (gi_any p2) (gi_c 0 0 (by decide)) (by decide)
      refine lv_bipush (v := (-2)) hx hb (dk_at dkX11_trusts 9 rfl) (by decide) ?_
      exact W.iret (v := (-2)) hx hb hr (fun t ht hW => ⟨⟨(-2), (-2), rfl, ⟨rfl, (gi_any (-2))⟩, x_courtStands, x_tallyStands, x_historyStands, p_trust, gx_courtStands, gx_tallyStands, gx_historyStands, hF.trans hR9.symm, by rw [ht]; exact hP, hD⟩, hS.F ht⟩) hS.2.2 (dk_at dkX11_trusts 10 rfl)
    · have hF := gf_neg c_40 hF
      have g_42 : gi p2 0 2147483647 := gi_le_r (Int32.not_lt.mp c_40) (gi_c 0 0 (by decide)) (gi_any p2)
      refine lv_iload_n hx hb (dk_at dkX11_trusts 6 rfl) rfl (lv_at hl 2 rfl) ?_
      refine lv_bipush (v := 9) hx hb (dk_at dkX11_trusts 7 rfl) (by decide) ?_
      refine lv_icmp_le (tgt := 21) hx hb (dk_at dkX11_trusts 8 rfl) (by decide) (fun c_43 => ?_) (fun c_43 => ?_)
      · have hF := gf_pos c_43 hF
        have g_44 : gi p2 0 9 := gi_le_l c_43 g_42 (gi_c 9 9 (by decide))
        refine lv_aload_n hx hb (dk_at dkX11_trusts 11 rfl) rfl (lv_at hl 0 rfl) ?_
        refine va_get (D := (dC, dI)) (ci := 11) (v := .ref am) (C := RX11) (T := TX11) (N := 16) hx hb hts (fun w h => List.mem_cons_of_mem _ (jnGA_X11 w h)) hown hK hP 0 rfl rfl 1 (by decide) (hts _ (List.mem_cons_of_mem _ mGA_14)) (fun _ h9 => h9) rfl (dk_at dkX11_trusts 12 rfl) ?_
        refine va_get (D := (dC, dI)) (ci := 0) (v := .ref pl) (C := RX0) (T := TX0) (N := 13) hx hb hts (fun w h => List.mem_cons_of_mem _ (jnGA_X0 w h)) hown hK hP 1 rfl rfl 10 (by decide) (hts _ (List.mem_cons_of_mem _ mGA_364)) (fun _ h9 => h9) rfl (dk_at dkX11_trusts 13 rfl) ?_
        refine lv_iload_n hx hb (dk_at dkX11_trusts 14 rfl) rfl (lv_at hl 1 rfl) ?_
        refine va_aldq hx hb hK hP 2 0 rfl rfl (gi_in g_39 (by decide)) (dk_at dkX11_trusts 15 rfl) ?_
        refine W.eq (g2 := F0 m 30 ls [.ref (pa p1.toNatClampNeg)]) rfl ?_
        refine va_get (D := (dC, dI)) (ci := 5) (v := .int (p_trust p1.toNatClampNeg)) (C := RX5) (T := TX5) (N := 2) hx hb hts (fun w h => List.mem_cons_of_mem _ (jnGA_X5 w h)) hown hK hP (List.length [(h0, .inr (11, [.ref xr, .ref am, .ref xs, .ref xf, .ref co, .ref oc, .ref ta, .ref xq, .ref xh, .ref xk, .ref xo, .int x_outLength, .int x_courtStands, .int x_courtNews, .int x_tallyStands, .int x_historyStands])), (am, .inr (0, [.int amonths, .int afull, .int alean, .int alines, .int ahasMoon, .int amoonStart, .int amoonStep, .int aplaceCount, .int areportCount, .int adeedCount, .ref pl, .ref re, .ref de])), (pl, .inl (kpl, 6, .inr (.inr (.inr (.inr (fun i => some (pa i)))))))] + p1.toNatClampNeg) (gz_famW3 (X := [(h0, .inr (11, [.ref xr, .ref am, .ref xs, .ref xf, .ref co, .ref oc, .ref ta, .ref xq, .ref xh, .ref xk, .ref xo, .int x_outLength, .int x_courtStands, .int x_courtNews, .int x_tallyStands, .int x_historyStands])), (am, .inr (0, [.int amonths, .int afull, .int alean, .int alines, .int ahasMoon, .int amoonStart, .int amoonStep, .int aplaceCount, .int areportCount, .int adeedCount, .ref pl, .ref re, .ref de])), (pl, .inl (kpl, 6, .inr (.inr (.inr (.inr (fun i => some (pa i)))))))]) ((List.append_nil _).symm) (gz_clt (gi_in (n := 6) g_39 (by decide)))) rfl 1 (by decide) (hts _ (List.mem_cons_of_mem _ mGA_365)) (fun _ h9 => h9) rfl (dk_at dkX11_trusts 16 rfl) ?_
        refine lv_topi (fun x_45 ex_45 => ?_)
        refine lv_istore_n (lv' := [(3, .int x_45), (0, .ref h0), (1, .int p1), (2, .int p2)]) hx hb (dk_at dkX11_trusts 17 rfl) rfl hl (by decide) rfl (fun ls hl => ?_)
        refine lv_aload_n hx hb (dk_at dkX11_trusts 18 rfl) rfl (lv_at hl 1 rfl) ?_
        refine va_get (D := (dC, dI)) (ci := 11) (v := .ref am) (C := RX11) (T := TX11) (N := 16) hx hb hts (fun w h => List.mem_cons_of_mem _ (jnGA_X11 w h)) hown hK hP 0 rfl rfl 1 (by decide) (hts _ (List.mem_cons_of_mem _ mGA_14)) (fun _ h9 => h9) rfl (dk_at dkX11_trusts 19 rfl) ?_
        refine va_get (D := (dC, dI)) (ci := 0) (v := .ref pl) (C := RX0) (T := TX0) (N := 13) hx hb hts (fun w h => List.mem_cons_of_mem _ (jnGA_X0 w h)) hown hK hP 1 rfl rfl 10 (by decide) (hts _ (List.mem_cons_of_mem _ mGA_364)) (fun _ h9 => h9) rfl (dk_at dkX11_trusts 20 rfl) ?_
        refine lv_iload_n hx hb (dk_at dkX11_trusts 21 rfl) rfl (lv_at hl 2 rfl) ?_
        refine va_aldq hx hb hK hP 2 0 rfl rfl (gi_in g_39 (by decide)) (dk_at dkX11_trusts 22 rfl) ?_
        refine W.eq (g2 := F0 m 43 ls [.ref (pa p1.toNatClampNeg)]) rfl ?_
        refine lv_iload_n hx hb (dk_at dkX11_trusts 23 rfl) rfl (lv_at hl 3 rfl) ?_
        refine va_put (D := (dC, dI)) (ci := 5) (v := .int p2) (ty := .int) (C := RX5) (T := TX5) (N := 2) hx hb hts (fun w h => List.mem_cons_of_mem _ (jnGA_X5 w h)) tyX5 tyX5_ok nmX5 hown hK hP hD hS (List.length [(h0, .inr (11, [.ref xr, .ref am, .ref xs, .ref xf, .ref co, .ref oc, .ref ta, .ref xq, .ref xh, .ref xk, .ref xo, .int x_outLength, .int x_courtStands, .int x_courtNews, .int x_tallyStands, .int x_historyStands])), (am, .inr (0, [.int amonths, .int afull, .int alean, .int alines, .int ahasMoon, .int amoonStart, .int amoonStep, .int aplaceCount, .int areportCount, .int adeedCount, .ref pl, .ref re, .ref de])), (pl, .inl (kpl, 6, .inr (.inr (.inr (.inr (fun i => some (pa i)))))))] + p1.toNatClampNeg) (gz_famW3 (X := [(h0, .inr (11, [.ref xr, .ref am, .ref xs, .ref xf, .ref co, .ref oc, .ref ta, .ref xq, .ref xh, .ref xk, .ref xo, .int x_outLength, .int x_courtStands, .int x_courtNews, .int x_tallyStands, .int x_historyStands])), (am, .inr (0, [.int amonths, .int afull, .int alean, .int alines, .int ahasMoon, .int amoonStart, .int amoonStep, .int aplaceCount, .int areportCount, .int adeedCount, .ref pl, .ref re, .ref de])), (pl, .inl (kpl, 6, .inr (.inr (.inr (.inr (fun i => some (pa i)))))))]) ((List.append_nil _).symm) (gz_clt (gi_in (n := 6) g_39 (by decide)))) rfl 1 (by decide) (hts _ (List.mem_cons_of_mem _ mGA_365)) (fun _ h9 => h9) rfl (by decide +kernel) rfl rfl (Nat.le_of_ble_eq_true rfl) (dk_at dkX11_trusts 24 rfl) (fun H locs hP hD hS => ?_)
        have hP : va_P (dC, dI) vwCl (([(h0, .inr (11, [.ref xr, .ref am, .ref xs, .ref xf, .ref co, .ref oc, .ref ta, .ref xq, .ref xh, .ref xk, .ref xo, .int x_outLength, .int x_courtStands, .int x_courtNews, .int x_tallyStands, .int x_historyStands])), (am, .inr (0, [.int amonths, .int afull, .int alean, .int alines, .int ahasMoon, .int amoonStart, .int amoonStep, .int aplaceCount, .int areportCount, .int adeedCount, .ref pl, .ref re, .ref de])), (pl, .inl (kpl, 6, .inr (.inr (.inr (.inr (fun i => some (pa i)))))))] : va_W) ++ (gz_fam 6 pa 5 (fun i => [.int (p_name i), .int ((upd p_trust (p1.toNatClampNeg) p2) i)]))) H := gz_famP (X := [(h0, .inr (11, [.ref xr, .ref am, .ref xs, .ref xf, .ref co, .ref oc, .ref ta, .ref xq, .ref xh, .ref xk, .ref xo, .int x_outLength, .int x_courtStands, .int x_courtNews, .int x_tallyStands, .int x_historyStands])), (am, .inr (0, [.int amonths, .int afull, .int alean, .int alines, .int ahasMoon, .int amoonStart, .int amoonStep, .int aplaceCount, .int areportCount, .int adeedCount, .ref pl, .ref re, .ref de])), (pl, .inl (kpl, 6, .inr (.inr (.inr (.inr (fun i => some (pa i)))))))]) ((List.append_nil _).symm) ((List.append_nil _).symm) (gz_clt (gi_in (n := 6) g_39 (by decide))) (by simp [upd]) (fun i hi => by simp [upd, hi]) hP
        have hD : va_D A (([(h0, .inr (11, [.ref xr, .ref am, .ref xs, .ref xf, .ref co, .ref oc, .ref ta, .ref xq, .ref xh, .ref xk, .ref xo, .int x_outLength, .int x_courtStands, .int x_courtNews, .int x_tallyStands, .int x_historyStands])), (am, .inr (0, [.int amonths, .int afull, .int alean, .int alines, .int ahasMoon, .int amoonStart, .int amoonStep, .int aplaceCount, .int areportCount, .int adeedCount, .ref pl, .ref re, .ref de])), (pl, .inl (kpl, 6, .inr (.inr (.inr (.inr (fun i => some (pa i)))))))] : va_W) ++ (gz_fam 6 pa 5 (fun i => [.int (p_name i), .int ((upd p_trust (p1.toNatClampNeg) p2) i)]))) := gz_famD (X := [(h0, .inr (11, [.ref xr, .ref am, .ref xs, .ref xf, .ref co, .ref oc, .ref ta, .ref xq, .ref xh, .ref xk, .ref xo, .int x_outLength, .int x_courtStands, .int x_courtNews, .int x_tallyStands, .int x_historyStands])), (am, .inr (0, [.int amonths, .int afull, .int alean, .int alines, .int ahasMoon, .int amoonStart, .int amoonStep, .int aplaceCount, .int areportCount, .int adeedCount, .ref pl, .ref re, .ref de])), (pl, .inl (kpl, 6, .inr (.inr (.inr (.inr (fun i => some (pa i)))))))]) ((List.append_nil _).symm) ((List.append_nil _).symm) (gz_clt (gi_in (n := 6) g_39 (by decide))) (by simp [upd]) (fun i hi => by simp [upd, hi]) hD
        generalize ef_46 : upd p_trust (p1.toNatClampNeg) p2 = f_46 at hP hD
        obtain ⟨hP, hD⟩ := gz_both (w := (([(h0, .inr (11, [.ref xr, .ref am, .ref xs, .ref xf, .ref co, .ref oc, .ref ta, .ref xq, .ref xh, .ref xk, .ref xo, .int x_outLength, .int x_courtStands, .int x_courtNews, .int x_tallyStands, .int x_historyStands])), (am, .inr (0, [.int amonths, .int afull, .int alean, .int alines, .int ahasMoon, .int amoonStart, .int amoonStep, .int aplaceCount, .int areportCount, .int adeedCount, .ref pl, .ref re, .ref de])), (pl, .inl (kpl, 6, .inr (.inr (.inr (.inr (fun i => some (pa i)))))))] : va_W) ++ (gz_fam 6 pa 5 (fun i => [.int (p_name i), .int (f_46 i)])))) hP hD
        refine lv_aload_n hx hb (dk_at dkX11_trusts 25 rfl) rfl (lv_at hl 1 rfl) ?_
        have hPc := hP.sub (ws' := [(h0, .inr (11, [.ref xr, .ref am, .ref xs, .ref xf, .ref co, .ref oc, .ref ta, .ref xq, .ref xh, .ref xk, .ref xo, .int x_outLength, .int x_courtStands, .int x_courtNews, .int x_tallyStands, .int x_historyStands]))]) [0] rfl
        have hKc := hK.sub (tys' := []) [] rfl
        have hDc := hD.sub (ws' := [(h0, .inr (11, [.ref xr, .ref am, .ref xs, .ref xf, .ref co, .ref oc, .ref ta, .ref xq, .ref xh, .ref xk, .ref xo, .int x_outLength, .int x_courtStands, .int x_courtNews, .int x_tallyStands, .int x_historyStands]))]) [0] (by decide) rfl
        have hFc := va_free (wc := [(h0, .inr (11, [.ref xr, .ref am, .ref xs, .ref xf, .ref co, .ref oc, .ref ta, .ref xq, .ref xh, .ref xk, .ref xo, .int x_outLength, .int x_courtStands, .int x_courtNews, .int x_tallyStands, .int x_historyStands]))]) hD hS hA [0] rfl
        refine va_callv (va_runV (As := []) (rest := []) ⟨hx, hb, hml, hown, hts⟩ (sX11_forget l dC dI H.size h0 xr am xs xf co oc ta xq xh xk xo x_outLength x_courtStands x_courtNews x_tallyStands x_historyStands gx_outLength gx_courtStands gx_tallyStands gx_historyStands) (cwV 0 hts (gz_gV mGA_340 mGA_341 mGA_342 mGA_1 mGA_343 goodGA) rfl rfl rfl (by decide +kernel) ⟨Nat.le_of_ble_eq_true rfl, Nat.le_of_ble_eq_true rfl⟩) ⟨bl_I (bl_a bl_sz (bl_a bl_P (bl_a bl_K (bl_a bl_c bl_nz)))), va_recv hKc hPc (ci := 11) (q0 := 0) rfl rfl, fun U hU hW => ⟨rfl, by rw [hU], by rw [hU]; exact hPc, va_K.moved hW.alike hKc, hDc.weaken (fun _ _ _ _ => trivial), nzA_warm hW hz⟩⟩ rfl rfl hl.1 rfl (lv_room (Nat.le_of_ble_eq_true rfl)) (dk_at dkX11_trusts 26 rfl) ⟨Nat.zero_le _, Nat.zero_le _⟩) hS (fun q _ h => hFc q h) hFc (fun u t H1 locs ht hvm hw hB hz1 hk1 hS => ?_)
        obtain ⟨y_48, y_49, y_50, hB⟩ := hB
        obtain ⟨gy_48, gy_49, gy_50, hE, hP1, hD1⟩ := hB
        rw [ht] at hP1
        obtain ⟨hP, hD⟩ := va_join (wr := (([(am, .inr (0, [.int amonths, .int afull, .int alean, .int alines, .int ahasMoon, .int amoonStart, .int amoonStep, .int aplaceCount, .int areportCount, .int adeedCount, .ref pl, .ref re, .ref de])), (pl, .inl (kpl, 6, .inr (.inr (.inr (.inr (fun i => some (pa i)))))))] : va_W) ++ (gz_fam 6 pa 5 (fun i => [.int (p_name i), .int (f_46 i)])))) (w1 := [(h0, .inr (11, [.ref xr, .ref am, .ref xs, .ref xf, .ref co, .ref oc, .ref ta, .ref xq, .ref xh, .ref xk, .ref xo, .int x_outLength, .int y_48, .int x_courtNews, .int y_49, .int y_50]))]) hP hD [0] ([1, 2] ++ List.range' 3 6) rfl (gz_ixapp rfl (gz_ixR (m := 3) (by simp only [List.length_append, gz_famlen, List.length_cons, List.length_nil]) gz_ixSelf)) (by decide +kernel) (by decide +kernel) hk1 hFc hP1 hD1
        have hP := gz_sub hP (ws' := (([(h0, .inr (11, [.ref xr, .ref am, .ref xs, .ref xf, .ref co, .ref oc, .ref ta, .ref xq, .ref xh, .ref xk, .ref xo, .int x_outLength, .int y_48, .int x_courtNews, .int y_49, .int y_50])), (am, .inr (0, [.int amonths, .int afull, .int alean, .int alines, .int ahasMoon, .int amoonStart, .int amoonStep, .int aplaceCount, .int areportCount, .int adeedCount, .ref pl, .ref re, .ref de])), (pl, .inl (kpl, 6, .inr (.inr (.inr (.inr (fun i => some (pa i)))))))] : va_W) ++ (gz_fam 6 pa 5 (fun i => [.int (p_name i), .int (f_46 i)])))) ([8, 0, 1] ++ List.range' 2 6) (gz_ixapp rfl (gz_ixL (gz_ixR (m := 2) (by simp only [List.length_append, gz_famlen, List.length_cons, List.length_nil]) gz_ixSelf)))
        have hD := hD.sub (ws' := (([(h0, .inr (11, [.ref xr, .ref am, .ref xs, .ref xf, .ref co, .ref oc, .ref ta, .ref xq, .ref xh, .ref xk, .ref xo, .int x_outLength, .int y_48, .int x_courtNews, .int y_49, .int y_50])), (am, .inr (0, [.int amonths, .int afull, .int alean, .int alines, .int ahasMoon, .int amoonStart, .int amoonStep, .int aplaceCount, .int areportCount, .int adeedCount, .ref pl, .ref re, .ref de])), (pl, .inl (kpl, 6, .inr (.inr (.inr (.inr (fun i => some (pa i)))))))] : va_W) ++ (gz_fam 6 pa 5 (fun i => [.int (p_name i), .int (f_46 i)])))) ([8, 0, 1] ++ List.range' 2 6) (by decide +kernel) (gz_ixapp rfl (gz_ixL (gz_ixR (m := 2) (by simp only [List.length_append, gz_famlen, List.length_cons, List.length_nil]) gz_ixSelf)))
        have hF := gf_call (a := (y_48, y_49, y_50)) hE hF
        generalize H1 = H at hP hS ⊢
        refine lv_iload_n hx hb (dk_at dkX11_trusts 27 rfl) rfl (lv_at hl 0 rfl) ?_
        exact W.iret (v := x_45) hx hb hr (fun t ht hW => ⟨⟨x_45, x_45, rfl, ⟨rfl, (gi_any x_45)⟩, y_48, y_49, y_50, f_46, gy_48, gy_49, gy_50, by rw [← ef_46, ex_45]; exact hF.trans hR9.symm, by rw [ht]; exact hP, hD⟩, hS.F ht⟩) hS.2.2 (dk_at dkX11_trusts 28 rfl)
      · have hF := gf_neg c_43 hF
        have g_51 : gi p2 10 2147483647 := gi_lt_r (Int32.not_le.mp c_43) (gi_c 9 9 (by decide)) g_42 (by decide)
        refine lv_bipush (v := (-2)) hx hb (dk_at dkX11_trusts 9 rfl) (by decide) ?_
        exact W.iret (v := (-2)) hx hb hr (fun t ht hW => ⟨⟨(-2), (-2), rfl, ⟨rfl, (gi_any (-2))⟩, x_courtStands, x_tallyStands, x_historyStands, p_trust, gx_courtStands, gx_tallyStands, gx_historyStands, hF.trans hR9.symm, by rw [ht]; exact hP, hD⟩, hS.F ht⟩) hS.2.2 (dk_at dkX11_trusts 10 rfl)
noncomputable def lsX11_moon : List (Nat × Instr × Nat) := [(0, .aload_n 0, 1), (1, .invokevirtual 395, 3), (4, .ifCond .eq 28, 3), (7, .iload_n 1, 1), (8, .ifCond .lt 24, 3), (11, .iload_n 1, 1), (12, .ldc_w 399, 3), (15, .if_icmp .gt 17, 3), (18, .iload_n 2, 1), (19, .sipush 28000, 3), (22, .if_icmp .lt 10, 3), (25, .iload_n 2, 1), (26, .sipush 31000, 3), (29, .if_icmp .le 6, 3), (32, .bipush (-2), 2), (34, .ireturn, 1), (35, .aload_n 0, 1), (36, .getfield 19, 3), (39, .iload_n 1, 1), (40, .iload_n 2, 1), (41, .invokevirtual 400, 3), (44, .aload_n 0, 1), (45, .invokevirtual 111, 3), (48, .aload_n 0, 1), (49, .getfield 19, 3), (52, .iconst 1, 1), (53, .invokevirtual 213, 3), (56, .ireturn, 1)]
theorem dkX11_moon : dkAll cX11_moon lsX11_moon = true := by decide +kernel
noncomputable def bfX11_moon_32 (x_courtStands : Int32) (x_tallyStands : Int32) (x_historyStands : Int32) (amonths : Int32) (ahasMoon : Int32) (amoonStart : Int32) (amoonStep : Int32) (p1 : Int32) (p2 : Int32) (w0_12 : Int32) (w0_14 : Int32) (w0_15 : Int32) (w1_4 : Int32) (w1_5 : Int32) (w1_6 : Int32) : Int32 × Int32 × Int32 × Int32 × Int32 × Int32 × Int32 := ((-2 : Int32), w0_12, w0_14, w0_15, w1_4, w1_5, w1_6)
noncomputable def fX11_moon (x_courtStands : Int32) (x_tallyStands : Int32) (x_historyStands : Int32) (amonths : Int32) (ahasMoon : Int32) (amoonStart : Int32) (amoonStep : Int32) (p1 : Int32) (p2 : Int32) : Int32 × Int32 × Int32 × Int32 × Int32 × Int32 × Int32 := cal (fun o1 => if o1 = (0 : Int32) then (bfX11_moon_32 x_courtStands x_tallyStands x_historyStands amonths ahasMoon amoonStart amoonStep p1 p2 x_courtStands x_tallyStands x_historyStands ahasMoon amoonStart amoonStep) else (if p1 < (0 : Int32) then (bfX11_moon_32 x_courtStands x_tallyStands x_historyStands amonths ahasMoon amoonStart amoonStep p1 p2 x_courtStands x_tallyStands x_historyStands ahasMoon amoonStart amoonStep) else (if (99999 : Int32) < p1 then (bfX11_moon_32 x_courtStands x_tallyStands x_historyStands amonths ahasMoon amoonStart amoonStep p1 p2 x_courtStands x_tallyStands x_historyStands ahasMoon amoonStart amoonStep) else (if p2 < (28000 : Int32) then (bfX11_moon_32 x_courtStands x_tallyStands x_historyStands amonths ahasMoon amoonStart amoonStep p1 p2 x_courtStands x_tallyStands x_historyStands ahasMoon amoonStart amoonStep) else (if p2 ≤ (31000 : Int32) then (cal (fun o2 => cal (fun o3 => cal (fun o4 => (o4, o3.1, o3.2.1, o3.2.2, o2.1, o2.2.1, o2.2.2)) (fX0_earlyOf o2.2.1 o2.2.2 (1 : Int32))) fX11_forget) (fX0_setMoon p1 p2)) else (bfX11_moon_32 x_courtStands x_tallyStands x_historyStands amonths ahasMoon amoonStart amoonStep p1 p2 x_courtStands x_tallyStands x_historyStands ahasMoon amoonStart amoonStep)))))) (fX11_isTold amonths)
abbrev pb_sX11_moon (dC : Nat → ClassId) (dI : Nat → Nat → Nat) (A9 : Nat → Prop) (h0 : Nat) (am : Nat) (xr : Nat) (xs : Nat) (xf : Nat) (co : Nat) (oc : Nat) (ta : Nat) (xq : Nat) (xh : Nat) (xk : Nat) (xo : Nat) (x_outLength : Int32) (x_courtStands : Int32) (x_courtNews : Int32) (x_tallyStands : Int32) (x_historyStands : Int32) (amonths : Int32) (afull : Int32) (alean : Int32) (alines : Int32) (ahasMoon : Int32) (amoonStart : Int32) (amoonStep : Int32) (aplaceCount : Int32) (areportCount : Int32) (adeedCount : Int32) (pl : Nat) (re : Nat) (de : Nat) (p1 : Int32) (p2 : Int32) (r : Int32) (w0_12 : Int32) (w0_14 : Int32) (w0_15 : Int32) (w1_4 : Int32) (w1_5 : Int32) (w1_6 : Int32) (t : State) : Prop := gi w0_12 0 1 ∧ gi w0_14 0 1 ∧ gi w0_15 0 1 ∧ gi w1_4 0 1 ∧ (r, w0_12, w0_14, w0_15, w1_4, w1_5, w1_6) = fX11_moon x_courtStands x_tallyStands x_historyStands amonths ahasMoon amoonStart amoonStep p1 p2 ∧ va_P (dC, dI) vwCl [(h0, .inr (11, [.ref xr, .ref am, .ref xs, .ref xf, .ref co, .ref oc, .ref ta, .ref xq, .ref xh, .ref xk, .ref xo, .int x_outLength, .int w0_12, .int x_courtNews, .int w0_14, .int w0_15])), (am, .inr (0, [.int amonths, .int afull, .int alean, .int alines, .int w1_4, .int w1_5, .int w1_6, .int aplaceCount, .int areportCount, .int adeedCount, .ref pl, .ref re, .ref de]))] t.heap ∧ va_D A9 [(h0, .inr (11, [.ref xr, .ref am, .ref xs, .ref xf, .ref co, .ref oc, .ref ta, .ref xq, .ref xh, .ref xk, .ref xo, .int x_outLength, .int w0_12, .int x_courtNews, .int w0_14, .int w0_15])), (am, .inr (0, [.int amonths, .int afull, .int alean, .int alines, .int w1_4, .int w1_5, .int w1_6, .int aplaceCount, .int areportCount, .int adeedCount, .ref pl, .ref re, .ref de]))]
set_option maxHeartbeats 4000000 in
set_option maxRecDepth 100000 in
theorem sX11_moon (l : Launch) (dC : Nat → ClassId) (dI : Nat → Nat → Nat) (sz : Nat) (h0 : Nat) (am : Nat) (xr : Nat) (xs : Nat) (xf : Nat) (co : Nat) (oc : Nat) (ta : Nat) (xq : Nat) (xh : Nat) (xk : Nat) (xo : Nat) (x_outLength : Int32) (x_courtStands : Int32) (x_courtNews : Int32) (x_tallyStands : Int32) (x_historyStands : Int32) (amonths : Int32) (afull : Int32) (alean : Int32) (alines : Int32) (ahasMoon : Int32) (amoonStart : Int32) (amoonStep : Int32) (aplaceCount : Int32) (areportCount : Int32) (adeedCount : Int32) (pl : Nat) (re : Nat) (de : Nat) (p1 : Int32) (p2 : Int32) (gx_outLength : gi x_outLength 0 72) (gx_courtStands : gi x_courtStands 0 1) (gx_tallyStands : gi x_tallyStands 0 1) (gx_historyStands : gi x_historyStands 0 1) (gamonths : gi amonths 0 24) (gafull : gi afull 0 5) (galean : gi alean 0 5) (gahasMoon : gi ahasMoon 0 1) (gaplaceCount : gi aplaceCount 0 6) (gareportCount : gi areportCount 0 24) (gadeedCount : gi adeedCount 0 8) : Met l yX11_moon (.code yX11_moon cX11_moon 3 (some .int) :: wsGA) ({ frames := 1, cells := 0, slots := 0, locals := 22 }) (va_Pc [.ref h0, .int p1, .int p2] (fun U => U.heap.size = sz ∧ va_P (dC, dI) vwCl [(h0, .inr (11, [.ref xr, .ref am, .ref xs, .ref xf, .ref co, .ref oc, .ref ta, .ref xq, .ref xh, .ref xk, .ref xo, .int x_outLength, .int x_courtStands, .int x_courtNews, .int x_tallyStands, .int x_historyStands])), (am, .inr (0, [.int amonths, .int afull, .int alean, .int alines, .int ahasMoon, .int amoonStart, .int amoonStep, .int aplaceCount, .int areportCount, .int adeedCount, .ref pl, .ref re, .ref de]))] U.heap ∧ va_K (dC, dI) vwCl [] U ∧ va_D (fun _ => True) [(h0, .inr (11, [.ref xr, .ref am, .ref xs, .ref xf, .ref co, .ref oc, .ref ta, .ref xq, .ref xh, .ref xk, .ref xo, .int x_outLength, .int x_courtStands, .int x_courtNews, .int x_tallyStands, .int x_historyStands])), (am, .inr (0, [.int amonths, .int afull, .int alean, .int alines, .int ahasMoon, .int amoonStart, .int amoonStep, .int aplaceCount, .int areportCount, .int adeedCount, .ref pl, .ref re, .ref de]))] ∧ nzA U)) (va_Qi (fun (r : Int32) (u : Int32) => r = u ∧ gi r (-2147483648) 2147483647) (fun r t => ∃ (w0_12 : Int32) (w0_14 : Int32) (w0_15 : Int32) (w1_4 : Int32) (w1_5 : Int32) (w1_6 : Int32), pb_sX11_moon dC dI (va_A [(h0, .inr (11, [.ref xr, .ref am, .ref xs, .ref xf, .ref co, .ref oc, .ref ta, .ref xq, .ref xh, .ref xk, .ref xo, .int x_outLength, .int x_courtStands, .int x_courtNews, .int x_tallyStands, .int x_historyStands])), (am, .inr (0, [.int amonths, .int afull, .int alean, .int alines, .int ahasMoon, .int amoonStart, .int amoonStep, .int aplaceCount, .int areportCount, .int adeedCount, .ref pl, .ref re, .ref de]))] sz) h0 am xr xs xf co oc ta xq xh xk xo x_outLength x_courtStands x_courtNews x_tallyStands x_historyStands amonths afull alean alines ahasMoon amoonStart amoonStep aplaceCount areportCount adeedCount pl re de p1 p2 r w0_12 w0_14 w0_15 w1_4 w1_5 w1_6 t) (va_A [(h0, .inr (11, [.ref xr, .ref am, .ref xs, .ref xf, .ref co, .ref oc, .ref ta, .ref xq, .ref xh, .ref xk, .ref xo, .int x_outLength, .int x_courtStands, .int x_courtNews, .int x_tallyStands, .int x_historyStands])), (am, .inr (0, [.int amonths, .int afull, .int alean, .int alines, .int ahasMoon, .int amoonStart, .int amoonStep, .int aplaceCount, .int areportCount, .int adeedCount, .ref pl, .ref re, .ref de]))] sz)) 0 0 (va_A [(h0, .inr (11, [.ref xr, .ref am, .ref xs, .ref xf, .ref co, .ref oc, .ref ta, .ref xq, .ref xh, .ref xk, .ref xo, .int x_outLength, .int x_courtStands, .int x_courtNews, .int x_tallyStands, .int x_historyStands])), (am, .inr (0, [.int amonths, .int afull, .int alean, .int alines, .int ahasMoon, .int amoonStart, .int amoonStep, .int aplaceCount, .int areportCount, .int adeedCount, .ref pl, .ref re, .ref de]))] sz) := by
  refine Met.ofW (cc := cX11_moon) (maxL := 3) (ret := (some .int)) (by decide) rfl ?_
  intro p e s m args below meth c s₁ B hml hv
  obtain ⟨rfl, hsz, hP, hK, hD0, hz⟩ := hv
  have hx := B.exec
  have hb := B.bytes
  have hr := B.returns
  have hts := atoms_spec (ws := (.code yX11_moon cX11_moon 3 (some .int) :: wsGA)) B.pre
  have hown : s.vm.findClass RX11 = some m.cls := findClass_of_methodNamed B.named
  have hlocks := B.notSynchronized
  subst hsz
  have hD := hD0.self (sz := s.heap.size)
  generalize hAe : va_A [(h0, .inr (11, [.ref xr, .ref am, .ref xs, .ref xf, .ref co, .ref oc, .ref ta, .ref xq, .ref xh, .ref xk, .ref xo, .int x_outLength, .int x_courtStands, .int x_courtNews, .int x_tallyStands, .int x_historyStands])), (am, .inr (0, [.int amonths, .int afull, .int alean, .int alines, .int ahasMoon, .int amoonStart, .int amoonStep, .int aplaceCount, .int areportCount, .int adeedCount, .ref pl, .ref re, .ref de]))] s.heap.size = A at hD ⊢
  have hA : ∀ q : Nat, s.heap.size ≤ q → A q := fun q h => by rw [← hAe]; exact Or.inr h
  have hS : va_S A s.heap s.heap [] := va_S.rf
  have hl := lv_entry ([.ref h0, .int p1, .int p2]) (n := 3) (Nat.le_of_ble_eq_true rfl)
  rw [lg_entry_eq]
  generalize (lg_sl ([.ref h0, .int p1, .int p2]) ++ List.replicate (3 - (lg_sl ([.ref h0, .int p1, .int p2])).length) Slot.unset).toArray = ls at hl ⊢
  have hl : lv_has ls 3 [(0, .ref h0), (1, .int p1), (2, .int p2)] := hl
  obtain ⟨RES, hF⟩ : ∃ R9, fX11_moon x_courtStands x_tallyStands x_historyStands amonths ahasMoon amoonStart amoonStep p1 p2 = R9 := ⟨_, rfl⟩
  have hR9 := hF
  refine lv_aload_n hx hb (dk_at dkX11_moon 0 rfl) rfl (lv_at hl 0 rfl) ?_
  have hPc := hP.sub (ws' := [(h0, .inr (11, [.ref xr, .ref am, .ref xs, .ref xf, .ref co, .ref oc, .ref ta, .ref xq, .ref xh, .ref xk, .ref xo, .int x_outLength, .int x_courtStands, .int x_courtNews, .int x_tallyStands, .int x_historyStands])), (am, .inr (0, [.int amonths, .int afull, .int alean, .int alines, .int ahasMoon, .int amoonStart, .int amoonStep, .int aplaceCount, .int areportCount, .int adeedCount, .ref pl, .ref re, .ref de]))]) [0, 1] rfl
  have hKc := hK.sub (tys' := []) [] rfl
  refine va_calli (va_runV (As := []) (rest := []) ⟨hx, hb, hml, hown, hts⟩ (sX11_isTold l dC dI h0 am xr xs xf co oc ta xq xh xk xo x_outLength x_courtStands x_courtNews x_tallyStands x_historyStands amonths afull alean alines ahasMoon amoonStart amoonStep aplaceCount areportCount adeedCount pl re de gx_outLength gx_courtStands gx_tallyStands gx_historyStands gamonths gafull galean gahasMoon gaplaceCount gareportCount gadeedCount) (cwV 0 hts (gz_gV mGA_412 mGA_413 mGA_414 mGA_1 mGA_415 goodGA) rfl rfl rfl (by decide +kernel) ⟨Nat.le_of_ble_eq_true rfl, Nat.le_of_ble_eq_true rfl⟩) ⟨bl_I (bl_a bl_P (bl_a bl_K bl_nz)), va_recv hKc hPc (ci := 11) (q0 := 0) rfl rfl, fun U hU hW => ⟨rfl, by rw [hU]; exact hPc, va_K.moved hW.alike hKc, nzA_warm hW hz⟩⟩ rfl rfl hl.1 rfl (lv_room (Nat.le_of_ble_eq_true rfl)) (dk_at dkX11_moon 1 rfl) ⟨Nat.zero_le _, Nat.zero_le _⟩) hS (fun q _ h => h.elim) (fun q h => h.elim) (fun r_51 u t H1 locs ht hvm hw hB hz1 hk1 hS => ?_)
  obtain ⟨hw, hE⟩ := hw
  have hP := gz_keep hP hk1
  have hF := gf_call (a := r_51) hE hF
  generalize H1 = H at hP hS ⊢
  have gr_51 : gi r_51 0 1 := hw
  refine lv_if_eq (tgt := 32) hx hb (dk_at dkX11_moon 2 rfl) (by decide) (fun c_52 => ?_) (fun c_52 => ?_)
  · have hF := gf_pos c_52 hF
    have g_53 : gi r_51 0 0 := gi_eq c_52 (gi_c 0 0 (by decide))
    refine lv_bipush (v := (-2)) hx hb (dk_at dkX11_moon 14 rfl) (by decide) ?_
    exact W.iret (v := (-2)) hx hb hr (fun t ht hW => ⟨⟨(-2), (-2), rfl, ⟨rfl, (gi_any (-2))⟩, x_courtStands, x_tallyStands, x_historyStands, ahasMoon, amoonStart, amoonStep, gx_courtStands, gx_tallyStands, gx_historyStands, gahasMoon, hF.trans hR9.symm, by rw [ht]; exact hP, hD⟩, hS.F ht⟩) hS.2.2 (dk_at dkX11_moon 15 rfl)
  · have hF := gf_neg c_52 hF
    have g_54 : gi r_51 1 1 := gi_ne_lo c_52 gr_51 (gi_c 0 0 (by decide)) (by decide)
    refine lv_iload_n hx hb (dk_at dkX11_moon 3 rfl) rfl (lv_at hl 1 rfl) ?_
    refine lv_if_lt (tgt := 32) hx hb (dk_at dkX11_moon 4 rfl) (by decide) (fun c_55 => ?_) (fun c_55 => ?_)
    · have hF := gf_pos c_55 hF
      have g_56 : gi p1 (-2147483648) (-1) := gi_lt_l c_55 (gi_any p1) (gi_c 0 0 (by decide)) (by decide)
      refine lv_bipush (v := (-2)) hx hb (dk_at dkX11_moon 14 rfl) (by decide) ?_
      exact W.iret (v := (-2)) hx hb hr (fun t ht hW => ⟨⟨(-2), (-2), rfl, ⟨rfl, (gi_any (-2))⟩, x_courtStands, x_tallyStands, x_historyStands, ahasMoon, amoonStart, amoonStep, gx_courtStands, gx_tallyStands, gx_historyStands, gahasMoon, hF.trans hR9.symm, by rw [ht]; exact hP, hD⟩, hS.F ht⟩) hS.2.2 (dk_at dkX11_moon 15 rfl)
    · have hF := gf_neg c_55 hF
      have g_57 : gi p1 0 2147483647 := gi_le_r (Int32.not_lt.mp c_55) (gi_c 0 0 (by decide)) (gi_any p1)
      refine lv_iload_n hx hb (dk_at dkX11_moon 5 rfl) rfl (lv_at hl 1 rfl) ?_
      refine lv_ldcw (own := RX11) (v := 99999) hx hb hown (hts _ (List.mem_cons_of_mem _ mGA_913)) (dk_at dkX11_moon 6 rfl) ?_
      refine lv_icmp_gt (tgt := 32) hx hb (dk_at dkX11_moon 7 rfl) (by decide) (fun c_58 => ?_) (fun c_58 => ?_)
      · have hF := gf_pos c_58 hF
        have g_59 : gi p1 100000 2147483647 := gi_lt_r c_58 (gi_c 99999 99999 (by decide)) g_57 (by decide)
        refine lv_bipush (v := (-2)) hx hb (dk_at dkX11_moon 14 rfl) (by decide) ?_
        exact W.iret (v := (-2)) hx hb hr (fun t ht hW => ⟨⟨(-2), (-2), rfl, ⟨rfl, (gi_any (-2))⟩, x_courtStands, x_tallyStands, x_historyStands, ahasMoon, amoonStart, amoonStep, gx_courtStands, gx_tallyStands, gx_historyStands, gahasMoon, hF.trans hR9.symm, by rw [ht]; exact hP, hD⟩, hS.F ht⟩) hS.2.2 (dk_at dkX11_moon 15 rfl)
      · have hF := gf_neg c_58 hF
        have g_60 : gi p1 0 99999 := gi_le_l (Int32.not_lt.mp c_58) g_57 (gi_c 99999 99999 (by decide))
        refine lv_iload_n hx hb (dk_at dkX11_moon 8 rfl) rfl (lv_at hl 2 rfl) ?_
        refine lv_sipush (v := 28000) hx hb (dk_at dkX11_moon 9 rfl) (by decide) ?_
        refine lv_icmp_lt (tgt := 32) hx hb (dk_at dkX11_moon 10 rfl) (by decide) (fun c_61 => ?_) (fun c_61 => ?_)
        · have hF := gf_pos c_61 hF
          have g_62 : gi p2 (-2147483648) 27999 := gi_lt_l c_61 (gi_any p2) (gi_c 28000 28000 (by decide)) (by decide)
          refine lv_bipush (v := (-2)) hx hb (dk_at dkX11_moon 14 rfl) (by decide) ?_
          exact W.iret (v := (-2)) hx hb hr (fun t ht hW => ⟨⟨(-2), (-2), rfl, ⟨rfl, (gi_any (-2))⟩, x_courtStands, x_tallyStands, x_historyStands, ahasMoon, amoonStart, amoonStep, gx_courtStands, gx_tallyStands, gx_historyStands, gahasMoon, hF.trans hR9.symm, by rw [ht]; exact hP, hD⟩, hS.F ht⟩) hS.2.2 (dk_at dkX11_moon 15 rfl)
        · have hF := gf_neg c_61 hF
          have g_63 : gi p2 28000 2147483647 := gi_le_r (Int32.not_lt.mp c_61) (gi_c 28000 28000 (by decide)) (gi_any p2)
          refine lv_iload_n hx hb (dk_at dkX11_moon 11 rfl) rfl (lv_at hl 2 rfl) ?_
          refine lv_sipush (v := 31000) hx hb (dk_at dkX11_moon 12 rfl) (by decide) ?_
          refine lv_icmp_le (tgt := 35) hx hb (dk_at dkX11_moon 13 rfl) (by decide) (fun c_64 => ?_) (fun c_64 => ?_)
          · have hF := gf_pos c_64 hF
            have g_65 : gi p2 28000 31000 := gi_le_l c_64 g_63 (gi_c 31000 31000 (by decide))
            refine lv_aload_n hx hb (dk_at dkX11_moon 16 rfl) rfl (lv_at hl 0 rfl) ?_
            refine va_get (D := (dC, dI)) (ci := 11) (v := .ref am) (C := RX11) (T := TX11) (N := 16) hx hb hts (fun w h => List.mem_cons_of_mem _ (jnGA_X11 w h)) hown hK hP 0 rfl rfl 1 (by decide) (hts _ (List.mem_cons_of_mem _ mGA_14)) (fun _ h9 => h9) rfl (dk_at dkX11_moon 17 rfl) ?_
            refine lv_iload_n hx hb (dk_at dkX11_moon 18 rfl) rfl (lv_at hl 1 rfl) ?_
            refine lv_iload_n hx hb (dk_at dkX11_moon 19 rfl) rfl (lv_at hl 2 rfl) ?_
            obtain ⟨hPc, hDc, hFc⟩ := gz_cut (wc := [(am, .inr (0, [.int amonths, .int afull, .int alean, .int alines, .int ahasMoon, .int amoonStart, .int amoonStep, .int aplaceCount, .int areportCount, .int adeedCount, .ref pl, .ref re, .ref de]))]) hP hD hS hA [1] (by decide) rfl
            have hKc := hK.sub (tys' := []) [] rfl
            refine va_callv (va_runV (As := [.int p1, .int p2]) (rest := []) ⟨hx, hb, hml, hown, hts⟩ (sX0_setMoon l dC dI H.size am amonths afull alean alines ahasMoon amoonStart amoonStep aplaceCount areportCount adeedCount pl re de p1 p2 gamonths gafull galean gahasMoon gaplaceCount gareportCount gadeedCount) (cwV 2 hts (gz_gV mGA_914 mGA_282 mGA_283 mGA_13 mGA_284 goodGA) rfl rfl rfl (by decide +kernel) ⟨Nat.le_of_ble_eq_true rfl, Nat.le_of_ble_eq_true rfl⟩) ⟨bl_I (bl_a bl_sz (bl_a bl_P (bl_a bl_K (bl_a bl_c bl_nz)))), va_recv hKc hPc (ci := 0) (q0 := 0) rfl rfl, fun U hU hW => ⟨rfl, by rw [hU], by rw [hU]; exact hPc, va_K.moved hW.alike hKc, hDc.weaken (fun _ _ _ _ => trivial), nzA_warm hW hz⟩⟩ rfl rfl hl.1 rfl (lv_room (Nat.le_of_ble_eq_true rfl)) (dk_at dkX11_moon 20 rfl) ⟨Nat.zero_le _, Nat.zero_le _⟩) hS (fun q _ h => hFc q h) hFc (fun u t H1 locs ht hvm hw hB hz1 hk1 hS => ?_)
            obtain ⟨y_67, y_68, y_69, hB⟩ := hB
            obtain ⟨gy_67, hE, hP1, hD1⟩ := hB
            rw [ht] at hP1
            obtain ⟨hP, hD⟩ := gz_back hP hD hk1 hFc hP1 hD1 [1] rfl rfl
            obtain ⟨hP, hD⟩ := gz_both (w := [(h0, .inr (11, [.ref xr, .ref am, .ref xs, .ref xf, .ref co, .ref oc, .ref ta, .ref xq, .ref xh, .ref xk, .ref xo, .int x_outLength, .int x_courtStands, .int x_courtNews, .int x_tallyStands, .int x_historyStands])), (am, .inr (0, [.int amonths, .int afull, .int alean, .int alines, .int y_67, .int y_68, .int y_69, .int aplaceCount, .int areportCount, .int adeedCount, .ref pl, .ref re, .ref de]))]) hP hD
            have hF := gf_call (a := (y_67, y_68, y_69)) hE hF
            generalize H1 = H at hP hS ⊢
            refine lv_aload_n hx hb (dk_at dkX11_moon 21 rfl) rfl (lv_at hl 0 rfl) ?_
            obtain ⟨hPc, hDc, hFc⟩ := gz_cut (wc := [(h0, .inr (11, [.ref xr, .ref am, .ref xs, .ref xf, .ref co, .ref oc, .ref ta, .ref xq, .ref xh, .ref xk, .ref xo, .int x_outLength, .int x_courtStands, .int x_courtNews, .int x_tallyStands, .int x_historyStands]))]) hP hD hS hA [0] (by decide) rfl
            have hKc := hK.sub (tys' := []) [] rfl
            refine va_callv (va_runV (As := []) (rest := []) ⟨hx, hb, hml, hown, hts⟩ (sX11_forget l dC dI H.size h0 xr am xs xf co oc ta xq xh xk xo x_outLength x_courtStands x_courtNews x_tallyStands x_historyStands gx_outLength gx_courtStands gx_tallyStands gx_historyStands) (cwV 0 hts (gz_gV mGA_340 mGA_341 mGA_342 mGA_1 mGA_343 goodGA) rfl rfl rfl (by decide +kernel) ⟨Nat.le_of_ble_eq_true rfl, Nat.le_of_ble_eq_true rfl⟩) ⟨bl_I (bl_a bl_sz (bl_a bl_P (bl_a bl_K (bl_a bl_c bl_nz)))), va_recv hKc hPc (ci := 11) (q0 := 0) rfl rfl, fun U hU hW => ⟨rfl, by rw [hU], by rw [hU]; exact hPc, va_K.moved hW.alike hKc, hDc.weaken (fun _ _ _ _ => trivial), nzA_warm hW hz⟩⟩ rfl rfl hl.1 rfl (lv_room (Nat.le_of_ble_eq_true rfl)) (dk_at dkX11_moon 22 rfl) ⟨Nat.zero_le _, Nat.zero_le _⟩) hS (fun q _ h => hFc q h) hFc (fun u t H1 locs ht hvm hw hB hz1 hk1 hS => ?_)
            obtain ⟨y_71, y_72, y_73, hB⟩ := hB
            obtain ⟨gy_71, gy_72, gy_73, hE, hP1, hD1⟩ := hB
            rw [ht] at hP1
            obtain ⟨hP, hD⟩ := gz_back hP hD hk1 hFc hP1 hD1 [0] rfl rfl
            obtain ⟨hP, hD⟩ := gz_both (w := [(h0, .inr (11, [.ref xr, .ref am, .ref xs, .ref xf, .ref co, .ref oc, .ref ta, .ref xq, .ref xh, .ref xk, .ref xo, .int x_outLength, .int y_71, .int x_courtNews, .int y_72, .int y_73])), (am, .inr (0, [.int amonths, .int afull, .int alean, .int alines, .int y_67, .int y_68, .int y_69, .int aplaceCount, .int areportCount, .int adeedCount, .ref pl, .ref re, .ref de]))]) hP hD
            have hF := gf_call (a := (y_71, y_72, y_73)) hE hF
            generalize H1 = H at hP hS ⊢
            refine lv_aload_n hx hb (dk_at dkX11_moon 23 rfl) rfl (lv_at hl 0 rfl) ?_
            refine va_get (D := (dC, dI)) (ci := 11) (v := .ref am) (C := RX11) (T := TX11) (N := 16) hx hb hts (fun w h => List.mem_cons_of_mem _ (jnGA_X11 w h)) hown hK hP 0 rfl rfl 1 (by decide) (hts _ (List.mem_cons_of_mem _ mGA_14)) (fun _ h9 => h9) rfl (dk_at dkX11_moon 24 rfl) ?_
            refine lv_iconst (v := 1) hx hb (dk_at dkX11_moon 25 rfl) (by decide) ?_
            have hPc := hP.sub (ws' := [(am, .inr (0, [.int amonths, .int afull, .int alean, .int alines, .int y_67, .int y_68, .int y_69, .int aplaceCount, .int areportCount, .int adeedCount, .ref pl, .ref re, .ref de]))]) [1] rfl
            have hKc := hK.sub (tys' := []) [] rfl
            refine va_calli (va_runV (As := [.int 1]) (rest := []) ⟨hx, hb, hml, hown, hts⟩ (sX0_earlyOf l dC dI am amonths afull alean alines y_67 y_68 y_69 aplaceCount areportCount adeedCount pl re de 1 gamonths gafull galean gy_67 gaplaceCount gareportCount gadeedCount) (cwV 1 hts (gz_gV mGA_416 mGA_417 mGA_418 mGA_13 mGA_419 goodGA) rfl rfl rfl (by decide +kernel) ⟨Nat.le_of_ble_eq_true rfl, Nat.le_of_ble_eq_true rfl⟩) ⟨bl_I (bl_a bl_P (bl_a bl_K bl_nz)), va_recv hKc hPc (ci := 0) (q0 := 0) rfl rfl, fun U hU hW => ⟨rfl, by rw [hU]; exact hPc, va_K.moved hW.alike hKc, nzA_warm hW hz⟩⟩ rfl rfl hl.1 rfl (lv_room (Nat.le_of_ble_eq_true rfl)) (dk_at dkX11_moon 26 rfl) ⟨Nat.zero_le _, Nat.zero_le _⟩) hS (fun q _ h => h.elim) (fun q h => h.elim) (fun r_74 u t H1 locs ht hvm hw hB hz1 hk1 hS => ?_)
            obtain ⟨hw, hE⟩ := hw
            have hP := gz_keep hP hk1
            have hF := gf_call (a := r_74) hE hF
            generalize H1 = H at hP hS ⊢
            exact W.iret (v := r_74) hx hb hr (fun t ht hW => ⟨⟨r_74, r_74, rfl, ⟨rfl, (gi_any r_74)⟩, y_71, y_72, y_73, y_67, y_68, y_69, gy_71, gy_72, gy_73, gy_67, hF.trans hR9.symm, by rw [ht]; exact hP, hD⟩, hS.F ht⟩) hS.2.2 (dk_at dkX11_moon 27 rfl)
          · have hF := gf_neg c_64 hF
            have g_75 : gi p2 31001 2147483647 := gi_lt_r (Int32.not_le.mp c_64) (gi_c 31000 31000 (by decide)) g_63 (by decide)
            refine lv_bipush (v := (-2)) hx hb (dk_at dkX11_moon 14 rfl) (by decide) ?_
            exact W.iret (v := (-2)) hx hb hr (fun t ht hW => ⟨⟨(-2), (-2), rfl, ⟨rfl, (gi_any (-2))⟩, x_courtStands, x_tallyStands, x_historyStands, ahasMoon, amoonStart, amoonStep, gx_courtStands, gx_tallyStands, gx_historyStands, gahasMoon, hF.trans hR9.symm, by rw [ht]; exact hP, hD⟩, hS.F ht⟩) hS.2.2 (dk_at dkX11_moon 15 rfl)
/-! the words of the text -/
def stL (i : Nat) : List Int32 := ([[97, 108, 109, 97, 110, 97, 99], [99, 108, 101, 97, 114], [99, 108, 111, 117, 100], [100, 97, 121], [100, 97, 121, 115], [100, 101, 101, 100], [102, 111, 114], [102, 117, 108, 108], [107, 110, 111, 119, 110], [108, 101, 97, 110], [109, 111, 110, 116, 104], [109, 111, 110, 116, 104, 115], [109, 111, 111, 110], [111, 110], [112, 108, 97, 99, 101], [115, 101, 101, 110], [115, 116, 101, 112], [116, 114, 117, 115, 116]] : List (List Int32)).getD i []
def stIA (i : Nat) : Nat := ([92, 76, 78, 159, 164, 80, 161, 104, 146, 106, 142, 98, 56, 144, 65, 70, 123, 134] : List Nat).getD i 0
def stIB (i : Nat) : Nat := ([250, 271, 273, 240, 244, 278, 242, 252, 234, 254, 230, 246, 259, 232, 264, 269, 248, 222] : List Nat).getD i 0
def stT (i : Nat) : String := (["almanac", "clear", "cloud", "day", "days", "deed", "for", "full", "known", "lean", "month", "months", "moon", "on", "place", "seen", "step", "trust"] : List String).getD i ""
theorem stL_len : ∀ i, i < 18 → (stL i).length ≤ 7 := by decide +kernel
def gz_str (a b : Nat) (L : List Int32) (A : Nat → Prop) (U : State) (H : Heap) : Prop := va_O "java/lang/String" a A U H ∧ va_OF "java/lang/String" "coder" "B" (.int 0) a A U H ∧ va_OF "java/lang/String" "value" "[B" (.ref b) a A U H ∧ va_T .byte b L.length (fun j => .int (L.getD j 0)) A U H
def gz_sp (a b : Nat) (L : List Int32) (zf : Value) (A : Nat → Prop) (U : State) (H : Heap) : Prop := va_Z "java/lang/String" "COMPACT_STRINGS" "Z" (.int 1) A U H ∧ va_Z "jdk/internal/util/Preconditions" "SIOOBE_FORMATTER" "Ljava/util/function/BiFunction;" zf A U H ∧ gz_str a b L A U H
theorem gz_str.moved {a b : Nat} {L : List Int32} {A : Nat → Prop} {u U : State} {H : Heap} (hvm : u.vm.Alike U.vm) (h : gz_str a b L A u H) : gz_str a b L A U H := ⟨va_O.moved hvm h.1, va_OF.moved hvm h.2.1, va_OF.moved hvm h.2.2.1, va_T.moved hvm h.2.2.2⟩
theorem gz_str.kept {a b : Nat} {L : List Int32} {A : Nat → Prop} {U : State} {H H1 : Heap} (h : gz_str a b L A U H) (hq : ∀ a : Nat, a < H.size → ¬ A a → H1[a]? = H[a]?) : gz_str a b L A U H1 := ⟨h.1.kept hq, h.2.1.kept hq, h.2.2.1.kept hq, h.2.2.2.kept hq⟩
theorem gz_str.narrow {a b : Nat} {L : List Int32} {A B : Nat → Prop} {U : State} {H : Heap} (h : gz_str a b L A U H) (hAB : ∀ q, B q → A q) : gz_str a b L B U H := ⟨h.1.narrow hAB, h.2.1.narrow hAB, h.2.2.1.narrow hAB, h.2.2.2.narrow hAB⟩
theorem gz_sp.moved {a b : Nat} {L : List Int32} {zf : Value} {A : Nat → Prop} {u U : State} {H : Heap} (hvm : u.vm.Alike U.vm) (h : gz_sp a b L zf A u H) : gz_sp a b L zf A U H := ⟨va_Z.moved hvm h.1, va_Z.moved hvm h.2.1, h.2.2.moved hvm⟩
theorem gz_sp.kept {a b : Nat} {L : List Int32} {zf : Value} {A : Nat → Prop} {U : State} {H H1 : Heap} (h : gz_sp a b L zf A U H) (hq : ∀ a : Nat, a < H.size → ¬ A a → H1[a]? = H[a]?) : gz_sp a b L zf A U H1 := ⟨h.1.kept hq, h.2.1.kept hq, h.2.2.kept hq⟩
theorem gz_sp.narrow {a b : Nat} {L : List Int32} {zf : Value} {A B : Nat → Prop} {U : State} {H : Heap} (h : gz_sp a b L zf A U H) (hAB : ∀ q, B q → A q) : gz_sp a b L zf B U H := ⟨h.1.narrow hAB, h.2.1.narrow hAB, h.2.2.narrow hAB⟩
/-- all words of a class -/
def gz_ST (own : String) (ix : Nat → Nat) (sa sb : Nat → Nat) (zf : Value) (A : Nat → Prop) (U : State) (H : Heap) : Prop := (zf = .null ∨ ∃ t, zf = .ref t) ∧ ∀ i, i < 18 → vk_R own (ix i) (stT i) (sa i) U ∧ gz_sp (sa i) (sb i) (stL i) zf A U H
theorem gz_ST.warm {own : String} {ix sa sb : Nat → Nat} {zf : Value} {A : Nat → Prop} {s U : State} {H : Heap} (hW : s.WarmedH U.vm) (h : gz_ST own ix sa sb zf A s H) : gz_ST own ix sa sb zf A U H := ⟨h.1, fun i hi => ⟨(h.2 i hi).1.warm hW, (h.2 i hi).2.moved hW.alike⟩⟩
theorem gz_ST.same {own : String} {ix sa sb : Nat → Nat} {zf : Value} {A : Nat → Prop} {u U : State} {H : Heap} (hv : U.vm = u.vm) (h : gz_ST own ix sa sb zf A u H) : gz_ST own ix sa sb zf A U H := ⟨h.1, fun i hi => ⟨(h.2 i hi).1.same hv, (h.2 i hi).2.moved (hv ▸ Vm.Alike.refl u.vm)⟩⟩
theorem bl_ST {own : String} {ix sa sb : Nat → Nat} {zf : Value} {A : Nat → Prop} : Bl (fun U => gz_ST own ix sa sb zf A U U.heap) := fun U g mk a h => gz_ST.same (u := U) (U := U.calling g mk a) rfl h
theorem gz_ST.kept {own : String} {ix sa sb : Nat → Nat} {zf : Value} {A : Nat → Prop} {U : State} {H H1 : Heap} (h : gz_ST own ix sa sb zf A U H) (hq : ∀ a : Nat, a < H.size → ¬ A a → H1[a]? = H[a]?) : gz_ST own ix sa sb zf A U H1 := ⟨h.1, fun i hi => ⟨(h.2 i hi).1, (h.2 i hi).2.kept hq⟩⟩
theorem gz_ST.narrow {own : String} {ix sa sb : Nat → Nat} {zf : Value} {A B : Nat → Prop} {U : State} {H : Heap} (h : gz_ST own ix sa sb zf A U H) (hAB : ∀ q, B q → A q) : gz_ST own ix sa sb zf B U H := ⟨h.1, fun i hi => ⟨(h.2 i hi).1, (h.2 i hi).2.narrow hAB⟩⟩
noncomputable def lsJ0_coder_7d493 : List (Nat × Instr × Nat) := [(0, .getstatic 38, 3), (3, .ifCond .eq 10, 3), (6, .aload_n 0, 1), (7, .getfield 15, 3), (10, .goto 4, 3), (13, .iconst 1, 1), (14, .ireturn, 1)]
theorem dkJ0_coder_7d493 : dkAll cJ0_coder_7d493 lsJ0_coder_7d493 = true := by decide +kernel
noncomputable def lsJ0_isLatin1_aae02 : List (Nat × Instr × Nat) := [(0, .getstatic 38, 3), (3, .ifCond .eq 14, 3), (6, .aload_n 0, 1), (7, .getfield 15, 3), (10, .ifCond .ne 7, 3), (13, .iconst 1, 1), (14, .goto 4, 3), (17, .iconst 0, 1), (18, .ireturn, 1)]
theorem dkJ0_isLatin1_aae02 : dkAll cJ0_isLatin1_aae02 lsJ0_isLatin1_aae02 = true := by decide +kernel
noncomputable def lsJ0_length_8abf5 : List (Nat × Instr × Nat) := [(0, .aload_n 0, 1), (1, .getfield 9, 3), (4, .arraylength, 1), (5, .aload_n 0, 1), (6, .invokevirtual 335, 3), (9, .ishr, 1), (10, .ireturn, 1)]
theorem dkJ0_length_8abf5 : dkAll cJ0_length_8abf5 lsJ0_length_8abf5 = true := by decide +kernel
noncomputable def lsJ0_charAt_5068e : List (Nat × Instr × Nat) := [(0, .aload_n 0, 1), (1, .invokevirtual 492, 3), (4, .ifCond .eq 12, 3), (7, .aload_n 0, 1), (8, .getfield 9, 3), (11, .iload_n 1, 1), (12, .invokestatic 495, 3), (15, .ireturn, 1), (16, .aload_n 0, 1), (17, .getfield 9, 3), (20, .iload_n 1, 1), (21, .invokestatic 498, 3), (24, .ireturn, 1)]
theorem dkJ0_charAt_5068e : dkAll cJ0_charAt_5068e lsJ0_charAt_5068e = true := by decide +kernel
noncomputable def lsJ1_charAt_3b067 : List (Nat × Instr × Nat) := [(0, .iload_n 1, 1), (1, .aload_n 0, 1), (2, .arraylength, 1), (3, .invokestatic 9, 3), (6, .aload_n 0, 1), (7, .iload_n 1, 1), (8, .baload, 1), (9, .sipush 255, 3), (12, .iand, 1), (13, .i2c, 1), (14, .ireturn, 1)]
theorem dkJ1_charAt_3b067 : dkAll cJ1_charAt_3b067 lsJ1_charAt_3b067 = true := by decide +kernel
noncomputable def lsJ0_checkIndex_df160 : List (Nat × Instr × Nat) := [(0, .iload_n 0, 1), (1, .iload_n 1, 1), (2, .getstatic 1053, 3), (5, .invokestatic 1059, 3), (8, .pop, 1), (9, .return_, 1)]
theorem dkJ0_checkIndex_df160 : dkAll cJ0_checkIndex_df160 lsJ0_checkIndex_df160 = true := by decide +kernel
noncomputable def lsJ3_checkIndex_8e157 : List (Nat × Instr × Nat) := [(0, .iload_n 0, 1), (1, .ifCond .lt 8, 3), (4, .iload_n 0, 1), (5, .iload_n 1, 1), (6, .if_icmp .lt 10, 3), (9, .aload_n 2, 1), (10, .iload_n 0, 1), (11, .iload_n 1, 1), (12, .invokestatic 95, 3), (15, .athrow, 1), (16, .iload_n 0, 1), (17, .ireturn, 1)]
theorem dkJ3_checkIndex_8e157 : dkAll cJ3_checkIndex_8e157 lsJ3_checkIndex_8e157 = true := by decide +kernel
set_option maxHeartbeats 4000000 in
set_option maxRecDepth 100000 in
theorem sJ0_coderA (l : Launch) (a b : Nat) (L : List Int32) (zf : Value) : Met l yJ0_coder_7d493 (.code yJ0_coder_7d493 cJ0_coder_7d493 1 (some .byte) :: wsGA) ({ frames := 0, cells := 0, slots := 0, locals := 0 }) (va_Pc [.ref a] (fun U => gz_sp a b L zf (fun _ => False) U U.heap)) (va_Qi (fun (r : Int32) (u : Unit) => r = 0) (fun _ _ => True) (fun _ => False)) 0 0 (fun _ => False) := by
  refine Met.ofW (cc := cJ0_coder_7d493) (maxL := 1) (ret := (some .byte)) (by decide) rfl ?_
  intro p e s m args below meth c s₁ B hml hv
  obtain ⟨rfl, hsp⟩ := hv
  have hx := B.exec
  have hb := B.bytes
  have hr := B.returns
  have hts := atoms_spec (ws := (.code yJ0_coder_7d493 cJ0_coder_7d493 1 (some .byte) :: wsGA)) B.pre
  have hown : s.vm.findClass RJ0 = some m.cls := findClass_of_methodNamed B.named
  have hlocks := B.notSynchronized
  have hS : va_S (fun _ => False) s.heap s.heap [] := va_S.rf
  have hl := lv_entry ([.ref a]) (n := 1) (Nat.le_of_ble_eq_true rfl)
  rw [lg_entry_eq]
  generalize (lg_sl ([.ref a]) ++ List.replicate (1 - (lg_sl ([.ref a])).length) Slot.unset).toArray = ls at hl ⊢
  have hl : lv_has ls 1 [(0, .ref a)] := hl
  refine va_gets hx hb hsp.1 hS hown (hts _ (List.mem_cons_of_mem _ mGA_211)) (fun _ h9 => h9) (dk_at dkJ0_coder_7d493 0 rfl) ?_
  refine lv_if_eq (tgt := 13) hx hb (dk_at dkJ0_coder_7d493 1 rfl) (by decide) (fun c9 => absurd c9 (by decide)) (fun c9 => ?_)
  refine lv_aload_n hx hb (dk_at dkJ0_coder_7d493 2 rfl) rfl (lv_at hl 0 rfl) ?_
  refine vk_getf hx hb hsp.2.2.2.1 hS hown (hts _ (List.mem_cons_of_mem _ mGA_212)) (fun _ h9 => h9) (dk_at dkJ0_coder_7d493 3 rfl) ?_
  refine lv_goto (tgt := 14) hx hb (dk_at dkJ0_coder_7d493 4 rfl) (by decide) ?_
  exact W.zret (v := 0) hx hb hr rfl (fun t ht hW => ⟨⟨0, (), rfl, rfl, trivial⟩, hS.F ht⟩) hS.2.2 (dk_at dkJ0_coder_7d493 6 rfl)
set_option maxHeartbeats 4000000 in
set_option maxRecDepth 100000 in
theorem sJ0_isLatin1A (l : Launch) (a b : Nat) (L : List Int32) (zf : Value) : Met l yJ0_isLatin1_aae02 (.code yJ0_isLatin1_aae02 cJ0_isLatin1_aae02 1 (some .boolean) :: wsGA) ({ frames := 0, cells := 0, slots := 0, locals := 0 }) (va_Pc [.ref a] (fun U => gz_sp a b L zf (fun _ => False) U U.heap)) (va_Qi (fun (r : Int32) (u : Unit) => r = 1) (fun _ _ => True) (fun _ => False)) 0 0 (fun _ => False) := by
  refine Met.ofW (cc := cJ0_isLatin1_aae02) (maxL := 1) (ret := (some .boolean)) (by decide) rfl ?_
  intro p e s m args below meth c s₁ B hml hv
  obtain ⟨rfl, hsp⟩ := hv
  have hx := B.exec
  have hb := B.bytes
  have hr := B.returns
  have hts := atoms_spec (ws := (.code yJ0_isLatin1_aae02 cJ0_isLatin1_aae02 1 (some .boolean) :: wsGA)) B.pre
  have hown : s.vm.findClass RJ0 = some m.cls := findClass_of_methodNamed B.named
  have hlocks := B.notSynchronized
  have hS : va_S (fun _ => False) s.heap s.heap [] := va_S.rf
  have hl := lv_entry ([.ref a]) (n := 1) (Nat.le_of_ble_eq_true rfl)
  rw [lg_entry_eq]
  generalize (lg_sl ([.ref a]) ++ List.replicate (1 - (lg_sl ([.ref a])).length) Slot.unset).toArray = ls at hl ⊢
  have hl : lv_has ls 1 [(0, .ref a)] := hl
  refine va_gets hx hb hsp.1 hS hown (hts _ (List.mem_cons_of_mem _ mGA_211)) (fun _ h9 => h9) (dk_at dkJ0_isLatin1_aae02 0 rfl) ?_
  refine lv_if_eq (tgt := 17) hx hb (dk_at dkJ0_isLatin1_aae02 1 rfl) (by decide) (fun c9 => absurd c9 (by decide)) (fun c9 => ?_)
  refine lv_aload_n hx hb (dk_at dkJ0_isLatin1_aae02 2 rfl) rfl (lv_at hl 0 rfl) ?_
  refine vk_getf hx hb hsp.2.2.2.1 hS hown (hts _ (List.mem_cons_of_mem _ mGA_212)) (fun _ h9 => h9) (dk_at dkJ0_isLatin1_aae02 3 rfl) ?_
  refine lv_if_ne (tgt := 17) hx hb (dk_at dkJ0_isLatin1_aae02 4 rfl) (by decide) (fun c9 => absurd rfl c9) (fun c9 => ?_)
  refine lv_iconst (v := 1) hx hb (dk_at dkJ0_isLatin1_aae02 5 rfl) (by decide) ?_
  refine lv_goto (tgt := 18) hx hb (dk_at dkJ0_isLatin1_aae02 6 rfl) (by decide) ?_
  exact W.zret (v := 1) hx hb hr rfl (fun t ht hW => ⟨⟨1, (), rfl, rfl, trivial⟩, hS.F ht⟩) hS.2.2 (dk_at dkJ0_isLatin1_aae02 8 rfl)
set_option maxHeartbeats 4000000 in
set_option maxRecDepth 100000 in
theorem sJ0_lengthA (l : Launch) (a b : Nat) (L : List Int32) (zf : Value) (hL : L.length ≤ 7) : Met l yJ0_length_8abf5 (.code yJ0_length_8abf5 cJ0_length_8abf5 1 (some .int) :: wsGA) ({ frames := 1, cells := 0, slots := 0, locals := 20 }) (va_Pc [.ref a] (fun U => gz_sp a b L zf (fun _ => False) U U.heap)) (va_Qi (fun (r : Int32) (u : Unit) => r = nI L.length) (fun _ _ => True) (fun _ => False)) 0 0 (fun _ => False) := by
  refine Met.ofW (cc := cJ0_length_8abf5) (maxL := 1) (ret := (some .int)) (by decide) rfl ?_
  intro p e s m args below meth c s₁ B hml hv
  obtain ⟨rfl, hsp⟩ := hv
  have hx := B.exec
  have hb := B.bytes
  have hr := B.returns
  have hts := atoms_spec (ws := (.code yJ0_length_8abf5 cJ0_length_8abf5 1 (some .int) :: wsGA)) B.pre
  have hown : s.vm.findClass RJ0 = some m.cls := findClass_of_methodNamed B.named
  have hlocks := B.notSynchronized
  have hS : va_S (fun _ => False) s.heap s.heap [] := va_S.rf
  have hl := lv_entry ([.ref a]) (n := 1) (Nat.le_of_ble_eq_true rfl)
  rw [lg_entry_eq]
  generalize (lg_sl ([.ref a]) ++ List.replicate (1 - (lg_sl ([.ref a])).length) Slot.unset).toArray = ls at hl ⊢
  have hl : lv_has ls 1 [(0, .ref a)] := hl
  refine lv_aload_n hx hb (dk_at dkJ0_length_8abf5 0 rfl) rfl (lv_at hl 0 rfl) ?_
  refine vk_getf hx hb hsp.2.2.2.2.1 hS hown (hts _ (List.mem_cons_of_mem _ mGA_206)) (fun _ h9 => h9) (dk_at dkJ0_length_8abf5 1 rfl) ?_
  refine va_tlen (v := nI L.length) hx hb hsp.2.2.2.2.2 hS rfl (dk_at dkJ0_length_8abf5 2 rfl) ?_
  refine lv_aload_n hx hb (dk_at dkJ0_length_8abf5 3 rfl) rfl (lv_at hl 0 rfl) ?_
  refine va_calli (va_runV (As := []) (rest := [.int (nI L.length)]) ⟨hx, hb, hml, hown, hts⟩ (sJ0_coderA l a b L zf) (cwV 0 hts (gz_gV mGA_207 mGA_208 mGA_209 mGA_204 mGA_210 goodGA) rfl rfl rfl (by decide +kernel) ⟨Nat.le_of_ble_eq_true rfl, Nat.le_of_ble_eq_true rfl⟩) ⟨fun a U g mk q => ⟨q.1, gz_sp.moved (u := U) (U := U.calling g mk a) (Vm.Alike.refl U.vm) q.2⟩, (by obtain ⟨cell, h1, h2, h3, -⟩ := hsp.2.2.1.kept hS.2.1; exact ⟨cell, h1, h2, h3⟩), fun U hU hW => ⟨rfl, by show gz_sp _ _ _ _ _ U U.heap; rw [hU]; exact gz_sp.moved hW.alike (hsp.kept hS.2.1)⟩⟩ rfl rfl hl.1 rfl (lv_room (Nat.le_of_ble_eq_true rfl)) (dk_at dkJ0_length_8abf5 4 rfl) ⟨Nat.zero_le _, Nat.zero_le _⟩) hS (fun q _ h => h.elim) (fun q h => h.elim) (fun r u t H1 locs ht hvm hw hB hz1 hk1 hS => ?_)
  have hw : r = 0 := hw
  subst hw
  refine lv_ishr hx hb (dk_at dkJ0_length_8abf5 5 rfl) ?_
  refine gz_topi (y := nI L.length) (sc_shr0 (by omega)) ?_
  exact W.iret (v := nI L.length) hx hb hr (fun t ht hW => ⟨⟨nI L.length, (), rfl, rfl, trivial⟩, hS.F ht⟩) hS.2.2 (dk_at dkJ0_length_8abf5 6 rfl)
set_option maxHeartbeats 4000000 in
set_option maxRecDepth 100000 in
theorem sJ3_checkNA (l : Launch) (i n : Int32) (h1 : ¬ i < 0) (h2 : i < n) : Met l yJ3_checkIndex_8e157 (.code yJ3_checkIndex_8e157 cJ3_checkIndex_8e157 3 (some .int) :: wsGA) ({ frames := 0, cells := 0, slots := 0, locals := 0 }) (va_Pc [.int i, .int n, .null] (fun U => True)) (va_Qi (fun (r : Int32) (u : Unit) => True) (fun _ _ => True) (fun _ => False)) 0 0 (fun _ => False) := by
  refine Met.ofW (cc := cJ3_checkIndex_8e157) (maxL := 3) (ret := (some .int)) (by decide) rfl ?_
  intro p e s m args below meth c s₁ B hml hv
  obtain ⟨rfl, -⟩ := hv
  have hx := B.exec
  have hb := B.bytes
  have hr := B.returns
  have hts := atoms_spec (ws := (.code yJ3_checkIndex_8e157 cJ3_checkIndex_8e157 3 (some .int) :: wsGA)) B.pre
  have hown : s.vm.findClass RJ3 = some m.cls := findClass_of_methodNamed B.named
  have hlocks := B.notSynchronized
  have hS : va_S (fun _ => False) s.heap s.heap [] := va_S.rf
  have hl := lv_entry ([.int i, .int n, .null]) (n := 3) (Nat.le_of_ble_eq_true rfl)
  rw [lg_entry_eq]
  generalize (lg_sl ([.int i, .int n, .null]) ++ List.replicate (3 - (lg_sl ([.int i, .int n, .null])).length) Slot.unset).toArray = ls at hl ⊢
  have hl : lv_has ls 3 [(0, .int i), (1, .int n), (2, .null)] := hl
  refine lv_iload_n hx hb (dk_at dkJ3_checkIndex_8e157 0 rfl) rfl (lv_at hl 0 rfl) ?_
  refine lv_if_lt (tgt := 9) hx hb (dk_at dkJ3_checkIndex_8e157 1 rfl) (by decide) (fun c9 => absurd c9 h1) (fun c9 => ?_)
  refine lv_iload_n hx hb (dk_at dkJ3_checkIndex_8e157 2 rfl) rfl (lv_at hl 0 rfl) ?_
  refine lv_iload_n hx hb (dk_at dkJ3_checkIndex_8e157 3 rfl) rfl (lv_at hl 1 rfl) ?_
  refine lv_icmp_lt (tgt := 16) hx hb (dk_at dkJ3_checkIndex_8e157 4 rfl) (by decide) (fun c9 => ?_) (fun c9 => absurd h2 c9)
  refine lv_iload_n hx hb (dk_at dkJ3_checkIndex_8e157 10 rfl) rfl (lv_at hl 0 rfl) ?_
  exact W.iret (v := i) hx hb hr (fun t ht hW => ⟨⟨i, (), rfl, trivial, trivial⟩, hS.F ht⟩) hS.2.2 (dk_at dkJ3_checkIndex_8e157 11 rfl)
set_option maxHeartbeats 4000000 in
set_option maxRecDepth 100000 in
theorem sJ3_checkRA (l : Launch) (t : Nat) (i n : Int32) (h1 : ¬ i < 0) (h2 : i < n) : Met l yJ3_checkIndex_8e157 (.code yJ3_checkIndex_8e157 cJ3_checkIndex_8e157 3 (some .int) :: wsGA) ({ frames := 0, cells := 0, slots := 0, locals := 0 }) (va_Pc [.int i, .int n, .ref t] (fun U => True)) (va_Qi (fun (r : Int32) (u : Unit) => True) (fun _ _ => True) (fun _ => False)) 0 0 (fun _ => False) := by
  refine Met.ofW (cc := cJ3_checkIndex_8e157) (maxL := 3) (ret := (some .int)) (by decide) rfl ?_
  intro p e s m args below meth c s₁ B hml hv
  obtain ⟨rfl, -⟩ := hv
  have hx := B.exec
  have hb := B.bytes
  have hr := B.returns
  have hts := atoms_spec (ws := (.code yJ3_checkIndex_8e157 cJ3_checkIndex_8e157 3 (some .int) :: wsGA)) B.pre
  have hown : s.vm.findClass RJ3 = some m.cls := findClass_of_methodNamed B.named
  have hlocks := B.notSynchronized
  have hS : va_S (fun _ => False) s.heap s.heap [] := va_S.rf
  have hl := lv_entry ([.int i, .int n, .ref t]) (n := 3) (Nat.le_of_ble_eq_true rfl)
  rw [lg_entry_eq]
  generalize (lg_sl ([.int i, .int n, .ref t]) ++ List.replicate (3 - (lg_sl ([.int i, .int n, .ref t])).length) Slot.unset).toArray = ls at hl ⊢
  have hl : lv_has ls 3 [(0, .int i), (1, .int n), (2, .ref t)] := hl
  refine lv_iload_n hx hb (dk_at dkJ3_checkIndex_8e157 0 rfl) rfl (lv_at hl 0 rfl) ?_
  refine lv_if_lt (tgt := 9) hx hb (dk_at dkJ3_checkIndex_8e157 1 rfl) (by decide) (fun c9 => absurd c9 h1) (fun c9 => ?_)
  refine lv_iload_n hx hb (dk_at dkJ3_checkIndex_8e157 2 rfl) rfl (lv_at hl 0 rfl) ?_
  refine lv_iload_n hx hb (dk_at dkJ3_checkIndex_8e157 3 rfl) rfl (lv_at hl 1 rfl) ?_
  refine lv_icmp_lt (tgt := 16) hx hb (dk_at dkJ3_checkIndex_8e157 4 rfl) (by decide) (fun c9 => ?_) (fun c9 => absurd h2 c9)
  refine lv_iload_n hx hb (dk_at dkJ3_checkIndex_8e157 10 rfl) rfl (lv_at hl 0 rfl) ?_
  exact W.iret (v := i) hx hb hr (fun t ht hW => ⟨⟨i, (), rfl, trivial, trivial⟩, hS.F ht⟩) hS.2.2 (dk_at dkJ3_checkIndex_8e157 11 rfl)
set_option maxHeartbeats 4000000 in
set_option maxRecDepth 100000 in
theorem sJ0_checkA (l : Launch) (a b : Nat) (L : List Int32) (zf : Value) (hzf : zf = .null ∨ ∃ t, zf = .ref t) (i n : Int32) (h1 : ¬ i < 0) (h2 : i < n) : Met l yJ0_checkIndex_df160 (.code yJ0_checkIndex_df160 cJ0_checkIndex_df160 2 none :: wsGA) ({ frames := 1, cells := 0, slots := 0, locals := 22 }) (va_Pc [.int i, .int n] (fun U => gz_sp a b L zf (fun _ => False) U U.heap)) (va_Qv (fun (u : Unit) => True) (fun _ _ => True) (fun _ => False)) 0 0 (fun _ => False) := by
  refine Met.ofW (cc := cJ0_checkIndex_df160) (maxL := 2) (ret := none) (by decide) rfl ?_
  intro p e s m args below meth c s₁ B hml hv
  obtain ⟨rfl, hsp⟩ := hv
  have hx := B.exec
  have hb := B.bytes
  have hr := B.returns
  have hts := atoms_spec (ws := (.code yJ0_checkIndex_df160 cJ0_checkIndex_df160 2 none :: wsGA)) B.pre
  have hown : s.vm.findClass RJ0 = some m.cls := findClass_of_methodNamed B.named
  have hlocks := B.notSynchronized
  have hS : va_S (fun _ => False) s.heap s.heap [] := va_S.rf
  have hl := lv_entry ([.int i, .int n]) (n := 2) (Nat.le_of_ble_eq_true rfl)
  rw [lg_entry_eq]
  generalize (lg_sl ([.int i, .int n]) ++ List.replicate (2 - (lg_sl ([.int i, .int n])).length) Slot.unset).toArray = ls at hl ⊢
  have hl : lv_has ls 2 [(0, .int i), (1, .int n)] := hl
  refine lv_iload_n hx hb (dk_at dkJ0_checkIndex_df160 0 rfl) rfl (lv_at hl 0 rfl) ?_
  refine lv_iload_n hx hb (dk_at dkJ0_checkIndex_df160 1 rfl) rfl (lv_at hl 1 rfl) ?_
  refine va_gets hx hb hsp.2.1 hS hown (hts _ (List.mem_cons_of_mem _ mGA_228)) (fun _ h9 => h9) (dk_at dkJ0_checkIndex_df160 2 rfl) ?_
  rcases hzf with rfl | ⟨t, rfl⟩
  · refine va_calli (va_runS (As := [.int i, .int n, .null]) (rest := []) ⟨hx, hb, hml, hown, hts⟩ (sJ3_checkNA l i n h1 h2) (⟨callB_of 3 hts (gz_gP mGA_232 goodGA) rfl rfl rfl (hts _ (List.mem_cons_of_mem _ mGA_231)) (hts _ (List.mem_cons_of_mem _ mGA_229)) (by decide +kernel) ⟨Nat.le_of_ble_eq_true rfl, Nat.le_of_ble_eq_true rfl⟩, (hts _ (List.mem_cons_of_mem _ mGA_230))⟩) ⟨fun a U g mk q => ⟨q.1, trivial⟩, fun U hU hW => ⟨rfl, trivial⟩⟩ rfl rfl hl.1 rfl (lv_room (Nat.le_of_ble_eq_true rfl)) (dk_at dkJ0_checkIndex_df160 3 rfl) ⟨Nat.zero_le _, Nat.zero_le _⟩) hS (fun q _ h => h.elim) (fun q h => h.elim) (fun r u t H1 locs ht hvm hw hB hz1 hk1 hS => ?_)
    refine lv_pop hx hb (dk_at dkJ0_checkIndex_df160 4 rfl) rfl ?_
    exact W.vret hx hb hr (fun t ht hW => ⟨⟨(), rfl, trivial, trivial⟩, hS.F ht⟩) hS.2.2 (dk_at dkJ0_checkIndex_df160 5 rfl)
  · refine va_calli (va_runS (As := [.int i, .int n, .ref t]) (rest := []) ⟨hx, hb, hml, hown, hts⟩ (sJ3_checkRA l t i n h1 h2) (⟨callB_of 3 hts (gz_gP mGA_232 goodGA) rfl rfl rfl (hts _ (List.mem_cons_of_mem _ mGA_231)) (hts _ (List.mem_cons_of_mem _ mGA_229)) (by decide +kernel) ⟨Nat.le_of_ble_eq_true rfl, Nat.le_of_ble_eq_true rfl⟩, (hts _ (List.mem_cons_of_mem _ mGA_230))⟩) ⟨fun a U g mk q => ⟨q.1, trivial⟩, fun U hU hW => ⟨rfl, trivial⟩⟩ rfl rfl hl.1 rfl (lv_room (Nat.le_of_ble_eq_true rfl)) (dk_at dkJ0_checkIndex_df160 3 rfl) ⟨Nat.zero_le _, Nat.zero_le _⟩) hS (fun q _ h => h.elim) (fun q h => h.elim) (fun r u t H1 locs ht hvm hw hB hz1 hk1 hS => ?_)
    refine lv_pop hx hb (dk_at dkJ0_checkIndex_df160 4 rfl) rfl ?_
    exact W.vret hx hb hr (fun t ht hW => ⟨⟨(), rfl, trivial, trivial⟩, hS.F ht⟩) hS.2.2 (dk_at dkJ0_checkIndex_df160 5 rfl)
set_option maxHeartbeats 4000000 in
set_option maxRecDepth 100000 in
theorem sJ1_charAtA (l : Launch) (a b : Nat) (L : List Int32) (zf : Value) (hzf : zf = .null ∨ ∃ t, zf = .ref t) (hL : L.length ≤ 7) (i : Int32) (h0 : ¬ i < 0) (hi : i.toNatClampNeg < L.length) : Met l yJ1_charAt_3b067 (.code yJ1_charAt_3b067 cJ1_charAt_3b067 2 (some .char) :: wsGA) ({ frames := 2, cells := 0, slots := 0, locals := 43 }) (va_Pc [.ref b, .int i] (fun U => gz_sp a b L zf (fun _ => False) U U.heap)) (va_Qi (fun (r : Int32) (u : Unit) => r = (L.getD i.toNatClampNeg 0 &&& 255)) (fun _ _ => True) (fun _ => False)) 0 0 (fun _ => False) := by
  refine Met.ofW (cc := cJ1_charAt_3b067) (maxL := 2) (ret := (some .char)) (by decide) rfl ?_
  intro p e s m args below meth c s₁ B hml hv
  obtain ⟨rfl, hsp⟩ := hv
  have hx := B.exec
  have hb := B.bytes
  have hr := B.returns
  have hts := atoms_spec (ws := (.code yJ1_charAt_3b067 cJ1_charAt_3b067 2 (some .char) :: wsGA)) B.pre
  have hown : s.vm.findClass RJ1 = some m.cls := findClass_of_methodNamed B.named
  have hlocks := B.notSynchronized
  have hS : va_S (fun _ => False) s.heap s.heap [] := va_S.rf
  have hl := lv_entry ([.ref b, .int i]) (n := 2) (Nat.le_of_ble_eq_true rfl)
  rw [lg_entry_eq]
  generalize (lg_sl ([.ref b, .int i]) ++ List.replicate (2 - (lg_sl ([.ref b, .int i])).length) Slot.unset).toArray = ls at hl ⊢
  have hl : lv_has ls 2 [(0, .ref b), (1, .int i)] := hl
  have h2 : i < nI L.length := by rw [Int32.lt_iff_toInt_lt, nI_toInt (by omega)]; have h9 : i.toInt.toNat < L.length := hi; omega
  refine lv_iload_n hx hb (dk_at dkJ1_charAt_3b067 0 rfl) rfl (lv_at hl 1 rfl) ?_
  refine lv_aload_n hx hb (dk_at dkJ1_charAt_3b067 1 rfl) rfl (lv_at hl 0 rfl) ?_
  refine va_tlen (v := nI L.length) hx hb hsp.2.2.2.2.2 hS rfl (dk_at dkJ1_charAt_3b067 2 rfl) ?_
  refine va_callv (va_runS (As := [.int i, .int (nI L.length)]) (rest := []) ⟨hx, hb, hml, hown, hts⟩ (sJ0_checkA l a b L zf hzf i (nI L.length) h0 h2) (⟨callB_of 2 hts (gz_gP mGA_227 goodGA) rfl rfl rfl (hts _ (List.mem_cons_of_mem _ mGA_204)) (hts _ (List.mem_cons_of_mem _ mGA_225)) (by decide +kernel) ⟨Nat.le_of_ble_eq_true rfl, Nat.le_of_ble_eq_true rfl⟩, (hts _ (List.mem_cons_of_mem _ mGA_226))⟩) ⟨fun a U g mk q => ⟨q.1, gz_sp.moved (u := U) (U := U.calling g mk a) (Vm.Alike.refl U.vm) q.2⟩, fun U hU hW => ⟨rfl, by show gz_sp _ _ _ _ _ U U.heap; rw [hU]; exact gz_sp.moved hW.alike (hsp.kept hS.2.1)⟩⟩ rfl rfl hl.1 rfl (lv_room (Nat.le_of_ble_eq_true rfl)) (dk_at dkJ1_charAt_3b067 3 rfl) ⟨Nat.zero_le _, Nat.zero_le _⟩) hS (fun q _ h => h.elim) (fun q h => h.elim) (fun u t H1 locs ht hvm hw hB hz1 hk1 hS => ?_)
  refine lv_aload_n hx hb (dk_at dkJ1_charAt_3b067 4 rfl) rfl (lv_at hl 0 rfl) ?_
  refine lv_iload_n hx hb (dk_at dkJ1_charAt_3b067 5 rfl) rfl (lv_at hl 1 rfl) ?_
  refine va_tb (v := .int (L.getD i.toNatClampNeg 0)) hx hb hsp.2.2.2.2.2 hS (fun q => q.elim h0 (fun q => absurd hi (Nat.not_lt.mpr q))) rfl (dk_at dkJ1_charAt_3b067 6 rfl) ?_
  refine lv_sipush (v := 255) hx hb (dk_at dkJ1_charAt_3b067 7 rfl) (by decide) ?_
  refine lv_iand hx hb (dk_at dkJ1_charAt_3b067 8 rfl) ?_
  refine lv_i2c (v := (L.getD i.toNatClampNeg 0 &&& 255)) hx hb (dk_at dkJ1_charAt_3b067 9 rfl) (sc_c2 _) ?_
  exact W.zret (v := (L.getD i.toNatClampNeg 0 &&& 255)) hx hb hr (sc_nar _) (fun t ht hW => ⟨⟨(L.getD i.toNatClampNeg 0 &&& 255), (), rfl, rfl, trivial⟩, hS.F ht⟩) hS.2.2 (dk_at dkJ1_charAt_3b067 10 rfl)
set_option maxHeartbeats 4000000 in
set_option maxRecDepth 100000 in
theorem sJ0_charAtA (l : Launch) (a b : Nat) (L : List Int32) (zf : Value) (hzf : zf = .null ∨ ∃ t, zf = .ref t) (hL : L.length ≤ 7) (i : Int32) (h0 : ¬ i < 0) (hi : i.toNatClampNeg < L.length) : Met l yJ0_charAt_5068e (.code yJ0_charAt_5068e cJ0_charAt_5068e 2 (some .char) :: wsGA) ({ frames := 3, cells := 0, slots := 0, locals := 64 }) (va_Pc [.ref a, .int i] (fun U => gz_sp a b L zf (fun _ => False) U U.heap)) (va_Qi (fun (r : Int32) (u : Unit) => r = (L.getD i.toNatClampNeg 0 &&& 255)) (fun _ _ => True) (fun _ => False)) 0 0 (fun _ => False) := by
  refine Met.ofW (cc := cJ0_charAt_5068e) (maxL := 2) (ret := (some .char)) (by decide) rfl ?_
  intro p e s m args below meth c s₁ B hml hv
  obtain ⟨rfl, hsp⟩ := hv
  have hx := B.exec
  have hb := B.bytes
  have hr := B.returns
  have hts := atoms_spec (ws := (.code yJ0_charAt_5068e cJ0_charAt_5068e 2 (some .char) :: wsGA)) B.pre
  have hown : s.vm.findClass RJ0 = some m.cls := findClass_of_methodNamed B.named
  have hlocks := B.notSynchronized
  have hS : va_S (fun _ => False) s.heap s.heap [] := va_S.rf
  have hl := lv_entry ([.ref a, .int i]) (n := 2) (Nat.le_of_ble_eq_true rfl)
  rw [lg_entry_eq]
  generalize (lg_sl ([.ref a, .int i]) ++ List.replicate (2 - (lg_sl ([.ref a, .int i])).length) Slot.unset).toArray = ls at hl ⊢
  have hl : lv_has ls 2 [(0, .ref a), (1, .int i)] := hl
  refine lv_aload_n hx hb (dk_at dkJ0_charAt_5068e 0 rfl) rfl (lv_at hl 0 rfl) ?_
  refine va_calli (va_runV (As := []) (rest := []) ⟨hx, hb, hml, hown, hts⟩ (sJ0_isLatin1A l a b L zf) (cwV 0 hts (gz_gV mGA_217 mGA_218 mGA_219 mGA_204 mGA_220 goodGA) rfl rfl rfl (by decide +kernel) ⟨Nat.le_of_ble_eq_true rfl, Nat.le_of_ble_eq_true rfl⟩) ⟨fun a U g mk q => ⟨q.1, gz_sp.moved (u := U) (U := U.calling g mk a) (Vm.Alike.refl U.vm) q.2⟩, (by obtain ⟨cell, h1, h2, h3, -⟩ := hsp.2.2.1.kept hS.2.1; exact ⟨cell, h1, h2, h3⟩), fun U hU hW => ⟨rfl, by show gz_sp _ _ _ _ _ U U.heap; rw [hU]; exact gz_sp.moved hW.alike (hsp.kept hS.2.1)⟩⟩ rfl rfl hl.1 rfl (lv_room (Nat.le_of_ble_eq_true rfl)) (dk_at dkJ0_charAt_5068e 1 rfl) ⟨Nat.zero_le _, Nat.zero_le _⟩) hS (fun q _ h => h.elim) (fun q h => h.elim) (fun r u t H1 locs ht hvm hw hB hz1 hk1 hS => ?_)
  have hw : r = 1 := hw
  subst hw
  refine lv_if_eq (tgt := 16) hx hb (dk_at dkJ0_charAt_5068e 2 rfl) (by decide) (fun c9 => absurd c9 (by decide)) (fun c9 => ?_)
  refine lv_aload_n hx hb (dk_at dkJ0_charAt_5068e 3 rfl) rfl (lv_at hl 0 rfl) ?_
  refine vk_getf hx hb hsp.2.2.2.2.1 hS hown (hts _ (List.mem_cons_of_mem _ mGA_206)) (fun _ h9 => h9) (dk_at dkJ0_charAt_5068e 4 rfl) ?_
  refine lv_iload_n hx hb (dk_at dkJ0_charAt_5068e 5 rfl) rfl (lv_at hl 1 rfl) ?_
  refine va_calli (va_runS (As := [.ref b, .int i]) (rest := []) ⟨hx, hb, hml, hown, hts⟩ (sJ1_charAtA l a b L zf hzf hL i h0 hi) (⟨callB_of 2 hts (gz_gP mGA_224 goodGA) rfl rfl rfl (hts _ (List.mem_cons_of_mem _ mGA_223)) (hts _ (List.mem_cons_of_mem _ mGA_221)) (by decide +kernel) ⟨Nat.le_of_ble_eq_true rfl, Nat.le_of_ble_eq_true rfl⟩, (hts _ (List.mem_cons_of_mem _ mGA_222))⟩) ⟨fun a U g mk q => ⟨q.1, gz_sp.moved (u := U) (U := U.calling g mk a) (Vm.Alike.refl U.vm) q.2⟩, fun U hU hW => ⟨rfl, by show gz_sp _ _ _ _ _ U U.heap; rw [hU]; exact gz_sp.moved hW.alike (hsp.kept hS.2.1)⟩⟩ rfl rfl hl.1 rfl (lv_room (Nat.le_of_ble_eq_true rfl)) (dk_at dkJ0_charAt_5068e 6 rfl) ⟨Nat.zero_le _, Nat.zero_le _⟩) hS (fun q _ h => h.elim) (fun q h => h.elim) (fun r u t H1 locs ht hvm hw hB hz1 hk1 hS => ?_)
  have hw : r = (L.getD i.toNatClampNeg 0 &&& 255) := hw
  subst hw
  exact W.zret (v := (L.getD i.toNatClampNeg 0 &&& 255)) hx hb hr (sc_nar _) (fun t ht hW => ⟨⟨(L.getD i.toNatClampNeg 0 &&& 255), (), rfl, rfl, trivial⟩, hS.F ht⟩) hS.2.2 (dk_at dkJ0_charAt_5068e 7 rfl)
set_option maxHeartbeats 4000000 in
set_option maxRecDepth 100000 in
theorem sJ0_coderB (l : Launch) (a b : Nat) (L : List Int32) (zf : Value) : Met l yJ0_coder_7d493 (.code yJ0_coder_7d493 cJ0_coder_7d493 1 (some .byte) :: wsGB) ({ frames := 0, cells := 0, slots := 0, locals := 0 }) (va_Pc [.ref a] (fun U => gz_sp a b L zf (fun _ => False) U U.heap)) (va_Qi (fun (r : Int32) (u : Unit) => r = 0) (fun _ _ => True) (fun _ => False)) 0 0 (fun _ => False) := by
  refine Met.ofW (cc := cJ0_coder_7d493) (maxL := 1) (ret := (some .byte)) (by decide) rfl ?_
  intro p e s m args below meth c s₁ B hml hv
  obtain ⟨rfl, hsp⟩ := hv
  have hx := B.exec
  have hb := B.bytes
  have hr := B.returns
  have hts := atoms_spec (ws := (.code yJ0_coder_7d493 cJ0_coder_7d493 1 (some .byte) :: wsGB)) B.pre
  have hown : s.vm.findClass RJ0 = some m.cls := findClass_of_methodNamed B.named
  have hlocks := B.notSynchronized
  have hS : va_S (fun _ => False) s.heap s.heap [] := va_S.rf
  have hl := lv_entry ([.ref a]) (n := 1) (Nat.le_of_ble_eq_true rfl)
  rw [lg_entry_eq]
  generalize (lg_sl ([.ref a]) ++ List.replicate (1 - (lg_sl ([.ref a])).length) Slot.unset).toArray = ls at hl ⊢
  have hl : lv_has ls 1 [(0, .ref a)] := hl
  refine va_gets hx hb hsp.1 hS hown (hts _ (List.mem_cons_of_mem _ mGB_59)) (fun _ h9 => h9) (dk_at dkJ0_coder_7d493 0 rfl) ?_
  refine lv_if_eq (tgt := 13) hx hb (dk_at dkJ0_coder_7d493 1 rfl) (by decide) (fun c9 => absurd c9 (by decide)) (fun c9 => ?_)
  refine lv_aload_n hx hb (dk_at dkJ0_coder_7d493 2 rfl) rfl (lv_at hl 0 rfl) ?_
  refine vk_getf hx hb hsp.2.2.2.1 hS hown (hts _ (List.mem_cons_of_mem _ mGB_60)) (fun _ h9 => h9) (dk_at dkJ0_coder_7d493 3 rfl) ?_
  refine lv_goto (tgt := 14) hx hb (dk_at dkJ0_coder_7d493 4 rfl) (by decide) ?_
  exact W.zret (v := 0) hx hb hr rfl (fun t ht hW => ⟨⟨0, (), rfl, rfl, trivial⟩, hS.F ht⟩) hS.2.2 (dk_at dkJ0_coder_7d493 6 rfl)
set_option maxHeartbeats 4000000 in
set_option maxRecDepth 100000 in
theorem sJ0_isLatin1B (l : Launch) (a b : Nat) (L : List Int32) (zf : Value) : Met l yJ0_isLatin1_aae02 (.code yJ0_isLatin1_aae02 cJ0_isLatin1_aae02 1 (some .boolean) :: wsGB) ({ frames := 0, cells := 0, slots := 0, locals := 0 }) (va_Pc [.ref a] (fun U => gz_sp a b L zf (fun _ => False) U U.heap)) (va_Qi (fun (r : Int32) (u : Unit) => r = 1) (fun _ _ => True) (fun _ => False)) 0 0 (fun _ => False) := by
  refine Met.ofW (cc := cJ0_isLatin1_aae02) (maxL := 1) (ret := (some .boolean)) (by decide) rfl ?_
  intro p e s m args below meth c s₁ B hml hv
  obtain ⟨rfl, hsp⟩ := hv
  have hx := B.exec
  have hb := B.bytes
  have hr := B.returns
  have hts := atoms_spec (ws := (.code yJ0_isLatin1_aae02 cJ0_isLatin1_aae02 1 (some .boolean) :: wsGB)) B.pre
  have hown : s.vm.findClass RJ0 = some m.cls := findClass_of_methodNamed B.named
  have hlocks := B.notSynchronized
  have hS : va_S (fun _ => False) s.heap s.heap [] := va_S.rf
  have hl := lv_entry ([.ref a]) (n := 1) (Nat.le_of_ble_eq_true rfl)
  rw [lg_entry_eq]
  generalize (lg_sl ([.ref a]) ++ List.replicate (1 - (lg_sl ([.ref a])).length) Slot.unset).toArray = ls at hl ⊢
  have hl : lv_has ls 1 [(0, .ref a)] := hl
  refine va_gets hx hb hsp.1 hS hown (hts _ (List.mem_cons_of_mem _ mGB_59)) (fun _ h9 => h9) (dk_at dkJ0_isLatin1_aae02 0 rfl) ?_
  refine lv_if_eq (tgt := 17) hx hb (dk_at dkJ0_isLatin1_aae02 1 rfl) (by decide) (fun c9 => absurd c9 (by decide)) (fun c9 => ?_)
  refine lv_aload_n hx hb (dk_at dkJ0_isLatin1_aae02 2 rfl) rfl (lv_at hl 0 rfl) ?_
  refine vk_getf hx hb hsp.2.2.2.1 hS hown (hts _ (List.mem_cons_of_mem _ mGB_60)) (fun _ h9 => h9) (dk_at dkJ0_isLatin1_aae02 3 rfl) ?_
  refine lv_if_ne (tgt := 17) hx hb (dk_at dkJ0_isLatin1_aae02 4 rfl) (by decide) (fun c9 => absurd rfl c9) (fun c9 => ?_)
  refine lv_iconst (v := 1) hx hb (dk_at dkJ0_isLatin1_aae02 5 rfl) (by decide) ?_
  refine lv_goto (tgt := 18) hx hb (dk_at dkJ0_isLatin1_aae02 6 rfl) (by decide) ?_
  exact W.zret (v := 1) hx hb hr rfl (fun t ht hW => ⟨⟨1, (), rfl, rfl, trivial⟩, hS.F ht⟩) hS.2.2 (dk_at dkJ0_isLatin1_aae02 8 rfl)
set_option maxHeartbeats 4000000 in
set_option maxRecDepth 100000 in
theorem sJ0_lengthB (l : Launch) (a b : Nat) (L : List Int32) (zf : Value) (hL : L.length ≤ 7) : Met l yJ0_length_8abf5 (.code yJ0_length_8abf5 cJ0_length_8abf5 1 (some .int) :: wsGB) ({ frames := 1, cells := 0, slots := 0, locals := 20 }) (va_Pc [.ref a] (fun U => gz_sp a b L zf (fun _ => False) U U.heap)) (va_Qi (fun (r : Int32) (u : Unit) => r = nI L.length) (fun _ _ => True) (fun _ => False)) 0 0 (fun _ => False) := by
  refine Met.ofW (cc := cJ0_length_8abf5) (maxL := 1) (ret := (some .int)) (by decide) rfl ?_
  intro p e s m args below meth c s₁ B hml hv
  obtain ⟨rfl, hsp⟩ := hv
  have hx := B.exec
  have hb := B.bytes
  have hr := B.returns
  have hts := atoms_spec (ws := (.code yJ0_length_8abf5 cJ0_length_8abf5 1 (some .int) :: wsGB)) B.pre
  have hown : s.vm.findClass RJ0 = some m.cls := findClass_of_methodNamed B.named
  have hlocks := B.notSynchronized
  have hS : va_S (fun _ => False) s.heap s.heap [] := va_S.rf
  have hl := lv_entry ([.ref a]) (n := 1) (Nat.le_of_ble_eq_true rfl)
  rw [lg_entry_eq]
  generalize (lg_sl ([.ref a]) ++ List.replicate (1 - (lg_sl ([.ref a])).length) Slot.unset).toArray = ls at hl ⊢
  have hl : lv_has ls 1 [(0, .ref a)] := hl
  refine lv_aload_n hx hb (dk_at dkJ0_length_8abf5 0 rfl) rfl (lv_at hl 0 rfl) ?_
  refine vk_getf hx hb hsp.2.2.2.2.1 hS hown (hts _ (List.mem_cons_of_mem _ mGB_54)) (fun _ h9 => h9) (dk_at dkJ0_length_8abf5 1 rfl) ?_
  refine va_tlen (v := nI L.length) hx hb hsp.2.2.2.2.2 hS rfl (dk_at dkJ0_length_8abf5 2 rfl) ?_
  refine lv_aload_n hx hb (dk_at dkJ0_length_8abf5 3 rfl) rfl (lv_at hl 0 rfl) ?_
  refine va_calli (va_runV (As := []) (rest := [.int (nI L.length)]) ⟨hx, hb, hml, hown, hts⟩ (sJ0_coderB l a b L zf) (cwV 0 hts (gz_gV mGB_55 mGB_56 mGB_57 mGB_52 mGB_58 goodGB) rfl rfl rfl (by decide +kernel) ⟨Nat.le_of_ble_eq_true rfl, Nat.le_of_ble_eq_true rfl⟩) ⟨fun a U g mk q => ⟨q.1, gz_sp.moved (u := U) (U := U.calling g mk a) (Vm.Alike.refl U.vm) q.2⟩, (by obtain ⟨cell, h1, h2, h3, -⟩ := hsp.2.2.1.kept hS.2.1; exact ⟨cell, h1, h2, h3⟩), fun U hU hW => ⟨rfl, by show gz_sp _ _ _ _ _ U U.heap; rw [hU]; exact gz_sp.moved hW.alike (hsp.kept hS.2.1)⟩⟩ rfl rfl hl.1 rfl (lv_room (Nat.le_of_ble_eq_true rfl)) (dk_at dkJ0_length_8abf5 4 rfl) ⟨Nat.zero_le _, Nat.zero_le _⟩) hS (fun q _ h => h.elim) (fun q h => h.elim) (fun r u t H1 locs ht hvm hw hB hz1 hk1 hS => ?_)
  have hw : r = 0 := hw
  subst hw
  refine lv_ishr hx hb (dk_at dkJ0_length_8abf5 5 rfl) ?_
  refine gz_topi (y := nI L.length) (sc_shr0 (by omega)) ?_
  exact W.iret (v := nI L.length) hx hb hr (fun t ht hW => ⟨⟨nI L.length, (), rfl, rfl, trivial⟩, hS.F ht⟩) hS.2.2 (dk_at dkJ0_length_8abf5 6 rfl)
set_option maxHeartbeats 4000000 in
set_option maxRecDepth 100000 in
theorem sJ3_checkNB (l : Launch) (i n : Int32) (h1 : ¬ i < 0) (h2 : i < n) : Met l yJ3_checkIndex_8e157 (.code yJ3_checkIndex_8e157 cJ3_checkIndex_8e157 3 (some .int) :: wsGB) ({ frames := 0, cells := 0, slots := 0, locals := 0 }) (va_Pc [.int i, .int n, .null] (fun U => True)) (va_Qi (fun (r : Int32) (u : Unit) => True) (fun _ _ => True) (fun _ => False)) 0 0 (fun _ => False) := by
  refine Met.ofW (cc := cJ3_checkIndex_8e157) (maxL := 3) (ret := (some .int)) (by decide) rfl ?_
  intro p e s m args below meth c s₁ B hml hv
  obtain ⟨rfl, -⟩ := hv
  have hx := B.exec
  have hb := B.bytes
  have hr := B.returns
  have hts := atoms_spec (ws := (.code yJ3_checkIndex_8e157 cJ3_checkIndex_8e157 3 (some .int) :: wsGB)) B.pre
  have hown : s.vm.findClass RJ3 = some m.cls := findClass_of_methodNamed B.named
  have hlocks := B.notSynchronized
  have hS : va_S (fun _ => False) s.heap s.heap [] := va_S.rf
  have hl := lv_entry ([.int i, .int n, .null]) (n := 3) (Nat.le_of_ble_eq_true rfl)
  rw [lg_entry_eq]
  generalize (lg_sl ([.int i, .int n, .null]) ++ List.replicate (3 - (lg_sl ([.int i, .int n, .null])).length) Slot.unset).toArray = ls at hl ⊢
  have hl : lv_has ls 3 [(0, .int i), (1, .int n), (2, .null)] := hl
  refine lv_iload_n hx hb (dk_at dkJ3_checkIndex_8e157 0 rfl) rfl (lv_at hl 0 rfl) ?_
  refine lv_if_lt (tgt := 9) hx hb (dk_at dkJ3_checkIndex_8e157 1 rfl) (by decide) (fun c9 => absurd c9 h1) (fun c9 => ?_)
  refine lv_iload_n hx hb (dk_at dkJ3_checkIndex_8e157 2 rfl) rfl (lv_at hl 0 rfl) ?_
  refine lv_iload_n hx hb (dk_at dkJ3_checkIndex_8e157 3 rfl) rfl (lv_at hl 1 rfl) ?_
  refine lv_icmp_lt (tgt := 16) hx hb (dk_at dkJ3_checkIndex_8e157 4 rfl) (by decide) (fun c9 => ?_) (fun c9 => absurd h2 c9)
  refine lv_iload_n hx hb (dk_at dkJ3_checkIndex_8e157 10 rfl) rfl (lv_at hl 0 rfl) ?_
  exact W.iret (v := i) hx hb hr (fun t ht hW => ⟨⟨i, (), rfl, trivial, trivial⟩, hS.F ht⟩) hS.2.2 (dk_at dkJ3_checkIndex_8e157 11 rfl)
set_option maxHeartbeats 4000000 in
set_option maxRecDepth 100000 in
theorem sJ3_checkRB (l : Launch) (t : Nat) (i n : Int32) (h1 : ¬ i < 0) (h2 : i < n) : Met l yJ3_checkIndex_8e157 (.code yJ3_checkIndex_8e157 cJ3_checkIndex_8e157 3 (some .int) :: wsGB) ({ frames := 0, cells := 0, slots := 0, locals := 0 }) (va_Pc [.int i, .int n, .ref t] (fun U => True)) (va_Qi (fun (r : Int32) (u : Unit) => True) (fun _ _ => True) (fun _ => False)) 0 0 (fun _ => False) := by
  refine Met.ofW (cc := cJ3_checkIndex_8e157) (maxL := 3) (ret := (some .int)) (by decide) rfl ?_
  intro p e s m args below meth c s₁ B hml hv
  obtain ⟨rfl, -⟩ := hv
  have hx := B.exec
  have hb := B.bytes
  have hr := B.returns
  have hts := atoms_spec (ws := (.code yJ3_checkIndex_8e157 cJ3_checkIndex_8e157 3 (some .int) :: wsGB)) B.pre
  have hown : s.vm.findClass RJ3 = some m.cls := findClass_of_methodNamed B.named
  have hlocks := B.notSynchronized
  have hS : va_S (fun _ => False) s.heap s.heap [] := va_S.rf
  have hl := lv_entry ([.int i, .int n, .ref t]) (n := 3) (Nat.le_of_ble_eq_true rfl)
  rw [lg_entry_eq]
  generalize (lg_sl ([.int i, .int n, .ref t]) ++ List.replicate (3 - (lg_sl ([.int i, .int n, .ref t])).length) Slot.unset).toArray = ls at hl ⊢
  have hl : lv_has ls 3 [(0, .int i), (1, .int n), (2, .ref t)] := hl
  refine lv_iload_n hx hb (dk_at dkJ3_checkIndex_8e157 0 rfl) rfl (lv_at hl 0 rfl) ?_
  refine lv_if_lt (tgt := 9) hx hb (dk_at dkJ3_checkIndex_8e157 1 rfl) (by decide) (fun c9 => absurd c9 h1) (fun c9 => ?_)
  refine lv_iload_n hx hb (dk_at dkJ3_checkIndex_8e157 2 rfl) rfl (lv_at hl 0 rfl) ?_
  refine lv_iload_n hx hb (dk_at dkJ3_checkIndex_8e157 3 rfl) rfl (lv_at hl 1 rfl) ?_
  refine lv_icmp_lt (tgt := 16) hx hb (dk_at dkJ3_checkIndex_8e157 4 rfl) (by decide) (fun c9 => ?_) (fun c9 => absurd h2 c9)
  refine lv_iload_n hx hb (dk_at dkJ3_checkIndex_8e157 10 rfl) rfl (lv_at hl 0 rfl) ?_
  exact W.iret (v := i) hx hb hr (fun t ht hW => ⟨⟨i, (), rfl, trivial, trivial⟩, hS.F ht⟩) hS.2.2 (dk_at dkJ3_checkIndex_8e157 11 rfl)
set_option maxHeartbeats 4000000 in
set_option maxRecDepth 100000 in
theorem sJ0_checkB (l : Launch) (a b : Nat) (L : List Int32) (zf : Value) (hzf : zf = .null ∨ ∃ t, zf = .ref t) (i n : Int32) (h1 : ¬ i < 0) (h2 : i < n) : Met l yJ0_checkIndex_df160 (.code yJ0_checkIndex_df160 cJ0_checkIndex_df160 2 none :: wsGB) ({ frames := 1, cells := 0, slots := 0, locals := 22 }) (va_Pc [.int i, .int n] (fun U => gz_sp a b L zf (fun _ => False) U U.heap)) (va_Qv (fun (u : Unit) => True) (fun _ _ => True) (fun _ => False)) 0 0 (fun _ => False) := by
  refine Met.ofW (cc := cJ0_checkIndex_df160) (maxL := 2) (ret := none) (by decide) rfl ?_
  intro p e s m args below meth c s₁ B hml hv
  obtain ⟨rfl, hsp⟩ := hv
  have hx := B.exec
  have hb := B.bytes
  have hr := B.returns
  have hts := atoms_spec (ws := (.code yJ0_checkIndex_df160 cJ0_checkIndex_df160 2 none :: wsGB)) B.pre
  have hown : s.vm.findClass RJ0 = some m.cls := findClass_of_methodNamed B.named
  have hlocks := B.notSynchronized
  have hS : va_S (fun _ => False) s.heap s.heap [] := va_S.rf
  have hl := lv_entry ([.int i, .int n]) (n := 2) (Nat.le_of_ble_eq_true rfl)
  rw [lg_entry_eq]
  generalize (lg_sl ([.int i, .int n]) ++ List.replicate (2 - (lg_sl ([.int i, .int n])).length) Slot.unset).toArray = ls at hl ⊢
  have hl : lv_has ls 2 [(0, .int i), (1, .int n)] := hl
  refine lv_iload_n hx hb (dk_at dkJ0_checkIndex_df160 0 rfl) rfl (lv_at hl 0 rfl) ?_
  refine lv_iload_n hx hb (dk_at dkJ0_checkIndex_df160 1 rfl) rfl (lv_at hl 1 rfl) ?_
  refine va_gets hx hb hsp.2.1 hS hown (hts _ (List.mem_cons_of_mem _ mGB_75)) (fun _ h9 => h9) (dk_at dkJ0_checkIndex_df160 2 rfl) ?_
  rcases hzf with rfl | ⟨t, rfl⟩
  · refine va_calli (va_runS (As := [.int i, .int n, .null]) (rest := []) ⟨hx, hb, hml, hown, hts⟩ (sJ3_checkNB l i n h1 h2) (⟨callB_of 3 hts (gz_gP mGB_79 goodGB) rfl rfl rfl (hts _ (List.mem_cons_of_mem _ mGB_78)) (hts _ (List.mem_cons_of_mem _ mGB_76)) (by decide +kernel) ⟨Nat.le_of_ble_eq_true rfl, Nat.le_of_ble_eq_true rfl⟩, (hts _ (List.mem_cons_of_mem _ mGB_77))⟩) ⟨fun a U g mk q => ⟨q.1, trivial⟩, fun U hU hW => ⟨rfl, trivial⟩⟩ rfl rfl hl.1 rfl (lv_room (Nat.le_of_ble_eq_true rfl)) (dk_at dkJ0_checkIndex_df160 3 rfl) ⟨Nat.zero_le _, Nat.zero_le _⟩) hS (fun q _ h => h.elim) (fun q h => h.elim) (fun r u t H1 locs ht hvm hw hB hz1 hk1 hS => ?_)
    refine lv_pop hx hb (dk_at dkJ0_checkIndex_df160 4 rfl) rfl ?_
    exact W.vret hx hb hr (fun t ht hW => ⟨⟨(), rfl, trivial, trivial⟩, hS.F ht⟩) hS.2.2 (dk_at dkJ0_checkIndex_df160 5 rfl)
  · refine va_calli (va_runS (As := [.int i, .int n, .ref t]) (rest := []) ⟨hx, hb, hml, hown, hts⟩ (sJ3_checkRB l t i n h1 h2) (⟨callB_of 3 hts (gz_gP mGB_79 goodGB) rfl rfl rfl (hts _ (List.mem_cons_of_mem _ mGB_78)) (hts _ (List.mem_cons_of_mem _ mGB_76)) (by decide +kernel) ⟨Nat.le_of_ble_eq_true rfl, Nat.le_of_ble_eq_true rfl⟩, (hts _ (List.mem_cons_of_mem _ mGB_77))⟩) ⟨fun a U g mk q => ⟨q.1, trivial⟩, fun U hU hW => ⟨rfl, trivial⟩⟩ rfl rfl hl.1 rfl (lv_room (Nat.le_of_ble_eq_true rfl)) (dk_at dkJ0_checkIndex_df160 3 rfl) ⟨Nat.zero_le _, Nat.zero_le _⟩) hS (fun q _ h => h.elim) (fun q h => h.elim) (fun r u t H1 locs ht hvm hw hB hz1 hk1 hS => ?_)
    refine lv_pop hx hb (dk_at dkJ0_checkIndex_df160 4 rfl) rfl ?_
    exact W.vret hx hb hr (fun t ht hW => ⟨⟨(), rfl, trivial, trivial⟩, hS.F ht⟩) hS.2.2 (dk_at dkJ0_checkIndex_df160 5 rfl)
set_option maxHeartbeats 4000000 in
set_option maxRecDepth 100000 in
theorem sJ1_charAtB (l : Launch) (a b : Nat) (L : List Int32) (zf : Value) (hzf : zf = .null ∨ ∃ t, zf = .ref t) (hL : L.length ≤ 7) (i : Int32) (h0 : ¬ i < 0) (hi : i.toNatClampNeg < L.length) : Met l yJ1_charAt_3b067 (.code yJ1_charAt_3b067 cJ1_charAt_3b067 2 (some .char) :: wsGB) ({ frames := 2, cells := 0, slots := 0, locals := 43 }) (va_Pc [.ref b, .int i] (fun U => gz_sp a b L zf (fun _ => False) U U.heap)) (va_Qi (fun (r : Int32) (u : Unit) => r = (L.getD i.toNatClampNeg 0 &&& 255)) (fun _ _ => True) (fun _ => False)) 0 0 (fun _ => False) := by
  refine Met.ofW (cc := cJ1_charAt_3b067) (maxL := 2) (ret := (some .char)) (by decide) rfl ?_
  intro p e s m args below meth c s₁ B hml hv
  obtain ⟨rfl, hsp⟩ := hv
  have hx := B.exec
  have hb := B.bytes
  have hr := B.returns
  have hts := atoms_spec (ws := (.code yJ1_charAt_3b067 cJ1_charAt_3b067 2 (some .char) :: wsGB)) B.pre
  have hown : s.vm.findClass RJ1 = some m.cls := findClass_of_methodNamed B.named
  have hlocks := B.notSynchronized
  have hS : va_S (fun _ => False) s.heap s.heap [] := va_S.rf
  have hl := lv_entry ([.ref b, .int i]) (n := 2) (Nat.le_of_ble_eq_true rfl)
  rw [lg_entry_eq]
  generalize (lg_sl ([.ref b, .int i]) ++ List.replicate (2 - (lg_sl ([.ref b, .int i])).length) Slot.unset).toArray = ls at hl ⊢
  have hl : lv_has ls 2 [(0, .ref b), (1, .int i)] := hl
  have h2 : i < nI L.length := by rw [Int32.lt_iff_toInt_lt, nI_toInt (by omega)]; have h9 : i.toInt.toNat < L.length := hi; omega
  refine lv_iload_n hx hb (dk_at dkJ1_charAt_3b067 0 rfl) rfl (lv_at hl 1 rfl) ?_
  refine lv_aload_n hx hb (dk_at dkJ1_charAt_3b067 1 rfl) rfl (lv_at hl 0 rfl) ?_
  refine va_tlen (v := nI L.length) hx hb hsp.2.2.2.2.2 hS rfl (dk_at dkJ1_charAt_3b067 2 rfl) ?_
  refine va_callv (va_runS (As := [.int i, .int (nI L.length)]) (rest := []) ⟨hx, hb, hml, hown, hts⟩ (sJ0_checkB l a b L zf hzf i (nI L.length) h0 h2) (⟨callB_of 2 hts (gz_gP mGB_74 goodGB) rfl rfl rfl (hts _ (List.mem_cons_of_mem _ mGB_52)) (hts _ (List.mem_cons_of_mem _ mGB_72)) (by decide +kernel) ⟨Nat.le_of_ble_eq_true rfl, Nat.le_of_ble_eq_true rfl⟩, (hts _ (List.mem_cons_of_mem _ mGB_73))⟩) ⟨fun a U g mk q => ⟨q.1, gz_sp.moved (u := U) (U := U.calling g mk a) (Vm.Alike.refl U.vm) q.2⟩, fun U hU hW => ⟨rfl, by show gz_sp _ _ _ _ _ U U.heap; rw [hU]; exact gz_sp.moved hW.alike (hsp.kept hS.2.1)⟩⟩ rfl rfl hl.1 rfl (lv_room (Nat.le_of_ble_eq_true rfl)) (dk_at dkJ1_charAt_3b067 3 rfl) ⟨Nat.zero_le _, Nat.zero_le _⟩) hS (fun q _ h => h.elim) (fun q h => h.elim) (fun u t H1 locs ht hvm hw hB hz1 hk1 hS => ?_)
  refine lv_aload_n hx hb (dk_at dkJ1_charAt_3b067 4 rfl) rfl (lv_at hl 0 rfl) ?_
  refine lv_iload_n hx hb (dk_at dkJ1_charAt_3b067 5 rfl) rfl (lv_at hl 1 rfl) ?_
  refine va_tb (v := .int (L.getD i.toNatClampNeg 0)) hx hb hsp.2.2.2.2.2 hS (fun q => q.elim h0 (fun q => absurd hi (Nat.not_lt.mpr q))) rfl (dk_at dkJ1_charAt_3b067 6 rfl) ?_
  refine lv_sipush (v := 255) hx hb (dk_at dkJ1_charAt_3b067 7 rfl) (by decide) ?_
  refine lv_iand hx hb (dk_at dkJ1_charAt_3b067 8 rfl) ?_
  refine lv_i2c (v := (L.getD i.toNatClampNeg 0 &&& 255)) hx hb (dk_at dkJ1_charAt_3b067 9 rfl) (sc_c2 _) ?_
  exact W.zret (v := (L.getD i.toNatClampNeg 0 &&& 255)) hx hb hr (sc_nar _) (fun t ht hW => ⟨⟨(L.getD i.toNatClampNeg 0 &&& 255), (), rfl, rfl, trivial⟩, hS.F ht⟩) hS.2.2 (dk_at dkJ1_charAt_3b067 10 rfl)
set_option maxHeartbeats 4000000 in
set_option maxRecDepth 100000 in
theorem sJ0_charAtB (l : Launch) (a b : Nat) (L : List Int32) (zf : Value) (hzf : zf = .null ∨ ∃ t, zf = .ref t) (hL : L.length ≤ 7) (i : Int32) (h0 : ¬ i < 0) (hi : i.toNatClampNeg < L.length) : Met l yJ0_charAt_5068e (.code yJ0_charAt_5068e cJ0_charAt_5068e 2 (some .char) :: wsGB) ({ frames := 3, cells := 0, slots := 0, locals := 64 }) (va_Pc [.ref a, .int i] (fun U => gz_sp a b L zf (fun _ => False) U U.heap)) (va_Qi (fun (r : Int32) (u : Unit) => r = (L.getD i.toNatClampNeg 0 &&& 255)) (fun _ _ => True) (fun _ => False)) 0 0 (fun _ => False) := by
  refine Met.ofW (cc := cJ0_charAt_5068e) (maxL := 2) (ret := (some .char)) (by decide) rfl ?_
  intro p e s m args below meth c s₁ B hml hv
  obtain ⟨rfl, hsp⟩ := hv
  have hx := B.exec
  have hb := B.bytes
  have hr := B.returns
  have hts := atoms_spec (ws := (.code yJ0_charAt_5068e cJ0_charAt_5068e 2 (some .char) :: wsGB)) B.pre
  have hown : s.vm.findClass RJ0 = some m.cls := findClass_of_methodNamed B.named
  have hlocks := B.notSynchronized
  have hS : va_S (fun _ => False) s.heap s.heap [] := va_S.rf
  have hl := lv_entry ([.ref a, .int i]) (n := 2) (Nat.le_of_ble_eq_true rfl)
  rw [lg_entry_eq]
  generalize (lg_sl ([.ref a, .int i]) ++ List.replicate (2 - (lg_sl ([.ref a, .int i])).length) Slot.unset).toArray = ls at hl ⊢
  have hl : lv_has ls 2 [(0, .ref a), (1, .int i)] := hl
  refine lv_aload_n hx hb (dk_at dkJ0_charAt_5068e 0 rfl) rfl (lv_at hl 0 rfl) ?_
  refine va_calli (va_runV (As := []) (rest := []) ⟨hx, hb, hml, hown, hts⟩ (sJ0_isLatin1B l a b L zf) (cwV 0 hts (gz_gV mGB_64 mGB_65 mGB_66 mGB_52 mGB_67 goodGB) rfl rfl rfl (by decide +kernel) ⟨Nat.le_of_ble_eq_true rfl, Nat.le_of_ble_eq_true rfl⟩) ⟨fun a U g mk q => ⟨q.1, gz_sp.moved (u := U) (U := U.calling g mk a) (Vm.Alike.refl U.vm) q.2⟩, (by obtain ⟨cell, h1, h2, h3, -⟩ := hsp.2.2.1.kept hS.2.1; exact ⟨cell, h1, h2, h3⟩), fun U hU hW => ⟨rfl, by show gz_sp _ _ _ _ _ U U.heap; rw [hU]; exact gz_sp.moved hW.alike (hsp.kept hS.2.1)⟩⟩ rfl rfl hl.1 rfl (lv_room (Nat.le_of_ble_eq_true rfl)) (dk_at dkJ0_charAt_5068e 1 rfl) ⟨Nat.zero_le _, Nat.zero_le _⟩) hS (fun q _ h => h.elim) (fun q h => h.elim) (fun r u t H1 locs ht hvm hw hB hz1 hk1 hS => ?_)
  have hw : r = 1 := hw
  subst hw
  refine lv_if_eq (tgt := 16) hx hb (dk_at dkJ0_charAt_5068e 2 rfl) (by decide) (fun c9 => absurd c9 (by decide)) (fun c9 => ?_)
  refine lv_aload_n hx hb (dk_at dkJ0_charAt_5068e 3 rfl) rfl (lv_at hl 0 rfl) ?_
  refine vk_getf hx hb hsp.2.2.2.2.1 hS hown (hts _ (List.mem_cons_of_mem _ mGB_54)) (fun _ h9 => h9) (dk_at dkJ0_charAt_5068e 4 rfl) ?_
  refine lv_iload_n hx hb (dk_at dkJ0_charAt_5068e 5 rfl) rfl (lv_at hl 1 rfl) ?_
  refine va_calli (va_runS (As := [.ref b, .int i]) (rest := []) ⟨hx, hb, hml, hown, hts⟩ (sJ1_charAtB l a b L zf hzf hL i h0 hi) (⟨callB_of 2 hts (gz_gP mGB_71 goodGB) rfl rfl rfl (hts _ (List.mem_cons_of_mem _ mGB_70)) (hts _ (List.mem_cons_of_mem _ mGB_68)) (by decide +kernel) ⟨Nat.le_of_ble_eq_true rfl, Nat.le_of_ble_eq_true rfl⟩, (hts _ (List.mem_cons_of_mem _ mGB_69))⟩) ⟨fun a U g mk q => ⟨q.1, gz_sp.moved (u := U) (U := U.calling g mk a) (Vm.Alike.refl U.vm) q.2⟩, fun U hU hW => ⟨rfl, by show gz_sp _ _ _ _ _ U U.heap; rw [hU]; exact gz_sp.moved hW.alike (hsp.kept hS.2.1)⟩⟩ rfl rfl hl.1 rfl (lv_room (Nat.le_of_ble_eq_true rfl)) (dk_at dkJ0_charAt_5068e 6 rfl) ⟨Nat.zero_le _, Nat.zero_le _⟩) hS (fun q _ h => h.elim) (fun q h => h.elim) (fun r u t H1 locs ht hvm hw hB hz1 hk1 hS => ?_)
  have hw : r = (L.getD i.toNatClampNeg 0 &&& 255) := hw
  subst hw
  exact W.zret (v := (L.getD i.toNatClampNeg 0 &&& 255)) hx hb hr (sc_nar _) (fun t ht hW => ⟨⟨(L.getD i.toNatClampNeg 0 &&& 255), (), rfl, rfl, trivial⟩, hS.F ht⟩) hS.2.2 (dk_at dkJ0_charAt_5068e 7 rfl)
/-! a name's number among those told, by the first that is the same; -1: none -/
def pnG (f : Nat → Int32) (v : Int32) : Nat → Nat → Int
  | 0, _ => -1
  | k + 1, i => if f i = v then (i : Int) else pnG f v k (i + 1)
def pnF (f : Nat → Int32) (n v : Int32) : Int := pnG f v n.toInt.toNat 0
theorem pn_start (f : Nat → Int32) (n v : Int32) : pnF f n v = pnG f v (n.toInt - 0).toNat (0 : Int).toNat := by
  rw [Int.sub_zero]
  rfl
theorem pn_hit {f : Nat → Int32} {n v i : Int32} (h : pnF f n v = pnG f v (n.toInt - i.toInt).toNat i.toInt.toNat) (h0 : 0 ≤ i.toInt) (h1 : i.toInt < n.toInt) (e : f i.toNatClampNeg = v) : i.toInt = pnF f n v := by
  rw [h]
  obtain ⟨k, hk⟩ : ∃ k, (n.toInt - i.toInt).toNat = k + 1 := ⟨(n.toInt - i.toInt).toNat - 1, by omega⟩
  have e : f i.toInt.toNat = v := e
  rw [hk, pnG, if_pos e]
  omega
theorem pn_step {f : Nat → Int32} {n v i j : Int32} (h : pnF f n v = pnG f v (n.toInt - i.toInt).toNat i.toInt.toNat) (h0 : 0 ≤ i.toInt) (h1 : i.toInt < n.toInt) (e : ¬ f i.toNatClampNeg = v) (hj : j.toInt = i.toInt + 1) : pnF f n v = pnG f v (n.toInt - j.toInt).toNat j.toInt.toNat := by
  rw [h]
  obtain ⟨k, hk⟩ : ∃ k, (n.toInt - i.toInt).toNat = k + 1 := ⟨(n.toInt - i.toInt).toNat - 1, by omega⟩
  have e : ¬ f i.toInt.toNat = v := e
  rw [hk, pnG, if_neg e, hj, show (n.toInt - (i.toInt + 1)).toNat = k by omega, show (i.toInt + 1).toNat = i.toInt.toNat + 1 by omega]
theorem pn_end {f : Nat → Int32} {n v i : Int32} (h : pnF f n v = pnG f v (n.toInt - i.toInt).toNat i.toInt.toNat) (h1 : n.toInt ≤ i.toInt) : pnF f n v = -1 := by
  rw [h, show (n.toInt - i.toInt).toNat = 0 by omega]
  rfl
/-! whether a word of the text is this one -/
def wdP (ft : Nat → Int32) (b a tk : Int32) (L : List Int32) (n : Nat) : Prop := tk.toInt = 1 ∧ a.toInt - b.toInt = (L.length : Int) ∧ ∀ j, j < n → ft (b.toInt.toNat + j) = (L.getD j 0 &&& 255)
noncomputable def wdB (ft : Nat → Int32) (b a tk : Int32) (L : List Int32) : Int32 := @ite _ (wdP ft b a tk L L.length) (Classical.propDecidable _) 1 0
theorem wd_yes {ft : Nat → Int32} {b a tk : Int32} {L : List Int32} (h : wdP ft b a tk L L.length) : (wdB ft b a tk L).toInt = 1 := by
  unfold wdB
  rw [if_pos h]
  decide
theorem wd_not {ft : Nat → Int32} {b a tk : Int32} {L : List Int32} (h : ¬ wdP ft b a tk L L.length) : (wdB ft b a tk L).toInt = 0 := by
  unfold wdB
  rw [if_neg h]
  decide
theorem wd_le {ft : Nat → Int32} {b a tk : Int32} {L : List Int32} {n : Nat} (h : wdP ft b a tk L n) (hn : L.length ≤ n) : (wdB ft b a tk L).toInt = 1 := wd_yes ⟨h.1, h.2.1, fun j hj => h.2.2 j (by omega)⟩
theorem wd_0 {ft : Nat → Int32} {b a tk : Int32} {L : List Int32} (h1 : tk.toInt = 1) (h2 : a.toInt - b.toInt = (L.length : Int)) : wdP ft b a tk L (0 : Int).toNat := ⟨h1, h2, fun j hj => absurd hj (by simp)⟩
theorem wd_step {ft : Nat → Int32} {b a tk k i x y k2 : Int32} {L : List Int32} (h : wdP ft b a tk L k.toInt.toNat) (hk : 0 ≤ k.toInt) (hb : 0 ≤ b.toInt) (ei : i.toInt = b.toInt + k.toInt) (e1 : x = ft i.toNatClampNeg) (e2 : y = L.getD k.toNatClampNeg 0 &&& 255) (hxy : x = y) (e3 : k2.toInt = k.toInt + 1) : wdP ft b a tk L k2.toInt.toNat := by
  refine ⟨h.1, h.2.1, fun j hj => ?_⟩
  by_cases hj2 : j < k.toInt.toNat
  · exact h.2.2 j hj2
  · have hj3 : j = k.toInt.toNat := by omega
    have h5 : i.toNatClampNeg = b.toInt.toNat + j := by show i.toInt.toNat = _; omega
    rw [← h5, ← e1, hxy, e2, hj3]
    rfl
theorem wd_no {ft : Nat → Int32} {b a tk k i x y : Int32} {L : List Int32} (hk : 0 ≤ k.toInt) (hkl : k.toInt < (L.length : Int)) (hb : 0 ≤ b.toInt) (ei : i.toInt = b.toInt + k.toInt) (e1 : x = ft i.toNatClampNeg) (e2 : y = L.getD k.toNatClampNeg 0 &&& 255) (hxy : ¬ x = y) : (wdB ft b a tk L).toInt = 0 := by
  refine wd_not (fun h => hxy ?_)
  have h5 : i.toNatClampNeg = b.toInt.toNat + k.toInt.toNat := by show i.toInt.toNat = _; omega
  have h6 := h.2.2 k.toInt.toNat (by omega)
  rw [e1, h5, h6, e2]
  rfl
theorem gz_hddU {fk fm fl : Nat → Int32} {k : Nat} {vk vm vl : Int32} (h : ∀ j : Nat, j < 8 → ((fk j).toInt ≠ 0 ∨ (fm j).toInt + (fl j).toInt ≤ 23)) (hv : vk.toInt ≠ 0 ∨ vm.toInt + vl.toInt ≤ 23) : ∀ j : Nat, j < 8 → ((upd fk k vk j).toInt ≠ 0 ∨ (upd fm k vm j).toInt + (upd fl k vl j).toInt ≤ 23) := by
  intro j hj
  unfold upd
  by_cases hk : j = k
  · rw [if_pos hk, if_pos hk, if_pos hk]
    exact hv
  · rw [if_neg hk, if_neg hk, if_neg hk]
    exact h j hj
/-! a word of the text by the wide instruction -/
theorem gz_ldcwX {p : Program} {l : Launch} {e : Env} {R : Room} {s : State} {m : MethodId} {args : Array Value} {below : List Frame} {meth : Method} {c : Code} {T : State} {locs : List Loc} {cells slots : Nat} (X : Stand p l e R s m args below meth c T locs cells slots) (hexec : p.tables.exec = Jvm.exec) {own text : String} {index : Nat} {a : Addr} (hown : s.vm.findClass own = some m.cls) (hconst : (Cond.stringRef own index text).before args s = true) (hev : (Term.string own index).eval args s none [] s = some (.ref a)) {g : JFrame} (hg : g.method = m) (hdg : decode c.code g.pc = .ok (.ldc_w index, 3)) :
    ∀ target, Steps p.tables e below (T.setTop { g with pc := g.pc + 3, stack := .ref a :: g.stack }) target → Steps p.tables e below (T.setTop g) target := by
  obtain ⟨k, cf, i, a', hk, hcf, hcp, -, hr, hev'⟩ := Cond.stringRef_spec hown hconst
  cases hev.symm.trans hev'
  obtain ⟨k', hk', he⟩ := X.warmed.alike.2.2 _ _ hk
  have hr' : k'.resolved[index]? = some (some (.string a)) := by
    rcases X.warmed.entry hk hk' index with h | ⟨h, -⟩
    · rw [h]; exact hr
    · rw [hr] at h; cases h
  intro target hrest
  subst hg
  jvm_step X.here [hexec, hdg, ldc_w.wp_string (e := e) (s := T) (f := g) X.here.top hk' (by rw [he]; exact hcf) hcp hr']
  exact hrest
theorem gz_ldcwS {p : Program} {l : Launch} {e : Env} {R : Room} {s : State} {m : MethodId} {args : Array Value} {below : List Frame} {meth : Method} {c : Code} {H : Heap} {locs : List Loc} {cells slots : Nat} {Q : State → Prop} {cc : ByteArray} {pc : Nat} {ls : Array Slot} {rest : List Value} (hexec : p.tables.exec = Jvm.exec) (hb : c.code = cc) {own tx : String} {index q : Nat} (hown : s.vm.findClass own = some m.cls) (hZ : vk_R own index tx q s) (hdg : decode cc pc = .ok (.ldc_w index, 3)) (k : W p l e R s m args below meth c H locs cells slots Q (F0 m (pc + 3) ls (.ref q :: rest))) : W p l e R s m args below meth c H locs cells slots Q (F0 m pc ls rest) := by
  intro T hT X
  obtain ⟨t, a1, b1⟩ := k T hT X
  exact ⟨t, gz_ldcwX X hexec hown (text := tx) (a := q) hZ.1 hZ.2 (g := F0 m pc ls rest) rfl (by rw [hb]; exact hdg) t a1, b1⟩

noncomputable def lsX12_isWord : List (Nat × Instr × Nat) := [(0, .aload_n 0, 1), (1, .getfield 164, 3), (4, .iconst 1, 1), (5, .if_icmp .ne 23, 3), (8, .aload_n 0, 1), (9, .getfield 151, 3), (12, .aload_n 0, 1), (13, .getfield 158, 3), (16, .isub, 1), (17, .aload_n 1, 1), (18, .invokevirtual 184, 3), (21, .if_icmp .ne 7, 3), (24, .iconst 1, 1), (25, .goto 4, 3), (28, .iconst 0, 1), (29, .istore_n 2, 1), (30, .iconst 0, 1), (31, .istore_n 3, 1), (32, .iload_n 3, 1), (33, .aload_n 1, 1), (34, .invokevirtual 184, 3), (37, .if_icmp .ge 38, 3), (40, .iload_n 2, 1), (41, .ifCond .eq 34, 3), (44, .aload_n 0, 1), (45, .getfield 50, 3), (48, .aload_n 0, 1), (49, .getfield 158, 3), (52, .iload_n 3, 1), (53, .iadd, 1), (54, .iaload, 1), (55, .aload_n 1, 1), (56, .iload_n 3, 1), (57, .invokevirtual 190, 3), (60, .if_icmp .ne 7, 3), (63, .iconst 1, 1), (64, .goto 4, 3), (67, .iconst 0, 1), (68, .istore_n 2, 1), (69, .iinc 3 1, 3), (72, .goto (-40), 3), (75, .iload_n 2, 1), (76, .ireturn, 1)]
theorem dkX12_isWord : dkAll cX12_isWord lsX12_isWord = true := by decide +kernel
noncomputable def bfX12_isWord_29 (mi : Nat → Int32) (fm_tape : Nat → Int32) (wi : Nat) (K : (Int32 → Int32 → Int32)) (s0 : Int32) : Int32 := K s0 (0 : Int32)
noncomputable def bfX12_isWord_28 (mi : Nat → Int32) (fm_tape : Nat → Int32) (wi : Nat) (K : (Int32 → Int32 → Int32)) : Int32 := bfX12_isWord_29 mi fm_tape wi K (0 : Int32)
noncomputable def bfX12_isWord_68 (mi : Nat → Int32) (fm_tape : Nat → Int32) (wi : Nat) (K : (Int32 → Int32 → Int32)) (v3 : Int32) (s0 : Int32) : Int32 := K s0 (v3 + (1 : Int32))
noncomputable def bfX12_isWord_75 (mi : Nat → Int32) (fm_tape : Nat → Int32) (wi : Nat) (K : (Int32 → Int32 → Int32)) (v2 : Int32) : Int32 := v2
noncomputable def dfX12_isWord_32 (mi : Nat → Int32) (fm_tape : Nat → Int32) (wi : Nat) (K : (Int32 → Int32 → Int32)) (v2 : Int32) (v3 : Int32) : Int32 := if (nI (stL wi).length) ≤ v3 then (bfX12_isWord_75 mi fm_tape wi K v2) else (if v2 = (0 : Int32) then (bfX12_isWord_75 mi fm_tape wi K v2) else (if (fm_tape ((mi 30) + v3).toNatClampNeg) = ((stL wi).getD v3.toNatClampNeg 0 &&& 255) then (bfX12_isWord_68 mi fm_tape wi K v3 (1 : Int32)) else (bfX12_isWord_68 mi fm_tape wi K v3 (0 : Int32))))
noncomputable def lfX12_isWord (mi : Nat → Int32) (fm_tape : Nat → Int32) (wi : Nat) (z : Nat) : (Int32 → Int32 → Int32) := Nat.rec (motive := fun _ => (Int32 → Int32 → Int32)) (fun _ _ => (0)) (fun _ K => dfX12_isWord_32 mi fm_tape wi K) z
noncomputable def fX12_isWord (mi : Nat → Int32) (fm_tape : Nat → Int32) (wi : Nat) : Int32 := if (mi 31) = (1 : Int32) then (if ((mi 29) - (mi 30)) = (nI (stL wi).length) then (bfX12_isWord_29 mi fm_tape wi (lfX12_isWord mi fm_tape wi 1000000000) (1 : Int32)) else (bfX12_isWord_28 mi fm_tape wi (lfX12_isWord mi fm_tape wi 1000000000))) else (bfX12_isWord_28 mi fm_tape wi (lfX12_isWord mi fm_tape wi 1000000000))
set_option maxHeartbeats 4000000 in
set_option maxRecDepth 100000 in
theorem lp_sX12_isWordP {p : Program} {l : Launch} {e : Env} {R : Room} {s : State} {m : MethodId} {args : Array Value} {below : List Frame} {meth : Method} {c : Code} {Q : State → Prop} {A : Nat → Prop} {cells slots : Nat} {dC : Nat → ClassId} {dI : Nat → Nat → Nat} {RES : Int32} (h0 : Nat) (mi : Nat → Int32) (mr : Nat → Nat) (km : Nat → ClassId) (fm_tape : Nat → Int32) (fm_trust : Nat → Int32) (fm_letter : Nat → Int32) (fm_reportPlace : Nat → Int32) (fm_reportKind : Nat → Int32) (fm_struck : Nat → Int32) (fm_reportMonth : Nat → Int32) (fm_reportDay : Nat → Int32) (fm_reportKnown : Nat → Int32) (fm_deedMonth : Nat → Int32) (fm_deedDay : Nat → Int32) (fm_deedLong : Nat → Int32) (fm_deedKind : Nat → Int32) (fm_kept : Nat → Int32) (fm_must : Nat → Int32) (fm_least : Nat → Int32) (fm_pin : Nat → Int32) (fm_ways : Nat → Int32) (fm_verdict : Nat → Int32) (fm_row : Nat → Int32) (fm_official : Nat → Int32) (fm_aside : Nat → Int32) (fm_worth : Nat → Int32) (fm_out : Nat → Int32) (sa : Nat → Nat) (sb : Nat → Nat) (zf : Value) (wi : Nat) (gmi_0 : gi (mi 0) 0 100000) (gmi_1 : gi (mi 1) 0 100000) (gmi_2 : gi (mi 2) 0 100000) (gmi_4 : gi (mi 4) 0 1) (gmi_7 : gi (mi 7) 0 6) (gmi_10 : gi (mi 10) 0 24) (gmi_17 : gi (mi 17) 0 8) (gmi_23 : gi (mi 23) 0 300) (gmi_24 : gi (mi 24) 0 1) (gmi_26 : gi (mi 26) 0 1600) (gmi_29 : gi (mi 29) 0 1600) (gmi_30 : gi (mi 30) 0 1600) (gmi_32 : gi (mi 32) 0 100000) (gmi_33 : gi (mi 33) 0 1) (gmi_37 : gi (mi 37) 0 1) (gmi_41 : gi (mi 41) 0 24) (gmi_50 : gi (mi 50) 0 1) (gmi_51 : gi (mi 51) 0 1) (gmi_56 : gi (mi 56) 0 80) (hwi : wi < 18) (hpq0 : (mi 30).toInt ≤ (mi 29).toInt) (hpq1 : (mi 29).toInt ≤ (mi 26).toInt) (hpq2 : ((mi 31).toInt = 0 ∨ (mi 30).toInt < (mi 29).toInt)) (hx : p.tables.exec = Jvm.exec) (hb : c.code = cX12_isWord) (hml : c.maxLocals = 4) (hown : s.vm.findClass RX12 = some m.cls) (hts : ∀ w ∈ ((.code yX12_isWord cX12_isWord 4 (some .boolean) :: wsGB) : List Cond), w.before args s = true) (hK : va_K (dC, dI) vwCl (MT km) s) (hT : gz_ST RX12 stIB sa sb zf A s s.heap) (hRf : 4 ≤ R.frames) (hRl : 85 ≤ R.locals) (hRc : cells ≤ R.cells) (hRs : slots ≤ R.slots) (kr76 : ∀ (v : Int32) (H : Heap) (locs : List Loc) (ls : Array Slot), gi v 0 1 → v.toInt = (wdB fm_tape (mi 30) (mi 29) (mi 31) (stL wi)).toInt → v = RES → va_P (dC, dI) vwCl (MWn h0 mr km (mi 0) (mi 1) (mi 2) (mi 3) (mi 4) (mi 5) (mi 6) (mi 7) (mi 10) (mi 17) (mi 23) (mi 24) (mi 26) (mi 27) (mi 28) (mi 29) (mi 30) (mi 31) (mi 32) (mi 33) (mi 37) (mi 41) (mi 42) (mi 43) (mi 44) (mi 45) (mi 47) (mi 48) (mi 49) (mi 50) (mi 51) (mi 54) (mi 56) fm_trust fm_letter fm_reportPlace fm_reportKind fm_struck fm_reportMonth fm_reportDay fm_reportKnown fm_deedMonth fm_deedDay fm_deedLong fm_deedKind fm_kept fm_tape fm_must fm_least fm_pin fm_ways fm_verdict fm_row fm_official fm_aside fm_worth fm_out) H → va_S A s.heap H locs → lv_has ls 4 [] → W p l e R s m args below meth c H locs cells slots Q (F0 m 76 ls [.int v])) : ∀ z : Nat, (∀ (v2 : Int32) (v3 : Int32) (H : Heap) (locs : List Loc) (ls : Array Slot), gi v2 0 1 → gi v3 0 8 → (v2.toInt = 1 → wdP fm_tape (mi 30) (mi 29) (mi 31) (stL wi) (v3.toInt : Int).toNat) → (v2.toInt = 0 → (wdB fm_tape (mi 30) (mi 29) (mi 31) (stL wi)).toInt = 0) → (v2.toInt = 0 ∨ (mi 29).toInt - (mi 30).toInt = ((stL wi).length : Int)) → (lfX12_isWord mi fm_tape wi z) v2 v3 = RES → 17 + (-2) * v3.toInt < (z : Int) → va_P (dC, dI) vwCl (MWn h0 mr km (mi 0) (mi 1) (mi 2) (mi 3) (mi 4) (mi 5) (mi 6) (mi 7) (mi 10) (mi 17) (mi 23) (mi 24) (mi 26) (mi 27) (mi 28) (mi 29) (mi 30) (mi 31) (mi 32) (mi 33) (mi 37) (mi 41) (mi 42) (mi 43) (mi 44) (mi 45) (mi 47) (mi 48) (mi 49) (mi 50) (mi 51) (mi 54) (mi 56) fm_trust fm_letter fm_reportPlace fm_reportKind fm_struck fm_reportMonth fm_reportDay fm_reportKnown fm_deedMonth fm_deedDay fm_deedLong fm_deedKind fm_kept fm_tape fm_must fm_least fm_pin fm_ways fm_verdict fm_row fm_official fm_aside fm_worth fm_out) H → va_S A s.heap H locs → lv_has ls 4 [(0, .ref h0), (1, .ref (sa wi)), (2, .int v2), (3, .int v3)] → W p l e R s m args below meth c H locs cells slots Q (F0 m 32 ls [])) := by
  intro z
  induction z with
  | zero =>
    intro v2 v3 H locs ls gv2 gv3 hinv0 hinv1 hinv2 hF hmu hP hS hl
    exact absurd hmu (by have hv31 := gv3.1; have hv32 := gv3.2; omega)
  | succ z ih =>
      intro v2 v3 H locs ls gv2 gv3 hinv0 hinv1 hinv2 hF hmu hP hS hl
      have hF : dfX12_isWord_32 mi fm_tape wi (lfX12_isWord mi fm_tape wi z) v2 v3 = RES := hF
      refine lv_iload_n hx hb (dk_at dkX12_isWord 18 rfl) rfl (lv_at hl 3 rfl) ?_
      refine lv_aload_n hx hb (dk_at dkX12_isWord 19 rfl) rfl (lv_at hl 1 rfl) ?_
      refine va_calli (va_runV (As := []) (rest := [.int v3]) ⟨hx, hb, hml, hown, hts⟩ (sJ0_lengthB l (sa wi) (sb wi) (stL wi) zf (stL_len wi hwi)) (cwV 0 hts (gz_gV mGB_159 mGB_50 mGB_51 mGB_52 mGB_53 goodGB) rfl rfl rfl (by decide +kernel) ⟨Nat.le_trans (Nat.le_of_ble_eq_true rfl) hRf, Nat.le_trans (Nat.le_of_ble_eq_true rfl) hRl⟩) ⟨fun a U g mk q => ⟨q.1, gz_sp.moved (u := U) (U := U.calling g mk a) (Vm.Alike.refl U.vm) q.2⟩, (by obtain ⟨cell, h1, h2, h3, -⟩ := ((hT.2 wi hwi).2).2.2.1.kept hS.2.1; exact ⟨cell, h1, h2, h3⟩), fun U hU hW => ⟨rfl, by show gz_sp _ _ _ _ _ U U.heap; rw [hU]; exact gz_sp.moved hW.alike (((hT.2 wi hwi).2.kept hS.2.1).narrow (fun _ h => h.elim))⟩⟩ rfl rfl hl.1 rfl (lv_room (Nat.le_of_ble_eq_true rfl)) (dk_at dkX12_isWord 20 rfl) ⟨hRc, hRs⟩) hS (fun q _ h => h.elim) (fun q h => h.elim) (fun r_233 u t H1 locs ht hvm hw hB hz1 hk1 hS => ?_)
      have hP := gz_keep hP hk1
      generalize H1 = H at hP hS ⊢
      have ewr_233 : r_233 = nI (stL wi).length := hw
      have gr_233 : gi r_233 0 7 := gz_len hw (stL_len wi hwi)
      have hnr_233 : r_233.toInt = ((stL wi).length : Int) := gz_lenI hw (stL_len wi hwi)
      refine lv_icmp_ge (tgt := 75) hx hb (dk_at dkX12_isWord 21 rfl) (by decide) (fun c_234 => ?_) (fun c_234 => ?_)
      · have hF := gf_pos (by rw [ewr_233] at c_234; exact c_234) hF
        have hc_235 : r_233.toInt ≤ v3.toInt := by have h9 := Int32.le_iff_toInt_le.mp c_234; exact h9
        refine lv_iload_n hx hb (dk_at dkX12_isWord 41 rfl) rfl (lv_at hl 2 rfl) ?_
        exact kr76 v2 _ _ _ gv2 (show v2.toInt = (wdB fm_tape (mi 30) (mi 29) (mi 31) (stL wi)).toInt from by (rcases (show v2.toInt = 0 ∨ v2.toInt = 1 by have qgv3 := gv3.1; have rgv3 := gv3.2; have qgv2 := gv2.1; have rgv2 := gv2.2; have qgr_233 := gr_233.1; have rgr_233 := gr_233.2; have qgmi_30 := gmi_30.1; have rgmi_30 := gmi_30.2; have qgmi_29 := gmi_29.1; have rgmi_29 := gmi_29.2; have qgmi_26 := gmi_26.1; have rgmi_26 := gmi_26.2; omega) with h9 | h9); (have h8 := hinv1 h9; omega); (first | (have h8 := wd_le (hinv0 h9) (by have qgv3 := gv3.1; have rgv3 := gv3.2; have qgv2 := gv2.1; have rgv2 := gv2.2; have qgr_233 := gr_233.1; have rgr_233 := gr_233.2; have qgmi_30 := gmi_30.1; have rgmi_30 := gmi_30.2; have qgmi_29 := gmi_29.1; have rgmi_29 := gmi_29.2; have qgmi_26 := gmi_26.1; have rgmi_26 := gmi_26.2; omega); omega) | (have qgv3 := gv3.1; have rgv3 := gv3.2; have qgv2 := gv2.1; have rgv2 := gv2.2; have qgr_233 := gr_233.1; have rgr_233 := gr_233.2; have qgmi_30 := gmi_30.1; have rgmi_30 := gmi_30.2; have qgmi_29 := gmi_29.1; have rgmi_29 := gmi_29.2; have qgmi_26 := gmi_26.1; have rgmi_26 := gmi_26.2; omega))) hF hP hS (lv_sub hl [] rfl)
      · have hF := gf_neg (by rw [ewr_233] at c_234; exact c_234) hF
        have hc_236 : v3.toInt < r_233.toInt := by have h9 := Int32.lt_iff_toInt_lt.mp (Int32.not_le.mp c_234); exact h9
        have g_237 : gi v3 0 6 := gi_lt_l (Int32.not_le.mp c_234) gv3 gr_233 (by decide)
        have g_238 : gi r_233 1 7 := gi_lt_r (Int32.not_le.mp c_234) gv3 gr_233 (by decide)
        refine lv_iload_n hx hb (dk_at dkX12_isWord 22 rfl) rfl (lv_at hl 2 rfl) ?_
        refine lv_if_eq (tgt := 75) hx hb (dk_at dkX12_isWord 23 rfl) (by decide) (fun c_239 => ?_) (fun c_239 => ?_)
        · have hF := gf_pos c_239 hF
          have hc_240 : v2.toInt = 0 := by have h9 := congrArg Int32.toInt c_239; rw [show (0 : Int32).toInt = 0 from by decide] at h9; exact h9
          have g_241 : gi v2 0 0 := gi_eq c_239 (gi_c 0 0 (by decide))
          refine lv_iload_n hx hb (dk_at dkX12_isWord 41 rfl) rfl (lv_at hl 2 rfl) ?_
          exact kr76 v2 _ _ _ (gi_w g_241 (by decide)) (show v2.toInt = (wdB fm_tape (mi 30) (mi 29) (mi 31) (stL wi)).toInt from by (rcases (show v2.toInt = 0 ∨ v2.toInt = 1 by have qgv3 := g_237.1; have rgv3 := g_237.2; have qgv2 := g_241.1; have rgv2 := g_241.2; have qgr_233 := g_238.1; have rgr_233 := g_238.2; have qgmi_30 := gmi_30.1; have rgmi_30 := gmi_30.2; have qgmi_29 := gmi_29.1; have rgmi_29 := gmi_29.2; have qgmi_26 := gmi_26.1; have rgmi_26 := gmi_26.2; omega) with h9 | h9); (have h8 := hinv1 h9; omega); (first | (have h8 := wd_le (hinv0 h9) (by have qgv3 := g_237.1; have rgv3 := g_237.2; have qgv2 := g_241.1; have rgv2 := g_241.2; have qgr_233 := g_238.1; have rgr_233 := g_238.2; have qgmi_30 := gmi_30.1; have rgmi_30 := gmi_30.2; have qgmi_29 := gmi_29.1; have rgmi_29 := gmi_29.2; have qgmi_26 := gmi_26.1; have rgmi_26 := gmi_26.2; omega); omega) | (have qgv3 := g_237.1; have rgv3 := g_237.2; have qgv2 := g_241.1; have rgv2 := g_241.2; have qgr_233 := g_238.1; have rgr_233 := g_238.2; have qgmi_30 := gmi_30.1; have rgmi_30 := gmi_30.2; have qgmi_29 := gmi_29.1; have rgmi_29 := gmi_29.2; have qgmi_26 := gmi_26.1; have rgmi_26 := gmi_26.2; omega))) hF hP hS (lv_sub hl [] rfl)
        · have hF := gf_neg c_239 hF
          have hc_242 : v2.toInt ≠ 0 := fun h9 => c_239 (Int32.toInt_inj.mp (by rw [show (0 : Int32).toInt = 0 from by decide]; exact h9))
          have g_243 : gi v2 1 1 := gi_ne_lo c_239 gv2 (gi_c 0 0 (by decide)) (by decide)
          refine lv_aload_n hx hb (dk_at dkX12_isWord 24 rfl) rfl (lv_at hl 0 rfl) ?_
          refine va_get (D := (dC, dI)) (ci := 12) (v := .ref (mr 13)) (C := RX12) (T := TX12) (N := 57) hx hb hts (fun w h => List.mem_cons_of_mem _ (jnGB_X12 w h)) hown hK hP 0 rfl rfl 25 (by decide) (hts _ (List.mem_cons_of_mem _ mGB_24)) (fun _ h9 => h9) rfl (dk_at dkX12_isWord 25 rfl) ?_
          refine lv_aload_n hx hb (dk_at dkX12_isWord 26 rfl) rfl (lv_at hl 0 rfl) ?_
          refine va_get (D := (dC, dI)) (ci := 12) (v := .int (mi 30)) (C := RX12) (T := TX12) (N := 57) hx hb hts (fun w h => List.mem_cons_of_mem _ (jnGB_X12 w h)) hown hK hP 0 rfl rfl 30 (by decide) (hts _ (List.mem_cons_of_mem _ mGB_135)) (fun _ h9 => h9) rfl (dk_at dkX12_isWord 27 rfl) ?_
          refine lv_iload_n hx hb (dk_at dkX12_isWord 28 rfl) rfl (lv_at hl 3 rfl) ?_
          refine lv_iadd hx hb (dk_at dkX12_isWord 29 rfl) ?_
          refine lv_topi (fun x_244 ex_244 => ?_)
          have gx_244 : gi x_244 0 1606 := gi_add ex_244 gmi_30 g_237 (by decide)
          refine va_iald hx hb hK hP 14 13 rfl rfl (gz_inR (n := 1600) (by have qgx_244 := gx_244.1; have rgx_244 := gx_244.2; have igx_244 : x_244.toInt = (mi 30).toInt + v3.toInt := (by have h9 := gi_addI ex_244 (by have h1 := gmi_30.1; have h2 := g_237.1; have h3 := gmi_30.2; have h4 := g_237.2; omega) (by have h1 := gmi_30.1; have h2 := g_237.1; have h3 := gmi_30.2; have h4 := g_237.2; omega); exact h9); have qgv3 := g_237.1; have rgv3 := g_237.2; have qgmi_30 := gmi_30.1; have rgmi_30 := gmi_30.2; have qgv2 := g_243.1; have rgv2 := g_243.2; have qgr_233 := g_238.1; have rgr_233 := g_238.2; have qgmi_29 := gmi_29.1; have rgmi_29 := gmi_29.2; have qgmi_26 := gmi_26.1; have rgmi_26 := gmi_26.2; omega) (by have qgx_244 := gx_244.1; have rgx_244 := gx_244.2; have igx_244 : x_244.toInt = (mi 30).toInt + v3.toInt := (by have h9 := gi_addI ex_244 (by have h1 := gmi_30.1; have h2 := g_237.1; have h3 := gmi_30.2; have h4 := g_237.2; omega) (by have h1 := gmi_30.1; have h2 := g_237.1; have h3 := gmi_30.2; have h4 := g_237.2; omega); exact h9); have qgv3 := g_237.1; have rgv3 := g_237.2; have qgmi_30 := gmi_30.1; have rgmi_30 := gmi_30.2; have qgv2 := g_243.1; have rgv2 := g_243.2; have qgr_233 := g_238.1; have rgr_233 := g_238.2; have qgmi_29 := gmi_29.1; have rgmi_29 := gmi_29.2; have qgmi_26 := gmi_26.1; have rgmi_26 := gmi_26.2; omega)) (dk_at dkX12_isWord 30 rfl) ?_
          refine lv_topi (fun x_245 ex_245 => ?_)
          have hlx_245 : x_245.toInt = (fm_tape x_244.toNatClampNeg).toInt := congrArg Int32.toInt ex_245
          refine lv_aload_n hx hb (dk_at dkX12_isWord 31 rfl) rfl (lv_at hl 1 rfl) ?_
          refine lv_iload_n hx hb (dk_at dkX12_isWord 32 rfl) rfl (lv_at hl 3 rfl) ?_
          refine va_calli (va_runV (As := [.int v3]) (rest := [.int x_245]) ⟨hx, hb, hml, hown, hts⟩ (sJ0_charAtB l (sa wi) (sb wi) (stL wi) zf hT.1 (stL_len wi hwi) v3 (gz_nlt0 (by have qgx_244 := gx_244.1; have rgx_244 := gx_244.2; have igx_244 : x_244.toInt = (mi 30).toInt + v3.toInt := (by have h9 := gi_addI ex_244 (by have h1 := gmi_30.1; have h2 := g_237.1; have h3 := gmi_30.2; have h4 := g_237.2; omega) (by have h1 := gmi_30.1; have h2 := g_237.1; have h3 := gmi_30.2; have h4 := g_237.2; omega); exact h9); have qgv3 := g_237.1; have rgv3 := g_237.2; have qgmi_30 := gmi_30.1; have rgmi_30 := gmi_30.2; have qgv2 := g_243.1; have rgv2 := g_243.2; have qgr_233 := g_238.1; have rgr_233 := g_238.2; have qgmi_29 := gmi_29.1; have rgmi_29 := gmi_29.2; have qgmi_26 := gmi_26.1; have rgmi_26 := gmi_26.2; omega)) (gz_chi (by have qgx_244 := gx_244.1; have rgx_244 := gx_244.2; have igx_244 : x_244.toInt = (mi 30).toInt + v3.toInt := (by have h9 := gi_addI ex_244 (by have h1 := gmi_30.1; have h2 := g_237.1; have h3 := gmi_30.2; have h4 := g_237.2; omega) (by have h1 := gmi_30.1; have h2 := g_237.1; have h3 := gmi_30.2; have h4 := g_237.2; omega); exact h9); have qgv3 := g_237.1; have rgv3 := g_237.2; have qgmi_30 := gmi_30.1; have rgmi_30 := gmi_30.2; have qgv2 := g_243.1; have rgv2 := g_243.2; have qgr_233 := g_238.1; have rgr_233 := g_238.2; have qgmi_29 := gmi_29.1; have rgmi_29 := gmi_29.2; have qgmi_26 := gmi_26.1; have rgmi_26 := gmi_26.2; omega) (by have qgx_244 := gx_244.1; have rgx_244 := gx_244.2; have igx_244 : x_244.toInt = (mi 30).toInt + v3.toInt := (by have h9 := gi_addI ex_244 (by have h1 := gmi_30.1; have h2 := g_237.1; have h3 := gmi_30.2; have h4 := g_237.2; omega) (by have h1 := gmi_30.1; have h2 := g_237.1; have h3 := gmi_30.2; have h4 := g_237.2; omega); exact h9); have qgv3 := g_237.1; have rgv3 := g_237.2; have qgmi_30 := gmi_30.1; have rgmi_30 := gmi_30.2; have qgv2 := g_243.1; have rgv2 := g_243.2; have qgr_233 := g_238.1; have rgr_233 := g_238.2; have qgmi_29 := gmi_29.1; have rgmi_29 := gmi_29.2; have qgmi_26 := gmi_26.1; have rgmi_26 := gmi_26.2; omega))) (cwV 1 hts (gz_gV mGB_160 mGB_61 mGB_62 mGB_52 mGB_63 goodGB) rfl rfl rfl (by decide +kernel) ⟨Nat.le_trans (Nat.le_of_ble_eq_true rfl) hRf, Nat.le_trans (Nat.le_of_ble_eq_true rfl) hRl⟩) ⟨fun a U g mk q => ⟨q.1, gz_sp.moved (u := U) (U := U.calling g mk a) (Vm.Alike.refl U.vm) q.2⟩, (by obtain ⟨cell, h1, h2, h3, -⟩ := ((hT.2 wi hwi).2).2.2.1.kept hS.2.1; exact ⟨cell, h1, h2, h3⟩), fun U hU hW => ⟨rfl, by show gz_sp _ _ _ _ _ U U.heap; rw [hU]; exact gz_sp.moved hW.alike (((hT.2 wi hwi).2.kept hS.2.1).narrow (fun _ h => h.elim))⟩⟩ rfl rfl hl.1 rfl (lv_room (Nat.le_of_ble_eq_true rfl)) (dk_at dkX12_isWord 33 rfl) ⟨hRc, hRs⟩) hS (fun q _ h => h.elim) (fun q h => h.elim) (fun r_246 u t H1 locs ht hvm hw hB hz1 hk1 hS => ?_)
          have hP := gz_keep hP hk1
          generalize H1 = H at hP hS ⊢
          have her_246 : r_246 = (stL wi).getD v3.toNatClampNeg 0 &&& 255 := hw
          refine lv_icmp_ne (tgt := 67) hx hb (dk_at dkX12_isWord 34 rfl) (by decide) (fun c_247 => ?_) (fun c_247 => ?_)
          · have hF := gf_neg (by rw [her_246, ex_245, ex_244] at c_247; exact c_247) hF
            have hc_248 : x_245.toInt ≠ r_246.toInt := fun h9 => c_247 (Int32.toInt_inj.mp (by exact h9))
            refine lv_iconst (v := 0) hx hb (dk_at dkX12_isWord 37 rfl) (by decide) ?_
            refine lv_istore_n (lv' := [(2, .int 0), (0, .ref h0), (1, .ref (sa wi)), (3, .int v3)]) hx hb (dk_at dkX12_isWord 38 rfl) rfl hl (by decide) rfl (fun ls hl => ?_)
            obtain ⟨x_249, ex_249⟩ : ∃ y : Int32, y = v3 + 1 := ⟨_, rfl⟩
            have gx_249 : gi x_249 1 7 := gi_add ex_249 g_237 (gi_c 1 1 (by decide)) (by decide)
            refine lv_iinc (v := x_249) (lv' := [(3, .int x_249), (2, .int 0), (0, .ref h0), (1, .ref (sa wi))]) hx hb (dk_at dkX12_isWord 39 rfl) hl (k := 3) rfl (by rw [ex_249]; rfl) (by decide) rfl (fun ls hl => ?_)
            refine lv_goto (tgt := 32) hx hb (dk_at dkX12_isWord 40 rfl) (by decide) ?_
            exact ih 0 x_249 _ _ _ (gi_w (gi_c 0 0 (by decide)) (by decide)) (gi_w gx_249 (by decide)) (show ((0 : Int) = 1 → wdP fm_tape (mi 30) (mi 29) (mi 31) (stL wi) (x_249.toInt : Int).toNat) from by intro h9; exact absurd h9 (by decide)) (show ((0 : Int) = 0 → (wdB fm_tape (mi 30) (mi 29) (mi 31) (stL wi)).toInt = 0) from by intro h9; exact wd_no (by have qgx_244 := gx_244.1; have rgx_244 := gx_244.2; have igx_244 : x_244.toInt = (mi 30).toInt + v3.toInt := (by have h9 := gi_addI ex_244 (by have h1 := gmi_30.1; have h2 := g_237.1; have h3 := gmi_30.2; have h4 := g_237.2; omega) (by have h1 := gmi_30.1; have h2 := g_237.1; have h3 := gmi_30.2; have h4 := g_237.2; omega); exact h9); have qgv3 := g_237.1; have rgv3 := g_237.2; have qgmi_30 := gmi_30.1; have rgmi_30 := gmi_30.2; have qgv2 := g_243.1; have rgv2 := g_243.2; have qgr_233 := g_238.1; have rgr_233 := g_238.2; have qgmi_29 := gmi_29.1; have rgmi_29 := gmi_29.2; have qgmi_26 := gmi_26.1; have rgmi_26 := gmi_26.2; omega) (by have qgx_244 := gx_244.1; have rgx_244 := gx_244.2; have igx_244 : x_244.toInt = (mi 30).toInt + v3.toInt := (by have h9 := gi_addI ex_244 (by have h1 := gmi_30.1; have h2 := g_237.1; have h3 := gmi_30.2; have h4 := g_237.2; omega) (by have h1 := gmi_30.1; have h2 := g_237.1; have h3 := gmi_30.2; have h4 := g_237.2; omega); exact h9); have qgv3 := g_237.1; have rgv3 := g_237.2; have qgmi_30 := gmi_30.1; have rgmi_30 := gmi_30.2; have qgv2 := g_243.1; have rgv2 := g_243.2; have qgr_233 := g_238.1; have rgr_233 := g_238.2; have qgmi_29 := gmi_29.1; have rgmi_29 := gmi_29.2; have qgmi_26 := gmi_26.1; have rgmi_26 := gmi_26.2; omega) (by have qgx_244 := gx_244.1; have rgx_244 := gx_244.2; have igx_244 : x_244.toInt = (mi 30).toInt + v3.toInt := (by have h9 := gi_addI ex_244 (by have h1 := gmi_30.1; have h2 := g_237.1; have h3 := gmi_30.2; have h4 := g_237.2; omega) (by have h1 := gmi_30.1; have h2 := g_237.1; have h3 := gmi_30.2; have h4 := g_237.2; omega); exact h9); have qgv3 := g_237.1; have rgv3 := g_237.2; have qgmi_30 := gmi_30.1; have rgmi_30 := gmi_30.2; have qgv2 := g_243.1; have rgv2 := g_243.2; have qgr_233 := g_238.1; have rgr_233 := g_238.2; have qgmi_29 := gmi_29.1; have rgmi_29 := gmi_29.2; have qgmi_26 := gmi_26.1; have rgmi_26 := gmi_26.2; omega) (by have qgx_244 := gx_244.1; have rgx_244 := gx_244.2; have igx_244 : x_244.toInt = (mi 30).toInt + v3.toInt := (by have h9 := gi_addI ex_244 (by have h1 := gmi_30.1; have h2 := g_237.1; have h3 := gmi_30.2; have h4 := g_237.2; omega) (by have h1 := gmi_30.1; have h2 := g_237.1; have h3 := gmi_30.2; have h4 := g_237.2; omega); exact h9); have qgv3 := g_237.1; have rgv3 := g_237.2; have qgmi_30 := gmi_30.1; have rgmi_30 := gmi_30.2; have qgv2 := g_243.1; have rgv2 := g_243.2; have qgr_233 := g_238.1; have rgr_233 := g_238.2; have qgmi_29 := gmi_29.1; have rgmi_29 := gmi_29.2; have qgmi_26 := gmi_26.1; have rgmi_26 := gmi_26.2; omega) ex_245 her_246 c_247) (show ((0 : Int32).toInt = 0 ∨ (mi 29).toInt - (mi 30).toInt = ((stL wi).length : Int)) from by have k0 : (0 : Int32).toInt = 0 := (by decide); have qgx_244 := gx_244.1; have rgx_244 := gx_244.2; have igx_244 : x_244.toInt = (mi 30).toInt + v3.toInt := (by have h9 := gi_addI ex_244 (by have h1 := gmi_30.1; have h2 := g_237.1; have h3 := gmi_30.2; have h4 := g_237.2; omega) (by have h1 := gmi_30.1; have h2 := g_237.1; have h3 := gmi_30.2; have h4 := g_237.2; omega); exact h9); have qgv3 := g_237.1; have rgv3 := g_237.2; have qgmi_30 := gmi_30.1; have rgmi_30 := gmi_30.2; have qgv2 := g_243.1; have rgv2 := g_243.2; have qgr_233 := g_238.1; have rgr_233 := g_238.2; have qgmi_29 := gmi_29.1; have rgmi_29 := gmi_29.2; have qgmi_26 := gmi_26.1; have rgmi_26 := gmi_26.2; omega) (by rw [ex_249]; exact hF) (by have av3 := gv3.1; have bv3 := gv3.2; have qgx_249 := gx_249.1; have rgx_249 := gx_249.2; have igx_249 : x_249.toInt = v3.toInt + 1 := (by have hc1 : (1 : Int32).toInt = 1 := (by decide); have h9 := gi_addI ex_249 (by have h1 := g_237.1; have h2 := (gi_c 1 1 (by decide)).1; have h3 := g_237.2; have h4 := (gi_c 1 1 (by decide)).2; omega) (by have h1 := g_237.1; have h2 := (gi_c 1 1 (by decide)).1; have h3 := g_237.2; have h4 := (gi_c 1 1 (by decide)).2; omega); rw [hc1] at h9; exact h9); have qgv3 := g_237.1; have rgv3 := g_237.2; omega) hP hS (lv_sub hl [2, 3, 1, 0] rfl)
          · have hF := gf_pos (by rw [her_246, ex_245, ex_244] at c_247; exact c_247) hF
            have hc_250 : x_245.toInt = r_246.toInt := by have h9 := congrArg Int32.toInt c_247; exact h9
            refine lv_iconst (v := 1) hx hb (dk_at dkX12_isWord 35 rfl) (by decide) ?_
            refine lv_goto (tgt := 68) hx hb (dk_at dkX12_isWord 36 rfl) (by decide) ?_
            refine lv_istore_n (lv' := [(2, .int 1), (0, .ref h0), (1, .ref (sa wi)), (3, .int v3)]) hx hb (dk_at dkX12_isWord 38 rfl) rfl hl (by decide) rfl (fun ls hl => ?_)
            obtain ⟨x_251, ex_251⟩ : ∃ y : Int32, y = v3 + 1 := ⟨_, rfl⟩
            have gx_251 : gi x_251 1 7 := gi_add ex_251 g_237 (gi_c 1 1 (by decide)) (by decide)
            refine lv_iinc (v := x_251) (lv' := [(3, .int x_251), (2, .int 1), (0, .ref h0), (1, .ref (sa wi))]) hx hb (dk_at dkX12_isWord 39 rfl) hl (k := 3) rfl (by rw [ex_251]; rfl) (by decide) rfl (fun ls hl => ?_)
            refine lv_goto (tgt := 32) hx hb (dk_at dkX12_isWord 40 rfl) (by decide) ?_
            exact ih 1 x_251 _ _ _ (gi_w (gi_c 1 1 (by decide)) (by decide)) (gi_w gx_251 (by decide)) (show ((1 : Int) = 1 → wdP fm_tape (mi 30) (mi 29) (mi 31) (stL wi) (x_251.toInt : Int).toNat) from by intro h9; exact wd_step (hinv0 (by have qgx_244 := gx_244.1; have rgx_244 := gx_244.2; have igx_244 : x_244.toInt = (mi 30).toInt + v3.toInt := (by have h9 := gi_addI ex_244 (by have h1 := gmi_30.1; have h2 := g_237.1; have h3 := gmi_30.2; have h4 := g_237.2; omega) (by have h1 := gmi_30.1; have h2 := g_237.1; have h3 := gmi_30.2; have h4 := g_237.2; omega); exact h9); have qgv3 := g_237.1; have rgv3 := g_237.2; have qgmi_30 := gmi_30.1; have rgmi_30 := gmi_30.2; have qgv2 := g_243.1; have rgv2 := g_243.2; have qgr_233 := g_238.1; have rgr_233 := g_238.2; have qgmi_29 := gmi_29.1; have rgmi_29 := gmi_29.2; have qgmi_26 := gmi_26.1; have rgmi_26 := gmi_26.2; omega)) (by have qgx_244 := gx_244.1; have rgx_244 := gx_244.2; have igx_244 : x_244.toInt = (mi 30).toInt + v3.toInt := (by have h9 := gi_addI ex_244 (by have h1 := gmi_30.1; have h2 := g_237.1; have h3 := gmi_30.2; have h4 := g_237.2; omega) (by have h1 := gmi_30.1; have h2 := g_237.1; have h3 := gmi_30.2; have h4 := g_237.2; omega); exact h9); have qgv3 := g_237.1; have rgv3 := g_237.2; have qgmi_30 := gmi_30.1; have rgmi_30 := gmi_30.2; have qgv2 := g_243.1; have rgv2 := g_243.2; have qgr_233 := g_238.1; have rgr_233 := g_238.2; have qgmi_29 := gmi_29.1; have rgmi_29 := gmi_29.2; have qgmi_26 := gmi_26.1; have rgmi_26 := gmi_26.2; omega) (by have qgx_244 := gx_244.1; have rgx_244 := gx_244.2; have igx_244 : x_244.toInt = (mi 30).toInt + v3.toInt := (by have h9 := gi_addI ex_244 (by have h1 := gmi_30.1; have h2 := g_237.1; have h3 := gmi_30.2; have h4 := g_237.2; omega) (by have h1 := gmi_30.1; have h2 := g_237.1; have h3 := gmi_30.2; have h4 := g_237.2; omega); exact h9); have qgv3 := g_237.1; have rgv3 := g_237.2; have qgmi_30 := gmi_30.1; have rgmi_30 := gmi_30.2; have qgv2 := g_243.1; have rgv2 := g_243.2; have qgr_233 := g_238.1; have rgr_233 := g_238.2; have qgmi_29 := gmi_29.1; have rgmi_29 := gmi_29.2; have qgmi_26 := gmi_26.1; have rgmi_26 := gmi_26.2; omega) (by have qgx_244 := gx_244.1; have rgx_244 := gx_244.2; have igx_244 : x_244.toInt = (mi 30).toInt + v3.toInt := (by have h9 := gi_addI ex_244 (by have h1 := gmi_30.1; have h2 := g_237.1; have h3 := gmi_30.2; have h4 := g_237.2; omega) (by have h1 := gmi_30.1; have h2 := g_237.1; have h3 := gmi_30.2; have h4 := g_237.2; omega); exact h9); have qgv3 := g_237.1; have rgv3 := g_237.2; have qgmi_30 := gmi_30.1; have rgmi_30 := gmi_30.2; have qgv2 := g_243.1; have rgv2 := g_243.2; have qgr_233 := g_238.1; have rgr_233 := g_238.2; have qgmi_29 := gmi_29.1; have rgmi_29 := gmi_29.2; have qgmi_26 := gmi_26.1; have rgmi_26 := gmi_26.2; omega) ex_245 her_246 c_247 (by have qgx_251 := gx_251.1; have rgx_251 := gx_251.2; have igx_251 : x_251.toInt = v3.toInt + 1 := (by have hc1 : (1 : Int32).toInt = 1 := (by decide); have h9 := gi_addI ex_251 (by have h1 := g_237.1; have h2 := (gi_c 1 1 (by decide)).1; have h3 := g_237.2; have h4 := (gi_c 1 1 (by decide)).2; omega) (by have h1 := g_237.1; have h2 := (gi_c 1 1 (by decide)).1; have h3 := g_237.2; have h4 := (gi_c 1 1 (by decide)).2; omega); rw [hc1] at h9; exact h9); have qgv3 := g_237.1; have rgv3 := g_237.2; have qgx_244 := gx_244.1; have rgx_244 := gx_244.2; have igx_244 : x_244.toInt = (mi 30).toInt + v3.toInt := (by have h9 := gi_addI ex_244 (by have h1 := gmi_30.1; have h2 := g_237.1; have h3 := gmi_30.2; have h4 := g_237.2; omega) (by have h1 := gmi_30.1; have h2 := g_237.1; have h3 := gmi_30.2; have h4 := g_237.2; omega); exact h9); have qgmi_30 := gmi_30.1; have rgmi_30 := gmi_30.2; have qgv2 := g_243.1; have rgv2 := g_243.2; have qgr_233 := g_238.1; have rgr_233 := g_238.2; have qgmi_29 := gmi_29.1; have rgmi_29 := gmi_29.2; have qgmi_26 := gmi_26.1; have rgmi_26 := gmi_26.2; omega)) (show ((1 : Int) = 0 → (wdB fm_tape (mi 30) (mi 29) (mi 31) (stL wi)).toInt = 0) from by intro h9; exact absurd h9 (by decide)) (show ((1 : Int32).toInt = 0 ∨ (mi 29).toInt - (mi 30).toInt = ((stL wi).length : Int)) from by have k1 : (1 : Int32).toInt = 1 := (by decide); have qgx_244 := gx_244.1; have rgx_244 := gx_244.2; have igx_244 : x_244.toInt = (mi 30).toInt + v3.toInt := (by have h9 := gi_addI ex_244 (by have h1 := gmi_30.1; have h2 := g_237.1; have h3 := gmi_30.2; have h4 := g_237.2; omega) (by have h1 := gmi_30.1; have h2 := g_237.1; have h3 := gmi_30.2; have h4 := g_237.2; omega); exact h9); have qgv3 := g_237.1; have rgv3 := g_237.2; have qgmi_30 := gmi_30.1; have rgmi_30 := gmi_30.2; have qgv2 := g_243.1; have rgv2 := g_243.2; have qgr_233 := g_238.1; have rgr_233 := g_238.2; have qgmi_29 := gmi_29.1; have rgmi_29 := gmi_29.2; have qgmi_26 := gmi_26.1; have rgmi_26 := gmi_26.2; omega) (by rw [ex_251]; exact hF) (by have av3 := gv3.1; have bv3 := gv3.2; have qgx_251 := gx_251.1; have rgx_251 := gx_251.2; have igx_251 : x_251.toInt = v3.toInt + 1 := (by have hc1 : (1 : Int32).toInt = 1 := (by decide); have h9 := gi_addI ex_251 (by have h1 := g_237.1; have h2 := (gi_c 1 1 (by decide)).1; have h3 := g_237.2; have h4 := (gi_c 1 1 (by decide)).2; omega) (by have h1 := g_237.1; have h2 := (gi_c 1 1 (by decide)).1; have h3 := g_237.2; have h4 := (gi_c 1 1 (by decide)).2; omega); rw [hc1] at h9; exact h9); have qgv3 := g_237.1; have rgv3 := g_237.2; omega) hP hS (lv_sub hl [2, 3, 1, 0] rfl)
set_option maxHeartbeats 4000000 in
set_option maxRecDepth 100000 in
theorem sX12_isWordP (l : Launch) (dC : Nat → ClassId) (dI : Nat → Nat → Nat) (h0 : Nat) (mi : Nat → Int32) (mr : Nat → Nat) (km : Nat → ClassId) (fm_tape : Nat → Int32) (fm_trust : Nat → Int32) (fm_letter : Nat → Int32) (fm_reportPlace : Nat → Int32) (fm_reportKind : Nat → Int32) (fm_struck : Nat → Int32) (fm_reportMonth : Nat → Int32) (fm_reportDay : Nat → Int32) (fm_reportKnown : Nat → Int32) (fm_deedMonth : Nat → Int32) (fm_deedDay : Nat → Int32) (fm_deedLong : Nat → Int32) (fm_deedKind : Nat → Int32) (fm_kept : Nat → Int32) (fm_must : Nat → Int32) (fm_least : Nat → Int32) (fm_pin : Nat → Int32) (fm_ways : Nat → Int32) (fm_verdict : Nat → Int32) (fm_row : Nat → Int32) (fm_official : Nat → Int32) (fm_aside : Nat → Int32) (fm_worth : Nat → Int32) (fm_out : Nat → Int32) (sa : Nat → Nat) (sb : Nat → Nat) (zf : Value) (wi : Nat) (gmi_0 : gi (mi 0) 0 100000) (gmi_1 : gi (mi 1) 0 100000) (gmi_2 : gi (mi 2) 0 100000) (gmi_4 : gi (mi 4) 0 1) (gmi_7 : gi (mi 7) 0 6) (gmi_10 : gi (mi 10) 0 24) (gmi_17 : gi (mi 17) 0 8) (gmi_23 : gi (mi 23) 0 300) (gmi_24 : gi (mi 24) 0 1) (gmi_26 : gi (mi 26) 0 1600) (gmi_29 : gi (mi 29) 0 1600) (gmi_30 : gi (mi 30) 0 1600) (gmi_32 : gi (mi 32) 0 100000) (gmi_33 : gi (mi 33) 0 1) (gmi_37 : gi (mi 37) 0 1) (gmi_41 : gi (mi 41) 0 24) (gmi_50 : gi (mi 50) 0 1) (gmi_51 : gi (mi 51) 0 1) (gmi_56 : gi (mi 56) 0 80) (hwi : wi < 18) (hpq0 : (mi 30).toInt ≤ (mi 29).toInt) (hpq1 : (mi 29).toInt ≤ (mi 26).toInt) (hpq2 : ((mi 31).toInt = 0 ∨ (mi 30).toInt < (mi 29).toInt)) : Met l yX12_isWord (.code yX12_isWord cX12_isWord 4 (some .boolean) :: wsGB) ({ frames := 4, cells := 0, slots := 0, locals := 85 }) (va_Pc [.ref h0, .ref (sa wi)] (fun U => va_P (dC, dI) vwCl (MWn h0 mr km (mi 0) (mi 1) (mi 2) (mi 3) (mi 4) (mi 5) (mi 6) (mi 7) (mi 10) (mi 17) (mi 23) (mi 24) (mi 26) (mi 27) (mi 28) (mi 29) (mi 30) (mi 31) (mi 32) (mi 33) (mi 37) (mi 41) (mi 42) (mi 43) (mi 44) (mi 45) (mi 47) (mi 48) (mi 49) (mi 50) (mi 51) (mi 54) (mi 56) fm_trust fm_letter fm_reportPlace fm_reportKind fm_struck fm_reportMonth fm_reportDay fm_reportKnown fm_deedMonth fm_deedDay fm_deedLong fm_deedKind fm_kept fm_tape fm_must fm_least fm_pin fm_ways fm_verdict fm_row fm_official fm_aside fm_worth fm_out) U.heap ∧ va_K (dC, dI) vwCl (MT km) U ∧ gz_ST RX12 stIB sa sb zf (fun _ => False) U U.heap)) (va_Qi (fun (r : Int32) (u : Unit) => (gi r 0 1 ∧ r.toInt = (wdB fm_tape (mi 30) (mi 29) (mi 31) (stL wi)).toInt) ∧ r = fX12_isWord mi fm_tape wi) (fun _ _ => True) (fun _ => False)) 0 0 (fun _ => False) := by
  refine Met.ofW (cc := cX12_isWord) (maxL := 4) (ret := (some .boolean)) (by decide) rfl ?_
  intro p e s m args below meth c s₁ B hml hv
  obtain ⟨rfl, hP, hK, hT⟩ := hv
  have hx := B.exec
  have hb := B.bytes
  have hr := B.returns
  have hts := atoms_spec (ws := (.code yX12_isWord cX12_isWord 4 (some .boolean) :: wsGB)) B.pre
  have hown : s.vm.findClass RX12 = some m.cls := findClass_of_methodNamed B.named
  have hlocks := B.notSynchronized
  have hS : va_S (fun _ => False) s.heap s.heap [] := va_S.rf
  have hl := lv_entry ([.ref h0, .ref (sa wi)]) (n := 4) (Nat.le_of_ble_eq_true rfl)
  rw [lg_entry_eq]
  generalize (lg_sl ([.ref h0, .ref (sa wi)]) ++ List.replicate (4 - (lg_sl ([.ref h0, .ref (sa wi)])).length) Slot.unset).toArray = ls at hl ⊢
  have hl : lv_has ls 4 [(0, .ref h0), (1, .ref (sa wi))] := hl
  obtain ⟨RES, hF⟩ : ∃ R9, fX12_isWord mi fm_tape wi = R9 := ⟨_, rfl⟩
  have hR9 := hF
  refine lv_aload_n hx hb (dk_at dkX12_isWord 0 rfl) rfl (lv_at hl 0 rfl) ?_
  refine va_get (D := (dC, dI)) (ci := 12) (v := .int (mi 31)) (C := RX12) (T := TX12) (N := 57) hx hb hts (fun w h => List.mem_cons_of_mem _ (jnGB_X12 w h)) hown hK hP 0 rfl rfl 31 (by decide) (hts _ (List.mem_cons_of_mem _ mGB_116)) (fun _ h9 => h9) rfl (dk_at dkX12_isWord 1 rfl) ?_
  refine lv_iconst (v := 1) hx hb (dk_at dkX12_isWord 2 rfl) (by decide) ?_
  refine lv_icmp_ne (tgt := 28) hx hb (dk_at dkX12_isWord 3 rfl) (by decide) (fun c_252 => ?_) (fun c_252 => ?_)
  · have hF := gf_neg c_252 hF
    have hc_253 : (mi 31).toInt ≠ 1 := fun h9 => c_252 (Int32.toInt_inj.mp (by rw [show (1 : Int32).toInt = 1 from by decide]; exact h9))
    refine lv_iconst (v := 0) hx hb (dk_at dkX12_isWord 14 rfl) (by decide) ?_
    refine lv_istore_n (lv' := [(2, .int 0), (0, .ref h0), (1, .ref (sa wi))]) hx hb (dk_at dkX12_isWord 15 rfl) rfl hl (by decide) rfl (fun ls hl => ?_)
    refine lv_iconst (v := 0) hx hb (dk_at dkX12_isWord 16 rfl) (by decide) ?_
    refine lv_istore_n (lv' := [(3, .int 0), (2, .int 0), (0, .ref h0), (1, .ref (sa wi))]) hx hb (dk_at dkX12_isWord 17 rfl) rfl hl (by decide) rfl (fun ls hl => ?_)
    refine (lp_sX12_isWordP h0 mi mr km fm_tape fm_trust fm_letter fm_reportPlace fm_reportKind fm_struck fm_reportMonth fm_reportDay fm_reportKnown fm_deedMonth fm_deedDay fm_deedLong fm_deedKind fm_kept fm_must fm_least fm_pin fm_ways fm_verdict fm_row fm_official fm_aside fm_worth fm_out sa sb zf wi gmi_0 gmi_1 gmi_2 gmi_4 gmi_7 gmi_10 gmi_17 gmi_23 gmi_24 gmi_26 gmi_29 gmi_30 gmi_32 gmi_33 gmi_37 gmi_41 gmi_50 gmi_51 gmi_56 hwi hpq0 hpq1 hpq2 hx hb hml hown hts hK hT (Nat.le_of_ble_eq_true rfl) (Nat.le_of_ble_eq_true rfl) (Nat.zero_le _) (Nat.zero_le _) (fun v H locs ls gv hpx hF hP hS hl => ?_) 1000000000) 0 0 _ _ _ (gi_w (gi_c 0 0 (by decide)) (by decide)) (gi_w (gi_c 0 0 (by decide)) (by decide)) (show ((0 : Int) = 1 → wdP fm_tape (mi 30) (mi 29) (mi 31) (stL wi) ((0 : Int) : Int).toNat) from by intro h9; exact absurd h9 (by decide)) (show ((0 : Int) = 0 → (wdB fm_tape (mi 30) (mi 29) (mi 31) (stL wi)).toInt = 0) from by intro h9; exact wd_not (fun h8 => absurd h8.1 (by have qgmi_30 := gmi_30.1; have rgmi_30 := gmi_30.2; have qgmi_29 := gmi_29.1; have rgmi_29 := gmi_29.2; have qgmi_26 := gmi_26.1; have rgmi_26 := gmi_26.2; omega))) (show ((0 : Int32).toInt = 0 ∨ (mi 29).toInt - (mi 30).toInt = ((stL wi).length : Int)) from by have k0 : (0 : Int32).toInt = 0 := (by decide); have qgmi_30 := gmi_30.1; have rgmi_30 := gmi_30.2; have qgmi_29 := gmi_29.1; have rgmi_29 := gmi_29.2; have qgmi_26 := gmi_26.1; have rgmi_26 := gmi_26.2; omega) hF (by have k0 : (0 : Int32).toInt = 0 := (by decide); omega) hP hS (lv_sub hl [2, 3, 1, 0] rfl)
    · skip
      exact W.zret (v := v) hx hb hr (gz_nb gv) (fun t ht hW => ⟨⟨v, (), rfl, ⟨⟨gv, hpx⟩, hF.trans hR9.symm⟩, trivial⟩, hS.F ht⟩) hS.2.2 (dk_at dkX12_isWord 42 rfl)
  · have hF := gf_pos c_252 hF
    have hc_254 : (mi 31).toInt = 1 := by have h9 := congrArg Int32.toInt c_252; rw [show (1 : Int32).toInt = 1 from by decide] at h9; exact h9
    have g_255 : gi (mi 31) 1 1 := gi_eq c_252 (gi_c 1 1 (by decide))
    refine lv_aload_n hx hb (dk_at dkX12_isWord 4 rfl) rfl (lv_at hl 0 rfl) ?_
    refine va_get (D := (dC, dI)) (ci := 12) (v := .int (mi 29)) (C := RX12) (T := TX12) (N := 57) hx hb hts (fun w h => List.mem_cons_of_mem _ (jnGB_X12 w h)) hown hK hP 0 rfl rfl 29 (by decide) (hts _ (List.mem_cons_of_mem _ mGB_113)) (fun _ h9 => h9) rfl (dk_at dkX12_isWord 5 rfl) ?_
    refine lv_aload_n hx hb (dk_at dkX12_isWord 6 rfl) rfl (lv_at hl 0 rfl) ?_
    refine va_get (D := (dC, dI)) (ci := 12) (v := .int (mi 30)) (C := RX12) (T := TX12) (N := 57) hx hb hts (fun w h => List.mem_cons_of_mem _ (jnGB_X12 w h)) hown hK hP 0 rfl rfl 30 (by decide) (hts _ (List.mem_cons_of_mem _ mGB_135)) (fun _ h9 => h9) rfl (dk_at dkX12_isWord 7 rfl) ?_
    refine lv_isub hx hb (dk_at dkX12_isWord 8 rfl) ?_
    refine lv_topi (fun x_256 ex_256 => ?_)
    have gx_256 : gi x_256 (-1600) 1600 := gi_sub ex_256 gmi_29 gmi_30 (by decide)
    refine lv_aload_n hx hb (dk_at dkX12_isWord 9 rfl) rfl (lv_at hl 1 rfl) ?_
    refine va_calli (va_runV (As := []) (rest := [.int x_256]) ⟨hx, hb, hml, hown, hts⟩ (sJ0_lengthB l (sa wi) (sb wi) (stL wi) zf (stL_len wi hwi)) (cwV 0 hts (gz_gV mGB_159 mGB_50 mGB_51 mGB_52 mGB_53 goodGB) rfl rfl rfl (by decide +kernel) ⟨Nat.le_of_ble_eq_true rfl, Nat.le_of_ble_eq_true rfl⟩) ⟨fun a U g mk q => ⟨q.1, gz_sp.moved (u := U) (U := U.calling g mk a) (Vm.Alike.refl U.vm) q.2⟩, (by obtain ⟨cell, h1, h2, h3, -⟩ := ((hT.2 wi hwi).2).2.2.1.kept hS.2.1; exact ⟨cell, h1, h2, h3⟩), fun U hU hW => ⟨rfl, by show gz_sp _ _ _ _ _ U U.heap; rw [hU]; exact gz_sp.moved hW.alike (((hT.2 wi hwi).2.kept hS.2.1).narrow (fun _ h => h.elim))⟩⟩ rfl rfl hl.1 rfl (lv_room (Nat.le_of_ble_eq_true rfl)) (dk_at dkX12_isWord 10 rfl) ⟨Nat.zero_le _, Nat.zero_le _⟩) hS (fun q _ h => h.elim) (fun q h => h.elim) (fun r_257 u t H1 locs ht hvm hw hB hz1 hk1 hS => ?_)
    have hP := gz_keep hP hk1
    generalize H1 = H at hP hS ⊢
    have ewr_257 : r_257 = nI (stL wi).length := hw
    have gr_257 : gi r_257 0 7 := gz_len hw (stL_len wi hwi)
    have hnr_257 : r_257.toInt = ((stL wi).length : Int) := gz_lenI hw (stL_len wi hwi)
    refine lv_icmp_ne (tgt := 28) hx hb (dk_at dkX12_isWord 11 rfl) (by decide) (fun c_258 => ?_) (fun c_258 => ?_)
    · have hF := gf_neg (by rw [ewr_257, ex_256] at c_258; exact c_258) hF
      have hc_259 : x_256.toInt ≠ r_257.toInt := fun h9 => c_258 (Int32.toInt_inj.mp (by exact h9))
      refine lv_iconst (v := 0) hx hb (dk_at dkX12_isWord 14 rfl) (by decide) ?_
      refine lv_istore_n (lv' := [(2, .int 0), (0, .ref h0), (1, .ref (sa wi))]) hx hb (dk_at dkX12_isWord 15 rfl) rfl hl (by decide) rfl (fun ls hl => ?_)
      refine lv_iconst (v := 0) hx hb (dk_at dkX12_isWord 16 rfl) (by decide) ?_
      refine lv_istore_n (lv' := [(3, .int 0), (2, .int 0), (0, .ref h0), (1, .ref (sa wi))]) hx hb (dk_at dkX12_isWord 17 rfl) rfl hl (by decide) rfl (fun ls hl => ?_)
      refine (lp_sX12_isWordP h0 mi mr km fm_tape fm_trust fm_letter fm_reportPlace fm_reportKind fm_struck fm_reportMonth fm_reportDay fm_reportKnown fm_deedMonth fm_deedDay fm_deedLong fm_deedKind fm_kept fm_must fm_least fm_pin fm_ways fm_verdict fm_row fm_official fm_aside fm_worth fm_out sa sb zf wi gmi_0 gmi_1 gmi_2 gmi_4 gmi_7 gmi_10 gmi_17 gmi_23 gmi_24 gmi_26 gmi_29 gmi_30 gmi_32 gmi_33 gmi_37 gmi_41 gmi_50 gmi_51 gmi_56 hwi hpq0 hpq1 hpq2 hx hb hml hown hts hK hT (Nat.le_of_ble_eq_true rfl) (Nat.le_of_ble_eq_true rfl) (Nat.zero_le _) (Nat.zero_le _) (fun v H locs ls gv hpx hF hP hS hl => ?_) 1000000000) 0 0 _ _ _ (gi_w (gi_c 0 0 (by decide)) (by decide)) (gi_w (gi_c 0 0 (by decide)) (by decide)) (show ((0 : Int) = 1 → wdP fm_tape (mi 30) (mi 29) (mi 31) (stL wi) ((0 : Int) : Int).toNat) from by intro h9; exact absurd h9 (by decide)) (show ((0 : Int) = 0 → (wdB fm_tape (mi 30) (mi 29) (mi 31) (stL wi)).toInt = 0) from by intro h9; exact wd_not (fun h8 => absurd h8.2.1 (by have qgx_256 := gx_256.1; have rgx_256 := gx_256.2; have igx_256 : x_256.toInt = (mi 29).toInt - (mi 30).toInt := (by have h9 := gi_subI ex_256 (by have h1 := gmi_29.1; have h2 := gmi_30.1; have h3 := gmi_29.2; have h4 := gmi_30.2; omega) (by have h1 := gmi_29.1; have h2 := gmi_30.1; have h3 := gmi_29.2; have h4 := gmi_30.2; omega); exact h9); have qgmi_30 := gmi_30.1; have rgmi_30 := gmi_30.2; have qgmi_29 := gmi_29.1; have rgmi_29 := gmi_29.2; have qgr_257 := gr_257.1; have rgr_257 := gr_257.2; have qgmi_31 := g_255.1; have rgmi_31 := g_255.2; have qgmi_26 := gmi_26.1; have rgmi_26 := gmi_26.2; omega))) (show ((0 : Int32).toInt = 0 ∨ (mi 29).toInt - (mi 30).toInt = ((stL wi).length : Int)) from by have k0 : (0 : Int32).toInt = 0 := (by decide); have qgx_256 := gx_256.1; have rgx_256 := gx_256.2; have igx_256 : x_256.toInt = (mi 29).toInt - (mi 30).toInt := (by have h9 := gi_subI ex_256 (by have h1 := gmi_29.1; have h2 := gmi_30.1; have h3 := gmi_29.2; have h4 := gmi_30.2; omega) (by have h1 := gmi_29.1; have h2 := gmi_30.1; have h3 := gmi_29.2; have h4 := gmi_30.2; omega); exact h9); have qgmi_30 := gmi_30.1; have rgmi_30 := gmi_30.2; have qgmi_29 := gmi_29.1; have rgmi_29 := gmi_29.2; have qgr_257 := gr_257.1; have rgr_257 := gr_257.2; have qgmi_31 := g_255.1; have rgmi_31 := g_255.2; have qgmi_26 := gmi_26.1; have rgmi_26 := gmi_26.2; omega) hF (by have k0 : (0 : Int32).toInt = 0 := (by decide); omega) hP hS (lv_sub hl [2, 3, 1, 0] rfl)
      · skip
        exact W.zret (v := v) hx hb hr (gz_nb gv) (fun t ht hW => ⟨⟨v, (), rfl, ⟨⟨gv, hpx⟩, hF.trans hR9.symm⟩, trivial⟩, hS.F ht⟩) hS.2.2 (dk_at dkX12_isWord 42 rfl)
    · have hF := gf_pos (by rw [ewr_257, ex_256] at c_258; exact c_258) hF
      have hc_260 : x_256.toInt = r_257.toInt := by have h9 := congrArg Int32.toInt c_258; exact h9
      have g_261 : gi x_256 0 7 := gi_eq c_258 gr_257
      refine lv_iconst (v := 1) hx hb (dk_at dkX12_isWord 12 rfl) (by decide) ?_
      refine lv_goto (tgt := 29) hx hb (dk_at dkX12_isWord 13 rfl) (by decide) ?_
      refine lv_istore_n (lv' := [(2, .int 1), (0, .ref h0), (1, .ref (sa wi))]) hx hb (dk_at dkX12_isWord 15 rfl) rfl hl (by decide) rfl (fun ls hl => ?_)
      refine lv_iconst (v := 0) hx hb (dk_at dkX12_isWord 16 rfl) (by decide) ?_
      refine lv_istore_n (lv' := [(3, .int 0), (2, .int 1), (0, .ref h0), (1, .ref (sa wi))]) hx hb (dk_at dkX12_isWord 17 rfl) rfl hl (by decide) rfl (fun ls hl => ?_)
      refine (lp_sX12_isWordP h0 mi mr km fm_tape fm_trust fm_letter fm_reportPlace fm_reportKind fm_struck fm_reportMonth fm_reportDay fm_reportKnown fm_deedMonth fm_deedDay fm_deedLong fm_deedKind fm_kept fm_must fm_least fm_pin fm_ways fm_verdict fm_row fm_official fm_aside fm_worth fm_out sa sb zf wi gmi_0 gmi_1 gmi_2 gmi_4 gmi_7 gmi_10 gmi_17 gmi_23 gmi_24 gmi_26 gmi_29 gmi_30 gmi_32 gmi_33 gmi_37 gmi_41 gmi_50 gmi_51 gmi_56 hwi hpq0 hpq1 hpq2 hx hb hml hown hts hK hT (Nat.le_of_ble_eq_true rfl) (Nat.le_of_ble_eq_true rfl) (Nat.zero_le _) (Nat.zero_le _) (fun v H locs ls gv hpx hF hP hS hl => ?_) 1000000000) 1 0 _ _ _ (gi_w (gi_c 1 1 (by decide)) (by decide)) (gi_w (gi_c 0 0 (by decide)) (by decide)) (show ((1 : Int) = 1 → wdP fm_tape (mi 30) (mi 29) (mi 31) (stL wi) ((0 : Int) : Int).toNat) from by intro h9; exact wd_0 (by have qgx_256 := g_261.1; have rgx_256 := g_261.2; have igx_256 : x_256.toInt = (mi 29).toInt - (mi 30).toInt := (by have h9 := gi_subI ex_256 (by have h1 := gmi_29.1; have h2 := gmi_30.1; have h3 := gmi_29.2; have h4 := gmi_30.2; omega) (by have h1 := gmi_29.1; have h2 := gmi_30.1; have h3 := gmi_29.2; have h4 := gmi_30.2; omega); exact h9); have qgmi_30 := gmi_30.1; have rgmi_30 := gmi_30.2; have qgmi_29 := gmi_29.1; have rgmi_29 := gmi_29.2; have qgr_257 := gr_257.1; have rgr_257 := gr_257.2; have qgmi_31 := g_255.1; have rgmi_31 := g_255.2; have qgmi_26 := gmi_26.1; have rgmi_26 := gmi_26.2; omega) (by have qgx_256 := g_261.1; have rgx_256 := g_261.2; have igx_256 : x_256.toInt = (mi 29).toInt - (mi 30).toInt := (by have h9 := gi_subI ex_256 (by have h1 := gmi_29.1; have h2 := gmi_30.1; have h3 := gmi_29.2; have h4 := gmi_30.2; omega) (by have h1 := gmi_29.1; have h2 := gmi_30.1; have h3 := gmi_29.2; have h4 := gmi_30.2; omega); exact h9); have qgmi_30 := gmi_30.1; have rgmi_30 := gmi_30.2; have qgmi_29 := gmi_29.1; have rgmi_29 := gmi_29.2; have qgr_257 := gr_257.1; have rgr_257 := gr_257.2; have qgmi_31 := g_255.1; have rgmi_31 := g_255.2; have qgmi_26 := gmi_26.1; have rgmi_26 := gmi_26.2; omega)) (show ((1 : Int) = 0 → (wdB fm_tape (mi 30) (mi 29) (mi 31) (stL wi)).toInt = 0) from by intro h9; exact absurd h9 (by decide)) (show ((1 : Int32).toInt = 0 ∨ (mi 29).toInt - (mi 30).toInt = ((stL wi).length : Int)) from by have k1 : (1 : Int32).toInt = 1 := (by decide); have qgx_256 := g_261.1; have rgx_256 := g_261.2; have igx_256 : x_256.toInt = (mi 29).toInt - (mi 30).toInt := (by have h9 := gi_subI ex_256 (by have h1 := gmi_29.1; have h2 := gmi_30.1; have h3 := gmi_29.2; have h4 := gmi_30.2; omega) (by have h1 := gmi_29.1; have h2 := gmi_30.1; have h3 := gmi_29.2; have h4 := gmi_30.2; omega); exact h9); have qgmi_30 := gmi_30.1; have rgmi_30 := gmi_30.2; have qgmi_29 := gmi_29.1; have rgmi_29 := gmi_29.2; have qgr_257 := gr_257.1; have rgr_257 := gr_257.2; have qgmi_31 := g_255.1; have rgmi_31 := g_255.2; have qgmi_26 := gmi_26.1; have rgmi_26 := gmi_26.2; omega) hF (by have k0 : (0 : Int32).toInt = 0 := (by decide); omega) hP hS (lv_sub hl [2, 3, 1, 0] rfl)
      · skip
        exact W.zret (v := v) hx hb hr (gz_nb gv) (fun t ht hW => ⟨⟨v, (), rfl, ⟨⟨gv, hpx⟩, hF.trans hR9.symm⟩, trivial⟩, hS.F ht⟩) hS.2.2 (dk_at dkX12_isWord 42 rfl)
noncomputable def lsX12_word : List (Nat × Instr × Nat) := [(0, .aload_n 0, 1), (1, .aload_n 0, 1), (2, .getfield 174, 3), (5, .ifCond .ne 11, 3), (8, .aload_n 0, 1), (9, .aload_n 1, 1), (10, .invokevirtual 201, 3), (13, .ifCond .eq 7, 3), (16, .iconst 1, 1), (17, .goto 4, 3), (20, .iconst 0, 1), (21, .invokevirtual 205, 3), (24, .return_, 1)]
theorem dkX12_word : dkAll cX12_word lsX12_word = true := by decide +kernel
noncomputable def bfX12_word_21 (mi : Nat → Int32) (fm_tape : Nat → Int32) (wi : Nat) (s0 : Int32) (w0_27 : Int32) (w0_28 : Int32) (w0_29 : Int32) (w0_30 : Int32) (w0_31 : Int32) (w0_32 : Int32) (w0_33 : Int32) : Int32 × Int32 × Int32 × Int32 × Int32 × Int32 × Int32 := cal (fun o2 => (o2.1, o2.2.1, o2.2.2.1, o2.2.2.2.1, o2.2.2.2.2.1, o2.2.2.2.2.2.1, o2.2.2.2.2.2.2)) (fX12_passes (upd (upd (upd (upd (upd (upd (upd mi 27 w0_27) 28 w0_28) 29 w0_29) 30 w0_30) 31 w0_31) 32 w0_32) 33 w0_33) fm_tape s0)
noncomputable def bfX12_word_16 (mi : Nat → Int32) (fm_tape : Nat → Int32) (wi : Nat) (w0_27 : Int32) (w0_28 : Int32) (w0_29 : Int32) (w0_30 : Int32) (w0_31 : Int32) (w0_32 : Int32) (w0_33 : Int32) : Int32 × Int32 × Int32 × Int32 × Int32 × Int32 × Int32 := bfX12_word_21 mi fm_tape wi (1 : Int32) w0_27 w0_28 w0_29 w0_30 w0_31 w0_32 w0_33
noncomputable def fX12_word (mi : Nat → Int32) (fm_tape : Nat → Int32) (wi : Nat) : Int32 × Int32 × Int32 × Int32 × Int32 × Int32 × Int32 := if (mi 33) = (0 : Int32) then (cal (fun o1 => if o1 = (0 : Int32) then (bfX12_word_21 mi fm_tape wi (0 : Int32) (mi 27) (mi 28) (mi 29) (mi 30) (mi 31) (mi 32) (mi 33)) else (bfX12_word_16 mi fm_tape wi (mi 27) (mi 28) (mi 29) (mi 30) (mi 31) (mi 32) (mi 33))) (fX12_isWord mi fm_tape wi)) else (bfX12_word_16 mi fm_tape wi (mi 27) (mi 28) (mi 29) (mi 30) (mi 31) (mi 32) (mi 33))
abbrev pb_sX12_wordP (dC : Nat → ClassId) (dI : Nat → Nat → Nat) (A9 : Nat → Prop) (h0 : Nat) (mi : Nat → Int32) (mr : Nat → Nat) (km : Nat → ClassId) (fm_tape : Nat → Int32) (fm_trust : Nat → Int32) (fm_letter : Nat → Int32) (fm_reportPlace : Nat → Int32) (fm_reportKind : Nat → Int32) (fm_struck : Nat → Int32) (fm_reportMonth : Nat → Int32) (fm_reportDay : Nat → Int32) (fm_reportKnown : Nat → Int32) (fm_deedMonth : Nat → Int32) (fm_deedDay : Nat → Int32) (fm_deedLong : Nat → Int32) (fm_deedKind : Nat → Int32) (fm_kept : Nat → Int32) (fm_must : Nat → Int32) (fm_least : Nat → Int32) (fm_pin : Nat → Int32) (fm_ways : Nat → Int32) (fm_verdict : Nat → Int32) (fm_row : Nat → Int32) (fm_official : Nat → Int32) (fm_aside : Nat → Int32) (fm_worth : Nat → Int32) (fm_out : Nat → Int32) (sa : Nat → Nat) (sb : Nat → Nat) (zf : Value) (wi : Nat) (w0_27 : Int32) (w0_28 : Int32) (w0_29 : Int32) (w0_30 : Int32) (w0_31 : Int32) (w0_32 : Int32) (w0_33 : Int32) (t : State) : Prop := gi w0_29 0 1600 ∧ gi w0_30 0 1600 ∧ gi w0_32 0 100000 ∧ gi w0_33 0 1 ∧ (mi 30).toInt ≤ w0_30.toInt ∧ w0_30.toInt ≤ w0_29.toInt ∧ w0_29.toInt ≤ (mi 26).toInt ∧ (w0_31.toInt = 0 ∨ w0_30.toInt < w0_29.toInt) ∧ (mi 33).toInt ≤ w0_33.toInt ∧ (w0_27, w0_28, w0_29, w0_30, w0_31, w0_32, w0_33) = fX12_word mi fm_tape wi ∧ va_P (dC, dI) vwCl (MWn h0 mr km (mi 0) (mi 1) (mi 2) (mi 3) (mi 4) (mi 5) (mi 6) (mi 7) (mi 10) (mi 17) (mi 23) (mi 24) (mi 26) w0_27 w0_28 w0_29 w0_30 w0_31 w0_32 w0_33 (mi 37) (mi 41) (mi 42) (mi 43) (mi 44) (mi 45) (mi 47) (mi 48) (mi 49) (mi 50) (mi 51) (mi 54) (mi 56) fm_trust fm_letter fm_reportPlace fm_reportKind fm_struck fm_reportMonth fm_reportDay fm_reportKnown fm_deedMonth fm_deedDay fm_deedLong fm_deedKind fm_kept fm_tape fm_must fm_least fm_pin fm_ways fm_verdict fm_row fm_official fm_aside fm_worth fm_out) t.heap ∧ va_D A9 (MWn h0 mr km (mi 0) (mi 1) (mi 2) (mi 3) (mi 4) (mi 5) (mi 6) (mi 7) (mi 10) (mi 17) (mi 23) (mi 24) (mi 26) w0_27 w0_28 w0_29 w0_30 w0_31 w0_32 w0_33 (mi 37) (mi 41) (mi 42) (mi 43) (mi 44) (mi 45) (mi 47) (mi 48) (mi 49) (mi 50) (mi 51) (mi 54) (mi 56) fm_trust fm_letter fm_reportPlace fm_reportKind fm_struck fm_reportMonth fm_reportDay fm_reportKnown fm_deedMonth fm_deedDay fm_deedLong fm_deedKind fm_kept fm_tape fm_must fm_least fm_pin fm_ways fm_verdict fm_row fm_official fm_aside fm_worth fm_out)
set_option maxHeartbeats 4000000 in
set_option maxRecDepth 100000 in
theorem sX12_wordP (l : Launch) (dC : Nat → ClassId) (dI : Nat → Nat → Nat) (sz : Nat) (h0 : Nat) (mi : Nat → Int32) (mr : Nat → Nat) (km : Nat → ClassId) (fm_tape : Nat → Int32) (fm_trust : Nat → Int32) (fm_letter : Nat → Int32) (fm_reportPlace : Nat → Int32) (fm_reportKind : Nat → Int32) (fm_struck : Nat → Int32) (fm_reportMonth : Nat → Int32) (fm_reportDay : Nat → Int32) (fm_reportKnown : Nat → Int32) (fm_deedMonth : Nat → Int32) (fm_deedDay : Nat → Int32) (fm_deedLong : Nat → Int32) (fm_deedKind : Nat → Int32) (fm_kept : Nat → Int32) (fm_must : Nat → Int32) (fm_least : Nat → Int32) (fm_pin : Nat → Int32) (fm_ways : Nat → Int32) (fm_verdict : Nat → Int32) (fm_row : Nat → Int32) (fm_official : Nat → Int32) (fm_aside : Nat → Int32) (fm_worth : Nat → Int32) (fm_out : Nat → Int32) (sa : Nat → Nat) (sb : Nat → Nat) (zf : Value) (wi : Nat) (gmi_0 : gi (mi 0) 0 100000) (gmi_1 : gi (mi 1) 0 100000) (gmi_2 : gi (mi 2) 0 100000) (gmi_4 : gi (mi 4) 0 1) (gmi_7 : gi (mi 7) 0 6) (gmi_10 : gi (mi 10) 0 24) (gmi_17 : gi (mi 17) 0 8) (gmi_23 : gi (mi 23) 0 300) (gmi_24 : gi (mi 24) 0 1) (gmi_26 : gi (mi 26) 0 1600) (gmi_29 : gi (mi 29) 0 1600) (gmi_30 : gi (mi 30) 0 1600) (gmi_32 : gi (mi 32) 0 100000) (gmi_33 : gi (mi 33) 0 1) (gmi_37 : gi (mi 37) 0 1) (gmi_41 : gi (mi 41) 0 24) (gmi_50 : gi (mi 50) 0 1) (gmi_51 : gi (mi 51) 0 1) (gmi_56 : gi (mi 56) 0 80) (hwi : wi < 18) (hpq0 : (mi 30).toInt ≤ (mi 29).toInt) (hpq1 : (mi 29).toInt ≤ (mi 26).toInt) (hpq2 : ((mi 31).toInt = 0 ∨ (mi 30).toInt < (mi 29).toInt)) : Met l yX12_word (.code yX12_word cX12_word 2 none :: wsGB) ({ frames := 5, cells := 0, slots := 0, locals := 108 }) (va_Pc [.ref h0, .ref (sa wi)] (fun U => U.heap.size = sz ∧ va_P (dC, dI) vwCl (MWn h0 mr km (mi 0) (mi 1) (mi 2) (mi 3) (mi 4) (mi 5) (mi 6) (mi 7) (mi 10) (mi 17) (mi 23) (mi 24) (mi 26) (mi 27) (mi 28) (mi 29) (mi 30) (mi 31) (mi 32) (mi 33) (mi 37) (mi 41) (mi 42) (mi 43) (mi 44) (mi 45) (mi 47) (mi 48) (mi 49) (mi 50) (mi 51) (mi 54) (mi 56) fm_trust fm_letter fm_reportPlace fm_reportKind fm_struck fm_reportMonth fm_reportDay fm_reportKnown fm_deedMonth fm_deedDay fm_deedLong fm_deedKind fm_kept fm_tape fm_must fm_least fm_pin fm_ways fm_verdict fm_row fm_official fm_aside fm_worth fm_out) U.heap ∧ va_K (dC, dI) vwCl (MT km) U ∧ va_D (fun _ => True) (MWn h0 mr km (mi 0) (mi 1) (mi 2) (mi 3) (mi 4) (mi 5) (mi 6) (mi 7) (mi 10) (mi 17) (mi 23) (mi 24) (mi 26) (mi 27) (mi 28) (mi 29) (mi 30) (mi 31) (mi 32) (mi 33) (mi 37) (mi 41) (mi 42) (mi 43) (mi 44) (mi 45) (mi 47) (mi 48) (mi 49) (mi 50) (mi 51) (mi 54) (mi 56) fm_trust fm_letter fm_reportPlace fm_reportKind fm_struck fm_reportMonth fm_reportDay fm_reportKnown fm_deedMonth fm_deedDay fm_deedLong fm_deedKind fm_kept fm_tape fm_must fm_least fm_pin fm_ways fm_verdict fm_row fm_official fm_aside fm_worth fm_out) ∧ gz_ST RX12 stIB sa sb zf (va_A (MWn h0 mr km (mi 0) (mi 1) (mi 2) (mi 3) (mi 4) (mi 5) (mi 6) (mi 7) (mi 10) (mi 17) (mi 23) (mi 24) (mi 26) (mi 27) (mi 28) (mi 29) (mi 30) (mi 31) (mi 32) (mi 33) (mi 37) (mi 41) (mi 42) (mi 43) (mi 44) (mi 45) (mi 47) (mi 48) (mi 49) (mi 50) (mi 51) (mi 54) (mi 56) fm_trust fm_letter fm_reportPlace fm_reportKind fm_struck fm_reportMonth fm_reportDay fm_reportKnown fm_deedMonth fm_deedDay fm_deedLong fm_deedKind fm_kept fm_tape fm_must fm_least fm_pin fm_ways fm_verdict fm_row fm_official fm_aside fm_worth fm_out) sz) U U.heap)) (va_Qv (fun (u : Unit) => True) (fun _ t => ∃ (w0_27 : Int32) (w0_28 : Int32) (w0_29 : Int32) (w0_30 : Int32) (w0_31 : Int32) (w0_32 : Int32) (w0_33 : Int32), pb_sX12_wordP dC dI (va_A (MWn h0 mr km (mi 0) (mi 1) (mi 2) (mi 3) (mi 4) (mi 5) (mi 6) (mi 7) (mi 10) (mi 17) (mi 23) (mi 24) (mi 26) (mi 27) (mi 28) (mi 29) (mi 30) (mi 31) (mi 32) (mi 33) (mi 37) (mi 41) (mi 42) (mi 43) (mi 44) (mi 45) (mi 47) (mi 48) (mi 49) (mi 50) (mi 51) (mi 54) (mi 56) fm_trust fm_letter fm_reportPlace fm_reportKind fm_struck fm_reportMonth fm_reportDay fm_reportKnown fm_deedMonth fm_deedDay fm_deedLong fm_deedKind fm_kept fm_tape fm_must fm_least fm_pin fm_ways fm_verdict fm_row fm_official fm_aside fm_worth fm_out) sz) h0 mi mr km fm_tape fm_trust fm_letter fm_reportPlace fm_reportKind fm_struck fm_reportMonth fm_reportDay fm_reportKnown fm_deedMonth fm_deedDay fm_deedLong fm_deedKind fm_kept fm_must fm_least fm_pin fm_ways fm_verdict fm_row fm_official fm_aside fm_worth fm_out sa sb zf wi w0_27 w0_28 w0_29 w0_30 w0_31 w0_32 w0_33 t) (va_A (MWn h0 mr km (mi 0) (mi 1) (mi 2) (mi 3) (mi 4) (mi 5) (mi 6) (mi 7) (mi 10) (mi 17) (mi 23) (mi 24) (mi 26) (mi 27) (mi 28) (mi 29) (mi 30) (mi 31) (mi 32) (mi 33) (mi 37) (mi 41) (mi 42) (mi 43) (mi 44) (mi 45) (mi 47) (mi 48) (mi 49) (mi 50) (mi 51) (mi 54) (mi 56) fm_trust fm_letter fm_reportPlace fm_reportKind fm_struck fm_reportMonth fm_reportDay fm_reportKnown fm_deedMonth fm_deedDay fm_deedLong fm_deedKind fm_kept fm_tape fm_must fm_least fm_pin fm_ways fm_verdict fm_row fm_official fm_aside fm_worth fm_out) sz)) 0 0 (va_A (MWn h0 mr km (mi 0) (mi 1) (mi 2) (mi 3) (mi 4) (mi 5) (mi 6) (mi 7) (mi 10) (mi 17) (mi 23) (mi 24) (mi 26) (mi 27) (mi 28) (mi 29) (mi 30) (mi 31) (mi 32) (mi 33) (mi 37) (mi 41) (mi 42) (mi 43) (mi 44) (mi 45) (mi 47) (mi 48) (mi 49) (mi 50) (mi 51) (mi 54) (mi 56) fm_trust fm_letter fm_reportPlace fm_reportKind fm_struck fm_reportMonth fm_reportDay fm_reportKnown fm_deedMonth fm_deedDay fm_deedLong fm_deedKind fm_kept fm_tape fm_must fm_least fm_pin fm_ways fm_verdict fm_row fm_official fm_aside fm_worth fm_out) sz) := by
  refine Met.ofW (cc := cX12_word) (maxL := 2) (ret := none) (by decide) rfl ?_
  intro p e s m args below meth c s₁ B hml hv
  obtain ⟨rfl, hsz, hP, hK, hD0, hT⟩ := hv
  have hx := B.exec
  have hb := B.bytes
  have hr := B.returns
  have hts := atoms_spec (ws := (.code yX12_word cX12_word 2 none :: wsGB)) B.pre
  have hown : s.vm.findClass RX12 = some m.cls := findClass_of_methodNamed B.named
  have hlocks := B.notSynchronized
  subst hsz
  have hD := hD0.self (sz := s.heap.size)
  generalize hAe : va_A (MWn h0 mr km (mi 0) (mi 1) (mi 2) (mi 3) (mi 4) (mi 5) (mi 6) (mi 7) (mi 10) (mi 17) (mi 23) (mi 24) (mi 26) (mi 27) (mi 28) (mi 29) (mi 30) (mi 31) (mi 32) (mi 33) (mi 37) (mi 41) (mi 42) (mi 43) (mi 44) (mi 45) (mi 47) (mi 48) (mi 49) (mi 50) (mi 51) (mi 54) (mi 56) fm_trust fm_letter fm_reportPlace fm_reportKind fm_struck fm_reportMonth fm_reportDay fm_reportKnown fm_deedMonth fm_deedDay fm_deedLong fm_deedKind fm_kept fm_tape fm_must fm_least fm_pin fm_ways fm_verdict fm_row fm_official fm_aside fm_worth fm_out) s.heap.size = A at hD hT ⊢
  have hA : ∀ q : Nat, s.heap.size ≤ q → A q := fun q h => by rw [← hAe]; exact Or.inr h
  have hS : va_S A s.heap s.heap [] := va_S.rf
  have hl := lv_entry ([.ref h0, .ref (sa wi)]) (n := 2) (Nat.le_of_ble_eq_true rfl)
  rw [lg_entry_eq]
  generalize (lg_sl ([.ref h0, .ref (sa wi)]) ++ List.replicate (2 - (lg_sl ([.ref h0, .ref (sa wi)])).length) Slot.unset).toArray = ls at hl ⊢
  have hl : lv_has ls 2 [(0, .ref h0), (1, .ref (sa wi))] := hl
  obtain ⟨RES, hF⟩ : ∃ R9, fX12_word mi fm_tape wi = R9 := ⟨_, rfl⟩
  have hR9 := hF
  refine lv_aload_n hx hb (dk_at dkX12_word 0 rfl) rfl (lv_at hl 0 rfl) ?_
  refine lv_aload_n hx hb (dk_at dkX12_word 1 rfl) rfl (lv_at hl 0 rfl) ?_
  refine va_get (D := (dC, dI)) (ci := 12) (v := .int (mi 33)) (C := RX12) (T := TX12) (N := 57) hx hb hts (fun w h => List.mem_cons_of_mem _ (jnGB_X12 w h)) hown hK hP 0 rfl rfl 33 (by decide) (hts _ (List.mem_cons_of_mem _ mGB_114)) (fun _ h9 => h9) rfl (dk_at dkX12_word 2 rfl) ?_
  refine lv_if_ne (tgt := 16) hx hb (dk_at dkX12_word 3 rfl) (by decide) (fun c_77 => ?_) (fun c_77 => ?_)
  · have hF := gf_neg c_77 hF
    have hc_78 : (mi 33).toInt ≠ 0 := fun h9 => c_77 (Int32.toInt_inj.mp (by rw [show (0 : Int32).toInt = 0 from by decide]; exact h9))
    have g_79 : gi (mi 33) 1 1 := gi_ne_lo c_77 gmi_33 (gi_c 0 0 (by decide)) (by decide)
    refine lv_iconst (v := 1) hx hb (dk_at dkX12_word 8 rfl) (by decide) ?_
    refine lv_goto (tgt := 21) hx hb (dk_at dkX12_word 9 rfl) (by decide) ?_
    have hFc := gz_fullF hD hS hA
    refine va_callv (va_runV (As := [.int 1]) (rest := []) ⟨hx, hb, hml, hown, hts⟩ (sX12_passesP l dC dI s.heap.size h0 mi mr km fm_tape fm_trust fm_letter fm_reportPlace fm_reportKind fm_struck fm_reportMonth fm_reportDay fm_reportKnown fm_deedMonth fm_deedDay fm_deedLong fm_deedKind fm_kept fm_must fm_least fm_pin fm_ways fm_verdict fm_row fm_official fm_aside fm_worth fm_out 1 gmi_0 gmi_1 gmi_2 gmi_4 gmi_7 gmi_10 gmi_17 gmi_23 gmi_24 gmi_26 gmi_29 gmi_30 gmi_32 (gi_w g_79 (by decide)) gmi_37 gmi_41 gmi_50 gmi_51 gmi_56 (gi_w (gi_c 1 1 (by decide)) (by decide)) hpq0 hpq1 (show ((mi 31).toInt = 0 ∨ (mi 30).toInt < (mi 29).toInt) from by have qgmi_30 := gmi_30.1; have rgmi_30 := gmi_30.2; have qgmi_29 := gmi_29.1; have rgmi_29 := gmi_29.2; have qgmi_26 := gmi_26.1; have rgmi_26 := gmi_26.2; omega)) (cwV 1 hts (gz_gV mGB_161 mGB_162 mGB_163 mGB_1 mGB_164 goodGB) rfl rfl rfl (by decide +kernel) ⟨Nat.le_of_ble_eq_true rfl, Nat.le_of_ble_eq_true rfl⟩) ⟨bl_W, mw_recv hK hP, fun U hU hW => ⟨rfl, by rw [hU], by rw [hU]; exact hP, va_K.moved hW.alike hK, hD.weaken (fun _ _ _ _ => trivial)⟩⟩ rfl rfl hl.1 rfl (lv_room (Nat.le_of_ble_eq_true rfl)) (dk_at dkX12_word 11 rfl) ⟨Nat.zero_le _, Nat.zero_le _⟩) hS (fun q _ h => hFc q h) hFc (fun u t H1 locs ht hvm hw hB hz1 hk1 hS => ?_)
    clear hz1
    obtain ⟨y_81, y_82, y_83, y_84, y_85, y_86, y_87, hB⟩ := hB
    obtain ⟨gy_83, gy_84, gy_86, gy_87, hpr0_r_80, hpr1_r_80, hpr2_r_80, hpr3_r_80, hpr4_r_80, hpr5_r_80, hpr6_r_80, hE, hP1, hD1⟩ := hB
    rw [ht] at hP1
    have hpr0_r_80 : Hid ((mi 30).toInt ≤ y_84.toInt) := hpr0_r_80
    have hpr1_r_80 : Hid (y_84.toInt ≤ y_83.toInt) := hpr1_r_80
    have hpr2_r_80 : Hid (y_83.toInt ≤ (mi 26).toInt) := hpr2_r_80
    have hpr3_r_80 : Hid ((y_85.toInt = 0 ∨ y_84.toInt < y_83.toInt)) := hpr3_r_80
    have hpr4_r_80 : Hid ((mi 33).toInt ≤ y_87.toInt) := hpr4_r_80
    have g_88 : gi y_87 1 1 := gi_relL (Hid.un hpr4_r_80) g_79 gy_87
    have hpr5_r_80 : Hid (((1 : Int) = 1 ∨ y_87.toInt = 1)) := by have h9 : ((1 : Int32).toInt = 1 ∨ y_87.toInt = 1) := hpr5_r_80; rw [show (1 : Int32).toInt = 1 from by decide] at h9; exact h9
    have hpr6_r_80 : Hid ((y_87.toInt = 1 ∨ (mi 29).toInt ≤ y_84.toInt)) := hpr6_r_80
    have hD : va_D A (MWn h0 mr km (mi 0) (mi 1) (mi 2) (mi 3) (mi 4) (mi 5) (mi 6) (mi 7) (mi 10) (mi 17) (mi 23) (mi 24) (mi 26) y_81 y_82 y_83 y_84 y_85 y_86 y_87 (mi 37) (mi 41) (mi 42) (mi 43) (mi 44) (mi 45) (mi 47) (mi 48) (mi 49) (mi 50) (mi 51) (mi 54) (mi 56) fm_trust fm_letter fm_reportPlace fm_reportKind fm_struck fm_reportMonth fm_reportDay fm_reportKnown fm_deedMonth fm_deedDay fm_deedLong fm_deedKind fm_kept fm_tape fm_must fm_least fm_pin fm_ways fm_verdict fm_row fm_official fm_aside fm_worth fm_out) := gz_fullD hFc hD1
    have hP : va_P (dC, dI) vwCl (MWn h0 mr km (mi 0) (mi 1) (mi 2) (mi 3) (mi 4) (mi 5) (mi 6) (mi 7) (mi 10) (mi 17) (mi 23) (mi 24) (mi 26) y_81 y_82 y_83 y_84 y_85 y_86 y_87 (mi 37) (mi 41) (mi 42) (mi 43) (mi 44) (mi 45) (mi 47) (mi 48) (mi 49) (mi 50) (mi 51) (mi 54) (mi 56) fm_trust fm_letter fm_reportPlace fm_reportKind fm_struck fm_reportMonth fm_reportDay fm_reportKnown fm_deedMonth fm_deedDay fm_deedLong fm_deedKind fm_kept fm_tape fm_must fm_least fm_pin fm_ways fm_verdict fm_row fm_official fm_aside fm_worth fm_out) H1 := hP1
    have hF := gf_callm (a := (y_81, y_82, y_83, y_84, y_85, y_86, y_87)) hE hF (by first | with_reducible rfl | simp only [upd_same, upd_app, ↓reduceIte, Nat.reduceEqDiff])
    generalize H1 = H at hP hS ⊢
    exact W.vret hx hb hr (fun t ht hW => ⟨⟨(), rfl, trivial, y_81, y_82, y_83, y_84, y_85, y_86, y_87, gy_83, gy_84, gy_86, (gi_w g_88 (by decide)), (Hid.un hpr0_r_80), (Hid.un hpr1_r_80), (Hid.un hpr2_r_80), (Hid.un hpr3_r_80), (Hid.un hpr4_r_80), hF.trans hR9.symm, by rw [ht]; exact hP, hD⟩, hS.F ht⟩) hS.2.2 (dk_at dkX12_word 12 rfl)
  · have hF := gf_pos c_77 hF
    have hc_89 : (mi 33).toInt = 0 := by have h9 := congrArg Int32.toInt c_77; rw [show (0 : Int32).toInt = 0 from by decide] at h9; exact h9
    have g_90 : gi (mi 33) 0 0 := gi_eq c_77 (gi_c 0 0 (by decide))
    refine lv_aload_n hx hb (dk_at dkX12_word 4 rfl) rfl (lv_at hl 0 rfl) ?_
    refine lv_aload_n hx hb (dk_at dkX12_word 5 rfl) rfl (lv_at hl 1 rfl) ?_
    refine va_calli (va_runV (As := [.ref (sa wi)]) (rest := [.ref h0]) ⟨hx, hb, hml, hown, hts⟩ (sX12_isWordP l dC dI h0 mi mr km fm_tape fm_trust fm_letter fm_reportPlace fm_reportKind fm_struck fm_reportMonth fm_reportDay fm_reportKnown fm_deedMonth fm_deedDay fm_deedLong fm_deedKind fm_kept fm_must fm_least fm_pin fm_ways fm_verdict fm_row fm_official fm_aside fm_worth fm_out sa sb zf wi gmi_0 gmi_1 gmi_2 gmi_4 gmi_7 gmi_10 gmi_17 gmi_23 gmi_24 gmi_26 gmi_29 gmi_30 gmi_32 (gi_w g_90 (by decide)) gmi_37 gmi_41 gmi_50 gmi_51 gmi_56 hwi hpq0 hpq1 (show ((mi 31).toInt = 0 ∨ (mi 30).toInt < (mi 29).toInt) from by have qgmi_30 := gmi_30.1; have rgmi_30 := gmi_30.2; have qgmi_29 := gmi_29.1; have rgmi_29 := gmi_29.2; have qgmi_26 := gmi_26.1; have rgmi_26 := gmi_26.2; omega)) (cwV 1 hts (gz_gV mGB_155 mGB_156 mGB_157 mGB_1 mGB_158 goodGB) rfl rfl rfl (by decide +kernel) ⟨Nat.le_of_ble_eq_true rfl, Nat.le_of_ble_eq_true rfl⟩) ⟨bl_I (bl_a bl_P (bl_a bl_K bl_ST)), mw_recv hK hP, fun U hU hW => ⟨rfl, by rw [hU]; exact hP, va_K.moved hW.alike hK, by rw [hU]; exact ((hT.kept hS.2.1).narrow (fun _ h => h.elim)).warm hW⟩⟩ rfl rfl hl.1 rfl (lv_room (Nat.le_of_ble_eq_true rfl)) (dk_at dkX12_word 6 rfl) ⟨Nat.zero_le _, Nat.zero_le _⟩) hS (fun q _ h => h.elim) (fun q h => h.elim) (fun r_91 u t H1 locs ht hvm hw hB hz1 hk1 hS => ?_)
    clear hz1
    obtain ⟨hw, hE⟩ := hw
    have hP := gz_keep hP hk1
    have hF := gf_callm (a := r_91) hE hF (by first | with_reducible rfl | simp only [upd_same, upd_app, ↓reduceIte, Nat.reduceEqDiff])
    generalize H1 = H at hP hS ⊢
    have gr_91 : gi r_91 0 1 := hw.1
    have hqr_91 := hw.2
    have hqr_91 : Hid (r_91.toInt = (wdB fm_tape (mi 30) (mi 29) (mi 31) (stL wi)).toInt) := hqr_91
    clear hw
    refine lv_if_eq (tgt := 20) hx hb (dk_at dkX12_word 7 rfl) (by decide) (fun c_92 => ?_) (fun c_92 => ?_)
    · have hF := gf_pos c_92 hF
      have hc_93 : r_91.toInt = 0 := by have h9 := congrArg Int32.toInt c_92; rw [show (0 : Int32).toInt = 0 from by decide] at h9; exact h9
      have g_94 : gi r_91 0 0 := gi_eq c_92 (gi_c 0 0 (by decide))
      refine lv_iconst (v := 0) hx hb (dk_at dkX12_word 10 rfl) (by decide) ?_
      have hFc := gz_fullF hD hS hA
      refine va_callv (va_runV (As := [.int 0]) (rest := []) ⟨hx, hb, hml, hown, hts⟩ (sX12_passesP l dC dI H.size h0 mi mr km fm_tape fm_trust fm_letter fm_reportPlace fm_reportKind fm_struck fm_reportMonth fm_reportDay fm_reportKnown fm_deedMonth fm_deedDay fm_deedLong fm_deedKind fm_kept fm_must fm_least fm_pin fm_ways fm_verdict fm_row fm_official fm_aside fm_worth fm_out 0 gmi_0 gmi_1 gmi_2 gmi_4 gmi_7 gmi_10 gmi_17 gmi_23 gmi_24 gmi_26 gmi_29 gmi_30 gmi_32 (gi_w g_90 (by decide)) gmi_37 gmi_41 gmi_50 gmi_51 gmi_56 (gi_w (gi_c 0 0 (by decide)) (by decide)) hpq0 hpq1 (show ((mi 31).toInt = 0 ∨ (mi 30).toInt < (mi 29).toInt) from by have qgr_91 := g_94.1; have rgr_91 := g_94.2; have qgmi_30 := gmi_30.1; have rgmi_30 := gmi_30.2; have qgmi_29 := gmi_29.1; have rgmi_29 := gmi_29.2; have qgmi_26 := gmi_26.1; have rgmi_26 := gmi_26.2; have zhqr_91 := Hid.un hqr_91; omega)) (cwV 1 hts (gz_gV mGB_161 mGB_162 mGB_163 mGB_1 mGB_164 goodGB) rfl rfl rfl (by decide +kernel) ⟨Nat.le_of_ble_eq_true rfl, Nat.le_of_ble_eq_true rfl⟩) ⟨bl_W, mw_recv hK hP, fun U hU hW => ⟨rfl, by rw [hU], by rw [hU]; exact hP, va_K.moved hW.alike hK, hD.weaken (fun _ _ _ _ => trivial)⟩⟩ rfl rfl hl.1 rfl (lv_room (Nat.le_of_ble_eq_true rfl)) (dk_at dkX12_word 11 rfl) ⟨Nat.zero_le _, Nat.zero_le _⟩) hS (fun q _ h => hFc q h) hFc (fun u t H1 locs ht hvm hw hB hz1 hk1 hS => ?_)
      clear hz1
      obtain ⟨y_96, y_97, y_98, y_99, y_100, y_101, y_102, hB⟩ := hB
      obtain ⟨gy_98, gy_99, gy_101, gy_102, hpr0_r_95, hpr1_r_95, hpr2_r_95, hpr3_r_95, hpr4_r_95, hpr5_r_95, hpr6_r_95, hE, hP1, hD1⟩ := hB
      rw [ht] at hP1
      have hpr0_r_95 : Hid ((mi 30).toInt ≤ y_99.toInt) := hpr0_r_95
      have hpr1_r_95 : Hid (y_99.toInt ≤ y_98.toInt) := hpr1_r_95
      have hpr2_r_95 : Hid (y_98.toInt ≤ (mi 26).toInt) := hpr2_r_95
      have hpr3_r_95 : Hid ((y_100.toInt = 0 ∨ y_99.toInt < y_98.toInt)) := hpr3_r_95
      have hpr4_r_95 : Hid ((mi 33).toInt ≤ y_102.toInt) := hpr4_r_95
      have hpr5_r_95 : Hid (((0 : Int) = 1 ∨ y_102.toInt = 1)) := by have h9 : ((0 : Int32).toInt = 1 ∨ y_102.toInt = 1) := hpr5_r_95; rw [show (0 : Int32).toInt = 0 from by decide] at h9; exact h9
      have hf_103 : y_102.toInt = 1 := Hid.resL hpr5_r_95 (by omega)
      have g_104 : gi y_102 1 1 := ⟨by omega, by omega⟩
      have hpr6_r_95 : Hid ((y_102.toInt = 1 ∨ (mi 29).toInt ≤ y_99.toInt)) := hpr6_r_95
      have hD : va_D A (MWn h0 mr km (mi 0) (mi 1) (mi 2) (mi 3) (mi 4) (mi 5) (mi 6) (mi 7) (mi 10) (mi 17) (mi 23) (mi 24) (mi 26) y_96 y_97 y_98 y_99 y_100 y_101 y_102 (mi 37) (mi 41) (mi 42) (mi 43) (mi 44) (mi 45) (mi 47) (mi 48) (mi 49) (mi 50) (mi 51) (mi 54) (mi 56) fm_trust fm_letter fm_reportPlace fm_reportKind fm_struck fm_reportMonth fm_reportDay fm_reportKnown fm_deedMonth fm_deedDay fm_deedLong fm_deedKind fm_kept fm_tape fm_must fm_least fm_pin fm_ways fm_verdict fm_row fm_official fm_aside fm_worth fm_out) := gz_fullD hFc hD1
      have hP : va_P (dC, dI) vwCl (MWn h0 mr km (mi 0) (mi 1) (mi 2) (mi 3) (mi 4) (mi 5) (mi 6) (mi 7) (mi 10) (mi 17) (mi 23) (mi 24) (mi 26) y_96 y_97 y_98 y_99 y_100 y_101 y_102 (mi 37) (mi 41) (mi 42) (mi 43) (mi 44) (mi 45) (mi 47) (mi 48) (mi 49) (mi 50) (mi 51) (mi 54) (mi 56) fm_trust fm_letter fm_reportPlace fm_reportKind fm_struck fm_reportMonth fm_reportDay fm_reportKnown fm_deedMonth fm_deedDay fm_deedLong fm_deedKind fm_kept fm_tape fm_must fm_least fm_pin fm_ways fm_verdict fm_row fm_official fm_aside fm_worth fm_out) H1 := hP1
      have hF := gf_callm (a := (y_96, y_97, y_98, y_99, y_100, y_101, y_102)) hE hF (by first | with_reducible rfl | simp only [upd_same, upd_app, ↓reduceIte, Nat.reduceEqDiff])
      generalize H1 = H at hP hS ⊢
      exact W.vret hx hb hr (fun t ht hW => ⟨⟨(), rfl, trivial, y_96, y_97, y_98, y_99, y_100, y_101, y_102, gy_98, gy_99, gy_101, (gi_w g_104 (by decide)), (Hid.un hpr0_r_95), (Hid.un hpr1_r_95), (Hid.un hpr2_r_95), (Hid.un hpr3_r_95), (Hid.un hpr4_r_95), hF.trans hR9.symm, by rw [ht]; exact hP, hD⟩, hS.F ht⟩) hS.2.2 (dk_at dkX12_word 12 rfl)
    · have hF := gf_neg c_92 hF
      have hc_105 : r_91.toInt ≠ 0 := fun h9 => c_92 (Int32.toInt_inj.mp (by rw [show (0 : Int32).toInt = 0 from by decide]; exact h9))
      have g_106 : gi r_91 1 1 := gi_ne_lo c_92 gr_91 (gi_c 0 0 (by decide)) (by decide)
      refine lv_iconst (v := 1) hx hb (dk_at dkX12_word 8 rfl) (by decide) ?_
      refine lv_goto (tgt := 21) hx hb (dk_at dkX12_word 9 rfl) (by decide) ?_
      have hFc := gz_fullF hD hS hA
      refine va_callv (va_runV (As := [.int 1]) (rest := []) ⟨hx, hb, hml, hown, hts⟩ (sX12_passesP l dC dI H.size h0 mi mr km fm_tape fm_trust fm_letter fm_reportPlace fm_reportKind fm_struck fm_reportMonth fm_reportDay fm_reportKnown fm_deedMonth fm_deedDay fm_deedLong fm_deedKind fm_kept fm_must fm_least fm_pin fm_ways fm_verdict fm_row fm_official fm_aside fm_worth fm_out 1 gmi_0 gmi_1 gmi_2 gmi_4 gmi_7 gmi_10 gmi_17 gmi_23 gmi_24 gmi_26 gmi_29 gmi_30 gmi_32 (gi_w g_90 (by decide)) gmi_37 gmi_41 gmi_50 gmi_51 gmi_56 (gi_w (gi_c 1 1 (by decide)) (by decide)) hpq0 hpq1 (show ((mi 31).toInt = 0 ∨ (mi 30).toInt < (mi 29).toInt) from by have qgr_91 := g_106.1; have rgr_91 := g_106.2; have qgmi_30 := gmi_30.1; have rgmi_30 := gmi_30.2; have qgmi_29 := gmi_29.1; have rgmi_29 := gmi_29.2; have qgmi_26 := gmi_26.1; have rgmi_26 := gmi_26.2; have zhqr_91 := Hid.un hqr_91; omega)) (cwV 1 hts (gz_gV mGB_161 mGB_162 mGB_163 mGB_1 mGB_164 goodGB) rfl rfl rfl (by decide +kernel) ⟨Nat.le_of_ble_eq_true rfl, Nat.le_of_ble_eq_true rfl⟩) ⟨bl_W, mw_recv hK hP, fun U hU hW => ⟨rfl, by rw [hU], by rw [hU]; exact hP, va_K.moved hW.alike hK, hD.weaken (fun _ _ _ _ => trivial)⟩⟩ rfl rfl hl.1 rfl (lv_room (Nat.le_of_ble_eq_true rfl)) (dk_at dkX12_word 11 rfl) ⟨Nat.zero_le _, Nat.zero_le _⟩) hS (fun q _ h => hFc q h) hFc (fun u t H1 locs ht hvm hw hB hz1 hk1 hS => ?_)
      clear hz1
      obtain ⟨y_108, y_109, y_110, y_111, y_112, y_113, y_114, hB⟩ := hB
      obtain ⟨gy_110, gy_111, gy_113, gy_114, hpr0_r_107, hpr1_r_107, hpr2_r_107, hpr3_r_107, hpr4_r_107, hpr5_r_107, hpr6_r_107, hE, hP1, hD1⟩ := hB
      rw [ht] at hP1
      have hpr0_r_107 : Hid ((mi 30).toInt ≤ y_111.toInt) := hpr0_r_107
      have hpr1_r_107 : Hid (y_111.toInt ≤ y_110.toInt) := hpr1_r_107
      have hpr2_r_107 : Hid (y_110.toInt ≤ (mi 26).toInt) := hpr2_r_107
      have hpr3_r_107 : Hid ((y_112.toInt = 0 ∨ y_111.toInt < y_110.toInt)) := hpr3_r_107
      have hpr4_r_107 : Hid ((mi 33).toInt ≤ y_114.toInt) := hpr4_r_107
      have hpr5_r_107 : Hid (((1 : Int) = 1 ∨ y_114.toInt = 1)) := by have h9 : ((1 : Int32).toInt = 1 ∨ y_114.toInt = 1) := hpr5_r_107; rw [show (1 : Int32).toInt = 1 from by decide] at h9; exact h9
      have hpr6_r_107 : Hid ((y_114.toInt = 1 ∨ (mi 29).toInt ≤ y_111.toInt)) := hpr6_r_107
      have hD : va_D A (MWn h0 mr km (mi 0) (mi 1) (mi 2) (mi 3) (mi 4) (mi 5) (mi 6) (mi 7) (mi 10) (mi 17) (mi 23) (mi 24) (mi 26) y_108 y_109 y_110 y_111 y_112 y_113 y_114 (mi 37) (mi 41) (mi 42) (mi 43) (mi 44) (mi 45) (mi 47) (mi 48) (mi 49) (mi 50) (mi 51) (mi 54) (mi 56) fm_trust fm_letter fm_reportPlace fm_reportKind fm_struck fm_reportMonth fm_reportDay fm_reportKnown fm_deedMonth fm_deedDay fm_deedLong fm_deedKind fm_kept fm_tape fm_must fm_least fm_pin fm_ways fm_verdict fm_row fm_official fm_aside fm_worth fm_out) := gz_fullD hFc hD1
      have hP : va_P (dC, dI) vwCl (MWn h0 mr km (mi 0) (mi 1) (mi 2) (mi 3) (mi 4) (mi 5) (mi 6) (mi 7) (mi 10) (mi 17) (mi 23) (mi 24) (mi 26) y_108 y_109 y_110 y_111 y_112 y_113 y_114 (mi 37) (mi 41) (mi 42) (mi 43) (mi 44) (mi 45) (mi 47) (mi 48) (mi 49) (mi 50) (mi 51) (mi 54) (mi 56) fm_trust fm_letter fm_reportPlace fm_reportKind fm_struck fm_reportMonth fm_reportDay fm_reportKnown fm_deedMonth fm_deedDay fm_deedLong fm_deedKind fm_kept fm_tape fm_must fm_least fm_pin fm_ways fm_verdict fm_row fm_official fm_aside fm_worth fm_out) H1 := hP1
      have hF := gf_callm (a := (y_108, y_109, y_110, y_111, y_112, y_113, y_114)) hE hF (by first | with_reducible rfl | simp only [upd_same, upd_app, ↓reduceIte, Nat.reduceEqDiff])
      generalize H1 = H at hP hS ⊢
      exact W.vret hx hb hr (fun t ht hW => ⟨⟨(), rfl, trivial, y_108, y_109, y_110, y_111, y_112, y_113, y_114, gy_110, gy_111, gy_113, gy_114, (Hid.un hpr0_r_107), (Hid.un hpr1_r_107), (Hid.un hpr2_r_107), (Hid.un hpr3_r_107), (Hid.un hpr4_r_107), hF.trans hR9.symm, by rw [ht]; exact hP, hD⟩, hS.F ht⟩) hS.2.2 (dk_at dkX12_word 12 rfl)
noncomputable def lsX12_numberBehind : List (Nat × Instr × Nat) := [(0, .aload_n 0, 1), (1, .aload_n 1, 1), (2, .invokevirtual 209, 3), (5, .aload_n 0, 1), (6, .iload_n 2, 1), (7, .iload_n 3, 1), (8, .invokevirtual 213, 3), (11, .ireturn, 1)]
theorem dkX12_numberBehind : dkAll cX12_numberBehind lsX12_numberBehind = true := by decide +kernel
noncomputable def fX12_numberBehind (mi : Nat → Int32) (fm_tape : Nat → Int32) (p2 : Int32) (p3 : Int32) (wi : Nat) : Int32 × Int32 × Int32 × Int32 × Int32 × Int32 × Int32 × Int32 := cal (fun o1 => cal (fun o2 => (o2.1, o2.2.1, o2.2.2.1, o2.2.2.2.1, o2.2.2.2.2.1, o2.2.2.2.2.2.1, o2.2.2.2.2.2.2.1, o2.2.2.2.2.2.2.2)) (fX12_number (upd (upd (upd (upd (upd (upd (upd mi 27 o1.1) 28 o1.2.1) 29 o1.2.2.1) 30 o1.2.2.2.1) 31 o1.2.2.2.2.1) 32 o1.2.2.2.2.2.1) 33 o1.2.2.2.2.2.2) fm_tape p2 p3)) (fX12_word mi fm_tape wi)
abbrev pb_sX12_numberBehindP (dC : Nat → ClassId) (dI : Nat → Nat → Nat) (A9 : Nat → Prop) (h0 : Nat) (mi : Nat → Int32) (mr : Nat → Nat) (km : Nat → ClassId) (fm_tape : Nat → Int32) (fm_trust : Nat → Int32) (fm_letter : Nat → Int32) (fm_reportPlace : Nat → Int32) (fm_reportKind : Nat → Int32) (fm_struck : Nat → Int32) (fm_reportMonth : Nat → Int32) (fm_reportDay : Nat → Int32) (fm_reportKnown : Nat → Int32) (fm_deedMonth : Nat → Int32) (fm_deedDay : Nat → Int32) (fm_deedLong : Nat → Int32) (fm_deedKind : Nat → Int32) (fm_kept : Nat → Int32) (fm_must : Nat → Int32) (fm_least : Nat → Int32) (fm_pin : Nat → Int32) (fm_ways : Nat → Int32) (fm_verdict : Nat → Int32) (fm_row : Nat → Int32) (fm_official : Nat → Int32) (fm_aside : Nat → Int32) (fm_worth : Nat → Int32) (fm_out : Nat → Int32) (p2 : Int32) (p3 : Int32) (sa : Nat → Nat) (sb : Nat → Nat) (zf : Value) (wi : Nat) (r : Int32) (w0_27 : Int32) (w0_28 : Int32) (w0_29 : Int32) (w0_30 : Int32) (w0_31 : Int32) (w0_32 : Int32) (w0_33 : Int32) (t : State) : Prop := gi w0_29 0 1600 ∧ gi w0_30 0 1600 ∧ gi w0_32 0 100000 ∧ gi w0_33 0 1 ∧ (mi 30).toInt ≤ w0_30.toInt ∧ w0_30.toInt ≤ w0_29.toInt ∧ w0_29.toInt ≤ (mi 26).toInt ∧ (w0_31.toInt = 0 ∨ w0_30.toInt < w0_29.toInt) ∧ (mi 33).toInt ≤ w0_33.toInt ∧ (w0_33.toInt = 1 ∨ (p2.toInt ≤ r.toInt ∧ r.toInt ≤ p3.toInt)) ∧ (r, w0_27, w0_28, w0_29, w0_30, w0_31, w0_32, w0_33) = fX12_numberBehind mi fm_tape p2 p3 wi ∧ va_P (dC, dI) vwCl (MWn h0 mr km (mi 0) (mi 1) (mi 2) (mi 3) (mi 4) (mi 5) (mi 6) (mi 7) (mi 10) (mi 17) (mi 23) (mi 24) (mi 26) w0_27 w0_28 w0_29 w0_30 w0_31 w0_32 w0_33 (mi 37) (mi 41) (mi 42) (mi 43) (mi 44) (mi 45) (mi 47) (mi 48) (mi 49) (mi 50) (mi 51) (mi 54) (mi 56) fm_trust fm_letter fm_reportPlace fm_reportKind fm_struck fm_reportMonth fm_reportDay fm_reportKnown fm_deedMonth fm_deedDay fm_deedLong fm_deedKind fm_kept fm_tape fm_must fm_least fm_pin fm_ways fm_verdict fm_row fm_official fm_aside fm_worth fm_out) t.heap ∧ va_D A9 (MWn h0 mr km (mi 0) (mi 1) (mi 2) (mi 3) (mi 4) (mi 5) (mi 6) (mi 7) (mi 10) (mi 17) (mi 23) (mi 24) (mi 26) w0_27 w0_28 w0_29 w0_30 w0_31 w0_32 w0_33 (mi 37) (mi 41) (mi 42) (mi 43) (mi 44) (mi 45) (mi 47) (mi 48) (mi 49) (mi 50) (mi 51) (mi 54) (mi 56) fm_trust fm_letter fm_reportPlace fm_reportKind fm_struck fm_reportMonth fm_reportDay fm_reportKnown fm_deedMonth fm_deedDay fm_deedLong fm_deedKind fm_kept fm_tape fm_must fm_least fm_pin fm_ways fm_verdict fm_row fm_official fm_aside fm_worth fm_out)
set_option maxHeartbeats 4000000 in
set_option maxRecDepth 100000 in
theorem sX12_numberBehindP (l : Launch) (dC : Nat → ClassId) (dI : Nat → Nat → Nat) (sz : Nat) (h0 : Nat) (mi : Nat → Int32) (mr : Nat → Nat) (km : Nat → ClassId) (fm_tape : Nat → Int32) (fm_trust : Nat → Int32) (fm_letter : Nat → Int32) (fm_reportPlace : Nat → Int32) (fm_reportKind : Nat → Int32) (fm_struck : Nat → Int32) (fm_reportMonth : Nat → Int32) (fm_reportDay : Nat → Int32) (fm_reportKnown : Nat → Int32) (fm_deedMonth : Nat → Int32) (fm_deedDay : Nat → Int32) (fm_deedLong : Nat → Int32) (fm_deedKind : Nat → Int32) (fm_kept : Nat → Int32) (fm_must : Nat → Int32) (fm_least : Nat → Int32) (fm_pin : Nat → Int32) (fm_ways : Nat → Int32) (fm_verdict : Nat → Int32) (fm_row : Nat → Int32) (fm_official : Nat → Int32) (fm_aside : Nat → Int32) (fm_worth : Nat → Int32) (fm_out : Nat → Int32) (p2 : Int32) (p3 : Int32) (sa : Nat → Nat) (sb : Nat → Nat) (zf : Value) (wi : Nat) (gmi_0 : gi (mi 0) 0 100000) (gmi_1 : gi (mi 1) 0 100000) (gmi_2 : gi (mi 2) 0 100000) (gmi_4 : gi (mi 4) 0 1) (gmi_7 : gi (mi 7) 0 6) (gmi_10 : gi (mi 10) 0 24) (gmi_17 : gi (mi 17) 0 8) (gmi_23 : gi (mi 23) 0 300) (gmi_24 : gi (mi 24) 0 1) (gmi_26 : gi (mi 26) 0 1600) (gmi_29 : gi (mi 29) 0 1600) (gmi_30 : gi (mi 30) 0 1600) (gmi_32 : gi (mi 32) 0 100000) (gmi_33 : gi (mi 33) 0 1) (gmi_37 : gi (mi 37) 0 1) (gmi_41 : gi (mi 41) 0 24) (gmi_50 : gi (mi 50) 0 1) (gmi_51 : gi (mi 51) 0 1) (gmi_56 : gi (mi 56) 0 80) (gp2 : gi p2 0 100000) (hwi : wi < 18) (hpq0 : (mi 30).toInt ≤ (mi 29).toInt) (hpq1 : (mi 29).toInt ≤ (mi 26).toInt) (hpq2 : ((mi 31).toInt = 0 ∨ (mi 30).toInt < (mi 29).toInt)) : Met l yX12_numberBehind (.code yX12_numberBehind cX12_numberBehind 4 (some .int) :: wsGB) ({ frames := 6, cells := 0, slots := 0, locals := 129 }) (va_Pc [.ref h0, .ref (sa wi), .int p2, .int p3] (fun U => U.heap.size = sz ∧ va_P (dC, dI) vwCl (MWn h0 mr km (mi 0) (mi 1) (mi 2) (mi 3) (mi 4) (mi 5) (mi 6) (mi 7) (mi 10) (mi 17) (mi 23) (mi 24) (mi 26) (mi 27) (mi 28) (mi 29) (mi 30) (mi 31) (mi 32) (mi 33) (mi 37) (mi 41) (mi 42) (mi 43) (mi 44) (mi 45) (mi 47) (mi 48) (mi 49) (mi 50) (mi 51) (mi 54) (mi 56) fm_trust fm_letter fm_reportPlace fm_reportKind fm_struck fm_reportMonth fm_reportDay fm_reportKnown fm_deedMonth fm_deedDay fm_deedLong fm_deedKind fm_kept fm_tape fm_must fm_least fm_pin fm_ways fm_verdict fm_row fm_official fm_aside fm_worth fm_out) U.heap ∧ va_K (dC, dI) vwCl (MT km) U ∧ va_D (fun _ => True) (MWn h0 mr km (mi 0) (mi 1) (mi 2) (mi 3) (mi 4) (mi 5) (mi 6) (mi 7) (mi 10) (mi 17) (mi 23) (mi 24) (mi 26) (mi 27) (mi 28) (mi 29) (mi 30) (mi 31) (mi 32) (mi 33) (mi 37) (mi 41) (mi 42) (mi 43) (mi 44) (mi 45) (mi 47) (mi 48) (mi 49) (mi 50) (mi 51) (mi 54) (mi 56) fm_trust fm_letter fm_reportPlace fm_reportKind fm_struck fm_reportMonth fm_reportDay fm_reportKnown fm_deedMonth fm_deedDay fm_deedLong fm_deedKind fm_kept fm_tape fm_must fm_least fm_pin fm_ways fm_verdict fm_row fm_official fm_aside fm_worth fm_out) ∧ gz_ST RX12 stIB sa sb zf (va_A (MWn h0 mr km (mi 0) (mi 1) (mi 2) (mi 3) (mi 4) (mi 5) (mi 6) (mi 7) (mi 10) (mi 17) (mi 23) (mi 24) (mi 26) (mi 27) (mi 28) (mi 29) (mi 30) (mi 31) (mi 32) (mi 33) (mi 37) (mi 41) (mi 42) (mi 43) (mi 44) (mi 45) (mi 47) (mi 48) (mi 49) (mi 50) (mi 51) (mi 54) (mi 56) fm_trust fm_letter fm_reportPlace fm_reportKind fm_struck fm_reportMonth fm_reportDay fm_reportKnown fm_deedMonth fm_deedDay fm_deedLong fm_deedKind fm_kept fm_tape fm_must fm_least fm_pin fm_ways fm_verdict fm_row fm_official fm_aside fm_worth fm_out) sz) U U.heap)) (va_Qi (fun (r : Int32) (u : Int32) => r = u ∧ gi r 0 100000) (fun r t => ∃ (w0_27 : Int32) (w0_28 : Int32) (w0_29 : Int32) (w0_30 : Int32) (w0_31 : Int32) (w0_32 : Int32) (w0_33 : Int32), pb_sX12_numberBehindP dC dI (va_A (MWn h0 mr km (mi 0) (mi 1) (mi 2) (mi 3) (mi 4) (mi 5) (mi 6) (mi 7) (mi 10) (mi 17) (mi 23) (mi 24) (mi 26) (mi 27) (mi 28) (mi 29) (mi 30) (mi 31) (mi 32) (mi 33) (mi 37) (mi 41) (mi 42) (mi 43) (mi 44) (mi 45) (mi 47) (mi 48) (mi 49) (mi 50) (mi 51) (mi 54) (mi 56) fm_trust fm_letter fm_reportPlace fm_reportKind fm_struck fm_reportMonth fm_reportDay fm_reportKnown fm_deedMonth fm_deedDay fm_deedLong fm_deedKind fm_kept fm_tape fm_must fm_least fm_pin fm_ways fm_verdict fm_row fm_official fm_aside fm_worth fm_out) sz) h0 mi mr km fm_tape fm_trust fm_letter fm_reportPlace fm_reportKind fm_struck fm_reportMonth fm_reportDay fm_reportKnown fm_deedMonth fm_deedDay fm_deedLong fm_deedKind fm_kept fm_must fm_least fm_pin fm_ways fm_verdict fm_row fm_official fm_aside fm_worth fm_out p2 p3 sa sb zf wi r w0_27 w0_28 w0_29 w0_30 w0_31 w0_32 w0_33 t) (va_A (MWn h0 mr km (mi 0) (mi 1) (mi 2) (mi 3) (mi 4) (mi 5) (mi 6) (mi 7) (mi 10) (mi 17) (mi 23) (mi 24) (mi 26) (mi 27) (mi 28) (mi 29) (mi 30) (mi 31) (mi 32) (mi 33) (mi 37) (mi 41) (mi 42) (mi 43) (mi 44) (mi 45) (mi 47) (mi 48) (mi 49) (mi 50) (mi 51) (mi 54) (mi 56) fm_trust fm_letter fm_reportPlace fm_reportKind fm_struck fm_reportMonth fm_reportDay fm_reportKnown fm_deedMonth fm_deedDay fm_deedLong fm_deedKind fm_kept fm_tape fm_must fm_least fm_pin fm_ways fm_verdict fm_row fm_official fm_aside fm_worth fm_out) sz)) 0 0 (va_A (MWn h0 mr km (mi 0) (mi 1) (mi 2) (mi 3) (mi 4) (mi 5) (mi 6) (mi 7) (mi 10) (mi 17) (mi 23) (mi 24) (mi 26) (mi 27) (mi 28) (mi 29) (mi 30) (mi 31) (mi 32) (mi 33) (mi 37) (mi 41) (mi 42) (mi 43) (mi 44) (mi 45) (mi 47) (mi 48) (mi 49) (mi 50) (mi 51) (mi 54) (mi 56) fm_trust fm_letter fm_reportPlace fm_reportKind fm_struck fm_reportMonth fm_reportDay fm_reportKnown fm_deedMonth fm_deedDay fm_deedLong fm_deedKind fm_kept fm_tape fm_must fm_least fm_pin fm_ways fm_verdict fm_row fm_official fm_aside fm_worth fm_out) sz) := by
  refine Met.ofW (cc := cX12_numberBehind) (maxL := 4) (ret := (some .int)) (by decide) rfl ?_
  intro p e s m args below meth c s₁ B hml hv
  obtain ⟨rfl, hsz, hP, hK, hD0, hT⟩ := hv
  have hx := B.exec
  have hb := B.bytes
  have hr := B.returns
  have hts := atoms_spec (ws := (.code yX12_numberBehind cX12_numberBehind 4 (some .int) :: wsGB)) B.pre
  have hown : s.vm.findClass RX12 = some m.cls := findClass_of_methodNamed B.named
  have hlocks := B.notSynchronized
  subst hsz
  have hD := hD0.self (sz := s.heap.size)
  generalize hAe : va_A (MWn h0 mr km (mi 0) (mi 1) (mi 2) (mi 3) (mi 4) (mi 5) (mi 6) (mi 7) (mi 10) (mi 17) (mi 23) (mi 24) (mi 26) (mi 27) (mi 28) (mi 29) (mi 30) (mi 31) (mi 32) (mi 33) (mi 37) (mi 41) (mi 42) (mi 43) (mi 44) (mi 45) (mi 47) (mi 48) (mi 49) (mi 50) (mi 51) (mi 54) (mi 56) fm_trust fm_letter fm_reportPlace fm_reportKind fm_struck fm_reportMonth fm_reportDay fm_reportKnown fm_deedMonth fm_deedDay fm_deedLong fm_deedKind fm_kept fm_tape fm_must fm_least fm_pin fm_ways fm_verdict fm_row fm_official fm_aside fm_worth fm_out) s.heap.size = A at hD hT ⊢
  have hA : ∀ q : Nat, s.heap.size ≤ q → A q := fun q h => by rw [← hAe]; exact Or.inr h
  have hS : va_S A s.heap s.heap [] := va_S.rf
  have hl := lv_entry ([.ref h0, .ref (sa wi), .int p2, .int p3]) (n := 4) (Nat.le_of_ble_eq_true rfl)
  rw [lg_entry_eq]
  generalize (lg_sl ([.ref h0, .ref (sa wi), .int p2, .int p3]) ++ List.replicate (4 - (lg_sl ([.ref h0, .ref (sa wi), .int p2, .int p3])).length) Slot.unset).toArray = ls at hl ⊢
  have hl : lv_has ls 4 [(0, .ref h0), (1, .ref (sa wi)), (2, .int p2), (3, .int p3)] := hl
  obtain ⟨RES, hF⟩ : ∃ R9, fX12_numberBehind mi fm_tape p2 p3 wi = R9 := ⟨_, rfl⟩
  have hR9 := hF
  refine lv_aload_n hx hb (dk_at dkX12_numberBehind 0 rfl) rfl (lv_at hl 0 rfl) ?_
  refine lv_aload_n hx hb (dk_at dkX12_numberBehind 1 rfl) rfl (lv_at hl 1 rfl) ?_
  have hFc := gz_fullF hD hS hA
  refine va_callv (va_runV (As := [.ref (sa wi)]) (rest := []) ⟨hx, hb, hml, hown, hts⟩ (sX12_wordP l dC dI s.heap.size h0 mi mr km fm_tape fm_trust fm_letter fm_reportPlace fm_reportKind fm_struck fm_reportMonth fm_reportDay fm_reportKnown fm_deedMonth fm_deedDay fm_deedLong fm_deedKind fm_kept fm_must fm_least fm_pin fm_ways fm_verdict fm_row fm_official fm_aside fm_worth fm_out sa sb zf wi gmi_0 gmi_1 gmi_2 gmi_4 gmi_7 gmi_10 gmi_17 gmi_23 gmi_24 gmi_26 gmi_29 gmi_30 gmi_32 gmi_33 gmi_37 gmi_41 gmi_50 gmi_51 gmi_56 hwi hpq0 hpq1 (show ((mi 31).toInt = 0 ∨ (mi 30).toInt < (mi 29).toInt) from by have qgmi_30 := gmi_30.1; have rgmi_30 := gmi_30.2; have qgmi_29 := gmi_29.1; have rgmi_29 := gmi_29.2; have qgmi_26 := gmi_26.1; have rgmi_26 := gmi_26.2; omega)) (cwV 1 hts (gz_gV mGB_151 mGB_152 mGB_153 mGB_1 mGB_154 goodGB) rfl rfl rfl (by decide +kernel) ⟨Nat.le_of_ble_eq_true rfl, Nat.le_of_ble_eq_true rfl⟩) ⟨bl_I (bl_a bl_sz (bl_a bl_P (bl_a bl_K (bl_a bl_c bl_ST)))), mw_recv hK hP, fun U hU hW => ⟨rfl, by rw [hU], by rw [hU]; exact hP, va_K.moved hW.alike hK, hD.weaken (fun _ _ _ _ => trivial), by rw [hU]; exact ((hT.kept hS.2.1).narrow (fun q h => hFc q h)).warm hW⟩⟩ rfl rfl hl.1 rfl (lv_room (Nat.le_of_ble_eq_true rfl)) (dk_at dkX12_numberBehind 2 rfl) ⟨Nat.zero_le _, Nat.zero_le _⟩) hS (fun q _ h => hFc q h) hFc (fun u t H1 locs ht hvm hw hB hz1 hk1 hS => ?_)
  clear hz1
  obtain ⟨y_34, y_35, y_36, y_37, y_38, y_39, y_40, hB⟩ := hB
  obtain ⟨gy_36, gy_37, gy_39, gy_40, hpr0_r_33, hpr1_r_33, hpr2_r_33, hpr3_r_33, hpr4_r_33, hE, hP1, hD1⟩ := hB
  rw [ht] at hP1
  have hpr0_r_33 : Hid ((mi 30).toInt ≤ y_37.toInt) := hpr0_r_33
  have hpr1_r_33 : Hid (y_37.toInt ≤ y_36.toInt) := hpr1_r_33
  have hpr2_r_33 : Hid (y_36.toInt ≤ (mi 26).toInt) := hpr2_r_33
  have hpr3_r_33 : Hid ((y_38.toInt = 0 ∨ y_37.toInt < y_36.toInt)) := hpr3_r_33
  have hpr4_r_33 : Hid ((mi 33).toInt ≤ y_40.toInt) := hpr4_r_33
  have hD : va_D A (MWn h0 mr km (mi 0) (mi 1) (mi 2) (mi 3) (mi 4) (mi 5) (mi 6) (mi 7) (mi 10) (mi 17) (mi 23) (mi 24) (mi 26) y_34 y_35 y_36 y_37 y_38 y_39 y_40 (mi 37) (mi 41) (mi 42) (mi 43) (mi 44) (mi 45) (mi 47) (mi 48) (mi 49) (mi 50) (mi 51) (mi 54) (mi 56) fm_trust fm_letter fm_reportPlace fm_reportKind fm_struck fm_reportMonth fm_reportDay fm_reportKnown fm_deedMonth fm_deedDay fm_deedLong fm_deedKind fm_kept fm_tape fm_must fm_least fm_pin fm_ways fm_verdict fm_row fm_official fm_aside fm_worth fm_out) := gz_fullD hFc hD1
  have hP : va_P (dC, dI) vwCl (MWn h0 mr km (mi 0) (mi 1) (mi 2) (mi 3) (mi 4) (mi 5) (mi 6) (mi 7) (mi 10) (mi 17) (mi 23) (mi 24) (mi 26) y_34 y_35 y_36 y_37 y_38 y_39 y_40 (mi 37) (mi 41) (mi 42) (mi 43) (mi 44) (mi 45) (mi 47) (mi 48) (mi 49) (mi 50) (mi 51) (mi 54) (mi 56) fm_trust fm_letter fm_reportPlace fm_reportKind fm_struck fm_reportMonth fm_reportDay fm_reportKnown fm_deedMonth fm_deedDay fm_deedLong fm_deedKind fm_kept fm_tape fm_must fm_least fm_pin fm_ways fm_verdict fm_row fm_official fm_aside fm_worth fm_out) H1 := hP1
  have hF := gf_callm (a := (y_34, y_35, y_36, y_37, y_38, y_39, y_40)) hE hF (by first | with_reducible rfl | simp only [upd_same, upd_app, ↓reduceIte, Nat.reduceEqDiff])
  generalize H1 = H at hP hS ⊢
  refine lv_aload_n hx hb (dk_at dkX12_numberBehind 3 rfl) rfl (lv_at hl 0 rfl) ?_
  refine lv_iload_n hx hb (dk_at dkX12_numberBehind 4 rfl) rfl (lv_at hl 2 rfl) ?_
  refine lv_iload_n hx hb (dk_at dkX12_numberBehind 5 rfl) rfl (lv_at hl 3 rfl) ?_
  have hFc := gz_fullF hD hS hA
  refine va_calli (va_runV (As := [.int p2, .int p3]) (rest := []) ⟨hx, hb, hml, hown, hts⟩ (sX12_numberP l dC dI H.size h0 (upd (upd (upd (upd (upd (upd (upd mi 27 y_34) 28 y_35) 29 y_36) 30 y_37) 31 y_38) 32 y_39) 33 y_40) mr km fm_tape fm_trust fm_letter fm_reportPlace fm_reportKind fm_struck fm_reportMonth fm_reportDay fm_reportKnown fm_deedMonth fm_deedDay fm_deedLong fm_deedKind fm_kept fm_must fm_least fm_pin fm_ways fm_verdict fm_row fm_official fm_aside fm_worth fm_out p2 p3 gmi_0 gmi_1 gmi_2 gmi_4 gmi_7 gmi_10 gmi_17 gmi_23 gmi_24 gmi_26 gy_36 gy_37 gy_39 gy_40 gmi_37 gmi_41 gmi_50 gmi_51 gmi_56 gp2 (Hid.un hpr1_r_33) (Hid.un hpr2_r_33) (show (y_38.toInt = 0 ∨ y_37.toInt < y_36.toInt) from by have qgy_37 := gy_37.1; have rgy_37 := gy_37.2; have qgy_36 := gy_36.1; have rgy_36 := gy_36.2; have qgmi_30 := gmi_30.1; have rgmi_30 := gmi_30.2; have qgmi_29 := gmi_29.1; have rgmi_29 := gmi_29.2; have qgmi_26 := gmi_26.1; have rgmi_26 := gmi_26.2; have zhpr0_r_33 := Hid.un hpr0_r_33; have zhpr1_r_33 := Hid.un hpr1_r_33; have zhpr2_r_33 := Hid.un hpr2_r_33; omega)) (cwV 2 hts (gz_gV mGB_177 mGB_178 mGB_179 mGB_1 mGB_180 goodGB) rfl rfl rfl (by decide +kernel) ⟨Nat.le_of_ble_eq_true rfl, Nat.le_of_ble_eq_true rfl⟩) ⟨bl_W, mw_recv hK hP, fun U hU hW => ⟨rfl, by rw [hU], by rw [hU]; exact hP, va_K.moved hW.alike hK, hD.weaken (fun _ _ _ _ => trivial)⟩⟩ rfl rfl hl.1 rfl (lv_room (Nat.le_of_ble_eq_true rfl)) (dk_at dkX12_numberBehind 6 rfl) ⟨Nat.zero_le _, Nat.zero_le _⟩) hS (fun q _ h => hFc q h) hFc (fun r_41 u t H1 locs ht hvm hw hB hz1 hk1 hS => ?_)
  clear hz1
  obtain ⟨hu_, hw⟩ := hw
  subst hu_
  obtain ⟨y_42, y_43, y_44, y_45, y_46, y_47, y_48, hB⟩ := hB
  obtain ⟨gy_44, gy_45, gy_47, gy_48, hpr0_r_41, hpr1_r_41, hpr2_r_41, hpr3_r_41, hpr4_r_41, hpr5_r_41, hE, hP1, hD1⟩ := hB
  rw [ht] at hP1
  have hpr0_r_41 : Hid (y_37.toInt ≤ y_45.toInt) := hpr0_r_41
  have hpr1_r_41 : Hid (y_45.toInt ≤ y_44.toInt) := hpr1_r_41
  have hpr2_r_41 : Hid (y_44.toInt ≤ (mi 26).toInt) := hpr2_r_41
  have hpr3_r_41 : Hid ((y_46.toInt = 0 ∨ y_45.toInt < y_44.toInt)) := hpr3_r_41
  have hpr4_r_41 : Hid (y_40.toInt ≤ y_48.toInt) := hpr4_r_41
  have hpr5_r_41 : Hid ((y_48.toInt = 1 ∨ (p2.toInt ≤ r_41.toInt ∧ r_41.toInt ≤ p3.toInt))) := hpr5_r_41
  have hD : va_D A (MWn h0 mr km (mi 0) (mi 1) (mi 2) (mi 3) (mi 4) (mi 5) (mi 6) (mi 7) (mi 10) (mi 17) (mi 23) (mi 24) (mi 26) y_42 y_43 y_44 y_45 y_46 y_47 y_48 (mi 37) (mi 41) (mi 42) (mi 43) (mi 44) (mi 45) (mi 47) (mi 48) (mi 49) (mi 50) (mi 51) (mi 54) (mi 56) fm_trust fm_letter fm_reportPlace fm_reportKind fm_struck fm_reportMonth fm_reportDay fm_reportKnown fm_deedMonth fm_deedDay fm_deedLong fm_deedKind fm_kept fm_tape fm_must fm_least fm_pin fm_ways fm_verdict fm_row fm_official fm_aside fm_worth fm_out) := gz_fullD hFc hD1
  have hP : va_P (dC, dI) vwCl (MWn h0 mr km (mi 0) (mi 1) (mi 2) (mi 3) (mi 4) (mi 5) (mi 6) (mi 7) (mi 10) (mi 17) (mi 23) (mi 24) (mi 26) y_42 y_43 y_44 y_45 y_46 y_47 y_48 (mi 37) (mi 41) (mi 42) (mi 43) (mi 44) (mi 45) (mi 47) (mi 48) (mi 49) (mi 50) (mi 51) (mi 54) (mi 56) fm_trust fm_letter fm_reportPlace fm_reportKind fm_struck fm_reportMonth fm_reportDay fm_reportKnown fm_deedMonth fm_deedDay fm_deedLong fm_deedKind fm_kept fm_tape fm_must fm_least fm_pin fm_ways fm_verdict fm_row fm_official fm_aside fm_worth fm_out) H1 := hP1
  have hF := gf_callm (a := (r_41, y_42, y_43, y_44, y_45, y_46, y_47, y_48)) hE hF (by first | with_reducible rfl | simp only [upd_same, upd_app, ↓reduceIte, Nat.reduceEqDiff])
  generalize H1 = H at hP hS ⊢
  have gr_41 : gi r_41 0 100000 := hw
  exact W.iret (v := r_41) hx hb hr (fun t ht hW => ⟨⟨r_41, r_41, rfl, ⟨rfl, gr_41⟩, y_42, y_43, y_44, y_45, y_46, y_47, y_48, gy_44, gy_45, gy_47, gy_48, (show (mi 30).toInt ≤ y_45.toInt from by have qgy_45 := gy_45.1; have rgy_45 := gy_45.2; have qgy_44 := gy_44.1; have rgy_44 := gy_44.2; have qgy_37 := gy_37.1; have rgy_37 := gy_37.2; have qgy_36 := gy_36.1; have rgy_36 := gy_36.2; have qgmi_30 := gmi_30.1; have rgmi_30 := gmi_30.2; have qgmi_29 := gmi_29.1; have rgmi_29 := gmi_29.2; have qgmi_26 := gmi_26.1; have rgmi_26 := gmi_26.2; have zhpr0_r_33 := Hid.un hpr0_r_33; have zhpr1_r_33 := Hid.un hpr1_r_33; have zhpr2_r_33 := Hid.un hpr2_r_33; have zhpr0_r_41 := Hid.un hpr0_r_41; have zhpr1_r_41 := Hid.un hpr1_r_41; have zhpr2_r_41 := Hid.un hpr2_r_41; omega), (Hid.un hpr1_r_41), (Hid.un hpr2_r_41), (Hid.un hpr3_r_41), (show (mi 33).toInt ≤ y_48.toInt from by have qgy_48 := gy_48.1; have rgy_48 := gy_48.2; have qgy_40 := gy_40.1; have rgy_40 := gy_40.2; have qgmi_33 := gmi_33.1; have rgmi_33 := gmi_33.2; have zhpr4_r_33 := Hid.un hpr4_r_33; have zhpr4_r_41 := Hid.un hpr4_r_41; omega), (Hid.un hpr5_r_41), hF.trans hR9.symm, by rw [ht]; exact hP, hD⟩, hS.F ht⟩) hS.2.2 (dk_at dkX12_numberBehind 7 rfl)
