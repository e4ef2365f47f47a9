noncomputable def lsX12_count : List (Nat × Instr × Nat) := [(0, .iload_n 1, 1), (1, .tableswitch 114 0 10 #[59, 64, 69, 74, 79, 84, 89, 94, 99, 104, 109], 59), (60, .aload_n 0, 1), (61, .getfield 117, 3), (64, .ireturn, 1), (65, .aload_n 0, 1), (66, .getfield 120, 3), (69, .ireturn, 1), (70, .aload_n 0, 1), (71, .getfield 123, 3), (74, .ireturn, 1), (75, .aload_n 0, 1), (76, .getfield 138, 3), (79, .ireturn, 1), (80, .aload_n 0, 1), (81, .getfield 141, 3), (84, .ireturn, 1), (85, .aload_n 0, 1), (86, .getfield 144, 3), (89, .ireturn, 1), (90, .aload_n 0, 1), (91, .getfield 126, 3), (94, .ireturn, 1), (95, .aload_n 0, 1), (96, .getfield 99, 3), (99, .ireturn, 1), (100, .aload_n 0, 1), (101, .getfield 289, 3), (104, .ireturn, 1), (105, .aload_n 0, 1), (106, .getfield 132, 3), (109, .ireturn, 1), (110, .aload_n 0, 1), (111, .getfield 135, 3), (114, .ireturn, 1), (115, .iconst (-1), 1), (116, .ireturn, 1)]
theorem dkX12_count : dkAll cX12_count lsX12_count = true := by decide +kernel
noncomputable def fX12_count (mi : Nat → Int32) (p1 : Int32) : Int32 := (if p1 = (0 : Int32) then (mi 0) else (if p1 = (1 : Int32) then (mi 1) else (if p1 = (2 : Int32) then (mi 2) else (if p1 = (3 : Int32) then (mi 7) else (if p1 = (4 : Int32) then (mi 10) else (if p1 = (5 : Int32) then (mi 17) else (if p1 = (6 : Int32) then (mi 3) else (if p1 = (7 : Int32) then (mi 26) else (if p1 = (8 : Int32) then (mi 56) else (if p1 = (9 : Int32) then (mi 5) else (if p1 = (10 : Int32) then (mi 6) else (-1 : Int32))))))))))))
set_option maxHeartbeats 4000000 in
set_option maxRecDepth 100000 in
theorem sX12_count (l : Launch) (dC : Nat → ClassId) (dI : Nat → Nat → Nat) (h0 : Nat) (mi : Nat → Int32) (mr : Nat → Nat) (km : Nat → ClassId) (fm_trust : Nat → Int32) (fm_letter : Nat → Int32) (fm_reportPlace : Nat → Int32) (fm_reportKind : Nat → Int32) (fm_struck : Nat → Int32) (fm_reportMonth : Nat → Int32) (fm_reportDay : Nat → Int32) (fm_reportKnown : Nat → Int32) (fm_deedMonth : Nat → Int32) (fm_deedDay : Nat → Int32) (fm_deedLong : Nat → Int32) (fm_deedKind : Nat → Int32) (fm_kept : Nat → Int32) (fm_tape : Nat → Int32) (fm_must : Nat → Int32) (fm_least : Nat → Int32) (fm_pin : Nat → Int32) (fm_ways : Nat → Int32) (fm_verdict : Nat → Int32) (fm_row : Nat → Int32) (fm_official : Nat → Int32) (fm_aside : Nat → Int32) (fm_worth : Nat → Int32) (fm_out : Nat → Int32) (p1 : Int32) (gmi_0 : gi (mi 0) 0 24) (gmi_1 : gi (mi 1) 0 5) (gmi_2 : gi (mi 2) 0 5) (gmi_4 : gi (mi 4) 0 1) (gmi_7 : gi (mi 7) 0 6) (gmi_10 : gi (mi 10) 0 24) (gmi_17 : gi (mi 17) 0 8) (gmi_23 : gi (mi 23) 0 300) (gmi_24 : gi (mi 24) 0 1) (gmi_26 : gi (mi 26) 0 1600) (gmi_29 : gi (mi 29) 0 1600) (gmi_30 : gi (mi 30) 0 1600) (gmi_33 : gi (mi 33) 0 1) (gmi_37 : gi (mi 37) 0 1) (gmi_41 : gi (mi 41) 0 24) (gmi_50 : gi (mi 50) 0 1) (gmi_51 : gi (mi 51) 0 1) (gmi_56 : gi (mi 56) 0 80) : Met l yX12_count (.code yX12_count cX12_count 2 (some .int) :: wsGB) ({ frames := 0, cells := 0, slots := 0, locals := 0 }) (va_Pc [.ref h0, .int p1] (fun U => va_P (dC, dI) vwCl (MWn h0 mr km (mi 0) (mi 1) (mi 2) (mi 3) (mi 4) (mi 5) (mi 6) (mi 7) (mi 10) (mi 17) (mi 23) (mi 24) (mi 26) (mi 27) (mi 28) (mi 29) (mi 30) (mi 31) (mi 32) (mi 33) (mi 37) (mi 41) (mi 42) (mi 43) (mi 44) (mi 45) (mi 47) (mi 48) (mi 49) (mi 50) (mi 51) (mi 54) (mi 56) fm_trust fm_letter fm_reportPlace fm_reportKind fm_struck fm_reportMonth fm_reportDay fm_reportKnown fm_deedMonth fm_deedDay fm_deedLong fm_deedKind fm_kept fm_tape fm_must fm_least fm_pin fm_ways fm_verdict fm_row fm_official fm_aside fm_worth fm_out) U.heap ∧ va_K (dC, dI) vwCl (MT km) U)) (va_Qi (fun (r : Int32) (u : Unit) => (gi r (-2147483648) 2147483647) ∧ r = fX12_count mi p1) (fun _ _ => True) (fun _ => False)) 0 0 (fun _ => False) := by
  refine Met.ofW (cc := cX12_count) (maxL := 2) (ret := (some .int)) (by decide) rfl ?_
  intro p e s m args below meth c s₁ B hml hv
  obtain ⟨rfl, hP, hK⟩ := hv
  have hx := B.exec
  have hb := B.bytes
  have hr := B.returns
  have hts := atoms_spec (ws := (.code yX12_count cX12_count 2 (some .int) :: wsGB)) B.pre
  have hown : s.vm.findClass RX12 = some m.cls := findClass_of_methodNamed B.named
  have hlocks := B.notSynchronized
  have hS : va_S (fun _ => False) s.heap s.heap [] := va_S.rf
  have hl := lv_entry ([.ref h0, .int p1]) (n := 2) (Nat.le_of_ble_eq_true rfl)
  rw [lg_entry_eq]
  generalize (lg_sl ([.ref h0, .int p1]) ++ List.replicate (2 - (lg_sl ([.ref h0, .int p1])).length) Slot.unset).toArray = ls at hl ⊢
  have hl : lv_has ls 2 [(0, .ref h0), (1, .int p1)] := hl
  obtain ⟨RES, hF⟩ : ∃ R9, fX12_count mi p1 = R9 := ⟨_, rfl⟩
  have hR9 := hF
  refine lv_iload_n hx hb (dk_at dkX12_count 0 rfl) rfl (lv_at hl 1 rfl) ?_
  rcases gz_sw p1 10 (Nat.le_of_ble_eq_true rfl) with hj_2 | ⟨j_2, hj_2, ej_2⟩
  · refine lv_tableOut (tgt := 115) hx hb (dk_at dkX12_count 1 rfl) hj_2 (by decide) ?_
    have hF := gf_neg (fun h9 => by have h8 := congrArg Int32.toInt h9; rw [show (0 : Int32).toInt = 0 from by decide] at h8; omega) hF
    have hF := gf_neg (fun h9 => by have h8 := congrArg Int32.toInt h9; rw [show (1 : Int32).toInt = 1 from by decide] at h8; omega) hF
    have hF := gf_neg (fun h9 => by have h8 := congrArg Int32.toInt h9; rw [show (2 : Int32).toInt = 2 from by decide] at h8; omega) hF
    have hF := gf_neg (fun h9 => by have h8 := congrArg Int32.toInt h9; rw [show (3 : Int32).toInt = 3 from by decide] at h8; omega) hF
    have hF := gf_neg (fun h9 => by have h8 := congrArg Int32.toInt h9; rw [show (4 : Int32).toInt = 4 from by decide] at h8; omega) hF
    have hF := gf_neg (fun h9 => by have h8 := congrArg Int32.toInt h9; rw [show (5 : Int32).toInt = 5 from by decide] at h8; omega) hF
    have hF := gf_neg (fun h9 => by have h8 := congrArg Int32.toInt h9; rw [show (6 : Int32).toInt = 6 from by decide] at h8; omega) hF
    have hF := gf_neg (fun h9 => by have h8 := congrArg Int32.toInt h9; rw [show (7 : Int32).toInt = 7 from by decide] at h8; omega) hF
    have hF := gf_neg (fun h9 => by have h8 := congrArg Int32.toInt h9; rw [show (8 : Int32).toInt = 8 from by decide] at h8; omega) hF
    have hF := gf_neg (fun h9 => by have h8 := congrArg Int32.toInt h9; rw [show (9 : Int32).toInt = 9 from by decide] at h8; omega) hF
    have hF := gf_neg (fun h9 => by have h8 := congrArg Int32.toInt h9; rw [show (10 : Int32).toInt = 10 from by decide] at h8; omega) hF
    refine lv_iconst (v := (-1)) hx hb (dk_at dkX12_count 35 rfl) (by decide) ?_
    exact W.iret (v := (-1)) hx hb hr (fun t ht hW => ⟨⟨(-1), (), rfl, ⟨(gi_any (-1)), hF.trans hR9.symm⟩, trivial⟩, hS.F ht⟩) hS.2.2 (dk_at dkX12_count 36 rfl)
  · rcases (show j_2 = 0 ∨ j_2 = 1 ∨ j_2 = 2 ∨ j_2 = 3 ∨ j_2 = 4 ∨ j_2 = 5 ∨ j_2 = 6 ∨ j_2 = 7 ∨ j_2 = 8 ∨ j_2 = 9 ∨ j_2 = 10 by omega) with rfl | rfl | rfl | rfl | rfl | rfl | rfl | rfl | rfl | rfl | rfl
    · refine lv_tableIn (off := 59) (tgt := 60) hx hb (dk_at dkX12_count 1 rfl) (by rw [ej_2]; decide +kernel) (by rw [ej_2]; decide +kernel) (by rw [ej_2]; decide +kernel) (by decide) ?_
      have hF := gf_pos (by rw [ej_2]; rfl) hF
      refine lv_aload_n hx hb (dk_at dkX12_count 2 rfl) rfl (lv_at hl 0 rfl) ?_
      refine va_get (D := (dC, dI)) (ci := 12) (v := .int (mi 0)) (C := RX12) (T := TX12) (N := 57) hx hb hts (fun w h => List.mem_cons_of_mem _ (jnGB_X12 w h)) hown hK hP 0 rfl rfl 0 (by decide) (hts _ (List.mem_cons_of_mem _ mGB_103)) (fun _ h9 => h9) rfl (dk_at dkX12_count 3 rfl) ?_
      exact W.iret (v := (mi 0)) hx hb hr (fun t ht hW => ⟨⟨(mi 0), (), rfl, ⟨(gi_any (mi 0)), hF.trans hR9.symm⟩, trivial⟩, hS.F ht⟩) hS.2.2 (dk_at dkX12_count 4 rfl)
    · refine lv_tableIn (off := 64) (tgt := 65) hx hb (dk_at dkX12_count 1 rfl) (by rw [ej_2]; decide +kernel) (by rw [ej_2]; decide +kernel) (by rw [ej_2]; decide +kernel) (by decide) ?_
      have hF := gf_neg (by rw [ej_2]; decide) hF
      have hF := gf_pos (by rw [ej_2]; rfl) hF
      refine lv_aload_n hx hb (dk_at dkX12_count 5 rfl) rfl (lv_at hl 0 rfl) ?_
      refine va_get (D := (dC, dI)) (ci := 12) (v := .int (mi 1)) (C := RX12) (T := TX12) (N := 57) hx hb hts (fun w h => List.mem_cons_of_mem _ (jnGB_X12 w h)) hown hK hP 0 rfl rfl 1 (by decide) (hts _ (List.mem_cons_of_mem _ mGB_104)) (fun _ h9 => h9) rfl (dk_at dkX12_count 6 rfl) ?_
      exact W.iret (v := (mi 1)) hx hb hr (fun t ht hW => ⟨⟨(mi 1), (), rfl, ⟨(gi_any (mi 1)), hF.trans hR9.symm⟩, trivial⟩, hS.F ht⟩) hS.2.2 (dk_at dkX12_count 7 rfl)
    · refine lv_tableIn (off := 69) (tgt := 70) hx hb (dk_at dkX12_count 1 rfl) (by rw [ej_2]; decide +kernel) (by rw [ej_2]; decide +kernel) (by rw [ej_2]; decide +kernel) (by decide) ?_
      have hF := gf_neg (by rw [ej_2]; decide) hF
      have hF := gf_neg (by rw [ej_2]; decide) hF
      have hF := gf_pos (by rw [ej_2]; rfl) hF
      refine lv_aload_n hx hb (dk_at dkX12_count 8 rfl) rfl (lv_at hl 0 rfl) ?_
      refine va_get (D := (dC, dI)) (ci := 12) (v := .int (mi 2)) (C := RX12) (T := TX12) (N := 57) hx hb hts (fun w h => List.mem_cons_of_mem _ (jnGB_X12 w h)) hown hK hP 0 rfl rfl 2 (by decide) (hts _ (List.mem_cons_of_mem _ mGB_105)) (fun _ h9 => h9) rfl (dk_at dkX12_count 9 rfl) ?_
      exact W.iret (v := (mi 2)) hx hb hr (fun t ht hW => ⟨⟨(mi 2), (), rfl, ⟨(gi_any (mi 2)), hF.trans hR9.symm⟩, trivial⟩, hS.F ht⟩) hS.2.2 (dk_at dkX12_count 10 rfl)
    · refine lv_tableIn (off := 74) (tgt := 75) hx hb (dk_at dkX12_count 1 rfl) (by rw [ej_2]; decide +kernel) (by rw [ej_2]; decide +kernel) (by rw [ej_2]; decide +kernel) (by decide) ?_
      have hF := gf_neg (by rw [ej_2]; decide) hF
      have hF := gf_neg (by rw [ej_2]; decide) hF
      have hF := gf_neg (by rw [ej_2]; decide) hF
      have hF := gf_pos (by rw [ej_2]; rfl) hF
      refine lv_aload_n hx hb (dk_at dkX12_count 11 rfl) rfl (lv_at hl 0 rfl) ?_
      refine va_get (D := (dC, dI)) (ci := 12) (v := .int (mi 7)) (C := RX12) (T := TX12) (N := 57) hx hb hts (fun w h => List.mem_cons_of_mem _ (jnGB_X12 w h)) hown hK hP 0 rfl rfl 7 (by decide) (hts _ (List.mem_cons_of_mem _ mGB_110)) (fun _ h9 => h9) rfl (dk_at dkX12_count 12 rfl) ?_
      exact W.iret (v := (mi 7)) hx hb hr (fun t ht hW => ⟨⟨(mi 7), (), rfl, ⟨(gi_any (mi 7)), hF.trans hR9.symm⟩, trivial⟩, hS.F ht⟩) hS.2.2 (dk_at dkX12_count 13 rfl)
    · refine lv_tableIn (off := 79) (tgt := 80) hx hb (dk_at dkX12_count 1 rfl) (by rw [ej_2]; decide +kernel) (by rw [ej_2]; decide +kernel) (by rw [ej_2]; decide +kernel) (by decide) ?_
      have hF := gf_neg (by rw [ej_2]; decide) hF
      have hF := gf_neg (by rw [ej_2]; decide) hF
      have hF := gf_neg (by rw [ej_2]; decide) hF
      have hF := gf_neg (by rw [ej_2]; decide) hF
      have hF := gf_pos (by rw [ej_2]; rfl) hF
      refine lv_aload_n hx hb (dk_at dkX12_count 14 rfl) rfl (lv_at hl 0 rfl) ?_
      refine va_get (D := (dC, dI)) (ci := 12) (v := .int (mi 10)) (C := RX12) (T := TX12) (N := 57) hx hb hts (fun w h => List.mem_cons_of_mem _ (jnGB_X12 w h)) hown hK hP 0 rfl rfl 10 (by decide) (hts _ (List.mem_cons_of_mem _ mGB_111)) (fun _ h9 => h9) rfl (dk_at dkX12_count 15 rfl) ?_
      exact W.iret (v := (mi 10)) hx hb hr (fun t ht hW => ⟨⟨(mi 10), (), rfl, ⟨(gi_any (mi 10)), hF.trans hR9.symm⟩, trivial⟩, hS.F ht⟩) hS.2.2 (dk_at dkX12_count 16 rfl)
    · refine lv_tableIn (off := 84) (tgt := 85) hx hb (dk_at dkX12_count 1 rfl) (by rw [ej_2]; decide +kernel) (by rw [ej_2]; decide +kernel) (by rw [ej_2]; decide +kernel) (by decide) ?_
      have hF := gf_neg (by rw [ej_2]; decide) hF
      have hF := gf_neg (by rw [ej_2]; decide) hF
      have hF := gf_neg (by rw [ej_2]; decide) hF
      have hF := gf_neg (by rw [ej_2]; decide) hF
      have hF := gf_neg (by rw [ej_2]; decide) hF
      have hF := gf_pos (by rw [ej_2]; rfl) hF
      refine lv_aload_n hx hb (dk_at dkX12_count 17 rfl) rfl (lv_at hl 0 rfl) ?_
      refine va_get (D := (dC, dI)) (ci := 12) (v := .int (mi 17)) (C := RX12) (T := TX12) (N := 57) hx hb hts (fun w h => List.mem_cons_of_mem _ (jnGB_X12 w h)) hown hK hP 0 rfl rfl 17 (by decide) (hts _ (List.mem_cons_of_mem _ mGB_112)) (fun _ h9 => h9) rfl (dk_at dkX12_count 18 rfl) ?_
      exact W.iret (v := (mi 17)) hx hb hr (fun t ht hW => ⟨⟨(mi 17), (), rfl, ⟨(gi_any (mi 17)), hF.trans hR9.symm⟩, trivial⟩, hS.F ht⟩) hS.2.2 (dk_at dkX12_count 19 rfl)
    · refine lv_tableIn (off := 89) (tgt := 90) hx hb (dk_at dkX12_count 1 rfl) (by rw [ej_2]; decide +kernel) (by rw [ej_2]; decide +kernel) (by rw [ej_2]; decide +kernel) (by decide) ?_
      have hF := gf_neg (by rw [ej_2]; decide) hF
      have hF := gf_neg (by rw [ej_2]; decide) hF
      have hF := gf_neg (by rw [ej_2]; decide) hF
      have hF := gf_neg (by rw [ej_2]; decide) hF
      have hF := gf_neg (by rw [ej_2]; decide) hF
      have hF := gf_neg (by rw [ej_2]; decide) hF
      have hF := gf_pos (by rw [ej_2]; rfl) hF
      refine lv_aload_n hx hb (dk_at dkX12_count 20 rfl) rfl (lv_at hl 0 rfl) ?_
      refine va_get (D := (dC, dI)) (ci := 12) (v := .int (mi 3)) (C := RX12) (T := TX12) (N := 57) hx hb hts (fun w h => List.mem_cons_of_mem _ (jnGB_X12 w h)) hown hK hP 0 rfl rfl 3 (by decide) (hts _ (List.mem_cons_of_mem _ mGB_106)) (fun _ h9 => h9) rfl (dk_at dkX12_count 21 rfl) ?_
      exact W.iret (v := (mi 3)) hx hb hr (fun t ht hW => ⟨⟨(mi 3), (), rfl, ⟨(gi_any (mi 3)), hF.trans hR9.symm⟩, trivial⟩, hS.F ht⟩) hS.2.2 (dk_at dkX12_count 22 rfl)
    · refine lv_tableIn (off := 94) (tgt := 95) hx hb (dk_at dkX12_count 1 rfl) (by rw [ej_2]; decide +kernel) (by rw [ej_2]; decide +kernel) (by rw [ej_2]; decide +kernel) (by decide) ?_
      have hF := gf_neg (by rw [ej_2]; decide) hF
      have hF := gf_neg (by rw [ej_2]; decide) hF
      have hF := gf_neg (by rw [ej_2]; decide) hF
      have hF := gf_neg (by rw [ej_2]; decide) hF
      have hF := gf_neg (by rw [ej_2]; decide) hF
      have hF := gf_neg (by rw [ej_2]; decide) hF
      have hF := gf_neg (by rw [ej_2]; decide) hF
      have hF := gf_pos (by rw [ej_2]; rfl) hF
      refine lv_aload_n hx hb (dk_at dkX12_count 23 rfl) rfl (lv_at hl 0 rfl) ?_
      refine va_get (D := (dC, dI)) (ci := 12) (v := .int (mi 26)) (C := RX12) (T := TX12) (N := 57) hx hb hts (fun w h => List.mem_cons_of_mem _ (jnGB_X12 w h)) hown hK hP 0 rfl rfl 26 (by decide) (hts _ (List.mem_cons_of_mem _ mGB_43)) (fun _ h9 => h9) rfl (dk_at dkX12_count 24 rfl) ?_
      exact W.iret (v := (mi 26)) hx hb hr (fun t ht hW => ⟨⟨(mi 26), (), rfl, ⟨(gi_any (mi 26)), hF.trans hR9.symm⟩, trivial⟩, hS.F ht⟩) hS.2.2 (dk_at dkX12_count 25 rfl)
    · refine lv_tableIn (off := 99) (tgt := 100) hx hb (dk_at dkX12_count 1 rfl) (by rw [ej_2]; decide +kernel) (by rw [ej_2]; decide +kernel) (by rw [ej_2]; decide +kernel) (by decide) ?_
      have hF := gf_neg (by rw [ej_2]; decide) hF
      have hF := gf_neg (by rw [ej_2]; decide) hF
      have hF := gf_neg (by rw [ej_2]; decide) hF
      have hF := gf_neg (by rw [ej_2]; decide) hF
      have hF := gf_neg (by rw [ej_2]; decide) hF
      have hF := gf_neg (by rw [ej_2]; decide) hF
      have hF := gf_neg (by rw [ej_2]; decide) hF
      have hF := gf_neg (by rw [ej_2]; decide) hF
      have hF := gf_pos (by rw [ej_2]; rfl) hF
      refine lv_aload_n hx hb (dk_at dkX12_count 26 rfl) rfl (lv_at hl 0 rfl) ?_
      refine va_get (D := (dC, dI)) (ci := 12) (v := .int (mi 56)) (C := RX12) (T := TX12) (N := 57) hx hb hts (fun w h => List.mem_cons_of_mem _ (jnGB_X12 w h)) hown hK hP 0 rfl rfl 56 (by decide) (hts _ (List.mem_cons_of_mem _ mGB_219)) (fun _ h9 => h9) rfl (dk_at dkX12_count 27 rfl) ?_
      exact W.iret (v := (mi 56)) hx hb hr (fun t ht hW => ⟨⟨(mi 56), (), rfl, ⟨(gi_any (mi 56)), hF.trans hR9.symm⟩, trivial⟩, hS.F ht⟩) hS.2.2 (dk_at dkX12_count 28 rfl)
    · refine lv_tableIn (off := 104) (tgt := 105) hx hb (dk_at dkX12_count 1 rfl) (by rw [ej_2]; decide +kernel) (by rw [ej_2]; decide +kernel) (by rw [ej_2]; decide +kernel) (by decide) ?_
      have hF := gf_neg (by rw [ej_2]; decide) hF
      have hF := gf_neg (by rw [ej_2]; decide) hF
      have hF := gf_neg (by rw [ej_2]; decide) hF
      have hF := gf_neg (by rw [ej_2]; decide) hF
      have hF := gf_neg (by rw [ej_2]; decide) hF
      have hF := gf_neg (by rw [ej_2]; decide) hF
      have hF := gf_neg (by rw [ej_2]; decide) hF
      have hF := gf_neg (by rw [ej_2]; decide) hF
      have hF := gf_neg (by rw [ej_2]; decide) hF
      have hF := gf_pos (by rw [ej_2]; rfl) hF
      refine lv_aload_n hx hb (dk_at dkX12_count 29 rfl) rfl (lv_at hl 0 rfl) ?_
      refine va_get (D := (dC, dI)) (ci := 12) (v := .int (mi 5)) (C := RX12) (T := TX12) (N := 57) hx hb hts (fun w h => List.mem_cons_of_mem _ (jnGB_X12 w h)) hown hK hP 0 rfl rfl 5 (by decide) (hts _ (List.mem_cons_of_mem _ mGB_108)) (fun _ h9 => h9) rfl (dk_at dkX12_count 30 rfl) ?_
      exact W.iret (v := (mi 5)) hx hb hr (fun t ht hW => ⟨⟨(mi 5), (), rfl, ⟨(gi_any (mi 5)), hF.trans hR9.symm⟩, trivial⟩, hS.F ht⟩) hS.2.2 (dk_at dkX12_count 31 rfl)
    · refine lv_tableIn (off := 109) (tgt := 110) hx hb (dk_at dkX12_count 1 rfl) (by rw [ej_2]; decide +kernel) (by rw [ej_2]; decide +kernel) (by rw [ej_2]; decide +kernel) (by decide) ?_
      have hF := gf_neg (by rw [ej_2]; decide) hF
      have hF := gf_neg (by rw [ej_2]; decide) hF
      have hF := gf_neg (by rw [ej_2]; decide) hF
      have hF := gf_neg (by rw [ej_2]; decide) hF
      have hF := gf_neg (by rw [ej_2]; decide) hF
      have hF := gf_neg (by rw [ej_2]; decide) hF
      have hF := gf_neg (by rw [ej_2]; decide) hF
      have hF := gf_neg (by rw [ej_2]; decide) hF
      have hF := gf_neg (by rw [ej_2]; decide) hF
      have hF := gf_neg (by rw [ej_2]; decide) hF
      have hF := gf_pos (by rw [ej_2]; rfl) hF
      refine lv_aload_n hx hb (dk_at dkX12_count 32 rfl) rfl (lv_at hl 0 rfl) ?_
      refine va_get (D := (dC, dI)) (ci := 12) (v := .int (mi 6)) (C := RX12) (T := TX12) (N := 57) hx hb hts (fun w h => List.mem_cons_of_mem _ (jnGB_X12 w h)) hown hK hP 0 rfl rfl 6 (by decide) (hts _ (List.mem_cons_of_mem _ mGB_109)) (fun _ h9 => h9) rfl (dk_at dkX12_count 33 rfl) ?_
      exact W.iret (v := (mi 6)) hx hb hr (fun t ht hW => ⟨⟨(mi 6), (), rfl, ⟨(gi_any (mi 6)), hF.trans hR9.symm⟩, trivial⟩, hS.F ht⟩) hS.2.2 (dk_at dkX12_count 34 rfl)
noncomputable def lsX12_early : List (Nat × Instr × Nat) := [(0, .aload_n 0, 1), (1, .getfield 129, 3), (4, .ifCond .eq 25, 3), (7, .iload_n 1, 1), (8, .i2l, 1), (9, .lconst 1, 1), (10, .aload_n 0, 1), (11, .getfield 117, 3), (14, .i2l, 1), (15, .invokestatic 102, 3), (18, .ifCond .eq 11, 3), (21, .aload_n 0, 1), (22, .iload_n 1, 1), (23, .invokevirtual 309, 3), (26, .goto 5, 3), (29, .bipush (-2), 2), (31, .ireturn, 1)]
theorem dkX12_early : dkAll cX12_early lsX12_early = true := by decide +kernel
noncomputable def bfX12_early_31 (mi : Nat → Int32) (p1 : Int32) (s0 : Int32) : Int32 := s0
noncomputable def bfX12_early_29 (mi : Nat → Int32) (p1 : Int32) : Int32 := bfX12_early_31 mi p1 (-2 : Int32)
noncomputable def fX12_early (mi : Nat → Int32) (p1 : Int32) : Int32 := if (mi 4) = (0 : Int32) then (bfX12_early_29 mi p1) else (cal (fun o1 => if o1 = (0 : Int32) then (bfX12_early_29 mi p1) else (cal (fun o2 => bfX12_early_31 mi p1 o2) (fX12_earlyOf mi p1))) (fX12_in (p1.toInt64) (1 : Int64) ((mi 0).toInt64)))
set_option maxHeartbeats 4000000 in
set_option maxRecDepth 100000 in
theorem sX12_early (l : Launch) (dC : Nat → ClassId) (dI : Nat → Nat → Nat) (h0 : Nat) (mi : Nat → Int32) (mr : Nat → Nat) (km : Nat → ClassId) (fm_trust : Nat → Int32) (fm_letter : Nat → Int32) (fm_reportPlace : Nat → Int32) (fm_reportKind : Nat → Int32) (fm_struck : Nat → Int32) (fm_reportMonth : Nat → Int32) (fm_reportDay : Nat → Int32) (fm_reportKnown : Nat → Int32) (fm_deedMonth : Nat → Int32) (fm_deedDay : Nat → Int32) (fm_deedLong : Nat → Int32) (fm_deedKind : Nat → Int32) (fm_kept : Nat → Int32) (fm_tape : Nat → Int32) (fm_must : Nat → Int32) (fm_least : Nat → Int32) (fm_pin : Nat → Int32) (fm_ways : Nat → Int32) (fm_verdict : Nat → Int32) (fm_row : Nat → Int32) (fm_official : Nat → Int32) (fm_aside : Nat → Int32) (fm_worth : Nat → Int32) (fm_out : Nat → Int32) (p1 : Int32) (gmi_0 : gi (mi 0) 0 24) (gmi_1 : gi (mi 1) 0 5) (gmi_2 : gi (mi 2) 0 5) (gmi_4 : gi (mi 4) 0 1) (gmi_7 : gi (mi 7) 0 6) (gmi_10 : gi (mi 10) 0 24) (gmi_17 : gi (mi 17) 0 8) (gmi_23 : gi (mi 23) 0 300) (gmi_24 : gi (mi 24) 0 1) (gmi_26 : gi (mi 26) 0 1600) (gmi_29 : gi (mi 29) 0 1600) (gmi_30 : gi (mi 30) 0 1600) (gmi_33 : gi (mi 33) 0 1) (gmi_37 : gi (mi 37) 0 1) (gmi_41 : gi (mi 41) 0 24) (gmi_50 : gi (mi 50) 0 1) (gmi_51 : gi (mi 51) 0 1) (gmi_56 : gi (mi 56) 0 80) : Met l yX12_early (.code yX12_early cX12_early 2 (some .int) :: wsGB) ({ frames := 1, cells := 0, slots := 0, locals := 25 }) (va_Pc [.ref h0, .int p1] (fun U => va_P (dC, dI) vwCl (MWn h0 mr km (mi 0) (mi 1) (mi 2) (mi 3) (mi 4) (mi 5) (mi 6) (mi 7) (mi 10) (mi 17) (mi 23) (mi 24) (mi 26) (mi 27) (mi 28) (mi 29) (mi 30) (mi 31) (mi 32) (mi 33) (mi 37) (mi 41) (mi 42) (mi 43) (mi 44) (mi 45) (mi 47) (mi 48) (mi 49) (mi 50) (mi 51) (mi 54) (mi 56) fm_trust fm_letter fm_reportPlace fm_reportKind fm_struck fm_reportMonth fm_reportDay fm_reportKnown fm_deedMonth fm_deedDay fm_deedLong fm_deedKind fm_kept fm_tape fm_must fm_least fm_pin fm_ways fm_verdict fm_row fm_official fm_aside fm_worth fm_out) U.heap ∧ va_K (dC, dI) vwCl (MT km) U)) (va_Qi (fun (r : Int32) (u : Unit) => (gi r (-2147483648) 2147483647) ∧ r = fX12_early mi p1) (fun _ _ => True) (fun _ => False)) 0 0 (fun _ => False) := by
  refine Met.ofW (cc := cX12_early) (maxL := 2) (ret := (some .int)) (by decide) rfl ?_
  intro p e s m args below meth c s₁ B hml hv
  obtain ⟨rfl, hP, hK⟩ := hv
  have hx := B.exec
  have hb := B.bytes
  have hr := B.returns
  have hts := atoms_spec (ws := (.code yX12_early cX12_early 2 (some .int) :: wsGB)) B.pre
  have hown : s.vm.findClass RX12 = some m.cls := findClass_of_methodNamed B.named
  have hlocks := B.notSynchronized
  have hS : va_S (fun _ => False) s.heap s.heap [] := va_S.rf
  have hl := lv_entry ([.ref h0, .int p1]) (n := 2) (Nat.le_of_ble_eq_true rfl)
  rw [lg_entry_eq]
  generalize (lg_sl ([.ref h0, .int p1]) ++ List.replicate (2 - (lg_sl ([.ref h0, .int p1])).length) Slot.unset).toArray = ls at hl ⊢
  have hl : lv_has ls 2 [(0, .ref h0), (1, .int p1)] := hl
  obtain ⟨RES, hF⟩ : ∃ R9, fX12_early mi p1 = R9 := ⟨_, rfl⟩
  have hR9 := hF
  refine lv_aload_n hx hb (dk_at dkX12_early 0 rfl) rfl (lv_at hl 0 rfl) ?_
  refine va_get (D := (dC, dI)) (ci := 12) (v := .int (mi 4)) (C := RX12) (T := TX12) (N := 57) hx hb hts (fun w h => List.mem_cons_of_mem _ (jnGB_X12 w h)) hown hK hP 0 rfl rfl 4 (by decide) (hts _ (List.mem_cons_of_mem _ mGB_107)) (fun _ h9 => h9) rfl (dk_at dkX12_early 1 rfl) ?_
  refine lv_if_eq (tgt := 29) hx hb (dk_at dkX12_early 2 rfl) (by decide) (fun c_12 => ?_) (fun c_12 => ?_)
  · have hF := gf_pos c_12 hF
    have g_13 : gi (mi 4) 0 0 := gi_eq c_12 (gi_c 0 0 (by decide))
    refine lv_bipush (v := (-2)) hx hb (dk_at dkX12_early 15 rfl) (by decide) ?_
    exact W.iret (v := (-2)) hx hb hr (fun t ht hW => ⟨⟨(-2), (), rfl, ⟨(gi_any (-2)), hF.trans hR9.symm⟩, trivial⟩, hS.F ht⟩) hS.2.2 (dk_at dkX12_early 16 rfl)
  · have hF := gf_neg c_12 hF
    have g_14 : gi (mi 4) 1 1 := gi_ne_lo c_12 gmi_4 (gi_c 0 0 (by decide)) (by decide)
    refine lv_iload_n hx hb (dk_at dkX12_early 3 rfl) rfl (lv_at hl 1 rfl) ?_
    refine lv_i2l (v := (p1).toInt64) hx hb (dk_at dkX12_early 4 rfl) rfl ?_
    refine lv_topl (fun l_15 el_15 => ?_)
    refine lv_lconst (v := 1) hx hb (dk_at dkX12_early 5 rfl) (by decide) ?_
    refine lv_aload_n hx hb (dk_at dkX12_early 6 rfl) rfl (lv_at hl 0 rfl) ?_
    refine va_get (D := (dC, dI)) (ci := 12) (v := .int (mi 0)) (C := RX12) (T := TX12) (N := 57) hx hb hts (fun w h => List.mem_cons_of_mem _ (jnGB_X12 w h)) hown hK hP 0 rfl rfl 0 (by decide) (hts _ (List.mem_cons_of_mem _ mGB_103)) (fun _ h9 => h9) rfl (dk_at dkX12_early 7 rfl) ?_
    refine lv_i2l (v := ((mi 0)).toInt64) hx hb (dk_at dkX12_early 8 rfl) rfl ?_
    refine lv_topl (fun l_16 el_16 => ?_)
    have hPc := hP.sub (ws' := []) [] rfl
    have hKc := hK.sub (tys' := []) [] rfl
    refine va_calli (va_runS (As := [.long l_15, .long 1, .long l_16]) (rest := []) ⟨hx, hb, hml, hown, hts⟩ (sX12_in l dC dI l_15 1 l_16) (cwS 3 hts (gz_gS mGB_47 mGB_48 mGB_1 mGB_49 goodGB) rfl rfl rfl (by decide +kernel) ⟨Nat.le_of_ble_eq_true rfl, Nat.le_of_ble_eq_true rfl⟩) ⟨bl_R, fun U hU hW => ⟨rfl, by rw [hU]; exact hPc, va_K.moved hW.alike hKc⟩⟩ rfl rfl hl.1 rfl (lv_room (Nat.le_of_ble_eq_true rfl)) (dk_at dkX12_early 9 rfl) ⟨Nat.zero_le _, Nat.zero_le _⟩) hS (fun q _ h => h.elim) (fun q h => h.elim) (fun r_17 u t H1 locs ht hvm hw hB hz1 hk1 hS => ?_)
    obtain ⟨hw, hE⟩ := hw
    have hP := gz_keep hP hk1
    have hF := gf_call (a := r_17) (by rw [el_16, el_15] at hE; exact hE) hF
    generalize H1 = H at hP hS ⊢
    have gr_17 : gi r_17 0 1 := hw.1
    have hqr_17 := hw.2
    refine lv_if_eq (tgt := 29) hx hb (dk_at dkX12_early 10 rfl) (by decide) (fun c_18 => ?_) (fun c_18 => ?_)
    · have hF := gf_pos c_18 hF
      have g_19 : gi r_17 0 0 := gi_eq c_18 (gi_c 0 0 (by decide))
      refine lv_bipush (v := (-2)) hx hb (dk_at dkX12_early 15 rfl) (by decide) ?_
      exact W.iret (v := (-2)) hx hb hr (fun t ht hW => ⟨⟨(-2), (), rfl, ⟨(gi_any (-2)), hF.trans hR9.symm⟩, trivial⟩, hS.F ht⟩) hS.2.2 (dk_at dkX12_early 16 rfl)
    · have hF := gf_neg c_18 hF
      have g_20 : gi r_17 1 1 := gi_ne_lo c_18 gr_17 (gi_c 0 0 (by decide)) (by decide)
      have g_21 : gi p1 1 24 := gi_cap (gi_any p1) (gz_inr (hqr_17.1 (gz_one g_20)) el_15 (A := 1) (B := 24) (by decide) (gz_l2u el_16 gmi_0)) (by decide)
      refine lv_aload_n hx hb (dk_at dkX12_early 11 rfl) rfl (lv_at hl 0 rfl) ?_
      refine lv_iload_n hx hb (dk_at dkX12_early 12 rfl) rfl (lv_at hl 1 rfl) ?_
      refine va_calli (va_runV (As := [.int p1]) (rest := []) ⟨hx, hb, hml, hown, hts⟩ (sX12_earlyOf l dC dI h0 mi mr km fm_trust fm_letter fm_reportPlace fm_reportKind fm_struck fm_reportMonth fm_reportDay fm_reportKnown fm_deedMonth fm_deedDay fm_deedLong fm_deedKind fm_kept fm_tape fm_must fm_least fm_pin fm_ways fm_verdict fm_row fm_official fm_aside fm_worth fm_out p1 gmi_0 gmi_1 gmi_2 (gi_w g_14 (by decide)) gmi_7 gmi_10 gmi_17 gmi_23 gmi_24 gmi_26 gmi_29 gmi_30 gmi_33 gmi_37 gmi_41 gmi_50 gmi_51 gmi_56) (cwV 1 hts (gz_gV mGB_249 mGB_250 mGB_251 mGB_1 mGB_252 goodGB) rfl rfl rfl (by decide +kernel) ⟨Nat.le_of_ble_eq_true rfl, Nat.le_of_ble_eq_true rfl⟩) ⟨bl_R, mw_recv hK hP, fun U hU hW => ⟨rfl, by rw [hU]; exact hP, va_K.moved hW.alike hK⟩⟩ rfl rfl hl.1 rfl (lv_room (Nat.le_of_ble_eq_true rfl)) (dk_at dkX12_early 13 rfl) ⟨Nat.zero_le _, Nat.zero_le _⟩) hS (fun q _ h => h.elim) (fun q h => h.elim) (fun r_22 u t H1 locs ht hvm hw hB hz1 hk1 hS => ?_)
      obtain ⟨hw, hE⟩ := hw
      have hP := gz_keep hP hk1
      have hF := gf_callm (a := r_22) hE hF (by first | with_reducible rfl | simp only [upd_same, upd_app, ↓reduceIte, Nat.reduceEqDiff])
      generalize H1 = H at hP hS ⊢
      refine lv_goto (tgt := 31) hx hb (dk_at dkX12_early 14 rfl) (by decide) ?_
      exact W.iret (v := r_22) hx hb hr (fun t ht hW => ⟨⟨r_22, (), rfl, ⟨(gi_any r_22), hF.trans hR9.symm⟩, trivial⟩, hS.F ht⟩) hS.2.2 (dk_at dkX12_early 16 rfl)
noncomputable def lsX12_moon : List (Nat × Instr × Nat) := [(0, .aload_n 0, 1), (1, .getfield 126, 3), (4, .ifCond .eq 29, 3), (7, .iload_n 1, 1), (8, .i2l, 1), (9, .lconst 0, 1), (10, .ldc2_w 488, 3), (13, .invokestatic 102, 3), (16, .ifCond .eq 17, 3), (19, .iload_n 2, 1), (20, .i2l, 1), (21, .ldc2_w 490, 3), (24, .ldc2_w 492, 3), (27, .invokestatic 102, 3), (30, .ifCond .ne 6, 3), (33, .bipush (-2), 2), (35, .ireturn, 1), (36, .aload_n 0, 1), (37, .iconst 1, 1), (38, .putfield 129, 3), (41, .aload_n 0, 1), (42, .iload_n 1, 1), (43, .putfield 132, 3), (46, .aload_n 0, 1), (47, .iload_n 2, 1), (48, .putfield 135, 3), (51, .aload_n 0, 1), (52, .iconst 1, 1), (53, .invokevirtual 309, 3), (56, .ireturn, 1)]
theorem dkX12_moon : dkAll cX12_moon lsX12_moon = true := by decide +kernel
noncomputable def bfX12_moon_33 (mi : Nat → Int32) (p1 : Int32) (p2 : Int32) (w0_4 : Int32) (w0_5 : Int32) (w0_6 : Int32) : Int32 × Int32 × Int32 × Int32 := ((-2 : Int32), w0_4, w0_5, w0_6)
noncomputable def fX12_moon (mi : Nat → Int32) (p1 : Int32) (p2 : Int32) : Int32 × Int32 × Int32 × Int32 := if (mi 3) = (0 : Int32) then (bfX12_moon_33 mi p1 p2 (mi 4) (mi 5) (mi 6)) else (cal (fun o1 => if o1 = (0 : Int32) then (bfX12_moon_33 mi p1 p2 (mi 4) (mi 5) (mi 6)) else (cal (fun o2 => if o2 = (0 : Int32) then (bfX12_moon_33 mi p1 p2 (mi 4) (mi 5) (mi 6)) else (cal (fun o3 => (o3, (1 : Int32), p1, p2)) (fX12_earlyOf (upd (upd (upd mi 4 1) 5 p1) 6 p2) (1 : Int32)))) (fX12_in (p2.toInt64) (28000 : Int64) (31000 : Int64)))) (fX12_in (p1.toInt64) (0 : Int64) (99999 : Int64)))
abbrev pb_sX12_moon (dC : Nat → ClassId) (dI : Nat → Nat → Nat) (A9 : Nat → Prop) (h0 : Nat) (mi : Nat → Int32) (mr : Nat → Nat) (km : Nat → ClassId) (fm_trust : Nat → Int32) (fm_letter : Nat → Int32) (fm_reportPlace : Nat → Int32) (fm_reportKind : Nat → Int32) (fm_struck : Nat → Int32) (fm_reportMonth : Nat → Int32) (fm_reportDay : Nat → Int32) (fm_reportKnown : Nat → Int32) (fm_deedMonth : Nat → Int32) (fm_deedDay : Nat → Int32) (fm_deedLong : Nat → Int32) (fm_deedKind : Nat → Int32) (fm_kept : Nat → Int32) (fm_tape : Nat → Int32) (fm_must : Nat → Int32) (fm_least : Nat → Int32) (fm_pin : Nat → Int32) (fm_ways : Nat → Int32) (fm_verdict : Nat → Int32) (fm_row : Nat → Int32) (fm_official : Nat → Int32) (fm_aside : Nat → Int32) (fm_worth : Nat → Int32) (fm_out : Nat → Int32) (p1 : Int32) (p2 : Int32) (r : Int32) (w0_4 : Int32) (w0_5 : Int32) (w0_6 : Int32) (t : State) : Prop := gi w0_4 0 1 ∧ (r, w0_4, w0_5, w0_6) = fX12_moon mi p1 p2 ∧ va_P (dC, dI) vwCl (MWn h0 mr km (mi 0) (mi 1) (mi 2) (mi 3) w0_4 w0_5 w0_6 (mi 7) (mi 10) (mi 17) (mi 23) (mi 24) (mi 26) (mi 27) (mi 28) (mi 29) (mi 30) (mi 31) (mi 32) (mi 33) (mi 37) (mi 41) (mi 42) (mi 43) (mi 44) (mi 45) (mi 47) (mi 48) (mi 49) (mi 50) (mi 51) (mi 54) (mi 56) fm_trust fm_letter fm_reportPlace fm_reportKind fm_struck fm_reportMonth fm_reportDay fm_reportKnown fm_deedMonth fm_deedDay fm_deedLong fm_deedKind fm_kept fm_tape fm_must fm_least fm_pin fm_ways fm_verdict fm_row fm_official fm_aside fm_worth fm_out) t.heap ∧ va_D A9 (MWn h0 mr km (mi 0) (mi 1) (mi 2) (mi 3) w0_4 w0_5 w0_6 (mi 7) (mi 10) (mi 17) (mi 23) (mi 24) (mi 26) (mi 27) (mi 28) (mi 29) (mi 30) (mi 31) (mi 32) (mi 33) (mi 37) (mi 41) (mi 42) (mi 43) (mi 44) (mi 45) (mi 47) (mi 48) (mi 49) (mi 50) (mi 51) (mi 54) (mi 56) fm_trust fm_letter fm_reportPlace fm_reportKind fm_struck fm_reportMonth fm_reportDay fm_reportKnown fm_deedMonth fm_deedDay fm_deedLong fm_deedKind fm_kept fm_tape fm_must fm_least fm_pin fm_ways fm_verdict fm_row fm_official fm_aside fm_worth fm_out)
set_option maxHeartbeats 4000000 in
set_option maxRecDepth 100000 in
theorem sX12_moon (l : Launch) (dC : Nat → ClassId) (dI : Nat → Nat → Nat) (sz : Nat) (h0 : Nat) (mi : Nat → Int32) (mr : Nat → Nat) (km : Nat → ClassId) (fm_trust : Nat → Int32) (fm_letter : Nat → Int32) (fm_reportPlace : Nat → Int32) (fm_reportKind : Nat → Int32) (fm_struck : Nat → Int32) (fm_reportMonth : Nat → Int32) (fm_reportDay : Nat → Int32) (fm_reportKnown : Nat → Int32) (fm_deedMonth : Nat → Int32) (fm_deedDay : Nat → Int32) (fm_deedLong : Nat → Int32) (fm_deedKind : Nat → Int32) (fm_kept : Nat → Int32) (fm_tape : Nat → Int32) (fm_must : Nat → Int32) (fm_least : Nat → Int32) (fm_pin : Nat → Int32) (fm_ways : Nat → Int32) (fm_verdict : Nat → Int32) (fm_row : Nat → Int32) (fm_official : Nat → Int32) (fm_aside : Nat → Int32) (fm_worth : Nat → Int32) (fm_out : Nat → Int32) (p1 : Int32) (p2 : Int32) (gmi_0 : gi (mi 0) 0 24) (gmi_1 : gi (mi 1) 0 5) (gmi_2 : gi (mi 2) 0 5) (gmi_4 : gi (mi 4) 0 1) (gmi_7 : gi (mi 7) 0 6) (gmi_10 : gi (mi 10) 0 24) (gmi_17 : gi (mi 17) 0 8) (gmi_23 : gi (mi 23) 0 300) (gmi_24 : gi (mi 24) 0 1) (gmi_26 : gi (mi 26) 0 1600) (gmi_29 : gi (mi 29) 0 1600) (gmi_30 : gi (mi 30) 0 1600) (gmi_33 : gi (mi 33) 0 1) (gmi_37 : gi (mi 37) 0 1) (gmi_41 : gi (mi 41) 0 24) (gmi_50 : gi (mi 50) 0 1) (gmi_51 : gi (mi 51) 0 1) (gmi_56 : gi (mi 56) 0 80) : Met l yX12_moon (.code yX12_moon cX12_moon 3 (some .int) :: wsGB) ({ frames := 1, cells := 0, slots := 0, locals := 25 }) (va_Pc [.ref h0, .int p1, .int p2] (fun U => U.heap.size = sz ∧ va_P (dC, dI) vwCl (MWn h0 mr km (mi 0) (mi 1) (mi 2) (mi 3) (mi 4) (mi 5) (mi 6) (mi 7) (mi 10) (mi 17) (mi 23) (mi 24) (mi 26) (mi 27) (mi 28) (mi 29) (mi 30) (mi 31) (mi 32) (mi 33) (mi 37) (mi 41) (mi 42) (mi 43) (mi 44) (mi 45) (mi 47) (mi 48) (mi 49) (mi 50) (mi 51) (mi 54) (mi 56) fm_trust fm_letter fm_reportPlace fm_reportKind fm_struck fm_reportMonth fm_reportDay fm_reportKnown fm_deedMonth fm_deedDay fm_deedLong fm_deedKind fm_kept fm_tape fm_must fm_least fm_pin fm_ways fm_verdict fm_row fm_official fm_aside fm_worth fm_out) U.heap ∧ va_K (dC, dI) vwCl (MT km) U ∧ va_D (fun _ => True) (MWn h0 mr km (mi 0) (mi 1) (mi 2) (mi 3) (mi 4) (mi 5) (mi 6) (mi 7) (mi 10) (mi 17) (mi 23) (mi 24) (mi 26) (mi 27) (mi 28) (mi 29) (mi 30) (mi 31) (mi 32) (mi 33) (mi 37) (mi 41) (mi 42) (mi 43) (mi 44) (mi 45) (mi 47) (mi 48) (mi 49) (mi 50) (mi 51) (mi 54) (mi 56) fm_trust fm_letter fm_reportPlace fm_reportKind fm_struck fm_reportMonth fm_reportDay fm_reportKnown fm_deedMonth fm_deedDay fm_deedLong fm_deedKind fm_kept fm_tape fm_must fm_least fm_pin fm_ways fm_verdict fm_row fm_official fm_aside fm_worth fm_out))) (va_Qi (fun (r : Int32) (u : Int32) => r = u ∧ gi r (-2147483648) 2147483647) (fun r t => ∃ (w0_4 : Int32) (w0_5 : Int32) (w0_6 : Int32), pb_sX12_moon dC dI (va_A (MWn h0 mr km (mi 0) (mi 1) (mi 2) (mi 3) (mi 4) (mi 5) (mi 6) (mi 7) (mi 10) (mi 17) (mi 23) (mi 24) (mi 26) (mi 27) (mi 28) (mi 29) (mi 30) (mi 31) (mi 32) (mi 33) (mi 37) (mi 41) (mi 42) (mi 43) (mi 44) (mi 45) (mi 47) (mi 48) (mi 49) (mi 50) (mi 51) (mi 54) (mi 56) fm_trust fm_letter fm_reportPlace fm_reportKind fm_struck fm_reportMonth fm_reportDay fm_reportKnown fm_deedMonth fm_deedDay fm_deedLong fm_deedKind fm_kept fm_tape fm_must fm_least fm_pin fm_ways fm_verdict fm_row fm_official fm_aside fm_worth fm_out) sz) h0 mi mr km fm_trust fm_letter fm_reportPlace fm_reportKind fm_struck fm_reportMonth fm_reportDay fm_reportKnown fm_deedMonth fm_deedDay fm_deedLong fm_deedKind fm_kept fm_tape fm_must fm_least fm_pin fm_ways fm_verdict fm_row fm_official fm_aside fm_worth fm_out p1 p2 r w0_4 w0_5 w0_6 t) (va_A (MWn h0 mr km (mi 0) (mi 1) (mi 2) (mi 3) (mi 4) (mi 5) (mi 6) (mi 7) (mi 10) (mi 17) (mi 23) (mi 24) (mi 26) (mi 27) (mi 28) (mi 29) (mi 30) (mi 31) (mi 32) (mi 33) (mi 37) (mi 41) (mi 42) (mi 43) (mi 44) (mi 45) (mi 47) (mi 48) (mi 49) (mi 50) (mi 51) (mi 54) (mi 56) fm_trust fm_letter fm_reportPlace fm_reportKind fm_struck fm_reportMonth fm_reportDay fm_reportKnown fm_deedMonth fm_deedDay fm_deedLong fm_deedKind fm_kept fm_tape fm_must fm_least fm_pin fm_ways fm_verdict fm_row fm_official fm_aside fm_worth fm_out) sz)) 0 0 (va_A (MWn h0 mr km (mi 0) (mi 1) (mi 2) (mi 3) (mi 4) (mi 5) (mi 6) (mi 7) (mi 10) (mi 17) (mi 23) (mi 24) (mi 26) (mi 27) (mi 28) (mi 29) (mi 30) (mi 31) (mi 32) (mi 33) (mi 37) (mi 41) (mi 42) (mi 43) (mi 44) (mi 45) (mi 47) (mi 48) (mi 49) (mi 50) (mi 51) (mi 54) (mi 56) fm_trust fm_letter fm_reportPlace fm_reportKind fm_struck fm_reportMonth fm_reportDay fm_reportKnown fm_deedMonth fm_deedDay fm_deedLong fm_deedKind fm_kept fm_tape fm_must fm_least fm_pin fm_ways fm_verdict fm_row fm_official fm_aside fm_worth fm_out) sz) := by
  refine Met.ofW (cc := cX12_moon) (maxL := 3) (ret := (some .int)) (by decide) rfl ?_
  intro p e s m args below meth c s₁ B hml hv
  obtain ⟨rfl, hsz, hP, hK, hD0⟩ := hv
  have hx := B.exec
  have hb := B.bytes
  have hr := B.returns
  have hts := atoms_spec (ws := (.code yX12_moon cX12_moon 3 (some .int) :: wsGB)) B.pre
  have hown : s.vm.findClass RX12 = some m.cls := findClass_of_methodNamed B.named
  have hlocks := B.notSynchronized
  subst hsz
  have hD := hD0.self (sz := s.heap.size)
  generalize hAe : va_A (MWn h0 mr km (mi 0) (mi 1) (mi 2) (mi 3) (mi 4) (mi 5) (mi 6) (mi 7) (mi 10) (mi 17) (mi 23) (mi 24) (mi 26) (mi 27) (mi 28) (mi 29) (mi 30) (mi 31) (mi 32) (mi 33) (mi 37) (mi 41) (mi 42) (mi 43) (mi 44) (mi 45) (mi 47) (mi 48) (mi 49) (mi 50) (mi 51) (mi 54) (mi 56) fm_trust fm_letter fm_reportPlace fm_reportKind fm_struck fm_reportMonth fm_reportDay fm_reportKnown fm_deedMonth fm_deedDay fm_deedLong fm_deedKind fm_kept fm_tape fm_must fm_least fm_pin fm_ways fm_verdict fm_row fm_official fm_aside fm_worth fm_out) s.heap.size = A at hD ⊢
  have hA : ∀ q : Nat, s.heap.size ≤ q → A q := fun q h => by rw [← hAe]; exact Or.inr h
  have hS : va_S A s.heap s.heap [] := va_S.rf
  have hl := lv_entry ([.ref h0, .int p1, .int p2]) (n := 3) (Nat.le_of_ble_eq_true rfl)
  rw [lg_entry_eq]
  generalize (lg_sl ([.ref h0, .int p1, .int p2]) ++ List.replicate (3 - (lg_sl ([.ref h0, .int p1, .int p2])).length) Slot.unset).toArray = ls at hl ⊢
  have hl : lv_has ls 3 [(0, .ref h0), (1, .int p1), (2, .int p2)] := hl
  obtain ⟨RES, hF⟩ : ∃ R9, fX12_moon mi p1 p2 = R9 := ⟨_, rfl⟩
  have hR9 := hF
  refine lv_aload_n hx hb (dk_at dkX12_moon 0 rfl) rfl (lv_at hl 0 rfl) ?_
  refine va_get (D := (dC, dI)) (ci := 12) (v := .int (mi 3)) (C := RX12) (T := TX12) (N := 57) hx hb hts (fun w h => List.mem_cons_of_mem _ (jnGB_X12 w h)) hown hK hP 0 rfl rfl 3 (by decide) (hts _ (List.mem_cons_of_mem _ mGB_106)) (fun _ h9 => h9) rfl (dk_at dkX12_moon 1 rfl) ?_
  refine lv_if_eq (tgt := 33) hx hb (dk_at dkX12_moon 2 rfl) (by decide) (fun c_31 => ?_) (fun c_31 => ?_)
  · have hF := gf_pos c_31 hF
    have g_32 : gi (mi 3) 0 0 := gi_eq c_31 (gi_c 0 0 (by decide))
    refine lv_bipush (v := (-2)) hx hb (dk_at dkX12_moon 15 rfl) (by decide) ?_
    exact W.iret (v := (-2)) hx hb hr (fun t ht hW => ⟨⟨(-2), (-2), rfl, ⟨rfl, (gi_any (-2))⟩, (mi 4), (mi 5), (mi 6), gmi_4, hF.trans hR9.symm, by rw [ht]; exact hP, hD⟩, hS.F ht⟩) hS.2.2 (dk_at dkX12_moon 16 rfl)
  · have hF := gf_neg c_31 hF
    refine lv_iload_n hx hb (dk_at dkX12_moon 3 rfl) rfl (lv_at hl 1 rfl) ?_
    refine lv_i2l (v := (p1).toInt64) hx hb (dk_at dkX12_moon 4 rfl) rfl ?_
    refine lv_topl (fun l_33 el_33 => ?_)
    refine lv_lconst (v := 0) hx hb (dk_at dkX12_moon 5 rfl) (by decide) ?_
    refine lv_ldc2 (own := RX12) (v := 99999) hx hb hown (hts _ (List.mem_cons_of_mem _ mGB_589)) (dk_at dkX12_moon 6 rfl) ?_
    have hPc := hP.sub (ws' := []) [] rfl
    have hKc := hK.sub (tys' := []) [] rfl
    refine va_calli (va_runS (As := [.long l_33, .long 0, .long 99999]) (rest := []) ⟨hx, hb, hml, hown, hts⟩ (sX12_in l dC dI l_33 0 99999) (cwS 3 hts (gz_gS mGB_47 mGB_48 mGB_1 mGB_49 goodGB) rfl rfl rfl (by decide +kernel) ⟨Nat.le_of_ble_eq_true rfl, Nat.le_of_ble_eq_true rfl⟩) ⟨bl_R, fun U hU hW => ⟨rfl, by rw [hU]; exact hPc, va_K.moved hW.alike hKc⟩⟩ rfl rfl hl.1 rfl (lv_room (Nat.le_of_ble_eq_true rfl)) (dk_at dkX12_moon 7 rfl) ⟨Nat.zero_le _, Nat.zero_le _⟩) hS (fun q _ h => h.elim) (fun q h => h.elim) (fun r_34 u t H1 locs ht hvm hw hB hz1 hk1 hS => ?_)
    obtain ⟨hw, hE⟩ := hw
    have hP := gz_keep hP hk1
    have hF := gf_call (a := r_34) (by rw [el_33] at hE; exact hE) hF
    generalize H1 = H at hP hS ⊢
    have gr_34 : gi r_34 0 1 := hw.1
    have hqr_34 := hw.2
    refine lv_if_eq (tgt := 33) hx hb (dk_at dkX12_moon 8 rfl) (by decide) (fun c_35 => ?_) (fun c_35 => ?_)
    · have hF := gf_pos c_35 hF
      have g_36 : gi r_34 0 0 := gi_eq c_35 (gi_c 0 0 (by decide))
      refine lv_bipush (v := (-2)) hx hb (dk_at dkX12_moon 15 rfl) (by decide) ?_
      exact W.iret (v := (-2)) hx hb hr (fun t ht hW => ⟨⟨(-2), (-2), rfl, ⟨rfl, (gi_any (-2))⟩, (mi 4), (mi 5), (mi 6), gmi_4, hF.trans hR9.symm, by rw [ht]; exact hP, hD⟩, hS.F ht⟩) hS.2.2 (dk_at dkX12_moon 16 rfl)
    · have hF := gf_neg c_35 hF
      have g_37 : gi r_34 1 1 := gi_ne_lo c_35 gr_34 (gi_c 0 0 (by decide)) (by decide)
      have g_38 : gi p1 0 99999 := gi_cap (gi_any p1) (gz_inr (hqr_34.1 (gz_one g_37)) el_33 (A := 0) (B := 99999) (by decide) (by decide)) (by decide)
      refine lv_iload_n hx hb (dk_at dkX12_moon 9 rfl) rfl (lv_at hl 2 rfl) ?_
      refine lv_i2l (v := (p2).toInt64) hx hb (dk_at dkX12_moon 10 rfl) rfl ?_
      refine lv_topl (fun l_39 el_39 => ?_)
      refine lv_ldc2 (own := RX12) (v := 28000) hx hb hown (hts _ (List.mem_cons_of_mem _ mGB_590)) (dk_at dkX12_moon 11 rfl) ?_
      refine lv_ldc2 (own := RX12) (v := 31000) hx hb hown (hts _ (List.mem_cons_of_mem _ mGB_591)) (dk_at dkX12_moon 12 rfl) ?_
      have hPc := hP.sub (ws' := []) [] rfl
      have hKc := hK.sub (tys' := []) [] rfl
      refine va_calli (va_runS (As := [.long l_39, .long 28000, .long 31000]) (rest := []) ⟨hx, hb, hml, hown, hts⟩ (sX12_in l dC dI l_39 28000 31000) (cwS 3 hts (gz_gS mGB_47 mGB_48 mGB_1 mGB_49 goodGB) rfl rfl rfl (by decide +kernel) ⟨Nat.le_of_ble_eq_true rfl, Nat.le_of_ble_eq_true rfl⟩) ⟨bl_R, fun U hU hW => ⟨rfl, by rw [hU]; exact hPc, va_K.moved hW.alike hKc⟩⟩ rfl rfl hl.1 rfl (lv_room (Nat.le_of_ble_eq_true rfl)) (dk_at dkX12_moon 13 rfl) ⟨Nat.zero_le _, Nat.zero_le _⟩) hS (fun q _ h => h.elim) (fun q h => h.elim) (fun r_40 u t H1 locs ht hvm hw hB hz1 hk1 hS => ?_)
      obtain ⟨hw, hE⟩ := hw
      have hP := gz_keep hP hk1
      have hF := gf_call (a := r_40) (by rw [el_39] at hE; exact hE) hF
      generalize H1 = H at hP hS ⊢
      have gr_40 : gi r_40 0 1 := hw.1
      have hqr_40 := hw.2
      refine lv_if_ne (tgt := 36) hx hb (dk_at dkX12_moon 14 rfl) (by decide) (fun c_41 => ?_) (fun c_41 => ?_)
      · have hF := gf_neg c_41 hF
        have g_42 : gi r_40 1 1 := gi_ne_lo c_41 gr_40 (gi_c 0 0 (by decide)) (by decide)
        have g_43 : gi p2 28000 31000 := gi_cap (gi_any p2) (gz_inr (hqr_40.1 (gz_one g_42)) el_39 (A := 28000) (B := 31000) (by decide) (by decide)) (by decide)
        refine lv_aload_n hx hb (dk_at dkX12_moon 17 rfl) rfl (lv_at hl 0 rfl) ?_
        refine lv_iconst (v := 1) hx hb (dk_at dkX12_moon 18 rfl) (by decide) ?_
        refine va_put (D := (dC, dI)) (ci := 12) (v := .int 1) (ty := .boolean) (C := RX12) (T := TX12) (N := 57) hx hb hts (fun w h => List.mem_cons_of_mem _ (jnGB_X12 w h)) tyX12 tyX12_ok nmX12 hown hK hP hD hS 0 rfl rfl 4 (by decide) (hts _ (List.mem_cons_of_mem _ mGB_107)) (fun _ h9 => h9) rfl (by decide +kernel) rfl rfl (Nat.le_of_ble_eq_true rfl) (dk_at dkX12_moon 19 rfl) (fun H locs hP hD hS => ?_)
        obtain ⟨hP, hD⟩ := gz_both (w := (MWn h0 mr km (mi 0) (mi 1) (mi 2) (mi 3) 1 (mi 5) (mi 6) (mi 7) (mi 10) (mi 17) (mi 23) (mi 24) (mi 26) (mi 27) (mi 28) (mi 29) (mi 30) (mi 31) (mi 32) (mi 33) (mi 37) (mi 41) (mi 42) (mi 43) (mi 44) (mi 45) (mi 47) (mi 48) (mi 49) (mi 50) (mi 51) (mi 54) (mi 56) fm_trust fm_letter fm_reportPlace fm_reportKind fm_struck fm_reportMonth fm_reportDay fm_reportKnown fm_deedMonth fm_deedDay fm_deedLong fm_deedKind fm_kept fm_tape fm_must fm_least fm_pin fm_ways fm_verdict fm_row fm_official fm_aside fm_worth fm_out)) hP hD
        refine lv_aload_n hx hb (dk_at dkX12_moon 20 rfl) rfl (lv_at hl 0 rfl) ?_
        refine lv_iload_n hx hb (dk_at dkX12_moon 21 rfl) rfl (lv_at hl 1 rfl) ?_
        refine va_put (D := (dC, dI)) (ci := 12) (v := .int p1) (ty := .int) (C := RX12) (T := TX12) (N := 57) hx hb hts (fun w h => List.mem_cons_of_mem _ (jnGB_X12 w h)) tyX12 tyX12_ok nmX12 hown hK hP hD hS 0 rfl rfl 5 (by decide) (hts _ (List.mem_cons_of_mem _ mGB_108)) (fun _ h9 => h9) rfl (by decide +kernel) rfl rfl (Nat.le_of_ble_eq_true rfl) (dk_at dkX12_moon 22 rfl) (fun H locs hP hD hS => ?_)
        obtain ⟨hP, hD⟩ := gz_both (w := (MWn h0 mr km (mi 0) (mi 1) (mi 2) (mi 3) 1 p1 (mi 6) (mi 7) (mi 10) (mi 17) (mi 23) (mi 24) (mi 26) (mi 27) (mi 28) (mi 29) (mi 30) (mi 31) (mi 32) (mi 33) (mi 37) (mi 41) (mi 42) (mi 43) (mi 44) (mi 45) (mi 47) (mi 48) (mi 49) (mi 50) (mi 51) (mi 54) (mi 56) fm_trust fm_letter fm_reportPlace fm_reportKind fm_struck fm_reportMonth fm_reportDay fm_reportKnown fm_deedMonth fm_deedDay fm_deedLong fm_deedKind fm_kept fm_tape fm_must fm_least fm_pin fm_ways fm_verdict fm_row fm_official fm_aside fm_worth fm_out)) hP hD
        refine lv_aload_n hx hb (dk_at dkX12_moon 23 rfl) rfl (lv_at hl 0 rfl) ?_
        refine lv_iload_n hx hb (dk_at dkX12_moon 24 rfl) rfl (lv_at hl 2 rfl) ?_
        refine va_put (D := (dC, dI)) (ci := 12) (v := .int p2) (ty := .int) (C := RX12) (T := TX12) (N := 57) hx hb hts (fun w h => List.mem_cons_of_mem _ (jnGB_X12 w h)) tyX12 tyX12_ok nmX12 hown hK hP hD hS 0 rfl rfl 6 (by decide) (hts _ (List.mem_cons_of_mem _ mGB_109)) (fun _ h9 => h9) rfl (by decide +kernel) rfl rfl (Nat.le_of_ble_eq_true rfl) (dk_at dkX12_moon 25 rfl) (fun H locs hP hD hS => ?_)
        obtain ⟨hP, hD⟩ := gz_both (w := (MWn h0 mr km (mi 0) (mi 1) (mi 2) (mi 3) 1 p1 p2 (mi 7) (mi 10) (mi 17) (mi 23) (mi 24) (mi 26) (mi 27) (mi 28) (mi 29) (mi 30) (mi 31) (mi 32) (mi 33) (mi 37) (mi 41) (mi 42) (mi 43) (mi 44) (mi 45) (mi 47) (mi 48) (mi 49) (mi 50) (mi 51) (mi 54) (mi 56) fm_trust fm_letter fm_reportPlace fm_reportKind fm_struck fm_reportMonth fm_reportDay fm_reportKnown fm_deedMonth fm_deedDay fm_deedLong fm_deedKind fm_kept fm_tape fm_must fm_least fm_pin fm_ways fm_verdict fm_row fm_official fm_aside fm_worth fm_out)) hP hD
        refine lv_aload_n hx hb (dk_at dkX12_moon 26 rfl) rfl (lv_at hl 0 rfl) ?_
        refine lv_iconst (v := 1) hx hb (dk_at dkX12_moon 27 rfl) (by decide) ?_
        refine va_calli (va_runV (As := [.int 1]) (rest := []) ⟨hx, hb, hml, hown, hts⟩ (sX12_earlyOf l dC dI h0 (upd (upd (upd mi 4 1) 5 p1) 6 p2) mr km fm_trust fm_letter fm_reportPlace fm_reportKind fm_struck fm_reportMonth fm_reportDay fm_reportKnown fm_deedMonth fm_deedDay fm_deedLong fm_deedKind fm_kept fm_tape fm_must fm_least fm_pin fm_ways fm_verdict fm_row fm_official fm_aside fm_worth fm_out 1 gmi_0 gmi_1 gmi_2 (gi_w (gi_c 1 1 (by decide)) (by decide)) gmi_7 gmi_10 gmi_17 gmi_23 gmi_24 gmi_26 gmi_29 gmi_30 gmi_33 gmi_37 gmi_41 gmi_50 gmi_51 gmi_56) (cwV 1 hts (gz_gV mGB_249 mGB_250 mGB_251 mGB_1 mGB_252 goodGB) rfl rfl rfl (by decide +kernel) ⟨Nat.le_of_ble_eq_true rfl, Nat.le_of_ble_eq_true rfl⟩) ⟨bl_R, mw_recv hK hP, fun U hU hW => ⟨rfl, by rw [hU]; exact hP, va_K.moved hW.alike hK⟩⟩ rfl rfl hl.1 rfl (lv_room (Nat.le_of_ble_eq_true rfl)) (dk_at dkX12_moon 28 rfl) ⟨Nat.zero_le _, Nat.zero_le _⟩) hS (fun q _ h => h.elim) (fun q h => h.elim) (fun r_44 u t H1 locs ht hvm hw hB hz1 hk1 hS => ?_)
        obtain ⟨hw, hE⟩ := hw
        have hP := gz_keep hP hk1
        have hF := gf_callm (a := r_44) hE hF (by first | with_reducible rfl | simp only [upd_same, upd_app, ↓reduceIte, Nat.reduceEqDiff])
        generalize H1 = H at hP hS ⊢
        exact W.iret (v := r_44) hx hb hr (fun t ht hW => ⟨⟨r_44, r_44, rfl, ⟨rfl, (gi_any r_44)⟩, 1, p1, p2, (gi_w (gi_c 1 1 (by decide)) (by decide)), hF.trans hR9.symm, by rw [ht]; exact hP, hD⟩, hS.F ht⟩) hS.2.2 (dk_at dkX12_moon 29 rfl)
      · have hF := gf_pos c_41 hF
        have g_45 : gi r_40 0 0 := gi_eq c_41 (gi_c 0 0 (by decide))
        refine lv_bipush (v := (-2)) hx hb (dk_at dkX12_moon 15 rfl) (by decide) ?_
        exact W.iret (v := (-2)) hx hb hr (fun t ht hW => ⟨⟨(-2), (-2), rfl, ⟨rfl, (gi_any (-2))⟩, (mi 4), (mi 5), (mi 6), gmi_4, hF.trans hR9.symm, by rw [ht]; exact hP, hD⟩, hS.F ht⟩) hS.2.2 (dk_at dkX12_moon 16 rfl)
noncomputable def lsX12_trusts : List (Nat × Instr × Nat) := [(0, .aload_n 0, 1), (1, .iload_n 1, 1), (2, .invokevirtual 294, 3), (5, .ifCond .eq 15, 3), (8, .iload_n 2, 1), (9, .i2l, 1), (10, .lconst 0, 1), (11, .ldc2_w 486, 3), (14, .invokestatic 102, 3), (17, .ifCond .ne 6, 3), (20, .bipush (-2), 2), (22, .ireturn, 1), (23, .aload_n 0, 1), (24, .getfield 7, 3), (27, .iload_n 1, 1), (28, .iaload, 1), (29, .istore_n 3, 1), (30, .aload_n 0, 1), (31, .getfield 7, 3), (34, .iload_n 1, 1), (35, .iload_n 2, 1), (36, .iastore, 1), (37, .iload_n 3, 1), (38, .ireturn, 1)]
theorem dkX12_trusts : dkAll cX12_trusts lsX12_trusts = true := by decide +kernel
noncomputable def bfX12_trusts_20 (mi : Nat → Int32) (fm_trust : Nat → Int32) (p1 : Int32) (p2 : Int32) (z1 : Nat → Int32) : Int32 × (Nat → Int32) := ((-2 : Int32), z1)
noncomputable def fX12_trusts (mi : Nat → Int32) (fm_trust : Nat → Int32) (p1 : Int32) (p2 : Int32) : Int32 × (Nat → Int32) := cal (fun o1 => if o1 = (0 : Int32) then (bfX12_trusts_20 mi fm_trust p1 p2 fm_trust) else (cal (fun o2 => if o2 = (0 : Int32) then (bfX12_trusts_20 mi fm_trust p1 p2 fm_trust) else ((fm_trust p1.toNatClampNeg), (upd fm_trust p1.toNatClampNeg p2))) (fX12_in (p2.toInt64) (0 : Int64) (9 : Int64)))) (fX12_isPlace mi p1)
abbrev pb_sX12_trusts (dC : Nat → ClassId) (dI : Nat → Nat → Nat) (A9 : Nat → Prop) (h0 : Nat) (mi : Nat → Int32) (mr : Nat → Nat) (km : Nat → ClassId) (fm_trust : Nat → Int32) (fm_letter : Nat → Int32) (fm_reportPlace : Nat → Int32) (fm_reportKind : Nat → Int32) (fm_struck : Nat → Int32) (fm_reportMonth : Nat → Int32) (fm_reportDay : Nat → Int32) (fm_reportKnown : Nat → Int32) (fm_deedMonth : Nat → Int32) (fm_deedDay : Nat → Int32) (fm_deedLong : Nat → Int32) (fm_deedKind : Nat → Int32) (fm_kept : Nat → Int32) (fm_tape : Nat → Int32) (fm_must : Nat → Int32) (fm_least : Nat → Int32) (fm_pin : Nat → Int32) (fm_ways : Nat → Int32) (fm_verdict : Nat → Int32) (fm_row : Nat → Int32) (fm_official : Nat → Int32) (fm_aside : Nat → Int32) (fm_worth : Nat → Int32) (fm_out : Nat → Int32) (p1 : Int32) (p2 : Int32) (r : Int32) (z1 : Nat → Int32) (t : State) : Prop := (r, z1) = fX12_trusts mi fm_trust p1 p2 ∧ va_P (dC, dI) vwCl (MWn h0 mr km (mi 0) (mi 1) (mi 2) (mi 3) (mi 4) (mi 5) (mi 6) (mi 7) (mi 10) (mi 17) (mi 23) (mi 24) (mi 26) (mi 27) (mi 28) (mi 29) (mi 30) (mi 31) (mi 32) (mi 33) (mi 37) (mi 41) (mi 42) (mi 43) (mi 44) (mi 45) (mi 47) (mi 48) (mi 49) (mi 50) (mi 51) (mi 54) (mi 56) z1 fm_letter fm_reportPlace fm_reportKind fm_struck fm_reportMonth fm_reportDay fm_reportKnown fm_deedMonth fm_deedDay fm_deedLong fm_deedKind fm_kept fm_tape fm_must fm_least fm_pin fm_ways fm_verdict fm_row fm_official fm_aside fm_worth fm_out) t.heap ∧ va_D A9 (MWn h0 mr km (mi 0) (mi 1) (mi 2) (mi 3) (mi 4) (mi 5) (mi 6) (mi 7) (mi 10) (mi 17) (mi 23) (mi 24) (mi 26) (mi 27) (mi 28) (mi 29) (mi 30) (mi 31) (mi 32) (mi 33) (mi 37) (mi 41) (mi 42) (mi 43) (mi 44) (mi 45) (mi 47) (mi 48) (mi 49) (mi 50) (mi 51) (mi 54) (mi 56) z1 fm_letter fm_reportPlace fm_reportKind fm_struck fm_reportMonth fm_reportDay fm_reportKnown fm_deedMonth fm_deedDay fm_deedLong fm_deedKind fm_kept fm_tape fm_must fm_least fm_pin fm_ways fm_verdict fm_row fm_official fm_aside fm_worth fm_out)
set_option maxHeartbeats 4000000 in
set_option maxRecDepth 100000 in
theorem sX12_trusts (l : Launch) (dC : Nat → ClassId) (dI : Nat → Nat → Nat) (sz : Nat) (h0 : Nat) (mi : Nat → Int32) (mr : Nat → Nat) (km : Nat → ClassId) (fm_trust : Nat → Int32) (fm_letter : Nat → Int32) (fm_reportPlace : Nat → Int32) (fm_reportKind : Nat → Int32) (fm_struck : Nat → Int32) (fm_reportMonth : Nat → Int32) (fm_reportDay : Nat → Int32) (fm_reportKnown : Nat → Int32) (fm_deedMonth : Nat → Int32) (fm_deedDay : Nat → Int32) (fm_deedLong : Nat → Int32) (fm_deedKind : Nat → Int32) (fm_kept : Nat → Int32) (fm_tape : Nat → Int32) (fm_must : Nat → Int32) (fm_least : Nat → Int32) (fm_pin : Nat → Int32) (fm_ways : Nat → Int32) (fm_verdict : Nat → Int32) (fm_row : Nat → Int32) (fm_official : Nat → Int32) (fm_aside : Nat → Int32) (fm_worth : Nat → Int32) (fm_out : Nat → Int32) (p1 : Int32) (p2 : Int32) (gmi_0 : gi (mi 0) 0 24) (gmi_1 : gi (mi 1) 0 5) (gmi_2 : gi (mi 2) 0 5) (gmi_4 : gi (mi 4) 0 1) (gmi_7 : gi (mi 7) 0 6) (gmi_10 : gi (mi 10) 0 24) (gmi_17 : gi (mi 17) 0 8) (gmi_23 : gi (mi 23) 0 300) (gmi_24 : gi (mi 24) 0 1) (gmi_26 : gi (mi 26) 0 1600) (gmi_29 : gi (mi 29) 0 1600) (gmi_30 : gi (mi 30) 0 1600) (gmi_33 : gi (mi 33) 0 1) (gmi_37 : gi (mi 37) 0 1) (gmi_41 : gi (mi 41) 0 24) (gmi_50 : gi (mi 50) 0 1) (gmi_51 : gi (mi 51) 0 1) (gmi_56 : gi (mi 56) 0 80) : Met l yX12_trusts (.code yX12_trusts cX12_trusts 4 (some .int) :: wsGB) ({ frames := 2, cells := 0, slots := 0, locals := 46 }) (va_Pc [.ref h0, .int p1, .int p2] (fun U => U.heap.size = sz ∧ va_P (dC, dI) vwCl (MWn h0 mr km (mi 0) (mi 1) (mi 2) (mi 3) (mi 4) (mi 5) (mi 6) (mi 7) (mi 10) (mi 17) (mi 23) (mi 24) (mi 26) (mi 27) (mi 28) (mi 29) (mi 30) (mi 31) (mi 32) (mi 33) (mi 37) (mi 41) (mi 42) (mi 43) (mi 44) (mi 45) (mi 47) (mi 48) (mi 49) (mi 50) (mi 51) (mi 54) (mi 56) fm_trust fm_letter fm_reportPlace fm_reportKind fm_struck fm_reportMonth fm_reportDay fm_reportKnown fm_deedMonth fm_deedDay fm_deedLong fm_deedKind fm_kept fm_tape fm_must fm_least fm_pin fm_ways fm_verdict fm_row fm_official fm_aside fm_worth fm_out) U.heap ∧ va_K (dC, dI) vwCl (MT km) U ∧ va_D (fun _ => True) (MWn h0 mr km (mi 0) (mi 1) (mi 2) (mi 3) (mi 4) (mi 5) (mi 6) (mi 7) (mi 10) (mi 17) (mi 23) (mi 24) (mi 26) (mi 27) (mi 28) (mi 29) (mi 30) (mi 31) (mi 32) (mi 33) (mi 37) (mi 41) (mi 42) (mi 43) (mi 44) (mi 45) (mi 47) (mi 48) (mi 49) (mi 50) (mi 51) (mi 54) (mi 56) fm_trust fm_letter fm_reportPlace fm_reportKind fm_struck fm_reportMonth fm_reportDay fm_reportKnown fm_deedMonth fm_deedDay fm_deedLong fm_deedKind fm_kept fm_tape fm_must fm_least fm_pin fm_ways fm_verdict fm_row fm_official fm_aside fm_worth fm_out))) (va_Qi (fun (r : Int32) (u : Int32) => r = u ∧ gi r (-2147483648) 2147483647) (fun r t => ∃ (z1 : Nat → Int32), pb_sX12_trusts dC dI (va_A (MWn h0 mr km (mi 0) (mi 1) (mi 2) (mi 3) (mi 4) (mi 5) (mi 6) (mi 7) (mi 10) (mi 17) (mi 23) (mi 24) (mi 26) (mi 27) (mi 28) (mi 29) (mi 30) (mi 31) (mi 32) (mi 33) (mi 37) (mi 41) (mi 42) (mi 43) (mi 44) (mi 45) (mi 47) (mi 48) (mi 49) (mi 50) (mi 51) (mi 54) (mi 56) fm_trust fm_letter fm_reportPlace fm_reportKind fm_struck fm_reportMonth fm_reportDay fm_reportKnown fm_deedMonth fm_deedDay fm_deedLong fm_deedKind fm_kept fm_tape fm_must fm_least fm_pin fm_ways fm_verdict fm_row fm_official fm_aside fm_worth fm_out) sz) h0 mi mr km fm_trust fm_letter fm_reportPlace fm_reportKind fm_struck fm_reportMonth fm_reportDay fm_reportKnown fm_deedMonth fm_deedDay fm_deedLong fm_deedKind fm_kept fm_tape fm_must fm_least fm_pin fm_ways fm_verdict fm_row fm_official fm_aside fm_worth fm_out p1 p2 r z1 t) (va_A (MWn h0 mr km (mi 0) (mi 1) (mi 2) (mi 3) (mi 4) (mi 5) (mi 6) (mi 7) (mi 10) (mi 17) (mi 23) (mi 24) (mi 26) (mi 27) (mi 28) (mi 29) (mi 30) (mi 31) (mi 32) (mi 33) (mi 37) (mi 41) (mi 42) (mi 43) (mi 44) (mi 45) (mi 47) (mi 48) (mi 49) (mi 50) (mi 51) (mi 54) (mi 56) fm_trust fm_letter fm_reportPlace fm_reportKind fm_struck fm_reportMonth fm_reportDay fm_reportKnown fm_deedMonth fm_deedDay fm_deedLong fm_deedKind fm_kept fm_tape fm_must fm_least fm_pin fm_ways fm_verdict fm_row fm_official fm_aside fm_worth fm_out) sz)) 0 0 (va_A (MWn h0 mr km (mi 0) (mi 1) (mi 2) (mi 3) (mi 4) (mi 5) (mi 6) (mi 7) (mi 10) (mi 17) (mi 23) (mi 24) (mi 26) (mi 27) (mi 28) (mi 29) (mi 30) (mi 31) (mi 32) (mi 33) (mi 37) (mi 41) (mi 42) (mi 43) (mi 44) (mi 45) (mi 47) (mi 48) (mi 49) (mi 50) (mi 51) (mi 54) (mi 56) fm_trust fm_letter fm_reportPlace fm_reportKind fm_struck fm_reportMonth fm_reportDay fm_reportKnown fm_deedMonth fm_deedDay fm_deedLong fm_deedKind fm_kept fm_tape fm_must fm_least fm_pin fm_ways fm_verdict fm_row fm_official fm_aside fm_worth fm_out) sz) := by
  refine Met.ofW (cc := cX12_trusts) (maxL := 4) (ret := (some .int)) (by decide) rfl ?_
  intro p e s m args below meth c s₁ B hml hv
  obtain ⟨rfl, hsz, hP, hK, hD0⟩ := hv
  have hx := B.exec
  have hb := B.bytes
  have hr := B.returns
  have hts := atoms_spec (ws := (.code yX12_trusts cX12_trusts 4 (some .int) :: wsGB)) B.pre
  have hown : s.vm.findClass RX12 = some m.cls := findClass_of_methodNamed B.named
  have hlocks := B.notSynchronized
  subst hsz
  have hD := hD0.self (sz := s.heap.size)
  generalize hAe : va_A (MWn h0 mr km (mi 0) (mi 1) (mi 2) (mi 3) (mi 4) (mi 5) (mi 6) (mi 7) (mi 10) (mi 17) (mi 23) (mi 24) (mi 26) (mi 27) (mi 28) (mi 29) (mi 30) (mi 31) (mi 32) (mi 33) (mi 37) (mi 41) (mi 42) (mi 43) (mi 44) (mi 45) (mi 47) (mi 48) (mi 49) (mi 50) (mi 51) (mi 54) (mi 56) fm_trust fm_letter fm_reportPlace fm_reportKind fm_struck fm_reportMonth fm_reportDay fm_reportKnown fm_deedMonth fm_deedDay fm_deedLong fm_deedKind fm_kept fm_tape fm_must fm_least fm_pin fm_ways fm_verdict fm_row fm_official fm_aside fm_worth fm_out) s.heap.size = A at hD ⊢
  have hA : ∀ q : Nat, s.heap.size ≤ q → A q := fun q h => by rw [← hAe]; exact Or.inr h
  have hS : va_S A s.heap s.heap [] := va_S.rf
  have hl := lv_entry ([.ref h0, .int p1, .int p2]) (n := 4) (Nat.le_of_ble_eq_true rfl)
  rw [lg_entry_eq]
  generalize (lg_sl ([.ref h0, .int p1, .int p2]) ++ List.replicate (4 - (lg_sl ([.ref h0, .int p1, .int p2])).length) Slot.unset).toArray = ls at hl ⊢
  have hl : lv_has ls 4 [(0, .ref h0), (1, .int p1), (2, .int p2)] := hl
  obtain ⟨RES, hF⟩ : ∃ R9, fX12_trusts mi fm_trust p1 p2 = R9 := ⟨_, rfl⟩
  have hR9 := hF
  refine lv_aload_n hx hb (dk_at dkX12_trusts 0 rfl) rfl (lv_at hl 0 rfl) ?_
  refine lv_iload_n hx hb (dk_at dkX12_trusts 1 rfl) rfl (lv_at hl 1 rfl) ?_
  refine va_calli (va_runV (As := [.int p1]) (rest := []) ⟨hx, hb, hml, hown, hts⟩ (sX12_isPlace l dC dI h0 mi mr km fm_trust fm_letter fm_reportPlace fm_reportKind fm_struck fm_reportMonth fm_reportDay fm_reportKnown fm_deedMonth fm_deedDay fm_deedLong fm_deedKind fm_kept fm_tape fm_must fm_least fm_pin fm_ways fm_verdict fm_row fm_official fm_aside fm_worth fm_out p1 gmi_0 gmi_1 gmi_2 gmi_4 gmi_7 gmi_10 gmi_17 gmi_23 gmi_24 gmi_26 gmi_29 gmi_30 gmi_33 gmi_37 gmi_41 gmi_50 gmi_51 gmi_56) (cwV 1 hts (gz_gV mGB_224 mGB_225 mGB_226 mGB_1 mGB_227 goodGB) rfl rfl rfl (by decide +kernel) ⟨Nat.le_of_ble_eq_true rfl, Nat.le_of_ble_eq_true rfl⟩) ⟨bl_R, mw_recv hK hP, fun U hU hW => ⟨rfl, by rw [hU]; exact hP, va_K.moved hW.alike hK⟩⟩ rfl rfl hl.1 rfl (lv_room (Nat.le_of_ble_eq_true rfl)) (dk_at dkX12_trusts 2 rfl) ⟨Nat.zero_le _, Nat.zero_le _⟩) hS (fun q _ h => h.elim) (fun q h => h.elim) (fun r_27 u t H1 locs ht hvm hw hB hz1 hk1 hS => ?_)
  obtain ⟨hw, hE⟩ := hw
  have hP := gz_keep hP hk1
  have hF := gf_callm (a := r_27) hE hF (by first | with_reducible rfl | simp only [upd_same, upd_app, ↓reduceIte, Nat.reduceEqDiff])
  generalize H1 = H at hP hS ⊢
  have gr_27 : gi r_27 0 1 := hw.1
  have hqr_27 := hw.2
  refine lv_if_eq (tgt := 20) hx hb (dk_at dkX12_trusts 3 rfl) (by decide) (fun c_28 => ?_) (fun c_28 => ?_)
  · have hF := gf_pos c_28 hF
    have g_29 : gi r_27 0 0 := gi_eq c_28 (gi_c 0 0 (by decide))
    refine lv_bipush (v := (-2)) hx hb (dk_at dkX12_trusts 10 rfl) (by decide) ?_
    exact W.iret (v := (-2)) hx hb hr (fun t ht hW => ⟨⟨(-2), (-2), rfl, ⟨rfl, (gi_any (-2))⟩, fm_trust, hF.trans hR9.symm, by rw [ht]; exact hP, hD⟩, hS.F ht⟩) hS.2.2 (dk_at dkX12_trusts 11 rfl)
  · have hF := gf_neg c_28 hF
    have g_30 : gi r_27 1 1 := gi_ne_lo c_28 gr_27 (gi_c 0 0 (by decide)) (by decide)
    have g_31 : gi p1 0 5 := gi_cap (gi_any p1) (hqr_27 (gz_one g_30)) (by decide)
    refine lv_iload_n hx hb (dk_at dkX12_trusts 4 rfl) rfl (lv_at hl 2 rfl) ?_
    refine lv_i2l (v := (p2).toInt64) hx hb (dk_at dkX12_trusts 5 rfl) rfl ?_
    refine lv_topl (fun l_32 el_32 => ?_)
    refine lv_lconst (v := 0) hx hb (dk_at dkX12_trusts 6 rfl) (by decide) ?_
    refine lv_ldc2 (own := RX12) (v := 9) hx hb hown (hts _ (List.mem_cons_of_mem _ mGB_585)) (dk_at dkX12_trusts 7 rfl) ?_
    have hPc := hP.sub (ws' := []) [] rfl
    have hKc := hK.sub (tys' := []) [] rfl
    refine va_calli (va_runS (As := [.long l_32, .long 0, .long 9]) (rest := []) ⟨hx, hb, hml, hown, hts⟩ (sX12_in l dC dI l_32 0 9) (cwS 3 hts (gz_gS mGB_47 mGB_48 mGB_1 mGB_49 goodGB) rfl rfl rfl (by decide +kernel) ⟨Nat.le_of_ble_eq_true rfl, Nat.le_of_ble_eq_true rfl⟩) ⟨bl_R, fun U hU hW => ⟨rfl, by rw [hU]; exact hPc, va_K.moved hW.alike hKc⟩⟩ rfl rfl hl.1 rfl (lv_room (Nat.le_of_ble_eq_true rfl)) (dk_at dkX12_trusts 8 rfl) ⟨Nat.zero_le _, Nat.zero_le _⟩) hS (fun q _ h => h.elim) (fun q h => h.elim) (fun r_33 u t H1 locs ht hvm hw hB hz1 hk1 hS => ?_)
    obtain ⟨hw, hE⟩ := hw
    have hP := gz_keep hP hk1
    have hF := gf_call (a := r_33) (by rw [el_32] at hE; exact hE) hF
    generalize H1 = H at hP hS ⊢
    have gr_33 : gi r_33 0 1 := hw.1
    have hqr_33 := hw.2
    refine lv_if_ne (tgt := 23) hx hb (dk_at dkX12_trusts 9 rfl) (by decide) (fun c_34 => ?_) (fun c_34 => ?_)
    · have hF := gf_neg c_34 hF
      have g_35 : gi r_33 1 1 := gi_ne_lo c_34 gr_33 (gi_c 0 0 (by decide)) (by decide)
      have g_36 : gi p2 0 9 := gi_cap (gi_any p2) (gz_inr (hqr_33.1 (gz_one g_35)) el_32 (A := 0) (B := 9) (by decide) (by decide)) (by decide)
      refine lv_aload_n hx hb (dk_at dkX12_trusts 12 rfl) rfl (lv_at hl 0 rfl) ?_
      refine va_get (D := (dC, dI)) (ci := 12) (v := .ref (mr 0)) (C := RX12) (T := TX12) (N := 57) hx hb hts (fun w h => List.mem_cons_of_mem _ (jnGB_X12 w h)) hown hK hP 0 rfl rfl 8 (by decide) (hts _ (List.mem_cons_of_mem _ mGB_10)) (fun _ h9 => h9) rfl (dk_at dkX12_trusts 13 rfl) ?_
      refine lv_iload_n hx hb (dk_at dkX12_trusts 14 rfl) rfl (lv_at hl 1 rfl) ?_
      refine va_iald hx hb hK hP 1 0 rfl rfl (gi_in g_31 (by decide)) (dk_at dkX12_trusts 15 rfl) ?_
      refine lv_topi (fun x_37 ex_37 => ?_)
      refine lv_istore_n (lv' := [(3, .int x_37), (0, .ref h0), (1, .int p1), (2, .int p2)]) hx hb (dk_at dkX12_trusts 16 rfl) rfl hl (by decide) rfl (fun ls hl => ?_)
      refine lv_aload_n hx hb (dk_at dkX12_trusts 17 rfl) rfl (lv_at hl 1 rfl) ?_
      refine va_get (D := (dC, dI)) (ci := 12) (v := .ref (mr 0)) (C := RX12) (T := TX12) (N := 57) hx hb hts (fun w h => List.mem_cons_of_mem _ (jnGB_X12 w h)) hown hK hP 0 rfl rfl 8 (by decide) (hts _ (List.mem_cons_of_mem _ mGB_10)) (fun _ h9 => h9) rfl (dk_at dkX12_trusts 18 rfl) ?_
      refine lv_iload_n hx hb (dk_at dkX12_trusts 19 rfl) rfl (lv_at hl 2 rfl) ?_
      refine lv_iload_n hx hb (dk_at dkX12_trusts 20 rfl) rfl (lv_at hl 3 rfl) ?_
      refine va_iast hx hb hK hP hD hS 1 0 rfl rfl (gi_in g_31 (by decide)) (dk_at dkX12_trusts 21 rfl) (fun H locs hP hD hS => ?_)
      obtain ⟨hP, hD⟩ := gz_both (w := (MWn h0 mr km (mi 0) (mi 1) (mi 2) (mi 3) (mi 4) (mi 5) (mi 6) (mi 7) (mi 10) (mi 17) (mi 23) (mi 24) (mi 26) (mi 27) (mi 28) (mi 29) (mi 30) (mi 31) (mi 32) (mi 33) (mi 37) (mi 41) (mi 42) (mi 43) (mi 44) (mi 45) (mi 47) (mi 48) (mi 49) (mi 50) (mi 51) (mi 54) (mi 56) (upd fm_trust (p1 : Int32).toNatClampNeg p2) fm_letter fm_reportPlace fm_reportKind fm_struck fm_reportMonth fm_reportDay fm_reportKnown fm_deedMonth fm_deedDay fm_deedLong fm_deedKind fm_kept fm_tape fm_must fm_least fm_pin fm_ways fm_verdict fm_row fm_official fm_aside fm_worth fm_out)) hP hD
      generalize ef_38 : upd fm_trust (p1 : Int32).toNatClampNeg p2 = f_38 at hP hD
      refine lv_iload_n hx hb (dk_at dkX12_trusts 22 rfl) rfl (lv_at hl 0 rfl) ?_
      exact W.iret (v := x_37) hx hb hr (fun t ht hW => ⟨⟨x_37, x_37, rfl, ⟨rfl, (gi_any x_37)⟩, f_38, by rw [← ef_38, ex_37]; exact hF.trans hR9.symm, by rw [ht]; exact hP, hD⟩, hS.F ht⟩) hS.2.2 (dk_at dkX12_trusts 23 rfl)
    · have hF := gf_pos c_34 hF
      have g_39 : gi r_33 0 0 := gi_eq c_34 (gi_c 0 0 (by decide))
      refine lv_bipush (v := (-2)) hx hb (dk_at dkX12_trusts 10 rfl) (by decide) ?_
      exact W.iret (v := (-2)) hx hb hr (fun t ht hW => ⟨⟨(-2), (-2), rfl, ⟨rfl, (gi_any (-2))⟩, fm_trust, hF.trans hR9.symm, by rw [ht]; exact hP, hD⟩, hS.F ht⟩) hS.2.2 (dk_at dkX12_trusts 11 rfl)
noncomputable def lsX12_strikes : List (Nat × Instr × Nat) := [(0, .aload_n 0, 1), (1, .iload_n 1, 1), (2, .invokevirtual 303, 3), (5, .ifCond .ne 6, 3), (8, .bipush (-2), 2), (10, .ireturn, 1), (11, .aload_n 0, 1), (12, .getfield 22, 3), (15, .iload_n 1, 1), (16, .baload, 1), (17, .ifCond .eq 6, 3), (20, .bipush (-5), 2), (22, .ireturn, 1), (23, .aload_n 0, 1), (24, .getfield 22, 3), (27, .iload_n 1, 1), (28, .iconst 1, 1), (29, .bastore, 1), (30, .iconst 0, 1), (31, .istore_n 2, 1), (32, .iconst 0, 1), (33, .istore_n 3, 1), (34, .iload_n 3, 1), (35, .aload_n 0, 1), (36, .getfield 141, 3), (39, .if_icmp .ge 26, 3), (42, .iload_n 2, 1), (43, .aload_n 0, 1), (44, .getfield 22, 3), (47, .iload_n 3, 1), (48, .baload, 1), (49, .ifCond .eq 7, 3), (52, .iconst 0, 1), (53, .goto 4, 3), (56, .iconst 1, 1), (57, .iadd, 1), (58, .istore_n 2, 1), (59, .iinc 3 1, 3), (62, .goto (-28), 3), (65, .iload_n 2, 1), (66, .ireturn, 1)]
theorem dkX12_strikes : dkAll cX12_strikes lsX12_strikes = true := by decide +kernel
noncomputable def bfX12_strikes_57 (mi : Nat → Int32) (fm_struck : Nat → Int32) (p1 : Int32) (K : (Int32 → Int32 → (Nat → Int32) → (Int32 × (Nat → Int32)))) (v3 : Int32) (s0 : Int32) (s1 : Int32) (z1 : Nat → Int32) : Int32 × (Nat → Int32) := K (s1 + s0) (v3 + (1 : Int32)) z1
noncomputable def dfX12_strikes_34 (mi : Nat → Int32) (fm_struck : Nat → Int32) (p1 : Int32) (K : (Int32 → Int32 → (Nat → Int32) → (Int32 × (Nat → Int32)))) (v2 : Int32) (v3 : Int32) (z1 : Nat → Int32) : Int32 × (Nat → Int32) := if (mi 10) ≤ v3 then (v2, z1) else (if (z1 v3.toNatClampNeg) = (0 : Int32) then (bfX12_strikes_57 mi fm_struck p1 K v3 (1 : Int32) v2 z1) else (bfX12_strikes_57 mi fm_struck p1 K v3 (0 : Int32) v2 z1))
noncomputable def lfX12_strikes (mi : Nat → Int32) (fm_struck : Nat → Int32) (p1 : Int32) (z : Nat) : (Int32 → Int32 → (Nat → Int32) → (Int32 × (Nat → Int32))) := Nat.rec (motive := fun _ => (Int32 → Int32 → (Nat → Int32) → (Int32 × (Nat → Int32)))) (fun _ _ _ => (0, fun _ => 0)) (fun _ K => dfX12_strikes_34 mi fm_struck p1 K) z
noncomputable def fX12_strikes (mi : Nat → Int32) (fm_struck : Nat → Int32) (p1 : Int32) : Int32 × (Nat → Int32) := cal (fun o1 => if o1 = (0 : Int32) then ((-2 : Int32), fm_struck) else (if (fm_struck p1.toNatClampNeg) = (0 : Int32) then ((lfX12_strikes mi fm_struck p1 1000000000) (0 : Int32) (0 : Int32) (upd fm_struck p1.toNatClampNeg (vp_nar .boolean (1 : Int32)))) else ((-5 : Int32), fm_struck))) (fX12_isReport mi p1)
set_option maxHeartbeats 4000000 in
set_option maxRecDepth 100000 in
theorem lp_sX12_strikes {p : Program} {l : Launch} {e : Env} {R : Room} {s : State} {m : MethodId} {args : Array Value} {below : List Frame} {meth : Method} {c : Code} {Q : State → Prop} {A : Nat → Prop} {cells slots : Nat} {dC : Nat → ClassId} {dI : Nat → Nat → Nat} {RES : Int32 × (Nat → Int32)} (h0 : Nat) (mi : Nat → Int32) (mr : Nat → Nat) (km : Nat → ClassId) (fm_struck : Nat → Int32) (fm_trust : Nat → Int32) (fm_letter : Nat → Int32) (fm_reportPlace : Nat → Int32) (fm_reportKind : Nat → Int32) (fm_reportMonth : Nat → Int32) (fm_reportDay : Nat → Int32) (fm_reportKnown : Nat → Int32) (fm_deedMonth : Nat → Int32) (fm_deedDay : Nat → Int32) (fm_deedLong : Nat → Int32) (fm_deedKind : Nat → Int32) (fm_kept : Nat → Int32) (fm_tape : Nat → Int32) (fm_must : Nat → Int32) (fm_least : Nat → Int32) (fm_pin : Nat → Int32) (fm_ways : Nat → Int32) (fm_verdict : Nat → Int32) (fm_row : Nat → Int32) (fm_official : Nat → Int32) (fm_aside : Nat → Int32) (fm_worth : Nat → Int32) (fm_out : Nat → Int32) (p1 : Int32) (gmi_0 : gi (mi 0) 0 24) (gmi_1 : gi (mi 1) 0 5) (gmi_2 : gi (mi 2) 0 5) (gmi_4 : gi (mi 4) 0 1) (gmi_7 : gi (mi 7) 0 6) (gmi_10 : gi (mi 10) 0 24) (gmi_17 : gi (mi 17) 0 8) (gmi_23 : gi (mi 23) 0 300) (gmi_24 : gi (mi 24) 0 1) (gmi_26 : gi (mi 26) 0 1600) (gmi_29 : gi (mi 29) 0 1600) (gmi_30 : gi (mi 30) 0 1600) (gmi_33 : gi (mi 33) 0 1) (gmi_37 : gi (mi 37) 0 1) (gmi_41 : gi (mi 41) 0 24) (gmi_50 : gi (mi 50) 0 1) (gmi_51 : gi (mi 51) 0 1) (gmi_56 : gi (mi 56) 0 80) (gfm_struck : ga fm_struck 24 0 1) (hx : p.tables.exec = Jvm.exec) (hb : c.code = cX12_strikes) (hml : c.maxLocals = 4) (hown : s.vm.findClass RX12 = some m.cls) (hts : ∀ w ∈ ((.code yX12_strikes cX12_strikes 4 (some .int) :: wsGB) : List Cond), w.before args s = true) (hK : va_K (dC, dI) vwCl (MT km) s) (hA : ∀ q : Nat, s.heap.size ≤ q → A q) (hRf : 2 ≤ R.frames) (hRl : 46 ≤ R.locals) (hRc : cells ≤ R.cells) (hRs : slots ≤ R.slots) (kr22 : ∀ (v : Int32) (z1 : Nat → Int32) (H : Heap) (locs : List Loc) (ls : Array Slot), gi v (-5) (-5) → ga z1 24 0 1 → (v, z1) = RES → va_P (dC, dI) vwCl (MWn h0 mr km (mi 0) (mi 1) (mi 2) (mi 3) (mi 4) (mi 5) (mi 6) (mi 7) (mi 10) (mi 17) (mi 23) (mi 24) (mi 26) (mi 27) (mi 28) (mi 29) (mi 30) (mi 31) (mi 32) (mi 33) (mi 37) (mi 41) (mi 42) (mi 43) (mi 44) (mi 45) (mi 47) (mi 48) (mi 49) (mi 50) (mi 51) (mi 54) (mi 56) fm_trust fm_letter fm_reportPlace fm_reportKind z1 fm_reportMonth fm_reportDay fm_reportKnown fm_deedMonth fm_deedDay fm_deedLong fm_deedKind fm_kept fm_tape fm_must fm_least fm_pin fm_ways fm_verdict fm_row fm_official fm_aside fm_worth fm_out) H → va_D A (MWn h0 mr km (mi 0) (mi 1) (mi 2) (mi 3) (mi 4) (mi 5) (mi 6) (mi 7) (mi 10) (mi 17) (mi 23) (mi 24) (mi 26) (mi 27) (mi 28) (mi 29) (mi 30) (mi 31) (mi 32) (mi 33) (mi 37) (mi 41) (mi 42) (mi 43) (mi 44) (mi 45) (mi 47) (mi 48) (mi 49) (mi 50) (mi 51) (mi 54) (mi 56) fm_trust fm_letter fm_reportPlace fm_reportKind z1 fm_reportMonth fm_reportDay fm_reportKnown fm_deedMonth fm_deedDay fm_deedLong fm_deedKind fm_kept fm_tape fm_must fm_least fm_pin fm_ways fm_verdict fm_row fm_official fm_aside fm_worth fm_out) → va_S A s.heap H locs → lv_has ls 4 [] → W p l e R s m args below meth c H locs cells slots Q (F0 m 22 ls [.int v])) (kr10 : ∀ (v : Int32) (z1 : Nat → Int32) (H : Heap) (locs : List Loc) (ls : Array Slot), gi v (-2) (-2) → ga z1 24 0 1 → (v, z1) = RES → va_P (dC, dI) vwCl (MWn h0 mr km (mi 0) (mi 1) (mi 2) (mi 3) (mi 4) (mi 5) (mi 6) (mi 7) (mi 10) (mi 17) (mi 23) (mi 24) (mi 26) (mi 27) (mi 28) (mi 29) (mi 30) (mi 31) (mi 32) (mi 33) (mi 37) (mi 41) (mi 42) (mi 43) (mi 44) (mi 45) (mi 47) (mi 48) (mi 49) (mi 50) (mi 51) (mi 54) (mi 56) fm_trust fm_letter fm_reportPlace fm_reportKind z1 fm_reportMonth fm_reportDay fm_reportKnown fm_deedMonth fm_deedDay fm_deedLong fm_deedKind fm_kept fm_tape fm_must fm_least fm_pin fm_ways fm_verdict fm_row fm_official fm_aside fm_worth fm_out) H → va_D A (MWn h0 mr km (mi 0) (mi 1) (mi 2) (mi 3) (mi 4) (mi 5) (mi 6) (mi 7) (mi 10) (mi 17) (mi 23) (mi 24) (mi 26) (mi 27) (mi 28) (mi 29) (mi 30) (mi 31) (mi 32) (mi 33) (mi 37) (mi 41) (mi 42) (mi 43) (mi 44) (mi 45) (mi 47) (mi 48) (mi 49) (mi 50) (mi 51) (mi 54) (mi 56) fm_trust fm_letter fm_reportPlace fm_reportKind z1 fm_reportMonth fm_reportDay fm_reportKnown fm_deedMonth fm_deedDay fm_deedLong fm_deedKind fm_kept fm_tape fm_must fm_least fm_pin fm_ways fm_verdict fm_row fm_official fm_aside fm_worth fm_out) → va_S A s.heap H locs → lv_has ls 4 [] → W p l e R s m args below meth c H locs cells slots Q (F0 m 10 ls [.int v])) (kr66 : ∀ (v : Int32) (z1 : Nat → Int32) (H : Heap) (locs : List Loc) (ls : Array Slot), ga z1 24 0 1 → (v, z1) = RES → va_P (dC, dI) vwCl (MWn h0 mr km (mi 0) (mi 1) (mi 2) (mi 3) (mi 4) (mi 5) (mi 6) (mi 7) (mi 10) (mi 17) (mi 23) (mi 24) (mi 26) (mi 27) (mi 28) (mi 29) (mi 30) (mi 31) (mi 32) (mi 33) (mi 37) (mi 41) (mi 42) (mi 43) (mi 44) (mi 45) (mi 47) (mi 48) (mi 49) (mi 50) (mi 51) (mi 54) (mi 56) fm_trust fm_letter fm_reportPlace fm_reportKind z1 fm_reportMonth fm_reportDay fm_reportKnown fm_deedMonth fm_deedDay fm_deedLong fm_deedKind fm_kept fm_tape fm_must fm_least fm_pin fm_ways fm_verdict fm_row fm_official fm_aside fm_worth fm_out) H → va_D A (MWn h0 mr km (mi 0) (mi 1) (mi 2) (mi 3) (mi 4) (mi 5) (mi 6) (mi 7) (mi 10) (mi 17) (mi 23) (mi 24) (mi 26) (mi 27) (mi 28) (mi 29) (mi 30) (mi 31) (mi 32) (mi 33) (mi 37) (mi 41) (mi 42) (mi 43) (mi 44) (mi 45) (mi 47) (mi 48) (mi 49) (mi 50) (mi 51) (mi 54) (mi 56) fm_trust fm_letter fm_reportPlace fm_reportKind z1 fm_reportMonth fm_reportDay fm_reportKnown fm_deedMonth fm_deedDay fm_deedLong fm_deedKind fm_kept fm_tape fm_must fm_least fm_pin fm_ways fm_verdict fm_row fm_official fm_aside fm_worth fm_out) → va_S A s.heap H locs → lv_has ls 4 [] → W p l e R s m args below meth c H locs cells slots Q (F0 m 66 ls [.int v])) : ∀ z : Nat, (∀ (v2 : Int32) (v3 : Int32) (z1 : Nat → Int32) (H : Heap) (locs : List Loc) (ls : Array Slot), gi p1 0 23 → gi v3 0 24 → ga z1 24 0 1 → (lfX12_strikes mi fm_struck p1 z) v2 v3 z1 = RES → 49 + (-2) * v3.toInt < (z : Int) → va_P (dC, dI) vwCl (MWn h0 mr km (mi 0) (mi 1) (mi 2) (mi 3) (mi 4) (mi 5) (mi 6) (mi 7) (mi 10) (mi 17) (mi 23) (mi 24) (mi 26) (mi 27) (mi 28) (mi 29) (mi 30) (mi 31) (mi 32) (mi 33) (mi 37) (mi 41) (mi 42) (mi 43) (mi 44) (mi 45) (mi 47) (mi 48) (mi 49) (mi 50) (mi 51) (mi 54) (mi 56) fm_trust fm_letter fm_reportPlace fm_reportKind z1 fm_reportMonth fm_reportDay fm_reportKnown fm_deedMonth fm_deedDay fm_deedLong fm_deedKind fm_kept fm_tape fm_must fm_least fm_pin fm_ways fm_verdict fm_row fm_official fm_aside fm_worth fm_out) H → va_D A (MWn h0 mr km (mi 0) (mi 1) (mi 2) (mi 3) (mi 4) (mi 5) (mi 6) (mi 7) (mi 10) (mi 17) (mi 23) (mi 24) (mi 26) (mi 27) (mi 28) (mi 29) (mi 30) (mi 31) (mi 32) (mi 33) (mi 37) (mi 41) (mi 42) (mi 43) (mi 44) (mi 45) (mi 47) (mi 48) (mi 49) (mi 50) (mi 51) (mi 54) (mi 56) fm_trust fm_letter fm_reportPlace fm_reportKind z1 fm_reportMonth fm_reportDay fm_reportKnown fm_deedMonth fm_deedDay fm_deedLong fm_deedKind fm_kept fm_tape fm_must fm_least fm_pin fm_ways fm_verdict fm_row fm_official fm_aside fm_worth fm_out) → va_S A s.heap H locs → lv_has ls 4 [(0, .ref h0), (1, .int p1), (2, .int v2), (3, .int v3)] → W p l e R s m args below meth c H locs cells slots Q (F0 m 34 ls [])) := by
  intro z
  induction z with
  | zero =>
    intro v2 v3 z1 H locs ls gf_p1 gv3 gz1 hF hmu hP hD hS hl
    exact absurd hmu (by have hv31 := gv3.1; have hv32 := gv3.2; omega)
  | succ z ih =>
      intro v2 v3 z1 H locs ls gf_p1 gv3 gz1 hF hmu hP hD hS hl
      have hF : dfX12_strikes_34 mi fm_struck p1 (lfX12_strikes mi fm_struck p1 z) v2 v3 z1 = RES := hF
      refine lv_iload_n hx hb (dk_at dkX12_strikes 22 rfl) rfl (lv_at hl 3 rfl) ?_
      refine lv_aload_n hx hb (dk_at dkX12_strikes 23 rfl) rfl (lv_at hl 0 rfl) ?_
      refine va_get (D := (dC, dI)) (ci := 12) (v := .int (mi 10)) (C := RX12) (T := TX12) (N := 57) hx hb hts (fun w h => List.mem_cons_of_mem _ (jnGB_X12 w h)) hown hK hP 0 rfl rfl 10 (by decide) (hts _ (List.mem_cons_of_mem _ mGB_111)) (fun _ h9 => h9) rfl (dk_at dkX12_strikes 24 rfl) ?_
      refine lv_icmp_ge (tgt := 65) hx hb (dk_at dkX12_strikes 25 rfl) (by decide) (fun c_820 => ?_) (fun c_820 => ?_)
      · have hF := gf_pos c_820 hF
        refine lv_iload_n hx hb (dk_at dkX12_strikes 39 rfl) rfl (lv_at hl 2 rfl) ?_
        exact kr66 v2 z1 _ _ _ gz1 hF hP hD hS (lv_sub hl [] rfl)
      · have hF := gf_neg c_820 hF
        have g_821 : gi v3 0 23 := gi_lt_l (Int32.not_le.mp c_820) gv3 gmi_10 (by decide)
        have g_822 : gi (mi 10) 1 24 := gi_lt_r (Int32.not_le.mp c_820) gv3 gmi_10 (by decide)
        refine lv_iload_n hx hb (dk_at dkX12_strikes 26 rfl) rfl (lv_at hl 2 rfl) ?_
        refine lv_aload_n hx hb (dk_at dkX12_strikes 27 rfl) rfl (lv_at hl 0 rfl) ?_
        refine va_get (D := (dC, dI)) (ci := 12) (v := .ref (mr 4)) (C := RX12) (T := TX12) (N := 57) hx hb hts (fun w h => List.mem_cons_of_mem _ (jnGB_X12 w h)) hown hK hP 0 rfl rfl 13 (by decide) (hts _ (List.mem_cons_of_mem _ mGB_15)) (fun _ h9 => h9) rfl (dk_at dkX12_strikes 28 rfl) ?_
        refine lv_iload_n hx hb (dk_at dkX12_strikes 29 rfl) rfl (lv_at hl 3 rfl) ?_
        refine va_zald hx hb hK hP 5 4 rfl rfl (gi_in g_821 (by decide)) (dk_at dkX12_strikes 30 rfl) ?_
        refine lv_topi (fun x_823 ex_823 => ?_)
        have gx_823 : gi x_823 0 1 := ga_at gz1 (gi_in g_821 (by decide)) ex_823
        refine lv_if_eq (tgt := 56) hx hb (dk_at dkX12_strikes 31 rfl) (by decide) (fun c_824 => ?_) (fun c_824 => ?_)
        · have hF := gf_pos (by rw [ex_823] at c_824; exact c_824) hF
          have g_825 : gi x_823 0 0 := gi_eq c_824 (gi_c 0 0 (by decide))
          refine lv_iconst (v := 1) hx hb (dk_at dkX12_strikes 34 rfl) (by decide) ?_
          refine lv_iadd hx hb (dk_at dkX12_strikes 35 rfl) ?_
          refine lv_topi (fun x_826 ex_826 => ?_)
          refine lv_istore_n (lv' := [(2, .int x_826), (0, .ref h0), (1, .int p1), (3, .int v3)]) hx hb (dk_at dkX12_strikes 36 rfl) rfl hl (by decide) rfl (fun ls hl => ?_)
          obtain ⟨x_827, ex_827⟩ : ∃ y : Int32, y = v3 + 1 := ⟨_, rfl⟩
          have gx_827 : gi x_827 1 24 := gi_add ex_827 g_821 (gi_c 1 1 (by decide)) (by decide)
          refine lv_iinc (v := x_827) (lv' := [(3, .int x_827), (2, .int x_826), (0, .ref h0), (1, .int p1)]) hx hb (dk_at dkX12_strikes 37 rfl) hl (k := 3) rfl (by rw [ex_827]; rfl) (by decide) rfl (fun ls hl => ?_)
          refine lv_goto (tgt := 34) hx hb (dk_at dkX12_strikes 38 rfl) (by decide) ?_
          exact ih x_826 x_827 z1 _ _ _ gf_p1 (gi_w gx_827 (by decide)) gz1 (by rw [ex_827, ex_826]; exact hF) (by have av3 := gv3.1; have bv3 := gv3.2; have qgx_827 := gx_827.1; have rgx_827 := gx_827.2; have igx_827 : x_827.toInt = v3.toInt + 1 := (by have hc1 : (1 : Int32).toInt = 1 := (by decide); have h9 := gi_addI ex_827 (by have h1 := g_821.1; have h2 := (gi_c 1 1 (by decide)).1; have h3 := g_821.2; have h4 := (gi_c 1 1 (by decide)).2; omega) (by have h1 := g_821.1; have h2 := (gi_c 1 1 (by decide)).1; have h3 := g_821.2; have h4 := (gi_c 1 1 (by decide)).2; omega); rw [hc1] at h9; exact h9); have qgv3 := g_821.1; have rgv3 := g_821.2; omega) hP hD hS (lv_sub hl [2, 3, 1, 0] rfl)
        · have hF := gf_neg (by rw [ex_823] at c_824; exact c_824) hF
          have g_828 : gi x_823 1 1 := gi_ne_lo c_824 gx_823 (gi_c 0 0 (by decide)) (by decide)
          refine lv_iconst (v := 0) hx hb (dk_at dkX12_strikes 32 rfl) (by decide) ?_
          refine lv_goto (tgt := 57) hx hb (dk_at dkX12_strikes 33 rfl) (by decide) ?_
          refine lv_iadd hx hb (dk_at dkX12_strikes 35 rfl) ?_
          refine lv_topi (fun x_829 ex_829 => ?_)
          refine lv_istore_n (lv' := [(2, .int x_829), (0, .ref h0), (1, .int p1), (3, .int v3)]) hx hb (dk_at dkX12_strikes 36 rfl) rfl hl (by decide) rfl (fun ls hl => ?_)
          obtain ⟨x_830, ex_830⟩ : ∃ y : Int32, y = v3 + 1 := ⟨_, rfl⟩
          have gx_830 : gi x_830 1 24 := gi_add ex_830 g_821 (gi_c 1 1 (by decide)) (by decide)
          refine lv_iinc (v := x_830) (lv' := [(3, .int x_830), (2, .int x_829), (0, .ref h0), (1, .int p1)]) hx hb (dk_at dkX12_strikes 37 rfl) hl (k := 3) rfl (by rw [ex_830]; rfl) (by decide) rfl (fun ls hl => ?_)
          refine lv_goto (tgt := 34) hx hb (dk_at dkX12_strikes 38 rfl) (by decide) ?_
          exact ih x_829 x_830 z1 _ _ _ gf_p1 (gi_w gx_830 (by decide)) gz1 (by rw [ex_830, ex_829]; exact hF) (by have av3 := gv3.1; have bv3 := gv3.2; have qgx_830 := gx_830.1; have rgx_830 := gx_830.2; have igx_830 : x_830.toInt = v3.toInt + 1 := (by have hc1 : (1 : Int32).toInt = 1 := (by decide); have h9 := gi_addI ex_830 (by have h1 := g_821.1; have h2 := (gi_c 1 1 (by decide)).1; have h3 := g_821.2; have h4 := (gi_c 1 1 (by decide)).2; omega) (by have h1 := g_821.1; have h2 := (gi_c 1 1 (by decide)).1; have h3 := g_821.2; have h4 := (gi_c 1 1 (by decide)).2; omega); rw [hc1] at h9; exact h9); have qgv3 := g_821.1; have rgv3 := g_821.2; omega) hP hD hS (lv_sub hl [2, 3, 1, 0] rfl)
abbrev pb_sX12_strikes (dC : Nat → ClassId) (dI : Nat → Nat → Nat) (A9 : Nat → Prop) (h0 : Nat) (mi : Nat → Int32) (mr : Nat → Nat) (km : Nat → ClassId) (fm_struck : Nat → Int32) (fm_trust : Nat → Int32) (fm_letter : Nat → Int32) (fm_reportPlace : Nat → Int32) (fm_reportKind : Nat → Int32) (fm_reportMonth : Nat → Int32) (fm_reportDay : Nat → Int32) (fm_reportKnown : Nat → Int32) (fm_deedMonth : Nat → Int32) (fm_deedDay : Nat → Int32) (fm_deedLong : Nat → Int32) (fm_deedKind : Nat → Int32) (fm_kept : Nat → Int32) (fm_tape : Nat → Int32) (fm_must : Nat → Int32) (fm_least : Nat → Int32) (fm_pin : Nat → Int32) (fm_ways : Nat → Int32) (fm_verdict : Nat → Int32) (fm_row : Nat → Int32) (fm_official : Nat → Int32) (fm_aside : Nat → Int32) (fm_worth : Nat → Int32) (fm_out : Nat → Int32) (p1 : Int32) (r : Int32) (z1 : Nat → Int32) (t : State) : Prop := ga z1 24 0 1 ∧ (r, z1) = fX12_strikes mi fm_struck p1 ∧ va_P (dC, dI) vwCl (MWn h0 mr km (mi 0) (mi 1) (mi 2) (mi 3) (mi 4) (mi 5) (mi 6) (mi 7) (mi 10) (mi 17) (mi 23) (mi 24) (mi 26) (mi 27) (mi 28) (mi 29) (mi 30) (mi 31) (mi 32) (mi 33) (mi 37) (mi 41) (mi 42) (mi 43) (mi 44) (mi 45) (mi 47) (mi 48) (mi 49) (mi 50) (mi 51) (mi 54) (mi 56) fm_trust fm_letter fm_reportPlace fm_reportKind z1 fm_reportMonth fm_reportDay fm_reportKnown fm_deedMonth fm_deedDay fm_deedLong fm_deedKind fm_kept fm_tape fm_must fm_least fm_pin fm_ways fm_verdict fm_row fm_official fm_aside fm_worth fm_out) t.heap ∧ va_D A9 (MWn h0 mr km (mi 0) (mi 1) (mi 2) (mi 3) (mi 4) (mi 5) (mi 6) (mi 7) (mi 10) (mi 17) (mi 23) (mi 24) (mi 26) (mi 27) (mi 28) (mi 29) (mi 30) (mi 31) (mi 32) (mi 33) (mi 37) (mi 41) (mi 42) (mi 43) (mi 44) (mi 45) (mi 47) (mi 48) (mi 49) (mi 50) (mi 51) (mi 54) (mi 56) fm_trust fm_letter fm_reportPlace fm_reportKind z1 fm_reportMonth fm_reportDay fm_reportKnown fm_deedMonth fm_deedDay fm_deedLong fm_deedKind fm_kept fm_tape fm_must fm_least fm_pin fm_ways fm_verdict fm_row fm_official fm_aside fm_worth fm_out)
set_option maxHeartbeats 4000000 in
set_option maxRecDepth 100000 in
theorem sX12_strikes (l : Launch) (dC : Nat → ClassId) (dI : Nat → Nat → Nat) (sz : Nat) (h0 : Nat) (mi : Nat → Int32) (mr : Nat → Nat) (km : Nat → ClassId) (fm_struck : Nat → Int32) (fm_trust : Nat → Int32) (fm_letter : Nat → Int32) (fm_reportPlace : Nat → Int32) (fm_reportKind : Nat → Int32) (fm_reportMonth : Nat → Int32) (fm_reportDay : Nat → Int32) (fm_reportKnown : Nat → Int32) (fm_deedMonth : Nat → Int32) (fm_deedDay : Nat → Int32) (fm_deedLong : Nat → Int32) (fm_deedKind : Nat → Int32) (fm_kept : Nat → Int32) (fm_tape : Nat → Int32) (fm_must : Nat → Int32) (fm_least : Nat → Int32) (fm_pin : Nat → Int32) (fm_ways : Nat → Int32) (fm_verdict : Nat → Int32) (fm_row : Nat → Int32) (fm_official : Nat → Int32) (fm_aside : Nat → Int32) (fm_worth : Nat → Int32) (fm_out : Nat → Int32) (p1 : Int32) (gmi_0 : gi (mi 0) 0 24) (gmi_1 : gi (mi 1) 0 5) (gmi_2 : gi (mi 2) 0 5) (gmi_4 : gi (mi 4) 0 1) (gmi_7 : gi (mi 7) 0 6) (gmi_10 : gi (mi 10) 0 24) (gmi_17 : gi (mi 17) 0 8) (gmi_23 : gi (mi 23) 0 300) (gmi_24 : gi (mi 24) 0 1) (gmi_26 : gi (mi 26) 0 1600) (gmi_29 : gi (mi 29) 0 1600) (gmi_30 : gi (mi 30) 0 1600) (gmi_33 : gi (mi 33) 0 1) (gmi_37 : gi (mi 37) 0 1) (gmi_41 : gi (mi 41) 0 24) (gmi_50 : gi (mi 50) 0 1) (gmi_51 : gi (mi 51) 0 1) (gmi_56 : gi (mi 56) 0 80) (gfm_struck : ga fm_struck 24 0 1) : Met l yX12_strikes (.code yX12_strikes cX12_strikes 4 (some .int) :: wsGB) ({ frames := 2, cells := 0, slots := 0, locals := 46 }) (va_Pc [.ref h0, .int p1] (fun U => U.heap.size = sz ∧ va_P (dC, dI) vwCl (MWn h0 mr km (mi 0) (mi 1) (mi 2) (mi 3) (mi 4) (mi 5) (mi 6) (mi 7) (mi 10) (mi 17) (mi 23) (mi 24) (mi 26) (mi 27) (mi 28) (mi 29) (mi 30) (mi 31) (mi 32) (mi 33) (mi 37) (mi 41) (mi 42) (mi 43) (mi 44) (mi 45) (mi 47) (mi 48) (mi 49) (mi 50) (mi 51) (mi 54) (mi 56) fm_trust fm_letter fm_reportPlace fm_reportKind fm_struck fm_reportMonth fm_reportDay fm_reportKnown fm_deedMonth fm_deedDay fm_deedLong fm_deedKind fm_kept fm_tape fm_must fm_least fm_pin fm_ways fm_verdict fm_row fm_official fm_aside fm_worth fm_out) U.heap ∧ va_K (dC, dI) vwCl (MT km) U ∧ va_D (fun _ => True) (MWn h0 mr km (mi 0) (mi 1) (mi 2) (mi 3) (mi 4) (mi 5) (mi 6) (mi 7) (mi 10) (mi 17) (mi 23) (mi 24) (mi 26) (mi 27) (mi 28) (mi 29) (mi 30) (mi 31) (mi 32) (mi 33) (mi 37) (mi 41) (mi 42) (mi 43) (mi 44) (mi 45) (mi 47) (mi 48) (mi 49) (mi 50) (mi 51) (mi 54) (mi 56) fm_trust fm_letter fm_reportPlace fm_reportKind fm_struck fm_reportMonth fm_reportDay fm_reportKnown fm_deedMonth fm_deedDay fm_deedLong fm_deedKind fm_kept fm_tape fm_must fm_least fm_pin fm_ways fm_verdict fm_row fm_official fm_aside fm_worth fm_out))) (va_Qi (fun (r : Int32) (u : Int32) => r = u ∧ gi r (-2147483648) 2147483647) (fun r t => ∃ (z1 : Nat → Int32), pb_sX12_strikes dC dI (va_A (MWn h0 mr km (mi 0) (mi 1) (mi 2) (mi 3) (mi 4) (mi 5) (mi 6) (mi 7) (mi 10) (mi 17) (mi 23) (mi 24) (mi 26) (mi 27) (mi 28) (mi 29) (mi 30) (mi 31) (mi 32) (mi 33) (mi 37) (mi 41) (mi 42) (mi 43) (mi 44) (mi 45) (mi 47) (mi 48) (mi 49) (mi 50) (mi 51) (mi 54) (mi 56) fm_trust fm_letter fm_reportPlace fm_reportKind fm_struck fm_reportMonth fm_reportDay fm_reportKnown fm_deedMonth fm_deedDay fm_deedLong fm_deedKind fm_kept fm_tape fm_must fm_least fm_pin fm_ways fm_verdict fm_row fm_official fm_aside fm_worth fm_out) sz) h0 mi mr km fm_struck fm_trust fm_letter fm_reportPlace fm_reportKind fm_reportMonth fm_reportDay fm_reportKnown fm_deedMonth fm_deedDay fm_deedLong fm_deedKind fm_kept fm_tape fm_must fm_least fm_pin fm_ways fm_verdict fm_row fm_official fm_aside fm_worth fm_out p1 r z1 t) (va_A (MWn h0 mr km (mi 0) (mi 1) (mi 2) (mi 3) (mi 4) (mi 5) (mi 6) (mi 7) (mi 10) (mi 17) (mi 23) (mi 24) (mi 26) (mi 27) (mi 28) (mi 29) (mi 30) (mi 31) (mi 32) (mi 33) (mi 37) (mi 41) (mi 42) (mi 43) (mi 44) (mi 45) (mi 47) (mi 48) (mi 49) (mi 50) (mi 51) (mi 54) (mi 56) fm_trust fm_letter fm_reportPlace fm_reportKind fm_struck fm_reportMonth fm_reportDay fm_reportKnown fm_deedMonth fm_deedDay fm_deedLong fm_deedKind fm_kept fm_tape fm_must fm_least fm_pin fm_ways fm_verdict fm_row fm_official fm_aside fm_worth fm_out) sz)) 0 0 (va_A (MWn h0 mr km (mi 0) (mi 1) (mi 2) (mi 3) (mi 4) (mi 5) (mi 6) (mi 7) (mi 10) (mi 17) (mi 23) (mi 24) (mi 26) (mi 27) (mi 28) (mi 29) (mi 30) (mi 31) (mi 32) (mi 33) (mi 37) (mi 41) (mi 42) (mi 43) (mi 44) (mi 45) (mi 47) (mi 48) (mi 49) (mi 50) (mi 51) (mi 54) (mi 56) fm_trust fm_letter fm_reportPlace fm_reportKind fm_struck fm_reportMonth fm_reportDay fm_reportKnown fm_deedMonth fm_deedDay fm_deedLong fm_deedKind fm_kept fm_tape fm_must fm_least fm_pin fm_ways fm_verdict fm_row fm_official fm_aside fm_worth fm_out) sz) := by
  refine Met.ofW (cc := cX12_strikes) (maxL := 4) (ret := (some .int)) (by decide) rfl ?_
  intro p e s m args below meth c s₁ B hml hv
  obtain ⟨rfl, hsz, hP, hK, hD0⟩ := hv
  have hx := B.exec
  have hb := B.bytes
  have hr := B.returns
  have hts := atoms_spec (ws := (.code yX12_strikes cX12_strikes 4 (some .int) :: wsGB)) B.pre
  have hown : s.vm.findClass RX12 = some m.cls := findClass_of_methodNamed B.named
  have hlocks := B.notSynchronized
  subst hsz
  have hD := hD0.self (sz := s.heap.size)
  generalize hAe : va_A (MWn h0 mr km (mi 0) (mi 1) (mi 2) (mi 3) (mi 4) (mi 5) (mi 6) (mi 7) (mi 10) (mi 17) (mi 23) (mi 24) (mi 26) (mi 27) (mi 28) (mi 29) (mi 30) (mi 31) (mi 32) (mi 33) (mi 37) (mi 41) (mi 42) (mi 43) (mi 44) (mi 45) (mi 47) (mi 48) (mi 49) (mi 50) (mi 51) (mi 54) (mi 56) fm_trust fm_letter fm_reportPlace fm_reportKind fm_struck fm_reportMonth fm_reportDay fm_reportKnown fm_deedMonth fm_deedDay fm_deedLong fm_deedKind fm_kept fm_tape fm_must fm_least fm_pin fm_ways fm_verdict fm_row fm_official fm_aside fm_worth fm_out) s.heap.size = A at hD ⊢
  have hA : ∀ q : Nat, s.heap.size ≤ q → A q := fun q h => by rw [← hAe]; exact Or.inr h
  have hS : va_S A s.heap s.heap [] := va_S.rf
  have hl := lv_entry ([.ref h0, .int p1]) (n := 4) (Nat.le_of_ble_eq_true rfl)
  rw [lg_entry_eq]
  generalize (lg_sl ([.ref h0, .int p1]) ++ List.replicate (4 - (lg_sl ([.ref h0, .int p1])).length) Slot.unset).toArray = ls at hl ⊢
  have hl : lv_has ls 4 [(0, .ref h0), (1, .int p1)] := hl
  obtain ⟨RES, hF⟩ : ∃ R9, fX12_strikes mi fm_struck p1 = R9 := ⟨_, rfl⟩
  have hR9 := hF
  refine lv_aload_n hx hb (dk_at dkX12_strikes 0 rfl) rfl (lv_at hl 0 rfl) ?_
  refine lv_iload_n hx hb (dk_at dkX12_strikes 1 rfl) rfl (lv_at hl 1 rfl) ?_
  refine va_calli (va_runV (As := [.int p1]) (rest := []) ⟨hx, hb, hml, hown, hts⟩ (sX12_isReport l dC dI h0 mi mr km fm_trust fm_letter fm_reportPlace fm_reportKind fm_struck fm_reportMonth fm_reportDay fm_reportKnown fm_deedMonth fm_deedDay fm_deedLong fm_deedKind fm_kept fm_tape fm_must fm_least fm_pin fm_ways fm_verdict fm_row fm_official fm_aside fm_worth fm_out p1 gmi_0 gmi_1 gmi_2 gmi_4 gmi_7 gmi_10 gmi_17 gmi_23 gmi_24 gmi_26 gmi_29 gmi_30 gmi_33 gmi_37 gmi_41 gmi_50 gmi_51 gmi_56) (cwV 1 hts (gz_gV mGB_235 mGB_236 mGB_237 mGB_1 mGB_238 goodGB) rfl rfl rfl (by decide +kernel) ⟨Nat.le_of_ble_eq_true rfl, Nat.le_of_ble_eq_true rfl⟩) ⟨bl_R, mw_recv hK hP, fun U hU hW => ⟨rfl, by rw [hU]; exact hP, va_K.moved hW.alike hK⟩⟩ rfl rfl hl.1 rfl (lv_room (Nat.le_of_ble_eq_true rfl)) (dk_at dkX12_strikes 2 rfl) ⟨Nat.zero_le _, Nat.zero_le _⟩) hS (fun q _ h => h.elim) (fun q h => h.elim) (fun r_831 u t H1 locs ht hvm hw hB hz1 hk1 hS => ?_)
  obtain ⟨hw, hE⟩ := hw
  have hP := gz_keep hP hk1
  have hF := gf_callm (a := r_831) hE hF (by first | with_reducible rfl | simp only [upd_same, upd_app, ↓reduceIte, Nat.reduceEqDiff])
  generalize H1 = H at hP hS ⊢
  have gr_831 : gi r_831 0 1 := hw.1
  have hqr_831 := hw.2
  refine lv_if_ne (tgt := 11) hx hb (dk_at dkX12_strikes 3 rfl) (by decide) (fun c_832 => ?_) (fun c_832 => ?_)
  · have hF := gf_neg c_832 hF
    have g_833 : gi r_831 1 1 := gi_ne_lo c_832 gr_831 (gi_c 0 0 (by decide)) (by decide)
    have g_834 : gi p1 0 23 := gi_cap (gi_any p1) (hqr_831 (gz_one g_833)) (by decide)
    refine lv_aload_n hx hb (dk_at dkX12_strikes 6 rfl) rfl (lv_at hl 0 rfl) ?_
    refine va_get (D := (dC, dI)) (ci := 12) (v := .ref (mr 4)) (C := RX12) (T := TX12) (N := 57) hx hb hts (fun w h => List.mem_cons_of_mem _ (jnGB_X12 w h)) hown hK hP 0 rfl rfl 13 (by decide) (hts _ (List.mem_cons_of_mem _ mGB_15)) (fun _ h9 => h9) rfl (dk_at dkX12_strikes 7 rfl) ?_
    refine lv_iload_n hx hb (dk_at dkX12_strikes 8 rfl) rfl (lv_at hl 1 rfl) ?_
    refine va_zald hx hb hK hP 5 4 rfl rfl (gi_in g_834 (by decide)) (dk_at dkX12_strikes 9 rfl) ?_
    refine lv_topi (fun x_835 ex_835 => ?_)
    have gx_835 : gi x_835 0 1 := ga_at gfm_struck (gi_in g_834 (by decide)) ex_835
    refine lv_if_eq (tgt := 23) hx hb (dk_at dkX12_strikes 10 rfl) (by decide) (fun c_836 => ?_) (fun c_836 => ?_)
    · have hF := gf_pos (by rw [ex_835] at c_836; exact c_836) hF
      have g_837 : gi x_835 0 0 := gi_eq c_836 (gi_c 0 0 (by decide))
      refine lv_aload_n hx hb (dk_at dkX12_strikes 13 rfl) rfl (lv_at hl 0 rfl) ?_
      refine va_get (D := (dC, dI)) (ci := 12) (v := .ref (mr 4)) (C := RX12) (T := TX12) (N := 57) hx hb hts (fun w h => List.mem_cons_of_mem _ (jnGB_X12 w h)) hown hK hP 0 rfl rfl 13 (by decide) (hts _ (List.mem_cons_of_mem _ mGB_15)) (fun _ h9 => h9) rfl (dk_at dkX12_strikes 14 rfl) ?_
      refine lv_iload_n hx hb (dk_at dkX12_strikes 15 rfl) rfl (lv_at hl 1 rfl) ?_
      refine lv_iconst (v := 1) hx hb (dk_at dkX12_strikes 16 rfl) (by decide) ?_
      refine va_zast hx hb hK hP hD hS 5 4 rfl rfl (gi_in g_834 (by decide)) (dk_at dkX12_strikes 17 rfl) (fun H locs hP hD hS => ?_)
      obtain ⟨hP, hD⟩ := gz_both (w := (MWn h0 mr km (mi 0) (mi 1) (mi 2) (mi 3) (mi 4) (mi 5) (mi 6) (mi 7) (mi 10) (mi 17) (mi 23) (mi 24) (mi 26) (mi 27) (mi 28) (mi 29) (mi 30) (mi 31) (mi 32) (mi 33) (mi 37) (mi 41) (mi 42) (mi 43) (mi 44) (mi 45) (mi 47) (mi 48) (mi 49) (mi 50) (mi 51) (mi 54) (mi 56) fm_trust fm_letter fm_reportPlace fm_reportKind (upd fm_struck (p1 : Int32).toNatClampNeg (vp_nar .boolean 1)) fm_reportMonth fm_reportDay fm_reportKnown fm_deedMonth fm_deedDay fm_deedLong fm_deedKind fm_kept fm_tape fm_must fm_least fm_pin fm_ways fm_verdict fm_row fm_official fm_aside fm_worth fm_out)) hP hD
      have gf_838 : ga (upd fm_struck (p1 : Int32).toNatClampNeg (vp_nar .boolean 1)) 24 0 1 := ga_updz gfm_struck (gi_w (gi_c 1 1 (by decide)) (by decide))
      generalize ef_838 : upd fm_struck (p1 : Int32).toNatClampNeg (vp_nar .boolean 1) = f_838 at hP hD gf_838
      refine lv_iconst (v := 0) hx hb (dk_at dkX12_strikes 18 rfl) (by decide) ?_
      refine lv_istore_n (lv' := [(2, .int 0), (0, .ref h0), (1, .int p1)]) hx hb (dk_at dkX12_strikes 19 rfl) rfl hl (by decide) rfl (fun ls hl => ?_)
      refine lv_iconst (v := 0) hx hb (dk_at dkX12_strikes 20 rfl) (by decide) ?_
      refine lv_istore_n (lv' := [(3, .int 0), (2, .int 0), (0, .ref h0), (1, .int p1)]) hx hb (dk_at dkX12_strikes 21 rfl) rfl hl (by decide) rfl (fun ls hl => ?_)
      refine (lp_sX12_strikes (RES := RES) h0 mi mr km fm_struck fm_trust fm_letter fm_reportPlace fm_reportKind fm_reportMonth fm_reportDay fm_reportKnown fm_deedMonth fm_deedDay fm_deedLong fm_deedKind fm_kept fm_tape fm_must fm_least fm_pin fm_ways fm_verdict fm_row fm_official fm_aside fm_worth fm_out p1 gmi_0 gmi_1 gmi_2 gmi_4 gmi_7 gmi_10 gmi_17 gmi_23 gmi_24 gmi_26 gmi_29 gmi_30 gmi_33 gmi_37 gmi_41 gmi_50 gmi_51 gmi_56 gfm_struck hx hb hml hown hts hK hA (Nat.le_of_ble_eq_true rfl) (Nat.le_of_ble_eq_true rfl) (Nat.zero_le _) (Nat.zero_le _) (fun v z1 H locs ls gv gz1 hF hP hD hS hl => ?_) (fun v z1 H locs ls gv gz1 hF hP hD hS hl => ?_) (fun v z1 H locs ls gz1 hF hP hD hS hl => ?_) 1000000000) 0 0 f_838 _ _ _ g_834 (gi_w (gi_c 0 0 (by decide)) (by decide)) gf_838 (by rw [← ef_838]; exact hF) (by have k0 : (0 : Int32).toInt = 0 := (by decide); omega) hP hD hS (lv_sub hl [2, 3, 1, 0] rfl)
      · skip
        exact W.iret (v := v) hx hb hr (fun t ht hW => ⟨⟨v, v, rfl, ⟨rfl, (gi_any v)⟩, z1, gz1, hF.trans hR9.symm, by rw [ht]; exact hP, hD⟩, hS.F ht⟩) hS.2.2 (dk_at dkX12_strikes 12 rfl)
      · skip
        exact W.iret (v := v) hx hb hr (fun t ht hW => ⟨⟨v, v, rfl, ⟨rfl, (gi_any v)⟩, z1, gz1, hF.trans hR9.symm, by rw [ht]; exact hP, hD⟩, hS.F ht⟩) hS.2.2 (dk_at dkX12_strikes 5 rfl)
      · skip
        exact W.iret (v := v) hx hb hr (fun t ht hW => ⟨⟨v, v, rfl, ⟨rfl, (gi_any v)⟩, z1, gz1, hF.trans hR9.symm, by rw [ht]; exact hP, hD⟩, hS.F ht⟩) hS.2.2 (dk_at dkX12_strikes 40 rfl)
    · have hF := gf_neg (by rw [ex_835] at c_836; exact c_836) hF
      have g_839 : gi x_835 1 1 := gi_ne_lo c_836 gx_835 (gi_c 0 0 (by decide)) (by decide)
      refine lv_bipush (v := (-5)) hx hb (dk_at dkX12_strikes 11 rfl) (by decide) ?_
      exact W.iret (v := (-5)) hx hb hr (fun t ht hW => ⟨⟨(-5), (-5), rfl, ⟨rfl, (gi_any (-5))⟩, fm_struck, gfm_struck, hF.trans hR9.symm, by rw [ht]; exact hP, hD⟩, hS.F ht⟩) hS.2.2 (dk_at dkX12_strikes 12 rfl)
  · have hF := gf_pos c_832 hF
    have g_840 : gi r_831 0 0 := gi_eq c_832 (gi_c 0 0 (by decide))
    refine lv_bipush (v := (-2)) hx hb (dk_at dkX12_strikes 4 rfl) (by decide) ?_
    exact W.iret (v := (-2)) hx hb hr (fun t ht hW => ⟨⟨(-2), (-2), rfl, ⟨rfl, (gi_any (-2))⟩, fm_struck, gfm_struck, hF.trans hR9.symm, by rw [ht]; exact hP, hD⟩, hS.F ht⟩) hS.2.2 (dk_at dkX12_strikes 5 rfl)
noncomputable def lsX12_end : List (Nat × Instr × Nat) := [(0, .iload_n 1, 1), (1, .i2l, 1), (2, .lconst 0, 1), (3, .aload_n 0, 1), (4, .getfield 99, 3), (7, .i2l, 1), (8, .invokestatic 102, 3), (11, .ifCond .ne 5, 3), (14, .iconst (-1), 1), (15, .ireturn, 1), (16, .aload_n 0, 1), (17, .iload_n 1, 1), (18, .putfield 99, 3), (21, .iload_n 1, 1), (22, .ireturn, 1)]
theorem dkX12_end : dkAll cX12_end lsX12_end = true := by decide +kernel
noncomputable def fX12_end (mi : Nat → Int32) (p1 : Int32) : Int32 × Int32 := cal (fun o1 => if o1 = (0 : Int32) then ((-1 : Int32), (mi 26)) else (p1, p1)) (fX12_in (p1.toInt64) (0 : Int64) ((mi 26).toInt64))
abbrev pb_sX12_end (dC : Nat → ClassId) (dI : Nat → Nat → Nat) (A9 : Nat → Prop) (h0 : Nat) (mi : Nat → Int32) (mr : Nat → Nat) (km : Nat → ClassId) (fm_trust : Nat → Int32) (fm_letter : Nat → Int32) (fm_reportPlace : Nat → Int32) (fm_reportKind : Nat → Int32) (fm_struck : Nat → Int32) (fm_reportMonth : Nat → Int32) (fm_reportDay : Nat → Int32) (fm_reportKnown : Nat → Int32) (fm_deedMonth : Nat → Int32) (fm_deedDay : Nat → Int32) (fm_deedLong : Nat → Int32) (fm_deedKind : Nat → Int32) (fm_kept : Nat → Int32) (fm_tape : Nat → Int32) (fm_must : Nat → Int32) (fm_least : Nat → Int32) (fm_pin : Nat → Int32) (fm_ways : Nat → Int32) (fm_verdict : Nat → Int32) (fm_row : Nat → Int32) (fm_official : Nat → Int32) (fm_aside : Nat → Int32) (fm_worth : Nat → Int32) (fm_out : Nat → Int32) (p1 : Int32) (r : Int32) (w0_26 : Int32) (t : State) : Prop := gi w0_26 0 1600 ∧ ((0 ≤ p1.toInt ∧ p1.toInt ≤ (mi 26).toInt ∧ w0_26.toInt = p1.toInt) ∨ ((p1.toInt < 0 ∨ (mi 26).toInt < p1.toInt) ∧ w0_26.toInt = (mi 26).toInt)) ∧ (r, w0_26) = fX12_end mi p1 ∧ va_P (dC, dI) vwCl (MWn h0 mr km (mi 0) (mi 1) (mi 2) (mi 3) (mi 4) (mi 5) (mi 6) (mi 7) (mi 10) (mi 17) (mi 23) (mi 24) w0_26 (mi 27) (mi 28) (mi 29) (mi 30) (mi 31) (mi 32) (mi 33) (mi 37) (mi 41) (mi 42) (mi 43) (mi 44) (mi 45) (mi 47) (mi 48) (mi 49) (mi 50) (mi 51) (mi 54) (mi 56) fm_trust fm_letter fm_reportPlace fm_reportKind fm_struck fm_reportMonth fm_reportDay fm_reportKnown fm_deedMonth fm_deedDay fm_deedLong fm_deedKind fm_kept fm_tape fm_must fm_least fm_pin fm_ways fm_verdict fm_row fm_official fm_aside fm_worth fm_out) t.heap ∧ va_D A9 (MWn h0 mr km (mi 0) (mi 1) (mi 2) (mi 3) (mi 4) (mi 5) (mi 6) (mi 7) (mi 10) (mi 17) (mi 23) (mi 24) w0_26 (mi 27) (mi 28) (mi 29) (mi 30) (mi 31) (mi 32) (mi 33) (mi 37) (mi 41) (mi 42) (mi 43) (mi 44) (mi 45) (mi 47) (mi 48) (mi 49) (mi 50) (mi 51) (mi 54) (mi 56) fm_trust fm_letter fm_reportPlace fm_reportKind fm_struck fm_reportMonth fm_reportDay fm_reportKnown fm_deedMonth fm_deedDay fm_deedLong fm_deedKind fm_kept fm_tape fm_must fm_least fm_pin fm_ways fm_verdict fm_row fm_official fm_aside fm_worth fm_out)
set_option maxHeartbeats 4000000 in
set_option maxRecDepth 100000 in
theorem sX12_end (l : Launch) (dC : Nat → ClassId) (dI : Nat → Nat → Nat) (sz : Nat) (h0 : Nat) (mi : Nat → Int32) (mr : Nat → Nat) (km : Nat → ClassId) (fm_trust : Nat → Int32) (fm_letter : Nat → Int32) (fm_reportPlace : Nat → Int32) (fm_reportKind : Nat → Int32) (fm_struck : Nat → Int32) (fm_reportMonth : Nat → Int32) (fm_reportDay : Nat → Int32) (fm_reportKnown : Nat → Int32) (fm_deedMonth : Nat → Int32) (fm_deedDay : Nat → Int32) (fm_deedLong : Nat → Int32) (fm_deedKind : Nat → Int32) (fm_kept : Nat → Int32) (fm_tape : Nat → Int32) (fm_must : Nat → Int32) (fm_least : Nat → Int32) (fm_pin : Nat → Int32) (fm_ways : Nat → Int32) (fm_verdict : Nat → Int32) (fm_row : Nat → Int32) (fm_official : Nat → Int32) (fm_aside : Nat → Int32) (fm_worth : Nat → Int32) (fm_out : Nat → Int32) (p1 : Int32) (gmi_0 : gi (mi 0) 0 24) (gmi_1 : gi (mi 1) 0 5) (gmi_2 : gi (mi 2) 0 5) (gmi_4 : gi (mi 4) 0 1) (gmi_7 : gi (mi 7) 0 6) (gmi_10 : gi (mi 10) 0 24) (gmi_17 : gi (mi 17) 0 8) (gmi_23 : gi (mi 23) 0 300) (gmi_24 : gi (mi 24) 0 1) (gmi_26 : gi (mi 26) 0 1600) (gmi_29 : gi (mi 29) 0 1600) (gmi_30 : gi (mi 30) 0 1600) (gmi_33 : gi (mi 33) 0 1) (gmi_37 : gi (mi 37) 0 1) (gmi_41 : gi (mi 41) 0 24) (gmi_50 : gi (mi 50) 0 1) (gmi_51 : gi (mi 51) 0 1) (gmi_56 : gi (mi 56) 0 80) : Met l yX12_end (.code yX12_end cX12_end 2 (some .int) :: wsGB) ({ frames := 1, cells := 0, slots := 0, locals := 25 }) (va_Pc [.ref h0, .int p1] (fun U => U.heap.size = sz ∧ va_P (dC, dI) vwCl (MWn h0 mr km (mi 0) (mi 1) (mi 2) (mi 3) (mi 4) (mi 5) (mi 6) (mi 7) (mi 10) (mi 17) (mi 23) (mi 24) (mi 26) (mi 27) (mi 28) (mi 29) (mi 30) (mi 31) (mi 32) (mi 33) (mi 37) (mi 41) (mi 42) (mi 43) (mi 44) (mi 45) (mi 47) (mi 48) (mi 49) (mi 50) (mi 51) (mi 54) (mi 56) fm_trust fm_letter fm_reportPlace fm_reportKind fm_struck fm_reportMonth fm_reportDay fm_reportKnown fm_deedMonth fm_deedDay fm_deedLong fm_deedKind fm_kept fm_tape fm_must fm_least fm_pin fm_ways fm_verdict fm_row fm_official fm_aside fm_worth fm_out) U.heap ∧ va_K (dC, dI) vwCl (MT km) U ∧ va_D (fun _ => True) (MWn h0 mr km (mi 0) (mi 1) (mi 2) (mi 3) (mi 4) (mi 5) (mi 6) (mi 7) (mi 10) (mi 17) (mi 23) (mi 24) (mi 26) (mi 27) (mi 28) (mi 29) (mi 30) (mi 31) (mi 32) (mi 33) (mi 37) (mi 41) (mi 42) (mi 43) (mi 44) (mi 45) (mi 47) (mi 48) (mi 49) (mi 50) (mi 51) (mi 54) (mi 56) fm_trust fm_letter fm_reportPlace fm_reportKind fm_struck fm_reportMonth fm_reportDay fm_reportKnown fm_deedMonth fm_deedDay fm_deedLong fm_deedKind fm_kept fm_tape fm_must fm_least fm_pin fm_ways fm_verdict fm_row fm_official fm_aside fm_worth fm_out))) (va_Qi (fun (r : Int32) (u : Int32) => r = u ∧ gi r (-1) 1600 ∧ ((0 ≤ p1.toInt ∧ p1.toInt ≤ (mi 26).toInt ∧ r.toInt = p1.toInt) ∨ ((p1.toInt < 0 ∨ (mi 26).toInt < p1.toInt) ∧ r.toInt = -1))) (fun r t => ∃ (w0_26 : Int32), pb_sX12_end dC dI (va_A (MWn h0 mr km (mi 0) (mi 1) (mi 2) (mi 3) (mi 4) (mi 5) (mi 6) (mi 7) (mi 10) (mi 17) (mi 23) (mi 24) (mi 26) (mi 27) (mi 28) (mi 29) (mi 30) (mi 31) (mi 32) (mi 33) (mi 37) (mi 41) (mi 42) (mi 43) (mi 44) (mi 45) (mi 47) (mi 48) (mi 49) (mi 50) (mi 51) (mi 54) (mi 56) fm_trust fm_letter fm_reportPlace fm_reportKind fm_struck fm_reportMonth fm_reportDay fm_reportKnown fm_deedMonth fm_deedDay fm_deedLong fm_deedKind fm_kept fm_tape fm_must fm_least fm_pin fm_ways fm_verdict fm_row fm_official fm_aside fm_worth fm_out) sz) h0 mi mr km fm_trust fm_letter fm_reportPlace fm_reportKind fm_struck fm_reportMonth fm_reportDay fm_reportKnown fm_deedMonth fm_deedDay fm_deedLong fm_deedKind fm_kept fm_tape fm_must fm_least fm_pin fm_ways fm_verdict fm_row fm_official fm_aside fm_worth fm_out p1 r w0_26 t) (va_A (MWn h0 mr km (mi 0) (mi 1) (mi 2) (mi 3) (mi 4) (mi 5) (mi 6) (mi 7) (mi 10) (mi 17) (mi 23) (mi 24) (mi 26) (mi 27) (mi 28) (mi 29) (mi 30) (mi 31) (mi 32) (mi 33) (mi 37) (mi 41) (mi 42) (mi 43) (mi 44) (mi 45) (mi 47) (mi 48) (mi 49) (mi 50) (mi 51) (mi 54) (mi 56) fm_trust fm_letter fm_reportPlace fm_reportKind fm_struck fm_reportMonth fm_reportDay fm_reportKnown fm_deedMonth fm_deedDay fm_deedLong fm_deedKind fm_kept fm_tape fm_must fm_least fm_pin fm_ways fm_verdict fm_row fm_official fm_aside fm_worth fm_out) sz)) 0 0 (va_A (MWn h0 mr km (mi 0) (mi 1) (mi 2) (mi 3) (mi 4) (mi 5) (mi 6) (mi 7) (mi 10) (mi 17) (mi 23) (mi 24) (mi 26) (mi 27) (mi 28) (mi 29) (mi 30) (mi 31) (mi 32) (mi 33) (mi 37) (mi 41) (mi 42) (mi 43) (mi 44) (mi 45) (mi 47) (mi 48) (mi 49) (mi 50) (mi 51) (mi 54) (mi 56) fm_trust fm_letter fm_reportPlace fm_reportKind fm_struck fm_reportMonth fm_reportDay fm_reportKnown fm_deedMonth fm_deedDay fm_deedLong fm_deedKind fm_kept fm_tape fm_must fm_least fm_pin fm_ways fm_verdict fm_row fm_official fm_aside fm_worth fm_out) sz) := by
  refine Met.ofW (cc := cX12_end) (maxL := 2) (ret := (some .int)) (by decide) rfl ?_
  intro p e s m args below meth c s₁ B hml hv
  obtain ⟨rfl, hsz, hP, hK, hD0⟩ := hv
  have hx := B.exec
  have hb := B.bytes
  have hr := B.returns
  have hts := atoms_spec (ws := (.code yX12_end cX12_end 2 (some .int) :: wsGB)) B.pre
  have hown : s.vm.findClass RX12 = some m.cls := findClass_of_methodNamed B.named
  have hlocks := B.notSynchronized
  subst hsz
  have hD := hD0.self (sz := s.heap.size)
  generalize hAe : va_A (MWn h0 mr km (mi 0) (mi 1) (mi 2) (mi 3) (mi 4) (mi 5) (mi 6) (mi 7) (mi 10) (mi 17) (mi 23) (mi 24) (mi 26) (mi 27) (mi 28) (mi 29) (mi 30) (mi 31) (mi 32) (mi 33) (mi 37) (mi 41) (mi 42) (mi 43) (mi 44) (mi 45) (mi 47) (mi 48) (mi 49) (mi 50) (mi 51) (mi 54) (mi 56) fm_trust fm_letter fm_reportPlace fm_reportKind fm_struck fm_reportMonth fm_reportDay fm_reportKnown fm_deedMonth fm_deedDay fm_deedLong fm_deedKind fm_kept fm_tape fm_must fm_least fm_pin fm_ways fm_verdict fm_row fm_official fm_aside fm_worth fm_out) s.heap.size = A at hD ⊢
  have hA : ∀ q : Nat, s.heap.size ≤ q → A q := fun q h => by rw [← hAe]; exact Or.inr h
  have hS : va_S A s.heap s.heap [] := va_S.rf
  have hl := lv_entry ([.ref h0, .int p1]) (n := 2) (Nat.le_of_ble_eq_true rfl)
  rw [lg_entry_eq]
  generalize (lg_sl ([.ref h0, .int p1]) ++ List.replicate (2 - (lg_sl ([.ref h0, .int p1])).length) Slot.unset).toArray = ls at hl ⊢
  have hl : lv_has ls 2 [(0, .ref h0), (1, .int p1)] := hl
  obtain ⟨RES, hF⟩ : ∃ R9, fX12_end mi p1 = R9 := ⟨_, rfl⟩
  have hR9 := hF
  refine lv_iload_n hx hb (dk_at dkX12_end 0 rfl) rfl (lv_at hl 1 rfl) ?_
  refine lv_i2l (v := (p1).toInt64) hx hb (dk_at dkX12_end 1 rfl) rfl ?_
  refine lv_topl (fun l_19 el_19 => ?_)
  refine lv_lconst (v := 0) hx hb (dk_at dkX12_end 2 rfl) (by decide) ?_
  refine lv_aload_n hx hb (dk_at dkX12_end 3 rfl) rfl (lv_at hl 0 rfl) ?_
  refine va_get (D := (dC, dI)) (ci := 12) (v := .int (mi 26)) (C := RX12) (T := TX12) (N := 57) hx hb hts (fun w h => List.mem_cons_of_mem _ (jnGB_X12 w h)) hown hK hP 0 rfl rfl 26 (by decide) (hts _ (List.mem_cons_of_mem _ mGB_43)) (fun _ h9 => h9) rfl (dk_at dkX12_end 4 rfl) ?_
  refine lv_i2l (v := ((mi 26)).toInt64) hx hb (dk_at dkX12_end 5 rfl) rfl ?_
  refine lv_topl (fun l_20 el_20 => ?_)
  have hPc := hP.sub (ws' := []) [] rfl
  have hKc := hK.sub (tys' := []) [] rfl
  refine va_calli (va_runS (As := [.long l_19, .long 0, .long l_20]) (rest := []) ⟨hx, hb, hml, hown, hts⟩ (sX12_in l dC dI l_19 0 l_20) (cwS 3 hts (gz_gS mGB_47 mGB_48 mGB_1 mGB_49 goodGB) rfl rfl rfl (by decide +kernel) ⟨Nat.le_of_ble_eq_true rfl, Nat.le_of_ble_eq_true rfl⟩) ⟨bl_R, fun U hU hW => ⟨rfl, by rw [hU]; exact hPc, va_K.moved hW.alike hKc⟩⟩ rfl rfl hl.1 rfl (lv_room (Nat.le_of_ble_eq_true rfl)) (dk_at dkX12_end 6 rfl) ⟨Nat.zero_le _, Nat.zero_le _⟩) hS (fun q _ h => h.elim) (fun q h => h.elim) (fun r_21 u t H1 locs ht hvm hw hB hz1 hk1 hS => ?_)
  obtain ⟨hw, hE⟩ := hw
  have hP := gz_keep hP hk1
  have hF := gf_call (a := r_21) (by rw [el_20, el_19] at hE; exact hE) hF
  generalize H1 = H at hP hS ⊢
  have gr_21 : gi r_21 0 1 := hw.1
  have hqr_21 := hw.2
  refine lv_if_ne (tgt := 16) hx hb (dk_at dkX12_end 7 rfl) (by decide) (fun c_22 => ?_) (fun c_22 => ?_)
  · have hF := gf_neg c_22 hF
    have g_23 : gi r_21 1 1 := gi_ne_lo c_22 gr_21 (gi_c 0 0 (by decide)) (by decide)
    have hin_24 := gz_inT (A := 0) (B := (mi 26).toInt) (hqr_21.1 (gz_one g_23)) el_19 (by decide) (gz_l2e el_20)
    have g_25 : gi p1 0 1600 := gi_cap (gi_any p1) (gz_inr (hqr_21.1 (gz_one g_23)) el_19 (A := 0) (B := 1600) (by decide) (gz_l2u el_20 gmi_26)) (by decide)
    refine lv_aload_n hx hb (dk_at dkX12_end 10 rfl) rfl (lv_at hl 0 rfl) ?_
    refine lv_iload_n hx hb (dk_at dkX12_end 11 rfl) rfl (lv_at hl 1 rfl) ?_
    refine va_put (D := (dC, dI)) (ci := 12) (v := .int p1) (ty := .int) (C := RX12) (T := TX12) (N := 57) hx hb hts (fun w h => List.mem_cons_of_mem _ (jnGB_X12 w h)) tyX12 tyX12_ok nmX12 hown hK hP hD hS 0 rfl rfl 26 (by decide) (hts _ (List.mem_cons_of_mem _ mGB_43)) (fun _ h9 => h9) rfl (by decide +kernel) rfl rfl (Nat.le_of_ble_eq_true rfl) (dk_at dkX12_end 12 rfl) (fun H locs hP hD hS => ?_)
    obtain ⟨hP, hD⟩ := gz_both (w := (MWn h0 mr km (mi 0) (mi 1) (mi 2) (mi 3) (mi 4) (mi 5) (mi 6) (mi 7) (mi 10) (mi 17) (mi 23) (mi 24) p1 (mi 27) (mi 28) (mi 29) (mi 30) (mi 31) (mi 32) (mi 33) (mi 37) (mi 41) (mi 42) (mi 43) (mi 44) (mi 45) (mi 47) (mi 48) (mi 49) (mi 50) (mi 51) (mi 54) (mi 56) fm_trust fm_letter fm_reportPlace fm_reportKind fm_struck fm_reportMonth fm_reportDay fm_reportKnown fm_deedMonth fm_deedDay fm_deedLong fm_deedKind fm_kept fm_tape fm_must fm_least fm_pin fm_ways fm_verdict fm_row fm_official fm_aside fm_worth fm_out)) hP hD
    refine lv_iload_n hx hb (dk_at dkX12_end 13 rfl) rfl (lv_at hl 1 rfl) ?_
    exact W.iret (v := p1) hx hb hr (fun t ht hW => ⟨⟨p1, p1, rfl, ⟨rfl, ⟨(gi_w g_25 (by decide)), by have qgp1 := g_25.1; have rgp1 := g_25.2; omega⟩⟩, p1, g_25, by have qgp1 := g_25.1; have rgp1 := g_25.2; omega, hF.trans hR9.symm, by rw [ht]; exact hP, hD⟩, hS.F ht⟩) hS.2.2 (dk_at dkX12_end 14 rfl)
  · have hF := gf_pos c_22 hF
    have g_26 : gi r_21 0 0 := gi_eq c_22 (gi_c 0 0 (by decide))
    have hno_27 := gz_inF (A := 0) (B := (mi 26).toInt) (hqr_21.2 (gz_zero1 g_26)) el_19 (by decide) (gz_l2e el_20)
    refine lv_iconst (v := (-1)) hx hb (dk_at dkX12_end 8 rfl) (by decide) ?_
    exact W.iret (v := (-1)) hx hb hr (fun t ht hW => ⟨⟨(-1), (-1), rfl, ⟨rfl, ⟨(gi_w (gi_c (-1) (-1) (by decide)) (by decide)), by have km1 : ((-1) : Int32).toInt = (-1) := (by decide); omega⟩⟩, (mi 26), gmi_26, by have qgmi_26 := gmi_26.1; have rgmi_26 := gmi_26.2; omega, hF.trans hR9.symm, by rw [ht]; exact hP, hD⟩, hS.F ht⟩) hS.2.2 (dk_at dkX12_end 9 rfl)
noncomputable def lsX12_place : List (Nat × Instr × Nat) := [(0, .aload_n 0, 1), (1, .iload_n 1, 1), (2, .invokevirtual 294, 3), (5, .ifCond .eq 15, 3), (8, .iload_n 2, 1), (9, .i2l, 1), (10, .lconst 0, 1), (11, .ldc2_w 298, 3), (14, .invokestatic 102, 3), (17, .ifCond .ne 6, 3), (20, .bipush (-2), 2), (22, .ireturn, 1), (23, .iconst 0, 1), (24, .istore_n 3, 1), (25, .iconst 0, 1), (26, .istore 4, 2), (28, .iload 4, 2), (30, .aload_n 0, 1), (31, .getfield 138, 3), (34, .if_icmp .ge 27, 3), (37, .iload_n 3, 1), (38, .aload_n 0, 1), (39, .iload 4, 2), (41, .iload_n 1, 1), (42, .invokevirtual 300, 3), (45, .ifCond .eq 7, 3), (48, .iconst 1, 1), (49, .goto 4, 3), (52, .iconst 0, 1), (53, .iadd, 1), (54, .istore_n 3, 1), (55, .iinc 4 1, 3), (58, .goto (-30), 3), (61, .iconst 0, 1), (62, .istore 4, 2), (64, .iconst 0, 1), (65, .istore 5, 2), (67, .iload 5, 2), (69, .aload_n 0, 1), (70, .getfield 141, 3), (73, .if_icmp .ge 40, 3), (76, .iload 4, 2), (78, .aload_n 0, 1), (79, .getfield 16, 3), (82, .iload 5, 2), (84, .iaload, 1), (85, .iload_n 1, 1), (86, .if_icmp .ne 17, 3), (89, .aload_n 0, 1), (90, .getfield 22, 3), (93, .iload 5, 2), (95, .baload, 1), (96, .ifCond .ne 7, 3), (99, .iconst 1, 1), (100, .goto 4, 3), (103, .iconst 0, 1), (104, .iadd, 1), (105, .istore 4, 2), (107, .iinc 5 1, 3), (110, .goto (-43), 3), (113, .iload_n 2, 1), (114, .ifCond .ne 12, 3), (117, .aload_n 0, 1), (118, .getfield 7, 3), (121, .iload_n 1, 1), (122, .iaload, 1), (123, .goto 14, 3), (126, .iload_n 2, 1), (127, .iconst 1, 1), (128, .if_icmp .ne 7, 3), (131, .iload_n 3, 1), (132, .goto 5, 3), (135, .iload 4, 2), (137, .ireturn, 1)]
theorem dkX12_place : dkAll cX12_place lsX12_place = true := by decide +kernel
noncomputable def bfX12_place_20 (mi : Nat → Int32) (fm_trust : Nat → Int32) (fm_letter : Nat → Int32) (fm_reportPlace : Nat → Int32) (fm_struck : Nat → Int32) (p1 : Int32) (p2 : Int32) (K : (Int32 → Int32 → Int32) × (Int32 → Int32 → Int32 → Int32)) : Int32 := (-2 : Int32)
noncomputable def bfX12_place_53 (mi : Nat → Int32) (fm_trust : Nat → Int32) (fm_letter : Nat → Int32) (fm_reportPlace : Nat → Int32) (fm_struck : Nat → Int32) (p1 : Int32) (p2 : Int32) (K : (Int32 → Int32 → Int32) × (Int32 → Int32 → Int32 → Int32)) (v4 : Int32) (s0 : Int32) (s1 : Int32) : Int32 := K.1 (s1 + s0) (v4 + (1 : Int32))
noncomputable def bfX12_place_104 (mi : Nat → Int32) (fm_trust : Nat → Int32) (fm_letter : Nat → Int32) (fm_reportPlace : Nat → Int32) (fm_struck : Nat → Int32) (p1 : Int32) (p2 : Int32) (K : (Int32 → Int32 → Int32) × (Int32 → Int32 → Int32 → Int32)) (v3 : Int32) (v5 : Int32) (s0 : Int32) (s1 : Int32) : Int32 := K.2 v3 (s1 + s0) (v5 + (1 : Int32))
noncomputable def bfX12_place_103 (mi : Nat → Int32) (fm_trust : Nat → Int32) (fm_letter : Nat → Int32) (fm_reportPlace : Nat → Int32) (fm_struck : Nat → Int32) (p1 : Int32) (p2 : Int32) (K : (Int32 → Int32 → Int32) × (Int32 → Int32 → Int32 → Int32)) (v3 : Int32) (v5 : Int32) (s0 : Int32) : Int32 := bfX12_place_104 mi fm_trust fm_letter fm_reportPlace fm_struck p1 p2 K v3 v5 (0 : Int32) s0
noncomputable def bfX12_place_137 (mi : Nat → Int32) (fm_trust : Nat → Int32) (fm_letter : Nat → Int32) (fm_reportPlace : Nat → Int32) (fm_struck : Nat → Int32) (p1 : Int32) (p2 : Int32) (K : (Int32 → Int32 → Int32) × (Int32 → Int32 → Int32 → Int32)) (s0 : Int32) : Int32 := s0
noncomputable def dfX12_place_28 (mi : Nat → Int32) (fm_trust : Nat → Int32) (fm_letter : Nat → Int32) (fm_reportPlace : Nat → Int32) (fm_struck : Nat → Int32) (p1 : Int32) (p2 : Int32) (K : (Int32 → Int32 → Int32) × (Int32 → Int32 → Int32 → Int32)) (v3 : Int32) (v4 : Int32) : Int32 := if (mi 7) ≤ v4 then (K.2 v3 (0 : Int32) (0 : Int32)) else (cal (fun o3 => if o3 = (0 : Int32) then (bfX12_place_53 mi fm_trust fm_letter fm_reportPlace fm_struck p1 p2 K v4 (0 : Int32) v3) else (bfX12_place_53 mi fm_trust fm_letter fm_reportPlace fm_struck p1 p2 K v4 (1 : Int32) v3)) (fX12_isNameAhead fm_letter v4 p1))
noncomputable def dfX12_place_67 (mi : Nat → Int32) (fm_trust : Nat → Int32) (fm_letter : Nat → Int32) (fm_reportPlace : Nat → Int32) (fm_struck : Nat → Int32) (p1 : Int32) (p2 : Int32) (K : (Int32 → Int32 → Int32) × (Int32 → Int32 → Int32 → Int32)) (v3 : Int32) (v4 : Int32) (v5 : Int32) : Int32 := if (mi 10) ≤ v5 then (if p2 = (0 : Int32) then (bfX12_place_137 mi fm_trust fm_letter fm_reportPlace fm_struck p1 p2 K (fm_trust p1.toNatClampNeg)) else (if p2 = (1 : Int32) then (bfX12_place_137 mi fm_trust fm_letter fm_reportPlace fm_struck p1 p2 K v3) else (bfX12_place_137 mi fm_trust fm_letter fm_reportPlace fm_struck p1 p2 K v4))) else (if (fm_reportPlace v5.toNatClampNeg) = p1 then (if (fm_struck v5.toNatClampNeg) = (0 : Int32) then (bfX12_place_104 mi fm_trust fm_letter fm_reportPlace fm_struck p1 p2 K v3 v5 (1 : Int32) v4) else (bfX12_place_103 mi fm_trust fm_letter fm_reportPlace fm_struck p1 p2 K v3 v5 v4)) else (bfX12_place_103 mi fm_trust fm_letter fm_reportPlace fm_struck p1 p2 K v3 v5 v4))
noncomputable def lfX12_place (mi : Nat → Int32) (fm_trust : Nat → Int32) (fm_letter : Nat → Int32) (fm_reportPlace : Nat → Int32) (fm_struck : Nat → Int32) (p1 : Int32) (p2 : Int32) (z : Nat) : (Int32 → Int32 → Int32) × (Int32 → Int32 → Int32 → Int32) := Nat.rec (motive := fun _ => (Int32 → Int32 → Int32) × (Int32 → Int32 → Int32 → Int32)) ((fun _ _ => (0), fun _ _ _ => (0))) (fun _ K => (dfX12_place_28 mi fm_trust fm_letter fm_reportPlace fm_struck p1 p2 K, dfX12_place_67 mi fm_trust fm_letter fm_reportPlace fm_struck p1 p2 K)) z
noncomputable def fX12_place (mi : Nat → Int32) (fm_trust : Nat → Int32) (fm_letter : Nat → Int32) (fm_reportPlace : Nat → Int32) (fm_struck : Nat → Int32) (p1 : Int32) (p2 : Int32) : Int32 := cal (fun o1 => if o1 = (0 : Int32) then (bfX12_place_20 mi fm_trust fm_letter fm_reportPlace fm_struck p1 p2 (lfX12_place mi fm_trust fm_letter fm_reportPlace fm_struck p1 p2 1000000000)) else (cal (fun o2 => if o2 = (0 : Int32) then (bfX12_place_20 mi fm_trust fm_letter fm_reportPlace fm_struck p1 p2 (lfX12_place mi fm_trust fm_letter fm_reportPlace fm_struck p1 p2 1000000000)) else ((lfX12_place mi fm_trust fm_letter fm_reportPlace fm_struck p1 p2 1000000000).1 (0 : Int32) (0 : Int32))) (fX12_in (p2.toInt64) (0 : Int64) (2 : Int64)))) (fX12_isPlace mi p1)
set_option maxHeartbeats 4000000 in
set_option maxRecDepth 100000 in
theorem lp_sX12_place {p : Program} {l : Launch} {e : Env} {R : Room} {s : State} {m : MethodId} {args : Array Value} {below : List Frame} {meth : Method} {c : Code} {Q : State → Prop} {A : Nat → Prop} {cells slots : Nat} {dC : Nat → ClassId} {dI : Nat → Nat → Nat} {RES : Int32} (h0 : Nat) (mi : Nat → Int32) (mr : Nat → Nat) (km : Nat → ClassId) (fm_trust : Nat → Int32) (fm_letter : Nat → Int32) (fm_reportPlace : Nat → Int32) (fm_struck : Nat → Int32) (fm_reportKind : Nat → Int32) (fm_reportMonth : Nat → Int32) (fm_reportDay : Nat → Int32) (fm_reportKnown : Nat → Int32) (fm_deedMonth : Nat → Int32) (fm_deedDay : Nat → Int32) (fm_deedLong : Nat → Int32) (fm_deedKind : Nat → Int32) (fm_kept : Nat → Int32) (fm_tape : Nat → Int32) (fm_must : Nat → Int32) (fm_least : Nat → Int32) (fm_pin : Nat → Int32) (fm_ways : Nat → Int32) (fm_verdict : Nat → Int32) (fm_row : Nat → Int32) (fm_official : Nat → Int32) (fm_aside : Nat → Int32) (fm_worth : Nat → Int32) (fm_out : Nat → Int32) (p1 : Int32) (p2 : Int32) (gmi_0 : gi (mi 0) 0 24) (gmi_1 : gi (mi 1) 0 5) (gmi_2 : gi (mi 2) 0 5) (gmi_4 : gi (mi 4) 0 1) (gmi_7 : gi (mi 7) 0 6) (gmi_10 : gi (mi 10) 0 24) (gmi_17 : gi (mi 17) 0 8) (gmi_23 : gi (mi 23) 0 300) (gmi_24 : gi (mi 24) 0 1) (gmi_26 : gi (mi 26) 0 1600) (gmi_29 : gi (mi 29) 0 1600) (gmi_30 : gi (mi 30) 0 1600) (gmi_33 : gi (mi 33) 0 1) (gmi_37 : gi (mi 37) 0 1) (gmi_41 : gi (mi 41) 0 24) (gmi_50 : gi (mi 50) 0 1) (gmi_51 : gi (mi 51) 0 1) (gmi_56 : gi (mi 56) 0 80) (gfm_reportPlace : ga fm_reportPlace 24 0 5) (gfm_struck : ga fm_struck 24 0 1) (hx : p.tables.exec = Jvm.exec) (hb : c.code = cX12_place) (hml : c.maxLocals = 6) (hown : s.vm.findClass RX12 = some m.cls) (hts : ∀ w ∈ ((.code yX12_place cX12_place 6 (some .int) :: wsGB) : List Cond), w.before args s = true) (hK : va_K (dC, dI) vwCl (MT km) s) (hRf : 2 ≤ R.frames) (hRl : 46 ≤ R.locals) (hRc : cells ≤ R.cells) (hRs : slots ≤ R.slots) (kr22 : ∀ (v : Int32) (H : Heap) (locs : List Loc) (ls : Array Slot), gi v (-2) (-2) → v = RES → va_P (dC, dI) vwCl (MWn h0 mr km (mi 0) (mi 1) (mi 2) (mi 3) (mi 4) (mi 5) (mi 6) (mi 7) (mi 10) (mi 17) (mi 23) (mi 24) (mi 26) (mi 27) (mi 28) (mi 29) (mi 30) (mi 31) (mi 32) (mi 33) (mi 37) (mi 41) (mi 42) (mi 43) (mi 44) (mi 45) (mi 47) (mi 48) (mi 49) (mi 50) (mi 51) (mi 54) (mi 56) fm_trust fm_letter fm_reportPlace fm_reportKind fm_struck fm_reportMonth fm_reportDay fm_reportKnown fm_deedMonth fm_deedDay fm_deedLong fm_deedKind fm_kept fm_tape fm_must fm_least fm_pin fm_ways fm_verdict fm_row fm_official fm_aside fm_worth fm_out) H → va_S A s.heap H locs → lv_has ls 6 [] → W p l e R s m args below meth c H locs cells slots Q (F0 m 22 ls [.int v])) (kr137 : ∀ (v : Int32) (H : Heap) (locs : List Loc) (ls : Array Slot), v = RES → va_P (dC, dI) vwCl (MWn h0 mr km (mi 0) (mi 1) (mi 2) (mi 3) (mi 4) (mi 5) (mi 6) (mi 7) (mi 10) (mi 17) (mi 23) (mi 24) (mi 26) (mi 27) (mi 28) (mi 29) (mi 30) (mi 31) (mi 32) (mi 33) (mi 37) (mi 41) (mi 42) (mi 43) (mi 44) (mi 45) (mi 47) (mi 48) (mi 49) (mi 50) (mi 51) (mi 54) (mi 56) fm_trust fm_letter fm_reportPlace fm_reportKind fm_struck fm_reportMonth fm_reportDay fm_reportKnown fm_deedMonth fm_deedDay fm_deedLong fm_deedKind fm_kept fm_tape fm_must fm_least fm_pin fm_ways fm_verdict fm_row fm_official fm_aside fm_worth fm_out) H → va_S A s.heap H locs → lv_has ls 6 [] → W p l e R s m args below meth c H locs cells slots Q (F0 m 137 ls [.int v])) : ∀ z : Nat, (∀ (v3 : Int32) (v4 : Int32) (H : Heap) (locs : List Loc) (ls : Array Slot), gi p1 0 5 → gi p2 0 2 → gi v4 0 6 → (lfX12_place mi fm_trust fm_letter fm_reportPlace fm_struck p1 p2 z).1 v3 v4 = RES → 65 + (-2) * v4.toInt < (z : Int) → va_P (dC, dI) vwCl (MWn h0 mr km (mi 0) (mi 1) (mi 2) (mi 3) (mi 4) (mi 5) (mi 6) (mi 7) (mi 10) (mi 17) (mi 23) (mi 24) (mi 26) (mi 27) (mi 28) (mi 29) (mi 30) (mi 31) (mi 32) (mi 33) (mi 37) (mi 41) (mi 42) (mi 43) (mi 44) (mi 45) (mi 47) (mi 48) (mi 49) (mi 50) (mi 51) (mi 54) (mi 56) fm_trust fm_letter fm_reportPlace fm_reportKind fm_struck fm_reportMonth fm_reportDay fm_reportKnown fm_deedMonth fm_deedDay fm_deedLong fm_deedKind fm_kept fm_tape fm_must fm_least fm_pin fm_ways fm_verdict fm_row fm_official fm_aside fm_worth fm_out) H → va_S A s.heap H locs → lv_has ls 6 [(0, .ref h0), (1, .int p1), (2, .int p2), (3, .int v3), (4, .int v4)] → W p l e R s m args below meth c H locs cells slots Q (F0 m 28 ls [])) ∧ (∀ (v3 : Int32) (v4 : Int32) (v5 : Int32) (H : Heap) (locs : List Loc) (ls : Array Slot), gi p1 0 5 → gi p2 0 2 → gi v5 0 24 → (lfX12_place mi fm_trust fm_letter fm_reportPlace fm_struck p1 p2 z).2 v3 v4 v5 = RES → 49 + (-2) * v5.toInt < (z : Int) → va_P (dC, dI) vwCl (MWn h0 mr km (mi 0) (mi 1) (mi 2) (mi 3) (mi 4) (mi 5) (mi 6) (mi 7) (mi 10) (mi 17) (mi 23) (mi 24) (mi 26) (mi 27) (mi 28) (mi 29) (mi 30) (mi 31) (mi 32) (mi 33) (mi 37) (mi 41) (mi 42) (mi 43) (mi 44) (mi 45) (mi 47) (mi 48) (mi 49) (mi 50) (mi 51) (mi 54) (mi 56) fm_trust fm_letter fm_reportPlace fm_reportKind fm_struck fm_reportMonth fm_reportDay fm_reportKnown fm_deedMonth fm_deedDay fm_deedLong fm_deedKind fm_kept fm_tape fm_must fm_least fm_pin fm_ways fm_verdict fm_row fm_official fm_aside fm_worth fm_out) H → va_S A s.heap H locs → lv_has ls 6 [(0, .ref h0), (1, .int p1), (2, .int p2), (3, .int v3), (4, .int v4), (5, .int v5)] → W p l e R s m args below meth c H locs cells slots Q (F0 m 67 ls [])) := by
  intro z
  induction z with
  | zero =>
    refine ⟨?_, ?_⟩
    · intro v3 v4 H locs ls gf_p1 gf_p2 gv4 hF hmu hP hS hl
      exact absurd hmu (by have hv41 := gv4.1; have hv42 := gv4.2; omega)
    · intro v3 v4 v5 H locs ls gf_p1 gf_p2 gv5 hF hmu hP hS hl
      exact absurd hmu (by have hv51 := gv5.1; have hv52 := gv5.2; omega)
  | succ z ih =>
    refine ⟨?_, ?_⟩
    · intro v3 v4 H locs ls gf_p1 gf_p2 gv4 hF hmu hP hS hl
      have hF : dfX12_place_28 mi fm_trust fm_letter fm_reportPlace fm_struck p1 p2 (lfX12_place mi fm_trust fm_letter fm_reportPlace fm_struck p1 p2 z) v3 v4 = RES := hF
      refine lv_iload hx hb (dk_at dkX12_place 16 rfl) (lv_at hl 4 rfl) ?_
      refine lv_aload_n hx hb (dk_at dkX12_place 17 rfl) rfl (lv_at hl 0 rfl) ?_
      refine va_get (D := (dC, dI)) (ci := 12) (v := .int (mi 7)) (C := RX12) (T := TX12) (N := 57) hx hb hts (fun w h => List.mem_cons_of_mem _ (jnGB_X12 w h)) hown hK hP 0 rfl rfl 7 (by decide) (hts _ (List.mem_cons_of_mem _ mGB_110)) (fun _ h9 => h9) rfl (dk_at dkX12_place 18 rfl) ?_
      refine lv_icmp_ge (tgt := 61) hx hb (dk_at dkX12_place 19 rfl) (by decide) (fun c_1761 => ?_) (fun c_1761 => ?_)
      · have hF := gf_pos c_1761 hF
        refine lv_iconst (v := 0) hx hb (dk_at dkX12_place 33 rfl) (by decide) ?_
        refine lv_istore (lv' := [(4, .int 0), (0, .ref h0), (1, .int p1), (2, .int p2), (3, .int v3)]) hx hb (dk_at dkX12_place 34 rfl) hl (by decide) rfl (fun ls hl => ?_)
        refine lv_iconst (v := 0) hx hb (dk_at dkX12_place 35 rfl) (by decide) ?_
        refine lv_istore (lv' := [(5, .int 0), (4, .int 0), (0, .ref h0), (1, .int p1), (2, .int p2), (3, .int v3)]) hx hb (dk_at dkX12_place 36 rfl) hl (by decide) rfl (fun ls hl => ?_)
        exact ih.2 v3 0 0 _ _ _ gf_p1 gf_p2 (gi_w (gi_c 0 0 (by decide)) (by decide)) hF (by have k0 : (0 : Int32).toInt = 0 := (by decide); have av4 := gv4.1; have bv4 := gv4.2; omega) hP hS (lv_sub hl [2, 3, 4, 5, 1, 0] rfl)
      · have hF := gf_neg c_1761 hF
        have g_1762 : gi v4 0 5 := gi_lt_l (Int32.not_le.mp c_1761) gv4 gmi_7 (by decide)
        have g_1763 : gi (mi 7) 1 6 := gi_lt_r (Int32.not_le.mp c_1761) gv4 gmi_7 (by decide)
        refine lv_iload_n hx hb (dk_at dkX12_place 20 rfl) rfl (lv_at hl 3 rfl) ?_
        refine lv_aload_n hx hb (dk_at dkX12_place 21 rfl) rfl (lv_at hl 0 rfl) ?_
        refine lv_iload hx hb (dk_at dkX12_place 22 rfl) (lv_at hl 4 rfl) ?_
        refine lv_iload_n hx hb (dk_at dkX12_place 23 rfl) rfl (lv_at hl 1 rfl) ?_
        refine va_calli (va_runV (As := [.int v4, .int p1]) (rest := [.int v3]) ⟨hx, hb, hml, hown, hts⟩ (sX12_isNameAhead l dC dI h0 mi mr km fm_letter fm_trust fm_reportPlace fm_reportKind fm_struck fm_reportMonth fm_reportDay fm_reportKnown fm_deedMonth fm_deedDay fm_deedLong fm_deedKind fm_kept fm_tape fm_must fm_least fm_pin fm_ways fm_verdict fm_row fm_official fm_aside fm_worth fm_out v4 p1 gmi_0 gmi_1 gmi_2 gmi_4 (gi_w g_1763 (by decide)) gmi_10 gmi_17 gmi_23 gmi_24 gmi_26 gmi_29 gmi_30 gmi_33 gmi_37 gmi_41 gmi_50 gmi_51 gmi_56 g_1762 gf_p1) (cwV 2 hts (gz_gV mGB_228 mGB_229 mGB_230 mGB_1 mGB_231 goodGB) rfl rfl rfl (by decide +kernel) ⟨Nat.le_trans (Nat.le_of_ble_eq_true rfl) hRf, Nat.le_trans (Nat.le_of_ble_eq_true rfl) hRl⟩) ⟨bl_R, mw_recv hK hP, fun U hU hW => ⟨rfl, by rw [hU]; exact hP, va_K.moved hW.alike hK⟩⟩ rfl rfl hl.1 rfl (lv_room (Nat.le_of_ble_eq_true rfl)) (dk_at dkX12_place 24 rfl) ⟨hRc, hRs⟩) hS (fun q _ h => h.elim) (fun q h => h.elim) (fun r_1764 u t H1 locs ht hvm hw hB hz1 hk1 hS => ?_)
        obtain ⟨hw, hE⟩ := hw
        have hP := gz_keep hP hk1
        have hF := gf_call (a := r_1764) hE hF
        generalize H1 = H at hP hS ⊢
        have gr_1764 : gi r_1764 0 1 := hw
        refine lv_if_eq (tgt := 52) hx hb (dk_at dkX12_place 25 rfl) (by decide) (fun c_1765 => ?_) (fun c_1765 => ?_)
        · have hF := gf_pos c_1765 hF
          have g_1766 : gi r_1764 0 0 := gi_eq c_1765 (gi_c 0 0 (by decide))
          refine lv_iconst (v := 0) hx hb (dk_at dkX12_place 28 rfl) (by decide) ?_
          refine lv_iadd hx hb (dk_at dkX12_place 29 rfl) ?_
          refine lv_topi (fun x_1767 ex_1767 => ?_)
          refine lv_istore_n (lv' := [(3, .int x_1767), (0, .ref h0), (1, .int p1), (2, .int p2), (4, .int v4)]) hx hb (dk_at dkX12_place 30 rfl) rfl hl (by decide) rfl (fun ls hl => ?_)
          obtain ⟨x_1768, ex_1768⟩ : ∃ y : Int32, y = v4 + 1 := ⟨_, rfl⟩
          have gx_1768 : gi x_1768 1 6 := gi_add ex_1768 g_1762 (gi_c 1 1 (by decide)) (by decide)
          refine lv_iinc (v := x_1768) (lv' := [(4, .int x_1768), (3, .int x_1767), (0, .ref h0), (1, .int p1), (2, .int p2)]) hx hb (dk_at dkX12_place 31 rfl) hl (k := 4) rfl (by rw [ex_1768]; rfl) (by decide) rfl (fun ls hl => ?_)
          refine lv_goto (tgt := 28) hx hb (dk_at dkX12_place 32 rfl) (by decide) ?_
          exact ih.1 x_1767 x_1768 _ _ _ gf_p1 gf_p2 (gi_w gx_1768 (by decide)) (by rw [ex_1768, ex_1767]; exact hF) (by have av4 := gv4.1; have bv4 := gv4.2; have qgx_1768 := gx_1768.1; have rgx_1768 := gx_1768.2; have igx_1768 : x_1768.toInt = v4.toInt + 1 := (by have hc1 : (1 : Int32).toInt = 1 := (by decide); have h9 := gi_addI ex_1768 (by have h1 := g_1762.1; have h2 := (gi_c 1 1 (by decide)).1; have h3 := g_1762.2; have h4 := (gi_c 1 1 (by decide)).2; omega) (by have h1 := g_1762.1; have h2 := (gi_c 1 1 (by decide)).1; have h3 := g_1762.2; have h4 := (gi_c 1 1 (by decide)).2; omega); rw [hc1] at h9; exact h9); have qgv4 := g_1762.1; have rgv4 := g_1762.2; omega) hP hS (lv_sub hl [2, 3, 4, 1, 0] rfl)
        · have hF := gf_neg c_1765 hF
          have g_1769 : gi r_1764 1 1 := gi_ne_lo c_1765 gr_1764 (gi_c 0 0 (by decide)) (by decide)
          refine lv_iconst (v := 1) hx hb (dk_at dkX12_place 26 rfl) (by decide) ?_
          refine lv_goto (tgt := 53) hx hb (dk_at dkX12_place 27 rfl) (by decide) ?_
          refine lv_iadd hx hb (dk_at dkX12_place 29 rfl) ?_
          refine lv_topi (fun x_1770 ex_1770 => ?_)
          refine lv_istore_n (lv' := [(3, .int x_1770), (0, .ref h0), (1, .int p1), (2, .int p2), (4, .int v4)]) hx hb (dk_at dkX12_place 30 rfl) rfl hl (by decide) rfl (fun ls hl => ?_)
          obtain ⟨x_1771, ex_1771⟩ : ∃ y : Int32, y = v4 + 1 := ⟨_, rfl⟩
          have gx_1771 : gi x_1771 1 6 := gi_add ex_1771 g_1762 (gi_c 1 1 (by decide)) (by decide)
          refine lv_iinc (v := x_1771) (lv' := [(4, .int x_1771), (3, .int x_1770), (0, .ref h0), (1, .int p1), (2, .int p2)]) hx hb (dk_at dkX12_place 31 rfl) hl (k := 4) rfl (by rw [ex_1771]; rfl) (by decide) rfl (fun ls hl => ?_)
          refine lv_goto (tgt := 28) hx hb (dk_at dkX12_place 32 rfl) (by decide) ?_
          exact ih.1 x_1770 x_1771 _ _ _ gf_p1 gf_p2 (gi_w gx_1771 (by decide)) (by rw [ex_1771, ex_1770]; exact hF) (by have av4 := gv4.1; have bv4 := gv4.2; have qgx_1771 := gx_1771.1; have rgx_1771 := gx_1771.2; have igx_1771 : x_1771.toInt = v4.toInt + 1 := (by have hc1 : (1 : Int32).toInt = 1 := (by decide); have h9 := gi_addI ex_1771 (by have h1 := g_1762.1; have h2 := (gi_c 1 1 (by decide)).1; have h3 := g_1762.2; have h4 := (gi_c 1 1 (by decide)).2; omega) (by have h1 := g_1762.1; have h2 := (gi_c 1 1 (by decide)).1; have h3 := g_1762.2; have h4 := (gi_c 1 1 (by decide)).2; omega); rw [hc1] at h9; exact h9); have qgv4 := g_1762.1; have rgv4 := g_1762.2; omega) hP hS (lv_sub hl [2, 3, 4, 1, 0] rfl)
    · intro v3 v4 v5 H locs ls gf_p1 gf_p2 gv5 hF hmu hP hS hl
      have hF : dfX12_place_67 mi fm_trust fm_letter fm_reportPlace fm_struck p1 p2 (lfX12_place mi fm_trust fm_letter fm_reportPlace fm_struck p1 p2 z) v3 v4 v5 = RES := hF
      refine lv_iload hx hb (dk_at dkX12_place 37 rfl) (lv_at hl 5 rfl) ?_
      refine lv_aload_n hx hb (dk_at dkX12_place 38 rfl) rfl (lv_at hl 0 rfl) ?_
      refine va_get (D := (dC, dI)) (ci := 12) (v := .int (mi 10)) (C := RX12) (T := TX12) (N := 57) hx hb hts (fun w h => List.mem_cons_of_mem _ (jnGB_X12 w h)) hown hK hP 0 rfl rfl 10 (by decide) (hts _ (List.mem_cons_of_mem _ mGB_111)) (fun _ h9 => h9) rfl (dk_at dkX12_place 39 rfl) ?_
      refine lv_icmp_ge (tgt := 113) hx hb (dk_at dkX12_place 40 rfl) (by decide) (fun c_1772 => ?_) (fun c_1772 => ?_)
      · have hF := gf_pos c_1772 hF
        refine lv_iload_n hx hb (dk_at dkX12_place 60 rfl) rfl (lv_at hl 2 rfl) ?_
        refine lv_if_ne (tgt := 126) hx hb (dk_at dkX12_place 61 rfl) (by decide) (fun c_1773 => ?_) (fun c_1773 => ?_)
        · have hF := gf_neg c_1773 hF
          have g_1774 : gi p2 1 2 := gi_ne_lo c_1773 gf_p2 (gi_c 0 0 (by decide)) (by decide)
          refine lv_iload_n hx hb (dk_at dkX12_place 67 rfl) rfl (lv_at hl 2 rfl) ?_
          refine lv_iconst (v := 1) hx hb (dk_at dkX12_place 68 rfl) (by decide) ?_
          refine lv_icmp_ne (tgt := 135) hx hb (dk_at dkX12_place 69 rfl) (by decide) (fun c_1775 => ?_) (fun c_1775 => ?_)
          · have hF := gf_neg c_1775 hF
            have g_1776 : gi p2 2 2 := gi_ne_lo c_1775 g_1774 (gi_c 1 1 (by decide)) (by decide)
            refine lv_iload hx hb (dk_at dkX12_place 72 rfl) (lv_at hl 4 rfl) ?_
            exact kr137 v4 _ _ _ hF hP hS (lv_sub hl [] rfl)
          · have hF := gf_pos c_1775 hF
            have g_1777 : gi p2 1 1 := gi_eq c_1775 (gi_c 1 1 (by decide))
            refine lv_iload_n hx hb (dk_at dkX12_place 70 rfl) rfl (lv_at hl 3 rfl) ?_
            refine lv_goto (tgt := 137) hx hb (dk_at dkX12_place 71 rfl) (by decide) ?_
            exact kr137 v3 _ _ _ hF hP hS (lv_sub hl [] rfl)
        · have hF := gf_pos c_1773 hF
          have g_1778 : gi p2 0 0 := gi_eq c_1773 (gi_c 0 0 (by decide))
          refine lv_aload_n hx hb (dk_at dkX12_place 62 rfl) rfl (lv_at hl 0 rfl) ?_
          refine va_get (D := (dC, dI)) (ci := 12) (v := .ref (mr 0)) (C := RX12) (T := TX12) (N := 57) hx hb hts (fun w h => List.mem_cons_of_mem _ (jnGB_X12 w h)) hown hK hP 0 rfl rfl 8 (by decide) (hts _ (List.mem_cons_of_mem _ mGB_10)) (fun _ h9 => h9) rfl (dk_at dkX12_place 63 rfl) ?_
          refine lv_iload_n hx hb (dk_at dkX12_place 64 rfl) rfl (lv_at hl 1 rfl) ?_
          refine va_iald hx hb hK hP 1 0 rfl rfl (gi_in gf_p1 (by decide)) (dk_at dkX12_place 65 rfl) ?_
          refine lv_topi (fun x_1779 ex_1779 => ?_)
          refine lv_goto (tgt := 137) hx hb (dk_at dkX12_place 66 rfl) (by decide) ?_
          exact kr137 x_1779 _ _ _ (by rw [ex_1779]; exact hF) hP hS (lv_sub hl [] rfl)
      · have hF := gf_neg c_1772 hF
        have g_1780 : gi v5 0 23 := gi_lt_l (Int32.not_le.mp c_1772) gv5 gmi_10 (by decide)
        have g_1781 : gi (mi 10) 1 24 := gi_lt_r (Int32.not_le.mp c_1772) gv5 gmi_10 (by decide)
        refine lv_iload hx hb (dk_at dkX12_place 41 rfl) (lv_at hl 4 rfl) ?_
        refine lv_aload_n hx hb (dk_at dkX12_place 42 rfl) rfl (lv_at hl 0 rfl) ?_
        refine va_get (D := (dC, dI)) (ci := 12) (v := .ref (mr 2)) (C := RX12) (T := TX12) (N := 57) hx hb hts (fun w h => List.mem_cons_of_mem _ (jnGB_X12 w h)) hown hK hP 0 rfl rfl 11 (by decide) (hts _ (List.mem_cons_of_mem _ mGB_12)) (fun _ h9 => h9) rfl (dk_at dkX12_place 43 rfl) ?_
        refine lv_iload hx hb (dk_at dkX12_place 44 rfl) (lv_at hl 5 rfl) ?_
        refine va_iald hx hb hK hP 3 2 rfl rfl (gi_in g_1780 (by decide)) (dk_at dkX12_place 45 rfl) ?_
        refine lv_topi (fun x_1782 ex_1782 => ?_)
        have gx_1782 : gi x_1782 0 5 := ga_at gfm_reportPlace (gi_in g_1780 (by decide)) ex_1782
        refine lv_iload_n hx hb (dk_at dkX12_place 46 rfl) rfl (lv_at hl 1 rfl) ?_
        refine lv_icmp_ne (tgt := 103) hx hb (dk_at dkX12_place 47 rfl) (by decide) (fun c_1783 => ?_) (fun c_1783 => ?_)
        · have hF := gf_neg (by rw [ex_1782] at c_1783; exact c_1783) hF
          refine lv_iconst (v := 0) hx hb (dk_at dkX12_place 55 rfl) (by decide) ?_
          refine lv_iadd hx hb (dk_at dkX12_place 56 rfl) ?_
          refine lv_topi (fun x_1784 ex_1784 => ?_)
          refine lv_istore (lv' := [(4, .int x_1784), (0, .ref h0), (1, .int p1), (2, .int p2), (3, .int v3), (5, .int v5)]) hx hb (dk_at dkX12_place 57 rfl) hl (by decide) rfl (fun ls hl => ?_)
          obtain ⟨x_1785, ex_1785⟩ : ∃ y : Int32, y = v5 + 1 := ⟨_, rfl⟩
          have gx_1785 : gi x_1785 1 24 := gi_add ex_1785 g_1780 (gi_c 1 1 (by decide)) (by decide)
          refine lv_iinc (v := x_1785) (lv' := [(5, .int x_1785), (4, .int x_1784), (0, .ref h0), (1, .int p1), (2, .int p2), (3, .int v3)]) hx hb (dk_at dkX12_place 58 rfl) hl (k := 5) rfl (by rw [ex_1785]; rfl) (by decide) rfl (fun ls hl => ?_)
          refine lv_goto (tgt := 67) hx hb (dk_at dkX12_place 59 rfl) (by decide) ?_
          exact ih.2 v3 x_1784 x_1785 _ _ _ gf_p1 gf_p2 (gi_w gx_1785 (by decide)) (by rw [ex_1785, ex_1784]; exact hF) (by have av5 := gv5.1; have bv5 := gv5.2; have qgx_1785 := gx_1785.1; have rgx_1785 := gx_1785.2; have igx_1785 : x_1785.toInt = v5.toInt + 1 := (by have hc1 : (1 : Int32).toInt = 1 := (by decide); have h9 := gi_addI ex_1785 (by have h1 := g_1780.1; have h2 := (gi_c 1 1 (by decide)).1; have h3 := g_1780.2; have h4 := (gi_c 1 1 (by decide)).2; omega) (by have h1 := g_1780.1; have h2 := (gi_c 1 1 (by decide)).1; have h3 := g_1780.2; have h4 := (gi_c 1 1 (by decide)).2; omega); rw [hc1] at h9; exact h9); have qgv5 := g_1780.1; have rgv5 := g_1780.2; omega) hP hS (lv_sub hl [2, 3, 4, 5, 1, 0] rfl)
        · have hF := gf_pos (by rw [ex_1782] at c_1783; exact c_1783) hF
          refine lv_aload_n hx hb (dk_at dkX12_place 48 rfl) rfl (lv_at hl 0 rfl) ?_
          refine va_get (D := (dC, dI)) (ci := 12) (v := .ref (mr 4)) (C := RX12) (T := TX12) (N := 57) hx hb hts (fun w h => List.mem_cons_of_mem _ (jnGB_X12 w h)) hown hK hP 0 rfl rfl 13 (by decide) (hts _ (List.mem_cons_of_mem _ mGB_15)) (fun _ h9 => h9) rfl (dk_at dkX12_place 49 rfl) ?_
          refine lv_iload hx hb (dk_at dkX12_place 50 rfl) (lv_at hl 5 rfl) ?_
          refine va_zald hx hb hK hP 5 4 rfl rfl (gi_in g_1780 (by decide)) (dk_at dkX12_place 51 rfl) ?_
          refine lv_topi (fun x_1786 ex_1786 => ?_)
          have gx_1786 : gi x_1786 0 1 := ga_at gfm_struck (gi_in g_1780 (by decide)) ex_1786
          refine lv_if_ne (tgt := 103) hx hb (dk_at dkX12_place 52 rfl) (by decide) (fun c_1787 => ?_) (fun c_1787 => ?_)
          · have hF := gf_neg (by rw [ex_1786] at c_1787; exact c_1787) hF
            have g_1788 : gi x_1786 1 1 := gi_ne_lo c_1787 gx_1786 (gi_c 0 0 (by decide)) (by decide)
            refine lv_iconst (v := 0) hx hb (dk_at dkX12_place 55 rfl) (by decide) ?_
            refine lv_iadd hx hb (dk_at dkX12_place 56 rfl) ?_
            refine lv_topi (fun x_1789 ex_1789 => ?_)
            refine lv_istore (lv' := [(4, .int x_1789), (0, .ref h0), (1, .int p1), (2, .int p2), (3, .int v3), (5, .int v5)]) hx hb (dk_at dkX12_place 57 rfl) hl (by decide) rfl (fun ls hl => ?_)
            obtain ⟨x_1790, ex_1790⟩ : ∃ y : Int32, y = v5 + 1 := ⟨_, rfl⟩
            have gx_1790 : gi x_1790 1 24 := gi_add ex_1790 g_1780 (gi_c 1 1 (by decide)) (by decide)
            refine lv_iinc (v := x_1790) (lv' := [(5, .int x_1790), (4, .int x_1789), (0, .ref h0), (1, .int p1), (2, .int p2), (3, .int v3)]) hx hb (dk_at dkX12_place 58 rfl) hl (k := 5) rfl (by rw [ex_1790]; rfl) (by decide) rfl (fun ls hl => ?_)
            refine lv_goto (tgt := 67) hx hb (dk_at dkX12_place 59 rfl) (by decide) ?_
            exact ih.2 v3 x_1789 x_1790 _ _ _ gf_p1 gf_p2 (gi_w gx_1790 (by decide)) (by rw [ex_1790, ex_1789]; exact hF) (by have av5 := gv5.1; have bv5 := gv5.2; have qgx_1790 := gx_1790.1; have rgx_1790 := gx_1790.2; have igx_1790 : x_1790.toInt = v5.toInt + 1 := (by have hc1 : (1 : Int32).toInt = 1 := (by decide); have h9 := gi_addI ex_1790 (by have h1 := g_1780.1; have h2 := (gi_c 1 1 (by decide)).1; have h3 := g_1780.2; have h4 := (gi_c 1 1 (by decide)).2; omega) (by have h1 := g_1780.1; have h2 := (gi_c 1 1 (by decide)).1; have h3 := g_1780.2; have h4 := (gi_c 1 1 (by decide)).2; omega); rw [hc1] at h9; exact h9); have qgv5 := g_1780.1; have rgv5 := g_1780.2; omega) hP hS (lv_sub hl [2, 3, 4, 5, 1, 0] rfl)
          · have hF := gf_pos (by rw [ex_1786] at c_1787; exact c_1787) hF
            have g_1791 : gi x_1786 0 0 := gi_eq c_1787 (gi_c 0 0 (by decide))
            refine lv_iconst (v := 1) hx hb (dk_at dkX12_place 53 rfl) (by decide) ?_
            refine lv_goto (tgt := 104) hx hb (dk_at dkX12_place 54 rfl) (by decide) ?_
            refine lv_iadd hx hb (dk_at dkX12_place 56 rfl) ?_
            refine lv_topi (fun x_1792 ex_1792 => ?_)
            refine lv_istore (lv' := [(4, .int x_1792), (0, .ref h0), (1, .int p1), (2, .int p2), (3, .int v3), (5, .int v5)]) hx hb (dk_at dkX12_place 57 rfl) hl (by decide) rfl (fun ls hl => ?_)
            obtain ⟨x_1793, ex_1793⟩ : ∃ y : Int32, y = v5 + 1 := ⟨_, rfl⟩
            have gx_1793 : gi x_1793 1 24 := gi_add ex_1793 g_1780 (gi_c 1 1 (by decide)) (by decide)
            refine lv_iinc (v := x_1793) (lv' := [(5, .int x_1793), (4, .int x_1792), (0, .ref h0), (1, .int p1), (2, .int p2), (3, .int v3)]) hx hb (dk_at dkX12_place 58 rfl) hl (k := 5) rfl (by rw [ex_1793]; rfl) (by decide) rfl (fun ls hl => ?_)
            refine lv_goto (tgt := 67) hx hb (dk_at dkX12_place 59 rfl) (by decide) ?_
            exact ih.2 v3 x_1792 x_1793 _ _ _ gf_p1 gf_p2 (gi_w gx_1793 (by decide)) (by rw [ex_1793, ex_1792]; exact hF) (by have av5 := gv5.1; have bv5 := gv5.2; have qgx_1793 := gx_1793.1; have rgx_1793 := gx_1793.2; have igx_1793 : x_1793.toInt = v5.toInt + 1 := (by have hc1 : (1 : Int32).toInt = 1 := (by decide); have h9 := gi_addI ex_1793 (by have h1 := g_1780.1; have h2 := (gi_c 1 1 (by decide)).1; have h3 := g_1780.2; have h4 := (gi_c 1 1 (by decide)).2; omega) (by have h1 := g_1780.1; have h2 := (gi_c 1 1 (by decide)).1; have h3 := g_1780.2; have h4 := (gi_c 1 1 (by decide)).2; omega); rw [hc1] at h9; exact h9); have qgv5 := g_1780.1; have rgv5 := g_1780.2; omega) hP hS (lv_sub hl [2, 3, 4, 5, 1, 0] rfl)
set_option maxHeartbeats 4000000 in
set_option maxRecDepth 100000 in
theorem sX12_place (l : Launch) (dC : Nat → ClassId) (dI : Nat → Nat → Nat) (h0 : Nat) (mi : Nat → Int32) (mr : Nat → Nat) (km : Nat → ClassId) (fm_trust : Nat → Int32) (fm_letter : Nat → Int32) (fm_reportPlace : Nat → Int32) (fm_struck : Nat → Int32) (fm_reportKind : Nat → Int32) (fm_reportMonth : Nat → Int32) (fm_reportDay : Nat → Int32) (fm_reportKnown : Nat → Int32) (fm_deedMonth : Nat → Int32) (fm_deedDay : Nat → Int32) (fm_deedLong : Nat → Int32) (fm_deedKind : Nat → Int32) (fm_kept : Nat → Int32) (fm_tape : Nat → Int32) (fm_must : Nat → Int32) (fm_least : Nat → Int32) (fm_pin : Nat → Int32) (fm_ways : Nat → Int32) (fm_verdict : Nat → Int32) (fm_row : Nat → Int32) (fm_official : Nat → Int32) (fm_aside : Nat → Int32) (fm_worth : Nat → Int32) (fm_out : Nat → Int32) (p1 : Int32) (p2 : Int32) (gmi_0 : gi (mi 0) 0 24) (gmi_1 : gi (mi 1) 0 5) (gmi_2 : gi (mi 2) 0 5) (gmi_4 : gi (mi 4) 0 1) (gmi_7 : gi (mi 7) 0 6) (gmi_10 : gi (mi 10) 0 24) (gmi_17 : gi (mi 17) 0 8) (gmi_23 : gi (mi 23) 0 300) (gmi_24 : gi (mi 24) 0 1) (gmi_26 : gi (mi 26) 0 1600) (gmi_29 : gi (mi 29) 0 1600) (gmi_30 : gi (mi 30) 0 1600) (gmi_33 : gi (mi 33) 0 1) (gmi_37 : gi (mi 37) 0 1) (gmi_41 : gi (mi 41) 0 24) (gmi_50 : gi (mi 50) 0 1) (gmi_51 : gi (mi 51) 0 1) (gmi_56 : gi (mi 56) 0 80) (gfm_reportPlace : ga fm_reportPlace 24 0 5) (gfm_struck : ga fm_struck 24 0 1) : Met l yX12_place (.code yX12_place cX12_place 6 (some .int) :: wsGB) ({ frames := 2, cells := 0, slots := 0, locals := 46 }) (va_Pc [.ref h0, .int p1, .int p2] (fun U => va_P (dC, dI) vwCl (MWn h0 mr km (mi 0) (mi 1) (mi 2) (mi 3) (mi 4) (mi 5) (mi 6) (mi 7) (mi 10) (mi 17) (mi 23) (mi 24) (mi 26) (mi 27) (mi 28) (mi 29) (mi 30) (mi 31) (mi 32) (mi 33) (mi 37) (mi 41) (mi 42) (mi 43) (mi 44) (mi 45) (mi 47) (mi 48) (mi 49) (mi 50) (mi 51) (mi 54) (mi 56) fm_trust fm_letter fm_reportPlace fm_reportKind fm_struck fm_reportMonth fm_reportDay fm_reportKnown fm_deedMonth fm_deedDay fm_deedLong fm_deedKind fm_kept fm_tape fm_must fm_least fm_pin fm_ways fm_verdict fm_row fm_official fm_aside fm_worth fm_out) U.heap ∧ va_K (dC, dI) vwCl (MT km) U)) (va_Qi (fun (r : Int32) (u : Unit) => (gi r (-2147483648) 2147483647) ∧ r = fX12_place mi fm_trust fm_letter fm_reportPlace fm_struck p1 p2) (fun _ _ => True) (fun _ => False)) 0 0 (fun _ => False) := by
  refine Met.ofW (cc := cX12_place) (maxL := 6) (ret := (some .int)) (by decide) rfl ?_
  intro p e s m args below meth c s₁ B hml hv
  obtain ⟨rfl, hP, hK⟩ := hv
  have hx := B.exec
  have hb := B.bytes
  have hr := B.returns
  have hts := atoms_spec (ws := (.code yX12_place cX12_place 6 (some .int) :: wsGB)) B.pre
  have hown : s.vm.findClass RX12 = some m.cls := findClass_of_methodNamed B.named
  have hlocks := B.notSynchronized
  have hS : va_S (fun _ => False) s.heap s.heap [] := va_S.rf
  have hl := lv_entry ([.ref h0, .int p1, .int p2]) (n := 6) (Nat.le_of_ble_eq_true rfl)
  rw [lg_entry_eq]
  generalize (lg_sl ([.ref h0, .int p1, .int p2]) ++ List.replicate (6 - (lg_sl ([.ref h0, .int p1, .int p2])).length) Slot.unset).toArray = ls at hl ⊢
  have hl : lv_has ls 6 [(0, .ref h0), (1, .int p1), (2, .int p2)] := hl
  obtain ⟨RES, hF⟩ : ∃ R9, fX12_place mi fm_trust fm_letter fm_reportPlace fm_struck p1 p2 = R9 := ⟨_, rfl⟩
  have hR9 := hF
  refine lv_aload_n hx hb (dk_at dkX12_place 0 rfl) rfl (lv_at hl 0 rfl) ?_
  refine lv_iload_n hx hb (dk_at dkX12_place 1 rfl) rfl (lv_at hl 1 rfl) ?_
  refine va_calli (va_runV (As := [.int p1]) (rest := []) ⟨hx, hb, hml, hown, hts⟩ (sX12_isPlace l dC dI h0 mi mr km fm_trust fm_letter fm_reportPlace fm_reportKind fm_struck fm_reportMonth fm_reportDay fm_reportKnown fm_deedMonth fm_deedDay fm_deedLong fm_deedKind fm_kept fm_tape fm_must fm_least fm_pin fm_ways fm_verdict fm_row fm_official fm_aside fm_worth fm_out p1 gmi_0 gmi_1 gmi_2 gmi_4 gmi_7 gmi_10 gmi_17 gmi_23 gmi_24 gmi_26 gmi_29 gmi_30 gmi_33 gmi_37 gmi_41 gmi_50 gmi_51 gmi_56) (cwV 1 hts (gz_gV mGB_224 mGB_225 mGB_226 mGB_1 mGB_227 goodGB) rfl rfl rfl (by decide +kernel) ⟨Nat.le_of_ble_eq_true rfl, Nat.le_of_ble_eq_true rfl⟩) ⟨bl_R, mw_recv hK hP, fun U hU hW => ⟨rfl, by rw [hU]; exact hP, va_K.moved hW.alike hK⟩⟩ rfl rfl hl.1 rfl (lv_room (Nat.le_of_ble_eq_true rfl)) (dk_at dkX12_place 2 rfl) ⟨Nat.zero_le _, Nat.zero_le _⟩) hS (fun q _ h => h.elim) (fun q h => h.elim) (fun r_1794 u t H1 locs ht hvm hw hB hz1 hk1 hS => ?_)
  obtain ⟨hw, hE⟩ := hw
  have hP := gz_keep hP hk1
  have hF := gf_callm (a := r_1794) hE hF (by first | with_reducible rfl | simp only [upd_same, upd_app, ↓reduceIte, Nat.reduceEqDiff])
  generalize H1 = H at hP hS ⊢
  have gr_1794 : gi r_1794 0 1 := hw.1
  have hqr_1794 := hw.2
  refine lv_if_eq (tgt := 20) hx hb (dk_at dkX12_place 3 rfl) (by decide) (fun c_1795 => ?_) (fun c_1795 => ?_)
  · have hF := gf_pos c_1795 hF
    have g_1796 : gi r_1794 0 0 := gi_eq c_1795 (gi_c 0 0 (by decide))
    refine lv_bipush (v := (-2)) hx hb (dk_at dkX12_place 10 rfl) (by decide) ?_
    exact W.iret (v := (-2)) hx hb hr (fun t ht hW => ⟨⟨(-2), (), rfl, ⟨(gi_any (-2)), hF.trans hR9.symm⟩, trivial⟩, hS.F ht⟩) hS.2.2 (dk_at dkX12_place 11 rfl)
  · have hF := gf_neg c_1795 hF
    have g_1797 : gi r_1794 1 1 := gi_ne_lo c_1795 gr_1794 (gi_c 0 0 (by decide)) (by decide)
    have g_1798 : gi p1 0 5 := gi_cap (gi_any p1) (hqr_1794 (gz_one g_1797)) (by decide)
    refine lv_iload_n hx hb (dk_at dkX12_place 4 rfl) rfl (lv_at hl 2 rfl) ?_
    refine lv_i2l (v := (p2).toInt64) hx hb (dk_at dkX12_place 5 rfl) rfl ?_
    refine lv_topl (fun l_1799 el_1799 => ?_)
    refine lv_lconst (v := 0) hx hb (dk_at dkX12_place 6 rfl) (by decide) ?_
    refine lv_ldc2 (own := RX12) (v := 2) hx hb hown (hts _ (List.mem_cons_of_mem _ mGB_223)) (dk_at dkX12_place 7 rfl) ?_
    have hPc := hP.sub (ws' := []) [] rfl
    have hKc := hK.sub (tys' := []) [] rfl
    refine va_calli (va_runS (As := [.long l_1799, .long 0, .long 2]) (rest := []) ⟨hx, hb, hml, hown, hts⟩ (sX12_in l dC dI l_1799 0 2) (cwS 3 hts (gz_gS mGB_47 mGB_48 mGB_1 mGB_49 goodGB) rfl rfl rfl (by decide +kernel) ⟨Nat.le_of_ble_eq_true rfl, Nat.le_of_ble_eq_true rfl⟩) ⟨bl_R, fun U hU hW => ⟨rfl, by rw [hU]; exact hPc, va_K.moved hW.alike hKc⟩⟩ rfl rfl hl.1 rfl (lv_room (Nat.le_of_ble_eq_true rfl)) (dk_at dkX12_place 8 rfl) ⟨Nat.zero_le _, Nat.zero_le _⟩) hS (fun q _ h => h.elim) (fun q h => h.elim) (fun r_1800 u t H1 locs ht hvm hw hB hz1 hk1 hS => ?_)
    obtain ⟨hw, hE⟩ := hw
    have hP := gz_keep hP hk1
    have hF := gf_call (a := r_1800) (by rw [el_1799] at hE; exact hE) hF
    generalize H1 = H at hP hS ⊢
    have gr_1800 : gi r_1800 0 1 := hw.1
    have hqr_1800 := hw.2
    refine lv_if_ne (tgt := 23) hx hb (dk_at dkX12_place 9 rfl) (by decide) (fun c_1801 => ?_) (fun c_1801 => ?_)
    · have hF := gf_neg c_1801 hF
      have g_1802 : gi r_1800 1 1 := gi_ne_lo c_1801 gr_1800 (gi_c 0 0 (by decide)) (by decide)
      have g_1803 : gi p2 0 2 := gi_cap (gi_any p2) (gz_inr (hqr_1800.1 (gz_one g_1802)) el_1799 (A := 0) (B := 2) (by decide) (by decide)) (by decide)
      refine lv_iconst (v := 0) hx hb (dk_at dkX12_place 12 rfl) (by decide) ?_
      refine lv_istore_n (lv' := [(3, .int 0), (0, .ref h0), (1, .int p1), (2, .int p2)]) hx hb (dk_at dkX12_place 13 rfl) rfl hl (by decide) rfl (fun ls hl => ?_)
      refine lv_iconst (v := 0) hx hb (dk_at dkX12_place 14 rfl) (by decide) ?_
      refine lv_istore (lv' := [(4, .int 0), (3, .int 0), (0, .ref h0), (1, .int p1), (2, .int p2)]) hx hb (dk_at dkX12_place 15 rfl) hl (by decide) rfl (fun ls hl => ?_)
      refine (lp_sX12_place h0 mi mr km fm_trust fm_letter fm_reportPlace fm_struck fm_reportKind fm_reportMonth fm_reportDay fm_reportKnown fm_deedMonth fm_deedDay fm_deedLong fm_deedKind fm_kept fm_tape fm_must fm_least fm_pin fm_ways fm_verdict fm_row fm_official fm_aside fm_worth fm_out p1 p2 gmi_0 gmi_1 gmi_2 gmi_4 gmi_7 gmi_10 gmi_17 gmi_23 gmi_24 gmi_26 gmi_29 gmi_30 gmi_33 gmi_37 gmi_41 gmi_50 gmi_51 gmi_56 gfm_reportPlace gfm_struck hx hb hml hown hts hK (Nat.le_of_ble_eq_true rfl) (Nat.le_of_ble_eq_true rfl) (Nat.zero_le _) (Nat.zero_le _) (fun v H locs ls gv hF hP hS hl => ?_) (fun v H locs ls hF hP hS hl => ?_) 1000000000).1 0 0 _ _ _ g_1798 g_1803 (gi_w (gi_c 0 0 (by decide)) (by decide)) hF (by have k0 : (0 : Int32).toInt = 0 := (by decide); omega) hP hS (lv_sub hl [2, 3, 4, 1, 0] rfl)
      · skip
        exact W.iret (v := v) hx hb hr (fun t ht hW => ⟨⟨v, (), rfl, ⟨(gi_any v), hF.trans hR9.symm⟩, trivial⟩, hS.F ht⟩) hS.2.2 (dk_at dkX12_place 11 rfl)
      · skip
        exact W.iret (v := v) hx hb hr (fun t ht hW => ⟨⟨v, (), rfl, ⟨(gi_any v), hF.trans hR9.symm⟩, trivial⟩, hS.F ht⟩) hS.2.2 (dk_at dkX12_place 73 rfl)
    · have hF := gf_pos c_1801 hF
      have g_1804 : gi r_1800 0 0 := gi_eq c_1801 (gi_c 0 0 (by decide))
      refine lv_bipush (v := (-2)) hx hb (dk_at dkX12_place 10 rfl) (by decide) ?_
      exact W.iret (v := (-2)) hx hb hr (fun t ht hW => ⟨⟨(-2), (), rfl, ⟨(gi_any (-2)), hF.trans hR9.symm⟩, trivial⟩, hS.F ht⟩) hS.2.2 (dk_at dkX12_place 11 rfl)
noncomputable def lsX12_lays : List (Nat × Instr × Nat) := [(0, .aload_n 0, 1), (1, .getfield 16, 3), (4, .aload_n 0, 1), (5, .getfield 141, 3), (8, .iload_n 1, 1), (9, .iastore, 1), (10, .aload_n 0, 1), (11, .getfield 19, 3), (14, .aload_n 0, 1), (15, .getfield 141, 3), (18, .iload_n 2, 1), (19, .iastore, 1), (20, .aload_n 0, 1), (21, .getfield 26, 3), (24, .aload_n 0, 1), (25, .getfield 141, 3), (28, .iload_n 3, 1), (29, .iastore, 1), (30, .aload_n 0, 1), (31, .getfield 29, 3), (34, .aload_n 0, 1), (35, .getfield 141, 3), (38, .iload 4, 2), (40, .iastore, 1), (41, .aload_n 0, 1), (42, .getfield 32, 3), (45, .aload_n 0, 1), (46, .getfield 141, 3), (49, .iload 5, 2), (51, .iastore, 1), (52, .aload_n 0, 1), (53, .getfield 22, 3), (56, .aload_n 0, 1), (57, .getfield 141, 3), (60, .iconst 0, 1), (61, .bastore, 1), (62, .aload_n 0, 1), (63, .dup, 1), (64, .getfield 141, 3), (67, .iconst 1, 1), (68, .iadd, 1), (69, .putfield 141, 3), (72, .return_, 1)]
theorem dkX12_lays : dkAll cX12_lays lsX12_lays = true := by decide +kernel
noncomputable def fX12_lays (mi : Nat → Int32) (fm_reportPlace : Nat → Int32) (fm_reportKind : Nat → Int32) (fm_reportMonth : Nat → Int32) (fm_reportDay : Nat → Int32) (fm_reportKnown : Nat → Int32) (fm_struck : Nat → Int32) (p1 : Int32) (p2 : Int32) (p3 : Int32) (p4 : Int32) (p5 : Int32) : Int32 × (Nat → Int32) × (Nat → Int32) × (Nat → Int32) × (Nat → Int32) × (Nat → Int32) × (Nat → Int32) := (((mi 10) + (1 : Int32)), (upd fm_reportPlace (mi 10).toNatClampNeg p1), (upd fm_reportKind (mi 10).toNatClampNeg p2), (upd fm_reportMonth (mi 10).toNatClampNeg p3), (upd fm_reportDay (mi 10).toNatClampNeg p4), (upd fm_reportKnown (mi 10).toNatClampNeg p5), (upd fm_struck (mi 10).toNatClampNeg (vp_nar .boolean (0 : Int32))))
abbrev pb_sX12_lays (dC : Nat → ClassId) (dI : Nat → Nat → Nat) (A9 : Nat → Prop) (h0 : Nat) (mi : Nat → Int32) (mr : Nat → Nat) (km : Nat → ClassId) (fm_reportPlace : Nat → Int32) (fm_reportKind : Nat → Int32) (fm_reportMonth : Nat → Int32) (fm_reportDay : Nat → Int32) (fm_reportKnown : Nat → Int32) (fm_struck : Nat → Int32) (fm_trust : Nat → Int32) (fm_letter : Nat → Int32) (fm_deedMonth : Nat → Int32) (fm_deedDay : Nat → Int32) (fm_deedLong : Nat → Int32) (fm_deedKind : Nat → Int32) (fm_kept : Nat → Int32) (fm_tape : Nat → Int32) (fm_must : Nat → Int32) (fm_least : Nat → Int32) (fm_pin : Nat → Int32) (fm_ways : Nat → Int32) (fm_verdict : Nat → Int32) (fm_row : Nat → Int32) (fm_official : Nat → Int32) (fm_aside : Nat → Int32) (fm_worth : Nat → Int32) (fm_out : Nat → Int32) (p1 : Int32) (p2 : Int32) (p3 : Int32) (p4 : Int32) (p5 : Int32) (w0_10 : Int32) (z1 : Nat → Int32) (z2 : Nat → Int32) (z3 : Nat → Int32) (z4 : Nat → Int32) (z5 : Nat → Int32) (z6 : Nat → Int32) (t : State) : Prop := gi w0_10 0 24 ∧ ga z1 24 0 5 ∧ ga z3 24 0 23 ∧ ga z4 24 0 999 ∧ ga z5 24 0 999 ∧ ga z6 24 0 1 ∧ (w0_10, z1, z2, z3, z4, z5, z6) = fX12_lays mi fm_reportPlace fm_reportKind fm_reportMonth fm_reportDay fm_reportKnown fm_struck p1 p2 p3 p4 p5 ∧ va_P (dC, dI) vwCl (MWn h0 mr km (mi 0) (mi 1) (mi 2) (mi 3) (mi 4) (mi 5) (mi 6) (mi 7) w0_10 (mi 17) (mi 23) (mi 24) (mi 26) (mi 27) (mi 28) (mi 29) (mi 30) (mi 31) (mi 32) (mi 33) (mi 37) (mi 41) (mi 42) (mi 43) (mi 44) (mi 45) (mi 47) (mi 48) (mi 49) (mi 50) (mi 51) (mi 54) (mi 56) fm_trust fm_letter z1 z2 z6 z3 z4 z5 fm_deedMonth fm_deedDay fm_deedLong fm_deedKind fm_kept fm_tape fm_must fm_least fm_pin fm_ways fm_verdict fm_row fm_official fm_aside fm_worth fm_out) t.heap ∧ va_D A9 (MWn h0 mr km (mi 0) (mi 1) (mi 2) (mi 3) (mi 4) (mi 5) (mi 6) (mi 7) w0_10 (mi 17) (mi 23) (mi 24) (mi 26) (mi 27) (mi 28) (mi 29) (mi 30) (mi 31) (mi 32) (mi 33) (mi 37) (mi 41) (mi 42) (mi 43) (mi 44) (mi 45) (mi 47) (mi 48) (mi 49) (mi 50) (mi 51) (mi 54) (mi 56) fm_trust fm_letter z1 z2 z6 z3 z4 z5 fm_deedMonth fm_deedDay fm_deedLong fm_deedKind fm_kept fm_tape fm_must fm_least fm_pin fm_ways fm_verdict fm_row fm_official fm_aside fm_worth fm_out)
set_option maxHeartbeats 4000000 in
set_option maxRecDepth 100000 in
theorem sX12_lays (l : Launch) (dC : Nat → ClassId) (dI : Nat → Nat → Nat) (sz : Nat) (h0 : Nat) (mi : Nat → Int32) (mr : Nat → Nat) (km : Nat → ClassId) (fm_reportPlace : Nat → Int32) (fm_reportKind : Nat → Int32) (fm_reportMonth : Nat → Int32) (fm_reportDay : Nat → Int32) (fm_reportKnown : Nat → Int32) (fm_struck : Nat → Int32) (fm_trust : Nat → Int32) (fm_letter : Nat → Int32) (fm_deedMonth : Nat → Int32) (fm_deedDay : Nat → Int32) (fm_deedLong : Nat → Int32) (fm_deedKind : Nat → Int32) (fm_kept : Nat → Int32) (fm_tape : Nat → Int32) (fm_must : Nat → Int32) (fm_least : Nat → Int32) (fm_pin : Nat → Int32) (fm_ways : Nat → Int32) (fm_verdict : Nat → Int32) (fm_row : Nat → Int32) (fm_official : Nat → Int32) (fm_aside : Nat → Int32) (fm_worth : Nat → Int32) (fm_out : Nat → Int32) (p1 : Int32) (p2 : Int32) (p3 : Int32) (p4 : Int32) (p5 : Int32) (gmi_0 : gi (mi 0) 0 24) (gmi_1 : gi (mi 1) 0 5) (gmi_2 : gi (mi 2) 0 5) (gmi_4 : gi (mi 4) 0 1) (gmi_7 : gi (mi 7) 0 6) (gmi_10 : gi (mi 10) 0 23) (gmi_17 : gi (mi 17) 0 8) (gmi_23 : gi (mi 23) 0 300) (gmi_24 : gi (mi 24) 0 1) (gmi_26 : gi (mi 26) 0 1600) (gmi_29 : gi (mi 29) 0 1600) (gmi_30 : gi (mi 30) 0 1600) (gmi_33 : gi (mi 33) 0 1) (gmi_37 : gi (mi 37) 0 1) (gmi_41 : gi (mi 41) 0 24) (gmi_50 : gi (mi 50) 0 1) (gmi_51 : gi (mi 51) 0 1) (gmi_56 : gi (mi 56) 0 80) (gfm_reportPlace : ga fm_reportPlace 24 0 5) (gfm_reportMonth : ga fm_reportMonth 24 0 23) (gfm_reportDay : ga fm_reportDay 24 0 999) (gfm_reportKnown : ga fm_reportKnown 24 0 999) (gfm_struck : ga fm_struck 24 0 1) (gp1 : gi p1 0 5) (gp3 : gi p3 0 23) (gp4 : gi p4 0 999) (gp5 : gi p5 0 999) : Met l yX12_lays (.code yX12_lays cX12_lays 6 none :: wsGB) ({ frames := 0, cells := 0, slots := 0, locals := 0 }) (va_Pc [.ref h0, .int p1, .int p2, .int p3, .int p4, .int p5] (fun U => U.heap.size = sz ∧ va_P (dC, dI) vwCl (MWn h0 mr km (mi 0) (mi 1) (mi 2) (mi 3) (mi 4) (mi 5) (mi 6) (mi 7) (mi 10) (mi 17) (mi 23) (mi 24) (mi 26) (mi 27) (mi 28) (mi 29) (mi 30) (mi 31) (mi 32) (mi 33) (mi 37) (mi 41) (mi 42) (mi 43) (mi 44) (mi 45) (mi 47) (mi 48) (mi 49) (mi 50) (mi 51) (mi 54) (mi 56) fm_trust fm_letter fm_reportPlace fm_reportKind fm_struck fm_reportMonth fm_reportDay fm_reportKnown fm_deedMonth fm_deedDay fm_deedLong fm_deedKind fm_kept fm_tape fm_must fm_least fm_pin fm_ways fm_verdict fm_row fm_official fm_aside fm_worth fm_out) U.heap ∧ va_K (dC, dI) vwCl (MT km) U ∧ va_D (fun _ => True) (MWn h0 mr km (mi 0) (mi 1) (mi 2) (mi 3) (mi 4) (mi 5) (mi 6) (mi 7) (mi 10) (mi 17) (mi 23) (mi 24) (mi 26) (mi 27) (mi 28) (mi 29) (mi 30) (mi 31) (mi 32) (mi 33) (mi 37) (mi 41) (mi 42) (mi 43) (mi 44) (mi 45) (mi 47) (mi 48) (mi 49) (mi 50) (mi 51) (mi 54) (mi 56) fm_trust fm_letter fm_reportPlace fm_reportKind fm_struck fm_reportMonth fm_reportDay fm_reportKnown fm_deedMonth fm_deedDay fm_deedLong fm_deedKind fm_kept fm_tape fm_must fm_least fm_pin fm_ways fm_verdict fm_row fm_official fm_aside fm_worth fm_out))) (va_Qv (fun (u : Unit) => True) (fun _ t => ∃ (w0_10 : Int32) (z1 : Nat → Int32) (z2 : Nat → Int32) (z3 : Nat → Int32) (z4 : Nat → Int32) (z5 : Nat → Int32) (z6 : Nat → Int32), pb_sX12_lays dC dI (va_A (MWn h0 mr km (mi 0) (mi 1) (mi 2) (mi 3) (mi 4) (mi 5) (mi 6) (mi 7) (mi 10) (mi 17) (mi 23) (mi 24) (mi 26) (mi 27) (mi 28) (mi 29) (mi 30) (mi 31) (mi 32) (mi 33) (mi 37) (mi 41) (mi 42) (mi 43) (mi 44) (mi 45) (mi 47) (mi 48) (mi 49) (mi 50) (mi 51) (mi 54) (mi 56) fm_trust fm_letter fm_reportPlace fm_reportKind fm_struck fm_reportMonth fm_reportDay fm_reportKnown fm_deedMonth fm_deedDay fm_deedLong fm_deedKind fm_kept fm_tape fm_must fm_least fm_pin fm_ways fm_verdict fm_row fm_official fm_aside fm_worth fm_out) sz) h0 mi mr km fm_reportPlace fm_reportKind fm_reportMonth fm_reportDay fm_reportKnown fm_struck fm_trust fm_letter fm_deedMonth fm_deedDay fm_deedLong fm_deedKind fm_kept fm_tape fm_must fm_least fm_pin fm_ways fm_verdict fm_row fm_official fm_aside fm_worth fm_out p1 p2 p3 p4 p5 w0_10 z1 z2 z3 z4 z5 z6 t) (va_A (MWn h0 mr km (mi 0) (mi 1) (mi 2) (mi 3) (mi 4) (mi 5) (mi 6) (mi 7) (mi 10) (mi 17) (mi 23) (mi 24) (mi 26) (mi 27) (mi 28) (mi 29) (mi 30) (mi 31) (mi 32) (mi 33) (mi 37) (mi 41) (mi 42) (mi 43) (mi 44) (mi 45) (mi 47) (mi 48) (mi 49) (mi 50) (mi 51) (mi 54) (mi 56) fm_trust fm_letter fm_reportPlace fm_reportKind fm_struck fm_reportMonth fm_reportDay fm_reportKnown fm_deedMonth fm_deedDay fm_deedLong fm_deedKind fm_kept fm_tape fm_must fm_least fm_pin fm_ways fm_verdict fm_row fm_official fm_aside fm_worth fm_out) sz)) 0 0 (va_A (MWn h0 mr km (mi 0) (mi 1) (mi 2) (mi 3) (mi 4) (mi 5) (mi 6) (mi 7) (mi 10) (mi 17) (mi 23) (mi 24) (mi 26) (mi 27) (mi 28) (mi 29) (mi 30) (mi 31) (mi 32) (mi 33) (mi 37) (mi 41) (mi 42) (mi 43) (mi 44) (mi 45) (mi 47) (mi 48) (mi 49) (mi 50) (mi 51) (mi 54) (mi 56) fm_trust fm_letter fm_reportPlace fm_reportKind fm_struck fm_reportMonth fm_reportDay fm_reportKnown fm_deedMonth fm_deedDay fm_deedLong fm_deedKind fm_kept fm_tape fm_must fm_least fm_pin fm_ways fm_verdict fm_row fm_official fm_aside fm_worth fm_out) sz) := by
  refine Met.ofW (cc := cX12_lays) (maxL := 6) (ret := none) (by decide) rfl ?_
  intro p e s m args below meth c s₁ B hml hv
  obtain ⟨rfl, hsz, hP, hK, hD0⟩ := hv
  have hx := B.exec
  have hb := B.bytes
  have hr := B.returns
  have hts := atoms_spec (ws := (.code yX12_lays cX12_lays 6 none :: wsGB)) B.pre
  have hown : s.vm.findClass RX12 = some m.cls := findClass_of_methodNamed B.named
  have hlocks := B.notSynchronized
  subst hsz
  have hD := hD0.self (sz := s.heap.size)
  generalize hAe : va_A (MWn h0 mr km (mi 0) (mi 1) (mi 2) (mi 3) (mi 4) (mi 5) (mi 6) (mi 7) (mi 10) (mi 17) (mi 23) (mi 24) (mi 26) (mi 27) (mi 28) (mi 29) (mi 30) (mi 31) (mi 32) (mi 33) (mi 37) (mi 41) (mi 42) (mi 43) (mi 44) (mi 45) (mi 47) (mi 48) (mi 49) (mi 50) (mi 51) (mi 54) (mi 56) fm_trust fm_letter fm_reportPlace fm_reportKind fm_struck fm_reportMonth fm_reportDay fm_reportKnown fm_deedMonth fm_deedDay fm_deedLong fm_deedKind fm_kept fm_tape fm_must fm_least fm_pin fm_ways fm_verdict fm_row fm_official fm_aside fm_worth fm_out) s.heap.size = A at hD ⊢
  have hA : ∀ q : Nat, s.heap.size ≤ q → A q := fun q h => by rw [← hAe]; exact Or.inr h
  have hS : va_S A s.heap s.heap [] := va_S.rf
  have hl := lv_entry ([.ref h0, .int p1, .int p2, .int p3, .int p4, .int p5]) (n := 6) (Nat.le_of_ble_eq_true rfl)
  rw [lg_entry_eq]
  generalize (lg_sl ([.ref h0, .int p1, .int p2, .int p3, .int p4, .int p5]) ++ List.replicate (6 - (lg_sl ([.ref h0, .int p1, .int p2, .int p3, .int p4, .int p5])).length) Slot.unset).toArray = ls at hl ⊢
  have hl : lv_has ls 6 [(0, .ref h0), (1, .int p1), (2, .int p2), (3, .int p3), (4, .int p4), (5, .int p5)] := hl
  obtain ⟨RES, hF⟩ : ∃ R9, fX12_lays mi fm_reportPlace fm_reportKind fm_reportMonth fm_reportDay fm_reportKnown fm_struck p1 p2 p3 p4 p5 = R9 := ⟨_, rfl⟩
  have hR9 := hF
  refine lv_aload_n hx hb (dk_at dkX12_lays 0 rfl) rfl (lv_at hl 0 rfl) ?_
  refine va_get (D := (dC, dI)) (ci := 12) (v := .ref (mr 2)) (C := RX12) (T := TX12) (N := 57) hx hb hts (fun w h => List.mem_cons_of_mem _ (jnGB_X12 w h)) hown hK hP 0 rfl rfl 11 (by decide) (hts _ (List.mem_cons_of_mem _ mGB_12)) (fun _ h9 => h9) rfl (dk_at dkX12_lays 1 rfl) ?_
  refine lv_aload_n hx hb (dk_at dkX12_lays 2 rfl) rfl (lv_at hl 0 rfl) ?_
  refine va_get (D := (dC, dI)) (ci := 12) (v := .int (mi 10)) (C := RX12) (T := TX12) (N := 57) hx hb hts (fun w h => List.mem_cons_of_mem _ (jnGB_X12 w h)) hown hK hP 0 rfl rfl 10 (by decide) (hts _ (List.mem_cons_of_mem _ mGB_111)) (fun _ h9 => h9) rfl (dk_at dkX12_lays 3 rfl) ?_
  refine lv_iload_n hx hb (dk_at dkX12_lays 4 rfl) rfl (lv_at hl 1 rfl) ?_
  refine va_iast hx hb hK hP hD hS 3 2 rfl rfl (gi_in gmi_10 (by decide)) (dk_at dkX12_lays 5 rfl) (fun H locs hP hD hS => ?_)
  obtain ⟨hP, hD⟩ := gz_both (w := (MWn h0 mr km (mi 0) (mi 1) (mi 2) (mi 3) (mi 4) (mi 5) (mi 6) (mi 7) (mi 10) (mi 17) (mi 23) (mi 24) (mi 26) (mi 27) (mi 28) (mi 29) (mi 30) (mi 31) (mi 32) (mi 33) (mi 37) (mi 41) (mi 42) (mi 43) (mi 44) (mi 45) (mi 47) (mi 48) (mi 49) (mi 50) (mi 51) (mi 54) (mi 56) fm_trust fm_letter (upd fm_reportPlace ((mi 10) : Int32).toNatClampNeg p1) fm_reportKind fm_struck fm_reportMonth fm_reportDay fm_reportKnown fm_deedMonth fm_deedDay fm_deedLong fm_deedKind fm_kept fm_tape fm_must fm_least fm_pin fm_ways fm_verdict fm_row fm_official fm_aside fm_worth fm_out)) hP hD
  have gf_15 : ga (upd fm_reportPlace ((mi 10) : Int32).toNatClampNeg p1) 24 0 5 := ga_upd gfm_reportPlace gp1
  generalize ef_15 : upd fm_reportPlace ((mi 10) : Int32).toNatClampNeg p1 = f_15 at hP hD gf_15
  refine lv_aload_n hx hb (dk_at dkX12_lays 6 rfl) rfl (lv_at hl 0 rfl) ?_
  refine va_get (D := (dC, dI)) (ci := 12) (v := .ref (mr 3)) (C := RX12) (T := TX12) (N := 57) hx hb hts (fun w h => List.mem_cons_of_mem _ (jnGB_X12 w h)) hown hK hP 0 rfl rfl 12 (by decide) (hts _ (List.mem_cons_of_mem _ mGB_13)) (fun _ h9 => h9) rfl (dk_at dkX12_lays 7 rfl) ?_
  refine lv_aload_n hx hb (dk_at dkX12_lays 8 rfl) rfl (lv_at hl 0 rfl) ?_
  refine va_get (D := (dC, dI)) (ci := 12) (v := .int (mi 10)) (C := RX12) (T := TX12) (N := 57) hx hb hts (fun w h => List.mem_cons_of_mem _ (jnGB_X12 w h)) hown hK hP 0 rfl rfl 10 (by decide) (hts _ (List.mem_cons_of_mem _ mGB_111)) (fun _ h9 => h9) rfl (dk_at dkX12_lays 9 rfl) ?_
  refine lv_iload_n hx hb (dk_at dkX12_lays 10 rfl) rfl (lv_at hl 2 rfl) ?_
  refine va_iast hx hb hK hP hD hS 4 3 rfl rfl (gi_in gmi_10 (by decide)) (dk_at dkX12_lays 11 rfl) (fun H locs hP hD hS => ?_)
  obtain ⟨hP, hD⟩ := gz_both (w := (MWn h0 mr km (mi 0) (mi 1) (mi 2) (mi 3) (mi 4) (mi 5) (mi 6) (mi 7) (mi 10) (mi 17) (mi 23) (mi 24) (mi 26) (mi 27) (mi 28) (mi 29) (mi 30) (mi 31) (mi 32) (mi 33) (mi 37) (mi 41) (mi 42) (mi 43) (mi 44) (mi 45) (mi 47) (mi 48) (mi 49) (mi 50) (mi 51) (mi 54) (mi 56) fm_trust fm_letter f_15 (upd fm_reportKind ((mi 10) : Int32).toNatClampNeg p2) fm_struck fm_reportMonth fm_reportDay fm_reportKnown fm_deedMonth fm_deedDay fm_deedLong fm_deedKind fm_kept fm_tape fm_must fm_least fm_pin fm_ways fm_verdict fm_row fm_official fm_aside fm_worth fm_out)) hP hD
  generalize ef_16 : upd fm_reportKind ((mi 10) : Int32).toNatClampNeg p2 = f_16 at hP hD
  refine lv_aload_n hx hb (dk_at dkX12_lays 12 rfl) rfl (lv_at hl 0 rfl) ?_
  refine va_get (D := (dC, dI)) (ci := 12) (v := .ref (mr 5)) (C := RX12) (T := TX12) (N := 57) hx hb hts (fun w h => List.mem_cons_of_mem _ (jnGB_X12 w h)) hown hK hP 0 rfl rfl 14 (by decide) (hts _ (List.mem_cons_of_mem _ mGB_16)) (fun _ h9 => h9) rfl (dk_at dkX12_lays 13 rfl) ?_
  refine lv_aload_n hx hb (dk_at dkX12_lays 14 rfl) rfl (lv_at hl 0 rfl) ?_
  refine va_get (D := (dC, dI)) (ci := 12) (v := .int (mi 10)) (C := RX12) (T := TX12) (N := 57) hx hb hts (fun w h => List.mem_cons_of_mem _ (jnGB_X12 w h)) hown hK hP 0 rfl rfl 10 (by decide) (hts _ (List.mem_cons_of_mem _ mGB_111)) (fun _ h9 => h9) rfl (dk_at dkX12_lays 15 rfl) ?_
  refine lv_iload_n hx hb (dk_at dkX12_lays 16 rfl) rfl (lv_at hl 3 rfl) ?_
  refine va_iast hx hb hK hP hD hS 6 5 rfl rfl (gi_in gmi_10 (by decide)) (dk_at dkX12_lays 17 rfl) (fun H locs hP hD hS => ?_)
  obtain ⟨hP, hD⟩ := gz_both (w := (MWn h0 mr km (mi 0) (mi 1) (mi 2) (mi 3) (mi 4) (mi 5) (mi 6) (mi 7) (mi 10) (mi 17) (mi 23) (mi 24) (mi 26) (mi 27) (mi 28) (mi 29) (mi 30) (mi 31) (mi 32) (mi 33) (mi 37) (mi 41) (mi 42) (mi 43) (mi 44) (mi 45) (mi 47) (mi 48) (mi 49) (mi 50) (mi 51) (mi 54) (mi 56) fm_trust fm_letter f_15 f_16 fm_struck (upd fm_reportMonth ((mi 10) : Int32).toNatClampNeg p3) fm_reportDay fm_reportKnown fm_deedMonth fm_deedDay fm_deedLong fm_deedKind fm_kept fm_tape fm_must fm_least fm_pin fm_ways fm_verdict fm_row fm_official fm_aside fm_worth fm_out)) hP hD
  have gf_17 : ga (upd fm_reportMonth ((mi 10) : Int32).toNatClampNeg p3) 24 0 23 := ga_upd gfm_reportMonth gp3
  generalize ef_17 : upd fm_reportMonth ((mi 10) : Int32).toNatClampNeg p3 = f_17 at hP hD gf_17
  refine lv_aload_n hx hb (dk_at dkX12_lays 18 rfl) rfl (lv_at hl 0 rfl) ?_
  refine va_get (D := (dC, dI)) (ci := 12) (v := .ref (mr 6)) (C := RX12) (T := TX12) (N := 57) hx hb hts (fun w h => List.mem_cons_of_mem _ (jnGB_X12 w h)) hown hK hP 0 rfl rfl 15 (by decide) (hts _ (List.mem_cons_of_mem _ mGB_17)) (fun _ h9 => h9) rfl (dk_at dkX12_lays 19 rfl) ?_
  refine lv_aload_n hx hb (dk_at dkX12_lays 20 rfl) rfl (lv_at hl 0 rfl) ?_
  refine va_get (D := (dC, dI)) (ci := 12) (v := .int (mi 10)) (C := RX12) (T := TX12) (N := 57) hx hb hts (fun w h => List.mem_cons_of_mem _ (jnGB_X12 w h)) hown hK hP 0 rfl rfl 10 (by decide) (hts _ (List.mem_cons_of_mem _ mGB_111)) (fun _ h9 => h9) rfl (dk_at dkX12_lays 21 rfl) ?_
  refine lv_iload hx hb (dk_at dkX12_lays 22 rfl) (lv_at hl 4 rfl) ?_
  refine va_iast hx hb hK hP hD hS 7 6 rfl rfl (gi_in gmi_10 (by decide)) (dk_at dkX12_lays 23 rfl) (fun H locs hP hD hS => ?_)
  obtain ⟨hP, hD⟩ := gz_both (w := (MWn h0 mr km (mi 0) (mi 1) (mi 2) (mi 3) (mi 4) (mi 5) (mi 6) (mi 7) (mi 10) (mi 17) (mi 23) (mi 24) (mi 26) (mi 27) (mi 28) (mi 29) (mi 30) (mi 31) (mi 32) (mi 33) (mi 37) (mi 41) (mi 42) (mi 43) (mi 44) (mi 45) (mi 47) (mi 48) (mi 49) (mi 50) (mi 51) (mi 54) (mi 56) fm_trust fm_letter f_15 f_16 fm_struck f_17 (upd fm_reportDay ((mi 10) : Int32).toNatClampNeg p4) fm_reportKnown fm_deedMonth fm_deedDay fm_deedLong fm_deedKind fm_kept fm_tape fm_must fm_least fm_pin fm_ways fm_verdict fm_row fm_official fm_aside fm_worth fm_out)) hP hD
  have gf_18 : ga (upd fm_reportDay ((mi 10) : Int32).toNatClampNeg p4) 24 0 999 := ga_upd gfm_reportDay gp4
  generalize ef_18 : upd fm_reportDay ((mi 10) : Int32).toNatClampNeg p4 = f_18 at hP hD gf_18
  refine lv_aload_n hx hb (dk_at dkX12_lays 24 rfl) rfl (lv_at hl 0 rfl) ?_
  refine va_get (D := (dC, dI)) (ci := 12) (v := .ref (mr 7)) (C := RX12) (T := TX12) (N := 57) hx hb hts (fun w h => List.mem_cons_of_mem _ (jnGB_X12 w h)) hown hK hP 0 rfl rfl 16 (by decide) (hts _ (List.mem_cons_of_mem _ mGB_18)) (fun _ h9 => h9) rfl (dk_at dkX12_lays 25 rfl) ?_
  refine lv_aload_n hx hb (dk_at dkX12_lays 26 rfl) rfl (lv_at hl 0 rfl) ?_
  refine va_get (D := (dC, dI)) (ci := 12) (v := .int (mi 10)) (C := RX12) (T := TX12) (N := 57) hx hb hts (fun w h => List.mem_cons_of_mem _ (jnGB_X12 w h)) hown hK hP 0 rfl rfl 10 (by decide) (hts _ (List.mem_cons_of_mem _ mGB_111)) (fun _ h9 => h9) rfl (dk_at dkX12_lays 27 rfl) ?_
  refine lv_iload hx hb (dk_at dkX12_lays 28 rfl) (lv_at hl 5 rfl) ?_
  refine va_iast hx hb hK hP hD hS 8 7 rfl rfl (gi_in gmi_10 (by decide)) (dk_at dkX12_lays 29 rfl) (fun H locs hP hD hS => ?_)
  obtain ⟨hP, hD⟩ := gz_both (w := (MWn h0 mr km (mi 0) (mi 1) (mi 2) (mi 3) (mi 4) (mi 5) (mi 6) (mi 7) (mi 10) (mi 17) (mi 23) (mi 24) (mi 26) (mi 27) (mi 28) (mi 29) (mi 30) (mi 31) (mi 32) (mi 33) (mi 37) (mi 41) (mi 42) (mi 43) (mi 44) (mi 45) (mi 47) (mi 48) (mi 49) (mi 50) (mi 51) (mi 54) (mi 56) fm_trust fm_letter f_15 f_16 fm_struck f_17 f_18 (upd fm_reportKnown ((mi 10) : Int32).toNatClampNeg p5) fm_deedMonth fm_deedDay fm_deedLong fm_deedKind fm_kept fm_tape fm_must fm_least fm_pin fm_ways fm_verdict fm_row fm_official fm_aside fm_worth fm_out)) hP hD
  have gf_19 : ga (upd fm_reportKnown ((mi 10) : Int32).toNatClampNeg p5) 24 0 999 := ga_upd gfm_reportKnown gp5
  generalize ef_19 : upd fm_reportKnown ((mi 10) : Int32).toNatClampNeg p5 = f_19 at hP hD gf_19
  refine lv_aload_n hx hb (dk_at dkX12_lays 30 rfl) rfl (lv_at hl 0 rfl) ?_
  refine va_get (D := (dC, dI)) (ci := 12) (v := .ref (mr 4)) (C := RX12) (T := TX12) (N := 57) hx hb hts (fun w h => List.mem_cons_of_mem _ (jnGB_X12 w h)) hown hK hP 0 rfl rfl 13 (by decide) (hts _ (List.mem_cons_of_mem _ mGB_15)) (fun _ h9 => h9) rfl (dk_at dkX12_lays 31 rfl) ?_
  refine lv_aload_n hx hb (dk_at dkX12_lays 32 rfl) rfl (lv_at hl 0 rfl) ?_
  refine va_get (D := (dC, dI)) (ci := 12) (v := .int (mi 10)) (C := RX12) (T := TX12) (N := 57) hx hb hts (fun w h => List.mem_cons_of_mem _ (jnGB_X12 w h)) hown hK hP 0 rfl rfl 10 (by decide) (hts _ (List.mem_cons_of_mem _ mGB_111)) (fun _ h9 => h9) rfl (dk_at dkX12_lays 33 rfl) ?_
  refine lv_iconst (v := 0) hx hb (dk_at dkX12_lays 34 rfl) (by decide) ?_
  refine va_zast hx hb hK hP hD hS 5 4 rfl rfl (gi_in gmi_10 (by decide)) (dk_at dkX12_lays 35 rfl) (fun H locs hP hD hS => ?_)
  obtain ⟨hP, hD⟩ := gz_both (w := (MWn h0 mr km (mi 0) (mi 1) (mi 2) (mi 3) (mi 4) (mi 5) (mi 6) (mi 7) (mi 10) (mi 17) (mi 23) (mi 24) (mi 26) (mi 27) (mi 28) (mi 29) (mi 30) (mi 31) (mi 32) (mi 33) (mi 37) (mi 41) (mi 42) (mi 43) (mi 44) (mi 45) (mi 47) (mi 48) (mi 49) (mi 50) (mi 51) (mi 54) (mi 56) fm_trust fm_letter f_15 f_16 (upd fm_struck ((mi 10) : Int32).toNatClampNeg (vp_nar .boolean 0)) f_17 f_18 f_19 fm_deedMonth fm_deedDay fm_deedLong fm_deedKind fm_kept fm_tape fm_must fm_least fm_pin fm_ways fm_verdict fm_row fm_official fm_aside fm_worth fm_out)) hP hD
  have gf_20 : ga (upd fm_struck ((mi 10) : Int32).toNatClampNeg (vp_nar .boolean 0)) 24 0 1 := ga_updz gfm_struck (gi_w (gi_c 0 0 (by decide)) (by decide))
  generalize ef_20 : upd fm_struck ((mi 10) : Int32).toNatClampNeg (vp_nar .boolean 0) = f_20 at hP hD gf_20
  refine lv_aload_n hx hb (dk_at dkX12_lays 36 rfl) rfl (lv_at hl 0 rfl) ?_
  refine lv_dup hx hb (dk_at dkX12_lays 37 rfl) rfl ?_
  refine va_get (D := (dC, dI)) (ci := 12) (v := .int (mi 10)) (C := RX12) (T := TX12) (N := 57) hx hb hts (fun w h => List.mem_cons_of_mem _ (jnGB_X12 w h)) hown hK hP 0 rfl rfl 10 (by decide) (hts _ (List.mem_cons_of_mem _ mGB_111)) (fun _ h9 => h9) rfl (dk_at dkX12_lays 38 rfl) ?_
  refine lv_iconst (v := 1) hx hb (dk_at dkX12_lays 39 rfl) (by decide) ?_
  refine lv_iadd hx hb (dk_at dkX12_lays 40 rfl) ?_
  refine lv_topi (fun x_21 ex_21 => ?_)
  have gx_21 : gi x_21 1 24 := gi_add ex_21 gmi_10 (gi_c 1 1 (by decide)) (by decide)
  refine va_put (D := (dC, dI)) (ci := 12) (v := .int x_21) (ty := .int) (C := RX12) (T := TX12) (N := 57) hx hb hts (fun w h => List.mem_cons_of_mem _ (jnGB_X12 w h)) tyX12 tyX12_ok nmX12 hown hK hP hD hS 0 rfl rfl 10 (by decide) (hts _ (List.mem_cons_of_mem _ mGB_111)) (fun _ h9 => h9) rfl (by decide +kernel) rfl rfl (Nat.le_of_ble_eq_true rfl) (dk_at dkX12_lays 41 rfl) (fun H locs hP hD hS => ?_)
  obtain ⟨hP, hD⟩ := gz_both (w := (MWn h0 mr km (mi 0) (mi 1) (mi 2) (mi 3) (mi 4) (mi 5) (mi 6) (mi 7) x_21 (mi 17) (mi 23) (mi 24) (mi 26) (mi 27) (mi 28) (mi 29) (mi 30) (mi 31) (mi 32) (mi 33) (mi 37) (mi 41) (mi 42) (mi 43) (mi 44) (mi 45) (mi 47) (mi 48) (mi 49) (mi 50) (mi 51) (mi 54) (mi 56) fm_trust fm_letter f_15 f_16 f_20 f_17 f_18 f_19 fm_deedMonth fm_deedDay fm_deedLong fm_deedKind fm_kept fm_tape fm_must fm_least fm_pin fm_ways fm_verdict fm_row fm_official fm_aside fm_worth fm_out)) hP hD
  exact W.vret hx hb hr (fun t ht hW => ⟨⟨(), rfl, trivial, x_21, f_15, f_16, f_17, f_18, f_19, f_20, (gi_w gx_21 (by decide)), gf_15, gf_17, gf_18, gf_19, gf_20, by rw [ex_21, ← ef_20, ← ef_19, ← ef_18, ← ef_17, ← ef_16, ← ef_15]; exact hF.trans hR9.symm, by rw [ht]; exact hP, hD⟩, hS.F ht⟩) hS.2.2 (dk_at dkX12_lays 42 rfl)
noncomputable def lsX12_reports : List (Nat × Instr × Nat) := [(0, .aload_n 0, 1), (1, .getfield 126, 3), (4, .ifCond .eq 67, 3), (7, .aload_n 0, 1), (8, .iload_n 1, 1), (9, .invokevirtual 294, 3), (12, .ifCond .eq 59, 3), (15, .iload_n 2, 1), (16, .i2l, 1), (17, .lconst 0, 1), (18, .ldc2_w 298, 3), (21, .invokestatic 102, 3), (24, .ifCond .eq 47, 3), (27, .iload_n 3, 1), (28, .i2l, 1), (29, .lconst 1, 1), (30, .aload_n 0, 1), (31, .getfield 117, 3), (34, .iconst 1, 1), (35, .isub, 1), (36, .i2l, 1), (37, .invokestatic 102, 3), (40, .ifCond .eq 31, 3), (43, .iload 4, 2), (45, .i2l, 1), (46, .lconst 0, 1), (47, .ldc2_w 292, 3), (50, .invokestatic 102, 3), (53, .ifCond .eq 18, 3), (56, .iload 5, 2), (58, .i2l, 1), (59, .iload 4, 2), (61, .i2l, 1), (62, .ldc2_w 292, 3), (65, .invokestatic 102, 3), (68, .ifCond .ne 6, 3), (71, .bipush (-2), 2), (73, .ireturn, 1), (74, .aload_n 0, 1), (75, .getfield 141, 3), (78, .bipush 24, 2), (80, .if_icmp .ne 6, 3), (83, .bipush (-5), 2), (85, .ireturn, 1), (86, .aload_n 0, 1), (87, .iload_n 1, 1), (88, .iload_n 2, 1), (89, .iload_n 3, 1), (90, .iload 4, 2), (92, .iload 5, 2), (94, .invokevirtual 236, 3), (97, .aload_n 0, 1), (98, .getfield 141, 3), (101, .iconst 1, 1), (102, .isub, 1), (103, .ireturn, 1)]
theorem dkX12_reports : dkAll cX12_reports lsX12_reports = true := by decide +kernel
noncomputable def bfX12_reports_71 (mi : Nat → Int32) (fm_reportPlace : Nat → Int32) (fm_reportKind : Nat → Int32) (fm_reportMonth : Nat → Int32) (fm_reportDay : Nat → Int32) (fm_reportKnown : Nat → Int32) (fm_struck : Nat → Int32) (p1 : Int32) (p2 : Int32) (p3 : Int32) (p4 : Int32) (p5 : Int32) (w0_10 : Int32) (z1 : Nat → Int32) (z2 : Nat → Int32) (z3 : Nat → Int32) (z4 : Nat → Int32) (z5 : Nat → Int32) (z6 : Nat → Int32) : Int32 × Int32 × (Nat → Int32) × (Nat → Int32) × (Nat → Int32) × (Nat → Int32) × (Nat → Int32) × (Nat → Int32) := ((-2 : Int32), w0_10, z1, z2, z3, z4, z5, z6)
noncomputable def fX12_reports (mi : Nat → Int32) (fm_reportPlace : Nat → Int32) (fm_reportKind : Nat → Int32) (fm_reportMonth : Nat → Int32) (fm_reportDay : Nat → Int32) (fm_reportKnown : Nat → Int32) (fm_struck : Nat → Int32) (p1 : Int32) (p2 : Int32) (p3 : Int32) (p4 : Int32) (p5 : Int32) : Int32 × Int32 × (Nat → Int32) × (Nat → Int32) × (Nat → Int32) × (Nat → Int32) × (Nat → Int32) × (Nat → Int32) := if (mi 3) = (0 : Int32) then (bfX12_reports_71 mi fm_reportPlace fm_reportKind fm_reportMonth fm_reportDay fm_reportKnown fm_struck p1 p2 p3 p4 p5 (mi 10) fm_reportPlace fm_reportKind fm_reportMonth fm_reportDay fm_reportKnown fm_struck) else (cal (fun o1 => if o1 = (0 : Int32) then (bfX12_reports_71 mi fm_reportPlace fm_reportKind fm_reportMonth fm_reportDay fm_reportKnown fm_struck p1 p2 p3 p4 p5 (mi 10) fm_reportPlace fm_reportKind fm_reportMonth fm_reportDay fm_reportKnown fm_struck) else (cal (fun o2 => if o2 = (0 : Int32) then (bfX12_reports_71 mi fm_reportPlace fm_reportKind fm_reportMonth fm_reportDay fm_reportKnown fm_struck p1 p2 p3 p4 p5 (mi 10) fm_reportPlace fm_reportKind fm_reportMonth fm_reportDay fm_reportKnown fm_struck) else (cal (fun o3 => if o3 = (0 : Int32) then (bfX12_reports_71 mi fm_reportPlace fm_reportKind fm_reportMonth fm_reportDay fm_reportKnown fm_struck p1 p2 p3 p4 p5 (mi 10) fm_reportPlace fm_reportKind fm_reportMonth fm_reportDay fm_reportKnown fm_struck) else (cal (fun o4 => if o4 = (0 : Int32) then (bfX12_reports_71 mi fm_reportPlace fm_reportKind fm_reportMonth fm_reportDay fm_reportKnown fm_struck p1 p2 p3 p4 p5 (mi 10) fm_reportPlace fm_reportKind fm_reportMonth fm_reportDay fm_reportKnown fm_struck) else (cal (fun o5 => if o5 = (0 : Int32) then (bfX12_reports_71 mi fm_reportPlace fm_reportKind fm_reportMonth fm_reportDay fm_reportKnown fm_struck p1 p2 p3 p4 p5 (mi 10) fm_reportPlace fm_reportKind fm_reportMonth fm_reportDay fm_reportKnown fm_struck) else (if (mi 10) = (24 : Int32) then ((-5 : Int32), (mi 10), fm_reportPlace, fm_reportKind, fm_reportMonth, fm_reportDay, fm_reportKnown, fm_struck) else (cal (fun o6 => ((o6.1 - (1 : Int32)), o6.1, o6.2.1, o6.2.2.1, o6.2.2.2.1, o6.2.2.2.2.1, o6.2.2.2.2.2.1, o6.2.2.2.2.2.2)) (fX12_lays mi fm_reportPlace fm_reportKind fm_reportMonth fm_reportDay fm_reportKnown fm_struck p1 p2 p3 p4 p5)))) (fX12_in (p5.toInt64) (p4.toInt64) (999 : Int64)))) (fX12_in (p4.toInt64) (0 : Int64) (999 : Int64)))) (fX12_in (p3.toInt64) (1 : Int64) (((mi 0) - (1 : Int32)).toInt64)))) (fX12_in (p2.toInt64) (0 : Int64) (2 : Int64)))) (fX12_isPlace mi p1))
abbrev pb_sX12_reports (dC : Nat → ClassId) (dI : Nat → Nat → Nat) (A9 : Nat → Prop) (h0 : Nat) (mi : Nat → Int32) (mr : Nat → Nat) (km : Nat → ClassId) (fm_reportPlace : Nat → Int32) (fm_reportKind : Nat → Int32) (fm_reportMonth : Nat → Int32) (fm_reportDay : Nat → Int32) (fm_reportKnown : Nat → Int32) (fm_struck : Nat → Int32) (fm_trust : Nat → Int32) (fm_letter : Nat → Int32) (fm_deedMonth : Nat → Int32) (fm_deedDay : Nat → Int32) (fm_deedLong : Nat → Int32) (fm_deedKind : Nat → Int32) (fm_kept : Nat → Int32) (fm_tape : Nat → Int32) (fm_must : Nat → Int32) (fm_least : Nat → Int32) (fm_pin : Nat → Int32) (fm_ways : Nat → Int32) (fm_verdict : Nat → Int32) (fm_row : Nat → Int32) (fm_official : Nat → Int32) (fm_aside : Nat → Int32) (fm_worth : Nat → Int32) (fm_out : Nat → Int32) (p1 : Int32) (p2 : Int32) (p3 : Int32) (p4 : Int32) (p5 : Int32) (r : Int32) (w0_10 : Int32) (z1 : Nat → Int32) (z2 : Nat → Int32) (z3 : Nat → Int32) (z4 : Nat → Int32) (z5 : Nat → Int32) (z6 : Nat → Int32) (t : State) : Prop := gi w0_10 0 24 ∧ ga z1 24 0 5 ∧ ga z3 24 0 23 ∧ ga z4 24 0 999 ∧ ga z5 24 0 999 ∧ ga z6 24 0 1 ∧ (r, w0_10, z1, z2, z3, z4, z5, z6) = fX12_reports mi fm_reportPlace fm_reportKind fm_reportMonth fm_reportDay fm_reportKnown fm_struck p1 p2 p3 p4 p5 ∧ va_P (dC, dI) vwCl (MWn h0 mr km (mi 0) (mi 1) (mi 2) (mi 3) (mi 4) (mi 5) (mi 6) (mi 7) w0_10 (mi 17) (mi 23) (mi 24) (mi 26) (mi 27) (mi 28) (mi 29) (mi 30) (mi 31) (mi 32) (mi 33) (mi 37) (mi 41) (mi 42) (mi 43) (mi 44) (mi 45) (mi 47) (mi 48) (mi 49) (mi 50) (mi 51) (mi 54) (mi 56) fm_trust fm_letter z1 z2 z6 z3 z4 z5 fm_deedMonth fm_deedDay fm_deedLong fm_deedKind fm_kept fm_tape fm_must fm_least fm_pin fm_ways fm_verdict fm_row fm_official fm_aside fm_worth fm_out) t.heap ∧ va_D A9 (MWn h0 mr km (mi 0) (mi 1) (mi 2) (mi 3) (mi 4) (mi 5) (mi 6) (mi 7) w0_10 (mi 17) (mi 23) (mi 24) (mi 26) (mi 27) (mi 28) (mi 29) (mi 30) (mi 31) (mi 32) (mi 33) (mi 37) (mi 41) (mi 42) (mi 43) (mi 44) (mi 45) (mi 47) (mi 48) (mi 49) (mi 50) (mi 51) (mi 54) (mi 56) fm_trust fm_letter z1 z2 z6 z3 z4 z5 fm_deedMonth fm_deedDay fm_deedLong fm_deedKind fm_kept fm_tape fm_must fm_least fm_pin fm_ways fm_verdict fm_row fm_official fm_aside fm_worth fm_out)
set_option maxHeartbeats 4000000 in
set_option maxRecDepth 100000 in
theorem sX12_reports (l : Launch) (dC : Nat → ClassId) (dI : Nat → Nat → Nat) (sz : Nat) (h0 : Nat) (mi : Nat → Int32) (mr : Nat → Nat) (km : Nat → ClassId) (fm_reportPlace : Nat → Int32) (fm_reportKind : Nat → Int32) (fm_reportMonth : Nat → Int32) (fm_reportDay : Nat → Int32) (fm_reportKnown : Nat → Int32) (fm_struck : Nat → Int32) (fm_trust : Nat → Int32) (fm_letter : Nat → Int32) (fm_deedMonth : Nat → Int32) (fm_deedDay : Nat → Int32) (fm_deedLong : Nat → Int32) (fm_deedKind : Nat → Int32) (fm_kept : Nat → Int32) (fm_tape : Nat → Int32) (fm_must : Nat → Int32) (fm_least : Nat → Int32) (fm_pin : Nat → Int32) (fm_ways : Nat → Int32) (fm_verdict : Nat → Int32) (fm_row : Nat → Int32) (fm_official : Nat → Int32) (fm_aside : Nat → Int32) (fm_worth : Nat → Int32) (fm_out : Nat → Int32) (p1 : Int32) (p2 : Int32) (p3 : Int32) (p4 : Int32) (p5 : Int32) (gmi_0 : gi (mi 0) 0 24) (gmi_1 : gi (mi 1) 0 5) (gmi_2 : gi (mi 2) 0 5) (gmi_4 : gi (mi 4) 0 1) (gmi_7 : gi (mi 7) 0 6) (gmi_10 : gi (mi 10) 0 24) (gmi_17 : gi (mi 17) 0 8) (gmi_23 : gi (mi 23) 0 300) (gmi_24 : gi (mi 24) 0 1) (gmi_26 : gi (mi 26) 0 1600) (gmi_29 : gi (mi 29) 0 1600) (gmi_30 : gi (mi 30) 0 1600) (gmi_33 : gi (mi 33) 0 1) (gmi_37 : gi (mi 37) 0 1) (gmi_41 : gi (mi 41) 0 24) (gmi_50 : gi (mi 50) 0 1) (gmi_51 : gi (mi 51) 0 1) (gmi_56 : gi (mi 56) 0 80) (gfm_reportPlace : ga fm_reportPlace 24 0 5) (gfm_reportMonth : ga fm_reportMonth 24 0 23) (gfm_reportDay : ga fm_reportDay 24 0 999) (gfm_reportKnown : ga fm_reportKnown 24 0 999) (gfm_struck : ga fm_struck 24 0 1) : Met l yX12_reports (.code yX12_reports cX12_reports 6 (some .int) :: wsGB) ({ frames := 2, cells := 0, slots := 0, locals := 46 }) (va_Pc [.ref h0, .int p1, .int p2, .int p3, .int p4, .int p5] (fun U => U.heap.size = sz ∧ va_P (dC, dI) vwCl (MWn h0 mr km (mi 0) (mi 1) (mi 2) (mi 3) (mi 4) (mi 5) (mi 6) (mi 7) (mi 10) (mi 17) (mi 23) (mi 24) (mi 26) (mi 27) (mi 28) (mi 29) (mi 30) (mi 31) (mi 32) (mi 33) (mi 37) (mi 41) (mi 42) (mi 43) (mi 44) (mi 45) (mi 47) (mi 48) (mi 49) (mi 50) (mi 51) (mi 54) (mi 56) fm_trust fm_letter fm_reportPlace fm_reportKind fm_struck fm_reportMonth fm_reportDay fm_reportKnown fm_deedMonth fm_deedDay fm_deedLong fm_deedKind fm_kept fm_tape fm_must fm_least fm_pin fm_ways fm_verdict fm_row fm_official fm_aside fm_worth fm_out) U.heap ∧ va_K (dC, dI) vwCl (MT km) U ∧ va_D (fun _ => True) (MWn h0 mr km (mi 0) (mi 1) (mi 2) (mi 3) (mi 4) (mi 5) (mi 6) (mi 7) (mi 10) (mi 17) (mi 23) (mi 24) (mi 26) (mi 27) (mi 28) (mi 29) (mi 30) (mi 31) (mi 32) (mi 33) (mi 37) (mi 41) (mi 42) (mi 43) (mi 44) (mi 45) (mi 47) (mi 48) (mi 49) (mi 50) (mi 51) (mi 54) (mi 56) fm_trust fm_letter fm_reportPlace fm_reportKind fm_struck fm_reportMonth fm_reportDay fm_reportKnown fm_deedMonth fm_deedDay fm_deedLong fm_deedKind fm_kept fm_tape fm_must fm_least fm_pin fm_ways fm_verdict fm_row fm_official fm_aside fm_worth fm_out))) (va_Qi (fun (r : Int32) (u : Int32) => r = u ∧ gi r (-5) 23) (fun r t => ∃ (w0_10 : Int32) (z1 : Nat → Int32) (z2 : Nat → Int32) (z3 : Nat → Int32) (z4 : Nat → Int32) (z5 : Nat → Int32) (z6 : Nat → Int32), pb_sX12_reports dC dI (va_A (MWn h0 mr km (mi 0) (mi 1) (mi 2) (mi 3) (mi 4) (mi 5) (mi 6) (mi 7) (mi 10) (mi 17) (mi 23) (mi 24) (mi 26) (mi 27) (mi 28) (mi 29) (mi 30) (mi 31) (mi 32) (mi 33) (mi 37) (mi 41) (mi 42) (mi 43) (mi 44) (mi 45) (mi 47) (mi 48) (mi 49) (mi 50) (mi 51) (mi 54) (mi 56) fm_trust fm_letter fm_reportPlace fm_reportKind fm_struck fm_reportMonth fm_reportDay fm_reportKnown fm_deedMonth fm_deedDay fm_deedLong fm_deedKind fm_kept fm_tape fm_must fm_least fm_pin fm_ways fm_verdict fm_row fm_official fm_aside fm_worth fm_out) sz) h0 mi mr km fm_reportPlace fm_reportKind fm_reportMonth fm_reportDay fm_reportKnown fm_struck fm_trust fm_letter fm_deedMonth fm_deedDay fm_deedLong fm_deedKind fm_kept fm_tape fm_must fm_least fm_pin fm_ways fm_verdict fm_row fm_official fm_aside fm_worth fm_out p1 p2 p3 p4 p5 r w0_10 z1 z2 z3 z4 z5 z6 t) (va_A (MWn h0 mr km (mi 0) (mi 1) (mi 2) (mi 3) (mi 4) (mi 5) (mi 6) (mi 7) (mi 10) (mi 17) (mi 23) (mi 24) (mi 26) (mi 27) (mi 28) (mi 29) (mi 30) (mi 31) (mi 32) (mi 33) (mi 37) (mi 41) (mi 42) (mi 43) (mi 44) (mi 45) (mi 47) (mi 48) (mi 49) (mi 50) (mi 51) (mi 54) (mi 56) fm_trust fm_letter fm_reportPlace fm_reportKind fm_struck fm_reportMonth fm_reportDay fm_reportKnown fm_deedMonth fm_deedDay fm_deedLong fm_deedKind fm_kept fm_tape fm_must fm_least fm_pin fm_ways fm_verdict fm_row fm_official fm_aside fm_worth fm_out) sz)) 0 0 (va_A (MWn h0 mr km (mi 0) (mi 1) (mi 2) (mi 3) (mi 4) (mi 5) (mi 6) (mi 7) (mi 10) (mi 17) (mi 23) (mi 24) (mi 26) (mi 27) (mi 28) (mi 29) (mi 30) (mi 31) (mi 32) (mi 33) (mi 37) (mi 41) (mi 42) (mi 43) (mi 44) (mi 45) (mi 47) (mi 48) (mi 49) (mi 50) (mi 51) (mi 54) (mi 56) fm_trust fm_letter fm_reportPlace fm_reportKind fm_struck fm_reportMonth fm_reportDay fm_reportKnown fm_deedMonth fm_deedDay fm_deedLong fm_deedKind fm_kept fm_tape fm_must fm_least fm_pin fm_ways fm_verdict fm_row fm_official fm_aside fm_worth fm_out) sz) := by
  refine Met.ofW (cc := cX12_reports) (maxL := 6) (ret := (some .int)) (by decide) rfl ?_
  intro p e s m args below meth c s₁ B hml hv
  obtain ⟨rfl, hsz, hP, hK, hD0⟩ := hv
  have hx := B.exec
  have hb := B.bytes
  have hr := B.returns
  have hts := atoms_spec (ws := (.code yX12_reports cX12_reports 6 (some .int) :: wsGB)) B.pre
  have hown : s.vm.findClass RX12 = some m.cls := findClass_of_methodNamed B.named
  have hlocks := B.notSynchronized
  subst hsz
  have hD := hD0.self (sz := s.heap.size)
  generalize hAe : va_A (MWn h0 mr km (mi 0) (mi 1) (mi 2) (mi 3) (mi 4) (mi 5) (mi 6) (mi 7) (mi 10) (mi 17) (mi 23) (mi 24) (mi 26) (mi 27) (mi 28) (mi 29) (mi 30) (mi 31) (mi 32) (mi 33) (mi 37) (mi 41) (mi 42) (mi 43) (mi 44) (mi 45) (mi 47) (mi 48) (mi 49) (mi 50) (mi 51) (mi 54) (mi 56) fm_trust fm_letter fm_reportPlace fm_reportKind fm_struck fm_reportMonth fm_reportDay fm_reportKnown fm_deedMonth fm_deedDay fm_deedLong fm_deedKind fm_kept fm_tape fm_must fm_least fm_pin fm_ways fm_verdict fm_row fm_official fm_aside fm_worth fm_out) s.heap.size = A at hD ⊢
  have hA : ∀ q : Nat, s.heap.size ≤ q → A q := fun q h => by rw [← hAe]; exact Or.inr h
  have hS : va_S A s.heap s.heap [] := va_S.rf
  have hl := lv_entry ([.ref h0, .int p1, .int p2, .int p3, .int p4, .int p5]) (n := 6) (Nat.le_of_ble_eq_true rfl)
  rw [lg_entry_eq]
  generalize (lg_sl ([.ref h0, .int p1, .int p2, .int p3, .int p4, .int p5]) ++ List.replicate (6 - (lg_sl ([.ref h0, .int p1, .int p2, .int p3, .int p4, .int p5])).length) Slot.unset).toArray = ls at hl ⊢
  have hl : lv_has ls 6 [(0, .ref h0), (1, .int p1), (2, .int p2), (3, .int p3), (4, .int p4), (5, .int p5)] := hl
  obtain ⟨RES, hF⟩ : ∃ R9, fX12_reports mi fm_reportPlace fm_reportKind fm_reportMonth fm_reportDay fm_reportKnown fm_struck p1 p2 p3 p4 p5 = R9 := ⟨_, rfl⟩
  have hR9 := hF
  refine lv_aload_n hx hb (dk_at dkX12_reports 0 rfl) rfl (lv_at hl 0 rfl) ?_
  refine va_get (D := (dC, dI)) (ci := 12) (v := .int (mi 3)) (C := RX12) (T := TX12) (N := 57) hx hb hts (fun w h => List.mem_cons_of_mem _ (jnGB_X12 w h)) hown hK hP 0 rfl rfl 3 (by decide) (hts _ (List.mem_cons_of_mem _ mGB_106)) (fun _ h9 => h9) rfl (dk_at dkX12_reports 1 rfl) ?_
  refine lv_if_eq (tgt := 71) hx hb (dk_at dkX12_reports 2 rfl) (by decide) (fun c_93 => ?_) (fun c_93 => ?_)
  · have hF := gf_pos c_93 hF
    have g_94 : gi (mi 3) 0 0 := gi_eq c_93 (gi_c 0 0 (by decide))
    refine lv_bipush (v := (-2)) hx hb (dk_at dkX12_reports 36 rfl) (by decide) ?_
    exact W.iret (v := (-2)) hx hb hr (fun t ht hW => ⟨⟨(-2), (-2), rfl, ⟨rfl, (gi_w (gi_c (-2) (-2) (by decide)) (by decide))⟩, (mi 10), fm_reportPlace, fm_reportKind, fm_reportMonth, fm_reportDay, fm_reportKnown, fm_struck, gmi_10, gfm_reportPlace, gfm_reportMonth, gfm_reportDay, gfm_reportKnown, gfm_struck, hF.trans hR9.symm, by rw [ht]; exact hP, hD⟩, hS.F ht⟩) hS.2.2 (dk_at dkX12_reports 37 rfl)
  · have hF := gf_neg c_93 hF
    refine lv_aload_n hx hb (dk_at dkX12_reports 3 rfl) rfl (lv_at hl 0 rfl) ?_
    refine lv_iload_n hx hb (dk_at dkX12_reports 4 rfl) rfl (lv_at hl 1 rfl) ?_
    refine va_calli (va_runV (As := [.int p1]) (rest := []) ⟨hx, hb, hml, hown, hts⟩ (sX12_isPlace l dC dI h0 mi mr km fm_trust fm_letter fm_reportPlace fm_reportKind fm_struck fm_reportMonth fm_reportDay fm_reportKnown fm_deedMonth fm_deedDay fm_deedLong fm_deedKind fm_kept fm_tape fm_must fm_least fm_pin fm_ways fm_verdict fm_row fm_official fm_aside fm_worth fm_out p1 gmi_0 gmi_1 gmi_2 gmi_4 gmi_7 gmi_10 gmi_17 gmi_23 gmi_24 gmi_26 gmi_29 gmi_30 gmi_33 gmi_37 gmi_41 gmi_50 gmi_51 gmi_56) (cwV 1 hts (gz_gV mGB_224 mGB_225 mGB_226 mGB_1 mGB_227 goodGB) rfl rfl rfl (by decide +kernel) ⟨Nat.le_of_ble_eq_true rfl, Nat.le_of_ble_eq_true rfl⟩) ⟨bl_R, mw_recv hK hP, fun U hU hW => ⟨rfl, by rw [hU]; exact hP, va_K.moved hW.alike hK⟩⟩ rfl rfl hl.1 rfl (lv_room (Nat.le_of_ble_eq_true rfl)) (dk_at dkX12_reports 5 rfl) ⟨Nat.zero_le _, Nat.zero_le _⟩) hS (fun q _ h => h.elim) (fun q h => h.elim) (fun r_95 u t H1 locs ht hvm hw hB hz1 hk1 hS => ?_)
    obtain ⟨hw, hE⟩ := hw
    have hP := gz_keep hP hk1
    have hF := gf_callm (a := r_95) hE hF (by first | with_reducible rfl | simp only [upd_same, upd_app, ↓reduceIte, Nat.reduceEqDiff])
    generalize H1 = H at hP hS ⊢
    have gr_95 : gi r_95 0 1 := hw.1
    have hqr_95 := hw.2
    refine lv_if_eq (tgt := 71) hx hb (dk_at dkX12_reports 6 rfl) (by decide) (fun c_96 => ?_) (fun c_96 => ?_)
    · have hF := gf_pos c_96 hF
      have g_97 : gi r_95 0 0 := gi_eq c_96 (gi_c 0 0 (by decide))
      refine lv_bipush (v := (-2)) hx hb (dk_at dkX12_reports 36 rfl) (by decide) ?_
      exact W.iret (v := (-2)) hx hb hr (fun t ht hW => ⟨⟨(-2), (-2), rfl, ⟨rfl, (gi_w (gi_c (-2) (-2) (by decide)) (by decide))⟩, (mi 10), fm_reportPlace, fm_reportKind, fm_reportMonth, fm_reportDay, fm_reportKnown, fm_struck, gmi_10, gfm_reportPlace, gfm_reportMonth, gfm_reportDay, gfm_reportKnown, gfm_struck, hF.trans hR9.symm, by rw [ht]; exact hP, hD⟩, hS.F ht⟩) hS.2.2 (dk_at dkX12_reports 37 rfl)
    · have hF := gf_neg c_96 hF
      have g_98 : gi r_95 1 1 := gi_ne_lo c_96 gr_95 (gi_c 0 0 (by decide)) (by decide)
      have g_99 : gi p1 0 5 := gi_cap (gi_any p1) (hqr_95 (gz_one g_98)) (by decide)
      refine lv_iload_n hx hb (dk_at dkX12_reports 7 rfl) rfl (lv_at hl 2 rfl) ?_
      refine lv_i2l (v := (p2).toInt64) hx hb (dk_at dkX12_reports 8 rfl) rfl ?_
      refine lv_topl (fun l_100 el_100 => ?_)
      refine lv_lconst (v := 0) hx hb (dk_at dkX12_reports 9 rfl) (by decide) ?_
      refine lv_ldc2 (own := RX12) (v := 2) hx hb hown (hts _ (List.mem_cons_of_mem _ mGB_223)) (dk_at dkX12_reports 10 rfl) ?_
      have hPc := hP.sub (ws' := []) [] rfl
      have hKc := hK.sub (tys' := []) [] rfl
      refine va_calli (va_runS (As := [.long l_100, .long 0, .long 2]) (rest := []) ⟨hx, hb, hml, hown, hts⟩ (sX12_in l dC dI l_100 0 2) (cwS 3 hts (gz_gS mGB_47 mGB_48 mGB_1 mGB_49 goodGB) rfl rfl rfl (by decide +kernel) ⟨Nat.le_of_ble_eq_true rfl, Nat.le_of_ble_eq_true rfl⟩) ⟨bl_R, fun U hU hW => ⟨rfl, by rw [hU]; exact hPc, va_K.moved hW.alike hKc⟩⟩ rfl rfl hl.1 rfl (lv_room (Nat.le_of_ble_eq_true rfl)) (dk_at dkX12_reports 11 rfl) ⟨Nat.zero_le _, Nat.zero_le _⟩) hS (fun q _ h => h.elim) (fun q h => h.elim) (fun r_101 u t H1 locs ht hvm hw hB hz1 hk1 hS => ?_)
      obtain ⟨hw, hE⟩ := hw
      have hP := gz_keep hP hk1
      have hF := gf_call (a := r_101) (by rw [el_100] at hE; exact hE) hF
      generalize H1 = H at hP hS ⊢
      have gr_101 : gi r_101 0 1 := hw.1
      have hqr_101 := hw.2
      refine lv_if_eq (tgt := 71) hx hb (dk_at dkX12_reports 12 rfl) (by decide) (fun c_102 => ?_) (fun c_102 => ?_)
      · have hF := gf_pos c_102 hF
        have g_103 : gi r_101 0 0 := gi_eq c_102 (gi_c 0 0 (by decide))
        refine lv_bipush (v := (-2)) hx hb (dk_at dkX12_reports 36 rfl) (by decide) ?_
        exact W.iret (v := (-2)) hx hb hr (fun t ht hW => ⟨⟨(-2), (-2), rfl, ⟨rfl, (gi_w (gi_c (-2) (-2) (by decide)) (by decide))⟩, (mi 10), fm_reportPlace, fm_reportKind, fm_reportMonth, fm_reportDay, fm_reportKnown, fm_struck, gmi_10, gfm_reportPlace, gfm_reportMonth, gfm_reportDay, gfm_reportKnown, gfm_struck, hF.trans hR9.symm, by rw [ht]; exact hP, hD⟩, hS.F ht⟩) hS.2.2 (dk_at dkX12_reports 37 rfl)
      · have hF := gf_neg c_102 hF
        have g_104 : gi r_101 1 1 := gi_ne_lo c_102 gr_101 (gi_c 0 0 (by decide)) (by decide)
        have g_105 : gi p2 0 2 := gi_cap (gi_any p2) (gz_inr (hqr_101.1 (gz_one g_104)) el_100 (A := 0) (B := 2) (by decide) (by decide)) (by decide)
        refine lv_iload_n hx hb (dk_at dkX12_reports 13 rfl) rfl (lv_at hl 3 rfl) ?_
        refine lv_i2l (v := (p3).toInt64) hx hb (dk_at dkX12_reports 14 rfl) rfl ?_
        refine lv_topl (fun l_106 el_106 => ?_)
        refine lv_lconst (v := 1) hx hb (dk_at dkX12_reports 15 rfl) (by decide) ?_
        refine lv_aload_n hx hb (dk_at dkX12_reports 16 rfl) rfl (lv_at hl 0 rfl) ?_
        refine va_get (D := (dC, dI)) (ci := 12) (v := .int (mi 0)) (C := RX12) (T := TX12) (N := 57) hx hb hts (fun w h => List.mem_cons_of_mem _ (jnGB_X12 w h)) hown hK hP 0 rfl rfl 0 (by decide) (hts _ (List.mem_cons_of_mem _ mGB_103)) (fun _ h9 => h9) rfl (dk_at dkX12_reports 17 rfl) ?_
        refine lv_iconst (v := 1) hx hb (dk_at dkX12_reports 18 rfl) (by decide) ?_
        refine lv_isub hx hb (dk_at dkX12_reports 19 rfl) ?_
        refine lv_topi (fun x_107 ex_107 => ?_)
        have gx_107 : gi x_107 (-1) 23 := gi_sub ex_107 gmi_0 (gi_c 1 1 (by decide)) (by decide)
        refine lv_i2l (v := (x_107).toInt64) hx hb (dk_at dkX12_reports 20 rfl) rfl ?_
        refine lv_topl (fun l_108 el_108 => ?_)
        have hPc := hP.sub (ws' := []) [] rfl
        have hKc := hK.sub (tys' := []) [] rfl
        refine va_calli (va_runS (As := [.long l_106, .long 1, .long l_108]) (rest := []) ⟨hx, hb, hml, hown, hts⟩ (sX12_in l dC dI l_106 1 l_108) (cwS 3 hts (gz_gS mGB_47 mGB_48 mGB_1 mGB_49 goodGB) rfl rfl rfl (by decide +kernel) ⟨Nat.le_of_ble_eq_true rfl, Nat.le_of_ble_eq_true rfl⟩) ⟨bl_R, fun U hU hW => ⟨rfl, by rw [hU]; exact hPc, va_K.moved hW.alike hKc⟩⟩ rfl rfl hl.1 rfl (lv_room (Nat.le_of_ble_eq_true rfl)) (dk_at dkX12_reports 21 rfl) ⟨Nat.zero_le _, Nat.zero_le _⟩) hS (fun q _ h => h.elim) (fun q h => h.elim) (fun r_109 u t H1 locs ht hvm hw hB hz1 hk1 hS => ?_)
        obtain ⟨hw, hE⟩ := hw
        have hP := gz_keep hP hk1
        have hF := gf_call (a := r_109) (by rw [el_108, ex_107, el_106] at hE; exact hE) hF
        generalize H1 = H at hP hS ⊢
        have gr_109 : gi r_109 0 1 := hw.1
        have hqr_109 := hw.2
        refine lv_if_eq (tgt := 71) hx hb (dk_at dkX12_reports 22 rfl) (by decide) (fun c_110 => ?_) (fun c_110 => ?_)
        · have hF := gf_pos c_110 hF
          have g_111 : gi r_109 0 0 := gi_eq c_110 (gi_c 0 0 (by decide))
          refine lv_bipush (v := (-2)) hx hb (dk_at dkX12_reports 36 rfl) (by decide) ?_
          exact W.iret (v := (-2)) hx hb hr (fun t ht hW => ⟨⟨(-2), (-2), rfl, ⟨rfl, (gi_w (gi_c (-2) (-2) (by decide)) (by decide))⟩, (mi 10), fm_reportPlace, fm_reportKind, fm_reportMonth, fm_reportDay, fm_reportKnown, fm_struck, gmi_10, gfm_reportPlace, gfm_reportMonth, gfm_reportDay, gfm_reportKnown, gfm_struck, hF.trans hR9.symm, by rw [ht]; exact hP, hD⟩, hS.F ht⟩) hS.2.2 (dk_at dkX12_reports 37 rfl)
        · have hF := gf_neg c_110 hF
          have g_112 : gi r_109 1 1 := gi_ne_lo c_110 gr_109 (gi_c 0 0 (by decide)) (by decide)
          have g_113 : gi p3 1 23 := gi_cap (gi_any p3) (gz_inr (hqr_109.1 (gz_one g_112)) el_106 (A := 1) (B := 23) (by decide) (gz_l2u el_108 gx_107)) (by decide)
          refine lv_iload hx hb (dk_at dkX12_reports 23 rfl) (lv_at hl 4 rfl) ?_
          refine lv_i2l (v := (p4).toInt64) hx hb (dk_at dkX12_reports 24 rfl) rfl ?_
          refine lv_topl (fun l_114 el_114 => ?_)
          refine lv_lconst (v := 0) hx hb (dk_at dkX12_reports 25 rfl) (by decide) ?_
          refine lv_ldc2 (own := RX12) (v := 999) hx hb hown (hts _ (List.mem_cons_of_mem _ mGB_260)) (dk_at dkX12_reports 26 rfl) ?_
          have hPc := hP.sub (ws' := []) [] rfl
          have hKc := hK.sub (tys' := []) [] rfl
          refine va_calli (va_runS (As := [.long l_114, .long 0, .long 999]) (rest := []) ⟨hx, hb, hml, hown, hts⟩ (sX12_in l dC dI l_114 0 999) (cwS 3 hts (gz_gS mGB_47 mGB_48 mGB_1 mGB_49 goodGB) rfl rfl rfl (by decide +kernel) ⟨Nat.le_of_ble_eq_true rfl, Nat.le_of_ble_eq_true rfl⟩) ⟨bl_R, fun U hU hW => ⟨rfl, by rw [hU]; exact hPc, va_K.moved hW.alike hKc⟩⟩ rfl rfl hl.1 rfl (lv_room (Nat.le_of_ble_eq_true rfl)) (dk_at dkX12_reports 27 rfl) ⟨Nat.zero_le _, Nat.zero_le _⟩) hS (fun q _ h => h.elim) (fun q h => h.elim) (fun r_115 u t H1 locs ht hvm hw hB hz1 hk1 hS => ?_)
          obtain ⟨hw, hE⟩ := hw
          have hP := gz_keep hP hk1
          have hF := gf_call (a := r_115) (by rw [el_114] at hE; exact hE) hF
          generalize H1 = H at hP hS ⊢
          have gr_115 : gi r_115 0 1 := hw.1
          have hqr_115 := hw.2
          refine lv_if_eq (tgt := 71) hx hb (dk_at dkX12_reports 28 rfl) (by decide) (fun c_116 => ?_) (fun c_116 => ?_)
          · have hF := gf_pos c_116 hF
            have g_117 : gi r_115 0 0 := gi_eq c_116 (gi_c 0 0 (by decide))
            refine lv_bipush (v := (-2)) hx hb (dk_at dkX12_reports 36 rfl) (by decide) ?_
            exact W.iret (v := (-2)) hx hb hr (fun t ht hW => ⟨⟨(-2), (-2), rfl, ⟨rfl, (gi_w (gi_c (-2) (-2) (by decide)) (by decide))⟩, (mi 10), fm_reportPlace, fm_reportKind, fm_reportMonth, fm_reportDay, fm_reportKnown, fm_struck, gmi_10, gfm_reportPlace, gfm_reportMonth, gfm_reportDay, gfm_reportKnown, gfm_struck, hF.trans hR9.symm, by rw [ht]; exact hP, hD⟩, hS.F ht⟩) hS.2.2 (dk_at dkX12_reports 37 rfl)
          · have hF := gf_neg c_116 hF
            have g_118 : gi r_115 1 1 := gi_ne_lo c_116 gr_115 (gi_c 0 0 (by decide)) (by decide)
            have g_119 : gi p4 0 999 := gi_cap (gi_any p4) (gz_inr (hqr_115.1 (gz_one g_118)) el_114 (A := 0) (B := 999) (by decide) (by decide)) (by decide)
            refine lv_iload hx hb (dk_at dkX12_reports 29 rfl) (lv_at hl 5 rfl) ?_
            refine lv_i2l (v := (p5).toInt64) hx hb (dk_at dkX12_reports 30 rfl) rfl ?_
            refine lv_topl (fun l_120 el_120 => ?_)
            refine lv_iload hx hb (dk_at dkX12_reports 31 rfl) (lv_at hl 4 rfl) ?_
            refine lv_i2l (v := (p4).toInt64) hx hb (dk_at dkX12_reports 32 rfl) rfl ?_
            refine lv_topl (fun l_121 el_121 => ?_)
            refine lv_ldc2 (own := RX12) (v := 999) hx hb hown (hts _ (List.mem_cons_of_mem _ mGB_260)) (dk_at dkX12_reports 33 rfl) ?_
            have hPc := hP.sub (ws' := []) [] rfl
            have hKc := hK.sub (tys' := []) [] rfl
            refine va_calli (va_runS (As := [.long l_120, .long l_121, .long 999]) (rest := []) ⟨hx, hb, hml, hown, hts⟩ (sX12_in l dC dI l_120 l_121 999) (cwS 3 hts (gz_gS mGB_47 mGB_48 mGB_1 mGB_49 goodGB) rfl rfl rfl (by decide +kernel) ⟨Nat.le_of_ble_eq_true rfl, Nat.le_of_ble_eq_true rfl⟩) ⟨bl_R, fun U hU hW => ⟨rfl, by rw [hU]; exact hPc, va_K.moved hW.alike hKc⟩⟩ rfl rfl hl.1 rfl (lv_room (Nat.le_of_ble_eq_true rfl)) (dk_at dkX12_reports 34 rfl) ⟨Nat.zero_le _, Nat.zero_le _⟩) hS (fun q _ h => h.elim) (fun q h => h.elim) (fun r_122 u t H1 locs ht hvm hw hB hz1 hk1 hS => ?_)
            obtain ⟨hw, hE⟩ := hw
            have hP := gz_keep hP hk1
            have hF := gf_call (a := r_122) (by rw [el_121, el_120] at hE; exact hE) hF
            generalize H1 = H at hP hS ⊢
            have gr_122 : gi r_122 0 1 := hw.1
            have hqr_122 := hw.2
            refine lv_if_ne (tgt := 74) hx hb (dk_at dkX12_reports 35 rfl) (by decide) (fun c_123 => ?_) (fun c_123 => ?_)
            · have hF := gf_neg c_123 hF
              have g_124 : gi r_122 1 1 := gi_ne_lo c_123 gr_122 (gi_c 0 0 (by decide)) (by decide)
              have g_125 : gi p5 0 999 := gi_cap (gi_any p5) (gz_inr (hqr_122.1 (gz_one g_124)) el_120 (A := 0) (B := 999) (gz_l2l el_121 g_119) (by decide)) (by decide)
              refine lv_aload_n hx hb (dk_at dkX12_reports 38 rfl) rfl (lv_at hl 0 rfl) ?_
              refine va_get (D := (dC, dI)) (ci := 12) (v := .int (mi 10)) (C := RX12) (T := TX12) (N := 57) hx hb hts (fun w h => List.mem_cons_of_mem _ (jnGB_X12 w h)) hown hK hP 0 rfl rfl 10 (by decide) (hts _ (List.mem_cons_of_mem _ mGB_111)) (fun _ h9 => h9) rfl (dk_at dkX12_reports 39 rfl) ?_
              refine lv_bipush (v := 24) hx hb (dk_at dkX12_reports 40 rfl) (by decide) ?_
              refine lv_icmp_ne (tgt := 86) hx hb (dk_at dkX12_reports 41 rfl) (by decide) (fun c_126 => ?_) (fun c_126 => ?_)
              · have hF := gf_neg c_126 hF
                have g_127 : gi (mi 10) 0 23 := gi_ne_hi c_126 gmi_10 (gi_c 24 24 (by decide)) (by decide)
                refine lv_aload_n hx hb (dk_at dkX12_reports 44 rfl) rfl (lv_at hl 0 rfl) ?_
                refine lv_iload_n hx hb (dk_at dkX12_reports 45 rfl) rfl (lv_at hl 1 rfl) ?_
                refine lv_iload_n hx hb (dk_at dkX12_reports 46 rfl) rfl (lv_at hl 2 rfl) ?_
                refine lv_iload_n hx hb (dk_at dkX12_reports 47 rfl) rfl (lv_at hl 3 rfl) ?_
                refine lv_iload hx hb (dk_at dkX12_reports 48 rfl) (lv_at hl 4 rfl) ?_
                refine lv_iload hx hb (dk_at dkX12_reports 49 rfl) (lv_at hl 5 rfl) ?_
                have hFc := gz_fullF hD hS hA
                refine va_callv (va_runV (As := [.int p1, .int p2, .int p3, .int p4, .int p5]) (rest := []) ⟨hx, hb, hml, hown, hts⟩ (sX12_lays l dC dI H.size h0 mi mr km fm_reportPlace fm_reportKind fm_reportMonth fm_reportDay fm_reportKnown fm_struck fm_trust fm_letter fm_deedMonth fm_deedDay fm_deedLong fm_deedKind fm_kept fm_tape fm_must fm_least fm_pin fm_ways fm_verdict fm_row fm_official fm_aside fm_worth fm_out p1 p2 p3 p4 p5 gmi_0 gmi_1 gmi_2 gmi_4 gmi_7 g_127 gmi_17 gmi_23 gmi_24 gmi_26 gmi_29 gmi_30 gmi_33 gmi_37 gmi_41 gmi_50 gmi_51 gmi_56 gfm_reportPlace gfm_reportMonth gfm_reportDay gfm_reportKnown gfm_struck g_99 (gi_w g_113 (by decide)) g_119 g_125) (cwV 5 hts (gz_gV mGB_205 mGB_206 mGB_207 mGB_1 mGB_208 goodGB) rfl rfl rfl (by decide +kernel) ⟨Nat.le_of_ble_eq_true rfl, Nat.le_of_ble_eq_true rfl⟩) ⟨bl_W, mw_recv hK hP, fun U hU hW => ⟨rfl, by rw [hU], by rw [hU]; exact hP, va_K.moved hW.alike hK, hD.weaken (fun _ _ _ _ => trivial)⟩⟩ rfl rfl hl.1 rfl (lv_room (Nat.le_of_ble_eq_true rfl)) (dk_at dkX12_reports 50 rfl) ⟨Nat.zero_le _, Nat.zero_le _⟩) hS (fun q _ h => hFc q h) hFc (fun u t H1 locs ht hvm hw hB hz1 hk1 hS => ?_)
                obtain ⟨y_129, f_130, f_131, f_132, f_133, f_134, f_135, hB⟩ := hB
                obtain ⟨gy_129, gf_130, gf_132, gf_133, gf_134, gf_135, hE, hP1, hD1⟩ := hB
                rw [ht] at hP1
                have hD : va_D A (MWn h0 mr km (mi 0) (mi 1) (mi 2) (mi 3) (mi 4) (mi 5) (mi 6) (mi 7) y_129 (mi 17) (mi 23) (mi 24) (mi 26) (mi 27) (mi 28) (mi 29) (mi 30) (mi 31) (mi 32) (mi 33) (mi 37) (mi 41) (mi 42) (mi 43) (mi 44) (mi 45) (mi 47) (mi 48) (mi 49) (mi 50) (mi 51) (mi 54) (mi 56) fm_trust fm_letter f_130 f_131 f_135 f_132 f_133 f_134 fm_deedMonth fm_deedDay fm_deedLong fm_deedKind fm_kept fm_tape fm_must fm_least fm_pin fm_ways fm_verdict fm_row fm_official fm_aside fm_worth fm_out) := gz_fullD hFc hD1
                have hP : va_P (dC, dI) vwCl (MWn h0 mr km (mi 0) (mi 1) (mi 2) (mi 3) (mi 4) (mi 5) (mi 6) (mi 7) y_129 (mi 17) (mi 23) (mi 24) (mi 26) (mi 27) (mi 28) (mi 29) (mi 30) (mi 31) (mi 32) (mi 33) (mi 37) (mi 41) (mi 42) (mi 43) (mi 44) (mi 45) (mi 47) (mi 48) (mi 49) (mi 50) (mi 51) (mi 54) (mi 56) fm_trust fm_letter f_130 f_131 f_135 f_132 f_133 f_134 fm_deedMonth fm_deedDay fm_deedLong fm_deedKind fm_kept fm_tape fm_must fm_least fm_pin fm_ways fm_verdict fm_row fm_official fm_aside fm_worth fm_out) H1 := hP1
                have hF := gf_callm (a := (y_129, f_130, f_131, f_132, f_133, f_134, f_135)) hE hF (by first | with_reducible rfl | simp only [upd_same, upd_app, ↓reduceIte, Nat.reduceEqDiff])
                generalize H1 = H at hP hS ⊢
                refine lv_aload_n hx hb (dk_at dkX12_reports 51 rfl) rfl (lv_at hl 0 rfl) ?_
                refine va_get (D := (dC, dI)) (ci := 12) (v := .int y_129) (C := RX12) (T := TX12) (N := 57) hx hb hts (fun w h => List.mem_cons_of_mem _ (jnGB_X12 w h)) hown hK hP 0 rfl rfl 10 (by decide) (hts _ (List.mem_cons_of_mem _ mGB_111)) (fun _ h9 => h9) rfl (dk_at dkX12_reports 52 rfl) ?_
                refine lv_iconst (v := 1) hx hb (dk_at dkX12_reports 53 rfl) (by decide) ?_
                refine lv_isub hx hb (dk_at dkX12_reports 54 rfl) ?_
                refine lv_topi (fun x_136 ex_136 => ?_)
                have gx_136 : gi x_136 (-1) 23 := gi_sub ex_136 gy_129 (gi_c 1 1 (by decide)) (by decide)
                exact W.iret (v := x_136) hx hb hr (fun t ht hW => ⟨⟨x_136, x_136, rfl, ⟨rfl, (gi_w gx_136 (by decide))⟩, y_129, f_130, f_131, f_132, f_133, f_134, f_135, gy_129, gf_130, gf_132, gf_133, gf_134, gf_135, by rw [ex_136]; exact hF.trans hR9.symm, by rw [ht]; exact hP, hD⟩, hS.F ht⟩) hS.2.2 (dk_at dkX12_reports 55 rfl)
              · have hF := gf_pos c_126 hF
                have g_137 : gi (mi 10) 24 24 := gi_eq c_126 (gi_c 24 24 (by decide))
                refine lv_bipush (v := (-5)) hx hb (dk_at dkX12_reports 42 rfl) (by decide) ?_
                exact W.iret (v := (-5)) hx hb hr (fun t ht hW => ⟨⟨(-5), (-5), rfl, ⟨rfl, (gi_w (gi_c (-5) (-5) (by decide)) (by decide))⟩, (mi 10), fm_reportPlace, fm_reportKind, fm_reportMonth, fm_reportDay, fm_reportKnown, fm_struck, (gi_w g_137 (by decide)), gfm_reportPlace, gfm_reportMonth, gfm_reportDay, gfm_reportKnown, gfm_struck, hF.trans hR9.symm, by rw [ht]; exact hP, hD⟩, hS.F ht⟩) hS.2.2 (dk_at dkX12_reports 43 rfl)
            · have hF := gf_pos c_123 hF
              have g_138 : gi r_122 0 0 := gi_eq c_123 (gi_c 0 0 (by decide))
              refine lv_bipush (v := (-2)) hx hb (dk_at dkX12_reports 36 rfl) (by decide) ?_
              exact W.iret (v := (-2)) hx hb hr (fun t ht hW => ⟨⟨(-2), (-2), rfl, ⟨rfl, (gi_w (gi_c (-2) (-2) (by decide)) (by decide))⟩, (mi 10), fm_reportPlace, fm_reportKind, fm_reportMonth, fm_reportDay, fm_reportKnown, fm_struck, gmi_10, gfm_reportPlace, gfm_reportMonth, gfm_reportDay, gfm_reportKnown, gfm_struck, hF.trans hR9.symm, by rw [ht]; exact hP, hD⟩, hS.F ht⟩) hS.2.2 (dk_at dkX12_reports 37 rfl)
noncomputable def lsX12_deed : List (Nat × Instr × Nat) := [(0, .aload_n 0, 1), (1, .iload_n 1, 1), (2, .invokevirtual 306, 3), (5, .ifCond .ne 6, 3), (8, .bipush (-2), 2), (10, .ireturn, 1), (11, .iload_n 2, 1), (12, .tableswitch 60 0 3 #[32, 39, 46, 53], 32), (44, .aload_n 0, 1), (45, .getfield 35, 3), (48, .iload_n 1, 1), (49, .iaload, 1), (50, .ireturn, 1), (51, .aload_n 0, 1), (52, .getfield 38, 3), (55, .iload_n 1, 1), (56, .iaload, 1), (57, .ireturn, 1), (58, .aload_n 0, 1), (59, .getfield 41, 3), (62, .iload_n 1, 1), (63, .iaload, 1), (64, .ireturn, 1), (65, .aload_n 0, 1), (66, .getfield 44, 3), (69, .iload_n 1, 1), (70, .iaload, 1), (71, .ireturn, 1), (72, .bipush (-2), 2), (74, .ireturn, 1)]
theorem dkX12_deed : dkAll cX12_deed lsX12_deed = true := by decide +kernel
noncomputable def fX12_deed (mi : Nat → Int32) (fm_deedMonth : Nat → Int32) (fm_deedLong : Nat → Int32) (fm_deedKind : Nat → Int32) (fm_deedDay : Nat → Int32) (p1 : Int32) (p2 : Int32) : Int32 := cal (fun o1 => if o1 = (0 : Int32) then (-2 : Int32) else (if p2 = (0 : Int32) then (fm_deedMonth p1.toNatClampNeg) else (if p2 = (1 : Int32) then (fm_deedDay p1.toNatClampNeg) else (if p2 = (2 : Int32) then (fm_deedLong p1.toNatClampNeg) else (if p2 = (3 : Int32) then (fm_deedKind p1.toNatClampNeg) else (-2 : Int32)))))) (fX12_isDeed mi p1)
set_option maxHeartbeats 4000000 in
set_option maxRecDepth 100000 in
theorem sX12_deed (l : Launch) (dC : Nat → ClassId) (dI : Nat → Nat → Nat) (h0 : Nat) (mi : Nat → Int32) (mr : Nat → Nat) (km : Nat → ClassId) (fm_deedMonth : Nat → Int32) (fm_deedLong : Nat → Int32) (fm_deedKind : Nat → Int32) (fm_deedDay : Nat → Int32) (fm_trust : Nat → Int32) (fm_letter : Nat → Int32) (fm_reportPlace : Nat → Int32) (fm_reportKind : Nat → Int32) (fm_struck : Nat → Int32) (fm_reportMonth : Nat → Int32) (fm_reportDay : Nat → Int32) (fm_reportKnown : Nat → Int32) (fm_kept : Nat → Int32) (fm_tape : Nat → Int32) (fm_must : Nat → Int32) (fm_least : Nat → Int32) (fm_pin : Nat → Int32) (fm_ways : Nat → Int32) (fm_verdict : Nat → Int32) (fm_row : Nat → Int32) (fm_official : Nat → Int32) (fm_aside : Nat → Int32) (fm_worth : Nat → Int32) (fm_out : Nat → Int32) (p1 : Int32) (p2 : Int32) (gmi_0 : gi (mi 0) 0 24) (gmi_1 : gi (mi 1) 0 5) (gmi_2 : gi (mi 2) 0 5) (gmi_4 : gi (mi 4) 0 1) (gmi_7 : gi (mi 7) 0 6) (gmi_10 : gi (mi 10) 0 24) (gmi_17 : gi (mi 17) 0 8) (gmi_23 : gi (mi 23) 0 300) (gmi_24 : gi (mi 24) 0 1) (gmi_26 : gi (mi 26) 0 1600) (gmi_29 : gi (mi 29) 0 1600) (gmi_30 : gi (mi 30) 0 1600) (gmi_33 : gi (mi 33) 0 1) (gmi_37 : gi (mi 37) 0 1) (gmi_41 : gi (mi 41) 0 24) (gmi_50 : gi (mi 50) 0 1) (gmi_51 : gi (mi 51) 0 1) (gmi_56 : gi (mi 56) 0 80) (gfm_deedMonth : ga fm_deedMonth 8 0 23) (gfm_deedLong : ga fm_deedLong 8 0 600) : Met l yX12_deed (.code yX12_deed cX12_deed 3 (some .int) :: wsGB) ({ frames := 2, cells := 0, slots := 0, locals := 46 }) (va_Pc [.ref h0, .int p1, .int p2] (fun U => va_P (dC, dI) vwCl (MWn h0 mr km (mi 0) (mi 1) (mi 2) (mi 3) (mi 4) (mi 5) (mi 6) (mi 7) (mi 10) (mi 17) (mi 23) (mi 24) (mi 26) (mi 27) (mi 28) (mi 29) (mi 30) (mi 31) (mi 32) (mi 33) (mi 37) (mi 41) (mi 42) (mi 43) (mi 44) (mi 45) (mi 47) (mi 48) (mi 49) (mi 50) (mi 51) (mi 54) (mi 56) fm_trust fm_letter fm_reportPlace fm_reportKind fm_struck fm_reportMonth fm_reportDay fm_reportKnown fm_deedMonth fm_deedDay fm_deedLong fm_deedKind fm_kept fm_tape fm_must fm_least fm_pin fm_ways fm_verdict fm_row fm_official fm_aside fm_worth fm_out) U.heap ∧ va_K (dC, dI) vwCl (MT km) U)) (va_Qi (fun (r : Int32) (u : Unit) => (gi r (-2147483648) 2147483647) ∧ r = fX12_deed mi fm_deedMonth fm_deedLong fm_deedKind fm_deedDay p1 p2) (fun _ _ => True) (fun _ => False)) 0 0 (fun _ => False) := by
  refine Met.ofW (cc := cX12_deed) (maxL := 3) (ret := (some .int)) (by decide) rfl ?_
  intro p e s m args below meth c s₁ B hml hv
  obtain ⟨rfl, hP, hK⟩ := hv
  have hx := B.exec
  have hb := B.bytes
  have hr := B.returns
  have hts := atoms_spec (ws := (.code yX12_deed cX12_deed 3 (some .int) :: wsGB)) B.pre
  have hown : s.vm.findClass RX12 = some m.cls := findClass_of_methodNamed B.named
  have hlocks := B.notSynchronized
  have hS : va_S (fun _ => False) s.heap s.heap [] := va_S.rf
  have hl := lv_entry ([.ref h0, .int p1, .int p2]) (n := 3) (Nat.le_of_ble_eq_true rfl)
  rw [lg_entry_eq]
  generalize (lg_sl ([.ref h0, .int p1, .int p2]) ++ List.replicate (3 - (lg_sl ([.ref h0, .int p1, .int p2])).length) Slot.unset).toArray = ls at hl ⊢
  have hl : lv_has ls 3 [(0, .ref h0), (1, .int p1), (2, .int p2)] := hl
  obtain ⟨RES, hF⟩ : ∃ R9, fX12_deed mi fm_deedMonth fm_deedLong fm_deedKind fm_deedDay p1 p2 = R9 := ⟨_, rfl⟩
  have hR9 := hF
  refine lv_aload_n hx hb (dk_at dkX12_deed 0 rfl) rfl (lv_at hl 0 rfl) ?_
  refine lv_iload_n hx hb (dk_at dkX12_deed 1 rfl) rfl (lv_at hl 1 rfl) ?_
  refine va_calli (va_runV (As := [.int p1]) (rest := []) ⟨hx, hb, hml, hown, hts⟩ (sX12_isDeed l dC dI h0 mi mr km fm_trust fm_letter fm_reportPlace fm_reportKind fm_struck fm_reportMonth fm_reportDay fm_reportKnown fm_deedMonth fm_deedDay fm_deedLong fm_deedKind fm_kept fm_tape fm_must fm_least fm_pin fm_ways fm_verdict fm_row fm_official fm_aside fm_worth fm_out p1 gmi_0 gmi_1 gmi_2 gmi_4 gmi_7 gmi_10 gmi_17 gmi_23 gmi_24 gmi_26 gmi_29 gmi_30 gmi_33 gmi_37 gmi_41 gmi_50 gmi_51 gmi_56) (cwV 1 hts (gz_gV mGB_242 mGB_243 mGB_244 mGB_1 mGB_245 goodGB) rfl rfl rfl (by decide +kernel) ⟨Nat.le_of_ble_eq_true rfl, Nat.le_of_ble_eq_true rfl⟩) ⟨bl_R, mw_recv hK hP, fun U hU hW => ⟨rfl, by rw [hU]; exact hP, va_K.moved hW.alike hK⟩⟩ rfl rfl hl.1 rfl (lv_room (Nat.le_of_ble_eq_true rfl)) (dk_at dkX12_deed 2 rfl) ⟨Nat.zero_le _, Nat.zero_le _⟩) hS (fun q _ h => h.elim) (fun q h => h.elim) (fun r_11 u t H1 locs ht hvm hw hB hz1 hk1 hS => ?_)
  obtain ⟨hw, hE⟩ := hw
  have hP := gz_keep hP hk1
  have hF := gf_callm (a := r_11) hE hF (by first | with_reducible rfl | simp only [upd_same, upd_app, ↓reduceIte, Nat.reduceEqDiff])
  generalize H1 = H at hP hS ⊢
  have gr_11 : gi r_11 0 1 := hw.1
  have hqr_11 := hw.2
  refine lv_if_ne (tgt := 11) hx hb (dk_at dkX12_deed 3 rfl) (by decide) (fun c_12 => ?_) (fun c_12 => ?_)
  · have hF := gf_neg c_12 hF
    have g_13 : gi r_11 1 1 := gi_ne_lo c_12 gr_11 (gi_c 0 0 (by decide)) (by decide)
    have g_14 : gi p1 0 7 := gi_cap (gi_any p1) (hqr_11 (gz_one g_13)) (by decide)
    refine lv_iload_n hx hb (dk_at dkX12_deed 6 rfl) rfl (lv_at hl 2 rfl) ?_
    rcases gz_sw p2 3 (Nat.le_of_ble_eq_true rfl) with hj_15 | ⟨j_15, hj_15, ej_15⟩
    · refine lv_tableOut (tgt := 72) hx hb (dk_at dkX12_deed 7 rfl) hj_15 (by decide) ?_
      have hF := gf_neg (fun h9 => by have h8 := congrArg Int32.toInt h9; rw [show (0 : Int32).toInt = 0 from by decide] at h8; omega) hF
      have hF := gf_neg (fun h9 => by have h8 := congrArg Int32.toInt h9; rw [show (1 : Int32).toInt = 1 from by decide] at h8; omega) hF
      have hF := gf_neg (fun h9 => by have h8 := congrArg Int32.toInt h9; rw [show (2 : Int32).toInt = 2 from by decide] at h8; omega) hF
      have hF := gf_neg (fun h9 => by have h8 := congrArg Int32.toInt h9; rw [show (3 : Int32).toInt = 3 from by decide] at h8; omega) hF
      refine lv_bipush (v := (-2)) hx hb (dk_at dkX12_deed 28 rfl) (by decide) ?_
      exact W.iret (v := (-2)) hx hb hr (fun t ht hW => ⟨⟨(-2), (), rfl, ⟨(gi_any (-2)), hF.trans hR9.symm⟩, trivial⟩, hS.F ht⟩) hS.2.2 (dk_at dkX12_deed 29 rfl)
    · rcases (show j_15 = 0 ∨ j_15 = 1 ∨ j_15 = 2 ∨ j_15 = 3 by omega) with rfl | rfl | rfl | rfl
      · refine lv_tableIn (off := 32) (tgt := 44) hx hb (dk_at dkX12_deed 7 rfl) (by rw [ej_15]; decide +kernel) (by rw [ej_15]; decide +kernel) (by rw [ej_15]; decide +kernel) (by decide) ?_
        have hF := gf_pos (by rw [ej_15]; rfl) hF
        refine lv_aload_n hx hb (dk_at dkX12_deed 8 rfl) rfl (lv_at hl 0 rfl) ?_
        refine va_get (D := (dC, dI)) (ci := 12) (v := .ref (mr 8)) (C := RX12) (T := TX12) (N := 57) hx hb hts (fun w h => List.mem_cons_of_mem _ (jnGB_X12 w h)) hown hK hP 0 rfl rfl 18 (by decide) (hts _ (List.mem_cons_of_mem _ mGB_19)) (fun _ h9 => h9) rfl (dk_at dkX12_deed 9 rfl) ?_
        refine lv_iload_n hx hb (dk_at dkX12_deed 10 rfl) rfl (lv_at hl 1 rfl) ?_
        refine va_iald hx hb hK hP 9 8 rfl rfl (gi_in g_14 (by decide)) (dk_at dkX12_deed 11 rfl) ?_
        refine lv_topi (fun x_16 ex_16 => ?_)
        have gx_16 : gi x_16 0 23 := ga_at gfm_deedMonth (gi_in g_14 (by decide)) ex_16
        exact W.iret (v := x_16) hx hb hr (fun t ht hW => ⟨⟨x_16, (), rfl, ⟨(gi_any x_16), by rw [ex_16]; exact hF.trans hR9.symm⟩, trivial⟩, hS.F ht⟩) hS.2.2 (dk_at dkX12_deed 12 rfl)
      · refine lv_tableIn (off := 39) (tgt := 51) hx hb (dk_at dkX12_deed 7 rfl) (by rw [ej_15]; decide +kernel) (by rw [ej_15]; decide +kernel) (by rw [ej_15]; decide +kernel) (by decide) ?_
        have hF := gf_neg (by rw [ej_15]; decide) hF
        have hF := gf_pos (by rw [ej_15]; rfl) hF
        refine lv_aload_n hx hb (dk_at dkX12_deed 13 rfl) rfl (lv_at hl 0 rfl) ?_
        refine va_get (D := (dC, dI)) (ci := 12) (v := .ref (mr 9)) (C := RX12) (T := TX12) (N := 57) hx hb hts (fun w h => List.mem_cons_of_mem _ (jnGB_X12 w h)) hown hK hP 0 rfl rfl 19 (by decide) (hts _ (List.mem_cons_of_mem _ mGB_20)) (fun _ h9 => h9) rfl (dk_at dkX12_deed 14 rfl) ?_
        refine lv_iload_n hx hb (dk_at dkX12_deed 15 rfl) rfl (lv_at hl 1 rfl) ?_
        refine va_iald hx hb hK hP 10 9 rfl rfl (gi_in g_14 (by decide)) (dk_at dkX12_deed 16 rfl) ?_
        refine lv_topi (fun x_17 ex_17 => ?_)
        exact W.iret (v := x_17) hx hb hr (fun t ht hW => ⟨⟨x_17, (), rfl, ⟨(gi_any x_17), by rw [ex_17]; exact hF.trans hR9.symm⟩, trivial⟩, hS.F ht⟩) hS.2.2 (dk_at dkX12_deed 17 rfl)
      · refine lv_tableIn (off := 46) (tgt := 58) hx hb (dk_at dkX12_deed 7 rfl) (by rw [ej_15]; decide +kernel) (by rw [ej_15]; decide +kernel) (by rw [ej_15]; decide +kernel) (by decide) ?_
        have hF := gf_neg (by rw [ej_15]; decide) hF
        have hF := gf_neg (by rw [ej_15]; decide) hF
        have hF := gf_pos (by rw [ej_15]; rfl) hF
        refine lv_aload_n hx hb (dk_at dkX12_deed 18 rfl) rfl (lv_at hl 0 rfl) ?_
        refine va_get (D := (dC, dI)) (ci := 12) (v := .ref (mr 10)) (C := RX12) (T := TX12) (N := 57) hx hb hts (fun w h => List.mem_cons_of_mem _ (jnGB_X12 w h)) hown hK hP 0 rfl rfl 20 (by decide) (hts _ (List.mem_cons_of_mem _ mGB_21)) (fun _ h9 => h9) rfl (dk_at dkX12_deed 19 rfl) ?_
        refine lv_iload_n hx hb (dk_at dkX12_deed 20 rfl) rfl (lv_at hl 1 rfl) ?_
        refine va_iald hx hb hK hP 11 10 rfl rfl (gi_in g_14 (by decide)) (dk_at dkX12_deed 21 rfl) ?_
        refine lv_topi (fun x_18 ex_18 => ?_)
        have gx_18 : gi x_18 0 600 := ga_at gfm_deedLong (gi_in g_14 (by decide)) ex_18
        exact W.iret (v := x_18) hx hb hr (fun t ht hW => ⟨⟨x_18, (), rfl, ⟨(gi_any x_18), by rw [ex_18]; exact hF.trans hR9.symm⟩, trivial⟩, hS.F ht⟩) hS.2.2 (dk_at dkX12_deed 22 rfl)
      · refine lv_tableIn (off := 53) (tgt := 65) hx hb (dk_at dkX12_deed 7 rfl) (by rw [ej_15]; decide +kernel) (by rw [ej_15]; decide +kernel) (by rw [ej_15]; decide +kernel) (by decide) ?_
        have hF := gf_neg (by rw [ej_15]; decide) hF
        have hF := gf_neg (by rw [ej_15]; decide) hF
        have hF := gf_neg (by rw [ej_15]; decide) hF
        have hF := gf_pos (by rw [ej_15]; rfl) hF
        refine lv_aload_n hx hb (dk_at dkX12_deed 23 rfl) rfl (lv_at hl 0 rfl) ?_
        refine va_get (D := (dC, dI)) (ci := 12) (v := .ref (mr 11)) (C := RX12) (T := TX12) (N := 57) hx hb hts (fun w h => List.mem_cons_of_mem _ (jnGB_X12 w h)) hown hK hP 0 rfl rfl 21 (by decide) (hts _ (List.mem_cons_of_mem _ mGB_22)) (fun _ h9 => h9) rfl (dk_at dkX12_deed 24 rfl) ?_
        refine lv_iload_n hx hb (dk_at dkX12_deed 25 rfl) rfl (lv_at hl 1 rfl) ?_
        refine va_iald hx hb hK hP 12 11 rfl rfl (gi_in g_14 (by decide)) (dk_at dkX12_deed 26 rfl) ?_
        refine lv_topi (fun x_19 ex_19 => ?_)
        exact W.iret (v := x_19) hx hb hr (fun t ht hW => ⟨⟨x_19, (), rfl, ⟨(gi_any x_19), by rw [ex_19]; exact hF.trans hR9.symm⟩, trivial⟩, hS.F ht⟩) hS.2.2 (dk_at dkX12_deed 27 rfl)
  · have hF := gf_pos c_12 hF
    have g_20 : gi r_11 0 0 := gi_eq c_12 (gi_c 0 0 (by decide))
    refine lv_bipush (v := (-2)) hx hb (dk_at dkX12_deed 4 rfl) (by decide) ?_
    exact W.iret (v := (-2)) hx hb hr (fun t ht hW => ⟨⟨(-2), (), rfl, ⟨(gi_any (-2)), hF.trans hR9.symm⟩, trivial⟩, hS.F ht⟩) hS.2.2 (dk_at dkX12_deed 5 rfl)
noncomputable def lsJ7_fill_53178 : List (Nat × Instr × Nat) := [(0, .iconst 0, 1), (1, .istore_n 2, 1), (2, .aload_n 0, 1), (3, .arraylength, 1), (4, .istore_n 3, 1), (5, .iload_n 2, 1), (6, .iload_n 3, 1), (7, .if_icmp .ge 13, 3), (10, .aload_n 0, 1), (11, .iload_n 2, 1), (12, .iload_n 1, 1), (13, .iastore, 1), (14, .iinc 2 1, 3), (17, .goto (-12), 3), (20, .return_, 1)]
theorem dkJ7_fill_53178 : dkAll cJ7_fill_53178 lsJ7_fill_53178 = true := by decide +kernel
set_option maxHeartbeats 4000000 in
set_option maxRecDepth 100000 in
theorem lp_sJ7_fill325 {p : Program} {l : Launch} {e : Env} {R : Room} {s : State} {m : MethodId} {args : Array Value} {below : List Frame} {meth : Method} {c : Code} {Q : State → Prop} {A : Nat → Prop} {cells slots : Nat} {dC : Nat → ClassId} {dI : Nat → Nat → Nat} (a : Nat) (ka : ClassId) (fa : Nat → Int32) (p1 : Int32)  (hx : p.tables.exec = Jvm.exec) (hb : c.code = cJ7_fill_53178) (hml : c.maxLocals = 4) (hown : s.vm.findClass RJ7 = some m.cls) (hts : ∀ w ∈ ((.code yJ7_fill_53178 cJ7_fill_53178 4 none :: wsGA) : List Cond), w.before args s = true) (hK : va_K (dC, dI) vwCl [(ka, .int)] s) (hz : nzA s) (hA : ∀ q : Nat, s.heap.size ≤ q → A q) (hRf : 0 ≤ R.frames) (hRl : 0 ≤ R.locals) (hRc : cells ≤ R.cells) (hRs : slots ≤ R.slots) (kr20 : ∀ (z0 : Nat → Int32) (H : Heap) (locs : List Loc) (ls : Array Slot), va_P (dC, dI) vwCl [(a, .inl (ka, 325, .inl z0))] H → va_D A [(a, .inl (ka, 325, .inl z0))] → va_S A s.heap H locs → lv_has ls 4 [] → W p l e R s m args below meth c H locs cells slots Q (F0 m 20 ls [])) : ∀ z : Nat, (∀ (v2 : Int32) (v3 : Int32) (z0 : Nat → Int32) (H : Heap) (locs : List Loc) (ls : Array Slot), gi v2 0 599 → gi v3 325 325 → 1199 + (-2) * v2.toInt < (z : Int) → va_P (dC, dI) vwCl [(a, .inl (ka, 325, .inl z0))] H → va_D A [(a, .inl (ka, 325, .inl z0))] → va_S A s.heap H locs → lv_has ls 4 [(0, .ref a), (1, .int p1), (2, .int v2), (3, .int v3)] → W p l e R s m args below meth c H locs cells slots Q (F0 m 5 ls [])) := by
  intro z
  induction z with
  | zero =>
    intro v2 v3 z0 H locs ls gv2 gv3 hmu hP hD hS hl
    exact absurd hmu (by have hv21 := gv2.1; have hv22 := gv2.2; omega)
  | succ z ih =>
      intro v2 v3 z0 H locs ls gv2 gv3 hmu hP hD hS hl
      refine lv_iload_n hx hb (dk_at dkJ7_fill_53178 5 rfl) rfl (lv_at hl 2 rfl) ?_
      refine lv_iload_n hx hb (dk_at dkJ7_fill_53178 6 rfl) rfl (lv_at hl 3 rfl) ?_
      refine lv_icmp_ge (tgt := 20) hx hb (dk_at dkJ7_fill_53178 7 rfl) (by decide) (fun c_84 => ?_) (fun c_84 => ?_)
      · have g_85 : gi v2 325 599 := gi_le_r c_84 gv3 gv2
        exact kr20 z0 _ _ _ hP hD hS (lv_sub hl [] rfl)
      · have g_86 : gi v2 0 324 := gi_lt_l (Int32.not_le.mp c_84) gv2 gv3 (by decide)
        refine lv_aload_n hx hb (dk_at dkJ7_fill_53178 8 rfl) rfl (lv_at hl 0 rfl) ?_
        refine lv_iload_n hx hb (dk_at dkJ7_fill_53178 9 rfl) rfl (lv_at hl 2 rfl) ?_
        refine lv_iload_n hx hb (dk_at dkJ7_fill_53178 10 rfl) rfl (lv_at hl 1 rfl) ?_
        refine va_iast hx hb hK hP hD hS 0 0 rfl rfl (gi_in g_86 (by decide)) (dk_at dkJ7_fill_53178 11 rfl) (fun H locs hP hD hS => ?_)
        obtain ⟨hP, hD⟩ := gz_both (w := [(a, .inl (ka, 325, .inl (upd z0 (v2 : Int32).toNatClampNeg p1)))]) hP hD
        generalize upd z0 (v2 : Int32).toNatClampNeg p1 = f_87 at hP hD
        obtain ⟨x_88, ex_88⟩ : ∃ y : Int32, y = v2 + 1 := ⟨_, rfl⟩
        have gx_88 : gi x_88 1 325 := gi_add ex_88 g_86 (gi_c 1 1 (by decide)) (by decide)
        refine lv_iinc (v := x_88) (lv' := [(2, .int x_88), (0, .ref a), (1, .int p1), (3, .int v3)]) hx hb (dk_at dkJ7_fill_53178 12 rfl) hl (k := 2) rfl (by rw [ex_88]; rfl) (by decide) rfl (fun ls hl => ?_)
        refine lv_goto (tgt := 5) hx hb (dk_at dkJ7_fill_53178 13 rfl) (by decide) ?_
        exact ih x_88 v3 f_87 _ _ _ (gi_w gx_88 (by decide)) gv3 (by have av2 := gv2.1; have bv2 := gv2.2; have qgx_88 := gx_88.1; have rgx_88 := gx_88.2; have igx_88 : x_88.toInt = v2.toInt + 1 := (by have hc1 : (1 : Int32).toInt = 1 := (by decide); have h9 := gi_addI ex_88 (by have h1 := g_86.1; have h2 := (gi_c 1 1 (by decide)).1; have h3 := g_86.2; have h4 := (gi_c 1 1 (by decide)).2; omega) (by have h1 := g_86.1; have h2 := (gi_c 1 1 (by decide)).1; have h3 := g_86.2; have h4 := (gi_c 1 1 (by decide)).2; omega); rw [hc1] at h9; exact h9); have qgv2 := g_86.1; have rgv2 := g_86.2; omega) hP hD hS (lv_sub hl [1, 2, 0, 3] rfl)
abbrev pb_sJ7_fill325 (dC : Nat → ClassId) (dI : Nat → Nat → Nat) (A9 : Nat → Prop) (a : Nat) (ka : ClassId) (fa : Nat → Int32) (p1 : Int32) (z0 : Nat → Int32) (t : State) : Prop := va_P (dC, dI) vwCl [(a, .inl (ka, 325, .inl z0))] t.heap ∧ va_D A9 [(a, .inl (ka, 325, .inl z0))]
set_option maxHeartbeats 4000000 in
set_option maxRecDepth 100000 in
theorem sJ7_fill325 (l : Launch) (dC : Nat → ClassId) (dI : Nat → Nat → Nat) (sz : Nat) (a : Nat) (ka : ClassId) (fa : Nat → Int32) (p1 : Int32)  : Met l yJ7_fill_53178 (.code yJ7_fill_53178 cJ7_fill_53178 4 none :: wsGA) ({ frames := 0, cells := 0, slots := 0, locals := 0 }) (va_Pc [.ref a, .int p1] (fun U => U.heap.size = sz ∧ va_P (dC, dI) vwCl [(a, .inl (ka, 325, .inl fa))] U.heap ∧ va_K (dC, dI) vwCl [(ka, .int)] U ∧ va_D (fun _ => True) [(a, .inl (ka, 325, .inl fa))] ∧ nzA U)) (va_Qv (fun (u : Unit) => True) (fun _ t => ∃ (z0 : Nat → Int32), pb_sJ7_fill325 dC dI (va_A [(a, .inl (ka, 325, .inl fa))] sz) a ka fa p1 z0 t) (va_A [(a, .inl (ka, 325, .inl fa))] sz)) 0 0 (va_A [(a, .inl (ka, 325, .inl fa))] sz) := by
  refine Met.ofW (cc := cJ7_fill_53178) (maxL := 4) (ret := none) (by decide) rfl ?_
  intro p e s m args below meth c s₁ B hml hv
  obtain ⟨rfl, hsz, hP, hK, hD0, hz⟩ := hv
  have hx := B.exec
  have hb := B.bytes
  have hr := B.returns
  have hts := atoms_spec (ws := (.code yJ7_fill_53178 cJ7_fill_53178 4 none :: wsGA)) B.pre
  have hown : s.vm.findClass RJ7 = some m.cls := findClass_of_methodNamed B.named
  have hlocks := B.notSynchronized
  subst hsz
  have hD := hD0.self (sz := s.heap.size)
  generalize hAe : va_A [(a, .inl (ka, 325, .inl fa))] s.heap.size = A at hD ⊢
  have hA : ∀ q : Nat, s.heap.size ≤ q → A q := fun q h => by rw [← hAe]; exact Or.inr h
  have hS : va_S A s.heap s.heap [] := va_S.rf
  have hl := lv_entry ([.ref a, .int p1]) (n := 4) (Nat.le_of_ble_eq_true rfl)
  rw [lg_entry_eq]
  generalize (lg_sl ([.ref a, .int p1]) ++ List.replicate (4 - (lg_sl ([.ref a, .int p1])).length) Slot.unset).toArray = ls at hl ⊢
  have hl : lv_has ls 4 [(0, .ref a), (1, .int p1)] := hl
  refine lv_iconst (v := 0) hx hb (dk_at dkJ7_fill_53178 0 rfl) (by decide) ?_
  refine lv_istore_n (lv' := [(2, .int 0), (0, .ref a), (1, .int p1)]) hx hb (dk_at dkJ7_fill_53178 1 rfl) rfl hl (by decide) rfl (fun ls hl => ?_)
  refine lv_aload_n hx hb (dk_at dkJ7_fill_53178 2 rfl) rfl (lv_at hl 1 rfl) ?_
  refine va_alen (v := 325) hx hb hK hP 0 0 rfl rfl rfl (dk_at dkJ7_fill_53178 3 rfl) ?_
  refine lv_istore_n (lv' := [(3, .int 325), (2, .int 0), (0, .ref a), (1, .int p1)]) hx hb (dk_at dkJ7_fill_53178 4 rfl) rfl hl (by decide) rfl (fun ls hl => ?_)
  refine (lp_sJ7_fill325 a ka fa p1  hx hb hml hown hts hK hz hA (Nat.le_of_ble_eq_true rfl) (Nat.le_of_ble_eq_true rfl) (Nat.zero_le _) (Nat.zero_le _) (fun z0 H locs ls hP hD hS hl => ?_) 1212) 0 325 fa _ _ _ (gi_w (gi_c 0 0 (by decide)) (by decide)) (gi_c 325 325 (by decide)) (by have k0 : (0 : Int32).toInt = 0 := (by decide); omega) hP hD hS (lv_sub hl [2, 3, 1, 0] rfl)
  · skip
    exact W.vret hx hb hr (fun t ht hW => ⟨⟨(), rfl, trivial, z0, by rw [ht]; exact hP, hD⟩, hS.F ht⟩) hS.2.2 (dk_at dkJ7_fill_53178 14 rfl)
set_option maxHeartbeats 4000000 in
set_option maxRecDepth 100000 in
theorem lp_sJ7_fill3575 {p : Program} {l : Launch} {e : Env} {R : Room} {s : State} {m : MethodId} {args : Array Value} {below : List Frame} {meth : Method} {c : Code} {Q : State → Prop} {A : Nat → Prop} {cells slots : Nat} {dC : Nat → ClassId} {dI : Nat → Nat → Nat} (a : Nat) (ka : ClassId) (fa : Nat → Int32) (p1 : Int32)  (hx : p.tables.exec = Jvm.exec) (hb : c.code = cJ7_fill_53178) (hml : c.maxLocals = 4) (hown : s.vm.findClass RJ7 = some m.cls) (hts : ∀ w ∈ ((.code yJ7_fill_53178 cJ7_fill_53178 4 none :: wsGA) : List Cond), w.before args s = true) (hK : va_K (dC, dI) vwCl [(ka, .int)] s) (hz : nzA s) (hA : ∀ q : Nat, s.heap.size ≤ q → A q) (hRf : 0 ≤ R.frames) (hRl : 0 ≤ R.locals) (hRc : cells ≤ R.cells) (hRs : slots ≤ R.slots) (kr20 : ∀ (z0 : Nat → Int32) (H : Heap) (locs : List Loc) (ls : Array Slot), va_P (dC, dI) vwCl [(a, .inl (ka, 3575, .inl z0))] H → va_D A [(a, .inl (ka, 3575, .inl z0))] → va_S A s.heap H locs → lv_has ls 4 [] → W p l e R s m args below meth c H locs cells slots Q (F0 m 20 ls [])) : ∀ z : Nat, (∀ (v2 : Int32) (v3 : Int32) (z0 : Nat → Int32) (H : Heap) (locs : List Loc) (ls : Array Slot), gi v2 0 3575 → gi v3 3575 3575 → 7151 + (-2) * v2.toInt < (z : Int) → va_P (dC, dI) vwCl [(a, .inl (ka, 3575, .inl z0))] H → va_D A [(a, .inl (ka, 3575, .inl z0))] → va_S A s.heap H locs → lv_has ls 4 [(0, .ref a), (1, .int p1), (2, .int v2), (3, .int v3)] → W p l e R s m args below meth c H locs cells slots Q (F0 m 5 ls [])) := by
  intro z
  induction z with
  | zero =>
    intro v2 v3 z0 H locs ls gv2 gv3 hmu hP hD hS hl
    exact absurd hmu (by have hv21 := gv2.1; have hv22 := gv2.2; omega)
  | succ z ih =>
      intro v2 v3 z0 H locs ls gv2 gv3 hmu hP hD hS hl
      refine lv_iload_n hx hb (dk_at dkJ7_fill_53178 5 rfl) rfl (lv_at hl 2 rfl) ?_
      refine lv_iload_n hx hb (dk_at dkJ7_fill_53178 6 rfl) rfl (lv_at hl 3 rfl) ?_
      refine lv_icmp_ge (tgt := 20) hx hb (dk_at dkJ7_fill_53178 7 rfl) (by decide) (fun c_111 => ?_) (fun c_111 => ?_)
      · have g_112 : gi v2 3575 3575 := gi_le_r c_111 gv3 gv2
        exact kr20 z0 _ _ _ hP hD hS (lv_sub hl [] rfl)
      · have g_113 : gi v2 0 3574 := gi_lt_l (Int32.not_le.mp c_111) gv2 gv3 (by decide)
        refine lv_aload_n hx hb (dk_at dkJ7_fill_53178 8 rfl) rfl (lv_at hl 0 rfl) ?_
        refine lv_iload_n hx hb (dk_at dkJ7_fill_53178 9 rfl) rfl (lv_at hl 2 rfl) ?_
        refine lv_iload_n hx hb (dk_at dkJ7_fill_53178 10 rfl) rfl (lv_at hl 1 rfl) ?_
        refine va_iast hx hb hK hP hD hS 0 0 rfl rfl (gi_in g_113 (by decide)) (dk_at dkJ7_fill_53178 11 rfl) (fun H locs hP hD hS => ?_)
        obtain ⟨hP, hD⟩ := gz_both (w := [(a, .inl (ka, 3575, .inl (upd z0 (v2 : Int32).toNatClampNeg p1)))]) hP hD
        generalize upd z0 (v2 : Int32).toNatClampNeg p1 = f_114 at hP hD
        obtain ⟨x_115, ex_115⟩ : ∃ y : Int32, y = v2 + 1 := ⟨_, rfl⟩
        have gx_115 : gi x_115 1 3575 := gi_add ex_115 g_113 (gi_c 1 1 (by decide)) (by decide)
        refine lv_iinc (v := x_115) (lv' := [(2, .int x_115), (0, .ref a), (1, .int p1), (3, .int v3)]) hx hb (dk_at dkJ7_fill_53178 12 rfl) hl (k := 2) rfl (by rw [ex_115]; rfl) (by decide) rfl (fun ls hl => ?_)
        refine lv_goto (tgt := 5) hx hb (dk_at dkJ7_fill_53178 13 rfl) (by decide) ?_
        exact ih x_115 v3 f_114 _ _ _ (gi_w gx_115 (by decide)) gv3 (by have av2 := gv2.1; have bv2 := gv2.2; have qgx_115 := gx_115.1; have rgx_115 := gx_115.2; have igx_115 : x_115.toInt = v2.toInt + 1 := (by have hc1 : (1 : Int32).toInt = 1 := (by decide); have h9 := gi_addI ex_115 (by have h1 := g_113.1; have h2 := (gi_c 1 1 (by decide)).1; have h3 := g_113.2; have h4 := (gi_c 1 1 (by decide)).2; omega) (by have h1 := g_113.1; have h2 := (gi_c 1 1 (by decide)).1; have h3 := g_113.2; have h4 := (gi_c 1 1 (by decide)).2; omega); rw [hc1] at h9; exact h9); have qgv2 := g_113.1; have rgv2 := g_113.2; omega) hP hD hS (lv_sub hl [1, 2, 0, 3] rfl)
abbrev pb_sJ7_fill3575 (dC : Nat → ClassId) (dI : Nat → Nat → Nat) (A9 : Nat → Prop) (a : Nat) (ka : ClassId) (fa : Nat → Int32) (p1 : Int32) (z0 : Nat → Int32) (t : State) : Prop := va_P (dC, dI) vwCl [(a, .inl (ka, 3575, .inl z0))] t.heap ∧ va_D A9 [(a, .inl (ka, 3575, .inl z0))]
set_option maxHeartbeats 4000000 in
set_option maxRecDepth 100000 in
theorem sJ7_fill3575 (l : Launch) (dC : Nat → ClassId) (dI : Nat → Nat → Nat) (sz : Nat) (a : Nat) (ka : ClassId) (fa : Nat → Int32) (p1 : Int32)  : Met l yJ7_fill_53178 (.code yJ7_fill_53178 cJ7_fill_53178 4 none :: wsGA) ({ frames := 0, cells := 0, slots := 0, locals := 0 }) (va_Pc [.ref a, .int p1] (fun U => U.heap.size = sz ∧ va_P (dC, dI) vwCl [(a, .inl (ka, 3575, .inl fa))] U.heap ∧ va_K (dC, dI) vwCl [(ka, .int)] U ∧ va_D (fun _ => True) [(a, .inl (ka, 3575, .inl fa))] ∧ nzA U)) (va_Qv (fun (u : Unit) => True) (fun _ t => ∃ (z0 : Nat → Int32), pb_sJ7_fill3575 dC dI (va_A [(a, .inl (ka, 3575, .inl fa))] sz) a ka fa p1 z0 t) (va_A [(a, .inl (ka, 3575, .inl fa))] sz)) 0 0 (va_A [(a, .inl (ka, 3575, .inl fa))] sz) := by
  refine Met.ofW (cc := cJ7_fill_53178) (maxL := 4) (ret := none) (by decide) rfl ?_
  intro p e s m args below meth c s₁ B hml hv
  obtain ⟨rfl, hsz, hP, hK, hD0, hz⟩ := hv
  have hx := B.exec
  have hb := B.bytes
  have hr := B.returns
  have hts := atoms_spec (ws := (.code yJ7_fill_53178 cJ7_fill_53178 4 none :: wsGA)) B.pre
  have hown : s.vm.findClass RJ7 = some m.cls := findClass_of_methodNamed B.named
  have hlocks := B.notSynchronized
  subst hsz
  have hD := hD0.self (sz := s.heap.size)
  generalize hAe : va_A [(a, .inl (ka, 3575, .inl fa))] s.heap.size = A at hD ⊢
  have hA : ∀ q : Nat, s.heap.size ≤ q → A q := fun q h => by rw [← hAe]; exact Or.inr h
  have hS : va_S A s.heap s.heap [] := va_S.rf
  have hl := lv_entry ([.ref a, .int p1]) (n := 4) (Nat.le_of_ble_eq_true rfl)
  rw [lg_entry_eq]
  generalize (lg_sl ([.ref a, .int p1]) ++ List.replicate (4 - (lg_sl ([.ref a, .int p1])).length) Slot.unset).toArray = ls at hl ⊢
  have hl : lv_has ls 4 [(0, .ref a), (1, .int p1)] := hl
  refine lv_iconst (v := 0) hx hb (dk_at dkJ7_fill_53178 0 rfl) (by decide) ?_
  refine lv_istore_n (lv' := [(2, .int 0), (0, .ref a), (1, .int p1)]) hx hb (dk_at dkJ7_fill_53178 1 rfl) rfl hl (by decide) rfl (fun ls hl => ?_)
  refine lv_aload_n hx hb (dk_at dkJ7_fill_53178 2 rfl) rfl (lv_at hl 1 rfl) ?_
  refine va_alen (v := 3575) hx hb hK hP 0 0 rfl rfl rfl (dk_at dkJ7_fill_53178 3 rfl) ?_
  refine lv_istore_n (lv' := [(3, .int 3575), (2, .int 0), (0, .ref a), (1, .int p1)]) hx hb (dk_at dkJ7_fill_53178 4 rfl) rfl hl (by decide) rfl (fun ls hl => ?_)
  refine (lp_sJ7_fill3575 a ka fa p1  hx hb hml hown hts hK hz hA (Nat.le_of_ble_eq_true rfl) (Nat.le_of_ble_eq_true rfl) (Nat.zero_le _) (Nat.zero_le _) (fun z0 H locs ls hP hD hS hl => ?_) 7164) 0 3575 fa _ _ _ (gi_w (gi_c 0 0 (by decide)) (by decide)) (gi_c 3575 3575 (by decide)) (by have k0 : (0 : Int32).toInt = 0 := (by decide); omega) hP hD hS (lv_sub hl [2, 3, 1, 0] rfl)
  · skip
    exact W.vret hx hb hr (fun t ht hW => ⟨⟨(), rfl, trivial, z0, by rw [ht]; exact hP, hD⟩, hS.F ht⟩) hS.2.2 (dk_at dkJ7_fill_53178 14 rfl)
