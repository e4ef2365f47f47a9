theorem dX12_count_0 : decode cX12_count 0 = .ok (.iload_n 1, 1) := by decide +kernel
theorem dX12_count_1 : decode cX12_count 1 = .ok (.tableswitch 114 0 10 #[59, 64, 69, 74, 79, 84, 89, 94, 99, 104, 109], 59) := by decide +kernel
theorem dX12_count_60 : decode cX12_count 60 = .ok (.aload_n 0, 1) := by decide +kernel
theorem dX12_count_61 : decode cX12_count 61 = .ok (.getfield 117, 3) := by decide +kernel
theorem dX12_count_64 : decode cX12_count 64 = .ok (.ireturn, 1) := by decide +kernel
theorem dX12_count_65 : decode cX12_count 65 = .ok (.aload_n 0, 1) := by decide +kernel
theorem dX12_count_66 : decode cX12_count 66 = .ok (.getfield 120, 3) := by decide +kernel
theorem dX12_count_69 : decode cX12_count 69 = .ok (.ireturn, 1) := by decide +kernel
theorem dX12_count_70 : decode cX12_count 70 = .ok (.aload_n 0, 1) := by decide +kernel
theorem dX12_count_71 : decode cX12_count 71 = .ok (.getfield 123, 3) := by decide +kernel
theorem dX12_count_74 : decode cX12_count 74 = .ok (.ireturn, 1) := by decide +kernel
theorem dX12_count_75 : decode cX12_count 75 = .ok (.aload_n 0, 1) := by decide +kernel
theorem dX12_count_76 : decode cX12_count 76 = .ok (.getfield 138, 3) := by decide +kernel
theorem dX12_count_79 : decode cX12_count 79 = .ok (.ireturn, 1) := by decide +kernel
theorem dX12_count_80 : decode cX12_count 80 = .ok (.aload_n 0, 1) := by decide +kernel
theorem dX12_count_81 : decode cX12_count 81 = .ok (.getfield 141, 3) := by decide +kernel
theorem dX12_count_84 : decode cX12_count 84 = .ok (.ireturn, 1) := by decide +kernel
theorem dX12_count_85 : decode cX12_count 85 = .ok (.aload_n 0, 1) := by decide +kernel
theorem dX12_count_86 : decode cX12_count 86 = .ok (.getfield 144, 3) := by decide +kernel
theorem dX12_count_89 : decode cX12_count 89 = .ok (.ireturn, 1) := by decide +kernel
theorem dX12_count_90 : decode cX12_count 90 = .ok (.aload_n 0, 1) := by decide +kernel
theorem dX12_count_91 : decode cX12_count 91 = .ok (.getfield 126, 3) := by decide +kernel
theorem dX12_count_94 : decode cX12_count 94 = .ok (.ireturn, 1) := by decide +kernel
theorem dX12_count_95 : decode cX12_count 95 = .ok (.aload_n 0, 1) := by decide +kernel
theorem dX12_count_96 : decode cX12_count 96 = .ok (.getfield 99, 3) := by decide +kernel
theorem dX12_count_99 : decode cX12_count 99 = .ok (.ireturn, 1) := by decide +kernel
theorem dX12_count_100 : decode cX12_count 100 = .ok (.aload_n 0, 1) := by decide +kernel
theorem dX12_count_101 : decode cX12_count 101 = .ok (.getfield 289, 3) := by decide +kernel
theorem dX12_count_104 : decode cX12_count 104 = .ok (.ireturn, 1) := by decide +kernel
theorem dX12_count_105 : decode cX12_count 105 = .ok (.aload_n 0, 1) := by decide +kernel
theorem dX12_count_106 : decode cX12_count 106 = .ok (.getfield 132, 3) := by decide +kernel
theorem dX12_count_109 : decode cX12_count 109 = .ok (.ireturn, 1) := by decide +kernel
theorem dX12_count_110 : decode cX12_count 110 = .ok (.aload_n 0, 1) := by decide +kernel
theorem dX12_count_111 : decode cX12_count 111 = .ok (.getfield 135, 3) := by decide +kernel
theorem dX12_count_114 : decode cX12_count 114 = .ok (.ireturn, 1) := by decide +kernel
theorem dX12_count_115 : decode cX12_count 115 = .ok (.iconst (-1), 1) := by decide +kernel
theorem dX12_count_116 : decode cX12_count 116 = .ok (.ireturn, 1) := by decide +kernel
noncomputable def fX12_count (mi : Nat → Int32) (p1 : Int32) : Int32 := (if p1 = (0 : Int32) then (mi 0) else (if p1 = (1 : Int32) then (mi 1) else (if p1 = (2 : Int32) then (mi 2) else (if p1 = (3 : Int32) then (mi 7) else (if p1 = (4 : Int32) then (mi 10) else (if p1 = (5 : Int32) then (mi 17) else (if p1 = (6 : Int32) then (mi 3) else (if p1 = (7 : Int32) then (mi 26) else (if p1 = (8 : Int32) then (mi 56) else (if p1 = (9 : Int32) then (mi 5) else (if p1 = (10 : Int32) then (mi 6) else (-1 : Int32))))))))))))
set_option maxHeartbeats 4000000 in
set_option maxRecDepth 100000 in
theorem sX12_count (l : Launch) (dC : Nat → ClassId) (dI : Nat → Nat → Nat) (h0 : Nat) (mi : Nat → Int32) (mr : Nat → Nat) (km : Nat → ClassId) (fm_trust : Nat → Int32) (fm_letter : Nat → Int32) (fm_reportPlace : Nat → Int32) (fm_reportKind : Nat → Int32) (fm_struck : Nat → Int32) (fm_reportMonth : Nat → Int32) (fm_reportDay : Nat → Int32) (fm_reportKnown : Nat → Int32) (fm_deedMonth : Nat → Int32) (fm_deedDay : Nat → Int32) (fm_deedLong : Nat → Int32) (fm_deedKind : Nat → Int32) (fm_kept : Nat → Int32) (fm_tape : Nat → Int32) (fm_must : Nat → Int32) (fm_least : Nat → Int32) (fm_pin : Nat → Int32) (fm_ways : Nat → Int32) (fm_verdict : Nat → Int32) (fm_row : Nat → Int32) (fm_official : Nat → Int32) (fm_aside : Nat → Int32) (fm_worth : Nat → Int32) (fm_out : Nat → Int32) (p1 : Int32) (gmi_0 : gi (mi 0) 0 24) (gmi_1 : gi (mi 1) 0 5) (gmi_2 : gi (mi 2) 0 5) (gmi_4 : gi (mi 4) 0 1) (gmi_7 : gi (mi 7) 0 6) (gmi_10 : gi (mi 10) 0 24) (gmi_17 : gi (mi 17) 0 8) (gmi_23 : gi (mi 23) 0 300) (gmi_24 : gi (mi 24) 0 1) (gmi_26 : gi (mi 26) 0 1600) (gmi_29 : gi (mi 29) 0 1600) (gmi_30 : gi (mi 30) 0 1600) (gmi_33 : gi (mi 33) 0 1) (gmi_37 : gi (mi 37) 0 1) (gmi_41 : gi (mi 41) 0 24) (gmi_50 : gi (mi 50) 0 1) (gmi_51 : gi (mi 51) 0 1) (gmi_56 : gi (mi 56) 0 80) : Met l yX12_count (.code yX12_count cX12_count 2 (some .int) :: wsGB) ({ frames := 0, cells := 0, slots := 0, locals := 0 }) (va_Pc [.ref h0, .int p1] (fun U => va_P (dC, dI) vwCl (MWn h0 mr km (mi 0) (mi 1) (mi 2) (mi 3) (mi 4) (mi 5) (mi 6) (mi 7) (mi 10) (mi 17) (mi 23) (mi 24) (mi 26) (mi 27) (mi 28) (mi 29) (mi 30) (mi 31) (mi 32) (mi 33) (mi 37) (mi 41) (mi 42) (mi 43) (mi 44) (mi 45) (mi 47) (mi 48) (mi 49) (mi 50) (mi 51) (mi 54) (mi 56) fm_trust fm_letter fm_reportPlace fm_reportKind fm_struck fm_reportMonth fm_reportDay fm_reportKnown fm_deedMonth fm_deedDay fm_deedLong fm_deedKind fm_kept fm_tape fm_must fm_least fm_pin fm_ways fm_verdict fm_row fm_official fm_aside fm_worth fm_out) U.heap ∧ va_K (dC, dI) vwCl (MT km) U)) (va_Qi (fun (r : Int32) (u : Unit) => (gi r (-2147483648) 2147483647) ∧ r = fX12_count mi p1) (fun _ _ => True) (fun _ => False)) 0 0 (fun _ => False) := by
  refine Met.ofW (cc := cX12_count) (maxL := 2) (ret := (some .int)) (by decide) rfl ?_
  intro p e s m args below meth c s₁ B hml hv
  obtain ⟨rfl, hP, hK⟩ := hv
  have hx := B.exec
  have hb := B.bytes
  have hr := B.returns
  have hts := atoms_spec (ws := (.code yX12_count cX12_count 2 (some .int) :: wsGB)) B.pre
  have hown : s.vm.findClass RX12 = some m.cls := findClass_of_methodNamed B.named
  have hlocks := B.notSynchronized
  have hS : va_S (fun _ => False) s.heap s.heap [] := va_S.rf
  have hl := lv_entry ([.ref h0, .int p1]) (n := 2) (Nat.le_of_ble_eq_true rfl)
  rw [lg_entry_eq]
  generalize (lg_sl ([.ref h0, .int p1]) ++ List.replicate (2 - (lg_sl ([.ref h0, .int p1])).length) Slot.unset).toArray = ls at hl ⊢
  have hl : lv_has ls 2 [(0, .ref h0), (1, .int p1)] := hl
  obtain ⟨RES, hF⟩ : ∃ R9, fX12_count mi p1 = R9 := ⟨_, rfl⟩
  have hR9 := hF
  refine lv_iload_n hx hb dX12_count_0 rfl (lv_at hl 1 rfl) ?_
  rcases gz_sw p1 10 (Nat.le_of_ble_eq_true rfl) with hj_2 | ⟨j_2, hj_2, ej_2⟩
  · refine lv_tableOut (tgt := 115) hx hb dX12_count_1 hj_2 (by decide) ?_
    have hF := gf_neg (fun h9 => by have h8 := congrArg Int32.toInt h9; rw [show (0 : Int32).toInt = 0 from by decide] at h8; omega) hF
    have hF := gf_neg (fun h9 => by have h8 := congrArg Int32.toInt h9; rw [show (1 : Int32).toInt = 1 from by decide] at h8; omega) hF
    have hF := gf_neg (fun h9 => by have h8 := congrArg Int32.toInt h9; rw [show (2 : Int32).toInt = 2 from by decide] at h8; omega) hF
    have hF := gf_neg (fun h9 => by have h8 := congrArg Int32.toInt h9; rw [show (3 : Int32).toInt = 3 from by decide] at h8; omega) hF
    have hF := gf_neg (fun h9 => by have h8 := congrArg Int32.toInt h9; rw [show (4 : Int32).toInt = 4 from by decide] at h8; omega) hF
    have hF := gf_neg (fun h9 => by have h8 := congrArg Int32.toInt h9; rw [show (5 : Int32).toInt = 5 from by decide] at h8; omega) hF
    have hF := gf_neg (fun h9 => by have h8 := congrArg Int32.toInt h9; rw [show (6 : Int32).toInt = 6 from by decide] at h8; omega) hF
    have hF := gf_neg (fun h9 => by have h8 := congrArg Int32.toInt h9; rw [show (7 : Int32).toInt = 7 from by decide] at h8; omega) hF
    have hF := gf_neg (fun h9 => by have h8 := congrArg Int32.toInt h9; rw [show (8 : Int32).toInt = 8 from by decide] at h8; omega) hF
    have hF := gf_neg (fun h9 => by have h8 := congrArg Int32.toInt h9; rw [show (9 : Int32).toInt = 9 from by decide] at h8; omega) hF
    have hF := gf_neg (fun h9 => by have h8 := congrArg Int32.toInt h9; rw [show (10 : Int32).toInt = 10 from by decide] at h8; omega) hF
    refine lv_iconst (v := (-1)) hx hb dX12_count_115 (by decide) ?_
    exact W.iret (v := (-1)) hx hb hr (fun t ht hW => ⟨⟨(-1), (), rfl, ⟨(gi_any (-1)), hF.trans hR9.symm⟩, trivial⟩, hS.F ht⟩) hS.2.2 dX12_count_116
  · rcases (show j_2 = 0 ∨ j_2 = 1 ∨ j_2 = 2 ∨ j_2 = 3 ∨ j_2 = 4 ∨ j_2 = 5 ∨ j_2 = 6 ∨ j_2 = 7 ∨ j_2 = 8 ∨ j_2 = 9 ∨ j_2 = 10 by omega) with rfl | rfl | rfl | rfl | rfl | rfl | rfl | rfl | rfl | rfl | rfl
    · refine lv_tableIn (off := 59) (tgt := 60) hx hb dX12_count_1 (by rw [ej_2]; decide +kernel) (by rw [ej_2]; decide +kernel) (by rw [ej_2]; decide +kernel) (by decide) ?_
      have hF := gf_pos (by rw [ej_2]; rfl) hF
      refine lv_aload_n hx hb dX12_count_60 rfl (lv_at hl 0 rfl) ?_
      refine va_get (D := (dC, dI)) (ci := 12) (v := .int (mi 0)) (C := RX12) (T := TX12) (N := 57) hx hb hts (fun w h => List.mem_cons_of_mem _ (jnGB_X12 w h)) hown hK hP 0 rfl rfl 0 (by decide) (hts _ (List.mem_cons_of_mem _ mGB_103)) (fun _ h9 => h9) rfl dX12_count_61 ?_
      exact W.iret (v := (mi 0)) hx hb hr (fun t ht hW => ⟨⟨(mi 0), (), rfl, ⟨(gi_any (mi 0)), hF.trans hR9.symm⟩, trivial⟩, hS.F ht⟩) hS.2.2 dX12_count_64
    · refine lv_tableIn (off := 64) (tgt := 65) hx hb dX12_count_1 (by rw [ej_2]; decide +kernel) (by rw [ej_2]; decide +kernel) (by rw [ej_2]; decide +kernel) (by decide) ?_
      have hF := gf_neg (by rw [ej_2]; decide) hF
      have hF := gf_pos (by rw [ej_2]; rfl) hF
      refine lv_aload_n hx hb dX12_count_65 rfl (lv_at hl 0 rfl) ?_
      refine va_get (D := (dC, dI)) (ci := 12) (v := .int (mi 1)) (C := RX12) (T := TX12) (N := 57) hx hb hts (fun w h => List.mem_cons_of_mem _ (jnGB_X12 w h)) hown hK hP 0 rfl rfl 1 (by decide) (hts _ (List.mem_cons_of_mem _ mGB_104)) (fun _ h9 => h9) rfl dX12_count_66 ?_
      exact W.iret (v := (mi 1)) hx hb hr (fun t ht hW => ⟨⟨(mi 1), (), rfl, ⟨(gi_any (mi 1)), hF.trans hR9.symm⟩, trivial⟩, hS.F ht⟩) hS.2.2 dX12_count_69
    · refine lv_tableIn (off := 69) (tgt := 70) hx hb dX12_count_1 (by rw [ej_2]; decide +kernel) (by rw [ej_2]; decide +kernel) (by rw [ej_2]; decide +kernel) (by decide) ?_
      have hF := gf_neg (by rw [ej_2]; decide) hF
      have hF := gf_neg (by rw [ej_2]; decide) hF
      have hF := gf_pos (by rw [ej_2]; rfl) hF
      refine lv_aload_n hx hb dX12_count_70 rfl (lv_at hl 0 rfl) ?_
      refine va_get (D := (dC, dI)) (ci := 12) (v := .int (mi 2)) (C := RX12) (T := TX12) (N := 57) hx hb hts (fun w h => List.mem_cons_of_mem _ (jnGB_X12 w h)) hown hK hP 0 rfl rfl 2 (by decide) (hts _ (List.mem_cons_of_mem _ mGB_105)) (fun _ h9 => h9) rfl dX12_count_71 ?_
      exact W.iret (v := (mi 2)) hx hb hr (fun t ht hW => ⟨⟨(mi 2), (), rfl, ⟨(gi_any (mi 2)), hF.trans hR9.symm⟩, trivial⟩, hS.F ht⟩) hS.2.2 dX12_count_74
    · refine lv_tableIn (off := 74) (tgt := 75) hx hb dX12_count_1 (by rw [ej_2]; decide +kernel) (by rw [ej_2]; decide +kernel) (by rw [ej_2]; decide +kernel) (by decide) ?_
      have hF := gf_neg (by rw [ej_2]; decide) hF
      have hF := gf_neg (by rw [ej_2]; decide) hF
      have hF := gf_neg (by rw [ej_2]; decide) hF
      have hF := gf_pos (by rw [ej_2]; rfl) hF
      refine lv_aload_n hx hb dX12_count_75 rfl (lv_at hl 0 rfl) ?_
      refine va_get (D := (dC, dI)) (ci := 12) (v := .int (mi 7)) (C := RX12) (T := TX12) (N := 57) hx hb hts (fun w h => List.mem_cons_of_mem _ (jnGB_X12 w h)) hown hK hP 0 rfl rfl 7 (by decide) (hts _ (List.mem_cons_of_mem _ mGB_110)) (fun _ h9 => h9) rfl dX12_count_76 ?_
      exact W.iret (v := (mi 7)) hx hb hr (fun t ht hW => ⟨⟨(mi 7), (), rfl, ⟨(gi_any (mi 7)), hF.trans hR9.symm⟩, trivial⟩, hS.F ht⟩) hS.2.2 dX12_count_79
    · refine lv_tableIn (off := 79) (tgt := 80) hx hb dX12_count_1 (by rw [ej_2]; decide +kernel) (by rw [ej_2]; decide +kernel) (by rw [ej_2]; decide +kernel) (by decide) ?_
      have hF := gf_neg (by rw [ej_2]; decide) hF
      have hF := gf_neg (by rw [ej_2]; decide) hF
      have hF := gf_neg (by rw [ej_2]; decide) hF
      have hF := gf_neg (by rw [ej_2]; decide) hF
      have hF := gf_pos (by rw [ej_2]; rfl) hF
      refine lv_aload_n hx hb dX12_count_80 rfl (lv_at hl 0 rfl) ?_
      refine va_get (D := (dC, dI)) (ci := 12) (v := .int (mi 10)) (C := RX12) (T := TX12) (N := 57) hx hb hts (fun w h => List.mem_cons_of_mem _ (jnGB_X12 w h)) hown hK hP 0 rfl rfl 10 (by decide) (hts _ (List.mem_cons_of_mem _ mGB_111)) (fun _ h9 => h9) rfl dX12_count_81 ?_
      exact W.iret (v := (mi 10)) hx hb hr (fun t ht hW => ⟨⟨(mi 10), (), rfl, ⟨(gi_any (mi 10)), hF.trans hR9.symm⟩, trivial⟩, hS.F ht⟩) hS.2.2 dX12_count_84
    · refine lv_tableIn (off := 84) (tgt := 85) hx hb dX12_count_1 (by rw [ej_2]; decide +kernel) (by rw [ej_2]; decide +kernel) (by rw [ej_2]; decide +kernel) (by decide) ?_
      have hF := gf_neg (by rw [ej_2]; decide) hF
      have hF := gf_neg (by rw [ej_2]; decide) hF
      have hF := gf_neg (by rw [ej_2]; decide) hF
      have hF := gf_neg (by rw [ej_2]; decide) hF
      have hF := gf_neg (by rw [ej_2]; decide) hF
      have hF := gf_pos (by rw [ej_2]; rfl) hF
      refine lv_aload_n hx hb dX12_count_85 rfl (lv_at hl 0 rfl) ?_
      refine va_get (D := (dC, dI)) (ci := 12) (v := .int (mi 17)) (C := RX12) (T := TX12) (N := 57) hx hb hts (fun w h => List.mem_cons_of_mem _ (jnGB_X12 w h)) hown hK hP 0 rfl rfl 17 (by decide) (hts _ (List.mem_cons_of_mem _ mGB_112)) (fun _ h9 => h9) rfl dX12_count_86 ?_
      exact W.iret (v := (mi 17)) hx hb hr (fun t ht hW => ⟨⟨(mi 17), (), rfl, ⟨(gi_any (mi 17)), hF.trans hR9.symm⟩, trivial⟩, hS.F ht⟩) hS.2.2 dX12_count_89
    · refine lv_tableIn (off := 89) (tgt := 90) hx hb dX12_count_1 (by rw [ej_2]; decide +kernel) (by rw [ej_2]; decide +kernel) (by rw [ej_2]; decide +kernel) (by decide) ?_
      have hF := gf_neg (by rw [ej_2]; decide) hF
      have hF := gf_neg (by rw [ej_2]; decide) hF
      have hF := gf_neg (by rw [ej_2]; decide) hF
      have hF := gf_neg (by rw [ej_2]; decide) hF
      have hF := gf_neg (by rw [ej_2]; decide) hF
      have hF := gf_neg (by rw [ej_2]; decide) hF
      have hF := gf_pos (by rw [ej_2]; rfl) hF
      refine lv_aload_n hx hb dX12_count_90 rfl (lv_at hl 0 rfl) ?_
      refine va_get (D := (dC, dI)) (ci := 12) (v := .int (mi 3)) (C := RX12) (T := TX12) (N := 57) hx hb hts (fun w h => List.mem_cons_of_mem _ (jnGB_X12 w h)) hown hK hP 0 rfl rfl 3 (by decide) (hts _ (List.mem_cons_of_mem _ mGB_106)) (fun _ h9 => h9) rfl dX12_count_91 ?_
      exact W.iret (v := (mi 3)) hx hb hr (fun t ht hW => ⟨⟨(mi 3), (), rfl, ⟨(gi_any (mi 3)), hF.trans hR9.symm⟩, trivial⟩, hS.F ht⟩) hS.2.2 dX12_count_94
    · refine lv_tableIn (off := 94) (tgt := 95) hx hb dX12_count_1 (by rw [ej_2]; decide +kernel) (by rw [ej_2]; decide +kernel) (by rw [ej_2]; decide +kernel) (by decide) ?_
      have hF := gf_neg (by rw [ej_2]; decide) hF
      have hF := gf_neg (by rw [ej_2]; decide) hF
      have hF := gf_neg (by rw [ej_2]; decide) hF
      have hF := gf_neg (by rw [ej_2]; decide) hF
      have hF := gf_neg (by rw [ej_2]; decide) hF
      have hF := gf_neg (by rw [ej_2]; decide) hF
      have hF := gf_neg (by rw [ej_2]; decide) hF
      have hF := gf_pos (by rw [ej_2]; rfl) hF
      refine lv_aload_n hx hb dX12_count_95 rfl (lv_at hl 0 rfl) ?_
      refine va_get (D := (dC, dI)) (ci := 12) (v := .int (mi 26)) (C := RX12) (T := TX12) (N := 57) hx hb hts (fun w h => List.mem_cons_of_mem _ (jnGB_X12 w h)) hown hK hP 0 rfl rfl 26 (by decide) (hts _ (List.mem_cons_of_mem _ mGB_43)) (fun _ h9 => h9) rfl dX12_count_96 ?_
      exact W.iret (v := (mi 26)) hx hb hr (fun t ht hW => ⟨⟨(mi 26), (), rfl, ⟨(gi_any (mi 26)), hF.trans hR9.symm⟩, trivial⟩, hS.F ht⟩) hS.2.2 dX12_count_99
    · refine lv_tableIn (off := 99) (tgt := 100) hx hb dX12_count_1 (by rw [ej_2]; decide +kernel) (by rw [ej_2]; decide +kernel) (by rw [ej_2]; decide +kernel) (by decide) ?_
      have hF := gf_neg (by rw [ej_2]; decide) hF
      have hF := gf_neg (by rw [ej_2]; decide) hF
      have hF := gf_neg (by rw [ej_2]; decide) hF
      have hF := gf_neg (by rw [ej_2]; decide) hF
      have hF := gf_neg (by rw [ej_2]; decide) hF
      have hF := gf_neg (by rw [ej_2]; decide) hF
      have hF := gf_neg (by rw [ej_2]; decide) hF
      have hF := gf_neg (by rw [ej_2]; decide) hF
      have hF := gf_pos (by rw [ej_2]; rfl) hF
      refine lv_aload_n hx hb dX12_count_100 rfl (lv_at hl 0 rfl) ?_
      refine va_get (D := (dC, dI)) (ci := 12) (v := .int (mi 56)) (C := RX12) (T := TX12) (N := 57) hx hb hts (fun w h => List.mem_cons_of_mem _ (jnGB_X12 w h)) hown hK hP 0 rfl rfl 56 (by decide) (hts _ (List.mem_cons_of_mem _ mGB_219)) (fun _ h9 => h9) rfl dX12_count_101 ?_
      exact W.iret (v := (mi 56)) hx hb hr (fun t ht hW => ⟨⟨(mi 56), (), rfl, ⟨(gi_any (mi 56)), hF.trans hR9.symm⟩, trivial⟩, hS.F ht⟩) hS.2.2 dX12_count_104
    · refine lv_tableIn (off := 104) (tgt := 105) hx hb dX12_count_1 (by rw [ej_2]; decide +kernel) (by rw [ej_2]; decide +kernel) (by rw [ej_2]; decide +kernel) (by decide) ?_
      have hF := gf_neg (by rw [ej_2]; decide) hF
      have hF := gf_neg (by rw [ej_2]; decide) hF
      have hF := gf_neg (by rw [ej_2]; decide) hF
      have hF := gf_neg (by rw [ej_2]; decide) hF
      have hF := gf_neg (by rw [ej_2]; decide) hF
      have hF := gf_neg (by rw [ej_2]; decide) hF
      have hF := gf_neg (by rw [ej_2]; decide) hF
      have hF := gf_neg (by rw [ej_2]; decide) hF
      have hF := gf_neg (by rw [ej_2]; decide) hF
      have hF := gf_pos (by rw [ej_2]; rfl) hF
      refine lv_aload_n hx hb dX12_count_105 rfl (lv_at hl 0 rfl) ?_
      refine va_get (D := (dC, dI)) (ci := 12) (v := .int (mi 5)) (C := RX12) (T := TX12) (N := 57) hx hb hts (fun w h => List.mem_cons_of_mem _ (jnGB_X12 w h)) hown hK hP 0 rfl rfl 5 (by decide) (hts _ (List.mem_cons_of_mem _ mGB_108)) (fun _ h9 => h9) rfl dX12_count_106 ?_
      exact W.iret (v := (mi 5)) hx hb hr (fun t ht hW => ⟨⟨(mi 5), (), rfl, ⟨(gi_any (mi 5)), hF.trans hR9.symm⟩, trivial⟩, hS.F ht⟩) hS.2.2 dX12_count_109
    · refine lv_tableIn (off := 109) (tgt := 110) hx hb dX12_count_1 (by rw [ej_2]; decide +kernel) (by rw [ej_2]; decide +kernel) (by rw [ej_2]; decide +kernel) (by decide) ?_
      have hF := gf_neg (by rw [ej_2]; decide) hF
      have hF := gf_neg (by rw [ej_2]; decide) hF
      have hF := gf_neg (by rw [ej_2]; decide) hF
      have hF := gf_neg (by rw [ej_2]; decide) hF
      have hF := gf_neg (by rw [ej_2]; decide) hF
      have hF := gf_neg (by rw [ej_2]; decide) hF
      have hF := gf_neg (by rw [ej_2]; decide) hF
      have hF := gf_neg (by rw [ej_2]; decide) hF
      have hF := gf_neg (by rw [ej_2]; decide) hF
      have hF := gf_neg (by rw [ej_2]; decide) hF
      have hF := gf_pos (by rw [ej_2]; rfl) hF
      refine lv_aload_n hx hb dX12_count_110 rfl (lv_at hl 0 rfl) ?_
      refine va_get (D := (dC, dI)) (ci := 12) (v := .int (mi 6)) (C := RX12) (T := TX12) (N := 57) hx hb hts (fun w h => List.mem_cons_of_mem _ (jnGB_X12 w h)) hown hK hP 0 rfl rfl 6 (by decide) (hts _ (List.mem_cons_of_mem _ mGB_109)) (fun _ h9 => h9) rfl dX12_count_111 ?_
      exact W.iret (v := (mi 6)) hx hb hr (fun t ht hW => ⟨⟨(mi 6), (), rfl, ⟨(gi_any (mi 6)), hF.trans hR9.symm⟩, trivial⟩, hS.F ht⟩) hS.2.2 dX12_count_114
theorem dX12_early_0 : decode cX12_early 0 = .ok (.aload_n 0, 1) := by decide +kernel
theorem dX12_early_1 : decode cX12_early 1 = .ok (.getfield 129, 3) := by decide +kernel
theorem dX12_early_4 : decode cX12_early 4 = .ok (.ifCond .eq 25, 3) := by decide +kernel
theorem dX12_early_7 : decode cX12_early 7 = .ok (.iload_n 1, 1) := by decide +kernel
theorem dX12_early_8 : decode cX12_early 8 = .ok (.i2l, 1) := by decide +kernel
theorem dX12_early_9 : decode cX12_early 9 = .ok (.lconst 1, 1) := by decide +kernel
theorem dX12_early_10 : decode cX12_early 10 = .ok (.aload_n 0, 1) := by decide +kernel
theorem dX12_early_11 : decode cX12_early 11 = .ok (.getfield 117, 3) := by decide +kernel
theorem dX12_early_14 : decode cX12_early 14 = .ok (.i2l, 1) := by decide +kernel
theorem dX12_early_15 : decode cX12_early 15 = .ok (.invokestatic 102, 3) := by decide +kernel
theorem dX12_early_18 : decode cX12_early 18 = .ok (.ifCond .eq 11, 3) := by decide +kernel
theorem dX12_early_21 : decode cX12_early 21 = .ok (.aload_n 0, 1) := by decide +kernel
theorem dX12_early_22 : decode cX12_early 22 = .ok (.iload_n 1, 1) := by decide +kernel
theorem dX12_early_23 : decode cX12_early 23 = .ok (.invokevirtual 309, 3) := by decide +kernel
theorem dX12_early_26 : decode cX12_early 26 = .ok (.goto 5, 3) := by decide +kernel
theorem dX12_early_29 : decode cX12_early 29 = .ok (.bipush (-2), 2) := by decide +kernel
theorem dX12_early_31 : decode cX12_early 31 = .ok (.ireturn, 1) := by decide +kernel
noncomputable def bfX12_early_31 (mi : Nat → Int32) (p1 : Int32) (s0 : Int32) : Int32 := s0
noncomputable def bfX12_early_29 (mi : Nat → Int32) (p1 : Int32) : Int32 := bfX12_early_31 mi p1 (-2 : Int32)
noncomputable def fX12_early (mi : Nat → Int32) (p1 : Int32) : Int32 := if (mi 4) = (0 : Int32) then (bfX12_early_29 mi p1) else (cal (fun o1 => if o1 = (0 : Int32) then (bfX12_early_29 mi p1) else (cal (fun o2 => bfX12_early_31 mi p1 o2) (fX12_earlyOf mi p1))) (fX12_in (p1.toInt64) (1 : Int64) ((mi 0).toInt64)))
set_option maxHeartbeats 4000000 in
set_option maxRecDepth 100000 in
theorem sX12_early (l : Launch) (dC : Nat → ClassId) (dI : Nat → Nat → Nat) (h0 : Nat) (mi : Nat → Int32) (mr : Nat → Nat) (km : Nat → ClassId) (fm_trust : Nat → Int32) (fm_letter : Nat → Int32) (fm_reportPlace : Nat → Int32) (fm_reportKind : Nat → Int32) (fm_struck : Nat → Int32) (fm_reportMonth : Nat → Int32) (fm_reportDay : Nat → Int32) (fm_reportKnown : Nat → Int32) (fm_deedMonth : Nat → Int32) (fm_deedDay : Nat → Int32) (fm_deedLong : Nat → Int32) (fm_deedKind : Nat → Int32) (fm_kept : Nat → Int32) (fm_tape : Nat → Int32) (fm_must : Nat → Int32) (fm_least : Nat → Int32) (fm_pin : Nat → Int32) (fm_ways : Nat → Int32) (fm_verdict : Nat → Int32) (fm_row : Nat → Int32) (fm_official : Nat → Int32) (fm_aside : Nat → Int32) (fm_worth : Nat → Int32) (fm_out : Nat → Int32) (p1 : Int32) (gmi_0 : gi (mi 0) 0 24) (gmi_1 : gi (mi 1) 0 5) (gmi_2 : gi (mi 2) 0 5) (gmi_4 : gi (mi 4) 0 1) (gmi_7 : gi (mi 7) 0 6) (gmi_10 : gi (mi 10) 0 24) (gmi_17 : gi (mi 17) 0 8) (gmi_23 : gi (mi 23) 0 300) (gmi_24 : gi (mi 24) 0 1) (gmi_26 : gi (mi 26) 0 1600) (gmi_29 : gi (mi 29) 0 1600) (gmi_30 : gi (mi 30) 0 1600) (gmi_33 : gi (mi 33) 0 1) (gmi_37 : gi (mi 37) 0 1) (gmi_41 : gi (mi 41) 0 24) (gmi_50 : gi (mi 50) 0 1) (gmi_51 : gi (mi 51) 0 1) (gmi_56 : gi (mi 56) 0 80) : Met l yX12_early (.code yX12_early cX12_early 2 (some .int) :: wsGB) ({ frames := 1, cells := 0, slots := 0, locals := 25 }) (va_Pc [.ref h0, .int p1] (fun U => va_P (dC, dI) vwCl (MWn h0 mr km (mi 0) (mi 1) (mi 2) (mi 3) (mi 4) (mi 5) (mi 6) (mi 7) (mi 10) (mi 17) (mi 23) (mi 24) (mi 26) (mi 27) (mi 28) (mi 29) (mi 30) (mi 31) (mi 32) (mi 33) (mi 37) (mi 41) (mi 42) (mi 43) (mi 44) (mi 45) (mi 47) (mi 48) (mi 49) (mi 50) (mi 51) (mi 54) (mi 56) fm_trust fm_letter fm_reportPlace fm_reportKind fm_struck fm_reportMonth fm_reportDay fm_reportKnown fm_deedMonth fm_deedDay fm_deedLong fm_deedKind fm_kept fm_tape fm_must fm_least fm_pin fm_ways fm_verdict fm_row fm_official fm_aside fm_worth fm_out) U.heap ∧ va_K (dC, dI) vwCl (MT km) U)) (va_Qi (fun (r : Int32) (u : Unit) => (gi r (-2147483648) 2147483647) ∧ r = fX12_early mi p1) (fun _ _ => True) (fun _ => False)) 0 0 (fun _ => False) := by
  refine Met.ofW (cc := cX12_early) (maxL := 2) (ret := (some .int)) (by decide) rfl ?_
  intro p e s m args below meth c s₁ B hml hv
  obtain ⟨rfl, hP, hK⟩ := hv
  have hx := B.exec
  have hb := B.bytes
  have hr := B.returns
  have hts := atoms_spec (ws := (.code yX12_early cX12_early 2 (some .int) :: wsGB)) B.pre
  have hown : s.vm.findClass RX12 = some m.cls := findClass_of_methodNamed B.named
  have hlocks := B.notSynchronized
  have hS : va_S (fun _ => False) s.heap s.heap [] := va_S.rf
  have hl := lv_entry ([.ref h0, .int p1]) (n := 2) (Nat.le_of_ble_eq_true rfl)
  rw [lg_entry_eq]
  generalize (lg_sl ([.ref h0, .int p1]) ++ List.replicate (2 - (lg_sl ([.ref h0, .int p1])).length) Slot.unset).toArray = ls at hl ⊢
  have hl : lv_has ls 2 [(0, .ref h0), (1, .int p1)] := hl
  obtain ⟨RES, hF⟩ : ∃ R9, fX12_early mi p1 = R9 := ⟨_, rfl⟩
  have hR9 := hF
  refine lv_aload_n hx hb dX12_early_0 rfl (lv_at hl 0 rfl) ?_
  refine va_get (D := (dC, dI)) (ci := 12) (v := .int (mi 4)) (C := RX12) (T := TX12) (N := 57) hx hb hts (fun w h => List.mem_cons_of_mem _ (jnGB_X12 w h)) hown hK hP 0 rfl rfl 4 (by decide) (hts _ (List.mem_cons_of_mem _ mGB_107)) (fun _ h9 => h9) rfl dX12_early_1 ?_
  refine lv_if_eq (tgt := 29) hx hb dX12_early_4 (by decide) (fun c_12 => ?_) (fun c_12 => ?_)
  · have hF := gf_pos c_12 hF
    have g_13 : gi (mi 4) 0 0 := gi_eq c_12 (gi_c 0 0 (by decide))
    refine lv_bipush (v := (-2)) hx hb dX12_early_29 (by decide) ?_
    exact W.iret (v := (-2)) hx hb hr (fun t ht hW => ⟨⟨(-2), (), rfl, ⟨(gi_any (-2)), hF.trans hR9.symm⟩, trivial⟩, hS.F ht⟩) hS.2.2 dX12_early_31
  · have hF := gf_neg c_12 hF
    have g_14 : gi (mi 4) 1 1 := gi_ne_lo c_12 gmi_4 (gi_c 0 0 (by decide)) (by decide)
    refine lv_iload_n hx hb dX12_early_7 rfl (lv_at hl 1 rfl) ?_
    refine lv_i2l (v := (p1).toInt64) hx hb dX12_early_8 rfl ?_
    refine lv_topl (fun l_15 el_15 => ?_)
    refine lv_lconst (v := 1) hx hb dX12_early_9 (by decide) ?_
    refine lv_aload_n hx hb dX12_early_10 rfl (lv_at hl 0 rfl) ?_
    refine va_get (D := (dC, dI)) (ci := 12) (v := .int (mi 0)) (C := RX12) (T := TX12) (N := 57) hx hb hts (fun w h => List.mem_cons_of_mem _ (jnGB_X12 w h)) hown hK hP 0 rfl rfl 0 (by decide) (hts _ (List.mem_cons_of_mem _ mGB_103)) (fun _ h9 => h9) rfl dX12_early_11 ?_
    refine lv_i2l (v := ((mi 0)).toInt64) hx hb dX12_early_14 rfl ?_
    refine lv_topl (fun l_16 el_16 => ?_)
    have hPc := hP.sub (ws' := []) [] rfl
    have hKc := hK.sub (tys' := []) [] rfl
    refine va_calli (va_runS (As := [.long l_15, .long 1, .long l_16]) (rest := []) ⟨hx, hb, hml, hown, hts⟩ (sX12_in l dC dI l_15 1 l_16) (cwS 3 hts (gz_gS mGB_47 mGB_48 mGB_1 mGB_49 goodGB) rfl rfl rfl (by decide +kernel) ⟨Nat.le_of_ble_eq_true rfl, Nat.le_of_ble_eq_true rfl⟩) ⟨bl_R, fun U hU hW => ⟨rfl, by rw [hU]; exact hPc, va_K.moved hW.alike hKc⟩⟩ rfl rfl hl.1 rfl (lv_room (Nat.le_of_ble_eq_true rfl)) dX12_early_15 ⟨Nat.zero_le _, Nat.zero_le _⟩) hS (fun q _ h => h.elim) (fun q h => h.elim) (fun r_17 u t H1 locs ht hvm hw hB hz1 hk1 hS => ?_)
    obtain ⟨hw, hE⟩ := hw
    have hP := gz_keep hP hk1
    have hF := gf_call (a := r_17) (by rw [el_16, el_15] at hE; exact hE) hF
    generalize H1 = H at hP hS ⊢
    have gr_17 : gi r_17 0 1 := hw.1
    have hqr_17 := hw.2
    refine lv_if_eq (tgt := 29) hx hb dX12_early_18 (by decide) (fun c_18 => ?_) (fun c_18 => ?_)
    · have hF := gf_pos c_18 hF
      have g_19 : gi r_17 0 0 := gi_eq c_18 (gi_c 0 0 (by decide))
      refine lv_bipush (v := (-2)) hx hb dX12_early_29 (by decide) ?_
      exact W.iret (v := (-2)) hx hb hr (fun t ht hW => ⟨⟨(-2), (), rfl, ⟨(gi_any (-2)), hF.trans hR9.symm⟩, trivial⟩, hS.F ht⟩) hS.2.2 dX12_early_31
    · have hF := gf_neg c_18 hF
      have g_20 : gi r_17 1 1 := gi_ne_lo c_18 gr_17 (gi_c 0 0 (by decide)) (by decide)
      have g_21 : gi p1 1 24 := gi_cap (gi_any p1) (gz_inr (hqr_17.1 (gz_one g_20)) el_15 (A := 1) (B := 24) (by decide) (gz_l2u el_16 gmi_0)) (by decide)
      refine lv_aload_n hx hb dX12_early_21 rfl (lv_at hl 0 rfl) ?_
      refine lv_iload_n hx hb dX12_early_22 rfl (lv_at hl 1 rfl) ?_
      refine va_calli (va_runV (As := [.int p1]) (rest := []) ⟨hx, hb, hml, hown, hts⟩ (sX12_earlyOf l dC dI h0 mi mr km fm_trust fm_letter fm_reportPlace fm_reportKind fm_struck fm_reportMonth fm_reportDay fm_reportKnown fm_deedMonth fm_deedDay fm_deedLong fm_deedKind fm_kept fm_tape fm_must fm_least fm_pin fm_ways fm_verdict fm_row fm_official fm_aside fm_worth fm_out p1 gmi_0 gmi_1 gmi_2 (gi_w g_14 (by decide)) gmi_7 gmi_10 gmi_17 gmi_23 gmi_24 gmi_26 gmi_29 gmi_30 gmi_33 gmi_37 gmi_41 gmi_50 gmi_51 gmi_56) (cwV 1 hts (gz_gV mGB_249 mGB_250 mGB_251 mGB_1 mGB_252 goodGB) rfl rfl rfl (by decide +kernel) ⟨Nat.le_of_ble_eq_true rfl, Nat.le_of_ble_eq_true rfl⟩) ⟨bl_R, mw_recv hK hP, fun U hU hW => ⟨rfl, by rw [hU]; exact hP, va_K.moved hW.alike hK⟩⟩ rfl rfl hl.1 rfl (lv_room (Nat.le_of_ble_eq_true rfl)) dX12_early_23 ⟨Nat.zero_le _, Nat.zero_le _⟩) hS (fun q _ h => h.elim) (fun q h => h.elim) (fun r_22 u t H1 locs ht hvm hw hB hz1 hk1 hS => ?_)
      obtain ⟨hw, hE⟩ := hw
      have hP := gz_keep hP hk1
      have hF := gf_callm (a := r_22) hE hF (by first | with_reducible rfl | simp only [upd_same, upd_app, ↓reduceIte, Nat.reduceEqDiff])
      generalize H1 = H at hP hS ⊢
      refine lv_goto (tgt := 31) hx hb dX12_early_26 (by decide) ?_
      exact W.iret (v := r_22) hx hb hr (fun t ht hW => ⟨⟨r_22, (), rfl, ⟨(gi_any r_22), hF.trans hR9.symm⟩, trivial⟩, hS.F ht⟩) hS.2.2 dX12_early_31
theorem dX12_moon_0 : decode cX12_moon 0 = .ok (.aload_n 0, 1) := by decide +kernel
theorem dX12_moon_1 : decode cX12_moon 1 = .ok (.getfield 126, 3) := by decide +kernel
theorem dX12_moon_4 : decode cX12_moon 4 = .ok (.ifCond .eq 29, 3) := by decide +kernel
theorem dX12_moon_7 : decode cX12_moon 7 = .ok (.iload_n 1, 1) := by decide +kernel
theorem dX12_moon_8 : decode cX12_moon 8 = .ok (.i2l, 1) := by decide +kernel
theorem dX12_moon_9 : decode cX12_moon 9 = .ok (.lconst 0, 1) := by decide +kernel
theorem dX12_moon_10 : decode cX12_moon 10 = .ok (.ldc2_w 488, 3) := by decide +kernel
theorem dX12_moon_13 : decode cX12_moon 13 = .ok (.invokestatic 102, 3) := by decide +kernel
theorem dX12_moon_16 : decode cX12_moon 16 = .ok (.ifCond .eq 17, 3) := by decide +kernel
theorem dX12_moon_19 : decode cX12_moon 19 = .ok (.iload_n 2, 1) := by decide +kernel
theorem dX12_moon_20 : decode cX12_moon 20 = .ok (.i2l, 1) := by decide +kernel
theorem dX12_moon_21 : decode cX12_moon 21 = .ok (.ldc2_w 490, 3) := by decide +kernel
theorem dX12_moon_24 : decode cX12_moon 24 = .ok (.ldc2_w 492, 3) := by decide +kernel
theorem dX12_moon_27 : decode cX12_moon 27 = .ok (.invokestatic 102, 3) := by decide +kernel
theorem dX12_moon_30 : decode cX12_moon 30 = .ok (.ifCond .ne 6, 3) := by decide +kernel
theorem dX12_moon_33 : decode cX12_moon 33 = .ok (.bipush (-2), 2) := by decide +kernel
theorem dX12_moon_35 : decode cX12_moon 35 = .ok (.ireturn, 1) := by decide +kernel
theorem dX12_moon_36 : decode cX12_moon 36 = .ok (.aload_n 0, 1) := by decide +kernel
theorem dX12_moon_37 : decode cX12_moon 37 = .ok (.iconst 1, 1) := by decide +kernel
theorem dX12_moon_38 : decode cX12_moon 38 = .ok (.putfield 129, 3) := by decide +kernel
theorem dX12_moon_41 : decode cX12_moon 41 = .ok (.aload_n 0, 1) := by decide +kernel
theorem dX12_moon_42 : decode cX12_moon 42 = .ok (.iload_n 1, 1) := by decide +kernel
theorem dX12_moon_43 : decode cX12_moon 43 = .ok (.putfield 132, 3) := by decide +kernel
theorem dX12_moon_46 : decode cX12_moon 46 = .ok (.aload_n 0, 1) := by decide +kernel
theorem dX12_moon_47 : decode cX12_moon 47 = .ok (.iload_n 2, 1) := by decide +kernel
theorem dX12_moon_48 : decode cX12_moon 48 = .ok (.putfield 135, 3) := by decide +kernel
theorem dX12_moon_51 : decode cX12_moon 51 = .ok (.aload_n 0, 1) := by decide +kernel
theorem dX12_moon_52 : decode cX12_moon 52 = .ok (.iconst 1, 1) := by decide +kernel
theorem dX12_moon_53 : decode cX12_moon 53 = .ok (.invokevirtual 309, 3) := by decide +kernel
theorem dX12_moon_56 : decode cX12_moon 56 = .ok (.ireturn, 1) := by decide +kernel
noncomputable def bfX12_moon_33 (mi : Nat → Int32) (p1 : Int32) (p2 : Int32) (w0_4 : Int32) (w0_5 : Int32) (w0_6 : Int32) : Int32 × Int32 × Int32 × Int32 := ((-2 : Int32), w0_4, w0_5, w0_6)
noncomputable def fX12_moon (mi : Nat → Int32) (p1 : Int32) (p2 : Int32) : Int32 × Int32 × Int32 × Int32 := if (mi 3) = (0 : Int32) then (bfX12_moon_33 mi p1 p2 (mi 4) (mi 5) (mi 6)) else (cal (fun o1 => if o1 = (0 : Int32) then (bfX12_moon_33 mi p1 p2 (mi 4) (mi 5) (mi 6)) else (cal (fun o2 => if o2 = (0 : Int32) then (bfX12_moon_33 mi p1 p2 (mi 4) (mi 5) (mi 6)) else (cal (fun o3 => (o3, (1 : Int32), p1, p2)) (fX12_earlyOf (upd (upd (upd mi 4 1) 5 p1) 6 p2) (1 : Int32)))) (fX12_in (p2.toInt64) (28000 : Int64) (31000 : Int64)))) (fX12_in (p1.toInt64) (0 : Int64) (99999 : Int64)))
abbrev pb_sX12_moon (dC : Nat → ClassId) (dI : Nat → Nat → Nat) (A9 : Nat → Prop) (h0 : Nat) (mi : Nat → Int32) (mr : Nat → Nat) (km : Nat → ClassId) (fm_trust : Nat → Int32) (fm_letter : Nat → Int32) (fm_reportPlace : Nat → Int32) (fm_reportKind : Nat → Int32) (fm_struck : Nat → Int32) (fm_reportMonth : Nat → Int32) (fm_reportDay : Nat → Int32) (fm_reportKnown : Nat → Int32) (fm_deedMonth : Nat → Int32) (fm_deedDay : Nat → Int32) (fm_deedLong : Nat → Int32) (fm_deedKind : Nat → Int32) (fm_kept : Nat → Int32) (fm_tape : Nat → Int32) (fm_must : Nat → Int32) (fm_least : Nat → Int32) (fm_pin : Nat → Int32) (fm_ways : Nat → Int32) (fm_verdict : Nat → Int32) (fm_row : Nat → Int32) (fm_official : Nat → Int32) (fm_aside : Nat → Int32) (fm_worth : Nat → Int32) (fm_out : Nat → Int32) (p1 : Int32) (p2 : Int32) (r : Int32) (w0_4 : Int32) (w0_5 : Int32) (w0_6 : Int32) (t : State) : Prop := gi w0_4 0 1 ∧ (r, w0_4, w0_5, w0_6) = fX12_moon mi p1 p2 ∧ va_P (dC, dI) vwCl (MWn h0 mr km (mi 0) (mi 1) (mi 2) (mi 3) w0_4 w0_5 w0_6 (mi 7) (mi 10) (mi 17) (mi 23) (mi 24) (mi 26) (mi 27) (mi 28) (mi 29) (mi 30) (mi 31) (mi 32) (mi 33) (mi 37) (mi 41) (mi 42) (mi 43) (mi 44) (mi 45) (mi 47) (mi 48) (mi 49) (mi 50) (mi 51) (mi 54) (mi 56) fm_trust fm_letter fm_reportPlace fm_reportKind fm_struck fm_reportMonth fm_reportDay fm_reportKnown fm_deedMonth fm_deedDay fm_deedLong fm_deedKind fm_kept fm_tape fm_must fm_least fm_pin fm_ways fm_verdict fm_row fm_official fm_aside fm_worth fm_out) t.heap ∧ va_D A9 (MWn h0 mr km (mi 0) (mi 1) (mi 2) (mi 3) w0_4 w0_5 w0_6 (mi 7) (mi 10) (mi 17) (mi 23) (mi 24) (mi 26) (mi 27) (mi 28) (mi 29) (mi 30) (mi 31) (mi 32) (mi 33) (mi 37) (mi 41) (mi 42) (mi 43) (mi 44) (mi 45) (mi 47) (mi 48) (mi 49) (mi 50) (mi 51) (mi 54) (mi 56) fm_trust fm_letter fm_reportPlace fm_reportKind fm_struck fm_reportMonth fm_reportDay fm_reportKnown fm_deedMonth fm_deedDay fm_deedLong fm_deedKind fm_kept fm_tape fm_must fm_least fm_pin fm_ways fm_verdict fm_row fm_official fm_aside fm_worth fm_out)
set_option maxHeartbeats 4000000 in
set_option maxRecDepth 100000 in
theorem sX12_moon (l : Launch) (dC : Nat → ClassId) (dI : Nat → Nat → Nat) (sz : Nat) (h0 : Nat) (mi : Nat → Int32) (mr : Nat → Nat) (km : Nat → ClassId) (fm_trust : Nat → Int32) (fm_letter : Nat → Int32) (fm_reportPlace : Nat → Int32) (fm_reportKind : Nat → Int32) (fm_struck : Nat → Int32) (fm_reportMonth : Nat → Int32) (fm_reportDay : Nat → Int32) (fm_reportKnown : Nat → Int32) (fm_deedMonth : Nat → Int32) (fm_deedDay : Nat → Int32) (fm_deedLong : Nat → Int32) (fm_deedKind : Nat → Int32) (fm_kept : Nat → Int32) (fm_tape : Nat → Int32) (fm_must : Nat → Int32) (fm_least : Nat → Int32) (fm_pin : Nat → Int32) (fm_ways : Nat → Int32) (fm_verdict : Nat → Int32) (fm_row : Nat → Int32) (fm_official : Nat → Int32) (fm_aside : Nat → Int32) (fm_worth : Nat → Int32) (fm_out : Nat → Int32) (p1 : Int32) (p2 : Int32) (gmi_0 : gi (mi 0) 0 24) (gmi_1 : gi (mi 1) 0 5) (gmi_2 : gi (mi 2) 0 5) (gmi_4 : gi (mi 4) 0 1) (gmi_7 : gi (mi 7) 0 6) (gmi_10 : gi (mi 10) 0 24) (gmi_17 : gi (mi 17) 0 8) (gmi_23 : gi (mi 23) 0 300) (gmi_24 : gi (mi 24) 0 1) (gmi_26 : gi (mi 26) 0 1600) (gmi_29 : gi (mi 29) 0 1600) (gmi_30 : gi (mi 30) 0 1600) (gmi_33 : gi (mi 33) 0 1) (gmi_37 : gi (mi 37) 0 1) (gmi_41 : gi (mi 41) 0 24) (gmi_50 : gi (mi 50) 0 1) (gmi_51 : gi (mi 51) 0 1) (gmi_56 : gi (mi 56) 0 80) : Met l yX12_moon (.code yX12_moon cX12_moon 3 (some .int) :: wsGB) ({ frames := 1, cells := 0, slots := 0, locals := 25 }) (va_Pc [.ref h0, .int p1, .int p2] (fun U => U.heap.size = sz ∧ va_P (dC, dI) vwCl (MWn h0 mr km (mi 0) (mi 1) (mi 2) (mi 3) (mi 4) (mi 5) (mi 6) (mi 7) (mi 10) (mi 17) (mi 23) (mi 24) (mi 26) (mi 27) (mi 28) (mi 29) (mi 30) (mi 31) (mi 32) (mi 33) (mi 37) (mi 41) (mi 42) (mi 43) (mi 44) (mi 45) (mi 47) (mi 48) (mi 49) (mi 50) (mi 51) (mi 54) (mi 56) fm_trust fm_letter fm_reportPlace fm_reportKind fm_struck fm_reportMonth fm_reportDay fm_reportKnown fm_deedMonth fm_deedDay fm_deedLong fm_deedKind fm_kept fm_tape fm_must fm_least fm_pin fm_ways fm_verdict fm_row fm_official fm_aside fm_worth fm_out) U.heap ∧ va_K (dC, dI) vwCl (MT km) U ∧ va_D (fun _ => True) (MWn h0 mr km (mi 0) (mi 1) (mi 2) (mi 3) (mi 4) (mi 5) (mi 6) (mi 7) (mi 10) (mi 17) (mi 23) (mi 24) (mi 26) (mi 27) (mi 28) (mi 29) (mi 30) (mi 31) (mi 32) (mi 33) (mi 37) (mi 41) (mi 42) (mi 43) (mi 44) (mi 45) (mi 47) (mi 48) (mi 49) (mi 50) (mi 51) (mi 54) (mi 56) fm_trust fm_letter fm_reportPlace fm_reportKind fm_struck fm_reportMonth fm_reportDay fm_reportKnown fm_deedMonth fm_deedDay fm_deedLong fm_deedKind fm_kept fm_tape fm_must fm_least fm_pin fm_ways fm_verdict fm_row fm_official fm_aside fm_worth fm_out))) (va_Qi (fun (r : Int32) (u : Int32) => r = u ∧ gi r (-2147483648) 2147483647) (fun r t => ∃ (w0_4 : Int32) (w0_5 : Int32) (w0_6 : Int32), pb_sX12_moon dC dI (va_A (MWn h0 mr km (mi 0) (mi 1) (mi 2) (mi 3) (mi 4) (mi 5) (mi 6) (mi 7) (mi 10) (mi 17) (mi 23) (mi 24) (mi 26) (mi 27) (mi 28) (mi 29) (mi 30) (mi 31) (mi 32) (mi 33) (mi 37) (mi 41) (mi 42) (mi 43) (mi 44) (mi 45) (mi 47) (mi 48) (mi 49) (mi 50) (mi 51) (mi 54) (mi 56) fm_trust fm_letter fm_reportPlace fm_reportKind fm_struck fm_reportMonth fm_reportDay fm_reportKnown fm_deedMonth fm_deedDay fm_deedLong fm_deedKind fm_kept fm_tape fm_must fm_least fm_pin fm_ways fm_verdict fm_row fm_official fm_aside fm_worth fm_out) sz) h0 mi mr km fm_trust fm_letter fm_reportPlace fm_reportKind fm_struck fm_reportMonth fm_reportDay fm_reportKnown fm_deedMonth fm_deedDay fm_deedLong fm_deedKind fm_kept fm_tape fm_must fm_least fm_pin fm_ways fm_verdict fm_row fm_official fm_aside fm_worth fm_out p1 p2 r w0_4 w0_5 w0_6 t) (va_A (MWn h0 mr km (mi 0) (mi 1) (mi 2) (mi 3) (mi 4) (mi 5) (mi 6) (mi 7) (mi 10) (mi 17) (mi 23) (mi 24) (mi 26) (mi 27) (mi 28) (mi 29) (mi 30) (mi 31) (mi 32) (mi 33) (mi 37) (mi 41) (mi 42) (mi 43) (mi 44) (mi 45) (mi 47) (mi 48) (mi 49) (mi 50) (mi 51) (mi 54) (mi 56) fm_trust fm_letter fm_reportPlace fm_reportKind fm_struck fm_reportMonth fm_reportDay fm_reportKnown fm_deedMonth fm_deedDay fm_deedLong fm_deedKind fm_kept fm_tape fm_must fm_least fm_pin fm_ways fm_verdict fm_row fm_official fm_aside fm_worth fm_out) sz)) 0 0 (va_A (MWn h0 mr km (mi 0) (mi 1) (mi 2) (mi 3) (mi 4) (mi 5) (mi 6) (mi 7) (mi 10) (mi 17) (mi 23) (mi 24) (mi 26) (mi 27) (mi 28) (mi 29) (mi 30) (mi 31) (mi 32) (mi 33) (mi 37) (mi 41) (mi 42) (mi 43) (mi 44) (mi 45) (mi 47) (mi 48) (mi 49) (mi 50) (mi 51) (mi 54) (mi 56) fm_trust fm_letter fm_reportPlace fm_reportKind fm_struck fm_reportMonth fm_reportDay fm_reportKnown fm_deedMonth fm_deedDay fm_deedLong fm_deedKind fm_kept fm_tape fm_must fm_least fm_pin fm_ways fm_verdict fm_row fm_official fm_aside fm_worth fm_out) sz) := by
  refine Met.ofW (cc := cX12_moon) (maxL := 3) (ret := (some .int)) (by decide) rfl ?_
  intro p e s m args below meth c s₁ B hml hv
  obtain ⟨rfl, hsz, hP, hK, hD0⟩ := hv
  have hx := B.exec
  have hb := B.bytes
  have hr := B.returns
  have hts := atoms_spec (ws := (.code yX12_moon cX12_moon 3 (some .int) :: wsGB)) B.pre
  have hown : s.vm.findClass RX12 = some m.cls := findClass_of_methodNamed B.named
  have hlocks := B.notSynchronized
  subst hsz
  have hD := hD0.self (sz := s.heap.size)
  generalize hAe : va_A (MWn h0 mr km (mi 0) (mi 1) (mi 2) (mi 3) (mi 4) (mi 5) (mi 6) (mi 7) (mi 10) (mi 17) (mi 23) (mi 24) (mi 26) (mi 27) (mi 28) (mi 29) (mi 30) (mi 31) (mi 32) (mi 33) (mi 37) (mi 41) (mi 42) (mi 43) (mi 44) (mi 45) (mi 47) (mi 48) (mi 49) (mi 50) (mi 51) (mi 54) (mi 56) fm_trust fm_letter fm_reportPlace fm_reportKind fm_struck fm_reportMonth fm_reportDay fm_reportKnown fm_deedMonth fm_deedDay fm_deedLong fm_deedKind fm_kept fm_tape fm_must fm_least fm_pin fm_ways fm_verdict fm_row fm_official fm_aside fm_worth fm_out) s.heap.size = A at hD ⊢
  have hA : ∀ q : Nat, s.heap.size ≤ q → A q := fun q h => by rw [← hAe]; exact Or.inr h
  have hS : va_S A s.heap s.heap [] := va_S.rf
  have hl := lv_entry ([.ref h0, .int p1, .int p2]) (n := 3) (Nat.le_of_ble_eq_true rfl)
  rw [lg_entry_eq]
  generalize (lg_sl ([.ref h0, .int p1, .int p2]) ++ List.replicate (3 - (lg_sl ([.ref h0, .int p1, .int p2])).length) Slot.unset).toArray = ls at hl ⊢
  have hl : lv_has ls 3 [(0, .ref h0), (1, .int p1), (2, .int p2)] := hl
  obtain ⟨RES, hF⟩ : ∃ R9, fX12_moon mi p1 p2 = R9 := ⟨_, rfl⟩
  have hR9 := hF
  refine lv_aload_n hx hb dX12_moon_0 rfl (lv_at hl 0 rfl) ?_
  refine va_get (D := (dC, dI)) (ci := 12) (v := .int (mi 3)) (C := RX12) (T := TX12) (N := 57) hx hb hts (fun w h => List.mem_cons_of_mem _ (jnGB_X12 w h)) hown hK hP 0 rfl rfl 3 (by decide) (hts _ (List.mem_cons_of_mem _ mGB_106)) (fun _ h9 => h9) rfl dX12_moon_1 ?_
  refine lv_if_eq (tgt := 33) hx hb dX12_moon_4 (by decide) (fun c_31 => ?_) (fun c_31 => ?_)
  · have hF := gf_pos c_31 hF
    have g_32 : gi (mi 3) 0 0 := gi_eq c_31 (gi_c 0 0 (by decide))
    refine lv_bipush (v := (-2)) hx hb dX12_moon_33 (by decide) ?_
    exact W.iret (v := (-2)) hx hb hr (fun t ht hW => ⟨⟨(-2), (-2), rfl, ⟨rfl, (gi_any (-2))⟩, (mi 4), (mi 5), (mi 6), gmi_4, hF.trans hR9.symm, by rw [ht]; exact hP, hD⟩, hS.F ht⟩) hS.2.2 dX12_moon_35
  · have hF := gf_neg c_31 hF
    refine lv_iload_n hx hb dX12_moon_7 rfl (lv_at hl 1 rfl) ?_
    refine lv_i2l (v := (p1).toInt64) hx hb dX12_moon_8 rfl ?_
    refine lv_topl (fun l_33 el_33 => ?_)
    refine lv_lconst (v := 0) hx hb dX12_moon_9 (by decide) ?_
    refine lv_ldc2 (own := RX12) (v := 99999) hx hb hown (hts _ (List.mem_cons_of_mem _ mGB_589)) dX12_moon_10 ?_
    have hPc := hP.sub (ws' := []) [] rfl
    have hKc := hK.sub (tys' := []) [] rfl
    refine va_calli (va_runS (As := [.long l_33, .long 0, .long 99999]) (rest := []) ⟨hx, hb, hml, hown, hts⟩ (sX12_in l dC dI l_33 0 99999) (cwS 3 hts (gz_gS mGB_47 mGB_48 mGB_1 mGB_49 goodGB) rfl rfl rfl (by decide +kernel) ⟨Nat.le_of_ble_eq_true rfl, Nat.le_of_ble_eq_true rfl⟩) ⟨bl_R, fun U hU hW => ⟨rfl, by rw [hU]; exact hPc, va_K.moved hW.alike hKc⟩⟩ rfl rfl hl.1 rfl (lv_room (Nat.le_of_ble_eq_true rfl)) dX12_moon_13 ⟨Nat.zero_le _, Nat.zero_le _⟩) hS (fun q _ h => h.elim) (fun q h => h.elim) (fun r_34 u t H1 locs ht hvm hw hB hz1 hk1 hS => ?_)
    obtain ⟨hw, hE⟩ := hw
    have hP := gz_keep hP hk1
    have hF := gf_call (a := r_34) (by rw [el_33] at hE; exact hE) hF
    generalize H1 = H at hP hS ⊢
    have gr_34 : gi r_34 0 1 := hw.1
    have hqr_34 := hw.2
    refine lv_if_eq (tgt := 33) hx hb dX12_moon_16 (by decide) (fun c_35 => ?_) (fun c_35 => ?_)
    · have hF := gf_pos c_35 hF
      have g_36 : gi r_34 0 0 := gi_eq c_35 (gi_c 0 0 (by decide))
      refine lv_bipush (v := (-2)) hx hb dX12_moon_33 (by decide) ?_
      exact W.iret (v := (-2)) hx hb hr (fun t ht hW => ⟨⟨(-2), (-2), rfl, ⟨rfl, (gi_any (-2))⟩, (mi 4), (mi 5), (mi 6), gmi_4, hF.trans hR9.symm, by rw [ht]; exact hP, hD⟩, hS.F ht⟩) hS.2.2 dX12_moon_35
    · have hF := gf_neg c_35 hF
      have g_37 : gi r_34 1 1 := gi_ne_lo c_35 gr_34 (gi_c 0 0 (by decide)) (by decide)
      have g_38 : gi p1 0 99999 := gi_cap (gi_any p1) (gz_inr (hqr_34.1 (gz_one g_37)) el_33 (A := 0) (B := 99999) (by decide) (by decide)) (by decide)
      refine lv_iload_n hx hb dX12_moon_19 rfl (lv_at hl 2 rfl) ?_
      refine lv_i2l (v := (p2).toInt64) hx hb dX12_moon_20 rfl ?_
      refine lv_topl (fun l_39 el_39 => ?_)
      refine lv_ldc2 (own := RX12) (v := 28000) hx hb hown (hts _ (List.mem_cons_of_mem _ mGB_590)) dX12_moon_21 ?_
      refine lv_ldc2 (own := RX12) (v := 31000) hx hb hown (hts _ (List.mem_cons_of_mem _ mGB_591)) dX12_moon_24 ?_
      have hPc := hP.sub (ws' := []) [] rfl
      have hKc := hK.sub (tys' := []) [] rfl
      refine va_calli (va_runS (As := [.long l_39, .long 28000, .long 31000]) (rest := []) ⟨hx, hb, hml, hown, hts⟩ (sX12_in l dC dI l_39 28000 31000) (cwS 3 hts (gz_gS mGB_47 mGB_48 mGB_1 mGB_49 goodGB) rfl rfl rfl (by decide +kernel) ⟨Nat.le_of_ble_eq_true rfl, Nat.le_of_ble_eq_true rfl⟩) ⟨bl_R, fun U hU hW => ⟨rfl, by rw [hU]; exact hPc, va_K.moved hW.alike hKc⟩⟩ rfl rfl hl.1 rfl (lv_room (Nat.le_of_ble_eq_true rfl)) dX12_moon_27 ⟨Nat.zero_le _, Nat.zero_le _⟩) hS (fun q _ h => h.elim) (fun q h => h.elim) (fun r_40 u t H1 locs ht hvm hw hB hz1 hk1 hS => ?_)
      obtain ⟨hw, hE⟩ := hw
      have hP := gz_keep hP hk1
      have hF := gf_call (a := r_40) (by rw [el_39] at hE; exact hE) hF
      generalize H1 = H at hP hS ⊢
      have gr_40 : gi r_40 0 1 := hw.1
      have hqr_40 := hw.2
      refine lv_if_ne (tgt := 36) hx hb dX12_moon_30 (by decide) (fun c_41 => ?_) (fun c_41 => ?_)
      · have hF := gf_neg c_41 hF
        have g_42 : gi r_40 1 1 := gi_ne_lo c_41 gr_40 (gi_c 0 0 (by decide)) (by decide)
        have g_43 : gi p2 28000 31000 := gi_cap (gi_any p2) (gz_inr (hqr_40.1 (gz_one g_42)) el_39 (A := 28000) (B := 31000) (by decide) (by decide)) (by decide)
        refine lv_aload_n hx hb dX12_moon_36 rfl (lv_at hl 0 rfl) ?_
        refine lv_iconst (v := 1) hx hb dX12_moon_37 (by decide) ?_
        refine va_put (D := (dC, dI)) (ci := 12) (v := .int 1) (ty := .boolean) (C := RX12) (T := TX12) (N := 57) hx hb hts (fun w h => List.mem_cons_of_mem _ (jnGB_X12 w h)) tyX12 tyX12_ok nmX12 hown hK hP hD hS 0 rfl rfl 4 (by decide) (hts _ (List.mem_cons_of_mem _ mGB_107)) (fun _ h9 => h9) rfl (by decide +kernel) rfl rfl (Nat.le_of_ble_eq_true rfl) dX12_moon_38 (fun H locs hP hD hS => ?_)
        have hP : va_P (dC, dI) vwCl (MWn h0 mr km (mi 0) (mi 1) (mi 2) (mi 3) 1 (mi 5) (mi 6) (mi 7) (mi 10) (mi 17) (mi 23) (mi 24) (mi 26) (mi 27) (mi 28) (mi 29) (mi 30) (mi 31) (mi 32) (mi 33) (mi 37) (mi 41) (mi 42) (mi 43) (mi 44) (mi 45) (mi 47) (mi 48) (mi 49) (mi 50) (mi 51) (mi 54) (mi 56) fm_trust fm_letter fm_reportPlace fm_reportKind fm_struck fm_reportMonth fm_reportDay fm_reportKnown fm_deedMonth fm_deedDay fm_deedLong fm_deedKind fm_kept fm_tape fm_must fm_least fm_pin fm_ways fm_verdict fm_row fm_official fm_aside fm_worth fm_out) H := hP
        have hD : va_D A (MWn h0 mr km (mi 0) (mi 1) (mi 2) (mi 3) 1 (mi 5) (mi 6) (mi 7) (mi 10) (mi 17) (mi 23) (mi 24) (mi 26) (mi 27) (mi 28) (mi 29) (mi 30) (mi 31) (mi 32) (mi 33) (mi 37) (mi 41) (mi 42) (mi 43) (mi 44) (mi 45) (mi 47) (mi 48) (mi 49) (mi 50) (mi 51) (mi 54) (mi 56) fm_trust fm_letter fm_reportPlace fm_reportKind fm_struck fm_reportMonth fm_reportDay fm_reportKnown fm_deedMonth fm_deedDay fm_deedLong fm_deedKind fm_kept fm_tape fm_must fm_least fm_pin fm_ways fm_verdict fm_row fm_official fm_aside fm_worth fm_out) := hD
        refine lv_aload_n hx hb dX12_moon_41 rfl (lv_at hl 0 rfl) ?_
        refine lv_iload_n hx hb dX12_moon_42 rfl (lv_at hl 1 rfl) ?_
        refine va_put (D := (dC, dI)) (ci := 12) (v := .int p1) (ty := .int) (C := RX12) (T := TX12) (N := 57) hx hb hts (fun w h => List.mem_cons_of_mem _ (jnGB_X12 w h)) tyX12 tyX12_ok nmX12 hown hK hP hD hS 0 rfl rfl 5 (by decide) (hts _ (List.mem_cons_of_mem _ mGB_108)) (fun _ h9 => h9) rfl (by decide +kernel) rfl rfl (Nat.le_of_ble_eq_true rfl) dX12_moon_43 (fun H locs hP hD hS => ?_)
        have hP : va_P (dC, dI) vwCl (MWn h0 mr km (mi 0) (mi 1) (mi 2) (mi 3) 1 p1 (mi 6) (mi 7) (mi 10) (mi 17) (mi 23) (mi 24) (mi 26) (mi 27) (mi 28) (mi 29) (mi 30) (mi 31) (mi 32) (mi 33) (mi 37) (mi 41) (mi 42) (mi 43) (mi 44) (mi 45) (mi 47) (mi 48) (mi 49) (mi 50) (mi 51) (mi 54) (mi 56) fm_trust fm_letter fm_reportPlace fm_reportKind fm_struck fm_reportMonth fm_reportDay fm_reportKnown fm_deedMonth fm_deedDay fm_deedLong fm_deedKind fm_kept fm_tape fm_must fm_least fm_pin fm_ways fm_verdict fm_row fm_official fm_aside fm_worth fm_out) H := hP
        have hD : va_D A (MWn h0 mr km (mi 0) (mi 1) (mi 2) (mi 3) 1 p1 (mi 6) (mi 7) (mi 10) (mi 17) (mi 23) (mi 24) (mi 26) (mi 27) (mi 28) (mi 29) (mi 30) (mi 31) (mi 32) (mi 33) (mi 37) (mi 41) (mi 42) (mi 43) (mi 44) (mi 45) (mi 47) (mi 48) (mi 49) (mi 50) (mi 51) (mi 54) (mi 56) fm_trust fm_letter fm_reportPlace fm_reportKind fm_struck fm_reportMonth fm_reportDay fm_reportKnown fm_deedMonth fm_deedDay fm_deedLong fm_deedKind fm_kept fm_tape fm_must fm_least fm_pin fm_ways fm_verdict fm_row fm_official fm_aside fm_worth fm_out) := hD
        refine lv_aload_n hx hb dX12_moon_46 rfl (lv_at hl 0 rfl) ?_
        refine lv_iload_n hx hb dX12_moon_47 rfl (lv_at hl 2 rfl) ?_
        refine va_put (D := (dC, dI)) (ci := 12) (v := .int p2) (ty := .int) (C := RX12) (T := TX12) (N := 57) hx hb hts (fun w h => List.mem_cons_of_mem _ (jnGB_X12 w h)) tyX12 tyX12_ok nmX12 hown hK hP hD hS 0 rfl rfl 6 (by decide) (hts _ (List.mem_cons_of_mem _ mGB_109)) (fun _ h9 => h9) rfl (by decide +kernel) rfl rfl (Nat.le_of_ble_eq_true rfl) dX12_moon_48 (fun H locs hP hD hS => ?_)
        have hP : va_P (dC, dI) vwCl (MWn h0 mr km (mi 0) (mi 1) (mi 2) (mi 3) 1 p1 p2 (mi 7) (mi 10) (mi 17) (mi 23) (mi 24) (mi 26) (mi 27) (mi 28) (mi 29) (mi 30) (mi 31) (mi 32) (mi 33) (mi 37) (mi 41) (mi 42) (mi 43) (mi 44) (mi 45) (mi 47) (mi 48) (mi 49) (mi 50) (mi 51) (mi 54) (mi 56) fm_trust fm_letter fm_reportPlace fm_reportKind fm_struck fm_reportMonth fm_reportDay fm_reportKnown fm_deedMonth fm_deedDay fm_deedLong fm_deedKind fm_kept fm_tape fm_must fm_least fm_pin fm_ways fm_verdict fm_row fm_official fm_aside fm_worth fm_out) H := hP
        have hD : va_D A (MWn h0 mr km (mi 0) (mi 1) (mi 2) (mi 3) 1 p1 p2 (mi 7) (mi 10) (mi 17) (mi 23) (mi 24) (mi 26) (mi 27) (mi 28) (mi 29) (mi 30) (mi 31) (mi 32) (mi 33) (mi 37) (mi 41) (mi 42) (mi 43) (mi 44) (mi 45) (mi 47) (mi 48) (mi 49) (mi 50) (mi 51) (mi 54) (mi 56) fm_trust fm_letter fm_reportPlace fm_reportKind fm_struck fm_reportMonth fm_reportDay fm_reportKnown fm_deedMonth fm_deedDay fm_deedLong fm_deedKind fm_kept fm_tape fm_must fm_least fm_pin fm_ways fm_verdict fm_row fm_official fm_aside fm_worth fm_out) := hD
        refine lv_aload_n hx hb dX12_moon_51 rfl (lv_at hl 0 rfl) ?_
        refine lv_iconst (v := 1) hx hb dX12_moon_52 (by decide) ?_
        refine va_calli (va_runV (As := [.int 1]) (rest := []) ⟨hx, hb, hml, hown, hts⟩ (sX12_earlyOf l dC dI h0 (upd (upd (upd mi 4 1) 5 p1) 6 p2) mr km fm_trust fm_letter fm_reportPlace fm_reportKind fm_struck fm_reportMonth fm_reportDay fm_reportKnown fm_deedMonth fm_deedDay fm_deedLong fm_deedKind fm_kept fm_tape fm_must fm_least fm_pin fm_ways fm_verdict fm_row fm_official fm_aside fm_worth fm_out 1 gmi_0 gmi_1 gmi_2 (gi_w (gi_c 1 1 (by decide)) (by decide)) gmi_7 gmi_10 gmi_17 gmi_23 gmi_24 gmi_26 gmi_29 gmi_30 gmi_33 gmi_37 gmi_41 gmi_50 gmi_51 gmi_56) (cwV 1 hts (gz_gV mGB_249 mGB_250 mGB_251 mGB_1 mGB_252 goodGB) rfl rfl rfl (by decide +kernel) ⟨Nat.le_of_ble_eq_true rfl, Nat.le_of_ble_eq_true rfl⟩) ⟨bl_R, mw_recv hK hP, fun U hU hW => ⟨rfl, by rw [hU]; exact hP, va_K.moved hW.alike hK⟩⟩ rfl rfl hl.1 rfl (lv_room (Nat.le_of_ble_eq_true rfl)) dX12_moon_53 ⟨Nat.zero_le _, Nat.zero_le _⟩) hS (fun q _ h => h.elim) (fun q h => h.elim) (fun r_44 u t H1 locs ht hvm hw hB hz1 hk1 hS => ?_)
        obtain ⟨hw, hE⟩ := hw
        have hP := gz_keep hP hk1
        have hF := gf_callm (a := r_44) hE hF (by first | with_reducible rfl | simp only [upd_same, upd_app, ↓reduceIte, Nat.reduceEqDiff])
        generalize H1 = H at hP hS ⊢
        exact W.iret (v := r_44) hx hb hr (fun t ht hW => ⟨⟨r_44, r_44, rfl, ⟨rfl, (gi_any r_44)⟩, 1, p1, p2, (gi_w (gi_c 1 1 (by decide)) (by decide)), hF.trans hR9.symm, by rw [ht]; exact hP, hD⟩, hS.F ht⟩) hS.2.2 dX12_moon_56
      · have hF := gf_pos c_41 hF
        have g_45 : gi r_40 0 0 := gi_eq c_41 (gi_c 0 0 (by decide))
        refine lv_bipush (v := (-2)) hx hb dX12_moon_33 (by decide) ?_
        exact W.iret (v := (-2)) hx hb hr (fun t ht hW => ⟨⟨(-2), (-2), rfl, ⟨rfl, (gi_any (-2))⟩, (mi 4), (mi 5), (mi 6), gmi_4, hF.trans hR9.symm, by rw [ht]; exact hP, hD⟩, hS.F ht⟩) hS.2.2 dX12_moon_35
theorem dX12_trusts_0 : decode cX12_trusts 0 = .ok (.aload_n 0, 1) := by decide +kernel
theorem dX12_trusts_1 : decode cX12_trusts 1 = .ok (.iload_n 1, 1) := by decide +kernel
theorem dX12_trusts_2 : decode cX12_trusts 2 = .ok (.invokevirtual 294, 3) := by decide +kernel
theorem dX12_trusts_5 : decode cX12_trusts 5 = .ok (.ifCond .eq 15, 3) := by decide +kernel
theorem dX12_trusts_8 : decode cX12_trusts 8 = .ok (.iload_n 2, 1) := by decide +kernel
theorem dX12_trusts_9 : decode cX12_trusts 9 = .ok (.i2l, 1) := by decide +kernel
theorem dX12_trusts_10 : decode cX12_trusts 10 = .ok (.lconst 0, 1) := by decide +kernel
theorem dX12_trusts_11 : decode cX12_trusts 11 = .ok (.ldc2_w 486, 3) := by decide +kernel
theorem dX12_trusts_14 : decode cX12_trusts 14 = .ok (.invokestatic 102, 3) := by decide +kernel
theorem dX12_trusts_17 : decode cX12_trusts 17 = .ok (.ifCond .ne 6, 3) := by decide +kernel
theorem dX12_trusts_20 : decode cX12_trusts 20 = .ok (.bipush (-2), 2) := by decide +kernel
theorem dX12_trusts_22 : decode cX12_trusts 22 = .ok (.ireturn, 1) := by decide +kernel
theorem dX12_trusts_23 : decode cX12_trusts 23 = .ok (.aload_n 0, 1) := by decide +kernel
theorem dX12_trusts_24 : decode cX12_trusts 24 = .ok (.getfield 7, 3) := by decide +kernel
theorem dX12_trusts_27 : decode cX12_trusts 27 = .ok (.iload_n 1, 1) := by decide +kernel
theorem dX12_trusts_28 : decode cX12_trusts 28 = .ok (.iaload, 1) := by decide +kernel
theorem dX12_trusts_29 : decode cX12_trusts 29 = .ok (.istore_n 3, 1) := by decide +kernel
theorem dX12_trusts_30 : decode cX12_trusts 30 = .ok (.aload_n 0, 1) := by decide +kernel
theorem dX12_trusts_31 : decode cX12_trusts 31 = .ok (.getfield 7, 3) := by decide +kernel
theorem dX12_trusts_34 : decode cX12_trusts 34 = .ok (.iload_n 1, 1) := by decide +kernel
theorem dX12_trusts_35 : decode cX12_trusts 35 = .ok (.iload_n 2, 1) := by decide +kernel
theorem dX12_trusts_36 : decode cX12_trusts 36 = .ok (.iastore, 1) := by decide +kernel
theorem dX12_trusts_37 : decode cX12_trusts 37 = .ok (.iload_n 3, 1) := by decide +kernel
theorem dX12_trusts_38 : decode cX12_trusts 38 = .ok (.ireturn, 1) := by decide +kernel
noncomputable def bfX12_trusts_20 (mi : Nat → Int32) (fm_trust : Nat → Int32) (p1 : Int32) (p2 : Int32) (z1 : Nat → Int32) : Int32 × (Nat → Int32) := ((-2 : Int32), z1)
noncomputable def fX12_trusts (mi : Nat → Int32) (fm_trust : Nat → Int32) (p1 : Int32) (p2 : Int32) : Int32 × (Nat → Int32) := cal (fun o1 => if o1 = (0 : Int32) then (bfX12_trusts_20 mi fm_trust p1 p2 fm_trust) else (cal (fun o2 => if o2 = (0 : Int32) then (bfX12_trusts_20 mi fm_trust p1 p2 fm_trust) else ((fm_trust p1.toNatClampNeg), (upd fm_trust p1.toNatClampNeg p2))) (fX12_in (p2.toInt64) (0 : Int64) (9 : Int64)))) (fX12_isPlace mi p1)
abbrev pb_sX12_trusts (dC : Nat → ClassId) (dI : Nat → Nat → Nat) (A9 : Nat → Prop) (h0 : Nat) (mi : Nat → Int32) (mr : Nat → Nat) (km : Nat → ClassId) (fm_trust : Nat → Int32) (fm_letter : Nat → Int32) (fm_reportPlace : Nat → Int32) (fm_reportKind : Nat → Int32) (fm_struck : Nat → Int32) (fm_reportMonth : Nat → Int32) (fm_reportDay : Nat → Int32) (fm_reportKnown : Nat → Int32) (fm_deedMonth : Nat → Int32) (fm_deedDay : Nat → Int32) (fm_deedLong : Nat → Int32) (fm_deedKind : Nat → Int32) (fm_kept : Nat → Int32) (fm_tape : Nat → Int32) (fm_must : Nat → Int32) (fm_least : Nat → Int32) (fm_pin : Nat → Int32) (fm_ways : Nat → Int32) (fm_verdict : Nat → Int32) (fm_row : Nat → Int32) (fm_official : Nat → Int32) (fm_aside : Nat → Int32) (fm_worth : Nat → Int32) (fm_out : Nat → Int32) (p1 : Int32) (p2 : Int32) (r : Int32) (z1 : Nat → Int32) (t : State) : Prop := (r, z1) = fX12_trusts mi fm_trust p1 p2 ∧ va_P (dC, dI) vwCl (MWn h0 mr km (mi 0) (mi 1) (mi 2) (mi 3) (mi 4) (mi 5) (mi 6) (mi 7) (mi 10) (mi 17) (mi 23) (mi 24) (mi 26) (mi 27) (mi 28) (mi 29) (mi 30) (mi 31) (mi 32) (mi 33) (mi 37) (mi 41) (mi 42) (mi 43) (mi 44) (mi 45) (mi 47) (mi 48) (mi 49) (mi 50) (mi 51) (mi 54) (mi 56) z1 fm_letter fm_reportPlace fm_reportKind fm_struck fm_reportMonth fm_reportDay fm_reportKnown fm_deedMonth fm_deedDay fm_deedLong fm_deedKind fm_kept fm_tape fm_must fm_least fm_pin fm_ways fm_verdict fm_row fm_official fm_aside fm_worth fm_out) t.heap ∧ va_D A9 (MWn h0 mr km (mi 0) (mi 1) (mi 2) (mi 3) (mi 4) (mi 5) (mi 6) (mi 7) (mi 10) (mi 17) (mi 23) (mi 24) (mi 26) (mi 27) (mi 28) (mi 29) (mi 30) (mi 31) (mi 32) (mi 33) (mi 37) (mi 41) (mi 42) (mi 43) (mi 44) (mi 45) (mi 47) (mi 48) (mi 49) (mi 50) (mi 51) (mi 54) (mi 56) z1 fm_letter fm_reportPlace fm_reportKind fm_struck fm_reportMonth fm_reportDay fm_reportKnown fm_deedMonth fm_deedDay fm_deedLong fm_deedKind fm_kept fm_tape fm_must fm_least fm_pin fm_ways fm_verdict fm_row fm_official fm_aside fm_worth fm_out)
set_option maxHeartbeats 4000000 in
set_option maxRecDepth 100000 in
theorem sX12_trusts (l : Launch) (dC : Nat → ClassId) (dI : Nat → Nat → Nat) (sz : Nat) (h0 : Nat) (mi : Nat → Int32) (mr : Nat → Nat) (km : Nat → ClassId) (fm_trust : Nat → Int32) (fm_letter : Nat → Int32) (fm_reportPlace : Nat → Int32) (fm_reportKind : Nat → Int32) (fm_struck : Nat → Int32) (fm_reportMonth : Nat → Int32) (fm_reportDay : Nat → Int32) (fm_reportKnown : Nat → Int32) (fm_deedMonth : Nat → Int32) (fm_deedDay : Nat → Int32) (fm_deedLong : Nat → Int32) (fm_deedKind : Nat → Int32) (fm_kept : Nat → Int32) (fm_tape : Nat → Int32) (fm_must : Nat → Int32) (fm_least : Nat → Int32) (fm_pin : Nat → Int32) (fm_ways : Nat → Int32) (fm_verdict : Nat → Int32) (fm_row : Nat → Int32) (fm_official : Nat → Int32) (fm_aside : Nat → Int32) (fm_worth : Nat → Int32) (fm_out : Nat → Int32) (p1 : Int32) (p2 : Int32) (gmi_0 : gi (mi 0) 0 24) (gmi_1 : gi (mi 1) 0 5) (gmi_2 : gi (mi 2) 0 5) (gmi_4 : gi (mi 4) 0 1) (gmi_7 : gi (mi 7) 0 6) (gmi_10 : gi (mi 10) 0 24) (gmi_17 : gi (mi 17) 0 8) (gmi_23 : gi (mi 23) 0 300) (gmi_24 : gi (mi 24) 0 1) (gmi_26 : gi (mi 26) 0 1600) (gmi_29 : gi (mi 29) 0 1600) (gmi_30 : gi (mi 30) 0 1600) (gmi_33 : gi (mi 33) 0 1) (gmi_37 : gi (mi 37) 0 1) (gmi_41 : gi (mi 41) 0 24) (gmi_50 : gi (mi 50) 0 1) (gmi_51 : gi (mi 51) 0 1) (gmi_56 : gi (mi 56) 0 80) : Met l yX12_trusts (.code yX12_trusts cX12_trusts 4 (some .int) :: wsGB) ({ frames := 2, cells := 0, slots := 0, locals := 46 }) (va_Pc [.ref h0, .int p1, .int p2] (fun U => U.heap.size = sz ∧ va_P (dC, dI) vwCl (MWn h0 mr km (mi 0) (mi 1) (mi 2) (mi 3) (mi 4) (mi 5) (mi 6) (mi 7) (mi 10) (mi 17) (mi 23) (mi 24) (mi 26) (mi 27) (mi 28) (mi 29) (mi 30) (mi 31) (mi 32) (mi 33) (mi 37) (mi 41) (mi 42) (mi 43) (mi 44) (mi 45) (mi 47) (mi 48) (mi 49) (mi 50) (mi 51) (mi 54) (mi 56) fm_trust fm_letter fm_reportPlace fm_reportKind fm_struck fm_reportMonth fm_reportDay fm_reportKnown fm_deedMonth fm_deedDay fm_deedLong fm_deedKind fm_kept fm_tape fm_must fm_least fm_pin fm_ways fm_verdict fm_row fm_official fm_aside fm_worth fm_out) U.heap ∧ va_K (dC, dI) vwCl (MT km) U ∧ va_D (fun _ => True) (MWn h0 mr km (mi 0) (mi 1) (mi 2) (mi 3) (mi 4) (mi 5) (mi 6) (mi 7) (mi 10) (mi 17) (mi 23) (mi 24) (mi 26) (mi 27) (mi 28) (mi 29) (mi 30) (mi 31) (mi 32) (mi 33) (mi 37) (mi 41) (mi 42) (mi 43) (mi 44) (mi 45) (mi 47) (mi 48) (mi 49) (mi 50) (mi 51) (mi 54) (mi 56) fm_trust fm_letter fm_reportPlace fm_reportKind fm_struck fm_reportMonth fm_reportDay fm_reportKnown fm_deedMonth fm_deedDay fm_deedLong fm_deedKind fm_kept fm_tape fm_must fm_least fm_pin fm_ways fm_verdict fm_row fm_official fm_aside fm_worth fm_out))) (va_Qi (fun (r : Int32) (u : Int32) => r = u ∧ gi r (-2147483648) 2147483647) (fun r t => ∃ (z1 : Nat → Int32), pb_sX12_trusts dC dI (va_A (MWn h0 mr km (mi 0) (mi 1) (mi 2) (mi 3) (mi 4) (mi 5) (mi 6) (mi 7) (mi 10) (mi 17) (mi 23) (mi 24) (mi 26) (mi 27) (mi 28) (mi 29) (mi 30) (mi 31) (mi 32) (mi 33) (mi 37) (mi 41) (mi 42) (mi 43) (mi 44) (mi 45) (mi 47) (mi 48) (mi 49) (mi 50) (mi 51) (mi 54) (mi 56) fm_trust fm_letter fm_reportPlace fm_reportKind fm_struck fm_reportMonth fm_reportDay fm_reportKnown fm_deedMonth fm_deedDay fm_deedLong fm_deedKind fm_kept fm_tape fm_must fm_least fm_pin fm_ways fm_verdict fm_row fm_official fm_aside fm_worth fm_out) sz) h0 mi mr km fm_trust fm_letter fm_reportPlace fm_reportKind fm_struck fm_reportMonth fm_reportDay fm_reportKnown fm_deedMonth fm_deedDay fm_deedLong fm_deedKind fm_kept fm_tape fm_must fm_least fm_pin fm_ways fm_verdict fm_row fm_official fm_aside fm_worth fm_out p1 p2 r z1 t) (va_A (MWn h0 mr km (mi 0) (mi 1) (mi 2) (mi 3) (mi 4) (mi 5) (mi 6) (mi 7) (mi 10) (mi 17) (mi 23) (mi 24) (mi 26) (mi 27) (mi 28) (mi 29) (mi 30) (mi 31) (mi 32) (mi 33) (mi 37) (mi 41) (mi 42) (mi 43) (mi 44) (mi 45) (mi 47) (mi 48) (mi 49) (mi 50) (mi 51) (mi 54) (mi 56) fm_trust fm_letter fm_reportPlace fm_reportKind fm_struck fm_reportMonth fm_reportDay fm_reportKnown fm_deedMonth fm_deedDay fm_deedLong fm_deedKind fm_kept fm_tape fm_must fm_least fm_pin fm_ways fm_verdict fm_row fm_official fm_aside fm_worth fm_out) sz)) 0 0 (va_A (MWn h0 mr km (mi 0) (mi 1) (mi 2) (mi 3) (mi 4) (mi 5) (mi 6) (mi 7) (mi 10) (mi 17) (mi 23) (mi 24) (mi 26) (mi 27) (mi 28) (mi 29) (mi 30) (mi 31) (mi 32) (mi 33) (mi 37) (mi 41) (mi 42) (mi 43) (mi 44) (mi 45) (mi 47) (mi 48) (mi 49) (mi 50) (mi 51) (mi 54) (mi 56) fm_trust fm_letter fm_reportPlace fm_reportKind fm_struck fm_reportMonth fm_reportDay fm_reportKnown fm_deedMonth fm_deedDay fm_deedLong fm_deedKind fm_kept fm_tape fm_must fm_least fm_pin fm_ways fm_verdict fm_row fm_official fm_aside fm_worth fm_out) sz) := by
  refine Met.ofW (cc := cX12_trusts) (maxL := 4) (ret := (some .int)) (by decide) rfl ?_
  intro p e s m args below meth c s₁ B hml hv
  obtain ⟨rfl, hsz, hP, hK, hD0⟩ := hv
  have hx := B.exec
  have hb := B.bytes
  have hr := B.returns
  have hts := atoms_spec (ws := (.code yX12_trusts cX12_trusts 4 (some .int) :: wsGB)) B.pre
  have hown : s.vm.findClass RX12 = some m.cls := findClass_of_methodNamed B.named
  have hlocks := B.notSynchronized
  subst hsz
  have hD := hD0.self (sz := s.heap.size)
  generalize hAe : va_A (MWn h0 mr km (mi 0) (mi 1) (mi 2) (mi 3) (mi 4) (mi 5) (mi 6) (mi 7) (mi 10) (mi 17) (mi 23) (mi 24) (mi 26) (mi 27) (mi 28) (mi 29) (mi 30) (mi 31) (mi 32) (mi 33) (mi 37) (mi 41) (mi 42) (mi 43) (mi 44) (mi 45) (mi 47) (mi 48) (mi 49) (mi 50) (mi 51) (mi 54) (mi 56) fm_trust fm_letter fm_reportPlace fm_reportKind fm_struck fm_reportMonth fm_reportDay fm_reportKnown fm_deedMonth fm_deedDay fm_deedLong fm_deedKind fm_kept fm_tape fm_must fm_least fm_pin fm_ways fm_verdict fm_row fm_official fm_aside fm_worth fm_out) s.heap.size = A at hD ⊢
  have hA : ∀ q : Nat, s.heap.size ≤ q → A q := fun q h => by rw [← hAe]; exact Or.inr h
  have hS : va_S A s.heap s.heap [] := va_S.rf
  have hl := lv_entry ([.ref h0, .int p1, .int p2]) (n := 4) (Nat.le_of_ble_eq_true rfl)
  rw [lg_entry_eq]
  generalize (lg_sl ([.ref h0, .int p1, .int p2]) ++ List.replicate (4 - (lg_sl ([.ref h0, .int p1, .int p2])).length) Slot.unset).toArray = ls at hl ⊢
  have hl : lv_has ls 4 [(0, .ref h0), (1, .int p1), (2, .int p2)] := hl
  obtain ⟨RES, hF⟩ : ∃ R9, fX12_trusts mi fm_trust p1 p2 = R9 := ⟨_, rfl⟩
  have hR9 := hF
  refine lv_aload_n hx hb dX12_trusts_0 rfl (lv_at hl 0 rfl) ?_
  refine lv_iload_n hx hb dX12_trusts_1 rfl (lv_at hl 1 rfl) ?_
  refine va_calli (va_runV (As := [.int p1]) (rest := []) ⟨hx, hb, hml, hown, hts⟩ (sX12_isPlace l dC dI h0 mi mr km fm_trust fm_letter fm_reportPlace fm_reportKind fm_struck fm_reportMonth fm_reportDay fm_reportKnown fm_deedMonth fm_deedDay fm_deedLong fm_deedKind fm_kept fm_tape fm_must fm_least fm_pin fm_ways fm_verdict fm_row fm_official fm_aside fm_worth fm_out p1 gmi_0 gmi_1 gmi_2 gmi_4 gmi_7 gmi_10 gmi_17 gmi_23 gmi_24 gmi_26 gmi_29 gmi_30 gmi_33 gmi_37 gmi_41 gmi_50 gmi_51 gmi_56) (cwV 1 hts (gz_gV mGB_224 mGB_225 mGB_226 mGB_1 mGB_227 goodGB) rfl rfl rfl (by decide +kernel) ⟨Nat.le_of_ble_eq_true rfl, Nat.le_of_ble_eq_true rfl⟩) ⟨bl_R, mw_recv hK hP, fun U hU hW => ⟨rfl, by rw [hU]; exact hP, va_K.moved hW.alike hK⟩⟩ rfl rfl hl.1 rfl (lv_room (Nat.le_of_ble_eq_true rfl)) dX12_trusts_2 ⟨Nat.zero_le _, Nat.zero_le _⟩) hS (fun q _ h => h.elim) (fun q h => h.elim) (fun r_27 u t H1 locs ht hvm hw hB hz1 hk1 hS => ?_)
  obtain ⟨hw, hE⟩ := hw
  have hP := gz_keep hP hk1
  have hF := gf_callm (a := r_27) hE hF (by first | with_reducible rfl | simp only [upd_same, upd_app, ↓reduceIte, Nat.reduceEqDiff])
  generalize H1 = H at hP hS ⊢
  have gr_27 : gi r_27 0 1 := hw.1
  have hqr_27 := hw.2
  refine lv_if_eq (tgt := 20) hx hb dX12_trusts_5 (by decide) (fun c_28 => ?_) (fun c_28 => ?_)
  · have hF := gf_pos c_28 hF
    have g_29 : gi r_27 0 0 := gi_eq c_28 (gi_c 0 0 (by decide))
    refine lv_bipush (v := (-2)) hx hb dX12_trusts_20 (by decide) ?_
    exact W.iret (v := (-2)) hx hb hr (fun t ht hW => ⟨⟨(-2), (-2), rfl, ⟨rfl, (gi_any (-2))⟩, fm_trust, hF.trans hR9.symm, by rw [ht]; exact hP, hD⟩, hS.F ht⟩) hS.2.2 dX12_trusts_22
  · have hF := gf_neg c_28 hF
    have g_30 : gi r_27 1 1 := gi_ne_lo c_28 gr_27 (gi_c 0 0 (by decide)) (by decide)
    have g_31 : gi p1 0 5 := gi_cap (gi_any p1) (hqr_27 (gz_one g_30)) (by decide)
    refine lv_iload_n hx hb dX12_trusts_8 rfl (lv_at hl 2 rfl) ?_
    refine lv_i2l (v := (p2).toInt64) hx hb dX12_trusts_9 rfl ?_
    refine lv_topl (fun l_32 el_32 => ?_)
    refine lv_lconst (v := 0) hx hb dX12_trusts_10 (by decide) ?_
    refine lv_ldc2 (own := RX12) (v := 9) hx hb hown (hts _ (List.mem_cons_of_mem _ mGB_585)) dX12_trusts_11 ?_
    have hPc := hP.sub (ws' := []) [] rfl
    have hKc := hK.sub (tys' := []) [] rfl
    refine va_calli (va_runS (As := [.long l_32, .long 0, .long 9]) (rest := []) ⟨hx, hb, hml, hown, hts⟩ (sX12_in l dC dI l_32 0 9) (cwS 3 hts (gz_gS mGB_47 mGB_48 mGB_1 mGB_49 goodGB) rfl rfl rfl (by decide +kernel) ⟨Nat.le_of_ble_eq_true rfl, Nat.le_of_ble_eq_true rfl⟩) ⟨bl_R, fun U hU hW => ⟨rfl, by rw [hU]; exact hPc, va_K.moved hW.alike hKc⟩⟩ rfl rfl hl.1 rfl (lv_room (Nat.le_of_ble_eq_true rfl)) dX12_trusts_14 ⟨Nat.zero_le _, Nat.zero_le _⟩) hS (fun q _ h => h.elim) (fun q h => h.elim) (fun r_33 u t H1 locs ht hvm hw hB hz1 hk1 hS => ?_)
    obtain ⟨hw, hE⟩ := hw
    have hP := gz_keep hP hk1
    have hF := gf_call (a := r_33) (by rw [el_32] at hE; exact hE) hF
    generalize H1 = H at hP hS ⊢
    have gr_33 : gi r_33 0 1 := hw.1
    have hqr_33 := hw.2
    refine lv_if_ne (tgt := 23) hx hb dX12_trusts_17 (by decide) (fun c_34 => ?_) (fun c_34 => ?_)
    · have hF := gf_neg c_34 hF
      have g_35 : gi r_33 1 1 := gi_ne_lo c_34 gr_33 (gi_c 0 0 (by decide)) (by decide)
      have g_36 : gi p2 0 9 := gi_cap (gi_any p2) (gz_inr (hqr_33.1 (gz_one g_35)) el_32 (A := 0) (B := 9) (by decide) (by decide)) (by decide)
      refine lv_aload_n hx hb dX12_trusts_23 rfl (lv_at hl 0 rfl) ?_
      refine va_get (D := (dC, dI)) (ci := 12) (v := .ref (mr 0)) (C := RX12) (T := TX12) (N := 57) hx hb hts (fun w h => List.mem_cons_of_mem _ (jnGB_X12 w h)) hown hK hP 0 rfl rfl 8 (by decide) (hts _ (List.mem_cons_of_mem _ mGB_10)) (fun _ h9 => h9) rfl dX12_trusts_24 ?_
      refine lv_iload_n hx hb dX12_trusts_27 rfl (lv_at hl 1 rfl) ?_
      refine va_iald hx hb hK hP 1 0 rfl rfl (gi_in g_31 (by decide)) dX12_trusts_28 ?_
      refine lv_topi (fun x_37 ex_37 => ?_)
      refine lv_istore_n (lv' := [(3, .int x_37), (0, .ref h0), (1, .int p1), (2, .int p2)]) hx hb dX12_trusts_29 rfl hl (by decide) rfl (fun ls hl => ?_)
      refine lv_aload_n hx hb dX12_trusts_30 rfl (lv_at hl 1 rfl) ?_
      refine va_get (D := (dC, dI)) (ci := 12) (v := .ref (mr 0)) (C := RX12) (T := TX12) (N := 57) hx hb hts (fun w h => List.mem_cons_of_mem _ (jnGB_X12 w h)) hown hK hP 0 rfl rfl 8 (by decide) (hts _ (List.mem_cons_of_mem _ mGB_10)) (fun _ h9 => h9) rfl dX12_trusts_31 ?_
      refine lv_iload_n hx hb dX12_trusts_34 rfl (lv_at hl 2 rfl) ?_
      refine lv_iload_n hx hb dX12_trusts_35 rfl (lv_at hl 3 rfl) ?_
      refine va_iast hx hb hK hP hD hS 1 0 rfl rfl (gi_in g_31 (by decide)) dX12_trusts_36 (fun H locs hP hD hS => ?_)
      have hP : va_P (dC, dI) vwCl (MWn h0 mr km (mi 0) (mi 1) (mi 2) (mi 3) (mi 4) (mi 5) (mi 6) (mi 7) (mi 10) (mi 17) (mi 23) (mi 24) (mi 26) (mi 27) (mi 28) (mi 29) (mi 30) (mi 31) (mi 32) (mi 33) (mi 37) (mi 41) (mi 42) (mi 43) (mi 44) (mi 45) (mi 47) (mi 48) (mi 49) (mi 50) (mi 51) (mi 54) (mi 56) (upd fm_trust (p1 : Int32).toNatClampNeg p2) fm_letter fm_reportPlace fm_reportKind fm_struck fm_reportMonth fm_reportDay fm_reportKnown fm_deedMonth fm_deedDay fm_deedLong fm_deedKind fm_kept fm_tape fm_must fm_least fm_pin fm_ways fm_verdict fm_row fm_official fm_aside fm_worth fm_out) H := hP
      have hD : va_D A (MWn h0 mr km (mi 0) (mi 1) (mi 2) (mi 3) (mi 4) (mi 5) (mi 6) (mi 7) (mi 10) (mi 17) (mi 23) (mi 24) (mi 26) (mi 27) (mi 28) (mi 29) (mi 30) (mi 31) (mi 32) (mi 33) (mi 37) (mi 41) (mi 42) (mi 43) (mi 44) (mi 45) (mi 47) (mi 48) (mi 49) (mi 50) (mi 51) (mi 54) (mi 56) (upd fm_trust (p1 : Int32).toNatClampNeg p2) fm_letter fm_reportPlace fm_reportKind fm_struck fm_reportMonth fm_reportDay fm_reportKnown fm_deedMonth fm_deedDay fm_deedLong fm_deedKind fm_kept fm_tape fm_must fm_least fm_pin fm_ways fm_verdict fm_row fm_official fm_aside fm_worth fm_out) := hD
      generalize ef_38 : upd fm_trust (p1 : Int32).toNatClampNeg p2 = f_38 at hP hD
      refine lv_iload_n hx hb dX12_trusts_37 rfl (lv_at hl 0 rfl) ?_
      exact W.iret (v := x_37) hx hb hr (fun t ht hW => ⟨⟨x_37, x_37, rfl, ⟨rfl, (gi_any x_37)⟩, f_38, by rw [← ef_38, ex_37]; exact hF.trans hR9.symm, by rw [ht]; exact hP, hD⟩, hS.F ht⟩) hS.2.2 dX12_trusts_38
    · have hF := gf_pos c_34 hF
      have g_39 : gi r_33 0 0 := gi_eq c_34 (gi_c 0 0 (by decide))
      refine lv_bipush (v := (-2)) hx hb dX12_trusts_20 (by decide) ?_
      exact W.iret (v := (-2)) hx hb hr (fun t ht hW => ⟨⟨(-2), (-2), rfl, ⟨rfl, (gi_any (-2))⟩, fm_trust, hF.trans hR9.symm, by rw [ht]; exact hP, hD⟩, hS.F ht⟩) hS.2.2 dX12_trusts_22
theorem dX12_strikes_0 : decode cX12_strikes 0 = .ok (.aload_n 0, 1) := by decide +kernel
theorem dX12_strikes_1 : decode cX12_strikes 1 = .ok (.iload_n 1, 1) := by decide +kernel
theorem dX12_strikes_2 : decode cX12_strikes 2 = .ok (.invokevirtual 303, 3) := by decide +kernel
theorem dX12_strikes_5 : decode cX12_strikes 5 = .ok (.ifCond .ne 6, 3) := by decide +kernel
theorem dX12_strikes_8 : decode cX12_strikes 8 = .ok (.bipush (-2), 2) := by decide +kernel
theorem dX12_strikes_10 : decode cX12_strikes 10 = .ok (.ireturn, 1) := by decide +kernel
theorem dX12_strikes_11 : decode cX12_strikes 11 = .ok (.aload_n 0, 1) := by decide +kernel
theorem dX12_strikes_12 : decode cX12_strikes 12 = .ok (.getfield 22, 3) := by decide +kernel
theorem dX12_strikes_15 : decode cX12_strikes 15 = .ok (.iload_n 1, 1) := by decide +kernel
theorem dX12_strikes_16 : decode cX12_strikes 16 = .ok (.baload, 1) := by decide +kernel
theorem dX12_strikes_17 : decode cX12_strikes 17 = .ok (.ifCond .eq 6, 3) := by decide +kernel
theorem dX12_strikes_20 : decode cX12_strikes 20 = .ok (.bipush (-5), 2) := by decide +kernel
theorem dX12_strikes_22 : decode cX12_strikes 22 = .ok (.ireturn, 1) := by decide +kernel
theorem dX12_strikes_23 : decode cX12_strikes 23 = .ok (.aload_n 0, 1) := by decide +kernel
theorem dX12_strikes_24 : decode cX12_strikes 24 = .ok (.getfield 22, 3) := by decide +kernel
theorem dX12_strikes_27 : decode cX12_strikes 27 = .ok (.iload_n 1, 1) := by decide +kernel
theorem dX12_strikes_28 : decode cX12_strikes 28 = .ok (.iconst 1, 1) := by decide +kernel
theorem dX12_strikes_29 : decode cX12_strikes 29 = .ok (.bastore, 1) := by decide +kernel
theorem dX12_strikes_30 : decode cX12_strikes 30 = .ok (.iconst 0, 1) := by decide +kernel
theorem dX12_strikes_31 : decode cX12_strikes 31 = .ok (.istore_n 2, 1) := by decide +kernel
theorem dX12_strikes_32 : decode cX12_strikes 32 = .ok (.iconst 0, 1) := by decide +kernel
theorem dX12_strikes_33 : decode cX12_strikes 33 = .ok (.istore_n 3, 1) := by decide +kernel
theorem dX12_strikes_34 : decode cX12_strikes 34 = .ok (.iload_n 3, 1) := by decide +kernel
theorem dX12_strikes_35 : decode cX12_strikes 35 = .ok (.aload_n 0, 1) := by decide +kernel
theorem dX12_strikes_36 : decode cX12_strikes 36 = .ok (.getfield 141, 3) := by decide +kernel
theorem dX12_strikes_39 : decode cX12_strikes 39 = .ok (.if_icmp .ge 26, 3) := by decide +kernel
theorem dX12_strikes_42 : decode cX12_strikes 42 = .ok (.iload_n 2, 1) := by decide +kernel
theorem dX12_strikes_43 : decode cX12_strikes 43 = .ok (.aload_n 0, 1) := by decide +kernel
theorem dX12_strikes_44 : decode cX12_strikes 44 = .ok (.getfield 22, 3) := by decide +kernel
theorem dX12_strikes_47 : decode cX12_strikes 47 = .ok (.iload_n 3, 1) := by decide +kernel
theorem dX12_strikes_48 : decode cX12_strikes 48 = .ok (.baload, 1) := by decide +kernel
theorem dX12_strikes_49 : decode cX12_strikes 49 = .ok (.ifCond .eq 7, 3) := by decide +kernel
theorem dX12_strikes_52 : decode cX12_strikes 52 = .ok (.iconst 0, 1) := by decide +kernel
theorem dX12_strikes_53 : decode cX12_strikes 53 = .ok (.goto 4, 3) := by decide +kernel
theorem dX12_strikes_56 : decode cX12_strikes 56 = .ok (.iconst 1, 1) := by decide +kernel
theorem dX12_strikes_57 : decode cX12_strikes 57 = .ok (.iadd, 1) := by decide +kernel
theorem dX12_strikes_58 : decode cX12_strikes 58 = .ok (.istore_n 2, 1) := by decide +kernel
theorem dX12_strikes_59 : decode cX12_strikes 59 = .ok (.iinc 3 1, 3) := by decide +kernel
theorem dX12_strikes_62 : decode cX12_strikes 62 = .ok (.goto (-28), 3) := by decide +kernel
theorem dX12_strikes_65 : decode cX12_strikes 65 = .ok (.iload_n 2, 1) := by decide +kernel
theorem dX12_strikes_66 : decode cX12_strikes 66 = .ok (.ireturn, 1) := by decide +kernel
noncomputable def bfX12_strikes_57 (mi : Nat → Int32) (fm_struck : Nat → Int32) (p1 : Int32) (K : (Int32 → Int32 → (Nat → Int32) → (Int32 × (Nat → Int32)))) (v3 : Int32) (s0 : Int32) (s1 : Int32) (z1 : Nat → Int32) : Int32 × (Nat → Int32) := K (s1 + s0) (v3 + (1 : Int32)) z1
noncomputable def dfX12_strikes_34 (mi : Nat → Int32) (fm_struck : Nat → Int32) (p1 : Int32) (K : (Int32 → Int32 → (Nat → Int32) → (Int32 × (Nat → Int32)))) (v2 : Int32) (v3 : Int32) (z1 : Nat → Int32) : Int32 × (Nat → Int32) := if (mi 10) ≤ v3 then (v2, z1) else (if (z1 v3.toNatClampNeg) = (0 : Int32) then (bfX12_strikes_57 mi fm_struck p1 K v3 (1 : Int32) v2 z1) else (bfX12_strikes_57 mi fm_struck p1 K v3 (0 : Int32) v2 z1))
noncomputable def lfX12_strikes (mi : Nat → Int32) (fm_struck : Nat → Int32) (p1 : Int32) (z : Nat) : (Int32 → Int32 → (Nat → Int32) → (Int32 × (Nat → Int32))) := Nat.rec (motive := fun _ => (Int32 → Int32 → (Nat → Int32) → (Int32 × (Nat → Int32)))) (fun _ _ _ => (0, fun _ => 0)) (fun _ K => dfX12_strikes_34 mi fm_struck p1 K) z
noncomputable def fX12_strikes (mi : Nat → Int32) (fm_struck : Nat → Int32) (p1 : Int32) : Int32 × (Nat → Int32) := cal (fun o1 => if o1 = (0 : Int32) then ((-2 : Int32), fm_struck) else (if (fm_struck p1.toNatClampNeg) = (0 : Int32) then ((lfX12_strikes mi fm_struck p1 1000000000) (0 : Int32) (0 : Int32) (upd fm_struck p1.toNatClampNeg (vp_nar .boolean (1 : Int32)))) else ((-5 : Int32), fm_struck))) (fX12_isReport mi p1)
set_option maxHeartbeats 4000000 in
set_option maxRecDepth 100000 in
theorem lp_sX12_strikes {p : Program} {l : Launch} {e : Env} {R : Room} {s : State} {m : MethodId} {args : Array Value} {below : List Frame} {meth : Method} {c : Code} {Q : State → Prop} {A : Nat → Prop} {cells slots : Nat} {dC : Nat → ClassId} {dI : Nat → Nat → Nat} {RES : Int32 × (Nat → Int32)} (h0 : Nat) (mi : Nat → Int32) (mr : Nat → Nat) (km : Nat → ClassId) (fm_struck : Nat → Int32) (fm_trust : Nat → Int32) (fm_letter : Nat → Int32) (fm_reportPlace : Nat → Int32) (fm_reportKind : Nat → Int32) (fm_reportMonth : Nat → Int32) (fm_reportDay : Nat → Int32) (fm_reportKnown : Nat → Int32) (fm_deedMonth : Nat → Int32) (fm_deedDay : Nat → Int32) (fm_deedLong : Nat → Int32) (fm_deedKind : Nat → Int32) (fm_kept : Nat → Int32) (fm_tape : Nat → Int32) (fm_must : Nat → Int32) (fm_least : Nat → Int32) (fm_pin : Nat → Int32) (fm_ways : Nat → Int32) (fm_verdict : Nat → Int32) (fm_row : Nat → Int32) (fm_official : Nat → Int32) (fm_aside : Nat → Int32) (fm_worth : Nat → Int32) (fm_out : Nat → Int32) (p1 : Int32) (gmi_0 : gi (mi 0) 0 24) (gmi_1 : gi (mi 1) 0 5) (gmi_2 : gi (mi 2) 0 5) (gmi_4 : gi (mi 4) 0 1) (gmi_7 : gi (mi 7) 0 6) (gmi_10 : gi (mi 10) 0 24) (gmi_17 : gi (mi 17) 0 8) (gmi_23 : gi (mi 23) 0 300) (gmi_24 : gi (mi 24) 0 1) (gmi_26 : gi (mi 26) 0 1600) (gmi_29 : gi (mi 29) 0 1600) (gmi_30 : gi (mi 30) 0 1600) (gmi_33 : gi (mi 33) 0 1) (gmi_37 : gi (mi 37) 0 1) (gmi_41 : gi (mi 41) 0 24) (gmi_50 : gi (mi 50) 0 1) (gmi_51 : gi (mi 51) 0 1) (gmi_56 : gi (mi 56) 0 80) (gfm_struck : ga fm_struck 24 0 1) (hx : p.tables.exec = Jvm.exec) (hb : c.code = cX12_strikes) (hml : c.maxLocals = 4) (hown : s.vm.findClass RX12 = some m.cls) (hts : ∀ w ∈ ((.code yX12_strikes cX12_strikes 4 (some .int) :: wsGB) : List Cond), w.before args s = true) (hK : va_K (dC, dI) vwCl (MT km) s) (hA : ∀ q : Nat, s.heap.size ≤ q → A q) (hRf : 2 ≤ R.frames) (hRl : 46 ≤ R.locals) (hRc : cells ≤ R.cells) (hRs : slots ≤ R.slots) (kr22 : ∀ (v : Int32) (z1 : Nat → Int32) (H : Heap) (locs : List Loc) (ls : Array Slot), gi v (-5) (-5) → ga z1 24 0 1 → (v, z1) = RES → va_P (dC, dI) vwCl (MWn h0 mr km (mi 0) (mi 1) (mi 2) (mi 3) (mi 4) (mi 5) (mi 6) (mi 7) (mi 10) (mi 17) (mi 23) (mi 24) (mi 26) (mi 27) (mi 28) (mi 29) (mi 30) (mi 31) (mi 32) (mi 33) (mi 37) (mi 41) (mi 42) (mi 43) (mi 44) (mi 45) (mi 47) (mi 48) (mi 49) (mi 50) (mi 51) (mi 54) (mi 56) fm_trust fm_letter fm_reportPlace fm_reportKind z1 fm_reportMonth fm_reportDay fm_reportKnown fm_deedMonth fm_deedDay fm_deedLong fm_deedKind fm_kept fm_tape fm_must fm_least fm_pin fm_ways fm_verdict fm_row fm_official fm_aside fm_worth fm_out) H → va_D A (MWn h0 mr km (mi 0) (mi 1) (mi 2) (mi 3) (mi 4) (mi 5) (mi 6) (mi 7) (mi 10) (mi 17) (mi 23) (mi 24) (mi 26) (mi 27) (mi 28) (mi 29) (mi 30) (mi 31) (mi 32) (mi 33) (mi 37) (mi 41) (mi 42) (mi 43) (mi 44) (mi 45) (mi 47) (mi 48) (mi 49) (mi 50) (mi 51) (mi 54) (mi 56) fm_trust fm_letter fm_reportPlace fm_reportKind z1 fm_reportMonth fm_reportDay fm_reportKnown fm_deedMonth fm_deedDay fm_deedLong fm_deedKind fm_kept fm_tape fm_must fm_least fm_pin fm_ways fm_verdict fm_row fm_official fm_aside fm_worth fm_out) → va_S A s.heap H locs → lv_has ls 4 [] → W p l e R s m args below meth c H locs cells slots Q (F0 m 22 ls [.int v])) (kr10 : ∀ (v : Int32) (z1 : Nat → Int32) (H : Heap) (locs : List Loc) (ls : Array Slot), gi v (-2) (-2) → ga z1 24 0 1 → (v, z1) = RES → va_P (dC, dI) vwCl (MWn h0 mr km (mi 0) (mi 1) (mi 2) (mi 3) (mi 4) (mi 5) (mi 6) (mi 7) (mi 10) (mi 17) (mi 23) (mi 24) (mi 26) (mi 27) (mi 28) (mi 29) (mi 30) (mi 31) (mi 32) (mi 33) (mi 37) (mi 41) (mi 42) (mi 43) (mi 44) (mi 45) (mi 47) (mi 48) (mi 49) (mi 50) (mi 51) (mi 54) (mi 56) fm_trust fm_letter fm_reportPlace fm_reportKind z1 fm_reportMonth fm_reportDay fm_reportKnown fm_deedMonth fm_deedDay fm_deedLong fm_deedKind fm_kept fm_tape fm_must fm_least fm_pin fm_ways fm_verdict fm_row fm_official fm_aside fm_worth fm_out) H → va_D A (MWn h0 mr km (mi 0) (mi 1) (mi 2) (mi 3) (mi 4) (mi 5) (mi 6) (mi 7) (mi 10) (mi 17) (mi 23) (mi 24) (mi 26) (mi 27) (mi 28) (mi 29) (mi 30) (mi 31) (mi 32) (mi 33) (mi 37) (mi 41) (mi 42) (mi 43) (mi 44) (mi 45) (mi 47) (mi 48) (mi 49) (mi 50) (mi 51) (mi 54) (mi 56) fm_trust fm_letter fm_reportPlace fm_reportKind z1 fm_reportMonth fm_reportDay fm_reportKnown fm_deedMonth fm_deedDay fm_deedLong fm_deedKind fm_kept fm_tape fm_must fm_least fm_pin fm_ways fm_verdict fm_row fm_official fm_aside fm_worth fm_out) → va_S A s.heap H locs → lv_has ls 4 [] → W p l e R s m args below meth c H locs cells slots Q (F0 m 10 ls [.int v])) (kr66 : ∀ (v : Int32) (z1 : Nat → Int32) (H : Heap) (locs : List Loc) (ls : Array Slot), ga z1 24 0 1 → (v, z1) = RES → va_P (dC, dI) vwCl (MWn h0 mr km (mi 0) (mi 1) (mi 2) (mi 3) (mi 4) (mi 5) (mi 6) (mi 7) (mi 10) (mi 17) (mi 23) (mi 24) (mi 26) (mi 27) (mi 28) (mi 29) (mi 30) (mi 31) (mi 32) (mi 33) (mi 37) (mi 41) (mi 42) (mi 43) (mi 44) (mi 45) (mi 47) (mi 48) (mi 49) (mi 50) (mi 51) (mi 54) (mi 56) fm_trust fm_letter fm_reportPlace fm_reportKind z1 fm_reportMonth fm_reportDay fm_reportKnown fm_deedMonth fm_deedDay fm_deedLong fm_deedKind fm_kept fm_tape fm_must fm_least fm_pin fm_ways fm_verdict fm_row fm_official fm_aside fm_worth fm_out) H → va_D A (MWn h0 mr km (mi 0) (mi 1) (mi 2) (mi 3) (mi 4) (mi 5) (mi 6) (mi 7) (mi 10) (mi 17) (mi 23) (mi 24) (mi 26) (mi 27) (mi 28) (mi 29) (mi 30) (mi 31) (mi 32) (mi 33) (mi 37) (mi 41) (mi 42) (mi 43) (mi 44) (mi 45) (mi 47) (mi 48) (mi 49) (mi 50) (mi 51) (mi 54) (mi 56) fm_trust fm_letter fm_reportPlace fm_reportKind z1 fm_reportMonth fm_reportDay fm_reportKnown fm_deedMonth fm_deedDay fm_deedLong fm_deedKind fm_kept fm_tape fm_must fm_least fm_pin fm_ways fm_verdict fm_row fm_official fm_aside fm_worth fm_out) → va_S A s.heap H locs → lv_has ls 4 [] → W p l e R s m args below meth c H locs cells slots Q (F0 m 66 ls [.int v])) : ∀ z : Nat, (∀ (v2 : Int32) (v3 : Int32) (z1 : Nat → Int32) (H : Heap) (locs : List Loc) (ls : Array Slot), gi p1 0 23 → gi v3 0 24 → ga z1 24 0 1 → (lfX12_strikes mi fm_struck p1 z) v2 v3 z1 = RES → 49 + (-2) * v3.toInt < (z : Int) → va_P (dC, dI) vwCl (MWn h0 mr km (mi 0) (mi 1) (mi 2) (mi 3) (mi 4) (mi 5) (mi 6) (mi 7) (mi 10) (mi 17) (mi 23) (mi 24) (mi 26) (mi 27) (mi 28) (mi 29) (mi 30) (mi 31) (mi 32) (mi 33) (mi 37) (mi 41) (mi 42) (mi 43) (mi 44) (mi 45) (mi 47) (mi 48) (mi 49) (mi 50) (mi 51) (mi 54) (mi 56) fm_trust fm_letter fm_reportPlace fm_reportKind z1 fm_reportMonth fm_reportDay fm_reportKnown fm_deedMonth fm_deedDay fm_deedLong fm_deedKind fm_kept fm_tape fm_must fm_least fm_pin fm_ways fm_verdict fm_row fm_official fm_aside fm_worth fm_out) H → va_D A (MWn h0 mr km (mi 0) (mi 1) (mi 2) (mi 3) (mi 4) (mi 5) (mi 6) (mi 7) (mi 10) (mi 17) (mi 23) (mi 24) (mi 26) (mi 27) (mi 28) (mi 29) (mi 30) (mi 31) (mi 32) (mi 33) (mi 37) (mi 41) (mi 42) (mi 43) (mi 44) (mi 45) (mi 47) (mi 48) (mi 49) (mi 50) (mi 51) (mi 54) (mi 56) fm_trust fm_letter fm_reportPlace fm_reportKind z1 fm_reportMonth fm_reportDay fm_reportKnown fm_deedMonth fm_deedDay fm_deedLong fm_deedKind fm_kept fm_tape fm_must fm_least fm_pin fm_ways fm_verdict fm_row fm_official fm_aside fm_worth fm_out) → va_S A s.heap H locs → lv_has ls 4 [(0, .ref h0), (1, .int p1), (2, .int v2), (3, .int v3)] → W p l e R s m args below meth c H locs cells slots Q (F0 m 34 ls [])) := by
  intro z
  induction z with
  | zero =>
    intro v2 v3 z1 H locs ls gf_p1 gv3 gz1 hF hmu hP hD hS hl
    exact absurd hmu (by have hv31 := gv3.1; have hv32 := gv3.2; omega)
  | succ z ih =>
      intro v2 v3 z1 H locs ls gf_p1 gv3 gz1 hF hmu hP hD hS hl
      have hF : dfX12_strikes_34 mi fm_struck p1 (lfX12_strikes mi fm_struck p1 z) v2 v3 z1 = RES := hF
      refine lv_iload_n hx hb dX12_strikes_34 rfl (lv_at hl 3 rfl) ?_
      refine lv_aload_n hx hb dX12_strikes_35 rfl (lv_at hl 0 rfl) ?_
      refine va_get (D := (dC, dI)) (ci := 12) (v := .int (mi 10)) (C := RX12) (T := TX12) (N := 57) hx hb hts (fun w h => List.mem_cons_of_mem _ (jnGB_X12 w h)) hown hK hP 0 rfl rfl 10 (by decide) (hts _ (List.mem_cons_of_mem _ mGB_111)) (fun _ h9 => h9) rfl dX12_strikes_36 ?_
      refine lv_icmp_ge (tgt := 65) hx hb dX12_strikes_39 (by decide) (fun c_820 => ?_) (fun c_820 => ?_)
      · have hF := gf_pos c_820 hF
        refine lv_iload_n hx hb dX12_strikes_65 rfl (lv_at hl 2 rfl) ?_
        exact kr66 v2 z1 _ _ _ gz1 hF hP hD hS (lv_sub hl [] rfl)
      · have hF := gf_neg c_820 hF
        have g_821 : gi v3 0 23 := gi_lt_l (Int32.not_le.mp c_820) gv3 gmi_10 (by decide)
        have g_822 : gi (mi 10) 1 24 := gi_lt_r (Int32.not_le.mp c_820) gv3 gmi_10 (by decide)
        refine lv_iload_n hx hb dX12_strikes_42 rfl (lv_at hl 2 rfl) ?_
        refine lv_aload_n hx hb dX12_strikes_43 rfl (lv_at hl 0 rfl) ?_
        refine va_get (D := (dC, dI)) (ci := 12) (v := .ref (mr 4)) (C := RX12) (T := TX12) (N := 57) hx hb hts (fun w h => List.mem_cons_of_mem _ (jnGB_X12 w h)) hown hK hP 0 rfl rfl 13 (by decide) (hts _ (List.mem_cons_of_mem _ mGB_15)) (fun _ h9 => h9) rfl dX12_strikes_44 ?_
        refine lv_iload_n hx hb dX12_strikes_47 rfl (lv_at hl 3 rfl) ?_
        refine va_zald hx hb hK hP 5 4 rfl rfl (gi_in g_821 (by decide)) dX12_strikes_48 ?_
        refine lv_topi (fun x_823 ex_823 => ?_)
        have gx_823 : gi x_823 0 1 := ga_at gz1 (gi_in g_821 (by decide)) ex_823
        refine lv_if_eq (tgt := 56) hx hb dX12_strikes_49 (by decide) (fun c_824 => ?_) (fun c_824 => ?_)
        · have hF := gf_pos (by rw [ex_823] at c_824; exact c_824) hF
          have g_825 : gi x_823 0 0 := gi_eq c_824 (gi_c 0 0 (by decide))
          refine lv_iconst (v := 1) hx hb dX12_strikes_56 (by decide) ?_
          refine lv_iadd hx hb dX12_strikes_57 ?_
          refine lv_topi (fun x_826 ex_826 => ?_)
          refine lv_istore_n (lv' := [(2, .int x_826), (0, .ref h0), (1, .int p1), (3, .int v3)]) hx hb dX12_strikes_58 rfl hl (by decide) rfl (fun ls hl => ?_)
          obtain ⟨x_827, ex_827⟩ : ∃ y : Int32, y = v3 + 1 := ⟨_, rfl⟩
          have gx_827 : gi x_827 1 24 := gi_add ex_827 g_821 (gi_c 1 1 (by decide)) (by decide)
          refine lv_iinc (v := x_827) (lv' := [(3, .int x_827), (2, .int x_826), (0, .ref h0), (1, .int p1)]) hx hb dX12_strikes_59 hl (k := 3) rfl (by rw [ex_827]; rfl) (by decide) rfl (fun ls hl => ?_)
          refine lv_goto (tgt := 34) hx hb dX12_strikes_62 (by decide) ?_
          exact ih x_826 x_827 z1 _ _ _ gf_p1 (gi_w gx_827 (by decide)) gz1 (by rw [ex_827, ex_826]; exact hF) (by have av3 := gv3.1; have bv3 := gv3.2; have qgx_827 := gx_827.1; have rgx_827 := gx_827.2; have igx_827 : x_827.toInt = v3.toInt + 1 := (by have hc1 : (1 : Int32).toInt = 1 := (by decide); have h9 := gi_addI ex_827 (by have h1 := g_821.1; have h2 := (gi_c 1 1 (by decide)).1; have h3 := g_821.2; have h4 := (gi_c 1 1 (by decide)).2; omega) (by have h1 := g_821.1; have h2 := (gi_c 1 1 (by decide)).1; have h3 := g_821.2; have h4 := (gi_c 1 1 (by decide)).2; omega); rw [hc1] at h9; exact h9); have qgv3 := g_821.1; have rgv3 := g_821.2; omega) hP hD hS (lv_sub hl [2, 3, 1, 0] rfl)
        · have hF := gf_neg (by rw [ex_823] at c_824; exact c_824) hF
          have g_828 : gi x_823 1 1 := gi_ne_lo c_824 gx_823 (gi_c 0 0 (by decide)) (by decide)
          refine lv_iconst (v := 0) hx hb dX12_strikes_52 (by decide) ?_
          refine lv_goto (tgt := 57) hx hb dX12_strikes_53 (by decide) ?_
          refine lv_iadd hx hb dX12_strikes_57 ?_
          refine lv_topi (fun x_829 ex_829 => ?_)
          refine lv_istore_n (lv' := [(2, .int x_829), (0, .ref h0), (1, .int p1), (3, .int v3)]) hx hb dX12_strikes_58 rfl hl (by decide) rfl (fun ls hl => ?_)
          obtain ⟨x_830, ex_830⟩ : ∃ y : Int32, y = v3 + 1 := ⟨_, rfl⟩
          have gx_830 : gi x_830 1 24 := gi_add ex_830 g_821 (gi_c 1 1 (by decide)) (by decide)
          refine lv_iinc (v := x_830) (lv' := [(3, .int x_830), (2, .int x_829), (0, .ref h0), (1, .int p1)]) hx hb dX12_strikes_59 hl (k := 3) rfl (by rw [ex_830]; rfl) (by decide) rfl (fun ls hl => ?_)
          refine lv_goto (tgt := 34) hx hb dX12_strikes_62 (by decide) ?_
          exact ih x_829 x_830 z1 _ _ _ gf_p1 (gi_w gx_830 (by decide)) gz1 (by rw [ex_830, ex_829]; exact hF) (by have av3 := gv3.1; have bv3 := gv3.2; have qgx_830 := gx_830.1; have rgx_830 := gx_830.2; have igx_830 : x_830.toInt = v3.toInt + 1 := (by have hc1 : (1 : Int32).toInt = 1 := (by decide); have h9 := gi_addI ex_830 (by have h1 := g_821.1; have h2 := (gi_c 1 1 (by decide)).1; have h3 := g_821.2; have h4 := (gi_c 1 1 (by decide)).2; omega) (by have h1 := g_821.1; have h2 := (gi_c 1 1 (by decide)).1; have h3 := g_821.2; have h4 := (gi_c 1 1 (by decide)).2; omega); rw [hc1] at h9; exact h9); have qgv3 := g_821.1; have rgv3 := g_821.2; omega) hP hD hS (lv_sub hl [2, 3, 1, 0] rfl)
abbrev pb_sX12_strikes (dC : Nat → ClassId) (dI : Nat → Nat → Nat) (A9 : Nat → Prop) (h0 : Nat) (mi : Nat → Int32) (mr : Nat → Nat) (km : Nat → ClassId) (fm_struck : Nat → Int32) (fm_trust : Nat → Int32) (fm_letter : Nat → Int32) (fm_reportPlace : Nat → Int32) (fm_reportKind : Nat → Int32) (fm_reportMonth : Nat → Int32) (fm_reportDay : Nat → Int32) (fm_reportKnown : Nat → Int32) (fm_deedMonth : Nat → Int32) (fm_deedDay : Nat → Int32) (fm_deedLong : Nat → Int32) (fm_deedKind : Nat → Int32) (fm_kept : Nat → Int32) (fm_tape : Nat → Int32) (fm_must : Nat → Int32) (fm_least : Nat → Int32) (fm_pin : Nat → Int32) (fm_ways : Nat → Int32) (fm_verdict : Nat → Int32) (fm_row : Nat → Int32) (fm_official : Nat → Int32) (fm_aside : Nat → Int32) (fm_worth : Nat → Int32) (fm_out : Nat → Int32) (p1 : Int32) (r : Int32) (z1 : Nat → Int32) (t : State) : Prop := ga z1 24 0 1 ∧ (r, z1) = fX12_strikes mi fm_struck p1 ∧ va_P (dC, dI) vwCl (MWn h0 mr km (mi 0) (mi 1) (mi 2) (mi 3) (mi 4) (mi 5) (mi 6) (mi 7) (mi 10) (mi 17) (mi 23) (mi 24) (mi 26) (mi 27) (mi 28) (mi 29) (mi 30) (mi 31) (mi 32) (mi 33) (mi 37) (mi 41) (mi 42) (mi 43) (mi 44) (mi 45) (mi 47) (mi 48) (mi 49) (mi 50) (mi 51) (mi 54) (mi 56) fm_trust fm_letter fm_reportPlace fm_reportKind z1 fm_reportMonth fm_reportDay fm_reportKnown fm_deedMonth fm_deedDay fm_deedLong fm_deedKind fm_kept fm_tape fm_must fm_least fm_pin fm_ways fm_verdict fm_row fm_official fm_aside fm_worth fm_out) t.heap ∧ va_D A9 (MWn h0 mr km (mi 0) (mi 1) (mi 2) (mi 3) (mi 4) (mi 5) (mi 6) (mi 7) (mi 10) (mi 17) (mi 23) (mi 24) (mi 26) (mi 27) (mi 28) (mi 29) (mi 30) (mi 31) (mi 32) (mi 33) (mi 37) (mi 41) (mi 42) (mi 43) (mi 44) (mi 45) (mi 47) (mi 48) (mi 49) (mi 50) (mi 51) (mi 54) (mi 56) fm_trust fm_letter fm_reportPlace fm_reportKind z1 fm_reportMonth fm_reportDay fm_reportKnown fm_deedMonth fm_deedDay fm_deedLong fm_deedKind fm_kept fm_tape fm_must fm_least fm_pin fm_ways fm_verdict fm_row fm_official fm_aside fm_worth fm_out)
set_option maxHeartbeats 4000000 in
set_option maxRecDepth 100000 in
theorem sX12_strikes (l : Launch) (dC : Nat → ClassId) (dI : Nat → Nat → Nat) (sz : Nat) (h0 : Nat) (mi : Nat → Int32) (mr : Nat → Nat) (km : Nat → ClassId) (fm_struck : Nat → Int32) (fm_trust : Nat → Int32) (fm_letter : Nat → Int32) (fm_reportPlace : Nat → Int32) (fm_reportKind : Nat → Int32) (fm_reportMonth : Nat → Int32) (fm_reportDay : Nat → Int32) (fm_reportKnown : Nat → Int32) (fm_deedMonth : Nat → Int32) (fm_deedDay : Nat → Int32) (fm_deedLong : Nat → Int32) (fm_deedKind : Nat → Int32) (fm_kept : Nat → Int32) (fm_tape : Nat → Int32) (fm_must : Nat → Int32) (fm_least : Nat → Int32) (fm_pin : Nat → Int32) (fm_ways : Nat → Int32) (fm_verdict : Nat → Int32) (fm_row : Nat → Int32) (fm_official : Nat → Int32) (fm_aside : Nat → Int32) (fm_worth : Nat → Int32) (fm_out : Nat → Int32) (p1 : Int32) (gmi_0 : gi (mi 0) 0 24) (gmi_1 : gi (mi 1) 0 5) (gmi_2 : gi (mi 2) 0 5) (gmi_4 : gi (mi 4) 0 1) (gmi_7 : gi (mi 7) 0 6) (gmi_10 : gi (mi 10) 0 24) (gmi_17 : gi (mi 17) 0 8) (gmi_23 : gi (mi 23) 0 300) (gmi_24 : gi (mi 24) 0 1) (gmi_26 : gi (mi 26) 0 1600) (gmi_29 : gi (mi 29) 0 1600) (gmi_30 : gi (mi 30) 0 1600) (gmi_33 : gi (mi 33) 0 1) (gmi_37 : gi (mi 37) 0 1) (gmi_41 : gi (mi 41) 0 24) (gmi_50 : gi (mi 50) 0 1) (gmi_51 : gi (mi 51) 0 1) (gmi_56 : gi (mi 56) 0 80) (gfm_struck : ga fm_struck 24 0 1) : Met l yX12_strikes (.code yX12_strikes cX12_strikes 4 (some .int) :: wsGB) ({ frames := 2, cells := 0, slots := 0, locals := 46 }) (va_Pc [.ref h0, .int p1] (fun U => U.heap.size = sz ∧ va_P (dC, dI) vwCl (MWn h0 mr km (mi 0) (mi 1) (mi 2) (mi 3) (mi 4) (mi 5) (mi 6) (mi 7) (mi 10) (mi 17) (mi 23) (mi 24) (mi 26) (mi 27) (mi 28) (mi 29) (mi 30) (mi 31) (mi 32) (mi 33) (mi 37) (mi 41) (mi 42) (mi 43) (mi 44) (mi 45) (mi 47) (mi 48) (mi 49) (mi 50) (mi 51) (mi 54) (mi 56) fm_trust fm_letter fm_reportPlace fm_reportKind fm_struck fm_reportMonth fm_reportDay fm_reportKnown fm_deedMonth fm_deedDay fm_deedLong fm_deedKind fm_kept fm_tape fm_must fm_least fm_pin fm_ways fm_verdict fm_row fm_official fm_aside fm_worth fm_out) U.heap ∧ va_K (dC, dI) vwCl (MT km) U ∧ va_D (fun _ => True) (MWn h0 mr km (mi 0) (mi 1) (mi 2) (mi 3) (mi 4) (mi 5) (mi 6) (mi 7) (mi 10) (mi 17) (mi 23) (mi 24) (mi 26) (mi 27) (mi 28) (mi 29) (mi 30) (mi 31) (mi 32) (mi 33) (mi 37) (mi 41) (mi 42) (mi 43) (mi 44) (mi 45) (mi 47) (mi 48) (mi 49) (mi 50) (mi 51) (mi 54) (mi 56) fm_trust fm_letter fm_reportPlace fm_reportKind fm_struck fm_reportMonth fm_reportDay fm_reportKnown fm_deedMonth fm_deedDay fm_deedLong fm_deedKind fm_kept fm_tape fm_must fm_least fm_pin fm_ways fm_verdict fm_row fm_official fm_aside fm_worth fm_out))) (va_Qi (fun (r : Int32) (u : Int32) => r = u ∧ gi r (-2147483648) 2147483647) (fun r t => ∃ (z1 : Nat → Int32), pb_sX12_strikes dC dI (va_A (MWn h0 mr km (mi 0) (mi 1) (mi 2) (mi 3) (mi 4) (mi 5) (mi 6) (mi 7) (mi 10) (mi 17) (mi 23) (mi 24) (mi 26) (mi 27) (mi 28) (mi 29) (mi 30) (mi 31) (mi 32) (mi 33) (mi 37) (mi 41) (mi 42) (mi 43) (mi 44) (mi 45) (mi 47) (mi 48) (mi 49) (mi 50) (mi 51) (mi 54) (mi 56) fm_trust fm_letter fm_reportPlace fm_reportKind fm_struck fm_reportMonth fm_reportDay fm_reportKnown fm_deedMonth fm_deedDay fm_deedLong fm_deedKind fm_kept fm_tape fm_must fm_least fm_pin fm_ways fm_verdict fm_row fm_official fm_aside fm_worth fm_out) sz) h0 mi mr km fm_struck fm_trust fm_letter fm_reportPlace fm_reportKind fm_reportMonth fm_reportDay fm_reportKnown fm_deedMonth fm_deedDay fm_deedLong fm_deedKind fm_kept fm_tape fm_must fm_least fm_pin fm_ways fm_verdict fm_row fm_official fm_aside fm_worth fm_out p1 r z1 t) (va_A (MWn h0 mr km (mi 0) (mi 1) (mi 2) (mi 3) (mi 4) (mi 5) (mi 6) (mi 7) (mi 10) (mi 17) (mi 23) (mi 24) (mi 26) (mi 27) (mi 28) (mi 29) (mi 30) (mi 31) (mi 32) (mi 33) (mi 37) (mi 41) (mi 42) (mi 43) (mi 44) (mi 45) (mi 47) (mi 48) (mi 49) (mi 50) (mi 51) (mi 54) (mi 56) fm_trust fm_letter fm_reportPlace fm_reportKind fm_struck fm_reportMonth fm_reportDay fm_reportKnown fm_deedMonth fm_deedDay fm_deedLong fm_deedKind fm_kept fm_tape fm_must fm_least fm_pin fm_ways fm_verdict fm_row fm_official fm_aside fm_worth fm_out) sz)) 0 0 (va_A (MWn h0 mr km (mi 0) (mi 1) (mi 2) (mi 3) (mi 4) (mi 5) (mi 6) (mi 7) (mi 10) (mi 17) (mi 23) (mi 24) (mi 26) (mi 27) (mi 28) (mi 29) (mi 30) (mi 31) (mi 32) (mi 33) (mi 37) (mi 41) (mi 42) (mi 43) (mi 44) (mi 45) (mi 47) (mi 48) (mi 49) (mi 50) (mi 51) (mi 54) (mi 56) fm_trust fm_letter fm_reportPlace fm_reportKind fm_struck fm_reportMonth fm_reportDay fm_reportKnown fm_deedMonth fm_deedDay fm_deedLong fm_deedKind fm_kept fm_tape fm_must fm_least fm_pin fm_ways fm_verdict fm_row fm_official fm_aside fm_worth fm_out) sz) := by
  refine Met.ofW (cc := cX12_strikes) (maxL := 4) (ret := (some .int)) (by decide) rfl ?_
  intro p e s m args below meth c s₁ B hml hv
  obtain ⟨rfl, hsz, hP, hK, hD0⟩ := hv
  have hx := B.exec
  have hb := B.bytes
  have hr := B.returns
  have hts := atoms_spec (ws := (.code yX12_strikes cX12_strikes 4 (some .int) :: wsGB)) B.pre
  have hown : s.vm.findClass RX12 = some m.cls := findClass_of_methodNamed B.named
  have hlocks := B.notSynchronized
  subst hsz
  have hD := hD0.self (sz := s.heap.size)
  generalize hAe : va_A (MWn h0 mr km (mi 0) (mi 1) (mi 2) (mi 3) (mi 4) (mi 5) (mi 6) (mi 7) (mi 10) (mi 17) (mi 23) (mi 24) (mi 26) (mi 27) (mi 28) (mi 29) (mi 30) (mi 31) (mi 32) (mi 33) (mi 37) (mi 41) (mi 42) (mi 43) (mi 44) (mi 45) (mi 47) (mi 48) (mi 49) (mi 50) (mi 51) (mi 54) (mi 56) fm_trust fm_letter fm_reportPlace fm_reportKind fm_struck fm_reportMonth fm_reportDay fm_reportKnown fm_deedMonth fm_deedDay fm_deedLong fm_deedKind fm_kept fm_tape fm_must fm_least fm_pin fm_ways fm_verdict fm_row fm_official fm_aside fm_worth fm_out) s.heap.size = A at hD ⊢
  have hA : ∀ q : Nat, s.heap.size ≤ q → A q := fun q h => by rw [← hAe]; exact Or.inr h
  have hS : va_S A s.heap s.heap [] := va_S.rf
  have hl := lv_entry ([.ref h0, .int p1]) (n := 4) (Nat.le_of_ble_eq_true rfl)
  rw [lg_entry_eq]
  generalize (lg_sl ([.ref h0, .int p1]) ++ List.replicate (4 - (lg_sl ([.ref h0, .int p1])).length) Slot.unset).toArray = ls at hl ⊢
  have hl : lv_has ls 4 [(0, .ref h0), (1, .int p1)] := hl
  obtain ⟨RES, hF⟩ : ∃ R9, fX12_strikes mi fm_struck p1 = R9 := ⟨_, rfl⟩
  have hR9 := hF
  refine lv_aload_n hx hb dX12_strikes_0 rfl (lv_at hl 0 rfl) ?_
  refine lv_iload_n hx hb dX12_strikes_1 rfl (lv_at hl 1 rfl) ?_
  refine va_calli (va_runV (As := [.int p1]) (rest := []) ⟨hx, hb, hml, hown, hts⟩ (sX12_isReport l dC dI h0 mi mr km fm_trust fm_letter fm_reportPlace fm_reportKind fm_struck fm_reportMonth fm_reportDay fm_reportKnown fm_deedMonth fm_deedDay fm_deedLong fm_deedKind fm_kept fm_tape fm_must fm_least fm_pin fm_ways fm_verdict fm_row fm_official fm_aside fm_worth fm_out p1 gmi_0 gmi_1 gmi_2 gmi_4 gmi_7 gmi_10 gmi_17 gmi_23 gmi_24 gmi_26 gmi_29 gmi_30 gmi_33 gmi_37 gmi_41 gmi_50 gmi_51 gmi_56) (cwV 1 hts (gz_gV mGB_235 mGB_236 mGB_237 mGB_1 mGB_238 goodGB) rfl rfl rfl (by decide +kernel) ⟨Nat.le_of_ble_eq_true rfl, Nat.le_of_ble_eq_true rfl⟩) ⟨bl_R, mw_recv hK hP, fun U hU hW => ⟨rfl, by rw [hU]; exact hP, va_K.moved hW.alike hK⟩⟩ rfl rfl hl.1 rfl (lv_room (Nat.le_of_ble_eq_true rfl)) dX12_strikes_2 ⟨Nat.zero_le _, Nat.zero_le _⟩) hS (fun q _ h => h.elim) (fun q h => h.elim) (fun r_831 u t H1 locs ht hvm hw hB hz1 hk1 hS => ?_)
  obtain ⟨hw, hE⟩ := hw
  have hP := gz_keep hP hk1
  have hF := gf_callm (a := r_831) hE hF (by first | with_reducible rfl | simp only [upd_same, upd_app, ↓reduceIte, Nat.reduceEqDiff])
  generalize H1 = H at hP hS ⊢
  have gr_831 : gi r_831 0 1 := hw.1
  have hqr_831 := hw.2
  refine lv_if_ne (tgt := 11) hx hb dX12_strikes_5 (by decide) (fun c_832 => ?_) (fun c_832 => ?_)
  · have hF := gf_neg c_832 hF
    have g_833 : gi r_831 1 1 := gi_ne_lo c_832 gr_831 (gi_c 0 0 (by decide)) (by decide)
    have g_834 : gi p1 0 23 := gi_cap (gi_any p1) (hqr_831 (gz_one g_833)) (by decide)
    refine lv_aload_n hx hb dX12_strikes_11 rfl (lv_at hl 0 rfl) ?_
    refine va_get (D := (dC, dI)) (ci := 12) (v := .ref (mr 4)) (C := RX12) (T := TX12) (N := 57) hx hb hts (fun w h => List.mem_cons_of_mem _ (jnGB_X12 w h)) hown hK hP 0 rfl rfl 13 (by decide) (hts _ (List.mem_cons_of_mem _ mGB_15)) (fun _ h9 => h9) rfl dX12_strikes_12 ?_
    refine lv_iload_n hx hb dX12_strikes_15 rfl (lv_at hl 1 rfl) ?_
    refine va_zald hx hb hK hP 5 4 rfl rfl (gi_in g_834 (by decide)) dX12_strikes_16 ?_
    refine lv_topi (fun x_835 ex_835 => ?_)
    have gx_835 : gi x_835 0 1 := ga_at gfm_struck (gi_in g_834 (by decide)) ex_835
    refine lv_if_eq (tgt := 23) hx hb dX12_strikes_17 (by decide) (fun c_836 => ?_) (fun c_836 => ?_)
    · have hF := gf_pos (by rw [ex_835] at c_836; exact c_836) hF
      have g_837 : gi x_835 0 0 := gi_eq c_836 (gi_c 0 0 (by decide))
      refine lv_aload_n hx hb dX12_strikes_23 rfl (lv_at hl 0 rfl) ?_
      refine va_get (D := (dC, dI)) (ci := 12) (v := .ref (mr 4)) (C := RX12) (T := TX12) (N := 57) hx hb hts (fun w h => List.mem_cons_of_mem _ (jnGB_X12 w h)) hown hK hP 0 rfl rfl 13 (by decide) (hts _ (List.mem_cons_of_mem _ mGB_15)) (fun _ h9 => h9) rfl dX12_strikes_24 ?_
      refine lv_iload_n hx hb dX12_strikes_27 rfl (lv_at hl 1 rfl) ?_
      refine lv_iconst (v := 1) hx hb dX12_strikes_28 (by decide) ?_
      refine va_zast hx hb hK hP hD hS 5 4 rfl rfl (gi_in g_834 (by decide)) dX12_strikes_29 (fun H locs hP hD hS => ?_)
      have hP : va_P (dC, dI) vwCl (MWn h0 mr km (mi 0) (mi 1) (mi 2) (mi 3) (mi 4) (mi 5) (mi 6) (mi 7) (mi 10) (mi 17) (mi 23) (mi 24) (mi 26) (mi 27) (mi 28) (mi 29) (mi 30) (mi 31) (mi 32) (mi 33) (mi 37) (mi 41) (mi 42) (mi 43) (mi 44) (mi 45) (mi 47) (mi 48) (mi 49) (mi 50) (mi 51) (mi 54) (mi 56) fm_trust fm_letter fm_reportPlace fm_reportKind (upd fm_struck (p1 : Int32).toNatClampNeg (vp_nar .boolean 1)) fm_reportMonth fm_reportDay fm_reportKnown fm_deedMonth fm_deedDay fm_deedLong fm_deedKind fm_kept fm_tape fm_must fm_least fm_pin fm_ways fm_verdict fm_row fm_official fm_aside fm_worth fm_out) H := hP
      have hD : va_D A (MWn h0 mr km (mi 0) (mi 1) (mi 2) (mi 3) (mi 4) (mi 5) (mi 6) (mi 7) (mi 10) (mi 17) (mi 23) (mi 24) (mi 26) (mi 27) (mi 28) (mi 29) (mi 30) (mi 31) (mi 32) (mi 33) (mi 37) (mi 41) (mi 42) (mi 43) (mi 44) (mi 45) (mi 47) (mi 48) (mi 49) (mi 50) (mi 51) (mi 54) (mi 56) fm_trust fm_letter fm_reportPlace fm_reportKind (upd fm_struck (p1 : Int32).toNatClampNeg (vp_nar .boolean 1)) fm_reportMonth fm_reportDay fm_reportKnown fm_deedMonth fm_deedDay fm_deedLong fm_deedKind fm_kept fm_tape fm_must fm_least fm_pin fm_ways fm_verdict fm_row fm_official fm_aside fm_worth fm_out) := hD
      have gf_838 : ga (upd fm_struck (p1 : Int32).toNatClampNeg (vp_nar .boolean 1)) 24 0 1 := ga_updz gfm_struck (gi_w (gi_c 1 1 (by decide)) (by decide))
      generalize ef_838 : upd fm_struck (p1 : Int32).toNatClampNeg (vp_nar .boolean 1) = f_838 at hP hD gf_838
      refine lv_iconst (v := 0) hx hb dX12_strikes_30 (by decide) ?_
      refine lv_istore_n (lv' := [(2, .int 0), (0, .ref h0), (1, .int p1)]) hx hb dX12_strikes_31 rfl hl (by decide) rfl (fun ls hl => ?_)
      refine lv_iconst (v := 0) hx hb dX12_strikes_32 (by decide) ?_
      refine lv_istore_n (lv' := [(3, .int 0), (2, .int 0), (0, .ref h0), (1, .int p1)]) hx hb dX12_strikes_33 rfl hl (by decide) rfl (fun ls hl => ?_)
      refine (lp_sX12_strikes (RES := RES) h0 mi mr km fm_struck fm_trust fm_letter fm_reportPlace fm_reportKind fm_reportMonth fm_reportDay fm_reportKnown fm_deedMonth fm_deedDay fm_deedLong fm_deedKind fm_kept fm_tape fm_must fm_least fm_pin fm_ways fm_verdict fm_row fm_official fm_aside fm_worth fm_out p1 gmi_0 gmi_1 gmi_2 gmi_4 gmi_7 gmi_10 gmi_17 gmi_23 gmi_24 gmi_26 gmi_29 gmi_30 gmi_33 gmi_37 gmi_41 gmi_50 gmi_51 gmi_56 gfm_struck hx hb hml hown hts hK hA (Nat.le_of_ble_eq_true rfl) (Nat.le_of_ble_eq_true rfl) (Nat.zero_le _) (Nat.zero_le _) (fun v z1 H locs ls gv gz1 hF hP hD hS hl => ?_) (fun v z1 H locs ls gv gz1 hF hP hD hS hl => ?_) (fun v z1 H locs ls gz1 hF hP hD hS hl => ?_) 1000000000) 0 0 f_838 _ _ _ g_834 (gi_w (gi_c 0 0 (by decide)) (by decide)) gf_838 (by rw [← ef_838]; exact hF) (by have k0 : (0 : Int32).toInt = 0 := (by decide); omega) hP hD hS (lv_sub hl [2, 3, 1, 0] rfl)
      · skip
        exact W.iret (v := v) hx hb hr (fun t ht hW => ⟨⟨v, v, rfl, ⟨rfl, (gi_any v)⟩, z1, gz1, hF.trans hR9.symm, by rw [ht]; exact hP, hD⟩, hS.F ht⟩) hS.2.2 dX12_strikes_22
      · skip
        exact W.iret (v := v) hx hb hr (fun t ht hW => ⟨⟨v, v, rfl, ⟨rfl, (gi_any v)⟩, z1, gz1, hF.trans hR9.symm, by rw [ht]; exact hP, hD⟩, hS.F ht⟩) hS.2.2 dX12_strikes_10
      · skip
        exact W.iret (v := v) hx hb hr (fun t ht hW => ⟨⟨v, v, rfl, ⟨rfl, (gi_any v)⟩, z1, gz1, hF.trans hR9.symm, by rw [ht]; exact hP, hD⟩, hS.F ht⟩) hS.2.2 dX12_strikes_66
    · have hF := gf_neg (by rw [ex_835] at c_836; exact c_836) hF
      have g_839 : gi x_835 1 1 := gi_ne_lo c_836 gx_835 (gi_c 0 0 (by decide)) (by decide)
      refine lv_bipush (v := (-5)) hx hb dX12_strikes_20 (by decide) ?_
      exact W.iret (v := (-5)) hx hb hr (fun t ht hW => ⟨⟨(-5), (-5), rfl, ⟨rfl, (gi_any (-5))⟩, fm_struck, gfm_struck, hF.trans hR9.symm, by rw [ht]; exact hP, hD⟩, hS.F ht⟩) hS.2.2 dX12_strikes_22
  · have hF := gf_pos c_832 hF
    have g_840 : gi r_831 0 0 := gi_eq c_832 (gi_c 0 0 (by decide))
    refine lv_bipush (v := (-2)) hx hb dX12_strikes_8 (by decide) ?_
    exact W.iret (v := (-2)) hx hb hr (fun t ht hW => ⟨⟨(-2), (-2), rfl, ⟨rfl, (gi_any (-2))⟩, fm_struck, gfm_struck, hF.trans hR9.symm, by rw [ht]; exact hP, hD⟩, hS.F ht⟩) hS.2.2 dX12_strikes_10
theorem dX12_end_0 : decode cX12_end 0 = .ok (.iload_n 1, 1) := by decide +kernel
theorem dX12_end_1 : decode cX12_end 1 = .ok (.i2l, 1) := by decide +kernel
theorem dX12_end_2 : decode cX12_end 2 = .ok (.lconst 0, 1) := by decide +kernel
theorem dX12_end_3 : decode cX12_end 3 = .ok (.aload_n 0, 1) := by decide +kernel
theorem dX12_end_4 : decode cX12_end 4 = .ok (.getfield 99, 3) := by decide +kernel
theorem dX12_end_7 : decode cX12_end 7 = .ok (.i2l, 1) := by decide +kernel
theorem dX12_end_8 : decode cX12_end 8 = .ok (.invokestatic 102, 3) := by decide +kernel
theorem dX12_end_11 : decode cX12_end 11 = .ok (.ifCond .ne 5, 3) := by decide +kernel
theorem dX12_end_14 : decode cX12_end 14 = .ok (.iconst (-1), 1) := by decide +kernel
theorem dX12_end_15 : decode cX12_end 15 = .ok (.ireturn, 1) := by decide +kernel
theorem dX12_end_16 : decode cX12_end 16 = .ok (.aload_n 0, 1) := by decide +kernel
theorem dX12_end_17 : decode cX12_end 17 = .ok (.iload_n 1, 1) := by decide +kernel
theorem dX12_end_18 : decode cX12_end 18 = .ok (.putfield 99, 3) := by decide +kernel
theorem dX12_end_21 : decode cX12_end 21 = .ok (.iload_n 1, 1) := by decide +kernel
theorem dX12_end_22 : decode cX12_end 22 = .ok (.ireturn, 1) := by decide +kernel
noncomputable def fX12_end (mi : Nat → Int32) (p1 : Int32) : Int32 × Int32 := cal (fun o1 => if o1 = (0 : Int32) then ((-1 : Int32), (mi 26)) else (p1, p1)) (fX12_in (p1.toInt64) (0 : Int64) ((mi 26).toInt64))
abbrev pb_sX12_end (dC : Nat → ClassId) (dI : Nat → Nat → Nat) (A9 : Nat → Prop) (h0 : Nat) (mi : Nat → Int32) (mr : Nat → Nat) (km : Nat → ClassId) (fm_trust : Nat → Int32) (fm_letter : Nat → Int32) (fm_reportPlace : Nat → Int32) (fm_reportKind : Nat → Int32) (fm_struck : Nat → Int32) (fm_reportMonth : Nat → Int32) (fm_reportDay : Nat → Int32) (fm_reportKnown : Nat → Int32) (fm_deedMonth : Nat → Int32) (fm_deedDay : Nat → Int32) (fm_deedLong : Nat → Int32) (fm_deedKind : Nat → Int32) (fm_kept : Nat → Int32) (fm_tape : Nat → Int32) (fm_must : Nat → Int32) (fm_least : Nat → Int32) (fm_pin : Nat → Int32) (fm_ways : Nat → Int32) (fm_verdict : Nat → Int32) (fm_row : Nat → Int32) (fm_official : Nat → Int32) (fm_aside : Nat → Int32) (fm_worth : Nat → Int32) (fm_out : Nat → Int32) (p1 : Int32) (r : Int32) (w0_26 : Int32) (t : State) : Prop := gi w0_26 0 1600 ∧ ((0 ≤ p1.toInt ∧ p1.toInt ≤ (mi 26).toInt ∧ w0_26.toInt = p1.toInt) ∨ ((p1.toInt < 0 ∨ (mi 26).toInt < p1.toInt) ∧ w0_26.toInt = (mi 26).toInt)) ∧ (r, w0_26) = fX12_end mi p1 ∧ va_P (dC, dI) vwCl (MWn h0 mr km (mi 0) (mi 1) (mi 2) (mi 3) (mi 4) (mi 5) (mi 6) (mi 7) (mi 10) (mi 17) (mi 23) (mi 24) w0_26 (mi 27) (mi 28) (mi 29) (mi 30) (mi 31) (mi 32) (mi 33) (mi 37) (mi 41) (mi 42) (mi 43) (mi 44) (mi 45) (mi 47) (mi 48) (mi 49) (mi 50) (mi 51) (mi 54) (mi 56) fm_trust fm_letter fm_reportPlace fm_reportKind fm_struck fm_reportMonth fm_reportDay fm_reportKnown fm_deedMonth fm_deedDay fm_deedLong fm_deedKind fm_kept fm_tape fm_must fm_least fm_pin fm_ways fm_verdict fm_row fm_official fm_aside fm_worth fm_out) t.heap ∧ va_D A9 (MWn h0 mr km (mi 0) (mi 1) (mi 2) (mi 3) (mi 4) (mi 5) (mi 6) (mi 7) (mi 10) (mi 17) (mi 23) (mi 24) w0_26 (mi 27) (mi 28) (mi 29) (mi 30) (mi 31) (mi 32) (mi 33) (mi 37) (mi 41) (mi 42) (mi 43) (mi 44) (mi 45) (mi 47) (mi 48) (mi 49) (mi 50) (mi 51) (mi 54) (mi 56) fm_trust fm_letter fm_reportPlace fm_reportKind fm_struck fm_reportMonth fm_reportDay fm_reportKnown fm_deedMonth fm_deedDay fm_deedLong fm_deedKind fm_kept fm_tape fm_must fm_least fm_pin fm_ways fm_verdict fm_row fm_official fm_aside fm_worth fm_out)
set_option maxHeartbeats 4000000 in
set_option maxRecDepth 100000 in
theorem sX12_end (l : Launch) (dC : Nat → ClassId) (dI : Nat → Nat → Nat) (sz : Nat) (h0 : Nat) (mi : Nat → Int32) (mr : Nat → Nat) (km : Nat → ClassId) (fm_trust : Nat → Int32) (fm_letter : Nat → Int32) (fm_reportPlace : Nat → Int32) (fm_reportKind : Nat → Int32) (fm_struck : Nat → Int32) (fm_reportMonth : Nat → Int32) (fm_reportDay : Nat → Int32) (fm_reportKnown : Nat → Int32) (fm_deedMonth : Nat → Int32) (fm_deedDay : Nat → Int32) (fm_deedLong : Nat → Int32) (fm_deedKind : Nat → Int32) (fm_kept : Nat → Int32) (fm_tape : Nat → Int32) (fm_must : Nat → Int32) (fm_least : Nat → Int32) (fm_pin : Nat → Int32) (fm_ways : Nat → Int32) (fm_verdict : Nat → Int32) (fm_row : Nat → Int32) (fm_official : Nat → Int32) (fm_aside : Nat → Int32) (fm_worth : Nat → Int32) (fm_out : Nat → Int32) (p1 : Int32) (gmi_0 : gi (mi 0) 0 24) (gmi_1 : gi (mi 1) 0 5) (gmi_2 : gi (mi 2) 0 5) (gmi_4 : gi (mi 4) 0 1) (gmi_7 : gi (mi 7) 0 6) (gmi_10 : gi (mi 10) 0 24) (gmi_17 : gi (mi 17) 0 8) (gmi_23 : gi (mi 23) 0 300) (gmi_24 : gi (mi 24) 0 1) (gmi_26 : gi (mi 26) 0 1600) (gmi_29 : gi (mi 29) 0 1600) (gmi_30 : gi (mi 30) 0 1600) (gmi_33 : gi (mi 33) 0 1) (gmi_37 : gi (mi 37) 0 1) (gmi_41 : gi (mi 41) 0 24) (gmi_50 : gi (mi 50) 0 1) (gmi_51 : gi (mi 51) 0 1) (gmi_56 : gi (mi 56) 0 80) : Met l yX12_end (.code yX12_end cX12_end 2 (some .int) :: wsGB) ({ frames := 1, cells := 0, slots := 0, locals := 25 }) (va_Pc [.ref h0, .int p1] (fun U => U.heap.size = sz ∧ va_P (dC, dI) vwCl (MWn h0 mr km (mi 0) (mi 1) (mi 2) (mi 3) (mi 4) (mi 5) (mi 6) (mi 7) (mi 10) (mi 17) (mi 23) (mi 24) (mi 26) (mi 27) (mi 28) (mi 29) (mi 30) (mi 31) (mi 32) (mi 33) (mi 37) (mi 41) (mi 42) (mi 43) (mi 44) (mi 45) (mi 47) (mi 48) (mi 49) (mi 50) (mi 51) (mi 54) (mi 56) fm_trust fm_letter fm_reportPlace fm_reportKind fm_struck fm_reportMonth fm_reportDay fm_reportKnown fm_deedMonth fm_deedDay fm_deedLong fm_deedKind fm_kept fm_tape fm_must fm_least fm_pin fm_ways fm_verdict fm_row fm_official fm_aside fm_worth fm_out) U.heap ∧ va_K (dC, dI) vwCl (MT km) U ∧ va_D (fun _ => True) (MWn h0 mr km (mi 0) (mi 1) (mi 2) (mi 3) (mi 4) (mi 5) (mi 6) (mi 7) (mi 10) (mi 17) (mi 23) (mi 24) (mi 26) (mi 27) (mi 28) (mi 29) (mi 30) (mi 31) (mi 32) (mi 33) (mi 37) (mi 41) (mi 42) (mi 43) (mi 44) (mi 45) (mi 47) (mi 48) (mi 49) (mi 50) (mi 51) (mi 54) (mi 56) fm_trust fm_letter fm_reportPlace fm_reportKind fm_struck fm_reportMonth fm_reportDay fm_reportKnown fm_deedMonth fm_deedDay fm_deedLong fm_deedKind fm_kept fm_tape fm_must fm_least fm_pin fm_ways fm_verdict fm_row fm_official fm_aside fm_worth fm_out))) (va_Qi (fun (r : Int32) (u : Int32) => r = u ∧ gi r (-1) 1600 ∧ ((0 ≤ p1.toInt ∧ p1.toInt ≤ (mi 26).toInt ∧ r.toInt = p1.toInt) ∨ ((p1.toInt < 0 ∨ (mi 26).toInt < p1.toInt) ∧ r.toInt = -1))) (fun r t => ∃ (w0_26 : Int32), pb_sX12_end dC dI (va_A (MWn h0 mr km (mi 0) (mi 1) (mi 2) (mi 3) (mi 4) (mi 5) (mi 6) (mi 7) (mi 10) (mi 17) (mi 23) (mi 24) (mi 26) (mi 27) (mi 28) (mi 29) (mi 30) (mi 31) (mi 32) (mi 33) (mi 37) (mi 41) (mi 42) (mi 43) (mi 44) (mi 45) (mi 47) (mi 48) (mi 49) (mi 50) (mi 51) (mi 54) (mi 56) fm_trust fm_letter fm_reportPlace fm_reportKind fm_struck fm_reportMonth fm_reportDay fm_reportKnown fm_deedMonth fm_deedDay fm_deedLong fm_deedKind fm_kept fm_tape fm_must fm_least fm_pin fm_ways fm_verdict fm_row fm_official fm_aside fm_worth fm_out) sz) h0 mi mr km fm_trust fm_letter fm_reportPlace fm_reportKind fm_struck fm_reportMonth fm_reportDay fm_reportKnown fm_deedMonth fm_deedDay fm_deedLong fm_deedKind fm_kept fm_tape fm_must fm_least fm_pin fm_ways fm_verdict fm_row fm_official fm_aside fm_worth fm_out p1 r w0_26 t) (va_A (MWn h0 mr km (mi 0) (mi 1) (mi 2) (mi 3) (mi 4) (mi 5) (mi 6) (mi 7) (mi 10) (mi 17) (mi 23) (mi 24) (mi 26) (mi 27) (mi 28) (mi 29) (mi 30) (mi 31) (mi 32) (mi 33) (mi 37) (mi 41) (mi 42) (mi 43) (mi 44) (mi 45) (mi 47) (mi 48) (mi 49) (mi 50) (mi 51) (mi 54) (mi 56) fm_trust fm_letter fm_reportPlace fm_reportKind fm_struck fm_reportMonth fm_reportDay fm_reportKnown fm_deedMonth fm_deedDay fm_deedLong fm_deedKind fm_kept fm_tape fm_must fm_least fm_pin fm_ways fm_verdict fm_row fm_official fm_aside fm_worth fm_out) sz)) 0 0 (va_A (MWn h0 mr km (mi 0) (mi 1) (mi 2) (mi 3) (mi 4) (mi 5) (mi 6) (mi 7) (mi 10) (mi 17) (mi 23) (mi 24) (mi 26) (mi 27) (mi 28) (mi 29) (mi 30) (mi 31) (mi 32) (mi 33) (mi 37) (mi 41) (mi 42) (mi 43) (mi 44) (mi 45) (mi 47) (mi 48) (mi 49) (mi 50) (mi 51) (mi 54) (mi 56) fm_trust fm_letter fm_reportPlace fm_reportKind fm_struck fm_reportMonth fm_reportDay fm_reportKnown fm_deedMonth fm_deedDay fm_deedLong fm_deedKind fm_kept fm_tape fm_must fm_least fm_pin fm_ways fm_verdict fm_row fm_official fm_aside fm_worth fm_out) sz) := by
  refine Met.ofW (cc := cX12_end) (maxL := 2) (ret := (some .int)) (by decide) rfl ?_
  intro p e s m args below meth c s₁ B hml hv
  obtain ⟨rfl, hsz, hP, hK, hD0⟩ := hv
  have hx := B.exec
  have hb := B.bytes
  have hr := B.returns
  have hts := atoms_spec (ws := (.code yX12_end cX12_end 2 (some .int) :: wsGB)) B.pre
  have hown : s.vm.findClass RX12 = some m.cls := findClass_of_methodNamed B.named
  have hlocks := B.notSynchronized
  subst hsz
  have hD := hD0.self (sz := s.heap.size)
  generalize hAe : va_A (MWn h0 mr km (mi 0) (mi 1) (mi 2) (mi 3) (mi 4) (mi 5) (mi 6) (mi 7) (mi 10) (mi 17) (mi 23) (mi 24) (mi 26) (mi 27) (mi 28) (mi 29) (mi 30) (mi 31) (mi 32) (mi 33) (mi 37) (mi 41) (mi 42) (mi 43) (mi 44) (mi 45) (mi 47) (mi 48) (mi 49) (mi 50) (mi 51) (mi 54) (mi 56) fm_trust fm_letter fm_reportPlace fm_reportKind fm_struck fm_reportMonth fm_reportDay fm_reportKnown fm_deedMonth fm_deedDay fm_deedLong fm_deedKind fm_kept fm_tape fm_must fm_least fm_pin fm_ways fm_verdict fm_row fm_official fm_aside fm_worth fm_out) s.heap.size = A at hD ⊢
  have hA : ∀ q : Nat, s.heap.size ≤ q → A q := fun q h => by rw [← hAe]; exact Or.inr h
  have hS : va_S A s.heap s.heap [] := va_S.rf
  have hl := lv_entry ([.ref h0, .int p1]) (n := 2) (Nat.le_of_ble_eq_true rfl)
  rw [lg_entry_eq]
  generalize (lg_sl ([.ref h0, .int p1]) ++ List.replicate (2 - (lg_sl ([.ref h0, .int p1])).length) Slot.unset).toArray = ls at hl ⊢
  have hl : lv_has ls 2 [(0, .ref h0), (1, .int p1)] := hl
  obtain ⟨RES, hF⟩ : ∃ R9, fX12_end mi p1 = R9 := ⟨_, rfl⟩
  have hR9 := hF
  refine lv_iload_n hx hb dX12_end_0 rfl (lv_at hl 1 rfl) ?_
  refine lv_i2l (v := (p1).toInt64) hx hb dX12_end_1 rfl ?_
  refine lv_topl (fun l_19 el_19 => ?_)
  refine lv_lconst (v := 0) hx hb dX12_end_2 (by decide) ?_
  refine lv_aload_n hx hb dX12_end_3 rfl (lv_at hl 0 rfl) ?_
  refine va_get (D := (dC, dI)) (ci := 12) (v := .int (mi 26)) (C := RX12) (T := TX12) (N := 57) hx hb hts (fun w h => List.mem_cons_of_mem _ (jnGB_X12 w h)) hown hK hP 0 rfl rfl 26 (by decide) (hts _ (List.mem_cons_of_mem _ mGB_43)) (fun _ h9 => h9) rfl dX12_end_4 ?_
  refine lv_i2l (v := ((mi 26)).toInt64) hx hb dX12_end_7 rfl ?_
  refine lv_topl (fun l_20 el_20 => ?_)
  have hPc := hP.sub (ws' := []) [] rfl
  have hKc := hK.sub (tys' := []) [] rfl
  refine va_calli (va_runS (As := [.long l_19, .long 0, .long l_20]) (rest := []) ⟨hx, hb, hml, hown, hts⟩ (sX12_in l dC dI l_19 0 l_20) (cwS 3 hts (gz_gS mGB_47 mGB_48 mGB_1 mGB_49 goodGB) rfl rfl rfl (by decide +kernel) ⟨Nat.le_of_ble_eq_true rfl, Nat.le_of_ble_eq_true rfl⟩) ⟨bl_R, fun U hU hW => ⟨rfl, by rw [hU]; exact hPc, va_K.moved hW.alike hKc⟩⟩ rfl rfl hl.1 rfl (lv_room (Nat.le_of_ble_eq_true rfl)) dX12_end_8 ⟨Nat.zero_le _, Nat.zero_le _⟩) hS (fun q _ h => h.elim) (fun q h => h.elim) (fun r_21 u t H1 locs ht hvm hw hB hz1 hk1 hS => ?_)
  obtain ⟨hw, hE⟩ := hw
  have hP := gz_keep hP hk1
  have hF := gf_call (a := r_21) (by rw [el_20, el_19] at hE; exact hE) hF
  generalize H1 = H at hP hS ⊢
  have gr_21 : gi r_21 0 1 := hw.1
  have hqr_21 := hw.2
  refine lv_if_ne (tgt := 16) hx hb dX12_end_11 (by decide) (fun c_22 => ?_) (fun c_22 => ?_)
  · have hF := gf_neg c_22 hF
    have g_23 : gi r_21 1 1 := gi_ne_lo c_22 gr_21 (gi_c 0 0 (by decide)) (by decide)
    have hin_24 := gz_inT (A := 0) (B := (mi 26).toInt) (hqr_21.1 (gz_one g_23)) el_19 (by decide) (gz_l2e el_20)
    have g_25 : gi p1 0 1600 := gi_cap (gi_any p1) (gz_inr (hqr_21.1 (gz_one g_23)) el_19 (A := 0) (B := 1600) (by decide) (gz_l2u el_20 gmi_26)) (by decide)
    refine lv_aload_n hx hb dX12_end_16 rfl (lv_at hl 0 rfl) ?_
    refine lv_iload_n hx hb dX12_end_17 rfl (lv_at hl 1 rfl) ?_
    refine va_put (D := (dC, dI)) (ci := 12) (v := .int p1) (ty := .int) (C := RX12) (T := TX12) (N := 57) hx hb hts (fun w h => List.mem_cons_of_mem _ (jnGB_X12 w h)) tyX12 tyX12_ok nmX12 hown hK hP hD hS 0 rfl rfl 26 (by decide) (hts _ (List.mem_cons_of_mem _ mGB_43)) (fun _ h9 => h9) rfl (by decide +kernel) rfl rfl (Nat.le_of_ble_eq_true rfl) dX12_end_18 (fun H locs hP hD hS => ?_)
    have hP : va_P (dC, dI) vwCl (MWn h0 mr km (mi 0) (mi 1) (mi 2) (mi 3) (mi 4) (mi 5) (mi 6) (mi 7) (mi 10) (mi 17) (mi 23) (mi 24) p1 (mi 27) (mi 28) (mi 29) (mi 30) (mi 31) (mi 32) (mi 33) (mi 37) (mi 41) (mi 42) (mi 43) (mi 44) (mi 45) (mi 47) (mi 48) (mi 49) (mi 50) (mi 51) (mi 54) (mi 56) fm_trust fm_letter fm_reportPlace fm_reportKind fm_struck fm_reportMonth fm_reportDay fm_reportKnown fm_deedMonth fm_deedDay fm_deedLong fm_deedKind fm_kept fm_tape fm_must fm_least fm_pin fm_ways fm_verdict fm_row fm_official fm_aside fm_worth fm_out) H := hP
    have hD : va_D A (MWn h0 mr km (mi 0) (mi 1) (mi 2) (mi 3) (mi 4) (mi 5) (mi 6) (mi 7) (mi 10) (mi 17) (mi 23) (mi 24) p1 (mi 27) (mi 28) (mi 29) (mi 30) (mi 31) (mi 32) (mi 33) (mi 37) (mi 41) (mi 42) (mi 43) (mi 44) (mi 45) (mi 47) (mi 48) (mi 49) (mi 50) (mi 51) (mi 54) (mi 56) fm_trust fm_letter fm_reportPlace fm_reportKind fm_struck fm_reportMonth fm_reportDay fm_reportKnown fm_deedMonth fm_deedDay fm_deedLong fm_deedKind fm_kept fm_tape fm_must fm_least fm_pin fm_ways fm_verdict fm_row fm_official fm_aside fm_worth fm_out) := hD
    refine lv_iload_n hx hb dX12_end_21 rfl (lv_at hl 1 rfl) ?_
    exact W.iret (v := p1) hx hb hr (fun t ht hW => ⟨⟨p1, p1, rfl, ⟨rfl, ⟨(gi_w g_25 (by decide)), by have qgp1 := g_25.1; have rgp1 := g_25.2; omega⟩⟩, p1, g_25, by have qgp1 := g_25.1; have rgp1 := g_25.2; omega, hF.trans hR9.symm, by rw [ht]; exact hP, hD⟩, hS.F ht⟩) hS.2.2 dX12_end_22
  · have hF := gf_pos c_22 hF
    have g_26 : gi r_21 0 0 := gi_eq c_22 (gi_c 0 0 (by decide))
    have hno_27 := gz_inF (A := 0) (B := (mi 26).toInt) (hqr_21.2 (gz_zero1 g_26)) el_19 (by decide) (gz_l2e el_20)
    refine lv_iconst (v := (-1)) hx hb dX12_end_14 (by decide) ?_
    exact W.iret (v := (-1)) hx hb hr (fun t ht hW => ⟨⟨(-1), (-1), rfl, ⟨rfl, ⟨(gi_w (gi_c (-1) (-1) (by decide)) (by decide)), by have km1 : ((-1) : Int32).toInt = (-1) := (by decide); omega⟩⟩, (mi 26), gmi_26, by have qgmi_26 := gmi_26.1; have rgmi_26 := gmi_26.2; omega, hF.trans hR9.symm, by rw [ht]; exact hP, hD⟩, hS.F ht⟩) hS.2.2 dX12_end_15
theorem dX12_place_0 : decode cX12_place 0 = .ok (.aload_n 0, 1) := by decide +kernel
theorem dX12_place_1 : decode cX12_place 1 = .ok (.iload_n 1, 1) := by decide +kernel
theorem dX12_place_2 : decode cX12_place 2 = .ok (.invokevirtual 294, 3) := by decide +kernel
theorem dX12_place_5 : decode cX12_place 5 = .ok (.ifCond .eq 15, 3) := by decide +kernel
theorem dX12_place_8 : decode cX12_place 8 = .ok (.iload_n 2, 1) := by decide +kernel
theorem dX12_place_9 : decode cX12_place 9 = .ok (.i2l, 1) := by decide +kernel
theorem dX12_place_10 : decode cX12_place 10 = .ok (.lconst 0, 1) := by decide +kernel
theorem dX12_place_11 : decode cX12_place 11 = .ok (.ldc2_w 298, 3) := by decide +kernel
theorem dX12_place_14 : decode cX12_place 14 = .ok (.invokestatic 102, 3) := by decide +kernel
theorem dX12_place_17 : decode cX12_place 17 = .ok (.ifCond .ne 6, 3) := by decide +kernel
theorem dX12_place_20 : decode cX12_place 20 = .ok (.bipush (-2), 2) := by decide +kernel
theorem dX12_place_22 : decode cX12_place 22 = .ok (.ireturn, 1) := by decide +kernel
theorem dX12_place_23 : decode cX12_place 23 = .ok (.iconst 0, 1) := by decide +kernel
theorem dX12_place_24 : decode cX12_place 24 = .ok (.istore_n 3, 1) := by decide +kernel
theorem dX12_place_25 : decode cX12_place 25 = .ok (.iconst 0, 1) := by decide +kernel
theorem dX12_place_26 : decode cX12_place 26 = .ok (.istore 4, 2) := by decide +kernel
theorem dX12_place_28 : decode cX12_place 28 = .ok (.iload 4, 2) := by decide +kernel
theorem dX12_place_30 : decode cX12_place 30 = .ok (.aload_n 0, 1) := by decide +kernel
theorem dX12_place_31 : decode cX12_place 31 = .ok (.getfield 138, 3) := by decide +kernel
theorem dX12_place_34 : decode cX12_place 34 = .ok (.if_icmp .ge 27, 3) := by decide +kernel
theorem dX12_place_37 : decode cX12_place 37 = .ok (.iload_n 3, 1) := by decide +kernel
theorem dX12_place_38 : decode cX12_place 38 = .ok (.aload_n 0, 1) := by decide +kernel
theorem dX12_place_39 : decode cX12_place 39 = .ok (.iload 4, 2) := by decide +kernel
theorem dX12_place_41 : decode cX12_place 41 = .ok (.iload_n 1, 1) := by decide +kernel
theorem dX12_place_42 : decode cX12_place 42 = .ok (.invokevirtual 300, 3) := by decide +kernel
theorem dX12_place_45 : decode cX12_place 45 = .ok (.ifCond .eq 7, 3) := by decide +kernel
theorem dX12_place_48 : decode cX12_place 48 = .ok (.iconst 1, 1) := by decide +kernel
theorem dX12_place_49 : decode cX12_place 49 = .ok (.goto 4, 3) := by decide +kernel
theorem dX12_place_52 : decode cX12_place 52 = .ok (.iconst 0, 1) := by decide +kernel
theorem dX12_place_53 : decode cX12_place 53 = .ok (.iadd, 1) := by decide +kernel
theorem dX12_place_54 : decode cX12_place 54 = .ok (.istore_n 3, 1) := by decide +kernel
theorem dX12_place_55 : decode cX12_place 55 = .ok (.iinc 4 1, 3) := by decide +kernel
theorem dX12_place_58 : decode cX12_place 58 = .ok (.goto (-30), 3) := by decide +kernel
theorem dX12_place_61 : decode cX12_place 61 = .ok (.iconst 0, 1) := by decide +kernel
theorem dX12_place_62 : decode cX12_place 62 = .ok (.istore 4, 2) := by decide +kernel
theorem dX12_place_64 : decode cX12_place 64 = .ok (.iconst 0, 1) := by decide +kernel
theorem dX12_place_65 : decode cX12_place 65 = .ok (.istore 5, 2) := by decide +kernel
theorem dX12_place_67 : decode cX12_place 67 = .ok (.iload 5, 2) := by decide +kernel
theorem dX12_place_69 : decode cX12_place 69 = .ok (.aload_n 0, 1) := by decide +kernel
theorem dX12_place_70 : decode cX12_place 70 = .ok (.getfield 141, 3) := by decide +kernel
theorem dX12_place_73 : decode cX12_place 73 = .ok (.if_icmp .ge 40, 3) := by decide +kernel
theorem dX12_place_76 : decode cX12_place 76 = .ok (.iload 4, 2) := by decide +kernel
theorem dX12_place_78 : decode cX12_place 78 = .ok (.aload_n 0, 1) := by decide +kernel
theorem dX12_place_79 : decode cX12_place 79 = .ok (.getfield 16, 3) := by decide +kernel
theorem dX12_place_82 : decode cX12_place 82 = .ok (.iload 5, 2) := by decide +kernel
theorem dX12_place_84 : decode cX12_place 84 = .ok (.iaload, 1) := by decide +kernel
theorem dX12_place_85 : decode cX12_place 85 = .ok (.iload_n 1, 1) := by decide +kernel
theorem dX12_place_86 : decode cX12_place 86 = .ok (.if_icmp .ne 17, 3) := by decide +kernel
theorem dX12_place_89 : decode cX12_place 89 = .ok (.aload_n 0, 1) := by decide +kernel
theorem dX12_place_90 : decode cX12_place 90 = .ok (.getfield 22, 3) := by decide +kernel
theorem dX12_place_93 : decode cX12_place 93 = .ok (.iload 5, 2) := by decide +kernel
theorem dX12_place_95 : decode cX12_place 95 = .ok (.baload, 1) := by decide +kernel
theorem dX12_place_96 : decode cX12_place 96 = .ok (.ifCond .ne 7, 3) := by decide +kernel
theorem dX12_place_99 : decode cX12_place 99 = .ok (.iconst 1, 1) := by decide +kernel
theorem dX12_place_100 : decode cX12_place 100 = .ok (.goto 4, 3) := by decide +kernel
theorem dX12_place_103 : decode cX12_place 103 = .ok (.iconst 0, 1) := by decide +kernel
theorem dX12_place_104 : decode cX12_place 104 = .ok (.iadd, 1) := by decide +kernel
theorem dX12_place_105 : decode cX12_place 105 = .ok (.istore 4, 2) := by decide +kernel
theorem dX12_place_107 : decode cX12_place 107 = .ok (.iinc 5 1, 3) := by decide +kernel
theorem dX12_place_110 : decode cX12_place 110 = .ok (.goto (-43), 3) := by decide +kernel
theorem dX12_place_113 : decode cX12_place 113 = .ok (.iload_n 2, 1) := by decide +kernel
theorem dX12_place_114 : decode cX12_place 114 = .ok (.ifCond .ne 12, 3) := by decide +kernel
theorem dX12_place_117 : decode cX12_place 117 = .ok (.aload_n 0, 1) := by decide +kernel
theorem dX12_place_118 : decode cX12_place 118 = .ok (.getfield 7, 3) := by decide +kernel
theorem dX12_place_121 : decode cX12_place 121 = .ok (.iload_n 1, 1) := by decide +kernel
theorem dX12_place_122 : decode cX12_place 122 = .ok (.iaload, 1) := by decide +kernel
theorem dX12_place_123 : decode cX12_place 123 = .ok (.goto 14, 3) := by decide +kernel
theorem dX12_place_126 : decode cX12_place 126 = .ok (.iload_n 2, 1) := by decide +kernel
theorem dX12_place_127 : decode cX12_place 127 = .ok (.iconst 1, 1) := by decide +kernel
theorem dX12_place_128 : decode cX12_place 128 = .ok (.if_icmp .ne 7, 3) := by decide +kernel
theorem dX12_place_131 : decode cX12_place 131 = .ok (.iload_n 3, 1) := by decide +kernel
theorem dX12_place_132 : decode cX12_place 132 = .ok (.goto 5, 3) := by decide +kernel
theorem dX12_place_135 : decode cX12_place 135 = .ok (.iload 4, 2) := by decide +kernel
theorem dX12_place_137 : decode cX12_place 137 = .ok (.ireturn, 1) := by decide +kernel
noncomputable def bfX12_place_20 (mi : Nat → Int32) (fm_trust : Nat → Int32) (fm_letter : Nat → Int32) (fm_reportPlace : Nat → Int32) (fm_struck : Nat → Int32) (p1 : Int32) (p2 : Int32) (K : (Int32 → Int32 → Int32) × (Int32 → Int32 → Int32 → Int32)) : Int32 := (-2 : Int32)
noncomputable def bfX12_place_53 (mi : Nat → Int32) (fm_trust : Nat → Int32) (fm_letter : Nat → Int32) (fm_reportPlace : Nat → Int32) (fm_struck : Nat → Int32) (p1 : Int32) (p2 : Int32) (K : (Int32 → Int32 → Int32) × (Int32 → Int32 → Int32 → Int32)) (v4 : Int32) (s0 : Int32) (s1 : Int32) : Int32 := K.1 (s1 + s0) (v4 + (1 : Int32))
noncomputable def bfX12_place_104 (mi : Nat → Int32) (fm_trust : Nat → Int32) (fm_letter : Nat → Int32) (fm_reportPlace : Nat → Int32) (fm_struck : Nat → Int32) (p1 : Int32) (p2 : Int32) (K : (Int32 → Int32 → Int32) × (Int32 → Int32 → Int32 → Int32)) (v3 : Int32) (v5 : Int32) (s0 : Int32) (s1 : Int32) : Int32 := K.2 v3 (s1 + s0) (v5 + (1 : Int32))
noncomputable def bfX12_place_103 (mi : Nat → Int32) (fm_trust : Nat → Int32) (fm_letter : Nat → Int32) (fm_reportPlace : Nat → Int32) (fm_struck : Nat → Int32) (p1 : Int32) (p2 : Int32) (K : (Int32 → Int32 → Int32) × (Int32 → Int32 → Int32 → Int32)) (v3 : Int32) (v5 : Int32) (s0 : Int32) : Int32 := bfX12_place_104 mi fm_trust fm_letter fm_reportPlace fm_struck p1 p2 K v3 v5 (0 : Int32) s0
noncomputable def bfX12_place_137 (mi : Nat → Int32) (fm_trust : Nat → Int32) (fm_letter : Nat → Int32) (fm_reportPlace : Nat → Int32) (fm_struck : Nat → Int32) (p1 : Int32) (p2 : Int32) (K : (Int32 → Int32 → Int32) × (Int32 → Int32 → Int32 → Int32)) (s0 : Int32) : Int32 := s0
noncomputable def dfX12_place_28 (mi : Nat → Int32) (fm_trust : Nat → Int32) (fm_letter : Nat → Int32) (fm_reportPlace : Nat → Int32) (fm_struck : Nat → Int32) (p1 : Int32) (p2 : Int32) (K : (Int32 → Int32 → Int32) × (Int32 → Int32 → Int32 → Int32)) (v3 : Int32) (v4 : Int32) : Int32 := if (mi 7) ≤ v4 then (K.2 v3 (0 : Int32) (0 : Int32)) else (cal (fun o3 => if o3 = (0 : Int32) then (bfX12_place_53 mi fm_trust fm_letter fm_reportPlace fm_struck p1 p2 K v4 (0 : Int32) v3) else (bfX12_place_53 mi fm_trust fm_letter fm_reportPlace fm_struck p1 p2 K v4 (1 : Int32) v3)) (fX12_isNameAhead fm_letter v4 p1))
noncomputable def dfX12_place_67 (mi : Nat → Int32) (fm_trust : Nat → Int32) (fm_letter : Nat → Int32) (fm_reportPlace : Nat → Int32) (fm_struck : Nat → Int32) (p1 : Int32) (p2 : Int32) (K : (Int32 → Int32 → Int32) × (Int32 → Int32 → Int32 → Int32)) (v3 : Int32) (v4 : Int32) (v5 : Int32) : Int32 := if (mi 10) ≤ v5 then (if p2 = (0 : Int32) then (bfX12_place_137 mi fm_trust fm_letter fm_reportPlace fm_struck p1 p2 K (fm_trust p1.toNatClampNeg)) else (if p2 = (1 : Int32) then (bfX12_place_137 mi fm_trust fm_letter fm_reportPlace fm_struck p1 p2 K v3) else (bfX12_place_137 mi fm_trust fm_letter fm_reportPlace fm_struck p1 p2 K v4))) else (if (fm_reportPlace v5.toNatClampNeg) = p1 then (if (fm_struck v5.toNatClampNeg) = (0 : Int32) then (bfX12_place_104 mi fm_trust fm_letter fm_reportPlace fm_struck p1 p2 K v3 v5 (1 : Int32) v4) else (bfX12_place_103 mi fm_trust fm_letter fm_reportPlace fm_struck p1 p2 K v3 v5 v4)) else (bfX12_place_103 mi fm_trust fm_letter fm_reportPlace fm_struck p1 p2 K v3 v5 v4))
noncomputable def lfX12_place (mi : Nat → Int32) (fm_trust : Nat → Int32) (fm_letter : Nat → Int32) (fm_reportPlace : Nat → Int32) (fm_struck : Nat → Int32) (p1 : Int32) (p2 : Int32) (z : Nat) : (Int32 → Int32 → Int32) × (Int32 → Int32 → Int32 → Int32) := Nat.rec (motive := fun _ => (Int32 → Int32 → Int32) × (Int32 → Int32 → Int32 → Int32)) ((fun _ _ => (0), fun _ _ _ => (0))) (fun _ K => (dfX12_place_28 mi fm_trust fm_letter fm_reportPlace fm_struck p1 p2 K, dfX12_place_67 mi fm_trust fm_letter fm_reportPlace fm_struck p1 p2 K)) z
noncomputable def fX12_place (mi : Nat → Int32) (fm_trust : Nat → Int32) (fm_letter : Nat → Int32) (fm_reportPlace : Nat → Int32) (fm_struck : Nat → Int32) (p1 : Int32) (p2 : Int32) : Int32 := cal (fun o1 => if o1 = (0 : Int32) then (bfX12_place_20 mi fm_trust fm_letter fm_reportPlace fm_struck p1 p2 (lfX12_place mi fm_trust fm_letter fm_reportPlace fm_struck p1 p2 1000000000)) else (cal (fun o2 => if o2 = (0 : Int32) then (bfX12_place_20 mi fm_trust fm_letter fm_reportPlace fm_struck p1 p2 (lfX12_place mi fm_trust fm_letter fm_reportPlace fm_struck p1 p2 1000000000)) else ((lfX12_place mi fm_trust fm_letter fm_reportPlace fm_struck p1 p2 1000000000).1 (0 : Int32) (0 : Int32))) (fX12_in (p2.toInt64) (0 : Int64) (2 : Int64)))) (fX12_isPlace mi p1)
set_option maxHeartbeats 4000000 in
set_option maxRecDepth 100000 in
theorem lp_sX12_place {p : Program} {l : Launch} {e : Env} {R : Room} {s : State} {m : MethodId} {args : Array Value} {below : List Frame} {meth : Method} {c : Code} {Q : State → Prop} {A : Nat → Prop} {cells slots : Nat} {dC : Nat → ClassId} {dI : Nat → Nat → Nat} {RES : Int32} (h0 : Nat) (mi : Nat → Int32) (mr : Nat → Nat) (km : Nat → ClassId) (fm_trust : Nat → Int32) (fm_letter : Nat → Int32) (fm_reportPlace : Nat → Int32) (fm_struck : Nat → Int32) (fm_reportKind : Nat → Int32) (fm_reportMonth : Nat → Int32) (fm_reportDay : Nat → Int32) (fm_reportKnown : Nat → Int32) (fm_deedMonth : Nat → Int32) (fm_deedDay : Nat → Int32) (fm_deedLong : Nat → Int32) (fm_deedKind : Nat → Int32) (fm_kept : Nat → Int32) (fm_tape : Nat → Int32) (fm_must : Nat → Int32) (fm_least : Nat → Int32) (fm_pin : Nat → Int32) (fm_ways : Nat → Int32) (fm_verdict : Nat → Int32) (fm_row : Nat → Int32) (fm_official : Nat → Int32) (fm_aside : Nat → Int32) (fm_worth : Nat → Int32) (fm_out : Nat → Int32) (p1 : Int32) (p2 : Int32) (gmi_0 : gi (mi 0) 0 24) (gmi_1 : gi (mi 1) 0 5) (gmi_2 : gi (mi 2) 0 5) (gmi_4 : gi (mi 4) 0 1) (gmi_7 : gi (mi 7) 0 6) (gmi_10 : gi (mi 10) 0 24) (gmi_17 : gi (mi 17) 0 8) (gmi_23 : gi (mi 23) 0 300) (gmi_24 : gi (mi 24) 0 1) (gmi_26 : gi (mi 26) 0 1600) (gmi_29 : gi (mi 29) 0 1600) (gmi_30 : gi (mi 30) 0 1600) (gmi_33 : gi (mi 33) 0 1) (gmi_37 : gi (mi 37) 0 1) (gmi_41 : gi (mi 41) 0 24) (gmi_50 : gi (mi 50) 0 1) (gmi_51 : gi (mi 51) 0 1) (gmi_56 : gi (mi 56) 0 80) (gfm_reportPlace : ga fm_reportPlace 24 0 5) (gfm_struck : ga fm_struck 24 0 1) (hx : p.tables.exec = Jvm.exec) (hb : c.code = cX12_place) (hml : c.maxLocals = 6) (hown : s.vm.findClass RX12 = some m.cls) (hts : ∀ w ∈ ((.code yX12_place cX12_place 6 (some .int) :: wsGB) : List Cond), w.before args s = true) (hK : va_K (dC, dI) vwCl (MT km) s) (hRf : 2 ≤ R.frames) (hRl : 46 ≤ R.locals) (hRc : cells ≤ R.cells) (hRs : slots ≤ R.slots) (kr22 : ∀ (v : Int32) (H : Heap) (locs : List Loc) (ls : Array Slot), gi v (-2) (-2) → v = RES → va_P (dC, dI) vwCl (MWn h0 mr km (mi 0) (mi 1) (mi 2) (mi 3) (mi 4) (mi 5) (mi 6) (mi 7) (mi 10) (mi 17) (mi 23) (mi 24) (mi 26) (mi 27) (mi 28) (mi 29) (mi 30) (mi 31) (mi 32) (mi 33) (mi 37) (mi 41) (mi 42) (mi 43) (mi 44) (mi 45) (mi 47) (mi 48) (mi 49) (mi 50) (mi 51) (mi 54) (mi 56) fm_trust fm_letter fm_reportPlace fm_reportKind fm_struck fm_reportMonth fm_reportDay fm_reportKnown fm_deedMonth fm_deedDay fm_deedLong fm_deedKind fm_kept fm_tape fm_must fm_least fm_pin fm_ways fm_verdict fm_row fm_official fm_aside fm_worth fm_out) H → va_S A s.heap H locs → lv_has ls 6 [] → W p l e R s m args below meth c H locs cells slots Q (F0 m 22 ls [.int v])) (kr137 : ∀ (v : Int32) (H : Heap) (locs : List Loc) (ls : Array Slot), v = RES → va_P (dC, dI) vwCl (MWn h0 mr km (mi 0) (mi 1) (mi 2) (mi 3) (mi 4) (mi 5) (mi 6) (mi 7) (mi 10) (mi 17) (mi 23) (mi 24) (mi 26) (mi 27) (mi 28) (mi 29) (mi 30) (mi 31) (mi 32) (mi 33) (mi 37) (mi 41) (mi 42) (mi 43) (mi 44) (mi 45) (mi 47) (mi 48) (mi 49) (mi 50) (mi 51) (mi 54) (mi 56) fm_trust fm_letter fm_reportPlace fm_reportKind fm_struck fm_reportMonth fm_reportDay fm_reportKnown fm_deedMonth fm_deedDay fm_deedLong fm_deedKind fm_kept fm_tape fm_must fm_least fm_pin fm_ways fm_verdict fm_row fm_official fm_aside fm_worth fm_out) H → va_S A s.heap H locs → lv_has ls 6 [] → W p l e R s m args below meth c H locs cells slots Q (F0 m 137 ls [.int v])) : ∀ z : Nat, (∀ (v3 : Int32) (v4 : Int32) (H : Heap) (locs : List Loc) (ls : Array Slot), gi p1 0 5 → gi p2 0 2 → gi v4 0 6 → (lfX12_place mi fm_trust fm_letter fm_reportPlace fm_struck p1 p2 z).1 v3 v4 = RES → 65 + (-2) * v4.toInt < (z : Int) → va_P (dC, dI) vwCl (MWn h0 mr km (mi 0) (mi 1) (mi 2) (mi 3) (mi 4) (mi 5) (mi 6) (mi 7) (mi 10) (mi 17) (mi 23) (mi 24) (mi 26) (mi 27) (mi 28) (mi 29) (mi 30) (mi 31) (mi 32) (mi 33) (mi 37) (mi 41) (mi 42) (mi 43) (mi 44) (mi 45) (mi 47) (mi 48) (mi 49) (mi 50) (mi 51) (mi 54) (mi 56) fm_trust fm_letter fm_reportPlace fm_reportKind fm_struck fm_reportMonth fm_reportDay fm_reportKnown fm_deedMonth fm_deedDay fm_deedLong fm_deedKind fm_kept fm_tape fm_must fm_least fm_pin fm_ways fm_verdict fm_row fm_official fm_aside fm_worth fm_out) H → va_S A s.heap H locs → lv_has ls 6 [(0, .ref h0), (1, .int p1), (2, .int p2), (3, .int v3), (4, .int v4)] → W p l e R s m args below meth c H locs cells slots Q (F0 m 28 ls [])) ∧ (∀ (v3 : Int32) (v4 : Int32) (v5 : Int32) (H : Heap) (locs : List Loc) (ls : Array Slot), gi p1 0 5 → gi p2 0 2 → gi v5 0 24 → (lfX12_place mi fm_trust fm_letter fm_reportPlace fm_struck p1 p2 z).2 v3 v4 v5 = RES → 49 + (-2) * v5.toInt < (z : Int) → va_P (dC, dI) vwCl (MWn h0 mr km (mi 0) (mi 1) (mi 2) (mi 3) (mi 4) (mi 5) (mi 6) (mi 7) (mi 10) (mi 17) (mi 23) (mi 24) (mi 26) (mi 27) (mi 28) (mi 29) (mi 30) (mi 31) (mi 32) (mi 33) (mi 37) (mi 41) (mi 42) (mi 43) (mi 44) (mi 45) (mi 47) (mi 48) (mi 49) (mi 50) (mi 51) (mi 54) (mi 56) fm_trust fm_letter fm_reportPlace fm_reportKind fm_struck fm_reportMonth fm_reportDay fm_reportKnown fm_deedMonth fm_deedDay fm_deedLong fm_deedKind fm_kept fm_tape fm_must fm_least fm_pin fm_ways fm_verdict fm_row fm_official fm_aside fm_worth fm_out) H → va_S A s.heap H locs → lv_has ls 6 [(0, .ref h0), (1, .int p1), (2, .int p2), (3, .int v3), (4, .int v4), (5, .int v5)] → W p l e R s m args below meth c H locs cells slots Q (F0 m 67 ls [])) := by
  intro z
  induction z with
  | zero =>
    refine ⟨?_, ?_⟩
    · intro v3 v4 H locs ls gf_p1 gf_p2 gv4 hF hmu hP hS hl
      exact absurd hmu (by have hv41 := gv4.1; have hv42 := gv4.2; omega)
    · intro v3 v4 v5 H locs ls gf_p1 gf_p2 gv5 hF hmu hP hS hl
      exact absurd hmu (by have hv51 := gv5.1; have hv52 := gv5.2; omega)
  | succ z ih =>
    refine ⟨?_, ?_⟩
    · intro v3 v4 H locs ls gf_p1 gf_p2 gv4 hF hmu hP hS hl
      have hF : dfX12_place_28 mi fm_trust fm_letter fm_reportPlace fm_struck p1 p2 (lfX12_place mi fm_trust fm_letter fm_reportPlace fm_struck p1 p2 z) v3 v4 = RES := hF
      refine lv_iload hx hb dX12_place_28 (lv_at hl 4 rfl) ?_
      refine lv_aload_n hx hb dX12_place_30 rfl (lv_at hl 0 rfl) ?_
      refine va_get (D := (dC, dI)) (ci := 12) (v := .int (mi 7)) (C := RX12) (T := TX12) (N := 57) hx hb hts (fun w h => List.mem_cons_of_mem _ (jnGB_X12 w h)) hown hK hP 0 rfl rfl 7 (by decide) (hts _ (List.mem_cons_of_mem _ mGB_110)) (fun _ h9 => h9) rfl dX12_place_31 ?_
      refine lv_icmp_ge (tgt := 61) hx hb dX12_place_34 (by decide) (fun c_1761 => ?_) (fun c_1761 => ?_)
      · have hF := gf_pos c_1761 hF
        refine lv_iconst (v := 0) hx hb dX12_place_61 (by decide) ?_
        refine lv_istore (lv' := [(4, .int 0), (0, .ref h0), (1, .int p1), (2, .int p2), (3, .int v3)]) hx hb dX12_place_62 hl (by decide) rfl (fun ls hl => ?_)
        refine lv_iconst (v := 0) hx hb dX12_place_64 (by decide) ?_
        refine lv_istore (lv' := [(5, .int 0), (4, .int 0), (0, .ref h0), (1, .int p1), (2, .int p2), (3, .int v3)]) hx hb dX12_place_65 hl (by decide) rfl (fun ls hl => ?_)
        exact ih.2 v3 0 0 _ _ _ gf_p1 gf_p2 (gi_w (gi_c 0 0 (by decide)) (by decide)) hF (by have k0 : (0 : Int32).toInt = 0 := (by decide); have av4 := gv4.1; have bv4 := gv4.2; omega) hP hS (lv_sub hl [2, 3, 4, 5, 1, 0] rfl)
      · have hF := gf_neg c_1761 hF
        have g_1762 : gi v4 0 5 := gi_lt_l (Int32.not_le.mp c_1761) gv4 gmi_7 (by decide)
        have g_1763 : gi (mi 7) 1 6 := gi_lt_r (Int32.not_le.mp c_1761) gv4 gmi_7 (by decide)
        refine lv_iload_n hx hb dX12_place_37 rfl (lv_at hl 3 rfl) ?_
        refine lv_aload_n hx hb dX12_place_38 rfl (lv_at hl 0 rfl) ?_
        refine lv_iload hx hb dX12_place_39 (lv_at hl 4 rfl) ?_
        refine lv_iload_n hx hb dX12_place_41 rfl (lv_at hl 1 rfl) ?_
        refine va_calli (va_runV (As := [.int v4, .int p1]) (rest := [.int v3]) ⟨hx, hb, hml, hown, hts⟩ (sX12_isNameAhead l dC dI h0 mi mr km fm_letter fm_trust fm_reportPlace fm_reportKind fm_struck fm_reportMonth fm_reportDay fm_reportKnown fm_deedMonth fm_deedDay fm_deedLong fm_deedKind fm_kept fm_tape fm_must fm_least fm_pin fm_ways fm_verdict fm_row fm_official fm_aside fm_worth fm_out v4 p1 gmi_0 gmi_1 gmi_2 gmi_4 (gi_w g_1763 (by decide)) gmi_10 gmi_17 gmi_23 gmi_24 gmi_26 gmi_29 gmi_30 gmi_33 gmi_37 gmi_41 gmi_50 gmi_51 gmi_56 g_1762 gf_p1) (cwV 2 hts (gz_gV mGB_228 mGB_229 mGB_230 mGB_1 mGB_231 goodGB) rfl rfl rfl (by decide +kernel) ⟨Nat.le_trans (Nat.le_of_ble_eq_true rfl) hRf, Nat.le_trans (Nat.le_of_ble_eq_true rfl) hRl⟩) ⟨bl_R, mw_recv hK hP, fun U hU hW => ⟨rfl, by rw [hU]; exact hP, va_K.moved hW.alike hK⟩⟩ rfl rfl hl.1 rfl (lv_room (Nat.le_of_ble_eq_true rfl)) dX12_place_42 ⟨hRc, hRs⟩) hS (fun q _ h => h.elim) (fun q h => h.elim) (fun r_1764 u t H1 locs ht hvm hw hB hz1 hk1 hS => ?_)
        obtain ⟨hw, hE⟩ := hw
        have hP := gz_keep hP hk1
        have hF := gf_call (a := r_1764) hE hF
        generalize H1 = H at hP hS ⊢
        have gr_1764 : gi r_1764 0 1 := hw
        refine lv_if_eq (tgt := 52) hx hb dX12_place_45 (by decide) (fun c_1765 => ?_) (fun c_1765 => ?_)
        · have hF := gf_pos c_1765 hF
          have g_1766 : gi r_1764 0 0 := gi_eq c_1765 (gi_c 0 0 (by decide))
          refine lv_iconst (v := 0) hx hb dX12_place_52 (by decide) ?_
          refine lv_iadd hx hb dX12_place_53 ?_
          refine lv_topi (fun x_1767 ex_1767 => ?_)
          refine lv_istore_n (lv' := [(3, .int x_1767), (0, .ref h0), (1, .int p1), (2, .int p2), (4, .int v4)]) hx hb dX12_place_54 rfl hl (by decide) rfl (fun ls hl => ?_)
          obtain ⟨x_1768, ex_1768⟩ : ∃ y : Int32, y = v4 + 1 := ⟨_, rfl⟩
          have gx_1768 : gi x_1768 1 6 := gi_add ex_1768 g_1762 (gi_c 1 1 (by decide)) (by decide)
          refine lv_iinc (v := x_1768) (lv' := [(4, .int x_1768), (3, .int x_1767), (0, .ref h0), (1, .int p1), (2, .int p2)]) hx hb dX12_place_55 hl (k := 4) rfl (by rw [ex_1768]; rfl) (by decide) rfl (fun ls hl => ?_)
          refine lv_goto (tgt := 28) hx hb dX12_place_58 (by decide) ?_
          exact ih.1 x_1767 x_1768 _ _ _ gf_p1 gf_p2 (gi_w gx_1768 (by decide)) (by rw [ex_1768, ex_1767]; exact hF) (by have av4 := gv4.1; have bv4 := gv4.2; have qgx_1768 := gx_1768.1; have rgx_1768 := gx_1768.2; have igx_1768 : x_1768.toInt = v4.toInt + 1 := (by have hc1 : (1 : Int32).toInt = 1 := (by decide); have h9 := gi_addI ex_1768 (by have h1 := g_1762.1; have h2 := (gi_c 1 1 (by decide)).1; have h3 := g_1762.2; have h4 := (gi_c 1 1 (by decide)).2; omega) (by have h1 := g_1762.1; have h2 := (gi_c 1 1 (by decide)).1; have h3 := g_1762.2; have h4 := (gi_c 1 1 (by decide)).2; omega); rw [hc1] at h9; exact h9); have qgv4 := g_1762.1; have rgv4 := g_1762.2; omega) hP hS (lv_sub hl [2, 3, 4, 1, 0] rfl)
        · have hF := gf_neg c_1765 hF
          have g_1769 : gi r_1764 1 1 := gi_ne_lo c_1765 gr_1764 (gi_c 0 0 (by decide)) (by decide)
          refine lv_iconst (v := 1) hx hb dX12_place_48 (by decide) ?_
          refine lv_goto (tgt := 53) hx hb dX12_place_49 (by decide) ?_
          refine lv_iadd hx hb dX12_place_53 ?_
          refine lv_topi (fun x_1770 ex_1770 => ?_)
          refine lv_istore_n (lv' := [(3, .int x_1770), (0, .ref h0), (1, .int p1), (2, .int p2), (4, .int v4)]) hx hb dX12_place_54 rfl hl (by decide) rfl (fun ls hl => ?_)
          obtain ⟨x_1771, ex_1771⟩ : ∃ y : Int32, y = v4 + 1 := ⟨_, rfl⟩
          have gx_1771 : gi x_1771 1 6 := gi_add ex_1771 g_1762 (gi_c 1 1 (by decide)) (by decide)
          refine lv_iinc (v := x_1771) (lv' := [(4, .int x_1771), (3, .int x_1770), (0, .ref h0), (1, .int p1), (2, .int p2)]) hx hb dX12_place_55 hl (k := 4) rfl (by rw [ex_1771]; rfl) (by decide) rfl (fun ls hl => ?_)
          refine lv_goto (tgt := 28) hx hb dX12_place_58 (by decide) ?_
          exact ih.1 x_1770 x_1771 _ _ _ gf_p1 gf_p2 (gi_w gx_1771 (by decide)) (by rw [ex_1771, ex_1770]; exact hF) (by have av4 := gv4.1; have bv4 := gv4.2; have qgx_1771 := gx_1771.1; have rgx_1771 := gx_1771.2; have igx_1771 : x_1771.toInt = v4.toInt + 1 := (by have hc1 : (1 : Int32).toInt = 1 := (by decide); have h9 := gi_addI ex_1771 (by have h1 := g_1762.1; have h2 := (gi_c 1 1 (by decide)).1; have h3 := g_1762.2; have h4 := (gi_c 1 1 (by decide)).2; omega) (by have h1 := g_1762.1; have h2 := (gi_c 1 1 (by decide)).1; have h3 := g_1762.2; have h4 := (gi_c 1 1 (by decide)).2; omega); rw [hc1] at h9; exact h9); have qgv4 := g_1762.1; have rgv4 := g_1762.2; omega) hP hS (lv_sub hl [2, 3, 4, 1, 0] rfl)
    · intro v3 v4 v5 H locs ls gf_p1 gf_p2 gv5 hF hmu hP hS hl
      have hF : dfX12_place_67 mi fm_trust fm_letter fm_reportPlace fm_struck p1 p2 (lfX12_place mi fm_trust fm_letter fm_reportPlace fm_struck p1 p2 z) v3 v4 v5 = RES := hF
      refine lv_iload hx hb dX12_place_67 (lv_at hl 5 rfl) ?_
      refine lv_aload_n hx hb dX12_place_69 rfl (lv_at hl 0 rfl) ?_
      refine va_get (D := (dC, dI)) (ci := 12) (v := .int (mi 10)) (C := RX12) (T := TX12) (N := 57) hx hb hts (fun w h => List.mem_cons_of_mem _ (jnGB_X12 w h)) hown hK hP 0 rfl rfl 10 (by decide) (hts _ (List.mem_cons_of_mem _ mGB_111)) (fun _ h9 => h9) rfl dX12_place_70 ?_
      refine lv_icmp_ge (tgt := 113) hx hb dX12_place_73 (by decide) (fun c_1772 => ?_) (fun c_1772 => ?_)
      · have hF := gf_pos c_1772 hF
        refine lv_iload_n hx hb dX12_place_113 rfl (lv_at hl 2 rfl) ?_
        refine lv_if_ne (tgt := 126) hx hb dX12_place_114 (by decide) (fun c_1773 => ?_) (fun c_1773 => ?_)
        · have hF := gf_neg c_1773 hF
          have g_1774 : gi p2 1 2 := gi_ne_lo c_1773 gf_p2 (gi_c 0 0 (by decide)) (by decide)
          refine lv_iload_n hx hb dX12_place_126 rfl (lv_at hl 2 rfl) ?_
          refine lv_iconst (v := 1) hx hb dX12_place_127 (by decide) ?_
          refine lv_icmp_ne (tgt := 135) hx hb dX12_place_128 (by decide) (fun c_1775 => ?_) (fun c_1775 => ?_)
          · have hF := gf_neg c_1775 hF
            have g_1776 : gi p2 2 2 := gi_ne_lo c_1775 g_1774 (gi_c 1 1 (by decide)) (by decide)
            refine lv_iload hx hb dX12_place_135 (lv_at hl 4 rfl) ?_
            exact kr137 v4 _ _ _ hF hP hS (lv_sub hl [] rfl)
          · have hF := gf_pos c_1775 hF
            have g_1777 : gi p2 1 1 := gi_eq c_1775 (gi_c 1 1 (by decide))
            refine lv_iload_n hx hb dX12_place_131 rfl (lv_at hl 3 rfl) ?_
            refine lv_goto (tgt := 137) hx hb dX12_place_132 (by decide) ?_
            exact kr137 v3 _ _ _ hF hP hS (lv_sub hl [] rfl)
        · have hF := gf_pos c_1773 hF
          have g_1778 : gi p2 0 0 := gi_eq c_1773 (gi_c 0 0 (by decide))
          refine lv_aload_n hx hb dX12_place_117 rfl (lv_at hl 0 rfl) ?_
          refine va_get (D := (dC, dI)) (ci := 12) (v := .ref (mr 0)) (C := RX12) (T := TX12) (N := 57) hx hb hts (fun w h => List.mem_cons_of_mem _ (jnGB_X12 w h)) hown hK hP 0 rfl rfl 8 (by decide) (hts _ (List.mem_cons_of_mem _ mGB_10)) (fun _ h9 => h9) rfl dX12_place_118 ?_
          refine lv_iload_n hx hb dX12_place_121 rfl (lv_at hl 1 rfl) ?_
          refine va_iald hx hb hK hP 1 0 rfl rfl (gi_in gf_p1 (by decide)) dX12_place_122 ?_
          refine lv_topi (fun x_1779 ex_1779 => ?_)
          refine lv_goto (tgt := 137) hx hb dX12_place_123 (by decide) ?_
          exact kr137 x_1779 _ _ _ (by rw [ex_1779]; exact hF) hP hS (lv_sub hl [] rfl)
      · have hF := gf_neg c_1772 hF
        have g_1780 : gi v5 0 23 := gi_lt_l (Int32.not_le.mp c_1772) gv5 gmi_10 (by decide)
        have g_1781 : gi (mi 10) 1 24 := gi_lt_r (Int32.not_le.mp c_1772) gv5 gmi_10 (by decide)
        refine lv_iload hx hb dX12_place_76 (lv_at hl 4 rfl) ?_
        refine lv_aload_n hx hb dX12_place_78 rfl (lv_at hl 0 rfl) ?_
        refine va_get (D := (dC, dI)) (ci := 12) (v := .ref (mr 2)) (C := RX12) (T := TX12) (N := 57) hx hb hts (fun w h => List.mem_cons_of_mem _ (jnGB_X12 w h)) hown hK hP 0 rfl rfl 11 (by decide) (hts _ (List.mem_cons_of_mem _ mGB_12)) (fun _ h9 => h9) rfl dX12_place_79 ?_
        refine lv_iload hx hb dX12_place_82 (lv_at hl 5 rfl) ?_
        refine va_iald hx hb hK hP 3 2 rfl rfl (gi_in g_1780 (by decide)) dX12_place_84 ?_
        refine lv_topi (fun x_1782 ex_1782 => ?_)
        have gx_1782 : gi x_1782 0 5 := ga_at gfm_reportPlace (gi_in g_1780 (by decide)) ex_1782
        refine lv_iload_n hx hb dX12_place_85 rfl (lv_at hl 1 rfl) ?_
        refine lv_icmp_ne (tgt := 103) hx hb dX12_place_86 (by decide) (fun c_1783 => ?_) (fun c_1783 => ?_)
        · have hF := gf_neg (by rw [ex_1782] at c_1783; exact c_1783) hF
          refine lv_iconst (v := 0) hx hb dX12_place_103 (by decide) ?_
          refine lv_iadd hx hb dX12_place_104 ?_
          refine lv_topi (fun x_1784 ex_1784 => ?_)
          refine lv_istore (lv' := [(4, .int x_1784), (0, .ref h0), (1, .int p1), (2, .int p2), (3, .int v3), (5, .int v5)]) hx hb dX12_place_105 hl (by decide) rfl (fun ls hl => ?_)
          obtain ⟨x_1785, ex_1785⟩ : ∃ y : Int32, y = v5 + 1 := ⟨_, rfl⟩
          have gx_1785 : gi x_1785 1 24 := gi_add ex_1785 g_1780 (gi_c 1 1 (by decide)) (by decide)
          refine lv_iinc (v := x_1785) (lv' := [(5, .int x_1785), (4, .int x_1784), (0, .ref h0), (1, .int p1), (2, .int p2), (3, .int v3)]) hx hb dX12_place_107 hl (k := 5) rfl (by rw [ex_1785]; rfl) (by decide) rfl (fun ls hl => ?_)
          refine lv_goto (tgt := 67) hx hb dX12_place_110 (by decide) ?_
          exact ih.2 v3 x_1784 x_1785 _ _ _ gf_p1 gf_p2 (gi_w gx_1785 (by decide)) (by rw [ex_1785, ex_1784]; exact hF) (by have av5 := gv5.1; have bv5 := gv5.2; have qgx_1785 := gx_1785.1; have rgx_1785 := gx_1785.2; have igx_1785 : x_1785.toInt = v5.toInt + 1 := (by have hc1 : (1 : Int32).toInt = 1 := (by decide); have h9 := gi_addI ex_1785 (by have h1 := g_1780.1; have h2 := (gi_c 1 1 (by decide)).1; have h3 := g_1780.2; have h4 := (gi_c 1 1 (by decide)).2; omega) (by have h1 := g_1780.1; have h2 := (gi_c 1 1 (by decide)).1; have h3 := g_1780.2; have h4 := (gi_c 1 1 (by decide)).2; omega); rw [hc1] at h9; exact h9); have qgv5 := g_1780.1; have rgv5 := g_1780.2; omega) hP hS (lv_sub hl [2, 3, 4, 5, 1, 0] rfl)
        · have hF := gf_pos (by rw [ex_1782] at c_1783; exact c_1783) hF
          refine lv_aload_n hx hb dX12_place_89 rfl (lv_at hl 0 rfl) ?_
          refine va_get (D := (dC, dI)) (ci := 12) (v := .ref (mr 4)) (C := RX12) (T := TX12) (N := 57) hx hb hts (fun w h => List.mem_cons_of_mem _ (jnGB_X12 w h)) hown hK hP 0 rfl rfl 13 (by decide) (hts _ (List.mem_cons_of_mem _ mGB_15)) (fun _ h9 => h9) rfl dX12_place_90 ?_
          refine lv_iload hx hb dX12_place_93 (lv_at hl 5 rfl) ?_
          refine va_zald hx hb hK hP 5 4 rfl rfl (gi_in g_1780 (by decide)) dX12_place_95 ?_
          refine lv_topi (fun x_1786 ex_1786 => ?_)
          have gx_1786 : gi x_1786 0 1 := ga_at gfm_struck (gi_in g_1780 (by decide)) ex_1786
          refine lv_if_ne (tgt := 103) hx hb dX12_place_96 (by decide) (fun c_1787 => ?_) (fun c_1787 => ?_)
          · have hF := gf_neg (by rw [ex_1786] at c_1787; exact c_1787) hF
            have g_1788 : gi x_1786 1 1 := gi_ne_lo c_1787 gx_1786 (gi_c 0 0 (by decide)) (by decide)
            refine lv_iconst (v := 0) hx hb dX12_place_103 (by decide) ?_
            refine lv_iadd hx hb dX12_place_104 ?_
            refine lv_topi (fun x_1789 ex_1789 => ?_)
            refine lv_istore (lv' := [(4, .int x_1789), (0, .ref h0), (1, .int p1), (2, .int p2), (3, .int v3), (5, .int v5)]) hx hb dX12_place_105 hl (by decide) rfl (fun ls hl => ?_)
            obtain ⟨x_1790, ex_1790⟩ : ∃ y : Int32, y = v5 + 1 := ⟨_, rfl⟩
            have gx_1790 : gi x_1790 1 24 := gi_add ex_1790 g_1780 (gi_c 1 1 (by decide)) (by decide)
            refine lv_iinc (v := x_1790) (lv' := [(5, .int x_1790), (4, .int x_1789), (0, .ref h0), (1, .int p1), (2, .int p2), (3, .int v3)]) hx hb dX12_place_107 hl (k := 5) rfl (by rw [ex_1790]; rfl) (by decide) rfl (fun ls hl => ?_)
            refine lv_goto (tgt := 67) hx hb dX12_place_110 (by decide) ?_
            exact ih.2 v3 x_1789 x_1790 _ _ _ gf_p1 gf_p2 (gi_w gx_1790 (by decide)) (by rw [ex_1790, ex_1789]; exact hF) (by have av5 := gv5.1; have bv5 := gv5.2; have qgx_1790 := gx_1790.1; have rgx_1790 := gx_1790.2; have igx_1790 : x_1790.toInt = v5.toInt + 1 := (by have hc1 : (1 : Int32).toInt = 1 := (by decide); have h9 := gi_addI ex_1790 (by have h1 := g_1780.1; have h2 := (gi_c 1 1 (by decide)).1; have h3 := g_1780.2; have h4 := (gi_c 1 1 (by decide)).2; omega) (by have h1 := g_1780.1; have h2 := (gi_c 1 1 (by decide)).1; have h3 := g_1780.2; have h4 := (gi_c 1 1 (by decide)).2; omega); rw [hc1] at h9; exact h9); have qgv5 := g_1780.1; have rgv5 := g_1780.2; omega) hP hS (lv_sub hl [2, 3, 4, 5, 1, 0] rfl)
          · have hF := gf_pos (by rw [ex_1786] at c_1787; exact c_1787) hF
            have g_1791 : gi x_1786 0 0 := gi_eq c_1787 (gi_c 0 0 (by decide))
            refine lv_iconst (v := 1) hx hb dX12_place_99 (by decide) ?_
            refine lv_goto (tgt := 104) hx hb dX12_place_100 (by decide) ?_
            refine lv_iadd hx hb dX12_place_104 ?_
            refine lv_topi (fun x_1792 ex_1792 => ?_)
            refine lv_istore (lv' := [(4, .int x_1792), (0, .ref h0), (1, .int p1), (2, .int p2), (3, .int v3), (5, .int v5)]) hx hb dX12_place_105 hl (by decide) rfl (fun ls hl => ?_)
            obtain ⟨x_1793, ex_1793⟩ : ∃ y : Int32, y = v5 + 1 := ⟨_, rfl⟩
            have gx_1793 : gi x_1793 1 24 := gi_add ex_1793 g_1780 (gi_c 1 1 (by decide)) (by decide)
            refine lv_iinc (v := x_1793) (lv' := [(5, .int x_1793), (4, .int x_1792), (0, .ref h0), (1, .int p1), (2, .int p2), (3, .int v3)]) hx hb dX12_place_107 hl (k := 5) rfl (by rw [ex_1793]; rfl) (by decide) rfl (fun ls hl => ?_)
            refine lv_goto (tgt := 67) hx hb dX12_place_110 (by decide) ?_
            exact ih.2 v3 x_1792 x_1793 _ _ _ gf_p1 gf_p2 (gi_w gx_1793 (by decide)) (by rw [ex_1793, ex_1792]; exact hF) (by have av5 := gv5.1; have bv5 := gv5.2; have qgx_1793 := gx_1793.1; have rgx_1793 := gx_1793.2; have igx_1793 : x_1793.toInt = v5.toInt + 1 := (by have hc1 : (1 : Int32).toInt = 1 := (by decide); have h9 := gi_addI ex_1793 (by have h1 := g_1780.1; have h2 := (gi_c 1 1 (by decide)).1; have h3 := g_1780.2; have h4 := (gi_c 1 1 (by decide)).2; omega) (by have h1 := g_1780.1; have h2 := (gi_c 1 1 (by decide)).1; have h3 := g_1780.2; have h4 := (gi_c 1 1 (by decide)).2; omega); rw [hc1] at h9; exact h9); have qgv5 := g_1780.1; have rgv5 := g_1780.2; omega) hP hS (lv_sub hl [2, 3, 4, 5, 1, 0] rfl)
set_option maxHeartbeats 4000000 in
set_option maxRecDepth 100000 in
theorem sX12_place (l : Launch) (dC : Nat → ClassId) (dI : Nat → Nat → Nat) (h0 : Nat) (mi : Nat → Int32) (mr : Nat → Nat) (km : Nat → ClassId) (fm_trust : Nat → Int32) (fm_letter : Nat → Int32) (fm_reportPlace : Nat → Int32) (fm_struck : Nat → Int32) (fm_reportKind : Nat → Int32) (fm_reportMonth : Nat → Int32) (fm_reportDay : Nat → Int32) (fm_reportKnown : Nat → Int32) (fm_deedMonth : Nat → Int32) (fm_deedDay : Nat → Int32) (fm_deedLong : Nat → Int32) (fm_deedKind : Nat → Int32) (fm_kept : Nat → Int32) (fm_tape : Nat → Int32) (fm_must : Nat → Int32) (fm_least : Nat → Int32) (fm_pin : Nat → Int32) (fm_ways : Nat → Int32) (fm_verdict : Nat → Int32) (fm_row : Nat → Int32) (fm_official : Nat → Int32) (fm_aside : Nat → Int32) (fm_worth : Nat → Int32) (fm_out : Nat → Int32) (p1 : Int32) (p2 : Int32) (gmi_0 : gi (mi 0) 0 24) (gmi_1 : gi (mi 1) 0 5) (gmi_2 : gi (mi 2) 0 5) (gmi_4 : gi (mi 4) 0 1) (gmi_7 : gi (mi 7) 0 6) (gmi_10 : gi (mi 10) 0 24) (gmi_17 : gi (mi 17) 0 8) (gmi_23 : gi (mi 23) 0 300) (gmi_24 : gi (mi 24) 0 1) (gmi_26 : gi (mi 26) 0 1600) (gmi_29 : gi (mi 29) 0 1600) (gmi_30 : gi (mi 30) 0 1600) (gmi_33 : gi (mi 33) 0 1) (gmi_37 : gi (mi 37) 0 1) (gmi_41 : gi (mi 41) 0 24) (gmi_50 : gi (mi 50) 0 1) (gmi_51 : gi (mi 51) 0 1) (gmi_56 : gi (mi 56) 0 80) (gfm_reportPlace : ga fm_reportPlace 24 0 5) (gfm_struck : ga fm_struck 24 0 1) : Met l yX12_place (.code yX12_place cX12_place 6 (some .int) :: wsGB) ({ frames := 2, cells := 0, slots := 0, locals := 46 }) (va_Pc [.ref h0, .int p1, .int p2] (fun U => va_P (dC, dI) vwCl (MWn h0 mr km (mi 0) (mi 1) (mi 2) (mi 3) (mi 4) (mi 5) (mi 6) (mi 7) (mi 10) (mi 17) (mi 23) (mi 24) (mi 26) (mi 27) (mi 28) (mi 29) (mi 30) (mi 31) (mi 32) (mi 33) (mi 37) (mi 41) (mi 42) (mi 43) (mi 44) (mi 45) (mi 47) (mi 48) (mi 49) (mi 50) (mi 51) (mi 54) (mi 56) fm_trust fm_letter fm_reportPlace fm_reportKind fm_struck fm_reportMonth fm_reportDay fm_reportKnown fm_deedMonth fm_deedDay fm_deedLong fm_deedKind fm_kept fm_tape fm_must fm_least fm_pin fm_ways fm_verdict fm_row fm_official fm_aside fm_worth fm_out) U.heap ∧ va_K (dC, dI) vwCl (MT km) U)) (va_Qi (fun (r : Int32) (u : Unit) => (gi r (-2147483648) 2147483647) ∧ r = fX12_place mi fm_trust fm_letter fm_reportPlace fm_struck p1 p2) (fun _ _ => True) (fun _ => False)) 0 0 (fun _ => False) := by
  refine Met.ofW (cc := cX12_place) (maxL := 6) (ret := (some .int)) (by decide) rfl ?_
  intro p e s m args below meth c s₁ B hml hv
  obtain ⟨rfl, hP, hK⟩ := hv
  have hx := B.exec
  have hb := B.bytes
  have hr := B.returns
  have hts := atoms_spec (ws := (.code yX12_place cX12_place 6 (some .int) :: wsGB)) B.pre
  have hown : s.vm.findClass RX12 = some m.cls := findClass_of_methodNamed B.named
  have hlocks := B.notSynchronized
  have hS : va_S (fun _ => False) s.heap s.heap [] := va_S.rf
  have hl := lv_entry ([.ref h0, .int p1, .int p2]) (n := 6) (Nat.le_of_ble_eq_true rfl)
  rw [lg_entry_eq]
  generalize (lg_sl ([.ref h0, .int p1, .int p2]) ++ List.replicate (6 - (lg_sl ([.ref h0, .int p1, .int p2])).length) Slot.unset).toArray = ls at hl ⊢
  have hl : lv_has ls 6 [(0, .ref h0), (1, .int p1), (2, .int p2)] := hl
  obtain ⟨RES, hF⟩ : ∃ R9, fX12_place mi fm_trust fm_letter fm_reportPlace fm_struck p1 p2 = R9 := ⟨_, rfl⟩
  have hR9 := hF
  refine lv_aload_n hx hb dX12_place_0 rfl (lv_at hl 0 rfl) ?_
  refine lv_iload_n hx hb dX12_place_1 rfl (lv_at hl 1 rfl) ?_
  refine va_calli (va_runV (As := [.int p1]) (rest := []) ⟨hx, hb, hml, hown, hts⟩ (sX12_isPlace l dC dI h0 mi mr km fm_trust fm_letter fm_reportPlace fm_reportKind fm_struck fm_reportMonth fm_reportDay fm_reportKnown fm_deedMonth fm_deedDay fm_deedLong fm_deedKind fm_kept fm_tape fm_must fm_least fm_pin fm_ways fm_verdict fm_row fm_official fm_aside fm_worth fm_out p1 gmi_0 gmi_1 gmi_2 gmi_4 gmi_7 gmi_10 gmi_17 gmi_23 gmi_24 gmi_26 gmi_29 gmi_30 gmi_33 gmi_37 gmi_41 gmi_50 gmi_51 gmi_56) (cwV 1 hts (gz_gV mGB_224 mGB_225 mGB_226 mGB_1 mGB_227 goodGB) rfl rfl rfl (by decide +kernel) ⟨Nat.le_of_ble_eq_true rfl, Nat.le_of_ble_eq_true rfl⟩) ⟨bl_R, mw_recv hK hP, fun U hU hW => ⟨rfl, by rw [hU]; exact hP, va_K.moved hW.alike hK⟩⟩ rfl rfl hl.1 rfl (lv_room (Nat.le_of_ble_eq_true rfl)) dX12_place_2 ⟨Nat.zero_le _, Nat.zero_le _⟩) hS (fun q _ h => h.elim) (fun q h => h.elim) (fun r_1794 u t H1 locs ht hvm hw hB hz1 hk1 hS => ?_)
  obtain ⟨hw, hE⟩ := hw
  have hP := gz_keep hP hk1
  have hF := gf_callm (a := r_1794) hE hF (by first | with_reducible rfl | simp only [upd_same, upd_app, ↓reduceIte, Nat.reduceEqDiff])
  generalize H1 = H at hP hS ⊢
  have gr_1794 : gi r_1794 0 1 := hw.1
  have hqr_1794 := hw.2
  refine lv_if_eq (tgt := 20) hx hb dX12_place_5 (by decide) (fun c_1795 => ?_) (fun c_1795 => ?_)
  · have hF := gf_pos c_1795 hF
    have g_1796 : gi r_1794 0 0 := gi_eq c_1795 (gi_c 0 0 (by decide))
    refine lv_bipush (v := (-2)) hx hb dX12_place_20 (by decide) ?_
    exact W.iret (v := (-2)) hx hb hr (fun t ht hW => ⟨⟨(-2), (), rfl, ⟨(gi_any (-2)), hF.trans hR9.symm⟩, trivial⟩, hS.F ht⟩) hS.2.2 dX12_place_22
  · have hF := gf_neg c_1795 hF
    have g_1797 : gi r_1794 1 1 := gi_ne_lo c_1795 gr_1794 (gi_c 0 0 (by decide)) (by decide)
    have g_1798 : gi p1 0 5 := gi_cap (gi_any p1) (hqr_1794 (gz_one g_1797)) (by decide)
    refine lv_iload_n hx hb dX12_place_8 rfl (lv_at hl 2 rfl) ?_
    refine lv_i2l (v := (p2).toInt64) hx hb dX12_place_9 rfl ?_
    refine lv_topl (fun l_1799 el_1799 => ?_)
    refine lv_lconst (v := 0) hx hb dX12_place_10 (by decide) ?_
    refine lv_ldc2 (own := RX12) (v := 2) hx hb hown (hts _ (List.mem_cons_of_mem _ mGB_223)) dX12_place_11 ?_
    have hPc := hP.sub (ws' := []) [] rfl
    have hKc := hK.sub (tys' := []) [] rfl
    refine va_calli (va_runS (As := [.long l_1799, .long 0, .long 2]) (rest := []) ⟨hx, hb, hml, hown, hts⟩ (sX12_in l dC dI l_1799 0 2) (cwS 3 hts (gz_gS mGB_47 mGB_48 mGB_1 mGB_49 goodGB) rfl rfl rfl (by decide +kernel) ⟨Nat.le_of_ble_eq_true rfl, Nat.le_of_ble_eq_true rfl⟩) ⟨bl_R, fun U hU hW => ⟨rfl, by rw [hU]; exact hPc, va_K.moved hW.alike hKc⟩⟩ rfl rfl hl.1 rfl (lv_room (Nat.le_of_ble_eq_true rfl)) dX12_place_14 ⟨Nat.zero_le _, Nat.zero_le _⟩) hS (fun q _ h => h.elim) (fun q h => h.elim) (fun r_1800 u t H1 locs ht hvm hw hB hz1 hk1 hS => ?_)
    obtain ⟨hw, hE⟩ := hw
    have hP := gz_keep hP hk1
    have hF := gf_call (a := r_1800) (by rw [el_1799] at hE; exact hE) hF
    generalize H1 = H at hP hS ⊢
    have gr_1800 : gi r_1800 0 1 := hw.1
    have hqr_1800 := hw.2
    refine lv_if_ne (tgt := 23) hx hb dX12_place_17 (by decide) (fun c_1801 => ?_) (fun c_1801 => ?_)
    · have hF := gf_neg c_1801 hF
      have g_1802 : gi r_1800 1 1 := gi_ne_lo c_1801 gr_1800 (gi_c 0 0 (by decide)) (by decide)
      have g_1803 : gi p2 0 2 := gi_cap (gi_any p2) (gz_inr (hqr_1800.1 (gz_one g_1802)) el_1799 (A := 0) (B := 2) (by decide) (by decide)) (by decide)
      refine lv_iconst (v := 0) hx hb dX12_place_23 (by decide) ?_
      refine lv_istore_n (lv' := [(3, .int 0), (0, .ref h0), (1, .int p1), (2, .int p2)]) hx hb dX12_place_24 rfl hl (by decide) rfl (fun ls hl => ?_)
      refine lv_iconst (v := 0) hx hb dX12_place_25 (by decide) ?_
      refine lv_istore (lv' := [(4, .int 0), (3, .int 0), (0, .ref h0), (1, .int p1), (2, .int p2)]) hx hb dX12_place_26 hl (by decide) rfl (fun ls hl => ?_)
      refine (lp_sX12_place h0 mi mr km fm_trust fm_letter fm_reportPlace fm_struck fm_reportKind fm_reportMonth fm_reportDay fm_reportKnown fm_deedMonth fm_deedDay fm_deedLong fm_deedKind fm_kept fm_tape fm_must fm_least fm_pin fm_ways fm_verdict fm_row fm_official fm_aside fm_worth fm_out p1 p2 gmi_0 gmi_1 gmi_2 gmi_4 gmi_7 gmi_10 gmi_17 gmi_23 gmi_24 gmi_26 gmi_29 gmi_30 gmi_33 gmi_37 gmi_41 gmi_50 gmi_51 gmi_56 gfm_reportPlace gfm_struck hx hb hml hown hts hK (Nat.le_of_ble_eq_true rfl) (Nat.le_of_ble_eq_true rfl) (Nat.zero_le _) (Nat.zero_le _) (fun v H locs ls gv hF hP hS hl => ?_) (fun v H locs ls hF hP hS hl => ?_) 1000000000).1 0 0 _ _ _ g_1798 g_1803 (gi_w (gi_c 0 0 (by decide)) (by decide)) hF (by have k0 : (0 : Int32).toInt = 0 := (by decide); omega) hP hS (lv_sub hl [2, 3, 4, 1, 0] rfl)
      · skip
        exact W.iret (v := v) hx hb hr (fun t ht hW => ⟨⟨v, (), rfl, ⟨(gi_any v), hF.trans hR9.symm⟩, trivial⟩, hS.F ht⟩) hS.2.2 dX12_place_22
      · skip
        exact W.iret (v := v) hx hb hr (fun t ht hW => ⟨⟨v, (), rfl, ⟨(gi_any v), hF.trans hR9.symm⟩, trivial⟩, hS.F ht⟩) hS.2.2 dX12_place_137
    · have hF := gf_pos c_1801 hF
      have g_1804 : gi r_1800 0 0 := gi_eq c_1801 (gi_c 0 0 (by decide))
      refine lv_bipush (v := (-2)) hx hb dX12_place_20 (by decide) ?_
      exact W.iret (v := (-2)) hx hb hr (fun t ht hW => ⟨⟨(-2), (), rfl, ⟨(gi_any (-2)), hF.trans hR9.symm⟩, trivial⟩, hS.F ht⟩) hS.2.2 dX12_place_22
theorem dX12_lays_0 : decode cX12_lays 0 = .ok (.aload_n 0, 1) := by decide +kernel
theorem dX12_lays_1 : decode cX12_lays 1 = .ok (.getfield 16, 3) := by decide +kernel
theorem dX12_lays_4 : decode cX12_lays 4 = .ok (.aload_n 0, 1) := by decide +kernel
theorem dX12_lays_5 : decode cX12_lays 5 = .ok (.getfield 141, 3) := by decide +kernel
theorem dX12_lays_8 : decode cX12_lays 8 = .ok (.iload_n 1, 1) := by decide +kernel
theorem dX12_lays_9 : decode cX12_lays 9 = .ok (.iastore, 1) := by decide +kernel
theorem dX12_lays_10 : decode cX12_lays 10 = .ok (.aload_n 0, 1) := by decide +kernel
theorem dX12_lays_11 : decode cX12_lays 11 = .ok (.getfield 19, 3) := by decide +kernel
theorem dX12_lays_14 : decode cX12_lays 14 = .ok (.aload_n 0, 1) := by decide +kernel
theorem dX12_lays_15 : decode cX12_lays 15 = .ok (.getfield 141, 3) := by decide +kernel
theorem dX12_lays_18 : decode cX12_lays 18 = .ok (.iload_n 2, 1) := by decide +kernel
theorem dX12_lays_19 : decode cX12_lays 19 = .ok (.iastore, 1) := by decide +kernel
theorem dX12_lays_20 : decode cX12_lays 20 = .ok (.aload_n 0, 1) := by decide +kernel
theorem dX12_lays_21 : decode cX12_lays 21 = .ok (.getfield 26, 3) := by decide +kernel
theorem dX12_lays_24 : decode cX12_lays 24 = .ok (.aload_n 0, 1) := by decide +kernel
theorem dX12_lays_25 : decode cX12_lays 25 = .ok (.getfield 141, 3) := by decide +kernel
theorem dX12_lays_28 : decode cX12_lays 28 = .ok (.iload_n 3, 1) := by decide +kernel
theorem dX12_lays_29 : decode cX12_lays 29 = .ok (.iastore, 1) := by decide +kernel
theorem dX12_lays_30 : decode cX12_lays 30 = .ok (.aload_n 0, 1) := by decide +kernel
theorem dX12_lays_31 : decode cX12_lays 31 = .ok (.getfield 29, 3) := by decide +kernel
theorem dX12_lays_34 : decode cX12_lays 34 = .ok (.aload_n 0, 1) := by decide +kernel
theorem dX12_lays_35 : decode cX12_lays 35 = .ok (.getfield 141, 3) := by decide +kernel
theorem dX12_lays_38 : decode cX12_lays 38 = .ok (.iload 4, 2) := by decide +kernel
theorem dX12_lays_40 : decode cX12_lays 40 = .ok (.iastore, 1) := by decide +kernel
theorem dX12_lays_41 : decode cX12_lays 41 = .ok (.aload_n 0, 1) := by decide +kernel
theorem dX12_lays_42 : decode cX12_lays 42 = .ok (.getfield 32, 3) := by decide +kernel
theorem dX12_lays_45 : decode cX12_lays 45 = .ok (.aload_n 0, 1) := by decide +kernel
theorem dX12_lays_46 : decode cX12_lays 46 = .ok (.getfield 141, 3) := by decide +kernel
theorem dX12_lays_49 : decode cX12_lays 49 = .ok (.iload 5, 2) := by decide +kernel
theorem dX12_lays_51 : decode cX12_lays 51 = .ok (.iastore, 1) := by decide +kernel
theorem dX12_lays_52 : decode cX12_lays 52 = .ok (.aload_n 0, 1) := by decide +kernel
theorem dX12_lays_53 : decode cX12_lays 53 = .ok (.getfield 22, 3) := by decide +kernel
theorem dX12_lays_56 : decode cX12_lays 56 = .ok (.aload_n 0, 1) := by decide +kernel
theorem dX12_lays_57 : decode cX12_lays 57 = .ok (.getfield 141, 3) := by decide +kernel
theorem dX12_lays_60 : decode cX12_lays 60 = .ok (.iconst 0, 1) := by decide +kernel
theorem dX12_lays_61 : decode cX12_lays 61 = .ok (.bastore, 1) := by decide +kernel
theorem dX12_lays_62 : decode cX12_lays 62 = .ok (.aload_n 0, 1) := by decide +kernel
theorem dX12_lays_63 : decode cX12_lays 63 = .ok (.dup, 1) := by decide +kernel
theorem dX12_lays_64 : decode cX12_lays 64 = .ok (.getfield 141, 3) := by decide +kernel
theorem dX12_lays_67 : decode cX12_lays 67 = .ok (.iconst 1, 1) := by decide +kernel
theorem dX12_lays_68 : decode cX12_lays 68 = .ok (.iadd, 1) := by decide +kernel
theorem dX12_lays_69 : decode cX12_lays 69 = .ok (.putfield 141, 3) := by decide +kernel
theorem dX12_lays_72 : decode cX12_lays 72 = .ok (.return_, 1) := by decide +kernel
noncomputable def fX12_lays (mi : Nat → Int32) (fm_reportPlace : Nat → Int32) (fm_reportKind : Nat → Int32) (fm_reportMonth : Nat → Int32) (fm_reportDay : Nat → Int32) (fm_reportKnown : Nat → Int32) (fm_struck : Nat → Int32) (p1 : Int32) (p2 : Int32) (p3 : Int32) (p4 : Int32) (p5 : Int32) : Int32 × (Nat → Int32) × (Nat → Int32) × (Nat → Int32) × (Nat → Int32) × (Nat → Int32) × (Nat → Int32) := (((mi 10) + (1 : Int32)), (upd fm_reportPlace (mi 10).toNatClampNeg p1), (upd fm_reportKind (mi 10).toNatClampNeg p2), (upd fm_reportMonth (mi 10).toNatClampNeg p3), (upd fm_reportDay (mi 10).toNatClampNeg p4), (upd fm_reportKnown (mi 10).toNatClampNeg p5), (upd fm_struck (mi 10).toNatClampNeg (vp_nar .boolean (0 : Int32))))
abbrev pb_sX12_lays (dC : Nat → ClassId) (dI : Nat → Nat → Nat) (A9 : Nat → Prop) (h0 : Nat) (mi : Nat → Int32) (mr : Nat → Nat) (km : Nat → ClassId) (fm_reportPlace : Nat → Int32) (fm_reportKind : Nat → Int32) (fm_reportMonth : Nat → Int32) (fm_reportDay : Nat → Int32) (fm_reportKnown : Nat → Int32) (fm_struck : Nat → Int32) (fm_trust : Nat → Int32) (fm_letter : Nat → Int32) (fm_deedMonth : Nat → Int32) (fm_deedDay : Nat → Int32) (fm_deedLong : Nat → Int32) (fm_deedKind : Nat → Int32) (fm_kept : Nat → Int32) (fm_tape : Nat → Int32) (fm_must : Nat → Int32) (fm_least : Nat → Int32) (fm_pin : Nat → Int32) (fm_ways : Nat → Int32) (fm_verdict : Nat → Int32) (fm_row : Nat → Int32) (fm_official : Nat → Int32) (fm_aside : Nat → Int32) (fm_worth : Nat → Int32) (fm_out : Nat → Int32) (p1 : Int32) (p2 : Int32) (p3 : Int32) (p4 : Int32) (p5 : Int32) (w0_10 : Int32) (z1 : Nat → Int32) (z2 : Nat → Int32) (z3 : Nat → Int32) (z4 : Nat → Int32) (z5 : Nat → Int32) (z6 : Nat → Int32) (t : State) : Prop := gi w0_10 0 24 ∧ ga z1 24 0 5 ∧ ga z3 24 0 23 ∧ ga z4 24 0 999 ∧ ga z5 24 0 999 ∧ ga z6 24 0 1 ∧ (w0_10, z1, z2, z3, z4, z5, z6) = fX12_lays mi fm_reportPlace fm_reportKind fm_reportMonth fm_reportDay fm_reportKnown fm_struck p1 p2 p3 p4 p5 ∧ va_P (dC, dI) vwCl (MWn h0 mr km (mi 0) (mi 1) (mi 2) (mi 3) (mi 4) (mi 5) (mi 6) (mi 7) w0_10 (mi 17) (mi 23) (mi 24) (mi 26) (mi 27) (mi 28) (mi 29) (mi 30) (mi 31) (mi 32) (mi 33) (mi 37) (mi 41) (mi 42) (mi 43) (mi 44) (mi 45) (mi 47) (mi 48) (mi 49) (mi 50) (mi 51) (mi 54) (mi 56) fm_trust fm_letter z1 z2 z6 z3 z4 z5 fm_deedMonth fm_deedDay fm_deedLong fm_deedKind fm_kept fm_tape fm_must fm_least fm_pin fm_ways fm_verdict fm_row fm_official fm_aside fm_worth fm_out) t.heap ∧ va_D A9 (MWn h0 mr km (mi 0) (mi 1) (mi 2) (mi 3) (mi 4) (mi 5) (mi 6) (mi 7) w0_10 (mi 17) (mi 23) (mi 24) (mi 26) (mi 27) (mi 28) (mi 29) (mi 30) (mi 31) (mi 32) (mi 33) (mi 37) (mi 41) (mi 42) (mi 43) (mi 44) (mi 45) (mi 47) (mi 48) (mi 49) (mi 50) (mi 51) (mi 54) (mi 56) fm_trust fm_letter z1 z2 z6 z3 z4 z5 fm_deedMonth fm_deedDay fm_deedLong fm_deedKind fm_kept fm_tape fm_must fm_least fm_pin fm_ways fm_verdict fm_row fm_official fm_aside fm_worth fm_out)
set_option maxHeartbeats 4000000 in
set_option maxRecDepth 100000 in
theorem sX12_lays (l : Launch) (dC : Nat → ClassId) (dI : Nat → Nat → Nat) (sz : Nat) (h0 : Nat) (mi : Nat → Int32) (mr : Nat → Nat) (km : Nat → ClassId) (fm_reportPlace : Nat → Int32) (fm_reportKind : Nat → Int32) (fm_reportMonth : Nat → Int32) (fm_reportDay : Nat → Int32) (fm_reportKnown : Nat → Int32) (fm_struck : Nat → Int32) (fm_trust : Nat → Int32) (fm_letter : Nat → Int32) (fm_deedMonth : Nat → Int32) (fm_deedDay : Nat → Int32) (fm_deedLong : Nat → Int32) (fm_deedKind : Nat → Int32) (fm_kept : Nat → Int32) (fm_tape : Nat → Int32) (fm_must : Nat → Int32) (fm_least : Nat → Int32) (fm_pin : Nat → Int32) (fm_ways : Nat → Int32) (fm_verdict : Nat → Int32) (fm_row : Nat → Int32) (fm_official : Nat → Int32) (fm_aside : Nat → Int32) (fm_worth : Nat → Int32) (fm_out : Nat → Int32) (p1 : Int32) (p2 : Int32) (p3 : Int32) (p4 : Int32) (p5 : Int32) (gmi_0 : gi (mi 0) 0 24) (gmi_1 : gi (mi 1) 0 5) (gmi_2 : gi (mi 2) 0 5) (gmi_4 : gi (mi 4) 0 1) (gmi_7 : gi (mi 7) 0 6) (gmi_10 : gi (mi 10) 0 23) (gmi_17 : gi (mi 17) 0 8) (gmi_23 : gi (mi 23) 0 300) (gmi_24 : gi (mi 24) 0 1) (gmi_26 : gi (mi 26) 0 1600) (gmi_29 : gi (mi 29) 0 1600) (gmi_30 : gi (mi 30) 0 1600) (gmi_33 : gi (mi 33) 0 1) (gmi_37 : gi (mi 37) 0 1) (gmi_41 : gi (mi 41) 0 24) (gmi_50 : gi (mi 50) 0 1) (gmi_51 : gi (mi 51) 0 1) (gmi_56 : gi (mi 56) 0 80) (gfm_reportPlace : ga fm_reportPlace 24 0 5) (gfm_reportMonth : ga fm_reportMonth 24 0 23) (gfm_reportDay : ga fm_reportDay 24 0 999) (gfm_reportKnown : ga fm_reportKnown 24 0 999) (gfm_struck : ga fm_struck 24 0 1) (gp1 : gi p1 0 5) (gp3 : gi p3 0 23) (gp4 : gi p4 0 999) (gp5 : gi p5 0 999) : Met l yX12_lays (.code yX12_lays cX12_lays 6 none :: wsGB) ({ frames := 0, cells := 0, slots := 0, locals := 0 }) (va_Pc [.ref h0, .int p1, .int p2, .int p3, .int p4, .int p5] (fun U => U.heap.size = sz ∧ va_P (dC, dI) vwCl (MWn h0 mr km (mi 0) (mi 1) (mi 2) (mi 3) (mi 4) (mi 5) (mi 6) (mi 7) (mi 10) (mi 17) (mi 23) (mi 24) (mi 26) (mi 27) (mi 28) (mi 29) (mi 30) (mi 31) (mi 32) (mi 33) (mi 37) (mi 41) (mi 42) (mi 43) (mi 44) (mi 45) (mi 47) (mi 48) (mi 49) (mi 50) (mi 51) (mi 54) (mi 56) fm_trust fm_letter fm_reportPlace fm_reportKind fm_struck fm_reportMonth fm_reportDay fm_reportKnown fm_deedMonth fm_deedDay fm_deedLong fm_deedKind fm_kept fm_tape fm_must fm_least fm_pin fm_ways fm_verdict fm_row fm_official fm_aside fm_worth fm_out) U.heap ∧ va_K (dC, dI) vwCl (MT km) U ∧ va_D (fun _ => True) (MWn h0 mr km (mi 0) (mi 1) (mi 2) (mi 3) (mi 4) (mi 5) (mi 6) (mi 7) (mi 10) (mi 17) (mi 23) (mi 24) (mi 26) (mi 27) (mi 28) (mi 29) (mi 30) (mi 31) (mi 32) (mi 33) (mi 37) (mi 41) (mi 42) (mi 43) (mi 44) (mi 45) (mi 47) (mi 48) (mi 49) (mi 50) (mi 51) (mi 54) (mi 56) fm_trust fm_letter fm_reportPlace fm_reportKind fm_struck fm_reportMonth fm_reportDay fm_reportKnown fm_deedMonth fm_deedDay fm_deedLong fm_deedKind fm_kept fm_tape fm_must fm_least fm_pin fm_ways fm_verdict fm_row fm_official fm_aside fm_worth fm_out))) (va_Qv (fun (u : Unit) => True) (fun _ t => ∃ (w0_10 : Int32) (z1 : Nat → Int32) (z2 : Nat → Int32) (z3 : Nat → Int32) (z4 : Nat → Int32) (z5 : Nat → Int32) (z6 : Nat → Int32), pb_sX12_lays dC dI (va_A (MWn h0 mr km (mi 0) (mi 1) (mi 2) (mi 3) (mi 4) (mi 5) (mi 6) (mi 7) (mi 10) (mi 17) (mi 23) (mi 24) (mi 26) (mi 27) (mi 28) (mi 29) (mi 30) (mi 31) (mi 32) (mi 33) (mi 37) (mi 41) (mi 42) (mi 43) (mi 44) (mi 45) (mi 47) (mi 48) (mi 49) (mi 50) (mi 51) (mi 54) (mi 56) fm_trust fm_letter fm_reportPlace fm_reportKind fm_struck fm_reportMonth fm_reportDay fm_reportKnown fm_deedMonth fm_deedDay fm_deedLong fm_deedKind fm_kept fm_tape fm_must fm_least fm_pin fm_ways fm_verdict fm_row fm_official fm_aside fm_worth fm_out) sz) h0 mi mr km fm_reportPlace fm_reportKind fm_reportMonth fm_reportDay fm_reportKnown fm_struck fm_trust fm_letter fm_deedMonth fm_deedDay fm_deedLong fm_deedKind fm_kept fm_tape fm_must fm_least fm_pin fm_ways fm_verdict fm_row fm_official fm_aside fm_worth fm_out p1 p2 p3 p4 p5 w0_10 z1 z2 z3 z4 z5 z6 t) (va_A (MWn h0 mr km (mi 0) (mi 1) (mi 2) (mi 3) (mi 4) (mi 5) (mi 6) (mi 7) (mi 10) (mi 17) (mi 23) (mi 24) (mi 26) (mi 27) (mi 28) (mi 29) (mi 30) (mi 31) (mi 32) (mi 33) (mi 37) (mi 41) (mi 42) (mi 43) (mi 44) (mi 45) (mi 47) (mi 48) (mi 49) (mi 50) (mi 51) (mi 54) (mi 56) fm_trust fm_letter fm_reportPlace fm_reportKind fm_struck fm_reportMonth fm_reportDay fm_reportKnown fm_deedMonth fm_deedDay fm_deedLong fm_deedKind fm_kept fm_tape fm_must fm_least fm_pin fm_ways fm_verdict fm_row fm_official fm_aside fm_worth fm_out) sz)) 0 0 (va_A (MWn h0 mr km (mi 0) (mi 1) (mi 2) (mi 3) (mi 4) (mi 5) (mi 6) (mi 7) (mi 10) (mi 17) (mi 23) (mi 24) (mi 26) (mi 27) (mi 28) (mi 29) (mi 30) (mi 31) (mi 32) (mi 33) (mi 37) (mi 41) (mi 42) (mi 43) (mi 44) (mi 45) (mi 47) (mi 48) (mi 49) (mi 50) (mi 51) (mi 54) (mi 56) fm_trust fm_letter fm_reportPlace fm_reportKind fm_struck fm_reportMonth fm_reportDay fm_reportKnown fm_deedMonth fm_deedDay fm_deedLong fm_deedKind fm_kept fm_tape fm_must fm_least fm_pin fm_ways fm_verdict fm_row fm_official fm_aside fm_worth fm_out) sz) := by
  refine Met.ofW (cc := cX12_lays) (maxL := 6) (ret := none) (by decide) rfl ?_
  intro p e s m args below meth c s₁ B hml hv
  obtain ⟨rfl, hsz, hP, hK, hD0⟩ := hv
  have hx := B.exec
  have hb := B.bytes
  have hr := B.returns
  have hts := atoms_spec (ws := (.code yX12_lays cX12_lays 6 none :: wsGB)) B.pre
  have hown : s.vm.findClass RX12 = some m.cls := findClass_of_methodNamed B.named
  have hlocks := B.notSynchronized
  subst hsz
  have hD := hD0.self (sz := s.heap.size)
  generalize hAe : va_A (MWn h0 mr km (mi 0) (mi 1) (mi 2) (mi 3) (mi 4) (mi 5) (mi 6) (mi 7) (mi 10) (mi 17) (mi 23) (mi 24) (mi 26) (mi 27) (mi 28) (mi 29) (mi 30) (mi 31) (mi 32) (mi 33) (mi 37) (mi 41) (mi 42) (mi 43) (mi 44) (mi 45) (mi 47) (mi 48) (mi 49) (mi 50) (mi 51) (mi 54) (mi 56) fm_trust fm_letter fm_reportPlace fm_reportKind fm_struck fm_reportMonth fm_reportDay fm_reportKnown fm_deedMonth fm_deedDay fm_deedLong fm_deedKind fm_kept fm_tape fm_must fm_least fm_pin fm_ways fm_verdict fm_row fm_official fm_aside fm_worth fm_out) s.heap.size = A at hD ⊢
  have hA : ∀ q : Nat, s.heap.size ≤ q → A q := fun q h => by rw [← hAe]; exact Or.inr h
  have hS : va_S A s.heap s.heap [] := va_S.rf
  have hl := lv_entry ([.ref h0, .int p1, .int p2, .int p3, .int p4, .int p5]) (n := 6) (Nat.le_of_ble_eq_true rfl)
  rw [lg_entry_eq]
  generalize (lg_sl ([.ref h0, .int p1, .int p2, .int p3, .int p4, .int p5]) ++ List.replicate (6 - (lg_sl ([.ref h0, .int p1, .int p2, .int p3, .int p4, .int p5])).length) Slot.unset).toArray = ls at hl ⊢
  have hl : lv_has ls 6 [(0, .ref h0), (1, .int p1), (2, .int p2), (3, .int p3), (4, .int p4), (5, .int p5)] := hl
  obtain ⟨RES, hF⟩ : ∃ R9, fX12_lays mi fm_reportPlace fm_reportKind fm_reportMonth fm_reportDay fm_reportKnown fm_struck p1 p2 p3 p4 p5 = R9 := ⟨_, rfl⟩
  have hR9 := hF
  refine lv_aload_n hx hb dX12_lays_0 rfl (lv_at hl 0 rfl) ?_
  refine va_get (D := (dC, dI)) (ci := 12) (v := .ref (mr 2)) (C := RX12) (T := TX12) (N := 57) hx hb hts (fun w h => List.mem_cons_of_mem _ (jnGB_X12 w h)) hown hK hP 0 rfl rfl 11 (by decide) (hts _ (List.mem_cons_of_mem _ mGB_12)) (fun _ h9 => h9) rfl dX12_lays_1 ?_
  refine lv_aload_n hx hb dX12_lays_4 rfl (lv_at hl 0 rfl) ?_
  refine va_get (D := (dC, dI)) (ci := 12) (v := .int (mi 10)) (C := RX12) (T := TX12) (N := 57) hx hb hts (fun w h => List.mem_cons_of_mem _ (jnGB_X12 w h)) hown hK hP 0 rfl rfl 10 (by decide) (hts _ (List.mem_cons_of_mem _ mGB_111)) (fun _ h9 => h9) rfl dX12_lays_5 ?_
  refine lv_iload_n hx hb dX12_lays_8 rfl (lv_at hl 1 rfl) ?_
  refine va_iast hx hb hK hP hD hS 3 2 rfl rfl (gi_in gmi_10 (by decide)) dX12_lays_9 (fun H locs hP hD hS => ?_)
  have hP : va_P (dC, dI) vwCl (MWn h0 mr km (mi 0) (mi 1) (mi 2) (mi 3) (mi 4) (mi 5) (mi 6) (mi 7) (mi 10) (mi 17) (mi 23) (mi 24) (mi 26) (mi 27) (mi 28) (mi 29) (mi 30) (mi 31) (mi 32) (mi 33) (mi 37) (mi 41) (mi 42) (mi 43) (mi 44) (mi 45) (mi 47) (mi 48) (mi 49) (mi 50) (mi 51) (mi 54) (mi 56) fm_trust fm_letter (upd fm_reportPlace ((mi 10) : Int32).toNatClampNeg p1) fm_reportKind fm_struck fm_reportMonth fm_reportDay fm_reportKnown fm_deedMonth fm_deedDay fm_deedLong fm_deedKind fm_kept fm_tape fm_must fm_least fm_pin fm_ways fm_verdict fm_row fm_official fm_aside fm_worth fm_out) H := hP
  have hD : va_D A (MWn h0 mr km (mi 0) (mi 1) (mi 2) (mi 3) (mi 4) (mi 5) (mi 6) (mi 7) (mi 10) (mi 17) (mi 23) (mi 24) (mi 26) (mi 27) (mi 28) (mi 29) (mi 30) (mi 31) (mi 32) (mi 33) (mi 37) (mi 41) (mi 42) (mi 43) (mi 44) (mi 45) (mi 47) (mi 48) (mi 49) (mi 50) (mi 51) (mi 54) (mi 56) fm_trust fm_letter (upd fm_reportPlace ((mi 10) : Int32).toNatClampNeg p1) fm_reportKind fm_struck fm_reportMonth fm_reportDay fm_reportKnown fm_deedMonth fm_deedDay fm_deedLong fm_deedKind fm_kept fm_tape fm_must fm_least fm_pin fm_ways fm_verdict fm_row fm_official fm_aside fm_worth fm_out) := hD
  have gf_15 : ga (upd fm_reportPlace ((mi 10) : Int32).toNatClampNeg p1) 24 0 5 := ga_upd gfm_reportPlace gp1
  generalize ef_15 : upd fm_reportPlace ((mi 10) : Int32).toNatClampNeg p1 = f_15 at hP hD gf_15
  refine lv_aload_n hx hb dX12_lays_10 rfl (lv_at hl 0 rfl) ?_
  refine va_get (D := (dC, dI)) (ci := 12) (v := .ref (mr 3)) (C := RX12) (T := TX12) (N := 57) hx hb hts (fun w h => List.mem_cons_of_mem _ (jnGB_X12 w h)) hown hK hP 0 rfl rfl 12 (by decide) (hts _ (List.mem_cons_of_mem _ mGB_13)) (fun _ h9 => h9) rfl dX12_lays_11 ?_
  refine lv_aload_n hx hb dX12_lays_14 rfl (lv_at hl 0 rfl) ?_
  refine va_get (D := (dC, dI)) (ci := 12) (v := .int (mi 10)) (C := RX12) (T := TX12) (N := 57) hx hb hts (fun w h => List.mem_cons_of_mem _ (jnGB_X12 w h)) hown hK hP 0 rfl rfl 10 (by decide) (hts _ (List.mem_cons_of_mem _ mGB_111)) (fun _ h9 => h9) rfl dX12_lays_15 ?_
  refine lv_iload_n hx hb dX12_lays_18 rfl (lv_at hl 2 rfl) ?_
  refine va_iast hx hb hK hP hD hS 4 3 rfl rfl (gi_in gmi_10 (by decide)) dX12_lays_19 (fun H locs hP hD hS => ?_)
  have hP : va_P (dC, dI) vwCl (MWn h0 mr km (mi 0) (mi 1) (mi 2) (mi 3) (mi 4) (mi 5) (mi 6) (mi 7) (mi 10) (mi 17) (mi 23) (mi 24) (mi 26) (mi 27) (mi 28) (mi 29) (mi 30) (mi 31) (mi 32) (mi 33) (mi 37) (mi 41) (mi 42) (mi 43) (mi 44) (mi 45) (mi 47) (mi 48) (mi 49) (mi 50) (mi 51) (mi 54) (mi 56) fm_trust fm_letter f_15 (upd fm_reportKind ((mi 10) : Int32).toNatClampNeg p2) fm_struck fm_reportMonth fm_reportDay fm_reportKnown fm_deedMonth fm_deedDay fm_deedLong fm_deedKind fm_kept fm_tape fm_must fm_least fm_pin fm_ways fm_verdict fm_row fm_official fm_aside fm_worth fm_out) H := hP
  have hD : va_D A (MWn h0 mr km (mi 0) (mi 1) (mi 2) (mi 3) (mi 4) (mi 5) (mi 6) (mi 7) (mi 10) (mi 17) (mi 23) (mi 24) (mi 26) (mi 27) (mi 28) (mi 29) (mi 30) (mi 31) (mi 32) (mi 33) (mi 37) (mi 41) (mi 42) (mi 43) (mi 44) (mi 45) (mi 47) (mi 48) (mi 49) (mi 50) (mi 51) (mi 54) (mi 56) fm_trust fm_letter f_15 (upd fm_reportKind ((mi 10) : Int32).toNatClampNeg p2) fm_struck fm_reportMonth fm_reportDay fm_reportKnown fm_deedMonth fm_deedDay fm_deedLong fm_deedKind fm_kept fm_tape fm_must fm_least fm_pin fm_ways fm_verdict fm_row fm_official fm_aside fm_worth fm_out) := hD
  generalize ef_16 : upd fm_reportKind ((mi 10) : Int32).toNatClampNeg p2 = f_16 at hP hD
  refine lv_aload_n hx hb dX12_lays_20 rfl (lv_at hl 0 rfl) ?_
  refine va_get (D := (dC, dI)) (ci := 12) (v := .ref (mr 5)) (C := RX12) (T := TX12) (N := 57) hx hb hts (fun w h => List.mem_cons_of_mem _ (jnGB_X12 w h)) hown hK hP 0 rfl rfl 14 (by decide) (hts _ (List.mem_cons_of_mem _ mGB_16)) (fun _ h9 => h9) rfl dX12_lays_21 ?_
  refine lv_aload_n hx hb dX12_lays_24 rfl (lv_at hl 0 rfl) ?_
  refine va_get (D := (dC, dI)) (ci := 12) (v := .int (mi 10)) (C := RX12) (T := TX12) (N := 57) hx hb hts (fun w h => List.mem_cons_of_mem _ (jnGB_X12 w h)) hown hK hP 0 rfl rfl 10 (by decide) (hts _ (List.mem_cons_of_mem _ mGB_111)) (fun _ h9 => h9) rfl dX12_lays_25 ?_
  refine lv_iload_n hx hb dX12_lays_28 rfl (lv_at hl 3 rfl) ?_
  refine va_iast hx hb hK hP hD hS 6 5 rfl rfl (gi_in gmi_10 (by decide)) dX12_lays_29 (fun H locs hP hD hS => ?_)
  have hP : va_P (dC, dI) vwCl (MWn h0 mr km (mi 0) (mi 1) (mi 2) (mi 3) (mi 4) (mi 5) (mi 6) (mi 7) (mi 10) (mi 17) (mi 23) (mi 24) (mi 26) (mi 27) (mi 28) (mi 29) (mi 30) (mi 31) (mi 32) (mi 33) (mi 37) (mi 41) (mi 42) (mi 43) (mi 44) (mi 45) (mi 47) (mi 48) (mi 49) (mi 50) (mi 51) (mi 54) (mi 56) fm_trust fm_letter f_15 f_16 fm_struck (upd fm_reportMonth ((mi 10) : Int32).toNatClampNeg p3) fm_reportDay fm_reportKnown fm_deedMonth fm_deedDay fm_deedLong fm_deedKind fm_kept fm_tape fm_must fm_least fm_pin fm_ways fm_verdict fm_row fm_official fm_aside fm_worth fm_out) H := hP
  have hD : va_D A (MWn h0 mr km (mi 0) (mi 1) (mi 2) (mi 3) (mi 4) (mi 5) (mi 6) (mi 7) (mi 10) (mi 17) (mi 23) (mi 24) (mi 26) (mi 27) (mi 28) (mi 29) (mi 30) (mi 31) (mi 32) (mi 33) (mi 37) (mi 41) (mi 42) (mi 43) (mi 44) (mi 45) (mi 47) (mi 48) (mi 49) (mi 50) (mi 51) (mi 54) (mi 56) fm_trust fm_letter f_15 f_16 fm_struck (upd fm_reportMonth ((mi 10) : Int32).toNatClampNeg p3) fm_reportDay fm_reportKnown fm_deedMonth fm_deedDay fm_deedLong fm_deedKind fm_kept fm_tape fm_must fm_least fm_pin fm_ways fm_verdict fm_row fm_official fm_aside fm_worth fm_out) := hD
  have gf_17 : ga (upd fm_reportMonth ((mi 10) : Int32).toNatClampNeg p3) 24 0 23 := ga_upd gfm_reportMonth gp3
  generalize ef_17 : upd fm_reportMonth ((mi 10) : Int32).toNatClampNeg p3 = f_17 at hP hD gf_17
  refine lv_aload_n hx hb dX12_lays_30 rfl (lv_at hl 0 rfl) ?_
  refine va_get (D := (dC, dI)) (ci := 12) (v := .ref (mr 6)) (C := RX12) (T := TX12) (N := 57) hx hb hts (fun w h => List.mem_cons_of_mem _ (jnGB_X12 w h)) hown hK hP 0 rfl rfl 15 (by decide) (hts _ (List.mem_cons_of_mem _ mGB_17)) (fun _ h9 => h9) rfl dX12_lays_31 ?_
  refine lv_aload_n hx hb dX12_lays_34 rfl (lv_at hl 0 rfl) ?_
  refine va_get (D := (dC, dI)) (ci := 12) (v := .int (mi 10)) (C := RX12) (T := TX12) (N := 57) hx hb hts (fun w h => List.mem_cons_of_mem _ (jnGB_X12 w h)) hown hK hP 0 rfl rfl 10 (by decide) (hts _ (List.mem_cons_of_mem _ mGB_111)) (fun _ h9 => h9) rfl dX12_lays_35 ?_
  refine lv_iload hx hb dX12_lays_38 (lv_at hl 4 rfl) ?_
  refine va_iast hx hb hK hP hD hS 7 6 rfl rfl (gi_in gmi_10 (by decide)) dX12_lays_40 (fun H locs hP hD hS => ?_)
  have hP : va_P (dC, dI) vwCl (MWn h0 mr km (mi 0) (mi 1) (mi 2) (mi 3) (mi 4) (mi 5) (mi 6) (mi 7) (mi 10) (mi 17) (mi 23) (mi 24) (mi 26) (mi 27) (mi 28) (mi 29) (mi 30) (mi 31) (mi 32) (mi 33) (mi 37) (mi 41) (mi 42) (mi 43) (mi 44) (mi 45) (mi 47) (mi 48) (mi 49) (mi 50) (mi 51) (mi 54) (mi 56) fm_trust fm_letter f_15 f_16 fm_struck f_17 (upd fm_reportDay ((mi 10) : Int32).toNatClampNeg p4) fm_reportKnown fm_deedMonth fm_deedDay fm_deedLong fm_deedKind fm_kept fm_tape fm_must fm_least fm_pin fm_ways fm_verdict fm_row fm_official fm_aside fm_worth fm_out) H := hP
  have hD : va_D A (MWn h0 mr km (mi 0) (mi 1) (mi 2) (mi 3) (mi 4) (mi 5) (mi 6) (mi 7) (mi 10) (mi 17) (mi 23) (mi 24) (mi 26) (mi 27) (mi 28) (mi 29) (mi 30) (mi 31) (mi 32) (mi 33) (mi 37) (mi 41) (mi 42) (mi 43) (mi 44) (mi 45) (mi 47) (mi 48) (mi 49) (mi 50) (mi 51) (mi 54) (mi 56) fm_trust fm_letter f_15 f_16 fm_struck f_17 (upd fm_reportDay ((mi 10) : Int32).toNatClampNeg p4) fm_reportKnown fm_deedMonth fm_deedDay fm_deedLong fm_deedKind fm_kept fm_tape fm_must fm_least fm_pin fm_ways fm_verdict fm_row fm_official fm_aside fm_worth fm_out) := hD
  have gf_18 : ga (upd fm_reportDay ((mi 10) : Int32).toNatClampNeg p4) 24 0 999 := ga_upd gfm_reportDay gp4
  generalize ef_18 : upd fm_reportDay ((mi 10) : Int32).toNatClampNeg p4 = f_18 at hP hD gf_18
  refine lv_aload_n hx hb dX12_lays_41 rfl (lv_at hl 0 rfl) ?_
  refine va_get (D := (dC, dI)) (ci := 12) (v := .ref (mr 7)) (C := RX12) (T := TX12) (N := 57) hx hb hts (fun w h => List.mem_cons_of_mem _ (jnGB_X12 w h)) hown hK hP 0 rfl rfl 16 (by decide) (hts _ (List.mem_cons_of_mem _ mGB_18)) (fun _ h9 => h9) rfl dX12_lays_42 ?_
  refine lv_aload_n hx hb dX12_lays_45 rfl (lv_at hl 0 rfl) ?_
  refine va_get (D := (dC, dI)) (ci := 12) (v := .int (mi 10)) (C := RX12) (T := TX12) (N := 57) hx hb hts (fun w h => List.mem_cons_of_mem _ (jnGB_X12 w h)) hown hK hP 0 rfl rfl 10 (by decide) (hts _ (List.mem_cons_of_mem _ mGB_111)) (fun _ h9 => h9) rfl dX12_lays_46 ?_
  refine lv_iload hx hb dX12_lays_49 (lv_at hl 5 rfl) ?_
  refine va_iast hx hb hK hP hD hS 8 7 rfl rfl (gi_in gmi_10 (by decide)) dX12_lays_51 (fun H locs hP hD hS => ?_)
  have hP : va_P (dC, dI) vwCl (MWn h0 mr km (mi 0) (mi 1) (mi 2) (mi 3) (mi 4) (mi 5) (mi 6) (mi 7) (mi 10) (mi 17) (mi 23) (mi 24) (mi 26) (mi 27) (mi 28) (mi 29) (mi 30) (mi 31) (mi 32) (mi 33) (mi 37) (mi 41) (mi 42) (mi 43) (mi 44) (mi 45) (mi 47) (mi 48) (mi 49) (mi 50) (mi 51) (mi 54) (mi 56) fm_trust fm_letter f_15 f_16 fm_struck f_17 f_18 (upd fm_reportKnown ((mi 10) : Int32).toNatClampNeg p5) fm_deedMonth fm_deedDay fm_deedLong fm_deedKind fm_kept fm_tape fm_must fm_least fm_pin fm_ways fm_verdict fm_row fm_official fm_aside fm_worth fm_out) H := hP
  have hD : va_D A (MWn h0 mr km (mi 0) (mi 1) (mi 2) (mi 3) (mi 4) (mi 5) (mi 6) (mi 7) (mi 10) (mi 17) (mi 23) (mi 24) (mi 26) (mi 27) (mi 28) (mi 29) (mi 30) (mi 31) (mi 32) (mi 33) (mi 37) (mi 41) (mi 42) (mi 43) (mi 44) (mi 45) (mi 47) (mi 48) (mi 49) (mi 50) (mi 51) (mi 54) (mi 56) fm_trust fm_letter f_15 f_16 fm_struck f_17 f_18 (upd fm_reportKnown ((mi 10) : Int32).toNatClampNeg p5) fm_deedMonth fm_deedDay fm_deedLong fm_deedKind fm_kept fm_tape fm_must fm_least fm_pin fm_ways fm_verdict fm_row fm_official fm_aside fm_worth fm_out) := hD
  have gf_19 : ga (upd fm_reportKnown ((mi 10) : Int32).toNatClampNeg p5) 24 0 999 := ga_upd gfm_reportKnown gp5
  generalize ef_19 : upd fm_reportKnown ((mi 10) : Int32).toNatClampNeg p5 = f_19 at hP hD gf_19
  refine lv_aload_n hx hb dX12_lays_52 rfl (lv_at hl 0 rfl) ?_
  refine va_get (D := (dC, dI)) (ci := 12) (v := .ref (mr 4)) (C := RX12) (T := TX12) (N := 57) hx hb hts (fun w h => List.mem_cons_of_mem _ (jnGB_X12 w h)) hown hK hP 0 rfl rfl 13 (by decide) (hts _ (List.mem_cons_of_mem _ mGB_15)) (fun _ h9 => h9) rfl dX12_lays_53 ?_
  refine lv_aload_n hx hb dX12_lays_56 rfl (lv_at hl 0 rfl) ?_
  refine va_get (D := (dC, dI)) (ci := 12) (v := .int (mi 10)) (C := RX12) (T := TX12) (N := 57) hx hb hts (fun w h => List.mem_cons_of_mem _ (jnGB_X12 w h)) hown hK hP 0 rfl rfl 10 (by decide) (hts _ (List.mem_cons_of_mem _ mGB_111)) (fun _ h9 => h9) rfl dX12_lays_57 ?_
  refine lv_iconst (v := 0) hx hb dX12_lays_60 (by decide) ?_
  refine va_zast hx hb hK hP hD hS 5 4 rfl rfl (gi_in gmi_10 (by decide)) dX12_lays_61 (fun H locs hP hD hS => ?_)
  have hP : va_P (dC, dI) vwCl (MWn h0 mr km (mi 0) (mi 1) (mi 2) (mi 3) (mi 4) (mi 5) (mi 6) (mi 7) (mi 10) (mi 17) (mi 23) (mi 24) (mi 26) (mi 27) (mi 28) (mi 29) (mi 30) (mi 31) (mi 32) (mi 33) (mi 37) (mi 41) (mi 42) (mi 43) (mi 44) (mi 45) (mi 47) (mi 48) (mi 49) (mi 50) (mi 51) (mi 54) (mi 56) fm_trust fm_letter f_15 f_16 (upd fm_struck ((mi 10) : Int32).toNatClampNeg (vp_nar .boolean 0)) f_17 f_18 f_19 fm_deedMonth fm_deedDay fm_deedLong fm_deedKind fm_kept fm_tape fm_must fm_least fm_pin fm_ways fm_verdict fm_row fm_official fm_aside fm_worth fm_out) H := hP
  have hD : va_D A (MWn h0 mr km (mi 0) (mi 1) (mi 2) (mi 3) (mi 4) (mi 5) (mi 6) (mi 7) (mi 10) (mi 17) (mi 23) (mi 24) (mi 26) (mi 27) (mi 28) (mi 29) (mi 30) (mi 31) (mi 32) (mi 33) (mi 37) (mi 41) (mi 42) (mi 43) (mi 44) (mi 45) (mi 47) (mi 48) (mi 49) (mi 50) (mi 51) (mi 54) (mi 56) fm_trust fm_letter f_15 f_16 (upd fm_struck ((mi 10) : Int32).toNatClampNeg (vp_nar .boolean 0)) f_17 f_18 f_19 fm_deedMonth fm_deedDay fm_deedLong fm_deedKind fm_kept fm_tape fm_must fm_least fm_pin fm_ways fm_verdict fm_row fm_official fm_aside fm_worth fm_out) := hD
  have gf_20 : ga (upd fm_struck ((mi 10) : Int32).toNatClampNeg (vp_nar .boolean 0)) 24 0 1 := ga_updz gfm_struck (gi_w (gi_c 0 0 (by decide)) (by decide))
  generalize ef_20 : upd fm_struck ((mi 10) : Int32).toNatClampNeg (vp_nar .boolean 0) = f_20 at hP hD gf_20
  refine lv_aload_n hx hb dX12_lays_62 rfl (lv_at hl 0 rfl) ?_
  refine lv_dup hx hb dX12_lays_63 rfl ?_
  refine va_get (D := (dC, dI)) (ci := 12) (v := .int (mi 10)) (C := RX12) (T := TX12) (N := 57) hx hb hts (fun w h => List.mem_cons_of_mem _ (jnGB_X12 w h)) hown hK hP 0 rfl rfl 10 (by decide) (hts _ (List.mem_cons_of_mem _ mGB_111)) (fun _ h9 => h9) rfl dX12_lays_64 ?_
  refine lv_iconst (v := 1) hx hb dX12_lays_67 (by decide) ?_
  refine lv_iadd hx hb dX12_lays_68 ?_
  refine lv_topi (fun x_21 ex_21 => ?_)
  have gx_21 : gi x_21 1 24 := gi_add ex_21 gmi_10 (gi_c 1 1 (by decide)) (by decide)
  refine va_put (D := (dC, dI)) (ci := 12) (v := .int x_21) (ty := .int) (C := RX12) (T := TX12) (N := 57) hx hb hts (fun w h => List.mem_cons_of_mem _ (jnGB_X12 w h)) tyX12 tyX12_ok nmX12 hown hK hP hD hS 0 rfl rfl 10 (by decide) (hts _ (List.mem_cons_of_mem _ mGB_111)) (fun _ h9 => h9) rfl (by decide +kernel) rfl rfl (Nat.le_of_ble_eq_true rfl) dX12_lays_69 (fun H locs hP hD hS => ?_)
  have hP : va_P (dC, dI) vwCl (MWn h0 mr km (mi 0) (mi 1) (mi 2) (mi 3) (mi 4) (mi 5) (mi 6) (mi 7) x_21 (mi 17) (mi 23) (mi 24) (mi 26) (mi 27) (mi 28) (mi 29) (mi 30) (mi 31) (mi 32) (mi 33) (mi 37) (mi 41) (mi 42) (mi 43) (mi 44) (mi 45) (mi 47) (mi 48) (mi 49) (mi 50) (mi 51) (mi 54) (mi 56) fm_trust fm_letter f_15 f_16 f_20 f_17 f_18 f_19 fm_deedMonth fm_deedDay fm_deedLong fm_deedKind fm_kept fm_tape fm_must fm_least fm_pin fm_ways fm_verdict fm_row fm_official fm_aside fm_worth fm_out) H := hP
  have hD : va_D A (MWn h0 mr km (mi 0) (mi 1) (mi 2) (mi 3) (mi 4) (mi 5) (mi 6) (mi 7) x_21 (mi 17) (mi 23) (mi 24) (mi 26) (mi 27) (mi 28) (mi 29) (mi 30) (mi 31) (mi 32) (mi 33) (mi 37) (mi 41) (mi 42) (mi 43) (mi 44) (mi 45) (mi 47) (mi 48) (mi 49) (mi 50) (mi 51) (mi 54) (mi 56) fm_trust fm_letter f_15 f_16 f_20 f_17 f_18 f_19 fm_deedMonth fm_deedDay fm_deedLong fm_deedKind fm_kept fm_tape fm_must fm_least fm_pin fm_ways fm_verdict fm_row fm_official fm_aside fm_worth fm_out) := hD
  exact W.vret hx hb hr (fun t ht hW => ⟨⟨(), rfl, trivial, x_21, f_15, f_16, f_17, f_18, f_19, f_20, (gi_w gx_21 (by decide)), gf_15, gf_17, gf_18, gf_19, gf_20, by rw [ex_21, ← ef_20, ← ef_19, ← ef_18, ← ef_17, ← ef_16, ← ef_15]; exact hF.trans hR9.symm, by rw [ht]; exact hP, hD⟩, hS.F ht⟩) hS.2.2 dX12_lays_72
theorem dX12_reports_0 : decode cX12_reports 0 = .ok (.aload_n 0, 1) := by decide +kernel
theorem dX12_reports_1 : decode cX12_reports 1 = .ok (.getfield 126, 3) := by decide +kernel
theorem dX12_reports_4 : decode cX12_reports 4 = .ok (.ifCond .eq 67, 3) := by decide +kernel
theorem dX12_reports_7 : decode cX12_reports 7 = .ok (.aload_n 0, 1) := by decide +kernel
theorem dX12_reports_8 : decode cX12_reports 8 = .ok (.iload_n 1, 1) := by decide +kernel
theorem dX12_reports_9 : decode cX12_reports 9 = .ok (.invokevirtual 294, 3) := by decide +kernel
theorem dX12_reports_12 : decode cX12_reports 12 = .ok (.ifCond .eq 59, 3) := by decide +kernel
theorem dX12_reports_15 : decode cX12_reports 15 = .ok (.iload_n 2, 1) := by decide +kernel
theorem dX12_reports_16 : decode cX12_reports 16 = .ok (.i2l, 1) := by decide +kernel
theorem dX12_reports_17 : decode cX12_reports 17 = .ok (.lconst 0, 1) := by decide +kernel
theorem dX12_reports_18 : decode cX12_reports 18 = .ok (.ldc2_w 298, 3) := by decide +kernel
theorem dX12_reports_21 : decode cX12_reports 21 = .ok (.invokestatic 102, 3) := by decide +kernel
theorem dX12_reports_24 : decode cX12_reports 24 = .ok (.ifCond .eq 47, 3) := by decide +kernel
theorem dX12_reports_27 : decode cX12_reports 27 = .ok (.iload_n 3, 1) := by decide +kernel
theorem dX12_reports_28 : decode cX12_reports 28 = .ok (.i2l, 1) := by decide +kernel
theorem dX12_reports_29 : decode cX12_reports 29 = .ok (.lconst 1, 1) := by decide +kernel
theorem dX12_reports_30 : decode cX12_reports 30 = .ok (.aload_n 0, 1) := by decide +kernel
theorem dX12_reports_31 : decode cX12_reports 31 = .ok (.getfield 117, 3) := by decide +kernel
theorem dX12_reports_34 : decode cX12_reports 34 = .ok (.iconst 1, 1) := by decide +kernel
theorem dX12_reports_35 : decode cX12_reports 35 = .ok (.isub, 1) := by decide +kernel
theorem dX12_reports_36 : decode cX12_reports 36 = .ok (.i2l, 1) := by decide +kernel
theorem dX12_reports_37 : decode cX12_reports 37 = .ok (.invokestatic 102, 3) := by decide +kernel
theorem dX12_reports_40 : decode cX12_reports 40 = .ok (.ifCond .eq 31, 3) := by decide +kernel
theorem dX12_reports_43 : decode cX12_reports 43 = .ok (.iload 4, 2) := by decide +kernel
theorem dX12_reports_45 : decode cX12_reports 45 = .ok (.i2l, 1) := by decide +kernel
theorem dX12_reports_46 : decode cX12_reports 46 = .ok (.lconst 0, 1) := by decide +kernel
theorem dX12_reports_47 : decode cX12_reports 47 = .ok (.ldc2_w 292, 3) := by decide +kernel
theorem dX12_reports_50 : decode cX12_reports 50 = .ok (.invokestatic 102, 3) := by decide +kernel
theorem dX12_reports_53 : decode cX12_reports 53 = .ok (.ifCond .eq 18, 3) := by decide +kernel
theorem dX12_reports_56 : decode cX12_reports 56 = .ok (.iload 5, 2) := by decide +kernel
theorem dX12_reports_58 : decode cX12_reports 58 = .ok (.i2l, 1) := by decide +kernel
theorem dX12_reports_59 : decode cX12_reports 59 = .ok (.iload 4, 2) := by decide +kernel
theorem dX12_reports_61 : decode cX12_reports 61 = .ok (.i2l, 1) := by decide +kernel
theorem dX12_reports_62 : decode cX12_reports 62 = .ok (.ldc2_w 292, 3) := by decide +kernel
theorem dX12_reports_65 : decode cX12_reports 65 = .ok (.invokestatic 102, 3) := by decide +kernel
theorem dX12_reports_68 : decode cX12_reports 68 = .ok (.ifCond .ne 6, 3) := by decide +kernel
theorem dX12_reports_71 : decode cX12_reports 71 = .ok (.bipush (-2), 2) := by decide +kernel
theorem dX12_reports_73 : decode cX12_reports 73 = .ok (.ireturn, 1) := by decide +kernel
theorem dX12_reports_74 : decode cX12_reports 74 = .ok (.aload_n 0, 1) := by decide +kernel
theorem dX12_reports_75 : decode cX12_reports 75 = .ok (.getfield 141, 3) := by decide +kernel
theorem dX12_reports_78 : decode cX12_reports 78 = .ok (.bipush 24, 2) := by decide +kernel
theorem dX12_reports_80 : decode cX12_reports 80 = .ok (.if_icmp .ne 6, 3) := by decide +kernel
theorem dX12_reports_83 : decode cX12_reports 83 = .ok (.bipush (-5), 2) := by decide +kernel
theorem dX12_reports_85 : decode cX12_reports 85 = .ok (.ireturn, 1) := by decide +kernel
theorem dX12_reports_86 : decode cX12_reports 86 = .ok (.aload_n 0, 1) := by decide +kernel
theorem dX12_reports_87 : decode cX12_reports 87 = .ok (.iload_n 1, 1) := by decide +kernel
theorem dX12_reports_88 : decode cX12_reports 88 = .ok (.iload_n 2, 1) := by decide +kernel
theorem dX12_reports_89 : decode cX12_reports 89 = .ok (.iload_n 3, 1) := by decide +kernel
theorem dX12_reports_90 : decode cX12_reports 90 = .ok (.iload 4, 2) := by decide +kernel
theorem dX12_reports_92 : decode cX12_reports 92 = .ok (.iload 5, 2) := by decide +kernel
theorem dX12_reports_94 : decode cX12_reports 94 = .ok (.invokevirtual 236, 3) := by decide +kernel
theorem dX12_reports_97 : decode cX12_reports 97 = .ok (.aload_n 0, 1) := by decide +kernel
theorem dX12_reports_98 : decode cX12_reports 98 = .ok (.getfield 141, 3) := by decide +kernel
theorem dX12_reports_101 : decode cX12_reports 101 = .ok (.iconst 1, 1) := by decide +kernel
theorem dX12_reports_102 : decode cX12_reports 102 = .ok (.isub, 1) := by decide +kernel
theorem dX12_reports_103 : decode cX12_reports 103 = .ok (.ireturn, 1) := by decide +kernel
noncomputable def bfX12_reports_71 (mi : Nat → Int32) (fm_reportPlace : Nat → Int32) (fm_reportKind : Nat → Int32) (fm_reportMonth : Nat → Int32) (fm_reportDay : Nat → Int32) (fm_reportKnown : Nat → Int32) (fm_struck : Nat → Int32) (p1 : Int32) (p2 : Int32) (p3 : Int32) (p4 : Int32) (p5 : Int32) (w0_10 : Int32) (z1 : Nat → Int32) (z2 : Nat → Int32) (z3 : Nat → Int32) (z4 : Nat → Int32) (z5 : Nat → Int32) (z6 : Nat → Int32) : Int32 × Int32 × (Nat → Int32) × (Nat → Int32) × (Nat → Int32) × (Nat → Int32) × (Nat → Int32) × (Nat → Int32) := ((-2 : Int32), w0_10, z1, z2, z3, z4, z5, z6)
noncomputable def fX12_reports (mi : Nat → Int32) (fm_reportPlace : Nat → Int32) (fm_reportKind : Nat → Int32) (fm_reportMonth : Nat → Int32) (fm_reportDay : Nat → Int32) (fm_reportKnown : Nat → Int32) (fm_struck : Nat → Int32) (p1 : Int32) (p2 : Int32) (p3 : Int32) (p4 : Int32) (p5 : Int32) : Int32 × Int32 × (Nat → Int32) × (Nat → Int32) × (Nat → Int32) × (Nat → Int32) × (Nat → Int32) × (Nat → Int32) := if (mi 3) = (0 : Int32) then (bfX12_reports_71 mi fm_reportPlace fm_reportKind fm_reportMonth fm_reportDay fm_reportKnown fm_struck p1 p2 p3 p4 p5 (mi 10) fm_reportPlace fm_reportKind fm_reportMonth fm_reportDay fm_reportKnown fm_struck) else (cal (fun o1 => if o1 = (0 : Int32) then (bfX12_reports_71 mi fm_reportPlace fm_reportKind fm_reportMonth fm_reportDay fm_reportKnown fm_struck p1 p2 p3 p4 p5 (mi 10) fm_reportPlace fm_reportKind fm_reportMonth fm_reportDay fm_reportKnown fm_struck) else (cal (fun o2 => if o2 = (0 : Int32) then (bfX12_reports_71 mi fm_reportPlace fm_reportKind fm_reportMonth fm_reportDay fm_reportKnown fm_struck p1 p2 p3 p4 p5 (mi 10) fm_reportPlace fm_reportKind fm_reportMonth fm_reportDay fm_reportKnown fm_struck) else (cal (fun o3 => if o3 = (0 : Int32) then (bfX12_reports_71 mi fm_reportPlace fm_reportKind fm_reportMonth fm_reportDay fm_reportKnown fm_struck p1 p2 p3 p4 p5 (mi 10) fm_reportPlace fm_reportKind fm_reportMonth fm_reportDay fm_reportKnown fm_struck) else (cal (fun o4 => if o4 = (0 : Int32) then (bfX12_reports_71 mi fm_reportPlace fm_reportKind fm_reportMonth fm_reportDay fm_reportKnown fm_struck p1 p2 p3 p4 p5 (mi 10) fm_reportPlace fm_reportKind fm_reportMonth fm_reportDay fm_reportKnown fm_struck) else (cal (fun o5 => if o5 = (0 : Int32) then (bfX12_reports_71 mi fm_reportPlace fm_reportKind fm_reportMonth fm_reportDay fm_reportKnown fm_struck p1 p2 p3 p4 p5 (mi 10) fm_reportPlace fm_reportKind fm_reportMonth fm_reportDay fm_reportKnown fm_struck) else (if (mi 10) = (24 : Int32) then ((-5 : Int32), (mi 10), fm_reportPlace, fm_reportKind, fm_reportMonth, fm_reportDay, fm_reportKnown, fm_struck) else (cal (fun o6 => ((o6.1 - (1 : Int32)), o6.1, o6.2.1, o6.2.2.1, o6.2.2.2.1, o6.2.2.2.2.1, o6.2.2.2.2.2.1, o6.2.2.2.2.2.2)) (fX12_lays mi fm_reportPlace fm_reportKind fm_reportMonth fm_reportDay fm_reportKnown fm_struck p1 p2 p3 p4 p5)))) (fX12_in (p5.toInt64) (p4.toInt64) (999 : Int64)))) (fX12_in (p4.toInt64) (0 : Int64) (999 : Int64)))) (fX12_in (p3.toInt64) (1 : Int64) (((mi 0) - (1 : Int32)).toInt64)))) (fX12_in (p2.toInt64) (0 : Int64) (2 : Int64)))) (fX12_isPlace mi p1))
abbrev pb_sX12_reports (dC : Nat → ClassId) (dI : Nat → Nat → Nat) (A9 : Nat → Prop) (h0 : Nat) (mi : Nat → Int32) (mr : Nat → Nat) (km : Nat → ClassId) (fm_reportPlace : Nat → Int32) (fm_reportKind : Nat → Int32) (fm_reportMonth : Nat → Int32) (fm_reportDay : Nat → Int32) (fm_reportKnown : Nat → Int32) (fm_struck : Nat → Int32) (fm_trust : Nat → Int32) (fm_letter : Nat → Int32) (fm_deedMonth : Nat → Int32) (fm_deedDay : Nat → Int32) (fm_deedLong : Nat → Int32) (fm_deedKind : Nat → Int32) (fm_kept : Nat → Int32) (fm_tape : Nat → Int32) (fm_must : Nat → Int32) (fm_least : Nat → Int32) (fm_pin : Nat → Int32) (fm_ways : Nat → Int32) (fm_verdict : Nat → Int32) (fm_row : Nat → Int32) (fm_official : Nat → Int32) (fm_aside : Nat → Int32) (fm_worth : Nat → Int32) (fm_out : Nat → Int32) (p1 : Int32) (p2 : Int32) (p3 : Int32) (p4 : Int32) (p5 : Int32) (r : Int32) (w0_10 : Int32) (z1 : Nat → Int32) (z2 : Nat → Int32) (z3 : Nat → Int32) (z4 : Nat → Int32) (z5 : Nat → Int32) (z6 : Nat → Int32) (t : State) : Prop := gi w0_10 0 24 ∧ ga z1 24 0 5 ∧ ga z3 24 0 23 ∧ ga z4 24 0 999 ∧ ga z5 24 0 999 ∧ ga z6 24 0 1 ∧ (r, w0_10, z1, z2, z3, z4, z5, z6) = fX12_reports mi fm_reportPlace fm_reportKind fm_reportMonth fm_reportDay fm_reportKnown fm_struck p1 p2 p3 p4 p5 ∧ va_P (dC, dI) vwCl (MWn h0 mr km (mi 0) (mi 1) (mi 2) (mi 3) (mi 4) (mi 5) (mi 6) (mi 7) w0_10 (mi 17) (mi 23) (mi 24) (mi 26) (mi 27) (mi 28) (mi 29) (mi 30) (mi 31) (mi 32) (mi 33) (mi 37) (mi 41) (mi 42) (mi 43) (mi 44) (mi 45) (mi 47) (mi 48) (mi 49) (mi 50) (mi 51) (mi 54) (mi 56) fm_trust fm_letter z1 z2 z6 z3 z4 z5 fm_deedMonth fm_deedDay fm_deedLong fm_deedKind fm_kept fm_tape fm_must fm_least fm_pin fm_ways fm_verdict fm_row fm_official fm_aside fm_worth fm_out) t.heap ∧ va_D A9 (MWn h0 mr km (mi 0) (mi 1) (mi 2) (mi 3) (mi 4) (mi 5) (mi 6) (mi 7) w0_10 (mi 17) (mi 23) (mi 24) (mi 26) (mi 27) (mi 28) (mi 29) (mi 30) (mi 31) (mi 32) (mi 33) (mi 37) (mi 41) (mi 42) (mi 43) (mi 44) (mi 45) (mi 47) (mi 48) (mi 49) (mi 50) (mi 51) (mi 54) (mi 56) fm_trust fm_letter z1 z2 z6 z3 z4 z5 fm_deedMonth fm_deedDay fm_deedLong fm_deedKind fm_kept fm_tape fm_must fm_least fm_pin fm_ways fm_verdict fm_row fm_official fm_aside fm_worth fm_out)
set_option maxHeartbeats 4000000 in
set_option maxRecDepth 100000 in
theorem sX12_reports (l : Launch) (dC : Nat → ClassId) (dI : Nat → Nat → Nat) (sz : Nat) (h0 : Nat) (mi : Nat → Int32) (mr : Nat → Nat) (km : Nat → ClassId) (fm_reportPlace : Nat → Int32) (fm_reportKind : Nat → Int32) (fm_reportMonth : Nat → Int32) (fm_reportDay : Nat → Int32) (fm_reportKnown : Nat → Int32) (fm_struck : Nat → Int32) (fm_trust : Nat → Int32) (fm_letter : Nat → Int32) (fm_deedMonth : Nat → Int32) (fm_deedDay : Nat → Int32) (fm_deedLong : Nat → Int32) (fm_deedKind : Nat → Int32) (fm_kept : Nat → Int32) (fm_tape : Nat → Int32) (fm_must : Nat → Int32) (fm_least : Nat → Int32) (fm_pin : Nat → Int32) (fm_ways : Nat → Int32) (fm_verdict : Nat → Int32) (fm_row : Nat → Int32) (fm_official : Nat → Int32) (fm_aside : Nat → Int32) (fm_worth : Nat → Int32) (fm_out : Nat → Int32) (p1 : Int32) (p2 : Int32) (p3 : Int32) (p4 : Int32) (p5 : Int32) (gmi_0 : gi (mi 0) 0 24) (gmi_1 : gi (mi 1) 0 5) (gmi_2 : gi (mi 2) 0 5) (gmi_4 : gi (mi 4) 0 1) (gmi_7 : gi (mi 7) 0 6) (gmi_10 : gi (mi 10) 0 24) (gmi_17 : gi (mi 17) 0 8) (gmi_23 : gi (mi 23) 0 300) (gmi_24 : gi (mi 24) 0 1) (gmi_26 : gi (mi 26) 0 1600) (gmi_29 : gi (mi 29) 0 1600) (gmi_30 : gi (mi 30) 0 1600) (gmi_33 : gi (mi 33) 0 1) (gmi_37 : gi (mi 37) 0 1) (gmi_41 : gi (mi 41) 0 24) (gmi_50 : gi (mi 50) 0 1) (gmi_51 : gi (mi 51) 0 1) (gmi_56 : gi (mi 56) 0 80) (gfm_reportPlace : ga fm_reportPlace 24 0 5) (gfm_reportMonth : ga fm_reportMonth 24 0 23) (gfm_reportDay : ga fm_reportDay 24 0 999) (gfm_reportKnown : ga fm_reportKnown 24 0 999) (gfm_struck : ga fm_struck 24 0 1) : Met l yX12_reports (.code yX12_reports cX12_reports 6 (some .int) :: wsGB) ({ frames := 2, cells := 0, slots := 0, locals := 46 }) (va_Pc [.ref h0, .int p1, .int p2, .int p3, .int p4, .int p5] (fun U => U.heap.size = sz ∧ va_P (dC, dI) vwCl (MWn h0 mr km (mi 0) (mi 1) (mi 2) (mi 3) (mi 4) (mi 5) (mi 6) (mi 7) (mi 10) (mi 17) (mi 23) (mi 24) (mi 26) (mi 27) (mi 28) (mi 29) (mi 30) (mi 31) (mi 32) (mi 33) (mi 37) (mi 41) (mi 42) (mi 43) (mi 44) (mi 45) (mi 47) (mi 48) (mi 49) (mi 50) (mi 51) (mi 54) (mi 56) fm_trust fm_letter fm_reportPlace fm_reportKind fm_struck fm_reportMonth fm_reportDay fm_reportKnown fm_deedMonth fm_deedDay fm_deedLong fm_deedKind fm_kept fm_tape fm_must fm_least fm_pin fm_ways fm_verdict fm_row fm_official fm_aside fm_worth fm_out) U.heap ∧ va_K (dC, dI) vwCl (MT km) U ∧ va_D (fun _ => True) (MWn h0 mr km (mi 0) (mi 1) (mi 2) (mi 3) (mi 4) (mi 5) (mi 6) (mi 7) (mi 10) (mi 17) (mi 23) (mi 24) (mi 26) (mi 27) (mi 28) (mi 29) (mi 30) (mi 31) (mi 32) (mi 33) (mi 37) (mi 41) (mi 42) (mi 43) (mi 44) (mi 45) (mi 47) (mi 48) (mi 49) (mi 50) (mi 51) (mi 54) (mi 56) fm_trust fm_letter fm_reportPlace fm_reportKind fm_struck fm_reportMonth fm_reportDay fm_reportKnown fm_deedMonth fm_deedDay fm_deedLong fm_deedKind fm_kept fm_tape fm_must fm_least fm_pin fm_ways fm_verdict fm_row fm_official fm_aside fm_worth fm_out))) (va_Qi (fun (r : Int32) (u : Int32) => r = u ∧ gi r (-5) 23) (fun r t => ∃ (w0_10 : Int32) (z1 : Nat → Int32) (z2 : Nat → Int32) (z3 : Nat → Int32) (z4 : Nat → Int32) (z5 : Nat → Int32) (z6 : Nat → Int32), pb_sX12_reports dC dI (va_A (MWn h0 mr km (mi 0) (mi 1) (mi 2) (mi 3) (mi 4) (mi 5) (mi 6) (mi 7) (mi 10) (mi 17) (mi 23) (mi 24) (mi 26) (mi 27) (mi 28) (mi 29) (mi 30) (mi 31) (mi 32) (mi 33) (mi 37) (mi 41) (mi 42) (mi 43) (mi 44) (mi 45) (mi 47) (mi 48) (mi 49) (mi 50) (mi 51) (mi 54) (mi 56) fm_trust fm_letter fm_reportPlace fm_reportKind fm_struck fm_reportMonth fm_reportDay fm_reportKnown fm_deedMonth fm_deedDay fm_deedLong fm_deedKind fm_kept fm_tape fm_must fm_least fm_pin fm_ways fm_verdict fm_row fm_official fm_aside fm_worth fm_out) sz) h0 mi mr km fm_reportPlace fm_reportKind fm_reportMonth fm_reportDay fm_reportKnown fm_struck fm_trust fm_letter fm_deedMonth fm_deedDay fm_deedLong fm_deedKind fm_kept fm_tape fm_must fm_least fm_pin fm_ways fm_verdict fm_row fm_official fm_aside fm_worth fm_out p1 p2 p3 p4 p5 r w0_10 z1 z2 z3 z4 z5 z6 t) (va_A (MWn h0 mr km (mi 0) (mi 1) (mi 2) (mi 3) (mi 4) (mi 5) (mi 6) (mi 7) (mi 10) (mi 17) (mi 23) (mi 24) (mi 26) (mi 27) (mi 28) (mi 29) (mi 30) (mi 31) (mi 32) (mi 33) (mi 37) (mi 41) (mi 42) (mi 43) (mi 44) (mi 45) (mi 47) (mi 48) (mi 49) (mi 50) (mi 51) (mi 54) (mi 56) fm_trust fm_letter fm_reportPlace fm_reportKind fm_struck fm_reportMonth fm_reportDay fm_reportKnown fm_deedMonth fm_deedDay fm_deedLong fm_deedKind fm_kept fm_tape fm_must fm_least fm_pin fm_ways fm_verdict fm_row fm_official fm_aside fm_worth fm_out) sz)) 0 0 (va_A (MWn h0 mr km (mi 0) (mi 1) (mi 2) (mi 3) (mi 4) (mi 5) (mi 6) (mi 7) (mi 10) (mi 17) (mi 23) (mi 24) (mi 26) (mi 27) (mi 28) (mi 29) (mi 30) (mi 31) (mi 32) (mi 33) (mi 37) (mi 41) (mi 42) (mi 43) (mi 44) (mi 45) (mi 47) (mi 48) (mi 49) (mi 50) (mi 51) (mi 54) (mi 56) fm_trust fm_letter fm_reportPlace fm_reportKind fm_struck fm_reportMonth fm_reportDay fm_reportKnown fm_deedMonth fm_deedDay fm_deedLong fm_deedKind fm_kept fm_tape fm_must fm_least fm_pin fm_ways fm_verdict fm_row fm_official fm_aside fm_worth fm_out) sz) := by
  refine Met.ofW (cc := cX12_reports) (maxL := 6) (ret := (some .int)) (by decide) rfl ?_
  intro p e s m args below meth c s₁ B hml hv
  obtain ⟨rfl, hsz, hP, hK, hD0⟩ := hv
  have hx := B.exec
  have hb := B.bytes
  have hr := B.returns
  have hts := atoms_spec (ws := (.code yX12_reports cX12_reports 6 (some .int) :: wsGB)) B.pre
  have hown : s.vm.findClass RX12 = some m.cls := findClass_of_methodNamed B.named
  have hlocks := B.notSynchronized
  subst hsz
  have hD := hD0.self (sz := s.heap.size)
  generalize hAe : va_A (MWn h0 mr km (mi 0) (mi 1) (mi 2) (mi 3) (mi 4) (mi 5) (mi 6) (mi 7) (mi 10) (mi 17) (mi 23) (mi 24) (mi 26) (mi 27) (mi 28) (mi 29) (mi 30) (mi 31) (mi 32) (mi 33) (mi 37) (mi 41) (mi 42) (mi 43) (mi 44) (mi 45) (mi 47) (mi 48) (mi 49) (mi 50) (mi 51) (mi 54) (mi 56) fm_trust fm_letter fm_reportPlace fm_reportKind fm_struck fm_reportMonth fm_reportDay fm_reportKnown fm_deedMonth fm_deedDay fm_deedLong fm_deedKind fm_kept fm_tape fm_must fm_least fm_pin fm_ways fm_verdict fm_row fm_official fm_aside fm_worth fm_out) s.heap.size = A at hD ⊢
  have hA : ∀ q : Nat, s.heap.size ≤ q → A q := fun q h => by rw [← hAe]; exact Or.inr h
  have hS : va_S A s.heap s.heap [] := va_S.rf
  have hl := lv_entry ([.ref h0, .int p1, .int p2, .int p3, .int p4, .int p5]) (n := 6) (Nat.le_of_ble_eq_true rfl)
  rw [lg_entry_eq]
  generalize (lg_sl ([.ref h0, .int p1, .int p2, .int p3, .int p4, .int p5]) ++ List.replicate (6 - (lg_sl ([.ref h0, .int p1, .int p2, .int p3, .int p4, .int p5])).length) Slot.unset).toArray = ls at hl ⊢
  have hl : lv_has ls 6 [(0, .ref h0), (1, .int p1), (2, .int p2), (3, .int p3), (4, .int p4), (5, .int p5)] := hl
  obtain ⟨RES, hF⟩ : ∃ R9, fX12_reports mi fm_reportPlace fm_reportKind fm_reportMonth fm_reportDay fm_reportKnown fm_struck p1 p2 p3 p4 p5 = R9 := ⟨_, rfl⟩
  have hR9 := hF
  refine lv_aload_n hx hb dX12_reports_0 rfl (lv_at hl 0 rfl) ?_
  refine va_get (D := (dC, dI)) (ci := 12) (v := .int (mi 3)) (C := RX12) (T := TX12) (N := 57) hx hb hts (fun w h => List.mem_cons_of_mem _ (jnGB_X12 w h)) hown hK hP 0 rfl rfl 3 (by decide) (hts _ (List.mem_cons_of_mem _ mGB_106)) (fun _ h9 => h9) rfl dX12_reports_1 ?_
  refine lv_if_eq (tgt := 71) hx hb dX12_reports_4 (by decide) (fun c_93 => ?_) (fun c_93 => ?_)
  · have hF := gf_pos c_93 hF
    have g_94 : gi (mi 3) 0 0 := gi_eq c_93 (gi_c 0 0 (by decide))
    refine lv_bipush (v := (-2)) hx hb dX12_reports_71 (by decide) ?_
    exact W.iret (v := (-2)) hx hb hr (fun t ht hW => ⟨⟨(-2), (-2), rfl, ⟨rfl, (gi_w (gi_c (-2) (-2) (by decide)) (by decide))⟩, (mi 10), fm_reportPlace, fm_reportKind, fm_reportMonth, fm_reportDay, fm_reportKnown, fm_struck, gmi_10, gfm_reportPlace, gfm_reportMonth, gfm_reportDay, gfm_reportKnown, gfm_struck, hF.trans hR9.symm, by rw [ht]; exact hP, hD⟩, hS.F ht⟩) hS.2.2 dX12_reports_73
  · have hF := gf_neg c_93 hF
    refine lv_aload_n hx hb dX12_reports_7 rfl (lv_at hl 0 rfl) ?_
    refine lv_iload_n hx hb dX12_reports_8 rfl (lv_at hl 1 rfl) ?_
    refine va_calli (va_runV (As := [.int p1]) (rest := []) ⟨hx, hb, hml, hown, hts⟩ (sX12_isPlace l dC dI h0 mi mr km fm_trust fm_letter fm_reportPlace fm_reportKind fm_struck fm_reportMonth fm_reportDay fm_reportKnown fm_deedMonth fm_deedDay fm_deedLong fm_deedKind fm_kept fm_tape fm_must fm_least fm_pin fm_ways fm_verdict fm_row fm_official fm_aside fm_worth fm_out p1 gmi_0 gmi_1 gmi_2 gmi_4 gmi_7 gmi_10 gmi_17 gmi_23 gmi_24 gmi_26 gmi_29 gmi_30 gmi_33 gmi_37 gmi_41 gmi_50 gmi_51 gmi_56) (cwV 1 hts (gz_gV mGB_224 mGB_225 mGB_226 mGB_1 mGB_227 goodGB) rfl rfl rfl (by decide +kernel) ⟨Nat.le_of_ble_eq_true rfl, Nat.le_of_ble_eq_true rfl⟩) ⟨bl_R, mw_recv hK hP, fun U hU hW => ⟨rfl, by rw [hU]; exact hP, va_K.moved hW.alike hK⟩⟩ rfl rfl hl.1 rfl (lv_room (Nat.le_of_ble_eq_true rfl)) dX12_reports_9 ⟨Nat.zero_le _, Nat.zero_le _⟩) hS (fun q _ h => h.elim) (fun q h => h.elim) (fun r_95 u t H1 locs ht hvm hw hB hz1 hk1 hS => ?_)
    obtain ⟨hw, hE⟩ := hw
    have hP := gz_keep hP hk1
    have hF := gf_callm (a := r_95) hE hF (by first | with_reducible rfl | simp only [upd_same, upd_app, ↓reduceIte, Nat.reduceEqDiff])
    generalize H1 = H at hP hS ⊢
    have gr_95 : gi r_95 0 1 := hw.1
    have hqr_95 := hw.2
    refine lv_if_eq (tgt := 71) hx hb dX12_reports_12 (by decide) (fun c_96 => ?_) (fun c_96 => ?_)
    · have hF := gf_pos c_96 hF
      have g_97 : gi r_95 0 0 := gi_eq c_96 (gi_c 0 0 (by decide))
      refine lv_bipush (v := (-2)) hx hb dX12_reports_71 (by decide) ?_
      exact W.iret (v := (-2)) hx hb hr (fun t ht hW => ⟨⟨(-2), (-2), rfl, ⟨rfl, (gi_w (gi_c (-2) (-2) (by decide)) (by decide))⟩, (mi 10), fm_reportPlace, fm_reportKind, fm_reportMonth, fm_reportDay, fm_reportKnown, fm_struck, gmi_10, gfm_reportPlace, gfm_reportMonth, gfm_reportDay, gfm_reportKnown, gfm_struck, hF.trans hR9.symm, by rw [ht]; exact hP, hD⟩, hS.F ht⟩) hS.2.2 dX12_reports_73
    · have hF := gf_neg c_96 hF
      have g_98 : gi r_95 1 1 := gi_ne_lo c_96 gr_95 (gi_c 0 0 (by decide)) (by decide)
      have g_99 : gi p1 0 5 := gi_cap (gi_any p1) (hqr_95 (gz_one g_98)) (by decide)
      refine lv_iload_n hx hb dX12_reports_15 rfl (lv_at hl 2 rfl) ?_
      refine lv_i2l (v := (p2).toInt64) hx hb dX12_reports_16 rfl ?_
      refine lv_topl (fun l_100 el_100 => ?_)
      refine lv_lconst (v := 0) hx hb dX12_reports_17 (by decide) ?_
      refine lv_ldc2 (own := RX12) (v := 2) hx hb hown (hts _ (List.mem_cons_of_mem _ mGB_223)) dX12_reports_18 ?_
      have hPc := hP.sub (ws' := []) [] rfl
      have hKc := hK.sub (tys' := []) [] rfl
      refine va_calli (va_runS (As := [.long l_100, .long 0, .long 2]) (rest := []) ⟨hx, hb, hml, hown, hts⟩ (sX12_in l dC dI l_100 0 2) (cwS 3 hts (gz_gS mGB_47 mGB_48 mGB_1 mGB_49 goodGB) rfl rfl rfl (by decide +kernel) ⟨Nat.le_of_ble_eq_true rfl, Nat.le_of_ble_eq_true rfl⟩) ⟨bl_R, fun U hU hW => ⟨rfl, by rw [hU]; exact hPc, va_K.moved hW.alike hKc⟩⟩ rfl rfl hl.1 rfl (lv_room (Nat.le_of_ble_eq_true rfl)) dX12_reports_21 ⟨Nat.zero_le _, Nat.zero_le _⟩) hS (fun q _ h => h.elim) (fun q h => h.elim) (fun r_101 u t H1 locs ht hvm hw hB hz1 hk1 hS => ?_)
      obtain ⟨hw, hE⟩ := hw
      have hP := gz_keep hP hk1
      have hF := gf_call (a := r_101) (by rw [el_100] at hE; exact hE) hF
      generalize H1 = H at hP hS ⊢
      have gr_101 : gi r_101 0 1 := hw.1
      have hqr_101 := hw.2
      refine lv_if_eq (tgt := 71) hx hb dX12_reports_24 (by decide) (fun c_102 => ?_) (fun c_102 => ?_)
      · have hF := gf_pos c_102 hF
        have g_103 : gi r_101 0 0 := gi_eq c_102 (gi_c 0 0 (by decide))
        refine lv_bipush (v := (-2)) hx hb dX12_reports_71 (by decide) ?_
        exact W.iret (v := (-2)) hx hb hr (fun t ht hW => ⟨⟨(-2), (-2), rfl, ⟨rfl, (gi_w (gi_c (-2) (-2) (by decide)) (by decide))⟩, (mi 10), fm_reportPlace, fm_reportKind, fm_reportMonth, fm_reportDay, fm_reportKnown, fm_struck, gmi_10, gfm_reportPlace, gfm_reportMonth, gfm_reportDay, gfm_reportKnown, gfm_struck, hF.trans hR9.symm, by rw [ht]; exact hP, hD⟩, hS.F ht⟩) hS.2.2 dX12_reports_73
      · have hF := gf_neg c_102 hF
        have g_104 : gi r_101 1 1 := gi_ne_lo c_102 gr_101 (gi_c 0 0 (by decide)) (by decide)
        have g_105 : gi p2 0 2 := gi_cap (gi_any p2) (gz_inr (hqr_101.1 (gz_one g_104)) el_100 (A := 0) (B := 2) (by decide) (by decide)) (by decide)
        refine lv_iload_n hx hb dX12_reports_27 rfl (lv_at hl 3 rfl) ?_
        refine lv_i2l (v := (p3).toInt64) hx hb dX12_reports_28 rfl ?_
        refine lv_topl (fun l_106 el_106 => ?_)
        refine lv_lconst (v := 1) hx hb dX12_reports_29 (by decide) ?_
        refine lv_aload_n hx hb dX12_reports_30 rfl (lv_at hl 0 rfl) ?_
        refine va_get (D := (dC, dI)) (ci := 12) (v := .int (mi 0)) (C := RX12) (T := TX12) (N := 57) hx hb hts (fun w h => List.mem_cons_of_mem _ (jnGB_X12 w h)) hown hK hP 0 rfl rfl 0 (by decide) (hts _ (List.mem_cons_of_mem _ mGB_103)) (fun _ h9 => h9) rfl dX12_reports_31 ?_
        refine lv_iconst (v := 1) hx hb dX12_reports_34 (by decide) ?_
        refine lv_isub hx hb dX12_reports_35 ?_
        refine lv_topi (fun x_107 ex_107 => ?_)
        have gx_107 : gi x_107 (-1) 23 := gi_sub ex_107 gmi_0 (gi_c 1 1 (by decide)) (by decide)
        refine lv_i2l (v := (x_107).toInt64) hx hb dX12_reports_36 rfl ?_
        refine lv_topl (fun l_108 el_108 => ?_)
        have hPc := hP.sub (ws' := []) [] rfl
        have hKc := hK.sub (tys' := []) [] rfl
        refine va_calli (va_runS (As := [.long l_106, .long 1, .long l_108]) (rest := []) ⟨hx, hb, hml, hown, hts⟩ (sX12_in l dC dI l_106 1 l_108) (cwS 3 hts (gz_gS mGB_47 mGB_48 mGB_1 mGB_49 goodGB) rfl rfl rfl (by decide +kernel) ⟨Nat.le_of_ble_eq_true rfl, Nat.le_of_ble_eq_true rfl⟩) ⟨bl_R, fun U hU hW => ⟨rfl, by rw [hU]; exact hPc, va_K.moved hW.alike hKc⟩⟩ rfl rfl hl.1 rfl (lv_room (Nat.le_of_ble_eq_true rfl)) dX12_reports_37 ⟨Nat.zero_le _, Nat.zero_le _⟩) hS (fun q _ h => h.elim) (fun q h => h.elim) (fun r_109 u t H1 locs ht hvm hw hB hz1 hk1 hS => ?_)
        obtain ⟨hw, hE⟩ := hw
        have hP := gz_keep hP hk1
        have hF := gf_call (a := r_109) (by rw [el_108, ex_107, el_106] at hE; exact hE) hF
        generalize H1 = H at hP hS ⊢
        have gr_109 : gi r_109 0 1 := hw.1
        have hqr_109 := hw.2
        refine lv_if_eq (tgt := 71) hx hb dX12_reports_40 (by decide) (fun c_110 => ?_) (fun c_110 => ?_)
        · have hF := gf_pos c_110 hF
          have g_111 : gi r_109 0 0 := gi_eq c_110 (gi_c 0 0 (by decide))
          refine lv_bipush (v := (-2)) hx hb dX12_reports_71 (by decide) ?_
          exact W.iret (v := (-2)) hx hb hr (fun t ht hW => ⟨⟨(-2), (-2), rfl, ⟨rfl, (gi_w (gi_c (-2) (-2) (by decide)) (by decide))⟩, (mi 10), fm_reportPlace, fm_reportKind, fm_reportMonth, fm_reportDay, fm_reportKnown, fm_struck, gmi_10, gfm_reportPlace, gfm_reportMonth, gfm_reportDay, gfm_reportKnown, gfm_struck, hF.trans hR9.symm, by rw [ht]; exact hP, hD⟩, hS.F ht⟩) hS.2.2 dX12_reports_73
        · have hF := gf_neg c_110 hF
          have g_112 : gi r_109 1 1 := gi_ne_lo c_110 gr_109 (gi_c 0 0 (by decide)) (by decide)
          have g_113 : gi p3 1 23 := gi_cap (gi_any p3) (gz_inr (hqr_109.1 (gz_one g_112)) el_106 (A := 1) (B := 23) (by decide) (gz_l2u el_108 gx_107)) (by decide)
          refine lv_iload hx hb dX12_reports_43 (lv_at hl 4 rfl) ?_
          refine lv_i2l (v := (p4).toInt64) hx hb dX12_reports_45 rfl ?_
          refine lv_topl (fun l_114 el_114 => ?_)
          refine lv_lconst (v := 0) hx hb dX12_reports_46 (by decide) ?_
          refine lv_ldc2 (own := RX12) (v := 999) hx hb hown (hts _ (List.mem_cons_of_mem _ mGB_260)) dX12_reports_47 ?_
          have hPc := hP.sub (ws' := []) [] rfl
          have hKc := hK.sub (tys' := []) [] rfl
          refine va_calli (va_runS (As := [.long l_114, .long 0, .long 999]) (rest := []) ⟨hx, hb, hml, hown, hts⟩ (sX12_in l dC dI l_114 0 999) (cwS 3 hts (gz_gS mGB_47 mGB_48 mGB_1 mGB_49 goodGB) rfl rfl rfl (by decide +kernel) ⟨Nat.le_of_ble_eq_true rfl, Nat.le_of_ble_eq_true rfl⟩) ⟨bl_R, fun U hU hW => ⟨rfl, by rw [hU]; exact hPc, va_K.moved hW.alike hKc⟩⟩ rfl rfl hl.1 rfl (lv_room (Nat.le_of_ble_eq_true rfl)) dX12_reports_50 ⟨Nat.zero_le _, Nat.zero_le _⟩) hS (fun q _ h => h.elim) (fun q h => h.elim) (fun r_115 u t H1 locs ht hvm hw hB hz1 hk1 hS => ?_)
          obtain ⟨hw, hE⟩ := hw
          have hP := gz_keep hP hk1
          have hF := gf_call (a := r_115) (by rw [el_114] at hE; exact hE) hF
          generalize H1 = H at hP hS ⊢
          have gr_115 : gi r_115 0 1 := hw.1
          have hqr_115 := hw.2
          refine lv_if_eq (tgt := 71) hx hb dX12_reports_53 (by decide) (fun c_116 => ?_) (fun c_116 => ?_)
          · have hF := gf_pos c_116 hF
            have g_117 : gi r_115 0 0 := gi_eq c_116 (gi_c 0 0 (by decide))
            refine lv_bipush (v := (-2)) hx hb dX12_reports_71 (by decide) ?_
            exact W.iret (v := (-2)) hx hb hr (fun t ht hW => ⟨⟨(-2), (-2), rfl, ⟨rfl, (gi_w (gi_c (-2) (-2) (by decide)) (by decide))⟩, (mi 10), fm_reportPlace, fm_reportKind, fm_reportMonth, fm_reportDay, fm_reportKnown, fm_struck, gmi_10, gfm_reportPlace, gfm_reportMonth, gfm_reportDay, gfm_reportKnown, gfm_struck, hF.trans hR9.symm, by rw [ht]; exact hP, hD⟩, hS.F ht⟩) hS.2.2 dX12_reports_73
          · have hF := gf_neg c_116 hF
            have g_118 : gi r_115 1 1 := gi_ne_lo c_116 gr_115 (gi_c 0 0 (by decide)) (by decide)
            have g_119 : gi p4 0 999 := gi_cap (gi_any p4) (gz_inr (hqr_115.1 (gz_one g_118)) el_114 (A := 0) (B := 999) (by decide) (by decide)) (by decide)
            refine lv_iload hx hb dX12_reports_56 (lv_at hl 5 rfl) ?_
            refine lv_i2l (v := (p5).toInt64) hx hb dX12_reports_58 rfl ?_
            refine lv_topl (fun l_120 el_120 => ?_)
            refine lv_iload hx hb dX12_reports_59 (lv_at hl 4 rfl) ?_
            refine lv_i2l (v := (p4).toInt64) hx hb dX12_reports_61 rfl ?_
            refine lv_topl (fun l_121 el_121 => ?_)
            refine lv_ldc2 (own := RX12) (v := 999) hx hb hown (hts _ (List.mem_cons_of_mem _ mGB_260)) dX12_reports_62 ?_
            have hPc := hP.sub (ws' := []) [] rfl
            have hKc := hK.sub (tys' := []) [] rfl
            refine va_calli (va_runS (As := [.long l_120, .long l_121, .long 999]) (rest := []) ⟨hx, hb, hml, hown, hts⟩ (sX12_in l dC dI l_120 l_121 999) (cwS 3 hts (gz_gS mGB_47 mGB_48 mGB_1 mGB_49 goodGB) rfl rfl rfl (by decide +kernel) ⟨Nat.le_of_ble_eq_true rfl, Nat.le_of_ble_eq_true rfl⟩) ⟨bl_R, fun U hU hW => ⟨rfl, by rw [hU]; exact hPc, va_K.moved hW.alike hKc⟩⟩ rfl rfl hl.1 rfl (lv_room (Nat.le_of_ble_eq_true rfl)) dX12_reports_65 ⟨Nat.zero_le _, Nat.zero_le _⟩) hS (fun q _ h => h.elim) (fun q h => h.elim) (fun r_122 u t H1 locs ht hvm hw hB hz1 hk1 hS => ?_)
            obtain ⟨hw, hE⟩ := hw
            have hP := gz_keep hP hk1
            have hF := gf_call (a := r_122) (by rw [el_121, el_120] at hE; exact hE) hF
            generalize H1 = H at hP hS ⊢
            have gr_122 : gi r_122 0 1 := hw.1
            have hqr_122 := hw.2
            refine lv_if_ne (tgt := 74) hx hb dX12_reports_68 (by decide) (fun c_123 => ?_) (fun c_123 => ?_)
            · have hF := gf_neg c_123 hF
              have g_124 : gi r_122 1 1 := gi_ne_lo c_123 gr_122 (gi_c 0 0 (by decide)) (by decide)
              have g_125 : gi p5 0 999 := gi_cap (gi_any p5) (gz_inr (hqr_122.1 (gz_one g_124)) el_120 (A := 0) (B := 999) (gz_l2l el_121 g_119) (by decide)) (by decide)
              refine lv_aload_n hx hb dX12_reports_74 rfl (lv_at hl 0 rfl) ?_
              refine va_get (D := (dC, dI)) (ci := 12) (v := .int (mi 10)) (C := RX12) (T := TX12) (N := 57) hx hb hts (fun w h => List.mem_cons_of_mem _ (jnGB_X12 w h)) hown hK hP 0 rfl rfl 10 (by decide) (hts _ (List.mem_cons_of_mem _ mGB_111)) (fun _ h9 => h9) rfl dX12_reports_75 ?_
              refine lv_bipush (v := 24) hx hb dX12_reports_78 (by decide) ?_
              refine lv_icmp_ne (tgt := 86) hx hb dX12_reports_80 (by decide) (fun c_126 => ?_) (fun c_126 => ?_)
              · have hF := gf_neg c_126 hF
                have g_127 : gi (mi 10) 0 23 := gi_ne_hi c_126 gmi_10 (gi_c 24 24 (by decide)) (by decide)
                refine lv_aload_n hx hb dX12_reports_86 rfl (lv_at hl 0 rfl) ?_
                refine lv_iload_n hx hb dX12_reports_87 rfl (lv_at hl 1 rfl) ?_
                refine lv_iload_n hx hb dX12_reports_88 rfl (lv_at hl 2 rfl) ?_
                refine lv_iload_n hx hb dX12_reports_89 rfl (lv_at hl 3 rfl) ?_
                refine lv_iload hx hb dX12_reports_90 (lv_at hl 4 rfl) ?_
                refine lv_iload hx hb dX12_reports_92 (lv_at hl 5 rfl) ?_
                have hFc := gz_fullF hD hS hA
                refine va_callv (va_runV (As := [.int p1, .int p2, .int p3, .int p4, .int p5]) (rest := []) ⟨hx, hb, hml, hown, hts⟩ (sX12_lays l dC dI H.size h0 mi mr km fm_reportPlace fm_reportKind fm_reportMonth fm_reportDay fm_reportKnown fm_struck fm_trust fm_letter fm_deedMonth fm_deedDay fm_deedLong fm_deedKind fm_kept fm_tape fm_must fm_least fm_pin fm_ways fm_verdict fm_row fm_official fm_aside fm_worth fm_out p1 p2 p3 p4 p5 gmi_0 gmi_1 gmi_2 gmi_4 gmi_7 g_127 gmi_17 gmi_23 gmi_24 gmi_26 gmi_29 gmi_30 gmi_33 gmi_37 gmi_41 gmi_50 gmi_51 gmi_56 gfm_reportPlace gfm_reportMonth gfm_reportDay gfm_reportKnown gfm_struck g_99 (gi_w g_113 (by decide)) g_119 g_125) (cwV 5 hts (gz_gV mGB_205 mGB_206 mGB_207 mGB_1 mGB_208 goodGB) rfl rfl rfl (by decide +kernel) ⟨Nat.le_of_ble_eq_true rfl, Nat.le_of_ble_eq_true rfl⟩) ⟨bl_W, mw_recv hK hP, fun U hU hW => ⟨rfl, by rw [hU], by rw [hU]; exact hP, va_K.moved hW.alike hK, hD.weaken (fun _ _ _ _ => trivial)⟩⟩ rfl rfl hl.1 rfl (lv_room (Nat.le_of_ble_eq_true rfl)) dX12_reports_94 ⟨Nat.zero_le _, Nat.zero_le _⟩) hS (fun q _ h => hFc q h) hFc (fun u t H1 locs ht hvm hw hB hz1 hk1 hS => ?_)
                obtain ⟨y_129, f_130, f_131, f_132, f_133, f_134, f_135, hB⟩ := hB
                obtain ⟨gy_129, gf_130, gf_132, gf_133, gf_134, gf_135, hE, hP1, hD1⟩ := hB
                rw [ht] at hP1
                have hD : va_D A (MWn h0 mr km (mi 0) (mi 1) (mi 2) (mi 3) (mi 4) (mi 5) (mi 6) (mi 7) y_129 (mi 17) (mi 23) (mi 24) (mi 26) (mi 27) (mi 28) (mi 29) (mi 30) (mi 31) (mi 32) (mi 33) (mi 37) (mi 41) (mi 42) (mi 43) (mi 44) (mi 45) (mi 47) (mi 48) (mi 49) (mi 50) (mi 51) (mi 54) (mi 56) fm_trust fm_letter f_130 f_131 f_135 f_132 f_133 f_134 fm_deedMonth fm_deedDay fm_deedLong fm_deedKind fm_kept fm_tape fm_must fm_least fm_pin fm_ways fm_verdict fm_row fm_official fm_aside fm_worth fm_out) := gz_fullD hFc hD1
                have hP : va_P (dC, dI) vwCl (MWn h0 mr km (mi 0) (mi 1) (mi 2) (mi 3) (mi 4) (mi 5) (mi 6) (mi 7) y_129 (mi 17) (mi 23) (mi 24) (mi 26) (mi 27) (mi 28) (mi 29) (mi 30) (mi 31) (mi 32) (mi 33) (mi 37) (mi 41) (mi 42) (mi 43) (mi 44) (mi 45) (mi 47) (mi 48) (mi 49) (mi 50) (mi 51) (mi 54) (mi 56) fm_trust fm_letter f_130 f_131 f_135 f_132 f_133 f_134 fm_deedMonth fm_deedDay fm_deedLong fm_deedKind fm_kept fm_tape fm_must fm_least fm_pin fm_ways fm_verdict fm_row fm_official fm_aside fm_worth fm_out) H1 := hP1
                have hF := gf_callm (a := (y_129, f_130, f_131, f_132, f_133, f_134, f_135)) hE hF (by first | with_reducible rfl | simp only [upd_same, upd_app, ↓reduceIte, Nat.reduceEqDiff])
                generalize H1 = H at hP hS ⊢
                refine lv_aload_n hx hb dX12_reports_97 rfl (lv_at hl 0 rfl) ?_
                refine va_get (D := (dC, dI)) (ci := 12) (v := .int y_129) (C := RX12) (T := TX12) (N := 57) hx hb hts (fun w h => List.mem_cons_of_mem _ (jnGB_X12 w h)) hown hK hP 0 rfl rfl 10 (by decide) (hts _ (List.mem_cons_of_mem _ mGB_111)) (fun _ h9 => h9) rfl dX12_reports_98 ?_
                refine lv_iconst (v := 1) hx hb dX12_reports_101 (by decide) ?_
                refine lv_isub hx hb dX12_reports_102 ?_
                refine lv_topi (fun x_136 ex_136 => ?_)
                have gx_136 : gi x_136 (-1) 23 := gi_sub ex_136 gy_129 (gi_c 1 1 (by decide)) (by decide)
                exact W.iret (v := x_136) hx hb hr (fun t ht hW => ⟨⟨x_136, x_136, rfl, ⟨rfl, (gi_w gx_136 (by decide))⟩, y_129, f_130, f_131, f_132, f_133, f_134, f_135, gy_129, gf_130, gf_132, gf_133, gf_134, gf_135, by rw [ex_136]; exact hF.trans hR9.symm, by rw [ht]; exact hP, hD⟩, hS.F ht⟩) hS.2.2 dX12_reports_103
              · have hF := gf_pos c_126 hF
                have g_137 : gi (mi 10) 24 24 := gi_eq c_126 (gi_c 24 24 (by decide))
                refine lv_bipush (v := (-5)) hx hb dX12_reports_83 (by decide) ?_
                exact W.iret (v := (-5)) hx hb hr (fun t ht hW => ⟨⟨(-5), (-5), rfl, ⟨rfl, (gi_w (gi_c (-5) (-5) (by decide)) (by decide))⟩, (mi 10), fm_reportPlace, fm_reportKind, fm_reportMonth, fm_reportDay, fm_reportKnown, fm_struck, (gi_w g_137 (by decide)), gfm_reportPlace, gfm_reportMonth, gfm_reportDay, gfm_reportKnown, gfm_struck, hF.trans hR9.symm, by rw [ht]; exact hP, hD⟩, hS.F ht⟩) hS.2.2 dX12_reports_85
            · have hF := gf_pos c_123 hF
              have g_138 : gi r_122 0 0 := gi_eq c_123 (gi_c 0 0 (by decide))
              refine lv_bipush (v := (-2)) hx hb dX12_reports_71 (by decide) ?_
              exact W.iret (v := (-2)) hx hb hr (fun t ht hW => ⟨⟨(-2), (-2), rfl, ⟨rfl, (gi_w (gi_c (-2) (-2) (by decide)) (by decide))⟩, (mi 10), fm_reportPlace, fm_reportKind, fm_reportMonth, fm_reportDay, fm_reportKnown, fm_struck, gmi_10, gfm_reportPlace, gfm_reportMonth, gfm_reportDay, gfm_reportKnown, gfm_struck, hF.trans hR9.symm, by rw [ht]; exact hP, hD⟩, hS.F ht⟩) hS.2.2 dX12_reports_73
theorem dX12_deed_0 : decode cX12_deed 0 = .ok (.aload_n 0, 1) := by decide +kernel
theorem dX12_deed_1 : decode cX12_deed 1 = .ok (.iload_n 1, 1) := by decide +kernel
theorem dX12_deed_2 : decode cX12_deed 2 = .ok (.invokevirtual 306, 3) := by decide +kernel
theorem dX12_deed_5 : decode cX12_deed 5 = .ok (.ifCond .ne 6, 3) := by decide +kernel
theorem dX12_deed_8 : decode cX12_deed 8 = .ok (.bipush (-2), 2) := by decide +kernel
theorem dX12_deed_10 : decode cX12_deed 10 = .ok (.ireturn, 1) := by decide +kernel
theorem dX12_deed_11 : decode cX12_deed 11 = .ok (.iload_n 2, 1) := by decide +kernel
theorem dX12_deed_12 : decode cX12_deed 12 = .ok (.tableswitch 60 0 3 #[32, 39, 46, 53], 32) := by decide +kernel
theorem dX12_deed_44 : decode cX12_deed 44 = .ok (.aload_n 0, 1) := by decide +kernel
theorem dX12_deed_45 : decode cX12_deed 45 = .ok (.getfield 35, 3) := by decide +kernel
theorem dX12_deed_48 : decode cX12_deed 48 = .ok (.iload_n 1, 1) := by decide +kernel
theorem dX12_deed_49 : decode cX12_deed 49 = .ok (.iaload, 1) := by decide +kernel
theorem dX12_deed_50 : decode cX12_deed 50 = .ok (.ireturn, 1) := by decide +kernel
theorem dX12_deed_51 : decode cX12_deed 51 = .ok (.aload_n 0, 1) := by decide +kernel
theorem dX12_deed_52 : decode cX12_deed 52 = .ok (.getfield 38, 3) := by decide +kernel
theorem dX12_deed_55 : decode cX12_deed 55 = .ok (.iload_n 1, 1) := by decide +kernel
theorem dX12_deed_56 : decode cX12_deed 56 = .ok (.iaload, 1) := by decide +kernel
theorem dX12_deed_57 : decode cX12_deed 57 = .ok (.ireturn, 1) := by decide +kernel
theorem dX12_deed_58 : decode cX12_deed 58 = .ok (.aload_n 0, 1) := by decide +kernel
theorem dX12_deed_59 : decode cX12_deed 59 = .ok (.getfield 41, 3) := by decide +kernel
theorem dX12_deed_62 : decode cX12_deed 62 = .ok (.iload_n 1, 1) := by decide +kernel
theorem dX12_deed_63 : decode cX12_deed 63 = .ok (.iaload, 1) := by decide +kernel
theorem dX12_deed_64 : decode cX12_deed 64 = .ok (.ireturn, 1) := by decide +kernel
theorem dX12_deed_65 : decode cX12_deed 65 = .ok (.aload_n 0, 1) := by decide +kernel
theorem dX12_deed_66 : decode cX12_deed 66 = .ok (.getfield 44, 3) := by decide +kernel
theorem dX12_deed_69 : decode cX12_deed 69 = .ok (.iload_n 1, 1) := by decide +kernel
theorem dX12_deed_70 : decode cX12_deed 70 = .ok (.iaload, 1) := by decide +kernel
theorem dX12_deed_71 : decode cX12_deed 71 = .ok (.ireturn, 1) := by decide +kernel
theorem dX12_deed_72 : decode cX12_deed 72 = .ok (.bipush (-2), 2) := by decide +kernel
theorem dX12_deed_74 : decode cX12_deed 74 = .ok (.ireturn, 1) := by decide +kernel
noncomputable def fX12_deed (mi : Nat → Int32) (fm_deedMonth : Nat → Int32) (fm_deedLong : Nat → Int32) (fm_deedKind : Nat → Int32) (fm_deedDay : Nat → Int32) (p1 : Int32) (p2 : Int32) : Int32 := cal (fun o1 => if o1 = (0 : Int32) then (-2 : Int32) else (if p2 = (0 : Int32) then (fm_deedMonth p1.toNatClampNeg) else (if p2 = (1 : Int32) then (fm_deedDay p1.toNatClampNeg) else (if p2 = (2 : Int32) then (fm_deedLong p1.toNatClampNeg) else (if p2 = (3 : Int32) then (fm_deedKind p1.toNatClampNeg) else (-2 : Int32)))))) (fX12_isDeed mi p1)
set_option maxHeartbeats 4000000 in
set_option maxRecDepth 100000 in
theorem sX12_deed (l : Launch) (dC : Nat → ClassId) (dI : Nat → Nat → Nat) (h0 : Nat) (mi : Nat → Int32) (mr : Nat → Nat) (km : Nat → ClassId) (fm_deedMonth : Nat → Int32) (fm_deedLong : Nat → Int32) (fm_deedKind : Nat → Int32) (fm_deedDay : Nat → Int32) (fm_trust : Nat → Int32) (fm_letter : Nat → Int32) (fm_reportPlace : Nat → Int32) (fm_reportKind : Nat → Int32) (fm_struck : Nat → Int32) (fm_reportMonth : Nat → Int32) (fm_reportDay : Nat → Int32) (fm_reportKnown : Nat → Int32) (fm_kept : Nat → Int32) (fm_tape : Nat → Int32) (fm_must : Nat → Int32) (fm_least : Nat → Int32) (fm_pin : Nat → Int32) (fm_ways : Nat → Int32) (fm_verdict : Nat → Int32) (fm_row : Nat → Int32) (fm_official : Nat → Int32) (fm_aside : Nat → Int32) (fm_worth : Nat → Int32) (fm_out : Nat → Int32) (p1 : Int32) (p2 : Int32) (gmi_0 : gi (mi 0) 0 24) (gmi_1 : gi (mi 1) 0 5) (gmi_2 : gi (mi 2) 0 5) (gmi_4 : gi (mi 4) 0 1) (gmi_7 : gi (mi 7) 0 6) (gmi_10 : gi (mi 10) 0 24) (gmi_17 : gi (mi 17) 0 8) (gmi_23 : gi (mi 23) 0 300) (gmi_24 : gi (mi 24) 0 1) (gmi_26 : gi (mi 26) 0 1600) (gmi_29 : gi (mi 29) 0 1600) (gmi_30 : gi (mi 30) 0 1600) (gmi_33 : gi (mi 33) 0 1) (gmi_37 : gi (mi 37) 0 1) (gmi_41 : gi (mi 41) 0 24) (gmi_50 : gi (mi 50) 0 1) (gmi_51 : gi (mi 51) 0 1) (gmi_56 : gi (mi 56) 0 80) (gfm_deedMonth : ga fm_deedMonth 8 0 23) (gfm_deedLong : ga fm_deedLong 8 0 600) : Met l yX12_deed (.code yX12_deed cX12_deed 3 (some .int) :: wsGB) ({ frames := 2, cells := 0, slots := 0, locals := 46 }) (va_Pc [.ref h0, .int p1, .int p2] (fun U => va_P (dC, dI) vwCl (MWn h0 mr km (mi 0) (mi 1) (mi 2) (mi 3) (mi 4) (mi 5) (mi 6) (mi 7) (mi 10) (mi 17) (mi 23) (mi 24) (mi 26) (mi 27) (mi 28) (mi 29) (mi 30) (mi 31) (mi 32) (mi 33) (mi 37) (mi 41) (mi 42) (mi 43) (mi 44) (mi 45) (mi 47) (mi 48) (mi 49) (mi 50) (mi 51) (mi 54) (mi 56) fm_trust fm_letter fm_reportPlace fm_reportKind fm_struck fm_reportMonth fm_reportDay fm_reportKnown fm_deedMonth fm_deedDay fm_deedLong fm_deedKind fm_kept fm_tape fm_must fm_least fm_pin fm_ways fm_verdict fm_row fm_official fm_aside fm_worth fm_out) U.heap ∧ va_K (dC, dI) vwCl (MT km) U)) (va_Qi (fun (r : Int32) (u : Unit) => (gi r (-2147483648) 2147483647) ∧ r = fX12_deed mi fm_deedMonth fm_deedLong fm_deedKind fm_deedDay p1 p2) (fun _ _ => True) (fun _ => False)) 0 0 (fun _ => False) := by
  refine Met.ofW (cc := cX12_deed) (maxL := 3) (ret := (some .int)) (by decide) rfl ?_
  intro p e s m args below meth c s₁ B hml hv
  obtain ⟨rfl, hP, hK⟩ := hv
  have hx := B.exec
  have hb := B.bytes
  have hr := B.returns
  have hts := atoms_spec (ws := (.code yX12_deed cX12_deed 3 (some .int) :: wsGB)) B.pre
  have hown : s.vm.findClass RX12 = some m.cls := findClass_of_methodNamed B.named
  have hlocks := B.notSynchronized
  have hS : va_S (fun _ => False) s.heap s.heap [] := va_S.rf
  have hl := lv_entry ([.ref h0, .int p1, .int p2]) (n := 3) (Nat.le_of_ble_eq_true rfl)
  rw [lg_entry_eq]
  generalize (lg_sl ([.ref h0, .int p1, .int p2]) ++ List.replicate (3 - (lg_sl ([.ref h0, .int p1, .int p2])).length) Slot.unset).toArray = ls at hl ⊢
  have hl : lv_has ls 3 [(0, .ref h0), (1, .int p1), (2, .int p2)] := hl
  obtain ⟨RES, hF⟩ : ∃ R9, fX12_deed mi fm_deedMonth fm_deedLong fm_deedKind fm_deedDay p1 p2 = R9 := ⟨_, rfl⟩
  have hR9 := hF
  refine lv_aload_n hx hb dX12_deed_0 rfl (lv_at hl 0 rfl) ?_
  refine lv_iload_n hx hb dX12_deed_1 rfl (lv_at hl 1 rfl) ?_
  refine va_calli (va_runV (As := [.int p1]) (rest := []) ⟨hx, hb, hml, hown, hts⟩ (sX12_isDeed l dC dI h0 mi mr km fm_trust fm_letter fm_reportPlace fm_reportKind fm_struck fm_reportMonth fm_reportDay fm_reportKnown fm_deedMonth fm_deedDay fm_deedLong fm_deedKind fm_kept fm_tape fm_must fm_least fm_pin fm_ways fm_verdict fm_row fm_official fm_aside fm_worth fm_out p1 gmi_0 gmi_1 gmi_2 gmi_4 gmi_7 gmi_10 gmi_17 gmi_23 gmi_24 gmi_26 gmi_29 gmi_30 gmi_33 gmi_37 gmi_41 gmi_50 gmi_51 gmi_56) (cwV 1 hts (gz_gV mGB_242 mGB_243 mGB_244 mGB_1 mGB_245 goodGB) rfl rfl rfl (by decide +kernel) ⟨Nat.le_of_ble_eq_true rfl, Nat.le_of_ble_eq_true rfl⟩) ⟨bl_R, mw_recv hK hP, fun U hU hW => ⟨rfl, by rw [hU]; exact hP, va_K.moved hW.alike hK⟩⟩ rfl rfl hl.1 rfl (lv_room (Nat.le_of_ble_eq_true rfl)) dX12_deed_2 ⟨Nat.zero_le _, Nat.zero_le _⟩) hS (fun q _ h => h.elim) (fun q h => h.elim) (fun r_11 u t H1 locs ht hvm hw hB hz1 hk1 hS => ?_)
  obtain ⟨hw, hE⟩ := hw
  have hP := gz_keep hP hk1
  have hF := gf_callm (a := r_11) hE hF (by first | with_reducible rfl | simp only [upd_same, upd_app, ↓reduceIte, Nat.reduceEqDiff])
  generalize H1 = H at hP hS ⊢
  have gr_11 : gi r_11 0 1 := hw.1
  have hqr_11 := hw.2
  refine lv_if_ne (tgt := 11) hx hb dX12_deed_5 (by decide) (fun c_12 => ?_) (fun c_12 => ?_)
  · have hF := gf_neg c_12 hF
    have g_13 : gi r_11 1 1 := gi_ne_lo c_12 gr_11 (gi_c 0 0 (by decide)) (by decide)
    have g_14 : gi p1 0 7 := gi_cap (gi_any p1) (hqr_11 (gz_one g_13)) (by decide)
    refine lv_iload_n hx hb dX12_deed_11 rfl (lv_at hl 2 rfl) ?_
    rcases gz_sw p2 3 (Nat.le_of_ble_eq_true rfl) with hj_15 | ⟨j_15, hj_15, ej_15⟩
    · refine lv_tableOut (tgt := 72) hx hb dX12_deed_12 hj_15 (by decide) ?_
      have hF := gf_neg (fun h9 => by have h8 := congrArg Int32.toInt h9; rw [show (0 : Int32).toInt = 0 from by decide] at h8; omega) hF
      have hF := gf_neg (fun h9 => by have h8 := congrArg Int32.toInt h9; rw [show (1 : Int32).toInt = 1 from by decide] at h8; omega) hF
      have hF := gf_neg (fun h9 => by have h8 := congrArg Int32.toInt h9; rw [show (2 : Int32).toInt = 2 from by decide] at h8; omega) hF
      have hF := gf_neg (fun h9 => by have h8 := congrArg Int32.toInt h9; rw [show (3 : Int32).toInt = 3 from by decide] at h8; omega) hF
      refine lv_bipush (v := (-2)) hx hb dX12_deed_72 (by decide) ?_
      exact W.iret (v := (-2)) hx hb hr (fun t ht hW => ⟨⟨(-2), (), rfl, ⟨(gi_any (-2)), hF.trans hR9.symm⟩, trivial⟩, hS.F ht⟩) hS.2.2 dX12_deed_74
    · rcases (show j_15 = 0 ∨ j_15 = 1 ∨ j_15 = 2 ∨ j_15 = 3 by omega) with rfl | rfl | rfl | rfl
      · refine lv_tableIn (off := 32) (tgt := 44) hx hb dX12_deed_12 (by rw [ej_15]; decide +kernel) (by rw [ej_15]; decide +kernel) (by rw [ej_15]; decide +kernel) (by decide) ?_
        have hF := gf_pos (by rw [ej_15]; rfl) hF
        refine lv_aload_n hx hb dX12_deed_44 rfl (lv_at hl 0 rfl) ?_
        refine va_get (D := (dC, dI)) (ci := 12) (v := .ref (mr 8)) (C := RX12) (T := TX12) (N := 57) hx hb hts (fun w h => List.mem_cons_of_mem _ (jnGB_X12 w h)) hown hK hP 0 rfl rfl 18 (by decide) (hts _ (List.mem_cons_of_mem _ mGB_19)) (fun _ h9 => h9) rfl dX12_deed_45 ?_
        refine lv_iload_n hx hb dX12_deed_48 rfl (lv_at hl 1 rfl) ?_
        refine va_iald hx hb hK hP 9 8 rfl rfl (gi_in g_14 (by decide)) dX12_deed_49 ?_
        refine lv_topi (fun x_16 ex_16 => ?_)
        have gx_16 : gi x_16 0 23 := ga_at gfm_deedMonth (gi_in g_14 (by decide)) ex_16
        exact W.iret (v := x_16) hx hb hr (fun t ht hW => ⟨⟨x_16, (), rfl, ⟨(gi_any x_16), by rw [ex_16]; exact hF.trans hR9.symm⟩, trivial⟩, hS.F ht⟩) hS.2.2 dX12_deed_50
      · refine lv_tableIn (off := 39) (tgt := 51) hx hb dX12_deed_12 (by rw [ej_15]; decide +kernel) (by rw [ej_15]; decide +kernel) (by rw [ej_15]; decide +kernel) (by decide) ?_
        have hF := gf_neg (by rw [ej_15]; decide) hF
        have hF := gf_pos (by rw [ej_15]; rfl) hF
        refine lv_aload_n hx hb dX12_deed_51 rfl (lv_at hl 0 rfl) ?_
        refine va_get (D := (dC, dI)) (ci := 12) (v := .ref (mr 9)) (C := RX12) (T := TX12) (N := 57) hx hb hts (fun w h => List.mem_cons_of_mem _ (jnGB_X12 w h)) hown hK hP 0 rfl rfl 19 (by decide) (hts _ (List.mem_cons_of_mem _ mGB_20)) (fun _ h9 => h9) rfl dX12_deed_52 ?_
        refine lv_iload_n hx hb dX12_deed_55 rfl (lv_at hl 1 rfl) ?_
        refine va_iald hx hb hK hP 10 9 rfl rfl (gi_in g_14 (by decide)) dX12_deed_56 ?_
        refine lv_topi (fun x_17 ex_17 => ?_)
        exact W.iret (v := x_17) hx hb hr (fun t ht hW => ⟨⟨x_17, (), rfl, ⟨(gi_any x_17), by rw [ex_17]; exact hF.trans hR9.symm⟩, trivial⟩, hS.F ht⟩) hS.2.2 dX12_deed_57
      · refine lv_tableIn (off := 46) (tgt := 58) hx hb dX12_deed_12 (by rw [ej_15]; decide +kernel) (by rw [ej_15]; decide +kernel) (by rw [ej_15]; decide +kernel) (by decide) ?_
        have hF := gf_neg (by rw [ej_15]; decide) hF
        have hF := gf_neg (by rw [ej_15]; decide) hF
        have hF := gf_pos (by rw [ej_15]; rfl) hF
        refine lv_aload_n hx hb dX12_deed_58 rfl (lv_at hl 0 rfl) ?_
        refine va_get (D := (dC, dI)) (ci := 12) (v := .ref (mr 10)) (C := RX12) (T := TX12) (N := 57) hx hb hts (fun w h => List.mem_cons_of_mem _ (jnGB_X12 w h)) hown hK hP 0 rfl rfl 20 (by decide) (hts _ (List.mem_cons_of_mem _ mGB_21)) (fun _ h9 => h9) rfl dX12_deed_59 ?_
        refine lv_iload_n hx hb dX12_deed_62 rfl (lv_at hl 1 rfl) ?_
        refine va_iald hx hb hK hP 11 10 rfl rfl (gi_in g_14 (by decide)) dX12_deed_63 ?_
        refine lv_topi (fun x_18 ex_18 => ?_)
        have gx_18 : gi x_18 0 600 := ga_at gfm_deedLong (gi_in g_14 (by decide)) ex_18
        exact W.iret (v := x_18) hx hb hr (fun t ht hW => ⟨⟨x_18, (), rfl, ⟨(gi_any x_18), by rw [ex_18]; exact hF.trans hR9.symm⟩, trivial⟩, hS.F ht⟩) hS.2.2 dX12_deed_64
      · refine lv_tableIn (off := 53) (tgt := 65) hx hb dX12_deed_12 (by rw [ej_15]; decide +kernel) (by rw [ej_15]; decide +kernel) (by rw [ej_15]; decide +kernel) (by decide) ?_
        have hF := gf_neg (by rw [ej_15]; decide) hF
        have hF := gf_neg (by rw [ej_15]; decide) hF
        have hF := gf_neg (by rw [ej_15]; decide) hF
        have hF := gf_pos (by rw [ej_15]; rfl) hF
        refine lv_aload_n hx hb dX12_deed_65 rfl (lv_at hl 0 rfl) ?_
        refine va_get (D := (dC, dI)) (ci := 12) (v := .ref (mr 11)) (C := RX12) (T := TX12) (N := 57) hx hb hts (fun w h => List.mem_cons_of_mem _ (jnGB_X12 w h)) hown hK hP 0 rfl rfl 21 (by decide) (hts _ (List.mem_cons_of_mem _ mGB_22)) (fun _ h9 => h9) rfl dX12_deed_66 ?_
        refine lv_iload_n hx hb dX12_deed_69 rfl (lv_at hl 1 rfl) ?_
        refine va_iald hx hb hK hP 12 11 rfl rfl (gi_in g_14 (by decide)) dX12_deed_70 ?_
        refine lv_topi (fun x_19 ex_19 => ?_)
        exact W.iret (v := x_19) hx hb hr (fun t ht hW => ⟨⟨x_19, (), rfl, ⟨(gi_any x_19), by rw [ex_19]; exact hF.trans hR9.symm⟩, trivial⟩, hS.F ht⟩) hS.2.2 dX12_deed_71
  · have hF := gf_pos c_12 hF
    have g_20 : gi r_11 0 0 := gi_eq c_12 (gi_c 0 0 (by decide))
    refine lv_bipush (v := (-2)) hx hb dX12_deed_8 (by decide) ?_
    exact W.iret (v := (-2)) hx hb hr (fun t ht hW => ⟨⟨(-2), (), rfl, ⟨(gi_any (-2)), hF.trans hR9.symm⟩, trivial⟩, hS.F ht⟩) hS.2.2 dX12_deed_10
theorem dJ7_fill_53178_0 : decode cJ7_fill_53178 0 = .ok (.iconst 0, 1) := by decide +kernel
theorem dJ7_fill_53178_1 : decode cJ7_fill_53178 1 = .ok (.istore_n 2, 1) := by decide +kernel
theorem dJ7_fill_53178_2 : decode cJ7_fill_53178 2 = .ok (.aload_n 0, 1) := by decide +kernel
theorem dJ7_fill_53178_3 : decode cJ7_fill_53178 3 = .ok (.arraylength, 1) := by decide +kernel
theorem dJ7_fill_53178_4 : decode cJ7_fill_53178 4 = .ok (.istore_n 3, 1) := by decide +kernel
theorem dJ7_fill_53178_5 : decode cJ7_fill_53178 5 = .ok (.iload_n 2, 1) := by decide +kernel
theorem dJ7_fill_53178_6 : decode cJ7_fill_53178 6 = .ok (.iload_n 3, 1) := by decide +kernel
theorem dJ7_fill_53178_7 : decode cJ7_fill_53178 7 = .ok (.if_icmp .ge 13, 3) := by decide +kernel
theorem dJ7_fill_53178_10 : decode cJ7_fill_53178 10 = .ok (.aload_n 0, 1) := by decide +kernel
theorem dJ7_fill_53178_11 : decode cJ7_fill_53178 11 = .ok (.iload_n 2, 1) := by decide +kernel
theorem dJ7_fill_53178_12 : decode cJ7_fill_53178 12 = .ok (.iload_n 1, 1) := by decide +kernel
theorem dJ7_fill_53178_13 : decode cJ7_fill_53178 13 = .ok (.iastore, 1) := by decide +kernel
theorem dJ7_fill_53178_14 : decode cJ7_fill_53178 14 = .ok (.iinc 2 1, 3) := by decide +kernel
theorem dJ7_fill_53178_17 : decode cJ7_fill_53178 17 = .ok (.goto (-12), 3) := by decide +kernel
theorem dJ7_fill_53178_20 : decode cJ7_fill_53178 20 = .ok (.return_, 1) := by decide +kernel
set_option maxHeartbeats 4000000 in
set_option maxRecDepth 100000 in
theorem lp_sJ7_fill325 {p : Program} {l : Launch} {e : Env} {R : Room} {s : State} {m : MethodId} {args : Array Value} {below : List Frame} {meth : Method} {c : Code} {Q : State → Prop} {A : Nat → Prop} {cells slots : Nat} {dC : Nat → ClassId} {dI : Nat → Nat → Nat} (a : Nat) (ka : ClassId) (fa : Nat → Int32) (p1 : Int32)  (hx : p.tables.exec = Jvm.exec) (hb : c.code = cJ7_fill_53178) (hml : c.maxLocals = 4) (hown : s.vm.findClass RJ7 = some m.cls) (hts : ∀ w ∈ ((.code yJ7_fill_53178 cJ7_fill_53178 4 none :: wsGA) : List Cond), w.before args s = true) (hK : va_K (dC, dI) vwCl [(ka, .int)] s) (hz : nzA s) (hA : ∀ q : Nat, s.heap.size ≤ q → A q) (hRf : 0 ≤ R.frames) (hRl : 0 ≤ R.locals) (hRc : cells ≤ R.cells) (hRs : slots ≤ R.slots) (kr20 : ∀ (z0 : Nat → Int32) (H : Heap) (locs : List Loc) (ls : Array Slot), va_P (dC, dI) vwCl [(a, .inl (ka, 325, .inl z0))] H → va_D A [(a, .inl (ka, 325, .inl z0))] → va_S A s.heap H locs → lv_has ls 4 [] → W p l e R s m args below meth c H locs cells slots Q (F0 m 20 ls [])) : ∀ z : Nat, (∀ (v2 : Int32) (v3 : Int32) (z0 : Nat → Int32) (H : Heap) (locs : List Loc) (ls : Array Slot), gi v2 0 599 → gi v3 325 325 → 1199 + (-2) * v2.toInt < (z : Int) → va_P (dC, dI) vwCl [(a, .inl (ka, 325, .inl z0))] H → va_D A [(a, .inl (ka, 325, .inl z0))] → va_S A s.heap H locs → lv_has ls 4 [(0, .ref a), (1, .int p1), (2, .int v2), (3, .int v3)] → W p l e R s m args below meth c H locs cells slots Q (F0 m 5 ls [])) := by
  intro z
  induction z with
  | zero =>
    intro v2 v3 z0 H locs ls gv2 gv3 hmu hP hD hS hl
    exact absurd hmu (by have hv21 := gv2.1; have hv22 := gv2.2; omega)
  | succ z ih =>
      intro v2 v3 z0 H locs ls gv2 gv3 hmu hP hD hS hl
      refine lv_iload_n hx hb dJ7_fill_53178_5 rfl (lv_at hl 2 rfl) ?_
      refine lv_iload_n hx hb dJ7_fill_53178_6 rfl (lv_at hl 3 rfl) ?_
      refine lv_icmp_ge (tgt := 20) hx hb dJ7_fill_53178_7 (by decide) (fun c_84 => ?_) (fun c_84 => ?_)
      · have g_85 : gi v2 325 599 := gi_le_r c_84 gv3 gv2
        exact kr20 z0 _ _ _ hP hD hS (lv_sub hl [] rfl)
      · have g_86 : gi v2 0 324 := gi_lt_l (Int32.not_le.mp c_84) gv2 gv3 (by decide)
        refine lv_aload_n hx hb dJ7_fill_53178_10 rfl (lv_at hl 0 rfl) ?_
        refine lv_iload_n hx hb dJ7_fill_53178_11 rfl (lv_at hl 2 rfl) ?_
        refine lv_iload_n hx hb dJ7_fill_53178_12 rfl (lv_at hl 1 rfl) ?_
        refine va_iast hx hb hK hP hD hS 0 0 rfl rfl (gi_in g_86 (by decide)) dJ7_fill_53178_13 (fun H locs hP hD hS => ?_)
        have hP : va_P (dC, dI) vwCl [(a, .inl (ka, 325, .inl (upd z0 (v2 : Int32).toNatClampNeg p1)))] H := hP
        have hD : va_D A [(a, .inl (ka, 325, .inl (upd z0 (v2 : Int32).toNatClampNeg p1)))] := hD
        generalize upd z0 (v2 : Int32).toNatClampNeg p1 = f_87 at hP hD
        obtain ⟨x_88, ex_88⟩ : ∃ y : Int32, y = v2 + 1 := ⟨_, rfl⟩
        have gx_88 : gi x_88 1 325 := gi_add ex_88 g_86 (gi_c 1 1 (by decide)) (by decide)
        refine lv_iinc (v := x_88) (lv' := [(2, .int x_88), (0, .ref a), (1, .int p1), (3, .int v3)]) hx hb dJ7_fill_53178_14 hl (k := 2) rfl (by rw [ex_88]; rfl) (by decide) rfl (fun ls hl => ?_)
        refine lv_goto (tgt := 5) hx hb dJ7_fill_53178_17 (by decide) ?_
        exact ih x_88 v3 f_87 _ _ _ (gi_w gx_88 (by decide)) gv3 (by have av2 := gv2.1; have bv2 := gv2.2; have qgx_88 := gx_88.1; have rgx_88 := gx_88.2; have igx_88 : x_88.toInt = v2.toInt + 1 := (by have hc1 : (1 : Int32).toInt = 1 := (by decide); have h9 := gi_addI ex_88 (by have h1 := g_86.1; have h2 := (gi_c 1 1 (by decide)).1; have h3 := g_86.2; have h4 := (gi_c 1 1 (by decide)).2; omega) (by have h1 := g_86.1; have h2 := (gi_c 1 1 (by decide)).1; have h3 := g_86.2; have h4 := (gi_c 1 1 (by decide)).2; omega); rw [hc1] at h9; exact h9); have qgv2 := g_86.1; have rgv2 := g_86.2; omega) hP hD hS (lv_sub hl [1, 2, 0, 3] rfl)
abbrev pb_sJ7_fill325 (dC : Nat → ClassId) (dI : Nat → Nat → Nat) (A9 : Nat → Prop) (a : Nat) (ka : ClassId) (fa : Nat → Int32) (p1 : Int32) (z0 : Nat → Int32) (t : State) : Prop := va_P (dC, dI) vwCl [(a, .inl (ka, 325, .inl z0))] t.heap ∧ va_D A9 [(a, .inl (ka, 325, .inl z0))]
set_option maxHeartbeats 4000000 in
set_option maxRecDepth 100000 in
theorem sJ7_fill325 (l : Launch) (dC : Nat → ClassId) (dI : Nat → Nat → Nat) (sz : Nat) (a : Nat) (ka : ClassId) (fa : Nat → Int32) (p1 : Int32)  : Met l yJ7_fill_53178 (.code yJ7_fill_53178 cJ7_fill_53178 4 none :: wsGA) ({ frames := 0, cells := 0, slots := 0, locals := 0 }) (va_Pc [.ref a, .int p1] (fun U => U.heap.size = sz ∧ va_P (dC, dI) vwCl [(a, .inl (ka, 325, .inl fa))] U.heap ∧ va_K (dC, dI) vwCl [(ka, .int)] U ∧ va_D (fun _ => True) [(a, .inl (ka, 325, .inl fa))] ∧ nzA U)) (va_Qv (fun (u : Unit) => True) (fun _ t => ∃ (z0 : Nat → Int32), pb_sJ7_fill325 dC dI (va_A [(a, .inl (ka, 325, .inl fa))] sz) a ka fa p1 z0 t) (va_A [(a, .inl (ka, 325, .inl fa))] sz)) 0 0 (va_A [(a, .inl (ka, 325, .inl fa))] sz) := by
  refine Met.ofW (cc := cJ7_fill_53178) (maxL := 4) (ret := none) (by decide) rfl ?_
  intro p e s m args below meth c s₁ B hml hv
  obtain ⟨rfl, hsz, hP, hK, hD0, hz⟩ := hv
  have hx := B.exec
  have hb := B.bytes
  have hr := B.returns
  have hts := atoms_spec (ws := (.code yJ7_fill_53178 cJ7_fill_53178 4 none :: wsGA)) B.pre
  have hown : s.vm.findClass RJ7 = some m.cls := findClass_of_methodNamed B.named
  have hlocks := B.notSynchronized
  subst hsz
  have hD := hD0.self (sz := s.heap.size)
  generalize hAe : va_A [(a, .inl (ka, 325, .inl fa))] s.heap.size = A at hD ⊢
  have hA : ∀ q : Nat, s.heap.size ≤ q → A q := fun q h => by rw [← hAe]; exact Or.inr h
  have hS : va_S A s.heap s.heap [] := va_S.rf
  have hl := lv_entry ([.ref a, .int p1]) (n := 4) (Nat.le_of_ble_eq_true rfl)
  rw [lg_entry_eq]
  generalize (lg_sl ([.ref a, .int p1]) ++ List.replicate (4 - (lg_sl ([.ref a, .int p1])).length) Slot.unset).toArray = ls at hl ⊢
  have hl : lv_has ls 4 [(0, .ref a), (1, .int p1)] := hl
  refine lv_iconst (v := 0) hx hb dJ7_fill_53178_0 (by decide) ?_
  refine lv_istore_n (lv' := [(2, .int 0), (0, .ref a), (1, .int p1)]) hx hb dJ7_fill_53178_1 rfl hl (by decide) rfl (fun ls hl => ?_)
  refine lv_aload_n hx hb dJ7_fill_53178_2 rfl (lv_at hl 1 rfl) ?_
  refine va_alen (v := 325) hx hb hK hP 0 0 rfl rfl rfl dJ7_fill_53178_3 ?_
  refine lv_istore_n (lv' := [(3, .int 325), (2, .int 0), (0, .ref a), (1, .int p1)]) hx hb dJ7_fill_53178_4 rfl hl (by decide) rfl (fun ls hl => ?_)
  refine (lp_sJ7_fill325 a ka fa p1  hx hb hml hown hts hK hz hA (Nat.le_of_ble_eq_true rfl) (Nat.le_of_ble_eq_true rfl) (Nat.zero_le _) (Nat.zero_le _) (fun z0 H locs ls hP hD hS hl => ?_) 1212) 0 325 fa _ _ _ (gi_w (gi_c 0 0 (by decide)) (by decide)) (gi_c 325 325 (by decide)) (by have k0 : (0 : Int32).toInt = 0 := (by decide); omega) hP hD hS (lv_sub hl [2, 3, 1, 0] rfl)
  · skip
    exact W.vret hx hb hr (fun t ht hW => ⟨⟨(), rfl, trivial, z0, by rw [ht]; exact hP, hD⟩, hS.F ht⟩) hS.2.2 dJ7_fill_53178_20
set_option maxHeartbeats 4000000 in
set_option maxRecDepth 100000 in
theorem lp_sJ7_fill3575 {p : Program} {l : Launch} {e : Env} {R : Room} {s : State} {m : MethodId} {args : Array Value} {below : List Frame} {meth : Method} {c : Code} {Q : State → Prop} {A : Nat → Prop} {cells slots : Nat} {dC : Nat → ClassId} {dI : Nat → Nat → Nat} (a : Nat) (ka : ClassId) (fa : Nat → Int32) (p1 : Int32)  (hx : p.tables.exec = Jvm.exec) (hb : c.code = cJ7_fill_53178) (hml : c.maxLocals = 4) (hown : s.vm.findClass RJ7 = some m.cls) (hts : ∀ w ∈ ((.code yJ7_fill_53178 cJ7_fill_53178 4 none :: wsGA) : List Cond), w.before args s = true) (hK : va_K (dC, dI) vwCl [(ka, .int)] s) (hz : nzA s) (hA : ∀ q : Nat, s.heap.size ≤ q → A q) (hRf : 0 ≤ R.frames) (hRl : 0 ≤ R.locals) (hRc : cells ≤ R.cells) (hRs : slots ≤ R.slots) (kr20 : ∀ (z0 : Nat → Int32) (H : Heap) (locs : List Loc) (ls : Array Slot), va_P (dC, dI) vwCl [(a, .inl (ka, 3575, .inl z0))] H → va_D A [(a, .inl (ka, 3575, .inl z0))] → va_S A s.heap H locs → lv_has ls 4 [] → W p l e R s m args below meth c H locs cells slots Q (F0 m 20 ls [])) : ∀ z : Nat, (∀ (v2 : Int32) (v3 : Int32) (z0 : Nat → Int32) (H : Heap) (locs : List Loc) (ls : Array Slot), gi v2 0 3575 → gi v3 3575 3575 → 7151 + (-2) * v2.toInt < (z : Int) → va_P (dC, dI) vwCl [(a, .inl (ka, 3575, .inl z0))] H → va_D A [(a, .inl (ka, 3575, .inl z0))] → va_S A s.heap H locs → lv_has ls 4 [(0, .ref a), (1, .int p1), (2, .int v2), (3, .int v3)] → W p l e R s m args below meth c H locs cells slots Q (F0 m 5 ls [])) := by
  intro z
  induction z with
  | zero =>
    intro v2 v3 z0 H locs ls gv2 gv3 hmu hP hD hS hl
    exact absurd hmu (by have hv21 := gv2.1; have hv22 := gv2.2; omega)
  | succ z ih =>
      intro v2 v3 z0 H locs ls gv2 gv3 hmu hP hD hS hl
      refine lv_iload_n hx hb dJ7_fill_53178_5 rfl (lv_at hl 2 rfl) ?_
      refine lv_iload_n hx hb dJ7_fill_53178_6 rfl (lv_at hl 3 rfl) ?_
      refine lv_icmp_ge (tgt := 20) hx hb dJ7_fill_53178_7 (by decide) (fun c_111 => ?_) (fun c_111 => ?_)
      · have g_112 : gi v2 3575 3575 := gi_le_r c_111 gv3 gv2
        exact kr20 z0 _ _ _ hP hD hS (lv_sub hl [] rfl)
      · have g_113 : gi v2 0 3574 := gi_lt_l (Int32.not_le.mp c_111) gv2 gv3 (by decide)
        refine lv_aload_n hx hb dJ7_fill_53178_10 rfl (lv_at hl 0 rfl) ?_
        refine lv_iload_n hx hb dJ7_fill_53178_11 rfl (lv_at hl 2 rfl) ?_
        refine lv_iload_n hx hb dJ7_fill_53178_12 rfl (lv_at hl 1 rfl) ?_
        refine va_iast hx hb hK hP hD hS 0 0 rfl rfl (gi_in g_113 (by decide)) dJ7_fill_53178_13 (fun H locs hP hD hS => ?_)
        have hP : va_P (dC, dI) vwCl [(a, .inl (ka, 3575, .inl (upd z0 (v2 : Int32).toNatClampNeg p1)))] H := hP
        have hD : va_D A [(a, .inl (ka, 3575, .inl (upd z0 (v2 : Int32).toNatClampNeg p1)))] := hD
        generalize upd z0 (v2 : Int32).toNatClampNeg p1 = f_114 at hP hD
        obtain ⟨x_115, ex_115⟩ : ∃ y : Int32, y = v2 + 1 := ⟨_, rfl⟩
        have gx_115 : gi x_115 1 3575 := gi_add ex_115 g_113 (gi_c 1 1 (by decide)) (by decide)
        refine lv_iinc (v := x_115) (lv' := [(2, .int x_115), (0, .ref a), (1, .int p1), (3, .int v3)]) hx hb dJ7_fill_53178_14 hl (k := 2) rfl (by rw [ex_115]; rfl) (by decide) rfl (fun ls hl => ?_)
        refine lv_goto (tgt := 5) hx hb dJ7_fill_53178_17 (by decide) ?_
        exact ih x_115 v3 f_114 _ _ _ (gi_w gx_115 (by decide)) gv3 (by have av2 := gv2.1; have bv2 := gv2.2; have qgx_115 := gx_115.1; have rgx_115 := gx_115.2; have igx_115 : x_115.toInt = v2.toInt + 1 := (by have hc1 : (1 : Int32).toInt = 1 := (by decide); have h9 := gi_addI ex_115 (by have h1 := g_113.1; have h2 := (gi_c 1 1 (by decide)).1; have h3 := g_113.2; have h4 := (gi_c 1 1 (by decide)).2; omega) (by have h1 := g_113.1; have h2 := (gi_c 1 1 (by decide)).1; have h3 := g_113.2; have h4 := (gi_c 1 1 (by decide)).2; omega); rw [hc1] at h9; exact h9); have qgv2 := g_113.1; have rgv2 := g_113.2; omega) hP hD hS (lv_sub hl [1, 2, 0, 3] rfl)
abbrev pb_sJ7_fill3575 (dC : Nat → ClassId) (dI : Nat → Nat → Nat) (A9 : Nat → Prop) (a : Nat) (ka : ClassId) (fa : Nat → Int32) (p1 : Int32) (z0 : Nat → Int32) (t : State) : Prop := va_P (dC, dI) vwCl [(a, .inl (ka, 3575, .inl z0))] t.heap ∧ va_D A9 [(a, .inl (ka, 3575, .inl z0))]
set_option maxHeartbeats 4000000 in
set_option maxRecDepth 100000 in
theorem sJ7_fill3575 (l : Launch) (dC : Nat → ClassId) (dI : Nat → Nat → Nat) (sz : Nat) (a : Nat) (ka : ClassId) (fa : Nat → Int32) (p1 : Int32)  : Met l yJ7_fill_53178 (.code yJ7_fill_53178 cJ7_fill_53178 4 none :: wsGA) ({ frames := 0, cells := 0, slots := 0, locals := 0 }) (va_Pc [.ref a, .int p1] (fun U => U.heap.size = sz ∧ va_P (dC, dI) vwCl [(a, .inl (ka, 3575, .inl fa))] U.heap ∧ va_K (dC, dI) vwCl [(ka, .int)] U ∧ va_D (fun _ => True) [(a, .inl (ka, 3575, .inl fa))] ∧ nzA U)) (va_Qv (fun (u : Unit) => True) (fun _ t => ∃ (z0 : Nat → Int32), pb_sJ7_fill3575 dC dI (va_A [(a, .inl (ka, 3575, .inl fa))] sz) a ka fa p1 z0 t) (va_A [(a, .inl (ka, 3575, .inl fa))] sz)) 0 0 (va_A [(a, .inl (ka, 3575, .inl fa))] sz) := by
  refine Met.ofW (cc := cJ7_fill_53178) (maxL := 4) (ret := none) (by decide) rfl ?_
  intro p e s m args below meth c s₁ B hml hv
  obtain ⟨rfl, hsz, hP, hK, hD0, hz⟩ := hv
  have hx := B.exec
  have hb := B.bytes
  have hr := B.returns
  have hts := atoms_spec (ws := (.code yJ7_fill_53178 cJ7_fill_53178 4 none :: wsGA)) B.pre
  have hown : s.vm.findClass RJ7 = some m.cls := findClass_of_methodNamed B.named
  have hlocks := B.notSynchronized
  subst hsz
  have hD := hD0.self (sz := s.heap.size)
  generalize hAe : va_A [(a, .inl (ka, 3575, .inl fa))] s.heap.size = A at hD ⊢
  have hA : ∀ q : Nat, s.heap.size ≤ q → A q := fun q h => by rw [← hAe]; exact Or.inr h
  have hS : va_S A s.heap s.heap [] := va_S.rf
  have hl := lv_entry ([.ref a, .int p1]) (n := 4) (Nat.le_of_ble_eq_true rfl)
  rw [lg_entry_eq]
  generalize (lg_sl ([.ref a, .int p1]) ++ List.replicate (4 - (lg_sl ([.ref a, .int p1])).length) Slot.unset).toArray = ls at hl ⊢
  have hl : lv_has ls 4 [(0, .ref a), (1, .int p1)] := hl
  refine lv_iconst (v := 0) hx hb dJ7_fill_53178_0 (by decide) ?_
  refine lv_istore_n (lv' := [(2, .int 0), (0, .ref a), (1, .int p1)]) hx hb dJ7_fill_53178_1 rfl hl (by decide) rfl (fun ls hl => ?_)
  refine lv_aload_n hx hb dJ7_fill_53178_2 rfl (lv_at hl 1 rfl) ?_
  refine va_alen (v := 3575) hx hb hK hP 0 0 rfl rfl rfl dJ7_fill_53178_3 ?_
  refine lv_istore_n (lv' := [(3, .int 3575), (2, .int 0), (0, .ref a), (1, .int p1)]) hx hb dJ7_fill_53178_4 rfl hl (by decide) rfl (fun ls hl => ?_)
  refine (lp_sJ7_fill3575 a ka fa p1  hx hb hml hown hts hK hz hA (Nat.le_of_ble_eq_true rfl) (Nat.le_of_ble_eq_true rfl) (Nat.zero_le _) (Nat.zero_le _) (fun z0 H locs ls hP hD hS hl => ?_) 7164) 0 3575 fa _ _ _ (gi_w (gi_c 0 0 (by decide)) (by decide)) (gi_c 3575 3575 (by decide)) (by have k0 : (0 : Int32).toInt = 0 := (by decide); omega) hP hD hS (lv_sub hl [2, 3, 1, 0] rfl)
  · skip
    exact W.vret hx hb hr (fun t ht hW => ⟨⟨(), rfl, trivial, z0, by rw [ht]; exact hP, hD⟩, hS.F ht⟩) hS.2.2 dJ7_fill_53178_20
