theorem dX12_reports_0 : decode cX12_reports 0 = .ok (.aload_n 0, 1) := by decide +kernel
theorem dX12_reports_1 : decode cX12_reports 1 = .ok (.getfield 126, 3) := by decide +kernel
theorem dX12_reports_4 : decode cX12_reports 4 = .ok (.ifCond .eq 67, 3) := by decide +kernel
theorem dX12_reports_7 : decode cX12_reports 7 = .ok (.aload_n 0, 1) := by decide +kernel
theorem dX12_reports_8 : decode cX12_reports 8 = .ok (.iload_n 1, 1) := by decide +kernel
theorem dX12_reports_9 : decode cX12_reports 9 = .ok (.invokevirtual 294, 3) := by decide +kernel
theorem dX12_reports_12 : decode cX12_reports 12 = .ok (.ifCond .eq 59, 3) := by decide +kernel
theorem dX12_reports_15 : decode cX12_reports 15 = .ok (.iload_n 2, 1) := by decide +kernel
theorem dX12_reports_16 : decode cX12_reports 16 = .ok (.i2l, 1) := by decide +kernel
theorem dX12_reports_17 : decode cX12_reports 17 = .ok (.lconst 0, 1) := by decide +kernel
theorem dX12_reports_18 : decode cX12_reports 18 = .ok (.ldc2_w 298, 3) := by decide +kernel
theorem dX12_reports_21 : decode cX12_reports 21 = .ok (.invokestatic 102, 3) := by decide +kernel
theorem dX12_reports_24 : decode cX12_reports 24 = .ok (.ifCond .eq 47, 3) := by decide +kernel
theorem dX12_reports_27 : decode cX12_reports 27 = .ok (.iload_n 3, 1) := by decide +kernel
theorem dX12_reports_28 : decode cX12_reports 28 = .ok (.i2l, 1) := by decide +kernel
theorem dX12_reports_29 : decode cX12_reports 29 = .ok (.lconst 1, 1) := by decide +kernel
theorem dX12_reports_30 : decode cX12_reports 30 = .ok (.aload_n 0, 1) := by decide +kernel
theorem dX12_reports_31 : decode cX12_reports 31 = .ok (.getfield 117, 3) := by decide +kernel
theorem dX12_reports_34 : decode cX12_reports 34 = .ok (.iconst 1, 1) := by decide +kernel
theorem dX12_reports_35 : decode cX12_reports 35 = .ok (.isub, 1) := by decide +kernel
theorem dX12_reports_36 : decode cX12_reports 36 = .ok (.i2l, 1) := by decide +kernel
theorem dX12_reports_37 : decode cX12_reports 37 = .ok (.invokestatic 102, 3) := by decide +kernel
theorem dX12_reports_40 : decode cX12_reports 40 = .ok (.ifCond .eq 31, 3) := by decide +kernel
theorem dX12_reports_43 : decode cX12_reports 43 = .ok (.iload 4, 2) := by decide +kernel
theorem dX12_reports_45 : decode cX12_reports 45 = .ok (.i2l, 1) := by decide +kernel
theorem dX12_reports_46 : decode cX12_reports 46 = .ok (.lconst 0, 1) := by decide +kernel
theorem dX12_reports_47 : decode cX12_reports 47 = .ok (.ldc2_w 292, 3) := by decide +kernel
theorem dX12_reports_50 : decode cX12_reports 50 = .ok (.invokestatic 102, 3) := by decide +kernel
theorem dX12_reports_53 : decode cX12_reports 53 = .ok (.ifCond .eq 18, 3) := by decide +kernel
theorem dX12_reports_56 : decode cX12_reports 56 = .ok (.iload 5, 2) := by decide +kernel
theorem dX12_reports_58 : decode cX12_reports 58 = .ok (.i2l, 1) := by decide +kernel
theorem dX12_reports_59 : decode cX12_reports 59 = .ok (.iload 4, 2) := by decide +kernel
theorem dX12_reports_61 : decode cX12_reports 61 = .ok (.i2l, 1) := by decide +kernel
theorem dX12_reports_62 : decode cX12_reports 62 = .ok (.ldc2_w 292, 3) := by decide +kernel
theorem dX12_reports_65 : decode cX12_reports 65 = .ok (.invokestatic 102, 3) := by decide +kernel
theorem dX12_reports_68 : decode cX12_reports 68 = .ok (.ifCond .ne 6, 3) := by decide +kernel
theorem dX12_reports_71 : decode cX12_reports 71 = .ok (.bipush (-2), 2) := by decide +kernel
theorem dX12_reports_73 : decode cX12_reports 73 = .ok (.ireturn, 1) := by decide +kernel
theorem dX12_reports_74 : decode cX12_reports 74 = .ok (.aload_n 0, 1) := by decide +kernel
theorem dX12_reports_75 : decode cX12_reports 75 = .ok (.getfield 141, 3) := by decide +kernel
theorem dX12_reports_78 : decode cX12_reports 78 = .ok (.bipush 24, 2) := by decide +kernel
theorem dX12_reports_80 : decode cX12_reports 80 = .ok (.if_icmp .ne 6, 3) := by decide +kernel
theorem dX12_reports_83 : decode cX12_reports 83 = .ok (.bipush (-5), 2) := by decide +kernel
theorem dX12_reports_85 : decode cX12_reports 85 = .ok (.ireturn, 1) := by decide +kernel
theorem dX12_reports_86 : decode cX12_reports 86 = .ok (.aload_n 0, 1) := by decide +kernel
theorem dX12_reports_87 : decode cX12_reports 87 = .ok (.iload_n 1, 1) := by decide +kernel
theorem dX12_reports_88 : decode cX12_reports 88 = .ok (.iload_n 2, 1) := by decide +kernel
theorem dX12_reports_89 : decode cX12_reports 89 = .ok (.iload_n 3, 1) := by decide +kernel
theorem dX12_reports_90 : decode cX12_reports 90 = .ok (.iload 4, 2) := by decide +kernel
theorem dX12_reports_92 : decode cX12_reports 92 = .ok (.iload 5, 2) := by decide +kernel
theorem dX12_reports_94 : decode cX12_reports 94 = .ok (.invokevirtual 236, 3) := by decide +kernel
theorem dX12_reports_97 : decode cX12_reports 97 = .ok (.aload_n 0, 1) := by decide +kernel
theorem dX12_reports_98 : decode cX12_reports 98 = .ok (.getfield 141, 3) := by decide +kernel
theorem dX12_reports_101 : decode cX12_reports 101 = .ok (.iconst 1, 1) := by decide +kernel
theorem dX12_reports_102 : decode cX12_reports 102 = .ok (.isub, 1) := by decide +kernel
theorem dX12_reports_103 : decode cX12_reports 103 = .ok (.ireturn, 1) := by decide +kernel
set_option maxHeartbeats 4000000 in
set_option maxRecDepth 100000 in
theorem sX12_reports (l : Launch) (dC : Nat → ClassId) (dI : Nat → Nat → Nat) (sz : Nat) (h0 : Nat) (mi : Nat → Int32) (mr : Nat → Nat) (km_reportPlace : ClassId) (fm_reportPlace : Nat → Int32) (km_reportKind : ClassId) (fm_reportKind : Nat → Int32) (km_reportMonth : ClassId) (fm_reportMonth : Nat → Int32) (km_reportDay : ClassId) (fm_reportDay : Nat → Int32) (km_reportKnown : ClassId) (fm_reportKnown : Nat → Int32) (km_struck : ClassId) (fm_struck : Nat → Int32) (p1 : Int32) (p2 : Int32) (p3 : Int32) (p4 : Int32) (p5 : Int32) (gmi_0 : gi (mi 0) 0 24) (gmi_1 : gi (mi 1) 0 5) (gmi_2 : gi (mi 2) 0 5) (gmi_4 : gi (mi 4) 0 1) (gmi_7 : gi (mi 7) 0 6) (gmi_10 : gi (mi 10) 0 24) (gmi_17 : gi (mi 17) 0 8) (gmi_23 : gi (mi 23) 0 300) (gmi_24 : gi (mi 24) 0 1) (gmi_26 : gi (mi 26) 0 1600) (gmi_29 : gi (mi 29) 0 1600) (gmi_30 : gi (mi 30) 0 1600) (gmi_33 : gi (mi 33) 0 1) (gmi_37 : gi (mi 37) 0 1) (gmi_41 : gi (mi 41) 0 24) (gmi_50 : gi (mi 50) 0 1) (gmi_51 : gi (mi 51) 0 1) (gmi_56 : gi (mi 56) 0 80) (gfm_reportPlace : ga fm_reportPlace 24 0 5) (gfm_reportMonth : ga fm_reportMonth 24 0 23) (gfm_reportDay : ga fm_reportDay 24 0 999) (gfm_reportKnown : ga fm_reportKnown 24 0 999) (gfm_struck : ga fm_struck 24 0 1) : Met l yX12_reports (.code yX12_reports cX12_reports 6 (some .int) :: wsGB) ({ frames := 2, cells := 0, slots := 0, locals := 46 }) (va_Pc [.ref h0, .int p1, .int p2, .int p3, .int p4, .int p5] (fun U => U.heap.size = sz ∧ va_P (dC, dI) vwCl [(h0, .inr (12, fsMM mi mr)), ((mr 2), .inl (km_reportPlace, 24, .inl fm_reportPlace)), ((mr 3), .inl (km_reportKind, 24, .inl fm_reportKind)), ((mr 5), .inl (km_reportMonth, 24, .inl fm_reportMonth)), ((mr 6), .inl (km_reportDay, 24, .inl fm_reportDay)), ((mr 7), .inl (km_reportKnown, 24, .inl fm_reportKnown)), ((mr 4), .inl (km_struck, 24, .inl fm_struck))] U.heap ∧ va_K (dC, dI) vwCl [(km_reportPlace, .int), (km_reportKind, .int), (km_reportMonth, .int), (km_reportDay, .int), (km_reportKnown, .int), (km_struck, .boolean)] U ∧ va_D (fun _ => True) [(h0, .inr (12, fsMM mi mr)), ((mr 2), .inl (km_reportPlace, 24, .inl fm_reportPlace)), ((mr 3), .inl (km_reportKind, 24, .inl fm_reportKind)), ((mr 5), .inl (km_reportMonth, 24, .inl fm_reportMonth)), ((mr 6), .inl (km_reportDay, 24, .inl fm_reportDay)), ((mr 7), .inl (km_reportKnown, 24, .inl fm_reportKnown)), ((mr 4), .inl (km_struck, 24, .inl fm_struck))])) (va_Qi (fun (r : Int32) (u : Unit) => gi r (-5) 23) (fun _ t => ∃ (w0_10 : Int32) (z1 : Nat → Int32) (z2 : Nat → Int32) (z3 : Nat → Int32) (z4 : Nat → Int32) (z5 : Nat → Int32) (z6 : Nat → Int32), gi w0_10 0 24 ∧ ga z1 24 0 5 ∧ ga z3 24 0 23 ∧ ga z4 24 0 999 ∧ ga z5 24 0 999 ∧ ga z6 24 0 1 ∧ va_P (dC, dI) vwCl [(h0, .inr (12, fsMM (upd mi 10 w0_10) mr)), ((mr 2), .inl (km_reportPlace, 24, .inl z1)), ((mr 3), .inl (km_reportKind, 24, .inl z2)), ((mr 5), .inl (km_reportMonth, 24, .inl z3)), ((mr 6), .inl (km_reportDay, 24, .inl z4)), ((mr 7), .inl (km_reportKnown, 24, .inl z5)), ((mr 4), .inl (km_struck, 24, .inl z6))] t.heap ∧ va_D (va_A [(h0, .inr (12, fsMM mi mr)), ((mr 2), .inl (km_reportPlace, 24, .inl fm_reportPlace)), ((mr 3), .inl (km_reportKind, 24, .inl fm_reportKind)), ((mr 5), .inl (km_reportMonth, 24, .inl fm_reportMonth)), ((mr 6), .inl (km_reportDay, 24, .inl fm_reportDay)), ((mr 7), .inl (km_reportKnown, 24, .inl fm_reportKnown)), ((mr 4), .inl (km_struck, 24, .inl fm_struck))] sz) [(h0, .inr (12, fsMM (upd mi 10 w0_10) mr)), ((mr 2), .inl (km_reportPlace, 24, .inl z1)), ((mr 3), .inl (km_reportKind, 24, .inl z2)), ((mr 5), .inl (km_reportMonth, 24, .inl z3)), ((mr 6), .inl (km_reportDay, 24, .inl z4)), ((mr 7), .inl (km_reportKnown, 24, .inl z5)), ((mr 4), .inl (km_struck, 24, .inl z6))]) (va_A [(h0, .inr (12, fsMM mi mr)), ((mr 2), .inl (km_reportPlace, 24, .inl fm_reportPlace)), ((mr 3), .inl (km_reportKind, 24, .inl fm_reportKind)), ((mr 5), .inl (km_reportMonth, 24, .inl fm_reportMonth)), ((mr 6), .inl (km_reportDay, 24, .inl fm_reportDay)), ((mr 7), .inl (km_reportKnown, 24, .inl fm_reportKnown)), ((mr 4), .inl (km_struck, 24, .inl fm_struck))] sz)) 0 0 (va_A [(h0, .inr (12, fsMM mi mr)), ((mr 2), .inl (km_reportPlace, 24, .inl fm_reportPlace)), ((mr 3), .inl (km_reportKind, 24, .inl fm_reportKind)), ((mr 5), .inl (km_reportMonth, 24, .inl fm_reportMonth)), ((mr 6), .inl (km_reportDay, 24, .inl fm_reportDay)), ((mr 7), .inl (km_reportKnown, 24, .inl fm_reportKnown)), ((mr 4), .inl (km_struck, 24, .inl fm_struck))] sz) := by
  refine Met.ofW (cc := cX12_reports) (maxL := 6) (ret := (some .int)) (by decide) rfl ?_
  intro p e s m args below meth c s₁ B hml hv
  obtain ⟨rfl, hsz, hP, hK, hD0⟩ := hv
  have hx := B.exec
  have hb := B.bytes
  have hr := B.returns
  have hts := atoms_spec (ws := (.code yX12_reports cX12_reports 6 (some .int) :: wsGB)) B.pre
  have hown : s.vm.findClass RX12 = some m.cls := findClass_of_methodNamed B.named
  have hlocks := B.notSynchronized
  subst hsz
  have hD := hD0.self (sz := s.heap.size)
  generalize hAe : va_A [(h0, .inr (12, fsMM mi mr)), ((mr 2), .inl (km_reportPlace, 24, .inl fm_reportPlace)), ((mr 3), .inl (km_reportKind, 24, .inl fm_reportKind)), ((mr 5), .inl (km_reportMonth, 24, .inl fm_reportMonth)), ((mr 6), .inl (km_reportDay, 24, .inl fm_reportDay)), ((mr 7), .inl (km_reportKnown, 24, .inl fm_reportKnown)), ((mr 4), .inl (km_struck, 24, .inl fm_struck))] s.heap.size = A at hD ⊢
  have hA : ∀ q : Nat, s.heap.size ≤ q → A q := fun q h => by rw [← hAe]; exact Or.inr h
  have hS : va_S A s.heap s.heap [] := va_S.rf
  have hl := lv_entry ([.ref h0, .int p1, .int p2, .int p3, .int p4, .int p5]) (n := 6) (Nat.le_of_ble_eq_true rfl)
  rw [lg_entry_eq]
  generalize (lg_sl ([.ref h0, .int p1, .int p2, .int p3, .int p4, .int p5]) ++ List.replicate (6 - (lg_sl ([.ref h0, .int p1, .int p2, .int p3, .int p4, .int p5])).length) Slot.unset).toArray = ls at hl ⊢
  have hl : lv_has ls 6 [(0, .ref h0), (1, .int p1), (2, .int p2), (3, .int p3), (4, .int p4), (5, .int p5)] := hl
  refine lv_aload_n hx hb dX12_reports_0 rfl (lv_at hl 0 rfl) ?_
  refine va_get (D := (dC, dI)) (ci := 12) (v := .int (mi 3)) (C := RX12) (T := TX12) (N := 57) hx hb hts (fun w h => List.mem_cons_of_mem _ (jnGB_X12 w h)) hown hK hP 0 rfl rfl 3 (by decide) (hts _ (List.mem_cons_of_mem _ mGB_106)) (fun _ h9 => h9) rfl dX12_reports_1 ?_
  refine lv_if_eq (tgt := 71) hx hb dX12_reports_4 (by decide) (fun c_93 => ?_) (fun c_93 => ?_)
  · have g_94 : gi (mi 3) 0 0 := gi_eq c_93 (gi_c 0 0 (by decide))
    refine lv_bipush (v := (-2)) hx hb dX12_reports_71 (by decide) ?_
    exact W.iret (v := (-2)) hx hb hr (fun t ht hW => ⟨⟨(-2), (), rfl, (gi_w (gi_c (-2) (-2) (by decide)) (by decide)), (mi 10), fm_reportPlace, fm_reportKind, fm_reportMonth, fm_reportDay, fm_reportKnown, fm_struck, gmi_10, gfm_reportPlace, gfm_reportMonth, gfm_reportDay, gfm_reportKnown, gfm_struck, by rw [ht]; exact hP, hD⟩, hS.F ht⟩) hS.2.2 dX12_reports_73
  · refine lv_aload_n hx hb dX12_reports_7 rfl (lv_at hl 0 rfl) ?_
    refine lv_iload_n hx hb dX12_reports_8 rfl (lv_at hl 1 rfl) ?_
    have hPc := hP.sub (ws' := [(h0, .inr (12, fsMM mi mr))]) [0] rfl
    have hKc := hK.sub (tys' := []) [] rfl
    refine va_calli (va_runV (As := [.int p1]) (rest := []) ⟨hx, hb, hml, hown, hts⟩ (sX12_isPlace l dC dI h0 mi mr p1 gmi_0 gmi_1 gmi_2 gmi_4 gmi_7 gmi_10 gmi_17 gmi_23 gmi_24 gmi_26 gmi_29 gmi_30 gmi_33 gmi_37 gmi_41 gmi_50 gmi_51 gmi_56) (cwV 1 hts (gz_gV mGB_224 mGB_225 mGB_226 mGB_1 mGB_227 goodGB) rfl rfl rfl (by decide +kernel) ⟨Nat.le_of_ble_eq_true rfl, Nat.le_of_ble_eq_true rfl⟩) ⟨fun a U g mk q => by obtain ⟨q0, qP, qK⟩ := q; exact ⟨q0, qP, va_K.moved (u := U) (U := U.calling g mk a) (Vm.Alike.refl U.vm) qK⟩, va_recv hKc hPc (ci := 12) (q0 := 0) rfl rfl, fun U hU hW => ⟨rfl, by rw [hU]; exact hPc, va_K.moved hW.alike hKc⟩⟩ rfl rfl hl.1 rfl (lv_room (Nat.le_of_ble_eq_true rfl)) dX12_reports_9 ⟨Nat.zero_le _, Nat.zero_le _⟩) hS (fun q _ h => h.elim) (fun q h => h.elim) (fun r_95 u t H1 locs ht hvm hw hB hz1 hk1 hS => ?_)
    have hP := gz_keep hP hk1
    generalize H1 = H at hP hS ⊢
    have gr_95 : gi r_95 0 1 := hw.1
    have hqr_95 := hw.2
    refine lv_if_eq (tgt := 71) hx hb dX12_reports_12 (by decide) (fun c_96 => ?_) (fun c_96 => ?_)
    · have g_97 : gi r_95 0 0 := gi_eq c_96 (gi_c 0 0 (by decide))
      refine lv_bipush (v := (-2)) hx hb dX12_reports_71 (by decide) ?_
      exact W.iret (v := (-2)) hx hb hr (fun t ht hW => ⟨⟨(-2), (), rfl, (gi_w (gi_c (-2) (-2) (by decide)) (by decide)), (mi 10), fm_reportPlace, fm_reportKind, fm_reportMonth, fm_reportDay, fm_reportKnown, fm_struck, gmi_10, gfm_reportPlace, gfm_reportMonth, gfm_reportDay, gfm_reportKnown, gfm_struck, by rw [ht]; exact hP, hD⟩, hS.F ht⟩) hS.2.2 dX12_reports_73
    · have g_98 : gi r_95 1 1 := gi_ne_lo c_96 gr_95 (gi_c 0 0 (by decide)) (by decide)
      have g_99 : gi p1 0 5 := gi_cap (gi_any p1) (hqr_95 (gz_one g_98)) (by decide)
      refine lv_iload_n hx hb dX12_reports_15 rfl (lv_at hl 2 rfl) ?_
      refine lv_i2l (v := (p2).toInt64) hx hb dX12_reports_16 rfl ?_
      refine lv_topl (fun l_100 el_100 => ?_)
      refine lv_lconst (v := 0) hx hb dX12_reports_17 (by decide) ?_
      refine lv_ldc2 (own := RX12) (v := 2) hx hb hown (hts _ (List.mem_cons_of_mem _ mGB_223)) dX12_reports_18 ?_
      have hPc := hP.sub (ws' := []) [] rfl
      have hKc := hK.sub (tys' := []) [] rfl
      refine va_calli (va_runS (As := [.long l_100, .long 0, .long 2]) (rest := []) ⟨hx, hb, hml, hown, hts⟩ (sX12_in l dC dI l_100 0 2) (cwS 3 hts (gz_gS mGB_47 mGB_48 mGB_1 mGB_49 goodGB) rfl rfl rfl (by decide +kernel) ⟨Nat.le_of_ble_eq_true rfl, Nat.le_of_ble_eq_true rfl⟩) ⟨fun a U g mk q => by obtain ⟨q0, qP, qK⟩ := q; exact ⟨q0, qP, va_K.moved (u := U) (U := U.calling g mk a) (Vm.Alike.refl U.vm) qK⟩, fun U hU hW => ⟨rfl, by rw [hU]; exact hPc, va_K.moved hW.alike hKc⟩⟩ rfl rfl hl.1 rfl (lv_room (Nat.le_of_ble_eq_true rfl)) dX12_reports_21 ⟨Nat.zero_le _, Nat.zero_le _⟩) hS (fun q _ h => h.elim) (fun q h => h.elim) (fun r_101 u t H1 locs ht hvm hw hB hz1 hk1 hS => ?_)
      have hP := gz_keep hP hk1
      generalize H1 = H at hP hS ⊢
      have gr_101 : gi r_101 0 1 := hw.1
      have hqr_101 := hw.2
      refine lv_if_eq (tgt := 71) hx hb dX12_reports_24 (by decide) (fun c_102 => ?_) (fun c_102 => ?_)
      · have g_103 : gi r_101 0 0 := gi_eq c_102 (gi_c 0 0 (by decide))
        refine lv_bipush (v := (-2)) hx hb dX12_reports_71 (by decide) ?_
        exact W.iret (v := (-2)) hx hb hr (fun t ht hW => ⟨⟨(-2), (), rfl, (gi_w (gi_c (-2) (-2) (by decide)) (by decide)), (mi 10), fm_reportPlace, fm_reportKind, fm_reportMonth, fm_reportDay, fm_reportKnown, fm_struck, gmi_10, gfm_reportPlace, gfm_reportMonth, gfm_reportDay, gfm_reportKnown, gfm_struck, by rw [ht]; exact hP, hD⟩, hS.F ht⟩) hS.2.2 dX12_reports_73
      · have g_104 : gi r_101 1 1 := gi_ne_lo c_102 gr_101 (gi_c 0 0 (by decide)) (by decide)
        have g_105 : gi p2 0 2 := gi_cap (gi_any p2) (gz_inr (hqr_101.1 (gz_one g_104)) el_100 (A := 0) (B := 2) (by decide) (by decide)) (by decide)
        refine lv_iload_n hx hb dX12_reports_27 rfl (lv_at hl 3 rfl) ?_
        refine lv_i2l (v := (p3).toInt64) hx hb dX12_reports_28 rfl ?_
        refine lv_topl (fun l_106 el_106 => ?_)
        refine lv_lconst (v := 1) hx hb dX12_reports_29 (by decide) ?_
        refine lv_aload_n hx hb dX12_reports_30 rfl (lv_at hl 0 rfl) ?_
        refine va_get (D := (dC, dI)) (ci := 12) (v := .int (mi 0)) (C := RX12) (T := TX12) (N := 57) hx hb hts (fun w h => List.mem_cons_of_mem _ (jnGB_X12 w h)) hown hK hP 0 rfl rfl 0 (by decide) (hts _ (List.mem_cons_of_mem _ mGB_103)) (fun _ h9 => h9) rfl dX12_reports_31 ?_
        refine lv_iconst (v := 1) hx hb dX12_reports_34 (by decide) ?_
        refine lv_isub hx hb dX12_reports_35 ?_
        refine lv_topi (fun x_107 ex_107 => ?_)
        have gx_107 : gi x_107 (-1) 23 := gi_sub ex_107 gmi_0 (gi_c 1 1 (by decide)) (by decide)
        refine lv_i2l (v := (x_107).toInt64) hx hb dX12_reports_36 rfl ?_
        refine lv_topl (fun l_108 el_108 => ?_)
        have hPc := hP.sub (ws' := []) [] rfl
        have hKc := hK.sub (tys' := []) [] rfl
        refine va_calli (va_runS (As := [.long l_106, .long 1, .long l_108]) (rest := []) ⟨hx, hb, hml, hown, hts⟩ (sX12_in l dC dI l_106 1 l_108) (cwS 3 hts (gz_gS mGB_47 mGB_48 mGB_1 mGB_49 goodGB) rfl rfl rfl (by decide +kernel) ⟨Nat.le_of_ble_eq_true rfl, Nat.le_of_ble_eq_true rfl⟩) ⟨fun a U g mk q => by obtain ⟨q0, qP, qK⟩ := q; exact ⟨q0, qP, va_K.moved (u := U) (U := U.calling g mk a) (Vm.Alike.refl U.vm) qK⟩, fun U hU hW => ⟨rfl, by rw [hU]; exact hPc, va_K.moved hW.alike hKc⟩⟩ rfl rfl hl.1 rfl (lv_room (Nat.le_of_ble_eq_true rfl)) dX12_reports_37 ⟨Nat.zero_le _, Nat.zero_le _⟩) hS (fun q _ h => h.elim) (fun q h => h.elim) (fun r_109 u t H1 locs ht hvm hw hB hz1 hk1 hS => ?_)
        have hP := gz_keep hP hk1
        generalize H1 = H at hP hS ⊢
        have gr_109 : gi r_109 0 1 := hw.1
        have hqr_109 := hw.2
        refine lv_if_eq (tgt := 71) hx hb dX12_reports_40 (by decide) (fun c_110 => ?_) (fun c_110 => ?_)
        · have g_111 : gi r_109 0 0 := gi_eq c_110 (gi_c 0 0 (by decide))
          refine lv_bipush (v := (-2)) hx hb dX12_reports_71 (by decide) ?_
          exact W.iret (v := (-2)) hx hb hr (fun t ht hW => ⟨⟨(-2), (), rfl, (gi_w (gi_c (-2) (-2) (by decide)) (by decide)), (mi 10), fm_reportPlace, fm_reportKind, fm_reportMonth, fm_reportDay, fm_reportKnown, fm_struck, gmi_10, gfm_reportPlace, gfm_reportMonth, gfm_reportDay, gfm_reportKnown, gfm_struck, by rw [ht]; exact hP, hD⟩, hS.F ht⟩) hS.2.2 dX12_reports_73
        · have g_112 : gi r_109 1 1 := gi_ne_lo c_110 gr_109 (gi_c 0 0 (by decide)) (by decide)
          have g_113 : gi p3 1 23 := gi_cap (gi_any p3) (gz_inr (hqr_109.1 (gz_one g_112)) el_106 (A := 1) (B := 23) (by decide) (gz_l2u el_108 gx_107)) (by decide)
          refine lv_iload hx hb dX12_reports_43 (lv_at hl 4 rfl) ?_
          refine lv_i2l (v := (p4).toInt64) hx hb dX12_reports_45 rfl ?_
          refine lv_topl (fun l_114 el_114 => ?_)
          refine lv_lconst (v := 0) hx hb dX12_reports_46 (by decide) ?_
          refine lv_ldc2 (own := RX12) (v := 999) hx hb hown (hts _ (List.mem_cons_of_mem _ mGB_260)) dX12_reports_47 ?_
          have hPc := hP.sub (ws' := []) [] rfl
          have hKc := hK.sub (tys' := []) [] rfl
          refine va_calli (va_runS (As := [.long l_114, .long 0, .long 999]) (rest := []) ⟨hx, hb, hml, hown, hts⟩ (sX12_in l dC dI l_114 0 999) (cwS 3 hts (gz_gS mGB_47 mGB_48 mGB_1 mGB_49 goodGB) rfl rfl rfl (by decide +kernel) ⟨Nat.le_of_ble_eq_true rfl, Nat.le_of_ble_eq_true rfl⟩) ⟨fun a U g mk q => by obtain ⟨q0, qP, qK⟩ := q; exact ⟨q0, qP, va_K.moved (u := U) (U := U.calling g mk a) (Vm.Alike.refl U.vm) qK⟩, fun U hU hW => ⟨rfl, by rw [hU]; exact hPc, va_K.moved hW.alike hKc⟩⟩ rfl rfl hl.1 rfl (lv_room (Nat.le_of_ble_eq_true rfl)) dX12_reports_50 ⟨Nat.zero_le _, Nat.zero_le _⟩) hS (fun q _ h => h.elim) (fun q h => h.elim) (fun r_115 u t H1 locs ht hvm hw hB hz1 hk1 hS => ?_)
          have hP := gz_keep hP hk1
          generalize H1 = H at hP hS ⊢
          have gr_115 : gi r_115 0 1 := hw.1
          have hqr_115 := hw.2
          refine lv_if_eq (tgt := 71) hx hb dX12_reports_53 (by decide) (fun c_116 => ?_) (fun c_116 => ?_)
          · have g_117 : gi r_115 0 0 := gi_eq c_116 (gi_c 0 0 (by decide))
            refine lv_bipush (v := (-2)) hx hb dX12_reports_71 (by decide) ?_
            exact W.iret (v := (-2)) hx hb hr (fun t ht hW => ⟨⟨(-2), (), rfl, (gi_w (gi_c (-2) (-2) (by decide)) (by decide)), (mi 10), fm_reportPlace, fm_reportKind, fm_reportMonth, fm_reportDay, fm_reportKnown, fm_struck, gmi_10, gfm_reportPlace, gfm_reportMonth, gfm_reportDay, gfm_reportKnown, gfm_struck, by rw [ht]; exact hP, hD⟩, hS.F ht⟩) hS.2.2 dX12_reports_73
          · have g_118 : gi r_115 1 1 := gi_ne_lo c_116 gr_115 (gi_c 0 0 (by decide)) (by decide)
            have g_119 : gi p4 0 999 := gi_cap (gi_any p4) (gz_inr (hqr_115.1 (gz_one g_118)) el_114 (A := 0) (B := 999) (by decide) (by decide)) (by decide)
            refine lv_iload hx hb dX12_reports_56 (lv_at hl 5 rfl) ?_
            refine lv_i2l (v := (p5).toInt64) hx hb dX12_reports_58 rfl ?_
            refine lv_topl (fun l_120 el_120 => ?_)
            refine lv_iload hx hb dX12_reports_59 (lv_at hl 4 rfl) ?_
            refine lv_i2l (v := (p4).toInt64) hx hb dX12_reports_61 rfl ?_
            refine lv_topl (fun l_121 el_121 => ?_)
            refine lv_ldc2 (own := RX12) (v := 999) hx hb hown (hts _ (List.mem_cons_of_mem _ mGB_260)) dX12_reports_62 ?_
            have hPc := hP.sub (ws' := []) [] rfl
            have hKc := hK.sub (tys' := []) [] rfl
            refine va_calli (va_runS (As := [.long l_120, .long l_121, .long 999]) (rest := []) ⟨hx, hb, hml, hown, hts⟩ (sX12_in l dC dI l_120 l_121 999) (cwS 3 hts (gz_gS mGB_47 mGB_48 mGB_1 mGB_49 goodGB) rfl rfl rfl (by decide +kernel) ⟨Nat.le_of_ble_eq_true rfl, Nat.le_of_ble_eq_true rfl⟩) ⟨fun a U g mk q => by obtain ⟨q0, qP, qK⟩ := q; exact ⟨q0, qP, va_K.moved (u := U) (U := U.calling g mk a) (Vm.Alike.refl U.vm) qK⟩, fun U hU hW => ⟨rfl, by rw [hU]; exact hPc, va_K.moved hW.alike hKc⟩⟩ rfl rfl hl.1 rfl (lv_room (Nat.le_of_ble_eq_true rfl)) dX12_reports_65 ⟨Nat.zero_le _, Nat.zero_le _⟩) hS (fun q _ h => h.elim) (fun q h => h.elim) (fun r_122 u t H1 locs ht hvm hw hB hz1 hk1 hS => ?_)
            have hP := gz_keep hP hk1
            generalize H1 = H at hP hS ⊢
            have gr_122 : gi r_122 0 1 := hw.1
            have hqr_122 := hw.2
            refine lv_if_ne (tgt := 74) hx hb dX12_reports_68 (by decide) (fun c_123 => ?_) (fun c_123 => ?_)
            · have g_124 : gi r_122 1 1 := gi_ne_lo c_123 gr_122 (gi_c 0 0 (by decide)) (by decide)
              have g_125 : gi p5 0 999 := gi_cap (gi_any p5) (gz_inr (hqr_122.1 (gz_one g_124)) el_120 (A := 0) (B := 999) (gz_l2l el_121 g_119) (by decide)) (by decide)
              refine lv_aload_n hx hb dX12_reports_74 rfl (lv_at hl 0 rfl) ?_
              refine va_get (D := (dC, dI)) (ci := 12) (v := .int (mi 10)) (C := RX12) (T := TX12) (N := 57) hx hb hts (fun w h => List.mem_cons_of_mem _ (jnGB_X12 w h)) hown hK hP 0 rfl rfl 10 (by decide) (hts _ (List.mem_cons_of_mem _ mGB_111)) (fun _ h9 => h9) rfl dX12_reports_75 ?_
              refine lv_bipush (v := 24) hx hb dX12_reports_78 (by decide) ?_
              refine lv_icmp_ne (tgt := 86) hx hb dX12_reports_80 (by decide) (fun c_126 => ?_) (fun c_126 => ?_)
              · have g_127 : gi (mi 10) 0 23 := gi_ne_hi c_126 gmi_10 (gi_c 24 24 (by decide)) (by decide)
                refine lv_aload_n hx hb dX12_reports_86 rfl (lv_at hl 0 rfl) ?_
                refine lv_iload_n hx hb dX12_reports_87 rfl (lv_at hl 1 rfl) ?_
                refine lv_iload_n hx hb dX12_reports_88 rfl (lv_at hl 2 rfl) ?_
                refine lv_iload_n hx hb dX12_reports_89 rfl (lv_at hl 3 rfl) ?_
                refine lv_iload hx hb dX12_reports_90 (lv_at hl 4 rfl) ?_
                refine lv_iload hx hb dX12_reports_92 (lv_at hl 5 rfl) ?_
                have hPc := hP.sub (ws' := [(h0, .inr (12, fsMM mi mr)), ((mr 2), .inl (km_reportPlace, 24, .inl fm_reportPlace)), ((mr 3), .inl (km_reportKind, 24, .inl fm_reportKind)), ((mr 5), .inl (km_reportMonth, 24, .inl fm_reportMonth)), ((mr 6), .inl (km_reportDay, 24, .inl fm_reportDay)), ((mr 7), .inl (km_reportKnown, 24, .inl fm_reportKnown)), ((mr 4), .inl (km_struck, 24, .inl fm_struck))]) [0, 1, 2, 3, 4, 5, 6] rfl
                have hKc := hK.sub (tys' := [(km_reportPlace, .int), (km_reportKind, .int), (km_reportMonth, .int), (km_reportDay, .int), (km_reportKnown, .int), (km_struck, .boolean)]) [0, 1, 2, 3, 4, 5] rfl
                have hDc := hD.sub (ws' := [(h0, .inr (12, fsMM mi mr)), ((mr 2), .inl (km_reportPlace, 24, .inl fm_reportPlace)), ((mr 3), .inl (km_reportKind, 24, .inl fm_reportKind)), ((mr 5), .inl (km_reportMonth, 24, .inl fm_reportMonth)), ((mr 6), .inl (km_reportDay, 24, .inl fm_reportDay)), ((mr 7), .inl (km_reportKnown, 24, .inl fm_reportKnown)), ((mr 4), .inl (km_struck, 24, .inl fm_struck))]) [0, 1, 2, 3, 4, 5, 6] (by decide) rfl
                have hFc := va_free (wc := [(h0, .inr (12, fsMM mi mr)), ((mr 2), .inl (km_reportPlace, 24, .inl fm_reportPlace)), ((mr 3), .inl (km_reportKind, 24, .inl fm_reportKind)), ((mr 5), .inl (km_reportMonth, 24, .inl fm_reportMonth)), ((mr 6), .inl (km_reportDay, 24, .inl fm_reportDay)), ((mr 7), .inl (km_reportKnown, 24, .inl fm_reportKnown)), ((mr 4), .inl (km_struck, 24, .inl fm_struck))]) hD hS hA [0, 1, 2, 3, 4, 5, 6] rfl
                refine va_callv (va_runV (As := [.int p1, .int p2, .int p3, .int p4, .int p5]) (rest := []) ⟨hx, hb, hml, hown, hts⟩ (sX12_lays l dC dI H.size h0 mi mr km_reportPlace fm_reportPlace km_reportKind fm_reportKind km_reportMonth fm_reportMonth km_reportDay fm_reportDay km_reportKnown fm_reportKnown km_struck fm_struck p1 p2 p3 p4 p5 gmi_0 gmi_1 gmi_2 gmi_4 gmi_7 g_127 gmi_17 gmi_23 gmi_24 gmi_26 gmi_29 gmi_30 gmi_33 gmi_37 gmi_41 gmi_50 gmi_51 gmi_56 gfm_reportPlace gfm_reportMonth gfm_reportDay gfm_reportKnown gfm_struck g_99 (gi_w g_113 (by decide)) g_119 g_125) (cwV 5 hts (gz_gV mGB_205 mGB_206 mGB_207 mGB_1 mGB_208 goodGB) rfl rfl rfl (by decide +kernel) ⟨Nat.le_of_ble_eq_true rfl, Nat.le_of_ble_eq_true rfl⟩) ⟨fun a U g mk q => by obtain ⟨q0, q1, qP, qK, qD⟩ := q; exact ⟨q0, q1, qP, va_K.moved (u := U) (U := U.calling g mk a) (Vm.Alike.refl U.vm) qK, qD⟩, va_recv hKc hPc (ci := 12) (q0 := 0) rfl rfl, fun U hU hW => ⟨rfl, by rw [hU], by rw [hU]; exact hPc, va_K.moved hW.alike hKc, hDc.weaken (fun _ _ _ _ => trivial)⟩⟩ rfl rfl hl.1 rfl (lv_room (Nat.le_of_ble_eq_true rfl)) dX12_reports_94 ⟨Nat.zero_le _, Nat.zero_le _⟩) hS (fun q _ h => hFc q h) hFc (fun u t H1 locs ht hvm hw hB hz1 hk1 hS => ?_)
                obtain ⟨y_129, f_130, f_131, f_132, f_133, f_134, f_135, gy_129, gf_130, gf_132, gf_133, gf_134, gf_135, hP1, hD1⟩ := hB
                rw [ht] at hP1
                obtain ⟨hP, hD⟩ := va_join (wr := []) (w1 := [(h0, .inr (12, fsMM (upd mi 10 y_129) mr)), ((mr 2), .inl (km_reportPlace, 24, .inl f_130)), ((mr 3), .inl (km_reportKind, 24, .inl f_131)), ((mr 5), .inl (km_reportMonth, 24, .inl f_132)), ((mr 6), .inl (km_reportDay, 24, .inl f_133)), ((mr 7), .inl (km_reportKnown, 24, .inl f_134)), ((mr 4), .inl (km_struck, 24, .inl f_135))]) hP hD [0, 1, 2, 3, 4, 5, 6] [] rfl rfl (by decide) (by decide) hk1 hFc hP1 hD1
                have hP := hP.sub (ws' := [(h0, .inr (12, fsMM (upd mi 10 y_129) mr)), ((mr 2), .inl (km_reportPlace, 24, .inl f_130)), ((mr 3), .inl (km_reportKind, 24, .inl f_131)), ((mr 5), .inl (km_reportMonth, 24, .inl f_132)), ((mr 6), .inl (km_reportDay, 24, .inl f_133)), ((mr 7), .inl (km_reportKnown, 24, .inl f_134)), ((mr 4), .inl (km_struck, 24, .inl f_135))]) [0, 1, 2, 3, 4, 5, 6] rfl
                have hD := hD.sub (ws' := [(h0, .inr (12, fsMM (upd mi 10 y_129) mr)), ((mr 2), .inl (km_reportPlace, 24, .inl f_130)), ((mr 3), .inl (km_reportKind, 24, .inl f_131)), ((mr 5), .inl (km_reportMonth, 24, .inl f_132)), ((mr 6), .inl (km_reportDay, 24, .inl f_133)), ((mr 7), .inl (km_reportKnown, 24, .inl f_134)), ((mr 4), .inl (km_struck, 24, .inl f_135))]) [0, 1, 2, 3, 4, 5, 6] (by decide) rfl
                generalize H1 = H at hP hS ⊢
                refine lv_aload_n hx hb dX12_reports_97 rfl (lv_at hl 0 rfl) ?_
                refine va_get (D := (dC, dI)) (ci := 12) (v := .int y_129) (C := RX12) (T := TX12) (N := 57) hx hb hts (fun w h => List.mem_cons_of_mem _ (jnGB_X12 w h)) hown hK hP 0 rfl rfl 10 (by decide) (hts _ (List.mem_cons_of_mem _ mGB_111)) (fun _ h9 => h9) rfl dX12_reports_98 ?_
                refine lv_iconst (v := 1) hx hb dX12_reports_101 (by decide) ?_
                refine lv_isub hx hb dX12_reports_102 ?_
                refine lv_topi (fun x_136 ex_136 => ?_)
                have gx_136 : gi x_136 (-1) 23 := gi_sub ex_136 gy_129 (gi_c 1 1 (by decide)) (by decide)
                exact W.iret (v := x_136) hx hb hr (fun t ht hW => ⟨⟨x_136, (), rfl, (gi_w gx_136 (by decide)), y_129, f_130, f_131, f_132, f_133, f_134, f_135, gy_129, gf_130, gf_132, gf_133, gf_134, gf_135, by rw [ht]; exact hP, hD⟩, hS.F ht⟩) hS.2.2 dX12_reports_103
              · have g_137 : gi (mi 10) 24 24 := gi_eq c_126 (gi_c 24 24 (by decide))
                refine lv_bipush (v := (-5)) hx hb dX12_reports_83 (by decide) ?_
                exact W.iret (v := (-5)) hx hb hr (fun t ht hW => ⟨⟨(-5), (), rfl, (gi_w (gi_c (-5) (-5) (by decide)) (by decide)), (mi 10), fm_reportPlace, fm_reportKind, fm_reportMonth, fm_reportDay, fm_reportKnown, fm_struck, (gi_w g_137 (by decide)), gfm_reportPlace, gfm_reportMonth, gfm_reportDay, gfm_reportKnown, gfm_struck, by rw [ht]; exact hP, hD⟩, hS.F ht⟩) hS.2.2 dX12_reports_85
            · have g_138 : gi r_122 0 0 := gi_eq c_123 (gi_c 0 0 (by decide))
              refine lv_bipush (v := (-2)) hx hb dX12_reports_71 (by decide) ?_
              exact W.iret (v := (-2)) hx hb hr (fun t ht hW => ⟨⟨(-2), (), rfl, (gi_w (gi_c (-2) (-2) (by decide)) (by decide)), (mi 10), fm_reportPlace, fm_reportKind, fm_reportMonth, fm_reportDay, fm_reportKnown, fm_struck, gmi_10, gfm_reportPlace, gfm_reportMonth, gfm_reportDay, gfm_reportKnown, gfm_struck, by rw [ht]; exact hP, hD⟩, hS.F ht⟩) hS.2.2 dX12_reports_73
