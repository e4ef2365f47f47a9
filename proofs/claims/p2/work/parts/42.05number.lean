theorem dX12_number_0 : decode cX12_number 0 = .ok (.aload_n 0, 1) := by decide +kernel
theorem dX12_number_1 : decode cX12_number 1 = .ok (.getfield 161, 3) := by decide +kernel
theorem dX12_number_4 : decode cX12_number 4 = .ok (.istore_n 3, 1) := by decide +kernel
theorem dX12_number_5 : decode cX12_number 5 = .ok (.aload_n 0, 1) := by decide +kernel
theorem dX12_number_6 : decode cX12_number 6 = .ok (.getfield 174, 3) := by decide +kernel
theorem dX12_number_9 : decode cX12_number 9 = .ok (.ifCond .eq 5, 3) := by decide +kernel
theorem dX12_number_12 : decode cX12_number 12 = .ok (.iload_n 1, 1) := by decide +kernel
theorem dX12_number_13 : decode cX12_number 13 = .ok (.ireturn, 1) := by decide +kernel
theorem dX12_number_14 : decode cX12_number 14 = .ok (.aload_n 0, 1) := by decide +kernel
theorem dX12_number_15 : decode cX12_number 15 = .ok (.getfield 164, 3) := by decide +kernel
theorem dX12_number_18 : decode cX12_number 18 = .ok (.iconst 2, 1) := by decide +kernel
theorem dX12_number_19 : decode cX12_number 19 = .ok (.if_icmp .eq 11, 3) := by decide +kernel
theorem dX12_number_22 : decode cX12_number 22 = .ok (.aload_n 0, 1) := by decide +kernel
theorem dX12_number_23 : decode cX12_number 23 = .ok (.iconst 1, 1) := by decide +kernel
theorem dX12_number_24 : decode cX12_number 24 = .ok (.invokevirtual 194, 3) := by decide +kernel
theorem dX12_number_27 : decode cX12_number 27 = .ok (.goto 20, 3) := by decide +kernel
theorem dX12_number_30 : decode cX12_number 30 = .ok (.iload_n 3, 1) := by decide +kernel
theorem dX12_number_31 : decode cX12_number 31 = .ok (.i2l, 1) := by decide +kernel
theorem dX12_number_32 : decode cX12_number 32 = .ok (.iload_n 1, 1) := by decide +kernel
theorem dX12_number_33 : decode cX12_number 33 = .ok (.i2l, 1) := by decide +kernel
theorem dX12_number_34 : decode cX12_number 34 = .ok (.iload_n 2, 1) := by decide +kernel
theorem dX12_number_35 : decode cX12_number 35 = .ok (.i2l, 1) := by decide +kernel
theorem dX12_number_36 : decode cX12_number 36 = .ok (.invokestatic 102, 3) := by decide +kernel
theorem dX12_number_39 : decode cX12_number 39 = .ok (.ifCond .ne 8, 3) := by decide +kernel
theorem dX12_number_42 : decode cX12_number 42 = .ok (.aload_n 0, 1) := by decide +kernel
theorem dX12_number_43 : decode cX12_number 43 = .ok (.iconst 2, 1) := by decide +kernel
theorem dX12_number_44 : decode cX12_number 44 = .ok (.invokevirtual 194, 3) := by decide +kernel
theorem dX12_number_47 : decode cX12_number 47 = .ok (.aload_n 0, 1) := by decide +kernel
theorem dX12_number_48 : decode cX12_number 48 = .ok (.iconst 1, 1) := by decide +kernel
theorem dX12_number_49 : decode cX12_number 49 = .ok (.invokevirtual 205, 3) := by decide +kernel
theorem dX12_number_52 : decode cX12_number 52 = .ok (.iload_n 3, 1) := by decide +kernel
theorem dX12_number_53 : decode cX12_number 53 = .ok (.ireturn, 1) := by decide +kernel
set_option maxHeartbeats 4000000 in
set_option maxRecDepth 100000 in
theorem sX12_numberP (l : Launch) (dC : Nat → ClassId) (dI : Nat → Nat → Nat) (sz : Nat) (h0 : Nat) (mi : Nat → Int32) (mr : Nat → Nat) (km_tape : ClassId) (fm_tape : Nat → Int32) (p1 : Int32) (p2 : Int32) (gmi_0 : gi (mi 0) 0 100000) (gmi_1 : gi (mi 1) 0 100000) (gmi_2 : gi (mi 2) 0 100000) (gmi_4 : gi (mi 4) 0 1) (gmi_7 : gi (mi 7) 0 6) (gmi_10 : gi (mi 10) 0 24) (gmi_17 : gi (mi 17) 0 8) (gmi_23 : gi (mi 23) 0 300) (gmi_24 : gi (mi 24) 0 1) (gmi_26 : gi (mi 26) 0 1600) (gmi_29 : gi (mi 29) 0 1600) (gmi_30 : gi (mi 30) 0 1600) (gmi_32 : gi (mi 32) 0 100000) (gmi_33 : gi (mi 33) 0 1) (gmi_37 : gi (mi 37) 0 1) (gmi_41 : gi (mi 41) 0 24) (gmi_50 : gi (mi 50) 0 1) (gmi_51 : gi (mi 51) 0 1) (gmi_56 : gi (mi 56) 0 80) (gp1 : gi p1 0 100000) (hpq0 : (mi 30).toInt ≤ (mi 29).toInt) (hpq1 : (mi 29).toInt ≤ (mi 26).toInt) (hpq2 : ((mi 31).toInt = 0 ∨ (mi 30).toInt < (mi 29).toInt)) : Met l yX12_number (.code yX12_number cX12_number 4 (some .int) :: wsGB) ({ frames := 4, cells := 0, slots := 0, locals := 88 }) (va_Pc [.ref h0, .int p1, .int p2] (fun U => U.heap.size = sz ∧ va_P (dC, dI) vwCl [(h0, .inr (12, fsMM mi mr)), ((mr 13), .inl (km_tape, 1600, .inl fm_tape))] U.heap ∧ va_K (dC, dI) vwCl [(km_tape, .int)] U ∧ va_D (fun _ => True) [(h0, .inr (12, fsMM mi mr)), ((mr 13), .inl (km_tape, 1600, .inl fm_tape))])) (va_Qi (fun (r : Int32) (u : Int32) => r = u ∧ gi r 0 100000) (fun r t => ∃ (w0_27 : Int32) (w0_28 : Int32) (w0_29 : Int32) (w0_30 : Int32) (w0_31 : Int32) (w0_32 : Int32) (w0_33 : Int32), gi w0_29 0 1600 ∧ gi w0_30 0 1600 ∧ gi w0_32 0 100000 ∧ gi w0_33 0 1 ∧ (mi 30).toInt ≤ w0_30.toInt ∧ w0_30.toInt ≤ w0_29.toInt ∧ w0_29.toInt ≤ (mi 26).toInt ∧ (w0_31.toInt = 0 ∨ w0_30.toInt < w0_29.toInt) ∧ (mi 33).toInt ≤ w0_33.toInt ∧ (w0_33.toInt = 1 ∨ (p1.toInt ≤ r.toInt ∧ r.toInt ≤ p2.toInt)) ∧ va_P (dC, dI) vwCl [(h0, .inr (12, fsMM (upd (upd (upd (upd (upd (upd (upd mi 27 w0_27) 28 w0_28) 29 w0_29) 30 w0_30) 31 w0_31) 32 w0_32) 33 w0_33) mr)), ((mr 13), .inl (km_tape, 1600, .inl fm_tape))] t.heap ∧ va_D (va_A [(h0, .inr (12, fsMM mi mr)), ((mr 13), .inl (km_tape, 1600, .inl fm_tape))] sz) [(h0, .inr (12, fsMM (upd (upd (upd (upd (upd (upd (upd mi 27 w0_27) 28 w0_28) 29 w0_29) 30 w0_30) 31 w0_31) 32 w0_32) 33 w0_33) mr)), ((mr 13), .inl (km_tape, 1600, .inl fm_tape))]) (va_A [(h0, .inr (12, fsMM mi mr)), ((mr 13), .inl (km_tape, 1600, .inl fm_tape))] sz)) 0 0 (va_A [(h0, .inr (12, fsMM mi mr)), ((mr 13), .inl (km_tape, 1600, .inl fm_tape))] sz) := by
  refine Met.ofW (cc := cX12_number) (maxL := 4) (ret := (some .int)) (by decide) rfl ?_
  intro p e s m args below meth c s₁ B hml hv
  obtain ⟨rfl, hsz, hP, hK, hD0⟩ := hv
  have hx := B.exec
  have hb := B.bytes
  have hr := B.returns
  have hts := atoms_spec (ws := (.code yX12_number cX12_number 4 (some .int) :: wsGB)) B.pre
  have hown : s.vm.findClass RX12 = some m.cls := findClass_of_methodNamed B.named
  have hlocks := B.notSynchronized
  subst hsz
  have hD := hD0.self (sz := s.heap.size)
  generalize hAe : va_A [(h0, .inr (12, fsMM mi mr)), ((mr 13), .inl (km_tape, 1600, .inl fm_tape))] s.heap.size = A at hD ⊢
  have hA : ∀ q : Nat, s.heap.size ≤ q → A q := fun q h => by rw [← hAe]; exact Or.inr h
  have hS : va_S A s.heap s.heap [] := va_S.rf
  have hl := lv_entry ([.ref h0, .int p1, .int p2]) (n := 4) (Nat.le_of_ble_eq_true rfl)
  rw [lg_entry_eq]
  generalize (lg_sl ([.ref h0, .int p1, .int p2]) ++ List.replicate (4 - (lg_sl ([.ref h0, .int p1, .int p2])).length) Slot.unset).toArray = ls at hl ⊢
  have hl : lv_has ls 4 [(0, .ref h0), (1, .int p1), (2, .int p2)] := hl
  refine lv_aload_n hx hb dX12_number_0 rfl (lv_at hl 0 rfl) ?_
  refine va_get (D := (dC, dI)) (ci := 12) (v := .int (mi 32)) (C := RX12) (T := TX12) (N := 57) hx hb hts (fun w h => List.mem_cons_of_mem _ (jnGB_X12 w h)) hown hK hP 0 rfl rfl 32 (by decide) (hts _ (List.mem_cons_of_mem _ mGB_136)) (fun _ h9 => h9) rfl dX12_number_1 ?_
  refine lv_istore_n (lv' := [(3, .int (mi 32)), (0, .ref h0), (1, .int p1), (2, .int p2)]) hx hb dX12_number_4 rfl hl (by decide) rfl (fun ls hl => ?_)
  refine lv_aload_n hx hb dX12_number_5 rfl (lv_at hl 1 rfl) ?_
  refine va_get (D := (dC, dI)) (ci := 12) (v := .int (mi 33)) (C := RX12) (T := TX12) (N := 57) hx hb hts (fun w h => List.mem_cons_of_mem _ (jnGB_X12 w h)) hown hK hP 0 rfl rfl 33 (by decide) (hts _ (List.mem_cons_of_mem _ mGB_114)) (fun _ h9 => h9) rfl dX12_number_6 ?_
  refine lv_if_eq (tgt := 14) hx hb dX12_number_9 (by decide) (fun c_113 => ?_) (fun c_113 => ?_)
  · have hc_114 : (mi 33).toInt = 0 := by have h9 := congrArg Int32.toInt c_113; rw [show (0 : Int32).toInt = 0 from by decide] at h9; exact h9
    have g_115 : gi (mi 33) 0 0 := gi_eq c_113 (gi_c 0 0 (by decide))
    refine lv_aload_n hx hb dX12_number_14 rfl (lv_at hl 1 rfl) ?_
    refine va_get (D := (dC, dI)) (ci := 12) (v := .int (mi 31)) (C := RX12) (T := TX12) (N := 57) hx hb hts (fun w h => List.mem_cons_of_mem _ (jnGB_X12 w h)) hown hK hP 0 rfl rfl 31 (by decide) (hts _ (List.mem_cons_of_mem _ mGB_116)) (fun _ h9 => h9) rfl dX12_number_15 ?_
    refine lv_iconst (v := 2) hx hb dX12_number_18 (by decide) ?_
    refine lv_icmp_eq (tgt := 30) hx hb dX12_number_19 (by decide) (fun c_116 => ?_) (fun c_116 => ?_)
    · have hc_117 : (mi 31).toInt = 2 := by have h9 := congrArg Int32.toInt c_116; rw [show (2 : Int32).toInt = 2 from by decide] at h9; exact h9
      have g_118 : gi (mi 31) 2 2 := gi_eq c_116 (gi_c 2 2 (by decide))
      refine lv_iload_n hx hb dX12_number_30 rfl (lv_at hl 0 rfl) ?_
      refine lv_i2l (v := ((mi 32)).toInt64) hx hb dX12_number_31 rfl ?_
      refine lv_topl (fun l_119 el_119 => ?_)
      refine lv_iload_n hx hb dX12_number_32 rfl (lv_at hl 2 rfl) ?_
      refine lv_i2l (v := (p1).toInt64) hx hb dX12_number_33 rfl ?_
      refine lv_topl (fun l_120 el_120 => ?_)
      refine lv_iload_n hx hb dX12_number_34 rfl (lv_at hl 3 rfl) ?_
      refine lv_i2l (v := (p2).toInt64) hx hb dX12_number_35 rfl ?_
      refine lv_topl (fun l_121 el_121 => ?_)
      have hPc := hP.sub (ws' := []) [] rfl
      have hKc := hK.sub (tys' := []) [] rfl
      refine va_calli (va_runS (As := [.long l_119, .long l_120, .long l_121]) (rest := []) ⟨hx, hb, hml, hown, hts⟩ (sX12_in l dC dI l_119 l_120 l_121) (cwS 3 hts (gz_gS mGB_47 mGB_48 mGB_1 mGB_49 goodGB) rfl rfl rfl (by decide +kernel) ⟨Nat.le_of_ble_eq_true rfl, Nat.le_of_ble_eq_true rfl⟩) ⟨fun a U g mk q => by obtain ⟨q0, qP, qK⟩ := q; exact ⟨q0, qP, va_K.moved (u := U) (U := U.calling g mk a) (Vm.Alike.refl U.vm) qK⟩, fun U hU hW => ⟨rfl, by rw [hU]; exact hPc, va_K.moved hW.alike hKc⟩⟩ rfl rfl hl.1 rfl (lv_room (Nat.le_of_ble_eq_true rfl)) dX12_number_36 ⟨Nat.zero_le _, Nat.zero_le _⟩) hS (fun q _ h => h.elim) (fun q h => h.elim) (fun r_122 u t H1 locs ht hvm hw hB hz1 hk1 hS => ?_)
      have hP := gz_keep hP hk1
      generalize H1 = H at hP hS ⊢
      have gr_122 : gi r_122 0 1 := hw.1
      have hqr_122 := hw.2
      refine lv_if_ne (tgt := 47) hx hb dX12_number_39 (by decide) (fun c_123 => ?_) (fun c_123 => ?_)
      · have hc_124 : r_122.toInt ≠ 0 := fun h9 => c_123 (Int32.toInt_inj.mp (by rw [show (0 : Int32).toInt = 0 from by decide]; exact h9))
        have g_125 : gi r_122 1 1 := gi_ne_lo c_123 gr_122 (gi_c 0 0 (by decide)) (by decide)
        have hin_126 := gz_inT (A := p1.toInt) (B := p2.toInt) (hqr_122.1 (gz_one g_125)) el_119 (gz_l2e el_120) (gz_l2e el_121)
        refine lv_aload_n hx hb dX12_number_47 rfl (lv_at hl 1 rfl) ?_
        refine lv_iconst (v := 1) hx hb dX12_number_48 (by decide) ?_
        have hPc := hP.sub (ws' := [(h0, .inr (12, fsMM mi mr)), ((mr 13), .inl (km_tape, 1600, .inl fm_tape))]) [0, 1] rfl
        have hKc := hK.sub (tys' := [(km_tape, .int)]) [0] rfl
        have hDc := hD.sub (ws' := [(h0, .inr (12, fsMM mi mr)), ((mr 13), .inl (km_tape, 1600, .inl fm_tape))]) [0, 1] (by decide) rfl
        have hFc := va_free (wc := [(h0, .inr (12, fsMM mi mr)), ((mr 13), .inl (km_tape, 1600, .inl fm_tape))]) hD hS hA [0, 1] rfl
        refine va_callv (va_runV (As := [.int 1]) (rest := []) ⟨hx, hb, hml, hown, hts⟩ (sX12_passesP l dC dI H.size h0 mi mr km_tape fm_tape 1 gmi_0 gmi_1 gmi_2 gmi_4 gmi_7 gmi_10 gmi_17 gmi_23 gmi_24 gmi_26 gmi_29 gmi_30 gmi_32 (gi_w g_115 (by decide)) gmi_37 gmi_41 gmi_50 gmi_51 gmi_56 (gi_w (gi_c 1 1 (by decide)) (by decide)) (show (mi 30).toInt ≤ (mi 29).toInt from by have qgr_122 := g_125.1; have rgr_122 := g_125.2; have qgmi_33 := g_115.1; have rgmi_33 := g_115.2; have qgmi_31 := g_118.1; have rgmi_31 := g_118.2; have qgmi_30 := gmi_30.1; have rgmi_30 := gmi_30.2; have qgmi_29 := gmi_29.1; have rgmi_29 := gmi_29.2; have qgmi_26 := gmi_26.1; have rgmi_26 := gmi_26.2; omega) (show (mi 29).toInt ≤ (mi 26).toInt from by have qgr_122 := g_125.1; have rgr_122 := g_125.2; have qgmi_33 := g_115.1; have rgmi_33 := g_115.2; have qgmi_31 := g_118.1; have rgmi_31 := g_118.2; have qgmi_30 := gmi_30.1; have rgmi_30 := gmi_30.2; have qgmi_29 := gmi_29.1; have rgmi_29 := gmi_29.2; have qgmi_26 := gmi_26.1; have rgmi_26 := gmi_26.2; omega) (show ((mi 31).toInt = 0 ∨ (mi 30).toInt < (mi 29).toInt) from by have qgr_122 := g_125.1; have rgr_122 := g_125.2; have qgmi_33 := g_115.1; have rgmi_33 := g_115.2; have qgmi_31 := g_118.1; have rgmi_31 := g_118.2; have qgmi_30 := gmi_30.1; have rgmi_30 := gmi_30.2; have qgmi_29 := gmi_29.1; have rgmi_29 := gmi_29.2; have qgmi_26 := gmi_26.1; have rgmi_26 := gmi_26.2; omega)) (cwV 1 hts (gz_gV mGB_161 mGB_162 mGB_163 mGB_1 mGB_164 goodGB) rfl rfl rfl (by decide +kernel) ⟨Nat.le_of_ble_eq_true rfl, Nat.le_of_ble_eq_true rfl⟩) ⟨fun a U g mk q => by obtain ⟨q0, q1, qP, qK, qD⟩ := q; exact ⟨q0, q1, qP, va_K.moved (u := U) (U := U.calling g mk a) (Vm.Alike.refl U.vm) qK, qD⟩, va_recv hKc hPc (ci := 12) (q0 := 0) rfl rfl, fun U hU hW => ⟨rfl, by rw [hU], by rw [hU]; exact hPc, va_K.moved hW.alike hKc, hDc.weaken (fun _ _ _ _ => trivial)⟩⟩ rfl rfl hl.1 rfl (lv_room (Nat.le_of_ble_eq_true rfl)) dX12_number_49 ⟨Nat.zero_le _, Nat.zero_le _⟩) hS (fun q _ h => hFc q h) hFc (fun u t H1 locs ht hvm hw hB hz1 hk1 hS => ?_)
        obtain ⟨y_128, y_129, y_130, y_131, y_132, y_133, y_134, gy_130, gy_131, gy_133, gy_134, hpr0_r_127, hpr1_r_127, hpr2_r_127, hpr3_r_127, hpr4_r_127, hpr5_r_127, hpr6_r_127, hP1, hD1⟩ := hB
        rw [ht] at hP1
        obtain ⟨hP, hD⟩ := va_join (wr := []) (w1 := [(h0, .inr (12, fsMM (upd (upd (upd (upd (upd (upd (upd mi 27 y_128) 28 y_129) 29 y_130) 30 y_131) 31 y_132) 32 y_133) 33 y_134) mr)), ((mr 13), .inl (km_tape, 1600, .inl fm_tape))]) hP hD [0, 1] [] rfl rfl (by decide) (by decide) hk1 hFc hP1 hD1
        have hpr0_r_127 : (mi 30).toInt ≤ y_131.toInt := hpr0_r_127
        have hpr1_r_127 : y_131.toInt ≤ y_130.toInt := hpr1_r_127
        have hpr2_r_127 : y_130.toInt ≤ (mi 26).toInt := hpr2_r_127
        have hpr3_r_127 : Hid ((y_132.toInt = 0 ∨ y_131.toInt < y_130.toInt)) := hpr3_r_127
        have hpr4_r_127 : (mi 33).toInt ≤ y_134.toInt := hpr4_r_127
        have hpr5_r_127 : Hid (((1 : Int) = 1 ∨ y_134.toInt = 1)) := by have h9 : ((1 : Int32).toInt = 1 ∨ y_134.toInt = 1) := hpr5_r_127; rw [show (1 : Int32).toInt = 1 from by decide] at h9; exact h9
        have hpr6_r_127 : Hid ((y_134.toInt = 1 ∨ (mi 29).toInt ≤ y_131.toInt)) := hpr6_r_127
        have hP := hP.sub (ws' := [(h0, .inr (12, fsMM (upd (upd (upd (upd (upd (upd (upd mi 27 y_128) 28 y_129) 29 y_130) 30 y_131) 31 y_132) 32 y_133) 33 y_134) mr)), ((mr 13), .inl (km_tape, 1600, .inl fm_tape))]) [0, 1] rfl
        have hD := hD.sub (ws' := [(h0, .inr (12, fsMM (upd (upd (upd (upd (upd (upd (upd mi 27 y_128) 28 y_129) 29 y_130) 30 y_131) 31 y_132) 32 y_133) 33 y_134) mr)), ((mr 13), .inl (km_tape, 1600, .inl fm_tape))]) [0, 1] (by decide) rfl
        generalize H1 = H at hP hS ⊢
        refine lv_iload_n hx hb dX12_number_52 rfl (lv_at hl 0 rfl) ?_
        exact W.iret (v := (mi 32)) hx hb hr (fun t ht hW => ⟨⟨(mi 32), (mi 32), rfl, ⟨rfl, gmi_32⟩, y_128, y_129, y_130, y_131, y_132, y_133, y_134, gy_130, gy_131, gy_133, gy_134, hpr0_r_127, hpr1_r_127, hpr2_r_127, (Hid.un hpr3_r_127), hpr4_r_127, (show (y_134.toInt = 1 ∨ (p1.toInt ≤ (mi 32).toInt ∧ (mi 32).toInt ≤ p2.toInt)) from by by_cases h9 : y_134.toInt = 1; exact Or.inl h9; refine Or.inr ?_; have lgmi_33 := g_115.1; have mgmi_33 := g_115.2; have lgy_134 := gy_134.1; have mgy_134 := gy_134.2; have f0 := Hid.resL hpr6_r_127 (by omega); have qgy_134 := gy_134.1; have rgy_134 := gy_134.2; have qgy_131 := gy_131.1; have rgy_131 := gy_131.2; have qgy_130 := gy_130.1; have rgy_130 := gy_130.2; have qgr_122 := g_125.1; have rgr_122 := g_125.2; have qgp1 := gp1.1; have rgp1 := gp1.2; have qgmi_33 := g_115.1; have rgmi_33 := g_115.2; have qgmi_32 := gmi_32.1; have rgmi_32 := gmi_32.2; have qgmi_31 := g_118.1; have rgmi_31 := g_118.2; have qgmi_30 := gmi_30.1; have rgmi_30 := gmi_30.2; have qgmi_29 := gmi_29.1; have rgmi_29 := gmi_29.2; have qgmi_26 := gmi_26.1; have rgmi_26 := gmi_26.2; omega), by rw [ht]; exact hP, hD⟩, hS.F ht⟩) hS.2.2 dX12_number_53
      · have hc_135 : r_122.toInt = 0 := by have h9 := congrArg Int32.toInt c_123; rw [show (0 : Int32).toInt = 0 from by decide] at h9; exact h9
        have g_136 : gi r_122 0 0 := gi_eq c_123 (gi_c 0 0 (by decide))
        have hno_137 := gz_inF (A := p1.toInt) (B := p2.toInt) (hqr_122.2 (gz_zero1 g_136)) el_119 (gz_l2e el_120) (gz_l2e el_121)
        refine lv_aload_n hx hb dX12_number_42 rfl (lv_at hl 1 rfl) ?_
        refine lv_iconst (v := 2) hx hb dX12_number_43 (by decide) ?_
        have hPc := hP.sub (ws' := [(h0, .inr (12, fsMM mi mr))]) [0] rfl
        have hKc := hK.sub (tys' := []) [] rfl
        have hDc := hD.sub (ws' := [(h0, .inr (12, fsMM mi mr))]) [0] (by decide) rfl
        have hFc := va_free (wc := [(h0, .inr (12, fsMM mi mr))]) hD hS hA [0] rfl
        refine va_callv (va_runV (As := [.int 2]) (rest := []) ⟨hx, hb, hml, hown, hts⟩ (sX12_faultsP l dC dI H.size h0 mi mr 2 gmi_0 gmi_1 gmi_2 gmi_4 gmi_7 gmi_10 gmi_17 gmi_23 gmi_24 gmi_26 gmi_29 gmi_30 gmi_32 (gi_w g_115 (by decide)) gmi_37 gmi_41 gmi_50 gmi_51 gmi_56) (cwV 1 hts (gz_gV mGB_165 mGB_166 mGB_167 mGB_1 mGB_168 goodGB) rfl rfl rfl (by decide +kernel) ⟨Nat.le_of_ble_eq_true rfl, Nat.le_of_ble_eq_true rfl⟩) ⟨fun a U g mk q => by obtain ⟨q0, q1, qP, qK, qD⟩ := q; exact ⟨q0, q1, qP, va_K.moved (u := U) (U := U.calling g mk a) (Vm.Alike.refl U.vm) qK, qD⟩, va_recv hKc hPc (ci := 12) (q0 := 0) rfl rfl, fun U hU hW => ⟨rfl, by rw [hU], by rw [hU]; exact hPc, va_K.moved hW.alike hKc, hDc.weaken (fun _ _ _ _ => trivial)⟩⟩ rfl rfl hl.1 rfl (lv_room (Nat.le_of_ble_eq_true rfl)) dX12_number_44 ⟨Nat.zero_le _, Nat.zero_le _⟩) hS (fun q _ h => hFc q h) hFc (fun u t H1 locs ht hvm hw hB hz1 hk1 hS => ?_)
        obtain ⟨y_139, y_140, y_141, gy_141, hpr0_r_138, hP1, hD1⟩ := hB
        rw [ht] at hP1
        obtain ⟨hP, hD⟩ := va_join (wr := [((mr 13), .inl (km_tape, 1600, .inl fm_tape))]) (w1 := [(h0, .inr (12, fsMM (upd (upd (upd mi 27 y_139) 28 y_140) 33 y_141) mr))]) hP hD [0] [1] rfl rfl (by decide) (by decide) hk1 hFc hP1 hD1
        have hpr0_r_138 : y_141.toInt = 1 := hpr0_r_138
        have g_142 : gi y_141 1 1 := ⟨by omega, by omega⟩
        have hP := hP.sub (ws' := [(h0, .inr (12, fsMM (upd (upd (upd mi 27 y_139) 28 y_140) 33 y_141) mr)), ((mr 13), .inl (km_tape, 1600, .inl fm_tape))]) [1, 0] rfl
        have hD := hD.sub (ws' := [(h0, .inr (12, fsMM (upd (upd (upd mi 27 y_139) 28 y_140) 33 y_141) mr)), ((mr 13), .inl (km_tape, 1600, .inl fm_tape))]) [1, 0] (by decide) rfl
        generalize H1 = H at hP hS ⊢
        refine lv_aload_n hx hb dX12_number_47 rfl (lv_at hl 1 rfl) ?_
        refine lv_iconst (v := 1) hx hb dX12_number_48 (by decide) ?_
        have hPc := hP.sub (ws' := [(h0, .inr (12, fsMM (upd (upd (upd mi 27 y_139) 28 y_140) 33 y_141) mr)), ((mr 13), .inl (km_tape, 1600, .inl fm_tape))]) [0, 1] rfl
        have hKc := hK.sub (tys' := [(km_tape, .int)]) [0] rfl
        have hDc := hD.sub (ws' := [(h0, .inr (12, fsMM (upd (upd (upd mi 27 y_139) 28 y_140) 33 y_141) mr)), ((mr 13), .inl (km_tape, 1600, .inl fm_tape))]) [0, 1] (by decide) rfl
        have hFc := va_free (wc := [(h0, .inr (12, fsMM (upd (upd (upd mi 27 y_139) 28 y_140) 33 y_141) mr)), ((mr 13), .inl (km_tape, 1600, .inl fm_tape))]) hD hS hA [0, 1] rfl
        refine va_callv (va_runV (As := [.int 1]) (rest := []) ⟨hx, hb, hml, hown, hts⟩ (sX12_passesP l dC dI H.size h0 (upd (upd (upd mi 27 y_139) 28 y_140) 33 y_141) mr km_tape fm_tape 1 gmi_0 gmi_1 gmi_2 gmi_4 gmi_7 gmi_10 gmi_17 gmi_23 gmi_24 gmi_26 gmi_29 gmi_30 gmi_32 (gi_w g_142 (by decide)) gmi_37 gmi_41 gmi_50 gmi_51 gmi_56 (gi_w (gi_c 1 1 (by decide)) (by decide)) (show (mi 30).toInt ≤ (mi 29).toInt from by have qgy_141 := g_142.1; have rgy_141 := g_142.2; have qgr_122 := g_136.1; have rgr_122 := g_136.2; have qgmi_33 := g_115.1; have rgmi_33 := g_115.2; have qgmi_31 := g_118.1; have rgmi_31 := g_118.2; have qgmi_30 := gmi_30.1; have rgmi_30 := gmi_30.2; have qgmi_29 := gmi_29.1; have rgmi_29 := gmi_29.2; have qgmi_26 := gmi_26.1; have rgmi_26 := gmi_26.2; omega) (show (mi 29).toInt ≤ (mi 26).toInt from by have qgy_141 := g_142.1; have rgy_141 := g_142.2; have qgr_122 := g_136.1; have rgr_122 := g_136.2; have qgmi_33 := g_115.1; have rgmi_33 := g_115.2; have qgmi_31 := g_118.1; have rgmi_31 := g_118.2; have qgmi_30 := gmi_30.1; have rgmi_30 := gmi_30.2; have qgmi_29 := gmi_29.1; have rgmi_29 := gmi_29.2; have qgmi_26 := gmi_26.1; have rgmi_26 := gmi_26.2; omega) (show ((mi 31).toInt = 0 ∨ (mi 30).toInt < (mi 29).toInt) from by have qgy_141 := g_142.1; have rgy_141 := g_142.2; have qgr_122 := g_136.1; have rgr_122 := g_136.2; have qgmi_33 := g_115.1; have rgmi_33 := g_115.2; have qgmi_31 := g_118.1; have rgmi_31 := g_118.2; have qgmi_30 := gmi_30.1; have rgmi_30 := gmi_30.2; have qgmi_29 := gmi_29.1; have rgmi_29 := gmi_29.2; have qgmi_26 := gmi_26.1; have rgmi_26 := gmi_26.2; omega)) (cwV 1 hts (gz_gV mGB_161 mGB_162 mGB_163 mGB_1 mGB_164 goodGB) rfl rfl rfl (by decide +kernel) ⟨Nat.le_of_ble_eq_true rfl, Nat.le_of_ble_eq_true rfl⟩) ⟨fun a U g mk q => by obtain ⟨q0, q1, qP, qK, qD⟩ := q; exact ⟨q0, q1, qP, va_K.moved (u := U) (U := U.calling g mk a) (Vm.Alike.refl U.vm) qK, qD⟩, va_recv hKc hPc (ci := 12) (q0 := 0) rfl rfl, fun U hU hW => ⟨rfl, by rw [hU], by rw [hU]; exact hPc, va_K.moved hW.alike hKc, hDc.weaken (fun _ _ _ _ => trivial)⟩⟩ rfl rfl hl.1 rfl (lv_room (Nat.le_of_ble_eq_true rfl)) dX12_number_49 ⟨Nat.zero_le _, Nat.zero_le _⟩) hS (fun q _ h => hFc q h) hFc (fun u t H1 locs ht hvm hw hB hz1 hk1 hS => ?_)
        obtain ⟨y_144, y_145, y_146, y_147, y_148, y_149, y_150, gy_146, gy_147, gy_149, gy_150, hpr0_r_143, hpr1_r_143, hpr2_r_143, hpr3_r_143, hpr4_r_143, hpr5_r_143, hpr6_r_143, hP1, hD1⟩ := hB
        rw [ht] at hP1
        obtain ⟨hP, hD⟩ := va_join (wr := []) (w1 := [(h0, .inr (12, fsMM (upd (upd (upd (upd (upd (upd (upd mi 27 y_144) 28 y_145) 29 y_146) 30 y_147) 31 y_148) 32 y_149) 33 y_150) mr)), ((mr 13), .inl (km_tape, 1600, .inl fm_tape))]) hP hD [0, 1] [] rfl rfl (by decide) (by decide) hk1 hFc hP1 hD1
        have hpr0_r_143 : (mi 30).toInt ≤ y_147.toInt := hpr0_r_143
        have hpr1_r_143 : y_147.toInt ≤ y_146.toInt := hpr1_r_143
        have hpr2_r_143 : y_146.toInt ≤ (mi 26).toInt := hpr2_r_143
        have hpr3_r_143 : Hid ((y_148.toInt = 0 ∨ y_147.toInt < y_146.toInt)) := hpr3_r_143
        have hpr4_r_143 : y_141.toInt ≤ y_150.toInt := hpr4_r_143
        have g_151 : gi y_150 1 1 := gi_relL (show y_141.toInt ≤ y_150.toInt from by omega) g_142 gy_150
        have hpr5_r_143 : Hid (((1 : Int) = 1 ∨ y_150.toInt = 1)) := by have h9 : ((1 : Int32).toInt = 1 ∨ y_150.toInt = 1) := hpr5_r_143; rw [show (1 : Int32).toInt = 1 from by decide] at h9; exact h9
        have hpr6_r_143 : Hid ((y_150.toInt = 1 ∨ (mi 29).toInt ≤ y_147.toInt)) := hpr6_r_143
        have hP := hP.sub (ws' := [(h0, .inr (12, fsMM (upd (upd (upd (upd (upd (upd (upd mi 27 y_144) 28 y_145) 29 y_146) 30 y_147) 31 y_148) 32 y_149) 33 y_150) mr)), ((mr 13), .inl (km_tape, 1600, .inl fm_tape))]) [0, 1] rfl
        have hD := hD.sub (ws' := [(h0, .inr (12, fsMM (upd (upd (upd (upd (upd (upd (upd mi 27 y_144) 28 y_145) 29 y_146) 30 y_147) 31 y_148) 32 y_149) 33 y_150) mr)), ((mr 13), .inl (km_tape, 1600, .inl fm_tape))]) [0, 1] (by decide) rfl
        generalize H1 = H at hP hS ⊢
        refine lv_iload_n hx hb dX12_number_52 rfl (lv_at hl 0 rfl) ?_
        exact W.iret (v := (mi 32)) hx hb hr (fun t ht hW => ⟨⟨(mi 32), (mi 32), rfl, ⟨rfl, gmi_32⟩, y_144, y_145, y_146, y_147, y_148, y_149, y_150, gy_146, gy_147, gy_149, (gi_w g_151 (by decide)), hpr0_r_143, hpr1_r_143, hpr2_r_143, (Hid.un hpr3_r_143), (show (mi 33).toInt ≤ y_150.toInt from by have qgy_150 := g_151.1; have rgy_150 := g_151.2; have qgy_147 := gy_147.1; have rgy_147 := gy_147.2; have qgy_146 := gy_146.1; have rgy_146 := gy_146.2; have qgy_141 := g_142.1; have rgy_141 := g_142.2; have qgr_122 := g_136.1; have rgr_122 := g_136.2; have qgmi_33 := g_115.1; have rgmi_33 := g_115.2; have qgmi_31 := g_118.1; have rgmi_31 := g_118.2; have qgmi_30 := gmi_30.1; have rgmi_30 := gmi_30.2; have qgmi_29 := gmi_29.1; have rgmi_29 := gmi_29.2; have qgmi_26 := gmi_26.1; have rgmi_26 := gmi_26.2; omega), (show (y_150.toInt = 1 ∨ (p1.toInt ≤ (mi 32).toInt ∧ (mi 32).toInt ≤ p2.toInt)) from by have qgy_150 := g_151.1; have rgy_150 := g_151.2; have qgy_147 := gy_147.1; have rgy_147 := gy_147.2; have qgy_146 := gy_146.1; have rgy_146 := gy_146.2; have qgy_141 := g_142.1; have rgy_141 := g_142.2; have qgr_122 := g_136.1; have rgr_122 := g_136.2; have qgp1 := gp1.1; have rgp1 := gp1.2; have qgmi_33 := g_115.1; have rgmi_33 := g_115.2; have qgmi_32 := gmi_32.1; have rgmi_32 := gmi_32.2; have qgmi_31 := g_118.1; have rgmi_31 := g_118.2; have qgmi_30 := gmi_30.1; have rgmi_30 := gmi_30.2; have qgmi_29 := gmi_29.1; have rgmi_29 := gmi_29.2; have qgmi_26 := gmi_26.1; have rgmi_26 := gmi_26.2; omega), by rw [ht]; exact hP, hD⟩, hS.F ht⟩) hS.2.2 dX12_number_53
    · have hc_152 : (mi 31).toInt ≠ 2 := fun h9 => c_116 (Int32.toInt_inj.mp (by rw [show (2 : Int32).toInt = 2 from by decide]; exact h9))
      refine lv_aload_n hx hb dX12_number_22 rfl (lv_at hl 1 rfl) ?_
      refine lv_iconst (v := 1) hx hb dX12_number_23 (by decide) ?_
      have hPc := hP.sub (ws' := [(h0, .inr (12, fsMM mi mr))]) [0] rfl
      have hKc := hK.sub (tys' := []) [] rfl
      have hDc := hD.sub (ws' := [(h0, .inr (12, fsMM mi mr))]) [0] (by decide) rfl
      have hFc := va_free (wc := [(h0, .inr (12, fsMM mi mr))]) hD hS hA [0] rfl
      refine va_callv (va_runV (As := [.int 1]) (rest := []) ⟨hx, hb, hml, hown, hts⟩ (sX12_faultsP l dC dI s.heap.size h0 mi mr 1 gmi_0 gmi_1 gmi_2 gmi_4 gmi_7 gmi_10 gmi_17 gmi_23 gmi_24 gmi_26 gmi_29 gmi_30 gmi_32 (gi_w g_115 (by decide)) gmi_37 gmi_41 gmi_50 gmi_51 gmi_56) (cwV 1 hts (gz_gV mGB_165 mGB_166 mGB_167 mGB_1 mGB_168 goodGB) rfl rfl rfl (by decide +kernel) ⟨Nat.le_of_ble_eq_true rfl, Nat.le_of_ble_eq_true rfl⟩) ⟨fun a U g mk q => by obtain ⟨q0, q1, qP, qK, qD⟩ := q; exact ⟨q0, q1, qP, va_K.moved (u := U) (U := U.calling g mk a) (Vm.Alike.refl U.vm) qK, qD⟩, va_recv hKc hPc (ci := 12) (q0 := 0) rfl rfl, fun U hU hW => ⟨rfl, by rw [hU], by rw [hU]; exact hPc, va_K.moved hW.alike hKc, hDc.weaken (fun _ _ _ _ => trivial)⟩⟩ rfl rfl hl.1 rfl (lv_room (Nat.le_of_ble_eq_true rfl)) dX12_number_24 ⟨Nat.zero_le _, Nat.zero_le _⟩) hS (fun q _ h => hFc q h) hFc (fun u t H1 locs ht hvm hw hB hz1 hk1 hS => ?_)
      obtain ⟨y_154, y_155, y_156, gy_156, hpr0_r_153, hP1, hD1⟩ := hB
      rw [ht] at hP1
      obtain ⟨hP, hD⟩ := va_join (wr := [((mr 13), .inl (km_tape, 1600, .inl fm_tape))]) (w1 := [(h0, .inr (12, fsMM (upd (upd (upd mi 27 y_154) 28 y_155) 33 y_156) mr))]) hP hD [0] [1] rfl rfl (by decide) (by decide) hk1 hFc hP1 hD1
      have hpr0_r_153 : y_156.toInt = 1 := hpr0_r_153
      have g_157 : gi y_156 1 1 := ⟨by omega, by omega⟩
      have hP := hP.sub (ws' := [(h0, .inr (12, fsMM (upd (upd (upd mi 27 y_154) 28 y_155) 33 y_156) mr)), ((mr 13), .inl (km_tape, 1600, .inl fm_tape))]) [1, 0] rfl
      have hD := hD.sub (ws' := [(h0, .inr (12, fsMM (upd (upd (upd mi 27 y_154) 28 y_155) 33 y_156) mr)), ((mr 13), .inl (km_tape, 1600, .inl fm_tape))]) [1, 0] (by decide) rfl
      generalize H1 = H at hP hS ⊢
      refine lv_goto (tgt := 47) hx hb dX12_number_27 (by decide) ?_
      refine lv_aload_n hx hb dX12_number_47 rfl (lv_at hl 1 rfl) ?_
      refine lv_iconst (v := 1) hx hb dX12_number_48 (by decide) ?_
      have hPc := hP.sub (ws' := [(h0, .inr (12, fsMM (upd (upd (upd mi 27 y_154) 28 y_155) 33 y_156) mr)), ((mr 13), .inl (km_tape, 1600, .inl fm_tape))]) [0, 1] rfl
      have hKc := hK.sub (tys' := [(km_tape, .int)]) [0] rfl
      have hDc := hD.sub (ws' := [(h0, .inr (12, fsMM (upd (upd (upd mi 27 y_154) 28 y_155) 33 y_156) mr)), ((mr 13), .inl (km_tape, 1600, .inl fm_tape))]) [0, 1] (by decide) rfl
      have hFc := va_free (wc := [(h0, .inr (12, fsMM (upd (upd (upd mi 27 y_154) 28 y_155) 33 y_156) mr)), ((mr 13), .inl (km_tape, 1600, .inl fm_tape))]) hD hS hA [0, 1] rfl
      refine va_callv (va_runV (As := [.int 1]) (rest := []) ⟨hx, hb, hml, hown, hts⟩ (sX12_passesP l dC dI H.size h0 (upd (upd (upd mi 27 y_154) 28 y_155) 33 y_156) mr km_tape fm_tape 1 gmi_0 gmi_1 gmi_2 gmi_4 gmi_7 gmi_10 gmi_17 gmi_23 gmi_24 gmi_26 gmi_29 gmi_30 gmi_32 (gi_w g_157 (by decide)) gmi_37 gmi_41 gmi_50 gmi_51 gmi_56 (gi_w (gi_c 1 1 (by decide)) (by decide)) (show (mi 30).toInt ≤ (mi 29).toInt from by have qgy_156 := g_157.1; have rgy_156 := g_157.2; have qgmi_33 := g_115.1; have rgmi_33 := g_115.2; have qgmi_30 := gmi_30.1; have rgmi_30 := gmi_30.2; have qgmi_29 := gmi_29.1; have rgmi_29 := gmi_29.2; have qgmi_26 := gmi_26.1; have rgmi_26 := gmi_26.2; omega) (show (mi 29).toInt ≤ (mi 26).toInt from by have qgy_156 := g_157.1; have rgy_156 := g_157.2; have qgmi_33 := g_115.1; have rgmi_33 := g_115.2; have qgmi_30 := gmi_30.1; have rgmi_30 := gmi_30.2; have qgmi_29 := gmi_29.1; have rgmi_29 := gmi_29.2; have qgmi_26 := gmi_26.1; have rgmi_26 := gmi_26.2; omega) (show ((mi 31).toInt = 0 ∨ (mi 30).toInt < (mi 29).toInt) from by have qgy_156 := g_157.1; have rgy_156 := g_157.2; have qgmi_33 := g_115.1; have rgmi_33 := g_115.2; have qgmi_30 := gmi_30.1; have rgmi_30 := gmi_30.2; have qgmi_29 := gmi_29.1; have rgmi_29 := gmi_29.2; have qgmi_26 := gmi_26.1; have rgmi_26 := gmi_26.2; omega)) (cwV 1 hts (gz_gV mGB_161 mGB_162 mGB_163 mGB_1 mGB_164 goodGB) rfl rfl rfl (by decide +kernel) ⟨Nat.le_of_ble_eq_true rfl, Nat.le_of_ble_eq_true rfl⟩) ⟨fun a U g mk q => by obtain ⟨q0, q1, qP, qK, qD⟩ := q; exact ⟨q0, q1, qP, va_K.moved (u := U) (U := U.calling g mk a) (Vm.Alike.refl U.vm) qK, qD⟩, va_recv hKc hPc (ci := 12) (q0 := 0) rfl rfl, fun U hU hW => ⟨rfl, by rw [hU], by rw [hU]; exact hPc, va_K.moved hW.alike hKc, hDc.weaken (fun _ _ _ _ => trivial)⟩⟩ rfl rfl hl.1 rfl (lv_room (Nat.le_of_ble_eq_true rfl)) dX12_number_49 ⟨Nat.zero_le _, Nat.zero_le _⟩) hS (fun q _ h => hFc q h) hFc (fun u t H1 locs ht hvm hw hB hz1 hk1 hS => ?_)
      obtain ⟨y_159, y_160, y_161, y_162, y_163, y_164, y_165, gy_161, gy_162, gy_164, gy_165, hpr0_r_158, hpr1_r_158, hpr2_r_158, hpr3_r_158, hpr4_r_158, hpr5_r_158, hpr6_r_158, hP1, hD1⟩ := hB
      rw [ht] at hP1
      obtain ⟨hP, hD⟩ := va_join (wr := []) (w1 := [(h0, .inr (12, fsMM (upd (upd (upd (upd (upd (upd (upd mi 27 y_159) 28 y_160) 29 y_161) 30 y_162) 31 y_163) 32 y_164) 33 y_165) mr)), ((mr 13), .inl (km_tape, 1600, .inl fm_tape))]) hP hD [0, 1] [] rfl rfl (by decide) (by decide) hk1 hFc hP1 hD1
      have hpr0_r_158 : (mi 30).toInt ≤ y_162.toInt := hpr0_r_158
      have hpr1_r_158 : y_162.toInt ≤ y_161.toInt := hpr1_r_158
      have hpr2_r_158 : y_161.toInt ≤ (mi 26).toInt := hpr2_r_158
      have hpr3_r_158 : Hid ((y_163.toInt = 0 ∨ y_162.toInt < y_161.toInt)) := hpr3_r_158
      have hpr4_r_158 : y_156.toInt ≤ y_165.toInt := hpr4_r_158
      have g_166 : gi y_165 1 1 := gi_relL (show y_156.toInt ≤ y_165.toInt from by omega) g_157 gy_165
      have hpr5_r_158 : Hid (((1 : Int) = 1 ∨ y_165.toInt = 1)) := by have h9 : ((1 : Int32).toInt = 1 ∨ y_165.toInt = 1) := hpr5_r_158; rw [show (1 : Int32).toInt = 1 from by decide] at h9; exact h9
      have hpr6_r_158 : Hid ((y_165.toInt = 1 ∨ (mi 29).toInt ≤ y_162.toInt)) := hpr6_r_158
      have hP := hP.sub (ws' := [(h0, .inr (12, fsMM (upd (upd (upd (upd (upd (upd (upd mi 27 y_159) 28 y_160) 29 y_161) 30 y_162) 31 y_163) 32 y_164) 33 y_165) mr)), ((mr 13), .inl (km_tape, 1600, .inl fm_tape))]) [0, 1] rfl
      have hD := hD.sub (ws' := [(h0, .inr (12, fsMM (upd (upd (upd (upd (upd (upd (upd mi 27 y_159) 28 y_160) 29 y_161) 30 y_162) 31 y_163) 32 y_164) 33 y_165) mr)), ((mr 13), .inl (km_tape, 1600, .inl fm_tape))]) [0, 1] (by decide) rfl
      generalize H1 = H at hP hS ⊢
      refine lv_iload_n hx hb dX12_number_52 rfl (lv_at hl 0 rfl) ?_
      exact W.iret (v := (mi 32)) hx hb hr (fun t ht hW => ⟨⟨(mi 32), (mi 32), rfl, ⟨rfl, gmi_32⟩, y_159, y_160, y_161, y_162, y_163, y_164, y_165, gy_161, gy_162, gy_164, (gi_w g_166 (by decide)), hpr0_r_158, hpr1_r_158, hpr2_r_158, (Hid.un hpr3_r_158), (show (mi 33).toInt ≤ y_165.toInt from by have qgy_165 := g_166.1; have rgy_165 := g_166.2; have qgy_162 := gy_162.1; have rgy_162 := gy_162.2; have qgy_161 := gy_161.1; have rgy_161 := gy_161.2; have qgy_156 := g_157.1; have rgy_156 := g_157.2; have qgmi_33 := g_115.1; have rgmi_33 := g_115.2; have qgmi_30 := gmi_30.1; have rgmi_30 := gmi_30.2; have qgmi_29 := gmi_29.1; have rgmi_29 := gmi_29.2; have qgmi_26 := gmi_26.1; have rgmi_26 := gmi_26.2; omega), (show (y_165.toInt = 1 ∨ (p1.toInt ≤ (mi 32).toInt ∧ (mi 32).toInt ≤ p2.toInt)) from by have qgy_165 := g_166.1; have rgy_165 := g_166.2; have qgy_162 := gy_162.1; have rgy_162 := gy_162.2; have qgy_161 := gy_161.1; have rgy_161 := gy_161.2; have qgy_156 := g_157.1; have rgy_156 := g_157.2; have qgp1 := gp1.1; have rgp1 := gp1.2; have qgmi_33 := g_115.1; have rgmi_33 := g_115.2; have qgmi_32 := gmi_32.1; have rgmi_32 := gmi_32.2; have qgmi_30 := gmi_30.1; have rgmi_30 := gmi_30.2; have qgmi_29 := gmi_29.1; have rgmi_29 := gmi_29.2; have qgmi_26 := gmi_26.1; have rgmi_26 := gmi_26.2; omega), by rw [ht]; exact hP, hD⟩, hS.F ht⟩) hS.2.2 dX12_number_53
  · have hc_167 : (mi 33).toInt ≠ 0 := fun h9 => c_113 (Int32.toInt_inj.mp (by rw [show (0 : Int32).toInt = 0 from by decide]; exact h9))
    have g_168 : gi (mi 33) 1 1 := gi_ne_lo c_113 gmi_33 (gi_c 0 0 (by decide)) (by decide)
    refine lv_iload_n hx hb dX12_number_12 rfl (lv_at hl 2 rfl) ?_
    exact W.iret (v := p1) hx hb hr (fun t ht hW => ⟨⟨p1, p1, rfl, ⟨rfl, gp1⟩, (mi 27), (mi 28), (mi 29), (mi 30), (mi 31), (mi 32), (mi 33), gmi_29, gmi_30, gmi_32, (gi_w g_168 (by decide)), (show (mi 30).toInt ≤ (mi 30).toInt from by have qgmi_33 := g_168.1; have rgmi_33 := g_168.2; have qgmi_30 := gmi_30.1; have rgmi_30 := gmi_30.2; have qgmi_29 := gmi_29.1; have rgmi_29 := gmi_29.2; have qgmi_26 := gmi_26.1; have rgmi_26 := gmi_26.2; omega), (show (mi 30).toInt ≤ (mi 29).toInt from by have qgmi_33 := g_168.1; have rgmi_33 := g_168.2; have qgmi_30 := gmi_30.1; have rgmi_30 := gmi_30.2; have qgmi_29 := gmi_29.1; have rgmi_29 := gmi_29.2; have qgmi_26 := gmi_26.1; have rgmi_26 := gmi_26.2; omega), (show (mi 29).toInt ≤ (mi 26).toInt from by have qgmi_33 := g_168.1; have rgmi_33 := g_168.2; have qgmi_30 := gmi_30.1; have rgmi_30 := gmi_30.2; have qgmi_29 := gmi_29.1; have rgmi_29 := gmi_29.2; have qgmi_26 := gmi_26.1; have rgmi_26 := gmi_26.2; omega), (show ((mi 31).toInt = 0 ∨ (mi 30).toInt < (mi 29).toInt) from by have qgmi_33 := g_168.1; have rgmi_33 := g_168.2; have qgmi_30 := gmi_30.1; have rgmi_30 := gmi_30.2; have qgmi_29 := gmi_29.1; have rgmi_29 := gmi_29.2; have qgmi_26 := gmi_26.1; have rgmi_26 := gmi_26.2; omega), (show (mi 33).toInt ≤ (mi 33).toInt from by have qgmi_33 := g_168.1; have rgmi_33 := g_168.2; have qgmi_30 := gmi_30.1; have rgmi_30 := gmi_30.2; have qgmi_29 := gmi_29.1; have rgmi_29 := gmi_29.2; have qgmi_26 := gmi_26.1; have rgmi_26 := gmi_26.2; omega), (show ((mi 33).toInt = 1 ∨ (p1.toInt ≤ p1.toInt ∧ p1.toInt ≤ p2.toInt)) from by have qgp1 := gp1.1; have rgp1 := gp1.2; have qgmi_33 := g_168.1; have rgmi_33 := g_168.2; have qgmi_30 := gmi_30.1; have rgmi_30 := gmi_30.2; have qgmi_29 := gmi_29.1; have rgmi_29 := gmi_29.2; have qgmi_26 := gmi_26.1; have rgmi_26 := gmi_26.2; omega), by rw [ht]; exact hP, hD⟩, hS.F ht⟩) hS.2.2 dX12_number_13
