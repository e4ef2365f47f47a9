theorem dX12_word_0 : decode cX12_word 0 = .ok (.aload_n 0, 1) := by decide +kernel
theorem dX12_word_1 : decode cX12_word 1 = .ok (.aload_n 0, 1) := by decide +kernel
theorem dX12_word_2 : decode cX12_word 2 = .ok (.getfield 174, 3) := by decide +kernel
theorem dX12_word_5 : decode cX12_word 5 = .ok (.ifCond .ne 11, 3) := by decide +kernel
theorem dX12_word_8 : decode cX12_word 8 = .ok (.aload_n 0, 1) := by decide +kernel
theorem dX12_word_9 : decode cX12_word 9 = .ok (.aload_n 1, 1) := by decide +kernel
theorem dX12_word_10 : decode cX12_word 10 = .ok (.invokevirtual 201, 3) := by decide +kernel
theorem dX12_word_13 : decode cX12_word 13 = .ok (.ifCond .eq 7, 3) := by decide +kernel
theorem dX12_word_16 : decode cX12_word 16 = .ok (.iconst 1, 1) := by decide +kernel
theorem dX12_word_17 : decode cX12_word 17 = .ok (.goto 4, 3) := by decide +kernel
theorem dX12_word_20 : decode cX12_word 20 = .ok (.iconst 0, 1) := by decide +kernel
theorem dX12_word_21 : decode cX12_word 21 = .ok (.invokevirtual 205, 3) := by decide +kernel
theorem dX12_word_24 : decode cX12_word 24 = .ok (.return_, 1) := by decide +kernel
set_option maxHeartbeats 4000000 in
set_option maxRecDepth 100000 in
theorem sX12_wordP (l : Launch) (dC : Nat → ClassId) (dI : Nat → Nat → Nat) (sz : Nat) (h0 : Nat) (mi : Nat → Int32) (mr : Nat → Nat) (km_tape : ClassId) (fm_tape : Nat → Int32) (sa : Nat → Nat) (sb : Nat → Nat) (zf : Value) (wi : Nat) (gmi_0 : gi (mi 0) 0 100000) (gmi_1 : gi (mi 1) 0 100000) (gmi_2 : gi (mi 2) 0 100000) (gmi_4 : gi (mi 4) 0 1) (gmi_7 : gi (mi 7) 0 6) (gmi_10 : gi (mi 10) 0 24) (gmi_17 : gi (mi 17) 0 8) (gmi_23 : gi (mi 23) 0 300) (gmi_24 : gi (mi 24) 0 1) (gmi_26 : gi (mi 26) 0 1600) (gmi_29 : gi (mi 29) 0 1600) (gmi_30 : gi (mi 30) 0 1600) (gmi_32 : gi (mi 32) 0 100000) (gmi_33 : gi (mi 33) 0 1) (gmi_37 : gi (mi 37) 0 1) (gmi_41 : gi (mi 41) 0 24) (gmi_50 : gi (mi 50) 0 1) (gmi_51 : gi (mi 51) 0 1) (gmi_56 : gi (mi 56) 0 80) (hwi : wi < 18) (hpq0 : (mi 30).toInt ≤ (mi 29).toInt) (hpq1 : (mi 29).toInt ≤ (mi 26).toInt) (hpq2 : ((mi 31).toInt = 0 ∨ (mi 30).toInt < (mi 29).toInt)) : Met l yX12_word (.code yX12_word cX12_word 2 none :: wsGB) ({ frames := 5, cells := 0, slots := 0, locals := 108 }) (va_Pc [.ref h0, .ref (sa wi)] (fun U => U.heap.size = sz ∧ va_P (dC, dI) vwCl [(h0, .inr (12, fsMM mi mr)), ((mr 13), .inl (km_tape, 1600, .inl fm_tape))] U.heap ∧ va_K (dC, dI) vwCl [(km_tape, .int)] U ∧ va_D (fun _ => True) [(h0, .inr (12, fsMM mi mr)), ((mr 13), .inl (km_tape, 1600, .inl fm_tape))] ∧ gz_ST RX12 stIB sa sb zf (va_A [(h0, .inr (12, fsMM mi mr)), ((mr 13), .inl (km_tape, 1600, .inl fm_tape))] sz) U U.heap)) (va_Qv (fun (u : Unit) => True) (fun _ t => ∃ (w0_27 : Int32) (w0_28 : Int32) (w0_29 : Int32) (w0_30 : Int32) (w0_31 : Int32) (w0_32 : Int32) (w0_33 : Int32), gi w0_29 0 1600 ∧ gi w0_30 0 1600 ∧ gi w0_32 0 100000 ∧ gi w0_33 0 1 ∧ (mi 30).toInt ≤ w0_30.toInt ∧ w0_30.toInt ≤ w0_29.toInt ∧ w0_29.toInt ≤ (mi 26).toInt ∧ (w0_31.toInt = 0 ∨ w0_30.toInt < w0_29.toInt) ∧ (mi 33).toInt ≤ w0_33.toInt ∧ va_P (dC, dI) vwCl [(h0, .inr (12, fsMM (upd (upd (upd (upd (upd (upd (upd mi 27 w0_27) 28 w0_28) 29 w0_29) 30 w0_30) 31 w0_31) 32 w0_32) 33 w0_33) mr)), ((mr 13), .inl (km_tape, 1600, .inl fm_tape))] t.heap ∧ va_D (va_A [(h0, .inr (12, fsMM mi mr)), ((mr 13), .inl (km_tape, 1600, .inl fm_tape))] sz) [(h0, .inr (12, fsMM (upd (upd (upd (upd (upd (upd (upd mi 27 w0_27) 28 w0_28) 29 w0_29) 30 w0_30) 31 w0_31) 32 w0_32) 33 w0_33) mr)), ((mr 13), .inl (km_tape, 1600, .inl fm_tape))]) (va_A [(h0, .inr (12, fsMM mi mr)), ((mr 13), .inl (km_tape, 1600, .inl fm_tape))] sz)) 0 0 (va_A [(h0, .inr (12, fsMM mi mr)), ((mr 13), .inl (km_tape, 1600, .inl fm_tape))] sz) := by
  refine Met.ofW (cc := cX12_word) (maxL := 2) (ret := none) (by decide) rfl ?_
  intro p e s m args below meth c s₁ B hml hv
  obtain ⟨rfl, hsz, hP, hK, hD0, hT⟩ := hv
  have hx := B.exec
  have hb := B.bytes
  have hr := B.returns
  have hts := atoms_spec (ws := (.code yX12_word cX12_word 2 none :: wsGB)) B.pre
  have hown : s.vm.findClass RX12 = some m.cls := findClass_of_methodNamed B.named
  have hlocks := B.notSynchronized
  subst hsz
  have hD := hD0.self (sz := s.heap.size)
  generalize hAe : va_A [(h0, .inr (12, fsMM mi mr)), ((mr 13), .inl (km_tape, 1600, .inl fm_tape))] s.heap.size = A at hD hT ⊢
  have hA : ∀ q : Nat, s.heap.size ≤ q → A q := fun q h => by rw [← hAe]; exact Or.inr h
  have hS : va_S A s.heap s.heap [] := va_S.rf
  have hl := lv_entry ([.ref h0, .ref (sa wi)]) (n := 2) (Nat.le_of_ble_eq_true rfl)
  rw [lg_entry_eq]
  generalize (lg_sl ([.ref h0, .ref (sa wi)]) ++ List.replicate (2 - (lg_sl ([.ref h0, .ref (sa wi)])).length) Slot.unset).toArray = ls at hl ⊢
  have hl : lv_has ls 2 [(0, .ref h0), (1, .ref (sa wi))] := hl
  refine lv_aload_n hx hb dX12_word_0 rfl (lv_at hl 0 rfl) ?_
  refine lv_aload_n hx hb dX12_word_1 rfl (lv_at hl 0 rfl) ?_
  refine va_get (D := (dC, dI)) (ci := 12) (v := .int (mi 33)) (C := RX12) (T := TX12) (N := 57) hx hb hts (fun w h => List.mem_cons_of_mem _ (jnGB_X12 w h)) hown hK hP 0 rfl rfl 33 (by decide) (hts _ (List.mem_cons_of_mem _ mGB_114)) (fun _ h9 => h9) rfl dX12_word_2 ?_
  refine lv_if_ne (tgt := 16) hx hb dX12_word_5 (by decide) (fun c_77 => ?_) (fun c_77 => ?_)
  · have hc_78 : (mi 33).toInt ≠ 0 := fun h9 => c_77 (Int32.toInt_inj.mp (by rw [show (0 : Int32).toInt = 0 from by decide]; exact h9))
    have g_79 : gi (mi 33) 1 1 := gi_ne_lo c_77 gmi_33 (gi_c 0 0 (by decide)) (by decide)
    refine lv_iconst (v := 1) hx hb dX12_word_16 (by decide) ?_
    refine lv_goto (tgt := 21) hx hb dX12_word_17 (by decide) ?_
    have hPc := hP.sub (ws' := [(h0, .inr (12, fsMM mi mr)), ((mr 13), .inl (km_tape, 1600, .inl fm_tape))]) [0, 1] rfl
    have hKc := hK.sub (tys' := [(km_tape, .int)]) [0] rfl
    have hDc := hD.sub (ws' := [(h0, .inr (12, fsMM mi mr)), ((mr 13), .inl (km_tape, 1600, .inl fm_tape))]) [0, 1] (by decide) rfl
    have hFc := va_free (wc := [(h0, .inr (12, fsMM mi mr)), ((mr 13), .inl (km_tape, 1600, .inl fm_tape))]) hD hS hA [0, 1] rfl
    refine va_callv (va_runV (As := [.int 1]) (rest := []) ⟨hx, hb, hml, hown, hts⟩ (sX12_passesP l dC dI s.heap.size h0 mi mr km_tape fm_tape 1 gmi_0 gmi_1 gmi_2 gmi_4 gmi_7 gmi_10 gmi_17 gmi_23 gmi_24 gmi_26 gmi_29 gmi_30 gmi_32 (gi_w g_79 (by decide)) gmi_37 gmi_41 gmi_50 gmi_51 gmi_56 (gi_w (gi_c 1 1 (by decide)) (by decide)) (show (mi 30).toInt ≤ (mi 29).toInt from by have qgmi_33 := g_79.1; have rgmi_33 := g_79.2; have qgmi_30 := gmi_30.1; have rgmi_30 := gmi_30.2; have qgmi_29 := gmi_29.1; have rgmi_29 := gmi_29.2; have qgmi_26 := gmi_26.1; have rgmi_26 := gmi_26.2; omega) (show (mi 29).toInt ≤ (mi 26).toInt from by have qgmi_33 := g_79.1; have rgmi_33 := g_79.2; have qgmi_30 := gmi_30.1; have rgmi_30 := gmi_30.2; have qgmi_29 := gmi_29.1; have rgmi_29 := gmi_29.2; have qgmi_26 := gmi_26.1; have rgmi_26 := gmi_26.2; omega) (show ((mi 31).toInt = 0 ∨ (mi 30).toInt < (mi 29).toInt) from by have qgmi_33 := g_79.1; have rgmi_33 := g_79.2; have qgmi_30 := gmi_30.1; have rgmi_30 := gmi_30.2; have qgmi_29 := gmi_29.1; have rgmi_29 := gmi_29.2; have qgmi_26 := gmi_26.1; have rgmi_26 := gmi_26.2; omega)) (cwV 1 hts (gz_gV mGB_161 mGB_162 mGB_163 mGB_1 mGB_164 goodGB) rfl rfl rfl (by decide +kernel) ⟨Nat.le_of_ble_eq_true rfl, Nat.le_of_ble_eq_true rfl⟩) ⟨fun a U g mk q => by obtain ⟨q0, q1, qP, qK, qD⟩ := q; exact ⟨q0, q1, qP, va_K.moved (u := U) (U := U.calling g mk a) (Vm.Alike.refl U.vm) qK, qD⟩, va_recv hKc hPc (ci := 12) (q0 := 0) rfl rfl, fun U hU hW => ⟨rfl, by rw [hU], by rw [hU]; exact hPc, va_K.moved hW.alike hKc, hDc.weaken (fun _ _ _ _ => trivial)⟩⟩ rfl rfl hl.1 rfl (lv_room (Nat.le_of_ble_eq_true rfl)) dX12_word_21 ⟨Nat.zero_le _, Nat.zero_le _⟩) hS (fun q _ h => hFc q h) hFc (fun u t H1 locs ht hvm hw hB hz1 hk1 hS => ?_)
    obtain ⟨y_81, y_82, y_83, y_84, y_85, y_86, y_87, gy_83, gy_84, gy_86, gy_87, hpr0_r_80, hpr1_r_80, hpr2_r_80, hpr3_r_80, hpr4_r_80, hpr5_r_80, hpr6_r_80, hP1, hD1⟩ := hB
    rw [ht] at hP1
    obtain ⟨hP, hD⟩ := va_join (wr := []) (w1 := [(h0, .inr (12, fsMM (upd (upd (upd (upd (upd (upd (upd mi 27 y_81) 28 y_82) 29 y_83) 30 y_84) 31 y_85) 32 y_86) 33 y_87) mr)), ((mr 13), .inl (km_tape, 1600, .inl fm_tape))]) hP hD [0, 1] [] rfl rfl (by decide) (by decide) hk1 hFc hP1 hD1
    have hpr0_r_80 : (mi 30).toInt ≤ y_84.toInt := hpr0_r_80
    have hpr1_r_80 : y_84.toInt ≤ y_83.toInt := hpr1_r_80
    have hpr2_r_80 : y_83.toInt ≤ (mi 26).toInt := hpr2_r_80
    have hpr3_r_80 : Hid ((y_85.toInt = 0 ∨ y_84.toInt < y_83.toInt)) := hpr3_r_80
    have hpr4_r_80 : (mi 33).toInt ≤ y_87.toInt := hpr4_r_80
    have g_88 : gi y_87 1 1 := gi_relL (show (mi 33).toInt ≤ y_87.toInt from by omega) g_79 gy_87
    have hpr5_r_80 : Hid (((1 : Int) = 1 ∨ y_87.toInt = 1)) := by have h9 : ((1 : Int32).toInt = 1 ∨ y_87.toInt = 1) := hpr5_r_80; rw [show (1 : Int32).toInt = 1 from by decide] at h9; exact h9
    have hpr6_r_80 : Hid ((y_87.toInt = 1 ∨ (mi 29).toInt ≤ y_84.toInt)) := hpr6_r_80
    have hP := hP.sub (ws' := [(h0, .inr (12, fsMM (upd (upd (upd (upd (upd (upd (upd mi 27 y_81) 28 y_82) 29 y_83) 30 y_84) 31 y_85) 32 y_86) 33 y_87) mr)), ((mr 13), .inl (km_tape, 1600, .inl fm_tape))]) [0, 1] rfl
    have hD := hD.sub (ws' := [(h0, .inr (12, fsMM (upd (upd (upd (upd (upd (upd (upd mi 27 y_81) 28 y_82) 29 y_83) 30 y_84) 31 y_85) 32 y_86) 33 y_87) mr)), ((mr 13), .inl (km_tape, 1600, .inl fm_tape))]) [0, 1] (by decide) rfl
    generalize H1 = H at hP hS ⊢
    exact W.vret hx hb hr (fun t ht hW => ⟨⟨(), rfl, trivial, y_81, y_82, y_83, y_84, y_85, y_86, y_87, gy_83, gy_84, gy_86, (gi_w g_88 (by decide)), hpr0_r_80, hpr1_r_80, hpr2_r_80, (Hid.un hpr3_r_80), hpr4_r_80, by rw [ht]; exact hP, hD⟩, hS.F ht⟩) hS.2.2 dX12_word_24
  · have hc_89 : (mi 33).toInt = 0 := by have h9 := congrArg Int32.toInt c_77; rw [show (0 : Int32).toInt = 0 from by decide] at h9; exact h9
    have g_90 : gi (mi 33) 0 0 := gi_eq c_77 (gi_c 0 0 (by decide))
    refine lv_aload_n hx hb dX12_word_8 rfl (lv_at hl 0 rfl) ?_
    refine lv_aload_n hx hb dX12_word_9 rfl (lv_at hl 1 rfl) ?_
    have hPc := hP.sub (ws' := [(h0, .inr (12, fsMM mi mr)), ((mr 13), .inl (km_tape, 1600, .inl fm_tape))]) [0, 1] rfl
    have hKc := hK.sub (tys' := [(km_tape, .int)]) [0] rfl
    refine va_calli (va_runV (As := [.ref (sa wi)]) (rest := [.ref h0]) ⟨hx, hb, hml, hown, hts⟩ (sX12_isWordP l dC dI h0 mi mr km_tape fm_tape sa sb zf wi gmi_0 gmi_1 gmi_2 gmi_4 gmi_7 gmi_10 gmi_17 gmi_23 gmi_24 gmi_26 gmi_29 gmi_30 gmi_32 (gi_w g_90 (by decide)) gmi_37 gmi_41 gmi_50 gmi_51 gmi_56 hwi (show (mi 30).toInt ≤ (mi 29).toInt from by have qgmi_33 := g_90.1; have rgmi_33 := g_90.2; have qgmi_30 := gmi_30.1; have rgmi_30 := gmi_30.2; have qgmi_29 := gmi_29.1; have rgmi_29 := gmi_29.2; have qgmi_26 := gmi_26.1; have rgmi_26 := gmi_26.2; omega) (show (mi 29).toInt ≤ (mi 26).toInt from by have qgmi_33 := g_90.1; have rgmi_33 := g_90.2; have qgmi_30 := gmi_30.1; have rgmi_30 := gmi_30.2; have qgmi_29 := gmi_29.1; have rgmi_29 := gmi_29.2; have qgmi_26 := gmi_26.1; have rgmi_26 := gmi_26.2; omega) (show ((mi 31).toInt = 0 ∨ (mi 30).toInt < (mi 29).toInt) from by have qgmi_33 := g_90.1; have rgmi_33 := g_90.2; have qgmi_30 := gmi_30.1; have rgmi_30 := gmi_30.2; have qgmi_29 := gmi_29.1; have rgmi_29 := gmi_29.2; have qgmi_26 := gmi_26.1; have rgmi_26 := gmi_26.2; omega)) (cwV 1 hts (gz_gV mGB_155 mGB_156 mGB_157 mGB_1 mGB_158 goodGB) rfl rfl rfl (by decide +kernel) ⟨Nat.le_of_ble_eq_true rfl, Nat.le_of_ble_eq_true rfl⟩) ⟨fun a U g mk q => by obtain ⟨q0, qP, qK, qT⟩ := q; exact ⟨q0, qP, va_K.moved (u := U) (U := U.calling g mk a) (Vm.Alike.refl U.vm) qK, gz_ST.same rfl qT⟩, va_recv hKc hPc (ci := 12) (q0 := 0) rfl rfl, fun U hU hW => ⟨rfl, by rw [hU]; exact hPc, va_K.moved hW.alike hKc, by rw [hU]; exact ((hT.kept hS.2.1).narrow (fun _ h => h.elim)).warm hW⟩⟩ rfl rfl hl.1 rfl (lv_room (Nat.le_of_ble_eq_true rfl)) dX12_word_10 ⟨Nat.zero_le _, Nat.zero_le _⟩) hS (fun q _ h => h.elim) (fun q h => h.elim) (fun r_91 u t H1 locs ht hvm hw hB hz1 hk1 hS => ?_)
    have hP := gz_keep hP hk1
    generalize H1 = H at hP hS ⊢
    have gr_91 : gi r_91 0 1 := hw.1
    have hqr_91 := hw.2
    have hqr_91 : r_91.toInt = (wdB fm_tape (mi 30) (mi 29) (mi 31) (stL wi)).toInt := hqr_91
    clear hw
    refine lv_if_eq (tgt := 20) hx hb dX12_word_13 (by decide) (fun c_92 => ?_) (fun c_92 => ?_)
    · have hc_93 : r_91.toInt = 0 := by have h9 := congrArg Int32.toInt c_92; rw [show (0 : Int32).toInt = 0 from by decide] at h9; exact h9
      have g_94 : gi r_91 0 0 := gi_eq c_92 (gi_c 0 0 (by decide))
      refine lv_iconst (v := 0) hx hb dX12_word_20 (by decide) ?_
      have hPc := hP.sub (ws' := [(h0, .inr (12, fsMM mi mr)), ((mr 13), .inl (km_tape, 1600, .inl fm_tape))]) [0, 1] rfl
      have hKc := hK.sub (tys' := [(km_tape, .int)]) [0] rfl
      have hDc := hD.sub (ws' := [(h0, .inr (12, fsMM mi mr)), ((mr 13), .inl (km_tape, 1600, .inl fm_tape))]) [0, 1] (by decide) rfl
      have hFc := va_free (wc := [(h0, .inr (12, fsMM mi mr)), ((mr 13), .inl (km_tape, 1600, .inl fm_tape))]) hD hS hA [0, 1] rfl
      refine va_callv (va_runV (As := [.int 0]) (rest := []) ⟨hx, hb, hml, hown, hts⟩ (sX12_passesP l dC dI H.size h0 mi mr km_tape fm_tape 0 gmi_0 gmi_1 gmi_2 gmi_4 gmi_7 gmi_10 gmi_17 gmi_23 gmi_24 gmi_26 gmi_29 gmi_30 gmi_32 (gi_w g_90 (by decide)) gmi_37 gmi_41 gmi_50 gmi_51 gmi_56 (gi_w (gi_c 0 0 (by decide)) (by decide)) (show (mi 30).toInt ≤ (mi 29).toInt from by have qgr_91 := g_94.1; have rgr_91 := g_94.2; have qgmi_33 := g_90.1; have rgmi_33 := g_90.2; have qgmi_30 := gmi_30.1; have rgmi_30 := gmi_30.2; have qgmi_29 := gmi_29.1; have rgmi_29 := gmi_29.2; have qgmi_26 := gmi_26.1; have rgmi_26 := gmi_26.2; omega) (show (mi 29).toInt ≤ (mi 26).toInt from by have qgr_91 := g_94.1; have rgr_91 := g_94.2; have qgmi_33 := g_90.1; have rgmi_33 := g_90.2; have qgmi_30 := gmi_30.1; have rgmi_30 := gmi_30.2; have qgmi_29 := gmi_29.1; have rgmi_29 := gmi_29.2; have qgmi_26 := gmi_26.1; have rgmi_26 := gmi_26.2; omega) (show ((mi 31).toInt = 0 ∨ (mi 30).toInt < (mi 29).toInt) from by have qgr_91 := g_94.1; have rgr_91 := g_94.2; have qgmi_33 := g_90.1; have rgmi_33 := g_90.2; have qgmi_30 := gmi_30.1; have rgmi_30 := gmi_30.2; have qgmi_29 := gmi_29.1; have rgmi_29 := gmi_29.2; have qgmi_26 := gmi_26.1; have rgmi_26 := gmi_26.2; omega)) (cwV 1 hts (gz_gV mGB_161 mGB_162 mGB_163 mGB_1 mGB_164 goodGB) rfl rfl rfl (by decide +kernel) ⟨Nat.le_of_ble_eq_true rfl, Nat.le_of_ble_eq_true rfl⟩) ⟨fun a U g mk q => by obtain ⟨q0, q1, qP, qK, qD⟩ := q; exact ⟨q0, q1, qP, va_K.moved (u := U) (U := U.calling g mk a) (Vm.Alike.refl U.vm) qK, qD⟩, va_recv hKc hPc (ci := 12) (q0 := 0) rfl rfl, fun U hU hW => ⟨rfl, by rw [hU], by rw [hU]; exact hPc, va_K.moved hW.alike hKc, hDc.weaken (fun _ _ _ _ => trivial)⟩⟩ rfl rfl hl.1 rfl (lv_room (Nat.le_of_ble_eq_true rfl)) dX12_word_21 ⟨Nat.zero_le _, Nat.zero_le _⟩) hS (fun q _ h => hFc q h) hFc (fun u t H1 locs ht hvm hw hB hz1 hk1 hS => ?_)
      obtain ⟨y_96, y_97, y_98, y_99, y_100, y_101, y_102, gy_98, gy_99, gy_101, gy_102, hpr0_r_95, hpr1_r_95, hpr2_r_95, hpr3_r_95, hpr4_r_95, hpr5_r_95, hpr6_r_95, hP1, hD1⟩ := hB
      rw [ht] at hP1
      obtain ⟨hP, hD⟩ := va_join (wr := []) (w1 := [(h0, .inr (12, fsMM (upd (upd (upd (upd (upd (upd (upd mi 27 y_96) 28 y_97) 29 y_98) 30 y_99) 31 y_100) 32 y_101) 33 y_102) mr)), ((mr 13), .inl (km_tape, 1600, .inl fm_tape))]) hP hD [0, 1] [] rfl rfl (by decide) (by decide) hk1 hFc hP1 hD1
      have hpr0_r_95 : (mi 30).toInt ≤ y_99.toInt := hpr0_r_95
      have hpr1_r_95 : y_99.toInt ≤ y_98.toInt := hpr1_r_95
      have hpr2_r_95 : y_98.toInt ≤ (mi 26).toInt := hpr2_r_95
      have hpr3_r_95 : Hid ((y_100.toInt = 0 ∨ y_99.toInt < y_98.toInt)) := hpr3_r_95
      have hpr4_r_95 : (mi 33).toInt ≤ y_102.toInt := hpr4_r_95
      have hpr5_r_95 : Hid (((0 : Int) = 1 ∨ y_102.toInt = 1)) := by have h9 : ((0 : Int32).toInt = 1 ∨ y_102.toInt = 1) := hpr5_r_95; rw [show (0 : Int32).toInt = 0 from by decide] at h9; exact h9
      have hf_103 : y_102.toInt = 1 := Hid.resL hpr5_r_95 (by omega)
      have g_104 : gi y_102 1 1 := ⟨by omega, by omega⟩
      have hpr6_r_95 : Hid ((y_102.toInt = 1 ∨ (mi 29).toInt ≤ y_99.toInt)) := hpr6_r_95
      have hP := hP.sub (ws' := [(h0, .inr (12, fsMM (upd (upd (upd (upd (upd (upd (upd mi 27 y_96) 28 y_97) 29 y_98) 30 y_99) 31 y_100) 32 y_101) 33 y_102) mr)), ((mr 13), .inl (km_tape, 1600, .inl fm_tape))]) [0, 1] rfl
      have hD := hD.sub (ws' := [(h0, .inr (12, fsMM (upd (upd (upd (upd (upd (upd (upd mi 27 y_96) 28 y_97) 29 y_98) 30 y_99) 31 y_100) 32 y_101) 33 y_102) mr)), ((mr 13), .inl (km_tape, 1600, .inl fm_tape))]) [0, 1] (by decide) rfl
      generalize H1 = H at hP hS ⊢
      exact W.vret hx hb hr (fun t ht hW => ⟨⟨(), rfl, trivial, y_96, y_97, y_98, y_99, y_100, y_101, y_102, gy_98, gy_99, gy_101, (gi_w g_104 (by decide)), hpr0_r_95, hpr1_r_95, hpr2_r_95, (Hid.un hpr3_r_95), hpr4_r_95, by rw [ht]; exact hP, hD⟩, hS.F ht⟩) hS.2.2 dX12_word_24
    · have hc_105 : r_91.toInt ≠ 0 := fun h9 => c_92 (Int32.toInt_inj.mp (by rw [show (0 : Int32).toInt = 0 from by decide]; exact h9))
      have g_106 : gi r_91 1 1 := gi_ne_lo c_92 gr_91 (gi_c 0 0 (by decide)) (by decide)
      refine lv_iconst (v := 1) hx hb dX12_word_16 (by decide) ?_
      refine lv_goto (tgt := 21) hx hb dX12_word_17 (by decide) ?_
      have hPc := hP.sub (ws' := [(h0, .inr (12, fsMM mi mr)), ((mr 13), .inl (km_tape, 1600, .inl fm_tape))]) [0, 1] rfl
      have hKc := hK.sub (tys' := [(km_tape, .int)]) [0] rfl
      have hDc := hD.sub (ws' := [(h0, .inr (12, fsMM mi mr)), ((mr 13), .inl (km_tape, 1600, .inl fm_tape))]) [0, 1] (by decide) rfl
      have hFc := va_free (wc := [(h0, .inr (12, fsMM mi mr)), ((mr 13), .inl (km_tape, 1600, .inl fm_tape))]) hD hS hA [0, 1] rfl
      refine va_callv (va_runV (As := [.int 1]) (rest := []) ⟨hx, hb, hml, hown, hts⟩ (sX12_passesP l dC dI H.size h0 mi mr km_tape fm_tape 1 gmi_0 gmi_1 gmi_2 gmi_4 gmi_7 gmi_10 gmi_17 gmi_23 gmi_24 gmi_26 gmi_29 gmi_30 gmi_32 (gi_w g_90 (by decide)) gmi_37 gmi_41 gmi_50 gmi_51 gmi_56 (gi_w (gi_c 1 1 (by decide)) (by decide)) (show (mi 30).toInt ≤ (mi 29).toInt from by have qgr_91 := g_106.1; have rgr_91 := g_106.2; have qgmi_33 := g_90.1; have rgmi_33 := g_90.2; have qgmi_30 := gmi_30.1; have rgmi_30 := gmi_30.2; have qgmi_29 := gmi_29.1; have rgmi_29 := gmi_29.2; have qgmi_26 := gmi_26.1; have rgmi_26 := gmi_26.2; omega) (show (mi 29).toInt ≤ (mi 26).toInt from by have qgr_91 := g_106.1; have rgr_91 := g_106.2; have qgmi_33 := g_90.1; have rgmi_33 := g_90.2; have qgmi_30 := gmi_30.1; have rgmi_30 := gmi_30.2; have qgmi_29 := gmi_29.1; have rgmi_29 := gmi_29.2; have qgmi_26 := gmi_26.1; have rgmi_26 := gmi_26.2; omega) (show ((mi 31).toInt = 0 ∨ (mi 30).toInt < (mi 29).toInt) from by have qgr_91 := g_106.1; have rgr_91 := g_106.2; have qgmi_33 := g_90.1; have rgmi_33 := g_90.2; have qgmi_30 := gmi_30.1; have rgmi_30 := gmi_30.2; have qgmi_29 := gmi_29.1; have rgmi_29 := gmi_29.2; have qgmi_26 := gmi_26.1; have rgmi_26 := gmi_26.2; omega)) (cwV 1 hts (gz_gV mGB_161 mGB_162 mGB_163 mGB_1 mGB_164 goodGB) rfl rfl rfl (by decide +kernel) ⟨Nat.le_of_ble_eq_true rfl, Nat.le_of_ble_eq_true rfl⟩) ⟨fun a U g mk q => by obtain ⟨q0, q1, qP, qK, qD⟩ := q; exact ⟨q0, q1, qP, va_K.moved (u := U) (U := U.calling g mk a) (Vm.Alike.refl U.vm) qK, qD⟩, va_recv hKc hPc (ci := 12) (q0 := 0) rfl rfl, fun U hU hW => ⟨rfl, by rw [hU], by rw [hU]; exact hPc, va_K.moved hW.alike hKc, hDc.weaken (fun _ _ _ _ => trivial)⟩⟩ rfl rfl hl.1 rfl (lv_room (Nat.le_of_ble_eq_true rfl)) dX12_word_21 ⟨Nat.zero_le _, Nat.zero_le _⟩) hS (fun q _ h => hFc q h) hFc (fun u t H1 locs ht hvm hw hB hz1 hk1 hS => ?_)
      obtain ⟨y_108, y_109, y_110, y_111, y_112, y_113, y_114, gy_110, gy_111, gy_113, gy_114, hpr0_r_107, hpr1_r_107, hpr2_r_107, hpr3_r_107, hpr4_r_107, hpr5_r_107, hpr6_r_107, hP1, hD1⟩ := hB
      rw [ht] at hP1
      obtain ⟨hP, hD⟩ := va_join (wr := []) (w1 := [(h0, .inr (12, fsMM (upd (upd (upd (upd (upd (upd (upd mi 27 y_108) 28 y_109) 29 y_110) 30 y_111) 31 y_112) 32 y_113) 33 y_114) mr)), ((mr 13), .inl (km_tape, 1600, .inl fm_tape))]) hP hD [0, 1] [] rfl rfl (by decide) (by decide) hk1 hFc hP1 hD1
      have hpr0_r_107 : (mi 30).toInt ≤ y_111.toInt := hpr0_r_107
      have hpr1_r_107 : y_111.toInt ≤ y_110.toInt := hpr1_r_107
      have hpr2_r_107 : y_110.toInt ≤ (mi 26).toInt := hpr2_r_107
      have hpr3_r_107 : Hid ((y_112.toInt = 0 ∨ y_111.toInt < y_110.toInt)) := hpr3_r_107
      have hpr4_r_107 : (mi 33).toInt ≤ y_114.toInt := hpr4_r_107
      have hpr5_r_107 : Hid (((1 : Int) = 1 ∨ y_114.toInt = 1)) := by have h9 : ((1 : Int32).toInt = 1 ∨ y_114.toInt = 1) := hpr5_r_107; rw [show (1 : Int32).toInt = 1 from by decide] at h9; exact h9
      have hpr6_r_107 : Hid ((y_114.toInt = 1 ∨ (mi 29).toInt ≤ y_111.toInt)) := hpr6_r_107
      have hP := hP.sub (ws' := [(h0, .inr (12, fsMM (upd (upd (upd (upd (upd (upd (upd mi 27 y_108) 28 y_109) 29 y_110) 30 y_111) 31 y_112) 32 y_113) 33 y_114) mr)), ((mr 13), .inl (km_tape, 1600, .inl fm_tape))]) [0, 1] rfl
      have hD := hD.sub (ws' := [(h0, .inr (12, fsMM (upd (upd (upd (upd (upd (upd (upd mi 27 y_108) 28 y_109) 29 y_110) 30 y_111) 31 y_112) 32 y_113) 33 y_114) mr)), ((mr 13), .inl (km_tape, 1600, .inl fm_tape))]) [0, 1] (by decide) rfl
      generalize H1 = H at hP hS ⊢
      exact W.vret hx hb hr (fun t ht hW => ⟨⟨(), rfl, trivial, y_108, y_109, y_110, y_111, y_112, y_113, y_114, gy_110, gy_111, gy_113, gy_114, hpr0_r_107, hpr1_r_107, hpr2_r_107, (Hid.un hpr3_r_107), hpr4_r_107, by rw [ht]; exact hP, hD⟩, hS.F ht⟩) hS.2.2 dX12_word_24
