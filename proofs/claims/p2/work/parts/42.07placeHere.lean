theorem dX12_placeHere_0 : decode cX12_placeHere 0 = .ok (.aload_n 0, 1) := by decide +kernel
theorem dX12_placeHere_1 : decode cX12_placeHere 1 = .ok (.getfield 174, 3) := by decide +kernel
theorem dX12_placeHere_4 : decode cX12_placeHere 4 = .ok (.ifCond .ne 16, 3) := by decide +kernel
theorem dX12_placeHere_7 : decode cX12_placeHere 7 = .ok (.aload_n 0, 1) := by decide +kernel
theorem dX12_placeHere_8 : decode cX12_placeHere 8 = .ok (.getfield 164, 3) := by decide +kernel
theorem dX12_placeHere_11 : decode cX12_placeHere 11 = .ok (.iconst 1, 1) := by decide +kernel
theorem dX12_placeHere_12 : decode cX12_placeHere 12 = .ok (.if_icmp .eq 8, 3) := by decide +kernel
theorem dX12_placeHere_15 : decode cX12_placeHere 15 = .ok (.aload_n 0, 1) := by decide +kernel
theorem dX12_placeHere_16 : decode cX12_placeHere 16 = .ok (.iconst 1, 1) := by decide +kernel
theorem dX12_placeHere_17 : decode cX12_placeHere 17 = .ok (.invokevirtual 194, 3) := by decide +kernel
theorem dX12_placeHere_20 : decode cX12_placeHere 20 = .ok (.aload_n 0, 1) := by decide +kernel
theorem dX12_placeHere_21 : decode cX12_placeHere 21 = .ok (.getfield 174, 3) := by decide +kernel
theorem dX12_placeHere_24 : decode cX12_placeHere 24 = .ok (.ifCond .eq 7, 3) := by decide +kernel
theorem dX12_placeHere_27 : decode cX12_placeHere 27 = .ok (.iconst 0, 1) := by decide +kernel
theorem dX12_placeHere_28 : decode cX12_placeHere 28 = .ok (.goto 7, 3) := by decide +kernel
theorem dX12_placeHere_31 : decode cX12_placeHere 31 = .ok (.aload_n 0, 1) := by decide +kernel
theorem dX12_placeHere_32 : decode cX12_placeHere 32 = .ok (.invokevirtual 216, 3) := by decide +kernel
theorem dX12_placeHere_35 : decode cX12_placeHere 35 = .ok (.istore_n 1, 1) := by decide +kernel
theorem dX12_placeHere_36 : decode cX12_placeHere 36 = .ok (.iload_n 1, 1) := by decide +kernel
theorem dX12_placeHere_37 : decode cX12_placeHere 37 = .ok (.iconst (-1), 1) := by decide +kernel
theorem dX12_placeHere_38 : decode cX12_placeHere 38 = .ok (.if_icmp .ne 8, 3) := by decide +kernel
theorem dX12_placeHere_41 : decode cX12_placeHere 41 = .ok (.aload_n 0, 1) := by decide +kernel
theorem dX12_placeHere_42 : decode cX12_placeHere 42 = .ok (.iconst 2, 1) := by decide +kernel
theorem dX12_placeHere_43 : decode cX12_placeHere 43 = .ok (.invokevirtual 194, 3) := by decide +kernel
theorem dX12_placeHere_46 : decode cX12_placeHere 46 = .ok (.aload_n 0, 1) := by decide +kernel
theorem dX12_placeHere_47 : decode cX12_placeHere 47 = .ok (.iconst 1, 1) := by decide +kernel
theorem dX12_placeHere_48 : decode cX12_placeHere 48 = .ok (.invokevirtual 205, 3) := by decide +kernel
theorem dX12_placeHere_51 : decode cX12_placeHere 51 = .ok (.iconst 0, 1) := by decide +kernel
theorem dX12_placeHere_52 : decode cX12_placeHere 52 = .ok (.iload_n 1, 1) := by decide +kernel
theorem dX12_placeHere_53 : decode cX12_placeHere 53 = .ok (.invokestatic 219, 3) := by decide +kernel
theorem dX12_placeHere_56 : decode cX12_placeHere 56 = .ok (.ireturn, 1) := by decide +kernel
set_option maxHeartbeats 4000000 in
set_option maxRecDepth 100000 in
theorem sX12_placeHereP (l : Launch) (dC : Nat → ClassId) (dI : Nat → Nat → Nat) (sz : Nat) (h0 : Nat) (mi : Nat → Int32) (mr : Nat → Nat) (km_tape : ClassId) (fm_tape : Nat → Int32) (km_letter : ClassId) (fm_letter : Nat → Int32) (gmi_0 : gi (mi 0) 0 100000) (gmi_1 : gi (mi 1) 0 100000) (gmi_2 : gi (mi 2) 0 100000) (gmi_4 : gi (mi 4) 0 1) (gmi_7 : gi (mi 7) 0 6) (gmi_10 : gi (mi 10) 0 24) (gmi_17 : gi (mi 17) 0 8) (gmi_23 : gi (mi 23) 0 300) (gmi_24 : gi (mi 24) 0 1) (gmi_26 : gi (mi 26) 0 1600) (gmi_29 : gi (mi 29) 0 1600) (gmi_30 : gi (mi 30) 0 1600) (gmi_32 : gi (mi 32) 0 100000) (gmi_33 : gi (mi 33) 0 1) (gmi_37 : gi (mi 37) 0 1) (gmi_41 : gi (mi 41) 0 24) (gmi_50 : gi (mi 50) 0 1) (gmi_51 : gi (mi 51) 0 1) (gmi_56 : gi (mi 56) 0 80) (hpq0 : (mi 30).toInt ≤ (mi 29).toInt) (hpq1 : (mi 29).toInt ≤ (mi 26).toInt) (hpq2 : ((mi 31).toInt = 0 ∨ (mi 30).toInt < (mi 29).toInt)) : Met l yX12_placeHere (.code yX12_placeHere cX12_placeHere 2 (some .int) :: wsGB) ({ frames := 4, cells := 0, slots := 0, locals := 88 }) (va_Pc [.ref h0] (fun U => U.heap.size = sz ∧ va_P (dC, dI) vwCl [(h0, .inr (12, fsMM mi mr)), ((mr 13), .inl (km_tape, 1600, .inl fm_tape)), ((mr 1), .inl (km_letter, 36, .inl fm_letter))] U.heap ∧ va_K (dC, dI) vwCl [(km_tape, .int), (km_letter, .int)] U ∧ va_D (fun _ => True) [(h0, .inr (12, fsMM mi mr)), ((mr 13), .inl (km_tape, 1600, .inl fm_tape)), ((mr 1), .inl (km_letter, 36, .inl fm_letter))])) (va_Qi (fun (r : Int32) (u : Unit) => gi r 0 5) (fun _ t => ∃ (w0_27 : Int32) (w0_28 : Int32) (w0_29 : Int32) (w0_30 : Int32) (w0_31 : Int32) (w0_32 : Int32) (w0_33 : Int32), gi w0_29 0 1600 ∧ gi w0_30 0 1600 ∧ gi w0_32 0 100000 ∧ gi w0_33 0 1 ∧ (mi 30).toInt ≤ w0_30.toInt ∧ w0_30.toInt ≤ w0_29.toInt ∧ w0_29.toInt ≤ (mi 26).toInt ∧ (w0_31.toInt = 0 ∨ w0_30.toInt < w0_29.toInt) ∧ (mi 33).toInt ≤ w0_33.toInt ∧ va_P (dC, dI) vwCl [(h0, .inr (12, fsMM (upd (upd (upd (upd (upd (upd (upd mi 27 w0_27) 28 w0_28) 29 w0_29) 30 w0_30) 31 w0_31) 32 w0_32) 33 w0_33) mr)), ((mr 13), .inl (km_tape, 1600, .inl fm_tape)), ((mr 1), .inl (km_letter, 36, .inl fm_letter))] t.heap ∧ va_D (va_A [(h0, .inr (12, fsMM mi mr)), ((mr 13), .inl (km_tape, 1600, .inl fm_tape)), ((mr 1), .inl (km_letter, 36, .inl fm_letter))] sz) [(h0, .inr (12, fsMM (upd (upd (upd (upd (upd (upd (upd mi 27 w0_27) 28 w0_28) 29 w0_29) 30 w0_30) 31 w0_31) 32 w0_32) 33 w0_33) mr)), ((mr 13), .inl (km_tape, 1600, .inl fm_tape)), ((mr 1), .inl (km_letter, 36, .inl fm_letter))]) (va_A [(h0, .inr (12, fsMM mi mr)), ((mr 13), .inl (km_tape, 1600, .inl fm_tape)), ((mr 1), .inl (km_letter, 36, .inl fm_letter))] sz)) 0 0 (va_A [(h0, .inr (12, fsMM mi mr)), ((mr 13), .inl (km_tape, 1600, .inl fm_tape)), ((mr 1), .inl (km_letter, 36, .inl fm_letter))] sz) := by
  refine Met.ofW (cc := cX12_placeHere) (maxL := 2) (ret := (some .int)) (by decide) rfl ?_
  intro p e s m args below meth c s₁ B hml hv
  obtain ⟨rfl, hsz, hP, hK, hD0⟩ := hv
  have hx := B.exec
  have hb := B.bytes
  have hr := B.returns
  have hts := atoms_spec (ws := (.code yX12_placeHere cX12_placeHere 2 (some .int) :: wsGB)) B.pre
  have hown : s.vm.findClass RX12 = some m.cls := findClass_of_methodNamed B.named
  have hlocks := B.notSynchronized
  subst hsz
  have hD := hD0.self (sz := s.heap.size)
  generalize hAe : va_A [(h0, .inr (12, fsMM mi mr)), ((mr 13), .inl (km_tape, 1600, .inl fm_tape)), ((mr 1), .inl (km_letter, 36, .inl fm_letter))] s.heap.size = A at hD ⊢
  have hA : ∀ q : Nat, s.heap.size ≤ q → A q := fun q h => by rw [← hAe]; exact Or.inr h
  have hS : va_S A s.heap s.heap [] := va_S.rf
  have hl := lv_entry ([.ref h0]) (n := 2) (Nat.le_of_ble_eq_true rfl)
  rw [lg_entry_eq]
  generalize (lg_sl ([.ref h0]) ++ List.replicate (2 - (lg_sl ([.ref h0])).length) Slot.unset).toArray = ls at hl ⊢
  have hl : lv_has ls 2 [(0, .ref h0)] := hl
  refine lv_aload_n hx hb dX12_placeHere_0 rfl (lv_at hl 0 rfl) ?_
  refine va_get (D := (dC, dI)) (ci := 12) (v := .int (mi 33)) (C := RX12) (T := TX12) (N := 57) hx hb hts (fun w h => List.mem_cons_of_mem _ (jnGB_X12 w h)) hown hK hP 0 rfl rfl 33 (by decide) (hts _ (List.mem_cons_of_mem _ mGB_114)) (fun _ h9 => h9) rfl dX12_placeHere_1 ?_
  refine lv_if_ne (tgt := 20) hx hb dX12_placeHere_4 (by decide) (fun c_139 => ?_) (fun c_139 => ?_)
  · have hc_140 : (mi 33).toInt ≠ 0 := fun h9 => c_139 (Int32.toInt_inj.mp (by rw [show (0 : Int32).toInt = 0 from by decide]; exact h9))
    have g_141 : gi (mi 33) 1 1 := gi_ne_lo c_139 gmi_33 (gi_c 0 0 (by decide)) (by decide)
    refine lv_aload_n hx hb dX12_placeHere_20 rfl (lv_at hl 0 rfl) ?_
    refine va_get (D := (dC, dI)) (ci := 12) (v := .int (mi 33)) (C := RX12) (T := TX12) (N := 57) hx hb hts (fun w h => List.mem_cons_of_mem _ (jnGB_X12 w h)) hown hK hP 0 rfl rfl 33 (by decide) (hts _ (List.mem_cons_of_mem _ mGB_114)) (fun _ h9 => h9) rfl dX12_placeHere_21 ?_
    refine lv_if_eq (tgt := 31) hx hb dX12_placeHere_24 (by decide) (fun c_142 => absurd c_142 (gi_no_eq g_141 (gi_c 0 0 (by decide)) (by decide))) (fun c_142 => ?_)
    refine lv_iconst (v := 0) hx hb dX12_placeHere_27 (by decide) ?_
    refine lv_goto (tgt := 35) hx hb dX12_placeHere_28 (by decide) ?_
    refine lv_istore_n (lv' := [(1, .int 0), (0, .ref h0)]) hx hb dX12_placeHere_35 rfl hl (by decide) rfl (fun ls hl => ?_)
    refine lv_iload_n hx hb dX12_placeHere_36 rfl (lv_at hl 0 rfl) ?_
    refine lv_iconst (v := (-1)) hx hb dX12_placeHere_37 (by decide) ?_
    refine lv_icmp_ne (tgt := 46) hx hb dX12_placeHere_38 (by decide) (fun c_143 => ?_) (fun c_143 => absurd c_143 (gi_no_eq (gi_c 0 0 (by decide)) (gi_c (-1) (-1) (by decide)) (by decide)))
    refine lv_aload_n hx hb dX12_placeHere_46 rfl (lv_at hl 1 rfl) ?_
    refine lv_iconst (v := 1) hx hb dX12_placeHere_47 (by decide) ?_
    have hPc := hP.sub (ws' := [(h0, .inr (12, fsMM mi mr)), ((mr 13), .inl (km_tape, 1600, .inl fm_tape))]) [0, 1] rfl
    have hKc := hK.sub (tys' := [(km_tape, .int)]) [0] rfl
    have hDc := hD.sub (ws' := [(h0, .inr (12, fsMM mi mr)), ((mr 13), .inl (km_tape, 1600, .inl fm_tape))]) [0, 1] (by decide) rfl
    have hFc := va_free (wc := [(h0, .inr (12, fsMM mi mr)), ((mr 13), .inl (km_tape, 1600, .inl fm_tape))]) hD hS hA [0, 1] rfl
    refine va_callv (va_runV (As := [.int 1]) (rest := []) ⟨hx, hb, hml, hown, hts⟩ (sX12_passesP l dC dI s.heap.size h0 mi mr km_tape fm_tape 1 gmi_0 gmi_1 gmi_2 gmi_4 gmi_7 gmi_10 gmi_17 gmi_23 gmi_24 gmi_26 gmi_29 gmi_30 gmi_32 (gi_w g_141 (by decide)) gmi_37 gmi_41 gmi_50 gmi_51 gmi_56 (gi_w (gi_c 1 1 (by decide)) (by decide)) (show (mi 30).toInt ≤ (mi 29).toInt from by have qgmi_33 := g_141.1; have rgmi_33 := g_141.2; have qgmi_30 := gmi_30.1; have rgmi_30 := gmi_30.2; have qgmi_29 := gmi_29.1; have rgmi_29 := gmi_29.2; have qgmi_26 := gmi_26.1; have rgmi_26 := gmi_26.2; omega) (show (mi 29).toInt ≤ (mi 26).toInt from by have qgmi_33 := g_141.1; have rgmi_33 := g_141.2; have qgmi_30 := gmi_30.1; have rgmi_30 := gmi_30.2; have qgmi_29 := gmi_29.1; have rgmi_29 := gmi_29.2; have qgmi_26 := gmi_26.1; have rgmi_26 := gmi_26.2; omega) (show ((mi 31).toInt = 0 ∨ (mi 30).toInt < (mi 29).toInt) from by have qgmi_33 := g_141.1; have rgmi_33 := g_141.2; have qgmi_30 := gmi_30.1; have rgmi_30 := gmi_30.2; have qgmi_29 := gmi_29.1; have rgmi_29 := gmi_29.2; have qgmi_26 := gmi_26.1; have rgmi_26 := gmi_26.2; omega)) (cwV 1 hts (gz_gV mGB_161 mGB_162 mGB_163 mGB_1 mGB_164 goodGB) rfl rfl rfl (by decide +kernel) ⟨Nat.le_of_ble_eq_true rfl, Nat.le_of_ble_eq_true rfl⟩) ⟨fun a U g mk q => by obtain ⟨q0, q1, qP, qK, qD⟩ := q; exact ⟨q0, q1, qP, va_K.moved (u := U) (U := U.calling g mk a) (Vm.Alike.refl U.vm) qK, qD⟩, va_recv hKc hPc (ci := 12) (q0 := 0) rfl rfl, fun U hU hW => ⟨rfl, by rw [hU], by rw [hU]; exact hPc, va_K.moved hW.alike hKc, hDc.weaken (fun _ _ _ _ => trivial)⟩⟩ rfl rfl hl.1 rfl (lv_room (Nat.le_of_ble_eq_true rfl)) dX12_placeHere_48 ⟨Nat.zero_le _, Nat.zero_le _⟩) hS (fun q _ h => hFc q h) hFc (fun u t H1 locs ht hvm hw hB hz1 hk1 hS => ?_)
    obtain ⟨y_145, y_146, y_147, y_148, y_149, y_150, y_151, gy_147, gy_148, gy_150, gy_151, hpr0_r_144, hpr1_r_144, hpr2_r_144, hpr3_r_144, hpr4_r_144, hpr5_r_144, hpr6_r_144, hP1, hD1⟩ := hB
    rw [ht] at hP1
    obtain ⟨hP, hD⟩ := va_join (wr := [((mr 1), .inl (km_letter, 36, .inl fm_letter))]) (w1 := [(h0, .inr (12, fsMM (upd (upd (upd (upd (upd (upd (upd mi 27 y_145) 28 y_146) 29 y_147) 30 y_148) 31 y_149) 32 y_150) 33 y_151) mr)), ((mr 13), .inl (km_tape, 1600, .inl fm_tape))]) hP hD [0, 1] [2] rfl rfl (by decide) (by decide) hk1 hFc hP1 hD1
    have hpr0_r_144 : (mi 30).toInt ≤ y_148.toInt := hpr0_r_144
    have hpr1_r_144 : y_148.toInt ≤ y_147.toInt := hpr1_r_144
    have hpr2_r_144 : y_147.toInt ≤ (mi 26).toInt := hpr2_r_144
    have hpr3_r_144 : Hid ((y_149.toInt = 0 ∨ y_148.toInt < y_147.toInt)) := hpr3_r_144
    have hpr4_r_144 : (mi 33).toInt ≤ y_151.toInt := hpr4_r_144
    have g_152 : gi y_151 1 1 := gi_relL (show (mi 33).toInt ≤ y_151.toInt from by omega) g_141 gy_151
    have hpr5_r_144 : Hid (((1 : Int) = 1 ∨ y_151.toInt = 1)) := by have h9 : ((1 : Int32).toInt = 1 ∨ y_151.toInt = 1) := hpr5_r_144; rw [show (1 : Int32).toInt = 1 from by decide] at h9; exact h9
    have hpr6_r_144 : Hid ((y_151.toInt = 1 ∨ (mi 29).toInt ≤ y_148.toInt)) := hpr6_r_144
    have hP := hP.sub (ws' := [(h0, .inr (12, fsMM (upd (upd (upd (upd (upd (upd (upd mi 27 y_145) 28 y_146) 29 y_147) 30 y_148) 31 y_149) 32 y_150) 33 y_151) mr)), ((mr 13), .inl (km_tape, 1600, .inl fm_tape)), ((mr 1), .inl (km_letter, 36, .inl fm_letter))]) [1, 2, 0] rfl
    have hD := hD.sub (ws' := [(h0, .inr (12, fsMM (upd (upd (upd (upd (upd (upd (upd mi 27 y_145) 28 y_146) 29 y_147) 30 y_148) 31 y_149) 32 y_150) 33 y_151) mr)), ((mr 13), .inl (km_tape, 1600, .inl fm_tape)), ((mr 1), .inl (km_letter, 36, .inl fm_letter))]) [1, 2, 0] (by decide) rfl
    generalize H1 = H at hP hS ⊢
    refine lv_iconst (v := 0) hx hb dX12_placeHere_51 (by decide) ?_
    refine lv_iload_n hx hb dX12_placeHere_52 rfl (lv_at hl 0 rfl) ?_
    refine va_mmax (own := RX12) hx hb (by rw [hml]; exact hl.1.symm) hown (hts _ (List.mem_cons_of_mem _ mGB_202)) (hts _ (List.mem_cons_of_mem _ mGB_203)) (hts _ (List.mem_cons_of_mem _ mGB_98)) (hts _ (List.mem_cons_of_mem _ mGB_204)) (Nat.le_of_ble_eq_true rfl) (Nat.le_of_ble_eq_true rfl) (Nat.zero_le _) (Nat.zero_le _) dX12_placeHere_53 ?_
    refine lv_topi (fun x_153 ex_153 => ?_)
    have gx_153 : gi x_153 0 0 := gi_max ex_153 (gi_c 0 0 (by decide)) (gi_c 0 0 (by decide)) (by decide)
    exact W.iret (v := x_153) hx hb hr (fun t ht hW => ⟨⟨x_153, (), rfl, (gi_w gx_153 (by decide)), y_145, y_146, y_147, y_148, y_149, y_150, y_151, gy_147, gy_148, gy_150, (gi_w g_152 (by decide)), hpr0_r_144, hpr1_r_144, hpr2_r_144, (Hid.un hpr3_r_144), hpr4_r_144, by rw [ht]; exact hP, hD⟩, hS.F ht⟩) hS.2.2 dX12_placeHere_56
  · have hc_154 : (mi 33).toInt = 0 := by have h9 := congrArg Int32.toInt c_139; rw [show (0 : Int32).toInt = 0 from by decide] at h9; exact h9
    have g_155 : gi (mi 33) 0 0 := gi_eq c_139 (gi_c 0 0 (by decide))
    refine lv_aload_n hx hb dX12_placeHere_7 rfl (lv_at hl 0 rfl) ?_
    refine va_get (D := (dC, dI)) (ci := 12) (v := .int (mi 31)) (C := RX12) (T := TX12) (N := 57) hx hb hts (fun w h => List.mem_cons_of_mem _ (jnGB_X12 w h)) hown hK hP 0 rfl rfl 31 (by decide) (hts _ (List.mem_cons_of_mem _ mGB_116)) (fun _ h9 => h9) rfl dX12_placeHere_8 ?_
    refine lv_iconst (v := 1) hx hb dX12_placeHere_11 (by decide) ?_
    refine lv_icmp_eq (tgt := 20) hx hb dX12_placeHere_12 (by decide) (fun c_156 => ?_) (fun c_156 => ?_)
    · have hc_157 : (mi 31).toInt = 1 := by have h9 := congrArg Int32.toInt c_156; rw [show (1 : Int32).toInt = 1 from by decide] at h9; exact h9
      have g_158 : gi (mi 31) 1 1 := gi_eq c_156 (gi_c 1 1 (by decide))
      refine lv_aload_n hx hb dX12_placeHere_20 rfl (lv_at hl 0 rfl) ?_
      refine va_get (D := (dC, dI)) (ci := 12) (v := .int (mi 33)) (C := RX12) (T := TX12) (N := 57) hx hb hts (fun w h => List.mem_cons_of_mem _ (jnGB_X12 w h)) hown hK hP 0 rfl rfl 33 (by decide) (hts _ (List.mem_cons_of_mem _ mGB_114)) (fun _ h9 => h9) rfl dX12_placeHere_21 ?_
      refine lv_if_eq (tgt := 31) hx hb dX12_placeHere_24 (by decide) (fun c_159 => ?_) (fun c_159 => absurd (gi_is_eq g_155 (gi_c 0 0 (by decide))) c_159)
      refine lv_aload_n hx hb dX12_placeHere_31 rfl (lv_at hl 0 rfl) ?_
      have hPc := hP.sub (ws' := [(h0, .inr (12, fsMM mi mr)), ((mr 13), .inl (km_tape, 1600, .inl fm_tape)), ((mr 1), .inl (km_letter, 36, .inl fm_letter))]) [0, 1, 2] rfl
      have hKc := hK.sub (tys' := [(km_tape, .int), (km_letter, .int)]) [0, 1] rfl
      refine va_calli (va_runV (As := []) (rest := []) ⟨hx, hb, hml, hown, hts⟩ (sX12_namedP l dC dI h0 mi mr km_tape fm_tape km_letter fm_letter gmi_0 gmi_1 gmi_2 gmi_4 gmi_7 gmi_10 gmi_17 gmi_23 gmi_24 gmi_26 gmi_29 gmi_30 gmi_32 (gi_w g_155 (by decide)) gmi_37 gmi_41 gmi_50 gmi_51 gmi_56 (show (mi 30).toInt ≤ (mi 29).toInt from by have qgmi_33 := g_155.1; have rgmi_33 := g_155.2; have qgmi_31 := g_158.1; have rgmi_31 := g_158.2; have qgmi_30 := gmi_30.1; have rgmi_30 := gmi_30.2; have qgmi_29 := gmi_29.1; have rgmi_29 := gmi_29.2; have qgmi_26 := gmi_26.1; have rgmi_26 := gmi_26.2; omega) (show (mi 29).toInt ≤ (mi 26).toInt from by have qgmi_33 := g_155.1; have rgmi_33 := g_155.2; have qgmi_31 := g_158.1; have rgmi_31 := g_158.2; have qgmi_30 := gmi_30.1; have rgmi_30 := gmi_30.2; have qgmi_29 := gmi_29.1; have rgmi_29 := gmi_29.2; have qgmi_26 := gmi_26.1; have rgmi_26 := gmi_26.2; omega) (show ((mi 31).toInt = 0 ∨ (mi 30).toInt < (mi 29).toInt) from by have qgmi_33 := g_155.1; have rgmi_33 := g_155.2; have qgmi_31 := g_158.1; have rgmi_31 := g_158.2; have qgmi_30 := gmi_30.1; have rgmi_30 := gmi_30.2; have qgmi_29 := gmi_29.1; have rgmi_29 := gmi_29.2; have qgmi_26 := gmi_26.1; have rgmi_26 := gmi_26.2; omega)) (cwV 0 hts (gz_gV mGB_190 mGB_191 mGB_192 mGB_1 mGB_193 goodGB) rfl rfl rfl (by decide +kernel) ⟨Nat.le_of_ble_eq_true rfl, Nat.le_of_ble_eq_true rfl⟩) ⟨fun a U g mk q => by obtain ⟨q0, qP, qK⟩ := q; exact ⟨q0, qP, va_K.moved (u := U) (U := U.calling g mk a) (Vm.Alike.refl U.vm) qK⟩, va_recv hKc hPc (ci := 12) (q0 := 0) rfl rfl, fun U hU hW => ⟨rfl, by rw [hU]; exact hPc, va_K.moved hW.alike hKc⟩⟩ rfl rfl hl.1 rfl (lv_room (Nat.le_of_ble_eq_true rfl)) dX12_placeHere_32 ⟨Nat.zero_le _, Nat.zero_le _⟩) hS (fun q _ h => h.elim) (fun q h => h.elim) (fun r_160 u t H1 locs ht hvm hw hB hz1 hk1 hS => ?_)
      have hP := gz_keep hP hk1
      generalize H1 = H at hP hS ⊢
      have gr_160 : gi r_160 (-1) 5 := hw
      refine lv_istore_n (lv' := [(1, .int r_160), (0, .ref h0)]) hx hb dX12_placeHere_35 rfl hl (by decide) rfl (fun ls hl => ?_)
      refine lv_iload_n hx hb dX12_placeHere_36 rfl (lv_at hl 0 rfl) ?_
      refine lv_iconst (v := (-1)) hx hb dX12_placeHere_37 (by decide) ?_
      refine lv_icmp_ne (tgt := 46) hx hb dX12_placeHere_38 (by decide) (fun c_161 => ?_) (fun c_161 => ?_)
      · have hc_162 : r_160.toInt ≠ (-1) := fun h9 => c_161 (Int32.toInt_inj.mp (by rw [show ((-1) : Int32).toInt = (-1) from by decide]; exact h9))
        have g_163 : gi r_160 0 5 := gi_ne_lo c_161 gr_160 (gi_c (-1) (-1) (by decide)) (by decide)
        refine lv_aload_n hx hb dX12_placeHere_46 rfl (lv_at hl 1 rfl) ?_
        refine lv_iconst (v := 1) hx hb dX12_placeHere_47 (by decide) ?_
        have hPc := hP.sub (ws' := [(h0, .inr (12, fsMM mi mr)), ((mr 13), .inl (km_tape, 1600, .inl fm_tape))]) [0, 1] rfl
        have hKc := hK.sub (tys' := [(km_tape, .int)]) [0] rfl
        have hDc := hD.sub (ws' := [(h0, .inr (12, fsMM mi mr)), ((mr 13), .inl (km_tape, 1600, .inl fm_tape))]) [0, 1] (by decide) rfl
        have hFc := va_free (wc := [(h0, .inr (12, fsMM mi mr)), ((mr 13), .inl (km_tape, 1600, .inl fm_tape))]) hD hS hA [0, 1] rfl
        refine va_callv (va_runV (As := [.int 1]) (rest := []) ⟨hx, hb, hml, hown, hts⟩ (sX12_passesP l dC dI H.size h0 mi mr km_tape fm_tape 1 gmi_0 gmi_1 gmi_2 gmi_4 gmi_7 gmi_10 gmi_17 gmi_23 gmi_24 gmi_26 gmi_29 gmi_30 gmi_32 (gi_w g_155 (by decide)) gmi_37 gmi_41 gmi_50 gmi_51 gmi_56 (gi_w (gi_c 1 1 (by decide)) (by decide)) (show (mi 30).toInt ≤ (mi 29).toInt from by have qgr_160 := g_163.1; have rgr_160 := g_163.2; have qgmi_33 := g_155.1; have rgmi_33 := g_155.2; have qgmi_31 := g_158.1; have rgmi_31 := g_158.2; have qgmi_30 := gmi_30.1; have rgmi_30 := gmi_30.2; have qgmi_29 := gmi_29.1; have rgmi_29 := gmi_29.2; have qgmi_26 := gmi_26.1; have rgmi_26 := gmi_26.2; omega) (show (mi 29).toInt ≤ (mi 26).toInt from by have qgr_160 := g_163.1; have rgr_160 := g_163.2; have qgmi_33 := g_155.1; have rgmi_33 := g_155.2; have qgmi_31 := g_158.1; have rgmi_31 := g_158.2; have qgmi_30 := gmi_30.1; have rgmi_30 := gmi_30.2; have qgmi_29 := gmi_29.1; have rgmi_29 := gmi_29.2; have qgmi_26 := gmi_26.1; have rgmi_26 := gmi_26.2; omega) (show ((mi 31).toInt = 0 ∨ (mi 30).toInt < (mi 29).toInt) from by have qgr_160 := g_163.1; have rgr_160 := g_163.2; have qgmi_33 := g_155.1; have rgmi_33 := g_155.2; have qgmi_31 := g_158.1; have rgmi_31 := g_158.2; have qgmi_30 := gmi_30.1; have rgmi_30 := gmi_30.2; have qgmi_29 := gmi_29.1; have rgmi_29 := gmi_29.2; have qgmi_26 := gmi_26.1; have rgmi_26 := gmi_26.2; omega)) (cwV 1 hts (gz_gV mGB_161 mGB_162 mGB_163 mGB_1 mGB_164 goodGB) rfl rfl rfl (by decide +kernel) ⟨Nat.le_of_ble_eq_true rfl, Nat.le_of_ble_eq_true rfl⟩) ⟨fun a U g mk q => by obtain ⟨q0, q1, qP, qK, qD⟩ := q; exact ⟨q0, q1, qP, va_K.moved (u := U) (U := U.calling g mk a) (Vm.Alike.refl U.vm) qK, qD⟩, va_recv hKc hPc (ci := 12) (q0 := 0) rfl rfl, fun U hU hW => ⟨rfl, by rw [hU], by rw [hU]; exact hPc, va_K.moved hW.alike hKc, hDc.weaken (fun _ _ _ _ => trivial)⟩⟩ rfl rfl hl.1 rfl (lv_room (Nat.le_of_ble_eq_true rfl)) dX12_placeHere_48 ⟨Nat.zero_le _, Nat.zero_le _⟩) hS (fun q _ h => hFc q h) hFc (fun u t H1 locs ht hvm hw hB hz1 hk1 hS => ?_)
        obtain ⟨y_165, y_166, y_167, y_168, y_169, y_170, y_171, gy_167, gy_168, gy_170, gy_171, hpr0_r_164, hpr1_r_164, hpr2_r_164, hpr3_r_164, hpr4_r_164, hpr5_r_164, hpr6_r_164, hP1, hD1⟩ := hB
        rw [ht] at hP1
        obtain ⟨hP, hD⟩ := va_join (wr := [((mr 1), .inl (km_letter, 36, .inl fm_letter))]) (w1 := [(h0, .inr (12, fsMM (upd (upd (upd (upd (upd (upd (upd mi 27 y_165) 28 y_166) 29 y_167) 30 y_168) 31 y_169) 32 y_170) 33 y_171) mr)), ((mr 13), .inl (km_tape, 1600, .inl fm_tape))]) hP hD [0, 1] [2] rfl rfl (by decide) (by decide) hk1 hFc hP1 hD1
        have hpr0_r_164 : (mi 30).toInt ≤ y_168.toInt := hpr0_r_164
        have hpr1_r_164 : y_168.toInt ≤ y_167.toInt := hpr1_r_164
        have hpr2_r_164 : y_167.toInt ≤ (mi 26).toInt := hpr2_r_164
        have hpr3_r_164 : Hid ((y_169.toInt = 0 ∨ y_168.toInt < y_167.toInt)) := hpr3_r_164
        have hpr4_r_164 : (mi 33).toInt ≤ y_171.toInt := hpr4_r_164
        have hpr5_r_164 : Hid (((1 : Int) = 1 ∨ y_171.toInt = 1)) := by have h9 : ((1 : Int32).toInt = 1 ∨ y_171.toInt = 1) := hpr5_r_164; rw [show (1 : Int32).toInt = 1 from by decide] at h9; exact h9
        have hpr6_r_164 : Hid ((y_171.toInt = 1 ∨ (mi 29).toInt ≤ y_168.toInt)) := hpr6_r_164
        have hP := hP.sub (ws' := [(h0, .inr (12, fsMM (upd (upd (upd (upd (upd (upd (upd mi 27 y_165) 28 y_166) 29 y_167) 30 y_168) 31 y_169) 32 y_170) 33 y_171) mr)), ((mr 13), .inl (km_tape, 1600, .inl fm_tape)), ((mr 1), .inl (km_letter, 36, .inl fm_letter))]) [1, 2, 0] rfl
        have hD := hD.sub (ws' := [(h0, .inr (12, fsMM (upd (upd (upd (upd (upd (upd (upd mi 27 y_165) 28 y_166) 29 y_167) 30 y_168) 31 y_169) 32 y_170) 33 y_171) mr)), ((mr 13), .inl (km_tape, 1600, .inl fm_tape)), ((mr 1), .inl (km_letter, 36, .inl fm_letter))]) [1, 2, 0] (by decide) rfl
        generalize H1 = H at hP hS ⊢
        refine lv_iconst (v := 0) hx hb dX12_placeHere_51 (by decide) ?_
        refine lv_iload_n hx hb dX12_placeHere_52 rfl (lv_at hl 0 rfl) ?_
        refine va_mmax (own := RX12) hx hb (by rw [hml]; exact hl.1.symm) hown (hts _ (List.mem_cons_of_mem _ mGB_202)) (hts _ (List.mem_cons_of_mem _ mGB_203)) (hts _ (List.mem_cons_of_mem _ mGB_98)) (hts _ (List.mem_cons_of_mem _ mGB_204)) (Nat.le_of_ble_eq_true rfl) (Nat.le_of_ble_eq_true rfl) (Nat.zero_le _) (Nat.zero_le _) dX12_placeHere_53 ?_
        refine lv_topi (fun x_172 ex_172 => ?_)
        have gx_172 : gi x_172 0 5 := gi_max ex_172 (gi_c 0 0 (by decide)) g_163 (by decide)
        exact W.iret (v := x_172) hx hb hr (fun t ht hW => ⟨⟨x_172, (), rfl, gx_172, y_165, y_166, y_167, y_168, y_169, y_170, y_171, gy_167, gy_168, gy_170, gy_171, hpr0_r_164, hpr1_r_164, hpr2_r_164, (Hid.un hpr3_r_164), hpr4_r_164, by rw [ht]; exact hP, hD⟩, hS.F ht⟩) hS.2.2 dX12_placeHere_56
      · have hc_173 : r_160.toInt = (-1) := by have h9 := congrArg Int32.toInt c_161; rw [show ((-1) : Int32).toInt = (-1) from by decide] at h9; exact h9
        have g_174 : gi r_160 (-1) (-1) := gi_eq c_161 (gi_c (-1) (-1) (by decide))
        refine lv_aload_n hx hb dX12_placeHere_41 rfl (lv_at hl 1 rfl) ?_
        refine lv_iconst (v := 2) hx hb dX12_placeHere_42 (by decide) ?_
        have hPc := hP.sub (ws' := [(h0, .inr (12, fsMM mi mr))]) [0] rfl
        have hKc := hK.sub (tys' := []) [] rfl
        have hDc := hD.sub (ws' := [(h0, .inr (12, fsMM mi mr))]) [0] (by decide) rfl
        have hFc := va_free (wc := [(h0, .inr (12, fsMM mi mr))]) hD hS hA [0] rfl
        refine va_callv (va_runV (As := [.int 2]) (rest := []) ⟨hx, hb, hml, hown, hts⟩ (sX12_faultsP l dC dI H.size h0 mi mr 2 gmi_0 gmi_1 gmi_2 gmi_4 gmi_7 gmi_10 gmi_17 gmi_23 gmi_24 gmi_26 gmi_29 gmi_30 gmi_32 (gi_w g_155 (by decide)) gmi_37 gmi_41 gmi_50 gmi_51 gmi_56) (cwV 1 hts (gz_gV mGB_165 mGB_166 mGB_167 mGB_1 mGB_168 goodGB) rfl rfl rfl (by decide +kernel) ⟨Nat.le_of_ble_eq_true rfl, Nat.le_of_ble_eq_true rfl⟩) ⟨fun a U g mk q => by obtain ⟨q0, q1, qP, qK, qD⟩ := q; exact ⟨q0, q1, qP, va_K.moved (u := U) (U := U.calling g mk a) (Vm.Alike.refl U.vm) qK, qD⟩, va_recv hKc hPc (ci := 12) (q0 := 0) rfl rfl, fun U hU hW => ⟨rfl, by rw [hU], by rw [hU]; exact hPc, va_K.moved hW.alike hKc, hDc.weaken (fun _ _ _ _ => trivial)⟩⟩ rfl rfl hl.1 rfl (lv_room (Nat.le_of_ble_eq_true rfl)) dX12_placeHere_43 ⟨Nat.zero_le _, Nat.zero_le _⟩) hS (fun q _ h => hFc q h) hFc (fun u t H1 locs ht hvm hw hB hz1 hk1 hS => ?_)
        obtain ⟨y_176, y_177, y_178, gy_178, hpr0_r_175, hP1, hD1⟩ := hB
        rw [ht] at hP1
        obtain ⟨hP, hD⟩ := va_join (wr := [((mr 13), .inl (km_tape, 1600, .inl fm_tape)), ((mr 1), .inl (km_letter, 36, .inl fm_letter))]) (w1 := [(h0, .inr (12, fsMM (upd (upd (upd mi 27 y_176) 28 y_177) 33 y_178) mr))]) hP hD [0] [1, 2] rfl rfl (by decide) (by decide) hk1 hFc hP1 hD1
        have hpr0_r_175 : y_178.toInt = 1 := hpr0_r_175
        have g_179 : gi y_178 1 1 := ⟨by omega, by omega⟩
        have hP := hP.sub (ws' := [(h0, .inr (12, fsMM (upd (upd (upd mi 27 y_176) 28 y_177) 33 y_178) mr)), ((mr 13), .inl (km_tape, 1600, .inl fm_tape)), ((mr 1), .inl (km_letter, 36, .inl fm_letter))]) [2, 0, 1] rfl
        have hD := hD.sub (ws' := [(h0, .inr (12, fsMM (upd (upd (upd mi 27 y_176) 28 y_177) 33 y_178) mr)), ((mr 13), .inl (km_tape, 1600, .inl fm_tape)), ((mr 1), .inl (km_letter, 36, .inl fm_letter))]) [2, 0, 1] (by decide) rfl
        generalize H1 = H at hP hS ⊢
        refine lv_aload_n hx hb dX12_placeHere_46 rfl (lv_at hl 1 rfl) ?_
        refine lv_iconst (v := 1) hx hb dX12_placeHere_47 (by decide) ?_
        have hPc := hP.sub (ws' := [(h0, .inr (12, fsMM (upd (upd (upd mi 27 y_176) 28 y_177) 33 y_178) mr)), ((mr 13), .inl (km_tape, 1600, .inl fm_tape))]) [0, 1] rfl
        have hKc := hK.sub (tys' := [(km_tape, .int)]) [0] rfl
        have hDc := hD.sub (ws' := [(h0, .inr (12, fsMM (upd (upd (upd mi 27 y_176) 28 y_177) 33 y_178) mr)), ((mr 13), .inl (km_tape, 1600, .inl fm_tape))]) [0, 1] (by decide) rfl
        have hFc := va_free (wc := [(h0, .inr (12, fsMM (upd (upd (upd mi 27 y_176) 28 y_177) 33 y_178) mr)), ((mr 13), .inl (km_tape, 1600, .inl fm_tape))]) hD hS hA [0, 1] rfl
        refine va_callv (va_runV (As := [.int 1]) (rest := []) ⟨hx, hb, hml, hown, hts⟩ (sX12_passesP l dC dI H.size h0 (upd (upd (upd mi 27 y_176) 28 y_177) 33 y_178) mr km_tape fm_tape 1 gmi_0 gmi_1 gmi_2 gmi_4 gmi_7 gmi_10 gmi_17 gmi_23 gmi_24 gmi_26 gmi_29 gmi_30 gmi_32 (gi_w g_179 (by decide)) gmi_37 gmi_41 gmi_50 gmi_51 gmi_56 (gi_w (gi_c 1 1 (by decide)) (by decide)) (show (mi 30).toInt ≤ (mi 29).toInt from by have qgy_178 := g_179.1; have rgy_178 := g_179.2; have qgr_160 := g_174.1; have rgr_160 := g_174.2; have qgmi_33 := g_155.1; have rgmi_33 := g_155.2; have qgmi_31 := g_158.1; have rgmi_31 := g_158.2; have qgmi_30 := gmi_30.1; have rgmi_30 := gmi_30.2; have qgmi_29 := gmi_29.1; have rgmi_29 := gmi_29.2; have qgmi_26 := gmi_26.1; have rgmi_26 := gmi_26.2; omega) (show (mi 29).toInt ≤ (mi 26).toInt from by have qgy_178 := g_179.1; have rgy_178 := g_179.2; have qgr_160 := g_174.1; have rgr_160 := g_174.2; have qgmi_33 := g_155.1; have rgmi_33 := g_155.2; have qgmi_31 := g_158.1; have rgmi_31 := g_158.2; have qgmi_30 := gmi_30.1; have rgmi_30 := gmi_30.2; have qgmi_29 := gmi_29.1; have rgmi_29 := gmi_29.2; have qgmi_26 := gmi_26.1; have rgmi_26 := gmi_26.2; omega) (show ((mi 31).toInt = 0 ∨ (mi 30).toInt < (mi 29).toInt) from by have qgy_178 := g_179.1; have rgy_178 := g_179.2; have qgr_160 := g_174.1; have rgr_160 := g_174.2; have qgmi_33 := g_155.1; have rgmi_33 := g_155.2; have qgmi_31 := g_158.1; have rgmi_31 := g_158.2; have qgmi_30 := gmi_30.1; have rgmi_30 := gmi_30.2; have qgmi_29 := gmi_29.1; have rgmi_29 := gmi_29.2; have qgmi_26 := gmi_26.1; have rgmi_26 := gmi_26.2; omega)) (cwV 1 hts (gz_gV mGB_161 mGB_162 mGB_163 mGB_1 mGB_164 goodGB) rfl rfl rfl (by decide +kernel) ⟨Nat.le_of_ble_eq_true rfl, Nat.le_of_ble_eq_true rfl⟩) ⟨fun a U g mk q => by obtain ⟨q0, q1, qP, qK, qD⟩ := q; exact ⟨q0, q1, qP, va_K.moved (u := U) (U := U.calling g mk a) (Vm.Alike.refl U.vm) qK, qD⟩, va_recv hKc hPc (ci := 12) (q0 := 0) rfl rfl, fun U hU hW => ⟨rfl, by rw [hU], by rw [hU]; exact hPc, va_K.moved hW.alike hKc, hDc.weaken (fun _ _ _ _ => trivial)⟩⟩ rfl rfl hl.1 rfl (lv_room (Nat.le_of_ble_eq_true rfl)) dX12_placeHere_48 ⟨Nat.zero_le _, Nat.zero_le _⟩) hS (fun q _ h => hFc q h) hFc (fun u t H1 locs ht hvm hw hB hz1 hk1 hS => ?_)
        obtain ⟨y_181, y_182, y_183, y_184, y_185, y_186, y_187, gy_183, gy_184, gy_186, gy_187, hpr0_r_180, hpr1_r_180, hpr2_r_180, hpr3_r_180, hpr4_r_180, hpr5_r_180, hpr6_r_180, hP1, hD1⟩ := hB
        rw [ht] at hP1
        obtain ⟨hP, hD⟩ := va_join (wr := [((mr 1), .inl (km_letter, 36, .inl fm_letter))]) (w1 := [(h0, .inr (12, fsMM (upd (upd (upd (upd (upd (upd (upd mi 27 y_181) 28 y_182) 29 y_183) 30 y_184) 31 y_185) 32 y_186) 33 y_187) mr)), ((mr 13), .inl (km_tape, 1600, .inl fm_tape))]) hP hD [0, 1] [2] rfl rfl (by decide) (by decide) hk1 hFc hP1 hD1
        have hpr0_r_180 : (mi 30).toInt ≤ y_184.toInt := hpr0_r_180
        have hpr1_r_180 : y_184.toInt ≤ y_183.toInt := hpr1_r_180
        have hpr2_r_180 : y_183.toInt ≤ (mi 26).toInt := hpr2_r_180
        have hpr3_r_180 : Hid ((y_185.toInt = 0 ∨ y_184.toInt < y_183.toInt)) := hpr3_r_180
        have hpr4_r_180 : y_178.toInt ≤ y_187.toInt := hpr4_r_180
        have g_188 : gi y_187 1 1 := gi_relL (show y_178.toInt ≤ y_187.toInt from by omega) g_179 gy_187
        have hpr5_r_180 : Hid (((1 : Int) = 1 ∨ y_187.toInt = 1)) := by have h9 : ((1 : Int32).toInt = 1 ∨ y_187.toInt = 1) := hpr5_r_180; rw [show (1 : Int32).toInt = 1 from by decide] at h9; exact h9
        have hpr6_r_180 : Hid ((y_187.toInt = 1 ∨ (mi 29).toInt ≤ y_184.toInt)) := hpr6_r_180
        have hP := hP.sub (ws' := [(h0, .inr (12, fsMM (upd (upd (upd (upd (upd (upd (upd mi 27 y_181) 28 y_182) 29 y_183) 30 y_184) 31 y_185) 32 y_186) 33 y_187) mr)), ((mr 13), .inl (km_tape, 1600, .inl fm_tape)), ((mr 1), .inl (km_letter, 36, .inl fm_letter))]) [1, 2, 0] rfl
        have hD := hD.sub (ws' := [(h0, .inr (12, fsMM (upd (upd (upd (upd (upd (upd (upd mi 27 y_181) 28 y_182) 29 y_183) 30 y_184) 31 y_185) 32 y_186) 33 y_187) mr)), ((mr 13), .inl (km_tape, 1600, .inl fm_tape)), ((mr 1), .inl (km_letter, 36, .inl fm_letter))]) [1, 2, 0] (by decide) rfl
        generalize H1 = H at hP hS ⊢
        refine lv_iconst (v := 0) hx hb dX12_placeHere_51 (by decide) ?_
        refine lv_iload_n hx hb dX12_placeHere_52 rfl (lv_at hl 0 rfl) ?_
        refine va_mmax (own := RX12) hx hb (by rw [hml]; exact hl.1.symm) hown (hts _ (List.mem_cons_of_mem _ mGB_202)) (hts _ (List.mem_cons_of_mem _ mGB_203)) (hts _ (List.mem_cons_of_mem _ mGB_98)) (hts _ (List.mem_cons_of_mem _ mGB_204)) (Nat.le_of_ble_eq_true rfl) (Nat.le_of_ble_eq_true rfl) (Nat.zero_le _) (Nat.zero_le _) dX12_placeHere_53 ?_
        refine lv_topi (fun x_189 ex_189 => ?_)
        have gx_189 : gi x_189 0 0 := gi_max ex_189 (gi_c 0 0 (by decide)) g_174 (by decide)
        exact W.iret (v := x_189) hx hb hr (fun t ht hW => ⟨⟨x_189, (), rfl, (gi_w gx_189 (by decide)), y_181, y_182, y_183, y_184, y_185, y_186, y_187, gy_183, gy_184, gy_186, (gi_w g_188 (by decide)), hpr0_r_180, hpr1_r_180, hpr2_r_180, (Hid.un hpr3_r_180), (show (mi 33).toInt ≤ y_187.toInt from by have qgy_187 := g_188.1; have rgy_187 := g_188.2; have qgy_184 := gy_184.1; have rgy_184 := gy_184.2; have qgy_183 := gy_183.1; have rgy_183 := gy_183.2; have qgy_178 := g_179.1; have rgy_178 := g_179.2; have qgr_160 := g_174.1; have rgr_160 := g_174.2; have qgmi_33 := g_155.1; have rgmi_33 := g_155.2; have qgmi_31 := g_158.1; have rgmi_31 := g_158.2; have qgmi_30 := gmi_30.1; have rgmi_30 := gmi_30.2; have qgmi_29 := gmi_29.1; have rgmi_29 := gmi_29.2; have qgmi_26 := gmi_26.1; have rgmi_26 := gmi_26.2; omega), by rw [ht]; exact hP, hD⟩, hS.F ht⟩) hS.2.2 dX12_placeHere_56
    · have hc_190 : (mi 31).toInt ≠ 1 := fun h9 => c_156 (Int32.toInt_inj.mp (by rw [show (1 : Int32).toInt = 1 from by decide]; exact h9))
      refine lv_aload_n hx hb dX12_placeHere_15 rfl (lv_at hl 0 rfl) ?_
      refine lv_iconst (v := 1) hx hb dX12_placeHere_16 (by decide) ?_
      have hPc := hP.sub (ws' := [(h0, .inr (12, fsMM mi mr))]) [0] rfl
      have hKc := hK.sub (tys' := []) [] rfl
      have hDc := hD.sub (ws' := [(h0, .inr (12, fsMM mi mr))]) [0] (by decide) rfl
      have hFc := va_free (wc := [(h0, .inr (12, fsMM mi mr))]) hD hS hA [0] rfl
      refine va_callv (va_runV (As := [.int 1]) (rest := []) ⟨hx, hb, hml, hown, hts⟩ (sX12_faultsP l dC dI s.heap.size h0 mi mr 1 gmi_0 gmi_1 gmi_2 gmi_4 gmi_7 gmi_10 gmi_17 gmi_23 gmi_24 gmi_26 gmi_29 gmi_30 gmi_32 (gi_w g_155 (by decide)) gmi_37 gmi_41 gmi_50 gmi_51 gmi_56) (cwV 1 hts (gz_gV mGB_165 mGB_166 mGB_167 mGB_1 mGB_168 goodGB) rfl rfl rfl (by decide +kernel) ⟨Nat.le_of_ble_eq_true rfl, Nat.le_of_ble_eq_true rfl⟩) ⟨fun a U g mk q => by obtain ⟨q0, q1, qP, qK, qD⟩ := q; exact ⟨q0, q1, qP, va_K.moved (u := U) (U := U.calling g mk a) (Vm.Alike.refl U.vm) qK, qD⟩, va_recv hKc hPc (ci := 12) (q0 := 0) rfl rfl, fun U hU hW => ⟨rfl, by rw [hU], by rw [hU]; exact hPc, va_K.moved hW.alike hKc, hDc.weaken (fun _ _ _ _ => trivial)⟩⟩ rfl rfl hl.1 rfl (lv_room (Nat.le_of_ble_eq_true rfl)) dX12_placeHere_17 ⟨Nat.zero_le _, Nat.zero_le _⟩) hS (fun q _ h => hFc q h) hFc (fun u t H1 locs ht hvm hw hB hz1 hk1 hS => ?_)
      obtain ⟨y_192, y_193, y_194, gy_194, hpr0_r_191, hP1, hD1⟩ := hB
      rw [ht] at hP1
      obtain ⟨hP, hD⟩ := va_join (wr := [((mr 13), .inl (km_tape, 1600, .inl fm_tape)), ((mr 1), .inl (km_letter, 36, .inl fm_letter))]) (w1 := [(h0, .inr (12, fsMM (upd (upd (upd mi 27 y_192) 28 y_193) 33 y_194) mr))]) hP hD [0] [1, 2] rfl rfl (by decide) (by decide) hk1 hFc hP1 hD1
      have hpr0_r_191 : y_194.toInt = 1 := hpr0_r_191
      have g_195 : gi y_194 1 1 := ⟨by omega, by omega⟩
      have hP := hP.sub (ws' := [(h0, .inr (12, fsMM (upd (upd (upd mi 27 y_192) 28 y_193) 33 y_194) mr)), ((mr 13), .inl (km_tape, 1600, .inl fm_tape)), ((mr 1), .inl (km_letter, 36, .inl fm_letter))]) [2, 0, 1] rfl
      have hD := hD.sub (ws' := [(h0, .inr (12, fsMM (upd (upd (upd mi 27 y_192) 28 y_193) 33 y_194) mr)), ((mr 13), .inl (km_tape, 1600, .inl fm_tape)), ((mr 1), .inl (km_letter, 36, .inl fm_letter))]) [2, 0, 1] (by decide) rfl
      generalize H1 = H at hP hS ⊢
      refine lv_aload_n hx hb dX12_placeHere_20 rfl (lv_at hl 0 rfl) ?_
      refine va_get (D := (dC, dI)) (ci := 12) (v := .int y_194) (C := RX12) (T := TX12) (N := 57) hx hb hts (fun w h => List.mem_cons_of_mem _ (jnGB_X12 w h)) hown hK hP 0 rfl rfl 33 (by decide) (hts _ (List.mem_cons_of_mem _ mGB_114)) (fun _ h9 => h9) rfl dX12_placeHere_21 ?_
      refine lv_if_eq (tgt := 31) hx hb dX12_placeHere_24 (by decide) (fun c_196 => absurd c_196 (gi_no_eq g_195 (gi_c 0 0 (by decide)) (by decide))) (fun c_196 => ?_)
      refine lv_iconst (v := 0) hx hb dX12_placeHere_27 (by decide) ?_
      refine lv_goto (tgt := 35) hx hb dX12_placeHere_28 (by decide) ?_
      refine lv_istore_n (lv' := [(1, .int 0), (0, .ref h0)]) hx hb dX12_placeHere_35 rfl hl (by decide) rfl (fun ls hl => ?_)
      refine lv_iload_n hx hb dX12_placeHere_36 rfl (lv_at hl 0 rfl) ?_
      refine lv_iconst (v := (-1)) hx hb dX12_placeHere_37 (by decide) ?_
      refine lv_icmp_ne (tgt := 46) hx hb dX12_placeHere_38 (by decide) (fun c_197 => ?_) (fun c_197 => absurd c_197 (gi_no_eq (gi_c 0 0 (by decide)) (gi_c (-1) (-1) (by decide)) (by decide)))
      refine lv_aload_n hx hb dX12_placeHere_46 rfl (lv_at hl 1 rfl) ?_
      refine lv_iconst (v := 1) hx hb dX12_placeHere_47 (by decide) ?_
      have hPc := hP.sub (ws' := [(h0, .inr (12, fsMM (upd (upd (upd mi 27 y_192) 28 y_193) 33 y_194) mr)), ((mr 13), .inl (km_tape, 1600, .inl fm_tape))]) [0, 1] rfl
      have hKc := hK.sub (tys' := [(km_tape, .int)]) [0] rfl
      have hDc := hD.sub (ws' := [(h0, .inr (12, fsMM (upd (upd (upd mi 27 y_192) 28 y_193) 33 y_194) mr)), ((mr 13), .inl (km_tape, 1600, .inl fm_tape))]) [0, 1] (by decide) rfl
      have hFc := va_free (wc := [(h0, .inr (12, fsMM (upd (upd (upd mi 27 y_192) 28 y_193) 33 y_194) mr)), ((mr 13), .inl (km_tape, 1600, .inl fm_tape))]) hD hS hA [0, 1] rfl
      refine va_callv (va_runV (As := [.int 1]) (rest := []) ⟨hx, hb, hml, hown, hts⟩ (sX12_passesP l dC dI H.size h0 (upd (upd (upd mi 27 y_192) 28 y_193) 33 y_194) mr km_tape fm_tape 1 gmi_0 gmi_1 gmi_2 gmi_4 gmi_7 gmi_10 gmi_17 gmi_23 gmi_24 gmi_26 gmi_29 gmi_30 gmi_32 (gi_w g_195 (by decide)) gmi_37 gmi_41 gmi_50 gmi_51 gmi_56 (gi_w (gi_c 1 1 (by decide)) (by decide)) (show (mi 30).toInt ≤ (mi 29).toInt from by have qgy_194 := g_195.1; have rgy_194 := g_195.2; have qgmi_33 := g_155.1; have rgmi_33 := g_155.2; have qgmi_30 := gmi_30.1; have rgmi_30 := gmi_30.2; have qgmi_29 := gmi_29.1; have rgmi_29 := gmi_29.2; have qgmi_26 := gmi_26.1; have rgmi_26 := gmi_26.2; omega) (show (mi 29).toInt ≤ (mi 26).toInt from by have qgy_194 := g_195.1; have rgy_194 := g_195.2; have qgmi_33 := g_155.1; have rgmi_33 := g_155.2; have qgmi_30 := gmi_30.1; have rgmi_30 := gmi_30.2; have qgmi_29 := gmi_29.1; have rgmi_29 := gmi_29.2; have qgmi_26 := gmi_26.1; have rgmi_26 := gmi_26.2; omega) (show ((mi 31).toInt = 0 ∨ (mi 30).toInt < (mi 29).toInt) from by have qgy_194 := g_195.1; have rgy_194 := g_195.2; have qgmi_33 := g_155.1; have rgmi_33 := g_155.2; have qgmi_30 := gmi_30.1; have rgmi_30 := gmi_30.2; have qgmi_29 := gmi_29.1; have rgmi_29 := gmi_29.2; have qgmi_26 := gmi_26.1; have rgmi_26 := gmi_26.2; omega)) (cwV 1 hts (gz_gV mGB_161 mGB_162 mGB_163 mGB_1 mGB_164 goodGB) rfl rfl rfl (by decide +kernel) ⟨Nat.le_of_ble_eq_true rfl, Nat.le_of_ble_eq_true rfl⟩) ⟨fun a U g mk q => by obtain ⟨q0, q1, qP, qK, qD⟩ := q; exact ⟨q0, q1, qP, va_K.moved (u := U) (U := U.calling g mk a) (Vm.Alike.refl U.vm) qK, qD⟩, va_recv hKc hPc (ci := 12) (q0 := 0) rfl rfl, fun U hU hW => ⟨rfl, by rw [hU], by rw [hU]; exact hPc, va_K.moved hW.alike hKc, hDc.weaken (fun _ _ _ _ => trivial)⟩⟩ rfl rfl hl.1 rfl (lv_room (Nat.le_of_ble_eq_true rfl)) dX12_placeHere_48 ⟨Nat.zero_le _, Nat.zero_le _⟩) hS (fun q _ h => hFc q h) hFc (fun u t H1 locs ht hvm hw hB hz1 hk1 hS => ?_)
      obtain ⟨y_199, y_200, y_201, y_202, y_203, y_204, y_205, gy_201, gy_202, gy_204, gy_205, hpr0_r_198, hpr1_r_198, hpr2_r_198, hpr3_r_198, hpr4_r_198, hpr5_r_198, hpr6_r_198, hP1, hD1⟩ := hB
      rw [ht] at hP1
      obtain ⟨hP, hD⟩ := va_join (wr := [((mr 1), .inl (km_letter, 36, .inl fm_letter))]) (w1 := [(h0, .inr (12, fsMM (upd (upd (upd (upd (upd (upd (upd mi 27 y_199) 28 y_200) 29 y_201) 30 y_202) 31 y_203) 32 y_204) 33 y_205) mr)), ((mr 13), .inl (km_tape, 1600, .inl fm_tape))]) hP hD [0, 1] [2] rfl rfl (by decide) (by decide) hk1 hFc hP1 hD1
      have hpr0_r_198 : (mi 30).toInt ≤ y_202.toInt := hpr0_r_198
      have hpr1_r_198 : y_202.toInt ≤ y_201.toInt := hpr1_r_198
      have hpr2_r_198 : y_201.toInt ≤ (mi 26).toInt := hpr2_r_198
      have hpr3_r_198 : Hid ((y_203.toInt = 0 ∨ y_202.toInt < y_201.toInt)) := hpr3_r_198
      have hpr4_r_198 : y_194.toInt ≤ y_205.toInt := hpr4_r_198
      have g_206 : gi y_205 1 1 := gi_relL (show y_194.toInt ≤ y_205.toInt from by omega) g_195 gy_205
      have hpr5_r_198 : Hid (((1 : Int) = 1 ∨ y_205.toInt = 1)) := by have h9 : ((1 : Int32).toInt = 1 ∨ y_205.toInt = 1) := hpr5_r_198; rw [show (1 : Int32).toInt = 1 from by decide] at h9; exact h9
      have hpr6_r_198 : Hid ((y_205.toInt = 1 ∨ (mi 29).toInt ≤ y_202.toInt)) := hpr6_r_198
      have hP := hP.sub (ws' := [(h0, .inr (12, fsMM (upd (upd (upd (upd (upd (upd (upd mi 27 y_199) 28 y_200) 29 y_201) 30 y_202) 31 y_203) 32 y_204) 33 y_205) mr)), ((mr 13), .inl (km_tape, 1600, .inl fm_tape)), ((mr 1), .inl (km_letter, 36, .inl fm_letter))]) [1, 2, 0] rfl
      have hD := hD.sub (ws' := [(h0, .inr (12, fsMM (upd (upd (upd (upd (upd (upd (upd mi 27 y_199) 28 y_200) 29 y_201) 30 y_202) 31 y_203) 32 y_204) 33 y_205) mr)), ((mr 13), .inl (km_tape, 1600, .inl fm_tape)), ((mr 1), .inl (km_letter, 36, .inl fm_letter))]) [1, 2, 0] (by decide) rfl
      generalize H1 = H at hP hS ⊢
      refine lv_iconst (v := 0) hx hb dX12_placeHere_51 (by decide) ?_
      refine lv_iload_n hx hb dX12_placeHere_52 rfl (lv_at hl 0 rfl) ?_
      refine va_mmax (own := RX12) hx hb (by rw [hml]; exact hl.1.symm) hown (hts _ (List.mem_cons_of_mem _ mGB_202)) (hts _ (List.mem_cons_of_mem _ mGB_203)) (hts _ (List.mem_cons_of_mem _ mGB_98)) (hts _ (List.mem_cons_of_mem _ mGB_204)) (Nat.le_of_ble_eq_true rfl) (Nat.le_of_ble_eq_true rfl) (Nat.zero_le _) (Nat.zero_le _) dX12_placeHere_53 ?_
      refine lv_topi (fun x_207 ex_207 => ?_)
      have gx_207 : gi x_207 0 0 := gi_max ex_207 (gi_c 0 0 (by decide)) (gi_c 0 0 (by decide)) (by decide)
      exact W.iret (v := x_207) hx hb hr (fun t ht hW => ⟨⟨x_207, (), rfl, (gi_w gx_207 (by decide)), y_199, y_200, y_201, y_202, y_203, y_204, y_205, gy_201, gy_202, gy_204, (gi_w g_206 (by decide)), hpr0_r_198, hpr1_r_198, hpr2_r_198, (Hid.un hpr3_r_198), (show (mi 33).toInt ≤ y_205.toInt from by have qgy_205 := g_206.1; have rgy_205 := g_206.2; have qgy_202 := gy_202.1; have rgy_202 := gy_202.2; have qgy_201 := gy_201.1; have rgy_201 := gy_201.2; have qgy_194 := g_195.1; have rgy_194 := g_195.2; have qgmi_33 := g_155.1; have rgmi_33 := g_155.2; have qgmi_30 := gmi_30.1; have rgmi_30 := gmi_30.2; have qgmi_29 := gmi_29.1; have rgmi_29 := gmi_29.2; have qgmi_26 := gmi_26.1; have rgmi_26 := gmi_26.2; omega), by rw [ht]; exact hP, hD⟩, hS.F ht⟩) hS.2.2 dX12_placeHere_56
