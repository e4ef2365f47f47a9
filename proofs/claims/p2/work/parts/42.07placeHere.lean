theorem dX12_placeHere_0 : decode cX12_placeHere 0 = .ok (.aload_n 0, 1) := by decide +kernel
theorem dX12_placeHere_1 : decode cX12_placeHere 1 = .ok (.getfield 174, 3) := by decide +kernel
theorem dX12_placeHere_4 : decode cX12_placeHere 4 = .ok (.ifCond .ne 16, 3) := by decide +kernel
theorem dX12_placeHere_7 : decode cX12_placeHere 7 = .ok (.aload_n 0, 1) := by decide +kernel
theorem dX12_placeHere_8 : decode cX12_placeHere 8 = .ok (.getfield 164, 3) := by decide +kernel
theorem dX12_placeHere_11 : decode cX12_placeHere 11 = .ok (.iconst 1, 1) := by decide +kernel
theorem dX12_placeHere_12 : decode cX12_placeHere 12 = .ok (.if_icmp .eq 8, 3) := by decide +kernel
theorem dX12_placeHere_15 : decode cX12_placeHere 15 = .ok (.aload_n 0, 1) := by decide +kernel
theorem dX12_placeHere_16 : decode cX12_placeHere 16 = .ok (.iconst 1, 1) := by decide +kernel
theorem dX12_placeHere_17 : decode cX12_placeHere 17 = .ok (.invokevirtual 194, 3) := by decide +kernel
theorem dX12_placeHere_20 : decode cX12_placeHere 20 = .ok (.aload_n 0, 1) := by decide +kernel
theorem dX12_placeHere_21 : decode cX12_placeHere 21 = .ok (.getfield 174, 3) := by decide +kernel
theorem dX12_placeHere_24 : decode cX12_placeHere 24 = .ok (.ifCond .eq 7, 3) := by decide +kernel
theorem dX12_placeHere_27 : decode cX12_placeHere 27 = .ok (.iconst 0, 1) := by decide +kernel
theorem dX12_placeHere_28 : decode cX12_placeHere 28 = .ok (.goto 7, 3) := by decide +kernel
theorem dX12_placeHere_31 : decode cX12_placeHere 31 = .ok (.aload_n 0, 1) := by decide +kernel
theorem dX12_placeHere_32 : decode cX12_placeHere 32 = .ok (.invokevirtual 216, 3) := by decide +kernel
theorem dX12_placeHere_35 : decode cX12_placeHere 35 = .ok (.istore_n 1, 1) := by decide +kernel
theorem dX12_placeHere_36 : decode cX12_placeHere 36 = .ok (.iload_n 1, 1) := by decide +kernel
theorem dX12_placeHere_37 : decode cX12_placeHere 37 = .ok (.iconst (-1), 1) := by decide +kernel
theorem dX12_placeHere_38 : decode cX12_placeHere 38 = .ok (.if_icmp .ne 8, 3) := by decide +kernel
theorem dX12_placeHere_41 : decode cX12_placeHere 41 = .ok (.aload_n 0, 1) := by decide +kernel
theorem dX12_placeHere_42 : decode cX12_placeHere 42 = .ok (.iconst 2, 1) := by decide +kernel
theorem dX12_placeHere_43 : decode cX12_placeHere 43 = .ok (.invokevirtual 194, 3) := by decide +kernel
theorem dX12_placeHere_46 : decode cX12_placeHere 46 = .ok (.aload_n 0, 1) := by decide +kernel
theorem dX12_placeHere_47 : decode cX12_placeHere 47 = .ok (.iconst 1, 1) := by decide +kernel
theorem dX12_placeHere_48 : decode cX12_placeHere 48 = .ok (.invokevirtual 205, 3) := by decide +kernel
theorem dX12_placeHere_51 : decode cX12_placeHere 51 = .ok (.iconst 0, 1) := by decide +kernel
theorem dX12_placeHere_52 : decode cX12_placeHere 52 = .ok (.iload_n 1, 1) := by decide +kernel
theorem dX12_placeHere_53 : decode cX12_placeHere 53 = .ok (.invokestatic 219, 3) := by decide +kernel
theorem dX12_placeHere_56 : decode cX12_placeHere 56 = .ok (.ireturn, 1) := by decide +kernel
set_option maxHeartbeats 4000000 in
set_option maxRecDepth 100000 in
theorem sX12_placeHereP (l : Launch) (dC : Nat → ClassId) (dI : Nat → Nat → Nat) (sz : Nat) (h0 : Nat) (mi : Nat → Int32) (mr : Nat → Nat) (km_tape : ClassId) (fm_tape : Nat → Int32) (km_letter : ClassId) (fm_letter : Nat → Int32) (gmi_0 : gi (mi 0) 0 100000) (gmi_1 : gi (mi 1) 0 100000) (gmi_2 : gi (mi 2) 0 100000) (gmi_4 : gi (mi 4) 0 1) (gmi_7 : gi (mi 7) 0 6) (gmi_10 : gi (mi 10) 0 24) (gmi_17 : gi (mi 17) 0 8) (gmi_23 : gi (mi 23) 0 300) (gmi_24 : gi (mi 24) 0 1) (gmi_26 : gi (mi 26) 0 1600) (gmi_29 : gi (mi 29) 0 1600) (gmi_30 : gi (mi 30) 0 1600) (gmi_33 : gi (mi 33) 0 1) (gmi_37 : gi (mi 37) 0 1) (gmi_41 : gi (mi 41) 0 24) (gmi_50 : gi (mi 50) 0 1) (gmi_51 : gi (mi 51) 0 1) (gmi_56 : gi (mi 56) 0 80) (hpq0 : (mi 30).toInt ≤ (mi 29).toInt) (hpq1 : (mi 29).toInt ≤ (mi 26).toInt) (hpq2 : ((mi 31).toInt = 0 ∨ (mi 30).toInt < (mi 29).toInt)) : Met l yX12_placeHere (.code yX12_placeHere cX12_placeHere 2 (some .int) :: wsGB) ({ frames := 4, cells := 0, slots := 0, locals := 88 }) (va_Pc [.ref h0] (fun U => U.heap.size = sz ∧ va_P (dC, dI) vwCl [(h0, .inr (12, fsMM mi mr)), ((mr 13), .inl (km_tape, 1600, .inl fm_tape)), ((mr 1), .inl (km_letter, 36, .inl fm_letter))] U.heap ∧ va_K (dC, dI) vwCl [(km_tape, .int), (km_letter, .int)] U ∧ va_D (fun _ => True) [(h0, .inr (12, fsMM mi mr)), ((mr 13), .inl (km_tape, 1600, .inl fm_tape)), ((mr 1), .inl (km_letter, 36, .inl fm_letter))])) (va_Qi (fun (r : Int32) (u : Unit) => gi r 0 5) (fun _ t => ∃ (w0_27 : Int32) (w0_28 : Int32) (w0_29 : Int32) (w0_30 : Int32) (w0_31 : Int32) (w0_32 : Int32) (w0_33 : Int32), gi w0_29 0 1600 ∧ gi w0_30 0 1600 ∧ gi w0_33 0 1 ∧ (mi 30).toInt ≤ w0_30.toInt ∧ w0_30.toInt ≤ w0_29.toInt ∧ w0_29.toInt ≤ (mi 26).toInt ∧ (w0_31.toInt = 0 ∨ w0_30.toInt < w0_29.toInt) ∧ (mi 33).toInt ≤ w0_33.toInt ∧ va_P (dC, dI) vwCl [(h0, .inr (12, fsMM (upd (upd (upd (upd (upd (upd (upd mi 27 w0_27) 28 w0_28) 29 w0_29) 30 w0_30) 31 w0_31) 32 w0_32) 33 w0_33) mr)), ((mr 13), .inl (km_tape, 1600, .inl fm_tape)), ((mr 1), .inl (km_letter, 36, .inl fm_letter))] t.heap ∧ va_D (va_A [(h0, .inr (12, fsMM mi mr)), ((mr 13), .inl (km_tape, 1600, .inl fm_tape)), ((mr 1), .inl (km_letter, 36, .inl fm_letter))] sz) [(h0, .inr (12, fsMM (upd (upd (upd (upd (upd (upd (upd mi 27 w0_27) 28 w0_28) 29 w0_29) 30 w0_30) 31 w0_31) 32 w0_32) 33 w0_33) mr)), ((mr 13), .inl (km_tape, 1600, .inl fm_tape)), ((mr 1), .inl (km_letter, 36, .inl fm_letter))]) (va_A [(h0, .inr (12, fsMM mi mr)), ((mr 13), .inl (km_tape, 1600, .inl fm_tape)), ((mr 1), .inl (km_letter, 36, .inl fm_letter))] sz)) 0 0 (va_A [(h0, .inr (12, fsMM mi mr)), ((mr 13), .inl (km_tape, 1600, .inl fm_tape)), ((mr 1), .inl (km_letter, 36, .inl fm_letter))] sz) := by
  refine Met.ofW (cc := cX12_placeHere) (maxL := 2) (ret := (some .int)) (by decide) rfl ?_
  intro p e s m args below meth c s₁ B hml hv
  obtain ⟨rfl, hsz, hP, hK, hD0⟩ := hv
  have hx := B.exec
  have hb := B.bytes
  have hr := B.returns
  have hts := atoms_spec (ws := (.code yX12_placeHere cX12_placeHere 2 (some .int) :: wsGB)) B.pre
  have hown : s.vm.findClass RX12 = some m.cls := findClass_of_methodNamed B.named
  have hlocks := B.notSynchronized
  subst hsz
  have hD := hD0.self (sz := s.heap.size)
  generalize hAe : va_A [(h0, .inr (12, fsMM mi mr)), ((mr 13), .inl (km_tape, 1600, .inl fm_tape)), ((mr 1), .inl (km_letter, 36, .inl fm_letter))] s.heap.size = A at hD ⊢
  have hA : ∀ q : Nat, s.heap.size ≤ q → A q := fun q h => by rw [← hAe]; exact Or.inr h
  have hS : va_S A s.heap s.heap [] := va_S.rf
  have hl := lv_entry ([.ref h0]) (n := 2) (Nat.le_of_ble_eq_true rfl)
  rw [lg_entry_eq]
  generalize (lg_sl ([.ref h0]) ++ List.replicate (2 - (lg_sl ([.ref h0])).length) Slot.unset).toArray = ls at hl ⊢
  have hl : lv_has ls 2 [(0, .ref h0)] := hl
  refine lv_aload_n hx hb dX12_placeHere_0 rfl (lv_at hl 0 rfl) ?_
  refine va_get (D := (dC, dI)) (ci := 12) (v := .int (mi 33)) (C := RX12) (T := TX12) (N := 57) hx hb hts (fun w h => List.mem_cons_of_mem _ (jnGB_X12 w h)) hown hK hP 0 rfl rfl 33 (by decide) (hts _ (List.mem_cons_of_mem _ mGB_114)) (fun _ h9 => h9) rfl dX12_placeHere_1 ?_
  refine lv_if_ne (tgt := 20) hx hb dX12_placeHere_4 (by decide) (fun c_193 => ?_) (fun c_193 => ?_)
  · have hc_194 : (mi 33).toInt ≠ 0 := fun h9 => c_193 (Int32.toInt_inj.mp (by rw [show (0 : Int32).toInt = 0 from by decide]; exact h9))
    have g_195 : gi (mi 33) 1 1 := gi_ne_lo c_193 gmi_33 (gi_c 0 0 (by decide)) (by decide)
    refine lv_aload_n hx hb dX12_placeHere_20 rfl (lv_at hl 0 rfl) ?_
    refine va_get (D := (dC, dI)) (ci := 12) (v := .int (mi 33)) (C := RX12) (T := TX12) (N := 57) hx hb hts (fun w h => List.mem_cons_of_mem _ (jnGB_X12 w h)) hown hK hP 0 rfl rfl 33 (by decide) (hts _ (List.mem_cons_of_mem _ mGB_114)) (fun _ h9 => h9) rfl dX12_placeHere_21 ?_
    refine lv_if_eq (tgt := 31) hx hb dX12_placeHere_24 (by decide) (fun c_196 => absurd c_196 (gi_no_eq g_195 (gi_c 0 0 (by decide)) (by decide))) (fun c_196 => ?_)
    refine lv_iconst (v := 0) hx hb dX12_placeHere_27 (by decide) ?_
    refine lv_goto (tgt := 35) hx hb dX12_placeHere_28 (by decide) ?_
    refine lv_istore_n (lv' := [(1, .int 0), (0, .ref h0)]) hx hb dX12_placeHere_35 rfl hl (by decide) rfl (fun ls hl => ?_)
    refine lv_iload_n hx hb dX12_placeHere_36 rfl (lv_at hl 0 rfl) ?_
    refine lv_iconst (v := (-1)) hx hb dX12_placeHere_37 (by decide) ?_
    refine lv_icmp_ne (tgt := 46) hx hb dX12_placeHere_38 (by decide) (fun c_197 => ?_) (fun c_197 => absurd c_197 (gi_no_eq (gi_c 0 0 (by decide)) (gi_c (-1) (-1) (by decide)) (by decide)))
    refine lv_aload_n hx hb dX12_placeHere_46 rfl (lv_at hl 1 rfl) ?_
    refine lv_iconst (v := 1) hx hb dX12_placeHere_47 (by decide) ?_
    have hPc := hP.sub (ws' := [(h0, .inr (12, fsMM mi mr)), ((mr 13), .inl (km_tape, 1600, .inl fm_tape))]) [0, 1] rfl
    have hKc := hK.sub (tys' := [(km_tape, .int)]) [0] rfl
    have hDc := hD.sub (ws' := [(h0, .inr (12, fsMM mi mr)), ((mr 13), .inl (km_tape, 1600, .inl fm_tape))]) [0, 1] (by decide) rfl
    have hFc := va_free (wc := [(h0, .inr (12, fsMM mi mr)), ((mr 13), .inl (km_tape, 1600, .inl fm_tape))]) hD hS hA [0, 1] rfl
    refine va_callv (va_runV (As := [.int 1]) (rest := []) ⟨hx, hb, hml, hown, hts⟩ (sX12_passesP l dC dI s.heap.size h0 mi mr km_tape fm_tape 1 gmi_0 gmi_1 gmi_2 gmi_4 gmi_7 gmi_10 gmi_17 gmi_23 gmi_24 gmi_26 gmi_29 gmi_30 (gi_w g_195 (by decide)) gmi_37 gmi_41 gmi_50 gmi_51 gmi_56 (gi_w (gi_c 1 1 (by decide)) (by decide)) (show (mi 30).toInt ≤ (mi 29).toInt from by have qgmi_33 := g_195.1; have rgmi_33 := g_195.2; have qgmi_30 := gmi_30.1; have rgmi_30 := gmi_30.2; have qgmi_29 := gmi_29.1; have rgmi_29 := gmi_29.2; have qgmi_26 := gmi_26.1; have rgmi_26 := gmi_26.2; omega) (show (mi 29).toInt ≤ (mi 26).toInt from by have qgmi_33 := g_195.1; have rgmi_33 := g_195.2; have qgmi_30 := gmi_30.1; have rgmi_30 := gmi_30.2; have qgmi_29 := gmi_29.1; have rgmi_29 := gmi_29.2; have qgmi_26 := gmi_26.1; have rgmi_26 := gmi_26.2; omega) (show ((mi 31).toInt = 0 ∨ (mi 30).toInt < (mi 29).toInt) from by have qgmi_33 := g_195.1; have rgmi_33 := g_195.2; have qgmi_30 := gmi_30.1; have rgmi_30 := gmi_30.2; have qgmi_29 := gmi_29.1; have rgmi_29 := gmi_29.2; have qgmi_26 := gmi_26.1; have rgmi_26 := gmi_26.2; omega)) (cwV 1 hts (gz_gV mGB_161 mGB_162 mGB_163 mGB_1 mGB_164 goodGB) rfl rfl rfl (by decide +kernel) ⟨Nat.le_of_ble_eq_true rfl, Nat.le_of_ble_eq_true rfl⟩) ⟨fun a U g mk q => by obtain ⟨q0, q1, qP, qK, qD⟩ := q; exact ⟨q0, q1, qP, va_K.moved (u := U) (U := U.calling g mk a) (Vm.Alike.refl U.vm) qK, qD⟩, va_recv hKc hPc (ci := 12) (q0 := 0) rfl rfl, fun U hU hW => ⟨rfl, by rw [hU], by rw [hU]; exact hPc, va_K.moved hW.alike hKc, hDc.weaken (fun _ _ _ _ => trivial)⟩⟩ rfl rfl hl.1 rfl (lv_room (Nat.le_of_ble_eq_true rfl)) dX12_placeHere_48 ⟨Nat.zero_le _, Nat.zero_le _⟩) hS (fun q _ h => hFc q h) hFc (fun u t H1 locs ht hvm hw hB hz1 hk1 hS => ?_)
    obtain ⟨y_199, y_200, y_201, y_202, y_203, y_204, y_205, gy_201, gy_202, gy_205, hpr0_r_198, hpr1_r_198, hpr2_r_198, hpr3_r_198, hpr4_r_198, hpr5_r_198, hpr6_r_198, hP1, hD1⟩ := hB
    rw [ht] at hP1
    obtain ⟨hP, hD⟩ := va_join (wr := [((mr 1), .inl (km_letter, 36, .inl fm_letter))]) (w1 := [(h0, .inr (12, fsMM (upd (upd (upd (upd (upd (upd (upd mi 27 y_199) 28 y_200) 29 y_201) 30 y_202) 31 y_203) 32 y_204) 33 y_205) mr)), ((mr 13), .inl (km_tape, 1600, .inl fm_tape))]) hP hD [0, 1] [2] rfl rfl (by decide) (by decide) hk1 hFc hP1 hD1
    have hpr0_r_198 : (mi 30).toInt ≤ y_202.toInt := hpr0_r_198
    have hpr1_r_198 : y_202.toInt ≤ y_201.toInt := hpr1_r_198
    have hpr2_r_198 : y_201.toInt ≤ (mi 26).toInt := hpr2_r_198
    have hpr3_r_198 : (y_203.toInt = 0 ∨ y_202.toInt < y_201.toInt) := hpr3_r_198
    have hpr4_r_198 : (mi 33).toInt ≤ y_205.toInt := hpr4_r_198
    have hpr5_r_198 : (1 = 1 ∨ y_205.toInt = 1) := by have h9 : ((1 : Int32).toInt = 1 ∨ y_205.toInt = 1) := hpr5_r_198; rw [show ((1 : Int32).toInt = (1 from by decide] at h9; exact h9
    have hpr6_r_198 : (y_205.toInt = 1 ∨ (mi 29).toInt ≤ y_202.toInt) := hpr6_r_198
    have hP := hP.sub (ws' := [(h0, .inr (12, fsMM (upd (upd (upd (upd (upd (upd (upd mi 27 y_199) 28 y_200) 29 y_201) 30 y_202) 31 y_203) 32 y_204) 33 y_205) mr)), ((mr 13), .inl (km_tape, 1600, .inl fm_tape)), ((mr 1), .inl (km_letter, 36, .inl fm_letter))]) [1, 2, 0] rfl
    have hD := hD.sub (ws' := [(h0, .inr (12, fsMM (upd (upd (upd (upd (upd (upd (upd mi 27 y_199) 28 y_200) 29 y_201) 30 y_202) 31 y_203) 32 y_204) 33 y_205) mr)), ((mr 13), .inl (km_tape, 1600, .inl fm_tape)), ((mr 1), .inl (km_letter, 36, .inl fm_letter))]) [1, 2, 0] (by decide) rfl
    generalize H1 = H at hP hS ⊢
    refine lv_iconst (v := 0) hx hb dX12_placeHere_51 (by decide) ?_
    refine lv_iload_n hx hb dX12_placeHere_52 rfl (lv_at hl 0 rfl) ?_
    refine va_mmax (own := RX12) hx hb (by rw [hml]; exact hl.1.symm) hown (hts _ (List.mem_cons_of_mem _ mGB_202)) (hts _ (List.mem_cons_of_mem _ mGB_203)) (hts _ (List.mem_cons_of_mem _ mGB_98)) (hts _ (List.mem_cons_of_mem _ mGB_204)) (Nat.le_of_ble_eq_true rfl) (Nat.le_of_ble_eq_true rfl) (Nat.zero_le _) (Nat.zero_le _) dX12_placeHere_53 ?_
    refine lv_topi (fun x_206 ex_206 => ?_)
    have gx_206 : gi x_206 0 0 := gi_max ex_206 (gi_c 0 0 (by decide)) (gi_c 0 0 (by decide)) (by decide)
    exact W.iret (v := x_206) hx hb hr (fun t ht hW => ⟨⟨x_206, (), rfl, (gi_w gx_206 (by decide)), y_199, y_200, y_201, y_202, y_203, y_204, y_205, gy_201, gy_202, gy_205, hpr0_r_198, hpr1_r_198, hpr2_r_198, hpr3_r_198, hpr4_r_198, by rw [ht]; exact hP, hD⟩, hS.F ht⟩) hS.2.2 dX12_placeHere_56
  · have hc_207 : (mi 33).toInt = 0 := by have h9 := congrArg Int32.toInt c_193; rw [show (0 : Int32).toInt = 0 from by decide] at h9; exact h9
    have g_208 : gi (mi 33) 0 0 := gi_eq c_193 (gi_c 0 0 (by decide))
    refine lv_aload_n hx hb dX12_placeHere_7 rfl (lv_at hl 0 rfl) ?_
    refine va_get (D := (dC, dI)) (ci := 12) (v := .int (mi 31)) (C := RX12) (T := TX12) (N := 57) hx hb hts (fun w h => List.mem_cons_of_mem _ (jnGB_X12 w h)) hown hK hP 0 rfl rfl 31 (by decide) (hts _ (List.mem_cons_of_mem _ mGB_116)) (fun _ h9 => h9) rfl dX12_placeHere_8 ?_
    refine lv_iconst (v := 1) hx hb dX12_placeHere_11 (by decide) ?_
    refine lv_icmp_eq (tgt := 20) hx hb dX12_placeHere_12 (by decide) (fun c_209 => ?_) (fun c_209 => ?_)
    · have hc_210 : (mi 31).toInt = 1 := by have h9 := congrArg Int32.toInt c_209; rw [show (1 : Int32).toInt = 1 from by decide] at h9; exact h9
      have g_211 : gi (mi 31) 1 1 := gi_eq c_209 (gi_c 1 1 (by decide))
      refine lv_aload_n hx hb dX12_placeHere_20 rfl (lv_at hl 0 rfl) ?_
      refine va_get (D := (dC, dI)) (ci := 12) (v := .int (mi 33)) (C := RX12) (T := TX12) (N := 57) hx hb hts (fun w h => List.mem_cons_of_mem _ (jnGB_X12 w h)) hown hK hP 0 rfl rfl 33 (by decide) (hts _ (List.mem_cons_of_mem _ mGB_114)) (fun _ h9 => h9) rfl dX12_placeHere_21 ?_
      refine lv_if_eq (tgt := 31) hx hb dX12_placeHere_24 (by decide) (fun c_212 => ?_) (fun c_212 => absurd (gi_is_eq g_208 (gi_c 0 0 (by decide))) c_212)
      refine lv_aload_n hx hb dX12_placeHere_31 rfl (lv_at hl 0 rfl) ?_
      have hPc := hP.sub (ws' := [(h0, .inr (12, fsMM mi mr)), ((mr 13), .inl (km_tape, 1600, .inl fm_tape)), ((mr 1), .inl (km_letter, 36, .inl fm_letter))]) [0, 1, 2] rfl
      have hKc := hK.sub (tys' := [(km_tape, .int), (km_letter, .int)]) [0, 1] rfl
      refine va_calli (va_runV (As := []) (rest := []) ⟨hx, hb, hml, hown, hts⟩ (sX12_namedP l dC dI h0 mi mr km_tape fm_tape km_letter fm_letter gmi_0 gmi_1 gmi_2 gmi_4 gmi_7 gmi_10 gmi_17 gmi_23 gmi_24 gmi_26 gmi_29 gmi_30 (gi_w g_208 (by decide)) gmi_37 gmi_41 gmi_50 gmi_51 gmi_56 (show (mi 30).toInt ≤ (mi 29).toInt from by have qgmi_33 := g_208.1; have rgmi_33 := g_208.2; have qgmi_31 := g_211.1; have rgmi_31 := g_211.2; have qgmi_30 := gmi_30.1; have rgmi_30 := gmi_30.2; have qgmi_29 := gmi_29.1; have rgmi_29 := gmi_29.2; have qgmi_26 := gmi_26.1; have rgmi_26 := gmi_26.2; omega) (show (mi 29).toInt ≤ (mi 26).toInt from by have qgmi_33 := g_208.1; have rgmi_33 := g_208.2; have qgmi_31 := g_211.1; have rgmi_31 := g_211.2; have qgmi_30 := gmi_30.1; have rgmi_30 := gmi_30.2; have qgmi_29 := gmi_29.1; have rgmi_29 := gmi_29.2; have qgmi_26 := gmi_26.1; have rgmi_26 := gmi_26.2; omega) (show ((mi 31).toInt = 0 ∨ (mi 30).toInt < (mi 29).toInt) from by have qgmi_33 := g_208.1; have rgmi_33 := g_208.2; have qgmi_31 := g_211.1; have rgmi_31 := g_211.2; have qgmi_30 := gmi_30.1; have rgmi_30 := gmi_30.2; have qgmi_29 := gmi_29.1; have rgmi_29 := gmi_29.2; have qgmi_26 := gmi_26.1; have rgmi_26 := gmi_26.2; omega)) (cwV 0 hts (gz_gV mGB_190 mGB_191 mGB_192 mGB_1 mGB_193 goodGB) rfl rfl rfl (by decide +kernel) ⟨Nat.le_of_ble_eq_true rfl, Nat.le_of_ble_eq_true rfl⟩) ⟨fun a U g mk q => by obtain ⟨q0, qP, qK⟩ := q; exact ⟨q0, qP, va_K.moved (u := U) (U := U.calling g mk a) (Vm.Alike.refl U.vm) qK⟩, va_recv hKc hPc (ci := 12) (q0 := 0) rfl rfl, fun U hU hW => ⟨rfl, by rw [hU]; exact hPc, va_K.moved hW.alike hKc⟩⟩ rfl rfl hl.1 rfl (lv_room (Nat.le_of_ble_eq_true rfl)) dX12_placeHere_32 ⟨Nat.zero_le _, Nat.zero_le _⟩) hS (fun q _ h => h.elim) (fun q h => h.elim) (fun r_213 u t H1 locs ht hvm hw hB hz1 hk1 hS => ?_)
      have hP := gz_keep hP hk1
      generalize H1 = H at hP hS ⊢
      have gr_213 : gi r_213 (-1) 5 := hw
      refine lv_istore_n (lv' := [(1, .int r_213), (0, .ref h0)]) hx hb dX12_placeHere_35 rfl hl (by decide) rfl (fun ls hl => ?_)
      refine lv_iload_n hx hb dX12_placeHere_36 rfl (lv_at hl 0 rfl) ?_
      refine lv_iconst (v := (-1)) hx hb dX12_placeHere_37 (by decide) ?_
      refine lv_icmp_ne (tgt := 46) hx hb dX12_placeHere_38 (by decide) (fun c_214 => ?_) (fun c_214 => ?_)
      · have hc_215 : r_213.toInt ≠ (-1) := fun h9 => c_214 (Int32.toInt_inj.mp (by rw [show ((-1) : Int32).toInt = (-1) from by decide]; exact h9))
        have g_216 : gi r_213 0 5 := gi_ne_lo c_214 gr_213 (gi_c (-1) (-1) (by decide)) (by decide)
        refine lv_aload_n hx hb dX12_placeHere_46 rfl (lv_at hl 1 rfl) ?_
        refine lv_iconst (v := 1) hx hb dX12_placeHere_47 (by decide) ?_
        have hPc := hP.sub (ws' := [(h0, .inr (12, fsMM mi mr)), ((mr 13), .inl (km_tape, 1600, .inl fm_tape))]) [0, 1] rfl
        have hKc := hK.sub (tys' := [(km_tape, .int)]) [0] rfl
        have hDc := hD.sub (ws' := [(h0, .inr (12, fsMM mi mr)), ((mr 13), .inl (km_tape, 1600, .inl fm_tape))]) [0, 1] (by decide) rfl
        have hFc := va_free (wc := [(h0, .inr (12, fsMM mi mr)), ((mr 13), .inl (km_tape, 1600, .inl fm_tape))]) hD hS hA [0, 1] rfl
        refine va_callv (va_runV (As := [.int 1]) (rest := []) ⟨hx, hb, hml, hown, hts⟩ (sX12_passesP l dC dI H.size h0 mi mr km_tape fm_tape 1 gmi_0 gmi_1 gmi_2 gmi_4 gmi_7 gmi_10 gmi_17 gmi_23 gmi_24 gmi_26 gmi_29 gmi_30 (gi_w g_208 (by decide)) gmi_37 gmi_41 gmi_50 gmi_51 gmi_56 (gi_w (gi_c 1 1 (by decide)) (by decide)) (show (mi 30).toInt ≤ (mi 29).toInt from by have qgr_213 := g_216.1; have rgr_213 := g_216.2; have qgmi_33 := g_208.1; have rgmi_33 := g_208.2; have qgmi_31 := g_211.1; have rgmi_31 := g_211.2; have qgmi_30 := gmi_30.1; have rgmi_30 := gmi_30.2; have qgmi_29 := gmi_29.1; have rgmi_29 := gmi_29.2; have qgmi_26 := gmi_26.1; have rgmi_26 := gmi_26.2; omega) (show (mi 29).toInt ≤ (mi 26).toInt from by have qgr_213 := g_216.1; have rgr_213 := g_216.2; have qgmi_33 := g_208.1; have rgmi_33 := g_208.2; have qgmi_31 := g_211.1; have rgmi_31 := g_211.2; have qgmi_30 := gmi_30.1; have rgmi_30 := gmi_30.2; have qgmi_29 := gmi_29.1; have rgmi_29 := gmi_29.2; have qgmi_26 := gmi_26.1; have rgmi_26 := gmi_26.2; omega) (show ((mi 31).toInt = 0 ∨ (mi 30).toInt < (mi 29).toInt) from by have qgr_213 := g_216.1; have rgr_213 := g_216.2; have qgmi_33 := g_208.1; have rgmi_33 := g_208.2; have qgmi_31 := g_211.1; have rgmi_31 := g_211.2; have qgmi_30 := gmi_30.1; have rgmi_30 := gmi_30.2; have qgmi_29 := gmi_29.1; have rgmi_29 := gmi_29.2; have qgmi_26 := gmi_26.1; have rgmi_26 := gmi_26.2; omega)) (cwV 1 hts (gz_gV mGB_161 mGB_162 mGB_163 mGB_1 mGB_164 goodGB) rfl rfl rfl (by decide +kernel) ⟨Nat.le_of_ble_eq_true rfl, Nat.le_of_ble_eq_true rfl⟩) ⟨fun a U g mk q => by obtain ⟨q0, q1, qP, qK, qD⟩ := q; exact ⟨q0, q1, qP, va_K.moved (u := U) (U := U.calling g mk a) (Vm.Alike.refl U.vm) qK, qD⟩, va_recv hKc hPc (ci := 12) (q0 := 0) rfl rfl, fun U hU hW => ⟨rfl, by rw [hU], by rw [hU]; exact hPc, va_K.moved hW.alike hKc, hDc.weaken (fun _ _ _ _ => trivial)⟩⟩ rfl rfl hl.1 rfl (lv_room (Nat.le_of_ble_eq_true rfl)) dX12_placeHere_48 ⟨Nat.zero_le _, Nat.zero_le _⟩) hS (fun q _ h => hFc q h) hFc (fun u t H1 locs ht hvm hw hB hz1 hk1 hS => ?_)
        obtain ⟨y_218, y_219, y_220, y_221, y_222, y_223, y_224, gy_220, gy_221, gy_224, hpr0_r_217, hpr1_r_217, hpr2_r_217, hpr3_r_217, hpr4_r_217, hpr5_r_217, hpr6_r_217, hP1, hD1⟩ := hB
        rw [ht] at hP1
        obtain ⟨hP, hD⟩ := va_join (wr := [((mr 1), .inl (km_letter, 36, .inl fm_letter))]) (w1 := [(h0, .inr (12, fsMM (upd (upd (upd (upd (upd (upd (upd mi 27 y_218) 28 y_219) 29 y_220) 30 y_221) 31 y_222) 32 y_223) 33 y_224) mr)), ((mr 13), .inl (km_tape, 1600, .inl fm_tape))]) hP hD [0, 1] [2] rfl rfl (by decide) (by decide) hk1 hFc hP1 hD1
        have hpr0_r_217 : (mi 30).toInt ≤ y_221.toInt := hpr0_r_217
        have hpr1_r_217 : y_221.toInt ≤ y_220.toInt := hpr1_r_217
        have hpr2_r_217 : y_220.toInt ≤ (mi 26).toInt := hpr2_r_217
        have hpr3_r_217 : (y_222.toInt = 0 ∨ y_221.toInt < y_220.toInt) := hpr3_r_217
        have hpr4_r_217 : (mi 33).toInt ≤ y_224.toInt := hpr4_r_217
        have hpr5_r_217 : (1 = 1 ∨ y_224.toInt = 1) := by have h9 : ((1 : Int32).toInt = 1 ∨ y_224.toInt = 1) := hpr5_r_217; rw [show ((1 : Int32).toInt = (1 from by decide] at h9; exact h9
        have hpr6_r_217 : (y_224.toInt = 1 ∨ (mi 29).toInt ≤ y_221.toInt) := hpr6_r_217
        have hP := hP.sub (ws' := [(h0, .inr (12, fsMM (upd (upd (upd (upd (upd (upd (upd mi 27 y_218) 28 y_219) 29 y_220) 30 y_221) 31 y_222) 32 y_223) 33 y_224) mr)), ((mr 13), .inl (km_tape, 1600, .inl fm_tape)), ((mr 1), .inl (km_letter, 36, .inl fm_letter))]) [1, 2, 0] rfl
        have hD := hD.sub (ws' := [(h0, .inr (12, fsMM (upd (upd (upd (upd (upd (upd (upd mi 27 y_218) 28 y_219) 29 y_220) 30 y_221) 31 y_222) 32 y_223) 33 y_224) mr)), ((mr 13), .inl (km_tape, 1600, .inl fm_tape)), ((mr 1), .inl (km_letter, 36, .inl fm_letter))]) [1, 2, 0] (by decide) rfl
        generalize H1 = H at hP hS ⊢
        refine lv_iconst (v := 0) hx hb dX12_placeHere_51 (by decide) ?_
        refine lv_iload_n hx hb dX12_placeHere_52 rfl (lv_at hl 0 rfl) ?_
        refine va_mmax (own := RX12) hx hb (by rw [hml]; exact hl.1.symm) hown (hts _ (List.mem_cons_of_mem _ mGB_202)) (hts _ (List.mem_cons_of_mem _ mGB_203)) (hts _ (List.mem_cons_of_mem _ mGB_98)) (hts _ (List.mem_cons_of_mem _ mGB_204)) (Nat.le_of_ble_eq_true rfl) (Nat.le_of_ble_eq_true rfl) (Nat.zero_le _) (Nat.zero_le _) dX12_placeHere_53 ?_
        refine lv_topi (fun x_225 ex_225 => ?_)
        have gx_225 : gi x_225 0 5 := gi_max ex_225 (gi_c 0 0 (by decide)) g_216 (by decide)
        exact W.iret (v := x_225) hx hb hr (fun t ht hW => ⟨⟨x_225, (), rfl, gx_225, y_218, y_219, y_220, y_221, y_222, y_223, y_224, gy_220, gy_221, gy_224, hpr0_r_217, hpr1_r_217, hpr2_r_217, hpr3_r_217, hpr4_r_217, by rw [ht]; exact hP, hD⟩, hS.F ht⟩) hS.2.2 dX12_placeHere_56
      · have hc_226 : r_213.toInt = (-1) := by have h9 := congrArg Int32.toInt c_214; rw [show ((-1) : Int32).toInt = (-1) from by decide] at h9; exact h9
        have g_227 : gi r_213 (-1) (-1) := gi_eq c_214 (gi_c (-1) (-1) (by decide))
        refine lv_aload_n hx hb dX12_placeHere_41 rfl (lv_at hl 1 rfl) ?_
        refine lv_iconst (v := 2) hx hb dX12_placeHere_42 (by decide) ?_
        have hPc := hP.sub (ws' := [(h0, .inr (12, fsMM mi mr))]) [0] rfl
        have hKc := hK.sub (tys' := []) [] rfl
        have hDc := hD.sub (ws' := [(h0, .inr (12, fsMM mi mr))]) [0] (by decide) rfl
        have hFc := va_free (wc := [(h0, .inr (12, fsMM mi mr))]) hD hS hA [0] rfl
        refine va_callv (va_runV (As := [.int 2]) (rest := []) ⟨hx, hb, hml, hown, hts⟩ (sX12_faultsP l dC dI H.size h0 mi mr 2 gmi_0 gmi_1 gmi_2 gmi_4 gmi_7 gmi_10 gmi_17 gmi_23 gmi_24 gmi_26 gmi_29 gmi_30 (gi_w g_208 (by decide)) gmi_37 gmi_41 gmi_50 gmi_51 gmi_56) (cwV 1 hts (gz_gV mGB_165 mGB_166 mGB_167 mGB_1 mGB_168 goodGB) rfl rfl rfl (by decide +kernel) ⟨Nat.le_of_ble_eq_true rfl, Nat.le_of_ble_eq_true rfl⟩) ⟨fun a U g mk q => by obtain ⟨q0, q1, qP, qK, qD⟩ := q; exact ⟨q0, q1, qP, va_K.moved (u := U) (U := U.calling g mk a) (Vm.Alike.refl U.vm) qK, qD⟩, va_recv hKc hPc (ci := 12) (q0 := 0) rfl rfl, fun U hU hW => ⟨rfl, by rw [hU], by rw [hU]; exact hPc, va_K.moved hW.alike hKc, hDc.weaken (fun _ _ _ _ => trivial)⟩⟩ rfl rfl hl.1 rfl (lv_room (Nat.le_of_ble_eq_true rfl)) dX12_placeHere_43 ⟨Nat.zero_le _, Nat.zero_le _⟩) hS (fun q _ h => hFc q h) hFc (fun u t H1 locs ht hvm hw hB hz1 hk1 hS => ?_)
        obtain ⟨y_229, y_230, y_231, gy_231, hpr0_r_228, hP1, hD1⟩ := hB
        rw [ht] at hP1
        obtain ⟨hP, hD⟩ := va_join (wr := [((mr 13), .inl (km_tape, 1600, .inl fm_tape)), ((mr 1), .inl (km_letter, 36, .inl fm_letter))]) (w1 := [(h0, .inr (12, fsMM (upd (upd (upd mi 27 y_229) 28 y_230) 33 y_231) mr))]) hP hD [0] [1, 2] rfl rfl (by decide) (by decide) hk1 hFc hP1 hD1
        have hpr0_r_228 : y_231.toInt = 1 := hpr0_r_228
        have hP := hP.sub (ws' := [(h0, .inr (12, fsMM (upd (upd (upd mi 27 y_229) 28 y_230) 33 y_231) mr)), ((mr 13), .inl (km_tape, 1600, .inl fm_tape)), ((mr 1), .inl (km_letter, 36, .inl fm_letter))]) [2, 0, 1] rfl
        have hD := hD.sub (ws' := [(h0, .inr (12, fsMM (upd (upd (upd mi 27 y_229) 28 y_230) 33 y_231) mr)), ((mr 13), .inl (km_tape, 1600, .inl fm_tape)), ((mr 1), .inl (km_letter, 36, .inl fm_letter))]) [2, 0, 1] (by decide) rfl
        generalize H1 = H at hP hS ⊢
        refine lv_aload_n hx hb dX12_placeHere_46 rfl (lv_at hl 1 rfl) ?_
        refine lv_iconst (v := 1) hx hb dX12_placeHere_47 (by decide) ?_
        have hPc := hP.sub (ws' := [(h0, .inr (12, fsMM (upd (upd (upd mi 27 y_229) 28 y_230) 33 y_231) mr)), ((mr 13), .inl (km_tape, 1600, .inl fm_tape))]) [0, 1] rfl
        have hKc := hK.sub (tys' := [(km_tape, .int)]) [0] rfl
        have hDc := hD.sub (ws' := [(h0, .inr (12, fsMM (upd (upd (upd mi 27 y_229) 28 y_230) 33 y_231) mr)), ((mr 13), .inl (km_tape, 1600, .inl fm_tape))]) [0, 1] (by decide) rfl
        have hFc := va_free (wc := [(h0, .inr (12, fsMM (upd (upd (upd mi 27 y_229) 28 y_230) 33 y_231) mr)), ((mr 13), .inl (km_tape, 1600, .inl fm_tape))]) hD hS hA [0, 1] rfl
        refine va_callv (va_runV (As := [.int 1]) (rest := []) ⟨hx, hb, hml, hown, hts⟩ (sX12_passesP l dC dI H.size h0 (upd (upd (upd mi 27 y_229) 28 y_230) 33 y_231) mr km_tape fm_tape 1 gmi_0 gmi_1 gmi_2 gmi_4 gmi_7 gmi_10 gmi_17 gmi_23 gmi_24 gmi_26 gmi_29 gmi_30 gy_231 gmi_37 gmi_41 gmi_50 gmi_51 gmi_56 (gi_w (gi_c 1 1 (by decide)) (by decide)) (show (mi 30).toInt ≤ (mi 29).toInt from by have qgy_231 := gy_231.1; have rgy_231 := gy_231.2; have qgr_213 := g_227.1; have rgr_213 := g_227.2; have qgmi_33 := g_208.1; have rgmi_33 := g_208.2; have qgmi_31 := g_211.1; have rgmi_31 := g_211.2; have qgmi_30 := gmi_30.1; have rgmi_30 := gmi_30.2; have qgmi_29 := gmi_29.1; have rgmi_29 := gmi_29.2; have qgmi_26 := gmi_26.1; have rgmi_26 := gmi_26.2; omega) (show (mi 29).toInt ≤ (mi 26).toInt from by have qgy_231 := gy_231.1; have rgy_231 := gy_231.2; have qgr_213 := g_227.1; have rgr_213 := g_227.2; have qgmi_33 := g_208.1; have rgmi_33 := g_208.2; have qgmi_31 := g_211.1; have rgmi_31 := g_211.2; have qgmi_30 := gmi_30.1; have rgmi_30 := gmi_30.2; have qgmi_29 := gmi_29.1; have rgmi_29 := gmi_29.2; have qgmi_26 := gmi_26.1; have rgmi_26 := gmi_26.2; omega) (show ((mi 31).toInt = 0 ∨ (mi 30).toInt < (mi 29).toInt) from by have qgy_231 := gy_231.1; have rgy_231 := gy_231.2; have qgr_213 := g_227.1; have rgr_213 := g_227.2; have qgmi_33 := g_208.1; have rgmi_33 := g_208.2; have qgmi_31 := g_211.1; have rgmi_31 := g_211.2; have qgmi_30 := gmi_30.1; have rgmi_30 := gmi_30.2; have qgmi_29 := gmi_29.1; have rgmi_29 := gmi_29.2; have qgmi_26 := gmi_26.1; have rgmi_26 := gmi_26.2; omega)) (cwV 1 hts (gz_gV mGB_161 mGB_162 mGB_163 mGB_1 mGB_164 goodGB) rfl rfl rfl (by decide +kernel) ⟨Nat.le_of_ble_eq_true rfl, Nat.le_of_ble_eq_true rfl⟩) ⟨fun a U g mk q => by obtain ⟨q0, q1, qP, qK, qD⟩ := q; exact ⟨q0, q1, qP, va_K.moved (u := U) (U := U.calling g mk a) (Vm.Alike.refl U.vm) qK, qD⟩, va_recv hKc hPc (ci := 12) (q0 := 0) rfl rfl, fun U hU hW => ⟨rfl, by rw [hU], by rw [hU]; exact hPc, va_K.moved hW.alike hKc, hDc.weaken (fun _ _ _ _ => trivial)⟩⟩ rfl rfl hl.1 rfl (lv_room (Nat.le_of_ble_eq_true rfl)) dX12_placeHere_48 ⟨Nat.zero_le _, Nat.zero_le _⟩) hS (fun q _ h => hFc q h) hFc (fun u t H1 locs ht hvm hw hB hz1 hk1 hS => ?_)
        obtain ⟨y_233, y_234, y_235, y_236, y_237, y_238, y_239, gy_235, gy_236, gy_239, hpr0_r_232, hpr1_r_232, hpr2_r_232, hpr3_r_232, hpr4_r_232, hpr5_r_232, hpr6_r_232, hP1, hD1⟩ := hB
        rw [ht] at hP1
        obtain ⟨hP, hD⟩ := va_join (wr := [((mr 1), .inl (km_letter, 36, .inl fm_letter))]) (w1 := [(h0, .inr (12, fsMM (upd (upd (upd (upd (upd (upd (upd mi 27 y_233) 28 y_234) 29 y_235) 30 y_236) 31 y_237) 32 y_238) 33 y_239) mr)), ((mr 13), .inl (km_tape, 1600, .inl fm_tape))]) hP hD [0, 1] [2] rfl rfl (by decide) (by decide) hk1 hFc hP1 hD1
        have hpr0_r_232 : (mi 30).toInt ≤ y_236.toInt := hpr0_r_232
        have hpr1_r_232 : y_236.toInt ≤ y_235.toInt := hpr1_r_232
        have hpr2_r_232 : y_235.toInt ≤ (mi 26).toInt := hpr2_r_232
        have hpr3_r_232 : (y_237.toInt = 0 ∨ y_236.toInt < y_235.toInt) := hpr3_r_232
        have hpr4_r_232 : y_231.toInt ≤ y_239.toInt := hpr4_r_232
        have hpr5_r_232 : (1 = 1 ∨ y_239.toInt = 1) := by have h9 : ((1 : Int32).toInt = 1 ∨ y_239.toInt = 1) := hpr5_r_232; rw [show ((1 : Int32).toInt = (1 from by decide] at h9; exact h9
        have hpr6_r_232 : (y_239.toInt = 1 ∨ (mi 29).toInt ≤ y_236.toInt) := hpr6_r_232
        have hP := hP.sub (ws' := [(h0, .inr (12, fsMM (upd (upd (upd (upd (upd (upd (upd mi 27 y_233) 28 y_234) 29 y_235) 30 y_236) 31 y_237) 32 y_238) 33 y_239) mr)), ((mr 13), .inl (km_tape, 1600, .inl fm_tape)), ((mr 1), .inl (km_letter, 36, .inl fm_letter))]) [1, 2, 0] rfl
        have hD := hD.sub (ws' := [(h0, .inr (12, fsMM (upd (upd (upd (upd (upd (upd (upd mi 27 y_233) 28 y_234) 29 y_235) 30 y_236) 31 y_237) 32 y_238) 33 y_239) mr)), ((mr 13), .inl (km_tape, 1600, .inl fm_tape)), ((mr 1), .inl (km_letter, 36, .inl fm_letter))]) [1, 2, 0] (by decide) rfl
        generalize H1 = H at hP hS ⊢
        refine lv_iconst (v := 0) hx hb dX12_placeHere_51 (by decide) ?_
        refine lv_iload_n hx hb dX12_placeHere_52 rfl (lv_at hl 0 rfl) ?_
        refine va_mmax (own := RX12) hx hb (by rw [hml]; exact hl.1.symm) hown (hts _ (List.mem_cons_of_mem _ mGB_202)) (hts _ (List.mem_cons_of_mem _ mGB_203)) (hts _ (List.mem_cons_of_mem _ mGB_98)) (hts _ (List.mem_cons_of_mem _ mGB_204)) (Nat.le_of_ble_eq_true rfl) (Nat.le_of_ble_eq_true rfl) (Nat.zero_le _) (Nat.zero_le _) dX12_placeHere_53 ?_
        refine lv_topi (fun x_240 ex_240 => ?_)
        have gx_240 : gi x_240 0 0 := gi_max ex_240 (gi_c 0 0 (by decide)) g_227 (by decide)
        exact W.iret (v := x_240) hx hb hr (fun t ht hW => ⟨⟨x_240, (), rfl, (gi_w gx_240 (by decide)), y_233, y_234, y_235, y_236, y_237, y_238, y_239, gy_235, gy_236, gy_239, hpr0_r_232, hpr1_r_232, hpr2_r_232, hpr3_r_232, (show (mi 33).toInt ≤ y_239.toInt from by have qgy_239 := gy_239.1; have rgy_239 := gy_239.2; have qgy_236 := gy_236.1; have rgy_236 := gy_236.2; have qgy_235 := gy_235.1; have rgy_235 := gy_235.2; have qgy_231 := gy_231.1; have rgy_231 := gy_231.2; have qgr_213 := g_227.1; have rgr_213 := g_227.2; have qgmi_33 := g_208.1; have rgmi_33 := g_208.2; have qgmi_31 := g_211.1; have rgmi_31 := g_211.2; have qgmi_30 := gmi_30.1; have rgmi_30 := gmi_30.2; have qgmi_29 := gmi_29.1; have rgmi_29 := gmi_29.2; have qgmi_26 := gmi_26.1; have rgmi_26 := gmi_26.2; omega), by rw [ht]; exact hP, hD⟩, hS.F ht⟩) hS.2.2 dX12_placeHere_56
    · have hc_241 : (mi 31).toInt ≠ 1 := fun h9 => c_209 (Int32.toInt_inj.mp (by rw [show (1 : Int32).toInt = 1 from by decide]; exact h9))
      refine lv_aload_n hx hb dX12_placeHere_15 rfl (lv_at hl 0 rfl) ?_
      refine lv_iconst (v := 1) hx hb dX12_placeHere_16 (by decide) ?_
      have hPc := hP.sub (ws' := [(h0, .inr (12, fsMM mi mr))]) [0] rfl
      have hKc := hK.sub (tys' := []) [] rfl
      have hDc := hD.sub (ws' := [(h0, .inr (12, fsMM mi mr))]) [0] (by decide) rfl
      have hFc := va_free (wc := [(h0, .inr (12, fsMM mi mr))]) hD hS hA [0] rfl
      refine va_callv (va_runV (As := [.int 1]) (rest := []) ⟨hx, hb, hml, hown, hts⟩ (sX12_faultsP l dC dI s.heap.size h0 mi mr 1 gmi_0 gmi_1 gmi_2 gmi_4 gmi_7 gmi_10 gmi_17 gmi_23 gmi_24 gmi_26 gmi_29 gmi_30 (gi_w g_208 (by decide)) gmi_37 gmi_41 gmi_50 gmi_51 gmi_56) (cwV 1 hts (gz_gV mGB_165 mGB_166 mGB_167 mGB_1 mGB_168 goodGB) rfl rfl rfl (by decide +kernel) ⟨Nat.le_of_ble_eq_true rfl, Nat.le_of_ble_eq_true rfl⟩) ⟨fun a U g mk q => by obtain ⟨q0, q1, qP, qK, qD⟩ := q; exact ⟨q0, q1, qP, va_K.moved (u := U) (U := U.calling g mk a) (Vm.Alike.refl U.vm) qK, qD⟩, va_recv hKc hPc (ci := 12) (q0 := 0) rfl rfl, fun U hU hW => ⟨rfl, by rw [hU], by rw [hU]; exact hPc, va_K.moved hW.alike hKc, hDc.weaken (fun _ _ _ _ => trivial)⟩⟩ rfl rfl hl.1 rfl (lv_room (Nat.le_of_ble_eq_true rfl)) dX12_placeHere_17 ⟨Nat.zero_le _, Nat.zero_le _⟩) hS (fun q _ h => hFc q h) hFc (fun u t H1 locs ht hvm hw hB hz1 hk1 hS => ?_)
      obtain ⟨y_243, y_244, y_245, gy_245, hpr0_r_242, hP1, hD1⟩ := hB
      rw [ht] at hP1
      obtain ⟨hP, hD⟩ := va_join (wr := [((mr 13), .inl (km_tape, 1600, .inl fm_tape)), ((mr 1), .inl (km_letter, 36, .inl fm_letter))]) (w1 := [(h0, .inr (12, fsMM (upd (upd (upd mi 27 y_243) 28 y_244) 33 y_245) mr))]) hP hD [0] [1, 2] rfl rfl (by decide) (by decide) hk1 hFc hP1 hD1
      have hpr0_r_242 : y_245.toInt = 1 := hpr0_r_242
      have hP := hP.sub (ws' := [(h0, .inr (12, fsMM (upd (upd (upd mi 27 y_243) 28 y_244) 33 y_245) mr)), ((mr 13), .inl (km_tape, 1600, .inl fm_tape)), ((mr 1), .inl (km_letter, 36, .inl fm_letter))]) [2, 0, 1] rfl
      have hD := hD.sub (ws' := [(h0, .inr (12, fsMM (upd (upd (upd mi 27 y_243) 28 y_244) 33 y_245) mr)), ((mr 13), .inl (km_tape, 1600, .inl fm_tape)), ((mr 1), .inl (km_letter, 36, .inl fm_letter))]) [2, 0, 1] (by decide) rfl
      generalize H1 = H at hP hS ⊢
      refine lv_aload_n hx hb dX12_placeHere_20 rfl (lv_at hl 0 rfl) ?_
      refine va_get (D := (dC, dI)) (ci := 12) (v := .int y_245) (C := RX12) (T := TX12) (N := 57) hx hb hts (fun w h => List.mem_cons_of_mem _ (jnGB_X12 w h)) hown hK hP 0 rfl rfl 33 (by decide) (hts _ (List.mem_cons_of_mem _ mGB_114)) (fun _ h9 => h9) rfl dX12_placeHere_21 ?_
      refine lv_if_eq (tgt := 31) hx hb dX12_placeHere_24 (by decide) (fun c_246 => ?_) (fun c_246 => ?_)
      · have hc_247 : y_245.toInt = 0 := by have h9 := congrArg Int32.toInt c_246; rw [show (0 : Int32).toInt = 0 from by decide] at h9; exact h9
        have g_248 : gi y_245 0 0 := gi_eq c_246 (gi_c 0 0 (by decide))
        refine lv_aload_n hx hb dX12_placeHere_31 rfl (lv_at hl 0 rfl) ?_
        have hPc := hP.sub (ws' := [(h0, .inr (12, fsMM (upd (upd (upd mi 27 y_243) 28 y_244) 33 y_245) mr)), ((mr 13), .inl (km_tape, 1600, .inl fm_tape)), ((mr 1), .inl (km_letter, 36, .inl fm_letter))]) [0, 1, 2] rfl
        have hKc := hK.sub (tys' := [(km_tape, .int), (km_letter, .int)]) [0, 1] rfl
        refine va_calli (va_runV (As := []) (rest := []) ⟨hx, hb, hml, hown, hts⟩ (sX12_namedP l dC dI h0 (upd (upd (upd mi 27 y_243) 28 y_244) 33 y_245) mr km_tape fm_tape km_letter fm_letter gmi_0 gmi_1 gmi_2 gmi_4 gmi_7 gmi_10 gmi_17 gmi_23 gmi_24 gmi_26 gmi_29 gmi_30 (gi_w g_248 (by decide)) gmi_37 gmi_41 gmi_50 gmi_51 gmi_56 (show (mi 30).toInt ≤ (mi 29).toInt from by have qgy_245 := g_248.1; have rgy_245 := g_248.2; have qgmi_33 := g_208.1; have rgmi_33 := g_208.2; have qgmi_30 := gmi_30.1; have rgmi_30 := gmi_30.2; have qgmi_29 := gmi_29.1; have rgmi_29 := gmi_29.2; have qgmi_26 := gmi_26.1; have rgmi_26 := gmi_26.2; omega) (show (mi 29).toInt ≤ (mi 26).toInt from by have qgy_245 := g_248.1; have rgy_245 := g_248.2; have qgmi_33 := g_208.1; have rgmi_33 := g_208.2; have qgmi_30 := gmi_30.1; have rgmi_30 := gmi_30.2; have qgmi_29 := gmi_29.1; have rgmi_29 := gmi_29.2; have qgmi_26 := gmi_26.1; have rgmi_26 := gmi_26.2; omega) (show ((mi 31).toInt = 0 ∨ (mi 30).toInt < (mi 29).toInt) from by have qgy_245 := g_248.1; have rgy_245 := g_248.2; have qgmi_33 := g_208.1; have rgmi_33 := g_208.2; have qgmi_30 := gmi_30.1; have rgmi_30 := gmi_30.2; have qgmi_29 := gmi_29.1; have rgmi_29 := gmi_29.2; have qgmi_26 := gmi_26.1; have rgmi_26 := gmi_26.2; omega)) (cwV 0 hts (gz_gV mGB_190 mGB_191 mGB_192 mGB_1 mGB_193 goodGB) rfl rfl rfl (by decide +kernel) ⟨Nat.le_of_ble_eq_true rfl, Nat.le_of_ble_eq_true rfl⟩) ⟨fun a U g mk q => by obtain ⟨q0, qP, qK⟩ := q; exact ⟨q0, qP, va_K.moved (u := U) (U := U.calling g mk a) (Vm.Alike.refl U.vm) qK⟩, va_recv hKc hPc (ci := 12) (q0 := 0) rfl rfl, fun U hU hW => ⟨rfl, by rw [hU]; exact hPc, va_K.moved hW.alike hKc⟩⟩ rfl rfl hl.1 rfl (lv_room (Nat.le_of_ble_eq_true rfl)) dX12_placeHere_32 ⟨Nat.zero_le _, Nat.zero_le _⟩) hS (fun q _ h => h.elim) (fun q h => h.elim) (fun r_249 u t H1 locs ht hvm hw hB hz1 hk1 hS => ?_)
        have hP := gz_keep hP hk1
        generalize H1 = H at hP hS ⊢
        have gr_249 : gi r_249 (-1) 5 := hw
        refine lv_istore_n (lv' := [(1, .int r_249), (0, .ref h0)]) hx hb dX12_placeHere_35 rfl hl (by decide) rfl (fun ls hl => ?_)
        refine lv_iload_n hx hb dX12_placeHere_36 rfl (lv_at hl 0 rfl) ?_
        refine lv_iconst (v := (-1)) hx hb dX12_placeHere_37 (by decide) ?_
        refine lv_icmp_ne (tgt := 46) hx hb dX12_placeHere_38 (by decide) (fun c_250 => ?_) (fun c_250 => ?_)
        · have hc_251 : r_249.toInt ≠ (-1) := fun h9 => c_250 (Int32.toInt_inj.mp (by rw [show ((-1) : Int32).toInt = (-1) from by decide]; exact h9))
          have g_252 : gi r_249 0 5 := gi_ne_lo c_250 gr_249 (gi_c (-1) (-1) (by decide)) (by decide)
          refine lv_aload_n hx hb dX12_placeHere_46 rfl (lv_at hl 1 rfl) ?_
          refine lv_iconst (v := 1) hx hb dX12_placeHere_47 (by decide) ?_
          have hPc := hP.sub (ws' := [(h0, .inr (12, fsMM (upd (upd (upd mi 27 y_243) 28 y_244) 33 y_245) mr)), ((mr 13), .inl (km_tape, 1600, .inl fm_tape))]) [0, 1] rfl
          have hKc := hK.sub (tys' := [(km_tape, .int)]) [0] rfl
          have hDc := hD.sub (ws' := [(h0, .inr (12, fsMM (upd (upd (upd mi 27 y_243) 28 y_244) 33 y_245) mr)), ((mr 13), .inl (km_tape, 1600, .inl fm_tape))]) [0, 1] (by decide) rfl
          have hFc := va_free (wc := [(h0, .inr (12, fsMM (upd (upd (upd mi 27 y_243) 28 y_244) 33 y_245) mr)), ((mr 13), .inl (km_tape, 1600, .inl fm_tape))]) hD hS hA [0, 1] rfl
          refine va_callv (va_runV (As := [.int 1]) (rest := []) ⟨hx, hb, hml, hown, hts⟩ (sX12_passesP l dC dI H.size h0 (upd (upd (upd mi 27 y_243) 28 y_244) 33 y_245) mr km_tape fm_tape 1 gmi_0 gmi_1 gmi_2 gmi_4 gmi_7 gmi_10 gmi_17 gmi_23 gmi_24 gmi_26 gmi_29 gmi_30 (gi_w g_248 (by decide)) gmi_37 gmi_41 gmi_50 gmi_51 gmi_56 (gi_w (gi_c 1 1 (by decide)) (by decide)) (show (mi 30).toInt ≤ (mi 29).toInt from by have qgy_245 := g_248.1; have rgy_245 := g_248.2; have qgr_249 := g_252.1; have rgr_249 := g_252.2; have qgmi_33 := g_208.1; have rgmi_33 := g_208.2; have qgmi_30 := gmi_30.1; have rgmi_30 := gmi_30.2; have qgmi_29 := gmi_29.1; have rgmi_29 := gmi_29.2; have qgmi_26 := gmi_26.1; have rgmi_26 := gmi_26.2; omega) (show (mi 29).toInt ≤ (mi 26).toInt from by have qgy_245 := g_248.1; have rgy_245 := g_248.2; have qgr_249 := g_252.1; have rgr_249 := g_252.2; have qgmi_33 := g_208.1; have rgmi_33 := g_208.2; have qgmi_30 := gmi_30.1; have rgmi_30 := gmi_30.2; have qgmi_29 := gmi_29.1; have rgmi_29 := gmi_29.2; have qgmi_26 := gmi_26.1; have rgmi_26 := gmi_26.2; omega) (show ((mi 31).toInt = 0 ∨ (mi 30).toInt < (mi 29).toInt) from by have qgy_245 := g_248.1; have rgy_245 := g_248.2; have qgr_249 := g_252.1; have rgr_249 := g_252.2; have qgmi_33 := g_208.1; have rgmi_33 := g_208.2; have qgmi_30 := gmi_30.1; have rgmi_30 := gmi_30.2; have qgmi_29 := gmi_29.1; have rgmi_29 := gmi_29.2; have qgmi_26 := gmi_26.1; have rgmi_26 := gmi_26.2; omega)) (cwV 1 hts (gz_gV mGB_161 mGB_162 mGB_163 mGB_1 mGB_164 goodGB) rfl rfl rfl (by decide +kernel) ⟨Nat.le_of_ble_eq_true rfl, Nat.le_of_ble_eq_true rfl⟩) ⟨fun a U g mk q => by obtain ⟨q0, q1, qP, qK, qD⟩ := q; exact ⟨q0, q1, qP, va_K.moved (u := U) (U := U.calling g mk a) (Vm.Alike.refl U.vm) qK, qD⟩, va_recv hKc hPc (ci := 12) (q0 := 0) rfl rfl, fun U hU hW => ⟨rfl, by rw [hU], by rw [hU]; exact hPc, va_K.moved hW.alike hKc, hDc.weaken (fun _ _ _ _ => trivial)⟩⟩ rfl rfl hl.1 rfl (lv_room (Nat.le_of_ble_eq_true rfl)) dX12_placeHere_48 ⟨Nat.zero_le _, Nat.zero_le _⟩) hS (fun q _ h => hFc q h) hFc (fun u t H1 locs ht hvm hw hB hz1 hk1 hS => ?_)
          obtain ⟨y_254, y_255, y_256, y_257, y_258, y_259, y_260, gy_256, gy_257, gy_260, hpr0_r_253, hpr1_r_253, hpr2_r_253, hpr3_r_253, hpr4_r_253, hpr5_r_253, hpr6_r_253, hP1, hD1⟩ := hB
          rw [ht] at hP1
          obtain ⟨hP, hD⟩ := va_join (wr := [((mr 1), .inl (km_letter, 36, .inl fm_letter))]) (w1 := [(h0, .inr (12, fsMM (upd (upd (upd (upd (upd (upd (upd mi 27 y_254) 28 y_255) 29 y_256) 30 y_257) 31 y_258) 32 y_259) 33 y_260) mr)), ((mr 13), .inl (km_tape, 1600, .inl fm_tape))]) hP hD [0, 1] [2] rfl rfl (by decide) (by decide) hk1 hFc hP1 hD1
          have hpr0_r_253 : (mi 30).toInt ≤ y_257.toInt := hpr0_r_253
          have hpr1_r_253 : y_257.toInt ≤ y_256.toInt := hpr1_r_253
          have hpr2_r_253 : y_256.toInt ≤ (mi 26).toInt := hpr2_r_253
          have hpr3_r_253 : (y_258.toInt = 0 ∨ y_257.toInt < y_256.toInt) := hpr3_r_253
          have hpr4_r_253 : y_245.toInt ≤ y_260.toInt := hpr4_r_253
          have hpr5_r_253 : (1 = 1 ∨ y_260.toInt = 1) := by have h9 : ((1 : Int32).toInt = 1 ∨ y_260.toInt = 1) := hpr5_r_253; rw [show ((1 : Int32).toInt = (1 from by decide] at h9; exact h9
          have hpr6_r_253 : (y_260.toInt = 1 ∨ (mi 29).toInt ≤ y_257.toInt) := hpr6_r_253
          have hP := hP.sub (ws' := [(h0, .inr (12, fsMM (upd (upd (upd (upd (upd (upd (upd mi 27 y_254) 28 y_255) 29 y_256) 30 y_257) 31 y_258) 32 y_259) 33 y_260) mr)), ((mr 13), .inl (km_tape, 1600, .inl fm_tape)), ((mr 1), .inl (km_letter, 36, .inl fm_letter))]) [1, 2, 0] rfl
          have hD := hD.sub (ws' := [(h0, .inr (12, fsMM (upd (upd (upd (upd (upd (upd (upd mi 27 y_254) 28 y_255) 29 y_256) 30 y_257) 31 y_258) 32 y_259) 33 y_260) mr)), ((mr 13), .inl (km_tape, 1600, .inl fm_tape)), ((mr 1), .inl (km_letter, 36, .inl fm_letter))]) [1, 2, 0] (by decide) rfl
          generalize H1 = H at hP hS ⊢
          refine lv_iconst (v := 0) hx hb dX12_placeHere_51 (by decide) ?_
          refine lv_iload_n hx hb dX12_placeHere_52 rfl (lv_at hl 0 rfl) ?_
          refine va_mmax (own := RX12) hx hb (by rw [hml]; exact hl.1.symm) hown (hts _ (List.mem_cons_of_mem _ mGB_202)) (hts _ (List.mem_cons_of_mem _ mGB_203)) (hts _ (List.mem_cons_of_mem _ mGB_98)) (hts _ (List.mem_cons_of_mem _ mGB_204)) (Nat.le_of_ble_eq_true rfl) (Nat.le_of_ble_eq_true rfl) (Nat.zero_le _) (Nat.zero_le _) dX12_placeHere_53 ?_
          refine lv_topi (fun x_261 ex_261 => ?_)
          have gx_261 : gi x_261 0 5 := gi_max ex_261 (gi_c 0 0 (by decide)) g_252 (by decide)
          exact W.iret (v := x_261) hx hb hr (fun t ht hW => ⟨⟨x_261, (), rfl, gx_261, y_254, y_255, y_256, y_257, y_258, y_259, y_260, gy_256, gy_257, gy_260, hpr0_r_253, hpr1_r_253, hpr2_r_253, hpr3_r_253, (show (mi 33).toInt ≤ y_260.toInt from by have qgy_260 := gy_260.1; have rgy_260 := gy_260.2; have qgy_257 := gy_257.1; have rgy_257 := gy_257.2; have qgy_256 := gy_256.1; have rgy_256 := gy_256.2; have qgy_245 := g_248.1; have rgy_245 := g_248.2; have qgr_249 := g_252.1; have rgr_249 := g_252.2; have qgmi_33 := g_208.1; have rgmi_33 := g_208.2; have qgmi_30 := gmi_30.1; have rgmi_30 := gmi_30.2; have qgmi_29 := gmi_29.1; have rgmi_29 := gmi_29.2; have qgmi_26 := gmi_26.1; have rgmi_26 := gmi_26.2; omega), by rw [ht]; exact hP, hD⟩, hS.F ht⟩) hS.2.2 dX12_placeHere_56
        · have hc_262 : r_249.toInt = (-1) := by have h9 := congrArg Int32.toInt c_250; rw [show ((-1) : Int32).toInt = (-1) from by decide] at h9; exact h9
          have g_263 : gi r_249 (-1) (-1) := gi_eq c_250 (gi_c (-1) (-1) (by decide))
          refine lv_aload_n hx hb dX12_placeHere_41 rfl (lv_at hl 1 rfl) ?_
          refine lv_iconst (v := 2) hx hb dX12_placeHere_42 (by decide) ?_
          have hPc := hP.sub (ws' := [(h0, .inr (12, fsMM (upd (upd (upd mi 27 y_243) 28 y_244) 33 y_245) mr))]) [0] rfl
          have hKc := hK.sub (tys' := []) [] rfl
          have hDc := hD.sub (ws' := [(h0, .inr (12, fsMM (upd (upd (upd mi 27 y_243) 28 y_244) 33 y_245) mr))]) [0] (by decide) rfl
          have hFc := va_free (wc := [(h0, .inr (12, fsMM (upd (upd (upd mi 27 y_243) 28 y_244) 33 y_245) mr))]) hD hS hA [0] rfl
          refine va_callv (va_runV (As := [.int 2]) (rest := []) ⟨hx, hb, hml, hown, hts⟩ (sX12_faultsP l dC dI H.size h0 (upd (upd (upd mi 27 y_243) 28 y_244) 33 y_245) mr 2 gmi_0 gmi_1 gmi_2 gmi_4 gmi_7 gmi_10 gmi_17 gmi_23 gmi_24 gmi_26 gmi_29 gmi_30 (gi_w g_248 (by decide)) gmi_37 gmi_41 gmi_50 gmi_51 gmi_56) (cwV 1 hts (gz_gV mGB_165 mGB_166 mGB_167 mGB_1 mGB_168 goodGB) rfl rfl rfl (by decide +kernel) ⟨Nat.le_of_ble_eq_true rfl, Nat.le_of_ble_eq_true rfl⟩) ⟨fun a U g mk q => by obtain ⟨q0, q1, qP, qK, qD⟩ := q; exact ⟨q0, q1, qP, va_K.moved (u := U) (U := U.calling g mk a) (Vm.Alike.refl U.vm) qK, qD⟩, va_recv hKc hPc (ci := 12) (q0 := 0) rfl rfl, fun U hU hW => ⟨rfl, by rw [hU], by rw [hU]; exact hPc, va_K.moved hW.alike hKc, hDc.weaken (fun _ _ _ _ => trivial)⟩⟩ rfl rfl hl.1 rfl (lv_room (Nat.le_of_ble_eq_true rfl)) dX12_placeHere_43 ⟨Nat.zero_le _, Nat.zero_le _⟩) hS (fun q _ h => hFc q h) hFc (fun u t H1 locs ht hvm hw hB hz1 hk1 hS => ?_)
          obtain ⟨y_265, y_266, y_267, gy_267, hpr0_r_264, hP1, hD1⟩ := hB
          rw [ht] at hP1
          obtain ⟨hP, hD⟩ := va_join (wr := [((mr 13), .inl (km_tape, 1600, .inl fm_tape)), ((mr 1), .inl (km_letter, 36, .inl fm_letter))]) (w1 := [(h0, .inr (12, fsMM (upd (upd (upd mi 27 y_265) 28 y_266) 33 y_267) mr))]) hP hD [0] [1, 2] rfl rfl (by decide) (by decide) hk1 hFc hP1 hD1
          have hpr0_r_264 : y_267.toInt = 1 := hpr0_r_264
          have hP := hP.sub (ws' := [(h0, .inr (12, fsMM (upd (upd (upd mi 27 y_265) 28 y_266) 33 y_267) mr)), ((mr 13), .inl (km_tape, 1600, .inl fm_tape)), ((mr 1), .inl (km_letter, 36, .inl fm_letter))]) [2, 0, 1] rfl
          have hD := hD.sub (ws' := [(h0, .inr (12, fsMM (upd (upd (upd mi 27 y_265) 28 y_266) 33 y_267) mr)), ((mr 13), .inl (km_tape, 1600, .inl fm_tape)), ((mr 1), .inl (km_letter, 36, .inl fm_letter))]) [2, 0, 1] (by decide) rfl
          generalize H1 = H at hP hS ⊢
          refine lv_aload_n hx hb dX12_placeHere_46 rfl (lv_at hl 1 rfl) ?_
          refine lv_iconst (v := 1) hx hb dX12_placeHere_47 (by decide) ?_
          have hPc := hP.sub (ws' := [(h0, .inr (12, fsMM (upd (upd (upd mi 27 y_265) 28 y_266) 33 y_267) mr)), ((mr 13), .inl (km_tape, 1600, .inl fm_tape))]) [0, 1] rfl
          have hKc := hK.sub (tys' := [(km_tape, .int)]) [0] rfl
          have hDc := hD.sub (ws' := [(h0, .inr (12, fsMM (upd (upd (upd mi 27 y_265) 28 y_266) 33 y_267) mr)), ((mr 13), .inl (km_tape, 1600, .inl fm_tape))]) [0, 1] (by decide) rfl
          have hFc := va_free (wc := [(h0, .inr (12, fsMM (upd (upd (upd mi 27 y_265) 28 y_266) 33 y_267) mr)), ((mr 13), .inl (km_tape, 1600, .inl fm_tape))]) hD hS hA [0, 1] rfl
          refine va_callv (va_runV (As := [.int 1]) (rest := []) ⟨hx, hb, hml, hown, hts⟩ (sX12_passesP l dC dI H.size h0 (upd (upd (upd mi 27 y_265) 28 y_266) 33 y_267) mr km_tape fm_tape 1 gmi_0 gmi_1 gmi_2 gmi_4 gmi_7 gmi_10 gmi_17 gmi_23 gmi_24 gmi_26 gmi_29 gmi_30 gy_267 gmi_37 gmi_41 gmi_50 gmi_51 gmi_56 (gi_w (gi_c 1 1 (by decide)) (by decide)) (show (mi 30).toInt ≤ (mi 29).toInt from by have qgy_267 := gy_267.1; have rgy_267 := gy_267.2; have qgy_245 := g_248.1; have rgy_245 := g_248.2; have qgr_249 := g_263.1; have rgr_249 := g_263.2; have qgmi_33 := g_208.1; have rgmi_33 := g_208.2; have qgmi_30 := gmi_30.1; have rgmi_30 := gmi_30.2; have qgmi_29 := gmi_29.1; have rgmi_29 := gmi_29.2; have qgmi_26 := gmi_26.1; have rgmi_26 := gmi_26.2; omega) (show (mi 29).toInt ≤ (mi 26).toInt from by have qgy_267 := gy_267.1; have rgy_267 := gy_267.2; have qgy_245 := g_248.1; have rgy_245 := g_248.2; have qgr_249 := g_263.1; have rgr_249 := g_263.2; have qgmi_33 := g_208.1; have rgmi_33 := g_208.2; have qgmi_30 := gmi_30.1; have rgmi_30 := gmi_30.2; have qgmi_29 := gmi_29.1; have rgmi_29 := gmi_29.2; have qgmi_26 := gmi_26.1; have rgmi_26 := gmi_26.2; omega) (show ((mi 31).toInt = 0 ∨ (mi 30).toInt < (mi 29).toInt) from by have qgy_267 := gy_267.1; have rgy_267 := gy_267.2; have qgy_245 := g_248.1; have rgy_245 := g_248.2; have qgr_249 := g_263.1; have rgr_249 := g_263.2; have qgmi_33 := g_208.1; have rgmi_33 := g_208.2; have qgmi_30 := gmi_30.1; have rgmi_30 := gmi_30.2; have qgmi_29 := gmi_29.1; have rgmi_29 := gmi_29.2; have qgmi_26 := gmi_26.1; have rgmi_26 := gmi_26.2; omega)) (cwV 1 hts (gz_gV mGB_161 mGB_162 mGB_163 mGB_1 mGB_164 goodGB) rfl rfl rfl (by decide +kernel) ⟨Nat.le_of_ble_eq_true rfl, Nat.le_of_ble_eq_true rfl⟩) ⟨fun a U g mk q => by obtain ⟨q0, q1, qP, qK, qD⟩ := q; exact ⟨q0, q1, qP, va_K.moved (u := U) (U := U.calling g mk a) (Vm.Alike.refl U.vm) qK, qD⟩, va_recv hKc hPc (ci := 12) (q0 := 0) rfl rfl, fun U hU hW => ⟨rfl, by rw [hU], by rw [hU]; exact hPc, va_K.moved hW.alike hKc, hDc.weaken (fun _ _ _ _ => trivial)⟩⟩ rfl rfl hl.1 rfl (lv_room (Nat.le_of_ble_eq_true rfl)) dX12_placeHere_48 ⟨Nat.zero_le _, Nat.zero_le _⟩) hS (fun q _ h => hFc q h) hFc (fun u t H1 locs ht hvm hw hB hz1 hk1 hS => ?_)
          obtain ⟨y_269, y_270, y_271, y_272, y_273, y_274, y_275, gy_271, gy_272, gy_275, hpr0_r_268, hpr1_r_268, hpr2_r_268, hpr3_r_268, hpr4_r_268, hpr5_r_268, hpr6_r_268, hP1, hD1⟩ := hB
          rw [ht] at hP1
          obtain ⟨hP, hD⟩ := va_join (wr := [((mr 1), .inl (km_letter, 36, .inl fm_letter))]) (w1 := [(h0, .inr (12, fsMM (upd (upd (upd (upd (upd (upd (upd mi 27 y_269) 28 y_270) 29 y_271) 30 y_272) 31 y_273) 32 y_274) 33 y_275) mr)), ((mr 13), .inl (km_tape, 1600, .inl fm_tape))]) hP hD [0, 1] [2] rfl rfl (by decide) (by decide) hk1 hFc hP1 hD1
          have hpr0_r_268 : (mi 30).toInt ≤ y_272.toInt := hpr0_r_268
          have hpr1_r_268 : y_272.toInt ≤ y_271.toInt := hpr1_r_268
          have hpr2_r_268 : y_271.toInt ≤ (mi 26).toInt := hpr2_r_268
          have hpr3_r_268 : (y_273.toInt = 0 ∨ y_272.toInt < y_271.toInt) := hpr3_r_268
          have hpr4_r_268 : y_267.toInt ≤ y_275.toInt := hpr4_r_268
          have hpr5_r_268 : (1 = 1 ∨ y_275.toInt = 1) := by have h9 : ((1 : Int32).toInt = 1 ∨ y_275.toInt = 1) := hpr5_r_268; rw [show ((1 : Int32).toInt = (1 from by decide] at h9; exact h9
          have hpr6_r_268 : (y_275.toInt = 1 ∨ (mi 29).toInt ≤ y_272.toInt) := hpr6_r_268
          have hP := hP.sub (ws' := [(h0, .inr (12, fsMM (upd (upd (upd (upd (upd (upd (upd mi 27 y_269) 28 y_270) 29 y_271) 30 y_272) 31 y_273) 32 y_274) 33 y_275) mr)), ((mr 13), .inl (km_tape, 1600, .inl fm_tape)), ((mr 1), .inl (km_letter, 36, .inl fm_letter))]) [1, 2, 0] rfl
          have hD := hD.sub (ws' := [(h0, .inr (12, fsMM (upd (upd (upd (upd (upd (upd (upd mi 27 y_269) 28 y_270) 29 y_271) 30 y_272) 31 y_273) 32 y_274) 33 y_275) mr)), ((mr 13), .inl (km_tape, 1600, .inl fm_tape)), ((mr 1), .inl (km_letter, 36, .inl fm_letter))]) [1, 2, 0] (by decide) rfl
          generalize H1 = H at hP hS ⊢
          refine lv_iconst (v := 0) hx hb dX12_placeHere_51 (by decide) ?_
          refine lv_iload_n hx hb dX12_placeHere_52 rfl (lv_at hl 0 rfl) ?_
          refine va_mmax (own := RX12) hx hb (by rw [hml]; exact hl.1.symm) hown (hts _ (List.mem_cons_of_mem _ mGB_202)) (hts _ (List.mem_cons_of_mem _ mGB_203)) (hts _ (List.mem_cons_of_mem _ mGB_98)) (hts _ (List.mem_cons_of_mem _ mGB_204)) (Nat.le_of_ble_eq_true rfl) (Nat.le_of_ble_eq_true rfl) (Nat.zero_le _) (Nat.zero_le _) dX12_placeHere_53 ?_
          refine lv_topi (fun x_276 ex_276 => ?_)
          have gx_276 : gi x_276 0 0 := gi_max ex_276 (gi_c 0 0 (by decide)) g_263 (by decide)
          exact W.iret (v := x_276) hx hb hr (fun t ht hW => ⟨⟨x_276, (), rfl, (gi_w gx_276 (by decide)), y_269, y_270, y_271, y_272, y_273, y_274, y_275, gy_271, gy_272, gy_275, hpr0_r_268, hpr1_r_268, hpr2_r_268, hpr3_r_268, (show (mi 33).toInt ≤ y_275.toInt from by have qgy_275 := gy_275.1; have rgy_275 := gy_275.2; have qgy_272 := gy_272.1; have rgy_272 := gy_272.2; have qgy_271 := gy_271.1; have rgy_271 := gy_271.2; have qgy_267 := gy_267.1; have rgy_267 := gy_267.2; have qgy_245 := g_248.1; have rgy_245 := g_248.2; have qgr_249 := g_263.1; have rgr_249 := g_263.2; have qgmi_33 := g_208.1; have rgmi_33 := g_208.2; have qgmi_30 := gmi_30.1; have rgmi_30 := gmi_30.2; have qgmi_29 := gmi_29.1; have rgmi_29 := gmi_29.2; have qgmi_26 := gmi_26.1; have rgmi_26 := gmi_26.2; omega), by rw [ht]; exact hP, hD⟩, hS.F ht⟩) hS.2.2 dX12_placeHere_56
      · have hc_277 : y_245.toInt ≠ 0 := fun h9 => c_246 (Int32.toInt_inj.mp (by rw [show (0 : Int32).toInt = 0 from by decide]; exact h9))
        have g_278 : gi y_245 1 1 := gi_ne_lo c_246 gy_245 (gi_c 0 0 (by decide)) (by decide)
        refine lv_iconst (v := 0) hx hb dX12_placeHere_27 (by decide) ?_
        refine lv_goto (tgt := 35) hx hb dX12_placeHere_28 (by decide) ?_
        refine lv_istore_n (lv' := [(1, .int 0), (0, .ref h0)]) hx hb dX12_placeHere_35 rfl hl (by decide) rfl (fun ls hl => ?_)
        refine lv_iload_n hx hb dX12_placeHere_36 rfl (lv_at hl 0 rfl) ?_
        refine lv_iconst (v := (-1)) hx hb dX12_placeHere_37 (by decide) ?_
        refine lv_icmp_ne (tgt := 46) hx hb dX12_placeHere_38 (by decide) (fun c_279 => ?_) (fun c_279 => absurd c_279 (gi_no_eq (gi_c 0 0 (by decide)) (gi_c (-1) (-1) (by decide)) (by decide)))
        refine lv_aload_n hx hb dX12_placeHere_46 rfl (lv_at hl 1 rfl) ?_
        refine lv_iconst (v := 1) hx hb dX12_placeHere_47 (by decide) ?_
        have hPc := hP.sub (ws' := [(h0, .inr (12, fsMM (upd (upd (upd mi 27 y_243) 28 y_244) 33 y_245) mr)), ((mr 13), .inl (km_tape, 1600, .inl fm_tape))]) [0, 1] rfl
        have hKc := hK.sub (tys' := [(km_tape, .int)]) [0] rfl
        have hDc := hD.sub (ws' := [(h0, .inr (12, fsMM (upd (upd (upd mi 27 y_243) 28 y_244) 33 y_245) mr)), ((mr 13), .inl (km_tape, 1600, .inl fm_tape))]) [0, 1] (by decide) rfl
        have hFc := va_free (wc := [(h0, .inr (12, fsMM (upd (upd (upd mi 27 y_243) 28 y_244) 33 y_245) mr)), ((mr 13), .inl (km_tape, 1600, .inl fm_tape))]) hD hS hA [0, 1] rfl
        refine va_callv (va_runV (As := [.int 1]) (rest := []) ⟨hx, hb, hml, hown, hts⟩ (sX12_passesP l dC dI H.size h0 (upd (upd (upd mi 27 y_243) 28 y_244) 33 y_245) mr km_tape fm_tape 1 gmi_0 gmi_1 gmi_2 gmi_4 gmi_7 gmi_10 gmi_17 gmi_23 gmi_24 gmi_26 gmi_29 gmi_30 (gi_w g_278 (by decide)) gmi_37 gmi_41 gmi_50 gmi_51 gmi_56 (gi_w (gi_c 1 1 (by decide)) (by decide)) (show (mi 30).toInt ≤ (mi 29).toInt from by have qgy_245 := g_278.1; have rgy_245 := g_278.2; have qgmi_33 := g_208.1; have rgmi_33 := g_208.2; have qgmi_30 := gmi_30.1; have rgmi_30 := gmi_30.2; have qgmi_29 := gmi_29.1; have rgmi_29 := gmi_29.2; have qgmi_26 := gmi_26.1; have rgmi_26 := gmi_26.2; omega) (show (mi 29).toInt ≤ (mi 26).toInt from by have qgy_245 := g_278.1; have rgy_245 := g_278.2; have qgmi_33 := g_208.1; have rgmi_33 := g_208.2; have qgmi_30 := gmi_30.1; have rgmi_30 := gmi_30.2; have qgmi_29 := gmi_29.1; have rgmi_29 := gmi_29.2; have qgmi_26 := gmi_26.1; have rgmi_26 := gmi_26.2; omega) (show ((mi 31).toInt = 0 ∨ (mi 30).toInt < (mi 29).toInt) from by have qgy_245 := g_278.1; have rgy_245 := g_278.2; have qgmi_33 := g_208.1; have rgmi_33 := g_208.2; have qgmi_30 := gmi_30.1; have rgmi_30 := gmi_30.2; have qgmi_29 := gmi_29.1; have rgmi_29 := gmi_29.2; have qgmi_26 := gmi_26.1; have rgmi_26 := gmi_26.2; omega)) (cwV 1 hts (gz_gV mGB_161 mGB_162 mGB_163 mGB_1 mGB_164 goodGB) rfl rfl rfl (by decide +kernel) ⟨Nat.le_of_ble_eq_true rfl, Nat.le_of_ble_eq_true rfl⟩) ⟨fun a U g mk q => by obtain ⟨q0, q1, qP, qK, qD⟩ := q; exact ⟨q0, q1, qP, va_K.moved (u := U) (U := U.calling g mk a) (Vm.Alike.refl U.vm) qK, qD⟩, va_recv hKc hPc (ci := 12) (q0 := 0) rfl rfl, fun U hU hW => ⟨rfl, by rw [hU], by rw [hU]; exact hPc, va_K.moved hW.alike hKc, hDc.weaken (fun _ _ _ _ => trivial)⟩⟩ rfl rfl hl.1 rfl (lv_room (Nat.le_of_ble_eq_true rfl)) dX12_placeHere_48 ⟨Nat.zero_le _, Nat.zero_le _⟩) hS (fun q _ h => hFc q h) hFc (fun u t H1 locs ht hvm hw hB hz1 hk1 hS => ?_)
        obtain ⟨y_281, y_282, y_283, y_284, y_285, y_286, y_287, gy_283, gy_284, gy_287, hpr0_r_280, hpr1_r_280, hpr2_r_280, hpr3_r_280, hpr4_r_280, hpr5_r_280, hpr6_r_280, hP1, hD1⟩ := hB
        rw [ht] at hP1
        obtain ⟨hP, hD⟩ := va_join (wr := [((mr 1), .inl (km_letter, 36, .inl fm_letter))]) (w1 := [(h0, .inr (12, fsMM (upd (upd (upd (upd (upd (upd (upd mi 27 y_281) 28 y_282) 29 y_283) 30 y_284) 31 y_285) 32 y_286) 33 y_287) mr)), ((mr 13), .inl (km_tape, 1600, .inl fm_tape))]) hP hD [0, 1] [2] rfl rfl (by decide) (by decide) hk1 hFc hP1 hD1
        have hpr0_r_280 : (mi 30).toInt ≤ y_284.toInt := hpr0_r_280
        have hpr1_r_280 : y_284.toInt ≤ y_283.toInt := hpr1_r_280
        have hpr2_r_280 : y_283.toInt ≤ (mi 26).toInt := hpr2_r_280
        have hpr3_r_280 : (y_285.toInt = 0 ∨ y_284.toInt < y_283.toInt) := hpr3_r_280
        have hpr4_r_280 : y_245.toInt ≤ y_287.toInt := hpr4_r_280
        have hpr5_r_280 : (1 = 1 ∨ y_287.toInt = 1) := by have h9 : ((1 : Int32).toInt = 1 ∨ y_287.toInt = 1) := hpr5_r_280; rw [show ((1 : Int32).toInt = (1 from by decide] at h9; exact h9
        have hpr6_r_280 : (y_287.toInt = 1 ∨ (mi 29).toInt ≤ y_284.toInt) := hpr6_r_280
        have hP := hP.sub (ws' := [(h0, .inr (12, fsMM (upd (upd (upd (upd (upd (upd (upd mi 27 y_281) 28 y_282) 29 y_283) 30 y_284) 31 y_285) 32 y_286) 33 y_287) mr)), ((mr 13), .inl (km_tape, 1600, .inl fm_tape)), ((mr 1), .inl (km_letter, 36, .inl fm_letter))]) [1, 2, 0] rfl
        have hD := hD.sub (ws' := [(h0, .inr (12, fsMM (upd (upd (upd (upd (upd (upd (upd mi 27 y_281) 28 y_282) 29 y_283) 30 y_284) 31 y_285) 32 y_286) 33 y_287) mr)), ((mr 13), .inl (km_tape, 1600, .inl fm_tape)), ((mr 1), .inl (km_letter, 36, .inl fm_letter))]) [1, 2, 0] (by decide) rfl
        generalize H1 = H at hP hS ⊢
        refine lv_iconst (v := 0) hx hb dX12_placeHere_51 (by decide) ?_
        refine lv_iload_n hx hb dX12_placeHere_52 rfl (lv_at hl 0 rfl) ?_
        refine va_mmax (own := RX12) hx hb (by rw [hml]; exact hl.1.symm) hown (hts _ (List.mem_cons_of_mem _ mGB_202)) (hts _ (List.mem_cons_of_mem _ mGB_203)) (hts _ (List.mem_cons_of_mem _ mGB_98)) (hts _ (List.mem_cons_of_mem _ mGB_204)) (Nat.le_of_ble_eq_true rfl) (Nat.le_of_ble_eq_true rfl) (Nat.zero_le _) (Nat.zero_le _) dX12_placeHere_53 ?_
        refine lv_topi (fun x_288 ex_288 => ?_)
        have gx_288 : gi x_288 0 0 := gi_max ex_288 (gi_c 0 0 (by decide)) (gi_c 0 0 (by decide)) (by decide)
        exact W.iret (v := x_288) hx hb hr (fun t ht hW => ⟨⟨x_288, (), rfl, (gi_w gx_288 (by decide)), y_281, y_282, y_283, y_284, y_285, y_286, y_287, gy_283, gy_284, gy_287, hpr0_r_280, hpr1_r_280, hpr2_r_280, hpr3_r_280, (show (mi 33).toInt ≤ y_287.toInt from by have qgy_287 := gy_287.1; have rgy_287 := gy_287.2; have qgy_284 := gy_284.1; have rgy_284 := gy_284.2; have qgy_283 := gy_283.1; have rgy_283 := gy_283.2; have qgy_245 := g_278.1; have rgy_245 := g_278.2; have qgmi_33 := g_208.1; have rgmi_33 := g_208.2; have qgmi_30 := gmi_30.1; have rgmi_30 := gmi_30.2; have qgmi_29 := gmi_29.1; have rgmi_29 := gmi_29.2; have qgmi_26 := gmi_26.1; have rgmi_26 := gmi_26.2; omega), by rw [ht]; exact hP, hD⟩, hS.F ht⟩) hS.2.2 dX12_placeHere_56
