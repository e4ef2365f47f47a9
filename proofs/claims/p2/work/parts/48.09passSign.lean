theorem dX6_passSign_0 : decode cX6_passSign 0 = .ok (.aload_n 0, 1) := by decide +kernel
theorem dX6_passSign_1 : decode cX6_passSign 1 = .ok (.aload_n 0, 1) := by decide +kernel
theorem dX6_passSign_2 : decode cX6_passSign 2 = .ok (.getfield 32, 3) := by decide +kernel
theorem dX6_passSign_5 : decode cX6_passSign 5 = .ok (.iconst 4, 1) := by decide +kernel
theorem dX6_passSign_6 : decode cX6_passSign 6 = .ok (.if_icmp .ne 7, 3) := by decide +kernel
theorem dX6_passSign_9 : decode cX6_passSign 9 = .ok (.iconst 1, 1) := by decide +kernel
theorem dX6_passSign_10 : decode cX6_passSign 10 = .ok (.goto 4, 3) := by decide +kernel
theorem dX6_passSign_13 : decode cX6_passSign 13 = .ok (.iconst 0, 1) := by decide +kernel
theorem dX6_passSign_14 : decode cX6_passSign 14 = .ok (.iconst 1, 1) := by decide +kernel
theorem dX6_passSign_15 : decode cX6_passSign 15 = .ok (.invokevirtual 166, 3) := by decide +kernel
theorem dX6_passSign_18 : decode cX6_passSign 18 = .ok (.aload_n 0, 1) := by decide +kernel
theorem dX6_passSign_19 : decode cX6_passSign 19 = .ok (.invokevirtual 44, 3) := by decide +kernel
theorem dX6_passSign_22 : decode cX6_passSign 22 = .ok (.return_, 1) := by decide +kernel
set_option maxHeartbeats 4000000 in
set_option maxRecDepth 100000 in
theorem sX6_passSign (l : Launch) (dC : Nat → ClassId) (dI : Nat → Nat → Nat) (sz : Nat) (h0 : Nat) (tp : Nat) (bt : Nat) (dr : Nat) (q_faultKind : Int32) (q_faultPlace : Int32) (q_token : Int32) (q_start : Int32) (q_stop : Int32) (b_length : Int32) (kbt : ClassId) (fbt : Nat → Int32) (gq_faultKind : gi q_faultKind 0 3) (gq_start : gi q_start 0 1600) (gq_stop : gi q_stop 0 1600) (gb_length : gi b_length 0 1600) : Met l yX6_passSign (.code yX6_passSign cX6_passSign 1 none :: wsGA) ({ frames := 2, cells := 0, slots := 0, locals := 44 }) (va_Pc [.ref h0] (fun U => U.heap.size = sz ∧ va_P (dC, dI) vwCl [(h0, .inr (6, [.ref tp, .ref dr, .int q_faultKind, .int q_faultPlace, .int q_token, .int q_start, .int q_stop])), (tp, .inr (10, [.ref bt, .int b_length])), (bt, .inl (kbt, 1600, .inl fbt))] U.heap ∧ va_K (dC, dI) vwCl [(kbt, .byte)] U ∧ va_D (fun _ => True) [(h0, .inr (6, [.ref tp, .ref dr, .int q_faultKind, .int q_faultPlace, .int q_token, .int q_start, .int q_stop])), (tp, .inr (10, [.ref bt, .int b_length])), (bt, .inl (kbt, 1600, .inl fbt))] ∧ nzA U)) (va_Qv (fun (u : Unit) => True) (fun _ t => ∃ (w0_2 : Int32) (w0_3 : Int32) (w0_4 : Int32) (w0_5 : Int32) (w0_6 : Int32), gi w0_2 0 3 ∧ gi w0_5 0 1600 ∧ gi w0_6 0 1600 ∧ q_faultKind.toInt ≤ w0_2.toInt ∧ va_P (dC, dI) vwCl [(h0, .inr (6, [.ref tp, .ref dr, .int w0_2, .int w0_3, .int w0_4, .int w0_5, .int w0_6])), (tp, .inr (10, [.ref bt, .int b_length])), (bt, .inl (kbt, 1600, .inl fbt))] t.heap ∧ va_D (va_A [(h0, .inr (6, [.ref tp, .ref dr, .int q_faultKind, .int q_faultPlace, .int q_token, .int q_start, .int q_stop])), (tp, .inr (10, [.ref bt, .int b_length])), (bt, .inl (kbt, 1600, .inl fbt))] sz) [(h0, .inr (6, [.ref tp, .ref dr, .int w0_2, .int w0_3, .int w0_4, .int w0_5, .int w0_6])), (tp, .inr (10, [.ref bt, .int b_length])), (bt, .inl (kbt, 1600, .inl fbt))]) (va_A [(h0, .inr (6, [.ref tp, .ref dr, .int q_faultKind, .int q_faultPlace, .int q_token, .int q_start, .int q_stop])), (tp, .inr (10, [.ref bt, .int b_length])), (bt, .inl (kbt, 1600, .inl fbt))] sz)) 0 0 (va_A [(h0, .inr (6, [.ref tp, .ref dr, .int q_faultKind, .int q_faultPlace, .int q_token, .int q_start, .int q_stop])), (tp, .inr (10, [.ref bt, .int b_length])), (bt, .inl (kbt, 1600, .inl fbt))] sz) := by
  refine Met.ofW (cc := cX6_passSign) (maxL := 1) (ret := none) (by decide) rfl ?_
  intro p e s m args below meth c s₁ B hml hv
  obtain ⟨rfl, hsz, hP, hK, hD0, hz⟩ := hv
  have hx := B.exec
  have hb := B.bytes
  have hr := B.returns
  have hts := atoms_spec (ws := (.code yX6_passSign cX6_passSign 1 none :: wsGA)) B.pre
  have hown : s.vm.findClass RX6 = some m.cls := findClass_of_methodNamed B.named
  have hlocks := B.notSynchronized
  subst hsz
  have hD := hD0.self (sz := s.heap.size)
  generalize hAe : va_A [(h0, .inr (6, [.ref tp, .ref dr, .int q_faultKind, .int q_faultPlace, .int q_token, .int q_start, .int q_stop])), (tp, .inr (10, [.ref bt, .int b_length])), (bt, .inl (kbt, 1600, .inl fbt))] s.heap.size = A at hD ⊢
  have hA : ∀ q : Nat, s.heap.size ≤ q → A q := fun q h => by rw [← hAe]; exact Or.inr h
  have hS : va_S A s.heap s.heap [] := va_S.rf
  have hl := lv_entry ([.ref h0]) (n := 1) (Nat.le_of_ble_eq_true rfl)
  rw [lg_entry_eq]
  generalize (lg_sl ([.ref h0]) ++ List.replicate (1 - (lg_sl ([.ref h0])).length) Slot.unset).toArray = ls at hl ⊢
  have hl : lv_has ls 1 [(0, .ref h0)] := hl
  refine lv_aload_n hx hb dX6_passSign_0 rfl (lv_at hl 0 rfl) ?_
  refine lv_aload_n hx hb dX6_passSign_1 rfl (lv_at hl 0 rfl) ?_
  refine va_get (D := (dC, dI)) (ci := 6) (v := .int q_token) (C := RX6) (T := TX6) (N := 7) hx hb hts (fun w h => List.mem_cons_of_mem _ (jnGA_X6 w h)) hown hK hP 0 rfl rfl 4 (by decide) (hts _ (List.mem_cons_of_mem _ mGA_57)) (fun _ h9 => h9) rfl dX6_passSign_2 ?_
  refine lv_iconst (v := 4) hx hb dX6_passSign_5 (by decide) ?_
  refine lv_icmp_ne (tgt := 13) hx hb dX6_passSign_6 (by decide) (fun c_41 => ?_) (fun c_41 => ?_)
  · have hc_42 : q_token.toInt ≠ 4 := fun h9 => c_41 (Int32.toInt_inj.mp (by rw [show (4 : Int32).toInt = 4 from by decide]; exact h9))
    refine lv_iconst (v := 0) hx hb dX6_passSign_13 (by decide) ?_
    refine lv_iconst (v := 1) hx hb dX6_passSign_14 (by decide) ?_
    have hPc := hP.sub (ws' := [(h0, .inr (6, [.ref tp, .ref dr, .int q_faultKind, .int q_faultPlace, .int q_token, .int q_start, .int q_stop]))]) [0] rfl
    have hKc := hK.sub (tys' := []) [] rfl
    have hDc := hD.sub (ws' := [(h0, .inr (6, [.ref tp, .ref dr, .int q_faultKind, .int q_faultPlace, .int q_token, .int q_start, .int q_stop]))]) [0] (by decide) rfl
    have hFc := va_free (wc := [(h0, .inr (6, [.ref tp, .ref dr, .int q_faultKind, .int q_faultPlace, .int q_token, .int q_start, .int q_stop]))]) hD hS hA [0] rfl
    refine va_callv (va_runV (As := [.int 0, .int 1]) (rest := []) ⟨hx, hb, hml, hown, hts⟩ (sX6_expect l dC dI s.heap.size h0 tp dr q_faultKind q_faultPlace q_token q_start q_stop 0 1 gq_faultKind gq_start gq_stop (gi_w (gi_c 0 0 (by decide)) (by decide)) (gi_w (gi_c 1 1 (by decide)) (by decide))) (cwV 2 hts (gz_gV mGA_250 mGA_251 mGA_252 mGA_9 mGA_253 goodGA) rfl rfl rfl (by decide +kernel) ⟨Nat.le_of_ble_eq_true rfl, Nat.le_of_ble_eq_true rfl⟩) ⟨fun a U g mk q => by obtain ⟨q0, q1, qP, qK, qD, qZ⟩ := q; exact ⟨q0, q1, qP, va_K.moved (u := U) (U := U.calling g mk a) (Vm.Alike.refl U.vm) qK, qD, nzA_same (u := U) (U := U.calling g mk a) rfl qZ⟩, va_recv hKc hPc (ci := 6) (q0 := 0) rfl rfl, fun U hU hW => ⟨rfl, by rw [hU], by rw [hU]; exact hPc, va_K.moved hW.alike hKc, hDc.weaken (fun _ _ _ _ => trivial), nzA_warm hW hz⟩⟩ rfl rfl hl.1 rfl (lv_room (Nat.le_of_ble_eq_true rfl)) dX6_passSign_15 ⟨Nat.zero_le _, Nat.zero_le _⟩) hS (fun q _ h => hFc q h) hFc (fun u t H1 locs ht hvm hw hB hz1 hk1 hS => ?_)
    obtain ⟨y_44, y_45, gy_44, hpr0_r_43, hpr1_r_43, hP1, hD1⟩ := hB
    rw [ht] at hP1
    obtain ⟨hP, hD⟩ := va_join (wr := [(tp, .inr (10, [.ref bt, .int b_length])), (bt, .inl (kbt, 1600, .inl fbt))]) (w1 := [(h0, .inr (6, [.ref tp, .ref dr, .int y_44, .int y_45, .int q_token, .int q_start, .int q_stop]))]) hP hD [0] [1, 2] rfl rfl (by decide) (by decide) hk1 hFc hP1 hD1
    have hpr0_r_43 : q_faultKind.toInt ≤ y_44.toInt := hpr0_r_43
    have hpr1_r_43 : Hid (((0 : Int) = 1 ∨ 1 ≤ y_44.toInt)) := by have h9 : ((0 : Int32).toInt = 1 ∨ 1 ≤ y_44.toInt) := hpr1_r_43; rw [show (0 : Int32).toInt = 0 from by decide] at h9; exact h9
    have hf_46 : 1 ≤ y_44.toInt := Hid.resL hpr1_r_43 (by omega)
    have g_47 : gi y_44 1 3 := ⟨by omega, gy_44.2⟩
    have hP := hP.sub (ws' := [(h0, .inr (6, [.ref tp, .ref dr, .int y_44, .int y_45, .int q_token, .int q_start, .int q_stop])), (tp, .inr (10, [.ref bt, .int b_length])), (bt, .inl (kbt, 1600, .inl fbt))]) [2, 0, 1] rfl
    have hD := hD.sub (ws' := [(h0, .inr (6, [.ref tp, .ref dr, .int y_44, .int y_45, .int q_token, .int q_start, .int q_stop])), (tp, .inr (10, [.ref bt, .int b_length])), (bt, .inl (kbt, 1600, .inl fbt))]) [2, 0, 1] (by decide) rfl
    generalize H1 = H at hP hS ⊢
    refine lv_aload_n hx hb dX6_passSign_18 rfl (lv_at hl 0 rfl) ?_
    have hPc := hP.sub (ws' := [(h0, .inr (6, [.ref tp, .ref dr, .int y_44, .int y_45, .int q_token, .int q_start, .int q_stop])), (tp, .inr (10, [.ref bt, .int b_length])), (bt, .inl (kbt, 1600, .inl fbt))]) [0, 1, 2] rfl
    have hKc := hK.sub (tys' := [(kbt, .byte)]) [0] rfl
    have hDc := hD.sub (ws' := [(h0, .inr (6, [.ref tp, .ref dr, .int y_44, .int y_45, .int q_token, .int q_start, .int q_stop])), (tp, .inr (10, [.ref bt, .int b_length])), (bt, .inl (kbt, 1600, .inl fbt))]) [0, 1, 2] (by decide) rfl
    have hFc := va_free (wc := [(h0, .inr (6, [.ref tp, .ref dr, .int y_44, .int y_45, .int q_token, .int q_start, .int q_stop])), (tp, .inr (10, [.ref bt, .int b_length])), (bt, .inl (kbt, 1600, .inl fbt))]) hD hS hA [0, 1, 2] rfl
    refine va_callv (va_runV (As := []) (rest := []) ⟨hx, hb, hml, hown, hts⟩ (sX6_step l dC dI H.size h0 tp bt dr y_44 y_45 q_token q_start q_stop b_length kbt fbt (gi_w g_47 (by decide)) gq_start gq_stop gb_length) (cwV 0 hts (gz_gV mGA_162 mGA_163 mGA_164 mGA_9 mGA_165 goodGA) rfl rfl rfl (by decide +kernel) ⟨Nat.le_of_ble_eq_true rfl, Nat.le_of_ble_eq_true rfl⟩) ⟨fun a U g mk q => by obtain ⟨q0, q1, qP, qK, qD, qZ⟩ := q; exact ⟨q0, q1, qP, va_K.moved (u := U) (U := U.calling g mk a) (Vm.Alike.refl U.vm) qK, qD, nzA_same (u := U) (U := U.calling g mk a) rfl qZ⟩, va_recv hKc hPc (ci := 6) (q0 := 0) rfl rfl, fun U hU hW => ⟨rfl, by rw [hU], by rw [hU]; exact hPc, va_K.moved hW.alike hKc, hDc.weaken (fun _ _ _ _ => trivial), nzA_warm hW hz⟩⟩ rfl rfl hl.1 rfl (lv_room (Nat.le_of_ble_eq_true rfl)) dX6_passSign_19 ⟨Nat.zero_le _, Nat.zero_le _⟩) hS (fun q _ h => hFc q h) hFc (fun u t H1 locs ht hvm hw hB hz1 hk1 hS => ?_)
    obtain ⟨y_49, y_50, y_51, gy_50, gy_51, hP1, hD1⟩ := hB
    rw [ht] at hP1
    obtain ⟨hP, hD⟩ := va_join (wr := []) (w1 := [(h0, .inr (6, [.ref tp, .ref dr, .int y_44, .int y_45, .int y_49, .int y_50, .int y_51])), (tp, .inr (10, [.ref bt, .int b_length])), (bt, .inl (kbt, 1600, .inl fbt))]) hP hD [0, 1, 2] [] rfl rfl (by decide) (by decide) hk1 hFc hP1 hD1
    have hP := hP.sub (ws' := [(h0, .inr (6, [.ref tp, .ref dr, .int y_44, .int y_45, .int y_49, .int y_50, .int y_51])), (tp, .inr (10, [.ref bt, .int b_length])), (bt, .inl (kbt, 1600, .inl fbt))]) [0, 1, 2] rfl
    have hD := hD.sub (ws' := [(h0, .inr (6, [.ref tp, .ref dr, .int y_44, .int y_45, .int y_49, .int y_50, .int y_51])), (tp, .inr (10, [.ref bt, .int b_length])), (bt, .inl (kbt, 1600, .inl fbt))]) [0, 1, 2] (by decide) rfl
    generalize H1 = H at hP hS ⊢
    exact W.vret hx hb hr (fun t ht hW => ⟨⟨(), rfl, trivial, y_44, y_45, y_49, y_50, y_51, (gi_w g_47 (by decide)), gy_50, gy_51, hpr0_r_43, by rw [ht]; exact hP, hD⟩, hS.F ht⟩) hS.2.2 dX6_passSign_22
  · have hc_52 : q_token.toInt = 4 := by have h9 := congrArg Int32.toInt c_41; rw [show (4 : Int32).toInt = 4 from by decide] at h9; exact h9
    have g_53 : gi q_token 4 4 := gi_eq c_41 (gi_c 4 4 (by decide))
    refine lv_iconst (v := 1) hx hb dX6_passSign_9 (by decide) ?_
    refine lv_goto (tgt := 14) hx hb dX6_passSign_10 (by decide) ?_
    refine lv_iconst (v := 1) hx hb dX6_passSign_14 (by decide) ?_
    have hPc := hP.sub (ws' := [(h0, .inr (6, [.ref tp, .ref dr, .int q_faultKind, .int q_faultPlace, .int q_token, .int q_start, .int q_stop]))]) [0] rfl
    have hKc := hK.sub (tys' := []) [] rfl
    have hDc := hD.sub (ws' := [(h0, .inr (6, [.ref tp, .ref dr, .int q_faultKind, .int q_faultPlace, .int q_token, .int q_start, .int q_stop]))]) [0] (by decide) rfl
    have hFc := va_free (wc := [(h0, .inr (6, [.ref tp, .ref dr, .int q_faultKind, .int q_faultPlace, .int q_token, .int q_start, .int q_stop]))]) hD hS hA [0] rfl
    refine va_callv (va_runV (As := [.int 1, .int 1]) (rest := []) ⟨hx, hb, hml, hown, hts⟩ (sX6_expect l dC dI s.heap.size h0 tp dr q_faultKind q_faultPlace q_token q_start q_stop 1 1 gq_faultKind gq_start gq_stop (gi_w (gi_c 1 1 (by decide)) (by decide)) (gi_w (gi_c 1 1 (by decide)) (by decide))) (cwV 2 hts (gz_gV mGA_250 mGA_251 mGA_252 mGA_9 mGA_253 goodGA) rfl rfl rfl (by decide +kernel) ⟨Nat.le_of_ble_eq_true rfl, Nat.le_of_ble_eq_true rfl⟩) ⟨fun a U g mk q => by obtain ⟨q0, q1, qP, qK, qD, qZ⟩ := q; exact ⟨q0, q1, qP, va_K.moved (u := U) (U := U.calling g mk a) (Vm.Alike.refl U.vm) qK, qD, nzA_same (u := U) (U := U.calling g mk a) rfl qZ⟩, va_recv hKc hPc (ci := 6) (q0 := 0) rfl rfl, fun U hU hW => ⟨rfl, by rw [hU], by rw [hU]; exact hPc, va_K.moved hW.alike hKc, hDc.weaken (fun _ _ _ _ => trivial), nzA_warm hW hz⟩⟩ rfl rfl hl.1 rfl (lv_room (Nat.le_of_ble_eq_true rfl)) dX6_passSign_15 ⟨Nat.zero_le _, Nat.zero_le _⟩) hS (fun q _ h => hFc q h) hFc (fun u t H1 locs ht hvm hw hB hz1 hk1 hS => ?_)
    obtain ⟨y_55, y_56, gy_55, hpr0_r_54, hpr1_r_54, hP1, hD1⟩ := hB
    rw [ht] at hP1
    obtain ⟨hP, hD⟩ := va_join (wr := [(tp, .inr (10, [.ref bt, .int b_length])), (bt, .inl (kbt, 1600, .inl fbt))]) (w1 := [(h0, .inr (6, [.ref tp, .ref dr, .int y_55, .int y_56, .int q_token, .int q_start, .int q_stop]))]) hP hD [0] [1, 2] rfl rfl (by decide) (by decide) hk1 hFc hP1 hD1
    have hpr0_r_54 : q_faultKind.toInt ≤ y_55.toInt := hpr0_r_54
    have hpr1_r_54 : Hid (((1 : Int) = 1 ∨ 1 ≤ y_55.toInt)) := by have h9 : ((1 : Int32).toInt = 1 ∨ 1 ≤ y_55.toInt) := hpr1_r_54; rw [show (1 : Int32).toInt = 1 from by decide] at h9; exact h9
    have hP := hP.sub (ws' := [(h0, .inr (6, [.ref tp, .ref dr, .int y_55, .int y_56, .int q_token, .int q_start, .int q_stop])), (tp, .inr (10, [.ref bt, .int b_length])), (bt, .inl (kbt, 1600, .inl fbt))]) [2, 0, 1] rfl
    have hD := hD.sub (ws' := [(h0, .inr (6, [.ref tp, .ref dr, .int y_55, .int y_56, .int q_token, .int q_start, .int q_stop])), (tp, .inr (10, [.ref bt, .int b_length])), (bt, .inl (kbt, 1600, .inl fbt))]) [2, 0, 1] (by decide) rfl
    generalize H1 = H at hP hS ⊢
    refine lv_aload_n hx hb dX6_passSign_18 rfl (lv_at hl 0 rfl) ?_
    have hPc := hP.sub (ws' := [(h0, .inr (6, [.ref tp, .ref dr, .int y_55, .int y_56, .int q_token, .int q_start, .int q_stop])), (tp, .inr (10, [.ref bt, .int b_length])), (bt, .inl (kbt, 1600, .inl fbt))]) [0, 1, 2] rfl
    have hKc := hK.sub (tys' := [(kbt, .byte)]) [0] rfl
    have hDc := hD.sub (ws' := [(h0, .inr (6, [.ref tp, .ref dr, .int y_55, .int y_56, .int q_token, .int q_start, .int q_stop])), (tp, .inr (10, [.ref bt, .int b_length])), (bt, .inl (kbt, 1600, .inl fbt))]) [0, 1, 2] (by decide) rfl
    have hFc := va_free (wc := [(h0, .inr (6, [.ref tp, .ref dr, .int y_55, .int y_56, .int q_token, .int q_start, .int q_stop])), (tp, .inr (10, [.ref bt, .int b_length])), (bt, .inl (kbt, 1600, .inl fbt))]) hD hS hA [0, 1, 2] rfl
    refine va_callv (va_runV (As := []) (rest := []) ⟨hx, hb, hml, hown, hts⟩ (sX6_step l dC dI H.size h0 tp bt dr y_55 y_56 q_token q_start q_stop b_length kbt fbt gy_55 gq_start gq_stop gb_length) (cwV 0 hts (gz_gV mGA_162 mGA_163 mGA_164 mGA_9 mGA_165 goodGA) rfl rfl rfl (by decide +kernel) ⟨Nat.le_of_ble_eq_true rfl, Nat.le_of_ble_eq_true rfl⟩) ⟨fun a U g mk q => by obtain ⟨q0, q1, qP, qK, qD, qZ⟩ := q; exact ⟨q0, q1, qP, va_K.moved (u := U) (U := U.calling g mk a) (Vm.Alike.refl U.vm) qK, qD, nzA_same (u := U) (U := U.calling g mk a) rfl qZ⟩, va_recv hKc hPc (ci := 6) (q0 := 0) rfl rfl, fun U hU hW => ⟨rfl, by rw [hU], by rw [hU]; exact hPc, va_K.moved hW.alike hKc, hDc.weaken (fun _ _ _ _ => trivial), nzA_warm hW hz⟩⟩ rfl rfl hl.1 rfl (lv_room (Nat.le_of_ble_eq_true rfl)) dX6_passSign_19 ⟨Nat.zero_le _, Nat.zero_le _⟩) hS (fun q _ h => hFc q h) hFc (fun u t H1 locs ht hvm hw hB hz1 hk1 hS => ?_)
    obtain ⟨y_58, y_59, y_60, gy_59, gy_60, hP1, hD1⟩ := hB
    rw [ht] at hP1
    obtain ⟨hP, hD⟩ := va_join (wr := []) (w1 := [(h0, .inr (6, [.ref tp, .ref dr, .int y_55, .int y_56, .int y_58, .int y_59, .int y_60])), (tp, .inr (10, [.ref bt, .int b_length])), (bt, .inl (kbt, 1600, .inl fbt))]) hP hD [0, 1, 2] [] rfl rfl (by decide) (by decide) hk1 hFc hP1 hD1
    have hP := hP.sub (ws' := [(h0, .inr (6, [.ref tp, .ref dr, .int y_55, .int y_56, .int y_58, .int y_59, .int y_60])), (tp, .inr (10, [.ref bt, .int b_length])), (bt, .inl (kbt, 1600, .inl fbt))]) [0, 1, 2] rfl
    have hD := hD.sub (ws' := [(h0, .inr (6, [.ref tp, .ref dr, .int y_55, .int y_56, .int y_58, .int y_59, .int y_60])), (tp, .inr (10, [.ref bt, .int b_length])), (bt, .inl (kbt, 1600, .inl fbt))]) [0, 1, 2] (by decide) rfl
    generalize H1 = H at hP hS ⊢
    exact W.vret hx hb hr (fun t ht hW => ⟨⟨(), rfl, trivial, y_55, y_56, y_58, y_59, y_60, gy_55, gy_59, gy_60, hpr0_r_54, by rw [ht]; exact hP, hD⟩, hS.F ht⟩) hS.2.2 dX6_passSign_22
