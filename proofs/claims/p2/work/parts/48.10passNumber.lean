theorem dX6_passNumber_0 : decode cX6_passNumber 0 = .ok (.aload_n 0, 1) := by decide +kernel
theorem dX6_passNumber_1 : decode cX6_passNumber 1 = .ok (.aload_n 0, 1) := by decide +kernel
theorem dX6_passNumber_2 : decode cX6_passNumber 2 = .ok (.getfield 32, 3) := by decide +kernel
theorem dX6_passNumber_5 : decode cX6_passNumber 5 = .ok (.iconst 3, 1) := by decide +kernel
theorem dX6_passNumber_6 : decode cX6_passNumber 6 = .ok (.if_icmp .ne 7, 3) := by decide +kernel
theorem dX6_passNumber_9 : decode cX6_passNumber 9 = .ok (.iconst 1, 1) := by decide +kernel
theorem dX6_passNumber_10 : decode cX6_passNumber 10 = .ok (.goto 4, 3) := by decide +kernel
theorem dX6_passNumber_13 : decode cX6_passNumber 13 = .ok (.iconst 0, 1) := by decide +kernel
theorem dX6_passNumber_14 : decode cX6_passNumber 14 = .ok (.iconst 1, 1) := by decide +kernel
theorem dX6_passNumber_15 : decode cX6_passNumber 15 = .ok (.invokevirtual 166, 3) := by decide +kernel
theorem dX6_passNumber_18 : decode cX6_passNumber 18 = .ok (.aload_n 0, 1) := by decide +kernel
theorem dX6_passNumber_19 : decode cX6_passNumber 19 = .ok (.invokevirtual 174, 3) := by decide +kernel
theorem dX6_passNumber_22 : decode cX6_passNumber 22 = .ok (.istore_n 3, 1) := by decide +kernel
theorem dX6_passNumber_23 : decode cX6_passNumber 23 = .ok (.aload_n 0, 1) := by decide +kernel
theorem dX6_passNumber_24 : decode cX6_passNumber 24 = .ok (.iload_n 3, 1) := by decide +kernel
theorem dX6_passNumber_25 : decode cX6_passNumber 25 = .ok (.iload_n 1, 1) := by decide +kernel
theorem dX6_passNumber_26 : decode cX6_passNumber 26 = .ok (.if_icmp .lt 12, 3) := by decide +kernel
theorem dX6_passNumber_29 : decode cX6_passNumber 29 = .ok (.iload_n 3, 1) := by decide +kernel
theorem dX6_passNumber_30 : decode cX6_passNumber 30 = .ok (.iload_n 2, 1) := by decide +kernel
theorem dX6_passNumber_31 : decode cX6_passNumber 31 = .ok (.if_icmp .gt 7, 3) := by decide +kernel
theorem dX6_passNumber_34 : decode cX6_passNumber 34 = .ok (.iconst 1, 1) := by decide +kernel
theorem dX6_passNumber_35 : decode cX6_passNumber 35 = .ok (.goto 4, 3) := by decide +kernel
theorem dX6_passNumber_38 : decode cX6_passNumber 38 = .ok (.iconst 0, 1) := by decide +kernel
theorem dX6_passNumber_39 : decode cX6_passNumber 39 = .ok (.iconst 2, 1) := by decide +kernel
theorem dX6_passNumber_40 : decode cX6_passNumber 40 = .ok (.invokevirtual 166, 3) := by decide +kernel
theorem dX6_passNumber_43 : decode cX6_passNumber 43 = .ok (.aload_n 0, 1) := by decide +kernel
theorem dX6_passNumber_44 : decode cX6_passNumber 44 = .ok (.invokevirtual 44, 3) := by decide +kernel
theorem dX6_passNumber_47 : decode cX6_passNumber 47 = .ok (.iload_n 3, 1) := by decide +kernel
theorem dX6_passNumber_48 : decode cX6_passNumber 48 = .ok (.ireturn, 1) := by decide +kernel
set_option maxHeartbeats 4000000 in
set_option maxRecDepth 100000 in
theorem sX6_passNumber (l : Launch) (dC : Nat → ClassId) (dI : Nat → Nat → Nat) (sz : Nat) (h0 : Nat) (tp : Nat) (bt : Nat) (dr : Nat) (q_faultKind : Int32) (q_faultPlace : Int32) (q_token : Int32) (q_start : Int32) (q_stop : Int32) (b_length : Int32) (kbt : ClassId) (fbt : Nat → Int32) (p1 : Int32) (p2 : Int32) (gq_faultKind : gi q_faultKind 0 3) (gq_start : gi q_start 0 1600) (gq_stop : gi q_stop 0 1600) (gb_length : gi b_length 0 1600) : Met l yX6_passNumber (.code yX6_passNumber cX6_passNumber 4 (some .int) :: wsGA) ({ frames := 2, cells := 0, slots := 0, locals := 44 }) (va_Pc [.ref h0, .int p1, .int p2] (fun U => U.heap.size = sz ∧ va_P (dC, dI) vwCl [(h0, .inr (6, [.ref tp, .ref dr, .int q_faultKind, .int q_faultPlace, .int q_token, .int q_start, .int q_stop])), (tp, .inr (10, [.ref bt, .int b_length])), (bt, .inl (kbt, 1600, .inl fbt))] U.heap ∧ va_K (dC, dI) vwCl [(kbt, .byte)] U ∧ va_D (fun _ => True) [(h0, .inr (6, [.ref tp, .ref dr, .int q_faultKind, .int q_faultPlace, .int q_token, .int q_start, .int q_stop])), (tp, .inr (10, [.ref bt, .int b_length])), (bt, .inl (kbt, 1600, .inl fbt))] ∧ nzA U)) (va_Qi (fun (r : Int32) (u : Int32) => r = u ∧ gi r (-2147483648) 2147483647) (fun r t => ∃ (w0_2 : Int32) (w0_3 : Int32) (w0_4 : Int32) (w0_5 : Int32) (w0_6 : Int32), gi w0_2 0 3 ∧ gi w0_5 0 1600 ∧ gi w0_6 0 1600 ∧ q_faultKind.toInt ≤ w0_2.toInt ∧ (w0_2.toInt ≠ 0 ∨ (p1.toInt ≤ r.toInt ∧ r.toInt ≤ p2.toInt)) ∧ va_P (dC, dI) vwCl [(h0, .inr (6, [.ref tp, .ref dr, .int w0_2, .int w0_3, .int w0_4, .int w0_5, .int w0_6])), (tp, .inr (10, [.ref bt, .int b_length])), (bt, .inl (kbt, 1600, .inl fbt))] t.heap ∧ va_D (va_A [(h0, .inr (6, [.ref tp, .ref dr, .int q_faultKind, .int q_faultPlace, .int q_token, .int q_start, .int q_stop])), (tp, .inr (10, [.ref bt, .int b_length])), (bt, .inl (kbt, 1600, .inl fbt))] sz) [(h0, .inr (6, [.ref tp, .ref dr, .int w0_2, .int w0_3, .int w0_4, .int w0_5, .int w0_6])), (tp, .inr (10, [.ref bt, .int b_length])), (bt, .inl (kbt, 1600, .inl fbt))]) (va_A [(h0, .inr (6, [.ref tp, .ref dr, .int q_faultKind, .int q_faultPlace, .int q_token, .int q_start, .int q_stop])), (tp, .inr (10, [.ref bt, .int b_length])), (bt, .inl (kbt, 1600, .inl fbt))] sz)) 0 0 (va_A [(h0, .inr (6, [.ref tp, .ref dr, .int q_faultKind, .int q_faultPlace, .int q_token, .int q_start, .int q_stop])), (tp, .inr (10, [.ref bt, .int b_length])), (bt, .inl (kbt, 1600, .inl fbt))] sz) := by
  refine Met.ofW (cc := cX6_passNumber) (maxL := 4) (ret := (some .int)) (by decide) rfl ?_
  intro p e s m args below meth c s₁ B hml hv
  obtain ⟨rfl, hsz, hP, hK, hD0, hz⟩ := hv
  have hx := B.exec
  have hb := B.bytes
  have hr := B.returns
  have hts := atoms_spec (ws := (.code yX6_passNumber cX6_passNumber 4 (some .int) :: wsGA)) B.pre
  have hown : s.vm.findClass RX6 = some m.cls := findClass_of_methodNamed B.named
  have hlocks := B.notSynchronized
  subst hsz
  have hD := hD0.self (sz := s.heap.size)
  generalize hAe : va_A [(h0, .inr (6, [.ref tp, .ref dr, .int q_faultKind, .int q_faultPlace, .int q_token, .int q_start, .int q_stop])), (tp, .inr (10, [.ref bt, .int b_length])), (bt, .inl (kbt, 1600, .inl fbt))] s.heap.size = A at hD ⊢
  have hA : ∀ q : Nat, s.heap.size ≤ q → A q := fun q h => by rw [← hAe]; exact Or.inr h
  have hS : va_S A s.heap s.heap [] := va_S.rf
  have hl := lv_entry ([.ref h0, .int p1, .int p2]) (n := 4) (Nat.le_of_ble_eq_true rfl)
  rw [lg_entry_eq]
  generalize (lg_sl ([.ref h0, .int p1, .int p2]) ++ List.replicate (4 - (lg_sl ([.ref h0, .int p1, .int p2])).length) Slot.unset).toArray = ls at hl ⊢
  have hl : lv_has ls 4 [(0, .ref h0), (1, .int p1), (2, .int p2)] := hl
  refine lv_aload_n hx hb dX6_passNumber_0 rfl (lv_at hl 0 rfl) ?_
  refine lv_aload_n hx hb dX6_passNumber_1 rfl (lv_at hl 0 rfl) ?_
  refine va_get (D := (dC, dI)) (ci := 6) (v := .int q_token) (C := RX6) (T := TX6) (N := 7) hx hb hts (fun w h => List.mem_cons_of_mem _ (jnGA_X6 w h)) hown hK hP 0 rfl rfl 4 (by decide) (hts _ (List.mem_cons_of_mem _ mGA_57)) (fun _ h9 => h9) rfl dX6_passNumber_2 ?_
  refine lv_iconst (v := 3) hx hb dX6_passNumber_5 (by decide) ?_
  refine lv_icmp_ne (tgt := 13) hx hb dX6_passNumber_6 (by decide) (fun c_171 => ?_) (fun c_171 => ?_)
  · have hc_172 : q_token.toInt ≠ 3 := fun h9 => c_171 (Int32.toInt_inj.mp (by rw [show (3 : Int32).toInt = 3 from by decide]; exact h9))
    refine lv_iconst (v := 0) hx hb dX6_passNumber_13 (by decide) ?_
    refine lv_iconst (v := 1) hx hb dX6_passNumber_14 (by decide) ?_
    have hPc := hP.sub (ws' := [(h0, .inr (6, [.ref tp, .ref dr, .int q_faultKind, .int q_faultPlace, .int q_token, .int q_start, .int q_stop]))]) [0] rfl
    have hKc := hK.sub (tys' := []) [] rfl
    have hDc := hD.sub (ws' := [(h0, .inr (6, [.ref tp, .ref dr, .int q_faultKind, .int q_faultPlace, .int q_token, .int q_start, .int q_stop]))]) [0] (by decide) rfl
    have hFc := va_free (wc := [(h0, .inr (6, [.ref tp, .ref dr, .int q_faultKind, .int q_faultPlace, .int q_token, .int q_start, .int q_stop]))]) hD hS hA [0] rfl
    refine va_callv (va_runV (As := [.int 0, .int 1]) (rest := []) ⟨hx, hb, hml, hown, hts⟩ (sX6_expect l dC dI s.heap.size h0 tp dr q_faultKind q_faultPlace q_token q_start q_stop 0 1 gq_faultKind gq_start gq_stop (gi_w (gi_c 0 0 (by decide)) (by decide)) (gi_w (gi_c 1 1 (by decide)) (by decide))) (cwV 2 hts (gz_gV mGA_250 mGA_251 mGA_252 mGA_9 mGA_253 goodGA) rfl rfl rfl (by decide +kernel) ⟨Nat.le_of_ble_eq_true rfl, Nat.le_of_ble_eq_true rfl⟩) ⟨fun a U g mk q => by obtain ⟨q0, q1, qP, qK, qD, qZ⟩ := q; exact ⟨q0, q1, qP, va_K.moved (u := U) (U := U.calling g mk a) (Vm.Alike.refl U.vm) qK, qD, nzA_same (u := U) (U := U.calling g mk a) rfl qZ⟩, va_recv hKc hPc (ci := 6) (q0 := 0) rfl rfl, fun U hU hW => ⟨rfl, by rw [hU], by rw [hU]; exact hPc, va_K.moved hW.alike hKc, hDc.weaken (fun _ _ _ _ => trivial), nzA_warm hW hz⟩⟩ rfl rfl hl.1 rfl (lv_room (Nat.le_of_ble_eq_true rfl)) dX6_passNumber_15 ⟨Nat.zero_le _, Nat.zero_le _⟩) hS (fun q _ h => hFc q h) hFc (fun u t H1 locs ht hvm hw hB hz1 hk1 hS => ?_)
    obtain ⟨y_174, y_175, gy_174, hpr0_r_173, hpr1_r_173, hP1, hD1⟩ := hB
    rw [ht] at hP1
    obtain ⟨hP, hD⟩ := va_join (wr := [(tp, .inr (10, [.ref bt, .int b_length])), (bt, .inl (kbt, 1600, .inl fbt))]) (w1 := [(h0, .inr (6, [.ref tp, .ref dr, .int y_174, .int y_175, .int q_token, .int q_start, .int q_stop]))]) hP hD [0] [1, 2] rfl rfl (by decide) (by decide) hk1 hFc hP1 hD1
    have hpr0_r_173 : q_faultKind.toInt ≤ y_174.toInt := hpr0_r_173
    have hpr1_r_173 : Hid (((0 : Int) = 1 ∨ 1 ≤ y_174.toInt)) := by have h9 : ((0 : Int32).toInt = 1 ∨ 1 ≤ y_174.toInt) := hpr1_r_173; rw [show (0 : Int32).toInt = 0 from by decide] at h9; exact h9
    have hf_176 : 1 ≤ y_174.toInt := Hid.resL hpr1_r_173 (by omega)
    have g_177 : gi y_174 1 3 := ⟨by omega, gy_174.2⟩
    have hP := hP.sub (ws' := [(h0, .inr (6, [.ref tp, .ref dr, .int y_174, .int y_175, .int q_token, .int q_start, .int q_stop])), (tp, .inr (10, [.ref bt, .int b_length])), (bt, .inl (kbt, 1600, .inl fbt))]) [2, 0, 1] rfl
    have hD := hD.sub (ws' := [(h0, .inr (6, [.ref tp, .ref dr, .int y_174, .int y_175, .int q_token, .int q_start, .int q_stop])), (tp, .inr (10, [.ref bt, .int b_length])), (bt, .inl (kbt, 1600, .inl fbt))]) [2, 0, 1] (by decide) rfl
    generalize H1 = H at hP hS ⊢
    refine lv_aload_n hx hb dX6_passNumber_18 rfl (lv_at hl 0 rfl) ?_
    have hPc := hP.sub (ws' := [(h0, .inr (6, [.ref tp, .ref dr, .int y_174, .int y_175, .int q_token, .int q_start, .int q_stop])), (tp, .inr (10, [.ref bt, .int b_length])), (bt, .inl (kbt, 1600, .inl fbt))]) [0, 1, 2] rfl
    have hKc := hK.sub (tys' := [(kbt, .byte)]) [0] rfl
    refine va_calli (va_runV (As := []) (rest := []) ⟨hx, hb, hml, hown, hts⟩ (sX6_valueHere l dC dI h0 tp bt dr y_174 y_175 q_token q_start q_stop b_length kbt fbt (gi_w g_177 (by decide)) gq_start gq_stop gb_length) (cwV 0 hts (gz_gV mGA_262 mGA_263 mGA_264 mGA_9 mGA_265 goodGA) rfl rfl rfl (by decide +kernel) ⟨Nat.le_of_ble_eq_true rfl, Nat.le_of_ble_eq_true rfl⟩) ⟨fun a U g mk q => by obtain ⟨q0, qP, qK, qZ⟩ := q; exact ⟨q0, qP, va_K.moved (u := U) (U := U.calling g mk a) (Vm.Alike.refl U.vm) qK, nzA_same (u := U) (U := U.calling g mk a) rfl qZ⟩, va_recv hKc hPc (ci := 6) (q0 := 0) rfl rfl, fun U hU hW => ⟨rfl, by rw [hU]; exact hPc, va_K.moved hW.alike hKc, nzA_warm hW hz⟩⟩ rfl rfl hl.1 rfl (lv_room (Nat.le_of_ble_eq_true rfl)) dX6_passNumber_19 ⟨Nat.zero_le _, Nat.zero_le _⟩) hS (fun q _ h => h.elim) (fun q h => h.elim) (fun r_178 u t H1 locs ht hvm hw hB hz1 hk1 hS => ?_)
    have hP := gz_keep hP hk1
    generalize H1 = H at hP hS ⊢
    refine lv_istore_n (lv' := [(3, .int r_178), (0, .ref h0), (1, .int p1), (2, .int p2)]) hx hb dX6_passNumber_22 rfl hl (by decide) rfl (fun ls hl => ?_)
    refine lv_aload_n hx hb dX6_passNumber_23 rfl (lv_at hl 1 rfl) ?_
    refine lv_iload_n hx hb dX6_passNumber_24 rfl (lv_at hl 0 rfl) ?_
    refine lv_iload_n hx hb dX6_passNumber_25 rfl (lv_at hl 2 rfl) ?_
    refine lv_icmp_lt (tgt := 38) hx hb dX6_passNumber_26 (by decide) (fun c_179 => ?_) (fun c_179 => ?_)
    · have hc_180 : r_178.toInt < p1.toInt := by have h9 := Int32.lt_iff_toInt_lt.mp c_179; exact h9
      have g_181 : gi r_178 (-2147483648) 2147483646 := gi_lt_l c_179 (gi_any r_178) (gi_any p1) (by decide)
      have g_182 : gi p1 (-2147483647) 2147483647 := gi_lt_r c_179 (gi_any r_178) (gi_any p1) (by decide)
      refine lv_iconst (v := 0) hx hb dX6_passNumber_38 (by decide) ?_
      refine lv_iconst (v := 2) hx hb dX6_passNumber_39 (by decide) ?_
      have hPc := hP.sub (ws' := [(h0, .inr (6, [.ref tp, .ref dr, .int y_174, .int y_175, .int q_token, .int q_start, .int q_stop]))]) [0] rfl
      have hKc := hK.sub (tys' := []) [] rfl
      have hDc := hD.sub (ws' := [(h0, .inr (6, [.ref tp, .ref dr, .int y_174, .int y_175, .int q_token, .int q_start, .int q_stop]))]) [0] (by decide) rfl
      have hFc := va_free (wc := [(h0, .inr (6, [.ref tp, .ref dr, .int y_174, .int y_175, .int q_token, .int q_start, .int q_stop]))]) hD hS hA [0] rfl
      refine va_callv (va_runV (As := [.int 0, .int 2]) (rest := []) ⟨hx, hb, hml, hown, hts⟩ (sX6_expect l dC dI H.size h0 tp dr y_174 y_175 q_token q_start q_stop 0 2 (gi_w g_177 (by decide)) gq_start gq_stop (gi_w (gi_c 0 0 (by decide)) (by decide)) (gi_w (gi_c 2 2 (by decide)) (by decide))) (cwV 2 hts (gz_gV mGA_250 mGA_251 mGA_252 mGA_9 mGA_253 goodGA) rfl rfl rfl (by decide +kernel) ⟨Nat.le_of_ble_eq_true rfl, Nat.le_of_ble_eq_true rfl⟩) ⟨fun a U g mk q => by obtain ⟨q0, q1, qP, qK, qD, qZ⟩ := q; exact ⟨q0, q1, qP, va_K.moved (u := U) (U := U.calling g mk a) (Vm.Alike.refl U.vm) qK, qD, nzA_same (u := U) (U := U.calling g mk a) rfl qZ⟩, va_recv hKc hPc (ci := 6) (q0 := 0) rfl rfl, fun U hU hW => ⟨rfl, by rw [hU], by rw [hU]; exact hPc, va_K.moved hW.alike hKc, hDc.weaken (fun _ _ _ _ => trivial), nzA_warm hW hz⟩⟩ rfl rfl hl.1 rfl (lv_room (Nat.le_of_ble_eq_true rfl)) dX6_passNumber_40 ⟨Nat.zero_le _, Nat.zero_le _⟩) hS (fun q _ h => hFc q h) hFc (fun u t H1 locs ht hvm hw hB hz1 hk1 hS => ?_)
      obtain ⟨y_184, y_185, gy_184, hpr0_r_183, hpr1_r_183, hP1, hD1⟩ := hB
      rw [ht] at hP1
      obtain ⟨hP, hD⟩ := va_join (wr := [(tp, .inr (10, [.ref bt, .int b_length])), (bt, .inl (kbt, 1600, .inl fbt))]) (w1 := [(h0, .inr (6, [.ref tp, .ref dr, .int y_184, .int y_185, .int q_token, .int q_start, .int q_stop]))]) hP hD [0] [1, 2] rfl rfl (by decide) (by decide) hk1 hFc hP1 hD1
      have hpr0_r_183 : y_174.toInt ≤ y_184.toInt := hpr0_r_183
      have g_186 : gi y_184 1 3 := gi_relL (show y_174.toInt ≤ y_184.toInt from by omega) g_177 gy_184
      have hpr1_r_183 : Hid (((0 : Int) = 1 ∨ 1 ≤ y_184.toInt)) := by have h9 : ((0 : Int32).toInt = 1 ∨ 1 ≤ y_184.toInt) := hpr1_r_183; rw [show (0 : Int32).toInt = 0 from by decide] at h9; exact h9
      have hf_187 : 1 ≤ y_184.toInt := Hid.resL hpr1_r_183 (by omega)
      have hP := hP.sub (ws' := [(h0, .inr (6, [.ref tp, .ref dr, .int y_184, .int y_185, .int q_token, .int q_start, .int q_stop])), (tp, .inr (10, [.ref bt, .int b_length])), (bt, .inl (kbt, 1600, .inl fbt))]) [2, 0, 1] rfl
      have hD := hD.sub (ws' := [(h0, .inr (6, [.ref tp, .ref dr, .int y_184, .int y_185, .int q_token, .int q_start, .int q_stop])), (tp, .inr (10, [.ref bt, .int b_length])), (bt, .inl (kbt, 1600, .inl fbt))]) [2, 0, 1] (by decide) rfl
      generalize H1 = H at hP hS ⊢
      refine lv_aload_n hx hb dX6_passNumber_43 rfl (lv_at hl 1 rfl) ?_
      have hPc := hP.sub (ws' := [(h0, .inr (6, [.ref tp, .ref dr, .int y_184, .int y_185, .int q_token, .int q_start, .int q_stop])), (tp, .inr (10, [.ref bt, .int b_length])), (bt, .inl (kbt, 1600, .inl fbt))]) [0, 1, 2] rfl
      have hKc := hK.sub (tys' := [(kbt, .byte)]) [0] rfl
      have hDc := hD.sub (ws' := [(h0, .inr (6, [.ref tp, .ref dr, .int y_184, .int y_185, .int q_token, .int q_start, .int q_stop])), (tp, .inr (10, [.ref bt, .int b_length])), (bt, .inl (kbt, 1600, .inl fbt))]) [0, 1, 2] (by decide) rfl
      have hFc := va_free (wc := [(h0, .inr (6, [.ref tp, .ref dr, .int y_184, .int y_185, .int q_token, .int q_start, .int q_stop])), (tp, .inr (10, [.ref bt, .int b_length])), (bt, .inl (kbt, 1600, .inl fbt))]) hD hS hA [0, 1, 2] rfl
      refine va_callv (va_runV (As := []) (rest := []) ⟨hx, hb, hml, hown, hts⟩ (sX6_step l dC dI H.size h0 tp bt dr y_184 y_185 q_token q_start q_stop b_length kbt fbt (gi_w g_186 (by decide)) gq_start gq_stop gb_length) (cwV 0 hts (gz_gV mGA_162 mGA_163 mGA_164 mGA_9 mGA_165 goodGA) rfl rfl rfl (by decide +kernel) ⟨Nat.le_of_ble_eq_true rfl, Nat.le_of_ble_eq_true rfl⟩) ⟨fun a U g mk q => by obtain ⟨q0, q1, qP, qK, qD, qZ⟩ := q; exact ⟨q0, q1, qP, va_K.moved (u := U) (U := U.calling g mk a) (Vm.Alike.refl U.vm) qK, qD, nzA_same (u := U) (U := U.calling g mk a) rfl qZ⟩, va_recv hKc hPc (ci := 6) (q0 := 0) rfl rfl, fun U hU hW => ⟨rfl, by rw [hU], by rw [hU]; exact hPc, va_K.moved hW.alike hKc, hDc.weaken (fun _ _ _ _ => trivial), nzA_warm hW hz⟩⟩ rfl rfl hl.1 rfl (lv_room (Nat.le_of_ble_eq_true rfl)) dX6_passNumber_44 ⟨Nat.zero_le _, Nat.zero_le _⟩) hS (fun q _ h => hFc q h) hFc (fun u t H1 locs ht hvm hw hB hz1 hk1 hS => ?_)
      obtain ⟨y_189, y_190, y_191, gy_190, gy_191, hP1, hD1⟩ := hB
      rw [ht] at hP1
      obtain ⟨hP, hD⟩ := va_join (wr := []) (w1 := [(h0, .inr (6, [.ref tp, .ref dr, .int y_184, .int y_185, .int y_189, .int y_190, .int y_191])), (tp, .inr (10, [.ref bt, .int b_length])), (bt, .inl (kbt, 1600, .inl fbt))]) hP hD [0, 1, 2] [] rfl rfl (by decide) (by decide) hk1 hFc hP1 hD1
      have hP := hP.sub (ws' := [(h0, .inr (6, [.ref tp, .ref dr, .int y_184, .int y_185, .int y_189, .int y_190, .int y_191])), (tp, .inr (10, [.ref bt, .int b_length])), (bt, .inl (kbt, 1600, .inl fbt))]) [0, 1, 2] rfl
      have hD := hD.sub (ws' := [(h0, .inr (6, [.ref tp, .ref dr, .int y_184, .int y_185, .int y_189, .int y_190, .int y_191])), (tp, .inr (10, [.ref bt, .int b_length])), (bt, .inl (kbt, 1600, .inl fbt))]) [0, 1, 2] (by decide) rfl
      generalize H1 = H at hP hS ⊢
      refine lv_iload_n hx hb dX6_passNumber_47 rfl (lv_at hl 0 rfl) ?_
      exact W.iret (v := r_178) hx hb hr (fun t ht hW => ⟨⟨r_178, r_178, rfl, ⟨rfl, (gi_any r_178)⟩, y_184, y_185, y_189, y_190, y_191, (gi_w g_186 (by decide)), gy_190, gy_191, (show q_faultKind.toInt ≤ y_184.toInt from by have qgy_184 := g_186.1; have rgy_184 := g_186.2; have qgy_174 := g_177.1; have rgy_174 := g_177.2; have qgr_178 := g_181.1; have rgr_178 := g_181.2; have qgq_faultKind := gq_faultKind.1; have rgq_faultKind := gq_faultKind.2; have qgp1 := g_182.1; have rgp1 := g_182.2; omega), (show (y_184.toInt ≠ 0 ∨ (p1.toInt ≤ r_178.toInt ∧ r_178.toInt ≤ p2.toInt)) from by have qgy_184 := g_186.1; have rgy_184 := g_186.2; have qgy_174 := g_177.1; have rgy_174 := g_177.2; have qgr_178 := g_181.1; have rgr_178 := g_181.2; have qgq_faultKind := gq_faultKind.1; have rgq_faultKind := gq_faultKind.2; have qgp1 := g_182.1; have rgp1 := g_182.2; omega), by rw [ht]; exact hP, hD⟩, hS.F ht⟩) hS.2.2 dX6_passNumber_48
    · have hc_192 : p1.toInt ≤ r_178.toInt := by have h9 := Int32.le_iff_toInt_le.mp (Int32.not_lt.mp c_179); exact h9
      refine lv_iload_n hx hb dX6_passNumber_29 rfl (lv_at hl 0 rfl) ?_
      refine lv_iload_n hx hb dX6_passNumber_30 rfl (lv_at hl 3 rfl) ?_
      refine lv_icmp_gt (tgt := 38) hx hb dX6_passNumber_31 (by decide) (fun c_193 => ?_) (fun c_193 => ?_)
      · have hc_194 : p2.toInt < r_178.toInt := by have h9 := Int32.lt_iff_toInt_lt.mp c_193; exact h9
        have g_195 : gi p2 (-2147483648) 2147483646 := gi_lt_l c_193 (gi_any p2) (gi_any r_178) (by decide)
        have g_196 : gi r_178 (-2147483647) 2147483647 := gi_lt_r c_193 (gi_any p2) (gi_any r_178) (by decide)
        refine lv_iconst (v := 0) hx hb dX6_passNumber_38 (by decide) ?_
        refine lv_iconst (v := 2) hx hb dX6_passNumber_39 (by decide) ?_
        have hPc := hP.sub (ws' := [(h0, .inr (6, [.ref tp, .ref dr, .int y_174, .int y_175, .int q_token, .int q_start, .int q_stop]))]) [0] rfl
        have hKc := hK.sub (tys' := []) [] rfl
        have hDc := hD.sub (ws' := [(h0, .inr (6, [.ref tp, .ref dr, .int y_174, .int y_175, .int q_token, .int q_start, .int q_stop]))]) [0] (by decide) rfl
        have hFc := va_free (wc := [(h0, .inr (6, [.ref tp, .ref dr, .int y_174, .int y_175, .int q_token, .int q_start, .int q_stop]))]) hD hS hA [0] rfl
        refine va_callv (va_runV (As := [.int 0, .int 2]) (rest := []) ⟨hx, hb, hml, hown, hts⟩ (sX6_expect l dC dI H.size h0 tp dr y_174 y_175 q_token q_start q_stop 0 2 (gi_w g_177 (by decide)) gq_start gq_stop (gi_w (gi_c 0 0 (by decide)) (by decide)) (gi_w (gi_c 2 2 (by decide)) (by decide))) (cwV 2 hts (gz_gV mGA_250 mGA_251 mGA_252 mGA_9 mGA_253 goodGA) rfl rfl rfl (by decide +kernel) ⟨Nat.le_of_ble_eq_true rfl, Nat.le_of_ble_eq_true rfl⟩) ⟨fun a U g mk q => by obtain ⟨q0, q1, qP, qK, qD, qZ⟩ := q; exact ⟨q0, q1, qP, va_K.moved (u := U) (U := U.calling g mk a) (Vm.Alike.refl U.vm) qK, qD, nzA_same (u := U) (U := U.calling g mk a) rfl qZ⟩, va_recv hKc hPc (ci := 6) (q0 := 0) rfl rfl, fun U hU hW => ⟨rfl, by rw [hU], by rw [hU]; exact hPc, va_K.moved hW.alike hKc, hDc.weaken (fun _ _ _ _ => trivial), nzA_warm hW hz⟩⟩ rfl rfl hl.1 rfl (lv_room (Nat.le_of_ble_eq_true rfl)) dX6_passNumber_40 ⟨Nat.zero_le _, Nat.zero_le _⟩) hS (fun q _ h => hFc q h) hFc (fun u t H1 locs ht hvm hw hB hz1 hk1 hS => ?_)
        obtain ⟨y_198, y_199, gy_198, hpr0_r_197, hpr1_r_197, hP1, hD1⟩ := hB
        rw [ht] at hP1
        obtain ⟨hP, hD⟩ := va_join (wr := [(tp, .inr (10, [.ref bt, .int b_length])), (bt, .inl (kbt, 1600, .inl fbt))]) (w1 := [(h0, .inr (6, [.ref tp, .ref dr, .int y_198, .int y_199, .int q_token, .int q_start, .int q_stop]))]) hP hD [0] [1, 2] rfl rfl (by decide) (by decide) hk1 hFc hP1 hD1
        have hpr0_r_197 : y_174.toInt ≤ y_198.toInt := hpr0_r_197
        have g_200 : gi y_198 1 3 := gi_relL (show y_174.toInt ≤ y_198.toInt from by omega) g_177 gy_198
        have hpr1_r_197 : Hid (((0 : Int) = 1 ∨ 1 ≤ y_198.toInt)) := by have h9 : ((0 : Int32).toInt = 1 ∨ 1 ≤ y_198.toInt) := hpr1_r_197; rw [show (0 : Int32).toInt = 0 from by decide] at h9; exact h9
        have hf_201 : 1 ≤ y_198.toInt := Hid.resL hpr1_r_197 (by omega)
        have hP := hP.sub (ws' := [(h0, .inr (6, [.ref tp, .ref dr, .int y_198, .int y_199, .int q_token, .int q_start, .int q_stop])), (tp, .inr (10, [.ref bt, .int b_length])), (bt, .inl (kbt, 1600, .inl fbt))]) [2, 0, 1] rfl
        have hD := hD.sub (ws' := [(h0, .inr (6, [.ref tp, .ref dr, .int y_198, .int y_199, .int q_token, .int q_start, .int q_stop])), (tp, .inr (10, [.ref bt, .int b_length])), (bt, .inl (kbt, 1600, .inl fbt))]) [2, 0, 1] (by decide) rfl
        generalize H1 = H at hP hS ⊢
        refine lv_aload_n hx hb dX6_passNumber_43 rfl (lv_at hl 1 rfl) ?_
        have hPc := hP.sub (ws' := [(h0, .inr (6, [.ref tp, .ref dr, .int y_198, .int y_199, .int q_token, .int q_start, .int q_stop])), (tp, .inr (10, [.ref bt, .int b_length])), (bt, .inl (kbt, 1600, .inl fbt))]) [0, 1, 2] rfl
        have hKc := hK.sub (tys' := [(kbt, .byte)]) [0] rfl
        have hDc := hD.sub (ws' := [(h0, .inr (6, [.ref tp, .ref dr, .int y_198, .int y_199, .int q_token, .int q_start, .int q_stop])), (tp, .inr (10, [.ref bt, .int b_length])), (bt, .inl (kbt, 1600, .inl fbt))]) [0, 1, 2] (by decide) rfl
        have hFc := va_free (wc := [(h0, .inr (6, [.ref tp, .ref dr, .int y_198, .int y_199, .int q_token, .int q_start, .int q_stop])), (tp, .inr (10, [.ref bt, .int b_length])), (bt, .inl (kbt, 1600, .inl fbt))]) hD hS hA [0, 1, 2] rfl
        refine va_callv (va_runV (As := []) (rest := []) ⟨hx, hb, hml, hown, hts⟩ (sX6_step l dC dI H.size h0 tp bt dr y_198 y_199 q_token q_start q_stop b_length kbt fbt (gi_w g_200 (by decide)) gq_start gq_stop gb_length) (cwV 0 hts (gz_gV mGA_162 mGA_163 mGA_164 mGA_9 mGA_165 goodGA) rfl rfl rfl (by decide +kernel) ⟨Nat.le_of_ble_eq_true rfl, Nat.le_of_ble_eq_true rfl⟩) ⟨fun a U g mk q => by obtain ⟨q0, q1, qP, qK, qD, qZ⟩ := q; exact ⟨q0, q1, qP, va_K.moved (u := U) (U := U.calling g mk a) (Vm.Alike.refl U.vm) qK, qD, nzA_same (u := U) (U := U.calling g mk a) rfl qZ⟩, va_recv hKc hPc (ci := 6) (q0 := 0) rfl rfl, fun U hU hW => ⟨rfl, by rw [hU], by rw [hU]; exact hPc, va_K.moved hW.alike hKc, hDc.weaken (fun _ _ _ _ => trivial), nzA_warm hW hz⟩⟩ rfl rfl hl.1 rfl (lv_room (Nat.le_of_ble_eq_true rfl)) dX6_passNumber_44 ⟨Nat.zero_le _, Nat.zero_le _⟩) hS (fun q _ h => hFc q h) hFc (fun u t H1 locs ht hvm hw hB hz1 hk1 hS => ?_)
        obtain ⟨y_203, y_204, y_205, gy_204, gy_205, hP1, hD1⟩ := hB
        rw [ht] at hP1
        obtain ⟨hP, hD⟩ := va_join (wr := []) (w1 := [(h0, .inr (6, [.ref tp, .ref dr, .int y_198, .int y_199, .int y_203, .int y_204, .int y_205])), (tp, .inr (10, [.ref bt, .int b_length])), (bt, .inl (kbt, 1600, .inl fbt))]) hP hD [0, 1, 2] [] rfl rfl (by decide) (by decide) hk1 hFc hP1 hD1
        have hP := hP.sub (ws' := [(h0, .inr (6, [.ref tp, .ref dr, .int y_198, .int y_199, .int y_203, .int y_204, .int y_205])), (tp, .inr (10, [.ref bt, .int b_length])), (bt, .inl (kbt, 1600, .inl fbt))]) [0, 1, 2] rfl
        have hD := hD.sub (ws' := [(h0, .inr (6, [.ref tp, .ref dr, .int y_198, .int y_199, .int y_203, .int y_204, .int y_205])), (tp, .inr (10, [.ref bt, .int b_length])), (bt, .inl (kbt, 1600, .inl fbt))]) [0, 1, 2] (by decide) rfl
        generalize H1 = H at hP hS ⊢
        refine lv_iload_n hx hb dX6_passNumber_47 rfl (lv_at hl 0 rfl) ?_
        exact W.iret (v := r_178) hx hb hr (fun t ht hW => ⟨⟨r_178, r_178, rfl, ⟨rfl, (gi_any r_178)⟩, y_198, y_199, y_203, y_204, y_205, (gi_w g_200 (by decide)), gy_204, gy_205, (show q_faultKind.toInt ≤ y_198.toInt from by have qgy_198 := g_200.1; have rgy_198 := g_200.2; have qgy_174 := g_177.1; have rgy_174 := g_177.2; have qgr_178 := g_196.1; have rgr_178 := g_196.2; have qgq_faultKind := gq_faultKind.1; have rgq_faultKind := gq_faultKind.2; have qgp2 := g_195.1; have rgp2 := g_195.2; omega), (show (y_198.toInt ≠ 0 ∨ (p1.toInt ≤ r_178.toInt ∧ r_178.toInt ≤ p2.toInt)) from by have qgy_198 := g_200.1; have rgy_198 := g_200.2; have qgy_174 := g_177.1; have rgy_174 := g_177.2; have qgr_178 := g_196.1; have rgr_178 := g_196.2; have qgq_faultKind := gq_faultKind.1; have rgq_faultKind := gq_faultKind.2; have qgp2 := g_195.1; have rgp2 := g_195.2; omega), by rw [ht]; exact hP, hD⟩, hS.F ht⟩) hS.2.2 dX6_passNumber_48
      · have hc_206 : r_178.toInt ≤ p2.toInt := by have h9 := Int32.le_iff_toInt_le.mp (Int32.not_lt.mp c_193); exact h9
        refine lv_iconst (v := 1) hx hb dX6_passNumber_34 (by decide) ?_
        refine lv_goto (tgt := 39) hx hb dX6_passNumber_35 (by decide) ?_
        refine lv_iconst (v := 2) hx hb dX6_passNumber_39 (by decide) ?_
        have hPc := hP.sub (ws' := [(h0, .inr (6, [.ref tp, .ref dr, .int y_174, .int y_175, .int q_token, .int q_start, .int q_stop]))]) [0] rfl
        have hKc := hK.sub (tys' := []) [] rfl
        have hDc := hD.sub (ws' := [(h0, .inr (6, [.ref tp, .ref dr, .int y_174, .int y_175, .int q_token, .int q_start, .int q_stop]))]) [0] (by decide) rfl
        have hFc := va_free (wc := [(h0, .inr (6, [.ref tp, .ref dr, .int y_174, .int y_175, .int q_token, .int q_start, .int q_stop]))]) hD hS hA [0] rfl
        refine va_callv (va_runV (As := [.int 1, .int 2]) (rest := []) ⟨hx, hb, hml, hown, hts⟩ (sX6_expect l dC dI H.size h0 tp dr y_174 y_175 q_token q_start q_stop 1 2 (gi_w g_177 (by decide)) gq_start gq_stop (gi_w (gi_c 1 1 (by decide)) (by decide)) (gi_w (gi_c 2 2 (by decide)) (by decide))) (cwV 2 hts (gz_gV mGA_250 mGA_251 mGA_252 mGA_9 mGA_253 goodGA) rfl rfl rfl (by decide +kernel) ⟨Nat.le_of_ble_eq_true rfl, Nat.le_of_ble_eq_true rfl⟩) ⟨fun a U g mk q => by obtain ⟨q0, q1, qP, qK, qD, qZ⟩ := q; exact ⟨q0, q1, qP, va_K.moved (u := U) (U := U.calling g mk a) (Vm.Alike.refl U.vm) qK, qD, nzA_same (u := U) (U := U.calling g mk a) rfl qZ⟩, va_recv hKc hPc (ci := 6) (q0 := 0) rfl rfl, fun U hU hW => ⟨rfl, by rw [hU], by rw [hU]; exact hPc, va_K.moved hW.alike hKc, hDc.weaken (fun _ _ _ _ => trivial), nzA_warm hW hz⟩⟩ rfl rfl hl.1 rfl (lv_room (Nat.le_of_ble_eq_true rfl)) dX6_passNumber_40 ⟨Nat.zero_le _, Nat.zero_le _⟩) hS (fun q _ h => hFc q h) hFc (fun u t H1 locs ht hvm hw hB hz1 hk1 hS => ?_)
        obtain ⟨y_208, y_209, gy_208, hpr0_r_207, hpr1_r_207, hP1, hD1⟩ := hB
        rw [ht] at hP1
        obtain ⟨hP, hD⟩ := va_join (wr := [(tp, .inr (10, [.ref bt, .int b_length])), (bt, .inl (kbt, 1600, .inl fbt))]) (w1 := [(h0, .inr (6, [.ref tp, .ref dr, .int y_208, .int y_209, .int q_token, .int q_start, .int q_stop]))]) hP hD [0] [1, 2] rfl rfl (by decide) (by decide) hk1 hFc hP1 hD1
        have hpr0_r_207 : y_174.toInt ≤ y_208.toInt := hpr0_r_207
        have g_210 : gi y_208 1 3 := gi_relL (show y_174.toInt ≤ y_208.toInt from by omega) g_177 gy_208
        have hpr1_r_207 : Hid (((1 : Int) = 1 ∨ 1 ≤ y_208.toInt)) := by have h9 : ((1 : Int32).toInt = 1 ∨ 1 ≤ y_208.toInt) := hpr1_r_207; rw [show (1 : Int32).toInt = 1 from by decide] at h9; exact h9
        have hP := hP.sub (ws' := [(h0, .inr (6, [.ref tp, .ref dr, .int y_208, .int y_209, .int q_token, .int q_start, .int q_stop])), (tp, .inr (10, [.ref bt, .int b_length])), (bt, .inl (kbt, 1600, .inl fbt))]) [2, 0, 1] rfl
        have hD := hD.sub (ws' := [(h0, .inr (6, [.ref tp, .ref dr, .int y_208, .int y_209, .int q_token, .int q_start, .int q_stop])), (tp, .inr (10, [.ref bt, .int b_length])), (bt, .inl (kbt, 1600, .inl fbt))]) [2, 0, 1] (by decide) rfl
        generalize H1 = H at hP hS ⊢
        refine lv_aload_n hx hb dX6_passNumber_43 rfl (lv_at hl 1 rfl) ?_
        have hPc := hP.sub (ws' := [(h0, .inr (6, [.ref tp, .ref dr, .int y_208, .int y_209, .int q_token, .int q_start, .int q_stop])), (tp, .inr (10, [.ref bt, .int b_length])), (bt, .inl (kbt, 1600, .inl fbt))]) [0, 1, 2] rfl
        have hKc := hK.sub (tys' := [(kbt, .byte)]) [0] rfl
        have hDc := hD.sub (ws' := [(h0, .inr (6, [.ref tp, .ref dr, .int y_208, .int y_209, .int q_token, .int q_start, .int q_stop])), (tp, .inr (10, [.ref bt, .int b_length])), (bt, .inl (kbt, 1600, .inl fbt))]) [0, 1, 2] (by decide) rfl
        have hFc := va_free (wc := [(h0, .inr (6, [.ref tp, .ref dr, .int y_208, .int y_209, .int q_token, .int q_start, .int q_stop])), (tp, .inr (10, [.ref bt, .int b_length])), (bt, .inl (kbt, 1600, .inl fbt))]) hD hS hA [0, 1, 2] rfl
        refine va_callv (va_runV (As := []) (rest := []) ⟨hx, hb, hml, hown, hts⟩ (sX6_step l dC dI H.size h0 tp bt dr y_208 y_209 q_token q_start q_stop b_length kbt fbt (gi_w g_210 (by decide)) gq_start gq_stop gb_length) (cwV 0 hts (gz_gV mGA_162 mGA_163 mGA_164 mGA_9 mGA_165 goodGA) rfl rfl rfl (by decide +kernel) ⟨Nat.le_of_ble_eq_true rfl, Nat.le_of_ble_eq_true rfl⟩) ⟨fun a U g mk q => by obtain ⟨q0, q1, qP, qK, qD, qZ⟩ := q; exact ⟨q0, q1, qP, va_K.moved (u := U) (U := U.calling g mk a) (Vm.Alike.refl U.vm) qK, qD, nzA_same (u := U) (U := U.calling g mk a) rfl qZ⟩, va_recv hKc hPc (ci := 6) (q0 := 0) rfl rfl, fun U hU hW => ⟨rfl, by rw [hU], by rw [hU]; exact hPc, va_K.moved hW.alike hKc, hDc.weaken (fun _ _ _ _ => trivial), nzA_warm hW hz⟩⟩ rfl rfl hl.1 rfl (lv_room (Nat.le_of_ble_eq_true rfl)) dX6_passNumber_44 ⟨Nat.zero_le _, Nat.zero_le _⟩) hS (fun q _ h => hFc q h) hFc (fun u t H1 locs ht hvm hw hB hz1 hk1 hS => ?_)
        obtain ⟨y_212, y_213, y_214, gy_213, gy_214, hP1, hD1⟩ := hB
        rw [ht] at hP1
        obtain ⟨hP, hD⟩ := va_join (wr := []) (w1 := [(h0, .inr (6, [.ref tp, .ref dr, .int y_208, .int y_209, .int y_212, .int y_213, .int y_214])), (tp, .inr (10, [.ref bt, .int b_length])), (bt, .inl (kbt, 1600, .inl fbt))]) hP hD [0, 1, 2] [] rfl rfl (by decide) (by decide) hk1 hFc hP1 hD1
        have hP := hP.sub (ws' := [(h0, .inr (6, [.ref tp, .ref dr, .int y_208, .int y_209, .int y_212, .int y_213, .int y_214])), (tp, .inr (10, [.ref bt, .int b_length])), (bt, .inl (kbt, 1600, .inl fbt))]) [0, 1, 2] rfl
        have hD := hD.sub (ws' := [(h0, .inr (6, [.ref tp, .ref dr, .int y_208, .int y_209, .int y_212, .int y_213, .int y_214])), (tp, .inr (10, [.ref bt, .int b_length])), (bt, .inl (kbt, 1600, .inl fbt))]) [0, 1, 2] (by decide) rfl
        generalize H1 = H at hP hS ⊢
        refine lv_iload_n hx hb dX6_passNumber_47 rfl (lv_at hl 0 rfl) ?_
        exact W.iret (v := r_178) hx hb hr (fun t ht hW => ⟨⟨r_178, r_178, rfl, ⟨rfl, (gi_any r_178)⟩, y_208, y_209, y_212, y_213, y_214, (gi_w g_210 (by decide)), gy_213, gy_214, (show q_faultKind.toInt ≤ y_208.toInt from by have qgy_208 := g_210.1; have rgy_208 := g_210.2; have qgy_174 := g_177.1; have rgy_174 := g_177.2; have qgq_faultKind := gq_faultKind.1; have rgq_faultKind := gq_faultKind.2; omega), (show (y_208.toInt ≠ 0 ∨ (p1.toInt ≤ r_178.toInt ∧ r_178.toInt ≤ p2.toInt)) from by have qgy_208 := g_210.1; have rgy_208 := g_210.2; have qgy_174 := g_177.1; have rgy_174 := g_177.2; have qgq_faultKind := gq_faultKind.1; have rgq_faultKind := gq_faultKind.2; omega), by rw [ht]; exact hP, hD⟩, hS.F ht⟩) hS.2.2 dX6_passNumber_48
  · have hc_215 : q_token.toInt = 3 := by have h9 := congrArg Int32.toInt c_171; rw [show (3 : Int32).toInt = 3 from by decide] at h9; exact h9
    have g_216 : gi q_token 3 3 := gi_eq c_171 (gi_c 3 3 (by decide))
    refine lv_iconst (v := 1) hx hb dX6_passNumber_9 (by decide) ?_
    refine lv_goto (tgt := 14) hx hb dX6_passNumber_10 (by decide) ?_
    refine lv_iconst (v := 1) hx hb dX6_passNumber_14 (by decide) ?_
    have hPc := hP.sub (ws' := [(h0, .inr (6, [.ref tp, .ref dr, .int q_faultKind, .int q_faultPlace, .int q_token, .int q_start, .int q_stop]))]) [0] rfl
    have hKc := hK.sub (tys' := []) [] rfl
    have hDc := hD.sub (ws' := [(h0, .inr (6, [.ref tp, .ref dr, .int q_faultKind, .int q_faultPlace, .int q_token, .int q_start, .int q_stop]))]) [0] (by decide) rfl
    have hFc := va_free (wc := [(h0, .inr (6, [.ref tp, .ref dr, .int q_faultKind, .int q_faultPlace, .int q_token, .int q_start, .int q_stop]))]) hD hS hA [0] rfl
    refine va_callv (va_runV (As := [.int 1, .int 1]) (rest := []) ⟨hx, hb, hml, hown, hts⟩ (sX6_expect l dC dI s.heap.size h0 tp dr q_faultKind q_faultPlace q_token q_start q_stop 1 1 gq_faultKind gq_start gq_stop (gi_w (gi_c 1 1 (by decide)) (by decide)) (gi_w (gi_c 1 1 (by decide)) (by decide))) (cwV 2 hts (gz_gV mGA_250 mGA_251 mGA_252 mGA_9 mGA_253 goodGA) rfl rfl rfl (by decide +kernel) ⟨Nat.le_of_ble_eq_true rfl, Nat.le_of_ble_eq_true rfl⟩) ⟨fun a U g mk q => by obtain ⟨q0, q1, qP, qK, qD, qZ⟩ := q; exact ⟨q0, q1, qP, va_K.moved (u := U) (U := U.calling g mk a) (Vm.Alike.refl U.vm) qK, qD, nzA_same (u := U) (U := U.calling g mk a) rfl qZ⟩, va_recv hKc hPc (ci := 6) (q0 := 0) rfl rfl, fun U hU hW => ⟨rfl, by rw [hU], by rw [hU]; exact hPc, va_K.moved hW.alike hKc, hDc.weaken (fun _ _ _ _ => trivial), nzA_warm hW hz⟩⟩ rfl rfl hl.1 rfl (lv_room (Nat.le_of_ble_eq_true rfl)) dX6_passNumber_15 ⟨Nat.zero_le _, Nat.zero_le _⟩) hS (fun q _ h => hFc q h) hFc (fun u t H1 locs ht hvm hw hB hz1 hk1 hS => ?_)
    obtain ⟨y_218, y_219, gy_218, hpr0_r_217, hpr1_r_217, hP1, hD1⟩ := hB
    rw [ht] at hP1
    obtain ⟨hP, hD⟩ := va_join (wr := [(tp, .inr (10, [.ref bt, .int b_length])), (bt, .inl (kbt, 1600, .inl fbt))]) (w1 := [(h0, .inr (6, [.ref tp, .ref dr, .int y_218, .int y_219, .int q_token, .int q_start, .int q_stop]))]) hP hD [0] [1, 2] rfl rfl (by decide) (by decide) hk1 hFc hP1 hD1
    have hpr0_r_217 : q_faultKind.toInt ≤ y_218.toInt := hpr0_r_217
    have hpr1_r_217 : Hid (((1 : Int) = 1 ∨ 1 ≤ y_218.toInt)) := by have h9 : ((1 : Int32).toInt = 1 ∨ 1 ≤ y_218.toInt) := hpr1_r_217; rw [show (1 : Int32).toInt = 1 from by decide] at h9; exact h9
    have hP := hP.sub (ws' := [(h0, .inr (6, [.ref tp, .ref dr, .int y_218, .int y_219, .int q_token, .int q_start, .int q_stop])), (tp, .inr (10, [.ref bt, .int b_length])), (bt, .inl (kbt, 1600, .inl fbt))]) [2, 0, 1] rfl
    have hD := hD.sub (ws' := [(h0, .inr (6, [.ref tp, .ref dr, .int y_218, .int y_219, .int q_token, .int q_start, .int q_stop])), (tp, .inr (10, [.ref bt, .int b_length])), (bt, .inl (kbt, 1600, .inl fbt))]) [2, 0, 1] (by decide) rfl
    generalize H1 = H at hP hS ⊢
    refine lv_aload_n hx hb dX6_passNumber_18 rfl (lv_at hl 0 rfl) ?_
    have hPc := hP.sub (ws' := [(h0, .inr (6, [.ref tp, .ref dr, .int y_218, .int y_219, .int q_token, .int q_start, .int q_stop])), (tp, .inr (10, [.ref bt, .int b_length])), (bt, .inl (kbt, 1600, .inl fbt))]) [0, 1, 2] rfl
    have hKc := hK.sub (tys' := [(kbt, .byte)]) [0] rfl
    refine va_calli (va_runV (As := []) (rest := []) ⟨hx, hb, hml, hown, hts⟩ (sX6_valueHere l dC dI h0 tp bt dr y_218 y_219 q_token q_start q_stop b_length kbt fbt gy_218 gq_start gq_stop gb_length) (cwV 0 hts (gz_gV mGA_262 mGA_263 mGA_264 mGA_9 mGA_265 goodGA) rfl rfl rfl (by decide +kernel) ⟨Nat.le_of_ble_eq_true rfl, Nat.le_of_ble_eq_true rfl⟩) ⟨fun a U g mk q => by obtain ⟨q0, qP, qK, qZ⟩ := q; exact ⟨q0, qP, va_K.moved (u := U) (U := U.calling g mk a) (Vm.Alike.refl U.vm) qK, nzA_same (u := U) (U := U.calling g mk a) rfl qZ⟩, va_recv hKc hPc (ci := 6) (q0 := 0) rfl rfl, fun U hU hW => ⟨rfl, by rw [hU]; exact hPc, va_K.moved hW.alike hKc, nzA_warm hW hz⟩⟩ rfl rfl hl.1 rfl (lv_room (Nat.le_of_ble_eq_true rfl)) dX6_passNumber_19 ⟨Nat.zero_le _, Nat.zero_le _⟩) hS (fun q _ h => h.elim) (fun q h => h.elim) (fun r_220 u t H1 locs ht hvm hw hB hz1 hk1 hS => ?_)
    have hP := gz_keep hP hk1
    generalize H1 = H at hP hS ⊢
    refine lv_istore_n (lv' := [(3, .int r_220), (0, .ref h0), (1, .int p1), (2, .int p2)]) hx hb dX6_passNumber_22 rfl hl (by decide) rfl (fun ls hl => ?_)
    refine lv_aload_n hx hb dX6_passNumber_23 rfl (lv_at hl 1 rfl) ?_
    refine lv_iload_n hx hb dX6_passNumber_24 rfl (lv_at hl 0 rfl) ?_
    refine lv_iload_n hx hb dX6_passNumber_25 rfl (lv_at hl 2 rfl) ?_
    refine lv_icmp_lt (tgt := 38) hx hb dX6_passNumber_26 (by decide) (fun c_221 => ?_) (fun c_221 => ?_)
    · have hc_222 : r_220.toInt < p1.toInt := by have h9 := Int32.lt_iff_toInt_lt.mp c_221; exact h9
      have g_223 : gi r_220 (-2147483648) 2147483646 := gi_lt_l c_221 (gi_any r_220) (gi_any p1) (by decide)
      have g_224 : gi p1 (-2147483647) 2147483647 := gi_lt_r c_221 (gi_any r_220) (gi_any p1) (by decide)
      refine lv_iconst (v := 0) hx hb dX6_passNumber_38 (by decide) ?_
      refine lv_iconst (v := 2) hx hb dX6_passNumber_39 (by decide) ?_
      have hPc := hP.sub (ws' := [(h0, .inr (6, [.ref tp, .ref dr, .int y_218, .int y_219, .int q_token, .int q_start, .int q_stop]))]) [0] rfl
      have hKc := hK.sub (tys' := []) [] rfl
      have hDc := hD.sub (ws' := [(h0, .inr (6, [.ref tp, .ref dr, .int y_218, .int y_219, .int q_token, .int q_start, .int q_stop]))]) [0] (by decide) rfl
      have hFc := va_free (wc := [(h0, .inr (6, [.ref tp, .ref dr, .int y_218, .int y_219, .int q_token, .int q_start, .int q_stop]))]) hD hS hA [0] rfl
      refine va_callv (va_runV (As := [.int 0, .int 2]) (rest := []) ⟨hx, hb, hml, hown, hts⟩ (sX6_expect l dC dI H.size h0 tp dr y_218 y_219 q_token q_start q_stop 0 2 gy_218 gq_start gq_stop (gi_w (gi_c 0 0 (by decide)) (by decide)) (gi_w (gi_c 2 2 (by decide)) (by decide))) (cwV 2 hts (gz_gV mGA_250 mGA_251 mGA_252 mGA_9 mGA_253 goodGA) rfl rfl rfl (by decide +kernel) ⟨Nat.le_of_ble_eq_true rfl, Nat.le_of_ble_eq_true rfl⟩) ⟨fun a U g mk q => by obtain ⟨q0, q1, qP, qK, qD, qZ⟩ := q; exact ⟨q0, q1, qP, va_K.moved (u := U) (U := U.calling g mk a) (Vm.Alike.refl U.vm) qK, qD, nzA_same (u := U) (U := U.calling g mk a) rfl qZ⟩, va_recv hKc hPc (ci := 6) (q0 := 0) rfl rfl, fun U hU hW => ⟨rfl, by rw [hU], by rw [hU]; exact hPc, va_K.moved hW.alike hKc, hDc.weaken (fun _ _ _ _ => trivial), nzA_warm hW hz⟩⟩ rfl rfl hl.1 rfl (lv_room (Nat.le_of_ble_eq_true rfl)) dX6_passNumber_40 ⟨Nat.zero_le _, Nat.zero_le _⟩) hS (fun q _ h => hFc q h) hFc (fun u t H1 locs ht hvm hw hB hz1 hk1 hS => ?_)
      obtain ⟨y_226, y_227, gy_226, hpr0_r_225, hpr1_r_225, hP1, hD1⟩ := hB
      rw [ht] at hP1
      obtain ⟨hP, hD⟩ := va_join (wr := [(tp, .inr (10, [.ref bt, .int b_length])), (bt, .inl (kbt, 1600, .inl fbt))]) (w1 := [(h0, .inr (6, [.ref tp, .ref dr, .int y_226, .int y_227, .int q_token, .int q_start, .int q_stop]))]) hP hD [0] [1, 2] rfl rfl (by decide) (by decide) hk1 hFc hP1 hD1
      have hpr0_r_225 : y_218.toInt ≤ y_226.toInt := hpr0_r_225
      have hpr1_r_225 : Hid (((0 : Int) = 1 ∨ 1 ≤ y_226.toInt)) := by have h9 : ((0 : Int32).toInt = 1 ∨ 1 ≤ y_226.toInt) := hpr1_r_225; rw [show (0 : Int32).toInt = 0 from by decide] at h9; exact h9
      have hf_228 : 1 ≤ y_226.toInt := Hid.resL hpr1_r_225 (by omega)
      have g_229 : gi y_226 1 3 := ⟨by omega, gy_226.2⟩
      have hP := hP.sub (ws' := [(h0, .inr (6, [.ref tp, .ref dr, .int y_226, .int y_227, .int q_token, .int q_start, .int q_stop])), (tp, .inr (10, [.ref bt, .int b_length])), (bt, .inl (kbt, 1600, .inl fbt))]) [2, 0, 1] rfl
      have hD := hD.sub (ws' := [(h0, .inr (6, [.ref tp, .ref dr, .int y_226, .int y_227, .int q_token, .int q_start, .int q_stop])), (tp, .inr (10, [.ref bt, .int b_length])), (bt, .inl (kbt, 1600, .inl fbt))]) [2, 0, 1] (by decide) rfl
      generalize H1 = H at hP hS ⊢
      refine lv_aload_n hx hb dX6_passNumber_43 rfl (lv_at hl 1 rfl) ?_
      have hPc := hP.sub (ws' := [(h0, .inr (6, [.ref tp, .ref dr, .int y_226, .int y_227, .int q_token, .int q_start, .int q_stop])), (tp, .inr (10, [.ref bt, .int b_length])), (bt, .inl (kbt, 1600, .inl fbt))]) [0, 1, 2] rfl
      have hKc := hK.sub (tys' := [(kbt, .byte)]) [0] rfl
      have hDc := hD.sub (ws' := [(h0, .inr (6, [.ref tp, .ref dr, .int y_226, .int y_227, .int q_token, .int q_start, .int q_stop])), (tp, .inr (10, [.ref bt, .int b_length])), (bt, .inl (kbt, 1600, .inl fbt))]) [0, 1, 2] (by decide) rfl
      have hFc := va_free (wc := [(h0, .inr (6, [.ref tp, .ref dr, .int y_226, .int y_227, .int q_token, .int q_start, .int q_stop])), (tp, .inr (10, [.ref bt, .int b_length])), (bt, .inl (kbt, 1600, .inl fbt))]) hD hS hA [0, 1, 2] rfl
      refine va_callv (va_runV (As := []) (rest := []) ⟨hx, hb, hml, hown, hts⟩ (sX6_step l dC dI H.size h0 tp bt dr y_226 y_227 q_token q_start q_stop b_length kbt fbt (gi_w g_229 (by decide)) gq_start gq_stop gb_length) (cwV 0 hts (gz_gV mGA_162 mGA_163 mGA_164 mGA_9 mGA_165 goodGA) rfl rfl rfl (by decide +kernel) ⟨Nat.le_of_ble_eq_true rfl, Nat.le_of_ble_eq_true rfl⟩) ⟨fun a U g mk q => by obtain ⟨q0, q1, qP, qK, qD, qZ⟩ := q; exact ⟨q0, q1, qP, va_K.moved (u := U) (U := U.calling g mk a) (Vm.Alike.refl U.vm) qK, qD, nzA_same (u := U) (U := U.calling g mk a) rfl qZ⟩, va_recv hKc hPc (ci := 6) (q0 := 0) rfl rfl, fun U hU hW => ⟨rfl, by rw [hU], by rw [hU]; exact hPc, va_K.moved hW.alike hKc, hDc.weaken (fun _ _ _ _ => trivial), nzA_warm hW hz⟩⟩ rfl rfl hl.1 rfl (lv_room (Nat.le_of_ble_eq_true rfl)) dX6_passNumber_44 ⟨Nat.zero_le _, Nat.zero_le _⟩) hS (fun q _ h => hFc q h) hFc (fun u t H1 locs ht hvm hw hB hz1 hk1 hS => ?_)
      obtain ⟨y_231, y_232, y_233, gy_232, gy_233, hP1, hD1⟩ := hB
      rw [ht] at hP1
      obtain ⟨hP, hD⟩ := va_join (wr := []) (w1 := [(h0, .inr (6, [.ref tp, .ref dr, .int y_226, .int y_227, .int y_231, .int y_232, .int y_233])), (tp, .inr (10, [.ref bt, .int b_length])), (bt, .inl (kbt, 1600, .inl fbt))]) hP hD [0, 1, 2] [] rfl rfl (by decide) (by decide) hk1 hFc hP1 hD1
      have hP := hP.sub (ws' := [(h0, .inr (6, [.ref tp, .ref dr, .int y_226, .int y_227, .int y_231, .int y_232, .int y_233])), (tp, .inr (10, [.ref bt, .int b_length])), (bt, .inl (kbt, 1600, .inl fbt))]) [0, 1, 2] rfl
      have hD := hD.sub (ws' := [(h0, .inr (6, [.ref tp, .ref dr, .int y_226, .int y_227, .int y_231, .int y_232, .int y_233])), (tp, .inr (10, [.ref bt, .int b_length])), (bt, .inl (kbt, 1600, .inl fbt))]) [0, 1, 2] (by decide) rfl
      generalize H1 = H at hP hS ⊢
      refine lv_iload_n hx hb dX6_passNumber_47 rfl (lv_at hl 0 rfl) ?_
      exact W.iret (v := r_220) hx hb hr (fun t ht hW => ⟨⟨r_220, r_220, rfl, ⟨rfl, (gi_any r_220)⟩, y_226, y_227, y_231, y_232, y_233, (gi_w g_229 (by decide)), gy_232, gy_233, (show q_faultKind.toInt ≤ y_226.toInt from by have qgy_226 := g_229.1; have rgy_226 := g_229.2; have qgy_218 := gy_218.1; have rgy_218 := gy_218.2; have qgr_220 := g_223.1; have rgr_220 := g_223.2; have qgq_token := g_216.1; have rgq_token := g_216.2; have qgq_faultKind := gq_faultKind.1; have rgq_faultKind := gq_faultKind.2; have qgp1 := g_224.1; have rgp1 := g_224.2; omega), (show (y_226.toInt ≠ 0 ∨ (p1.toInt ≤ r_220.toInt ∧ r_220.toInt ≤ p2.toInt)) from by have qgy_226 := g_229.1; have rgy_226 := g_229.2; have qgy_218 := gy_218.1; have rgy_218 := gy_218.2; have qgr_220 := g_223.1; have rgr_220 := g_223.2; have qgq_token := g_216.1; have rgq_token := g_216.2; have qgq_faultKind := gq_faultKind.1; have rgq_faultKind := gq_faultKind.2; have qgp1 := g_224.1; have rgp1 := g_224.2; omega), by rw [ht]; exact hP, hD⟩, hS.F ht⟩) hS.2.2 dX6_passNumber_48
    · have hc_234 : p1.toInt ≤ r_220.toInt := by have h9 := Int32.le_iff_toInt_le.mp (Int32.not_lt.mp c_221); exact h9
      refine lv_iload_n hx hb dX6_passNumber_29 rfl (lv_at hl 0 rfl) ?_
      refine lv_iload_n hx hb dX6_passNumber_30 rfl (lv_at hl 3 rfl) ?_
      refine lv_icmp_gt (tgt := 38) hx hb dX6_passNumber_31 (by decide) (fun c_235 => ?_) (fun c_235 => ?_)
      · have hc_236 : p2.toInt < r_220.toInt := by have h9 := Int32.lt_iff_toInt_lt.mp c_235; exact h9
        have g_237 : gi p2 (-2147483648) 2147483646 := gi_lt_l c_235 (gi_any p2) (gi_any r_220) (by decide)
        have g_238 : gi r_220 (-2147483647) 2147483647 := gi_lt_r c_235 (gi_any p2) (gi_any r_220) (by decide)
        refine lv_iconst (v := 0) hx hb dX6_passNumber_38 (by decide) ?_
        refine lv_iconst (v := 2) hx hb dX6_passNumber_39 (by decide) ?_
        have hPc := hP.sub (ws' := [(h0, .inr (6, [.ref tp, .ref dr, .int y_218, .int y_219, .int q_token, .int q_start, .int q_stop]))]) [0] rfl
        have hKc := hK.sub (tys' := []) [] rfl
        have hDc := hD.sub (ws' := [(h0, .inr (6, [.ref tp, .ref dr, .int y_218, .int y_219, .int q_token, .int q_start, .int q_stop]))]) [0] (by decide) rfl
        have hFc := va_free (wc := [(h0, .inr (6, [.ref tp, .ref dr, .int y_218, .int y_219, .int q_token, .int q_start, .int q_stop]))]) hD hS hA [0] rfl
        refine va_callv (va_runV (As := [.int 0, .int 2]) (rest := []) ⟨hx, hb, hml, hown, hts⟩ (sX6_expect l dC dI H.size h0 tp dr y_218 y_219 q_token q_start q_stop 0 2 gy_218 gq_start gq_stop (gi_w (gi_c 0 0 (by decide)) (by decide)) (gi_w (gi_c 2 2 (by decide)) (by decide))) (cwV 2 hts (gz_gV mGA_250 mGA_251 mGA_252 mGA_9 mGA_253 goodGA) rfl rfl rfl (by decide +kernel) ⟨Nat.le_of_ble_eq_true rfl, Nat.le_of_ble_eq_true rfl⟩) ⟨fun a U g mk q => by obtain ⟨q0, q1, qP, qK, qD, qZ⟩ := q; exact ⟨q0, q1, qP, va_K.moved (u := U) (U := U.calling g mk a) (Vm.Alike.refl U.vm) qK, qD, nzA_same (u := U) (U := U.calling g mk a) rfl qZ⟩, va_recv hKc hPc (ci := 6) (q0 := 0) rfl rfl, fun U hU hW => ⟨rfl, by rw [hU], by rw [hU]; exact hPc, va_K.moved hW.alike hKc, hDc.weaken (fun _ _ _ _ => trivial), nzA_warm hW hz⟩⟩ rfl rfl hl.1 rfl (lv_room (Nat.le_of_ble_eq_true rfl)) dX6_passNumber_40 ⟨Nat.zero_le _, Nat.zero_le _⟩) hS (fun q _ h => hFc q h) hFc (fun u t H1 locs ht hvm hw hB hz1 hk1 hS => ?_)
        obtain ⟨y_240, y_241, gy_240, hpr0_r_239, hpr1_r_239, hP1, hD1⟩ := hB
        rw [ht] at hP1
        obtain ⟨hP, hD⟩ := va_join (wr := [(tp, .inr (10, [.ref bt, .int b_length])), (bt, .inl (kbt, 1600, .inl fbt))]) (w1 := [(h0, .inr (6, [.ref tp, .ref dr, .int y_240, .int y_241, .int q_token, .int q_start, .int q_stop]))]) hP hD [0] [1, 2] rfl rfl (by decide) (by decide) hk1 hFc hP1 hD1
        have hpr0_r_239 : y_218.toInt ≤ y_240.toInt := hpr0_r_239
        have hpr1_r_239 : Hid (((0 : Int) = 1 ∨ 1 ≤ y_240.toInt)) := by have h9 : ((0 : Int32).toInt = 1 ∨ 1 ≤ y_240.toInt) := hpr1_r_239; rw [show (0 : Int32).toInt = 0 from by decide] at h9; exact h9
        have hf_242 : 1 ≤ y_240.toInt := Hid.resL hpr1_r_239 (by omega)
        have g_243 : gi y_240 1 3 := ⟨by omega, gy_240.2⟩
        have hP := hP.sub (ws' := [(h0, .inr (6, [.ref tp, .ref dr, .int y_240, .int y_241, .int q_token, .int q_start, .int q_stop])), (tp, .inr (10, [.ref bt, .int b_length])), (bt, .inl (kbt, 1600, .inl fbt))]) [2, 0, 1] rfl
        have hD := hD.sub (ws' := [(h0, .inr (6, [.ref tp, .ref dr, .int y_240, .int y_241, .int q_token, .int q_start, .int q_stop])), (tp, .inr (10, [.ref bt, .int b_length])), (bt, .inl (kbt, 1600, .inl fbt))]) [2, 0, 1] (by decide) rfl
        generalize H1 = H at hP hS ⊢
        refine lv_aload_n hx hb dX6_passNumber_43 rfl (lv_at hl 1 rfl) ?_
        have hPc := hP.sub (ws' := [(h0, .inr (6, [.ref tp, .ref dr, .int y_240, .int y_241, .int q_token, .int q_start, .int q_stop])), (tp, .inr (10, [.ref bt, .int b_length])), (bt, .inl (kbt, 1600, .inl fbt))]) [0, 1, 2] rfl
        have hKc := hK.sub (tys' := [(kbt, .byte)]) [0] rfl
        have hDc := hD.sub (ws' := [(h0, .inr (6, [.ref tp, .ref dr, .int y_240, .int y_241, .int q_token, .int q_start, .int q_stop])), (tp, .inr (10, [.ref bt, .int b_length])), (bt, .inl (kbt, 1600, .inl fbt))]) [0, 1, 2] (by decide) rfl
        have hFc := va_free (wc := [(h0, .inr (6, [.ref tp, .ref dr, .int y_240, .int y_241, .int q_token, .int q_start, .int q_stop])), (tp, .inr (10, [.ref bt, .int b_length])), (bt, .inl (kbt, 1600, .inl fbt))]) hD hS hA [0, 1, 2] rfl
        refine va_callv (va_runV (As := []) (rest := []) ⟨hx, hb, hml, hown, hts⟩ (sX6_step l dC dI H.size h0 tp bt dr y_240 y_241 q_token q_start q_stop b_length kbt fbt (gi_w g_243 (by decide)) gq_start gq_stop gb_length) (cwV 0 hts (gz_gV mGA_162 mGA_163 mGA_164 mGA_9 mGA_165 goodGA) rfl rfl rfl (by decide +kernel) ⟨Nat.le_of_ble_eq_true rfl, Nat.le_of_ble_eq_true rfl⟩) ⟨fun a U g mk q => by obtain ⟨q0, q1, qP, qK, qD, qZ⟩ := q; exact ⟨q0, q1, qP, va_K.moved (u := U) (U := U.calling g mk a) (Vm.Alike.refl U.vm) qK, qD, nzA_same (u := U) (U := U.calling g mk a) rfl qZ⟩, va_recv hKc hPc (ci := 6) (q0 := 0) rfl rfl, fun U hU hW => ⟨rfl, by rw [hU], by rw [hU]; exact hPc, va_K.moved hW.alike hKc, hDc.weaken (fun _ _ _ _ => trivial), nzA_warm hW hz⟩⟩ rfl rfl hl.1 rfl (lv_room (Nat.le_of_ble_eq_true rfl)) dX6_passNumber_44 ⟨Nat.zero_le _, Nat.zero_le _⟩) hS (fun q _ h => hFc q h) hFc (fun u t H1 locs ht hvm hw hB hz1 hk1 hS => ?_)
        obtain ⟨y_245, y_246, y_247, gy_246, gy_247, hP1, hD1⟩ := hB
        rw [ht] at hP1
        obtain ⟨hP, hD⟩ := va_join (wr := []) (w1 := [(h0, .inr (6, [.ref tp, .ref dr, .int y_240, .int y_241, .int y_245, .int y_246, .int y_247])), (tp, .inr (10, [.ref bt, .int b_length])), (bt, .inl (kbt, 1600, .inl fbt))]) hP hD [0, 1, 2] [] rfl rfl (by decide) (by decide) hk1 hFc hP1 hD1
        have hP := hP.sub (ws' := [(h0, .inr (6, [.ref tp, .ref dr, .int y_240, .int y_241, .int y_245, .int y_246, .int y_247])), (tp, .inr (10, [.ref bt, .int b_length])), (bt, .inl (kbt, 1600, .inl fbt))]) [0, 1, 2] rfl
        have hD := hD.sub (ws' := [(h0, .inr (6, [.ref tp, .ref dr, .int y_240, .int y_241, .int y_245, .int y_246, .int y_247])), (tp, .inr (10, [.ref bt, .int b_length])), (bt, .inl (kbt, 1600, .inl fbt))]) [0, 1, 2] (by decide) rfl
        generalize H1 = H at hP hS ⊢
        refine lv_iload_n hx hb dX6_passNumber_47 rfl (lv_at hl 0 rfl) ?_
        exact W.iret (v := r_220) hx hb hr (fun t ht hW => ⟨⟨r_220, r_220, rfl, ⟨rfl, (gi_any r_220)⟩, y_240, y_241, y_245, y_246, y_247, (gi_w g_243 (by decide)), gy_246, gy_247, (show q_faultKind.toInt ≤ y_240.toInt from by have qgy_240 := g_243.1; have rgy_240 := g_243.2; have qgy_218 := gy_218.1; have rgy_218 := gy_218.2; have qgr_220 := g_238.1; have rgr_220 := g_238.2; have qgq_token := g_216.1; have rgq_token := g_216.2; have qgq_faultKind := gq_faultKind.1; have rgq_faultKind := gq_faultKind.2; have qgp2 := g_237.1; have rgp2 := g_237.2; omega), (show (y_240.toInt ≠ 0 ∨ (p1.toInt ≤ r_220.toInt ∧ r_220.toInt ≤ p2.toInt)) from by have qgy_240 := g_243.1; have rgy_240 := g_243.2; have qgy_218 := gy_218.1; have rgy_218 := gy_218.2; have qgr_220 := g_238.1; have rgr_220 := g_238.2; have qgq_token := g_216.1; have rgq_token := g_216.2; have qgq_faultKind := gq_faultKind.1; have rgq_faultKind := gq_faultKind.2; have qgp2 := g_237.1; have rgp2 := g_237.2; omega), by rw [ht]; exact hP, hD⟩, hS.F ht⟩) hS.2.2 dX6_passNumber_48
      · have hc_248 : r_220.toInt ≤ p2.toInt := by have h9 := Int32.le_iff_toInt_le.mp (Int32.not_lt.mp c_235); exact h9
        refine lv_iconst (v := 1) hx hb dX6_passNumber_34 (by decide) ?_
        refine lv_goto (tgt := 39) hx hb dX6_passNumber_35 (by decide) ?_
        refine lv_iconst (v := 2) hx hb dX6_passNumber_39 (by decide) ?_
        have hPc := hP.sub (ws' := [(h0, .inr (6, [.ref tp, .ref dr, .int y_218, .int y_219, .int q_token, .int q_start, .int q_stop]))]) [0] rfl
        have hKc := hK.sub (tys' := []) [] rfl
        have hDc := hD.sub (ws' := [(h0, .inr (6, [.ref tp, .ref dr, .int y_218, .int y_219, .int q_token, .int q_start, .int q_stop]))]) [0] (by decide) rfl
        have hFc := va_free (wc := [(h0, .inr (6, [.ref tp, .ref dr, .int y_218, .int y_219, .int q_token, .int q_start, .int q_stop]))]) hD hS hA [0] rfl
        refine va_callv (va_runV (As := [.int 1, .int 2]) (rest := []) ⟨hx, hb, hml, hown, hts⟩ (sX6_expect l dC dI H.size h0 tp dr y_218 y_219 q_token q_start q_stop 1 2 gy_218 gq_start gq_stop (gi_w (gi_c 1 1 (by decide)) (by decide)) (gi_w (gi_c 2 2 (by decide)) (by decide))) (cwV 2 hts (gz_gV mGA_250 mGA_251 mGA_252 mGA_9 mGA_253 goodGA) rfl rfl rfl (by decide +kernel) ⟨Nat.le_of_ble_eq_true rfl, Nat.le_of_ble_eq_true rfl⟩) ⟨fun a U g mk q => by obtain ⟨q0, q1, qP, qK, qD, qZ⟩ := q; exact ⟨q0, q1, qP, va_K.moved (u := U) (U := U.calling g mk a) (Vm.Alike.refl U.vm) qK, qD, nzA_same (u := U) (U := U.calling g mk a) rfl qZ⟩, va_recv hKc hPc (ci := 6) (q0 := 0) rfl rfl, fun U hU hW => ⟨rfl, by rw [hU], by rw [hU]; exact hPc, va_K.moved hW.alike hKc, hDc.weaken (fun _ _ _ _ => trivial), nzA_warm hW hz⟩⟩ rfl rfl hl.1 rfl (lv_room (Nat.le_of_ble_eq_true rfl)) dX6_passNumber_40 ⟨Nat.zero_le _, Nat.zero_le _⟩) hS (fun q _ h => hFc q h) hFc (fun u t H1 locs ht hvm hw hB hz1 hk1 hS => ?_)
        obtain ⟨y_250, y_251, gy_250, hpr0_r_249, hpr1_r_249, hP1, hD1⟩ := hB
        rw [ht] at hP1
        obtain ⟨hP, hD⟩ := va_join (wr := [(tp, .inr (10, [.ref bt, .int b_length])), (bt, .inl (kbt, 1600, .inl fbt))]) (w1 := [(h0, .inr (6, [.ref tp, .ref dr, .int y_250, .int y_251, .int q_token, .int q_start, .int q_stop]))]) hP hD [0] [1, 2] rfl rfl (by decide) (by decide) hk1 hFc hP1 hD1
        have hpr0_r_249 : y_218.toInt ≤ y_250.toInt := hpr0_r_249
        have hpr1_r_249 : Hid (((1 : Int) = 1 ∨ 1 ≤ y_250.toInt)) := by have h9 : ((1 : Int32).toInt = 1 ∨ 1 ≤ y_250.toInt) := hpr1_r_249; rw [show (1 : Int32).toInt = 1 from by decide] at h9; exact h9
        have hP := hP.sub (ws' := [(h0, .inr (6, [.ref tp, .ref dr, .int y_250, .int y_251, .int q_token, .int q_start, .int q_stop])), (tp, .inr (10, [.ref bt, .int b_length])), (bt, .inl (kbt, 1600, .inl fbt))]) [2, 0, 1] rfl
        have hD := hD.sub (ws' := [(h0, .inr (6, [.ref tp, .ref dr, .int y_250, .int y_251, .int q_token, .int q_start, .int q_stop])), (tp, .inr (10, [.ref bt, .int b_length])), (bt, .inl (kbt, 1600, .inl fbt))]) [2, 0, 1] (by decide) rfl
        generalize H1 = H at hP hS ⊢
        refine lv_aload_n hx hb dX6_passNumber_43 rfl (lv_at hl 1 rfl) ?_
        have hPc := hP.sub (ws' := [(h0, .inr (6, [.ref tp, .ref dr, .int y_250, .int y_251, .int q_token, .int q_start, .int q_stop])), (tp, .inr (10, [.ref bt, .int b_length])), (bt, .inl (kbt, 1600, .inl fbt))]) [0, 1, 2] rfl
        have hKc := hK.sub (tys' := [(kbt, .byte)]) [0] rfl
        have hDc := hD.sub (ws' := [(h0, .inr (6, [.ref tp, .ref dr, .int y_250, .int y_251, .int q_token, .int q_start, .int q_stop])), (tp, .inr (10, [.ref bt, .int b_length])), (bt, .inl (kbt, 1600, .inl fbt))]) [0, 1, 2] (by decide) rfl
        have hFc := va_free (wc := [(h0, .inr (6, [.ref tp, .ref dr, .int y_250, .int y_251, .int q_token, .int q_start, .int q_stop])), (tp, .inr (10, [.ref bt, .int b_length])), (bt, .inl (kbt, 1600, .inl fbt))]) hD hS hA [0, 1, 2] rfl
        refine va_callv (va_runV (As := []) (rest := []) ⟨hx, hb, hml, hown, hts⟩ (sX6_step l dC dI H.size h0 tp bt dr y_250 y_251 q_token q_start q_stop b_length kbt fbt gy_250 gq_start gq_stop gb_length) (cwV 0 hts (gz_gV mGA_162 mGA_163 mGA_164 mGA_9 mGA_165 goodGA) rfl rfl rfl (by decide +kernel) ⟨Nat.le_of_ble_eq_true rfl, Nat.le_of_ble_eq_true rfl⟩) ⟨fun a U g mk q => by obtain ⟨q0, q1, qP, qK, qD, qZ⟩ := q; exact ⟨q0, q1, qP, va_K.moved (u := U) (U := U.calling g mk a) (Vm.Alike.refl U.vm) qK, qD, nzA_same (u := U) (U := U.calling g mk a) rfl qZ⟩, va_recv hKc hPc (ci := 6) (q0 := 0) rfl rfl, fun U hU hW => ⟨rfl, by rw [hU], by rw [hU]; exact hPc, va_K.moved hW.alike hKc, hDc.weaken (fun _ _ _ _ => trivial), nzA_warm hW hz⟩⟩ rfl rfl hl.1 rfl (lv_room (Nat.le_of_ble_eq_true rfl)) dX6_passNumber_44 ⟨Nat.zero_le _, Nat.zero_le _⟩) hS (fun q _ h => hFc q h) hFc (fun u t H1 locs ht hvm hw hB hz1 hk1 hS => ?_)
        obtain ⟨y_253, y_254, y_255, gy_254, gy_255, hP1, hD1⟩ := hB
        rw [ht] at hP1
        obtain ⟨hP, hD⟩ := va_join (wr := []) (w1 := [(h0, .inr (6, [.ref tp, .ref dr, .int y_250, .int y_251, .int y_253, .int y_254, .int y_255])), (tp, .inr (10, [.ref bt, .int b_length])), (bt, .inl (kbt, 1600, .inl fbt))]) hP hD [0, 1, 2] [] rfl rfl (by decide) (by decide) hk1 hFc hP1 hD1
        have hP := hP.sub (ws' := [(h0, .inr (6, [.ref tp, .ref dr, .int y_250, .int y_251, .int y_253, .int y_254, .int y_255])), (tp, .inr (10, [.ref bt, .int b_length])), (bt, .inl (kbt, 1600, .inl fbt))]) [0, 1, 2] rfl
        have hD := hD.sub (ws' := [(h0, .inr (6, [.ref tp, .ref dr, .int y_250, .int y_251, .int y_253, .int y_254, .int y_255])), (tp, .inr (10, [.ref bt, .int b_length])), (bt, .inl (kbt, 1600, .inl fbt))]) [0, 1, 2] (by decide) rfl
        generalize H1 = H at hP hS ⊢
        refine lv_iload_n hx hb dX6_passNumber_47 rfl (lv_at hl 0 rfl) ?_
        exact W.iret (v := r_220) hx hb hr (fun t ht hW => ⟨⟨r_220, r_220, rfl, ⟨rfl, (gi_any r_220)⟩, y_250, y_251, y_253, y_254, y_255, gy_250, gy_254, gy_255, (show q_faultKind.toInt ≤ y_250.toInt from by have qgy_250 := gy_250.1; have rgy_250 := gy_250.2; have qgy_218 := gy_218.1; have rgy_218 := gy_218.2; have qgq_token := g_216.1; have rgq_token := g_216.2; have qgq_faultKind := gq_faultKind.1; have rgq_faultKind := gq_faultKind.2; omega), (show (y_250.toInt ≠ 0 ∨ (p1.toInt ≤ r_220.toInt ∧ r_220.toInt ≤ p2.toInt)) from by by_cases h9 : y_250.toInt ≠ 0; exact Or.inl h9; refine Or.inr ?_; have lgq_faultKind := gq_faultKind.1; have mgq_faultKind := gq_faultKind.2; have lgy_218 := gy_218.1; have mgy_218 := gy_218.2; have lgy_250 := gy_250.1; have mgy_250 := gy_250.2; have qgy_250 := gy_250.1; have rgy_250 := gy_250.2; have qgy_218 := gy_218.1; have rgy_218 := gy_218.2; have qgq_token := g_216.1; have rgq_token := g_216.2; have qgq_faultKind := gq_faultKind.1; have rgq_faultKind := gq_faultKind.2; omega), by rw [ht]; exact hP, hD⟩, hS.F ht⟩) hS.2.2 dX6_passNumber_48
