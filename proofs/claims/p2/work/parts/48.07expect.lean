theorem dX6_expect_0 : decode cX6_expect 0 = .ok (.iload_n 1, 1) := by decide +kernel
theorem dX6_expect_1 : decode cX6_expect 1 = .ok (.ifCond .ne 12, 3) := by decide +kernel
theorem dX6_expect_4 : decode cX6_expect 4 = .ok (.aload_n 0, 1) := by decide +kernel
theorem dX6_expect_5 : decode cX6_expect 5 = .ok (.iload_n 2, 1) := by decide +kernel
theorem dX6_expect_6 : decode cX6_expect 6 = .ok (.aload_n 0, 1) := by decide +kernel
theorem dX6_expect_7 : decode cX6_expect 7 = .ok (.getfield 35, 3) := by decide +kernel
theorem dX6_expect_10 : decode cX6_expect 10 = .ok (.invokevirtual 85, 3) := by decide +kernel
theorem dX6_expect_13 : decode cX6_expect 13 = .ok (.return_, 1) := by decide +kernel
set_option maxHeartbeats 4000000 in
set_option maxRecDepth 100000 in
theorem sX6_expect (l : Launch) (dC : Nat → ClassId) (dI : Nat → Nat → Nat) (sz : Nat) (h0 : Nat) (tp : Nat) (dr : Nat) (q_faultKind : Int32) (q_faultPlace : Int32) (q_token : Int32) (q_start : Int32) (q_stop : Int32) (p1 : Int32) (p2 : Int32) (gq_faultKind : gi q_faultKind 0 3) (gq_start : gi q_start 0 1600) (gq_stop : gi q_stop 0 1600) (gp1 : gi p1 0 1) (gp2 : gi p2 1 3) : Met l yX6_expect (.code yX6_expect cX6_expect 3 none :: wsGA) ({ frames := 1, cells := 0, slots := 0, locals := 22 }) (va_Pc [.ref h0, .int p1, .int p2] (fun U => U.heap.size = sz ∧ va_P (dC, dI) vwCl [(h0, .inr (6, [.ref tp, .ref dr, .int q_faultKind, .int q_faultPlace, .int q_token, .int q_start, .int q_stop]))] U.heap ∧ va_K (dC, dI) vwCl [] U ∧ va_D (fun _ => True) [(h0, .inr (6, [.ref tp, .ref dr, .int q_faultKind, .int q_faultPlace, .int q_token, .int q_start, .int q_stop]))] ∧ nzA U)) (va_Qv (fun (u : Unit) => True) (fun _ t => ∃ (w0_2 : Int32) (w0_3 : Int32), gi w0_2 0 3 ∧ q_faultKind.toInt ≤ w0_2.toInt ∧ (p1.toInt = 1 ∨ 1 ≤ w0_2.toInt) ∧ va_P (dC, dI) vwCl [(h0, .inr (6, [.ref tp, .ref dr, .int w0_2, .int w0_3, .int q_token, .int q_start, .int q_stop]))] t.heap ∧ va_D (va_A [(h0, .inr (6, [.ref tp, .ref dr, .int q_faultKind, .int q_faultPlace, .int q_token, .int q_start, .int q_stop]))] sz) [(h0, .inr (6, [.ref tp, .ref dr, .int w0_2, .int w0_3, .int q_token, .int q_start, .int q_stop]))]) (va_A [(h0, .inr (6, [.ref tp, .ref dr, .int q_faultKind, .int q_faultPlace, .int q_token, .int q_start, .int q_stop]))] sz)) 0 0 (va_A [(h0, .inr (6, [.ref tp, .ref dr, .int q_faultKind, .int q_faultPlace, .int q_token, .int q_start, .int q_stop]))] sz) := by
  refine Met.ofW (cc := cX6_expect) (maxL := 3) (ret := none) (by decide) rfl ?_
  intro p e s m args below meth c s₁ B hml hv
  obtain ⟨rfl, hsz, hP, hK, hD0, hz⟩ := hv
  have hx := B.exec
  have hb := B.bytes
  have hr := B.returns
  have hts := atoms_spec (ws := (.code yX6_expect cX6_expect 3 none :: wsGA)) B.pre
  have hown : s.vm.findClass RX6 = some m.cls := findClass_of_methodNamed B.named
  have hlocks := B.notSynchronized
  subst hsz
  have hD := hD0.self (sz := s.heap.size)
  generalize hAe : va_A [(h0, .inr (6, [.ref tp, .ref dr, .int q_faultKind, .int q_faultPlace, .int q_token, .int q_start, .int q_stop]))] s.heap.size = A at hD ⊢
  have hA : ∀ q : Nat, s.heap.size ≤ q → A q := fun q h => by rw [← hAe]; exact Or.inr h
  have hS : va_S A s.heap s.heap [] := va_S.rf
  have hl := lv_entry ([.ref h0, .int p1, .int p2]) (n := 3) (Nat.le_of_ble_eq_true rfl)
  rw [lg_entry_eq]
  generalize (lg_sl ([.ref h0, .int p1, .int p2]) ++ List.replicate (3 - (lg_sl ([.ref h0, .int p1, .int p2])).length) Slot.unset).toArray = ls at hl ⊢
  have hl : lv_has ls 3 [(0, .ref h0), (1, .int p1), (2, .int p2)] := hl
  refine lv_iload_n hx hb dX6_expect_0 rfl (lv_at hl 1 rfl) ?_
  refine lv_if_ne (tgt := 13) hx hb dX6_expect_1 (by decide) (fun c_19 => ?_) (fun c_19 => ?_)
  · have hc_20 : p1.toInt ≠ 0 := fun h9 => c_19 (Int32.toInt_inj.mp (by rw [show (0 : Int32).toInt = 0 from by decide]; exact h9))
    have g_21 : gi p1 1 1 := gi_ne_lo c_19 gp1 (gi_c 0 0 (by decide)) (by decide)
    exact W.vret hx hb hr (fun t ht hW => ⟨⟨(), rfl, trivial, q_faultKind, q_faultPlace, gq_faultKind, (show q_faultKind.toInt ≤ q_faultKind.toInt from by have qgq_faultKind := gq_faultKind.1; have rgq_faultKind := gq_faultKind.2; have qgp1 := g_21.1; have rgp1 := g_21.2; omega), (show (p1.toInt = 1 ∨ 1 ≤ q_faultKind.toInt) from by have qgq_faultKind := gq_faultKind.1; have rgq_faultKind := gq_faultKind.2; have qgp1 := g_21.1; have rgp1 := g_21.2; omega), by rw [ht]; exact hP, hD⟩, hS.F ht⟩) hS.2.2 dX6_expect_13
  · have hc_22 : p1.toInt = 0 := by have h9 := congrArg Int32.toInt c_19; rw [show (0 : Int32).toInt = 0 from by decide] at h9; exact h9
    have g_23 : gi p1 0 0 := gi_eq c_19 (gi_c 0 0 (by decide))
    refine lv_aload_n hx hb dX6_expect_4 rfl (lv_at hl 0 rfl) ?_
    refine lv_iload_n hx hb dX6_expect_5 rfl (lv_at hl 2 rfl) ?_
    refine lv_aload_n hx hb dX6_expect_6 rfl (lv_at hl 0 rfl) ?_
    refine va_get (D := (dC, dI)) (ci := 6) (v := .int q_start) (C := RX6) (T := TX6) (N := 7) hx hb hts (fun w h => List.mem_cons_of_mem _ (jnGA_X6 w h)) hown hK hP 0 rfl rfl 5 (by decide) (hts _ (List.mem_cons_of_mem _ mGA_58)) (fun _ h9 => h9) rfl dX6_expect_7 ?_
    have hPc := hP.sub (ws' := [(h0, .inr (6, [.ref tp, .ref dr, .int q_faultKind, .int q_faultPlace, .int q_token, .int q_start, .int q_stop]))]) [0] rfl
    have hKc := hK.sub (tys' := []) [] rfl
    have hDc := hD.sub (ws' := [(h0, .inr (6, [.ref tp, .ref dr, .int q_faultKind, .int q_faultPlace, .int q_token, .int q_start, .int q_stop]))]) [0] (by decide) rfl
    have hFc := va_free (wc := [(h0, .inr (6, [.ref tp, .ref dr, .int q_faultKind, .int q_faultPlace, .int q_token, .int q_start, .int q_stop]))]) hD hS hA [0] rfl
    refine va_callv (va_runV (As := [.int p2, .int q_start]) (rest := []) ⟨hx, hb, hml, hown, hts⟩ (sX6_blame l dC dI s.heap.size h0 tp dr q_faultKind q_faultPlace q_token q_start q_stop p2 q_start gq_faultKind gq_start gq_stop gp2) (cwV 2 hts (gz_gV mGA_254 mGA_255 mGA_256 mGA_9 mGA_257 goodGA) rfl rfl rfl (by decide +kernel) ⟨Nat.le_of_ble_eq_true rfl, Nat.le_of_ble_eq_true rfl⟩) ⟨fun a U g mk q => by obtain ⟨q0, q1, qP, qK, qD, qZ⟩ := q; exact ⟨q0, q1, qP, va_K.moved (u := U) (U := U.calling g mk a) (Vm.Alike.refl U.vm) qK, qD, nzA_same (u := U) (U := U.calling g mk a) rfl qZ⟩, va_recv hKc hPc (ci := 6) (q0 := 0) rfl rfl, fun U hU hW => ⟨rfl, by rw [hU], by rw [hU]; exact hPc, va_K.moved hW.alike hKc, hDc.weaken (fun _ _ _ _ => trivial), nzA_warm hW hz⟩⟩ rfl rfl hl.1 rfl (lv_room (Nat.le_of_ble_eq_true rfl)) dX6_expect_10 ⟨Nat.zero_le _, Nat.zero_le _⟩) hS (fun q _ h => hFc q h) hFc (fun u t H1 locs ht hvm hw hB hz1 hk1 hS => ?_)
    obtain ⟨y_25, y_26, gy_25, hpr0_r_24, hpr1_r_24, hP1, hD1⟩ := hB
    rw [ht] at hP1
    obtain ⟨hP, hD⟩ := va_join (wr := []) (w1 := [(h0, .inr (6, [.ref tp, .ref dr, .int y_25, .int y_26, .int q_token, .int q_start, .int q_stop]))]) hP hD [0] [] rfl rfl (by decide) (by decide) hk1 hFc hP1 hD1
    have hpr0_r_24 : 1 ≤ y_25.toInt := hpr0_r_24
    have g_27 : gi y_25 1 3 := ⟨by omega, gy_25.2⟩
    have hpr1_r_24 : q_faultKind.toInt ≤ y_25.toInt := hpr1_r_24
    have hP := hP.sub (ws' := [(h0, .inr (6, [.ref tp, .ref dr, .int y_25, .int y_26, .int q_token, .int q_start, .int q_stop]))]) [0] rfl
    have hD := hD.sub (ws' := [(h0, .inr (6, [.ref tp, .ref dr, .int y_25, .int y_26, .int q_token, .int q_start, .int q_stop]))]) [0] (by decide) rfl
    generalize H1 = H at hP hS ⊢
    exact W.vret hx hb hr (fun t ht hW => ⟨⟨(), rfl, trivial, y_25, y_26, (gi_w g_27 (by decide)), hpr1_r_24, (show (p1.toInt = 1 ∨ 1 ≤ y_25.toInt) from by have qgy_25 := g_27.1; have rgy_25 := g_27.2; have qgq_faultKind := gq_faultKind.1; have rgq_faultKind := gq_faultKind.2; have qgp1 := g_23.1; have rgp1 := g_23.2; omega), by rw [ht]; exact hP, hD⟩, hS.F ht⟩) hS.2.2 dX6_expect_13
