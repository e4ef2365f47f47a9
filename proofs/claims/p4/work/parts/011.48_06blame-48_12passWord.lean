theorem dX6_blame_0 : decode cX6_blame 0 = .ok (.aload_n 0, 1) := by decide +kernel
theorem dX6_blame_1 : decode cX6_blame 1 = .ok (.getfield 25, 3) := by decide +kernel
theorem dX6_blame_4 : decode cX6_blame 4 = .ok (.ifCond .ne 13, 3) := by decide +kernel
theorem dX6_blame_7 : decode cX6_blame 7 = .ok (.aload_n 0, 1) := by decide +kernel
theorem dX6_blame_8 : decode cX6_blame 8 = .ok (.iload_n 1, 1) := by decide +kernel
theorem dX6_blame_9 : decode cX6_blame 9 = .ok (.putfield 25, 3) := by decide +kernel
theorem dX6_blame_12 : decode cX6_blame 12 = .ok (.aload_n 0, 1) := by decide +kernel
theorem dX6_blame_13 : decode cX6_blame 13 = .ok (.iload_n 2, 1) := by decide +kernel
theorem dX6_blame_14 : decode cX6_blame 14 = .ok (.putfield 29, 3) := by decide +kernel
theorem dX6_blame_17 : decode cX6_blame 17 = .ok (.return_, 1) := by decide +kernel
noncomputable def bfX6_blame_17 (q_faultKind : Int32) (q_faultPlace : Int32) (p1 : Int32) (p2 : Int32) (w0_2 : Int32) (w0_3 : Int32) : Int32 × Int32 := (w0_2, w0_3)
noncomputable def fX6_blame (q_faultKind : Int32) (q_faultPlace : Int32) (p1 : Int32) (p2 : Int32) : Int32 × Int32 := if q_faultKind = (0 : Int32) then (bfX6_blame_17 q_faultKind q_faultPlace p1 p2 p1 p2) else (bfX6_blame_17 q_faultKind q_faultPlace p1 p2 q_faultKind q_faultPlace)
set_option maxHeartbeats 4000000 in
set_option maxRecDepth 100000 in
theorem sX6_blame (l : Launch) (dC : Nat → ClassId) (dI : Nat → Nat → Nat) (sz : Nat) (h0 : Nat) (tp : Nat) (dr : Nat) (q_faultKind : Int32) (q_faultPlace : Int32) (q_token : Int32) (q_start : Int32) (q_stop : Int32) (p1 : Int32) (p2 : Int32) (gq_faultKind : gi q_faultKind 0 3) (gq_start : gi q_start 0 1600) (gq_stop : gi q_stop 0 1600) (gp1 : gi p1 1 3) : Met l yX6_blame (.code yX6_blame cX6_blame 3 none :: wsGA) ({ frames := 0, cells := 0, slots := 0, locals := 0 }) (va_Pc [.ref h0, .int p1, .int p2] (fun U => U.heap.size = sz ∧ va_P (dC, dI) vwCl [(h0, .inr (6, [.ref tp, .ref dr, .int q_faultKind, .int q_faultPlace, .int q_token, .int q_start, .int q_stop]))] U.heap ∧ va_K (dC, dI) vwCl [] U ∧ va_D (fun _ => True) [(h0, .inr (6, [.ref tp, .ref dr, .int q_faultKind, .int q_faultPlace, .int q_token, .int q_start, .int q_stop]))] ∧ nzA U)) (va_Qv (fun (u : Unit) => True) (fun _ t => ∃ (w0_2 : Int32) (w0_3 : Int32), gi w0_2 0 3 ∧ 1 ≤ w0_2.toInt ∧ q_faultKind.toInt ≤ w0_2.toInt ∧ (w0_2, w0_3) = fX6_blame q_faultKind q_faultPlace p1 p2 ∧ va_P (dC, dI) vwCl [(h0, .inr (6, [.ref tp, .ref dr, .int w0_2, .int w0_3, .int q_token, .int q_start, .int q_stop]))] t.heap ∧ va_D (va_A [(h0, .inr (6, [.ref tp, .ref dr, .int q_faultKind, .int q_faultPlace, .int q_token, .int q_start, .int q_stop]))] sz) [(h0, .inr (6, [.ref tp, .ref dr, .int w0_2, .int w0_3, .int q_token, .int q_start, .int q_stop]))]) (va_A [(h0, .inr (6, [.ref tp, .ref dr, .int q_faultKind, .int q_faultPlace, .int q_token, .int q_start, .int q_stop]))] sz)) 0 0 (va_A [(h0, .inr (6, [.ref tp, .ref dr, .int q_faultKind, .int q_faultPlace, .int q_token, .int q_start, .int q_stop]))] sz) := by
  refine Met.ofW (cc := cX6_blame) (maxL := 3) (ret := none) (by decide) rfl ?_
  intro p e s m args below meth c s₁ B hml hv
  obtain ⟨rfl, hsz, hP, hK, hD0, hz⟩ := hv
  have hx := B.exec
  have hb := B.bytes
  have hr := B.returns
  have hts := atoms_spec (ws := (.code yX6_blame cX6_blame 3 none :: wsGA)) B.pre
  have hown : s.vm.findClass RX6 = some m.cls := findClass_of_methodNamed B.named
  have hlocks := B.notSynchronized
  subst hsz
  have hD := hD0.self (sz := s.heap.size)
  generalize hAe : va_A [(h0, .inr (6, [.ref tp, .ref dr, .int q_faultKind, .int q_faultPlace, .int q_token, .int q_start, .int q_stop]))] s.heap.size = A at hD ⊢
  have hA : ∀ q : Nat, s.heap.size ≤ q → A q := fun q h => by rw [← hAe]; exact Or.inr h
  have hS : va_S A s.heap s.heap [] := va_S.rf
  have hl := lv_entry ([.ref h0, .int p1, .int p2]) (n := 3) (Nat.le_of_ble_eq_true rfl)
  rw [lg_entry_eq]
  generalize (lg_sl ([.ref h0, .int p1, .int p2]) ++ List.replicate (3 - (lg_sl ([.ref h0, .int p1, .int p2])).length) Slot.unset).toArray = ls at hl ⊢
  have hl : lv_has ls 3 [(0, .ref h0), (1, .int p1), (2, .int p2)] := hl
  obtain ⟨RES, hF⟩ : ∃ R9, fX6_blame q_faultKind q_faultPlace p1 p2 = R9 := ⟨_, rfl⟩
  have hR9 := hF
  refine lv_aload_n hx hb dX6_blame_0 rfl (lv_at hl 0 rfl) ?_
  refine va_get (D := (dC, dI)) (ci := 6) (v := .int q_faultKind) (C := RX6) (T := TX6) (N := 7) hx hb hts (fun w h => List.mem_cons_of_mem _ (jnGA_X6 w h)) hown hK hP 0 rfl rfl 2 (by decide) (hts _ (List.mem_cons_of_mem _ mGA_55)) (fun _ h9 => h9) rfl dX6_blame_1 ?_
  refine lv_if_ne (tgt := 17) hx hb dX6_blame_4 (by decide) (fun c_11 => ?_) (fun c_11 => ?_)
  · have hF := gf_neg c_11 hF
    have hc_12 : q_faultKind.toInt ≠ 0 := fun h9 => c_11 (Int32.toInt_inj.mp (by rw [show (0 : Int32).toInt = 0 from by decide]; exact h9))
    have g_13 : gi q_faultKind 1 3 := gi_ne_lo c_11 gq_faultKind (gi_c 0 0 (by decide)) (by decide)
    exact W.vret hx hb hr (fun t ht hW => ⟨⟨(), rfl, trivial, q_faultKind, q_faultPlace, (gi_w g_13 (by decide)), (show 1 ≤ q_faultKind.toInt from by have qgq_faultKind := g_13.1; have rgq_faultKind := g_13.2; omega), (show q_faultKind.toInt ≤ q_faultKind.toInt from by have qgq_faultKind := g_13.1; have rgq_faultKind := g_13.2; omega), hF.trans hR9.symm, by rw [ht]; exact hP, hD⟩, hS.F ht⟩) hS.2.2 dX6_blame_17
  · have hF := gf_pos c_11 hF
    have hc_14 : q_faultKind.toInt = 0 := by have h9 := congrArg Int32.toInt c_11; rw [show (0 : Int32).toInt = 0 from by decide] at h9; exact h9
    have g_15 : gi q_faultKind 0 0 := gi_eq c_11 (gi_c 0 0 (by decide))
    refine lv_aload_n hx hb dX6_blame_7 rfl (lv_at hl 0 rfl) ?_
    refine lv_iload_n hx hb dX6_blame_8 rfl (lv_at hl 1 rfl) ?_
    refine va_put (D := (dC, dI)) (ci := 6) (v := .int p1) (ty := .int) (C := RX6) (T := TX6) (N := 7) hx hb hts (fun w h => List.mem_cons_of_mem _ (jnGA_X6 w h)) tyX6 tyX6_ok nmX6 hown hK hP hD hS 0 rfl rfl 2 (by decide) (hts _ (List.mem_cons_of_mem _ mGA_55)) (fun _ h9 => h9) rfl (by decide +kernel) rfl rfl (Nat.le_of_ble_eq_true rfl) dX6_blame_9 (fun H locs hP hD hS => ?_)
    have hP : va_P (dC, dI) vwCl [(h0, .inr (6, [.ref tp, .ref dr, .int p1, .int q_faultPlace, .int q_token, .int q_start, .int q_stop]))] H := hP
    have hD : va_D A [(h0, .inr (6, [.ref tp, .ref dr, .int p1, .int q_faultPlace, .int q_token, .int q_start, .int q_stop]))] := hD
    refine lv_aload_n hx hb dX6_blame_12 rfl (lv_at hl 0 rfl) ?_
    refine lv_iload_n hx hb dX6_blame_13 rfl (lv_at hl 2 rfl) ?_
    refine va_put (D := (dC, dI)) (ci := 6) (v := .int p2) (ty := .int) (C := RX6) (T := TX6) (N := 7) hx hb hts (fun w h => List.mem_cons_of_mem _ (jnGA_X6 w h)) tyX6 tyX6_ok nmX6 hown hK hP hD hS 0 rfl rfl 3 (by decide) (hts _ (List.mem_cons_of_mem _ mGA_56)) (fun _ h9 => h9) rfl (by decide +kernel) rfl rfl (Nat.le_of_ble_eq_true rfl) dX6_blame_14 (fun H locs hP hD hS => ?_)
    have hP : va_P (dC, dI) vwCl [(h0, .inr (6, [.ref tp, .ref dr, .int p1, .int p2, .int q_token, .int q_start, .int q_stop]))] H := hP
    have hD : va_D A [(h0, .inr (6, [.ref tp, .ref dr, .int p1, .int p2, .int q_token, .int q_start, .int q_stop]))] := hD
    exact W.vret hx hb hr (fun t ht hW => ⟨⟨(), rfl, trivial, p1, p2, (gi_w gp1 (by decide)), (show 1 ≤ p1.toInt from by have qgq_faultKind := g_15.1; have rgq_faultKind := g_15.2; have qgp1 := gp1.1; have rgp1 := gp1.2; omega), (show q_faultKind.toInt ≤ p1.toInt from by have qgq_faultKind := g_15.1; have rgq_faultKind := g_15.2; have qgp1 := gp1.1; have rgp1 := gp1.2; omega), hF.trans hR9.symm, by rw [ht]; exact hP, hD⟩, hS.F ht⟩) hS.2.2 dX6_blame_17
theorem dX6_expect_0 : decode cX6_expect 0 = .ok (.iload_n 1, 1) := by decide +kernel
theorem dX6_expect_1 : decode cX6_expect 1 = .ok (.ifCond .ne 12, 3) := by decide +kernel
theorem dX6_expect_4 : decode cX6_expect 4 = .ok (.aload_n 0, 1) := by decide +kernel
theorem dX6_expect_5 : decode cX6_expect 5 = .ok (.iload_n 2, 1) := by decide +kernel
theorem dX6_expect_6 : decode cX6_expect 6 = .ok (.aload_n 0, 1) := by decide +kernel
theorem dX6_expect_7 : decode cX6_expect 7 = .ok (.getfield 35, 3) := by decide +kernel
theorem dX6_expect_10 : decode cX6_expect 10 = .ok (.invokevirtual 85, 3) := by decide +kernel
theorem dX6_expect_13 : decode cX6_expect 13 = .ok (.return_, 1) := by decide +kernel
noncomputable def bfX6_expect_13 (q_faultKind : Int32) (q_faultPlace : Int32) (q_start : Int32) (p1 : Int32) (p2 : Int32) (w0_2 : Int32) (w0_3 : Int32) : Int32 × Int32 := (w0_2, w0_3)
noncomputable def fX6_expect (q_faultKind : Int32) (q_faultPlace : Int32) (q_start : Int32) (p1 : Int32) (p2 : Int32) : Int32 × Int32 := if p1 = (0 : Int32) then (cal (fun o1 => bfX6_expect_13 q_faultKind q_faultPlace q_start p1 p2 o1.1 o1.2) (fX6_blame q_faultKind q_faultPlace p2 q_start)) else (bfX6_expect_13 q_faultKind q_faultPlace q_start p1 p2 q_faultKind q_faultPlace)
set_option maxHeartbeats 4000000 in
set_option maxRecDepth 100000 in
theorem sX6_expect (l : Launch) (dC : Nat → ClassId) (dI : Nat → Nat → Nat) (sz : Nat) (h0 : Nat) (tp : Nat) (dr : Nat) (q_faultKind : Int32) (q_faultPlace : Int32) (q_token : Int32) (q_start : Int32) (q_stop : Int32) (p1 : Int32) (p2 : Int32) (gq_faultKind : gi q_faultKind 0 3) (gq_start : gi q_start 0 1600) (gq_stop : gi q_stop 0 1600) (gp1 : gi p1 0 1) (gp2 : gi p2 1 3) : Met l yX6_expect (.code yX6_expect cX6_expect 3 none :: wsGA) ({ frames := 1, cells := 0, slots := 0, locals := 22 }) (va_Pc [.ref h0, .int p1, .int p2] (fun U => U.heap.size = sz ∧ va_P (dC, dI) vwCl [(h0, .inr (6, [.ref tp, .ref dr, .int q_faultKind, .int q_faultPlace, .int q_token, .int q_start, .int q_stop]))] U.heap ∧ va_K (dC, dI) vwCl [] U ∧ va_D (fun _ => True) [(h0, .inr (6, [.ref tp, .ref dr, .int q_faultKind, .int q_faultPlace, .int q_token, .int q_start, .int q_stop]))] ∧ nzA U)) (va_Qv (fun (u : Unit) => True) (fun _ t => ∃ (w0_2 : Int32) (w0_3 : Int32), gi w0_2 0 3 ∧ q_faultKind.toInt ≤ w0_2.toInt ∧ (p1.toInt = 1 ∨ 1 ≤ w0_2.toInt) ∧ (w0_2, w0_3) = fX6_expect q_faultKind q_faultPlace q_start p1 p2 ∧ va_P (dC, dI) vwCl [(h0, .inr (6, [.ref tp, .ref dr, .int w0_2, .int w0_3, .int q_token, .int q_start, .int q_stop]))] t.heap ∧ va_D (va_A [(h0, .inr (6, [.ref tp, .ref dr, .int q_faultKind, .int q_faultPlace, .int q_token, .int q_start, .int q_stop]))] sz) [(h0, .inr (6, [.ref tp, .ref dr, .int w0_2, .int w0_3, .int q_token, .int q_start, .int q_stop]))]) (va_A [(h0, .inr (6, [.ref tp, .ref dr, .int q_faultKind, .int q_faultPlace, .int q_token, .int q_start, .int q_stop]))] sz)) 0 0 (va_A [(h0, .inr (6, [.ref tp, .ref dr, .int q_faultKind, .int q_faultPlace, .int q_token, .int q_start, .int q_stop]))] sz) := by
  refine Met.ofW (cc := cX6_expect) (maxL := 3) (ret := none) (by decide) rfl ?_
  intro p e s m args below meth c s₁ B hml hv
  obtain ⟨rfl, hsz, hP, hK, hD0, hz⟩ := hv
  have hx := B.exec
  have hb := B.bytes
  have hr := B.returns
  have hts := atoms_spec (ws := (.code yX6_expect cX6_expect 3 none :: wsGA)) B.pre
  have hown : s.vm.findClass RX6 = some m.cls := findClass_of_methodNamed B.named
  have hlocks := B.notSynchronized
  subst hsz
  have hD := hD0.self (sz := s.heap.size)
  generalize hAe : va_A [(h0, .inr (6, [.ref tp, .ref dr, .int q_faultKind, .int q_faultPlace, .int q_token, .int q_start, .int q_stop]))] s.heap.size = A at hD ⊢
  have hA : ∀ q : Nat, s.heap.size ≤ q → A q := fun q h => by rw [← hAe]; exact Or.inr h
  have hS : va_S A s.heap s.heap [] := va_S.rf
  have hl := lv_entry ([.ref h0, .int p1, .int p2]) (n := 3) (Nat.le_of_ble_eq_true rfl)
  rw [lg_entry_eq]
  generalize (lg_sl ([.ref h0, .int p1, .int p2]) ++ List.replicate (3 - (lg_sl ([.ref h0, .int p1, .int p2])).length) Slot.unset).toArray = ls at hl ⊢
  have hl : lv_has ls 3 [(0, .ref h0), (1, .int p1), (2, .int p2)] := hl
  obtain ⟨RES, hF⟩ : ∃ R9, fX6_expect q_faultKind q_faultPlace q_start p1 p2 = R9 := ⟨_, rfl⟩
  have hR9 := hF
  refine lv_iload_n hx hb dX6_expect_0 rfl (lv_at hl 1 rfl) ?_
  refine lv_if_ne (tgt := 13) hx hb dX6_expect_1 (by decide) (fun c_19 => ?_) (fun c_19 => ?_)
  · have hF := gf_neg c_19 hF
    have hc_20 : p1.toInt ≠ 0 := fun h9 => c_19 (Int32.toInt_inj.mp (by rw [show (0 : Int32).toInt = 0 from by decide]; exact h9))
    have g_21 : gi p1 1 1 := gi_ne_lo c_19 gp1 (gi_c 0 0 (by decide)) (by decide)
    exact W.vret hx hb hr (fun t ht hW => ⟨⟨(), rfl, trivial, q_faultKind, q_faultPlace, gq_faultKind, (show q_faultKind.toInt ≤ q_faultKind.toInt from by have qgq_faultKind := gq_faultKind.1; have rgq_faultKind := gq_faultKind.2; have qgp1 := g_21.1; have rgp1 := g_21.2; omega), (show (p1.toInt = 1 ∨ 1 ≤ q_faultKind.toInt) from by have qgq_faultKind := gq_faultKind.1; have rgq_faultKind := gq_faultKind.2; have qgp1 := g_21.1; have rgp1 := g_21.2; omega), hF.trans hR9.symm, by rw [ht]; exact hP, hD⟩, hS.F ht⟩) hS.2.2 dX6_expect_13
  · have hF := gf_pos c_19 hF
    have hc_22 : p1.toInt = 0 := by have h9 := congrArg Int32.toInt c_19; rw [show (0 : Int32).toInt = 0 from by decide] at h9; exact h9
    have g_23 : gi p1 0 0 := gi_eq c_19 (gi_c 0 0 (by decide))
    refine lv_aload_n hx hb dX6_expect_4 rfl (lv_at hl 0 rfl) ?_
    refine lv_iload_n hx hb dX6_expect_5 rfl (lv_at hl 2 rfl) ?_
    refine lv_aload_n hx hb dX6_expect_6 rfl (lv_at hl 0 rfl) ?_
    refine va_get (D := (dC, dI)) (ci := 6) (v := .int q_start) (C := RX6) (T := TX6) (N := 7) hx hb hts (fun w h => List.mem_cons_of_mem _ (jnGA_X6 w h)) hown hK hP 0 rfl rfl 5 (by decide) (hts _ (List.mem_cons_of_mem _ mGA_58)) (fun _ h9 => h9) rfl dX6_expect_7 ?_
    have hPc := hP.sub (ws' := [(h0, .inr (6, [.ref tp, .ref dr, .int q_faultKind, .int q_faultPlace, .int q_token, .int q_start, .int q_stop]))]) [0] rfl
    have hKc := hK.sub (tys' := []) [] rfl
    have hDc := hD.sub (ws' := [(h0, .inr (6, [.ref tp, .ref dr, .int q_faultKind, .int q_faultPlace, .int q_token, .int q_start, .int q_stop]))]) [0] (by decide) rfl
    have hFc := va_free (wc := [(h0, .inr (6, [.ref tp, .ref dr, .int q_faultKind, .int q_faultPlace, .int q_token, .int q_start, .int q_stop]))]) hD hS hA [0] rfl
    refine va_callv (va_runV (As := [.int p2, .int q_start]) (rest := []) ⟨hx, hb, hml, hown, hts⟩ (sX6_blame l dC dI s.heap.size h0 tp dr q_faultKind q_faultPlace q_token q_start q_stop p2 q_start gq_faultKind gq_start gq_stop gp2) (cwV 2 hts (gz_gV mGA_254 mGA_255 mGA_256 mGA_9 mGA_257 goodGA) rfl rfl rfl (by decide +kernel) ⟨Nat.le_of_ble_eq_true rfl, Nat.le_of_ble_eq_true rfl⟩) ⟨fun a U g mk q => by obtain ⟨q0, q1, qP, qK, qD, qZ⟩ := q; exact ⟨q0, q1, qP, va_K.moved (u := U) (U := U.calling g mk a) (Vm.Alike.refl U.vm) qK, qD, nzA_same (u := U) (U := U.calling g mk a) rfl qZ⟩, va_recv hKc hPc (ci := 6) (q0 := 0) rfl rfl, fun U hU hW => ⟨rfl, by rw [hU], by rw [hU]; exact hPc, va_K.moved hW.alike hKc, hDc.weaken (fun _ _ _ _ => trivial), nzA_warm hW hz⟩⟩ rfl rfl hl.1 rfl (lv_room (Nat.le_of_ble_eq_true rfl)) dX6_expect_10 ⟨Nat.zero_le _, Nat.zero_le _⟩) hS (fun q _ h => hFc q h) hFc (fun u t H1 locs ht hvm hw hB hz1 hk1 hS => ?_)
    obtain ⟨y_25, y_26, gy_25, hpr0_r_24, hpr1_r_24, hE, hP1, hD1⟩ := hB
    rw [ht] at hP1
    obtain ⟨hP, hD⟩ := va_join (wr := []) (w1 := [(h0, .inr (6, [.ref tp, .ref dr, .int y_25, .int y_26, .int q_token, .int q_start, .int q_stop]))]) hP hD [0] [] rfl rfl (by decide) (by decide) hk1 hFc hP1 hD1
    have hpr0_r_24 : 1 ≤ y_25.toInt := hpr0_r_24
    have g_27 : gi y_25 1 3 := ⟨by omega, gy_25.2⟩
    have hpr1_r_24 : q_faultKind.toInt ≤ y_25.toInt := hpr1_r_24
    have hP := hP.sub (ws' := [(h0, .inr (6, [.ref tp, .ref dr, .int y_25, .int y_26, .int q_token, .int q_start, .int q_stop]))]) [0] rfl
    have hD := hD.sub (ws' := [(h0, .inr (6, [.ref tp, .ref dr, .int y_25, .int y_26, .int q_token, .int q_start, .int q_stop]))]) [0] (by decide) rfl
    have hF := gf_call (a := (y_25, y_26)) hE hF
    generalize H1 = H at hP hS ⊢
    exact W.vret hx hb hr (fun t ht hW => ⟨⟨(), rfl, trivial, y_25, y_26, (gi_w g_27 (by decide)), hpr1_r_24, (show (p1.toInt = 1 ∨ 1 ≤ y_25.toInt) from by have qgy_25 := g_27.1; have rgy_25 := g_27.2; have qgq_faultKind := gq_faultKind.1; have rgq_faultKind := gq_faultKind.2; have qgp1 := g_23.1; have rgp1 := g_23.2; omega), hF.trans hR9.symm, by rw [ht]; exact hP, hD⟩, hS.F ht⟩) hS.2.2 dX6_expect_13
theorem dX6_passHead_0 : decode cX6_passHead 0 = .ok (.aload_n 0, 1) := by decide +kernel
theorem dX6_passHead_1 : decode cX6_passHead 1 = .ok (.iload_n 1, 1) := by decide +kernel
theorem dX6_passHead_2 : decode cX6_passHead 2 = .ok (.iconst 3, 1) := by decide +kernel
theorem dX6_passHead_3 : decode cX6_passHead 3 = .ok (.invokevirtual 166, 3) := by decide +kernel
theorem dX6_passHead_6 : decode cX6_passHead 6 = .ok (.aload_n 0, 1) := by decide +kernel
theorem dX6_passHead_7 : decode cX6_passHead 7 = .ok (.invokevirtual 44, 3) := by decide +kernel
theorem dX6_passHead_10 : decode cX6_passHead 10 = .ok (.return_, 1) := by decide +kernel
noncomputable def fX6_passHead (q_faultKind : Int32) (q_faultPlace : Int32) (q_token : Int32) (q_start : Int32) (q_stop : Int32) (b_length : Int32) (fbt : Nat → Int32) (p1 : Int32) : Int32 × Int32 × Int32 × Int32 × Int32 := cal (fun o1 => cal (fun o2 => (o1.1, o1.2, o2.1, o2.2.1, o2.2.2)) (fX6_step o1.1 q_token q_start q_stop b_length fbt)) (fX6_expect q_faultKind q_faultPlace q_start p1 (3 : Int32))
set_option maxHeartbeats 4000000 in
set_option maxRecDepth 100000 in
theorem sX6_passHead (l : Launch) (dC : Nat → ClassId) (dI : Nat → Nat → Nat) (sz : Nat) (h0 : Nat) (tp : Nat) (bt : Nat) (dr : Nat) (q_faultKind : Int32) (q_faultPlace : Int32) (q_token : Int32) (q_start : Int32) (q_stop : Int32) (b_length : Int32) (kbt : ClassId) (fbt : Nat → Int32) (p1 : Int32) (gq_faultKind : gi q_faultKind 0 3) (gq_start : gi q_start 0 1600) (gq_stop : gi q_stop 0 1600) (gb_length : gi b_length 0 1600) (gp1 : gi p1 0 1) : Met l yX6_passHead (.code yX6_passHead cX6_passHead 2 none :: wsGA) ({ frames := 2, cells := 0, slots := 0, locals := 44 }) (va_Pc [.ref h0, .int p1] (fun U => U.heap.size = sz ∧ va_P (dC, dI) vwCl [(h0, .inr (6, [.ref tp, .ref dr, .int q_faultKind, .int q_faultPlace, .int q_token, .int q_start, .int q_stop])), (tp, .inr (10, [.ref bt, .int b_length])), (bt, .inl (kbt, 1600, .inl fbt))] U.heap ∧ va_K (dC, dI) vwCl [(kbt, .byte)] U ∧ va_D (fun _ => True) [(h0, .inr (6, [.ref tp, .ref dr, .int q_faultKind, .int q_faultPlace, .int q_token, .int q_start, .int q_stop])), (tp, .inr (10, [.ref bt, .int b_length])), (bt, .inl (kbt, 1600, .inl fbt))] ∧ nzA U)) (va_Qv (fun (u : Unit) => True) (fun _ t => ∃ (w0_2 : Int32) (w0_3 : Int32) (w0_4 : Int32) (w0_5 : Int32) (w0_6 : Int32), gi w0_2 0 3 ∧ gi w0_5 0 1600 ∧ gi w0_6 0 1600 ∧ q_faultKind.toInt ≤ w0_2.toInt ∧ (p1.toInt = 1 ∨ 1 ≤ w0_2.toInt) ∧ (w0_2, w0_3, w0_4, w0_5, w0_6) = fX6_passHead q_faultKind q_faultPlace q_token q_start q_stop b_length fbt p1 ∧ va_P (dC, dI) vwCl [(h0, .inr (6, [.ref tp, .ref dr, .int w0_2, .int w0_3, .int w0_4, .int w0_5, .int w0_6])), (tp, .inr (10, [.ref bt, .int b_length])), (bt, .inl (kbt, 1600, .inl fbt))] t.heap ∧ va_D (va_A [(h0, .inr (6, [.ref tp, .ref dr, .int q_faultKind, .int q_faultPlace, .int q_token, .int q_start, .int q_stop])), (tp, .inr (10, [.ref bt, .int b_length])), (bt, .inl (kbt, 1600, .inl fbt))] sz) [(h0, .inr (6, [.ref tp, .ref dr, .int w0_2, .int w0_3, .int w0_4, .int w0_5, .int w0_6])), (tp, .inr (10, [.ref bt, .int b_length])), (bt, .inl (kbt, 1600, .inl fbt))]) (va_A [(h0, .inr (6, [.ref tp, .ref dr, .int q_faultKind, .int q_faultPlace, .int q_token, .int q_start, .int q_stop])), (tp, .inr (10, [.ref bt, .int b_length])), (bt, .inl (kbt, 1600, .inl fbt))] sz)) 0 0 (va_A [(h0, .inr (6, [.ref tp, .ref dr, .int q_faultKind, .int q_faultPlace, .int q_token, .int q_start, .int q_stop])), (tp, .inr (10, [.ref bt, .int b_length])), (bt, .inl (kbt, 1600, .inl fbt))] sz) := by
  refine Met.ofW (cc := cX6_passHead) (maxL := 2) (ret := none) (by decide) rfl ?_
  intro p e s m args below meth c s₁ B hml hv
  obtain ⟨rfl, hsz, hP, hK, hD0, hz⟩ := hv
  have hx := B.exec
  have hb := B.bytes
  have hr := B.returns
  have hts := atoms_spec (ws := (.code yX6_passHead cX6_passHead 2 none :: wsGA)) B.pre
  have hown : s.vm.findClass RX6 = some m.cls := findClass_of_methodNamed B.named
  have hlocks := B.notSynchronized
  subst hsz
  have hD := hD0.self (sz := s.heap.size)
  generalize hAe : va_A [(h0, .inr (6, [.ref tp, .ref dr, .int q_faultKind, .int q_faultPlace, .int q_token, .int q_start, .int q_stop])), (tp, .inr (10, [.ref bt, .int b_length])), (bt, .inl (kbt, 1600, .inl fbt))] s.heap.size = A at hD ⊢
  have hA : ∀ q : Nat, s.heap.size ≤ q → A q := fun q h => by rw [← hAe]; exact Or.inr h
  have hS : va_S A s.heap s.heap [] := va_S.rf
  have hl := lv_entry ([.ref h0, .int p1]) (n := 2) (Nat.le_of_ble_eq_true rfl)
  rw [lg_entry_eq]
  generalize (lg_sl ([.ref h0, .int p1]) ++ List.replicate (2 - (lg_sl ([.ref h0, .int p1])).length) Slot.unset).toArray = ls at hl ⊢
  have hl : lv_has ls 2 [(0, .ref h0), (1, .int p1)] := hl
  obtain ⟨RES, hF⟩ : ∃ R9, fX6_passHead q_faultKind q_faultPlace q_token q_start q_stop b_length fbt p1 = R9 := ⟨_, rfl⟩
  have hR9 := hF
  refine lv_aload_n hx hb dX6_passHead_0 rfl (lv_at hl 0 rfl) ?_
  refine lv_iload_n hx hb dX6_passHead_1 rfl (lv_at hl 1 rfl) ?_
  refine lv_iconst (v := 3) hx hb dX6_passHead_2 (by decide) ?_
  have hPc := hP.sub (ws' := [(h0, .inr (6, [.ref tp, .ref dr, .int q_faultKind, .int q_faultPlace, .int q_token, .int q_start, .int q_stop]))]) [0] rfl
  have hKc := hK.sub (tys' := []) [] rfl
  have hDc := hD.sub (ws' := [(h0, .inr (6, [.ref tp, .ref dr, .int q_faultKind, .int q_faultPlace, .int q_token, .int q_start, .int q_stop]))]) [0] (by decide) rfl
  have hFc := va_free (wc := [(h0, .inr (6, [.ref tp, .ref dr, .int q_faultKind, .int q_faultPlace, .int q_token, .int q_start, .int q_stop]))]) hD hS hA [0] rfl
  refine va_callv (va_runV (As := [.int p1, .int 3]) (rest := []) ⟨hx, hb, hml, hown, hts⟩ (sX6_expect l dC dI s.heap.size h0 tp dr q_faultKind q_faultPlace q_token q_start q_stop p1 3 gq_faultKind gq_start gq_stop gp1 (gi_w (gi_c 3 3 (by decide)) (by decide))) (cwV 2 hts (gz_gV mGA_250 mGA_251 mGA_252 mGA_9 mGA_253 goodGA) rfl rfl rfl (by decide +kernel) ⟨Nat.le_of_ble_eq_true rfl, Nat.le_of_ble_eq_true rfl⟩) ⟨fun a U g mk q => by obtain ⟨q0, q1, qP, qK, qD, qZ⟩ := q; exact ⟨q0, q1, qP, va_K.moved (u := U) (U := U.calling g mk a) (Vm.Alike.refl U.vm) qK, qD, nzA_same (u := U) (U := U.calling g mk a) rfl qZ⟩, va_recv hKc hPc (ci := 6) (q0 := 0) rfl rfl, fun U hU hW => ⟨rfl, by rw [hU], by rw [hU]; exact hPc, va_K.moved hW.alike hKc, hDc.weaken (fun _ _ _ _ => trivial), nzA_warm hW hz⟩⟩ rfl rfl hl.1 rfl (lv_room (Nat.le_of_ble_eq_true rfl)) dX6_passHead_3 ⟨Nat.zero_le _, Nat.zero_le _⟩) hS (fun q _ h => hFc q h) hFc (fun u t H1 locs ht hvm hw hB hz1 hk1 hS => ?_)
  obtain ⟨y_16, y_17, gy_16, hpr0_r_15, hpr1_r_15, hE, hP1, hD1⟩ := hB
  rw [ht] at hP1
  obtain ⟨hP, hD⟩ := va_join (wr := [(tp, .inr (10, [.ref bt, .int b_length])), (bt, .inl (kbt, 1600, .inl fbt))]) (w1 := [(h0, .inr (6, [.ref tp, .ref dr, .int y_16, .int y_17, .int q_token, .int q_start, .int q_stop]))]) hP hD [0] [1, 2] rfl rfl (by decide) (by decide) hk1 hFc hP1 hD1
  have hpr0_r_15 : q_faultKind.toInt ≤ y_16.toInt := hpr0_r_15
  have hpr1_r_15 : Hid ((p1.toInt = 1 ∨ 1 ≤ y_16.toInt)) := hpr1_r_15
  have hP := hP.sub (ws' := [(h0, .inr (6, [.ref tp, .ref dr, .int y_16, .int y_17, .int q_token, .int q_start, .int q_stop])), (tp, .inr (10, [.ref bt, .int b_length])), (bt, .inl (kbt, 1600, .inl fbt))]) [2, 0, 1] rfl
  have hD := hD.sub (ws' := [(h0, .inr (6, [.ref tp, .ref dr, .int y_16, .int y_17, .int q_token, .int q_start, .int q_stop])), (tp, .inr (10, [.ref bt, .int b_length])), (bt, .inl (kbt, 1600, .inl fbt))]) [2, 0, 1] (by decide) rfl
  have hF := gf_call (a := (y_16, y_17)) hE hF
  generalize H1 = H at hP hS ⊢
  refine lv_aload_n hx hb dX6_passHead_6 rfl (lv_at hl 0 rfl) ?_
  have hPc := hP.sub (ws' := [(h0, .inr (6, [.ref tp, .ref dr, .int y_16, .int y_17, .int q_token, .int q_start, .int q_stop])), (tp, .inr (10, [.ref bt, .int b_length])), (bt, .inl (kbt, 1600, .inl fbt))]) [0, 1, 2] rfl
  have hKc := hK.sub (tys' := [(kbt, .byte)]) [0] rfl
  have hDc := hD.sub (ws' := [(h0, .inr (6, [.ref tp, .ref dr, .int y_16, .int y_17, .int q_token, .int q_start, .int q_stop])), (tp, .inr (10, [.ref bt, .int b_length])), (bt, .inl (kbt, 1600, .inl fbt))]) [0, 1, 2] (by decide) rfl
  have hFc := va_free (wc := [(h0, .inr (6, [.ref tp, .ref dr, .int y_16, .int y_17, .int q_token, .int q_start, .int q_stop])), (tp, .inr (10, [.ref bt, .int b_length])), (bt, .inl (kbt, 1600, .inl fbt))]) hD hS hA [0, 1, 2] rfl
  refine va_callv (va_runV (As := []) (rest := []) ⟨hx, hb, hml, hown, hts⟩ (sX6_step l dC dI H.size h0 tp bt dr y_16 y_17 q_token q_start q_stop b_length kbt fbt gy_16 gq_start gq_stop gb_length) (cwV 0 hts (gz_gV mGA_162 mGA_163 mGA_164 mGA_9 mGA_165 goodGA) rfl rfl rfl (by decide +kernel) ⟨Nat.le_of_ble_eq_true rfl, Nat.le_of_ble_eq_true rfl⟩) ⟨fun a U g mk q => by obtain ⟨q0, q1, qP, qK, qD, qZ⟩ := q; exact ⟨q0, q1, qP, va_K.moved (u := U) (U := U.calling g mk a) (Vm.Alike.refl U.vm) qK, qD, nzA_same (u := U) (U := U.calling g mk a) rfl qZ⟩, va_recv hKc hPc (ci := 6) (q0 := 0) rfl rfl, fun U hU hW => ⟨rfl, by rw [hU], by rw [hU]; exact hPc, va_K.moved hW.alike hKc, hDc.weaken (fun _ _ _ _ => trivial), nzA_warm hW hz⟩⟩ rfl rfl hl.1 rfl (lv_room (Nat.le_of_ble_eq_true rfl)) dX6_passHead_7 ⟨Nat.zero_le _, Nat.zero_le _⟩) hS (fun q _ h => hFc q h) hFc (fun u t H1 locs ht hvm hw hB hz1 hk1 hS => ?_)
  obtain ⟨y_19, y_20, y_21, gy_20, gy_21, hE, hP1, hD1⟩ := hB
  rw [ht] at hP1
  obtain ⟨hP, hD⟩ := va_join (wr := []) (w1 := [(h0, .inr (6, [.ref tp, .ref dr, .int y_16, .int y_17, .int y_19, .int y_20, .int y_21])), (tp, .inr (10, [.ref bt, .int b_length])), (bt, .inl (kbt, 1600, .inl fbt))]) hP hD [0, 1, 2] [] rfl rfl (by decide) (by decide) hk1 hFc hP1 hD1
  have hP := hP.sub (ws' := [(h0, .inr (6, [.ref tp, .ref dr, .int y_16, .int y_17, .int y_19, .int y_20, .int y_21])), (tp, .inr (10, [.ref bt, .int b_length])), (bt, .inl (kbt, 1600, .inl fbt))]) [0, 1, 2] rfl
  have hD := hD.sub (ws' := [(h0, .inr (6, [.ref tp, .ref dr, .int y_16, .int y_17, .int y_19, .int y_20, .int y_21])), (tp, .inr (10, [.ref bt, .int b_length])), (bt, .inl (kbt, 1600, .inl fbt))]) [0, 1, 2] (by decide) rfl
  have hF := gf_call (a := (y_19, y_20, y_21)) hE hF
  generalize H1 = H at hP hS ⊢
  exact W.vret hx hb hr (fun t ht hW => ⟨⟨(), rfl, trivial, y_16, y_17, y_19, y_20, y_21, gy_16, gy_20, gy_21, hpr0_r_15, (Hid.un hpr1_r_15), hF.trans hR9.symm, by rw [ht]; exact hP, hD⟩, hS.F ht⟩) hS.2.2 dX6_passHead_10
theorem dX6_passSign_0 : decode cX6_passSign 0 = .ok (.aload_n 0, 1) := by decide +kernel
theorem dX6_passSign_1 : decode cX6_passSign 1 = .ok (.aload_n 0, 1) := by decide +kernel
theorem dX6_passSign_2 : decode cX6_passSign 2 = .ok (.getfield 32, 3) := by decide +kernel
theorem dX6_passSign_5 : decode cX6_passSign 5 = .ok (.iconst 4, 1) := by decide +kernel
theorem dX6_passSign_6 : decode cX6_passSign 6 = .ok (.if_icmp .ne 7, 3) := by decide +kernel
theorem dX6_passSign_9 : decode cX6_passSign 9 = .ok (.iconst 1, 1) := by decide +kernel
theorem dX6_passSign_10 : decode cX6_passSign 10 = .ok (.goto 4, 3) := by decide +kernel
theorem dX6_passSign_13 : decode cX6_passSign 13 = .ok (.iconst 0, 1) := by decide +kernel
theorem dX6_passSign_14 : decode cX6_passSign 14 = .ok (.iconst 1, 1) := by decide +kernel
theorem dX6_passSign_15 : decode cX6_passSign 15 = .ok (.invokevirtual 166, 3) := by decide +kernel
theorem dX6_passSign_18 : decode cX6_passSign 18 = .ok (.aload_n 0, 1) := by decide +kernel
theorem dX6_passSign_19 : decode cX6_passSign 19 = .ok (.invokevirtual 44, 3) := by decide +kernel
theorem dX6_passSign_22 : decode cX6_passSign 22 = .ok (.return_, 1) := by decide +kernel
noncomputable def bfX6_passSign_14 (q_faultKind : Int32) (q_faultPlace : Int32) (q_token : Int32) (q_start : Int32) (q_stop : Int32) (b_length : Int32) (fbt : Nat → Int32) (s0 : Int32) (w0_2 : Int32) (w0_3 : Int32) (w0_4 : Int32) (w0_5 : Int32) (w0_6 : Int32) : Int32 × Int32 × Int32 × Int32 × Int32 := cal (fun o1 => cal (fun o2 => (o1.1, o1.2, o2.1, o2.2.1, o2.2.2)) (fX6_step o1.1 w0_4 w0_5 w0_6 b_length fbt)) (fX6_expect w0_2 w0_3 w0_5 s0 (1 : Int32))
noncomputable def fX6_passSign (q_faultKind : Int32) (q_faultPlace : Int32) (q_token : Int32) (q_start : Int32) (q_stop : Int32) (b_length : Int32) (fbt : Nat → Int32) : Int32 × Int32 × Int32 × Int32 × Int32 := if q_token = (4 : Int32) then (bfX6_passSign_14 q_faultKind q_faultPlace q_token q_start q_stop b_length fbt (1 : Int32) q_faultKind q_faultPlace q_token q_start q_stop) else (bfX6_passSign_14 q_faultKind q_faultPlace q_token q_start q_stop b_length fbt (0 : Int32) q_faultKind q_faultPlace q_token q_start q_stop)
set_option maxHeartbeats 4000000 in
set_option maxRecDepth 100000 in
theorem sX6_passSign (l : Launch) (dC : Nat → ClassId) (dI : Nat → Nat → Nat) (sz : Nat) (h0 : Nat) (tp : Nat) (bt : Nat) (dr : Nat) (q_faultKind : Int32) (q_faultPlace : Int32) (q_token : Int32) (q_start : Int32) (q_stop : Int32) (b_length : Int32) (kbt : ClassId) (fbt : Nat → Int32) (gq_faultKind : gi q_faultKind 0 3) (gq_start : gi q_start 0 1600) (gq_stop : gi q_stop 0 1600) (gb_length : gi b_length 0 1600) : Met l yX6_passSign (.code yX6_passSign cX6_passSign 1 none :: wsGA) ({ frames := 2, cells := 0, slots := 0, locals := 44 }) (va_Pc [.ref h0] (fun U => U.heap.size = sz ∧ va_P (dC, dI) vwCl [(h0, .inr (6, [.ref tp, .ref dr, .int q_faultKind, .int q_faultPlace, .int q_token, .int q_start, .int q_stop])), (tp, .inr (10, [.ref bt, .int b_length])), (bt, .inl (kbt, 1600, .inl fbt))] U.heap ∧ va_K (dC, dI) vwCl [(kbt, .byte)] U ∧ va_D (fun _ => True) [(h0, .inr (6, [.ref tp, .ref dr, .int q_faultKind, .int q_faultPlace, .int q_token, .int q_start, .int q_stop])), (tp, .inr (10, [.ref bt, .int b_length])), (bt, .inl (kbt, 1600, .inl fbt))] ∧ nzA U)) (va_Qv (fun (u : Unit) => True) (fun _ t => ∃ (w0_2 : Int32) (w0_3 : Int32) (w0_4 : Int32) (w0_5 : Int32) (w0_6 : Int32), gi w0_2 0 3 ∧ gi w0_5 0 1600 ∧ gi w0_6 0 1600 ∧ q_faultKind.toInt ≤ w0_2.toInt ∧ (w0_2, w0_3, w0_4, w0_5, w0_6) = fX6_passSign q_faultKind q_faultPlace q_token q_start q_stop b_length fbt ∧ va_P (dC, dI) vwCl [(h0, .inr (6, [.ref tp, .ref dr, .int w0_2, .int w0_3, .int w0_4, .int w0_5, .int w0_6])), (tp, .inr (10, [.ref bt, .int b_length])), (bt, .inl (kbt, 1600, .inl fbt))] t.heap ∧ va_D (va_A [(h0, .inr (6, [.ref tp, .ref dr, .int q_faultKind, .int q_faultPlace, .int q_token, .int q_start, .int q_stop])), (tp, .inr (10, [.ref bt, .int b_length])), (bt, .inl (kbt, 1600, .inl fbt))] sz) [(h0, .inr (6, [.ref tp, .ref dr, .int w0_2, .int w0_3, .int w0_4, .int w0_5, .int w0_6])), (tp, .inr (10, [.ref bt, .int b_length])), (bt, .inl (kbt, 1600, .inl fbt))]) (va_A [(h0, .inr (6, [.ref tp, .ref dr, .int q_faultKind, .int q_faultPlace, .int q_token, .int q_start, .int q_stop])), (tp, .inr (10, [.ref bt, .int b_length])), (bt, .inl (kbt, 1600, .inl fbt))] sz)) 0 0 (va_A [(h0, .inr (6, [.ref tp, .ref dr, .int q_faultKind, .int q_faultPlace, .int q_token, .int q_start, .int q_stop])), (tp, .inr (10, [.ref bt, .int b_length])), (bt, .inl (kbt, 1600, .inl fbt))] sz) := by
  refine Met.ofW (cc := cX6_passSign) (maxL := 1) (ret := none) (by decide) rfl ?_
  intro p e s m args below meth c s₁ B hml hv
  obtain ⟨rfl, hsz, hP, hK, hD0, hz⟩ := hv
  have hx := B.exec
  have hb := B.bytes
  have hr := B.returns
  have hts := atoms_spec (ws := (.code yX6_passSign cX6_passSign 1 none :: wsGA)) B.pre
  have hown : s.vm.findClass RX6 = some m.cls := findClass_of_methodNamed B.named
  have hlocks := B.notSynchronized
  subst hsz
  have hD := hD0.self (sz := s.heap.size)
  generalize hAe : va_A [(h0, .inr (6, [.ref tp, .ref dr, .int q_faultKind, .int q_faultPlace, .int q_token, .int q_start, .int q_stop])), (tp, .inr (10, [.ref bt, .int b_length])), (bt, .inl (kbt, 1600, .inl fbt))] s.heap.size = A at hD ⊢
  have hA : ∀ q : Nat, s.heap.size ≤ q → A q := fun q h => by rw [← hAe]; exact Or.inr h
  have hS : va_S A s.heap s.heap [] := va_S.rf
  have hl := lv_entry ([.ref h0]) (n := 1) (Nat.le_of_ble_eq_true rfl)
  rw [lg_entry_eq]
  generalize (lg_sl ([.ref h0]) ++ List.replicate (1 - (lg_sl ([.ref h0])).length) Slot.unset).toArray = ls at hl ⊢
  have hl : lv_has ls 1 [(0, .ref h0)] := hl
  obtain ⟨RES, hF⟩ : ∃ R9, fX6_passSign q_faultKind q_faultPlace q_token q_start q_stop b_length fbt = R9 := ⟨_, rfl⟩
  have hR9 := hF
  refine lv_aload_n hx hb dX6_passSign_0 rfl (lv_at hl 0 rfl) ?_
  refine lv_aload_n hx hb dX6_passSign_1 rfl (lv_at hl 0 rfl) ?_
  refine va_get (D := (dC, dI)) (ci := 6) (v := .int q_token) (C := RX6) (T := TX6) (N := 7) hx hb hts (fun w h => List.mem_cons_of_mem _ (jnGA_X6 w h)) hown hK hP 0 rfl rfl 4 (by decide) (hts _ (List.mem_cons_of_mem _ mGA_57)) (fun _ h9 => h9) rfl dX6_passSign_2 ?_
  refine lv_iconst (v := 4) hx hb dX6_passSign_5 (by decide) ?_
  refine lv_icmp_ne (tgt := 13) hx hb dX6_passSign_6 (by decide) (fun c_41 => ?_) (fun c_41 => ?_)
  · have hF := gf_neg c_41 hF
    have hc_42 : q_token.toInt ≠ 4 := fun h9 => c_41 (Int32.toInt_inj.mp (by rw [show (4 : Int32).toInt = 4 from by decide]; exact h9))
    refine lv_iconst (v := 0) hx hb dX6_passSign_13 (by decide) ?_
    refine lv_iconst (v := 1) hx hb dX6_passSign_14 (by decide) ?_
    have hPc := hP.sub (ws' := [(h0, .inr (6, [.ref tp, .ref dr, .int q_faultKind, .int q_faultPlace, .int q_token, .int q_start, .int q_stop]))]) [0] rfl
    have hKc := hK.sub (tys' := []) [] rfl
    have hDc := hD.sub (ws' := [(h0, .inr (6, [.ref tp, .ref dr, .int q_faultKind, .int q_faultPlace, .int q_token, .int q_start, .int q_stop]))]) [0] (by decide) rfl
    have hFc := va_free (wc := [(h0, .inr (6, [.ref tp, .ref dr, .int q_faultKind, .int q_faultPlace, .int q_token, .int q_start, .int q_stop]))]) hD hS hA [0] rfl
    refine va_callv (va_runV (As := [.int 0, .int 1]) (rest := []) ⟨hx, hb, hml, hown, hts⟩ (sX6_expect l dC dI s.heap.size h0 tp dr q_faultKind q_faultPlace q_token q_start q_stop 0 1 gq_faultKind gq_start gq_stop (gi_w (gi_c 0 0 (by decide)) (by decide)) (gi_w (gi_c 1 1 (by decide)) (by decide))) (cwV 2 hts (gz_gV mGA_250 mGA_251 mGA_252 mGA_9 mGA_253 goodGA) rfl rfl rfl (by decide +kernel) ⟨Nat.le_of_ble_eq_true rfl, Nat.le_of_ble_eq_true rfl⟩) ⟨fun a U g mk q => by obtain ⟨q0, q1, qP, qK, qD, qZ⟩ := q; exact ⟨q0, q1, qP, va_K.moved (u := U) (U := U.calling g mk a) (Vm.Alike.refl U.vm) qK, qD, nzA_same (u := U) (U := U.calling g mk a) rfl qZ⟩, va_recv hKc hPc (ci := 6) (q0 := 0) rfl rfl, fun U hU hW => ⟨rfl, by rw [hU], by rw [hU]; exact hPc, va_K.moved hW.alike hKc, hDc.weaken (fun _ _ _ _ => trivial), nzA_warm hW hz⟩⟩ rfl rfl hl.1 rfl (lv_room (Nat.le_of_ble_eq_true rfl)) dX6_passSign_15 ⟨Nat.zero_le _, Nat.zero_le _⟩) hS (fun q _ h => hFc q h) hFc (fun u t H1 locs ht hvm hw hB hz1 hk1 hS => ?_)
    obtain ⟨y_44, y_45, gy_44, hpr0_r_43, hpr1_r_43, hE, hP1, hD1⟩ := hB
    rw [ht] at hP1
    obtain ⟨hP, hD⟩ := va_join (wr := [(tp, .inr (10, [.ref bt, .int b_length])), (bt, .inl (kbt, 1600, .inl fbt))]) (w1 := [(h0, .inr (6, [.ref tp, .ref dr, .int y_44, .int y_45, .int q_token, .int q_start, .int q_stop]))]) hP hD [0] [1, 2] rfl rfl (by decide) (by decide) hk1 hFc hP1 hD1
    have hpr0_r_43 : q_faultKind.toInt ≤ y_44.toInt := hpr0_r_43
    have hpr1_r_43 : Hid (((0 : Int) = 1 ∨ 1 ≤ y_44.toInt)) := by have h9 : ((0 : Int32).toInt = 1 ∨ 1 ≤ y_44.toInt) := hpr1_r_43; rw [show (0 : Int32).toInt = 0 from by decide] at h9; exact h9
    have hf_46 : 1 ≤ y_44.toInt := Hid.resL hpr1_r_43 (by omega)
    have g_47 : gi y_44 1 3 := ⟨by omega, gy_44.2⟩
    have hP := hP.sub (ws' := [(h0, .inr (6, [.ref tp, .ref dr, .int y_44, .int y_45, .int q_token, .int q_start, .int q_stop])), (tp, .inr (10, [.ref bt, .int b_length])), (bt, .inl (kbt, 1600, .inl fbt))]) [2, 0, 1] rfl
    have hD := hD.sub (ws' := [(h0, .inr (6, [.ref tp, .ref dr, .int y_44, .int y_45, .int q_token, .int q_start, .int q_stop])), (tp, .inr (10, [.ref bt, .int b_length])), (bt, .inl (kbt, 1600, .inl fbt))]) [2, 0, 1] (by decide) rfl
    have hF := gf_call (a := (y_44, y_45)) hE hF
    generalize H1 = H at hP hS ⊢
    refine lv_aload_n hx hb dX6_passSign_18 rfl (lv_at hl 0 rfl) ?_
    have hPc := hP.sub (ws' := [(h0, .inr (6, [.ref tp, .ref dr, .int y_44, .int y_45, .int q_token, .int q_start, .int q_stop])), (tp, .inr (10, [.ref bt, .int b_length])), (bt, .inl (kbt, 1600, .inl fbt))]) [0, 1, 2] rfl
    have hKc := hK.sub (tys' := [(kbt, .byte)]) [0] rfl
    have hDc := hD.sub (ws' := [(h0, .inr (6, [.ref tp, .ref dr, .int y_44, .int y_45, .int q_token, .int q_start, .int q_stop])), (tp, .inr (10, [.ref bt, .int b_length])), (bt, .inl (kbt, 1600, .inl fbt))]) [0, 1, 2] (by decide) rfl
    have hFc := va_free (wc := [(h0, .inr (6, [.ref tp, .ref dr, .int y_44, .int y_45, .int q_token, .int q_start, .int q_stop])), (tp, .inr (10, [.ref bt, .int b_length])), (bt, .inl (kbt, 1600, .inl fbt))]) hD hS hA [0, 1, 2] rfl
    refine va_callv (va_runV (As := []) (rest := []) ⟨hx, hb, hml, hown, hts⟩ (sX6_step l dC dI H.size h0 tp bt dr y_44 y_45 q_token q_start q_stop b_length kbt fbt (gi_w g_47 (by decide)) gq_start gq_stop gb_length) (cwV 0 hts (gz_gV mGA_162 mGA_163 mGA_164 mGA_9 mGA_165 goodGA) rfl rfl rfl (by decide +kernel) ⟨Nat.le_of_ble_eq_true rfl, Nat.le_of_ble_eq_true rfl⟩) ⟨fun a U g mk q => by obtain ⟨q0, q1, qP, qK, qD, qZ⟩ := q; exact ⟨q0, q1, qP, va_K.moved (u := U) (U := U.calling g mk a) (Vm.Alike.refl U.vm) qK, qD, nzA_same (u := U) (U := U.calling g mk a) rfl qZ⟩, va_recv hKc hPc (ci := 6) (q0 := 0) rfl rfl, fun U hU hW => ⟨rfl, by rw [hU], by rw [hU]; exact hPc, va_K.moved hW.alike hKc, hDc.weaken (fun _ _ _ _ => trivial), nzA_warm hW hz⟩⟩ rfl rfl hl.1 rfl (lv_room (Nat.le_of_ble_eq_true rfl)) dX6_passSign_19 ⟨Nat.zero_le _, Nat.zero_le _⟩) hS (fun q _ h => hFc q h) hFc (fun u t H1 locs ht hvm hw hB hz1 hk1 hS => ?_)
    obtain ⟨y_49, y_50, y_51, gy_50, gy_51, hE, hP1, hD1⟩ := hB
    rw [ht] at hP1
    obtain ⟨hP, hD⟩ := va_join (wr := []) (w1 := [(h0, .inr (6, [.ref tp, .ref dr, .int y_44, .int y_45, .int y_49, .int y_50, .int y_51])), (tp, .inr (10, [.ref bt, .int b_length])), (bt, .inl (kbt, 1600, .inl fbt))]) hP hD [0, 1, 2] [] rfl rfl (by decide) (by decide) hk1 hFc hP1 hD1
    have hP := hP.sub (ws' := [(h0, .inr (6, [.ref tp, .ref dr, .int y_44, .int y_45, .int y_49, .int y_50, .int y_51])), (tp, .inr (10, [.ref bt, .int b_length])), (bt, .inl (kbt, 1600, .inl fbt))]) [0, 1, 2] rfl
    have hD := hD.sub (ws' := [(h0, .inr (6, [.ref tp, .ref dr, .int y_44, .int y_45, .int y_49, .int y_50, .int y_51])), (tp, .inr (10, [.ref bt, .int b_length])), (bt, .inl (kbt, 1600, .inl fbt))]) [0, 1, 2] (by decide) rfl
    have hF := gf_call (a := (y_49, y_50, y_51)) hE hF
    generalize H1 = H at hP hS ⊢
    exact W.vret hx hb hr (fun t ht hW => ⟨⟨(), rfl, trivial, y_44, y_45, y_49, y_50, y_51, (gi_w g_47 (by decide)), gy_50, gy_51, hpr0_r_43, hF.trans hR9.symm, by rw [ht]; exact hP, hD⟩, hS.F ht⟩) hS.2.2 dX6_passSign_22
  · have hF := gf_pos c_41 hF
    have hc_52 : q_token.toInt = 4 := by have h9 := congrArg Int32.toInt c_41; rw [show (4 : Int32).toInt = 4 from by decide] at h9; exact h9
    have g_53 : gi q_token 4 4 := gi_eq c_41 (gi_c 4 4 (by decide))
    refine lv_iconst (v := 1) hx hb dX6_passSign_9 (by decide) ?_
    refine lv_goto (tgt := 14) hx hb dX6_passSign_10 (by decide) ?_
    refine lv_iconst (v := 1) hx hb dX6_passSign_14 (by decide) ?_
    have hPc := hP.sub (ws' := [(h0, .inr (6, [.ref tp, .ref dr, .int q_faultKind, .int q_faultPlace, .int q_token, .int q_start, .int q_stop]))]) [0] rfl
    have hKc := hK.sub (tys' := []) [] rfl
    have hDc := hD.sub (ws' := [(h0, .inr (6, [.ref tp, .ref dr, .int q_faultKind, .int q_faultPlace, .int q_token, .int q_start, .int q_stop]))]) [0] (by decide) rfl
    have hFc := va_free (wc := [(h0, .inr (6, [.ref tp, .ref dr, .int q_faultKind, .int q_faultPlace, .int q_token, .int q_start, .int q_stop]))]) hD hS hA [0] rfl
    refine va_callv (va_runV (As := [.int 1, .int 1]) (rest := []) ⟨hx, hb, hml, hown, hts⟩ (sX6_expect l dC dI s.heap.size h0 tp dr q_faultKind q_faultPlace q_token q_start q_stop 1 1 gq_faultKind gq_start gq_stop (gi_w (gi_c 1 1 (by decide)) (by decide)) (gi_w (gi_c 1 1 (by decide)) (by decide))) (cwV 2 hts (gz_gV mGA_250 mGA_251 mGA_252 mGA_9 mGA_253 goodGA) rfl rfl rfl (by decide +kernel) ⟨Nat.le_of_ble_eq_true rfl, Nat.le_of_ble_eq_true rfl⟩) ⟨fun a U g mk q => by obtain ⟨q0, q1, qP, qK, qD, qZ⟩ := q; exact ⟨q0, q1, qP, va_K.moved (u := U) (U := U.calling g mk a) (Vm.Alike.refl U.vm) qK, qD, nzA_same (u := U) (U := U.calling g mk a) rfl qZ⟩, va_recv hKc hPc (ci := 6) (q0 := 0) rfl rfl, fun U hU hW => ⟨rfl, by rw [hU], by rw [hU]; exact hPc, va_K.moved hW.alike hKc, hDc.weaken (fun _ _ _ _ => trivial), nzA_warm hW hz⟩⟩ rfl rfl hl.1 rfl (lv_room (Nat.le_of_ble_eq_true rfl)) dX6_passSign_15 ⟨Nat.zero_le _, Nat.zero_le _⟩) hS (fun q _ h => hFc q h) hFc (fun u t H1 locs ht hvm hw hB hz1 hk1 hS => ?_)
    obtain ⟨y_55, y_56, gy_55, hpr0_r_54, hpr1_r_54, hE, hP1, hD1⟩ := hB
    rw [ht] at hP1
    obtain ⟨hP, hD⟩ := va_join (wr := [(tp, .inr (10, [.ref bt, .int b_length])), (bt, .inl (kbt, 1600, .inl fbt))]) (w1 := [(h0, .inr (6, [.ref tp, .ref dr, .int y_55, .int y_56, .int q_token, .int q_start, .int q_stop]))]) hP hD [0] [1, 2] rfl rfl (by decide) (by decide) hk1 hFc hP1 hD1
    have hpr0_r_54 : q_faultKind.toInt ≤ y_55.toInt := hpr0_r_54
    have hpr1_r_54 : Hid (((1 : Int) = 1 ∨ 1 ≤ y_55.toInt)) := by have h9 : ((1 : Int32).toInt = 1 ∨ 1 ≤ y_55.toInt) := hpr1_r_54; rw [show (1 : Int32).toInt = 1 from by decide] at h9; exact h9
    have hP := hP.sub (ws' := [(h0, .inr (6, [.ref tp, .ref dr, .int y_55, .int y_56, .int q_token, .int q_start, .int q_stop])), (tp, .inr (10, [.ref bt, .int b_length])), (bt, .inl (kbt, 1600, .inl fbt))]) [2, 0, 1] rfl
    have hD := hD.sub (ws' := [(h0, .inr (6, [.ref tp, .ref dr, .int y_55, .int y_56, .int q_token, .int q_start, .int q_stop])), (tp, .inr (10, [.ref bt, .int b_length])), (bt, .inl (kbt, 1600, .inl fbt))]) [2, 0, 1] (by decide) rfl
    have hF := gf_call (a := (y_55, y_56)) hE hF
    generalize H1 = H at hP hS ⊢
    refine lv_aload_n hx hb dX6_passSign_18 rfl (lv_at hl 0 rfl) ?_
    have hPc := hP.sub (ws' := [(h0, .inr (6, [.ref tp, .ref dr, .int y_55, .int y_56, .int q_token, .int q_start, .int q_stop])), (tp, .inr (10, [.ref bt, .int b_length])), (bt, .inl (kbt, 1600, .inl fbt))]) [0, 1, 2] rfl
    have hKc := hK.sub (tys' := [(kbt, .byte)]) [0] rfl
    have hDc := hD.sub (ws' := [(h0, .inr (6, [.ref tp, .ref dr, .int y_55, .int y_56, .int q_token, .int q_start, .int q_stop])), (tp, .inr (10, [.ref bt, .int b_length])), (bt, .inl (kbt, 1600, .inl fbt))]) [0, 1, 2] (by decide) rfl
    have hFc := va_free (wc := [(h0, .inr (6, [.ref tp, .ref dr, .int y_55, .int y_56, .int q_token, .int q_start, .int q_stop])), (tp, .inr (10, [.ref bt, .int b_length])), (bt, .inl (kbt, 1600, .inl fbt))]) hD hS hA [0, 1, 2] rfl
    refine va_callv (va_runV (As := []) (rest := []) ⟨hx, hb, hml, hown, hts⟩ (sX6_step l dC dI H.size h0 tp bt dr y_55 y_56 q_token q_start q_stop b_length kbt fbt gy_55 gq_start gq_stop gb_length) (cwV 0 hts (gz_gV mGA_162 mGA_163 mGA_164 mGA_9 mGA_165 goodGA) rfl rfl rfl (by decide +kernel) ⟨Nat.le_of_ble_eq_true rfl, Nat.le_of_ble_eq_true rfl⟩) ⟨fun a U g mk q => by obtain ⟨q0, q1, qP, qK, qD, qZ⟩ := q; exact ⟨q0, q1, qP, va_K.moved (u := U) (U := U.calling g mk a) (Vm.Alike.refl U.vm) qK, qD, nzA_same (u := U) (U := U.calling g mk a) rfl qZ⟩, va_recv hKc hPc (ci := 6) (q0 := 0) rfl rfl, fun U hU hW => ⟨rfl, by rw [hU], by rw [hU]; exact hPc, va_K.moved hW.alike hKc, hDc.weaken (fun _ _ _ _ => trivial), nzA_warm hW hz⟩⟩ rfl rfl hl.1 rfl (lv_room (Nat.le_of_ble_eq_true rfl)) dX6_passSign_19 ⟨Nat.zero_le _, Nat.zero_le _⟩) hS (fun q _ h => hFc q h) hFc (fun u t H1 locs ht hvm hw hB hz1 hk1 hS => ?_)
    obtain ⟨y_58, y_59, y_60, gy_59, gy_60, hE, hP1, hD1⟩ := hB
    rw [ht] at hP1
    obtain ⟨hP, hD⟩ := va_join (wr := []) (w1 := [(h0, .inr (6, [.ref tp, .ref dr, .int y_55, .int y_56, .int y_58, .int y_59, .int y_60])), (tp, .inr (10, [.ref bt, .int b_length])), (bt, .inl (kbt, 1600, .inl fbt))]) hP hD [0, 1, 2] [] rfl rfl (by decide) (by decide) hk1 hFc hP1 hD1
    have hP := hP.sub (ws' := [(h0, .inr (6, [.ref tp, .ref dr, .int y_55, .int y_56, .int y_58, .int y_59, .int y_60])), (tp, .inr (10, [.ref bt, .int b_length])), (bt, .inl (kbt, 1600, .inl fbt))]) [0, 1, 2] rfl
    have hD := hD.sub (ws' := [(h0, .inr (6, [.ref tp, .ref dr, .int y_55, .int y_56, .int y_58, .int y_59, .int y_60])), (tp, .inr (10, [.ref bt, .int b_length])), (bt, .inl (kbt, 1600, .inl fbt))]) [0, 1, 2] (by decide) rfl
    have hF := gf_call (a := (y_58, y_59, y_60)) hE hF
    generalize H1 = H at hP hS ⊢
    exact W.vret hx hb hr (fun t ht hW => ⟨⟨(), rfl, trivial, y_55, y_56, y_58, y_59, y_60, gy_55, gy_59, gy_60, hpr0_r_54, hF.trans hR9.symm, by rw [ht]; exact hP, hD⟩, hS.F ht⟩) hS.2.2 dX6_passSign_22
theorem dX6_passNumber_0 : decode cX6_passNumber 0 = .ok (.aload_n 0, 1) := by decide +kernel
theorem dX6_passNumber_1 : decode cX6_passNumber 1 = .ok (.aload_n 0, 1) := by decide +kernel
theorem dX6_passNumber_2 : decode cX6_passNumber 2 = .ok (.getfield 32, 3) := by decide +kernel
theorem dX6_passNumber_5 : decode cX6_passNumber 5 = .ok (.iconst 3, 1) := by decide +kernel
theorem dX6_passNumber_6 : decode cX6_passNumber 6 = .ok (.if_icmp .ne 7, 3) := by decide +kernel
theorem dX6_passNumber_9 : decode cX6_passNumber 9 = .ok (.iconst 1, 1) := by decide +kernel
theorem dX6_passNumber_10 : decode cX6_passNumber 10 = .ok (.goto 4, 3) := by decide +kernel
theorem dX6_passNumber_13 : decode cX6_passNumber 13 = .ok (.iconst 0, 1) := by decide +kernel
theorem dX6_passNumber_14 : decode cX6_passNumber 14 = .ok (.iconst 1, 1) := by decide +kernel
theorem dX6_passNumber_15 : decode cX6_passNumber 15 = .ok (.invokevirtual 166, 3) := by decide +kernel
theorem dX6_passNumber_18 : decode cX6_passNumber 18 = .ok (.aload_n 0, 1) := by decide +kernel
theorem dX6_passNumber_19 : decode cX6_passNumber 19 = .ok (.invokevirtual 174, 3) := by decide +kernel
theorem dX6_passNumber_22 : decode cX6_passNumber 22 = .ok (.istore_n 3, 1) := by decide +kernel
theorem dX6_passNumber_23 : decode cX6_passNumber 23 = .ok (.aload_n 0, 1) := by decide +kernel
theorem dX6_passNumber_24 : decode cX6_passNumber 24 = .ok (.iload_n 3, 1) := by decide +kernel
theorem dX6_passNumber_25 : decode cX6_passNumber 25 = .ok (.iload_n 1, 1) := by decide +kernel
theorem dX6_passNumber_26 : decode cX6_passNumber 26 = .ok (.if_icmp .lt 12, 3) := by decide +kernel
theorem dX6_passNumber_29 : decode cX6_passNumber 29 = .ok (.iload_n 3, 1) := by decide +kernel
theorem dX6_passNumber_30 : decode cX6_passNumber 30 = .ok (.iload_n 2, 1) := by decide +kernel
theorem dX6_passNumber_31 : decode cX6_passNumber 31 = .ok (.if_icmp .gt 7, 3) := by decide +kernel
theorem dX6_passNumber_34 : decode cX6_passNumber 34 = .ok (.iconst 1, 1) := by decide +kernel
theorem dX6_passNumber_35 : decode cX6_passNumber 35 = .ok (.goto 4, 3) := by decide +kernel
theorem dX6_passNumber_38 : decode cX6_passNumber 38 = .ok (.iconst 0, 1) := by decide +kernel
theorem dX6_passNumber_39 : decode cX6_passNumber 39 = .ok (.iconst 2, 1) := by decide +kernel
theorem dX6_passNumber_40 : decode cX6_passNumber 40 = .ok (.invokevirtual 166, 3) := by decide +kernel
theorem dX6_passNumber_43 : decode cX6_passNumber 43 = .ok (.aload_n 0, 1) := by decide +kernel
theorem dX6_passNumber_44 : decode cX6_passNumber 44 = .ok (.invokevirtual 44, 3) := by decide +kernel
theorem dX6_passNumber_47 : decode cX6_passNumber 47 = .ok (.iload_n 3, 1) := by decide +kernel
theorem dX6_passNumber_48 : decode cX6_passNumber 48 = .ok (.ireturn, 1) := by decide +kernel
noncomputable def bfX6_passNumber_39 (q_faultKind : Int32) (q_faultPlace : Int32) (q_token : Int32) (q_start : Int32) (q_stop : Int32) (b_length : Int32) (fbt : Nat → Int32) (p1 : Int32) (p2 : Int32) (v3 : Int32) (s0 : Int32) (w0_2 : Int32) (w0_3 : Int32) (w0_4 : Int32) (w0_5 : Int32) (w0_6 : Int32) : Int32 × Int32 × Int32 × Int32 × Int32 × Int32 := cal (fun o3 => cal (fun o4 => (v3, o3.1, o3.2, o4.1, o4.2.1, o4.2.2)) (fX6_step o3.1 w0_4 w0_5 w0_6 b_length fbt)) (fX6_expect w0_2 w0_3 w0_5 s0 (2 : Int32))
noncomputable def bfX6_passNumber_38 (q_faultKind : Int32) (q_faultPlace : Int32) (q_token : Int32) (q_start : Int32) (q_stop : Int32) (b_length : Int32) (fbt : Nat → Int32) (p1 : Int32) (p2 : Int32) (v3 : Int32) (w0_2 : Int32) (w0_3 : Int32) (w0_4 : Int32) (w0_5 : Int32) (w0_6 : Int32) : Int32 × Int32 × Int32 × Int32 × Int32 × Int32 := bfX6_passNumber_39 q_faultKind q_faultPlace q_token q_start q_stop b_length fbt p1 p2 v3 (0 : Int32) w0_2 w0_3 w0_4 w0_5 w0_6
noncomputable def bfX6_passNumber_14 (q_faultKind : Int32) (q_faultPlace : Int32) (q_token : Int32) (q_start : Int32) (q_stop : Int32) (b_length : Int32) (fbt : Nat → Int32) (p1 : Int32) (p2 : Int32) (s0 : Int32) (w0_2 : Int32) (w0_3 : Int32) (w0_4 : Int32) (w0_5 : Int32) (w0_6 : Int32) : Int32 × Int32 × Int32 × Int32 × Int32 × Int32 := cal (fun o1 => cal (fun o2 => if o2 < p1 then (bfX6_passNumber_38 q_faultKind q_faultPlace q_token q_start q_stop b_length fbt p1 p2 o2 o1.1 o1.2 w0_4 w0_5 w0_6) else (if p2 < o2 then (bfX6_passNumber_38 q_faultKind q_faultPlace q_token q_start q_stop b_length fbt p1 p2 o2 o1.1 o1.2 w0_4 w0_5 w0_6) else (bfX6_passNumber_39 q_faultKind q_faultPlace q_token q_start q_stop b_length fbt p1 p2 o2 (1 : Int32) o1.1 o1.2 w0_4 w0_5 w0_6))) (fX6_valueHere w0_5 w0_6 b_length fbt)) (fX6_expect w0_2 w0_3 w0_5 s0 (1 : Int32))
noncomputable def fX6_passNumber (q_faultKind : Int32) (q_faultPlace : Int32) (q_token : Int32) (q_start : Int32) (q_stop : Int32) (b_length : Int32) (fbt : Nat → Int32) (p1 : Int32) (p2 : Int32) : Int32 × Int32 × Int32 × Int32 × Int32 × Int32 := if q_token = (3 : Int32) then (bfX6_passNumber_14 q_faultKind q_faultPlace q_token q_start q_stop b_length fbt p1 p2 (1 : Int32) q_faultKind q_faultPlace q_token q_start q_stop) else (bfX6_passNumber_14 q_faultKind q_faultPlace q_token q_start q_stop b_length fbt p1 p2 (0 : Int32) q_faultKind q_faultPlace q_token q_start q_stop)
set_option maxHeartbeats 4000000 in
set_option maxRecDepth 100000 in
theorem sX6_passNumber (l : Launch) (dC : Nat → ClassId) (dI : Nat → Nat → Nat) (sz : Nat) (h0 : Nat) (tp : Nat) (bt : Nat) (dr : Nat) (q_faultKind : Int32) (q_faultPlace : Int32) (q_token : Int32) (q_start : Int32) (q_stop : Int32) (b_length : Int32) (kbt : ClassId) (fbt : Nat → Int32) (p1 : Int32) (p2 : Int32) (gq_faultKind : gi q_faultKind 0 3) (gq_start : gi q_start 0 1600) (gq_stop : gi q_stop 0 1600) (gb_length : gi b_length 0 1600) : Met l yX6_passNumber (.code yX6_passNumber cX6_passNumber 4 (some .int) :: wsGA) ({ frames := 2, cells := 0, slots := 0, locals := 44 }) (va_Pc [.ref h0, .int p1, .int p2] (fun U => U.heap.size = sz ∧ va_P (dC, dI) vwCl [(h0, .inr (6, [.ref tp, .ref dr, .int q_faultKind, .int q_faultPlace, .int q_token, .int q_start, .int q_stop])), (tp, .inr (10, [.ref bt, .int b_length])), (bt, .inl (kbt, 1600, .inl fbt))] U.heap ∧ va_K (dC, dI) vwCl [(kbt, .byte)] U ∧ va_D (fun _ => True) [(h0, .inr (6, [.ref tp, .ref dr, .int q_faultKind, .int q_faultPlace, .int q_token, .int q_start, .int q_stop])), (tp, .inr (10, [.ref bt, .int b_length])), (bt, .inl (kbt, 1600, .inl fbt))] ∧ nzA U)) (va_Qi (fun (r : Int32) (u : Int32) => r = u ∧ gi r (-2147483648) 2147483647) (fun r t => ∃ (w0_2 : Int32) (w0_3 : Int32) (w0_4 : Int32) (w0_5 : Int32) (w0_6 : Int32), gi w0_2 0 3 ∧ gi w0_5 0 1600 ∧ gi w0_6 0 1600 ∧ q_faultKind.toInt ≤ w0_2.toInt ∧ (w0_2.toInt ≠ 0 ∨ (p1.toInt ≤ r.toInt ∧ r.toInt ≤ p2.toInt)) ∧ (r, w0_2, w0_3, w0_4, w0_5, w0_6) = fX6_passNumber q_faultKind q_faultPlace q_token q_start q_stop b_length fbt p1 p2 ∧ va_P (dC, dI) vwCl [(h0, .inr (6, [.ref tp, .ref dr, .int w0_2, .int w0_3, .int w0_4, .int w0_5, .int w0_6])), (tp, .inr (10, [.ref bt, .int b_length])), (bt, .inl (kbt, 1600, .inl fbt))] t.heap ∧ va_D (va_A [(h0, .inr (6, [.ref tp, .ref dr, .int q_faultKind, .int q_faultPlace, .int q_token, .int q_start, .int q_stop])), (tp, .inr (10, [.ref bt, .int b_length])), (bt, .inl (kbt, 1600, .inl fbt))] sz) [(h0, .inr (6, [.ref tp, .ref dr, .int w0_2, .int w0_3, .int w0_4, .int w0_5, .int w0_6])), (tp, .inr (10, [.ref bt, .int b_length])), (bt, .inl (kbt, 1600, .inl fbt))]) (va_A [(h0, .inr (6, [.ref tp, .ref dr, .int q_faultKind, .int q_faultPlace, .int q_token, .int q_start, .int q_stop])), (tp, .inr (10, [.ref bt, .int b_length])), (bt, .inl (kbt, 1600, .inl fbt))] sz)) 0 0 (va_A [(h0, .inr (6, [.ref tp, .ref dr, .int q_faultKind, .int q_faultPlace, .int q_token, .int q_start, .int q_stop])), (tp, .inr (10, [.ref bt, .int b_length])), (bt, .inl (kbt, 1600, .inl fbt))] sz) := by
  refine Met.ofW (cc := cX6_passNumber) (maxL := 4) (ret := (some .int)) (by decide) rfl ?_
  intro p e s m args below meth c s₁ B hml hv
  obtain ⟨rfl, hsz, hP, hK, hD0, hz⟩ := hv
  have hx := B.exec
  have hb := B.bytes
  have hr := B.returns
  have hts := atoms_spec (ws := (.code yX6_passNumber cX6_passNumber 4 (some .int) :: wsGA)) B.pre
  have hown : s.vm.findClass RX6 = some m.cls := findClass_of_methodNamed B.named
  have hlocks := B.notSynchronized
  subst hsz
  have hD := hD0.self (sz := s.heap.size)
  generalize hAe : va_A [(h0, .inr (6, [.ref tp, .ref dr, .int q_faultKind, .int q_faultPlace, .int q_token, .int q_start, .int q_stop])), (tp, .inr (10, [.ref bt, .int b_length])), (bt, .inl (kbt, 1600, .inl fbt))] s.heap.size = A at hD ⊢
  have hA : ∀ q : Nat, s.heap.size ≤ q → A q := fun q h => by rw [← hAe]; exact Or.inr h
  have hS : va_S A s.heap s.heap [] := va_S.rf
  have hl := lv_entry ([.ref h0, .int p1, .int p2]) (n := 4) (Nat.le_of_ble_eq_true rfl)
  rw [lg_entry_eq]
  generalize (lg_sl ([.ref h0, .int p1, .int p2]) ++ List.replicate (4 - (lg_sl ([.ref h0, .int p1, .int p2])).length) Slot.unset).toArray = ls at hl ⊢
  have hl : lv_has ls 4 [(0, .ref h0), (1, .int p1), (2, .int p2)] := hl
  obtain ⟨RES, hF⟩ : ∃ R9, fX6_passNumber q_faultKind q_faultPlace q_token q_start q_stop b_length fbt p1 p2 = R9 := ⟨_, rfl⟩
  have hR9 := hF
  refine lv_aload_n hx hb dX6_passNumber_0 rfl (lv_at hl 0 rfl) ?_
  refine lv_aload_n hx hb dX6_passNumber_1 rfl (lv_at hl 0 rfl) ?_
  refine va_get (D := (dC, dI)) (ci := 6) (v := .int q_token) (C := RX6) (T := TX6) (N := 7) hx hb hts (fun w h => List.mem_cons_of_mem _ (jnGA_X6 w h)) hown hK hP 0 rfl rfl 4 (by decide) (hts _ (List.mem_cons_of_mem _ mGA_57)) (fun _ h9 => h9) rfl dX6_passNumber_2 ?_
  refine lv_iconst (v := 3) hx hb dX6_passNumber_5 (by decide) ?_
  refine lv_icmp_ne (tgt := 13) hx hb dX6_passNumber_6 (by decide) (fun c_171 => ?_) (fun c_171 => ?_)
  · have hF := gf_neg c_171 hF
    have hc_172 : q_token.toInt ≠ 3 := fun h9 => c_171 (Int32.toInt_inj.mp (by rw [show (3 : Int32).toInt = 3 from by decide]; exact h9))
    refine lv_iconst (v := 0) hx hb dX6_passNumber_13 (by decide) ?_
    refine lv_iconst (v := 1) hx hb dX6_passNumber_14 (by decide) ?_
    have hPc := hP.sub (ws' := [(h0, .inr (6, [.ref tp, .ref dr, .int q_faultKind, .int q_faultPlace, .int q_token, .int q_start, .int q_stop]))]) [0] rfl
    have hKc := hK.sub (tys' := []) [] rfl
    have hDc := hD.sub (ws' := [(h0, .inr (6, [.ref tp, .ref dr, .int q_faultKind, .int q_faultPlace, .int q_token, .int q_start, .int q_stop]))]) [0] (by decide) rfl
    have hFc := va_free (wc := [(h0, .inr (6, [.ref tp, .ref dr, .int q_faultKind, .int q_faultPlace, .int q_token, .int q_start, .int q_stop]))]) hD hS hA [0] rfl
    refine va_callv (va_runV (As := [.int 0, .int 1]) (rest := []) ⟨hx, hb, hml, hown, hts⟩ (sX6_expect l dC dI s.heap.size h0 tp dr q_faultKind q_faultPlace q_token q_start q_stop 0 1 gq_faultKind gq_start gq_stop (gi_w (gi_c 0 0 (by decide)) (by decide)) (gi_w (gi_c 1 1 (by decide)) (by decide))) (cwV 2 hts (gz_gV mGA_250 mGA_251 mGA_252 mGA_9 mGA_253 goodGA) rfl rfl rfl (by decide +kernel) ⟨Nat.le_of_ble_eq_true rfl, Nat.le_of_ble_eq_true rfl⟩) ⟨fun a U g mk q => by obtain ⟨q0, q1, qP, qK, qD, qZ⟩ := q; exact ⟨q0, q1, qP, va_K.moved (u := U) (U := U.calling g mk a) (Vm.Alike.refl U.vm) qK, qD, nzA_same (u := U) (U := U.calling g mk a) rfl qZ⟩, va_recv hKc hPc (ci := 6) (q0 := 0) rfl rfl, fun U hU hW => ⟨rfl, by rw [hU], by rw [hU]; exact hPc, va_K.moved hW.alike hKc, hDc.weaken (fun _ _ _ _ => trivial), nzA_warm hW hz⟩⟩ rfl rfl hl.1 rfl (lv_room (Nat.le_of_ble_eq_true rfl)) dX6_passNumber_15 ⟨Nat.zero_le _, Nat.zero_le _⟩) hS (fun q _ h => hFc q h) hFc (fun u t H1 locs ht hvm hw hB hz1 hk1 hS => ?_)
    obtain ⟨y_174, y_175, gy_174, hpr0_r_173, hpr1_r_173, hE, hP1, hD1⟩ := hB
    rw [ht] at hP1
    obtain ⟨hP, hD⟩ := va_join (wr := [(tp, .inr (10, [.ref bt, .int b_length])), (bt, .inl (kbt, 1600, .inl fbt))]) (w1 := [(h0, .inr (6, [.ref tp, .ref dr, .int y_174, .int y_175, .int q_token, .int q_start, .int q_stop]))]) hP hD [0] [1, 2] rfl rfl (by decide) (by decide) hk1 hFc hP1 hD1
    have hpr0_r_173 : q_faultKind.toInt ≤ y_174.toInt := hpr0_r_173
    have hpr1_r_173 : Hid (((0 : Int) = 1 ∨ 1 ≤ y_174.toInt)) := by have h9 : ((0 : Int32).toInt = 1 ∨ 1 ≤ y_174.toInt) := hpr1_r_173; rw [show (0 : Int32).toInt = 0 from by decide] at h9; exact h9
    have hf_176 : 1 ≤ y_174.toInt := Hid.resL hpr1_r_173 (by omega)
    have g_177 : gi y_174 1 3 := ⟨by omega, gy_174.2⟩
    have hP := hP.sub (ws' := [(h0, .inr (6, [.ref tp, .ref dr, .int y_174, .int y_175, .int q_token, .int q_start, .int q_stop])), (tp, .inr (10, [.ref bt, .int b_length])), (bt, .inl (kbt, 1600, .inl fbt))]) [2, 0, 1] rfl
    have hD := hD.sub (ws' := [(h0, .inr (6, [.ref tp, .ref dr, .int y_174, .int y_175, .int q_token, .int q_start, .int q_stop])), (tp, .inr (10, [.ref bt, .int b_length])), (bt, .inl (kbt, 1600, .inl fbt))]) [2, 0, 1] (by decide) rfl
    have hF := gf_call (a := (y_174, y_175)) hE hF
    generalize H1 = H at hP hS ⊢
    refine lv_aload_n hx hb dX6_passNumber_18 rfl (lv_at hl 0 rfl) ?_
    have hPc := hP.sub (ws' := [(h0, .inr (6, [.ref tp, .ref dr, .int y_174, .int y_175, .int q_token, .int q_start, .int q_stop])), (tp, .inr (10, [.ref bt, .int b_length])), (bt, .inl (kbt, 1600, .inl fbt))]) [0, 1, 2] rfl
    have hKc := hK.sub (tys' := [(kbt, .byte)]) [0] rfl
    refine va_calli (va_runV (As := []) (rest := []) ⟨hx, hb, hml, hown, hts⟩ (sX6_valueHere l dC dI h0 tp bt dr y_174 y_175 q_token q_start q_stop b_length kbt fbt (gi_w g_177 (by decide)) gq_start gq_stop gb_length) (cwV 0 hts (gz_gV mGA_262 mGA_263 mGA_264 mGA_9 mGA_265 goodGA) rfl rfl rfl (by decide +kernel) ⟨Nat.le_of_ble_eq_true rfl, Nat.le_of_ble_eq_true rfl⟩) ⟨fun a U g mk q => by obtain ⟨q0, qP, qK, qZ⟩ := q; exact ⟨q0, qP, va_K.moved (u := U) (U := U.calling g mk a) (Vm.Alike.refl U.vm) qK, nzA_same (u := U) (U := U.calling g mk a) rfl qZ⟩, va_recv hKc hPc (ci := 6) (q0 := 0) rfl rfl, fun U hU hW => ⟨rfl, by rw [hU]; exact hPc, va_K.moved hW.alike hKc, nzA_warm hW hz⟩⟩ rfl rfl hl.1 rfl (lv_room (Nat.le_of_ble_eq_true rfl)) dX6_passNumber_19 ⟨Nat.zero_le _, Nat.zero_le _⟩) hS (fun q _ h => h.elim) (fun q h => h.elim) (fun r_178 u t H1 locs ht hvm hw hB hz1 hk1 hS => ?_)
    obtain ⟨hw, hE⟩ := hw
    have hP := gz_keep hP hk1
    have hF := gf_call (a := r_178) hE hF
    generalize H1 = H at hP hS ⊢
    refine lv_istore_n (lv' := [(3, .int r_178), (0, .ref h0), (1, .int p1), (2, .int p2)]) hx hb dX6_passNumber_22 rfl hl (by decide) rfl (fun ls hl => ?_)
    refine lv_aload_n hx hb dX6_passNumber_23 rfl (lv_at hl 1 rfl) ?_
    refine lv_iload_n hx hb dX6_passNumber_24 rfl (lv_at hl 0 rfl) ?_
    refine lv_iload_n hx hb dX6_passNumber_25 rfl (lv_at hl 2 rfl) ?_
    refine lv_icmp_lt (tgt := 38) hx hb dX6_passNumber_26 (by decide) (fun c_179 => ?_) (fun c_179 => ?_)
    · have hF := gf_pos c_179 hF
      have hc_180 : r_178.toInt < p1.toInt := by have h9 := Int32.lt_iff_toInt_lt.mp c_179; exact h9
      have g_181 : gi r_178 (-2147483648) 2147483646 := gi_lt_l c_179 (gi_any r_178) (gi_any p1) (by decide)
      have g_182 : gi p1 (-2147483647) 2147483647 := gi_lt_r c_179 (gi_any r_178) (gi_any p1) (by decide)
      refine lv_iconst (v := 0) hx hb dX6_passNumber_38 (by decide) ?_
      refine lv_iconst (v := 2) hx hb dX6_passNumber_39 (by decide) ?_
      have hPc := hP.sub (ws' := [(h0, .inr (6, [.ref tp, .ref dr, .int y_174, .int y_175, .int q_token, .int q_start, .int q_stop]))]) [0] rfl
      have hKc := hK.sub (tys' := []) [] rfl
      have hDc := hD.sub (ws' := [(h0, .inr (6, [.ref tp, .ref dr, .int y_174, .int y_175, .int q_token, .int q_start, .int q_stop]))]) [0] (by decide) rfl
      have hFc := va_free (wc := [(h0, .inr (6, [.ref tp, .ref dr, .int y_174, .int y_175, .int q_token, .int q_start, .int q_stop]))]) hD hS hA [0] rfl
      refine va_callv (va_runV (As := [.int 0, .int 2]) (rest := []) ⟨hx, hb, hml, hown, hts⟩ (sX6_expect l dC dI H.size h0 tp dr y_174 y_175 q_token q_start q_stop 0 2 (gi_w g_177 (by decide)) gq_start gq_stop (gi_w (gi_c 0 0 (by decide)) (by decide)) (gi_w (gi_c 2 2 (by decide)) (by decide))) (cwV 2 hts (gz_gV mGA_250 mGA_251 mGA_252 mGA_9 mGA_253 goodGA) rfl rfl rfl (by decide +kernel) ⟨Nat.le_of_ble_eq_true rfl, Nat.le_of_ble_eq_true rfl⟩) ⟨fun a U g mk q => by obtain ⟨q0, q1, qP, qK, qD, qZ⟩ := q; exact ⟨q0, q1, qP, va_K.moved (u := U) (U := U.calling g mk a) (Vm.Alike.refl U.vm) qK, qD, nzA_same (u := U) (U := U.calling g mk a) rfl qZ⟩, va_recv hKc hPc (ci := 6) (q0 := 0) rfl rfl, fun U hU hW => ⟨rfl, by rw [hU], by rw [hU]; exact hPc, va_K.moved hW.alike hKc, hDc.weaken (fun _ _ _ _ => trivial), nzA_warm hW hz⟩⟩ rfl rfl hl.1 rfl (lv_room (Nat.le_of_ble_eq_true rfl)) dX6_passNumber_40 ⟨Nat.zero_le _, Nat.zero_le _⟩) hS (fun q _ h => hFc q h) hFc (fun u t H1 locs ht hvm hw hB hz1 hk1 hS => ?_)
      obtain ⟨y_184, y_185, gy_184, hpr0_r_183, hpr1_r_183, hE, hP1, hD1⟩ := hB
      rw [ht] at hP1
      obtain ⟨hP, hD⟩ := va_join (wr := [(tp, .inr (10, [.ref bt, .int b_length])), (bt, .inl (kbt, 1600, .inl fbt))]) (w1 := [(h0, .inr (6, [.ref tp, .ref dr, .int y_184, .int y_185, .int q_token, .int q_start, .int q_stop]))]) hP hD [0] [1, 2] rfl rfl (by decide) (by decide) hk1 hFc hP1 hD1
      have hpr0_r_183 : y_174.toInt ≤ y_184.toInt := hpr0_r_183
      have g_186 : gi y_184 1 3 := gi_relL (show y_174.toInt ≤ y_184.toInt from by omega) g_177 gy_184
      have hpr1_r_183 : Hid (((0 : Int) = 1 ∨ 1 ≤ y_184.toInt)) := by have h9 : ((0 : Int32).toInt = 1 ∨ 1 ≤ y_184.toInt) := hpr1_r_183; rw [show (0 : Int32).toInt = 0 from by decide] at h9; exact h9
      have hf_187 : 1 ≤ y_184.toInt := Hid.resL hpr1_r_183 (by omega)
      have hP := hP.sub (ws' := [(h0, .inr (6, [.ref tp, .ref dr, .int y_184, .int y_185, .int q_token, .int q_start, .int q_stop])), (tp, .inr (10, [.ref bt, .int b_length])), (bt, .inl (kbt, 1600, .inl fbt))]) [2, 0, 1] rfl
      have hD := hD.sub (ws' := [(h0, .inr (6, [.ref tp, .ref dr, .int y_184, .int y_185, .int q_token, .int q_start, .int q_stop])), (tp, .inr (10, [.ref bt, .int b_length])), (bt, .inl (kbt, 1600, .inl fbt))]) [2, 0, 1] (by decide) rfl
      have hF := gf_call (a := (y_184, y_185)) hE hF
      generalize H1 = H at hP hS ⊢
      refine lv_aload_n hx hb dX6_passNumber_43 rfl (lv_at hl 1 rfl) ?_
      have hPc := hP.sub (ws' := [(h0, .inr (6, [.ref tp, .ref dr, .int y_184, .int y_185, .int q_token, .int q_start, .int q_stop])), (tp, .inr (10, [.ref bt, .int b_length])), (bt, .inl (kbt, 1600, .inl fbt))]) [0, 1, 2] rfl
      have hKc := hK.sub (tys' := [(kbt, .byte)]) [0] rfl
      have hDc := hD.sub (ws' := [(h0, .inr (6, [.ref tp, .ref dr, .int y_184, .int y_185, .int q_token, .int q_start, .int q_stop])), (tp, .inr (10, [.ref bt, .int b_length])), (bt, .inl (kbt, 1600, .inl fbt))]) [0, 1, 2] (by decide) rfl
      have hFc := va_free (wc := [(h0, .inr (6, [.ref tp, .ref dr, .int y_184, .int y_185, .int q_token, .int q_start, .int q_stop])), (tp, .inr (10, [.ref bt, .int b_length])), (bt, .inl (kbt, 1600, .inl fbt))]) hD hS hA [0, 1, 2] rfl
      refine va_callv (va_runV (As := []) (rest := []) ⟨hx, hb, hml, hown, hts⟩ (sX6_step l dC dI H.size h0 tp bt dr y_184 y_185 q_token q_start q_stop b_length kbt fbt (gi_w g_186 (by decide)) gq_start gq_stop gb_length) (cwV 0 hts (gz_gV mGA_162 mGA_163 mGA_164 mGA_9 mGA_165 goodGA) rfl rfl rfl (by decide +kernel) ⟨Nat.le_of_ble_eq_true rfl, Nat.le_of_ble_eq_true rfl⟩) ⟨fun a U g mk q => by obtain ⟨q0, q1, qP, qK, qD, qZ⟩ := q; exact ⟨q0, q1, qP, va_K.moved (u := U) (U := U.calling g mk a) (Vm.Alike.refl U.vm) qK, qD, nzA_same (u := U) (U := U.calling g mk a) rfl qZ⟩, va_recv hKc hPc (ci := 6) (q0 := 0) rfl rfl, fun U hU hW => ⟨rfl, by rw [hU], by rw [hU]; exact hPc, va_K.moved hW.alike hKc, hDc.weaken (fun _ _ _ _ => trivial), nzA_warm hW hz⟩⟩ rfl rfl hl.1 rfl (lv_room (Nat.le_of_ble_eq_true rfl)) dX6_passNumber_44 ⟨Nat.zero_le _, Nat.zero_le _⟩) hS (fun q _ h => hFc q h) hFc (fun u t H1 locs ht hvm hw hB hz1 hk1 hS => ?_)
      obtain ⟨y_189, y_190, y_191, gy_190, gy_191, hE, hP1, hD1⟩ := hB
      rw [ht] at hP1
      obtain ⟨hP, hD⟩ := va_join (wr := []) (w1 := [(h0, .inr (6, [.ref tp, .ref dr, .int y_184, .int y_185, .int y_189, .int y_190, .int y_191])), (tp, .inr (10, [.ref bt, .int b_length])), (bt, .inl (kbt, 1600, .inl fbt))]) hP hD [0, 1, 2] [] rfl rfl (by decide) (by decide) hk1 hFc hP1 hD1
      have hP := hP.sub (ws' := [(h0, .inr (6, [.ref tp, .ref dr, .int y_184, .int y_185, .int y_189, .int y_190, .int y_191])), (tp, .inr (10, [.ref bt, .int b_length])), (bt, .inl (kbt, 1600, .inl fbt))]) [0, 1, 2] rfl
      have hD := hD.sub (ws' := [(h0, .inr (6, [.ref tp, .ref dr, .int y_184, .int y_185, .int y_189, .int y_190, .int y_191])), (tp, .inr (10, [.ref bt, .int b_length])), (bt, .inl (kbt, 1600, .inl fbt))]) [0, 1, 2] (by decide) rfl
      have hF := gf_call (a := (y_189, y_190, y_191)) hE hF
      generalize H1 = H at hP hS ⊢
      refine lv_iload_n hx hb dX6_passNumber_47 rfl (lv_at hl 0 rfl) ?_
      exact W.iret (v := r_178) hx hb hr (fun t ht hW => ⟨⟨r_178, r_178, rfl, ⟨rfl, (gi_any r_178)⟩, y_184, y_185, y_189, y_190, y_191, (gi_w g_186 (by decide)), gy_190, gy_191, (show q_faultKind.toInt ≤ y_184.toInt from by have qgy_184 := g_186.1; have rgy_184 := g_186.2; have qgy_174 := g_177.1; have rgy_174 := g_177.2; have qgr_178 := g_181.1; have rgr_178 := g_181.2; have qgq_faultKind := gq_faultKind.1; have rgq_faultKind := gq_faultKind.2; have qgp1 := g_182.1; have rgp1 := g_182.2; omega), (show (y_184.toInt ≠ 0 ∨ (p1.toInt ≤ r_178.toInt ∧ r_178.toInt ≤ p2.toInt)) from by have qgy_184 := g_186.1; have rgy_184 := g_186.2; have qgy_174 := g_177.1; have rgy_174 := g_177.2; have qgr_178 := g_181.1; have rgr_178 := g_181.2; have qgq_faultKind := gq_faultKind.1; have rgq_faultKind := gq_faultKind.2; have qgp1 := g_182.1; have rgp1 := g_182.2; omega), hF.trans hR9.symm, by rw [ht]; exact hP, hD⟩, hS.F ht⟩) hS.2.2 dX6_passNumber_48
    · have hF := gf_neg c_179 hF
      have hc_192 : p1.toInt ≤ r_178.toInt := by have h9 := Int32.le_iff_toInt_le.mp (Int32.not_lt.mp c_179); exact h9
      refine lv_iload_n hx hb dX6_passNumber_29 rfl (lv_at hl 0 rfl) ?_
      refine lv_iload_n hx hb dX6_passNumber_30 rfl (lv_at hl 3 rfl) ?_
      refine lv_icmp_gt (tgt := 38) hx hb dX6_passNumber_31 (by decide) (fun c_193 => ?_) (fun c_193 => ?_)
      · have hF := gf_pos c_193 hF
        have hc_194 : p2.toInt < r_178.toInt := by have h9 := Int32.lt_iff_toInt_lt.mp c_193; exact h9
        have g_195 : gi p2 (-2147483648) 2147483646 := gi_lt_l c_193 (gi_any p2) (gi_any r_178) (by decide)
        have g_196 : gi r_178 (-2147483647) 2147483647 := gi_lt_r c_193 (gi_any p2) (gi_any r_178) (by decide)
        refine lv_iconst (v := 0) hx hb dX6_passNumber_38 (by decide) ?_
        refine lv_iconst (v := 2) hx hb dX6_passNumber_39 (by decide) ?_
        have hPc := hP.sub (ws' := [(h0, .inr (6, [.ref tp, .ref dr, .int y_174, .int y_175, .int q_token, .int q_start, .int q_stop]))]) [0] rfl
        have hKc := hK.sub (tys' := []) [] rfl
        have hDc := hD.sub (ws' := [(h0, .inr (6, [.ref tp, .ref dr, .int y_174, .int y_175, .int q_token, .int q_start, .int q_stop]))]) [0] (by decide) rfl
        have hFc := va_free (wc := [(h0, .inr (6, [.ref tp, .ref dr, .int y_174, .int y_175, .int q_token, .int q_start, .int q_stop]))]) hD hS hA [0] rfl
        refine va_callv (va_runV (As := [.int 0, .int 2]) (rest := []) ⟨hx, hb, hml, hown, hts⟩ (sX6_expect l dC dI H.size h0 tp dr y_174 y_175 q_token q_start q_stop 0 2 (gi_w g_177 (by decide)) gq_start gq_stop (gi_w (gi_c 0 0 (by decide)) (by decide)) (gi_w (gi_c 2 2 (by decide)) (by decide))) (cwV 2 hts (gz_gV mGA_250 mGA_251 mGA_252 mGA_9 mGA_253 goodGA) rfl rfl rfl (by decide +kernel) ⟨Nat.le_of_ble_eq_true rfl, Nat.le_of_ble_eq_true rfl⟩) ⟨fun a U g mk q => by obtain ⟨q0, q1, qP, qK, qD, qZ⟩ := q; exact ⟨q0, q1, qP, va_K.moved (u := U) (U := U.calling g mk a) (Vm.Alike.refl U.vm) qK, qD, nzA_same (u := U) (U := U.calling g mk a) rfl qZ⟩, va_recv hKc hPc (ci := 6) (q0 := 0) rfl rfl, fun U hU hW => ⟨rfl, by rw [hU], by rw [hU]; exact hPc, va_K.moved hW.alike hKc, hDc.weaken (fun _ _ _ _ => trivial), nzA_warm hW hz⟩⟩ rfl rfl hl.1 rfl (lv_room (Nat.le_of_ble_eq_true rfl)) dX6_passNumber_40 ⟨Nat.zero_le _, Nat.zero_le _⟩) hS (fun q _ h => hFc q h) hFc (fun u t H1 locs ht hvm hw hB hz1 hk1 hS => ?_)
        obtain ⟨y_198, y_199, gy_198, hpr0_r_197, hpr1_r_197, hE, hP1, hD1⟩ := hB
        rw [ht] at hP1
        obtain ⟨hP, hD⟩ := va_join (wr := [(tp, .inr (10, [.ref bt, .int b_length])), (bt, .inl (kbt, 1600, .inl fbt))]) (w1 := [(h0, .inr (6, [.ref tp, .ref dr, .int y_198, .int y_199, .int q_token, .int q_start, .int q_stop]))]) hP hD [0] [1, 2] rfl rfl (by decide) (by decide) hk1 hFc hP1 hD1
        have hpr0_r_197 : y_174.toInt ≤ y_198.toInt := hpr0_r_197
        have g_200 : gi y_198 1 3 := gi_relL (show y_174.toInt ≤ y_198.toInt from by omega) g_177 gy_198
        have hpr1_r_197 : Hid (((0 : Int) = 1 ∨ 1 ≤ y_198.toInt)) := by have h9 : ((0 : Int32).toInt = 1 ∨ 1 ≤ y_198.toInt) := hpr1_r_197; rw [show (0 : Int32).toInt = 0 from by decide] at h9; exact h9
        have hf_201 : 1 ≤ y_198.toInt := Hid.resL hpr1_r_197 (by omega)
        have hP := hP.sub (ws' := [(h0, .inr (6, [.ref tp, .ref dr, .int y_198, .int y_199, .int q_token, .int q_start, .int q_stop])), (tp, .inr (10, [.ref bt, .int b_length])), (bt, .inl (kbt, 1600, .inl fbt))]) [2, 0, 1] rfl
        have hD := hD.sub (ws' := [(h0, .inr (6, [.ref tp, .ref dr, .int y_198, .int y_199, .int q_token, .int q_start, .int q_stop])), (tp, .inr (10, [.ref bt, .int b_length])), (bt, .inl (kbt, 1600, .inl fbt))]) [2, 0, 1] (by decide) rfl
        have hF := gf_call (a := (y_198, y_199)) hE hF
        generalize H1 = H at hP hS ⊢
        refine lv_aload_n hx hb dX6_passNumber_43 rfl (lv_at hl 1 rfl) ?_
        have hPc := hP.sub (ws' := [(h0, .inr (6, [.ref tp, .ref dr, .int y_198, .int y_199, .int q_token, .int q_start, .int q_stop])), (tp, .inr (10, [.ref bt, .int b_length])), (bt, .inl (kbt, 1600, .inl fbt))]) [0, 1, 2] rfl
        have hKc := hK.sub (tys' := [(kbt, .byte)]) [0] rfl
        have hDc := hD.sub (ws' := [(h0, .inr (6, [.ref tp, .ref dr, .int y_198, .int y_199, .int q_token, .int q_start, .int q_stop])), (tp, .inr (10, [.ref bt, .int b_length])), (bt, .inl (kbt, 1600, .inl fbt))]) [0, 1, 2] (by decide) rfl
        have hFc := va_free (wc := [(h0, .inr (6, [.ref tp, .ref dr, .int y_198, .int y_199, .int q_token, .int q_start, .int q_stop])), (tp, .inr (10, [.ref bt, .int b_length])), (bt, .inl (kbt, 1600, .inl fbt))]) hD hS hA [0, 1, 2] rfl
        refine va_callv (va_runV (As := []) (rest := []) ⟨hx, hb, hml, hown, hts⟩ (sX6_step l dC dI H.size h0 tp bt dr y_198 y_199 q_token q_start q_stop b_length kbt fbt (gi_w g_200 (by decide)) gq_start gq_stop gb_length) (cwV 0 hts (gz_gV mGA_162 mGA_163 mGA_164 mGA_9 mGA_165 goodGA) rfl rfl rfl (by decide +kernel) ⟨Nat.le_of_ble_eq_true rfl, Nat.le_of_ble_eq_true rfl⟩) ⟨fun a U g mk q => by obtain ⟨q0, q1, qP, qK, qD, qZ⟩ := q; exact ⟨q0, q1, qP, va_K.moved (u := U) (U := U.calling g mk a) (Vm.Alike.refl U.vm) qK, qD, nzA_same (u := U) (U := U.calling g mk a) rfl qZ⟩, va_recv hKc hPc (ci := 6) (q0 := 0) rfl rfl, fun U hU hW => ⟨rfl, by rw [hU], by rw [hU]; exact hPc, va_K.moved hW.alike hKc, hDc.weaken (fun _ _ _ _ => trivial), nzA_warm hW hz⟩⟩ rfl rfl hl.1 rfl (lv_room (Nat.le_of_ble_eq_true rfl)) dX6_passNumber_44 ⟨Nat.zero_le _, Nat.zero_le _⟩) hS (fun q _ h => hFc q h) hFc (fun u t H1 locs ht hvm hw hB hz1 hk1 hS => ?_)
        obtain ⟨y_203, y_204, y_205, gy_204, gy_205, hE, hP1, hD1⟩ := hB
        rw [ht] at hP1
        obtain ⟨hP, hD⟩ := va_join (wr := []) (w1 := [(h0, .inr (6, [.ref tp, .ref dr, .int y_198, .int y_199, .int y_203, .int y_204, .int y_205])), (tp, .inr (10, [.ref bt, .int b_length])), (bt, .inl (kbt, 1600, .inl fbt))]) hP hD [0, 1, 2] [] rfl rfl (by decide) (by decide) hk1 hFc hP1 hD1
        have hP := hP.sub (ws' := [(h0, .inr (6, [.ref tp, .ref dr, .int y_198, .int y_199, .int y_203, .int y_204, .int y_205])), (tp, .inr (10, [.ref bt, .int b_length])), (bt, .inl (kbt, 1600, .inl fbt))]) [0, 1, 2] rfl
        have hD := hD.sub (ws' := [(h0, .inr (6, [.ref tp, .ref dr, .int y_198, .int y_199, .int y_203, .int y_204, .int y_205])), (tp, .inr (10, [.ref bt, .int b_length])), (bt, .inl (kbt, 1600, .inl fbt))]) [0, 1, 2] (by decide) rfl
        have hF := gf_call (a := (y_203, y_204, y_205)) hE hF
        generalize H1 = H at hP hS ⊢
        refine lv_iload_n hx hb dX6_passNumber_47 rfl (lv_at hl 0 rfl) ?_
        exact W.iret (v := r_178) hx hb hr (fun t ht hW => ⟨⟨r_178, r_178, rfl, ⟨rfl, (gi_any r_178)⟩, y_198, y_199, y_203, y_204, y_205, (gi_w g_200 (by decide)), gy_204, gy_205, (show q_faultKind.toInt ≤ y_198.toInt from by have qgy_198 := g_200.1; have rgy_198 := g_200.2; have qgy_174 := g_177.1; have rgy_174 := g_177.2; have qgr_178 := g_196.1; have rgr_178 := g_196.2; have qgq_faultKind := gq_faultKind.1; have rgq_faultKind := gq_faultKind.2; have qgp2 := g_195.1; have rgp2 := g_195.2; omega), (show (y_198.toInt ≠ 0 ∨ (p1.toInt ≤ r_178.toInt ∧ r_178.toInt ≤ p2.toInt)) from by have qgy_198 := g_200.1; have rgy_198 := g_200.2; have qgy_174 := g_177.1; have rgy_174 := g_177.2; have qgr_178 := g_196.1; have rgr_178 := g_196.2; have qgq_faultKind := gq_faultKind.1; have rgq_faultKind := gq_faultKind.2; have qgp2 := g_195.1; have rgp2 := g_195.2; omega), hF.trans hR9.symm, by rw [ht]; exact hP, hD⟩, hS.F ht⟩) hS.2.2 dX6_passNumber_48
      · have hF := gf_neg c_193 hF
        have hc_206 : r_178.toInt ≤ p2.toInt := by have h9 := Int32.le_iff_toInt_le.mp (Int32.not_lt.mp c_193); exact h9
        refine lv_iconst (v := 1) hx hb dX6_passNumber_34 (by decide) ?_
        refine lv_goto (tgt := 39) hx hb dX6_passNumber_35 (by decide) ?_
        refine lv_iconst (v := 2) hx hb dX6_passNumber_39 (by decide) ?_
        have hPc := hP.sub (ws' := [(h0, .inr (6, [.ref tp, .ref dr, .int y_174, .int y_175, .int q_token, .int q_start, .int q_stop]))]) [0] rfl
        have hKc := hK.sub (tys' := []) [] rfl
        have hDc := hD.sub (ws' := [(h0, .inr (6, [.ref tp, .ref dr, .int y_174, .int y_175, .int q_token, .int q_start, .int q_stop]))]) [0] (by decide) rfl
        have hFc := va_free (wc := [(h0, .inr (6, [.ref tp, .ref dr, .int y_174, .int y_175, .int q_token, .int q_start, .int q_stop]))]) hD hS hA [0] rfl
        refine va_callv (va_runV (As := [.int 1, .int 2]) (rest := []) ⟨hx, hb, hml, hown, hts⟩ (sX6_expect l dC dI H.size h0 tp dr y_174 y_175 q_token q_start q_stop 1 2 (gi_w g_177 (by decide)) gq_start gq_stop (gi_w (gi_c 1 1 (by decide)) (by decide)) (gi_w (gi_c 2 2 (by decide)) (by decide))) (cwV 2 hts (gz_gV mGA_250 mGA_251 mGA_252 mGA_9 mGA_253 goodGA) rfl rfl rfl (by decide +kernel) ⟨Nat.le_of_ble_eq_true rfl, Nat.le_of_ble_eq_true rfl⟩) ⟨fun a U g mk q => by obtain ⟨q0, q1, qP, qK, qD, qZ⟩ := q; exact ⟨q0, q1, qP, va_K.moved (u := U) (U := U.calling g mk a) (Vm.Alike.refl U.vm) qK, qD, nzA_same (u := U) (U := U.calling g mk a) rfl qZ⟩, va_recv hKc hPc (ci := 6) (q0 := 0) rfl rfl, fun U hU hW => ⟨rfl, by rw [hU], by rw [hU]; exact hPc, va_K.moved hW.alike hKc, hDc.weaken (fun _ _ _ _ => trivial), nzA_warm hW hz⟩⟩ rfl rfl hl.1 rfl (lv_room (Nat.le_of_ble_eq_true rfl)) dX6_passNumber_40 ⟨Nat.zero_le _, Nat.zero_le _⟩) hS (fun q _ h => hFc q h) hFc (fun u t H1 locs ht hvm hw hB hz1 hk1 hS => ?_)
        obtain ⟨y_208, y_209, gy_208, hpr0_r_207, hpr1_r_207, hE, hP1, hD1⟩ := hB
        rw [ht] at hP1
        obtain ⟨hP, hD⟩ := va_join (wr := [(tp, .inr (10, [.ref bt, .int b_length])), (bt, .inl (kbt, 1600, .inl fbt))]) (w1 := [(h0, .inr (6, [.ref tp, .ref dr, .int y_208, .int y_209, .int q_token, .int q_start, .int q_stop]))]) hP hD [0] [1, 2] rfl rfl (by decide) (by decide) hk1 hFc hP1 hD1
        have hpr0_r_207 : y_174.toInt ≤ y_208.toInt := hpr0_r_207
        have g_210 : gi y_208 1 3 := gi_relL (show y_174.toInt ≤ y_208.toInt from by omega) g_177 gy_208
        have hpr1_r_207 : Hid (((1 : Int) = 1 ∨ 1 ≤ y_208.toInt)) := by have h9 : ((1 : Int32).toInt = 1 ∨ 1 ≤ y_208.toInt) := hpr1_r_207; rw [show (1 : Int32).toInt = 1 from by decide] at h9; exact h9
        have hP := hP.sub (ws' := [(h0, .inr (6, [.ref tp, .ref dr, .int y_208, .int y_209, .int q_token, .int q_start, .int q_stop])), (tp, .inr (10, [.ref bt, .int b_length])), (bt, .inl (kbt, 1600, .inl fbt))]) [2, 0, 1] rfl
        have hD := hD.sub (ws' := [(h0, .inr (6, [.ref tp, .ref dr, .int y_208, .int y_209, .int q_token, .int q_start, .int q_stop])), (tp, .inr (10, [.ref bt, .int b_length])), (bt, .inl (kbt, 1600, .inl fbt))]) [2, 0, 1] (by decide) rfl
        have hF := gf_call (a := (y_208, y_209)) hE hF
        generalize H1 = H at hP hS ⊢
        refine lv_aload_n hx hb dX6_passNumber_43 rfl (lv_at hl 1 rfl) ?_
        have hPc := hP.sub (ws' := [(h0, .inr (6, [.ref tp, .ref dr, .int y_208, .int y_209, .int q_token, .int q_start, .int q_stop])), (tp, .inr (10, [.ref bt, .int b_length])), (bt, .inl (kbt, 1600, .inl fbt))]) [0, 1, 2] rfl
        have hKc := hK.sub (tys' := [(kbt, .byte)]) [0] rfl
        have hDc := hD.sub (ws' := [(h0, .inr (6, [.ref tp, .ref dr, .int y_208, .int y_209, .int q_token, .int q_start, .int q_stop])), (tp, .inr (10, [.ref bt, .int b_length])), (bt, .inl (kbt, 1600, .inl fbt))]) [0, 1, 2] (by decide) rfl
        have hFc := va_free (wc := [(h0, .inr (6, [.ref tp, .ref dr, .int y_208, .int y_209, .int q_token, .int q_start, .int q_stop])), (tp, .inr (10, [.ref bt, .int b_length])), (bt, .inl (kbt, 1600, .inl fbt))]) hD hS hA [0, 1, 2] rfl
        refine va_callv (va_runV (As := []) (rest := []) ⟨hx, hb, hml, hown, hts⟩ (sX6_step l dC dI H.size h0 tp bt dr y_208 y_209 q_token q_start q_stop b_length kbt fbt (gi_w g_210 (by decide)) gq_start gq_stop gb_length) (cwV 0 hts (gz_gV mGA_162 mGA_163 mGA_164 mGA_9 mGA_165 goodGA) rfl rfl rfl (by decide +kernel) ⟨Nat.le_of_ble_eq_true rfl, Nat.le_of_ble_eq_true rfl⟩) ⟨fun a U g mk q => by obtain ⟨q0, q1, qP, qK, qD, qZ⟩ := q; exact ⟨q0, q1, qP, va_K.moved (u := U) (U := U.calling g mk a) (Vm.Alike.refl U.vm) qK, qD, nzA_same (u := U) (U := U.calling g mk a) rfl qZ⟩, va_recv hKc hPc (ci := 6) (q0 := 0) rfl rfl, fun U hU hW => ⟨rfl, by rw [hU], by rw [hU]; exact hPc, va_K.moved hW.alike hKc, hDc.weaken (fun _ _ _ _ => trivial), nzA_warm hW hz⟩⟩ rfl rfl hl.1 rfl (lv_room (Nat.le_of_ble_eq_true rfl)) dX6_passNumber_44 ⟨Nat.zero_le _, Nat.zero_le _⟩) hS (fun q _ h => hFc q h) hFc (fun u t H1 locs ht hvm hw hB hz1 hk1 hS => ?_)
        obtain ⟨y_212, y_213, y_214, gy_213, gy_214, hE, hP1, hD1⟩ := hB
        rw [ht] at hP1
        obtain ⟨hP, hD⟩ := va_join (wr := []) (w1 := [(h0, .inr (6, [.ref tp, .ref dr, .int y_208, .int y_209, .int y_212, .int y_213, .int y_214])), (tp, .inr (10, [.ref bt, .int b_length])), (bt, .inl (kbt, 1600, .inl fbt))]) hP hD [0, 1, 2] [] rfl rfl (by decide) (by decide) hk1 hFc hP1 hD1
        have hP := hP.sub (ws' := [(h0, .inr (6, [.ref tp, .ref dr, .int y_208, .int y_209, .int y_212, .int y_213, .int y_214])), (tp, .inr (10, [.ref bt, .int b_length])), (bt, .inl (kbt, 1600, .inl fbt))]) [0, 1, 2] rfl
        have hD := hD.sub (ws' := [(h0, .inr (6, [.ref tp, .ref dr, .int y_208, .int y_209, .int y_212, .int y_213, .int y_214])), (tp, .inr (10, [.ref bt, .int b_length])), (bt, .inl (kbt, 1600, .inl fbt))]) [0, 1, 2] (by decide) rfl
        have hF := gf_call (a := (y_212, y_213, y_214)) hE hF
        generalize H1 = H at hP hS ⊢
        refine lv_iload_n hx hb dX6_passNumber_47 rfl (lv_at hl 0 rfl) ?_
        exact W.iret (v := r_178) hx hb hr (fun t ht hW => ⟨⟨r_178, r_178, rfl, ⟨rfl, (gi_any r_178)⟩, y_208, y_209, y_212, y_213, y_214, (gi_w g_210 (by decide)), gy_213, gy_214, (show q_faultKind.toInt ≤ y_208.toInt from by have qgy_208 := g_210.1; have rgy_208 := g_210.2; have qgy_174 := g_177.1; have rgy_174 := g_177.2; have qgq_faultKind := gq_faultKind.1; have rgq_faultKind := gq_faultKind.2; omega), (show (y_208.toInt ≠ 0 ∨ (p1.toInt ≤ r_178.toInt ∧ r_178.toInt ≤ p2.toInt)) from by have qgy_208 := g_210.1; have rgy_208 := g_210.2; have qgy_174 := g_177.1; have rgy_174 := g_177.2; have qgq_faultKind := gq_faultKind.1; have rgq_faultKind := gq_faultKind.2; omega), hF.trans hR9.symm, by rw [ht]; exact hP, hD⟩, hS.F ht⟩) hS.2.2 dX6_passNumber_48
  · have hF := gf_pos c_171 hF
    have hc_215 : q_token.toInt = 3 := by have h9 := congrArg Int32.toInt c_171; rw [show (3 : Int32).toInt = 3 from by decide] at h9; exact h9
    have g_216 : gi q_token 3 3 := gi_eq c_171 (gi_c 3 3 (by decide))
    refine lv_iconst (v := 1) hx hb dX6_passNumber_9 (by decide) ?_
    refine lv_goto (tgt := 14) hx hb dX6_passNumber_10 (by decide) ?_
    refine lv_iconst (v := 1) hx hb dX6_passNumber_14 (by decide) ?_
    have hPc := hP.sub (ws' := [(h0, .inr (6, [.ref tp, .ref dr, .int q_faultKind, .int q_faultPlace, .int q_token, .int q_start, .int q_stop]))]) [0] rfl
    have hKc := hK.sub (tys' := []) [] rfl
    have hDc := hD.sub (ws' := [(h0, .inr (6, [.ref tp, .ref dr, .int q_faultKind, .int q_faultPlace, .int q_token, .int q_start, .int q_stop]))]) [0] (by decide) rfl
    have hFc := va_free (wc := [(h0, .inr (6, [.ref tp, .ref dr, .int q_faultKind, .int q_faultPlace, .int q_token, .int q_start, .int q_stop]))]) hD hS hA [0] rfl
    refine va_callv (va_runV (As := [.int 1, .int 1]) (rest := []) ⟨hx, hb, hml, hown, hts⟩ (sX6_expect l dC dI s.heap.size h0 tp dr q_faultKind q_faultPlace q_token q_start q_stop 1 1 gq_faultKind gq_start gq_stop (gi_w (gi_c 1 1 (by decide)) (by decide)) (gi_w (gi_c 1 1 (by decide)) (by decide))) (cwV 2 hts (gz_gV mGA_250 mGA_251 mGA_252 mGA_9 mGA_253 goodGA) rfl rfl rfl (by decide +kernel) ⟨Nat.le_of_ble_eq_true rfl, Nat.le_of_ble_eq_true rfl⟩) ⟨fun a U g mk q => by obtain ⟨q0, q1, qP, qK, qD, qZ⟩ := q; exact ⟨q0, q1, qP, va_K.moved (u := U) (U := U.calling g mk a) (Vm.Alike.refl U.vm) qK, qD, nzA_same (u := U) (U := U.calling g mk a) rfl qZ⟩, va_recv hKc hPc (ci := 6) (q0 := 0) rfl rfl, fun U hU hW => ⟨rfl, by rw [hU], by rw [hU]; exact hPc, va_K.moved hW.alike hKc, hDc.weaken (fun _ _ _ _ => trivial), nzA_warm hW hz⟩⟩ rfl rfl hl.1 rfl (lv_room (Nat.le_of_ble_eq_true rfl)) dX6_passNumber_15 ⟨Nat.zero_le _, Nat.zero_le _⟩) hS (fun q _ h => hFc q h) hFc (fun u t H1 locs ht hvm hw hB hz1 hk1 hS => ?_)
    obtain ⟨y_218, y_219, gy_218, hpr0_r_217, hpr1_r_217, hE, hP1, hD1⟩ := hB
    rw [ht] at hP1
    obtain ⟨hP, hD⟩ := va_join (wr := [(tp, .inr (10, [.ref bt, .int b_length])), (bt, .inl (kbt, 1600, .inl fbt))]) (w1 := [(h0, .inr (6, [.ref tp, .ref dr, .int y_218, .int y_219, .int q_token, .int q_start, .int q_stop]))]) hP hD [0] [1, 2] rfl rfl (by decide) (by decide) hk1 hFc hP1 hD1
    have hpr0_r_217 : q_faultKind.toInt ≤ y_218.toInt := hpr0_r_217
    have hpr1_r_217 : Hid (((1 : Int) = 1 ∨ 1 ≤ y_218.toInt)) := by have h9 : ((1 : Int32).toInt = 1 ∨ 1 ≤ y_218.toInt) := hpr1_r_217; rw [show (1 : Int32).toInt = 1 from by decide] at h9; exact h9
    have hP := hP.sub (ws' := [(h0, .inr (6, [.ref tp, .ref dr, .int y_218, .int y_219, .int q_token, .int q_start, .int q_stop])), (tp, .inr (10, [.ref bt, .int b_length])), (bt, .inl (kbt, 1600, .inl fbt))]) [2, 0, 1] rfl
    have hD := hD.sub (ws' := [(h0, .inr (6, [.ref tp, .ref dr, .int y_218, .int y_219, .int q_token, .int q_start, .int q_stop])), (tp, .inr (10, [.ref bt, .int b_length])), (bt, .inl (kbt, 1600, .inl fbt))]) [2, 0, 1] (by decide) rfl
    have hF := gf_call (a := (y_218, y_219)) hE hF
    generalize H1 = H at hP hS ⊢
    refine lv_aload_n hx hb dX6_passNumber_18 rfl (lv_at hl 0 rfl) ?_
    have hPc := hP.sub (ws' := [(h0, .inr (6, [.ref tp, .ref dr, .int y_218, .int y_219, .int q_token, .int q_start, .int q_stop])), (tp, .inr (10, [.ref bt, .int b_length])), (bt, .inl (kbt, 1600, .inl fbt))]) [0, 1, 2] rfl
    have hKc := hK.sub (tys' := [(kbt, .byte)]) [0] rfl
    refine va_calli (va_runV (As := []) (rest := []) ⟨hx, hb, hml, hown, hts⟩ (sX6_valueHere l dC dI h0 tp bt dr y_218 y_219 q_token q_start q_stop b_length kbt fbt gy_218 gq_start gq_stop gb_length) (cwV 0 hts (gz_gV mGA_262 mGA_263 mGA_264 mGA_9 mGA_265 goodGA) rfl rfl rfl (by decide +kernel) ⟨Nat.le_of_ble_eq_true rfl, Nat.le_of_ble_eq_true rfl⟩) ⟨fun a U g mk q => by obtain ⟨q0, qP, qK, qZ⟩ := q; exact ⟨q0, qP, va_K.moved (u := U) (U := U.calling g mk a) (Vm.Alike.refl U.vm) qK, nzA_same (u := U) (U := U.calling g mk a) rfl qZ⟩, va_recv hKc hPc (ci := 6) (q0 := 0) rfl rfl, fun U hU hW => ⟨rfl, by rw [hU]; exact hPc, va_K.moved hW.alike hKc, nzA_warm hW hz⟩⟩ rfl rfl hl.1 rfl (lv_room (Nat.le_of_ble_eq_true rfl)) dX6_passNumber_19 ⟨Nat.zero_le _, Nat.zero_le _⟩) hS (fun q _ h => h.elim) (fun q h => h.elim) (fun r_220 u t H1 locs ht hvm hw hB hz1 hk1 hS => ?_)
    obtain ⟨hw, hE⟩ := hw
    have hP := gz_keep hP hk1
    have hF := gf_call (a := r_220) hE hF
    generalize H1 = H at hP hS ⊢
    refine lv_istore_n (lv' := [(3, .int r_220), (0, .ref h0), (1, .int p1), (2, .int p2)]) hx hb dX6_passNumber_22 rfl hl (by decide) rfl (fun ls hl => ?_)
    refine lv_aload_n hx hb dX6_passNumber_23 rfl (lv_at hl 1 rfl) ?_
    refine lv_iload_n hx hb dX6_passNumber_24 rfl (lv_at hl 0 rfl) ?_
    refine lv_iload_n hx hb dX6_passNumber_25 rfl (lv_at hl 2 rfl) ?_
    refine lv_icmp_lt (tgt := 38) hx hb dX6_passNumber_26 (by decide) (fun c_221 => ?_) (fun c_221 => ?_)
    · have hF := gf_pos c_221 hF
      have hc_222 : r_220.toInt < p1.toInt := by have h9 := Int32.lt_iff_toInt_lt.mp c_221; exact h9
      have g_223 : gi r_220 (-2147483648) 2147483646 := gi_lt_l c_221 (gi_any r_220) (gi_any p1) (by decide)
      have g_224 : gi p1 (-2147483647) 2147483647 := gi_lt_r c_221 (gi_any r_220) (gi_any p1) (by decide)
      refine lv_iconst (v := 0) hx hb dX6_passNumber_38 (by decide) ?_
      refine lv_iconst (v := 2) hx hb dX6_passNumber_39 (by decide) ?_
      have hPc := hP.sub (ws' := [(h0, .inr (6, [.ref tp, .ref dr, .int y_218, .int y_219, .int q_token, .int q_start, .int q_stop]))]) [0] rfl
      have hKc := hK.sub (tys' := []) [] rfl
      have hDc := hD.sub (ws' := [(h0, .inr (6, [.ref tp, .ref dr, .int y_218, .int y_219, .int q_token, .int q_start, .int q_stop]))]) [0] (by decide) rfl
      have hFc := va_free (wc := [(h0, .inr (6, [.ref tp, .ref dr, .int y_218, .int y_219, .int q_token, .int q_start, .int q_stop]))]) hD hS hA [0] rfl
      refine va_callv (va_runV (As := [.int 0, .int 2]) (rest := []) ⟨hx, hb, hml, hown, hts⟩ (sX6_expect l dC dI H.size h0 tp dr y_218 y_219 q_token q_start q_stop 0 2 gy_218 gq_start gq_stop (gi_w (gi_c 0 0 (by decide)) (by decide)) (gi_w (gi_c 2 2 (by decide)) (by decide))) (cwV 2 hts (gz_gV mGA_250 mGA_251 mGA_252 mGA_9 mGA_253 goodGA) rfl rfl rfl (by decide +kernel) ⟨Nat.le_of_ble_eq_true rfl, Nat.le_of_ble_eq_true rfl⟩) ⟨fun a U g mk q => by obtain ⟨q0, q1, qP, qK, qD, qZ⟩ := q; exact ⟨q0, q1, qP, va_K.moved (u := U) (U := U.calling g mk a) (Vm.Alike.refl U.vm) qK, qD, nzA_same (u := U) (U := U.calling g mk a) rfl qZ⟩, va_recv hKc hPc (ci := 6) (q0 := 0) rfl rfl, fun U hU hW => ⟨rfl, by rw [hU], by rw [hU]; exact hPc, va_K.moved hW.alike hKc, hDc.weaken (fun _ _ _ _ => trivial), nzA_warm hW hz⟩⟩ rfl rfl hl.1 rfl (lv_room (Nat.le_of_ble_eq_true rfl)) dX6_passNumber_40 ⟨Nat.zero_le _, Nat.zero_le _⟩) hS (fun q _ h => hFc q h) hFc (fun u t H1 locs ht hvm hw hB hz1 hk1 hS => ?_)
      obtain ⟨y_226, y_227, gy_226, hpr0_r_225, hpr1_r_225, hE, hP1, hD1⟩ := hB
      rw [ht] at hP1
      obtain ⟨hP, hD⟩ := va_join (wr := [(tp, .inr (10, [.ref bt, .int b_length])), (bt, .inl (kbt, 1600, .inl fbt))]) (w1 := [(h0, .inr (6, [.ref tp, .ref dr, .int y_226, .int y_227, .int q_token, .int q_start, .int q_stop]))]) hP hD [0] [1, 2] rfl rfl (by decide) (by decide) hk1 hFc hP1 hD1
      have hpr0_r_225 : y_218.toInt ≤ y_226.toInt := hpr0_r_225
      have hpr1_r_225 : Hid (((0 : Int) = 1 ∨ 1 ≤ y_226.toInt)) := by have h9 : ((0 : Int32).toInt = 1 ∨ 1 ≤ y_226.toInt) := hpr1_r_225; rw [show (0 : Int32).toInt = 0 from by decide] at h9; exact h9
      have hf_228 : 1 ≤ y_226.toInt := Hid.resL hpr1_r_225 (by omega)
      have g_229 : gi y_226 1 3 := ⟨by omega, gy_226.2⟩
      have hP := hP.sub (ws' := [(h0, .inr (6, [.ref tp, .ref dr, .int y_226, .int y_227, .int q_token, .int q_start, .int q_stop])), (tp, .inr (10, [.ref bt, .int b_length])), (bt, .inl (kbt, 1600, .inl fbt))]) [2, 0, 1] rfl
      have hD := hD.sub (ws' := [(h0, .inr (6, [.ref tp, .ref dr, .int y_226, .int y_227, .int q_token, .int q_start, .int q_stop])), (tp, .inr (10, [.ref bt, .int b_length])), (bt, .inl (kbt, 1600, .inl fbt))]) [2, 0, 1] (by decide) rfl
      have hF := gf_call (a := (y_226, y_227)) hE hF
      generalize H1 = H at hP hS ⊢
      refine lv_aload_n hx hb dX6_passNumber_43 rfl (lv_at hl 1 rfl) ?_
      have hPc := hP.sub (ws' := [(h0, .inr (6, [.ref tp, .ref dr, .int y_226, .int y_227, .int q_token, .int q_start, .int q_stop])), (tp, .inr (10, [.ref bt, .int b_length])), (bt, .inl (kbt, 1600, .inl fbt))]) [0, 1, 2] rfl
      have hKc := hK.sub (tys' := [(kbt, .byte)]) [0] rfl
      have hDc := hD.sub (ws' := [(h0, .inr (6, [.ref tp, .ref dr, .int y_226, .int y_227, .int q_token, .int q_start, .int q_stop])), (tp, .inr (10, [.ref bt, .int b_length])), (bt, .inl (kbt, 1600, .inl fbt))]) [0, 1, 2] (by decide) rfl
      have hFc := va_free (wc := [(h0, .inr (6, [.ref tp, .ref dr, .int y_226, .int y_227, .int q_token, .int q_start, .int q_stop])), (tp, .inr (10, [.ref bt, .int b_length])), (bt, .inl (kbt, 1600, .inl fbt))]) hD hS hA [0, 1, 2] rfl
      refine va_callv (va_runV (As := []) (rest := []) ⟨hx, hb, hml, hown, hts⟩ (sX6_step l dC dI H.size h0 tp bt dr y_226 y_227 q_token q_start q_stop b_length kbt fbt (gi_w g_229 (by decide)) gq_start gq_stop gb_length) (cwV 0 hts (gz_gV mGA_162 mGA_163 mGA_164 mGA_9 mGA_165 goodGA) rfl rfl rfl (by decide +kernel) ⟨Nat.le_of_ble_eq_true rfl, Nat.le_of_ble_eq_true rfl⟩) ⟨fun a U g mk q => by obtain ⟨q0, q1, qP, qK, qD, qZ⟩ := q; exact ⟨q0, q1, qP, va_K.moved (u := U) (U := U.calling g mk a) (Vm.Alike.refl U.vm) qK, qD, nzA_same (u := U) (U := U.calling g mk a) rfl qZ⟩, va_recv hKc hPc (ci := 6) (q0 := 0) rfl rfl, fun U hU hW => ⟨rfl, by rw [hU], by rw [hU]; exact hPc, va_K.moved hW.alike hKc, hDc.weaken (fun _ _ _ _ => trivial), nzA_warm hW hz⟩⟩ rfl rfl hl.1 rfl (lv_room (Nat.le_of_ble_eq_true rfl)) dX6_passNumber_44 ⟨Nat.zero_le _, Nat.zero_le _⟩) hS (fun q _ h => hFc q h) hFc (fun u t H1 locs ht hvm hw hB hz1 hk1 hS => ?_)
      obtain ⟨y_231, y_232, y_233, gy_232, gy_233, hE, hP1, hD1⟩ := hB
      rw [ht] at hP1
      obtain ⟨hP, hD⟩ := va_join (wr := []) (w1 := [(h0, .inr (6, [.ref tp, .ref dr, .int y_226, .int y_227, .int y_231, .int y_232, .int y_233])), (tp, .inr (10, [.ref bt, .int b_length])), (bt, .inl (kbt, 1600, .inl fbt))]) hP hD [0, 1, 2] [] rfl rfl (by decide) (by decide) hk1 hFc hP1 hD1
      have hP := hP.sub (ws' := [(h0, .inr (6, [.ref tp, .ref dr, .int y_226, .int y_227, .int y_231, .int y_232, .int y_233])), (tp, .inr (10, [.ref bt, .int b_length])), (bt, .inl (kbt, 1600, .inl fbt))]) [0, 1, 2] rfl
      have hD := hD.sub (ws' := [(h0, .inr (6, [.ref tp, .ref dr, .int y_226, .int y_227, .int y_231, .int y_232, .int y_233])), (tp, .inr (10, [.ref bt, .int b_length])), (bt, .inl (kbt, 1600, .inl fbt))]) [0, 1, 2] (by decide) rfl
      have hF := gf_call (a := (y_231, y_232, y_233)) hE hF
      generalize H1 = H at hP hS ⊢
      refine lv_iload_n hx hb dX6_passNumber_47 rfl (lv_at hl 0 rfl) ?_
      exact W.iret (v := r_220) hx hb hr (fun t ht hW => ⟨⟨r_220, r_220, rfl, ⟨rfl, (gi_any r_220)⟩, y_226, y_227, y_231, y_232, y_233, (gi_w g_229 (by decide)), gy_232, gy_233, (show q_faultKind.toInt ≤ y_226.toInt from by have qgy_226 := g_229.1; have rgy_226 := g_229.2; have qgy_218 := gy_218.1; have rgy_218 := gy_218.2; have qgr_220 := g_223.1; have rgr_220 := g_223.2; have qgq_token := g_216.1; have rgq_token := g_216.2; have qgq_faultKind := gq_faultKind.1; have rgq_faultKind := gq_faultKind.2; have qgp1 := g_224.1; have rgp1 := g_224.2; omega), (show (y_226.toInt ≠ 0 ∨ (p1.toInt ≤ r_220.toInt ∧ r_220.toInt ≤ p2.toInt)) from by have qgy_226 := g_229.1; have rgy_226 := g_229.2; have qgy_218 := gy_218.1; have rgy_218 := gy_218.2; have qgr_220 := g_223.1; have rgr_220 := g_223.2; have qgq_token := g_216.1; have rgq_token := g_216.2; have qgq_faultKind := gq_faultKind.1; have rgq_faultKind := gq_faultKind.2; have qgp1 := g_224.1; have rgp1 := g_224.2; omega), hF.trans hR9.symm, by rw [ht]; exact hP, hD⟩, hS.F ht⟩) hS.2.2 dX6_passNumber_48
    · have hF := gf_neg c_221 hF
      have hc_234 : p1.toInt ≤ r_220.toInt := by have h9 := Int32.le_iff_toInt_le.mp (Int32.not_lt.mp c_221); exact h9
      refine lv_iload_n hx hb dX6_passNumber_29 rfl (lv_at hl 0 rfl) ?_
      refine lv_iload_n hx hb dX6_passNumber_30 rfl (lv_at hl 3 rfl) ?_
      refine lv_icmp_gt (tgt := 38) hx hb dX6_passNumber_31 (by decide) (fun c_235 => ?_) (fun c_235 => ?_)
      · have hF := gf_pos c_235 hF
        have hc_236 : p2.toInt < r_220.toInt := by have h9 := Int32.lt_iff_toInt_lt.mp c_235; exact h9
        have g_237 : gi p2 (-2147483648) 2147483646 := gi_lt_l c_235 (gi_any p2) (gi_any r_220) (by decide)
        have g_238 : gi r_220 (-2147483647) 2147483647 := gi_lt_r c_235 (gi_any p2) (gi_any r_220) (by decide)
        refine lv_iconst (v := 0) hx hb dX6_passNumber_38 (by decide) ?_
        refine lv_iconst (v := 2) hx hb dX6_passNumber_39 (by decide) ?_
        have hPc := hP.sub (ws' := [(h0, .inr (6, [.ref tp, .ref dr, .int y_218, .int y_219, .int q_token, .int q_start, .int q_stop]))]) [0] rfl
        have hKc := hK.sub (tys' := []) [] rfl
        have hDc := hD.sub (ws' := [(h0, .inr (6, [.ref tp, .ref dr, .int y_218, .int y_219, .int q_token, .int q_start, .int q_stop]))]) [0] (by decide) rfl
        have hFc := va_free (wc := [(h0, .inr (6, [.ref tp, .ref dr, .int y_218, .int y_219, .int q_token, .int q_start, .int q_stop]))]) hD hS hA [0] rfl
        refine va_callv (va_runV (As := [.int 0, .int 2]) (rest := []) ⟨hx, hb, hml, hown, hts⟩ (sX6_expect l dC dI H.size h0 tp dr y_218 y_219 q_token q_start q_stop 0 2 gy_218 gq_start gq_stop (gi_w (gi_c 0 0 (by decide)) (by decide)) (gi_w (gi_c 2 2 (by decide)) (by decide))) (cwV 2 hts (gz_gV mGA_250 mGA_251 mGA_252 mGA_9 mGA_253 goodGA) rfl rfl rfl (by decide +kernel) ⟨Nat.le_of_ble_eq_true rfl, Nat.le_of_ble_eq_true rfl⟩) ⟨fun a U g mk q => by obtain ⟨q0, q1, qP, qK, qD, qZ⟩ := q; exact ⟨q0, q1, qP, va_K.moved (u := U) (U := U.calling g mk a) (Vm.Alike.refl U.vm) qK, qD, nzA_same (u := U) (U := U.calling g mk a) rfl qZ⟩, va_recv hKc hPc (ci := 6) (q0 := 0) rfl rfl, fun U hU hW => ⟨rfl, by rw [hU], by rw [hU]; exact hPc, va_K.moved hW.alike hKc, hDc.weaken (fun _ _ _ _ => trivial), nzA_warm hW hz⟩⟩ rfl rfl hl.1 rfl (lv_room (Nat.le_of_ble_eq_true rfl)) dX6_passNumber_40 ⟨Nat.zero_le _, Nat.zero_le _⟩) hS (fun q _ h => hFc q h) hFc (fun u t H1 locs ht hvm hw hB hz1 hk1 hS => ?_)
        obtain ⟨y_240, y_241, gy_240, hpr0_r_239, hpr1_r_239, hE, hP1, hD1⟩ := hB
        rw [ht] at hP1
        obtain ⟨hP, hD⟩ := va_join (wr := [(tp, .inr (10, [.ref bt, .int b_length])), (bt, .inl (kbt, 1600, .inl fbt))]) (w1 := [(h0, .inr (6, [.ref tp, .ref dr, .int y_240, .int y_241, .int q_token, .int q_start, .int q_stop]))]) hP hD [0] [1, 2] rfl rfl (by decide) (by decide) hk1 hFc hP1 hD1
        have hpr0_r_239 : y_218.toInt ≤ y_240.toInt := hpr0_r_239
        have hpr1_r_239 : Hid (((0 : Int) = 1 ∨ 1 ≤ y_240.toInt)) := by have h9 : ((0 : Int32).toInt = 1 ∨ 1 ≤ y_240.toInt) := hpr1_r_239; rw [show (0 : Int32).toInt = 0 from by decide] at h9; exact h9
        have hf_242 : 1 ≤ y_240.toInt := Hid.resL hpr1_r_239 (by omega)
        have g_243 : gi y_240 1 3 := ⟨by omega, gy_240.2⟩
        have hP := hP.sub (ws' := [(h0, .inr (6, [.ref tp, .ref dr, .int y_240, .int y_241, .int q_token, .int q_start, .int q_stop])), (tp, .inr (10, [.ref bt, .int b_length])), (bt, .inl (kbt, 1600, .inl fbt))]) [2, 0, 1] rfl
        have hD := hD.sub (ws' := [(h0, .inr (6, [.ref tp, .ref dr, .int y_240, .int y_241, .int q_token, .int q_start, .int q_stop])), (tp, .inr (10, [.ref bt, .int b_length])), (bt, .inl (kbt, 1600, .inl fbt))]) [2, 0, 1] (by decide) rfl
        have hF := gf_call (a := (y_240, y_241)) hE hF
        generalize H1 = H at hP hS ⊢
        refine lv_aload_n hx hb dX6_passNumber_43 rfl (lv_at hl 1 rfl) ?_
        have hPc := hP.sub (ws' := [(h0, .inr (6, [.ref tp, .ref dr, .int y_240, .int y_241, .int q_token, .int q_start, .int q_stop])), (tp, .inr (10, [.ref bt, .int b_length])), (bt, .inl (kbt, 1600, .inl fbt))]) [0, 1, 2] rfl
        have hKc := hK.sub (tys' := [(kbt, .byte)]) [0] rfl
        have hDc := hD.sub (ws' := [(h0, .inr (6, [.ref tp, .ref dr, .int y_240, .int y_241, .int q_token, .int q_start, .int q_stop])), (tp, .inr (10, [.ref bt, .int b_length])), (bt, .inl (kbt, 1600, .inl fbt))]) [0, 1, 2] (by decide) rfl
        have hFc := va_free (wc := [(h0, .inr (6, [.ref tp, .ref dr, .int y_240, .int y_241, .int q_token, .int q_start, .int q_stop])), (tp, .inr (10, [.ref bt, .int b_length])), (bt, .inl (kbt, 1600, .inl fbt))]) hD hS hA [0, 1, 2] rfl
        refine va_callv (va_runV (As := []) (rest := []) ⟨hx, hb, hml, hown, hts⟩ (sX6_step l dC dI H.size h0 tp bt dr y_240 y_241 q_token q_start q_stop b_length kbt fbt (gi_w g_243 (by decide)) gq_start gq_stop gb_length) (cwV 0 hts (gz_gV mGA_162 mGA_163 mGA_164 mGA_9 mGA_165 goodGA) rfl rfl rfl (by decide +kernel) ⟨Nat.le_of_ble_eq_true rfl, Nat.le_of_ble_eq_true rfl⟩) ⟨fun a U g mk q => by obtain ⟨q0, q1, qP, qK, qD, qZ⟩ := q; exact ⟨q0, q1, qP, va_K.moved (u := U) (U := U.calling g mk a) (Vm.Alike.refl U.vm) qK, qD, nzA_same (u := U) (U := U.calling g mk a) rfl qZ⟩, va_recv hKc hPc (ci := 6) (q0 := 0) rfl rfl, fun U hU hW => ⟨rfl, by rw [hU], by rw [hU]; exact hPc, va_K.moved hW.alike hKc, hDc.weaken (fun _ _ _ _ => trivial), nzA_warm hW hz⟩⟩ rfl rfl hl.1 rfl (lv_room (Nat.le_of_ble_eq_true rfl)) dX6_passNumber_44 ⟨Nat.zero_le _, Nat.zero_le _⟩) hS (fun q _ h => hFc q h) hFc (fun u t H1 locs ht hvm hw hB hz1 hk1 hS => ?_)
        obtain ⟨y_245, y_246, y_247, gy_246, gy_247, hE, hP1, hD1⟩ := hB
        rw [ht] at hP1
        obtain ⟨hP, hD⟩ := va_join (wr := []) (w1 := [(h0, .inr (6, [.ref tp, .ref dr, .int y_240, .int y_241, .int y_245, .int y_246, .int y_247])), (tp, .inr (10, [.ref bt, .int b_length])), (bt, .inl (kbt, 1600, .inl fbt))]) hP hD [0, 1, 2] [] rfl rfl (by decide) (by decide) hk1 hFc hP1 hD1
        have hP := hP.sub (ws' := [(h0, .inr (6, [.ref tp, .ref dr, .int y_240, .int y_241, .int y_245, .int y_246, .int y_247])), (tp, .inr (10, [.ref bt, .int b_length])), (bt, .inl (kbt, 1600, .inl fbt))]) [0, 1, 2] rfl
        have hD := hD.sub (ws' := [(h0, .inr (6, [.ref tp, .ref dr, .int y_240, .int y_241, .int y_245, .int y_246, .int y_247])), (tp, .inr (10, [.ref bt, .int b_length])), (bt, .inl (kbt, 1600, .inl fbt))]) [0, 1, 2] (by decide) rfl
        have hF := gf_call (a := (y_245, y_246, y_247)) hE hF
        generalize H1 = H at hP hS ⊢
        refine lv_iload_n hx hb dX6_passNumber_47 rfl (lv_at hl 0 rfl) ?_
        exact W.iret (v := r_220) hx hb hr (fun t ht hW => ⟨⟨r_220, r_220, rfl, ⟨rfl, (gi_any r_220)⟩, y_240, y_241, y_245, y_246, y_247, (gi_w g_243 (by decide)), gy_246, gy_247, (show q_faultKind.toInt ≤ y_240.toInt from by have qgy_240 := g_243.1; have rgy_240 := g_243.2; have qgy_218 := gy_218.1; have rgy_218 := gy_218.2; have qgr_220 := g_238.1; have rgr_220 := g_238.2; have qgq_token := g_216.1; have rgq_token := g_216.2; have qgq_faultKind := gq_faultKind.1; have rgq_faultKind := gq_faultKind.2; have qgp2 := g_237.1; have rgp2 := g_237.2; omega), (show (y_240.toInt ≠ 0 ∨ (p1.toInt ≤ r_220.toInt ∧ r_220.toInt ≤ p2.toInt)) from by have qgy_240 := g_243.1; have rgy_240 := g_243.2; have qgy_218 := gy_218.1; have rgy_218 := gy_218.2; have qgr_220 := g_238.1; have rgr_220 := g_238.2; have qgq_token := g_216.1; have rgq_token := g_216.2; have qgq_faultKind := gq_faultKind.1; have rgq_faultKind := gq_faultKind.2; have qgp2 := g_237.1; have rgp2 := g_237.2; omega), hF.trans hR9.symm, by rw [ht]; exact hP, hD⟩, hS.F ht⟩) hS.2.2 dX6_passNumber_48
      · have hF := gf_neg c_235 hF
        have hc_248 : r_220.toInt ≤ p2.toInt := by have h9 := Int32.le_iff_toInt_le.mp (Int32.not_lt.mp c_235); exact h9
        refine lv_iconst (v := 1) hx hb dX6_passNumber_34 (by decide) ?_
        refine lv_goto (tgt := 39) hx hb dX6_passNumber_35 (by decide) ?_
        refine lv_iconst (v := 2) hx hb dX6_passNumber_39 (by decide) ?_
        have hPc := hP.sub (ws' := [(h0, .inr (6, [.ref tp, .ref dr, .int y_218, .int y_219, .int q_token, .int q_start, .int q_stop]))]) [0] rfl
        have hKc := hK.sub (tys' := []) [] rfl
        have hDc := hD.sub (ws' := [(h0, .inr (6, [.ref tp, .ref dr, .int y_218, .int y_219, .int q_token, .int q_start, .int q_stop]))]) [0] (by decide) rfl
        have hFc := va_free (wc := [(h0, .inr (6, [.ref tp, .ref dr, .int y_218, .int y_219, .int q_token, .int q_start, .int q_stop]))]) hD hS hA [0] rfl
        refine va_callv (va_runV (As := [.int 1, .int 2]) (rest := []) ⟨hx, hb, hml, hown, hts⟩ (sX6_expect l dC dI H.size h0 tp dr y_218 y_219 q_token q_start q_stop 1 2 gy_218 gq_start gq_stop (gi_w (gi_c 1 1 (by decide)) (by decide)) (gi_w (gi_c 2 2 (by decide)) (by decide))) (cwV 2 hts (gz_gV mGA_250 mGA_251 mGA_252 mGA_9 mGA_253 goodGA) rfl rfl rfl (by decide +kernel) ⟨Nat.le_of_ble_eq_true rfl, Nat.le_of_ble_eq_true rfl⟩) ⟨fun a U g mk q => by obtain ⟨q0, q1, qP, qK, qD, qZ⟩ := q; exact ⟨q0, q1, qP, va_K.moved (u := U) (U := U.calling g mk a) (Vm.Alike.refl U.vm) qK, qD, nzA_same (u := U) (U := U.calling g mk a) rfl qZ⟩, va_recv hKc hPc (ci := 6) (q0 := 0) rfl rfl, fun U hU hW => ⟨rfl, by rw [hU], by rw [hU]; exact hPc, va_K.moved hW.alike hKc, hDc.weaken (fun _ _ _ _ => trivial), nzA_warm hW hz⟩⟩ rfl rfl hl.1 rfl (lv_room (Nat.le_of_ble_eq_true rfl)) dX6_passNumber_40 ⟨Nat.zero_le _, Nat.zero_le _⟩) hS (fun q _ h => hFc q h) hFc (fun u t H1 locs ht hvm hw hB hz1 hk1 hS => ?_)
        obtain ⟨y_250, y_251, gy_250, hpr0_r_249, hpr1_r_249, hE, hP1, hD1⟩ := hB
        rw [ht] at hP1
        obtain ⟨hP, hD⟩ := va_join (wr := [(tp, .inr (10, [.ref bt, .int b_length])), (bt, .inl (kbt, 1600, .inl fbt))]) (w1 := [(h0, .inr (6, [.ref tp, .ref dr, .int y_250, .int y_251, .int q_token, .int q_start, .int q_stop]))]) hP hD [0] [1, 2] rfl rfl (by decide) (by decide) hk1 hFc hP1 hD1
        have hpr0_r_249 : y_218.toInt ≤ y_250.toInt := hpr0_r_249
        have hpr1_r_249 : Hid (((1 : Int) = 1 ∨ 1 ≤ y_250.toInt)) := by have h9 : ((1 : Int32).toInt = 1 ∨ 1 ≤ y_250.toInt) := hpr1_r_249; rw [show (1 : Int32).toInt = 1 from by decide] at h9; exact h9
        have hP := hP.sub (ws' := [(h0, .inr (6, [.ref tp, .ref dr, .int y_250, .int y_251, .int q_token, .int q_start, .int q_stop])), (tp, .inr (10, [.ref bt, .int b_length])), (bt, .inl (kbt, 1600, .inl fbt))]) [2, 0, 1] rfl
        have hD := hD.sub (ws' := [(h0, .inr (6, [.ref tp, .ref dr, .int y_250, .int y_251, .int q_token, .int q_start, .int q_stop])), (tp, .inr (10, [.ref bt, .int b_length])), (bt, .inl (kbt, 1600, .inl fbt))]) [2, 0, 1] (by decide) rfl
        have hF := gf_call (a := (y_250, y_251)) hE hF
        generalize H1 = H at hP hS ⊢
        refine lv_aload_n hx hb dX6_passNumber_43 rfl (lv_at hl 1 rfl) ?_
        have hPc := hP.sub (ws' := [(h0, .inr (6, [.ref tp, .ref dr, .int y_250, .int y_251, .int q_token, .int q_start, .int q_stop])), (tp, .inr (10, [.ref bt, .int b_length])), (bt, .inl (kbt, 1600, .inl fbt))]) [0, 1, 2] rfl
        have hKc := hK.sub (tys' := [(kbt, .byte)]) [0] rfl
        have hDc := hD.sub (ws' := [(h0, .inr (6, [.ref tp, .ref dr, .int y_250, .int y_251, .int q_token, .int q_start, .int q_stop])), (tp, .inr (10, [.ref bt, .int b_length])), (bt, .inl (kbt, 1600, .inl fbt))]) [0, 1, 2] (by decide) rfl
        have hFc := va_free (wc := [(h0, .inr (6, [.ref tp, .ref dr, .int y_250, .int y_251, .int q_token, .int q_start, .int q_stop])), (tp, .inr (10, [.ref bt, .int b_length])), (bt, .inl (kbt, 1600, .inl fbt))]) hD hS hA [0, 1, 2] rfl
        refine va_callv (va_runV (As := []) (rest := []) ⟨hx, hb, hml, hown, hts⟩ (sX6_step l dC dI H.size h0 tp bt dr y_250 y_251 q_token q_start q_stop b_length kbt fbt gy_250 gq_start gq_stop gb_length) (cwV 0 hts (gz_gV mGA_162 mGA_163 mGA_164 mGA_9 mGA_165 goodGA) rfl rfl rfl (by decide +kernel) ⟨Nat.le_of_ble_eq_true rfl, Nat.le_of_ble_eq_true rfl⟩) ⟨fun a U g mk q => by obtain ⟨q0, q1, qP, qK, qD, qZ⟩ := q; exact ⟨q0, q1, qP, va_K.moved (u := U) (U := U.calling g mk a) (Vm.Alike.refl U.vm) qK, qD, nzA_same (u := U) (U := U.calling g mk a) rfl qZ⟩, va_recv hKc hPc (ci := 6) (q0 := 0) rfl rfl, fun U hU hW => ⟨rfl, by rw [hU], by rw [hU]; exact hPc, va_K.moved hW.alike hKc, hDc.weaken (fun _ _ _ _ => trivial), nzA_warm hW hz⟩⟩ rfl rfl hl.1 rfl (lv_room (Nat.le_of_ble_eq_true rfl)) dX6_passNumber_44 ⟨Nat.zero_le _, Nat.zero_le _⟩) hS (fun q _ h => hFc q h) hFc (fun u t H1 locs ht hvm hw hB hz1 hk1 hS => ?_)
        obtain ⟨y_253, y_254, y_255, gy_254, gy_255, hE, hP1, hD1⟩ := hB
        rw [ht] at hP1
        obtain ⟨hP, hD⟩ := va_join (wr := []) (w1 := [(h0, .inr (6, [.ref tp, .ref dr, .int y_250, .int y_251, .int y_253, .int y_254, .int y_255])), (tp, .inr (10, [.ref bt, .int b_length])), (bt, .inl (kbt, 1600, .inl fbt))]) hP hD [0, 1, 2] [] rfl rfl (by decide) (by decide) hk1 hFc hP1 hD1
        have hP := hP.sub (ws' := [(h0, .inr (6, [.ref tp, .ref dr, .int y_250, .int y_251, .int y_253, .int y_254, .int y_255])), (tp, .inr (10, [.ref bt, .int b_length])), (bt, .inl (kbt, 1600, .inl fbt))]) [0, 1, 2] rfl
        have hD := hD.sub (ws' := [(h0, .inr (6, [.ref tp, .ref dr, .int y_250, .int y_251, .int y_253, .int y_254, .int y_255])), (tp, .inr (10, [.ref bt, .int b_length])), (bt, .inl (kbt, 1600, .inl fbt))]) [0, 1, 2] (by decide) rfl
        have hF := gf_call (a := (y_253, y_254, y_255)) hE hF
        generalize H1 = H at hP hS ⊢
        refine lv_iload_n hx hb dX6_passNumber_47 rfl (lv_at hl 0 rfl) ?_
        exact W.iret (v := r_220) hx hb hr (fun t ht hW => ⟨⟨r_220, r_220, rfl, ⟨rfl, (gi_any r_220)⟩, y_250, y_251, y_253, y_254, y_255, gy_250, gy_254, gy_255, (show q_faultKind.toInt ≤ y_250.toInt from by have qgy_250 := gy_250.1; have rgy_250 := gy_250.2; have qgy_218 := gy_218.1; have rgy_218 := gy_218.2; have qgq_token := g_216.1; have rgq_token := g_216.2; have qgq_faultKind := gq_faultKind.1; have rgq_faultKind := gq_faultKind.2; omega), (show (y_250.toInt ≠ 0 ∨ (p1.toInt ≤ r_220.toInt ∧ r_220.toInt ≤ p2.toInt)) from by by_cases h9 : y_250.toInt ≠ 0; exact Or.inl h9; refine Or.inr ?_; have lgq_faultKind := gq_faultKind.1; have mgq_faultKind := gq_faultKind.2; have lgy_218 := gy_218.1; have mgy_218 := gy_218.2; have lgy_250 := gy_250.1; have mgy_250 := gy_250.2; have qgy_250 := gy_250.1; have rgy_250 := gy_250.2; have qgy_218 := gy_218.1; have rgy_218 := gy_218.2; have qgq_token := g_216.1; have rgq_token := g_216.2; have qgq_faultKind := gq_faultKind.1; have rgq_faultKind := gq_faultKind.2; omega), hF.trans hR9.symm, by rw [ht]; exact hP, hD⟩, hS.F ht⟩) hS.2.2 dX6_passNumber_48
theorem dX6_isWord_0 : decode cX6_isWord 0 = .ok (.aload_n 0, 1) := by decide +kernel
theorem dX6_isWord_1 : decode cX6_isWord 1 = .ok (.getfield 32, 3) := by decide +kernel
theorem dX6_isWord_4 : decode cX6_isWord 4 = .ok (.iconst 2, 1) := by decide +kernel
theorem dX6_isWord_5 : decode cX6_isWord 5 = .ok (.if_icmp .ne 19, 3) := by decide +kernel
theorem dX6_isWord_8 : decode cX6_isWord 8 = .ok (.aload_n 0, 1) := by decide +kernel
theorem dX6_isWord_9 : decode cX6_isWord 9 = .ok (.getfield 38, 3) := by decide +kernel
theorem dX6_isWord_12 : decode cX6_isWord 12 = .ok (.aload_n 0, 1) := by decide +kernel
theorem dX6_isWord_13 : decode cX6_isWord 13 = .ok (.getfield 35, 3) := by decide +kernel
theorem dX6_isWord_16 : decode cX6_isWord 16 = .ok (.isub, 1) := by decide +kernel
theorem dX6_isWord_17 : decode cX6_isWord 17 = .ok (.aload_n 1, 1) := by decide +kernel
theorem dX6_isWord_18 : decode cX6_isWord 18 = .ok (.invokevirtual 196, 3) := by decide +kernel
theorem dX6_isWord_21 : decode cX6_isWord 21 = .ok (.if_icmp .eq 5, 3) := by decide +kernel
theorem dX6_isWord_24 : decode cX6_isWord 24 = .ok (.iconst 0, 1) := by decide +kernel
theorem dX6_isWord_25 : decode cX6_isWord 25 = .ok (.ireturn, 1) := by decide +kernel
theorem dX6_isWord_26 : decode cX6_isWord 26 = .ok (.iconst 0, 1) := by decide +kernel
theorem dX6_isWord_27 : decode cX6_isWord 27 = .ok (.istore_n 2, 1) := by decide +kernel
theorem dX6_isWord_28 : decode cX6_isWord 28 = .ok (.iload_n 2, 1) := by decide +kernel
theorem dX6_isWord_29 : decode cX6_isWord 29 = .ok (.aload_n 1, 1) := by decide +kernel
theorem dX6_isWord_30 : decode cX6_isWord 30 = .ok (.invokevirtual 196, 3) := by decide +kernel
theorem dX6_isWord_33 : decode cX6_isWord 33 = .ok (.if_icmp .ge 29, 3) := by decide +kernel
theorem dX6_isWord_36 : decode cX6_isWord 36 = .ok (.aload_n 0, 1) := by decide +kernel
theorem dX6_isWord_37 : decode cX6_isWord 37 = .ok (.aload_n 0, 1) := by decide +kernel
theorem dX6_isWord_38 : decode cX6_isWord 38 = .ok (.getfield 35, 3) := by decide +kernel
theorem dX6_isWord_41 : decode cX6_isWord 41 = .ok (.iload_n 2, 1) := by decide +kernel
theorem dX6_isWord_42 : decode cX6_isWord 42 = .ok (.iadd, 1) := by decide +kernel
theorem dX6_isWord_43 : decode cX6_isWord 43 = .ok (.invokevirtual 181, 3) := by decide +kernel
theorem dX6_isWord_46 : decode cX6_isWord 46 = .ok (.aload_n 1, 1) := by decide +kernel
theorem dX6_isWord_47 : decode cX6_isWord 47 = .ok (.iload_n 2, 1) := by decide +kernel
theorem dX6_isWord_48 : decode cX6_isWord 48 = .ok (.invokevirtual 201, 3) := by decide +kernel
theorem dX6_isWord_51 : decode cX6_isWord 51 = .ok (.if_icmp .eq 5, 3) := by decide +kernel
theorem dX6_isWord_54 : decode cX6_isWord 54 = .ok (.iconst 0, 1) := by decide +kernel
theorem dX6_isWord_55 : decode cX6_isWord 55 = .ok (.ireturn, 1) := by decide +kernel
theorem dX6_isWord_56 : decode cX6_isWord 56 = .ok (.iinc 2 1, 3) := by decide +kernel
theorem dX6_isWord_59 : decode cX6_isWord 59 = .ok (.goto (-31), 3) := by decide +kernel
theorem dX6_isWord_62 : decode cX6_isWord 62 = .ok (.iconst 1, 1) := by decide +kernel
theorem dX6_isWord_63 : decode cX6_isWord 63 = .ok (.ireturn, 1) := by decide +kernel
noncomputable def bfX6_isWord_24 (q_token : Int32) (q_start : Int32) (q_stop : Int32) (b_length : Int32) (fbt : Nat → Int32) (wi : Nat) (K : (Int32 → Int32)) : Int32 := (0 : Int32)
noncomputable def dfX6_isWord_28 (q_token : Int32) (q_start : Int32) (q_stop : Int32) (b_length : Int32) (fbt : Nat → Int32) (wi : Nat) (K : (Int32 → Int32)) (v2 : Int32) : Int32 := if (nI (stL wi).length) ≤ v2 then (1 : Int32) else (cal (fun o1 => if o1 = ((stL wi).getD v2.toNatClampNeg 0 &&& 255) then (K (v2 + (1 : Int32))) else (0 : Int32)) (fX6_byteAt b_length fbt (q_start + v2)))
noncomputable def lfX6_isWord (q_token : Int32) (q_start : Int32) (q_stop : Int32) (b_length : Int32) (fbt : Nat → Int32) (wi : Nat) (z : Nat) : (Int32 → Int32) := Nat.rec (motive := fun _ => (Int32 → Int32)) (fun _ => (0)) (fun _ K => dfX6_isWord_28 q_token q_start q_stop b_length fbt wi K) z
noncomputable def fX6_isWord (q_token : Int32) (q_start : Int32) (q_stop : Int32) (b_length : Int32) (fbt : Nat → Int32) (wi : Nat) : Int32 := if q_token = (2 : Int32) then (if (q_stop - q_start) = (nI (stL wi).length) then ((lfX6_isWord q_token q_start q_stop b_length fbt wi 1000000000) (0 : Int32)) else (bfX6_isWord_24 q_token q_start q_stop b_length fbt wi (lfX6_isWord q_token q_start q_stop b_length fbt wi 1000000000))) else (bfX6_isWord_24 q_token q_start q_stop b_length fbt wi (lfX6_isWord q_token q_start q_stop b_length fbt wi 1000000000))
set_option maxHeartbeats 4000000 in
set_option maxRecDepth 100000 in
theorem lp_sX6_isWord {p : Program} {l : Launch} {e : Env} {R : Room} {s : State} {m : MethodId} {args : Array Value} {below : List Frame} {meth : Method} {c : Code} {Q : State → Prop} {A : Nat → Prop} {cells slots : Nat} {dC : Nat → ClassId} {dI : Nat → Nat → Nat} {RES : Int32} (h0 : Nat) (tp : Nat) (bt : Nat) (dr : Nat) (q_faultKind : Int32) (q_faultPlace : Int32) (q_token : Int32) (q_start : Int32) (q_stop : Int32) (b_length : Int32) (kbt : ClassId) (fbt : Nat → Int32) (sa : Nat → Nat) (sb : Nat → Nat) (zf : Value) (wi : Nat) (gq_faultKind : gi q_faultKind 0 3) (gq_start : gi q_start 0 1600) (gq_stop : gi q_stop 0 1600) (gb_length : gi b_length 0 1600) (hwi : wi < 18) (hx : p.tables.exec = Jvm.exec) (hb : c.code = cX6_isWord) (hml : c.maxLocals = 3) (hown : s.vm.findClass RX6 = some m.cls) (hts : ∀ w ∈ ((.code yX6_isWord cX6_isWord 3 (some .boolean) :: wsGA) : List Cond), w.before args s = true) (hK : va_K (dC, dI) vwCl [(kbt, .byte)] s) (hz : nzA s) (hT : gz_ST RX6 stIA sa sb zf A s s.heap) (hRf : 4 ≤ R.frames) (hRl : 85 ≤ R.locals) (hRc : cells ≤ R.cells) (hRs : slots ≤ R.slots) (kr25 : ∀ (v : Int32) (H : Heap) (locs : List Loc) (ls : Array Slot), gi v 0 0 → v = RES → va_P (dC, dI) vwCl [(h0, .inr (6, [.ref tp, .ref dr, .int q_faultKind, .int q_faultPlace, .int q_token, .int q_start, .int q_stop])), (tp, .inr (10, [.ref bt, .int b_length])), (bt, .inl (kbt, 1600, .inl fbt))] H → va_S A s.heap H locs → lv_has ls 3 [] → W p l e R s m args below meth c H locs cells slots Q (F0 m 25 ls [.int v])) (kr63 : ∀ (v : Int32) (H : Heap) (locs : List Loc) (ls : Array Slot), gi v 1 1 → v = RES → va_P (dC, dI) vwCl [(h0, .inr (6, [.ref tp, .ref dr, .int q_faultKind, .int q_faultPlace, .int q_token, .int q_start, .int q_stop])), (tp, .inr (10, [.ref bt, .int b_length])), (bt, .inl (kbt, 1600, .inl fbt))] H → va_S A s.heap H locs → lv_has ls 3 [] → W p l e R s m args below meth c H locs cells slots Q (F0 m 63 ls [.int v])) (kr55 : ∀ (v : Int32) (H : Heap) (locs : List Loc) (ls : Array Slot), gi v 0 0 → v = RES → va_P (dC, dI) vwCl [(h0, .inr (6, [.ref tp, .ref dr, .int q_faultKind, .int q_faultPlace, .int q_token, .int q_start, .int q_stop])), (tp, .inr (10, [.ref bt, .int b_length])), (bt, .inl (kbt, 1600, .inl fbt))] H → va_S A s.heap H locs → lv_has ls 3 [] → W p l e R s m args below meth c H locs cells slots Q (F0 m 55 ls [.int v])) : ∀ z : Nat, (∀ (v2 : Int32) (H : Heap) (locs : List Loc) (ls : Array Slot), gi v2 0 8 → (lfX6_isWord q_token q_start q_stop b_length fbt wi z) v2 = RES → 17 + (-2) * v2.toInt < (z : Int) → va_P (dC, dI) vwCl [(h0, .inr (6, [.ref tp, .ref dr, .int q_faultKind, .int q_faultPlace, .int q_token, .int q_start, .int q_stop])), (tp, .inr (10, [.ref bt, .int b_length])), (bt, .inl (kbt, 1600, .inl fbt))] H → va_S A s.heap H locs → lv_has ls 3 [(0, .ref h0), (1, .ref (sa wi)), (2, .int v2)] → W p l e R s m args below meth c H locs cells slots Q (F0 m 28 ls [])) := by
  intro z
  induction z with
  | zero =>
    intro v2 H locs ls gv2 hF hmu hP hS hl
    exact absurd hmu (by have hv21 := gv2.1; have hv22 := gv2.2; omega)
  | succ z ih =>
      intro v2 H locs ls gv2 hF hmu hP hS hl
      have hF : dfX6_isWord_28 q_token q_start q_stop b_length fbt wi (lfX6_isWord q_token q_start q_stop b_length fbt wi z) v2 = RES := hF
      refine lv_iload_n hx hb dX6_isWord_28 rfl (lv_at hl 2 rfl) ?_
      refine lv_aload_n hx hb dX6_isWord_29 rfl (lv_at hl 1 rfl) ?_
      refine va_calli (va_runV (As := []) (rest := [.int v2]) ⟨hx, hb, hml, hown, hts⟩ (sJ0_lengthA l (sa wi) (sb wi) (stL wi) zf (stL_len wi hwi)) (cwV 0 hts (gz_gV mGA_201 mGA_202 mGA_203 mGA_204 mGA_205 goodGA) rfl rfl rfl (by decide +kernel) ⟨Nat.le_trans (Nat.le_of_ble_eq_true rfl) hRf, Nat.le_trans (Nat.le_of_ble_eq_true rfl) hRl⟩) ⟨fun a U g mk q => ⟨q.1, gz_sp.moved (u := U) (U := U.calling g mk a) (Vm.Alike.refl U.vm) q.2⟩, (by obtain ⟨cell, h1, h2, h3, -⟩ := ((hT.2 wi hwi).2).2.2.1.kept hS.2.1; exact ⟨cell, h1, h2, h3⟩), fun U hU hW => ⟨rfl, by show gz_sp _ _ _ _ _ U U.heap; rw [hU]; exact gz_sp.moved hW.alike (((hT.2 wi hwi).2.kept hS.2.1).narrow (fun _ h => h.elim))⟩⟩ rfl rfl hl.1 rfl (lv_room (Nat.le_of_ble_eq_true rfl)) dX6_isWord_30 ⟨hRc, hRs⟩) hS (fun q _ h => h.elim) (fun q h => h.elim) (fun r_185 u t H1 locs ht hvm hw hB hz1 hk1 hS => ?_)
      have hP := gz_keep hP hk1
      generalize H1 = H at hP hS ⊢
      have ewr_185 : r_185 = nI (stL wi).length := hw
      have gr_185 : gi r_185 0 7 := gz_len hw (stL_len wi hwi)
      have hnr_185 : r_185.toInt = ((stL wi).length : Int) := gz_lenI hw (stL_len wi hwi)
      refine lv_icmp_ge (tgt := 62) hx hb dX6_isWord_33 (by decide) (fun c_186 => ?_) (fun c_186 => ?_)
      · have hF := gf_pos (by rw [ewr_185] at c_186; exact c_186) hF
        have hc_187 : r_185.toInt ≤ v2.toInt := by have h9 := Int32.le_iff_toInt_le.mp c_186; exact h9
        refine lv_iconst (v := 1) hx hb dX6_isWord_62 (by decide) ?_
        exact kr63 1 _ _ _ (gi_c 1 1 (by decide)) hF hP hS (lv_sub hl [] rfl)
      · have hF := gf_neg (by rw [ewr_185] at c_186; exact c_186) hF
        have hc_188 : v2.toInt < r_185.toInt := by have h9 := Int32.lt_iff_toInt_lt.mp (Int32.not_le.mp c_186); exact h9
        have g_189 : gi v2 0 6 := gi_lt_l (Int32.not_le.mp c_186) gv2 gr_185 (by decide)
        have g_190 : gi r_185 1 7 := gi_lt_r (Int32.not_le.mp c_186) gv2 gr_185 (by decide)
        refine lv_aload_n hx hb dX6_isWord_36 rfl (lv_at hl 0 rfl) ?_
        refine lv_aload_n hx hb dX6_isWord_37 rfl (lv_at hl 0 rfl) ?_
        refine va_get (D := (dC, dI)) (ci := 6) (v := .int q_start) (C := RX6) (T := TX6) (N := 7) hx hb hts (fun w h => List.mem_cons_of_mem _ (jnGA_X6 w h)) hown hK hP 0 rfl rfl 5 (by decide) (hts _ (List.mem_cons_of_mem _ mGA_58)) (fun _ h9 => h9) rfl dX6_isWord_38 ?_
        refine lv_iload_n hx hb dX6_isWord_41 rfl (lv_at hl 2 rfl) ?_
        refine lv_iadd hx hb dX6_isWord_42 ?_
        refine lv_topi (fun x_191 ex_191 => ?_)
        have gx_191 : gi x_191 0 1606 := gi_add ex_191 gq_start g_189 (by decide)
        have hPc := hP.sub (ws' := [(h0, .inr (6, [.ref tp, .ref dr, .int q_faultKind, .int q_faultPlace, .int q_token, .int q_start, .int q_stop])), (tp, .inr (10, [.ref bt, .int b_length])), (bt, .inl (kbt, 1600, .inl fbt))]) [0, 1, 2] rfl
        have hKc := hK.sub (tys' := [(kbt, .byte)]) [0] rfl
        refine va_calli (va_runV (As := [.int x_191]) (rest := []) ⟨hx, hb, hml, hown, hts⟩ (sX6_byteAt l dC dI h0 tp bt dr q_faultKind q_faultPlace q_token q_start q_stop b_length kbt fbt x_191 gq_faultKind gq_start gq_stop gb_length) (cwV 1 hts (gz_gV mGA_167 mGA_168 mGA_169 mGA_9 mGA_170 goodGA) rfl rfl rfl (by decide +kernel) ⟨Nat.le_trans (Nat.le_of_ble_eq_true rfl) hRf, Nat.le_trans (Nat.le_of_ble_eq_true rfl) hRl⟩) ⟨fun a U g mk q => by obtain ⟨q0, qP, qK, qZ⟩ := q; exact ⟨q0, qP, va_K.moved (u := U) (U := U.calling g mk a) (Vm.Alike.refl U.vm) qK, nzA_same (u := U) (U := U.calling g mk a) rfl qZ⟩, va_recv hKc hPc (ci := 6) (q0 := 0) rfl rfl, fun U hU hW => ⟨rfl, by rw [hU]; exact hPc, va_K.moved hW.alike hKc, nzA_warm hW hz⟩⟩ rfl rfl hl.1 rfl (lv_room (Nat.le_of_ble_eq_true rfl)) dX6_isWord_43 ⟨hRc, hRs⟩) hS (fun q _ h => h.elim) (fun q h => h.elim) (fun r_192 u t H1 locs ht hvm hw hB hz1 hk1 hS => ?_)
        obtain ⟨hw, hE⟩ := hw
        have hP := gz_keep hP hk1
        have hF := gf_call (a := r_192) (by rw [ex_191] at hE; exact hE) hF
        generalize H1 = H at hP hS ⊢
        refine lv_aload_n hx hb dX6_isWord_46 rfl (lv_at hl 1 rfl) ?_
        refine lv_iload_n hx hb dX6_isWord_47 rfl (lv_at hl 2 rfl) ?_
        refine va_calli (va_runV (As := [.int v2]) (rest := [.int r_192]) ⟨hx, hb, hml, hown, hts⟩ (sJ0_charAtA l (sa wi) (sb wi) (stL wi) zf hT.1 (stL_len wi hwi) v2 (gz_nlt0 (by have qgv2 := g_189.1; have rgv2 := g_189.2; have qgr_185 := g_190.1; have rgr_185 := g_190.2; omega)) (gz_chi (by have qgv2 := g_189.1; have rgv2 := g_189.2; have qgr_185 := g_190.1; have rgr_185 := g_190.2; omega) (by have qgv2 := g_189.1; have rgv2 := g_189.2; have qgr_185 := g_190.1; have rgr_185 := g_190.2; omega))) (cwV 1 hts (gz_gV mGA_213 mGA_214 mGA_215 mGA_204 mGA_216 goodGA) rfl rfl rfl (by decide +kernel) ⟨Nat.le_trans (Nat.le_of_ble_eq_true rfl) hRf, Nat.le_trans (Nat.le_of_ble_eq_true rfl) hRl⟩) ⟨fun a U g mk q => ⟨q.1, gz_sp.moved (u := U) (U := U.calling g mk a) (Vm.Alike.refl U.vm) q.2⟩, (by obtain ⟨cell, h1, h2, h3, -⟩ := ((hT.2 wi hwi).2).2.2.1.kept hS.2.1; exact ⟨cell, h1, h2, h3⟩), fun U hU hW => ⟨rfl, by show gz_sp _ _ _ _ _ U U.heap; rw [hU]; exact gz_sp.moved hW.alike (((hT.2 wi hwi).2.kept hS.2.1).narrow (fun _ h => h.elim))⟩⟩ rfl rfl hl.1 rfl (lv_room (Nat.le_of_ble_eq_true rfl)) dX6_isWord_48 ⟨hRc, hRs⟩) hS (fun q _ h => h.elim) (fun q h => h.elim) (fun r_193 u t H1 locs ht hvm hw hB hz1 hk1 hS => ?_)
        have hP := gz_keep hP hk1
        generalize H1 = H at hP hS ⊢
        have her_193 : r_193 = (stL wi).getD v2.toNatClampNeg 0 &&& 255 := hw
        refine lv_icmp_eq (tgt := 56) hx hb dX6_isWord_51 (by decide) (fun c_194 => ?_) (fun c_194 => ?_)
        · have hF := gf_pos (by rw [her_193] at c_194; exact c_194) hF
          have hc_195 : r_192.toInt = r_193.toInt := by have h9 := congrArg Int32.toInt c_194; exact h9
          obtain ⟨x_196, ex_196⟩ : ∃ y : Int32, y = v2 + 1 := ⟨_, rfl⟩
          have gx_196 : gi x_196 1 7 := gi_add ex_196 g_189 (gi_c 1 1 (by decide)) (by decide)
          refine lv_iinc (v := x_196) (lv' := [(2, .int x_196), (0, .ref h0), (1, .ref (sa wi))]) hx hb dX6_isWord_56 hl (k := 2) rfl (by rw [ex_196]; rfl) (by decide) rfl (fun ls hl => ?_)
          refine lv_goto (tgt := 28) hx hb dX6_isWord_59 (by decide) ?_
          exact ih x_196 _ _ _ (gi_w gx_196 (by decide)) (by rw [ex_196]; exact hF) (by have av2 := gv2.1; have bv2 := gv2.2; have qgx_196 := gx_196.1; have rgx_196 := gx_196.2; have igx_196 : x_196.toInt = v2.toInt + 1 := (by have hc1 : (1 : Int32).toInt = 1 := (by decide); have h9 := gi_addI ex_196 (by have h1 := g_189.1; have h2 := (gi_c 1 1 (by decide)).1; have h3 := g_189.2; have h4 := (gi_c 1 1 (by decide)).2; omega) (by have h1 := g_189.1; have h2 := (gi_c 1 1 (by decide)).1; have h3 := g_189.2; have h4 := (gi_c 1 1 (by decide)).2; omega); rw [hc1] at h9; exact h9); have qgv2 := g_189.1; have rgv2 := g_189.2; omega) hP hS (lv_sub hl [1, 2, 0] rfl)
        · have hF := gf_neg (by rw [her_193] at c_194; exact c_194) hF
          have hc_197 : r_192.toInt ≠ r_193.toInt := fun h9 => c_194 (Int32.toInt_inj.mp (by exact h9))
          refine lv_iconst (v := 0) hx hb dX6_isWord_54 (by decide) ?_
          exact kr55 0 _ _ _ (gi_c 0 0 (by decide)) hF hP hS (lv_sub hl [] rfl)
set_option maxHeartbeats 4000000 in
set_option maxRecDepth 100000 in
theorem sX6_isWord (l : Launch) (dC : Nat → ClassId) (dI : Nat → Nat → Nat) (h0 : Nat) (tp : Nat) (bt : Nat) (dr : Nat) (q_faultKind : Int32) (q_faultPlace : Int32) (q_token : Int32) (q_start : Int32) (q_stop : Int32) (b_length : Int32) (kbt : ClassId) (fbt : Nat → Int32) (sa : Nat → Nat) (sb : Nat → Nat) (zf : Value) (wi : Nat) (gq_faultKind : gi q_faultKind 0 3) (gq_start : gi q_start 0 1600) (gq_stop : gi q_stop 0 1600) (gb_length : gi b_length 0 1600) (hwi : wi < 18) : Met l yX6_isWord (.code yX6_isWord cX6_isWord 3 (some .boolean) :: wsGA) ({ frames := 4, cells := 0, slots := 0, locals := 85 }) (va_Pc [.ref h0, .ref (sa wi)] (fun U => va_P (dC, dI) vwCl [(h0, .inr (6, [.ref tp, .ref dr, .int q_faultKind, .int q_faultPlace, .int q_token, .int q_start, .int q_stop])), (tp, .inr (10, [.ref bt, .int b_length])), (bt, .inl (kbt, 1600, .inl fbt))] U.heap ∧ va_K (dC, dI) vwCl [(kbt, .byte)] U ∧ nzA U ∧ gz_ST RX6 stIA sa sb zf (fun _ => False) U U.heap)) (va_Qi (fun (r : Int32) (u : Unit) => (gi r 0 1) ∧ r = fX6_isWord q_token q_start q_stop b_length fbt wi) (fun _ _ => True) (fun _ => False)) 0 0 (fun _ => False) := by
  refine Met.ofW (cc := cX6_isWord) (maxL := 3) (ret := (some .boolean)) (by decide) rfl ?_
  intro p e s m args below meth c s₁ B hml hv
  obtain ⟨rfl, hP, hK, hz, hT⟩ := hv
  have hx := B.exec
  have hb := B.bytes
  have hr := B.returns
  have hts := atoms_spec (ws := (.code yX6_isWord cX6_isWord 3 (some .boolean) :: wsGA)) B.pre
  have hown : s.vm.findClass RX6 = some m.cls := findClass_of_methodNamed B.named
  have hlocks := B.notSynchronized
  have hS : va_S (fun _ => False) s.heap s.heap [] := va_S.rf
  have hl := lv_entry ([.ref h0, .ref (sa wi)]) (n := 3) (Nat.le_of_ble_eq_true rfl)
  rw [lg_entry_eq]
  generalize (lg_sl ([.ref h0, .ref (sa wi)]) ++ List.replicate (3 - (lg_sl ([.ref h0, .ref (sa wi)])).length) Slot.unset).toArray = ls at hl ⊢
  have hl : lv_has ls 3 [(0, .ref h0), (1, .ref (sa wi))] := hl
  obtain ⟨RES, hF⟩ : ∃ R9, fX6_isWord q_token q_start q_stop b_length fbt wi = R9 := ⟨_, rfl⟩
  have hR9 := hF
  refine lv_aload_n hx hb dX6_isWord_0 rfl (lv_at hl 0 rfl) ?_
  refine va_get (D := (dC, dI)) (ci := 6) (v := .int q_token) (C := RX6) (T := TX6) (N := 7) hx hb hts (fun w h => List.mem_cons_of_mem _ (jnGA_X6 w h)) hown hK hP 0 rfl rfl 4 (by decide) (hts _ (List.mem_cons_of_mem _ mGA_57)) (fun _ h9 => h9) rfl dX6_isWord_1 ?_
  refine lv_iconst (v := 2) hx hb dX6_isWord_4 (by decide) ?_
  refine lv_icmp_ne (tgt := 24) hx hb dX6_isWord_5 (by decide) (fun c_198 => ?_) (fun c_198 => ?_)
  · have hF := gf_neg c_198 hF
    have hc_199 : q_token.toInt ≠ 2 := fun h9 => c_198 (Int32.toInt_inj.mp (by rw [show (2 : Int32).toInt = 2 from by decide]; exact h9))
    refine lv_iconst (v := 0) hx hb dX6_isWord_24 (by decide) ?_
    exact W.zret (v := 0) hx hb hr (by decide) (fun t ht hW => ⟨⟨0, (), rfl, ⟨(gi_w (gi_c 0 0 (by decide)) (by decide)), hF.trans hR9.symm⟩, trivial⟩, hS.F ht⟩) hS.2.2 dX6_isWord_25
  · have hF := gf_pos c_198 hF
    have hc_200 : q_token.toInt = 2 := by have h9 := congrArg Int32.toInt c_198; rw [show (2 : Int32).toInt = 2 from by decide] at h9; exact h9
    have g_201 : gi q_token 2 2 := gi_eq c_198 (gi_c 2 2 (by decide))
    refine lv_aload_n hx hb dX6_isWord_8 rfl (lv_at hl 0 rfl) ?_
    refine va_get (D := (dC, dI)) (ci := 6) (v := .int q_stop) (C := RX6) (T := TX6) (N := 7) hx hb hts (fun w h => List.mem_cons_of_mem _ (jnGA_X6 w h)) hown hK hP 0 rfl rfl 6 (by decide) (hts _ (List.mem_cons_of_mem _ mGA_59)) (fun _ h9 => h9) rfl dX6_isWord_9 ?_
    refine lv_aload_n hx hb dX6_isWord_12 rfl (lv_at hl 0 rfl) ?_
    refine va_get (D := (dC, dI)) (ci := 6) (v := .int q_start) (C := RX6) (T := TX6) (N := 7) hx hb hts (fun w h => List.mem_cons_of_mem _ (jnGA_X6 w h)) hown hK hP 0 rfl rfl 5 (by decide) (hts _ (List.mem_cons_of_mem _ mGA_58)) (fun _ h9 => h9) rfl dX6_isWord_13 ?_
    refine lv_isub hx hb dX6_isWord_16 ?_
    refine lv_topi (fun x_202 ex_202 => ?_)
    have gx_202 : gi x_202 (-1600) 1600 := gi_sub ex_202 gq_stop gq_start (by decide)
    refine lv_aload_n hx hb dX6_isWord_17 rfl (lv_at hl 1 rfl) ?_
    refine va_calli (va_runV (As := []) (rest := [.int x_202]) ⟨hx, hb, hml, hown, hts⟩ (sJ0_lengthA l (sa wi) (sb wi) (stL wi) zf (stL_len wi hwi)) (cwV 0 hts (gz_gV mGA_201 mGA_202 mGA_203 mGA_204 mGA_205 goodGA) rfl rfl rfl (by decide +kernel) ⟨Nat.le_of_ble_eq_true rfl, Nat.le_of_ble_eq_true rfl⟩) ⟨fun a U g mk q => ⟨q.1, gz_sp.moved (u := U) (U := U.calling g mk a) (Vm.Alike.refl U.vm) q.2⟩, (by obtain ⟨cell, h1, h2, h3, -⟩ := ((hT.2 wi hwi).2).2.2.1.kept hS.2.1; exact ⟨cell, h1, h2, h3⟩), fun U hU hW => ⟨rfl, by show gz_sp _ _ _ _ _ U U.heap; rw [hU]; exact gz_sp.moved hW.alike (((hT.2 wi hwi).2.kept hS.2.1).narrow (fun _ h => h.elim))⟩⟩ rfl rfl hl.1 rfl (lv_room (Nat.le_of_ble_eq_true rfl)) dX6_isWord_18 ⟨Nat.zero_le _, Nat.zero_le _⟩) hS (fun q _ h => h.elim) (fun q h => h.elim) (fun r_203 u t H1 locs ht hvm hw hB hz1 hk1 hS => ?_)
    have hP := gz_keep hP hk1
    generalize H1 = H at hP hS ⊢
    have ewr_203 : r_203 = nI (stL wi).length := hw
    have gr_203 : gi r_203 0 7 := gz_len hw (stL_len wi hwi)
    have hnr_203 : r_203.toInt = ((stL wi).length : Int) := gz_lenI hw (stL_len wi hwi)
    refine lv_icmp_eq (tgt := 26) hx hb dX6_isWord_21 (by decide) (fun c_204 => ?_) (fun c_204 => ?_)
    · have hF := gf_pos (by rw [ewr_203, ex_202] at c_204; exact c_204) hF
      have hc_205 : x_202.toInt = r_203.toInt := by have h9 := congrArg Int32.toInt c_204; exact h9
      have g_206 : gi x_202 0 7 := gi_eq c_204 gr_203
      refine lv_iconst (v := 0) hx hb dX6_isWord_26 (by decide) ?_
      refine lv_istore_n (lv' := [(2, .int 0), (0, .ref h0), (1, .ref (sa wi))]) hx hb dX6_isWord_27 rfl hl (by decide) rfl (fun ls hl => ?_)
      refine (lp_sX6_isWord h0 tp bt dr q_faultKind q_faultPlace q_token q_start q_stop b_length kbt fbt sa sb zf wi gq_faultKind gq_start gq_stop gb_length hwi hx hb hml hown hts hK hz hT (Nat.le_of_ble_eq_true rfl) (Nat.le_of_ble_eq_true rfl) (Nat.zero_le _) (Nat.zero_le _) (fun v H locs ls gv hF hP hS hl => ?_) (fun v H locs ls gv hF hP hS hl => ?_) (fun v H locs ls gv hF hP hS hl => ?_) 1000000000) 0 _ _ _ (gi_w (gi_c 0 0 (by decide)) (by decide)) hF (by have k0 : (0 : Int32).toInt = 0 := (by decide); omega) hP hS (lv_sub hl [1, 2, 0] rfl)
      · skip
        exact W.zret (v := v) hx hb hr (gz_nb (gi_w gv (by decide))) (fun t ht hW => ⟨⟨v, (), rfl, ⟨(gi_w gv (by decide)), hF.trans hR9.symm⟩, trivial⟩, hS.F ht⟩) hS.2.2 dX6_isWord_25
      · skip
        exact W.zret (v := v) hx hb hr (gz_nb (gi_w gv (by decide))) (fun t ht hW => ⟨⟨v, (), rfl, ⟨(gi_w gv (by decide)), hF.trans hR9.symm⟩, trivial⟩, hS.F ht⟩) hS.2.2 dX6_isWord_63
      · skip
        exact W.zret (v := v) hx hb hr (gz_nb (gi_w gv (by decide))) (fun t ht hW => ⟨⟨v, (), rfl, ⟨(gi_w gv (by decide)), hF.trans hR9.symm⟩, trivial⟩, hS.F ht⟩) hS.2.2 dX6_isWord_55
    · have hF := gf_neg (by rw [ewr_203, ex_202] at c_204; exact c_204) hF
      have hc_207 : x_202.toInt ≠ r_203.toInt := fun h9 => c_204 (Int32.toInt_inj.mp (by exact h9))
      refine lv_iconst (v := 0) hx hb dX6_isWord_24 (by decide) ?_
      exact W.zret (v := 0) hx hb hr (by decide) (fun t ht hW => ⟨⟨0, (), rfl, ⟨(gi_w (gi_c 0 0 (by decide)) (by decide)), hF.trans hR9.symm⟩, trivial⟩, hS.F ht⟩) hS.2.2 dX6_isWord_25
theorem dX6_passWord_0 : decode cX6_passWord 0 = .ok (.aload_n 0, 1) := by decide +kernel
theorem dX6_passWord_1 : decode cX6_passWord 1 = .ok (.aload_n 0, 1) := by decide +kernel
theorem dX6_passWord_2 : decode cX6_passWord 2 = .ok (.aload_n 1, 1) := by decide +kernel
theorem dX6_passWord_3 : decode cX6_passWord 3 = .ok (.invokevirtual 58, 3) := by decide +kernel
theorem dX6_passWord_6 : decode cX6_passWord 6 = .ok (.iconst 1, 1) := by decide +kernel
theorem dX6_passWord_7 : decode cX6_passWord 7 = .ok (.invokevirtual 166, 3) := by decide +kernel
theorem dX6_passWord_10 : decode cX6_passWord 10 = .ok (.aload_n 0, 1) := by decide +kernel
theorem dX6_passWord_11 : decode cX6_passWord 11 = .ok (.invokevirtual 44, 3) := by decide +kernel
theorem dX6_passWord_14 : decode cX6_passWord 14 = .ok (.return_, 1) := by decide +kernel
noncomputable def fX6_passWord (q_faultKind : Int32) (q_faultPlace : Int32) (q_token : Int32) (q_start : Int32) (q_stop : Int32) (b_length : Int32) (fbt : Nat → Int32) (wi : Nat) : Int32 × Int32 × Int32 × Int32 × Int32 := cal (fun o1 => cal (fun o2 => cal (fun o3 => (o2.1, o2.2, o3.1, o3.2.1, o3.2.2)) (fX6_step o2.1 q_token q_start q_stop b_length fbt)) (fX6_expect q_faultKind q_faultPlace q_start o1 (1 : Int32))) (fX6_isWord q_token q_start q_stop b_length fbt wi)
set_option maxHeartbeats 4000000 in
set_option maxRecDepth 100000 in
theorem sX6_passWord (l : Launch) (dC : Nat → ClassId) (dI : Nat → Nat → Nat) (sz : Nat) (h0 : Nat) (tp : Nat) (bt : Nat) (dr : Nat) (q_faultKind : Int32) (q_faultPlace : Int32) (q_token : Int32) (q_start : Int32) (q_stop : Int32) (b_length : Int32) (kbt : ClassId) (fbt : Nat → Int32) (sa : Nat → Nat) (sb : Nat → Nat) (zf : Value) (wi : Nat) (gq_faultKind : gi q_faultKind 0 3) (gq_start : gi q_start 0 1600) (gq_stop : gi q_stop 0 1600) (gb_length : gi b_length 0 1600) (hwi : wi < 18) : Met l yX6_passWord (.code yX6_passWord cX6_passWord 2 none :: wsGA) ({ frames := 5, cells := 0, slots := 0, locals := 107 }) (va_Pc [.ref h0, .ref (sa wi)] (fun U => U.heap.size = sz ∧ va_P (dC, dI) vwCl [(h0, .inr (6, [.ref tp, .ref dr, .int q_faultKind, .int q_faultPlace, .int q_token, .int q_start, .int q_stop])), (tp, .inr (10, [.ref bt, .int b_length])), (bt, .inl (kbt, 1600, .inl fbt))] U.heap ∧ va_K (dC, dI) vwCl [(kbt, .byte)] U ∧ va_D (fun _ => True) [(h0, .inr (6, [.ref tp, .ref dr, .int q_faultKind, .int q_faultPlace, .int q_token, .int q_start, .int q_stop])), (tp, .inr (10, [.ref bt, .int b_length])), (bt, .inl (kbt, 1600, .inl fbt))] ∧ nzA U ∧ gz_ST RX6 stIA sa sb zf (va_A [(h0, .inr (6, [.ref tp, .ref dr, .int q_faultKind, .int q_faultPlace, .int q_token, .int q_start, .int q_stop])), (tp, .inr (10, [.ref bt, .int b_length])), (bt, .inl (kbt, 1600, .inl fbt))] sz) U U.heap)) (va_Qv (fun (u : Unit) => True) (fun _ t => ∃ (w0_2 : Int32) (w0_3 : Int32) (w0_4 : Int32) (w0_5 : Int32) (w0_6 : Int32), gi w0_2 0 3 ∧ gi w0_5 0 1600 ∧ gi w0_6 0 1600 ∧ q_faultKind.toInt ≤ w0_2.toInt ∧ (w0_2, w0_3, w0_4, w0_5, w0_6) = fX6_passWord q_faultKind q_faultPlace q_token q_start q_stop b_length fbt wi ∧ va_P (dC, dI) vwCl [(h0, .inr (6, [.ref tp, .ref dr, .int w0_2, .int w0_3, .int w0_4, .int w0_5, .int w0_6])), (tp, .inr (10, [.ref bt, .int b_length])), (bt, .inl (kbt, 1600, .inl fbt))] t.heap ∧ va_D (va_A [(h0, .inr (6, [.ref tp, .ref dr, .int q_faultKind, .int q_faultPlace, .int q_token, .int q_start, .int q_stop])), (tp, .inr (10, [.ref bt, .int b_length])), (bt, .inl (kbt, 1600, .inl fbt))] sz) [(h0, .inr (6, [.ref tp, .ref dr, .int w0_2, .int w0_3, .int w0_4, .int w0_5, .int w0_6])), (tp, .inr (10, [.ref bt, .int b_length])), (bt, .inl (kbt, 1600, .inl fbt))]) (va_A [(h0, .inr (6, [.ref tp, .ref dr, .int q_faultKind, .int q_faultPlace, .int q_token, .int q_start, .int q_stop])), (tp, .inr (10, [.ref bt, .int b_length])), (bt, .inl (kbt, 1600, .inl fbt))] sz)) 0 0 (va_A [(h0, .inr (6, [.ref tp, .ref dr, .int q_faultKind, .int q_faultPlace, .int q_token, .int q_start, .int q_stop])), (tp, .inr (10, [.ref bt, .int b_length])), (bt, .inl (kbt, 1600, .inl fbt))] sz) := by
  refine Met.ofW (cc := cX6_passWord) (maxL := 2) (ret := none) (by decide) rfl ?_
  intro p e s m args below meth c s₁ B hml hv
  obtain ⟨rfl, hsz, hP, hK, hD0, hz, hT⟩ := hv
  have hx := B.exec
  have hb := B.bytes
  have hr := B.returns
  have hts := atoms_spec (ws := (.code yX6_passWord cX6_passWord 2 none :: wsGA)) B.pre
  have hown : s.vm.findClass RX6 = some m.cls := findClass_of_methodNamed B.named
  have hlocks := B.notSynchronized
  subst hsz
  have hD := hD0.self (sz := s.heap.size)
  generalize hAe : va_A [(h0, .inr (6, [.ref tp, .ref dr, .int q_faultKind, .int q_faultPlace, .int q_token, .int q_start, .int q_stop])), (tp, .inr (10, [.ref bt, .int b_length])), (bt, .inl (kbt, 1600, .inl fbt))] s.heap.size = A at hD hT ⊢
  have hA : ∀ q : Nat, s.heap.size ≤ q → A q := fun q h => by rw [← hAe]; exact Or.inr h
  have hS : va_S A s.heap s.heap [] := va_S.rf
  have hl := lv_entry ([.ref h0, .ref (sa wi)]) (n := 2) (Nat.le_of_ble_eq_true rfl)
  rw [lg_entry_eq]
  generalize (lg_sl ([.ref h0, .ref (sa wi)]) ++ List.replicate (2 - (lg_sl ([.ref h0, .ref (sa wi)])).length) Slot.unset).toArray = ls at hl ⊢
  have hl : lv_has ls 2 [(0, .ref h0), (1, .ref (sa wi))] := hl
  obtain ⟨RES, hF⟩ : ∃ R9, fX6_passWord q_faultKind q_faultPlace q_token q_start q_stop b_length fbt wi = R9 := ⟨_, rfl⟩
  have hR9 := hF
  refine lv_aload_n hx hb dX6_passWord_0 rfl (lv_at hl 0 rfl) ?_
  refine lv_aload_n hx hb dX6_passWord_1 rfl (lv_at hl 0 rfl) ?_
  refine lv_aload_n hx hb dX6_passWord_2 rfl (lv_at hl 1 rfl) ?_
  have hPc := hP.sub (ws' := [(h0, .inr (6, [.ref tp, .ref dr, .int q_faultKind, .int q_faultPlace, .int q_token, .int q_start, .int q_stop])), (tp, .inr (10, [.ref bt, .int b_length])), (bt, .inl (kbt, 1600, .inl fbt))]) [0, 1, 2] rfl
  have hKc := hK.sub (tys' := [(kbt, .byte)]) [0] rfl
  refine va_calli (va_runV (As := [.ref (sa wi)]) (rest := [.ref h0]) ⟨hx, hb, hml, hown, hts⟩ (sX6_isWord l dC dI h0 tp bt dr q_faultKind q_faultPlace q_token q_start q_stop b_length kbt fbt sa sb zf wi gq_faultKind gq_start gq_stop gb_length hwi) (cwV 1 hts (gz_gV mGA_197 mGA_198 mGA_199 mGA_9 mGA_200 goodGA) rfl rfl rfl (by decide +kernel) ⟨Nat.le_of_ble_eq_true rfl, Nat.le_of_ble_eq_true rfl⟩) ⟨fun a U g mk q => by obtain ⟨q0, qP, qK, qZ, qT⟩ := q; exact ⟨q0, qP, va_K.moved (u := U) (U := U.calling g mk a) (Vm.Alike.refl U.vm) qK, nzA_same (u := U) (U := U.calling g mk a) rfl qZ, gz_ST.same rfl qT⟩, va_recv hKc hPc (ci := 6) (q0 := 0) rfl rfl, fun U hU hW => ⟨rfl, by rw [hU]; exact hPc, va_K.moved hW.alike hKc, nzA_warm hW hz, by rw [hU]; exact ((hT.kept hS.2.1).narrow (fun _ h => h.elim)).warm hW⟩⟩ rfl rfl hl.1 rfl (lv_room (Nat.le_of_ble_eq_true rfl)) dX6_passWord_3 ⟨Nat.zero_le _, Nat.zero_le _⟩) hS (fun q _ h => h.elim) (fun q h => h.elim) (fun r_17 u t H1 locs ht hvm hw hB hz1 hk1 hS => ?_)
  obtain ⟨hw, hE⟩ := hw
  have hP := gz_keep hP hk1
  have hF := gf_call (a := r_17) hE hF
  generalize H1 = H at hP hS ⊢
  have gr_17 : gi r_17 0 1 := hw
  refine lv_iconst (v := 1) hx hb dX6_passWord_6 (by decide) ?_
  have hPc := hP.sub (ws' := [(h0, .inr (6, [.ref tp, .ref dr, .int q_faultKind, .int q_faultPlace, .int q_token, .int q_start, .int q_stop]))]) [0] rfl
  have hKc := hK.sub (tys' := []) [] rfl
  have hDc := hD.sub (ws' := [(h0, .inr (6, [.ref tp, .ref dr, .int q_faultKind, .int q_faultPlace, .int q_token, .int q_start, .int q_stop]))]) [0] (by decide) rfl
  have hFc := va_free (wc := [(h0, .inr (6, [.ref tp, .ref dr, .int q_faultKind, .int q_faultPlace, .int q_token, .int q_start, .int q_stop]))]) hD hS hA [0] rfl
  refine va_callv (va_runV (As := [.int r_17, .int 1]) (rest := []) ⟨hx, hb, hml, hown, hts⟩ (sX6_expect l dC dI H.size h0 tp dr q_faultKind q_faultPlace q_token q_start q_stop r_17 1 gq_faultKind gq_start gq_stop gr_17 (gi_w (gi_c 1 1 (by decide)) (by decide))) (cwV 2 hts (gz_gV mGA_250 mGA_251 mGA_252 mGA_9 mGA_253 goodGA) rfl rfl rfl (by decide +kernel) ⟨Nat.le_of_ble_eq_true rfl, Nat.le_of_ble_eq_true rfl⟩) ⟨fun a U g mk q => by obtain ⟨q0, q1, qP, qK, qD, qZ⟩ := q; exact ⟨q0, q1, qP, va_K.moved (u := U) (U := U.calling g mk a) (Vm.Alike.refl U.vm) qK, qD, nzA_same (u := U) (U := U.calling g mk a) rfl qZ⟩, va_recv hKc hPc (ci := 6) (q0 := 0) rfl rfl, fun U hU hW => ⟨rfl, by rw [hU], by rw [hU]; exact hPc, va_K.moved hW.alike hKc, hDc.weaken (fun _ _ _ _ => trivial), nzA_warm hW hz⟩⟩ rfl rfl hl.1 rfl (lv_room (Nat.le_of_ble_eq_true rfl)) dX6_passWord_7 ⟨Nat.zero_le _, Nat.zero_le _⟩) hS (fun q _ h => hFc q h) hFc (fun u t H1 locs ht hvm hw hB hz1 hk1 hS => ?_)
  obtain ⟨y_19, y_20, gy_19, hpr0_r_18, hpr1_r_18, hE, hP1, hD1⟩ := hB
  rw [ht] at hP1
  obtain ⟨hP, hD⟩ := va_join (wr := [(tp, .inr (10, [.ref bt, .int b_length])), (bt, .inl (kbt, 1600, .inl fbt))]) (w1 := [(h0, .inr (6, [.ref tp, .ref dr, .int y_19, .int y_20, .int q_token, .int q_start, .int q_stop]))]) hP hD [0] [1, 2] rfl rfl (by decide) (by decide) hk1 hFc hP1 hD1
  have hpr0_r_18 : q_faultKind.toInt ≤ y_19.toInt := hpr0_r_18
  have hpr1_r_18 : Hid ((r_17.toInt = 1 ∨ 1 ≤ y_19.toInt)) := hpr1_r_18
  have hP := hP.sub (ws' := [(h0, .inr (6, [.ref tp, .ref dr, .int y_19, .int y_20, .int q_token, .int q_start, .int q_stop])), (tp, .inr (10, [.ref bt, .int b_length])), (bt, .inl (kbt, 1600, .inl fbt))]) [2, 0, 1] rfl
  have hD := hD.sub (ws' := [(h0, .inr (6, [.ref tp, .ref dr, .int y_19, .int y_20, .int q_token, .int q_start, .int q_stop])), (tp, .inr (10, [.ref bt, .int b_length])), (bt, .inl (kbt, 1600, .inl fbt))]) [2, 0, 1] (by decide) rfl
  have hF := gf_call (a := (y_19, y_20)) hE hF
  generalize H1 = H at hP hS ⊢
  refine lv_aload_n hx hb dX6_passWord_10 rfl (lv_at hl 0 rfl) ?_
  have hPc := hP.sub (ws' := [(h0, .inr (6, [.ref tp, .ref dr, .int y_19, .int y_20, .int q_token, .int q_start, .int q_stop])), (tp, .inr (10, [.ref bt, .int b_length])), (bt, .inl (kbt, 1600, .inl fbt))]) [0, 1, 2] rfl
  have hKc := hK.sub (tys' := [(kbt, .byte)]) [0] rfl
  have hDc := hD.sub (ws' := [(h0, .inr (6, [.ref tp, .ref dr, .int y_19, .int y_20, .int q_token, .int q_start, .int q_stop])), (tp, .inr (10, [.ref bt, .int b_length])), (bt, .inl (kbt, 1600, .inl fbt))]) [0, 1, 2] (by decide) rfl
  have hFc := va_free (wc := [(h0, .inr (6, [.ref tp, .ref dr, .int y_19, .int y_20, .int q_token, .int q_start, .int q_stop])), (tp, .inr (10, [.ref bt, .int b_length])), (bt, .inl (kbt, 1600, .inl fbt))]) hD hS hA [0, 1, 2] rfl
  refine va_callv (va_runV (As := []) (rest := []) ⟨hx, hb, hml, hown, hts⟩ (sX6_step l dC dI H.size h0 tp bt dr y_19 y_20 q_token q_start q_stop b_length kbt fbt gy_19 gq_start gq_stop gb_length) (cwV 0 hts (gz_gV mGA_162 mGA_163 mGA_164 mGA_9 mGA_165 goodGA) rfl rfl rfl (by decide +kernel) ⟨Nat.le_of_ble_eq_true rfl, Nat.le_of_ble_eq_true rfl⟩) ⟨fun a U g mk q => by obtain ⟨q0, q1, qP, qK, qD, qZ⟩ := q; exact ⟨q0, q1, qP, va_K.moved (u := U) (U := U.calling g mk a) (Vm.Alike.refl U.vm) qK, qD, nzA_same (u := U) (U := U.calling g mk a) rfl qZ⟩, va_recv hKc hPc (ci := 6) (q0 := 0) rfl rfl, fun U hU hW => ⟨rfl, by rw [hU], by rw [hU]; exact hPc, va_K.moved hW.alike hKc, hDc.weaken (fun _ _ _ _ => trivial), nzA_warm hW hz⟩⟩ rfl rfl hl.1 rfl (lv_room (Nat.le_of_ble_eq_true rfl)) dX6_passWord_11 ⟨Nat.zero_le _, Nat.zero_le _⟩) hS (fun q _ h => hFc q h) hFc (fun u t H1 locs ht hvm hw hB hz1 hk1 hS => ?_)
  obtain ⟨y_22, y_23, y_24, gy_23, gy_24, hE, hP1, hD1⟩ := hB
  rw [ht] at hP1
  obtain ⟨hP, hD⟩ := va_join (wr := []) (w1 := [(h0, .inr (6, [.ref tp, .ref dr, .int y_19, .int y_20, .int y_22, .int y_23, .int y_24])), (tp, .inr (10, [.ref bt, .int b_length])), (bt, .inl (kbt, 1600, .inl fbt))]) hP hD [0, 1, 2] [] rfl rfl (by decide) (by decide) hk1 hFc hP1 hD1
  have hP := hP.sub (ws' := [(h0, .inr (6, [.ref tp, .ref dr, .int y_19, .int y_20, .int y_22, .int y_23, .int y_24])), (tp, .inr (10, [.ref bt, .int b_length])), (bt, .inl (kbt, 1600, .inl fbt))]) [0, 1, 2] rfl
  have hD := hD.sub (ws' := [(h0, .inr (6, [.ref tp, .ref dr, .int y_19, .int y_20, .int y_22, .int y_23, .int y_24])), (tp, .inr (10, [.ref bt, .int b_length])), (bt, .inl (kbt, 1600, .inl fbt))]) [0, 1, 2] (by decide) rfl
  have hF := gf_call (a := (y_22, y_23, y_24)) hE hF
  generalize H1 = H at hP hS ⊢
  exact W.vret hx hb hr (fun t ht hW => ⟨⟨(), rfl, trivial, y_19, y_20, y_22, y_23, y_24, gy_19, gy_23, gy_24, hpr0_r_18, hF.trans hR9.symm, by rw [ht]; exact hP, hD⟩, hS.F ht⟩) hS.2.2 dX6_passWord_14
