theorem dX11_end_0 : decode cX11_end 0 = .ok (.iload_n 1, 1) := by decide +kernel
theorem dX11_end_1 : decode cX11_end 1 = .ok (.ifCond .lt 17, 3) := by decide +kernel
theorem dX11_end_4 : decode cX11_end 4 = .ok (.iload_n 1, 1) := by decide +kernel
theorem dX11_end_5 : decode cX11_end 5 = .ok (.aload_n 0, 1) := by decide +kernel
theorem dX11_end_6 : decode cX11_end 6 = .ok (.getfield 12, 3) := by decide +kernel
theorem dX11_end_9 : decode cX11_end 9 = .ok (.getfield 89, 3) := by decide +kernel
theorem dX11_end_12 : decode cX11_end 12 = .ok (.getfield 93, 3) := by decide +kernel
theorem dX11_end_15 : decode cX11_end 15 = .ok (.if_icmp .le 5, 3) := by decide +kernel
theorem dX11_end_18 : decode cX11_end 18 = .ok (.iconst (-1), 1) := by decide +kernel
theorem dX11_end_19 : decode cX11_end 19 = .ok (.ireturn, 1) := by decide +kernel
theorem dX11_end_20 : decode cX11_end 20 = .ok (.aload_n 0, 1) := by decide +kernel
theorem dX11_end_21 : decode cX11_end 21 = .ok (.getfield 12, 3) := by decide +kernel
theorem dX11_end_24 : decode cX11_end 24 = .ok (.getfield 89, 3) := by decide +kernel
theorem dX11_end_27 : decode cX11_end 27 = .ok (.iload_n 1, 1) := by decide +kernel
theorem dX11_end_28 : decode cX11_end 28 = .ok (.putfield 93, 3) := by decide +kernel
theorem dX11_end_31 : decode cX11_end 31 = .ok (.iload_n 1, 1) := by decide +kernel
theorem dX11_end_32 : decode cX11_end 32 = .ok (.ireturn, 1) := by decide +kernel
set_option maxHeartbeats 4000000 in
set_option maxRecDepth 100000 in
theorem sX11_end (l : Launch) (dC : Nat → ClassId) (dI : Nat → Nat → Nat) (sz : Nat) (h0 : Nat) (xr : Nat) (tp : Nat) (am : Nat) (xs : Nat) (xf : Nat) (co : Nat) (oc : Nat) (ta : Nat) (xq : Nat) (xh : Nat) (xk : Nat) (xo : Nat) (x_outLength : Int32) (x_courtStands : Int32) (x_courtNews : Int32) (x_tallyStands : Int32) (x_historyStands : Int32) (dr : Nat) (q_faultKind : Int32) (q_faultPlace : Int32) (q_token : Int32) (q_start : Int32) (q_stop : Int32) (bt : Nat) (b_length : Int32) (p1 : Int32) (gx_outLength : gi x_outLength 0 72) (gx_courtStands : gi x_courtStands 0 1) (gx_tallyStands : gi x_tallyStands 0 1) (gx_historyStands : gi x_historyStands 0 1) (gq_start : gi q_start 0 1600) (gq_stop : gi q_stop 0 1600) (gb_length : gi b_length 0 1600) : Met l yX11_end (.code yX11_end cX11_end 2 (some .int) :: wsGA) ({ frames := 0, cells := 0, slots := 0, locals := 0 }) (va_Pc [.ref h0, .int p1] (fun U => U.heap.size = sz ∧ va_P (dC, dI) vwCl [(h0, .inr (11, [.ref xr, .ref am, .ref xs, .ref xf, .ref co, .ref oc, .ref ta, .ref xq, .ref xh, .ref xk, .ref xo, .int x_outLength, .int x_courtStands, .int x_courtNews, .int x_tallyStands, .int x_historyStands])), (xr, .inr (6, [.ref tp, .ref dr, .int q_faultKind, .int q_faultPlace, .int q_token, .int q_start, .int q_stop])), (tp, .inr (10, [.ref bt, .int b_length]))] U.heap ∧ va_K (dC, dI) vwCl [] U ∧ va_D (fun _ => True) [(h0, .inr (11, [.ref xr, .ref am, .ref xs, .ref xf, .ref co, .ref oc, .ref ta, .ref xq, .ref xh, .ref xk, .ref xo, .int x_outLength, .int x_courtStands, .int x_courtNews, .int x_tallyStands, .int x_historyStands])), (xr, .inr (6, [.ref tp, .ref dr, .int q_faultKind, .int q_faultPlace, .int q_token, .int q_start, .int q_stop])), (tp, .inr (10, [.ref bt, .int b_length]))] ∧ nzA U)) (va_Qi (fun (r : Int32) (u : Unit) => gi r (-1) 1600 ∧ ((0 ≤ p1.toInt ∧ p1.toInt ≤ b_length.toInt ∧ r.toInt = p1.toInt) ∨ ((p1.toInt < 0 ∨ b_length.toInt < p1.toInt) ∧ r.toInt = -1))) (fun _ t => ∃ (w2_1 : Int32), gi w2_1 0 1600 ∧ ((0 ≤ p1.toInt ∧ p1.toInt ≤ b_length.toInt ∧ w2_1.toInt = p1.toInt) ∨ ((p1.toInt < 0 ∨ b_length.toInt < p1.toInt) ∧ w2_1.toInt = b_length.toInt)) ∧ va_P (dC, dI) vwCl [(h0, .inr (11, [.ref xr, .ref am, .ref xs, .ref xf, .ref co, .ref oc, .ref ta, .ref xq, .ref xh, .ref xk, .ref xo, .int x_outLength, .int x_courtStands, .int x_courtNews, .int x_tallyStands, .int x_historyStands])), (xr, .inr (6, [.ref tp, .ref dr, .int q_faultKind, .int q_faultPlace, .int q_token, .int q_start, .int q_stop])), (tp, .inr (10, [.ref bt, .int w2_1]))] t.heap ∧ va_D (va_A [(h0, .inr (11, [.ref xr, .ref am, .ref xs, .ref xf, .ref co, .ref oc, .ref ta, .ref xq, .ref xh, .ref xk, .ref xo, .int x_outLength, .int x_courtStands, .int x_courtNews, .int x_tallyStands, .int x_historyStands])), (xr, .inr (6, [.ref tp, .ref dr, .int q_faultKind, .int q_faultPlace, .int q_token, .int q_start, .int q_stop])), (tp, .inr (10, [.ref bt, .int b_length]))] sz) [(h0, .inr (11, [.ref xr, .ref am, .ref xs, .ref xf, .ref co, .ref oc, .ref ta, .ref xq, .ref xh, .ref xk, .ref xo, .int x_outLength, .int x_courtStands, .int x_courtNews, .int x_tallyStands, .int x_historyStands])), (xr, .inr (6, [.ref tp, .ref dr, .int q_faultKind, .int q_faultPlace, .int q_token, .int q_start, .int q_stop])), (tp, .inr (10, [.ref bt, .int w2_1]))]) (va_A [(h0, .inr (11, [.ref xr, .ref am, .ref xs, .ref xf, .ref co, .ref oc, .ref ta, .ref xq, .ref xh, .ref xk, .ref xo, .int x_outLength, .int x_courtStands, .int x_courtNews, .int x_tallyStands, .int x_historyStands])), (xr, .inr (6, [.ref tp, .ref dr, .int q_faultKind, .int q_faultPlace, .int q_token, .int q_start, .int q_stop])), (tp, .inr (10, [.ref bt, .int b_length]))] sz)) 0 0 (va_A [(h0, .inr (11, [.ref xr, .ref am, .ref xs, .ref xf, .ref co, .ref oc, .ref ta, .ref xq, .ref xh, .ref xk, .ref xo, .int x_outLength, .int x_courtStands, .int x_courtNews, .int x_tallyStands, .int x_historyStands])), (xr, .inr (6, [.ref tp, .ref dr, .int q_faultKind, .int q_faultPlace, .int q_token, .int q_start, .int q_stop])), (tp, .inr (10, [.ref bt, .int b_length]))] sz) := by
  refine Met.ofW (cc := cX11_end) (maxL := 2) (ret := (some .int)) (by decide) rfl ?_
  intro p e s m args below meth c s₁ B hml hv
  obtain ⟨rfl, hsz, hP, hK, hD0, hz⟩ := hv
  have hx := B.exec
  have hb := B.bytes
  have hr := B.returns
  have hts := atoms_spec (ws := (.code yX11_end cX11_end 2 (some .int) :: wsGA)) B.pre
  have hown : s.vm.findClass RX11 = some m.cls := findClass_of_methodNamed B.named
  have hlocks := B.notSynchronized
  subst hsz
  have hD := hD0.self (sz := s.heap.size)
  generalize hAe : va_A [(h0, .inr (11, [.ref xr, .ref am, .ref xs, .ref xf, .ref co, .ref oc, .ref ta, .ref xq, .ref xh, .ref xk, .ref xo, .int x_outLength, .int x_courtStands, .int x_courtNews, .int x_tallyStands, .int x_historyStands])), (xr, .inr (6, [.ref tp, .ref dr, .int q_faultKind, .int q_faultPlace, .int q_token, .int q_start, .int q_stop])), (tp, .inr (10, [.ref bt, .int b_length]))] s.heap.size = A at hD ⊢
  have hA : ∀ q : Nat, s.heap.size ≤ q → A q := fun q h => by rw [← hAe]; exact Or.inr h
  have hS : va_S A s.heap s.heap [] := va_S.rf
  have hl := lv_entry ([.ref h0, .int p1]) (n := 2) (Nat.le_of_ble_eq_true rfl)
  rw [lg_entry_eq]
  generalize (lg_sl ([.ref h0, .int p1]) ++ List.replicate (2 - (lg_sl ([.ref h0, .int p1])).length) Slot.unset).toArray = ls at hl ⊢
  have hl : lv_has ls 2 [(0, .ref h0), (1, .int p1)] := hl
  refine lv_iload_n hx hb dX11_end_0 rfl (lv_at hl 1 rfl) ?_
  refine lv_if_lt (tgt := 18) hx hb dX11_end_1 (by decide) (fun c_21 => ?_) (fun c_21 => ?_)
  · have hc_22 : p1.toInt < 0 := by have h9 := Int32.lt_iff_toInt_lt.mp c_21; rw [show (0 : Int32).toInt = 0 from by decide] at h9; exact h9
    have g_23 : gi p1 (-2147483648) (-1) := gi_lt_l c_21 (gi_any p1) (gi_c 0 0 (by decide)) (by decide)
    refine lv_iconst (v := (-1)) hx hb dX11_end_18 (by decide) ?_
    exact W.iret (v := (-1)) hx hb hr (fun t ht hW => ⟨⟨(-1), (), rfl, ⟨(gi_w (gi_c (-1) (-1) (by decide)) (by decide)), (show ((0 ≤ p1.toInt ∧ p1.toInt ≤ b_length.toInt ∧ ((-1) : Int32).toInt = p1.toInt) ∨ ((p1.toInt < 0 ∨ b_length.toInt < p1.toInt) ∧ ((-1) : Int32).toInt = -1)) from by have km1 : ((-1) : Int32).toInt = (-1) := (by decide); have qgp1 := g_23.1; have rgp1 := g_23.2; have qgb_length := gb_length.1; have rgb_length := gb_length.2; omega)⟩, b_length, gb_length, (show ((0 ≤ p1.toInt ∧ p1.toInt ≤ b_length.toInt ∧ b_length.toInt = p1.toInt) ∨ ((p1.toInt < 0 ∨ b_length.toInt < p1.toInt) ∧ b_length.toInt = b_length.toInt)) from by have qgp1 := g_23.1; have rgp1 := g_23.2; have qgb_length := gb_length.1; have rgb_length := gb_length.2; omega), by rw [ht]; exact hP, hD⟩, hS.F ht⟩) hS.2.2 dX11_end_19
  · have hc_24 : 0 ≤ p1.toInt := by have h9 := Int32.le_iff_toInt_le.mp (Int32.not_lt.mp c_21); rw [show (0 : Int32).toInt = 0 from by decide] at h9; exact h9
    have g_25 : gi p1 0 2147483647 := gi_le_r (Int32.not_lt.mp c_21) (gi_c 0 0 (by decide)) (gi_any p1)
    refine lv_iload_n hx hb dX11_end_4 rfl (lv_at hl 1 rfl) ?_
    refine lv_aload_n hx hb dX11_end_5 rfl (lv_at hl 0 rfl) ?_
    refine va_get (D := (dC, dI)) (ci := 11) (v := .ref xr) (C := RX11) (T := TX11) (N := 16) hx hb hts (fun w h => List.mem_cons_of_mem _ (jnGA_X11 w h)) hown hK hP 0 rfl rfl 0 (by decide) (hts _ (List.mem_cons_of_mem _ mGA_10)) (fun _ h9 => h9) rfl dX11_end_6 ?_
    refine va_get (D := (dC, dI)) (ci := 6) (v := .ref tp) (C := RX6) (T := TX6) (N := 7) hx hb hts (fun w h => List.mem_cons_of_mem _ (jnGA_X6 w h)) hown hK hP 1 rfl rfl 0 (by decide) (hts _ (List.mem_cons_of_mem _ mGA_129)) (fun _ h9 => h9) rfl dX11_end_9 ?_
    refine va_get (D := (dC, dI)) (ci := 10) (v := .int b_length) (C := RX10) (T := TX10) (N := 2) hx hb hts (fun w h => List.mem_cons_of_mem _ (jnGA_X10 w h)) hown hK hP 2 rfl rfl 1 (by decide) (hts _ (List.mem_cons_of_mem _ mGA_130)) (fun _ h9 => h9) rfl dX11_end_12 ?_
    refine lv_icmp_le (tgt := 20) hx hb dX11_end_15 (by decide) (fun c_26 => ?_) (fun c_26 => ?_)
    · have hc_27 : p1.toInt ≤ b_length.toInt := by have h9 := Int32.le_iff_toInt_le.mp c_26; exact h9
      have g_28 : gi p1 0 1600 := gi_le_l c_26 g_25 gb_length
      refine lv_aload_n hx hb dX11_end_20 rfl (lv_at hl 0 rfl) ?_
      refine va_get (D := (dC, dI)) (ci := 11) (v := .ref xr) (C := RX11) (T := TX11) (N := 16) hx hb hts (fun w h => List.mem_cons_of_mem _ (jnGA_X11 w h)) hown hK hP 0 rfl rfl 0 (by decide) (hts _ (List.mem_cons_of_mem _ mGA_10)) (fun _ h9 => h9) rfl dX11_end_21 ?_
      refine va_get (D := (dC, dI)) (ci := 6) (v := .ref tp) (C := RX6) (T := TX6) (N := 7) hx hb hts (fun w h => List.mem_cons_of_mem _ (jnGA_X6 w h)) hown hK hP 1 rfl rfl 0 (by decide) (hts _ (List.mem_cons_of_mem _ mGA_129)) (fun _ h9 => h9) rfl dX11_end_24 ?_
      refine lv_iload_n hx hb dX11_end_27 rfl (lv_at hl 1 rfl) ?_
      refine va_put (D := (dC, dI)) (ci := 10) (v := .int p1) (ty := .int) (C := RX10) (T := TX10) (N := 2) hx hb hts (fun w h => List.mem_cons_of_mem _ (jnGA_X10 w h)) tyX10 tyX10_ok nmX10 hown hK hP hD hS 2 rfl rfl 1 (by decide) (hts _ (List.mem_cons_of_mem _ mGA_130)) (fun _ h9 => h9) rfl (by decide +kernel) rfl rfl (Nat.le_of_ble_eq_true rfl) dX11_end_28 (fun H locs hP hD hS => ?_)
      have hP : va_P (dC, dI) vwCl [(h0, .inr (11, [.ref xr, .ref am, .ref xs, .ref xf, .ref co, .ref oc, .ref ta, .ref xq, .ref xh, .ref xk, .ref xo, .int x_outLength, .int x_courtStands, .int x_courtNews, .int x_tallyStands, .int x_historyStands])), (xr, .inr (6, [.ref tp, .ref dr, .int q_faultKind, .int q_faultPlace, .int q_token, .int q_start, .int q_stop])), (tp, .inr (10, [.ref bt, .int p1]))] H := hP
      have hD : va_D A [(h0, .inr (11, [.ref xr, .ref am, .ref xs, .ref xf, .ref co, .ref oc, .ref ta, .ref xq, .ref xh, .ref xk, .ref xo, .int x_outLength, .int x_courtStands, .int x_courtNews, .int x_tallyStands, .int x_historyStands])), (xr, .inr (6, [.ref tp, .ref dr, .int q_faultKind, .int q_faultPlace, .int q_token, .int q_start, .int q_stop])), (tp, .inr (10, [.ref bt, .int p1]))] := hD
      refine lv_iload_n hx hb dX11_end_31 rfl (lv_at hl 1 rfl) ?_
      exact W.iret (v := p1) hx hb hr (fun t ht hW => ⟨⟨p1, (), rfl, ⟨(gi_w g_28 (by decide)), (show ((0 ≤ p1.toInt ∧ p1.toInt ≤ b_length.toInt ∧ p1.toInt = p1.toInt) ∨ ((p1.toInt < 0 ∨ b_length.toInt < p1.toInt) ∧ p1.toInt = -1)) from by have qgp1 := g_28.1; have rgp1 := g_28.2; have qgb_length := gb_length.1; have rgb_length := gb_length.2; omega)⟩, p1, g_28, (show ((0 ≤ p1.toInt ∧ p1.toInt ≤ b_length.toInt ∧ p1.toInt = p1.toInt) ∨ ((p1.toInt < 0 ∨ b_length.toInt < p1.toInt) ∧ p1.toInt = b_length.toInt)) from by have qgp1 := g_28.1; have rgp1 := g_28.2; have qgb_length := gb_length.1; have rgb_length := gb_length.2; omega), by rw [ht]; exact hP, hD⟩, hS.F ht⟩) hS.2.2 dX11_end_32
    · have hc_29 : b_length.toInt < p1.toInt := by have h9 := Int32.lt_iff_toInt_lt.mp (Int32.not_le.mp c_26); exact h9
      have g_30 : gi p1 1 2147483647 := gi_lt_r (Int32.not_le.mp c_26) gb_length g_25 (by decide)
      refine lv_iconst (v := (-1)) hx hb dX11_end_18 (by decide) ?_
      exact W.iret (v := (-1)) hx hb hr (fun t ht hW => ⟨⟨(-1), (), rfl, ⟨(gi_w (gi_c (-1) (-1) (by decide)) (by decide)), (show ((0 ≤ p1.toInt ∧ p1.toInt ≤ b_length.toInt ∧ ((-1) : Int32).toInt = p1.toInt) ∨ ((p1.toInt < 0 ∨ b_length.toInt < p1.toInt) ∧ ((-1) : Int32).toInt = -1)) from by have km1 : ((-1) : Int32).toInt = (-1) := (by decide); have qgp1 := g_30.1; have rgp1 := g_30.2; have qgb_length := gb_length.1; have rgb_length := gb_length.2; omega)⟩, b_length, gb_length, (show ((0 ≤ p1.toInt ∧ p1.toInt ≤ b_length.toInt ∧ b_length.toInt = p1.toInt) ∨ ((p1.toInt < 0 ∨ b_length.toInt < p1.toInt) ∧ b_length.toInt = b_length.toInt)) from by have qgp1 := g_30.1; have rgp1 := g_30.2; have qgb_length := gb_length.1; have rgb_length := gb_length.2; omega), by rw [ht]; exact hP, hD⟩, hS.F ht⟩) hS.2.2 dX11_end_19
