theorem dX11_feed_0 : decode cX11_feed 0 = .ok (.aload_n 0, 1) := by decide +kernel
theorem dX11_feed_1 : decode cX11_feed 1 = .ok (.getfield 12, 3) := by decide +kernel
theorem dX11_feed_4 : decode cX11_feed 4 = .ok (.getfield 89, 3) := by decide +kernel
theorem dX11_feed_7 : decode cX11_feed 7 = .ok (.astore 6, 2) := by decide +kernel
theorem dX11_feed_9 : decode cX11_feed 9 = .ok (.aload 6, 2) := by decide +kernel
theorem dX11_feed_11 : decode cX11_feed 11 = .ok (.getfield 93, 3) := by decide +kernel
theorem dX11_feed_14 : decode cX11_feed 14 = .ok (.sipush 1580, 3) := by decide +kernel
theorem dX11_feed_17 : decode cX11_feed 17 = .ok (.if_icmp .le 5, 3) := by decide +kernel
theorem dX11_feed_20 : decode cX11_feed 20 = .ok (.iconst (-1), 1) := by decide +kernel
theorem dX11_feed_21 : decode cX11_feed 21 = .ok (.ireturn, 1) := by decide +kernel
theorem dX11_feed_22 : decode cX11_feed 22 = .ok (.aload 6, 2) := by decide +kernel
theorem dX11_feed_24 : decode cX11_feed 24 = .ok (.iload_n 1, 1) := by decide +kernel
theorem dX11_feed_25 : decode cX11_feed 25 = .ok (.invokevirtual 98, 3) := by decide +kernel
theorem dX11_feed_28 : decode cX11_feed 28 = .ok (.aload 6, 2) := by decide +kernel
theorem dX11_feed_30 : decode cX11_feed 30 = .ok (.iload_n 2, 1) := by decide +kernel
theorem dX11_feed_31 : decode cX11_feed 31 = .ok (.invokevirtual 98, 3) := by decide +kernel
theorem dX11_feed_34 : decode cX11_feed 34 = .ok (.aload 6, 2) := by decide +kernel
theorem dX11_feed_36 : decode cX11_feed 36 = .ok (.iload_n 3, 1) := by decide +kernel
theorem dX11_feed_37 : decode cX11_feed 37 = .ok (.invokevirtual 98, 3) := by decide +kernel
theorem dX11_feed_40 : decode cX11_feed 40 = .ok (.aload 6, 2) := by decide +kernel
theorem dX11_feed_42 : decode cX11_feed 42 = .ok (.iload 4, 2) := by decide +kernel
theorem dX11_feed_44 : decode cX11_feed 44 = .ok (.invokevirtual 98, 3) := by decide +kernel
theorem dX11_feed_47 : decode cX11_feed 47 = .ok (.aload 6, 2) := by decide +kernel
theorem dX11_feed_49 : decode cX11_feed 49 = .ok (.iload 5, 2) := by decide +kernel
theorem dX11_feed_51 : decode cX11_feed 51 = .ok (.invokevirtual 98, 3) := by decide +kernel
theorem dX11_feed_54 : decode cX11_feed 54 = .ok (.aload 6, 2) := by decide +kernel
theorem dX11_feed_56 : decode cX11_feed 56 = .ok (.getfield 93, 3) := by decide +kernel
theorem dX11_feed_59 : decode cX11_feed 59 = .ok (.ireturn, 1) := by decide +kernel
noncomputable def fX11_feed (b_length : Int32) (fbt : Nat → Int32) (p1 : Int32) (p2 : Int32) (p3 : Int32) (p4 : Int32) (p5 : Int32) : Int32 × Int32 × (Nat → Int32) := if b_length ≤ (1580 : Int32) then (cal (fun o1 => cal (fun o2 => cal (fun o3 => cal (fun o4 => cal (fun o5 => (o5.1, o5.1, o5.2)) (fX10_put o4.1 o4.2 p5)) (fX10_put o3.1 o3.2 p4)) (fX10_put o2.1 o2.2 p3)) (fX10_put o1.1 o1.2 p2)) (fX10_put b_length fbt p1)) else ((-1 : Int32), b_length, fbt)
set_option maxHeartbeats 4000000 in
set_option maxRecDepth 100000 in
theorem sX11_feed (l : Launch) (dC : Nat → ClassId) (dI : Nat → Nat → Nat) (sz : Nat) (h0 : Nat) (xr : Nat) (tp : Nat) (bt : Nat) (am : Nat) (xs : Nat) (xf : Nat) (co : Nat) (oc : Nat) (ta : Nat) (xq : Nat) (xh : Nat) (xk : Nat) (xo : Nat) (x_outLength : Int32) (x_courtStands : Int32) (x_courtNews : Int32) (x_tallyStands : Int32) (x_historyStands : Int32) (dr : Nat) (q_faultKind : Int32) (q_faultPlace : Int32) (q_token : Int32) (q_start : Int32) (q_stop : Int32) (b_length : Int32) (kbt : ClassId) (fbt : Nat → Int32) (p1 : Int32) (p2 : Int32) (p3 : Int32) (p4 : Int32) (p5 : Int32) (gx_outLength : gi x_outLength 0 72) (gx_courtStands : gi x_courtStands 0 1) (gx_tallyStands : gi x_tallyStands 0 1) (gx_historyStands : gi x_historyStands 0 1) (gq_start : gi q_start 0 1600) (gq_stop : gi q_stop 0 1600) (gb_length : gi b_length 0 1600) : Met l yX11_feed (.code yX11_feed cX11_feed 7 (some .int) :: wsGA) ({ frames := 1, cells := 0, slots := 0, locals := 21 }) (va_Pc [.ref h0, .int p1, .int p2, .int p3, .int p4, .int p5] (fun U => U.heap.size = sz ∧ va_P (dC, dI) vwCl [(h0, .inr (11, [.ref xr, .ref am, .ref xs, .ref xf, .ref co, .ref oc, .ref ta, .ref xq, .ref xh, .ref xk, .ref xo, .int x_outLength, .int x_courtStands, .int x_courtNews, .int x_tallyStands, .int x_historyStands])), (xr, .inr (6, [.ref tp, .ref dr, .int q_faultKind, .int q_faultPlace, .int q_token, .int q_start, .int q_stop])), (tp, .inr (10, [.ref bt, .int b_length])), (bt, .inl (kbt, 1600, .inl fbt))] U.heap ∧ va_K (dC, dI) vwCl [(kbt, .byte)] U ∧ va_D (fun _ => True) [(h0, .inr (11, [.ref xr, .ref am, .ref xs, .ref xf, .ref co, .ref oc, .ref ta, .ref xq, .ref xh, .ref xk, .ref xo, .int x_outLength, .int x_courtStands, .int x_courtNews, .int x_tallyStands, .int x_historyStands])), (xr, .inr (6, [.ref tp, .ref dr, .int q_faultKind, .int q_faultPlace, .int q_token, .int q_start, .int q_stop])), (tp, .inr (10, [.ref bt, .int b_length])), (bt, .inl (kbt, 1600, .inl fbt))] ∧ nzA U)) (va_Qi (fun (r : Int32) (u : Int32) => r = u ∧ gi r (-1) 1600 ∧ ((1580 < b_length.toInt ∧ r.toInt = -1) ∨ (b_length.toInt ≤ 1580 ∧ r.toInt = b_length.toInt + 20))) (fun r t => ∃ (w2_1 : Int32) (z3 : Nat → Int32), gi w2_1 0 1600 ∧ ((1580 < b_length.toInt ∧ w2_1.toInt = b_length.toInt) ∨ (b_length.toInt ≤ 1580 ∧ w2_1.toInt = b_length.toInt + 20)) ∧ (r, w2_1, z3) = fX11_feed b_length fbt p1 p2 p3 p4 p5 ∧ va_P (dC, dI) vwCl [(h0, .inr (11, [.ref xr, .ref am, .ref xs, .ref xf, .ref co, .ref oc, .ref ta, .ref xq, .ref xh, .ref xk, .ref xo, .int x_outLength, .int x_courtStands, .int x_courtNews, .int x_tallyStands, .int x_historyStands])), (xr, .inr (6, [.ref tp, .ref dr, .int q_faultKind, .int q_faultPlace, .int q_token, .int q_start, .int q_stop])), (tp, .inr (10, [.ref bt, .int w2_1])), (bt, .inl (kbt, 1600, .inl z3))] t.heap ∧ va_D (va_A [(h0, .inr (11, [.ref xr, .ref am, .ref xs, .ref xf, .ref co, .ref oc, .ref ta, .ref xq, .ref xh, .ref xk, .ref xo, .int x_outLength, .int x_courtStands, .int x_courtNews, .int x_tallyStands, .int x_historyStands])), (xr, .inr (6, [.ref tp, .ref dr, .int q_faultKind, .int q_faultPlace, .int q_token, .int q_start, .int q_stop])), (tp, .inr (10, [.ref bt, .int b_length])), (bt, .inl (kbt, 1600, .inl fbt))] sz) [(h0, .inr (11, [.ref xr, .ref am, .ref xs, .ref xf, .ref co, .ref oc, .ref ta, .ref xq, .ref xh, .ref xk, .ref xo, .int x_outLength, .int x_courtStands, .int x_courtNews, .int x_tallyStands, .int x_historyStands])), (xr, .inr (6, [.ref tp, .ref dr, .int q_faultKind, .int q_faultPlace, .int q_token, .int q_start, .int q_stop])), (tp, .inr (10, [.ref bt, .int w2_1])), (bt, .inl (kbt, 1600, .inl z3))]) (va_A [(h0, .inr (11, [.ref xr, .ref am, .ref xs, .ref xf, .ref co, .ref oc, .ref ta, .ref xq, .ref xh, .ref xk, .ref xo, .int x_outLength, .int x_courtStands, .int x_courtNews, .int x_tallyStands, .int x_historyStands])), (xr, .inr (6, [.ref tp, .ref dr, .int q_faultKind, .int q_faultPlace, .int q_token, .int q_start, .int q_stop])), (tp, .inr (10, [.ref bt, .int b_length])), (bt, .inl (kbt, 1600, .inl fbt))] sz)) 0 0 (va_A [(h0, .inr (11, [.ref xr, .ref am, .ref xs, .ref xf, .ref co, .ref oc, .ref ta, .ref xq, .ref xh, .ref xk, .ref xo, .int x_outLength, .int x_courtStands, .int x_courtNews, .int x_tallyStands, .int x_historyStands])), (xr, .inr (6, [.ref tp, .ref dr, .int q_faultKind, .int q_faultPlace, .int q_token, .int q_start, .int q_stop])), (tp, .inr (10, [.ref bt, .int b_length])), (bt, .inl (kbt, 1600, .inl fbt))] sz) := by
  refine Met.ofW (cc := cX11_feed) (maxL := 7) (ret := (some .int)) (by decide) rfl ?_
  intro p e s m args below meth c s₁ B hml hv
  obtain ⟨rfl, hsz, hP, hK, hD0, hz⟩ := hv
  have hx := B.exec
  have hb := B.bytes
  have hr := B.returns
  have hts := atoms_spec (ws := (.code yX11_feed cX11_feed 7 (some .int) :: wsGA)) B.pre
  have hown : s.vm.findClass RX11 = some m.cls := findClass_of_methodNamed B.named
  have hlocks := B.notSynchronized
  subst hsz
  have hD := hD0.self (sz := s.heap.size)
  generalize hAe : va_A [(h0, .inr (11, [.ref xr, .ref am, .ref xs, .ref xf, .ref co, .ref oc, .ref ta, .ref xq, .ref xh, .ref xk, .ref xo, .int x_outLength, .int x_courtStands, .int x_courtNews, .int x_tallyStands, .int x_historyStands])), (xr, .inr (6, [.ref tp, .ref dr, .int q_faultKind, .int q_faultPlace, .int q_token, .int q_start, .int q_stop])), (tp, .inr (10, [.ref bt, .int b_length])), (bt, .inl (kbt, 1600, .inl fbt))] s.heap.size = A at hD ⊢
  have hA : ∀ q : Nat, s.heap.size ≤ q → A q := fun q h => by rw [← hAe]; exact Or.inr h
  have hS : va_S A s.heap s.heap [] := va_S.rf
  have hl := lv_entry ([.ref h0, .int p1, .int p2, .int p3, .int p4, .int p5]) (n := 7) (Nat.le_of_ble_eq_true rfl)
  rw [lg_entry_eq]
  generalize (lg_sl ([.ref h0, .int p1, .int p2, .int p3, .int p4, .int p5]) ++ List.replicate (7 - (lg_sl ([.ref h0, .int p1, .int p2, .int p3, .int p4, .int p5])).length) Slot.unset).toArray = ls at hl ⊢
  have hl : lv_has ls 7 [(0, .ref h0), (1, .int p1), (2, .int p2), (3, .int p3), (4, .int p4), (5, .int p5)] := hl
  obtain ⟨RES, hF⟩ : ∃ R9, fX11_feed b_length fbt p1 p2 p3 p4 p5 = R9 := ⟨_, rfl⟩
  have hR9 := hF
  refine lv_aload_n hx hb dX11_feed_0 rfl (lv_at hl 0 rfl) ?_
  refine va_get (D := (dC, dI)) (ci := 11) (v := .ref xr) (C := RX11) (T := TX11) (N := 16) hx hb hts (fun w h => List.mem_cons_of_mem _ (jnGA_X11 w h)) hown hK hP 0 rfl rfl 0 (by decide) (hts _ (List.mem_cons_of_mem _ mGA_10)) (fun _ h9 => h9) rfl dX11_feed_1 ?_
  refine va_get (D := (dC, dI)) (ci := 6) (v := .ref tp) (C := RX6) (T := TX6) (N := 7) hx hb hts (fun w h => List.mem_cons_of_mem _ (jnGA_X6 w h)) hown hK hP 1 rfl rfl 0 (by decide) (hts _ (List.mem_cons_of_mem _ mGA_129)) (fun _ h9 => h9) rfl dX11_feed_4 ?_
  refine lv_astore (lv' := [(6, .ref tp), (0, .ref h0), (1, .int p1), (2, .int p2), (3, .int p3), (4, .int p4), (5, .int p5)]) hx hb dX11_feed_7 hl (by decide) rfl (fun ls hl => ?_)
  refine lv_aload hx hb dX11_feed_9 (lv_at hl 0 rfl) ?_
  refine va_get (D := (dC, dI)) (ci := 10) (v := .int b_length) (C := RX10) (T := TX10) (N := 2) hx hb hts (fun w h => List.mem_cons_of_mem _ (jnGA_X10 w h)) hown hK hP 2 rfl rfl 1 (by decide) (hts _ (List.mem_cons_of_mem _ mGA_130)) (fun _ h9 => h9) rfl dX11_feed_11 ?_
  refine lv_sipush (v := 1580) hx hb dX11_feed_14 (by decide) ?_
  refine lv_icmp_le (tgt := 22) hx hb dX11_feed_17 (by decide) (fun c_41 => ?_) (fun c_41 => ?_)
  · have hF := gf_pos c_41 hF
    have hc_42 : b_length.toInt ≤ 1580 := by have h9 := Int32.le_iff_toInt_le.mp c_41; rw [show (1580 : Int32).toInt = 1580 from by decide] at h9; exact h9
    have g_43 : gi b_length 0 1580 := gi_le_l c_41 gb_length (gi_c 1580 1580 (by decide))
    refine lv_aload hx hb dX11_feed_22 (lv_at hl 0 rfl) ?_
    refine lv_iload_n hx hb dX11_feed_24 rfl (lv_at hl 2 rfl) ?_
    have hPc := hP.sub (ws' := [(tp, .inr (10, [.ref bt, .int b_length])), (bt, .inl (kbt, 1600, .inl fbt))]) [2, 3] rfl
    have hKc := hK.sub (tys' := [(kbt, .byte)]) [0] rfl
    have hDc := hD.sub (ws' := [(tp, .inr (10, [.ref bt, .int b_length])), (bt, .inl (kbt, 1600, .inl fbt))]) [2, 3] (by decide) rfl
    have hFc := va_free (wc := [(tp, .inr (10, [.ref bt, .int b_length])), (bt, .inl (kbt, 1600, .inl fbt))]) hD hS hA [2, 3] rfl
    refine va_callv (va_runV (As := [.int p1]) (rest := []) ⟨hx, hb, hml, hown, hts⟩ (sX10_put l dC dI s.heap.size tp bt b_length kbt fbt p1 (gi_w g_43 (by decide))) (cwV 1 hts (gz_gV mGA_131 mGA_132 mGA_133 mGA_51 mGA_134 goodGA) rfl rfl rfl (by decide +kernel) ⟨Nat.le_of_ble_eq_true rfl, Nat.le_of_ble_eq_true rfl⟩) ⟨fun a U g mk q => by obtain ⟨q0, q1, qP, qK, qD, qZ⟩ := q; exact ⟨q0, q1, qP, va_K.moved (u := U) (U := U.calling g mk a) (Vm.Alike.refl U.vm) qK, qD, nzA_same (u := U) (U := U.calling g mk a) rfl qZ⟩, va_recv hKc hPc (ci := 10) (q0 := 0) rfl rfl, fun U hU hW => ⟨rfl, by rw [hU], by rw [hU]; exact hPc, va_K.moved hW.alike hKc, hDc.weaken (fun _ _ _ _ => trivial), nzA_warm hW hz⟩⟩ rfl rfl hl.1 rfl (lv_room (Nat.le_of_ble_eq_true rfl)) dX11_feed_25 ⟨Nat.zero_le _, Nat.zero_le _⟩) hS (fun q _ h => hFc q h) hFc (fun u t H1 locs ht hvm hw hB hz1 hk1 hS => ?_)
    obtain ⟨y_45, f_46, gy_45, hpr0_r_44, hE, hP1, hD1⟩ := hB
    rw [ht] at hP1
    obtain ⟨hP, hD⟩ := va_join (wr := [(h0, .inr (11, [.ref xr, .ref am, .ref xs, .ref xf, .ref co, .ref oc, .ref ta, .ref xq, .ref xh, .ref xk, .ref xo, .int x_outLength, .int x_courtStands, .int x_courtNews, .int x_tallyStands, .int x_historyStands])), (xr, .inr (6, [.ref tp, .ref dr, .int q_faultKind, .int q_faultPlace, .int q_token, .int q_start, .int q_stop]))]) (w1 := [(tp, .inr (10, [.ref bt, .int y_45])), (bt, .inl (kbt, 1600, .inl f_46))]) hP hD [2, 3] [0, 1] rfl rfl (by decide) (by decide) hk1 hFc hP1 hD1
    have hpr0_r_44 : ((1596 < b_length.toInt ∧ y_45.toInt = b_length.toInt) ∨ (b_length.toInt ≤ 1596 ∧ y_45.toInt = b_length.toInt + 4)) := hpr0_r_44
    have hP := hP.sub (ws' := [(h0, .inr (11, [.ref xr, .ref am, .ref xs, .ref xf, .ref co, .ref oc, .ref ta, .ref xq, .ref xh, .ref xk, .ref xo, .int x_outLength, .int x_courtStands, .int x_courtNews, .int x_tallyStands, .int x_historyStands])), (xr, .inr (6, [.ref tp, .ref dr, .int q_faultKind, .int q_faultPlace, .int q_token, .int q_start, .int q_stop])), (tp, .inr (10, [.ref bt, .int y_45])), (bt, .inl (kbt, 1600, .inl f_46))]) [0, 1, 2, 3] rfl
    have hD := hD.sub (ws' := [(h0, .inr (11, [.ref xr, .ref am, .ref xs, .ref xf, .ref co, .ref oc, .ref ta, .ref xq, .ref xh, .ref xk, .ref xo, .int x_outLength, .int x_courtStands, .int x_courtNews, .int x_tallyStands, .int x_historyStands])), (xr, .inr (6, [.ref tp, .ref dr, .int q_faultKind, .int q_faultPlace, .int q_token, .int q_start, .int q_stop])), (tp, .inr (10, [.ref bt, .int y_45])), (bt, .inl (kbt, 1600, .inl f_46))]) [0, 1, 2, 3] (by decide) rfl
    have hF := gf_call (a := (y_45, f_46)) hE hF
    generalize H1 = H at hP hS ⊢
    refine lv_aload hx hb dX11_feed_28 (lv_at hl 0 rfl) ?_
    refine lv_iload_n hx hb dX11_feed_30 rfl (lv_at hl 3 rfl) ?_
    have hPc := hP.sub (ws' := [(tp, .inr (10, [.ref bt, .int y_45])), (bt, .inl (kbt, 1600, .inl f_46))]) [2, 3] rfl
    have hKc := hK.sub (tys' := [(kbt, .byte)]) [0] rfl
    have hDc := hD.sub (ws' := [(tp, .inr (10, [.ref bt, .int y_45])), (bt, .inl (kbt, 1600, .inl f_46))]) [2, 3] (by decide) rfl
    have hFc := va_free (wc := [(tp, .inr (10, [.ref bt, .int y_45])), (bt, .inl (kbt, 1600, .inl f_46))]) hD hS hA [2, 3] rfl
    refine va_callv (va_runV (As := [.int p2]) (rest := []) ⟨hx, hb, hml, hown, hts⟩ (sX10_put l dC dI H.size tp bt y_45 kbt f_46 p2 gy_45) (cwV 1 hts (gz_gV mGA_131 mGA_132 mGA_133 mGA_51 mGA_134 goodGA) rfl rfl rfl (by decide +kernel) ⟨Nat.le_of_ble_eq_true rfl, Nat.le_of_ble_eq_true rfl⟩) ⟨fun a U g mk q => by obtain ⟨q0, q1, qP, qK, qD, qZ⟩ := q; exact ⟨q0, q1, qP, va_K.moved (u := U) (U := U.calling g mk a) (Vm.Alike.refl U.vm) qK, qD, nzA_same (u := U) (U := U.calling g mk a) rfl qZ⟩, va_recv hKc hPc (ci := 10) (q0 := 0) rfl rfl, fun U hU hW => ⟨rfl, by rw [hU], by rw [hU]; exact hPc, va_K.moved hW.alike hKc, hDc.weaken (fun _ _ _ _ => trivial), nzA_warm hW hz⟩⟩ rfl rfl hl.1 rfl (lv_room (Nat.le_of_ble_eq_true rfl)) dX11_feed_31 ⟨Nat.zero_le _, Nat.zero_le _⟩) hS (fun q _ h => hFc q h) hFc (fun u t H1 locs ht hvm hw hB hz1 hk1 hS => ?_)
    obtain ⟨y_48, f_49, gy_48, hpr0_r_47, hE, hP1, hD1⟩ := hB
    rw [ht] at hP1
    obtain ⟨hP, hD⟩ := va_join (wr := [(h0, .inr (11, [.ref xr, .ref am, .ref xs, .ref xf, .ref co, .ref oc, .ref ta, .ref xq, .ref xh, .ref xk, .ref xo, .int x_outLength, .int x_courtStands, .int x_courtNews, .int x_tallyStands, .int x_historyStands])), (xr, .inr (6, [.ref tp, .ref dr, .int q_faultKind, .int q_faultPlace, .int q_token, .int q_start, .int q_stop]))]) (w1 := [(tp, .inr (10, [.ref bt, .int y_48])), (bt, .inl (kbt, 1600, .inl f_49))]) hP hD [2, 3] [0, 1] rfl rfl (by decide) (by decide) hk1 hFc hP1 hD1
    have hpr0_r_47 : ((1596 < y_45.toInt ∧ y_48.toInt = y_45.toInt) ∨ (y_45.toInt ≤ 1596 ∧ y_48.toInt = y_45.toInt + 4)) := hpr0_r_47
    have hP := hP.sub (ws' := [(h0, .inr (11, [.ref xr, .ref am, .ref xs, .ref xf, .ref co, .ref oc, .ref ta, .ref xq, .ref xh, .ref xk, .ref xo, .int x_outLength, .int x_courtStands, .int x_courtNews, .int x_tallyStands, .int x_historyStands])), (xr, .inr (6, [.ref tp, .ref dr, .int q_faultKind, .int q_faultPlace, .int q_token, .int q_start, .int q_stop])), (tp, .inr (10, [.ref bt, .int y_48])), (bt, .inl (kbt, 1600, .inl f_49))]) [0, 1, 2, 3] rfl
    have hD := hD.sub (ws' := [(h0, .inr (11, [.ref xr, .ref am, .ref xs, .ref xf, .ref co, .ref oc, .ref ta, .ref xq, .ref xh, .ref xk, .ref xo, .int x_outLength, .int x_courtStands, .int x_courtNews, .int x_tallyStands, .int x_historyStands])), (xr, .inr (6, [.ref tp, .ref dr, .int q_faultKind, .int q_faultPlace, .int q_token, .int q_start, .int q_stop])), (tp, .inr (10, [.ref bt, .int y_48])), (bt, .inl (kbt, 1600, .inl f_49))]) [0, 1, 2, 3] (by decide) rfl
    have hF := gf_call (a := (y_48, f_49)) hE hF
    generalize H1 = H at hP hS ⊢
    refine lv_aload hx hb dX11_feed_34 (lv_at hl 0 rfl) ?_
    refine lv_iload_n hx hb dX11_feed_36 rfl (lv_at hl 4 rfl) ?_
    have hPc := hP.sub (ws' := [(tp, .inr (10, [.ref bt, .int y_48])), (bt, .inl (kbt, 1600, .inl f_49))]) [2, 3] rfl
    have hKc := hK.sub (tys' := [(kbt, .byte)]) [0] rfl
    have hDc := hD.sub (ws' := [(tp, .inr (10, [.ref bt, .int y_48])), (bt, .inl (kbt, 1600, .inl f_49))]) [2, 3] (by decide) rfl
    have hFc := va_free (wc := [(tp, .inr (10, [.ref bt, .int y_48])), (bt, .inl (kbt, 1600, .inl f_49))]) hD hS hA [2, 3] rfl
    refine va_callv (va_runV (As := [.int p3]) (rest := []) ⟨hx, hb, hml, hown, hts⟩ (sX10_put l dC dI H.size tp bt y_48 kbt f_49 p3 gy_48) (cwV 1 hts (gz_gV mGA_131 mGA_132 mGA_133 mGA_51 mGA_134 goodGA) rfl rfl rfl (by decide +kernel) ⟨Nat.le_of_ble_eq_true rfl, Nat.le_of_ble_eq_true rfl⟩) ⟨fun a U g mk q => by obtain ⟨q0, q1, qP, qK, qD, qZ⟩ := q; exact ⟨q0, q1, qP, va_K.moved (u := U) (U := U.calling g mk a) (Vm.Alike.refl U.vm) qK, qD, nzA_same (u := U) (U := U.calling g mk a) rfl qZ⟩, va_recv hKc hPc (ci := 10) (q0 := 0) rfl rfl, fun U hU hW => ⟨rfl, by rw [hU], by rw [hU]; exact hPc, va_K.moved hW.alike hKc, hDc.weaken (fun _ _ _ _ => trivial), nzA_warm hW hz⟩⟩ rfl rfl hl.1 rfl (lv_room (Nat.le_of_ble_eq_true rfl)) dX11_feed_37 ⟨Nat.zero_le _, Nat.zero_le _⟩) hS (fun q _ h => hFc q h) hFc (fun u t H1 locs ht hvm hw hB hz1 hk1 hS => ?_)
    obtain ⟨y_51, f_52, gy_51, hpr0_r_50, hE, hP1, hD1⟩ := hB
    rw [ht] at hP1
    obtain ⟨hP, hD⟩ := va_join (wr := [(h0, .inr (11, [.ref xr, .ref am, .ref xs, .ref xf, .ref co, .ref oc, .ref ta, .ref xq, .ref xh, .ref xk, .ref xo, .int x_outLength, .int x_courtStands, .int x_courtNews, .int x_tallyStands, .int x_historyStands])), (xr, .inr (6, [.ref tp, .ref dr, .int q_faultKind, .int q_faultPlace, .int q_token, .int q_start, .int q_stop]))]) (w1 := [(tp, .inr (10, [.ref bt, .int y_51])), (bt, .inl (kbt, 1600, .inl f_52))]) hP hD [2, 3] [0, 1] rfl rfl (by decide) (by decide) hk1 hFc hP1 hD1
    have hpr0_r_50 : ((1596 < y_48.toInt ∧ y_51.toInt = y_48.toInt) ∨ (y_48.toInt ≤ 1596 ∧ y_51.toInt = y_48.toInt + 4)) := hpr0_r_50
    have hP := hP.sub (ws' := [(h0, .inr (11, [.ref xr, .ref am, .ref xs, .ref xf, .ref co, .ref oc, .ref ta, .ref xq, .ref xh, .ref xk, .ref xo, .int x_outLength, .int x_courtStands, .int x_courtNews, .int x_tallyStands, .int x_historyStands])), (xr, .inr (6, [.ref tp, .ref dr, .int q_faultKind, .int q_faultPlace, .int q_token, .int q_start, .int q_stop])), (tp, .inr (10, [.ref bt, .int y_51])), (bt, .inl (kbt, 1600, .inl f_52))]) [0, 1, 2, 3] rfl
    have hD := hD.sub (ws' := [(h0, .inr (11, [.ref xr, .ref am, .ref xs, .ref xf, .ref co, .ref oc, .ref ta, .ref xq, .ref xh, .ref xk, .ref xo, .int x_outLength, .int x_courtStands, .int x_courtNews, .int x_tallyStands, .int x_historyStands])), (xr, .inr (6, [.ref tp, .ref dr, .int q_faultKind, .int q_faultPlace, .int q_token, .int q_start, .int q_stop])), (tp, .inr (10, [.ref bt, .int y_51])), (bt, .inl (kbt, 1600, .inl f_52))]) [0, 1, 2, 3] (by decide) rfl
    have hF := gf_call (a := (y_51, f_52)) hE hF
    generalize H1 = H at hP hS ⊢
    refine lv_aload hx hb dX11_feed_40 (lv_at hl 0 rfl) ?_
    refine lv_iload hx hb dX11_feed_42 (lv_at hl 5 rfl) ?_
    have hPc := hP.sub (ws' := [(tp, .inr (10, [.ref bt, .int y_51])), (bt, .inl (kbt, 1600, .inl f_52))]) [2, 3] rfl
    have hKc := hK.sub (tys' := [(kbt, .byte)]) [0] rfl
    have hDc := hD.sub (ws' := [(tp, .inr (10, [.ref bt, .int y_51])), (bt, .inl (kbt, 1600, .inl f_52))]) [2, 3] (by decide) rfl
    have hFc := va_free (wc := [(tp, .inr (10, [.ref bt, .int y_51])), (bt, .inl (kbt, 1600, .inl f_52))]) hD hS hA [2, 3] rfl
    refine va_callv (va_runV (As := [.int p4]) (rest := []) ⟨hx, hb, hml, hown, hts⟩ (sX10_put l dC dI H.size tp bt y_51 kbt f_52 p4 gy_51) (cwV 1 hts (gz_gV mGA_131 mGA_132 mGA_133 mGA_51 mGA_134 goodGA) rfl rfl rfl (by decide +kernel) ⟨Nat.le_of_ble_eq_true rfl, Nat.le_of_ble_eq_true rfl⟩) ⟨fun a U g mk q => by obtain ⟨q0, q1, qP, qK, qD, qZ⟩ := q; exact ⟨q0, q1, qP, va_K.moved (u := U) (U := U.calling g mk a) (Vm.Alike.refl U.vm) qK, qD, nzA_same (u := U) (U := U.calling g mk a) rfl qZ⟩, va_recv hKc hPc (ci := 10) (q0 := 0) rfl rfl, fun U hU hW => ⟨rfl, by rw [hU], by rw [hU]; exact hPc, va_K.moved hW.alike hKc, hDc.weaken (fun _ _ _ _ => trivial), nzA_warm hW hz⟩⟩ rfl rfl hl.1 rfl (lv_room (Nat.le_of_ble_eq_true rfl)) dX11_feed_44 ⟨Nat.zero_le _, Nat.zero_le _⟩) hS (fun q _ h => hFc q h) hFc (fun u t H1 locs ht hvm hw hB hz1 hk1 hS => ?_)
    obtain ⟨y_54, f_55, gy_54, hpr0_r_53, hE, hP1, hD1⟩ := hB
    rw [ht] at hP1
    obtain ⟨hP, hD⟩ := va_join (wr := [(h0, .inr (11, [.ref xr, .ref am, .ref xs, .ref xf, .ref co, .ref oc, .ref ta, .ref xq, .ref xh, .ref xk, .ref xo, .int x_outLength, .int x_courtStands, .int x_courtNews, .int x_tallyStands, .int x_historyStands])), (xr, .inr (6, [.ref tp, .ref dr, .int q_faultKind, .int q_faultPlace, .int q_token, .int q_start, .int q_stop]))]) (w1 := [(tp, .inr (10, [.ref bt, .int y_54])), (bt, .inl (kbt, 1600, .inl f_55))]) hP hD [2, 3] [0, 1] rfl rfl (by decide) (by decide) hk1 hFc hP1 hD1
    have hpr0_r_53 : ((1596 < y_51.toInt ∧ y_54.toInt = y_51.toInt) ∨ (y_51.toInt ≤ 1596 ∧ y_54.toInt = y_51.toInt + 4)) := hpr0_r_53
    have hP := hP.sub (ws' := [(h0, .inr (11, [.ref xr, .ref am, .ref xs, .ref xf, .ref co, .ref oc, .ref ta, .ref xq, .ref xh, .ref xk, .ref xo, .int x_outLength, .int x_courtStands, .int x_courtNews, .int x_tallyStands, .int x_historyStands])), (xr, .inr (6, [.ref tp, .ref dr, .int q_faultKind, .int q_faultPlace, .int q_token, .int q_start, .int q_stop])), (tp, .inr (10, [.ref bt, .int y_54])), (bt, .inl (kbt, 1600, .inl f_55))]) [0, 1, 2, 3] rfl
    have hD := hD.sub (ws' := [(h0, .inr (11, [.ref xr, .ref am, .ref xs, .ref xf, .ref co, .ref oc, .ref ta, .ref xq, .ref xh, .ref xk, .ref xo, .int x_outLength, .int x_courtStands, .int x_courtNews, .int x_tallyStands, .int x_historyStands])), (xr, .inr (6, [.ref tp, .ref dr, .int q_faultKind, .int q_faultPlace, .int q_token, .int q_start, .int q_stop])), (tp, .inr (10, [.ref bt, .int y_54])), (bt, .inl (kbt, 1600, .inl f_55))]) [0, 1, 2, 3] (by decide) rfl
    have hF := gf_call (a := (y_54, f_55)) hE hF
    generalize H1 = H at hP hS ⊢
    refine lv_aload hx hb dX11_feed_47 (lv_at hl 0 rfl) ?_
    refine lv_iload hx hb dX11_feed_49 (lv_at hl 6 rfl) ?_
    have hPc := hP.sub (ws' := [(tp, .inr (10, [.ref bt, .int y_54])), (bt, .inl (kbt, 1600, .inl f_55))]) [2, 3] rfl
    have hKc := hK.sub (tys' := [(kbt, .byte)]) [0] rfl
    have hDc := hD.sub (ws' := [(tp, .inr (10, [.ref bt, .int y_54])), (bt, .inl (kbt, 1600, .inl f_55))]) [2, 3] (by decide) rfl
    have hFc := va_free (wc := [(tp, .inr (10, [.ref bt, .int y_54])), (bt, .inl (kbt, 1600, .inl f_55))]) hD hS hA [2, 3] rfl
    refine va_callv (va_runV (As := [.int p5]) (rest := []) ⟨hx, hb, hml, hown, hts⟩ (sX10_put l dC dI H.size tp bt y_54 kbt f_55 p5 gy_54) (cwV 1 hts (gz_gV mGA_131 mGA_132 mGA_133 mGA_51 mGA_134 goodGA) rfl rfl rfl (by decide +kernel) ⟨Nat.le_of_ble_eq_true rfl, Nat.le_of_ble_eq_true rfl⟩) ⟨fun a U g mk q => by obtain ⟨q0, q1, qP, qK, qD, qZ⟩ := q; exact ⟨q0, q1, qP, va_K.moved (u := U) (U := U.calling g mk a) (Vm.Alike.refl U.vm) qK, qD, nzA_same (u := U) (U := U.calling g mk a) rfl qZ⟩, va_recv hKc hPc (ci := 10) (q0 := 0) rfl rfl, fun U hU hW => ⟨rfl, by rw [hU], by rw [hU]; exact hPc, va_K.moved hW.alike hKc, hDc.weaken (fun _ _ _ _ => trivial), nzA_warm hW hz⟩⟩ rfl rfl hl.1 rfl (lv_room (Nat.le_of_ble_eq_true rfl)) dX11_feed_51 ⟨Nat.zero_le _, Nat.zero_le _⟩) hS (fun q _ h => hFc q h) hFc (fun u t H1 locs ht hvm hw hB hz1 hk1 hS => ?_)
    obtain ⟨y_57, f_58, gy_57, hpr0_r_56, hE, hP1, hD1⟩ := hB
    rw [ht] at hP1
    obtain ⟨hP, hD⟩ := va_join (wr := [(h0, .inr (11, [.ref xr, .ref am, .ref xs, .ref xf, .ref co, .ref oc, .ref ta, .ref xq, .ref xh, .ref xk, .ref xo, .int x_outLength, .int x_courtStands, .int x_courtNews, .int x_tallyStands, .int x_historyStands])), (xr, .inr (6, [.ref tp, .ref dr, .int q_faultKind, .int q_faultPlace, .int q_token, .int q_start, .int q_stop]))]) (w1 := [(tp, .inr (10, [.ref bt, .int y_57])), (bt, .inl (kbt, 1600, .inl f_58))]) hP hD [2, 3] [0, 1] rfl rfl (by decide) (by decide) hk1 hFc hP1 hD1
    have hpr0_r_56 : ((1596 < y_54.toInt ∧ y_57.toInt = y_54.toInt) ∨ (y_54.toInt ≤ 1596 ∧ y_57.toInt = y_54.toInt + 4)) := hpr0_r_56
    have hP := hP.sub (ws' := [(h0, .inr (11, [.ref xr, .ref am, .ref xs, .ref xf, .ref co, .ref oc, .ref ta, .ref xq, .ref xh, .ref xk, .ref xo, .int x_outLength, .int x_courtStands, .int x_courtNews, .int x_tallyStands, .int x_historyStands])), (xr, .inr (6, [.ref tp, .ref dr, .int q_faultKind, .int q_faultPlace, .int q_token, .int q_start, .int q_stop])), (tp, .inr (10, [.ref bt, .int y_57])), (bt, .inl (kbt, 1600, .inl f_58))]) [0, 1, 2, 3] rfl
    have hD := hD.sub (ws' := [(h0, .inr (11, [.ref xr, .ref am, .ref xs, .ref xf, .ref co, .ref oc, .ref ta, .ref xq, .ref xh, .ref xk, .ref xo, .int x_outLength, .int x_courtStands, .int x_courtNews, .int x_tallyStands, .int x_historyStands])), (xr, .inr (6, [.ref tp, .ref dr, .int q_faultKind, .int q_faultPlace, .int q_token, .int q_start, .int q_stop])), (tp, .inr (10, [.ref bt, .int y_57])), (bt, .inl (kbt, 1600, .inl f_58))]) [0, 1, 2, 3] (by decide) rfl
    have hF := gf_call (a := (y_57, f_58)) hE hF
    generalize H1 = H at hP hS ⊢
    refine lv_aload hx hb dX11_feed_54 (lv_at hl 0 rfl) ?_
    refine va_get (D := (dC, dI)) (ci := 10) (v := .int y_57) (C := RX10) (T := TX10) (N := 2) hx hb hts (fun w h => List.mem_cons_of_mem _ (jnGA_X10 w h)) hown hK hP 2 rfl rfl 1 (by decide) (hts _ (List.mem_cons_of_mem _ mGA_130)) (fun _ h9 => h9) rfl dX11_feed_56 ?_
    exact W.iret (v := y_57) hx hb hr (fun t ht hW => ⟨⟨y_57, y_57, rfl, ⟨rfl, ⟨(gi_w gy_57 (by decide)), (show ((1580 < b_length.toInt ∧ y_57.toInt = -1) ∨ (b_length.toInt ≤ 1580 ∧ y_57.toInt = b_length.toInt + 20)) from by have qgy_57 := gy_57.1; have rgy_57 := gy_57.2; have qgy_54 := gy_54.1; have rgy_54 := gy_54.2; have qgy_51 := gy_51.1; have rgy_51 := gy_51.2; have qgy_48 := gy_48.1; have rgy_48 := gy_48.2; have qgy_45 := gy_45.1; have rgy_45 := gy_45.2; have qgb_length := g_43.1; have rgb_length := g_43.2; omega)⟩⟩, y_57, f_58, gy_57, (show ((1580 < b_length.toInt ∧ y_57.toInt = b_length.toInt) ∨ (b_length.toInt ≤ 1580 ∧ y_57.toInt = b_length.toInt + 20)) from by have qgy_57 := gy_57.1; have rgy_57 := gy_57.2; have qgy_54 := gy_54.1; have rgy_54 := gy_54.2; have qgy_51 := gy_51.1; have rgy_51 := gy_51.2; have qgy_48 := gy_48.1; have rgy_48 := gy_48.2; have qgy_45 := gy_45.1; have rgy_45 := gy_45.2; have qgb_length := g_43.1; have rgb_length := g_43.2; omega), hF.trans hR9.symm, by rw [ht]; exact hP, hD⟩, hS.F ht⟩) hS.2.2 dX11_feed_59
  · have hF := gf_neg c_41 hF
    have hc_59 : 1580 < b_length.toInt := by have h9 := Int32.lt_iff_toInt_lt.mp (Int32.not_le.mp c_41); rw [show (1580 : Int32).toInt = 1580 from by decide] at h9; exact h9
    have g_60 : gi b_length 1581 1600 := gi_lt_r (Int32.not_le.mp c_41) (gi_c 1580 1580 (by decide)) gb_length (by decide)
    refine lv_iconst (v := (-1)) hx hb dX11_feed_20 (by decide) ?_
    exact W.iret (v := (-1)) hx hb hr (fun t ht hW => ⟨⟨(-1), (-1), rfl, ⟨rfl, ⟨(gi_w (gi_c (-1) (-1) (by decide)) (by decide)), (show ((1580 < b_length.toInt ∧ ((-1) : Int32).toInt = -1) ∨ (b_length.toInt ≤ 1580 ∧ ((-1) : Int32).toInt = b_length.toInt + 20)) from by have km1 : ((-1) : Int32).toInt = (-1) := (by decide); have qgb_length := g_60.1; have rgb_length := g_60.2; omega)⟩⟩, b_length, fbt, (gi_w g_60 (by decide)), (show ((1580 < b_length.toInt ∧ b_length.toInt = b_length.toInt) ∨ (b_length.toInt ≤ 1580 ∧ b_length.toInt = b_length.toInt + 20)) from by have qgb_length := g_60.1; have rgb_length := g_60.2; omega), hF.trans hR9.symm, by rw [ht]; exact hP, hD⟩, hS.F ht⟩) hS.2.2 dX11_feed_21
theorem dX11_end_0 : decode cX11_end 0 = .ok (.iload_n 1, 1) := by decide +kernel
theorem dX11_end_1 : decode cX11_end 1 = .ok (.ifCond .lt 17, 3) := by decide +kernel
theorem dX11_end_4 : decode cX11_end 4 = .ok (.iload_n 1, 1) := by decide +kernel
theorem dX11_end_5 : decode cX11_end 5 = .ok (.aload_n 0, 1) := by decide +kernel
theorem dX11_end_6 : decode cX11_end 6 = .ok (.getfield 12, 3) := by decide +kernel
theorem dX11_end_9 : decode cX11_end 9 = .ok (.getfield 89, 3) := by decide +kernel
theorem dX11_end_12 : decode cX11_end 12 = .ok (.getfield 93, 3) := by decide +kernel
theorem dX11_end_15 : decode cX11_end 15 = .ok (.if_icmp .le 5, 3) := by decide +kernel
theorem dX11_end_18 : decode cX11_end 18 = .ok (.iconst (-1), 1) := by decide +kernel
theorem dX11_end_19 : decode cX11_end 19 = .ok (.ireturn, 1) := by decide +kernel
theorem dX11_end_20 : decode cX11_end 20 = .ok (.aload_n 0, 1) := by decide +kernel
theorem dX11_end_21 : decode cX11_end 21 = .ok (.getfield 12, 3) := by decide +kernel
theorem dX11_end_24 : decode cX11_end 24 = .ok (.getfield 89, 3) := by decide +kernel
theorem dX11_end_27 : decode cX11_end 27 = .ok (.iload_n 1, 1) := by decide +kernel
theorem dX11_end_28 : decode cX11_end 28 = .ok (.putfield 93, 3) := by decide +kernel
theorem dX11_end_31 : decode cX11_end 31 = .ok (.iload_n 1, 1) := by decide +kernel
theorem dX11_end_32 : decode cX11_end 32 = .ok (.ireturn, 1) := by decide +kernel
noncomputable def bfX11_end_18 (b_length : Int32) (p1 : Int32) (w2_1 : Int32) : Int32 × Int32 := ((-1 : Int32), w2_1)
noncomputable def fX11_end (b_length : Int32) (p1 : Int32) : Int32 × Int32 := if p1 < (0 : Int32) then (bfX11_end_18 b_length p1 b_length) else (if p1 ≤ b_length then (p1, p1) else (bfX11_end_18 b_length p1 b_length))
set_option maxHeartbeats 4000000 in
set_option maxRecDepth 100000 in
theorem sX11_end (l : Launch) (dC : Nat → ClassId) (dI : Nat → Nat → Nat) (sz : Nat) (h0 : Nat) (xr : Nat) (tp : Nat) (am : Nat) (xs : Nat) (xf : Nat) (co : Nat) (oc : Nat) (ta : Nat) (xq : Nat) (xh : Nat) (xk : Nat) (xo : Nat) (x_outLength : Int32) (x_courtStands : Int32) (x_courtNews : Int32) (x_tallyStands : Int32) (x_historyStands : Int32) (dr : Nat) (q_faultKind : Int32) (q_faultPlace : Int32) (q_token : Int32) (q_start : Int32) (q_stop : Int32) (bt : Nat) (b_length : Int32) (p1 : Int32) (gx_outLength : gi x_outLength 0 72) (gx_courtStands : gi x_courtStands 0 1) (gx_tallyStands : gi x_tallyStands 0 1) (gx_historyStands : gi x_historyStands 0 1) (gq_start : gi q_start 0 1600) (gq_stop : gi q_stop 0 1600) (gb_length : gi b_length 0 1600) : Met l yX11_end (.code yX11_end cX11_end 2 (some .int) :: wsGA) ({ frames := 0, cells := 0, slots := 0, locals := 0 }) (va_Pc [.ref h0, .int p1] (fun U => U.heap.size = sz ∧ va_P (dC, dI) vwCl [(h0, .inr (11, [.ref xr, .ref am, .ref xs, .ref xf, .ref co, .ref oc, .ref ta, .ref xq, .ref xh, .ref xk, .ref xo, .int x_outLength, .int x_courtStands, .int x_courtNews, .int x_tallyStands, .int x_historyStands])), (xr, .inr (6, [.ref tp, .ref dr, .int q_faultKind, .int q_faultPlace, .int q_token, .int q_start, .int q_stop])), (tp, .inr (10, [.ref bt, .int b_length]))] U.heap ∧ va_K (dC, dI) vwCl [] U ∧ va_D (fun _ => True) [(h0, .inr (11, [.ref xr, .ref am, .ref xs, .ref xf, .ref co, .ref oc, .ref ta, .ref xq, .ref xh, .ref xk, .ref xo, .int x_outLength, .int x_courtStands, .int x_courtNews, .int x_tallyStands, .int x_historyStands])), (xr, .inr (6, [.ref tp, .ref dr, .int q_faultKind, .int q_faultPlace, .int q_token, .int q_start, .int q_stop])), (tp, .inr (10, [.ref bt, .int b_length]))] ∧ nzA U)) (va_Qi (fun (r : Int32) (u : Int32) => r = u ∧ gi r (-1) 1600 ∧ ((0 ≤ p1.toInt ∧ p1.toInt ≤ b_length.toInt ∧ r.toInt = p1.toInt) ∨ ((p1.toInt < 0 ∨ b_length.toInt < p1.toInt) ∧ r.toInt = -1))) (fun r t => ∃ (w2_1 : Int32), gi w2_1 0 1600 ∧ ((0 ≤ p1.toInt ∧ p1.toInt ≤ b_length.toInt ∧ w2_1.toInt = p1.toInt) ∨ ((p1.toInt < 0 ∨ b_length.toInt < p1.toInt) ∧ w2_1.toInt = b_length.toInt)) ∧ (r, w2_1) = fX11_end b_length p1 ∧ va_P (dC, dI) vwCl [(h0, .inr (11, [.ref xr, .ref am, .ref xs, .ref xf, .ref co, .ref oc, .ref ta, .ref xq, .ref xh, .ref xk, .ref xo, .int x_outLength, .int x_courtStands, .int x_courtNews, .int x_tallyStands, .int x_historyStands])), (xr, .inr (6, [.ref tp, .ref dr, .int q_faultKind, .int q_faultPlace, .int q_token, .int q_start, .int q_stop])), (tp, .inr (10, [.ref bt, .int w2_1]))] t.heap ∧ va_D (va_A [(h0, .inr (11, [.ref xr, .ref am, .ref xs, .ref xf, .ref co, .ref oc, .ref ta, .ref xq, .ref xh, .ref xk, .ref xo, .int x_outLength, .int x_courtStands, .int x_courtNews, .int x_tallyStands, .int x_historyStands])), (xr, .inr (6, [.ref tp, .ref dr, .int q_faultKind, .int q_faultPlace, .int q_token, .int q_start, .int q_stop])), (tp, .inr (10, [.ref bt, .int b_length]))] sz) [(h0, .inr (11, [.ref xr, .ref am, .ref xs, .ref xf, .ref co, .ref oc, .ref ta, .ref xq, .ref xh, .ref xk, .ref xo, .int x_outLength, .int x_courtStands, .int x_courtNews, .int x_tallyStands, .int x_historyStands])), (xr, .inr (6, [.ref tp, .ref dr, .int q_faultKind, .int q_faultPlace, .int q_token, .int q_start, .int q_stop])), (tp, .inr (10, [.ref bt, .int w2_1]))]) (va_A [(h0, .inr (11, [.ref xr, .ref am, .ref xs, .ref xf, .ref co, .ref oc, .ref ta, .ref xq, .ref xh, .ref xk, .ref xo, .int x_outLength, .int x_courtStands, .int x_courtNews, .int x_tallyStands, .int x_historyStands])), (xr, .inr (6, [.ref tp, .ref dr, .int q_faultKind, .int q_faultPlace, .int q_token, .int q_start, .int q_stop])), (tp, .inr (10, [.ref bt, .int b_length]))] sz)) 0 0 (va_A [(h0, .inr (11, [.ref xr, .ref am, .ref xs, .ref xf, .ref co, .ref oc, .ref ta, .ref xq, .ref xh, .ref xk, .ref xo, .int x_outLength, .int x_courtStands, .int x_courtNews, .int x_tallyStands, .int x_historyStands])), (xr, .inr (6, [.ref tp, .ref dr, .int q_faultKind, .int q_faultPlace, .int q_token, .int q_start, .int q_stop])), (tp, .inr (10, [.ref bt, .int b_length]))] sz) := by
  refine Met.ofW (cc := cX11_end) (maxL := 2) (ret := (some .int)) (by decide) rfl ?_
  intro p e s m args below meth c s₁ B hml hv
  obtain ⟨rfl, hsz, hP, hK, hD0, hz⟩ := hv
  have hx := B.exec
  have hb := B.bytes
  have hr := B.returns
  have hts := atoms_spec (ws := (.code yX11_end cX11_end 2 (some .int) :: wsGA)) B.pre
  have hown : s.vm.findClass RX11 = some m.cls := findClass_of_methodNamed B.named
  have hlocks := B.notSynchronized
  subst hsz
  have hD := hD0.self (sz := s.heap.size)
  generalize hAe : va_A [(h0, .inr (11, [.ref xr, .ref am, .ref xs, .ref xf, .ref co, .ref oc, .ref ta, .ref xq, .ref xh, .ref xk, .ref xo, .int x_outLength, .int x_courtStands, .int x_courtNews, .int x_tallyStands, .int x_historyStands])), (xr, .inr (6, [.ref tp, .ref dr, .int q_faultKind, .int q_faultPlace, .int q_token, .int q_start, .int q_stop])), (tp, .inr (10, [.ref bt, .int b_length]))] s.heap.size = A at hD ⊢
  have hA : ∀ q : Nat, s.heap.size ≤ q → A q := fun q h => by rw [← hAe]; exact Or.inr h
  have hS : va_S A s.heap s.heap [] := va_S.rf
  have hl := lv_entry ([.ref h0, .int p1]) (n := 2) (Nat.le_of_ble_eq_true rfl)
  rw [lg_entry_eq]
  generalize (lg_sl ([.ref h0, .int p1]) ++ List.replicate (2 - (lg_sl ([.ref h0, .int p1])).length) Slot.unset).toArray = ls at hl ⊢
  have hl : lv_has ls 2 [(0, .ref h0), (1, .int p1)] := hl
  obtain ⟨RES, hF⟩ : ∃ R9, fX11_end b_length p1 = R9 := ⟨_, rfl⟩
  have hR9 := hF
  refine lv_iload_n hx hb dX11_end_0 rfl (lv_at hl 1 rfl) ?_
  refine lv_if_lt (tgt := 18) hx hb dX11_end_1 (by decide) (fun c_21 => ?_) (fun c_21 => ?_)
  · have hF := gf_pos c_21 hF
    have hc_22 : p1.toInt < 0 := by have h9 := Int32.lt_iff_toInt_lt.mp c_21; rw [show (0 : Int32).toInt = 0 from by decide] at h9; exact h9
    have g_23 : gi p1 (-2147483648) (-1) := gi_lt_l c_21 (gi_any p1) (gi_c 0 0 (by decide)) (by decide)
    refine lv_iconst (v := (-1)) hx hb dX11_end_18 (by decide) ?_
    exact W.iret (v := (-1)) hx hb hr (fun t ht hW => ⟨⟨(-1), (-1), rfl, ⟨rfl, ⟨(gi_w (gi_c (-1) (-1) (by decide)) (by decide)), (show ((0 ≤ p1.toInt ∧ p1.toInt ≤ b_length.toInt ∧ ((-1) : Int32).toInt = p1.toInt) ∨ ((p1.toInt < 0 ∨ b_length.toInt < p1.toInt) ∧ ((-1) : Int32).toInt = -1)) from by have km1 : ((-1) : Int32).toInt = (-1) := (by decide); have qgp1 := g_23.1; have rgp1 := g_23.2; have qgb_length := gb_length.1; have rgb_length := gb_length.2; omega)⟩⟩, b_length, gb_length, (show ((0 ≤ p1.toInt ∧ p1.toInt ≤ b_length.toInt ∧ b_length.toInt = p1.toInt) ∨ ((p1.toInt < 0 ∨ b_length.toInt < p1.toInt) ∧ b_length.toInt = b_length.toInt)) from by have qgp1 := g_23.1; have rgp1 := g_23.2; have qgb_length := gb_length.1; have rgb_length := gb_length.2; omega), hF.trans hR9.symm, by rw [ht]; exact hP, hD⟩, hS.F ht⟩) hS.2.2 dX11_end_19
  · have hF := gf_neg c_21 hF
    have hc_24 : 0 ≤ p1.toInt := by have h9 := Int32.le_iff_toInt_le.mp (Int32.not_lt.mp c_21); rw [show (0 : Int32).toInt = 0 from by decide] at h9; exact h9
    have g_25 : gi p1 0 2147483647 := gi_le_r (Int32.not_lt.mp c_21) (gi_c 0 0 (by decide)) (gi_any p1)
    refine lv_iload_n hx hb dX11_end_4 rfl (lv_at hl 1 rfl) ?_
    refine lv_aload_n hx hb dX11_end_5 rfl (lv_at hl 0 rfl) ?_
    refine va_get (D := (dC, dI)) (ci := 11) (v := .ref xr) (C := RX11) (T := TX11) (N := 16) hx hb hts (fun w h => List.mem_cons_of_mem _ (jnGA_X11 w h)) hown hK hP 0 rfl rfl 0 (by decide) (hts _ (List.mem_cons_of_mem _ mGA_10)) (fun _ h9 => h9) rfl dX11_end_6 ?_
    refine va_get (D := (dC, dI)) (ci := 6) (v := .ref tp) (C := RX6) (T := TX6) (N := 7) hx hb hts (fun w h => List.mem_cons_of_mem _ (jnGA_X6 w h)) hown hK hP 1 rfl rfl 0 (by decide) (hts _ (List.mem_cons_of_mem _ mGA_129)) (fun _ h9 => h9) rfl dX11_end_9 ?_
    refine va_get (D := (dC, dI)) (ci := 10) (v := .int b_length) (C := RX10) (T := TX10) (N := 2) hx hb hts (fun w h => List.mem_cons_of_mem _ (jnGA_X10 w h)) hown hK hP 2 rfl rfl 1 (by decide) (hts _ (List.mem_cons_of_mem _ mGA_130)) (fun _ h9 => h9) rfl dX11_end_12 ?_
    refine lv_icmp_le (tgt := 20) hx hb dX11_end_15 (by decide) (fun c_26 => ?_) (fun c_26 => ?_)
    · have hF := gf_pos c_26 hF
      have hc_27 : p1.toInt ≤ b_length.toInt := by have h9 := Int32.le_iff_toInt_le.mp c_26; exact h9
      have g_28 : gi p1 0 1600 := gi_le_l c_26 g_25 gb_length
      refine lv_aload_n hx hb dX11_end_20 rfl (lv_at hl 0 rfl) ?_
      refine va_get (D := (dC, dI)) (ci := 11) (v := .ref xr) (C := RX11) (T := TX11) (N := 16) hx hb hts (fun w h => List.mem_cons_of_mem _ (jnGA_X11 w h)) hown hK hP 0 rfl rfl 0 (by decide) (hts _ (List.mem_cons_of_mem _ mGA_10)) (fun _ h9 => h9) rfl dX11_end_21 ?_
      refine va_get (D := (dC, dI)) (ci := 6) (v := .ref tp) (C := RX6) (T := TX6) (N := 7) hx hb hts (fun w h => List.mem_cons_of_mem _ (jnGA_X6 w h)) hown hK hP 1 rfl rfl 0 (by decide) (hts _ (List.mem_cons_of_mem _ mGA_129)) (fun _ h9 => h9) rfl dX11_end_24 ?_
      refine lv_iload_n hx hb dX11_end_27 rfl (lv_at hl 1 rfl) ?_
      refine va_put (D := (dC, dI)) (ci := 10) (v := .int p1) (ty := .int) (C := RX10) (T := TX10) (N := 2) hx hb hts (fun w h => List.mem_cons_of_mem _ (jnGA_X10 w h)) tyX10 tyX10_ok nmX10 hown hK hP hD hS 2 rfl rfl 1 (by decide) (hts _ (List.mem_cons_of_mem _ mGA_130)) (fun _ h9 => h9) rfl (by decide +kernel) rfl rfl (Nat.le_of_ble_eq_true rfl) dX11_end_28 (fun H locs hP hD hS => ?_)
      have hP : va_P (dC, dI) vwCl [(h0, .inr (11, [.ref xr, .ref am, .ref xs, .ref xf, .ref co, .ref oc, .ref ta, .ref xq, .ref xh, .ref xk, .ref xo, .int x_outLength, .int x_courtStands, .int x_courtNews, .int x_tallyStands, .int x_historyStands])), (xr, .inr (6, [.ref tp, .ref dr, .int q_faultKind, .int q_faultPlace, .int q_token, .int q_start, .int q_stop])), (tp, .inr (10, [.ref bt, .int p1]))] H := hP
      have hD : va_D A [(h0, .inr (11, [.ref xr, .ref am, .ref xs, .ref xf, .ref co, .ref oc, .ref ta, .ref xq, .ref xh, .ref xk, .ref xo, .int x_outLength, .int x_courtStands, .int x_courtNews, .int x_tallyStands, .int x_historyStands])), (xr, .inr (6, [.ref tp, .ref dr, .int q_faultKind, .int q_faultPlace, .int q_token, .int q_start, .int q_stop])), (tp, .inr (10, [.ref bt, .int p1]))] := hD
      refine lv_iload_n hx hb dX11_end_31 rfl (lv_at hl 1 rfl) ?_
      exact W.iret (v := p1) hx hb hr (fun t ht hW => ⟨⟨p1, p1, rfl, ⟨rfl, ⟨(gi_w g_28 (by decide)), (show ((0 ≤ p1.toInt ∧ p1.toInt ≤ b_length.toInt ∧ p1.toInt = p1.toInt) ∨ ((p1.toInt < 0 ∨ b_length.toInt < p1.toInt) ∧ p1.toInt = -1)) from by have qgp1 := g_28.1; have rgp1 := g_28.2; have qgb_length := gb_length.1; have rgb_length := gb_length.2; omega)⟩⟩, p1, g_28, (show ((0 ≤ p1.toInt ∧ p1.toInt ≤ b_length.toInt ∧ p1.toInt = p1.toInt) ∨ ((p1.toInt < 0 ∨ b_length.toInt < p1.toInt) ∧ p1.toInt = b_length.toInt)) from by have qgp1 := g_28.1; have rgp1 := g_28.2; have qgb_length := gb_length.1; have rgb_length := gb_length.2; omega), hF.trans hR9.symm, by rw [ht]; exact hP, hD⟩, hS.F ht⟩) hS.2.2 dX11_end_32
    · have hF := gf_neg c_26 hF
      have hc_29 : b_length.toInt < p1.toInt := by have h9 := Int32.lt_iff_toInt_lt.mp (Int32.not_le.mp c_26); exact h9
      have g_30 : gi p1 1 2147483647 := gi_lt_r (Int32.not_le.mp c_26) gb_length g_25 (by decide)
      refine lv_iconst (v := (-1)) hx hb dX11_end_18 (by decide) ?_
      exact W.iret (v := (-1)) hx hb hr (fun t ht hW => ⟨⟨(-1), (-1), rfl, ⟨rfl, ⟨(gi_w (gi_c (-1) (-1) (by decide)) (by decide)), (show ((0 ≤ p1.toInt ∧ p1.toInt ≤ b_length.toInt ∧ ((-1) : Int32).toInt = p1.toInt) ∨ ((p1.toInt < 0 ∨ b_length.toInt < p1.toInt) ∧ ((-1) : Int32).toInt = -1)) from by have km1 : ((-1) : Int32).toInt = (-1) := (by decide); have qgp1 := g_30.1; have rgp1 := g_30.2; have qgb_length := gb_length.1; have rgb_length := gb_length.2; omega)⟩⟩, b_length, gb_length, (show ((0 ≤ p1.toInt ∧ p1.toInt ≤ b_length.toInt ∧ b_length.toInt = p1.toInt) ∨ ((p1.toInt < 0 ∨ b_length.toInt < p1.toInt) ∧ b_length.toInt = b_length.toInt)) from by have qgp1 := g_30.1; have rgp1 := g_30.2; have qgb_length := gb_length.1; have rgb_length := gb_length.2; omega), hF.trans hR9.symm, by rw [ht]; exact hP, hD⟩, hS.F ht⟩) hS.2.2 dX11_end_19
theorem dX11_fault_0 : decode cX11_fault 0 = .ok (.iload_n 1, 1) := by decide +kernel
theorem dX11_fault_1 : decode cX11_fault 1 = .ok (.ifCond .ne 11, 3) := by decide +kernel
theorem dX11_fault_4 : decode cX11_fault 4 = .ok (.aload_n 0, 1) := by decide +kernel
theorem dX11_fault_5 : decode cX11_fault 5 = .ok (.getfield 12, 3) := by decide +kernel
theorem dX11_fault_8 : decode cX11_fault 8 = .ok (.getfield 105, 3) := by decide +kernel
theorem dX11_fault_11 : decode cX11_fault 11 = .ok (.ireturn, 1) := by decide +kernel
theorem dX11_fault_12 : decode cX11_fault 12 = .ok (.iload_n 1, 1) := by decide +kernel
theorem dX11_fault_13 : decode cX11_fault 13 = .ok (.iconst 1, 1) := by decide +kernel
theorem dX11_fault_14 : decode cX11_fault 14 = .ok (.if_icmp .ne 13, 3) := by decide +kernel
theorem dX11_fault_17 : decode cX11_fault 17 = .ok (.aload_n 0, 1) := by decide +kernel
theorem dX11_fault_18 : decode cX11_fault 18 = .ok (.getfield 12, 3) := by decide +kernel
theorem dX11_fault_21 : decode cX11_fault 21 = .ok (.getfield 117, 3) := by decide +kernel
theorem dX11_fault_24 : decode cX11_fault 24 = .ok (.goto 4, 3) := by decide +kernel
theorem dX11_fault_27 : decode cX11_fault 27 = .ok (.iconst (-1), 1) := by decide +kernel
theorem dX11_fault_28 : decode cX11_fault 28 = .ok (.ireturn, 1) := by decide +kernel
noncomputable def bfX11_fault_28 (q_faultKind : Int32) (q_faultPlace : Int32) (p1 : Int32) (s0 : Int32) : Int32 := s0
noncomputable def fX11_fault (q_faultKind : Int32) (q_faultPlace : Int32) (p1 : Int32) : Int32 := if p1 = (0 : Int32) then q_faultKind else (if p1 = (1 : Int32) then (bfX11_fault_28 q_faultKind q_faultPlace p1 q_faultPlace) else (bfX11_fault_28 q_faultKind q_faultPlace p1 (-1 : Int32)))
set_option maxHeartbeats 4000000 in
set_option maxRecDepth 100000 in
theorem sX11_fault (l : Launch) (dC : Nat → ClassId) (dI : Nat → Nat → Nat) (h0 : Nat) (xr : Nat) (am : Nat) (xs : Nat) (xf : Nat) (co : Nat) (oc : Nat) (ta : Nat) (xq : Nat) (xh : Nat) (xk : Nat) (xo : Nat) (x_outLength : Int32) (x_courtStands : Int32) (x_courtNews : Int32) (x_tallyStands : Int32) (x_historyStands : Int32) (tp : Nat) (dr : Nat) (q_faultKind : Int32) (q_faultPlace : Int32) (q_token : Int32) (q_start : Int32) (q_stop : Int32) (p1 : Int32) (gx_outLength : gi x_outLength 0 72) (gx_courtStands : gi x_courtStands 0 1) (gx_tallyStands : gi x_tallyStands 0 1) (gx_historyStands : gi x_historyStands 0 1) (gq_start : gi q_start 0 1600) (gq_stop : gi q_stop 0 1600) : Met l yX11_fault (.code yX11_fault cX11_fault 2 (some .int) :: wsGA) ({ frames := 0, cells := 0, slots := 0, locals := 0 }) (va_Pc [.ref h0, .int p1] (fun U => va_P (dC, dI) vwCl [(h0, .inr (11, [.ref xr, .ref am, .ref xs, .ref xf, .ref co, .ref oc, .ref ta, .ref xq, .ref xh, .ref xk, .ref xo, .int x_outLength, .int x_courtStands, .int x_courtNews, .int x_tallyStands, .int x_historyStands])), (xr, .inr (6, [.ref tp, .ref dr, .int q_faultKind, .int q_faultPlace, .int q_token, .int q_start, .int q_stop]))] U.heap ∧ va_K (dC, dI) vwCl [] U ∧ nzA U)) (va_Qi (fun (r : Int32) (u : Unit) => (gi r (-2147483648) 2147483647) ∧ r = fX11_fault q_faultKind q_faultPlace p1) (fun _ _ => True) (fun _ => False)) 0 0 (fun _ => False) := by
  refine Met.ofW (cc := cX11_fault) (maxL := 2) (ret := (some .int)) (by decide) rfl ?_
  intro p e s m args below meth c s₁ B hml hv
  obtain ⟨rfl, hP, hK, hz⟩ := hv
  have hx := B.exec
  have hb := B.bytes
  have hr := B.returns
  have hts := atoms_spec (ws := (.code yX11_fault cX11_fault 2 (some .int) :: wsGA)) B.pre
  have hown : s.vm.findClass RX11 = some m.cls := findClass_of_methodNamed B.named
  have hlocks := B.notSynchronized
  have hS : va_S (fun _ => False) s.heap s.heap [] := va_S.rf
  have hl := lv_entry ([.ref h0, .int p1]) (n := 2) (Nat.le_of_ble_eq_true rfl)
  rw [lg_entry_eq]
  generalize (lg_sl ([.ref h0, .int p1]) ++ List.replicate (2 - (lg_sl ([.ref h0, .int p1])).length) Slot.unset).toArray = ls at hl ⊢
  have hl : lv_has ls 2 [(0, .ref h0), (1, .int p1)] := hl
  obtain ⟨RES, hF⟩ : ∃ R9, fX11_fault q_faultKind q_faultPlace p1 = R9 := ⟨_, rfl⟩
  have hR9 := hF
  refine lv_iload_n hx hb dX11_fault_0 rfl (lv_at hl 1 rfl) ?_
  refine lv_if_ne (tgt := 12) hx hb dX11_fault_1 (by decide) (fun c_5 => ?_) (fun c_5 => ?_)
  · have hF := gf_neg c_5 hF
    refine lv_iload_n hx hb dX11_fault_12 rfl (lv_at hl 1 rfl) ?_
    refine lv_iconst (v := 1) hx hb dX11_fault_13 (by decide) ?_
    refine lv_icmp_ne (tgt := 27) hx hb dX11_fault_14 (by decide) (fun c_6 => ?_) (fun c_6 => ?_)
    · have hF := gf_neg c_6 hF
      refine lv_iconst (v := (-1)) hx hb dX11_fault_27 (by decide) ?_
      exact W.iret (v := (-1)) hx hb hr (fun t ht hW => ⟨⟨(-1), (), rfl, ⟨(gi_any (-1)), hF.trans hR9.symm⟩, trivial⟩, hS.F ht⟩) hS.2.2 dX11_fault_28
    · have hF := gf_pos c_6 hF
      have g_7 : gi p1 1 1 := gi_eq c_6 (gi_c 1 1 (by decide))
      refine lv_aload_n hx hb dX11_fault_17 rfl (lv_at hl 0 rfl) ?_
      refine va_get (D := (dC, dI)) (ci := 11) (v := .ref xr) (C := RX11) (T := TX11) (N := 16) hx hb hts (fun w h => List.mem_cons_of_mem _ (jnGA_X11 w h)) hown hK hP 0 rfl rfl 0 (by decide) (hts _ (List.mem_cons_of_mem _ mGA_10)) (fun _ h9 => h9) rfl dX11_fault_18 ?_
      refine va_get (D := (dC, dI)) (ci := 6) (v := .int q_faultPlace) (C := RX6) (T := TX6) (N := 7) hx hb hts (fun w h => List.mem_cons_of_mem _ (jnGA_X6 w h)) hown hK hP 1 rfl rfl 3 (by decide) (hts _ (List.mem_cons_of_mem _ mGA_349)) (fun _ h9 => h9) rfl dX11_fault_21 ?_
      refine lv_goto (tgt := 28) hx hb dX11_fault_24 (by decide) ?_
      exact W.iret (v := q_faultPlace) hx hb hr (fun t ht hW => ⟨⟨q_faultPlace, (), rfl, ⟨(gi_any q_faultPlace), hF.trans hR9.symm⟩, trivial⟩, hS.F ht⟩) hS.2.2 dX11_fault_28
  · have hF := gf_pos c_5 hF
    have g_8 : gi p1 0 0 := gi_eq c_5 (gi_c 0 0 (by decide))
    refine lv_aload_n hx hb dX11_fault_4 rfl (lv_at hl 0 rfl) ?_
    refine va_get (D := (dC, dI)) (ci := 11) (v := .ref xr) (C := RX11) (T := TX11) (N := 16) hx hb hts (fun w h => List.mem_cons_of_mem _ (jnGA_X11 w h)) hown hK hP 0 rfl rfl 0 (by decide) (hts _ (List.mem_cons_of_mem _ mGA_10)) (fun _ h9 => h9) rfl dX11_fault_5 ?_
    refine va_get (D := (dC, dI)) (ci := 6) (v := .int q_faultKind) (C := RX6) (T := TX6) (N := 7) hx hb hts (fun w h => List.mem_cons_of_mem _ (jnGA_X6 w h)) hown hK hP 1 rfl rfl 2 (by decide) (hts _ (List.mem_cons_of_mem _ mGA_141)) (fun _ h9 => h9) rfl dX11_fault_8 ?_
    exact W.iret (v := q_faultKind) hx hb hr (fun t ht hW => ⟨⟨q_faultKind, (), rfl, ⟨(gi_any q_faultKind), hF.trans hR9.symm⟩, trivial⟩, hS.F ht⟩) hS.2.2 dX11_fault_11
theorem dX11_count_0 : decode cX11_count 0 = .ok (.iload_n 1, 1) := by decide +kernel
theorem dX11_count_1 : decode cX11_count 1 = .ok (.tableswitch 147 0 10 #[59, 67, 75, 83, 91, 99, 107, 115, 126, 131, 139], 59) := by decide +kernel
theorem dX11_count_60 : decode cX11_count 60 = .ok (.aload_n 0, 1) := by decide +kernel
theorem dX11_count_61 : decode cX11_count 61 = .ok (.getfield 19, 3) := by decide +kernel
theorem dX11_count_64 : decode cX11_count 64 = .ok (.getfield 120, 3) := by decide +kernel
theorem dX11_count_67 : decode cX11_count 67 = .ok (.ireturn, 1) := by decide +kernel
theorem dX11_count_68 : decode cX11_count 68 = .ok (.aload_n 0, 1) := by decide +kernel
theorem dX11_count_69 : decode cX11_count 69 = .ok (.getfield 19, 3) := by decide +kernel
theorem dX11_count_72 : decode cX11_count 72 = .ok (.getfield 123, 3) := by decide +kernel
theorem dX11_count_75 : decode cX11_count 75 = .ok (.ireturn, 1) := by decide +kernel
theorem dX11_count_76 : decode cX11_count 76 = .ok (.aload_n 0, 1) := by decide +kernel
theorem dX11_count_77 : decode cX11_count 77 = .ok (.getfield 19, 3) := by decide +kernel
theorem dX11_count_80 : decode cX11_count 80 = .ok (.getfield 126, 3) := by decide +kernel
theorem dX11_count_83 : decode cX11_count 83 = .ok (.ireturn, 1) := by decide +kernel
theorem dX11_count_84 : decode cX11_count 84 = .ok (.aload_n 0, 1) := by decide +kernel
theorem dX11_count_85 : decode cX11_count 85 = .ok (.getfield 19, 3) := by decide +kernel
theorem dX11_count_88 : decode cX11_count 88 = .ok (.getfield 129, 3) := by decide +kernel
theorem dX11_count_91 : decode cX11_count 91 = .ok (.ireturn, 1) := by decide +kernel
theorem dX11_count_92 : decode cX11_count 92 = .ok (.aload_n 0, 1) := by decide +kernel
theorem dX11_count_93 : decode cX11_count 93 = .ok (.getfield 19, 3) := by decide +kernel
theorem dX11_count_96 : decode cX11_count 96 = .ok (.getfield 132, 3) := by decide +kernel
theorem dX11_count_99 : decode cX11_count 99 = .ok (.ireturn, 1) := by decide +kernel
theorem dX11_count_100 : decode cX11_count 100 = .ok (.aload_n 0, 1) := by decide +kernel
theorem dX11_count_101 : decode cX11_count 101 = .ok (.getfield 19, 3) := by decide +kernel
theorem dX11_count_104 : decode cX11_count 104 = .ok (.getfield 135, 3) := by decide +kernel
theorem dX11_count_107 : decode cX11_count 107 = .ok (.ireturn, 1) := by decide +kernel
theorem dX11_count_108 : decode cX11_count 108 = .ok (.aload_n 0, 1) := by decide +kernel
theorem dX11_count_109 : decode cX11_count 109 = .ok (.getfield 19, 3) := by decide +kernel
theorem dX11_count_112 : decode cX11_count 112 = .ok (.getfield 114, 3) := by decide +kernel
theorem dX11_count_115 : decode cX11_count 115 = .ok (.ireturn, 1) := by decide +kernel
theorem dX11_count_116 : decode cX11_count 116 = .ok (.aload_n 0, 1) := by decide +kernel
theorem dX11_count_117 : decode cX11_count 117 = .ok (.getfield 12, 3) := by decide +kernel
theorem dX11_count_120 : decode cX11_count 120 = .ok (.getfield 89, 3) := by decide +kernel
theorem dX11_count_123 : decode cX11_count 123 = .ok (.getfield 93, 3) := by decide +kernel
theorem dX11_count_126 : decode cX11_count 126 = .ok (.ireturn, 1) := by decide +kernel
theorem dX11_count_127 : decode cX11_count 127 = .ok (.aload_n 0, 1) := by decide +kernel
theorem dX11_count_128 : decode cX11_count 128 = .ok (.getfield 72, 3) := by decide +kernel
theorem dX11_count_131 : decode cX11_count 131 = .ok (.ireturn, 1) := by decide +kernel
theorem dX11_count_132 : decode cX11_count 132 = .ok (.aload_n 0, 1) := by decide +kernel
theorem dX11_count_133 : decode cX11_count 133 = .ok (.getfield 19, 3) := by decide +kernel
theorem dX11_count_136 : decode cX11_count 136 = .ok (.getfield 138, 3) := by decide +kernel
theorem dX11_count_139 : decode cX11_count 139 = .ok (.ireturn, 1) := by decide +kernel
theorem dX11_count_140 : decode cX11_count 140 = .ok (.aload_n 0, 1) := by decide +kernel
theorem dX11_count_141 : decode cX11_count 141 = .ok (.getfield 19, 3) := by decide +kernel
theorem dX11_count_144 : decode cX11_count 144 = .ok (.getfield 141, 3) := by decide +kernel
theorem dX11_count_147 : decode cX11_count 147 = .ok (.ireturn, 1) := by decide +kernel
theorem dX11_count_148 : decode cX11_count 148 = .ok (.iconst (-1), 1) := by decide +kernel
theorem dX11_count_149 : decode cX11_count 149 = .ok (.ireturn, 1) := by decide +kernel
noncomputable def fX11_count (x_outLength : Int32) (amonths : Int32) (afull : Int32) (alean : Int32) (alines : Int32) (amoonStart : Int32) (amoonStep : Int32) (aplaceCount : Int32) (areportCount : Int32) (adeedCount : Int32) (b_length : Int32) (p1 : Int32) : Int32 := (if p1 = (0 : Int32) then amonths else (if p1 = (1 : Int32) then afull else (if p1 = (2 : Int32) then alean else (if p1 = (3 : Int32) then aplaceCount else (if p1 = (4 : Int32) then areportCount else (if p1 = (5 : Int32) then adeedCount else (if p1 = (6 : Int32) then alines else (if p1 = (7 : Int32) then b_length else (if p1 = (8 : Int32) then x_outLength else (if p1 = (9 : Int32) then amoonStart else (if p1 = (10 : Int32) then amoonStep else (-1 : Int32))))))))))))
set_option maxHeartbeats 4000000 in
set_option maxRecDepth 100000 in
theorem sX11_count (l : Launch) (dC : Nat → ClassId) (dI : Nat → Nat → Nat) (h0 : Nat) (am : Nat) (xr : Nat) (tp : Nat) (xs : Nat) (xf : Nat) (co : Nat) (oc : Nat) (ta : Nat) (xq : Nat) (xh : Nat) (xk : Nat) (xo : Nat) (x_outLength : Int32) (x_courtStands : Int32) (x_courtNews : Int32) (x_tallyStands : Int32) (x_historyStands : Int32) (amonths : Int32) (afull : Int32) (alean : Int32) (alines : Int32) (ahasMoon : Int32) (amoonStart : Int32) (amoonStep : Int32) (aplaceCount : Int32) (areportCount : Int32) (adeedCount : Int32) (pl : Nat) (re : Nat) (de : Nat) (dr : Nat) (q_faultKind : Int32) (q_faultPlace : Int32) (q_token : Int32) (q_start : Int32) (q_stop : Int32) (bt : Nat) (b_length : Int32) (p1 : Int32) (gx_outLength : gi x_outLength 0 72) (gx_courtStands : gi x_courtStands 0 1) (gx_tallyStands : gi x_tallyStands 0 1) (gx_historyStands : gi x_historyStands 0 1) (gamonths : gi amonths 0 24) (gafull : gi afull 0 5) (galean : gi alean 0 5) (gahasMoon : gi ahasMoon 0 1) (gaplaceCount : gi aplaceCount 0 6) (gareportCount : gi areportCount 0 24) (gadeedCount : gi adeedCount 0 8) (gq_start : gi q_start 0 1600) (gq_stop : gi q_stop 0 1600) (gb_length : gi b_length 0 1600) : Met l yX11_count (.code yX11_count cX11_count 2 (some .int) :: wsGA) ({ frames := 0, cells := 0, slots := 0, locals := 0 }) (va_Pc [.ref h0, .int p1] (fun U => va_P (dC, dI) vwCl [(h0, .inr (11, [.ref xr, .ref am, .ref xs, .ref xf, .ref co, .ref oc, .ref ta, .ref xq, .ref xh, .ref xk, .ref xo, .int x_outLength, .int x_courtStands, .int x_courtNews, .int x_tallyStands, .int x_historyStands])), (am, .inr (0, [.int amonths, .int afull, .int alean, .int alines, .int ahasMoon, .int amoonStart, .int amoonStep, .int aplaceCount, .int areportCount, .int adeedCount, .ref pl, .ref re, .ref de])), (xr, .inr (6, [.ref tp, .ref dr, .int q_faultKind, .int q_faultPlace, .int q_token, .int q_start, .int q_stop])), (tp, .inr (10, [.ref bt, .int b_length]))] U.heap ∧ va_K (dC, dI) vwCl [] U ∧ nzA U)) (va_Qi (fun (r : Int32) (u : Unit) => (gi r (-2147483648) 2147483647) ∧ r = fX11_count x_outLength amonths afull alean alines amoonStart amoonStep aplaceCount areportCount adeedCount b_length p1) (fun _ _ => True) (fun _ => False)) 0 0 (fun _ => False) := by
  refine Met.ofW (cc := cX11_count) (maxL := 2) (ret := (some .int)) (by decide) rfl ?_
  intro p e s m args below meth c s₁ B hml hv
  obtain ⟨rfl, hP, hK, hz⟩ := hv
  have hx := B.exec
  have hb := B.bytes
  have hr := B.returns
  have hts := atoms_spec (ws := (.code yX11_count cX11_count 2 (some .int) :: wsGA)) B.pre
  have hown : s.vm.findClass RX11 = some m.cls := findClass_of_methodNamed B.named
  have hlocks := B.notSynchronized
  have hS : va_S (fun _ => False) s.heap s.heap [] := va_S.rf
  have hl := lv_entry ([.ref h0, .int p1]) (n := 2) (Nat.le_of_ble_eq_true rfl)
  rw [lg_entry_eq]
  generalize (lg_sl ([.ref h0, .int p1]) ++ List.replicate (2 - (lg_sl ([.ref h0, .int p1])).length) Slot.unset).toArray = ls at hl ⊢
  have hl : lv_has ls 2 [(0, .ref h0), (1, .int p1)] := hl
  obtain ⟨RES, hF⟩ : ∃ R9, fX11_count x_outLength amonths afull alean alines amoonStart amoonStep aplaceCount areportCount adeedCount b_length p1 = R9 := ⟨_, rfl⟩
  have hR9 := hF
  refine lv_iload_n hx hb dX11_count_0 rfl (lv_at hl 1 rfl) ?_
  rcases gz_sw p1 10 (Nat.le_of_ble_eq_true rfl) with hj_2 | ⟨j_2, hj_2, ej_2⟩
  · refine lv_tableOut (tgt := 148) hx hb dX11_count_1 hj_2 (by decide) ?_
    have hF := gf_neg (fun h9 => by have h8 := congrArg Int32.toInt h9; rw [show (0 : Int32).toInt = 0 from by decide] at h8; omega) hF
    have hF := gf_neg (fun h9 => by have h8 := congrArg Int32.toInt h9; rw [show (1 : Int32).toInt = 1 from by decide] at h8; omega) hF
    have hF := gf_neg (fun h9 => by have h8 := congrArg Int32.toInt h9; rw [show (2 : Int32).toInt = 2 from by decide] at h8; omega) hF
    have hF := gf_neg (fun h9 => by have h8 := congrArg Int32.toInt h9; rw [show (3 : Int32).toInt = 3 from by decide] at h8; omega) hF
    have hF := gf_neg (fun h9 => by have h8 := congrArg Int32.toInt h9; rw [show (4 : Int32).toInt = 4 from by decide] at h8; omega) hF
    have hF := gf_neg (fun h9 => by have h8 := congrArg Int32.toInt h9; rw [show (5 : Int32).toInt = 5 from by decide] at h8; omega) hF
    have hF := gf_neg (fun h9 => by have h8 := congrArg Int32.toInt h9; rw [show (6 : Int32).toInt = 6 from by decide] at h8; omega) hF
    have hF := gf_neg (fun h9 => by have h8 := congrArg Int32.toInt h9; rw [show (7 : Int32).toInt = 7 from by decide] at h8; omega) hF
    have hF := gf_neg (fun h9 => by have h8 := congrArg Int32.toInt h9; rw [show (8 : Int32).toInt = 8 from by decide] at h8; omega) hF
    have hF := gf_neg (fun h9 => by have h8 := congrArg Int32.toInt h9; rw [show (9 : Int32).toInt = 9 from by decide] at h8; omega) hF
    have hF := gf_neg (fun h9 => by have h8 := congrArg Int32.toInt h9; rw [show (10 : Int32).toInt = 10 from by decide] at h8; omega) hF
    refine lv_iconst (v := (-1)) hx hb dX11_count_148 (by decide) ?_
    exact W.iret (v := (-1)) hx hb hr (fun t ht hW => ⟨⟨(-1), (), rfl, ⟨(gi_any (-1)), hF.trans hR9.symm⟩, trivial⟩, hS.F ht⟩) hS.2.2 dX11_count_149
  · rcases (show j_2 = 0 ∨ j_2 = 1 ∨ j_2 = 2 ∨ j_2 = 3 ∨ j_2 = 4 ∨ j_2 = 5 ∨ j_2 = 6 ∨ j_2 = 7 ∨ j_2 = 8 ∨ j_2 = 9 ∨ j_2 = 10 by omega) with rfl | rfl | rfl | rfl | rfl | rfl | rfl | rfl | rfl | rfl | rfl
    · refine lv_tableIn (off := 59) (tgt := 60) hx hb dX11_count_1 (by rw [ej_2]; decide +kernel) (by rw [ej_2]; decide +kernel) (by rw [ej_2]; decide +kernel) (by decide) ?_
      have hF := gf_pos (by rw [ej_2]; rfl) hF
      refine lv_aload_n hx hb dX11_count_60 rfl (lv_at hl 0 rfl) ?_
      refine va_get (D := (dC, dI)) (ci := 11) (v := .ref am) (C := RX11) (T := TX11) (N := 16) hx hb hts (fun w h => List.mem_cons_of_mem _ (jnGA_X11 w h)) hown hK hP 0 rfl rfl 1 (by decide) (hts _ (List.mem_cons_of_mem _ mGA_14)) (fun _ h9 => h9) rfl dX11_count_61 ?_
      refine va_get (D := (dC, dI)) (ci := 0) (v := .int amonths) (C := RX0) (T := TX0) (N := 13) hx hb hts (fun w h => List.mem_cons_of_mem _ (jnGA_X0 w h)) hown hK hP 1 rfl rfl 0 (by decide) (hts _ (List.mem_cons_of_mem _ mGA_353)) (fun _ h9 => h9) rfl dX11_count_64 ?_
      exact W.iret (v := amonths) hx hb hr (fun t ht hW => ⟨⟨amonths, (), rfl, ⟨(gi_any amonths), hF.trans hR9.symm⟩, trivial⟩, hS.F ht⟩) hS.2.2 dX11_count_67
    · refine lv_tableIn (off := 67) (tgt := 68) hx hb dX11_count_1 (by rw [ej_2]; decide +kernel) (by rw [ej_2]; decide +kernel) (by rw [ej_2]; decide +kernel) (by decide) ?_
      have hF := gf_neg (by rw [ej_2]; decide) hF
      have hF := gf_pos (by rw [ej_2]; rfl) hF
      refine lv_aload_n hx hb dX11_count_68 rfl (lv_at hl 0 rfl) ?_
      refine va_get (D := (dC, dI)) (ci := 11) (v := .ref am) (C := RX11) (T := TX11) (N := 16) hx hb hts (fun w h => List.mem_cons_of_mem _ (jnGA_X11 w h)) hown hK hP 0 rfl rfl 1 (by decide) (hts _ (List.mem_cons_of_mem _ mGA_14)) (fun _ h9 => h9) rfl dX11_count_69 ?_
      refine va_get (D := (dC, dI)) (ci := 0) (v := .int afull) (C := RX0) (T := TX0) (N := 13) hx hb hts (fun w h => List.mem_cons_of_mem _ (jnGA_X0 w h)) hown hK hP 1 rfl rfl 1 (by decide) (hts _ (List.mem_cons_of_mem _ mGA_354)) (fun _ h9 => h9) rfl dX11_count_72 ?_
      exact W.iret (v := afull) hx hb hr (fun t ht hW => ⟨⟨afull, (), rfl, ⟨(gi_any afull), hF.trans hR9.symm⟩, trivial⟩, hS.F ht⟩) hS.2.2 dX11_count_75
    · refine lv_tableIn (off := 75) (tgt := 76) hx hb dX11_count_1 (by rw [ej_2]; decide +kernel) (by rw [ej_2]; decide +kernel) (by rw [ej_2]; decide +kernel) (by decide) ?_
      have hF := gf_neg (by rw [ej_2]; decide) hF
      have hF := gf_neg (by rw [ej_2]; decide) hF
      have hF := gf_pos (by rw [ej_2]; rfl) hF
      refine lv_aload_n hx hb dX11_count_76 rfl (lv_at hl 0 rfl) ?_
      refine va_get (D := (dC, dI)) (ci := 11) (v := .ref am) (C := RX11) (T := TX11) (N := 16) hx hb hts (fun w h => List.mem_cons_of_mem _ (jnGA_X11 w h)) hown hK hP 0 rfl rfl 1 (by decide) (hts _ (List.mem_cons_of_mem _ mGA_14)) (fun _ h9 => h9) rfl dX11_count_77 ?_
      refine va_get (D := (dC, dI)) (ci := 0) (v := .int alean) (C := RX0) (T := TX0) (N := 13) hx hb hts (fun w h => List.mem_cons_of_mem _ (jnGA_X0 w h)) hown hK hP 1 rfl rfl 2 (by decide) (hts _ (List.mem_cons_of_mem _ mGA_355)) (fun _ h9 => h9) rfl dX11_count_80 ?_
      exact W.iret (v := alean) hx hb hr (fun t ht hW => ⟨⟨alean, (), rfl, ⟨(gi_any alean), hF.trans hR9.symm⟩, trivial⟩, hS.F ht⟩) hS.2.2 dX11_count_83
    · refine lv_tableIn (off := 83) (tgt := 84) hx hb dX11_count_1 (by rw [ej_2]; decide +kernel) (by rw [ej_2]; decide +kernel) (by rw [ej_2]; decide +kernel) (by decide) ?_
      have hF := gf_neg (by rw [ej_2]; decide) hF
      have hF := gf_neg (by rw [ej_2]; decide) hF
      have hF := gf_neg (by rw [ej_2]; decide) hF
      have hF := gf_pos (by rw [ej_2]; rfl) hF
      refine lv_aload_n hx hb dX11_count_84 rfl (lv_at hl 0 rfl) ?_
      refine va_get (D := (dC, dI)) (ci := 11) (v := .ref am) (C := RX11) (T := TX11) (N := 16) hx hb hts (fun w h => List.mem_cons_of_mem _ (jnGA_X11 w h)) hown hK hP 0 rfl rfl 1 (by decide) (hts _ (List.mem_cons_of_mem _ mGA_14)) (fun _ h9 => h9) rfl dX11_count_85 ?_
      refine va_get (D := (dC, dI)) (ci := 0) (v := .int aplaceCount) (C := RX0) (T := TX0) (N := 13) hx hb hts (fun w h => List.mem_cons_of_mem _ (jnGA_X0 w h)) hown hK hP 1 rfl rfl 7 (by decide) (hts _ (List.mem_cons_of_mem _ mGA_356)) (fun _ h9 => h9) rfl dX11_count_88 ?_
      exact W.iret (v := aplaceCount) hx hb hr (fun t ht hW => ⟨⟨aplaceCount, (), rfl, ⟨(gi_any aplaceCount), hF.trans hR9.symm⟩, trivial⟩, hS.F ht⟩) hS.2.2 dX11_count_91
    · refine lv_tableIn (off := 91) (tgt := 92) hx hb dX11_count_1 (by rw [ej_2]; decide +kernel) (by rw [ej_2]; decide +kernel) (by rw [ej_2]; decide +kernel) (by decide) ?_
      have hF := gf_neg (by rw [ej_2]; decide) hF
      have hF := gf_neg (by rw [ej_2]; decide) hF
      have hF := gf_neg (by rw [ej_2]; decide) hF
      have hF := gf_neg (by rw [ej_2]; decide) hF
      have hF := gf_pos (by rw [ej_2]; rfl) hF
      refine lv_aload_n hx hb dX11_count_92 rfl (lv_at hl 0 rfl) ?_
      refine va_get (D := (dC, dI)) (ci := 11) (v := .ref am) (C := RX11) (T := TX11) (N := 16) hx hb hts (fun w h => List.mem_cons_of_mem _ (jnGA_X11 w h)) hown hK hP 0 rfl rfl 1 (by decide) (hts _ (List.mem_cons_of_mem _ mGA_14)) (fun _ h9 => h9) rfl dX11_count_93 ?_
      refine va_get (D := (dC, dI)) (ci := 0) (v := .int areportCount) (C := RX0) (T := TX0) (N := 13) hx hb hts (fun w h => List.mem_cons_of_mem _ (jnGA_X0 w h)) hown hK hP 1 rfl rfl 8 (by decide) (hts _ (List.mem_cons_of_mem _ mGA_357)) (fun _ h9 => h9) rfl dX11_count_96 ?_
      exact W.iret (v := areportCount) hx hb hr (fun t ht hW => ⟨⟨areportCount, (), rfl, ⟨(gi_any areportCount), hF.trans hR9.symm⟩, trivial⟩, hS.F ht⟩) hS.2.2 dX11_count_99
    · refine lv_tableIn (off := 99) (tgt := 100) hx hb dX11_count_1 (by rw [ej_2]; decide +kernel) (by rw [ej_2]; decide +kernel) (by rw [ej_2]; decide +kernel) (by decide) ?_
      have hF := gf_neg (by rw [ej_2]; decide) hF
      have hF := gf_neg (by rw [ej_2]; decide) hF
      have hF := gf_neg (by rw [ej_2]; decide) hF
      have hF := gf_neg (by rw [ej_2]; decide) hF
      have hF := gf_neg (by rw [ej_2]; decide) hF
      have hF := gf_pos (by rw [ej_2]; rfl) hF
      refine lv_aload_n hx hb dX11_count_100 rfl (lv_at hl 0 rfl) ?_
      refine va_get (D := (dC, dI)) (ci := 11) (v := .ref am) (C := RX11) (T := TX11) (N := 16) hx hb hts (fun w h => List.mem_cons_of_mem _ (jnGA_X11 w h)) hown hK hP 0 rfl rfl 1 (by decide) (hts _ (List.mem_cons_of_mem _ mGA_14)) (fun _ h9 => h9) rfl dX11_count_101 ?_
      refine va_get (D := (dC, dI)) (ci := 0) (v := .int adeedCount) (C := RX0) (T := TX0) (N := 13) hx hb hts (fun w h => List.mem_cons_of_mem _ (jnGA_X0 w h)) hown hK hP 1 rfl rfl 9 (by decide) (hts _ (List.mem_cons_of_mem _ mGA_358)) (fun _ h9 => h9) rfl dX11_count_104 ?_
      exact W.iret (v := adeedCount) hx hb hr (fun t ht hW => ⟨⟨adeedCount, (), rfl, ⟨(gi_any adeedCount), hF.trans hR9.symm⟩, trivial⟩, hS.F ht⟩) hS.2.2 dX11_count_107
    · refine lv_tableIn (off := 107) (tgt := 108) hx hb dX11_count_1 (by rw [ej_2]; decide +kernel) (by rw [ej_2]; decide +kernel) (by rw [ej_2]; decide +kernel) (by decide) ?_
      have hF := gf_neg (by rw [ej_2]; decide) hF
      have hF := gf_neg (by rw [ej_2]; decide) hF
      have hF := gf_neg (by rw [ej_2]; decide) hF
      have hF := gf_neg (by rw [ej_2]; decide) hF
      have hF := gf_neg (by rw [ej_2]; decide) hF
      have hF := gf_neg (by rw [ej_2]; decide) hF
      have hF := gf_pos (by rw [ej_2]; rfl) hF
      refine lv_aload_n hx hb dX11_count_108 rfl (lv_at hl 0 rfl) ?_
      refine va_get (D := (dC, dI)) (ci := 11) (v := .ref am) (C := RX11) (T := TX11) (N := 16) hx hb hts (fun w h => List.mem_cons_of_mem _ (jnGA_X11 w h)) hown hK hP 0 rfl rfl 1 (by decide) (hts _ (List.mem_cons_of_mem _ mGA_14)) (fun _ h9 => h9) rfl dX11_count_109 ?_
      refine va_get (D := (dC, dI)) (ci := 0) (v := .int alines) (C := RX0) (T := TX0) (N := 13) hx hb hts (fun w h => List.mem_cons_of_mem _ (jnGA_X0 w h)) hown hK hP 1 rfl rfl 3 (by decide) (hts _ (List.mem_cons_of_mem _ mGA_143)) (fun _ h9 => h9) rfl dX11_count_112 ?_
      exact W.iret (v := alines) hx hb hr (fun t ht hW => ⟨⟨alines, (), rfl, ⟨(gi_any alines), hF.trans hR9.symm⟩, trivial⟩, hS.F ht⟩) hS.2.2 dX11_count_115
    · refine lv_tableIn (off := 115) (tgt := 116) hx hb dX11_count_1 (by rw [ej_2]; decide +kernel) (by rw [ej_2]; decide +kernel) (by rw [ej_2]; decide +kernel) (by decide) ?_
      have hF := gf_neg (by rw [ej_2]; decide) hF
      have hF := gf_neg (by rw [ej_2]; decide) hF
      have hF := gf_neg (by rw [ej_2]; decide) hF
      have hF := gf_neg (by rw [ej_2]; decide) hF
      have hF := gf_neg (by rw [ej_2]; decide) hF
      have hF := gf_neg (by rw [ej_2]; decide) hF
      have hF := gf_neg (by rw [ej_2]; decide) hF
      have hF := gf_pos (by rw [ej_2]; rfl) hF
      refine lv_aload_n hx hb dX11_count_116 rfl (lv_at hl 0 rfl) ?_
      refine va_get (D := (dC, dI)) (ci := 11) (v := .ref xr) (C := RX11) (T := TX11) (N := 16) hx hb hts (fun w h => List.mem_cons_of_mem _ (jnGA_X11 w h)) hown hK hP 0 rfl rfl 0 (by decide) (hts _ (List.mem_cons_of_mem _ mGA_10)) (fun _ h9 => h9) rfl dX11_count_117 ?_
      refine va_get (D := (dC, dI)) (ci := 6) (v := .ref tp) (C := RX6) (T := TX6) (N := 7) hx hb hts (fun w h => List.mem_cons_of_mem _ (jnGA_X6 w h)) hown hK hP 2 rfl rfl 0 (by decide) (hts _ (List.mem_cons_of_mem _ mGA_129)) (fun _ h9 => h9) rfl dX11_count_120 ?_
      refine va_get (D := (dC, dI)) (ci := 10) (v := .int b_length) (C := RX10) (T := TX10) (N := 2) hx hb hts (fun w h => List.mem_cons_of_mem _ (jnGA_X10 w h)) hown hK hP 3 rfl rfl 1 (by decide) (hts _ (List.mem_cons_of_mem _ mGA_130)) (fun _ h9 => h9) rfl dX11_count_123 ?_
      exact W.iret (v := b_length) hx hb hr (fun t ht hW => ⟨⟨b_length, (), rfl, ⟨(gi_any b_length), hF.trans hR9.symm⟩, trivial⟩, hS.F ht⟩) hS.2.2 dX11_count_126
    · refine lv_tableIn (off := 126) (tgt := 127) hx hb dX11_count_1 (by rw [ej_2]; decide +kernel) (by rw [ej_2]; decide +kernel) (by rw [ej_2]; decide +kernel) (by decide) ?_
      have hF := gf_neg (by rw [ej_2]; decide) hF
      have hF := gf_neg (by rw [ej_2]; decide) hF
      have hF := gf_neg (by rw [ej_2]; decide) hF
      have hF := gf_neg (by rw [ej_2]; decide) hF
      have hF := gf_neg (by rw [ej_2]; decide) hF
      have hF := gf_neg (by rw [ej_2]; decide) hF
      have hF := gf_neg (by rw [ej_2]; decide) hF
      have hF := gf_neg (by rw [ej_2]; decide) hF
      have hF := gf_pos (by rw [ej_2]; rfl) hF
      refine lv_aload_n hx hb dX11_count_127 rfl (lv_at hl 0 rfl) ?_
      refine va_get (D := (dC, dI)) (ci := 11) (v := .int x_outLength) (C := RX11) (T := TX11) (N := 16) hx hb hts (fun w h => List.mem_cons_of_mem _ (jnGA_X11 w h)) hown hK hP 0 rfl rfl 11 (by decide) (hts _ (List.mem_cons_of_mem _ mGA_41)) (fun _ h9 => h9) rfl dX11_count_128 ?_
      exact W.iret (v := x_outLength) hx hb hr (fun t ht hW => ⟨⟨x_outLength, (), rfl, ⟨(gi_any x_outLength), hF.trans hR9.symm⟩, trivial⟩, hS.F ht⟩) hS.2.2 dX11_count_131
    · refine lv_tableIn (off := 131) (tgt := 132) hx hb dX11_count_1 (by rw [ej_2]; decide +kernel) (by rw [ej_2]; decide +kernel) (by rw [ej_2]; decide +kernel) (by decide) ?_
      have hF := gf_neg (by rw [ej_2]; decide) hF
      have hF := gf_neg (by rw [ej_2]; decide) hF
      have hF := gf_neg (by rw [ej_2]; decide) hF
      have hF := gf_neg (by rw [ej_2]; decide) hF
      have hF := gf_neg (by rw [ej_2]; decide) hF
      have hF := gf_neg (by rw [ej_2]; decide) hF
      have hF := gf_neg (by rw [ej_2]; decide) hF
      have hF := gf_neg (by rw [ej_2]; decide) hF
      have hF := gf_neg (by rw [ej_2]; decide) hF
      have hF := gf_pos (by rw [ej_2]; rfl) hF
      refine lv_aload_n hx hb dX11_count_132 rfl (lv_at hl 0 rfl) ?_
      refine va_get (D := (dC, dI)) (ci := 11) (v := .ref am) (C := RX11) (T := TX11) (N := 16) hx hb hts (fun w h => List.mem_cons_of_mem _ (jnGA_X11 w h)) hown hK hP 0 rfl rfl 1 (by decide) (hts _ (List.mem_cons_of_mem _ mGA_14)) (fun _ h9 => h9) rfl dX11_count_133 ?_
      refine va_get (D := (dC, dI)) (ci := 0) (v := .int amoonStart) (C := RX0) (T := TX0) (N := 13) hx hb hts (fun w h => List.mem_cons_of_mem _ (jnGA_X0 w h)) hown hK hP 1 rfl rfl 5 (by decide) (hts _ (List.mem_cons_of_mem _ mGA_359)) (fun _ h9 => h9) rfl dX11_count_136 ?_
      exact W.iret (v := amoonStart) hx hb hr (fun t ht hW => ⟨⟨amoonStart, (), rfl, ⟨(gi_any amoonStart), hF.trans hR9.symm⟩, trivial⟩, hS.F ht⟩) hS.2.2 dX11_count_139
    · refine lv_tableIn (off := 139) (tgt := 140) hx hb dX11_count_1 (by rw [ej_2]; decide +kernel) (by rw [ej_2]; decide +kernel) (by rw [ej_2]; decide +kernel) (by decide) ?_
      have hF := gf_neg (by rw [ej_2]; decide) hF
      have hF := gf_neg (by rw [ej_2]; decide) hF
      have hF := gf_neg (by rw [ej_2]; decide) hF
      have hF := gf_neg (by rw [ej_2]; decide) hF
      have hF := gf_neg (by rw [ej_2]; decide) hF
      have hF := gf_neg (by rw [ej_2]; decide) hF
      have hF := gf_neg (by rw [ej_2]; decide) hF
      have hF := gf_neg (by rw [ej_2]; decide) hF
      have hF := gf_neg (by rw [ej_2]; decide) hF
      have hF := gf_neg (by rw [ej_2]; decide) hF
      have hF := gf_pos (by rw [ej_2]; rfl) hF
      refine lv_aload_n hx hb dX11_count_140 rfl (lv_at hl 0 rfl) ?_
      refine va_get (D := (dC, dI)) (ci := 11) (v := .ref am) (C := RX11) (T := TX11) (N := 16) hx hb hts (fun w h => List.mem_cons_of_mem _ (jnGA_X11 w h)) hown hK hP 0 rfl rfl 1 (by decide) (hts _ (List.mem_cons_of_mem _ mGA_14)) (fun _ h9 => h9) rfl dX11_count_141 ?_
      refine va_get (D := (dC, dI)) (ci := 0) (v := .int amoonStep) (C := RX0) (T := TX0) (N := 13) hx hb hts (fun w h => List.mem_cons_of_mem _ (jnGA_X0 w h)) hown hK hP 1 rfl rfl 6 (by decide) (hts _ (List.mem_cons_of_mem _ mGA_360)) (fun _ h9 => h9) rfl dX11_count_144 ?_
      exact W.iret (v := amoonStep) hx hb hr (fun t ht hW => ⟨⟨amoonStep, (), rfl, ⟨(gi_any amoonStep), hF.trans hR9.symm⟩, trivial⟩, hS.F ht⟩) hS.2.2 dX11_count_147
/-! families of objects that are written -/
theorem gz_famW3 {ws X Y : va_W} {n : Nat} {ra : Nat → Nat} {ci : Nat} {g : Nat → List Value} {j : Nat} (hw : ws = X ++ gz_fam n ra ci g ++ Y) (h : j < n) : ws[X.length + j]? = some (ra j, .inr (ci, g j)) := by
  rw [hw]
  exact gz_famW h
theorem gz_famP {D : va_G} {cl : List vw_C} {H : Heap} {X Y ws ws2 : va_W} {n : Nat} {ra : Nat → Nat} {ci : Nat} {g g2 : Nat → List Value} {j : Nat} {e : List Value} (hw : ws = X ++ gz_fam n ra ci g ++ Y) (hw2 : ws2 = X ++ gz_fam n ra ci g2 ++ Y) (h : j < n) (hj : g2 j = e) (hg : ∀ i, i ≠ j → g2 i = g i) (hP : va_P D cl (ws.set (X.length + j) (ra j, .inr (ci, e))) H) : va_P D cl ws2 H := by
  rw [hw, gz_famS h hj hg, ← hw2] at hP
  exact hP
theorem gz_famD {A : Nat → Prop} {X Y ws ws2 : va_W} {n : Nat} {ra : Nat → Nat} {ci : Nat} {g g2 : Nat → List Value} {j : Nat} {e : List Value} (hw : ws = X ++ gz_fam n ra ci g ++ Y) (hw2 : ws2 = X ++ gz_fam n ra ci g2 ++ Y) (h : j < n) (hj : g2 j = e) (hg : ∀ i, i ≠ j → g2 i = g i) (hD : va_D A (ws.set (X.length + j) (ra j, .inr (ci, e)))) : va_D A ws2 := by
  rw [hw, gz_famS h hj hg, ← hw2] at hD
  exact hD
theorem gz_clb {x : Int32} {a b : Int} {N : Nat} (h : gi x a b) (hb : b ≤ (N : Int)) : x.toNatClampNeg ≤ N := by
  have := h.2
  show x.toInt.toNat ≤ N
  omega
theorem gz_inR {x : Int32} {n : Nat} (h1 : 0 ≤ x.toInt) (h2 : x.toInt < (n : Int)) : vp_in x n := by
  rw [vp_in_iff]
  omega
theorem gz_fb {x : Int32} (h : gi x 0 1) : fits .boolean (.int x) = true := by
  have h1 := h.1; have h2 := h.2
  rcases (show x.toInt = 0 ∨ x.toInt = 1 by omega) with h | h
  · have : x = 0 := Int32.toInt_inj.mp (by rw [h]; decide)
    rw [this]; rfl
  · have : x = 1 := Int32.toInt_inj.mp (by rw [h]; decide)
    rw [this]; rfl
theorem gz_nlt0 {i : Int32} (h : 0 ≤ i.toInt) : ¬ i < 0 := fun k => by
  have h1 := Int32.lt_iff_toInt_lt.mp k
  have h2 : (0 : Int32).toInt = 0 := by decide
  omega
theorem gz_chi {i : Int32} {n : Nat} (h0 : 0 ≤ i.toInt) (h : i.toInt < (n : Int)) : i.toNatClampNeg < n := by
  show i.toInt.toNat < n
  omega
theorem gz_lenI {r : Int32} {n : Nat} (h : r = nI n) (hn : n ≤ 7) : r.toInt = (n : Int) := by
  rw [h, nI_toInt (by omega)]
theorem gz_len {r : Int32} {n : Nat} (h : r = nI n) (hn : n ≤ 7) : gi r 0 7 := by
  have := gz_lenI h hn
  exact ⟨by omega, by omega⟩
/-- a fact that is kept out of sight -/
def Hid (p : Prop) : Prop := p
theorem Hid.un {p : Prop} (h : Hid p) : p := h
theorem Hid.resL {p q : Prop} (h : Hid (p ∨ q)) (hp : ¬ p) : q := Or.resolve_left h hp
theorem Hid.resR {p q : Prop} (h : Hid (p ∨ q)) (hq : ¬ q) : p := Or.resolve_right h hq
theorem gi_relL {x y : Int32} {a b c d : Int} (h : x.toInt ≤ y.toInt) (hx : gi x a b) (hy : gi y c d) : gi y a d := ⟨Int.le_trans hx.1 h, hy.2⟩

theorem dX0_addPlace_0 : decode cX0_addPlace 0 = .ok (.aload_n 0, 1) := by decide +kernel
theorem dX0_addPlace_1 : decode cX0_addPlace 1 = .ok (.getfield 55, 3) := by decide +kernel
theorem dX0_addPlace_4 : decode cX0_addPlace 4 = .ok (.bipush 6, 2) := by decide +kernel
theorem dX0_addPlace_6 : decode cX0_addPlace 6 = .ok (.if_icmp .ge 39, 3) := by decide +kernel
theorem dX0_addPlace_9 : decode cX0_addPlace 9 = .ok (.aload_n 0, 1) := by decide +kernel
theorem dX0_addPlace_10 : decode cX0_addPlace 10 = .ok (.getfield 11, 3) := by decide +kernel
theorem dX0_addPlace_13 : decode cX0_addPlace 13 = .ok (.aload_n 0, 1) := by decide +kernel
theorem dX0_addPlace_14 : decode cX0_addPlace 14 = .ok (.getfield 55, 3) := by decide +kernel
theorem dX0_addPlace_17 : decode cX0_addPlace 17 = .ok (.aaload, 1) := by decide +kernel
theorem dX0_addPlace_18 : decode cX0_addPlace 18 = .ok (.iload_n 1, 1) := by decide +kernel
theorem dX0_addPlace_19 : decode cX0_addPlace 19 = .ok (.putfield 67, 3) := by decide +kernel
theorem dX0_addPlace_22 : decode cX0_addPlace 22 = .ok (.aload_n 0, 1) := by decide +kernel
theorem dX0_addPlace_23 : decode cX0_addPlace 23 = .ok (.getfield 11, 3) := by decide +kernel
theorem dX0_addPlace_26 : decode cX0_addPlace 26 = .ok (.aload_n 0, 1) := by decide +kernel
theorem dX0_addPlace_27 : decode cX0_addPlace 27 = .ok (.getfield 55, 3) := by decide +kernel
theorem dX0_addPlace_30 : decode cX0_addPlace 30 = .ok (.aaload, 1) := by decide +kernel
theorem dX0_addPlace_31 : decode cX0_addPlace 31 = .ok (.iload_n 2, 1) := by decide +kernel
theorem dX0_addPlace_32 : decode cX0_addPlace 32 = .ok (.putfield 70, 3) := by decide +kernel
theorem dX0_addPlace_35 : decode cX0_addPlace 35 = .ok (.aload_n 0, 1) := by decide +kernel
theorem dX0_addPlace_36 : decode cX0_addPlace 36 = .ok (.dup, 1) := by decide +kernel
theorem dX0_addPlace_37 : decode cX0_addPlace 37 = .ok (.getfield 55, 3) := by decide +kernel
theorem dX0_addPlace_40 : decode cX0_addPlace 40 = .ok (.iconst 1, 1) := by decide +kernel
theorem dX0_addPlace_41 : decode cX0_addPlace 41 = .ok (.iadd, 1) := by decide +kernel
theorem dX0_addPlace_42 : decode cX0_addPlace 42 = .ok (.putfield 55, 3) := by decide +kernel
theorem dX0_addPlace_45 : decode cX0_addPlace 45 = .ok (.return_, 1) := by decide +kernel
noncomputable def bfX0_addPlace_45 (aplaceCount : Int32) (p_name : Nat → Int32) (p_trust : Nat → Int32) (p1 : Int32) (p2 : Int32) (w0_7 : Int32) (z2_0 : Nat → Int32) (z2_1 : Nat → Int32) : Int32 × (Nat → Int32) × (Nat → Int32) := (w0_7, z2_0, z2_1)
noncomputable def fX0_addPlace (aplaceCount : Int32) (p_name : Nat → Int32) (p_trust : Nat → Int32) (p1 : Int32) (p2 : Int32) : Int32 × (Nat → Int32) × (Nat → Int32) := if (6 : Int32) ≤ aplaceCount then (bfX0_addPlace_45 aplaceCount p_name p_trust p1 p2 aplaceCount p_name p_trust) else (bfX0_addPlace_45 aplaceCount p_name p_trust p1 p2 (aplaceCount + (1 : Int32)) (upd p_name (aplaceCount.toNatClampNeg) p1) (upd p_trust (aplaceCount.toNatClampNeg) p2))
set_option maxHeartbeats 4000000 in
set_option maxRecDepth 100000 in
theorem sX0_addPlace (l : Launch) (dC : Nat → ClassId) (dI : Nat → Nat → Nat) (sz : Nat) (h0 : Nat) (pl : Nat) (pa : Nat → Nat) (amonths : Int32) (afull : Int32) (alean : Int32) (alines : Int32) (ahasMoon : Int32) (amoonStart : Int32) (amoonStep : Int32) (aplaceCount : Int32) (areportCount : Int32) (adeedCount : Int32) (re : Nat) (de : Nat) (kpl : ClassId) (p_name : Nat → Int32) (p_trust : Nat → Int32) (p1 : Int32) (p2 : Int32) (gamonths : gi amonths 0 24) (gafull : gi afull 0 5) (galean : gi alean 0 5) (gahasMoon : gi ahasMoon 0 1) (gaplaceCount : gi aplaceCount 0 6) (gareportCount : gi areportCount 0 24) (gadeedCount : gi adeedCount 0 8) : Met l yX0_addPlace (.code yX0_addPlace cX0_addPlace 3 none :: wsGA) ({ frames := 0, cells := 0, slots := 0, locals := 0 }) (va_Pc [.ref h0, .int p1, .int p2] (fun U => U.heap.size = sz ∧ va_P (dC, dI) vwCl (([(h0, .inr (0, [.int amonths, .int afull, .int alean, .int alines, .int ahasMoon, .int amoonStart, .int amoonStep, .int aplaceCount, .int areportCount, .int adeedCount, .ref pl, .ref re, .ref de])), (pl, .inl (kpl, 6, .inr (.inr (.inr (.inr (fun i => some (pa i)))))))] : va_W) ++ (gz_fam 6 pa 5 (fun i => [.int (p_name i), .int (p_trust i)]))) U.heap ∧ va_K (dC, dI) vwCl [(kpl, .object RX5)] U ∧ va_D (fun _ => True) (([(h0, .inr (0, [.int amonths, .int afull, .int alean, .int alines, .int ahasMoon, .int amoonStart, .int amoonStep, .int aplaceCount, .int areportCount, .int adeedCount, .ref pl, .ref re, .ref de])), (pl, .inl (kpl, 6, .inr (.inr (.inr (.inr (fun i => some (pa i)))))))] : va_W) ++ (gz_fam 6 pa 5 (fun i => [.int (p_name i), .int (p_trust i)]))) ∧ nzA U)) (va_Qv (fun (u : Unit) => True) (fun _ t => ∃ (w0_7 : Int32) (z2_0 : Nat → Int32) (z2_1 : Nat → Int32), gi w0_7 0 6 ∧ (w0_7, z2_0, z2_1) = fX0_addPlace aplaceCount p_name p_trust p1 p2 ∧ va_P (dC, dI) vwCl (([(h0, .inr (0, [.int amonths, .int afull, .int alean, .int alines, .int ahasMoon, .int amoonStart, .int amoonStep, .int w0_7, .int areportCount, .int adeedCount, .ref pl, .ref re, .ref de])), (pl, .inl (kpl, 6, .inr (.inr (.inr (.inr (fun i => some (pa i)))))))] : va_W) ++ (gz_fam 6 pa 5 (fun i => [.int (z2_0 i), .int (z2_1 i)]))) t.heap ∧ va_D (va_A (([(h0, .inr (0, [.int amonths, .int afull, .int alean, .int alines, .int ahasMoon, .int amoonStart, .int amoonStep, .int aplaceCount, .int areportCount, .int adeedCount, .ref pl, .ref re, .ref de])), (pl, .inl (kpl, 6, .inr (.inr (.inr (.inr (fun i => some (pa i)))))))] : va_W) ++ (gz_fam 6 pa 5 (fun i => [.int (p_name i), .int (p_trust i)]))) sz) (([(h0, .inr (0, [.int amonths, .int afull, .int alean, .int alines, .int ahasMoon, .int amoonStart, .int amoonStep, .int w0_7, .int areportCount, .int adeedCount, .ref pl, .ref re, .ref de])), (pl, .inl (kpl, 6, .inr (.inr (.inr (.inr (fun i => some (pa i)))))))] : va_W) ++ (gz_fam 6 pa 5 (fun i => [.int (z2_0 i), .int (z2_1 i)])))) (va_A (([(h0, .inr (0, [.int amonths, .int afull, .int alean, .int alines, .int ahasMoon, .int amoonStart, .int amoonStep, .int aplaceCount, .int areportCount, .int adeedCount, .ref pl, .ref re, .ref de])), (pl, .inl (kpl, 6, .inr (.inr (.inr (.inr (fun i => some (pa i)))))))] : va_W) ++ (gz_fam 6 pa 5 (fun i => [.int (p_name i), .int (p_trust i)]))) sz)) 0 0 (va_A (([(h0, .inr (0, [.int amonths, .int afull, .int alean, .int alines, .int ahasMoon, .int amoonStart, .int amoonStep, .int aplaceCount, .int areportCount, .int adeedCount, .ref pl, .ref re, .ref de])), (pl, .inl (kpl, 6, .inr (.inr (.inr (.inr (fun i => some (pa i)))))))] : va_W) ++ (gz_fam 6 pa 5 (fun i => [.int (p_name i), .int (p_trust i)]))) sz) := by
  refine Met.ofW (cc := cX0_addPlace) (maxL := 3) (ret := none) (by decide) rfl ?_
  intro p e s m args below meth c s₁ B hml hv
  obtain ⟨rfl, hsz, hP, hK, hD0, hz⟩ := hv
  have hx := B.exec
  have hb := B.bytes
  have hr := B.returns
  have hts := atoms_spec (ws := (.code yX0_addPlace cX0_addPlace 3 none :: wsGA)) B.pre
  have hown : s.vm.findClass RX0 = some m.cls := findClass_of_methodNamed B.named
  have hlocks := B.notSynchronized
  subst hsz
  have hD := hD0.self (sz := s.heap.size)
  generalize hAe : va_A (([(h0, .inr (0, [.int amonths, .int afull, .int alean, .int alines, .int ahasMoon, .int amoonStart, .int amoonStep, .int aplaceCount, .int areportCount, .int adeedCount, .ref pl, .ref re, .ref de])), (pl, .inl (kpl, 6, .inr (.inr (.inr (.inr (fun i => some (pa i)))))))] : va_W) ++ (gz_fam 6 pa 5 (fun i => [.int (p_name i), .int (p_trust i)]))) s.heap.size = A at hD ⊢
  have hA : ∀ q : Nat, s.heap.size ≤ q → A q := fun q h => by rw [← hAe]; exact Or.inr h
  have hS : va_S A s.heap s.heap [] := va_S.rf
  have hl := lv_entry ([.ref h0, .int p1, .int p2]) (n := 3) (Nat.le_of_ble_eq_true rfl)
  rw [lg_entry_eq]
  generalize (lg_sl ([.ref h0, .int p1, .int p2]) ++ List.replicate (3 - (lg_sl ([.ref h0, .int p1, .int p2])).length) Slot.unset).toArray = ls at hl ⊢
  have hl : lv_has ls 3 [(0, .ref h0), (1, .int p1), (2, .int p2)] := hl
  obtain ⟨RES, hF⟩ : ∃ R9, fX0_addPlace aplaceCount p_name p_trust p1 p2 = R9 := ⟨_, rfl⟩
  have hR9 := hF
  refine lv_aload_n hx hb dX0_addPlace_0 rfl (lv_at hl 0 rfl) ?_
  refine va_get (D := (dC, dI)) (ci := 0) (v := .int aplaceCount) (C := RX0) (T := TX0) (N := 13) hx hb hts (fun w h => List.mem_cons_of_mem _ (jnGA_X0 w h)) hown hK hP 0 rfl rfl 7 (by decide) (hts _ (List.mem_cons_of_mem _ mGA_159)) (fun _ h9 => h9) rfl dX0_addPlace_1 ?_
  refine lv_bipush (v := 6) hx hb dX0_addPlace_4 (by decide) ?_
  refine lv_icmp_ge (tgt := 45) hx hb dX0_addPlace_6 (by decide) (fun c_13 => ?_) (fun c_13 => ?_)
  · have hF := gf_pos c_13 hF
    have g_14 : gi aplaceCount 6 6 := gi_le_r c_13 (gi_c 6 6 (by decide)) gaplaceCount
    exact W.vret hx hb hr (fun t ht hW => ⟨⟨(), rfl, trivial, aplaceCount, p_name, p_trust, (gi_w g_14 (by decide)), hF.trans hR9.symm, by rw [ht]; exact hP, hD⟩, hS.F ht⟩) hS.2.2 dX0_addPlace_45
  · have hF := gf_neg c_13 hF
    have g_15 : gi aplaceCount 0 5 := gi_lt_l (Int32.not_le.mp c_13) gaplaceCount (gi_c 6 6 (by decide)) (by decide)
    refine lv_aload_n hx hb dX0_addPlace_9 rfl (lv_at hl 0 rfl) ?_
    refine va_get (D := (dC, dI)) (ci := 0) (v := .ref pl) (C := RX0) (T := TX0) (N := 13) hx hb hts (fun w h => List.mem_cons_of_mem _ (jnGA_X0 w h)) hown hK hP 0 rfl rfl 10 (by decide) (hts _ (List.mem_cons_of_mem _ mGA_70)) (fun _ h9 => h9) rfl dX0_addPlace_10 ?_
    refine lv_aload_n hx hb dX0_addPlace_13 rfl (lv_at hl 0 rfl) ?_
    refine va_get (D := (dC, dI)) (ci := 0) (v := .int aplaceCount) (C := RX0) (T := TX0) (N := 13) hx hb hts (fun w h => List.mem_cons_of_mem _ (jnGA_X0 w h)) hown hK hP 0 rfl rfl 7 (by decide) (hts _ (List.mem_cons_of_mem _ mGA_159)) (fun _ h9 => h9) rfl dX0_addPlace_14 ?_
    refine va_aldq hx hb hK hP 1 0 rfl rfl (gi_in g_15 (by decide)) dX0_addPlace_17 ?_
    refine W.eq (g2 := F0 m 18 ls [.ref (pa aplaceCount.toNatClampNeg)]) rfl ?_
    refine lv_iload_n hx hb dX0_addPlace_18 rfl (lv_at hl 1 rfl) ?_
    refine va_put (D := (dC, dI)) (ci := 5) (v := .int p1) (ty := .int) (C := RX5) (T := TX5) (N := 2) hx hb hts (fun w h => List.mem_cons_of_mem _ (jnGA_X5 w h)) tyX5 tyX5_ok nmX5 hown hK hP hD hS (List.length [(h0, .inr (0, [.int amonths, .int afull, .int alean, .int alines, .int ahasMoon, .int amoonStart, .int amoonStep, .int aplaceCount, .int areportCount, .int adeedCount, .ref pl, .ref re, .ref de])), (pl, .inl (kpl, 6, .inr (.inr (.inr (.inr (fun i => some (pa i)))))))] + aplaceCount.toNatClampNeg) (gz_famW3 (X := [(h0, .inr (0, [.int amonths, .int afull, .int alean, .int alines, .int ahasMoon, .int amoonStart, .int amoonStep, .int aplaceCount, .int areportCount, .int adeedCount, .ref pl, .ref re, .ref de])), (pl, .inl (kpl, 6, .inr (.inr (.inr (.inr (fun i => some (pa i)))))))]) ((List.append_nil _).symm) (gz_clt (gi_in (n := 6) g_15 (by decide)))) rfl 0 (by decide) (hts _ (List.mem_cons_of_mem _ mGA_302)) (fun _ h9 => h9) rfl (by decide +kernel) rfl rfl (Nat.le_of_ble_eq_true rfl) dX0_addPlace_19 (fun H locs hP hD hS => ?_)
    have hP : va_P (dC, dI) vwCl (([(h0, .inr (0, [.int amonths, .int afull, .int alean, .int alines, .int ahasMoon, .int amoonStart, .int amoonStep, .int aplaceCount, .int areportCount, .int adeedCount, .ref pl, .ref re, .ref de])), (pl, .inl (kpl, 6, .inr (.inr (.inr (.inr (fun i => some (pa i)))))))] : va_W) ++ (gz_fam 6 pa 5 (fun i => [.int ((upd p_name (aplaceCount.toNatClampNeg) p1) i), .int (p_trust i)]))) H := gz_famP (X := [(h0, .inr (0, [.int amonths, .int afull, .int alean, .int alines, .int ahasMoon, .int amoonStart, .int amoonStep, .int aplaceCount, .int areportCount, .int adeedCount, .ref pl, .ref re, .ref de])), (pl, .inl (kpl, 6, .inr (.inr (.inr (.inr (fun i => some (pa i)))))))]) ((List.append_nil _).symm) ((List.append_nil _).symm) (gz_clt (gi_in (n := 6) g_15 (by decide))) (by simp [upd]) (fun i hi => by simp [upd, hi]) hP
    have hD : va_D A (([(h0, .inr (0, [.int amonths, .int afull, .int alean, .int alines, .int ahasMoon, .int amoonStart, .int amoonStep, .int aplaceCount, .int areportCount, .int adeedCount, .ref pl, .ref re, .ref de])), (pl, .inl (kpl, 6, .inr (.inr (.inr (.inr (fun i => some (pa i)))))))] : va_W) ++ (gz_fam 6 pa 5 (fun i => [.int ((upd p_name (aplaceCount.toNatClampNeg) p1) i), .int (p_trust i)]))) := gz_famD (X := [(h0, .inr (0, [.int amonths, .int afull, .int alean, .int alines, .int ahasMoon, .int amoonStart, .int amoonStep, .int aplaceCount, .int areportCount, .int adeedCount, .ref pl, .ref re, .ref de])), (pl, .inl (kpl, 6, .inr (.inr (.inr (.inr (fun i => some (pa i)))))))]) ((List.append_nil _).symm) ((List.append_nil _).symm) (gz_clt (gi_in (n := 6) g_15 (by decide))) (by simp [upd]) (fun i hi => by simp [upd, hi]) hD
    generalize ef_16 : upd p_name (aplaceCount.toNatClampNeg) p1 = f_16 at hP hD
    have hP : va_P (dC, dI) vwCl (([(h0, .inr (0, [.int amonths, .int afull, .int alean, .int alines, .int ahasMoon, .int amoonStart, .int amoonStep, .int aplaceCount, .int areportCount, .int adeedCount, .ref pl, .ref re, .ref de])), (pl, .inl (kpl, 6, .inr (.inr (.inr (.inr (fun i => some (pa i)))))))] : va_W) ++ (gz_fam 6 pa 5 (fun i => [.int (f_16 i), .int (p_trust i)]))) H := hP
    have hD : va_D A (([(h0, .inr (0, [.int amonths, .int afull, .int alean, .int alines, .int ahasMoon, .int amoonStart, .int amoonStep, .int aplaceCount, .int areportCount, .int adeedCount, .ref pl, .ref re, .ref de])), (pl, .inl (kpl, 6, .inr (.inr (.inr (.inr (fun i => some (pa i)))))))] : va_W) ++ (gz_fam 6 pa 5 (fun i => [.int (f_16 i), .int (p_trust i)]))) := hD
    refine lv_aload_n hx hb dX0_addPlace_22 rfl (lv_at hl 0 rfl) ?_
    refine va_get (D := (dC, dI)) (ci := 0) (v := .ref pl) (C := RX0) (T := TX0) (N := 13) hx hb hts (fun w h => List.mem_cons_of_mem _ (jnGA_X0 w h)) hown hK hP 0 rfl rfl 10 (by decide) (hts _ (List.mem_cons_of_mem _ mGA_70)) (fun _ h9 => h9) rfl dX0_addPlace_23 ?_
    refine lv_aload_n hx hb dX0_addPlace_26 rfl (lv_at hl 0 rfl) ?_
    refine va_get (D := (dC, dI)) (ci := 0) (v := .int aplaceCount) (C := RX0) (T := TX0) (N := 13) hx hb hts (fun w h => List.mem_cons_of_mem _ (jnGA_X0 w h)) hown hK hP 0 rfl rfl 7 (by decide) (hts _ (List.mem_cons_of_mem _ mGA_159)) (fun _ h9 => h9) rfl dX0_addPlace_27 ?_
    refine va_aldq hx hb hK hP 1 0 rfl rfl (gi_in g_15 (by decide)) dX0_addPlace_30 ?_
    refine W.eq (g2 := F0 m 31 ls [.ref (pa aplaceCount.toNatClampNeg)]) rfl ?_
    refine lv_iload_n hx hb dX0_addPlace_31 rfl (lv_at hl 2 rfl) ?_
    refine va_put (D := (dC, dI)) (ci := 5) (v := .int p2) (ty := .int) (C := RX5) (T := TX5) (N := 2) hx hb hts (fun w h => List.mem_cons_of_mem _ (jnGA_X5 w h)) tyX5 tyX5_ok nmX5 hown hK hP hD hS (List.length [(h0, .inr (0, [.int amonths, .int afull, .int alean, .int alines, .int ahasMoon, .int amoonStart, .int amoonStep, .int aplaceCount, .int areportCount, .int adeedCount, .ref pl, .ref re, .ref de])), (pl, .inl (kpl, 6, .inr (.inr (.inr (.inr (fun i => some (pa i)))))))] + aplaceCount.toNatClampNeg) (gz_famW3 (X := [(h0, .inr (0, [.int amonths, .int afull, .int alean, .int alines, .int ahasMoon, .int amoonStart, .int amoonStep, .int aplaceCount, .int areportCount, .int adeedCount, .ref pl, .ref re, .ref de])), (pl, .inl (kpl, 6, .inr (.inr (.inr (.inr (fun i => some (pa i)))))))]) ((List.append_nil _).symm) (gz_clt (gi_in (n := 6) g_15 (by decide)))) rfl 1 (by decide) (hts _ (List.mem_cons_of_mem _ mGA_307)) (fun _ h9 => h9) rfl (by decide +kernel) rfl rfl (Nat.le_of_ble_eq_true rfl) dX0_addPlace_32 (fun H locs hP hD hS => ?_)
    have hP : va_P (dC, dI) vwCl (([(h0, .inr (0, [.int amonths, .int afull, .int alean, .int alines, .int ahasMoon, .int amoonStart, .int amoonStep, .int aplaceCount, .int areportCount, .int adeedCount, .ref pl, .ref re, .ref de])), (pl, .inl (kpl, 6, .inr (.inr (.inr (.inr (fun i => some (pa i)))))))] : va_W) ++ (gz_fam 6 pa 5 (fun i => [.int (f_16 i), .int ((upd p_trust (aplaceCount.toNatClampNeg) p2) i)]))) H := gz_famP (X := [(h0, .inr (0, [.int amonths, .int afull, .int alean, .int alines, .int ahasMoon, .int amoonStart, .int amoonStep, .int aplaceCount, .int areportCount, .int adeedCount, .ref pl, .ref re, .ref de])), (pl, .inl (kpl, 6, .inr (.inr (.inr (.inr (fun i => some (pa i)))))))]) ((List.append_nil _).symm) ((List.append_nil _).symm) (gz_clt (gi_in (n := 6) g_15 (by decide))) (by simp [upd]) (fun i hi => by simp [upd, hi]) hP
    have hD : va_D A (([(h0, .inr (0, [.int amonths, .int afull, .int alean, .int alines, .int ahasMoon, .int amoonStart, .int amoonStep, .int aplaceCount, .int areportCount, .int adeedCount, .ref pl, .ref re, .ref de])), (pl, .inl (kpl, 6, .inr (.inr (.inr (.inr (fun i => some (pa i)))))))] : va_W) ++ (gz_fam 6 pa 5 (fun i => [.int (f_16 i), .int ((upd p_trust (aplaceCount.toNatClampNeg) p2) i)]))) := gz_famD (X := [(h0, .inr (0, [.int amonths, .int afull, .int alean, .int alines, .int ahasMoon, .int amoonStart, .int amoonStep, .int aplaceCount, .int areportCount, .int adeedCount, .ref pl, .ref re, .ref de])), (pl, .inl (kpl, 6, .inr (.inr (.inr (.inr (fun i => some (pa i)))))))]) ((List.append_nil _).symm) ((List.append_nil _).symm) (gz_clt (gi_in (n := 6) g_15 (by decide))) (by simp [upd]) (fun i hi => by simp [upd, hi]) hD
    generalize ef_17 : upd p_trust (aplaceCount.toNatClampNeg) p2 = f_17 at hP hD
    have hP : va_P (dC, dI) vwCl (([(h0, .inr (0, [.int amonths, .int afull, .int alean, .int alines, .int ahasMoon, .int amoonStart, .int amoonStep, .int aplaceCount, .int areportCount, .int adeedCount, .ref pl, .ref re, .ref de])), (pl, .inl (kpl, 6, .inr (.inr (.inr (.inr (fun i => some (pa i)))))))] : va_W) ++ (gz_fam 6 pa 5 (fun i => [.int (f_16 i), .int (f_17 i)]))) H := hP
    have hD : va_D A (([(h0, .inr (0, [.int amonths, .int afull, .int alean, .int alines, .int ahasMoon, .int amoonStart, .int amoonStep, .int aplaceCount, .int areportCount, .int adeedCount, .ref pl, .ref re, .ref de])), (pl, .inl (kpl, 6, .inr (.inr (.inr (.inr (fun i => some (pa i)))))))] : va_W) ++ (gz_fam 6 pa 5 (fun i => [.int (f_16 i), .int (f_17 i)]))) := hD
    refine lv_aload_n hx hb dX0_addPlace_35 rfl (lv_at hl 0 rfl) ?_
    refine lv_dup hx hb dX0_addPlace_36 rfl ?_
    refine va_get (D := (dC, dI)) (ci := 0) (v := .int aplaceCount) (C := RX0) (T := TX0) (N := 13) hx hb hts (fun w h => List.mem_cons_of_mem _ (jnGA_X0 w h)) hown hK hP 0 rfl rfl 7 (by decide) (hts _ (List.mem_cons_of_mem _ mGA_159)) (fun _ h9 => h9) rfl dX0_addPlace_37 ?_
    refine lv_iconst (v := 1) hx hb dX0_addPlace_40 (by decide) ?_
    refine lv_iadd hx hb dX0_addPlace_41 ?_
    refine lv_topi (fun x_18 ex_18 => ?_)
    have gx_18 : gi x_18 1 6 := gi_add ex_18 g_15 (gi_c 1 1 (by decide)) (by decide)
    refine va_put (D := (dC, dI)) (ci := 0) (v := .int x_18) (ty := .int) (C := RX0) (T := TX0) (N := 13) hx hb hts (fun w h => List.mem_cons_of_mem _ (jnGA_X0 w h)) tyX0 tyX0_ok nmX0 hown hK hP hD hS 0 rfl rfl 7 (by decide) (hts _ (List.mem_cons_of_mem _ mGA_159)) (fun _ h9 => h9) rfl (by decide +kernel) rfl rfl (Nat.le_of_ble_eq_true rfl) dX0_addPlace_42 (fun H locs hP hD hS => ?_)
    have hP : va_P (dC, dI) vwCl (([(h0, .inr (0, [.int amonths, .int afull, .int alean, .int alines, .int ahasMoon, .int amoonStart, .int amoonStep, .int x_18, .int areportCount, .int adeedCount, .ref pl, .ref re, .ref de])), (pl, .inl (kpl, 6, .inr (.inr (.inr (.inr (fun i => some (pa i)))))))] : va_W) ++ (gz_fam 6 pa 5 (fun i => [.int (f_16 i), .int (f_17 i)]))) H := hP
    have hD : va_D A (([(h0, .inr (0, [.int amonths, .int afull, .int alean, .int alines, .int ahasMoon, .int amoonStart, .int amoonStep, .int x_18, .int areportCount, .int adeedCount, .ref pl, .ref re, .ref de])), (pl, .inl (kpl, 6, .inr (.inr (.inr (.inr (fun i => some (pa i)))))))] : va_W) ++ (gz_fam 6 pa 5 (fun i => [.int (f_16 i), .int (f_17 i)]))) := hD
    exact W.vret hx hb hr (fun t ht hW => ⟨⟨(), rfl, trivial, x_18, f_16, f_17, (gi_w gx_18 (by decide)), by rw [ex_18, ← ef_17, ← ef_16]; exact hF.trans hR9.symm, by rw [ht]; exact hP, hD⟩, hS.F ht⟩) hS.2.2 dX0_addPlace_45
theorem dX0_addReport_0 : decode cX0_addReport 0 = .ok (.aload_n 0, 1) := by decide +kernel
theorem dX0_addReport_1 : decode cX0_addReport 1 = .ok (.getfield 58, 3) := by decide +kernel
theorem dX0_addReport_4 : decode cX0_addReport 4 = .ok (.bipush 24, 2) := by decide +kernel
theorem dX0_addReport_6 : decode cX0_addReport 6 = .ok (.if_icmp .ge 62, 3) := by decide +kernel
theorem dX0_addReport_9 : decode cX0_addReport 9 = .ok (.aload_n 0, 1) := by decide +kernel
theorem dX0_addReport_10 : decode cX0_addReport 10 = .ok (.getfield 19, 3) := by decide +kernel
theorem dX0_addReport_13 : decode cX0_addReport 13 = .ok (.aload_n 0, 1) := by decide +kernel
theorem dX0_addReport_14 : decode cX0_addReport 14 = .ok (.getfield 58, 3) := by decide +kernel
theorem dX0_addReport_17 : decode cX0_addReport 17 = .ok (.aaload, 1) := by decide +kernel
theorem dX0_addReport_18 : decode cX0_addReport 18 = .ok (.astore 6, 2) := by decide +kernel
theorem dX0_addReport_20 : decode cX0_addReport 20 = .ok (.aload 6, 2) := by decide +kernel
theorem dX0_addReport_22 : decode cX0_addReport 22 = .ok (.iload_n 1, 1) := by decide +kernel
theorem dX0_addReport_23 : decode cX0_addReport 23 = .ok (.putfield 77, 3) := by decide +kernel
theorem dX0_addReport_26 : decode cX0_addReport 26 = .ok (.aload 6, 2) := by decide +kernel
theorem dX0_addReport_28 : decode cX0_addReport 28 = .ok (.iload_n 2, 1) := by decide +kernel
theorem dX0_addReport_29 : decode cX0_addReport 29 = .ok (.putfield 80, 3) := by decide +kernel
theorem dX0_addReport_32 : decode cX0_addReport 32 = .ok (.aload 6, 2) := by decide +kernel
theorem dX0_addReport_34 : decode cX0_addReport 34 = .ok (.iload_n 3, 1) := by decide +kernel
theorem dX0_addReport_35 : decode cX0_addReport 35 = .ok (.putfield 83, 3) := by decide +kernel
theorem dX0_addReport_38 : decode cX0_addReport 38 = .ok (.aload 6, 2) := by decide +kernel
theorem dX0_addReport_40 : decode cX0_addReport 40 = .ok (.iload 4, 2) := by decide +kernel
theorem dX0_addReport_42 : decode cX0_addReport 42 = .ok (.putfield 86, 3) := by decide +kernel
theorem dX0_addReport_45 : decode cX0_addReport 45 = .ok (.aload 6, 2) := by decide +kernel
theorem dX0_addReport_47 : decode cX0_addReport 47 = .ok (.iload 5, 2) := by decide +kernel
theorem dX0_addReport_49 : decode cX0_addReport 49 = .ok (.putfield 89, 3) := by decide +kernel
theorem dX0_addReport_52 : decode cX0_addReport 52 = .ok (.aload 6, 2) := by decide +kernel
theorem dX0_addReport_54 : decode cX0_addReport 54 = .ok (.iconst 0, 1) := by decide +kernel
theorem dX0_addReport_55 : decode cX0_addReport 55 = .ok (.putfield 96, 3) := by decide +kernel
theorem dX0_addReport_58 : decode cX0_addReport 58 = .ok (.aload_n 0, 1) := by decide +kernel
theorem dX0_addReport_59 : decode cX0_addReport 59 = .ok (.dup, 1) := by decide +kernel
theorem dX0_addReport_60 : decode cX0_addReport 60 = .ok (.getfield 58, 3) := by decide +kernel
theorem dX0_addReport_63 : decode cX0_addReport 63 = .ok (.iconst 1, 1) := by decide +kernel
theorem dX0_addReport_64 : decode cX0_addReport 64 = .ok (.iadd, 1) := by decide +kernel
theorem dX0_addReport_65 : decode cX0_addReport 65 = .ok (.putfield 58, 3) := by decide +kernel
theorem dX0_addReport_68 : decode cX0_addReport 68 = .ok (.return_, 1) := by decide +kernel
noncomputable def bfX0_addReport_68 (areportCount : Int32) (r_place : Nat → Int32) (r_kind : Nat → Int32) (r_month : Nat → Int32) (r_day : Nat → Int32) (r_known : Nat → Int32) (r_struck : Nat → Int32) (p1 : Int32) (p2 : Int32) (p3 : Int32) (p4 : Int32) (p5 : Int32) (w0_8 : Int32) (z2_0 : Nat → Int32) (z2_1 : Nat → Int32) (z2_2 : Nat → Int32) (z2_3 : Nat → Int32) (z2_4 : Nat → Int32) (z2_5 : Nat → Int32) : Int32 × (Nat → Int32) × (Nat → Int32) × (Nat → Int32) × (Nat → Int32) × (Nat → Int32) × (Nat → Int32) := (w0_8, z2_0, z2_1, z2_2, z2_3, z2_4, z2_5)
noncomputable def fX0_addReport (areportCount : Int32) (r_place : Nat → Int32) (r_kind : Nat → Int32) (r_month : Nat → Int32) (r_day : Nat → Int32) (r_known : Nat → Int32) (r_struck : Nat → Int32) (p1 : Int32) (p2 : Int32) (p3 : Int32) (p4 : Int32) (p5 : Int32) : Int32 × (Nat → Int32) × (Nat → Int32) × (Nat → Int32) × (Nat → Int32) × (Nat → Int32) × (Nat → Int32) := if (24 : Int32) ≤ areportCount then (bfX0_addReport_68 areportCount r_place r_kind r_month r_day r_known r_struck p1 p2 p3 p4 p5 areportCount r_place r_kind r_month r_day r_known r_struck) else (bfX0_addReport_68 areportCount r_place r_kind r_month r_day r_known r_struck p1 p2 p3 p4 p5 (areportCount + (1 : Int32)) (upd r_place (areportCount.toNatClampNeg) p1) (upd r_kind (areportCount.toNatClampNeg) p2) (upd r_month (areportCount.toNatClampNeg) p3) (upd r_day (areportCount.toNatClampNeg) p4) (upd r_known (areportCount.toNatClampNeg) p5) (upd r_struck (areportCount.toNatClampNeg) (0 : Int32)))
set_option maxHeartbeats 4000000 in
set_option maxRecDepth 100000 in
theorem sX0_addReport (l : Launch) (dC : Nat → ClassId) (dI : Nat → Nat → Nat) (sz : Nat) (h0 : Nat) (re : Nat) (ra : Nat → Nat) (amonths : Int32) (afull : Int32) (alean : Int32) (alines : Int32) (ahasMoon : Int32) (amoonStart : Int32) (amoonStep : Int32) (aplaceCount : Int32) (areportCount : Int32) (adeedCount : Int32) (pl : Nat) (de : Nat) (kre : ClassId) (r_place : Nat → Int32) (r_kind : Nat → Int32) (r_month : Nat → Int32) (r_day : Nat → Int32) (r_known : Nat → Int32) (r_struck : Nat → Int32) (p1 : Int32) (p2 : Int32) (p3 : Int32) (p4 : Int32) (p5 : Int32) (gamonths : gi amonths 0 24) (gafull : gi afull 0 5) (galean : gi alean 0 5) (gahasMoon : gi ahasMoon 0 1) (gaplaceCount : gi aplaceCount 0 6) (gareportCount : gi areportCount 0 24) (gadeedCount : gi adeedCount 0 8) (gr_place : ga r_place 24 0 5) (gr_month : ga r_month 24 0 23) (gr_struck : ga r_struck 24 0 1) (gp1 : gi p1 0 5) (gp3 : gi p3 0 23) : Met l yX0_addReport (.code yX0_addReport cX0_addReport 7 none :: wsGA) ({ frames := 0, cells := 0, slots := 0, locals := 0 }) (va_Pc [.ref h0, .int p1, .int p2, .int p3, .int p4, .int p5] (fun U => U.heap.size = sz ∧ va_P (dC, dI) vwCl (([(h0, .inr (0, [.int amonths, .int afull, .int alean, .int alines, .int ahasMoon, .int amoonStart, .int amoonStep, .int aplaceCount, .int areportCount, .int adeedCount, .ref pl, .ref re, .ref de])), (re, .inl (kre, 24, .inr (.inr (.inr (.inr (fun i => some (ra i)))))))] : va_W) ++ (gz_fam 24 ra 7 (fun i => [.int (r_place i), .int (r_kind i), .int (r_month i), .int (r_day i), .int (r_known i), .int (r_struck i)]))) U.heap ∧ va_K (dC, dI) vwCl [(kre, .object RX7)] U ∧ va_D (fun _ => True) (([(h0, .inr (0, [.int amonths, .int afull, .int alean, .int alines, .int ahasMoon, .int amoonStart, .int amoonStep, .int aplaceCount, .int areportCount, .int adeedCount, .ref pl, .ref re, .ref de])), (re, .inl (kre, 24, .inr (.inr (.inr (.inr (fun i => some (ra i)))))))] : va_W) ++ (gz_fam 24 ra 7 (fun i => [.int (r_place i), .int (r_kind i), .int (r_month i), .int (r_day i), .int (r_known i), .int (r_struck i)]))) ∧ nzA U)) (va_Qv (fun (u : Unit) => True) (fun _ t => ∃ (w0_8 : Int32) (z2_0 : Nat → Int32) (z2_1 : Nat → Int32) (z2_2 : Nat → Int32) (z2_3 : Nat → Int32) (z2_4 : Nat → Int32) (z2_5 : Nat → Int32), gi w0_8 0 24 ∧ ga z2_0 24 0 5 ∧ ga z2_2 24 0 23 ∧ ga z2_5 24 0 1 ∧ (w0_8, z2_0, z2_1, z2_2, z2_3, z2_4, z2_5) = fX0_addReport areportCount r_place r_kind r_month r_day r_known r_struck p1 p2 p3 p4 p5 ∧ va_P (dC, dI) vwCl (([(h0, .inr (0, [.int amonths, .int afull, .int alean, .int alines, .int ahasMoon, .int amoonStart, .int amoonStep, .int aplaceCount, .int w0_8, .int adeedCount, .ref pl, .ref re, .ref de])), (re, .inl (kre, 24, .inr (.inr (.inr (.inr (fun i => some (ra i)))))))] : va_W) ++ (gz_fam 24 ra 7 (fun i => [.int (z2_0 i), .int (z2_1 i), .int (z2_2 i), .int (z2_3 i), .int (z2_4 i), .int (z2_5 i)]))) t.heap ∧ va_D (va_A (([(h0, .inr (0, [.int amonths, .int afull, .int alean, .int alines, .int ahasMoon, .int amoonStart, .int amoonStep, .int aplaceCount, .int areportCount, .int adeedCount, .ref pl, .ref re, .ref de])), (re, .inl (kre, 24, .inr (.inr (.inr (.inr (fun i => some (ra i)))))))] : va_W) ++ (gz_fam 24 ra 7 (fun i => [.int (r_place i), .int (r_kind i), .int (r_month i), .int (r_day i), .int (r_known i), .int (r_struck i)]))) sz) (([(h0, .inr (0, [.int amonths, .int afull, .int alean, .int alines, .int ahasMoon, .int amoonStart, .int amoonStep, .int aplaceCount, .int w0_8, .int adeedCount, .ref pl, .ref re, .ref de])), (re, .inl (kre, 24, .inr (.inr (.inr (.inr (fun i => some (ra i)))))))] : va_W) ++ (gz_fam 24 ra 7 (fun i => [.int (z2_0 i), .int (z2_1 i), .int (z2_2 i), .int (z2_3 i), .int (z2_4 i), .int (z2_5 i)])))) (va_A (([(h0, .inr (0, [.int amonths, .int afull, .int alean, .int alines, .int ahasMoon, .int amoonStart, .int amoonStep, .int aplaceCount, .int areportCount, .int adeedCount, .ref pl, .ref re, .ref de])), (re, .inl (kre, 24, .inr (.inr (.inr (.inr (fun i => some (ra i)))))))] : va_W) ++ (gz_fam 24 ra 7 (fun i => [.int (r_place i), .int (r_kind i), .int (r_month i), .int (r_day i), .int (r_known i), .int (r_struck i)]))) sz)) 0 0 (va_A (([(h0, .inr (0, [.int amonths, .int afull, .int alean, .int alines, .int ahasMoon, .int amoonStart, .int amoonStep, .int aplaceCount, .int areportCount, .int adeedCount, .ref pl, .ref re, .ref de])), (re, .inl (kre, 24, .inr (.inr (.inr (.inr (fun i => some (ra i)))))))] : va_W) ++ (gz_fam 24 ra 7 (fun i => [.int (r_place i), .int (r_kind i), .int (r_month i), .int (r_day i), .int (r_known i), .int (r_struck i)]))) sz) := by
  refine Met.ofW (cc := cX0_addReport) (maxL := 7) (ret := none) (by decide) rfl ?_
  intro p e s m args below meth c s₁ B hml hv
  obtain ⟨rfl, hsz, hP, hK, hD0, hz⟩ := hv
  have hx := B.exec
  have hb := B.bytes
  have hr := B.returns
  have hts := atoms_spec (ws := (.code yX0_addReport cX0_addReport 7 none :: wsGA)) B.pre
  have hown : s.vm.findClass RX0 = some m.cls := findClass_of_methodNamed B.named
  have hlocks := B.notSynchronized
  subst hsz
  have hD := hD0.self (sz := s.heap.size)
  generalize hAe : va_A (([(h0, .inr (0, [.int amonths, .int afull, .int alean, .int alines, .int ahasMoon, .int amoonStart, .int amoonStep, .int aplaceCount, .int areportCount, .int adeedCount, .ref pl, .ref re, .ref de])), (re, .inl (kre, 24, .inr (.inr (.inr (.inr (fun i => some (ra i)))))))] : va_W) ++ (gz_fam 24 ra 7 (fun i => [.int (r_place i), .int (r_kind i), .int (r_month i), .int (r_day i), .int (r_known i), .int (r_struck i)]))) s.heap.size = A at hD ⊢
  have hA : ∀ q : Nat, s.heap.size ≤ q → A q := fun q h => by rw [← hAe]; exact Or.inr h
  have hS : va_S A s.heap s.heap [] := va_S.rf
  have hl := lv_entry ([.ref h0, .int p1, .int p2, .int p3, .int p4, .int p5]) (n := 7) (Nat.le_of_ble_eq_true rfl)
  rw [lg_entry_eq]
  generalize (lg_sl ([.ref h0, .int p1, .int p2, .int p3, .int p4, .int p5]) ++ List.replicate (7 - (lg_sl ([.ref h0, .int p1, .int p2, .int p3, .int p4, .int p5])).length) Slot.unset).toArray = ls at hl ⊢
  have hl : lv_has ls 7 [(0, .ref h0), (1, .int p1), (2, .int p2), (3, .int p3), (4, .int p4), (5, .int p5)] := hl
  obtain ⟨RES, hF⟩ : ∃ R9, fX0_addReport areportCount r_place r_kind r_month r_day r_known r_struck p1 p2 p3 p4 p5 = R9 := ⟨_, rfl⟩
  have hR9 := hF
  refine lv_aload_n hx hb dX0_addReport_0 rfl (lv_at hl 0 rfl) ?_
  refine va_get (D := (dC, dI)) (ci := 0) (v := .int areportCount) (C := RX0) (T := TX0) (N := 13) hx hb hts (fun w h => List.mem_cons_of_mem _ (jnGA_X0 w h)) hown hK hP 0 rfl rfl 8 (by decide) (hts _ (List.mem_cons_of_mem _ mGA_160)) (fun _ h9 => h9) rfl dX0_addReport_1 ?_
  refine lv_bipush (v := 24) hx hb dX0_addReport_4 (by decide) ?_
  refine lv_icmp_ge (tgt := 68) hx hb dX0_addReport_6 (by decide) (fun c_21 => ?_) (fun c_21 => ?_)
  · have hF := gf_pos c_21 hF
    have g_22 : gi areportCount 24 24 := gi_le_r c_21 (gi_c 24 24 (by decide)) gareportCount
    exact W.vret hx hb hr (fun t ht hW => ⟨⟨(), rfl, trivial, areportCount, r_place, r_kind, r_month, r_day, r_known, r_struck, (gi_w g_22 (by decide)), gr_place, gr_month, gr_struck, hF.trans hR9.symm, by rw [ht]; exact hP, hD⟩, hS.F ht⟩) hS.2.2 dX0_addReport_68
  · have hF := gf_neg c_21 hF
    have g_23 : gi areportCount 0 23 := gi_lt_l (Int32.not_le.mp c_21) gareportCount (gi_c 24 24 (by decide)) (by decide)
    refine lv_aload_n hx hb dX0_addReport_9 rfl (lv_at hl 0 rfl) ?_
    refine va_get (D := (dC, dI)) (ci := 0) (v := .ref re) (C := RX0) (T := TX0) (N := 13) hx hb hts (fun w h => List.mem_cons_of_mem _ (jnGA_X0 w h)) hown hK hP 0 rfl rfl 11 (by decide) (hts _ (List.mem_cons_of_mem _ mGA_72)) (fun _ h9 => h9) rfl dX0_addReport_10 ?_
    refine lv_aload_n hx hb dX0_addReport_13 rfl (lv_at hl 0 rfl) ?_
    refine va_get (D := (dC, dI)) (ci := 0) (v := .int areportCount) (C := RX0) (T := TX0) (N := 13) hx hb hts (fun w h => List.mem_cons_of_mem _ (jnGA_X0 w h)) hown hK hP 0 rfl rfl 8 (by decide) (hts _ (List.mem_cons_of_mem _ mGA_160)) (fun _ h9 => h9) rfl dX0_addReport_14 ?_
    refine va_aldq hx hb hK hP 1 0 rfl rfl (gi_in g_23 (by decide)) dX0_addReport_17 ?_
    refine W.eq (g2 := F0 m 18 ls [.ref (ra areportCount.toNatClampNeg)]) rfl ?_
    refine lv_astore (lv' := [(6, .ref (ra areportCount.toNatClampNeg)), (0, .ref h0), (1, .int p1), (2, .int p2), (3, .int p3), (4, .int p4), (5, .int p5)]) hx hb dX0_addReport_18 hl (by decide) rfl (fun ls hl => ?_)
    refine lv_aload hx hb dX0_addReport_20 (lv_at hl 0 rfl) ?_
    refine lv_iload_n hx hb dX0_addReport_22 rfl (lv_at hl 2 rfl) ?_
    refine va_put (D := (dC, dI)) (ci := 7) (v := .int p1) (ty := .int) (C := RX7) (T := TX7) (N := 6) hx hb hts (fun w h => List.mem_cons_of_mem _ (jnGA_X7 w h)) tyX7 tyX7_ok nmX7 hown hK hP hD hS (List.length [(h0, .inr (0, [.int amonths, .int afull, .int alean, .int alines, .int ahasMoon, .int amoonStart, .int amoonStep, .int aplaceCount, .int areportCount, .int adeedCount, .ref pl, .ref re, .ref de])), (re, .inl (kre, 24, .inr (.inr (.inr (.inr (fun i => some (ra i)))))))] + areportCount.toNatClampNeg) (gz_famW3 (X := [(h0, .inr (0, [.int amonths, .int afull, .int alean, .int alines, .int ahasMoon, .int amoonStart, .int amoonStep, .int aplaceCount, .int areportCount, .int adeedCount, .ref pl, .ref re, .ref de])), (re, .inl (kre, 24, .inr (.inr (.inr (.inr (fun i => some (ra i)))))))]) ((List.append_nil _).symm) (gz_clt (gi_in (n := 24) g_23 (by decide)))) rfl 0 (by decide) (hts _ (List.mem_cons_of_mem _ mGA_317)) (fun _ h9 => h9) rfl (by decide +kernel) rfl rfl (Nat.le_of_ble_eq_true rfl) dX0_addReport_23 (fun H locs hP hD hS => ?_)
    have hP : va_P (dC, dI) vwCl (([(h0, .inr (0, [.int amonths, .int afull, .int alean, .int alines, .int ahasMoon, .int amoonStart, .int amoonStep, .int aplaceCount, .int areportCount, .int adeedCount, .ref pl, .ref re, .ref de])), (re, .inl (kre, 24, .inr (.inr (.inr (.inr (fun i => some (ra i)))))))] : va_W) ++ (gz_fam 24 ra 7 (fun i => [.int ((upd r_place (areportCount.toNatClampNeg) p1) i), .int (r_kind i), .int (r_month i), .int (r_day i), .int (r_known i), .int (r_struck i)]))) H := gz_famP (X := [(h0, .inr (0, [.int amonths, .int afull, .int alean, .int alines, .int ahasMoon, .int amoonStart, .int amoonStep, .int aplaceCount, .int areportCount, .int adeedCount, .ref pl, .ref re, .ref de])), (re, .inl (kre, 24, .inr (.inr (.inr (.inr (fun i => some (ra i)))))))]) ((List.append_nil _).symm) ((List.append_nil _).symm) (gz_clt (gi_in (n := 24) g_23 (by decide))) (by simp [upd]) (fun i hi => by simp [upd, hi]) hP
    have hD : va_D A (([(h0, .inr (0, [.int amonths, .int afull, .int alean, .int alines, .int ahasMoon, .int amoonStart, .int amoonStep, .int aplaceCount, .int areportCount, .int adeedCount, .ref pl, .ref re, .ref de])), (re, .inl (kre, 24, .inr (.inr (.inr (.inr (fun i => some (ra i)))))))] : va_W) ++ (gz_fam 24 ra 7 (fun i => [.int ((upd r_place (areportCount.toNatClampNeg) p1) i), .int (r_kind i), .int (r_month i), .int (r_day i), .int (r_known i), .int (r_struck i)]))) := gz_famD (X := [(h0, .inr (0, [.int amonths, .int afull, .int alean, .int alines, .int ahasMoon, .int amoonStart, .int amoonStep, .int aplaceCount, .int areportCount, .int adeedCount, .ref pl, .ref re, .ref de])), (re, .inl (kre, 24, .inr (.inr (.inr (.inr (fun i => some (ra i)))))))]) ((List.append_nil _).symm) ((List.append_nil _).symm) (gz_clt (gi_in (n := 24) g_23 (by decide))) (by simp [upd]) (fun i hi => by simp [upd, hi]) hD
    have gf_24 : ga (upd r_place (areportCount.toNatClampNeg) p1) 24 0 5 := ga_upd gr_place gp1
    generalize ef_24 : upd r_place (areportCount.toNatClampNeg) p1 = f_24 at hP hD gf_24
    have hP : va_P (dC, dI) vwCl (([(h0, .inr (0, [.int amonths, .int afull, .int alean, .int alines, .int ahasMoon, .int amoonStart, .int amoonStep, .int aplaceCount, .int areportCount, .int adeedCount, .ref pl, .ref re, .ref de])), (re, .inl (kre, 24, .inr (.inr (.inr (.inr (fun i => some (ra i)))))))] : va_W) ++ (gz_fam 24 ra 7 (fun i => [.int (f_24 i), .int (r_kind i), .int (r_month i), .int (r_day i), .int (r_known i), .int (r_struck i)]))) H := hP
    have hD : va_D A (([(h0, .inr (0, [.int amonths, .int afull, .int alean, .int alines, .int ahasMoon, .int amoonStart, .int amoonStep, .int aplaceCount, .int areportCount, .int adeedCount, .ref pl, .ref re, .ref de])), (re, .inl (kre, 24, .inr (.inr (.inr (.inr (fun i => some (ra i)))))))] : va_W) ++ (gz_fam 24 ra 7 (fun i => [.int (f_24 i), .int (r_kind i), .int (r_month i), .int (r_day i), .int (r_known i), .int (r_struck i)]))) := hD
    refine lv_aload hx hb dX0_addReport_26 (lv_at hl 0 rfl) ?_
    refine lv_iload_n hx hb dX0_addReport_28 rfl (lv_at hl 3 rfl) ?_
    refine va_put (D := (dC, dI)) (ci := 7) (v := .int p2) (ty := .int) (C := RX7) (T := TX7) (N := 6) hx hb hts (fun w h => List.mem_cons_of_mem _ (jnGA_X7 w h)) tyX7 tyX7_ok nmX7 hown hK hP hD hS (List.length [(h0, .inr (0, [.int amonths, .int afull, .int alean, .int alines, .int ahasMoon, .int amoonStart, .int amoonStep, .int aplaceCount, .int areportCount, .int adeedCount, .ref pl, .ref re, .ref de])), (re, .inl (kre, 24, .inr (.inr (.inr (.inr (fun i => some (ra i)))))))] + areportCount.toNatClampNeg) (gz_famW3 (X := [(h0, .inr (0, [.int amonths, .int afull, .int alean, .int alines, .int ahasMoon, .int amoonStart, .int amoonStep, .int aplaceCount, .int areportCount, .int adeedCount, .ref pl, .ref re, .ref de])), (re, .inl (kre, 24, .inr (.inr (.inr (.inr (fun i => some (ra i)))))))]) ((List.append_nil _).symm) (gz_clt (gi_in (n := 24) g_23 (by decide)))) rfl 1 (by decide) (hts _ (List.mem_cons_of_mem _ mGA_318)) (fun _ h9 => h9) rfl (by decide +kernel) rfl rfl (Nat.le_of_ble_eq_true rfl) dX0_addReport_29 (fun H locs hP hD hS => ?_)
    have hP : va_P (dC, dI) vwCl (([(h0, .inr (0, [.int amonths, .int afull, .int alean, .int alines, .int ahasMoon, .int amoonStart, .int amoonStep, .int aplaceCount, .int areportCount, .int adeedCount, .ref pl, .ref re, .ref de])), (re, .inl (kre, 24, .inr (.inr (.inr (.inr (fun i => some (ra i)))))))] : va_W) ++ (gz_fam 24 ra 7 (fun i => [.int (f_24 i), .int ((upd r_kind (areportCount.toNatClampNeg) p2) i), .int (r_month i), .int (r_day i), .int (r_known i), .int (r_struck i)]))) H := gz_famP (X := [(h0, .inr (0, [.int amonths, .int afull, .int alean, .int alines, .int ahasMoon, .int amoonStart, .int amoonStep, .int aplaceCount, .int areportCount, .int adeedCount, .ref pl, .ref re, .ref de])), (re, .inl (kre, 24, .inr (.inr (.inr (.inr (fun i => some (ra i)))))))]) ((List.append_nil _).symm) ((List.append_nil _).symm) (gz_clt (gi_in (n := 24) g_23 (by decide))) (by simp [upd]) (fun i hi => by simp [upd, hi]) hP
    have hD : va_D A (([(h0, .inr (0, [.int amonths, .int afull, .int alean, .int alines, .int ahasMoon, .int amoonStart, .int amoonStep, .int aplaceCount, .int areportCount, .int adeedCount, .ref pl, .ref re, .ref de])), (re, .inl (kre, 24, .inr (.inr (.inr (.inr (fun i => some (ra i)))))))] : va_W) ++ (gz_fam 24 ra 7 (fun i => [.int (f_24 i), .int ((upd r_kind (areportCount.toNatClampNeg) p2) i), .int (r_month i), .int (r_day i), .int (r_known i), .int (r_struck i)]))) := gz_famD (X := [(h0, .inr (0, [.int amonths, .int afull, .int alean, .int alines, .int ahasMoon, .int amoonStart, .int amoonStep, .int aplaceCount, .int areportCount, .int adeedCount, .ref pl, .ref re, .ref de])), (re, .inl (kre, 24, .inr (.inr (.inr (.inr (fun i => some (ra i)))))))]) ((List.append_nil _).symm) ((List.append_nil _).symm) (gz_clt (gi_in (n := 24) g_23 (by decide))) (by simp [upd]) (fun i hi => by simp [upd, hi]) hD
    generalize ef_25 : upd r_kind (areportCount.toNatClampNeg) p2 = f_25 at hP hD
    have hP : va_P (dC, dI) vwCl (([(h0, .inr (0, [.int amonths, .int afull, .int alean, .int alines, .int ahasMoon, .int amoonStart, .int amoonStep, .int aplaceCount, .int areportCount, .int adeedCount, .ref pl, .ref re, .ref de])), (re, .inl (kre, 24, .inr (.inr (.inr (.inr (fun i => some (ra i)))))))] : va_W) ++ (gz_fam 24 ra 7 (fun i => [.int (f_24 i), .int (f_25 i), .int (r_month i), .int (r_day i), .int (r_known i), .int (r_struck i)]))) H := hP
    have hD : va_D A (([(h0, .inr (0, [.int amonths, .int afull, .int alean, .int alines, .int ahasMoon, .int amoonStart, .int amoonStep, .int aplaceCount, .int areportCount, .int adeedCount, .ref pl, .ref re, .ref de])), (re, .inl (kre, 24, .inr (.inr (.inr (.inr (fun i => some (ra i)))))))] : va_W) ++ (gz_fam 24 ra 7 (fun i => [.int (f_24 i), .int (f_25 i), .int (r_month i), .int (r_day i), .int (r_known i), .int (r_struck i)]))) := hD
    refine lv_aload hx hb dX0_addReport_32 (lv_at hl 0 rfl) ?_
    refine lv_iload_n hx hb dX0_addReport_34 rfl (lv_at hl 4 rfl) ?_
    refine va_put (D := (dC, dI)) (ci := 7) (v := .int p3) (ty := .int) (C := RX7) (T := TX7) (N := 6) hx hb hts (fun w h => List.mem_cons_of_mem _ (jnGA_X7 w h)) tyX7 tyX7_ok nmX7 hown hK hP hD hS (List.length [(h0, .inr (0, [.int amonths, .int afull, .int alean, .int alines, .int ahasMoon, .int amoonStart, .int amoonStep, .int aplaceCount, .int areportCount, .int adeedCount, .ref pl, .ref re, .ref de])), (re, .inl (kre, 24, .inr (.inr (.inr (.inr (fun i => some (ra i)))))))] + areportCount.toNatClampNeg) (gz_famW3 (X := [(h0, .inr (0, [.int amonths, .int afull, .int alean, .int alines, .int ahasMoon, .int amoonStart, .int amoonStep, .int aplaceCount, .int areportCount, .int adeedCount, .ref pl, .ref re, .ref de])), (re, .inl (kre, 24, .inr (.inr (.inr (.inr (fun i => some (ra i)))))))]) ((List.append_nil _).symm) (gz_clt (gi_in (n := 24) g_23 (by decide)))) rfl 2 (by decide) (hts _ (List.mem_cons_of_mem _ mGA_319)) (fun _ h9 => h9) rfl (by decide +kernel) rfl rfl (Nat.le_of_ble_eq_true rfl) dX0_addReport_35 (fun H locs hP hD hS => ?_)
    have hP : va_P (dC, dI) vwCl (([(h0, .inr (0, [.int amonths, .int afull, .int alean, .int alines, .int ahasMoon, .int amoonStart, .int amoonStep, .int aplaceCount, .int areportCount, .int adeedCount, .ref pl, .ref re, .ref de])), (re, .inl (kre, 24, .inr (.inr (.inr (.inr (fun i => some (ra i)))))))] : va_W) ++ (gz_fam 24 ra 7 (fun i => [.int (f_24 i), .int (f_25 i), .int ((upd r_month (areportCount.toNatClampNeg) p3) i), .int (r_day i), .int (r_known i), .int (r_struck i)]))) H := gz_famP (X := [(h0, .inr (0, [.int amonths, .int afull, .int alean, .int alines, .int ahasMoon, .int amoonStart, .int amoonStep, .int aplaceCount, .int areportCount, .int adeedCount, .ref pl, .ref re, .ref de])), (re, .inl (kre, 24, .inr (.inr (.inr (.inr (fun i => some (ra i)))))))]) ((List.append_nil _).symm) ((List.append_nil _).symm) (gz_clt (gi_in (n := 24) g_23 (by decide))) (by simp [upd]) (fun i hi => by simp [upd, hi]) hP
    have hD : va_D A (([(h0, .inr (0, [.int amonths, .int afull, .int alean, .int alines, .int ahasMoon, .int amoonStart, .int amoonStep, .int aplaceCount, .int areportCount, .int adeedCount, .ref pl, .ref re, .ref de])), (re, .inl (kre, 24, .inr (.inr (.inr (.inr (fun i => some (ra i)))))))] : va_W) ++ (gz_fam 24 ra 7 (fun i => [.int (f_24 i), .int (f_25 i), .int ((upd r_month (areportCount.toNatClampNeg) p3) i), .int (r_day i), .int (r_known i), .int (r_struck i)]))) := gz_famD (X := [(h0, .inr (0, [.int amonths, .int afull, .int alean, .int alines, .int ahasMoon, .int amoonStart, .int amoonStep, .int aplaceCount, .int areportCount, .int adeedCount, .ref pl, .ref re, .ref de])), (re, .inl (kre, 24, .inr (.inr (.inr (.inr (fun i => some (ra i)))))))]) ((List.append_nil _).symm) ((List.append_nil _).symm) (gz_clt (gi_in (n := 24) g_23 (by decide))) (by simp [upd]) (fun i hi => by simp [upd, hi]) hD
    have gf_26 : ga (upd r_month (areportCount.toNatClampNeg) p3) 24 0 23 := ga_upd gr_month gp3
    generalize ef_26 : upd r_month (areportCount.toNatClampNeg) p3 = f_26 at hP hD gf_26
    have hP : va_P (dC, dI) vwCl (([(h0, .inr (0, [.int amonths, .int afull, .int alean, .int alines, .int ahasMoon, .int amoonStart, .int amoonStep, .int aplaceCount, .int areportCount, .int adeedCount, .ref pl, .ref re, .ref de])), (re, .inl (kre, 24, .inr (.inr (.inr (.inr (fun i => some (ra i)))))))] : va_W) ++ (gz_fam 24 ra 7 (fun i => [.int (f_24 i), .int (f_25 i), .int (f_26 i), .int (r_day i), .int (r_known i), .int (r_struck i)]))) H := hP
    have hD : va_D A (([(h0, .inr (0, [.int amonths, .int afull, .int alean, .int alines, .int ahasMoon, .int amoonStart, .int amoonStep, .int aplaceCount, .int areportCount, .int adeedCount, .ref pl, .ref re, .ref de])), (re, .inl (kre, 24, .inr (.inr (.inr (.inr (fun i => some (ra i)))))))] : va_W) ++ (gz_fam 24 ra 7 (fun i => [.int (f_24 i), .int (f_25 i), .int (f_26 i), .int (r_day i), .int (r_known i), .int (r_struck i)]))) := hD
    refine lv_aload hx hb dX0_addReport_38 (lv_at hl 0 rfl) ?_
    refine lv_iload hx hb dX0_addReport_40 (lv_at hl 5 rfl) ?_
    refine va_put (D := (dC, dI)) (ci := 7) (v := .int p4) (ty := .int) (C := RX7) (T := TX7) (N := 6) hx hb hts (fun w h => List.mem_cons_of_mem _ (jnGA_X7 w h)) tyX7 tyX7_ok nmX7 hown hK hP hD hS (List.length [(h0, .inr (0, [.int amonths, .int afull, .int alean, .int alines, .int ahasMoon, .int amoonStart, .int amoonStep, .int aplaceCount, .int areportCount, .int adeedCount, .ref pl, .ref re, .ref de])), (re, .inl (kre, 24, .inr (.inr (.inr (.inr (fun i => some (ra i)))))))] + areportCount.toNatClampNeg) (gz_famW3 (X := [(h0, .inr (0, [.int amonths, .int afull, .int alean, .int alines, .int ahasMoon, .int amoonStart, .int amoonStep, .int aplaceCount, .int areportCount, .int adeedCount, .ref pl, .ref re, .ref de])), (re, .inl (kre, 24, .inr (.inr (.inr (.inr (fun i => some (ra i)))))))]) ((List.append_nil _).symm) (gz_clt (gi_in (n := 24) g_23 (by decide)))) rfl 3 (by decide) (hts _ (List.mem_cons_of_mem _ mGA_320)) (fun _ h9 => h9) rfl (by decide +kernel) rfl rfl (Nat.le_of_ble_eq_true rfl) dX0_addReport_42 (fun H locs hP hD hS => ?_)
    have hP : va_P (dC, dI) vwCl (([(h0, .inr (0, [.int amonths, .int afull, .int alean, .int alines, .int ahasMoon, .int amoonStart, .int amoonStep, .int aplaceCount, .int areportCount, .int adeedCount, .ref pl, .ref re, .ref de])), (re, .inl (kre, 24, .inr (.inr (.inr (.inr (fun i => some (ra i)))))))] : va_W) ++ (gz_fam 24 ra 7 (fun i => [.int (f_24 i), .int (f_25 i), .int (f_26 i), .int ((upd r_day (areportCount.toNatClampNeg) p4) i), .int (r_known i), .int (r_struck i)]))) H := gz_famP (X := [(h0, .inr (0, [.int amonths, .int afull, .int alean, .int alines, .int ahasMoon, .int amoonStart, .int amoonStep, .int aplaceCount, .int areportCount, .int adeedCount, .ref pl, .ref re, .ref de])), (re, .inl (kre, 24, .inr (.inr (.inr (.inr (fun i => some (ra i)))))))]) ((List.append_nil _).symm) ((List.append_nil _).symm) (gz_clt (gi_in (n := 24) g_23 (by decide))) (by simp [upd]) (fun i hi => by simp [upd, hi]) hP
    have hD : va_D A (([(h0, .inr (0, [.int amonths, .int afull, .int alean, .int alines, .int ahasMoon, .int amoonStart, .int amoonStep, .int aplaceCount, .int areportCount, .int adeedCount, .ref pl, .ref re, .ref de])), (re, .inl (kre, 24, .inr (.inr (.inr (.inr (fun i => some (ra i)))))))] : va_W) ++ (gz_fam 24 ra 7 (fun i => [.int (f_24 i), .int (f_25 i), .int (f_26 i), .int ((upd r_day (areportCount.toNatClampNeg) p4) i), .int (r_known i), .int (r_struck i)]))) := gz_famD (X := [(h0, .inr (0, [.int amonths, .int afull, .int alean, .int alines, .int ahasMoon, .int amoonStart, .int amoonStep, .int aplaceCount, .int areportCount, .int adeedCount, .ref pl, .ref re, .ref de])), (re, .inl (kre, 24, .inr (.inr (.inr (.inr (fun i => some (ra i)))))))]) ((List.append_nil _).symm) ((List.append_nil _).symm) (gz_clt (gi_in (n := 24) g_23 (by decide))) (by simp [upd]) (fun i hi => by simp [upd, hi]) hD
    generalize ef_27 : upd r_day (areportCount.toNatClampNeg) p4 = f_27 at hP hD
    have hP : va_P (dC, dI) vwCl (([(h0, .inr (0, [.int amonths, .int afull, .int alean, .int alines, .int ahasMoon, .int amoonStart, .int amoonStep, .int aplaceCount, .int areportCount, .int adeedCount, .ref pl, .ref re, .ref de])), (re, .inl (kre, 24, .inr (.inr (.inr (.inr (fun i => some (ra i)))))))] : va_W) ++ (gz_fam 24 ra 7 (fun i => [.int (f_24 i), .int (f_25 i), .int (f_26 i), .int (f_27 i), .int (r_known i), .int (r_struck i)]))) H := hP
    have hD : va_D A (([(h0, .inr (0, [.int amonths, .int afull, .int alean, .int alines, .int ahasMoon, .int amoonStart, .int amoonStep, .int aplaceCount, .int areportCount, .int adeedCount, .ref pl, .ref re, .ref de])), (re, .inl (kre, 24, .inr (.inr (.inr (.inr (fun i => some (ra i)))))))] : va_W) ++ (gz_fam 24 ra 7 (fun i => [.int (f_24 i), .int (f_25 i), .int (f_26 i), .int (f_27 i), .int (r_known i), .int (r_struck i)]))) := hD
    refine lv_aload hx hb dX0_addReport_45 (lv_at hl 0 rfl) ?_
    refine lv_iload hx hb dX0_addReport_47 (lv_at hl 6 rfl) ?_
    refine va_put (D := (dC, dI)) (ci := 7) (v := .int p5) (ty := .int) (C := RX7) (T := TX7) (N := 6) hx hb hts (fun w h => List.mem_cons_of_mem _ (jnGA_X7 w h)) tyX7 tyX7_ok nmX7 hown hK hP hD hS (List.length [(h0, .inr (0, [.int amonths, .int afull, .int alean, .int alines, .int ahasMoon, .int amoonStart, .int amoonStep, .int aplaceCount, .int areportCount, .int adeedCount, .ref pl, .ref re, .ref de])), (re, .inl (kre, 24, .inr (.inr (.inr (.inr (fun i => some (ra i)))))))] + areportCount.toNatClampNeg) (gz_famW3 (X := [(h0, .inr (0, [.int amonths, .int afull, .int alean, .int alines, .int ahasMoon, .int amoonStart, .int amoonStep, .int aplaceCount, .int areportCount, .int adeedCount, .ref pl, .ref re, .ref de])), (re, .inl (kre, 24, .inr (.inr (.inr (.inr (fun i => some (ra i)))))))]) ((List.append_nil _).symm) (gz_clt (gi_in (n := 24) g_23 (by decide)))) rfl 4 (by decide) (hts _ (List.mem_cons_of_mem _ mGA_321)) (fun _ h9 => h9) rfl (by decide +kernel) rfl rfl (Nat.le_of_ble_eq_true rfl) dX0_addReport_49 (fun H locs hP hD hS => ?_)
    have hP : va_P (dC, dI) vwCl (([(h0, .inr (0, [.int amonths, .int afull, .int alean, .int alines, .int ahasMoon, .int amoonStart, .int amoonStep, .int aplaceCount, .int areportCount, .int adeedCount, .ref pl, .ref re, .ref de])), (re, .inl (kre, 24, .inr (.inr (.inr (.inr (fun i => some (ra i)))))))] : va_W) ++ (gz_fam 24 ra 7 (fun i => [.int (f_24 i), .int (f_25 i), .int (f_26 i), .int (f_27 i), .int ((upd r_known (areportCount.toNatClampNeg) p5) i), .int (r_struck i)]))) H := gz_famP (X := [(h0, .inr (0, [.int amonths, .int afull, .int alean, .int alines, .int ahasMoon, .int amoonStart, .int amoonStep, .int aplaceCount, .int areportCount, .int adeedCount, .ref pl, .ref re, .ref de])), (re, .inl (kre, 24, .inr (.inr (.inr (.inr (fun i => some (ra i)))))))]) ((List.append_nil _).symm) ((List.append_nil _).symm) (gz_clt (gi_in (n := 24) g_23 (by decide))) (by simp [upd]) (fun i hi => by simp [upd, hi]) hP
    have hD : va_D A (([(h0, .inr (0, [.int amonths, .int afull, .int alean, .int alines, .int ahasMoon, .int amoonStart, .int amoonStep, .int aplaceCount, .int areportCount, .int adeedCount, .ref pl, .ref re, .ref de])), (re, .inl (kre, 24, .inr (.inr (.inr (.inr (fun i => some (ra i)))))))] : va_W) ++ (gz_fam 24 ra 7 (fun i => [.int (f_24 i), .int (f_25 i), .int (f_26 i), .int (f_27 i), .int ((upd r_known (areportCount.toNatClampNeg) p5) i), .int (r_struck i)]))) := gz_famD (X := [(h0, .inr (0, [.int amonths, .int afull, .int alean, .int alines, .int ahasMoon, .int amoonStart, .int amoonStep, .int aplaceCount, .int areportCount, .int adeedCount, .ref pl, .ref re, .ref de])), (re, .inl (kre, 24, .inr (.inr (.inr (.inr (fun i => some (ra i)))))))]) ((List.append_nil _).symm) ((List.append_nil _).symm) (gz_clt (gi_in (n := 24) g_23 (by decide))) (by simp [upd]) (fun i hi => by simp [upd, hi]) hD
    generalize ef_28 : upd r_known (areportCount.toNatClampNeg) p5 = f_28 at hP hD
    have hP : va_P (dC, dI) vwCl (([(h0, .inr (0, [.int amonths, .int afull, .int alean, .int alines, .int ahasMoon, .int amoonStart, .int amoonStep, .int aplaceCount, .int areportCount, .int adeedCount, .ref pl, .ref re, .ref de])), (re, .inl (kre, 24, .inr (.inr (.inr (.inr (fun i => some (ra i)))))))] : va_W) ++ (gz_fam 24 ra 7 (fun i => [.int (f_24 i), .int (f_25 i), .int (f_26 i), .int (f_27 i), .int (f_28 i), .int (r_struck i)]))) H := hP
    have hD : va_D A (([(h0, .inr (0, [.int amonths, .int afull, .int alean, .int alines, .int ahasMoon, .int amoonStart, .int amoonStep, .int aplaceCount, .int areportCount, .int adeedCount, .ref pl, .ref re, .ref de])), (re, .inl (kre, 24, .inr (.inr (.inr (.inr (fun i => some (ra i)))))))] : va_W) ++ (gz_fam 24 ra 7 (fun i => [.int (f_24 i), .int (f_25 i), .int (f_26 i), .int (f_27 i), .int (f_28 i), .int (r_struck i)]))) := hD
    refine lv_aload hx hb dX0_addReport_52 (lv_at hl 0 rfl) ?_
    refine lv_iconst (v := 0) hx hb dX0_addReport_54 (by decide) ?_
    refine va_put (D := (dC, dI)) (ci := 7) (v := .int 0) (ty := .boolean) (C := RX7) (T := TX7) (N := 6) hx hb hts (fun w h => List.mem_cons_of_mem _ (jnGA_X7 w h)) tyX7 tyX7_ok nmX7 hown hK hP hD hS (List.length [(h0, .inr (0, [.int amonths, .int afull, .int alean, .int alines, .int ahasMoon, .int amoonStart, .int amoonStep, .int aplaceCount, .int areportCount, .int adeedCount, .ref pl, .ref re, .ref de])), (re, .inl (kre, 24, .inr (.inr (.inr (.inr (fun i => some (ra i)))))))] + areportCount.toNatClampNeg) (gz_famW3 (X := [(h0, .inr (0, [.int amonths, .int afull, .int alean, .int alines, .int ahasMoon, .int amoonStart, .int amoonStep, .int aplaceCount, .int areportCount, .int adeedCount, .ref pl, .ref re, .ref de])), (re, .inl (kre, 24, .inr (.inr (.inr (.inr (fun i => some (ra i)))))))]) ((List.append_nil _).symm) (gz_clt (gi_in (n := 24) g_23 (by decide)))) rfl 5 (by decide) (hts _ (List.mem_cons_of_mem _ mGA_322)) (fun _ h9 => h9) rfl (by decide +kernel) rfl rfl (Nat.le_of_ble_eq_true rfl) dX0_addReport_55 (fun H locs hP hD hS => ?_)
    have hP : va_P (dC, dI) vwCl (([(h0, .inr (0, [.int amonths, .int afull, .int alean, .int alines, .int ahasMoon, .int amoonStart, .int amoonStep, .int aplaceCount, .int areportCount, .int adeedCount, .ref pl, .ref re, .ref de])), (re, .inl (kre, 24, .inr (.inr (.inr (.inr (fun i => some (ra i)))))))] : va_W) ++ (gz_fam 24 ra 7 (fun i => [.int (f_24 i), .int (f_25 i), .int (f_26 i), .int (f_27 i), .int (f_28 i), .int ((upd r_struck (areportCount.toNatClampNeg) 0) i)]))) H := gz_famP (X := [(h0, .inr (0, [.int amonths, .int afull, .int alean, .int alines, .int ahasMoon, .int amoonStart, .int amoonStep, .int aplaceCount, .int areportCount, .int adeedCount, .ref pl, .ref re, .ref de])), (re, .inl (kre, 24, .inr (.inr (.inr (.inr (fun i => some (ra i)))))))]) ((List.append_nil _).symm) ((List.append_nil _).symm) (gz_clt (gi_in (n := 24) g_23 (by decide))) (by simp [upd]) (fun i hi => by simp [upd, hi]) hP
    have hD : va_D A (([(h0, .inr (0, [.int amonths, .int afull, .int alean, .int alines, .int ahasMoon, .int amoonStart, .int amoonStep, .int aplaceCount, .int areportCount, .int adeedCount, .ref pl, .ref re, .ref de])), (re, .inl (kre, 24, .inr (.inr (.inr (.inr (fun i => some (ra i)))))))] : va_W) ++ (gz_fam 24 ra 7 (fun i => [.int (f_24 i), .int (f_25 i), .int (f_26 i), .int (f_27 i), .int (f_28 i), .int ((upd r_struck (areportCount.toNatClampNeg) 0) i)]))) := gz_famD (X := [(h0, .inr (0, [.int amonths, .int afull, .int alean, .int alines, .int ahasMoon, .int amoonStart, .int amoonStep, .int aplaceCount, .int areportCount, .int adeedCount, .ref pl, .ref re, .ref de])), (re, .inl (kre, 24, .inr (.inr (.inr (.inr (fun i => some (ra i)))))))]) ((List.append_nil _).symm) ((List.append_nil _).symm) (gz_clt (gi_in (n := 24) g_23 (by decide))) (by simp [upd]) (fun i hi => by simp [upd, hi]) hD
    have gf_29 : ga (upd r_struck (areportCount.toNatClampNeg) 0) 24 0 1 := ga_upd gr_struck (gi_w (gi_c 0 0 (by decide)) (by decide))
    generalize ef_29 : upd r_struck (areportCount.toNatClampNeg) 0 = f_29 at hP hD gf_29
    have hP : va_P (dC, dI) vwCl (([(h0, .inr (0, [.int amonths, .int afull, .int alean, .int alines, .int ahasMoon, .int amoonStart, .int amoonStep, .int aplaceCount, .int areportCount, .int adeedCount, .ref pl, .ref re, .ref de])), (re, .inl (kre, 24, .inr (.inr (.inr (.inr (fun i => some (ra i)))))))] : va_W) ++ (gz_fam 24 ra 7 (fun i => [.int (f_24 i), .int (f_25 i), .int (f_26 i), .int (f_27 i), .int (f_28 i), .int (f_29 i)]))) H := hP
    have hD : va_D A (([(h0, .inr (0, [.int amonths, .int afull, .int alean, .int alines, .int ahasMoon, .int amoonStart, .int amoonStep, .int aplaceCount, .int areportCount, .int adeedCount, .ref pl, .ref re, .ref de])), (re, .inl (kre, 24, .inr (.inr (.inr (.inr (fun i => some (ra i)))))))] : va_W) ++ (gz_fam 24 ra 7 (fun i => [.int (f_24 i), .int (f_25 i), .int (f_26 i), .int (f_27 i), .int (f_28 i), .int (f_29 i)]))) := hD
    refine lv_aload_n hx hb dX0_addReport_58 rfl (lv_at hl 1 rfl) ?_
    refine lv_dup hx hb dX0_addReport_59 rfl ?_
    refine va_get (D := (dC, dI)) (ci := 0) (v := .int areportCount) (C := RX0) (T := TX0) (N := 13) hx hb hts (fun w h => List.mem_cons_of_mem _ (jnGA_X0 w h)) hown hK hP 0 rfl rfl 8 (by decide) (hts _ (List.mem_cons_of_mem _ mGA_160)) (fun _ h9 => h9) rfl dX0_addReport_60 ?_
    refine lv_iconst (v := 1) hx hb dX0_addReport_63 (by decide) ?_
    refine lv_iadd hx hb dX0_addReport_64 ?_
    refine lv_topi (fun x_30 ex_30 => ?_)
    have gx_30 : gi x_30 1 24 := gi_add ex_30 g_23 (gi_c 1 1 (by decide)) (by decide)
    refine va_put (D := (dC, dI)) (ci := 0) (v := .int x_30) (ty := .int) (C := RX0) (T := TX0) (N := 13) hx hb hts (fun w h => List.mem_cons_of_mem _ (jnGA_X0 w h)) tyX0 tyX0_ok nmX0 hown hK hP hD hS 0 rfl rfl 8 (by decide) (hts _ (List.mem_cons_of_mem _ mGA_160)) (fun _ h9 => h9) rfl (by decide +kernel) rfl rfl (Nat.le_of_ble_eq_true rfl) dX0_addReport_65 (fun H locs hP hD hS => ?_)
    have hP : va_P (dC, dI) vwCl (([(h0, .inr (0, [.int amonths, .int afull, .int alean, .int alines, .int ahasMoon, .int amoonStart, .int amoonStep, .int aplaceCount, .int x_30, .int adeedCount, .ref pl, .ref re, .ref de])), (re, .inl (kre, 24, .inr (.inr (.inr (.inr (fun i => some (ra i)))))))] : va_W) ++ (gz_fam 24 ra 7 (fun i => [.int (f_24 i), .int (f_25 i), .int (f_26 i), .int (f_27 i), .int (f_28 i), .int (f_29 i)]))) H := hP
    have hD : va_D A (([(h0, .inr (0, [.int amonths, .int afull, .int alean, .int alines, .int ahasMoon, .int amoonStart, .int amoonStep, .int aplaceCount, .int x_30, .int adeedCount, .ref pl, .ref re, .ref de])), (re, .inl (kre, 24, .inr (.inr (.inr (.inr (fun i => some (ra i)))))))] : va_W) ++ (gz_fam 24 ra 7 (fun i => [.int (f_24 i), .int (f_25 i), .int (f_26 i), .int (f_27 i), .int (f_28 i), .int (f_29 i)]))) := hD
    exact W.vret hx hb hr (fun t ht hW => ⟨⟨(), rfl, trivial, x_30, f_24, f_25, f_26, f_27, f_28, f_29, (gi_w gx_30 (by decide)), gf_24, gf_26, gf_29, by rw [ex_30, ← ef_29, ← ef_28, ← ef_27, ← ef_26, ← ef_25, ← ef_24]; exact hF.trans hR9.symm, by rw [ht]; exact hP, hD⟩, hS.F ht⟩) hS.2.2 dX0_addReport_68
theorem dX0_addDeed_0 : decode cX0_addDeed 0 = .ok (.aload_n 0, 1) := by decide +kernel
theorem dX0_addDeed_1 : decode cX0_addDeed 1 = .ok (.getfield 61, 3) := by decide +kernel
theorem dX0_addDeed_4 : decode cX0_addDeed 4 = .ok (.bipush 8, 2) := by decide +kernel
theorem dX0_addDeed_6 : decode cX0_addDeed 6 = .ok (.if_icmp .ge 49, 3) := by decide +kernel
theorem dX0_addDeed_9 : decode cX0_addDeed 9 = .ok (.aload_n 0, 1) := by decide +kernel
theorem dX0_addDeed_10 : decode cX0_addDeed 10 = .ok (.getfield 25, 3) := by decide +kernel
theorem dX0_addDeed_13 : decode cX0_addDeed 13 = .ok (.aload_n 0, 1) := by decide +kernel
theorem dX0_addDeed_14 : decode cX0_addDeed 14 = .ok (.getfield 61, 3) := by decide +kernel
theorem dX0_addDeed_17 : decode cX0_addDeed 17 = .ok (.aaload, 1) := by decide +kernel
theorem dX0_addDeed_18 : decode cX0_addDeed 18 = .ok (.astore 5, 2) := by decide +kernel
theorem dX0_addDeed_20 : decode cX0_addDeed 20 = .ok (.aload 5, 2) := by decide +kernel
theorem dX0_addDeed_22 : decode cX0_addDeed 22 = .ok (.iload_n 1, 1) := by decide +kernel
theorem dX0_addDeed_23 : decode cX0_addDeed 23 = .ok (.putfield 99, 3) := by decide +kernel
theorem dX0_addDeed_26 : decode cX0_addDeed 26 = .ok (.aload 5, 2) := by decide +kernel
theorem dX0_addDeed_28 : decode cX0_addDeed 28 = .ok (.iload_n 2, 1) := by decide +kernel
theorem dX0_addDeed_29 : decode cX0_addDeed 29 = .ok (.putfield 100, 3) := by decide +kernel
theorem dX0_addDeed_32 : decode cX0_addDeed 32 = .ok (.aload 5, 2) := by decide +kernel
theorem dX0_addDeed_34 : decode cX0_addDeed 34 = .ok (.iload_n 3, 1) := by decide +kernel
theorem dX0_addDeed_35 : decode cX0_addDeed 35 = .ok (.putfield 101, 3) := by decide +kernel
theorem dX0_addDeed_38 : decode cX0_addDeed 38 = .ok (.aload 5, 2) := by decide +kernel
theorem dX0_addDeed_40 : decode cX0_addDeed 40 = .ok (.iload 4, 2) := by decide +kernel
theorem dX0_addDeed_42 : decode cX0_addDeed 42 = .ok (.putfield 104, 3) := by decide +kernel
theorem dX0_addDeed_45 : decode cX0_addDeed 45 = .ok (.aload_n 0, 1) := by decide +kernel
theorem dX0_addDeed_46 : decode cX0_addDeed 46 = .ok (.dup, 1) := by decide +kernel
theorem dX0_addDeed_47 : decode cX0_addDeed 47 = .ok (.getfield 61, 3) := by decide +kernel
theorem dX0_addDeed_50 : decode cX0_addDeed 50 = .ok (.iconst 1, 1) := by decide +kernel
theorem dX0_addDeed_51 : decode cX0_addDeed 51 = .ok (.iadd, 1) := by decide +kernel
theorem dX0_addDeed_52 : decode cX0_addDeed 52 = .ok (.putfield 61, 3) := by decide +kernel
theorem dX0_addDeed_55 : decode cX0_addDeed 55 = .ok (.return_, 1) := by decide +kernel
noncomputable def bfX0_addDeed_55 (adeedCount : Int32) (d_month : Nat → Int32) (d_day : Nat → Int32) (d_length : Nat → Int32) (d_inDays : Nat → Int32) (p1 : Int32) (p2 : Int32) (p3 : Int32) (p4 : Int32) (w0_9 : Int32) (z2_0 : Nat → Int32) (z2_1 : Nat → Int32) (z2_2 : Nat → Int32) (z2_3 : Nat → Int32) : Int32 × (Nat → Int32) × (Nat → Int32) × (Nat → Int32) × (Nat → Int32) := (w0_9, z2_0, z2_1, z2_2, z2_3)
noncomputable def fX0_addDeed (adeedCount : Int32) (d_month : Nat → Int32) (d_day : Nat → Int32) (d_length : Nat → Int32) (d_inDays : Nat → Int32) (p1 : Int32) (p2 : Int32) (p3 : Int32) (p4 : Int32) : Int32 × (Nat → Int32) × (Nat → Int32) × (Nat → Int32) × (Nat → Int32) := if (8 : Int32) ≤ adeedCount then (bfX0_addDeed_55 adeedCount d_month d_day d_length d_inDays p1 p2 p3 p4 adeedCount d_month d_day d_length d_inDays) else (bfX0_addDeed_55 adeedCount d_month d_day d_length d_inDays p1 p2 p3 p4 (adeedCount + (1 : Int32)) (upd d_month (adeedCount.toNatClampNeg) p1) (upd d_day (adeedCount.toNatClampNeg) p2) (upd d_length (adeedCount.toNatClampNeg) p3) (upd d_inDays (adeedCount.toNatClampNeg) p4))
set_option maxHeartbeats 4000000 in
set_option maxRecDepth 100000 in
theorem sX0_addDeed (l : Launch) (dC : Nat → ClassId) (dI : Nat → Nat → Nat) (sz : Nat) (h0 : Nat) (de : Nat) (da : Nat → Nat) (amonths : Int32) (afull : Int32) (alean : Int32) (alines : Int32) (ahasMoon : Int32) (amoonStart : Int32) (amoonStep : Int32) (aplaceCount : Int32) (areportCount : Int32) (adeedCount : Int32) (pl : Nat) (re : Nat) (kde : ClassId) (d_month : Nat → Int32) (d_day : Nat → Int32) (d_length : Nat → Int32) (d_inDays : Nat → Int32) (p1 : Int32) (p2 : Int32) (p3 : Int32) (p4 : Int32) (gamonths : gi amonths 0 24) (gafull : gi afull 0 5) (galean : gi alean 0 5) (gahasMoon : gi ahasMoon 0 1) (gaplaceCount : gi aplaceCount 0 6) (gareportCount : gi areportCount 0 24) (gadeedCount : gi adeedCount 0 8) (gd_month : ga d_month 8 0 23) (gd_length : ga d_length 8 0 600) (gd_inDays : ga d_inDays 8 0 1) (gp1 : gi p1 0 23) (gp3 : gi p3 0 600) (gp4 : gi p4 0 1) : Met l yX0_addDeed (.code yX0_addDeed cX0_addDeed 6 none :: wsGA) ({ frames := 0, cells := 0, slots := 0, locals := 0 }) (va_Pc [.ref h0, .int p1, .int p2, .int p3, .int p4] (fun U => U.heap.size = sz ∧ va_P (dC, dI) vwCl (([(h0, .inr (0, [.int amonths, .int afull, .int alean, .int alines, .int ahasMoon, .int amoonStart, .int amoonStep, .int aplaceCount, .int areportCount, .int adeedCount, .ref pl, .ref re, .ref de])), (de, .inl (kde, 8, .inr (.inr (.inr (.inr (fun i => some (da i)))))))] : va_W) ++ (gz_fam 8 da 2 (fun i => [.int (d_month i), .int (d_day i), .int (d_length i), .int (d_inDays i)]))) U.heap ∧ va_K (dC, dI) vwCl [(kde, .object RX2)] U ∧ va_D (fun _ => True) (([(h0, .inr (0, [.int amonths, .int afull, .int alean, .int alines, .int ahasMoon, .int amoonStart, .int amoonStep, .int aplaceCount, .int areportCount, .int adeedCount, .ref pl, .ref re, .ref de])), (de, .inl (kde, 8, .inr (.inr (.inr (.inr (fun i => some (da i)))))))] : va_W) ++ (gz_fam 8 da 2 (fun i => [.int (d_month i), .int (d_day i), .int (d_length i), .int (d_inDays i)]))) ∧ nzA U)) (va_Qv (fun (u : Unit) => True) (fun _ t => ∃ (w0_9 : Int32) (z2_0 : Nat → Int32) (z2_1 : Nat → Int32) (z2_2 : Nat → Int32) (z2_3 : Nat → Int32), gi w0_9 0 8 ∧ ga z2_0 8 0 23 ∧ ga z2_2 8 0 600 ∧ ga z2_3 8 0 1 ∧ (w0_9, z2_0, z2_1, z2_2, z2_3) = fX0_addDeed adeedCount d_month d_day d_length d_inDays p1 p2 p3 p4 ∧ va_P (dC, dI) vwCl (([(h0, .inr (0, [.int amonths, .int afull, .int alean, .int alines, .int ahasMoon, .int amoonStart, .int amoonStep, .int aplaceCount, .int areportCount, .int w0_9, .ref pl, .ref re, .ref de])), (de, .inl (kde, 8, .inr (.inr (.inr (.inr (fun i => some (da i)))))))] : va_W) ++ (gz_fam 8 da 2 (fun i => [.int (z2_0 i), .int (z2_1 i), .int (z2_2 i), .int (z2_3 i)]))) t.heap ∧ va_D (va_A (([(h0, .inr (0, [.int amonths, .int afull, .int alean, .int alines, .int ahasMoon, .int amoonStart, .int amoonStep, .int aplaceCount, .int areportCount, .int adeedCount, .ref pl, .ref re, .ref de])), (de, .inl (kde, 8, .inr (.inr (.inr (.inr (fun i => some (da i)))))))] : va_W) ++ (gz_fam 8 da 2 (fun i => [.int (d_month i), .int (d_day i), .int (d_length i), .int (d_inDays i)]))) sz) (([(h0, .inr (0, [.int amonths, .int afull, .int alean, .int alines, .int ahasMoon, .int amoonStart, .int amoonStep, .int aplaceCount, .int areportCount, .int w0_9, .ref pl, .ref re, .ref de])), (de, .inl (kde, 8, .inr (.inr (.inr (.inr (fun i => some (da i)))))))] : va_W) ++ (gz_fam 8 da 2 (fun i => [.int (z2_0 i), .int (z2_1 i), .int (z2_2 i), .int (z2_3 i)])))) (va_A (([(h0, .inr (0, [.int amonths, .int afull, .int alean, .int alines, .int ahasMoon, .int amoonStart, .int amoonStep, .int aplaceCount, .int areportCount, .int adeedCount, .ref pl, .ref re, .ref de])), (de, .inl (kde, 8, .inr (.inr (.inr (.inr (fun i => some (da i)))))))] : va_W) ++ (gz_fam 8 da 2 (fun i => [.int (d_month i), .int (d_day i), .int (d_length i), .int (d_inDays i)]))) sz)) 0 0 (va_A (([(h0, .inr (0, [.int amonths, .int afull, .int alean, .int alines, .int ahasMoon, .int amoonStart, .int amoonStep, .int aplaceCount, .int areportCount, .int adeedCount, .ref pl, .ref re, .ref de])), (de, .inl (kde, 8, .inr (.inr (.inr (.inr (fun i => some (da i)))))))] : va_W) ++ (gz_fam 8 da 2 (fun i => [.int (d_month i), .int (d_day i), .int (d_length i), .int (d_inDays i)]))) sz) := by
  refine Met.ofW (cc := cX0_addDeed) (maxL := 6) (ret := none) (by decide) rfl ?_
  intro p e s m args below meth c s₁ B hml hv
  obtain ⟨rfl, hsz, hP, hK, hD0, hz⟩ := hv
  have hx := B.exec
  have hb := B.bytes
  have hr := B.returns
  have hts := atoms_spec (ws := (.code yX0_addDeed cX0_addDeed 6 none :: wsGA)) B.pre
  have hown : s.vm.findClass RX0 = some m.cls := findClass_of_methodNamed B.named
  have hlocks := B.notSynchronized
  subst hsz
  have hD := hD0.self (sz := s.heap.size)
  generalize hAe : va_A (([(h0, .inr (0, [.int amonths, .int afull, .int alean, .int alines, .int ahasMoon, .int amoonStart, .int amoonStep, .int aplaceCount, .int areportCount, .int adeedCount, .ref pl, .ref re, .ref de])), (de, .inl (kde, 8, .inr (.inr (.inr (.inr (fun i => some (da i)))))))] : va_W) ++ (gz_fam 8 da 2 (fun i => [.int (d_month i), .int (d_day i), .int (d_length i), .int (d_inDays i)]))) s.heap.size = A at hD ⊢
  have hA : ∀ q : Nat, s.heap.size ≤ q → A q := fun q h => by rw [← hAe]; exact Or.inr h
  have hS : va_S A s.heap s.heap [] := va_S.rf
  have hl := lv_entry ([.ref h0, .int p1, .int p2, .int p3, .int p4]) (n := 6) (Nat.le_of_ble_eq_true rfl)
  rw [lg_entry_eq]
  generalize (lg_sl ([.ref h0, .int p1, .int p2, .int p3, .int p4]) ++ List.replicate (6 - (lg_sl ([.ref h0, .int p1, .int p2, .int p3, .int p4])).length) Slot.unset).toArray = ls at hl ⊢
  have hl : lv_has ls 6 [(0, .ref h0), (1, .int p1), (2, .int p2), (3, .int p3), (4, .int p4)] := hl
  obtain ⟨RES, hF⟩ : ∃ R9, fX0_addDeed adeedCount d_month d_day d_length d_inDays p1 p2 p3 p4 = R9 := ⟨_, rfl⟩
  have hR9 := hF
  refine lv_aload_n hx hb dX0_addDeed_0 rfl (lv_at hl 0 rfl) ?_
  refine va_get (D := (dC, dI)) (ci := 0) (v := .int adeedCount) (C := RX0) (T := TX0) (N := 13) hx hb hts (fun w h => List.mem_cons_of_mem _ (jnGA_X0 w h)) hown hK hP 0 rfl rfl 9 (by decide) (hts _ (List.mem_cons_of_mem _ mGA_161)) (fun _ h9 => h9) rfl dX0_addDeed_1 ?_
  refine lv_bipush (v := 8) hx hb dX0_addDeed_4 (by decide) ?_
  refine lv_icmp_ge (tgt := 55) hx hb dX0_addDeed_6 (by decide) (fun c_17 => ?_) (fun c_17 => ?_)
  · have hF := gf_pos c_17 hF
    have g_18 : gi adeedCount 8 8 := gi_le_r c_17 (gi_c 8 8 (by decide)) gadeedCount
    exact W.vret hx hb hr (fun t ht hW => ⟨⟨(), rfl, trivial, adeedCount, d_month, d_day, d_length, d_inDays, (gi_w g_18 (by decide)), gd_month, gd_length, gd_inDays, hF.trans hR9.symm, by rw [ht]; exact hP, hD⟩, hS.F ht⟩) hS.2.2 dX0_addDeed_55
  · have hF := gf_neg c_17 hF
    have g_19 : gi adeedCount 0 7 := gi_lt_l (Int32.not_le.mp c_17) gadeedCount (gi_c 8 8 (by decide)) (by decide)
    refine lv_aload_n hx hb dX0_addDeed_9 rfl (lv_at hl 0 rfl) ?_
    refine va_get (D := (dC, dI)) (ci := 0) (v := .ref de) (C := RX0) (T := TX0) (N := 13) hx hb hts (fun w h => List.mem_cons_of_mem _ (jnGA_X0 w h)) hown hK hP 0 rfl rfl 12 (by decide) (hts _ (List.mem_cons_of_mem _ mGA_74)) (fun _ h9 => h9) rfl dX0_addDeed_10 ?_
    refine lv_aload_n hx hb dX0_addDeed_13 rfl (lv_at hl 0 rfl) ?_
    refine va_get (D := (dC, dI)) (ci := 0) (v := .int adeedCount) (C := RX0) (T := TX0) (N := 13) hx hb hts (fun w h => List.mem_cons_of_mem _ (jnGA_X0 w h)) hown hK hP 0 rfl rfl 9 (by decide) (hts _ (List.mem_cons_of_mem _ mGA_161)) (fun _ h9 => h9) rfl dX0_addDeed_14 ?_
    refine va_aldq hx hb hK hP 1 0 rfl rfl (gi_in g_19 (by decide)) dX0_addDeed_17 ?_
    refine W.eq (g2 := F0 m 18 ls [.ref (da adeedCount.toNatClampNeg)]) rfl ?_
    refine lv_astore (lv' := [(5, .ref (da adeedCount.toNatClampNeg)), (0, .ref h0), (1, .int p1), (2, .int p2), (3, .int p3), (4, .int p4)]) hx hb dX0_addDeed_18 hl (by decide) rfl (fun ls hl => ?_)
    refine lv_aload hx hb dX0_addDeed_20 (lv_at hl 0 rfl) ?_
    refine lv_iload_n hx hb dX0_addDeed_22 rfl (lv_at hl 2 rfl) ?_
    refine va_put (D := (dC, dI)) (ci := 2) (v := .int p1) (ty := .int) (C := RX2) (T := TX2) (N := 4) hx hb hts (fun w h => List.mem_cons_of_mem _ (jnGA_X2 w h)) tyX2 tyX2_ok nmX2 hown hK hP hD hS (List.length [(h0, .inr (0, [.int amonths, .int afull, .int alean, .int alines, .int ahasMoon, .int amoonStart, .int amoonStep, .int aplaceCount, .int areportCount, .int adeedCount, .ref pl, .ref re, .ref de])), (de, .inl (kde, 8, .inr (.inr (.inr (.inr (fun i => some (da i)))))))] + adeedCount.toNatClampNeg) (gz_famW3 (X := [(h0, .inr (0, [.int amonths, .int afull, .int alean, .int alines, .int ahasMoon, .int amoonStart, .int amoonStep, .int aplaceCount, .int areportCount, .int adeedCount, .ref pl, .ref re, .ref de])), (de, .inl (kde, 8, .inr (.inr (.inr (.inr (fun i => some (da i)))))))]) ((List.append_nil _).symm) (gz_clt (gi_in (n := 8) g_19 (by decide)))) rfl 0 (by decide) (hts _ (List.mem_cons_of_mem _ mGA_332)) (fun _ h9 => h9) rfl (by decide +kernel) rfl rfl (Nat.le_of_ble_eq_true rfl) dX0_addDeed_23 (fun H locs hP hD hS => ?_)
    have hP : va_P (dC, dI) vwCl (([(h0, .inr (0, [.int amonths, .int afull, .int alean, .int alines, .int ahasMoon, .int amoonStart, .int amoonStep, .int aplaceCount, .int areportCount, .int adeedCount, .ref pl, .ref re, .ref de])), (de, .inl (kde, 8, .inr (.inr (.inr (.inr (fun i => some (da i)))))))] : va_W) ++ (gz_fam 8 da 2 (fun i => [.int ((upd d_month (adeedCount.toNatClampNeg) p1) i), .int (d_day i), .int (d_length i), .int (d_inDays i)]))) H := gz_famP (X := [(h0, .inr (0, [.int amonths, .int afull, .int alean, .int alines, .int ahasMoon, .int amoonStart, .int amoonStep, .int aplaceCount, .int areportCount, .int adeedCount, .ref pl, .ref re, .ref de])), (de, .inl (kde, 8, .inr (.inr (.inr (.inr (fun i => some (da i)))))))]) ((List.append_nil _).symm) ((List.append_nil _).symm) (gz_clt (gi_in (n := 8) g_19 (by decide))) (by simp [upd]) (fun i hi => by simp [upd, hi]) hP
    have hD : va_D A (([(h0, .inr (0, [.int amonths, .int afull, .int alean, .int alines, .int ahasMoon, .int amoonStart, .int amoonStep, .int aplaceCount, .int areportCount, .int adeedCount, .ref pl, .ref re, .ref de])), (de, .inl (kde, 8, .inr (.inr (.inr (.inr (fun i => some (da i)))))))] : va_W) ++ (gz_fam 8 da 2 (fun i => [.int ((upd d_month (adeedCount.toNatClampNeg) p1) i), .int (d_day i), .int (d_length i), .int (d_inDays i)]))) := gz_famD (X := [(h0, .inr (0, [.int amonths, .int afull, .int alean, .int alines, .int ahasMoon, .int amoonStart, .int amoonStep, .int aplaceCount, .int areportCount, .int adeedCount, .ref pl, .ref re, .ref de])), (de, .inl (kde, 8, .inr (.inr (.inr (.inr (fun i => some (da i)))))))]) ((List.append_nil _).symm) ((List.append_nil _).symm) (gz_clt (gi_in (n := 8) g_19 (by decide))) (by simp [upd]) (fun i hi => by simp [upd, hi]) hD
    have gf_20 : ga (upd d_month (adeedCount.toNatClampNeg) p1) 8 0 23 := ga_upd gd_month gp1
    generalize ef_20 : upd d_month (adeedCount.toNatClampNeg) p1 = f_20 at hP hD gf_20
    have hP : va_P (dC, dI) vwCl (([(h0, .inr (0, [.int amonths, .int afull, .int alean, .int alines, .int ahasMoon, .int amoonStart, .int amoonStep, .int aplaceCount, .int areportCount, .int adeedCount, .ref pl, .ref re, .ref de])), (de, .inl (kde, 8, .inr (.inr (.inr (.inr (fun i => some (da i)))))))] : va_W) ++ (gz_fam 8 da 2 (fun i => [.int (f_20 i), .int (d_day i), .int (d_length i), .int (d_inDays i)]))) H := hP
    have hD : va_D A (([(h0, .inr (0, [.int amonths, .int afull, .int alean, .int alines, .int ahasMoon, .int amoonStart, .int amoonStep, .int aplaceCount, .int areportCount, .int adeedCount, .ref pl, .ref re, .ref de])), (de, .inl (kde, 8, .inr (.inr (.inr (.inr (fun i => some (da i)))))))] : va_W) ++ (gz_fam 8 da 2 (fun i => [.int (f_20 i), .int (d_day i), .int (d_length i), .int (d_inDays i)]))) := hD
    refine lv_aload hx hb dX0_addDeed_26 (lv_at hl 0 rfl) ?_
    refine lv_iload_n hx hb dX0_addDeed_28 rfl (lv_at hl 3 rfl) ?_
    refine va_put (D := (dC, dI)) (ci := 2) (v := .int p2) (ty := .int) (C := RX2) (T := TX2) (N := 4) hx hb hts (fun w h => List.mem_cons_of_mem _ (jnGA_X2 w h)) tyX2 tyX2_ok nmX2 hown hK hP hD hS (List.length [(h0, .inr (0, [.int amonths, .int afull, .int alean, .int alines, .int ahasMoon, .int amoonStart, .int amoonStep, .int aplaceCount, .int areportCount, .int adeedCount, .ref pl, .ref re, .ref de])), (de, .inl (kde, 8, .inr (.inr (.inr (.inr (fun i => some (da i)))))))] + adeedCount.toNatClampNeg) (gz_famW3 (X := [(h0, .inr (0, [.int amonths, .int afull, .int alean, .int alines, .int ahasMoon, .int amoonStart, .int amoonStep, .int aplaceCount, .int areportCount, .int adeedCount, .ref pl, .ref re, .ref de])), (de, .inl (kde, 8, .inr (.inr (.inr (.inr (fun i => some (da i)))))))]) ((List.append_nil _).symm) (gz_clt (gi_in (n := 8) g_19 (by decide)))) rfl 1 (by decide) (hts _ (List.mem_cons_of_mem _ mGA_333)) (fun _ h9 => h9) rfl (by decide +kernel) rfl rfl (Nat.le_of_ble_eq_true rfl) dX0_addDeed_29 (fun H locs hP hD hS => ?_)
    have hP : va_P (dC, dI) vwCl (([(h0, .inr (0, [.int amonths, .int afull, .int alean, .int alines, .int ahasMoon, .int amoonStart, .int amoonStep, .int aplaceCount, .int areportCount, .int adeedCount, .ref pl, .ref re, .ref de])), (de, .inl (kde, 8, .inr (.inr (.inr (.inr (fun i => some (da i)))))))] : va_W) ++ (gz_fam 8 da 2 (fun i => [.int (f_20 i), .int ((upd d_day (adeedCount.toNatClampNeg) p2) i), .int (d_length i), .int (d_inDays i)]))) H := gz_famP (X := [(h0, .inr (0, [.int amonths, .int afull, .int alean, .int alines, .int ahasMoon, .int amoonStart, .int amoonStep, .int aplaceCount, .int areportCount, .int adeedCount, .ref pl, .ref re, .ref de])), (de, .inl (kde, 8, .inr (.inr (.inr (.inr (fun i => some (da i)))))))]) ((List.append_nil _).symm) ((List.append_nil _).symm) (gz_clt (gi_in (n := 8) g_19 (by decide))) (by simp [upd]) (fun i hi => by simp [upd, hi]) hP
    have hD : va_D A (([(h0, .inr (0, [.int amonths, .int afull, .int alean, .int alines, .int ahasMoon, .int amoonStart, .int amoonStep, .int aplaceCount, .int areportCount, .int adeedCount, .ref pl, .ref re, .ref de])), (de, .inl (kde, 8, .inr (.inr (.inr (.inr (fun i => some (da i)))))))] : va_W) ++ (gz_fam 8 da 2 (fun i => [.int (f_20 i), .int ((upd d_day (adeedCount.toNatClampNeg) p2) i), .int (d_length i), .int (d_inDays i)]))) := gz_famD (X := [(h0, .inr (0, [.int amonths, .int afull, .int alean, .int alines, .int ahasMoon, .int amoonStart, .int amoonStep, .int aplaceCount, .int areportCount, .int adeedCount, .ref pl, .ref re, .ref de])), (de, .inl (kde, 8, .inr (.inr (.inr (.inr (fun i => some (da i)))))))]) ((List.append_nil _).symm) ((List.append_nil _).symm) (gz_clt (gi_in (n := 8) g_19 (by decide))) (by simp [upd]) (fun i hi => by simp [upd, hi]) hD
    generalize ef_21 : upd d_day (adeedCount.toNatClampNeg) p2 = f_21 at hP hD
    have hP : va_P (dC, dI) vwCl (([(h0, .inr (0, [.int amonths, .int afull, .int alean, .int alines, .int ahasMoon, .int amoonStart, .int amoonStep, .int aplaceCount, .int areportCount, .int adeedCount, .ref pl, .ref re, .ref de])), (de, .inl (kde, 8, .inr (.inr (.inr (.inr (fun i => some (da i)))))))] : va_W) ++ (gz_fam 8 da 2 (fun i => [.int (f_20 i), .int (f_21 i), .int (d_length i), .int (d_inDays i)]))) H := hP
    have hD : va_D A (([(h0, .inr (0, [.int amonths, .int afull, .int alean, .int alines, .int ahasMoon, .int amoonStart, .int amoonStep, .int aplaceCount, .int areportCount, .int adeedCount, .ref pl, .ref re, .ref de])), (de, .inl (kde, 8, .inr (.inr (.inr (.inr (fun i => some (da i)))))))] : va_W) ++ (gz_fam 8 da 2 (fun i => [.int (f_20 i), .int (f_21 i), .int (d_length i), .int (d_inDays i)]))) := hD
    refine lv_aload hx hb dX0_addDeed_32 (lv_at hl 0 rfl) ?_
    refine lv_iload_n hx hb dX0_addDeed_34 rfl (lv_at hl 4 rfl) ?_
    refine va_put (D := (dC, dI)) (ci := 2) (v := .int p3) (ty := .int) (C := RX2) (T := TX2) (N := 4) hx hb hts (fun w h => List.mem_cons_of_mem _ (jnGA_X2 w h)) tyX2 tyX2_ok nmX2 hown hK hP hD hS (List.length [(h0, .inr (0, [.int amonths, .int afull, .int alean, .int alines, .int ahasMoon, .int amoonStart, .int amoonStep, .int aplaceCount, .int areportCount, .int adeedCount, .ref pl, .ref re, .ref de])), (de, .inl (kde, 8, .inr (.inr (.inr (.inr (fun i => some (da i)))))))] + adeedCount.toNatClampNeg) (gz_famW3 (X := [(h0, .inr (0, [.int amonths, .int afull, .int alean, .int alines, .int ahasMoon, .int amoonStart, .int amoonStep, .int aplaceCount, .int areportCount, .int adeedCount, .ref pl, .ref re, .ref de])), (de, .inl (kde, 8, .inr (.inr (.inr (.inr (fun i => some (da i)))))))]) ((List.append_nil _).symm) (gz_clt (gi_in (n := 8) g_19 (by decide)))) rfl 2 (by decide) (hts _ (List.mem_cons_of_mem _ mGA_334)) (fun _ h9 => h9) rfl (by decide +kernel) rfl rfl (Nat.le_of_ble_eq_true rfl) dX0_addDeed_35 (fun H locs hP hD hS => ?_)
    have hP : va_P (dC, dI) vwCl (([(h0, .inr (0, [.int amonths, .int afull, .int alean, .int alines, .int ahasMoon, .int amoonStart, .int amoonStep, .int aplaceCount, .int areportCount, .int adeedCount, .ref pl, .ref re, .ref de])), (de, .inl (kde, 8, .inr (.inr (.inr (.inr (fun i => some (da i)))))))] : va_W) ++ (gz_fam 8 da 2 (fun i => [.int (f_20 i), .int (f_21 i), .int ((upd d_length (adeedCount.toNatClampNeg) p3) i), .int (d_inDays i)]))) H := gz_famP (X := [(h0, .inr (0, [.int amonths, .int afull, .int alean, .int alines, .int ahasMoon, .int amoonStart, .int amoonStep, .int aplaceCount, .int areportCount, .int adeedCount, .ref pl, .ref re, .ref de])), (de, .inl (kde, 8, .inr (.inr (.inr (.inr (fun i => some (da i)))))))]) ((List.append_nil _).symm) ((List.append_nil _).symm) (gz_clt (gi_in (n := 8) g_19 (by decide))) (by simp [upd]) (fun i hi => by simp [upd, hi]) hP
    have hD : va_D A (([(h0, .inr (0, [.int amonths, .int afull, .int alean, .int alines, .int ahasMoon, .int amoonStart, .int amoonStep, .int aplaceCount, .int areportCount, .int adeedCount, .ref pl, .ref re, .ref de])), (de, .inl (kde, 8, .inr (.inr (.inr (.inr (fun i => some (da i)))))))] : va_W) ++ (gz_fam 8 da 2 (fun i => [.int (f_20 i), .int (f_21 i), .int ((upd d_length (adeedCount.toNatClampNeg) p3) i), .int (d_inDays i)]))) := gz_famD (X := [(h0, .inr (0, [.int amonths, .int afull, .int alean, .int alines, .int ahasMoon, .int amoonStart, .int amoonStep, .int aplaceCount, .int areportCount, .int adeedCount, .ref pl, .ref re, .ref de])), (de, .inl (kde, 8, .inr (.inr (.inr (.inr (fun i => some (da i)))))))]) ((List.append_nil _).symm) ((List.append_nil _).symm) (gz_clt (gi_in (n := 8) g_19 (by decide))) (by simp [upd]) (fun i hi => by simp [upd, hi]) hD
    have gf_22 : ga (upd d_length (adeedCount.toNatClampNeg) p3) 8 0 600 := ga_upd gd_length gp3
    generalize ef_22 : upd d_length (adeedCount.toNatClampNeg) p3 = f_22 at hP hD gf_22
    have hP : va_P (dC, dI) vwCl (([(h0, .inr (0, [.int amonths, .int afull, .int alean, .int alines, .int ahasMoon, .int amoonStart, .int amoonStep, .int aplaceCount, .int areportCount, .int adeedCount, .ref pl, .ref re, .ref de])), (de, .inl (kde, 8, .inr (.inr (.inr (.inr (fun i => some (da i)))))))] : va_W) ++ (gz_fam 8 da 2 (fun i => [.int (f_20 i), .int (f_21 i), .int (f_22 i), .int (d_inDays i)]))) H := hP
    have hD : va_D A (([(h0, .inr (0, [.int amonths, .int afull, .int alean, .int alines, .int ahasMoon, .int amoonStart, .int amoonStep, .int aplaceCount, .int areportCount, .int adeedCount, .ref pl, .ref re, .ref de])), (de, .inl (kde, 8, .inr (.inr (.inr (.inr (fun i => some (da i)))))))] : va_W) ++ (gz_fam 8 da 2 (fun i => [.int (f_20 i), .int (f_21 i), .int (f_22 i), .int (d_inDays i)]))) := hD
    refine lv_aload hx hb dX0_addDeed_38 (lv_at hl 0 rfl) ?_
    refine lv_iload hx hb dX0_addDeed_40 (lv_at hl 5 rfl) ?_
    refine va_put (D := (dC, dI)) (ci := 2) (v := .int p4) (ty := .boolean) (C := RX2) (T := TX2) (N := 4) hx hb hts (fun w h => List.mem_cons_of_mem _ (jnGA_X2 w h)) tyX2 tyX2_ok nmX2 hown hK hP hD hS (List.length [(h0, .inr (0, [.int amonths, .int afull, .int alean, .int alines, .int ahasMoon, .int amoonStart, .int amoonStep, .int aplaceCount, .int areportCount, .int adeedCount, .ref pl, .ref re, .ref de])), (de, .inl (kde, 8, .inr (.inr (.inr (.inr (fun i => some (da i)))))))] + adeedCount.toNatClampNeg) (gz_famW3 (X := [(h0, .inr (0, [.int amonths, .int afull, .int alean, .int alines, .int ahasMoon, .int amoonStart, .int amoonStep, .int aplaceCount, .int areportCount, .int adeedCount, .ref pl, .ref re, .ref de])), (de, .inl (kde, 8, .inr (.inr (.inr (.inr (fun i => some (da i)))))))]) ((List.append_nil _).symm) (gz_clt (gi_in (n := 8) g_19 (by decide)))) rfl 3 (by decide) (hts _ (List.mem_cons_of_mem _ mGA_335)) (fun _ h9 => h9) rfl (by decide +kernel) (gz_nb gp4) (gz_fb gp4) (Nat.le_of_ble_eq_true rfl) dX0_addDeed_42 (fun H locs hP hD hS => ?_)
    have hP : va_P (dC, dI) vwCl (([(h0, .inr (0, [.int amonths, .int afull, .int alean, .int alines, .int ahasMoon, .int amoonStart, .int amoonStep, .int aplaceCount, .int areportCount, .int adeedCount, .ref pl, .ref re, .ref de])), (de, .inl (kde, 8, .inr (.inr (.inr (.inr (fun i => some (da i)))))))] : va_W) ++ (gz_fam 8 da 2 (fun i => [.int (f_20 i), .int (f_21 i), .int (f_22 i), .int ((upd d_inDays (adeedCount.toNatClampNeg) p4) i)]))) H := gz_famP (X := [(h0, .inr (0, [.int amonths, .int afull, .int alean, .int alines, .int ahasMoon, .int amoonStart, .int amoonStep, .int aplaceCount, .int areportCount, .int adeedCount, .ref pl, .ref re, .ref de])), (de, .inl (kde, 8, .inr (.inr (.inr (.inr (fun i => some (da i)))))))]) ((List.append_nil _).symm) ((List.append_nil _).symm) (gz_clt (gi_in (n := 8) g_19 (by decide))) (by simp [upd]) (fun i hi => by simp [upd, hi]) hP
    have hD : va_D A (([(h0, .inr (0, [.int amonths, .int afull, .int alean, .int alines, .int ahasMoon, .int amoonStart, .int amoonStep, .int aplaceCount, .int areportCount, .int adeedCount, .ref pl, .ref re, .ref de])), (de, .inl (kde, 8, .inr (.inr (.inr (.inr (fun i => some (da i)))))))] : va_W) ++ (gz_fam 8 da 2 (fun i => [.int (f_20 i), .int (f_21 i), .int (f_22 i), .int ((upd d_inDays (adeedCount.toNatClampNeg) p4) i)]))) := gz_famD (X := [(h0, .inr (0, [.int amonths, .int afull, .int alean, .int alines, .int ahasMoon, .int amoonStart, .int amoonStep, .int aplaceCount, .int areportCount, .int adeedCount, .ref pl, .ref re, .ref de])), (de, .inl (kde, 8, .inr (.inr (.inr (.inr (fun i => some (da i)))))))]) ((List.append_nil _).symm) ((List.append_nil _).symm) (gz_clt (gi_in (n := 8) g_19 (by decide))) (by simp [upd]) (fun i hi => by simp [upd, hi]) hD
    have gf_23 : ga (upd d_inDays (adeedCount.toNatClampNeg) p4) 8 0 1 := ga_upd gd_inDays gp4
    generalize ef_23 : upd d_inDays (adeedCount.toNatClampNeg) p4 = f_23 at hP hD gf_23
    have hP : va_P (dC, dI) vwCl (([(h0, .inr (0, [.int amonths, .int afull, .int alean, .int alines, .int ahasMoon, .int amoonStart, .int amoonStep, .int aplaceCount, .int areportCount, .int adeedCount, .ref pl, .ref re, .ref de])), (de, .inl (kde, 8, .inr (.inr (.inr (.inr (fun i => some (da i)))))))] : va_W) ++ (gz_fam 8 da 2 (fun i => [.int (f_20 i), .int (f_21 i), .int (f_22 i), .int (f_23 i)]))) H := hP
    have hD : va_D A (([(h0, .inr (0, [.int amonths, .int afull, .int alean, .int alines, .int ahasMoon, .int amoonStart, .int amoonStep, .int aplaceCount, .int areportCount, .int adeedCount, .ref pl, .ref re, .ref de])), (de, .inl (kde, 8, .inr (.inr (.inr (.inr (fun i => some (da i)))))))] : va_W) ++ (gz_fam 8 da 2 (fun i => [.int (f_20 i), .int (f_21 i), .int (f_22 i), .int (f_23 i)]))) := hD
    refine lv_aload_n hx hb dX0_addDeed_45 rfl (lv_at hl 1 rfl) ?_
    refine lv_dup hx hb dX0_addDeed_46 rfl ?_
    refine va_get (D := (dC, dI)) (ci := 0) (v := .int adeedCount) (C := RX0) (T := TX0) (N := 13) hx hb hts (fun w h => List.mem_cons_of_mem _ (jnGA_X0 w h)) hown hK hP 0 rfl rfl 9 (by decide) (hts _ (List.mem_cons_of_mem _ mGA_161)) (fun _ h9 => h9) rfl dX0_addDeed_47 ?_
    refine lv_iconst (v := 1) hx hb dX0_addDeed_50 (by decide) ?_
    refine lv_iadd hx hb dX0_addDeed_51 ?_
    refine lv_topi (fun x_24 ex_24 => ?_)
    have gx_24 : gi x_24 1 8 := gi_add ex_24 g_19 (gi_c 1 1 (by decide)) (by decide)
    refine va_put (D := (dC, dI)) (ci := 0) (v := .int x_24) (ty := .int) (C := RX0) (T := TX0) (N := 13) hx hb hts (fun w h => List.mem_cons_of_mem _ (jnGA_X0 w h)) tyX0 tyX0_ok nmX0 hown hK hP hD hS 0 rfl rfl 9 (by decide) (hts _ (List.mem_cons_of_mem _ mGA_161)) (fun _ h9 => h9) rfl (by decide +kernel) rfl rfl (Nat.le_of_ble_eq_true rfl) dX0_addDeed_52 (fun H locs hP hD hS => ?_)
    have hP : va_P (dC, dI) vwCl (([(h0, .inr (0, [.int amonths, .int afull, .int alean, .int alines, .int ahasMoon, .int amoonStart, .int amoonStep, .int aplaceCount, .int areportCount, .int x_24, .ref pl, .ref re, .ref de])), (de, .inl (kde, 8, .inr (.inr (.inr (.inr (fun i => some (da i)))))))] : va_W) ++ (gz_fam 8 da 2 (fun i => [.int (f_20 i), .int (f_21 i), .int (f_22 i), .int (f_23 i)]))) H := hP
    have hD : va_D A (([(h0, .inr (0, [.int amonths, .int afull, .int alean, .int alines, .int ahasMoon, .int amoonStart, .int amoonStep, .int aplaceCount, .int areportCount, .int x_24, .ref pl, .ref re, .ref de])), (de, .inl (kde, 8, .inr (.inr (.inr (.inr (fun i => some (da i)))))))] : va_W) ++ (gz_fam 8 da 2 (fun i => [.int (f_20 i), .int (f_21 i), .int (f_22 i), .int (f_23 i)]))) := hD
    exact W.vret hx hb hr (fun t ht hW => ⟨⟨(), rfl, trivial, x_24, f_20, f_21, f_22, f_23, (gi_w gx_24 (by decide)), gf_20, gf_22, gf_23, by rw [ex_24, ← ef_23, ← ef_22, ← ef_21, ← ef_20]; exact hF.trans hR9.symm, by rw [ht]; exact hP, hD⟩, hS.F ht⟩) hS.2.2 dX0_addDeed_55
theorem dX12_isAt_0 : decode cX12_isAt 0 = .ok (.aload_n 0, 1) := by decide +kernel
theorem dX12_isAt_1 : decode cX12_isAt 1 = .ok (.getfield 151, 3) := by decide +kernel
theorem dX12_isAt_4 : decode cX12_isAt 4 = .ok (.aload_n 0, 1) := by decide +kernel
theorem dX12_isAt_5 : decode cX12_isAt 5 = .ok (.getfield 99, 3) := by decide +kernel
theorem dX12_isAt_8 : decode cX12_isAt 8 = .ok (.if_icmp .ge 27, 3) := by decide +kernel
theorem dX12_isAt_11 : decode cX12_isAt 11 = .ok (.aload_n 0, 1) := by decide +kernel
theorem dX12_isAt_12 : decode cX12_isAt 12 = .ok (.getfield 50, 3) := by decide +kernel
theorem dX12_isAt_15 : decode cX12_isAt 15 = .ok (.aload_n 0, 1) := by decide +kernel
theorem dX12_isAt_16 : decode cX12_isAt 16 = .ok (.getfield 151, 3) := by decide +kernel
theorem dX12_isAt_19 : decode cX12_isAt 19 = .ok (.iaload, 1) := by decide +kernel
theorem dX12_isAt_20 : decode cX12_isAt 20 = .ok (.i2l, 1) := by decide +kernel
theorem dX12_isAt_21 : decode cX12_isAt 21 = .ok (.iload_n 1, 1) := by decide +kernel
theorem dX12_isAt_22 : decode cX12_isAt 22 = .ok (.i2l, 1) := by decide +kernel
theorem dX12_isAt_23 : decode cX12_isAt 23 = .ok (.iload_n 2, 1) := by decide +kernel
theorem dX12_isAt_24 : decode cX12_isAt 24 = .ok (.i2l, 1) := by decide +kernel
theorem dX12_isAt_25 : decode cX12_isAt 25 = .ok (.invokestatic 102, 3) := by decide +kernel
theorem dX12_isAt_28 : decode cX12_isAt 28 = .ok (.ifCond .eq 7, 3) := by decide +kernel
theorem dX12_isAt_31 : decode cX12_isAt 31 = .ok (.iconst 1, 1) := by decide +kernel
theorem dX12_isAt_32 : decode cX12_isAt 32 = .ok (.goto 4, 3) := by decide +kernel
theorem dX12_isAt_35 : decode cX12_isAt 35 = .ok (.iconst 0, 1) := by decide +kernel
theorem dX12_isAt_36 : decode cX12_isAt 36 = .ok (.ireturn, 1) := by decide +kernel
noncomputable def bfX12_isAt_36 (mi : Nat → Int32) (fm_tape : Nat → Int32) (p1 : Int32) (p2 : Int32) (s0 : Int32) : Int32 := s0
noncomputable def bfX12_isAt_35 (mi : Nat → Int32) (fm_tape : Nat → Int32) (p1 : Int32) (p2 : Int32) : Int32 := bfX12_isAt_36 mi fm_tape p1 p2 (0 : Int32)
noncomputable def fX12_isAt (mi : Nat → Int32) (fm_tape : Nat → Int32) (p1 : Int32) (p2 : Int32) : Int32 := if (mi 26) ≤ (mi 29) then (bfX12_isAt_35 mi fm_tape p1 p2) else (cal (fun o1 => if o1 = (0 : Int32) then (bfX12_isAt_35 mi fm_tape p1 p2) else (bfX12_isAt_36 mi fm_tape p1 p2 (1 : Int32))) (fX12_in ((fm_tape (mi 29).toNatClampNeg).toInt64) (p1.toInt64) (p2.toInt64)))
set_option maxHeartbeats 4000000 in
set_option maxRecDepth 100000 in
theorem sX12_isAtP (l : Launch) (dC : Nat → ClassId) (dI : Nat → Nat → Nat) (h0 : Nat) (mi : Nat → Int32) (mr : Nat → Nat) (km_tape : ClassId) (fm_tape : Nat → Int32) (p1 : Int32) (p2 : Int32) (gmi_0 : gi (mi 0) 0 100000) (gmi_1 : gi (mi 1) 0 100000) (gmi_2 : gi (mi 2) 0 100000) (gmi_4 : gi (mi 4) 0 1) (gmi_7 : gi (mi 7) 0 6) (gmi_10 : gi (mi 10) 0 24) (gmi_17 : gi (mi 17) 0 8) (gmi_23 : gi (mi 23) 0 300) (gmi_24 : gi (mi 24) 0 1) (gmi_26 : gi (mi 26) 0 1600) (gmi_29 : gi (mi 29) 0 1600) (gmi_30 : gi (mi 30) 0 1600) (gmi_32 : gi (mi 32) 0 100000) (gmi_33 : gi (mi 33) 0 1) (gmi_37 : gi (mi 37) 0 1) (gmi_41 : gi (mi 41) 0 24) (gmi_50 : gi (mi 50) 0 1) (gmi_51 : gi (mi 51) 0 1) (gmi_56 : gi (mi 56) 0 80) : Met l yX12_isAt (.code yX12_isAt cX12_isAt 3 (some .boolean) :: wsGB) ({ frames := 1, cells := 0, slots := 0, locals := 25 }) (va_Pc [.ref h0, .int p1, .int p2] (fun U => va_P (dC, dI) vwCl [(h0, .inr (12, fsMM mi mr)), ((mr 13), .inl (km_tape, 1600, .inl fm_tape))] U.heap ∧ va_K (dC, dI) vwCl [(km_tape, .int)] U)) (va_Qi (fun (r : Int32) (u : Unit) => (gi r 0 1 ∧ (r.toInt = 1 → ((mi 29).toInt < (mi 26).toInt ∧ p1.toInt ≤ (fm_tape (mi 29).toNatClampNeg).toInt ∧ (fm_tape (mi 29).toNatClampNeg).toInt ≤ p2.toInt)) ∧ (r.toInt = 0 → ((mi 26).toInt ≤ (mi 29).toInt ∨ (fm_tape (mi 29).toNatClampNeg).toInt < p1.toInt ∨ p2.toInt < (fm_tape (mi 29).toNatClampNeg).toInt))) ∧ r = fX12_isAt mi fm_tape p1 p2) (fun _ _ => True) (fun _ => False)) 0 0 (fun _ => False) := by
  refine Met.ofW (cc := cX12_isAt) (maxL := 3) (ret := (some .boolean)) (by decide) rfl ?_
  intro p e s m args below meth c s₁ B hml hv
  obtain ⟨rfl, hP, hK⟩ := hv
  have hx := B.exec
  have hb := B.bytes
  have hr := B.returns
  have hts := atoms_spec (ws := (.code yX12_isAt cX12_isAt 3 (some .boolean) :: wsGB)) B.pre
  have hown : s.vm.findClass RX12 = some m.cls := findClass_of_methodNamed B.named
  have hlocks := B.notSynchronized
  have hS : va_S (fun _ => False) s.heap s.heap [] := va_S.rf
  have hl := lv_entry ([.ref h0, .int p1, .int p2]) (n := 3) (Nat.le_of_ble_eq_true rfl)
  rw [lg_entry_eq]
  generalize (lg_sl ([.ref h0, .int p1, .int p2]) ++ List.replicate (3 - (lg_sl ([.ref h0, .int p1, .int p2])).length) Slot.unset).toArray = ls at hl ⊢
  have hl : lv_has ls 3 [(0, .ref h0), (1, .int p1), (2, .int p2)] := hl
  obtain ⟨RES, hF⟩ : ∃ R9, fX12_isAt mi fm_tape p1 p2 = R9 := ⟨_, rfl⟩
  have hR9 := hF
  refine lv_aload_n hx hb dX12_isAt_0 rfl (lv_at hl 0 rfl) ?_
  refine va_get (D := (dC, dI)) (ci := 12) (v := .int (mi 29)) (C := RX12) (T := TX12) (N := 57) hx hb hts (fun w h => List.mem_cons_of_mem _ (jnGB_X12 w h)) hown hK hP 0 rfl rfl 29 (by decide) (hts _ (List.mem_cons_of_mem _ mGB_113)) (fun _ h9 => h9) rfl dX12_isAt_1 ?_
  refine lv_aload_n hx hb dX12_isAt_4 rfl (lv_at hl 0 rfl) ?_
  refine va_get (D := (dC, dI)) (ci := 12) (v := .int (mi 26)) (C := RX12) (T := TX12) (N := 57) hx hb hts (fun w h => List.mem_cons_of_mem _ (jnGB_X12 w h)) hown hK hP 0 rfl rfl 26 (by decide) (hts _ (List.mem_cons_of_mem _ mGB_43)) (fun _ h9 => h9) rfl dX12_isAt_5 ?_
  refine lv_icmp_ge (tgt := 35) hx hb dX12_isAt_8 (by decide) (fun c_18 => ?_) (fun c_18 => ?_)
  · have hF := gf_pos c_18 hF
    have hc_19 : (mi 26).toInt ≤ (mi 29).toInt := by have h9 := Int32.le_iff_toInt_le.mp c_18; exact h9
    refine lv_iconst (v := 0) hx hb dX12_isAt_35 (by decide) ?_
    exact W.zret (v := 0) hx hb hr (by decide) (fun t ht hW => ⟨⟨0, (), rfl, ⟨⟨(gi_w (gi_c 0 0 (by decide)) (by decide)), ⟨fun h9 => absurd h9 (by decide), fun _ => (show ((mi 26).toInt ≤ (mi 29).toInt ∨ (fm_tape (mi 29).toNatClampNeg).toInt < p1.toInt ∨ p2.toInt < (fm_tape (mi 29).toNatClampNeg).toInt) from by have qgmi_29 := gmi_29.1; have rgmi_29 := gmi_29.2; have qgmi_26 := gmi_26.1; have rgmi_26 := gmi_26.2; omega)⟩⟩, hF.trans hR9.symm⟩, trivial⟩, hS.F ht⟩) hS.2.2 dX12_isAt_36
  · have hF := gf_neg c_18 hF
    have hc_20 : (mi 29).toInt < (mi 26).toInt := by have h9 := Int32.lt_iff_toInt_lt.mp (Int32.not_le.mp c_18); exact h9
    have g_21 : gi (mi 29) 0 1599 := gi_lt_l (Int32.not_le.mp c_18) gmi_29 gmi_26 (by decide)
    have g_22 : gi (mi 26) 1 1600 := gi_lt_r (Int32.not_le.mp c_18) gmi_29 gmi_26 (by decide)
    refine lv_aload_n hx hb dX12_isAt_11 rfl (lv_at hl 0 rfl) ?_
    refine va_get (D := (dC, dI)) (ci := 12) (v := .ref (mr 13)) (C := RX12) (T := TX12) (N := 57) hx hb hts (fun w h => List.mem_cons_of_mem _ (jnGB_X12 w h)) hown hK hP 0 rfl rfl 25 (by decide) (hts _ (List.mem_cons_of_mem _ mGB_24)) (fun _ h9 => h9) rfl dX12_isAt_12 ?_
    refine lv_aload_n hx hb dX12_isAt_15 rfl (lv_at hl 0 rfl) ?_
    refine va_get (D := (dC, dI)) (ci := 12) (v := .int (mi 29)) (C := RX12) (T := TX12) (N := 57) hx hb hts (fun w h => List.mem_cons_of_mem _ (jnGB_X12 w h)) hown hK hP 0 rfl rfl 29 (by decide) (hts _ (List.mem_cons_of_mem _ mGB_113)) (fun _ h9 => h9) rfl dX12_isAt_16 ?_
    refine va_iald hx hb hK hP 1 0 rfl rfl (gi_in g_21 (by decide)) dX12_isAt_19 ?_
    refine lv_topi (fun x_23 ex_23 => ?_)
    have hlx_23 : x_23.toInt = (fm_tape (mi 29).toNatClampNeg).toInt := congrArg Int32.toInt ex_23
    refine lv_i2l (v := (x_23).toInt64) hx hb dX12_isAt_20 rfl ?_
    refine lv_topl (fun l_24 el_24 => ?_)
    refine lv_iload_n hx hb dX12_isAt_21 rfl (lv_at hl 1 rfl) ?_
    refine lv_i2l (v := (p1).toInt64) hx hb dX12_isAt_22 rfl ?_
    refine lv_topl (fun l_25 el_25 => ?_)
    refine lv_iload_n hx hb dX12_isAt_23 rfl (lv_at hl 2 rfl) ?_
    refine lv_i2l (v := (p2).toInt64) hx hb dX12_isAt_24 rfl ?_
    refine lv_topl (fun l_26 el_26 => ?_)
    have hPc := hP.sub (ws' := []) [] rfl
    have hKc := hK.sub (tys' := []) [] rfl
    refine va_calli (va_runS (As := [.long l_24, .long l_25, .long l_26]) (rest := []) ⟨hx, hb, hml, hown, hts⟩ (sX12_in l dC dI l_24 l_25 l_26) (cwS 3 hts (gz_gS mGB_47 mGB_48 mGB_1 mGB_49 goodGB) rfl rfl rfl (by decide +kernel) ⟨Nat.le_of_ble_eq_true rfl, Nat.le_of_ble_eq_true rfl⟩) ⟨fun a U g mk q => by obtain ⟨q0, qP, qK⟩ := q; exact ⟨q0, qP, va_K.moved (u := U) (U := U.calling g mk a) (Vm.Alike.refl U.vm) qK⟩, fun U hU hW => ⟨rfl, by rw [hU]; exact hPc, va_K.moved hW.alike hKc⟩⟩ rfl rfl hl.1 rfl (lv_room (Nat.le_of_ble_eq_true rfl)) dX12_isAt_25 ⟨Nat.zero_le _, Nat.zero_le _⟩) hS (fun q _ h => h.elim) (fun q h => h.elim) (fun r_27 u t H1 locs ht hvm hw hB hz1 hk1 hS => ?_)
    obtain ⟨hw, hE⟩ := hw
    have hP := gz_keep hP hk1
    have hF := gf_call (a := r_27) (by rw [el_26, el_25, el_24, ex_23] at hE; exact hE) hF
    generalize H1 = H at hP hS ⊢
    have gr_27 : gi r_27 0 1 := hw.1
    have hqr_27 := hw.2
    refine lv_if_eq (tgt := 35) hx hb dX12_isAt_28 (by decide) (fun c_28 => ?_) (fun c_28 => ?_)
    · have hF := gf_pos c_28 hF
      have hc_29 : r_27.toInt = 0 := by have h9 := congrArg Int32.toInt c_28; rw [show (0 : Int32).toInt = 0 from by decide] at h9; exact h9
      have g_30 : gi r_27 0 0 := gi_eq c_28 (gi_c 0 0 (by decide))
      have hno_31 := gz_inF (A := p1.toInt) (B := p2.toInt) (hqr_27.2 (gz_zero1 g_30)) el_24 (gz_l2e el_25) (gz_l2e el_26)
      refine lv_iconst (v := 0) hx hb dX12_isAt_35 (by decide) ?_
      exact W.zret (v := 0) hx hb hr (by decide) (fun t ht hW => ⟨⟨0, (), rfl, ⟨⟨(gi_w (gi_c 0 0 (by decide)) (by decide)), ⟨fun h9 => absurd h9 (by decide), fun _ => (show ((mi 26).toInt ≤ (mi 29).toInt ∨ (fm_tape (mi 29).toNatClampNeg).toInt < p1.toInt ∨ p2.toInt < (fm_tape (mi 29).toNatClampNeg).toInt) from by have qgr_27 := g_30.1; have rgr_27 := g_30.2; have qgmi_29 := g_21.1; have rgmi_29 := g_21.2; have qgmi_26 := g_22.1; have rgmi_26 := g_22.2; omega)⟩⟩, hF.trans hR9.symm⟩, trivial⟩, hS.F ht⟩) hS.2.2 dX12_isAt_36
    · have hF := gf_neg c_28 hF
      have hc_32 : r_27.toInt ≠ 0 := fun h9 => c_28 (Int32.toInt_inj.mp (by rw [show (0 : Int32).toInt = 0 from by decide]; exact h9))
      have g_33 : gi r_27 1 1 := gi_ne_lo c_28 gr_27 (gi_c 0 0 (by decide)) (by decide)
      have hin_34 := gz_inT (A := p1.toInt) (B := p2.toInt) (hqr_27.1 (gz_one g_33)) el_24 (gz_l2e el_25) (gz_l2e el_26)
      refine lv_iconst (v := 1) hx hb dX12_isAt_31 (by decide) ?_
      refine lv_goto (tgt := 36) hx hb dX12_isAt_32 (by decide) ?_
      exact W.zret (v := 1) hx hb hr (by decide) (fun t ht hW => ⟨⟨1, (), rfl, ⟨⟨(gi_w (gi_c 1 1 (by decide)) (by decide)), ⟨fun _ => (show ((mi 29).toInt < (mi 26).toInt ∧ p1.toInt ≤ (fm_tape (mi 29).toNatClampNeg).toInt ∧ (fm_tape (mi 29).toNatClampNeg).toInt ≤ p2.toInt) from by have qgr_27 := g_33.1; have rgr_27 := g_33.2; have qgmi_29 := g_21.1; have rgmi_29 := g_21.2; have qgmi_26 := g_22.1; have rgmi_26 := g_22.2; omega), fun h9 => absurd h9 (by decide)⟩⟩, hF.trans hR9.symm⟩, trivial⟩, hS.F ht⟩) hS.2.2 dX12_isAt_36
theorem dX12_next_0 : decode cX12_next 0 = .ok (.aload_n 0, 1) := by decide +kernel
theorem dX12_next_1 : decode cX12_next 1 = .ok (.bipush 32, 2) := by decide +kernel
theorem dX12_next_3 : decode cX12_next 3 = .ok (.bipush 32, 2) := by decide +kernel
theorem dX12_next_5 : decode cX12_next 5 = .ok (.invokevirtual 154, 3) := by decide +kernel
theorem dX12_next_8 : decode cX12_next 8 = .ok (.ifCond .ne 14, 3) := by decide +kernel
theorem dX12_next_11 : decode cX12_next 11 = .ok (.aload_n 0, 1) := by decide +kernel
theorem dX12_next_12 : decode cX12_next 12 = .ok (.bipush 10, 2) := by decide +kernel
theorem dX12_next_14 : decode cX12_next 14 = .ok (.bipush 10, 2) := by decide +kernel
theorem dX12_next_16 : decode cX12_next 16 = .ok (.invokevirtual 154, 3) := by decide +kernel
theorem dX12_next_19 : decode cX12_next 19 = .ok (.ifCond .eq 16, 3) := by decide +kernel
theorem dX12_next_22 : decode cX12_next 22 = .ok (.aload_n 0, 1) := by decide +kernel
theorem dX12_next_23 : decode cX12_next 23 = .ok (.dup, 1) := by decide +kernel
theorem dX12_next_24 : decode cX12_next 24 = .ok (.getfield 151, 3) := by decide +kernel
theorem dX12_next_27 : decode cX12_next 27 = .ok (.iconst 1, 1) := by decide +kernel
theorem dX12_next_28 : decode cX12_next 28 = .ok (.iadd, 1) := by decide +kernel
theorem dX12_next_29 : decode cX12_next 29 = .ok (.putfield 151, 3) := by decide +kernel
theorem dX12_next_32 : decode cX12_next 32 = .ok (.goto (-32), 3) := by decide +kernel
theorem dX12_next_35 : decode cX12_next 35 = .ok (.aload_n 0, 1) := by decide +kernel
theorem dX12_next_36 : decode cX12_next 36 = .ok (.aload_n 0, 1) := by decide +kernel
theorem dX12_next_37 : decode cX12_next 37 = .ok (.getfield 151, 3) := by decide +kernel
theorem dX12_next_40 : decode cX12_next 40 = .ok (.putfield 158, 3) := by decide +kernel
theorem dX12_next_43 : decode cX12_next 43 = .ok (.aload_n 0, 1) := by decide +kernel
theorem dX12_next_44 : decode cX12_next 44 = .ok (.iconst 0, 1) := by decide +kernel
theorem dX12_next_45 : decode cX12_next 45 = .ok (.putfield 161, 3) := by decide +kernel
theorem dX12_next_48 : decode cX12_next 48 = .ok (.aload_n 0, 1) := by decide +kernel
theorem dX12_next_49 : decode cX12_next 49 = .ok (.getfield 151, 3) := by decide +kernel
theorem dX12_next_52 : decode cX12_next 52 = .ok (.aload_n 0, 1) := by decide +kernel
theorem dX12_next_53 : decode cX12_next 53 = .ok (.getfield 99, 3) := by decide +kernel
theorem dX12_next_56 : decode cX12_next 56 = .ok (.if_icmp .ne 11, 3) := by decide +kernel
theorem dX12_next_59 : decode cX12_next 59 = .ok (.aload_n 0, 1) := by decide +kernel
theorem dX12_next_60 : decode cX12_next 60 = .ok (.iconst 0, 1) := by decide +kernel
theorem dX12_next_61 : decode cX12_next 61 = .ok (.putfield 164, 3) := by decide +kernel
theorem dX12_next_64 : decode cX12_next 64 = .ok (.goto 142, 3) := by decide +kernel
theorem dX12_next_67 : decode cX12_next 67 = .ok (.aload_n 0, 1) := by decide +kernel
theorem dX12_next_68 : decode cX12_next 68 = .ok (.bipush 97, 2) := by decide +kernel
theorem dX12_next_70 : decode cX12_next 70 = .ok (.bipush 122, 2) := by decide +kernel
theorem dX12_next_72 : decode cX12_next 72 = .ok (.invokevirtual 154, 3) := by decide +kernel
theorem dX12_next_75 : decode cX12_next 75 = .ok (.ifCond .eq 32, 3) := by decide +kernel
theorem dX12_next_78 : decode cX12_next 78 = .ok (.aload_n 0, 1) := by decide +kernel
theorem dX12_next_79 : decode cX12_next 79 = .ok (.iconst 1, 1) := by decide +kernel
theorem dX12_next_80 : decode cX12_next 80 = .ok (.putfield 164, 3) := by decide +kernel
theorem dX12_next_83 : decode cX12_next 83 = .ok (.aload_n 0, 1) := by decide +kernel
theorem dX12_next_84 : decode cX12_next 84 = .ok (.bipush 97, 2) := by decide +kernel
theorem dX12_next_86 : decode cX12_next 86 = .ok (.bipush 122, 2) := by decide +kernel
theorem dX12_next_88 : decode cX12_next 88 = .ok (.invokevirtual 154, 3) := by decide +kernel
theorem dX12_next_91 : decode cX12_next 91 = .ok (.ifCond .eq 115, 3) := by decide +kernel
theorem dX12_next_94 : decode cX12_next 94 = .ok (.aload_n 0, 1) := by decide +kernel
theorem dX12_next_95 : decode cX12_next 95 = .ok (.dup, 1) := by decide +kernel
theorem dX12_next_96 : decode cX12_next 96 = .ok (.getfield 151, 3) := by decide +kernel
theorem dX12_next_99 : decode cX12_next 99 = .ok (.iconst 1, 1) := by decide +kernel
theorem dX12_next_100 : decode cX12_next 100 = .ok (.iadd, 1) := by decide +kernel
theorem dX12_next_101 : decode cX12_next 101 = .ok (.putfield 151, 3) := by decide +kernel
theorem dX12_next_104 : decode cX12_next 104 = .ok (.goto (-21), 3) := by decide +kernel
theorem dX12_next_107 : decode cX12_next 107 = .ok (.aload_n 0, 1) := by decide +kernel
theorem dX12_next_108 : decode cX12_next 108 = .ok (.bipush 48, 2) := by decide +kernel
theorem dX12_next_110 : decode cX12_next 110 = .ok (.bipush 57, 2) := by decide +kernel
theorem dX12_next_112 : decode cX12_next 112 = .ok (.invokevirtual 154, 3) := by decide +kernel
theorem dX12_next_115 : decode cX12_next 115 = .ok (.ifCond .eq 61, 3) := by decide +kernel
theorem dX12_next_118 : decode cX12_next 118 = .ok (.aload_n 0, 1) := by decide +kernel
theorem dX12_next_119 : decode cX12_next 119 = .ok (.iconst 2, 1) := by decide +kernel
theorem dX12_next_120 : decode cX12_next 120 = .ok (.putfield 164, 3) := by decide +kernel
theorem dX12_next_123 : decode cX12_next 123 = .ok (.aload_n 0, 1) := by decide +kernel
theorem dX12_next_124 : decode cX12_next 124 = .ok (.bipush 48, 2) := by decide +kernel
theorem dX12_next_126 : decode cX12_next 126 = .ok (.bipush 57, 2) := by decide +kernel
theorem dX12_next_128 : decode cX12_next 128 = .ok (.invokevirtual 154, 3) := by decide +kernel
theorem dX12_next_131 : decode cX12_next 131 = .ok (.ifCond .eq 75, 3) := by decide +kernel
theorem dX12_next_134 : decode cX12_next 134 = .ok (.aload_n 0, 1) := by decide +kernel
theorem dX12_next_135 : decode cX12_next 135 = .ok (.ldc 167, 2) := by decide +kernel
theorem dX12_next_137 : decode cX12_next 137 = .ok (.bipush 10, 2) := by decide +kernel
theorem dX12_next_139 : decode cX12_next 139 = .ok (.aload_n 0, 1) := by decide +kernel
theorem dX12_next_140 : decode cX12_next 140 = .ok (.getfield 161, 3) := by decide +kernel
theorem dX12_next_143 : decode cX12_next 143 = .ok (.imul, 1) := by decide +kernel
theorem dX12_next_144 : decode cX12_next 144 = .ok (.aload_n 0, 1) := by decide +kernel
theorem dX12_next_145 : decode cX12_next 145 = .ok (.getfield 50, 3) := by decide +kernel
theorem dX12_next_148 : decode cX12_next 148 = .ok (.aload_n 0, 1) := by decide +kernel
theorem dX12_next_149 : decode cX12_next 149 = .ok (.getfield 151, 3) := by decide +kernel
theorem dX12_next_152 : decode cX12_next 152 = .ok (.iaload, 1) := by decide +kernel
theorem dX12_next_153 : decode cX12_next 153 = .ok (.iadd, 1) := by decide +kernel
theorem dX12_next_154 : decode cX12_next 154 = .ok (.bipush 48, 2) := by decide +kernel
theorem dX12_next_156 : decode cX12_next 156 = .ok (.isub, 1) := by decide +kernel
theorem dX12_next_157 : decode cX12_next 157 = .ok (.invokestatic 168, 3) := by decide +kernel
theorem dX12_next_160 : decode cX12_next 160 = .ok (.putfield 161, 3) := by decide +kernel
theorem dX12_next_163 : decode cX12_next 163 = .ok (.aload_n 0, 1) := by decide +kernel
theorem dX12_next_164 : decode cX12_next 164 = .ok (.dup, 1) := by decide +kernel
theorem dX12_next_165 : decode cX12_next 165 = .ok (.getfield 151, 3) := by decide +kernel
theorem dX12_next_168 : decode cX12_next 168 = .ok (.iconst 1, 1) := by decide +kernel
theorem dX12_next_169 : decode cX12_next 169 = .ok (.iadd, 1) := by decide +kernel
theorem dX12_next_170 : decode cX12_next 170 = .ok (.putfield 151, 3) := by decide +kernel
theorem dX12_next_173 : decode cX12_next 173 = .ok (.goto (-50), 3) := by decide +kernel
theorem dX12_next_176 : decode cX12_next 176 = .ok (.aload_n 0, 1) := by decide +kernel
theorem dX12_next_177 : decode cX12_next 177 = .ok (.aload_n 0, 1) := by decide +kernel
theorem dX12_next_178 : decode cX12_next 178 = .ok (.bipush 59, 2) := by decide +kernel
theorem dX12_next_180 : decode cX12_next 180 = .ok (.bipush 59, 2) := by decide +kernel
theorem dX12_next_182 : decode cX12_next 182 = .ok (.invokevirtual 154, 3) := by decide +kernel
theorem dX12_next_185 : decode cX12_next 185 = .ok (.ifCond .eq 7, 3) := by decide +kernel
theorem dX12_next_188 : decode cX12_next 188 = .ok (.iconst 3, 1) := by decide +kernel
theorem dX12_next_189 : decode cX12_next 189 = .ok (.goto 4, 3) := by decide +kernel
theorem dX12_next_192 : decode cX12_next 192 = .ok (.iconst 4, 1) := by decide +kernel
theorem dX12_next_193 : decode cX12_next 193 = .ok (.putfield 164, 3) := by decide +kernel
theorem dX12_next_196 : decode cX12_next 196 = .ok (.aload_n 0, 1) := by decide +kernel
theorem dX12_next_197 : decode cX12_next 197 = .ok (.dup, 1) := by decide +kernel
theorem dX12_next_198 : decode cX12_next 198 = .ok (.getfield 151, 3) := by decide +kernel
theorem dX12_next_201 : decode cX12_next 201 = .ok (.iconst 1, 1) := by decide +kernel
theorem dX12_next_202 : decode cX12_next 202 = .ok (.iadd, 1) := by decide +kernel
theorem dX12_next_203 : decode cX12_next 203 = .ok (.putfield 151, 3) := by decide +kernel
theorem dX12_next_206 : decode cX12_next 206 = .ok (.return_, 1) := by decide +kernel
noncomputable def bfX12_next_22 (mi : Nat → Int32) (fm_tape : Nat → Int32) (K : (Int32 → (Int32 × Int32 × Int32 × Int32)) × (Int32 → Int32 → Int32 → Int32 → (Int32 × Int32 × Int32 × Int32)) × (Int32 → Int32 → Int32 → Int32 → (Int32 × Int32 × Int32 × Int32))) (w0_29 : Int32) (w0_30 : Int32) (w0_31 : Int32) (w0_32 : Int32) : Int32 × Int32 × Int32 × Int32 := K.1 (w0_29 + (1 : Int32))
noncomputable def bfX12_next_206 (mi : Nat → Int32) (fm_tape : Nat → Int32) (K : (Int32 → (Int32 × Int32 × Int32 × Int32)) × (Int32 → Int32 → Int32 → Int32 → (Int32 × Int32 × Int32 × Int32)) × (Int32 → Int32 → Int32 → Int32 → (Int32 × Int32 × Int32 × Int32))) (w0_29 : Int32) (w0_30 : Int32) (w0_31 : Int32) (w0_32 : Int32) : Int32 × Int32 × Int32 × Int32 := (w0_29, w0_30, w0_31, w0_32)
noncomputable def bfX12_next_193 (mi : Nat → Int32) (fm_tape : Nat → Int32) (K : (Int32 → (Int32 × Int32 × Int32 × Int32)) × (Int32 → Int32 → Int32 → Int32 → (Int32 × Int32 × Int32 × Int32)) × (Int32 → Int32 → Int32 → Int32 → (Int32 × Int32 × Int32 × Int32))) (s0 : Int32) (w0_29 : Int32) (w0_30 : Int32) (w0_31 : Int32) (w0_32 : Int32) : Int32 × Int32 × Int32 × Int32 := bfX12_next_206 mi fm_tape K (w0_29 + (1 : Int32)) w0_30 s0 w0_32
noncomputable def dfX12_next_0 (mi : Nat → Int32) (fm_tape : Nat → Int32) (K : (Int32 → (Int32 × Int32 × Int32 × Int32)) × (Int32 → Int32 → Int32 → Int32 → (Int32 × Int32 × Int32 × Int32)) × (Int32 → Int32 → Int32 → Int32 → (Int32 × Int32 × Int32 × Int32))) (w0_29 : Int32) : Int32 × Int32 × Int32 × Int32 := cal (fun o1 => if o1 = (0 : Int32) then (cal (fun o2 => if o2 = (0 : Int32) then (if w0_29 = (mi 26) then (bfX12_next_206 mi fm_tape K w0_29 w0_29 (0 : Int32) (0 : Int32)) else (cal (fun o3 => if o3 = (0 : Int32) then (cal (fun o4 => if o4 = (0 : Int32) then (cal (fun o5 => if o5 = (0 : Int32) then (bfX12_next_193 mi fm_tape K (4 : Int32) w0_29 w0_29 (mi 31) (0 : Int32)) else (bfX12_next_193 mi fm_tape K (3 : Int32) w0_29 w0_29 (mi 31) (0 : Int32))) (fX12_isAt (upd (upd (upd mi 29 w0_29) 30 w0_29) 32 0) fm_tape (59 : Int32) (59 : Int32))) else (K.2.2 w0_29 w0_29 (2 : Int32) (0 : Int32))) (fX12_isAt (upd (upd (upd mi 29 w0_29) 30 w0_29) 32 0) fm_tape (48 : Int32) (57 : Int32))) else (K.2.1 w0_29 w0_29 (1 : Int32) (0 : Int32))) (fX12_isAt (upd (upd (upd mi 29 w0_29) 30 w0_29) 32 0) fm_tape (97 : Int32) (122 : Int32)))) else (bfX12_next_22 mi fm_tape K w0_29 (mi 30) (mi 31) (mi 32))) (fX12_isAt (upd mi 29 w0_29) fm_tape (10 : Int32) (10 : Int32))) else (bfX12_next_22 mi fm_tape K w0_29 (mi 30) (mi 31) (mi 32))) (fX12_isAt (upd mi 29 w0_29) fm_tape (32 : Int32) (32 : Int32))
noncomputable def dfX12_next_83 (mi : Nat → Int32) (fm_tape : Nat → Int32) (K : (Int32 → (Int32 × Int32 × Int32 × Int32)) × (Int32 → Int32 → Int32 → Int32 → (Int32 × Int32 × Int32 × Int32)) × (Int32 → Int32 → Int32 → Int32 → (Int32 × Int32 × Int32 × Int32))) (w0_29 : Int32) (w0_30 : Int32) (w0_31 : Int32) (w0_32 : Int32) : Int32 × Int32 × Int32 × Int32 := cal (fun o6 => if o6 = (0 : Int32) then (bfX12_next_206 mi fm_tape K w0_29 w0_30 w0_31 w0_32) else (K.2.1 (w0_29 + (1 : Int32)) w0_30 w0_31 w0_32)) (fX12_isAt (upd (upd (upd (upd mi 29 w0_29) 30 w0_30) 31 w0_31) 32 w0_32) fm_tape (97 : Int32) (122 : Int32))
noncomputable def dfX12_next_123 (mi : Nat → Int32) (fm_tape : Nat → Int32) (K : (Int32 → (Int32 × Int32 × Int32 × Int32)) × (Int32 → Int32 → Int32 → Int32 → (Int32 × Int32 × Int32 × Int32)) × (Int32 → Int32 → Int32 → Int32 → (Int32 × Int32 × Int32 × Int32))) (w0_29 : Int32) (w0_30 : Int32) (w0_31 : Int32) (w0_32 : Int32) : Int32 × Int32 × Int32 × Int32 := cal (fun o7 => if o7 = (0 : Int32) then (bfX12_next_206 mi fm_tape K w0_29 w0_30 w0_31 w0_32) else (K.2.2 (w0_29 + (1 : Int32)) w0_30 w0_31 (if ((((10 : Int32) * w0_32) + (fm_tape w0_29.toNatClampNeg)) - (48 : Int32)) < (100000 : Int32) then ((((10 : Int32) * w0_32) + (fm_tape w0_29.toNatClampNeg)) - (48 : Int32)) else (100000 : Int32)))) (fX12_isAt (upd (upd (upd (upd mi 29 w0_29) 30 w0_30) 31 w0_31) 32 w0_32) fm_tape (48 : Int32) (57 : Int32))
noncomputable def lfX12_next (mi : Nat → Int32) (fm_tape : Nat → Int32) (z : Nat) : (Int32 → (Int32 × Int32 × Int32 × Int32)) × (Int32 → Int32 → Int32 → Int32 → (Int32 × Int32 × Int32 × Int32)) × (Int32 → Int32 → Int32 → Int32 → (Int32 × Int32 × Int32 × Int32)) := Nat.rec (motive := fun _ => (Int32 → (Int32 × Int32 × Int32 × Int32)) × (Int32 → Int32 → Int32 → Int32 → (Int32 × Int32 × Int32 × Int32)) × (Int32 → Int32 → Int32 → Int32 → (Int32 × Int32 × Int32 × Int32))) ((fun _ => (0, 0, 0, 0), fun _ _ _ _ => (0, 0, 0, 0), fun _ _ _ _ => (0, 0, 0, 0))) (fun _ K => (dfX12_next_0 mi fm_tape K, dfX12_next_83 mi fm_tape K, dfX12_next_123 mi fm_tape K)) z
noncomputable def fX12_next (mi : Nat → Int32) (fm_tape : Nat → Int32) : Int32 × Int32 × Int32 × Int32 := (lfX12_next mi fm_tape 1000000000).1 (mi 29)
set_option maxHeartbeats 4000000 in
set_option maxRecDepth 100000 in
theorem lp_sX12_nextP {p : Program} {l : Launch} {e : Env} {R : Room} {s : State} {m : MethodId} {args : Array Value} {below : List Frame} {meth : Method} {c : Code} {Q : State → Prop} {A : Nat → Prop} {cells slots : Nat} {dC : Nat → ClassId} {dI : Nat → Nat → Nat} {RES : Int32 × Int32 × Int32 × Int32} (h0 : Nat) (mi : Nat → Int32) (mr : Nat → Nat) (km_tape : ClassId) (fm_tape : Nat → Int32) (gmi_0 : gi (mi 0) 0 100000) (gmi_1 : gi (mi 1) 0 100000) (gmi_2 : gi (mi 2) 0 100000) (gmi_4 : gi (mi 4) 0 1) (gmi_7 : gi (mi 7) 0 6) (gmi_10 : gi (mi 10) 0 24) (gmi_17 : gi (mi 17) 0 8) (gmi_23 : gi (mi 23) 0 300) (gmi_24 : gi (mi 24) 0 1) (gmi_26 : gi (mi 26) 0 1600) (gmi_29 : gi (mi 29) 0 1600) (gmi_30 : gi (mi 30) 0 1600) (gmi_32 : gi (mi 32) 0 100000) (gmi_33 : gi (mi 33) 0 1) (gmi_37 : gi (mi 37) 0 1) (gmi_41 : gi (mi 41) 0 24) (gmi_50 : gi (mi 50) 0 1) (gmi_51 : gi (mi 51) 0 1) (gmi_56 : gi (mi 56) 0 80) (hpq0 : (mi 29).toInt ≤ (mi 26).toInt) (hx : p.tables.exec = Jvm.exec) (hb : c.code = cX12_next) (hml : c.maxLocals = 1) (hown : s.vm.findClass RX12 = some m.cls) (hts : ∀ w ∈ ((.code yX12_next cX12_next 1 none :: wsGB) : List Cond), w.before args s = true) (hK : va_K (dC, dI) vwCl [(km_tape, .int)] s) (hA : ∀ q : Nat, s.heap.size ≤ q → A q) (hRf : 2 ≤ R.frames) (hRl : 47 ≤ R.locals) (hRc : cells ≤ R.cells) (hRs : slots ≤ R.slots) (kr206 : ∀ (w0_29 : Int32) (w0_30 : Int32) (w0_31 : Int32) (w0_32 : Int32) (H : Heap) (locs : List Loc) (ls : Array Slot), gi w0_29 0 1600 → gi w0_30 0 1600 → gi w0_32 0 100000 → (mi 29).toInt ≤ w0_30.toInt → w0_30.toInt ≤ w0_29.toInt → w0_29.toInt ≤ (mi 26).toInt → (w0_31.toInt = 0 ∨ w0_30.toInt < w0_29.toInt) → (w0_29, w0_30, w0_31, w0_32) = RES → va_P (dC, dI) vwCl [(h0, .inr (12, fsMM (upd (upd (upd (upd mi 29 w0_29) 30 w0_30) 31 w0_31) 32 w0_32) mr)), ((mr 13), .inl (km_tape, 1600, .inl fm_tape))] H → va_D A [(h0, .inr (12, fsMM (upd (upd (upd (upd mi 29 w0_29) 30 w0_30) 31 w0_31) 32 w0_32) mr)), ((mr 13), .inl (km_tape, 1600, .inl fm_tape))] → va_S A s.heap H locs → lv_has ls 1 [] → W p l e R s m args below meth c H locs cells slots Q (F0 m 206 ls [])) : ∀ z : Nat, (∀ (w0_29 : Int32) (H : Heap) (locs : List Loc) (ls : Array Slot), gi w0_29 0 1600 → (mi 29).toInt ≤ w0_29.toInt → w0_29.toInt ≤ (mi 26).toInt → (lfX12_next mi fm_tape z).1 w0_29 = RES → 9609 + (-2) * w0_29.toInt < (z : Int) → va_P (dC, dI) vwCl [(h0, .inr (12, fsMM (upd mi 29 w0_29) mr)), ((mr 13), .inl (km_tape, 1600, .inl fm_tape))] H → va_D A [(h0, .inr (12, fsMM (upd mi 29 w0_29) mr)), ((mr 13), .inl (km_tape, 1600, .inl fm_tape))] → va_S A s.heap H locs → lv_has ls 1 [(0, .ref h0)] → W p l e R s m args below meth c H locs cells slots Q (F0 m 0 ls [])) ∧ (∀ (w0_29 : Int32) (w0_30 : Int32) (w0_31 : Int32) (w0_32 : Int32) (H : Heap) (locs : List Loc) (ls : Array Slot), gi w0_29 0 1600 → gi w0_30 0 1600 → gi w0_32 0 100000 → (mi 29).toInt ≤ w0_30.toInt → w0_30.toInt ≤ w0_29.toInt → w0_29.toInt ≤ (mi 26).toInt → (w0_30.toInt < w0_29.toInt ∨ (w0_29.toInt < (mi 26).toInt ∧ 97 ≤ (fm_tape w0_29.toNatClampNeg).toInt ∧ (fm_tape w0_29.toNatClampNeg).toInt ≤ 122)) → (lfX12_next mi fm_tape z).2.1 w0_29 w0_30 w0_31 w0_32 = RES → 6405 + (-2) * w0_29.toInt < (z : Int) → va_P (dC, dI) vwCl [(h0, .inr (12, fsMM (upd (upd (upd (upd mi 29 w0_29) 30 w0_30) 31 w0_31) 32 w0_32) mr)), ((mr 13), .inl (km_tape, 1600, .inl fm_tape))] H → va_D A [(h0, .inr (12, fsMM (upd (upd (upd (upd mi 29 w0_29) 30 w0_30) 31 w0_31) 32 w0_32) mr)), ((mr 13), .inl (km_tape, 1600, .inl fm_tape))] → va_S A s.heap H locs → lv_has ls 1 [(0, .ref h0)] → W p l e R s m args below meth c H locs cells slots Q (F0 m 83 ls [])) ∧ (∀ (w0_29 : Int32) (w0_30 : Int32) (w0_31 : Int32) (w0_32 : Int32) (H : Heap) (locs : List Loc) (ls : Array Slot), gi w0_29 0 1600 → gi w0_30 0 1600 → gi w0_32 0 100000 → (mi 29).toInt ≤ w0_30.toInt → w0_30.toInt ≤ w0_29.toInt → w0_29.toInt ≤ (mi 26).toInt → (w0_30.toInt < w0_29.toInt ∨ (w0_29.toInt < (mi 26).toInt ∧ 48 ≤ (fm_tape w0_29.toNatClampNeg).toInt ∧ (fm_tape w0_29.toNatClampNeg).toInt ≤ 57)) → (lfX12_next mi fm_tape z).2.2 w0_29 w0_30 w0_31 w0_32 = RES → 3201 + (-2) * w0_29.toInt < (z : Int) → va_P (dC, dI) vwCl [(h0, .inr (12, fsMM (upd (upd (upd (upd mi 29 w0_29) 30 w0_30) 31 w0_31) 32 w0_32) mr)), ((mr 13), .inl (km_tape, 1600, .inl fm_tape))] H → va_D A [(h0, .inr (12, fsMM (upd (upd (upd (upd mi 29 w0_29) 30 w0_30) 31 w0_31) 32 w0_32) mr)), ((mr 13), .inl (km_tape, 1600, .inl fm_tape))] → va_S A s.heap H locs → lv_has ls 1 [(0, .ref h0)] → W p l e R s m args below meth c H locs cells slots Q (F0 m 123 ls [])) := by
  intro z
  induction z with
  | zero =>
    refine ⟨?_, ?_, ?_⟩
    · intro w0_29 H locs ls gw0_29 hinv0 hinv1 hF hmu hP hD hS hl
      exact absurd hmu (by have hw0_291 := gw0_29.1; have hw0_292 := gw0_29.2; omega)
    · intro w0_29 w0_30 w0_31 w0_32 H locs ls gw0_29 gw0_30 gw0_32 hinv0 hinv1 hinv2 hinv3 hF hmu hP hD hS hl
      exact absurd hmu (by have hw0_291 := gw0_29.1; have hw0_292 := gw0_29.2; omega)
    · intro w0_29 w0_30 w0_31 w0_32 H locs ls gw0_29 gw0_30 gw0_32 hinv0 hinv1 hinv2 hinv3 hF hmu hP hD hS hl
      exact absurd hmu (by have hw0_291 := gw0_29.1; have hw0_292 := gw0_29.2; omega)
  | succ z ih =>
    refine ⟨?_, ?_, ?_⟩
    · intro w0_29 H locs ls gw0_29 hinv0 hinv1 hF hmu hP hD hS hl
      have hF : dfX12_next_0 mi fm_tape (lfX12_next mi fm_tape z) w0_29 = RES := hF
      refine lv_aload_n hx hb dX12_next_0 rfl (lv_at hl 0 rfl) ?_
      refine lv_bipush (v := 32) hx hb dX12_next_1 (by decide) ?_
      refine lv_bipush (v := 32) hx hb dX12_next_3 (by decide) ?_
      have hPc := hP.sub (ws' := [(h0, .inr (12, fsMM (upd mi 29 w0_29) mr)), ((mr 13), .inl (km_tape, 1600, .inl fm_tape))]) [0, 1] rfl
      have hKc := hK.sub (tys' := [(km_tape, .int)]) [0] rfl
      refine va_calli (va_runV (As := [.int 32, .int 32]) (rest := []) ⟨hx, hb, hml, hown, hts⟩ (sX12_isAtP l dC dI h0 (upd mi 29 w0_29) mr km_tape fm_tape 32 32 gmi_0 gmi_1 gmi_2 gmi_4 gmi_7 gmi_10 gmi_17 gmi_23 gmi_24 gmi_26 gw0_29 gmi_30 gmi_32 gmi_33 gmi_37 gmi_41 gmi_50 gmi_51 gmi_56) (cwV 2 hts (gz_gV mGB_139 mGB_140 mGB_141 mGB_1 mGB_142 goodGB) rfl rfl rfl (by decide +kernel) ⟨Nat.le_trans (Nat.le_of_ble_eq_true rfl) hRf, Nat.le_trans (Nat.le_of_ble_eq_true rfl) hRl⟩) ⟨fun a U g mk q => by obtain ⟨q0, qP, qK⟩ := q; exact ⟨q0, qP, va_K.moved (u := U) (U := U.calling g mk a) (Vm.Alike.refl U.vm) qK⟩, va_recv hKc hPc (ci := 12) (q0 := 0) rfl rfl, fun U hU hW => ⟨rfl, by rw [hU]; exact hPc, va_K.moved hW.alike hKc⟩⟩ rfl rfl hl.1 rfl (lv_room (Nat.le_of_ble_eq_true rfl)) dX12_next_5 ⟨hRc, hRs⟩) hS (fun q _ h => h.elim) (fun q h => h.elim) (fun r_143 u t H1 locs ht hvm hw hB hz1 hk1 hS => ?_)
      obtain ⟨hw, hE⟩ := hw
      have hP := gz_keep hP hk1
      have hF := gf_callm (a := r_143) hE hF (by first | with_reducible rfl | simp only [upd_same, upd_app, ↓reduceIte, Nat.reduceEqDiff])
      generalize H1 = H at hP hS ⊢
      have gr_143 : gi r_143 0 1 := hw.1
      have hqr_143 : Hid ((r_143.toInt = 1 → (w0_29.toInt < (mi 26).toInt ∧ (32 : Int) ≤ (fm_tape w0_29.toNatClampNeg).toInt ∧ (fm_tape w0_29.toNatClampNeg).toInt ≤ (32 : Int))) ∧ (r_143.toInt = 0 → ((mi 26).toInt ≤ w0_29.toInt ∨ (fm_tape w0_29.toNatClampNeg).toInt < (32 : Int) ∨ (32 : Int) < (fm_tape w0_29.toNatClampNeg).toInt))) := by have h9 : (r_143.toInt = 1 → (w0_29.toInt < (mi 26).toInt ∧ (32 : Int32).toInt ≤ (fm_tape w0_29.toNatClampNeg).toInt ∧ (fm_tape w0_29.toNatClampNeg).toInt ≤ (32 : Int32).toInt)) ∧ (r_143.toInt = 0 → ((mi 26).toInt ≤ w0_29.toInt ∨ (fm_tape w0_29.toNatClampNeg).toInt < (32 : Int32).toInt ∨ (32 : Int32).toInt < (fm_tape w0_29.toNatClampNeg).toInt)) := hw.2; rw [show (32 : Int32).toInt = 32 from by decide] at h9; exact h9
      clear hw
      refine lv_if_ne (tgt := 22) hx hb dX12_next_8 (by decide) (fun c_144 => ?_) (fun c_144 => ?_)
      · have hF := gf_neg c_144 hF
        have hc_145 : r_143.toInt ≠ 0 := fun h9 => c_144 (Int32.toInt_inj.mp (by rw [show (0 : Int32).toInt = 0 from by decide]; exact h9))
        have g_146 : gi r_143 1 1 := gi_ne_lo c_144 gr_143 (gi_c 0 0 (by decide)) (by decide)
        have hf_147 : (w0_29.toInt < (mi 26).toInt ∧ (32 : Int) ≤ (fm_tape w0_29.toNatClampNeg).toInt ∧ (fm_tape w0_29.toNatClampNeg).toInt ≤ (32 : Int)) := (Hid.un hqr_143).1 (gz_one g_146) 
        refine lv_aload_n hx hb dX12_next_22 rfl (lv_at hl 0 rfl) ?_
        refine lv_dup hx hb dX12_next_23 rfl ?_
        refine va_get (D := (dC, dI)) (ci := 12) (v := .int w0_29) (C := RX12) (T := TX12) (N := 57) hx hb hts (fun w h => List.mem_cons_of_mem _ (jnGB_X12 w h)) hown hK hP 0 rfl rfl 29 (by decide) (hts _ (List.mem_cons_of_mem _ mGB_113)) (fun _ h9 => h9) rfl dX12_next_24 ?_
        refine lv_iconst (v := 1) hx hb dX12_next_27 (by decide) ?_
        refine lv_iadd hx hb dX12_next_28 ?_
        refine lv_topi (fun x_148 ex_148 => ?_)
        have gx_148 : gi x_148 1 1601 := gi_add ex_148 gw0_29 (gi_c 1 1 (by decide)) (by decide)
        refine va_put (D := (dC, dI)) (ci := 12) (v := .int x_148) (ty := .int) (C := RX12) (T := TX12) (N := 57) hx hb hts (fun w h => List.mem_cons_of_mem _ (jnGB_X12 w h)) tyX12 tyX12_ok nmX12 hown hK hP hD hS 0 rfl rfl 29 (by decide) (hts _ (List.mem_cons_of_mem _ mGB_113)) (fun _ h9 => h9) rfl (by decide +kernel) rfl rfl (Nat.le_of_ble_eq_true rfl) dX12_next_29 (fun H locs hP hD hS => ?_)
        have hP : va_P (dC, dI) vwCl [(h0, .inr (12, fsMM (upd mi 29 x_148) mr)), ((mr 13), .inl (km_tape, 1600, .inl fm_tape))] H := hP
        have hD : va_D A [(h0, .inr (12, fsMM (upd mi 29 x_148) mr)), ((mr 13), .inl (km_tape, 1600, .inl fm_tape))] := hD
        refine lv_goto (tgt := 0) hx hb dX12_next_32 (by decide) ?_
        exact ih.1 x_148 _ _ _ (show gi x_148 0 1600 from ⟨by have qgx_148 := gx_148.1; have rgx_148 := gx_148.2; have igx_148 : x_148.toInt = w0_29.toInt + 1 := (by have hc1 : (1 : Int32).toInt = 1 := (by decide); have h9 := gi_addI ex_148 (by have h1 := gw0_29.1; have h2 := (gi_c 1 1 (by decide)).1; have h3 := gw0_29.2; have h4 := (gi_c 1 1 (by decide)).2; omega) (by have h1 := gw0_29.1; have h2 := (gi_c 1 1 (by decide)).1; have h3 := gw0_29.2; have h4 := (gi_c 1 1 (by decide)).2; omega); rw [hc1] at h9; exact h9); have qgw0_29 := gw0_29.1; have rgw0_29 := gw0_29.2; have qgr_143 := g_146.1; have rgr_143 := g_146.2; have qgmi_29 := gmi_29.1; have rgmi_29 := gmi_29.2; have qgmi_26 := gmi_26.1; have rgmi_26 := gmi_26.2; omega, by have qgx_148 := gx_148.1; have rgx_148 := gx_148.2; have igx_148 : x_148.toInt = w0_29.toInt + 1 := (by have hc1 : (1 : Int32).toInt = 1 := (by decide); have h9 := gi_addI ex_148 (by have h1 := gw0_29.1; have h2 := (gi_c 1 1 (by decide)).1; have h3 := gw0_29.2; have h4 := (gi_c 1 1 (by decide)).2; omega) (by have h1 := gw0_29.1; have h2 := (gi_c 1 1 (by decide)).1; have h3 := gw0_29.2; have h4 := (gi_c 1 1 (by decide)).2; omega); rw [hc1] at h9; exact h9); have qgw0_29 := gw0_29.1; have rgw0_29 := gw0_29.2; have qgr_143 := g_146.1; have rgr_143 := g_146.2; have qgmi_29 := gmi_29.1; have rgmi_29 := gmi_29.2; have qgmi_26 := gmi_26.1; have rgmi_26 := gmi_26.2; omega⟩) (show (mi 29).toInt ≤ x_148.toInt from by have qgx_148 := gx_148.1; have rgx_148 := gx_148.2; have igx_148 : x_148.toInt = w0_29.toInt + 1 := (by have hc1 : (1 : Int32).toInt = 1 := (by decide); have h9 := gi_addI ex_148 (by have h1 := gw0_29.1; have h2 := (gi_c 1 1 (by decide)).1; have h3 := gw0_29.2; have h4 := (gi_c 1 1 (by decide)).2; omega) (by have h1 := gw0_29.1; have h2 := (gi_c 1 1 (by decide)).1; have h3 := gw0_29.2; have h4 := (gi_c 1 1 (by decide)).2; omega); rw [hc1] at h9; exact h9); have qgw0_29 := gw0_29.1; have rgw0_29 := gw0_29.2; have qgr_143 := g_146.1; have rgr_143 := g_146.2; have qgmi_29 := gmi_29.1; have rgmi_29 := gmi_29.2; have qgmi_26 := gmi_26.1; have rgmi_26 := gmi_26.2; omega) (show x_148.toInt ≤ (mi 26).toInt from by have qgx_148 := gx_148.1; have rgx_148 := gx_148.2; have igx_148 : x_148.toInt = w0_29.toInt + 1 := (by have hc1 : (1 : Int32).toInt = 1 := (by decide); have h9 := gi_addI ex_148 (by have h1 := gw0_29.1; have h2 := (gi_c 1 1 (by decide)).1; have h3 := gw0_29.2; have h4 := (gi_c 1 1 (by decide)).2; omega) (by have h1 := gw0_29.1; have h2 := (gi_c 1 1 (by decide)).1; have h3 := gw0_29.2; have h4 := (gi_c 1 1 (by decide)).2; omega); rw [hc1] at h9; exact h9); have qgw0_29 := gw0_29.1; have rgw0_29 := gw0_29.2; have qgr_143 := g_146.1; have rgr_143 := g_146.2; have qgmi_29 := gmi_29.1; have rgmi_29 := gmi_29.2; have qgmi_26 := gmi_26.1; have rgmi_26 := gmi_26.2; omega) (by rw [ex_148]; exact hF) (by have aw0_29 := gw0_29.1; have bw0_29 := gw0_29.2; have qgx_148 := gx_148.1; have rgx_148 := gx_148.2; have igx_148 : x_148.toInt = w0_29.toInt + 1 := (by have hc1 : (1 : Int32).toInt = 1 := (by decide); have h9 := gi_addI ex_148 (by have h1 := gw0_29.1; have h2 := (gi_c 1 1 (by decide)).1; have h3 := gw0_29.2; have h4 := (gi_c 1 1 (by decide)).2; omega) (by have h1 := gw0_29.1; have h2 := (gi_c 1 1 (by decide)).1; have h3 := gw0_29.2; have h4 := (gi_c 1 1 (by decide)).2; omega); rw [hc1] at h9; exact h9); have qgw0_29 := gw0_29.1; have rgw0_29 := gw0_29.2; omega) hP hD hS (lv_sub hl [0] rfl)
      · have hF := gf_pos c_144 hF
        have hc_149 : r_143.toInt = 0 := by have h9 := congrArg Int32.toInt c_144; rw [show (0 : Int32).toInt = 0 from by decide] at h9; exact h9
        have g_150 : gi r_143 0 0 := gi_eq c_144 (gi_c 0 0 (by decide))
        have hf_151 : Hid (((mi 26).toInt ≤ w0_29.toInt ∨ (fm_tape w0_29.toNatClampNeg).toInt < (32 : Int) ∨ (32 : Int) < (fm_tape w0_29.toNatClampNeg).toInt)) := (Hid.un hqr_143).2 (gz_zero1 g_150) 
        refine lv_aload_n hx hb dX12_next_11 rfl (lv_at hl 0 rfl) ?_
        refine lv_bipush (v := 10) hx hb dX12_next_12 (by decide) ?_
        refine lv_bipush (v := 10) hx hb dX12_next_14 (by decide) ?_
        have hPc := hP.sub (ws' := [(h0, .inr (12, fsMM (upd mi 29 w0_29) mr)), ((mr 13), .inl (km_tape, 1600, .inl fm_tape))]) [0, 1] rfl
        have hKc := hK.sub (tys' := [(km_tape, .int)]) [0] rfl
        refine va_calli (va_runV (As := [.int 10, .int 10]) (rest := []) ⟨hx, hb, hml, hown, hts⟩ (sX12_isAtP l dC dI h0 (upd mi 29 w0_29) mr km_tape fm_tape 10 10 gmi_0 gmi_1 gmi_2 gmi_4 gmi_7 gmi_10 gmi_17 gmi_23 gmi_24 gmi_26 gw0_29 gmi_30 gmi_32 gmi_33 gmi_37 gmi_41 gmi_50 gmi_51 gmi_56) (cwV 2 hts (gz_gV mGB_139 mGB_140 mGB_141 mGB_1 mGB_142 goodGB) rfl rfl rfl (by decide +kernel) ⟨Nat.le_trans (Nat.le_of_ble_eq_true rfl) hRf, Nat.le_trans (Nat.le_of_ble_eq_true rfl) hRl⟩) ⟨fun a U g mk q => by obtain ⟨q0, qP, qK⟩ := q; exact ⟨q0, qP, va_K.moved (u := U) (U := U.calling g mk a) (Vm.Alike.refl U.vm) qK⟩, va_recv hKc hPc (ci := 12) (q0 := 0) rfl rfl, fun U hU hW => ⟨rfl, by rw [hU]; exact hPc, va_K.moved hW.alike hKc⟩⟩ rfl rfl hl.1 rfl (lv_room (Nat.le_of_ble_eq_true rfl)) dX12_next_16 ⟨hRc, hRs⟩) hS (fun q _ h => h.elim) (fun q h => h.elim) (fun r_152 u t H1 locs ht hvm hw hB hz1 hk1 hS => ?_)
        obtain ⟨hw, hE⟩ := hw
        have hP := gz_keep hP hk1
        have hF := gf_callm (a := r_152) hE hF (by first | with_reducible rfl | simp only [upd_same, upd_app, ↓reduceIte, Nat.reduceEqDiff])
        generalize H1 = H at hP hS ⊢
        have gr_152 : gi r_152 0 1 := hw.1
        have hqr_152 : Hid ((r_152.toInt = 1 → (w0_29.toInt < (mi 26).toInt ∧ (10 : Int) ≤ (fm_tape w0_29.toNatClampNeg).toInt ∧ (fm_tape w0_29.toNatClampNeg).toInt ≤ (10 : Int))) ∧ (r_152.toInt = 0 → ((mi 26).toInt ≤ w0_29.toInt ∨ (fm_tape w0_29.toNatClampNeg).toInt < (10 : Int) ∨ (10 : Int) < (fm_tape w0_29.toNatClampNeg).toInt))) := by have h9 : (r_152.toInt = 1 → (w0_29.toInt < (mi 26).toInt ∧ (10 : Int32).toInt ≤ (fm_tape w0_29.toNatClampNeg).toInt ∧ (fm_tape w0_29.toNatClampNeg).toInt ≤ (10 : Int32).toInt)) ∧ (r_152.toInt = 0 → ((mi 26).toInt ≤ w0_29.toInt ∨ (fm_tape w0_29.toNatClampNeg).toInt < (10 : Int32).toInt ∨ (10 : Int32).toInt < (fm_tape w0_29.toNatClampNeg).toInt)) := hw.2; rw [show (10 : Int32).toInt = 10 from by decide] at h9; exact h9
        clear hw
        refine lv_if_eq (tgt := 35) hx hb dX12_next_19 (by decide) (fun c_153 => ?_) (fun c_153 => ?_)
        · have hF := gf_pos c_153 hF
          have hc_154 : r_152.toInt = 0 := by have h9 := congrArg Int32.toInt c_153; rw [show (0 : Int32).toInt = 0 from by decide] at h9; exact h9
          have g_155 : gi r_152 0 0 := gi_eq c_153 (gi_c 0 0 (by decide))
          have hf_156 : Hid (((mi 26).toInt ≤ w0_29.toInt ∨ (fm_tape w0_29.toNatClampNeg).toInt < (10 : Int) ∨ (10 : Int) < (fm_tape w0_29.toNatClampNeg).toInt)) := (Hid.un hqr_152).2 (gz_zero1 g_155) 
          refine lv_aload_n hx hb dX12_next_35 rfl (lv_at hl 0 rfl) ?_
          refine lv_aload_n hx hb dX12_next_36 rfl (lv_at hl 0 rfl) ?_
          refine va_get (D := (dC, dI)) (ci := 12) (v := .int w0_29) (C := RX12) (T := TX12) (N := 57) hx hb hts (fun w h => List.mem_cons_of_mem _ (jnGB_X12 w h)) hown hK hP 0 rfl rfl 29 (by decide) (hts _ (List.mem_cons_of_mem _ mGB_113)) (fun _ h9 => h9) rfl dX12_next_37 ?_
          refine va_put (D := (dC, dI)) (ci := 12) (v := .int w0_29) (ty := .int) (C := RX12) (T := TX12) (N := 57) hx hb hts (fun w h => List.mem_cons_of_mem _ (jnGB_X12 w h)) tyX12 tyX12_ok nmX12 hown hK hP hD hS 0 rfl rfl 30 (by decide) (hts _ (List.mem_cons_of_mem _ mGB_135)) (fun _ h9 => h9) rfl (by decide +kernel) rfl rfl (Nat.le_of_ble_eq_true rfl) dX12_next_40 (fun H locs hP hD hS => ?_)
          have hP : va_P (dC, dI) vwCl [(h0, .inr (12, fsMM (upd (upd mi 29 w0_29) 30 w0_29) mr)), ((mr 13), .inl (km_tape, 1600, .inl fm_tape))] H := hP
          have hD : va_D A [(h0, .inr (12, fsMM (upd (upd mi 29 w0_29) 30 w0_29) mr)), ((mr 13), .inl (km_tape, 1600, .inl fm_tape))] := hD
          refine lv_aload_n hx hb dX12_next_43 rfl (lv_at hl 0 rfl) ?_
          refine lv_iconst (v := 0) hx hb dX12_next_44 (by decide) ?_
          refine va_put (D := (dC, dI)) (ci := 12) (v := .int 0) (ty := .int) (C := RX12) (T := TX12) (N := 57) hx hb hts (fun w h => List.mem_cons_of_mem _ (jnGB_X12 w h)) tyX12 tyX12_ok nmX12 hown hK hP hD hS 0 rfl rfl 32 (by decide) (hts _ (List.mem_cons_of_mem _ mGB_136)) (fun _ h9 => h9) rfl (by decide +kernel) rfl rfl (Nat.le_of_ble_eq_true rfl) dX12_next_45 (fun H locs hP hD hS => ?_)
          have hP : va_P (dC, dI) vwCl [(h0, .inr (12, fsMM (upd (upd (upd mi 29 w0_29) 30 w0_29) 32 0) mr)), ((mr 13), .inl (km_tape, 1600, .inl fm_tape))] H := hP
          have hD : va_D A [(h0, .inr (12, fsMM (upd (upd (upd mi 29 w0_29) 30 w0_29) 32 0) mr)), ((mr 13), .inl (km_tape, 1600, .inl fm_tape))] := hD
          refine lv_aload_n hx hb dX12_next_48 rfl (lv_at hl 0 rfl) ?_
          refine va_get (D := (dC, dI)) (ci := 12) (v := .int w0_29) (C := RX12) (T := TX12) (N := 57) hx hb hts (fun w h => List.mem_cons_of_mem _ (jnGB_X12 w h)) hown hK hP 0 rfl rfl 29 (by decide) (hts _ (List.mem_cons_of_mem _ mGB_113)) (fun _ h9 => h9) rfl dX12_next_49 ?_
          refine lv_aload_n hx hb dX12_next_52 rfl (lv_at hl 0 rfl) ?_
          refine va_get (D := (dC, dI)) (ci := 12) (v := .int (mi 26)) (C := RX12) (T := TX12) (N := 57) hx hb hts (fun w h => List.mem_cons_of_mem _ (jnGB_X12 w h)) hown hK hP 0 rfl rfl 26 (by decide) (hts _ (List.mem_cons_of_mem _ mGB_43)) (fun _ h9 => h9) rfl dX12_next_53 ?_
          refine lv_icmp_ne (tgt := 67) hx hb dX12_next_56 (by decide) (fun c_157 => ?_) (fun c_157 => ?_)
          · have hF := gf_neg c_157 hF
            have hc_158 : w0_29.toInt ≠ (mi 26).toInt := fun h9 => c_157 (Int32.toInt_inj.mp (by exact h9))
            refine lv_aload_n hx hb dX12_next_67 rfl (lv_at hl 0 rfl) ?_
            refine lv_bipush (v := 97) hx hb dX12_next_68 (by decide) ?_
            refine lv_bipush (v := 122) hx hb dX12_next_70 (by decide) ?_
            have hPc := hP.sub (ws' := [(h0, .inr (12, fsMM (upd (upd (upd mi 29 w0_29) 30 w0_29) 32 0) mr)), ((mr 13), .inl (km_tape, 1600, .inl fm_tape))]) [0, 1] rfl
            have hKc := hK.sub (tys' := [(km_tape, .int)]) [0] rfl
            refine va_calli (va_runV (As := [.int 97, .int 122]) (rest := []) ⟨hx, hb, hml, hown, hts⟩ (sX12_isAtP l dC dI h0 (upd (upd (upd mi 29 w0_29) 30 w0_29) 32 0) mr km_tape fm_tape 97 122 gmi_0 gmi_1 gmi_2 gmi_4 gmi_7 gmi_10 gmi_17 gmi_23 gmi_24 gmi_26 gw0_29 gw0_29 (gi_w (gi_c 0 0 (by decide)) (by decide)) gmi_33 gmi_37 gmi_41 gmi_50 gmi_51 gmi_56) (cwV 2 hts (gz_gV mGB_139 mGB_140 mGB_141 mGB_1 mGB_142 goodGB) rfl rfl rfl (by decide +kernel) ⟨Nat.le_trans (Nat.le_of_ble_eq_true rfl) hRf, Nat.le_trans (Nat.le_of_ble_eq_true rfl) hRl⟩) ⟨fun a U g mk q => by obtain ⟨q0, qP, qK⟩ := q; exact ⟨q0, qP, va_K.moved (u := U) (U := U.calling g mk a) (Vm.Alike.refl U.vm) qK⟩, va_recv hKc hPc (ci := 12) (q0 := 0) rfl rfl, fun U hU hW => ⟨rfl, by rw [hU]; exact hPc, va_K.moved hW.alike hKc⟩⟩ rfl rfl hl.1 rfl (lv_room (Nat.le_of_ble_eq_true rfl)) dX12_next_72 ⟨hRc, hRs⟩) hS (fun q _ h => h.elim) (fun q h => h.elim) (fun r_159 u t H1 locs ht hvm hw hB hz1 hk1 hS => ?_)
            obtain ⟨hw, hE⟩ := hw
            have hP := gz_keep hP hk1
            have hF := gf_callm (a := r_159) hE hF (by first | with_reducible rfl | simp only [upd_same, upd_app, ↓reduceIte, Nat.reduceEqDiff])
            generalize H1 = H at hP hS ⊢
            have gr_159 : gi r_159 0 1 := hw.1
            have hqr_159 : Hid ((r_159.toInt = 1 → (w0_29.toInt < (mi 26).toInt ∧ (97 : Int) ≤ (fm_tape w0_29.toNatClampNeg).toInt ∧ (fm_tape w0_29.toNatClampNeg).toInt ≤ (122 : Int))) ∧ (r_159.toInt = 0 → ((mi 26).toInt ≤ w0_29.toInt ∨ (fm_tape w0_29.toNatClampNeg).toInt < (97 : Int) ∨ (122 : Int) < (fm_tape w0_29.toNatClampNeg).toInt))) := by have h9 : (r_159.toInt = 1 → (w0_29.toInt < (mi 26).toInt ∧ (97 : Int32).toInt ≤ (fm_tape w0_29.toNatClampNeg).toInt ∧ (fm_tape w0_29.toNatClampNeg).toInt ≤ (122 : Int32).toInt)) ∧ (r_159.toInt = 0 → ((mi 26).toInt ≤ w0_29.toInt ∨ (fm_tape w0_29.toNatClampNeg).toInt < (97 : Int32).toInt ∨ (122 : Int32).toInt < (fm_tape w0_29.toNatClampNeg).toInt)) := hw.2; rw [show (122 : Int32).toInt = 122 from by decide] at h9; rw [show (97 : Int32).toInt = 97 from by decide] at h9; exact h9
            clear hw
            refine lv_if_eq (tgt := 107) hx hb dX12_next_75 (by decide) (fun c_160 => ?_) (fun c_160 => ?_)
            · have hF := gf_pos c_160 hF
              have hc_161 : r_159.toInt = 0 := by have h9 := congrArg Int32.toInt c_160; rw [show (0 : Int32).toInt = 0 from by decide] at h9; exact h9
              have g_162 : gi r_159 0 0 := gi_eq c_160 (gi_c 0 0 (by decide))
              have hf_163 : Hid (((mi 26).toInt ≤ w0_29.toInt ∨ (fm_tape w0_29.toNatClampNeg).toInt < (97 : Int) ∨ (122 : Int) < (fm_tape w0_29.toNatClampNeg).toInt)) := (Hid.un hqr_159).2 (gz_zero1 g_162) 
              refine lv_aload_n hx hb dX12_next_107 rfl (lv_at hl 0 rfl) ?_
              refine lv_bipush (v := 48) hx hb dX12_next_108 (by decide) ?_
              refine lv_bipush (v := 57) hx hb dX12_next_110 (by decide) ?_
              have hPc := hP.sub (ws' := [(h0, .inr (12, fsMM (upd (upd (upd mi 29 w0_29) 30 w0_29) 32 0) mr)), ((mr 13), .inl (km_tape, 1600, .inl fm_tape))]) [0, 1] rfl
              have hKc := hK.sub (tys' := [(km_tape, .int)]) [0] rfl
              refine va_calli (va_runV (As := [.int 48, .int 57]) (rest := []) ⟨hx, hb, hml, hown, hts⟩ (sX12_isAtP l dC dI h0 (upd (upd (upd mi 29 w0_29) 30 w0_29) 32 0) mr km_tape fm_tape 48 57 gmi_0 gmi_1 gmi_2 gmi_4 gmi_7 gmi_10 gmi_17 gmi_23 gmi_24 gmi_26 gw0_29 gw0_29 (gi_w (gi_c 0 0 (by decide)) (by decide)) gmi_33 gmi_37 gmi_41 gmi_50 gmi_51 gmi_56) (cwV 2 hts (gz_gV mGB_139 mGB_140 mGB_141 mGB_1 mGB_142 goodGB) rfl rfl rfl (by decide +kernel) ⟨Nat.le_trans (Nat.le_of_ble_eq_true rfl) hRf, Nat.le_trans (Nat.le_of_ble_eq_true rfl) hRl⟩) ⟨fun a U g mk q => by obtain ⟨q0, qP, qK⟩ := q; exact ⟨q0, qP, va_K.moved (u := U) (U := U.calling g mk a) (Vm.Alike.refl U.vm) qK⟩, va_recv hKc hPc (ci := 12) (q0 := 0) rfl rfl, fun U hU hW => ⟨rfl, by rw [hU]; exact hPc, va_K.moved hW.alike hKc⟩⟩ rfl rfl hl.1 rfl (lv_room (Nat.le_of_ble_eq_true rfl)) dX12_next_112 ⟨hRc, hRs⟩) hS (fun q _ h => h.elim) (fun q h => h.elim) (fun r_164 u t H1 locs ht hvm hw hB hz1 hk1 hS => ?_)
              obtain ⟨hw, hE⟩ := hw
              have hP := gz_keep hP hk1
              have hF := gf_callm (a := r_164) hE hF (by first | with_reducible rfl | simp only [upd_same, upd_app, ↓reduceIte, Nat.reduceEqDiff])
              generalize H1 = H at hP hS ⊢
              have gr_164 : gi r_164 0 1 := hw.1
              have hqr_164 : Hid ((r_164.toInt = 1 → (w0_29.toInt < (mi 26).toInt ∧ (48 : Int) ≤ (fm_tape w0_29.toNatClampNeg).toInt ∧ (fm_tape w0_29.toNatClampNeg).toInt ≤ (57 : Int))) ∧ (r_164.toInt = 0 → ((mi 26).toInt ≤ w0_29.toInt ∨ (fm_tape w0_29.toNatClampNeg).toInt < (48 : Int) ∨ (57 : Int) < (fm_tape w0_29.toNatClampNeg).toInt))) := by have h9 : (r_164.toInt = 1 → (w0_29.toInt < (mi 26).toInt ∧ (48 : Int32).toInt ≤ (fm_tape w0_29.toNatClampNeg).toInt ∧ (fm_tape w0_29.toNatClampNeg).toInt ≤ (57 : Int32).toInt)) ∧ (r_164.toInt = 0 → ((mi 26).toInt ≤ w0_29.toInt ∨ (fm_tape w0_29.toNatClampNeg).toInt < (48 : Int32).toInt ∨ (57 : Int32).toInt < (fm_tape w0_29.toNatClampNeg).toInt)) := hw.2; rw [show (48 : Int32).toInt = 48 from by decide] at h9; rw [show (57 : Int32).toInt = 57 from by decide] at h9; exact h9
              clear hw
              refine lv_if_eq (tgt := 176) hx hb dX12_next_115 (by decide) (fun c_165 => ?_) (fun c_165 => ?_)
              · have hF := gf_pos c_165 hF
                have hc_166 : r_164.toInt = 0 := by have h9 := congrArg Int32.toInt c_165; rw [show (0 : Int32).toInt = 0 from by decide] at h9; exact h9
                have g_167 : gi r_164 0 0 := gi_eq c_165 (gi_c 0 0 (by decide))
                have hf_168 : Hid (((mi 26).toInt ≤ w0_29.toInt ∨ (fm_tape w0_29.toNatClampNeg).toInt < (48 : Int) ∨ (57 : Int) < (fm_tape w0_29.toNatClampNeg).toInt)) := (Hid.un hqr_164).2 (gz_zero1 g_167) 
                refine lv_aload_n hx hb dX12_next_176 rfl (lv_at hl 0 rfl) ?_
                refine lv_aload_n hx hb dX12_next_177 rfl (lv_at hl 0 rfl) ?_
                refine lv_bipush (v := 59) hx hb dX12_next_178 (by decide) ?_
                refine lv_bipush (v := 59) hx hb dX12_next_180 (by decide) ?_
                have hPc := hP.sub (ws' := [(h0, .inr (12, fsMM (upd (upd (upd mi 29 w0_29) 30 w0_29) 32 0) mr)), ((mr 13), .inl (km_tape, 1600, .inl fm_tape))]) [0, 1] rfl
                have hKc := hK.sub (tys' := [(km_tape, .int)]) [0] rfl
                refine va_calli (va_runV (As := [.int 59, .int 59]) (rest := [.ref h0]) ⟨hx, hb, hml, hown, hts⟩ (sX12_isAtP l dC dI h0 (upd (upd (upd mi 29 w0_29) 30 w0_29) 32 0) mr km_tape fm_tape 59 59 gmi_0 gmi_1 gmi_2 gmi_4 gmi_7 gmi_10 gmi_17 gmi_23 gmi_24 gmi_26 gw0_29 gw0_29 (gi_w (gi_c 0 0 (by decide)) (by decide)) gmi_33 gmi_37 gmi_41 gmi_50 gmi_51 gmi_56) (cwV 2 hts (gz_gV mGB_139 mGB_140 mGB_141 mGB_1 mGB_142 goodGB) rfl rfl rfl (by decide +kernel) ⟨Nat.le_trans (Nat.le_of_ble_eq_true rfl) hRf, Nat.le_trans (Nat.le_of_ble_eq_true rfl) hRl⟩) ⟨fun a U g mk q => by obtain ⟨q0, qP, qK⟩ := q; exact ⟨q0, qP, va_K.moved (u := U) (U := U.calling g mk a) (Vm.Alike.refl U.vm) qK⟩, va_recv hKc hPc (ci := 12) (q0 := 0) rfl rfl, fun U hU hW => ⟨rfl, by rw [hU]; exact hPc, va_K.moved hW.alike hKc⟩⟩ rfl rfl hl.1 rfl (lv_room (Nat.le_of_ble_eq_true rfl)) dX12_next_182 ⟨hRc, hRs⟩) hS (fun q _ h => h.elim) (fun q h => h.elim) (fun r_169 u t H1 locs ht hvm hw hB hz1 hk1 hS => ?_)
                obtain ⟨hw, hE⟩ := hw
                have hP := gz_keep hP hk1
                have hF := gf_callm (a := r_169) hE hF (by first | with_reducible rfl | simp only [upd_same, upd_app, ↓reduceIte, Nat.reduceEqDiff])
                generalize H1 = H at hP hS ⊢
                have gr_169 : gi r_169 0 1 := hw.1
                have hqr_169 : Hid ((r_169.toInt = 1 → (w0_29.toInt < (mi 26).toInt ∧ (59 : Int) ≤ (fm_tape w0_29.toNatClampNeg).toInt ∧ (fm_tape w0_29.toNatClampNeg).toInt ≤ (59 : Int))) ∧ (r_169.toInt = 0 → ((mi 26).toInt ≤ w0_29.toInt ∨ (fm_tape w0_29.toNatClampNeg).toInt < (59 : Int) ∨ (59 : Int) < (fm_tape w0_29.toNatClampNeg).toInt))) := by have h9 : (r_169.toInt = 1 → (w0_29.toInt < (mi 26).toInt ∧ (59 : Int32).toInt ≤ (fm_tape w0_29.toNatClampNeg).toInt ∧ (fm_tape w0_29.toNatClampNeg).toInt ≤ (59 : Int32).toInt)) ∧ (r_169.toInt = 0 → ((mi 26).toInt ≤ w0_29.toInt ∨ (fm_tape w0_29.toNatClampNeg).toInt < (59 : Int32).toInt ∨ (59 : Int32).toInt < (fm_tape w0_29.toNatClampNeg).toInt)) := hw.2; rw [show (59 : Int32).toInt = 59 from by decide] at h9; exact h9
                clear hw
                refine lv_if_eq (tgt := 192) hx hb dX12_next_185 (by decide) (fun c_170 => ?_) (fun c_170 => ?_)
                · have hF := gf_pos c_170 hF
                  have hc_171 : r_169.toInt = 0 := by have h9 := congrArg Int32.toInt c_170; rw [show (0 : Int32).toInt = 0 from by decide] at h9; exact h9
                  have g_172 : gi r_169 0 0 := gi_eq c_170 (gi_c 0 0 (by decide))
                  have hf_173 : Hid (((mi 26).toInt ≤ w0_29.toInt ∨ (fm_tape w0_29.toNatClampNeg).toInt < (59 : Int) ∨ (59 : Int) < (fm_tape w0_29.toNatClampNeg).toInt)) := (Hid.un hqr_169).2 (gz_zero1 g_172) 
                  refine lv_iconst (v := 4) hx hb dX12_next_192 (by decide) ?_
                  refine va_put (D := (dC, dI)) (ci := 12) (v := .int 4) (ty := .int) (C := RX12) (T := TX12) (N := 57) hx hb hts (fun w h => List.mem_cons_of_mem _ (jnGB_X12 w h)) tyX12 tyX12_ok nmX12 hown hK hP hD hS 0 rfl rfl 31 (by decide) (hts _ (List.mem_cons_of_mem _ mGB_116)) (fun _ h9 => h9) rfl (by decide +kernel) rfl rfl (Nat.le_of_ble_eq_true rfl) dX12_next_193 (fun H locs hP hD hS => ?_)
                  have hP : va_P (dC, dI) vwCl [(h0, .inr (12, fsMM (upd (upd (upd (upd mi 29 w0_29) 30 w0_29) 31 4) 32 0) mr)), ((mr 13), .inl (km_tape, 1600, .inl fm_tape))] H := hP
                  have hD : va_D A [(h0, .inr (12, fsMM (upd (upd (upd (upd mi 29 w0_29) 30 w0_29) 31 4) 32 0) mr)), ((mr 13), .inl (km_tape, 1600, .inl fm_tape))] := hD
                  refine lv_aload_n hx hb dX12_next_196 rfl (lv_at hl 0 rfl) ?_
                  refine lv_dup hx hb dX12_next_197 rfl ?_
                  refine va_get (D := (dC, dI)) (ci := 12) (v := .int w0_29) (C := RX12) (T := TX12) (N := 57) hx hb hts (fun w h => List.mem_cons_of_mem _ (jnGB_X12 w h)) hown hK hP 0 rfl rfl 29 (by decide) (hts _ (List.mem_cons_of_mem _ mGB_113)) (fun _ h9 => h9) rfl dX12_next_198 ?_
                  refine lv_iconst (v := 1) hx hb dX12_next_201 (by decide) ?_
                  refine lv_iadd hx hb dX12_next_202 ?_
                  refine lv_topi (fun x_174 ex_174 => ?_)
                  have gx_174 : gi x_174 1 1601 := gi_add ex_174 gw0_29 (gi_c 1 1 (by decide)) (by decide)
                  refine va_put (D := (dC, dI)) (ci := 12) (v := .int x_174) (ty := .int) (C := RX12) (T := TX12) (N := 57) hx hb hts (fun w h => List.mem_cons_of_mem _ (jnGB_X12 w h)) tyX12 tyX12_ok nmX12 hown hK hP hD hS 0 rfl rfl 29 (by decide) (hts _ (List.mem_cons_of_mem _ mGB_113)) (fun _ h9 => h9) rfl (by decide +kernel) rfl rfl (Nat.le_of_ble_eq_true rfl) dX12_next_203 (fun H locs hP hD hS => ?_)
                  have hP : va_P (dC, dI) vwCl [(h0, .inr (12, fsMM (upd (upd (upd (upd mi 29 x_174) 30 w0_29) 31 4) 32 0) mr)), ((mr 13), .inl (km_tape, 1600, .inl fm_tape))] H := hP
                  have hD : va_D A [(h0, .inr (12, fsMM (upd (upd (upd (upd mi 29 x_174) 30 w0_29) 31 4) 32 0) mr)), ((mr 13), .inl (km_tape, 1600, .inl fm_tape))] := hD
                  exact kr206 x_174 w0_29 4 0 _ _ _ (show gi x_174 0 1600 from ⟨by have qgx_174 := gx_174.1; have rgx_174 := gx_174.2; have igx_174 : x_174.toInt = w0_29.toInt + 1 := (by have hc1 : (1 : Int32).toInt = 1 := (by decide); have h9 := gi_addI ex_174 (by have h1 := gw0_29.1; have h2 := (gi_c 1 1 (by decide)).1; have h3 := gw0_29.2; have h4 := (gi_c 1 1 (by decide)).2; omega) (by have h1 := gw0_29.1; have h2 := (gi_c 1 1 (by decide)).1; have h3 := gw0_29.2; have h4 := (gi_c 1 1 (by decide)).2; omega); rw [hc1] at h9; exact h9); have qgw0_29 := gw0_29.1; have rgw0_29 := gw0_29.2; have qgr_169 := g_172.1; have rgr_169 := g_172.2; have qgr_164 := g_167.1; have rgr_164 := g_167.2; have qgr_159 := g_162.1; have rgr_159 := g_162.2; have qgr_152 := g_155.1; have rgr_152 := g_155.2; have qgr_143 := g_150.1; have rgr_143 := g_150.2; have qgmi_29 := gmi_29.1; have rgmi_29 := gmi_29.2; have qgmi_26 := gmi_26.1; have rgmi_26 := gmi_26.2; have hz9 := Hid.un hf_173; omega, by have qgx_174 := gx_174.1; have rgx_174 := gx_174.2; have igx_174 : x_174.toInt = w0_29.toInt + 1 := (by have hc1 : (1 : Int32).toInt = 1 := (by decide); have h9 := gi_addI ex_174 (by have h1 := gw0_29.1; have h2 := (gi_c 1 1 (by decide)).1; have h3 := gw0_29.2; have h4 := (gi_c 1 1 (by decide)).2; omega) (by have h1 := gw0_29.1; have h2 := (gi_c 1 1 (by decide)).1; have h3 := gw0_29.2; have h4 := (gi_c 1 1 (by decide)).2; omega); rw [hc1] at h9; exact h9); have qgw0_29 := gw0_29.1; have rgw0_29 := gw0_29.2; have qgr_169 := g_172.1; have rgr_169 := g_172.2; have qgr_164 := g_167.1; have rgr_164 := g_167.2; have qgr_159 := g_162.1; have rgr_159 := g_162.2; have qgr_152 := g_155.1; have rgr_152 := g_155.2; have qgr_143 := g_150.1; have rgr_143 := g_150.2; have qgmi_29 := gmi_29.1; have rgmi_29 := gmi_29.2; have qgmi_26 := gmi_26.1; have rgmi_26 := gmi_26.2; have hz9 := Hid.un hf_173; omega⟩) gw0_29 (gi_w (gi_c 0 0 (by decide)) (by decide)) hinv0 (show w0_29.toInt ≤ x_174.toInt from by have qgx_174 := gx_174.1; have rgx_174 := gx_174.2; have igx_174 : x_174.toInt = w0_29.toInt + 1 := (by have hc1 : (1 : Int32).toInt = 1 := (by decide); have h9 := gi_addI ex_174 (by have h1 := gw0_29.1; have h2 := (gi_c 1 1 (by decide)).1; have h3 := gw0_29.2; have h4 := (gi_c 1 1 (by decide)).2; omega) (by have h1 := gw0_29.1; have h2 := (gi_c 1 1 (by decide)).1; have h3 := gw0_29.2; have h4 := (gi_c 1 1 (by decide)).2; omega); rw [hc1] at h9; exact h9); have qgw0_29 := gw0_29.1; have rgw0_29 := gw0_29.2; have qgr_169 := g_172.1; have rgr_169 := g_172.2; have qgr_164 := g_167.1; have rgr_164 := g_167.2; have qgr_159 := g_162.1; have rgr_159 := g_162.2; have qgr_152 := g_155.1; have rgr_152 := g_155.2; have qgr_143 := g_150.1; have rgr_143 := g_150.2; have qgmi_29 := gmi_29.1; have rgmi_29 := gmi_29.2; have qgmi_26 := gmi_26.1; have rgmi_26 := gmi_26.2; have hz9 := Hid.un hf_173; omega) (show x_174.toInt ≤ (mi 26).toInt from by have qgx_174 := gx_174.1; have rgx_174 := gx_174.2; have igx_174 : x_174.toInt = w0_29.toInt + 1 := (by have hc1 : (1 : Int32).toInt = 1 := (by decide); have h9 := gi_addI ex_174 (by have h1 := gw0_29.1; have h2 := (gi_c 1 1 (by decide)).1; have h3 := gw0_29.2; have h4 := (gi_c 1 1 (by decide)).2; omega) (by have h1 := gw0_29.1; have h2 := (gi_c 1 1 (by decide)).1; have h3 := gw0_29.2; have h4 := (gi_c 1 1 (by decide)).2; omega); rw [hc1] at h9; exact h9); have qgw0_29 := gw0_29.1; have rgw0_29 := gw0_29.2; have qgr_169 := g_172.1; have rgr_169 := g_172.2; have qgr_164 := g_167.1; have rgr_164 := g_167.2; have qgr_159 := g_162.1; have rgr_159 := g_162.2; have qgr_152 := g_155.1; have rgr_152 := g_155.2; have qgr_143 := g_150.1; have rgr_143 := g_150.2; have qgmi_29 := gmi_29.1; have rgmi_29 := gmi_29.2; have qgmi_26 := gmi_26.1; have rgmi_26 := gmi_26.2; have hz9 := Hid.un hf_173; omega) (show ((4 : Int32).toInt = 0 ∨ w0_29.toInt < x_174.toInt) from by have k4 : (4 : Int32).toInt = 4 := (by decide); have qgx_174 := gx_174.1; have rgx_174 := gx_174.2; have igx_174 : x_174.toInt = w0_29.toInt + 1 := (by have hc1 : (1 : Int32).toInt = 1 := (by decide); have h9 := gi_addI ex_174 (by have h1 := gw0_29.1; have h2 := (gi_c 1 1 (by decide)).1; have h3 := gw0_29.2; have h4 := (gi_c 1 1 (by decide)).2; omega) (by have h1 := gw0_29.1; have h2 := (gi_c 1 1 (by decide)).1; have h3 := gw0_29.2; have h4 := (gi_c 1 1 (by decide)).2; omega); rw [hc1] at h9; exact h9); have qgw0_29 := gw0_29.1; have rgw0_29 := gw0_29.2; have qgr_169 := g_172.1; have rgr_169 := g_172.2; have qgr_164 := g_167.1; have rgr_164 := g_167.2; have qgr_159 := g_162.1; have rgr_159 := g_162.2; have qgr_152 := g_155.1; have rgr_152 := g_155.2; have qgr_143 := g_150.1; have rgr_143 := g_150.2; have qgmi_29 := gmi_29.1; have rgmi_29 := gmi_29.2; have qgmi_26 := gmi_26.1; have rgmi_26 := gmi_26.2; have hz9 := Hid.un hf_173; omega) (by rw [ex_174]; exact hF) hP hD hS (lv_sub hl [] rfl)
                · have hF := gf_neg c_170 hF
                  have hc_175 : r_169.toInt ≠ 0 := fun h9 => c_170 (Int32.toInt_inj.mp (by rw [show (0 : Int32).toInt = 0 from by decide]; exact h9))
                  have g_176 : gi r_169 1 1 := gi_ne_lo c_170 gr_169 (gi_c 0 0 (by decide)) (by decide)
                  have hf_177 : (w0_29.toInt < (mi 26).toInt ∧ (59 : Int) ≤ (fm_tape w0_29.toNatClampNeg).toInt ∧ (fm_tape w0_29.toNatClampNeg).toInt ≤ (59 : Int)) := (Hid.un hqr_169).1 (gz_one g_176) 
                  refine lv_iconst (v := 3) hx hb dX12_next_188 (by decide) ?_
                  refine lv_goto (tgt := 193) hx hb dX12_next_189 (by decide) ?_
                  refine va_put (D := (dC, dI)) (ci := 12) (v := .int 3) (ty := .int) (C := RX12) (T := TX12) (N := 57) hx hb hts (fun w h => List.mem_cons_of_mem _ (jnGB_X12 w h)) tyX12 tyX12_ok nmX12 hown hK hP hD hS 0 rfl rfl 31 (by decide) (hts _ (List.mem_cons_of_mem _ mGB_116)) (fun _ h9 => h9) rfl (by decide +kernel) rfl rfl (Nat.le_of_ble_eq_true rfl) dX12_next_193 (fun H locs hP hD hS => ?_)
                  have hP : va_P (dC, dI) vwCl [(h0, .inr (12, fsMM (upd (upd (upd (upd mi 29 w0_29) 30 w0_29) 31 3) 32 0) mr)), ((mr 13), .inl (km_tape, 1600, .inl fm_tape))] H := hP
                  have hD : va_D A [(h0, .inr (12, fsMM (upd (upd (upd (upd mi 29 w0_29) 30 w0_29) 31 3) 32 0) mr)), ((mr 13), .inl (km_tape, 1600, .inl fm_tape))] := hD
                  refine lv_aload_n hx hb dX12_next_196 rfl (lv_at hl 0 rfl) ?_
                  refine lv_dup hx hb dX12_next_197 rfl ?_
                  refine va_get (D := (dC, dI)) (ci := 12) (v := .int w0_29) (C := RX12) (T := TX12) (N := 57) hx hb hts (fun w h => List.mem_cons_of_mem _ (jnGB_X12 w h)) hown hK hP 0 rfl rfl 29 (by decide) (hts _ (List.mem_cons_of_mem _ mGB_113)) (fun _ h9 => h9) rfl dX12_next_198 ?_
                  refine lv_iconst (v := 1) hx hb dX12_next_201 (by decide) ?_
                  refine lv_iadd hx hb dX12_next_202 ?_
                  refine lv_topi (fun x_178 ex_178 => ?_)
                  have gx_178 : gi x_178 1 1601 := gi_add ex_178 gw0_29 (gi_c 1 1 (by decide)) (by decide)
                  refine va_put (D := (dC, dI)) (ci := 12) (v := .int x_178) (ty := .int) (C := RX12) (T := TX12) (N := 57) hx hb hts (fun w h => List.mem_cons_of_mem _ (jnGB_X12 w h)) tyX12 tyX12_ok nmX12 hown hK hP hD hS 0 rfl rfl 29 (by decide) (hts _ (List.mem_cons_of_mem _ mGB_113)) (fun _ h9 => h9) rfl (by decide +kernel) rfl rfl (Nat.le_of_ble_eq_true rfl) dX12_next_203 (fun H locs hP hD hS => ?_)
                  have hP : va_P (dC, dI) vwCl [(h0, .inr (12, fsMM (upd (upd (upd (upd mi 29 x_178) 30 w0_29) 31 3) 32 0) mr)), ((mr 13), .inl (km_tape, 1600, .inl fm_tape))] H := hP
                  have hD : va_D A [(h0, .inr (12, fsMM (upd (upd (upd (upd mi 29 x_178) 30 w0_29) 31 3) 32 0) mr)), ((mr 13), .inl (km_tape, 1600, .inl fm_tape))] := hD
                  exact kr206 x_178 w0_29 3 0 _ _ _ (show gi x_178 0 1600 from ⟨by have qgx_178 := gx_178.1; have rgx_178 := gx_178.2; have igx_178 : x_178.toInt = w0_29.toInt + 1 := (by have hc1 : (1 : Int32).toInt = 1 := (by decide); have h9 := gi_addI ex_178 (by have h1 := gw0_29.1; have h2 := (gi_c 1 1 (by decide)).1; have h3 := gw0_29.2; have h4 := (gi_c 1 1 (by decide)).2; omega) (by have h1 := gw0_29.1; have h2 := (gi_c 1 1 (by decide)).1; have h3 := gw0_29.2; have h4 := (gi_c 1 1 (by decide)).2; omega); rw [hc1] at h9; exact h9); have qgw0_29 := gw0_29.1; have rgw0_29 := gw0_29.2; have qgr_169 := g_176.1; have rgr_169 := g_176.2; have qgr_164 := g_167.1; have rgr_164 := g_167.2; have qgr_159 := g_162.1; have rgr_159 := g_162.2; have qgr_152 := g_155.1; have rgr_152 := g_155.2; have qgr_143 := g_150.1; have rgr_143 := g_150.2; have qgmi_29 := gmi_29.1; have rgmi_29 := gmi_29.2; have qgmi_26 := gmi_26.1; have rgmi_26 := gmi_26.2; have hz9 := Hid.un hf_168; omega, by have qgx_178 := gx_178.1; have rgx_178 := gx_178.2; have igx_178 : x_178.toInt = w0_29.toInt + 1 := (by have hc1 : (1 : Int32).toInt = 1 := (by decide); have h9 := gi_addI ex_178 (by have h1 := gw0_29.1; have h2 := (gi_c 1 1 (by decide)).1; have h3 := gw0_29.2; have h4 := (gi_c 1 1 (by decide)).2; omega) (by have h1 := gw0_29.1; have h2 := (gi_c 1 1 (by decide)).1; have h3 := gw0_29.2; have h4 := (gi_c 1 1 (by decide)).2; omega); rw [hc1] at h9; exact h9); have qgw0_29 := gw0_29.1; have rgw0_29 := gw0_29.2; have qgr_169 := g_176.1; have rgr_169 := g_176.2; have qgr_164 := g_167.1; have rgr_164 := g_167.2; have qgr_159 := g_162.1; have rgr_159 := g_162.2; have qgr_152 := g_155.1; have rgr_152 := g_155.2; have qgr_143 := g_150.1; have rgr_143 := g_150.2; have qgmi_29 := gmi_29.1; have rgmi_29 := gmi_29.2; have qgmi_26 := gmi_26.1; have rgmi_26 := gmi_26.2; have hz9 := Hid.un hf_168; omega⟩) gw0_29 (gi_w (gi_c 0 0 (by decide)) (by decide)) hinv0 (show w0_29.toInt ≤ x_178.toInt from by have qgx_178 := gx_178.1; have rgx_178 := gx_178.2; have igx_178 : x_178.toInt = w0_29.toInt + 1 := (by have hc1 : (1 : Int32).toInt = 1 := (by decide); have h9 := gi_addI ex_178 (by have h1 := gw0_29.1; have h2 := (gi_c 1 1 (by decide)).1; have h3 := gw0_29.2; have h4 := (gi_c 1 1 (by decide)).2; omega) (by have h1 := gw0_29.1; have h2 := (gi_c 1 1 (by decide)).1; have h3 := gw0_29.2; have h4 := (gi_c 1 1 (by decide)).2; omega); rw [hc1] at h9; exact h9); have qgw0_29 := gw0_29.1; have rgw0_29 := gw0_29.2; have qgr_169 := g_176.1; have rgr_169 := g_176.2; have qgr_164 := g_167.1; have rgr_164 := g_167.2; have qgr_159 := g_162.1; have rgr_159 := g_162.2; have qgr_152 := g_155.1; have rgr_152 := g_155.2; have qgr_143 := g_150.1; have rgr_143 := g_150.2; have qgmi_29 := gmi_29.1; have rgmi_29 := gmi_29.2; have qgmi_26 := gmi_26.1; have rgmi_26 := gmi_26.2; have hz9 := Hid.un hf_168; omega) (show x_178.toInt ≤ (mi 26).toInt from by have qgx_178 := gx_178.1; have rgx_178 := gx_178.2; have igx_178 : x_178.toInt = w0_29.toInt + 1 := (by have hc1 : (1 : Int32).toInt = 1 := (by decide); have h9 := gi_addI ex_178 (by have h1 := gw0_29.1; have h2 := (gi_c 1 1 (by decide)).1; have h3 := gw0_29.2; have h4 := (gi_c 1 1 (by decide)).2; omega) (by have h1 := gw0_29.1; have h2 := (gi_c 1 1 (by decide)).1; have h3 := gw0_29.2; have h4 := (gi_c 1 1 (by decide)).2; omega); rw [hc1] at h9; exact h9); have qgw0_29 := gw0_29.1; have rgw0_29 := gw0_29.2; have qgr_169 := g_176.1; have rgr_169 := g_176.2; have qgr_164 := g_167.1; have rgr_164 := g_167.2; have qgr_159 := g_162.1; have rgr_159 := g_162.2; have qgr_152 := g_155.1; have rgr_152 := g_155.2; have qgr_143 := g_150.1; have rgr_143 := g_150.2; have qgmi_29 := gmi_29.1; have rgmi_29 := gmi_29.2; have qgmi_26 := gmi_26.1; have rgmi_26 := gmi_26.2; have hz9 := Hid.un hf_168; omega) (show ((3 : Int32).toInt = 0 ∨ w0_29.toInt < x_178.toInt) from by have k3 : (3 : Int32).toInt = 3 := (by decide); have qgx_178 := gx_178.1; have rgx_178 := gx_178.2; have igx_178 : x_178.toInt = w0_29.toInt + 1 := (by have hc1 : (1 : Int32).toInt = 1 := (by decide); have h9 := gi_addI ex_178 (by have h1 := gw0_29.1; have h2 := (gi_c 1 1 (by decide)).1; have h3 := gw0_29.2; have h4 := (gi_c 1 1 (by decide)).2; omega) (by have h1 := gw0_29.1; have h2 := (gi_c 1 1 (by decide)).1; have h3 := gw0_29.2; have h4 := (gi_c 1 1 (by decide)).2; omega); rw [hc1] at h9; exact h9); have qgw0_29 := gw0_29.1; have rgw0_29 := gw0_29.2; have qgr_169 := g_176.1; have rgr_169 := g_176.2; have qgr_164 := g_167.1; have rgr_164 := g_167.2; have qgr_159 := g_162.1; have rgr_159 := g_162.2; have qgr_152 := g_155.1; have rgr_152 := g_155.2; have qgr_143 := g_150.1; have rgr_143 := g_150.2; have qgmi_29 := gmi_29.1; have rgmi_29 := gmi_29.2; have qgmi_26 := gmi_26.1; have rgmi_26 := gmi_26.2; have hz9 := Hid.un hf_168; omega) (by rw [ex_178]; exact hF) hP hD hS (lv_sub hl [] rfl)
              · have hF := gf_neg c_165 hF
                have hc_179 : r_164.toInt ≠ 0 := fun h9 => c_165 (Int32.toInt_inj.mp (by rw [show (0 : Int32).toInt = 0 from by decide]; exact h9))
                have g_180 : gi r_164 1 1 := gi_ne_lo c_165 gr_164 (gi_c 0 0 (by decide)) (by decide)
                have hf_181 : (w0_29.toInt < (mi 26).toInt ∧ (48 : Int) ≤ (fm_tape w0_29.toNatClampNeg).toInt ∧ (fm_tape w0_29.toNatClampNeg).toInt ≤ (57 : Int)) := (Hid.un hqr_164).1 (gz_one g_180) 
                refine lv_aload_n hx hb dX12_next_118 rfl (lv_at hl 0 rfl) ?_
                refine lv_iconst (v := 2) hx hb dX12_next_119 (by decide) ?_
                refine va_put (D := (dC, dI)) (ci := 12) (v := .int 2) (ty := .int) (C := RX12) (T := TX12) (N := 57) hx hb hts (fun w h => List.mem_cons_of_mem _ (jnGB_X12 w h)) tyX12 tyX12_ok nmX12 hown hK hP hD hS 0 rfl rfl 31 (by decide) (hts _ (List.mem_cons_of_mem _ mGB_116)) (fun _ h9 => h9) rfl (by decide +kernel) rfl rfl (Nat.le_of_ble_eq_true rfl) dX12_next_120 (fun H locs hP hD hS => ?_)
                have hP : va_P (dC, dI) vwCl [(h0, .inr (12, fsMM (upd (upd (upd (upd mi 29 w0_29) 30 w0_29) 31 2) 32 0) mr)), ((mr 13), .inl (km_tape, 1600, .inl fm_tape))] H := hP
                have hD : va_D A [(h0, .inr (12, fsMM (upd (upd (upd (upd mi 29 w0_29) 30 w0_29) 31 2) 32 0) mr)), ((mr 13), .inl (km_tape, 1600, .inl fm_tape))] := hD
                exact ih.2.2 w0_29 w0_29 2 0 _ _ _ gw0_29 gw0_29 (gi_w (gi_c 0 0 (by decide)) (by decide)) hinv0 (show w0_29.toInt ≤ w0_29.toInt from by have qgw0_29 := gw0_29.1; have rgw0_29 := gw0_29.2; have qgr_164 := g_180.1; have rgr_164 := g_180.2; have qgr_159 := g_162.1; have rgr_159 := g_162.2; have qgr_152 := g_155.1; have rgr_152 := g_155.2; have qgr_143 := g_150.1; have rgr_143 := g_150.2; have qgmi_29 := gmi_29.1; have rgmi_29 := gmi_29.2; have qgmi_26 := gmi_26.1; have rgmi_26 := gmi_26.2; have hz9 := Hid.un hf_163; omega) hinv1 (show (w0_29.toInt < w0_29.toInt ∨ (w0_29.toInt < (mi 26).toInt ∧ 48 ≤ (fm_tape w0_29.toNatClampNeg).toInt ∧ (fm_tape w0_29.toNatClampNeg).toInt ≤ 57)) from by have qgw0_29 := gw0_29.1; have rgw0_29 := gw0_29.2; have qgr_164 := g_180.1; have rgr_164 := g_180.2; have qgr_159 := g_162.1; have rgr_159 := g_162.2; have qgr_152 := g_155.1; have rgr_152 := g_155.2; have qgr_143 := g_150.1; have rgr_143 := g_150.2; have qgmi_29 := gmi_29.1; have rgmi_29 := gmi_29.2; have qgmi_26 := gmi_26.1; have rgmi_26 := gmi_26.2; have hz9 := Hid.un hf_163; omega) hF (by have aw0_29 := gw0_29.1; have bw0_29 := gw0_29.2; have qgw0_29 := gw0_29.1; have rgw0_29 := gw0_29.2; omega) hP hD hS (lv_sub hl [0] rfl)
            · have hF := gf_neg c_160 hF
              have hc_182 : r_159.toInt ≠ 0 := fun h9 => c_160 (Int32.toInt_inj.mp (by rw [show (0 : Int32).toInt = 0 from by decide]; exact h9))
              have g_183 : gi r_159 1 1 := gi_ne_lo c_160 gr_159 (gi_c 0 0 (by decide)) (by decide)
              have hf_184 : (w0_29.toInt < (mi 26).toInt ∧ (97 : Int) ≤ (fm_tape w0_29.toNatClampNeg).toInt ∧ (fm_tape w0_29.toNatClampNeg).toInt ≤ (122 : Int)) := (Hid.un hqr_159).1 (gz_one g_183) 
              refine lv_aload_n hx hb dX12_next_78 rfl (lv_at hl 0 rfl) ?_
              refine lv_iconst (v := 1) hx hb dX12_next_79 (by decide) ?_
              refine va_put (D := (dC, dI)) (ci := 12) (v := .int 1) (ty := .int) (C := RX12) (T := TX12) (N := 57) hx hb hts (fun w h => List.mem_cons_of_mem _ (jnGB_X12 w h)) tyX12 tyX12_ok nmX12 hown hK hP hD hS 0 rfl rfl 31 (by decide) (hts _ (List.mem_cons_of_mem _ mGB_116)) (fun _ h9 => h9) rfl (by decide +kernel) rfl rfl (Nat.le_of_ble_eq_true rfl) dX12_next_80 (fun H locs hP hD hS => ?_)
              have hP : va_P (dC, dI) vwCl [(h0, .inr (12, fsMM (upd (upd (upd (upd mi 29 w0_29) 30 w0_29) 31 1) 32 0) mr)), ((mr 13), .inl (km_tape, 1600, .inl fm_tape))] H := hP
              have hD : va_D A [(h0, .inr (12, fsMM (upd (upd (upd (upd mi 29 w0_29) 30 w0_29) 31 1) 32 0) mr)), ((mr 13), .inl (km_tape, 1600, .inl fm_tape))] := hD
              exact ih.2.1 w0_29 w0_29 1 0 _ _ _ gw0_29 gw0_29 (gi_w (gi_c 0 0 (by decide)) (by decide)) hinv0 (show w0_29.toInt ≤ w0_29.toInt from by have qgw0_29 := gw0_29.1; have rgw0_29 := gw0_29.2; have qgr_159 := g_183.1; have rgr_159 := g_183.2; have qgr_152 := g_155.1; have rgr_152 := g_155.2; have qgr_143 := g_150.1; have rgr_143 := g_150.2; have qgmi_29 := gmi_29.1; have rgmi_29 := gmi_29.2; have qgmi_26 := gmi_26.1; have rgmi_26 := gmi_26.2; have hz9 := Hid.un hf_156; omega) hinv1 (show (w0_29.toInt < w0_29.toInt ∨ (w0_29.toInt < (mi 26).toInt ∧ 97 ≤ (fm_tape w0_29.toNatClampNeg).toInt ∧ (fm_tape w0_29.toNatClampNeg).toInt ≤ 122)) from by have qgw0_29 := gw0_29.1; have rgw0_29 := gw0_29.2; have qgr_159 := g_183.1; have rgr_159 := g_183.2; have qgr_152 := g_155.1; have rgr_152 := g_155.2; have qgr_143 := g_150.1; have rgr_143 := g_150.2; have qgmi_29 := gmi_29.1; have rgmi_29 := gmi_29.2; have qgmi_26 := gmi_26.1; have rgmi_26 := gmi_26.2; have hz9 := Hid.un hf_156; omega) hF (by have aw0_29 := gw0_29.1; have bw0_29 := gw0_29.2; have qgw0_29 := gw0_29.1; have rgw0_29 := gw0_29.2; omega) hP hD hS (lv_sub hl [0] rfl)
          · have hF := gf_pos c_157 hF
            have hc_185 : w0_29.toInt = (mi 26).toInt := by have h9 := congrArg Int32.toInt c_157; exact h9
            refine lv_aload_n hx hb dX12_next_59 rfl (lv_at hl 0 rfl) ?_
            refine lv_iconst (v := 0) hx hb dX12_next_60 (by decide) ?_
            refine va_put (D := (dC, dI)) (ci := 12) (v := .int 0) (ty := .int) (C := RX12) (T := TX12) (N := 57) hx hb hts (fun w h => List.mem_cons_of_mem _ (jnGB_X12 w h)) tyX12 tyX12_ok nmX12 hown hK hP hD hS 0 rfl rfl 31 (by decide) (hts _ (List.mem_cons_of_mem _ mGB_116)) (fun _ h9 => h9) rfl (by decide +kernel) rfl rfl (Nat.le_of_ble_eq_true rfl) dX12_next_61 (fun H locs hP hD hS => ?_)
            have hP : va_P (dC, dI) vwCl [(h0, .inr (12, fsMM (upd (upd (upd (upd mi 29 w0_29) 30 w0_29) 31 0) 32 0) mr)), ((mr 13), .inl (km_tape, 1600, .inl fm_tape))] H := hP
            have hD : va_D A [(h0, .inr (12, fsMM (upd (upd (upd (upd mi 29 w0_29) 30 w0_29) 31 0) 32 0) mr)), ((mr 13), .inl (km_tape, 1600, .inl fm_tape))] := hD
            refine lv_goto (tgt := 206) hx hb dX12_next_64 (by decide) ?_
            exact kr206 w0_29 w0_29 0 0 _ _ _ gw0_29 gw0_29 (gi_w (gi_c 0 0 (by decide)) (by decide)) hinv0 (show w0_29.toInt ≤ w0_29.toInt from by have qgw0_29 := gw0_29.1; have rgw0_29 := gw0_29.2; have qgr_152 := g_155.1; have rgr_152 := g_155.2; have qgr_143 := g_150.1; have rgr_143 := g_150.2; have qgmi_29 := gmi_29.1; have rgmi_29 := gmi_29.2; have qgmi_26 := gmi_26.1; have rgmi_26 := gmi_26.2; have hz9 := Hid.un hf_156; omega) hinv1 (show ((0 : Int32).toInt = 0 ∨ w0_29.toInt < w0_29.toInt) from by have k0 : (0 : Int32).toInt = 0 := (by decide); have qgw0_29 := gw0_29.1; have rgw0_29 := gw0_29.2; have qgr_152 := g_155.1; have rgr_152 := g_155.2; have qgr_143 := g_150.1; have rgr_143 := g_150.2; have qgmi_29 := gmi_29.1; have rgmi_29 := gmi_29.2; have qgmi_26 := gmi_26.1; have rgmi_26 := gmi_26.2; have hz9 := Hid.un hf_156; omega) hF hP hD hS (lv_sub hl [] rfl)
        · have hF := gf_neg c_153 hF
          have hc_186 : r_152.toInt ≠ 0 := fun h9 => c_153 (Int32.toInt_inj.mp (by rw [show (0 : Int32).toInt = 0 from by decide]; exact h9))
          have g_187 : gi r_152 1 1 := gi_ne_lo c_153 gr_152 (gi_c 0 0 (by decide)) (by decide)
          have hf_188 : (w0_29.toInt < (mi 26).toInt ∧ (10 : Int) ≤ (fm_tape w0_29.toNatClampNeg).toInt ∧ (fm_tape w0_29.toNatClampNeg).toInt ≤ (10 : Int)) := (Hid.un hqr_152).1 (gz_one g_187) 
          refine lv_aload_n hx hb dX12_next_22 rfl (lv_at hl 0 rfl) ?_
          refine lv_dup hx hb dX12_next_23 rfl ?_
          refine va_get (D := (dC, dI)) (ci := 12) (v := .int w0_29) (C := RX12) (T := TX12) (N := 57) hx hb hts (fun w h => List.mem_cons_of_mem _ (jnGB_X12 w h)) hown hK hP 0 rfl rfl 29 (by decide) (hts _ (List.mem_cons_of_mem _ mGB_113)) (fun _ h9 => h9) rfl dX12_next_24 ?_
          refine lv_iconst (v := 1) hx hb dX12_next_27 (by decide) ?_
          refine lv_iadd hx hb dX12_next_28 ?_
          refine lv_topi (fun x_189 ex_189 => ?_)
          have gx_189 : gi x_189 1 1601 := gi_add ex_189 gw0_29 (gi_c 1 1 (by decide)) (by decide)
          refine va_put (D := (dC, dI)) (ci := 12) (v := .int x_189) (ty := .int) (C := RX12) (T := TX12) (N := 57) hx hb hts (fun w h => List.mem_cons_of_mem _ (jnGB_X12 w h)) tyX12 tyX12_ok nmX12 hown hK hP hD hS 0 rfl rfl 29 (by decide) (hts _ (List.mem_cons_of_mem _ mGB_113)) (fun _ h9 => h9) rfl (by decide +kernel) rfl rfl (Nat.le_of_ble_eq_true rfl) dX12_next_29 (fun H locs hP hD hS => ?_)
          have hP : va_P (dC, dI) vwCl [(h0, .inr (12, fsMM (upd mi 29 x_189) mr)), ((mr 13), .inl (km_tape, 1600, .inl fm_tape))] H := hP
          have hD : va_D A [(h0, .inr (12, fsMM (upd mi 29 x_189) mr)), ((mr 13), .inl (km_tape, 1600, .inl fm_tape))] := hD
          refine lv_goto (tgt := 0) hx hb dX12_next_32 (by decide) ?_
          exact ih.1 x_189 _ _ _ (show gi x_189 0 1600 from ⟨by have qgx_189 := gx_189.1; have rgx_189 := gx_189.2; have igx_189 : x_189.toInt = w0_29.toInt + 1 := (by have hc1 : (1 : Int32).toInt = 1 := (by decide); have h9 := gi_addI ex_189 (by have h1 := gw0_29.1; have h2 := (gi_c 1 1 (by decide)).1; have h3 := gw0_29.2; have h4 := (gi_c 1 1 (by decide)).2; omega) (by have h1 := gw0_29.1; have h2 := (gi_c 1 1 (by decide)).1; have h3 := gw0_29.2; have h4 := (gi_c 1 1 (by decide)).2; omega); rw [hc1] at h9; exact h9); have qgw0_29 := gw0_29.1; have rgw0_29 := gw0_29.2; have qgr_152 := g_187.1; have rgr_152 := g_187.2; have qgr_143 := g_150.1; have rgr_143 := g_150.2; have qgmi_29 := gmi_29.1; have rgmi_29 := gmi_29.2; have qgmi_26 := gmi_26.1; have rgmi_26 := gmi_26.2; have hz9 := Hid.un hf_151; omega, by have qgx_189 := gx_189.1; have rgx_189 := gx_189.2; have igx_189 : x_189.toInt = w0_29.toInt + 1 := (by have hc1 : (1 : Int32).toInt = 1 := (by decide); have h9 := gi_addI ex_189 (by have h1 := gw0_29.1; have h2 := (gi_c 1 1 (by decide)).1; have h3 := gw0_29.2; have h4 := (gi_c 1 1 (by decide)).2; omega) (by have h1 := gw0_29.1; have h2 := (gi_c 1 1 (by decide)).1; have h3 := gw0_29.2; have h4 := (gi_c 1 1 (by decide)).2; omega); rw [hc1] at h9; exact h9); have qgw0_29 := gw0_29.1; have rgw0_29 := gw0_29.2; have qgr_152 := g_187.1; have rgr_152 := g_187.2; have qgr_143 := g_150.1; have rgr_143 := g_150.2; have qgmi_29 := gmi_29.1; have rgmi_29 := gmi_29.2; have qgmi_26 := gmi_26.1; have rgmi_26 := gmi_26.2; have hz9 := Hid.un hf_151; omega⟩) (show (mi 29).toInt ≤ x_189.toInt from by have qgx_189 := gx_189.1; have rgx_189 := gx_189.2; have igx_189 : x_189.toInt = w0_29.toInt + 1 := (by have hc1 : (1 : Int32).toInt = 1 := (by decide); have h9 := gi_addI ex_189 (by have h1 := gw0_29.1; have h2 := (gi_c 1 1 (by decide)).1; have h3 := gw0_29.2; have h4 := (gi_c 1 1 (by decide)).2; omega) (by have h1 := gw0_29.1; have h2 := (gi_c 1 1 (by decide)).1; have h3 := gw0_29.2; have h4 := (gi_c 1 1 (by decide)).2; omega); rw [hc1] at h9; exact h9); have qgw0_29 := gw0_29.1; have rgw0_29 := gw0_29.2; have qgr_152 := g_187.1; have rgr_152 := g_187.2; have qgr_143 := g_150.1; have rgr_143 := g_150.2; have qgmi_29 := gmi_29.1; have rgmi_29 := gmi_29.2; have qgmi_26 := gmi_26.1; have rgmi_26 := gmi_26.2; have hz9 := Hid.un hf_151; omega) (show x_189.toInt ≤ (mi 26).toInt from by have qgx_189 := gx_189.1; have rgx_189 := gx_189.2; have igx_189 : x_189.toInt = w0_29.toInt + 1 := (by have hc1 : (1 : Int32).toInt = 1 := (by decide); have h9 := gi_addI ex_189 (by have h1 := gw0_29.1; have h2 := (gi_c 1 1 (by decide)).1; have h3 := gw0_29.2; have h4 := (gi_c 1 1 (by decide)).2; omega) (by have h1 := gw0_29.1; have h2 := (gi_c 1 1 (by decide)).1; have h3 := gw0_29.2; have h4 := (gi_c 1 1 (by decide)).2; omega); rw [hc1] at h9; exact h9); have qgw0_29 := gw0_29.1; have rgw0_29 := gw0_29.2; have qgr_152 := g_187.1; have rgr_152 := g_187.2; have qgr_143 := g_150.1; have rgr_143 := g_150.2; have qgmi_29 := gmi_29.1; have rgmi_29 := gmi_29.2; have qgmi_26 := gmi_26.1; have rgmi_26 := gmi_26.2; have hz9 := Hid.un hf_151; omega) (by rw [ex_189]; exact hF) (by have aw0_29 := gw0_29.1; have bw0_29 := gw0_29.2; have qgx_189 := gx_189.1; have rgx_189 := gx_189.2; have igx_189 : x_189.toInt = w0_29.toInt + 1 := (by have hc1 : (1 : Int32).toInt = 1 := (by decide); have h9 := gi_addI ex_189 (by have h1 := gw0_29.1; have h2 := (gi_c 1 1 (by decide)).1; have h3 := gw0_29.2; have h4 := (gi_c 1 1 (by decide)).2; omega) (by have h1 := gw0_29.1; have h2 := (gi_c 1 1 (by decide)).1; have h3 := gw0_29.2; have h4 := (gi_c 1 1 (by decide)).2; omega); rw [hc1] at h9; exact h9); have qgw0_29 := gw0_29.1; have rgw0_29 := gw0_29.2; omega) hP hD hS (lv_sub hl [0] rfl)
    · intro w0_29 w0_30 w0_31 w0_32 H locs ls gw0_29 gw0_30 gw0_32 hinv0 hinv1 hinv2 hinv3 hF hmu hP hD hS hl
      have hF : dfX12_next_83 mi fm_tape (lfX12_next mi fm_tape z) w0_29 w0_30 w0_31 w0_32 = RES := hF
      refine lv_aload_n hx hb dX12_next_83 rfl (lv_at hl 0 rfl) ?_
      refine lv_bipush (v := 97) hx hb dX12_next_84 (by decide) ?_
      refine lv_bipush (v := 122) hx hb dX12_next_86 (by decide) ?_
      have hPc := hP.sub (ws' := [(h0, .inr (12, fsMM (upd (upd (upd (upd mi 29 w0_29) 30 w0_30) 31 w0_31) 32 w0_32) mr)), ((mr 13), .inl (km_tape, 1600, .inl fm_tape))]) [0, 1] rfl
      have hKc := hK.sub (tys' := [(km_tape, .int)]) [0] rfl
      refine va_calli (va_runV (As := [.int 97, .int 122]) (rest := []) ⟨hx, hb, hml, hown, hts⟩ (sX12_isAtP l dC dI h0 (upd (upd (upd (upd mi 29 w0_29) 30 w0_30) 31 w0_31) 32 w0_32) mr km_tape fm_tape 97 122 gmi_0 gmi_1 gmi_2 gmi_4 gmi_7 gmi_10 gmi_17 gmi_23 gmi_24 gmi_26 gw0_29 gw0_30 gw0_32 gmi_33 gmi_37 gmi_41 gmi_50 gmi_51 gmi_56) (cwV 2 hts (gz_gV mGB_139 mGB_140 mGB_141 mGB_1 mGB_142 goodGB) rfl rfl rfl (by decide +kernel) ⟨Nat.le_trans (Nat.le_of_ble_eq_true rfl) hRf, Nat.le_trans (Nat.le_of_ble_eq_true rfl) hRl⟩) ⟨fun a U g mk q => by obtain ⟨q0, qP, qK⟩ := q; exact ⟨q0, qP, va_K.moved (u := U) (U := U.calling g mk a) (Vm.Alike.refl U.vm) qK⟩, va_recv hKc hPc (ci := 12) (q0 := 0) rfl rfl, fun U hU hW => ⟨rfl, by rw [hU]; exact hPc, va_K.moved hW.alike hKc⟩⟩ rfl rfl hl.1 rfl (lv_room (Nat.le_of_ble_eq_true rfl)) dX12_next_88 ⟨hRc, hRs⟩) hS (fun q _ h => h.elim) (fun q h => h.elim) (fun r_190 u t H1 locs ht hvm hw hB hz1 hk1 hS => ?_)
      obtain ⟨hw, hE⟩ := hw
      have hP := gz_keep hP hk1
      have hF := gf_callm (a := r_190) hE hF (by first | with_reducible rfl | simp only [upd_same, upd_app, ↓reduceIte, Nat.reduceEqDiff])
      generalize H1 = H at hP hS ⊢
      have gr_190 : gi r_190 0 1 := hw.1
      have hqr_190 : Hid ((r_190.toInt = 1 → (w0_29.toInt < (mi 26).toInt ∧ (97 : Int) ≤ (fm_tape w0_29.toNatClampNeg).toInt ∧ (fm_tape w0_29.toNatClampNeg).toInt ≤ (122 : Int))) ∧ (r_190.toInt = 0 → ((mi 26).toInt ≤ w0_29.toInt ∨ (fm_tape w0_29.toNatClampNeg).toInt < (97 : Int) ∨ (122 : Int) < (fm_tape w0_29.toNatClampNeg).toInt))) := by have h9 : (r_190.toInt = 1 → (w0_29.toInt < (mi 26).toInt ∧ (97 : Int32).toInt ≤ (fm_tape w0_29.toNatClampNeg).toInt ∧ (fm_tape w0_29.toNatClampNeg).toInt ≤ (122 : Int32).toInt)) ∧ (r_190.toInt = 0 → ((mi 26).toInt ≤ w0_29.toInt ∨ (fm_tape w0_29.toNatClampNeg).toInt < (97 : Int32).toInt ∨ (122 : Int32).toInt < (fm_tape w0_29.toNatClampNeg).toInt)) := hw.2; rw [show (122 : Int32).toInt = 122 from by decide] at h9; rw [show (97 : Int32).toInt = 97 from by decide] at h9; exact h9
      clear hw
      refine lv_if_eq (tgt := 206) hx hb dX12_next_91 (by decide) (fun c_191 => ?_) (fun c_191 => ?_)
      · have hF := gf_pos c_191 hF
        have hc_192 : r_190.toInt = 0 := by have h9 := congrArg Int32.toInt c_191; rw [show (0 : Int32).toInt = 0 from by decide] at h9; exact h9
        have g_193 : gi r_190 0 0 := gi_eq c_191 (gi_c 0 0 (by decide))
        have hf_194 : Hid (((mi 26).toInt ≤ w0_29.toInt ∨ (fm_tape w0_29.toNatClampNeg).toInt < (97 : Int) ∨ (122 : Int) < (fm_tape w0_29.toNatClampNeg).toInt)) := (Hid.un hqr_190).2 (gz_zero1 g_193) 
        exact kr206 w0_29 w0_30 w0_31 w0_32 _ _ _ gw0_29 gw0_30 gw0_32 hinv0 hinv1 hinv2 (show (w0_31.toInt = 0 ∨ w0_30.toInt < w0_29.toInt) from by have qgw0_30 := gw0_30.1; have rgw0_30 := gw0_30.2; have qgw0_29 := gw0_29.1; have rgw0_29 := gw0_29.2; have qgr_190 := g_193.1; have rgr_190 := g_193.2; have qgmi_29 := gmi_29.1; have rgmi_29 := gmi_29.2; have qgmi_26 := gmi_26.1; have rgmi_26 := gmi_26.2; have hz9 := Hid.un hf_194; omega) hF hP hD hS (lv_sub hl [] rfl)
      · have hF := gf_neg c_191 hF
        have hc_195 : r_190.toInt ≠ 0 := fun h9 => c_191 (Int32.toInt_inj.mp (by rw [show (0 : Int32).toInt = 0 from by decide]; exact h9))
        have g_196 : gi r_190 1 1 := gi_ne_lo c_191 gr_190 (gi_c 0 0 (by decide)) (by decide)
        have hf_197 : (w0_29.toInt < (mi 26).toInt ∧ (97 : Int) ≤ (fm_tape w0_29.toNatClampNeg).toInt ∧ (fm_tape w0_29.toNatClampNeg).toInt ≤ (122 : Int)) := (Hid.un hqr_190).1 (gz_one g_196) 
        refine lv_aload_n hx hb dX12_next_94 rfl (lv_at hl 0 rfl) ?_
        refine lv_dup hx hb dX12_next_95 rfl ?_
        refine va_get (D := (dC, dI)) (ci := 12) (v := .int w0_29) (C := RX12) (T := TX12) (N := 57) hx hb hts (fun w h => List.mem_cons_of_mem _ (jnGB_X12 w h)) hown hK hP 0 rfl rfl 29 (by decide) (hts _ (List.mem_cons_of_mem _ mGB_113)) (fun _ h9 => h9) rfl dX12_next_96 ?_
        refine lv_iconst (v := 1) hx hb dX12_next_99 (by decide) ?_
        refine lv_iadd hx hb dX12_next_100 ?_
        refine lv_topi (fun x_198 ex_198 => ?_)
        have gx_198 : gi x_198 1 1601 := gi_add ex_198 gw0_29 (gi_c 1 1 (by decide)) (by decide)
        refine va_put (D := (dC, dI)) (ci := 12) (v := .int x_198) (ty := .int) (C := RX12) (T := TX12) (N := 57) hx hb hts (fun w h => List.mem_cons_of_mem _ (jnGB_X12 w h)) tyX12 tyX12_ok nmX12 hown hK hP hD hS 0 rfl rfl 29 (by decide) (hts _ (List.mem_cons_of_mem _ mGB_113)) (fun _ h9 => h9) rfl (by decide +kernel) rfl rfl (Nat.le_of_ble_eq_true rfl) dX12_next_101 (fun H locs hP hD hS => ?_)
        have hP : va_P (dC, dI) vwCl [(h0, .inr (12, fsMM (upd (upd (upd (upd mi 29 x_198) 30 w0_30) 31 w0_31) 32 w0_32) mr)), ((mr 13), .inl (km_tape, 1600, .inl fm_tape))] H := hP
        have hD : va_D A [(h0, .inr (12, fsMM (upd (upd (upd (upd mi 29 x_198) 30 w0_30) 31 w0_31) 32 w0_32) mr)), ((mr 13), .inl (km_tape, 1600, .inl fm_tape))] := hD
        refine lv_goto (tgt := 83) hx hb dX12_next_104 (by decide) ?_
        exact ih.2.1 x_198 w0_30 w0_31 w0_32 _ _ _ (show gi x_198 0 1600 from ⟨by have qgx_198 := gx_198.1; have rgx_198 := gx_198.2; have igx_198 : x_198.toInt = w0_29.toInt + 1 := (by have hc1 : (1 : Int32).toInt = 1 := (by decide); have h9 := gi_addI ex_198 (by have h1 := gw0_29.1; have h2 := (gi_c 1 1 (by decide)).1; have h3 := gw0_29.2; have h4 := (gi_c 1 1 (by decide)).2; omega) (by have h1 := gw0_29.1; have h2 := (gi_c 1 1 (by decide)).1; have h3 := gw0_29.2; have h4 := (gi_c 1 1 (by decide)).2; omega); rw [hc1] at h9; exact h9); have qgw0_29 := gw0_29.1; have rgw0_29 := gw0_29.2; have qgw0_30 := gw0_30.1; have rgw0_30 := gw0_30.2; have qgr_190 := g_196.1; have rgr_190 := g_196.2; have qgmi_29 := gmi_29.1; have rgmi_29 := gmi_29.2; have qgmi_26 := gmi_26.1; have rgmi_26 := gmi_26.2; omega, by have qgx_198 := gx_198.1; have rgx_198 := gx_198.2; have igx_198 : x_198.toInt = w0_29.toInt + 1 := (by have hc1 : (1 : Int32).toInt = 1 := (by decide); have h9 := gi_addI ex_198 (by have h1 := gw0_29.1; have h2 := (gi_c 1 1 (by decide)).1; have h3 := gw0_29.2; have h4 := (gi_c 1 1 (by decide)).2; omega) (by have h1 := gw0_29.1; have h2 := (gi_c 1 1 (by decide)).1; have h3 := gw0_29.2; have h4 := (gi_c 1 1 (by decide)).2; omega); rw [hc1] at h9; exact h9); have qgw0_29 := gw0_29.1; have rgw0_29 := gw0_29.2; have qgw0_30 := gw0_30.1; have rgw0_30 := gw0_30.2; have qgr_190 := g_196.1; have rgr_190 := g_196.2; have qgmi_29 := gmi_29.1; have rgmi_29 := gmi_29.2; have qgmi_26 := gmi_26.1; have rgmi_26 := gmi_26.2; omega⟩) gw0_30 gw0_32 hinv0 (show w0_30.toInt ≤ x_198.toInt from by have qgx_198 := gx_198.1; have rgx_198 := gx_198.2; have igx_198 : x_198.toInt = w0_29.toInt + 1 := (by have hc1 : (1 : Int32).toInt = 1 := (by decide); have h9 := gi_addI ex_198 (by have h1 := gw0_29.1; have h2 := (gi_c 1 1 (by decide)).1; have h3 := gw0_29.2; have h4 := (gi_c 1 1 (by decide)).2; omega) (by have h1 := gw0_29.1; have h2 := (gi_c 1 1 (by decide)).1; have h3 := gw0_29.2; have h4 := (gi_c 1 1 (by decide)).2; omega); rw [hc1] at h9; exact h9); have qgw0_29 := gw0_29.1; have rgw0_29 := gw0_29.2; have qgw0_30 := gw0_30.1; have rgw0_30 := gw0_30.2; have qgr_190 := g_196.1; have rgr_190 := g_196.2; have qgmi_29 := gmi_29.1; have rgmi_29 := gmi_29.2; have qgmi_26 := gmi_26.1; have rgmi_26 := gmi_26.2; omega) (show x_198.toInt ≤ (mi 26).toInt from by have qgx_198 := gx_198.1; have rgx_198 := gx_198.2; have igx_198 : x_198.toInt = w0_29.toInt + 1 := (by have hc1 : (1 : Int32).toInt = 1 := (by decide); have h9 := gi_addI ex_198 (by have h1 := gw0_29.1; have h2 := (gi_c 1 1 (by decide)).1; have h3 := gw0_29.2; have h4 := (gi_c 1 1 (by decide)).2; omega) (by have h1 := gw0_29.1; have h2 := (gi_c 1 1 (by decide)).1; have h3 := gw0_29.2; have h4 := (gi_c 1 1 (by decide)).2; omega); rw [hc1] at h9; exact h9); have qgw0_29 := gw0_29.1; have rgw0_29 := gw0_29.2; have qgw0_30 := gw0_30.1; have rgw0_30 := gw0_30.2; have qgr_190 := g_196.1; have rgr_190 := g_196.2; have qgmi_29 := gmi_29.1; have rgmi_29 := gmi_29.2; have qgmi_26 := gmi_26.1; have rgmi_26 := gmi_26.2; omega) (show (w0_30.toInt < x_198.toInt ∨ (x_198.toInt < (mi 26).toInt ∧ 97 ≤ (fm_tape x_198.toNatClampNeg).toInt ∧ (fm_tape x_198.toNatClampNeg).toInt ≤ 122)) from by have qgx_198 := gx_198.1; have rgx_198 := gx_198.2; have igx_198 : x_198.toInt = w0_29.toInt + 1 := (by have hc1 : (1 : Int32).toInt = 1 := (by decide); have h9 := gi_addI ex_198 (by have h1 := gw0_29.1; have h2 := (gi_c 1 1 (by decide)).1; have h3 := gw0_29.2; have h4 := (gi_c 1 1 (by decide)).2; omega) (by have h1 := gw0_29.1; have h2 := (gi_c 1 1 (by decide)).1; have h3 := gw0_29.2; have h4 := (gi_c 1 1 (by decide)).2; omega); rw [hc1] at h9; exact h9); have qgw0_29 := gw0_29.1; have rgw0_29 := gw0_29.2; have qgw0_30 := gw0_30.1; have rgw0_30 := gw0_30.2; have qgr_190 := g_196.1; have rgr_190 := g_196.2; have qgmi_29 := gmi_29.1; have rgmi_29 := gmi_29.2; have qgmi_26 := gmi_26.1; have rgmi_26 := gmi_26.2; omega) (by rw [ex_198]; exact hF) (by have aw0_29 := gw0_29.1; have bw0_29 := gw0_29.2; have qgx_198 := gx_198.1; have rgx_198 := gx_198.2; have igx_198 : x_198.toInt = w0_29.toInt + 1 := (by have hc1 : (1 : Int32).toInt = 1 := (by decide); have h9 := gi_addI ex_198 (by have h1 := gw0_29.1; have h2 := (gi_c 1 1 (by decide)).1; have h3 := gw0_29.2; have h4 := (gi_c 1 1 (by decide)).2; omega) (by have h1 := gw0_29.1; have h2 := (gi_c 1 1 (by decide)).1; have h3 := gw0_29.2; have h4 := (gi_c 1 1 (by decide)).2; omega); rw [hc1] at h9; exact h9); have qgw0_29 := gw0_29.1; have rgw0_29 := gw0_29.2; omega) hP hD hS (lv_sub hl [0] rfl)
    · intro w0_29 w0_30 w0_31 w0_32 H locs ls gw0_29 gw0_30 gw0_32 hinv0 hinv1 hinv2 hinv3 hF hmu hP hD hS hl
      have hF : dfX12_next_123 mi fm_tape (lfX12_next mi fm_tape z) w0_29 w0_30 w0_31 w0_32 = RES := hF
      refine lv_aload_n hx hb dX12_next_123 rfl (lv_at hl 0 rfl) ?_
      refine lv_bipush (v := 48) hx hb dX12_next_124 (by decide) ?_
      refine lv_bipush (v := 57) hx hb dX12_next_126 (by decide) ?_
      have hPc := hP.sub (ws' := [(h0, .inr (12, fsMM (upd (upd (upd (upd mi 29 w0_29) 30 w0_30) 31 w0_31) 32 w0_32) mr)), ((mr 13), .inl (km_tape, 1600, .inl fm_tape))]) [0, 1] rfl
      have hKc := hK.sub (tys' := [(km_tape, .int)]) [0] rfl
      refine va_calli (va_runV (As := [.int 48, .int 57]) (rest := []) ⟨hx, hb, hml, hown, hts⟩ (sX12_isAtP l dC dI h0 (upd (upd (upd (upd mi 29 w0_29) 30 w0_30) 31 w0_31) 32 w0_32) mr km_tape fm_tape 48 57 gmi_0 gmi_1 gmi_2 gmi_4 gmi_7 gmi_10 gmi_17 gmi_23 gmi_24 gmi_26 gw0_29 gw0_30 gw0_32 gmi_33 gmi_37 gmi_41 gmi_50 gmi_51 gmi_56) (cwV 2 hts (gz_gV mGB_139 mGB_140 mGB_141 mGB_1 mGB_142 goodGB) rfl rfl rfl (by decide +kernel) ⟨Nat.le_trans (Nat.le_of_ble_eq_true rfl) hRf, Nat.le_trans (Nat.le_of_ble_eq_true rfl) hRl⟩) ⟨fun a U g mk q => by obtain ⟨q0, qP, qK⟩ := q; exact ⟨q0, qP, va_K.moved (u := U) (U := U.calling g mk a) (Vm.Alike.refl U.vm) qK⟩, va_recv hKc hPc (ci := 12) (q0 := 0) rfl rfl, fun U hU hW => ⟨rfl, by rw [hU]; exact hPc, va_K.moved hW.alike hKc⟩⟩ rfl rfl hl.1 rfl (lv_room (Nat.le_of_ble_eq_true rfl)) dX12_next_128 ⟨hRc, hRs⟩) hS (fun q _ h => h.elim) (fun q h => h.elim) (fun r_199 u t H1 locs ht hvm hw hB hz1 hk1 hS => ?_)
      obtain ⟨hw, hE⟩ := hw
      have hP := gz_keep hP hk1
      have hF := gf_callm (a := r_199) hE hF (by first | with_reducible rfl | simp only [upd_same, upd_app, ↓reduceIte, Nat.reduceEqDiff])
      generalize H1 = H at hP hS ⊢
      have gr_199 : gi r_199 0 1 := hw.1
      have hqr_199 : Hid ((r_199.toInt = 1 → (w0_29.toInt < (mi 26).toInt ∧ (48 : Int) ≤ (fm_tape w0_29.toNatClampNeg).toInt ∧ (fm_tape w0_29.toNatClampNeg).toInt ≤ (57 : Int))) ∧ (r_199.toInt = 0 → ((mi 26).toInt ≤ w0_29.toInt ∨ (fm_tape w0_29.toNatClampNeg).toInt < (48 : Int) ∨ (57 : Int) < (fm_tape w0_29.toNatClampNeg).toInt))) := by have h9 : (r_199.toInt = 1 → (w0_29.toInt < (mi 26).toInt ∧ (48 : Int32).toInt ≤ (fm_tape w0_29.toNatClampNeg).toInt ∧ (fm_tape w0_29.toNatClampNeg).toInt ≤ (57 : Int32).toInt)) ∧ (r_199.toInt = 0 → ((mi 26).toInt ≤ w0_29.toInt ∨ (fm_tape w0_29.toNatClampNeg).toInt < (48 : Int32).toInt ∨ (57 : Int32).toInt < (fm_tape w0_29.toNatClampNeg).toInt)) := hw.2; rw [show (48 : Int32).toInt = 48 from by decide] at h9; rw [show (57 : Int32).toInt = 57 from by decide] at h9; exact h9
      clear hw
      refine lv_if_eq (tgt := 206) hx hb dX12_next_131 (by decide) (fun c_200 => ?_) (fun c_200 => ?_)
      · have hF := gf_pos c_200 hF
        have hc_201 : r_199.toInt = 0 := by have h9 := congrArg Int32.toInt c_200; rw [show (0 : Int32).toInt = 0 from by decide] at h9; exact h9
        have g_202 : gi r_199 0 0 := gi_eq c_200 (gi_c 0 0 (by decide))
        have hf_203 : Hid (((mi 26).toInt ≤ w0_29.toInt ∨ (fm_tape w0_29.toNatClampNeg).toInt < (48 : Int) ∨ (57 : Int) < (fm_tape w0_29.toNatClampNeg).toInt)) := (Hid.un hqr_199).2 (gz_zero1 g_202) 
        exact kr206 w0_29 w0_30 w0_31 w0_32 _ _ _ gw0_29 gw0_30 gw0_32 hinv0 hinv1 hinv2 (show (w0_31.toInt = 0 ∨ w0_30.toInt < w0_29.toInt) from by have qgw0_30 := gw0_30.1; have rgw0_30 := gw0_30.2; have qgw0_29 := gw0_29.1; have rgw0_29 := gw0_29.2; have qgr_199 := g_202.1; have rgr_199 := g_202.2; have qgmi_29 := gmi_29.1; have rgmi_29 := gmi_29.2; have qgmi_26 := gmi_26.1; have rgmi_26 := gmi_26.2; have hz9 := Hid.un hf_203; omega) hF hP hD hS (lv_sub hl [] rfl)
      · have hF := gf_neg c_200 hF
        have hc_204 : r_199.toInt ≠ 0 := fun h9 => c_200 (Int32.toInt_inj.mp (by rw [show (0 : Int32).toInt = 0 from by decide]; exact h9))
        have g_205 : gi r_199 1 1 := gi_ne_lo c_200 gr_199 (gi_c 0 0 (by decide)) (by decide)
        have hf_206 : (w0_29.toInt < (mi 26).toInt ∧ (48 : Int) ≤ (fm_tape w0_29.toNatClampNeg).toInt ∧ (fm_tape w0_29.toNatClampNeg).toInt ≤ (57 : Int)) := (Hid.un hqr_199).1 (gz_one g_205) 
        refine lv_aload_n hx hb dX12_next_134 rfl (lv_at hl 0 rfl) ?_
        refine lv_ldc (own := RX12) (v := 100000) hx hb hown (hts _ (List.mem_cons_of_mem _ mGB_137)) dX12_next_135 ?_
        refine lv_bipush (v := 10) hx hb dX12_next_137 (by decide) ?_
        refine lv_aload_n hx hb dX12_next_139 rfl (lv_at hl 0 rfl) ?_
        refine va_get (D := (dC, dI)) (ci := 12) (v := .int w0_32) (C := RX12) (T := TX12) (N := 57) hx hb hts (fun w h => List.mem_cons_of_mem _ (jnGB_X12 w h)) hown hK hP 0 rfl rfl 32 (by decide) (hts _ (List.mem_cons_of_mem _ mGB_136)) (fun _ h9 => h9) rfl dX12_next_140 ?_
        refine lv_imul hx hb dX12_next_143 ?_
        refine lv_topi (fun x_207 ex_207 => ?_)
        have gx_207 : gi x_207 0 1000000 := gi_mul ex_207 (gi_c 10 10 (by decide)) gw0_32 (by decide)
        refine lv_aload_n hx hb dX12_next_144 rfl (lv_at hl 0 rfl) ?_
        refine va_get (D := (dC, dI)) (ci := 12) (v := .ref (mr 13)) (C := RX12) (T := TX12) (N := 57) hx hb hts (fun w h => List.mem_cons_of_mem _ (jnGB_X12 w h)) hown hK hP 0 rfl rfl 25 (by decide) (hts _ (List.mem_cons_of_mem _ mGB_24)) (fun _ h9 => h9) rfl dX12_next_145 ?_
        refine lv_aload_n hx hb dX12_next_148 rfl (lv_at hl 0 rfl) ?_
        refine va_get (D := (dC, dI)) (ci := 12) (v := .int w0_29) (C := RX12) (T := TX12) (N := 57) hx hb hts (fun w h => List.mem_cons_of_mem _ (jnGB_X12 w h)) hown hK hP 0 rfl rfl 29 (by decide) (hts _ (List.mem_cons_of_mem _ mGB_113)) (fun _ h9 => h9) rfl dX12_next_149 ?_
        refine va_iald hx hb hK hP 1 0 rfl rfl (gz_inR (n := 1600) (by have qgw0_30 := gw0_30.1; have rgw0_30 := gw0_30.2; have qgw0_29 := gw0_29.1; have rgw0_29 := gw0_29.2; have qgr_199 := g_205.1; have rgr_199 := g_205.2; have qgmi_29 := gmi_29.1; have rgmi_29 := gmi_29.2; have qgmi_26 := gmi_26.1; have rgmi_26 := gmi_26.2; omega) (by have qgw0_30 := gw0_30.1; have rgw0_30 := gw0_30.2; have qgw0_29 := gw0_29.1; have rgw0_29 := gw0_29.2; have qgr_199 := g_205.1; have rgr_199 := g_205.2; have qgmi_29 := gmi_29.1; have rgmi_29 := gmi_29.2; have qgmi_26 := gmi_26.1; have rgmi_26 := gmi_26.2; omega)) dX12_next_152 ?_
        refine lv_topi (fun x_208 ex_208 => ?_)
        have hlx_208 : x_208.toInt = (fm_tape w0_29.toNatClampNeg).toInt := congrArg Int32.toInt ex_208
        have g_209 : gi x_208 48 57 := ⟨by have qgw0_30 := gw0_30.1; have rgw0_30 := gw0_30.2; have qgw0_29 := gw0_29.1; have rgw0_29 := gw0_29.2; have qgr_199 := g_205.1; have rgr_199 := g_205.2; have qgmi_29 := gmi_29.1; have rgmi_29 := gmi_29.2; have qgmi_26 := gmi_26.1; have rgmi_26 := gmi_26.2; omega, by have qgw0_30 := gw0_30.1; have rgw0_30 := gw0_30.2; have qgw0_29 := gw0_29.1; have rgw0_29 := gw0_29.2; have qgr_199 := g_205.1; have rgr_199 := g_205.2; have qgmi_29 := gmi_29.1; have rgmi_29 := gmi_29.2; have qgmi_26 := gmi_26.1; have rgmi_26 := gmi_26.2; omega⟩
        refine lv_iadd hx hb dX12_next_153 ?_
        refine lv_topi (fun x_210 ex_210 => ?_)
        have gx_210 : gi x_210 48 1000057 := gi_add ex_210 gx_207 g_209 (by decide)
        refine lv_bipush (v := 48) hx hb dX12_next_154 (by decide) ?_
        refine lv_isub hx hb dX12_next_156 ?_
        refine lv_topi (fun x_211 ex_211 => ?_)
        have gx_211 : gi x_211 0 1000009 := gi_sub ex_211 gx_210 (gi_c 48 48 (by decide)) (by decide)
        refine va_mmin (own := RX12) hx hb (by rw [hml]; exact hl.1.symm) hown (hts _ (List.mem_cons_of_mem _ mGB_138)) (hts _ (List.mem_cons_of_mem _ mGB_97)) (hts _ (List.mem_cons_of_mem _ mGB_98)) (hts _ (List.mem_cons_of_mem _ mGB_99)) (Nat.le_trans (Nat.le_of_ble_eq_true rfl) hRf) (Nat.le_trans (Nat.le_of_ble_eq_true rfl) hRl) hRc hRs dX12_next_157 ?_
        refine lv_topi (fun x_212 ex_212 => ?_)
        have gx_212 : gi x_212 0 100000 := gi_min ex_212 (gi_c 100000 100000 (by decide)) gx_211 (by decide)
        refine va_put (D := (dC, dI)) (ci := 12) (v := .int x_212) (ty := .int) (C := RX12) (T := TX12) (N := 57) hx hb hts (fun w h => List.mem_cons_of_mem _ (jnGB_X12 w h)) tyX12 tyX12_ok nmX12 hown hK hP hD hS 0 rfl rfl 32 (by decide) (hts _ (List.mem_cons_of_mem _ mGB_136)) (fun _ h9 => h9) rfl (by decide +kernel) rfl rfl (Nat.le_of_ble_eq_true rfl) dX12_next_160 (fun H locs hP hD hS => ?_)
        have hP : va_P (dC, dI) vwCl [(h0, .inr (12, fsMM (upd (upd (upd (upd mi 29 w0_29) 30 w0_30) 31 w0_31) 32 x_212) mr)), ((mr 13), .inl (km_tape, 1600, .inl fm_tape))] H := hP
        have hD : va_D A [(h0, .inr (12, fsMM (upd (upd (upd (upd mi 29 w0_29) 30 w0_30) 31 w0_31) 32 x_212) mr)), ((mr 13), .inl (km_tape, 1600, .inl fm_tape))] := hD
        refine lv_aload_n hx hb dX12_next_163 rfl (lv_at hl 0 rfl) ?_
        refine lv_dup hx hb dX12_next_164 rfl ?_
        refine va_get (D := (dC, dI)) (ci := 12) (v := .int w0_29) (C := RX12) (T := TX12) (N := 57) hx hb hts (fun w h => List.mem_cons_of_mem _ (jnGB_X12 w h)) hown hK hP 0 rfl rfl 29 (by decide) (hts _ (List.mem_cons_of_mem _ mGB_113)) (fun _ h9 => h9) rfl dX12_next_165 ?_
        refine lv_iconst (v := 1) hx hb dX12_next_168 (by decide) ?_
        refine lv_iadd hx hb dX12_next_169 ?_
        refine lv_topi (fun x_213 ex_213 => ?_)
        have gx_213 : gi x_213 1 1601 := gi_add ex_213 gw0_29 (gi_c 1 1 (by decide)) (by decide)
        refine va_put (D := (dC, dI)) (ci := 12) (v := .int x_213) (ty := .int) (C := RX12) (T := TX12) (N := 57) hx hb hts (fun w h => List.mem_cons_of_mem _ (jnGB_X12 w h)) tyX12 tyX12_ok nmX12 hown hK hP hD hS 0 rfl rfl 29 (by decide) (hts _ (List.mem_cons_of_mem _ mGB_113)) (fun _ h9 => h9) rfl (by decide +kernel) rfl rfl (Nat.le_of_ble_eq_true rfl) dX12_next_170 (fun H locs hP hD hS => ?_)
        have hP : va_P (dC, dI) vwCl [(h0, .inr (12, fsMM (upd (upd (upd (upd mi 29 x_213) 30 w0_30) 31 w0_31) 32 x_212) mr)), ((mr 13), .inl (km_tape, 1600, .inl fm_tape))] H := hP
        have hD : va_D A [(h0, .inr (12, fsMM (upd (upd (upd (upd mi 29 x_213) 30 w0_30) 31 w0_31) 32 x_212) mr)), ((mr 13), .inl (km_tape, 1600, .inl fm_tape))] := hD
        refine lv_goto (tgt := 123) hx hb dX12_next_173 (by decide) ?_
        exact ih.2.2 x_213 w0_30 w0_31 x_212 _ _ _ (show gi x_213 0 1600 from ⟨by have qgx_213 := gx_213.1; have rgx_213 := gx_213.2; have igx_213 : x_213.toInt = w0_29.toInt + 1 := (by have hc1 : (1 : Int32).toInt = 1 := (by decide); have h9 := gi_addI ex_213 (by have h1 := gw0_29.1; have h2 := (gi_c 1 1 (by decide)).1; have h3 := gw0_29.2; have h4 := (gi_c 1 1 (by decide)).2; omega) (by have h1 := gw0_29.1; have h2 := (gi_c 1 1 (by decide)).1; have h3 := gw0_29.2; have h4 := (gi_c 1 1 (by decide)).2; omega); rw [hc1] at h9; exact h9); have qgw0_29 := gw0_29.1; have rgw0_29 := gw0_29.2; have qgx_208 := g_209.1; have rgx_208 := g_209.2; have qgw0_30 := gw0_30.1; have rgw0_30 := gw0_30.2; have qgr_199 := g_205.1; have rgr_199 := g_205.2; have qgmi_29 := gmi_29.1; have rgmi_29 := gmi_29.2; have qgmi_26 := gmi_26.1; have rgmi_26 := gmi_26.2; omega, by have qgx_213 := gx_213.1; have rgx_213 := gx_213.2; have igx_213 : x_213.toInt = w0_29.toInt + 1 := (by have hc1 : (1 : Int32).toInt = 1 := (by decide); have h9 := gi_addI ex_213 (by have h1 := gw0_29.1; have h2 := (gi_c 1 1 (by decide)).1; have h3 := gw0_29.2; have h4 := (gi_c 1 1 (by decide)).2; omega) (by have h1 := gw0_29.1; have h2 := (gi_c 1 1 (by decide)).1; have h3 := gw0_29.2; have h4 := (gi_c 1 1 (by decide)).2; omega); rw [hc1] at h9; exact h9); have qgw0_29 := gw0_29.1; have rgw0_29 := gw0_29.2; have qgx_208 := g_209.1; have rgx_208 := g_209.2; have qgw0_30 := gw0_30.1; have rgw0_30 := gw0_30.2; have qgr_199 := g_205.1; have rgr_199 := g_205.2; have qgmi_29 := gmi_29.1; have rgmi_29 := gmi_29.2; have qgmi_26 := gmi_26.1; have rgmi_26 := gmi_26.2; omega⟩) gw0_30 gx_212 hinv0 (show w0_30.toInt ≤ x_213.toInt from by have qgx_213 := gx_213.1; have rgx_213 := gx_213.2; have igx_213 : x_213.toInt = w0_29.toInt + 1 := (by have hc1 : (1 : Int32).toInt = 1 := (by decide); have h9 := gi_addI ex_213 (by have h1 := gw0_29.1; have h2 := (gi_c 1 1 (by decide)).1; have h3 := gw0_29.2; have h4 := (gi_c 1 1 (by decide)).2; omega) (by have h1 := gw0_29.1; have h2 := (gi_c 1 1 (by decide)).1; have h3 := gw0_29.2; have h4 := (gi_c 1 1 (by decide)).2; omega); rw [hc1] at h9; exact h9); have qgw0_29 := gw0_29.1; have rgw0_29 := gw0_29.2; have qgx_208 := g_209.1; have rgx_208 := g_209.2; have qgw0_30 := gw0_30.1; have rgw0_30 := gw0_30.2; have qgr_199 := g_205.1; have rgr_199 := g_205.2; have qgmi_29 := gmi_29.1; have rgmi_29 := gmi_29.2; have qgmi_26 := gmi_26.1; have rgmi_26 := gmi_26.2; omega) (show x_213.toInt ≤ (mi 26).toInt from by have qgx_213 := gx_213.1; have rgx_213 := gx_213.2; have igx_213 : x_213.toInt = w0_29.toInt + 1 := (by have hc1 : (1 : Int32).toInt = 1 := (by decide); have h9 := gi_addI ex_213 (by have h1 := gw0_29.1; have h2 := (gi_c 1 1 (by decide)).1; have h3 := gw0_29.2; have h4 := (gi_c 1 1 (by decide)).2; omega) (by have h1 := gw0_29.1; have h2 := (gi_c 1 1 (by decide)).1; have h3 := gw0_29.2; have h4 := (gi_c 1 1 (by decide)).2; omega); rw [hc1] at h9; exact h9); have qgw0_29 := gw0_29.1; have rgw0_29 := gw0_29.2; have qgx_208 := g_209.1; have rgx_208 := g_209.2; have qgw0_30 := gw0_30.1; have rgw0_30 := gw0_30.2; have qgr_199 := g_205.1; have rgr_199 := g_205.2; have qgmi_29 := gmi_29.1; have rgmi_29 := gmi_29.2; have qgmi_26 := gmi_26.1; have rgmi_26 := gmi_26.2; omega) (show (w0_30.toInt < x_213.toInt ∨ (x_213.toInt < (mi 26).toInt ∧ 48 ≤ (fm_tape x_213.toNatClampNeg).toInt ∧ (fm_tape x_213.toNatClampNeg).toInt ≤ 57)) from by have qgx_213 := gx_213.1; have rgx_213 := gx_213.2; have igx_213 : x_213.toInt = w0_29.toInt + 1 := (by have hc1 : (1 : Int32).toInt = 1 := (by decide); have h9 := gi_addI ex_213 (by have h1 := gw0_29.1; have h2 := (gi_c 1 1 (by decide)).1; have h3 := gw0_29.2; have h4 := (gi_c 1 1 (by decide)).2; omega) (by have h1 := gw0_29.1; have h2 := (gi_c 1 1 (by decide)).1; have h3 := gw0_29.2; have h4 := (gi_c 1 1 (by decide)).2; omega); rw [hc1] at h9; exact h9); have qgw0_29 := gw0_29.1; have rgw0_29 := gw0_29.2; have qgx_208 := g_209.1; have rgx_208 := g_209.2; have qgw0_30 := gw0_30.1; have rgw0_30 := gw0_30.2; have qgr_199 := g_205.1; have rgr_199 := g_205.2; have qgmi_29 := gmi_29.1; have rgmi_29 := gmi_29.2; have qgmi_26 := gmi_26.1; have rgmi_26 := gmi_26.2; omega) (by rw [ex_213, ex_212, ex_211, ex_210, ex_208, ex_207]; exact hF) (by have aw0_29 := gw0_29.1; have bw0_29 := gw0_29.2; have qgx_213 := gx_213.1; have rgx_213 := gx_213.2; have igx_213 : x_213.toInt = w0_29.toInt + 1 := (by have hc1 : (1 : Int32).toInt = 1 := (by decide); have h9 := gi_addI ex_213 (by have h1 := gw0_29.1; have h2 := (gi_c 1 1 (by decide)).1; have h3 := gw0_29.2; have h4 := (gi_c 1 1 (by decide)).2; omega) (by have h1 := gw0_29.1; have h2 := (gi_c 1 1 (by decide)).1; have h3 := gw0_29.2; have h4 := (gi_c 1 1 (by decide)).2; omega); rw [hc1] at h9; exact h9); have qgw0_29 := gw0_29.1; have rgw0_29 := gw0_29.2; omega) hP hD hS (lv_sub hl [0] rfl)
set_option maxHeartbeats 4000000 in
set_option maxRecDepth 100000 in
theorem sX12_nextP (l : Launch) (dC : Nat → ClassId) (dI : Nat → Nat → Nat) (sz : Nat) (h0 : Nat) (mi : Nat → Int32) (mr : Nat → Nat) (km_tape : ClassId) (fm_tape : Nat → Int32) (gmi_0 : gi (mi 0) 0 100000) (gmi_1 : gi (mi 1) 0 100000) (gmi_2 : gi (mi 2) 0 100000) (gmi_4 : gi (mi 4) 0 1) (gmi_7 : gi (mi 7) 0 6) (gmi_10 : gi (mi 10) 0 24) (gmi_17 : gi (mi 17) 0 8) (gmi_23 : gi (mi 23) 0 300) (gmi_24 : gi (mi 24) 0 1) (gmi_26 : gi (mi 26) 0 1600) (gmi_29 : gi (mi 29) 0 1600) (gmi_30 : gi (mi 30) 0 1600) (gmi_32 : gi (mi 32) 0 100000) (gmi_33 : gi (mi 33) 0 1) (gmi_37 : gi (mi 37) 0 1) (gmi_41 : gi (mi 41) 0 24) (gmi_50 : gi (mi 50) 0 1) (gmi_51 : gi (mi 51) 0 1) (gmi_56 : gi (mi 56) 0 80) (hpq0 : (mi 29).toInt ≤ (mi 26).toInt) : Met l yX12_next (.code yX12_next cX12_next 1 none :: wsGB) ({ frames := 2, cells := 0, slots := 0, locals := 47 }) (va_Pc [.ref h0] (fun U => U.heap.size = sz ∧ va_P (dC, dI) vwCl [(h0, .inr (12, fsMM mi mr)), ((mr 13), .inl (km_tape, 1600, .inl fm_tape))] U.heap ∧ va_K (dC, dI) vwCl [(km_tape, .int)] U ∧ va_D (fun _ => True) [(h0, .inr (12, fsMM mi mr)), ((mr 13), .inl (km_tape, 1600, .inl fm_tape))])) (va_Qv (fun (u : Unit) => True) (fun _ t => ∃ (w0_29 : Int32) (w0_30 : Int32) (w0_31 : Int32) (w0_32 : Int32), gi w0_29 0 1600 ∧ gi w0_30 0 1600 ∧ gi w0_32 0 100000 ∧ (mi 29).toInt ≤ w0_30.toInt ∧ w0_30.toInt ≤ w0_29.toInt ∧ w0_29.toInt ≤ (mi 26).toInt ∧ (w0_31.toInt = 0 ∨ w0_30.toInt < w0_29.toInt) ∧ (w0_29, w0_30, w0_31, w0_32) = fX12_next mi fm_tape ∧ va_P (dC, dI) vwCl [(h0, .inr (12, fsMM (upd (upd (upd (upd mi 29 w0_29) 30 w0_30) 31 w0_31) 32 w0_32) mr)), ((mr 13), .inl (km_tape, 1600, .inl fm_tape))] t.heap ∧ va_D (va_A [(h0, .inr (12, fsMM mi mr)), ((mr 13), .inl (km_tape, 1600, .inl fm_tape))] sz) [(h0, .inr (12, fsMM (upd (upd (upd (upd mi 29 w0_29) 30 w0_30) 31 w0_31) 32 w0_32) mr)), ((mr 13), .inl (km_tape, 1600, .inl fm_tape))]) (va_A [(h0, .inr (12, fsMM mi mr)), ((mr 13), .inl (km_tape, 1600, .inl fm_tape))] sz)) 0 0 (va_A [(h0, .inr (12, fsMM mi mr)), ((mr 13), .inl (km_tape, 1600, .inl fm_tape))] sz) := by
  refine Met.ofW (cc := cX12_next) (maxL := 1) (ret := none) (by decide) rfl ?_
  intro p e s m args below meth c s₁ B hml hv
  obtain ⟨rfl, hsz, hP, hK, hD0⟩ := hv
  have hx := B.exec
  have hb := B.bytes
  have hr := B.returns
  have hts := atoms_spec (ws := (.code yX12_next cX12_next 1 none :: wsGB)) B.pre
  have hown : s.vm.findClass RX12 = some m.cls := findClass_of_methodNamed B.named
  have hlocks := B.notSynchronized
  subst hsz
  have hD := hD0.self (sz := s.heap.size)
  generalize hAe : va_A [(h0, .inr (12, fsMM mi mr)), ((mr 13), .inl (km_tape, 1600, .inl fm_tape))] s.heap.size = A at hD ⊢
  have hA : ∀ q : Nat, s.heap.size ≤ q → A q := fun q h => by rw [← hAe]; exact Or.inr h
  have hS : va_S A s.heap s.heap [] := va_S.rf
  have hl := lv_entry ([.ref h0]) (n := 1) (Nat.le_of_ble_eq_true rfl)
  rw [lg_entry_eq]
  generalize (lg_sl ([.ref h0]) ++ List.replicate (1 - (lg_sl ([.ref h0])).length) Slot.unset).toArray = ls at hl ⊢
  have hl : lv_has ls 1 [(0, .ref h0)] := hl
  obtain ⟨RES, hF⟩ : ∃ R9, fX12_next mi fm_tape = R9 := ⟨_, rfl⟩
  have hR9 := hF
  refine (lp_sX12_nextP h0 mi mr km_tape fm_tape gmi_0 gmi_1 gmi_2 gmi_4 gmi_7 gmi_10 gmi_17 gmi_23 gmi_24 gmi_26 gmi_29 gmi_30 gmi_32 gmi_33 gmi_37 gmi_41 gmi_50 gmi_51 gmi_56 hpq0 hx hb hml hown hts hK hA (Nat.le_of_ble_eq_true rfl) (Nat.le_of_ble_eq_true rfl) (Nat.zero_le _) (Nat.zero_le _) (fun w0_29 w0_30 w0_31 w0_32 H locs ls gw0_29 gw0_30 gw0_32 hpr0 hpr1 hpr2 hpr3 hF hP hD hS hl => ?_) 1000000000).1 (mi 29) _ _ _ gmi_29 (show (mi 29).toInt ≤ (mi 29).toInt from by have qgmi_29 := gmi_29.1; have rgmi_29 := gmi_29.2; have qgmi_26 := gmi_26.1; have rgmi_26 := gmi_26.2; omega) (show (mi 29).toInt ≤ (mi 26).toInt from by have qgmi_29 := gmi_29.1; have rgmi_29 := gmi_29.2; have qgmi_26 := gmi_26.1; have rgmi_26 := gmi_26.2; omega) hF (by have qgmi_29 := gmi_29.1; have rgmi_29 := gmi_29.2; omega) hP hD hS (lv_sub hl [0] rfl)
  · skip
    exact W.vret hx hb hr (fun t ht hW => ⟨⟨(), rfl, trivial, w0_29, w0_30, w0_31, w0_32, gw0_29, gw0_30, gw0_32, hpr0, hpr1, hpr2, hpr3, hF.trans hR9.symm, by rw [ht]; exact hP, hD⟩, hS.F ht⟩) hS.2.2 dX12_next_206
theorem dX12_faultsAt_0 : decode cX12_faultsAt 0 = .ok (.aload_n 0, 1) := by decide +kernel
theorem dX12_faultsAt_1 : decode cX12_faultsAt 1 = .ok (.getfield 174, 3) := by decide +kernel
theorem dX12_faultsAt_4 : decode cX12_faultsAt 4 = .ok (.ifCond .ne 18, 3) := by decide +kernel
theorem dX12_faultsAt_7 : decode cX12_faultsAt 7 = .ok (.aload_n 0, 1) := by decide +kernel
theorem dX12_faultsAt_8 : decode cX12_faultsAt 8 = .ok (.iconst 1, 1) := by decide +kernel
theorem dX12_faultsAt_9 : decode cX12_faultsAt 9 = .ok (.putfield 174, 3) := by decide +kernel
theorem dX12_faultsAt_12 : decode cX12_faultsAt 12 = .ok (.aload_n 0, 1) := by decide +kernel
theorem dX12_faultsAt_13 : decode cX12_faultsAt 13 = .ok (.iload_n 1, 1) := by decide +kernel
theorem dX12_faultsAt_14 : decode cX12_faultsAt 14 = .ok (.putfield 177, 3) := by decide +kernel
theorem dX12_faultsAt_17 : decode cX12_faultsAt 17 = .ok (.aload_n 0, 1) := by decide +kernel
theorem dX12_faultsAt_18 : decode cX12_faultsAt 18 = .ok (.iload_n 2, 1) := by decide +kernel
theorem dX12_faultsAt_19 : decode cX12_faultsAt 19 = .ok (.putfield 53, 3) := by decide +kernel
theorem dX12_faultsAt_22 : decode cX12_faultsAt 22 = .ok (.return_, 1) := by decide +kernel
noncomputable def bfX12_faultsAt_22 (mi : Nat → Int32) (p1 : Int32) (p2 : Int32) (w0_27 : Int32) (w0_28 : Int32) (w0_33 : Int32) : Int32 × Int32 × Int32 := (w0_27, w0_28, w0_33)
noncomputable def fX12_faultsAt (mi : Nat → Int32) (p1 : Int32) (p2 : Int32) : Int32 × Int32 × Int32 := if (mi 33) = (0 : Int32) then (bfX12_faultsAt_22 mi p1 p2 p1 p2 (1 : Int32)) else (bfX12_faultsAt_22 mi p1 p2 (mi 27) (mi 28) (mi 33))
set_option maxHeartbeats 4000000 in
set_option maxRecDepth 100000 in
theorem sX12_faultsAtP (l : Launch) (dC : Nat → ClassId) (dI : Nat → Nat → Nat) (sz : Nat) (h0 : Nat) (mi : Nat → Int32) (mr : Nat → Nat) (p1 : Int32) (p2 : Int32) (gmi_0 : gi (mi 0) 0 100000) (gmi_1 : gi (mi 1) 0 100000) (gmi_2 : gi (mi 2) 0 100000) (gmi_4 : gi (mi 4) 0 1) (gmi_7 : gi (mi 7) 0 6) (gmi_10 : gi (mi 10) 0 24) (gmi_17 : gi (mi 17) 0 8) (gmi_23 : gi (mi 23) 0 300) (gmi_24 : gi (mi 24) 0 1) (gmi_26 : gi (mi 26) 0 1600) (gmi_29 : gi (mi 29) 0 1600) (gmi_30 : gi (mi 30) 0 1600) (gmi_32 : gi (mi 32) 0 100000) (gmi_33 : gi (mi 33) 0 1) (gmi_37 : gi (mi 37) 0 1) (gmi_41 : gi (mi 41) 0 24) (gmi_50 : gi (mi 50) 0 1) (gmi_51 : gi (mi 51) 0 1) (gmi_56 : gi (mi 56) 0 80) : Met l yX12_faultsAt (.code yX12_faultsAt cX12_faultsAt 3 none :: wsGB) ({ frames := 0, cells := 0, slots := 0, locals := 0 }) (va_Pc [.ref h0, .int p1, .int p2] (fun U => U.heap.size = sz ∧ va_P (dC, dI) vwCl [(h0, .inr (12, fsMM mi mr))] U.heap ∧ va_K (dC, dI) vwCl [] U ∧ va_D (fun _ => True) [(h0, .inr (12, fsMM mi mr))])) (va_Qv (fun (u : Unit) => True) (fun _ t => ∃ (w0_27 : Int32) (w0_28 : Int32) (w0_33 : Int32), gi w0_33 0 1 ∧ w0_33.toInt = 1 ∧ (w0_27, w0_28, w0_33) = fX12_faultsAt mi p1 p2 ∧ va_P (dC, dI) vwCl [(h0, .inr (12, fsMM (upd (upd (upd mi 27 w0_27) 28 w0_28) 33 w0_33) mr))] t.heap ∧ va_D (va_A [(h0, .inr (12, fsMM mi mr))] sz) [(h0, .inr (12, fsMM (upd (upd (upd mi 27 w0_27) 28 w0_28) 33 w0_33) mr))]) (va_A [(h0, .inr (12, fsMM mi mr))] sz)) 0 0 (va_A [(h0, .inr (12, fsMM mi mr))] sz) := by
  refine Met.ofW (cc := cX12_faultsAt) (maxL := 3) (ret := none) (by decide) rfl ?_
  intro p e s m args below meth c s₁ B hml hv
  obtain ⟨rfl, hsz, hP, hK, hD0⟩ := hv
  have hx := B.exec
  have hb := B.bytes
  have hr := B.returns
  have hts := atoms_spec (ws := (.code yX12_faultsAt cX12_faultsAt 3 none :: wsGB)) B.pre
  have hown : s.vm.findClass RX12 = some m.cls := findClass_of_methodNamed B.named
  have hlocks := B.notSynchronized
  subst hsz
  have hD := hD0.self (sz := s.heap.size)
  generalize hAe : va_A [(h0, .inr (12, fsMM mi mr))] s.heap.size = A at hD ⊢
  have hA : ∀ q : Nat, s.heap.size ≤ q → A q := fun q h => by rw [← hAe]; exact Or.inr h
  have hS : va_S A s.heap s.heap [] := va_S.rf
  have hl := lv_entry ([.ref h0, .int p1, .int p2]) (n := 3) (Nat.le_of_ble_eq_true rfl)
  rw [lg_entry_eq]
  generalize (lg_sl ([.ref h0, .int p1, .int p2]) ++ List.replicate (3 - (lg_sl ([.ref h0, .int p1, .int p2])).length) Slot.unset).toArray = ls at hl ⊢
  have hl : lv_has ls 3 [(0, .ref h0), (1, .int p1), (2, .int p2)] := hl
  obtain ⟨RES, hF⟩ : ∃ R9, fX12_faultsAt mi p1 p2 = R9 := ⟨_, rfl⟩
  have hR9 := hF
  refine lv_aload_n hx hb dX12_faultsAt_0 rfl (lv_at hl 0 rfl) ?_
  refine va_get (D := (dC, dI)) (ci := 12) (v := .int (mi 33)) (C := RX12) (T := TX12) (N := 57) hx hb hts (fun w h => List.mem_cons_of_mem _ (jnGB_X12 w h)) hown hK hP 0 rfl rfl 33 (by decide) (hts _ (List.mem_cons_of_mem _ mGB_114)) (fun _ h9 => h9) rfl dX12_faultsAt_1 ?_
  refine lv_if_ne (tgt := 22) hx hb dX12_faultsAt_4 (by decide) (fun c_11 => ?_) (fun c_11 => ?_)
  · have hF := gf_neg c_11 hF
    have hc_12 : (mi 33).toInt ≠ 0 := fun h9 => c_11 (Int32.toInt_inj.mp (by rw [show (0 : Int32).toInt = 0 from by decide]; exact h9))
    have g_13 : gi (mi 33) 1 1 := gi_ne_lo c_11 gmi_33 (gi_c 0 0 (by decide)) (by decide)
    exact W.vret hx hb hr (fun t ht hW => ⟨⟨(), rfl, trivial, (mi 27), (mi 28), (mi 33), (gi_w g_13 (by decide)), (show (mi 33).toInt = 1 from by have qgmi_33 := g_13.1; have rgmi_33 := g_13.2; omega), hF.trans hR9.symm, by rw [ht]; exact hP, hD⟩, hS.F ht⟩) hS.2.2 dX12_faultsAt_22
  · have hF := gf_pos c_11 hF
    have hc_14 : (mi 33).toInt = 0 := by have h9 := congrArg Int32.toInt c_11; rw [show (0 : Int32).toInt = 0 from by decide] at h9; exact h9
    have g_15 : gi (mi 33) 0 0 := gi_eq c_11 (gi_c 0 0 (by decide))
    refine lv_aload_n hx hb dX12_faultsAt_7 rfl (lv_at hl 0 rfl) ?_
    refine lv_iconst (v := 1) hx hb dX12_faultsAt_8 (by decide) ?_
    refine va_put (D := (dC, dI)) (ci := 12) (v := .int 1) (ty := .boolean) (C := RX12) (T := TX12) (N := 57) hx hb hts (fun w h => List.mem_cons_of_mem _ (jnGB_X12 w h)) tyX12 tyX12_ok nmX12 hown hK hP hD hS 0 rfl rfl 33 (by decide) (hts _ (List.mem_cons_of_mem _ mGB_114)) (fun _ h9 => h9) rfl (by decide +kernel) rfl rfl (Nat.le_of_ble_eq_true rfl) dX12_faultsAt_9 (fun H locs hP hD hS => ?_)
    have hP : va_P (dC, dI) vwCl [(h0, .inr (12, fsMM (upd mi 33 1) mr))] H := hP
    have hD : va_D A [(h0, .inr (12, fsMM (upd mi 33 1) mr))] := hD
    refine lv_aload_n hx hb dX12_faultsAt_12 rfl (lv_at hl 0 rfl) ?_
    refine lv_iload_n hx hb dX12_faultsAt_13 rfl (lv_at hl 1 rfl) ?_
    refine va_put (D := (dC, dI)) (ci := 12) (v := .int p1) (ty := .int) (C := RX12) (T := TX12) (N := 57) hx hb hts (fun w h => List.mem_cons_of_mem _ (jnGB_X12 w h)) tyX12 tyX12_ok nmX12 hown hK hP hD hS 0 rfl rfl 27 (by decide) (hts _ (List.mem_cons_of_mem _ mGB_115)) (fun _ h9 => h9) rfl (by decide +kernel) rfl rfl (Nat.le_of_ble_eq_true rfl) dX12_faultsAt_14 (fun H locs hP hD hS => ?_)
    have hP : va_P (dC, dI) vwCl [(h0, .inr (12, fsMM (upd (upd mi 27 p1) 33 1) mr))] H := hP
    have hD : va_D A [(h0, .inr (12, fsMM (upd (upd mi 27 p1) 33 1) mr))] := hD
    refine lv_aload_n hx hb dX12_faultsAt_17 rfl (lv_at hl 0 rfl) ?_
    refine lv_iload_n hx hb dX12_faultsAt_18 rfl (lv_at hl 2 rfl) ?_
    refine va_put (D := (dC, dI)) (ci := 12) (v := .int p2) (ty := .int) (C := RX12) (T := TX12) (N := 57) hx hb hts (fun w h => List.mem_cons_of_mem _ (jnGB_X12 w h)) tyX12 tyX12_ok nmX12 hown hK hP hD hS 0 rfl rfl 28 (by decide) (hts _ (List.mem_cons_of_mem _ mGB_25)) (fun _ h9 => h9) rfl (by decide +kernel) rfl rfl (Nat.le_of_ble_eq_true rfl) dX12_faultsAt_19 (fun H locs hP hD hS => ?_)
    have hP : va_P (dC, dI) vwCl [(h0, .inr (12, fsMM (upd (upd (upd mi 27 p1) 28 p2) 33 1) mr))] H := hP
    have hD : va_D A [(h0, .inr (12, fsMM (upd (upd (upd mi 27 p1) 28 p2) 33 1) mr))] := hD
    exact W.vret hx hb hr (fun t ht hW => ⟨⟨(), rfl, trivial, p1, p2, 1, (gi_w (gi_c 1 1 (by decide)) (by decide)), (show (1 : Int32).toInt = 1 from by have k1 : (1 : Int32).toInt = 1 := (by decide); have qgmi_33 := g_15.1; have rgmi_33 := g_15.2; omega), hF.trans hR9.symm, by rw [ht]; exact hP, hD⟩, hS.F ht⟩) hS.2.2 dX12_faultsAt_22
theorem dX12_faults_0 : decode cX12_faults 0 = .ok (.aload_n 0, 1) := by decide +kernel
theorem dX12_faults_1 : decode cX12_faults 1 = .ok (.iload_n 1, 1) := by decide +kernel
theorem dX12_faults_2 : decode cX12_faults 2 = .ok (.aload_n 0, 1) := by decide +kernel
theorem dX12_faults_3 : decode cX12_faults 3 = .ok (.getfield 158, 3) := by decide +kernel
theorem dX12_faults_6 : decode cX12_faults 6 = .ok (.invokevirtual 180, 3) := by decide +kernel
theorem dX12_faults_9 : decode cX12_faults 9 = .ok (.return_, 1) := by decide +kernel
noncomputable def fX12_faults (mi : Nat → Int32) (p1 : Int32) : Int32 × Int32 × Int32 := cal (fun o1 => (o1.1, o1.2.1, o1.2.2)) (fX12_faultsAt mi p1 (mi 30))
set_option maxHeartbeats 4000000 in
set_option maxRecDepth 100000 in
theorem sX12_faultsP (l : Launch) (dC : Nat → ClassId) (dI : Nat → Nat → Nat) (sz : Nat) (h0 : Nat) (mi : Nat → Int32) (mr : Nat → Nat) (p1 : Int32) (gmi_0 : gi (mi 0) 0 100000) (gmi_1 : gi (mi 1) 0 100000) (gmi_2 : gi (mi 2) 0 100000) (gmi_4 : gi (mi 4) 0 1) (gmi_7 : gi (mi 7) 0 6) (gmi_10 : gi (mi 10) 0 24) (gmi_17 : gi (mi 17) 0 8) (gmi_23 : gi (mi 23) 0 300) (gmi_24 : gi (mi 24) 0 1) (gmi_26 : gi (mi 26) 0 1600) (gmi_29 : gi (mi 29) 0 1600) (gmi_30 : gi (mi 30) 0 1600) (gmi_32 : gi (mi 32) 0 100000) (gmi_33 : gi (mi 33) 0 1) (gmi_37 : gi (mi 37) 0 1) (gmi_41 : gi (mi 41) 0 24) (gmi_50 : gi (mi 50) 0 1) (gmi_51 : gi (mi 51) 0 1) (gmi_56 : gi (mi 56) 0 80) : Met l yX12_faults (.code yX12_faults cX12_faults 2 none :: wsGB) ({ frames := 1, cells := 0, slots := 0, locals := 22 }) (va_Pc [.ref h0, .int p1] (fun U => U.heap.size = sz ∧ va_P (dC, dI) vwCl [(h0, .inr (12, fsMM mi mr))] U.heap ∧ va_K (dC, dI) vwCl [] U ∧ va_D (fun _ => True) [(h0, .inr (12, fsMM mi mr))])) (va_Qv (fun (u : Unit) => True) (fun _ t => ∃ (w0_27 : Int32) (w0_28 : Int32) (w0_33 : Int32), gi w0_33 0 1 ∧ w0_33.toInt = 1 ∧ (w0_27, w0_28, w0_33) = fX12_faults mi p1 ∧ va_P (dC, dI) vwCl [(h0, .inr (12, fsMM (upd (upd (upd mi 27 w0_27) 28 w0_28) 33 w0_33) mr))] t.heap ∧ va_D (va_A [(h0, .inr (12, fsMM mi mr))] sz) [(h0, .inr (12, fsMM (upd (upd (upd mi 27 w0_27) 28 w0_28) 33 w0_33) mr))]) (va_A [(h0, .inr (12, fsMM mi mr))] sz)) 0 0 (va_A [(h0, .inr (12, fsMM mi mr))] sz) := by
  refine Met.ofW (cc := cX12_faults) (maxL := 2) (ret := none) (by decide) rfl ?_
  intro p e s m args below meth c s₁ B hml hv
  obtain ⟨rfl, hsz, hP, hK, hD0⟩ := hv
  have hx := B.exec
  have hb := B.bytes
  have hr := B.returns
  have hts := atoms_spec (ws := (.code yX12_faults cX12_faults 2 none :: wsGB)) B.pre
  have hown : s.vm.findClass RX12 = some m.cls := findClass_of_methodNamed B.named
  have hlocks := B.notSynchronized
  subst hsz
  have hD := hD0.self (sz := s.heap.size)
  generalize hAe : va_A [(h0, .inr (12, fsMM mi mr))] s.heap.size = A at hD ⊢
  have hA : ∀ q : Nat, s.heap.size ≤ q → A q := fun q h => by rw [← hAe]; exact Or.inr h
  have hS : va_S A s.heap s.heap [] := va_S.rf
  have hl := lv_entry ([.ref h0, .int p1]) (n := 2) (Nat.le_of_ble_eq_true rfl)
  rw [lg_entry_eq]
  generalize (lg_sl ([.ref h0, .int p1]) ++ List.replicate (2 - (lg_sl ([.ref h0, .int p1])).length) Slot.unset).toArray = ls at hl ⊢
  have hl : lv_has ls 2 [(0, .ref h0), (1, .int p1)] := hl
  obtain ⟨RES, hF⟩ : ∃ R9, fX12_faults mi p1 = R9 := ⟨_, rfl⟩
  have hR9 := hF
  refine lv_aload_n hx hb dX12_faults_0 rfl (lv_at hl 0 rfl) ?_
  refine lv_iload_n hx hb dX12_faults_1 rfl (lv_at hl 1 rfl) ?_
  refine lv_aload_n hx hb dX12_faults_2 rfl (lv_at hl 0 rfl) ?_
  refine va_get (D := (dC, dI)) (ci := 12) (v := .int (mi 30)) (C := RX12) (T := TX12) (N := 57) hx hb hts (fun w h => List.mem_cons_of_mem _ (jnGB_X12 w h)) hown hK hP 0 rfl rfl 30 (by decide) (hts _ (List.mem_cons_of_mem _ mGB_135)) (fun _ h9 => h9) rfl dX12_faults_3 ?_
  have hPc := hP.sub (ws' := [(h0, .inr (12, fsMM mi mr))]) [0] rfl
  have hKc := hK.sub (tys' := []) [] rfl
  have hDc := hD.sub (ws' := [(h0, .inr (12, fsMM mi mr))]) [0] (by decide) rfl
  have hFc := va_free (wc := [(h0, .inr (12, fsMM mi mr))]) hD hS hA [0] rfl
  refine va_callv (va_runV (As := [.int p1, .int (mi 30)]) (rest := []) ⟨hx, hb, hml, hown, hts⟩ (sX12_faultsAtP l dC dI s.heap.size h0 mi mr p1 (mi 30) gmi_0 gmi_1 gmi_2 gmi_4 gmi_7 gmi_10 gmi_17 gmi_23 gmi_24 gmi_26 gmi_29 gmi_30 gmi_32 gmi_33 gmi_37 gmi_41 gmi_50 gmi_51 gmi_56) (cwV 2 hts (gz_gV mGB_169 mGB_170 mGB_171 mGB_1 mGB_172 goodGB) rfl rfl rfl (by decide +kernel) ⟨Nat.le_of_ble_eq_true rfl, Nat.le_of_ble_eq_true rfl⟩) ⟨fun a U g mk q => by obtain ⟨q0, q1, qP, qK, qD⟩ := q; exact ⟨q0, q1, qP, va_K.moved (u := U) (U := U.calling g mk a) (Vm.Alike.refl U.vm) qK, qD⟩, va_recv hKc hPc (ci := 12) (q0 := 0) rfl rfl, fun U hU hW => ⟨rfl, by rw [hU], by rw [hU]; exact hPc, va_K.moved hW.alike hKc, hDc.weaken (fun _ _ _ _ => trivial)⟩⟩ rfl rfl hl.1 rfl (lv_room (Nat.le_of_ble_eq_true rfl)) dX12_faults_6 ⟨Nat.zero_le _, Nat.zero_le _⟩) hS (fun q _ h => hFc q h) hFc (fun u t H1 locs ht hvm hw hB hz1 hk1 hS => ?_)
  obtain ⟨y_12, y_13, y_14, gy_14, hpr0_r_11, hE, hP1, hD1⟩ := hB
  rw [ht] at hP1
  obtain ⟨hP, hD⟩ := va_join (wr := []) (w1 := [(h0, .inr (12, fsMM (upd (upd (upd mi 27 y_12) 28 y_13) 33 y_14) mr))]) hP hD [0] [] rfl rfl (by decide) (by decide) hk1 hFc hP1 hD1
  have hpr0_r_11 : y_14.toInt = 1 := hpr0_r_11
  have g_15 : gi y_14 1 1 := ⟨by omega, by omega⟩
  have hP := hP.sub (ws' := [(h0, .inr (12, fsMM (upd (upd (upd mi 27 y_12) 28 y_13) 33 y_14) mr))]) [0] rfl
  have hD := hD.sub (ws' := [(h0, .inr (12, fsMM (upd (upd (upd mi 27 y_12) 28 y_13) 33 y_14) mr))]) [0] (by decide) rfl
  have hF := gf_callm (a := (y_12, y_13, y_14)) hE hF (by first | with_reducible rfl | simp only [upd_same, upd_app, ↓reduceIte, Nat.reduceEqDiff])
  generalize H1 = H at hP hS ⊢
  exact W.vret hx hb hr (fun t ht hW => ⟨⟨(), rfl, trivial, y_12, y_13, y_14, (gi_w g_15 (by decide)), hpr0_r_11, hF.trans hR9.symm, by rw [ht]; exact hP, hD⟩, hS.F ht⟩) hS.2.2 dX12_faults_9
theorem dX12_passes_0 : decode cX12_passes 0 = .ok (.iload_n 1, 1) := by decide +kernel
theorem dX12_passes_1 : decode cX12_passes 1 = .ok (.ifCond .ne 8, 3) := by decide +kernel
theorem dX12_passes_4 : decode cX12_passes 4 = .ok (.aload_n 0, 1) := by decide +kernel
theorem dX12_passes_5 : decode cX12_passes 5 = .ok (.iconst 1, 1) := by decide +kernel
theorem dX12_passes_6 : decode cX12_passes 6 = .ok (.invokevirtual 194, 3) := by decide +kernel
theorem dX12_passes_9 : decode cX12_passes 9 = .ok (.aload_n 0, 1) := by decide +kernel
theorem dX12_passes_10 : decode cX12_passes 10 = .ok (.getfield 174, 3) := by decide +kernel
theorem dX12_passes_13 : decode cX12_passes 13 = .ok (.ifCond .ne 7, 3) := by decide +kernel
theorem dX12_passes_16 : decode cX12_passes 16 = .ok (.aload_n 0, 1) := by decide +kernel
theorem dX12_passes_17 : decode cX12_passes 17 = .ok (.invokevirtual 198, 3) := by decide +kernel
theorem dX12_passes_20 : decode cX12_passes 20 = .ok (.return_, 1) := by decide +kernel
noncomputable def bfX12_passes_20 (mi : Nat → Int32) (fm_tape : Nat → Int32) (p1 : Int32) (w0_27 : Int32) (w0_28 : Int32) (w0_29 : Int32) (w0_30 : Int32) (w0_31 : Int32) (w0_32 : Int32) (w0_33 : Int32) : Int32 × Int32 × Int32 × Int32 × Int32 × Int32 × Int32 := (w0_27, w0_28, w0_29, w0_30, w0_31, w0_32, w0_33)
noncomputable def bfX12_passes_9 (mi : Nat → Int32) (fm_tape : Nat → Int32) (p1 : Int32) (w0_27 : Int32) (w0_28 : Int32) (w0_29 : Int32) (w0_30 : Int32) (w0_31 : Int32) (w0_32 : Int32) (w0_33 : Int32) : Int32 × Int32 × Int32 × Int32 × Int32 × Int32 × Int32 := if w0_33 = (0 : Int32) then (cal (fun o2 => bfX12_passes_20 mi fm_tape p1 w0_27 w0_28 o2.1 o2.2.1 o2.2.2.1 o2.2.2.2 w0_33) (fX12_next (upd (upd (upd (upd (upd (upd (upd mi 27 w0_27) 28 w0_28) 29 w0_29) 30 w0_30) 31 w0_31) 32 w0_32) 33 w0_33) fm_tape)) else (bfX12_passes_20 mi fm_tape p1 w0_27 w0_28 w0_29 w0_30 w0_31 w0_32 w0_33)
noncomputable def fX12_passes (mi : Nat → Int32) (fm_tape : Nat → Int32) (p1 : Int32) : Int32 × Int32 × Int32 × Int32 × Int32 × Int32 × Int32 := if p1 = (0 : Int32) then (cal (fun o1 => bfX12_passes_9 mi fm_tape p1 o1.1 o1.2.1 (mi 29) (mi 30) (mi 31) (mi 32) o1.2.2) (fX12_faults mi (1 : Int32))) else (bfX12_passes_9 mi fm_tape p1 (mi 27) (mi 28) (mi 29) (mi 30) (mi 31) (mi 32) (mi 33))
set_option maxHeartbeats 4000000 in
set_option maxRecDepth 100000 in
theorem sX12_passesP (l : Launch) (dC : Nat → ClassId) (dI : Nat → Nat → Nat) (sz : Nat) (h0 : Nat) (mi : Nat → Int32) (mr : Nat → Nat) (km_tape : ClassId) (fm_tape : Nat → Int32) (p1 : Int32) (gmi_0 : gi (mi 0) 0 100000) (gmi_1 : gi (mi 1) 0 100000) (gmi_2 : gi (mi 2) 0 100000) (gmi_4 : gi (mi 4) 0 1) (gmi_7 : gi (mi 7) 0 6) (gmi_10 : gi (mi 10) 0 24) (gmi_17 : gi (mi 17) 0 8) (gmi_23 : gi (mi 23) 0 300) (gmi_24 : gi (mi 24) 0 1) (gmi_26 : gi (mi 26) 0 1600) (gmi_29 : gi (mi 29) 0 1600) (gmi_30 : gi (mi 30) 0 1600) (gmi_32 : gi (mi 32) 0 100000) (gmi_33 : gi (mi 33) 0 1) (gmi_37 : gi (mi 37) 0 1) (gmi_41 : gi (mi 41) 0 24) (gmi_50 : gi (mi 50) 0 1) (gmi_51 : gi (mi 51) 0 1) (gmi_56 : gi (mi 56) 0 80) (gp1 : gi p1 0 1) (hpq0 : (mi 30).toInt ≤ (mi 29).toInt) (hpq1 : (mi 29).toInt ≤ (mi 26).toInt) (hpq2 : ((mi 31).toInt = 0 ∨ (mi 30).toInt < (mi 29).toInt)) : Met l yX12_passes (.code yX12_passes cX12_passes 2 none :: wsGB) ({ frames := 3, cells := 0, slots := 0, locals := 67 }) (va_Pc [.ref h0, .int p1] (fun U => U.heap.size = sz ∧ va_P (dC, dI) vwCl [(h0, .inr (12, fsMM mi mr)), ((mr 13), .inl (km_tape, 1600, .inl fm_tape))] U.heap ∧ va_K (dC, dI) vwCl [(km_tape, .int)] U ∧ va_D (fun _ => True) [(h0, .inr (12, fsMM mi mr)), ((mr 13), .inl (km_tape, 1600, .inl fm_tape))])) (va_Qv (fun (u : Unit) => True) (fun _ t => ∃ (w0_27 : Int32) (w0_28 : Int32) (w0_29 : Int32) (w0_30 : Int32) (w0_31 : Int32) (w0_32 : Int32) (w0_33 : Int32), gi w0_29 0 1600 ∧ gi w0_30 0 1600 ∧ gi w0_32 0 100000 ∧ gi w0_33 0 1 ∧ (mi 30).toInt ≤ w0_30.toInt ∧ w0_30.toInt ≤ w0_29.toInt ∧ w0_29.toInt ≤ (mi 26).toInt ∧ (w0_31.toInt = 0 ∨ w0_30.toInt < w0_29.toInt) ∧ (mi 33).toInt ≤ w0_33.toInt ∧ (p1.toInt = 1 ∨ w0_33.toInt = 1) ∧ (w0_33.toInt = 1 ∨ (mi 29).toInt ≤ w0_30.toInt) ∧ (w0_27, w0_28, w0_29, w0_30, w0_31, w0_32, w0_33) = fX12_passes mi fm_tape p1 ∧ va_P (dC, dI) vwCl [(h0, .inr (12, fsMM (upd (upd (upd (upd (upd (upd (upd mi 27 w0_27) 28 w0_28) 29 w0_29) 30 w0_30) 31 w0_31) 32 w0_32) 33 w0_33) mr)), ((mr 13), .inl (km_tape, 1600, .inl fm_tape))] t.heap ∧ va_D (va_A [(h0, .inr (12, fsMM mi mr)), ((mr 13), .inl (km_tape, 1600, .inl fm_tape))] sz) [(h0, .inr (12, fsMM (upd (upd (upd (upd (upd (upd (upd mi 27 w0_27) 28 w0_28) 29 w0_29) 30 w0_30) 31 w0_31) 32 w0_32) 33 w0_33) mr)), ((mr 13), .inl (km_tape, 1600, .inl fm_tape))]) (va_A [(h0, .inr (12, fsMM mi mr)), ((mr 13), .inl (km_tape, 1600, .inl fm_tape))] sz)) 0 0 (va_A [(h0, .inr (12, fsMM mi mr)), ((mr 13), .inl (km_tape, 1600, .inl fm_tape))] sz) := by
  refine Met.ofW (cc := cX12_passes) (maxL := 2) (ret := none) (by decide) rfl ?_
  intro p e s m args below meth c s₁ B hml hv
  obtain ⟨rfl, hsz, hP, hK, hD0⟩ := hv
  have hx := B.exec
  have hb := B.bytes
  have hr := B.returns
  have hts := atoms_spec (ws := (.code yX12_passes cX12_passes 2 none :: wsGB)) B.pre
  have hown : s.vm.findClass RX12 = some m.cls := findClass_of_methodNamed B.named
  have hlocks := B.notSynchronized
  subst hsz
  have hD := hD0.self (sz := s.heap.size)
  generalize hAe : va_A [(h0, .inr (12, fsMM mi mr)), ((mr 13), .inl (km_tape, 1600, .inl fm_tape))] s.heap.size = A at hD ⊢
  have hA : ∀ q : Nat, s.heap.size ≤ q → A q := fun q h => by rw [← hAe]; exact Or.inr h
  have hS : va_S A s.heap s.heap [] := va_S.rf
  have hl := lv_entry ([.ref h0, .int p1]) (n := 2) (Nat.le_of_ble_eq_true rfl)
  rw [lg_entry_eq]
  generalize (lg_sl ([.ref h0, .int p1]) ++ List.replicate (2 - (lg_sl ([.ref h0, .int p1])).length) Slot.unset).toArray = ls at hl ⊢
  have hl : lv_has ls 2 [(0, .ref h0), (1, .int p1)] := hl
  obtain ⟨RES, hF⟩ : ∃ R9, fX12_passes mi fm_tape p1 = R9 := ⟨_, rfl⟩
  have hR9 := hF
  refine lv_iload_n hx hb dX12_passes_0 rfl (lv_at hl 1 rfl) ?_
  refine lv_if_ne (tgt := 9) hx hb dX12_passes_1 (by decide) (fun c_43 => ?_) (fun c_43 => ?_)
  · have hF := gf_neg c_43 hF
    have hc_44 : p1.toInt ≠ 0 := fun h9 => c_43 (Int32.toInt_inj.mp (by rw [show (0 : Int32).toInt = 0 from by decide]; exact h9))
    have g_45 : gi p1 1 1 := gi_ne_lo c_43 gp1 (gi_c 0 0 (by decide)) (by decide)
    refine lv_aload_n hx hb dX12_passes_9 rfl (lv_at hl 0 rfl) ?_
    refine va_get (D := (dC, dI)) (ci := 12) (v := .int (mi 33)) (C := RX12) (T := TX12) (N := 57) hx hb hts (fun w h => List.mem_cons_of_mem _ (jnGB_X12 w h)) hown hK hP 0 rfl rfl 33 (by decide) (hts _ (List.mem_cons_of_mem _ mGB_114)) (fun _ h9 => h9) rfl dX12_passes_10 ?_
    refine lv_if_ne (tgt := 20) hx hb dX12_passes_13 (by decide) (fun c_46 => ?_) (fun c_46 => ?_)
    · have hF := gf_neg c_46 hF
      have hc_47 : (mi 33).toInt ≠ 0 := fun h9 => c_46 (Int32.toInt_inj.mp (by rw [show (0 : Int32).toInt = 0 from by decide]; exact h9))
      have g_48 : gi (mi 33) 1 1 := gi_ne_lo c_46 gmi_33 (gi_c 0 0 (by decide)) (by decide)
      exact W.vret hx hb hr (fun t ht hW => ⟨⟨(), rfl, trivial, (mi 27), (mi 28), (mi 29), (mi 30), (mi 31), (mi 32), (mi 33), gmi_29, gmi_30, gmi_32, (gi_w g_48 (by decide)), (show (mi 30).toInt ≤ (mi 30).toInt from by have qgp1 := g_45.1; have rgp1 := g_45.2; have qgmi_33 := g_48.1; have rgmi_33 := g_48.2; have qgmi_30 := gmi_30.1; have rgmi_30 := gmi_30.2; have qgmi_29 := gmi_29.1; have rgmi_29 := gmi_29.2; have qgmi_26 := gmi_26.1; have rgmi_26 := gmi_26.2; omega), (show (mi 30).toInt ≤ (mi 29).toInt from by have qgp1 := g_45.1; have rgp1 := g_45.2; have qgmi_33 := g_48.1; have rgmi_33 := g_48.2; have qgmi_30 := gmi_30.1; have rgmi_30 := gmi_30.2; have qgmi_29 := gmi_29.1; have rgmi_29 := gmi_29.2; have qgmi_26 := gmi_26.1; have rgmi_26 := gmi_26.2; omega), (show (mi 29).toInt ≤ (mi 26).toInt from by have qgp1 := g_45.1; have rgp1 := g_45.2; have qgmi_33 := g_48.1; have rgmi_33 := g_48.2; have qgmi_30 := gmi_30.1; have rgmi_30 := gmi_30.2; have qgmi_29 := gmi_29.1; have rgmi_29 := gmi_29.2; have qgmi_26 := gmi_26.1; have rgmi_26 := gmi_26.2; omega), (show ((mi 31).toInt = 0 ∨ (mi 30).toInt < (mi 29).toInt) from by have qgp1 := g_45.1; have rgp1 := g_45.2; have qgmi_33 := g_48.1; have rgmi_33 := g_48.2; have qgmi_30 := gmi_30.1; have rgmi_30 := gmi_30.2; have qgmi_29 := gmi_29.1; have rgmi_29 := gmi_29.2; have qgmi_26 := gmi_26.1; have rgmi_26 := gmi_26.2; omega), (show (mi 33).toInt ≤ (mi 33).toInt from by have qgp1 := g_45.1; have rgp1 := g_45.2; have qgmi_33 := g_48.1; have rgmi_33 := g_48.2; have qgmi_30 := gmi_30.1; have rgmi_30 := gmi_30.2; have qgmi_29 := gmi_29.1; have rgmi_29 := gmi_29.2; have qgmi_26 := gmi_26.1; have rgmi_26 := gmi_26.2; omega), (show (p1.toInt = 1 ∨ (mi 33).toInt = 1) from by have qgp1 := g_45.1; have rgp1 := g_45.2; have qgmi_33 := g_48.1; have rgmi_33 := g_48.2; have qgmi_30 := gmi_30.1; have rgmi_30 := gmi_30.2; have qgmi_29 := gmi_29.1; have rgmi_29 := gmi_29.2; have qgmi_26 := gmi_26.1; have rgmi_26 := gmi_26.2; omega), (show ((mi 33).toInt = 1 ∨ (mi 29).toInt ≤ (mi 30).toInt) from by have qgp1 := g_45.1; have rgp1 := g_45.2; have qgmi_33 := g_48.1; have rgmi_33 := g_48.2; have qgmi_30 := gmi_30.1; have rgmi_30 := gmi_30.2; have qgmi_29 := gmi_29.1; have rgmi_29 := gmi_29.2; have qgmi_26 := gmi_26.1; have rgmi_26 := gmi_26.2; omega), hF.trans hR9.symm, by rw [ht]; exact hP, hD⟩, hS.F ht⟩) hS.2.2 dX12_passes_20
    · have hF := gf_pos c_46 hF
      have hc_49 : (mi 33).toInt = 0 := by have h9 := congrArg Int32.toInt c_46; rw [show (0 : Int32).toInt = 0 from by decide] at h9; exact h9
      have g_50 : gi (mi 33) 0 0 := gi_eq c_46 (gi_c 0 0 (by decide))
      refine lv_aload_n hx hb dX12_passes_16 rfl (lv_at hl 0 rfl) ?_
      have hPc := hP.sub (ws' := [(h0, .inr (12, fsMM mi mr)), ((mr 13), .inl (km_tape, 1600, .inl fm_tape))]) [0, 1] rfl
      have hKc := hK.sub (tys' := [(km_tape, .int)]) [0] rfl
      have hDc := hD.sub (ws' := [(h0, .inr (12, fsMM mi mr)), ((mr 13), .inl (km_tape, 1600, .inl fm_tape))]) [0, 1] (by decide) rfl
      have hFc := va_free (wc := [(h0, .inr (12, fsMM mi mr)), ((mr 13), .inl (km_tape, 1600, .inl fm_tape))]) hD hS hA [0, 1] rfl
      refine va_callv (va_runV (As := []) (rest := []) ⟨hx, hb, hml, hown, hts⟩ (sX12_nextP l dC dI s.heap.size h0 mi mr km_tape fm_tape gmi_0 gmi_1 gmi_2 gmi_4 gmi_7 gmi_10 gmi_17 gmi_23 gmi_24 gmi_26 gmi_29 gmi_30 gmi_32 (gi_w g_50 (by decide)) gmi_37 gmi_41 gmi_50 gmi_51 gmi_56 (show (mi 29).toInt ≤ (mi 26).toInt from by have qgp1 := g_45.1; have rgp1 := g_45.2; have qgmi_33 := g_50.1; have rgmi_33 := g_50.2; have qgmi_30 := gmi_30.1; have rgmi_30 := gmi_30.2; have qgmi_29 := gmi_29.1; have rgmi_29 := gmi_29.2; have qgmi_26 := gmi_26.1; have rgmi_26 := gmi_26.2; omega)) (cwV 0 hts (gz_gV mGB_131 mGB_132 mGB_133 mGB_1 mGB_134 goodGB) rfl rfl rfl (by decide +kernel) ⟨Nat.le_of_ble_eq_true rfl, Nat.le_of_ble_eq_true rfl⟩) ⟨fun a U g mk q => by obtain ⟨q0, q1, qP, qK, qD⟩ := q; exact ⟨q0, q1, qP, va_K.moved (u := U) (U := U.calling g mk a) (Vm.Alike.refl U.vm) qK, qD⟩, va_recv hKc hPc (ci := 12) (q0 := 0) rfl rfl, fun U hU hW => ⟨rfl, by rw [hU], by rw [hU]; exact hPc, va_K.moved hW.alike hKc, hDc.weaken (fun _ _ _ _ => trivial)⟩⟩ rfl rfl hl.1 rfl (lv_room (Nat.le_of_ble_eq_true rfl)) dX12_passes_17 ⟨Nat.zero_le _, Nat.zero_le _⟩) hS (fun q _ h => hFc q h) hFc (fun u t H1 locs ht hvm hw hB hz1 hk1 hS => ?_)
      obtain ⟨y_52, y_53, y_54, y_55, gy_52, gy_53, gy_55, hpr0_r_51, hpr1_r_51, hpr2_r_51, hpr3_r_51, hE, hP1, hD1⟩ := hB
      rw [ht] at hP1
      obtain ⟨hP, hD⟩ := va_join (wr := []) (w1 := [(h0, .inr (12, fsMM (upd (upd (upd (upd mi 29 y_52) 30 y_53) 31 y_54) 32 y_55) mr)), ((mr 13), .inl (km_tape, 1600, .inl fm_tape))]) hP hD [0, 1] [] rfl rfl (by decide) (by decide) hk1 hFc hP1 hD1
      have hpr0_r_51 : (mi 29).toInt ≤ y_53.toInt := hpr0_r_51
      have hpr1_r_51 : y_53.toInt ≤ y_52.toInt := hpr1_r_51
      have hpr2_r_51 : y_52.toInt ≤ (mi 26).toInt := hpr2_r_51
      have hpr3_r_51 : Hid ((y_54.toInt = 0 ∨ y_53.toInt < y_52.toInt)) := hpr3_r_51
      have hP := hP.sub (ws' := [(h0, .inr (12, fsMM (upd (upd (upd (upd mi 29 y_52) 30 y_53) 31 y_54) 32 y_55) mr)), ((mr 13), .inl (km_tape, 1600, .inl fm_tape))]) [0, 1] rfl
      have hD := hD.sub (ws' := [(h0, .inr (12, fsMM (upd (upd (upd (upd mi 29 y_52) 30 y_53) 31 y_54) 32 y_55) mr)), ((mr 13), .inl (km_tape, 1600, .inl fm_tape))]) [0, 1] (by decide) rfl
      have hF := gf_callm (a := (y_52, y_53, y_54, y_55)) hE hF (by first | with_reducible rfl | simp only [upd_same, upd_app, ↓reduceIte, Nat.reduceEqDiff])
      generalize H1 = H at hP hS ⊢
      exact W.vret hx hb hr (fun t ht hW => ⟨⟨(), rfl, trivial, (mi 27), (mi 28), y_52, y_53, y_54, y_55, (mi 33), gy_52, gy_53, gy_55, (gi_w g_50 (by decide)), (show (mi 30).toInt ≤ y_53.toInt from by have qgy_53 := gy_53.1; have rgy_53 := gy_53.2; have qgy_52 := gy_52.1; have rgy_52 := gy_52.2; have qgp1 := g_45.1; have rgp1 := g_45.2; have qgmi_33 := g_50.1; have rgmi_33 := g_50.2; have qgmi_30 := gmi_30.1; have rgmi_30 := gmi_30.2; have qgmi_29 := gmi_29.1; have rgmi_29 := gmi_29.2; have qgmi_26 := gmi_26.1; have rgmi_26 := gmi_26.2; omega), hpr1_r_51, hpr2_r_51, (Hid.un hpr3_r_51), (show (mi 33).toInt ≤ (mi 33).toInt from by have qgy_53 := gy_53.1; have rgy_53 := gy_53.2; have qgy_52 := gy_52.1; have rgy_52 := gy_52.2; have qgp1 := g_45.1; have rgp1 := g_45.2; have qgmi_33 := g_50.1; have rgmi_33 := g_50.2; have qgmi_30 := gmi_30.1; have rgmi_30 := gmi_30.2; have qgmi_29 := gmi_29.1; have rgmi_29 := gmi_29.2; have qgmi_26 := gmi_26.1; have rgmi_26 := gmi_26.2; omega), (show (p1.toInt = 1 ∨ (mi 33).toInt = 1) from by have qgy_53 := gy_53.1; have rgy_53 := gy_53.2; have qgy_52 := gy_52.1; have rgy_52 := gy_52.2; have qgp1 := g_45.1; have rgp1 := g_45.2; have qgmi_33 := g_50.1; have rgmi_33 := g_50.2; have qgmi_30 := gmi_30.1; have rgmi_30 := gmi_30.2; have qgmi_29 := gmi_29.1; have rgmi_29 := gmi_29.2; have qgmi_26 := gmi_26.1; have rgmi_26 := gmi_26.2; omega), (show ((mi 33).toInt = 1 ∨ (mi 29).toInt ≤ y_53.toInt) from by have qgy_53 := gy_53.1; have rgy_53 := gy_53.2; have qgy_52 := gy_52.1; have rgy_52 := gy_52.2; have qgp1 := g_45.1; have rgp1 := g_45.2; have qgmi_33 := g_50.1; have rgmi_33 := g_50.2; have qgmi_30 := gmi_30.1; have rgmi_30 := gmi_30.2; have qgmi_29 := gmi_29.1; have rgmi_29 := gmi_29.2; have qgmi_26 := gmi_26.1; have rgmi_26 := gmi_26.2; omega), hF.trans hR9.symm, by rw [ht]; exact hP, hD⟩, hS.F ht⟩) hS.2.2 dX12_passes_20
  · have hF := gf_pos c_43 hF
    have hc_56 : p1.toInt = 0 := by have h9 := congrArg Int32.toInt c_43; rw [show (0 : Int32).toInt = 0 from by decide] at h9; exact h9
    have g_57 : gi p1 0 0 := gi_eq c_43 (gi_c 0 0 (by decide))
    refine lv_aload_n hx hb dX12_passes_4 rfl (lv_at hl 0 rfl) ?_
    refine lv_iconst (v := 1) hx hb dX12_passes_5 (by decide) ?_
    have hPc := hP.sub (ws' := [(h0, .inr (12, fsMM mi mr))]) [0] rfl
    have hKc := hK.sub (tys' := []) [] rfl
    have hDc := hD.sub (ws' := [(h0, .inr (12, fsMM mi mr))]) [0] (by decide) rfl
    have hFc := va_free (wc := [(h0, .inr (12, fsMM mi mr))]) hD hS hA [0] rfl
    refine va_callv (va_runV (As := [.int 1]) (rest := []) ⟨hx, hb, hml, hown, hts⟩ (sX12_faultsP l dC dI s.heap.size h0 mi mr 1 gmi_0 gmi_1 gmi_2 gmi_4 gmi_7 gmi_10 gmi_17 gmi_23 gmi_24 gmi_26 gmi_29 gmi_30 gmi_32 gmi_33 gmi_37 gmi_41 gmi_50 gmi_51 gmi_56) (cwV 1 hts (gz_gV mGB_165 mGB_166 mGB_167 mGB_1 mGB_168 goodGB) rfl rfl rfl (by decide +kernel) ⟨Nat.le_of_ble_eq_true rfl, Nat.le_of_ble_eq_true rfl⟩) ⟨fun a U g mk q => by obtain ⟨q0, q1, qP, qK, qD⟩ := q; exact ⟨q0, q1, qP, va_K.moved (u := U) (U := U.calling g mk a) (Vm.Alike.refl U.vm) qK, qD⟩, va_recv hKc hPc (ci := 12) (q0 := 0) rfl rfl, fun U hU hW => ⟨rfl, by rw [hU], by rw [hU]; exact hPc, va_K.moved hW.alike hKc, hDc.weaken (fun _ _ _ _ => trivial)⟩⟩ rfl rfl hl.1 rfl (lv_room (Nat.le_of_ble_eq_true rfl)) dX12_passes_6 ⟨Nat.zero_le _, Nat.zero_le _⟩) hS (fun q _ h => hFc q h) hFc (fun u t H1 locs ht hvm hw hB hz1 hk1 hS => ?_)
    obtain ⟨y_59, y_60, y_61, gy_61, hpr0_r_58, hE, hP1, hD1⟩ := hB
    rw [ht] at hP1
    obtain ⟨hP, hD⟩ := va_join (wr := [((mr 13), .inl (km_tape, 1600, .inl fm_tape))]) (w1 := [(h0, .inr (12, fsMM (upd (upd (upd mi 27 y_59) 28 y_60) 33 y_61) mr))]) hP hD [0] [1] rfl rfl (by decide) (by decide) hk1 hFc hP1 hD1
    have hpr0_r_58 : y_61.toInt = 1 := hpr0_r_58
    have g_62 : gi y_61 1 1 := ⟨by omega, by omega⟩
    have hP := hP.sub (ws' := [(h0, .inr (12, fsMM (upd (upd (upd mi 27 y_59) 28 y_60) 33 y_61) mr)), ((mr 13), .inl (km_tape, 1600, .inl fm_tape))]) [1, 0] rfl
    have hD := hD.sub (ws' := [(h0, .inr (12, fsMM (upd (upd (upd mi 27 y_59) 28 y_60) 33 y_61) mr)), ((mr 13), .inl (km_tape, 1600, .inl fm_tape))]) [1, 0] (by decide) rfl
    have hF := gf_callm (a := (y_59, y_60, y_61)) hE hF (by first | with_reducible rfl | simp only [upd_same, upd_app, ↓reduceIte, Nat.reduceEqDiff])
    generalize H1 = H at hP hS ⊢
    refine lv_aload_n hx hb dX12_passes_9 rfl (lv_at hl 0 rfl) ?_
    refine va_get (D := (dC, dI)) (ci := 12) (v := .int y_61) (C := RX12) (T := TX12) (N := 57) hx hb hts (fun w h => List.mem_cons_of_mem _ (jnGB_X12 w h)) hown hK hP 0 rfl rfl 33 (by decide) (hts _ (List.mem_cons_of_mem _ mGB_114)) (fun _ h9 => h9) rfl dX12_passes_10 ?_
    refine lv_if_ne (tgt := 20) hx hb dX12_passes_13 (by decide) (fun c_63 => ?_) (fun c_63 => absurd c_63 (gi_no_eq g_62 (gi_c 0 0 (by decide)) (by decide)))
    have hF := gf_neg c_63 hF
    exact W.vret hx hb hr (fun t ht hW => ⟨⟨(), rfl, trivial, y_59, y_60, (mi 29), (mi 30), (mi 31), (mi 32), y_61, gmi_29, gmi_30, gmi_32, (gi_w g_62 (by decide)), (show (mi 30).toInt ≤ (mi 30).toInt from by have qgy_61 := g_62.1; have rgy_61 := g_62.2; have qgp1 := g_57.1; have rgp1 := g_57.2; have qgmi_30 := gmi_30.1; have rgmi_30 := gmi_30.2; have qgmi_29 := gmi_29.1; have rgmi_29 := gmi_29.2; have qgmi_26 := gmi_26.1; have rgmi_26 := gmi_26.2; omega), (show (mi 30).toInt ≤ (mi 29).toInt from by have qgy_61 := g_62.1; have rgy_61 := g_62.2; have qgp1 := g_57.1; have rgp1 := g_57.2; have qgmi_30 := gmi_30.1; have rgmi_30 := gmi_30.2; have qgmi_29 := gmi_29.1; have rgmi_29 := gmi_29.2; have qgmi_26 := gmi_26.1; have rgmi_26 := gmi_26.2; omega), (show (mi 29).toInt ≤ (mi 26).toInt from by have qgy_61 := g_62.1; have rgy_61 := g_62.2; have qgp1 := g_57.1; have rgp1 := g_57.2; have qgmi_30 := gmi_30.1; have rgmi_30 := gmi_30.2; have qgmi_29 := gmi_29.1; have rgmi_29 := gmi_29.2; have qgmi_26 := gmi_26.1; have rgmi_26 := gmi_26.2; omega), (show ((mi 31).toInt = 0 ∨ (mi 30).toInt < (mi 29).toInt) from by have qgy_61 := g_62.1; have rgy_61 := g_62.2; have qgp1 := g_57.1; have rgp1 := g_57.2; have qgmi_30 := gmi_30.1; have rgmi_30 := gmi_30.2; have qgmi_29 := gmi_29.1; have rgmi_29 := gmi_29.2; have qgmi_26 := gmi_26.1; have rgmi_26 := gmi_26.2; omega), (show (mi 33).toInt ≤ y_61.toInt from by have qgy_61 := g_62.1; have rgy_61 := g_62.2; have qgp1 := g_57.1; have rgp1 := g_57.2; have qgmi_33 := gmi_33.1; have rgmi_33 := gmi_33.2; have qgmi_30 := gmi_30.1; have rgmi_30 := gmi_30.2; have qgmi_29 := gmi_29.1; have rgmi_29 := gmi_29.2; have qgmi_26 := gmi_26.1; have rgmi_26 := gmi_26.2; omega), (show (p1.toInt = 1 ∨ y_61.toInt = 1) from by have qgy_61 := g_62.1; have rgy_61 := g_62.2; have qgp1 := g_57.1; have rgp1 := g_57.2; have qgmi_30 := gmi_30.1; have rgmi_30 := gmi_30.2; have qgmi_29 := gmi_29.1; have rgmi_29 := gmi_29.2; have qgmi_26 := gmi_26.1; have rgmi_26 := gmi_26.2; omega), (show (y_61.toInt = 1 ∨ (mi 29).toInt ≤ (mi 30).toInt) from by have qgy_61 := g_62.1; have rgy_61 := g_62.2; have qgp1 := g_57.1; have rgp1 := g_57.2; have qgmi_30 := gmi_30.1; have rgmi_30 := gmi_30.2; have qgmi_29 := gmi_29.1; have rgmi_29 := gmi_29.2; have qgmi_26 := gmi_26.1; have rgmi_26 := gmi_26.2; omega), hF.trans hR9.symm, by rw [ht]; exact hP, hD⟩, hS.F ht⟩) hS.2.2 dX12_passes_20
theorem dX12_number_0 : decode cX12_number 0 = .ok (.aload_n 0, 1) := by decide +kernel
theorem dX12_number_1 : decode cX12_number 1 = .ok (.getfield 161, 3) := by decide +kernel
theorem dX12_number_4 : decode cX12_number 4 = .ok (.istore_n 3, 1) := by decide +kernel
theorem dX12_number_5 : decode cX12_number 5 = .ok (.aload_n 0, 1) := by decide +kernel
theorem dX12_number_6 : decode cX12_number 6 = .ok (.getfield 174, 3) := by decide +kernel
theorem dX12_number_9 : decode cX12_number 9 = .ok (.ifCond .eq 5, 3) := by decide +kernel
theorem dX12_number_12 : decode cX12_number 12 = .ok (.iload_n 1, 1) := by decide +kernel
theorem dX12_number_13 : decode cX12_number 13 = .ok (.ireturn, 1) := by decide +kernel
theorem dX12_number_14 : decode cX12_number 14 = .ok (.aload_n 0, 1) := by decide +kernel
theorem dX12_number_15 : decode cX12_number 15 = .ok (.getfield 164, 3) := by decide +kernel
theorem dX12_number_18 : decode cX12_number 18 = .ok (.iconst 2, 1) := by decide +kernel
theorem dX12_number_19 : decode cX12_number 19 = .ok (.if_icmp .eq 11, 3) := by decide +kernel
theorem dX12_number_22 : decode cX12_number 22 = .ok (.aload_n 0, 1) := by decide +kernel
theorem dX12_number_23 : decode cX12_number 23 = .ok (.iconst 1, 1) := by decide +kernel
theorem dX12_number_24 : decode cX12_number 24 = .ok (.invokevirtual 194, 3) := by decide +kernel
theorem dX12_number_27 : decode cX12_number 27 = .ok (.goto 20, 3) := by decide +kernel
theorem dX12_number_30 : decode cX12_number 30 = .ok (.iload_n 3, 1) := by decide +kernel
theorem dX12_number_31 : decode cX12_number 31 = .ok (.i2l, 1) := by decide +kernel
theorem dX12_number_32 : decode cX12_number 32 = .ok (.iload_n 1, 1) := by decide +kernel
theorem dX12_number_33 : decode cX12_number 33 = .ok (.i2l, 1) := by decide +kernel
theorem dX12_number_34 : decode cX12_number 34 = .ok (.iload_n 2, 1) := by decide +kernel
theorem dX12_number_35 : decode cX12_number 35 = .ok (.i2l, 1) := by decide +kernel
theorem dX12_number_36 : decode cX12_number 36 = .ok (.invokestatic 102, 3) := by decide +kernel
theorem dX12_number_39 : decode cX12_number 39 = .ok (.ifCond .ne 8, 3) := by decide +kernel
theorem dX12_number_42 : decode cX12_number 42 = .ok (.aload_n 0, 1) := by decide +kernel
theorem dX12_number_43 : decode cX12_number 43 = .ok (.iconst 2, 1) := by decide +kernel
theorem dX12_number_44 : decode cX12_number 44 = .ok (.invokevirtual 194, 3) := by decide +kernel
theorem dX12_number_47 : decode cX12_number 47 = .ok (.aload_n 0, 1) := by decide +kernel
theorem dX12_number_48 : decode cX12_number 48 = .ok (.iconst 1, 1) := by decide +kernel
theorem dX12_number_49 : decode cX12_number 49 = .ok (.invokevirtual 205, 3) := by decide +kernel
theorem dX12_number_52 : decode cX12_number 52 = .ok (.iload_n 3, 1) := by decide +kernel
theorem dX12_number_53 : decode cX12_number 53 = .ok (.ireturn, 1) := by decide +kernel
noncomputable def bfX12_number_47 (mi : Nat → Int32) (fm_tape : Nat → Int32) (p1 : Int32) (p2 : Int32) (v3 : Int32) (w0_27 : Int32) (w0_28 : Int32) (w0_29 : Int32) (w0_30 : Int32) (w0_31 : Int32) (w0_32 : Int32) (w0_33 : Int32) : Int32 × Int32 × Int32 × Int32 × Int32 × Int32 × Int32 × Int32 := cal (fun o4 => (v3, o4.1, o4.2.1, o4.2.2.1, o4.2.2.2.1, o4.2.2.2.2.1, o4.2.2.2.2.2.1, o4.2.2.2.2.2.2)) (fX12_passes (upd (upd (upd (upd (upd (upd (upd mi 27 w0_27) 28 w0_28) 29 w0_29) 30 w0_30) 31 w0_31) 32 w0_32) 33 w0_33) fm_tape (1 : Int32))
noncomputable def fX12_number (mi : Nat → Int32) (fm_tape : Nat → Int32) (p1 : Int32) (p2 : Int32) : Int32 × Int32 × Int32 × Int32 × Int32 × Int32 × Int32 × Int32 := if (mi 33) = (0 : Int32) then (if (mi 31) = (2 : Int32) then (cal (fun o1 => if o1 = (0 : Int32) then (cal (fun o2 => bfX12_number_47 mi fm_tape p1 p2 (mi 32) o2.1 o2.2.1 (mi 29) (mi 30) (mi 31) (mi 32) o2.2.2) (fX12_faults mi (2 : Int32))) else (bfX12_number_47 mi fm_tape p1 p2 (mi 32) (mi 27) (mi 28) (mi 29) (mi 30) (mi 31) (mi 32) (mi 33))) (fX12_in ((mi 32).toInt64) (p1.toInt64) (p2.toInt64))) else (cal (fun o3 => bfX12_number_47 mi fm_tape p1 p2 (mi 32) o3.1 o3.2.1 (mi 29) (mi 30) (mi 31) (mi 32) o3.2.2) (fX12_faults mi (1 : Int32)))) else (p1, (mi 27), (mi 28), (mi 29), (mi 30), (mi 31), (mi 32), (mi 33))
set_option maxHeartbeats 4000000 in
set_option maxRecDepth 100000 in
theorem sX12_numberP (l : Launch) (dC : Nat → ClassId) (dI : Nat → Nat → Nat) (sz : Nat) (h0 : Nat) (mi : Nat → Int32) (mr : Nat → Nat) (km_tape : ClassId) (fm_tape : Nat → Int32) (p1 : Int32) (p2 : Int32) (gmi_0 : gi (mi 0) 0 100000) (gmi_1 : gi (mi 1) 0 100000) (gmi_2 : gi (mi 2) 0 100000) (gmi_4 : gi (mi 4) 0 1) (gmi_7 : gi (mi 7) 0 6) (gmi_10 : gi (mi 10) 0 24) (gmi_17 : gi (mi 17) 0 8) (gmi_23 : gi (mi 23) 0 300) (gmi_24 : gi (mi 24) 0 1) (gmi_26 : gi (mi 26) 0 1600) (gmi_29 : gi (mi 29) 0 1600) (gmi_30 : gi (mi 30) 0 1600) (gmi_32 : gi (mi 32) 0 100000) (gmi_33 : gi (mi 33) 0 1) (gmi_37 : gi (mi 37) 0 1) (gmi_41 : gi (mi 41) 0 24) (gmi_50 : gi (mi 50) 0 1) (gmi_51 : gi (mi 51) 0 1) (gmi_56 : gi (mi 56) 0 80) (gp1 : gi p1 0 100000) (hpq0 : (mi 30).toInt ≤ (mi 29).toInt) (hpq1 : (mi 29).toInt ≤ (mi 26).toInt) (hpq2 : ((mi 31).toInt = 0 ∨ (mi 30).toInt < (mi 29).toInt)) : Met l yX12_number (.code yX12_number cX12_number 4 (some .int) :: wsGB) ({ frames := 4, cells := 0, slots := 0, locals := 88 }) (va_Pc [.ref h0, .int p1, .int p2] (fun U => U.heap.size = sz ∧ va_P (dC, dI) vwCl [(h0, .inr (12, fsMM mi mr)), ((mr 13), .inl (km_tape, 1600, .inl fm_tape))] U.heap ∧ va_K (dC, dI) vwCl [(km_tape, .int)] U ∧ va_D (fun _ => True) [(h0, .inr (12, fsMM mi mr)), ((mr 13), .inl (km_tape, 1600, .inl fm_tape))])) (va_Qi (fun (r : Int32) (u : Int32) => r = u ∧ gi r 0 100000) (fun r t => ∃ (w0_27 : Int32) (w0_28 : Int32) (w0_29 : Int32) (w0_30 : Int32) (w0_31 : Int32) (w0_32 : Int32) (w0_33 : Int32), gi w0_29 0 1600 ∧ gi w0_30 0 1600 ∧ gi w0_32 0 100000 ∧ gi w0_33 0 1 ∧ (mi 30).toInt ≤ w0_30.toInt ∧ w0_30.toInt ≤ w0_29.toInt ∧ w0_29.toInt ≤ (mi 26).toInt ∧ (w0_31.toInt = 0 ∨ w0_30.toInt < w0_29.toInt) ∧ (mi 33).toInt ≤ w0_33.toInt ∧ (w0_33.toInt = 1 ∨ (p1.toInt ≤ r.toInt ∧ r.toInt ≤ p2.toInt)) ∧ (r, w0_27, w0_28, w0_29, w0_30, w0_31, w0_32, w0_33) = fX12_number mi fm_tape p1 p2 ∧ va_P (dC, dI) vwCl [(h0, .inr (12, fsMM (upd (upd (upd (upd (upd (upd (upd mi 27 w0_27) 28 w0_28) 29 w0_29) 30 w0_30) 31 w0_31) 32 w0_32) 33 w0_33) mr)), ((mr 13), .inl (km_tape, 1600, .inl fm_tape))] t.heap ∧ va_D (va_A [(h0, .inr (12, fsMM mi mr)), ((mr 13), .inl (km_tape, 1600, .inl fm_tape))] sz) [(h0, .inr (12, fsMM (upd (upd (upd (upd (upd (upd (upd mi 27 w0_27) 28 w0_28) 29 w0_29) 30 w0_30) 31 w0_31) 32 w0_32) 33 w0_33) mr)), ((mr 13), .inl (km_tape, 1600, .inl fm_tape))]) (va_A [(h0, .inr (12, fsMM mi mr)), ((mr 13), .inl (km_tape, 1600, .inl fm_tape))] sz)) 0 0 (va_A [(h0, .inr (12, fsMM mi mr)), ((mr 13), .inl (km_tape, 1600, .inl fm_tape))] sz) := by
  refine Met.ofW (cc := cX12_number) (maxL := 4) (ret := (some .int)) (by decide) rfl ?_
  intro p e s m args below meth c s₁ B hml hv
  obtain ⟨rfl, hsz, hP, hK, hD0⟩ := hv
  have hx := B.exec
  have hb := B.bytes
  have hr := B.returns
  have hts := atoms_spec (ws := (.code yX12_number cX12_number 4 (some .int) :: wsGB)) B.pre
  have hown : s.vm.findClass RX12 = some m.cls := findClass_of_methodNamed B.named
  have hlocks := B.notSynchronized
  subst hsz
  have hD := hD0.self (sz := s.heap.size)
  generalize hAe : va_A [(h0, .inr (12, fsMM mi mr)), ((mr 13), .inl (km_tape, 1600, .inl fm_tape))] s.heap.size = A at hD ⊢
  have hA : ∀ q : Nat, s.heap.size ≤ q → A q := fun q h => by rw [← hAe]; exact Or.inr h
  have hS : va_S A s.heap s.heap [] := va_S.rf
  have hl := lv_entry ([.ref h0, .int p1, .int p2]) (n := 4) (Nat.le_of_ble_eq_true rfl)
  rw [lg_entry_eq]
  generalize (lg_sl ([.ref h0, .int p1, .int p2]) ++ List.replicate (4 - (lg_sl ([.ref h0, .int p1, .int p2])).length) Slot.unset).toArray = ls at hl ⊢
  have hl : lv_has ls 4 [(0, .ref h0), (1, .int p1), (2, .int p2)] := hl
  obtain ⟨RES, hF⟩ : ∃ R9, fX12_number mi fm_tape p1 p2 = R9 := ⟨_, rfl⟩
  have hR9 := hF
  refine lv_aload_n hx hb dX12_number_0 rfl (lv_at hl 0 rfl) ?_
  refine va_get (D := (dC, dI)) (ci := 12) (v := .int (mi 32)) (C := RX12) (T := TX12) (N := 57) hx hb hts (fun w h => List.mem_cons_of_mem _ (jnGB_X12 w h)) hown hK hP 0 rfl rfl 32 (by decide) (hts _ (List.mem_cons_of_mem _ mGB_136)) (fun _ h9 => h9) rfl dX12_number_1 ?_
  refine lv_istore_n (lv' := [(3, .int (mi 32)), (0, .ref h0), (1, .int p1), (2, .int p2)]) hx hb dX12_number_4 rfl hl (by decide) rfl (fun ls hl => ?_)
  refine lv_aload_n hx hb dX12_number_5 rfl (lv_at hl 1 rfl) ?_
  refine va_get (D := (dC, dI)) (ci := 12) (v := .int (mi 33)) (C := RX12) (T := TX12) (N := 57) hx hb hts (fun w h => List.mem_cons_of_mem _ (jnGB_X12 w h)) hown hK hP 0 rfl rfl 33 (by decide) (hts _ (List.mem_cons_of_mem _ mGB_114)) (fun _ h9 => h9) rfl dX12_number_6 ?_
  refine lv_if_eq (tgt := 14) hx hb dX12_number_9 (by decide) (fun c_113 => ?_) (fun c_113 => ?_)
  · have hF := gf_pos c_113 hF
    have hc_114 : (mi 33).toInt = 0 := by have h9 := congrArg Int32.toInt c_113; rw [show (0 : Int32).toInt = 0 from by decide] at h9; exact h9
    have g_115 : gi (mi 33) 0 0 := gi_eq c_113 (gi_c 0 0 (by decide))
    refine lv_aload_n hx hb dX12_number_14 rfl (lv_at hl 1 rfl) ?_
    refine va_get (D := (dC, dI)) (ci := 12) (v := .int (mi 31)) (C := RX12) (T := TX12) (N := 57) hx hb hts (fun w h => List.mem_cons_of_mem _ (jnGB_X12 w h)) hown hK hP 0 rfl rfl 31 (by decide) (hts _ (List.mem_cons_of_mem _ mGB_116)) (fun _ h9 => h9) rfl dX12_number_15 ?_
    refine lv_iconst (v := 2) hx hb dX12_number_18 (by decide) ?_
    refine lv_icmp_eq (tgt := 30) hx hb dX12_number_19 (by decide) (fun c_116 => ?_) (fun c_116 => ?_)
    · have hF := gf_pos c_116 hF
      have hc_117 : (mi 31).toInt = 2 := by have h9 := congrArg Int32.toInt c_116; rw [show (2 : Int32).toInt = 2 from by decide] at h9; exact h9
      have g_118 : gi (mi 31) 2 2 := gi_eq c_116 (gi_c 2 2 (by decide))
      refine lv_iload_n hx hb dX12_number_30 rfl (lv_at hl 0 rfl) ?_
      refine lv_i2l (v := ((mi 32)).toInt64) hx hb dX12_number_31 rfl ?_
      refine lv_topl (fun l_119 el_119 => ?_)
      refine lv_iload_n hx hb dX12_number_32 rfl (lv_at hl 2 rfl) ?_
      refine lv_i2l (v := (p1).toInt64) hx hb dX12_number_33 rfl ?_
      refine lv_topl (fun l_120 el_120 => ?_)
      refine lv_iload_n hx hb dX12_number_34 rfl (lv_at hl 3 rfl) ?_
      refine lv_i2l (v := (p2).toInt64) hx hb dX12_number_35 rfl ?_
      refine lv_topl (fun l_121 el_121 => ?_)
      have hPc := hP.sub (ws' := []) [] rfl
      have hKc := hK.sub (tys' := []) [] rfl
      refine va_calli (va_runS (As := [.long l_119, .long l_120, .long l_121]) (rest := []) ⟨hx, hb, hml, hown, hts⟩ (sX12_in l dC dI l_119 l_120 l_121) (cwS 3 hts (gz_gS mGB_47 mGB_48 mGB_1 mGB_49 goodGB) rfl rfl rfl (by decide +kernel) ⟨Nat.le_of_ble_eq_true rfl, Nat.le_of_ble_eq_true rfl⟩) ⟨fun a U g mk q => by obtain ⟨q0, qP, qK⟩ := q; exact ⟨q0, qP, va_K.moved (u := U) (U := U.calling g mk a) (Vm.Alike.refl U.vm) qK⟩, fun U hU hW => ⟨rfl, by rw [hU]; exact hPc, va_K.moved hW.alike hKc⟩⟩ rfl rfl hl.1 rfl (lv_room (Nat.le_of_ble_eq_true rfl)) dX12_number_36 ⟨Nat.zero_le _, Nat.zero_le _⟩) hS (fun q _ h => h.elim) (fun q h => h.elim) (fun r_122 u t H1 locs ht hvm hw hB hz1 hk1 hS => ?_)
      obtain ⟨hw, hE⟩ := hw
      have hP := gz_keep hP hk1
      have hF := gf_call (a := r_122) (by rw [el_121, el_120, el_119] at hE; exact hE) hF
      generalize H1 = H at hP hS ⊢
      have gr_122 : gi r_122 0 1 := hw.1
      have hqr_122 := hw.2
      refine lv_if_ne (tgt := 47) hx hb dX12_number_39 (by decide) (fun c_123 => ?_) (fun c_123 => ?_)
      · have hF := gf_neg c_123 hF
        have hc_124 : r_122.toInt ≠ 0 := fun h9 => c_123 (Int32.toInt_inj.mp (by rw [show (0 : Int32).toInt = 0 from by decide]; exact h9))
        have g_125 : gi r_122 1 1 := gi_ne_lo c_123 gr_122 (gi_c 0 0 (by decide)) (by decide)
        have hin_126 := gz_inT (A := p1.toInt) (B := p2.toInt) (hqr_122.1 (gz_one g_125)) el_119 (gz_l2e el_120) (gz_l2e el_121)
        refine lv_aload_n hx hb dX12_number_47 rfl (lv_at hl 1 rfl) ?_
        refine lv_iconst (v := 1) hx hb dX12_number_48 (by decide) ?_
        have hPc := hP.sub (ws' := [(h0, .inr (12, fsMM mi mr)), ((mr 13), .inl (km_tape, 1600, .inl fm_tape))]) [0, 1] rfl
        have hKc := hK.sub (tys' := [(km_tape, .int)]) [0] rfl
        have hDc := hD.sub (ws' := [(h0, .inr (12, fsMM mi mr)), ((mr 13), .inl (km_tape, 1600, .inl fm_tape))]) [0, 1] (by decide) rfl
        have hFc := va_free (wc := [(h0, .inr (12, fsMM mi mr)), ((mr 13), .inl (km_tape, 1600, .inl fm_tape))]) hD hS hA [0, 1] rfl
        refine va_callv (va_runV (As := [.int 1]) (rest := []) ⟨hx, hb, hml, hown, hts⟩ (sX12_passesP l dC dI H.size h0 mi mr km_tape fm_tape 1 gmi_0 gmi_1 gmi_2 gmi_4 gmi_7 gmi_10 gmi_17 gmi_23 gmi_24 gmi_26 gmi_29 gmi_30 gmi_32 (gi_w g_115 (by decide)) gmi_37 gmi_41 gmi_50 gmi_51 gmi_56 (gi_w (gi_c 1 1 (by decide)) (by decide)) (show (mi 30).toInt ≤ (mi 29).toInt from by have qgr_122 := g_125.1; have rgr_122 := g_125.2; have qgmi_33 := g_115.1; have rgmi_33 := g_115.2; have qgmi_31 := g_118.1; have rgmi_31 := g_118.2; have qgmi_30 := gmi_30.1; have rgmi_30 := gmi_30.2; have qgmi_29 := gmi_29.1; have rgmi_29 := gmi_29.2; have qgmi_26 := gmi_26.1; have rgmi_26 := gmi_26.2; omega) (show (mi 29).toInt ≤ (mi 26).toInt from by have qgr_122 := g_125.1; have rgr_122 := g_125.2; have qgmi_33 := g_115.1; have rgmi_33 := g_115.2; have qgmi_31 := g_118.1; have rgmi_31 := g_118.2; have qgmi_30 := gmi_30.1; have rgmi_30 := gmi_30.2; have qgmi_29 := gmi_29.1; have rgmi_29 := gmi_29.2; have qgmi_26 := gmi_26.1; have rgmi_26 := gmi_26.2; omega) (show ((mi 31).toInt = 0 ∨ (mi 30).toInt < (mi 29).toInt) from by have qgr_122 := g_125.1; have rgr_122 := g_125.2; have qgmi_33 := g_115.1; have rgmi_33 := g_115.2; have qgmi_31 := g_118.1; have rgmi_31 := g_118.2; have qgmi_30 := gmi_30.1; have rgmi_30 := gmi_30.2; have qgmi_29 := gmi_29.1; have rgmi_29 := gmi_29.2; have qgmi_26 := gmi_26.1; have rgmi_26 := gmi_26.2; omega)) (cwV 1 hts (gz_gV mGB_161 mGB_162 mGB_163 mGB_1 mGB_164 goodGB) rfl rfl rfl (by decide +kernel) ⟨Nat.le_of_ble_eq_true rfl, Nat.le_of_ble_eq_true rfl⟩) ⟨fun a U g mk q => by obtain ⟨q0, q1, qP, qK, qD⟩ := q; exact ⟨q0, q1, qP, va_K.moved (u := U) (U := U.calling g mk a) (Vm.Alike.refl U.vm) qK, qD⟩, va_recv hKc hPc (ci := 12) (q0 := 0) rfl rfl, fun U hU hW => ⟨rfl, by rw [hU], by rw [hU]; exact hPc, va_K.moved hW.alike hKc, hDc.weaken (fun _ _ _ _ => trivial)⟩⟩ rfl rfl hl.1 rfl (lv_room (Nat.le_of_ble_eq_true rfl)) dX12_number_49 ⟨Nat.zero_le _, Nat.zero_le _⟩) hS (fun q _ h => hFc q h) hFc (fun u t H1 locs ht hvm hw hB hz1 hk1 hS => ?_)
        obtain ⟨y_128, y_129, y_130, y_131, y_132, y_133, y_134, gy_130, gy_131, gy_133, gy_134, hpr0_r_127, hpr1_r_127, hpr2_r_127, hpr3_r_127, hpr4_r_127, hpr5_r_127, hpr6_r_127, hE, hP1, hD1⟩ := hB
        rw [ht] at hP1
        obtain ⟨hP, hD⟩ := va_join (wr := []) (w1 := [(h0, .inr (12, fsMM (upd (upd (upd (upd (upd (upd (upd mi 27 y_128) 28 y_129) 29 y_130) 30 y_131) 31 y_132) 32 y_133) 33 y_134) mr)), ((mr 13), .inl (km_tape, 1600, .inl fm_tape))]) hP hD [0, 1] [] rfl rfl (by decide) (by decide) hk1 hFc hP1 hD1
        have hpr0_r_127 : (mi 30).toInt ≤ y_131.toInt := hpr0_r_127
        have hpr1_r_127 : y_131.toInt ≤ y_130.toInt := hpr1_r_127
        have hpr2_r_127 : y_130.toInt ≤ (mi 26).toInt := hpr2_r_127
        have hpr3_r_127 : Hid ((y_132.toInt = 0 ∨ y_131.toInt < y_130.toInt)) := hpr3_r_127
        have hpr4_r_127 : (mi 33).toInt ≤ y_134.toInt := hpr4_r_127
        have hpr5_r_127 : Hid (((1 : Int) = 1 ∨ y_134.toInt = 1)) := by have h9 : ((1 : Int32).toInt = 1 ∨ y_134.toInt = 1) := hpr5_r_127; rw [show (1 : Int32).toInt = 1 from by decide] at h9; exact h9
        have hpr6_r_127 : Hid ((y_134.toInt = 1 ∨ (mi 29).toInt ≤ y_131.toInt)) := hpr6_r_127
        have hP := hP.sub (ws' := [(h0, .inr (12, fsMM (upd (upd (upd (upd (upd (upd (upd mi 27 y_128) 28 y_129) 29 y_130) 30 y_131) 31 y_132) 32 y_133) 33 y_134) mr)), ((mr 13), .inl (km_tape, 1600, .inl fm_tape))]) [0, 1] rfl
        have hD := hD.sub (ws' := [(h0, .inr (12, fsMM (upd (upd (upd (upd (upd (upd (upd mi 27 y_128) 28 y_129) 29 y_130) 30 y_131) 31 y_132) 32 y_133) 33 y_134) mr)), ((mr 13), .inl (km_tape, 1600, .inl fm_tape))]) [0, 1] (by decide) rfl
        have hF := gf_callm (a := (y_128, y_129, y_130, y_131, y_132, y_133, y_134)) hE hF (by first | with_reducible rfl | simp only [upd_same, upd_app, ↓reduceIte, Nat.reduceEqDiff])
        generalize H1 = H at hP hS ⊢
        refine lv_iload_n hx hb dX12_number_52 rfl (lv_at hl 0 rfl) ?_
        exact W.iret (v := (mi 32)) hx hb hr (fun t ht hW => ⟨⟨(mi 32), (mi 32), rfl, ⟨rfl, gmi_32⟩, y_128, y_129, y_130, y_131, y_132, y_133, y_134, gy_130, gy_131, gy_133, gy_134, hpr0_r_127, hpr1_r_127, hpr2_r_127, (Hid.un hpr3_r_127), hpr4_r_127, (show (y_134.toInt = 1 ∨ (p1.toInt ≤ (mi 32).toInt ∧ (mi 32).toInt ≤ p2.toInt)) from by by_cases h9 : y_134.toInt = 1; exact Or.inl h9; refine Or.inr ?_; have lgmi_33 := g_115.1; have mgmi_33 := g_115.2; have lgy_134 := gy_134.1; have mgy_134 := gy_134.2; have f0 := Hid.resL hpr6_r_127 (by omega); have qgy_134 := gy_134.1; have rgy_134 := gy_134.2; have qgy_131 := gy_131.1; have rgy_131 := gy_131.2; have qgy_130 := gy_130.1; have rgy_130 := gy_130.2; have qgr_122 := g_125.1; have rgr_122 := g_125.2; have qgp1 := gp1.1; have rgp1 := gp1.2; have qgmi_33 := g_115.1; have rgmi_33 := g_115.2; have qgmi_32 := gmi_32.1; have rgmi_32 := gmi_32.2; have qgmi_31 := g_118.1; have rgmi_31 := g_118.2; have qgmi_30 := gmi_30.1; have rgmi_30 := gmi_30.2; have qgmi_29 := gmi_29.1; have rgmi_29 := gmi_29.2; have qgmi_26 := gmi_26.1; have rgmi_26 := gmi_26.2; omega), hF.trans hR9.symm, by rw [ht]; exact hP, hD⟩, hS.F ht⟩) hS.2.2 dX12_number_53
      · have hF := gf_pos c_123 hF
        have hc_135 : r_122.toInt = 0 := by have h9 := congrArg Int32.toInt c_123; rw [show (0 : Int32).toInt = 0 from by decide] at h9; exact h9
        have g_136 : gi r_122 0 0 := gi_eq c_123 (gi_c 0 0 (by decide))
        have hno_137 := gz_inF (A := p1.toInt) (B := p2.toInt) (hqr_122.2 (gz_zero1 g_136)) el_119 (gz_l2e el_120) (gz_l2e el_121)
        refine lv_aload_n hx hb dX12_number_42 rfl (lv_at hl 1 rfl) ?_
        refine lv_iconst (v := 2) hx hb dX12_number_43 (by decide) ?_
        have hPc := hP.sub (ws' := [(h0, .inr (12, fsMM mi mr))]) [0] rfl
        have hKc := hK.sub (tys' := []) [] rfl
        have hDc := hD.sub (ws' := [(h0, .inr (12, fsMM mi mr))]) [0] (by decide) rfl
        have hFc := va_free (wc := [(h0, .inr (12, fsMM mi mr))]) hD hS hA [0] rfl
        refine va_callv (va_runV (As := [.int 2]) (rest := []) ⟨hx, hb, hml, hown, hts⟩ (sX12_faultsP l dC dI H.size h0 mi mr 2 gmi_0 gmi_1 gmi_2 gmi_4 gmi_7 gmi_10 gmi_17 gmi_23 gmi_24 gmi_26 gmi_29 gmi_30 gmi_32 (gi_w g_115 (by decide)) gmi_37 gmi_41 gmi_50 gmi_51 gmi_56) (cwV 1 hts (gz_gV mGB_165 mGB_166 mGB_167 mGB_1 mGB_168 goodGB) rfl rfl rfl (by decide +kernel) ⟨Nat.le_of_ble_eq_true rfl, Nat.le_of_ble_eq_true rfl⟩) ⟨fun a U g mk q => by obtain ⟨q0, q1, qP, qK, qD⟩ := q; exact ⟨q0, q1, qP, va_K.moved (u := U) (U := U.calling g mk a) (Vm.Alike.refl U.vm) qK, qD⟩, va_recv hKc hPc (ci := 12) (q0 := 0) rfl rfl, fun U hU hW => ⟨rfl, by rw [hU], by rw [hU]; exact hPc, va_K.moved hW.alike hKc, hDc.weaken (fun _ _ _ _ => trivial)⟩⟩ rfl rfl hl.1 rfl (lv_room (Nat.le_of_ble_eq_true rfl)) dX12_number_44 ⟨Nat.zero_le _, Nat.zero_le _⟩) hS (fun q _ h => hFc q h) hFc (fun u t H1 locs ht hvm hw hB hz1 hk1 hS => ?_)
        obtain ⟨y_139, y_140, y_141, gy_141, hpr0_r_138, hE, hP1, hD1⟩ := hB
        rw [ht] at hP1
        obtain ⟨hP, hD⟩ := va_join (wr := [((mr 13), .inl (km_tape, 1600, .inl fm_tape))]) (w1 := [(h0, .inr (12, fsMM (upd (upd (upd mi 27 y_139) 28 y_140) 33 y_141) mr))]) hP hD [0] [1] rfl rfl (by decide) (by decide) hk1 hFc hP1 hD1
        have hpr0_r_138 : y_141.toInt = 1 := hpr0_r_138
        have g_142 : gi y_141 1 1 := ⟨by omega, by omega⟩
        have hP := hP.sub (ws' := [(h0, .inr (12, fsMM (upd (upd (upd mi 27 y_139) 28 y_140) 33 y_141) mr)), ((mr 13), .inl (km_tape, 1600, .inl fm_tape))]) [1, 0] rfl
        have hD := hD.sub (ws' := [(h0, .inr (12, fsMM (upd (upd (upd mi 27 y_139) 28 y_140) 33 y_141) mr)), ((mr 13), .inl (km_tape, 1600, .inl fm_tape))]) [1, 0] (by decide) rfl
        have hF := gf_callm (a := (y_139, y_140, y_141)) hE hF (by first | with_reducible rfl | simp only [upd_same, upd_app, ↓reduceIte, Nat.reduceEqDiff])
        generalize H1 = H at hP hS ⊢
        refine lv_aload_n hx hb dX12_number_47 rfl (lv_at hl 1 rfl) ?_
        refine lv_iconst (v := 1) hx hb dX12_number_48 (by decide) ?_
        have hPc := hP.sub (ws' := [(h0, .inr (12, fsMM (upd (upd (upd mi 27 y_139) 28 y_140) 33 y_141) mr)), ((mr 13), .inl (km_tape, 1600, .inl fm_tape))]) [0, 1] rfl
        have hKc := hK.sub (tys' := [(km_tape, .int)]) [0] rfl
        have hDc := hD.sub (ws' := [(h0, .inr (12, fsMM (upd (upd (upd mi 27 y_139) 28 y_140) 33 y_141) mr)), ((mr 13), .inl (km_tape, 1600, .inl fm_tape))]) [0, 1] (by decide) rfl
        have hFc := va_free (wc := [(h0, .inr (12, fsMM (upd (upd (upd mi 27 y_139) 28 y_140) 33 y_141) mr)), ((mr 13), .inl (km_tape, 1600, .inl fm_tape))]) hD hS hA [0, 1] rfl
        refine va_callv (va_runV (As := [.int 1]) (rest := []) ⟨hx, hb, hml, hown, hts⟩ (sX12_passesP l dC dI H.size h0 (upd (upd (upd mi 27 y_139) 28 y_140) 33 y_141) mr km_tape fm_tape 1 gmi_0 gmi_1 gmi_2 gmi_4 gmi_7 gmi_10 gmi_17 gmi_23 gmi_24 gmi_26 gmi_29 gmi_30 gmi_32 (gi_w g_142 (by decide)) gmi_37 gmi_41 gmi_50 gmi_51 gmi_56 (gi_w (gi_c 1 1 (by decide)) (by decide)) (show (mi 30).toInt ≤ (mi 29).toInt from by have qgy_141 := g_142.1; have rgy_141 := g_142.2; have qgr_122 := g_136.1; have rgr_122 := g_136.2; have qgmi_33 := g_115.1; have rgmi_33 := g_115.2; have qgmi_31 := g_118.1; have rgmi_31 := g_118.2; have qgmi_30 := gmi_30.1; have rgmi_30 := gmi_30.2; have qgmi_29 := gmi_29.1; have rgmi_29 := gmi_29.2; have qgmi_26 := gmi_26.1; have rgmi_26 := gmi_26.2; omega) (show (mi 29).toInt ≤ (mi 26).toInt from by have qgy_141 := g_142.1; have rgy_141 := g_142.2; have qgr_122 := g_136.1; have rgr_122 := g_136.2; have qgmi_33 := g_115.1; have rgmi_33 := g_115.2; have qgmi_31 := g_118.1; have rgmi_31 := g_118.2; have qgmi_30 := gmi_30.1; have rgmi_30 := gmi_30.2; have qgmi_29 := gmi_29.1; have rgmi_29 := gmi_29.2; have qgmi_26 := gmi_26.1; have rgmi_26 := gmi_26.2; omega) (show ((mi 31).toInt = 0 ∨ (mi 30).toInt < (mi 29).toInt) from by have qgy_141 := g_142.1; have rgy_141 := g_142.2; have qgr_122 := g_136.1; have rgr_122 := g_136.2; have qgmi_33 := g_115.1; have rgmi_33 := g_115.2; have qgmi_31 := g_118.1; have rgmi_31 := g_118.2; have qgmi_30 := gmi_30.1; have rgmi_30 := gmi_30.2; have qgmi_29 := gmi_29.1; have rgmi_29 := gmi_29.2; have qgmi_26 := gmi_26.1; have rgmi_26 := gmi_26.2; omega)) (cwV 1 hts (gz_gV mGB_161 mGB_162 mGB_163 mGB_1 mGB_164 goodGB) rfl rfl rfl (by decide +kernel) ⟨Nat.le_of_ble_eq_true rfl, Nat.le_of_ble_eq_true rfl⟩) ⟨fun a U g mk q => by obtain ⟨q0, q1, qP, qK, qD⟩ := q; exact ⟨q0, q1, qP, va_K.moved (u := U) (U := U.calling g mk a) (Vm.Alike.refl U.vm) qK, qD⟩, va_recv hKc hPc (ci := 12) (q0 := 0) rfl rfl, fun U hU hW => ⟨rfl, by rw [hU], by rw [hU]; exact hPc, va_K.moved hW.alike hKc, hDc.weaken (fun _ _ _ _ => trivial)⟩⟩ rfl rfl hl.1 rfl (lv_room (Nat.le_of_ble_eq_true rfl)) dX12_number_49 ⟨Nat.zero_le _, Nat.zero_le _⟩) hS (fun q _ h => hFc q h) hFc (fun u t H1 locs ht hvm hw hB hz1 hk1 hS => ?_)
        obtain ⟨y_144, y_145, y_146, y_147, y_148, y_149, y_150, gy_146, gy_147, gy_149, gy_150, hpr0_r_143, hpr1_r_143, hpr2_r_143, hpr3_r_143, hpr4_r_143, hpr5_r_143, hpr6_r_143, hE, hP1, hD1⟩ := hB
        rw [ht] at hP1
        obtain ⟨hP, hD⟩ := va_join (wr := []) (w1 := [(h0, .inr (12, fsMM (upd (upd (upd (upd (upd (upd (upd mi 27 y_144) 28 y_145) 29 y_146) 30 y_147) 31 y_148) 32 y_149) 33 y_150) mr)), ((mr 13), .inl (km_tape, 1600, .inl fm_tape))]) hP hD [0, 1] [] rfl rfl (by decide) (by decide) hk1 hFc hP1 hD1
        have hpr0_r_143 : (mi 30).toInt ≤ y_147.toInt := hpr0_r_143
        have hpr1_r_143 : y_147.toInt ≤ y_146.toInt := hpr1_r_143
        have hpr2_r_143 : y_146.toInt ≤ (mi 26).toInt := hpr2_r_143
        have hpr3_r_143 : Hid ((y_148.toInt = 0 ∨ y_147.toInt < y_146.toInt)) := hpr3_r_143
        have hpr4_r_143 : y_141.toInt ≤ y_150.toInt := hpr4_r_143
        have g_151 : gi y_150 1 1 := gi_relL (show y_141.toInt ≤ y_150.toInt from by omega) g_142 gy_150
        have hpr5_r_143 : Hid (((1 : Int) = 1 ∨ y_150.toInt = 1)) := by have h9 : ((1 : Int32).toInt = 1 ∨ y_150.toInt = 1) := hpr5_r_143; rw [show (1 : Int32).toInt = 1 from by decide] at h9; exact h9
        have hpr6_r_143 : Hid ((y_150.toInt = 1 ∨ (mi 29).toInt ≤ y_147.toInt)) := hpr6_r_143
        have hP := hP.sub (ws' := [(h0, .inr (12, fsMM (upd (upd (upd (upd (upd (upd (upd mi 27 y_144) 28 y_145) 29 y_146) 30 y_147) 31 y_148) 32 y_149) 33 y_150) mr)), ((mr 13), .inl (km_tape, 1600, .inl fm_tape))]) [0, 1] rfl
        have hD := hD.sub (ws' := [(h0, .inr (12, fsMM (upd (upd (upd (upd (upd (upd (upd mi 27 y_144) 28 y_145) 29 y_146) 30 y_147) 31 y_148) 32 y_149) 33 y_150) mr)), ((mr 13), .inl (km_tape, 1600, .inl fm_tape))]) [0, 1] (by decide) rfl
        have hF := gf_callm (a := (y_144, y_145, y_146, y_147, y_148, y_149, y_150)) hE hF (by first | with_reducible rfl | simp only [upd_same, upd_app, ↓reduceIte, Nat.reduceEqDiff])
        generalize H1 = H at hP hS ⊢
        refine lv_iload_n hx hb dX12_number_52 rfl (lv_at hl 0 rfl) ?_
        exact W.iret (v := (mi 32)) hx hb hr (fun t ht hW => ⟨⟨(mi 32), (mi 32), rfl, ⟨rfl, gmi_32⟩, y_144, y_145, y_146, y_147, y_148, y_149, y_150, gy_146, gy_147, gy_149, (gi_w g_151 (by decide)), hpr0_r_143, hpr1_r_143, hpr2_r_143, (Hid.un hpr3_r_143), (show (mi 33).toInt ≤ y_150.toInt from by have qgy_150 := g_151.1; have rgy_150 := g_151.2; have qgy_147 := gy_147.1; have rgy_147 := gy_147.2; have qgy_146 := gy_146.1; have rgy_146 := gy_146.2; have qgy_141 := g_142.1; have rgy_141 := g_142.2; have qgr_122 := g_136.1; have rgr_122 := g_136.2; have qgmi_33 := g_115.1; have rgmi_33 := g_115.2; have qgmi_31 := g_118.1; have rgmi_31 := g_118.2; have qgmi_30 := gmi_30.1; have rgmi_30 := gmi_30.2; have qgmi_29 := gmi_29.1; have rgmi_29 := gmi_29.2; have qgmi_26 := gmi_26.1; have rgmi_26 := gmi_26.2; omega), (show (y_150.toInt = 1 ∨ (p1.toInt ≤ (mi 32).toInt ∧ (mi 32).toInt ≤ p2.toInt)) from by have qgy_150 := g_151.1; have rgy_150 := g_151.2; have qgy_147 := gy_147.1; have rgy_147 := gy_147.2; have qgy_146 := gy_146.1; have rgy_146 := gy_146.2; have qgy_141 := g_142.1; have rgy_141 := g_142.2; have qgr_122 := g_136.1; have rgr_122 := g_136.2; have qgp1 := gp1.1; have rgp1 := gp1.2; have qgmi_33 := g_115.1; have rgmi_33 := g_115.2; have qgmi_32 := gmi_32.1; have rgmi_32 := gmi_32.2; have qgmi_31 := g_118.1; have rgmi_31 := g_118.2; have qgmi_30 := gmi_30.1; have rgmi_30 := gmi_30.2; have qgmi_29 := gmi_29.1; have rgmi_29 := gmi_29.2; have qgmi_26 := gmi_26.1; have rgmi_26 := gmi_26.2; omega), hF.trans hR9.symm, by rw [ht]; exact hP, hD⟩, hS.F ht⟩) hS.2.2 dX12_number_53
    · have hF := gf_neg c_116 hF
      have hc_152 : (mi 31).toInt ≠ 2 := fun h9 => c_116 (Int32.toInt_inj.mp (by rw [show (2 : Int32).toInt = 2 from by decide]; exact h9))
      refine lv_aload_n hx hb dX12_number_22 rfl (lv_at hl 1 rfl) ?_
      refine lv_iconst (v := 1) hx hb dX12_number_23 (by decide) ?_
      have hPc := hP.sub (ws' := [(h0, .inr (12, fsMM mi mr))]) [0] rfl
      have hKc := hK.sub (tys' := []) [] rfl
      have hDc := hD.sub (ws' := [(h0, .inr (12, fsMM mi mr))]) [0] (by decide) rfl
      have hFc := va_free (wc := [(h0, .inr (12, fsMM mi mr))]) hD hS hA [0] rfl
      refine va_callv (va_runV (As := [.int 1]) (rest := []) ⟨hx, hb, hml, hown, hts⟩ (sX12_faultsP l dC dI s.heap.size h0 mi mr 1 gmi_0 gmi_1 gmi_2 gmi_4 gmi_7 gmi_10 gmi_17 gmi_23 gmi_24 gmi_26 gmi_29 gmi_30 gmi_32 (gi_w g_115 (by decide)) gmi_37 gmi_41 gmi_50 gmi_51 gmi_56) (cwV 1 hts (gz_gV mGB_165 mGB_166 mGB_167 mGB_1 mGB_168 goodGB) rfl rfl rfl (by decide +kernel) ⟨Nat.le_of_ble_eq_true rfl, Nat.le_of_ble_eq_true rfl⟩) ⟨fun a U g mk q => by obtain ⟨q0, q1, qP, qK, qD⟩ := q; exact ⟨q0, q1, qP, va_K.moved (u := U) (U := U.calling g mk a) (Vm.Alike.refl U.vm) qK, qD⟩, va_recv hKc hPc (ci := 12) (q0 := 0) rfl rfl, fun U hU hW => ⟨rfl, by rw [hU], by rw [hU]; exact hPc, va_K.moved hW.alike hKc, hDc.weaken (fun _ _ _ _ => trivial)⟩⟩ rfl rfl hl.1 rfl (lv_room (Nat.le_of_ble_eq_true rfl)) dX12_number_24 ⟨Nat.zero_le _, Nat.zero_le _⟩) hS (fun q _ h => hFc q h) hFc (fun u t H1 locs ht hvm hw hB hz1 hk1 hS => ?_)
      obtain ⟨y_154, y_155, y_156, gy_156, hpr0_r_153, hE, hP1, hD1⟩ := hB
      rw [ht] at hP1
      obtain ⟨hP, hD⟩ := va_join (wr := [((mr 13), .inl (km_tape, 1600, .inl fm_tape))]) (w1 := [(h0, .inr (12, fsMM (upd (upd (upd mi 27 y_154) 28 y_155) 33 y_156) mr))]) hP hD [0] [1] rfl rfl (by decide) (by decide) hk1 hFc hP1 hD1
      have hpr0_r_153 : y_156.toInt = 1 := hpr0_r_153
      have g_157 : gi y_156 1 1 := ⟨by omega, by omega⟩
      have hP := hP.sub (ws' := [(h0, .inr (12, fsMM (upd (upd (upd mi 27 y_154) 28 y_155) 33 y_156) mr)), ((mr 13), .inl (km_tape, 1600, .inl fm_tape))]) [1, 0] rfl
      have hD := hD.sub (ws' := [(h0, .inr (12, fsMM (upd (upd (upd mi 27 y_154) 28 y_155) 33 y_156) mr)), ((mr 13), .inl (km_tape, 1600, .inl fm_tape))]) [1, 0] (by decide) rfl
      have hF := gf_callm (a := (y_154, y_155, y_156)) hE hF (by first | with_reducible rfl | simp only [upd_same, upd_app, ↓reduceIte, Nat.reduceEqDiff])
      generalize H1 = H at hP hS ⊢
      refine lv_goto (tgt := 47) hx hb dX12_number_27 (by decide) ?_
      refine lv_aload_n hx hb dX12_number_47 rfl (lv_at hl 1 rfl) ?_
      refine lv_iconst (v := 1) hx hb dX12_number_48 (by decide) ?_
      have hPc := hP.sub (ws' := [(h0, .inr (12, fsMM (upd (upd (upd mi 27 y_154) 28 y_155) 33 y_156) mr)), ((mr 13), .inl (km_tape, 1600, .inl fm_tape))]) [0, 1] rfl
      have hKc := hK.sub (tys' := [(km_tape, .int)]) [0] rfl
      have hDc := hD.sub (ws' := [(h0, .inr (12, fsMM (upd (upd (upd mi 27 y_154) 28 y_155) 33 y_156) mr)), ((mr 13), .inl (km_tape, 1600, .inl fm_tape))]) [0, 1] (by decide) rfl
      have hFc := va_free (wc := [(h0, .inr (12, fsMM (upd (upd (upd mi 27 y_154) 28 y_155) 33 y_156) mr)), ((mr 13), .inl (km_tape, 1600, .inl fm_tape))]) hD hS hA [0, 1] rfl
      refine va_callv (va_runV (As := [.int 1]) (rest := []) ⟨hx, hb, hml, hown, hts⟩ (sX12_passesP l dC dI H.size h0 (upd (upd (upd mi 27 y_154) 28 y_155) 33 y_156) mr km_tape fm_tape 1 gmi_0 gmi_1 gmi_2 gmi_4 gmi_7 gmi_10 gmi_17 gmi_23 gmi_24 gmi_26 gmi_29 gmi_30 gmi_32 (gi_w g_157 (by decide)) gmi_37 gmi_41 gmi_50 gmi_51 gmi_56 (gi_w (gi_c 1 1 (by decide)) (by decide)) (show (mi 30).toInt ≤ (mi 29).toInt from by have qgy_156 := g_157.1; have rgy_156 := g_157.2; have qgmi_33 := g_115.1; have rgmi_33 := g_115.2; have qgmi_30 := gmi_30.1; have rgmi_30 := gmi_30.2; have qgmi_29 := gmi_29.1; have rgmi_29 := gmi_29.2; have qgmi_26 := gmi_26.1; have rgmi_26 := gmi_26.2; omega) (show (mi 29).toInt ≤ (mi 26).toInt from by have qgy_156 := g_157.1; have rgy_156 := g_157.2; have qgmi_33 := g_115.1; have rgmi_33 := g_115.2; have qgmi_30 := gmi_30.1; have rgmi_30 := gmi_30.2; have qgmi_29 := gmi_29.1; have rgmi_29 := gmi_29.2; have qgmi_26 := gmi_26.1; have rgmi_26 := gmi_26.2; omega) (show ((mi 31).toInt = 0 ∨ (mi 30).toInt < (mi 29).toInt) from by have qgy_156 := g_157.1; have rgy_156 := g_157.2; have qgmi_33 := g_115.1; have rgmi_33 := g_115.2; have qgmi_30 := gmi_30.1; have rgmi_30 := gmi_30.2; have qgmi_29 := gmi_29.1; have rgmi_29 := gmi_29.2; have qgmi_26 := gmi_26.1; have rgmi_26 := gmi_26.2; omega)) (cwV 1 hts (gz_gV mGB_161 mGB_162 mGB_163 mGB_1 mGB_164 goodGB) rfl rfl rfl (by decide +kernel) ⟨Nat.le_of_ble_eq_true rfl, Nat.le_of_ble_eq_true rfl⟩) ⟨fun a U g mk q => by obtain ⟨q0, q1, qP, qK, qD⟩ := q; exact ⟨q0, q1, qP, va_K.moved (u := U) (U := U.calling g mk a) (Vm.Alike.refl U.vm) qK, qD⟩, va_recv hKc hPc (ci := 12) (q0 := 0) rfl rfl, fun U hU hW => ⟨rfl, by rw [hU], by rw [hU]; exact hPc, va_K.moved hW.alike hKc, hDc.weaken (fun _ _ _ _ => trivial)⟩⟩ rfl rfl hl.1 rfl (lv_room (Nat.le_of_ble_eq_true rfl)) dX12_number_49 ⟨Nat.zero_le _, Nat.zero_le _⟩) hS (fun q _ h => hFc q h) hFc (fun u t H1 locs ht hvm hw hB hz1 hk1 hS => ?_)
      obtain ⟨y_159, y_160, y_161, y_162, y_163, y_164, y_165, gy_161, gy_162, gy_164, gy_165, hpr0_r_158, hpr1_r_158, hpr2_r_158, hpr3_r_158, hpr4_r_158, hpr5_r_158, hpr6_r_158, hE, hP1, hD1⟩ := hB
      rw [ht] at hP1
      obtain ⟨hP, hD⟩ := va_join (wr := []) (w1 := [(h0, .inr (12, fsMM (upd (upd (upd (upd (upd (upd (upd mi 27 y_159) 28 y_160) 29 y_161) 30 y_162) 31 y_163) 32 y_164) 33 y_165) mr)), ((mr 13), .inl (km_tape, 1600, .inl fm_tape))]) hP hD [0, 1] [] rfl rfl (by decide) (by decide) hk1 hFc hP1 hD1
      have hpr0_r_158 : (mi 30).toInt ≤ y_162.toInt := hpr0_r_158
      have hpr1_r_158 : y_162.toInt ≤ y_161.toInt := hpr1_r_158
      have hpr2_r_158 : y_161.toInt ≤ (mi 26).toInt := hpr2_r_158
      have hpr3_r_158 : Hid ((y_163.toInt = 0 ∨ y_162.toInt < y_161.toInt)) := hpr3_r_158
      have hpr4_r_158 : y_156.toInt ≤ y_165.toInt := hpr4_r_158
      have g_166 : gi y_165 1 1 := gi_relL (show y_156.toInt ≤ y_165.toInt from by omega) g_157 gy_165
      have hpr5_r_158 : Hid (((1 : Int) = 1 ∨ y_165.toInt = 1)) := by have h9 : ((1 : Int32).toInt = 1 ∨ y_165.toInt = 1) := hpr5_r_158; rw [show (1 : Int32).toInt = 1 from by decide] at h9; exact h9
      have hpr6_r_158 : Hid ((y_165.toInt = 1 ∨ (mi 29).toInt ≤ y_162.toInt)) := hpr6_r_158
      have hP := hP.sub (ws' := [(h0, .inr (12, fsMM (upd (upd (upd (upd (upd (upd (upd mi 27 y_159) 28 y_160) 29 y_161) 30 y_162) 31 y_163) 32 y_164) 33 y_165) mr)), ((mr 13), .inl (km_tape, 1600, .inl fm_tape))]) [0, 1] rfl
      have hD := hD.sub (ws' := [(h0, .inr (12, fsMM (upd (upd (upd (upd (upd (upd (upd mi 27 y_159) 28 y_160) 29 y_161) 30 y_162) 31 y_163) 32 y_164) 33 y_165) mr)), ((mr 13), .inl (km_tape, 1600, .inl fm_tape))]) [0, 1] (by decide) rfl
      have hF := gf_callm (a := (y_159, y_160, y_161, y_162, y_163, y_164, y_165)) hE hF (by first | with_reducible rfl | simp only [upd_same, upd_app, ↓reduceIte, Nat.reduceEqDiff])
      generalize H1 = H at hP hS ⊢
      refine lv_iload_n hx hb dX12_number_52 rfl (lv_at hl 0 rfl) ?_
      exact W.iret (v := (mi 32)) hx hb hr (fun t ht hW => ⟨⟨(mi 32), (mi 32), rfl, ⟨rfl, gmi_32⟩, y_159, y_160, y_161, y_162, y_163, y_164, y_165, gy_161, gy_162, gy_164, (gi_w g_166 (by decide)), hpr0_r_158, hpr1_r_158, hpr2_r_158, (Hid.un hpr3_r_158), (show (mi 33).toInt ≤ y_165.toInt from by have qgy_165 := g_166.1; have rgy_165 := g_166.2; have qgy_162 := gy_162.1; have rgy_162 := gy_162.2; have qgy_161 := gy_161.1; have rgy_161 := gy_161.2; have qgy_156 := g_157.1; have rgy_156 := g_157.2; have qgmi_33 := g_115.1; have rgmi_33 := g_115.2; have qgmi_30 := gmi_30.1; have rgmi_30 := gmi_30.2; have qgmi_29 := gmi_29.1; have rgmi_29 := gmi_29.2; have qgmi_26 := gmi_26.1; have rgmi_26 := gmi_26.2; omega), (show (y_165.toInt = 1 ∨ (p1.toInt ≤ (mi 32).toInt ∧ (mi 32).toInt ≤ p2.toInt)) from by have qgy_165 := g_166.1; have rgy_165 := g_166.2; have qgy_162 := gy_162.1; have rgy_162 := gy_162.2; have qgy_161 := gy_161.1; have rgy_161 := gy_161.2; have qgy_156 := g_157.1; have rgy_156 := g_157.2; have qgp1 := gp1.1; have rgp1 := gp1.2; have qgmi_33 := g_115.1; have rgmi_33 := g_115.2; have qgmi_32 := gmi_32.1; have rgmi_32 := gmi_32.2; have qgmi_30 := gmi_30.1; have rgmi_30 := gmi_30.2; have qgmi_29 := gmi_29.1; have rgmi_29 := gmi_29.2; have qgmi_26 := gmi_26.1; have rgmi_26 := gmi_26.2; omega), hF.trans hR9.symm, by rw [ht]; exact hP, hD⟩, hS.F ht⟩) hS.2.2 dX12_number_53
  · have hF := gf_neg c_113 hF
    have hc_167 : (mi 33).toInt ≠ 0 := fun h9 => c_113 (Int32.toInt_inj.mp (by rw [show (0 : Int32).toInt = 0 from by decide]; exact h9))
    have g_168 : gi (mi 33) 1 1 := gi_ne_lo c_113 gmi_33 (gi_c 0 0 (by decide)) (by decide)
    refine lv_iload_n hx hb dX12_number_12 rfl (lv_at hl 2 rfl) ?_
    exact W.iret (v := p1) hx hb hr (fun t ht hW => ⟨⟨p1, p1, rfl, ⟨rfl, gp1⟩, (mi 27), (mi 28), (mi 29), (mi 30), (mi 31), (mi 32), (mi 33), gmi_29, gmi_30, gmi_32, (gi_w g_168 (by decide)), (show (mi 30).toInt ≤ (mi 30).toInt from by have qgmi_33 := g_168.1; have rgmi_33 := g_168.2; have qgmi_30 := gmi_30.1; have rgmi_30 := gmi_30.2; have qgmi_29 := gmi_29.1; have rgmi_29 := gmi_29.2; have qgmi_26 := gmi_26.1; have rgmi_26 := gmi_26.2; omega), (show (mi 30).toInt ≤ (mi 29).toInt from by have qgmi_33 := g_168.1; have rgmi_33 := g_168.2; have qgmi_30 := gmi_30.1; have rgmi_30 := gmi_30.2; have qgmi_29 := gmi_29.1; have rgmi_29 := gmi_29.2; have qgmi_26 := gmi_26.1; have rgmi_26 := gmi_26.2; omega), (show (mi 29).toInt ≤ (mi 26).toInt from by have qgmi_33 := g_168.1; have rgmi_33 := g_168.2; have qgmi_30 := gmi_30.1; have rgmi_30 := gmi_30.2; have qgmi_29 := gmi_29.1; have rgmi_29 := gmi_29.2; have qgmi_26 := gmi_26.1; have rgmi_26 := gmi_26.2; omega), (show ((mi 31).toInt = 0 ∨ (mi 30).toInt < (mi 29).toInt) from by have qgmi_33 := g_168.1; have rgmi_33 := g_168.2; have qgmi_30 := gmi_30.1; have rgmi_30 := gmi_30.2; have qgmi_29 := gmi_29.1; have rgmi_29 := gmi_29.2; have qgmi_26 := gmi_26.1; have rgmi_26 := gmi_26.2; omega), (show (mi 33).toInt ≤ (mi 33).toInt from by have qgmi_33 := g_168.1; have rgmi_33 := g_168.2; have qgmi_30 := gmi_30.1; have rgmi_30 := gmi_30.2; have qgmi_29 := gmi_29.1; have rgmi_29 := gmi_29.2; have qgmi_26 := gmi_26.1; have rgmi_26 := gmi_26.2; omega), (show ((mi 33).toInt = 1 ∨ (p1.toInt ≤ p1.toInt ∧ p1.toInt ≤ p2.toInt)) from by have qgp1 := gp1.1; have rgp1 := gp1.2; have qgmi_33 := g_168.1; have rgmi_33 := g_168.2; have qgmi_30 := gmi_30.1; have rgmi_30 := gmi_30.2; have qgmi_29 := gmi_29.1; have rgmi_29 := gmi_29.2; have qgmi_26 := gmi_26.1; have rgmi_26 := gmi_26.2; omega), hF.trans hR9.symm, by rw [ht]; exact hP, hD⟩, hS.F ht⟩) hS.2.2 dX12_number_13
theorem dX12_named_0 : decode cX12_named 0 = .ok (.iconst 0, 1) := by decide +kernel
theorem dX12_named_1 : decode cX12_named 1 = .ok (.istore_n 1, 1) := by decide +kernel
theorem dX12_named_2 : decode cX12_named 2 = .ok (.iload_n 1, 1) := by decide +kernel
theorem dX12_named_3 : decode cX12_named 3 = .ok (.aload_n 0, 1) := by decide +kernel
theorem dX12_named_4 : decode cX12_named 4 = .ok (.getfield 138, 3) := by decide +kernel
theorem dX12_named_7 : decode cX12_named 7 = .ok (.if_icmp .ge 101, 3) := by decide +kernel
theorem dX12_named_10 : decode cX12_named 10 = .ok (.aload_n 0, 1) := by decide +kernel
theorem dX12_named_11 : decode cX12_named 11 = .ok (.getfield 151, 3) := by decide +kernel
theorem dX12_named_14 : decode cX12_named 14 = .ok (.aload_n 0, 1) := by decide +kernel
theorem dX12_named_15 : decode cX12_named 15 = .ok (.getfield 158, 3) := by decide +kernel
theorem dX12_named_18 : decode cX12_named 18 = .ok (.isub, 1) := by decide +kernel
theorem dX12_named_19 : decode cX12_named 19 = .ok (.bipush 6, 2) := by decide +kernel
theorem dX12_named_21 : decode cX12_named 21 = .ok (.if_icmp .gt 7, 3) := by decide +kernel
theorem dX12_named_24 : decode cX12_named 24 = .ok (.iconst 1, 1) := by decide +kernel
theorem dX12_named_25 : decode cX12_named 25 = .ok (.goto 4, 3) := by decide +kernel
theorem dX12_named_28 : decode cX12_named 28 = .ok (.iconst 0, 1) := by decide +kernel
theorem dX12_named_29 : decode cX12_named 29 = .ok (.istore_n 2, 1) := by decide +kernel
theorem dX12_named_30 : decode cX12_named 30 = .ok (.iconst 0, 1) := by decide +kernel
theorem dX12_named_31 : decode cX12_named 31 = .ok (.istore_n 3, 1) := by decide +kernel
theorem dX12_named_32 : decode cX12_named 32 = .ok (.iload_n 3, 1) := by decide +kernel
theorem dX12_named_33 : decode cX12_named 33 = .ok (.bipush 6, 2) := by decide +kernel
theorem dX12_named_35 : decode cX12_named 35 = .ok (.if_icmp .ge 61, 3) := by decide +kernel
theorem dX12_named_38 : decode cX12_named 38 = .ok (.iload_n 2, 1) := by decide +kernel
theorem dX12_named_39 : decode cX12_named 39 = .ok (.ifCond .eq 57, 3) := by decide +kernel
theorem dX12_named_42 : decode cX12_named 42 = .ok (.aload_n 0, 1) := by decide +kernel
theorem dX12_named_43 : decode cX12_named 43 = .ok (.getfield 13, 3) := by decide +kernel
theorem dX12_named_46 : decode cX12_named 46 = .ok (.bipush 6, 2) := by decide +kernel
theorem dX12_named_48 : decode cX12_named 48 = .ok (.iload_n 1, 1) := by decide +kernel
theorem dX12_named_49 : decode cX12_named 49 = .ok (.imul, 1) := by decide +kernel
theorem dX12_named_50 : decode cX12_named 50 = .ok (.iload_n 3, 1) := by decide +kernel
theorem dX12_named_51 : decode cX12_named 51 = .ok (.iadd, 1) := by decide +kernel
theorem dX12_named_52 : decode cX12_named 52 = .ok (.iaload, 1) := by decide +kernel
theorem dX12_named_53 : decode cX12_named 53 = .ok (.iload_n 3, 1) := by decide +kernel
theorem dX12_named_54 : decode cX12_named 54 = .ok (.aload_n 0, 1) := by decide +kernel
theorem dX12_named_55 : decode cX12_named 55 = .ok (.getfield 151, 3) := by decide +kernel
theorem dX12_named_58 : decode cX12_named 58 = .ok (.aload_n 0, 1) := by decide +kernel
theorem dX12_named_59 : decode cX12_named 59 = .ok (.getfield 158, 3) := by decide +kernel
theorem dX12_named_62 : decode cX12_named 62 = .ok (.isub, 1) := by decide +kernel
theorem dX12_named_63 : decode cX12_named 63 = .ok (.if_icmp .ge 17, 3) := by decide +kernel
theorem dX12_named_66 : decode cX12_named 66 = .ok (.aload_n 0, 1) := by decide +kernel
theorem dX12_named_67 : decode cX12_named 67 = .ok (.getfield 50, 3) := by decide +kernel
theorem dX12_named_70 : decode cX12_named 70 = .ok (.aload_n 0, 1) := by decide +kernel
theorem dX12_named_71 : decode cX12_named 71 = .ok (.getfield 158, 3) := by decide +kernel
theorem dX12_named_74 : decode cX12_named 74 = .ok (.iload_n 3, 1) := by decide +kernel
theorem dX12_named_75 : decode cX12_named 75 = .ok (.iadd, 1) := by decide +kernel
theorem dX12_named_76 : decode cX12_named 76 = .ok (.iaload, 1) := by decide +kernel
theorem dX12_named_77 : decode cX12_named 77 = .ok (.goto 4, 3) := by decide +kernel
theorem dX12_named_80 : decode cX12_named 80 = .ok (.iconst 0, 1) := by decide +kernel
theorem dX12_named_81 : decode cX12_named 81 = .ok (.if_icmp .ne 7, 3) := by decide +kernel
theorem dX12_named_84 : decode cX12_named 84 = .ok (.iconst 1, 1) := by decide +kernel
theorem dX12_named_85 : decode cX12_named 85 = .ok (.goto 4, 3) := by decide +kernel
theorem dX12_named_88 : decode cX12_named 88 = .ok (.iconst 0, 1) := by decide +kernel
theorem dX12_named_89 : decode cX12_named 89 = .ok (.istore_n 2, 1) := by decide +kernel
theorem dX12_named_90 : decode cX12_named 90 = .ok (.iinc 3 1, 3) := by decide +kernel
theorem dX12_named_93 : decode cX12_named 93 = .ok (.goto (-61), 3) := by decide +kernel
theorem dX12_named_96 : decode cX12_named 96 = .ok (.iload_n 2, 1) := by decide +kernel
theorem dX12_named_97 : decode cX12_named 97 = .ok (.ifCond .eq 5, 3) := by decide +kernel
theorem dX12_named_100 : decode cX12_named 100 = .ok (.iload_n 1, 1) := by decide +kernel
theorem dX12_named_101 : decode cX12_named 101 = .ok (.ireturn, 1) := by decide +kernel
theorem dX12_named_102 : decode cX12_named 102 = .ok (.iinc 1 1, 3) := by decide +kernel
theorem dX12_named_105 : decode cX12_named 105 = .ok (.goto (-103), 3) := by decide +kernel
theorem dX12_named_108 : decode cX12_named 108 = .ok (.iconst (-1), 1) := by decide +kernel
theorem dX12_named_109 : decode cX12_named 109 = .ok (.ireturn, 1) := by decide +kernel
noncomputable def bfX12_named_29 (mi : Nat → Int32) (fm_tape : Nat → Int32) (fm_letter : Nat → Int32) (K : (Int32 → Int32) × (Int32 → Int32 → Int32 → Int32)) (v1 : Int32) (s0 : Int32) : Int32 := K.2 v1 s0 (0 : Int32)
noncomputable def bfX12_named_89 (mi : Nat → Int32) (fm_tape : Nat → Int32) (fm_letter : Nat → Int32) (K : (Int32 → Int32) × (Int32 → Int32 → Int32 → Int32)) (v1 : Int32) (v3 : Int32) (s0 : Int32) : Int32 := K.2 v1 s0 (v3 + (1 : Int32))
noncomputable def bfX12_named_81 (mi : Nat → Int32) (fm_tape : Nat → Int32) (fm_letter : Nat → Int32) (K : (Int32 → Int32) × (Int32 → Int32 → Int32 → Int32)) (v1 : Int32) (v3 : Int32) (s0 : Int32) (s1 : Int32) : Int32 := if s1 = s0 then (bfX12_named_89 mi fm_tape fm_letter K v1 v3 (1 : Int32)) else (bfX12_named_89 mi fm_tape fm_letter K v1 v3 (0 : Int32))
noncomputable def bfX12_named_96 (mi : Nat → Int32) (fm_tape : Nat → Int32) (fm_letter : Nat → Int32) (K : (Int32 → Int32) × (Int32 → Int32 → Int32 → Int32)) (v1 : Int32) (v2 : Int32) : Int32 := if v2 = (0 : Int32) then (K.1 (v1 + (1 : Int32))) else v1
noncomputable def dfX12_named_2 (mi : Nat → Int32) (fm_tape : Nat → Int32) (fm_letter : Nat → Int32) (K : (Int32 → Int32) × (Int32 → Int32 → Int32 → Int32)) (v1 : Int32) : Int32 := if (mi 7) ≤ v1 then (-1 : Int32) else (if (6 : Int32) < ((mi 29) - (mi 30)) then (bfX12_named_29 mi fm_tape fm_letter K v1 (0 : Int32)) else (bfX12_named_29 mi fm_tape fm_letter K v1 (1 : Int32)))
noncomputable def dfX12_named_32 (mi : Nat → Int32) (fm_tape : Nat → Int32) (fm_letter : Nat → Int32) (K : (Int32 → Int32) × (Int32 → Int32 → Int32 → Int32)) (v1 : Int32) (v2 : Int32) (v3 : Int32) : Int32 := if (6 : Int32) ≤ v3 then (bfX12_named_96 mi fm_tape fm_letter K v1 v2) else (if v2 = (0 : Int32) then (bfX12_named_96 mi fm_tape fm_letter K v1 v2) else (if ((mi 29) - (mi 30)) ≤ v3 then (bfX12_named_81 mi fm_tape fm_letter K v1 v3 (0 : Int32) (fm_letter (((6 : Int32) * v1) + v3).toNatClampNeg)) else (bfX12_named_81 mi fm_tape fm_letter K v1 v3 (fm_tape ((mi 30) + v3).toNatClampNeg) (fm_letter (((6 : Int32) * v1) + v3).toNatClampNeg))))
noncomputable def lfX12_named (mi : Nat → Int32) (fm_tape : Nat → Int32) (fm_letter : Nat → Int32) (z : Nat) : (Int32 → Int32) × (Int32 → Int32 → Int32 → Int32) := Nat.rec (motive := fun _ => (Int32 → Int32) × (Int32 → Int32 → Int32 → Int32)) ((fun _ => (0), fun _ _ _ => (0))) (fun _ K => (dfX12_named_2 mi fm_tape fm_letter K, dfX12_named_32 mi fm_tape fm_letter K)) z
noncomputable def fX12_named (mi : Nat → Int32) (fm_tape : Nat → Int32) (fm_letter : Nat → Int32) : Int32 := (lfX12_named mi fm_tape fm_letter 1000000000).1 (0 : Int32)
set_option maxHeartbeats 4000000 in
set_option maxRecDepth 100000 in
theorem lp_sX12_namedP {p : Program} {l : Launch} {e : Env} {R : Room} {s : State} {m : MethodId} {args : Array Value} {below : List Frame} {meth : Method} {c : Code} {Q : State → Prop} {A : Nat → Prop} {cells slots : Nat} {dC : Nat → ClassId} {dI : Nat → Nat → Nat} {RES : Int32} (h0 : Nat) (mi : Nat → Int32) (mr : Nat → Nat) (km_tape : ClassId) (fm_tape : Nat → Int32) (km_letter : ClassId) (fm_letter : Nat → Int32) (gmi_0 : gi (mi 0) 0 100000) (gmi_1 : gi (mi 1) 0 100000) (gmi_2 : gi (mi 2) 0 100000) (gmi_4 : gi (mi 4) 0 1) (gmi_7 : gi (mi 7) 0 6) (gmi_10 : gi (mi 10) 0 24) (gmi_17 : gi (mi 17) 0 8) (gmi_23 : gi (mi 23) 0 300) (gmi_24 : gi (mi 24) 0 1) (gmi_26 : gi (mi 26) 0 1600) (gmi_29 : gi (mi 29) 0 1600) (gmi_30 : gi (mi 30) 0 1600) (gmi_32 : gi (mi 32) 0 100000) (gmi_33 : gi (mi 33) 0 1) (gmi_37 : gi (mi 37) 0 1) (gmi_41 : gi (mi 41) 0 24) (gmi_50 : gi (mi 50) 0 1) (gmi_51 : gi (mi 51) 0 1) (gmi_56 : gi (mi 56) 0 80) (hpq0 : (mi 30).toInt ≤ (mi 29).toInt) (hpq1 : (mi 29).toInt ≤ (mi 26).toInt) (hpq2 : ((mi 31).toInt = 0 ∨ (mi 30).toInt < (mi 29).toInt)) (hx : p.tables.exec = Jvm.exec) (hb : c.code = cX12_named) (hml : c.maxLocals = 4) (hown : s.vm.findClass RX12 = some m.cls) (hts : ∀ w ∈ ((.code yX12_named cX12_named 4 (some .int) :: wsGB) : List Cond), w.before args s = true) (hK : va_K (dC, dI) vwCl [(km_tape, .int), (km_letter, .int)] s) (hRf : 0 ≤ R.frames) (hRl : 0 ≤ R.locals) (hRc : cells ≤ R.cells) (hRs : slots ≤ R.slots) (kr109 : ∀ (v : Int32) (H : Heap) (locs : List Loc) (ls : Array Slot), gi v (-1) (-1) → v = RES → va_P (dC, dI) vwCl [(h0, .inr (12, fsMM mi mr)), ((mr 13), .inl (km_tape, 1600, .inl fm_tape)), ((mr 1), .inl (km_letter, 36, .inl fm_letter))] H → va_S A s.heap H locs → lv_has ls 4 [] → W p l e R s m args below meth c H locs cells slots Q (F0 m 109 ls [.int v])) (kr101 : ∀ (v : Int32) (H : Heap) (locs : List Loc) (ls : Array Slot), gi v 0 5 → v = RES → va_P (dC, dI) vwCl [(h0, .inr (12, fsMM mi mr)), ((mr 13), .inl (km_tape, 1600, .inl fm_tape)), ((mr 1), .inl (km_letter, 36, .inl fm_letter))] H → va_S A s.heap H locs → lv_has ls 4 [] → W p l e R s m args below meth c H locs cells slots Q (F0 m 101 ls [.int v])) : ∀ z : Nat, (∀ (v1 : Int32) (H : Heap) (locs : List Loc) (ls : Array Slot), gi v1 0 6 → (lfX12_named mi fm_tape fm_letter z).1 v1 = RES → 109 + (-18) * v1.toInt < (z : Int) → va_P (dC, dI) vwCl [(h0, .inr (12, fsMM mi mr)), ((mr 13), .inl (km_tape, 1600, .inl fm_tape)), ((mr 1), .inl (km_letter, 36, .inl fm_letter))] H → va_S A s.heap H locs → lv_has ls 4 [(0, .ref h0), (1, .int v1)] → W p l e R s m args below meth c H locs cells slots Q (F0 m 2 ls [])) ∧ (∀ (v1 : Int32) (v2 : Int32) (v3 : Int32) (H : Heap) (locs : List Loc) (ls : Array Slot), gi v1 0 5 → gi v2 0 1 → gi v3 0 6 → (lfX12_named mi fm_tape fm_letter z).2 v1 v2 v3 = RES → 104 + (-18) * v1.toInt + (-2) * v3.toInt < (z : Int) → va_P (dC, dI) vwCl [(h0, .inr (12, fsMM mi mr)), ((mr 13), .inl (km_tape, 1600, .inl fm_tape)), ((mr 1), .inl (km_letter, 36, .inl fm_letter))] H → va_S A s.heap H locs → lv_has ls 4 [(0, .ref h0), (1, .int v1), (2, .int v2), (3, .int v3)] → W p l e R s m args below meth c H locs cells slots Q (F0 m 32 ls [])) := by
  intro z
  induction z with
  | zero =>
    refine ⟨?_, ?_⟩
    · intro v1 H locs ls gv1 hF hmu hP hS hl
      exact absurd hmu (by have hv11 := gv1.1; have hv12 := gv1.2; omega)
    · intro v1 v2 v3 H locs ls gv1 gv2 gv3 hF hmu hP hS hl
      exact absurd hmu (by have hv11 := gv1.1; have hv12 := gv1.2; have hv31 := gv3.1; have hv32 := gv3.2; omega)
  | succ z ih =>
    refine ⟨?_, ?_⟩
    · intro v1 H locs ls gv1 hF hmu hP hS hl
      have hF : dfX12_named_2 mi fm_tape fm_letter (lfX12_named mi fm_tape fm_letter z) v1 = RES := hF
      refine lv_iload_n hx hb dX12_named_2 rfl (lv_at hl 1 rfl) ?_
      refine lv_aload_n hx hb dX12_named_3 rfl (lv_at hl 0 rfl) ?_
      refine va_get (D := (dC, dI)) (ci := 12) (v := .int (mi 7)) (C := RX12) (T := TX12) (N := 57) hx hb hts (fun w h => List.mem_cons_of_mem _ (jnGB_X12 w h)) hown hK hP 0 rfl rfl 7 (by decide) (hts _ (List.mem_cons_of_mem _ mGB_110)) (fun _ h9 => h9) rfl dX12_named_4 ?_
      refine lv_icmp_ge (tgt := 108) hx hb dX12_named_7 (by decide) (fun c_298 => ?_) (fun c_298 => ?_)
      · have hF := gf_pos c_298 hF
        have hc_299 : (mi 7).toInt ≤ v1.toInt := by have h9 := Int32.le_iff_toInt_le.mp c_298; exact h9
        refine lv_iconst (v := (-1)) hx hb dX12_named_108 (by decide) ?_
        exact kr109 (-1) _ _ _ (gi_c (-1) (-1) (by decide)) hF hP hS (lv_sub hl [] rfl)
      · have hF := gf_neg c_298 hF
        have hc_300 : v1.toInt < (mi 7).toInt := by have h9 := Int32.lt_iff_toInt_lt.mp (Int32.not_le.mp c_298); exact h9
        have g_301 : gi v1 0 5 := gi_lt_l (Int32.not_le.mp c_298) gv1 gmi_7 (by decide)
        have g_302 : gi (mi 7) 1 6 := gi_lt_r (Int32.not_le.mp c_298) gv1 gmi_7 (by decide)
        refine lv_aload_n hx hb dX12_named_10 rfl (lv_at hl 0 rfl) ?_
        refine va_get (D := (dC, dI)) (ci := 12) (v := .int (mi 29)) (C := RX12) (T := TX12) (N := 57) hx hb hts (fun w h => List.mem_cons_of_mem _ (jnGB_X12 w h)) hown hK hP 0 rfl rfl 29 (by decide) (hts _ (List.mem_cons_of_mem _ mGB_113)) (fun _ h9 => h9) rfl dX12_named_11 ?_
        refine lv_aload_n hx hb dX12_named_14 rfl (lv_at hl 0 rfl) ?_
        refine va_get (D := (dC, dI)) (ci := 12) (v := .int (mi 30)) (C := RX12) (T := TX12) (N := 57) hx hb hts (fun w h => List.mem_cons_of_mem _ (jnGB_X12 w h)) hown hK hP 0 rfl rfl 30 (by decide) (hts _ (List.mem_cons_of_mem _ mGB_135)) (fun _ h9 => h9) rfl dX12_named_15 ?_
        refine lv_isub hx hb dX12_named_18 ?_
        refine lv_topi (fun x_303 ex_303 => ?_)
        have gx_303 : gi x_303 (-1600) 1600 := gi_sub ex_303 gmi_29 gmi_30 (by decide)
        refine lv_bipush (v := 6) hx hb dX12_named_19 (by decide) ?_
        refine lv_icmp_gt (tgt := 28) hx hb dX12_named_21 (by decide) (fun c_304 => ?_) (fun c_304 => ?_)
        · have hF := gf_pos (by rw [ex_303] at c_304; exact c_304) hF
          have hc_305 : 6 < x_303.toInt := by have h9 := Int32.lt_iff_toInt_lt.mp c_304; rw [show (6 : Int32).toInt = 6 from by decide] at h9; exact h9
          have g_306 : gi x_303 7 1600 := gi_lt_r c_304 (gi_c 6 6 (by decide)) gx_303 (by decide)
          refine lv_iconst (v := 0) hx hb dX12_named_28 (by decide) ?_
          refine lv_istore_n (lv' := [(2, .int 0), (0, .ref h0), (1, .int v1)]) hx hb dX12_named_29 rfl hl (by decide) rfl (fun ls hl => ?_)
          refine lv_iconst (v := 0) hx hb dX12_named_30 (by decide) ?_
          refine lv_istore_n (lv' := [(3, .int 0), (2, .int 0), (0, .ref h0), (1, .int v1)]) hx hb dX12_named_31 rfl hl (by decide) rfl (fun ls hl => ?_)
          exact ih.2 v1 0 0 _ _ _ g_301 (gi_w (gi_c 0 0 (by decide)) (by decide)) (gi_w (gi_c 0 0 (by decide)) (by decide)) hF (by have k0 : (0 : Int32).toInt = 0 := (by decide); have av1 := gv1.1; have bv1 := gv1.2; have qgv1 := g_301.1; have rgv1 := g_301.2; omega) hP hS (lv_sub hl [2, 3, 1, 0] rfl)
        · have hF := gf_neg (by rw [ex_303] at c_304; exact c_304) hF
          have hc_307 : x_303.toInt ≤ 6 := by have h9 := Int32.le_iff_toInt_le.mp (Int32.not_lt.mp c_304); rw [show (6 : Int32).toInt = 6 from by decide] at h9; exact h9
          have g_308 : gi x_303 (-1600) 6 := gi_le_l (Int32.not_lt.mp c_304) gx_303 (gi_c 6 6 (by decide))
          refine lv_iconst (v := 1) hx hb dX12_named_24 (by decide) ?_
          refine lv_goto (tgt := 29) hx hb dX12_named_25 (by decide) ?_
          refine lv_istore_n (lv' := [(2, .int 1), (0, .ref h0), (1, .int v1)]) hx hb dX12_named_29 rfl hl (by decide) rfl (fun ls hl => ?_)
          refine lv_iconst (v := 0) hx hb dX12_named_30 (by decide) ?_
          refine lv_istore_n (lv' := [(3, .int 0), (2, .int 1), (0, .ref h0), (1, .int v1)]) hx hb dX12_named_31 rfl hl (by decide) rfl (fun ls hl => ?_)
          exact ih.2 v1 1 0 _ _ _ g_301 (gi_w (gi_c 1 1 (by decide)) (by decide)) (gi_w (gi_c 0 0 (by decide)) (by decide)) hF (by have k0 : (0 : Int32).toInt = 0 := (by decide); have av1 := gv1.1; have bv1 := gv1.2; have qgv1 := g_301.1; have rgv1 := g_301.2; omega) hP hS (lv_sub hl [2, 3, 1, 0] rfl)
    · intro v1 v2 v3 H locs ls gv1 gv2 gv3 hF hmu hP hS hl
      have hF : dfX12_named_32 mi fm_tape fm_letter (lfX12_named mi fm_tape fm_letter z) v1 v2 v3 = RES := hF
      refine lv_iload_n hx hb dX12_named_32 rfl (lv_at hl 3 rfl) ?_
      refine lv_bipush (v := 6) hx hb dX12_named_33 (by decide) ?_
      refine lv_icmp_ge (tgt := 96) hx hb dX12_named_35 (by decide) (fun c_309 => ?_) (fun c_309 => ?_)
      · have hF := gf_pos c_309 hF
        have hc_310 : 6 ≤ v3.toInt := by have h9 := Int32.le_iff_toInt_le.mp c_309; rw [show (6 : Int32).toInt = 6 from by decide] at h9; exact h9
        have g_311 : gi v3 6 6 := gi_le_r c_309 (gi_c 6 6 (by decide)) gv3
        refine lv_iload_n hx hb dX12_named_96 rfl (lv_at hl 2 rfl) ?_
        refine lv_if_eq (tgt := 102) hx hb dX12_named_97 (by decide) (fun c_312 => ?_) (fun c_312 => ?_)
        · have hF := gf_pos c_312 hF
          have hc_313 : v2.toInt = 0 := by have h9 := congrArg Int32.toInt c_312; rw [show (0 : Int32).toInt = 0 from by decide] at h9; exact h9
          have g_314 : gi v2 0 0 := gi_eq c_312 (gi_c 0 0 (by decide))
          obtain ⟨x_315, ex_315⟩ : ∃ y : Int32, y = v1 + 1 := ⟨_, rfl⟩
          have gx_315 : gi x_315 1 6 := gi_add ex_315 gv1 (gi_c 1 1 (by decide)) (by decide)
          refine lv_iinc (v := x_315) (lv' := [(1, .int x_315), (0, .ref h0), (2, .int v2), (3, .int v3)]) hx hb dX12_named_102 hl (k := 1) rfl (by rw [ex_315]; rfl) (by decide) rfl (fun ls hl => ?_)
          refine lv_goto (tgt := 2) hx hb dX12_named_105 (by decide) ?_
          exact ih.1 x_315 _ _ _ (gi_w gx_315 (by decide)) (by rw [ex_315]; exact hF) (by have av1 := gv1.1; have bv1 := gv1.2; have av3 := gv3.1; have bv3 := gv3.2; have qgx_315 := gx_315.1; have rgx_315 := gx_315.2; have igx_315 : x_315.toInt = v1.toInt + 1 := (by have hc1 : (1 : Int32).toInt = 1 := (by decide); have h9 := gi_addI ex_315 (by have h1 := gv1.1; have h2 := (gi_c 1 1 (by decide)).1; have h3 := gv1.2; have h4 := (gi_c 1 1 (by decide)).2; omega) (by have h1 := gv1.1; have h2 := (gi_c 1 1 (by decide)).1; have h3 := gv1.2; have h4 := (gi_c 1 1 (by decide)).2; omega); rw [hc1] at h9; exact h9); have qgv1 := gv1.1; have rgv1 := gv1.2; omega) hP hS (lv_sub hl [1, 0] rfl)
        · have hF := gf_neg c_312 hF
          have hc_316 : v2.toInt ≠ 0 := fun h9 => c_312 (Int32.toInt_inj.mp (by rw [show (0 : Int32).toInt = 0 from by decide]; exact h9))
          have g_317 : gi v2 1 1 := gi_ne_lo c_312 gv2 (gi_c 0 0 (by decide)) (by decide)
          refine lv_iload_n hx hb dX12_named_100 rfl (lv_at hl 1 rfl) ?_
          exact kr101 v1 _ _ _ gv1 hF hP hS (lv_sub hl [] rfl)
      · have hF := gf_neg c_309 hF
        have hc_318 : v3.toInt < 6 := by have h9 := Int32.lt_iff_toInt_lt.mp (Int32.not_le.mp c_309); rw [show (6 : Int32).toInt = 6 from by decide] at h9; exact h9
        have g_319 : gi v3 0 5 := gi_lt_l (Int32.not_le.mp c_309) gv3 (gi_c 6 6 (by decide)) (by decide)
        refine lv_iload_n hx hb dX12_named_38 rfl (lv_at hl 2 rfl) ?_
        refine lv_if_eq (tgt := 96) hx hb dX12_named_39 (by decide) (fun c_320 => ?_) (fun c_320 => ?_)
        · have hF := gf_pos c_320 hF
          have hc_321 : v2.toInt = 0 := by have h9 := congrArg Int32.toInt c_320; rw [show (0 : Int32).toInt = 0 from by decide] at h9; exact h9
          have g_322 : gi v2 0 0 := gi_eq c_320 (gi_c 0 0 (by decide))
          refine lv_iload_n hx hb dX12_named_96 rfl (lv_at hl 2 rfl) ?_
          refine lv_if_eq (tgt := 102) hx hb dX12_named_97 (by decide) (fun c_323 => ?_) (fun c_323 => absurd (gi_is_eq g_322 (gi_c 0 0 (by decide))) c_323)
          have hF := gf_pos c_323 hF
          obtain ⟨x_324, ex_324⟩ : ∃ y : Int32, y = v1 + 1 := ⟨_, rfl⟩
          have gx_324 : gi x_324 1 6 := gi_add ex_324 gv1 (gi_c 1 1 (by decide)) (by decide)
          refine lv_iinc (v := x_324) (lv' := [(1, .int x_324), (0, .ref h0), (2, .int v2), (3, .int v3)]) hx hb dX12_named_102 hl (k := 1) rfl (by rw [ex_324]; rfl) (by decide) rfl (fun ls hl => ?_)
          refine lv_goto (tgt := 2) hx hb dX12_named_105 (by decide) ?_
          exact ih.1 x_324 _ _ _ (gi_w gx_324 (by decide)) (by rw [ex_324]; exact hF) (by have av1 := gv1.1; have bv1 := gv1.2; have av3 := gv3.1; have bv3 := gv3.2; have qgx_324 := gx_324.1; have rgx_324 := gx_324.2; have igx_324 : x_324.toInt = v1.toInt + 1 := (by have hc1 : (1 : Int32).toInt = 1 := (by decide); have h9 := gi_addI ex_324 (by have h1 := gv1.1; have h2 := (gi_c 1 1 (by decide)).1; have h3 := gv1.2; have h4 := (gi_c 1 1 (by decide)).2; omega) (by have h1 := gv1.1; have h2 := (gi_c 1 1 (by decide)).1; have h3 := gv1.2; have h4 := (gi_c 1 1 (by decide)).2; omega); rw [hc1] at h9; exact h9); have qgv1 := gv1.1; have rgv1 := gv1.2; omega) hP hS (lv_sub hl [1, 0] rfl)
        · have hF := gf_neg c_320 hF
          have hc_325 : v2.toInt ≠ 0 := fun h9 => c_320 (Int32.toInt_inj.mp (by rw [show (0 : Int32).toInt = 0 from by decide]; exact h9))
          have g_326 : gi v2 1 1 := gi_ne_lo c_320 gv2 (gi_c 0 0 (by decide)) (by decide)
          refine lv_aload_n hx hb dX12_named_42 rfl (lv_at hl 0 rfl) ?_
          refine va_get (D := (dC, dI)) (ci := 12) (v := .ref (mr 1)) (C := RX12) (T := TX12) (N := 57) hx hb hts (fun w h => List.mem_cons_of_mem _ (jnGB_X12 w h)) hown hK hP 0 rfl rfl 9 (by decide) (hts _ (List.mem_cons_of_mem _ mGB_11)) (fun _ h9 => h9) rfl dX12_named_43 ?_
          refine lv_bipush (v := 6) hx hb dX12_named_46 (by decide) ?_
          refine lv_iload_n hx hb dX12_named_48 rfl (lv_at hl 1 rfl) ?_
          refine lv_imul hx hb dX12_named_49 ?_
          refine lv_topi (fun x_327 ex_327 => ?_)
          have gx_327 : gi x_327 0 30 := gi_mul ex_327 (gi_c 6 6 (by decide)) gv1 (by decide)
          refine lv_iload_n hx hb dX12_named_50 rfl (lv_at hl 3 rfl) ?_
          refine lv_iadd hx hb dX12_named_51 ?_
          refine lv_topi (fun x_328 ex_328 => ?_)
          have gx_328 : gi x_328 0 35 := gi_add ex_328 gx_327 g_319 (by decide)
          refine va_iald hx hb hK hP 2 1 rfl rfl (gi_in gx_328 (by decide)) dX12_named_52 ?_
          refine lv_topi (fun x_329 ex_329 => ?_)
          have hlx_329 : x_329.toInt = (fm_letter x_328.toNatClampNeg).toInt := congrArg Int32.toInt ex_329
          refine lv_iload_n hx hb dX12_named_53 rfl (lv_at hl 3 rfl) ?_
          refine lv_aload_n hx hb dX12_named_54 rfl (lv_at hl 0 rfl) ?_
          refine va_get (D := (dC, dI)) (ci := 12) (v := .int (mi 29)) (C := RX12) (T := TX12) (N := 57) hx hb hts (fun w h => List.mem_cons_of_mem _ (jnGB_X12 w h)) hown hK hP 0 rfl rfl 29 (by decide) (hts _ (List.mem_cons_of_mem _ mGB_113)) (fun _ h9 => h9) rfl dX12_named_55 ?_
          refine lv_aload_n hx hb dX12_named_58 rfl (lv_at hl 0 rfl) ?_
          refine va_get (D := (dC, dI)) (ci := 12) (v := .int (mi 30)) (C := RX12) (T := TX12) (N := 57) hx hb hts (fun w h => List.mem_cons_of_mem _ (jnGB_X12 w h)) hown hK hP 0 rfl rfl 30 (by decide) (hts _ (List.mem_cons_of_mem _ mGB_135)) (fun _ h9 => h9) rfl dX12_named_59 ?_
          refine lv_isub hx hb dX12_named_62 ?_
          refine lv_topi (fun x_330 ex_330 => ?_)
          have gx_330 : gi x_330 (-1600) 1600 := gi_sub ex_330 gmi_29 gmi_30 (by decide)
          refine lv_icmp_ge (tgt := 80) hx hb dX12_named_63 (by decide) (fun c_331 => ?_) (fun c_331 => ?_)
          · have hF := gf_pos (by rw [ex_330] at c_331; exact c_331) hF
            have hc_332 : x_330.toInt ≤ v3.toInt := by have h9 := Int32.le_iff_toInt_le.mp c_331; exact h9
            have g_333 : gi x_330 (-1600) 5 := gi_le_l c_331 gx_330 g_319
            refine lv_iconst (v := 0) hx hb dX12_named_80 (by decide) ?_
            refine lv_icmp_ne (tgt := 88) hx hb dX12_named_81 (by decide) (fun c_334 => ?_) (fun c_334 => ?_)
            · have hF := gf_neg (by rw [ex_329, ex_328, ex_327] at c_334; exact c_334) hF
              have hc_335 : x_329.toInt ≠ 0 := fun h9 => c_334 (Int32.toInt_inj.mp (by rw [show (0 : Int32).toInt = 0 from by decide]; exact h9))
              refine lv_iconst (v := 0) hx hb dX12_named_88 (by decide) ?_
              refine lv_istore_n (lv' := [(2, .int 0), (0, .ref h0), (1, .int v1), (3, .int v3)]) hx hb dX12_named_89 rfl hl (by decide) rfl (fun ls hl => ?_)
              obtain ⟨x_336, ex_336⟩ : ∃ y : Int32, y = v3 + 1 := ⟨_, rfl⟩
              have gx_336 : gi x_336 1 6 := gi_add ex_336 g_319 (gi_c 1 1 (by decide)) (by decide)
              refine lv_iinc (v := x_336) (lv' := [(3, .int x_336), (2, .int 0), (0, .ref h0), (1, .int v1)]) hx hb dX12_named_90 hl (k := 3) rfl (by rw [ex_336]; rfl) (by decide) rfl (fun ls hl => ?_)
              refine lv_goto (tgt := 32) hx hb dX12_named_93 (by decide) ?_
              exact ih.2 v1 0 x_336 _ _ _ gv1 (gi_w (gi_c 0 0 (by decide)) (by decide)) (gi_w gx_336 (by decide)) (by rw [ex_336]; exact hF) (by have av1 := gv1.1; have bv1 := gv1.2; have av3 := gv3.1; have bv3 := gv3.2; have qgx_336 := gx_336.1; have rgx_336 := gx_336.2; have igx_336 : x_336.toInt = v3.toInt + 1 := (by have hc1 : (1 : Int32).toInt = 1 := (by decide); have h9 := gi_addI ex_336 (by have h1 := g_319.1; have h2 := (gi_c 1 1 (by decide)).1; have h3 := g_319.2; have h4 := (gi_c 1 1 (by decide)).2; omega) (by have h1 := g_319.1; have h2 := (gi_c 1 1 (by decide)).1; have h3 := g_319.2; have h4 := (gi_c 1 1 (by decide)).2; omega); rw [hc1] at h9; exact h9); have qgv3 := g_319.1; have rgv3 := g_319.2; have qgv1 := gv1.1; have rgv1 := gv1.2; omega) hP hS (lv_sub hl [2, 3, 1, 0] rfl)
            · have hF := gf_pos (by rw [ex_329, ex_328, ex_327] at c_334; exact c_334) hF
              have hc_337 : x_329.toInt = 0 := by have h9 := congrArg Int32.toInt c_334; rw [show (0 : Int32).toInt = 0 from by decide] at h9; exact h9
              have g_338 : gi x_329 0 0 := gi_eq c_334 (gi_c 0 0 (by decide))
              refine lv_iconst (v := 1) hx hb dX12_named_84 (by decide) ?_
              refine lv_goto (tgt := 89) hx hb dX12_named_85 (by decide) ?_
              refine lv_istore_n (lv' := [(2, .int 1), (0, .ref h0), (1, .int v1), (3, .int v3)]) hx hb dX12_named_89 rfl hl (by decide) rfl (fun ls hl => ?_)
              obtain ⟨x_339, ex_339⟩ : ∃ y : Int32, y = v3 + 1 := ⟨_, rfl⟩
              have gx_339 : gi x_339 1 6 := gi_add ex_339 g_319 (gi_c 1 1 (by decide)) (by decide)
              refine lv_iinc (v := x_339) (lv' := [(3, .int x_339), (2, .int 1), (0, .ref h0), (1, .int v1)]) hx hb dX12_named_90 hl (k := 3) rfl (by rw [ex_339]; rfl) (by decide) rfl (fun ls hl => ?_)
              refine lv_goto (tgt := 32) hx hb dX12_named_93 (by decide) ?_
              exact ih.2 v1 1 x_339 _ _ _ gv1 (gi_w (gi_c 1 1 (by decide)) (by decide)) (gi_w gx_339 (by decide)) (by rw [ex_339]; exact hF) (by have av1 := gv1.1; have bv1 := gv1.2; have av3 := gv3.1; have bv3 := gv3.2; have qgx_339 := gx_339.1; have rgx_339 := gx_339.2; have igx_339 : x_339.toInt = v3.toInt + 1 := (by have hc1 : (1 : Int32).toInt = 1 := (by decide); have h9 := gi_addI ex_339 (by have h1 := g_319.1; have h2 := (gi_c 1 1 (by decide)).1; have h3 := g_319.2; have h4 := (gi_c 1 1 (by decide)).2; omega) (by have h1 := g_319.1; have h2 := (gi_c 1 1 (by decide)).1; have h3 := g_319.2; have h4 := (gi_c 1 1 (by decide)).2; omega); rw [hc1] at h9; exact h9); have qgv3 := g_319.1; have rgv3 := g_319.2; have qgv1 := gv1.1; have rgv1 := gv1.2; omega) hP hS (lv_sub hl [2, 3, 1, 0] rfl)
          · have hF := gf_neg (by rw [ex_330] at c_331; exact c_331) hF
            have hc_340 : v3.toInt < x_330.toInt := by have h9 := Int32.lt_iff_toInt_lt.mp (Int32.not_le.mp c_331); exact h9
            have g_341 : gi x_330 1 1600 := gi_lt_r (Int32.not_le.mp c_331) g_319 gx_330 (by decide)
            refine lv_aload_n hx hb dX12_named_66 rfl (lv_at hl 0 rfl) ?_
            refine va_get (D := (dC, dI)) (ci := 12) (v := .ref (mr 13)) (C := RX12) (T := TX12) (N := 57) hx hb hts (fun w h => List.mem_cons_of_mem _ (jnGB_X12 w h)) hown hK hP 0 rfl rfl 25 (by decide) (hts _ (List.mem_cons_of_mem _ mGB_24)) (fun _ h9 => h9) rfl dX12_named_67 ?_
            refine lv_aload_n hx hb dX12_named_70 rfl (lv_at hl 0 rfl) ?_
            refine va_get (D := (dC, dI)) (ci := 12) (v := .int (mi 30)) (C := RX12) (T := TX12) (N := 57) hx hb hts (fun w h => List.mem_cons_of_mem _ (jnGB_X12 w h)) hown hK hP 0 rfl rfl 30 (by decide) (hts _ (List.mem_cons_of_mem _ mGB_135)) (fun _ h9 => h9) rfl dX12_named_71 ?_
            refine lv_iload_n hx hb dX12_named_74 rfl (lv_at hl 3 rfl) ?_
            refine lv_iadd hx hb dX12_named_75 ?_
            refine lv_topi (fun x_342 ex_342 => ?_)
            have gx_342 : gi x_342 0 1605 := gi_add ex_342 gmi_30 g_319 (by decide)
            refine va_iald hx hb hK hP 1 0 rfl rfl (gz_inR (n := 1600) (by have qgx_342 := gx_342.1; have rgx_342 := gx_342.2; have igx_342 : x_342.toInt = (mi 30).toInt + v3.toInt := (by have h9 := gi_addI ex_342 (by have h1 := gmi_30.1; have h2 := g_319.1; have h3 := gmi_30.2; have h4 := g_319.2; omega) (by have h1 := gmi_30.1; have h2 := g_319.1; have h3 := gmi_30.2; have h4 := g_319.2; omega); exact h9); have qgv3 := g_319.1; have rgv3 := g_319.2; have qgmi_30 := gmi_30.1; have rgmi_30 := gmi_30.2; have qgx_330 := g_341.1; have rgx_330 := g_341.2; have igx_330 : x_330.toInt = (mi 29).toInt - (mi 30).toInt := (by have h9 := gi_subI ex_330 (by have h1 := gmi_29.1; have h2 := gmi_30.1; have h3 := gmi_29.2; have h4 := gmi_30.2; omega) (by have h1 := gmi_29.1; have h2 := gmi_30.1; have h3 := gmi_29.2; have h4 := gmi_30.2; omega); exact h9); have qgmi_29 := gmi_29.1; have rgmi_29 := gmi_29.2; have qgv2 := g_326.1; have rgv2 := g_326.2; have qgmi_26 := gmi_26.1; have rgmi_26 := gmi_26.2; omega) (by have qgx_342 := gx_342.1; have rgx_342 := gx_342.2; have igx_342 : x_342.toInt = (mi 30).toInt + v3.toInt := (by have h9 := gi_addI ex_342 (by have h1 := gmi_30.1; have h2 := g_319.1; have h3 := gmi_30.2; have h4 := g_319.2; omega) (by have h1 := gmi_30.1; have h2 := g_319.1; have h3 := gmi_30.2; have h4 := g_319.2; omega); exact h9); have qgv3 := g_319.1; have rgv3 := g_319.2; have qgmi_30 := gmi_30.1; have rgmi_30 := gmi_30.2; have qgx_330 := g_341.1; have rgx_330 := g_341.2; have igx_330 : x_330.toInt = (mi 29).toInt - (mi 30).toInt := (by have h9 := gi_subI ex_330 (by have h1 := gmi_29.1; have h2 := gmi_30.1; have h3 := gmi_29.2; have h4 := gmi_30.2; omega) (by have h1 := gmi_29.1; have h2 := gmi_30.1; have h3 := gmi_29.2; have h4 := gmi_30.2; omega); exact h9); have qgmi_29 := gmi_29.1; have rgmi_29 := gmi_29.2; have qgv2 := g_326.1; have rgv2 := g_326.2; have qgmi_26 := gmi_26.1; have rgmi_26 := gmi_26.2; omega)) dX12_named_76 ?_
            refine lv_topi (fun x_343 ex_343 => ?_)
            have hlx_343 : x_343.toInt = (fm_tape x_342.toNatClampNeg).toInt := congrArg Int32.toInt ex_343
            refine lv_goto (tgt := 81) hx hb dX12_named_77 (by decide) ?_
            refine lv_icmp_ne (tgt := 88) hx hb dX12_named_81 (by decide) (fun c_344 => ?_) (fun c_344 => ?_)
            · have hF := gf_neg (by rw [ex_343, ex_342, ex_329, ex_328, ex_327] at c_344; exact c_344) hF
              have hc_345 : x_329.toInt ≠ x_343.toInt := fun h9 => c_344 (Int32.toInt_inj.mp (by exact h9))
              refine lv_iconst (v := 0) hx hb dX12_named_88 (by decide) ?_
              refine lv_istore_n (lv' := [(2, .int 0), (0, .ref h0), (1, .int v1), (3, .int v3)]) hx hb dX12_named_89 rfl hl (by decide) rfl (fun ls hl => ?_)
              obtain ⟨x_346, ex_346⟩ : ∃ y : Int32, y = v3 + 1 := ⟨_, rfl⟩
              have gx_346 : gi x_346 1 6 := gi_add ex_346 g_319 (gi_c 1 1 (by decide)) (by decide)
              refine lv_iinc (v := x_346) (lv' := [(3, .int x_346), (2, .int 0), (0, .ref h0), (1, .int v1)]) hx hb dX12_named_90 hl (k := 3) rfl (by rw [ex_346]; rfl) (by decide) rfl (fun ls hl => ?_)
              refine lv_goto (tgt := 32) hx hb dX12_named_93 (by decide) ?_
              exact ih.2 v1 0 x_346 _ _ _ gv1 (gi_w (gi_c 0 0 (by decide)) (by decide)) (gi_w gx_346 (by decide)) (by rw [ex_346]; exact hF) (by have av1 := gv1.1; have bv1 := gv1.2; have av3 := gv3.1; have bv3 := gv3.2; have qgx_346 := gx_346.1; have rgx_346 := gx_346.2; have igx_346 : x_346.toInt = v3.toInt + 1 := (by have hc1 : (1 : Int32).toInt = 1 := (by decide); have h9 := gi_addI ex_346 (by have h1 := g_319.1; have h2 := (gi_c 1 1 (by decide)).1; have h3 := g_319.2; have h4 := (gi_c 1 1 (by decide)).2; omega) (by have h1 := g_319.1; have h2 := (gi_c 1 1 (by decide)).1; have h3 := g_319.2; have h4 := (gi_c 1 1 (by decide)).2; omega); rw [hc1] at h9; exact h9); have qgv3 := g_319.1; have rgv3 := g_319.2; have qgv1 := gv1.1; have rgv1 := gv1.2; omega) hP hS (lv_sub hl [2, 3, 1, 0] rfl)
            · have hF := gf_pos (by rw [ex_343, ex_342, ex_329, ex_328, ex_327] at c_344; exact c_344) hF
              have hc_347 : x_329.toInt = x_343.toInt := by have h9 := congrArg Int32.toInt c_344; exact h9
              refine lv_iconst (v := 1) hx hb dX12_named_84 (by decide) ?_
              refine lv_goto (tgt := 89) hx hb dX12_named_85 (by decide) ?_
              refine lv_istore_n (lv' := [(2, .int 1), (0, .ref h0), (1, .int v1), (3, .int v3)]) hx hb dX12_named_89 rfl hl (by decide) rfl (fun ls hl => ?_)
              obtain ⟨x_348, ex_348⟩ : ∃ y : Int32, y = v3 + 1 := ⟨_, rfl⟩
              have gx_348 : gi x_348 1 6 := gi_add ex_348 g_319 (gi_c 1 1 (by decide)) (by decide)
              refine lv_iinc (v := x_348) (lv' := [(3, .int x_348), (2, .int 1), (0, .ref h0), (1, .int v1)]) hx hb dX12_named_90 hl (k := 3) rfl (by rw [ex_348]; rfl) (by decide) rfl (fun ls hl => ?_)
              refine lv_goto (tgt := 32) hx hb dX12_named_93 (by decide) ?_
              exact ih.2 v1 1 x_348 _ _ _ gv1 (gi_w (gi_c 1 1 (by decide)) (by decide)) (gi_w gx_348 (by decide)) (by rw [ex_348]; exact hF) (by have av1 := gv1.1; have bv1 := gv1.2; have av3 := gv3.1; have bv3 := gv3.2; have qgx_348 := gx_348.1; have rgx_348 := gx_348.2; have igx_348 : x_348.toInt = v3.toInt + 1 := (by have hc1 : (1 : Int32).toInt = 1 := (by decide); have h9 := gi_addI ex_348 (by have h1 := g_319.1; have h2 := (gi_c 1 1 (by decide)).1; have h3 := g_319.2; have h4 := (gi_c 1 1 (by decide)).2; omega) (by have h1 := g_319.1; have h2 := (gi_c 1 1 (by decide)).1; have h3 := g_319.2; have h4 := (gi_c 1 1 (by decide)).2; omega); rw [hc1] at h9; exact h9); have qgv3 := g_319.1; have rgv3 := g_319.2; have qgv1 := gv1.1; have rgv1 := gv1.2; omega) hP hS (lv_sub hl [2, 3, 1, 0] rfl)
set_option maxHeartbeats 4000000 in
set_option maxRecDepth 100000 in
theorem sX12_namedP (l : Launch) (dC : Nat → ClassId) (dI : Nat → Nat → Nat) (h0 : Nat) (mi : Nat → Int32) (mr : Nat → Nat) (km_tape : ClassId) (fm_tape : Nat → Int32) (km_letter : ClassId) (fm_letter : Nat → Int32) (gmi_0 : gi (mi 0) 0 100000) (gmi_1 : gi (mi 1) 0 100000) (gmi_2 : gi (mi 2) 0 100000) (gmi_4 : gi (mi 4) 0 1) (gmi_7 : gi (mi 7) 0 6) (gmi_10 : gi (mi 10) 0 24) (gmi_17 : gi (mi 17) 0 8) (gmi_23 : gi (mi 23) 0 300) (gmi_24 : gi (mi 24) 0 1) (gmi_26 : gi (mi 26) 0 1600) (gmi_29 : gi (mi 29) 0 1600) (gmi_30 : gi (mi 30) 0 1600) (gmi_32 : gi (mi 32) 0 100000) (gmi_33 : gi (mi 33) 0 1) (gmi_37 : gi (mi 37) 0 1) (gmi_41 : gi (mi 41) 0 24) (gmi_50 : gi (mi 50) 0 1) (gmi_51 : gi (mi 51) 0 1) (gmi_56 : gi (mi 56) 0 80) (hpq0 : (mi 30).toInt ≤ (mi 29).toInt) (hpq1 : (mi 29).toInt ≤ (mi 26).toInt) (hpq2 : ((mi 31).toInt = 0 ∨ (mi 30).toInt < (mi 29).toInt)) : Met l yX12_named (.code yX12_named cX12_named 4 (some .int) :: wsGB) ({ frames := 0, cells := 0, slots := 0, locals := 0 }) (va_Pc [.ref h0] (fun U => va_P (dC, dI) vwCl [(h0, .inr (12, fsMM mi mr)), ((mr 13), .inl (km_tape, 1600, .inl fm_tape)), ((mr 1), .inl (km_letter, 36, .inl fm_letter))] U.heap ∧ va_K (dC, dI) vwCl [(km_tape, .int), (km_letter, .int)] U)) (va_Qi (fun (r : Int32) (u : Unit) => (gi r (-1) 5) ∧ r = fX12_named mi fm_tape fm_letter) (fun _ _ => True) (fun _ => False)) 0 0 (fun _ => False) := by
  refine Met.ofW (cc := cX12_named) (maxL := 4) (ret := (some .int)) (by decide) rfl ?_
  intro p e s m args below meth c s₁ B hml hv
  obtain ⟨rfl, hP, hK⟩ := hv
  have hx := B.exec
  have hb := B.bytes
  have hr := B.returns
  have hts := atoms_spec (ws := (.code yX12_named cX12_named 4 (some .int) :: wsGB)) B.pre
  have hown : s.vm.findClass RX12 = some m.cls := findClass_of_methodNamed B.named
  have hlocks := B.notSynchronized
  have hS : va_S (fun _ => False) s.heap s.heap [] := va_S.rf
  have hl := lv_entry ([.ref h0]) (n := 4) (Nat.le_of_ble_eq_true rfl)
  rw [lg_entry_eq]
  generalize (lg_sl ([.ref h0]) ++ List.replicate (4 - (lg_sl ([.ref h0])).length) Slot.unset).toArray = ls at hl ⊢
  have hl : lv_has ls 4 [(0, .ref h0)] := hl
  obtain ⟨RES, hF⟩ : ∃ R9, fX12_named mi fm_tape fm_letter = R9 := ⟨_, rfl⟩
  have hR9 := hF
  refine lv_iconst (v := 0) hx hb dX12_named_0 (by decide) ?_
  refine lv_istore_n (lv' := [(1, .int 0), (0, .ref h0)]) hx hb dX12_named_1 rfl hl (by decide) rfl (fun ls hl => ?_)
  refine (lp_sX12_namedP h0 mi mr km_tape fm_tape km_letter fm_letter gmi_0 gmi_1 gmi_2 gmi_4 gmi_7 gmi_10 gmi_17 gmi_23 gmi_24 gmi_26 gmi_29 gmi_30 gmi_32 gmi_33 gmi_37 gmi_41 gmi_50 gmi_51 gmi_56 hpq0 hpq1 hpq2 hx hb hml hown hts hK (Nat.le_of_ble_eq_true rfl) (Nat.le_of_ble_eq_true rfl) (Nat.zero_le _) (Nat.zero_le _) (fun v H locs ls gv hF hP hS hl => ?_) (fun v H locs ls gv hF hP hS hl => ?_) 1000000000).1 0 _ _ _ (gi_w (gi_c 0 0 (by decide)) (by decide)) hF (by have k0 : (0 : Int32).toInt = 0 := (by decide); omega) hP hS (lv_sub hl [1, 0] rfl)
  · skip
    exact W.iret (v := v) hx hb hr (fun t ht hW => ⟨⟨v, (), rfl, ⟨(gi_w gv (by decide)), hF.trans hR9.symm⟩, trivial⟩, hS.F ht⟩) hS.2.2 dX12_named_109
  · skip
    exact W.iret (v := v) hx hb hr (fun t ht hW => ⟨⟨v, (), rfl, ⟨(gi_w gv (by decide)), hF.trans hR9.symm⟩, trivial⟩, hS.F ht⟩) hS.2.2 dX12_named_101
