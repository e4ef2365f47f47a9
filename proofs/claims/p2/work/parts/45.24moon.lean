theorem dX11_moon_0 : decode cX11_moon 0 = .ok (.aload_n 0, 1) := by decide +kernel
theorem dX11_moon_1 : decode cX11_moon 1 = .ok (.invokevirtual 395, 3) := by decide +kernel
theorem dX11_moon_4 : decode cX11_moon 4 = .ok (.ifCond .eq 28, 3) := by decide +kernel
theorem dX11_moon_7 : decode cX11_moon 7 = .ok (.iload_n 1, 1) := by decide +kernel
theorem dX11_moon_8 : decode cX11_moon 8 = .ok (.ifCond .lt 24, 3) := by decide +kernel
theorem dX11_moon_11 : decode cX11_moon 11 = .ok (.iload_n 1, 1) := by decide +kernel
theorem dX11_moon_12 : decode cX11_moon 12 = .ok (.ldc_w 399, 3) := by decide +kernel
theorem dX11_moon_15 : decode cX11_moon 15 = .ok (.if_icmp .gt 17, 3) := by decide +kernel
theorem dX11_moon_18 : decode cX11_moon 18 = .ok (.iload_n 2, 1) := by decide +kernel
theorem dX11_moon_19 : decode cX11_moon 19 = .ok (.sipush 28000, 3) := by decide +kernel
theorem dX11_moon_22 : decode cX11_moon 22 = .ok (.if_icmp .lt 10, 3) := by decide +kernel
theorem dX11_moon_25 : decode cX11_moon 25 = .ok (.iload_n 2, 1) := by decide +kernel
theorem dX11_moon_26 : decode cX11_moon 26 = .ok (.sipush 31000, 3) := by decide +kernel
theorem dX11_moon_29 : decode cX11_moon 29 = .ok (.if_icmp .le 6, 3) := by decide +kernel
theorem dX11_moon_32 : decode cX11_moon 32 = .ok (.bipush (-2), 2) := by decide +kernel
theorem dX11_moon_34 : decode cX11_moon 34 = .ok (.ireturn, 1) := by decide +kernel
theorem dX11_moon_35 : decode cX11_moon 35 = .ok (.aload_n 0, 1) := by decide +kernel
theorem dX11_moon_36 : decode cX11_moon 36 = .ok (.getfield 19, 3) := by decide +kernel
theorem dX11_moon_39 : decode cX11_moon 39 = .ok (.iload_n 1, 1) := by decide +kernel
theorem dX11_moon_40 : decode cX11_moon 40 = .ok (.iload_n 2, 1) := by decide +kernel
theorem dX11_moon_41 : decode cX11_moon 41 = .ok (.invokevirtual 400, 3) := by decide +kernel
theorem dX11_moon_44 : decode cX11_moon 44 = .ok (.aload_n 0, 1) := by decide +kernel
theorem dX11_moon_45 : decode cX11_moon 45 = .ok (.invokevirtual 111, 3) := by decide +kernel
theorem dX11_moon_48 : decode cX11_moon 48 = .ok (.aload_n 0, 1) := by decide +kernel
theorem dX11_moon_49 : decode cX11_moon 49 = .ok (.getfield 19, 3) := by decide +kernel
theorem dX11_moon_52 : decode cX11_moon 52 = .ok (.iconst 1, 1) := by decide +kernel
theorem dX11_moon_53 : decode cX11_moon 53 = .ok (.invokevirtual 213, 3) := by decide +kernel
theorem dX11_moon_56 : decode cX11_moon 56 = .ok (.ireturn, 1) := by decide +kernel
set_option maxHeartbeats 4000000 in
set_option maxRecDepth 100000 in
theorem sX11_moon (l : Launch) (dC : Nat → ClassId) (dI : Nat → Nat → Nat) (sz : Nat) (h0 : Nat) (am : Nat) (xr : Nat) (xs : Nat) (xf : Nat) (co : Nat) (oc : Nat) (ta : Nat) (xq : Nat) (xh : Nat) (xk : Nat) (xo : Nat) (x_outLength : Int32) (x_courtStands : Int32) (x_courtNews : Int32) (x_tallyStands : Int32) (x_historyStands : Int32) (amonths : Int32) (afull : Int32) (alean : Int32) (alines : Int32) (ahasMoon : Int32) (amoonStart : Int32) (amoonStep : Int32) (aplaceCount : Int32) (areportCount : Int32) (adeedCount : Int32) (pl : Nat) (re : Nat) (de : Nat) (p1 : Int32) (p2 : Int32) (gx_outLength : gi x_outLength 0 72) (gx_courtStands : gi x_courtStands 0 1) (gx_tallyStands : gi x_tallyStands 0 1) (gx_historyStands : gi x_historyStands 0 1) (gamonths : gi amonths 0 24) (gafull : gi afull 0 5) (galean : gi alean 0 5) (gahasMoon : gi ahasMoon 0 1) (gaplaceCount : gi aplaceCount 0 6) (gareportCount : gi areportCount 0 24) (gadeedCount : gi adeedCount 0 8) : Met l yX11_moon (.code yX11_moon cX11_moon 3 (some .int) :: wsGA) ({ frames := 1, cells := 0, slots := 0, locals := 22 }) (va_Pc [.ref h0, .int p1, .int p2] (fun U => U.heap.size = sz ∧ va_P (dC, dI) vwCl [(h0, .inr (11, [.ref xr, .ref am, .ref xs, .ref xf, .ref co, .ref oc, .ref ta, .ref xq, .ref xh, .ref xk, .ref xo, .int x_outLength, .int x_courtStands, .int x_courtNews, .int x_tallyStands, .int x_historyStands])), (am, .inr (0, [.int amonths, .int afull, .int alean, .int alines, .int ahasMoon, .int amoonStart, .int amoonStep, .int aplaceCount, .int areportCount, .int adeedCount, .ref pl, .ref re, .ref de]))] U.heap ∧ va_K (dC, dI) vwCl [] U ∧ va_D (fun _ => True) [(h0, .inr (11, [.ref xr, .ref am, .ref xs, .ref xf, .ref co, .ref oc, .ref ta, .ref xq, .ref xh, .ref xk, .ref xo, .int x_outLength, .int x_courtStands, .int x_courtNews, .int x_tallyStands, .int x_historyStands])), (am, .inr (0, [.int amonths, .int afull, .int alean, .int alines, .int ahasMoon, .int amoonStart, .int amoonStep, .int aplaceCount, .int areportCount, .int adeedCount, .ref pl, .ref re, .ref de]))] ∧ nzA U)) (va_Qi (fun (r : Int32) (u : Unit) => gi r (-2147483648) 2147483647) (fun _ t => ∃ (w0_12 : Int32) (w0_14 : Int32) (w0_15 : Int32) (w1_4 : Int32) (w1_5 : Int32) (w1_6 : Int32), gi w0_12 0 1 ∧ gi w0_14 0 1 ∧ gi w0_15 0 1 ∧ gi w1_4 0 1 ∧ va_P (dC, dI) vwCl [(h0, .inr (11, [.ref xr, .ref am, .ref xs, .ref xf, .ref co, .ref oc, .ref ta, .ref xq, .ref xh, .ref xk, .ref xo, .int x_outLength, .int w0_12, .int x_courtNews, .int w0_14, .int w0_15])), (am, .inr (0, [.int amonths, .int afull, .int alean, .int alines, .int w1_4, .int w1_5, .int w1_6, .int aplaceCount, .int areportCount, .int adeedCount, .ref pl, .ref re, .ref de]))] t.heap ∧ va_D (va_A [(h0, .inr (11, [.ref xr, .ref am, .ref xs, .ref xf, .ref co, .ref oc, .ref ta, .ref xq, .ref xh, .ref xk, .ref xo, .int x_outLength, .int x_courtStands, .int x_courtNews, .int x_tallyStands, .int x_historyStands])), (am, .inr (0, [.int amonths, .int afull, .int alean, .int alines, .int ahasMoon, .int amoonStart, .int amoonStep, .int aplaceCount, .int areportCount, .int adeedCount, .ref pl, .ref re, .ref de]))] sz) [(h0, .inr (11, [.ref xr, .ref am, .ref xs, .ref xf, .ref co, .ref oc, .ref ta, .ref xq, .ref xh, .ref xk, .ref xo, .int x_outLength, .int w0_12, .int x_courtNews, .int w0_14, .int w0_15])), (am, .inr (0, [.int amonths, .int afull, .int alean, .int alines, .int w1_4, .int w1_5, .int w1_6, .int aplaceCount, .int areportCount, .int adeedCount, .ref pl, .ref re, .ref de]))]) (va_A [(h0, .inr (11, [.ref xr, .ref am, .ref xs, .ref xf, .ref co, .ref oc, .ref ta, .ref xq, .ref xh, .ref xk, .ref xo, .int x_outLength, .int x_courtStands, .int x_courtNews, .int x_tallyStands, .int x_historyStands])), (am, .inr (0, [.int amonths, .int afull, .int alean, .int alines, .int ahasMoon, .int amoonStart, .int amoonStep, .int aplaceCount, .int areportCount, .int adeedCount, .ref pl, .ref re, .ref de]))] sz)) 0 0 (va_A [(h0, .inr (11, [.ref xr, .ref am, .ref xs, .ref xf, .ref co, .ref oc, .ref ta, .ref xq, .ref xh, .ref xk, .ref xo, .int x_outLength, .int x_courtStands, .int x_courtNews, .int x_tallyStands, .int x_historyStands])), (am, .inr (0, [.int amonths, .int afull, .int alean, .int alines, .int ahasMoon, .int amoonStart, .int amoonStep, .int aplaceCount, .int areportCount, .int adeedCount, .ref pl, .ref re, .ref de]))] sz) := by
  refine Met.ofW (cc := cX11_moon) (maxL := 3) (ret := (some .int)) (by decide) rfl ?_
  intro p e s m args below meth c s₁ B hml hv
  obtain ⟨rfl, hsz, hP, hK, hD0, hz⟩ := hv
  have hx := B.exec
  have hb := B.bytes
  have hr := B.returns
  have hts := atoms_spec (ws := (.code yX11_moon cX11_moon 3 (some .int) :: wsGA)) B.pre
  have hown : s.vm.findClass RX11 = some m.cls := findClass_of_methodNamed B.named
  have hlocks := B.notSynchronized
  subst hsz
  have hD := hD0.self (sz := s.heap.size)
  generalize hAe : va_A [(h0, .inr (11, [.ref xr, .ref am, .ref xs, .ref xf, .ref co, .ref oc, .ref ta, .ref xq, .ref xh, .ref xk, .ref xo, .int x_outLength, .int x_courtStands, .int x_courtNews, .int x_tallyStands, .int x_historyStands])), (am, .inr (0, [.int amonths, .int afull, .int alean, .int alines, .int ahasMoon, .int amoonStart, .int amoonStep, .int aplaceCount, .int areportCount, .int adeedCount, .ref pl, .ref re, .ref de]))] s.heap.size = A at hD ⊢
  have hA : ∀ q : Nat, s.heap.size ≤ q → A q := fun q h => by rw [← hAe]; exact Or.inr h
  have hS : va_S A s.heap s.heap [] := va_S.rf
  have hl := lv_entry ([.ref h0, .int p1, .int p2]) (n := 3) (Nat.le_of_ble_eq_true rfl)
  rw [lg_entry_eq]
  generalize (lg_sl ([.ref h0, .int p1, .int p2]) ++ List.replicate (3 - (lg_sl ([.ref h0, .int p1, .int p2])).length) Slot.unset).toArray = ls at hl ⊢
  have hl : lv_has ls 3 [(0, .ref h0), (1, .int p1), (2, .int p2)] := hl
  refine lv_aload_n hx hb dX11_moon_0 rfl (lv_at hl 0 rfl) ?_
  have hPc := hP.sub (ws' := [(h0, .inr (11, [.ref xr, .ref am, .ref xs, .ref xf, .ref co, .ref oc, .ref ta, .ref xq, .ref xh, .ref xk, .ref xo, .int x_outLength, .int x_courtStands, .int x_courtNews, .int x_tallyStands, .int x_historyStands])), (am, .inr (0, [.int amonths, .int afull, .int alean, .int alines, .int ahasMoon, .int amoonStart, .int amoonStep, .int aplaceCount, .int areportCount, .int adeedCount, .ref pl, .ref re, .ref de]))]) [0, 1] rfl
  have hKc := hK.sub (tys' := []) [] rfl
  refine va_calli (va_runV (As := []) (rest := []) ⟨hx, hb, hml, hown, hts⟩ (sX11_isTold l dC dI h0 am xr xs xf co oc ta xq xh xk xo x_outLength x_courtStands x_courtNews x_tallyStands x_historyStands amonths afull alean alines ahasMoon amoonStart amoonStep aplaceCount areportCount adeedCount pl re de gx_outLength gx_courtStands gx_tallyStands gx_historyStands gamonths gafull galean gahasMoon gaplaceCount gareportCount gadeedCount) (cwV 0 hts (gz_gV mGA_412 mGA_413 mGA_414 mGA_1 mGA_415 goodGA) rfl rfl rfl (by decide +kernel) ⟨Nat.le_of_ble_eq_true rfl, Nat.le_of_ble_eq_true rfl⟩) ⟨fun a U g mk q => by obtain ⟨q0, qP, qK, qZ⟩ := q; exact ⟨q0, qP, va_K.moved (u := U) (U := U.calling g mk a) (Vm.Alike.refl U.vm) qK, nzA_same (u := U) (U := U.calling g mk a) rfl qZ⟩, va_recv hKc hPc (ci := 11) (q0 := 0) rfl rfl, fun U hU hW => ⟨rfl, by rw [hU]; exact hPc, va_K.moved hW.alike hKc, nzA_warm hW hz⟩⟩ rfl rfl hl.1 rfl (lv_room (Nat.le_of_ble_eq_true rfl)) dX11_moon_1 ⟨Nat.zero_le _, Nat.zero_le _⟩) hS (fun q _ h => h.elim) (fun q h => h.elim) (fun r_51 u t H1 locs ht hvm hw hB hz1 hk1 hS => ?_)
  have hP := gz_keep hP hk1
  generalize H1 = H at hP hS ⊢
  have gr_51 : gi r_51 0 1 := hw
  refine lv_if_eq (tgt := 32) hx hb dX11_moon_4 (by decide) (fun c_52 => ?_) (fun c_52 => ?_)
  · have g_53 : gi r_51 0 0 := gi_eq c_52 (gi_c 0 0 (by decide))
    refine lv_bipush (v := (-2)) hx hb dX11_moon_32 (by decide) ?_
    exact W.iret (v := (-2)) hx hb hr (fun t ht hW => ⟨⟨(-2), (), rfl, (gi_any (-2)), x_courtStands, x_tallyStands, x_historyStands, ahasMoon, amoonStart, amoonStep, gx_courtStands, gx_tallyStands, gx_historyStands, gahasMoon, by rw [ht]; exact hP, hD⟩, hS.F ht⟩) hS.2.2 dX11_moon_34
  · have g_54 : gi r_51 1 1 := gi_ne_lo c_52 gr_51 (gi_c 0 0 (by decide)) (by decide)
    refine lv_iload_n hx hb dX11_moon_7 rfl (lv_at hl 1 rfl) ?_
    refine lv_if_lt (tgt := 32) hx hb dX11_moon_8 (by decide) (fun c_55 => ?_) (fun c_55 => ?_)
    · have g_56 : gi p1 (-2147483648) (-1) := gi_lt_l c_55 (gi_any p1) (gi_c 0 0 (by decide)) (by decide)
      refine lv_bipush (v := (-2)) hx hb dX11_moon_32 (by decide) ?_
      exact W.iret (v := (-2)) hx hb hr (fun t ht hW => ⟨⟨(-2), (), rfl, (gi_any (-2)), x_courtStands, x_tallyStands, x_historyStands, ahasMoon, amoonStart, amoonStep, gx_courtStands, gx_tallyStands, gx_historyStands, gahasMoon, by rw [ht]; exact hP, hD⟩, hS.F ht⟩) hS.2.2 dX11_moon_34
    · have g_57 : gi p1 0 2147483647 := gi_le_r (Int32.not_lt.mp c_55) (gi_c 0 0 (by decide)) (gi_any p1)
      refine lv_iload_n hx hb dX11_moon_11 rfl (lv_at hl 1 rfl) ?_
      refine lv_ldcw (own := RX11) (v := 99999) hx hb hown (hts _ (List.mem_cons_of_mem _ mGA_913)) dX11_moon_12 ?_
      refine lv_icmp_gt (tgt := 32) hx hb dX11_moon_15 (by decide) (fun c_58 => ?_) (fun c_58 => ?_)
      · have g_59 : gi p1 100000 2147483647 := gi_lt_r c_58 (gi_c 99999 99999 (by decide)) g_57 (by decide)
        refine lv_bipush (v := (-2)) hx hb dX11_moon_32 (by decide) ?_
        exact W.iret (v := (-2)) hx hb hr (fun t ht hW => ⟨⟨(-2), (), rfl, (gi_any (-2)), x_courtStands, x_tallyStands, x_historyStands, ahasMoon, amoonStart, amoonStep, gx_courtStands, gx_tallyStands, gx_historyStands, gahasMoon, by rw [ht]; exact hP, hD⟩, hS.F ht⟩) hS.2.2 dX11_moon_34
      · have g_60 : gi p1 0 99999 := gi_le_l (Int32.not_lt.mp c_58) g_57 (gi_c 99999 99999 (by decide))
        refine lv_iload_n hx hb dX11_moon_18 rfl (lv_at hl 2 rfl) ?_
        refine lv_sipush (v := 28000) hx hb dX11_moon_19 (by decide) ?_
        refine lv_icmp_lt (tgt := 32) hx hb dX11_moon_22 (by decide) (fun c_61 => ?_) (fun c_61 => ?_)
        · have g_62 : gi p2 (-2147483648) 27999 := gi_lt_l c_61 (gi_any p2) (gi_c 28000 28000 (by decide)) (by decide)
          refine lv_bipush (v := (-2)) hx hb dX11_moon_32 (by decide) ?_
          exact W.iret (v := (-2)) hx hb hr (fun t ht hW => ⟨⟨(-2), (), rfl, (gi_any (-2)), x_courtStands, x_tallyStands, x_historyStands, ahasMoon, amoonStart, amoonStep, gx_courtStands, gx_tallyStands, gx_historyStands, gahasMoon, by rw [ht]; exact hP, hD⟩, hS.F ht⟩) hS.2.2 dX11_moon_34
        · have g_63 : gi p2 28000 2147483647 := gi_le_r (Int32.not_lt.mp c_61) (gi_c 28000 28000 (by decide)) (gi_any p2)
          refine lv_iload_n hx hb dX11_moon_25 rfl (lv_at hl 2 rfl) ?_
          refine lv_sipush (v := 31000) hx hb dX11_moon_26 (by decide) ?_
          refine lv_icmp_le (tgt := 35) hx hb dX11_moon_29 (by decide) (fun c_64 => ?_) (fun c_64 => ?_)
          · have g_65 : gi p2 28000 31000 := gi_le_l c_64 g_63 (gi_c 31000 31000 (by decide))
            refine lv_aload_n hx hb dX11_moon_35 rfl (lv_at hl 0 rfl) ?_
            refine va_get (D := (dC, dI)) (ci := 11) (v := .ref am) (C := RX11) (T := TX11) (N := 16) hx hb hts (fun w h => List.mem_cons_of_mem _ (jnGA_X11 w h)) hown hK hP 0 rfl rfl 1 (by decide) (hts _ (List.mem_cons_of_mem _ mGA_14)) (fun _ h9 => h9) rfl dX11_moon_36 ?_
            refine lv_iload_n hx hb dX11_moon_39 rfl (lv_at hl 1 rfl) ?_
            refine lv_iload_n hx hb dX11_moon_40 rfl (lv_at hl 2 rfl) ?_
            have hPc := hP.sub (ws' := [(am, .inr (0, [.int amonths, .int afull, .int alean, .int alines, .int ahasMoon, .int amoonStart, .int amoonStep, .int aplaceCount, .int areportCount, .int adeedCount, .ref pl, .ref re, .ref de]))]) [1] rfl
            have hKc := hK.sub (tys' := []) [] rfl
            have hDc := hD.sub (ws' := [(am, .inr (0, [.int amonths, .int afull, .int alean, .int alines, .int ahasMoon, .int amoonStart, .int amoonStep, .int aplaceCount, .int areportCount, .int adeedCount, .ref pl, .ref re, .ref de]))]) [1] (by decide) rfl
            have hFc := va_free (wc := [(am, .inr (0, [.int amonths, .int afull, .int alean, .int alines, .int ahasMoon, .int amoonStart, .int amoonStep, .int aplaceCount, .int areportCount, .int adeedCount, .ref pl, .ref re, .ref de]))]) hD hS hA [1] rfl
            refine va_callv (va_runV (As := [.int p1, .int p2]) (rest := []) ⟨hx, hb, hml, hown, hts⟩ (sX0_setMoon l dC dI H.size am amonths afull alean alines ahasMoon amoonStart amoonStep aplaceCount areportCount adeedCount pl re de p1 p2 gamonths gafull galean gahasMoon gaplaceCount gareportCount gadeedCount) (cwV 2 hts (gz_gV mGA_914 mGA_282 mGA_283 mGA_13 mGA_284 goodGA) rfl rfl rfl (by decide +kernel) ⟨Nat.le_of_ble_eq_true rfl, Nat.le_of_ble_eq_true rfl⟩) ⟨fun a U g mk q => by obtain ⟨q0, q1, qP, qK, qD, qZ⟩ := q; exact ⟨q0, q1, qP, va_K.moved (u := U) (U := U.calling g mk a) (Vm.Alike.refl U.vm) qK, qD, nzA_same (u := U) (U := U.calling g mk a) rfl qZ⟩, va_recv hKc hPc (ci := 0) (q0 := 0) rfl rfl, fun U hU hW => ⟨rfl, by rw [hU], by rw [hU]; exact hPc, va_K.moved hW.alike hKc, hDc.weaken (fun _ _ _ _ => trivial), nzA_warm hW hz⟩⟩ rfl rfl hl.1 rfl (lv_room (Nat.le_of_ble_eq_true rfl)) dX11_moon_41 ⟨Nat.zero_le _, Nat.zero_le _⟩) hS (fun q _ h => hFc q h) hFc (fun u t H1 locs ht hvm hw hB hz1 hk1 hS => ?_)
            obtain ⟨y_67, y_68, y_69, gy_67, hP1, hD1⟩ := hB
            rw [ht] at hP1
            obtain ⟨hP, hD⟩ := va_join (wr := [(h0, .inr (11, [.ref xr, .ref am, .ref xs, .ref xf, .ref co, .ref oc, .ref ta, .ref xq, .ref xh, .ref xk, .ref xo, .int x_outLength, .int x_courtStands, .int x_courtNews, .int x_tallyStands, .int x_historyStands]))]) (w1 := [(am, .inr (0, [.int amonths, .int afull, .int alean, .int alines, .int y_67, .int y_68, .int y_69, .int aplaceCount, .int areportCount, .int adeedCount, .ref pl, .ref re, .ref de]))]) hP hD [1] [0] rfl rfl (by decide) (by decide) hk1 hFc hP1 hD1
            have hP := hP.sub (ws' := [(h0, .inr (11, [.ref xr, .ref am, .ref xs, .ref xf, .ref co, .ref oc, .ref ta, .ref xq, .ref xh, .ref xk, .ref xo, .int x_outLength, .int x_courtStands, .int x_courtNews, .int x_tallyStands, .int x_historyStands])), (am, .inr (0, [.int amonths, .int afull, .int alean, .int alines, .int y_67, .int y_68, .int y_69, .int aplaceCount, .int areportCount, .int adeedCount, .ref pl, .ref re, .ref de]))]) [0, 1] rfl
            have hD := hD.sub (ws' := [(h0, .inr (11, [.ref xr, .ref am, .ref xs, .ref xf, .ref co, .ref oc, .ref ta, .ref xq, .ref xh, .ref xk, .ref xo, .int x_outLength, .int x_courtStands, .int x_courtNews, .int x_tallyStands, .int x_historyStands])), (am, .inr (0, [.int amonths, .int afull, .int alean, .int alines, .int y_67, .int y_68, .int y_69, .int aplaceCount, .int areportCount, .int adeedCount, .ref pl, .ref re, .ref de]))]) [0, 1] (by decide) rfl
            generalize H1 = H at hP hS ⊢
            refine lv_aload_n hx hb dX11_moon_44 rfl (lv_at hl 0 rfl) ?_
            have hPc := hP.sub (ws' := [(h0, .inr (11, [.ref xr, .ref am, .ref xs, .ref xf, .ref co, .ref oc, .ref ta, .ref xq, .ref xh, .ref xk, .ref xo, .int x_outLength, .int x_courtStands, .int x_courtNews, .int x_tallyStands, .int x_historyStands]))]) [0] rfl
            have hKc := hK.sub (tys' := []) [] rfl
            have hDc := hD.sub (ws' := [(h0, .inr (11, [.ref xr, .ref am, .ref xs, .ref xf, .ref co, .ref oc, .ref ta, .ref xq, .ref xh, .ref xk, .ref xo, .int x_outLength, .int x_courtStands, .int x_courtNews, .int x_tallyStands, .int x_historyStands]))]) [0] (by decide) rfl
            have hFc := va_free (wc := [(h0, .inr (11, [.ref xr, .ref am, .ref xs, .ref xf, .ref co, .ref oc, .ref ta, .ref xq, .ref xh, .ref xk, .ref xo, .int x_outLength, .int x_courtStands, .int x_courtNews, .int x_tallyStands, .int x_historyStands]))]) hD hS hA [0] rfl
            refine va_callv (va_runV (As := []) (rest := []) ⟨hx, hb, hml, hown, hts⟩ (sX11_forget l dC dI H.size h0 xr am xs xf co oc ta xq xh xk xo x_outLength x_courtStands x_courtNews x_tallyStands x_historyStands gx_outLength gx_courtStands gx_tallyStands gx_historyStands) (cwV 0 hts (gz_gV mGA_340 mGA_341 mGA_342 mGA_1 mGA_343 goodGA) rfl rfl rfl (by decide +kernel) ⟨Nat.le_of_ble_eq_true rfl, Nat.le_of_ble_eq_true rfl⟩) ⟨fun a U g mk q => by obtain ⟨q0, q1, qP, qK, qD, qZ⟩ := q; exact ⟨q0, q1, qP, va_K.moved (u := U) (U := U.calling g mk a) (Vm.Alike.refl U.vm) qK, qD, nzA_same (u := U) (U := U.calling g mk a) rfl qZ⟩, va_recv hKc hPc (ci := 11) (q0 := 0) rfl rfl, fun U hU hW => ⟨rfl, by rw [hU], by rw [hU]; exact hPc, va_K.moved hW.alike hKc, hDc.weaken (fun _ _ _ _ => trivial), nzA_warm hW hz⟩⟩ rfl rfl hl.1 rfl (lv_room (Nat.le_of_ble_eq_true rfl)) dX11_moon_45 ⟨Nat.zero_le _, Nat.zero_le _⟩) hS (fun q _ h => hFc q h) hFc (fun u t H1 locs ht hvm hw hB hz1 hk1 hS => ?_)
            obtain ⟨y_71, y_72, y_73, gy_71, gy_72, gy_73, hP1, hD1⟩ := hB
            rw [ht] at hP1
            obtain ⟨hP, hD⟩ := va_join (wr := [(am, .inr (0, [.int amonths, .int afull, .int alean, .int alines, .int y_67, .int y_68, .int y_69, .int aplaceCount, .int areportCount, .int adeedCount, .ref pl, .ref re, .ref de]))]) (w1 := [(h0, .inr (11, [.ref xr, .ref am, .ref xs, .ref xf, .ref co, .ref oc, .ref ta, .ref xq, .ref xh, .ref xk, .ref xo, .int x_outLength, .int y_71, .int x_courtNews, .int y_72, .int y_73]))]) hP hD [0] [1] rfl rfl (by decide) (by decide) hk1 hFc hP1 hD1
            have hP := hP.sub (ws' := [(h0, .inr (11, [.ref xr, .ref am, .ref xs, .ref xf, .ref co, .ref oc, .ref ta, .ref xq, .ref xh, .ref xk, .ref xo, .int x_outLength, .int y_71, .int x_courtNews, .int y_72, .int y_73])), (am, .inr (0, [.int amonths, .int afull, .int alean, .int alines, .int y_67, .int y_68, .int y_69, .int aplaceCount, .int areportCount, .int adeedCount, .ref pl, .ref re, .ref de]))]) [1, 0] rfl
            have hD := hD.sub (ws' := [(h0, .inr (11, [.ref xr, .ref am, .ref xs, .ref xf, .ref co, .ref oc, .ref ta, .ref xq, .ref xh, .ref xk, .ref xo, .int x_outLength, .int y_71, .int x_courtNews, .int y_72, .int y_73])), (am, .inr (0, [.int amonths, .int afull, .int alean, .int alines, .int y_67, .int y_68, .int y_69, .int aplaceCount, .int areportCount, .int adeedCount, .ref pl, .ref re, .ref de]))]) [1, 0] (by decide) rfl
            generalize H1 = H at hP hS ⊢
            refine lv_aload_n hx hb dX11_moon_48 rfl (lv_at hl 0 rfl) ?_
            refine va_get (D := (dC, dI)) (ci := 11) (v := .ref am) (C := RX11) (T := TX11) (N := 16) hx hb hts (fun w h => List.mem_cons_of_mem _ (jnGA_X11 w h)) hown hK hP 0 rfl rfl 1 (by decide) (hts _ (List.mem_cons_of_mem _ mGA_14)) (fun _ h9 => h9) rfl dX11_moon_49 ?_
            refine lv_iconst (v := 1) hx hb dX11_moon_52 (by decide) ?_
            have hPc := hP.sub (ws' := [(am, .inr (0, [.int amonths, .int afull, .int alean, .int alines, .int y_67, .int y_68, .int y_69, .int aplaceCount, .int areportCount, .int adeedCount, .ref pl, .ref re, .ref de]))]) [1] rfl
            have hKc := hK.sub (tys' := []) [] rfl
            refine va_calli (va_runV (As := [.int 1]) (rest := []) ⟨hx, hb, hml, hown, hts⟩ (sX0_earlyOf l dC dI am amonths afull alean alines y_67 y_68 y_69 aplaceCount areportCount adeedCount pl re de 1 gamonths gafull galean gy_67 gaplaceCount gareportCount gadeedCount) (cwV 1 hts (gz_gV mGA_416 mGA_417 mGA_418 mGA_13 mGA_419 goodGA) rfl rfl rfl (by decide +kernel) ⟨Nat.le_of_ble_eq_true rfl, Nat.le_of_ble_eq_true rfl⟩) ⟨fun a U g mk q => by obtain ⟨q0, qP, qK, qZ⟩ := q; exact ⟨q0, qP, va_K.moved (u := U) (U := U.calling g mk a) (Vm.Alike.refl U.vm) qK, nzA_same (u := U) (U := U.calling g mk a) rfl qZ⟩, va_recv hKc hPc (ci := 0) (q0 := 0) rfl rfl, fun U hU hW => ⟨rfl, by rw [hU]; exact hPc, va_K.moved hW.alike hKc, nzA_warm hW hz⟩⟩ rfl rfl hl.1 rfl (lv_room (Nat.le_of_ble_eq_true rfl)) dX11_moon_53 ⟨Nat.zero_le _, Nat.zero_le _⟩) hS (fun q _ h => h.elim) (fun q h => h.elim) (fun r_74 u t H1 locs ht hvm hw hB hz1 hk1 hS => ?_)
            have hP := gz_keep hP hk1
            generalize H1 = H at hP hS ⊢
            exact W.iret (v := r_74) hx hb hr (fun t ht hW => ⟨⟨r_74, (), rfl, (gi_any r_74), y_71, y_72, y_73, y_67, y_68, y_69, gy_71, gy_72, gy_73, gy_67, by rw [ht]; exact hP, hD⟩, hS.F ht⟩) hS.2.2 dX11_moon_56
          · have g_75 : gi p2 31001 2147483647 := gi_lt_r (Int32.not_le.mp c_64) (gi_c 31000 31000 (by decide)) g_63 (by decide)
            refine lv_bipush (v := (-2)) hx hb dX11_moon_32 (by decide) ?_
            exact W.iret (v := (-2)) hx hb hr (fun t ht hW => ⟨⟨(-2), (), rfl, (gi_any (-2)), x_courtStands, x_tallyStands, x_historyStands, ahasMoon, amoonStart, amoonStep, gx_courtStands, gx_tallyStands, gx_historyStands, gahasMoon, by rw [ht]; exact hP, hD⟩, hS.F ht⟩) hS.2.2 dX11_moon_34
