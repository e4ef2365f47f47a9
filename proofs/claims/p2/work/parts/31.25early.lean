theorem dX11_early_0 : decode cX11_early 0 = .ok (.aload_n 0, 1) := by decide +kernel
theorem dX11_early_1 : decode cX11_early 1 = .ok (.getfield 19, 3) := by decide +kernel
theorem dX11_early_4 : decode cX11_early 4 = .ok (.getfield 206, 3) := by decide +kernel
theorem dX11_early_7 : decode cX11_early 7 = .ok (.ifCond .eq 19, 3) := by decide +kernel
theorem dX11_early_10 : decode cX11_early 10 = .ok (.aload_n 0, 1) := by decide +kernel
theorem dX11_early_11 : decode cX11_early 11 = .ok (.iload_n 1, 1) := by decide +kernel
theorem dX11_early_12 : decode cX11_early 12 = .ok (.iconst 1, 1) := by decide +kernel
theorem dX11_early_13 : decode cX11_early 13 = .ok (.aload_n 0, 1) := by decide +kernel
theorem dX11_early_14 : decode cX11_early 14 = .ok (.getfield 19, 3) := by decide +kernel
theorem dX11_early_17 : decode cX11_early 17 = .ok (.getfield 120, 3) := by decide +kernel
theorem dX11_early_20 : decode cX11_early 20 = .ok (.invokevirtual 209, 3) := by decide +kernel
theorem dX11_early_23 : decode cX11_early 23 = .ok (.ifCond .ne 6, 3) := by decide +kernel
theorem dX11_early_26 : decode cX11_early 26 = .ok (.bipush (-2), 2) := by decide +kernel
theorem dX11_early_28 : decode cX11_early 28 = .ok (.ireturn, 1) := by decide +kernel
theorem dX11_early_29 : decode cX11_early 29 = .ok (.aload_n 0, 1) := by decide +kernel
theorem dX11_early_30 : decode cX11_early 30 = .ok (.getfield 19, 3) := by decide +kernel
theorem dX11_early_33 : decode cX11_early 33 = .ok (.iload_n 1, 1) := by decide +kernel
theorem dX11_early_34 : decode cX11_early 34 = .ok (.invokevirtual 213, 3) := by decide +kernel
theorem dX11_early_37 : decode cX11_early 37 = .ok (.ireturn, 1) := by decide +kernel
set_option maxHeartbeats 4000000 in
set_option maxRecDepth 100000 in
theorem sX11_early (l : Launch) (dC : Nat → ClassId) (dI : Nat → Nat → Nat) (h0 : Nat) (am : Nat) (xr : Nat) (xs : Nat) (xf : Nat) (co : Nat) (oc : Nat) (ta : Nat) (xq : Nat) (xh : Nat) (xk : Nat) (xo : Nat) (x_outLength : Int32) (x_courtStands : Int32) (x_courtNews : Int32) (x_tallyStands : Int32) (x_historyStands : Int32) (amonths : Int32) (afull : Int32) (alean : Int32) (alines : Int32) (ahasMoon : Int32) (amoonStart : Int32) (amoonStep : Int32) (aplaceCount : Int32) (areportCount : Int32) (adeedCount : Int32) (pl : Nat) (re : Nat) (de : Nat) (p1 : Int32) (gx_outLength : gi x_outLength 0 72) (gx_courtStands : gi x_courtStands 0 1) (gx_tallyStands : gi x_tallyStands 0 1) (gx_historyStands : gi x_historyStands 0 1) (gamonths : gi amonths 0 24) (gafull : gi afull 0 5) (galean : gi alean 0 5) (gahasMoon : gi ahasMoon 0 1) (gaplaceCount : gi aplaceCount 0 6) (gareportCount : gi areportCount 0 24) (gadeedCount : gi adeedCount 0 8) : Met l yX11_early (.code yX11_early cX11_early 2 (some .int) :: wsGA) ({ frames := 2, cells := 0, slots := 0, locals := 43 }) (va_Pc [.ref h0, .int p1] (fun U => va_P (dC, dI) vwCl [(h0, .inr (11, [.ref xr, .ref am, .ref xs, .ref xf, .ref co, .ref oc, .ref ta, .ref xq, .ref xh, .ref xk, .ref xo, .int x_outLength, .int x_courtStands, .int x_courtNews, .int x_tallyStands, .int x_historyStands])), (am, .inr (0, [.int amonths, .int afull, .int alean, .int alines, .int ahasMoon, .int amoonStart, .int amoonStep, .int aplaceCount, .int areportCount, .int adeedCount, .ref pl, .ref re, .ref de]))] U.heap ∧ va_K (dC, dI) vwCl [] U ∧ nzA U)) (va_Qi (fun (r : Int32) (u : Unit) => gi r (-2147483648) 2147483647) (fun _ _ => True) (fun _ => False)) 0 0 (fun _ => False) := by
  refine Met.ofW (cc := cX11_early) (maxL := 2) (ret := (some .int)) (by decide) rfl ?_
  intro p e s m args below meth c s₁ B hml hv
  obtain ⟨rfl, hP, hK, hz⟩ := hv
  have hx := B.exec
  have hb := B.bytes
  have hr := B.returns
  have hts := atoms_spec (ws := (.code yX11_early cX11_early 2 (some .int) :: wsGA)) B.pre
  have hown : s.vm.findClass RX11 = some m.cls := findClass_of_methodNamed B.named
  have hlocks := B.notSynchronized
  have hS : va_S (fun _ => False) s.heap s.heap [] := va_S.rf
  have hl := lv_entry ([.ref h0, .int p1]) (n := 2) (Nat.le_of_ble_eq_true rfl)
  rw [lg_entry_eq]
  generalize (lg_sl ([.ref h0, .int p1]) ++ List.replicate (2 - (lg_sl ([.ref h0, .int p1])).length) Slot.unset).toArray = ls at hl ⊢
  have hl : lv_has ls 2 [(0, .ref h0), (1, .int p1)] := hl
  refine lv_aload_n hx hb dX11_early_0 rfl (lv_at hl 0 rfl) ?_
  refine va_get (D := (dC, dI)) (ci := 11) (v := .ref am) (C := RX11) (T := TX11) (N := 16) hx hb hts (fun w h => List.mem_cons_of_mem _ (jnGA_X11 w h)) hown hK hP 0 rfl rfl 1 (by decide) (hts _ (List.mem_cons_of_mem _ mGA_14)) (fun _ h9 => h9) rfl dX11_early_1 ?_
  refine va_get (D := (dC, dI)) (ci := 0) (v := .int ahasMoon) (C := RX0) (T := TX0) (N := 13) hx hb hts (fun w h => List.mem_cons_of_mem _ (jnGA_X0 w h)) hown hK hP 1 rfl rfl 4 (by decide) (hts _ (List.mem_cons_of_mem _ mGA_407)) (fun _ h9 => h9) rfl dX11_early_4 ?_
  refine lv_if_eq (tgt := 26) hx hb dX11_early_7 (by decide) (fun c_10 => ?_) (fun c_10 => ?_)
  · have g_11 : gi ahasMoon 0 0 := gi_eq c_10 (gi_c 0 0 (by decide))
    refine lv_bipush (v := (-2)) hx hb dX11_early_26 (by decide) ?_
    exact W.iret (v := (-2)) hx hb hr (fun t ht hW => ⟨⟨(-2), (), rfl, (gi_any (-2)), trivial⟩, hS.F ht⟩) hS.2.2 dX11_early_28
  · have g_12 : gi ahasMoon 1 1 := gi_ne_lo c_10 gahasMoon (gi_c 0 0 (by decide)) (by decide)
    refine lv_aload_n hx hb dX11_early_10 rfl (lv_at hl 0 rfl) ?_
    refine lv_iload_n hx hb dX11_early_11 rfl (lv_at hl 1 rfl) ?_
    refine lv_iconst (v := 1) hx hb dX11_early_12 (by decide) ?_
    refine lv_aload_n hx hb dX11_early_13 rfl (lv_at hl 0 rfl) ?_
    refine va_get (D := (dC, dI)) (ci := 11) (v := .ref am) (C := RX11) (T := TX11) (N := 16) hx hb hts (fun w h => List.mem_cons_of_mem _ (jnGA_X11 w h)) hown hK hP 0 rfl rfl 1 (by decide) (hts _ (List.mem_cons_of_mem _ mGA_14)) (fun _ h9 => h9) rfl dX11_early_14 ?_
    refine va_get (D := (dC, dI)) (ci := 0) (v := .int amonths) (C := RX0) (T := TX0) (N := 13) hx hb hts (fun w h => List.mem_cons_of_mem _ (jnGA_X0 w h)) hown hK hP 1 rfl rfl 0 (by decide) (hts _ (List.mem_cons_of_mem _ mGA_353)) (fun _ h9 => h9) rfl dX11_early_17 ?_
    have hPc := hP.sub (ws' := [(h0, .inr (11, [.ref xr, .ref am, .ref xs, .ref xf, .ref co, .ref oc, .ref ta, .ref xq, .ref xh, .ref xk, .ref xo, .int x_outLength, .int x_courtStands, .int x_courtNews, .int x_tallyStands, .int x_historyStands])), (am, .inr (0, [.int amonths, .int afull, .int alean, .int alines, .int ahasMoon, .int amoonStart, .int amoonStep, .int aplaceCount, .int areportCount, .int adeedCount, .ref pl, .ref re, .ref de]))]) [0, 1] rfl
    have hKc := hK.sub (tys' := []) [] rfl
    refine va_calli (va_runV (As := [.int p1, .int 1, .int amonths]) (rest := []) ⟨hx, hb, hml, hown, hts⟩ (sX11_hasMonthB l dC dI h0 am xr xs xf co oc ta xq xh xk xo x_outLength x_courtStands x_courtNews x_tallyStands x_historyStands amonths afull alean alines ahasMoon amoonStart amoonStep aplaceCount areportCount adeedCount pl re de p1 1 amonths gx_outLength gx_courtStands gx_tallyStands gx_historyStands gamonths gafull galean (gi_w g_12 (by decide)) gaplaceCount gareportCount gadeedCount (gi_w (gi_c 1 1 (by decide)) (by decide)) gamonths) (cwV 3 hts (gz_gV mGA_408 mGA_409 mGA_410 mGA_1 mGA_411 goodGA) rfl rfl rfl (by decide +kernel) ⟨Nat.le_of_ble_eq_true rfl, Nat.le_of_ble_eq_true rfl⟩) ⟨fun a U g mk q => by obtain ⟨q0, qP, qK, qZ⟩ := q; exact ⟨q0, qP, va_K.moved (u := U) (U := U.calling g mk a) (Vm.Alike.refl U.vm) qK, nzA_same (u := U) (U := U.calling g mk a) rfl qZ⟩, va_recv hKc hPc (ci := 11) (q0 := 0) rfl rfl, fun U hU hW => ⟨rfl, by rw [hU]; exact hPc, va_K.moved hW.alike hKc, nzA_warm hW hz⟩⟩ rfl rfl hl.1 rfl (lv_room (Nat.le_of_ble_eq_true rfl)) dX11_early_20 ⟨Nat.zero_le _, Nat.zero_le _⟩) hS (fun q _ h => h.elim) (fun q h => h.elim) (fun r_13 u t H1 locs ht hvm hw hB hz1 hk1 hS => ?_)
    have hP := gz_keep hP hk1
    generalize H1 = H at hP hS ⊢
    have gr_13 : gi r_13 0 1 := hw.1
    have hqr_13 := hw.2
    refine lv_if_ne (tgt := 29) hx hb dX11_early_23 (by decide) (fun c_14 => ?_) (fun c_14 => ?_)
    · have g_15 : gi r_13 1 1 := gi_ne_lo c_14 gr_13 (gi_c 0 0 (by decide)) (by decide)
      have g_16 : gi p1 0 24 := gi_cap (gi_any p1) (hqr_13 (gz_one g_15)) (by decide)
      refine lv_aload_n hx hb dX11_early_29 rfl (lv_at hl 0 rfl) ?_
      refine va_get (D := (dC, dI)) (ci := 11) (v := .ref am) (C := RX11) (T := TX11) (N := 16) hx hb hts (fun w h => List.mem_cons_of_mem _ (jnGA_X11 w h)) hown hK hP 0 rfl rfl 1 (by decide) (hts _ (List.mem_cons_of_mem _ mGA_14)) (fun _ h9 => h9) rfl dX11_early_30 ?_
      refine lv_iload_n hx hb dX11_early_33 rfl (lv_at hl 1 rfl) ?_
      have hPc := hP.sub (ws' := [(am, .inr (0, [.int amonths, .int afull, .int alean, .int alines, .int ahasMoon, .int amoonStart, .int amoonStep, .int aplaceCount, .int areportCount, .int adeedCount, .ref pl, .ref re, .ref de]))]) [1] rfl
      have hKc := hK.sub (tys' := []) [] rfl
      refine va_calli (va_runV (As := [.int p1]) (rest := []) ⟨hx, hb, hml, hown, hts⟩ (sX0_earlyOf l dC dI am amonths afull alean alines ahasMoon amoonStart amoonStep aplaceCount areportCount adeedCount pl re de p1 gamonths gafull galean (gi_w g_12 (by decide)) gaplaceCount gareportCount gadeedCount) (cwV 1 hts (gz_gV mGA_416 mGA_417 mGA_418 mGA_13 mGA_419 goodGA) rfl rfl rfl (by decide +kernel) ⟨Nat.le_of_ble_eq_true rfl, Nat.le_of_ble_eq_true rfl⟩) ⟨fun a U g mk q => by obtain ⟨q0, qP, qK, qZ⟩ := q; exact ⟨q0, qP, va_K.moved (u := U) (U := U.calling g mk a) (Vm.Alike.refl U.vm) qK, nzA_same (u := U) (U := U.calling g mk a) rfl qZ⟩, va_recv hKc hPc (ci := 0) (q0 := 0) rfl rfl, fun U hU hW => ⟨rfl, by rw [hU]; exact hPc, va_K.moved hW.alike hKc, nzA_warm hW hz⟩⟩ rfl rfl hl.1 rfl (lv_room (Nat.le_of_ble_eq_true rfl)) dX11_early_34 ⟨Nat.zero_le _, Nat.zero_le _⟩) hS (fun q _ h => h.elim) (fun q h => h.elim) (fun r_17 u t H1 locs ht hvm hw hB hz1 hk1 hS => ?_)
      have hP := gz_keep hP hk1
      generalize H1 = H at hP hS ⊢
      exact W.iret (v := r_17) hx hb hr (fun t ht hW => ⟨⟨r_17, (), rfl, (gi_any r_17), trivial⟩, hS.F ht⟩) hS.2.2 dX11_early_37
    · have g_18 : gi r_13 0 0 := gi_eq c_14 (gi_c 0 0 (by decide))
      refine lv_bipush (v := (-2)) hx hb dX11_early_26 (by decide) ?_
      exact W.iret (v := (-2)) hx hb hr (fun t ht hW => ⟨⟨(-2), (), rfl, (gi_any (-2)), trivial⟩, hS.F ht⟩) hS.2.2 dX11_early_28
