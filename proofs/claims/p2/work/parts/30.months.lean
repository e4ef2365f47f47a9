theorem dX11_isTold_0 : decode cX11_isTold 0 = .ok (.aload_n 0, 1) := by decide +kernel
theorem dX11_isTold_1 : decode cX11_isTold 1 = .ok (.getfield 19, 3) := by decide +kernel
theorem dX11_isTold_4 : decode cX11_isTold 4 = .ok (.getfield 120, 3) := by decide +kernel
theorem dX11_isTold_7 : decode cX11_isTold 7 = .ok (.ifCond .le 7, 3) := by decide +kernel
theorem dX11_isTold_10 : decode cX11_isTold 10 = .ok (.iconst 1, 1) := by decide +kernel
theorem dX11_isTold_11 : decode cX11_isTold 11 = .ok (.goto 4, 3) := by decide +kernel
theorem dX11_isTold_14 : decode cX11_isTold 14 = .ok (.iconst 0, 1) := by decide +kernel
theorem dX11_isTold_15 : decode cX11_isTold 15 = .ok (.ireturn, 1) := by decide +kernel
set_option maxHeartbeats 4000000 in
set_option maxRecDepth 100000 in
theorem sX11_isTold (l : Launch) (dC : Nat → ClassId) (dI : Nat → Nat → Nat) (h0 : Nat) (am : Nat) (xr : Nat) (xs : Nat) (xf : Nat) (co : Nat) (oc : Nat) (ta : Nat) (xq : Nat) (xh : Nat) (xk : Nat) (xo : Nat) (x_outLength : Int32) (x_courtStands : Int32) (x_courtNews : Int32) (x_tallyStands : Int32) (x_historyStands : Int32) (amonths : Int32) (afull : Int32) (alean : Int32) (alines : Int32) (ahasMoon : Int32) (amoonStart : Int32) (amoonStep : Int32) (aplaceCount : Int32) (areportCount : Int32) (adeedCount : Int32) (pl : Nat) (re : Nat) (de : Nat) (gx_outLength : gi x_outLength 0 72) (gx_courtStands : gi x_courtStands 0 1) (gx_tallyStands : gi x_tallyStands 0 1) (gx_historyStands : gi x_historyStands 0 1) (gamonths : gi amonths 0 24) (gafull : gi afull 0 5) (galean : gi alean 0 5) (gahasMoon : gi ahasMoon 0 1) (gaplaceCount : gi aplaceCount 0 6) (gareportCount : gi areportCount 0 24) (gadeedCount : gi adeedCount 0 8) : Met l yX11_isTold (.code yX11_isTold cX11_isTold 1 (some .boolean) :: wsGA) ({ frames := 0, cells := 0, slots := 0, locals := 0 }) (va_Pc [.ref h0] (fun U => va_P (dC, dI) vwCl [(h0, .inr (11, [.ref xr, .ref am, .ref xs, .ref xf, .ref co, .ref oc, .ref ta, .ref xq, .ref xh, .ref xk, .ref xo, .int x_outLength, .int x_courtStands, .int x_courtNews, .int x_tallyStands, .int x_historyStands])), (am, .inr (0, [.int amonths, .int afull, .int alean, .int alines, .int ahasMoon, .int amoonStart, .int amoonStep, .int aplaceCount, .int areportCount, .int adeedCount, .ref pl, .ref re, .ref de]))] U.heap ∧ va_K (dC, dI) vwCl [] U ∧ nzA U)) (va_Qi (fun (r : Int32) (u : Unit) => gi r 0 1) (fun _ _ => True) (fun _ => False)) 0 0 (fun _ => False) := by
  refine Met.ofW (cc := cX11_isTold) (maxL := 1) (ret := (some .boolean)) (by decide) rfl ?_
  intro p e s m args below meth c s₁ B hml hv
  obtain ⟨rfl, hP, hK, hz⟩ := hv
  have hx := B.exec
  have hb := B.bytes
  have hr := B.returns
  have hts := atoms_spec (ws := (.code yX11_isTold cX11_isTold 1 (some .boolean) :: wsGA)) B.pre
  have hown : s.vm.findClass RX11 = some m.cls := findClass_of_methodNamed B.named
  have hlocks := B.notSynchronized
  have hS : va_S (fun _ => False) s.heap s.heap [] := va_S.rf
  have hl := lv_entry ([.ref h0]) (n := 1) (Nat.le_of_ble_eq_true rfl)
  rw [lg_entry_eq]
  generalize (lg_sl ([.ref h0]) ++ List.replicate (1 - (lg_sl ([.ref h0])).length) Slot.unset).toArray = ls at hl ⊢
  have hl : lv_has ls 1 [(0, .ref h0)] := hl
  refine lv_aload_n hx hb dX11_isTold_0 rfl (lv_at hl 0 rfl) ?_
  refine va_get (D := (dC, dI)) (ci := 11) (v := .ref am) (C := RX11) (T := TX11) (N := 16) hx hb hts (fun w h => List.mem_cons_of_mem _ (jnGA_X11 w h)) hown hK hP 0 rfl rfl 1 (by decide) (hts _ (List.mem_cons_of_mem _ mGA_14)) (fun _ h9 => h9) rfl dX11_isTold_1 ?_
  refine va_get (D := (dC, dI)) (ci := 0) (v := .int amonths) (C := RX0) (T := TX0) (N := 13) hx hb hts (fun w h => List.mem_cons_of_mem _ (jnGA_X0 w h)) hown hK hP 1 rfl rfl 0 (by decide) (hts _ (List.mem_cons_of_mem _ mGA_353)) (fun _ h9 => h9) rfl dX11_isTold_4 ?_
  refine lv_if_le (tgt := 14) hx hb dX11_isTold_7 (by decide) (fun c_4 => ?_) (fun c_4 => ?_)
  · have g_5 : gi amonths 0 0 := gi_le_l c_4 gamonths (gi_c 0 0 (by decide))
    refine lv_iconst (v := 0) hx hb dX11_isTold_14 (by decide) ?_
    exact W.zret (v := 0) hx hb hr (by decide) (fun t ht hW => ⟨⟨0, (), rfl, (gi_w (gi_c 0 0 (by decide)) (by decide)), trivial⟩, hS.F ht⟩) hS.2.2 dX11_isTold_15
  · have g_6 : gi amonths 1 24 := gi_lt_r (Int32.not_le.mp c_4) (gi_c 0 0 (by decide)) gamonths (by decide)
    refine lv_iconst (v := 1) hx hb dX11_isTold_10 (by decide) ?_
    refine lv_goto (tgt := 15) hx hb dX11_isTold_11 (by decide) ?_
    exact W.zret (v := 1) hx hb hr (by decide) (fun t ht hW => ⟨⟨1, (), rfl, (gi_w (gi_c 1 1 (by decide)) (by decide)), trivial⟩, hS.F ht⟩) hS.2.2 dX11_isTold_15
theorem dX11_hasTime_0 : decode cX11_hasTime 0 = .ok (.aload_n 0, 1) := by decide +kernel
theorem dX11_hasTime_1 : decode cX11_hasTime 1 = .ok (.invokevirtual 395, 3) := by decide +kernel
theorem dX11_hasTime_4 : decode cX11_hasTime 4 = .ok (.ifCond .eq 18, 3) := by decide +kernel
theorem dX11_hasTime_7 : decode cX11_hasTime 7 = .ok (.iload_n 1, 1) := by decide +kernel
theorem dX11_hasTime_8 : decode cX11_hasTime 8 = .ok (.ifCond .lt 14, 3) := by decide +kernel
theorem dX11_hasTime_11 : decode cX11_hasTime 11 = .ok (.iload_n 1, 1) := by decide +kernel
theorem dX11_hasTime_12 : decode cX11_hasTime 12 = .ok (.sipush 999, 3) := by decide +kernel
theorem dX11_hasTime_15 : decode cX11_hasTime 15 = .ok (.if_icmp .gt 7, 3) := by decide +kernel
theorem dX11_hasTime_18 : decode cX11_hasTime 18 = .ok (.iconst 1, 1) := by decide +kernel
theorem dX11_hasTime_19 : decode cX11_hasTime 19 = .ok (.goto 4, 3) := by decide +kernel
theorem dX11_hasTime_22 : decode cX11_hasTime 22 = .ok (.iconst 0, 1) := by decide +kernel
theorem dX11_hasTime_23 : decode cX11_hasTime 23 = .ok (.ireturn, 1) := by decide +kernel
set_option maxHeartbeats 4000000 in
set_option maxRecDepth 100000 in
theorem sX11_hasTime (l : Launch) (dC : Nat → ClassId) (dI : Nat → Nat → Nat) (h0 : Nat) (am : Nat) (xr : Nat) (xs : Nat) (xf : Nat) (co : Nat) (oc : Nat) (ta : Nat) (xq : Nat) (xh : Nat) (xk : Nat) (xo : Nat) (x_outLength : Int32) (x_courtStands : Int32) (x_courtNews : Int32) (x_tallyStands : Int32) (x_historyStands : Int32) (amonths : Int32) (afull : Int32) (alean : Int32) (alines : Int32) (ahasMoon : Int32) (amoonStart : Int32) (amoonStep : Int32) (aplaceCount : Int32) (areportCount : Int32) (adeedCount : Int32) (pl : Nat) (re : Nat) (de : Nat) (p1 : Int32) (gx_outLength : gi x_outLength 0 72) (gx_courtStands : gi x_courtStands 0 1) (gx_tallyStands : gi x_tallyStands 0 1) (gx_historyStands : gi x_historyStands 0 1) (gamonths : gi amonths 0 24) (gafull : gi afull 0 5) (galean : gi alean 0 5) (gahasMoon : gi ahasMoon 0 1) (gaplaceCount : gi aplaceCount 0 6) (gareportCount : gi areportCount 0 24) (gadeedCount : gi adeedCount 0 8) : Met l yX11_hasTime (.code yX11_hasTime cX11_hasTime 2 (some .boolean) :: wsGA) ({ frames := 1, cells := 0, slots := 0, locals := 20 }) (va_Pc [.ref h0, .int p1] (fun U => va_P (dC, dI) vwCl [(h0, .inr (11, [.ref xr, .ref am, .ref xs, .ref xf, .ref co, .ref oc, .ref ta, .ref xq, .ref xh, .ref xk, .ref xo, .int x_outLength, .int x_courtStands, .int x_courtNews, .int x_tallyStands, .int x_historyStands])), (am, .inr (0, [.int amonths, .int afull, .int alean, .int alines, .int ahasMoon, .int amoonStart, .int amoonStep, .int aplaceCount, .int areportCount, .int adeedCount, .ref pl, .ref re, .ref de]))] U.heap ∧ va_K (dC, dI) vwCl [] U ∧ nzA U)) (va_Qi (fun (r : Int32) (u : Unit) => gi r 0 1 ∧ (r.toInt = 1 → gi p1 0 999)) (fun _ _ => True) (fun _ => False)) 0 0 (fun _ => False) := by
  refine Met.ofW (cc := cX11_hasTime) (maxL := 2) (ret := (some .boolean)) (by decide) rfl ?_
  intro p e s m args below meth c s₁ B hml hv
  obtain ⟨rfl, hP, hK, hz⟩ := hv
  have hx := B.exec
  have hb := B.bytes
  have hr := B.returns
  have hts := atoms_spec (ws := (.code yX11_hasTime cX11_hasTime 2 (some .boolean) :: wsGA)) B.pre
  have hown : s.vm.findClass RX11 = some m.cls := findClass_of_methodNamed B.named
  have hlocks := B.notSynchronized
  have hS : va_S (fun _ => False) s.heap s.heap [] := va_S.rf
  have hl := lv_entry ([.ref h0, .int p1]) (n := 2) (Nat.le_of_ble_eq_true rfl)
  rw [lg_entry_eq]
  generalize (lg_sl ([.ref h0, .int p1]) ++ List.replicate (2 - (lg_sl ([.ref h0, .int p1])).length) Slot.unset).toArray = ls at hl ⊢
  have hl : lv_has ls 2 [(0, .ref h0), (1, .int p1)] := hl
  refine lv_aload_n hx hb dX11_hasTime_0 rfl (lv_at hl 0 rfl) ?_
  have hPc := hP.sub (ws' := [(h0, .inr (11, [.ref xr, .ref am, .ref xs, .ref xf, .ref co, .ref oc, .ref ta, .ref xq, .ref xh, .ref xk, .ref xo, .int x_outLength, .int x_courtStands, .int x_courtNews, .int x_tallyStands, .int x_historyStands])), (am, .inr (0, [.int amonths, .int afull, .int alean, .int alines, .int ahasMoon, .int amoonStart, .int amoonStep, .int aplaceCount, .int areportCount, .int adeedCount, .ref pl, .ref re, .ref de]))]) [0, 1] rfl
  have hKc := hK.sub (tys' := []) [] rfl
  refine va_calli (va_runV (As := []) (rest := []) ⟨hx, hb, hml, hown, hts⟩ (sX11_isTold l dC dI h0 am xr xs xf co oc ta xq xh xk xo x_outLength x_courtStands x_courtNews x_tallyStands x_historyStands amonths afull alean alines ahasMoon amoonStart amoonStep aplaceCount areportCount adeedCount pl re de gx_outLength gx_courtStands gx_tallyStands gx_historyStands gamonths gafull galean gahasMoon gaplaceCount gareportCount gadeedCount) (cwV 0 hts (gz_gV mGA_412 mGA_413 mGA_414 mGA_1 mGA_415 goodGA) rfl rfl rfl (by decide +kernel) ⟨Nat.le_of_ble_eq_true rfl, Nat.le_of_ble_eq_true rfl⟩) ⟨fun a U g mk q => by obtain ⟨q0, qP, qK, qZ⟩ := q; exact ⟨q0, qP, va_K.moved (u := U) (U := U.calling g mk a) (Vm.Alike.refl U.vm) qK, nzA_same (u := U) (U := U.calling g mk a) rfl qZ⟩, va_recv hKc hPc (ci := 11) (q0 := 0) rfl rfl, fun U hU hW => ⟨rfl, by rw [hU]; exact hPc, va_K.moved hW.alike hKc, nzA_warm hW hz⟩⟩ rfl rfl hl.1 rfl (lv_room (Nat.le_of_ble_eq_true rfl)) dX11_hasTime_1 ⟨Nat.zero_le _, Nat.zero_le _⟩) hS (fun q _ h => h.elim) (fun q h => h.elim) (fun r_11 u t H1 locs ht hvm hw hB hz1 hk1 hS => ?_)
  have hP := gz_keep hP hk1
  generalize H1 = H at hP hS ⊢
  have gr_11 : gi r_11 0 1 := hw
  refine lv_if_eq (tgt := 22) hx hb dX11_hasTime_4 (by decide) (fun c_12 => ?_) (fun c_12 => ?_)
  · have g_13 : gi r_11 0 0 := gi_eq c_12 (gi_c 0 0 (by decide))
    refine lv_iconst (v := 0) hx hb dX11_hasTime_22 (by decide) ?_
    exact W.zret (v := 0) hx hb hr (by decide) (fun t ht hW => ⟨⟨0, (), rfl, ⟨(gi_w (gi_c 0 0 (by decide)) (by decide)), (fun h => absurd h (by decide))⟩, trivial⟩, hS.F ht⟩) hS.2.2 dX11_hasTime_23
  · have g_14 : gi r_11 1 1 := gi_ne_lo c_12 gr_11 (gi_c 0 0 (by decide)) (by decide)
    refine lv_iload_n hx hb dX11_hasTime_7 rfl (lv_at hl 1 rfl) ?_
    refine lv_if_lt (tgt := 22) hx hb dX11_hasTime_8 (by decide) (fun c_15 => ?_) (fun c_15 => ?_)
    · have g_16 : gi p1 (-2147483648) (-1) := gi_lt_l c_15 (gi_any p1) (gi_c 0 0 (by decide)) (by decide)
      refine lv_iconst (v := 0) hx hb dX11_hasTime_22 (by decide) ?_
      exact W.zret (v := 0) hx hb hr (by decide) (fun t ht hW => ⟨⟨0, (), rfl, ⟨(gi_w (gi_c 0 0 (by decide)) (by decide)), (fun h => absurd h (by decide))⟩, trivial⟩, hS.F ht⟩) hS.2.2 dX11_hasTime_23
    · have g_17 : gi p1 0 2147483647 := gi_le_r (Int32.not_lt.mp c_15) (gi_c 0 0 (by decide)) (gi_any p1)
      refine lv_iload_n hx hb dX11_hasTime_11 rfl (lv_at hl 1 rfl) ?_
      refine lv_sipush (v := 999) hx hb dX11_hasTime_12 (by decide) ?_
      refine lv_icmp_gt (tgt := 22) hx hb dX11_hasTime_15 (by decide) (fun c_18 => ?_) (fun c_18 => ?_)
      · have g_19 : gi p1 1000 2147483647 := gi_lt_r c_18 (gi_c 999 999 (by decide)) g_17 (by decide)
        refine lv_iconst (v := 0) hx hb dX11_hasTime_22 (by decide) ?_
        exact W.zret (v := 0) hx hb hr (by decide) (fun t ht hW => ⟨⟨0, (), rfl, ⟨(gi_w (gi_c 0 0 (by decide)) (by decide)), (fun h => absurd h (by decide))⟩, trivial⟩, hS.F ht⟩) hS.2.2 dX11_hasTime_23
      · have g_20 : gi p1 0 999 := gi_le_l (Int32.not_lt.mp c_18) g_17 (gi_c 999 999 (by decide))
        refine lv_iconst (v := 1) hx hb dX11_hasTime_18 (by decide) ?_
        refine lv_goto (tgt := 23) hx hb dX11_hasTime_19 (by decide) ?_
        exact W.zret (v := 1) hx hb hr (by decide) (fun t ht hW => ⟨⟨1, (), rfl, ⟨(gi_w (gi_c 1 1 (by decide)) (by decide)), (fun _ => g_20)⟩, trivial⟩, hS.F ht⟩) hS.2.2 dX11_hasTime_23
theorem dX11_hasMonth_0 : decode cX11_hasMonth 0 = .ok (.aload_n 0, 1) := by decide +kernel
theorem dX11_hasMonth_1 : decode cX11_hasMonth 1 = .ok (.invokevirtual 395, 3) := by decide +kernel
theorem dX11_hasMonth_4 : decode cX11_hasMonth 4 = .ok (.ifCond .eq 17, 3) := by decide +kernel
theorem dX11_hasMonth_7 : decode cX11_hasMonth 7 = .ok (.iload_n 1, 1) := by decide +kernel
theorem dX11_hasMonth_8 : decode cX11_hasMonth 8 = .ok (.iload_n 2, 1) := by decide +kernel
theorem dX11_hasMonth_9 : decode cX11_hasMonth 9 = .ok (.if_icmp .lt 12, 3) := by decide +kernel
theorem dX11_hasMonth_12 : decode cX11_hasMonth 12 = .ok (.iload_n 1, 1) := by decide +kernel
theorem dX11_hasMonth_13 : decode cX11_hasMonth 13 = .ok (.iload_n 3, 1) := by decide +kernel
theorem dX11_hasMonth_14 : decode cX11_hasMonth 14 = .ok (.if_icmp .gt 7, 3) := by decide +kernel
theorem dX11_hasMonth_17 : decode cX11_hasMonth 17 = .ok (.iconst 1, 1) := by decide +kernel
theorem dX11_hasMonth_18 : decode cX11_hasMonth 18 = .ok (.goto 4, 3) := by decide +kernel
theorem dX11_hasMonth_21 : decode cX11_hasMonth 21 = .ok (.iconst 0, 1) := by decide +kernel
theorem dX11_hasMonth_22 : decode cX11_hasMonth 22 = .ok (.ireturn, 1) := by decide +kernel
set_option maxHeartbeats 4000000 in
set_option maxRecDepth 100000 in
theorem sX11_hasMonthA (l : Launch) (dC : Nat → ClassId) (dI : Nat → Nat → Nat) (h0 : Nat) (am : Nat) (xr : Nat) (xs : Nat) (xf : Nat) (co : Nat) (oc : Nat) (ta : Nat) (xq : Nat) (xh : Nat) (xk : Nat) (xo : Nat) (x_outLength : Int32) (x_courtStands : Int32) (x_courtNews : Int32) (x_tallyStands : Int32) (x_historyStands : Int32) (amonths : Int32) (afull : Int32) (alean : Int32) (alines : Int32) (ahasMoon : Int32) (amoonStart : Int32) (amoonStep : Int32) (aplaceCount : Int32) (areportCount : Int32) (adeedCount : Int32) (pl : Nat) (re : Nat) (de : Nat) (p1 : Int32) (p2 : Int32) (p3 : Int32) (gx_outLength : gi x_outLength 0 72) (gx_courtStands : gi x_courtStands 0 1) (gx_tallyStands : gi x_tallyStands 0 1) (gx_historyStands : gi x_historyStands 0 1) (gamonths : gi amonths 0 24) (gafull : gi afull 0 5) (galean : gi alean 0 5) (gahasMoon : gi ahasMoon 0 1) (gaplaceCount : gi aplaceCount 0 6) (gareportCount : gi areportCount 0 24) (gadeedCount : gi adeedCount 0 8) (gp2 : gi p2 0 1) (gp3 : gi p3 (-1) 23) : Met l yX11_hasMonth (.code yX11_hasMonth cX11_hasMonth 4 (some .boolean) :: wsGA) ({ frames := 1, cells := 0, slots := 0, locals := 20 }) (va_Pc [.ref h0, .int p1, .int p2, .int p3] (fun U => va_P (dC, dI) vwCl [(h0, .inr (11, [.ref xr, .ref am, .ref xs, .ref xf, .ref co, .ref oc, .ref ta, .ref xq, .ref xh, .ref xk, .ref xo, .int x_outLength, .int x_courtStands, .int x_courtNews, .int x_tallyStands, .int x_historyStands])), (am, .inr (0, [.int amonths, .int afull, .int alean, .int alines, .int ahasMoon, .int amoonStart, .int amoonStep, .int aplaceCount, .int areportCount, .int adeedCount, .ref pl, .ref re, .ref de]))] U.heap ∧ va_K (dC, dI) vwCl [] U ∧ nzA U)) (va_Qi (fun (r : Int32) (u : Unit) => gi r 0 1 ∧ (r.toInt = 1 → gi p1 0 23)) (fun _ _ => True) (fun _ => False)) 0 0 (fun _ => False) := by
  refine Met.ofW (cc := cX11_hasMonth) (maxL := 4) (ret := (some .boolean)) (by decide) rfl ?_
  intro p e s m args below meth c s₁ B hml hv
  obtain ⟨rfl, hP, hK, hz⟩ := hv
  have hx := B.exec
  have hb := B.bytes
  have hr := B.returns
  have hts := atoms_spec (ws := (.code yX11_hasMonth cX11_hasMonth 4 (some .boolean) :: wsGA)) B.pre
  have hown : s.vm.findClass RX11 = some m.cls := findClass_of_methodNamed B.named
  have hlocks := B.notSynchronized
  have hS : va_S (fun _ => False) s.heap s.heap [] := va_S.rf
  have hl := lv_entry ([.ref h0, .int p1, .int p2, .int p3]) (n := 4) (Nat.le_of_ble_eq_true rfl)
  rw [lg_entry_eq]
  generalize (lg_sl ([.ref h0, .int p1, .int p2, .int p3]) ++ List.replicate (4 - (lg_sl ([.ref h0, .int p1, .int p2, .int p3])).length) Slot.unset).toArray = ls at hl ⊢
  have hl : lv_has ls 4 [(0, .ref h0), (1, .int p1), (2, .int p2), (3, .int p3)] := hl
  refine lv_aload_n hx hb dX11_hasMonth_0 rfl (lv_at hl 0 rfl) ?_
  have hPc := hP.sub (ws' := [(h0, .inr (11, [.ref xr, .ref am, .ref xs, .ref xf, .ref co, .ref oc, .ref ta, .ref xq, .ref xh, .ref xk, .ref xo, .int x_outLength, .int x_courtStands, .int x_courtNews, .int x_tallyStands, .int x_historyStands])), (am, .inr (0, [.int amonths, .int afull, .int alean, .int alines, .int ahasMoon, .int amoonStart, .int amoonStep, .int aplaceCount, .int areportCount, .int adeedCount, .ref pl, .ref re, .ref de]))]) [0, 1] rfl
  have hKc := hK.sub (tys' := []) [] rfl
  refine va_calli (va_runV (As := []) (rest := []) ⟨hx, hb, hml, hown, hts⟩ (sX11_isTold l dC dI h0 am xr xs xf co oc ta xq xh xk xo x_outLength x_courtStands x_courtNews x_tallyStands x_historyStands amonths afull alean alines ahasMoon amoonStart amoonStep aplaceCount areportCount adeedCount pl re de gx_outLength gx_courtStands gx_tallyStands gx_historyStands gamonths gafull galean gahasMoon gaplaceCount gareportCount gadeedCount) (cwV 0 hts (gz_gV mGA_412 mGA_413 mGA_414 mGA_1 mGA_415 goodGA) rfl rfl rfl (by decide +kernel) ⟨Nat.le_of_ble_eq_true rfl, Nat.le_of_ble_eq_true rfl⟩) ⟨fun a U g mk q => by obtain ⟨q0, qP, qK, qZ⟩ := q; exact ⟨q0, qP, va_K.moved (u := U) (U := U.calling g mk a) (Vm.Alike.refl U.vm) qK, nzA_same (u := U) (U := U.calling g mk a) rfl qZ⟩, va_recv hKc hPc (ci := 11) (q0 := 0) rfl rfl, fun U hU hW => ⟨rfl, by rw [hU]; exact hPc, va_K.moved hW.alike hKc, nzA_warm hW hz⟩⟩ rfl rfl hl.1 rfl (lv_room (Nat.le_of_ble_eq_true rfl)) dX11_hasMonth_1 ⟨Nat.zero_le _, Nat.zero_le _⟩) hS (fun q _ h => h.elim) (fun q h => h.elim) (fun r_11 u t H1 locs ht hvm hw hB hz1 hk1 hS => ?_)
  have hP := gz_keep hP hk1
  generalize H1 = H at hP hS ⊢
  have gr_11 : gi r_11 0 1 := hw
  refine lv_if_eq (tgt := 21) hx hb dX11_hasMonth_4 (by decide) (fun c_12 => ?_) (fun c_12 => ?_)
  · have g_13 : gi r_11 0 0 := gi_eq c_12 (gi_c 0 0 (by decide))
    refine lv_iconst (v := 0) hx hb dX11_hasMonth_21 (by decide) ?_
    exact W.zret (v := 0) hx hb hr (by decide) (fun t ht hW => ⟨⟨0, (), rfl, ⟨(gi_w (gi_c 0 0 (by decide)) (by decide)), (fun h => absurd h (by decide))⟩, trivial⟩, hS.F ht⟩) hS.2.2 dX11_hasMonth_22
  · have g_14 : gi r_11 1 1 := gi_ne_lo c_12 gr_11 (gi_c 0 0 (by decide)) (by decide)
    refine lv_iload_n hx hb dX11_hasMonth_7 rfl (lv_at hl 1 rfl) ?_
    refine lv_iload_n hx hb dX11_hasMonth_8 rfl (lv_at hl 2 rfl) ?_
    refine lv_icmp_lt (tgt := 21) hx hb dX11_hasMonth_9 (by decide) (fun c_15 => ?_) (fun c_15 => ?_)
    · have g_16 : gi p1 (-2147483648) 0 := gi_lt_l c_15 (gi_any p1) gp2 (by decide)
      refine lv_iconst (v := 0) hx hb dX11_hasMonth_21 (by decide) ?_
      exact W.zret (v := 0) hx hb hr (by decide) (fun t ht hW => ⟨⟨0, (), rfl, ⟨(gi_w (gi_c 0 0 (by decide)) (by decide)), (fun h => absurd h (by decide))⟩, trivial⟩, hS.F ht⟩) hS.2.2 dX11_hasMonth_22
    · have g_17 : gi p1 0 2147483647 := gi_le_r (Int32.not_lt.mp c_15) gp2 (gi_any p1)
      refine lv_iload_n hx hb dX11_hasMonth_12 rfl (lv_at hl 1 rfl) ?_
      refine lv_iload_n hx hb dX11_hasMonth_13 rfl (lv_at hl 3 rfl) ?_
      refine lv_icmp_gt (tgt := 21) hx hb dX11_hasMonth_14 (by decide) (fun c_18 => ?_) (fun c_18 => ?_)
      · refine lv_iconst (v := 0) hx hb dX11_hasMonth_21 (by decide) ?_
        exact W.zret (v := 0) hx hb hr (by decide) (fun t ht hW => ⟨⟨0, (), rfl, ⟨(gi_w (gi_c 0 0 (by decide)) (by decide)), (fun h => absurd h (by decide))⟩, trivial⟩, hS.F ht⟩) hS.2.2 dX11_hasMonth_22
      · have g_19 : gi p1 0 23 := gi_le_l (Int32.not_lt.mp c_18) g_17 gp3
        have g_20 : gi p3 0 23 := gi_le_r (Int32.not_lt.mp c_18) g_17 gp3
        refine lv_iconst (v := 1) hx hb dX11_hasMonth_17 (by decide) ?_
        refine lv_goto (tgt := 22) hx hb dX11_hasMonth_18 (by decide) ?_
        exact W.zret (v := 1) hx hb hr (by decide) (fun t ht hW => ⟨⟨1, (), rfl, ⟨(gi_w (gi_c 1 1 (by decide)) (by decide)), (fun _ => g_19)⟩, trivial⟩, hS.F ht⟩) hS.2.2 dX11_hasMonth_22
set_option maxHeartbeats 4000000 in
set_option maxRecDepth 100000 in
theorem sX11_hasMonthB (l : Launch) (dC : Nat → ClassId) (dI : Nat → Nat → Nat) (h0 : Nat) (am : Nat) (xr : Nat) (xs : Nat) (xf : Nat) (co : Nat) (oc : Nat) (ta : Nat) (xq : Nat) (xh : Nat) (xk : Nat) (xo : Nat) (x_outLength : Int32) (x_courtStands : Int32) (x_courtNews : Int32) (x_tallyStands : Int32) (x_historyStands : Int32) (amonths : Int32) (afull : Int32) (alean : Int32) (alines : Int32) (ahasMoon : Int32) (amoonStart : Int32) (amoonStep : Int32) (aplaceCount : Int32) (areportCount : Int32) (adeedCount : Int32) (pl : Nat) (re : Nat) (de : Nat) (p1 : Int32) (p2 : Int32) (p3 : Int32) (gx_outLength : gi x_outLength 0 72) (gx_courtStands : gi x_courtStands 0 1) (gx_tallyStands : gi x_tallyStands 0 1) (gx_historyStands : gi x_historyStands 0 1) (gamonths : gi amonths 0 24) (gafull : gi afull 0 5) (galean : gi alean 0 5) (gahasMoon : gi ahasMoon 0 1) (gaplaceCount : gi aplaceCount 0 6) (gareportCount : gi areportCount 0 24) (gadeedCount : gi adeedCount 0 8) (gp2 : gi p2 0 1) (gp3 : gi p3 0 24) : Met l yX11_hasMonth (.code yX11_hasMonth cX11_hasMonth 4 (some .boolean) :: wsGA) ({ frames := 1, cells := 0, slots := 0, locals := 20 }) (va_Pc [.ref h0, .int p1, .int p2, .int p3] (fun U => va_P (dC, dI) vwCl [(h0, .inr (11, [.ref xr, .ref am, .ref xs, .ref xf, .ref co, .ref oc, .ref ta, .ref xq, .ref xh, .ref xk, .ref xo, .int x_outLength, .int x_courtStands, .int x_courtNews, .int x_tallyStands, .int x_historyStands])), (am, .inr (0, [.int amonths, .int afull, .int alean, .int alines, .int ahasMoon, .int amoonStart, .int amoonStep, .int aplaceCount, .int areportCount, .int adeedCount, .ref pl, .ref re, .ref de]))] U.heap ∧ va_K (dC, dI) vwCl [] U ∧ nzA U)) (va_Qi (fun (r : Int32) (u : Unit) => gi r 0 1 ∧ (r.toInt = 1 → gi p1 0 24)) (fun _ _ => True) (fun _ => False)) 0 0 (fun _ => False) := by
  refine Met.ofW (cc := cX11_hasMonth) (maxL := 4) (ret := (some .boolean)) (by decide) rfl ?_
  intro p e s m args below meth c s₁ B hml hv
  obtain ⟨rfl, hP, hK, hz⟩ := hv
  have hx := B.exec
  have hb := B.bytes
  have hr := B.returns
  have hts := atoms_spec (ws := (.code yX11_hasMonth cX11_hasMonth 4 (some .boolean) :: wsGA)) B.pre
  have hown : s.vm.findClass RX11 = some m.cls := findClass_of_methodNamed B.named
  have hlocks := B.notSynchronized
  have hS : va_S (fun _ => False) s.heap s.heap [] := va_S.rf
  have hl := lv_entry ([.ref h0, .int p1, .int p2, .int p3]) (n := 4) (Nat.le_of_ble_eq_true rfl)
  rw [lg_entry_eq]
  generalize (lg_sl ([.ref h0, .int p1, .int p2, .int p3]) ++ List.replicate (4 - (lg_sl ([.ref h0, .int p1, .int p2, .int p3])).length) Slot.unset).toArray = ls at hl ⊢
  have hl : lv_has ls 4 [(0, .ref h0), (1, .int p1), (2, .int p2), (3, .int p3)] := hl
  refine lv_aload_n hx hb dX11_hasMonth_0 rfl (lv_at hl 0 rfl) ?_
  have hPc := hP.sub (ws' := [(h0, .inr (11, [.ref xr, .ref am, .ref xs, .ref xf, .ref co, .ref oc, .ref ta, .ref xq, .ref xh, .ref xk, .ref xo, .int x_outLength, .int x_courtStands, .int x_courtNews, .int x_tallyStands, .int x_historyStands])), (am, .inr (0, [.int amonths, .int afull, .int alean, .int alines, .int ahasMoon, .int amoonStart, .int amoonStep, .int aplaceCount, .int areportCount, .int adeedCount, .ref pl, .ref re, .ref de]))]) [0, 1] rfl
  have hKc := hK.sub (tys' := []) [] rfl
  refine va_calli (va_runV (As := []) (rest := []) ⟨hx, hb, hml, hown, hts⟩ (sX11_isTold l dC dI h0 am xr xs xf co oc ta xq xh xk xo x_outLength x_courtStands x_courtNews x_tallyStands x_historyStands amonths afull alean alines ahasMoon amoonStart amoonStep aplaceCount areportCount adeedCount pl re de gx_outLength gx_courtStands gx_tallyStands gx_historyStands gamonths gafull galean gahasMoon gaplaceCount gareportCount gadeedCount) (cwV 0 hts (gz_gV mGA_412 mGA_413 mGA_414 mGA_1 mGA_415 goodGA) rfl rfl rfl (by decide +kernel) ⟨Nat.le_of_ble_eq_true rfl, Nat.le_of_ble_eq_true rfl⟩) ⟨fun a U g mk q => by obtain ⟨q0, qP, qK, qZ⟩ := q; exact ⟨q0, qP, va_K.moved (u := U) (U := U.calling g mk a) (Vm.Alike.refl U.vm) qK, nzA_same (u := U) (U := U.calling g mk a) rfl qZ⟩, va_recv hKc hPc (ci := 11) (q0 := 0) rfl rfl, fun U hU hW => ⟨rfl, by rw [hU]; exact hPc, va_K.moved hW.alike hKc, nzA_warm hW hz⟩⟩ rfl rfl hl.1 rfl (lv_room (Nat.le_of_ble_eq_true rfl)) dX11_hasMonth_1 ⟨Nat.zero_le _, Nat.zero_le _⟩) hS (fun q _ h => h.elim) (fun q h => h.elim) (fun r_11 u t H1 locs ht hvm hw hB hz1 hk1 hS => ?_)
  have hP := gz_keep hP hk1
  generalize H1 = H at hP hS ⊢
  have gr_11 : gi r_11 0 1 := hw
  refine lv_if_eq (tgt := 21) hx hb dX11_hasMonth_4 (by decide) (fun c_12 => ?_) (fun c_12 => ?_)
  · have g_13 : gi r_11 0 0 := gi_eq c_12 (gi_c 0 0 (by decide))
    refine lv_iconst (v := 0) hx hb dX11_hasMonth_21 (by decide) ?_
    exact W.zret (v := 0) hx hb hr (by decide) (fun t ht hW => ⟨⟨0, (), rfl, ⟨(gi_w (gi_c 0 0 (by decide)) (by decide)), (fun h => absurd h (by decide))⟩, trivial⟩, hS.F ht⟩) hS.2.2 dX11_hasMonth_22
  · have g_14 : gi r_11 1 1 := gi_ne_lo c_12 gr_11 (gi_c 0 0 (by decide)) (by decide)
    refine lv_iload_n hx hb dX11_hasMonth_7 rfl (lv_at hl 1 rfl) ?_
    refine lv_iload_n hx hb dX11_hasMonth_8 rfl (lv_at hl 2 rfl) ?_
    refine lv_icmp_lt (tgt := 21) hx hb dX11_hasMonth_9 (by decide) (fun c_15 => ?_) (fun c_15 => ?_)
    · have g_16 : gi p1 (-2147483648) 0 := gi_lt_l c_15 (gi_any p1) gp2 (by decide)
      refine lv_iconst (v := 0) hx hb dX11_hasMonth_21 (by decide) ?_
      exact W.zret (v := 0) hx hb hr (by decide) (fun t ht hW => ⟨⟨0, (), rfl, ⟨(gi_w (gi_c 0 0 (by decide)) (by decide)), (fun h => absurd h (by decide))⟩, trivial⟩, hS.F ht⟩) hS.2.2 dX11_hasMonth_22
    · have g_17 : gi p1 0 2147483647 := gi_le_r (Int32.not_lt.mp c_15) gp2 (gi_any p1)
      refine lv_iload_n hx hb dX11_hasMonth_12 rfl (lv_at hl 1 rfl) ?_
      refine lv_iload_n hx hb dX11_hasMonth_13 rfl (lv_at hl 3 rfl) ?_
      refine lv_icmp_gt (tgt := 21) hx hb dX11_hasMonth_14 (by decide) (fun c_18 => ?_) (fun c_18 => ?_)
      · have g_19 : gi p1 1 2147483647 := gi_lt_r c_18 gp3 g_17 (by decide)
        refine lv_iconst (v := 0) hx hb dX11_hasMonth_21 (by decide) ?_
        exact W.zret (v := 0) hx hb hr (by decide) (fun t ht hW => ⟨⟨0, (), rfl, ⟨(gi_w (gi_c 0 0 (by decide)) (by decide)), (fun h => absurd h (by decide))⟩, trivial⟩, hS.F ht⟩) hS.2.2 dX11_hasMonth_22
      · have g_20 : gi p1 0 24 := gi_le_l (Int32.not_lt.mp c_18) g_17 gp3
        refine lv_iconst (v := 1) hx hb dX11_hasMonth_17 (by decide) ?_
        refine lv_goto (tgt := 22) hx hb dX11_hasMonth_18 (by decide) ?_
        exact W.zret (v := 1) hx hb hr (by decide) (fun t ht hW => ⟨⟨1, (), rfl, ⟨(gi_w (gi_c 1 1 (by decide)) (by decide)), (fun _ => g_20)⟩, trivial⟩, hS.F ht⟩) hS.2.2 dX11_hasMonth_22
theorem dX11_hasDate_0 : decode cX11_hasDate 0 = .ok (.aload_n 0, 1) := by decide +kernel
theorem dX11_hasDate_1 : decode cX11_hasDate 1 = .ok (.iload_n 1, 1) := by decide +kernel
theorem dX11_hasDate_2 : decode cX11_hasDate 2 = .ok (.iconst 0, 1) := by decide +kernel
theorem dX11_hasDate_3 : decode cX11_hasDate 3 = .ok (.aload_n 0, 1) := by decide +kernel
theorem dX11_hasDate_4 : decode cX11_hasDate 4 = .ok (.getfield 19, 3) := by decide +kernel
theorem dX11_hasDate_7 : decode cX11_hasDate 7 = .ok (.getfield 120, 3) := by decide +kernel
theorem dX11_hasDate_10 : decode cX11_hasDate 10 = .ok (.iconst 1, 1) := by decide +kernel
theorem dX11_hasDate_11 : decode cX11_hasDate 11 = .ok (.isub, 1) := by decide +kernel
theorem dX11_hasDate_12 : decode cX11_hasDate 12 = .ok (.invokevirtual 209, 3) := by decide +kernel
theorem dX11_hasDate_15 : decode cX11_hasDate 15 = .ok (.ifCond .eq 18, 3) := by decide +kernel
theorem dX11_hasDate_18 : decode cX11_hasDate 18 = .ok (.iload_n 2, 1) := by decide +kernel
theorem dX11_hasDate_19 : decode cX11_hasDate 19 = .ok (.iconst 1, 1) := by decide +kernel
theorem dX11_hasDate_20 : decode cX11_hasDate 20 = .ok (.if_icmp .lt 13, 3) := by decide +kernel
theorem dX11_hasDate_23 : decode cX11_hasDate 23 = .ok (.iload_n 2, 1) := by decide +kernel
theorem dX11_hasDate_24 : decode cX11_hasDate 24 = .ok (.bipush 30, 2) := by decide +kernel
theorem dX11_hasDate_26 : decode cX11_hasDate 26 = .ok (.if_icmp .gt 7, 3) := by decide +kernel
theorem dX11_hasDate_29 : decode cX11_hasDate 29 = .ok (.iconst 1, 1) := by decide +kernel
theorem dX11_hasDate_30 : decode cX11_hasDate 30 = .ok (.goto 4, 3) := by decide +kernel
theorem dX11_hasDate_33 : decode cX11_hasDate 33 = .ok (.iconst 0, 1) := by decide +kernel
theorem dX11_hasDate_34 : decode cX11_hasDate 34 = .ok (.ireturn, 1) := by decide +kernel
set_option maxHeartbeats 4000000 in
set_option maxRecDepth 100000 in
theorem sX11_hasDate (l : Launch) (dC : Nat → ClassId) (dI : Nat → Nat → Nat) (h0 : Nat) (am : Nat) (xr : Nat) (xs : Nat) (xf : Nat) (co : Nat) (oc : Nat) (ta : Nat) (xq : Nat) (xh : Nat) (xk : Nat) (xo : Nat) (x_outLength : Int32) (x_courtStands : Int32) (x_courtNews : Int32) (x_tallyStands : Int32) (x_historyStands : Int32) (amonths : Int32) (afull : Int32) (alean : Int32) (alines : Int32) (ahasMoon : Int32) (amoonStart : Int32) (amoonStep : Int32) (aplaceCount : Int32) (areportCount : Int32) (adeedCount : Int32) (pl : Nat) (re : Nat) (de : Nat) (p1 : Int32) (p2 : Int32) (gx_outLength : gi x_outLength 0 72) (gx_courtStands : gi x_courtStands 0 1) (gx_tallyStands : gi x_tallyStands 0 1) (gx_historyStands : gi x_historyStands 0 1) (gamonths : gi amonths 0 24) (gafull : gi afull 0 5) (galean : gi alean 0 5) (gahasMoon : gi ahasMoon 0 1) (gaplaceCount : gi aplaceCount 0 6) (gareportCount : gi areportCount 0 24) (gadeedCount : gi adeedCount 0 8) : Met l yX11_hasDate (.code yX11_hasDate cX11_hasDate 3 (some .boolean) :: wsGA) ({ frames := 2, cells := 0, slots := 0, locals := 43 }) (va_Pc [.ref h0, .int p1, .int p2] (fun U => va_P (dC, dI) vwCl [(h0, .inr (11, [.ref xr, .ref am, .ref xs, .ref xf, .ref co, .ref oc, .ref ta, .ref xq, .ref xh, .ref xk, .ref xo, .int x_outLength, .int x_courtStands, .int x_courtNews, .int x_tallyStands, .int x_historyStands])), (am, .inr (0, [.int amonths, .int afull, .int alean, .int alines, .int ahasMoon, .int amoonStart, .int amoonStep, .int aplaceCount, .int areportCount, .int adeedCount, .ref pl, .ref re, .ref de]))] U.heap ∧ va_K (dC, dI) vwCl [] U ∧ nzA U)) (va_Qi (fun (r : Int32) (u : Unit) => gi r 0 1 ∧ (r.toInt = 1 → gi p1 0 23 ∧ gi p2 1 30)) (fun _ _ => True) (fun _ => False)) 0 0 (fun _ => False) := by
  refine Met.ofW (cc := cX11_hasDate) (maxL := 3) (ret := (some .boolean)) (by decide) rfl ?_
  intro p e s m args below meth c s₁ B hml hv
  obtain ⟨rfl, hP, hK, hz⟩ := hv
  have hx := B.exec
  have hb := B.bytes
  have hr := B.returns
  have hts := atoms_spec (ws := (.code yX11_hasDate cX11_hasDate 3 (some .boolean) :: wsGA)) B.pre
  have hown : s.vm.findClass RX11 = some m.cls := findClass_of_methodNamed B.named
  have hlocks := B.notSynchronized
  have hS : va_S (fun _ => False) s.heap s.heap [] := va_S.rf
  have hl := lv_entry ([.ref h0, .int p1, .int p2]) (n := 3) (Nat.le_of_ble_eq_true rfl)
  rw [lg_entry_eq]
  generalize (lg_sl ([.ref h0, .int p1, .int p2]) ++ List.replicate (3 - (lg_sl ([.ref h0, .int p1, .int p2])).length) Slot.unset).toArray = ls at hl ⊢
  have hl : lv_has ls 3 [(0, .ref h0), (1, .int p1), (2, .int p2)] := hl
  refine lv_aload_n hx hb dX11_hasDate_0 rfl (lv_at hl 0 rfl) ?_
  refine lv_iload_n hx hb dX11_hasDate_1 rfl (lv_at hl 1 rfl) ?_
  refine lv_iconst (v := 0) hx hb dX11_hasDate_2 (by decide) ?_
  refine lv_aload_n hx hb dX11_hasDate_3 rfl (lv_at hl 0 rfl) ?_
  refine va_get (D := (dC, dI)) (ci := 11) (v := .ref am) (C := RX11) (T := TX11) (N := 16) hx hb hts (fun w h => List.mem_cons_of_mem _ (jnGA_X11 w h)) hown hK hP 0 rfl rfl 1 (by decide) (hts _ (List.mem_cons_of_mem _ mGA_14)) (fun _ h9 => h9) rfl dX11_hasDate_4 ?_
  refine va_get (D := (dC, dI)) (ci := 0) (v := .int amonths) (C := RX0) (T := TX0) (N := 13) hx hb hts (fun w h => List.mem_cons_of_mem _ (jnGA_X0 w h)) hown hK hP 1 rfl rfl 0 (by decide) (hts _ (List.mem_cons_of_mem _ mGA_353)) (fun _ h9 => h9) rfl dX11_hasDate_7 ?_
  refine lv_iconst (v := 1) hx hb dX11_hasDate_10 (by decide) ?_
  refine lv_isub hx hb dX11_hasDate_11 ?_
  refine lv_topi (fun x_13 ex_13 => ?_)
  have gx_13 : gi x_13 (-1) 23 := gi_sub ex_13 gamonths (gi_c 1 1 (by decide)) (by decide)
  have hPc := hP.sub (ws' := [(h0, .inr (11, [.ref xr, .ref am, .ref xs, .ref xf, .ref co, .ref oc, .ref ta, .ref xq, .ref xh, .ref xk, .ref xo, .int x_outLength, .int x_courtStands, .int x_courtNews, .int x_tallyStands, .int x_historyStands])), (am, .inr (0, [.int amonths, .int afull, .int alean, .int alines, .int ahasMoon, .int amoonStart, .int amoonStep, .int aplaceCount, .int areportCount, .int adeedCount, .ref pl, .ref re, .ref de]))]) [0, 1] rfl
  have hKc := hK.sub (tys' := []) [] rfl
  refine va_calli (va_runV (As := [.int p1, .int 0, .int x_13]) (rest := []) ⟨hx, hb, hml, hown, hts⟩ (sX11_hasMonthA l dC dI h0 am xr xs xf co oc ta xq xh xk xo x_outLength x_courtStands x_courtNews x_tallyStands x_historyStands amonths afull alean alines ahasMoon amoonStart amoonStep aplaceCount areportCount adeedCount pl re de p1 0 x_13 gx_outLength gx_courtStands gx_tallyStands gx_historyStands gamonths gafull galean gahasMoon gaplaceCount gareportCount gadeedCount (gi_w (gi_c 0 0 (by decide)) (by decide)) gx_13) (cwV 3 hts (gz_gV mGA_408 mGA_409 mGA_410 mGA_1 mGA_411 goodGA) rfl rfl rfl (by decide +kernel) ⟨Nat.le_of_ble_eq_true rfl, Nat.le_of_ble_eq_true rfl⟩) ⟨fun a U g mk q => by obtain ⟨q0, qP, qK, qZ⟩ := q; exact ⟨q0, qP, va_K.moved (u := U) (U := U.calling g mk a) (Vm.Alike.refl U.vm) qK, nzA_same (u := U) (U := U.calling g mk a) rfl qZ⟩, va_recv hKc hPc (ci := 11) (q0 := 0) rfl rfl, fun U hU hW => ⟨rfl, by rw [hU]; exact hPc, va_K.moved hW.alike hKc, nzA_warm hW hz⟩⟩ rfl rfl hl.1 rfl (lv_room (Nat.le_of_ble_eq_true rfl)) dX11_hasDate_12 ⟨Nat.zero_le _, Nat.zero_le _⟩) hS (fun q _ h => h.elim) (fun q h => h.elim) (fun r_14 u t H1 locs ht hvm hw hB hz1 hk1 hS => ?_)
  have hP := gz_keep hP hk1
  generalize H1 = H at hP hS ⊢
  have gr_14 : gi r_14 0 1 := hw.1
  have hqr_14 := hw.2
  refine lv_if_eq (tgt := 33) hx hb dX11_hasDate_15 (by decide) (fun c_15 => ?_) (fun c_15 => ?_)
  · have g_16 : gi r_14 0 0 := gi_eq c_15 (gi_c 0 0 (by decide))
    refine lv_iconst (v := 0) hx hb dX11_hasDate_33 (by decide) ?_
    exact W.zret (v := 0) hx hb hr (by decide) (fun t ht hW => ⟨⟨0, (), rfl, ⟨(gi_w (gi_c 0 0 (by decide)) (by decide)), (fun h => absurd h (by decide))⟩, trivial⟩, hS.F ht⟩) hS.2.2 dX11_hasDate_34
  · have g_17 : gi r_14 1 1 := gi_ne_lo c_15 gr_14 (gi_c 0 0 (by decide)) (by decide)
    have g_18 : gi p1 0 23 := gi_cap (gi_any p1) (hqr_14 (gz_one g_17)) (by decide)
    refine lv_iload_n hx hb dX11_hasDate_18 rfl (lv_at hl 2 rfl) ?_
    refine lv_iconst (v := 1) hx hb dX11_hasDate_19 (by decide) ?_
    refine lv_icmp_lt (tgt := 33) hx hb dX11_hasDate_20 (by decide) (fun c_19 => ?_) (fun c_19 => ?_)
    · have g_20 : gi p2 (-2147483648) 0 := gi_lt_l c_19 (gi_any p2) (gi_c 1 1 (by decide)) (by decide)
      refine lv_iconst (v := 0) hx hb dX11_hasDate_33 (by decide) ?_
      exact W.zret (v := 0) hx hb hr (by decide) (fun t ht hW => ⟨⟨0, (), rfl, ⟨(gi_w (gi_c 0 0 (by decide)) (by decide)), (fun h => absurd h (by decide))⟩, trivial⟩, hS.F ht⟩) hS.2.2 dX11_hasDate_34
    · have g_21 : gi p2 1 2147483647 := gi_le_r (Int32.not_lt.mp c_19) (gi_c 1 1 (by decide)) (gi_any p2)
      refine lv_iload_n hx hb dX11_hasDate_23 rfl (lv_at hl 2 rfl) ?_
      refine lv_bipush (v := 30) hx hb dX11_hasDate_24 (by decide) ?_
      refine lv_icmp_gt (tgt := 33) hx hb dX11_hasDate_26 (by decide) (fun c_22 => ?_) (fun c_22 => ?_)
      · have g_23 : gi p2 31 2147483647 := gi_lt_r c_22 (gi_c 30 30 (by decide)) g_21 (by decide)
        refine lv_iconst (v := 0) hx hb dX11_hasDate_33 (by decide) ?_
        exact W.zret (v := 0) hx hb hr (by decide) (fun t ht hW => ⟨⟨0, (), rfl, ⟨(gi_w (gi_c 0 0 (by decide)) (by decide)), (fun h => absurd h (by decide))⟩, trivial⟩, hS.F ht⟩) hS.2.2 dX11_hasDate_34
      · have g_24 : gi p2 1 30 := gi_le_l (Int32.not_lt.mp c_22) g_21 (gi_c 30 30 (by decide))
        refine lv_iconst (v := 1) hx hb dX11_hasDate_29 (by decide) ?_
        refine lv_goto (tgt := 34) hx hb dX11_hasDate_30 (by decide) ?_
        exact W.zret (v := 1) hx hb hr (by decide) (fun t ht hW => ⟨⟨1, (), rfl, ⟨(gi_w (gi_c 1 1 (by decide)) (by decide)), (fun _ => ⟨g_18, g_24⟩)⟩, trivial⟩, hS.F ht⟩) hS.2.2 dX11_hasDate_34
theorem dX11_hasPlace_0 : decode cX11_hasPlace 0 = .ok (.iload_n 1, 1) := by decide +kernel
theorem dX11_hasPlace_1 : decode cX11_hasPlace 1 = .ok (.ifCond .lt 18, 3) := by decide +kernel
theorem dX11_hasPlace_4 : decode cX11_hasPlace 4 = .ok (.iload_n 1, 1) := by decide +kernel
theorem dX11_hasPlace_5 : decode cX11_hasPlace 5 = .ok (.aload_n 0, 1) := by decide +kernel
theorem dX11_hasPlace_6 : decode cX11_hasPlace 6 = .ok (.getfield 19, 3) := by decide +kernel
theorem dX11_hasPlace_9 : decode cX11_hasPlace 9 = .ok (.getfield 129, 3) := by decide +kernel
theorem dX11_hasPlace_12 : decode cX11_hasPlace 12 = .ok (.if_icmp .ge 7, 3) := by decide +kernel
theorem dX11_hasPlace_15 : decode cX11_hasPlace 15 = .ok (.iconst 1, 1) := by decide +kernel
theorem dX11_hasPlace_16 : decode cX11_hasPlace 16 = .ok (.goto 4, 3) := by decide +kernel
theorem dX11_hasPlace_19 : decode cX11_hasPlace 19 = .ok (.iconst 0, 1) := by decide +kernel
theorem dX11_hasPlace_20 : decode cX11_hasPlace 20 = .ok (.ireturn, 1) := by decide +kernel
set_option maxHeartbeats 4000000 in
set_option maxRecDepth 100000 in
theorem sX11_hasPlace (l : Launch) (dC : Nat → ClassId) (dI : Nat → Nat → Nat) (h0 : Nat) (am : Nat) (xr : Nat) (xs : Nat) (xf : Nat) (co : Nat) (oc : Nat) (ta : Nat) (xq : Nat) (xh : Nat) (xk : Nat) (xo : Nat) (x_outLength : Int32) (x_courtStands : Int32) (x_courtNews : Int32) (x_tallyStands : Int32) (x_historyStands : Int32) (amonths : Int32) (afull : Int32) (alean : Int32) (alines : Int32) (ahasMoon : Int32) (amoonStart : Int32) (amoonStep : Int32) (aplaceCount : Int32) (areportCount : Int32) (adeedCount : Int32) (pl : Nat) (re : Nat) (de : Nat) (p1 : Int32) (gx_outLength : gi x_outLength 0 72) (gx_courtStands : gi x_courtStands 0 1) (gx_tallyStands : gi x_tallyStands 0 1) (gx_historyStands : gi x_historyStands 0 1) (gamonths : gi amonths 0 24) (gafull : gi afull 0 5) (galean : gi alean 0 5) (gahasMoon : gi ahasMoon 0 1) (gaplaceCount : gi aplaceCount 0 6) (gareportCount : gi areportCount 0 24) (gadeedCount : gi adeedCount 0 8) : Met l yX11_hasPlace (.code yX11_hasPlace cX11_hasPlace 2 (some .boolean) :: wsGA) ({ frames := 0, cells := 0, slots := 0, locals := 0 }) (va_Pc [.ref h0, .int p1] (fun U => va_P (dC, dI) vwCl [(h0, .inr (11, [.ref xr, .ref am, .ref xs, .ref xf, .ref co, .ref oc, .ref ta, .ref xq, .ref xh, .ref xk, .ref xo, .int x_outLength, .int x_courtStands, .int x_courtNews, .int x_tallyStands, .int x_historyStands])), (am, .inr (0, [.int amonths, .int afull, .int alean, .int alines, .int ahasMoon, .int amoonStart, .int amoonStep, .int aplaceCount, .int areportCount, .int adeedCount, .ref pl, .ref re, .ref de]))] U.heap ∧ va_K (dC, dI) vwCl [] U ∧ nzA U)) (va_Qi (fun (r : Int32) (u : Unit) => gi r 0 1 ∧ (r.toInt = 1 → gi p1 0 5)) (fun _ _ => True) (fun _ => False)) 0 0 (fun _ => False) := by
  refine Met.ofW (cc := cX11_hasPlace) (maxL := 2) (ret := (some .boolean)) (by decide) rfl ?_
  intro p e s m args below meth c s₁ B hml hv
  obtain ⟨rfl, hP, hK, hz⟩ := hv
  have hx := B.exec
  have hb := B.bytes
  have hr := B.returns
  have hts := atoms_spec (ws := (.code yX11_hasPlace cX11_hasPlace 2 (some .boolean) :: wsGA)) B.pre
  have hown : s.vm.findClass RX11 = some m.cls := findClass_of_methodNamed B.named
  have hlocks := B.notSynchronized
  have hS : va_S (fun _ => False) s.heap s.heap [] := va_S.rf
  have hl := lv_entry ([.ref h0, .int p1]) (n := 2) (Nat.le_of_ble_eq_true rfl)
  rw [lg_entry_eq]
  generalize (lg_sl ([.ref h0, .int p1]) ++ List.replicate (2 - (lg_sl ([.ref h0, .int p1])).length) Slot.unset).toArray = ls at hl ⊢
  have hl : lv_has ls 2 [(0, .ref h0), (1, .int p1)] := hl
  refine lv_iload_n hx hb dX11_hasPlace_0 rfl (lv_at hl 1 rfl) ?_
  refine lv_if_lt (tgt := 19) hx hb dX11_hasPlace_1 (by decide) (fun c_7 => ?_) (fun c_7 => ?_)
  · have g_8 : gi p1 (-2147483648) (-1) := gi_lt_l c_7 (gi_any p1) (gi_c 0 0 (by decide)) (by decide)
    refine lv_iconst (v := 0) hx hb dX11_hasPlace_19 (by decide) ?_
    exact W.zret (v := 0) hx hb hr (by decide) (fun t ht hW => ⟨⟨0, (), rfl, ⟨(gi_w (gi_c 0 0 (by decide)) (by decide)), (fun h => absurd h (by decide))⟩, trivial⟩, hS.F ht⟩) hS.2.2 dX11_hasPlace_20
  · have g_9 : gi p1 0 2147483647 := gi_le_r (Int32.not_lt.mp c_7) (gi_c 0 0 (by decide)) (gi_any p1)
    refine lv_iload_n hx hb dX11_hasPlace_4 rfl (lv_at hl 1 rfl) ?_
    refine lv_aload_n hx hb dX11_hasPlace_5 rfl (lv_at hl 0 rfl) ?_
    refine va_get (D := (dC, dI)) (ci := 11) (v := .ref am) (C := RX11) (T := TX11) (N := 16) hx hb hts (fun w h => List.mem_cons_of_mem _ (jnGA_X11 w h)) hown hK hP 0 rfl rfl 1 (by decide) (hts _ (List.mem_cons_of_mem _ mGA_14)) (fun _ h9 => h9) rfl dX11_hasPlace_6 ?_
    refine va_get (D := (dC, dI)) (ci := 0) (v := .int aplaceCount) (C := RX0) (T := TX0) (N := 13) hx hb hts (fun w h => List.mem_cons_of_mem _ (jnGA_X0 w h)) hown hK hP 1 rfl rfl 7 (by decide) (hts _ (List.mem_cons_of_mem _ mGA_356)) (fun _ h9 => h9) rfl dX11_hasPlace_9 ?_
    refine lv_icmp_ge (tgt := 19) hx hb dX11_hasPlace_12 (by decide) (fun c_10 => ?_) (fun c_10 => ?_)
    · refine lv_iconst (v := 0) hx hb dX11_hasPlace_19 (by decide) ?_
      exact W.zret (v := 0) hx hb hr (by decide) (fun t ht hW => ⟨⟨0, (), rfl, ⟨(gi_w (gi_c 0 0 (by decide)) (by decide)), (fun h => absurd h (by decide))⟩, trivial⟩, hS.F ht⟩) hS.2.2 dX11_hasPlace_20
    · have g_11 : gi p1 0 5 := gi_lt_l (Int32.not_le.mp c_10) g_9 gaplaceCount (by decide)
      have g_12 : gi aplaceCount 1 6 := gi_lt_r (Int32.not_le.mp c_10) g_9 gaplaceCount (by decide)
      refine lv_iconst (v := 1) hx hb dX11_hasPlace_15 (by decide) ?_
      refine lv_goto (tgt := 20) hx hb dX11_hasPlace_16 (by decide) ?_
      exact W.zret (v := 1) hx hb hr (by decide) (fun t ht hW => ⟨⟨1, (), rfl, ⟨(gi_w (gi_c 1 1 (by decide)) (by decide)), (fun _ => g_11)⟩, trivial⟩, hS.F ht⟩) hS.2.2 dX11_hasPlace_20
theorem dX11_hasReport_0 : decode cX11_hasReport 0 = .ok (.iload_n 1, 1) := by decide +kernel
theorem dX11_hasReport_1 : decode cX11_hasReport 1 = .ok (.ifCond .lt 18, 3) := by decide +kernel
theorem dX11_hasReport_4 : decode cX11_hasReport 4 = .ok (.iload_n 1, 1) := by decide +kernel
theorem dX11_hasReport_5 : decode cX11_hasReport 5 = .ok (.aload_n 0, 1) := by decide +kernel
theorem dX11_hasReport_6 : decode cX11_hasReport 6 = .ok (.getfield 19, 3) := by decide +kernel
theorem dX11_hasReport_9 : decode cX11_hasReport 9 = .ok (.getfield 132, 3) := by decide +kernel
theorem dX11_hasReport_12 : decode cX11_hasReport 12 = .ok (.if_icmp .ge 7, 3) := by decide +kernel
theorem dX11_hasReport_15 : decode cX11_hasReport 15 = .ok (.iconst 1, 1) := by decide +kernel
theorem dX11_hasReport_16 : decode cX11_hasReport 16 = .ok (.goto 4, 3) := by decide +kernel
theorem dX11_hasReport_19 : decode cX11_hasReport 19 = .ok (.iconst 0, 1) := by decide +kernel
theorem dX11_hasReport_20 : decode cX11_hasReport 20 = .ok (.ireturn, 1) := by decide +kernel
set_option maxHeartbeats 4000000 in
set_option maxRecDepth 100000 in
theorem sX11_hasReport (l : Launch) (dC : Nat → ClassId) (dI : Nat → Nat → Nat) (h0 : Nat) (am : Nat) (xr : Nat) (xs : Nat) (xf : Nat) (co : Nat) (oc : Nat) (ta : Nat) (xq : Nat) (xh : Nat) (xk : Nat) (xo : Nat) (x_outLength : Int32) (x_courtStands : Int32) (x_courtNews : Int32) (x_tallyStands : Int32) (x_historyStands : Int32) (amonths : Int32) (afull : Int32) (alean : Int32) (alines : Int32) (ahasMoon : Int32) (amoonStart : Int32) (amoonStep : Int32) (aplaceCount : Int32) (areportCount : Int32) (adeedCount : Int32) (pl : Nat) (re : Nat) (de : Nat) (p1 : Int32) (gx_outLength : gi x_outLength 0 72) (gx_courtStands : gi x_courtStands 0 1) (gx_tallyStands : gi x_tallyStands 0 1) (gx_historyStands : gi x_historyStands 0 1) (gamonths : gi amonths 0 24) (gafull : gi afull 0 5) (galean : gi alean 0 5) (gahasMoon : gi ahasMoon 0 1) (gaplaceCount : gi aplaceCount 0 6) (gareportCount : gi areportCount 0 24) (gadeedCount : gi adeedCount 0 8) : Met l yX11_hasReport (.code yX11_hasReport cX11_hasReport 2 (some .boolean) :: wsGA) ({ frames := 0, cells := 0, slots := 0, locals := 0 }) (va_Pc [.ref h0, .int p1] (fun U => va_P (dC, dI) vwCl [(h0, .inr (11, [.ref xr, .ref am, .ref xs, .ref xf, .ref co, .ref oc, .ref ta, .ref xq, .ref xh, .ref xk, .ref xo, .int x_outLength, .int x_courtStands, .int x_courtNews, .int x_tallyStands, .int x_historyStands])), (am, .inr (0, [.int amonths, .int afull, .int alean, .int alines, .int ahasMoon, .int amoonStart, .int amoonStep, .int aplaceCount, .int areportCount, .int adeedCount, .ref pl, .ref re, .ref de]))] U.heap ∧ va_K (dC, dI) vwCl [] U ∧ nzA U)) (va_Qi (fun (r : Int32) (u : Unit) => gi r 0 1 ∧ (r.toInt = 1 → gi p1 0 23)) (fun _ _ => True) (fun _ => False)) 0 0 (fun _ => False) := by
  refine Met.ofW (cc := cX11_hasReport) (maxL := 2) (ret := (some .boolean)) (by decide) rfl ?_
  intro p e s m args below meth c s₁ B hml hv
  obtain ⟨rfl, hP, hK, hz⟩ := hv
  have hx := B.exec
  have hb := B.bytes
  have hr := B.returns
  have hts := atoms_spec (ws := (.code yX11_hasReport cX11_hasReport 2 (some .boolean) :: wsGA)) B.pre
  have hown : s.vm.findClass RX11 = some m.cls := findClass_of_methodNamed B.named
  have hlocks := B.notSynchronized
  have hS : va_S (fun _ => False) s.heap s.heap [] := va_S.rf
  have hl := lv_entry ([.ref h0, .int p1]) (n := 2) (Nat.le_of_ble_eq_true rfl)
  rw [lg_entry_eq]
  generalize (lg_sl ([.ref h0, .int p1]) ++ List.replicate (2 - (lg_sl ([.ref h0, .int p1])).length) Slot.unset).toArray = ls at hl ⊢
  have hl : lv_has ls 2 [(0, .ref h0), (1, .int p1)] := hl
  refine lv_iload_n hx hb dX11_hasReport_0 rfl (lv_at hl 1 rfl) ?_
  refine lv_if_lt (tgt := 19) hx hb dX11_hasReport_1 (by decide) (fun c_7 => ?_) (fun c_7 => ?_)
  · have g_8 : gi p1 (-2147483648) (-1) := gi_lt_l c_7 (gi_any p1) (gi_c 0 0 (by decide)) (by decide)
    refine lv_iconst (v := 0) hx hb dX11_hasReport_19 (by decide) ?_
    exact W.zret (v := 0) hx hb hr (by decide) (fun t ht hW => ⟨⟨0, (), rfl, ⟨(gi_w (gi_c 0 0 (by decide)) (by decide)), (fun h => absurd h (by decide))⟩, trivial⟩, hS.F ht⟩) hS.2.2 dX11_hasReport_20
  · have g_9 : gi p1 0 2147483647 := gi_le_r (Int32.not_lt.mp c_7) (gi_c 0 0 (by decide)) (gi_any p1)
    refine lv_iload_n hx hb dX11_hasReport_4 rfl (lv_at hl 1 rfl) ?_
    refine lv_aload_n hx hb dX11_hasReport_5 rfl (lv_at hl 0 rfl) ?_
    refine va_get (D := (dC, dI)) (ci := 11) (v := .ref am) (C := RX11) (T := TX11) (N := 16) hx hb hts (fun w h => List.mem_cons_of_mem _ (jnGA_X11 w h)) hown hK hP 0 rfl rfl 1 (by decide) (hts _ (List.mem_cons_of_mem _ mGA_14)) (fun _ h9 => h9) rfl dX11_hasReport_6 ?_
    refine va_get (D := (dC, dI)) (ci := 0) (v := .int areportCount) (C := RX0) (T := TX0) (N := 13) hx hb hts (fun w h => List.mem_cons_of_mem _ (jnGA_X0 w h)) hown hK hP 1 rfl rfl 8 (by decide) (hts _ (List.mem_cons_of_mem _ mGA_357)) (fun _ h9 => h9) rfl dX11_hasReport_9 ?_
    refine lv_icmp_ge (tgt := 19) hx hb dX11_hasReport_12 (by decide) (fun c_10 => ?_) (fun c_10 => ?_)
    · refine lv_iconst (v := 0) hx hb dX11_hasReport_19 (by decide) ?_
      exact W.zret (v := 0) hx hb hr (by decide) (fun t ht hW => ⟨⟨0, (), rfl, ⟨(gi_w (gi_c 0 0 (by decide)) (by decide)), (fun h => absurd h (by decide))⟩, trivial⟩, hS.F ht⟩) hS.2.2 dX11_hasReport_20
    · have g_11 : gi p1 0 23 := gi_lt_l (Int32.not_le.mp c_10) g_9 gareportCount (by decide)
      have g_12 : gi areportCount 1 24 := gi_lt_r (Int32.not_le.mp c_10) g_9 gareportCount (by decide)
      refine lv_iconst (v := 1) hx hb dX11_hasReport_15 (by decide) ?_
      refine lv_goto (tgt := 20) hx hb dX11_hasReport_16 (by decide) ?_
      exact W.zret (v := 1) hx hb hr (by decide) (fun t ht hW => ⟨⟨1, (), rfl, ⟨(gi_w (gi_c 1 1 (by decide)) (by decide)), (fun _ => g_11)⟩, trivial⟩, hS.F ht⟩) hS.2.2 dX11_hasReport_20
theorem dX11_hasDeed_0 : decode cX11_hasDeed 0 = .ok (.iload_n 1, 1) := by decide +kernel
theorem dX11_hasDeed_1 : decode cX11_hasDeed 1 = .ok (.ifCond .lt 18, 3) := by decide +kernel
theorem dX11_hasDeed_4 : decode cX11_hasDeed 4 = .ok (.iload_n 1, 1) := by decide +kernel
theorem dX11_hasDeed_5 : decode cX11_hasDeed 5 = .ok (.aload_n 0, 1) := by decide +kernel
theorem dX11_hasDeed_6 : decode cX11_hasDeed 6 = .ok (.getfield 19, 3) := by decide +kernel
theorem dX11_hasDeed_9 : decode cX11_hasDeed 9 = .ok (.getfield 135, 3) := by decide +kernel
theorem dX11_hasDeed_12 : decode cX11_hasDeed 12 = .ok (.if_icmp .ge 7, 3) := by decide +kernel
theorem dX11_hasDeed_15 : decode cX11_hasDeed 15 = .ok (.iconst 1, 1) := by decide +kernel
theorem dX11_hasDeed_16 : decode cX11_hasDeed 16 = .ok (.goto 4, 3) := by decide +kernel
theorem dX11_hasDeed_19 : decode cX11_hasDeed 19 = .ok (.iconst 0, 1) := by decide +kernel
theorem dX11_hasDeed_20 : decode cX11_hasDeed 20 = .ok (.ireturn, 1) := by decide +kernel
set_option maxHeartbeats 4000000 in
set_option maxRecDepth 100000 in
theorem sX11_hasDeed (l : Launch) (dC : Nat → ClassId) (dI : Nat → Nat → Nat) (h0 : Nat) (am : Nat) (xr : Nat) (xs : Nat) (xf : Nat) (co : Nat) (oc : Nat) (ta : Nat) (xq : Nat) (xh : Nat) (xk : Nat) (xo : Nat) (x_outLength : Int32) (x_courtStands : Int32) (x_courtNews : Int32) (x_tallyStands : Int32) (x_historyStands : Int32) (amonths : Int32) (afull : Int32) (alean : Int32) (alines : Int32) (ahasMoon : Int32) (amoonStart : Int32) (amoonStep : Int32) (aplaceCount : Int32) (areportCount : Int32) (adeedCount : Int32) (pl : Nat) (re : Nat) (de : Nat) (p1 : Int32) (gx_outLength : gi x_outLength 0 72) (gx_courtStands : gi x_courtStands 0 1) (gx_tallyStands : gi x_tallyStands 0 1) (gx_historyStands : gi x_historyStands 0 1) (gamonths : gi amonths 0 24) (gafull : gi afull 0 5) (galean : gi alean 0 5) (gahasMoon : gi ahasMoon 0 1) (gaplaceCount : gi aplaceCount 0 6) (gareportCount : gi areportCount 0 24) (gadeedCount : gi adeedCount 0 8) : Met l yX11_hasDeed (.code yX11_hasDeed cX11_hasDeed 2 (some .boolean) :: wsGA) ({ frames := 0, cells := 0, slots := 0, locals := 0 }) (va_Pc [.ref h0, .int p1] (fun U => va_P (dC, dI) vwCl [(h0, .inr (11, [.ref xr, .ref am, .ref xs, .ref xf, .ref co, .ref oc, .ref ta, .ref xq, .ref xh, .ref xk, .ref xo, .int x_outLength, .int x_courtStands, .int x_courtNews, .int x_tallyStands, .int x_historyStands])), (am, .inr (0, [.int amonths, .int afull, .int alean, .int alines, .int ahasMoon, .int amoonStart, .int amoonStep, .int aplaceCount, .int areportCount, .int adeedCount, .ref pl, .ref re, .ref de]))] U.heap ∧ va_K (dC, dI) vwCl [] U ∧ nzA U)) (va_Qi (fun (r : Int32) (u : Unit) => gi r 0 1 ∧ (r.toInt = 1 → gi p1 0 7)) (fun _ _ => True) (fun _ => False)) 0 0 (fun _ => False) := by
  refine Met.ofW (cc := cX11_hasDeed) (maxL := 2) (ret := (some .boolean)) (by decide) rfl ?_
  intro p e s m args below meth c s₁ B hml hv
  obtain ⟨rfl, hP, hK, hz⟩ := hv
  have hx := B.exec
  have hb := B.bytes
  have hr := B.returns
  have hts := atoms_spec (ws := (.code yX11_hasDeed cX11_hasDeed 2 (some .boolean) :: wsGA)) B.pre
  have hown : s.vm.findClass RX11 = some m.cls := findClass_of_methodNamed B.named
  have hlocks := B.notSynchronized
  have hS : va_S (fun _ => False) s.heap s.heap [] := va_S.rf
  have hl := lv_entry ([.ref h0, .int p1]) (n := 2) (Nat.le_of_ble_eq_true rfl)
  rw [lg_entry_eq]
  generalize (lg_sl ([.ref h0, .int p1]) ++ List.replicate (2 - (lg_sl ([.ref h0, .int p1])).length) Slot.unset).toArray = ls at hl ⊢
  have hl : lv_has ls 2 [(0, .ref h0), (1, .int p1)] := hl
  refine lv_iload_n hx hb dX11_hasDeed_0 rfl (lv_at hl 1 rfl) ?_
  refine lv_if_lt (tgt := 19) hx hb dX11_hasDeed_1 (by decide) (fun c_7 => ?_) (fun c_7 => ?_)
  · have g_8 : gi p1 (-2147483648) (-1) := gi_lt_l c_7 (gi_any p1) (gi_c 0 0 (by decide)) (by decide)
    refine lv_iconst (v := 0) hx hb dX11_hasDeed_19 (by decide) ?_
    exact W.zret (v := 0) hx hb hr (by decide) (fun t ht hW => ⟨⟨0, (), rfl, ⟨(gi_w (gi_c 0 0 (by decide)) (by decide)), (fun h => absurd h (by decide))⟩, trivial⟩, hS.F ht⟩) hS.2.2 dX11_hasDeed_20
  · have g_9 : gi p1 0 2147483647 := gi_le_r (Int32.not_lt.mp c_7) (gi_c 0 0 (by decide)) (gi_any p1)
    refine lv_iload_n hx hb dX11_hasDeed_4 rfl (lv_at hl 1 rfl) ?_
    refine lv_aload_n hx hb dX11_hasDeed_5 rfl (lv_at hl 0 rfl) ?_
    refine va_get (D := (dC, dI)) (ci := 11) (v := .ref am) (C := RX11) (T := TX11) (N := 16) hx hb hts (fun w h => List.mem_cons_of_mem _ (jnGA_X11 w h)) hown hK hP 0 rfl rfl 1 (by decide) (hts _ (List.mem_cons_of_mem _ mGA_14)) (fun _ h9 => h9) rfl dX11_hasDeed_6 ?_
    refine va_get (D := (dC, dI)) (ci := 0) (v := .int adeedCount) (C := RX0) (T := TX0) (N := 13) hx hb hts (fun w h => List.mem_cons_of_mem _ (jnGA_X0 w h)) hown hK hP 1 rfl rfl 9 (by decide) (hts _ (List.mem_cons_of_mem _ mGA_358)) (fun _ h9 => h9) rfl dX11_hasDeed_9 ?_
    refine lv_icmp_ge (tgt := 19) hx hb dX11_hasDeed_12 (by decide) (fun c_10 => ?_) (fun c_10 => ?_)
    · refine lv_iconst (v := 0) hx hb dX11_hasDeed_19 (by decide) ?_
      exact W.zret (v := 0) hx hb hr (by decide) (fun t ht hW => ⟨⟨0, (), rfl, ⟨(gi_w (gi_c 0 0 (by decide)) (by decide)), (fun h => absurd h (by decide))⟩, trivial⟩, hS.F ht⟩) hS.2.2 dX11_hasDeed_20
    · have g_11 : gi p1 0 7 := gi_lt_l (Int32.not_le.mp c_10) g_9 gadeedCount (by decide)
      have g_12 : gi adeedCount 1 8 := gi_lt_r (Int32.not_le.mp c_10) g_9 gadeedCount (by decide)
      refine lv_iconst (v := 1) hx hb dX11_hasDeed_15 (by decide) ?_
      refine lv_goto (tgt := 20) hx hb dX11_hasDeed_16 (by decide) ?_
      exact W.zret (v := 1) hx hb hr (by decide) (fun t ht hW => ⟨⟨1, (), rfl, ⟨(gi_w (gi_c 1 1 (by decide)) (by decide)), (fun _ => g_11)⟩, trivial⟩, hS.F ht⟩) hS.2.2 dX11_hasDeed_20
theorem dX11_forget_0 : decode cX11_forget 0 = .ok (.aload_n 0, 1) := by decide +kernel
theorem dX11_forget_1 : decode cX11_forget 1 = .ok (.iconst 0, 1) := by decide +kernel
theorem dX11_forget_2 : decode cX11_forget 2 = .ok (.putfield 76, 3) := by decide +kernel
theorem dX11_forget_5 : decode cX11_forget 5 = .ok (.aload_n 0, 1) := by decide +kernel
theorem dX11_forget_6 : decode cX11_forget 6 = .ok (.iconst 0, 1) := by decide +kernel
theorem dX11_forget_7 : decode cX11_forget 7 = .ok (.putfield 83, 3) := by decide +kernel
theorem dX11_forget_10 : decode cX11_forget 10 = .ok (.aload_n 0, 1) := by decide +kernel
theorem dX11_forget_11 : decode cX11_forget 11 = .ok (.iconst 0, 1) := by decide +kernel
theorem dX11_forget_12 : decode cX11_forget 12 = .ok (.putfield 86, 3) := by decide +kernel
theorem dX11_forget_15 : decode cX11_forget 15 = .ok (.return_, 1) := by decide +kernel
set_option maxHeartbeats 4000000 in
set_option maxRecDepth 100000 in
theorem sX11_forget (l : Launch) (dC : Nat → ClassId) (dI : Nat → Nat → Nat) (sz : Nat) (h0 : Nat) (xr : Nat) (am : Nat) (xs : Nat) (xf : Nat) (co : Nat) (oc : Nat) (ta : Nat) (xq : Nat) (xh : Nat) (xk : Nat) (xo : Nat) (x_outLength : Int32) (x_courtStands : Int32) (x_courtNews : Int32) (x_tallyStands : Int32) (x_historyStands : Int32) (gx_outLength : gi x_outLength 0 72) (gx_courtStands : gi x_courtStands 0 1) (gx_tallyStands : gi x_tallyStands 0 1) (gx_historyStands : gi x_historyStands 0 1) : Met l yX11_forget (.code yX11_forget cX11_forget 1 none :: wsGA) ({ frames := 0, cells := 0, slots := 0, locals := 0 }) (va_Pc [.ref h0] (fun U => U.heap.size = sz ∧ va_P (dC, dI) vwCl [(h0, .inr (11, [.ref xr, .ref am, .ref xs, .ref xf, .ref co, .ref oc, .ref ta, .ref xq, .ref xh, .ref xk, .ref xo, .int x_outLength, .int x_courtStands, .int x_courtNews, .int x_tallyStands, .int x_historyStands]))] U.heap ∧ va_K (dC, dI) vwCl [] U ∧ va_D (fun _ => True) [(h0, .inr (11, [.ref xr, .ref am, .ref xs, .ref xf, .ref co, .ref oc, .ref ta, .ref xq, .ref xh, .ref xk, .ref xo, .int x_outLength, .int x_courtStands, .int x_courtNews, .int x_tallyStands, .int x_historyStands]))] ∧ nzA U)) (va_Qv (fun (u : Unit) => True) (fun _ t => ∃ (w0_12 : Int32) (w0_14 : Int32) (w0_15 : Int32), gi w0_12 0 1 ∧ gi w0_14 0 1 ∧ gi w0_15 0 1 ∧ va_P (dC, dI) vwCl [(h0, .inr (11, [.ref xr, .ref am, .ref xs, .ref xf, .ref co, .ref oc, .ref ta, .ref xq, .ref xh, .ref xk, .ref xo, .int x_outLength, .int w0_12, .int x_courtNews, .int w0_14, .int w0_15]))] t.heap ∧ va_D (va_A [(h0, .inr (11, [.ref xr, .ref am, .ref xs, .ref xf, .ref co, .ref oc, .ref ta, .ref xq, .ref xh, .ref xk, .ref xo, .int x_outLength, .int x_courtStands, .int x_courtNews, .int x_tallyStands, .int x_historyStands]))] sz) [(h0, .inr (11, [.ref xr, .ref am, .ref xs, .ref xf, .ref co, .ref oc, .ref ta, .ref xq, .ref xh, .ref xk, .ref xo, .int x_outLength, .int w0_12, .int x_courtNews, .int w0_14, .int w0_15]))]) (va_A [(h0, .inr (11, [.ref xr, .ref am, .ref xs, .ref xf, .ref co, .ref oc, .ref ta, .ref xq, .ref xh, .ref xk, .ref xo, .int x_outLength, .int x_courtStands, .int x_courtNews, .int x_tallyStands, .int x_historyStands]))] sz)) 0 0 (va_A [(h0, .inr (11, [.ref xr, .ref am, .ref xs, .ref xf, .ref co, .ref oc, .ref ta, .ref xq, .ref xh, .ref xk, .ref xo, .int x_outLength, .int x_courtStands, .int x_courtNews, .int x_tallyStands, .int x_historyStands]))] sz) := by
  refine Met.ofW (cc := cX11_forget) (maxL := 1) (ret := none) (by decide) rfl ?_
  intro p e s m args below meth c s₁ B hml hv
  obtain ⟨rfl, hsz, hP, hK, hD0, hz⟩ := hv
  have hx := B.exec
  have hb := B.bytes
  have hr := B.returns
  have hts := atoms_spec (ws := (.code yX11_forget cX11_forget 1 none :: wsGA)) B.pre
  have hown : s.vm.findClass RX11 = some m.cls := findClass_of_methodNamed B.named
  have hlocks := B.notSynchronized
  subst hsz
  have hD := hD0.self (sz := s.heap.size)
  generalize hAe : va_A [(h0, .inr (11, [.ref xr, .ref am, .ref xs, .ref xf, .ref co, .ref oc, .ref ta, .ref xq, .ref xh, .ref xk, .ref xo, .int x_outLength, .int x_courtStands, .int x_courtNews, .int x_tallyStands, .int x_historyStands]))] s.heap.size = A at hD ⊢
  have hA : ∀ q : Nat, s.heap.size ≤ q → A q := fun q h => by rw [← hAe]; exact Or.inr h
  have hS : va_S A s.heap s.heap [] := va_S.rf
  have hl := lv_entry ([.ref h0]) (n := 1) (Nat.le_of_ble_eq_true rfl)
  rw [lg_entry_eq]
  generalize (lg_sl ([.ref h0]) ++ List.replicate (1 - (lg_sl ([.ref h0])).length) Slot.unset).toArray = ls at hl ⊢
  have hl : lv_has ls 1 [(0, .ref h0)] := hl
  refine lv_aload_n hx hb dX11_forget_0 rfl (lv_at hl 0 rfl) ?_
  refine lv_iconst (v := 0) hx hb dX11_forget_1 (by decide) ?_
  refine va_put (D := (dC, dI)) (ci := 11) (v := .int 0) (ty := .boolean) (C := RX11) (T := TX11) (N := 16) hx hb hts (fun w h => List.mem_cons_of_mem _ (jnGA_X11 w h)) tyX11 tyX11_ok nmX11 hown hK hP hD hS 0 rfl rfl 12 (by decide) (hts _ (List.mem_cons_of_mem _ mGA_42)) (fun _ h9 => h9) rfl (by decide +kernel) rfl rfl (Nat.le_of_ble_eq_true rfl) dX11_forget_2 (fun H locs hP hD hS => ?_)
  have hP : va_P (dC, dI) vwCl [(h0, .inr (11, [.ref xr, .ref am, .ref xs, .ref xf, .ref co, .ref oc, .ref ta, .ref xq, .ref xh, .ref xk, .ref xo, .int x_outLength, .int 0, .int x_courtNews, .int x_tallyStands, .int x_historyStands]))] H := hP
  have hD : va_D A [(h0, .inr (11, [.ref xr, .ref am, .ref xs, .ref xf, .ref co, .ref oc, .ref ta, .ref xq, .ref xh, .ref xk, .ref xo, .int x_outLength, .int 0, .int x_courtNews, .int x_tallyStands, .int x_historyStands]))] := hD
  refine lv_aload_n hx hb dX11_forget_5 rfl (lv_at hl 0 rfl) ?_
  refine lv_iconst (v := 0) hx hb dX11_forget_6 (by decide) ?_
  refine va_put (D := (dC, dI)) (ci := 11) (v := .int 0) (ty := .boolean) (C := RX11) (T := TX11) (N := 16) hx hb hts (fun w h => List.mem_cons_of_mem _ (jnGA_X11 w h)) tyX11 tyX11_ok nmX11 hown hK hP hD hS 0 rfl rfl 14 (by decide) (hts _ (List.mem_cons_of_mem _ mGA_44)) (fun _ h9 => h9) rfl (by decide +kernel) rfl rfl (Nat.le_of_ble_eq_true rfl) dX11_forget_7 (fun H locs hP hD hS => ?_)
  have hP : va_P (dC, dI) vwCl [(h0, .inr (11, [.ref xr, .ref am, .ref xs, .ref xf, .ref co, .ref oc, .ref ta, .ref xq, .ref xh, .ref xk, .ref xo, .int x_outLength, .int 0, .int x_courtNews, .int 0, .int x_historyStands]))] H := hP
  have hD : va_D A [(h0, .inr (11, [.ref xr, .ref am, .ref xs, .ref xf, .ref co, .ref oc, .ref ta, .ref xq, .ref xh, .ref xk, .ref xo, .int x_outLength, .int 0, .int x_courtNews, .int 0, .int x_historyStands]))] := hD
  refine lv_aload_n hx hb dX11_forget_10 rfl (lv_at hl 0 rfl) ?_
  refine lv_iconst (v := 0) hx hb dX11_forget_11 (by decide) ?_
  refine va_put (D := (dC, dI)) (ci := 11) (v := .int 0) (ty := .boolean) (C := RX11) (T := TX11) (N := 16) hx hb hts (fun w h => List.mem_cons_of_mem _ (jnGA_X11 w h)) tyX11 tyX11_ok nmX11 hown hK hP hD hS 0 rfl rfl 15 (by decide) (hts _ (List.mem_cons_of_mem _ mGA_45)) (fun _ h9 => h9) rfl (by decide +kernel) rfl rfl (Nat.le_of_ble_eq_true rfl) dX11_forget_12 (fun H locs hP hD hS => ?_)
  have hP : va_P (dC, dI) vwCl [(h0, .inr (11, [.ref xr, .ref am, .ref xs, .ref xf, .ref co, .ref oc, .ref ta, .ref xq, .ref xh, .ref xk, .ref xo, .int x_outLength, .int 0, .int x_courtNews, .int 0, .int 0]))] H := hP
  have hD : va_D A [(h0, .inr (11, [.ref xr, .ref am, .ref xs, .ref xf, .ref co, .ref oc, .ref ta, .ref xq, .ref xh, .ref xk, .ref xo, .int x_outLength, .int 0, .int x_courtNews, .int 0, .int 0]))] := hD
  exact W.vret hx hb hr (fun t ht hW => ⟨⟨(), rfl, trivial, 0, 0, 0, (gi_w (gi_c 0 0 (by decide)) (by decide)), (gi_w (gi_c 0 0 (by decide)) (by decide)), (gi_w (gi_c 0 0 (by decide)) (by decide)), by rw [ht]; exact hP, hD⟩, hS.F ht⟩) hS.2.2 dX11_forget_15
theorem dX11_octet_0 : decode cX11_octet 0 = .ok (.iload_n 1, 1) := by decide +kernel
theorem dX11_octet_1 : decode cX11_octet 1 = .ok (.ifCond .lt 11, 3) := by decide +kernel
theorem dX11_octet_4 : decode cX11_octet 4 = .ok (.iload_n 1, 1) := by decide +kernel
theorem dX11_octet_5 : decode cX11_octet 5 = .ok (.aload_n 0, 1) := by decide +kernel
theorem dX11_octet_6 : decode cX11_octet 6 = .ok (.getfield 72, 3) := by decide +kernel
theorem dX11_octet_9 : decode cX11_octet 9 = .ok (.if_icmp .lt 7, 3) := by decide +kernel
theorem dX11_octet_12 : decode cX11_octet 12 = .ok (.iconst (-1), 1) := by decide +kernel
theorem dX11_octet_13 : decode cX11_octet 13 = .ok (.goto 9, 3) := by decide +kernel
theorem dX11_octet_16 : decode cX11_octet 16 = .ok (.aload_n 0, 1) := by decide +kernel
theorem dX11_octet_17 : decode cX11_octet 17 = .ok (.getfield 68, 3) := by decide +kernel
theorem dX11_octet_20 : decode cX11_octet 20 = .ok (.iload_n 1, 1) := by decide +kernel
theorem dX11_octet_21 : decode cX11_octet 21 = .ok (.baload, 1) := by decide +kernel
theorem dX11_octet_22 : decode cX11_octet 22 = .ok (.ireturn, 1) := by decide +kernel
set_option maxHeartbeats 4000000 in
set_option maxRecDepth 100000 in
theorem sX11_octet (l : Launch) (dC : Nat → ClassId) (dI : Nat → Nat → Nat) (h0 : Nat) (xo : Nat) (xr : Nat) (am : Nat) (xs : Nat) (xf : Nat) (co : Nat) (oc : Nat) (ta : Nat) (xq : Nat) (xh : Nat) (xk : Nat) (x_outLength : Int32) (x_courtStands : Int32) (x_courtNews : Int32) (x_tallyStands : Int32) (x_historyStands : Int32) (kxo : ClassId) (fxo : Nat → Int32) (p1 : Int32) (gx_outLength : gi x_outLength 0 72) (gx_courtStands : gi x_courtStands 0 1) (gx_tallyStands : gi x_tallyStands 0 1) (gx_historyStands : gi x_historyStands 0 1) : Met l yX11_octet (.code yX11_octet cX11_octet 2 (some .int) :: wsGA) ({ frames := 0, cells := 0, slots := 0, locals := 0 }) (va_Pc [.ref h0, .int p1] (fun U => va_P (dC, dI) vwCl [(h0, .inr (11, [.ref xr, .ref am, .ref xs, .ref xf, .ref co, .ref oc, .ref ta, .ref xq, .ref xh, .ref xk, .ref xo, .int x_outLength, .int x_courtStands, .int x_courtNews, .int x_tallyStands, .int x_historyStands])), (xo, .inl (kxo, 72, .inl fxo))] U.heap ∧ va_K (dC, dI) vwCl [(kxo, .byte)] U ∧ nzA U)) (va_Qi (fun (r : Int32) (u : Unit) => gi r (-2147483648) 2147483647) (fun _ _ => True) (fun _ => False)) 0 0 (fun _ => False) := by
  refine Met.ofW (cc := cX11_octet) (maxL := 2) (ret := (some .int)) (by decide) rfl ?_
  intro p e s m args below meth c s₁ B hml hv
  obtain ⟨rfl, hP, hK, hz⟩ := hv
  have hx := B.exec
  have hb := B.bytes
  have hr := B.returns
  have hts := atoms_spec (ws := (.code yX11_octet cX11_octet 2 (some .int) :: wsGA)) B.pre
  have hown : s.vm.findClass RX11 = some m.cls := findClass_of_methodNamed B.named
  have hlocks := B.notSynchronized
  have hS : va_S (fun _ => False) s.heap s.heap [] := va_S.rf
  have hl := lv_entry ([.ref h0, .int p1]) (n := 2) (Nat.le_of_ble_eq_true rfl)
  rw [lg_entry_eq]
  generalize (lg_sl ([.ref h0, .int p1]) ++ List.replicate (2 - (lg_sl ([.ref h0, .int p1])).length) Slot.unset).toArray = ls at hl ⊢
  have hl : lv_has ls 2 [(0, .ref h0), (1, .int p1)] := hl
  refine lv_iload_n hx hb dX11_octet_0 rfl (lv_at hl 1 rfl) ?_
  refine lv_if_lt (tgt := 12) hx hb dX11_octet_1 (by decide) (fun c_8 => ?_) (fun c_8 => ?_)
  · have g_9 : gi p1 (-2147483648) (-1) := gi_lt_l c_8 (gi_any p1) (gi_c 0 0 (by decide)) (by decide)
    refine lv_iconst (v := (-1)) hx hb dX11_octet_12 (by decide) ?_
    refine lv_goto (tgt := 22) hx hb dX11_octet_13 (by decide) ?_
    exact W.iret (v := (-1)) hx hb hr (fun t ht hW => ⟨⟨(-1), (), rfl, (gi_any (-1)), trivial⟩, hS.F ht⟩) hS.2.2 dX11_octet_22
  · have g_10 : gi p1 0 2147483647 := gi_le_r (Int32.not_lt.mp c_8) (gi_c 0 0 (by decide)) (gi_any p1)
    refine lv_iload_n hx hb dX11_octet_4 rfl (lv_at hl 1 rfl) ?_
    refine lv_aload_n hx hb dX11_octet_5 rfl (lv_at hl 0 rfl) ?_
    refine va_get (D := (dC, dI)) (ci := 11) (v := .int x_outLength) (C := RX11) (T := TX11) (N := 16) hx hb hts (fun w h => List.mem_cons_of_mem _ (jnGA_X11 w h)) hown hK hP 0 rfl rfl 11 (by decide) (hts _ (List.mem_cons_of_mem _ mGA_41)) (fun _ h9 => h9) rfl dX11_octet_6 ?_
    refine lv_icmp_lt (tgt := 16) hx hb dX11_octet_9 (by decide) (fun c_11 => ?_) (fun c_11 => ?_)
    · have g_12 : gi p1 0 71 := gi_lt_l c_11 g_10 gx_outLength (by decide)
      have g_13 : gi x_outLength 1 72 := gi_lt_r c_11 g_10 gx_outLength (by decide)
      refine lv_aload_n hx hb dX11_octet_16 rfl (lv_at hl 0 rfl) ?_
      refine va_get (D := (dC, dI)) (ci := 11) (v := .ref xo) (C := RX11) (T := TX11) (N := 16) hx hb hts (fun w h => List.mem_cons_of_mem _ (jnGA_X11 w h)) hown hK hP 0 rfl rfl 10 (by decide) (hts _ (List.mem_cons_of_mem _ mGA_40)) (fun _ h9 => h9) rfl dX11_octet_17 ?_
      refine lv_iload_n hx hb dX11_octet_20 rfl (lv_at hl 1 rfl) ?_
      refine va_bald hx hb hK hP 1 0 rfl rfl (gi_in g_12 (by decide)) dX11_octet_21 ?_
      refine lv_topi (fun x_14 ex_14 => ?_)
      exact W.iret (v := x_14) hx hb hr (fun t ht hW => ⟨⟨x_14, (), rfl, (gi_any x_14), trivial⟩, hS.F ht⟩) hS.2.2 dX11_octet_22
    · refine lv_iconst (v := (-1)) hx hb dX11_octet_12 (by decide) ?_
      refine lv_goto (tgt := 22) hx hb dX11_octet_13 (by decide) ?_
      exact W.iret (v := (-1)) hx hb hr (fun t ht hW => ⟨⟨(-1), (), rfl, (gi_any (-1)), trivial⟩, hS.F ht⟩) hS.2.2 dX11_octet_22
theorem dX11_putOut_0 : decode cX11_putOut 0 = .ok (.aload_n 0, 1) := by decide +kernel
theorem dX11_putOut_1 : decode cX11_putOut 1 = .ok (.getfield 72, 3) := by decide +kernel
theorem dX11_putOut_4 : decode cX11_putOut 4 = .ok (.aload_n 0, 1) := by decide +kernel
theorem dX11_putOut_5 : decode cX11_putOut 5 = .ok (.getfield 68, 3) := by decide +kernel
theorem dX11_putOut_8 : decode cX11_putOut 8 = .ok (.arraylength, 1) := by decide +kernel
theorem dX11_putOut_9 : decode cX11_putOut 9 = .ok (.if_icmp .ge 24, 3) := by decide +kernel
theorem dX11_putOut_12 : decode cX11_putOut 12 = .ok (.aload_n 0, 1) := by decide +kernel
theorem dX11_putOut_13 : decode cX11_putOut 13 = .ok (.getfield 68, 3) := by decide +kernel
theorem dX11_putOut_16 : decode cX11_putOut 16 = .ok (.aload_n 0, 1) := by decide +kernel
theorem dX11_putOut_17 : decode cX11_putOut 17 = .ok (.getfield 72, 3) := by decide +kernel
theorem dX11_putOut_20 : decode cX11_putOut 20 = .ok (.iload_n 1, 1) := by decide +kernel
theorem dX11_putOut_21 : decode cX11_putOut 21 = .ok (.i2b, 1) := by decide +kernel
theorem dX11_putOut_22 : decode cX11_putOut 22 = .ok (.bastore, 1) := by decide +kernel
theorem dX11_putOut_23 : decode cX11_putOut 23 = .ok (.aload_n 0, 1) := by decide +kernel
theorem dX11_putOut_24 : decode cX11_putOut 24 = .ok (.dup, 1) := by decide +kernel
theorem dX11_putOut_25 : decode cX11_putOut 25 = .ok (.getfield 72, 3) := by decide +kernel
theorem dX11_putOut_28 : decode cX11_putOut 28 = .ok (.iconst 1, 1) := by decide +kernel
theorem dX11_putOut_29 : decode cX11_putOut 29 = .ok (.iadd, 1) := by decide +kernel
theorem dX11_putOut_30 : decode cX11_putOut 30 = .ok (.putfield 72, 3) := by decide +kernel
theorem dX11_putOut_33 : decode cX11_putOut 33 = .ok (.return_, 1) := by decide +kernel
set_option maxHeartbeats 4000000 in
set_option maxRecDepth 100000 in
theorem sX11_putOut (l : Launch) (dC : Nat → ClassId) (dI : Nat → Nat → Nat) (sz : Nat) (h0 : Nat) (xo : Nat) (xr : Nat) (am : Nat) (xs : Nat) (xf : Nat) (co : Nat) (oc : Nat) (ta : Nat) (xq : Nat) (xh : Nat) (xk : Nat) (x_outLength : Int32) (x_courtStands : Int32) (x_courtNews : Int32) (x_tallyStands : Int32) (x_historyStands : Int32) (kxo : ClassId) (fxo : Nat → Int32) (p1 : Int32) (gx_outLength : gi x_outLength 0 72) (gx_courtStands : gi x_courtStands 0 1) (gx_tallyStands : gi x_tallyStands 0 1) (gx_historyStands : gi x_historyStands 0 1) : Met l yX11_putOut (.code yX11_putOut cX11_putOut 2 none :: wsGA) ({ frames := 0, cells := 0, slots := 0, locals := 0 }) (va_Pc [.ref h0, .int p1] (fun U => U.heap.size = sz ∧ va_P (dC, dI) vwCl [(h0, .inr (11, [.ref xr, .ref am, .ref xs, .ref xf, .ref co, .ref oc, .ref ta, .ref xq, .ref xh, .ref xk, .ref xo, .int x_outLength, .int x_courtStands, .int x_courtNews, .int x_tallyStands, .int x_historyStands])), (xo, .inl (kxo, 72, .inl fxo))] U.heap ∧ va_K (dC, dI) vwCl [(kxo, .byte)] U ∧ va_D (fun _ => True) [(h0, .inr (11, [.ref xr, .ref am, .ref xs, .ref xf, .ref co, .ref oc, .ref ta, .ref xq, .ref xh, .ref xk, .ref xo, .int x_outLength, .int x_courtStands, .int x_courtNews, .int x_tallyStands, .int x_historyStands])), (xo, .inl (kxo, 72, .inl fxo))] ∧ nzA U)) (va_Qv (fun (u : Unit) => True) (fun _ t => ∃ (w0_11 : Int32) (z1 : Nat → Int32), gi w0_11 0 72 ∧ va_P (dC, dI) vwCl [(h0, .inr (11, [.ref xr, .ref am, .ref xs, .ref xf, .ref co, .ref oc, .ref ta, .ref xq, .ref xh, .ref xk, .ref xo, .int w0_11, .int x_courtStands, .int x_courtNews, .int x_tallyStands, .int x_historyStands])), (xo, .inl (kxo, 72, .inl z1))] t.heap ∧ va_D (va_A [(h0, .inr (11, [.ref xr, .ref am, .ref xs, .ref xf, .ref co, .ref oc, .ref ta, .ref xq, .ref xh, .ref xk, .ref xo, .int x_outLength, .int x_courtStands, .int x_courtNews, .int x_tallyStands, .int x_historyStands])), (xo, .inl (kxo, 72, .inl fxo))] sz) [(h0, .inr (11, [.ref xr, .ref am, .ref xs, .ref xf, .ref co, .ref oc, .ref ta, .ref xq, .ref xh, .ref xk, .ref xo, .int w0_11, .int x_courtStands, .int x_courtNews, .int x_tallyStands, .int x_historyStands])), (xo, .inl (kxo, 72, .inl z1))]) (va_A [(h0, .inr (11, [.ref xr, .ref am, .ref xs, .ref xf, .ref co, .ref oc, .ref ta, .ref xq, .ref xh, .ref xk, .ref xo, .int x_outLength, .int x_courtStands, .int x_courtNews, .int x_tallyStands, .int x_historyStands])), (xo, .inl (kxo, 72, .inl fxo))] sz)) 0 0 (va_A [(h0, .inr (11, [.ref xr, .ref am, .ref xs, .ref xf, .ref co, .ref oc, .ref ta, .ref xq, .ref xh, .ref xk, .ref xo, .int x_outLength, .int x_courtStands, .int x_courtNews, .int x_tallyStands, .int x_historyStands])), (xo, .inl (kxo, 72, .inl fxo))] sz) := by
  refine Met.ofW (cc := cX11_putOut) (maxL := 2) (ret := none) (by decide) rfl ?_
  intro p e s m args below meth c s₁ B hml hv
  obtain ⟨rfl, hsz, hP, hK, hD0, hz⟩ := hv
  have hx := B.exec
  have hb := B.bytes
  have hr := B.returns
  have hts := atoms_spec (ws := (.code yX11_putOut cX11_putOut 2 none :: wsGA)) B.pre
  have hown : s.vm.findClass RX11 = some m.cls := findClass_of_methodNamed B.named
  have hlocks := B.notSynchronized
  subst hsz
  have hD := hD0.self (sz := s.heap.size)
  generalize hAe : va_A [(h0, .inr (11, [.ref xr, .ref am, .ref xs, .ref xf, .ref co, .ref oc, .ref ta, .ref xq, .ref xh, .ref xk, .ref xo, .int x_outLength, .int x_courtStands, .int x_courtNews, .int x_tallyStands, .int x_historyStands])), (xo, .inl (kxo, 72, .inl fxo))] s.heap.size = A at hD ⊢
  have hA : ∀ q : Nat, s.heap.size ≤ q → A q := fun q h => by rw [← hAe]; exact Or.inr h
  have hS : va_S A s.heap s.heap [] := va_S.rf
  have hl := lv_entry ([.ref h0, .int p1]) (n := 2) (Nat.le_of_ble_eq_true rfl)
  rw [lg_entry_eq]
  generalize (lg_sl ([.ref h0, .int p1]) ++ List.replicate (2 - (lg_sl ([.ref h0, .int p1])).length) Slot.unset).toArray = ls at hl ⊢
  have hl : lv_has ls 2 [(0, .ref h0), (1, .int p1)] := hl
  refine lv_aload_n hx hb dX11_putOut_0 rfl (lv_at hl 0 rfl) ?_
  refine va_get (D := (dC, dI)) (ci := 11) (v := .int x_outLength) (C := RX11) (T := TX11) (N := 16) hx hb hts (fun w h => List.mem_cons_of_mem _ (jnGA_X11 w h)) hown hK hP 0 rfl rfl 11 (by decide) (hts _ (List.mem_cons_of_mem _ mGA_41)) (fun _ h9 => h9) rfl dX11_putOut_1 ?_
  refine lv_aload_n hx hb dX11_putOut_4 rfl (lv_at hl 0 rfl) ?_
  refine va_get (D := (dC, dI)) (ci := 11) (v := .ref xo) (C := RX11) (T := TX11) (N := 16) hx hb hts (fun w h => List.mem_cons_of_mem _ (jnGA_X11 w h)) hown hK hP 0 rfl rfl 10 (by decide) (hts _ (List.mem_cons_of_mem _ mGA_40)) (fun _ h9 => h9) rfl dX11_putOut_5 ?_
  refine va_alen (v := 72) hx hb hK hP 1 0 rfl rfl rfl dX11_putOut_8 ?_
  refine lv_icmp_ge (tgt := 33) hx hb dX11_putOut_9 (by decide) (fun c_13 => ?_) (fun c_13 => ?_)
  · have g_14 : gi x_outLength 72 72 := gi_le_r c_13 (gi_c 72 72 (by decide)) gx_outLength
    exact W.vret hx hb hr (fun t ht hW => ⟨⟨(), rfl, trivial, x_outLength, fxo, (gi_w g_14 (by decide)), by rw [ht]; exact hP, hD⟩, hS.F ht⟩) hS.2.2 dX11_putOut_33
  · have g_15 : gi x_outLength 0 71 := gi_lt_l (Int32.not_le.mp c_13) gx_outLength (gi_c 72 72 (by decide)) (by decide)
    refine lv_aload_n hx hb dX11_putOut_12 rfl (lv_at hl 0 rfl) ?_
    refine va_get (D := (dC, dI)) (ci := 11) (v := .ref xo) (C := RX11) (T := TX11) (N := 16) hx hb hts (fun w h => List.mem_cons_of_mem _ (jnGA_X11 w h)) hown hK hP 0 rfl rfl 10 (by decide) (hts _ (List.mem_cons_of_mem _ mGA_40)) (fun _ h9 => h9) rfl dX11_putOut_13 ?_
    refine lv_aload_n hx hb dX11_putOut_16 rfl (lv_at hl 0 rfl) ?_
    refine va_get (D := (dC, dI)) (ci := 11) (v := .int x_outLength) (C := RX11) (T := TX11) (N := 16) hx hb hts (fun w h => List.mem_cons_of_mem _ (jnGA_X11 w h)) hown hK hP 0 rfl rfl 11 (by decide) (hts _ (List.mem_cons_of_mem _ mGA_41)) (fun _ h9 => h9) rfl dX11_putOut_17 ?_
    refine lv_iload_n hx hb dX11_putOut_20 rfl (lv_at hl 1 rfl) ?_
    refine lv_i2b hx hb dX11_putOut_21 rfl ?_
    refine lv_topi (fun x_16 ex_16 => ?_)
    refine va_bast hx hb hK hP hD hS 1 0 rfl rfl (gi_in g_15 (by decide)) dX11_putOut_22 (fun H locs hP hD hS => ?_)
    have hP : va_P (dC, dI) vwCl [(h0, .inr (11, [.ref xr, .ref am, .ref xs, .ref xf, .ref co, .ref oc, .ref ta, .ref xq, .ref xh, .ref xk, .ref xo, .int x_outLength, .int x_courtStands, .int x_courtNews, .int x_tallyStands, .int x_historyStands])), (xo, .inl (kxo, 72, .inl (upd fxo (x_outLength : Int32).toNatClampNeg (vp_nar .byte x_16))))] H := hP
    have hD : va_D A [(h0, .inr (11, [.ref xr, .ref am, .ref xs, .ref xf, .ref co, .ref oc, .ref ta, .ref xq, .ref xh, .ref xk, .ref xo, .int x_outLength, .int x_courtStands, .int x_courtNews, .int x_tallyStands, .int x_historyStands])), (xo, .inl (kxo, 72, .inl (upd fxo (x_outLength : Int32).toNatClampNeg (vp_nar .byte x_16))))] := hD
    generalize upd fxo (x_outLength : Int32).toNatClampNeg (vp_nar .byte x_16) = f_17 at hP hD
    refine lv_aload_n hx hb dX11_putOut_23 rfl (lv_at hl 0 rfl) ?_
    refine lv_dup hx hb dX11_putOut_24 rfl ?_
    refine va_get (D := (dC, dI)) (ci := 11) (v := .int x_outLength) (C := RX11) (T := TX11) (N := 16) hx hb hts (fun w h => List.mem_cons_of_mem _ (jnGA_X11 w h)) hown hK hP 0 rfl rfl 11 (by decide) (hts _ (List.mem_cons_of_mem _ mGA_41)) (fun _ h9 => h9) rfl dX11_putOut_25 ?_
    refine lv_iconst (v := 1) hx hb dX11_putOut_28 (by decide) ?_
    refine lv_iadd hx hb dX11_putOut_29 ?_
    refine lv_topi (fun x_18 ex_18 => ?_)
    have gx_18 : gi x_18 1 72 := gi_add ex_18 g_15 (gi_c 1 1 (by decide)) (by decide)
    refine va_put (D := (dC, dI)) (ci := 11) (v := .int x_18) (ty := .int) (C := RX11) (T := TX11) (N := 16) hx hb hts (fun w h => List.mem_cons_of_mem _ (jnGA_X11 w h)) tyX11 tyX11_ok nmX11 hown hK hP hD hS 0 rfl rfl 11 (by decide) (hts _ (List.mem_cons_of_mem _ mGA_41)) (fun _ h9 => h9) rfl (by decide +kernel) rfl rfl (Nat.le_of_ble_eq_true rfl) dX11_putOut_30 (fun H locs hP hD hS => ?_)
    have hP : va_P (dC, dI) vwCl [(h0, .inr (11, [.ref xr, .ref am, .ref xs, .ref xf, .ref co, .ref oc, .ref ta, .ref xq, .ref xh, .ref xk, .ref xo, .int x_18, .int x_courtStands, .int x_courtNews, .int x_tallyStands, .int x_historyStands])), (xo, .inl (kxo, 72, .inl f_17))] H := hP
    have hD : va_D A [(h0, .inr (11, [.ref xr, .ref am, .ref xs, .ref xf, .ref co, .ref oc, .ref ta, .ref xq, .ref xh, .ref xk, .ref xo, .int x_18, .int x_courtStands, .int x_courtNews, .int x_tallyStands, .int x_historyStands])), (xo, .inl (kxo, 72, .inl f_17))] := hD
    exact W.vret hx hb hr (fun t ht hW => ⟨⟨(), rfl, trivial, x_18, f_17, (gi_w gx_18 (by decide)), by rw [ht]; exact hP, hD⟩, hS.F ht⟩) hS.2.2 dX11_putOut_33
theorem dX11_courtBy_0 : decode cX11_courtBy 0 = .ok (.aload_n 0, 1) := by decide +kernel
theorem dX11_courtBy_1 : decode cX11_courtBy 1 = .ok (.getfield 19, 3) := by decide +kernel
theorem dX11_courtBy_4 : decode cX11_courtBy 4 = .ok (.iload_n 1, 1) := by decide +kernel
theorem dX11_courtBy_5 : decode cX11_courtBy 5 = .ok (.invokevirtual 403, 3) := by decide +kernel
theorem dX11_courtBy_8 : decode cX11_courtBy 8 = .ok (.istore_n 2, 1) := by decide +kernel
theorem dX11_courtBy_9 : decode cX11_courtBy 9 = .ok (.aload_n 0, 1) := by decide +kernel
theorem dX11_courtBy_10 : decode cX11_courtBy 10 = .ok (.getfield 76, 3) := by decide +kernel
theorem dX11_courtBy_13 : decode cX11_courtBy 13 = .ok (.ifCond .eq 11, 3) := by decide +kernel
theorem dX11_courtBy_16 : decode cX11_courtBy 16 = .ok (.iload_n 2, 1) := by decide +kernel
theorem dX11_courtBy_17 : decode cX11_courtBy 17 = .ok (.aload_n 0, 1) := by decide +kernel
theorem dX11_courtBy_18 : decode cX11_courtBy 18 = .ok (.getfield 80, 3) := by decide +kernel
theorem dX11_courtBy_21 : decode cX11_courtBy 21 = .ok (.if_icmp .eq 30, 3) := by decide +kernel
theorem dX11_courtBy_24 : decode cX11_courtBy 24 = .ok (.aload_n 0, 1) := by decide +kernel
theorem dX11_courtBy_25 : decode cX11_courtBy 25 = .ok (.getfield 36, 3) := by decide +kernel
theorem dX11_courtBy_28 : decode cX11_courtBy 28 = .ok (.aload_n 0, 1) := by decide +kernel
theorem dX11_courtBy_29 : decode cX11_courtBy 29 = .ok (.getfield 19, 3) := by decide +kernel
theorem dX11_courtBy_32 : decode cX11_courtBy 32 = .ok (.iload_n 1, 1) := by decide +kernel
theorem dX11_courtBy_33 : decode cX11_courtBy 33 = .ok (.invokevirtual 254, 3) := by decide +kernel
theorem dX11_courtBy_36 : decode cX11_courtBy 36 = .ok (.aload_n 0, 1) := by decide +kernel
theorem dX11_courtBy_37 : decode cX11_courtBy 37 = .ok (.iload_n 2, 1) := by decide +kernel
theorem dX11_courtBy_38 : decode cX11_courtBy 38 = .ok (.putfield 80, 3) := by decide +kernel
theorem dX11_courtBy_41 : decode cX11_courtBy 41 = .ok (.aload_n 0, 1) := by decide +kernel
theorem dX11_courtBy_42 : decode cX11_courtBy 42 = .ok (.iconst 1, 1) := by decide +kernel
theorem dX11_courtBy_43 : decode cX11_courtBy 43 = .ok (.putfield 76, 3) := by decide +kernel
theorem dX11_courtBy_46 : decode cX11_courtBy 46 = .ok (.aload_n 0, 1) := by decide +kernel
theorem dX11_courtBy_47 : decode cX11_courtBy 47 = .ok (.iconst 0, 1) := by decide +kernel
theorem dX11_courtBy_48 : decode cX11_courtBy 48 = .ok (.putfield 83, 3) := by decide +kernel
theorem dX11_courtBy_51 : decode cX11_courtBy 51 = .ok (.aload_n 0, 1) := by decide +kernel
theorem dX11_courtBy_52 : decode cX11_courtBy 52 = .ok (.getfield 36, 3) := by decide +kernel
theorem dX11_courtBy_55 : decode cX11_courtBy 55 = .ok (.areturn, 1) := by decide +kernel
set_option maxHeartbeats 4000000 in
set_option maxRecDepth 100000 in
theorem sX11_courtBy (l : Launch) (dC : Nat → ClassId) (dI : Nat → Nat → Nat) (sz : Nat) (h0 : Nat) (co : Nat) (ve : Nat) (qu : Nat) (tu : Nat) (cb : Nat) (fr : Nat) (fal : Nat) (fon : Nat) (am : Nat) (pl : Nat) (re : Nat) (xr : Nat) (xs : Nat) (xf : Nat) (oc : Nat) (ta : Nat) (xq : Nat) (xh : Nat) (xk : Nat) (xo : Nat) (x_outLength : Int32) (x_courtStands : Int32) (x_courtNews : Int32) (x_tallyStands : Int32) (x_historyStands : Int32) (c_queueLength : Int32) (c_takenBits : Int32) (kve : ClassId) (fve : Nat → Int32) (kqu : ClassId) (fqu : Nat → Int32) (ktu : ClassId) (ftu : Nat → Int64) (kcb : ClassId) (fcb : Nat → Int32) (fmonths : Int32) (ffull : Int32) (flean : Int32) (kfal : ClassId) (ffal : Nat → Int32) (kfon : ClassId) (ffon : Nat → Int32) (amonths : Int32) (afull : Int32) (alean : Int32) (alines : Int32) (ahasMoon : Int32) (amoonStart : Int32) (amoonStep : Int32) (aplaceCount : Int32) (areportCount : Int32) (adeedCount : Int32) (de : Nat) (kpl : ClassId) (kre : ClassId) (pa : Nat → Nat) (p_name : Nat → Int32) (p_trust : Nat → Int32) (ra : Nat → Nat) (r_place : Nat → Int32) (r_kind : Nat → Int32) (r_month : Nat → Int32) (r_day : Nat → Int32) (r_known : Nat → Int32) (r_struck : Nat → Int32) (p1 : Int32) (gx_outLength : gi x_outLength 0 72) (gx_courtStands : gi x_courtStands 0 1) (gx_tallyStands : gi x_tallyStands 0 1) (gx_historyStands : gi x_historyStands 0 1) (gc_queueLength : gi c_queueLength 0 24) (gfqu : ga fqu 24 0 23) (gfmonths : gi fmonths 0 24) (gffull : gi ffull 0 5) (gflean : gi flean 0 5) (gamonths : gi amonths 0 24) (gafull : gi afull 0 5) (galean : gi alean 0 5) (gahasMoon : gi ahasMoon 0 1) (gaplaceCount : gi aplaceCount 0 6) (gareportCount : gi areportCount 0 24) (gadeedCount : gi adeedCount 0 8) (gr_place : ga r_place 24 0 5) (gr_month : ga r_month 24 0 23) (gr_struck : ga r_struck 24 0 1) : Met l yX11_courtBy (.code yX11_courtBy cX11_courtBy 3 (some (.object "SightedMonths$Court")) :: wsGA) ({ frames := 4, cells := 0, slots := 0, locals := 95 }) (va_Pc [.ref h0, .int p1] (fun U => U.heap.size = sz ∧ va_P (dC, dI) vwCl [(h0, .inr (11, [.ref xr, .ref am, .ref xs, .ref xf, .ref co, .ref oc, .ref ta, .ref xq, .ref xh, .ref xk, .ref xo, .int x_outLength, .int x_courtStands, .int x_courtNews, .int x_tallyStands, .int x_historyStands])), (co, .inr (1, [.ref fr, .ref ve, .ref qu, .ref tu, .ref cb, .int c_queueLength, .int c_takenBits])), (ve, .inl (kve, 24, .inl fve)), (qu, .inl (kqu, 24, .inl fqu)), (tu, .inl (ktu, 24, .inr (.inl ftu))), (cb, .inl (kcb, 25, .inl fcb)), (fr, .inr (3, [.int fmonths, .int ffull, .int flean, .ref fal, .ref fon])), (fal, .inl (kfal, 25, .inl ffal)), (fon, .inl (kfon, 275, .inl ffon))] U.heap ∧ va_K (dC, dI) vwCl [(kve, .int), (kqu, .int), (ktu, .long), (kcb, .int), (kfal, .int), (kfon, .int), (kpl, .object RX5), (kre, .object RX7)] U ∧ va_D (fun _ => True) [(h0, .inr (11, [.ref xr, .ref am, .ref xs, .ref xf, .ref co, .ref oc, .ref ta, .ref xq, .ref xh, .ref xk, .ref xo, .int x_outLength, .int x_courtStands, .int x_courtNews, .int x_tallyStands, .int x_historyStands])), (co, .inr (1, [.ref fr, .ref ve, .ref qu, .ref tu, .ref cb, .int c_queueLength, .int c_takenBits])), (ve, .inl (kve, 24, .inl fve)), (qu, .inl (kqu, 24, .inl fqu)), (tu, .inl (ktu, 24, .inr (.inl ftu))), (cb, .inl (kcb, 25, .inl fcb)), (fr, .inr (3, [.int fmonths, .int ffull, .int flean, .ref fal, .ref fon])), (fal, .inl (kfal, 25, .inl ffal)), (fon, .inl (kfon, 275, .inl ffon))] ∧ nzA U ∧ va_P (dC, dI) vwCl [(am, .inr (0, [.int amonths, .int afull, .int alean, .int alines, .int ahasMoon, .int amoonStart, .int amoonStep, .int aplaceCount, .int areportCount, .int adeedCount, .ref pl, .ref re, .ref de])), (pl, .inl (kpl, 6, .inr (.inr (.inr (.inr (fun i => some (pa i))))))), (re, .inl (kre, 24, .inr (.inr (.inr (.inr (fun i => some (ra i)))))))] U.heap ∧ gz_ap (va_A [(h0, .inr (11, [.ref xr, .ref am, .ref xs, .ref xf, .ref co, .ref oc, .ref ta, .ref xq, .ref xh, .ref xk, .ref xo, .int x_outLength, .int x_courtStands, .int x_courtNews, .int x_tallyStands, .int x_historyStands])), (co, .inr (1, [.ref fr, .ref ve, .ref qu, .ref tu, .ref cb, .int c_queueLength, .int c_takenBits])), (ve, .inl (kve, 24, .inl fve)), (qu, .inl (kqu, 24, .inl fqu)), (tu, .inl (ktu, 24, .inr (.inl ftu))), (cb, .inl (kcb, 25, .inl fcb)), (fr, .inr (3, [.int fmonths, .int ffull, .int flean, .ref fal, .ref fon])), (fal, .inl (kfal, 25, .inl ffal)), (fon, .inl (kfon, 275, .inl ffon))] sz) [(am, .inr (0, [.int amonths, .int afull, .int alean, .int alines, .int ahasMoon, .int amoonStart, .int amoonStep, .int aplaceCount, .int areportCount, .int adeedCount, .ref pl, .ref re, .ref de])), (pl, .inl (kpl, 6, .inr (.inr (.inr (.inr (fun i => some (pa i))))))), (re, .inl (kre, 24, .inr (.inr (.inr (.inr (fun i => some (ra i)))))))] ∧ va_P (dC, dI) vwCl (gz_fam 6 pa 5 (fun i => [.int (p_name i), .int (p_trust i)])) U.heap ∧ gz_ap (va_A [(h0, .inr (11, [.ref xr, .ref am, .ref xs, .ref xf, .ref co, .ref oc, .ref ta, .ref xq, .ref xh, .ref xk, .ref xo, .int x_outLength, .int x_courtStands, .int x_courtNews, .int x_tallyStands, .int x_historyStands])), (co, .inr (1, [.ref fr, .ref ve, .ref qu, .ref tu, .ref cb, .int c_queueLength, .int c_takenBits])), (ve, .inl (kve, 24, .inl fve)), (qu, .inl (kqu, 24, .inl fqu)), (tu, .inl (ktu, 24, .inr (.inl ftu))), (cb, .inl (kcb, 25, .inl fcb)), (fr, .inr (3, [.int fmonths, .int ffull, .int flean, .ref fal, .ref fon])), (fal, .inl (kfal, 25, .inl ffal)), (fon, .inl (kfon, 275, .inl ffon))] sz) (gz_fam 6 pa 5 (fun i => [.int (p_name i), .int (p_trust i)])) ∧ va_P (dC, dI) vwCl (gz_fam 24 ra 7 (fun i => [.int (r_place i), .int (r_kind i), .int (r_month i), .int (r_day i), .int (r_known i), .int (r_struck i)])) U.heap ∧ gz_ap (va_A [(h0, .inr (11, [.ref xr, .ref am, .ref xs, .ref xf, .ref co, .ref oc, .ref ta, .ref xq, .ref xh, .ref xk, .ref xo, .int x_outLength, .int x_courtStands, .int x_courtNews, .int x_tallyStands, .int x_historyStands])), (co, .inr (1, [.ref fr, .ref ve, .ref qu, .ref tu, .ref cb, .int c_queueLength, .int c_takenBits])), (ve, .inl (kve, 24, .inl fve)), (qu, .inl (kqu, 24, .inl fqu)), (tu, .inl (ktu, 24, .inr (.inl ftu))), (cb, .inl (kcb, 25, .inl fcb)), (fr, .inr (3, [.int fmonths, .int ffull, .int flean, .ref fal, .ref fon])), (fal, .inl (kfal, 25, .inl ffal)), (fon, .inl (kfon, 275, .inl ffon))] sz) (gz_fam 24 ra 7 (fun i => [.int (r_place i), .int (r_kind i), .int (r_month i), .int (r_day i), .int (r_known i), .int (r_struck i)])))) (va_Qr (fun (u : Unit) => True) (fun _ a t => a = co ∧ (∃ (w0_12 : Int32) (w0_13 : Int32) (w0_14 : Int32) (w1_5 : Int32) (w1_6 : Int32) (w6_0 : Int32) (w6_1 : Int32) (w6_2 : Int32) (z2 : Nat → Int32) (z3 : Nat → Int32) (z4 : Nat → Int64) (z5 : Nat → Int32) (z7 : Nat → Int32) (z8 : Nat → Int32), gi w0_12 0 1 ∧ gi w0_14 0 1 ∧ gi w1_5 0 24 ∧ gi w6_0 0 24 ∧ gi w6_1 0 5 ∧ gi w6_2 0 5 ∧ ga z3 24 0 23 ∧ va_P (dC, dI) vwCl [(h0, .inr (11, [.ref xr, .ref am, .ref xs, .ref xf, .ref co, .ref oc, .ref ta, .ref xq, .ref xh, .ref xk, .ref xo, .int x_outLength, .int w0_12, .int w0_13, .int w0_14, .int x_historyStands])), (co, .inr (1, [.ref fr, .ref ve, .ref qu, .ref tu, .ref cb, .int w1_5, .int w1_6])), (ve, .inl (kve, 24, .inl z2)), (qu, .inl (kqu, 24, .inl z3)), (tu, .inl (ktu, 24, .inr (.inl z4))), (cb, .inl (kcb, 25, .inl z5)), (fr, .inr (3, [.int w6_0, .int w6_1, .int w6_2, .ref fal, .ref fon])), (fal, .inl (kfal, 25, .inl z7)), (fon, .inl (kfon, 275, .inl z8))] t.heap ∧ va_D (va_A [(h0, .inr (11, [.ref xr, .ref am, .ref xs, .ref xf, .ref co, .ref oc, .ref ta, .ref xq, .ref xh, .ref xk, .ref xo, .int x_outLength, .int x_courtStands, .int x_courtNews, .int x_tallyStands, .int x_historyStands])), (co, .inr (1, [.ref fr, .ref ve, .ref qu, .ref tu, .ref cb, .int c_queueLength, .int c_takenBits])), (ve, .inl (kve, 24, .inl fve)), (qu, .inl (kqu, 24, .inl fqu)), (tu, .inl (ktu, 24, .inr (.inl ftu))), (cb, .inl (kcb, 25, .inl fcb)), (fr, .inr (3, [.int fmonths, .int ffull, .int flean, .ref fal, .ref fon])), (fal, .inl (kfal, 25, .inl ffal)), (fon, .inl (kfon, 275, .inl ffon))] sz) [(h0, .inr (11, [.ref xr, .ref am, .ref xs, .ref xf, .ref co, .ref oc, .ref ta, .ref xq, .ref xh, .ref xk, .ref xo, .int x_outLength, .int w0_12, .int w0_13, .int w0_14, .int x_historyStands])), (co, .inr (1, [.ref fr, .ref ve, .ref qu, .ref tu, .ref cb, .int w1_5, .int w1_6])), (ve, .inl (kve, 24, .inl z2)), (qu, .inl (kqu, 24, .inl z3)), (tu, .inl (ktu, 24, .inr (.inl z4))), (cb, .inl (kcb, 25, .inl z5)), (fr, .inr (3, [.int w6_0, .int w6_1, .int w6_2, .ref fal, .ref fon])), (fal, .inl (kfal, 25, .inl z7)), (fon, .inl (kfon, 275, .inl z8))])) (va_A [(h0, .inr (11, [.ref xr, .ref am, .ref xs, .ref xf, .ref co, .ref oc, .ref ta, .ref xq, .ref xh, .ref xk, .ref xo, .int x_outLength, .int x_courtStands, .int x_courtNews, .int x_tallyStands, .int x_historyStands])), (co, .inr (1, [.ref fr, .ref ve, .ref qu, .ref tu, .ref cb, .int c_queueLength, .int c_takenBits])), (ve, .inl (kve, 24, .inl fve)), (qu, .inl (kqu, 24, .inl fqu)), (tu, .inl (ktu, 24, .inr (.inl ftu))), (cb, .inl (kcb, 25, .inl fcb)), (fr, .inr (3, [.int fmonths, .int ffull, .int flean, .ref fal, .ref fon])), (fal, .inl (kfal, 25, .inl ffal)), (fon, .inl (kfon, 275, .inl ffon))] sz)) 0 0 (va_A [(h0, .inr (11, [.ref xr, .ref am, .ref xs, .ref xf, .ref co, .ref oc, .ref ta, .ref xq, .ref xh, .ref xk, .ref xo, .int x_outLength, .int x_courtStands, .int x_courtNews, .int x_tallyStands, .int x_historyStands])), (co, .inr (1, [.ref fr, .ref ve, .ref qu, .ref tu, .ref cb, .int c_queueLength, .int c_takenBits])), (ve, .inl (kve, 24, .inl fve)), (qu, .inl (kqu, 24, .inl fqu)), (tu, .inl (ktu, 24, .inr (.inl ftu))), (cb, .inl (kcb, 25, .inl fcb)), (fr, .inr (3, [.int fmonths, .int ffull, .int flean, .ref fal, .ref fon])), (fal, .inl (kfal, 25, .inl ffal)), (fon, .inl (kfon, 275, .inl ffon))] sz) := by
  refine Met.ofW (cc := cX11_courtBy) (maxL := 3) (ret := (some (.object "SightedMonths$Court"))) (by decide) rfl ?_
  intro p e s m args below meth c s₁ B hml hv
  obtain ⟨rfl, hsz, hP, hK, hD0, hz, hR, hRA, hF0, hFA0, hF1, hFA1⟩ := hv
  have hx := B.exec
  have hb := B.bytes
  have hr := B.returns
  have hts := atoms_spec (ws := (.code yX11_courtBy cX11_courtBy 3 (some (.object "SightedMonths$Court")) :: wsGA)) B.pre
  have hown : s.vm.findClass RX11 = some m.cls := findClass_of_methodNamed B.named
  have hlocks := B.notSynchronized
  subst hsz
  have hD := hD0.self (sz := s.heap.size)
  generalize hAe : va_A [(h0, .inr (11, [.ref xr, .ref am, .ref xs, .ref xf, .ref co, .ref oc, .ref ta, .ref xq, .ref xh, .ref xk, .ref xo, .int x_outLength, .int x_courtStands, .int x_courtNews, .int x_tallyStands, .int x_historyStands])), (co, .inr (1, [.ref fr, .ref ve, .ref qu, .ref tu, .ref cb, .int c_queueLength, .int c_takenBits])), (ve, .inl (kve, 24, .inl fve)), (qu, .inl (kqu, 24, .inl fqu)), (tu, .inl (ktu, 24, .inr (.inl ftu))), (cb, .inl (kcb, 25, .inl fcb)), (fr, .inr (3, [.int fmonths, .int ffull, .int flean, .ref fal, .ref fon])), (fal, .inl (kfal, 25, .inl ffal)), (fon, .inl (kfon, 275, .inl ffon))] s.heap.size = A at hD hRA hFA0 hFA1 ⊢
  have hA : ∀ q : Nat, s.heap.size ≤ q → A q := fun q h => by rw [← hAe]; exact Or.inr h
  have hS : va_S A s.heap s.heap [] := va_S.rf
  have hl := lv_entry ([.ref h0, .int p1]) (n := 3) (Nat.le_of_ble_eq_true rfl)
  rw [lg_entry_eq]
  generalize (lg_sl ([.ref h0, .int p1]) ++ List.replicate (3 - (lg_sl ([.ref h0, .int p1])).length) Slot.unset).toArray = ls at hl ⊢
  have hl : lv_has ls 3 [(0, .ref h0), (1, .int p1)] := hl
  refine lv_aload_n hx hb dX11_courtBy_0 rfl (lv_at hl 0 rfl) ?_
  refine va_get (D := (dC, dI)) (ci := 11) (v := .ref am) (C := RX11) (T := TX11) (N := 16) hx hb hts (fun w h => List.mem_cons_of_mem _ (jnGA_X11 w h)) hown hK hP 0 rfl rfl 1 (by decide) (hts _ (List.mem_cons_of_mem _ mGA_14)) (fun _ h9 => h9) rfl dX11_courtBy_1 ?_
  refine lv_iload_n hx hb dX11_courtBy_4 rfl (lv_at hl 1 rfl) ?_
  have hPc : va_P (dC, dI) vwCl [(am, .inr (0, [.int amonths, .int afull, .int alean, .int alines, .int ahasMoon, .int amoonStart, .int amoonStep, .int aplaceCount, .int areportCount, .int adeedCount, .ref pl, .ref re, .ref de])), (re, .inl (kre, 24, .inr (.inr (.inr (.inr (fun i => some (ra i)))))))] s.heap := (gz_cat ((gz_ro hR hRA hS).sub [0] rfl) ((gz_ro hR hRA hS).sub [2] rfl))
  have hKc := hK.sub (tys' := [(kre, .object RX7)]) [7] rfl
  refine va_calli (va_runV (As := [.int p1]) (rest := []) ⟨hx, hb, hml, hown, hts⟩ (sX0_latestNews l dC dI am re amonths afull alean alines ahasMoon amoonStart amoonStep aplaceCount areportCount adeedCount pl de kre ra r_place r_kind r_month r_day r_known r_struck p1 gamonths gafull galean gahasMoon gaplaceCount gareportCount gadeedCount gr_place gr_month gr_struck) (cwV 1 hts (gz_gV mGA_432 mGA_433 mGA_434 mGA_13 mGA_435 goodGA) rfl rfl rfl (by decide +kernel) ⟨Nat.le_of_ble_eq_true rfl, Nat.le_of_ble_eq_true rfl⟩) ⟨fun a U g mk q => by obtain ⟨q0, qP, qK, qZ, qF0⟩ := q; exact ⟨q0, qP, va_K.moved (u := U) (U := U.calling g mk a) (Vm.Alike.refl U.vm) qK, nzA_same (u := U) (U := U.calling g mk a) rfl qZ, qF0⟩, va_recv hKc hPc (ci := 0) (q0 := 0) rfl rfl, fun U hU hW => ⟨rfl, by rw [hU]; exact hPc, va_K.moved hW.alike hKc, nzA_warm hW hz, by rw [hU]; exact gz_ro hF1 hFA1 hS⟩⟩ rfl rfl hl.1 rfl (lv_room (Nat.le_of_ble_eq_true rfl)) dX11_courtBy_5 ⟨Nat.zero_le _, Nat.zero_le _⟩) hS (fun q _ h => h.elim) (fun q h => h.elim) (fun r_61 u t H1 locs ht hvm hw hB hz1 hk1 hS => ?_)
  have hP := gz_keep hP hk1
  generalize H1 = H at hP hS ⊢
  have gr_61 : gi r_61 (-1) 2147483647 := hw
  refine lv_istore_n (lv' := [(2, .int r_61), (0, .ref h0), (1, .int p1)]) hx hb dX11_courtBy_8 rfl hl (by decide) rfl (fun ls hl => ?_)
  refine lv_aload_n hx hb dX11_courtBy_9 rfl (lv_at hl 1 rfl) ?_
  refine va_get (D := (dC, dI)) (ci := 11) (v := .int x_courtStands) (C := RX11) (T := TX11) (N := 16) hx hb hts (fun w h => List.mem_cons_of_mem _ (jnGA_X11 w h)) hown hK hP 0 rfl rfl 12 (by decide) (hts _ (List.mem_cons_of_mem _ mGA_42)) (fun _ h9 => h9) rfl dX11_courtBy_10 ?_
  refine lv_if_eq (tgt := 24) hx hb dX11_courtBy_13 (by decide) (fun c_62 => ?_) (fun c_62 => ?_)
  · have g_63 : gi x_courtStands 0 0 := gi_eq c_62 (gi_c 0 0 (by decide))
    refine lv_aload_n hx hb dX11_courtBy_24 rfl (lv_at hl 1 rfl) ?_
    refine va_get (D := (dC, dI)) (ci := 11) (v := .ref co) (C := RX11) (T := TX11) (N := 16) hx hb hts (fun w h => List.mem_cons_of_mem _ (jnGA_X11 w h)) hown hK hP 0 rfl rfl 4 (by decide) (hts _ (List.mem_cons_of_mem _ mGA_23)) (fun _ h9 => h9) rfl dX11_courtBy_25 ?_
    refine lv_aload_n hx hb dX11_courtBy_28 rfl (lv_at hl 1 rfl) ?_
    refine va_get (D := (dC, dI)) (ci := 11) (v := .ref am) (C := RX11) (T := TX11) (N := 16) hx hb hts (fun w h => List.mem_cons_of_mem _ (jnGA_X11 w h)) hown hK hP 0 rfl rfl 1 (by decide) (hts _ (List.mem_cons_of_mem _ mGA_14)) (fun _ h9 => h9) rfl dX11_courtBy_29 ?_
    refine lv_iload_n hx hb dX11_courtBy_32 rfl (lv_at hl 2 rfl) ?_
    have hPc := hP.sub (ws' := [(co, .inr (1, [.ref fr, .ref ve, .ref qu, .ref tu, .ref cb, .int c_queueLength, .int c_takenBits])), (ve, .inl (kve, 24, .inl fve)), (qu, .inl (kqu, 24, .inl fqu)), (tu, .inl (ktu, 24, .inr (.inl ftu))), (cb, .inl (kcb, 25, .inl fcb)), (fr, .inr (3, [.int fmonths, .int ffull, .int flean, .ref fal, .ref fon])), (fal, .inl (kfal, 25, .inl ffal)), (fon, .inl (kfon, 275, .inl ffon))]) [1, 2, 3, 4, 5, 6, 7, 8] rfl
    have hKc := hK.sub (tys' := [(kve, .int), (kqu, .int), (ktu, .long), (kcb, .int), (kfal, .int), (kfon, .int), (kpl, .object RX5), (kre, .object RX7)]) [0, 1, 2, 3, 4, 5, 6, 7] rfl
    have hDc := hD.sub (ws' := [(co, .inr (1, [.ref fr, .ref ve, .ref qu, .ref tu, .ref cb, .int c_queueLength, .int c_takenBits])), (ve, .inl (kve, 24, .inl fve)), (qu, .inl (kqu, 24, .inl fqu)), (tu, .inl (ktu, 24, .inr (.inl ftu))), (cb, .inl (kcb, 25, .inl fcb)), (fr, .inr (3, [.int fmonths, .int ffull, .int flean, .ref fal, .ref fon])), (fal, .inl (kfal, 25, .inl ffal)), (fon, .inl (kfon, 275, .inl ffon))]) [1, 2, 3, 4, 5, 6, 7, 8] (by decide) rfl
    have hFc := va_free (wc := [(co, .inr (1, [.ref fr, .ref ve, .ref qu, .ref tu, .ref cb, .int c_queueLength, .int c_takenBits])), (ve, .inl (kve, 24, .inl fve)), (qu, .inl (kqu, 24, .inl fqu)), (tu, .inl (ktu, 24, .inr (.inl ftu))), (cb, .inl (kcb, 25, .inl fcb)), (fr, .inr (3, [.int fmonths, .int ffull, .int flean, .ref fal, .ref fon])), (fal, .inl (kfal, 25, .inl ffal)), (fon, .inl (kfon, 275, .inl ffon))]) hD hS hA [1, 2, 3, 4, 5, 6, 7, 8] rfl
    have hRc_ : va_P (dC, dI) vwCl [(am, .inr (0, [.int amonths, .int afull, .int alean, .int alines, .int ahasMoon, .int amoonStart, .int amoonStep, .int aplaceCount, .int areportCount, .int adeedCount, .ref pl, .ref re, .ref de])), (pl, .inl (kpl, 6, .inr (.inr (.inr (.inr (fun i => some (pa i))))))), (re, .inl (kre, 24, .inr (.inr (.inr (.inr (fun i => some (ra i)))))))] H := (gz_cat ((gz_ro hR hRA hS).sub [0] rfl) (gz_cat ((gz_ro hR hRA hS).sub [1] rfl) ((gz_ro hR hRA hS).sub [2] rfl)))
    have hRa_ : gz_ap (va_A [(co, .inr (1, [.ref fr, .ref ve, .ref qu, .ref tu, .ref cb, .int c_queueLength, .int c_takenBits])), (ve, .inl (kve, 24, .inl fve)), (qu, .inl (kqu, 24, .inl fqu)), (tu, .inl (ktu, 24, .inr (.inl ftu))), (cb, .inl (kcb, 25, .inl fcb)), (fr, .inr (3, [.int fmonths, .int ffull, .int flean, .ref fal, .ref fon])), (fal, .inl (kfal, 25, .inl ffal)), (fon, .inl (kfon, 275, .inl ffon))] H.size) [(am, .inr (0, [.int amonths, .int afull, .int alean, .int alines, .int ahasMoon, .int amoonStart, .int amoonStep, .int aplaceCount, .int areportCount, .int adeedCount, .ref pl, .ref re, .ref de])), (pl, .inl (kpl, 6, .inr (.inr (.inr (.inr (fun i => some (pa i))))))), (re, .inl (kre, 24, .inr (.inr (.inr (.inr (fun i => some (ra i)))))))] := (gz_apc (gz_apR (gz_ap1 hRA 0 rfl) hFc) (gz_apc (gz_apR (gz_ap1 hRA 1 rfl) hFc) (gz_apR (gz_ap1 hRA 2 rfl) hFc)))
    refine va_callv (va_runV (As := [.ref am, .int p1]) (rest := []) ⟨hx, hb, hml, hown, hts⟩ (sX1_judge l dC dI H.size co ve qu tu cb fr fal fon am pl re c_queueLength c_takenBits kve fve kqu fqu ktu ftu kcb fcb fmonths ffull flean kfal ffal kfon ffon amonths afull alean alines ahasMoon amoonStart amoonStep aplaceCount areportCount adeedCount de kpl kre pa p_name p_trust ra r_place r_kind r_month r_day r_known r_struck p1 gc_queueLength gfqu gfmonths gffull gflean gamonths gafull galean gahasMoon gaplaceCount gareportCount gadeedCount gr_place gr_month gr_struck) (cwV 2 hts (gz_gV mGA_443 mGA_444 mGA_445 mGA_22 mGA_446 goodGA) rfl rfl rfl (by decide +kernel) ⟨Nat.le_of_ble_eq_true rfl, Nat.le_of_ble_eq_true rfl⟩) ⟨fun a U g mk q => by obtain ⟨q0, q1, qP, qK, qD, qZ, qR, qRA, qF0, qFA0, qF1, qFA1⟩ := q; exact ⟨q0, q1, qP, va_K.moved (u := U) (U := U.calling g mk a) (Vm.Alike.refl U.vm) qK, qD, nzA_same (u := U) (U := U.calling g mk a) rfl qZ, qR, qRA, qF0, qFA0, qF1, qFA1⟩, va_recv hKc hPc (ci := 1) (q0 := 0) rfl rfl, fun U hU hW => ⟨rfl, by rw [hU], by rw [hU]; exact hPc, va_K.moved hW.alike hKc, hDc.weaken (fun _ _ _ _ => trivial), nzA_warm hW hz, by rw [hU]; exact hRc_, hRa_, by rw [hU]; exact gz_ro hF0 hFA0 hS, gz_apR hFA0 hFc, by rw [hU]; exact gz_ro hF1 hFA1 hS, gz_apR hFA1 hFc⟩⟩ rfl rfl hl.1 rfl (lv_room (Nat.le_of_ble_eq_true rfl)) dX11_courtBy_33 ⟨Nat.zero_le _, Nat.zero_le _⟩) hS (fun q _ h => hFc q h) hFc (fun u t H1 locs ht hvm hw hB hz1 hk1 hS => ?_)
    obtain ⟨y_65, y_66, y_67, y_68, y_69, f_70, f_71, f_72, f_73, f_74, f_75, gy_65, gy_67, gy_68, gy_69, gf_71, hP1, hD1⟩ := hB
    rw [ht] at hP1
    obtain ⟨hP, hD⟩ := va_join (wr := [(h0, .inr (11, [.ref xr, .ref am, .ref xs, .ref xf, .ref co, .ref oc, .ref ta, .ref xq, .ref xh, .ref xk, .ref xo, .int x_outLength, .int x_courtStands, .int x_courtNews, .int x_tallyStands, .int x_historyStands]))]) (w1 := [(co, .inr (1, [.ref fr, .ref ve, .ref qu, .ref tu, .ref cb, .int y_65, .int y_66])), (ve, .inl (kve, 24, .inl f_70)), (qu, .inl (kqu, 24, .inl f_71)), (tu, .inl (ktu, 24, .inr (.inl f_72))), (cb, .inl (kcb, 25, .inl f_73)), (fr, .inr (3, [.int y_67, .int y_68, .int y_69, .ref fal, .ref fon])), (fal, .inl (kfal, 25, .inl f_74)), (fon, .inl (kfon, 275, .inl f_75))]) hP hD [1, 2, 3, 4, 5, 6, 7, 8] [0] rfl rfl (by decide) (by decide) hk1 hFc hP1 hD1
    have hP := hP.sub (ws' := [(h0, .inr (11, [.ref xr, .ref am, .ref xs, .ref xf, .ref co, .ref oc, .ref ta, .ref xq, .ref xh, .ref xk, .ref xo, .int x_outLength, .int x_courtStands, .int x_courtNews, .int x_tallyStands, .int x_historyStands])), (co, .inr (1, [.ref fr, .ref ve, .ref qu, .ref tu, .ref cb, .int y_65, .int y_66])), (ve, .inl (kve, 24, .inl f_70)), (qu, .inl (kqu, 24, .inl f_71)), (tu, .inl (ktu, 24, .inr (.inl f_72))), (cb, .inl (kcb, 25, .inl f_73)), (fr, .inr (3, [.int y_67, .int y_68, .int y_69, .ref fal, .ref fon])), (fal, .inl (kfal, 25, .inl f_74)), (fon, .inl (kfon, 275, .inl f_75))]) [0, 1, 2, 3, 4, 5, 6, 7, 8] rfl
    have hD := hD.sub (ws' := [(h0, .inr (11, [.ref xr, .ref am, .ref xs, .ref xf, .ref co, .ref oc, .ref ta, .ref xq, .ref xh, .ref xk, .ref xo, .int x_outLength, .int x_courtStands, .int x_courtNews, .int x_tallyStands, .int x_historyStands])), (co, .inr (1, [.ref fr, .ref ve, .ref qu, .ref tu, .ref cb, .int y_65, .int y_66])), (ve, .inl (kve, 24, .inl f_70)), (qu, .inl (kqu, 24, .inl f_71)), (tu, .inl (ktu, 24, .inr (.inl f_72))), (cb, .inl (kcb, 25, .inl f_73)), (fr, .inr (3, [.int y_67, .int y_68, .int y_69, .ref fal, .ref fon])), (fal, .inl (kfal, 25, .inl f_74)), (fon, .inl (kfon, 275, .inl f_75))]) [0, 1, 2, 3, 4, 5, 6, 7, 8] (by decide) rfl
    generalize H1 = H at hP hS ⊢
    refine lv_aload_n hx hb dX11_courtBy_36 rfl (lv_at hl 1 rfl) ?_
    refine lv_iload_n hx hb dX11_courtBy_37 rfl (lv_at hl 0 rfl) ?_
    refine va_put (D := (dC, dI)) (ci := 11) (v := .int r_61) (ty := .int) (C := RX11) (T := TX11) (N := 16) hx hb hts (fun w h => List.mem_cons_of_mem _ (jnGA_X11 w h)) tyX11 tyX11_ok nmX11 hown hK hP hD hS 0 rfl rfl 13 (by decide) (hts _ (List.mem_cons_of_mem _ mGA_43)) (fun _ h9 => h9) rfl (by decide +kernel) rfl rfl (Nat.le_of_ble_eq_true rfl) dX11_courtBy_38 (fun H locs hP hD hS => ?_)
    have hP : va_P (dC, dI) vwCl [(h0, .inr (11, [.ref xr, .ref am, .ref xs, .ref xf, .ref co, .ref oc, .ref ta, .ref xq, .ref xh, .ref xk, .ref xo, .int x_outLength, .int x_courtStands, .int r_61, .int x_tallyStands, .int x_historyStands])), (co, .inr (1, [.ref fr, .ref ve, .ref qu, .ref tu, .ref cb, .int y_65, .int y_66])), (ve, .inl (kve, 24, .inl f_70)), (qu, .inl (kqu, 24, .inl f_71)), (tu, .inl (ktu, 24, .inr (.inl f_72))), (cb, .inl (kcb, 25, .inl f_73)), (fr, .inr (3, [.int y_67, .int y_68, .int y_69, .ref fal, .ref fon])), (fal, .inl (kfal, 25, .inl f_74)), (fon, .inl (kfon, 275, .inl f_75))] H := hP
    have hD : va_D A [(h0, .inr (11, [.ref xr, .ref am, .ref xs, .ref xf, .ref co, .ref oc, .ref ta, .ref xq, .ref xh, .ref xk, .ref xo, .int x_outLength, .int x_courtStands, .int r_61, .int x_tallyStands, .int x_historyStands])), (co, .inr (1, [.ref fr, .ref ve, .ref qu, .ref tu, .ref cb, .int y_65, .int y_66])), (ve, .inl (kve, 24, .inl f_70)), (qu, .inl (kqu, 24, .inl f_71)), (tu, .inl (ktu, 24, .inr (.inl f_72))), (cb, .inl (kcb, 25, .inl f_73)), (fr, .inr (3, [.int y_67, .int y_68, .int y_69, .ref fal, .ref fon])), (fal, .inl (kfal, 25, .inl f_74)), (fon, .inl (kfon, 275, .inl f_75))] := hD
    refine lv_aload_n hx hb dX11_courtBy_41 rfl (lv_at hl 1 rfl) ?_
    refine lv_iconst (v := 1) hx hb dX11_courtBy_42 (by decide) ?_
    refine va_put (D := (dC, dI)) (ci := 11) (v := .int 1) (ty := .boolean) (C := RX11) (T := TX11) (N := 16) hx hb hts (fun w h => List.mem_cons_of_mem _ (jnGA_X11 w h)) tyX11 tyX11_ok nmX11 hown hK hP hD hS 0 rfl rfl 12 (by decide) (hts _ (List.mem_cons_of_mem _ mGA_42)) (fun _ h9 => h9) rfl (by decide +kernel) rfl rfl (Nat.le_of_ble_eq_true rfl) dX11_courtBy_43 (fun H locs hP hD hS => ?_)
    have hP : va_P (dC, dI) vwCl [(h0, .inr (11, [.ref xr, .ref am, .ref xs, .ref xf, .ref co, .ref oc, .ref ta, .ref xq, .ref xh, .ref xk, .ref xo, .int x_outLength, .int 1, .int r_61, .int x_tallyStands, .int x_historyStands])), (co, .inr (1, [.ref fr, .ref ve, .ref qu, .ref tu, .ref cb, .int y_65, .int y_66])), (ve, .inl (kve, 24, .inl f_70)), (qu, .inl (kqu, 24, .inl f_71)), (tu, .inl (ktu, 24, .inr (.inl f_72))), (cb, .inl (kcb, 25, .inl f_73)), (fr, .inr (3, [.int y_67, .int y_68, .int y_69, .ref fal, .ref fon])), (fal, .inl (kfal, 25, .inl f_74)), (fon, .inl (kfon, 275, .inl f_75))] H := hP
    have hD : va_D A [(h0, .inr (11, [.ref xr, .ref am, .ref xs, .ref xf, .ref co, .ref oc, .ref ta, .ref xq, .ref xh, .ref xk, .ref xo, .int x_outLength, .int 1, .int r_61, .int x_tallyStands, .int x_historyStands])), (co, .inr (1, [.ref fr, .ref ve, .ref qu, .ref tu, .ref cb, .int y_65, .int y_66])), (ve, .inl (kve, 24, .inl f_70)), (qu, .inl (kqu, 24, .inl f_71)), (tu, .inl (ktu, 24, .inr (.inl f_72))), (cb, .inl (kcb, 25, .inl f_73)), (fr, .inr (3, [.int y_67, .int y_68, .int y_69, .ref fal, .ref fon])), (fal, .inl (kfal, 25, .inl f_74)), (fon, .inl (kfon, 275, .inl f_75))] := hD
    refine lv_aload_n hx hb dX11_courtBy_46 rfl (lv_at hl 1 rfl) ?_
    refine lv_iconst (v := 0) hx hb dX11_courtBy_47 (by decide) ?_
    refine va_put (D := (dC, dI)) (ci := 11) (v := .int 0) (ty := .boolean) (C := RX11) (T := TX11) (N := 16) hx hb hts (fun w h => List.mem_cons_of_mem _ (jnGA_X11 w h)) tyX11 tyX11_ok nmX11 hown hK hP hD hS 0 rfl rfl 14 (by decide) (hts _ (List.mem_cons_of_mem _ mGA_44)) (fun _ h9 => h9) rfl (by decide +kernel) rfl rfl (Nat.le_of_ble_eq_true rfl) dX11_courtBy_48 (fun H locs hP hD hS => ?_)
    have hP : va_P (dC, dI) vwCl [(h0, .inr (11, [.ref xr, .ref am, .ref xs, .ref xf, .ref co, .ref oc, .ref ta, .ref xq, .ref xh, .ref xk, .ref xo, .int x_outLength, .int 1, .int r_61, .int 0, .int x_historyStands])), (co, .inr (1, [.ref fr, .ref ve, .ref qu, .ref tu, .ref cb, .int y_65, .int y_66])), (ve, .inl (kve, 24, .inl f_70)), (qu, .inl (kqu, 24, .inl f_71)), (tu, .inl (ktu, 24, .inr (.inl f_72))), (cb, .inl (kcb, 25, .inl f_73)), (fr, .inr (3, [.int y_67, .int y_68, .int y_69, .ref fal, .ref fon])), (fal, .inl (kfal, 25, .inl f_74)), (fon, .inl (kfon, 275, .inl f_75))] H := hP
    have hD : va_D A [(h0, .inr (11, [.ref xr, .ref am, .ref xs, .ref xf, .ref co, .ref oc, .ref ta, .ref xq, .ref xh, .ref xk, .ref xo, .int x_outLength, .int 1, .int r_61, .int 0, .int x_historyStands])), (co, .inr (1, [.ref fr, .ref ve, .ref qu, .ref tu, .ref cb, .int y_65, .int y_66])), (ve, .inl (kve, 24, .inl f_70)), (qu, .inl (kqu, 24, .inl f_71)), (tu, .inl (ktu, 24, .inr (.inl f_72))), (cb, .inl (kcb, 25, .inl f_73)), (fr, .inr (3, [.int y_67, .int y_68, .int y_69, .ref fal, .ref fon])), (fal, .inl (kfal, 25, .inl f_74)), (fon, .inl (kfon, 275, .inl f_75))] := hD
    refine lv_aload_n hx hb dX11_courtBy_51 rfl (lv_at hl 1 rfl) ?_
    refine va_get (D := (dC, dI)) (ci := 11) (v := .ref co) (C := RX11) (T := TX11) (N := 16) hx hb hts (fun w h => List.mem_cons_of_mem _ (jnGA_X11 w h)) hown hK hP 0 rfl rfl 4 (by decide) (hts _ (List.mem_cons_of_mem _ mGA_23)) (fun _ h9 => h9) rfl dX11_courtBy_52 ?_
    exact W.aret (v := .ref co) hx hb hr (Or.inl ⟨_, rfl⟩) (Or.inr ⟨_, rfl⟩) (fun t ht hW => ⟨⟨(), co, rfl, trivial, rfl, 1, r_61, 0, y_65, y_66, y_67, y_68, y_69, f_70, f_71, f_72, f_73, f_74, f_75, (gi_w (gi_c 1 1 (by decide)) (by decide)), (gi_w (gi_c 0 0 (by decide)) (by decide)), gy_65, gy_67, gy_68, gy_69, gf_71, by rw [ht]; exact hP, hD⟩, hS.F ht⟩) hS.2.2 dX11_courtBy_55
  · have g_76 : gi x_courtStands 1 1 := gi_ne_lo c_62 gx_courtStands (gi_c 0 0 (by decide)) (by decide)
    refine lv_iload_n hx hb dX11_courtBy_16 rfl (lv_at hl 0 rfl) ?_
    refine lv_aload_n hx hb dX11_courtBy_17 rfl (lv_at hl 1 rfl) ?_
    refine va_get (D := (dC, dI)) (ci := 11) (v := .int x_courtNews) (C := RX11) (T := TX11) (N := 16) hx hb hts (fun w h => List.mem_cons_of_mem _ (jnGA_X11 w h)) hown hK hP 0 rfl rfl 13 (by decide) (hts _ (List.mem_cons_of_mem _ mGA_43)) (fun _ h9 => h9) rfl dX11_courtBy_18 ?_
    refine lv_icmp_eq (tgt := 51) hx hb dX11_courtBy_21 (by decide) (fun c_77 => ?_) (fun c_77 => ?_)
    · have g_78 : gi x_courtNews (-1) 2147483647 := gi_eq c_77.symm gr_61
      refine lv_aload_n hx hb dX11_courtBy_51 rfl (lv_at hl 1 rfl) ?_
      refine va_get (D := (dC, dI)) (ci := 11) (v := .ref co) (C := RX11) (T := TX11) (N := 16) hx hb hts (fun w h => List.mem_cons_of_mem _ (jnGA_X11 w h)) hown hK hP 0 rfl rfl 4 (by decide) (hts _ (List.mem_cons_of_mem _ mGA_23)) (fun _ h9 => h9) rfl dX11_courtBy_52 ?_
      exact W.aret (v := .ref co) hx hb hr (Or.inl ⟨_, rfl⟩) (Or.inr ⟨_, rfl⟩) (fun t ht hW => ⟨⟨(), co, rfl, trivial, rfl, x_courtStands, x_courtNews, x_tallyStands, c_queueLength, c_takenBits, fmonths, ffull, flean, fve, fqu, ftu, fcb, ffal, ffon, (gi_w g_76 (by decide)), gx_tallyStands, gc_queueLength, gfmonths, gffull, gflean, gfqu, by rw [ht]; exact hP, hD⟩, hS.F ht⟩) hS.2.2 dX11_courtBy_55
    · refine lv_aload_n hx hb dX11_courtBy_24 rfl (lv_at hl 1 rfl) ?_
      refine va_get (D := (dC, dI)) (ci := 11) (v := .ref co) (C := RX11) (T := TX11) (N := 16) hx hb hts (fun w h => List.mem_cons_of_mem _ (jnGA_X11 w h)) hown hK hP 0 rfl rfl 4 (by decide) (hts _ (List.mem_cons_of_mem _ mGA_23)) (fun _ h9 => h9) rfl dX11_courtBy_25 ?_
      refine lv_aload_n hx hb dX11_courtBy_28 rfl (lv_at hl 1 rfl) ?_
      refine va_get (D := (dC, dI)) (ci := 11) (v := .ref am) (C := RX11) (T := TX11) (N := 16) hx hb hts (fun w h => List.mem_cons_of_mem _ (jnGA_X11 w h)) hown hK hP 0 rfl rfl 1 (by decide) (hts _ (List.mem_cons_of_mem _ mGA_14)) (fun _ h9 => h9) rfl dX11_courtBy_29 ?_
      refine lv_iload_n hx hb dX11_courtBy_32 rfl (lv_at hl 2 rfl) ?_
      have hPc := hP.sub (ws' := [(co, .inr (1, [.ref fr, .ref ve, .ref qu, .ref tu, .ref cb, .int c_queueLength, .int c_takenBits])), (ve, .inl (kve, 24, .inl fve)), (qu, .inl (kqu, 24, .inl fqu)), (tu, .inl (ktu, 24, .inr (.inl ftu))), (cb, .inl (kcb, 25, .inl fcb)), (fr, .inr (3, [.int fmonths, .int ffull, .int flean, .ref fal, .ref fon])), (fal, .inl (kfal, 25, .inl ffal)), (fon, .inl (kfon, 275, .inl ffon))]) [1, 2, 3, 4, 5, 6, 7, 8] rfl
      have hKc := hK.sub (tys' := [(kve, .int), (kqu, .int), (ktu, .long), (kcb, .int), (kfal, .int), (kfon, .int), (kpl, .object RX5), (kre, .object RX7)]) [0, 1, 2, 3, 4, 5, 6, 7] rfl
      have hDc := hD.sub (ws' := [(co, .inr (1, [.ref fr, .ref ve, .ref qu, .ref tu, .ref cb, .int c_queueLength, .int c_takenBits])), (ve, .inl (kve, 24, .inl fve)), (qu, .inl (kqu, 24, .inl fqu)), (tu, .inl (ktu, 24, .inr (.inl ftu))), (cb, .inl (kcb, 25, .inl fcb)), (fr, .inr (3, [.int fmonths, .int ffull, .int flean, .ref fal, .ref fon])), (fal, .inl (kfal, 25, .inl ffal)), (fon, .inl (kfon, 275, .inl ffon))]) [1, 2, 3, 4, 5, 6, 7, 8] (by decide) rfl
      have hFc := va_free (wc := [(co, .inr (1, [.ref fr, .ref ve, .ref qu, .ref tu, .ref cb, .int c_queueLength, .int c_takenBits])), (ve, .inl (kve, 24, .inl fve)), (qu, .inl (kqu, 24, .inl fqu)), (tu, .inl (ktu, 24, .inr (.inl ftu))), (cb, .inl (kcb, 25, .inl fcb)), (fr, .inr (3, [.int fmonths, .int ffull, .int flean, .ref fal, .ref fon])), (fal, .inl (kfal, 25, .inl ffal)), (fon, .inl (kfon, 275, .inl ffon))]) hD hS hA [1, 2, 3, 4, 5, 6, 7, 8] rfl
      have hRc_ : va_P (dC, dI) vwCl [(am, .inr (0, [.int amonths, .int afull, .int alean, .int alines, .int ahasMoon, .int amoonStart, .int amoonStep, .int aplaceCount, .int areportCount, .int adeedCount, .ref pl, .ref re, .ref de])), (pl, .inl (kpl, 6, .inr (.inr (.inr (.inr (fun i => some (pa i))))))), (re, .inl (kre, 24, .inr (.inr (.inr (.inr (fun i => some (ra i)))))))] H := (gz_cat ((gz_ro hR hRA hS).sub [0] rfl) (gz_cat ((gz_ro hR hRA hS).sub [1] rfl) ((gz_ro hR hRA hS).sub [2] rfl)))
      have hRa_ : gz_ap (va_A [(co, .inr (1, [.ref fr, .ref ve, .ref qu, .ref tu, .ref cb, .int c_queueLength, .int c_takenBits])), (ve, .inl (kve, 24, .inl fve)), (qu, .inl (kqu, 24, .inl fqu)), (tu, .inl (ktu, 24, .inr (.inl ftu))), (cb, .inl (kcb, 25, .inl fcb)), (fr, .inr (3, [.int fmonths, .int ffull, .int flean, .ref fal, .ref fon])), (fal, .inl (kfal, 25, .inl ffal)), (fon, .inl (kfon, 275, .inl ffon))] H.size) [(am, .inr (0, [.int amonths, .int afull, .int alean, .int alines, .int ahasMoon, .int amoonStart, .int amoonStep, .int aplaceCount, .int areportCount, .int adeedCount, .ref pl, .ref re, .ref de])), (pl, .inl (kpl, 6, .inr (.inr (.inr (.inr (fun i => some (pa i))))))), (re, .inl (kre, 24, .inr (.inr (.inr (.inr (fun i => some (ra i)))))))] := (gz_apc (gz_apR (gz_ap1 hRA 0 rfl) hFc) (gz_apc (gz_apR (gz_ap1 hRA 1 rfl) hFc) (gz_apR (gz_ap1 hRA 2 rfl) hFc)))
      refine va_callv (va_runV (As := [.ref am, .int p1]) (rest := []) ⟨hx, hb, hml, hown, hts⟩ (sX1_judge l dC dI H.size co ve qu tu cb fr fal fon am pl re c_queueLength c_takenBits kve fve kqu fqu ktu ftu kcb fcb fmonths ffull flean kfal ffal kfon ffon amonths afull alean alines ahasMoon amoonStart amoonStep aplaceCount areportCount adeedCount de kpl kre pa p_name p_trust ra r_place r_kind r_month r_day r_known r_struck p1 gc_queueLength gfqu gfmonths gffull gflean gamonths gafull galean gahasMoon gaplaceCount gareportCount gadeedCount gr_place gr_month gr_struck) (cwV 2 hts (gz_gV mGA_443 mGA_444 mGA_445 mGA_22 mGA_446 goodGA) rfl rfl rfl (by decide +kernel) ⟨Nat.le_of_ble_eq_true rfl, Nat.le_of_ble_eq_true rfl⟩) ⟨fun a U g mk q => by obtain ⟨q0, q1, qP, qK, qD, qZ, qR, qRA, qF0, qFA0, qF1, qFA1⟩ := q; exact ⟨q0, q1, qP, va_K.moved (u := U) (U := U.calling g mk a) (Vm.Alike.refl U.vm) qK, qD, nzA_same (u := U) (U := U.calling g mk a) rfl qZ, qR, qRA, qF0, qFA0, qF1, qFA1⟩, va_recv hKc hPc (ci := 1) (q0 := 0) rfl rfl, fun U hU hW => ⟨rfl, by rw [hU], by rw [hU]; exact hPc, va_K.moved hW.alike hKc, hDc.weaken (fun _ _ _ _ => trivial), nzA_warm hW hz, by rw [hU]; exact hRc_, hRa_, by rw [hU]; exact gz_ro hF0 hFA0 hS, gz_apR hFA0 hFc, by rw [hU]; exact gz_ro hF1 hFA1 hS, gz_apR hFA1 hFc⟩⟩ rfl rfl hl.1 rfl (lv_room (Nat.le_of_ble_eq_true rfl)) dX11_courtBy_33 ⟨Nat.zero_le _, Nat.zero_le _⟩) hS (fun q _ h => hFc q h) hFc (fun u t H1 locs ht hvm hw hB hz1 hk1 hS => ?_)
      obtain ⟨y_80, y_81, y_82, y_83, y_84, f_85, f_86, f_87, f_88, f_89, f_90, gy_80, gy_82, gy_83, gy_84, gf_86, hP1, hD1⟩ := hB
      rw [ht] at hP1
      obtain ⟨hP, hD⟩ := va_join (wr := [(h0, .inr (11, [.ref xr, .ref am, .ref xs, .ref xf, .ref co, .ref oc, .ref ta, .ref xq, .ref xh, .ref xk, .ref xo, .int x_outLength, .int x_courtStands, .int x_courtNews, .int x_tallyStands, .int x_historyStands]))]) (w1 := [(co, .inr (1, [.ref fr, .ref ve, .ref qu, .ref tu, .ref cb, .int y_80, .int y_81])), (ve, .inl (kve, 24, .inl f_85)), (qu, .inl (kqu, 24, .inl f_86)), (tu, .inl (ktu, 24, .inr (.inl f_87))), (cb, .inl (kcb, 25, .inl f_88)), (fr, .inr (3, [.int y_82, .int y_83, .int y_84, .ref fal, .ref fon])), (fal, .inl (kfal, 25, .inl f_89)), (fon, .inl (kfon, 275, .inl f_90))]) hP hD [1, 2, 3, 4, 5, 6, 7, 8] [0] rfl rfl (by decide) (by decide) hk1 hFc hP1 hD1
      have hP := hP.sub (ws' := [(h0, .inr (11, [.ref xr, .ref am, .ref xs, .ref xf, .ref co, .ref oc, .ref ta, .ref xq, .ref xh, .ref xk, .ref xo, .int x_outLength, .int x_courtStands, .int x_courtNews, .int x_tallyStands, .int x_historyStands])), (co, .inr (1, [.ref fr, .ref ve, .ref qu, .ref tu, .ref cb, .int y_80, .int y_81])), (ve, .inl (kve, 24, .inl f_85)), (qu, .inl (kqu, 24, .inl f_86)), (tu, .inl (ktu, 24, .inr (.inl f_87))), (cb, .inl (kcb, 25, .inl f_88)), (fr, .inr (3, [.int y_82, .int y_83, .int y_84, .ref fal, .ref fon])), (fal, .inl (kfal, 25, .inl f_89)), (fon, .inl (kfon, 275, .inl f_90))]) [0, 1, 2, 3, 4, 5, 6, 7, 8] rfl
      have hD := hD.sub (ws' := [(h0, .inr (11, [.ref xr, .ref am, .ref xs, .ref xf, .ref co, .ref oc, .ref ta, .ref xq, .ref xh, .ref xk, .ref xo, .int x_outLength, .int x_courtStands, .int x_courtNews, .int x_tallyStands, .int x_historyStands])), (co, .inr (1, [.ref fr, .ref ve, .ref qu, .ref tu, .ref cb, .int y_80, .int y_81])), (ve, .inl (kve, 24, .inl f_85)), (qu, .inl (kqu, 24, .inl f_86)), (tu, .inl (ktu, 24, .inr (.inl f_87))), (cb, .inl (kcb, 25, .inl f_88)), (fr, .inr (3, [.int y_82, .int y_83, .int y_84, .ref fal, .ref fon])), (fal, .inl (kfal, 25, .inl f_89)), (fon, .inl (kfon, 275, .inl f_90))]) [0, 1, 2, 3, 4, 5, 6, 7, 8] (by decide) rfl
      generalize H1 = H at hP hS ⊢
      refine lv_aload_n hx hb dX11_courtBy_36 rfl (lv_at hl 1 rfl) ?_
      refine lv_iload_n hx hb dX11_courtBy_37 rfl (lv_at hl 0 rfl) ?_
      refine va_put (D := (dC, dI)) (ci := 11) (v := .int r_61) (ty := .int) (C := RX11) (T := TX11) (N := 16) hx hb hts (fun w h => List.mem_cons_of_mem _ (jnGA_X11 w h)) tyX11 tyX11_ok nmX11 hown hK hP hD hS 0 rfl rfl 13 (by decide) (hts _ (List.mem_cons_of_mem _ mGA_43)) (fun _ h9 => h9) rfl (by decide +kernel) rfl rfl (Nat.le_of_ble_eq_true rfl) dX11_courtBy_38 (fun H locs hP hD hS => ?_)
      have hP : va_P (dC, dI) vwCl [(h0, .inr (11, [.ref xr, .ref am, .ref xs, .ref xf, .ref co, .ref oc, .ref ta, .ref xq, .ref xh, .ref xk, .ref xo, .int x_outLength, .int x_courtStands, .int r_61, .int x_tallyStands, .int x_historyStands])), (co, .inr (1, [.ref fr, .ref ve, .ref qu, .ref tu, .ref cb, .int y_80, .int y_81])), (ve, .inl (kve, 24, .inl f_85)), (qu, .inl (kqu, 24, .inl f_86)), (tu, .inl (ktu, 24, .inr (.inl f_87))), (cb, .inl (kcb, 25, .inl f_88)), (fr, .inr (3, [.int y_82, .int y_83, .int y_84, .ref fal, .ref fon])), (fal, .inl (kfal, 25, .inl f_89)), (fon, .inl (kfon, 275, .inl f_90))] H := hP
      have hD : va_D A [(h0, .inr (11, [.ref xr, .ref am, .ref xs, .ref xf, .ref co, .ref oc, .ref ta, .ref xq, .ref xh, .ref xk, .ref xo, .int x_outLength, .int x_courtStands, .int r_61, .int x_tallyStands, .int x_historyStands])), (co, .inr (1, [.ref fr, .ref ve, .ref qu, .ref tu, .ref cb, .int y_80, .int y_81])), (ve, .inl (kve, 24, .inl f_85)), (qu, .inl (kqu, 24, .inl f_86)), (tu, .inl (ktu, 24, .inr (.inl f_87))), (cb, .inl (kcb, 25, .inl f_88)), (fr, .inr (3, [.int y_82, .int y_83, .int y_84, .ref fal, .ref fon])), (fal, .inl (kfal, 25, .inl f_89)), (fon, .inl (kfon, 275, .inl f_90))] := hD
      refine lv_aload_n hx hb dX11_courtBy_41 rfl (lv_at hl 1 rfl) ?_
      refine lv_iconst (v := 1) hx hb dX11_courtBy_42 (by decide) ?_
      refine va_put (D := (dC, dI)) (ci := 11) (v := .int 1) (ty := .boolean) (C := RX11) (T := TX11) (N := 16) hx hb hts (fun w h => List.mem_cons_of_mem _ (jnGA_X11 w h)) tyX11 tyX11_ok nmX11 hown hK hP hD hS 0 rfl rfl 12 (by decide) (hts _ (List.mem_cons_of_mem _ mGA_42)) (fun _ h9 => h9) rfl (by decide +kernel) rfl rfl (Nat.le_of_ble_eq_true rfl) dX11_courtBy_43 (fun H locs hP hD hS => ?_)
      have hP : va_P (dC, dI) vwCl [(h0, .inr (11, [.ref xr, .ref am, .ref xs, .ref xf, .ref co, .ref oc, .ref ta, .ref xq, .ref xh, .ref xk, .ref xo, .int x_outLength, .int 1, .int r_61, .int x_tallyStands, .int x_historyStands])), (co, .inr (1, [.ref fr, .ref ve, .ref qu, .ref tu, .ref cb, .int y_80, .int y_81])), (ve, .inl (kve, 24, .inl f_85)), (qu, .inl (kqu, 24, .inl f_86)), (tu, .inl (ktu, 24, .inr (.inl f_87))), (cb, .inl (kcb, 25, .inl f_88)), (fr, .inr (3, [.int y_82, .int y_83, .int y_84, .ref fal, .ref fon])), (fal, .inl (kfal, 25, .inl f_89)), (fon, .inl (kfon, 275, .inl f_90))] H := hP
      have hD : va_D A [(h0, .inr (11, [.ref xr, .ref am, .ref xs, .ref xf, .ref co, .ref oc, .ref ta, .ref xq, .ref xh, .ref xk, .ref xo, .int x_outLength, .int 1, .int r_61, .int x_tallyStands, .int x_historyStands])), (co, .inr (1, [.ref fr, .ref ve, .ref qu, .ref tu, .ref cb, .int y_80, .int y_81])), (ve, .inl (kve, 24, .inl f_85)), (qu, .inl (kqu, 24, .inl f_86)), (tu, .inl (ktu, 24, .inr (.inl f_87))), (cb, .inl (kcb, 25, .inl f_88)), (fr, .inr (3, [.int y_82, .int y_83, .int y_84, .ref fal, .ref fon])), (fal, .inl (kfal, 25, .inl f_89)), (fon, .inl (kfon, 275, .inl f_90))] := hD
      refine lv_aload_n hx hb dX11_courtBy_46 rfl (lv_at hl 1 rfl) ?_
      refine lv_iconst (v := 0) hx hb dX11_courtBy_47 (by decide) ?_
      refine va_put (D := (dC, dI)) (ci := 11) (v := .int 0) (ty := .boolean) (C := RX11) (T := TX11) (N := 16) hx hb hts (fun w h => List.mem_cons_of_mem _ (jnGA_X11 w h)) tyX11 tyX11_ok nmX11 hown hK hP hD hS 0 rfl rfl 14 (by decide) (hts _ (List.mem_cons_of_mem _ mGA_44)) (fun _ h9 => h9) rfl (by decide +kernel) rfl rfl (Nat.le_of_ble_eq_true rfl) dX11_courtBy_48 (fun H locs hP hD hS => ?_)
      have hP : va_P (dC, dI) vwCl [(h0, .inr (11, [.ref xr, .ref am, .ref xs, .ref xf, .ref co, .ref oc, .ref ta, .ref xq, .ref xh, .ref xk, .ref xo, .int x_outLength, .int 1, .int r_61, .int 0, .int x_historyStands])), (co, .inr (1, [.ref fr, .ref ve, .ref qu, .ref tu, .ref cb, .int y_80, .int y_81])), (ve, .inl (kve, 24, .inl f_85)), (qu, .inl (kqu, 24, .inl f_86)), (tu, .inl (ktu, 24, .inr (.inl f_87))), (cb, .inl (kcb, 25, .inl f_88)), (fr, .inr (3, [.int y_82, .int y_83, .int y_84, .ref fal, .ref fon])), (fal, .inl (kfal, 25, .inl f_89)), (fon, .inl (kfon, 275, .inl f_90))] H := hP
      have hD : va_D A [(h0, .inr (11, [.ref xr, .ref am, .ref xs, .ref xf, .ref co, .ref oc, .ref ta, .ref xq, .ref xh, .ref xk, .ref xo, .int x_outLength, .int 1, .int r_61, .int 0, .int x_historyStands])), (co, .inr (1, [.ref fr, .ref ve, .ref qu, .ref tu, .ref cb, .int y_80, .int y_81])), (ve, .inl (kve, 24, .inl f_85)), (qu, .inl (kqu, 24, .inl f_86)), (tu, .inl (ktu, 24, .inr (.inl f_87))), (cb, .inl (kcb, 25, .inl f_88)), (fr, .inr (3, [.int y_82, .int y_83, .int y_84, .ref fal, .ref fon])), (fal, .inl (kfal, 25, .inl f_89)), (fon, .inl (kfon, 275, .inl f_90))] := hD
      refine lv_aload_n hx hb dX11_courtBy_51 rfl (lv_at hl 1 rfl) ?_
      refine va_get (D := (dC, dI)) (ci := 11) (v := .ref co) (C := RX11) (T := TX11) (N := 16) hx hb hts (fun w h => List.mem_cons_of_mem _ (jnGA_X11 w h)) hown hK hP 0 rfl rfl 4 (by decide) (hts _ (List.mem_cons_of_mem _ mGA_23)) (fun _ h9 => h9) rfl dX11_courtBy_52 ?_
      exact W.aret (v := .ref co) hx hb hr (Or.inl ⟨_, rfl⟩) (Or.inr ⟨_, rfl⟩) (fun t ht hW => ⟨⟨(), co, rfl, trivial, rfl, 1, r_61, 0, y_80, y_81, y_82, y_83, y_84, f_85, f_86, f_87, f_88, f_89, f_90, (gi_w (gi_c 1 1 (by decide)) (by decide)), (gi_w (gi_c 0 0 (by decide)) (by decide)), gy_80, gy_82, gy_83, gy_84, gf_86, by rw [ht]; exact hP, hD⟩, hS.F ht⟩) hS.2.2 dX11_courtBy_55
theorem dX11_tallyBy_0 : decode cX11_tallyBy 0 = .ok (.aload_n 0, 1) := by decide +kernel
theorem dX11_tallyBy_1 : decode cX11_tallyBy 1 = .ok (.iload_n 1, 1) := by decide +kernel
theorem dX11_tallyBy_2 : decode cX11_tallyBy 2 = .ok (.invokevirtual 219, 3) := by decide +kernel
theorem dX11_tallyBy_5 : decode cX11_tallyBy 5 = .ok (.astore_n 2, 1) := by decide +kernel
theorem dX11_tallyBy_6 : decode cX11_tallyBy 6 = .ok (.aload_n 0, 1) := by decide +kernel
theorem dX11_tallyBy_7 : decode cX11_tallyBy 7 = .ok (.getfield 83, 3) := by decide +kernel
theorem dX11_tallyBy_10 : decode cX11_tallyBy 10 = .ok (.ifCond .ne 19, 3) := by decide +kernel
theorem dX11_tallyBy_13 : decode cX11_tallyBy 13 = .ok (.aload_n 0, 1) := by decide +kernel
theorem dX11_tallyBy_14 : decode cX11_tallyBy 14 = .ok (.getfield 46, 3) := by decide +kernel
theorem dX11_tallyBy_17 : decode cX11_tallyBy 17 = .ok (.aload_n 2, 1) := by decide +kernel
theorem dX11_tallyBy_18 : decode cX11_tallyBy 18 = .ok (.getfield 338, 3) := by decide +kernel
theorem dX11_tallyBy_21 : decode cX11_tallyBy 21 = .ok (.invokevirtual 406, 3) := by decide +kernel
theorem dX11_tallyBy_24 : decode cX11_tallyBy 24 = .ok (.aload_n 0, 1) := by decide +kernel
theorem dX11_tallyBy_25 : decode cX11_tallyBy 25 = .ok (.iconst 1, 1) := by decide +kernel
theorem dX11_tallyBy_26 : decode cX11_tallyBy 26 = .ok (.putfield 83, 3) := by decide +kernel
theorem dX11_tallyBy_29 : decode cX11_tallyBy 29 = .ok (.aload_n 0, 1) := by decide +kernel
theorem dX11_tallyBy_30 : decode cX11_tallyBy 30 = .ok (.getfield 46, 3) := by decide +kernel
theorem dX11_tallyBy_33 : decode cX11_tallyBy 33 = .ok (.areturn, 1) := by decide +kernel
set_option maxHeartbeats 4000000 in
set_option maxRecDepth 100000 in
theorem sX11_tallyBy (l : Launch) (dC : Nat → ClassId) (dI : Nat → Nat → Nat) (sz : Nat) (h0 : Nat) (co : Nat) (ve : Nat) (qu : Nat) (tu : Nat) (cb : Nat) (fr : Nat) (fal : Nat) (fon : Nat) (ta : Nat) (bf : Nat) (bh : Nat) (sa : Nat) (am : Nat) (pl : Nat) (re : Nat) (xr : Nat) (xs : Nat) (xf : Nat) (oc : Nat) (xq : Nat) (xh : Nat) (xk : Nat) (xo : Nat) (x_outLength : Int32) (x_courtStands : Int32) (x_courtNews : Int32) (x_tallyStands : Int32) (x_historyStands : Int32) (c_queueLength : Int32) (c_takenBits : Int32) (kve : ClassId) (fve : Nat → Int32) (kqu : ClassId) (fqu : Nat → Int32) (ktu : ClassId) (ftu : Nat → Int64) (kcb : ClassId) (fcb : Nat → Int32) (fmonths : Int32) (ffull : Int32) (flean : Int32) (kfal : ClassId) (ffal : Nat → Int32) (kfon : ClassId) (ffon : Nat → Int32) (t_months : Int32) (t_full : Int32) (t_lean : Int32) (kbf : ClassId) (fbf : Nat → Int32) (kbh : ClassId) (fbh : Nat → Int32) (ksa : ClassId) (fsa : Nat → Int32) (amonths : Int32) (afull : Int32) (alean : Int32) (alines : Int32) (ahasMoon : Int32) (amoonStart : Int32) (amoonStep : Int32) (aplaceCount : Int32) (areportCount : Int32) (adeedCount : Int32) (de : Nat) (kpl : ClassId) (kre : ClassId) (pa : Nat → Nat) (p_name : Nat → Int32) (p_trust : Nat → Int32) (ra : Nat → Nat) (r_place : Nat → Int32) (r_kind : Nat → Int32) (r_month : Nat → Int32) (r_day : Nat → Int32) (r_known : Nat → Int32) (r_struck : Nat → Int32) (p1 : Int32) (gx_outLength : gi x_outLength 0 72) (gx_courtStands : gi x_courtStands 0 1) (gx_tallyStands : gi x_tallyStands 0 1) (gx_historyStands : gi x_historyStands 0 1) (gc_queueLength : gi c_queueLength 0 24) (gfqu : ga fqu 24 0 23) (gfmonths : gi fmonths 0 24) (gffull : gi ffull 0 5) (gflean : gi flean 0 5) (gt_months : gi t_months 0 24) (gt_full : gi t_full 0 5) (gt_lean : gi t_lean 0 5) (gamonths : gi amonths 0 24) (gafull : gi afull 0 5) (galean : gi alean 0 5) (gahasMoon : gi ahasMoon 0 1) (gaplaceCount : gi aplaceCount 0 6) (gareportCount : gi areportCount 0 24) (gadeedCount : gi adeedCount 0 8) (gr_place : ga r_place 24 0 5) (gr_month : ga r_month 24 0 23) (gr_struck : ga r_struck 24 0 1) : Met l yX11_tallyBy (.code yX11_tallyBy cX11_tallyBy 3 (some (.object "SightedMonths$Tally")) :: wsGA) ({ frames := 5, cells := 0, slots := 0, locals := 117 }) (va_Pc [.ref h0, .int p1] (fun U => U.heap.size = sz ∧ va_P (dC, dI) vwCl [(h0, .inr (11, [.ref xr, .ref am, .ref xs, .ref xf, .ref co, .ref oc, .ref ta, .ref xq, .ref xh, .ref xk, .ref xo, .int x_outLength, .int x_courtStands, .int x_courtNews, .int x_tallyStands, .int x_historyStands])), (co, .inr (1, [.ref fr, .ref ve, .ref qu, .ref tu, .ref cb, .int c_queueLength, .int c_takenBits])), (ve, .inl (kve, 24, .inl fve)), (qu, .inl (kqu, 24, .inl fqu)), (tu, .inl (ktu, 24, .inr (.inl ftu))), (cb, .inl (kcb, 25, .inl fcb)), (fr, .inr (3, [.int fmonths, .int ffull, .int flean, .ref fal, .ref fon])), (fal, .inl (kfal, 25, .inl ffal)), (fon, .inl (kfon, 275, .inl ffon)), (ta, .inr (9, [.ref bf, .ref bh, .ref sa, .int t_months, .int t_full, .int t_lean])), (bf, .inl (kbf, 3575, .inl fbf)), (bh, .inl (kbh, 3575, .inl fbh)), (sa, .inl (ksa, 325, .inl fsa))] U.heap ∧ va_K (dC, dI) vwCl [(kve, .int), (kqu, .int), (ktu, .long), (kcb, .int), (kfal, .int), (kfon, .int), (kbf, .int), (kbh, .int), (ksa, .int), (kpl, .object RX5), (kre, .object RX7)] U ∧ va_D (fun _ => True) [(h0, .inr (11, [.ref xr, .ref am, .ref xs, .ref xf, .ref co, .ref oc, .ref ta, .ref xq, .ref xh, .ref xk, .ref xo, .int x_outLength, .int x_courtStands, .int x_courtNews, .int x_tallyStands, .int x_historyStands])), (co, .inr (1, [.ref fr, .ref ve, .ref qu, .ref tu, .ref cb, .int c_queueLength, .int c_takenBits])), (ve, .inl (kve, 24, .inl fve)), (qu, .inl (kqu, 24, .inl fqu)), (tu, .inl (ktu, 24, .inr (.inl ftu))), (cb, .inl (kcb, 25, .inl fcb)), (fr, .inr (3, [.int fmonths, .int ffull, .int flean, .ref fal, .ref fon])), (fal, .inl (kfal, 25, .inl ffal)), (fon, .inl (kfon, 275, .inl ffon)), (ta, .inr (9, [.ref bf, .ref bh, .ref sa, .int t_months, .int t_full, .int t_lean])), (bf, .inl (kbf, 3575, .inl fbf)), (bh, .inl (kbh, 3575, .inl fbh)), (sa, .inl (ksa, 325, .inl fsa))] ∧ nzA U ∧ va_P (dC, dI) vwCl [(am, .inr (0, [.int amonths, .int afull, .int alean, .int alines, .int ahasMoon, .int amoonStart, .int amoonStep, .int aplaceCount, .int areportCount, .int adeedCount, .ref pl, .ref re, .ref de])), (pl, .inl (kpl, 6, .inr (.inr (.inr (.inr (fun i => some (pa i))))))), (re, .inl (kre, 24, .inr (.inr (.inr (.inr (fun i => some (ra i)))))))] U.heap ∧ gz_ap (va_A [(h0, .inr (11, [.ref xr, .ref am, .ref xs, .ref xf, .ref co, .ref oc, .ref ta, .ref xq, .ref xh, .ref xk, .ref xo, .int x_outLength, .int x_courtStands, .int x_courtNews, .int x_tallyStands, .int x_historyStands])), (co, .inr (1, [.ref fr, .ref ve, .ref qu, .ref tu, .ref cb, .int c_queueLength, .int c_takenBits])), (ve, .inl (kve, 24, .inl fve)), (qu, .inl (kqu, 24, .inl fqu)), (tu, .inl (ktu, 24, .inr (.inl ftu))), (cb, .inl (kcb, 25, .inl fcb)), (fr, .inr (3, [.int fmonths, .int ffull, .int flean, .ref fal, .ref fon])), (fal, .inl (kfal, 25, .inl ffal)), (fon, .inl (kfon, 275, .inl ffon)), (ta, .inr (9, [.ref bf, .ref bh, .ref sa, .int t_months, .int t_full, .int t_lean])), (bf, .inl (kbf, 3575, .inl fbf)), (bh, .inl (kbh, 3575, .inl fbh)), (sa, .inl (ksa, 325, .inl fsa))] sz) [(am, .inr (0, [.int amonths, .int afull, .int alean, .int alines, .int ahasMoon, .int amoonStart, .int amoonStep, .int aplaceCount, .int areportCount, .int adeedCount, .ref pl, .ref re, .ref de])), (pl, .inl (kpl, 6, .inr (.inr (.inr (.inr (fun i => some (pa i))))))), (re, .inl (kre, 24, .inr (.inr (.inr (.inr (fun i => some (ra i)))))))] ∧ va_P (dC, dI) vwCl (gz_fam 6 pa 5 (fun i => [.int (p_name i), .int (p_trust i)])) U.heap ∧ gz_ap (va_A [(h0, .inr (11, [.ref xr, .ref am, .ref xs, .ref xf, .ref co, .ref oc, .ref ta, .ref xq, .ref xh, .ref xk, .ref xo, .int x_outLength, .int x_courtStands, .int x_courtNews, .int x_tallyStands, .int x_historyStands])), (co, .inr (1, [.ref fr, .ref ve, .ref qu, .ref tu, .ref cb, .int c_queueLength, .int c_takenBits])), (ve, .inl (kve, 24, .inl fve)), (qu, .inl (kqu, 24, .inl fqu)), (tu, .inl (ktu, 24, .inr (.inl ftu))), (cb, .inl (kcb, 25, .inl fcb)), (fr, .inr (3, [.int fmonths, .int ffull, .int flean, .ref fal, .ref fon])), (fal, .inl (kfal, 25, .inl ffal)), (fon, .inl (kfon, 275, .inl ffon)), (ta, .inr (9, [.ref bf, .ref bh, .ref sa, .int t_months, .int t_full, .int t_lean])), (bf, .inl (kbf, 3575, .inl fbf)), (bh, .inl (kbh, 3575, .inl fbh)), (sa, .inl (ksa, 325, .inl fsa))] sz) (gz_fam 6 pa 5 (fun i => [.int (p_name i), .int (p_trust i)])) ∧ va_P (dC, dI) vwCl (gz_fam 24 ra 7 (fun i => [.int (r_place i), .int (r_kind i), .int (r_month i), .int (r_day i), .int (r_known i), .int (r_struck i)])) U.heap ∧ gz_ap (va_A [(h0, .inr (11, [.ref xr, .ref am, .ref xs, .ref xf, .ref co, .ref oc, .ref ta, .ref xq, .ref xh, .ref xk, .ref xo, .int x_outLength, .int x_courtStands, .int x_courtNews, .int x_tallyStands, .int x_historyStands])), (co, .inr (1, [.ref fr, .ref ve, .ref qu, .ref tu, .ref cb, .int c_queueLength, .int c_takenBits])), (ve, .inl (kve, 24, .inl fve)), (qu, .inl (kqu, 24, .inl fqu)), (tu, .inl (ktu, 24, .inr (.inl ftu))), (cb, .inl (kcb, 25, .inl fcb)), (fr, .inr (3, [.int fmonths, .int ffull, .int flean, .ref fal, .ref fon])), (fal, .inl (kfal, 25, .inl ffal)), (fon, .inl (kfon, 275, .inl ffon)), (ta, .inr (9, [.ref bf, .ref bh, .ref sa, .int t_months, .int t_full, .int t_lean])), (bf, .inl (kbf, 3575, .inl fbf)), (bh, .inl (kbh, 3575, .inl fbh)), (sa, .inl (ksa, 325, .inl fsa))] sz) (gz_fam 24 ra 7 (fun i => [.int (r_place i), .int (r_kind i), .int (r_month i), .int (r_day i), .int (r_known i), .int (r_struck i)])))) (va_Qr (fun (u : Unit) => True) (fun _ a t => a = ta ∧ (∃ (w0_12 : Int32) (w0_13 : Int32) (w0_14 : Int32) (w1_5 : Int32) (w1_6 : Int32) (w6_0 : Int32) (w6_1 : Int32) (w6_2 : Int32) (w9_3 : Int32) (w9_4 : Int32) (w9_5 : Int32) (z2 : Nat → Int32) (z3 : Nat → Int32) (z4 : Nat → Int64) (z5 : Nat → Int32) (z7 : Nat → Int32) (z8 : Nat → Int32) (z10 : Nat → Int32) (z11 : Nat → Int32) (z12 : Nat → Int32), gi w0_12 0 1 ∧ gi w0_14 0 1 ∧ gi w1_5 0 24 ∧ gi w6_0 0 24 ∧ gi w6_1 0 5 ∧ gi w6_2 0 5 ∧ gi w9_3 0 24 ∧ gi w9_4 0 5 ∧ gi w9_5 0 5 ∧ ga z3 24 0 23 ∧ va_P (dC, dI) vwCl [(h0, .inr (11, [.ref xr, .ref am, .ref xs, .ref xf, .ref co, .ref oc, .ref ta, .ref xq, .ref xh, .ref xk, .ref xo, .int x_outLength, .int w0_12, .int w0_13, .int w0_14, .int x_historyStands])), (co, .inr (1, [.ref fr, .ref ve, .ref qu, .ref tu, .ref cb, .int w1_5, .int w1_6])), (ve, .inl (kve, 24, .inl z2)), (qu, .inl (kqu, 24, .inl z3)), (tu, .inl (ktu, 24, .inr (.inl z4))), (cb, .inl (kcb, 25, .inl z5)), (fr, .inr (3, [.int w6_0, .int w6_1, .int w6_2, .ref fal, .ref fon])), (fal, .inl (kfal, 25, .inl z7)), (fon, .inl (kfon, 275, .inl z8)), (ta, .inr (9, [.ref bf, .ref bh, .ref sa, .int w9_3, .int w9_4, .int w9_5])), (bf, .inl (kbf, 3575, .inl z10)), (bh, .inl (kbh, 3575, .inl z11)), (sa, .inl (ksa, 325, .inl z12))] t.heap ∧ va_D (va_A [(h0, .inr (11, [.ref xr, .ref am, .ref xs, .ref xf, .ref co, .ref oc, .ref ta, .ref xq, .ref xh, .ref xk, .ref xo, .int x_outLength, .int x_courtStands, .int x_courtNews, .int x_tallyStands, .int x_historyStands])), (co, .inr (1, [.ref fr, .ref ve, .ref qu, .ref tu, .ref cb, .int c_queueLength, .int c_takenBits])), (ve, .inl (kve, 24, .inl fve)), (qu, .inl (kqu, 24, .inl fqu)), (tu, .inl (ktu, 24, .inr (.inl ftu))), (cb, .inl (kcb, 25, .inl fcb)), (fr, .inr (3, [.int fmonths, .int ffull, .int flean, .ref fal, .ref fon])), (fal, .inl (kfal, 25, .inl ffal)), (fon, .inl (kfon, 275, .inl ffon)), (ta, .inr (9, [.ref bf, .ref bh, .ref sa, .int t_months, .int t_full, .int t_lean])), (bf, .inl (kbf, 3575, .inl fbf)), (bh, .inl (kbh, 3575, .inl fbh)), (sa, .inl (ksa, 325, .inl fsa))] sz) [(h0, .inr (11, [.ref xr, .ref am, .ref xs, .ref xf, .ref co, .ref oc, .ref ta, .ref xq, .ref xh, .ref xk, .ref xo, .int x_outLength, .int w0_12, .int w0_13, .int w0_14, .int x_historyStands])), (co, .inr (1, [.ref fr, .ref ve, .ref qu, .ref tu, .ref cb, .int w1_5, .int w1_6])), (ve, .inl (kve, 24, .inl z2)), (qu, .inl (kqu, 24, .inl z3)), (tu, .inl (ktu, 24, .inr (.inl z4))), (cb, .inl (kcb, 25, .inl z5)), (fr, .inr (3, [.int w6_0, .int w6_1, .int w6_2, .ref fal, .ref fon])), (fal, .inl (kfal, 25, .inl z7)), (fon, .inl (kfon, 275, .inl z8)), (ta, .inr (9, [.ref bf, .ref bh, .ref sa, .int w9_3, .int w9_4, .int w9_5])), (bf, .inl (kbf, 3575, .inl z10)), (bh, .inl (kbh, 3575, .inl z11)), (sa, .inl (ksa, 325, .inl z12))])) (va_A [(h0, .inr (11, [.ref xr, .ref am, .ref xs, .ref xf, .ref co, .ref oc, .ref ta, .ref xq, .ref xh, .ref xk, .ref xo, .int x_outLength, .int x_courtStands, .int x_courtNews, .int x_tallyStands, .int x_historyStands])), (co, .inr (1, [.ref fr, .ref ve, .ref qu, .ref tu, .ref cb, .int c_queueLength, .int c_takenBits])), (ve, .inl (kve, 24, .inl fve)), (qu, .inl (kqu, 24, .inl fqu)), (tu, .inl (ktu, 24, .inr (.inl ftu))), (cb, .inl (kcb, 25, .inl fcb)), (fr, .inr (3, [.int fmonths, .int ffull, .int flean, .ref fal, .ref fon])), (fal, .inl (kfal, 25, .inl ffal)), (fon, .inl (kfon, 275, .inl ffon)), (ta, .inr (9, [.ref bf, .ref bh, .ref sa, .int t_months, .int t_full, .int t_lean])), (bf, .inl (kbf, 3575, .inl fbf)), (bh, .inl (kbh, 3575, .inl fbh)), (sa, .inl (ksa, 325, .inl fsa))] sz)) 0 0 (va_A [(h0, .inr (11, [.ref xr, .ref am, .ref xs, .ref xf, .ref co, .ref oc, .ref ta, .ref xq, .ref xh, .ref xk, .ref xo, .int x_outLength, .int x_courtStands, .int x_courtNews, .int x_tallyStands, .int x_historyStands])), (co, .inr (1, [.ref fr, .ref ve, .ref qu, .ref tu, .ref cb, .int c_queueLength, .int c_takenBits])), (ve, .inl (kve, 24, .inl fve)), (qu, .inl (kqu, 24, .inl fqu)), (tu, .inl (ktu, 24, .inr (.inl ftu))), (cb, .inl (kcb, 25, .inl fcb)), (fr, .inr (3, [.int fmonths, .int ffull, .int flean, .ref fal, .ref fon])), (fal, .inl (kfal, 25, .inl ffal)), (fon, .inl (kfon, 275, .inl ffon)), (ta, .inr (9, [.ref bf, .ref bh, .ref sa, .int t_months, .int t_full, .int t_lean])), (bf, .inl (kbf, 3575, .inl fbf)), (bh, .inl (kbh, 3575, .inl fbh)), (sa, .inl (ksa, 325, .inl fsa))] sz) := by
  refine Met.ofW (cc := cX11_tallyBy) (maxL := 3) (ret := (some (.object "SightedMonths$Tally"))) (by decide) rfl ?_
  intro p e s m args below meth c s₁ B hml hv
  obtain ⟨rfl, hsz, hP, hK, hD0, hz, hR, hRA, hF0, hFA0, hF1, hFA1⟩ := hv
  have hx := B.exec
  have hb := B.bytes
  have hr := B.returns
  have hts := atoms_spec (ws := (.code yX11_tallyBy cX11_tallyBy 3 (some (.object "SightedMonths$Tally")) :: wsGA)) B.pre
  have hown : s.vm.findClass RX11 = some m.cls := findClass_of_methodNamed B.named
  have hlocks := B.notSynchronized
  subst hsz
  have hD := hD0.self (sz := s.heap.size)
  generalize hAe : va_A [(h0, .inr (11, [.ref xr, .ref am, .ref xs, .ref xf, .ref co, .ref oc, .ref ta, .ref xq, .ref xh, .ref xk, .ref xo, .int x_outLength, .int x_courtStands, .int x_courtNews, .int x_tallyStands, .int x_historyStands])), (co, .inr (1, [.ref fr, .ref ve, .ref qu, .ref tu, .ref cb, .int c_queueLength, .int c_takenBits])), (ve, .inl (kve, 24, .inl fve)), (qu, .inl (kqu, 24, .inl fqu)), (tu, .inl (ktu, 24, .inr (.inl ftu))), (cb, .inl (kcb, 25, .inl fcb)), (fr, .inr (3, [.int fmonths, .int ffull, .int flean, .ref fal, .ref fon])), (fal, .inl (kfal, 25, .inl ffal)), (fon, .inl (kfon, 275, .inl ffon)), (ta, .inr (9, [.ref bf, .ref bh, .ref sa, .int t_months, .int t_full, .int t_lean])), (bf, .inl (kbf, 3575, .inl fbf)), (bh, .inl (kbh, 3575, .inl fbh)), (sa, .inl (ksa, 325, .inl fsa))] s.heap.size = A at hD hRA hFA0 hFA1 ⊢
  have hA : ∀ q : Nat, s.heap.size ≤ q → A q := fun q h => by rw [← hAe]; exact Or.inr h
  have hS : va_S A s.heap s.heap [] := va_S.rf
  have hl := lv_entry ([.ref h0, .int p1]) (n := 3) (Nat.le_of_ble_eq_true rfl)
  rw [lg_entry_eq]
  generalize (lg_sl ([.ref h0, .int p1]) ++ List.replicate (3 - (lg_sl ([.ref h0, .int p1])).length) Slot.unset).toArray = ls at hl ⊢
  have hl : lv_has ls 3 [(0, .ref h0), (1, .int p1)] := hl
  refine lv_aload_n hx hb dX11_tallyBy_0 rfl (lv_at hl 0 rfl) ?_
  refine lv_iload_n hx hb dX11_tallyBy_1 rfl (lv_at hl 1 rfl) ?_
  have hPc := hP.sub (ws' := [(h0, .inr (11, [.ref xr, .ref am, .ref xs, .ref xf, .ref co, .ref oc, .ref ta, .ref xq, .ref xh, .ref xk, .ref xo, .int x_outLength, .int x_courtStands, .int x_courtNews, .int x_tallyStands, .int x_historyStands])), (co, .inr (1, [.ref fr, .ref ve, .ref qu, .ref tu, .ref cb, .int c_queueLength, .int c_takenBits])), (ve, .inl (kve, 24, .inl fve)), (qu, .inl (kqu, 24, .inl fqu)), (tu, .inl (ktu, 24, .inr (.inl ftu))), (cb, .inl (kcb, 25, .inl fcb)), (fr, .inr (3, [.int fmonths, .int ffull, .int flean, .ref fal, .ref fon])), (fal, .inl (kfal, 25, .inl ffal)), (fon, .inl (kfon, 275, .inl ffon))]) [0, 1, 2, 3, 4, 5, 6, 7, 8] rfl
  have hKc := hK.sub (tys' := [(kve, .int), (kqu, .int), (ktu, .long), (kcb, .int), (kfal, .int), (kfon, .int), (kpl, .object RX5), (kre, .object RX7)]) [0, 1, 2, 3, 4, 5, 9, 10] rfl
  have hDc := hD.sub (ws' := [(h0, .inr (11, [.ref xr, .ref am, .ref xs, .ref xf, .ref co, .ref oc, .ref ta, .ref xq, .ref xh, .ref xk, .ref xo, .int x_outLength, .int x_courtStands, .int x_courtNews, .int x_tallyStands, .int x_historyStands])), (co, .inr (1, [.ref fr, .ref ve, .ref qu, .ref tu, .ref cb, .int c_queueLength, .int c_takenBits])), (ve, .inl (kve, 24, .inl fve)), (qu, .inl (kqu, 24, .inl fqu)), (tu, .inl (ktu, 24, .inr (.inl ftu))), (cb, .inl (kcb, 25, .inl fcb)), (fr, .inr (3, [.int fmonths, .int ffull, .int flean, .ref fal, .ref fon])), (fal, .inl (kfal, 25, .inl ffal)), (fon, .inl (kfon, 275, .inl ffon))]) [0, 1, 2, 3, 4, 5, 6, 7, 8] (by decide) rfl
  have hFc := va_free (wc := [(h0, .inr (11, [.ref xr, .ref am, .ref xs, .ref xf, .ref co, .ref oc, .ref ta, .ref xq, .ref xh, .ref xk, .ref xo, .int x_outLength, .int x_courtStands, .int x_courtNews, .int x_tallyStands, .int x_historyStands])), (co, .inr (1, [.ref fr, .ref ve, .ref qu, .ref tu, .ref cb, .int c_queueLength, .int c_takenBits])), (ve, .inl (kve, 24, .inl fve)), (qu, .inl (kqu, 24, .inl fqu)), (tu, .inl (ktu, 24, .inr (.inl ftu))), (cb, .inl (kcb, 25, .inl fcb)), (fr, .inr (3, [.int fmonths, .int ffull, .int flean, .ref fal, .ref fon])), (fal, .inl (kfal, 25, .inl ffal)), (fon, .inl (kfon, 275, .inl ffon))]) hD hS hA [0, 1, 2, 3, 4, 5, 6, 7, 8] rfl
  have hRc_ : va_P (dC, dI) vwCl [(am, .inr (0, [.int amonths, .int afull, .int alean, .int alines, .int ahasMoon, .int amoonStart, .int amoonStep, .int aplaceCount, .int areportCount, .int adeedCount, .ref pl, .ref re, .ref de])), (pl, .inl (kpl, 6, .inr (.inr (.inr (.inr (fun i => some (pa i))))))), (re, .inl (kre, 24, .inr (.inr (.inr (.inr (fun i => some (ra i)))))))] s.heap := (gz_cat ((gz_ro hR hRA hS).sub [0] rfl) (gz_cat ((gz_ro hR hRA hS).sub [1] rfl) ((gz_ro hR hRA hS).sub [2] rfl)))
  have hRa_ : gz_ap (va_A [(h0, .inr (11, [.ref xr, .ref am, .ref xs, .ref xf, .ref co, .ref oc, .ref ta, .ref xq, .ref xh, .ref xk, .ref xo, .int x_outLength, .int x_courtStands, .int x_courtNews, .int x_tallyStands, .int x_historyStands])), (co, .inr (1, [.ref fr, .ref ve, .ref qu, .ref tu, .ref cb, .int c_queueLength, .int c_takenBits])), (ve, .inl (kve, 24, .inl fve)), (qu, .inl (kqu, 24, .inl fqu)), (tu, .inl (ktu, 24, .inr (.inl ftu))), (cb, .inl (kcb, 25, .inl fcb)), (fr, .inr (3, [.int fmonths, .int ffull, .int flean, .ref fal, .ref fon])), (fal, .inl (kfal, 25, .inl ffal)), (fon, .inl (kfon, 275, .inl ffon))] s.heap.size) [(am, .inr (0, [.int amonths, .int afull, .int alean, .int alines, .int ahasMoon, .int amoonStart, .int amoonStep, .int aplaceCount, .int areportCount, .int adeedCount, .ref pl, .ref re, .ref de])), (pl, .inl (kpl, 6, .inr (.inr (.inr (.inr (fun i => some (pa i))))))), (re, .inl (kre, 24, .inr (.inr (.inr (.inr (fun i => some (ra i)))))))] := (gz_apc (gz_apR (gz_ap1 hRA 0 rfl) hFc) (gz_apc (gz_apR (gz_ap1 hRA 1 rfl) hFc) (gz_apR (gz_ap1 hRA 2 rfl) hFc)))
  refine va_callr (va_runV (As := [.int p1]) (rest := []) ⟨hx, hb, hml, hown, hts⟩ (sX11_courtBy l dC dI s.heap.size h0 co ve qu tu cb fr fal fon am pl re xr xs xf oc ta xq xh xk xo x_outLength x_courtStands x_courtNews x_tallyStands x_historyStands c_queueLength c_takenBits kve fve kqu fqu ktu ftu kcb fcb fmonths ffull flean kfal ffal kfon ffon amonths afull alean alines ahasMoon amoonStart amoonStep aplaceCount areportCount adeedCount de kpl kre pa p_name p_trust ra r_place r_kind r_month r_day r_known r_struck p1 gx_outLength gx_courtStands gx_tallyStands gx_historyStands gc_queueLength gfqu gfmonths gffull gflean gamonths gafull galean gahasMoon gaplaceCount gareportCount gadeedCount gr_place gr_month gr_struck) (cwV 1 hts (gz_gV mGA_428 mGA_429 mGA_430 mGA_1 mGA_431 goodGA) rfl rfl rfl (by decide +kernel) ⟨Nat.le_of_ble_eq_true rfl, Nat.le_of_ble_eq_true rfl⟩) ⟨fun a U g mk q => by obtain ⟨q0, q1, qP, qK, qD, qZ, qR, qRA, qF0, qFA0, qF1, qFA1⟩ := q; exact ⟨q0, q1, qP, va_K.moved (u := U) (U := U.calling g mk a) (Vm.Alike.refl U.vm) qK, qD, nzA_same (u := U) (U := U.calling g mk a) rfl qZ, qR, qRA, qF0, qFA0, qF1, qFA1⟩, va_recv hKc hPc (ci := 11) (q0 := 0) rfl rfl, fun U hU hW => ⟨rfl, by rw [hU], by rw [hU]; exact hPc, va_K.moved hW.alike hKc, hDc.weaken (fun _ _ _ _ => trivial), nzA_warm hW hz, by rw [hU]; exact hRc_, hRa_, by rw [hU]; exact gz_ro hF0 hFA0 hS, gz_apR hFA0 hFc, by rw [hU]; exact gz_ro hF1 hFA1 hS, gz_apR hFA1 hFc⟩⟩ rfl rfl hl.1 rfl (lv_room (Nat.le_of_ble_eq_true rfl)) dX11_tallyBy_2 ⟨Nat.zero_le _, Nat.zero_le _⟩) hS (fun q _ h => hFc q h) hFc (fun u r_51 t H1 locs ht hvm hw hB hz1 hk1 hS => ?_)
  obtain ⟨hra, hB⟩ := hB
  have hra := hra.symm
  subst hra
  obtain ⟨y_52, y_53, y_54, y_55, y_56, y_57, y_58, y_59, f_60, f_61, f_62, f_63, f_64, f_65, gy_52, gy_54, gy_55, gy_57, gy_58, gy_59, gf_61, hP1, hD1⟩ := hB
  rw [ht] at hP1
  obtain ⟨hP, hD⟩ := va_join (wr := [(ta, .inr (9, [.ref bf, .ref bh, .ref sa, .int t_months, .int t_full, .int t_lean])), (bf, .inl (kbf, 3575, .inl fbf)), (bh, .inl (kbh, 3575, .inl fbh)), (sa, .inl (ksa, 325, .inl fsa))]) (w1 := [(h0, .inr (11, [.ref xr, .ref am, .ref xs, .ref xf, .ref co, .ref oc, .ref ta, .ref xq, .ref xh, .ref xk, .ref xo, .int x_outLength, .int y_52, .int y_53, .int y_54, .int x_historyStands])), (co, .inr (1, [.ref fr, .ref ve, .ref qu, .ref tu, .ref cb, .int y_55, .int y_56])), (ve, .inl (kve, 24, .inl f_60)), (qu, .inl (kqu, 24, .inl f_61)), (tu, .inl (ktu, 24, .inr (.inl f_62))), (cb, .inl (kcb, 25, .inl f_63)), (fr, .inr (3, [.int y_57, .int y_58, .int y_59, .ref fal, .ref fon])), (fal, .inl (kfal, 25, .inl f_64)), (fon, .inl (kfon, 275, .inl f_65))]) hP hD [0, 1, 2, 3, 4, 5, 6, 7, 8] [9, 10, 11, 12] rfl rfl (by decide) (by decide) hk1 hFc hP1 hD1
  have hP := hP.sub (ws' := [(h0, .inr (11, [.ref xr, .ref am, .ref xs, .ref xf, .ref co, .ref oc, .ref ta, .ref xq, .ref xh, .ref xk, .ref xo, .int x_outLength, .int y_52, .int y_53, .int y_54, .int x_historyStands])), (co, .inr (1, [.ref fr, .ref ve, .ref qu, .ref tu, .ref cb, .int y_55, .int y_56])), (ve, .inl (kve, 24, .inl f_60)), (qu, .inl (kqu, 24, .inl f_61)), (tu, .inl (ktu, 24, .inr (.inl f_62))), (cb, .inl (kcb, 25, .inl f_63)), (fr, .inr (3, [.int y_57, .int y_58, .int y_59, .ref fal, .ref fon])), (fal, .inl (kfal, 25, .inl f_64)), (fon, .inl (kfon, 275, .inl f_65)), (ta, .inr (9, [.ref bf, .ref bh, .ref sa, .int t_months, .int t_full, .int t_lean])), (bf, .inl (kbf, 3575, .inl fbf)), (bh, .inl (kbh, 3575, .inl fbh)), (sa, .inl (ksa, 325, .inl fsa))]) [4, 5, 6, 7, 8, 9, 10, 11, 12, 0, 1, 2, 3] rfl
  have hD := hD.sub (ws' := [(h0, .inr (11, [.ref xr, .ref am, .ref xs, .ref xf, .ref co, .ref oc, .ref ta, .ref xq, .ref xh, .ref xk, .ref xo, .int x_outLength, .int y_52, .int y_53, .int y_54, .int x_historyStands])), (co, .inr (1, [.ref fr, .ref ve, .ref qu, .ref tu, .ref cb, .int y_55, .int y_56])), (ve, .inl (kve, 24, .inl f_60)), (qu, .inl (kqu, 24, .inl f_61)), (tu, .inl (ktu, 24, .inr (.inl f_62))), (cb, .inl (kcb, 25, .inl f_63)), (fr, .inr (3, [.int y_57, .int y_58, .int y_59, .ref fal, .ref fon])), (fal, .inl (kfal, 25, .inl f_64)), (fon, .inl (kfon, 275, .inl f_65)), (ta, .inr (9, [.ref bf, .ref bh, .ref sa, .int t_months, .int t_full, .int t_lean])), (bf, .inl (kbf, 3575, .inl fbf)), (bh, .inl (kbh, 3575, .inl fbh)), (sa, .inl (ksa, 325, .inl fsa))]) [4, 5, 6, 7, 8, 9, 10, 11, 12, 0, 1, 2, 3] (by decide) rfl
  generalize H1 = H at hP hS ⊢
  refine lv_astore_n (lv' := [(2, .ref co), (0, .ref h0), (1, .int p1)]) hx hb dX11_tallyBy_5 rfl hl (by decide) rfl (fun ls hl => ?_)
  refine lv_aload_n hx hb dX11_tallyBy_6 rfl (lv_at hl 1 rfl) ?_
  refine va_get (D := (dC, dI)) (ci := 11) (v := .int y_54) (C := RX11) (T := TX11) (N := 16) hx hb hts (fun w h => List.mem_cons_of_mem _ (jnGA_X11 w h)) hown hK hP 0 rfl rfl 14 (by decide) (hts _ (List.mem_cons_of_mem _ mGA_44)) (fun _ h9 => h9) rfl dX11_tallyBy_7 ?_
  refine lv_if_ne (tgt := 29) hx hb dX11_tallyBy_10 (by decide) (fun c_66 => ?_) (fun c_66 => ?_)
  · have g_67 : gi y_54 1 1 := gi_ne_lo c_66 gy_54 (gi_c 0 0 (by decide)) (by decide)
    refine lv_aload_n hx hb dX11_tallyBy_29 rfl (lv_at hl 1 rfl) ?_
    refine va_get (D := (dC, dI)) (ci := 11) (v := .ref ta) (C := RX11) (T := TX11) (N := 16) hx hb hts (fun w h => List.mem_cons_of_mem _ (jnGA_X11 w h)) hown hK hP 0 rfl rfl 6 (by decide) (hts _ (List.mem_cons_of_mem _ mGA_28)) (fun _ h9 => h9) rfl dX11_tallyBy_30 ?_
    exact W.aret (v := .ref ta) hx hb hr (Or.inl ⟨_, rfl⟩) (Or.inr ⟨_, rfl⟩) (fun t ht hW => ⟨⟨(), ta, rfl, trivial, rfl, y_52, y_53, y_54, y_55, y_56, y_57, y_58, y_59, t_months, t_full, t_lean, f_60, f_61, f_62, f_63, f_64, f_65, fbf, fbh, fsa, gy_52, (gi_w g_67 (by decide)), gy_55, gy_57, gy_58, gy_59, gt_months, gt_full, gt_lean, gf_61, by rw [ht]; exact hP, hD⟩, hS.F ht⟩) hS.2.2 dX11_tallyBy_33
  · have g_68 : gi y_54 0 0 := gi_eq c_66 (gi_c 0 0 (by decide))
    refine lv_aload_n hx hb dX11_tallyBy_13 rfl (lv_at hl 1 rfl) ?_
    refine va_get (D := (dC, dI)) (ci := 11) (v := .ref ta) (C := RX11) (T := TX11) (N := 16) hx hb hts (fun w h => List.mem_cons_of_mem _ (jnGA_X11 w h)) hown hK hP 0 rfl rfl 6 (by decide) (hts _ (List.mem_cons_of_mem _ mGA_28)) (fun _ h9 => h9) rfl dX11_tallyBy_14 ?_
    refine lv_aload_n hx hb dX11_tallyBy_17 rfl (lv_at hl 0 rfl) ?_
    refine va_get (D := (dC, dI)) (ci := 1) (v := .ref fr) (C := RX1) (T := TX1) (N := 7) hx hb hts (fun w h => List.mem_cons_of_mem _ (jnGA_X1 w h)) hown hK hP 1 rfl rfl 0 (by decide) (hts _ (List.mem_cons_of_mem _ mGA_554)) (fun _ h9 => h9) rfl dX11_tallyBy_18 ?_
    have hPc := hP.sub (ws' := [(ta, .inr (9, [.ref bf, .ref bh, .ref sa, .int t_months, .int t_full, .int t_lean])), (bf, .inl (kbf, 3575, .inl fbf)), (bh, .inl (kbh, 3575, .inl fbh)), (sa, .inl (ksa, 325, .inl fsa)), (fr, .inr (3, [.int y_57, .int y_58, .int y_59, .ref fal, .ref fon])), (fal, .inl (kfal, 25, .inl f_64))]) [9, 10, 11, 12, 6, 7] rfl
    have hKc := hK.sub (tys' := [(kbf, .int), (kbh, .int), (ksa, .int), (kfal, .int)]) [6, 7, 8, 4] rfl
    have hDc := hD.sub (ws' := [(ta, .inr (9, [.ref bf, .ref bh, .ref sa, .int t_months, .int t_full, .int t_lean])), (bf, .inl (kbf, 3575, .inl fbf)), (bh, .inl (kbh, 3575, .inl fbh)), (sa, .inl (ksa, 325, .inl fsa)), (fr, .inr (3, [.int y_57, .int y_58, .int y_59, .ref fal, .ref fon])), (fal, .inl (kfal, 25, .inl f_64))]) [9, 10, 11, 12, 6, 7] (by decide) rfl
    have hFc := va_free (wc := [(ta, .inr (9, [.ref bf, .ref bh, .ref sa, .int t_months, .int t_full, .int t_lean])), (bf, .inl (kbf, 3575, .inl fbf)), (bh, .inl (kbh, 3575, .inl fbh)), (sa, .inl (ksa, 325, .inl fsa)), (fr, .inr (3, [.int y_57, .int y_58, .int y_59, .ref fal, .ref fon])), (fal, .inl (kfal, 25, .inl f_64))]) hD hS hA [9, 10, 11, 12, 6, 7] rfl
    refine va_callv (va_runV (As := [.ref fr]) (rest := []) ⟨hx, hb, hml, hown, hts⟩ (sX9_fill l dC dI H.size ta bf bh sa fr fal t_months t_full t_lean kbf fbf kbh fbh ksa fsa y_57 y_58 y_59 fon kfal f_64 gt_months gt_full gt_lean gy_57 gy_58 gy_59) (cwV 1 hts (gz_gV mGA_555 mGA_556 mGA_557 mGA_27 mGA_558 goodGA) rfl rfl rfl (by decide +kernel) ⟨Nat.le_of_ble_eq_true rfl, Nat.le_of_ble_eq_true rfl⟩) ⟨fun a U g mk q => by obtain ⟨q0, q1, qP, qK, qD, qZ⟩ := q; exact ⟨q0, q1, qP, va_K.moved (u := U) (U := U.calling g mk a) (Vm.Alike.refl U.vm) qK, qD, nzA_same (u := U) (U := U.calling g mk a) rfl qZ⟩, va_recv hKc hPc (ci := 9) (q0 := 0) rfl rfl, fun U hU hW => ⟨rfl, by rw [hU], by rw [hU]; exact hPc, va_K.moved hW.alike hKc, hDc.weaken (fun _ _ _ _ => trivial), nzA_warm hW hz⟩⟩ rfl rfl hl.1 rfl (lv_room (Nat.le_of_ble_eq_true rfl)) dX11_tallyBy_21 ⟨Nat.zero_le _, Nat.zero_le _⟩) hS (fun q _ h => hFc q h) hFc (fun u t H1 locs ht hvm hw hB hz1 hk1 hS => ?_)
    obtain ⟨y_70, y_71, y_72, f_73, f_74, f_75, gy_70, gy_71, gy_72, hP1, hD1⟩ := hB
    rw [ht] at hP1
    obtain ⟨hP, hD⟩ := va_join (wr := [(h0, .inr (11, [.ref xr, .ref am, .ref xs, .ref xf, .ref co, .ref oc, .ref ta, .ref xq, .ref xh, .ref xk, .ref xo, .int x_outLength, .int y_52, .int y_53, .int y_54, .int x_historyStands])), (co, .inr (1, [.ref fr, .ref ve, .ref qu, .ref tu, .ref cb, .int y_55, .int y_56])), (ve, .inl (kve, 24, .inl f_60)), (qu, .inl (kqu, 24, .inl f_61)), (tu, .inl (ktu, 24, .inr (.inl f_62))), (cb, .inl (kcb, 25, .inl f_63)), (fon, .inl (kfon, 275, .inl f_65))]) (w1 := [(ta, .inr (9, [.ref bf, .ref bh, .ref sa, .int y_70, .int y_71, .int y_72])), (bf, .inl (kbf, 3575, .inl f_73)), (bh, .inl (kbh, 3575, .inl f_74)), (sa, .inl (ksa, 325, .inl f_75)), (fr, .inr (3, [.int y_57, .int y_58, .int y_59, .ref fal, .ref fon])), (fal, .inl (kfal, 25, .inl f_64))]) hP hD [9, 10, 11, 12, 6, 7] [0, 1, 2, 3, 4, 5, 8] rfl rfl (by decide) (by decide) hk1 hFc hP1 hD1
    have hP := hP.sub (ws' := [(h0, .inr (11, [.ref xr, .ref am, .ref xs, .ref xf, .ref co, .ref oc, .ref ta, .ref xq, .ref xh, .ref xk, .ref xo, .int x_outLength, .int y_52, .int y_53, .int y_54, .int x_historyStands])), (co, .inr (1, [.ref fr, .ref ve, .ref qu, .ref tu, .ref cb, .int y_55, .int y_56])), (ve, .inl (kve, 24, .inl f_60)), (qu, .inl (kqu, 24, .inl f_61)), (tu, .inl (ktu, 24, .inr (.inl f_62))), (cb, .inl (kcb, 25, .inl f_63)), (fr, .inr (3, [.int y_57, .int y_58, .int y_59, .ref fal, .ref fon])), (fal, .inl (kfal, 25, .inl f_64)), (fon, .inl (kfon, 275, .inl f_65)), (ta, .inr (9, [.ref bf, .ref bh, .ref sa, .int y_70, .int y_71, .int y_72])), (bf, .inl (kbf, 3575, .inl f_73)), (bh, .inl (kbh, 3575, .inl f_74)), (sa, .inl (ksa, 325, .inl f_75))]) [0, 1, 2, 3, 4, 5, 11, 12, 6, 7, 8, 9, 10] rfl
    have hD := hD.sub (ws' := [(h0, .inr (11, [.ref xr, .ref am, .ref xs, .ref xf, .ref co, .ref oc, .ref ta, .ref xq, .ref xh, .ref xk, .ref xo, .int x_outLength, .int y_52, .int y_53, .int y_54, .int x_historyStands])), (co, .inr (1, [.ref fr, .ref ve, .ref qu, .ref tu, .ref cb, .int y_55, .int y_56])), (ve, .inl (kve, 24, .inl f_60)), (qu, .inl (kqu, 24, .inl f_61)), (tu, .inl (ktu, 24, .inr (.inl f_62))), (cb, .inl (kcb, 25, .inl f_63)), (fr, .inr (3, [.int y_57, .int y_58, .int y_59, .ref fal, .ref fon])), (fal, .inl (kfal, 25, .inl f_64)), (fon, .inl (kfon, 275, .inl f_65)), (ta, .inr (9, [.ref bf, .ref bh, .ref sa, .int y_70, .int y_71, .int y_72])), (bf, .inl (kbf, 3575, .inl f_73)), (bh, .inl (kbh, 3575, .inl f_74)), (sa, .inl (ksa, 325, .inl f_75))]) [0, 1, 2, 3, 4, 5, 11, 12, 6, 7, 8, 9, 10] (by decide) rfl
    generalize H1 = H at hP hS ⊢
    refine lv_aload_n hx hb dX11_tallyBy_24 rfl (lv_at hl 1 rfl) ?_
    refine lv_iconst (v := 1) hx hb dX11_tallyBy_25 (by decide) ?_
    refine va_put (D := (dC, dI)) (ci := 11) (v := .int 1) (ty := .boolean) (C := RX11) (T := TX11) (N := 16) hx hb hts (fun w h => List.mem_cons_of_mem _ (jnGA_X11 w h)) tyX11 tyX11_ok nmX11 hown hK hP hD hS 0 rfl rfl 14 (by decide) (hts _ (List.mem_cons_of_mem _ mGA_44)) (fun _ h9 => h9) rfl (by decide +kernel) rfl rfl (Nat.le_of_ble_eq_true rfl) dX11_tallyBy_26 (fun H locs hP hD hS => ?_)
    have hP : va_P (dC, dI) vwCl [(h0, .inr (11, [.ref xr, .ref am, .ref xs, .ref xf, .ref co, .ref oc, .ref ta, .ref xq, .ref xh, .ref xk, .ref xo, .int x_outLength, .int y_52, .int y_53, .int 1, .int x_historyStands])), (co, .inr (1, [.ref fr, .ref ve, .ref qu, .ref tu, .ref cb, .int y_55, .int y_56])), (ve, .inl (kve, 24, .inl f_60)), (qu, .inl (kqu, 24, .inl f_61)), (tu, .inl (ktu, 24, .inr (.inl f_62))), (cb, .inl (kcb, 25, .inl f_63)), (fr, .inr (3, [.int y_57, .int y_58, .int y_59, .ref fal, .ref fon])), (fal, .inl (kfal, 25, .inl f_64)), (fon, .inl (kfon, 275, .inl f_65)), (ta, .inr (9, [.ref bf, .ref bh, .ref sa, .int y_70, .int y_71, .int y_72])), (bf, .inl (kbf, 3575, .inl f_73)), (bh, .inl (kbh, 3575, .inl f_74)), (sa, .inl (ksa, 325, .inl f_75))] H := hP
    have hD : va_D A [(h0, .inr (11, [.ref xr, .ref am, .ref xs, .ref xf, .ref co, .ref oc, .ref ta, .ref xq, .ref xh, .ref xk, .ref xo, .int x_outLength, .int y_52, .int y_53, .int 1, .int x_historyStands])), (co, .inr (1, [.ref fr, .ref ve, .ref qu, .ref tu, .ref cb, .int y_55, .int y_56])), (ve, .inl (kve, 24, .inl f_60)), (qu, .inl (kqu, 24, .inl f_61)), (tu, .inl (ktu, 24, .inr (.inl f_62))), (cb, .inl (kcb, 25, .inl f_63)), (fr, .inr (3, [.int y_57, .int y_58, .int y_59, .ref fal, .ref fon])), (fal, .inl (kfal, 25, .inl f_64)), (fon, .inl (kfon, 275, .inl f_65)), (ta, .inr (9, [.ref bf, .ref bh, .ref sa, .int y_70, .int y_71, .int y_72])), (bf, .inl (kbf, 3575, .inl f_73)), (bh, .inl (kbh, 3575, .inl f_74)), (sa, .inl (ksa, 325, .inl f_75))] := hD
    refine lv_aload_n hx hb dX11_tallyBy_29 rfl (lv_at hl 1 rfl) ?_
    refine va_get (D := (dC, dI)) (ci := 11) (v := .ref ta) (C := RX11) (T := TX11) (N := 16) hx hb hts (fun w h => List.mem_cons_of_mem _ (jnGA_X11 w h)) hown hK hP 0 rfl rfl 6 (by decide) (hts _ (List.mem_cons_of_mem _ mGA_28)) (fun _ h9 => h9) rfl dX11_tallyBy_30 ?_
    exact W.aret (v := .ref ta) hx hb hr (Or.inl ⟨_, rfl⟩) (Or.inr ⟨_, rfl⟩) (fun t ht hW => ⟨⟨(), ta, rfl, trivial, rfl, y_52, y_53, 1, y_55, y_56, y_57, y_58, y_59, y_70, y_71, y_72, f_60, f_61, f_62, f_63, f_64, f_65, f_73, f_74, f_75, gy_52, (gi_w (gi_c 1 1 (by decide)) (by decide)), gy_55, gy_57, gy_58, gy_59, gy_70, gy_71, gy_72, gf_61, by rw [ht]; exact hP, hD⟩, hS.F ht⟩) hS.2.2 dX11_tallyBy_33
