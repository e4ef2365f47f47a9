theorem dX11_place_0 : decode cX11_place 0 = .ok (.aload_n 0, 1) := by decide +kernel
theorem dX11_place_1 : decode cX11_place 1 = .ok (.iload_n 1, 1) := by decide +kernel
theorem dX11_place_2 : decode cX11_place 2 = .ok (.invokevirtual 144, 3) := by decide +kernel
theorem dX11_place_5 : decode cX11_place 5 = .ok (.ifCond .ne 6, 3) := by decide +kernel
theorem dX11_place_8 : decode cX11_place 8 = .ok (.bipush (-2), 2) := by decide +kernel
theorem dX11_place_10 : decode cX11_place 10 = .ok (.ireturn, 1) := by decide +kernel
theorem dX11_place_11 : decode cX11_place 11 = .ok (.iload_n 2, 1) := by decide +kernel
theorem dX11_place_12 : decode cX11_place 12 = .ok (.tableswitch 59 0 2 #[28, 41, 50], 28) := by decide +kernel
theorem dX11_place_40 : decode cX11_place 40 = .ok (.aload_n 0, 1) := by decide +kernel
theorem dX11_place_41 : decode cX11_place 41 = .ok (.getfield 19, 3) := by decide +kernel
theorem dX11_place_44 : decode cX11_place 44 = .ok (.getfield 148, 3) := by decide +kernel
theorem dX11_place_47 : decode cX11_place 47 = .ok (.iload_n 1, 1) := by decide +kernel
theorem dX11_place_48 : decode cX11_place 48 = .ok (.aaload, 1) := by decide +kernel
theorem dX11_place_49 : decode cX11_place 49 = .ok (.getfield 152, 3) := by decide +kernel
theorem dX11_place_52 : decode cX11_place 52 = .ok (.ireturn, 1) := by decide +kernel
theorem dX11_place_53 : decode cX11_place 53 = .ok (.aload_n 0, 1) := by decide +kernel
theorem dX11_place_54 : decode cX11_place 54 = .ok (.getfield 19, 3) := by decide +kernel
theorem dX11_place_57 : decode cX11_place 57 = .ok (.iload_n 1, 1) := by decide +kernel
theorem dX11_place_58 : decode cX11_place 58 = .ok (.invokevirtual 157, 3) := by decide +kernel
theorem dX11_place_61 : decode cX11_place 61 = .ok (.ireturn, 1) := by decide +kernel
theorem dX11_place_62 : decode cX11_place 62 = .ok (.aload_n 0, 1) := by decide +kernel
theorem dX11_place_63 : decode cX11_place 63 = .ok (.getfield 19, 3) := by decide +kernel
theorem dX11_place_66 : decode cX11_place 66 = .ok (.iload_n 1, 1) := by decide +kernel
theorem dX11_place_67 : decode cX11_place 67 = .ok (.invokevirtual 161, 3) := by decide +kernel
theorem dX11_place_70 : decode cX11_place 70 = .ok (.ireturn, 1) := by decide +kernel
theorem dX11_place_71 : decode cX11_place 71 = .ok (.bipush (-2), 2) := by decide +kernel
theorem dX11_place_73 : decode cX11_place 73 = .ok (.ireturn, 1) := by decide +kernel
set_option maxHeartbeats 4000000 in
set_option maxRecDepth 100000 in
theorem sX11_place (l : Launch) (dC : Nat → ClassId) (dI : Nat → Nat → Nat) (h0 : Nat) (am : Nat) (pl : Nat) (re : Nat) (xr : Nat) (xs : Nat) (xf : Nat) (co : Nat) (oc : Nat) (ta : Nat) (xq : Nat) (xh : Nat) (xk : Nat) (xo : Nat) (x_outLength : Int32) (x_courtStands : Int32) (x_courtNews : Int32) (x_tallyStands : Int32) (x_historyStands : Int32) (amonths : Int32) (afull : Int32) (alean : Int32) (alines : Int32) (ahasMoon : Int32) (amoonStart : Int32) (amoonStep : Int32) (aplaceCount : Int32) (areportCount : Int32) (adeedCount : Int32) (de : Nat) (kpl : ClassId) (kre : ClassId) (pa : Nat → Nat) (p_name : Nat → Int32) (p_trust : Nat → Int32) (ra : Nat → Nat) (r_place : Nat → Int32) (r_kind : Nat → Int32) (r_month : Nat → Int32) (r_day : Nat → Int32) (r_known : Nat → Int32) (r_struck : Nat → Int32) (p1 : Int32) (p2 : Int32) (gx_outLength : gi x_outLength 0 72) (gx_courtStands : gi x_courtStands 0 1) (gx_tallyStands : gi x_tallyStands 0 1) (gx_historyStands : gi x_historyStands 0 1) (gamonths : gi amonths 0 24) (gafull : gi afull 0 5) (galean : gi alean 0 5) (gahasMoon : gi ahasMoon 0 1) (gaplaceCount : gi aplaceCount 0 6) (gareportCount : gi areportCount 0 24) (gadeedCount : gi adeedCount 0 8) (gr_place : ga r_place 24 0 5) (gr_month : ga r_month 24 0 23) (gr_struck : ga r_struck 24 0 1) : Met l yX11_place (.code yX11_place cX11_place 3 (some .int) :: wsGA) ({ frames := 1, cells := 0, slots := 0, locals := 23 }) (va_Pc [.ref h0, .int p1, .int p2] (fun U => va_P (dC, dI) vwCl [(h0, .inr (11, [.ref xr, .ref am, .ref xs, .ref xf, .ref co, .ref oc, .ref ta, .ref xq, .ref xh, .ref xk, .ref xo, .int x_outLength, .int x_courtStands, .int x_courtNews, .int x_tallyStands, .int x_historyStands])), (am, .inr (0, [.int amonths, .int afull, .int alean, .int alines, .int ahasMoon, .int amoonStart, .int amoonStep, .int aplaceCount, .int areportCount, .int adeedCount, .ref pl, .ref re, .ref de])), (pl, .inl (kpl, 6, .inr (.inr (.inr (.inr (fun i => some (pa i))))))), (re, .inl (kre, 24, .inr (.inr (.inr (.inr (fun i => some (ra i)))))))] U.heap ∧ va_K (dC, dI) vwCl [(kpl, .object RX5), (kre, .object RX7)] U ∧ nzA U ∧ va_P (dC, dI) vwCl (gz_fam 6 pa 5 (fun i => [.int (p_name i), .int (p_trust i)])) U.heap ∧ va_P (dC, dI) vwCl (gz_fam 24 ra 7 (fun i => [.int (r_place i), .int (r_kind i), .int (r_month i), .int (r_day i), .int (r_known i), .int (r_struck i)])) U.heap)) (va_Qi (fun (r : Int32) (u : Unit) => gi r (-2147483648) 2147483647) (fun _ _ => True) (fun _ => False)) 0 0 (fun _ => False) := by
  refine Met.ofW (cc := cX11_place) (maxL := 3) (ret := (some .int)) (by decide) rfl ?_
  intro p e s m args below meth c s₁ B hml hv
  obtain ⟨rfl, hP, hK, hz, hF0, hF1⟩ := hv
  have hx := B.exec
  have hb := B.bytes
  have hr := B.returns
  have hts := atoms_spec (ws := (.code yX11_place cX11_place 3 (some .int) :: wsGA)) B.pre
  have hown : s.vm.findClass RX11 = some m.cls := findClass_of_methodNamed B.named
  have hlocks := B.notSynchronized
  have hS : va_S (fun _ => False) s.heap s.heap [] := va_S.rf
  have hFA0 : gz_ap (fun _ => False) (gz_fam 6 pa 5 (fun i => [.int (p_name i), .int (p_trust i)])) := gz_ap0
  have hFA1 : gz_ap (fun _ => False) (gz_fam 24 ra 7 (fun i => [.int (r_place i), .int (r_kind i), .int (r_month i), .int (r_day i), .int (r_known i), .int (r_struck i)])) := gz_ap0
  have hl := lv_entry ([.ref h0, .int p1, .int p2]) (n := 3) (Nat.le_of_ble_eq_true rfl)
  rw [lg_entry_eq]
  generalize (lg_sl ([.ref h0, .int p1, .int p2]) ++ List.replicate (3 - (lg_sl ([.ref h0, .int p1, .int p2])).length) Slot.unset).toArray = ls at hl ⊢
  have hl : lv_has ls 3 [(0, .ref h0), (1, .int p1), (2, .int p2)] := hl
  refine lv_aload_n hx hb dX11_place_0 rfl (lv_at hl 0 rfl) ?_
  refine lv_iload_n hx hb dX11_place_1 rfl (lv_at hl 1 rfl) ?_
  have hPc := hP.sub (ws' := [(h0, .inr (11, [.ref xr, .ref am, .ref xs, .ref xf, .ref co, .ref oc, .ref ta, .ref xq, .ref xh, .ref xk, .ref xo, .int x_outLength, .int x_courtStands, .int x_courtNews, .int x_tallyStands, .int x_historyStands])), (am, .inr (0, [.int amonths, .int afull, .int alean, .int alines, .int ahasMoon, .int amoonStart, .int amoonStep, .int aplaceCount, .int areportCount, .int adeedCount, .ref pl, .ref re, .ref de]))]) [0, 1] rfl
  have hKc := hK.sub (tys' := []) [] rfl
  refine va_calli (va_runV (As := [.int p1]) (rest := []) ⟨hx, hb, hml, hown, hts⟩ (sX11_hasPlace l dC dI h0 am xr xs xf co oc ta xq xh xk xo x_outLength x_courtStands x_courtNews x_tallyStands x_historyStands amonths afull alean alines ahasMoon amoonStart amoonStep aplaceCount areportCount adeedCount pl re de p1 gx_outLength gx_courtStands gx_tallyStands gx_historyStands gamonths gafull galean gahasMoon gaplaceCount gareportCount gadeedCount) (cwV 1 hts (gz_gV mGA_366 mGA_367 mGA_368 mGA_1 mGA_369 goodGA) rfl rfl rfl (by decide +kernel) ⟨Nat.le_of_ble_eq_true rfl, Nat.le_of_ble_eq_true rfl⟩) ⟨fun a U g mk q => by obtain ⟨q0, qP, qK, qZ⟩ := q; exact ⟨q0, qP, va_K.moved (u := U) (U := U.calling g mk a) (Vm.Alike.refl U.vm) qK, nzA_same (u := U) (U := U.calling g mk a) rfl qZ⟩, va_recv hKc hPc (ci := 11) (q0 := 0) rfl rfl, fun U hU hW => ⟨rfl, by rw [hU]; exact hPc, va_K.moved hW.alike hKc, nzA_warm hW hz⟩⟩ rfl rfl hl.1 rfl (lv_room (Nat.le_of_ble_eq_true rfl)) dX11_place_2 ⟨Nat.zero_le _, Nat.zero_le _⟩) hS (fun q _ h => h.elim) (fun q h => h.elim) (fun r_10 u t H1 locs ht hvm hw hB hz1 hk1 hS => ?_)
  have hP := gz_keep hP hk1
  generalize H1 = H at hP hS ⊢
  have gr_10 : gi r_10 0 1 := hw.1
  have hqr_10 := hw.2
  refine lv_if_ne (tgt := 11) hx hb dX11_place_5 (by decide) (fun c_11 => ?_) (fun c_11 => ?_)
  · have g_12 : gi r_10 1 1 := gi_ne_lo c_11 gr_10 (gi_c 0 0 (by decide)) (by decide)
    have g_13 : gi p1 0 5 := gi_cap (gi_any p1) (hqr_10 (gz_one g_12)) (by decide)
    refine lv_iload_n hx hb dX11_place_11 rfl (lv_at hl 2 rfl) ?_
    rcases gz_sw p2 2 (Nat.le_of_ble_eq_true rfl) with hj_14 | ⟨j_14, hj_14, ej_14⟩
    · refine lv_tableOut (tgt := 71) hx hb dX11_place_12 hj_14 (by decide) ?_
      refine lv_bipush (v := (-2)) hx hb dX11_place_71 (by decide) ?_
      exact W.iret (v := (-2)) hx hb hr (fun t ht hW => ⟨⟨(-2), (), rfl, (gi_any (-2)), trivial⟩, hS.F ht⟩) hS.2.2 dX11_place_73
    · rcases (show j_14 = 0 ∨ j_14 = 1 ∨ j_14 = 2 by omega) with rfl | rfl | rfl
      · refine lv_tableIn (off := 28) (tgt := 40) hx hb dX11_place_12 (by rw [ej_14]; decide +kernel) (by rw [ej_14]; decide +kernel) (by rw [ej_14]; decide +kernel) (by decide) ?_
        refine lv_aload_n hx hb dX11_place_40 rfl (lv_at hl 0 rfl) ?_
        refine va_get (D := (dC, dI)) (ci := 11) (v := .ref am) (C := RX11) (T := TX11) (N := 16) hx hb hts (fun w h => List.mem_cons_of_mem _ (jnGA_X11 w h)) hown hK hP 0 rfl rfl 1 (by decide) (hts _ (List.mem_cons_of_mem _ mGA_14)) (fun _ h9 => h9) rfl dX11_place_41 ?_
        refine va_get (D := (dC, dI)) (ci := 0) (v := .ref pl) (C := RX0) (T := TX0) (N := 13) hx hb hts (fun w h => List.mem_cons_of_mem _ (jnGA_X0 w h)) hown hK hP 1 rfl rfl 10 (by decide) (hts _ (List.mem_cons_of_mem _ mGA_364)) (fun _ h9 => h9) rfl dX11_place_44 ?_
        refine lv_iload_n hx hb dX11_place_47 rfl (lv_at hl 1 rfl) ?_
        refine va_aldq hx hb hK hP 2 0 rfl rfl (gi_in g_13 (by decide)) dX11_place_48 ?_
        refine W.eq (g2 := F0 m 49 ls [.ref (pa p1.toNatClampNeg)]) rfl ?_
        refine va_get (D := (dC, dI)) (ci := 5) (v := .int (p_trust p1.toNatClampNeg)) (C := RX5) (T := TX5) (N := 2) hx hb hts (fun w h => List.mem_cons_of_mem _ (jnGA_X5 w h)) hown hK (gz_ro hF0 hFA0 hS) (p1.toNatClampNeg) (gz_fam_at (gz_clt (gi_in (n := 6) g_13 (by decide)))) rfl 1 (by decide) (hts _ (List.mem_cons_of_mem _ mGA_365)) (fun _ h9 => h9) rfl dX11_place_49 ?_
        refine lv_topi (fun x_15 ex_15 => ?_)
        exact W.iret (v := x_15) hx hb hr (fun t ht hW => ⟨⟨x_15, (), rfl, (gi_any x_15), trivial⟩, hS.F ht⟩) hS.2.2 dX11_place_52
      · refine lv_tableIn (off := 41) (tgt := 53) hx hb dX11_place_12 (by rw [ej_14]; decide +kernel) (by rw [ej_14]; decide +kernel) (by rw [ej_14]; decide +kernel) (by decide) ?_
        refine lv_aload_n hx hb dX11_place_53 rfl (lv_at hl 0 rfl) ?_
        refine va_get (D := (dC, dI)) (ci := 11) (v := .ref am) (C := RX11) (T := TX11) (N := 16) hx hb hts (fun w h => List.mem_cons_of_mem _ (jnGA_X11 w h)) hown hK hP 0 rfl rfl 1 (by decide) (hts _ (List.mem_cons_of_mem _ mGA_14)) (fun _ h9 => h9) rfl dX11_place_54 ?_
        refine lv_iload_n hx hb dX11_place_57 rfl (lv_at hl 1 rfl) ?_
        have hPc := hP.sub (ws' := [(am, .inr (0, [.int amonths, .int afull, .int alean, .int alines, .int ahasMoon, .int amoonStart, .int amoonStep, .int aplaceCount, .int areportCount, .int adeedCount, .ref pl, .ref re, .ref de])), (pl, .inl (kpl, 6, .inr (.inr (.inr (.inr (fun i => some (pa i)))))))]) [1, 2] rfl
        have hKc := hK.sub (tys' := [(kpl, .object RX5)]) [0] rfl
        refine va_calli (va_runV (As := [.int p1]) (rest := []) ⟨hx, hb, hml, hown, hts⟩ (sX0_namesAhead l dC dI am pl amonths afull alean alines ahasMoon amoonStart amoonStep aplaceCount areportCount adeedCount re de kpl pa p_name p_trust p1 gamonths gafull galean gahasMoon gaplaceCount gareportCount gadeedCount g_13) (cwV 1 hts (gz_gV mGA_370 mGA_371 mGA_372 mGA_13 mGA_373 goodGA) rfl rfl rfl (by decide +kernel) ⟨Nat.le_of_ble_eq_true rfl, Nat.le_of_ble_eq_true rfl⟩) ⟨fun a U g mk q => by obtain ⟨q0, qP, qK, qZ, qF0⟩ := q; exact ⟨q0, qP, va_K.moved (u := U) (U := U.calling g mk a) (Vm.Alike.refl U.vm) qK, nzA_same (u := U) (U := U.calling g mk a) rfl qZ, qF0⟩, va_recv hKc hPc (ci := 0) (q0 := 0) rfl rfl, fun U hU hW => ⟨rfl, by rw [hU]; exact hPc, va_K.moved hW.alike hKc, nzA_warm hW hz, by rw [hU]; exact gz_ro hF0 hFA0 hS⟩⟩ rfl rfl hl.1 rfl (lv_room (Nat.le_of_ble_eq_true rfl)) dX11_place_58 ⟨Nat.zero_le _, Nat.zero_le _⟩) hS (fun q _ h => h.elim) (fun q h => h.elim) (fun r_16 u t H1 locs ht hvm hw hB hz1 hk1 hS => ?_)
        have hP := gz_keep hP hk1
        generalize H1 = H at hP hS ⊢
        exact W.iret (v := r_16) hx hb hr (fun t ht hW => ⟨⟨r_16, (), rfl, (gi_any r_16), trivial⟩, hS.F ht⟩) hS.2.2 dX11_place_61
      · refine lv_tableIn (off := 50) (tgt := 62) hx hb dX11_place_12 (by rw [ej_14]; decide +kernel) (by rw [ej_14]; decide +kernel) (by rw [ej_14]; decide +kernel) (by decide) ?_
        refine lv_aload_n hx hb dX11_place_62 rfl (lv_at hl 0 rfl) ?_
        refine va_get (D := (dC, dI)) (ci := 11) (v := .ref am) (C := RX11) (T := TX11) (N := 16) hx hb hts (fun w h => List.mem_cons_of_mem _ (jnGA_X11 w h)) hown hK hP 0 rfl rfl 1 (by decide) (hts _ (List.mem_cons_of_mem _ mGA_14)) (fun _ h9 => h9) rfl dX11_place_63 ?_
        refine lv_iload_n hx hb dX11_place_66 rfl (lv_at hl 1 rfl) ?_
        have hPc := hP.sub (ws' := [(am, .inr (0, [.int amonths, .int afull, .int alean, .int alines, .int ahasMoon, .int amoonStart, .int amoonStep, .int aplaceCount, .int areportCount, .int adeedCount, .ref pl, .ref re, .ref de])), (re, .inl (kre, 24, .inr (.inr (.inr (.inr (fun i => some (ra i)))))))]) [1, 3] rfl
        have hKc := hK.sub (tys' := [(kre, .object RX7)]) [1] rfl
        refine va_calli (va_runV (As := [.int p1]) (rest := []) ⟨hx, hb, hml, hown, hts⟩ (sX0_standingOf l dC dI am re amonths afull alean alines ahasMoon amoonStart amoonStep aplaceCount areportCount adeedCount pl de kre ra r_place r_kind r_month r_day r_known r_struck p1 gamonths gafull galean gahasMoon gaplaceCount gareportCount gadeedCount gr_place gr_month gr_struck) (cwV 1 hts (gz_gV mGA_374 mGA_375 mGA_376 mGA_13 mGA_377 goodGA) rfl rfl rfl (by decide +kernel) ⟨Nat.le_of_ble_eq_true rfl, Nat.le_of_ble_eq_true rfl⟩) ⟨fun a U g mk q => by obtain ⟨q0, qP, qK, qZ, qF0⟩ := q; exact ⟨q0, qP, va_K.moved (u := U) (U := U.calling g mk a) (Vm.Alike.refl U.vm) qK, nzA_same (u := U) (U := U.calling g mk a) rfl qZ, qF0⟩, va_recv hKc hPc (ci := 0) (q0 := 0) rfl rfl, fun U hU hW => ⟨rfl, by rw [hU]; exact hPc, va_K.moved hW.alike hKc, nzA_warm hW hz, by rw [hU]; exact gz_ro hF1 hFA1 hS⟩⟩ rfl rfl hl.1 rfl (lv_room (Nat.le_of_ble_eq_true rfl)) dX11_place_67 ⟨Nat.zero_le _, Nat.zero_le _⟩) hS (fun q _ h => h.elim) (fun q h => h.elim) (fun r_17 u t H1 locs ht hvm hw hB hz1 hk1 hS => ?_)
        have hP := gz_keep hP hk1
        generalize H1 = H at hP hS ⊢
        exact W.iret (v := r_17) hx hb hr (fun t ht hW => ⟨⟨r_17, (), rfl, (gi_any r_17), trivial⟩, hS.F ht⟩) hS.2.2 dX11_place_70
  · have g_18 : gi r_10 0 0 := gi_eq c_11 (gi_c 0 0 (by decide))
    refine lv_bipush (v := (-2)) hx hb dX11_place_8 (by decide) ?_
    exact W.iret (v := (-2)) hx hb hr (fun t ht hW => ⟨⟨(-2), (), rfl, (gi_any (-2)), trivial⟩, hS.F ht⟩) hS.2.2 dX11_place_10
