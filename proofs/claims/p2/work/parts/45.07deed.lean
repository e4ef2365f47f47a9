theorem dX11_deed_0 : decode cX11_deed 0 = .ok (.aload_n 0, 1) := by decide +kernel
theorem dX11_deed_1 : decode cX11_deed 1 = .ok (.iload_n 1, 1) := by decide +kernel
theorem dX11_deed_2 : decode cX11_deed 2 = .ok (.invokevirtual 191, 3) := by decide +kernel
theorem dX11_deed_5 : decode cX11_deed 5 = .ok (.ifCond .ne 6, 3) := by decide +kernel
theorem dX11_deed_8 : decode cX11_deed 8 = .ok (.bipush (-2), 2) := by decide +kernel
theorem dX11_deed_10 : decode cX11_deed 10 = .ok (.ireturn, 1) := by decide +kernel
theorem dX11_deed_11 : decode cX11_deed 11 = .ok (.aload_n 0, 1) := by decide +kernel
theorem dX11_deed_12 : decode cX11_deed 12 = .ok (.getfield 19, 3) := by decide +kernel
theorem dX11_deed_15 : decode cX11_deed 15 = .ok (.getfield 194, 3) := by decide +kernel
theorem dX11_deed_18 : decode cX11_deed 18 = .ok (.iload_n 1, 1) := by decide +kernel
theorem dX11_deed_19 : decode cX11_deed 19 = .ok (.aaload, 1) := by decide +kernel
theorem dX11_deed_20 : decode cX11_deed 20 = .ok (.astore_n 3, 1) := by decide +kernel
theorem dX11_deed_21 : decode cX11_deed 21 = .ok (.iload_n 2, 1) := by decide +kernel
theorem dX11_deed_22 : decode cX11_deed 22 = .ok (.tableswitch 58 0 3 #[30, 35, 40, 45], 30) := by decide +kernel
theorem dX11_deed_52 : decode cX11_deed 52 = .ok (.aload_n 3, 1) := by decide +kernel
theorem dX11_deed_53 : decode cX11_deed 53 = .ok (.getfield 198, 3) := by decide +kernel
theorem dX11_deed_56 : decode cX11_deed 56 = .ok (.ireturn, 1) := by decide +kernel
theorem dX11_deed_57 : decode cX11_deed 57 = .ok (.aload_n 3, 1) := by decide +kernel
theorem dX11_deed_58 : decode cX11_deed 58 = .ok (.getfield 201, 3) := by decide +kernel
theorem dX11_deed_61 : decode cX11_deed 61 = .ok (.ireturn, 1) := by decide +kernel
theorem dX11_deed_62 : decode cX11_deed 62 = .ok (.aload_n 3, 1) := by decide +kernel
theorem dX11_deed_63 : decode cX11_deed 63 = .ok (.getfield 202, 3) := by decide +kernel
theorem dX11_deed_66 : decode cX11_deed 66 = .ok (.ireturn, 1) := by decide +kernel
theorem dX11_deed_67 : decode cX11_deed 67 = .ok (.aload_n 3, 1) := by decide +kernel
theorem dX11_deed_68 : decode cX11_deed 68 = .ok (.getfield 203, 3) := by decide +kernel
theorem dX11_deed_71 : decode cX11_deed 71 = .ok (.ifCond .eq 7, 3) := by decide +kernel
theorem dX11_deed_74 : decode cX11_deed 74 = .ok (.iconst 1, 1) := by decide +kernel
theorem dX11_deed_75 : decode cX11_deed 75 = .ok (.goto 4, 3) := by decide +kernel
theorem dX11_deed_78 : decode cX11_deed 78 = .ok (.iconst 0, 1) := by decide +kernel
theorem dX11_deed_79 : decode cX11_deed 79 = .ok (.ireturn, 1) := by decide +kernel
theorem dX11_deed_80 : decode cX11_deed 80 = .ok (.bipush (-2), 2) := by decide +kernel
theorem dX11_deed_82 : decode cX11_deed 82 = .ok (.ireturn, 1) := by decide +kernel
set_option maxHeartbeats 4000000 in
set_option maxRecDepth 100000 in
theorem sX11_deed (l : Launch) (dC : Nat → ClassId) (dI : Nat → Nat → Nat) (h0 : Nat) (am : Nat) (de : Nat) (xr : Nat) (xs : Nat) (xf : Nat) (co : Nat) (oc : Nat) (ta : Nat) (xq : Nat) (xh : Nat) (xk : Nat) (xo : Nat) (x_outLength : Int32) (x_courtStands : Int32) (x_courtNews : Int32) (x_tallyStands : Int32) (x_historyStands : Int32) (amonths : Int32) (afull : Int32) (alean : Int32) (alines : Int32) (ahasMoon : Int32) (amoonStart : Int32) (amoonStep : Int32) (aplaceCount : Int32) (areportCount : Int32) (adeedCount : Int32) (pl : Nat) (re : Nat) (kde : ClassId) (da : Nat → Nat) (d_month : Nat → Int32) (d_day : Nat → Int32) (d_length : Nat → Int32) (d_inDays : Nat → Int32) (p1 : Int32) (p2 : Int32) (gx_outLength : gi x_outLength 0 72) (gx_courtStands : gi x_courtStands 0 1) (gx_tallyStands : gi x_tallyStands 0 1) (gx_historyStands : gi x_historyStands 0 1) (gamonths : gi amonths 0 24) (gafull : gi afull 0 5) (galean : gi alean 0 5) (gahasMoon : gi ahasMoon 0 1) (gaplaceCount : gi aplaceCount 0 6) (gareportCount : gi areportCount 0 24) (gadeedCount : gi adeedCount 0 8) (gd_month : ga d_month 8 0 23) (gd_length : ga d_length 8 0 600) (gd_inDays : ga d_inDays 8 0 1) : Met l yX11_deed (.code yX11_deed cX11_deed 4 (some .int) :: wsGA) ({ frames := 1, cells := 0, slots := 0, locals := 21 }) (va_Pc [.ref h0, .int p1, .int p2] (fun U => va_P (dC, dI) vwCl [(h0, .inr (11, [.ref xr, .ref am, .ref xs, .ref xf, .ref co, .ref oc, .ref ta, .ref xq, .ref xh, .ref xk, .ref xo, .int x_outLength, .int x_courtStands, .int x_courtNews, .int x_tallyStands, .int x_historyStands])), (am, .inr (0, [.int amonths, .int afull, .int alean, .int alines, .int ahasMoon, .int amoonStart, .int amoonStep, .int aplaceCount, .int areportCount, .int adeedCount, .ref pl, .ref re, .ref de])), (de, .inl (kde, 8, .inr (.inr (.inr (.inr (fun i => some (da i)))))))] U.heap ∧ va_K (dC, dI) vwCl [(kde, .object RX2)] U ∧ nzA U ∧ va_P (dC, dI) vwCl (gz_fam 8 da 2 (fun i => [.int (d_month i), .int (d_day i), .int (d_length i), .int (d_inDays i)])) U.heap)) (va_Qi (fun (r : Int32) (u : Unit) => gi r (-2147483648) 2147483647) (fun _ _ => True) (fun _ => False)) 0 0 (fun _ => False) := by
  refine Met.ofW (cc := cX11_deed) (maxL := 4) (ret := (some .int)) (by decide) rfl ?_
  intro p e s m args below meth c s₁ B hml hv
  obtain ⟨rfl, hP, hK, hz, hF0⟩ := hv
  have hx := B.exec
  have hb := B.bytes
  have hr := B.returns
  have hts := atoms_spec (ws := (.code yX11_deed cX11_deed 4 (some .int) :: wsGA)) B.pre
  have hown : s.vm.findClass RX11 = some m.cls := findClass_of_methodNamed B.named
  have hlocks := B.notSynchronized
  have hS : va_S (fun _ => False) s.heap s.heap [] := va_S.rf
  have hFA0 : gz_ap (fun _ => False) (gz_fam 8 da 2 (fun i => [.int (d_month i), .int (d_day i), .int (d_length i), .int (d_inDays i)])) := gz_ap0
  have hl := lv_entry ([.ref h0, .int p1, .int p2]) (n := 4) (Nat.le_of_ble_eq_true rfl)
  rw [lg_entry_eq]
  generalize (lg_sl ([.ref h0, .int p1, .int p2]) ++ List.replicate (4 - (lg_sl ([.ref h0, .int p1, .int p2])).length) Slot.unset).toArray = ls at hl ⊢
  have hl : lv_has ls 4 [(0, .ref h0), (1, .int p1), (2, .int p2)] := hl
  refine lv_aload_n hx hb dX11_deed_0 rfl (lv_at hl 0 rfl) ?_
  refine lv_iload_n hx hb dX11_deed_1 rfl (lv_at hl 1 rfl) ?_
  have hPc := hP.sub (ws' := [(h0, .inr (11, [.ref xr, .ref am, .ref xs, .ref xf, .ref co, .ref oc, .ref ta, .ref xq, .ref xh, .ref xk, .ref xo, .int x_outLength, .int x_courtStands, .int x_courtNews, .int x_tallyStands, .int x_historyStands])), (am, .inr (0, [.int amonths, .int afull, .int alean, .int alines, .int ahasMoon, .int amoonStart, .int amoonStep, .int aplaceCount, .int areportCount, .int adeedCount, .ref pl, .ref re, .ref de]))]) [0, 1] rfl
  have hKc := hK.sub (tys' := []) [] rfl
  refine va_calli (va_runV (As := [.int p1]) (rest := []) ⟨hx, hb, hml, hown, hts⟩ (sX11_hasDeed l dC dI h0 am xr xs xf co oc ta xq xh xk xo x_outLength x_courtStands x_courtNews x_tallyStands x_historyStands amonths afull alean alines ahasMoon amoonStart amoonStep aplaceCount areportCount adeedCount pl re de p1 gx_outLength gx_courtStands gx_tallyStands gx_historyStands gamonths gafull galean gahasMoon gaplaceCount gareportCount gadeedCount) (cwV 1 hts (gz_gV mGA_400 mGA_401 mGA_402 mGA_1 mGA_403 goodGA) rfl rfl rfl (by decide +kernel) ⟨Nat.le_of_ble_eq_true rfl, Nat.le_of_ble_eq_true rfl⟩) ⟨fun a U g mk q => by obtain ⟨q0, qP, qK, qZ⟩ := q; exact ⟨q0, qP, va_K.moved (u := U) (U := U.calling g mk a) (Vm.Alike.refl U.vm) qK, nzA_same (u := U) (U := U.calling g mk a) rfl qZ⟩, va_recv hKc hPc (ci := 11) (q0 := 0) rfl rfl, fun U hU hW => ⟨rfl, by rw [hU]; exact hPc, va_K.moved hW.alike hKc, nzA_warm hW hz⟩⟩ rfl rfl hl.1 rfl (lv_room (Nat.le_of_ble_eq_true rfl)) dX11_deed_2 ⟨Nat.zero_le _, Nat.zero_le _⟩) hS (fun q _ h => h.elim) (fun q h => h.elim) (fun r_14 u t H1 locs ht hvm hw hB hz1 hk1 hS => ?_)
  have hP := gz_keep hP hk1
  generalize H1 = H at hP hS ⊢
  have gr_14 : gi r_14 0 1 := hw.1
  have hqr_14 := hw.2
  refine lv_if_ne (tgt := 11) hx hb dX11_deed_5 (by decide) (fun c_15 => ?_) (fun c_15 => ?_)
  · have g_16 : gi r_14 1 1 := gi_ne_lo c_15 gr_14 (gi_c 0 0 (by decide)) (by decide)
    have g_17 : gi p1 0 7 := gi_cap (gi_any p1) (hqr_14 (gz_one g_16)) (by decide)
    refine lv_aload_n hx hb dX11_deed_11 rfl (lv_at hl 0 rfl) ?_
    refine va_get (D := (dC, dI)) (ci := 11) (v := .ref am) (C := RX11) (T := TX11) (N := 16) hx hb hts (fun w h => List.mem_cons_of_mem _ (jnGA_X11 w h)) hown hK hP 0 rfl rfl 1 (by decide) (hts _ (List.mem_cons_of_mem _ mGA_14)) (fun _ h9 => h9) rfl dX11_deed_12 ?_
    refine va_get (D := (dC, dI)) (ci := 0) (v := .ref de) (C := RX0) (T := TX0) (N := 13) hx hb hts (fun w h => List.mem_cons_of_mem _ (jnGA_X0 w h)) hown hK hP 1 rfl rfl 12 (by decide) (hts _ (List.mem_cons_of_mem _ mGA_395)) (fun _ h9 => h9) rfl dX11_deed_15 ?_
    refine lv_iload_n hx hb dX11_deed_18 rfl (lv_at hl 1 rfl) ?_
    refine va_aldq hx hb hK hP 2 0 rfl rfl (gi_in g_17 (by decide)) dX11_deed_19 ?_
    refine W.eq (g2 := F0 m 20 ls [.ref (da p1.toNatClampNeg)]) rfl ?_
    refine lv_astore_n (lv' := [(3, .ref (da p1.toNatClampNeg)), (0, .ref h0), (1, .int p1), (2, .int p2)]) hx hb dX11_deed_20 rfl hl (by decide) rfl (fun ls hl => ?_)
    refine lv_iload_n hx hb dX11_deed_21 rfl (lv_at hl 3 rfl) ?_
    rcases gz_sw p2 3 (Nat.le_of_ble_eq_true rfl) with hj_18 | ⟨j_18, hj_18, ej_18⟩
    · refine lv_tableOut (tgt := 80) hx hb dX11_deed_22 hj_18 (by decide) ?_
      refine lv_bipush (v := (-2)) hx hb dX11_deed_80 (by decide) ?_
      exact W.iret (v := (-2)) hx hb hr (fun t ht hW => ⟨⟨(-2), (), rfl, (gi_any (-2)), trivial⟩, hS.F ht⟩) hS.2.2 dX11_deed_82
    · rcases (show j_18 = 0 ∨ j_18 = 1 ∨ j_18 = 2 ∨ j_18 = 3 by omega) with rfl | rfl | rfl | rfl
      · refine lv_tableIn (off := 30) (tgt := 52) hx hb dX11_deed_22 (by rw [ej_18]; decide +kernel) (by rw [ej_18]; decide +kernel) (by rw [ej_18]; decide +kernel) (by decide) ?_
        refine lv_aload_n hx hb dX11_deed_52 rfl (lv_at hl 0 rfl) ?_
        refine va_get (D := (dC, dI)) (ci := 2) (v := .int (d_month p1.toNatClampNeg)) (C := RX2) (T := TX2) (N := 4) hx hb hts (fun w h => List.mem_cons_of_mem _ (jnGA_X2 w h)) hown hK (gz_ro hF0 hFA0 hS) (p1.toNatClampNeg) (gz_fam_at (gz_clt (gi_in (n := 8) g_17 (by decide)))) rfl 0 (by decide) (hts _ (List.mem_cons_of_mem _ mGA_396)) (fun _ h9 => h9) rfl dX11_deed_53 ?_
        refine lv_topi (fun x_19 ex_19 => ?_)
        have gx_19 : gi x_19 0 23 := ga_at gd_month (gi_in (n := 8) g_17 (by decide)) ex_19
        exact W.iret (v := x_19) hx hb hr (fun t ht hW => ⟨⟨x_19, (), rfl, (gi_any x_19), trivial⟩, hS.F ht⟩) hS.2.2 dX11_deed_56
      · refine lv_tableIn (off := 35) (tgt := 57) hx hb dX11_deed_22 (by rw [ej_18]; decide +kernel) (by rw [ej_18]; decide +kernel) (by rw [ej_18]; decide +kernel) (by decide) ?_
        refine lv_aload_n hx hb dX11_deed_57 rfl (lv_at hl 0 rfl) ?_
        refine va_get (D := (dC, dI)) (ci := 2) (v := .int (d_day p1.toNatClampNeg)) (C := RX2) (T := TX2) (N := 4) hx hb hts (fun w h => List.mem_cons_of_mem _ (jnGA_X2 w h)) hown hK (gz_ro hF0 hFA0 hS) (p1.toNatClampNeg) (gz_fam_at (gz_clt (gi_in (n := 8) g_17 (by decide)))) rfl 1 (by decide) (hts _ (List.mem_cons_of_mem _ mGA_397)) (fun _ h9 => h9) rfl dX11_deed_58 ?_
        refine lv_topi (fun x_20 ex_20 => ?_)
        exact W.iret (v := x_20) hx hb hr (fun t ht hW => ⟨⟨x_20, (), rfl, (gi_any x_20), trivial⟩, hS.F ht⟩) hS.2.2 dX11_deed_61
      · refine lv_tableIn (off := 40) (tgt := 62) hx hb dX11_deed_22 (by rw [ej_18]; decide +kernel) (by rw [ej_18]; decide +kernel) (by rw [ej_18]; decide +kernel) (by decide) ?_
        refine lv_aload_n hx hb dX11_deed_62 rfl (lv_at hl 0 rfl) ?_
        refine va_get (D := (dC, dI)) (ci := 2) (v := .int (d_length p1.toNatClampNeg)) (C := RX2) (T := TX2) (N := 4) hx hb hts (fun w h => List.mem_cons_of_mem _ (jnGA_X2 w h)) hown hK (gz_ro hF0 hFA0 hS) (p1.toNatClampNeg) (gz_fam_at (gz_clt (gi_in (n := 8) g_17 (by decide)))) rfl 2 (by decide) (hts _ (List.mem_cons_of_mem _ mGA_398)) (fun _ h9 => h9) rfl dX11_deed_63 ?_
        refine lv_topi (fun x_21 ex_21 => ?_)
        have gx_21 : gi x_21 0 600 := ga_at gd_length (gi_in (n := 8) g_17 (by decide)) ex_21
        exact W.iret (v := x_21) hx hb hr (fun t ht hW => ⟨⟨x_21, (), rfl, (gi_any x_21), trivial⟩, hS.F ht⟩) hS.2.2 dX11_deed_66
      · refine lv_tableIn (off := 45) (tgt := 67) hx hb dX11_deed_22 (by rw [ej_18]; decide +kernel) (by rw [ej_18]; decide +kernel) (by rw [ej_18]; decide +kernel) (by decide) ?_
        refine lv_aload_n hx hb dX11_deed_67 rfl (lv_at hl 0 rfl) ?_
        refine va_get (D := (dC, dI)) (ci := 2) (v := .int (d_inDays p1.toNatClampNeg)) (C := RX2) (T := TX2) (N := 4) hx hb hts (fun w h => List.mem_cons_of_mem _ (jnGA_X2 w h)) hown hK (gz_ro hF0 hFA0 hS) (p1.toNatClampNeg) (gz_fam_at (gz_clt (gi_in (n := 8) g_17 (by decide)))) rfl 3 (by decide) (hts _ (List.mem_cons_of_mem _ mGA_399)) (fun _ h9 => h9) rfl dX11_deed_68 ?_
        refine lv_topi (fun x_22 ex_22 => ?_)
        have gx_22 : gi x_22 0 1 := ga_at gd_inDays (gi_in (n := 8) g_17 (by decide)) ex_22
        refine lv_if_eq (tgt := 78) hx hb dX11_deed_71 (by decide) (fun c_23 => ?_) (fun c_23 => ?_)
        · have g_24 : gi x_22 0 0 := gi_eq c_23 (gi_c 0 0 (by decide))
          refine lv_iconst (v := 0) hx hb dX11_deed_78 (by decide) ?_
          exact W.iret (v := 0) hx hb hr (fun t ht hW => ⟨⟨0, (), rfl, (gi_any 0), trivial⟩, hS.F ht⟩) hS.2.2 dX11_deed_79
        · have g_25 : gi x_22 1 1 := gi_ne_lo c_23 gx_22 (gi_c 0 0 (by decide)) (by decide)
          refine lv_iconst (v := 1) hx hb dX11_deed_74 (by decide) ?_
          refine lv_goto (tgt := 79) hx hb dX11_deed_75 (by decide) ?_
          exact W.iret (v := 1) hx hb hr (fun t ht hW => ⟨⟨1, (), rfl, (gi_any 1), trivial⟩, hS.F ht⟩) hS.2.2 dX11_deed_79
  · have g_26 : gi r_14 0 0 := gi_eq c_15 (gi_c 0 0 (by decide))
    refine lv_bipush (v := (-2)) hx hb dX11_deed_8 (by decide) ?_
    exact W.iret (v := (-2)) hx hb hr (fun t ht hW => ⟨⟨(-2), (), rfl, (gi_any (-2)), trivial⟩, hS.F ht⟩) hS.2.2 dX11_deed_10
