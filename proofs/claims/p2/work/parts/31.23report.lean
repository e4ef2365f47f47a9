theorem dX11_report_0 : decode cX11_report 0 = .ok (.aload_n 0, 1) := by decide +kernel
theorem dX11_report_1 : decode cX11_report 1 = .ok (.iload_n 1, 1) := by decide +kernel
theorem dX11_report_2 : decode cX11_report 2 = .ok (.invokevirtual 164, 3) := by decide +kernel
theorem dX11_report_5 : decode cX11_report 5 = .ok (.ifCond .ne 6, 3) := by decide +kernel
theorem dX11_report_8 : decode cX11_report 8 = .ok (.bipush (-2), 2) := by decide +kernel
theorem dX11_report_10 : decode cX11_report 10 = .ok (.ireturn, 1) := by decide +kernel
theorem dX11_report_11 : decode cX11_report 11 = .ok (.aload_n 0, 1) := by decide +kernel
theorem dX11_report_12 : decode cX11_report 12 = .ok (.getfield 19, 3) := by decide +kernel
theorem dX11_report_15 : decode cX11_report 15 = .ok (.getfield 167, 3) := by decide +kernel
theorem dX11_report_18 : decode cX11_report 18 = .ok (.iload_n 1, 1) := by decide +kernel
theorem dX11_report_19 : decode cX11_report 19 = .ok (.aaload, 1) := by decide +kernel
theorem dX11_report_20 : decode cX11_report 20 = .ok (.astore_n 3, 1) := by decide +kernel
theorem dX11_report_21 : decode cX11_report 21 = .ok (.iload_n 2, 1) := by decide +kernel
theorem dX11_report_22 : decode cX11_report 22 = .ok (.tableswitch 70 0 4 #[34, 39, 55, 60, 65], 34) := by decide +kernel
theorem dX11_report_56 : decode cX11_report 56 = .ok (.aload_n 3, 1) := by decide +kernel
theorem dX11_report_57 : decode cX11_report 57 = .ok (.getfield 171, 3) := by decide +kernel
theorem dX11_report_60 : decode cX11_report 60 = .ok (.ireturn, 1) := by decide +kernel
theorem dX11_report_61 : decode cX11_report 61 = .ok (.aload_n 3, 1) := by decide +kernel
theorem dX11_report_62 : decode cX11_report 62 = .ok (.getfield 176, 3) := by decide +kernel
theorem dX11_report_65 : decode cX11_report 65 = .ok (.ifCond .eq 7, 3) := by decide +kernel
theorem dX11_report_68 : decode cX11_report 68 = .ok (.iconst 3, 1) := by decide +kernel
theorem dX11_report_69 : decode cX11_report 69 = .ok (.goto 7, 3) := by decide +kernel
theorem dX11_report_72 : decode cX11_report 72 = .ok (.aload_n 3, 1) := by decide +kernel
theorem dX11_report_73 : decode cX11_report 73 = .ok (.getfield 179, 3) := by decide +kernel
theorem dX11_report_76 : decode cX11_report 76 = .ok (.ireturn, 1) := by decide +kernel
theorem dX11_report_77 : decode cX11_report 77 = .ok (.aload_n 3, 1) := by decide +kernel
theorem dX11_report_78 : decode cX11_report 78 = .ok (.getfield 182, 3) := by decide +kernel
theorem dX11_report_81 : decode cX11_report 81 = .ok (.ireturn, 1) := by decide +kernel
theorem dX11_report_82 : decode cX11_report 82 = .ok (.aload_n 3, 1) := by decide +kernel
theorem dX11_report_83 : decode cX11_report 83 = .ok (.getfield 185, 3) := by decide +kernel
theorem dX11_report_86 : decode cX11_report 86 = .ok (.ireturn, 1) := by decide +kernel
theorem dX11_report_87 : decode cX11_report 87 = .ok (.aload_n 3, 1) := by decide +kernel
theorem dX11_report_88 : decode cX11_report 88 = .ok (.getfield 188, 3) := by decide +kernel
theorem dX11_report_91 : decode cX11_report 91 = .ok (.ireturn, 1) := by decide +kernel
theorem dX11_report_92 : decode cX11_report 92 = .ok (.bipush (-2), 2) := by decide +kernel
theorem dX11_report_94 : decode cX11_report 94 = .ok (.ireturn, 1) := by decide +kernel
set_option maxHeartbeats 4000000 in
set_option maxRecDepth 100000 in
theorem sX11_report (l : Launch) (dC : Nat → ClassId) (dI : Nat → Nat → Nat) (h0 : Nat) (am : Nat) (re : Nat) (xr : Nat) (xs : Nat) (xf : Nat) (co : Nat) (oc : Nat) (ta : Nat) (xq : Nat) (xh : Nat) (xk : Nat) (xo : Nat) (x_outLength : Int32) (x_courtStands : Int32) (x_courtNews : Int32) (x_tallyStands : Int32) (x_historyStands : Int32) (amonths : Int32) (afull : Int32) (alean : Int32) (alines : Int32) (ahasMoon : Int32) (amoonStart : Int32) (amoonStep : Int32) (aplaceCount : Int32) (areportCount : Int32) (adeedCount : Int32) (pl : Nat) (de : Nat) (kre : ClassId) (ra : Nat → Nat) (r_place : Nat → Int32) (r_kind : Nat → Int32) (r_month : Nat → Int32) (r_day : Nat → Int32) (r_known : Nat → Int32) (r_struck : Nat → Int32) (p1 : Int32) (p2 : Int32) (gx_outLength : gi x_outLength 0 72) (gx_courtStands : gi x_courtStands 0 1) (gx_tallyStands : gi x_tallyStands 0 1) (gx_historyStands : gi x_historyStands 0 1) (gamonths : gi amonths 0 24) (gafull : gi afull 0 5) (galean : gi alean 0 5) (gahasMoon : gi ahasMoon 0 1) (gaplaceCount : gi aplaceCount 0 6) (gareportCount : gi areportCount 0 24) (gadeedCount : gi adeedCount 0 8) (gr_place : ga r_place 24 0 5) (gr_month : ga r_month 24 0 23) (gr_struck : ga r_struck 24 0 1) : Met l yX11_report (.code yX11_report cX11_report 4 (some .int) :: wsGA) ({ frames := 1, cells := 0, slots := 0, locals := 21 }) (va_Pc [.ref h0, .int p1, .int p2] (fun U => va_P (dC, dI) vwCl [(h0, .inr (11, [.ref xr, .ref am, .ref xs, .ref xf, .ref co, .ref oc, .ref ta, .ref xq, .ref xh, .ref xk, .ref xo, .int x_outLength, .int x_courtStands, .int x_courtNews, .int x_tallyStands, .int x_historyStands])), (am, .inr (0, [.int amonths, .int afull, .int alean, .int alines, .int ahasMoon, .int amoonStart, .int amoonStep, .int aplaceCount, .int areportCount, .int adeedCount, .ref pl, .ref re, .ref de])), (re, .inl (kre, 24, .inr (.inr (.inr (.inr (fun i => some (ra i)))))))] U.heap ∧ va_K (dC, dI) vwCl [(kre, .object RX7)] U ∧ nzA U ∧ va_P (dC, dI) vwCl (gz_fam 24 ra 7 (fun i => [.int (r_place i), .int (r_kind i), .int (r_month i), .int (r_day i), .int (r_known i), .int (r_struck i)])) U.heap)) (va_Qi (fun (r : Int32) (u : Unit) => gi r (-2147483648) 2147483647) (fun _ _ => True) (fun _ => False)) 0 0 (fun _ => False) := by
  refine Met.ofW (cc := cX11_report) (maxL := 4) (ret := (some .int)) (by decide) rfl ?_
  intro p e s m args below meth c s₁ B hml hv
  obtain ⟨rfl, hP, hK, hz, hF0⟩ := hv
  have hx := B.exec
  have hb := B.bytes
  have hr := B.returns
  have hts := atoms_spec (ws := (.code yX11_report cX11_report 4 (some .int) :: wsGA)) B.pre
  have hown : s.vm.findClass RX11 = some m.cls := findClass_of_methodNamed B.named
  have hlocks := B.notSynchronized
  have hS : va_S (fun _ => False) s.heap s.heap [] := va_S.rf
  have hFA0 : gz_ap (fun _ => False) (gz_fam 24 ra 7 (fun i => [.int (r_place i), .int (r_kind i), .int (r_month i), .int (r_day i), .int (r_known i), .int (r_struck i)])) := gz_ap0
  have hl := lv_entry ([.ref h0, .int p1, .int p2]) (n := 4) (Nat.le_of_ble_eq_true rfl)
  rw [lg_entry_eq]
  generalize (lg_sl ([.ref h0, .int p1, .int p2]) ++ List.replicate (4 - (lg_sl ([.ref h0, .int p1, .int p2])).length) Slot.unset).toArray = ls at hl ⊢
  have hl : lv_has ls 4 [(0, .ref h0), (1, .int p1), (2, .int p2)] := hl
  refine lv_aload_n hx hb dX11_report_0 rfl (lv_at hl 0 rfl) ?_
  refine lv_iload_n hx hb dX11_report_1 rfl (lv_at hl 1 rfl) ?_
  have hPc := hP.sub (ws' := [(h0, .inr (11, [.ref xr, .ref am, .ref xs, .ref xf, .ref co, .ref oc, .ref ta, .ref xq, .ref xh, .ref xk, .ref xo, .int x_outLength, .int x_courtStands, .int x_courtNews, .int x_tallyStands, .int x_historyStands])), (am, .inr (0, [.int amonths, .int afull, .int alean, .int alines, .int ahasMoon, .int amoonStart, .int amoonStep, .int aplaceCount, .int areportCount, .int adeedCount, .ref pl, .ref re, .ref de]))]) [0, 1] rfl
  have hKc := hK.sub (tys' := []) [] rfl
  refine va_calli (va_runV (As := [.int p1]) (rest := []) ⟨hx, hb, hml, hown, hts⟩ (sX11_hasReport l dC dI h0 am xr xs xf co oc ta xq xh xk xo x_outLength x_courtStands x_courtNews x_tallyStands x_historyStands amonths afull alean alines ahasMoon amoonStart amoonStep aplaceCount areportCount adeedCount pl re de p1 gx_outLength gx_courtStands gx_tallyStands gx_historyStands gamonths gafull galean gahasMoon gaplaceCount gareportCount gadeedCount) (cwV 1 hts (gz_gV mGA_388 mGA_389 mGA_390 mGA_1 mGA_391 goodGA) rfl rfl rfl (by decide +kernel) ⟨Nat.le_of_ble_eq_true rfl, Nat.le_of_ble_eq_true rfl⟩) ⟨fun a U g mk q => by obtain ⟨q0, qP, qK, qZ⟩ := q; exact ⟨q0, qP, va_K.moved (u := U) (U := U.calling g mk a) (Vm.Alike.refl U.vm) qK, nzA_same (u := U) (U := U.calling g mk a) rfl qZ⟩, va_recv hKc hPc (ci := 11) (q0 := 0) rfl rfl, fun U hU hW => ⟨rfl, by rw [hU]; exact hPc, va_K.moved hW.alike hKc, nzA_warm hW hz⟩⟩ rfl rfl hl.1 rfl (lv_room (Nat.le_of_ble_eq_true rfl)) dX11_report_2 ⟨Nat.zero_le _, Nat.zero_le _⟩) hS (fun q _ h => h.elim) (fun q h => h.elim) (fun r_16 u t H1 locs ht hvm hw hB hz1 hk1 hS => ?_)
  have hP := gz_keep hP hk1
  generalize H1 = H at hP hS ⊢
  have gr_16 : gi r_16 0 1 := hw.1
  have hqr_16 := hw.2
  refine lv_if_ne (tgt := 11) hx hb dX11_report_5 (by decide) (fun c_17 => ?_) (fun c_17 => ?_)
  · have g_18 : gi r_16 1 1 := gi_ne_lo c_17 gr_16 (gi_c 0 0 (by decide)) (by decide)
    have g_19 : gi p1 0 23 := gi_cap (gi_any p1) (hqr_16 (gz_one g_18)) (by decide)
    refine lv_aload_n hx hb dX11_report_11 rfl (lv_at hl 0 rfl) ?_
    refine va_get (D := (dC, dI)) (ci := 11) (v := .ref am) (C := RX11) (T := TX11) (N := 16) hx hb hts (fun w h => List.mem_cons_of_mem _ (jnGA_X11 w h)) hown hK hP 0 rfl rfl 1 (by decide) (hts _ (List.mem_cons_of_mem _ mGA_14)) (fun _ h9 => h9) rfl dX11_report_12 ?_
    refine va_get (D := (dC, dI)) (ci := 0) (v := .ref re) (C := RX0) (T := TX0) (N := 13) hx hb hts (fun w h => List.mem_cons_of_mem _ (jnGA_X0 w h)) hown hK hP 1 rfl rfl 11 (by decide) (hts _ (List.mem_cons_of_mem _ mGA_381)) (fun _ h9 => h9) rfl dX11_report_15 ?_
    refine lv_iload_n hx hb dX11_report_18 rfl (lv_at hl 1 rfl) ?_
    refine va_aldq hx hb hK hP 2 0 rfl rfl (gi_in g_19 (by decide)) dX11_report_19 ?_
    refine W.eq (g2 := F0 m 20 ls [.ref (ra p1.toNatClampNeg)]) rfl ?_
    refine lv_astore_n (lv' := [(3, .ref (ra p1.toNatClampNeg)), (0, .ref h0), (1, .int p1), (2, .int p2)]) hx hb dX11_report_20 rfl hl (by decide) rfl (fun ls hl => ?_)
    refine lv_iload_n hx hb dX11_report_21 rfl (lv_at hl 3 rfl) ?_
    rcases gz_sw p2 4 (Nat.le_of_ble_eq_true rfl) with hj_20 | ⟨j_20, hj_20, ej_20⟩
    · refine lv_tableOut (tgt := 92) hx hb dX11_report_22 hj_20 (by decide) ?_
      refine lv_bipush (v := (-2)) hx hb dX11_report_92 (by decide) ?_
      exact W.iret (v := (-2)) hx hb hr (fun t ht hW => ⟨⟨(-2), (), rfl, (gi_any (-2)), trivial⟩, hS.F ht⟩) hS.2.2 dX11_report_94
    · rcases (show j_20 = 0 ∨ j_20 = 1 ∨ j_20 = 2 ∨ j_20 = 3 ∨ j_20 = 4 by omega) with rfl | rfl | rfl | rfl | rfl
      · refine lv_tableIn (off := 34) (tgt := 56) hx hb dX11_report_22 (by rw [ej_20]; decide +kernel) (by rw [ej_20]; decide +kernel) (by rw [ej_20]; decide +kernel) (by decide) ?_
        refine lv_aload_n hx hb dX11_report_56 rfl (lv_at hl 0 rfl) ?_
        refine va_get (D := (dC, dI)) (ci := 7) (v := .int (r_place p1.toNatClampNeg)) (C := RX7) (T := TX7) (N := 6) hx hb hts (fun w h => List.mem_cons_of_mem _ (jnGA_X7 w h)) hown hK (gz_ro hF0 hFA0 hS) (p1.toNatClampNeg) (gz_fam_at (gz_clt (gi_in (n := 24) g_19 (by decide)))) rfl 0 (by decide) (hts _ (List.mem_cons_of_mem _ mGA_382)) (fun _ h9 => h9) rfl dX11_report_57 ?_
        refine lv_topi (fun x_21 ex_21 => ?_)
        have gx_21 : gi x_21 0 5 := ga_at gr_place (gi_in (n := 24) g_19 (by decide)) ex_21
        exact W.iret (v := x_21) hx hb hr (fun t ht hW => ⟨⟨x_21, (), rfl, (gi_any x_21), trivial⟩, hS.F ht⟩) hS.2.2 dX11_report_60
      · refine lv_tableIn (off := 39) (tgt := 61) hx hb dX11_report_22 (by rw [ej_20]; decide +kernel) (by rw [ej_20]; decide +kernel) (by rw [ej_20]; decide +kernel) (by decide) ?_
        refine lv_aload_n hx hb dX11_report_61 rfl (lv_at hl 0 rfl) ?_
        refine va_get (D := (dC, dI)) (ci := 7) (v := .int (r_struck p1.toNatClampNeg)) (C := RX7) (T := TX7) (N := 6) hx hb hts (fun w h => List.mem_cons_of_mem _ (jnGA_X7 w h)) hown hK (gz_ro hF0 hFA0 hS) (p1.toNatClampNeg) (gz_fam_at (gz_clt (gi_in (n := 24) g_19 (by decide)))) rfl 5 (by decide) (hts _ (List.mem_cons_of_mem _ mGA_383)) (fun _ h9 => h9) rfl dX11_report_62 ?_
        refine lv_topi (fun x_22 ex_22 => ?_)
        have gx_22 : gi x_22 0 1 := ga_at gr_struck (gi_in (n := 24) g_19 (by decide)) ex_22
        refine lv_if_eq (tgt := 72) hx hb dX11_report_65 (by decide) (fun c_23 => ?_) (fun c_23 => ?_)
        · have g_24 : gi x_22 0 0 := gi_eq c_23 (gi_c 0 0 (by decide))
          refine lv_aload_n hx hb dX11_report_72 rfl (lv_at hl 0 rfl) ?_
          refine va_get (D := (dC, dI)) (ci := 7) (v := .int (r_kind p1.toNatClampNeg)) (C := RX7) (T := TX7) (N := 6) hx hb hts (fun w h => List.mem_cons_of_mem _ (jnGA_X7 w h)) hown hK (gz_ro hF0 hFA0 hS) (p1.toNatClampNeg) (gz_fam_at (gz_clt (gi_in (n := 24) g_19 (by decide)))) rfl 1 (by decide) (hts _ (List.mem_cons_of_mem _ mGA_384)) (fun _ h9 => h9) rfl dX11_report_73 ?_
          refine lv_topi (fun x_25 ex_25 => ?_)
          exact W.iret (v := x_25) hx hb hr (fun t ht hW => ⟨⟨x_25, (), rfl, (gi_any x_25), trivial⟩, hS.F ht⟩) hS.2.2 dX11_report_76
        · have g_26 : gi x_22 1 1 := gi_ne_lo c_23 gx_22 (gi_c 0 0 (by decide)) (by decide)
          refine lv_iconst (v := 3) hx hb dX11_report_68 (by decide) ?_
          refine lv_goto (tgt := 76) hx hb dX11_report_69 (by decide) ?_
          exact W.iret (v := 3) hx hb hr (fun t ht hW => ⟨⟨3, (), rfl, (gi_any 3), trivial⟩, hS.F ht⟩) hS.2.2 dX11_report_76
      · refine lv_tableIn (off := 55) (tgt := 77) hx hb dX11_report_22 (by rw [ej_20]; decide +kernel) (by rw [ej_20]; decide +kernel) (by rw [ej_20]; decide +kernel) (by decide) ?_
        refine lv_aload_n hx hb dX11_report_77 rfl (lv_at hl 0 rfl) ?_
        refine va_get (D := (dC, dI)) (ci := 7) (v := .int (r_month p1.toNatClampNeg)) (C := RX7) (T := TX7) (N := 6) hx hb hts (fun w h => List.mem_cons_of_mem _ (jnGA_X7 w h)) hown hK (gz_ro hF0 hFA0 hS) (p1.toNatClampNeg) (gz_fam_at (gz_clt (gi_in (n := 24) g_19 (by decide)))) rfl 2 (by decide) (hts _ (List.mem_cons_of_mem _ mGA_385)) (fun _ h9 => h9) rfl dX11_report_78 ?_
        refine lv_topi (fun x_27 ex_27 => ?_)
        have gx_27 : gi x_27 0 23 := ga_at gr_month (gi_in (n := 24) g_19 (by decide)) ex_27
        exact W.iret (v := x_27) hx hb hr (fun t ht hW => ⟨⟨x_27, (), rfl, (gi_any x_27), trivial⟩, hS.F ht⟩) hS.2.2 dX11_report_81
      · refine lv_tableIn (off := 60) (tgt := 82) hx hb dX11_report_22 (by rw [ej_20]; decide +kernel) (by rw [ej_20]; decide +kernel) (by rw [ej_20]; decide +kernel) (by decide) ?_
        refine lv_aload_n hx hb dX11_report_82 rfl (lv_at hl 0 rfl) ?_
        refine va_get (D := (dC, dI)) (ci := 7) (v := .int (r_day p1.toNatClampNeg)) (C := RX7) (T := TX7) (N := 6) hx hb hts (fun w h => List.mem_cons_of_mem _ (jnGA_X7 w h)) hown hK (gz_ro hF0 hFA0 hS) (p1.toNatClampNeg) (gz_fam_at (gz_clt (gi_in (n := 24) g_19 (by decide)))) rfl 3 (by decide) (hts _ (List.mem_cons_of_mem _ mGA_386)) (fun _ h9 => h9) rfl dX11_report_83 ?_
        refine lv_topi (fun x_28 ex_28 => ?_)
        exact W.iret (v := x_28) hx hb hr (fun t ht hW => ⟨⟨x_28, (), rfl, (gi_any x_28), trivial⟩, hS.F ht⟩) hS.2.2 dX11_report_86
      · refine lv_tableIn (off := 65) (tgt := 87) hx hb dX11_report_22 (by rw [ej_20]; decide +kernel) (by rw [ej_20]; decide +kernel) (by rw [ej_20]; decide +kernel) (by decide) ?_
        refine lv_aload_n hx hb dX11_report_87 rfl (lv_at hl 0 rfl) ?_
        refine va_get (D := (dC, dI)) (ci := 7) (v := .int (r_known p1.toNatClampNeg)) (C := RX7) (T := TX7) (N := 6) hx hb hts (fun w h => List.mem_cons_of_mem _ (jnGA_X7 w h)) hown hK (gz_ro hF0 hFA0 hS) (p1.toNatClampNeg) (gz_fam_at (gz_clt (gi_in (n := 24) g_19 (by decide)))) rfl 4 (by decide) (hts _ (List.mem_cons_of_mem _ mGA_387)) (fun _ h9 => h9) rfl dX11_report_88 ?_
        refine lv_topi (fun x_29 ex_29 => ?_)
        exact W.iret (v := x_29) hx hb hr (fun t ht hW => ⟨⟨x_29, (), rfl, (gi_any x_29), trivial⟩, hS.F ht⟩) hS.2.2 dX11_report_91
  · have g_30 : gi r_16 0 0 := gi_eq c_17 (gi_c 0 0 (by decide))
    refine lv_bipush (v := (-2)) hx hb dX11_report_8 (by decide) ?_
    exact W.iret (v := (-2)) hx hb hr (fun t ht hW => ⟨⟨(-2), (), rfl, (gi_any (-2)), trivial⟩, hS.F ht⟩) hS.2.2 dX11_report_10
