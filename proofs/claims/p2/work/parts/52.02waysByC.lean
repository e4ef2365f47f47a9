set_option maxHeartbeats 4000000 in
set_option maxRecDepth 100000 in
theorem sX12_waysByC (l : Launch) (dC : Nat → ClassId) (dI : Nat → Nat → Nat) (h0 : Nat) (mi : Nat → Int32) (mr : Nat → Nat) (km_ways : ClassId) (fm_ways : Nat → Int32) (p1 : Int32) (p2 : Int32) (p3 : Int32) (p4 : Int32) (gmi_0 : gi (mi 0) 0 24) (gmi_1 : gi (mi 1) 0 5) (gmi_2 : gi (mi 2) 0 5) (gmi_4 : gi (mi 4) 0 1) (gmi_7 : gi (mi 7) 0 6) (gmi_10 : gi (mi 10) 0 24) (gmi_17 : gi (mi 17) 0 8) (gmi_23 : gi (mi 23) 0 300) (gmi_24 : gi (mi 24) 0 1) (gmi_26 : gi (mi 26) 0 1600) (gmi_29 : gi (mi 29) 0 1600) (gmi_30 : gi (mi 30) 0 1600) (gmi_33 : gi (mi 33) 0 1) (gmi_37 : gi (mi 37) 0 1) (gmi_41 : gi (mi 41) 0 24) (gmi_50 : gi (mi 50) 0 1) (gmi_51 : gi (mi 51) 0 1) (gmi_56 : gi (mi 56) 0 80) (gp1 : gi p1 0 23) (gp2 : gi p2 0 23) (gp3 : gi p3 0 10) (gp4 : gi p4 0 1) : Met l yX12_waysBy (.code yX12_waysBy cX12_waysBy 6 (some .int) :: wsGB) ({ frames := 1, cells := 0, slots := 0, locals := 23 }) (va_Pc [.ref h0, .int p1, .int p2, .int p3, .int p4] (fun U => va_P (dC, dI) vwCl [(h0, .inr (12, fsMM mi mr)), ((mr 17), .inl (km_ways, 6875, .inl fm_ways))] U.heap ∧ va_K (dC, dI) vwCl [(km_ways, .int)] U)) (va_Qi (fun (r : Int32) (u : Unit) => gi r (-2147483648) 2147483647 ∧ r.toInt = wbF fm_ways (mi 1).toInt (mi 2).toInt p1.toInt p2.toInt p3.toInt p4.toInt) (fun _ _ => True) (fun _ => False)) 0 0 (fun _ => False) := by
  refine Met.ofW (cc := cX12_waysBy) (maxL := 6) (ret := (some .int)) (by decide) rfl ?_
  intro p e s m args below meth c s₁ B hml hv
  obtain ⟨rfl, hP, hK⟩ := hv
  have hx := B.exec
  have hb := B.bytes
  have hr := B.returns
  have hts := atoms_spec (ws := (.code yX12_waysBy cX12_waysBy 6 (some .int) :: wsGB)) B.pre
  have hown : s.vm.findClass RX12 = some m.cls := findClass_of_methodNamed B.named
  have hlocks := B.notSynchronized
  have hS : va_S (fun _ => False) s.heap s.heap [] := va_S.rf
  have hl := lv_entry ([.ref h0, .int p1, .int p2, .int p3, .int p4]) (n := 6) (Nat.le_of_ble_eq_true rfl)
  rw [lg_entry_eq]
  generalize (lg_sl ([.ref h0, .int p1, .int p2, .int p3, .int p4]) ++ List.replicate (6 - (lg_sl ([.ref h0, .int p1, .int p2, .int p3, .int p4])).length) Slot.unset).toArray = ls at hl ⊢
  have hl : lv_has ls 6 [(0, .ref h0), (1, .int p1), (2, .int p2), (3, .int p3), (4, .int p4)] := hl
  refine lv_aload_n hx hb dX12_waysBy_0 rfl (lv_at hl 0 rfl) ?_
  refine lv_iload_n hx hb dX12_waysBy_1 rfl (lv_at hl 3 rfl) ?_
  refine lv_iload hx hb dX12_waysBy_2 (lv_at hl 4 rfl) ?_
  have hPc := hP.sub (ws' := [(h0, .inr (12, fsMM mi mr))]) [0] rfl
  have hKc := hK.sub (tys' := []) [] rfl
  refine va_calli (va_runV (As := [.int p3, .int p4]) (rest := []) ⟨hx, hb, hml, hown, hts⟩ (sX12_runBehindC l dC dI h0 mi mr p3 p4 gmi_0 gmi_1 gmi_2 gmi_4 gmi_7 gmi_10 gmi_17 gmi_23 gmi_24 gmi_26 gmi_29 gmi_30 gmi_33 gmi_37 gmi_41 gmi_50 gmi_51 gmi_56 (gi_w gp3 (by decide)) gp4) (cwV 2 hts (gz_gV mGB_311 mGB_312 mGB_313 mGB_1 mGB_314 goodGB) rfl rfl rfl (by decide +kernel) ⟨Nat.le_of_ble_eq_true rfl, Nat.le_of_ble_eq_true rfl⟩) ⟨fun a U g mk q => by obtain ⟨q0, qP, qK⟩ := q; exact ⟨q0, qP, va_K.moved (u := U) (U := U.calling g mk a) (Vm.Alike.refl U.vm) qK⟩, va_recv hKc hPc (ci := 12) (q0 := 0) rfl rfl, fun U hU hW => ⟨rfl, by rw [hU]; exact hPc, va_K.moved hW.alike hKc⟩⟩ rfl rfl hl.1 rfl (lv_room (Nat.le_of_ble_eq_true rfl)) dX12_waysBy_4 ⟨Nat.zero_le _, Nat.zero_le _⟩) hS (fun q _ h => h.elim) (fun q h => h.elim) (fun r_11 u t H1 locs ht hvm hw hB hz1 hk1 hS => ?_)
  have hP := gz_keep hP hk1
  generalize H1 = H at hP hS ⊢
  have gr_11 : gi r_11 (-1) 10 := hw.1
  have hqr_11 := hw.2
  have hqr_11 : r_11.toInt = rbF (mi 1).toInt (mi 2).toInt p3.toInt p4.toInt := hqr_11
  clear hw
  refine lv_istore (lv' := [(5, .int r_11), (0, .ref h0), (1, .int p1), (2, .int p2), (3, .int p3), (4, .int p4)]) hx hb dX12_waysBy_7 hl (by decide) rfl (fun ls hl => ?_)
  refine lv_iload hx hb dX12_waysBy_9 (lv_at hl 0 rfl) ?_
  refine lv_iconst (v := (-1)) hx hb dX12_waysBy_11 (by decide) ?_
  refine lv_icmp_ne (tgt := 19) hx hb dX12_waysBy_12 (by decide) (fun c_12 => ?_) (fun c_12 => ?_)
  · have hc_13 : r_11.toInt ≠ (-1) := fun h9 => c_12 (Int32.toInt_inj.mp (by rw [show ((-1) : Int32).toInt = (-1) from by decide]; exact h9))
    have g_14 : gi r_11 0 10 := gi_ne_lo c_12 gr_11 (gi_c (-1) (-1) (by decide)) (by decide)
    refine lv_aload_n hx hb dX12_waysBy_19 rfl (lv_at hl 1 rfl) ?_
    refine va_get (D := (dC, dI)) (ci := 12) (v := .ref (mr 17)) (C := RX12) (T := TX12) (N := 57) hx hb hts (fun w h => List.mem_cons_of_mem _ (jnGB_X12 w h)) hown hK hP 0 rfl rfl 38 (by decide) (hts _ (List.mem_cons_of_mem _ mGB_29)) (fun _ h9 => h9) rfl dX12_waysBy_20 ?_
    refine lv_iload_n hx hb dX12_waysBy_23 rfl (lv_at hl 2 rfl) ?_
    refine lv_iconst (v := 1) hx hb dX12_waysBy_24 (by decide) ?_
    refine lv_iadd hx hb dX12_waysBy_25 ?_
    refine lv_topi (fun x_15 ex_15 => ?_)
    have gx_15 : gi x_15 1 24 := gi_add ex_15 gp1 (gi_c 1 1 (by decide)) (by decide)
    refine lv_iload_n hx hb dX12_waysBy_26 rfl (lv_at hl 3 rfl) ?_
    refine lv_iload hx hb dX12_waysBy_27 (lv_at hl 5 rfl) ?_
    refine lv_iadd hx hb dX12_waysBy_29 ?_
    refine lv_topi (fun x_16 ex_16 => ?_)
    have gx_16 : gi x_16 0 24 := gi_add ex_16 gp2 gp4 (by decide)
    refine lv_iload hx hb dX12_waysBy_30 (lv_at hl 0 rfl) ?_
    have hPc := hP.sub (ws' := []) [] rfl
    have hKc := hK.sub (tys' := []) [] rfl
    refine va_calli (va_runS (As := [.int x_15, .int x_16, .int r_11]) (rest := [.ref (mr 17)]) ⟨hx, hb, hml, hown, hts⟩ (sX12_placeOfC l dC dI x_15 x_16 r_11 (gi_w gx_15 (by decide)) gx_16 g_14) (cwS 3 hts (gz_gS mGB_315 mGB_316 mGB_1 mGB_317 goodGB) rfl rfl rfl (by decide +kernel) ⟨Nat.le_of_ble_eq_true rfl, Nat.le_of_ble_eq_true rfl⟩) ⟨fun a U g mk q => by obtain ⟨q0, qP, qK⟩ := q; exact ⟨q0, qP, va_K.moved (u := U) (U := U.calling g mk a) (Vm.Alike.refl U.vm) qK⟩, fun U hU hW => ⟨rfl, by rw [hU]; exact hPc, va_K.moved hW.alike hKc⟩⟩ rfl rfl hl.1 rfl (lv_room (Nat.le_of_ble_eq_true rfl)) dX12_waysBy_32 ⟨Nat.zero_le _, Nat.zero_le _⟩) hS (fun q _ h => h.elim) (fun q h => h.elim) (fun r_17 u t H1 locs ht hvm hw hB hz1 hk1 hS => ?_)
    have hP := gz_keep hP hk1
    generalize H1 = H at hP hS ⊢
    have gr_17 : gi r_17 0 6874 := hw.1
    have hqr_17 := hw.2
    have hqr_17 : r_17.toInt = 275 * x_15.toInt + 11 * x_16.toInt + r_11.toInt := hqr_17
    clear hw
    refine va_iald hx hb hK hP 1 0 rfl rfl (gi_in gr_17 (by decide)) dX12_waysBy_35 ?_
    refine lv_topi (fun x_18 ex_18 => ?_)
    have hlx_18 : x_18.toInt = (fm_ways r_17.toNatClampNeg).toInt := congrArg Int32.toInt ex_18
    exact W.iret (v := x_18) hx hb hr (fun t ht hW => ⟨⟨x_18, (), rfl, ⟨(gi_any x_18), (show x_18.toInt = wbF fm_ways (mi 1).toInt (mi 2).toInt p1.toInt p2.toInt p3.toInt p4.toInt from by unfold wbF; rw [if_neg (by rw [← hqr_11]; have qgx_16 := gx_16.1; have rgx_16 := gx_16.2; have igx_16 : x_16.toInt = p2.toInt + p4.toInt := (by have h9 := gi_addI ex_16 (by have h1 := gp2.1; have h2 := gp4.1; have h3 := gp2.2; have h4 := gp4.2; omega) (by have h1 := gp2.1; have h2 := gp4.1; have h3 := gp2.2; have h4 := gp4.2; omega); exact h9); have qgp4 := gp4.1; have rgp4 := gp4.2; have qgp2 := gp2.1; have rgp2 := gp2.2; have qgx_15 := gx_15.1; have rgx_15 := gx_15.2; have igx_15 : x_15.toInt = p1.toInt + 1 := (by have hc1 : (1 : Int32).toInt = 1 := (by decide); have h9 := gi_addI ex_15 (by have h1 := gp1.1; have h2 := (gi_c 1 1 (by decide)).1; have h3 := gp1.2; have h4 := (gi_c 1 1 (by decide)).2; omega) (by have h1 := gp1.1; have h2 := (gi_c 1 1 (by decide)).1; have h3 := gp1.2; have h4 := (gi_c 1 1 (by decide)).2; omega); rw [hc1] at h9; exact h9); have qgp1 := gp1.1; have rgp1 := gp1.2; have qgr_17 := gr_17.1; have rgr_17 := gr_17.2; have qgr_11 := g_14.1; have rgr_11 := g_14.2; have qgp3 := gp3.1; have rgp3 := gp3.2; have qgmi_2 := gmi_2.1; have rgmi_2 := gmi_2.2; have qgmi_1 := gmi_1.1; have rgmi_1 := gmi_1.2; omega), ← hqr_11, ex_18]; congr 2; show r_17.toInt.toNat = _; congr 1; have qgx_16 := gx_16.1; have rgx_16 := gx_16.2; have igx_16 : x_16.toInt = p2.toInt + p4.toInt := (by have h9 := gi_addI ex_16 (by have h1 := gp2.1; have h2 := gp4.1; have h3 := gp2.2; have h4 := gp4.2; omega) (by have h1 := gp2.1; have h2 := gp4.1; have h3 := gp2.2; have h4 := gp4.2; omega); exact h9); have qgp4 := gp4.1; have rgp4 := gp4.2; have qgp2 := gp2.1; have rgp2 := gp2.2; have qgx_15 := gx_15.1; have rgx_15 := gx_15.2; have igx_15 : x_15.toInt = p1.toInt + 1 := (by have hc1 : (1 : Int32).toInt = 1 := (by decide); have h9 := gi_addI ex_15 (by have h1 := gp1.1; have h2 := (gi_c 1 1 (by decide)).1; have h3 := gp1.2; have h4 := (gi_c 1 1 (by decide)).2; omega) (by have h1 := gp1.1; have h2 := (gi_c 1 1 (by decide)).1; have h3 := gp1.2; have h4 := (gi_c 1 1 (by decide)).2; omega); rw [hc1] at h9; exact h9); have qgp1 := gp1.1; have rgp1 := gp1.2; have qgr_17 := gr_17.1; have rgr_17 := gr_17.2; have qgr_11 := g_14.1; have rgr_11 := g_14.2; have qgp3 := gp3.1; have rgp3 := gp3.2; have qgmi_2 := gmi_2.1; have rgmi_2 := gmi_2.2; have qgmi_1 := gmi_1.1; have rgmi_1 := gmi_1.2; omega)⟩, trivial⟩, hS.F ht⟩) hS.2.2 dX12_waysBy_36
  · have hc_19 : r_11.toInt = (-1) := by have h9 := congrArg Int32.toInt c_12; rw [show ((-1) : Int32).toInt = (-1) from by decide] at h9; exact h9
    have g_20 : gi r_11 (-1) (-1) := gi_eq c_12 (gi_c (-1) (-1) (by decide))
    refine lv_iconst (v := 0) hx hb dX12_waysBy_15 (by decide) ?_
    refine lv_goto (tgt := 36) hx hb dX12_waysBy_16 (by decide) ?_
    exact W.iret (v := 0) hx hb hr (fun t ht hW => ⟨⟨0, (), rfl, ⟨(gi_any 0), (show (0 : Int) = wbF fm_ways (mi 1).toInt (mi 2).toInt p1.toInt p2.toInt p3.toInt p4.toInt from by unfold wbF; rw [if_pos (by rw [← hqr_11]; have qgr_11 := g_20.1; have rgr_11 := g_20.2; have qgp4 := gp4.1; have rgp4 := gp4.2; have qgp3 := gp3.1; have rgp3 := gp3.2; have qgmi_2 := gmi_2.1; have rgmi_2 := gmi_2.2; have qgmi_1 := gmi_1.1; have rgmi_1 := gmi_1.2; omega)])⟩, trivial⟩, hS.F ht⟩) hS.2.2 dX12_waysBy_36
