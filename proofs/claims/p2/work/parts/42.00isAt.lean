theorem dX12_isAt_0 : decode cX12_isAt 0 = .ok (.aload_n 0, 1) := by decide +kernel
theorem dX12_isAt_1 : decode cX12_isAt 1 = .ok (.getfield 151, 3) := by decide +kernel
theorem dX12_isAt_4 : decode cX12_isAt 4 = .ok (.aload_n 0, 1) := by decide +kernel
theorem dX12_isAt_5 : decode cX12_isAt 5 = .ok (.getfield 99, 3) := by decide +kernel
theorem dX12_isAt_8 : decode cX12_isAt 8 = .ok (.if_icmp .ge 27, 3) := by decide +kernel
theorem dX12_isAt_11 : decode cX12_isAt 11 = .ok (.aload_n 0, 1) := by decide +kernel
theorem dX12_isAt_12 : decode cX12_isAt 12 = .ok (.getfield 50, 3) := by decide +kernel
theorem dX12_isAt_15 : decode cX12_isAt 15 = .ok (.aload_n 0, 1) := by decide +kernel
theorem dX12_isAt_16 : decode cX12_isAt 16 = .ok (.getfield 151, 3) := by decide +kernel
theorem dX12_isAt_19 : decode cX12_isAt 19 = .ok (.iaload, 1) := by decide +kernel
theorem dX12_isAt_20 : decode cX12_isAt 20 = .ok (.i2l, 1) := by decide +kernel
theorem dX12_isAt_21 : decode cX12_isAt 21 = .ok (.iload_n 1, 1) := by decide +kernel
theorem dX12_isAt_22 : decode cX12_isAt 22 = .ok (.i2l, 1) := by decide +kernel
theorem dX12_isAt_23 : decode cX12_isAt 23 = .ok (.iload_n 2, 1) := by decide +kernel
theorem dX12_isAt_24 : decode cX12_isAt 24 = .ok (.i2l, 1) := by decide +kernel
theorem dX12_isAt_25 : decode cX12_isAt 25 = .ok (.invokestatic 102, 3) := by decide +kernel
theorem dX12_isAt_28 : decode cX12_isAt 28 = .ok (.ifCond .eq 7, 3) := by decide +kernel
theorem dX12_isAt_31 : decode cX12_isAt 31 = .ok (.iconst 1, 1) := by decide +kernel
theorem dX12_isAt_32 : decode cX12_isAt 32 = .ok (.goto 4, 3) := by decide +kernel
theorem dX12_isAt_35 : decode cX12_isAt 35 = .ok (.iconst 0, 1) := by decide +kernel
theorem dX12_isAt_36 : decode cX12_isAt 36 = .ok (.ireturn, 1) := by decide +kernel
set_option maxHeartbeats 4000000 in
set_option maxRecDepth 100000 in
theorem sX12_isAtP (l : Launch) (dC : Nat → ClassId) (dI : Nat → Nat → Nat) (h0 : Nat) (mi : Nat → Int32) (mr : Nat → Nat) (km_tape : ClassId) (fm_tape : Nat → Int32) (p1 : Int32) (p2 : Int32) (gmi_0 : gi (mi 0) 0 100000) (gmi_1 : gi (mi 1) 0 100000) (gmi_2 : gi (mi 2) 0 100000) (gmi_4 : gi (mi 4) 0 1) (gmi_7 : gi (mi 7) 0 6) (gmi_10 : gi (mi 10) 0 24) (gmi_17 : gi (mi 17) 0 8) (gmi_23 : gi (mi 23) 0 300) (gmi_24 : gi (mi 24) 0 1) (gmi_26 : gi (mi 26) 0 1600) (gmi_29 : gi (mi 29) 0 1600) (gmi_30 : gi (mi 30) 0 1600) (gmi_32 : gi (mi 32) 0 100000) (gmi_33 : gi (mi 33) 0 1) (gmi_37 : gi (mi 37) 0 1) (gmi_41 : gi (mi 41) 0 24) (gmi_50 : gi (mi 50) 0 1) (gmi_51 : gi (mi 51) 0 1) (gmi_56 : gi (mi 56) 0 80) : Met l yX12_isAt (.code yX12_isAt cX12_isAt 3 (some .boolean) :: wsGB) ({ frames := 1, cells := 0, slots := 0, locals := 25 }) (va_Pc [.ref h0, .int p1, .int p2] (fun U => va_P (dC, dI) vwCl [(h0, .inr (12, fsMM mi mr)), ((mr 13), .inl (km_tape, 1600, .inl fm_tape))] U.heap ∧ va_K (dC, dI) vwCl [(km_tape, .int)] U)) (va_Qi (fun (r : Int32) (u : Unit) => gi r 0 1 ∧ (r.toInt = 1 → ((mi 29).toInt < (mi 26).toInt ∧ p1.toInt ≤ (fm_tape (mi 29).toNatClampNeg).toInt ∧ (fm_tape (mi 29).toNatClampNeg).toInt ≤ p2.toInt)) ∧ (r.toInt = 0 → ((mi 26).toInt ≤ (mi 29).toInt ∨ (fm_tape (mi 29).toNatClampNeg).toInt < p1.toInt ∨ p2.toInt < (fm_tape (mi 29).toNatClampNeg).toInt))) (fun _ _ => True) (fun _ => False)) 0 0 (fun _ => False) := by
  refine Met.ofW (cc := cX12_isAt) (maxL := 3) (ret := (some .boolean)) (by decide) rfl ?_
  intro p e s m args below meth c s₁ B hml hv
  obtain ⟨rfl, hP, hK⟩ := hv
  have hx := B.exec
  have hb := B.bytes
  have hr := B.returns
  have hts := atoms_spec (ws := (.code yX12_isAt cX12_isAt 3 (some .boolean) :: wsGB)) B.pre
  have hown : s.vm.findClass RX12 = some m.cls := findClass_of_methodNamed B.named
  have hlocks := B.notSynchronized
  have hS : va_S (fun _ => False) s.heap s.heap [] := va_S.rf
  have hl := lv_entry ([.ref h0, .int p1, .int p2]) (n := 3) (Nat.le_of_ble_eq_true rfl)
  rw [lg_entry_eq]
  generalize (lg_sl ([.ref h0, .int p1, .int p2]) ++ List.replicate (3 - (lg_sl ([.ref h0, .int p1, .int p2])).length) Slot.unset).toArray = ls at hl ⊢
  have hl : lv_has ls 3 [(0, .ref h0), (1, .int p1), (2, .int p2)] := hl
  refine lv_aload_n hx hb dX12_isAt_0 rfl (lv_at hl 0 rfl) ?_
  refine va_get (D := (dC, dI)) (ci := 12) (v := .int (mi 29)) (C := RX12) (T := TX12) (N := 57) hx hb hts (fun w h => List.mem_cons_of_mem _ (jnGB_X12 w h)) hown hK hP 0 rfl rfl 29 (by decide) (hts _ (List.mem_cons_of_mem _ mGB_113)) (fun _ h9 => h9) rfl dX12_isAt_1 ?_
  refine lv_aload_n hx hb dX12_isAt_4 rfl (lv_at hl 0 rfl) ?_
  refine va_get (D := (dC, dI)) (ci := 12) (v := .int (mi 26)) (C := RX12) (T := TX12) (N := 57) hx hb hts (fun w h => List.mem_cons_of_mem _ (jnGB_X12 w h)) hown hK hP 0 rfl rfl 26 (by decide) (hts _ (List.mem_cons_of_mem _ mGB_43)) (fun _ h9 => h9) rfl dX12_isAt_5 ?_
  refine lv_icmp_ge (tgt := 35) hx hb dX12_isAt_8 (by decide) (fun c_18 => ?_) (fun c_18 => ?_)
  · have hc_19 : (mi 26).toInt ≤ (mi 29).toInt := by have h9 := Int32.le_iff_toInt_le.mp c_18; exact h9
    refine lv_iconst (v := 0) hx hb dX12_isAt_35 (by decide) ?_
    exact W.zret (v := 0) hx hb hr (by decide) (fun t ht hW => ⟨⟨0, (), rfl, ⟨(gi_w (gi_c 0 0 (by decide)) (by decide)), ⟨fun h9 => absurd h9 (by decide), fun _ => (show ((mi 26).toInt ≤ (mi 29).toInt ∨ (fm_tape (mi 29).toNatClampNeg).toInt < p1.toInt ∨ p2.toInt < (fm_tape (mi 29).toNatClampNeg).toInt) from by have qgmi_29 := gmi_29.1; have rgmi_29 := gmi_29.2; have qgmi_26 := gmi_26.1; have rgmi_26 := gmi_26.2; omega)⟩⟩, trivial⟩, hS.F ht⟩) hS.2.2 dX12_isAt_36
  · have hc_20 : (mi 29).toInt < (mi 26).toInt := by have h9 := Int32.lt_iff_toInt_lt.mp (Int32.not_le.mp c_18); exact h9
    have g_21 : gi (mi 29) 0 1599 := gi_lt_l (Int32.not_le.mp c_18) gmi_29 gmi_26 (by decide)
    have g_22 : gi (mi 26) 1 1600 := gi_lt_r (Int32.not_le.mp c_18) gmi_29 gmi_26 (by decide)
    refine lv_aload_n hx hb dX12_isAt_11 rfl (lv_at hl 0 rfl) ?_
    refine va_get (D := (dC, dI)) (ci := 12) (v := .ref (mr 13)) (C := RX12) (T := TX12) (N := 57) hx hb hts (fun w h => List.mem_cons_of_mem _ (jnGB_X12 w h)) hown hK hP 0 rfl rfl 25 (by decide) (hts _ (List.mem_cons_of_mem _ mGB_24)) (fun _ h9 => h9) rfl dX12_isAt_12 ?_
    refine lv_aload_n hx hb dX12_isAt_15 rfl (lv_at hl 0 rfl) ?_
    refine va_get (D := (dC, dI)) (ci := 12) (v := .int (mi 29)) (C := RX12) (T := TX12) (N := 57) hx hb hts (fun w h => List.mem_cons_of_mem _ (jnGB_X12 w h)) hown hK hP 0 rfl rfl 29 (by decide) (hts _ (List.mem_cons_of_mem _ mGB_113)) (fun _ h9 => h9) rfl dX12_isAt_16 ?_
    refine va_iald hx hb hK hP 1 0 rfl rfl (gi_in g_21 (by decide)) dX12_isAt_19 ?_
    refine lv_topi (fun x_23 ex_23 => ?_)
    have hlx_23 : x_23.toInt = (fm_tape (mi 29).toNatClampNeg).toInt := congrArg Int32.toInt ex_23
    refine lv_i2l (v := (x_23).toInt64) hx hb dX12_isAt_20 rfl ?_
    refine lv_topl (fun l_24 el_24 => ?_)
    refine lv_iload_n hx hb dX12_isAt_21 rfl (lv_at hl 1 rfl) ?_
    refine lv_i2l (v := (p1).toInt64) hx hb dX12_isAt_22 rfl ?_
    refine lv_topl (fun l_25 el_25 => ?_)
    refine lv_iload_n hx hb dX12_isAt_23 rfl (lv_at hl 2 rfl) ?_
    refine lv_i2l (v := (p2).toInt64) hx hb dX12_isAt_24 rfl ?_
    refine lv_topl (fun l_26 el_26 => ?_)
    have hPc := hP.sub (ws' := []) [] rfl
    have hKc := hK.sub (tys' := []) [] rfl
    refine va_calli (va_runS (As := [.long l_24, .long l_25, .long l_26]) (rest := []) ⟨hx, hb, hml, hown, hts⟩ (sX12_in l dC dI l_24 l_25 l_26) (cwS 3 hts (gz_gS mGB_47 mGB_48 mGB_1 mGB_49 goodGB) rfl rfl rfl (by decide +kernel) ⟨Nat.le_of_ble_eq_true rfl, Nat.le_of_ble_eq_true rfl⟩) ⟨fun a U g mk q => by obtain ⟨q0, qP, qK⟩ := q; exact ⟨q0, qP, va_K.moved (u := U) (U := U.calling g mk a) (Vm.Alike.refl U.vm) qK⟩, fun U hU hW => ⟨rfl, by rw [hU]; exact hPc, va_K.moved hW.alike hKc⟩⟩ rfl rfl hl.1 rfl (lv_room (Nat.le_of_ble_eq_true rfl)) dX12_isAt_25 ⟨Nat.zero_le _, Nat.zero_le _⟩) hS (fun q _ h => h.elim) (fun q h => h.elim) (fun r_27 u t H1 locs ht hvm hw hB hz1 hk1 hS => ?_)
    have hP := gz_keep hP hk1
    generalize H1 = H at hP hS ⊢
    have gr_27 : gi r_27 0 1 := hw.1
    have hqr_27 := hw.2
    refine lv_if_eq (tgt := 35) hx hb dX12_isAt_28 (by decide) (fun c_28 => ?_) (fun c_28 => ?_)
    · have hc_29 : r_27.toInt = 0 := by have h9 := congrArg Int32.toInt c_28; rw [show (0 : Int32).toInt = 0 from by decide] at h9; exact h9
      have g_30 : gi r_27 0 0 := gi_eq c_28 (gi_c 0 0 (by decide))
      have hno_31 := gz_inF (A := p1.toInt) (B := p2.toInt) (hqr_27.2 (gz_zero1 g_30)) el_24 (gz_l2e el_25) (gz_l2e el_26)
      refine lv_iconst (v := 0) hx hb dX12_isAt_35 (by decide) ?_
      exact W.zret (v := 0) hx hb hr (by decide) (fun t ht hW => ⟨⟨0, (), rfl, ⟨(gi_w (gi_c 0 0 (by decide)) (by decide)), ⟨fun h9 => absurd h9 (by decide), fun _ => (show ((mi 26).toInt ≤ (mi 29).toInt ∨ (fm_tape (mi 29).toNatClampNeg).toInt < p1.toInt ∨ p2.toInt < (fm_tape (mi 29).toNatClampNeg).toInt) from by have qgr_27 := g_30.1; have rgr_27 := g_30.2; have qgmi_29 := g_21.1; have rgmi_29 := g_21.2; have qgmi_26 := g_22.1; have rgmi_26 := g_22.2; omega)⟩⟩, trivial⟩, hS.F ht⟩) hS.2.2 dX12_isAt_36
    · have hc_32 : r_27.toInt ≠ 0 := fun h9 => c_28 (Int32.toInt_inj.mp (by rw [show (0 : Int32).toInt = 0 from by decide]; exact h9))
      have g_33 : gi r_27 1 1 := gi_ne_lo c_28 gr_27 (gi_c 0 0 (by decide)) (by decide)
      have hin_34 := gz_inT (A := p1.toInt) (B := p2.toInt) (hqr_27.1 (gz_one g_33)) el_24 (gz_l2e el_25) (gz_l2e el_26)
      refine lv_iconst (v := 1) hx hb dX12_isAt_31 (by decide) ?_
      refine lv_goto (tgt := 36) hx hb dX12_isAt_32 (by decide) ?_
      exact W.zret (v := 1) hx hb hr (by decide) (fun t ht hW => ⟨⟨1, (), rfl, ⟨(gi_w (gi_c 1 1 (by decide)) (by decide)), ⟨fun _ => (show ((mi 29).toInt < (mi 26).toInt ∧ p1.toInt ≤ (fm_tape (mi 29).toNatClampNeg).toInt ∧ (fm_tape (mi 29).toNatClampNeg).toInt ≤ p2.toInt) from by have qgr_27 := g_33.1; have rgr_27 := g_33.2; have qgmi_29 := g_21.1; have rgmi_29 := g_21.2; have qgmi_26 := g_22.1; have rgmi_26 := g_22.2; omega), fun h9 => absurd h9 (by decide)⟩⟩, trivial⟩, hS.F ht⟩) hS.2.2 dX12_isAt_36
