theorem dX12_moon_0 : decode cX12_moon 0 = .ok (.aload_n 0, 1) := by decide +kernel
theorem dX12_moon_1 : decode cX12_moon 1 = .ok (.getfield 126, 3) := by decide +kernel
theorem dX12_moon_4 : decode cX12_moon 4 = .ok (.ifCond .eq 29, 3) := by decide +kernel
theorem dX12_moon_7 : decode cX12_moon 7 = .ok (.iload_n 1, 1) := by decide +kernel
theorem dX12_moon_8 : decode cX12_moon 8 = .ok (.i2l, 1) := by decide +kernel
theorem dX12_moon_9 : decode cX12_moon 9 = .ok (.lconst 0, 1) := by decide +kernel
theorem dX12_moon_10 : decode cX12_moon 10 = .ok (.ldc2_w 488, 3) := by decide +kernel
theorem dX12_moon_13 : decode cX12_moon 13 = .ok (.invokestatic 102, 3) := by decide +kernel
theorem dX12_moon_16 : decode cX12_moon 16 = .ok (.ifCond .eq 17, 3) := by decide +kernel
theorem dX12_moon_19 : decode cX12_moon 19 = .ok (.iload_n 2, 1) := by decide +kernel
theorem dX12_moon_20 : decode cX12_moon 20 = .ok (.i2l, 1) := by decide +kernel
theorem dX12_moon_21 : decode cX12_moon 21 = .ok (.ldc2_w 490, 3) := by decide +kernel
theorem dX12_moon_24 : decode cX12_moon 24 = .ok (.ldc2_w 492, 3) := by decide +kernel
theorem dX12_moon_27 : decode cX12_moon 27 = .ok (.invokestatic 102, 3) := by decide +kernel
theorem dX12_moon_30 : decode cX12_moon 30 = .ok (.ifCond .ne 6, 3) := by decide +kernel
theorem dX12_moon_33 : decode cX12_moon 33 = .ok (.bipush (-2), 2) := by decide +kernel
theorem dX12_moon_35 : decode cX12_moon 35 = .ok (.ireturn, 1) := by decide +kernel
theorem dX12_moon_36 : decode cX12_moon 36 = .ok (.aload_n 0, 1) := by decide +kernel
theorem dX12_moon_37 : decode cX12_moon 37 = .ok (.iconst 1, 1) := by decide +kernel
theorem dX12_moon_38 : decode cX12_moon 38 = .ok (.putfield 129, 3) := by decide +kernel
theorem dX12_moon_41 : decode cX12_moon 41 = .ok (.aload_n 0, 1) := by decide +kernel
theorem dX12_moon_42 : decode cX12_moon 42 = .ok (.iload_n 1, 1) := by decide +kernel
theorem dX12_moon_43 : decode cX12_moon 43 = .ok (.putfield 132, 3) := by decide +kernel
theorem dX12_moon_46 : decode cX12_moon 46 = .ok (.aload_n 0, 1) := by decide +kernel
theorem dX12_moon_47 : decode cX12_moon 47 = .ok (.iload_n 2, 1) := by decide +kernel
theorem dX12_moon_48 : decode cX12_moon 48 = .ok (.putfield 135, 3) := by decide +kernel
theorem dX12_moon_51 : decode cX12_moon 51 = .ok (.aload_n 0, 1) := by decide +kernel
theorem dX12_moon_52 : decode cX12_moon 52 = .ok (.iconst 1, 1) := by decide +kernel
theorem dX12_moon_53 : decode cX12_moon 53 = .ok (.invokevirtual 309, 3) := by decide +kernel
theorem dX12_moon_56 : decode cX12_moon 56 = .ok (.ireturn, 1) := by decide +kernel
set_option maxHeartbeats 4000000 in
set_option maxRecDepth 100000 in
theorem sX12_moon (l : Launch) (dC : Nat → ClassId) (dI : Nat → Nat → Nat) (sz : Nat) (h0 : Nat) (mi : Nat → Int32) (mr : Nat → Nat) (p1 : Int32) (p2 : Int32) (gmi_0 : gi (mi 0) 0 24) (gmi_1 : gi (mi 1) 0 5) (gmi_2 : gi (mi 2) 0 5) (gmi_4 : gi (mi 4) 0 1) (gmi_7 : gi (mi 7) 0 6) (gmi_10 : gi (mi 10) 0 24) (gmi_17 : gi (mi 17) 0 8) (gmi_23 : gi (mi 23) 0 300) (gmi_24 : gi (mi 24) 0 1) (gmi_26 : gi (mi 26) 0 1600) (gmi_29 : gi (mi 29) 0 1600) (gmi_30 : gi (mi 30) 0 1600) (gmi_33 : gi (mi 33) 0 1) (gmi_37 : gi (mi 37) 0 1) (gmi_41 : gi (mi 41) 0 24) (gmi_50 : gi (mi 50) 0 1) (gmi_51 : gi (mi 51) 0 1) (gmi_56 : gi (mi 56) 0 80) : Met l yX12_moon (.code yX12_moon cX12_moon 3 (some .int) :: wsGB) ({ frames := 1, cells := 0, slots := 0, locals := 25 }) (va_Pc [.ref h0, .int p1, .int p2] (fun U => U.heap.size = sz ∧ va_P (dC, dI) vwCl [(h0, .inr (12, fsMM mi mr))] U.heap ∧ va_K (dC, dI) vwCl [] U ∧ va_D (fun _ => True) [(h0, .inr (12, fsMM mi mr))])) (va_Qi (fun (r : Int32) (u : Unit) => gi r (-2147483648) 2147483647) (fun _ t => ∃ (w0_4 : Int32) (w0_5 : Int32) (w0_6 : Int32), gi w0_4 0 1 ∧ va_P (dC, dI) vwCl [(h0, .inr (12, fsMM (upd (upd (upd mi 4 w0_4) 5 w0_5) 6 w0_6) mr))] t.heap ∧ va_D (va_A [(h0, .inr (12, fsMM mi mr))] sz) [(h0, .inr (12, fsMM (upd (upd (upd mi 4 w0_4) 5 w0_5) 6 w0_6) mr))]) (va_A [(h0, .inr (12, fsMM mi mr))] sz)) 0 0 (va_A [(h0, .inr (12, fsMM mi mr))] sz) := by
  refine Met.ofW (cc := cX12_moon) (maxL := 3) (ret := (some .int)) (by decide) rfl ?_
  intro p e s m args below meth c s₁ B hml hv
  obtain ⟨rfl, hsz, hP, hK, hD0⟩ := hv
  have hx := B.exec
  have hb := B.bytes
  have hr := B.returns
  have hts := atoms_spec (ws := (.code yX12_moon cX12_moon 3 (some .int) :: wsGB)) B.pre
  have hown : s.vm.findClass RX12 = some m.cls := findClass_of_methodNamed B.named
  have hlocks := B.notSynchronized
  subst hsz
  have hD := hD0.self (sz := s.heap.size)
  generalize hAe : va_A [(h0, .inr (12, fsMM mi mr))] s.heap.size = A at hD ⊢
  have hA : ∀ q : Nat, s.heap.size ≤ q → A q := fun q h => by rw [← hAe]; exact Or.inr h
  have hS : va_S A s.heap s.heap [] := va_S.rf
  have hl := lv_entry ([.ref h0, .int p1, .int p2]) (n := 3) (Nat.le_of_ble_eq_true rfl)
  rw [lg_entry_eq]
  generalize (lg_sl ([.ref h0, .int p1, .int p2]) ++ List.replicate (3 - (lg_sl ([.ref h0, .int p1, .int p2])).length) Slot.unset).toArray = ls at hl ⊢
  have hl : lv_has ls 3 [(0, .ref h0), (1, .int p1), (2, .int p2)] := hl
  refine lv_aload_n hx hb dX12_moon_0 rfl (lv_at hl 0 rfl) ?_
  refine va_get (D := (dC, dI)) (ci := 12) (v := .int (mi 3)) (C := RX12) (T := TX12) (N := 57) hx hb hts (fun w h => List.mem_cons_of_mem _ (jnGB_X12 w h)) hown hK hP 0 rfl rfl 3 (by decide) (hts _ (List.mem_cons_of_mem _ mGB_106)) (fun _ h9 => h9) rfl dX12_moon_1 ?_
  refine lv_if_eq (tgt := 33) hx hb dX12_moon_4 (by decide) (fun c_31 => ?_) (fun c_31 => ?_)
  · have g_32 : gi (mi 3) 0 0 := gi_eq c_31 (gi_c 0 0 (by decide))
    refine lv_bipush (v := (-2)) hx hb dX12_moon_33 (by decide) ?_
    exact W.iret (v := (-2)) hx hb hr (fun t ht hW => ⟨⟨(-2), (), rfl, (gi_any (-2)), (mi 4), (mi 5), (mi 6), gmi_4, by rw [ht]; exact hP, hD⟩, hS.F ht⟩) hS.2.2 dX12_moon_35
  · refine lv_iload_n hx hb dX12_moon_7 rfl (lv_at hl 1 rfl) ?_
    refine lv_i2l (v := (p1).toInt64) hx hb dX12_moon_8 rfl ?_
    refine lv_topl (fun l_33 el_33 => ?_)
    refine lv_lconst (v := 0) hx hb dX12_moon_9 (by decide) ?_
    refine lv_ldc2 (own := RX12) (v := 99999) hx hb hown (hts _ (List.mem_cons_of_mem _ mGB_589)) dX12_moon_10 ?_
    have hPc := hP.sub (ws' := []) [] rfl
    have hKc := hK.sub (tys' := []) [] rfl
    refine va_calli (va_runS (As := [.long l_33, .long 0, .long 99999]) (rest := []) ⟨hx, hb, hml, hown, hts⟩ (sX12_in l dC dI l_33 0 99999) (cwS 3 hts (gz_gS mGB_47 mGB_48 mGB_1 mGB_49 goodGB) rfl rfl rfl (by decide +kernel) ⟨Nat.le_of_ble_eq_true rfl, Nat.le_of_ble_eq_true rfl⟩) ⟨fun a U g mk q => by obtain ⟨q0, qP, qK⟩ := q; exact ⟨q0, qP, va_K.moved (u := U) (U := U.calling g mk a) (Vm.Alike.refl U.vm) qK⟩, fun U hU hW => ⟨rfl, by rw [hU]; exact hPc, va_K.moved hW.alike hKc⟩⟩ rfl rfl hl.1 rfl (lv_room (Nat.le_of_ble_eq_true rfl)) dX12_moon_13 ⟨Nat.zero_le _, Nat.zero_le _⟩) hS (fun q _ h => h.elim) (fun q h => h.elim) (fun r_34 u t H1 locs ht hvm hw hB hz1 hk1 hS => ?_)
    have hP := gz_keep hP hk1
    generalize H1 = H at hP hS ⊢
    have gr_34 : gi r_34 0 1 := hw.1
    have hqr_34 := hw.2
    refine lv_if_eq (tgt := 33) hx hb dX12_moon_16 (by decide) (fun c_35 => ?_) (fun c_35 => ?_)
    · have g_36 : gi r_34 0 0 := gi_eq c_35 (gi_c 0 0 (by decide))
      refine lv_bipush (v := (-2)) hx hb dX12_moon_33 (by decide) ?_
      exact W.iret (v := (-2)) hx hb hr (fun t ht hW => ⟨⟨(-2), (), rfl, (gi_any (-2)), (mi 4), (mi 5), (mi 6), gmi_4, by rw [ht]; exact hP, hD⟩, hS.F ht⟩) hS.2.2 dX12_moon_35
    · have g_37 : gi r_34 1 1 := gi_ne_lo c_35 gr_34 (gi_c 0 0 (by decide)) (by decide)
      have g_38 : gi p1 0 99999 := gi_cap (gi_any p1) (gz_inr (hqr_34.1 (gz_one g_37)) el_33 (A := 0) (B := 99999) (by decide) (by decide)) (by decide)
      refine lv_iload_n hx hb dX12_moon_19 rfl (lv_at hl 2 rfl) ?_
      refine lv_i2l (v := (p2).toInt64) hx hb dX12_moon_20 rfl ?_
      refine lv_topl (fun l_39 el_39 => ?_)
      refine lv_ldc2 (own := RX12) (v := 28000) hx hb hown (hts _ (List.mem_cons_of_mem _ mGB_590)) dX12_moon_21 ?_
      refine lv_ldc2 (own := RX12) (v := 31000) hx hb hown (hts _ (List.mem_cons_of_mem _ mGB_591)) dX12_moon_24 ?_
      have hPc := hP.sub (ws' := []) [] rfl
      have hKc := hK.sub (tys' := []) [] rfl
      refine va_calli (va_runS (As := [.long l_39, .long 28000, .long 31000]) (rest := []) ⟨hx, hb, hml, hown, hts⟩ (sX12_in l dC dI l_39 28000 31000) (cwS 3 hts (gz_gS mGB_47 mGB_48 mGB_1 mGB_49 goodGB) rfl rfl rfl (by decide +kernel) ⟨Nat.le_of_ble_eq_true rfl, Nat.le_of_ble_eq_true rfl⟩) ⟨fun a U g mk q => by obtain ⟨q0, qP, qK⟩ := q; exact ⟨q0, qP, va_K.moved (u := U) (U := U.calling g mk a) (Vm.Alike.refl U.vm) qK⟩, fun U hU hW => ⟨rfl, by rw [hU]; exact hPc, va_K.moved hW.alike hKc⟩⟩ rfl rfl hl.1 rfl (lv_room (Nat.le_of_ble_eq_true rfl)) dX12_moon_27 ⟨Nat.zero_le _, Nat.zero_le _⟩) hS (fun q _ h => h.elim) (fun q h => h.elim) (fun r_40 u t H1 locs ht hvm hw hB hz1 hk1 hS => ?_)
      have hP := gz_keep hP hk1
      generalize H1 = H at hP hS ⊢
      have gr_40 : gi r_40 0 1 := hw.1
      have hqr_40 := hw.2
      refine lv_if_ne (tgt := 36) hx hb dX12_moon_30 (by decide) (fun c_41 => ?_) (fun c_41 => ?_)
      · have g_42 : gi r_40 1 1 := gi_ne_lo c_41 gr_40 (gi_c 0 0 (by decide)) (by decide)
        have g_43 : gi p2 28000 31000 := gi_cap (gi_any p2) (gz_inr (hqr_40.1 (gz_one g_42)) el_39 (A := 28000) (B := 31000) (by decide) (by decide)) (by decide)
        refine lv_aload_n hx hb dX12_moon_36 rfl (lv_at hl 0 rfl) ?_
        refine lv_iconst (v := 1) hx hb dX12_moon_37 (by decide) ?_
        refine va_put (D := (dC, dI)) (ci := 12) (v := .int 1) (ty := .boolean) (C := RX12) (T := TX12) (N := 57) hx hb hts (fun w h => List.mem_cons_of_mem _ (jnGB_X12 w h)) tyX12 tyX12_ok nmX12 hown hK hP hD hS 0 rfl rfl 4 (by decide) (hts _ (List.mem_cons_of_mem _ mGB_107)) (fun _ h9 => h9) rfl (by decide +kernel) rfl rfl (Nat.le_of_ble_eq_true rfl) dX12_moon_38 (fun H locs hP hD hS => ?_)
        have hP : va_P (dC, dI) vwCl [(h0, .inr (12, fsMM (upd mi 4 1) mr))] H := hP
        have hD : va_D A [(h0, .inr (12, fsMM (upd mi 4 1) mr))] := hD
        refine lv_aload_n hx hb dX12_moon_41 rfl (lv_at hl 0 rfl) ?_
        refine lv_iload_n hx hb dX12_moon_42 rfl (lv_at hl 1 rfl) ?_
        refine va_put (D := (dC, dI)) (ci := 12) (v := .int p1) (ty := .int) (C := RX12) (T := TX12) (N := 57) hx hb hts (fun w h => List.mem_cons_of_mem _ (jnGB_X12 w h)) tyX12 tyX12_ok nmX12 hown hK hP hD hS 0 rfl rfl 5 (by decide) (hts _ (List.mem_cons_of_mem _ mGB_108)) (fun _ h9 => h9) rfl (by decide +kernel) rfl rfl (Nat.le_of_ble_eq_true rfl) dX12_moon_43 (fun H locs hP hD hS => ?_)
        have hP : va_P (dC, dI) vwCl [(h0, .inr (12, fsMM (upd (upd mi 4 1) 5 p1) mr))] H := hP
        have hD : va_D A [(h0, .inr (12, fsMM (upd (upd mi 4 1) 5 p1) mr))] := hD
        refine lv_aload_n hx hb dX12_moon_46 rfl (lv_at hl 0 rfl) ?_
        refine lv_iload_n hx hb dX12_moon_47 rfl (lv_at hl 2 rfl) ?_
        refine va_put (D := (dC, dI)) (ci := 12) (v := .int p2) (ty := .int) (C := RX12) (T := TX12) (N := 57) hx hb hts (fun w h => List.mem_cons_of_mem _ (jnGB_X12 w h)) tyX12 tyX12_ok nmX12 hown hK hP hD hS 0 rfl rfl 6 (by decide) (hts _ (List.mem_cons_of_mem _ mGB_109)) (fun _ h9 => h9) rfl (by decide +kernel) rfl rfl (Nat.le_of_ble_eq_true rfl) dX12_moon_48 (fun H locs hP hD hS => ?_)
        have hP : va_P (dC, dI) vwCl [(h0, .inr (12, fsMM (upd (upd (upd mi 4 1) 5 p1) 6 p2) mr))] H := hP
        have hD : va_D A [(h0, .inr (12, fsMM (upd (upd (upd mi 4 1) 5 p1) 6 p2) mr))] := hD
        refine lv_aload_n hx hb dX12_moon_51 rfl (lv_at hl 0 rfl) ?_
        refine lv_iconst (v := 1) hx hb dX12_moon_52 (by decide) ?_
        have hPc := hP.sub (ws' := [(h0, .inr (12, fsMM (upd (upd (upd mi 4 1) 5 p1) 6 p2) mr))]) [0] rfl
        have hKc := hK.sub (tys' := []) [] rfl
        refine va_calli (va_runV (As := [.int 1]) (rest := []) ⟨hx, hb, hml, hown, hts⟩ (sX12_earlyOf l dC dI h0 (upd (upd (upd mi 4 1) 5 p1) 6 p2) mr 1 gmi_0 gmi_1 gmi_2 (gi_w (gi_c 1 1 (by decide)) (by decide)) gmi_7 gmi_10 gmi_17 gmi_23 gmi_24 gmi_26 gmi_29 gmi_30 gmi_33 gmi_37 gmi_41 gmi_50 gmi_51 gmi_56) (cwV 1 hts (gz_gV mGB_249 mGB_250 mGB_251 mGB_1 mGB_252 goodGB) rfl rfl rfl (by decide +kernel) ⟨Nat.le_of_ble_eq_true rfl, Nat.le_of_ble_eq_true rfl⟩) ⟨fun a U g mk q => by obtain ⟨q0, qP, qK⟩ := q; exact ⟨q0, qP, va_K.moved (u := U) (U := U.calling g mk a) (Vm.Alike.refl U.vm) qK⟩, va_recv hKc hPc (ci := 12) (q0 := 0) rfl rfl, fun U hU hW => ⟨rfl, by rw [hU]; exact hPc, va_K.moved hW.alike hKc⟩⟩ rfl rfl hl.1 rfl (lv_room (Nat.le_of_ble_eq_true rfl)) dX12_moon_53 ⟨Nat.zero_le _, Nat.zero_le _⟩) hS (fun q _ h => h.elim) (fun q h => h.elim) (fun r_44 u t H1 locs ht hvm hw hB hz1 hk1 hS => ?_)
        have hP := gz_keep hP hk1
        generalize H1 = H at hP hS ⊢
        exact W.iret (v := r_44) hx hb hr (fun t ht hW => ⟨⟨r_44, (), rfl, (gi_any r_44), 1, p1, p2, (gi_w (gi_c 1 1 (by decide)) (by decide)), by rw [ht]; exact hP, hD⟩, hS.F ht⟩) hS.2.2 dX12_moon_56
      · have g_45 : gi r_40 0 0 := gi_eq c_41 (gi_c 0 0 (by decide))
        refine lv_bipush (v := (-2)) hx hb dX12_moon_33 (by decide) ?_
        exact W.iret (v := (-2)) hx hb hr (fun t ht hW => ⟨⟨(-2), (), rfl, (gi_any (-2)), (mi 4), (mi 5), (mi 6), gmi_4, by rw [ht]; exact hP, hD⟩, hS.F ht⟩) hS.2.2 dX12_moon_35
