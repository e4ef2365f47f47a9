theorem dX12_early_0 : decode cX12_early 0 = .ok (.aload_n 0, 1) := by decide +kernel
theorem dX12_early_1 : decode cX12_early 1 = .ok (.getfield 129, 3) := by decide +kernel
theorem dX12_early_4 : decode cX12_early 4 = .ok (.ifCond .eq 25, 3) := by decide +kernel
theorem dX12_early_7 : decode cX12_early 7 = .ok (.iload_n 1, 1) := by decide +kernel
theorem dX12_early_8 : decode cX12_early 8 = .ok (.i2l, 1) := by decide +kernel
theorem dX12_early_9 : decode cX12_early 9 = .ok (.lconst 1, 1) := by decide +kernel
theorem dX12_early_10 : decode cX12_early 10 = .ok (.aload_n 0, 1) := by decide +kernel
theorem dX12_early_11 : decode cX12_early 11 = .ok (.getfield 117, 3) := by decide +kernel
theorem dX12_early_14 : decode cX12_early 14 = .ok (.i2l, 1) := by decide +kernel
theorem dX12_early_15 : decode cX12_early 15 = .ok (.invokestatic 102, 3) := by decide +kernel
theorem dX12_early_18 : decode cX12_early 18 = .ok (.ifCond .eq 11, 3) := by decide +kernel
theorem dX12_early_21 : decode cX12_early 21 = .ok (.aload_n 0, 1) := by decide +kernel
theorem dX12_early_22 : decode cX12_early 22 = .ok (.iload_n 1, 1) := by decide +kernel
theorem dX12_early_23 : decode cX12_early 23 = .ok (.invokevirtual 309, 3) := by decide +kernel
theorem dX12_early_26 : decode cX12_early 26 = .ok (.goto 5, 3) := by decide +kernel
theorem dX12_early_29 : decode cX12_early 29 = .ok (.bipush (-2), 2) := by decide +kernel
theorem dX12_early_31 : decode cX12_early 31 = .ok (.ireturn, 1) := by decide +kernel
set_option maxHeartbeats 4000000 in
set_option maxRecDepth 100000 in
theorem sX12_early (l : Launch) (dC : Nat → ClassId) (dI : Nat → Nat → Nat) (h0 : Nat) (mi : Nat → Int32) (mr : Nat → Nat) (p1 : Int32) (gmi_0 : gi (mi 0) 0 24) (gmi_1 : gi (mi 1) 0 5) (gmi_2 : gi (mi 2) 0 5) (gmi_4 : gi (mi 4) 0 1) (gmi_7 : gi (mi 7) 0 6) (gmi_10 : gi (mi 10) 0 24) (gmi_17 : gi (mi 17) 0 8) (gmi_23 : gi (mi 23) 0 300) (gmi_24 : gi (mi 24) 0 1) (gmi_26 : gi (mi 26) 0 1600) (gmi_29 : gi (mi 29) 0 1600) (gmi_30 : gi (mi 30) 0 1600) (gmi_33 : gi (mi 33) 0 1) (gmi_37 : gi (mi 37) 0 1) (gmi_41 : gi (mi 41) 0 24) (gmi_50 : gi (mi 50) 0 1) (gmi_51 : gi (mi 51) 0 1) (gmi_56 : gi (mi 56) 0 80) : Met l yX12_early (.code yX12_early cX12_early 2 (some .int) :: wsGB) ({ frames := 1, cells := 0, slots := 0, locals := 25 }) (va_Pc [.ref h0, .int p1] (fun U => va_P (dC, dI) vwCl [(h0, .inr (12, fsMM mi mr))] U.heap ∧ va_K (dC, dI) vwCl [] U)) (va_Qi (fun (r : Int32) (u : Unit) => gi r (-2147483648) 2147483647) (fun _ _ => True) (fun _ => False)) 0 0 (fun _ => False) := by
  refine Met.ofW (cc := cX12_early) (maxL := 2) (ret := (some .int)) (by decide) rfl ?_
  intro p e s m args below meth c s₁ B hml hv
  obtain ⟨rfl, hP, hK⟩ := hv
  have hx := B.exec
  have hb := B.bytes
  have hr := B.returns
  have hts := atoms_spec (ws := (.code yX12_early cX12_early 2 (some .int) :: wsGB)) B.pre
  have hown : s.vm.findClass RX12 = some m.cls := findClass_of_methodNamed B.named
  have hlocks := B.notSynchronized
  have hS : va_S (fun _ => False) s.heap s.heap [] := va_S.rf
  have hl := lv_entry ([.ref h0, .int p1]) (n := 2) (Nat.le_of_ble_eq_true rfl)
  rw [lg_entry_eq]
  generalize (lg_sl ([.ref h0, .int p1]) ++ List.replicate (2 - (lg_sl ([.ref h0, .int p1])).length) Slot.unset).toArray = ls at hl ⊢
  have hl : lv_has ls 2 [(0, .ref h0), (1, .int p1)] := hl
  refine lv_aload_n hx hb dX12_early_0 rfl (lv_at hl 0 rfl) ?_
  refine va_get (D := (dC, dI)) (ci := 12) (v := .int (mi 4)) (C := RX12) (T := TX12) (N := 57) hx hb hts (fun w h => List.mem_cons_of_mem _ (jnGB_X12 w h)) hown hK hP 0 rfl rfl 4 (by decide) (hts _ (List.mem_cons_of_mem _ mGB_107)) (fun _ h9 => h9) rfl dX12_early_1 ?_
  refine lv_if_eq (tgt := 29) hx hb dX12_early_4 (by decide) (fun c_12 => ?_) (fun c_12 => ?_)
  · have g_13 : gi (mi 4) 0 0 := gi_eq c_12 (gi_c 0 0 (by decide))
    refine lv_bipush (v := (-2)) hx hb dX12_early_29 (by decide) ?_
    exact W.iret (v := (-2)) hx hb hr (fun t ht hW => ⟨⟨(-2), (), rfl, (gi_any (-2)), trivial⟩, hS.F ht⟩) hS.2.2 dX12_early_31
  · have g_14 : gi (mi 4) 1 1 := gi_ne_lo c_12 gmi_4 (gi_c 0 0 (by decide)) (by decide)
    refine lv_iload_n hx hb dX12_early_7 rfl (lv_at hl 1 rfl) ?_
    refine lv_i2l (v := (p1).toInt64) hx hb dX12_early_8 rfl ?_
    refine lv_topl (fun l_15 el_15 => ?_)
    refine lv_lconst (v := 1) hx hb dX12_early_9 (by decide) ?_
    refine lv_aload_n hx hb dX12_early_10 rfl (lv_at hl 0 rfl) ?_
    refine va_get (D := (dC, dI)) (ci := 12) (v := .int (mi 0)) (C := RX12) (T := TX12) (N := 57) hx hb hts (fun w h => List.mem_cons_of_mem _ (jnGB_X12 w h)) hown hK hP 0 rfl rfl 0 (by decide) (hts _ (List.mem_cons_of_mem _ mGB_103)) (fun _ h9 => h9) rfl dX12_early_11 ?_
    refine lv_i2l (v := ((mi 0)).toInt64) hx hb dX12_early_14 rfl ?_
    refine lv_topl (fun l_16 el_16 => ?_)
    have hPc := hP.sub (ws' := []) [] rfl
    have hKc := hK.sub (tys' := []) [] rfl
    refine va_calli (va_runS (As := [.long l_15, .long 1, .long l_16]) (rest := []) ⟨hx, hb, hml, hown, hts⟩ (sX12_in l dC dI l_15 1 l_16) (cwS 3 hts (gz_gS mGB_47 mGB_48 mGB_1 mGB_49 goodGB) rfl rfl rfl (by decide +kernel) ⟨Nat.le_of_ble_eq_true rfl, Nat.le_of_ble_eq_true rfl⟩) ⟨fun a U g mk q => by obtain ⟨q0, qP, qK⟩ := q; exact ⟨q0, qP, va_K.moved (u := U) (U := U.calling g mk a) (Vm.Alike.refl U.vm) qK⟩, fun U hU hW => ⟨rfl, by rw [hU]; exact hPc, va_K.moved hW.alike hKc⟩⟩ rfl rfl hl.1 rfl (lv_room (Nat.le_of_ble_eq_true rfl)) dX12_early_15 ⟨Nat.zero_le _, Nat.zero_le _⟩) hS (fun q _ h => h.elim) (fun q h => h.elim) (fun r_17 u t H1 locs ht hvm hw hB hz1 hk1 hS => ?_)
    have hP := gz_keep hP hk1
    generalize H1 = H at hP hS ⊢
    have gr_17 : gi r_17 0 1 := hw.1
    have hqr_17 := hw.2
    refine lv_if_eq (tgt := 29) hx hb dX12_early_18 (by decide) (fun c_18 => ?_) (fun c_18 => ?_)
    · have g_19 : gi r_17 0 0 := gi_eq c_18 (gi_c 0 0 (by decide))
      refine lv_bipush (v := (-2)) hx hb dX12_early_29 (by decide) ?_
      exact W.iret (v := (-2)) hx hb hr (fun t ht hW => ⟨⟨(-2), (), rfl, (gi_any (-2)), trivial⟩, hS.F ht⟩) hS.2.2 dX12_early_31
    · have g_20 : gi r_17 1 1 := gi_ne_lo c_18 gr_17 (gi_c 0 0 (by decide)) (by decide)
      have g_21 : gi p1 1 24 := gi_cap (gi_any p1) (gz_inr (hqr_17.1 (gz_one g_20)) el_15 (A := 1) (B := 24) (by decide) (gz_l2u el_16 gmi_0)) (by decide)
      refine lv_aload_n hx hb dX12_early_21 rfl (lv_at hl 0 rfl) ?_
      refine lv_iload_n hx hb dX12_early_22 rfl (lv_at hl 1 rfl) ?_
      have hPc := hP.sub (ws' := [(h0, .inr (12, fsMM mi mr))]) [0] rfl
      have hKc := hK.sub (tys' := []) [] rfl
      refine va_calli (va_runV (As := [.int p1]) (rest := []) ⟨hx, hb, hml, hown, hts⟩ (sX12_earlyOf l dC dI h0 mi mr p1 gmi_0 gmi_1 gmi_2 (gi_w g_14 (by decide)) gmi_7 gmi_10 gmi_17 gmi_23 gmi_24 gmi_26 gmi_29 gmi_30 gmi_33 gmi_37 gmi_41 gmi_50 gmi_51 gmi_56) (cwV 1 hts (gz_gV mGB_249 mGB_250 mGB_251 mGB_1 mGB_252 goodGB) rfl rfl rfl (by decide +kernel) ⟨Nat.le_of_ble_eq_true rfl, Nat.le_of_ble_eq_true rfl⟩) ⟨fun a U g mk q => by obtain ⟨q0, qP, qK⟩ := q; exact ⟨q0, qP, va_K.moved (u := U) (U := U.calling g mk a) (Vm.Alike.refl U.vm) qK⟩, va_recv hKc hPc (ci := 12) (q0 := 0) rfl rfl, fun U hU hW => ⟨rfl, by rw [hU]; exact hPc, va_K.moved hW.alike hKc⟩⟩ rfl rfl hl.1 rfl (lv_room (Nat.le_of_ble_eq_true rfl)) dX12_early_23 ⟨Nat.zero_le _, Nat.zero_le _⟩) hS (fun q _ h => h.elim) (fun q h => h.elim) (fun r_22 u t H1 locs ht hvm hw hB hz1 hk1 hS => ?_)
      have hP := gz_keep hP hk1
      generalize H1 = H at hP hS ⊢
      refine lv_goto (tgt := 31) hx hb dX12_early_26 (by decide) ?_
      exact W.iret (v := r_22) hx hb hr (fun t ht hW => ⟨⟨r_22, (), rfl, (gi_any r_22), trivial⟩, hS.F ht⟩) hS.2.2 dX12_early_31
