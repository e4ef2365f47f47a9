theorem dX12_octet_0 : decode cX12_octet 0 = .ok (.iload_n 1, 1) := by decide +kernel
theorem dX12_octet_1 : decode cX12_octet 1 = .ok (.i2l, 1) := by decide +kernel
theorem dX12_octet_2 : decode cX12_octet 2 = .ok (.lconst 0, 1) := by decide +kernel
theorem dX12_octet_3 : decode cX12_octet 3 = .ok (.aload_n 0, 1) := by decide +kernel
theorem dX12_octet_4 : decode cX12_octet 4 = .ok (.getfield 289, 3) := by decide +kernel
theorem dX12_octet_7 : decode cX12_octet 7 = .ok (.iconst 1, 1) := by decide +kernel
theorem dX12_octet_8 : decode cX12_octet 8 = .ok (.isub, 1) := by decide +kernel
theorem dX12_octet_9 : decode cX12_octet 9 = .ok (.i2l, 1) := by decide +kernel
theorem dX12_octet_10 : decode cX12_octet 10 = .ok (.invokestatic 102, 3) := by decide +kernel
theorem dX12_octet_13 : decode cX12_octet 13 = .ok (.ifCond .eq 12, 3) := by decide +kernel
theorem dX12_octet_16 : decode cX12_octet 16 = .ok (.aload_n 0, 1) := by decide +kernel
theorem dX12_octet_17 : decode cX12_octet 17 = .ok (.getfield 96, 3) := by decide +kernel
theorem dX12_octet_20 : decode cX12_octet 20 = .ok (.iload_n 1, 1) := by decide +kernel
theorem dX12_octet_21 : decode cX12_octet 21 = .ok (.iaload, 1) := by decide +kernel
theorem dX12_octet_22 : decode cX12_octet 22 = .ok (.goto 4, 3) := by decide +kernel
theorem dX12_octet_25 : decode cX12_octet 25 = .ok (.iconst (-1), 1) := by decide +kernel
theorem dX12_octet_26 : decode cX12_octet 26 = .ok (.ireturn, 1) := by decide +kernel
set_option maxHeartbeats 4000000 in
set_option maxRecDepth 100000 in
theorem sX12_octet (l : Launch) (dC : Nat → ClassId) (dI : Nat → Nat → Nat) (h0 : Nat) (mi : Nat → Int32) (mr : Nat → Nat) (km_out : ClassId) (fm_out : Nat → Int32) (p1 : Int32) (gmi_0 : gi (mi 0) 0 24) (gmi_1 : gi (mi 1) 0 5) (gmi_2 : gi (mi 2) 0 5) (gmi_4 : gi (mi 4) 0 1) (gmi_7 : gi (mi 7) 0 6) (gmi_10 : gi (mi 10) 0 24) (gmi_17 : gi (mi 17) 0 8) (gmi_23 : gi (mi 23) 0 300) (gmi_24 : gi (mi 24) 0 1) (gmi_26 : gi (mi 26) 0 1600) (gmi_29 : gi (mi 29) 0 1600) (gmi_30 : gi (mi 30) 0 1600) (gmi_33 : gi (mi 33) 0 1) (gmi_37 : gi (mi 37) 0 1) (gmi_41 : gi (mi 41) 0 24) (gmi_50 : gi (mi 50) 0 1) (gmi_51 : gi (mi 51) 0 1) (gmi_56 : gi (mi 56) 0 80) : Met l yX12_octet (.code yX12_octet cX12_octet 2 (some .int) :: wsGB) ({ frames := 1, cells := 0, slots := 0, locals := 25 }) (va_Pc [.ref h0, .int p1] (fun U => va_P (dC, dI) vwCl [(h0, .inr (12, fsMM mi mr)), ((mr 23), .inl (km_out, 80, .inl fm_out))] U.heap ∧ va_K (dC, dI) vwCl [(km_out, .int)] U)) (va_Qi (fun (r : Int32) (u : Unit) => gi r (-2147483648) 2147483647) (fun _ _ => True) (fun _ => False)) 0 0 (fun _ => False) := by
  refine Met.ofW (cc := cX12_octet) (maxL := 2) (ret := (some .int)) (by decide) rfl ?_
  intro p e s m args below meth c s₁ B hml hv
  obtain ⟨rfl, hP, hK⟩ := hv
  have hx := B.exec
  have hb := B.bytes
  have hr := B.returns
  have hts := atoms_spec (ws := (.code yX12_octet cX12_octet 2 (some .int) :: wsGB)) B.pre
  have hown : s.vm.findClass RX12 = some m.cls := findClass_of_methodNamed B.named
  have hlocks := B.notSynchronized
  have hS : va_S (fun _ => False) s.heap s.heap [] := va_S.rf
  have hl := lv_entry ([.ref h0, .int p1]) (n := 2) (Nat.le_of_ble_eq_true rfl)
  rw [lg_entry_eq]
  generalize (lg_sl ([.ref h0, .int p1]) ++ List.replicate (2 - (lg_sl ([.ref h0, .int p1])).length) Slot.unset).toArray = ls at hl ⊢
  have hl : lv_has ls 2 [(0, .ref h0), (1, .int p1)] := hl
  refine lv_iload_n hx hb dX12_octet_0 rfl (lv_at hl 1 rfl) ?_
  refine lv_i2l (v := (p1).toInt64) hx hb dX12_octet_1 rfl ?_
  refine lv_topl (fun l_10 el_10 => ?_)
  refine lv_lconst (v := 0) hx hb dX12_octet_2 (by decide) ?_
  refine lv_aload_n hx hb dX12_octet_3 rfl (lv_at hl 0 rfl) ?_
  refine va_get (D := (dC, dI)) (ci := 12) (v := .int (mi 56)) (C := RX12) (T := TX12) (N := 57) hx hb hts (fun w h => List.mem_cons_of_mem _ (jnGB_X12 w h)) hown hK hP 0 rfl rfl 56 (by decide) (hts _ (List.mem_cons_of_mem _ mGB_219)) (fun _ h9 => h9) rfl dX12_octet_4 ?_
  refine lv_iconst (v := 1) hx hb dX12_octet_7 (by decide) ?_
  refine lv_isub hx hb dX12_octet_8 ?_
  refine lv_topi (fun x_11 ex_11 => ?_)
  have gx_11 : gi x_11 (-1) 79 := gi_sub ex_11 gmi_56 (gi_c 1 1 (by decide)) (by decide)
  refine lv_i2l (v := (x_11).toInt64) hx hb dX12_octet_9 rfl ?_
  refine lv_topl (fun l_12 el_12 => ?_)
  have hPc := hP.sub (ws' := []) [] rfl
  have hKc := hK.sub (tys' := []) [] rfl
  refine va_calli (va_runS (As := [.long l_10, .long 0, .long l_12]) (rest := []) ⟨hx, hb, hml, hown, hts⟩ (sX12_in l dC dI l_10 0 l_12) (cwS 3 hts (gz_gS mGB_47 mGB_48 mGB_1 mGB_49 goodGB) rfl rfl rfl (by decide +kernel) ⟨Nat.le_of_ble_eq_true rfl, Nat.le_of_ble_eq_true rfl⟩) ⟨fun a U g mk q => by obtain ⟨q0, qP, qK⟩ := q; exact ⟨q0, qP, va_K.moved (u := U) (U := U.calling g mk a) (Vm.Alike.refl U.vm) qK⟩, fun U hU hW => ⟨rfl, by rw [hU]; exact hPc, va_K.moved hW.alike hKc⟩⟩ rfl rfl hl.1 rfl (lv_room (Nat.le_of_ble_eq_true rfl)) dX12_octet_10 ⟨Nat.zero_le _, Nat.zero_le _⟩) hS (fun q _ h => h.elim) (fun q h => h.elim) (fun r_13 u t H1 locs ht hvm hw hB hz1 hk1 hS => ?_)
  have hP := gz_keep hP hk1
  generalize H1 = H at hP hS ⊢
  have gr_13 : gi r_13 0 1 := hw.1
  have hqr_13 := hw.2
  refine lv_if_eq (tgt := 25) hx hb dX12_octet_13 (by decide) (fun c_14 => ?_) (fun c_14 => ?_)
  · have g_15 : gi r_13 0 0 := gi_eq c_14 (gi_c 0 0 (by decide))
    refine lv_iconst (v := (-1)) hx hb dX12_octet_25 (by decide) ?_
    exact W.iret (v := (-1)) hx hb hr (fun t ht hW => ⟨⟨(-1), (), rfl, (gi_any (-1)), trivial⟩, hS.F ht⟩) hS.2.2 dX12_octet_26
  · have g_16 : gi r_13 1 1 := gi_ne_lo c_14 gr_13 (gi_c 0 0 (by decide)) (by decide)
    have g_17 : gi p1 0 79 := gi_cap (gi_any p1) (gz_inr (hqr_13.1 (gz_one g_16)) el_10 (A := 0) (B := 79) (by decide) (gz_l2u el_12 gx_11)) (by decide)
    refine lv_aload_n hx hb dX12_octet_16 rfl (lv_at hl 0 rfl) ?_
    refine va_get (D := (dC, dI)) (ci := 12) (v := .ref (mr 23)) (C := RX12) (T := TX12) (N := 57) hx hb hts (fun w h => List.mem_cons_of_mem _ (jnGB_X12 w h)) hown hK hP 0 rfl rfl 55 (by decide) (hts _ (List.mem_cons_of_mem _ mGB_39)) (fun _ h9 => h9) rfl dX12_octet_17 ?_
    refine lv_iload_n hx hb dX12_octet_20 rfl (lv_at hl 1 rfl) ?_
    refine va_iald hx hb hK hP 1 0 rfl rfl (gi_in g_17 (by decide)) dX12_octet_21 ?_
    refine lv_topi (fun x_18 ex_18 => ?_)
    refine lv_goto (tgt := 26) hx hb dX12_octet_22 (by decide) ?_
    exact W.iret (v := x_18) hx hb hr (fun t ht hW => ⟨⟨x_18, (), rfl, (gi_any x_18), trivial⟩, hS.F ht⟩) hS.2.2 dX12_octet_26
