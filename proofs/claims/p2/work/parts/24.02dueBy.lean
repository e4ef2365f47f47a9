theorem dX12_dueBy_0 : decode cX12_dueBy 0 = .ok (.aload_n 0, 1) := by decide +kernel
theorem dX12_dueBy_1 : decode cX12_dueBy 1 = .ok (.aload_n 0, 1) := by decide +kernel
theorem dX12_dueBy_2 : decode cX12_dueBy 2 = .ok (.iload_n 1, 1) := by decide +kernel
theorem dX12_dueBy_3 : decode cX12_dueBy 3 = .ok (.invokevirtual 438, 3) := by decide +kernel
theorem dX12_dueBy_6 : decode cX12_dueBy 6 = .ok (.aload_n 0, 1) := by decide +kernel
theorem dX12_dueBy_7 : decode cX12_dueBy 7 = .ok (.getfield 38, 3) := by decide +kernel
theorem dX12_dueBy_10 : decode cX12_dueBy 10 = .ok (.iload_n 1, 1) := by decide +kernel
theorem dX12_dueBy_11 : decode cX12_dueBy 11 = .ok (.iaload, 1) := by decide +kernel
theorem dX12_dueBy_12 : decode cX12_dueBy 12 = .ok (.invokevirtual 412, 3) := by decide +kernel
theorem dX12_dueBy_15 : decode cX12_dueBy 15 = .ok (.aload_n 0, 1) := by decide +kernel
theorem dX12_dueBy_16 : decode cX12_dueBy 16 = .ok (.iload_n 1, 1) := by decide +kernel
theorem dX12_dueBy_17 : decode cX12_dueBy 17 = .ok (.invokevirtual 441, 3) := by decide +kernel
theorem dX12_dueBy_20 : decode cX12_dueBy 20 = .ok (.iadd, 1) := by decide +kernel
theorem dX12_dueBy_21 : decode cX12_dueBy 21 = .ok (.ireturn, 1) := by decide +kernel
set_option maxHeartbeats 4000000 in
set_option maxRecDepth 100000 in
theorem sX12_dueBy (l : Launch) (dC : Nat → ClassId) (dI : Nat → Nat → Nat) (h0 : Nat) (mi : Nat → Int32) (mr : Nat → Nat) (km_deedMonth : ClassId) (fm_deedMonth : Nat → Int32) (km_deedLong : ClassId) (fm_deedLong : Nat → Int32) (km_deedKind : ClassId) (fm_deedKind : Nat → Int32) (km_deedDay : ClassId) (fm_deedDay : Nat → Int32) (km_official : ClassId) (fm_official : Nat → Int32) (p1 : Int32) (gmi_0 : gi (mi 0) 0 24) (gmi_1 : gi (mi 1) 0 5) (gmi_2 : gi (mi 2) 0 5) (gmi_4 : gi (mi 4) 0 1) (gmi_7 : gi (mi 7) 0 6) (gmi_10 : gi (mi 10) 0 24) (gmi_17 : gi (mi 17) 0 8) (gmi_23 : gi (mi 23) 0 300) (gmi_24 : gi (mi 24) 0 1) (gmi_26 : gi (mi 26) 0 1600) (gmi_29 : gi (mi 29) 0 1600) (gmi_30 : gi (mi 30) 0 1600) (gmi_33 : gi (mi 33) 0 1) (gmi_37 : gi (mi 37) 0 1) (gmi_41 : gi (mi 41) 0 24) (gmi_50 : gi (mi 50) 0 1) (gmi_51 : gi (mi 51) 0 1) (gmi_56 : gi (mi 56) 0 80) (gfm_deedMonth : ga fm_deedMonth 8 0 23) (gfm_deedLong : ga fm_deedLong 8 0 600) (gp1 : gi p1 0 7) (hdd : ∀ j : Nat, j < 8 → ((fm_deedKind j).toInt ≠ 0 ∨ (fm_deedMonth j).toInt + (fm_deedLong j).toInt ≤ 23)) : Met l yX12_dueBy (.code yX12_dueBy cX12_dueBy 2 (some .int) :: wsGB) ({ frames := 2, cells := 0, slots := 0, locals := 43 }) (va_Pc [.ref h0, .int p1] (fun U => va_P (dC, dI) vwCl [(h0, .inr (12, fsMM mi mr)), ((mr 8), .inl (km_deedMonth, 8, .inl fm_deedMonth)), ((mr 10), .inl (km_deedLong, 8, .inl fm_deedLong)), ((mr 11), .inl (km_deedKind, 8, .inl fm_deedKind)), ((mr 9), .inl (km_deedDay, 8, .inl fm_deedDay)), ((mr 20), .inl (km_official, 25, .inl fm_official))] U.heap ∧ va_K (dC, dI) vwCl [(km_deedMonth, .int), (km_deedLong, .int), (km_deedKind, .int), (km_deedDay, .int), (km_official, .int)] U)) (va_Qi (fun (r : Int32) (u : Unit) => gi r (-2147483648) 2147483647) (fun _ _ => True) (fun _ => False)) 0 0 (fun _ => False) := by
  refine Met.ofW (cc := cX12_dueBy) (maxL := 2) (ret := (some .int)) (by decide) rfl ?_
  intro p e s m args below meth c s₁ B hml hv
  obtain ⟨rfl, hP, hK⟩ := hv
  have hx := B.exec
  have hb := B.bytes
  have hr := B.returns
  have hts := atoms_spec (ws := (.code yX12_dueBy cX12_dueBy 2 (some .int) :: wsGB)) B.pre
  have hown : s.vm.findClass RX12 = some m.cls := findClass_of_methodNamed B.named
  have hlocks := B.notSynchronized
  have hS : va_S (fun _ => False) s.heap s.heap [] := va_S.rf
  have hl := lv_entry ([.ref h0, .int p1]) (n := 2) (Nat.le_of_ble_eq_true rfl)
  rw [lg_entry_eq]
  generalize (lg_sl ([.ref h0, .int p1]) ++ List.replicate (2 - (lg_sl ([.ref h0, .int p1])).length) Slot.unset).toArray = ls at hl ⊢
  have hl : lv_has ls 2 [(0, .ref h0), (1, .int p1)] := hl
  refine lv_aload_n hx hb dX12_dueBy_0 rfl (lv_at hl 0 rfl) ?_
  refine lv_aload_n hx hb dX12_dueBy_1 rfl (lv_at hl 0 rfl) ?_
  refine lv_iload_n hx hb dX12_dueBy_2 rfl (lv_at hl 1 rfl) ?_
  have hPc := hP.sub (ws' := [(h0, .inr (12, fsMM mi mr)), ((mr 8), .inl (km_deedMonth, 8, .inl fm_deedMonth)), ((mr 10), .inl (km_deedLong, 8, .inl fm_deedLong)), ((mr 11), .inl (km_deedKind, 8, .inl fm_deedKind))]) [0, 1, 2, 3] rfl
  have hKc := hK.sub (tys' := [(km_deedMonth, .int), (km_deedLong, .int), (km_deedKind, .int)]) [0, 1, 2] rfl
  refine va_calli (va_runV (As := [.int p1]) (rest := [.ref h0]) ⟨hx, hb, hml, hown, hts⟩ (sX12_monthOf l dC dI h0 mi mr km_deedMonth fm_deedMonth km_deedLong fm_deedLong km_deedKind fm_deedKind p1 gmi_0 gmi_1 gmi_2 gmi_4 gmi_7 gmi_10 gmi_17 gmi_23 gmi_24 gmi_26 gmi_29 gmi_30 gmi_33 gmi_37 gmi_41 gmi_50 gmi_51 gmi_56 gfm_deedMonth gfm_deedLong gp1 hdd) (cwV 1 hts (gz_gV mGB_459 mGB_460 mGB_461 mGB_1 mGB_462 goodGB) rfl rfl rfl (by decide +kernel) ⟨Nat.le_of_ble_eq_true rfl, Nat.le_of_ble_eq_true rfl⟩) ⟨fun a U g mk q => by obtain ⟨q0, qP, qK⟩ := q; exact ⟨q0, qP, va_K.moved (u := U) (U := U.calling g mk a) (Vm.Alike.refl U.vm) qK⟩, va_recv hKc hPc (ci := 12) (q0 := 0) rfl rfl, fun U hU hW => ⟨rfl, by rw [hU]; exact hPc, va_K.moved hW.alike hKc⟩⟩ rfl rfl hl.1 rfl (lv_room (Nat.le_of_ble_eq_true rfl)) dX12_dueBy_3 ⟨Nat.zero_le _, Nat.zero_le _⟩) hS (fun q _ h => h.elim) (fun q h => h.elim) (fun r_6 u t H1 locs ht hvm hw hB hz1 hk1 hS => ?_)
  have hP := gz_keep hP hk1
  generalize H1 = H at hP hS ⊢
  have gr_6 : gi r_6 0 23 := hw
  refine lv_aload_n hx hb dX12_dueBy_6 rfl (lv_at hl 0 rfl) ?_
  refine va_get (D := (dC, dI)) (ci := 12) (v := .ref (mr 9)) (C := RX12) (T := TX12) (N := 57) hx hb hts (fun w h => List.mem_cons_of_mem _ (jnGB_X12 w h)) hown hK hP 0 rfl rfl 19 (by decide) (hts _ (List.mem_cons_of_mem _ mGB_20)) (fun _ h9 => h9) rfl dX12_dueBy_7 ?_
  refine lv_iload_n hx hb dX12_dueBy_10 rfl (lv_at hl 1 rfl) ?_
  refine va_iald hx hb hK hP 4 3 rfl rfl (gi_in gp1 (by decide)) dX12_dueBy_11 ?_
  refine lv_topi (fun x_7 ex_7 => ?_)
  have hPc := hP.sub (ws' := [(h0, .inr (12, fsMM mi mr)), ((mr 20), .inl (km_official, 25, .inl fm_official))]) [0, 5] rfl
  have hKc := hK.sub (tys' := [(km_official, .int)]) [4] rfl
  refine va_calli (va_runV (As := [.int r_6, .int x_7]) (rest := []) ⟨hx, hb, hml, hown, hts⟩ (sX12_dayBy l dC dI h0 mi mr km_official fm_official r_6 x_7 gmi_0 gmi_1 gmi_2 gmi_4 gmi_7 gmi_10 gmi_17 gmi_23 gmi_24 gmi_26 gmi_29 gmi_30 gmi_33 gmi_37 gmi_41 gmi_50 gmi_51 gmi_56 gr_6) (cwV 2 hts (gz_gV mGB_419 mGB_420 mGB_421 mGB_1 mGB_422 goodGB) rfl rfl rfl (by decide +kernel) ⟨Nat.le_of_ble_eq_true rfl, Nat.le_of_ble_eq_true rfl⟩) ⟨fun a U g mk q => by obtain ⟨q0, qP, qK⟩ := q; exact ⟨q0, qP, va_K.moved (u := U) (U := U.calling g mk a) (Vm.Alike.refl U.vm) qK⟩, va_recv hKc hPc (ci := 12) (q0 := 0) rfl rfl, fun U hU hW => ⟨rfl, by rw [hU]; exact hPc, va_K.moved hW.alike hKc⟩⟩ rfl rfl hl.1 rfl (lv_room (Nat.le_of_ble_eq_true rfl)) dX12_dueBy_12 ⟨Nat.zero_le _, Nat.zero_le _⟩) hS (fun q _ h => h.elim) (fun q h => h.elim) (fun r_8 u t H1 locs ht hvm hw hB hz1 hk1 hS => ?_)
  have hP := gz_keep hP hk1
  generalize H1 = H at hP hS ⊢
  refine lv_aload_n hx hb dX12_dueBy_15 rfl (lv_at hl 0 rfl) ?_
  refine lv_iload_n hx hb dX12_dueBy_16 rfl (lv_at hl 1 rfl) ?_
  have hPc := hP.sub (ws' := [(h0, .inr (12, fsMM mi mr)), ((mr 8), .inl (km_deedMonth, 8, .inl fm_deedMonth)), ((mr 10), .inl (km_deedLong, 8, .inl fm_deedLong)), ((mr 11), .inl (km_deedKind, 8, .inl fm_deedKind))]) [0, 1, 2, 3] rfl
  have hKc := hK.sub (tys' := [(km_deedMonth, .int), (km_deedLong, .int), (km_deedKind, .int)]) [0, 1, 2] rfl
  refine va_calli (va_runV (As := [.int p1]) (rest := [.int r_8]) ⟨hx, hb, hml, hown, hts⟩ (sX12_behindOf l dC dI h0 mi mr km_deedMonth fm_deedMonth km_deedLong fm_deedLong km_deedKind fm_deedKind p1 gmi_0 gmi_1 gmi_2 gmi_4 gmi_7 gmi_10 gmi_17 gmi_23 gmi_24 gmi_26 gmi_29 gmi_30 gmi_33 gmi_37 gmi_41 gmi_50 gmi_51 gmi_56 gfm_deedMonth gfm_deedLong gp1) (cwV 1 hts (gz_gV mGB_463 mGB_464 mGB_465 mGB_1 mGB_466 goodGB) rfl rfl rfl (by decide +kernel) ⟨Nat.le_of_ble_eq_true rfl, Nat.le_of_ble_eq_true rfl⟩) ⟨fun a U g mk q => by obtain ⟨q0, qP, qK⟩ := q; exact ⟨q0, qP, va_K.moved (u := U) (U := U.calling g mk a) (Vm.Alike.refl U.vm) qK⟩, va_recv hKc hPc (ci := 12) (q0 := 0) rfl rfl, fun U hU hW => ⟨rfl, by rw [hU]; exact hPc, va_K.moved hW.alike hKc⟩⟩ rfl rfl hl.1 rfl (lv_room (Nat.le_of_ble_eq_true rfl)) dX12_dueBy_17 ⟨Nat.zero_le _, Nat.zero_le _⟩) hS (fun q _ h => h.elim) (fun q h => h.elim) (fun r_9 u t H1 locs ht hvm hw hB hz1 hk1 hS => ?_)
  have hP := gz_keep hP hk1
  generalize H1 = H at hP hS ⊢
  have gr_9 : gi r_9 0 600 := hw
  refine lv_iadd hx hb dX12_dueBy_20 ?_
  refine lv_topi (fun x_10 ex_10 => ?_)
  exact W.iret (v := x_10) hx hb hr (fun t ht hW => ⟨⟨x_10, (), rfl, (gi_any x_10), trivial⟩, hS.F ht⟩) hS.2.2 dX12_dueBy_21
