theorem dX12_duesOn_0 : decode cX12_duesOn 0 = .ok (.iload_n 2, 1) := by decide +kernel
theorem dX12_duesOn_1 : decode cX12_duesOn 1 = .ok (.aload_n 0, 1) := by decide +kernel
theorem dX12_duesOn_2 : decode cX12_duesOn 2 = .ok (.iload_n 1, 1) := by decide +kernel
theorem dX12_duesOn_3 : decode cX12_duesOn 3 = .ok (.invokevirtual 441, 3) := by decide +kernel
theorem dX12_duesOn_6 : decode cX12_duesOn 6 = .ok (.isub, 1) := by decide +kernel
theorem dX12_duesOn_7 : decode cX12_duesOn 7 = .ok (.istore_n 3, 1) := by decide +kernel
theorem dX12_duesOn_8 : decode cX12_duesOn 8 = .ok (.iload_n 3, 1) := by decide +kernel
theorem dX12_duesOn_9 : decode cX12_duesOn 9 = .ok (.ifCond .ge 7, 3) := by decide +kernel
theorem dX12_duesOn_12 : decode cX12_duesOn 12 = .ok (.iconst 0, 1) := by decide +kernel
theorem dX12_duesOn_13 : decode cX12_duesOn 13 = .ok (.goto 19, 3) := by decide +kernel
theorem dX12_duesOn_16 : decode cX12_duesOn 16 = .ok (.aload_n 0, 1) := by decide +kernel
theorem dX12_duesOn_17 : decode cX12_duesOn 17 = .ok (.aload_n 0, 1) := by decide +kernel
theorem dX12_duesOn_18 : decode cX12_duesOn 18 = .ok (.iload_n 1, 1) := by decide +kernel
theorem dX12_duesOn_19 : decode cX12_duesOn 19 = .ok (.invokevirtual 438, 3) := by decide +kernel
theorem dX12_duesOn_22 : decode cX12_duesOn 22 = .ok (.aload_n 0, 1) := by decide +kernel
theorem dX12_duesOn_23 : decode cX12_duesOn 23 = .ok (.getfield 38, 3) := by decide +kernel
theorem dX12_duesOn_26 : decode cX12_duesOn 26 = .ok (.iload_n 1, 1) := by decide +kernel
theorem dX12_duesOn_27 : decode cX12_duesOn 27 = .ok (.iaload, 1) := by decide +kernel
theorem dX12_duesOn_28 : decode cX12_duesOn 28 = .ok (.iload_n 3, 1) := by decide +kernel
theorem dX12_duesOn_29 : decode cX12_duesOn 29 = .ok (.invokevirtual 420, 3) := by decide +kernel
theorem dX12_duesOn_32 : decode cX12_duesOn 32 = .ok (.ireturn, 1) := by decide +kernel
set_option maxHeartbeats 4000000 in
set_option maxRecDepth 100000 in
theorem sX12_duesOn (l : Launch) (dC : Nat → ClassId) (dI : Nat → Nat → Nat) (sz : Nat) (h0 : Nat) (mi : Nat → Int32) (mr : Nat → Nat) (km_must : ClassId) (fm_must : Nat → Int32) (km_least : ClassId) (fm_least : Nat → Int32) (km_pin : ClassId) (fm_pin : Nat → Int32) (km_ways : ClassId) (fm_ways : Nat → Int32) (km_deedMonth : ClassId) (fm_deedMonth : Nat → Int32) (km_deedLong : ClassId) (fm_deedLong : Nat → Int32) (km_deedKind : ClassId) (fm_deedKind : Nat → Int32) (km_deedDay : ClassId) (fm_deedDay : Nat → Int32) (p1 : Int32) (p2 : Int32) (gmi_0 : gi (mi 0) 0 24) (gmi_1 : gi (mi 1) 0 5) (gmi_2 : gi (mi 2) 0 5) (gmi_4 : gi (mi 4) 0 1) (gmi_7 : gi (mi 7) 0 6) (gmi_10 : gi (mi 10) 0 24) (gmi_17 : gi (mi 17) 0 8) (gmi_23 : gi (mi 23) 0 300) (gmi_24 : gi (mi 24) 0 1) (gmi_26 : gi (mi 26) 0 1600) (gmi_29 : gi (mi 29) 0 1600) (gmi_30 : gi (mi 30) 0 1600) (gmi_33 : gi (mi 33) 0 1) (gmi_37 : gi (mi 37) 0 1) (gmi_41 : gi (mi 41) 0 24) (gmi_50 : gi (mi 50) 0 1) (gmi_51 : gi (mi 51) 0 1) (gmi_56 : gi (mi 56) 0 80) (gfm_deedMonth : ga fm_deedMonth 8 0 23) (gfm_deedLong : ga fm_deedLong 8 0 600) (gp1 : gi p1 0 7) (hdd : ∀ j : Nat, j < 8 → ((fm_deedKind j).toInt ≠ 0 ∨ (fm_deedMonth j).toInt + (fm_deedLong j).toInt ≤ 23)) : Met l yX12_duesOn (.code yX12_duesOn cX12_duesOn 4 (some .int) :: wsGB) ({ frames := 6, cells := 0, slots := 0, locals := 147 }) (va_Pc [.ref h0, .int p1, .int p2] (fun U => U.heap.size = sz ∧ va_P (dC, dI) vwCl [(h0, .inr (12, fsMM mi mr)), ((mr 14), .inl (km_must, 25, .inl fm_must)), ((mr 15), .inl (km_least, 25, .inl fm_least)), ((mr 16), .inl (km_pin, 25, .inl fm_pin)), ((mr 17), .inl (km_ways, 6875, .inl fm_ways)), ((mr 8), .inl (km_deedMonth, 8, .inl fm_deedMonth)), ((mr 10), .inl (km_deedLong, 8, .inl fm_deedLong)), ((mr 11), .inl (km_deedKind, 8, .inl fm_deedKind)), ((mr 9), .inl (km_deedDay, 8, .inl fm_deedDay))] U.heap ∧ va_K (dC, dI) vwCl [(km_must, .int), (km_least, .int), (km_pin, .int), (km_ways, .int), (km_deedMonth, .int), (km_deedLong, .int), (km_deedKind, .int), (km_deedDay, .int)] U ∧ va_D (fun _ => True) [(h0, .inr (12, fsMM mi mr)), ((mr 14), .inl (km_must, 25, .inl fm_must)), ((mr 15), .inl (km_least, 25, .inl fm_least)), ((mr 16), .inl (km_pin, 25, .inl fm_pin)), ((mr 17), .inl (km_ways, 6875, .inl fm_ways)), ((mr 8), .inl (km_deedMonth, 8, .inl fm_deedMonth)), ((mr 10), .inl (km_deedLong, 8, .inl fm_deedLong)), ((mr 11), .inl (km_deedKind, 8, .inl fm_deedKind)), ((mr 9), .inl (km_deedDay, 8, .inl fm_deedDay))])) (va_Qi (fun (r : Int32) (u : Unit) => gi r (-2147483648) 2147483647) (fun _ t => ∃ (z3 : Nat → Int32) (z4 : Nat → Int32), va_P (dC, dI) vwCl [(h0, .inr (12, fsMM mi mr)), ((mr 14), .inl (km_must, 25, .inl fm_must)), ((mr 15), .inl (km_least, 25, .inl fm_least)), ((mr 16), .inl (km_pin, 25, .inl z3)), ((mr 17), .inl (km_ways, 6875, .inl z4)), ((mr 8), .inl (km_deedMonth, 8, .inl fm_deedMonth)), ((mr 10), .inl (km_deedLong, 8, .inl fm_deedLong)), ((mr 11), .inl (km_deedKind, 8, .inl fm_deedKind)), ((mr 9), .inl (km_deedDay, 8, .inl fm_deedDay))] t.heap ∧ va_D (va_A [(h0, .inr (12, fsMM mi mr)), ((mr 14), .inl (km_must, 25, .inl fm_must)), ((mr 15), .inl (km_least, 25, .inl fm_least)), ((mr 16), .inl (km_pin, 25, .inl fm_pin)), ((mr 17), .inl (km_ways, 6875, .inl fm_ways)), ((mr 8), .inl (km_deedMonth, 8, .inl fm_deedMonth)), ((mr 10), .inl (km_deedLong, 8, .inl fm_deedLong)), ((mr 11), .inl (km_deedKind, 8, .inl fm_deedKind)), ((mr 9), .inl (km_deedDay, 8, .inl fm_deedDay))] sz) [(h0, .inr (12, fsMM mi mr)), ((mr 14), .inl (km_must, 25, .inl fm_must)), ((mr 15), .inl (km_least, 25, .inl fm_least)), ((mr 16), .inl (km_pin, 25, .inl z3)), ((mr 17), .inl (km_ways, 6875, .inl z4)), ((mr 8), .inl (km_deedMonth, 8, .inl fm_deedMonth)), ((mr 10), .inl (km_deedLong, 8, .inl fm_deedLong)), ((mr 11), .inl (km_deedKind, 8, .inl fm_deedKind)), ((mr 9), .inl (km_deedDay, 8, .inl fm_deedDay))]) (va_A [(h0, .inr (12, fsMM mi mr)), ((mr 14), .inl (km_must, 25, .inl fm_must)), ((mr 15), .inl (km_least, 25, .inl fm_least)), ((mr 16), .inl (km_pin, 25, .inl fm_pin)), ((mr 17), .inl (km_ways, 6875, .inl fm_ways)), ((mr 8), .inl (km_deedMonth, 8, .inl fm_deedMonth)), ((mr 10), .inl (km_deedLong, 8, .inl fm_deedLong)), ((mr 11), .inl (km_deedKind, 8, .inl fm_deedKind)), ((mr 9), .inl (km_deedDay, 8, .inl fm_deedDay))] sz)) 0 0 (va_A [(h0, .inr (12, fsMM mi mr)), ((mr 14), .inl (km_must, 25, .inl fm_must)), ((mr 15), .inl (km_least, 25, .inl fm_least)), ((mr 16), .inl (km_pin, 25, .inl fm_pin)), ((mr 17), .inl (km_ways, 6875, .inl fm_ways)), ((mr 8), .inl (km_deedMonth, 8, .inl fm_deedMonth)), ((mr 10), .inl (km_deedLong, 8, .inl fm_deedLong)), ((mr 11), .inl (km_deedKind, 8, .inl fm_deedKind)), ((mr 9), .inl (km_deedDay, 8, .inl fm_deedDay))] sz) := by
  refine Met.ofW (cc := cX12_duesOn) (maxL := 4) (ret := (some .int)) (by decide) rfl ?_
  intro p e s m args below meth c s₁ B hml hv
  obtain ⟨rfl, hsz, hP, hK, hD0⟩ := hv
  have hx := B.exec
  have hb := B.bytes
  have hr := B.returns
  have hts := atoms_spec (ws := (.code yX12_duesOn cX12_duesOn 4 (some .int) :: wsGB)) B.pre
  have hown : s.vm.findClass RX12 = some m.cls := findClass_of_methodNamed B.named
  have hlocks := B.notSynchronized
  subst hsz
  have hD := hD0.self (sz := s.heap.size)
  generalize hAe : va_A [(h0, .inr (12, fsMM mi mr)), ((mr 14), .inl (km_must, 25, .inl fm_must)), ((mr 15), .inl (km_least, 25, .inl fm_least)), ((mr 16), .inl (km_pin, 25, .inl fm_pin)), ((mr 17), .inl (km_ways, 6875, .inl fm_ways)), ((mr 8), .inl (km_deedMonth, 8, .inl fm_deedMonth)), ((mr 10), .inl (km_deedLong, 8, .inl fm_deedLong)), ((mr 11), .inl (km_deedKind, 8, .inl fm_deedKind)), ((mr 9), .inl (km_deedDay, 8, .inl fm_deedDay))] s.heap.size = A at hD ⊢
  have hA : ∀ q : Nat, s.heap.size ≤ q → A q := fun q h => by rw [← hAe]; exact Or.inr h
  have hS : va_S A s.heap s.heap [] := va_S.rf
  have hl := lv_entry ([.ref h0, .int p1, .int p2]) (n := 4) (Nat.le_of_ble_eq_true rfl)
  rw [lg_entry_eq]
  generalize (lg_sl ([.ref h0, .int p1, .int p2]) ++ List.replicate (4 - (lg_sl ([.ref h0, .int p1, .int p2])).length) Slot.unset).toArray = ls at hl ⊢
  have hl : lv_has ls 4 [(0, .ref h0), (1, .int p1), (2, .int p2)] := hl
  refine lv_iload_n hx hb dX12_duesOn_0 rfl (lv_at hl 2 rfl) ?_
  refine lv_aload_n hx hb dX12_duesOn_1 rfl (lv_at hl 0 rfl) ?_
  refine lv_iload_n hx hb dX12_duesOn_2 rfl (lv_at hl 1 rfl) ?_
  have hPc := hP.sub (ws' := [(h0, .inr (12, fsMM mi mr)), ((mr 8), .inl (km_deedMonth, 8, .inl fm_deedMonth)), ((mr 10), .inl (km_deedLong, 8, .inl fm_deedLong)), ((mr 11), .inl (km_deedKind, 8, .inl fm_deedKind))]) [0, 5, 6, 7] rfl
  have hKc := hK.sub (tys' := [(km_deedMonth, .int), (km_deedLong, .int), (km_deedKind, .int)]) [4, 5, 6] rfl
  refine va_calli (va_runV (As := [.int p1]) (rest := [.int p2]) ⟨hx, hb, hml, hown, hts⟩ (sX12_behindOf l dC dI h0 mi mr km_deedMonth fm_deedMonth km_deedLong fm_deedLong km_deedKind fm_deedKind p1 gmi_0 gmi_1 gmi_2 gmi_4 gmi_7 gmi_10 gmi_17 gmi_23 gmi_24 gmi_26 gmi_29 gmi_30 gmi_33 gmi_37 gmi_41 gmi_50 gmi_51 gmi_56 gfm_deedMonth gfm_deedLong gp1) (cwV 1 hts (gz_gV mGB_463 mGB_464 mGB_465 mGB_1 mGB_466 goodGB) rfl rfl rfl (by decide +kernel) ⟨Nat.le_of_ble_eq_true rfl, Nat.le_of_ble_eq_true rfl⟩) ⟨fun a U g mk q => by obtain ⟨q0, qP, qK⟩ := q; exact ⟨q0, qP, va_K.moved (u := U) (U := U.calling g mk a) (Vm.Alike.refl U.vm) qK⟩, va_recv hKc hPc (ci := 12) (q0 := 0) rfl rfl, fun U hU hW => ⟨rfl, by rw [hU]; exact hPc, va_K.moved hW.alike hKc⟩⟩ rfl rfl hl.1 rfl (lv_room (Nat.le_of_ble_eq_true rfl)) dX12_duesOn_3 ⟨Nat.zero_le _, Nat.zero_le _⟩) hS (fun q _ h => h.elim) (fun q h => h.elim) (fun r_21 u t H1 locs ht hvm hw hB hz1 hk1 hS => ?_)
  have hP := gz_keep hP hk1
  generalize H1 = H at hP hS ⊢
  have gr_21 : gi r_21 0 600 := hw
  refine lv_isub hx hb dX12_duesOn_6 ?_
  refine lv_topi (fun x_22 ex_22 => ?_)
  refine lv_istore_n (lv' := [(3, .int x_22), (0, .ref h0), (1, .int p1), (2, .int p2)]) hx hb dX12_duesOn_7 rfl hl (by decide) rfl (fun ls hl => ?_)
  refine lv_iload_n hx hb dX12_duesOn_8 rfl (lv_at hl 0 rfl) ?_
  refine lv_if_ge (tgt := 16) hx hb dX12_duesOn_9 (by decide) (fun c_23 => ?_) (fun c_23 => ?_)
  · have g_24 : gi x_22 0 2147483647 := gi_le_r c_23 (gi_c 0 0 (by decide)) (gi_any x_22)
    refine lv_aload_n hx hb dX12_duesOn_16 rfl (lv_at hl 1 rfl) ?_
    refine lv_aload_n hx hb dX12_duesOn_17 rfl (lv_at hl 1 rfl) ?_
    refine lv_iload_n hx hb dX12_duesOn_18 rfl (lv_at hl 2 rfl) ?_
    have hPc := hP.sub (ws' := [(h0, .inr (12, fsMM mi mr)), ((mr 8), .inl (km_deedMonth, 8, .inl fm_deedMonth)), ((mr 10), .inl (km_deedLong, 8, .inl fm_deedLong)), ((mr 11), .inl (km_deedKind, 8, .inl fm_deedKind))]) [0, 5, 6, 7] rfl
    have hKc := hK.sub (tys' := [(km_deedMonth, .int), (km_deedLong, .int), (km_deedKind, .int)]) [4, 5, 6] rfl
    refine va_calli (va_runV (As := [.int p1]) (rest := [.ref h0]) ⟨hx, hb, hml, hown, hts⟩ (sX12_monthOf l dC dI h0 mi mr km_deedMonth fm_deedMonth km_deedLong fm_deedLong km_deedKind fm_deedKind p1 gmi_0 gmi_1 gmi_2 gmi_4 gmi_7 gmi_10 gmi_17 gmi_23 gmi_24 gmi_26 gmi_29 gmi_30 gmi_33 gmi_37 gmi_41 gmi_50 gmi_51 gmi_56 gfm_deedMonth gfm_deedLong gp1 hdd) (cwV 1 hts (gz_gV mGB_459 mGB_460 mGB_461 mGB_1 mGB_462 goodGB) rfl rfl rfl (by decide +kernel) ⟨Nat.le_of_ble_eq_true rfl, Nat.le_of_ble_eq_true rfl⟩) ⟨fun a U g mk q => by obtain ⟨q0, qP, qK⟩ := q; exact ⟨q0, qP, va_K.moved (u := U) (U := U.calling g mk a) (Vm.Alike.refl U.vm) qK⟩, va_recv hKc hPc (ci := 12) (q0 := 0) rfl rfl, fun U hU hW => ⟨rfl, by rw [hU]; exact hPc, va_K.moved hW.alike hKc⟩⟩ rfl rfl hl.1 rfl (lv_room (Nat.le_of_ble_eq_true rfl)) dX12_duesOn_19 ⟨Nat.zero_le _, Nat.zero_le _⟩) hS (fun q _ h => h.elim) (fun q h => h.elim) (fun r_25 u t H1 locs ht hvm hw hB hz1 hk1 hS => ?_)
    have hP := gz_keep hP hk1
    generalize H1 = H at hP hS ⊢
    have gr_25 : gi r_25 0 23 := hw
    refine lv_aload_n hx hb dX12_duesOn_22 rfl (lv_at hl 1 rfl) ?_
    refine va_get (D := (dC, dI)) (ci := 12) (v := .ref (mr 9)) (C := RX12) (T := TX12) (N := 57) hx hb hts (fun w h => List.mem_cons_of_mem _ (jnGB_X12 w h)) hown hK hP 0 rfl rfl 19 (by decide) (hts _ (List.mem_cons_of_mem _ mGB_20)) (fun _ h9 => h9) rfl dX12_duesOn_23 ?_
    refine lv_iload_n hx hb dX12_duesOn_26 rfl (lv_at hl 2 rfl) ?_
    refine va_iald hx hb hK hP 8 7 rfl rfl (gi_in gp1 (by decide)) dX12_duesOn_27 ?_
    refine lv_topi (fun x_26 ex_26 => ?_)
    refine lv_iload_n hx hb dX12_duesOn_28 rfl (lv_at hl 0 rfl) ?_
    have hPc := hP.sub (ws' := [(h0, .inr (12, fsMM mi mr)), ((mr 14), .inl (km_must, 25, .inl fm_must)), ((mr 15), .inl (km_least, 25, .inl fm_least)), ((mr 16), .inl (km_pin, 25, .inl fm_pin)), ((mr 17), .inl (km_ways, 6875, .inl fm_ways))]) [0, 1, 2, 3, 4] rfl
    have hKc := hK.sub (tys' := [(km_must, .int), (km_least, .int), (km_pin, .int), (km_ways, .int)]) [0, 1, 2, 3] rfl
    have hDc := hD.sub (ws' := [(h0, .inr (12, fsMM mi mr)), ((mr 14), .inl (km_must, 25, .inl fm_must)), ((mr 15), .inl (km_least, 25, .inl fm_least)), ((mr 16), .inl (km_pin, 25, .inl fm_pin)), ((mr 17), .inl (km_ways, 6875, .inl fm_ways))]) [0, 1, 2, 3, 4] (by decide) rfl
    have hFc := va_free (wc := [(h0, .inr (12, fsMM mi mr)), ((mr 14), .inl (km_must, 25, .inl fm_must)), ((mr 15), .inl (km_least, 25, .inl fm_least)), ((mr 16), .inl (km_pin, 25, .inl fm_pin)), ((mr 17), .inl (km_ways, 6875, .inl fm_ways))]) hD hS hA [0, 1, 2, 3, 4] rfl
    refine va_calli (va_runV (As := [.int r_25, .int x_26, .int x_22]) (rest := []) ⟨hx, hb, hml, hown, hts⟩ (sX12_fallsOn l dC dI H.size h0 mi mr km_must fm_must km_least fm_least km_pin fm_pin km_ways fm_ways r_25 x_26 x_22 gmi_0 gmi_1 gmi_2 gmi_4 gmi_7 gmi_10 gmi_17 gmi_23 gmi_24 gmi_26 gmi_29 gmi_30 gmi_33 gmi_37 gmi_41 gmi_50 gmi_51 gmi_56 gr_25) (cwV 3 hts (gz_gV mGB_488 mGB_489 mGB_490 mGB_1 mGB_491 goodGB) rfl rfl rfl (by decide +kernel) ⟨Nat.le_of_ble_eq_true rfl, Nat.le_of_ble_eq_true rfl⟩) ⟨fun a U g mk q => by obtain ⟨q0, q1, qP, qK, qD⟩ := q; exact ⟨q0, q1, qP, va_K.moved (u := U) (U := U.calling g mk a) (Vm.Alike.refl U.vm) qK, qD⟩, va_recv hKc hPc (ci := 12) (q0 := 0) rfl rfl, fun U hU hW => ⟨rfl, by rw [hU], by rw [hU]; exact hPc, va_K.moved hW.alike hKc, hDc.weaken (fun _ _ _ _ => trivial)⟩⟩ rfl rfl hl.1 rfl (lv_room (Nat.le_of_ble_eq_true rfl)) dX12_duesOn_29 ⟨Nat.zero_le _, Nat.zero_le _⟩) hS (fun q _ h => hFc q h) hFc (fun r_27 u t H1 locs ht hvm hw hB hz1 hk1 hS => ?_)
    obtain ⟨f_28, f_29, hP1, hD1⟩ := hB
    rw [ht] at hP1
    obtain ⟨hP, hD⟩ := va_join (wr := [((mr 8), .inl (km_deedMonth, 8, .inl fm_deedMonth)), ((mr 10), .inl (km_deedLong, 8, .inl fm_deedLong)), ((mr 11), .inl (km_deedKind, 8, .inl fm_deedKind)), ((mr 9), .inl (km_deedDay, 8, .inl fm_deedDay))]) (w1 := [(h0, .inr (12, fsMM mi mr)), ((mr 14), .inl (km_must, 25, .inl fm_must)), ((mr 15), .inl (km_least, 25, .inl fm_least)), ((mr 16), .inl (km_pin, 25, .inl f_28)), ((mr 17), .inl (km_ways, 6875, .inl f_29))]) hP hD [0, 1, 2, 3, 4] [5, 6, 7, 8] rfl rfl (by decide) (by decide) hk1 hFc hP1 hD1
    have hP := hP.sub (ws' := [(h0, .inr (12, fsMM mi mr)), ((mr 14), .inl (km_must, 25, .inl fm_must)), ((mr 15), .inl (km_least, 25, .inl fm_least)), ((mr 16), .inl (km_pin, 25, .inl f_28)), ((mr 17), .inl (km_ways, 6875, .inl f_29)), ((mr 8), .inl (km_deedMonth, 8, .inl fm_deedMonth)), ((mr 10), .inl (km_deedLong, 8, .inl fm_deedLong)), ((mr 11), .inl (km_deedKind, 8, .inl fm_deedKind)), ((mr 9), .inl (km_deedDay, 8, .inl fm_deedDay))]) [4, 5, 6, 7, 8, 0, 1, 2, 3] rfl
    have hD := hD.sub (ws' := [(h0, .inr (12, fsMM mi mr)), ((mr 14), .inl (km_must, 25, .inl fm_must)), ((mr 15), .inl (km_least, 25, .inl fm_least)), ((mr 16), .inl (km_pin, 25, .inl f_28)), ((mr 17), .inl (km_ways, 6875, .inl f_29)), ((mr 8), .inl (km_deedMonth, 8, .inl fm_deedMonth)), ((mr 10), .inl (km_deedLong, 8, .inl fm_deedLong)), ((mr 11), .inl (km_deedKind, 8, .inl fm_deedKind)), ((mr 9), .inl (km_deedDay, 8, .inl fm_deedDay))]) [4, 5, 6, 7, 8, 0, 1, 2, 3] (by decide) rfl
    generalize H1 = H at hP hS ⊢
    exact W.iret (v := r_27) hx hb hr (fun t ht hW => ⟨⟨r_27, (), rfl, (gi_any r_27), f_28, f_29, by rw [ht]; exact hP, hD⟩, hS.F ht⟩) hS.2.2 dX12_duesOn_32
  · have g_30 : gi x_22 (-2147483648) (-1) := gi_lt_l (Int32.not_le.mp c_23) (gi_any x_22) (gi_c 0 0 (by decide)) (by decide)
    refine lv_iconst (v := 0) hx hb dX12_duesOn_12 (by decide) ?_
    refine lv_goto (tgt := 32) hx hb dX12_duesOn_13 (by decide) ?_
    exact W.iret (v := 0) hx hb hr (fun t ht hW => ⟨⟨0, (), rfl, (gi_any 0), fm_pin, fm_ways, by rw [ht]; exact hP, hD⟩, hS.F ht⟩) hS.2.2 dX12_duesOn_32
