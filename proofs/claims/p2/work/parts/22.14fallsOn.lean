theorem dX12_fallsOn_0 : decode cX12_fallsOn 0 = .ok (.iload_n 2, 1) := by decide +kernel
theorem dX12_fallsOn_1 : decode cX12_fallsOn 1 = .ok (.bipush 30, 2) := by decide +kernel
theorem dX12_fallsOn_3 : decode cX12_fallsOn 3 = .ok (.if_icmp .ge 14, 3) := by decide +kernel
theorem dX12_fallsOn_6 : decode cX12_fallsOn 6 = .ok (.aload_n 0, 1) := by decide +kernel
theorem dX12_fallsOn_7 : decode cX12_fallsOn 7 = .ok (.iload_n 1, 1) := by decide +kernel
theorem dX12_fallsOn_8 : decode cX12_fallsOn 8 = .ok (.iload_n 3, 1) := by decide +kernel
theorem dX12_fallsOn_9 : decode cX12_fallsOn 9 = .ok (.iload_n 2, 1) := by decide +kernel
theorem dX12_fallsOn_10 : decode cX12_fallsOn 10 = .ok (.isub, 1) := by decide +kernel
theorem dX12_fallsOn_11 : decode cX12_fallsOn 11 = .ok (.iconst 1, 1) := by decide +kernel
theorem dX12_fallsOn_12 : decode cX12_fallsOn 12 = .ok (.iadd, 1) := by decide +kernel
theorem dX12_fallsOn_13 : decode cX12_fallsOn 13 = .ok (.invokevirtual 388, 3) := by decide +kernel
theorem dX12_fallsOn_16 : decode cX12_fallsOn 16 = .ok (.ireturn, 1) := by decide +kernel
theorem dX12_fallsOn_17 : decode cX12_fallsOn 17 = .ok (.iload_n 3, 1) := by decide +kernel
theorem dX12_fallsOn_18 : decode cX12_fallsOn 18 = .ok (.bipush 29, 2) := by decide +kernel
theorem dX12_fallsOn_20 : decode cX12_fallsOn 20 = .ok (.isub, 1) := by decide +kernel
theorem dX12_fallsOn_21 : decode cX12_fallsOn 21 = .ok (.istore 4, 2) := by decide +kernel
theorem dX12_fallsOn_23 : decode cX12_fallsOn 23 = .ok (.aload_n 0, 1) := by decide +kernel
theorem dX12_fallsOn_24 : decode cX12_fallsOn 24 = .ok (.iload_n 1, 1) := by decide +kernel
theorem dX12_fallsOn_25 : decode cX12_fallsOn 25 = .ok (.iload 4, 2) := by decide +kernel
theorem dX12_fallsOn_27 : decode cX12_fallsOn 27 = .ok (.iload_n 1, 1) := by decide +kernel
theorem dX12_fallsOn_28 : decode cX12_fallsOn 28 = .ok (.iconst 1, 1) := by decide +kernel
theorem dX12_fallsOn_29 : decode cX12_fallsOn 29 = .ok (.iadd, 1) := by decide +kernel
theorem dX12_fallsOn_30 : decode cX12_fallsOn 30 = .ok (.iload 4, 2) := by decide +kernel
theorem dX12_fallsOn_32 : decode cX12_fallsOn 32 = .ok (.bipush 30, 2) := by decide +kernel
theorem dX12_fallsOn_34 : decode cX12_fallsOn 34 = .ok (.iadd, 1) := by decide +kernel
theorem dX12_fallsOn_35 : decode cX12_fallsOn 35 = .ok (.invokevirtual 385, 3) := by decide +kernel
theorem dX12_fallsOn_38 : decode cX12_fallsOn 38 = .ok (.aload_n 0, 1) := by decide +kernel
theorem dX12_fallsOn_39 : decode cX12_fallsOn 39 = .ok (.iload_n 1, 1) := by decide +kernel
theorem dX12_fallsOn_40 : decode cX12_fallsOn 40 = .ok (.iload 4, 2) := by decide +kernel
theorem dX12_fallsOn_42 : decode cX12_fallsOn 42 = .ok (.iconst 1, 1) := by decide +kernel
theorem dX12_fallsOn_43 : decode cX12_fallsOn 43 = .ok (.iadd, 1) := by decide +kernel
theorem dX12_fallsOn_44 : decode cX12_fallsOn 44 = .ok (.iload_n 1, 1) := by decide +kernel
theorem dX12_fallsOn_45 : decode cX12_fallsOn 45 = .ok (.iconst 1, 1) := by decide +kernel
theorem dX12_fallsOn_46 : decode cX12_fallsOn 46 = .ok (.iadd, 1) := by decide +kernel
theorem dX12_fallsOn_47 : decode cX12_fallsOn 47 = .ok (.iload 4, 2) := by decide +kernel
theorem dX12_fallsOn_49 : decode cX12_fallsOn 49 = .ok (.iconst 1, 1) := by decide +kernel
theorem dX12_fallsOn_50 : decode cX12_fallsOn 50 = .ok (.iadd, 1) := by decide +kernel
theorem dX12_fallsOn_51 : decode cX12_fallsOn 51 = .ok (.bipush 29, 2) := by decide +kernel
theorem dX12_fallsOn_53 : decode cX12_fallsOn 53 = .ok (.iadd, 1) := by decide +kernel
theorem dX12_fallsOn_54 : decode cX12_fallsOn 54 = .ok (.invokevirtual 385, 3) := by decide +kernel
theorem dX12_fallsOn_57 : decode cX12_fallsOn 57 = .ok (.iadd, 1) := by decide +kernel
theorem dX12_fallsOn_58 : decode cX12_fallsOn 58 = .ok (.ireturn, 1) := by decide +kernel
set_option maxHeartbeats 4000000 in
set_option maxRecDepth 100000 in
theorem sX12_fallsOn (l : Launch) (dC : Nat → ClassId) (dI : Nat → Nat → Nat) (sz : Nat) (h0 : Nat) (mi : Nat → Int32) (mr : Nat → Nat) (km_must : ClassId) (fm_must : Nat → Int32) (km_least : ClassId) (fm_least : Nat → Int32) (km_pin : ClassId) (fm_pin : Nat → Int32) (km_ways : ClassId) (fm_ways : Nat → Int32) (p1 : Int32) (p2 : Int32) (p3 : Int32) (gmi_0 : gi (mi 0) 0 24) (gmi_1 : gi (mi 1) 0 5) (gmi_2 : gi (mi 2) 0 5) (gmi_4 : gi (mi 4) 0 1) (gmi_7 : gi (mi 7) 0 6) (gmi_10 : gi (mi 10) 0 24) (gmi_17 : gi (mi 17) 0 8) (gmi_23 : gi (mi 23) 0 300) (gmi_24 : gi (mi 24) 0 1) (gmi_26 : gi (mi 26) 0 1600) (gmi_29 : gi (mi 29) 0 1600) (gmi_30 : gi (mi 30) 0 1600) (gmi_33 : gi (mi 33) 0 1) (gmi_37 : gi (mi 37) 0 1) (gmi_41 : gi (mi 41) 0 24) (gmi_50 : gi (mi 50) 0 1) (gmi_51 : gi (mi 51) 0 1) (gmi_56 : gi (mi 56) 0 80) (gp1 : gi p1 0 23) : Met l yX12_fallsOn (.code yX12_fallsOn cX12_fallsOn 5 (some .int) :: wsGB) ({ frames := 5, cells := 0, slots := 0, locals := 123 }) (va_Pc [.ref h0, .int p1, .int p2, .int p3] (fun U => U.heap.size = sz ∧ va_P (dC, dI) vwCl [(h0, .inr (12, fsMM mi mr)), ((mr 14), .inl (km_must, 25, .inl fm_must)), ((mr 15), .inl (km_least, 25, .inl fm_least)), ((mr 16), .inl (km_pin, 25, .inl fm_pin)), ((mr 17), .inl (km_ways, 6875, .inl fm_ways))] U.heap ∧ va_K (dC, dI) vwCl [(km_must, .int), (km_least, .int), (km_pin, .int), (km_ways, .int)] U ∧ va_D (fun _ => True) [(h0, .inr (12, fsMM mi mr)), ((mr 14), .inl (km_must, 25, .inl fm_must)), ((mr 15), .inl (km_least, 25, .inl fm_least)), ((mr 16), .inl (km_pin, 25, .inl fm_pin)), ((mr 17), .inl (km_ways, 6875, .inl fm_ways))])) (va_Qi (fun (r : Int32) (u : Unit) => gi r (-2147483648) 2147483647) (fun _ t => ∃ (z3 : Nat → Int32) (z4 : Nat → Int32), va_P (dC, dI) vwCl [(h0, .inr (12, fsMM mi mr)), ((mr 14), .inl (km_must, 25, .inl fm_must)), ((mr 15), .inl (km_least, 25, .inl fm_least)), ((mr 16), .inl (km_pin, 25, .inl z3)), ((mr 17), .inl (km_ways, 6875, .inl z4))] t.heap ∧ va_D (va_A [(h0, .inr (12, fsMM mi mr)), ((mr 14), .inl (km_must, 25, .inl fm_must)), ((mr 15), .inl (km_least, 25, .inl fm_least)), ((mr 16), .inl (km_pin, 25, .inl fm_pin)), ((mr 17), .inl (km_ways, 6875, .inl fm_ways))] sz) [(h0, .inr (12, fsMM mi mr)), ((mr 14), .inl (km_must, 25, .inl fm_must)), ((mr 15), .inl (km_least, 25, .inl fm_least)), ((mr 16), .inl (km_pin, 25, .inl z3)), ((mr 17), .inl (km_ways, 6875, .inl z4))]) (va_A [(h0, .inr (12, fsMM mi mr)), ((mr 14), .inl (km_must, 25, .inl fm_must)), ((mr 15), .inl (km_least, 25, .inl fm_least)), ((mr 16), .inl (km_pin, 25, .inl fm_pin)), ((mr 17), .inl (km_ways, 6875, .inl fm_ways))] sz)) 0 0 (va_A [(h0, .inr (12, fsMM mi mr)), ((mr 14), .inl (km_must, 25, .inl fm_must)), ((mr 15), .inl (km_least, 25, .inl fm_least)), ((mr 16), .inl (km_pin, 25, .inl fm_pin)), ((mr 17), .inl (km_ways, 6875, .inl fm_ways))] sz) := by
  refine Met.ofW (cc := cX12_fallsOn) (maxL := 5) (ret := (some .int)) (by decide) rfl ?_
  intro p e s m args below meth c s₁ B hml hv
  obtain ⟨rfl, hsz, hP, hK, hD0⟩ := hv
  have hx := B.exec
  have hb := B.bytes
  have hr := B.returns
  have hts := atoms_spec (ws := (.code yX12_fallsOn cX12_fallsOn 5 (some .int) :: wsGB)) B.pre
  have hown : s.vm.findClass RX12 = some m.cls := findClass_of_methodNamed B.named
  have hlocks := B.notSynchronized
  subst hsz
  have hD := hD0.self (sz := s.heap.size)
  generalize hAe : va_A [(h0, .inr (12, fsMM mi mr)), ((mr 14), .inl (km_must, 25, .inl fm_must)), ((mr 15), .inl (km_least, 25, .inl fm_least)), ((mr 16), .inl (km_pin, 25, .inl fm_pin)), ((mr 17), .inl (km_ways, 6875, .inl fm_ways))] s.heap.size = A at hD ⊢
  have hA : ∀ q : Nat, s.heap.size ≤ q → A q := fun q h => by rw [← hAe]; exact Or.inr h
  have hS : va_S A s.heap s.heap [] := va_S.rf
  have hl := lv_entry ([.ref h0, .int p1, .int p2, .int p3]) (n := 5) (Nat.le_of_ble_eq_true rfl)
  rw [lg_entry_eq]
  generalize (lg_sl ([.ref h0, .int p1, .int p2, .int p3]) ++ List.replicate (5 - (lg_sl ([.ref h0, .int p1, .int p2, .int p3])).length) Slot.unset).toArray = ls at hl ⊢
  have hl : lv_has ls 5 [(0, .ref h0), (1, .int p1), (2, .int p2), (3, .int p3)] := hl
  refine lv_iload_n hx hb dX12_fallsOn_0 rfl (lv_at hl 2 rfl) ?_
  refine lv_bipush (v := 30) hx hb dX12_fallsOn_1 (by decide) ?_
  refine lv_icmp_ge (tgt := 17) hx hb dX12_fallsOn_3 (by decide) (fun c_45 => ?_) (fun c_45 => ?_)
  · have g_46 : gi p2 30 2147483647 := gi_le_r c_45 (gi_c 30 30 (by decide)) (gi_any p2)
    refine lv_iload_n hx hb dX12_fallsOn_17 rfl (lv_at hl 3 rfl) ?_
    refine lv_bipush (v := 29) hx hb dX12_fallsOn_18 (by decide) ?_
    refine lv_isub hx hb dX12_fallsOn_20 ?_
    refine lv_topi (fun x_47 ex_47 => ?_)
    refine lv_istore (lv' := [(4, .int x_47), (0, .ref h0), (1, .int p1), (2, .int p2), (3, .int p3)]) hx hb dX12_fallsOn_21 hl (by decide) rfl (fun ls hl => ?_)
    refine lv_aload_n hx hb dX12_fallsOn_23 rfl (lv_at hl 1 rfl) ?_
    refine lv_iload_n hx hb dX12_fallsOn_24 rfl (lv_at hl 2 rfl) ?_
    refine lv_iload hx hb dX12_fallsOn_25 (lv_at hl 0 rfl) ?_
    refine lv_iload_n hx hb dX12_fallsOn_27 rfl (lv_at hl 2 rfl) ?_
    refine lv_iconst (v := 1) hx hb dX12_fallsOn_28 (by decide) ?_
    refine lv_iadd hx hb dX12_fallsOn_29 ?_
    refine lv_topi (fun x_48 ex_48 => ?_)
    have gx_48 : gi x_48 1 24 := gi_add ex_48 gp1 (gi_c 1 1 (by decide)) (by decide)
    refine lv_iload hx hb dX12_fallsOn_30 (lv_at hl 0 rfl) ?_
    refine lv_bipush (v := 30) hx hb dX12_fallsOn_32 (by decide) ?_
    refine lv_iadd hx hb dX12_fallsOn_34 ?_
    refine lv_topi (fun x_49 ex_49 => ?_)
    have hPc := hP.sub (ws' := [(h0, .inr (12, fsMM mi mr)), ((mr 14), .inl (km_must, 25, .inl fm_must)), ((mr 15), .inl (km_least, 25, .inl fm_least)), ((mr 16), .inl (km_pin, 25, .inl fm_pin)), ((mr 17), .inl (km_ways, 6875, .inl fm_ways))]) [0, 1, 2, 3, 4] rfl
    have hKc := hK.sub (tys' := [(km_must, .int), (km_least, .int), (km_pin, .int), (km_ways, .int)]) [0, 1, 2, 3] rfl
    have hDc := hD.sub (ws' := [(h0, .inr (12, fsMM mi mr)), ((mr 14), .inl (km_must, 25, .inl fm_must)), ((mr 15), .inl (km_least, 25, .inl fm_least)), ((mr 16), .inl (km_pin, 25, .inl fm_pin)), ((mr 17), .inl (km_ways, 6875, .inl fm_ways))]) [0, 1, 2, 3, 4] (by decide) rfl
    have hFc := va_free (wc := [(h0, .inr (12, fsMM mi mr)), ((mr 14), .inl (km_must, 25, .inl fm_must)), ((mr 15), .inl (km_least, 25, .inl fm_least)), ((mr 16), .inl (km_pin, 25, .inl fm_pin)), ((mr 17), .inl (km_ways, 6875, .inl fm_ways))]) hD hS hA [0, 1, 2, 3, 4] rfl
    refine va_calli (va_runV (As := [.int p1, .int x_47, .int x_48, .int x_49]) (rest := []) ⟨hx, hb, hml, hown, hts⟩ (sX12_countsWith l dC dI s.heap.size h0 mi mr km_must fm_must km_least fm_least km_pin fm_pin km_ways fm_ways p1 x_47 x_48 x_49 gmi_0 gmi_1 gmi_2 gmi_4 gmi_7 gmi_10 gmi_17 gmi_23 gmi_24 gmi_26 gmi_29 gmi_30 gmi_33 gmi_37 gmi_41 gmi_50 gmi_51 gmi_56 (gi_w gp1 (by decide)) (gi_w gx_48 (by decide))) (cwV 4 hts (gz_gV mGB_377 mGB_378 mGB_379 mGB_1 mGB_380 goodGB) rfl rfl rfl (by decide +kernel) ⟨Nat.le_of_ble_eq_true rfl, Nat.le_of_ble_eq_true rfl⟩) ⟨fun a U g mk q => by obtain ⟨q0, q1, qP, qK, qD⟩ := q; exact ⟨q0, q1, qP, va_K.moved (u := U) (U := U.calling g mk a) (Vm.Alike.refl U.vm) qK, qD⟩, va_recv hKc hPc (ci := 12) (q0 := 0) rfl rfl, fun U hU hW => ⟨rfl, by rw [hU], by rw [hU]; exact hPc, va_K.moved hW.alike hKc, hDc.weaken (fun _ _ _ _ => trivial)⟩⟩ rfl rfl hl.1 rfl (lv_room (Nat.le_of_ble_eq_true rfl)) dX12_fallsOn_35 ⟨Nat.zero_le _, Nat.zero_le _⟩) hS (fun q _ h => hFc q h) hFc (fun r_50 u t H1 locs ht hvm hw hB hz1 hk1 hS => ?_)
    obtain ⟨f_51, f_52, hP1, hD1⟩ := hB
    rw [ht] at hP1
    obtain ⟨hP, hD⟩ := va_join (wr := []) (w1 := [(h0, .inr (12, fsMM mi mr)), ((mr 14), .inl (km_must, 25, .inl fm_must)), ((mr 15), .inl (km_least, 25, .inl fm_least)), ((mr 16), .inl (km_pin, 25, .inl f_51)), ((mr 17), .inl (km_ways, 6875, .inl f_52))]) hP hD [0, 1, 2, 3, 4] [] rfl rfl (by decide) (by decide) hk1 hFc hP1 hD1
    have hP := hP.sub (ws' := [(h0, .inr (12, fsMM mi mr)), ((mr 14), .inl (km_must, 25, .inl fm_must)), ((mr 15), .inl (km_least, 25, .inl fm_least)), ((mr 16), .inl (km_pin, 25, .inl f_51)), ((mr 17), .inl (km_ways, 6875, .inl f_52))]) [0, 1, 2, 3, 4] rfl
    have hD := hD.sub (ws' := [(h0, .inr (12, fsMM mi mr)), ((mr 14), .inl (km_must, 25, .inl fm_must)), ((mr 15), .inl (km_least, 25, .inl fm_least)), ((mr 16), .inl (km_pin, 25, .inl f_51)), ((mr 17), .inl (km_ways, 6875, .inl f_52))]) [0, 1, 2, 3, 4] (by decide) rfl
    generalize H1 = H at hP hS ⊢
    refine lv_aload_n hx hb dX12_fallsOn_38 rfl (lv_at hl 1 rfl) ?_
    refine lv_iload_n hx hb dX12_fallsOn_39 rfl (lv_at hl 2 rfl) ?_
    refine lv_iload hx hb dX12_fallsOn_40 (lv_at hl 0 rfl) ?_
    refine lv_iconst (v := 1) hx hb dX12_fallsOn_42 (by decide) ?_
    refine lv_iadd hx hb dX12_fallsOn_43 ?_
    refine lv_topi (fun x_53 ex_53 => ?_)
    refine lv_iload_n hx hb dX12_fallsOn_44 rfl (lv_at hl 2 rfl) ?_
    refine lv_iconst (v := 1) hx hb dX12_fallsOn_45 (by decide) ?_
    refine lv_iadd hx hb dX12_fallsOn_46 ?_
    refine lv_topi (fun x_54 ex_54 => ?_)
    have gx_54 : gi x_54 1 24 := gi_add ex_54 gp1 (gi_c 1 1 (by decide)) (by decide)
    refine lv_iload hx hb dX12_fallsOn_47 (lv_at hl 0 rfl) ?_
    refine lv_iconst (v := 1) hx hb dX12_fallsOn_49 (by decide) ?_
    refine lv_iadd hx hb dX12_fallsOn_50 ?_
    refine lv_topi (fun x_55 ex_55 => ?_)
    refine lv_bipush (v := 29) hx hb dX12_fallsOn_51 (by decide) ?_
    refine lv_iadd hx hb dX12_fallsOn_53 ?_
    refine lv_topi (fun x_56 ex_56 => ?_)
    have hPc := hP.sub (ws' := [(h0, .inr (12, fsMM mi mr)), ((mr 14), .inl (km_must, 25, .inl fm_must)), ((mr 15), .inl (km_least, 25, .inl fm_least)), ((mr 16), .inl (km_pin, 25, .inl f_51)), ((mr 17), .inl (km_ways, 6875, .inl f_52))]) [0, 1, 2, 3, 4] rfl
    have hKc := hK.sub (tys' := [(km_must, .int), (km_least, .int), (km_pin, .int), (km_ways, .int)]) [0, 1, 2, 3] rfl
    have hDc := hD.sub (ws' := [(h0, .inr (12, fsMM mi mr)), ((mr 14), .inl (km_must, 25, .inl fm_must)), ((mr 15), .inl (km_least, 25, .inl fm_least)), ((mr 16), .inl (km_pin, 25, .inl f_51)), ((mr 17), .inl (km_ways, 6875, .inl f_52))]) [0, 1, 2, 3, 4] (by decide) rfl
    have hFc := va_free (wc := [(h0, .inr (12, fsMM mi mr)), ((mr 14), .inl (km_must, 25, .inl fm_must)), ((mr 15), .inl (km_least, 25, .inl fm_least)), ((mr 16), .inl (km_pin, 25, .inl f_51)), ((mr 17), .inl (km_ways, 6875, .inl f_52))]) hD hS hA [0, 1, 2, 3, 4] rfl
    refine va_calli (va_runV (As := [.int p1, .int x_53, .int x_54, .int x_56]) (rest := [.int r_50]) ⟨hx, hb, hml, hown, hts⟩ (sX12_countsWith l dC dI H.size h0 mi mr km_must fm_must km_least fm_least km_pin f_51 km_ways f_52 p1 x_53 x_54 x_56 gmi_0 gmi_1 gmi_2 gmi_4 gmi_7 gmi_10 gmi_17 gmi_23 gmi_24 gmi_26 gmi_29 gmi_30 gmi_33 gmi_37 gmi_41 gmi_50 gmi_51 gmi_56 (gi_w gp1 (by decide)) (gi_w gx_54 (by decide))) (cwV 4 hts (gz_gV mGB_377 mGB_378 mGB_379 mGB_1 mGB_380 goodGB) rfl rfl rfl (by decide +kernel) ⟨Nat.le_of_ble_eq_true rfl, Nat.le_of_ble_eq_true rfl⟩) ⟨fun a U g mk q => by obtain ⟨q0, q1, qP, qK, qD⟩ := q; exact ⟨q0, q1, qP, va_K.moved (u := U) (U := U.calling g mk a) (Vm.Alike.refl U.vm) qK, qD⟩, va_recv hKc hPc (ci := 12) (q0 := 0) rfl rfl, fun U hU hW => ⟨rfl, by rw [hU], by rw [hU]; exact hPc, va_K.moved hW.alike hKc, hDc.weaken (fun _ _ _ _ => trivial)⟩⟩ rfl rfl hl.1 rfl (lv_room (Nat.le_of_ble_eq_true rfl)) dX12_fallsOn_54 ⟨Nat.zero_le _, Nat.zero_le _⟩) hS (fun q _ h => hFc q h) hFc (fun r_57 u t H1 locs ht hvm hw hB hz1 hk1 hS => ?_)
    obtain ⟨f_58, f_59, hP1, hD1⟩ := hB
    rw [ht] at hP1
    obtain ⟨hP, hD⟩ := va_join (wr := []) (w1 := [(h0, .inr (12, fsMM mi mr)), ((mr 14), .inl (km_must, 25, .inl fm_must)), ((mr 15), .inl (km_least, 25, .inl fm_least)), ((mr 16), .inl (km_pin, 25, .inl f_58)), ((mr 17), .inl (km_ways, 6875, .inl f_59))]) hP hD [0, 1, 2, 3, 4] [] rfl rfl (by decide) (by decide) hk1 hFc hP1 hD1
    have hP := hP.sub (ws' := [(h0, .inr (12, fsMM mi mr)), ((mr 14), .inl (km_must, 25, .inl fm_must)), ((mr 15), .inl (km_least, 25, .inl fm_least)), ((mr 16), .inl (km_pin, 25, .inl f_58)), ((mr 17), .inl (km_ways, 6875, .inl f_59))]) [0, 1, 2, 3, 4] rfl
    have hD := hD.sub (ws' := [(h0, .inr (12, fsMM mi mr)), ((mr 14), .inl (km_must, 25, .inl fm_must)), ((mr 15), .inl (km_least, 25, .inl fm_least)), ((mr 16), .inl (km_pin, 25, .inl f_58)), ((mr 17), .inl (km_ways, 6875, .inl f_59))]) [0, 1, 2, 3, 4] (by decide) rfl
    generalize H1 = H at hP hS ⊢
    refine lv_iadd hx hb dX12_fallsOn_57 ?_
    refine lv_topi (fun x_60 ex_60 => ?_)
    exact W.iret (v := x_60) hx hb hr (fun t ht hW => ⟨⟨x_60, (), rfl, (gi_any x_60), f_58, f_59, by rw [ht]; exact hP, hD⟩, hS.F ht⟩) hS.2.2 dX12_fallsOn_58
  · have g_61 : gi p2 (-2147483648) 29 := gi_lt_l (Int32.not_le.mp c_45) (gi_any p2) (gi_c 30 30 (by decide)) (by decide)
    refine lv_aload_n hx hb dX12_fallsOn_6 rfl (lv_at hl 0 rfl) ?_
    refine lv_iload_n hx hb dX12_fallsOn_7 rfl (lv_at hl 1 rfl) ?_
    refine lv_iload_n hx hb dX12_fallsOn_8 rfl (lv_at hl 3 rfl) ?_
    refine lv_iload_n hx hb dX12_fallsOn_9 rfl (lv_at hl 2 rfl) ?_
    refine lv_isub hx hb dX12_fallsOn_10 ?_
    refine lv_topi (fun x_62 ex_62 => ?_)
    refine lv_iconst (v := 1) hx hb dX12_fallsOn_11 (by decide) ?_
    refine lv_iadd hx hb dX12_fallsOn_12 ?_
    refine lv_topi (fun x_63 ex_63 => ?_)
    have hPc := hP.sub (ws' := [(h0, .inr (12, fsMM mi mr)), ((mr 14), .inl (km_must, 25, .inl fm_must)), ((mr 15), .inl (km_least, 25, .inl fm_least)), ((mr 16), .inl (km_pin, 25, .inl fm_pin)), ((mr 17), .inl (km_ways, 6875, .inl fm_ways))]) [0, 1, 2, 3, 4] rfl
    have hKc := hK.sub (tys' := [(km_must, .int), (km_least, .int), (km_pin, .int), (km_ways, .int)]) [0, 1, 2, 3] rfl
    have hDc := hD.sub (ws' := [(h0, .inr (12, fsMM mi mr)), ((mr 14), .inl (km_must, 25, .inl fm_must)), ((mr 15), .inl (km_least, 25, .inl fm_least)), ((mr 16), .inl (km_pin, 25, .inl fm_pin)), ((mr 17), .inl (km_ways, 6875, .inl fm_ways))]) [0, 1, 2, 3, 4] (by decide) rfl
    have hFc := va_free (wc := [(h0, .inr (12, fsMM mi mr)), ((mr 14), .inl (km_must, 25, .inl fm_must)), ((mr 15), .inl (km_least, 25, .inl fm_least)), ((mr 16), .inl (km_pin, 25, .inl fm_pin)), ((mr 17), .inl (km_ways, 6875, .inl fm_ways))]) hD hS hA [0, 1, 2, 3, 4] rfl
    refine va_calli (va_runV (As := [.int p1, .int x_63]) (rest := []) ⟨hx, hb, hml, hown, hts⟩ (sX12_beginsOn l dC dI s.heap.size h0 mi mr km_must fm_must km_least fm_least km_pin fm_pin km_ways fm_ways p1 x_63 gmi_0 gmi_1 gmi_2 gmi_4 gmi_7 gmi_10 gmi_17 gmi_23 gmi_24 gmi_26 gmi_29 gmi_30 gmi_33 gmi_37 gmi_41 gmi_50 gmi_51 gmi_56 (gi_w gp1 (by decide))) (cwV 2 hts (gz_gV mGB_373 mGB_374 mGB_375 mGB_1 mGB_376 goodGB) rfl rfl rfl (by decide +kernel) ⟨Nat.le_of_ble_eq_true rfl, Nat.le_of_ble_eq_true rfl⟩) ⟨fun a U g mk q => by obtain ⟨q0, q1, qP, qK, qD⟩ := q; exact ⟨q0, q1, qP, va_K.moved (u := U) (U := U.calling g mk a) (Vm.Alike.refl U.vm) qK, qD⟩, va_recv hKc hPc (ci := 12) (q0 := 0) rfl rfl, fun U hU hW => ⟨rfl, by rw [hU], by rw [hU]; exact hPc, va_K.moved hW.alike hKc, hDc.weaken (fun _ _ _ _ => trivial)⟩⟩ rfl rfl hl.1 rfl (lv_room (Nat.le_of_ble_eq_true rfl)) dX12_fallsOn_13 ⟨Nat.zero_le _, Nat.zero_le _⟩) hS (fun q _ h => hFc q h) hFc (fun r_64 u t H1 locs ht hvm hw hB hz1 hk1 hS => ?_)
    obtain ⟨f_65, f_66, hP1, hD1⟩ := hB
    rw [ht] at hP1
    obtain ⟨hP, hD⟩ := va_join (wr := []) (w1 := [(h0, .inr (12, fsMM mi mr)), ((mr 14), .inl (km_must, 25, .inl fm_must)), ((mr 15), .inl (km_least, 25, .inl fm_least)), ((mr 16), .inl (km_pin, 25, .inl f_65)), ((mr 17), .inl (km_ways, 6875, .inl f_66))]) hP hD [0, 1, 2, 3, 4] [] rfl rfl (by decide) (by decide) hk1 hFc hP1 hD1
    have hP := hP.sub (ws' := [(h0, .inr (12, fsMM mi mr)), ((mr 14), .inl (km_must, 25, .inl fm_must)), ((mr 15), .inl (km_least, 25, .inl fm_least)), ((mr 16), .inl (km_pin, 25, .inl f_65)), ((mr 17), .inl (km_ways, 6875, .inl f_66))]) [0, 1, 2, 3, 4] rfl
    have hD := hD.sub (ws' := [(h0, .inr (12, fsMM mi mr)), ((mr 14), .inl (km_must, 25, .inl fm_must)), ((mr 15), .inl (km_least, 25, .inl fm_least)), ((mr 16), .inl (km_pin, 25, .inl f_65)), ((mr 17), .inl (km_ways, 6875, .inl f_66))]) [0, 1, 2, 3, 4] (by decide) rfl
    generalize H1 = H at hP hS ⊢
    exact W.iret (v := r_64) hx hb hr (fun t ht hW => ⟨⟨r_64, (), rfl, (gi_any r_64), f_65, f_66, by rw [ht]; exact hP, hD⟩, hS.F ht⟩) hS.2.2 dX12_fallsOn_16
