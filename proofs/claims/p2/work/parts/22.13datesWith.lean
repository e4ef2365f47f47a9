theorem dX12_datesWith_0 : decode cX12_datesWith 0 = .ok (.iload_n 3, 1) := by decide +kernel
theorem dX12_datesWith_1 : decode cX12_datesWith 1 = .ok (.iload_n 2, 1) := by decide +kernel
theorem dX12_datesWith_2 : decode cX12_datesWith 2 = .ok (.isub, 1) := by decide +kernel
theorem dX12_datesWith_3 : decode cX12_datesWith 3 = .ok (.iconst 1, 1) := by decide +kernel
theorem dX12_datesWith_4 : decode cX12_datesWith 4 = .ok (.iadd, 1) := by decide +kernel
theorem dX12_datesWith_5 : decode cX12_datesWith 5 = .ok (.istore 4, 2) := by decide +kernel
theorem dX12_datesWith_7 : decode cX12_datesWith 7 = .ok (.iload_n 2, 1) := by decide +kernel
theorem dX12_datesWith_8 : decode cX12_datesWith 8 = .ok (.bipush 30, 2) := by decide +kernel
theorem dX12_datesWith_10 : decode cX12_datesWith 10 = .ok (.if_icmp .ge 13, 3) := by decide +kernel
theorem dX12_datesWith_13 : decode cX12_datesWith 13 = .ok (.aload_n 0, 1) := by decide +kernel
theorem dX12_datesWith_14 : decode cX12_datesWith 14 = .ok (.iload_n 1, 1) := by decide +kernel
theorem dX12_datesWith_15 : decode cX12_datesWith 15 = .ok (.iload 4, 2) := by decide +kernel
theorem dX12_datesWith_17 : decode cX12_datesWith 17 = .ok (.invokevirtual 388, 3) := by decide +kernel
theorem dX12_datesWith_20 : decode cX12_datesWith 20 = .ok (.goto 18, 3) := by decide +kernel
theorem dX12_datesWith_23 : decode cX12_datesWith 23 = .ok (.aload_n 0, 1) := by decide +kernel
theorem dX12_datesWith_24 : decode cX12_datesWith 24 = .ok (.iload_n 1, 1) := by decide +kernel
theorem dX12_datesWith_25 : decode cX12_datesWith 25 = .ok (.iload 4, 2) := by decide +kernel
theorem dX12_datesWith_27 : decode cX12_datesWith 27 = .ok (.iload_n 1, 1) := by decide +kernel
theorem dX12_datesWith_28 : decode cX12_datesWith 28 = .ok (.iconst 1, 1) := by decide +kernel
theorem dX12_datesWith_29 : decode cX12_datesWith 29 = .ok (.iadd, 1) := by decide +kernel
theorem dX12_datesWith_30 : decode cX12_datesWith 30 = .ok (.iload 4, 2) := by decide +kernel
theorem dX12_datesWith_32 : decode cX12_datesWith 32 = .ok (.bipush 30, 2) := by decide +kernel
theorem dX12_datesWith_34 : decode cX12_datesWith 34 = .ok (.iadd, 1) := by decide +kernel
theorem dX12_datesWith_35 : decode cX12_datesWith 35 = .ok (.invokevirtual 385, 3) := by decide +kernel
theorem dX12_datesWith_38 : decode cX12_datesWith 38 = .ok (.ireturn, 1) := by decide +kernel
set_option maxHeartbeats 4000000 in
set_option maxRecDepth 100000 in
theorem sX12_datesWith (l : Launch) (dC : Nat → ClassId) (dI : Nat → Nat → Nat) (sz : Nat) (h0 : Nat) (mi : Nat → Int32) (mr : Nat → Nat) (km_must : ClassId) (fm_must : Nat → Int32) (km_least : ClassId) (fm_least : Nat → Int32) (km_pin : ClassId) (fm_pin : Nat → Int32) (km_ways : ClassId) (fm_ways : Nat → Int32) (p1 : Int32) (p2 : Int32) (p3 : Int32) (gmi_0 : gi (mi 0) 0 24) (gmi_1 : gi (mi 1) 0 5) (gmi_2 : gi (mi 2) 0 5) (gmi_4 : gi (mi 4) 0 1) (gmi_7 : gi (mi 7) 0 6) (gmi_10 : gi (mi 10) 0 24) (gmi_17 : gi (mi 17) 0 8) (gmi_23 : gi (mi 23) 0 300) (gmi_24 : gi (mi 24) 0 1) (gmi_26 : gi (mi 26) 0 1600) (gmi_29 : gi (mi 29) 0 1600) (gmi_30 : gi (mi 30) 0 1600) (gmi_33 : gi (mi 33) 0 1) (gmi_37 : gi (mi 37) 0 1) (gmi_41 : gi (mi 41) 0 24) (gmi_50 : gi (mi 50) 0 1) (gmi_51 : gi (mi 51) 0 1) (gmi_56 : gi (mi 56) 0 80) (gp1 : gi p1 0 23) : Met l yX12_datesWith (.code yX12_datesWith cX12_datesWith 5 (some .int) :: wsGB) ({ frames := 5, cells := 0, slots := 0, locals := 123 }) (va_Pc [.ref h0, .int p1, .int p2, .int p3] (fun U => U.heap.size = sz ∧ va_P (dC, dI) vwCl [(h0, .inr (12, fsMM mi mr)), ((mr 14), .inl (km_must, 25, .inl fm_must)), ((mr 15), .inl (km_least, 25, .inl fm_least)), ((mr 16), .inl (km_pin, 25, .inl fm_pin)), ((mr 17), .inl (km_ways, 6875, .inl fm_ways))] U.heap ∧ va_K (dC, dI) vwCl [(km_must, .int), (km_least, .int), (km_pin, .int), (km_ways, .int)] U ∧ va_D (fun _ => True) [(h0, .inr (12, fsMM mi mr)), ((mr 14), .inl (km_must, 25, .inl fm_must)), ((mr 15), .inl (km_least, 25, .inl fm_least)), ((mr 16), .inl (km_pin, 25, .inl fm_pin)), ((mr 17), .inl (km_ways, 6875, .inl fm_ways))])) (va_Qi (fun (r : Int32) (u : Unit) => gi r (-2147483648) 2147483647) (fun _ t => ∃ (z3 : Nat → Int32) (z4 : Nat → Int32), va_P (dC, dI) vwCl [(h0, .inr (12, fsMM mi mr)), ((mr 14), .inl (km_must, 25, .inl fm_must)), ((mr 15), .inl (km_least, 25, .inl fm_least)), ((mr 16), .inl (km_pin, 25, .inl z3)), ((mr 17), .inl (km_ways, 6875, .inl z4))] t.heap ∧ va_D (va_A [(h0, .inr (12, fsMM mi mr)), ((mr 14), .inl (km_must, 25, .inl fm_must)), ((mr 15), .inl (km_least, 25, .inl fm_least)), ((mr 16), .inl (km_pin, 25, .inl fm_pin)), ((mr 17), .inl (km_ways, 6875, .inl fm_ways))] sz) [(h0, .inr (12, fsMM mi mr)), ((mr 14), .inl (km_must, 25, .inl fm_must)), ((mr 15), .inl (km_least, 25, .inl fm_least)), ((mr 16), .inl (km_pin, 25, .inl z3)), ((mr 17), .inl (km_ways, 6875, .inl z4))]) (va_A [(h0, .inr (12, fsMM mi mr)), ((mr 14), .inl (km_must, 25, .inl fm_must)), ((mr 15), .inl (km_least, 25, .inl fm_least)), ((mr 16), .inl (km_pin, 25, .inl fm_pin)), ((mr 17), .inl (km_ways, 6875, .inl fm_ways))] sz)) 0 0 (va_A [(h0, .inr (12, fsMM mi mr)), ((mr 14), .inl (km_must, 25, .inl fm_must)), ((mr 15), .inl (km_least, 25, .inl fm_least)), ((mr 16), .inl (km_pin, 25, .inl fm_pin)), ((mr 17), .inl (km_ways, 6875, .inl fm_ways))] sz) := by
  refine Met.ofW (cc := cX12_datesWith) (maxL := 5) (ret := (some .int)) (by decide) rfl ?_
  intro p e s m args below meth c s₁ B hml hv
  obtain ⟨rfl, hsz, hP, hK, hD0⟩ := hv
  have hx := B.exec
  have hb := B.bytes
  have hr := B.returns
  have hts := atoms_spec (ws := (.code yX12_datesWith cX12_datesWith 5 (some .int) :: wsGB)) B.pre
  have hown : s.vm.findClass RX12 = some m.cls := findClass_of_methodNamed B.named
  have hlocks := B.notSynchronized
  subst hsz
  have hD := hD0.self (sz := s.heap.size)
  generalize hAe : va_A [(h0, .inr (12, fsMM mi mr)), ((mr 14), .inl (km_must, 25, .inl fm_must)), ((mr 15), .inl (km_least, 25, .inl fm_least)), ((mr 16), .inl (km_pin, 25, .inl fm_pin)), ((mr 17), .inl (km_ways, 6875, .inl fm_ways))] s.heap.size = A at hD ⊢
  have hA : ∀ q : Nat, s.heap.size ≤ q → A q := fun q h => by rw [← hAe]; exact Or.inr h
  have hS : va_S A s.heap s.heap [] := va_S.rf
  have hl := lv_entry ([.ref h0, .int p1, .int p2, .int p3]) (n := 5) (Nat.le_of_ble_eq_true rfl)
  rw [lg_entry_eq]
  generalize (lg_sl ([.ref h0, .int p1, .int p2, .int p3]) ++ List.replicate (5 - (lg_sl ([.ref h0, .int p1, .int p2, .int p3])).length) Slot.unset).toArray = ls at hl ⊢
  have hl : lv_has ls 5 [(0, .ref h0), (1, .int p1), (2, .int p2), (3, .int p3)] := hl
  refine lv_iload_n hx hb dX12_datesWith_0 rfl (lv_at hl 3 rfl) ?_
  refine lv_iload_n hx hb dX12_datesWith_1 rfl (lv_at hl 2 rfl) ?_
  refine lv_isub hx hb dX12_datesWith_2 ?_
  refine lv_topi (fun x_27 ex_27 => ?_)
  refine lv_iconst (v := 1) hx hb dX12_datesWith_3 (by decide) ?_
  refine lv_iadd hx hb dX12_datesWith_4 ?_
  refine lv_topi (fun x_28 ex_28 => ?_)
  refine lv_istore (lv' := [(4, .int x_28), (0, .ref h0), (1, .int p1), (2, .int p2), (3, .int p3)]) hx hb dX12_datesWith_5 hl (by decide) rfl (fun ls hl => ?_)
  refine lv_iload_n hx hb dX12_datesWith_7 rfl (lv_at hl 3 rfl) ?_
  refine lv_bipush (v := 30) hx hb dX12_datesWith_8 (by decide) ?_
  refine lv_icmp_ge (tgt := 23) hx hb dX12_datesWith_10 (by decide) (fun c_29 => ?_) (fun c_29 => ?_)
  · have g_30 : gi p2 30 2147483647 := gi_le_r c_29 (gi_c 30 30 (by decide)) (gi_any p2)
    refine lv_aload_n hx hb dX12_datesWith_23 rfl (lv_at hl 1 rfl) ?_
    refine lv_iload_n hx hb dX12_datesWith_24 rfl (lv_at hl 2 rfl) ?_
    refine lv_iload hx hb dX12_datesWith_25 (lv_at hl 0 rfl) ?_
    refine lv_iload_n hx hb dX12_datesWith_27 rfl (lv_at hl 2 rfl) ?_
    refine lv_iconst (v := 1) hx hb dX12_datesWith_28 (by decide) ?_
    refine lv_iadd hx hb dX12_datesWith_29 ?_
    refine lv_topi (fun x_31 ex_31 => ?_)
    have gx_31 : gi x_31 1 24 := gi_add ex_31 gp1 (gi_c 1 1 (by decide)) (by decide)
    refine lv_iload hx hb dX12_datesWith_30 (lv_at hl 0 rfl) ?_
    refine lv_bipush (v := 30) hx hb dX12_datesWith_32 (by decide) ?_
    refine lv_iadd hx hb dX12_datesWith_34 ?_
    refine lv_topi (fun x_32 ex_32 => ?_)
    have hPc := hP.sub (ws' := [(h0, .inr (12, fsMM mi mr)), ((mr 14), .inl (km_must, 25, .inl fm_must)), ((mr 15), .inl (km_least, 25, .inl fm_least)), ((mr 16), .inl (km_pin, 25, .inl fm_pin)), ((mr 17), .inl (km_ways, 6875, .inl fm_ways))]) [0, 1, 2, 3, 4] rfl
    have hKc := hK.sub (tys' := [(km_must, .int), (km_least, .int), (km_pin, .int), (km_ways, .int)]) [0, 1, 2, 3] rfl
    have hDc := hD.sub (ws' := [(h0, .inr (12, fsMM mi mr)), ((mr 14), .inl (km_must, 25, .inl fm_must)), ((mr 15), .inl (km_least, 25, .inl fm_least)), ((mr 16), .inl (km_pin, 25, .inl fm_pin)), ((mr 17), .inl (km_ways, 6875, .inl fm_ways))]) [0, 1, 2, 3, 4] (by decide) rfl
    have hFc := va_free (wc := [(h0, .inr (12, fsMM mi mr)), ((mr 14), .inl (km_must, 25, .inl fm_must)), ((mr 15), .inl (km_least, 25, .inl fm_least)), ((mr 16), .inl (km_pin, 25, .inl fm_pin)), ((mr 17), .inl (km_ways, 6875, .inl fm_ways))]) hD hS hA [0, 1, 2, 3, 4] rfl
    refine va_calli (va_runV (As := [.int p1, .int x_28, .int x_31, .int x_32]) (rest := []) ⟨hx, hb, hml, hown, hts⟩ (sX12_countsWith l dC dI s.heap.size h0 mi mr km_must fm_must km_least fm_least km_pin fm_pin km_ways fm_ways p1 x_28 x_31 x_32 gmi_0 gmi_1 gmi_2 gmi_4 gmi_7 gmi_10 gmi_17 gmi_23 gmi_24 gmi_26 gmi_29 gmi_30 gmi_33 gmi_37 gmi_41 gmi_50 gmi_51 gmi_56 (gi_w gp1 (by decide)) (gi_w gx_31 (by decide))) (cwV 4 hts (gz_gV mGB_377 mGB_378 mGB_379 mGB_1 mGB_380 goodGB) rfl rfl rfl (by decide +kernel) ⟨Nat.le_of_ble_eq_true rfl, Nat.le_of_ble_eq_true rfl⟩) ⟨fun a U g mk q => by obtain ⟨q0, q1, qP, qK, qD⟩ := q; exact ⟨q0, q1, qP, va_K.moved (u := U) (U := U.calling g mk a) (Vm.Alike.refl U.vm) qK, qD⟩, va_recv hKc hPc (ci := 12) (q0 := 0) rfl rfl, fun U hU hW => ⟨rfl, by rw [hU], by rw [hU]; exact hPc, va_K.moved hW.alike hKc, hDc.weaken (fun _ _ _ _ => trivial)⟩⟩ rfl rfl hl.1 rfl (lv_room (Nat.le_of_ble_eq_true rfl)) dX12_datesWith_35 ⟨Nat.zero_le _, Nat.zero_le _⟩) hS (fun q _ h => hFc q h) hFc (fun r_33 u t H1 locs ht hvm hw hB hz1 hk1 hS => ?_)
    obtain ⟨f_34, f_35, hP1, hD1⟩ := hB
    rw [ht] at hP1
    obtain ⟨hP, hD⟩ := va_join (wr := []) (w1 := [(h0, .inr (12, fsMM mi mr)), ((mr 14), .inl (km_must, 25, .inl fm_must)), ((mr 15), .inl (km_least, 25, .inl fm_least)), ((mr 16), .inl (km_pin, 25, .inl f_34)), ((mr 17), .inl (km_ways, 6875, .inl f_35))]) hP hD [0, 1, 2, 3, 4] [] rfl rfl (by decide) (by decide) hk1 hFc hP1 hD1
    have hP := hP.sub (ws' := [(h0, .inr (12, fsMM mi mr)), ((mr 14), .inl (km_must, 25, .inl fm_must)), ((mr 15), .inl (km_least, 25, .inl fm_least)), ((mr 16), .inl (km_pin, 25, .inl f_34)), ((mr 17), .inl (km_ways, 6875, .inl f_35))]) [0, 1, 2, 3, 4] rfl
    have hD := hD.sub (ws' := [(h0, .inr (12, fsMM mi mr)), ((mr 14), .inl (km_must, 25, .inl fm_must)), ((mr 15), .inl (km_least, 25, .inl fm_least)), ((mr 16), .inl (km_pin, 25, .inl f_34)), ((mr 17), .inl (km_ways, 6875, .inl f_35))]) [0, 1, 2, 3, 4] (by decide) rfl
    generalize H1 = H at hP hS ⊢
    exact W.iret (v := r_33) hx hb hr (fun t ht hW => ⟨⟨r_33, (), rfl, (gi_any r_33), f_34, f_35, by rw [ht]; exact hP, hD⟩, hS.F ht⟩) hS.2.2 dX12_datesWith_38
  · have g_36 : gi p2 (-2147483648) 29 := gi_lt_l (Int32.not_le.mp c_29) (gi_any p2) (gi_c 30 30 (by decide)) (by decide)
    refine lv_aload_n hx hb dX12_datesWith_13 rfl (lv_at hl 1 rfl) ?_
    refine lv_iload_n hx hb dX12_datesWith_14 rfl (lv_at hl 2 rfl) ?_
    refine lv_iload hx hb dX12_datesWith_15 (lv_at hl 0 rfl) ?_
    have hPc := hP.sub (ws' := [(h0, .inr (12, fsMM mi mr)), ((mr 14), .inl (km_must, 25, .inl fm_must)), ((mr 15), .inl (km_least, 25, .inl fm_least)), ((mr 16), .inl (km_pin, 25, .inl fm_pin)), ((mr 17), .inl (km_ways, 6875, .inl fm_ways))]) [0, 1, 2, 3, 4] rfl
    have hKc := hK.sub (tys' := [(km_must, .int), (km_least, .int), (km_pin, .int), (km_ways, .int)]) [0, 1, 2, 3] rfl
    have hDc := hD.sub (ws' := [(h0, .inr (12, fsMM mi mr)), ((mr 14), .inl (km_must, 25, .inl fm_must)), ((mr 15), .inl (km_least, 25, .inl fm_least)), ((mr 16), .inl (km_pin, 25, .inl fm_pin)), ((mr 17), .inl (km_ways, 6875, .inl fm_ways))]) [0, 1, 2, 3, 4] (by decide) rfl
    have hFc := va_free (wc := [(h0, .inr (12, fsMM mi mr)), ((mr 14), .inl (km_must, 25, .inl fm_must)), ((mr 15), .inl (km_least, 25, .inl fm_least)), ((mr 16), .inl (km_pin, 25, .inl fm_pin)), ((mr 17), .inl (km_ways, 6875, .inl fm_ways))]) hD hS hA [0, 1, 2, 3, 4] rfl
    refine va_calli (va_runV (As := [.int p1, .int x_28]) (rest := []) ⟨hx, hb, hml, hown, hts⟩ (sX12_beginsOn l dC dI s.heap.size h0 mi mr km_must fm_must km_least fm_least km_pin fm_pin km_ways fm_ways p1 x_28 gmi_0 gmi_1 gmi_2 gmi_4 gmi_7 gmi_10 gmi_17 gmi_23 gmi_24 gmi_26 gmi_29 gmi_30 gmi_33 gmi_37 gmi_41 gmi_50 gmi_51 gmi_56 (gi_w gp1 (by decide))) (cwV 2 hts (gz_gV mGB_373 mGB_374 mGB_375 mGB_1 mGB_376 goodGB) rfl rfl rfl (by decide +kernel) ⟨Nat.le_of_ble_eq_true rfl, Nat.le_of_ble_eq_true rfl⟩) ⟨fun a U g mk q => by obtain ⟨q0, q1, qP, qK, qD⟩ := q; exact ⟨q0, q1, qP, va_K.moved (u := U) (U := U.calling g mk a) (Vm.Alike.refl U.vm) qK, qD⟩, va_recv hKc hPc (ci := 12) (q0 := 0) rfl rfl, fun U hU hW => ⟨rfl, by rw [hU], by rw [hU]; exact hPc, va_K.moved hW.alike hKc, hDc.weaken (fun _ _ _ _ => trivial)⟩⟩ rfl rfl hl.1 rfl (lv_room (Nat.le_of_ble_eq_true rfl)) dX12_datesWith_17 ⟨Nat.zero_le _, Nat.zero_le _⟩) hS (fun q _ h => hFc q h) hFc (fun r_37 u t H1 locs ht hvm hw hB hz1 hk1 hS => ?_)
    obtain ⟨f_38, f_39, hP1, hD1⟩ := hB
    rw [ht] at hP1
    obtain ⟨hP, hD⟩ := va_join (wr := []) (w1 := [(h0, .inr (12, fsMM mi mr)), ((mr 14), .inl (km_must, 25, .inl fm_must)), ((mr 15), .inl (km_least, 25, .inl fm_least)), ((mr 16), .inl (km_pin, 25, .inl f_38)), ((mr 17), .inl (km_ways, 6875, .inl f_39))]) hP hD [0, 1, 2, 3, 4] [] rfl rfl (by decide) (by decide) hk1 hFc hP1 hD1
    have hP := hP.sub (ws' := [(h0, .inr (12, fsMM mi mr)), ((mr 14), .inl (km_must, 25, .inl fm_must)), ((mr 15), .inl (km_least, 25, .inl fm_least)), ((mr 16), .inl (km_pin, 25, .inl f_38)), ((mr 17), .inl (km_ways, 6875, .inl f_39))]) [0, 1, 2, 3, 4] rfl
    have hD := hD.sub (ws' := [(h0, .inr (12, fsMM mi mr)), ((mr 14), .inl (km_must, 25, .inl fm_must)), ((mr 15), .inl (km_least, 25, .inl fm_least)), ((mr 16), .inl (km_pin, 25, .inl f_38)), ((mr 17), .inl (km_ways, 6875, .inl f_39))]) [0, 1, 2, 3, 4] (by decide) rfl
    generalize H1 = H at hP hS ⊢
    refine lv_goto (tgt := 38) hx hb dX12_datesWith_20 (by decide) ?_
    exact W.iret (v := r_37) hx hb hr (fun t ht hW => ⟨⟨r_37, (), rfl, (gi_any r_37), f_38, f_39, by rw [ht]; exact hP, hD⟩, hS.F ht⟩) hS.2.2 dX12_datesWith_38
