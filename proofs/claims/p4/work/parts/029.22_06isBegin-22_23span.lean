theorem dX12_isBegin_0 : decode cX12_isBegin 0 = .ok (.iload_n 1, 1) := by decide +kernel
theorem dX12_isBegin_1 : decode cX12_isBegin 1 = .ok (.i2l, 1) := by decide +kernel
theorem dX12_isBegin_2 : decode cX12_isBegin 2 = .ok (.lconst 0, 1) := by decide +kernel
theorem dX12_isBegin_3 : decode cX12_isBegin 3 = .ok (.aload_n 0, 1) := by decide +kernel
theorem dX12_isBegin_4 : decode cX12_isBegin 4 = .ok (.getfield 117, 3) := by decide +kernel
theorem dX12_isBegin_7 : decode cX12_isBegin 7 = .ok (.i2l, 1) := by decide +kernel
theorem dX12_isBegin_8 : decode cX12_isBegin 8 = .ok (.invokestatic 102, 3) := by decide +kernel
theorem dX12_isBegin_11 : decode cX12_isBegin 11 = .ok (.ireturn, 1) := by decide +kernel
set_option maxHeartbeats 4000000 in
set_option maxRecDepth 100000 in
theorem sX12_isBegin (l : Launch) (dC : Nat → ClassId) (dI : Nat → Nat → Nat) (h0 : Nat) (mi : Nat → Int32) (mr : Nat → Nat) (p1 : Int32) (gmi_0 : gi (mi 0) 0 24) (gmi_1 : gi (mi 1) 0 5) (gmi_2 : gi (mi 2) 0 5) (gmi_4 : gi (mi 4) 0 1) (gmi_7 : gi (mi 7) 0 6) (gmi_10 : gi (mi 10) 0 24) (gmi_17 : gi (mi 17) 0 8) (gmi_23 : gi (mi 23) 0 300) (gmi_24 : gi (mi 24) 0 1) (gmi_26 : gi (mi 26) 0 1600) (gmi_29 : gi (mi 29) 0 1600) (gmi_30 : gi (mi 30) 0 1600) (gmi_33 : gi (mi 33) 0 1) (gmi_37 : gi (mi 37) 0 1) (gmi_41 : gi (mi 41) 0 24) (gmi_50 : gi (mi 50) 0 1) (gmi_51 : gi (mi 51) 0 1) (gmi_56 : gi (mi 56) 0 80) : Met l yX12_isBegin (.code yX12_isBegin cX12_isBegin 2 (some .boolean) :: wsGB) ({ frames := 1, cells := 0, slots := 0, locals := 25 }) (va_Pc [.ref h0, .int p1] (fun U => va_P (dC, dI) vwCl [(h0, .inr (12, fsMM mi mr))] U.heap ∧ va_K (dC, dI) vwCl [] U)) (va_Qi (fun (r : Int32) (u : Unit) => gi r 0 1 ∧ (r.toInt = 1 → gi p1 0 24)) (fun _ _ => True) (fun _ => False)) 0 0 (fun _ => False) := by
  refine Met.ofW (cc := cX12_isBegin) (maxL := 2) (ret := (some .boolean)) (by decide) rfl ?_
  intro p e s m args below meth c s₁ B hml hv
  obtain ⟨rfl, hP, hK⟩ := hv
  have hx := B.exec
  have hb := B.bytes
  have hr := B.returns
  have hts := atoms_spec (ws := (.code yX12_isBegin cX12_isBegin 2 (some .boolean) :: wsGB)) B.pre
  have hown : s.vm.findClass RX12 = some m.cls := findClass_of_methodNamed B.named
  have hlocks := B.notSynchronized
  have hS : va_S (fun _ => False) s.heap s.heap [] := va_S.rf
  have hl := lv_entry ([.ref h0, .int p1]) (n := 2) (Nat.le_of_ble_eq_true rfl)
  rw [lg_entry_eq]
  generalize (lg_sl ([.ref h0, .int p1]) ++ List.replicate (2 - (lg_sl ([.ref h0, .int p1])).length) Slot.unset).toArray = ls at hl ⊢
  have hl : lv_has ls 2 [(0, .ref h0), (1, .int p1)] := hl
  refine lv_iload_n hx hb dX12_isBegin_0 rfl (lv_at hl 1 rfl) ?_
  refine lv_i2l (v := (p1).toInt64) hx hb dX12_isBegin_1 rfl ?_
  refine lv_topl (fun l_4 el_4 => ?_)
  refine lv_lconst (v := 0) hx hb dX12_isBegin_2 (by decide) ?_
  refine lv_aload_n hx hb dX12_isBegin_3 rfl (lv_at hl 0 rfl) ?_
  refine va_get (D := (dC, dI)) (ci := 12) (v := .int (mi 0)) (C := RX12) (T := TX12) (N := 57) hx hb hts (fun w h => List.mem_cons_of_mem _ (jnGB_X12 w h)) hown hK hP 0 rfl rfl 0 (by decide) (hts _ (List.mem_cons_of_mem _ mGB_103)) (fun _ h9 => h9) rfl dX12_isBegin_4 ?_
  refine lv_i2l (v := ((mi 0)).toInt64) hx hb dX12_isBegin_7 rfl ?_
  refine lv_topl (fun l_5 el_5 => ?_)
  have hPc := hP.sub (ws' := []) [] rfl
  have hKc := hK.sub (tys' := []) [] rfl
  refine va_calli (va_runS (As := [.long l_4, .long 0, .long l_5]) (rest := []) ⟨hx, hb, hml, hown, hts⟩ (sX12_in l dC dI l_4 0 l_5) (cwS 3 hts (gz_gS mGB_47 mGB_48 mGB_1 mGB_49 goodGB) rfl rfl rfl (by decide +kernel) ⟨Nat.le_of_ble_eq_true rfl, Nat.le_of_ble_eq_true rfl⟩) ⟨fun a U g mk q => by obtain ⟨q0, qP, qK⟩ := q; exact ⟨q0, qP, va_K.moved (u := U) (U := U.calling g mk a) (Vm.Alike.refl U.vm) qK⟩, fun U hU hW => ⟨rfl, by rw [hU]; exact hPc, va_K.moved hW.alike hKc⟩⟩ rfl rfl hl.1 rfl (lv_room (Nat.le_of_ble_eq_true rfl)) dX12_isBegin_8 ⟨Nat.zero_le _, Nat.zero_le _⟩) hS (fun q _ h => h.elim) (fun q h => h.elim) (fun r_6 u t H1 locs ht hvm hw hB hz1 hk1 hS => ?_)
  obtain ⟨hw, hE⟩ := hw
  have hP := gz_keep hP hk1
  generalize H1 = H at hP hS ⊢
  have gr_6 : gi r_6 0 1 := hw.1
  have hqr_6 := hw.2
  exact W.zret (v := r_6) hx hb hr (gz_nb gr_6) (fun t ht hW => ⟨⟨r_6, (), rfl, ⟨gr_6, (fun h1 => (gi_w (gz_inr (hqr_6.1 h1) el_4 (A := 0) (B := 24) (by decide) (gz_l2u el_5 gmi_0)) (by decide)))⟩, trivial⟩, hS.F ht⟩) hS.2.2 dX12_isBegin_11
theorem dX12_isMonth_0 : decode cX12_isMonth 0 = .ok (.iload_n 1, 1) := by decide +kernel
theorem dX12_isMonth_1 : decode cX12_isMonth 1 = .ok (.i2l, 1) := by decide +kernel
theorem dX12_isMonth_2 : decode cX12_isMonth 2 = .ok (.lconst 0, 1) := by decide +kernel
theorem dX12_isMonth_3 : decode cX12_isMonth 3 = .ok (.aload_n 0, 1) := by decide +kernel
theorem dX12_isMonth_4 : decode cX12_isMonth 4 = .ok (.getfield 117, 3) := by decide +kernel
theorem dX12_isMonth_7 : decode cX12_isMonth 7 = .ok (.iconst 1, 1) := by decide +kernel
theorem dX12_isMonth_8 : decode cX12_isMonth 8 = .ok (.isub, 1) := by decide +kernel
theorem dX12_isMonth_9 : decode cX12_isMonth 9 = .ok (.i2l, 1) := by decide +kernel
theorem dX12_isMonth_10 : decode cX12_isMonth 10 = .ok (.invokestatic 102, 3) := by decide +kernel
theorem dX12_isMonth_13 : decode cX12_isMonth 13 = .ok (.ireturn, 1) := by decide +kernel
set_option maxHeartbeats 4000000 in
set_option maxRecDepth 100000 in
theorem sX12_isMonth (l : Launch) (dC : Nat → ClassId) (dI : Nat → Nat → Nat) (h0 : Nat) (mi : Nat → Int32) (mr : Nat → Nat) (p1 : Int32) (gmi_0 : gi (mi 0) 0 24) (gmi_1 : gi (mi 1) 0 5) (gmi_2 : gi (mi 2) 0 5) (gmi_4 : gi (mi 4) 0 1) (gmi_7 : gi (mi 7) 0 6) (gmi_10 : gi (mi 10) 0 24) (gmi_17 : gi (mi 17) 0 8) (gmi_23 : gi (mi 23) 0 300) (gmi_24 : gi (mi 24) 0 1) (gmi_26 : gi (mi 26) 0 1600) (gmi_29 : gi (mi 29) 0 1600) (gmi_30 : gi (mi 30) 0 1600) (gmi_33 : gi (mi 33) 0 1) (gmi_37 : gi (mi 37) 0 1) (gmi_41 : gi (mi 41) 0 24) (gmi_50 : gi (mi 50) 0 1) (gmi_51 : gi (mi 51) 0 1) (gmi_56 : gi (mi 56) 0 80) : Met l yX12_isMonth (.code yX12_isMonth cX12_isMonth 2 (some .boolean) :: wsGB) ({ frames := 1, cells := 0, slots := 0, locals := 25 }) (va_Pc [.ref h0, .int p1] (fun U => va_P (dC, dI) vwCl [(h0, .inr (12, fsMM mi mr))] U.heap ∧ va_K (dC, dI) vwCl [] U)) (va_Qi (fun (r : Int32) (u : Unit) => gi r 0 1 ∧ (r.toInt = 1 → gi p1 0 23)) (fun _ _ => True) (fun _ => False)) 0 0 (fun _ => False) := by
  refine Met.ofW (cc := cX12_isMonth) (maxL := 2) (ret := (some .boolean)) (by decide) rfl ?_
  intro p e s m args below meth c s₁ B hml hv
  obtain ⟨rfl, hP, hK⟩ := hv
  have hx := B.exec
  have hb := B.bytes
  have hr := B.returns
  have hts := atoms_spec (ws := (.code yX12_isMonth cX12_isMonth 2 (some .boolean) :: wsGB)) B.pre
  have hown : s.vm.findClass RX12 = some m.cls := findClass_of_methodNamed B.named
  have hlocks := B.notSynchronized
  have hS : va_S (fun _ => False) s.heap s.heap [] := va_S.rf
  have hl := lv_entry ([.ref h0, .int p1]) (n := 2) (Nat.le_of_ble_eq_true rfl)
  rw [lg_entry_eq]
  generalize (lg_sl ([.ref h0, .int p1]) ++ List.replicate (2 - (lg_sl ([.ref h0, .int p1])).length) Slot.unset).toArray = ls at hl ⊢
  have hl : lv_has ls 2 [(0, .ref h0), (1, .int p1)] := hl
  refine lv_iload_n hx hb dX12_isMonth_0 rfl (lv_at hl 1 rfl) ?_
  refine lv_i2l (v := (p1).toInt64) hx hb dX12_isMonth_1 rfl ?_
  refine lv_topl (fun l_5 el_5 => ?_)
  refine lv_lconst (v := 0) hx hb dX12_isMonth_2 (by decide) ?_
  refine lv_aload_n hx hb dX12_isMonth_3 rfl (lv_at hl 0 rfl) ?_
  refine va_get (D := (dC, dI)) (ci := 12) (v := .int (mi 0)) (C := RX12) (T := TX12) (N := 57) hx hb hts (fun w h => List.mem_cons_of_mem _ (jnGB_X12 w h)) hown hK hP 0 rfl rfl 0 (by decide) (hts _ (List.mem_cons_of_mem _ mGB_103)) (fun _ h9 => h9) rfl dX12_isMonth_4 ?_
  refine lv_iconst (v := 1) hx hb dX12_isMonth_7 (by decide) ?_
  refine lv_isub hx hb dX12_isMonth_8 ?_
  refine lv_topi (fun x_6 ex_6 => ?_)
  have gx_6 : gi x_6 (-1) 23 := gi_sub ex_6 gmi_0 (gi_c 1 1 (by decide)) (by decide)
  refine lv_i2l (v := (x_6).toInt64) hx hb dX12_isMonth_9 rfl ?_
  refine lv_topl (fun l_7 el_7 => ?_)
  have hPc := hP.sub (ws' := []) [] rfl
  have hKc := hK.sub (tys' := []) [] rfl
  refine va_calli (va_runS (As := [.long l_5, .long 0, .long l_7]) (rest := []) ⟨hx, hb, hml, hown, hts⟩ (sX12_in l dC dI l_5 0 l_7) (cwS 3 hts (gz_gS mGB_47 mGB_48 mGB_1 mGB_49 goodGB) rfl rfl rfl (by decide +kernel) ⟨Nat.le_of_ble_eq_true rfl, Nat.le_of_ble_eq_true rfl⟩) ⟨fun a U g mk q => by obtain ⟨q0, qP, qK⟩ := q; exact ⟨q0, qP, va_K.moved (u := U) (U := U.calling g mk a) (Vm.Alike.refl U.vm) qK⟩, fun U hU hW => ⟨rfl, by rw [hU]; exact hPc, va_K.moved hW.alike hKc⟩⟩ rfl rfl hl.1 rfl (lv_room (Nat.le_of_ble_eq_true rfl)) dX12_isMonth_10 ⟨Nat.zero_le _, Nat.zero_le _⟩) hS (fun q _ h => h.elim) (fun q h => h.elim) (fun r_8 u t H1 locs ht hvm hw hB hz1 hk1 hS => ?_)
  obtain ⟨hw, hE⟩ := hw
  have hP := gz_keep hP hk1
  generalize H1 = H at hP hS ⊢
  have gr_8 : gi r_8 0 1 := hw.1
  have hqr_8 := hw.2
  exact W.zret (v := r_8) hx hb hr (gz_nb gr_8) (fun t ht hW => ⟨⟨r_8, (), rfl, ⟨gr_8, (fun h1 => (gi_w (gz_inr (hqr_8.1 h1) el_5 (A := 0) (B := 23) (by decide) (gz_l2u el_7 gx_6)) (by decide)))⟩, trivial⟩, hS.F ht⟩) hS.2.2 dX12_isMonth_13
theorem dX12_beginsOn_0 : decode cX12_beginsOn 0 = .ok (.aload_n 0, 1) := by decide +kernel
theorem dX12_beginsOn_1 : decode cX12_beginsOn 1 = .ok (.iload_n 1, 1) := by decide +kernel
theorem dX12_beginsOn_2 : decode cX12_beginsOn 2 = .ok (.iload_n 2, 1) := by decide +kernel
theorem dX12_beginsOn_3 : decode cX12_beginsOn 3 = .ok (.iconst (-1), 1) := by decide +kernel
theorem dX12_beginsOn_4 : decode cX12_beginsOn 4 = .ok (.iconst 0, 1) := by decide +kernel
theorem dX12_beginsOn_5 : decode cX12_beginsOn 5 = .ok (.invokevirtual 385, 3) := by decide +kernel
theorem dX12_beginsOn_8 : decode cX12_beginsOn 8 = .ok (.ireturn, 1) := by decide +kernel
set_option maxHeartbeats 4000000 in
set_option maxRecDepth 100000 in
theorem sX12_beginsOn (l : Launch) (dC : Nat → ClassId) (dI : Nat → Nat → Nat) (sz : Nat) (h0 : Nat) (mi : Nat → Int32) (mr : Nat → Nat) (km_must : ClassId) (fm_must : Nat → Int32) (km_least : ClassId) (fm_least : Nat → Int32) (km_pin : ClassId) (fm_pin : Nat → Int32) (km_ways : ClassId) (fm_ways : Nat → Int32) (p1 : Int32) (p2 : Int32) (gmi_0 : gi (mi 0) 0 24) (gmi_1 : gi (mi 1) 0 5) (gmi_2 : gi (mi 2) 0 5) (gmi_4 : gi (mi 4) 0 1) (gmi_7 : gi (mi 7) 0 6) (gmi_10 : gi (mi 10) 0 24) (gmi_17 : gi (mi 17) 0 8) (gmi_23 : gi (mi 23) 0 300) (gmi_24 : gi (mi 24) 0 1) (gmi_26 : gi (mi 26) 0 1600) (gmi_29 : gi (mi 29) 0 1600) (gmi_30 : gi (mi 30) 0 1600) (gmi_33 : gi (mi 33) 0 1) (gmi_37 : gi (mi 37) 0 1) (gmi_41 : gi (mi 41) 0 24) (gmi_50 : gi (mi 50) 0 1) (gmi_51 : gi (mi 51) 0 1) (gmi_56 : gi (mi 56) 0 80) (gp1 : gi p1 0 24) : Met l yX12_beginsOn (.code yX12_beginsOn cX12_beginsOn 3 (some .int) :: wsGB) ({ frames := 4, cells := 0, slots := 0, locals := 101 }) (va_Pc [.ref h0, .int p1, .int p2] (fun U => U.heap.size = sz ∧ va_P (dC, dI) vwCl [(h0, .inr (12, fsMM mi mr)), ((mr 14), .inl (km_must, 25, .inl fm_must)), ((mr 15), .inl (km_least, 25, .inl fm_least)), ((mr 16), .inl (km_pin, 25, .inl fm_pin)), ((mr 17), .inl (km_ways, 6875, .inl fm_ways))] U.heap ∧ va_K (dC, dI) vwCl [(km_must, .int), (km_least, .int), (km_pin, .int), (km_ways, .int)] U ∧ va_D (fun _ => True) [(h0, .inr (12, fsMM mi mr)), ((mr 14), .inl (km_must, 25, .inl fm_must)), ((mr 15), .inl (km_least, 25, .inl fm_least)), ((mr 16), .inl (km_pin, 25, .inl fm_pin)), ((mr 17), .inl (km_ways, 6875, .inl fm_ways))])) (va_Qi (fun (r : Int32) (u : Unit) => gi r (-2147483648) 2147483647) (fun _ t => ∃ (z3 : Nat → Int32) (z4 : Nat → Int32), va_P (dC, dI) vwCl [(h0, .inr (12, fsMM mi mr)), ((mr 14), .inl (km_must, 25, .inl fm_must)), ((mr 15), .inl (km_least, 25, .inl fm_least)), ((mr 16), .inl (km_pin, 25, .inl z3)), ((mr 17), .inl (km_ways, 6875, .inl z4))] t.heap ∧ va_D (va_A [(h0, .inr (12, fsMM mi mr)), ((mr 14), .inl (km_must, 25, .inl fm_must)), ((mr 15), .inl (km_least, 25, .inl fm_least)), ((mr 16), .inl (km_pin, 25, .inl fm_pin)), ((mr 17), .inl (km_ways, 6875, .inl fm_ways))] sz) [(h0, .inr (12, fsMM mi mr)), ((mr 14), .inl (km_must, 25, .inl fm_must)), ((mr 15), .inl (km_least, 25, .inl fm_least)), ((mr 16), .inl (km_pin, 25, .inl z3)), ((mr 17), .inl (km_ways, 6875, .inl z4))]) (va_A [(h0, .inr (12, fsMM mi mr)), ((mr 14), .inl (km_must, 25, .inl fm_must)), ((mr 15), .inl (km_least, 25, .inl fm_least)), ((mr 16), .inl (km_pin, 25, .inl fm_pin)), ((mr 17), .inl (km_ways, 6875, .inl fm_ways))] sz)) 0 0 (va_A [(h0, .inr (12, fsMM mi mr)), ((mr 14), .inl (km_must, 25, .inl fm_must)), ((mr 15), .inl (km_least, 25, .inl fm_least)), ((mr 16), .inl (km_pin, 25, .inl fm_pin)), ((mr 17), .inl (km_ways, 6875, .inl fm_ways))] sz) := by
  refine Met.ofW (cc := cX12_beginsOn) (maxL := 3) (ret := (some .int)) (by decide) rfl ?_
  intro p e s m args below meth c s₁ B hml hv
  obtain ⟨rfl, hsz, hP, hK, hD0⟩ := hv
  have hx := B.exec
  have hb := B.bytes
  have hr := B.returns
  have hts := atoms_spec (ws := (.code yX12_beginsOn cX12_beginsOn 3 (some .int) :: wsGB)) B.pre
  have hown : s.vm.findClass RX12 = some m.cls := findClass_of_methodNamed B.named
  have hlocks := B.notSynchronized
  subst hsz
  have hD := hD0.self (sz := s.heap.size)
  generalize hAe : va_A [(h0, .inr (12, fsMM mi mr)), ((mr 14), .inl (km_must, 25, .inl fm_must)), ((mr 15), .inl (km_least, 25, .inl fm_least)), ((mr 16), .inl (km_pin, 25, .inl fm_pin)), ((mr 17), .inl (km_ways, 6875, .inl fm_ways))] s.heap.size = A at hD ⊢
  have hA : ∀ q : Nat, s.heap.size ≤ q → A q := fun q h => by rw [← hAe]; exact Or.inr h
  have hS : va_S A s.heap s.heap [] := va_S.rf
  have hl := lv_entry ([.ref h0, .int p1, .int p2]) (n := 3) (Nat.le_of_ble_eq_true rfl)
  rw [lg_entry_eq]
  generalize (lg_sl ([.ref h0, .int p1, .int p2]) ++ List.replicate (3 - (lg_sl ([.ref h0, .int p1, .int p2])).length) Slot.unset).toArray = ls at hl ⊢
  have hl : lv_has ls 3 [(0, .ref h0), (1, .int p1), (2, .int p2)] := hl
  refine lv_aload_n hx hb dX12_beginsOn_0 rfl (lv_at hl 0 rfl) ?_
  refine lv_iload_n hx hb dX12_beginsOn_1 rfl (lv_at hl 1 rfl) ?_
  refine lv_iload_n hx hb dX12_beginsOn_2 rfl (lv_at hl 2 rfl) ?_
  refine lv_iconst (v := (-1)) hx hb dX12_beginsOn_3 (by decide) ?_
  refine lv_iconst (v := 0) hx hb dX12_beginsOn_4 (by decide) ?_
  have hPc := hP.sub (ws' := [(h0, .inr (12, fsMM mi mr)), ((mr 14), .inl (km_must, 25, .inl fm_must)), ((mr 15), .inl (km_least, 25, .inl fm_least)), ((mr 16), .inl (km_pin, 25, .inl fm_pin)), ((mr 17), .inl (km_ways, 6875, .inl fm_ways))]) [0, 1, 2, 3, 4] rfl
  have hKc := hK.sub (tys' := [(km_must, .int), (km_least, .int), (km_pin, .int), (km_ways, .int)]) [0, 1, 2, 3] rfl
  have hDc := hD.sub (ws' := [(h0, .inr (12, fsMM mi mr)), ((mr 14), .inl (km_must, 25, .inl fm_must)), ((mr 15), .inl (km_least, 25, .inl fm_least)), ((mr 16), .inl (km_pin, 25, .inl fm_pin)), ((mr 17), .inl (km_ways, 6875, .inl fm_ways))]) [0, 1, 2, 3, 4] (by decide) rfl
  have hFc := va_free (wc := [(h0, .inr (12, fsMM mi mr)), ((mr 14), .inl (km_must, 25, .inl fm_must)), ((mr 15), .inl (km_least, 25, .inl fm_least)), ((mr 16), .inl (km_pin, 25, .inl fm_pin)), ((mr 17), .inl (km_ways, 6875, .inl fm_ways))]) hD hS hA [0, 1, 2, 3, 4] rfl
  refine va_calli (va_runV (As := [.int p1, .int p2, .int (-1), .int 0]) (rest := []) ⟨hx, hb, hml, hown, hts⟩ (sX12_countsWith l dC dI s.heap.size h0 mi mr km_must fm_must km_least fm_least km_pin fm_pin km_ways fm_ways p1 p2 (-1) 0 gmi_0 gmi_1 gmi_2 gmi_4 gmi_7 gmi_10 gmi_17 gmi_23 gmi_24 gmi_26 gmi_29 gmi_30 gmi_33 gmi_37 gmi_41 gmi_50 gmi_51 gmi_56 gp1 (gi_w (gi_c (-1) (-1) (by decide)) (by decide))) (cwV 4 hts (gz_gV mGB_377 mGB_378 mGB_379 mGB_1 mGB_380 goodGB) rfl rfl rfl (by decide +kernel) ⟨Nat.le_of_ble_eq_true rfl, Nat.le_of_ble_eq_true rfl⟩) ⟨fun a U g mk q => by obtain ⟨q0, q1, qP, qK, qD⟩ := q; exact ⟨q0, q1, qP, va_K.moved (u := U) (U := U.calling g mk a) (Vm.Alike.refl U.vm) qK, qD⟩, va_recv hKc hPc (ci := 12) (q0 := 0) rfl rfl, fun U hU hW => ⟨rfl, by rw [hU], by rw [hU]; exact hPc, va_K.moved hW.alike hKc, hDc.weaken (fun _ _ _ _ => trivial)⟩⟩ rfl rfl hl.1 rfl (lv_room (Nat.le_of_ble_eq_true rfl)) dX12_beginsOn_5 ⟨Nat.zero_le _, Nat.zero_le _⟩) hS (fun q _ h => hFc q h) hFc (fun r_7 u t H1 locs ht hvm hw hB hz1 hk1 hS => ?_)
  obtain ⟨f_8, f_9, hP1, hD1⟩ := hB
  rw [ht] at hP1
  obtain ⟨hP, hD⟩ := va_join (wr := []) (w1 := [(h0, .inr (12, fsMM mi mr)), ((mr 14), .inl (km_must, 25, .inl fm_must)), ((mr 15), .inl (km_least, 25, .inl fm_least)), ((mr 16), .inl (km_pin, 25, .inl f_8)), ((mr 17), .inl (km_ways, 6875, .inl f_9))]) hP hD [0, 1, 2, 3, 4] [] rfl rfl (by decide) (by decide) hk1 hFc hP1 hD1
  have hP := hP.sub (ws' := [(h0, .inr (12, fsMM mi mr)), ((mr 14), .inl (km_must, 25, .inl fm_must)), ((mr 15), .inl (km_least, 25, .inl fm_least)), ((mr 16), .inl (km_pin, 25, .inl f_8)), ((mr 17), .inl (km_ways, 6875, .inl f_9))]) [0, 1, 2, 3, 4] rfl
  have hD := hD.sub (ws' := [(h0, .inr (12, fsMM mi mr)), ((mr 14), .inl (km_must, 25, .inl fm_must)), ((mr 15), .inl (km_least, 25, .inl fm_least)), ((mr 16), .inl (km_pin, 25, .inl f_8)), ((mr 17), .inl (km_ways, 6875, .inl f_9))]) [0, 1, 2, 3, 4] (by decide) rfl
  generalize H1 = H at hP hS ⊢
  exact W.iret (v := r_7) hx hb hr (fun t ht hW => ⟨⟨r_7, (), rfl, (gi_any r_7), f_8, f_9, by rw [ht]; exact hP, hD⟩, hS.F ht⟩) hS.2.2 dX12_beginsOn_8
theorem dX12_spanOf_0 : decode cX12_spanOf 0 = .ok (.iconst 0, 1) := by decide +kernel
theorem dX12_spanOf_1 : decode cX12_spanOf 1 = .ok (.istore_n 3, 1) := by decide +kernel
theorem dX12_spanOf_2 : decode cX12_spanOf 2 = .ok (.iload_n 3, 1) := by decide +kernel
theorem dX12_spanOf_3 : decode cX12_spanOf 3 = .ok (.iload_n 1, 1) := by decide +kernel
theorem dX12_spanOf_4 : decode cX12_spanOf 4 = .ok (.if_icmp .gt 40, 3) := by decide +kernel
theorem dX12_spanOf_7 : decode cX12_spanOf 7 = .ok (.bipush 29, 2) := by decide +kernel
theorem dX12_spanOf_9 : decode cX12_spanOf 9 = .ok (.iload_n 1, 1) := by decide +kernel
theorem dX12_spanOf_10 : decode cX12_spanOf 10 = .ok (.imul, 1) := by decide +kernel
theorem dX12_spanOf_11 : decode cX12_spanOf 11 = .ok (.iload_n 2, 1) := by decide +kernel
theorem dX12_spanOf_12 : decode cX12_spanOf 12 = .ok (.ifCond .ne 7, 3) := by decide +kernel
theorem dX12_spanOf_15 : decode cX12_spanOf 15 = .ok (.iload_n 3, 1) := by decide +kernel
theorem dX12_spanOf_16 : decode cX12_spanOf 16 = .ok (.goto 6, 3) := by decide +kernel
theorem dX12_spanOf_19 : decode cX12_spanOf 19 = .ok (.iload_n 1, 1) := by decide +kernel
theorem dX12_spanOf_20 : decode cX12_spanOf 20 = .ok (.iload_n 3, 1) := by decide +kernel
theorem dX12_spanOf_21 : decode cX12_spanOf 21 = .ok (.isub, 1) := by decide +kernel
theorem dX12_spanOf_22 : decode cX12_spanOf 22 = .ok (.iadd, 1) := by decide +kernel
theorem dX12_spanOf_23 : decode cX12_spanOf 23 = .ok (.istore 4, 2) := by decide +kernel
theorem dX12_spanOf_25 : decode cX12_spanOf 25 = .ok (.aload_n 0, 1) := by decide +kernel
theorem dX12_spanOf_26 : decode cX12_spanOf 26 = .ok (.iload_n 1, 1) := by decide +kernel
theorem dX12_spanOf_27 : decode cX12_spanOf 27 = .ok (.iload 4, 2) := by decide +kernel
theorem dX12_spanOf_29 : decode cX12_spanOf 29 = .ok (.invokevirtual 388, 3) := by decide +kernel
theorem dX12_spanOf_32 : decode cX12_spanOf 32 = .ok (.ifCond .le 6, 3) := by decide +kernel
theorem dX12_spanOf_35 : decode cX12_spanOf 35 = .ok (.iload 4, 2) := by decide +kernel
theorem dX12_spanOf_37 : decode cX12_spanOf 37 = .ok (.ireturn, 1) := by decide +kernel
theorem dX12_spanOf_38 : decode cX12_spanOf 38 = .ok (.iinc 3 1, 3) := by decide +kernel
theorem dX12_spanOf_41 : decode cX12_spanOf 41 = .ok (.goto (-39), 3) := by decide +kernel
theorem dX12_spanOf_44 : decode cX12_spanOf 44 = .ok (.bipush (-2), 2) := by decide +kernel
theorem dX12_spanOf_46 : decode cX12_spanOf 46 = .ok (.ireturn, 1) := by decide +kernel
set_option maxHeartbeats 4000000 in
set_option maxRecDepth 100000 in
theorem lp_sX12_spanOf {p : Program} {l : Launch} {e : Env} {R : Room} {s : State} {m : MethodId} {args : Array Value} {below : List Frame} {meth : Method} {c : Code} {Q : State → Prop} {A : Nat → Prop} {cells slots : Nat} {dC : Nat → ClassId} {dI : Nat → Nat → Nat} (h0 : Nat) (mi : Nat → Int32) (mr : Nat → Nat) (km_must : ClassId) (fm_must : Nat → Int32) (km_least : ClassId) (fm_least : Nat → Int32) (km_pin : ClassId) (fm_pin : Nat → Int32) (km_ways : ClassId) (fm_ways : Nat → Int32) (p1 : Int32) (p2 : Int32) (gmi_0 : gi (mi 0) 0 24) (gmi_1 : gi (mi 1) 0 5) (gmi_2 : gi (mi 2) 0 5) (gmi_4 : gi (mi 4) 0 1) (gmi_7 : gi (mi 7) 0 6) (gmi_10 : gi (mi 10) 0 24) (gmi_17 : gi (mi 17) 0 8) (gmi_23 : gi (mi 23) 0 300) (gmi_24 : gi (mi 24) 0 1) (gmi_26 : gi (mi 26) 0 1600) (gmi_29 : gi (mi 29) 0 1600) (gmi_30 : gi (mi 30) 0 1600) (gmi_33 : gi (mi 33) 0 1) (gmi_37 : gi (mi 37) 0 1) (gmi_41 : gi (mi 41) 0 24) (gmi_50 : gi (mi 50) 0 1) (gmi_51 : gi (mi 51) 0 1) (gmi_56 : gi (mi 56) 0 80) (gp1 : gi p1 0 24) (hx : p.tables.exec = Jvm.exec) (hb : c.code = cX12_spanOf) (hml : c.maxLocals = 5) (hown : s.vm.findClass RX12 = some m.cls) (hts : ∀ w ∈ ((.code yX12_spanOf cX12_spanOf 5 (some .int) :: wsGB) : List Cond), w.before args s = true) (hK : va_K (dC, dI) vwCl [(km_must, .int), (km_least, .int), (km_pin, .int), (km_ways, .int)] s) (hA : ∀ q : Nat, s.heap.size ≤ q → A q) (hRf : 5 ≤ R.frames) (hRl : 123 ≤ R.locals) (hRc : cells ≤ R.cells) (hRs : slots ≤ R.slots) (kr46 : ∀ (v : Int32) (z3 : Nat → Int32) (z4 : Nat → Int32) (H : Heap) (locs : List Loc) (ls : Array Slot), gi v (-2) (-2) → va_P (dC, dI) vwCl [(h0, .inr (12, fsMM mi mr)), ((mr 14), .inl (km_must, 25, .inl fm_must)), ((mr 15), .inl (km_least, 25, .inl fm_least)), ((mr 16), .inl (km_pin, 25, .inl z3)), ((mr 17), .inl (km_ways, 6875, .inl z4))] H → va_D A [(h0, .inr (12, fsMM mi mr)), ((mr 14), .inl (km_must, 25, .inl fm_must)), ((mr 15), .inl (km_least, 25, .inl fm_least)), ((mr 16), .inl (km_pin, 25, .inl z3)), ((mr 17), .inl (km_ways, 6875, .inl z4))] → va_S A s.heap H locs → lv_has ls 5 [] → W p l e R s m args below meth c H locs cells slots Q (F0 m 46 ls [.int v])) (kr37 : ∀ (v : Int32) (z3 : Nat → Int32) (z4 : Nat → Int32) (H : Heap) (locs : List Loc) (ls : Array Slot), gi v 0 720 → va_P (dC, dI) vwCl [(h0, .inr (12, fsMM mi mr)), ((mr 14), .inl (km_must, 25, .inl fm_must)), ((mr 15), .inl (km_least, 25, .inl fm_least)), ((mr 16), .inl (km_pin, 25, .inl z3)), ((mr 17), .inl (km_ways, 6875, .inl z4))] H → va_D A [(h0, .inr (12, fsMM mi mr)), ((mr 14), .inl (km_must, 25, .inl fm_must)), ((mr 15), .inl (km_least, 25, .inl fm_least)), ((mr 16), .inl (km_pin, 25, .inl z3)), ((mr 17), .inl (km_ways, 6875, .inl z4))] → va_S A s.heap H locs → lv_has ls 5 [] → W p l e R s m args below meth c H locs cells slots Q (F0 m 37 ls [.int v])) : ∀ z : Nat, (∀ (v3 : Int32) (z3 : Nat → Int32) (z4 : Nat → Int32) (H : Heap) (locs : List Loc) (ls : Array Slot), gi v3 0 25 → 51 + (-2) * v3.toInt < (z : Int) → va_P (dC, dI) vwCl [(h0, .inr (12, fsMM mi mr)), ((mr 14), .inl (km_must, 25, .inl fm_must)), ((mr 15), .inl (km_least, 25, .inl fm_least)), ((mr 16), .inl (km_pin, 25, .inl z3)), ((mr 17), .inl (km_ways, 6875, .inl z4))] H → va_D A [(h0, .inr (12, fsMM mi mr)), ((mr 14), .inl (km_must, 25, .inl fm_must)), ((mr 15), .inl (km_least, 25, .inl fm_least)), ((mr 16), .inl (km_pin, 25, .inl z3)), ((mr 17), .inl (km_ways, 6875, .inl z4))] → va_S A s.heap H locs → lv_has ls 5 [(0, .ref h0), (1, .int p1), (2, .int p2), (3, .int v3)] → W p l e R s m args below meth c H locs cells slots Q (F0 m 2 ls [])) := by
  intro z
  induction z with
  | zero =>
    intro v3 z3 z4 H locs ls gv3 hmu hP hD hS hl
    exact absurd hmu (by have hv31 := gv3.1; have hv32 := gv3.2; omega)
  | succ z ih =>
      intro v3 z3 z4 H locs ls gv3 hmu hP hD hS hl
      refine lv_iload_n hx hb dX12_spanOf_2 rfl (lv_at hl 3 rfl) ?_
      refine lv_iload_n hx hb dX12_spanOf_3 rfl (lv_at hl 1 rfl) ?_
      refine lv_icmp_gt (tgt := 44) hx hb dX12_spanOf_4 (by decide) (fun c_367 => ?_) (fun c_367 => ?_)
      · have g_368 : gi v3 1 25 := gi_lt_r c_367 gp1 gv3 (by decide)
        refine lv_bipush (v := (-2)) hx hb dX12_spanOf_44 (by decide) ?_
        exact kr46 (-2) z3 z4 _ _ _ (gi_c (-2) (-2) (by decide)) hP hD hS (lv_sub hl [] rfl)
      · have g_369 : gi v3 0 24 := gi_le_l (Int32.not_lt.mp c_367) gv3 gp1
        refine lv_bipush (v := 29) hx hb dX12_spanOf_7 (by decide) ?_
        refine lv_iload_n hx hb dX12_spanOf_9 rfl (lv_at hl 1 rfl) ?_
        refine lv_imul hx hb dX12_spanOf_10 ?_
        refine lv_topi (fun x_370 ex_370 => ?_)
        have gx_370 : gi x_370 0 696 := gi_mul ex_370 (gi_c 29 29 (by decide)) gp1 (by decide)
        refine lv_iload_n hx hb dX12_spanOf_11 rfl (lv_at hl 2 rfl) ?_
        refine lv_if_ne (tgt := 19) hx hb dX12_spanOf_12 (by decide) (fun c_371 => ?_) (fun c_371 => ?_)
        · refine lv_iload_n hx hb dX12_spanOf_19 rfl (lv_at hl 1 rfl) ?_
          refine lv_iload_n hx hb dX12_spanOf_20 rfl (lv_at hl 3 rfl) ?_
          refine lv_isub hx hb dX12_spanOf_21 ?_
          refine lv_topi (fun x_372 ex_372 => ?_)
          have gx_372 : gi x_372 0 24 := gi_subrel ex_372 (Int32.le_iff_toInt_le.mp (Int32.not_lt.mp c_367)) gp1 g_369 (by decide)
          refine lv_iadd hx hb dX12_spanOf_22 ?_
          refine lv_topi (fun x_373 ex_373 => ?_)
          have gx_373 : gi x_373 0 720 := gi_add ex_373 gx_370 gx_372 (by decide)
          refine lv_istore (lv' := [(4, .int x_373), (0, .ref h0), (1, .int p1), (2, .int p2), (3, .int v3)]) hx hb dX12_spanOf_23 hl (by decide) rfl (fun ls hl => ?_)
          refine lv_aload_n hx hb dX12_spanOf_25 rfl (lv_at hl 1 rfl) ?_
          refine lv_iload_n hx hb dX12_spanOf_26 rfl (lv_at hl 2 rfl) ?_
          refine lv_iload hx hb dX12_spanOf_27 (lv_at hl 0 rfl) ?_
          have hPc := hP.sub (ws' := [(h0, .inr (12, fsMM mi mr)), ((mr 14), .inl (km_must, 25, .inl fm_must)), ((mr 15), .inl (km_least, 25, .inl fm_least)), ((mr 16), .inl (km_pin, 25, .inl z3)), ((mr 17), .inl (km_ways, 6875, .inl z4))]) [0, 1, 2, 3, 4] rfl
          have hKc := hK.sub (tys' := [(km_must, .int), (km_least, .int), (km_pin, .int), (km_ways, .int)]) [0, 1, 2, 3] rfl
          have hDc := hD.sub (ws' := [(h0, .inr (12, fsMM mi mr)), ((mr 14), .inl (km_must, 25, .inl fm_must)), ((mr 15), .inl (km_least, 25, .inl fm_least)), ((mr 16), .inl (km_pin, 25, .inl z3)), ((mr 17), .inl (km_ways, 6875, .inl z4))]) [0, 1, 2, 3, 4] (by decide) rfl
          have hFc := va_free (wc := [(h0, .inr (12, fsMM mi mr)), ((mr 14), .inl (km_must, 25, .inl fm_must)), ((mr 15), .inl (km_least, 25, .inl fm_least)), ((mr 16), .inl (km_pin, 25, .inl z3)), ((mr 17), .inl (km_ways, 6875, .inl z4))]) hD hS hA [0, 1, 2, 3, 4] rfl
          refine va_calli (va_runV (As := [.int p1, .int x_373]) (rest := []) ⟨hx, hb, hml, hown, hts⟩ (sX12_beginsOn l dC dI H.size h0 mi mr km_must fm_must km_least fm_least km_pin z3 km_ways z4 p1 x_373 gmi_0 gmi_1 gmi_2 gmi_4 gmi_7 gmi_10 gmi_17 gmi_23 gmi_24 gmi_26 gmi_29 gmi_30 gmi_33 gmi_37 gmi_41 gmi_50 gmi_51 gmi_56 gp1) (cwV 2 hts (gz_gV mGB_373 mGB_374 mGB_375 mGB_1 mGB_376 goodGB) rfl rfl rfl (by decide +kernel) ⟨Nat.le_trans (Nat.le_of_ble_eq_true rfl) hRf, Nat.le_trans (Nat.le_of_ble_eq_true rfl) hRl⟩) ⟨fun a U g mk q => by obtain ⟨q0, q1, qP, qK, qD⟩ := q; exact ⟨q0, q1, qP, va_K.moved (u := U) (U := U.calling g mk a) (Vm.Alike.refl U.vm) qK, qD⟩, va_recv hKc hPc (ci := 12) (q0 := 0) rfl rfl, fun U hU hW => ⟨rfl, by rw [hU], by rw [hU]; exact hPc, va_K.moved hW.alike hKc, hDc.weaken (fun _ _ _ _ => trivial)⟩⟩ rfl rfl hl.1 rfl (lv_room (Nat.le_of_ble_eq_true rfl)) dX12_spanOf_29 ⟨hRc, hRs⟩) hS (fun q _ h => hFc q h) hFc (fun r_374 u t H1 locs ht hvm hw hB hz1 hk1 hS => ?_)
          obtain ⟨f_375, f_376, hP1, hD1⟩ := hB
          rw [ht] at hP1
          obtain ⟨hP, hD⟩ := va_join (wr := []) (w1 := [(h0, .inr (12, fsMM mi mr)), ((mr 14), .inl (km_must, 25, .inl fm_must)), ((mr 15), .inl (km_least, 25, .inl fm_least)), ((mr 16), .inl (km_pin, 25, .inl f_375)), ((mr 17), .inl (km_ways, 6875, .inl f_376))]) hP hD [0, 1, 2, 3, 4] [] rfl rfl (by decide) (by decide) hk1 hFc hP1 hD1
          have hP := hP.sub (ws' := [(h0, .inr (12, fsMM mi mr)), ((mr 14), .inl (km_must, 25, .inl fm_must)), ((mr 15), .inl (km_least, 25, .inl fm_least)), ((mr 16), .inl (km_pin, 25, .inl f_375)), ((mr 17), .inl (km_ways, 6875, .inl f_376))]) [0, 1, 2, 3, 4] rfl
          have hD := hD.sub (ws' := [(h0, .inr (12, fsMM mi mr)), ((mr 14), .inl (km_must, 25, .inl fm_must)), ((mr 15), .inl (km_least, 25, .inl fm_least)), ((mr 16), .inl (km_pin, 25, .inl f_375)), ((mr 17), .inl (km_ways, 6875, .inl f_376))]) [0, 1, 2, 3, 4] (by decide) rfl
          generalize H1 = H at hP hS ⊢
          refine lv_if_le (tgt := 38) hx hb dX12_spanOf_32 (by decide) (fun c_377 => ?_) (fun c_377 => ?_)
          · have g_378 : gi r_374 (-2147483648) 0 := gi_le_l c_377 (gi_any r_374) (gi_c 0 0 (by decide))
            obtain ⟨x_379, ex_379⟩ : ∃ y : Int32, y = v3 + 1 := ⟨_, rfl⟩
            have gx_379 : gi x_379 1 25 := gi_add ex_379 g_369 (gi_c 1 1 (by decide)) (by decide)
            refine lv_iinc (v := x_379) (lv' := [(3, .int x_379), (4, .int x_373), (0, .ref h0), (1, .int p1), (2, .int p2)]) hx hb dX12_spanOf_38 hl (k := 4) rfl (by rw [ex_379]; rfl) (by decide) rfl (fun ls hl => ?_)
            refine lv_goto (tgt := 2) hx hb dX12_spanOf_41 (by decide) ?_
            exact ih x_379 f_375 f_376 _ _ _ (gi_w gx_379 (by decide)) (by have av3 := gv3.1; have bv3 := gv3.2; have qgx_379 := gx_379.1; have rgx_379 := gx_379.2; have igx_379 : x_379.toInt = v3.toInt + 1 := (by have hc1 : (1 : Int32).toInt = 1 := (by decide); have h9 := gi_addI ex_379 (by have h1 := g_369.1; have h2 := (gi_c 1 1 (by decide)).1; have h3 := g_369.2; have h4 := (gi_c 1 1 (by decide)).2; omega) (by have h1 := g_369.1; have h2 := (gi_c 1 1 (by decide)).1; have h3 := g_369.2; have h4 := (gi_c 1 1 (by decide)).2; omega); rw [hc1] at h9; exact h9); have qgv3 := g_369.1; have rgv3 := g_369.2; omega) hP hD hS (lv_sub hl [2, 3, 4, 0] rfl)
          · have g_380 : gi r_374 1 2147483647 := gi_lt_r (Int32.not_le.mp c_377) (gi_c 0 0 (by decide)) (gi_any r_374) (by decide)
            refine lv_iload hx hb dX12_spanOf_35 (lv_at hl 0 rfl) ?_
            exact kr37 x_373 f_375 f_376 _ _ _ gx_373 hP hD hS (lv_sub hl [] rfl)
        · have g_381 : gi p2 0 0 := gi_eq c_371 (gi_c 0 0 (by decide))
          refine lv_iload_n hx hb dX12_spanOf_15 rfl (lv_at hl 3 rfl) ?_
          refine lv_goto (tgt := 22) hx hb dX12_spanOf_16 (by decide) ?_
          refine lv_iadd hx hb dX12_spanOf_22 ?_
          refine lv_topi (fun x_382 ex_382 => ?_)
          have gx_382 : gi x_382 0 720 := gi_add ex_382 gx_370 g_369 (by decide)
          refine lv_istore (lv' := [(4, .int x_382), (0, .ref h0), (1, .int p1), (2, .int p2), (3, .int v3)]) hx hb dX12_spanOf_23 hl (by decide) rfl (fun ls hl => ?_)
          refine lv_aload_n hx hb dX12_spanOf_25 rfl (lv_at hl 1 rfl) ?_
          refine lv_iload_n hx hb dX12_spanOf_26 rfl (lv_at hl 2 rfl) ?_
          refine lv_iload hx hb dX12_spanOf_27 (lv_at hl 0 rfl) ?_
          have hPc := hP.sub (ws' := [(h0, .inr (12, fsMM mi mr)), ((mr 14), .inl (km_must, 25, .inl fm_must)), ((mr 15), .inl (km_least, 25, .inl fm_least)), ((mr 16), .inl (km_pin, 25, .inl z3)), ((mr 17), .inl (km_ways, 6875, .inl z4))]) [0, 1, 2, 3, 4] rfl
          have hKc := hK.sub (tys' := [(km_must, .int), (km_least, .int), (km_pin, .int), (km_ways, .int)]) [0, 1, 2, 3] rfl
          have hDc := hD.sub (ws' := [(h0, .inr (12, fsMM mi mr)), ((mr 14), .inl (km_must, 25, .inl fm_must)), ((mr 15), .inl (km_least, 25, .inl fm_least)), ((mr 16), .inl (km_pin, 25, .inl z3)), ((mr 17), .inl (km_ways, 6875, .inl z4))]) [0, 1, 2, 3, 4] (by decide) rfl
          have hFc := va_free (wc := [(h0, .inr (12, fsMM mi mr)), ((mr 14), .inl (km_must, 25, .inl fm_must)), ((mr 15), .inl (km_least, 25, .inl fm_least)), ((mr 16), .inl (km_pin, 25, .inl z3)), ((mr 17), .inl (km_ways, 6875, .inl z4))]) hD hS hA [0, 1, 2, 3, 4] rfl
          refine va_calli (va_runV (As := [.int p1, .int x_382]) (rest := []) ⟨hx, hb, hml, hown, hts⟩ (sX12_beginsOn l dC dI H.size h0 mi mr km_must fm_must km_least fm_least km_pin z3 km_ways z4 p1 x_382 gmi_0 gmi_1 gmi_2 gmi_4 gmi_7 gmi_10 gmi_17 gmi_23 gmi_24 gmi_26 gmi_29 gmi_30 gmi_33 gmi_37 gmi_41 gmi_50 gmi_51 gmi_56 gp1) (cwV 2 hts (gz_gV mGB_373 mGB_374 mGB_375 mGB_1 mGB_376 goodGB) rfl rfl rfl (by decide +kernel) ⟨Nat.le_trans (Nat.le_of_ble_eq_true rfl) hRf, Nat.le_trans (Nat.le_of_ble_eq_true rfl) hRl⟩) ⟨fun a U g mk q => by obtain ⟨q0, q1, qP, qK, qD⟩ := q; exact ⟨q0, q1, qP, va_K.moved (u := U) (U := U.calling g mk a) (Vm.Alike.refl U.vm) qK, qD⟩, va_recv hKc hPc (ci := 12) (q0 := 0) rfl rfl, fun U hU hW => ⟨rfl, by rw [hU], by rw [hU]; exact hPc, va_K.moved hW.alike hKc, hDc.weaken (fun _ _ _ _ => trivial)⟩⟩ rfl rfl hl.1 rfl (lv_room (Nat.le_of_ble_eq_true rfl)) dX12_spanOf_29 ⟨hRc, hRs⟩) hS (fun q _ h => hFc q h) hFc (fun r_383 u t H1 locs ht hvm hw hB hz1 hk1 hS => ?_)
          obtain ⟨f_384, f_385, hP1, hD1⟩ := hB
          rw [ht] at hP1
          obtain ⟨hP, hD⟩ := va_join (wr := []) (w1 := [(h0, .inr (12, fsMM mi mr)), ((mr 14), .inl (km_must, 25, .inl fm_must)), ((mr 15), .inl (km_least, 25, .inl fm_least)), ((mr 16), .inl (km_pin, 25, .inl f_384)), ((mr 17), .inl (km_ways, 6875, .inl f_385))]) hP hD [0, 1, 2, 3, 4] [] rfl rfl (by decide) (by decide) hk1 hFc hP1 hD1
          have hP := hP.sub (ws' := [(h0, .inr (12, fsMM mi mr)), ((mr 14), .inl (km_must, 25, .inl fm_must)), ((mr 15), .inl (km_least, 25, .inl fm_least)), ((mr 16), .inl (km_pin, 25, .inl f_384)), ((mr 17), .inl (km_ways, 6875, .inl f_385))]) [0, 1, 2, 3, 4] rfl
          have hD := hD.sub (ws' := [(h0, .inr (12, fsMM mi mr)), ((mr 14), .inl (km_must, 25, .inl fm_must)), ((mr 15), .inl (km_least, 25, .inl fm_least)), ((mr 16), .inl (km_pin, 25, .inl f_384)), ((mr 17), .inl (km_ways, 6875, .inl f_385))]) [0, 1, 2, 3, 4] (by decide) rfl
          generalize H1 = H at hP hS ⊢
          refine lv_if_le (tgt := 38) hx hb dX12_spanOf_32 (by decide) (fun c_386 => ?_) (fun c_386 => ?_)
          · have g_387 : gi r_383 (-2147483648) 0 := gi_le_l c_386 (gi_any r_383) (gi_c 0 0 (by decide))
            obtain ⟨x_388, ex_388⟩ : ∃ y : Int32, y = v3 + 1 := ⟨_, rfl⟩
            have gx_388 : gi x_388 1 25 := gi_add ex_388 g_369 (gi_c 1 1 (by decide)) (by decide)
            refine lv_iinc (v := x_388) (lv' := [(3, .int x_388), (4, .int x_382), (0, .ref h0), (1, .int p1), (2, .int p2)]) hx hb dX12_spanOf_38 hl (k := 4) rfl (by rw [ex_388]; rfl) (by decide) rfl (fun ls hl => ?_)
            refine lv_goto (tgt := 2) hx hb dX12_spanOf_41 (by decide) ?_
            exact ih x_388 f_384 f_385 _ _ _ (gi_w gx_388 (by decide)) (by have av3 := gv3.1; have bv3 := gv3.2; have qgx_388 := gx_388.1; have rgx_388 := gx_388.2; have igx_388 : x_388.toInt = v3.toInt + 1 := (by have hc1 : (1 : Int32).toInt = 1 := (by decide); have h9 := gi_addI ex_388 (by have h1 := g_369.1; have h2 := (gi_c 1 1 (by decide)).1; have h3 := g_369.2; have h4 := (gi_c 1 1 (by decide)).2; omega) (by have h1 := g_369.1; have h2 := (gi_c 1 1 (by decide)).1; have h3 := g_369.2; have h4 := (gi_c 1 1 (by decide)).2; omega); rw [hc1] at h9; exact h9); have qgv3 := g_369.1; have rgv3 := g_369.2; omega) hP hD hS (lv_sub hl [2, 3, 4, 0] rfl)
          · have g_389 : gi r_383 1 2147483647 := gi_lt_r (Int32.not_le.mp c_386) (gi_c 0 0 (by decide)) (gi_any r_383) (by decide)
            refine lv_iload hx hb dX12_spanOf_35 (lv_at hl 0 rfl) ?_
            exact kr37 x_382 f_384 f_385 _ _ _ gx_382 hP hD hS (lv_sub hl [] rfl)
set_option maxHeartbeats 4000000 in
set_option maxRecDepth 100000 in
theorem sX12_spanOf (l : Launch) (dC : Nat → ClassId) (dI : Nat → Nat → Nat) (sz : Nat) (h0 : Nat) (mi : Nat → Int32) (mr : Nat → Nat) (km_must : ClassId) (fm_must : Nat → Int32) (km_least : ClassId) (fm_least : Nat → Int32) (km_pin : ClassId) (fm_pin : Nat → Int32) (km_ways : ClassId) (fm_ways : Nat → Int32) (p1 : Int32) (p2 : Int32) (gmi_0 : gi (mi 0) 0 24) (gmi_1 : gi (mi 1) 0 5) (gmi_2 : gi (mi 2) 0 5) (gmi_4 : gi (mi 4) 0 1) (gmi_7 : gi (mi 7) 0 6) (gmi_10 : gi (mi 10) 0 24) (gmi_17 : gi (mi 17) 0 8) (gmi_23 : gi (mi 23) 0 300) (gmi_24 : gi (mi 24) 0 1) (gmi_26 : gi (mi 26) 0 1600) (gmi_29 : gi (mi 29) 0 1600) (gmi_30 : gi (mi 30) 0 1600) (gmi_33 : gi (mi 33) 0 1) (gmi_37 : gi (mi 37) 0 1) (gmi_41 : gi (mi 41) 0 24) (gmi_50 : gi (mi 50) 0 1) (gmi_51 : gi (mi 51) 0 1) (gmi_56 : gi (mi 56) 0 80) (gp1 : gi p1 0 24) : Met l yX12_spanOf (.code yX12_spanOf cX12_spanOf 5 (some .int) :: wsGB) ({ frames := 5, cells := 0, slots := 0, locals := 123 }) (va_Pc [.ref h0, .int p1, .int p2] (fun U => U.heap.size = sz ∧ va_P (dC, dI) vwCl [(h0, .inr (12, fsMM mi mr)), ((mr 14), .inl (km_must, 25, .inl fm_must)), ((mr 15), .inl (km_least, 25, .inl fm_least)), ((mr 16), .inl (km_pin, 25, .inl fm_pin)), ((mr 17), .inl (km_ways, 6875, .inl fm_ways))] U.heap ∧ va_K (dC, dI) vwCl [(km_must, .int), (km_least, .int), (km_pin, .int), (km_ways, .int)] U ∧ va_D (fun _ => True) [(h0, .inr (12, fsMM mi mr)), ((mr 14), .inl (km_must, 25, .inl fm_must)), ((mr 15), .inl (km_least, 25, .inl fm_least)), ((mr 16), .inl (km_pin, 25, .inl fm_pin)), ((mr 17), .inl (km_ways, 6875, .inl fm_ways))])) (va_Qi (fun (r : Int32) (u : Unit) => gi r (-2) 720) (fun _ t => ∃ (z3 : Nat → Int32) (z4 : Nat → Int32), va_P (dC, dI) vwCl [(h0, .inr (12, fsMM mi mr)), ((mr 14), .inl (km_must, 25, .inl fm_must)), ((mr 15), .inl (km_least, 25, .inl fm_least)), ((mr 16), .inl (km_pin, 25, .inl z3)), ((mr 17), .inl (km_ways, 6875, .inl z4))] t.heap ∧ va_D (va_A [(h0, .inr (12, fsMM mi mr)), ((mr 14), .inl (km_must, 25, .inl fm_must)), ((mr 15), .inl (km_least, 25, .inl fm_least)), ((mr 16), .inl (km_pin, 25, .inl fm_pin)), ((mr 17), .inl (km_ways, 6875, .inl fm_ways))] sz) [(h0, .inr (12, fsMM mi mr)), ((mr 14), .inl (km_must, 25, .inl fm_must)), ((mr 15), .inl (km_least, 25, .inl fm_least)), ((mr 16), .inl (km_pin, 25, .inl z3)), ((mr 17), .inl (km_ways, 6875, .inl z4))]) (va_A [(h0, .inr (12, fsMM mi mr)), ((mr 14), .inl (km_must, 25, .inl fm_must)), ((mr 15), .inl (km_least, 25, .inl fm_least)), ((mr 16), .inl (km_pin, 25, .inl fm_pin)), ((mr 17), .inl (km_ways, 6875, .inl fm_ways))] sz)) 0 0 (va_A [(h0, .inr (12, fsMM mi mr)), ((mr 14), .inl (km_must, 25, .inl fm_must)), ((mr 15), .inl (km_least, 25, .inl fm_least)), ((mr 16), .inl (km_pin, 25, .inl fm_pin)), ((mr 17), .inl (km_ways, 6875, .inl fm_ways))] sz) := by
  refine Met.ofW (cc := cX12_spanOf) (maxL := 5) (ret := (some .int)) (by decide) rfl ?_
  intro p e s m args below meth c s₁ B hml hv
  obtain ⟨rfl, hsz, hP, hK, hD0⟩ := hv
  have hx := B.exec
  have hb := B.bytes
  have hr := B.returns
  have hts := atoms_spec (ws := (.code yX12_spanOf cX12_spanOf 5 (some .int) :: wsGB)) B.pre
  have hown : s.vm.findClass RX12 = some m.cls := findClass_of_methodNamed B.named
  have hlocks := B.notSynchronized
  subst hsz
  have hD := hD0.self (sz := s.heap.size)
  generalize hAe : va_A [(h0, .inr (12, fsMM mi mr)), ((mr 14), .inl (km_must, 25, .inl fm_must)), ((mr 15), .inl (km_least, 25, .inl fm_least)), ((mr 16), .inl (km_pin, 25, .inl fm_pin)), ((mr 17), .inl (km_ways, 6875, .inl fm_ways))] s.heap.size = A at hD ⊢
  have hA : ∀ q : Nat, s.heap.size ≤ q → A q := fun q h => by rw [← hAe]; exact Or.inr h
  have hS : va_S A s.heap s.heap [] := va_S.rf
  have hl := lv_entry ([.ref h0, .int p1, .int p2]) (n := 5) (Nat.le_of_ble_eq_true rfl)
  rw [lg_entry_eq]
  generalize (lg_sl ([.ref h0, .int p1, .int p2]) ++ List.replicate (5 - (lg_sl ([.ref h0, .int p1, .int p2])).length) Slot.unset).toArray = ls at hl ⊢
  have hl : lv_has ls 5 [(0, .ref h0), (1, .int p1), (2, .int p2)] := hl
  refine lv_iconst (v := 0) hx hb dX12_spanOf_0 (by decide) ?_
  refine lv_istore_n (lv' := [(3, .int 0), (0, .ref h0), (1, .int p1), (2, .int p2)]) hx hb dX12_spanOf_1 rfl hl (by decide) rfl (fun ls hl => ?_)
  refine (lp_sX12_spanOf h0 mi mr km_must fm_must km_least fm_least km_pin fm_pin km_ways fm_ways p1 p2 gmi_0 gmi_1 gmi_2 gmi_4 gmi_7 gmi_10 gmi_17 gmi_23 gmi_24 gmi_26 gmi_29 gmi_30 gmi_33 gmi_37 gmi_41 gmi_50 gmi_51 gmi_56 gp1 hx hb hml hown hts hK hA (Nat.le_of_ble_eq_true rfl) (Nat.le_of_ble_eq_true rfl) (Nat.zero_le _) (Nat.zero_le _) (fun v z3 z4 H locs ls gv hP hD hS hl => ?_) (fun v z3 z4 H locs ls gv hP hD hS hl => ?_) 64) 0 fm_pin fm_ways _ _ _ (gi_w (gi_c 0 0 (by decide)) (by decide)) (by have k0 : (0 : Int32).toInt = 0 := (by decide); omega) hP hD hS (lv_sub hl [1, 2, 3, 0] rfl)
  · skip
    exact W.iret (v := v) hx hb hr (fun t ht hW => ⟨⟨v, (), rfl, (gi_w gv (by decide)), z3, z4, by rw [ht]; exact hP, hD⟩, hS.F ht⟩) hS.2.2 dX12_spanOf_46
  · skip
    exact W.iret (v := v) hx hb hr (fun t ht hW => ⟨⟨v, (), rfl, (gi_w gv (by decide)), z3, z4, by rw [ht]; exact hP, hD⟩, hS.F ht⟩) hS.2.2 dX12_spanOf_37
theorem dX12_lengthBy_0 : decode cX12_lengthBy 0 = .ok (.aload_n 0, 1) := by decide +kernel
theorem dX12_lengthBy_1 : decode cX12_lengthBy 1 = .ok (.getfield 87, 3) := by decide +kernel
theorem dX12_lengthBy_4 : decode cX12_lengthBy 4 = .ok (.iload_n 1, 1) := by decide +kernel
theorem dX12_lengthBy_5 : decode cX12_lengthBy 5 = .ok (.iconst 1, 1) := by decide +kernel
theorem dX12_lengthBy_6 : decode cX12_lengthBy 6 = .ok (.iadd, 1) := by decide +kernel
theorem dX12_lengthBy_7 : decode cX12_lengthBy 7 = .ok (.iaload, 1) := by decide +kernel
theorem dX12_lengthBy_8 : decode cX12_lengthBy 8 = .ok (.aload_n 0, 1) := by decide +kernel
theorem dX12_lengthBy_9 : decode cX12_lengthBy 9 = .ok (.getfield 87, 3) := by decide +kernel
theorem dX12_lengthBy_12 : decode cX12_lengthBy 12 = .ok (.iload_n 1, 1) := by decide +kernel
theorem dX12_lengthBy_13 : decode cX12_lengthBy 13 = .ok (.iaload, 1) := by decide +kernel
theorem dX12_lengthBy_14 : decode cX12_lengthBy 14 = .ok (.isub, 1) := by decide +kernel
theorem dX12_lengthBy_15 : decode cX12_lengthBy 15 = .ok (.ireturn, 1) := by decide +kernel
set_option maxHeartbeats 4000000 in
set_option maxRecDepth 100000 in
theorem sX12_lengthBy (l : Launch) (dC : Nat → ClassId) (dI : Nat → Nat → Nat) (h0 : Nat) (mi : Nat → Int32) (mr : Nat → Nat) (km_official : ClassId) (fm_official : Nat → Int32) (p1 : Int32) (gmi_0 : gi (mi 0) 0 24) (gmi_1 : gi (mi 1) 0 5) (gmi_2 : gi (mi 2) 0 5) (gmi_4 : gi (mi 4) 0 1) (gmi_7 : gi (mi 7) 0 6) (gmi_10 : gi (mi 10) 0 24) (gmi_17 : gi (mi 17) 0 8) (gmi_23 : gi (mi 23) 0 300) (gmi_24 : gi (mi 24) 0 1) (gmi_26 : gi (mi 26) 0 1600) (gmi_29 : gi (mi 29) 0 1600) (gmi_30 : gi (mi 30) 0 1600) (gmi_33 : gi (mi 33) 0 1) (gmi_37 : gi (mi 37) 0 1) (gmi_41 : gi (mi 41) 0 24) (gmi_50 : gi (mi 50) 0 1) (gmi_51 : gi (mi 51) 0 1) (gmi_56 : gi (mi 56) 0 80) (gp1 : gi p1 0 23) : Met l yX12_lengthBy (.code yX12_lengthBy cX12_lengthBy 2 (some .int) :: wsGB) ({ frames := 0, cells := 0, slots := 0, locals := 0 }) (va_Pc [.ref h0, .int p1] (fun U => va_P (dC, dI) vwCl [(h0, .inr (12, fsMM mi mr)), ((mr 20), .inl (km_official, 25, .inl fm_official))] U.heap ∧ va_K (dC, dI) vwCl [(km_official, .int)] U)) (va_Qi (fun (r : Int32) (u : Unit) => gi r (-2147483648) 2147483647) (fun _ _ => True) (fun _ => False)) 0 0 (fun _ => False) := by
  refine Met.ofW (cc := cX12_lengthBy) (maxL := 2) (ret := (some .int)) (by decide) rfl ?_
  intro p e s m args below meth c s₁ B hml hv
  obtain ⟨rfl, hP, hK⟩ := hv
  have hx := B.exec
  have hb := B.bytes
  have hr := B.returns
  have hts := atoms_spec (ws := (.code yX12_lengthBy cX12_lengthBy 2 (some .int) :: wsGB)) B.pre
  have hown : s.vm.findClass RX12 = some m.cls := findClass_of_methodNamed B.named
  have hlocks := B.notSynchronized
  have hS : va_S (fun _ => False) s.heap s.heap [] := va_S.rf
  have hl := lv_entry ([.ref h0, .int p1]) (n := 2) (Nat.le_of_ble_eq_true rfl)
  rw [lg_entry_eq]
  generalize (lg_sl ([.ref h0, .int p1]) ++ List.replicate (2 - (lg_sl ([.ref h0, .int p1])).length) Slot.unset).toArray = ls at hl ⊢
  have hl : lv_has ls 2 [(0, .ref h0), (1, .int p1)] := hl
  refine lv_aload_n hx hb dX12_lengthBy_0 rfl (lv_at hl 0 rfl) ?_
  refine va_get (D := (dC, dI)) (ci := 12) (v := .ref (mr 20)) (C := RX12) (T := TX12) (N := 57) hx hb hts (fun w h => List.mem_cons_of_mem _ (jnGB_X12 w h)) hown hK hP 0 rfl rfl 46 (by decide) (hts _ (List.mem_cons_of_mem _ mGB_36)) (fun _ h9 => h9) rfl dX12_lengthBy_1 ?_
  refine lv_iload_n hx hb dX12_lengthBy_4 rfl (lv_at hl 1 rfl) ?_
  refine lv_iconst (v := 1) hx hb dX12_lengthBy_5 (by decide) ?_
  refine lv_iadd hx hb dX12_lengthBy_6 ?_
  refine lv_topi (fun x_5 ex_5 => ?_)
  have gx_5 : gi x_5 1 24 := gi_add ex_5 gp1 (gi_c 1 1 (by decide)) (by decide)
  refine va_iald hx hb hK hP 1 0 rfl rfl (gi_in gx_5 (by decide)) dX12_lengthBy_7 ?_
  refine lv_topi (fun x_6 ex_6 => ?_)
  refine lv_aload_n hx hb dX12_lengthBy_8 rfl (lv_at hl 0 rfl) ?_
  refine va_get (D := (dC, dI)) (ci := 12) (v := .ref (mr 20)) (C := RX12) (T := TX12) (N := 57) hx hb hts (fun w h => List.mem_cons_of_mem _ (jnGB_X12 w h)) hown hK hP 0 rfl rfl 46 (by decide) (hts _ (List.mem_cons_of_mem _ mGB_36)) (fun _ h9 => h9) rfl dX12_lengthBy_9 ?_
  refine lv_iload_n hx hb dX12_lengthBy_12 rfl (lv_at hl 1 rfl) ?_
  refine va_iald hx hb hK hP 1 0 rfl rfl (gi_in gp1 (by decide)) dX12_lengthBy_13 ?_
  refine lv_topi (fun x_7 ex_7 => ?_)
  refine lv_isub hx hb dX12_lengthBy_14 ?_
  refine lv_topi (fun x_8 ex_8 => ?_)
  exact W.iret (v := x_8) hx hb hr (fun t ht hW => ⟨⟨x_8, (), rfl, (gi_any x_8), trivial⟩, hS.F ht⟩) hS.2.2 dX12_lengthBy_15
theorem dX12_dayBy_0 : decode cX12_dayBy 0 = .ok (.aload_n 0, 1) := by decide +kernel
theorem dX12_dayBy_1 : decode cX12_dayBy 1 = .ok (.getfield 87, 3) := by decide +kernel
theorem dX12_dayBy_4 : decode cX12_dayBy 4 = .ok (.iload_n 1, 1) := by decide +kernel
theorem dX12_dayBy_5 : decode cX12_dayBy 5 = .ok (.iaload, 1) := by decide +kernel
theorem dX12_dayBy_6 : decode cX12_dayBy 6 = .ok (.iload_n 2, 1) := by decide +kernel
theorem dX12_dayBy_7 : decode cX12_dayBy 7 = .ok (.aload_n 0, 1) := by decide +kernel
theorem dX12_dayBy_8 : decode cX12_dayBy 8 = .ok (.iload_n 1, 1) := by decide +kernel
theorem dX12_dayBy_9 : decode cX12_dayBy 9 = .ok (.invokevirtual 404, 3) := by decide +kernel
theorem dX12_dayBy_12 : decode cX12_dayBy 12 = .ok (.invokestatic 168, 3) := by decide +kernel
theorem dX12_dayBy_15 : decode cX12_dayBy 15 = .ok (.iadd, 1) := by decide +kernel
theorem dX12_dayBy_16 : decode cX12_dayBy 16 = .ok (.iconst 1, 1) := by decide +kernel
theorem dX12_dayBy_17 : decode cX12_dayBy 17 = .ok (.isub, 1) := by decide +kernel
theorem dX12_dayBy_18 : decode cX12_dayBy 18 = .ok (.ireturn, 1) := by decide +kernel
set_option maxHeartbeats 4000000 in
set_option maxRecDepth 100000 in
theorem sX12_dayBy (l : Launch) (dC : Nat → ClassId) (dI : Nat → Nat → Nat) (h0 : Nat) (mi : Nat → Int32) (mr : Nat → Nat) (km_official : ClassId) (fm_official : Nat → Int32) (p1 : Int32) (p2 : Int32) (gmi_0 : gi (mi 0) 0 24) (gmi_1 : gi (mi 1) 0 5) (gmi_2 : gi (mi 2) 0 5) (gmi_4 : gi (mi 4) 0 1) (gmi_7 : gi (mi 7) 0 6) (gmi_10 : gi (mi 10) 0 24) (gmi_17 : gi (mi 17) 0 8) (gmi_23 : gi (mi 23) 0 300) (gmi_24 : gi (mi 24) 0 1) (gmi_26 : gi (mi 26) 0 1600) (gmi_29 : gi (mi 29) 0 1600) (gmi_30 : gi (mi 30) 0 1600) (gmi_33 : gi (mi 33) 0 1) (gmi_37 : gi (mi 37) 0 1) (gmi_41 : gi (mi 41) 0 24) (gmi_50 : gi (mi 50) 0 1) (gmi_51 : gi (mi 51) 0 1) (gmi_56 : gi (mi 56) 0 80) (gp1 : gi p1 0 23) : Met l yX12_dayBy (.code yX12_dayBy cX12_dayBy 3 (some .int) :: wsGB) ({ frames := 1, cells := 0, slots := 0, locals := 21 }) (va_Pc [.ref h0, .int p1, .int p2] (fun U => va_P (dC, dI) vwCl [(h0, .inr (12, fsMM mi mr)), ((mr 20), .inl (km_official, 25, .inl fm_official))] U.heap ∧ va_K (dC, dI) vwCl [(km_official, .int)] U)) (va_Qi (fun (r : Int32) (u : Unit) => gi r (-2147483648) 2147483647) (fun _ _ => True) (fun _ => False)) 0 0 (fun _ => False) := by
  refine Met.ofW (cc := cX12_dayBy) (maxL := 3) (ret := (some .int)) (by decide) rfl ?_
  intro p e s m args below meth c s₁ B hml hv
  obtain ⟨rfl, hP, hK⟩ := hv
  have hx := B.exec
  have hb := B.bytes
  have hr := B.returns
  have hts := atoms_spec (ws := (.code yX12_dayBy cX12_dayBy 3 (some .int) :: wsGB)) B.pre
  have hown : s.vm.findClass RX12 = some m.cls := findClass_of_methodNamed B.named
  have hlocks := B.notSynchronized
  have hS : va_S (fun _ => False) s.heap s.heap [] := va_S.rf
  have hl := lv_entry ([.ref h0, .int p1, .int p2]) (n := 3) (Nat.le_of_ble_eq_true rfl)
  rw [lg_entry_eq]
  generalize (lg_sl ([.ref h0, .int p1, .int p2]) ++ List.replicate (3 - (lg_sl ([.ref h0, .int p1, .int p2])).length) Slot.unset).toArray = ls at hl ⊢
  have hl : lv_has ls 3 [(0, .ref h0), (1, .int p1), (2, .int p2)] := hl
  refine lv_aload_n hx hb dX12_dayBy_0 rfl (lv_at hl 0 rfl) ?_
  refine va_get (D := (dC, dI)) (ci := 12) (v := .ref (mr 20)) (C := RX12) (T := TX12) (N := 57) hx hb hts (fun w h => List.mem_cons_of_mem _ (jnGB_X12 w h)) hown hK hP 0 rfl rfl 46 (by decide) (hts _ (List.mem_cons_of_mem _ mGB_36)) (fun _ h9 => h9) rfl dX12_dayBy_1 ?_
  refine lv_iload_n hx hb dX12_dayBy_4 rfl (lv_at hl 1 rfl) ?_
  refine va_iald hx hb hK hP 1 0 rfl rfl (gi_in gp1 (by decide)) dX12_dayBy_5 ?_
  refine lv_topi (fun x_6 ex_6 => ?_)
  refine lv_iload_n hx hb dX12_dayBy_6 rfl (lv_at hl 2 rfl) ?_
  refine lv_aload_n hx hb dX12_dayBy_7 rfl (lv_at hl 0 rfl) ?_
  refine lv_iload_n hx hb dX12_dayBy_8 rfl (lv_at hl 1 rfl) ?_
  have hPc := hP.sub (ws' := [(h0, .inr (12, fsMM mi mr)), ((mr 20), .inl (km_official, 25, .inl fm_official))]) [0, 1] rfl
  have hKc := hK.sub (tys' := [(km_official, .int)]) [0] rfl
  refine va_calli (va_runV (As := [.int p1]) (rest := [.int p2, .int x_6]) ⟨hx, hb, hml, hown, hts⟩ (sX12_lengthBy l dC dI h0 mi mr km_official fm_official p1 gmi_0 gmi_1 gmi_2 gmi_4 gmi_7 gmi_10 gmi_17 gmi_23 gmi_24 gmi_26 gmi_29 gmi_30 gmi_33 gmi_37 gmi_41 gmi_50 gmi_51 gmi_56 gp1) (cwV 1 hts (gz_gV mGB_423 mGB_424 mGB_425 mGB_1 mGB_426 goodGB) rfl rfl rfl (by decide +kernel) ⟨Nat.le_of_ble_eq_true rfl, Nat.le_of_ble_eq_true rfl⟩) ⟨fun a U g mk q => by obtain ⟨q0, qP, qK⟩ := q; exact ⟨q0, qP, va_K.moved (u := U) (U := U.calling g mk a) (Vm.Alike.refl U.vm) qK⟩, va_recv hKc hPc (ci := 12) (q0 := 0) rfl rfl, fun U hU hW => ⟨rfl, by rw [hU]; exact hPc, va_K.moved hW.alike hKc⟩⟩ rfl rfl hl.1 rfl (lv_room (Nat.le_of_ble_eq_true rfl)) dX12_dayBy_9 ⟨Nat.zero_le _, Nat.zero_le _⟩) hS (fun q _ h => h.elim) (fun q h => h.elim) (fun r_7 u t H1 locs ht hvm hw hB hz1 hk1 hS => ?_)
  have hP := gz_keep hP hk1
  generalize H1 = H at hP hS ⊢
  refine va_mmin (own := RX12) hx hb (by rw [hml]; exact hl.1.symm) hown (hts _ (List.mem_cons_of_mem _ mGB_138)) (hts _ (List.mem_cons_of_mem _ mGB_97)) (hts _ (List.mem_cons_of_mem _ mGB_98)) (hts _ (List.mem_cons_of_mem _ mGB_99)) (Nat.le_of_ble_eq_true rfl) (Nat.le_of_ble_eq_true rfl) (Nat.zero_le _) (Nat.zero_le _) dX12_dayBy_12 ?_
  refine lv_topi (fun x_8 ex_8 => ?_)
  refine lv_iadd hx hb dX12_dayBy_15 ?_
  refine lv_topi (fun x_9 ex_9 => ?_)
  refine lv_iconst (v := 1) hx hb dX12_dayBy_16 (by decide) ?_
  refine lv_isub hx hb dX12_dayBy_17 ?_
  refine lv_topi (fun x_10 ex_10 => ?_)
  exact W.iret (v := x_10) hx hb hr (fun t ht hW => ⟨⟨x_10, (), rfl, (gi_any x_10), trivial⟩, hS.F ht⟩) hS.2.2 dX12_dayBy_18
theorem dX12_isInMonth_0 : decode cX12_isInMonth 0 = .ok (.iload_n 0, 1) := by decide +kernel
theorem dX12_isInMonth_1 : decode cX12_isInMonth 1 = .ok (.i2l, 1) := by decide +kernel
theorem dX12_isInMonth_2 : decode cX12_isInMonth 2 = .ok (.lconst 1, 1) := by decide +kernel
theorem dX12_isInMonth_3 : decode cX12_isInMonth 3 = .ok (.ldc2_w 407, 3) := by decide +kernel
theorem dX12_isInMonth_6 : decode cX12_isInMonth 6 = .ok (.invokestatic 102, 3) := by decide +kernel
theorem dX12_isInMonth_9 : decode cX12_isInMonth 9 = .ok (.ireturn, 1) := by decide +kernel
set_option maxHeartbeats 4000000 in
set_option maxRecDepth 100000 in
theorem sX12_isInMonth (l : Launch) (dC : Nat → ClassId) (dI : Nat → Nat → Nat) (p0 : Int32)  : Met l yX12_isInMonth (.code yX12_isInMonth cX12_isInMonth 1 (some .boolean) :: wsGB) ({ frames := 1, cells := 0, slots := 0, locals := 25 }) (va_Pc [.int p0] (fun U => va_P (dC, dI) vwCl [] U.heap ∧ va_K (dC, dI) vwCl [] U)) (va_Qi (fun (r : Int32) (u : Unit) => gi r 0 1 ∧ (r.toInt = 1 → gi p0 1 30)) (fun _ _ => True) (fun _ => False)) 0 0 (fun _ => False) := by
  refine Met.ofW (cc := cX12_isInMonth) (maxL := 1) (ret := (some .boolean)) (by decide) rfl ?_
  intro p e s m args below meth c s₁ B hml hv
  obtain ⟨rfl, hP, hK⟩ := hv
  have hx := B.exec
  have hb := B.bytes
  have hr := B.returns
  have hts := atoms_spec (ws := (.code yX12_isInMonth cX12_isInMonth 1 (some .boolean) :: wsGB)) B.pre
  have hown : s.vm.findClass RX12 = some m.cls := findClass_of_methodNamed B.named
  have hlocks := B.notSynchronized
  have hS : va_S (fun _ => False) s.heap s.heap [] := va_S.rf
  have hl := lv_entry ([.int p0]) (n := 1) (Nat.le_of_ble_eq_true rfl)
  rw [lg_entry_eq]
  generalize (lg_sl ([.int p0]) ++ List.replicate (1 - (lg_sl ([.int p0])).length) Slot.unset).toArray = ls at hl ⊢
  have hl : lv_has ls 1 [(0, .int p0)] := hl
  refine lv_iload_n hx hb dX12_isInMonth_0 rfl (lv_at hl 0 rfl) ?_
  refine lv_i2l (v := (p0).toInt64) hx hb dX12_isInMonth_1 rfl ?_
  refine lv_topl (fun l_3 el_3 => ?_)
  refine lv_lconst (v := 1) hx hb dX12_isInMonth_2 (by decide) ?_
  refine lv_ldc2 (own := RX12) (v := 30) hx hb hown (hts _ (List.mem_cons_of_mem _ mGB_418)) dX12_isInMonth_3 ?_
  have hPc := hP.sub (ws' := []) [] rfl
  have hKc := hK.sub (tys' := []) [] rfl
  refine va_calli (va_runS (As := [.long l_3, .long 1, .long 30]) (rest := []) ⟨hx, hb, hml, hown, hts⟩ (sX12_in l dC dI l_3 1 30) (cwS 3 hts (gz_gS mGB_47 mGB_48 mGB_1 mGB_49 goodGB) rfl rfl rfl (by decide +kernel) ⟨Nat.le_of_ble_eq_true rfl, Nat.le_of_ble_eq_true rfl⟩) ⟨fun a U g mk q => by obtain ⟨q0, qP, qK⟩ := q; exact ⟨q0, qP, va_K.moved (u := U) (U := U.calling g mk a) (Vm.Alike.refl U.vm) qK⟩, fun U hU hW => ⟨rfl, by rw [hU]; exact hPc, va_K.moved hW.alike hKc⟩⟩ rfl rfl hl.1 rfl (lv_room (Nat.le_of_ble_eq_true rfl)) dX12_isInMonth_6 ⟨Nat.zero_le _, Nat.zero_le _⟩) hS (fun q _ h => h.elim) (fun q h => h.elim) (fun r_4 u t H1 locs ht hvm hw hB hz1 hk1 hS => ?_)
  obtain ⟨hw, hE⟩ := hw
  have hP := gz_keep hP hk1
  generalize H1 = H at hP hS ⊢
  have gr_4 : gi r_4 0 1 := hw.1
  have hqr_4 := hw.2
  exact W.zret (v := r_4) hx hb hr (gz_nb gr_4) (fun t ht hW => ⟨⟨r_4, (), rfl, ⟨gr_4, (fun h1 => (gi_w (gz_inr (hqr_4.1 h1) el_3 (A := 1) (B := 30) (by decide) (by decide)) (by decide)))⟩, trivial⟩, hS.F ht⟩) hS.2.2 dX12_isInMonth_9
theorem dX12_datesWith_0 : decode cX12_datesWith 0 = .ok (.iload_n 3, 1) := by decide +kernel
theorem dX12_datesWith_1 : decode cX12_datesWith 1 = .ok (.iload_n 2, 1) := by decide +kernel
theorem dX12_datesWith_2 : decode cX12_datesWith 2 = .ok (.isub, 1) := by decide +kernel
theorem dX12_datesWith_3 : decode cX12_datesWith 3 = .ok (.iconst 1, 1) := by decide +kernel
theorem dX12_datesWith_4 : decode cX12_datesWith 4 = .ok (.iadd, 1) := by decide +kernel
theorem dX12_datesWith_5 : decode cX12_datesWith 5 = .ok (.istore 4, 2) := by decide +kernel
theorem dX12_datesWith_7 : decode cX12_datesWith 7 = .ok (.iload_n 2, 1) := by decide +kernel
theorem dX12_datesWith_8 : decode cX12_datesWith 8 = .ok (.bipush 30, 2) := by decide +kernel
theorem dX12_datesWith_10 : decode cX12_datesWith 10 = .ok (.if_icmp .ge 13, 3) := by decide +kernel
theorem dX12_datesWith_13 : decode cX12_datesWith 13 = .ok (.aload_n 0, 1) := by decide +kernel
theorem dX12_datesWith_14 : decode cX12_datesWith 14 = .ok (.iload_n 1, 1) := by decide +kernel
theorem dX12_datesWith_15 : decode cX12_datesWith 15 = .ok (.iload 4, 2) := by decide +kernel
theorem dX12_datesWith_17 : decode cX12_datesWith 17 = .ok (.invokevirtual 388, 3) := by decide +kernel
theorem dX12_datesWith_20 : decode cX12_datesWith 20 = .ok (.goto 18, 3) := by decide +kernel
theorem dX12_datesWith_23 : decode cX12_datesWith 23 = .ok (.aload_n 0, 1) := by decide +kernel
theorem dX12_datesWith_24 : decode cX12_datesWith 24 = .ok (.iload_n 1, 1) := by decide +kernel
theorem dX12_datesWith_25 : decode cX12_datesWith 25 = .ok (.iload 4, 2) := by decide +kernel
theorem dX12_datesWith_27 : decode cX12_datesWith 27 = .ok (.iload_n 1, 1) := by decide +kernel
theorem dX12_datesWith_28 : decode cX12_datesWith 28 = .ok (.iconst 1, 1) := by decide +kernel
theorem dX12_datesWith_29 : decode cX12_datesWith 29 = .ok (.iadd, 1) := by decide +kernel
theorem dX12_datesWith_30 : decode cX12_datesWith 30 = .ok (.iload 4, 2) := by decide +kernel
theorem dX12_datesWith_32 : decode cX12_datesWith 32 = .ok (.bipush 30, 2) := by decide +kernel
theorem dX12_datesWith_34 : decode cX12_datesWith 34 = .ok (.iadd, 1) := by decide +kernel
theorem dX12_datesWith_35 : decode cX12_datesWith 35 = .ok (.invokevirtual 385, 3) := by decide +kernel
theorem dX12_datesWith_38 : decode cX12_datesWith 38 = .ok (.ireturn, 1) := by decide +kernel
set_option maxHeartbeats 4000000 in
set_option maxRecDepth 100000 in
theorem sX12_datesWith (l : Launch) (dC : Nat → ClassId) (dI : Nat → Nat → Nat) (sz : Nat) (h0 : Nat) (mi : Nat → Int32) (mr : Nat → Nat) (km_must : ClassId) (fm_must : Nat → Int32) (km_least : ClassId) (fm_least : Nat → Int32) (km_pin : ClassId) (fm_pin : Nat → Int32) (km_ways : ClassId) (fm_ways : Nat → Int32) (p1 : Int32) (p2 : Int32) (p3 : Int32) (gmi_0 : gi (mi 0) 0 24) (gmi_1 : gi (mi 1) 0 5) (gmi_2 : gi (mi 2) 0 5) (gmi_4 : gi (mi 4) 0 1) (gmi_7 : gi (mi 7) 0 6) (gmi_10 : gi (mi 10) 0 24) (gmi_17 : gi (mi 17) 0 8) (gmi_23 : gi (mi 23) 0 300) (gmi_24 : gi (mi 24) 0 1) (gmi_26 : gi (mi 26) 0 1600) (gmi_29 : gi (mi 29) 0 1600) (gmi_30 : gi (mi 30) 0 1600) (gmi_33 : gi (mi 33) 0 1) (gmi_37 : gi (mi 37) 0 1) (gmi_41 : gi (mi 41) 0 24) (gmi_50 : gi (mi 50) 0 1) (gmi_51 : gi (mi 51) 0 1) (gmi_56 : gi (mi 56) 0 80) (gp1 : gi p1 0 23) : Met l yX12_datesWith (.code yX12_datesWith cX12_datesWith 5 (some .int) :: wsGB) ({ frames := 5, cells := 0, slots := 0, locals := 123 }) (va_Pc [.ref h0, .int p1, .int p2, .int p3] (fun U => U.heap.size = sz ∧ va_P (dC, dI) vwCl [(h0, .inr (12, fsMM mi mr)), ((mr 14), .inl (km_must, 25, .inl fm_must)), ((mr 15), .inl (km_least, 25, .inl fm_least)), ((mr 16), .inl (km_pin, 25, .inl fm_pin)), ((mr 17), .inl (km_ways, 6875, .inl fm_ways))] U.heap ∧ va_K (dC, dI) vwCl [(km_must, .int), (km_least, .int), (km_pin, .int), (km_ways, .int)] U ∧ va_D (fun _ => True) [(h0, .inr (12, fsMM mi mr)), ((mr 14), .inl (km_must, 25, .inl fm_must)), ((mr 15), .inl (km_least, 25, .inl fm_least)), ((mr 16), .inl (km_pin, 25, .inl fm_pin)), ((mr 17), .inl (km_ways, 6875, .inl fm_ways))])) (va_Qi (fun (r : Int32) (u : Unit) => gi r (-2147483648) 2147483647) (fun _ t => ∃ (z3 : Nat → Int32) (z4 : Nat → Int32), va_P (dC, dI) vwCl [(h0, .inr (12, fsMM mi mr)), ((mr 14), .inl (km_must, 25, .inl fm_must)), ((mr 15), .inl (km_least, 25, .inl fm_least)), ((mr 16), .inl (km_pin, 25, .inl z3)), ((mr 17), .inl (km_ways, 6875, .inl z4))] t.heap ∧ va_D (va_A [(h0, .inr (12, fsMM mi mr)), ((mr 14), .inl (km_must, 25, .inl fm_must)), ((mr 15), .inl (km_least, 25, .inl fm_least)), ((mr 16), .inl (km_pin, 25, .inl fm_pin)), ((mr 17), .inl (km_ways, 6875, .inl fm_ways))] sz) [(h0, .inr (12, fsMM mi mr)), ((mr 14), .inl (km_must, 25, .inl fm_must)), ((mr 15), .inl (km_least, 25, .inl fm_least)), ((mr 16), .inl (km_pin, 25, .inl z3)), ((mr 17), .inl (km_ways, 6875, .inl z4))]) (va_A [(h0, .inr (12, fsMM mi mr)), ((mr 14), .inl (km_must, 25, .inl fm_must)), ((mr 15), .inl (km_least, 25, .inl fm_least)), ((mr 16), .inl (km_pin, 25, .inl fm_pin)), ((mr 17), .inl (km_ways, 6875, .inl fm_ways))] sz)) 0 0 (va_A [(h0, .inr (12, fsMM mi mr)), ((mr 14), .inl (km_must, 25, .inl fm_must)), ((mr 15), .inl (km_least, 25, .inl fm_least)), ((mr 16), .inl (km_pin, 25, .inl fm_pin)), ((mr 17), .inl (km_ways, 6875, .inl fm_ways))] sz) := by
  refine Met.ofW (cc := cX12_datesWith) (maxL := 5) (ret := (some .int)) (by decide) rfl ?_
  intro p e s m args below meth c s₁ B hml hv
  obtain ⟨rfl, hsz, hP, hK, hD0⟩ := hv
  have hx := B.exec
  have hb := B.bytes
  have hr := B.returns
  have hts := atoms_spec (ws := (.code yX12_datesWith cX12_datesWith 5 (some .int) :: wsGB)) B.pre
  have hown : s.vm.findClass RX12 = some m.cls := findClass_of_methodNamed B.named
  have hlocks := B.notSynchronized
  subst hsz
  have hD := hD0.self (sz := s.heap.size)
  generalize hAe : va_A [(h0, .inr (12, fsMM mi mr)), ((mr 14), .inl (km_must, 25, .inl fm_must)), ((mr 15), .inl (km_least, 25, .inl fm_least)), ((mr 16), .inl (km_pin, 25, .inl fm_pin)), ((mr 17), .inl (km_ways, 6875, .inl fm_ways))] s.heap.size = A at hD ⊢
  have hA : ∀ q : Nat, s.heap.size ≤ q → A q := fun q h => by rw [← hAe]; exact Or.inr h
  have hS : va_S A s.heap s.heap [] := va_S.rf
  have hl := lv_entry ([.ref h0, .int p1, .int p2, .int p3]) (n := 5) (Nat.le_of_ble_eq_true rfl)
  rw [lg_entry_eq]
  generalize (lg_sl ([.ref h0, .int p1, .int p2, .int p3]) ++ List.replicate (5 - (lg_sl ([.ref h0, .int p1, .int p2, .int p3])).length) Slot.unset).toArray = ls at hl ⊢
  have hl : lv_has ls 5 [(0, .ref h0), (1, .int p1), (2, .int p2), (3, .int p3)] := hl
  refine lv_iload_n hx hb dX12_datesWith_0 rfl (lv_at hl 3 rfl) ?_
  refine lv_iload_n hx hb dX12_datesWith_1 rfl (lv_at hl 2 rfl) ?_
  refine lv_isub hx hb dX12_datesWith_2 ?_
  refine lv_topi (fun x_27 ex_27 => ?_)
  refine lv_iconst (v := 1) hx hb dX12_datesWith_3 (by decide) ?_
  refine lv_iadd hx hb dX12_datesWith_4 ?_
  refine lv_topi (fun x_28 ex_28 => ?_)
  refine lv_istore (lv' := [(4, .int x_28), (0, .ref h0), (1, .int p1), (2, .int p2), (3, .int p3)]) hx hb dX12_datesWith_5 hl (by decide) rfl (fun ls hl => ?_)
  refine lv_iload_n hx hb dX12_datesWith_7 rfl (lv_at hl 3 rfl) ?_
  refine lv_bipush (v := 30) hx hb dX12_datesWith_8 (by decide) ?_
  refine lv_icmp_ge (tgt := 23) hx hb dX12_datesWith_10 (by decide) (fun c_29 => ?_) (fun c_29 => ?_)
  · have g_30 : gi p2 30 2147483647 := gi_le_r c_29 (gi_c 30 30 (by decide)) (gi_any p2)
    refine lv_aload_n hx hb dX12_datesWith_23 rfl (lv_at hl 1 rfl) ?_
    refine lv_iload_n hx hb dX12_datesWith_24 rfl (lv_at hl 2 rfl) ?_
    refine lv_iload hx hb dX12_datesWith_25 (lv_at hl 0 rfl) ?_
    refine lv_iload_n hx hb dX12_datesWith_27 rfl (lv_at hl 2 rfl) ?_
    refine lv_iconst (v := 1) hx hb dX12_datesWith_28 (by decide) ?_
    refine lv_iadd hx hb dX12_datesWith_29 ?_
    refine lv_topi (fun x_31 ex_31 => ?_)
    have gx_31 : gi x_31 1 24 := gi_add ex_31 gp1 (gi_c 1 1 (by decide)) (by decide)
    refine lv_iload hx hb dX12_datesWith_30 (lv_at hl 0 rfl) ?_
    refine lv_bipush (v := 30) hx hb dX12_datesWith_32 (by decide) ?_
    refine lv_iadd hx hb dX12_datesWith_34 ?_
    refine lv_topi (fun x_32 ex_32 => ?_)
    have hPc := hP.sub (ws' := [(h0, .inr (12, fsMM mi mr)), ((mr 14), .inl (km_must, 25, .inl fm_must)), ((mr 15), .inl (km_least, 25, .inl fm_least)), ((mr 16), .inl (km_pin, 25, .inl fm_pin)), ((mr 17), .inl (km_ways, 6875, .inl fm_ways))]) [0, 1, 2, 3, 4] rfl
    have hKc := hK.sub (tys' := [(km_must, .int), (km_least, .int), (km_pin, .int), (km_ways, .int)]) [0, 1, 2, 3] rfl
    have hDc := hD.sub (ws' := [(h0, .inr (12, fsMM mi mr)), ((mr 14), .inl (km_must, 25, .inl fm_must)), ((mr 15), .inl (km_least, 25, .inl fm_least)), ((mr 16), .inl (km_pin, 25, .inl fm_pin)), ((mr 17), .inl (km_ways, 6875, .inl fm_ways))]) [0, 1, 2, 3, 4] (by decide) rfl
    have hFc := va_free (wc := [(h0, .inr (12, fsMM mi mr)), ((mr 14), .inl (km_must, 25, .inl fm_must)), ((mr 15), .inl (km_least, 25, .inl fm_least)), ((mr 16), .inl (km_pin, 25, .inl fm_pin)), ((mr 17), .inl (km_ways, 6875, .inl fm_ways))]) hD hS hA [0, 1, 2, 3, 4] rfl
    refine va_calli (va_runV (As := [.int p1, .int x_28, .int x_31, .int x_32]) (rest := []) ⟨hx, hb, hml, hown, hts⟩ (sX12_countsWith l dC dI s.heap.size h0 mi mr km_must fm_must km_least fm_least km_pin fm_pin km_ways fm_ways p1 x_28 x_31 x_32 gmi_0 gmi_1 gmi_2 gmi_4 gmi_7 gmi_10 gmi_17 gmi_23 gmi_24 gmi_26 gmi_29 gmi_30 gmi_33 gmi_37 gmi_41 gmi_50 gmi_51 gmi_56 (gi_w gp1 (by decide)) (gi_w gx_31 (by decide))) (cwV 4 hts (gz_gV mGB_377 mGB_378 mGB_379 mGB_1 mGB_380 goodGB) rfl rfl rfl (by decide +kernel) ⟨Nat.le_of_ble_eq_true rfl, Nat.le_of_ble_eq_true rfl⟩) ⟨fun a U g mk q => by obtain ⟨q0, q1, qP, qK, qD⟩ := q; exact ⟨q0, q1, qP, va_K.moved (u := U) (U := U.calling g mk a) (Vm.Alike.refl U.vm) qK, qD⟩, va_recv hKc hPc (ci := 12) (q0 := 0) rfl rfl, fun U hU hW => ⟨rfl, by rw [hU], by rw [hU]; exact hPc, va_K.moved hW.alike hKc, hDc.weaken (fun _ _ _ _ => trivial)⟩⟩ rfl rfl hl.1 rfl (lv_room (Nat.le_of_ble_eq_true rfl)) dX12_datesWith_35 ⟨Nat.zero_le _, Nat.zero_le _⟩) hS (fun q _ h => hFc q h) hFc (fun r_33 u t H1 locs ht hvm hw hB hz1 hk1 hS => ?_)
    obtain ⟨f_34, f_35, hP1, hD1⟩ := hB
    rw [ht] at hP1
    obtain ⟨hP, hD⟩ := va_join (wr := []) (w1 := [(h0, .inr (12, fsMM mi mr)), ((mr 14), .inl (km_must, 25, .inl fm_must)), ((mr 15), .inl (km_least, 25, .inl fm_least)), ((mr 16), .inl (km_pin, 25, .inl f_34)), ((mr 17), .inl (km_ways, 6875, .inl f_35))]) hP hD [0, 1, 2, 3, 4] [] rfl rfl (by decide) (by decide) hk1 hFc hP1 hD1
    have hP := hP.sub (ws' := [(h0, .inr (12, fsMM mi mr)), ((mr 14), .inl (km_must, 25, .inl fm_must)), ((mr 15), .inl (km_least, 25, .inl fm_least)), ((mr 16), .inl (km_pin, 25, .inl f_34)), ((mr 17), .inl (km_ways, 6875, .inl f_35))]) [0, 1, 2, 3, 4] rfl
    have hD := hD.sub (ws' := [(h0, .inr (12, fsMM mi mr)), ((mr 14), .inl (km_must, 25, .inl fm_must)), ((mr 15), .inl (km_least, 25, .inl fm_least)), ((mr 16), .inl (km_pin, 25, .inl f_34)), ((mr 17), .inl (km_ways, 6875, .inl f_35))]) [0, 1, 2, 3, 4] (by decide) rfl
    generalize H1 = H at hP hS ⊢
    exact W.iret (v := r_33) hx hb hr (fun t ht hW => ⟨⟨r_33, (), rfl, (gi_any r_33), f_34, f_35, by rw [ht]; exact hP, hD⟩, hS.F ht⟩) hS.2.2 dX12_datesWith_38
  · have g_36 : gi p2 (-2147483648) 29 := gi_lt_l (Int32.not_le.mp c_29) (gi_any p2) (gi_c 30 30 (by decide)) (by decide)
    refine lv_aload_n hx hb dX12_datesWith_13 rfl (lv_at hl 1 rfl) ?_
    refine lv_iload_n hx hb dX12_datesWith_14 rfl (lv_at hl 2 rfl) ?_
    refine lv_iload hx hb dX12_datesWith_15 (lv_at hl 0 rfl) ?_
    have hPc := hP.sub (ws' := [(h0, .inr (12, fsMM mi mr)), ((mr 14), .inl (km_must, 25, .inl fm_must)), ((mr 15), .inl (km_least, 25, .inl fm_least)), ((mr 16), .inl (km_pin, 25, .inl fm_pin)), ((mr 17), .inl (km_ways, 6875, .inl fm_ways))]) [0, 1, 2, 3, 4] rfl
    have hKc := hK.sub (tys' := [(km_must, .int), (km_least, .int), (km_pin, .int), (km_ways, .int)]) [0, 1, 2, 3] rfl
    have hDc := hD.sub (ws' := [(h0, .inr (12, fsMM mi mr)), ((mr 14), .inl (km_must, 25, .inl fm_must)), ((mr 15), .inl (km_least, 25, .inl fm_least)), ((mr 16), .inl (km_pin, 25, .inl fm_pin)), ((mr 17), .inl (km_ways, 6875, .inl fm_ways))]) [0, 1, 2, 3, 4] (by decide) rfl
    have hFc := va_free (wc := [(h0, .inr (12, fsMM mi mr)), ((mr 14), .inl (km_must, 25, .inl fm_must)), ((mr 15), .inl (km_least, 25, .inl fm_least)), ((mr 16), .inl (km_pin, 25, .inl fm_pin)), ((mr 17), .inl (km_ways, 6875, .inl fm_ways))]) hD hS hA [0, 1, 2, 3, 4] rfl
    refine va_calli (va_runV (As := [.int p1, .int x_28]) (rest := []) ⟨hx, hb, hml, hown, hts⟩ (sX12_beginsOn l dC dI s.heap.size h0 mi mr km_must fm_must km_least fm_least km_pin fm_pin km_ways fm_ways p1 x_28 gmi_0 gmi_1 gmi_2 gmi_4 gmi_7 gmi_10 gmi_17 gmi_23 gmi_24 gmi_26 gmi_29 gmi_30 gmi_33 gmi_37 gmi_41 gmi_50 gmi_51 gmi_56 (gi_w gp1 (by decide))) (cwV 2 hts (gz_gV mGB_373 mGB_374 mGB_375 mGB_1 mGB_376 goodGB) rfl rfl rfl (by decide +kernel) ⟨Nat.le_of_ble_eq_true rfl, Nat.le_of_ble_eq_true rfl⟩) ⟨fun a U g mk q => by obtain ⟨q0, q1, qP, qK, qD⟩ := q; exact ⟨q0, q1, qP, va_K.moved (u := U) (U := U.calling g mk a) (Vm.Alike.refl U.vm) qK, qD⟩, va_recv hKc hPc (ci := 12) (q0 := 0) rfl rfl, fun U hU hW => ⟨rfl, by rw [hU], by rw [hU]; exact hPc, va_K.moved hW.alike hKc, hDc.weaken (fun _ _ _ _ => trivial)⟩⟩ rfl rfl hl.1 rfl (lv_room (Nat.le_of_ble_eq_true rfl)) dX12_datesWith_17 ⟨Nat.zero_le _, Nat.zero_le _⟩) hS (fun q _ h => hFc q h) hFc (fun r_37 u t H1 locs ht hvm hw hB hz1 hk1 hS => ?_)
    obtain ⟨f_38, f_39, hP1, hD1⟩ := hB
    rw [ht] at hP1
    obtain ⟨hP, hD⟩ := va_join (wr := []) (w1 := [(h0, .inr (12, fsMM mi mr)), ((mr 14), .inl (km_must, 25, .inl fm_must)), ((mr 15), .inl (km_least, 25, .inl fm_least)), ((mr 16), .inl (km_pin, 25, .inl f_38)), ((mr 17), .inl (km_ways, 6875, .inl f_39))]) hP hD [0, 1, 2, 3, 4] [] rfl rfl (by decide) (by decide) hk1 hFc hP1 hD1
    have hP := hP.sub (ws' := [(h0, .inr (12, fsMM mi mr)), ((mr 14), .inl (km_must, 25, .inl fm_must)), ((mr 15), .inl (km_least, 25, .inl fm_least)), ((mr 16), .inl (km_pin, 25, .inl f_38)), ((mr 17), .inl (km_ways, 6875, .inl f_39))]) [0, 1, 2, 3, 4] rfl
    have hD := hD.sub (ws' := [(h0, .inr (12, fsMM mi mr)), ((mr 14), .inl (km_must, 25, .inl fm_must)), ((mr 15), .inl (km_least, 25, .inl fm_least)), ((mr 16), .inl (km_pin, 25, .inl f_38)), ((mr 17), .inl (km_ways, 6875, .inl f_39))]) [0, 1, 2, 3, 4] (by decide) rfl
    generalize H1 = H at hP hS ⊢
    refine lv_goto (tgt := 38) hx hb dX12_datesWith_20 (by decide) ?_
    exact W.iret (v := r_37) hx hb hr (fun t ht hW => ⟨⟨r_37, (), rfl, (gi_any r_37), f_38, f_39, by rw [ht]; exact hP, hD⟩, hS.F ht⟩) hS.2.2 dX12_datesWith_38
theorem dX12_fallsOn_0 : decode cX12_fallsOn 0 = .ok (.iload_n 2, 1) := by decide +kernel
theorem dX12_fallsOn_1 : decode cX12_fallsOn 1 = .ok (.bipush 30, 2) := by decide +kernel
theorem dX12_fallsOn_3 : decode cX12_fallsOn 3 = .ok (.if_icmp .ge 14, 3) := by decide +kernel
theorem dX12_fallsOn_6 : decode cX12_fallsOn 6 = .ok (.aload_n 0, 1) := by decide +kernel
theorem dX12_fallsOn_7 : decode cX12_fallsOn 7 = .ok (.iload_n 1, 1) := by decide +kernel
theorem dX12_fallsOn_8 : decode cX12_fallsOn 8 = .ok (.iload_n 3, 1) := by decide +kernel
theorem dX12_fallsOn_9 : decode cX12_fallsOn 9 = .ok (.iload_n 2, 1) := by decide +kernel
theorem dX12_fallsOn_10 : decode cX12_fallsOn 10 = .ok (.isub, 1) := by decide +kernel
theorem dX12_fallsOn_11 : decode cX12_fallsOn 11 = .ok (.iconst 1, 1) := by decide +kernel
theorem dX12_fallsOn_12 : decode cX12_fallsOn 12 = .ok (.iadd, 1) := by decide +kernel
theorem dX12_fallsOn_13 : decode cX12_fallsOn 13 = .ok (.invokevirtual 388, 3) := by decide +kernel
theorem dX12_fallsOn_16 : decode cX12_fallsOn 16 = .ok (.ireturn, 1) := by decide +kernel
theorem dX12_fallsOn_17 : decode cX12_fallsOn 17 = .ok (.iload_n 3, 1) := by decide +kernel
theorem dX12_fallsOn_18 : decode cX12_fallsOn 18 = .ok (.bipush 29, 2) := by decide +kernel
theorem dX12_fallsOn_20 : decode cX12_fallsOn 20 = .ok (.isub, 1) := by decide +kernel
theorem dX12_fallsOn_21 : decode cX12_fallsOn 21 = .ok (.istore 4, 2) := by decide +kernel
theorem dX12_fallsOn_23 : decode cX12_fallsOn 23 = .ok (.aload_n 0, 1) := by decide +kernel
theorem dX12_fallsOn_24 : decode cX12_fallsOn 24 = .ok (.iload_n 1, 1) := by decide +kernel
theorem dX12_fallsOn_25 : decode cX12_fallsOn 25 = .ok (.iload 4, 2) := by decide +kernel
theorem dX12_fallsOn_27 : decode cX12_fallsOn 27 = .ok (.iload_n 1, 1) := by decide +kernel
theorem dX12_fallsOn_28 : decode cX12_fallsOn 28 = .ok (.iconst 1, 1) := by decide +kernel
theorem dX12_fallsOn_29 : decode cX12_fallsOn 29 = .ok (.iadd, 1) := by decide +kernel
theorem dX12_fallsOn_30 : decode cX12_fallsOn 30 = .ok (.iload 4, 2) := by decide +kernel
theorem dX12_fallsOn_32 : decode cX12_fallsOn 32 = .ok (.bipush 30, 2) := by decide +kernel
theorem dX12_fallsOn_34 : decode cX12_fallsOn 34 = .ok (.iadd, 1) := by decide +kernel
theorem dX12_fallsOn_35 : decode cX12_fallsOn 35 = .ok (.invokevirtual 385, 3) := by decide +kernel
theorem dX12_fallsOn_38 : decode cX12_fallsOn 38 = .ok (.aload_n 0, 1) := by decide +kernel
theorem dX12_fallsOn_39 : decode cX12_fallsOn 39 = .ok (.iload_n 1, 1) := by decide +kernel
theorem dX12_fallsOn_40 : decode cX12_fallsOn 40 = .ok (.iload 4, 2) := by decide +kernel
theorem dX12_fallsOn_42 : decode cX12_fallsOn 42 = .ok (.iconst 1, 1) := by decide +kernel
theorem dX12_fallsOn_43 : decode cX12_fallsOn 43 = .ok (.iadd, 1) := by decide +kernel
theorem dX12_fallsOn_44 : decode cX12_fallsOn 44 = .ok (.iload_n 1, 1) := by decide +kernel
theorem dX12_fallsOn_45 : decode cX12_fallsOn 45 = .ok (.iconst 1, 1) := by decide +kernel
theorem dX12_fallsOn_46 : decode cX12_fallsOn 46 = .ok (.iadd, 1) := by decide +kernel
theorem dX12_fallsOn_47 : decode cX12_fallsOn 47 = .ok (.iload 4, 2) := by decide +kernel
theorem dX12_fallsOn_49 : decode cX12_fallsOn 49 = .ok (.iconst 1, 1) := by decide +kernel
theorem dX12_fallsOn_50 : decode cX12_fallsOn 50 = .ok (.iadd, 1) := by decide +kernel
theorem dX12_fallsOn_51 : decode cX12_fallsOn 51 = .ok (.bipush 29, 2) := by decide +kernel
theorem dX12_fallsOn_53 : decode cX12_fallsOn 53 = .ok (.iadd, 1) := by decide +kernel
theorem dX12_fallsOn_54 : decode cX12_fallsOn 54 = .ok (.invokevirtual 385, 3) := by decide +kernel
theorem dX12_fallsOn_57 : decode cX12_fallsOn 57 = .ok (.iadd, 1) := by decide +kernel
theorem dX12_fallsOn_58 : decode cX12_fallsOn 58 = .ok (.ireturn, 1) := by decide +kernel
set_option maxHeartbeats 4000000 in
set_option maxRecDepth 100000 in
theorem sX12_fallsOn (l : Launch) (dC : Nat → ClassId) (dI : Nat → Nat → Nat) (sz : Nat) (h0 : Nat) (mi : Nat → Int32) (mr : Nat → Nat) (km_must : ClassId) (fm_must : Nat → Int32) (km_least : ClassId) (fm_least : Nat → Int32) (km_pin : ClassId) (fm_pin : Nat → Int32) (km_ways : ClassId) (fm_ways : Nat → Int32) (p1 : Int32) (p2 : Int32) (p3 : Int32) (gmi_0 : gi (mi 0) 0 24) (gmi_1 : gi (mi 1) 0 5) (gmi_2 : gi (mi 2) 0 5) (gmi_4 : gi (mi 4) 0 1) (gmi_7 : gi (mi 7) 0 6) (gmi_10 : gi (mi 10) 0 24) (gmi_17 : gi (mi 17) 0 8) (gmi_23 : gi (mi 23) 0 300) (gmi_24 : gi (mi 24) 0 1) (gmi_26 : gi (mi 26) 0 1600) (gmi_29 : gi (mi 29) 0 1600) (gmi_30 : gi (mi 30) 0 1600) (gmi_33 : gi (mi 33) 0 1) (gmi_37 : gi (mi 37) 0 1) (gmi_41 : gi (mi 41) 0 24) (gmi_50 : gi (mi 50) 0 1) (gmi_51 : gi (mi 51) 0 1) (gmi_56 : gi (mi 56) 0 80) (gp1 : gi p1 0 23) : Met l yX12_fallsOn (.code yX12_fallsOn cX12_fallsOn 5 (some .int) :: wsGB) ({ frames := 5, cells := 0, slots := 0, locals := 123 }) (va_Pc [.ref h0, .int p1, .int p2, .int p3] (fun U => U.heap.size = sz ∧ va_P (dC, dI) vwCl [(h0, .inr (12, fsMM mi mr)), ((mr 14), .inl (km_must, 25, .inl fm_must)), ((mr 15), .inl (km_least, 25, .inl fm_least)), ((mr 16), .inl (km_pin, 25, .inl fm_pin)), ((mr 17), .inl (km_ways, 6875, .inl fm_ways))] U.heap ∧ va_K (dC, dI) vwCl [(km_must, .int), (km_least, .int), (km_pin, .int), (km_ways, .int)] U ∧ va_D (fun _ => True) [(h0, .inr (12, fsMM mi mr)), ((mr 14), .inl (km_must, 25, .inl fm_must)), ((mr 15), .inl (km_least, 25, .inl fm_least)), ((mr 16), .inl (km_pin, 25, .inl fm_pin)), ((mr 17), .inl (km_ways, 6875, .inl fm_ways))])) (va_Qi (fun (r : Int32) (u : Unit) => gi r (-2147483648) 2147483647) (fun _ t => ∃ (z3 : Nat → Int32) (z4 : Nat → Int32), va_P (dC, dI) vwCl [(h0, .inr (12, fsMM mi mr)), ((mr 14), .inl (km_must, 25, .inl fm_must)), ((mr 15), .inl (km_least, 25, .inl fm_least)), ((mr 16), .inl (km_pin, 25, .inl z3)), ((mr 17), .inl (km_ways, 6875, .inl z4))] t.heap ∧ va_D (va_A [(h0, .inr (12, fsMM mi mr)), ((mr 14), .inl (km_must, 25, .inl fm_must)), ((mr 15), .inl (km_least, 25, .inl fm_least)), ((mr 16), .inl (km_pin, 25, .inl fm_pin)), ((mr 17), .inl (km_ways, 6875, .inl fm_ways))] sz) [(h0, .inr (12, fsMM mi mr)), ((mr 14), .inl (km_must, 25, .inl fm_must)), ((mr 15), .inl (km_least, 25, .inl fm_least)), ((mr 16), .inl (km_pin, 25, .inl z3)), ((mr 17), .inl (km_ways, 6875, .inl z4))]) (va_A [(h0, .inr (12, fsMM mi mr)), ((mr 14), .inl (km_must, 25, .inl fm_must)), ((mr 15), .inl (km_least, 25, .inl fm_least)), ((mr 16), .inl (km_pin, 25, .inl fm_pin)), ((mr 17), .inl (km_ways, 6875, .inl fm_ways))] sz)) 0 0 (va_A [(h0, .inr (12, fsMM mi mr)), ((mr 14), .inl (km_must, 25, .inl fm_must)), ((mr 15), .inl (km_least, 25, .inl fm_least)), ((mr 16), .inl (km_pin, 25, .inl fm_pin)), ((mr 17), .inl (km_ways, 6875, .inl fm_ways))] sz) := by
  refine Met.ofW (cc := cX12_fallsOn) (maxL := 5) (ret := (some .int)) (by decide) rfl ?_
  intro p e s m args below meth c s₁ B hml hv
  obtain ⟨rfl, hsz, hP, hK, hD0⟩ := hv
  have hx := B.exec
  have hb := B.bytes
  have hr := B.returns
  have hts := atoms_spec (ws := (.code yX12_fallsOn cX12_fallsOn 5 (some .int) :: wsGB)) B.pre
  have hown : s.vm.findClass RX12 = some m.cls := findClass_of_methodNamed B.named
  have hlocks := B.notSynchronized
  subst hsz
  have hD := hD0.self (sz := s.heap.size)
  generalize hAe : va_A [(h0, .inr (12, fsMM mi mr)), ((mr 14), .inl (km_must, 25, .inl fm_must)), ((mr 15), .inl (km_least, 25, .inl fm_least)), ((mr 16), .inl (km_pin, 25, .inl fm_pin)), ((mr 17), .inl (km_ways, 6875, .inl fm_ways))] s.heap.size = A at hD ⊢
  have hA : ∀ q : Nat, s.heap.size ≤ q → A q := fun q h => by rw [← hAe]; exact Or.inr h
  have hS : va_S A s.heap s.heap [] := va_S.rf
  have hl := lv_entry ([.ref h0, .int p1, .int p2, .int p3]) (n := 5) (Nat.le_of_ble_eq_true rfl)
  rw [lg_entry_eq]
  generalize (lg_sl ([.ref h0, .int p1, .int p2, .int p3]) ++ List.replicate (5 - (lg_sl ([.ref h0, .int p1, .int p2, .int p3])).length) Slot.unset).toArray = ls at hl ⊢
  have hl : lv_has ls 5 [(0, .ref h0), (1, .int p1), (2, .int p2), (3, .int p3)] := hl
  refine lv_iload_n hx hb dX12_fallsOn_0 rfl (lv_at hl 2 rfl) ?_
  refine lv_bipush (v := 30) hx hb dX12_fallsOn_1 (by decide) ?_
  refine lv_icmp_ge (tgt := 17) hx hb dX12_fallsOn_3 (by decide) (fun c_45 => ?_) (fun c_45 => ?_)
  · have g_46 : gi p2 30 2147483647 := gi_le_r c_45 (gi_c 30 30 (by decide)) (gi_any p2)
    refine lv_iload_n hx hb dX12_fallsOn_17 rfl (lv_at hl 3 rfl) ?_
    refine lv_bipush (v := 29) hx hb dX12_fallsOn_18 (by decide) ?_
    refine lv_isub hx hb dX12_fallsOn_20 ?_
    refine lv_topi (fun x_47 ex_47 => ?_)
    refine lv_istore (lv' := [(4, .int x_47), (0, .ref h0), (1, .int p1), (2, .int p2), (3, .int p3)]) hx hb dX12_fallsOn_21 hl (by decide) rfl (fun ls hl => ?_)
    refine lv_aload_n hx hb dX12_fallsOn_23 rfl (lv_at hl 1 rfl) ?_
    refine lv_iload_n hx hb dX12_fallsOn_24 rfl (lv_at hl 2 rfl) ?_
    refine lv_iload hx hb dX12_fallsOn_25 (lv_at hl 0 rfl) ?_
    refine lv_iload_n hx hb dX12_fallsOn_27 rfl (lv_at hl 2 rfl) ?_
    refine lv_iconst (v := 1) hx hb dX12_fallsOn_28 (by decide) ?_
    refine lv_iadd hx hb dX12_fallsOn_29 ?_
    refine lv_topi (fun x_48 ex_48 => ?_)
    have gx_48 : gi x_48 1 24 := gi_add ex_48 gp1 (gi_c 1 1 (by decide)) (by decide)
    refine lv_iload hx hb dX12_fallsOn_30 (lv_at hl 0 rfl) ?_
    refine lv_bipush (v := 30) hx hb dX12_fallsOn_32 (by decide) ?_
    refine lv_iadd hx hb dX12_fallsOn_34 ?_
    refine lv_topi (fun x_49 ex_49 => ?_)
    have hPc := hP.sub (ws' := [(h0, .inr (12, fsMM mi mr)), ((mr 14), .inl (km_must, 25, .inl fm_must)), ((mr 15), .inl (km_least, 25, .inl fm_least)), ((mr 16), .inl (km_pin, 25, .inl fm_pin)), ((mr 17), .inl (km_ways, 6875, .inl fm_ways))]) [0, 1, 2, 3, 4] rfl
    have hKc := hK.sub (tys' := [(km_must, .int), (km_least, .int), (km_pin, .int), (km_ways, .int)]) [0, 1, 2, 3] rfl
    have hDc := hD.sub (ws' := [(h0, .inr (12, fsMM mi mr)), ((mr 14), .inl (km_must, 25, .inl fm_must)), ((mr 15), .inl (km_least, 25, .inl fm_least)), ((mr 16), .inl (km_pin, 25, .inl fm_pin)), ((mr 17), .inl (km_ways, 6875, .inl fm_ways))]) [0, 1, 2, 3, 4] (by decide) rfl
    have hFc := va_free (wc := [(h0, .inr (12, fsMM mi mr)), ((mr 14), .inl (km_must, 25, .inl fm_must)), ((mr 15), .inl (km_least, 25, .inl fm_least)), ((mr 16), .inl (km_pin, 25, .inl fm_pin)), ((mr 17), .inl (km_ways, 6875, .inl fm_ways))]) hD hS hA [0, 1, 2, 3, 4] rfl
    refine va_calli (va_runV (As := [.int p1, .int x_47, .int x_48, .int x_49]) (rest := []) ⟨hx, hb, hml, hown, hts⟩ (sX12_countsWith l dC dI s.heap.size h0 mi mr km_must fm_must km_least fm_least km_pin fm_pin km_ways fm_ways p1 x_47 x_48 x_49 gmi_0 gmi_1 gmi_2 gmi_4 gmi_7 gmi_10 gmi_17 gmi_23 gmi_24 gmi_26 gmi_29 gmi_30 gmi_33 gmi_37 gmi_41 gmi_50 gmi_51 gmi_56 (gi_w gp1 (by decide)) (gi_w gx_48 (by decide))) (cwV 4 hts (gz_gV mGB_377 mGB_378 mGB_379 mGB_1 mGB_380 goodGB) rfl rfl rfl (by decide +kernel) ⟨Nat.le_of_ble_eq_true rfl, Nat.le_of_ble_eq_true rfl⟩) ⟨fun a U g mk q => by obtain ⟨q0, q1, qP, qK, qD⟩ := q; exact ⟨q0, q1, qP, va_K.moved (u := U) (U := U.calling g mk a) (Vm.Alike.refl U.vm) qK, qD⟩, va_recv hKc hPc (ci := 12) (q0 := 0) rfl rfl, fun U hU hW => ⟨rfl, by rw [hU], by rw [hU]; exact hPc, va_K.moved hW.alike hKc, hDc.weaken (fun _ _ _ _ => trivial)⟩⟩ rfl rfl hl.1 rfl (lv_room (Nat.le_of_ble_eq_true rfl)) dX12_fallsOn_35 ⟨Nat.zero_le _, Nat.zero_le _⟩) hS (fun q _ h => hFc q h) hFc (fun r_50 u t H1 locs ht hvm hw hB hz1 hk1 hS => ?_)
    obtain ⟨f_51, f_52, hP1, hD1⟩ := hB
    rw [ht] at hP1
    obtain ⟨hP, hD⟩ := va_join (wr := []) (w1 := [(h0, .inr (12, fsMM mi mr)), ((mr 14), .inl (km_must, 25, .inl fm_must)), ((mr 15), .inl (km_least, 25, .inl fm_least)), ((mr 16), .inl (km_pin, 25, .inl f_51)), ((mr 17), .inl (km_ways, 6875, .inl f_52))]) hP hD [0, 1, 2, 3, 4] [] rfl rfl (by decide) (by decide) hk1 hFc hP1 hD1
    have hP := hP.sub (ws' := [(h0, .inr (12, fsMM mi mr)), ((mr 14), .inl (km_must, 25, .inl fm_must)), ((mr 15), .inl (km_least, 25, .inl fm_least)), ((mr 16), .inl (km_pin, 25, .inl f_51)), ((mr 17), .inl (km_ways, 6875, .inl f_52))]) [0, 1, 2, 3, 4] rfl
    have hD := hD.sub (ws' := [(h0, .inr (12, fsMM mi mr)), ((mr 14), .inl (km_must, 25, .inl fm_must)), ((mr 15), .inl (km_least, 25, .inl fm_least)), ((mr 16), .inl (km_pin, 25, .inl f_51)), ((mr 17), .inl (km_ways, 6875, .inl f_52))]) [0, 1, 2, 3, 4] (by decide) rfl
    generalize H1 = H at hP hS ⊢
    refine lv_aload_n hx hb dX12_fallsOn_38 rfl (lv_at hl 1 rfl) ?_
    refine lv_iload_n hx hb dX12_fallsOn_39 rfl (lv_at hl 2 rfl) ?_
    refine lv_iload hx hb dX12_fallsOn_40 (lv_at hl 0 rfl) ?_
    refine lv_iconst (v := 1) hx hb dX12_fallsOn_42 (by decide) ?_
    refine lv_iadd hx hb dX12_fallsOn_43 ?_
    refine lv_topi (fun x_53 ex_53 => ?_)
    refine lv_iload_n hx hb dX12_fallsOn_44 rfl (lv_at hl 2 rfl) ?_
    refine lv_iconst (v := 1) hx hb dX12_fallsOn_45 (by decide) ?_
    refine lv_iadd hx hb dX12_fallsOn_46 ?_
    refine lv_topi (fun x_54 ex_54 => ?_)
    have gx_54 : gi x_54 1 24 := gi_add ex_54 gp1 (gi_c 1 1 (by decide)) (by decide)
    refine lv_iload hx hb dX12_fallsOn_47 (lv_at hl 0 rfl) ?_
    refine lv_iconst (v := 1) hx hb dX12_fallsOn_49 (by decide) ?_
    refine lv_iadd hx hb dX12_fallsOn_50 ?_
    refine lv_topi (fun x_55 ex_55 => ?_)
    refine lv_bipush (v := 29) hx hb dX12_fallsOn_51 (by decide) ?_
    refine lv_iadd hx hb dX12_fallsOn_53 ?_
    refine lv_topi (fun x_56 ex_56 => ?_)
    have hPc := hP.sub (ws' := [(h0, .inr (12, fsMM mi mr)), ((mr 14), .inl (km_must, 25, .inl fm_must)), ((mr 15), .inl (km_least, 25, .inl fm_least)), ((mr 16), .inl (km_pin, 25, .inl f_51)), ((mr 17), .inl (km_ways, 6875, .inl f_52))]) [0, 1, 2, 3, 4] rfl
    have hKc := hK.sub (tys' := [(km_must, .int), (km_least, .int), (km_pin, .int), (km_ways, .int)]) [0, 1, 2, 3] rfl
    have hDc := hD.sub (ws' := [(h0, .inr (12, fsMM mi mr)), ((mr 14), .inl (km_must, 25, .inl fm_must)), ((mr 15), .inl (km_least, 25, .inl fm_least)), ((mr 16), .inl (km_pin, 25, .inl f_51)), ((mr 17), .inl (km_ways, 6875, .inl f_52))]) [0, 1, 2, 3, 4] (by decide) rfl
    have hFc := va_free (wc := [(h0, .inr (12, fsMM mi mr)), ((mr 14), .inl (km_must, 25, .inl fm_must)), ((mr 15), .inl (km_least, 25, .inl fm_least)), ((mr 16), .inl (km_pin, 25, .inl f_51)), ((mr 17), .inl (km_ways, 6875, .inl f_52))]) hD hS hA [0, 1, 2, 3, 4] rfl
    refine va_calli (va_runV (As := [.int p1, .int x_53, .int x_54, .int x_56]) (rest := [.int r_50]) ⟨hx, hb, hml, hown, hts⟩ (sX12_countsWith l dC dI H.size h0 mi mr km_must fm_must km_least fm_least km_pin f_51 km_ways f_52 p1 x_53 x_54 x_56 gmi_0 gmi_1 gmi_2 gmi_4 gmi_7 gmi_10 gmi_17 gmi_23 gmi_24 gmi_26 gmi_29 gmi_30 gmi_33 gmi_37 gmi_41 gmi_50 gmi_51 gmi_56 (gi_w gp1 (by decide)) (gi_w gx_54 (by decide))) (cwV 4 hts (gz_gV mGB_377 mGB_378 mGB_379 mGB_1 mGB_380 goodGB) rfl rfl rfl (by decide +kernel) ⟨Nat.le_of_ble_eq_true rfl, Nat.le_of_ble_eq_true rfl⟩) ⟨fun a U g mk q => by obtain ⟨q0, q1, qP, qK, qD⟩ := q; exact ⟨q0, q1, qP, va_K.moved (u := U) (U := U.calling g mk a) (Vm.Alike.refl U.vm) qK, qD⟩, va_recv hKc hPc (ci := 12) (q0 := 0) rfl rfl, fun U hU hW => ⟨rfl, by rw [hU], by rw [hU]; exact hPc, va_K.moved hW.alike hKc, hDc.weaken (fun _ _ _ _ => trivial)⟩⟩ rfl rfl hl.1 rfl (lv_room (Nat.le_of_ble_eq_true rfl)) dX12_fallsOn_54 ⟨Nat.zero_le _, Nat.zero_le _⟩) hS (fun q _ h => hFc q h) hFc (fun r_57 u t H1 locs ht hvm hw hB hz1 hk1 hS => ?_)
    obtain ⟨f_58, f_59, hP1, hD1⟩ := hB
    rw [ht] at hP1
    obtain ⟨hP, hD⟩ := va_join (wr := []) (w1 := [(h0, .inr (12, fsMM mi mr)), ((mr 14), .inl (km_must, 25, .inl fm_must)), ((mr 15), .inl (km_least, 25, .inl fm_least)), ((mr 16), .inl (km_pin, 25, .inl f_58)), ((mr 17), .inl (km_ways, 6875, .inl f_59))]) hP hD [0, 1, 2, 3, 4] [] rfl rfl (by decide) (by decide) hk1 hFc hP1 hD1
    have hP := hP.sub (ws' := [(h0, .inr (12, fsMM mi mr)), ((mr 14), .inl (km_must, 25, .inl fm_must)), ((mr 15), .inl (km_least, 25, .inl fm_least)), ((mr 16), .inl (km_pin, 25, .inl f_58)), ((mr 17), .inl (km_ways, 6875, .inl f_59))]) [0, 1, 2, 3, 4] rfl
    have hD := hD.sub (ws' := [(h0, .inr (12, fsMM mi mr)), ((mr 14), .inl (km_must, 25, .inl fm_must)), ((mr 15), .inl (km_least, 25, .inl fm_least)), ((mr 16), .inl (km_pin, 25, .inl f_58)), ((mr 17), .inl (km_ways, 6875, .inl f_59))]) [0, 1, 2, 3, 4] (by decide) rfl
    generalize H1 = H at hP hS ⊢
    refine lv_iadd hx hb dX12_fallsOn_57 ?_
    refine lv_topi (fun x_60 ex_60 => ?_)
    exact W.iret (v := x_60) hx hb hr (fun t ht hW => ⟨⟨x_60, (), rfl, (gi_any x_60), f_58, f_59, by rw [ht]; exact hP, hD⟩, hS.F ht⟩) hS.2.2 dX12_fallsOn_58
  · have g_61 : gi p2 (-2147483648) 29 := gi_lt_l (Int32.not_le.mp c_45) (gi_any p2) (gi_c 30 30 (by decide)) (by decide)
    refine lv_aload_n hx hb dX12_fallsOn_6 rfl (lv_at hl 0 rfl) ?_
    refine lv_iload_n hx hb dX12_fallsOn_7 rfl (lv_at hl 1 rfl) ?_
    refine lv_iload_n hx hb dX12_fallsOn_8 rfl (lv_at hl 3 rfl) ?_
    refine lv_iload_n hx hb dX12_fallsOn_9 rfl (lv_at hl 2 rfl) ?_
    refine lv_isub hx hb dX12_fallsOn_10 ?_
    refine lv_topi (fun x_62 ex_62 => ?_)
    refine lv_iconst (v := 1) hx hb dX12_fallsOn_11 (by decide) ?_
    refine lv_iadd hx hb dX12_fallsOn_12 ?_
    refine lv_topi (fun x_63 ex_63 => ?_)
    have hPc := hP.sub (ws' := [(h0, .inr (12, fsMM mi mr)), ((mr 14), .inl (km_must, 25, .inl fm_must)), ((mr 15), .inl (km_least, 25, .inl fm_least)), ((mr 16), .inl (km_pin, 25, .inl fm_pin)), ((mr 17), .inl (km_ways, 6875, .inl fm_ways))]) [0, 1, 2, 3, 4] rfl
    have hKc := hK.sub (tys' := [(km_must, .int), (km_least, .int), (km_pin, .int), (km_ways, .int)]) [0, 1, 2, 3] rfl
    have hDc := hD.sub (ws' := [(h0, .inr (12, fsMM mi mr)), ((mr 14), .inl (km_must, 25, .inl fm_must)), ((mr 15), .inl (km_least, 25, .inl fm_least)), ((mr 16), .inl (km_pin, 25, .inl fm_pin)), ((mr 17), .inl (km_ways, 6875, .inl fm_ways))]) [0, 1, 2, 3, 4] (by decide) rfl
    have hFc := va_free (wc := [(h0, .inr (12, fsMM mi mr)), ((mr 14), .inl (km_must, 25, .inl fm_must)), ((mr 15), .inl (km_least, 25, .inl fm_least)), ((mr 16), .inl (km_pin, 25, .inl fm_pin)), ((mr 17), .inl (km_ways, 6875, .inl fm_ways))]) hD hS hA [0, 1, 2, 3, 4] rfl
    refine va_calli (va_runV (As := [.int p1, .int x_63]) (rest := []) ⟨hx, hb, hml, hown, hts⟩ (sX12_beginsOn l dC dI s.heap.size h0 mi mr km_must fm_must km_least fm_least km_pin fm_pin km_ways fm_ways p1 x_63 gmi_0 gmi_1 gmi_2 gmi_4 gmi_7 gmi_10 gmi_17 gmi_23 gmi_24 gmi_26 gmi_29 gmi_30 gmi_33 gmi_37 gmi_41 gmi_50 gmi_51 gmi_56 (gi_w gp1 (by decide))) (cwV 2 hts (gz_gV mGB_373 mGB_374 mGB_375 mGB_1 mGB_376 goodGB) rfl rfl rfl (by decide +kernel) ⟨Nat.le_of_ble_eq_true rfl, Nat.le_of_ble_eq_true rfl⟩) ⟨fun a U g mk q => by obtain ⟨q0, q1, qP, qK, qD⟩ := q; exact ⟨q0, q1, qP, va_K.moved (u := U) (U := U.calling g mk a) (Vm.Alike.refl U.vm) qK, qD⟩, va_recv hKc hPc (ci := 12) (q0 := 0) rfl rfl, fun U hU hW => ⟨rfl, by rw [hU], by rw [hU]; exact hPc, va_K.moved hW.alike hKc, hDc.weaken (fun _ _ _ _ => trivial)⟩⟩ rfl rfl hl.1 rfl (lv_room (Nat.le_of_ble_eq_true rfl)) dX12_fallsOn_13 ⟨Nat.zero_le _, Nat.zero_le _⟩) hS (fun q _ h => hFc q h) hFc (fun r_64 u t H1 locs ht hvm hw hB hz1 hk1 hS => ?_)
    obtain ⟨f_65, f_66, hP1, hD1⟩ := hB
    rw [ht] at hP1
    obtain ⟨hP, hD⟩ := va_join (wr := []) (w1 := [(h0, .inr (12, fsMM mi mr)), ((mr 14), .inl (km_must, 25, .inl fm_must)), ((mr 15), .inl (km_least, 25, .inl fm_least)), ((mr 16), .inl (km_pin, 25, .inl f_65)), ((mr 17), .inl (km_ways, 6875, .inl f_66))]) hP hD [0, 1, 2, 3, 4] [] rfl rfl (by decide) (by decide) hk1 hFc hP1 hD1
    have hP := hP.sub (ws' := [(h0, .inr (12, fsMM mi mr)), ((mr 14), .inl (km_must, 25, .inl fm_must)), ((mr 15), .inl (km_least, 25, .inl fm_least)), ((mr 16), .inl (km_pin, 25, .inl f_65)), ((mr 17), .inl (km_ways, 6875, .inl f_66))]) [0, 1, 2, 3, 4] rfl
    have hD := hD.sub (ws' := [(h0, .inr (12, fsMM mi mr)), ((mr 14), .inl (km_must, 25, .inl fm_must)), ((mr 15), .inl (km_least, 25, .inl fm_least)), ((mr 16), .inl (km_pin, 25, .inl f_65)), ((mr 17), .inl (km_ways, 6875, .inl f_66))]) [0, 1, 2, 3, 4] (by decide) rfl
    generalize H1 = H at hP hS ⊢
    exact W.iret (v := r_64) hx hb hr (fun t ht hW => ⟨⟨r_64, (), rfl, (gi_any r_64), f_65, f_66, by rw [ht]; exact hP, hD⟩, hS.F ht⟩) hS.2.2 dX12_fallsOn_16
theorem dX12_judged_0 : decode cX12_judged 0 = .ok (.aload_n 0, 1) := by decide +kernel
theorem dX12_judged_1 : decode cX12_judged 1 = .ok (.iload_n 1, 1) := by decide +kernel
theorem dX12_judged_2 : decode cX12_judged 2 = .ok (.invokevirtual 359, 3) := by decide +kernel
theorem dX12_judged_5 : decode cX12_judged 5 = .ok (.ifCond .eq 11, 3) := by decide +kernel
theorem dX12_judged_8 : decode cX12_judged 8 = .ok (.aload_n 0, 1) := by decide +kernel
theorem dX12_judged_9 : decode cX12_judged 9 = .ok (.iload_n 2, 1) := by decide +kernel
theorem dX12_judged_10 : decode cX12_judged 10 = .ok (.invokevirtual 303, 3) := by decide +kernel
theorem dX12_judged_13 : decode cX12_judged 13 = .ok (.ifCond .ne 6, 3) := by decide +kernel
theorem dX12_judged_16 : decode cX12_judged 16 = .ok (.bipush (-2), 2) := by decide +kernel
theorem dX12_judged_18 : decode cX12_judged 18 = .ok (.ireturn, 1) := by decide +kernel
theorem dX12_judged_19 : decode cX12_judged 19 = .ok (.aload_n 0, 1) := by decide +kernel
theorem dX12_judged_20 : decode cX12_judged 20 = .ok (.iload_n 1, 1) := by decide +kernel
theorem dX12_judged_21 : decode cX12_judged 21 = .ok (.invokevirtual 362, 3) := by decide +kernel
theorem dX12_judged_24 : decode cX12_judged 24 = .ok (.aload_n 0, 1) := by decide +kernel
theorem dX12_judged_25 : decode cX12_judged 25 = .ok (.getfield 69, 3) := by decide +kernel
theorem dX12_judged_28 : decode cX12_judged 28 = .ok (.iload_n 2, 1) := by decide +kernel
theorem dX12_judged_29 : decode cX12_judged 29 = .ok (.iaload, 1) := by decide +kernel
theorem dX12_judged_30 : decode cX12_judged 30 = .ok (.ireturn, 1) := by decide +kernel
set_option maxHeartbeats 4000000 in
set_option maxRecDepth 100000 in
theorem sX12_judged (l : Launch) (dC : Nat → ClassId) (dI : Nat → Nat → Nat) (sz : Nat) (h0 : Nat) (mi : Nat → Int32) (mr : Nat → Nat) (km_must : ClassId) (fm_must : Nat → Int32) (km_least : ClassId) (fm_least : Nat → Int32) (km_pin : ClassId) (fm_pin : Nat → Int32) (km_ways : ClassId) (fm_ways : Nat → Int32) (km_verdict : ClassId) (fm_verdict : Nat → Int32) (km_row : ClassId) (fm_row : Nat → Int32) (km_struck : ClassId) (fm_struck : Nat → Int32) (km_reportKnown : ClassId) (fm_reportKnown : Nat → Int32) (km_reportPlace : ClassId) (fm_reportPlace : Nat → Int32) (km_reportMonth : ClassId) (fm_reportMonth : Nat → Int32) (km_reportDay : ClassId) (fm_reportDay : Nat → Int32) (km_reportKind : ClassId) (fm_reportKind : Nat → Int32) (km_trust : ClassId) (fm_trust : Nat → Int32) (km_letter : ClassId) (fm_letter : Nat → Int32) (p1 : Int32) (p2 : Int32) (gmi_0 : gi (mi 0) 0 24) (gmi_1 : gi (mi 1) 0 5) (gmi_2 : gi (mi 2) 0 5) (gmi_4 : gi (mi 4) 0 1) (gmi_7 : gi (mi 7) 0 6) (gmi_10 : gi (mi 10) 0 24) (gmi_17 : gi (mi 17) 0 8) (gmi_23 : gi (mi 23) 0 300) (gmi_24 : gi (mi 24) 0 1) (gmi_26 : gi (mi 26) 0 1600) (gmi_29 : gi (mi 29) 0 1600) (gmi_30 : gi (mi 30) 0 1600) (gmi_33 : gi (mi 33) 0 1) (gmi_37 : gi (mi 37) 0 1) (gmi_41 : gi (mi 41) 0 24) (gmi_50 : gi (mi 50) 0 1) (gmi_51 : gi (mi 51) 0 1) (gmi_56 : gi (mi 56) 0 80) (gfm_row : ga fm_row 24 0 23) (gfm_struck : ga fm_struck 24 0 1) (gfm_reportKnown : ga fm_reportKnown 24 0 999) (gfm_reportPlace : ga fm_reportPlace 24 0 5) (gfm_reportMonth : ga fm_reportMonth 24 0 23) (gfm_reportDay : ga fm_reportDay 24 0 999) : Met l yX12_judged (.code yX12_judged cX12_judged 3 (some .int) :: wsGB) ({ frames := 5, cells := 0, slots := 0, locals := 119 }) (va_Pc [.ref h0, .int p1, .int p2] (fun U => U.heap.size = sz ∧ va_P (dC, dI) vwCl [(h0, .inr (12, fsMM mi mr)), ((mr 14), .inl (km_must, 25, .inl fm_must)), ((mr 15), .inl (km_least, 25, .inl fm_least)), ((mr 16), .inl (km_pin, 25, .inl fm_pin)), ((mr 17), .inl (km_ways, 6875, .inl fm_ways)), ((mr 18), .inl (km_verdict, 24, .inl fm_verdict)), ((mr 19), .inl (km_row, 24, .inl fm_row)), ((mr 4), .inl (km_struck, 24, .inl fm_struck)), ((mr 7), .inl (km_reportKnown, 24, .inl fm_reportKnown)), ((mr 2), .inl (km_reportPlace, 24, .inl fm_reportPlace)), ((mr 5), .inl (km_reportMonth, 24, .inl fm_reportMonth)), ((mr 6), .inl (km_reportDay, 24, .inl fm_reportDay)), ((mr 3), .inl (km_reportKind, 24, .inl fm_reportKind)), ((mr 0), .inl (km_trust, 6, .inl fm_trust)), ((mr 1), .inl (km_letter, 36, .inl fm_letter))] U.heap ∧ va_K (dC, dI) vwCl [(km_must, .int), (km_least, .int), (km_pin, .int), (km_ways, .int), (km_verdict, .int), (km_row, .int), (km_struck, .boolean), (km_reportKnown, .int), (km_reportPlace, .int), (km_reportMonth, .int), (km_reportDay, .int), (km_reportKind, .int), (km_trust, .int), (km_letter, .int)] U ∧ va_D (fun _ => True) [(h0, .inr (12, fsMM mi mr)), ((mr 14), .inl (km_must, 25, .inl fm_must)), ((mr 15), .inl (km_least, 25, .inl fm_least)), ((mr 16), .inl (km_pin, 25, .inl fm_pin)), ((mr 17), .inl (km_ways, 6875, .inl fm_ways)), ((mr 18), .inl (km_verdict, 24, .inl fm_verdict)), ((mr 19), .inl (km_row, 24, .inl fm_row)), ((mr 4), .inl (km_struck, 24, .inl fm_struck)), ((mr 7), .inl (km_reportKnown, 24, .inl fm_reportKnown)), ((mr 2), .inl (km_reportPlace, 24, .inl fm_reportPlace)), ((mr 5), .inl (km_reportMonth, 24, .inl fm_reportMonth)), ((mr 6), .inl (km_reportDay, 24, .inl fm_reportDay)), ((mr 3), .inl (km_reportKind, 24, .inl fm_reportKind)), ((mr 0), .inl (km_trust, 6, .inl fm_trust)), ((mr 1), .inl (km_letter, 36, .inl fm_letter))])) (va_Qi (fun (r : Int32) (u : Unit) => gi r (-2147483648) 2147483647) (fun _ t => ∃ (w0_37 : Int32) (w0_41 : Int32) (z1 : Nat → Int32) (z2 : Nat → Int32) (z3 : Nat → Int32) (z4 : Nat → Int32) (z5 : Nat → Int32) (z6 : Nat → Int32), gi w0_37 0 1 ∧ gi w0_41 0 24 ∧ ga z6 24 0 23 ∧ va_P (dC, dI) vwCl [(h0, .inr (12, fsMM (upd (upd mi 37 w0_37) 41 w0_41) mr)), ((mr 14), .inl (km_must, 25, .inl z1)), ((mr 15), .inl (km_least, 25, .inl z2)), ((mr 16), .inl (km_pin, 25, .inl z3)), ((mr 17), .inl (km_ways, 6875, .inl z4)), ((mr 18), .inl (km_verdict, 24, .inl z5)), ((mr 19), .inl (km_row, 24, .inl z6)), ((mr 4), .inl (km_struck, 24, .inl fm_struck)), ((mr 7), .inl (km_reportKnown, 24, .inl fm_reportKnown)), ((mr 2), .inl (km_reportPlace, 24, .inl fm_reportPlace)), ((mr 5), .inl (km_reportMonth, 24, .inl fm_reportMonth)), ((mr 6), .inl (km_reportDay, 24, .inl fm_reportDay)), ((mr 3), .inl (km_reportKind, 24, .inl fm_reportKind)), ((mr 0), .inl (km_trust, 6, .inl fm_trust)), ((mr 1), .inl (km_letter, 36, .inl fm_letter))] t.heap ∧ va_D (va_A [(h0, .inr (12, fsMM mi mr)), ((mr 14), .inl (km_must, 25, .inl fm_must)), ((mr 15), .inl (km_least, 25, .inl fm_least)), ((mr 16), .inl (km_pin, 25, .inl fm_pin)), ((mr 17), .inl (km_ways, 6875, .inl fm_ways)), ((mr 18), .inl (km_verdict, 24, .inl fm_verdict)), ((mr 19), .inl (km_row, 24, .inl fm_row)), ((mr 4), .inl (km_struck, 24, .inl fm_struck)), ((mr 7), .inl (km_reportKnown, 24, .inl fm_reportKnown)), ((mr 2), .inl (km_reportPlace, 24, .inl fm_reportPlace)), ((mr 5), .inl (km_reportMonth, 24, .inl fm_reportMonth)), ((mr 6), .inl (km_reportDay, 24, .inl fm_reportDay)), ((mr 3), .inl (km_reportKind, 24, .inl fm_reportKind)), ((mr 0), .inl (km_trust, 6, .inl fm_trust)), ((mr 1), .inl (km_letter, 36, .inl fm_letter))] sz) [(h0, .inr (12, fsMM (upd (upd mi 37 w0_37) 41 w0_41) mr)), ((mr 14), .inl (km_must, 25, .inl z1)), ((mr 15), .inl (km_least, 25, .inl z2)), ((mr 16), .inl (km_pin, 25, .inl z3)), ((mr 17), .inl (km_ways, 6875, .inl z4)), ((mr 18), .inl (km_verdict, 24, .inl z5)), ((mr 19), .inl (km_row, 24, .inl z6)), ((mr 4), .inl (km_struck, 24, .inl fm_struck)), ((mr 7), .inl (km_reportKnown, 24, .inl fm_reportKnown)), ((mr 2), .inl (km_reportPlace, 24, .inl fm_reportPlace)), ((mr 5), .inl (km_reportMonth, 24, .inl fm_reportMonth)), ((mr 6), .inl (km_reportDay, 24, .inl fm_reportDay)), ((mr 3), .inl (km_reportKind, 24, .inl fm_reportKind)), ((mr 0), .inl (km_trust, 6, .inl fm_trust)), ((mr 1), .inl (km_letter, 36, .inl fm_letter))]) (va_A [(h0, .inr (12, fsMM mi mr)), ((mr 14), .inl (km_must, 25, .inl fm_must)), ((mr 15), .inl (km_least, 25, .inl fm_least)), ((mr 16), .inl (km_pin, 25, .inl fm_pin)), ((mr 17), .inl (km_ways, 6875, .inl fm_ways)), ((mr 18), .inl (km_verdict, 24, .inl fm_verdict)), ((mr 19), .inl (km_row, 24, .inl fm_row)), ((mr 4), .inl (km_struck, 24, .inl fm_struck)), ((mr 7), .inl (km_reportKnown, 24, .inl fm_reportKnown)), ((mr 2), .inl (km_reportPlace, 24, .inl fm_reportPlace)), ((mr 5), .inl (km_reportMonth, 24, .inl fm_reportMonth)), ((mr 6), .inl (km_reportDay, 24, .inl fm_reportDay)), ((mr 3), .inl (km_reportKind, 24, .inl fm_reportKind)), ((mr 0), .inl (km_trust, 6, .inl fm_trust)), ((mr 1), .inl (km_letter, 36, .inl fm_letter))] sz)) 0 0 (va_A [(h0, .inr (12, fsMM mi mr)), ((mr 14), .inl (km_must, 25, .inl fm_must)), ((mr 15), .inl (km_least, 25, .inl fm_least)), ((mr 16), .inl (km_pin, 25, .inl fm_pin)), ((mr 17), .inl (km_ways, 6875, .inl fm_ways)), ((mr 18), .inl (km_verdict, 24, .inl fm_verdict)), ((mr 19), .inl (km_row, 24, .inl fm_row)), ((mr 4), .inl (km_struck, 24, .inl fm_struck)), ((mr 7), .inl (km_reportKnown, 24, .inl fm_reportKnown)), ((mr 2), .inl (km_reportPlace, 24, .inl fm_reportPlace)), ((mr 5), .inl (km_reportMonth, 24, .inl fm_reportMonth)), ((mr 6), .inl (km_reportDay, 24, .inl fm_reportDay)), ((mr 3), .inl (km_reportKind, 24, .inl fm_reportKind)), ((mr 0), .inl (km_trust, 6, .inl fm_trust)), ((mr 1), .inl (km_letter, 36, .inl fm_letter))] sz) := by
  refine Met.ofW (cc := cX12_judged) (maxL := 3) (ret := (some .int)) (by decide) rfl ?_
  intro p e s m args below meth c s₁ B hml hv
  obtain ⟨rfl, hsz, hP, hK, hD0⟩ := hv
  have hx := B.exec
  have hb := B.bytes
  have hr := B.returns
  have hts := atoms_spec (ws := (.code yX12_judged cX12_judged 3 (some .int) :: wsGB)) B.pre
  have hown : s.vm.findClass RX12 = some m.cls := findClass_of_methodNamed B.named
  have hlocks := B.notSynchronized
  subst hsz
  have hD := hD0.self (sz := s.heap.size)
  generalize hAe : va_A [(h0, .inr (12, fsMM mi mr)), ((mr 14), .inl (km_must, 25, .inl fm_must)), ((mr 15), .inl (km_least, 25, .inl fm_least)), ((mr 16), .inl (km_pin, 25, .inl fm_pin)), ((mr 17), .inl (km_ways, 6875, .inl fm_ways)), ((mr 18), .inl (km_verdict, 24, .inl fm_verdict)), ((mr 19), .inl (km_row, 24, .inl fm_row)), ((mr 4), .inl (km_struck, 24, .inl fm_struck)), ((mr 7), .inl (km_reportKnown, 24, .inl fm_reportKnown)), ((mr 2), .inl (km_reportPlace, 24, .inl fm_reportPlace)), ((mr 5), .inl (km_reportMonth, 24, .inl fm_reportMonth)), ((mr 6), .inl (km_reportDay, 24, .inl fm_reportDay)), ((mr 3), .inl (km_reportKind, 24, .inl fm_reportKind)), ((mr 0), .inl (km_trust, 6, .inl fm_trust)), ((mr 1), .inl (km_letter, 36, .inl fm_letter))] s.heap.size = A at hD ⊢
  have hA : ∀ q : Nat, s.heap.size ≤ q → A q := fun q h => by rw [← hAe]; exact Or.inr h
  have hS : va_S A s.heap s.heap [] := va_S.rf
  have hl := lv_entry ([.ref h0, .int p1, .int p2]) (n := 3) (Nat.le_of_ble_eq_true rfl)
  rw [lg_entry_eq]
  generalize (lg_sl ([.ref h0, .int p1, .int p2]) ++ List.replicate (3 - (lg_sl ([.ref h0, .int p1, .int p2])).length) Slot.unset).toArray = ls at hl ⊢
  have hl : lv_has ls 3 [(0, .ref h0), (1, .int p1), (2, .int p2)] := hl
  refine lv_aload_n hx hb dX12_judged_0 rfl (lv_at hl 0 rfl) ?_
  refine lv_iload_n hx hb dX12_judged_1 rfl (lv_at hl 1 rfl) ?_
  have hPc := hP.sub (ws' := [(h0, .inr (12, fsMM mi mr))]) [0] rfl
  have hKc := hK.sub (tys' := []) [] rfl
  refine va_calli (va_runV (As := [.int p1]) (rest := []) ⟨hx, hb, hml, hown, hts⟩ (sX12_isTime l dC dI h0 mi mr p1 gmi_0 gmi_1 gmi_2 gmi_4 gmi_7 gmi_10 gmi_17 gmi_23 gmi_24 gmi_26 gmi_29 gmi_30 gmi_33 gmi_37 gmi_41 gmi_50 gmi_51 gmi_56) (cwV 1 hts (gz_gV mGB_256 mGB_257 mGB_258 mGB_1 mGB_259 goodGB) rfl rfl rfl (by decide +kernel) ⟨Nat.le_of_ble_eq_true rfl, Nat.le_of_ble_eq_true rfl⟩) ⟨fun a U g mk q => by obtain ⟨q0, qP, qK⟩ := q; exact ⟨q0, qP, va_K.moved (u := U) (U := U.calling g mk a) (Vm.Alike.refl U.vm) qK⟩, va_recv hKc hPc (ci := 12) (q0 := 0) rfl rfl, fun U hU hW => ⟨rfl, by rw [hU]; exact hPc, va_K.moved hW.alike hKc⟩⟩ rfl rfl hl.1 rfl (lv_room (Nat.le_of_ble_eq_true rfl)) dX12_judged_2 ⟨Nat.zero_le _, Nat.zero_le _⟩) hS (fun q _ h => h.elim) (fun q h => h.elim) (fun r_41 u t H1 locs ht hvm hw hB hz1 hk1 hS => ?_)
  have hP := gz_keep hP hk1
  generalize H1 = H at hP hS ⊢
  have gr_41 : gi r_41 0 1 := hw.1
  have hqr_41 := hw.2
  refine lv_if_eq (tgt := 16) hx hb dX12_judged_5 (by decide) (fun c_42 => ?_) (fun c_42 => ?_)
  · have g_43 : gi r_41 0 0 := gi_eq c_42 (gi_c 0 0 (by decide))
    refine lv_bipush (v := (-2)) hx hb dX12_judged_16 (by decide) ?_
    exact W.iret (v := (-2)) hx hb hr (fun t ht hW => ⟨⟨(-2), (), rfl, (gi_any (-2)), (mi 37), (mi 41), fm_must, fm_least, fm_pin, fm_ways, fm_verdict, fm_row, gmi_37, gmi_41, gfm_row, by rw [ht]; exact hP, hD⟩, hS.F ht⟩) hS.2.2 dX12_judged_18
  · have g_44 : gi r_41 1 1 := gi_ne_lo c_42 gr_41 (gi_c 0 0 (by decide)) (by decide)
    have g_45 : gi p1 0 999 := gi_cap (gi_any p1) (hqr_41 (gz_one g_44)) (by decide)
    refine lv_aload_n hx hb dX12_judged_8 rfl (lv_at hl 0 rfl) ?_
    refine lv_iload_n hx hb dX12_judged_9 rfl (lv_at hl 2 rfl) ?_
    have hPc := hP.sub (ws' := [(h0, .inr (12, fsMM mi mr))]) [0] rfl
    have hKc := hK.sub (tys' := []) [] rfl
    refine va_calli (va_runV (As := [.int p2]) (rest := []) ⟨hx, hb, hml, hown, hts⟩ (sX12_isReport l dC dI h0 mi mr p2 gmi_0 gmi_1 gmi_2 gmi_4 gmi_7 gmi_10 gmi_17 gmi_23 gmi_24 gmi_26 gmi_29 gmi_30 gmi_33 gmi_37 gmi_41 gmi_50 gmi_51 gmi_56) (cwV 1 hts (gz_gV mGB_235 mGB_236 mGB_237 mGB_1 mGB_238 goodGB) rfl rfl rfl (by decide +kernel) ⟨Nat.le_of_ble_eq_true rfl, Nat.le_of_ble_eq_true rfl⟩) ⟨fun a U g mk q => by obtain ⟨q0, qP, qK⟩ := q; exact ⟨q0, qP, va_K.moved (u := U) (U := U.calling g mk a) (Vm.Alike.refl U.vm) qK⟩, va_recv hKc hPc (ci := 12) (q0 := 0) rfl rfl, fun U hU hW => ⟨rfl, by rw [hU]; exact hPc, va_K.moved hW.alike hKc⟩⟩ rfl rfl hl.1 rfl (lv_room (Nat.le_of_ble_eq_true rfl)) dX12_judged_10 ⟨Nat.zero_le _, Nat.zero_le _⟩) hS (fun q _ h => h.elim) (fun q h => h.elim) (fun r_46 u t H1 locs ht hvm hw hB hz1 hk1 hS => ?_)
    have hP := gz_keep hP hk1
    generalize H1 = H at hP hS ⊢
    have gr_46 : gi r_46 0 1 := hw.1
    have hqr_46 := hw.2
    refine lv_if_ne (tgt := 19) hx hb dX12_judged_13 (by decide) (fun c_47 => ?_) (fun c_47 => ?_)
    · have g_48 : gi r_46 1 1 := gi_ne_lo c_47 gr_46 (gi_c 0 0 (by decide)) (by decide)
      have g_49 : gi p2 0 23 := gi_cap (gi_any p2) (hqr_46 (gz_one g_48)) (by decide)
      refine lv_aload_n hx hb dX12_judged_19 rfl (lv_at hl 0 rfl) ?_
      refine lv_iload_n hx hb dX12_judged_20 rfl (lv_at hl 1 rfl) ?_
      have hPc := hP.sub (ws' := [(h0, .inr (12, fsMM mi mr)), ((mr 14), .inl (km_must, 25, .inl fm_must)), ((mr 15), .inl (km_least, 25, .inl fm_least)), ((mr 16), .inl (km_pin, 25, .inl fm_pin)), ((mr 17), .inl (km_ways, 6875, .inl fm_ways)), ((mr 18), .inl (km_verdict, 24, .inl fm_verdict)), ((mr 19), .inl (km_row, 24, .inl fm_row)), ((mr 4), .inl (km_struck, 24, .inl fm_struck)), ((mr 7), .inl (km_reportKnown, 24, .inl fm_reportKnown)), ((mr 2), .inl (km_reportPlace, 24, .inl fm_reportPlace)), ((mr 5), .inl (km_reportMonth, 24, .inl fm_reportMonth)), ((mr 6), .inl (km_reportDay, 24, .inl fm_reportDay)), ((mr 3), .inl (km_reportKind, 24, .inl fm_reportKind)), ((mr 0), .inl (km_trust, 6, .inl fm_trust)), ((mr 1), .inl (km_letter, 36, .inl fm_letter))]) [0, 1, 2, 3, 4, 5, 6, 7, 8, 9, 10, 11, 12, 13, 14] rfl
      have hKc := hK.sub (tys' := [(km_must, .int), (km_least, .int), (km_pin, .int), (km_ways, .int), (km_verdict, .int), (km_row, .int), (km_struck, .boolean), (km_reportKnown, .int), (km_reportPlace, .int), (km_reportMonth, .int), (km_reportDay, .int), (km_reportKind, .int), (km_trust, .int), (km_letter, .int)]) [0, 1, 2, 3, 4, 5, 6, 7, 8, 9, 10, 11, 12, 13] rfl
      have hDc := hD.sub (ws' := [(h0, .inr (12, fsMM mi mr)), ((mr 14), .inl (km_must, 25, .inl fm_must)), ((mr 15), .inl (km_least, 25, .inl fm_least)), ((mr 16), .inl (km_pin, 25, .inl fm_pin)), ((mr 17), .inl (km_ways, 6875, .inl fm_ways)), ((mr 18), .inl (km_verdict, 24, .inl fm_verdict)), ((mr 19), .inl (km_row, 24, .inl fm_row)), ((mr 4), .inl (km_struck, 24, .inl fm_struck)), ((mr 7), .inl (km_reportKnown, 24, .inl fm_reportKnown)), ((mr 2), .inl (km_reportPlace, 24, .inl fm_reportPlace)), ((mr 5), .inl (km_reportMonth, 24, .inl fm_reportMonth)), ((mr 6), .inl (km_reportDay, 24, .inl fm_reportDay)), ((mr 3), .inl (km_reportKind, 24, .inl fm_reportKind)), ((mr 0), .inl (km_trust, 6, .inl fm_trust)), ((mr 1), .inl (km_letter, 36, .inl fm_letter))]) [0, 1, 2, 3, 4, 5, 6, 7, 8, 9, 10, 11, 12, 13, 14] (by decide) rfl
      have hFc := va_free (wc := [(h0, .inr (12, fsMM mi mr)), ((mr 14), .inl (km_must, 25, .inl fm_must)), ((mr 15), .inl (km_least, 25, .inl fm_least)), ((mr 16), .inl (km_pin, 25, .inl fm_pin)), ((mr 17), .inl (km_ways, 6875, .inl fm_ways)), ((mr 18), .inl (km_verdict, 24, .inl fm_verdict)), ((mr 19), .inl (km_row, 24, .inl fm_row)), ((mr 4), .inl (km_struck, 24, .inl fm_struck)), ((mr 7), .inl (km_reportKnown, 24, .inl fm_reportKnown)), ((mr 2), .inl (km_reportPlace, 24, .inl fm_reportPlace)), ((mr 5), .inl (km_reportMonth, 24, .inl fm_reportMonth)), ((mr 6), .inl (km_reportDay, 24, .inl fm_reportDay)), ((mr 3), .inl (km_reportKind, 24, .inl fm_reportKind)), ((mr 0), .inl (km_trust, 6, .inl fm_trust)), ((mr 1), .inl (km_letter, 36, .inl fm_letter))]) hD hS hA [0, 1, 2, 3, 4, 5, 6, 7, 8, 9, 10, 11, 12, 13, 14] rfl
      refine va_callv (va_runV (As := [.int p1]) (rest := []) ⟨hx, hb, hml, hown, hts⟩ (sX12_judgesAll l dC dI H.size h0 mi mr km_must fm_must km_least fm_least km_pin fm_pin km_ways fm_ways km_verdict fm_verdict km_row fm_row km_struck fm_struck km_reportKnown fm_reportKnown km_reportPlace fm_reportPlace km_reportMonth fm_reportMonth km_reportDay fm_reportDay km_reportKind fm_reportKind km_trust fm_trust km_letter fm_letter p1 gmi_0 gmi_1 gmi_2 gmi_4 gmi_7 gmi_10 gmi_17 gmi_23 gmi_24 gmi_26 gmi_29 gmi_30 gmi_33 gmi_37 gmi_41 gmi_50 gmi_51 gmi_56 gfm_row gfm_struck gfm_reportKnown gfm_reportPlace gfm_reportMonth gfm_reportDay) (cwV 1 hts (gz_gV mGB_261 mGB_262 mGB_263 mGB_1 mGB_264 goodGB) rfl rfl rfl (by decide +kernel) ⟨Nat.le_of_ble_eq_true rfl, Nat.le_of_ble_eq_true rfl⟩) ⟨fun a U g mk q => by obtain ⟨q0, q1, qP, qK, qD⟩ := q; exact ⟨q0, q1, qP, va_K.moved (u := U) (U := U.calling g mk a) (Vm.Alike.refl U.vm) qK, qD⟩, va_recv hKc hPc (ci := 12) (q0 := 0) rfl rfl, fun U hU hW => ⟨rfl, by rw [hU], by rw [hU]; exact hPc, va_K.moved hW.alike hKc, hDc.weaken (fun _ _ _ _ => trivial)⟩⟩ rfl rfl hl.1 rfl (lv_room (Nat.le_of_ble_eq_true rfl)) dX12_judged_21 ⟨Nat.zero_le _, Nat.zero_le _⟩) hS (fun q _ h => hFc q h) hFc (fun u t H1 locs ht hvm hw hB hz1 hk1 hS => ?_)
      obtain ⟨y_51, y_52, f_53, f_54, f_55, f_56, f_57, f_58, gy_51, gy_52, gf_58, hP1, hD1⟩ := hB
      rw [ht] at hP1
      obtain ⟨hP, hD⟩ := va_join (wr := []) (w1 := [(h0, .inr (12, fsMM (upd (upd mi 37 y_51) 41 y_52) mr)), ((mr 14), .inl (km_must, 25, .inl f_53)), ((mr 15), .inl (km_least, 25, .inl f_54)), ((mr 16), .inl (km_pin, 25, .inl f_55)), ((mr 17), .inl (km_ways, 6875, .inl f_56)), ((mr 18), .inl (km_verdict, 24, .inl f_57)), ((mr 19), .inl (km_row, 24, .inl f_58)), ((mr 4), .inl (km_struck, 24, .inl fm_struck)), ((mr 7), .inl (km_reportKnown, 24, .inl fm_reportKnown)), ((mr 2), .inl (km_reportPlace, 24, .inl fm_reportPlace)), ((mr 5), .inl (km_reportMonth, 24, .inl fm_reportMonth)), ((mr 6), .inl (km_reportDay, 24, .inl fm_reportDay)), ((mr 3), .inl (km_reportKind, 24, .inl fm_reportKind)), ((mr 0), .inl (km_trust, 6, .inl fm_trust)), ((mr 1), .inl (km_letter, 36, .inl fm_letter))]) hP hD [0, 1, 2, 3, 4, 5, 6, 7, 8, 9, 10, 11, 12, 13, 14] [] rfl rfl (by decide) (by decide) hk1 hFc hP1 hD1
      have hP := hP.sub (ws' := [(h0, .inr (12, fsMM (upd (upd mi 37 y_51) 41 y_52) mr)), ((mr 14), .inl (km_must, 25, .inl f_53)), ((mr 15), .inl (km_least, 25, .inl f_54)), ((mr 16), .inl (km_pin, 25, .inl f_55)), ((mr 17), .inl (km_ways, 6875, .inl f_56)), ((mr 18), .inl (km_verdict, 24, .inl f_57)), ((mr 19), .inl (km_row, 24, .inl f_58)), ((mr 4), .inl (km_struck, 24, .inl fm_struck)), ((mr 7), .inl (km_reportKnown, 24, .inl fm_reportKnown)), ((mr 2), .inl (km_reportPlace, 24, .inl fm_reportPlace)), ((mr 5), .inl (km_reportMonth, 24, .inl fm_reportMonth)), ((mr 6), .inl (km_reportDay, 24, .inl fm_reportDay)), ((mr 3), .inl (km_reportKind, 24, .inl fm_reportKind)), ((mr 0), .inl (km_trust, 6, .inl fm_trust)), ((mr 1), .inl (km_letter, 36, .inl fm_letter))]) [0, 1, 2, 3, 4, 5, 6, 7, 8, 9, 10, 11, 12, 13, 14] rfl
      have hD := hD.sub (ws' := [(h0, .inr (12, fsMM (upd (upd mi 37 y_51) 41 y_52) mr)), ((mr 14), .inl (km_must, 25, .inl f_53)), ((mr 15), .inl (km_least, 25, .inl f_54)), ((mr 16), .inl (km_pin, 25, .inl f_55)), ((mr 17), .inl (km_ways, 6875, .inl f_56)), ((mr 18), .inl (km_verdict, 24, .inl f_57)), ((mr 19), .inl (km_row, 24, .inl f_58)), ((mr 4), .inl (km_struck, 24, .inl fm_struck)), ((mr 7), .inl (km_reportKnown, 24, .inl fm_reportKnown)), ((mr 2), .inl (km_reportPlace, 24, .inl fm_reportPlace)), ((mr 5), .inl (km_reportMonth, 24, .inl fm_reportMonth)), ((mr 6), .inl (km_reportDay, 24, .inl fm_reportDay)), ((mr 3), .inl (km_reportKind, 24, .inl fm_reportKind)), ((mr 0), .inl (km_trust, 6, .inl fm_trust)), ((mr 1), .inl (km_letter, 36, .inl fm_letter))]) [0, 1, 2, 3, 4, 5, 6, 7, 8, 9, 10, 11, 12, 13, 14] (by decide) rfl
      generalize H1 = H at hP hS ⊢
      refine lv_aload_n hx hb dX12_judged_24 rfl (lv_at hl 0 rfl) ?_
      refine va_get (D := (dC, dI)) (ci := 12) (v := .ref (mr 18)) (C := RX12) (T := TX12) (N := 57) hx hb hts (fun w h => List.mem_cons_of_mem _ (jnGB_X12 w h)) hown hK hP 0 rfl rfl 39 (by decide) (hts _ (List.mem_cons_of_mem _ mGB_30)) (fun _ h9 => h9) rfl dX12_judged_25 ?_
      refine lv_iload_n hx hb dX12_judged_28 rfl (lv_at hl 2 rfl) ?_
      refine va_iald hx hb hK hP 5 4 rfl rfl (gi_in g_49 (by decide)) dX12_judged_29 ?_
      refine lv_topi (fun x_59 ex_59 => ?_)
      exact W.iret (v := x_59) hx hb hr (fun t ht hW => ⟨⟨x_59, (), rfl, (gi_any x_59), y_51, y_52, f_53, f_54, f_55, f_56, f_57, f_58, gy_51, gy_52, gf_58, by rw [ht]; exact hP, hD⟩, hS.F ht⟩) hS.2.2 dX12_judged_30
    · have g_60 : gi r_46 0 0 := gi_eq c_47 (gi_c 0 0 (by decide))
      refine lv_bipush (v := (-2)) hx hb dX12_judged_16 (by decide) ?_
      exact W.iret (v := (-2)) hx hb hr (fun t ht hW => ⟨⟨(-2), (), rfl, (gi_any (-2)), (mi 37), (mi 41), fm_must, fm_least, fm_pin, fm_ways, fm_verdict, fm_row, gmi_37, gmi_41, gfm_row, by rw [ht]; exact hP, hD⟩, hS.F ht⟩) hS.2.2 dX12_judged_18
theorem dX12_order_0 : decode cX12_order 0 = .ok (.aload_n 0, 1) := by decide +kernel
theorem dX12_order_1 : decode cX12_order 1 = .ok (.iload_n 1, 1) := by decide +kernel
theorem dX12_order_2 : decode cX12_order 2 = .ok (.invokevirtual 359, 3) := by decide +kernel
theorem dX12_order_5 : decode cX12_order 5 = .ok (.ifCond .eq 7, 3) := by decide +kernel
theorem dX12_order_8 : decode cX12_order 8 = .ok (.iload_n 2, 1) := by decide +kernel
theorem dX12_order_9 : decode cX12_order 9 = .ok (.ifCond .ge 6, 3) := by decide +kernel
theorem dX12_order_12 : decode cX12_order 12 = .ok (.bipush (-2), 2) := by decide +kernel
theorem dX12_order_14 : decode cX12_order 14 = .ok (.ireturn, 1) := by decide +kernel
theorem dX12_order_15 : decode cX12_order 15 = .ok (.aload_n 0, 1) := by decide +kernel
theorem dX12_order_16 : decode cX12_order 16 = .ok (.iload_n 1, 1) := by decide +kernel
theorem dX12_order_17 : decode cX12_order 17 = .ok (.invokevirtual 353, 3) := by decide +kernel
theorem dX12_order_20 : decode cX12_order 20 = .ok (.iload_n 2, 1) := by decide +kernel
theorem dX12_order_21 : decode cX12_order 21 = .ok (.aload_n 0, 1) := by decide +kernel
theorem dX12_order_22 : decode cX12_order 22 = .ok (.getfield 338, 3) := by decide +kernel
theorem dX12_order_25 : decode cX12_order 25 = .ok (.if_icmp .ge 12, 3) := by decide +kernel
theorem dX12_order_28 : decode cX12_order 28 = .ok (.aload_n 0, 1) := by decide +kernel
theorem dX12_order_29 : decode cX12_order 29 = .ok (.getfield 72, 3) := by decide +kernel
theorem dX12_order_32 : decode cX12_order 32 = .ok (.iload_n 2, 1) := by decide +kernel
theorem dX12_order_33 : decode cX12_order 33 = .ok (.iaload, 1) := by decide +kernel
theorem dX12_order_34 : decode cX12_order 34 = .ok (.goto 4, 3) := by decide +kernel
theorem dX12_order_37 : decode cX12_order 37 = .ok (.iconst (-1), 1) := by decide +kernel
theorem dX12_order_38 : decode cX12_order 38 = .ok (.ireturn, 1) := by decide +kernel
set_option maxHeartbeats 4000000 in
set_option maxRecDepth 100000 in
theorem sX12_order (l : Launch) (dC : Nat → ClassId) (dI : Nat → Nat → Nat) (sz : Nat) (h0 : Nat) (mi : Nat → Int32) (mr : Nat → Nat) (km_must : ClassId) (fm_must : Nat → Int32) (km_least : ClassId) (fm_least : Nat → Int32) (km_pin : ClassId) (fm_pin : Nat → Int32) (km_ways : ClassId) (fm_ways : Nat → Int32) (km_verdict : ClassId) (fm_verdict : Nat → Int32) (km_row : ClassId) (fm_row : Nat → Int32) (km_struck : ClassId) (fm_struck : Nat → Int32) (km_reportKnown : ClassId) (fm_reportKnown : Nat → Int32) (km_reportPlace : ClassId) (fm_reportPlace : Nat → Int32) (km_reportMonth : ClassId) (fm_reportMonth : Nat → Int32) (km_reportDay : ClassId) (fm_reportDay : Nat → Int32) (km_reportKind : ClassId) (fm_reportKind : Nat → Int32) (km_trust : ClassId) (fm_trust : Nat → Int32) (km_letter : ClassId) (fm_letter : Nat → Int32) (p1 : Int32) (p2 : Int32) (gmi_0 : gi (mi 0) 0 24) (gmi_1 : gi (mi 1) 0 5) (gmi_2 : gi (mi 2) 0 5) (gmi_4 : gi (mi 4) 0 1) (gmi_7 : gi (mi 7) 0 6) (gmi_10 : gi (mi 10) 0 24) (gmi_17 : gi (mi 17) 0 8) (gmi_23 : gi (mi 23) 0 300) (gmi_24 : gi (mi 24) 0 1) (gmi_26 : gi (mi 26) 0 1600) (gmi_29 : gi (mi 29) 0 1600) (gmi_30 : gi (mi 30) 0 1600) (gmi_33 : gi (mi 33) 0 1) (gmi_37 : gi (mi 37) 0 1) (gmi_41 : gi (mi 41) 0 24) (gmi_50 : gi (mi 50) 0 1) (gmi_51 : gi (mi 51) 0 1) (gmi_56 : gi (mi 56) 0 80) (gfm_row : ga fm_row 24 0 23) (gfm_struck : ga fm_struck 24 0 1) (gfm_reportKnown : ga fm_reportKnown 24 0 999) (gfm_reportPlace : ga fm_reportPlace 24 0 5) (gfm_reportMonth : ga fm_reportMonth 24 0 23) (gfm_reportDay : ga fm_reportDay 24 0 999) : Met l yX12_order (.code yX12_order cX12_order 3 (some .int) :: wsGB) ({ frames := 3, cells := 0, slots := 0, locals := 72 }) (va_Pc [.ref h0, .int p1, .int p2] (fun U => U.heap.size = sz ∧ va_P (dC, dI) vwCl [(h0, .inr (12, fsMM mi mr)), ((mr 14), .inl (km_must, 25, .inl fm_must)), ((mr 15), .inl (km_least, 25, .inl fm_least)), ((mr 16), .inl (km_pin, 25, .inl fm_pin)), ((mr 17), .inl (km_ways, 6875, .inl fm_ways)), ((mr 18), .inl (km_verdict, 24, .inl fm_verdict)), ((mr 19), .inl (km_row, 24, .inl fm_row)), ((mr 4), .inl (km_struck, 24, .inl fm_struck)), ((mr 7), .inl (km_reportKnown, 24, .inl fm_reportKnown)), ((mr 2), .inl (km_reportPlace, 24, .inl fm_reportPlace)), ((mr 5), .inl (km_reportMonth, 24, .inl fm_reportMonth)), ((mr 6), .inl (km_reportDay, 24, .inl fm_reportDay)), ((mr 3), .inl (km_reportKind, 24, .inl fm_reportKind)), ((mr 0), .inl (km_trust, 6, .inl fm_trust)), ((mr 1), .inl (km_letter, 36, .inl fm_letter))] U.heap ∧ va_K (dC, dI) vwCl [(km_must, .int), (km_least, .int), (km_pin, .int), (km_ways, .int), (km_verdict, .int), (km_row, .int), (km_struck, .boolean), (km_reportKnown, .int), (km_reportPlace, .int), (km_reportMonth, .int), (km_reportDay, .int), (km_reportKind, .int), (km_trust, .int), (km_letter, .int)] U ∧ va_D (fun _ => True) [(h0, .inr (12, fsMM mi mr)), ((mr 14), .inl (km_must, 25, .inl fm_must)), ((mr 15), .inl (km_least, 25, .inl fm_least)), ((mr 16), .inl (km_pin, 25, .inl fm_pin)), ((mr 17), .inl (km_ways, 6875, .inl fm_ways)), ((mr 18), .inl (km_verdict, 24, .inl fm_verdict)), ((mr 19), .inl (km_row, 24, .inl fm_row)), ((mr 4), .inl (km_struck, 24, .inl fm_struck)), ((mr 7), .inl (km_reportKnown, 24, .inl fm_reportKnown)), ((mr 2), .inl (km_reportPlace, 24, .inl fm_reportPlace)), ((mr 5), .inl (km_reportMonth, 24, .inl fm_reportMonth)), ((mr 6), .inl (km_reportDay, 24, .inl fm_reportDay)), ((mr 3), .inl (km_reportKind, 24, .inl fm_reportKind)), ((mr 0), .inl (km_trust, 6, .inl fm_trust)), ((mr 1), .inl (km_letter, 36, .inl fm_letter))])) (va_Qi (fun (r : Int32) (u : Unit) => gi r (-2) 23) (fun _ t => ∃ (w0_41 : Int32) (z5 : Nat → Int32) (z6 : Nat → Int32), gi w0_41 0 24 ∧ ga z6 24 0 23 ∧ va_P (dC, dI) vwCl [(h0, .inr (12, fsMM (upd mi 41 w0_41) mr)), ((mr 14), .inl (km_must, 25, .inl fm_must)), ((mr 15), .inl (km_least, 25, .inl fm_least)), ((mr 16), .inl (km_pin, 25, .inl fm_pin)), ((mr 17), .inl (km_ways, 6875, .inl fm_ways)), ((mr 18), .inl (km_verdict, 24, .inl z5)), ((mr 19), .inl (km_row, 24, .inl z6)), ((mr 4), .inl (km_struck, 24, .inl fm_struck)), ((mr 7), .inl (km_reportKnown, 24, .inl fm_reportKnown)), ((mr 2), .inl (km_reportPlace, 24, .inl fm_reportPlace)), ((mr 5), .inl (km_reportMonth, 24, .inl fm_reportMonth)), ((mr 6), .inl (km_reportDay, 24, .inl fm_reportDay)), ((mr 3), .inl (km_reportKind, 24, .inl fm_reportKind)), ((mr 0), .inl (km_trust, 6, .inl fm_trust)), ((mr 1), .inl (km_letter, 36, .inl fm_letter))] t.heap ∧ va_D (va_A [(h0, .inr (12, fsMM mi mr)), ((mr 14), .inl (km_must, 25, .inl fm_must)), ((mr 15), .inl (km_least, 25, .inl fm_least)), ((mr 16), .inl (km_pin, 25, .inl fm_pin)), ((mr 17), .inl (km_ways, 6875, .inl fm_ways)), ((mr 18), .inl (km_verdict, 24, .inl fm_verdict)), ((mr 19), .inl (km_row, 24, .inl fm_row)), ((mr 4), .inl (km_struck, 24, .inl fm_struck)), ((mr 7), .inl (km_reportKnown, 24, .inl fm_reportKnown)), ((mr 2), .inl (km_reportPlace, 24, .inl fm_reportPlace)), ((mr 5), .inl (km_reportMonth, 24, .inl fm_reportMonth)), ((mr 6), .inl (km_reportDay, 24, .inl fm_reportDay)), ((mr 3), .inl (km_reportKind, 24, .inl fm_reportKind)), ((mr 0), .inl (km_trust, 6, .inl fm_trust)), ((mr 1), .inl (km_letter, 36, .inl fm_letter))] sz) [(h0, .inr (12, fsMM (upd mi 41 w0_41) mr)), ((mr 14), .inl (km_must, 25, .inl fm_must)), ((mr 15), .inl (km_least, 25, .inl fm_least)), ((mr 16), .inl (km_pin, 25, .inl fm_pin)), ((mr 17), .inl (km_ways, 6875, .inl fm_ways)), ((mr 18), .inl (km_verdict, 24, .inl z5)), ((mr 19), .inl (km_row, 24, .inl z6)), ((mr 4), .inl (km_struck, 24, .inl fm_struck)), ((mr 7), .inl (km_reportKnown, 24, .inl fm_reportKnown)), ((mr 2), .inl (km_reportPlace, 24, .inl fm_reportPlace)), ((mr 5), .inl (km_reportMonth, 24, .inl fm_reportMonth)), ((mr 6), .inl (km_reportDay, 24, .inl fm_reportDay)), ((mr 3), .inl (km_reportKind, 24, .inl fm_reportKind)), ((mr 0), .inl (km_trust, 6, .inl fm_trust)), ((mr 1), .inl (km_letter, 36, .inl fm_letter))]) (va_A [(h0, .inr (12, fsMM mi mr)), ((mr 14), .inl (km_must, 25, .inl fm_must)), ((mr 15), .inl (km_least, 25, .inl fm_least)), ((mr 16), .inl (km_pin, 25, .inl fm_pin)), ((mr 17), .inl (km_ways, 6875, .inl fm_ways)), ((mr 18), .inl (km_verdict, 24, .inl fm_verdict)), ((mr 19), .inl (km_row, 24, .inl fm_row)), ((mr 4), .inl (km_struck, 24, .inl fm_struck)), ((mr 7), .inl (km_reportKnown, 24, .inl fm_reportKnown)), ((mr 2), .inl (km_reportPlace, 24, .inl fm_reportPlace)), ((mr 5), .inl (km_reportMonth, 24, .inl fm_reportMonth)), ((mr 6), .inl (km_reportDay, 24, .inl fm_reportDay)), ((mr 3), .inl (km_reportKind, 24, .inl fm_reportKind)), ((mr 0), .inl (km_trust, 6, .inl fm_trust)), ((mr 1), .inl (km_letter, 36, .inl fm_letter))] sz)) 0 0 (va_A [(h0, .inr (12, fsMM mi mr)), ((mr 14), .inl (km_must, 25, .inl fm_must)), ((mr 15), .inl (km_least, 25, .inl fm_least)), ((mr 16), .inl (km_pin, 25, .inl fm_pin)), ((mr 17), .inl (km_ways, 6875, .inl fm_ways)), ((mr 18), .inl (km_verdict, 24, .inl fm_verdict)), ((mr 19), .inl (km_row, 24, .inl fm_row)), ((mr 4), .inl (km_struck, 24, .inl fm_struck)), ((mr 7), .inl (km_reportKnown, 24, .inl fm_reportKnown)), ((mr 2), .inl (km_reportPlace, 24, .inl fm_reportPlace)), ((mr 5), .inl (km_reportMonth, 24, .inl fm_reportMonth)), ((mr 6), .inl (km_reportDay, 24, .inl fm_reportDay)), ((mr 3), .inl (km_reportKind, 24, .inl fm_reportKind)), ((mr 0), .inl (km_trust, 6, .inl fm_trust)), ((mr 1), .inl (km_letter, 36, .inl fm_letter))] sz) := by
  refine Met.ofW (cc := cX12_order) (maxL := 3) (ret := (some .int)) (by decide) rfl ?_
  intro p e s m args below meth c s₁ B hml hv
  obtain ⟨rfl, hsz, hP, hK, hD0⟩ := hv
  have hx := B.exec
  have hb := B.bytes
  have hr := B.returns
  have hts := atoms_spec (ws := (.code yX12_order cX12_order 3 (some .int) :: wsGB)) B.pre
  have hown : s.vm.findClass RX12 = some m.cls := findClass_of_methodNamed B.named
  have hlocks := B.notSynchronized
  subst hsz
  have hD := hD0.self (sz := s.heap.size)
  generalize hAe : va_A [(h0, .inr (12, fsMM mi mr)), ((mr 14), .inl (km_must, 25, .inl fm_must)), ((mr 15), .inl (km_least, 25, .inl fm_least)), ((mr 16), .inl (km_pin, 25, .inl fm_pin)), ((mr 17), .inl (km_ways, 6875, .inl fm_ways)), ((mr 18), .inl (km_verdict, 24, .inl fm_verdict)), ((mr 19), .inl (km_row, 24, .inl fm_row)), ((mr 4), .inl (km_struck, 24, .inl fm_struck)), ((mr 7), .inl (km_reportKnown, 24, .inl fm_reportKnown)), ((mr 2), .inl (km_reportPlace, 24, .inl fm_reportPlace)), ((mr 5), .inl (km_reportMonth, 24, .inl fm_reportMonth)), ((mr 6), .inl (km_reportDay, 24, .inl fm_reportDay)), ((mr 3), .inl (km_reportKind, 24, .inl fm_reportKind)), ((mr 0), .inl (km_trust, 6, .inl fm_trust)), ((mr 1), .inl (km_letter, 36, .inl fm_letter))] s.heap.size = A at hD ⊢
  have hA : ∀ q : Nat, s.heap.size ≤ q → A q := fun q h => by rw [← hAe]; exact Or.inr h
  have hS : va_S A s.heap s.heap [] := va_S.rf
  have hl := lv_entry ([.ref h0, .int p1, .int p2]) (n := 3) (Nat.le_of_ble_eq_true rfl)
  rw [lg_entry_eq]
  generalize (lg_sl ([.ref h0, .int p1, .int p2]) ++ List.replicate (3 - (lg_sl ([.ref h0, .int p1, .int p2])).length) Slot.unset).toArray = ls at hl ⊢
  have hl : lv_has ls 3 [(0, .ref h0), (1, .int p1), (2, .int p2)] := hl
  refine lv_aload_n hx hb dX12_order_0 rfl (lv_at hl 0 rfl) ?_
  refine lv_iload_n hx hb dX12_order_1 rfl (lv_at hl 1 rfl) ?_
  have hPc := hP.sub (ws' := [(h0, .inr (12, fsMM mi mr))]) [0] rfl
  have hKc := hK.sub (tys' := []) [] rfl
  refine va_calli (va_runV (As := [.int p1]) (rest := []) ⟨hx, hb, hml, hown, hts⟩ (sX12_isTime l dC dI h0 mi mr p1 gmi_0 gmi_1 gmi_2 gmi_4 gmi_7 gmi_10 gmi_17 gmi_23 gmi_24 gmi_26 gmi_29 gmi_30 gmi_33 gmi_37 gmi_41 gmi_50 gmi_51 gmi_56) (cwV 1 hts (gz_gV mGB_256 mGB_257 mGB_258 mGB_1 mGB_259 goodGB) rfl rfl rfl (by decide +kernel) ⟨Nat.le_of_ble_eq_true rfl, Nat.le_of_ble_eq_true rfl⟩) ⟨fun a U g mk q => by obtain ⟨q0, qP, qK⟩ := q; exact ⟨q0, qP, va_K.moved (u := U) (U := U.calling g mk a) (Vm.Alike.refl U.vm) qK⟩, va_recv hKc hPc (ci := 12) (q0 := 0) rfl rfl, fun U hU hW => ⟨rfl, by rw [hU]; exact hPc, va_K.moved hW.alike hKc⟩⟩ rfl rfl hl.1 rfl (lv_room (Nat.le_of_ble_eq_true rfl)) dX12_order_2 ⟨Nat.zero_le _, Nat.zero_le _⟩) hS (fun q _ h => h.elim) (fun q h => h.elim) (fun r_33 u t H1 locs ht hvm hw hB hz1 hk1 hS => ?_)
  have hP := gz_keep hP hk1
  generalize H1 = H at hP hS ⊢
  have gr_33 : gi r_33 0 1 := hw.1
  have hqr_33 := hw.2
  refine lv_if_eq (tgt := 12) hx hb dX12_order_5 (by decide) (fun c_34 => ?_) (fun c_34 => ?_)
  · have g_35 : gi r_33 0 0 := gi_eq c_34 (gi_c 0 0 (by decide))
    refine lv_bipush (v := (-2)) hx hb dX12_order_12 (by decide) ?_
    exact W.iret (v := (-2)) hx hb hr (fun t ht hW => ⟨⟨(-2), (), rfl, (gi_w (gi_c (-2) (-2) (by decide)) (by decide)), (mi 41), fm_verdict, fm_row, gmi_41, gfm_row, by rw [ht]; exact hP, hD⟩, hS.F ht⟩) hS.2.2 dX12_order_14
  · have g_36 : gi r_33 1 1 := gi_ne_lo c_34 gr_33 (gi_c 0 0 (by decide)) (by decide)
    have g_37 : gi p1 0 999 := gi_cap (gi_any p1) (hqr_33 (gz_one g_36)) (by decide)
    refine lv_iload_n hx hb dX12_order_8 rfl (lv_at hl 2 rfl) ?_
    refine lv_if_ge (tgt := 15) hx hb dX12_order_9 (by decide) (fun c_38 => ?_) (fun c_38 => ?_)
    · have g_39 : gi p2 0 2147483647 := gi_le_r c_38 (gi_c 0 0 (by decide)) (gi_any p2)
      refine lv_aload_n hx hb dX12_order_15 rfl (lv_at hl 0 rfl) ?_
      refine lv_iload_n hx hb dX12_order_16 rfl (lv_at hl 1 rfl) ?_
      have hPc := hP.sub (ws' := [(h0, .inr (12, fsMM mi mr)), ((mr 18), .inl (km_verdict, 24, .inl fm_verdict)), ((mr 19), .inl (km_row, 24, .inl fm_row)), ((mr 4), .inl (km_struck, 24, .inl fm_struck)), ((mr 7), .inl (km_reportKnown, 24, .inl fm_reportKnown)), ((mr 2), .inl (km_reportPlace, 24, .inl fm_reportPlace)), ((mr 5), .inl (km_reportMonth, 24, .inl fm_reportMonth)), ((mr 6), .inl (km_reportDay, 24, .inl fm_reportDay)), ((mr 3), .inl (km_reportKind, 24, .inl fm_reportKind)), ((mr 0), .inl (km_trust, 6, .inl fm_trust)), ((mr 1), .inl (km_letter, 36, .inl fm_letter))]) [0, 5, 6, 7, 8, 9, 10, 11, 12, 13, 14] rfl
      have hKc := hK.sub (tys' := [(km_verdict, .int), (km_row, .int), (km_struck, .boolean), (km_reportKnown, .int), (km_reportPlace, .int), (km_reportMonth, .int), (km_reportDay, .int), (km_reportKind, .int), (km_trust, .int), (km_letter, .int)]) [4, 5, 6, 7, 8, 9, 10, 11, 12, 13] rfl
      have hDc := hD.sub (ws' := [(h0, .inr (12, fsMM mi mr)), ((mr 18), .inl (km_verdict, 24, .inl fm_verdict)), ((mr 19), .inl (km_row, 24, .inl fm_row)), ((mr 4), .inl (km_struck, 24, .inl fm_struck)), ((mr 7), .inl (km_reportKnown, 24, .inl fm_reportKnown)), ((mr 2), .inl (km_reportPlace, 24, .inl fm_reportPlace)), ((mr 5), .inl (km_reportMonth, 24, .inl fm_reportMonth)), ((mr 6), .inl (km_reportDay, 24, .inl fm_reportDay)), ((mr 3), .inl (km_reportKind, 24, .inl fm_reportKind)), ((mr 0), .inl (km_trust, 6, .inl fm_trust)), ((mr 1), .inl (km_letter, 36, .inl fm_letter))]) [0, 5, 6, 7, 8, 9, 10, 11, 12, 13, 14] (by decide) rfl
      have hFc := va_free (wc := [(h0, .inr (12, fsMM mi mr)), ((mr 18), .inl (km_verdict, 24, .inl fm_verdict)), ((mr 19), .inl (km_row, 24, .inl fm_row)), ((mr 4), .inl (km_struck, 24, .inl fm_struck)), ((mr 7), .inl (km_reportKnown, 24, .inl fm_reportKnown)), ((mr 2), .inl (km_reportPlace, 24, .inl fm_reportPlace)), ((mr 5), .inl (km_reportMonth, 24, .inl fm_reportMonth)), ((mr 6), .inl (km_reportDay, 24, .inl fm_reportDay)), ((mr 3), .inl (km_reportKind, 24, .inl fm_reportKind)), ((mr 0), .inl (km_trust, 6, .inl fm_trust)), ((mr 1), .inl (km_letter, 36, .inl fm_letter))]) hD hS hA [0, 5, 6, 7, 8, 9, 10, 11, 12, 13, 14] rfl
      refine va_callv (va_runV (As := [.int p1]) (rest := []) ⟨hx, hb, hml, hown, hts⟩ (sX12_laysRow l dC dI H.size h0 mi mr km_verdict fm_verdict km_row fm_row km_struck fm_struck km_reportKnown fm_reportKnown km_reportPlace fm_reportPlace km_reportMonth fm_reportMonth km_reportDay fm_reportDay km_reportKind fm_reportKind km_trust fm_trust km_letter fm_letter p1 gmi_0 gmi_1 gmi_2 gmi_4 gmi_7 gmi_10 gmi_17 gmi_23 gmi_24 gmi_26 gmi_29 gmi_30 gmi_33 gmi_37 gmi_41 gmi_50 gmi_51 gmi_56 gfm_row gfm_struck gfm_reportKnown gfm_reportPlace gfm_reportMonth gfm_reportDay) (cwV 1 hts (gz_gV mGB_275 mGB_276 mGB_277 mGB_1 mGB_278 goodGB) rfl rfl rfl (by decide +kernel) ⟨Nat.le_of_ble_eq_true rfl, Nat.le_of_ble_eq_true rfl⟩) ⟨fun a U g mk q => by obtain ⟨q0, q1, qP, qK, qD⟩ := q; exact ⟨q0, q1, qP, va_K.moved (u := U) (U := U.calling g mk a) (Vm.Alike.refl U.vm) qK, qD⟩, va_recv hKc hPc (ci := 12) (q0 := 0) rfl rfl, fun U hU hW => ⟨rfl, by rw [hU], by rw [hU]; exact hPc, va_K.moved hW.alike hKc, hDc.weaken (fun _ _ _ _ => trivial)⟩⟩ rfl rfl hl.1 rfl (lv_room (Nat.le_of_ble_eq_true rfl)) dX12_order_17 ⟨Nat.zero_le _, Nat.zero_le _⟩) hS (fun q _ h => hFc q h) hFc (fun u t H1 locs ht hvm hw hB hz1 hk1 hS => ?_)
      obtain ⟨y_41, f_42, f_43, gy_41, gf_43, hP1, hD1⟩ := hB
      rw [ht] at hP1
      obtain ⟨hP, hD⟩ := va_join (wr := [((mr 14), .inl (km_must, 25, .inl fm_must)), ((mr 15), .inl (km_least, 25, .inl fm_least)), ((mr 16), .inl (km_pin, 25, .inl fm_pin)), ((mr 17), .inl (km_ways, 6875, .inl fm_ways))]) (w1 := [(h0, .inr (12, fsMM (upd mi 41 y_41) mr)), ((mr 18), .inl (km_verdict, 24, .inl f_42)), ((mr 19), .inl (km_row, 24, .inl f_43)), ((mr 4), .inl (km_struck, 24, .inl fm_struck)), ((mr 7), .inl (km_reportKnown, 24, .inl fm_reportKnown)), ((mr 2), .inl (km_reportPlace, 24, .inl fm_reportPlace)), ((mr 5), .inl (km_reportMonth, 24, .inl fm_reportMonth)), ((mr 6), .inl (km_reportDay, 24, .inl fm_reportDay)), ((mr 3), .inl (km_reportKind, 24, .inl fm_reportKind)), ((mr 0), .inl (km_trust, 6, .inl fm_trust)), ((mr 1), .inl (km_letter, 36, .inl fm_letter))]) hP hD [0, 5, 6, 7, 8, 9, 10, 11, 12, 13, 14] [1, 2, 3, 4] rfl rfl (by decide) (by decide) hk1 hFc hP1 hD1
      have hP := hP.sub (ws' := [(h0, .inr (12, fsMM (upd mi 41 y_41) mr)), ((mr 14), .inl (km_must, 25, .inl fm_must)), ((mr 15), .inl (km_least, 25, .inl fm_least)), ((mr 16), .inl (km_pin, 25, .inl fm_pin)), ((mr 17), .inl (km_ways, 6875, .inl fm_ways)), ((mr 18), .inl (km_verdict, 24, .inl f_42)), ((mr 19), .inl (km_row, 24, .inl f_43)), ((mr 4), .inl (km_struck, 24, .inl fm_struck)), ((mr 7), .inl (km_reportKnown, 24, .inl fm_reportKnown)), ((mr 2), .inl (km_reportPlace, 24, .inl fm_reportPlace)), ((mr 5), .inl (km_reportMonth, 24, .inl fm_reportMonth)), ((mr 6), .inl (km_reportDay, 24, .inl fm_reportDay)), ((mr 3), .inl (km_reportKind, 24, .inl fm_reportKind)), ((mr 0), .inl (km_trust, 6, .inl fm_trust)), ((mr 1), .inl (km_letter, 36, .inl fm_letter))]) [4, 0, 1, 2, 3, 5, 6, 7, 8, 9, 10, 11, 12, 13, 14] rfl
      have hD := hD.sub (ws' := [(h0, .inr (12, fsMM (upd mi 41 y_41) mr)), ((mr 14), .inl (km_must, 25, .inl fm_must)), ((mr 15), .inl (km_least, 25, .inl fm_least)), ((mr 16), .inl (km_pin, 25, .inl fm_pin)), ((mr 17), .inl (km_ways, 6875, .inl fm_ways)), ((mr 18), .inl (km_verdict, 24, .inl f_42)), ((mr 19), .inl (km_row, 24, .inl f_43)), ((mr 4), .inl (km_struck, 24, .inl fm_struck)), ((mr 7), .inl (km_reportKnown, 24, .inl fm_reportKnown)), ((mr 2), .inl (km_reportPlace, 24, .inl fm_reportPlace)), ((mr 5), .inl (km_reportMonth, 24, .inl fm_reportMonth)), ((mr 6), .inl (km_reportDay, 24, .inl fm_reportDay)), ((mr 3), .inl (km_reportKind, 24, .inl fm_reportKind)), ((mr 0), .inl (km_trust, 6, .inl fm_trust)), ((mr 1), .inl (km_letter, 36, .inl fm_letter))]) [4, 0, 1, 2, 3, 5, 6, 7, 8, 9, 10, 11, 12, 13, 14] (by decide) rfl
      generalize H1 = H at hP hS ⊢
      refine lv_iload_n hx hb dX12_order_20 rfl (lv_at hl 2 rfl) ?_
      refine lv_aload_n hx hb dX12_order_21 rfl (lv_at hl 0 rfl) ?_
      refine va_get (D := (dC, dI)) (ci := 12) (v := .int y_41) (C := RX12) (T := TX12) (N := 57) hx hb hts (fun w h => List.mem_cons_of_mem _ (jnGB_X12 w h)) hown hK hP 0 rfl rfl 41 (by decide) (hts _ (List.mem_cons_of_mem _ mGB_265)) (fun _ h9 => h9) rfl dX12_order_22 ?_
      refine lv_icmp_ge (tgt := 37) hx hb dX12_order_25 (by decide) (fun c_44 => ?_) (fun c_44 => ?_)
      · refine lv_iconst (v := (-1)) hx hb dX12_order_37 (by decide) ?_
        exact W.iret (v := (-1)) hx hb hr (fun t ht hW => ⟨⟨(-1), (), rfl, (gi_w (gi_c (-1) (-1) (by decide)) (by decide)), y_41, f_42, f_43, gy_41, gf_43, by rw [ht]; exact hP, hD⟩, hS.F ht⟩) hS.2.2 dX12_order_38
      · have g_45 : gi p2 0 23 := gi_lt_l (Int32.not_le.mp c_44) g_39 gy_41 (by decide)
        have g_46 : gi y_41 1 24 := gi_lt_r (Int32.not_le.mp c_44) g_39 gy_41 (by decide)
        refine lv_aload_n hx hb dX12_order_28 rfl (lv_at hl 0 rfl) ?_
        refine va_get (D := (dC, dI)) (ci := 12) (v := .ref (mr 19)) (C := RX12) (T := TX12) (N := 57) hx hb hts (fun w h => List.mem_cons_of_mem _ (jnGB_X12 w h)) hown hK hP 0 rfl rfl 40 (by decide) (hts _ (List.mem_cons_of_mem _ mGB_31)) (fun _ h9 => h9) rfl dX12_order_29 ?_
        refine lv_iload_n hx hb dX12_order_32 rfl (lv_at hl 2 rfl) ?_
        refine va_iald hx hb hK hP 6 5 rfl rfl (gi_in g_45 (by decide)) dX12_order_33 ?_
        refine lv_topi (fun x_47 ex_47 => ?_)
        have gx_47 : gi x_47 0 23 := ga_at gf_43 (gi_in g_45 (by decide)) ex_47
        refine lv_goto (tgt := 38) hx hb dX12_order_34 (by decide) ?_
        exact W.iret (v := x_47) hx hb hr (fun t ht hW => ⟨⟨x_47, (), rfl, (gi_w gx_47 (by decide)), y_41, f_42, f_43, (gi_w g_46 (by decide)), gf_43, by rw [ht]; exact hP, hD⟩, hS.F ht⟩) hS.2.2 dX12_order_38
    · have g_48 : gi p2 (-2147483648) (-1) := gi_lt_l (Int32.not_le.mp c_38) (gi_any p2) (gi_c 0 0 (by decide)) (by decide)
      refine lv_bipush (v := (-2)) hx hb dX12_order_12 (by decide) ?_
      exact W.iret (v := (-2)) hx hb hr (fun t ht hW => ⟨⟨(-2), (), rfl, (gi_w (gi_c (-2) (-2) (by decide)) (by decide)), (mi 41), fm_verdict, fm_row, gmi_41, gfm_row, by rw [ht]; exact hP, hD⟩, hS.F ht⟩) hS.2.2 dX12_order_14
theorem dX12_against_0 : decode cX12_against 0 = .ok (.aload_n 0, 1) := by decide +kernel
theorem dX12_against_1 : decode cX12_against 1 = .ok (.iload_n 1, 1) := by decide +kernel
theorem dX12_against_2 : decode cX12_against 2 = .ok (.invokevirtual 359, 3) := by decide +kernel
theorem dX12_against_5 : decode cX12_against 5 = .ok (.ifCond .eq 11, 3) := by decide +kernel
theorem dX12_against_8 : decode cX12_against 8 = .ok (.aload_n 0, 1) := by decide +kernel
theorem dX12_against_9 : decode cX12_against 9 = .ok (.iload_n 2, 1) := by decide +kernel
theorem dX12_against_10 : decode cX12_against 10 = .ok (.invokevirtual 303, 3) := by decide +kernel
theorem dX12_against_13 : decode cX12_against 13 = .ok (.ifCond .ne 6, 3) := by decide +kernel
theorem dX12_against_16 : decode cX12_against 16 = .ok (.bipush (-2), 2) := by decide +kernel
theorem dX12_against_18 : decode cX12_against 18 = .ok (.ireturn, 1) := by decide +kernel
theorem dX12_against_19 : decode cX12_against 19 = .ok (.aload_n 0, 1) := by decide +kernel
theorem dX12_against_20 : decode cX12_against 20 = .ok (.iload_n 1, 1) := by decide +kernel
theorem dX12_against_21 : decode cX12_against 21 = .ok (.invokevirtual 362, 3) := by decide +kernel
theorem dX12_against_24 : decode cX12_against 24 = .ok (.aload_n 0, 1) := by decide +kernel
theorem dX12_against_25 : decode cX12_against 25 = .ok (.getfield 69, 3) := by decide +kernel
theorem dX12_against_28 : decode cX12_against 28 = .ok (.iload_n 2, 1) := by decide +kernel
theorem dX12_against_29 : decode cX12_against 29 = .ok (.iaload, 1) := by decide +kernel
theorem dX12_against_30 : decode cX12_against 30 = .ok (.iconst 2, 1) := by decide +kernel
theorem dX12_against_31 : decode cX12_against 31 = .ok (.if_icmp .eq 5, 3) := by decide +kernel
theorem dX12_against_34 : decode cX12_against 34 = .ok (.iconst 0, 1) := by decide +kernel
theorem dX12_against_35 : decode cX12_against 35 = .ok (.ireturn, 1) := by decide +kernel
theorem dX12_against_36 : decode cX12_against 36 = .ok (.iconst 0, 1) := by decide +kernel
theorem dX12_against_37 : decode cX12_against 37 = .ok (.istore_n 3, 1) := by decide +kernel
theorem dX12_against_38 : decode cX12_against 38 = .ok (.iconst 0, 1) := by decide +kernel
theorem dX12_against_39 : decode cX12_against 39 = .ok (.istore 4, 2) := by decide +kernel
theorem dX12_against_41 : decode cX12_against 41 = .ok (.iload 4, 2) := by decide +kernel
theorem dX12_against_43 : decode cX12_against 43 = .ok (.aload_n 0, 1) := by decide +kernel
theorem dX12_against_44 : decode cX12_against 44 = .ok (.getfield 141, 3) := by decide +kernel
theorem dX12_against_47 : decode cX12_against 47 = .ok (.if_icmp .ge 40, 3) := by decide +kernel
theorem dX12_against_50 : decode cX12_against 50 = .ok (.iload_n 3, 1) := by decide +kernel
theorem dX12_against_51 : decode cX12_against 51 = .ok (.aload_n 0, 1) := by decide +kernel
theorem dX12_against_52 : decode cX12_against 52 = .ok (.getfield 69, 3) := by decide +kernel
theorem dX12_against_55 : decode cX12_against 55 = .ok (.iload 4, 2) := by decide +kernel
theorem dX12_against_57 : decode cX12_against 57 = .ok (.iaload, 1) := by decide +kernel
theorem dX12_against_58 : decode cX12_against 58 = .ok (.ifCond .ne 20, 3) := by decide +kernel
theorem dX12_against_61 : decode cX12_against 61 = .ok (.aload_n 0, 1) := by decide +kernel
theorem dX12_against_62 : decode cX12_against 62 = .ok (.iload 4, 2) := by decide +kernel
theorem dX12_against_64 : decode cX12_against 64 = .ok (.iload_n 2, 1) := by decide +kernel
theorem dX12_against_65 : decode cX12_against 65 = .ok (.invokevirtual 373, 3) := by decide +kernel
theorem dX12_against_68 : decode cX12_against 68 = .ok (.ifCond .ne 10, 3) := by decide +kernel
theorem dX12_against_71 : decode cX12_against 71 = .ok (.iconst 1, 1) := by decide +kernel
theorem dX12_against_72 : decode cX12_against 72 = .ok (.iload 4, 2) := by decide +kernel
theorem dX12_against_74 : decode cX12_against 74 = .ok (.ishl, 1) := by decide +kernel
theorem dX12_against_75 : decode cX12_against 75 = .ok (.goto 4, 3) := by decide +kernel
theorem dX12_against_78 : decode cX12_against 78 = .ok (.iconst 0, 1) := by decide +kernel
theorem dX12_against_79 : decode cX12_against 79 = .ok (.ior, 1) := by decide +kernel
theorem dX12_against_80 : decode cX12_against 80 = .ok (.istore_n 3, 1) := by decide +kernel
theorem dX12_against_81 : decode cX12_against 81 = .ok (.iinc 4 1, 3) := by decide +kernel
theorem dX12_against_84 : decode cX12_against 84 = .ok (.goto (-43), 3) := by decide +kernel
theorem dX12_against_87 : decode cX12_against 87 = .ok (.iload_n 3, 1) := by decide +kernel
theorem dX12_against_88 : decode cX12_against 88 = .ok (.ireturn, 1) := by decide +kernel
set_option maxHeartbeats 4000000 in
set_option maxRecDepth 100000 in
theorem lp_sX12_against {p : Program} {l : Launch} {e : Env} {R : Room} {s : State} {m : MethodId} {args : Array Value} {below : List Frame} {meth : Method} {c : Code} {Q : State → Prop} {A : Nat → Prop} {cells slots : Nat} {dC : Nat → ClassId} {dI : Nat → Nat → Nat} (h0 : Nat) (mi : Nat → Int32) (mr : Nat → Nat) (km_must : ClassId) (fm_must : Nat → Int32) (km_least : ClassId) (fm_least : Nat → Int32) (km_pin : ClassId) (fm_pin : Nat → Int32) (km_ways : ClassId) (fm_ways : Nat → Int32) (km_verdict : ClassId) (fm_verdict : Nat → Int32) (km_row : ClassId) (fm_row : Nat → Int32) (km_struck : ClassId) (fm_struck : Nat → Int32) (km_reportKnown : ClassId) (fm_reportKnown : Nat → Int32) (km_reportPlace : ClassId) (fm_reportPlace : Nat → Int32) (km_reportMonth : ClassId) (fm_reportMonth : Nat → Int32) (km_reportDay : ClassId) (fm_reportDay : Nat → Int32) (km_reportKind : ClassId) (fm_reportKind : Nat → Int32) (km_trust : ClassId) (fm_trust : Nat → Int32) (km_letter : ClassId) (fm_letter : Nat → Int32) (p1 : Int32) (p2 : Int32) (gmi_0 : gi (mi 0) 0 24) (gmi_1 : gi (mi 1) 0 5) (gmi_2 : gi (mi 2) 0 5) (gmi_4 : gi (mi 4) 0 1) (gmi_7 : gi (mi 7) 0 6) (gmi_10 : gi (mi 10) 0 24) (gmi_17 : gi (mi 17) 0 8) (gmi_23 : gi (mi 23) 0 300) (gmi_24 : gi (mi 24) 0 1) (gmi_26 : gi (mi 26) 0 1600) (gmi_29 : gi (mi 29) 0 1600) (gmi_30 : gi (mi 30) 0 1600) (gmi_33 : gi (mi 33) 0 1) (gmi_37 : gi (mi 37) 0 1) (gmi_41 : gi (mi 41) 0 24) (gmi_50 : gi (mi 50) 0 1) (gmi_51 : gi (mi 51) 0 1) (gmi_56 : gi (mi 56) 0 80) (gfm_row : ga fm_row 24 0 23) (gfm_struck : ga fm_struck 24 0 1) (gfm_reportKnown : ga fm_reportKnown 24 0 999) (gfm_reportPlace : ga fm_reportPlace 24 0 5) (gfm_reportMonth : ga fm_reportMonth 24 0 23) (gfm_reportDay : ga fm_reportDay 24 0 999) (hx : p.tables.exec = Jvm.exec) (hb : c.code = cX12_against) (hml : c.maxLocals = 5) (hown : s.vm.findClass RX12 = some m.cls) (hts : ∀ w ∈ ((.code yX12_against cX12_against 5 (some .int) :: wsGB) : List Cond), w.before args s = true) (hK : va_K (dC, dI) vwCl [(km_must, .int), (km_least, .int), (km_pin, .int), (km_ways, .int), (km_verdict, .int), (km_row, .int), (km_struck, .boolean), (km_reportKnown, .int), (km_reportPlace, .int), (km_reportMonth, .int), (km_reportDay, .int), (km_reportKind, .int), (km_trust, .int), (km_letter, .int)] s) (hA : ∀ q : Nat, s.heap.size ≤ q → A q) (hRf : 5 ≤ R.frames) (hRl : 119 ≤ R.locals) (hRc : cells ≤ R.cells) (hRs : slots ≤ R.slots) (kr18 : ∀ (v : Int32) (w0_37 : Int32) (w0_41 : Int32) (z1 : Nat → Int32) (z2 : Nat → Int32) (z3 : Nat → Int32) (z4 : Nat → Int32) (z5 : Nat → Int32) (z6 : Nat → Int32) (H : Heap) (locs : List Loc) (ls : Array Slot), gi v (-2) (-2) → gi w0_37 0 1 → gi w0_41 0 24 → ga z6 24 0 23 → va_P (dC, dI) vwCl [(h0, .inr (12, fsMM (upd (upd mi 37 w0_37) 41 w0_41) mr)), ((mr 14), .inl (km_must, 25, .inl z1)), ((mr 15), .inl (km_least, 25, .inl z2)), ((mr 16), .inl (km_pin, 25, .inl z3)), ((mr 17), .inl (km_ways, 6875, .inl z4)), ((mr 18), .inl (km_verdict, 24, .inl z5)), ((mr 19), .inl (km_row, 24, .inl z6)), ((mr 4), .inl (km_struck, 24, .inl fm_struck)), ((mr 7), .inl (km_reportKnown, 24, .inl fm_reportKnown)), ((mr 2), .inl (km_reportPlace, 24, .inl fm_reportPlace)), ((mr 5), .inl (km_reportMonth, 24, .inl fm_reportMonth)), ((mr 6), .inl (km_reportDay, 24, .inl fm_reportDay)), ((mr 3), .inl (km_reportKind, 24, .inl fm_reportKind)), ((mr 0), .inl (km_trust, 6, .inl fm_trust)), ((mr 1), .inl (km_letter, 36, .inl fm_letter))] H → va_D A [(h0, .inr (12, fsMM (upd (upd mi 37 w0_37) 41 w0_41) mr)), ((mr 14), .inl (km_must, 25, .inl z1)), ((mr 15), .inl (km_least, 25, .inl z2)), ((mr 16), .inl (km_pin, 25, .inl z3)), ((mr 17), .inl (km_ways, 6875, .inl z4)), ((mr 18), .inl (km_verdict, 24, .inl z5)), ((mr 19), .inl (km_row, 24, .inl z6)), ((mr 4), .inl (km_struck, 24, .inl fm_struck)), ((mr 7), .inl (km_reportKnown, 24, .inl fm_reportKnown)), ((mr 2), .inl (km_reportPlace, 24, .inl fm_reportPlace)), ((mr 5), .inl (km_reportMonth, 24, .inl fm_reportMonth)), ((mr 6), .inl (km_reportDay, 24, .inl fm_reportDay)), ((mr 3), .inl (km_reportKind, 24, .inl fm_reportKind)), ((mr 0), .inl (km_trust, 6, .inl fm_trust)), ((mr 1), .inl (km_letter, 36, .inl fm_letter))] → va_S A s.heap H locs → lv_has ls 5 [] → W p l e R s m args below meth c H locs cells slots Q (F0 m 18 ls [.int v])) (kr35 : ∀ (v : Int32) (w0_37 : Int32) (w0_41 : Int32) (z1 : Nat → Int32) (z2 : Nat → Int32) (z3 : Nat → Int32) (z4 : Nat → Int32) (z5 : Nat → Int32) (z6 : Nat → Int32) (H : Heap) (locs : List Loc) (ls : Array Slot), gi v 0 0 → gi w0_37 0 1 → gi w0_41 0 24 → ga z6 24 0 23 → va_P (dC, dI) vwCl [(h0, .inr (12, fsMM (upd (upd mi 37 w0_37) 41 w0_41) mr)), ((mr 14), .inl (km_must, 25, .inl z1)), ((mr 15), .inl (km_least, 25, .inl z2)), ((mr 16), .inl (km_pin, 25, .inl z3)), ((mr 17), .inl (km_ways, 6875, .inl z4)), ((mr 18), .inl (km_verdict, 24, .inl z5)), ((mr 19), .inl (km_row, 24, .inl z6)), ((mr 4), .inl (km_struck, 24, .inl fm_struck)), ((mr 7), .inl (km_reportKnown, 24, .inl fm_reportKnown)), ((mr 2), .inl (km_reportPlace, 24, .inl fm_reportPlace)), ((mr 5), .inl (km_reportMonth, 24, .inl fm_reportMonth)), ((mr 6), .inl (km_reportDay, 24, .inl fm_reportDay)), ((mr 3), .inl (km_reportKind, 24, .inl fm_reportKind)), ((mr 0), .inl (km_trust, 6, .inl fm_trust)), ((mr 1), .inl (km_letter, 36, .inl fm_letter))] H → va_D A [(h0, .inr (12, fsMM (upd (upd mi 37 w0_37) 41 w0_41) mr)), ((mr 14), .inl (km_must, 25, .inl z1)), ((mr 15), .inl (km_least, 25, .inl z2)), ((mr 16), .inl (km_pin, 25, .inl z3)), ((mr 17), .inl (km_ways, 6875, .inl z4)), ((mr 18), .inl (km_verdict, 24, .inl z5)), ((mr 19), .inl (km_row, 24, .inl z6)), ((mr 4), .inl (km_struck, 24, .inl fm_struck)), ((mr 7), .inl (km_reportKnown, 24, .inl fm_reportKnown)), ((mr 2), .inl (km_reportPlace, 24, .inl fm_reportPlace)), ((mr 5), .inl (km_reportMonth, 24, .inl fm_reportMonth)), ((mr 6), .inl (km_reportDay, 24, .inl fm_reportDay)), ((mr 3), .inl (km_reportKind, 24, .inl fm_reportKind)), ((mr 0), .inl (km_trust, 6, .inl fm_trust)), ((mr 1), .inl (km_letter, 36, .inl fm_letter))] → va_S A s.heap H locs → lv_has ls 5 [] → W p l e R s m args below meth c H locs cells slots Q (F0 m 35 ls [.int v])) (kr88 : ∀ (v : Int32) (w0_37 : Int32) (w0_41 : Int32) (z1 : Nat → Int32) (z2 : Nat → Int32) (z3 : Nat → Int32) (z4 : Nat → Int32) (z5 : Nat → Int32) (z6 : Nat → Int32) (H : Heap) (locs : List Loc) (ls : Array Slot), gi w0_37 0 1 → gi w0_41 0 24 → ga z6 24 0 23 → va_P (dC, dI) vwCl [(h0, .inr (12, fsMM (upd (upd mi 37 w0_37) 41 w0_41) mr)), ((mr 14), .inl (km_must, 25, .inl z1)), ((mr 15), .inl (km_least, 25, .inl z2)), ((mr 16), .inl (km_pin, 25, .inl z3)), ((mr 17), .inl (km_ways, 6875, .inl z4)), ((mr 18), .inl (km_verdict, 24, .inl z5)), ((mr 19), .inl (km_row, 24, .inl z6)), ((mr 4), .inl (km_struck, 24, .inl fm_struck)), ((mr 7), .inl (km_reportKnown, 24, .inl fm_reportKnown)), ((mr 2), .inl (km_reportPlace, 24, .inl fm_reportPlace)), ((mr 5), .inl (km_reportMonth, 24, .inl fm_reportMonth)), ((mr 6), .inl (km_reportDay, 24, .inl fm_reportDay)), ((mr 3), .inl (km_reportKind, 24, .inl fm_reportKind)), ((mr 0), .inl (km_trust, 6, .inl fm_trust)), ((mr 1), .inl (km_letter, 36, .inl fm_letter))] H → va_D A [(h0, .inr (12, fsMM (upd (upd mi 37 w0_37) 41 w0_41) mr)), ((mr 14), .inl (km_must, 25, .inl z1)), ((mr 15), .inl (km_least, 25, .inl z2)), ((mr 16), .inl (km_pin, 25, .inl z3)), ((mr 17), .inl (km_ways, 6875, .inl z4)), ((mr 18), .inl (km_verdict, 24, .inl z5)), ((mr 19), .inl (km_row, 24, .inl z6)), ((mr 4), .inl (km_struck, 24, .inl fm_struck)), ((mr 7), .inl (km_reportKnown, 24, .inl fm_reportKnown)), ((mr 2), .inl (km_reportPlace, 24, .inl fm_reportPlace)), ((mr 5), .inl (km_reportMonth, 24, .inl fm_reportMonth)), ((mr 6), .inl (km_reportDay, 24, .inl fm_reportDay)), ((mr 3), .inl (km_reportKind, 24, .inl fm_reportKind)), ((mr 0), .inl (km_trust, 6, .inl fm_trust)), ((mr 1), .inl (km_letter, 36, .inl fm_letter))] → va_S A s.heap H locs → lv_has ls 5 [] → W p l e R s m args below meth c H locs cells slots Q (F0 m 88 ls [.int v])) : ∀ z : Nat, (∀ (v3 : Int32) (v4 : Int32) (w0_37 : Int32) (w0_41 : Int32) (z1 : Nat → Int32) (z2 : Nat → Int32) (z3 : Nat → Int32) (z4 : Nat → Int32) (z5 : Nat → Int32) (z6 : Nat → Int32) (H : Heap) (locs : List Loc) (ls : Array Slot), gi p1 0 999 → gi p2 0 23 → gi v4 0 24 → gi w0_37 0 1 → gi w0_41 0 24 → ga z6 24 0 23 → 49 + (-2) * v4.toInt < (z : Int) → va_P (dC, dI) vwCl [(h0, .inr (12, fsMM (upd (upd mi 37 w0_37) 41 w0_41) mr)), ((mr 14), .inl (km_must, 25, .inl z1)), ((mr 15), .inl (km_least, 25, .inl z2)), ((mr 16), .inl (km_pin, 25, .inl z3)), ((mr 17), .inl (km_ways, 6875, .inl z4)), ((mr 18), .inl (km_verdict, 24, .inl z5)), ((mr 19), .inl (km_row, 24, .inl z6)), ((mr 4), .inl (km_struck, 24, .inl fm_struck)), ((mr 7), .inl (km_reportKnown, 24, .inl fm_reportKnown)), ((mr 2), .inl (km_reportPlace, 24, .inl fm_reportPlace)), ((mr 5), .inl (km_reportMonth, 24, .inl fm_reportMonth)), ((mr 6), .inl (km_reportDay, 24, .inl fm_reportDay)), ((mr 3), .inl (km_reportKind, 24, .inl fm_reportKind)), ((mr 0), .inl (km_trust, 6, .inl fm_trust)), ((mr 1), .inl (km_letter, 36, .inl fm_letter))] H → va_D A [(h0, .inr (12, fsMM (upd (upd mi 37 w0_37) 41 w0_41) mr)), ((mr 14), .inl (km_must, 25, .inl z1)), ((mr 15), .inl (km_least, 25, .inl z2)), ((mr 16), .inl (km_pin, 25, .inl z3)), ((mr 17), .inl (km_ways, 6875, .inl z4)), ((mr 18), .inl (km_verdict, 24, .inl z5)), ((mr 19), .inl (km_row, 24, .inl z6)), ((mr 4), .inl (km_struck, 24, .inl fm_struck)), ((mr 7), .inl (km_reportKnown, 24, .inl fm_reportKnown)), ((mr 2), .inl (km_reportPlace, 24, .inl fm_reportPlace)), ((mr 5), .inl (km_reportMonth, 24, .inl fm_reportMonth)), ((mr 6), .inl (km_reportDay, 24, .inl fm_reportDay)), ((mr 3), .inl (km_reportKind, 24, .inl fm_reportKind)), ((mr 0), .inl (km_trust, 6, .inl fm_trust)), ((mr 1), .inl (km_letter, 36, .inl fm_letter))] → va_S A s.heap H locs → lv_has ls 5 [(0, .ref h0), (1, .int p1), (2, .int p2), (3, .int v3), (4, .int v4)] → W p l e R s m args below meth c H locs cells slots Q (F0 m 41 ls [])) := by
  intro z
  induction z with
  | zero =>
    intro v3 v4 w0_37 w0_41 z1 z2 z3 z4 z5 z6 H locs ls gf_p1 gf_p2 gv4 gw0_37 gw0_41 gz6 hmu hP hD hS hl
    exact absurd hmu (by have hv41 := gv4.1; have hv42 := gv4.2; omega)
  | succ z ih =>
      intro v3 v4 w0_37 w0_41 z1 z2 z3 z4 z5 z6 H locs ls gf_p1 gf_p2 gv4 gw0_37 gw0_41 gz6 hmu hP hD hS hl
      refine lv_iload hx hb dX12_against_41 (lv_at hl 4 rfl) ?_
      refine lv_aload_n hx hb dX12_against_43 rfl (lv_at hl 0 rfl) ?_
      refine va_get (D := (dC, dI)) (ci := 12) (v := .int (mi 10)) (C := RX12) (T := TX12) (N := 57) hx hb hts (fun w h => List.mem_cons_of_mem _ (jnGB_X12 w h)) hown hK hP 0 rfl rfl 10 (by decide) (hts _ (List.mem_cons_of_mem _ mGB_111)) (fun _ h9 => h9) rfl dX12_against_44 ?_
      refine lv_icmp_ge (tgt := 87) hx hb dX12_against_47 (by decide) (fun c_661 => ?_) (fun c_661 => ?_)
      · refine lv_iload_n hx hb dX12_against_87 rfl (lv_at hl 3 rfl) ?_
        exact kr88 v3 w0_37 w0_41 z1 z2 z3 z4 z5 z6 _ _ _ gw0_37 gw0_41 gz6 hP hD hS (lv_sub hl [] rfl)
      · have g_662 : gi v4 0 23 := gi_lt_l (Int32.not_le.mp c_661) gv4 gmi_10 (by decide)
        have g_663 : gi (mi 10) 1 24 := gi_lt_r (Int32.not_le.mp c_661) gv4 gmi_10 (by decide)
        refine lv_iload_n hx hb dX12_against_50 rfl (lv_at hl 3 rfl) ?_
        refine lv_aload_n hx hb dX12_against_51 rfl (lv_at hl 0 rfl) ?_
        refine va_get (D := (dC, dI)) (ci := 12) (v := .ref (mr 18)) (C := RX12) (T := TX12) (N := 57) hx hb hts (fun w h => List.mem_cons_of_mem _ (jnGB_X12 w h)) hown hK hP 0 rfl rfl 39 (by decide) (hts _ (List.mem_cons_of_mem _ mGB_30)) (fun _ h9 => h9) rfl dX12_against_52 ?_
        refine lv_iload hx hb dX12_against_55 (lv_at hl 4 rfl) ?_
        refine va_iald hx hb hK hP 5 4 rfl rfl (gi_in g_662 (by decide)) dX12_against_57 ?_
        refine lv_topi (fun x_664 ex_664 => ?_)
        refine lv_if_ne (tgt := 78) hx hb dX12_against_58 (by decide) (fun c_665 => ?_) (fun c_665 => ?_)
        · refine lv_iconst (v := 0) hx hb dX12_against_78 (by decide) ?_
          refine lv_ior hx hb dX12_against_79 ?_
          refine lv_topi (fun x_666 ex_666 => ?_)
          refine lv_istore_n (lv' := [(3, .int x_666), (0, .ref h0), (1, .int p1), (2, .int p2), (4, .int v4)]) hx hb dX12_against_80 rfl hl (by decide) rfl (fun ls hl => ?_)
          obtain ⟨x_667, ex_667⟩ : ∃ y : Int32, y = v4 + 1 := ⟨_, rfl⟩
          have gx_667 : gi x_667 1 24 := gi_add ex_667 g_662 (gi_c 1 1 (by decide)) (by decide)
          refine lv_iinc (v := x_667) (lv' := [(4, .int x_667), (3, .int x_666), (0, .ref h0), (1, .int p1), (2, .int p2)]) hx hb dX12_against_81 hl (k := 4) rfl (by rw [ex_667]; rfl) (by decide) rfl (fun ls hl => ?_)
          refine lv_goto (tgt := 41) hx hb dX12_against_84 (by decide) ?_
          exact ih x_666 x_667 w0_37 w0_41 z1 z2 z3 z4 z5 z6 _ _ _ gf_p1 gf_p2 (gi_w gx_667 (by decide)) gw0_37 gw0_41 gz6 (by have av4 := gv4.1; have bv4 := gv4.2; have qgx_667 := gx_667.1; have rgx_667 := gx_667.2; have igx_667 : x_667.toInt = v4.toInt + 1 := (by have hc1 : (1 : Int32).toInt = 1 := (by decide); have h9 := gi_addI ex_667 (by have h1 := g_662.1; have h2 := (gi_c 1 1 (by decide)).1; have h3 := g_662.2; have h4 := (gi_c 1 1 (by decide)).2; omega) (by have h1 := g_662.1; have h2 := (gi_c 1 1 (by decide)).1; have h3 := g_662.2; have h4 := (gi_c 1 1 (by decide)).2; omega); rw [hc1] at h9; exact h9); have qgv4 := g_662.1; have rgv4 := g_662.2; omega) hP hD hS (lv_sub hl [2, 3, 4, 1, 0] rfl)
        · have g_668 : gi x_664 0 0 := gi_eq c_665 (gi_c 0 0 (by decide))
          refine lv_aload_n hx hb dX12_against_61 rfl (lv_at hl 0 rfl) ?_
          refine lv_iload hx hb dX12_against_62 (lv_at hl 4 rfl) ?_
          refine lv_iload_n hx hb dX12_against_64 rfl (lv_at hl 2 rfl) ?_
          have hPc := hP.sub (ws' := [(h0, .inr (12, fsMM (upd (upd mi 37 w0_37) 41 w0_41) mr)), ((mr 14), .inl (km_must, 25, .inl z1)), ((mr 15), .inl (km_least, 25, .inl z2)), ((mr 16), .inl (km_pin, 25, .inl z3)), ((mr 17), .inl (km_ways, 6875, .inl z4)), ((mr 5), .inl (km_reportMonth, 24, .inl fm_reportMonth)), ((mr 6), .inl (km_reportDay, 24, .inl fm_reportDay)), ((mr 3), .inl (km_reportKind, 24, .inl fm_reportKind))]) [0, 1, 2, 3, 4, 10, 11, 12] rfl
          have hKc := hK.sub (tys' := [(km_must, .int), (km_least, .int), (km_pin, .int), (km_ways, .int), (km_reportMonth, .int), (km_reportDay, .int), (km_reportKind, .int)]) [0, 1, 2, 3, 9, 10, 11] rfl
          have hDc := hD.sub (ws' := [(h0, .inr (12, fsMM (upd (upd mi 37 w0_37) 41 w0_41) mr)), ((mr 14), .inl (km_must, 25, .inl z1)), ((mr 15), .inl (km_least, 25, .inl z2)), ((mr 16), .inl (km_pin, 25, .inl z3)), ((mr 17), .inl (km_ways, 6875, .inl z4)), ((mr 5), .inl (km_reportMonth, 24, .inl fm_reportMonth)), ((mr 6), .inl (km_reportDay, 24, .inl fm_reportDay)), ((mr 3), .inl (km_reportKind, 24, .inl fm_reportKind))]) [0, 1, 2, 3, 4, 10, 11, 12] (by decide) rfl
          have hFc := va_free (wc := [(h0, .inr (12, fsMM (upd (upd mi 37 w0_37) 41 w0_41) mr)), ((mr 14), .inl (km_must, 25, .inl z1)), ((mr 15), .inl (km_least, 25, .inl z2)), ((mr 16), .inl (km_pin, 25, .inl z3)), ((mr 17), .inl (km_ways, 6875, .inl z4)), ((mr 5), .inl (km_reportMonth, 24, .inl fm_reportMonth)), ((mr 6), .inl (km_reportDay, 24, .inl fm_reportDay)), ((mr 3), .inl (km_reportKind, 24, .inl fm_reportKind))]) hD hS hA [0, 1, 2, 3, 4, 10, 11, 12] rfl
          refine va_calli (va_runV (As := [.int v4, .int p2]) (rest := [.int v3]) ⟨hx, hb, hml, hown, hts⟩ (sX12_areBoth l dC dI H.size h0 (upd (upd mi 37 w0_37) 41 w0_41) mr km_must z1 km_least z2 km_pin z3 km_ways z4 km_reportMonth fm_reportMonth km_reportDay fm_reportDay km_reportKind fm_reportKind v4 p2 gmi_0 gmi_1 gmi_2 gmi_4 gmi_7 (gi_w g_663 (by decide)) gmi_17 gmi_23 gmi_24 gmi_26 gmi_29 gmi_30 gmi_33 gw0_37 gw0_41 gmi_50 gmi_51 gmi_56 gfm_reportMonth gfm_reportDay g_662 gf_p2) (cwV 2 hts (gz_gV mGB_338 mGB_339 mGB_340 mGB_1 mGB_341 goodGB) rfl rfl rfl (by decide +kernel) ⟨Nat.le_trans (Nat.le_of_ble_eq_true rfl) hRf, Nat.le_trans (Nat.le_of_ble_eq_true rfl) hRl⟩) ⟨fun a U g mk q => by obtain ⟨q0, q1, qP, qK, qD⟩ := q; exact ⟨q0, q1, qP, va_K.moved (u := U) (U := U.calling g mk a) (Vm.Alike.refl U.vm) qK, qD⟩, va_recv hKc hPc (ci := 12) (q0 := 0) rfl rfl, fun U hU hW => ⟨rfl, by rw [hU], by rw [hU]; exact hPc, va_K.moved hW.alike hKc, hDc.weaken (fun _ _ _ _ => trivial)⟩⟩ rfl rfl hl.1 rfl (lv_room (Nat.le_of_ble_eq_true rfl)) dX12_against_65 ⟨hRc, hRs⟩) hS (fun q _ h => hFc q h) hFc (fun r_669 u t H1 locs ht hvm hw hB hz1 hk1 hS => ?_)
          obtain ⟨y_670, f_671, f_672, f_673, f_674, gy_670, hP1, hD1⟩ := hB
          rw [ht] at hP1
          obtain ⟨hP, hD⟩ := va_join (wr := [((mr 18), .inl (km_verdict, 24, .inl z5)), ((mr 19), .inl (km_row, 24, .inl z6)), ((mr 4), .inl (km_struck, 24, .inl fm_struck)), ((mr 7), .inl (km_reportKnown, 24, .inl fm_reportKnown)), ((mr 2), .inl (km_reportPlace, 24, .inl fm_reportPlace)), ((mr 0), .inl (km_trust, 6, .inl fm_trust)), ((mr 1), .inl (km_letter, 36, .inl fm_letter))]) (w1 := [(h0, .inr (12, fsMM (upd (upd mi 37 y_670) 41 w0_41) mr)), ((mr 14), .inl (km_must, 25, .inl f_671)), ((mr 15), .inl (km_least, 25, .inl f_672)), ((mr 16), .inl (km_pin, 25, .inl f_673)), ((mr 17), .inl (km_ways, 6875, .inl f_674)), ((mr 5), .inl (km_reportMonth, 24, .inl fm_reportMonth)), ((mr 6), .inl (km_reportDay, 24, .inl fm_reportDay)), ((mr 3), .inl (km_reportKind, 24, .inl fm_reportKind))]) hP hD [0, 1, 2, 3, 4, 10, 11, 12] [5, 6, 7, 8, 9, 13, 14] rfl rfl (by decide) (by decide) hk1 hFc hP1 hD1
          have hP := hP.sub (ws' := [(h0, .inr (12, fsMM (upd (upd mi 37 y_670) 41 w0_41) mr)), ((mr 14), .inl (km_must, 25, .inl f_671)), ((mr 15), .inl (km_least, 25, .inl f_672)), ((mr 16), .inl (km_pin, 25, .inl f_673)), ((mr 17), .inl (km_ways, 6875, .inl f_674)), ((mr 18), .inl (km_verdict, 24, .inl z5)), ((mr 19), .inl (km_row, 24, .inl z6)), ((mr 4), .inl (km_struck, 24, .inl fm_struck)), ((mr 7), .inl (km_reportKnown, 24, .inl fm_reportKnown)), ((mr 2), .inl (km_reportPlace, 24, .inl fm_reportPlace)), ((mr 5), .inl (km_reportMonth, 24, .inl fm_reportMonth)), ((mr 6), .inl (km_reportDay, 24, .inl fm_reportDay)), ((mr 3), .inl (km_reportKind, 24, .inl fm_reportKind)), ((mr 0), .inl (km_trust, 6, .inl fm_trust)), ((mr 1), .inl (km_letter, 36, .inl fm_letter))]) [7, 8, 9, 10, 11, 0, 1, 2, 3, 4, 12, 13, 14, 5, 6] rfl
          have hD := hD.sub (ws' := [(h0, .inr (12, fsMM (upd (upd mi 37 y_670) 41 w0_41) mr)), ((mr 14), .inl (km_must, 25, .inl f_671)), ((mr 15), .inl (km_least, 25, .inl f_672)), ((mr 16), .inl (km_pin, 25, .inl f_673)), ((mr 17), .inl (km_ways, 6875, .inl f_674)), ((mr 18), .inl (km_verdict, 24, .inl z5)), ((mr 19), .inl (km_row, 24, .inl z6)), ((mr 4), .inl (km_struck, 24, .inl fm_struck)), ((mr 7), .inl (km_reportKnown, 24, .inl fm_reportKnown)), ((mr 2), .inl (km_reportPlace, 24, .inl fm_reportPlace)), ((mr 5), .inl (km_reportMonth, 24, .inl fm_reportMonth)), ((mr 6), .inl (km_reportDay, 24, .inl fm_reportDay)), ((mr 3), .inl (km_reportKind, 24, .inl fm_reportKind)), ((mr 0), .inl (km_trust, 6, .inl fm_trust)), ((mr 1), .inl (km_letter, 36, .inl fm_letter))]) [7, 8, 9, 10, 11, 0, 1, 2, 3, 4, 12, 13, 14, 5, 6] (by decide) rfl
          generalize H1 = H at hP hS ⊢
          have gr_669 : gi r_669 0 1 := hw
          refine lv_if_ne (tgt := 78) hx hb dX12_against_68 (by decide) (fun c_675 => ?_) (fun c_675 => ?_)
          · have g_676 : gi r_669 1 1 := gi_ne_lo c_675 gr_669 (gi_c 0 0 (by decide)) (by decide)
            refine lv_iconst (v := 0) hx hb dX12_against_78 (by decide) ?_
            refine lv_ior hx hb dX12_against_79 ?_
            refine lv_topi (fun x_677 ex_677 => ?_)
            refine lv_istore_n (lv' := [(3, .int x_677), (0, .ref h0), (1, .int p1), (2, .int p2), (4, .int v4)]) hx hb dX12_against_80 rfl hl (by decide) rfl (fun ls hl => ?_)
            obtain ⟨x_678, ex_678⟩ : ∃ y : Int32, y = v4 + 1 := ⟨_, rfl⟩
            have gx_678 : gi x_678 1 24 := gi_add ex_678 g_662 (gi_c 1 1 (by decide)) (by decide)
            refine lv_iinc (v := x_678) (lv' := [(4, .int x_678), (3, .int x_677), (0, .ref h0), (1, .int p1), (2, .int p2)]) hx hb dX12_against_81 hl (k := 4) rfl (by rw [ex_678]; rfl) (by decide) rfl (fun ls hl => ?_)
            refine lv_goto (tgt := 41) hx hb dX12_against_84 (by decide) ?_
            exact ih x_677 x_678 y_670 w0_41 f_671 f_672 f_673 f_674 z5 z6 _ _ _ gf_p1 gf_p2 (gi_w gx_678 (by decide)) gy_670 gw0_41 gz6 (by have av4 := gv4.1; have bv4 := gv4.2; have qgx_678 := gx_678.1; have rgx_678 := gx_678.2; have igx_678 : x_678.toInt = v4.toInt + 1 := (by have hc1 : (1 : Int32).toInt = 1 := (by decide); have h9 := gi_addI ex_678 (by have h1 := g_662.1; have h2 := (gi_c 1 1 (by decide)).1; have h3 := g_662.2; have h4 := (gi_c 1 1 (by decide)).2; omega) (by have h1 := g_662.1; have h2 := (gi_c 1 1 (by decide)).1; have h3 := g_662.2; have h4 := (gi_c 1 1 (by decide)).2; omega); rw [hc1] at h9; exact h9); have qgv4 := g_662.1; have rgv4 := g_662.2; omega) hP hD hS (lv_sub hl [2, 3, 4, 1, 0] rfl)
          · have g_679 : gi r_669 0 0 := gi_eq c_675 (gi_c 0 0 (by decide))
            refine lv_iconst (v := 1) hx hb dX12_against_71 (by decide) ?_
            refine lv_iload hx hb dX12_against_72 (lv_at hl 4 rfl) ?_
            refine lv_ishl hx hb dX12_against_74 ?_
            refine lv_topi (fun x_680 ex_680 => ?_)
            refine lv_goto (tgt := 79) hx hb dX12_against_75 (by decide) ?_
            refine lv_ior hx hb dX12_against_79 ?_
            refine lv_topi (fun x_681 ex_681 => ?_)
            refine lv_istore_n (lv' := [(3, .int x_681), (0, .ref h0), (1, .int p1), (2, .int p2), (4, .int v4)]) hx hb dX12_against_80 rfl hl (by decide) rfl (fun ls hl => ?_)
            obtain ⟨x_682, ex_682⟩ : ∃ y : Int32, y = v4 + 1 := ⟨_, rfl⟩
            have gx_682 : gi x_682 1 24 := gi_add ex_682 g_662 (gi_c 1 1 (by decide)) (by decide)
            refine lv_iinc (v := x_682) (lv' := [(4, .int x_682), (3, .int x_681), (0, .ref h0), (1, .int p1), (2, .int p2)]) hx hb dX12_against_81 hl (k := 4) rfl (by rw [ex_682]; rfl) (by decide) rfl (fun ls hl => ?_)
            refine lv_goto (tgt := 41) hx hb dX12_against_84 (by decide) ?_
            exact ih x_681 x_682 y_670 w0_41 f_671 f_672 f_673 f_674 z5 z6 _ _ _ gf_p1 gf_p2 (gi_w gx_682 (by decide)) gy_670 gw0_41 gz6 (by have av4 := gv4.1; have bv4 := gv4.2; have qgx_682 := gx_682.1; have rgx_682 := gx_682.2; have igx_682 : x_682.toInt = v4.toInt + 1 := (by have hc1 : (1 : Int32).toInt = 1 := (by decide); have h9 := gi_addI ex_682 (by have h1 := g_662.1; have h2 := (gi_c 1 1 (by decide)).1; have h3 := g_662.2; have h4 := (gi_c 1 1 (by decide)).2; omega) (by have h1 := g_662.1; have h2 := (gi_c 1 1 (by decide)).1; have h3 := g_662.2; have h4 := (gi_c 1 1 (by decide)).2; omega); rw [hc1] at h9; exact h9); have qgv4 := g_662.1; have rgv4 := g_662.2; omega) hP hD hS (lv_sub hl [2, 3, 4, 1, 0] rfl)
set_option maxHeartbeats 4000000 in
set_option maxRecDepth 100000 in
theorem sX12_against (l : Launch) (dC : Nat → ClassId) (dI : Nat → Nat → Nat) (sz : Nat) (h0 : Nat) (mi : Nat → Int32) (mr : Nat → Nat) (km_must : ClassId) (fm_must : Nat → Int32) (km_least : ClassId) (fm_least : Nat → Int32) (km_pin : ClassId) (fm_pin : Nat → Int32) (km_ways : ClassId) (fm_ways : Nat → Int32) (km_verdict : ClassId) (fm_verdict : Nat → Int32) (km_row : ClassId) (fm_row : Nat → Int32) (km_struck : ClassId) (fm_struck : Nat → Int32) (km_reportKnown : ClassId) (fm_reportKnown : Nat → Int32) (km_reportPlace : ClassId) (fm_reportPlace : Nat → Int32) (km_reportMonth : ClassId) (fm_reportMonth : Nat → Int32) (km_reportDay : ClassId) (fm_reportDay : Nat → Int32) (km_reportKind : ClassId) (fm_reportKind : Nat → Int32) (km_trust : ClassId) (fm_trust : Nat → Int32) (km_letter : ClassId) (fm_letter : Nat → Int32) (p1 : Int32) (p2 : Int32) (gmi_0 : gi (mi 0) 0 24) (gmi_1 : gi (mi 1) 0 5) (gmi_2 : gi (mi 2) 0 5) (gmi_4 : gi (mi 4) 0 1) (gmi_7 : gi (mi 7) 0 6) (gmi_10 : gi (mi 10) 0 24) (gmi_17 : gi (mi 17) 0 8) (gmi_23 : gi (mi 23) 0 300) (gmi_24 : gi (mi 24) 0 1) (gmi_26 : gi (mi 26) 0 1600) (gmi_29 : gi (mi 29) 0 1600) (gmi_30 : gi (mi 30) 0 1600) (gmi_33 : gi (mi 33) 0 1) (gmi_37 : gi (mi 37) 0 1) (gmi_41 : gi (mi 41) 0 24) (gmi_50 : gi (mi 50) 0 1) (gmi_51 : gi (mi 51) 0 1) (gmi_56 : gi (mi 56) 0 80) (gfm_row : ga fm_row 24 0 23) (gfm_struck : ga fm_struck 24 0 1) (gfm_reportKnown : ga fm_reportKnown 24 0 999) (gfm_reportPlace : ga fm_reportPlace 24 0 5) (gfm_reportMonth : ga fm_reportMonth 24 0 23) (gfm_reportDay : ga fm_reportDay 24 0 999) : Met l yX12_against (.code yX12_against cX12_against 5 (some .int) :: wsGB) ({ frames := 5, cells := 0, slots := 0, locals := 119 }) (va_Pc [.ref h0, .int p1, .int p2] (fun U => U.heap.size = sz ∧ va_P (dC, dI) vwCl [(h0, .inr (12, fsMM mi mr)), ((mr 14), .inl (km_must, 25, .inl fm_must)), ((mr 15), .inl (km_least, 25, .inl fm_least)), ((mr 16), .inl (km_pin, 25, .inl fm_pin)), ((mr 17), .inl (km_ways, 6875, .inl fm_ways)), ((mr 18), .inl (km_verdict, 24, .inl fm_verdict)), ((mr 19), .inl (km_row, 24, .inl fm_row)), ((mr 4), .inl (km_struck, 24, .inl fm_struck)), ((mr 7), .inl (km_reportKnown, 24, .inl fm_reportKnown)), ((mr 2), .inl (km_reportPlace, 24, .inl fm_reportPlace)), ((mr 5), .inl (km_reportMonth, 24, .inl fm_reportMonth)), ((mr 6), .inl (km_reportDay, 24, .inl fm_reportDay)), ((mr 3), .inl (km_reportKind, 24, .inl fm_reportKind)), ((mr 0), .inl (km_trust, 6, .inl fm_trust)), ((mr 1), .inl (km_letter, 36, .inl fm_letter))] U.heap ∧ va_K (dC, dI) vwCl [(km_must, .int), (km_least, .int), (km_pin, .int), (km_ways, .int), (km_verdict, .int), (km_row, .int), (km_struck, .boolean), (km_reportKnown, .int), (km_reportPlace, .int), (km_reportMonth, .int), (km_reportDay, .int), (km_reportKind, .int), (km_trust, .int), (km_letter, .int)] U ∧ va_D (fun _ => True) [(h0, .inr (12, fsMM mi mr)), ((mr 14), .inl (km_must, 25, .inl fm_must)), ((mr 15), .inl (km_least, 25, .inl fm_least)), ((mr 16), .inl (km_pin, 25, .inl fm_pin)), ((mr 17), .inl (km_ways, 6875, .inl fm_ways)), ((mr 18), .inl (km_verdict, 24, .inl fm_verdict)), ((mr 19), .inl (km_row, 24, .inl fm_row)), ((mr 4), .inl (km_struck, 24, .inl fm_struck)), ((mr 7), .inl (km_reportKnown, 24, .inl fm_reportKnown)), ((mr 2), .inl (km_reportPlace, 24, .inl fm_reportPlace)), ((mr 5), .inl (km_reportMonth, 24, .inl fm_reportMonth)), ((mr 6), .inl (km_reportDay, 24, .inl fm_reportDay)), ((mr 3), .inl (km_reportKind, 24, .inl fm_reportKind)), ((mr 0), .inl (km_trust, 6, .inl fm_trust)), ((mr 1), .inl (km_letter, 36, .inl fm_letter))])) (va_Qi (fun (r : Int32) (u : Unit) => gi r (-2147483648) 2147483647) (fun _ t => ∃ (w0_37 : Int32) (w0_41 : Int32) (z1 : Nat → Int32) (z2 : Nat → Int32) (z3 : Nat → Int32) (z4 : Nat → Int32) (z5 : Nat → Int32) (z6 : Nat → Int32), gi w0_37 0 1 ∧ gi w0_41 0 24 ∧ ga z6 24 0 23 ∧ va_P (dC, dI) vwCl [(h0, .inr (12, fsMM (upd (upd mi 37 w0_37) 41 w0_41) mr)), ((mr 14), .inl (km_must, 25, .inl z1)), ((mr 15), .inl (km_least, 25, .inl z2)), ((mr 16), .inl (km_pin, 25, .inl z3)), ((mr 17), .inl (km_ways, 6875, .inl z4)), ((mr 18), .inl (km_verdict, 24, .inl z5)), ((mr 19), .inl (km_row, 24, .inl z6)), ((mr 4), .inl (km_struck, 24, .inl fm_struck)), ((mr 7), .inl (km_reportKnown, 24, .inl fm_reportKnown)), ((mr 2), .inl (km_reportPlace, 24, .inl fm_reportPlace)), ((mr 5), .inl (km_reportMonth, 24, .inl fm_reportMonth)), ((mr 6), .inl (km_reportDay, 24, .inl fm_reportDay)), ((mr 3), .inl (km_reportKind, 24, .inl fm_reportKind)), ((mr 0), .inl (km_trust, 6, .inl fm_trust)), ((mr 1), .inl (km_letter, 36, .inl fm_letter))] t.heap ∧ va_D (va_A [(h0, .inr (12, fsMM mi mr)), ((mr 14), .inl (km_must, 25, .inl fm_must)), ((mr 15), .inl (km_least, 25, .inl fm_least)), ((mr 16), .inl (km_pin, 25, .inl fm_pin)), ((mr 17), .inl (km_ways, 6875, .inl fm_ways)), ((mr 18), .inl (km_verdict, 24, .inl fm_verdict)), ((mr 19), .inl (km_row, 24, .inl fm_row)), ((mr 4), .inl (km_struck, 24, .inl fm_struck)), ((mr 7), .inl (km_reportKnown, 24, .inl fm_reportKnown)), ((mr 2), .inl (km_reportPlace, 24, .inl fm_reportPlace)), ((mr 5), .inl (km_reportMonth, 24, .inl fm_reportMonth)), ((mr 6), .inl (km_reportDay, 24, .inl fm_reportDay)), ((mr 3), .inl (km_reportKind, 24, .inl fm_reportKind)), ((mr 0), .inl (km_trust, 6, .inl fm_trust)), ((mr 1), .inl (km_letter, 36, .inl fm_letter))] sz) [(h0, .inr (12, fsMM (upd (upd mi 37 w0_37) 41 w0_41) mr)), ((mr 14), .inl (km_must, 25, .inl z1)), ((mr 15), .inl (km_least, 25, .inl z2)), ((mr 16), .inl (km_pin, 25, .inl z3)), ((mr 17), .inl (km_ways, 6875, .inl z4)), ((mr 18), .inl (km_verdict, 24, .inl z5)), ((mr 19), .inl (km_row, 24, .inl z6)), ((mr 4), .inl (km_struck, 24, .inl fm_struck)), ((mr 7), .inl (km_reportKnown, 24, .inl fm_reportKnown)), ((mr 2), .inl (km_reportPlace, 24, .inl fm_reportPlace)), ((mr 5), .inl (km_reportMonth, 24, .inl fm_reportMonth)), ((mr 6), .inl (km_reportDay, 24, .inl fm_reportDay)), ((mr 3), .inl (km_reportKind, 24, .inl fm_reportKind)), ((mr 0), .inl (km_trust, 6, .inl fm_trust)), ((mr 1), .inl (km_letter, 36, .inl fm_letter))]) (va_A [(h0, .inr (12, fsMM mi mr)), ((mr 14), .inl (km_must, 25, .inl fm_must)), ((mr 15), .inl (km_least, 25, .inl fm_least)), ((mr 16), .inl (km_pin, 25, .inl fm_pin)), ((mr 17), .inl (km_ways, 6875, .inl fm_ways)), ((mr 18), .inl (km_verdict, 24, .inl fm_verdict)), ((mr 19), .inl (km_row, 24, .inl fm_row)), ((mr 4), .inl (km_struck, 24, .inl fm_struck)), ((mr 7), .inl (km_reportKnown, 24, .inl fm_reportKnown)), ((mr 2), .inl (km_reportPlace, 24, .inl fm_reportPlace)), ((mr 5), .inl (km_reportMonth, 24, .inl fm_reportMonth)), ((mr 6), .inl (km_reportDay, 24, .inl fm_reportDay)), ((mr 3), .inl (km_reportKind, 24, .inl fm_reportKind)), ((mr 0), .inl (km_trust, 6, .inl fm_trust)), ((mr 1), .inl (km_letter, 36, .inl fm_letter))] sz)) 0 0 (va_A [(h0, .inr (12, fsMM mi mr)), ((mr 14), .inl (km_must, 25, .inl fm_must)), ((mr 15), .inl (km_least, 25, .inl fm_least)), ((mr 16), .inl (km_pin, 25, .inl fm_pin)), ((mr 17), .inl (km_ways, 6875, .inl fm_ways)), ((mr 18), .inl (km_verdict, 24, .inl fm_verdict)), ((mr 19), .inl (km_row, 24, .inl fm_row)), ((mr 4), .inl (km_struck, 24, .inl fm_struck)), ((mr 7), .inl (km_reportKnown, 24, .inl fm_reportKnown)), ((mr 2), .inl (km_reportPlace, 24, .inl fm_reportPlace)), ((mr 5), .inl (km_reportMonth, 24, .inl fm_reportMonth)), ((mr 6), .inl (km_reportDay, 24, .inl fm_reportDay)), ((mr 3), .inl (km_reportKind, 24, .inl fm_reportKind)), ((mr 0), .inl (km_trust, 6, .inl fm_trust)), ((mr 1), .inl (km_letter, 36, .inl fm_letter))] sz) := by
  refine Met.ofW (cc := cX12_against) (maxL := 5) (ret := (some .int)) (by decide) rfl ?_
  intro p e s m args below meth c s₁ B hml hv
  obtain ⟨rfl, hsz, hP, hK, hD0⟩ := hv
  have hx := B.exec
  have hb := B.bytes
  have hr := B.returns
  have hts := atoms_spec (ws := (.code yX12_against cX12_against 5 (some .int) :: wsGB)) B.pre
  have hown : s.vm.findClass RX12 = some m.cls := findClass_of_methodNamed B.named
  have hlocks := B.notSynchronized
  subst hsz
  have hD := hD0.self (sz := s.heap.size)
  generalize hAe : va_A [(h0, .inr (12, fsMM mi mr)), ((mr 14), .inl (km_must, 25, .inl fm_must)), ((mr 15), .inl (km_least, 25, .inl fm_least)), ((mr 16), .inl (km_pin, 25, .inl fm_pin)), ((mr 17), .inl (km_ways, 6875, .inl fm_ways)), ((mr 18), .inl (km_verdict, 24, .inl fm_verdict)), ((mr 19), .inl (km_row, 24, .inl fm_row)), ((mr 4), .inl (km_struck, 24, .inl fm_struck)), ((mr 7), .inl (km_reportKnown, 24, .inl fm_reportKnown)), ((mr 2), .inl (km_reportPlace, 24, .inl fm_reportPlace)), ((mr 5), .inl (km_reportMonth, 24, .inl fm_reportMonth)), ((mr 6), .inl (km_reportDay, 24, .inl fm_reportDay)), ((mr 3), .inl (km_reportKind, 24, .inl fm_reportKind)), ((mr 0), .inl (km_trust, 6, .inl fm_trust)), ((mr 1), .inl (km_letter, 36, .inl fm_letter))] s.heap.size = A at hD ⊢
  have hA : ∀ q : Nat, s.heap.size ≤ q → A q := fun q h => by rw [← hAe]; exact Or.inr h
  have hS : va_S A s.heap s.heap [] := va_S.rf
  have hl := lv_entry ([.ref h0, .int p1, .int p2]) (n := 5) (Nat.le_of_ble_eq_true rfl)
  rw [lg_entry_eq]
  generalize (lg_sl ([.ref h0, .int p1, .int p2]) ++ List.replicate (5 - (lg_sl ([.ref h0, .int p1, .int p2])).length) Slot.unset).toArray = ls at hl ⊢
  have hl : lv_has ls 5 [(0, .ref h0), (1, .int p1), (2, .int p2)] := hl
  refine lv_aload_n hx hb dX12_against_0 rfl (lv_at hl 0 rfl) ?_
  refine lv_iload_n hx hb dX12_against_1 rfl (lv_at hl 1 rfl) ?_
  have hPc := hP.sub (ws' := [(h0, .inr (12, fsMM mi mr))]) [0] rfl
  have hKc := hK.sub (tys' := []) [] rfl
  refine va_calli (va_runV (As := [.int p1]) (rest := []) ⟨hx, hb, hml, hown, hts⟩ (sX12_isTime l dC dI h0 mi mr p1 gmi_0 gmi_1 gmi_2 gmi_4 gmi_7 gmi_10 gmi_17 gmi_23 gmi_24 gmi_26 gmi_29 gmi_30 gmi_33 gmi_37 gmi_41 gmi_50 gmi_51 gmi_56) (cwV 1 hts (gz_gV mGB_256 mGB_257 mGB_258 mGB_1 mGB_259 goodGB) rfl rfl rfl (by decide +kernel) ⟨Nat.le_of_ble_eq_true rfl, Nat.le_of_ble_eq_true rfl⟩) ⟨fun a U g mk q => by obtain ⟨q0, qP, qK⟩ := q; exact ⟨q0, qP, va_K.moved (u := U) (U := U.calling g mk a) (Vm.Alike.refl U.vm) qK⟩, va_recv hKc hPc (ci := 12) (q0 := 0) rfl rfl, fun U hU hW => ⟨rfl, by rw [hU]; exact hPc, va_K.moved hW.alike hKc⟩⟩ rfl rfl hl.1 rfl (lv_room (Nat.le_of_ble_eq_true rfl)) dX12_against_2 ⟨Nat.zero_le _, Nat.zero_le _⟩) hS (fun q _ h => h.elim) (fun q h => h.elim) (fun r_683 u t H1 locs ht hvm hw hB hz1 hk1 hS => ?_)
  have hP := gz_keep hP hk1
  generalize H1 = H at hP hS ⊢
  have gr_683 : gi r_683 0 1 := hw.1
  have hqr_683 := hw.2
  refine lv_if_eq (tgt := 16) hx hb dX12_against_5 (by decide) (fun c_684 => ?_) (fun c_684 => ?_)
  · have g_685 : gi r_683 0 0 := gi_eq c_684 (gi_c 0 0 (by decide))
    refine lv_bipush (v := (-2)) hx hb dX12_against_16 (by decide) ?_
    exact W.iret (v := (-2)) hx hb hr (fun t ht hW => ⟨⟨(-2), (), rfl, (gi_any (-2)), (mi 37), (mi 41), fm_must, fm_least, fm_pin, fm_ways, fm_verdict, fm_row, gmi_37, gmi_41, gfm_row, by rw [ht]; exact hP, hD⟩, hS.F ht⟩) hS.2.2 dX12_against_18
  · have g_686 : gi r_683 1 1 := gi_ne_lo c_684 gr_683 (gi_c 0 0 (by decide)) (by decide)
    have g_687 : gi p1 0 999 := gi_cap (gi_any p1) (hqr_683 (gz_one g_686)) (by decide)
    refine lv_aload_n hx hb dX12_against_8 rfl (lv_at hl 0 rfl) ?_
    refine lv_iload_n hx hb dX12_against_9 rfl (lv_at hl 2 rfl) ?_
    have hPc := hP.sub (ws' := [(h0, .inr (12, fsMM mi mr))]) [0] rfl
    have hKc := hK.sub (tys' := []) [] rfl
    refine va_calli (va_runV (As := [.int p2]) (rest := []) ⟨hx, hb, hml, hown, hts⟩ (sX12_isReport l dC dI h0 mi mr p2 gmi_0 gmi_1 gmi_2 gmi_4 gmi_7 gmi_10 gmi_17 gmi_23 gmi_24 gmi_26 gmi_29 gmi_30 gmi_33 gmi_37 gmi_41 gmi_50 gmi_51 gmi_56) (cwV 1 hts (gz_gV mGB_235 mGB_236 mGB_237 mGB_1 mGB_238 goodGB) rfl rfl rfl (by decide +kernel) ⟨Nat.le_of_ble_eq_true rfl, Nat.le_of_ble_eq_true rfl⟩) ⟨fun a U g mk q => by obtain ⟨q0, qP, qK⟩ := q; exact ⟨q0, qP, va_K.moved (u := U) (U := U.calling g mk a) (Vm.Alike.refl U.vm) qK⟩, va_recv hKc hPc (ci := 12) (q0 := 0) rfl rfl, fun U hU hW => ⟨rfl, by rw [hU]; exact hPc, va_K.moved hW.alike hKc⟩⟩ rfl rfl hl.1 rfl (lv_room (Nat.le_of_ble_eq_true rfl)) dX12_against_10 ⟨Nat.zero_le _, Nat.zero_le _⟩) hS (fun q _ h => h.elim) (fun q h => h.elim) (fun r_688 u t H1 locs ht hvm hw hB hz1 hk1 hS => ?_)
    have hP := gz_keep hP hk1
    generalize H1 = H at hP hS ⊢
    have gr_688 : gi r_688 0 1 := hw.1
    have hqr_688 := hw.2
    refine lv_if_ne (tgt := 19) hx hb dX12_against_13 (by decide) (fun c_689 => ?_) (fun c_689 => ?_)
    · have g_690 : gi r_688 1 1 := gi_ne_lo c_689 gr_688 (gi_c 0 0 (by decide)) (by decide)
      have g_691 : gi p2 0 23 := gi_cap (gi_any p2) (hqr_688 (gz_one g_690)) (by decide)
      refine lv_aload_n hx hb dX12_against_19 rfl (lv_at hl 0 rfl) ?_
      refine lv_iload_n hx hb dX12_against_20 rfl (lv_at hl 1 rfl) ?_
      have hPc := hP.sub (ws' := [(h0, .inr (12, fsMM mi mr)), ((mr 14), .inl (km_must, 25, .inl fm_must)), ((mr 15), .inl (km_least, 25, .inl fm_least)), ((mr 16), .inl (km_pin, 25, .inl fm_pin)), ((mr 17), .inl (km_ways, 6875, .inl fm_ways)), ((mr 18), .inl (km_verdict, 24, .inl fm_verdict)), ((mr 19), .inl (km_row, 24, .inl fm_row)), ((mr 4), .inl (km_struck, 24, .inl fm_struck)), ((mr 7), .inl (km_reportKnown, 24, .inl fm_reportKnown)), ((mr 2), .inl (km_reportPlace, 24, .inl fm_reportPlace)), ((mr 5), .inl (km_reportMonth, 24, .inl fm_reportMonth)), ((mr 6), .inl (km_reportDay, 24, .inl fm_reportDay)), ((mr 3), .inl (km_reportKind, 24, .inl fm_reportKind)), ((mr 0), .inl (km_trust, 6, .inl fm_trust)), ((mr 1), .inl (km_letter, 36, .inl fm_letter))]) [0, 1, 2, 3, 4, 5, 6, 7, 8, 9, 10, 11, 12, 13, 14] rfl
      have hKc := hK.sub (tys' := [(km_must, .int), (km_least, .int), (km_pin, .int), (km_ways, .int), (km_verdict, .int), (km_row, .int), (km_struck, .boolean), (km_reportKnown, .int), (km_reportPlace, .int), (km_reportMonth, .int), (km_reportDay, .int), (km_reportKind, .int), (km_trust, .int), (km_letter, .int)]) [0, 1, 2, 3, 4, 5, 6, 7, 8, 9, 10, 11, 12, 13] rfl
      have hDc := hD.sub (ws' := [(h0, .inr (12, fsMM mi mr)), ((mr 14), .inl (km_must, 25, .inl fm_must)), ((mr 15), .inl (km_least, 25, .inl fm_least)), ((mr 16), .inl (km_pin, 25, .inl fm_pin)), ((mr 17), .inl (km_ways, 6875, .inl fm_ways)), ((mr 18), .inl (km_verdict, 24, .inl fm_verdict)), ((mr 19), .inl (km_row, 24, .inl fm_row)), ((mr 4), .inl (km_struck, 24, .inl fm_struck)), ((mr 7), .inl (km_reportKnown, 24, .inl fm_reportKnown)), ((mr 2), .inl (km_reportPlace, 24, .inl fm_reportPlace)), ((mr 5), .inl (km_reportMonth, 24, .inl fm_reportMonth)), ((mr 6), .inl (km_reportDay, 24, .inl fm_reportDay)), ((mr 3), .inl (km_reportKind, 24, .inl fm_reportKind)), ((mr 0), .inl (km_trust, 6, .inl fm_trust)), ((mr 1), .inl (km_letter, 36, .inl fm_letter))]) [0, 1, 2, 3, 4, 5, 6, 7, 8, 9, 10, 11, 12, 13, 14] (by decide) rfl
      have hFc := va_free (wc := [(h0, .inr (12, fsMM mi mr)), ((mr 14), .inl (km_must, 25, .inl fm_must)), ((mr 15), .inl (km_least, 25, .inl fm_least)), ((mr 16), .inl (km_pin, 25, .inl fm_pin)), ((mr 17), .inl (km_ways, 6875, .inl fm_ways)), ((mr 18), .inl (km_verdict, 24, .inl fm_verdict)), ((mr 19), .inl (km_row, 24, .inl fm_row)), ((mr 4), .inl (km_struck, 24, .inl fm_struck)), ((mr 7), .inl (km_reportKnown, 24, .inl fm_reportKnown)), ((mr 2), .inl (km_reportPlace, 24, .inl fm_reportPlace)), ((mr 5), .inl (km_reportMonth, 24, .inl fm_reportMonth)), ((mr 6), .inl (km_reportDay, 24, .inl fm_reportDay)), ((mr 3), .inl (km_reportKind, 24, .inl fm_reportKind)), ((mr 0), .inl (km_trust, 6, .inl fm_trust)), ((mr 1), .inl (km_letter, 36, .inl fm_letter))]) hD hS hA [0, 1, 2, 3, 4, 5, 6, 7, 8, 9, 10, 11, 12, 13, 14] rfl
      refine va_callv (va_runV (As := [.int p1]) (rest := []) ⟨hx, hb, hml, hown, hts⟩ (sX12_judgesAll l dC dI H.size h0 mi mr km_must fm_must km_least fm_least km_pin fm_pin km_ways fm_ways km_verdict fm_verdict km_row fm_row km_struck fm_struck km_reportKnown fm_reportKnown km_reportPlace fm_reportPlace km_reportMonth fm_reportMonth km_reportDay fm_reportDay km_reportKind fm_reportKind km_trust fm_trust km_letter fm_letter p1 gmi_0 gmi_1 gmi_2 gmi_4 gmi_7 gmi_10 gmi_17 gmi_23 gmi_24 gmi_26 gmi_29 gmi_30 gmi_33 gmi_37 gmi_41 gmi_50 gmi_51 gmi_56 gfm_row gfm_struck gfm_reportKnown gfm_reportPlace gfm_reportMonth gfm_reportDay) (cwV 1 hts (gz_gV mGB_261 mGB_262 mGB_263 mGB_1 mGB_264 goodGB) rfl rfl rfl (by decide +kernel) ⟨Nat.le_of_ble_eq_true rfl, Nat.le_of_ble_eq_true rfl⟩) ⟨fun a U g mk q => by obtain ⟨q0, q1, qP, qK, qD⟩ := q; exact ⟨q0, q1, qP, va_K.moved (u := U) (U := U.calling g mk a) (Vm.Alike.refl U.vm) qK, qD⟩, va_recv hKc hPc (ci := 12) (q0 := 0) rfl rfl, fun U hU hW => ⟨rfl, by rw [hU], by rw [hU]; exact hPc, va_K.moved hW.alike hKc, hDc.weaken (fun _ _ _ _ => trivial)⟩⟩ rfl rfl hl.1 rfl (lv_room (Nat.le_of_ble_eq_true rfl)) dX12_against_21 ⟨Nat.zero_le _, Nat.zero_le _⟩) hS (fun q _ h => hFc q h) hFc (fun u t H1 locs ht hvm hw hB hz1 hk1 hS => ?_)
      obtain ⟨y_693, y_694, f_695, f_696, f_697, f_698, f_699, f_700, gy_693, gy_694, gf_700, hP1, hD1⟩ := hB
      rw [ht] at hP1
      obtain ⟨hP, hD⟩ := va_join (wr := []) (w1 := [(h0, .inr (12, fsMM (upd (upd mi 37 y_693) 41 y_694) mr)), ((mr 14), .inl (km_must, 25, .inl f_695)), ((mr 15), .inl (km_least, 25, .inl f_696)), ((mr 16), .inl (km_pin, 25, .inl f_697)), ((mr 17), .inl (km_ways, 6875, .inl f_698)), ((mr 18), .inl (km_verdict, 24, .inl f_699)), ((mr 19), .inl (km_row, 24, .inl f_700)), ((mr 4), .inl (km_struck, 24, .inl fm_struck)), ((mr 7), .inl (km_reportKnown, 24, .inl fm_reportKnown)), ((mr 2), .inl (km_reportPlace, 24, .inl fm_reportPlace)), ((mr 5), .inl (km_reportMonth, 24, .inl fm_reportMonth)), ((mr 6), .inl (km_reportDay, 24, .inl fm_reportDay)), ((mr 3), .inl (km_reportKind, 24, .inl fm_reportKind)), ((mr 0), .inl (km_trust, 6, .inl fm_trust)), ((mr 1), .inl (km_letter, 36, .inl fm_letter))]) hP hD [0, 1, 2, 3, 4, 5, 6, 7, 8, 9, 10, 11, 12, 13, 14] [] rfl rfl (by decide) (by decide) hk1 hFc hP1 hD1
      have hP := hP.sub (ws' := [(h0, .inr (12, fsMM (upd (upd mi 37 y_693) 41 y_694) mr)), ((mr 14), .inl (km_must, 25, .inl f_695)), ((mr 15), .inl (km_least, 25, .inl f_696)), ((mr 16), .inl (km_pin, 25, .inl f_697)), ((mr 17), .inl (km_ways, 6875, .inl f_698)), ((mr 18), .inl (km_verdict, 24, .inl f_699)), ((mr 19), .inl (km_row, 24, .inl f_700)), ((mr 4), .inl (km_struck, 24, .inl fm_struck)), ((mr 7), .inl (km_reportKnown, 24, .inl fm_reportKnown)), ((mr 2), .inl (km_reportPlace, 24, .inl fm_reportPlace)), ((mr 5), .inl (km_reportMonth, 24, .inl fm_reportMonth)), ((mr 6), .inl (km_reportDay, 24, .inl fm_reportDay)), ((mr 3), .inl (km_reportKind, 24, .inl fm_reportKind)), ((mr 0), .inl (km_trust, 6, .inl fm_trust)), ((mr 1), .inl (km_letter, 36, .inl fm_letter))]) [0, 1, 2, 3, 4, 5, 6, 7, 8, 9, 10, 11, 12, 13, 14] rfl
      have hD := hD.sub (ws' := [(h0, .inr (12, fsMM (upd (upd mi 37 y_693) 41 y_694) mr)), ((mr 14), .inl (km_must, 25, .inl f_695)), ((mr 15), .inl (km_least, 25, .inl f_696)), ((mr 16), .inl (km_pin, 25, .inl f_697)), ((mr 17), .inl (km_ways, 6875, .inl f_698)), ((mr 18), .inl (km_verdict, 24, .inl f_699)), ((mr 19), .inl (km_row, 24, .inl f_700)), ((mr 4), .inl (km_struck, 24, .inl fm_struck)), ((mr 7), .inl (km_reportKnown, 24, .inl fm_reportKnown)), ((mr 2), .inl (km_reportPlace, 24, .inl fm_reportPlace)), ((mr 5), .inl (km_reportMonth, 24, .inl fm_reportMonth)), ((mr 6), .inl (km_reportDay, 24, .inl fm_reportDay)), ((mr 3), .inl (km_reportKind, 24, .inl fm_reportKind)), ((mr 0), .inl (km_trust, 6, .inl fm_trust)), ((mr 1), .inl (km_letter, 36, .inl fm_letter))]) [0, 1, 2, 3, 4, 5, 6, 7, 8, 9, 10, 11, 12, 13, 14] (by decide) rfl
      generalize H1 = H at hP hS ⊢
      refine lv_aload_n hx hb dX12_against_24 rfl (lv_at hl 0 rfl) ?_
      refine va_get (D := (dC, dI)) (ci := 12) (v := .ref (mr 18)) (C := RX12) (T := TX12) (N := 57) hx hb hts (fun w h => List.mem_cons_of_mem _ (jnGB_X12 w h)) hown hK hP 0 rfl rfl 39 (by decide) (hts _ (List.mem_cons_of_mem _ mGB_30)) (fun _ h9 => h9) rfl dX12_against_25 ?_
      refine lv_iload_n hx hb dX12_against_28 rfl (lv_at hl 2 rfl) ?_
      refine va_iald hx hb hK hP 5 4 rfl rfl (gi_in g_691 (by decide)) dX12_against_29 ?_
      refine lv_topi (fun x_701 ex_701 => ?_)
      refine lv_iconst (v := 2) hx hb dX12_against_30 (by decide) ?_
      refine lv_icmp_eq (tgt := 36) hx hb dX12_against_31 (by decide) (fun c_702 => ?_) (fun c_702 => ?_)
      · have g_703 : gi x_701 2 2 := gi_eq c_702 (gi_c 2 2 (by decide))
        refine lv_iconst (v := 0) hx hb dX12_against_36 (by decide) ?_
        refine lv_istore_n (lv' := [(3, .int 0), (0, .ref h0), (1, .int p1), (2, .int p2)]) hx hb dX12_against_37 rfl hl (by decide) rfl (fun ls hl => ?_)
        refine lv_iconst (v := 0) hx hb dX12_against_38 (by decide) ?_
        refine lv_istore (lv' := [(4, .int 0), (3, .int 0), (0, .ref h0), (1, .int p1), (2, .int p2)]) hx hb dX12_against_39 hl (by decide) rfl (fun ls hl => ?_)
        refine (lp_sX12_against h0 mi mr km_must fm_must km_least fm_least km_pin fm_pin km_ways fm_ways km_verdict fm_verdict km_row fm_row km_struck fm_struck km_reportKnown fm_reportKnown km_reportPlace fm_reportPlace km_reportMonth fm_reportMonth km_reportDay fm_reportDay km_reportKind fm_reportKind km_trust fm_trust km_letter fm_letter p1 p2 gmi_0 gmi_1 gmi_2 gmi_4 gmi_7 gmi_10 gmi_17 gmi_23 gmi_24 gmi_26 gmi_29 gmi_30 gmi_33 gmi_37 gmi_41 gmi_50 gmi_51 gmi_56 gfm_row gfm_struck gfm_reportKnown gfm_reportPlace gfm_reportMonth gfm_reportDay hx hb hml hown hts hK hA (Nat.le_of_ble_eq_true rfl) (Nat.le_of_ble_eq_true rfl) (Nat.zero_le _) (Nat.zero_le _) (fun v w0_37 w0_41 z1 z2 z3 z4 z5 z6 H locs ls gv gw0_37 gw0_41 gz6 hP hD hS hl => ?_) (fun v w0_37 w0_41 z1 z2 z3 z4 z5 z6 H locs ls gv gw0_37 gw0_41 gz6 hP hD hS hl => ?_) (fun v w0_37 w0_41 z1 z2 z3 z4 z5 z6 H locs ls gw0_37 gw0_41 gz6 hP hD hS hl => ?_) 62) 0 0 y_693 y_694 f_695 f_696 f_697 f_698 f_699 f_700 _ _ _ g_687 g_691 (gi_w (gi_c 0 0 (by decide)) (by decide)) gy_693 gy_694 gf_700 (by have k0 : (0 : Int32).toInt = 0 := (by decide); omega) hP hD hS (lv_sub hl [2, 3, 4, 1, 0] rfl)
        · skip
          exact W.iret (v := v) hx hb hr (fun t ht hW => ⟨⟨v, (), rfl, (gi_any v), w0_37, w0_41, z1, z2, z3, z4, z5, z6, gw0_37, gw0_41, gz6, by rw [ht]; exact hP, hD⟩, hS.F ht⟩) hS.2.2 dX12_against_18
        · skip
          exact W.iret (v := v) hx hb hr (fun t ht hW => ⟨⟨v, (), rfl, (gi_any v), w0_37, w0_41, z1, z2, z3, z4, z5, z6, gw0_37, gw0_41, gz6, by rw [ht]; exact hP, hD⟩, hS.F ht⟩) hS.2.2 dX12_against_35
        · skip
          exact W.iret (v := v) hx hb hr (fun t ht hW => ⟨⟨v, (), rfl, (gi_any v), w0_37, w0_41, z1, z2, z3, z4, z5, z6, gw0_37, gw0_41, gz6, by rw [ht]; exact hP, hD⟩, hS.F ht⟩) hS.2.2 dX12_against_88
      · refine lv_iconst (v := 0) hx hb dX12_against_34 (by decide) ?_
        exact W.iret (v := 0) hx hb hr (fun t ht hW => ⟨⟨0, (), rfl, (gi_any 0), y_693, y_694, f_695, f_696, f_697, f_698, f_699, f_700, gy_693, gy_694, gf_700, by rw [ht]; exact hP, hD⟩, hS.F ht⟩) hS.2.2 dX12_against_35
    · have g_704 : gi r_688 0 0 := gi_eq c_689 (gi_c 0 0 (by decide))
      refine lv_bipush (v := (-2)) hx hb dX12_against_16 (by decide) ?_
      exact W.iret (v := (-2)) hx hb hr (fun t ht hW => ⟨⟨(-2), (), rfl, (gi_any (-2)), (mi 37), (mi 41), fm_must, fm_least, fm_pin, fm_ways, fm_verdict, fm_row, gmi_37, gmi_41, gfm_row, by rw [ht]; exact hP, hD⟩, hS.F ht⟩) hS.2.2 dX12_against_18
theorem dX12_both_0 : decode cX12_both 0 = .ok (.aload_n 0, 1) := by decide +kernel
theorem dX12_both_1 : decode cX12_both 1 = .ok (.iload_n 1, 1) := by decide +kernel
theorem dX12_both_2 : decode cX12_both 2 = .ok (.invokevirtual 303, 3) := by decide +kernel
theorem dX12_both_5 : decode cX12_both 5 = .ok (.ifCond .eq 11, 3) := by decide +kernel
theorem dX12_both_8 : decode cX12_both 8 = .ok (.aload_n 0, 1) := by decide +kernel
theorem dX12_both_9 : decode cX12_both 9 = .ok (.iload_n 2, 1) := by decide +kernel
theorem dX12_both_10 : decode cX12_both 10 = .ok (.invokevirtual 303, 3) := by decide +kernel
theorem dX12_both_13 : decode cX12_both 13 = .ok (.ifCond .ne 6, 3) := by decide +kernel
theorem dX12_both_16 : decode cX12_both 16 = .ok (.bipush (-2), 2) := by decide +kernel
theorem dX12_both_18 : decode cX12_both 18 = .ok (.ireturn, 1) := by decide +kernel
theorem dX12_both_19 : decode cX12_both 19 = .ok (.aload_n 0, 1) := by decide +kernel
theorem dX12_both_20 : decode cX12_both 20 = .ok (.iload_n 1, 1) := by decide +kernel
theorem dX12_both_21 : decode cX12_both 21 = .ok (.iload_n 2, 1) := by decide +kernel
theorem dX12_both_22 : decode cX12_both 22 = .ok (.invokevirtual 373, 3) := by decide +kernel
theorem dX12_both_25 : decode cX12_both 25 = .ok (.ifCond .eq 7, 3) := by decide +kernel
theorem dX12_both_28 : decode cX12_both 28 = .ok (.iconst 1, 1) := by decide +kernel
theorem dX12_both_29 : decode cX12_both 29 = .ok (.goto 4, 3) := by decide +kernel
theorem dX12_both_32 : decode cX12_both 32 = .ok (.iconst 0, 1) := by decide +kernel
theorem dX12_both_33 : decode cX12_both 33 = .ok (.ireturn, 1) := by decide +kernel
set_option maxHeartbeats 4000000 in
set_option maxRecDepth 100000 in
theorem sX12_both (l : Launch) (dC : Nat → ClassId) (dI : Nat → Nat → Nat) (sz : Nat) (h0 : Nat) (mi : Nat → Int32) (mr : Nat → Nat) (km_must : ClassId) (fm_must : Nat → Int32) (km_least : ClassId) (fm_least : Nat → Int32) (km_pin : ClassId) (fm_pin : Nat → Int32) (km_ways : ClassId) (fm_ways : Nat → Int32) (km_verdict : ClassId) (fm_verdict : Nat → Int32) (km_row : ClassId) (fm_row : Nat → Int32) (km_struck : ClassId) (fm_struck : Nat → Int32) (km_reportKnown : ClassId) (fm_reportKnown : Nat → Int32) (km_reportPlace : ClassId) (fm_reportPlace : Nat → Int32) (km_reportMonth : ClassId) (fm_reportMonth : Nat → Int32) (km_reportDay : ClassId) (fm_reportDay : Nat → Int32) (km_reportKind : ClassId) (fm_reportKind : Nat → Int32) (km_trust : ClassId) (fm_trust : Nat → Int32) (km_letter : ClassId) (fm_letter : Nat → Int32) (p1 : Int32) (p2 : Int32) (gmi_0 : gi (mi 0) 0 24) (gmi_1 : gi (mi 1) 0 5) (gmi_2 : gi (mi 2) 0 5) (gmi_4 : gi (mi 4) 0 1) (gmi_7 : gi (mi 7) 0 6) (gmi_10 : gi (mi 10) 0 24) (gmi_17 : gi (mi 17) 0 8) (gmi_23 : gi (mi 23) 0 300) (gmi_24 : gi (mi 24) 0 1) (gmi_26 : gi (mi 26) 0 1600) (gmi_29 : gi (mi 29) 0 1600) (gmi_30 : gi (mi 30) 0 1600) (gmi_33 : gi (mi 33) 0 1) (gmi_37 : gi (mi 37) 0 1) (gmi_41 : gi (mi 41) 0 24) (gmi_50 : gi (mi 50) 0 1) (gmi_51 : gi (mi 51) 0 1) (gmi_56 : gi (mi 56) 0 80) (gfm_row : ga fm_row 24 0 23) (gfm_struck : ga fm_struck 24 0 1) (gfm_reportKnown : ga fm_reportKnown 24 0 999) (gfm_reportPlace : ga fm_reportPlace 24 0 5) (gfm_reportMonth : ga fm_reportMonth 24 0 23) (gfm_reportDay : ga fm_reportDay 24 0 999) : Met l yX12_both (.code yX12_both cX12_both 3 (some .int) :: wsGB) ({ frames := 4, cells := 0, slots := 0, locals := 95 }) (va_Pc [.ref h0, .int p1, .int p2] (fun U => U.heap.size = sz ∧ va_P (dC, dI) vwCl [(h0, .inr (12, fsMM mi mr)), ((mr 14), .inl (km_must, 25, .inl fm_must)), ((mr 15), .inl (km_least, 25, .inl fm_least)), ((mr 16), .inl (km_pin, 25, .inl fm_pin)), ((mr 17), .inl (km_ways, 6875, .inl fm_ways)), ((mr 18), .inl (km_verdict, 24, .inl fm_verdict)), ((mr 19), .inl (km_row, 24, .inl fm_row)), ((mr 4), .inl (km_struck, 24, .inl fm_struck)), ((mr 7), .inl (km_reportKnown, 24, .inl fm_reportKnown)), ((mr 2), .inl (km_reportPlace, 24, .inl fm_reportPlace)), ((mr 5), .inl (km_reportMonth, 24, .inl fm_reportMonth)), ((mr 6), .inl (km_reportDay, 24, .inl fm_reportDay)), ((mr 3), .inl (km_reportKind, 24, .inl fm_reportKind)), ((mr 0), .inl (km_trust, 6, .inl fm_trust)), ((mr 1), .inl (km_letter, 36, .inl fm_letter))] U.heap ∧ va_K (dC, dI) vwCl [(km_must, .int), (km_least, .int), (km_pin, .int), (km_ways, .int), (km_verdict, .int), (km_row, .int), (km_struck, .boolean), (km_reportKnown, .int), (km_reportPlace, .int), (km_reportMonth, .int), (km_reportDay, .int), (km_reportKind, .int), (km_trust, .int), (km_letter, .int)] U ∧ va_D (fun _ => True) [(h0, .inr (12, fsMM mi mr)), ((mr 14), .inl (km_must, 25, .inl fm_must)), ((mr 15), .inl (km_least, 25, .inl fm_least)), ((mr 16), .inl (km_pin, 25, .inl fm_pin)), ((mr 17), .inl (km_ways, 6875, .inl fm_ways)), ((mr 18), .inl (km_verdict, 24, .inl fm_verdict)), ((mr 19), .inl (km_row, 24, .inl fm_row)), ((mr 4), .inl (km_struck, 24, .inl fm_struck)), ((mr 7), .inl (km_reportKnown, 24, .inl fm_reportKnown)), ((mr 2), .inl (km_reportPlace, 24, .inl fm_reportPlace)), ((mr 5), .inl (km_reportMonth, 24, .inl fm_reportMonth)), ((mr 6), .inl (km_reportDay, 24, .inl fm_reportDay)), ((mr 3), .inl (km_reportKind, 24, .inl fm_reportKind)), ((mr 0), .inl (km_trust, 6, .inl fm_trust)), ((mr 1), .inl (km_letter, 36, .inl fm_letter))])) (va_Qi (fun (r : Int32) (u : Unit) => gi r (-2) 1) (fun _ t => ∃ (w0_37 : Int32) (z1 : Nat → Int32) (z2 : Nat → Int32) (z3 : Nat → Int32) (z4 : Nat → Int32), gi w0_37 0 1 ∧ va_P (dC, dI) vwCl [(h0, .inr (12, fsMM (upd mi 37 w0_37) mr)), ((mr 14), .inl (km_must, 25, .inl z1)), ((mr 15), .inl (km_least, 25, .inl z2)), ((mr 16), .inl (km_pin, 25, .inl z3)), ((mr 17), .inl (km_ways, 6875, .inl z4)), ((mr 18), .inl (km_verdict, 24, .inl fm_verdict)), ((mr 19), .inl (km_row, 24, .inl fm_row)), ((mr 4), .inl (km_struck, 24, .inl fm_struck)), ((mr 7), .inl (km_reportKnown, 24, .inl fm_reportKnown)), ((mr 2), .inl (km_reportPlace, 24, .inl fm_reportPlace)), ((mr 5), .inl (km_reportMonth, 24, .inl fm_reportMonth)), ((mr 6), .inl (km_reportDay, 24, .inl fm_reportDay)), ((mr 3), .inl (km_reportKind, 24, .inl fm_reportKind)), ((mr 0), .inl (km_trust, 6, .inl fm_trust)), ((mr 1), .inl (km_letter, 36, .inl fm_letter))] t.heap ∧ va_D (va_A [(h0, .inr (12, fsMM mi mr)), ((mr 14), .inl (km_must, 25, .inl fm_must)), ((mr 15), .inl (km_least, 25, .inl fm_least)), ((mr 16), .inl (km_pin, 25, .inl fm_pin)), ((mr 17), .inl (km_ways, 6875, .inl fm_ways)), ((mr 18), .inl (km_verdict, 24, .inl fm_verdict)), ((mr 19), .inl (km_row, 24, .inl fm_row)), ((mr 4), .inl (km_struck, 24, .inl fm_struck)), ((mr 7), .inl (km_reportKnown, 24, .inl fm_reportKnown)), ((mr 2), .inl (km_reportPlace, 24, .inl fm_reportPlace)), ((mr 5), .inl (km_reportMonth, 24, .inl fm_reportMonth)), ((mr 6), .inl (km_reportDay, 24, .inl fm_reportDay)), ((mr 3), .inl (km_reportKind, 24, .inl fm_reportKind)), ((mr 0), .inl (km_trust, 6, .inl fm_trust)), ((mr 1), .inl (km_letter, 36, .inl fm_letter))] sz) [(h0, .inr (12, fsMM (upd mi 37 w0_37) mr)), ((mr 14), .inl (km_must, 25, .inl z1)), ((mr 15), .inl (km_least, 25, .inl z2)), ((mr 16), .inl (km_pin, 25, .inl z3)), ((mr 17), .inl (km_ways, 6875, .inl z4)), ((mr 18), .inl (km_verdict, 24, .inl fm_verdict)), ((mr 19), .inl (km_row, 24, .inl fm_row)), ((mr 4), .inl (km_struck, 24, .inl fm_struck)), ((mr 7), .inl (km_reportKnown, 24, .inl fm_reportKnown)), ((mr 2), .inl (km_reportPlace, 24, .inl fm_reportPlace)), ((mr 5), .inl (km_reportMonth, 24, .inl fm_reportMonth)), ((mr 6), .inl (km_reportDay, 24, .inl fm_reportDay)), ((mr 3), .inl (km_reportKind, 24, .inl fm_reportKind)), ((mr 0), .inl (km_trust, 6, .inl fm_trust)), ((mr 1), .inl (km_letter, 36, .inl fm_letter))]) (va_A [(h0, .inr (12, fsMM mi mr)), ((mr 14), .inl (km_must, 25, .inl fm_must)), ((mr 15), .inl (km_least, 25, .inl fm_least)), ((mr 16), .inl (km_pin, 25, .inl fm_pin)), ((mr 17), .inl (km_ways, 6875, .inl fm_ways)), ((mr 18), .inl (km_verdict, 24, .inl fm_verdict)), ((mr 19), .inl (km_row, 24, .inl fm_row)), ((mr 4), .inl (km_struck, 24, .inl fm_struck)), ((mr 7), .inl (km_reportKnown, 24, .inl fm_reportKnown)), ((mr 2), .inl (km_reportPlace, 24, .inl fm_reportPlace)), ((mr 5), .inl (km_reportMonth, 24, .inl fm_reportMonth)), ((mr 6), .inl (km_reportDay, 24, .inl fm_reportDay)), ((mr 3), .inl (km_reportKind, 24, .inl fm_reportKind)), ((mr 0), .inl (km_trust, 6, .inl fm_trust)), ((mr 1), .inl (km_letter, 36, .inl fm_letter))] sz)) 0 0 (va_A [(h0, .inr (12, fsMM mi mr)), ((mr 14), .inl (km_must, 25, .inl fm_must)), ((mr 15), .inl (km_least, 25, .inl fm_least)), ((mr 16), .inl (km_pin, 25, .inl fm_pin)), ((mr 17), .inl (km_ways, 6875, .inl fm_ways)), ((mr 18), .inl (km_verdict, 24, .inl fm_verdict)), ((mr 19), .inl (km_row, 24, .inl fm_row)), ((mr 4), .inl (km_struck, 24, .inl fm_struck)), ((mr 7), .inl (km_reportKnown, 24, .inl fm_reportKnown)), ((mr 2), .inl (km_reportPlace, 24, .inl fm_reportPlace)), ((mr 5), .inl (km_reportMonth, 24, .inl fm_reportMonth)), ((mr 6), .inl (km_reportDay, 24, .inl fm_reportDay)), ((mr 3), .inl (km_reportKind, 24, .inl fm_reportKind)), ((mr 0), .inl (km_trust, 6, .inl fm_trust)), ((mr 1), .inl (km_letter, 36, .inl fm_letter))] sz) := by
  refine Met.ofW (cc := cX12_both) (maxL := 3) (ret := (some .int)) (by decide) rfl ?_
  intro p e s m args below meth c s₁ B hml hv
  obtain ⟨rfl, hsz, hP, hK, hD0⟩ := hv
  have hx := B.exec
  have hb := B.bytes
  have hr := B.returns
  have hts := atoms_spec (ws := (.code yX12_both cX12_both 3 (some .int) :: wsGB)) B.pre
  have hown : s.vm.findClass RX12 = some m.cls := findClass_of_methodNamed B.named
  have hlocks := B.notSynchronized
  subst hsz
  have hD := hD0.self (sz := s.heap.size)
  generalize hAe : va_A [(h0, .inr (12, fsMM mi mr)), ((mr 14), .inl (km_must, 25, .inl fm_must)), ((mr 15), .inl (km_least, 25, .inl fm_least)), ((mr 16), .inl (km_pin, 25, .inl fm_pin)), ((mr 17), .inl (km_ways, 6875, .inl fm_ways)), ((mr 18), .inl (km_verdict, 24, .inl fm_verdict)), ((mr 19), .inl (km_row, 24, .inl fm_row)), ((mr 4), .inl (km_struck, 24, .inl fm_struck)), ((mr 7), .inl (km_reportKnown, 24, .inl fm_reportKnown)), ((mr 2), .inl (km_reportPlace, 24, .inl fm_reportPlace)), ((mr 5), .inl (km_reportMonth, 24, .inl fm_reportMonth)), ((mr 6), .inl (km_reportDay, 24, .inl fm_reportDay)), ((mr 3), .inl (km_reportKind, 24, .inl fm_reportKind)), ((mr 0), .inl (km_trust, 6, .inl fm_trust)), ((mr 1), .inl (km_letter, 36, .inl fm_letter))] s.heap.size = A at hD ⊢
  have hA : ∀ q : Nat, s.heap.size ≤ q → A q := fun q h => by rw [← hAe]; exact Or.inr h
  have hS : va_S A s.heap s.heap [] := va_S.rf
  have hl := lv_entry ([.ref h0, .int p1, .int p2]) (n := 3) (Nat.le_of_ble_eq_true rfl)
  rw [lg_entry_eq]
  generalize (lg_sl ([.ref h0, .int p1, .int p2]) ++ List.replicate (3 - (lg_sl ([.ref h0, .int p1, .int p2])).length) Slot.unset).toArray = ls at hl ⊢
  have hl : lv_has ls 3 [(0, .ref h0), (1, .int p1), (2, .int p2)] := hl
  refine lv_aload_n hx hb dX12_both_0 rfl (lv_at hl 0 rfl) ?_
  refine lv_iload_n hx hb dX12_both_1 rfl (lv_at hl 1 rfl) ?_
  have hPc := hP.sub (ws' := [(h0, .inr (12, fsMM mi mr))]) [0] rfl
  have hKc := hK.sub (tys' := []) [] rfl
  refine va_calli (va_runV (As := [.int p1]) (rest := []) ⟨hx, hb, hml, hown, hts⟩ (sX12_isReport l dC dI h0 mi mr p1 gmi_0 gmi_1 gmi_2 gmi_4 gmi_7 gmi_10 gmi_17 gmi_23 gmi_24 gmi_26 gmi_29 gmi_30 gmi_33 gmi_37 gmi_41 gmi_50 gmi_51 gmi_56) (cwV 1 hts (gz_gV mGB_235 mGB_236 mGB_237 mGB_1 mGB_238 goodGB) rfl rfl rfl (by decide +kernel) ⟨Nat.le_of_ble_eq_true rfl, Nat.le_of_ble_eq_true rfl⟩) ⟨fun a U g mk q => by obtain ⟨q0, qP, qK⟩ := q; exact ⟨q0, qP, va_K.moved (u := U) (U := U.calling g mk a) (Vm.Alike.refl U.vm) qK⟩, va_recv hKc hPc (ci := 12) (q0 := 0) rfl rfl, fun U hU hW => ⟨rfl, by rw [hU]; exact hPc, va_K.moved hW.alike hKc⟩⟩ rfl rfl hl.1 rfl (lv_room (Nat.le_of_ble_eq_true rfl)) dX12_both_2 ⟨Nat.zero_le _, Nat.zero_le _⟩) hS (fun q _ h => h.elim) (fun q h => h.elim) (fun r_39 u t H1 locs ht hvm hw hB hz1 hk1 hS => ?_)
  have hP := gz_keep hP hk1
  generalize H1 = H at hP hS ⊢
  have gr_39 : gi r_39 0 1 := hw.1
  have hqr_39 := hw.2
  refine lv_if_eq (tgt := 16) hx hb dX12_both_5 (by decide) (fun c_40 => ?_) (fun c_40 => ?_)
  · have g_41 : gi r_39 0 0 := gi_eq c_40 (gi_c 0 0 (by decide))
    refine lv_bipush (v := (-2)) hx hb dX12_both_16 (by decide) ?_
    exact W.iret (v := (-2)) hx hb hr (fun t ht hW => ⟨⟨(-2), (), rfl, (gi_w (gi_c (-2) (-2) (by decide)) (by decide)), (mi 37), fm_must, fm_least, fm_pin, fm_ways, gmi_37, by rw [ht]; exact hP, hD⟩, hS.F ht⟩) hS.2.2 dX12_both_18
  · have g_42 : gi r_39 1 1 := gi_ne_lo c_40 gr_39 (gi_c 0 0 (by decide)) (by decide)
    have g_43 : gi p1 0 23 := gi_cap (gi_any p1) (hqr_39 (gz_one g_42)) (by decide)
    refine lv_aload_n hx hb dX12_both_8 rfl (lv_at hl 0 rfl) ?_
    refine lv_iload_n hx hb dX12_both_9 rfl (lv_at hl 2 rfl) ?_
    have hPc := hP.sub (ws' := [(h0, .inr (12, fsMM mi mr))]) [0] rfl
    have hKc := hK.sub (tys' := []) [] rfl
    refine va_calli (va_runV (As := [.int p2]) (rest := []) ⟨hx, hb, hml, hown, hts⟩ (sX12_isReport l dC dI h0 mi mr p2 gmi_0 gmi_1 gmi_2 gmi_4 gmi_7 gmi_10 gmi_17 gmi_23 gmi_24 gmi_26 gmi_29 gmi_30 gmi_33 gmi_37 gmi_41 gmi_50 gmi_51 gmi_56) (cwV 1 hts (gz_gV mGB_235 mGB_236 mGB_237 mGB_1 mGB_238 goodGB) rfl rfl rfl (by decide +kernel) ⟨Nat.le_of_ble_eq_true rfl, Nat.le_of_ble_eq_true rfl⟩) ⟨fun a U g mk q => by obtain ⟨q0, qP, qK⟩ := q; exact ⟨q0, qP, va_K.moved (u := U) (U := U.calling g mk a) (Vm.Alike.refl U.vm) qK⟩, va_recv hKc hPc (ci := 12) (q0 := 0) rfl rfl, fun U hU hW => ⟨rfl, by rw [hU]; exact hPc, va_K.moved hW.alike hKc⟩⟩ rfl rfl hl.1 rfl (lv_room (Nat.le_of_ble_eq_true rfl)) dX12_both_10 ⟨Nat.zero_le _, Nat.zero_le _⟩) hS (fun q _ h => h.elim) (fun q h => h.elim) (fun r_44 u t H1 locs ht hvm hw hB hz1 hk1 hS => ?_)
    have hP := gz_keep hP hk1
    generalize H1 = H at hP hS ⊢
    have gr_44 : gi r_44 0 1 := hw.1
    have hqr_44 := hw.2
    refine lv_if_ne (tgt := 19) hx hb dX12_both_13 (by decide) (fun c_45 => ?_) (fun c_45 => ?_)
    · have g_46 : gi r_44 1 1 := gi_ne_lo c_45 gr_44 (gi_c 0 0 (by decide)) (by decide)
      have g_47 : gi p2 0 23 := gi_cap (gi_any p2) (hqr_44 (gz_one g_46)) (by decide)
      refine lv_aload_n hx hb dX12_both_19 rfl (lv_at hl 0 rfl) ?_
      refine lv_iload_n hx hb dX12_both_20 rfl (lv_at hl 1 rfl) ?_
      refine lv_iload_n hx hb dX12_both_21 rfl (lv_at hl 2 rfl) ?_
      have hPc := hP.sub (ws' := [(h0, .inr (12, fsMM mi mr)), ((mr 14), .inl (km_must, 25, .inl fm_must)), ((mr 15), .inl (km_least, 25, .inl fm_least)), ((mr 16), .inl (km_pin, 25, .inl fm_pin)), ((mr 17), .inl (km_ways, 6875, .inl fm_ways)), ((mr 5), .inl (km_reportMonth, 24, .inl fm_reportMonth)), ((mr 6), .inl (km_reportDay, 24, .inl fm_reportDay)), ((mr 3), .inl (km_reportKind, 24, .inl fm_reportKind))]) [0, 1, 2, 3, 4, 10, 11, 12] rfl
      have hKc := hK.sub (tys' := [(km_must, .int), (km_least, .int), (km_pin, .int), (km_ways, .int), (km_reportMonth, .int), (km_reportDay, .int), (km_reportKind, .int)]) [0, 1, 2, 3, 9, 10, 11] rfl
      have hDc := hD.sub (ws' := [(h0, .inr (12, fsMM mi mr)), ((mr 14), .inl (km_must, 25, .inl fm_must)), ((mr 15), .inl (km_least, 25, .inl fm_least)), ((mr 16), .inl (km_pin, 25, .inl fm_pin)), ((mr 17), .inl (km_ways, 6875, .inl fm_ways)), ((mr 5), .inl (km_reportMonth, 24, .inl fm_reportMonth)), ((mr 6), .inl (km_reportDay, 24, .inl fm_reportDay)), ((mr 3), .inl (km_reportKind, 24, .inl fm_reportKind))]) [0, 1, 2, 3, 4, 10, 11, 12] (by decide) rfl
      have hFc := va_free (wc := [(h0, .inr (12, fsMM mi mr)), ((mr 14), .inl (km_must, 25, .inl fm_must)), ((mr 15), .inl (km_least, 25, .inl fm_least)), ((mr 16), .inl (km_pin, 25, .inl fm_pin)), ((mr 17), .inl (km_ways, 6875, .inl fm_ways)), ((mr 5), .inl (km_reportMonth, 24, .inl fm_reportMonth)), ((mr 6), .inl (km_reportDay, 24, .inl fm_reportDay)), ((mr 3), .inl (km_reportKind, 24, .inl fm_reportKind))]) hD hS hA [0, 1, 2, 3, 4, 10, 11, 12] rfl
      refine va_calli (va_runV (As := [.int p1, .int p2]) (rest := []) ⟨hx, hb, hml, hown, hts⟩ (sX12_areBoth l dC dI H.size h0 mi mr km_must fm_must km_least fm_least km_pin fm_pin km_ways fm_ways km_reportMonth fm_reportMonth km_reportDay fm_reportDay km_reportKind fm_reportKind p1 p2 gmi_0 gmi_1 gmi_2 gmi_4 gmi_7 gmi_10 gmi_17 gmi_23 gmi_24 gmi_26 gmi_29 gmi_30 gmi_33 gmi_37 gmi_41 gmi_50 gmi_51 gmi_56 gfm_reportMonth gfm_reportDay g_43 g_47) (cwV 2 hts (gz_gV mGB_338 mGB_339 mGB_340 mGB_1 mGB_341 goodGB) rfl rfl rfl (by decide +kernel) ⟨Nat.le_of_ble_eq_true rfl, Nat.le_of_ble_eq_true rfl⟩) ⟨fun a U g mk q => by obtain ⟨q0, q1, qP, qK, qD⟩ := q; exact ⟨q0, q1, qP, va_K.moved (u := U) (U := U.calling g mk a) (Vm.Alike.refl U.vm) qK, qD⟩, va_recv hKc hPc (ci := 12) (q0 := 0) rfl rfl, fun U hU hW => ⟨rfl, by rw [hU], by rw [hU]; exact hPc, va_K.moved hW.alike hKc, hDc.weaken (fun _ _ _ _ => trivial)⟩⟩ rfl rfl hl.1 rfl (lv_room (Nat.le_of_ble_eq_true rfl)) dX12_both_22 ⟨Nat.zero_le _, Nat.zero_le _⟩) hS (fun q _ h => hFc q h) hFc (fun r_48 u t H1 locs ht hvm hw hB hz1 hk1 hS => ?_)
      obtain ⟨y_49, f_50, f_51, f_52, f_53, gy_49, hP1, hD1⟩ := hB
      rw [ht] at hP1
      obtain ⟨hP, hD⟩ := va_join (wr := [((mr 18), .inl (km_verdict, 24, .inl fm_verdict)), ((mr 19), .inl (km_row, 24, .inl fm_row)), ((mr 4), .inl (km_struck, 24, .inl fm_struck)), ((mr 7), .inl (km_reportKnown, 24, .inl fm_reportKnown)), ((mr 2), .inl (km_reportPlace, 24, .inl fm_reportPlace)), ((mr 0), .inl (km_trust, 6, .inl fm_trust)), ((mr 1), .inl (km_letter, 36, .inl fm_letter))]) (w1 := [(h0, .inr (12, fsMM (upd mi 37 y_49) mr)), ((mr 14), .inl (km_must, 25, .inl f_50)), ((mr 15), .inl (km_least, 25, .inl f_51)), ((mr 16), .inl (km_pin, 25, .inl f_52)), ((mr 17), .inl (km_ways, 6875, .inl f_53)), ((mr 5), .inl (km_reportMonth, 24, .inl fm_reportMonth)), ((mr 6), .inl (km_reportDay, 24, .inl fm_reportDay)), ((mr 3), .inl (km_reportKind, 24, .inl fm_reportKind))]) hP hD [0, 1, 2, 3, 4, 10, 11, 12] [5, 6, 7, 8, 9, 13, 14] rfl rfl (by decide) (by decide) hk1 hFc hP1 hD1
      have hP := hP.sub (ws' := [(h0, .inr (12, fsMM (upd mi 37 y_49) mr)), ((mr 14), .inl (km_must, 25, .inl f_50)), ((mr 15), .inl (km_least, 25, .inl f_51)), ((mr 16), .inl (km_pin, 25, .inl f_52)), ((mr 17), .inl (km_ways, 6875, .inl f_53)), ((mr 18), .inl (km_verdict, 24, .inl fm_verdict)), ((mr 19), .inl (km_row, 24, .inl fm_row)), ((mr 4), .inl (km_struck, 24, .inl fm_struck)), ((mr 7), .inl (km_reportKnown, 24, .inl fm_reportKnown)), ((mr 2), .inl (km_reportPlace, 24, .inl fm_reportPlace)), ((mr 5), .inl (km_reportMonth, 24, .inl fm_reportMonth)), ((mr 6), .inl (km_reportDay, 24, .inl fm_reportDay)), ((mr 3), .inl (km_reportKind, 24, .inl fm_reportKind)), ((mr 0), .inl (km_trust, 6, .inl fm_trust)), ((mr 1), .inl (km_letter, 36, .inl fm_letter))]) [7, 8, 9, 10, 11, 0, 1, 2, 3, 4, 12, 13, 14, 5, 6] rfl
      have hD := hD.sub (ws' := [(h0, .inr (12, fsMM (upd mi 37 y_49) mr)), ((mr 14), .inl (km_must, 25, .inl f_50)), ((mr 15), .inl (km_least, 25, .inl f_51)), ((mr 16), .inl (km_pin, 25, .inl f_52)), ((mr 17), .inl (km_ways, 6875, .inl f_53)), ((mr 18), .inl (km_verdict, 24, .inl fm_verdict)), ((mr 19), .inl (km_row, 24, .inl fm_row)), ((mr 4), .inl (km_struck, 24, .inl fm_struck)), ((mr 7), .inl (km_reportKnown, 24, .inl fm_reportKnown)), ((mr 2), .inl (km_reportPlace, 24, .inl fm_reportPlace)), ((mr 5), .inl (km_reportMonth, 24, .inl fm_reportMonth)), ((mr 6), .inl (km_reportDay, 24, .inl fm_reportDay)), ((mr 3), .inl (km_reportKind, 24, .inl fm_reportKind)), ((mr 0), .inl (km_trust, 6, .inl fm_trust)), ((mr 1), .inl (km_letter, 36, .inl fm_letter))]) [7, 8, 9, 10, 11, 0, 1, 2, 3, 4, 12, 13, 14, 5, 6] (by decide) rfl
      generalize H1 = H at hP hS ⊢
      have gr_48 : gi r_48 0 1 := hw
      refine lv_if_eq (tgt := 32) hx hb dX12_both_25 (by decide) (fun c_54 => ?_) (fun c_54 => ?_)
      · have g_55 : gi r_48 0 0 := gi_eq c_54 (gi_c 0 0 (by decide))
        refine lv_iconst (v := 0) hx hb dX12_both_32 (by decide) ?_
        exact W.iret (v := 0) hx hb hr (fun t ht hW => ⟨⟨0, (), rfl, (gi_w (gi_c 0 0 (by decide)) (by decide)), y_49, f_50, f_51, f_52, f_53, gy_49, by rw [ht]; exact hP, hD⟩, hS.F ht⟩) hS.2.2 dX12_both_33
      · have g_56 : gi r_48 1 1 := gi_ne_lo c_54 gr_48 (gi_c 0 0 (by decide)) (by decide)
        refine lv_iconst (v := 1) hx hb dX12_both_28 (by decide) ?_
        refine lv_goto (tgt := 33) hx hb dX12_both_29 (by decide) ?_
        exact W.iret (v := 1) hx hb hr (fun t ht hW => ⟨⟨1, (), rfl, (gi_w (gi_c 1 1 (by decide)) (by decide)), y_49, f_50, f_51, f_52, f_53, gy_49, by rw [ht]; exact hP, hD⟩, hS.F ht⟩) hS.2.2 dX12_both_33
    · have g_57 : gi r_44 0 0 := gi_eq c_45 (gi_c 0 0 (by decide))
      refine lv_bipush (v := (-2)) hx hb dX12_both_16 (by decide) ?_
      exact W.iret (v := (-2)) hx hb hr (fun t ht hW => ⟨⟨(-2), (), rfl, (gi_w (gi_c (-2) (-2) (by decide)) (by decide)), (mi 37), fm_must, fm_least, fm_pin, fm_ways, gmi_37, by rw [ht]; exact hP, hD⟩, hS.F ht⟩) hS.2.2 dX12_both_18
theorem dX12_blind_0 : decode cX12_blind 0 = .ok (.aload_n 0, 1) := by decide +kernel
theorem dX12_blind_1 : decode cX12_blind 1 = .ok (.iload_n 1, 1) := by decide +kernel
theorem dX12_blind_2 : decode cX12_blind 2 = .ok (.invokevirtual 359, 3) := by decide +kernel
theorem dX12_blind_5 : decode cX12_blind 5 = .ok (.ifCond .eq 19, 3) := by decide +kernel
theorem dX12_blind_8 : decode cX12_blind 8 = .ok (.iload_n 2, 1) := by decide +kernel
theorem dX12_blind_9 : decode cX12_blind 9 = .ok (.i2l, 1) := by decide +kernel
theorem dX12_blind_10 : decode cX12_blind 10 = .ok (.lconst 1, 1) := by decide +kernel
theorem dX12_blind_11 : decode cX12_blind 11 = .ok (.aload_n 0, 1) := by decide +kernel
theorem dX12_blind_12 : decode cX12_blind 12 = .ok (.getfield 117, 3) := by decide +kernel
theorem dX12_blind_15 : decode cX12_blind 15 = .ok (.iconst 1, 1) := by decide +kernel
theorem dX12_blind_16 : decode cX12_blind 16 = .ok (.isub, 1) := by decide +kernel
theorem dX12_blind_17 : decode cX12_blind 17 = .ok (.i2l, 1) := by decide +kernel
theorem dX12_blind_18 : decode cX12_blind 18 = .ok (.invokestatic 102, 3) := by decide +kernel
theorem dX12_blind_21 : decode cX12_blind 21 = .ok (.ifCond .ne 6, 3) := by decide +kernel
theorem dX12_blind_24 : decode cX12_blind 24 = .ok (.bipush (-2), 2) := by decide +kernel
theorem dX12_blind_26 : decode cX12_blind 26 = .ok (.ireturn, 1) := by decide +kernel
theorem dX12_blind_27 : decode cX12_blind 27 = .ok (.iconst 0, 1) := by decide +kernel
theorem dX12_blind_28 : decode cX12_blind 28 = .ok (.istore_n 3, 1) := by decide +kernel
theorem dX12_blind_29 : decode cX12_blind 29 = .ok (.iconst 0, 1) := by decide +kernel
theorem dX12_blind_30 : decode cX12_blind 30 = .ok (.istore 4, 2) := by decide +kernel
theorem dX12_blind_32 : decode cX12_blind 32 = .ok (.iload 4, 2) := by decide +kernel
theorem dX12_blind_34 : decode cX12_blind 34 = .ok (.aload_n 0, 1) := by decide +kernel
theorem dX12_blind_35 : decode cX12_blind 35 = .ok (.getfield 141, 3) := by decide +kernel
theorem dX12_blind_38 : decode cX12_blind 38 = .ok (.if_icmp .ge 48, 3) := by decide +kernel
theorem dX12_blind_41 : decode cX12_blind 41 = .ok (.aload_n 0, 1) := by decide +kernel
theorem dX12_blind_42 : decode cX12_blind 42 = .ok (.iload 4, 2) := by decide +kernel
theorem dX12_blind_44 : decode cX12_blind 44 = .ok (.iload_n 1, 1) := by decide +kernel
theorem dX12_blind_45 : decode cX12_blind 45 = .ok (.invokevirtual 341, 3) := by decide +kernel
theorem dX12_blind_48 : decode cX12_blind 48 = .ok (.ifCond .eq 32, 3) := by decide +kernel
theorem dX12_blind_51 : decode cX12_blind 51 = .ok (.aload_n 0, 1) := by decide +kernel
theorem dX12_blind_52 : decode cX12_blind 52 = .ok (.getfield 26, 3) := by decide +kernel
theorem dX12_blind_55 : decode cX12_blind 55 = .ok (.iload 4, 2) := by decide +kernel
theorem dX12_blind_57 : decode cX12_blind 57 = .ok (.iaload, 1) := by decide +kernel
theorem dX12_blind_58 : decode cX12_blind 58 = .ok (.iload_n 2, 1) := by decide +kernel
theorem dX12_blind_59 : decode cX12_blind 59 = .ok (.if_icmp .eq 6, 3) := by decide +kernel
theorem dX12_blind_62 : decode cX12_blind 62 = .ok (.goto 18, 3) := by decide +kernel
theorem dX12_blind_65 : decode cX12_blind 65 = .ok (.aload_n 0, 1) := by decide +kernel
theorem dX12_blind_66 : decode cX12_blind 66 = .ok (.getfield 19, 3) := by decide +kernel
theorem dX12_blind_69 : decode cX12_blind 69 = .ok (.iload 4, 2) := by decide +kernel
theorem dX12_blind_71 : decode cX12_blind 71 = .ok (.iaload, 1) := by decide +kernel
theorem dX12_blind_72 : decode cX12_blind 72 = .ok (.iconst 2, 1) := by decide +kernel
theorem dX12_blind_73 : decode cX12_blind 73 = .ok (.if_icmp .eq 5, 3) := by decide +kernel
theorem dX12_blind_76 : decode cX12_blind 76 = .ok (.iconst 0, 1) := by decide +kernel
theorem dX12_blind_77 : decode cX12_blind 77 = .ok (.ireturn, 1) := by decide +kernel
theorem dX12_blind_78 : decode cX12_blind 78 = .ok (.iconst 1, 1) := by decide +kernel
theorem dX12_blind_79 : decode cX12_blind 79 = .ok (.istore_n 3, 1) := by decide +kernel
theorem dX12_blind_80 : decode cX12_blind 80 = .ok (.iinc 4 1, 3) := by decide +kernel
theorem dX12_blind_83 : decode cX12_blind 83 = .ok (.goto (-51), 3) := by decide +kernel
theorem dX12_blind_86 : decode cX12_blind 86 = .ok (.iload_n 3, 1) := by decide +kernel
theorem dX12_blind_87 : decode cX12_blind 87 = .ok (.ifCond .eq 7, 3) := by decide +kernel
theorem dX12_blind_90 : decode cX12_blind 90 = .ok (.iconst 1, 1) := by decide +kernel
theorem dX12_blind_91 : decode cX12_blind 91 = .ok (.goto 4, 3) := by decide +kernel
theorem dX12_blind_94 : decode cX12_blind 94 = .ok (.iconst 0, 1) := by decide +kernel
theorem dX12_blind_95 : decode cX12_blind 95 = .ok (.ireturn, 1) := by decide +kernel
set_option maxHeartbeats 4000000 in
set_option maxRecDepth 100000 in
theorem lp_sX12_blind {p : Program} {l : Launch} {e : Env} {R : Room} {s : State} {m : MethodId} {args : Array Value} {below : List Frame} {meth : Method} {c : Code} {Q : State → Prop} {A : Nat → Prop} {cells slots : Nat} {dC : Nat → ClassId} {dI : Nat → Nat → Nat} (h0 : Nat) (mi : Nat → Int32) (mr : Nat → Nat) (km_must : ClassId) (fm_must : Nat → Int32) (km_least : ClassId) (fm_least : Nat → Int32) (km_pin : ClassId) (fm_pin : Nat → Int32) (km_ways : ClassId) (fm_ways : Nat → Int32) (km_verdict : ClassId) (fm_verdict : Nat → Int32) (km_row : ClassId) (fm_row : Nat → Int32) (km_struck : ClassId) (fm_struck : Nat → Int32) (km_reportKnown : ClassId) (fm_reportKnown : Nat → Int32) (km_reportPlace : ClassId) (fm_reportPlace : Nat → Int32) (km_reportMonth : ClassId) (fm_reportMonth : Nat → Int32) (km_reportDay : ClassId) (fm_reportDay : Nat → Int32) (km_reportKind : ClassId) (fm_reportKind : Nat → Int32) (km_trust : ClassId) (fm_trust : Nat → Int32) (km_letter : ClassId) (fm_letter : Nat → Int32) (p1 : Int32) (p2 : Int32) (gmi_0 : gi (mi 0) 0 24) (gmi_1 : gi (mi 1) 0 5) (gmi_2 : gi (mi 2) 0 5) (gmi_4 : gi (mi 4) 0 1) (gmi_7 : gi (mi 7) 0 6) (gmi_10 : gi (mi 10) 0 24) (gmi_17 : gi (mi 17) 0 8) (gmi_23 : gi (mi 23) 0 300) (gmi_24 : gi (mi 24) 0 1) (gmi_26 : gi (mi 26) 0 1600) (gmi_29 : gi (mi 29) 0 1600) (gmi_30 : gi (mi 30) 0 1600) (gmi_33 : gi (mi 33) 0 1) (gmi_37 : gi (mi 37) 0 1) (gmi_41 : gi (mi 41) 0 24) (gmi_50 : gi (mi 50) 0 1) (gmi_51 : gi (mi 51) 0 1) (gmi_56 : gi (mi 56) 0 80) (gfm_row : ga fm_row 24 0 23) (gfm_struck : ga fm_struck 24 0 1) (gfm_reportKnown : ga fm_reportKnown 24 0 999) (gfm_reportPlace : ga fm_reportPlace 24 0 5) (gfm_reportMonth : ga fm_reportMonth 24 0 23) (gfm_reportDay : ga fm_reportDay 24 0 999) (hx : p.tables.exec = Jvm.exec) (hb : c.code = cX12_blind) (hml : c.maxLocals = 5) (hown : s.vm.findClass RX12 = some m.cls) (hts : ∀ w ∈ ((.code yX12_blind cX12_blind 5 (some .int) :: wsGB) : List Cond), w.before args s = true) (hK : va_K (dC, dI) vwCl [(km_must, .int), (km_least, .int), (km_pin, .int), (km_ways, .int), (km_verdict, .int), (km_row, .int), (km_struck, .boolean), (km_reportKnown, .int), (km_reportPlace, .int), (km_reportMonth, .int), (km_reportDay, .int), (km_reportKind, .int), (km_trust, .int), (km_letter, .int)] s) (hRf : 2 ≤ R.frames) (hRl : 46 ≤ R.locals) (hRc : cells ≤ R.cells) (hRs : slots ≤ R.slots) (kr26 : ∀ (v : Int32) (H : Heap) (locs : List Loc) (ls : Array Slot), gi v (-2) (-2) → va_P (dC, dI) vwCl [(h0, .inr (12, fsMM mi mr)), ((mr 14), .inl (km_must, 25, .inl fm_must)), ((mr 15), .inl (km_least, 25, .inl fm_least)), ((mr 16), .inl (km_pin, 25, .inl fm_pin)), ((mr 17), .inl (km_ways, 6875, .inl fm_ways)), ((mr 18), .inl (km_verdict, 24, .inl fm_verdict)), ((mr 19), .inl (km_row, 24, .inl fm_row)), ((mr 4), .inl (km_struck, 24, .inl fm_struck)), ((mr 7), .inl (km_reportKnown, 24, .inl fm_reportKnown)), ((mr 2), .inl (km_reportPlace, 24, .inl fm_reportPlace)), ((mr 5), .inl (km_reportMonth, 24, .inl fm_reportMonth)), ((mr 6), .inl (km_reportDay, 24, .inl fm_reportDay)), ((mr 3), .inl (km_reportKind, 24, .inl fm_reportKind)), ((mr 0), .inl (km_trust, 6, .inl fm_trust)), ((mr 1), .inl (km_letter, 36, .inl fm_letter))] H → va_S A s.heap H locs → lv_has ls 5 [] → W p l e R s m args below meth c H locs cells slots Q (F0 m 26 ls [.int v])) (kr95 : ∀ (v : Int32) (H : Heap) (locs : List Loc) (ls : Array Slot), gi v 0 1 → va_P (dC, dI) vwCl [(h0, .inr (12, fsMM mi mr)), ((mr 14), .inl (km_must, 25, .inl fm_must)), ((mr 15), .inl (km_least, 25, .inl fm_least)), ((mr 16), .inl (km_pin, 25, .inl fm_pin)), ((mr 17), .inl (km_ways, 6875, .inl fm_ways)), ((mr 18), .inl (km_verdict, 24, .inl fm_verdict)), ((mr 19), .inl (km_row, 24, .inl fm_row)), ((mr 4), .inl (km_struck, 24, .inl fm_struck)), ((mr 7), .inl (km_reportKnown, 24, .inl fm_reportKnown)), ((mr 2), .inl (km_reportPlace, 24, .inl fm_reportPlace)), ((mr 5), .inl (km_reportMonth, 24, .inl fm_reportMonth)), ((mr 6), .inl (km_reportDay, 24, .inl fm_reportDay)), ((mr 3), .inl (km_reportKind, 24, .inl fm_reportKind)), ((mr 0), .inl (km_trust, 6, .inl fm_trust)), ((mr 1), .inl (km_letter, 36, .inl fm_letter))] H → va_S A s.heap H locs → lv_has ls 5 [] → W p l e R s m args below meth c H locs cells slots Q (F0 m 95 ls [.int v])) (kr77 : ∀ (v : Int32) (H : Heap) (locs : List Loc) (ls : Array Slot), gi v 0 0 → va_P (dC, dI) vwCl [(h0, .inr (12, fsMM mi mr)), ((mr 14), .inl (km_must, 25, .inl fm_must)), ((mr 15), .inl (km_least, 25, .inl fm_least)), ((mr 16), .inl (km_pin, 25, .inl fm_pin)), ((mr 17), .inl (km_ways, 6875, .inl fm_ways)), ((mr 18), .inl (km_verdict, 24, .inl fm_verdict)), ((mr 19), .inl (km_row, 24, .inl fm_row)), ((mr 4), .inl (km_struck, 24, .inl fm_struck)), ((mr 7), .inl (km_reportKnown, 24, .inl fm_reportKnown)), ((mr 2), .inl (km_reportPlace, 24, .inl fm_reportPlace)), ((mr 5), .inl (km_reportMonth, 24, .inl fm_reportMonth)), ((mr 6), .inl (km_reportDay, 24, .inl fm_reportDay)), ((mr 3), .inl (km_reportKind, 24, .inl fm_reportKind)), ((mr 0), .inl (km_trust, 6, .inl fm_trust)), ((mr 1), .inl (km_letter, 36, .inl fm_letter))] H → va_S A s.heap H locs → lv_has ls 5 [] → W p l e R s m args below meth c H locs cells slots Q (F0 m 77 ls [.int v])) : ∀ z : Nat, (∀ (v3 : Int32) (v4 : Int32) (H : Heap) (locs : List Loc) (ls : Array Slot), gi p1 0 999 → gi p2 1 23 → gi v3 0 1 → gi v4 0 24 → 49 + (-2) * v4.toInt < (z : Int) → va_P (dC, dI) vwCl [(h0, .inr (12, fsMM mi mr)), ((mr 14), .inl (km_must, 25, .inl fm_must)), ((mr 15), .inl (km_least, 25, .inl fm_least)), ((mr 16), .inl (km_pin, 25, .inl fm_pin)), ((mr 17), .inl (km_ways, 6875, .inl fm_ways)), ((mr 18), .inl (km_verdict, 24, .inl fm_verdict)), ((mr 19), .inl (km_row, 24, .inl fm_row)), ((mr 4), .inl (km_struck, 24, .inl fm_struck)), ((mr 7), .inl (km_reportKnown, 24, .inl fm_reportKnown)), ((mr 2), .inl (km_reportPlace, 24, .inl fm_reportPlace)), ((mr 5), .inl (km_reportMonth, 24, .inl fm_reportMonth)), ((mr 6), .inl (km_reportDay, 24, .inl fm_reportDay)), ((mr 3), .inl (km_reportKind, 24, .inl fm_reportKind)), ((mr 0), .inl (km_trust, 6, .inl fm_trust)), ((mr 1), .inl (km_letter, 36, .inl fm_letter))] H → va_S A s.heap H locs → lv_has ls 5 [(0, .ref h0), (1, .int p1), (2, .int p2), (3, .int v3), (4, .int v4)] → W p l e R s m args below meth c H locs cells slots Q (F0 m 32 ls [])) := by
  intro z
  induction z with
  | zero =>
    intro v3 v4 H locs ls gf_p1 gf_p2 gv3 gv4 hmu hP hS hl
    exact absurd hmu (by have hv41 := gv4.1; have hv42 := gv4.2; omega)
  | succ z ih =>
      intro v3 v4 H locs ls gf_p1 gf_p2 gv3 gv4 hmu hP hS hl
      refine lv_iload hx hb dX12_blind_32 (lv_at hl 4 rfl) ?_
      refine lv_aload_n hx hb dX12_blind_34 rfl (lv_at hl 0 rfl) ?_
      refine va_get (D := (dC, dI)) (ci := 12) (v := .int (mi 10)) (C := RX12) (T := TX12) (N := 57) hx hb hts (fun w h => List.mem_cons_of_mem _ (jnGB_X12 w h)) hown hK hP 0 rfl rfl 10 (by decide) (hts _ (List.mem_cons_of_mem _ mGB_111)) (fun _ h9 => h9) rfl dX12_blind_35 ?_
      refine lv_icmp_ge (tgt := 86) hx hb dX12_blind_38 (by decide) (fun c_479 => ?_) (fun c_479 => ?_)
      · refine lv_iload_n hx hb dX12_blind_86 rfl (lv_at hl 3 rfl) ?_
        refine lv_if_eq (tgt := 94) hx hb dX12_blind_87 (by decide) (fun c_480 => ?_) (fun c_480 => ?_)
        · have g_481 : gi v3 0 0 := gi_eq c_480 (gi_c 0 0 (by decide))
          refine lv_iconst (v := 0) hx hb dX12_blind_94 (by decide) ?_
          exact kr95 0 _ _ _ (gi_w (gi_c 0 0 (by decide)) (by decide)) hP hS (lv_sub hl [] rfl)
        · have g_482 : gi v3 1 1 := gi_ne_lo c_480 gv3 (gi_c 0 0 (by decide)) (by decide)
          refine lv_iconst (v := 1) hx hb dX12_blind_90 (by decide) ?_
          refine lv_goto (tgt := 95) hx hb dX12_blind_91 (by decide) ?_
          exact kr95 1 _ _ _ (gi_w (gi_c 1 1 (by decide)) (by decide)) hP hS (lv_sub hl [] rfl)
      · have g_483 : gi v4 0 23 := gi_lt_l (Int32.not_le.mp c_479) gv4 gmi_10 (by decide)
        have g_484 : gi (mi 10) 1 24 := gi_lt_r (Int32.not_le.mp c_479) gv4 gmi_10 (by decide)
        refine lv_aload_n hx hb dX12_blind_41 rfl (lv_at hl 0 rfl) ?_
        refine lv_iload hx hb dX12_blind_42 (lv_at hl 4 rfl) ?_
        refine lv_iload_n hx hb dX12_blind_44 rfl (lv_at hl 1 rfl) ?_
        have hPc := hP.sub (ws' := [(h0, .inr (12, fsMM mi mr)), ((mr 4), .inl (km_struck, 24, .inl fm_struck)), ((mr 7), .inl (km_reportKnown, 24, .inl fm_reportKnown))]) [0, 7, 8] rfl
        have hKc := hK.sub (tys' := [(km_struck, .boolean), (km_reportKnown, .int)]) [6, 7] rfl
        refine va_calli (va_runV (As := [.int v4, .int p1]) (rest := []) ⟨hx, hb, hml, hown, hts⟩ (sX12_isKnown l dC dI h0 mi mr km_struck fm_struck km_reportKnown fm_reportKnown v4 p1 gmi_0 gmi_1 gmi_2 gmi_4 gmi_7 (gi_w g_484 (by decide)) gmi_17 gmi_23 gmi_24 gmi_26 gmi_29 gmi_30 gmi_33 gmi_37 gmi_41 gmi_50 gmi_51 gmi_56 gfm_struck gfm_reportKnown g_483) (cwV 2 hts (gz_gV mGB_279 mGB_280 mGB_281 mGB_1 mGB_282 goodGB) rfl rfl rfl (by decide +kernel) ⟨Nat.le_trans (Nat.le_of_ble_eq_true rfl) hRf, Nat.le_trans (Nat.le_of_ble_eq_true rfl) hRl⟩) ⟨fun a U g mk q => by obtain ⟨q0, qP, qK⟩ := q; exact ⟨q0, qP, va_K.moved (u := U) (U := U.calling g mk a) (Vm.Alike.refl U.vm) qK⟩, va_recv hKc hPc (ci := 12) (q0 := 0) rfl rfl, fun U hU hW => ⟨rfl, by rw [hU]; exact hPc, va_K.moved hW.alike hKc⟩⟩ rfl rfl hl.1 rfl (lv_room (Nat.le_of_ble_eq_true rfl)) dX12_blind_45 ⟨hRc, hRs⟩) hS (fun q _ h => h.elim) (fun q h => h.elim) (fun r_485 u t H1 locs ht hvm hw hB hz1 hk1 hS => ?_)
        have hP := gz_keep hP hk1
        generalize H1 = H at hP hS ⊢
        have gr_485 : gi r_485 0 1 := hw
        refine lv_if_eq (tgt := 80) hx hb dX12_blind_48 (by decide) (fun c_486 => ?_) (fun c_486 => ?_)
        · have g_487 : gi r_485 0 0 := gi_eq c_486 (gi_c 0 0 (by decide))
          obtain ⟨x_488, ex_488⟩ : ∃ y : Int32, y = v4 + 1 := ⟨_, rfl⟩
          have gx_488 : gi x_488 1 24 := gi_add ex_488 g_483 (gi_c 1 1 (by decide)) (by decide)
          refine lv_iinc (v := x_488) (lv' := [(4, .int x_488), (0, .ref h0), (1, .int p1), (2, .int p2), (3, .int v3)]) hx hb dX12_blind_80 hl (k := 4) rfl (by rw [ex_488]; rfl) (by decide) rfl (fun ls hl => ?_)
          refine lv_goto (tgt := 32) hx hb dX12_blind_83 (by decide) ?_
          exact ih v3 x_488 _ _ _ gf_p1 gf_p2 gv3 (gi_w gx_488 (by decide)) (by have av4 := gv4.1; have bv4 := gv4.2; have qgx_488 := gx_488.1; have rgx_488 := gx_488.2; have igx_488 : x_488.toInt = v4.toInt + 1 := (by have hc1 : (1 : Int32).toInt = 1 := (by decide); have h9 := gi_addI ex_488 (by have h1 := g_483.1; have h2 := (gi_c 1 1 (by decide)).1; have h3 := g_483.2; have h4 := (gi_c 1 1 (by decide)).2; omega) (by have h1 := g_483.1; have h2 := (gi_c 1 1 (by decide)).1; have h3 := g_483.2; have h4 := (gi_c 1 1 (by decide)).2; omega); rw [hc1] at h9; exact h9); have qgv4 := g_483.1; have rgv4 := g_483.2; omega) hP hS (lv_sub hl [1, 2, 3, 4, 0] rfl)
        · have g_489 : gi r_485 1 1 := gi_ne_lo c_486 gr_485 (gi_c 0 0 (by decide)) (by decide)
          refine lv_aload_n hx hb dX12_blind_51 rfl (lv_at hl 0 rfl) ?_
          refine va_get (D := (dC, dI)) (ci := 12) (v := .ref (mr 5)) (C := RX12) (T := TX12) (N := 57) hx hb hts (fun w h => List.mem_cons_of_mem _ (jnGB_X12 w h)) hown hK hP 0 rfl rfl 14 (by decide) (hts _ (List.mem_cons_of_mem _ mGB_16)) (fun _ h9 => h9) rfl dX12_blind_52 ?_
          refine lv_iload hx hb dX12_blind_55 (lv_at hl 4 rfl) ?_
          refine va_iald hx hb hK hP 10 9 rfl rfl (gi_in g_483 (by decide)) dX12_blind_57 ?_
          refine lv_topi (fun x_490 ex_490 => ?_)
          have gx_490 : gi x_490 0 23 := ga_at gfm_reportMonth (gi_in g_483 (by decide)) ex_490
          refine lv_iload_n hx hb dX12_blind_58 rfl (lv_at hl 2 rfl) ?_
          refine lv_icmp_eq (tgt := 65) hx hb dX12_blind_59 (by decide) (fun c_491 => ?_) (fun c_491 => ?_)
          · have g_492 : gi x_490 1 23 := gi_eq c_491 gf_p2
            refine lv_aload_n hx hb dX12_blind_65 rfl (lv_at hl 0 rfl) ?_
            refine va_get (D := (dC, dI)) (ci := 12) (v := .ref (mr 3)) (C := RX12) (T := TX12) (N := 57) hx hb hts (fun w h => List.mem_cons_of_mem _ (jnGB_X12 w h)) hown hK hP 0 rfl rfl 12 (by decide) (hts _ (List.mem_cons_of_mem _ mGB_13)) (fun _ h9 => h9) rfl dX12_blind_66 ?_
            refine lv_iload hx hb dX12_blind_69 (lv_at hl 4 rfl) ?_
            refine va_iald hx hb hK hP 12 11 rfl rfl (gi_in g_483 (by decide)) dX12_blind_71 ?_
            refine lv_topi (fun x_493 ex_493 => ?_)
            refine lv_iconst (v := 2) hx hb dX12_blind_72 (by decide) ?_
            refine lv_icmp_eq (tgt := 78) hx hb dX12_blind_73 (by decide) (fun c_494 => ?_) (fun c_494 => ?_)
            · have g_495 : gi x_493 2 2 := gi_eq c_494 (gi_c 2 2 (by decide))
              refine lv_iconst (v := 1) hx hb dX12_blind_78 (by decide) ?_
              refine lv_istore_n (lv' := [(3, .int 1), (0, .ref h0), (1, .int p1), (2, .int p2), (4, .int v4)]) hx hb dX12_blind_79 rfl hl (by decide) rfl (fun ls hl => ?_)
              obtain ⟨x_496, ex_496⟩ : ∃ y : Int32, y = v4 + 1 := ⟨_, rfl⟩
              have gx_496 : gi x_496 1 24 := gi_add ex_496 g_483 (gi_c 1 1 (by decide)) (by decide)
              refine lv_iinc (v := x_496) (lv' := [(4, .int x_496), (3, .int 1), (0, .ref h0), (1, .int p1), (2, .int p2)]) hx hb dX12_blind_80 hl (k := 4) rfl (by rw [ex_496]; rfl) (by decide) rfl (fun ls hl => ?_)
              refine lv_goto (tgt := 32) hx hb dX12_blind_83 (by decide) ?_
              exact ih 1 x_496 _ _ _ gf_p1 gf_p2 (gi_w (gi_c 1 1 (by decide)) (by decide)) (gi_w gx_496 (by decide)) (by have av4 := gv4.1; have bv4 := gv4.2; have qgx_496 := gx_496.1; have rgx_496 := gx_496.2; have igx_496 : x_496.toInt = v4.toInt + 1 := (by have hc1 : (1 : Int32).toInt = 1 := (by decide); have h9 := gi_addI ex_496 (by have h1 := g_483.1; have h2 := (gi_c 1 1 (by decide)).1; have h3 := g_483.2; have h4 := (gi_c 1 1 (by decide)).2; omega) (by have h1 := g_483.1; have h2 := (gi_c 1 1 (by decide)).1; have h3 := g_483.2; have h4 := (gi_c 1 1 (by decide)).2; omega); rw [hc1] at h9; exact h9); have qgv4 := g_483.1; have rgv4 := g_483.2; omega) hP hS (lv_sub hl [2, 3, 4, 1, 0] rfl)
            · refine lv_iconst (v := 0) hx hb dX12_blind_76 (by decide) ?_
              exact kr77 0 _ _ _ (gi_c 0 0 (by decide)) hP hS (lv_sub hl [] rfl)
          · refine lv_goto (tgt := 80) hx hb dX12_blind_62 (by decide) ?_
            obtain ⟨x_497, ex_497⟩ : ∃ y : Int32, y = v4 + 1 := ⟨_, rfl⟩
            have gx_497 : gi x_497 1 24 := gi_add ex_497 g_483 (gi_c 1 1 (by decide)) (by decide)
            refine lv_iinc (v := x_497) (lv' := [(4, .int x_497), (0, .ref h0), (1, .int p1), (2, .int p2), (3, .int v3)]) hx hb dX12_blind_80 hl (k := 4) rfl (by rw [ex_497]; rfl) (by decide) rfl (fun ls hl => ?_)
            refine lv_goto (tgt := 32) hx hb dX12_blind_83 (by decide) ?_
            exact ih v3 x_497 _ _ _ gf_p1 gf_p2 gv3 (gi_w gx_497 (by decide)) (by have av4 := gv4.1; have bv4 := gv4.2; have qgx_497 := gx_497.1; have rgx_497 := gx_497.2; have igx_497 : x_497.toInt = v4.toInt + 1 := (by have hc1 : (1 : Int32).toInt = 1 := (by decide); have h9 := gi_addI ex_497 (by have h1 := g_483.1; have h2 := (gi_c 1 1 (by decide)).1; have h3 := g_483.2; have h4 := (gi_c 1 1 (by decide)).2; omega) (by have h1 := g_483.1; have h2 := (gi_c 1 1 (by decide)).1; have h3 := g_483.2; have h4 := (gi_c 1 1 (by decide)).2; omega); rw [hc1] at h9; exact h9); have qgv4 := g_483.1; have rgv4 := g_483.2; omega) hP hS (lv_sub hl [1, 2, 3, 4, 0] rfl)
set_option maxHeartbeats 4000000 in
set_option maxRecDepth 100000 in
theorem sX12_blind (l : Launch) (dC : Nat → ClassId) (dI : Nat → Nat → Nat) (h0 : Nat) (mi : Nat → Int32) (mr : Nat → Nat) (km_must : ClassId) (fm_must : Nat → Int32) (km_least : ClassId) (fm_least : Nat → Int32) (km_pin : ClassId) (fm_pin : Nat → Int32) (km_ways : ClassId) (fm_ways : Nat → Int32) (km_verdict : ClassId) (fm_verdict : Nat → Int32) (km_row : ClassId) (fm_row : Nat → Int32) (km_struck : ClassId) (fm_struck : Nat → Int32) (km_reportKnown : ClassId) (fm_reportKnown : Nat → Int32) (km_reportPlace : ClassId) (fm_reportPlace : Nat → Int32) (km_reportMonth : ClassId) (fm_reportMonth : Nat → Int32) (km_reportDay : ClassId) (fm_reportDay : Nat → Int32) (km_reportKind : ClassId) (fm_reportKind : Nat → Int32) (km_trust : ClassId) (fm_trust : Nat → Int32) (km_letter : ClassId) (fm_letter : Nat → Int32) (p1 : Int32) (p2 : Int32) (gmi_0 : gi (mi 0) 0 24) (gmi_1 : gi (mi 1) 0 5) (gmi_2 : gi (mi 2) 0 5) (gmi_4 : gi (mi 4) 0 1) (gmi_7 : gi (mi 7) 0 6) (gmi_10 : gi (mi 10) 0 24) (gmi_17 : gi (mi 17) 0 8) (gmi_23 : gi (mi 23) 0 300) (gmi_24 : gi (mi 24) 0 1) (gmi_26 : gi (mi 26) 0 1600) (gmi_29 : gi (mi 29) 0 1600) (gmi_30 : gi (mi 30) 0 1600) (gmi_33 : gi (mi 33) 0 1) (gmi_37 : gi (mi 37) 0 1) (gmi_41 : gi (mi 41) 0 24) (gmi_50 : gi (mi 50) 0 1) (gmi_51 : gi (mi 51) 0 1) (gmi_56 : gi (mi 56) 0 80) (gfm_row : ga fm_row 24 0 23) (gfm_struck : ga fm_struck 24 0 1) (gfm_reportKnown : ga fm_reportKnown 24 0 999) (gfm_reportPlace : ga fm_reportPlace 24 0 5) (gfm_reportMonth : ga fm_reportMonth 24 0 23) (gfm_reportDay : ga fm_reportDay 24 0 999) : Met l yX12_blind (.code yX12_blind cX12_blind 5 (some .int) :: wsGB) ({ frames := 2, cells := 0, slots := 0, locals := 46 }) (va_Pc [.ref h0, .int p1, .int p2] (fun U => va_P (dC, dI) vwCl [(h0, .inr (12, fsMM mi mr)), ((mr 14), .inl (km_must, 25, .inl fm_must)), ((mr 15), .inl (km_least, 25, .inl fm_least)), ((mr 16), .inl (km_pin, 25, .inl fm_pin)), ((mr 17), .inl (km_ways, 6875, .inl fm_ways)), ((mr 18), .inl (km_verdict, 24, .inl fm_verdict)), ((mr 19), .inl (km_row, 24, .inl fm_row)), ((mr 4), .inl (km_struck, 24, .inl fm_struck)), ((mr 7), .inl (km_reportKnown, 24, .inl fm_reportKnown)), ((mr 2), .inl (km_reportPlace, 24, .inl fm_reportPlace)), ((mr 5), .inl (km_reportMonth, 24, .inl fm_reportMonth)), ((mr 6), .inl (km_reportDay, 24, .inl fm_reportDay)), ((mr 3), .inl (km_reportKind, 24, .inl fm_reportKind)), ((mr 0), .inl (km_trust, 6, .inl fm_trust)), ((mr 1), .inl (km_letter, 36, .inl fm_letter))] U.heap ∧ va_K (dC, dI) vwCl [(km_must, .int), (km_least, .int), (km_pin, .int), (km_ways, .int), (km_verdict, .int), (km_row, .int), (km_struck, .boolean), (km_reportKnown, .int), (km_reportPlace, .int), (km_reportMonth, .int), (km_reportDay, .int), (km_reportKind, .int), (km_trust, .int), (km_letter, .int)] U)) (va_Qi (fun (r : Int32) (u : Unit) => gi r (-2) 1) (fun _ _ => True) (fun _ => False)) 0 0 (fun _ => False) := by
  refine Met.ofW (cc := cX12_blind) (maxL := 5) (ret := (some .int)) (by decide) rfl ?_
  intro p e s m args below meth c s₁ B hml hv
  obtain ⟨rfl, hP, hK⟩ := hv
  have hx := B.exec
  have hb := B.bytes
  have hr := B.returns
  have hts := atoms_spec (ws := (.code yX12_blind cX12_blind 5 (some .int) :: wsGB)) B.pre
  have hown : s.vm.findClass RX12 = some m.cls := findClass_of_methodNamed B.named
  have hlocks := B.notSynchronized
  have hS : va_S (fun _ => False) s.heap s.heap [] := va_S.rf
  have hl := lv_entry ([.ref h0, .int p1, .int p2]) (n := 5) (Nat.le_of_ble_eq_true rfl)
  rw [lg_entry_eq]
  generalize (lg_sl ([.ref h0, .int p1, .int p2]) ++ List.replicate (5 - (lg_sl ([.ref h0, .int p1, .int p2])).length) Slot.unset).toArray = ls at hl ⊢
  have hl : lv_has ls 5 [(0, .ref h0), (1, .int p1), (2, .int p2)] := hl
  refine lv_aload_n hx hb dX12_blind_0 rfl (lv_at hl 0 rfl) ?_
  refine lv_iload_n hx hb dX12_blind_1 rfl (lv_at hl 1 rfl) ?_
  have hPc := hP.sub (ws' := [(h0, .inr (12, fsMM mi mr))]) [0] rfl
  have hKc := hK.sub (tys' := []) [] rfl
  refine va_calli (va_runV (As := [.int p1]) (rest := []) ⟨hx, hb, hml, hown, hts⟩ (sX12_isTime l dC dI h0 mi mr p1 gmi_0 gmi_1 gmi_2 gmi_4 gmi_7 gmi_10 gmi_17 gmi_23 gmi_24 gmi_26 gmi_29 gmi_30 gmi_33 gmi_37 gmi_41 gmi_50 gmi_51 gmi_56) (cwV 1 hts (gz_gV mGB_256 mGB_257 mGB_258 mGB_1 mGB_259 goodGB) rfl rfl rfl (by decide +kernel) ⟨Nat.le_of_ble_eq_true rfl, Nat.le_of_ble_eq_true rfl⟩) ⟨fun a U g mk q => by obtain ⟨q0, qP, qK⟩ := q; exact ⟨q0, qP, va_K.moved (u := U) (U := U.calling g mk a) (Vm.Alike.refl U.vm) qK⟩, va_recv hKc hPc (ci := 12) (q0 := 0) rfl rfl, fun U hU hW => ⟨rfl, by rw [hU]; exact hPc, va_K.moved hW.alike hKc⟩⟩ rfl rfl hl.1 rfl (lv_room (Nat.le_of_ble_eq_true rfl)) dX12_blind_2 ⟨Nat.zero_le _, Nat.zero_le _⟩) hS (fun q _ h => h.elim) (fun q h => h.elim) (fun r_498 u t H1 locs ht hvm hw hB hz1 hk1 hS => ?_)
  have hP := gz_keep hP hk1
  generalize H1 = H at hP hS ⊢
  have gr_498 : gi r_498 0 1 := hw.1
  have hqr_498 := hw.2
  refine lv_if_eq (tgt := 24) hx hb dX12_blind_5 (by decide) (fun c_499 => ?_) (fun c_499 => ?_)
  · have g_500 : gi r_498 0 0 := gi_eq c_499 (gi_c 0 0 (by decide))
    refine lv_bipush (v := (-2)) hx hb dX12_blind_24 (by decide) ?_
    exact W.iret (v := (-2)) hx hb hr (fun t ht hW => ⟨⟨(-2), (), rfl, (gi_w (gi_c (-2) (-2) (by decide)) (by decide)), trivial⟩, hS.F ht⟩) hS.2.2 dX12_blind_26
  · have g_501 : gi r_498 1 1 := gi_ne_lo c_499 gr_498 (gi_c 0 0 (by decide)) (by decide)
    have g_502 : gi p1 0 999 := gi_cap (gi_any p1) (hqr_498 (gz_one g_501)) (by decide)
    refine lv_iload_n hx hb dX12_blind_8 rfl (lv_at hl 2 rfl) ?_
    refine lv_i2l (v := (p2).toInt64) hx hb dX12_blind_9 rfl ?_
    refine lv_topl (fun l_503 el_503 => ?_)
    refine lv_lconst (v := 1) hx hb dX12_blind_10 (by decide) ?_
    refine lv_aload_n hx hb dX12_blind_11 rfl (lv_at hl 0 rfl) ?_
    refine va_get (D := (dC, dI)) (ci := 12) (v := .int (mi 0)) (C := RX12) (T := TX12) (N := 57) hx hb hts (fun w h => List.mem_cons_of_mem _ (jnGB_X12 w h)) hown hK hP 0 rfl rfl 0 (by decide) (hts _ (List.mem_cons_of_mem _ mGB_103)) (fun _ h9 => h9) rfl dX12_blind_12 ?_
    refine lv_iconst (v := 1) hx hb dX12_blind_15 (by decide) ?_
    refine lv_isub hx hb dX12_blind_16 ?_
    refine lv_topi (fun x_504 ex_504 => ?_)
    have gx_504 : gi x_504 (-1) 23 := gi_sub ex_504 gmi_0 (gi_c 1 1 (by decide)) (by decide)
    refine lv_i2l (v := (x_504).toInt64) hx hb dX12_blind_17 rfl ?_
    refine lv_topl (fun l_505 el_505 => ?_)
    have hPc := hP.sub (ws' := []) [] rfl
    have hKc := hK.sub (tys' := []) [] rfl
    refine va_calli (va_runS (As := [.long l_503, .long 1, .long l_505]) (rest := []) ⟨hx, hb, hml, hown, hts⟩ (sX12_in l dC dI l_503 1 l_505) (cwS 3 hts (gz_gS mGB_47 mGB_48 mGB_1 mGB_49 goodGB) rfl rfl rfl (by decide +kernel) ⟨Nat.le_of_ble_eq_true rfl, Nat.le_of_ble_eq_true rfl⟩) ⟨fun a U g mk q => by obtain ⟨q0, qP, qK⟩ := q; exact ⟨q0, qP, va_K.moved (u := U) (U := U.calling g mk a) (Vm.Alike.refl U.vm) qK⟩, fun U hU hW => ⟨rfl, by rw [hU]; exact hPc, va_K.moved hW.alike hKc⟩⟩ rfl rfl hl.1 rfl (lv_room (Nat.le_of_ble_eq_true rfl)) dX12_blind_18 ⟨Nat.zero_le _, Nat.zero_le _⟩) hS (fun q _ h => h.elim) (fun q h => h.elim) (fun r_506 u t H1 locs ht hvm hw hB hz1 hk1 hS => ?_)
    obtain ⟨hw, hE⟩ := hw
    have hP := gz_keep hP hk1
    generalize H1 = H at hP hS ⊢
    have gr_506 : gi r_506 0 1 := hw.1
    have hqr_506 := hw.2
    refine lv_if_ne (tgt := 27) hx hb dX12_blind_21 (by decide) (fun c_507 => ?_) (fun c_507 => ?_)
    · have g_508 : gi r_506 1 1 := gi_ne_lo c_507 gr_506 (gi_c 0 0 (by decide)) (by decide)
      have g_509 : gi p2 1 23 := gi_cap (gi_any p2) (gz_inr (hqr_506.1 (gz_one g_508)) el_503 (A := 1) (B := 23) (by decide) (gz_l2u el_505 gx_504)) (by decide)
      refine lv_iconst (v := 0) hx hb dX12_blind_27 (by decide) ?_
      refine lv_istore_n (lv' := [(3, .int 0), (0, .ref h0), (1, .int p1), (2, .int p2)]) hx hb dX12_blind_28 rfl hl (by decide) rfl (fun ls hl => ?_)
      refine lv_iconst (v := 0) hx hb dX12_blind_29 (by decide) ?_
      refine lv_istore (lv' := [(4, .int 0), (3, .int 0), (0, .ref h0), (1, .int p1), (2, .int p2)]) hx hb dX12_blind_30 hl (by decide) rfl (fun ls hl => ?_)
      refine (lp_sX12_blind h0 mi mr km_must fm_must km_least fm_least km_pin fm_pin km_ways fm_ways km_verdict fm_verdict km_row fm_row km_struck fm_struck km_reportKnown fm_reportKnown km_reportPlace fm_reportPlace km_reportMonth fm_reportMonth km_reportDay fm_reportDay km_reportKind fm_reportKind km_trust fm_trust km_letter fm_letter p1 p2 gmi_0 gmi_1 gmi_2 gmi_4 gmi_7 gmi_10 gmi_17 gmi_23 gmi_24 gmi_26 gmi_29 gmi_30 gmi_33 gmi_37 gmi_41 gmi_50 gmi_51 gmi_56 gfm_row gfm_struck gfm_reportKnown gfm_reportPlace gfm_reportMonth gfm_reportDay hx hb hml hown hts hK (Nat.le_of_ble_eq_true rfl) (Nat.le_of_ble_eq_true rfl) (Nat.zero_le _) (Nat.zero_le _) (fun v H locs ls gv hP hS hl => ?_) (fun v H locs ls gv hP hS hl => ?_) (fun v H locs ls gv hP hS hl => ?_) 62) 0 0 _ _ _ g_502 g_509 (gi_w (gi_c 0 0 (by decide)) (by decide)) (gi_w (gi_c 0 0 (by decide)) (by decide)) (by have k0 : (0 : Int32).toInt = 0 := (by decide); omega) hP hS (lv_sub hl [2, 3, 4, 1, 0] rfl)
      · skip
        exact W.iret (v := v) hx hb hr (fun t ht hW => ⟨⟨v, (), rfl, (gi_w gv (by decide)), trivial⟩, hS.F ht⟩) hS.2.2 dX12_blind_26
      · skip
        exact W.iret (v := v) hx hb hr (fun t ht hW => ⟨⟨v, (), rfl, (gi_w gv (by decide)), trivial⟩, hS.F ht⟩) hS.2.2 dX12_blind_95
      · skip
        exact W.iret (v := v) hx hb hr (fun t ht hW => ⟨⟨v, (), rfl, (gi_w gv (by decide)), trivial⟩, hS.F ht⟩) hS.2.2 dX12_blind_77
    · have g_510 : gi r_506 0 0 := gi_eq c_507 (gi_c 0 0 (by decide))
      refine lv_bipush (v := (-2)) hx hb dX12_blind_24 (by decide) ?_
      exact W.iret (v := (-2)) hx hb hr (fun t ht hW => ⟨⟨(-2), (), rfl, (gi_w (gi_c (-2) (-2) (by decide)) (by decide)), trivial⟩, hS.F ht⟩) hS.2.2 dX12_blind_26
theorem dX12_later_0 : decode cX12_later 0 = .ok (.aload_n 0, 1) := by decide +kernel
theorem dX12_later_1 : decode cX12_later 1 = .ok (.iload_n 1, 1) := by decide +kernel
theorem dX12_later_2 : decode cX12_later 2 = .ok (.invokevirtual 359, 3) := by decide +kernel
theorem dX12_later_5 : decode cX12_later 5 = .ok (.ifCond .ne 6, 3) := by decide +kernel
theorem dX12_later_8 : decode cX12_later 8 = .ok (.bipush (-2), 2) := by decide +kernel
theorem dX12_later_10 : decode cX12_later 10 = .ok (.ireturn, 1) := by decide +kernel
theorem dX12_later_11 : decode cX12_later 11 = .ok (.aload_n 0, 1) := by decide +kernel
theorem dX12_later_12 : decode cX12_later 12 = .ok (.sipush 999, 3) := by decide +kernel
theorem dX12_later_15 : decode cX12_later 15 = .ok (.invokevirtual 362, 3) := by decide +kernel
theorem dX12_later_18 : decode cX12_later 18 = .ok (.iconst 0, 1) := by decide +kernel
theorem dX12_later_19 : decode cX12_later 19 = .ok (.istore_n 2, 1) := by decide +kernel
theorem dX12_later_20 : decode cX12_later 20 = .ok (.iconst 0, 1) := by decide +kernel
theorem dX12_later_21 : decode cX12_later 21 = .ok (.istore_n 3, 1) := by decide +kernel
theorem dX12_later_22 : decode cX12_later 22 = .ok (.iload_n 3, 1) := by decide +kernel
theorem dX12_later_23 : decode cX12_later 23 = .ok (.aload_n 0, 1) := by decide +kernel
theorem dX12_later_24 : decode cX12_later 24 = .ok (.getfield 141, 3) := by decide +kernel
theorem dX12_later_27 : decode cX12_later 27 = .ok (.if_icmp .ge 37, 3) := by decide +kernel
theorem dX12_later_30 : decode cX12_later 30 = .ok (.iload_n 2, 1) := by decide +kernel
theorem dX12_later_31 : decode cX12_later 31 = .ok (.aload_n 0, 1) := by decide +kernel
theorem dX12_later_32 : decode cX12_later 32 = .ok (.getfield 69, 3) := by decide +kernel
theorem dX12_later_35 : decode cX12_later 35 = .ok (.iload_n 3, 1) := by decide +kernel
theorem dX12_later_36 : decode cX12_later 36 = .ok (.iaload, 1) := by decide +kernel
theorem dX12_later_37 : decode cX12_later 37 = .ok (.ifCond .ne 18, 3) := by decide +kernel
theorem dX12_later_40 : decode cX12_later 40 = .ok (.aload_n 0, 1) := by decide +kernel
theorem dX12_later_41 : decode cX12_later 41 = .ok (.iload_n 3, 1) := by decide +kernel
theorem dX12_later_42 : decode cX12_later 42 = .ok (.iload_n 1, 1) := by decide +kernel
theorem dX12_later_43 : decode cX12_later 43 = .ok (.invokevirtual 341, 3) := by decide +kernel
theorem dX12_later_46 : decode cX12_later 46 = .ok (.ifCond .ne 9, 3) := by decide +kernel
theorem dX12_later_49 : decode cX12_later 49 = .ok (.iconst 1, 1) := by decide +kernel
theorem dX12_later_50 : decode cX12_later 50 = .ok (.iload_n 3, 1) := by decide +kernel
theorem dX12_later_51 : decode cX12_later 51 = .ok (.ishl, 1) := by decide +kernel
theorem dX12_later_52 : decode cX12_later 52 = .ok (.goto 4, 3) := by decide +kernel
theorem dX12_later_55 : decode cX12_later 55 = .ok (.iconst 0, 1) := by decide +kernel
theorem dX12_later_56 : decode cX12_later 56 = .ok (.ior, 1) := by decide +kernel
theorem dX12_later_57 : decode cX12_later 57 = .ok (.istore_n 2, 1) := by decide +kernel
theorem dX12_later_58 : decode cX12_later 58 = .ok (.iinc 3 1, 3) := by decide +kernel
theorem dX12_later_61 : decode cX12_later 61 = .ok (.goto (-39), 3) := by decide +kernel
theorem dX12_later_64 : decode cX12_later 64 = .ok (.iload_n 2, 1) := by decide +kernel
theorem dX12_later_65 : decode cX12_later 65 = .ok (.ireturn, 1) := by decide +kernel
set_option maxHeartbeats 4000000 in
set_option maxRecDepth 100000 in
theorem lp_sX12_later {p : Program} {l : Launch} {e : Env} {R : Room} {s : State} {m : MethodId} {args : Array Value} {below : List Frame} {meth : Method} {c : Code} {Q : State → Prop} {A : Nat → Prop} {cells slots : Nat} {dC : Nat → ClassId} {dI : Nat → Nat → Nat} (h0 : Nat) (mi : Nat → Int32) (mr : Nat → Nat) (km_must : ClassId) (fm_must : Nat → Int32) (km_least : ClassId) (fm_least : Nat → Int32) (km_pin : ClassId) (fm_pin : Nat → Int32) (km_ways : ClassId) (fm_ways : Nat → Int32) (km_verdict : ClassId) (fm_verdict : Nat → Int32) (km_row : ClassId) (fm_row : Nat → Int32) (km_struck : ClassId) (fm_struck : Nat → Int32) (km_reportKnown : ClassId) (fm_reportKnown : Nat → Int32) (km_reportPlace : ClassId) (fm_reportPlace : Nat → Int32) (km_reportMonth : ClassId) (fm_reportMonth : Nat → Int32) (km_reportDay : ClassId) (fm_reportDay : Nat → Int32) (km_reportKind : ClassId) (fm_reportKind : Nat → Int32) (km_trust : ClassId) (fm_trust : Nat → Int32) (km_letter : ClassId) (fm_letter : Nat → Int32) (p1 : Int32) (gmi_0 : gi (mi 0) 0 24) (gmi_1 : gi (mi 1) 0 5) (gmi_2 : gi (mi 2) 0 5) (gmi_4 : gi (mi 4) 0 1) (gmi_7 : gi (mi 7) 0 6) (gmi_10 : gi (mi 10) 0 24) (gmi_17 : gi (mi 17) 0 8) (gmi_23 : gi (mi 23) 0 300) (gmi_24 : gi (mi 24) 0 1) (gmi_26 : gi (mi 26) 0 1600) (gmi_29 : gi (mi 29) 0 1600) (gmi_30 : gi (mi 30) 0 1600) (gmi_33 : gi (mi 33) 0 1) (gmi_37 : gi (mi 37) 0 1) (gmi_41 : gi (mi 41) 0 24) (gmi_50 : gi (mi 50) 0 1) (gmi_51 : gi (mi 51) 0 1) (gmi_56 : gi (mi 56) 0 80) (gfm_row : ga fm_row 24 0 23) (gfm_struck : ga fm_struck 24 0 1) (gfm_reportKnown : ga fm_reportKnown 24 0 999) (gfm_reportPlace : ga fm_reportPlace 24 0 5) (gfm_reportMonth : ga fm_reportMonth 24 0 23) (gfm_reportDay : ga fm_reportDay 24 0 999) (hx : p.tables.exec = Jvm.exec) (hb : c.code = cX12_later) (hml : c.maxLocals = 4) (hown : s.vm.findClass RX12 = some m.cls) (hts : ∀ w ∈ ((.code yX12_later cX12_later 4 (some .int) :: wsGB) : List Cond), w.before args s = true) (hK : va_K (dC, dI) vwCl [(km_must, .int), (km_least, .int), (km_pin, .int), (km_ways, .int), (km_verdict, .int), (km_row, .int), (km_struck, .boolean), (km_reportKnown, .int), (km_reportPlace, .int), (km_reportMonth, .int), (km_reportDay, .int), (km_reportKind, .int), (km_trust, .int), (km_letter, .int)] s) (hA : ∀ q : Nat, s.heap.size ≤ q → A q) (hRf : 5 ≤ R.frames) (hRl : 119 ≤ R.locals) (hRc : cells ≤ R.cells) (hRs : slots ≤ R.slots) (kr10 : ∀ (v : Int32) (w0_37 : Int32) (w0_41 : Int32) (z1 : Nat → Int32) (z2 : Nat → Int32) (z3 : Nat → Int32) (z4 : Nat → Int32) (z5 : Nat → Int32) (z6 : Nat → Int32) (H : Heap) (locs : List Loc) (ls : Array Slot), gi v (-2) (-2) → gi w0_37 0 1 → gi w0_41 0 24 → ga z6 24 0 23 → va_P (dC, dI) vwCl [(h0, .inr (12, fsMM (upd (upd mi 37 w0_37) 41 w0_41) mr)), ((mr 14), .inl (km_must, 25, .inl z1)), ((mr 15), .inl (km_least, 25, .inl z2)), ((mr 16), .inl (km_pin, 25, .inl z3)), ((mr 17), .inl (km_ways, 6875, .inl z4)), ((mr 18), .inl (km_verdict, 24, .inl z5)), ((mr 19), .inl (km_row, 24, .inl z6)), ((mr 4), .inl (km_struck, 24, .inl fm_struck)), ((mr 7), .inl (km_reportKnown, 24, .inl fm_reportKnown)), ((mr 2), .inl (km_reportPlace, 24, .inl fm_reportPlace)), ((mr 5), .inl (km_reportMonth, 24, .inl fm_reportMonth)), ((mr 6), .inl (km_reportDay, 24, .inl fm_reportDay)), ((mr 3), .inl (km_reportKind, 24, .inl fm_reportKind)), ((mr 0), .inl (km_trust, 6, .inl fm_trust)), ((mr 1), .inl (km_letter, 36, .inl fm_letter))] H → va_D A [(h0, .inr (12, fsMM (upd (upd mi 37 w0_37) 41 w0_41) mr)), ((mr 14), .inl (km_must, 25, .inl z1)), ((mr 15), .inl (km_least, 25, .inl z2)), ((mr 16), .inl (km_pin, 25, .inl z3)), ((mr 17), .inl (km_ways, 6875, .inl z4)), ((mr 18), .inl (km_verdict, 24, .inl z5)), ((mr 19), .inl (km_row, 24, .inl z6)), ((mr 4), .inl (km_struck, 24, .inl fm_struck)), ((mr 7), .inl (km_reportKnown, 24, .inl fm_reportKnown)), ((mr 2), .inl (km_reportPlace, 24, .inl fm_reportPlace)), ((mr 5), .inl (km_reportMonth, 24, .inl fm_reportMonth)), ((mr 6), .inl (km_reportDay, 24, .inl fm_reportDay)), ((mr 3), .inl (km_reportKind, 24, .inl fm_reportKind)), ((mr 0), .inl (km_trust, 6, .inl fm_trust)), ((mr 1), .inl (km_letter, 36, .inl fm_letter))] → va_S A s.heap H locs → lv_has ls 4 [] → W p l e R s m args below meth c H locs cells slots Q (F0 m 10 ls [.int v])) (kr65 : ∀ (v : Int32) (w0_37 : Int32) (w0_41 : Int32) (z1 : Nat → Int32) (z2 : Nat → Int32) (z3 : Nat → Int32) (z4 : Nat → Int32) (z5 : Nat → Int32) (z6 : Nat → Int32) (H : Heap) (locs : List Loc) (ls : Array Slot), gi w0_37 0 1 → gi w0_41 0 24 → ga z6 24 0 23 → va_P (dC, dI) vwCl [(h0, .inr (12, fsMM (upd (upd mi 37 w0_37) 41 w0_41) mr)), ((mr 14), .inl (km_must, 25, .inl z1)), ((mr 15), .inl (km_least, 25, .inl z2)), ((mr 16), .inl (km_pin, 25, .inl z3)), ((mr 17), .inl (km_ways, 6875, .inl z4)), ((mr 18), .inl (km_verdict, 24, .inl z5)), ((mr 19), .inl (km_row, 24, .inl z6)), ((mr 4), .inl (km_struck, 24, .inl fm_struck)), ((mr 7), .inl (km_reportKnown, 24, .inl fm_reportKnown)), ((mr 2), .inl (km_reportPlace, 24, .inl fm_reportPlace)), ((mr 5), .inl (km_reportMonth, 24, .inl fm_reportMonth)), ((mr 6), .inl (km_reportDay, 24, .inl fm_reportDay)), ((mr 3), .inl (km_reportKind, 24, .inl fm_reportKind)), ((mr 0), .inl (km_trust, 6, .inl fm_trust)), ((mr 1), .inl (km_letter, 36, .inl fm_letter))] H → va_D A [(h0, .inr (12, fsMM (upd (upd mi 37 w0_37) 41 w0_41) mr)), ((mr 14), .inl (km_must, 25, .inl z1)), ((mr 15), .inl (km_least, 25, .inl z2)), ((mr 16), .inl (km_pin, 25, .inl z3)), ((mr 17), .inl (km_ways, 6875, .inl z4)), ((mr 18), .inl (km_verdict, 24, .inl z5)), ((mr 19), .inl (km_row, 24, .inl z6)), ((mr 4), .inl (km_struck, 24, .inl fm_struck)), ((mr 7), .inl (km_reportKnown, 24, .inl fm_reportKnown)), ((mr 2), .inl (km_reportPlace, 24, .inl fm_reportPlace)), ((mr 5), .inl (km_reportMonth, 24, .inl fm_reportMonth)), ((mr 6), .inl (km_reportDay, 24, .inl fm_reportDay)), ((mr 3), .inl (km_reportKind, 24, .inl fm_reportKind)), ((mr 0), .inl (km_trust, 6, .inl fm_trust)), ((mr 1), .inl (km_letter, 36, .inl fm_letter))] → va_S A s.heap H locs → lv_has ls 4 [] → W p l e R s m args below meth c H locs cells slots Q (F0 m 65 ls [.int v])) : ∀ z : Nat, (∀ (v2 : Int32) (v3 : Int32) (w0_37 : Int32) (w0_41 : Int32) (z1 : Nat → Int32) (z2 : Nat → Int32) (z3 : Nat → Int32) (z4 : Nat → Int32) (z5 : Nat → Int32) (z6 : Nat → Int32) (H : Heap) (locs : List Loc) (ls : Array Slot), gi p1 0 999 → gi v3 0 24 → gi w0_37 0 1 → gi w0_41 0 24 → ga z6 24 0 23 → 49 + (-2) * v3.toInt < (z : Int) → va_P (dC, dI) vwCl [(h0, .inr (12, fsMM (upd (upd mi 37 w0_37) 41 w0_41) mr)), ((mr 14), .inl (km_must, 25, .inl z1)), ((mr 15), .inl (km_least, 25, .inl z2)), ((mr 16), .inl (km_pin, 25, .inl z3)), ((mr 17), .inl (km_ways, 6875, .inl z4)), ((mr 18), .inl (km_verdict, 24, .inl z5)), ((mr 19), .inl (km_row, 24, .inl z6)), ((mr 4), .inl (km_struck, 24, .inl fm_struck)), ((mr 7), .inl (km_reportKnown, 24, .inl fm_reportKnown)), ((mr 2), .inl (km_reportPlace, 24, .inl fm_reportPlace)), ((mr 5), .inl (km_reportMonth, 24, .inl fm_reportMonth)), ((mr 6), .inl (km_reportDay, 24, .inl fm_reportDay)), ((mr 3), .inl (km_reportKind, 24, .inl fm_reportKind)), ((mr 0), .inl (km_trust, 6, .inl fm_trust)), ((mr 1), .inl (km_letter, 36, .inl fm_letter))] H → va_D A [(h0, .inr (12, fsMM (upd (upd mi 37 w0_37) 41 w0_41) mr)), ((mr 14), .inl (km_must, 25, .inl z1)), ((mr 15), .inl (km_least, 25, .inl z2)), ((mr 16), .inl (km_pin, 25, .inl z3)), ((mr 17), .inl (km_ways, 6875, .inl z4)), ((mr 18), .inl (km_verdict, 24, .inl z5)), ((mr 19), .inl (km_row, 24, .inl z6)), ((mr 4), .inl (km_struck, 24, .inl fm_struck)), ((mr 7), .inl (km_reportKnown, 24, .inl fm_reportKnown)), ((mr 2), .inl (km_reportPlace, 24, .inl fm_reportPlace)), ((mr 5), .inl (km_reportMonth, 24, .inl fm_reportMonth)), ((mr 6), .inl (km_reportDay, 24, .inl fm_reportDay)), ((mr 3), .inl (km_reportKind, 24, .inl fm_reportKind)), ((mr 0), .inl (km_trust, 6, .inl fm_trust)), ((mr 1), .inl (km_letter, 36, .inl fm_letter))] → va_S A s.heap H locs → lv_has ls 4 [(0, .ref h0), (1, .int p1), (2, .int v2), (3, .int v3)] → W p l e R s m args below meth c H locs cells slots Q (F0 m 22 ls [])) := by
  intro z
  induction z with
  | zero =>
    intro v2 v3 w0_37 w0_41 z1 z2 z3 z4 z5 z6 H locs ls gf_p1 gv3 gw0_37 gw0_41 gz6 hmu hP hD hS hl
    exact absurd hmu (by have hv31 := gv3.1; have hv32 := gv3.2; omega)
  | succ z ih =>
      intro v2 v3 w0_37 w0_41 z1 z2 z3 z4 z5 z6 H locs ls gf_p1 gv3 gw0_37 gw0_41 gz6 hmu hP hD hS hl
      refine lv_iload_n hx hb dX12_later_22 rfl (lv_at hl 3 rfl) ?_
      refine lv_aload_n hx hb dX12_later_23 rfl (lv_at hl 0 rfl) ?_
      refine va_get (D := (dC, dI)) (ci := 12) (v := .int (mi 10)) (C := RX12) (T := TX12) (N := 57) hx hb hts (fun w h => List.mem_cons_of_mem _ (jnGB_X12 w h)) hown hK hP 0 rfl rfl 10 (by decide) (hts _ (List.mem_cons_of_mem _ mGB_111)) (fun _ h9 => h9) rfl dX12_later_24 ?_
      refine lv_icmp_ge (tgt := 64) hx hb dX12_later_27 (by decide) (fun c_466 => ?_) (fun c_466 => ?_)
      · refine lv_iload_n hx hb dX12_later_64 rfl (lv_at hl 2 rfl) ?_
        exact kr65 v2 w0_37 w0_41 z1 z2 z3 z4 z5 z6 _ _ _ gw0_37 gw0_41 gz6 hP hD hS (lv_sub hl [] rfl)
      · have g_467 : gi v3 0 23 := gi_lt_l (Int32.not_le.mp c_466) gv3 gmi_10 (by decide)
        have g_468 : gi (mi 10) 1 24 := gi_lt_r (Int32.not_le.mp c_466) gv3 gmi_10 (by decide)
        refine lv_iload_n hx hb dX12_later_30 rfl (lv_at hl 2 rfl) ?_
        refine lv_aload_n hx hb dX12_later_31 rfl (lv_at hl 0 rfl) ?_
        refine va_get (D := (dC, dI)) (ci := 12) (v := .ref (mr 18)) (C := RX12) (T := TX12) (N := 57) hx hb hts (fun w h => List.mem_cons_of_mem _ (jnGB_X12 w h)) hown hK hP 0 rfl rfl 39 (by decide) (hts _ (List.mem_cons_of_mem _ mGB_30)) (fun _ h9 => h9) rfl dX12_later_32 ?_
        refine lv_iload_n hx hb dX12_later_35 rfl (lv_at hl 3 rfl) ?_
        refine va_iald hx hb hK hP 5 4 rfl rfl (gi_in g_467 (by decide)) dX12_later_36 ?_
        refine lv_topi (fun x_469 ex_469 => ?_)
        refine lv_if_ne (tgt := 55) hx hb dX12_later_37 (by decide) (fun c_470 => ?_) (fun c_470 => ?_)
        · refine lv_iconst (v := 0) hx hb dX12_later_55 (by decide) ?_
          refine lv_ior hx hb dX12_later_56 ?_
          refine lv_topi (fun x_471 ex_471 => ?_)
          refine lv_istore_n (lv' := [(2, .int x_471), (0, .ref h0), (1, .int p1), (3, .int v3)]) hx hb dX12_later_57 rfl hl (by decide) rfl (fun ls hl => ?_)
          obtain ⟨x_472, ex_472⟩ : ∃ y : Int32, y = v3 + 1 := ⟨_, rfl⟩
          have gx_472 : gi x_472 1 24 := gi_add ex_472 g_467 (gi_c 1 1 (by decide)) (by decide)
          refine lv_iinc (v := x_472) (lv' := [(3, .int x_472), (2, .int x_471), (0, .ref h0), (1, .int p1)]) hx hb dX12_later_58 hl (k := 3) rfl (by rw [ex_472]; rfl) (by decide) rfl (fun ls hl => ?_)
          refine lv_goto (tgt := 22) hx hb dX12_later_61 (by decide) ?_
          exact ih x_471 x_472 w0_37 w0_41 z1 z2 z3 z4 z5 z6 _ _ _ gf_p1 (gi_w gx_472 (by decide)) gw0_37 gw0_41 gz6 (by have av3 := gv3.1; have bv3 := gv3.2; have qgx_472 := gx_472.1; have rgx_472 := gx_472.2; have igx_472 : x_472.toInt = v3.toInt + 1 := (by have hc1 : (1 : Int32).toInt = 1 := (by decide); have h9 := gi_addI ex_472 (by have h1 := g_467.1; have h2 := (gi_c 1 1 (by decide)).1; have h3 := g_467.2; have h4 := (gi_c 1 1 (by decide)).2; omega) (by have h1 := g_467.1; have h2 := (gi_c 1 1 (by decide)).1; have h3 := g_467.2; have h4 := (gi_c 1 1 (by decide)).2; omega); rw [hc1] at h9; exact h9); have qgv3 := g_467.1; have rgv3 := g_467.2; omega) hP hD hS (lv_sub hl [2, 3, 1, 0] rfl)
        · have g_473 : gi x_469 0 0 := gi_eq c_470 (gi_c 0 0 (by decide))
          refine lv_aload_n hx hb dX12_later_40 rfl (lv_at hl 0 rfl) ?_
          refine lv_iload_n hx hb dX12_later_41 rfl (lv_at hl 3 rfl) ?_
          refine lv_iload_n hx hb dX12_later_42 rfl (lv_at hl 1 rfl) ?_
          have hPc := hP.sub (ws' := [(h0, .inr (12, fsMM (upd (upd mi 37 w0_37) 41 w0_41) mr)), ((mr 4), .inl (km_struck, 24, .inl fm_struck)), ((mr 7), .inl (km_reportKnown, 24, .inl fm_reportKnown))]) [0, 7, 8] rfl
          have hKc := hK.sub (tys' := [(km_struck, .boolean), (km_reportKnown, .int)]) [6, 7] rfl
          refine va_calli (va_runV (As := [.int v3, .int p1]) (rest := [.int v2]) ⟨hx, hb, hml, hown, hts⟩ (sX12_isKnown l dC dI h0 (upd (upd mi 37 w0_37) 41 w0_41) mr km_struck fm_struck km_reportKnown fm_reportKnown v3 p1 gmi_0 gmi_1 gmi_2 gmi_4 gmi_7 (gi_w g_468 (by decide)) gmi_17 gmi_23 gmi_24 gmi_26 gmi_29 gmi_30 gmi_33 gw0_37 gw0_41 gmi_50 gmi_51 gmi_56 gfm_struck gfm_reportKnown g_467) (cwV 2 hts (gz_gV mGB_279 mGB_280 mGB_281 mGB_1 mGB_282 goodGB) rfl rfl rfl (by decide +kernel) ⟨Nat.le_trans (Nat.le_of_ble_eq_true rfl) hRf, Nat.le_trans (Nat.le_of_ble_eq_true rfl) hRl⟩) ⟨fun a U g mk q => by obtain ⟨q0, qP, qK⟩ := q; exact ⟨q0, qP, va_K.moved (u := U) (U := U.calling g mk a) (Vm.Alike.refl U.vm) qK⟩, va_recv hKc hPc (ci := 12) (q0 := 0) rfl rfl, fun U hU hW => ⟨rfl, by rw [hU]; exact hPc, va_K.moved hW.alike hKc⟩⟩ rfl rfl hl.1 rfl (lv_room (Nat.le_of_ble_eq_true rfl)) dX12_later_43 ⟨hRc, hRs⟩) hS (fun q _ h => h.elim) (fun q h => h.elim) (fun r_474 u t H1 locs ht hvm hw hB hz1 hk1 hS => ?_)
          have hP := gz_keep hP hk1
          generalize H1 = H at hP hS ⊢
          have gr_474 : gi r_474 0 1 := hw
          refine lv_if_ne (tgt := 55) hx hb dX12_later_46 (by decide) (fun c_475 => ?_) (fun c_475 => ?_)
          · have g_476 : gi r_474 1 1 := gi_ne_lo c_475 gr_474 (gi_c 0 0 (by decide)) (by decide)
            refine lv_iconst (v := 0) hx hb dX12_later_55 (by decide) ?_
            refine lv_ior hx hb dX12_later_56 ?_
            refine lv_topi (fun x_477 ex_477 => ?_)
            refine lv_istore_n (lv' := [(2, .int x_477), (0, .ref h0), (1, .int p1), (3, .int v3)]) hx hb dX12_later_57 rfl hl (by decide) rfl (fun ls hl => ?_)
            obtain ⟨x_478, ex_478⟩ : ∃ y : Int32, y = v3 + 1 := ⟨_, rfl⟩
            have gx_478 : gi x_478 1 24 := gi_add ex_478 g_467 (gi_c 1 1 (by decide)) (by decide)
            refine lv_iinc (v := x_478) (lv' := [(3, .int x_478), (2, .int x_477), (0, .ref h0), (1, .int p1)]) hx hb dX12_later_58 hl (k := 3) rfl (by rw [ex_478]; rfl) (by decide) rfl (fun ls hl => ?_)
            refine lv_goto (tgt := 22) hx hb dX12_later_61 (by decide) ?_
            exact ih x_477 x_478 w0_37 w0_41 z1 z2 z3 z4 z5 z6 _ _ _ gf_p1 (gi_w gx_478 (by decide)) gw0_37 gw0_41 gz6 (by have av3 := gv3.1; have bv3 := gv3.2; have qgx_478 := gx_478.1; have rgx_478 := gx_478.2; have igx_478 : x_478.toInt = v3.toInt + 1 := (by have hc1 : (1 : Int32).toInt = 1 := (by decide); have h9 := gi_addI ex_478 (by have h1 := g_467.1; have h2 := (gi_c 1 1 (by decide)).1; have h3 := g_467.2; have h4 := (gi_c 1 1 (by decide)).2; omega) (by have h1 := g_467.1; have h2 := (gi_c 1 1 (by decide)).1; have h3 := g_467.2; have h4 := (gi_c 1 1 (by decide)).2; omega); rw [hc1] at h9; exact h9); have qgv3 := g_467.1; have rgv3 := g_467.2; omega) hP hD hS (lv_sub hl [2, 3, 1, 0] rfl)
          · have g_479 : gi r_474 0 0 := gi_eq c_475 (gi_c 0 0 (by decide))
            refine lv_iconst (v := 1) hx hb dX12_later_49 (by decide) ?_
            refine lv_iload_n hx hb dX12_later_50 rfl (lv_at hl 3 rfl) ?_
            refine lv_ishl hx hb dX12_later_51 ?_
            refine lv_topi (fun x_480 ex_480 => ?_)
            refine lv_goto (tgt := 56) hx hb dX12_later_52 (by decide) ?_
            refine lv_ior hx hb dX12_later_56 ?_
            refine lv_topi (fun x_481 ex_481 => ?_)
            refine lv_istore_n (lv' := [(2, .int x_481), (0, .ref h0), (1, .int p1), (3, .int v3)]) hx hb dX12_later_57 rfl hl (by decide) rfl (fun ls hl => ?_)
            obtain ⟨x_482, ex_482⟩ : ∃ y : Int32, y = v3 + 1 := ⟨_, rfl⟩
            have gx_482 : gi x_482 1 24 := gi_add ex_482 g_467 (gi_c 1 1 (by decide)) (by decide)
            refine lv_iinc (v := x_482) (lv' := [(3, .int x_482), (2, .int x_481), (0, .ref h0), (1, .int p1)]) hx hb dX12_later_58 hl (k := 3) rfl (by rw [ex_482]; rfl) (by decide) rfl (fun ls hl => ?_)
            refine lv_goto (tgt := 22) hx hb dX12_later_61 (by decide) ?_
            exact ih x_481 x_482 w0_37 w0_41 z1 z2 z3 z4 z5 z6 _ _ _ gf_p1 (gi_w gx_482 (by decide)) gw0_37 gw0_41 gz6 (by have av3 := gv3.1; have bv3 := gv3.2; have qgx_482 := gx_482.1; have rgx_482 := gx_482.2; have igx_482 : x_482.toInt = v3.toInt + 1 := (by have hc1 : (1 : Int32).toInt = 1 := (by decide); have h9 := gi_addI ex_482 (by have h1 := g_467.1; have h2 := (gi_c 1 1 (by decide)).1; have h3 := g_467.2; have h4 := (gi_c 1 1 (by decide)).2; omega) (by have h1 := g_467.1; have h2 := (gi_c 1 1 (by decide)).1; have h3 := g_467.2; have h4 := (gi_c 1 1 (by decide)).2; omega); rw [hc1] at h9; exact h9); have qgv3 := g_467.1; have rgv3 := g_467.2; omega) hP hD hS (lv_sub hl [2, 3, 1, 0] rfl)
set_option maxHeartbeats 4000000 in
set_option maxRecDepth 100000 in
theorem sX12_later (l : Launch) (dC : Nat → ClassId) (dI : Nat → Nat → Nat) (sz : Nat) (h0 : Nat) (mi : Nat → Int32) (mr : Nat → Nat) (km_must : ClassId) (fm_must : Nat → Int32) (km_least : ClassId) (fm_least : Nat → Int32) (km_pin : ClassId) (fm_pin : Nat → Int32) (km_ways : ClassId) (fm_ways : Nat → Int32) (km_verdict : ClassId) (fm_verdict : Nat → Int32) (km_row : ClassId) (fm_row : Nat → Int32) (km_struck : ClassId) (fm_struck : Nat → Int32) (km_reportKnown : ClassId) (fm_reportKnown : Nat → Int32) (km_reportPlace : ClassId) (fm_reportPlace : Nat → Int32) (km_reportMonth : ClassId) (fm_reportMonth : Nat → Int32) (km_reportDay : ClassId) (fm_reportDay : Nat → Int32) (km_reportKind : ClassId) (fm_reportKind : Nat → Int32) (km_trust : ClassId) (fm_trust : Nat → Int32) (km_letter : ClassId) (fm_letter : Nat → Int32) (p1 : Int32) (gmi_0 : gi (mi 0) 0 24) (gmi_1 : gi (mi 1) 0 5) (gmi_2 : gi (mi 2) 0 5) (gmi_4 : gi (mi 4) 0 1) (gmi_7 : gi (mi 7) 0 6) (gmi_10 : gi (mi 10) 0 24) (gmi_17 : gi (mi 17) 0 8) (gmi_23 : gi (mi 23) 0 300) (gmi_24 : gi (mi 24) 0 1) (gmi_26 : gi (mi 26) 0 1600) (gmi_29 : gi (mi 29) 0 1600) (gmi_30 : gi (mi 30) 0 1600) (gmi_33 : gi (mi 33) 0 1) (gmi_37 : gi (mi 37) 0 1) (gmi_41 : gi (mi 41) 0 24) (gmi_50 : gi (mi 50) 0 1) (gmi_51 : gi (mi 51) 0 1) (gmi_56 : gi (mi 56) 0 80) (gfm_row : ga fm_row 24 0 23) (gfm_struck : ga fm_struck 24 0 1) (gfm_reportKnown : ga fm_reportKnown 24 0 999) (gfm_reportPlace : ga fm_reportPlace 24 0 5) (gfm_reportMonth : ga fm_reportMonth 24 0 23) (gfm_reportDay : ga fm_reportDay 24 0 999) : Met l yX12_later (.code yX12_later cX12_later 4 (some .int) :: wsGB) ({ frames := 5, cells := 0, slots := 0, locals := 119 }) (va_Pc [.ref h0, .int p1] (fun U => U.heap.size = sz ∧ va_P (dC, dI) vwCl [(h0, .inr (12, fsMM mi mr)), ((mr 14), .inl (km_must, 25, .inl fm_must)), ((mr 15), .inl (km_least, 25, .inl fm_least)), ((mr 16), .inl (km_pin, 25, .inl fm_pin)), ((mr 17), .inl (km_ways, 6875, .inl fm_ways)), ((mr 18), .inl (km_verdict, 24, .inl fm_verdict)), ((mr 19), .inl (km_row, 24, .inl fm_row)), ((mr 4), .inl (km_struck, 24, .inl fm_struck)), ((mr 7), .inl (km_reportKnown, 24, .inl fm_reportKnown)), ((mr 2), .inl (km_reportPlace, 24, .inl fm_reportPlace)), ((mr 5), .inl (km_reportMonth, 24, .inl fm_reportMonth)), ((mr 6), .inl (km_reportDay, 24, .inl fm_reportDay)), ((mr 3), .inl (km_reportKind, 24, .inl fm_reportKind)), ((mr 0), .inl (km_trust, 6, .inl fm_trust)), ((mr 1), .inl (km_letter, 36, .inl fm_letter))] U.heap ∧ va_K (dC, dI) vwCl [(km_must, .int), (km_least, .int), (km_pin, .int), (km_ways, .int), (km_verdict, .int), (km_row, .int), (km_struck, .boolean), (km_reportKnown, .int), (km_reportPlace, .int), (km_reportMonth, .int), (km_reportDay, .int), (km_reportKind, .int), (km_trust, .int), (km_letter, .int)] U ∧ va_D (fun _ => True) [(h0, .inr (12, fsMM mi mr)), ((mr 14), .inl (km_must, 25, .inl fm_must)), ((mr 15), .inl (km_least, 25, .inl fm_least)), ((mr 16), .inl (km_pin, 25, .inl fm_pin)), ((mr 17), .inl (km_ways, 6875, .inl fm_ways)), ((mr 18), .inl (km_verdict, 24, .inl fm_verdict)), ((mr 19), .inl (km_row, 24, .inl fm_row)), ((mr 4), .inl (km_struck, 24, .inl fm_struck)), ((mr 7), .inl (km_reportKnown, 24, .inl fm_reportKnown)), ((mr 2), .inl (km_reportPlace, 24, .inl fm_reportPlace)), ((mr 5), .inl (km_reportMonth, 24, .inl fm_reportMonth)), ((mr 6), .inl (km_reportDay, 24, .inl fm_reportDay)), ((mr 3), .inl (km_reportKind, 24, .inl fm_reportKind)), ((mr 0), .inl (km_trust, 6, .inl fm_trust)), ((mr 1), .inl (km_letter, 36, .inl fm_letter))])) (va_Qi (fun (r : Int32) (u : Unit) => gi r (-2147483648) 2147483647) (fun _ t => ∃ (w0_37 : Int32) (w0_41 : Int32) (z1 : Nat → Int32) (z2 : Nat → Int32) (z3 : Nat → Int32) (z4 : Nat → Int32) (z5 : Nat → Int32) (z6 : Nat → Int32), gi w0_37 0 1 ∧ gi w0_41 0 24 ∧ ga z6 24 0 23 ∧ va_P (dC, dI) vwCl [(h0, .inr (12, fsMM (upd (upd mi 37 w0_37) 41 w0_41) mr)), ((mr 14), .inl (km_must, 25, .inl z1)), ((mr 15), .inl (km_least, 25, .inl z2)), ((mr 16), .inl (km_pin, 25, .inl z3)), ((mr 17), .inl (km_ways, 6875, .inl z4)), ((mr 18), .inl (km_verdict, 24, .inl z5)), ((mr 19), .inl (km_row, 24, .inl z6)), ((mr 4), .inl (km_struck, 24, .inl fm_struck)), ((mr 7), .inl (km_reportKnown, 24, .inl fm_reportKnown)), ((mr 2), .inl (km_reportPlace, 24, .inl fm_reportPlace)), ((mr 5), .inl (km_reportMonth, 24, .inl fm_reportMonth)), ((mr 6), .inl (km_reportDay, 24, .inl fm_reportDay)), ((mr 3), .inl (km_reportKind, 24, .inl fm_reportKind)), ((mr 0), .inl (km_trust, 6, .inl fm_trust)), ((mr 1), .inl (km_letter, 36, .inl fm_letter))] t.heap ∧ va_D (va_A [(h0, .inr (12, fsMM mi mr)), ((mr 14), .inl (km_must, 25, .inl fm_must)), ((mr 15), .inl (km_least, 25, .inl fm_least)), ((mr 16), .inl (km_pin, 25, .inl fm_pin)), ((mr 17), .inl (km_ways, 6875, .inl fm_ways)), ((mr 18), .inl (km_verdict, 24, .inl fm_verdict)), ((mr 19), .inl (km_row, 24, .inl fm_row)), ((mr 4), .inl (km_struck, 24, .inl fm_struck)), ((mr 7), .inl (km_reportKnown, 24, .inl fm_reportKnown)), ((mr 2), .inl (km_reportPlace, 24, .inl fm_reportPlace)), ((mr 5), .inl (km_reportMonth, 24, .inl fm_reportMonth)), ((mr 6), .inl (km_reportDay, 24, .inl fm_reportDay)), ((mr 3), .inl (km_reportKind, 24, .inl fm_reportKind)), ((mr 0), .inl (km_trust, 6, .inl fm_trust)), ((mr 1), .inl (km_letter, 36, .inl fm_letter))] sz) [(h0, .inr (12, fsMM (upd (upd mi 37 w0_37) 41 w0_41) mr)), ((mr 14), .inl (km_must, 25, .inl z1)), ((mr 15), .inl (km_least, 25, .inl z2)), ((mr 16), .inl (km_pin, 25, .inl z3)), ((mr 17), .inl (km_ways, 6875, .inl z4)), ((mr 18), .inl (km_verdict, 24, .inl z5)), ((mr 19), .inl (km_row, 24, .inl z6)), ((mr 4), .inl (km_struck, 24, .inl fm_struck)), ((mr 7), .inl (km_reportKnown, 24, .inl fm_reportKnown)), ((mr 2), .inl (km_reportPlace, 24, .inl fm_reportPlace)), ((mr 5), .inl (km_reportMonth, 24, .inl fm_reportMonth)), ((mr 6), .inl (km_reportDay, 24, .inl fm_reportDay)), ((mr 3), .inl (km_reportKind, 24, .inl fm_reportKind)), ((mr 0), .inl (km_trust, 6, .inl fm_trust)), ((mr 1), .inl (km_letter, 36, .inl fm_letter))]) (va_A [(h0, .inr (12, fsMM mi mr)), ((mr 14), .inl (km_must, 25, .inl fm_must)), ((mr 15), .inl (km_least, 25, .inl fm_least)), ((mr 16), .inl (km_pin, 25, .inl fm_pin)), ((mr 17), .inl (km_ways, 6875, .inl fm_ways)), ((mr 18), .inl (km_verdict, 24, .inl fm_verdict)), ((mr 19), .inl (km_row, 24, .inl fm_row)), ((mr 4), .inl (km_struck, 24, .inl fm_struck)), ((mr 7), .inl (km_reportKnown, 24, .inl fm_reportKnown)), ((mr 2), .inl (km_reportPlace, 24, .inl fm_reportPlace)), ((mr 5), .inl (km_reportMonth, 24, .inl fm_reportMonth)), ((mr 6), .inl (km_reportDay, 24, .inl fm_reportDay)), ((mr 3), .inl (km_reportKind, 24, .inl fm_reportKind)), ((mr 0), .inl (km_trust, 6, .inl fm_trust)), ((mr 1), .inl (km_letter, 36, .inl fm_letter))] sz)) 0 0 (va_A [(h0, .inr (12, fsMM mi mr)), ((mr 14), .inl (km_must, 25, .inl fm_must)), ((mr 15), .inl (km_least, 25, .inl fm_least)), ((mr 16), .inl (km_pin, 25, .inl fm_pin)), ((mr 17), .inl (km_ways, 6875, .inl fm_ways)), ((mr 18), .inl (km_verdict, 24, .inl fm_verdict)), ((mr 19), .inl (km_row, 24, .inl fm_row)), ((mr 4), .inl (km_struck, 24, .inl fm_struck)), ((mr 7), .inl (km_reportKnown, 24, .inl fm_reportKnown)), ((mr 2), .inl (km_reportPlace, 24, .inl fm_reportPlace)), ((mr 5), .inl (km_reportMonth, 24, .inl fm_reportMonth)), ((mr 6), .inl (km_reportDay, 24, .inl fm_reportDay)), ((mr 3), .inl (km_reportKind, 24, .inl fm_reportKind)), ((mr 0), .inl (km_trust, 6, .inl fm_trust)), ((mr 1), .inl (km_letter, 36, .inl fm_letter))] sz) := by
  refine Met.ofW (cc := cX12_later) (maxL := 4) (ret := (some .int)) (by decide) rfl ?_
  intro p e s m args below meth c s₁ B hml hv
  obtain ⟨rfl, hsz, hP, hK, hD0⟩ := hv
  have hx := B.exec
  have hb := B.bytes
  have hr := B.returns
  have hts := atoms_spec (ws := (.code yX12_later cX12_later 4 (some .int) :: wsGB)) B.pre
  have hown : s.vm.findClass RX12 = some m.cls := findClass_of_methodNamed B.named
  have hlocks := B.notSynchronized
  subst hsz
  have hD := hD0.self (sz := s.heap.size)
  generalize hAe : va_A [(h0, .inr (12, fsMM mi mr)), ((mr 14), .inl (km_must, 25, .inl fm_must)), ((mr 15), .inl (km_least, 25, .inl fm_least)), ((mr 16), .inl (km_pin, 25, .inl fm_pin)), ((mr 17), .inl (km_ways, 6875, .inl fm_ways)), ((mr 18), .inl (km_verdict, 24, .inl fm_verdict)), ((mr 19), .inl (km_row, 24, .inl fm_row)), ((mr 4), .inl (km_struck, 24, .inl fm_struck)), ((mr 7), .inl (km_reportKnown, 24, .inl fm_reportKnown)), ((mr 2), .inl (km_reportPlace, 24, .inl fm_reportPlace)), ((mr 5), .inl (km_reportMonth, 24, .inl fm_reportMonth)), ((mr 6), .inl (km_reportDay, 24, .inl fm_reportDay)), ((mr 3), .inl (km_reportKind, 24, .inl fm_reportKind)), ((mr 0), .inl (km_trust, 6, .inl fm_trust)), ((mr 1), .inl (km_letter, 36, .inl fm_letter))] s.heap.size = A at hD ⊢
  have hA : ∀ q : Nat, s.heap.size ≤ q → A q := fun q h => by rw [← hAe]; exact Or.inr h
  have hS : va_S A s.heap s.heap [] := va_S.rf
  have hl := lv_entry ([.ref h0, .int p1]) (n := 4) (Nat.le_of_ble_eq_true rfl)
  rw [lg_entry_eq]
  generalize (lg_sl ([.ref h0, .int p1]) ++ List.replicate (4 - (lg_sl ([.ref h0, .int p1])).length) Slot.unset).toArray = ls at hl ⊢
  have hl : lv_has ls 4 [(0, .ref h0), (1, .int p1)] := hl
  refine lv_aload_n hx hb dX12_later_0 rfl (lv_at hl 0 rfl) ?_
  refine lv_iload_n hx hb dX12_later_1 rfl (lv_at hl 1 rfl) ?_
  have hPc := hP.sub (ws' := [(h0, .inr (12, fsMM mi mr))]) [0] rfl
  have hKc := hK.sub (tys' := []) [] rfl
  refine va_calli (va_runV (As := [.int p1]) (rest := []) ⟨hx, hb, hml, hown, hts⟩ (sX12_isTime l dC dI h0 mi mr p1 gmi_0 gmi_1 gmi_2 gmi_4 gmi_7 gmi_10 gmi_17 gmi_23 gmi_24 gmi_26 gmi_29 gmi_30 gmi_33 gmi_37 gmi_41 gmi_50 gmi_51 gmi_56) (cwV 1 hts (gz_gV mGB_256 mGB_257 mGB_258 mGB_1 mGB_259 goodGB) rfl rfl rfl (by decide +kernel) ⟨Nat.le_of_ble_eq_true rfl, Nat.le_of_ble_eq_true rfl⟩) ⟨fun a U g mk q => by obtain ⟨q0, qP, qK⟩ := q; exact ⟨q0, qP, va_K.moved (u := U) (U := U.calling g mk a) (Vm.Alike.refl U.vm) qK⟩, va_recv hKc hPc (ci := 12) (q0 := 0) rfl rfl, fun U hU hW => ⟨rfl, by rw [hU]; exact hPc, va_K.moved hW.alike hKc⟩⟩ rfl rfl hl.1 rfl (lv_room (Nat.le_of_ble_eq_true rfl)) dX12_later_2 ⟨Nat.zero_le _, Nat.zero_le _⟩) hS (fun q _ h => h.elim) (fun q h => h.elim) (fun r_483 u t H1 locs ht hvm hw hB hz1 hk1 hS => ?_)
  have hP := gz_keep hP hk1
  generalize H1 = H at hP hS ⊢
  have gr_483 : gi r_483 0 1 := hw.1
  have hqr_483 := hw.2
  refine lv_if_ne (tgt := 11) hx hb dX12_later_5 (by decide) (fun c_484 => ?_) (fun c_484 => ?_)
  · have g_485 : gi r_483 1 1 := gi_ne_lo c_484 gr_483 (gi_c 0 0 (by decide)) (by decide)
    have g_486 : gi p1 0 999 := gi_cap (gi_any p1) (hqr_483 (gz_one g_485)) (by decide)
    refine lv_aload_n hx hb dX12_later_11 rfl (lv_at hl 0 rfl) ?_
    refine lv_sipush (v := 999) hx hb dX12_later_12 (by decide) ?_
    have hPc := hP.sub (ws' := [(h0, .inr (12, fsMM mi mr)), ((mr 14), .inl (km_must, 25, .inl fm_must)), ((mr 15), .inl (km_least, 25, .inl fm_least)), ((mr 16), .inl (km_pin, 25, .inl fm_pin)), ((mr 17), .inl (km_ways, 6875, .inl fm_ways)), ((mr 18), .inl (km_verdict, 24, .inl fm_verdict)), ((mr 19), .inl (km_row, 24, .inl fm_row)), ((mr 4), .inl (km_struck, 24, .inl fm_struck)), ((mr 7), .inl (km_reportKnown, 24, .inl fm_reportKnown)), ((mr 2), .inl (km_reportPlace, 24, .inl fm_reportPlace)), ((mr 5), .inl (km_reportMonth, 24, .inl fm_reportMonth)), ((mr 6), .inl (km_reportDay, 24, .inl fm_reportDay)), ((mr 3), .inl (km_reportKind, 24, .inl fm_reportKind)), ((mr 0), .inl (km_trust, 6, .inl fm_trust)), ((mr 1), .inl (km_letter, 36, .inl fm_letter))]) [0, 1, 2, 3, 4, 5, 6, 7, 8, 9, 10, 11, 12, 13, 14] rfl
    have hKc := hK.sub (tys' := [(km_must, .int), (km_least, .int), (km_pin, .int), (km_ways, .int), (km_verdict, .int), (km_row, .int), (km_struck, .boolean), (km_reportKnown, .int), (km_reportPlace, .int), (km_reportMonth, .int), (km_reportDay, .int), (km_reportKind, .int), (km_trust, .int), (km_letter, .int)]) [0, 1, 2, 3, 4, 5, 6, 7, 8, 9, 10, 11, 12, 13] rfl
    have hDc := hD.sub (ws' := [(h0, .inr (12, fsMM mi mr)), ((mr 14), .inl (km_must, 25, .inl fm_must)), ((mr 15), .inl (km_least, 25, .inl fm_least)), ((mr 16), .inl (km_pin, 25, .inl fm_pin)), ((mr 17), .inl (km_ways, 6875, .inl fm_ways)), ((mr 18), .inl (km_verdict, 24, .inl fm_verdict)), ((mr 19), .inl (km_row, 24, .inl fm_row)), ((mr 4), .inl (km_struck, 24, .inl fm_struck)), ((mr 7), .inl (km_reportKnown, 24, .inl fm_reportKnown)), ((mr 2), .inl (km_reportPlace, 24, .inl fm_reportPlace)), ((mr 5), .inl (km_reportMonth, 24, .inl fm_reportMonth)), ((mr 6), .inl (km_reportDay, 24, .inl fm_reportDay)), ((mr 3), .inl (km_reportKind, 24, .inl fm_reportKind)), ((mr 0), .inl (km_trust, 6, .inl fm_trust)), ((mr 1), .inl (km_letter, 36, .inl fm_letter))]) [0, 1, 2, 3, 4, 5, 6, 7, 8, 9, 10, 11, 12, 13, 14] (by decide) rfl
    have hFc := va_free (wc := [(h0, .inr (12, fsMM mi mr)), ((mr 14), .inl (km_must, 25, .inl fm_must)), ((mr 15), .inl (km_least, 25, .inl fm_least)), ((mr 16), .inl (km_pin, 25, .inl fm_pin)), ((mr 17), .inl (km_ways, 6875, .inl fm_ways)), ((mr 18), .inl (km_verdict, 24, .inl fm_verdict)), ((mr 19), .inl (km_row, 24, .inl fm_row)), ((mr 4), .inl (km_struck, 24, .inl fm_struck)), ((mr 7), .inl (km_reportKnown, 24, .inl fm_reportKnown)), ((mr 2), .inl (km_reportPlace, 24, .inl fm_reportPlace)), ((mr 5), .inl (km_reportMonth, 24, .inl fm_reportMonth)), ((mr 6), .inl (km_reportDay, 24, .inl fm_reportDay)), ((mr 3), .inl (km_reportKind, 24, .inl fm_reportKind)), ((mr 0), .inl (km_trust, 6, .inl fm_trust)), ((mr 1), .inl (km_letter, 36, .inl fm_letter))]) hD hS hA [0, 1, 2, 3, 4, 5, 6, 7, 8, 9, 10, 11, 12, 13, 14] rfl
    refine va_callv (va_runV (As := [.int 999]) (rest := []) ⟨hx, hb, hml, hown, hts⟩ (sX12_judgesAll l dC dI H.size h0 mi mr km_must fm_must km_least fm_least km_pin fm_pin km_ways fm_ways km_verdict fm_verdict km_row fm_row km_struck fm_struck km_reportKnown fm_reportKnown km_reportPlace fm_reportPlace km_reportMonth fm_reportMonth km_reportDay fm_reportDay km_reportKind fm_reportKind km_trust fm_trust km_letter fm_letter 999 gmi_0 gmi_1 gmi_2 gmi_4 gmi_7 gmi_10 gmi_17 gmi_23 gmi_24 gmi_26 gmi_29 gmi_30 gmi_33 gmi_37 gmi_41 gmi_50 gmi_51 gmi_56 gfm_row gfm_struck gfm_reportKnown gfm_reportPlace gfm_reportMonth gfm_reportDay) (cwV 1 hts (gz_gV mGB_261 mGB_262 mGB_263 mGB_1 mGB_264 goodGB) rfl rfl rfl (by decide +kernel) ⟨Nat.le_of_ble_eq_true rfl, Nat.le_of_ble_eq_true rfl⟩) ⟨fun a U g mk q => by obtain ⟨q0, q1, qP, qK, qD⟩ := q; exact ⟨q0, q1, qP, va_K.moved (u := U) (U := U.calling g mk a) (Vm.Alike.refl U.vm) qK, qD⟩, va_recv hKc hPc (ci := 12) (q0 := 0) rfl rfl, fun U hU hW => ⟨rfl, by rw [hU], by rw [hU]; exact hPc, va_K.moved hW.alike hKc, hDc.weaken (fun _ _ _ _ => trivial)⟩⟩ rfl rfl hl.1 rfl (lv_room (Nat.le_of_ble_eq_true rfl)) dX12_later_15 ⟨Nat.zero_le _, Nat.zero_le _⟩) hS (fun q _ h => hFc q h) hFc (fun u t H1 locs ht hvm hw hB hz1 hk1 hS => ?_)
    obtain ⟨y_488, y_489, f_490, f_491, f_492, f_493, f_494, f_495, gy_488, gy_489, gf_495, hP1, hD1⟩ := hB
    rw [ht] at hP1
    obtain ⟨hP, hD⟩ := va_join (wr := []) (w1 := [(h0, .inr (12, fsMM (upd (upd mi 37 y_488) 41 y_489) mr)), ((mr 14), .inl (km_must, 25, .inl f_490)), ((mr 15), .inl (km_least, 25, .inl f_491)), ((mr 16), .inl (km_pin, 25, .inl f_492)), ((mr 17), .inl (km_ways, 6875, .inl f_493)), ((mr 18), .inl (km_verdict, 24, .inl f_494)), ((mr 19), .inl (km_row, 24, .inl f_495)), ((mr 4), .inl (km_struck, 24, .inl fm_struck)), ((mr 7), .inl (km_reportKnown, 24, .inl fm_reportKnown)), ((mr 2), .inl (km_reportPlace, 24, .inl fm_reportPlace)), ((mr 5), .inl (km_reportMonth, 24, .inl fm_reportMonth)), ((mr 6), .inl (km_reportDay, 24, .inl fm_reportDay)), ((mr 3), .inl (km_reportKind, 24, .inl fm_reportKind)), ((mr 0), .inl (km_trust, 6, .inl fm_trust)), ((mr 1), .inl (km_letter, 36, .inl fm_letter))]) hP hD [0, 1, 2, 3, 4, 5, 6, 7, 8, 9, 10, 11, 12, 13, 14] [] rfl rfl (by decide) (by decide) hk1 hFc hP1 hD1
    have hP := hP.sub (ws' := [(h0, .inr (12, fsMM (upd (upd mi 37 y_488) 41 y_489) mr)), ((mr 14), .inl (km_must, 25, .inl f_490)), ((mr 15), .inl (km_least, 25, .inl f_491)), ((mr 16), .inl (km_pin, 25, .inl f_492)), ((mr 17), .inl (km_ways, 6875, .inl f_493)), ((mr 18), .inl (km_verdict, 24, .inl f_494)), ((mr 19), .inl (km_row, 24, .inl f_495)), ((mr 4), .inl (km_struck, 24, .inl fm_struck)), ((mr 7), .inl (km_reportKnown, 24, .inl fm_reportKnown)), ((mr 2), .inl (km_reportPlace, 24, .inl fm_reportPlace)), ((mr 5), .inl (km_reportMonth, 24, .inl fm_reportMonth)), ((mr 6), .inl (km_reportDay, 24, .inl fm_reportDay)), ((mr 3), .inl (km_reportKind, 24, .inl fm_reportKind)), ((mr 0), .inl (km_trust, 6, .inl fm_trust)), ((mr 1), .inl (km_letter, 36, .inl fm_letter))]) [0, 1, 2, 3, 4, 5, 6, 7, 8, 9, 10, 11, 12, 13, 14] rfl
    have hD := hD.sub (ws' := [(h0, .inr (12, fsMM (upd (upd mi 37 y_488) 41 y_489) mr)), ((mr 14), .inl (km_must, 25, .inl f_490)), ((mr 15), .inl (km_least, 25, .inl f_491)), ((mr 16), .inl (km_pin, 25, .inl f_492)), ((mr 17), .inl (km_ways, 6875, .inl f_493)), ((mr 18), .inl (km_verdict, 24, .inl f_494)), ((mr 19), .inl (km_row, 24, .inl f_495)), ((mr 4), .inl (km_struck, 24, .inl fm_struck)), ((mr 7), .inl (km_reportKnown, 24, .inl fm_reportKnown)), ((mr 2), .inl (km_reportPlace, 24, .inl fm_reportPlace)), ((mr 5), .inl (km_reportMonth, 24, .inl fm_reportMonth)), ((mr 6), .inl (km_reportDay, 24, .inl fm_reportDay)), ((mr 3), .inl (km_reportKind, 24, .inl fm_reportKind)), ((mr 0), .inl (km_trust, 6, .inl fm_trust)), ((mr 1), .inl (km_letter, 36, .inl fm_letter))]) [0, 1, 2, 3, 4, 5, 6, 7, 8, 9, 10, 11, 12, 13, 14] (by decide) rfl
    generalize H1 = H at hP hS ⊢
    refine lv_iconst (v := 0) hx hb dX12_later_18 (by decide) ?_
    refine lv_istore_n (lv' := [(2, .int 0), (0, .ref h0), (1, .int p1)]) hx hb dX12_later_19 rfl hl (by decide) rfl (fun ls hl => ?_)
    refine lv_iconst (v := 0) hx hb dX12_later_20 (by decide) ?_
    refine lv_istore_n (lv' := [(3, .int 0), (2, .int 0), (0, .ref h0), (1, .int p1)]) hx hb dX12_later_21 rfl hl (by decide) rfl (fun ls hl => ?_)
    refine (lp_sX12_later h0 mi mr km_must fm_must km_least fm_least km_pin fm_pin km_ways fm_ways km_verdict fm_verdict km_row fm_row km_struck fm_struck km_reportKnown fm_reportKnown km_reportPlace fm_reportPlace km_reportMonth fm_reportMonth km_reportDay fm_reportDay km_reportKind fm_reportKind km_trust fm_trust km_letter fm_letter p1 gmi_0 gmi_1 gmi_2 gmi_4 gmi_7 gmi_10 gmi_17 gmi_23 gmi_24 gmi_26 gmi_29 gmi_30 gmi_33 gmi_37 gmi_41 gmi_50 gmi_51 gmi_56 gfm_row gfm_struck gfm_reportKnown gfm_reportPlace gfm_reportMonth gfm_reportDay hx hb hml hown hts hK hA (Nat.le_of_ble_eq_true rfl) (Nat.le_of_ble_eq_true rfl) (Nat.zero_le _) (Nat.zero_le _) (fun v w0_37 w0_41 z1 z2 z3 z4 z5 z6 H locs ls gv gw0_37 gw0_41 gz6 hP hD hS hl => ?_) (fun v w0_37 w0_41 z1 z2 z3 z4 z5 z6 H locs ls gw0_37 gw0_41 gz6 hP hD hS hl => ?_) 62) 0 0 y_488 y_489 f_490 f_491 f_492 f_493 f_494 f_495 _ _ _ g_486 (gi_w (gi_c 0 0 (by decide)) (by decide)) gy_488 gy_489 gf_495 (by have k0 : (0 : Int32).toInt = 0 := (by decide); omega) hP hD hS (lv_sub hl [2, 3, 1, 0] rfl)
    · skip
      exact W.iret (v := v) hx hb hr (fun t ht hW => ⟨⟨v, (), rfl, (gi_any v), w0_37, w0_41, z1, z2, z3, z4, z5, z6, gw0_37, gw0_41, gz6, by rw [ht]; exact hP, hD⟩, hS.F ht⟩) hS.2.2 dX12_later_10
    · skip
      exact W.iret (v := v) hx hb hr (fun t ht hW => ⟨⟨v, (), rfl, (gi_any v), w0_37, w0_41, z1, z2, z3, z4, z5, z6, gw0_37, gw0_41, gz6, by rw [ht]; exact hP, hD⟩, hS.F ht⟩) hS.2.2 dX12_later_65
  · have g_496 : gi r_483 0 0 := gi_eq c_484 (gi_c 0 0 (by decide))
    refine lv_bipush (v := (-2)) hx hb dX12_later_8 (by decide) ?_
    exact W.iret (v := (-2)) hx hb hr (fun t ht hW => ⟨⟨(-2), (), rfl, (gi_any (-2)), (mi 37), (mi 41), fm_must, fm_least, fm_pin, fm_ways, fm_verdict, fm_row, gmi_37, gmi_41, gfm_row, by rw [ht]; exact hP, hD⟩, hS.F ht⟩) hS.2.2 dX12_later_10
theorem dX12_ways_0 : decode cX12_ways 0 = .ok (.aload_n 0, 1) := by decide +kernel
theorem dX12_ways_1 : decode cX12_ways 1 = .ok (.iload_n 1, 1) := by decide +kernel
theorem dX12_ways_2 : decode cX12_ways 2 = .ok (.invokevirtual 359, 3) := by decide +kernel
theorem dX12_ways_5 : decode cX12_ways 5 = .ok (.ifCond .ne 6, 3) := by decide +kernel
theorem dX12_ways_8 : decode cX12_ways 8 = .ok (.bipush (-2), 2) := by decide +kernel
theorem dX12_ways_10 : decode cX12_ways 10 = .ok (.ireturn, 1) := by decide +kernel
theorem dX12_ways_11 : decode cX12_ways 11 = .ok (.aload_n 0, 1) := by decide +kernel
theorem dX12_ways_12 : decode cX12_ways 12 = .ok (.iload_n 1, 1) := by decide +kernel
theorem dX12_ways_13 : decode cX12_ways 13 = .ok (.invokevirtual 362, 3) := by decide +kernel
theorem dX12_ways_16 : decode cX12_ways 16 = .ok (.aload_n 0, 1) := by decide +kernel
theorem dX12_ways_17 : decode cX12_ways 17 = .ok (.invokevirtual 332, 3) := by decide +kernel
theorem dX12_ways_20 : decode cX12_ways 20 = .ok (.ireturn, 1) := by decide +kernel
set_option maxHeartbeats 4000000 in
set_option maxRecDepth 100000 in
theorem sX12_ways (l : Launch) (dC : Nat → ClassId) (dI : Nat → Nat → Nat) (sz : Nat) (h0 : Nat) (mi : Nat → Int32) (mr : Nat → Nat) (km_must : ClassId) (fm_must : Nat → Int32) (km_least : ClassId) (fm_least : Nat → Int32) (km_pin : ClassId) (fm_pin : Nat → Int32) (km_ways : ClassId) (fm_ways : Nat → Int32) (km_verdict : ClassId) (fm_verdict : Nat → Int32) (km_row : ClassId) (fm_row : Nat → Int32) (km_struck : ClassId) (fm_struck : Nat → Int32) (km_reportKnown : ClassId) (fm_reportKnown : Nat → Int32) (km_reportPlace : ClassId) (fm_reportPlace : Nat → Int32) (km_reportMonth : ClassId) (fm_reportMonth : Nat → Int32) (km_reportDay : ClassId) (fm_reportDay : Nat → Int32) (km_reportKind : ClassId) (fm_reportKind : Nat → Int32) (km_trust : ClassId) (fm_trust : Nat → Int32) (km_letter : ClassId) (fm_letter : Nat → Int32) (p1 : Int32) (gmi_0 : gi (mi 0) 0 24) (gmi_1 : gi (mi 1) 0 5) (gmi_2 : gi (mi 2) 0 5) (gmi_4 : gi (mi 4) 0 1) (gmi_7 : gi (mi 7) 0 6) (gmi_10 : gi (mi 10) 0 24) (gmi_17 : gi (mi 17) 0 8) (gmi_23 : gi (mi 23) 0 300) (gmi_24 : gi (mi 24) 0 1) (gmi_26 : gi (mi 26) 0 1600) (gmi_29 : gi (mi 29) 0 1600) (gmi_30 : gi (mi 30) 0 1600) (gmi_33 : gi (mi 33) 0 1) (gmi_37 : gi (mi 37) 0 1) (gmi_41 : gi (mi 41) 0 24) (gmi_50 : gi (mi 50) 0 1) (gmi_51 : gi (mi 51) 0 1) (gmi_56 : gi (mi 56) 0 80) (gfm_row : ga fm_row 24 0 23) (gfm_struck : ga fm_struck 24 0 1) (gfm_reportKnown : ga fm_reportKnown 24 0 999) (gfm_reportPlace : ga fm_reportPlace 24 0 5) (gfm_reportMonth : ga fm_reportMonth 24 0 23) (gfm_reportDay : ga fm_reportDay 24 0 999) : Met l yX12_ways (.code yX12_ways cX12_ways 2 (some .int) :: wsGB) ({ frames := 5, cells := 0, slots := 0, locals := 119 }) (va_Pc [.ref h0, .int p1] (fun U => U.heap.size = sz ∧ va_P (dC, dI) vwCl [(h0, .inr (12, fsMM mi mr)), ((mr 14), .inl (km_must, 25, .inl fm_must)), ((mr 15), .inl (km_least, 25, .inl fm_least)), ((mr 16), .inl (km_pin, 25, .inl fm_pin)), ((mr 17), .inl (km_ways, 6875, .inl fm_ways)), ((mr 18), .inl (km_verdict, 24, .inl fm_verdict)), ((mr 19), .inl (km_row, 24, .inl fm_row)), ((mr 4), .inl (km_struck, 24, .inl fm_struck)), ((mr 7), .inl (km_reportKnown, 24, .inl fm_reportKnown)), ((mr 2), .inl (km_reportPlace, 24, .inl fm_reportPlace)), ((mr 5), .inl (km_reportMonth, 24, .inl fm_reportMonth)), ((mr 6), .inl (km_reportDay, 24, .inl fm_reportDay)), ((mr 3), .inl (km_reportKind, 24, .inl fm_reportKind)), ((mr 0), .inl (km_trust, 6, .inl fm_trust)), ((mr 1), .inl (km_letter, 36, .inl fm_letter))] U.heap ∧ va_K (dC, dI) vwCl [(km_must, .int), (km_least, .int), (km_pin, .int), (km_ways, .int), (km_verdict, .int), (km_row, .int), (km_struck, .boolean), (km_reportKnown, .int), (km_reportPlace, .int), (km_reportMonth, .int), (km_reportDay, .int), (km_reportKind, .int), (km_trust, .int), (km_letter, .int)] U ∧ va_D (fun _ => True) [(h0, .inr (12, fsMM mi mr)), ((mr 14), .inl (km_must, 25, .inl fm_must)), ((mr 15), .inl (km_least, 25, .inl fm_least)), ((mr 16), .inl (km_pin, 25, .inl fm_pin)), ((mr 17), .inl (km_ways, 6875, .inl fm_ways)), ((mr 18), .inl (km_verdict, 24, .inl fm_verdict)), ((mr 19), .inl (km_row, 24, .inl fm_row)), ((mr 4), .inl (km_struck, 24, .inl fm_struck)), ((mr 7), .inl (km_reportKnown, 24, .inl fm_reportKnown)), ((mr 2), .inl (km_reportPlace, 24, .inl fm_reportPlace)), ((mr 5), .inl (km_reportMonth, 24, .inl fm_reportMonth)), ((mr 6), .inl (km_reportDay, 24, .inl fm_reportDay)), ((mr 3), .inl (km_reportKind, 24, .inl fm_reportKind)), ((mr 0), .inl (km_trust, 6, .inl fm_trust)), ((mr 1), .inl (km_letter, 36, .inl fm_letter))])) (va_Qi (fun (r : Int32) (u : Unit) => gi r (-2147483648) 2147483647) (fun _ t => ∃ (w0_37 : Int32) (w0_41 : Int32) (z1 : Nat → Int32) (z2 : Nat → Int32) (z3 : Nat → Int32) (z4 : Nat → Int32) (z5 : Nat → Int32) (z6 : Nat → Int32), gi w0_37 0 1 ∧ gi w0_41 0 24 ∧ ga z6 24 0 23 ∧ va_P (dC, dI) vwCl [(h0, .inr (12, fsMM (upd (upd mi 37 w0_37) 41 w0_41) mr)), ((mr 14), .inl (km_must, 25, .inl z1)), ((mr 15), .inl (km_least, 25, .inl z2)), ((mr 16), .inl (km_pin, 25, .inl z3)), ((mr 17), .inl (km_ways, 6875, .inl z4)), ((mr 18), .inl (km_verdict, 24, .inl z5)), ((mr 19), .inl (km_row, 24, .inl z6)), ((mr 4), .inl (km_struck, 24, .inl fm_struck)), ((mr 7), .inl (km_reportKnown, 24, .inl fm_reportKnown)), ((mr 2), .inl (km_reportPlace, 24, .inl fm_reportPlace)), ((mr 5), .inl (km_reportMonth, 24, .inl fm_reportMonth)), ((mr 6), .inl (km_reportDay, 24, .inl fm_reportDay)), ((mr 3), .inl (km_reportKind, 24, .inl fm_reportKind)), ((mr 0), .inl (km_trust, 6, .inl fm_trust)), ((mr 1), .inl (km_letter, 36, .inl fm_letter))] t.heap ∧ va_D (va_A [(h0, .inr (12, fsMM mi mr)), ((mr 14), .inl (km_must, 25, .inl fm_must)), ((mr 15), .inl (km_least, 25, .inl fm_least)), ((mr 16), .inl (km_pin, 25, .inl fm_pin)), ((mr 17), .inl (km_ways, 6875, .inl fm_ways)), ((mr 18), .inl (km_verdict, 24, .inl fm_verdict)), ((mr 19), .inl (km_row, 24, .inl fm_row)), ((mr 4), .inl (km_struck, 24, .inl fm_struck)), ((mr 7), .inl (km_reportKnown, 24, .inl fm_reportKnown)), ((mr 2), .inl (km_reportPlace, 24, .inl fm_reportPlace)), ((mr 5), .inl (km_reportMonth, 24, .inl fm_reportMonth)), ((mr 6), .inl (km_reportDay, 24, .inl fm_reportDay)), ((mr 3), .inl (km_reportKind, 24, .inl fm_reportKind)), ((mr 0), .inl (km_trust, 6, .inl fm_trust)), ((mr 1), .inl (km_letter, 36, .inl fm_letter))] sz) [(h0, .inr (12, fsMM (upd (upd mi 37 w0_37) 41 w0_41) mr)), ((mr 14), .inl (km_must, 25, .inl z1)), ((mr 15), .inl (km_least, 25, .inl z2)), ((mr 16), .inl (km_pin, 25, .inl z3)), ((mr 17), .inl (km_ways, 6875, .inl z4)), ((mr 18), .inl (km_verdict, 24, .inl z5)), ((mr 19), .inl (km_row, 24, .inl z6)), ((mr 4), .inl (km_struck, 24, .inl fm_struck)), ((mr 7), .inl (km_reportKnown, 24, .inl fm_reportKnown)), ((mr 2), .inl (km_reportPlace, 24, .inl fm_reportPlace)), ((mr 5), .inl (km_reportMonth, 24, .inl fm_reportMonth)), ((mr 6), .inl (km_reportDay, 24, .inl fm_reportDay)), ((mr 3), .inl (km_reportKind, 24, .inl fm_reportKind)), ((mr 0), .inl (km_trust, 6, .inl fm_trust)), ((mr 1), .inl (km_letter, 36, .inl fm_letter))]) (va_A [(h0, .inr (12, fsMM mi mr)), ((mr 14), .inl (km_must, 25, .inl fm_must)), ((mr 15), .inl (km_least, 25, .inl fm_least)), ((mr 16), .inl (km_pin, 25, .inl fm_pin)), ((mr 17), .inl (km_ways, 6875, .inl fm_ways)), ((mr 18), .inl (km_verdict, 24, .inl fm_verdict)), ((mr 19), .inl (km_row, 24, .inl fm_row)), ((mr 4), .inl (km_struck, 24, .inl fm_struck)), ((mr 7), .inl (km_reportKnown, 24, .inl fm_reportKnown)), ((mr 2), .inl (km_reportPlace, 24, .inl fm_reportPlace)), ((mr 5), .inl (km_reportMonth, 24, .inl fm_reportMonth)), ((mr 6), .inl (km_reportDay, 24, .inl fm_reportDay)), ((mr 3), .inl (km_reportKind, 24, .inl fm_reportKind)), ((mr 0), .inl (km_trust, 6, .inl fm_trust)), ((mr 1), .inl (km_letter, 36, .inl fm_letter))] sz)) 0 0 (va_A [(h0, .inr (12, fsMM mi mr)), ((mr 14), .inl (km_must, 25, .inl fm_must)), ((mr 15), .inl (km_least, 25, .inl fm_least)), ((mr 16), .inl (km_pin, 25, .inl fm_pin)), ((mr 17), .inl (km_ways, 6875, .inl fm_ways)), ((mr 18), .inl (km_verdict, 24, .inl fm_verdict)), ((mr 19), .inl (km_row, 24, .inl fm_row)), ((mr 4), .inl (km_struck, 24, .inl fm_struck)), ((mr 7), .inl (km_reportKnown, 24, .inl fm_reportKnown)), ((mr 2), .inl (km_reportPlace, 24, .inl fm_reportPlace)), ((mr 5), .inl (km_reportMonth, 24, .inl fm_reportMonth)), ((mr 6), .inl (km_reportDay, 24, .inl fm_reportDay)), ((mr 3), .inl (km_reportKind, 24, .inl fm_reportKind)), ((mr 0), .inl (km_trust, 6, .inl fm_trust)), ((mr 1), .inl (km_letter, 36, .inl fm_letter))] sz) := by
  refine Met.ofW (cc := cX12_ways) (maxL := 2) (ret := (some .int)) (by decide) rfl ?_
  intro p e s m args below meth c s₁ B hml hv
  obtain ⟨rfl, hsz, hP, hK, hD0⟩ := hv
  have hx := B.exec
  have hb := B.bytes
  have hr := B.returns
  have hts := atoms_spec (ws := (.code yX12_ways cX12_ways 2 (some .int) :: wsGB)) B.pre
  have hown : s.vm.findClass RX12 = some m.cls := findClass_of_methodNamed B.named
  have hlocks := B.notSynchronized
  subst hsz
  have hD := hD0.self (sz := s.heap.size)
  generalize hAe : va_A [(h0, .inr (12, fsMM mi mr)), ((mr 14), .inl (km_must, 25, .inl fm_must)), ((mr 15), .inl (km_least, 25, .inl fm_least)), ((mr 16), .inl (km_pin, 25, .inl fm_pin)), ((mr 17), .inl (km_ways, 6875, .inl fm_ways)), ((mr 18), .inl (km_verdict, 24, .inl fm_verdict)), ((mr 19), .inl (km_row, 24, .inl fm_row)), ((mr 4), .inl (km_struck, 24, .inl fm_struck)), ((mr 7), .inl (km_reportKnown, 24, .inl fm_reportKnown)), ((mr 2), .inl (km_reportPlace, 24, .inl fm_reportPlace)), ((mr 5), .inl (km_reportMonth, 24, .inl fm_reportMonth)), ((mr 6), .inl (km_reportDay, 24, .inl fm_reportDay)), ((mr 3), .inl (km_reportKind, 24, .inl fm_reportKind)), ((mr 0), .inl (km_trust, 6, .inl fm_trust)), ((mr 1), .inl (km_letter, 36, .inl fm_letter))] s.heap.size = A at hD ⊢
  have hA : ∀ q : Nat, s.heap.size ≤ q → A q := fun q h => by rw [← hAe]; exact Or.inr h
  have hS : va_S A s.heap s.heap [] := va_S.rf
  have hl := lv_entry ([.ref h0, .int p1]) (n := 2) (Nat.le_of_ble_eq_true rfl)
  rw [lg_entry_eq]
  generalize (lg_sl ([.ref h0, .int p1]) ++ List.replicate (2 - (lg_sl ([.ref h0, .int p1])).length) Slot.unset).toArray = ls at hl ⊢
  have hl : lv_has ls 2 [(0, .ref h0), (1, .int p1)] := hl
  refine lv_aload_n hx hb dX12_ways_0 rfl (lv_at hl 0 rfl) ?_
  refine lv_iload_n hx hb dX12_ways_1 rfl (lv_at hl 1 rfl) ?_
  have hPc := hP.sub (ws' := [(h0, .inr (12, fsMM mi mr))]) [0] rfl
  have hKc := hK.sub (tys' := []) [] rfl
  refine va_calli (va_runV (As := [.int p1]) (rest := []) ⟨hx, hb, hml, hown, hts⟩ (sX12_isTime l dC dI h0 mi mr p1 gmi_0 gmi_1 gmi_2 gmi_4 gmi_7 gmi_10 gmi_17 gmi_23 gmi_24 gmi_26 gmi_29 gmi_30 gmi_33 gmi_37 gmi_41 gmi_50 gmi_51 gmi_56) (cwV 1 hts (gz_gV mGB_256 mGB_257 mGB_258 mGB_1 mGB_259 goodGB) rfl rfl rfl (by decide +kernel) ⟨Nat.le_of_ble_eq_true rfl, Nat.le_of_ble_eq_true rfl⟩) ⟨fun a U g mk q => by obtain ⟨q0, qP, qK⟩ := q; exact ⟨q0, qP, va_K.moved (u := U) (U := U.calling g mk a) (Vm.Alike.refl U.vm) qK⟩, va_recv hKc hPc (ci := 12) (q0 := 0) rfl rfl, fun U hU hW => ⟨rfl, by rw [hU]; exact hPc, va_K.moved hW.alike hKc⟩⟩ rfl rfl hl.1 rfl (lv_room (Nat.le_of_ble_eq_true rfl)) dX12_ways_2 ⟨Nat.zero_le _, Nat.zero_le _⟩) hS (fun q _ h => h.elim) (fun q h => h.elim) (fun r_33 u t H1 locs ht hvm hw hB hz1 hk1 hS => ?_)
  have hP := gz_keep hP hk1
  generalize H1 = H at hP hS ⊢
  have gr_33 : gi r_33 0 1 := hw.1
  have hqr_33 := hw.2
  refine lv_if_ne (tgt := 11) hx hb dX12_ways_5 (by decide) (fun c_34 => ?_) (fun c_34 => ?_)
  · have g_35 : gi r_33 1 1 := gi_ne_lo c_34 gr_33 (gi_c 0 0 (by decide)) (by decide)
    have g_36 : gi p1 0 999 := gi_cap (gi_any p1) (hqr_33 (gz_one g_35)) (by decide)
    refine lv_aload_n hx hb dX12_ways_11 rfl (lv_at hl 0 rfl) ?_
    refine lv_iload_n hx hb dX12_ways_12 rfl (lv_at hl 1 rfl) ?_
    have hPc := hP.sub (ws' := [(h0, .inr (12, fsMM mi mr)), ((mr 14), .inl (km_must, 25, .inl fm_must)), ((mr 15), .inl (km_least, 25, .inl fm_least)), ((mr 16), .inl (km_pin, 25, .inl fm_pin)), ((mr 17), .inl (km_ways, 6875, .inl fm_ways)), ((mr 18), .inl (km_verdict, 24, .inl fm_verdict)), ((mr 19), .inl (km_row, 24, .inl fm_row)), ((mr 4), .inl (km_struck, 24, .inl fm_struck)), ((mr 7), .inl (km_reportKnown, 24, .inl fm_reportKnown)), ((mr 2), .inl (km_reportPlace, 24, .inl fm_reportPlace)), ((mr 5), .inl (km_reportMonth, 24, .inl fm_reportMonth)), ((mr 6), .inl (km_reportDay, 24, .inl fm_reportDay)), ((mr 3), .inl (km_reportKind, 24, .inl fm_reportKind)), ((mr 0), .inl (km_trust, 6, .inl fm_trust)), ((mr 1), .inl (km_letter, 36, .inl fm_letter))]) [0, 1, 2, 3, 4, 5, 6, 7, 8, 9, 10, 11, 12, 13, 14] rfl
    have hKc := hK.sub (tys' := [(km_must, .int), (km_least, .int), (km_pin, .int), (km_ways, .int), (km_verdict, .int), (km_row, .int), (km_struck, .boolean), (km_reportKnown, .int), (km_reportPlace, .int), (km_reportMonth, .int), (km_reportDay, .int), (km_reportKind, .int), (km_trust, .int), (km_letter, .int)]) [0, 1, 2, 3, 4, 5, 6, 7, 8, 9, 10, 11, 12, 13] rfl
    have hDc := hD.sub (ws' := [(h0, .inr (12, fsMM mi mr)), ((mr 14), .inl (km_must, 25, .inl fm_must)), ((mr 15), .inl (km_least, 25, .inl fm_least)), ((mr 16), .inl (km_pin, 25, .inl fm_pin)), ((mr 17), .inl (km_ways, 6875, .inl fm_ways)), ((mr 18), .inl (km_verdict, 24, .inl fm_verdict)), ((mr 19), .inl (km_row, 24, .inl fm_row)), ((mr 4), .inl (km_struck, 24, .inl fm_struck)), ((mr 7), .inl (km_reportKnown, 24, .inl fm_reportKnown)), ((mr 2), .inl (km_reportPlace, 24, .inl fm_reportPlace)), ((mr 5), .inl (km_reportMonth, 24, .inl fm_reportMonth)), ((mr 6), .inl (km_reportDay, 24, .inl fm_reportDay)), ((mr 3), .inl (km_reportKind, 24, .inl fm_reportKind)), ((mr 0), .inl (km_trust, 6, .inl fm_trust)), ((mr 1), .inl (km_letter, 36, .inl fm_letter))]) [0, 1, 2, 3, 4, 5, 6, 7, 8, 9, 10, 11, 12, 13, 14] (by decide) rfl
    have hFc := va_free (wc := [(h0, .inr (12, fsMM mi mr)), ((mr 14), .inl (km_must, 25, .inl fm_must)), ((mr 15), .inl (km_least, 25, .inl fm_least)), ((mr 16), .inl (km_pin, 25, .inl fm_pin)), ((mr 17), .inl (km_ways, 6875, .inl fm_ways)), ((mr 18), .inl (km_verdict, 24, .inl fm_verdict)), ((mr 19), .inl (km_row, 24, .inl fm_row)), ((mr 4), .inl (km_struck, 24, .inl fm_struck)), ((mr 7), .inl (km_reportKnown, 24, .inl fm_reportKnown)), ((mr 2), .inl (km_reportPlace, 24, .inl fm_reportPlace)), ((mr 5), .inl (km_reportMonth, 24, .inl fm_reportMonth)), ((mr 6), .inl (km_reportDay, 24, .inl fm_reportDay)), ((mr 3), .inl (km_reportKind, 24, .inl fm_reportKind)), ((mr 0), .inl (km_trust, 6, .inl fm_trust)), ((mr 1), .inl (km_letter, 36, .inl fm_letter))]) hD hS hA [0, 1, 2, 3, 4, 5, 6, 7, 8, 9, 10, 11, 12, 13, 14] rfl
    refine va_callv (va_runV (As := [.int p1]) (rest := []) ⟨hx, hb, hml, hown, hts⟩ (sX12_judgesAll l dC dI H.size h0 mi mr km_must fm_must km_least fm_least km_pin fm_pin km_ways fm_ways km_verdict fm_verdict km_row fm_row km_struck fm_struck km_reportKnown fm_reportKnown km_reportPlace fm_reportPlace km_reportMonth fm_reportMonth km_reportDay fm_reportDay km_reportKind fm_reportKind km_trust fm_trust km_letter fm_letter p1 gmi_0 gmi_1 gmi_2 gmi_4 gmi_7 gmi_10 gmi_17 gmi_23 gmi_24 gmi_26 gmi_29 gmi_30 gmi_33 gmi_37 gmi_41 gmi_50 gmi_51 gmi_56 gfm_row gfm_struck gfm_reportKnown gfm_reportPlace gfm_reportMonth gfm_reportDay) (cwV 1 hts (gz_gV mGB_261 mGB_262 mGB_263 mGB_1 mGB_264 goodGB) rfl rfl rfl (by decide +kernel) ⟨Nat.le_of_ble_eq_true rfl, Nat.le_of_ble_eq_true rfl⟩) ⟨fun a U g mk q => by obtain ⟨q0, q1, qP, qK, qD⟩ := q; exact ⟨q0, q1, qP, va_K.moved (u := U) (U := U.calling g mk a) (Vm.Alike.refl U.vm) qK, qD⟩, va_recv hKc hPc (ci := 12) (q0 := 0) rfl rfl, fun U hU hW => ⟨rfl, by rw [hU], by rw [hU]; exact hPc, va_K.moved hW.alike hKc, hDc.weaken (fun _ _ _ _ => trivial)⟩⟩ rfl rfl hl.1 rfl (lv_room (Nat.le_of_ble_eq_true rfl)) dX12_ways_13 ⟨Nat.zero_le _, Nat.zero_le _⟩) hS (fun q _ h => hFc q h) hFc (fun u t H1 locs ht hvm hw hB hz1 hk1 hS => ?_)
    obtain ⟨y_38, y_39, f_40, f_41, f_42, f_43, f_44, f_45, gy_38, gy_39, gf_45, hP1, hD1⟩ := hB
    rw [ht] at hP1
    obtain ⟨hP, hD⟩ := va_join (wr := []) (w1 := [(h0, .inr (12, fsMM (upd (upd mi 37 y_38) 41 y_39) mr)), ((mr 14), .inl (km_must, 25, .inl f_40)), ((mr 15), .inl (km_least, 25, .inl f_41)), ((mr 16), .inl (km_pin, 25, .inl f_42)), ((mr 17), .inl (km_ways, 6875, .inl f_43)), ((mr 18), .inl (km_verdict, 24, .inl f_44)), ((mr 19), .inl (km_row, 24, .inl f_45)), ((mr 4), .inl (km_struck, 24, .inl fm_struck)), ((mr 7), .inl (km_reportKnown, 24, .inl fm_reportKnown)), ((mr 2), .inl (km_reportPlace, 24, .inl fm_reportPlace)), ((mr 5), .inl (km_reportMonth, 24, .inl fm_reportMonth)), ((mr 6), .inl (km_reportDay, 24, .inl fm_reportDay)), ((mr 3), .inl (km_reportKind, 24, .inl fm_reportKind)), ((mr 0), .inl (km_trust, 6, .inl fm_trust)), ((mr 1), .inl (km_letter, 36, .inl fm_letter))]) hP hD [0, 1, 2, 3, 4, 5, 6, 7, 8, 9, 10, 11, 12, 13, 14] [] rfl rfl (by decide) (by decide) hk1 hFc hP1 hD1
    have hP := hP.sub (ws' := [(h0, .inr (12, fsMM (upd (upd mi 37 y_38) 41 y_39) mr)), ((mr 14), .inl (km_must, 25, .inl f_40)), ((mr 15), .inl (km_least, 25, .inl f_41)), ((mr 16), .inl (km_pin, 25, .inl f_42)), ((mr 17), .inl (km_ways, 6875, .inl f_43)), ((mr 18), .inl (km_verdict, 24, .inl f_44)), ((mr 19), .inl (km_row, 24, .inl f_45)), ((mr 4), .inl (km_struck, 24, .inl fm_struck)), ((mr 7), .inl (km_reportKnown, 24, .inl fm_reportKnown)), ((mr 2), .inl (km_reportPlace, 24, .inl fm_reportPlace)), ((mr 5), .inl (km_reportMonth, 24, .inl fm_reportMonth)), ((mr 6), .inl (km_reportDay, 24, .inl fm_reportDay)), ((mr 3), .inl (km_reportKind, 24, .inl fm_reportKind)), ((mr 0), .inl (km_trust, 6, .inl fm_trust)), ((mr 1), .inl (km_letter, 36, .inl fm_letter))]) [0, 1, 2, 3, 4, 5, 6, 7, 8, 9, 10, 11, 12, 13, 14] rfl
    have hD := hD.sub (ws' := [(h0, .inr (12, fsMM (upd (upd mi 37 y_38) 41 y_39) mr)), ((mr 14), .inl (km_must, 25, .inl f_40)), ((mr 15), .inl (km_least, 25, .inl f_41)), ((mr 16), .inl (km_pin, 25, .inl f_42)), ((mr 17), .inl (km_ways, 6875, .inl f_43)), ((mr 18), .inl (km_verdict, 24, .inl f_44)), ((mr 19), .inl (km_row, 24, .inl f_45)), ((mr 4), .inl (km_struck, 24, .inl fm_struck)), ((mr 7), .inl (km_reportKnown, 24, .inl fm_reportKnown)), ((mr 2), .inl (km_reportPlace, 24, .inl fm_reportPlace)), ((mr 5), .inl (km_reportMonth, 24, .inl fm_reportMonth)), ((mr 6), .inl (km_reportDay, 24, .inl fm_reportDay)), ((mr 3), .inl (km_reportKind, 24, .inl fm_reportKind)), ((mr 0), .inl (km_trust, 6, .inl fm_trust)), ((mr 1), .inl (km_letter, 36, .inl fm_letter))]) [0, 1, 2, 3, 4, 5, 6, 7, 8, 9, 10, 11, 12, 13, 14] (by decide) rfl
    generalize H1 = H at hP hS ⊢
    refine lv_aload_n hx hb dX12_ways_16 rfl (lv_at hl 0 rfl) ?_
    have hPc := hP.sub (ws' := [(h0, .inr (12, fsMM (upd (upd mi 37 y_38) 41 y_39) mr)), ((mr 14), .inl (km_must, 25, .inl f_40)), ((mr 15), .inl (km_least, 25, .inl f_41)), ((mr 16), .inl (km_pin, 25, .inl f_42)), ((mr 17), .inl (km_ways, 6875, .inl f_43))]) [0, 1, 2, 3, 4] rfl
    have hKc := hK.sub (tys' := [(km_must, .int), (km_least, .int), (km_pin, .int), (km_ways, .int)]) [0, 1, 2, 3] rfl
    have hDc := hD.sub (ws' := [(h0, .inr (12, fsMM (upd (upd mi 37 y_38) 41 y_39) mr)), ((mr 14), .inl (km_must, 25, .inl f_40)), ((mr 15), .inl (km_least, 25, .inl f_41)), ((mr 16), .inl (km_pin, 25, .inl f_42)), ((mr 17), .inl (km_ways, 6875, .inl f_43))]) [0, 1, 2, 3, 4] (by decide) rfl
    have hFc := va_free (wc := [(h0, .inr (12, fsMM (upd (upd mi 37 y_38) 41 y_39) mr)), ((mr 14), .inl (km_must, 25, .inl f_40)), ((mr 15), .inl (km_least, 25, .inl f_41)), ((mr 16), .inl (km_pin, 25, .inl f_42)), ((mr 17), .inl (km_ways, 6875, .inl f_43))]) hD hS hA [0, 1, 2, 3, 4] rfl
    refine va_calli (va_runV (As := []) (rest := []) ⟨hx, hb, hml, hown, hts⟩ (sX12_counts l dC dI H.size h0 (upd (upd mi 37 y_38) 41 y_39) mr km_must f_40 km_least f_41 km_pin f_42 km_ways f_43 gmi_0 gmi_1 gmi_2 gmi_4 gmi_7 gmi_10 gmi_17 gmi_23 gmi_24 gmi_26 gmi_29 gmi_30 gmi_33 gy_38 gy_39 gmi_50 gmi_51 gmi_56) (cwV 0 hts (gz_gV mGB_299 mGB_300 mGB_301 mGB_1 mGB_302 goodGB) rfl rfl rfl (by decide +kernel) ⟨Nat.le_of_ble_eq_true rfl, Nat.le_of_ble_eq_true rfl⟩) ⟨fun a U g mk q => by obtain ⟨q0, q1, qP, qK, qD⟩ := q; exact ⟨q0, q1, qP, va_K.moved (u := U) (U := U.calling g mk a) (Vm.Alike.refl U.vm) qK, qD⟩, va_recv hKc hPc (ci := 12) (q0 := 0) rfl rfl, fun U hU hW => ⟨rfl, by rw [hU], by rw [hU]; exact hPc, va_K.moved hW.alike hKc, hDc.weaken (fun _ _ _ _ => trivial)⟩⟩ rfl rfl hl.1 rfl (lv_room (Nat.le_of_ble_eq_true rfl)) dX12_ways_17 ⟨Nat.zero_le _, Nat.zero_le _⟩) hS (fun q _ h => hFc q h) hFc (fun r_46 u t H1 locs ht hvm hw hB hz1 hk1 hS => ?_)
    obtain ⟨f_47, hP1, hD1⟩ := hB
    rw [ht] at hP1
    obtain ⟨hP, hD⟩ := va_join (wr := [((mr 18), .inl (km_verdict, 24, .inl f_44)), ((mr 19), .inl (km_row, 24, .inl f_45)), ((mr 4), .inl (km_struck, 24, .inl fm_struck)), ((mr 7), .inl (km_reportKnown, 24, .inl fm_reportKnown)), ((mr 2), .inl (km_reportPlace, 24, .inl fm_reportPlace)), ((mr 5), .inl (km_reportMonth, 24, .inl fm_reportMonth)), ((mr 6), .inl (km_reportDay, 24, .inl fm_reportDay)), ((mr 3), .inl (km_reportKind, 24, .inl fm_reportKind)), ((mr 0), .inl (km_trust, 6, .inl fm_trust)), ((mr 1), .inl (km_letter, 36, .inl fm_letter))]) (w1 := [(h0, .inr (12, fsMM (upd (upd mi 37 y_38) 41 y_39) mr)), ((mr 14), .inl (km_must, 25, .inl f_40)), ((mr 15), .inl (km_least, 25, .inl f_41)), ((mr 16), .inl (km_pin, 25, .inl f_42)), ((mr 17), .inl (km_ways, 6875, .inl f_47))]) hP hD [0, 1, 2, 3, 4] [5, 6, 7, 8, 9, 10, 11, 12, 13, 14] rfl rfl (by decide) (by decide) hk1 hFc hP1 hD1
    have hP := hP.sub (ws' := [(h0, .inr (12, fsMM (upd (upd mi 37 y_38) 41 y_39) mr)), ((mr 14), .inl (km_must, 25, .inl f_40)), ((mr 15), .inl (km_least, 25, .inl f_41)), ((mr 16), .inl (km_pin, 25, .inl f_42)), ((mr 17), .inl (km_ways, 6875, .inl f_47)), ((mr 18), .inl (km_verdict, 24, .inl f_44)), ((mr 19), .inl (km_row, 24, .inl f_45)), ((mr 4), .inl (km_struck, 24, .inl fm_struck)), ((mr 7), .inl (km_reportKnown, 24, .inl fm_reportKnown)), ((mr 2), .inl (km_reportPlace, 24, .inl fm_reportPlace)), ((mr 5), .inl (km_reportMonth, 24, .inl fm_reportMonth)), ((mr 6), .inl (km_reportDay, 24, .inl fm_reportDay)), ((mr 3), .inl (km_reportKind, 24, .inl fm_reportKind)), ((mr 0), .inl (km_trust, 6, .inl fm_trust)), ((mr 1), .inl (km_letter, 36, .inl fm_letter))]) [10, 11, 12, 13, 14, 0, 1, 2, 3, 4, 5, 6, 7, 8, 9] rfl
    have hD := hD.sub (ws' := [(h0, .inr (12, fsMM (upd (upd mi 37 y_38) 41 y_39) mr)), ((mr 14), .inl (km_must, 25, .inl f_40)), ((mr 15), .inl (km_least, 25, .inl f_41)), ((mr 16), .inl (km_pin, 25, .inl f_42)), ((mr 17), .inl (km_ways, 6875, .inl f_47)), ((mr 18), .inl (km_verdict, 24, .inl f_44)), ((mr 19), .inl (km_row, 24, .inl f_45)), ((mr 4), .inl (km_struck, 24, .inl fm_struck)), ((mr 7), .inl (km_reportKnown, 24, .inl fm_reportKnown)), ((mr 2), .inl (km_reportPlace, 24, .inl fm_reportPlace)), ((mr 5), .inl (km_reportMonth, 24, .inl fm_reportMonth)), ((mr 6), .inl (km_reportDay, 24, .inl fm_reportDay)), ((mr 3), .inl (km_reportKind, 24, .inl fm_reportKind)), ((mr 0), .inl (km_trust, 6, .inl fm_trust)), ((mr 1), .inl (km_letter, 36, .inl fm_letter))]) [10, 11, 12, 13, 14, 0, 1, 2, 3, 4, 5, 6, 7, 8, 9] (by decide) rfl
    generalize H1 = H at hP hS ⊢
    exact W.iret (v := r_46) hx hb hr (fun t ht hW => ⟨⟨r_46, (), rfl, (gi_any r_46), y_38, y_39, f_40, f_41, f_42, f_47, f_44, f_45, gy_38, gy_39, gf_45, by rw [ht]; exact hP, hD⟩, hS.F ht⟩) hS.2.2 dX12_ways_20
  · have g_48 : gi r_33 0 0 := gi_eq c_34 (gi_c 0 0 (by decide))
    refine lv_bipush (v := (-2)) hx hb dX12_ways_8 (by decide) ?_
    exact W.iret (v := (-2)) hx hb hr (fun t ht hW => ⟨⟨(-2), (), rfl, (gi_any (-2)), (mi 37), (mi 41), fm_must, fm_least, fm_pin, fm_ways, fm_verdict, fm_row, gmi_37, gmi_41, gfm_row, by rw [ht]; exact hP, hD⟩, hS.F ht⟩) hS.2.2 dX12_ways_10
theorem dX12_begin_0 : decode cX12_begin 0 = .ok (.aload_n 0, 1) := by decide +kernel
theorem dX12_begin_1 : decode cX12_begin 1 = .ok (.iload_n 1, 1) := by decide +kernel
theorem dX12_begin_2 : decode cX12_begin 2 = .ok (.invokevirtual 359, 3) := by decide +kernel
theorem dX12_begin_5 : decode cX12_begin 5 = .ok (.ifCond .eq 11, 3) := by decide +kernel
theorem dX12_begin_8 : decode cX12_begin 8 = .ok (.aload_n 0, 1) := by decide +kernel
theorem dX12_begin_9 : decode cX12_begin 9 = .ok (.iload_n 2, 1) := by decide +kernel
theorem dX12_begin_10 : decode cX12_begin 10 = .ok (.invokevirtual 379, 3) := by decide +kernel
theorem dX12_begin_13 : decode cX12_begin 13 = .ok (.ifCond .ne 6, 3) := by decide +kernel
theorem dX12_begin_16 : decode cX12_begin 16 = .ok (.bipush (-2), 2) := by decide +kernel
theorem dX12_begin_18 : decode cX12_begin 18 = .ok (.ireturn, 1) := by decide +kernel
theorem dX12_begin_19 : decode cX12_begin 19 = .ok (.aload_n 0, 1) := by decide +kernel
theorem dX12_begin_20 : decode cX12_begin 20 = .ok (.iload_n 1, 1) := by decide +kernel
theorem dX12_begin_21 : decode cX12_begin 21 = .ok (.invokevirtual 382, 3) := by decide +kernel
theorem dX12_begin_24 : decode cX12_begin 24 = .ok (.aload_n 0, 1) := by decide +kernel
theorem dX12_begin_25 : decode cX12_begin 25 = .ok (.getfield 87, 3) := by decide +kernel
theorem dX12_begin_28 : decode cX12_begin 28 = .ok (.iload_n 2, 1) := by decide +kernel
theorem dX12_begin_29 : decode cX12_begin 29 = .ok (.iaload, 1) := by decide +kernel
theorem dX12_begin_30 : decode cX12_begin 30 = .ok (.ireturn, 1) := by decide +kernel
set_option maxHeartbeats 4000000 in
set_option maxRecDepth 100000 in
theorem sX12_begin (l : Launch) (dC : Nat → ClassId) (dI : Nat → Nat → Nat) (sz : Nat) (h0 : Nat) (mi : Nat → Int32) (mr : Nat → Nat) (km_must : ClassId) (fm_must : Nat → Int32) (km_least : ClassId) (fm_least : Nat → Int32) (km_pin : ClassId) (fm_pin : Nat → Int32) (km_ways : ClassId) (fm_ways : Nat → Int32) (km_verdict : ClassId) (fm_verdict : Nat → Int32) (km_row : ClassId) (fm_row : Nat → Int32) (km_struck : ClassId) (fm_struck : Nat → Int32) (km_reportKnown : ClassId) (fm_reportKnown : Nat → Int32) (km_reportPlace : ClassId) (fm_reportPlace : Nat → Int32) (km_reportMonth : ClassId) (fm_reportMonth : Nat → Int32) (km_reportDay : ClassId) (fm_reportDay : Nat → Int32) (km_reportKind : ClassId) (fm_reportKind : Nat → Int32) (km_trust : ClassId) (fm_trust : Nat → Int32) (km_letter : ClassId) (fm_letter : Nat → Int32) (km_official : ClassId) (fm_official : Nat → Int32) (p1 : Int32) (p2 : Int32) (gmi_0 : gi (mi 0) 0 24) (gmi_1 : gi (mi 1) 0 5) (gmi_2 : gi (mi 2) 0 5) (gmi_4 : gi (mi 4) 0 1) (gmi_7 : gi (mi 7) 0 6) (gmi_10 : gi (mi 10) 0 24) (gmi_17 : gi (mi 17) 0 8) (gmi_23 : gi (mi 23) 0 300) (gmi_24 : gi (mi 24) 0 1) (gmi_26 : gi (mi 26) 0 1600) (gmi_29 : gi (mi 29) 0 1600) (gmi_30 : gi (mi 30) 0 1600) (gmi_33 : gi (mi 33) 0 1) (gmi_37 : gi (mi 37) 0 1) (gmi_41 : gi (mi 41) 0 24) (gmi_50 : gi (mi 50) 0 1) (gmi_51 : gi (mi 51) 0 1) (gmi_56 : gi (mi 56) 0 80) (gfm_row : ga fm_row 24 0 23) (gfm_struck : ga fm_struck 24 0 1) (gfm_reportKnown : ga fm_reportKnown 24 0 999) (gfm_reportPlace : ga fm_reportPlace 24 0 5) (gfm_reportMonth : ga fm_reportMonth 24 0 23) (gfm_reportDay : ga fm_reportDay 24 0 999) : Met l yX12_begin (.code yX12_begin cX12_begin 3 (some .int) :: wsGB) ({ frames := 6, cells := 0, slots := 0, locals := 140 }) (va_Pc [.ref h0, .int p1, .int p2] (fun U => U.heap.size = sz ∧ va_P (dC, dI) vwCl [(h0, .inr (12, fsMM mi mr)), ((mr 14), .inl (km_must, 25, .inl fm_must)), ((mr 15), .inl (km_least, 25, .inl fm_least)), ((mr 16), .inl (km_pin, 25, .inl fm_pin)), ((mr 17), .inl (km_ways, 6875, .inl fm_ways)), ((mr 18), .inl (km_verdict, 24, .inl fm_verdict)), ((mr 19), .inl (km_row, 24, .inl fm_row)), ((mr 4), .inl (km_struck, 24, .inl fm_struck)), ((mr 7), .inl (km_reportKnown, 24, .inl fm_reportKnown)), ((mr 2), .inl (km_reportPlace, 24, .inl fm_reportPlace)), ((mr 5), .inl (km_reportMonth, 24, .inl fm_reportMonth)), ((mr 6), .inl (km_reportDay, 24, .inl fm_reportDay)), ((mr 3), .inl (km_reportKind, 24, .inl fm_reportKind)), ((mr 0), .inl (km_trust, 6, .inl fm_trust)), ((mr 1), .inl (km_letter, 36, .inl fm_letter)), ((mr 20), .inl (km_official, 25, .inl fm_official))] U.heap ∧ va_K (dC, dI) vwCl [(km_must, .int), (km_least, .int), (km_pin, .int), (km_ways, .int), (km_verdict, .int), (km_row, .int), (km_struck, .boolean), (km_reportKnown, .int), (km_reportPlace, .int), (km_reportMonth, .int), (km_reportDay, .int), (km_reportKind, .int), (km_trust, .int), (km_letter, .int), (km_official, .int)] U ∧ va_D (fun _ => True) [(h0, .inr (12, fsMM mi mr)), ((mr 14), .inl (km_must, 25, .inl fm_must)), ((mr 15), .inl (km_least, 25, .inl fm_least)), ((mr 16), .inl (km_pin, 25, .inl fm_pin)), ((mr 17), .inl (km_ways, 6875, .inl fm_ways)), ((mr 18), .inl (km_verdict, 24, .inl fm_verdict)), ((mr 19), .inl (km_row, 24, .inl fm_row)), ((mr 4), .inl (km_struck, 24, .inl fm_struck)), ((mr 7), .inl (km_reportKnown, 24, .inl fm_reportKnown)), ((mr 2), .inl (km_reportPlace, 24, .inl fm_reportPlace)), ((mr 5), .inl (km_reportMonth, 24, .inl fm_reportMonth)), ((mr 6), .inl (km_reportDay, 24, .inl fm_reportDay)), ((mr 3), .inl (km_reportKind, 24, .inl fm_reportKind)), ((mr 0), .inl (km_trust, 6, .inl fm_trust)), ((mr 1), .inl (km_letter, 36, .inl fm_letter)), ((mr 20), .inl (km_official, 25, .inl fm_official))])) (va_Qi (fun (r : Int32) (u : Unit) => gi r (-2147483648) 2147483647) (fun _ t => ∃ (w0_37 : Int32) (w0_41 : Int32) (z1 : Nat → Int32) (z2 : Nat → Int32) (z3 : Nat → Int32) (z4 : Nat → Int32) (z5 : Nat → Int32) (z6 : Nat → Int32) (z15 : Nat → Int32), gi w0_37 0 1 ∧ gi w0_41 0 24 ∧ ga z6 24 0 23 ∧ va_P (dC, dI) vwCl [(h0, .inr (12, fsMM (upd (upd mi 37 w0_37) 41 w0_41) mr)), ((mr 14), .inl (km_must, 25, .inl z1)), ((mr 15), .inl (km_least, 25, .inl z2)), ((mr 16), .inl (km_pin, 25, .inl z3)), ((mr 17), .inl (km_ways, 6875, .inl z4)), ((mr 18), .inl (km_verdict, 24, .inl z5)), ((mr 19), .inl (km_row, 24, .inl z6)), ((mr 4), .inl (km_struck, 24, .inl fm_struck)), ((mr 7), .inl (km_reportKnown, 24, .inl fm_reportKnown)), ((mr 2), .inl (km_reportPlace, 24, .inl fm_reportPlace)), ((mr 5), .inl (km_reportMonth, 24, .inl fm_reportMonth)), ((mr 6), .inl (km_reportDay, 24, .inl fm_reportDay)), ((mr 3), .inl (km_reportKind, 24, .inl fm_reportKind)), ((mr 0), .inl (km_trust, 6, .inl fm_trust)), ((mr 1), .inl (km_letter, 36, .inl fm_letter)), ((mr 20), .inl (km_official, 25, .inl z15))] t.heap ∧ va_D (va_A [(h0, .inr (12, fsMM mi mr)), ((mr 14), .inl (km_must, 25, .inl fm_must)), ((mr 15), .inl (km_least, 25, .inl fm_least)), ((mr 16), .inl (km_pin, 25, .inl fm_pin)), ((mr 17), .inl (km_ways, 6875, .inl fm_ways)), ((mr 18), .inl (km_verdict, 24, .inl fm_verdict)), ((mr 19), .inl (km_row, 24, .inl fm_row)), ((mr 4), .inl (km_struck, 24, .inl fm_struck)), ((mr 7), .inl (km_reportKnown, 24, .inl fm_reportKnown)), ((mr 2), .inl (km_reportPlace, 24, .inl fm_reportPlace)), ((mr 5), .inl (km_reportMonth, 24, .inl fm_reportMonth)), ((mr 6), .inl (km_reportDay, 24, .inl fm_reportDay)), ((mr 3), .inl (km_reportKind, 24, .inl fm_reportKind)), ((mr 0), .inl (km_trust, 6, .inl fm_trust)), ((mr 1), .inl (km_letter, 36, .inl fm_letter)), ((mr 20), .inl (km_official, 25, .inl fm_official))] sz) [(h0, .inr (12, fsMM (upd (upd mi 37 w0_37) 41 w0_41) mr)), ((mr 14), .inl (km_must, 25, .inl z1)), ((mr 15), .inl (km_least, 25, .inl z2)), ((mr 16), .inl (km_pin, 25, .inl z3)), ((mr 17), .inl (km_ways, 6875, .inl z4)), ((mr 18), .inl (km_verdict, 24, .inl z5)), ((mr 19), .inl (km_row, 24, .inl z6)), ((mr 4), .inl (km_struck, 24, .inl fm_struck)), ((mr 7), .inl (km_reportKnown, 24, .inl fm_reportKnown)), ((mr 2), .inl (km_reportPlace, 24, .inl fm_reportPlace)), ((mr 5), .inl (km_reportMonth, 24, .inl fm_reportMonth)), ((mr 6), .inl (km_reportDay, 24, .inl fm_reportDay)), ((mr 3), .inl (km_reportKind, 24, .inl fm_reportKind)), ((mr 0), .inl (km_trust, 6, .inl fm_trust)), ((mr 1), .inl (km_letter, 36, .inl fm_letter)), ((mr 20), .inl (km_official, 25, .inl z15))]) (va_A [(h0, .inr (12, fsMM mi mr)), ((mr 14), .inl (km_must, 25, .inl fm_must)), ((mr 15), .inl (km_least, 25, .inl fm_least)), ((mr 16), .inl (km_pin, 25, .inl fm_pin)), ((mr 17), .inl (km_ways, 6875, .inl fm_ways)), ((mr 18), .inl (km_verdict, 24, .inl fm_verdict)), ((mr 19), .inl (km_row, 24, .inl fm_row)), ((mr 4), .inl (km_struck, 24, .inl fm_struck)), ((mr 7), .inl (km_reportKnown, 24, .inl fm_reportKnown)), ((mr 2), .inl (km_reportPlace, 24, .inl fm_reportPlace)), ((mr 5), .inl (km_reportMonth, 24, .inl fm_reportMonth)), ((mr 6), .inl (km_reportDay, 24, .inl fm_reportDay)), ((mr 3), .inl (km_reportKind, 24, .inl fm_reportKind)), ((mr 0), .inl (km_trust, 6, .inl fm_trust)), ((mr 1), .inl (km_letter, 36, .inl fm_letter)), ((mr 20), .inl (km_official, 25, .inl fm_official))] sz)) 0 0 (va_A [(h0, .inr (12, fsMM mi mr)), ((mr 14), .inl (km_must, 25, .inl fm_must)), ((mr 15), .inl (km_least, 25, .inl fm_least)), ((mr 16), .inl (km_pin, 25, .inl fm_pin)), ((mr 17), .inl (km_ways, 6875, .inl fm_ways)), ((mr 18), .inl (km_verdict, 24, .inl fm_verdict)), ((mr 19), .inl (km_row, 24, .inl fm_row)), ((mr 4), .inl (km_struck, 24, .inl fm_struck)), ((mr 7), .inl (km_reportKnown, 24, .inl fm_reportKnown)), ((mr 2), .inl (km_reportPlace, 24, .inl fm_reportPlace)), ((mr 5), .inl (km_reportMonth, 24, .inl fm_reportMonth)), ((mr 6), .inl (km_reportDay, 24, .inl fm_reportDay)), ((mr 3), .inl (km_reportKind, 24, .inl fm_reportKind)), ((mr 0), .inl (km_trust, 6, .inl fm_trust)), ((mr 1), .inl (km_letter, 36, .inl fm_letter)), ((mr 20), .inl (km_official, 25, .inl fm_official))] sz) := by
  refine Met.ofW (cc := cX12_begin) (maxL := 3) (ret := (some .int)) (by decide) rfl ?_
  intro p e s m args below meth c s₁ B hml hv
  obtain ⟨rfl, hsz, hP, hK, hD0⟩ := hv
  have hx := B.exec
  have hb := B.bytes
  have hr := B.returns
  have hts := atoms_spec (ws := (.code yX12_begin cX12_begin 3 (some .int) :: wsGB)) B.pre
  have hown : s.vm.findClass RX12 = some m.cls := findClass_of_methodNamed B.named
  have hlocks := B.notSynchronized
  subst hsz
  have hD := hD0.self (sz := s.heap.size)
  generalize hAe : va_A [(h0, .inr (12, fsMM mi mr)), ((mr 14), .inl (km_must, 25, .inl fm_must)), ((mr 15), .inl (km_least, 25, .inl fm_least)), ((mr 16), .inl (km_pin, 25, .inl fm_pin)), ((mr 17), .inl (km_ways, 6875, .inl fm_ways)), ((mr 18), .inl (km_verdict, 24, .inl fm_verdict)), ((mr 19), .inl (km_row, 24, .inl fm_row)), ((mr 4), .inl (km_struck, 24, .inl fm_struck)), ((mr 7), .inl (km_reportKnown, 24, .inl fm_reportKnown)), ((mr 2), .inl (km_reportPlace, 24, .inl fm_reportPlace)), ((mr 5), .inl (km_reportMonth, 24, .inl fm_reportMonth)), ((mr 6), .inl (km_reportDay, 24, .inl fm_reportDay)), ((mr 3), .inl (km_reportKind, 24, .inl fm_reportKind)), ((mr 0), .inl (km_trust, 6, .inl fm_trust)), ((mr 1), .inl (km_letter, 36, .inl fm_letter)), ((mr 20), .inl (km_official, 25, .inl fm_official))] s.heap.size = A at hD ⊢
  have hA : ∀ q : Nat, s.heap.size ≤ q → A q := fun q h => by rw [← hAe]; exact Or.inr h
  have hS : va_S A s.heap s.heap [] := va_S.rf
  have hl := lv_entry ([.ref h0, .int p1, .int p2]) (n := 3) (Nat.le_of_ble_eq_true rfl)
  rw [lg_entry_eq]
  generalize (lg_sl ([.ref h0, .int p1, .int p2]) ++ List.replicate (3 - (lg_sl ([.ref h0, .int p1, .int p2])).length) Slot.unset).toArray = ls at hl ⊢
  have hl : lv_has ls 3 [(0, .ref h0), (1, .int p1), (2, .int p2)] := hl
  refine lv_aload_n hx hb dX12_begin_0 rfl (lv_at hl 0 rfl) ?_
  refine lv_iload_n hx hb dX12_begin_1 rfl (lv_at hl 1 rfl) ?_
  have hPc := hP.sub (ws' := [(h0, .inr (12, fsMM mi mr))]) [0] rfl
  have hKc := hK.sub (tys' := []) [] rfl
  refine va_calli (va_runV (As := [.int p1]) (rest := []) ⟨hx, hb, hml, hown, hts⟩ (sX12_isTime l dC dI h0 mi mr p1 gmi_0 gmi_1 gmi_2 gmi_4 gmi_7 gmi_10 gmi_17 gmi_23 gmi_24 gmi_26 gmi_29 gmi_30 gmi_33 gmi_37 gmi_41 gmi_50 gmi_51 gmi_56) (cwV 1 hts (gz_gV mGB_256 mGB_257 mGB_258 mGB_1 mGB_259 goodGB) rfl rfl rfl (by decide +kernel) ⟨Nat.le_of_ble_eq_true rfl, Nat.le_of_ble_eq_true rfl⟩) ⟨fun a U g mk q => by obtain ⟨q0, qP, qK⟩ := q; exact ⟨q0, qP, va_K.moved (u := U) (U := U.calling g mk a) (Vm.Alike.refl U.vm) qK⟩, va_recv hKc hPc (ci := 12) (q0 := 0) rfl rfl, fun U hU hW => ⟨rfl, by rw [hU]; exact hPc, va_K.moved hW.alike hKc⟩⟩ rfl rfl hl.1 rfl (lv_room (Nat.le_of_ble_eq_true rfl)) dX12_begin_2 ⟨Nat.zero_le _, Nat.zero_le _⟩) hS (fun q _ h => h.elim) (fun q h => h.elim) (fun r_43 u t H1 locs ht hvm hw hB hz1 hk1 hS => ?_)
  have hP := gz_keep hP hk1
  generalize H1 = H at hP hS ⊢
  have gr_43 : gi r_43 0 1 := hw.1
  have hqr_43 := hw.2
  refine lv_if_eq (tgt := 16) hx hb dX12_begin_5 (by decide) (fun c_44 => ?_) (fun c_44 => ?_)
  · have g_45 : gi r_43 0 0 := gi_eq c_44 (gi_c 0 0 (by decide))
    refine lv_bipush (v := (-2)) hx hb dX12_begin_16 (by decide) ?_
    exact W.iret (v := (-2)) hx hb hr (fun t ht hW => ⟨⟨(-2), (), rfl, (gi_any (-2)), (mi 37), (mi 41), fm_must, fm_least, fm_pin, fm_ways, fm_verdict, fm_row, fm_official, gmi_37, gmi_41, gfm_row, by rw [ht]; exact hP, hD⟩, hS.F ht⟩) hS.2.2 dX12_begin_18
  · have g_46 : gi r_43 1 1 := gi_ne_lo c_44 gr_43 (gi_c 0 0 (by decide)) (by decide)
    have g_47 : gi p1 0 999 := gi_cap (gi_any p1) (hqr_43 (gz_one g_46)) (by decide)
    refine lv_aload_n hx hb dX12_begin_8 rfl (lv_at hl 0 rfl) ?_
    refine lv_iload_n hx hb dX12_begin_9 rfl (lv_at hl 2 rfl) ?_
    have hPc := hP.sub (ws' := [(h0, .inr (12, fsMM mi mr))]) [0] rfl
    have hKc := hK.sub (tys' := []) [] rfl
    refine va_calli (va_runV (As := [.int p2]) (rest := []) ⟨hx, hb, hml, hown, hts⟩ (sX12_isBegin l dC dI h0 mi mr p2 gmi_0 gmi_1 gmi_2 gmi_4 gmi_7 gmi_10 gmi_17 gmi_23 gmi_24 gmi_26 gmi_29 gmi_30 gmi_33 gmi_37 gmi_41 gmi_50 gmi_51 gmi_56) (cwV 1 hts (gz_gV mGB_354 mGB_355 mGB_356 mGB_1 mGB_357 goodGB) rfl rfl rfl (by decide +kernel) ⟨Nat.le_of_ble_eq_true rfl, Nat.le_of_ble_eq_true rfl⟩) ⟨fun a U g mk q => by obtain ⟨q0, qP, qK⟩ := q; exact ⟨q0, qP, va_K.moved (u := U) (U := U.calling g mk a) (Vm.Alike.refl U.vm) qK⟩, va_recv hKc hPc (ci := 12) (q0 := 0) rfl rfl, fun U hU hW => ⟨rfl, by rw [hU]; exact hPc, va_K.moved hW.alike hKc⟩⟩ rfl rfl hl.1 rfl (lv_room (Nat.le_of_ble_eq_true rfl)) dX12_begin_10 ⟨Nat.zero_le _, Nat.zero_le _⟩) hS (fun q _ h => h.elim) (fun q h => h.elim) (fun r_48 u t H1 locs ht hvm hw hB hz1 hk1 hS => ?_)
    have hP := gz_keep hP hk1
    generalize H1 = H at hP hS ⊢
    have gr_48 : gi r_48 0 1 := hw.1
    have hqr_48 := hw.2
    refine lv_if_ne (tgt := 19) hx hb dX12_begin_13 (by decide) (fun c_49 => ?_) (fun c_49 => ?_)
    · have g_50 : gi r_48 1 1 := gi_ne_lo c_49 gr_48 (gi_c 0 0 (by decide)) (by decide)
      have g_51 : gi p2 0 24 := gi_cap (gi_any p2) (hqr_48 (gz_one g_50)) (by decide)
      refine lv_aload_n hx hb dX12_begin_19 rfl (lv_at hl 0 rfl) ?_
      refine lv_iload_n hx hb dX12_begin_20 rfl (lv_at hl 1 rfl) ?_
      have hPc := hP.sub (ws' := [(h0, .inr (12, fsMM mi mr)), ((mr 14), .inl (km_must, 25, .inl fm_must)), ((mr 15), .inl (km_least, 25, .inl fm_least)), ((mr 16), .inl (km_pin, 25, .inl fm_pin)), ((mr 17), .inl (km_ways, 6875, .inl fm_ways)), ((mr 18), .inl (km_verdict, 24, .inl fm_verdict)), ((mr 19), .inl (km_row, 24, .inl fm_row)), ((mr 4), .inl (km_struck, 24, .inl fm_struck)), ((mr 7), .inl (km_reportKnown, 24, .inl fm_reportKnown)), ((mr 2), .inl (km_reportPlace, 24, .inl fm_reportPlace)), ((mr 5), .inl (km_reportMonth, 24, .inl fm_reportMonth)), ((mr 6), .inl (km_reportDay, 24, .inl fm_reportDay)), ((mr 3), .inl (km_reportKind, 24, .inl fm_reportKind)), ((mr 0), .inl (km_trust, 6, .inl fm_trust)), ((mr 1), .inl (km_letter, 36, .inl fm_letter)), ((mr 20), .inl (km_official, 25, .inl fm_official))]) [0, 1, 2, 3, 4, 5, 6, 7, 8, 9, 10, 11, 12, 13, 14, 15] rfl
      have hKc := hK.sub (tys' := [(km_must, .int), (km_least, .int), (km_pin, .int), (km_ways, .int), (km_verdict, .int), (km_row, .int), (km_struck, .boolean), (km_reportKnown, .int), (km_reportPlace, .int), (km_reportMonth, .int), (km_reportDay, .int), (km_reportKind, .int), (km_trust, .int), (km_letter, .int), (km_official, .int)]) [0, 1, 2, 3, 4, 5, 6, 7, 8, 9, 10, 11, 12, 13, 14] rfl
      have hDc := hD.sub (ws' := [(h0, .inr (12, fsMM mi mr)), ((mr 14), .inl (km_must, 25, .inl fm_must)), ((mr 15), .inl (km_least, 25, .inl fm_least)), ((mr 16), .inl (km_pin, 25, .inl fm_pin)), ((mr 17), .inl (km_ways, 6875, .inl fm_ways)), ((mr 18), .inl (km_verdict, 24, .inl fm_verdict)), ((mr 19), .inl (km_row, 24, .inl fm_row)), ((mr 4), .inl (km_struck, 24, .inl fm_struck)), ((mr 7), .inl (km_reportKnown, 24, .inl fm_reportKnown)), ((mr 2), .inl (km_reportPlace, 24, .inl fm_reportPlace)), ((mr 5), .inl (km_reportMonth, 24, .inl fm_reportMonth)), ((mr 6), .inl (km_reportDay, 24, .inl fm_reportDay)), ((mr 3), .inl (km_reportKind, 24, .inl fm_reportKind)), ((mr 0), .inl (km_trust, 6, .inl fm_trust)), ((mr 1), .inl (km_letter, 36, .inl fm_letter)), ((mr 20), .inl (km_official, 25, .inl fm_official))]) [0, 1, 2, 3, 4, 5, 6, 7, 8, 9, 10, 11, 12, 13, 14, 15] (by decide) rfl
      have hFc := va_free (wc := [(h0, .inr (12, fsMM mi mr)), ((mr 14), .inl (km_must, 25, .inl fm_must)), ((mr 15), .inl (km_least, 25, .inl fm_least)), ((mr 16), .inl (km_pin, 25, .inl fm_pin)), ((mr 17), .inl (km_ways, 6875, .inl fm_ways)), ((mr 18), .inl (km_verdict, 24, .inl fm_verdict)), ((mr 19), .inl (km_row, 24, .inl fm_row)), ((mr 4), .inl (km_struck, 24, .inl fm_struck)), ((mr 7), .inl (km_reportKnown, 24, .inl fm_reportKnown)), ((mr 2), .inl (km_reportPlace, 24, .inl fm_reportPlace)), ((mr 5), .inl (km_reportMonth, 24, .inl fm_reportMonth)), ((mr 6), .inl (km_reportDay, 24, .inl fm_reportDay)), ((mr 3), .inl (km_reportKind, 24, .inl fm_reportKind)), ((mr 0), .inl (km_trust, 6, .inl fm_trust)), ((mr 1), .inl (km_letter, 36, .inl fm_letter)), ((mr 20), .inl (km_official, 25, .inl fm_official))]) hD hS hA [0, 1, 2, 3, 4, 5, 6, 7, 8, 9, 10, 11, 12, 13, 14, 15] rfl
      refine va_callv (va_runV (As := [.int p1]) (rest := []) ⟨hx, hb, hml, hown, hts⟩ (sX12_officialBy l dC dI H.size h0 mi mr km_must fm_must km_least fm_least km_pin fm_pin km_ways fm_ways km_verdict fm_verdict km_row fm_row km_struck fm_struck km_reportKnown fm_reportKnown km_reportPlace fm_reportPlace km_reportMonth fm_reportMonth km_reportDay fm_reportDay km_reportKind fm_reportKind km_trust fm_trust km_letter fm_letter km_official fm_official p1 gmi_0 gmi_1 gmi_2 gmi_4 gmi_7 gmi_10 gmi_17 gmi_23 gmi_24 gmi_26 gmi_29 gmi_30 gmi_33 gmi_37 gmi_41 gmi_50 gmi_51 gmi_56 gfm_row gfm_struck gfm_reportKnown gfm_reportPlace gfm_reportMonth gfm_reportDay) (cwV 1 hts (gz_gV mGB_358 mGB_359 mGB_360 mGB_1 mGB_361 goodGB) rfl rfl rfl (by decide +kernel) ⟨Nat.le_of_ble_eq_true rfl, Nat.le_of_ble_eq_true rfl⟩) ⟨fun a U g mk q => by obtain ⟨q0, q1, qP, qK, qD⟩ := q; exact ⟨q0, q1, qP, va_K.moved (u := U) (U := U.calling g mk a) (Vm.Alike.refl U.vm) qK, qD⟩, va_recv hKc hPc (ci := 12) (q0 := 0) rfl rfl, fun U hU hW => ⟨rfl, by rw [hU], by rw [hU]; exact hPc, va_K.moved hW.alike hKc, hDc.weaken (fun _ _ _ _ => trivial)⟩⟩ rfl rfl hl.1 rfl (lv_room (Nat.le_of_ble_eq_true rfl)) dX12_begin_21 ⟨Nat.zero_le _, Nat.zero_le _⟩) hS (fun q _ h => hFc q h) hFc (fun u t H1 locs ht hvm hw hB hz1 hk1 hS => ?_)
      obtain ⟨y_53, y_54, f_55, f_56, f_57, f_58, f_59, f_60, f_61, gy_53, gy_54, gf_60, hP1, hD1⟩ := hB
      rw [ht] at hP1
      obtain ⟨hP, hD⟩ := va_join (wr := []) (w1 := [(h0, .inr (12, fsMM (upd (upd mi 37 y_53) 41 y_54) mr)), ((mr 14), .inl (km_must, 25, .inl f_55)), ((mr 15), .inl (km_least, 25, .inl f_56)), ((mr 16), .inl (km_pin, 25, .inl f_57)), ((mr 17), .inl (km_ways, 6875, .inl f_58)), ((mr 18), .inl (km_verdict, 24, .inl f_59)), ((mr 19), .inl (km_row, 24, .inl f_60)), ((mr 4), .inl (km_struck, 24, .inl fm_struck)), ((mr 7), .inl (km_reportKnown, 24, .inl fm_reportKnown)), ((mr 2), .inl (km_reportPlace, 24, .inl fm_reportPlace)), ((mr 5), .inl (km_reportMonth, 24, .inl fm_reportMonth)), ((mr 6), .inl (km_reportDay, 24, .inl fm_reportDay)), ((mr 3), .inl (km_reportKind, 24, .inl fm_reportKind)), ((mr 0), .inl (km_trust, 6, .inl fm_trust)), ((mr 1), .inl (km_letter, 36, .inl fm_letter)), ((mr 20), .inl (km_official, 25, .inl f_61))]) hP hD [0, 1, 2, 3, 4, 5, 6, 7, 8, 9, 10, 11, 12, 13, 14, 15] [] rfl rfl (by decide) (by decide) hk1 hFc hP1 hD1
      have hP := hP.sub (ws' := [(h0, .inr (12, fsMM (upd (upd mi 37 y_53) 41 y_54) mr)), ((mr 14), .inl (km_must, 25, .inl f_55)), ((mr 15), .inl (km_least, 25, .inl f_56)), ((mr 16), .inl (km_pin, 25, .inl f_57)), ((mr 17), .inl (km_ways, 6875, .inl f_58)), ((mr 18), .inl (km_verdict, 24, .inl f_59)), ((mr 19), .inl (km_row, 24, .inl f_60)), ((mr 4), .inl (km_struck, 24, .inl fm_struck)), ((mr 7), .inl (km_reportKnown, 24, .inl fm_reportKnown)), ((mr 2), .inl (km_reportPlace, 24, .inl fm_reportPlace)), ((mr 5), .inl (km_reportMonth, 24, .inl fm_reportMonth)), ((mr 6), .inl (km_reportDay, 24, .inl fm_reportDay)), ((mr 3), .inl (km_reportKind, 24, .inl fm_reportKind)), ((mr 0), .inl (km_trust, 6, .inl fm_trust)), ((mr 1), .inl (km_letter, 36, .inl fm_letter)), ((mr 20), .inl (km_official, 25, .inl f_61))]) [0, 1, 2, 3, 4, 5, 6, 7, 8, 9, 10, 11, 12, 13, 14, 15] rfl
      have hD := hD.sub (ws' := [(h0, .inr (12, fsMM (upd (upd mi 37 y_53) 41 y_54) mr)), ((mr 14), .inl (km_must, 25, .inl f_55)), ((mr 15), .inl (km_least, 25, .inl f_56)), ((mr 16), .inl (km_pin, 25, .inl f_57)), ((mr 17), .inl (km_ways, 6875, .inl f_58)), ((mr 18), .inl (km_verdict, 24, .inl f_59)), ((mr 19), .inl (km_row, 24, .inl f_60)), ((mr 4), .inl (km_struck, 24, .inl fm_struck)), ((mr 7), .inl (km_reportKnown, 24, .inl fm_reportKnown)), ((mr 2), .inl (km_reportPlace, 24, .inl fm_reportPlace)), ((mr 5), .inl (km_reportMonth, 24, .inl fm_reportMonth)), ((mr 6), .inl (km_reportDay, 24, .inl fm_reportDay)), ((mr 3), .inl (km_reportKind, 24, .inl fm_reportKind)), ((mr 0), .inl (km_trust, 6, .inl fm_trust)), ((mr 1), .inl (km_letter, 36, .inl fm_letter)), ((mr 20), .inl (km_official, 25, .inl f_61))]) [0, 1, 2, 3, 4, 5, 6, 7, 8, 9, 10, 11, 12, 13, 14, 15] (by decide) rfl
      generalize H1 = H at hP hS ⊢
      refine lv_aload_n hx hb dX12_begin_24 rfl (lv_at hl 0 rfl) ?_
      refine va_get (D := (dC, dI)) (ci := 12) (v := .ref (mr 20)) (C := RX12) (T := TX12) (N := 57) hx hb hts (fun w h => List.mem_cons_of_mem _ (jnGB_X12 w h)) hown hK hP 0 rfl rfl 46 (by decide) (hts _ (List.mem_cons_of_mem _ mGB_36)) (fun _ h9 => h9) rfl dX12_begin_25 ?_
      refine lv_iload_n hx hb dX12_begin_28 rfl (lv_at hl 2 rfl) ?_
      refine va_iald hx hb hK hP 15 14 rfl rfl (gi_in g_51 (by decide)) dX12_begin_29 ?_
      refine lv_topi (fun x_62 ex_62 => ?_)
      exact W.iret (v := x_62) hx hb hr (fun t ht hW => ⟨⟨x_62, (), rfl, (gi_any x_62), y_53, y_54, f_55, f_56, f_57, f_58, f_59, f_60, f_61, gy_53, gy_54, gf_60, by rw [ht]; exact hP, hD⟩, hS.F ht⟩) hS.2.2 dX12_begin_30
    · have g_63 : gi r_48 0 0 := gi_eq c_49 (gi_c 0 0 (by decide))
      refine lv_bipush (v := (-2)) hx hb dX12_begin_16 (by decide) ?_
      exact W.iret (v := (-2)) hx hb hr (fun t ht hW => ⟨⟨(-2), (), rfl, (gi_any (-2)), (mi 37), (mi 41), fm_must, fm_least, fm_pin, fm_ways, fm_verdict, fm_row, fm_official, gmi_37, gmi_41, gfm_row, by rw [ht]; exact hP, hD⟩, hS.F ht⟩) hS.2.2 dX12_begin_18
theorem dX12_span_0 : decode cX12_span 0 = .ok (.aload_n 0, 1) := by decide +kernel
theorem dX12_span_1 : decode cX12_span 1 = .ok (.iload_n 1, 1) := by decide +kernel
theorem dX12_span_2 : decode cX12_span 2 = .ok (.invokevirtual 359, 3) := by decide +kernel
theorem dX12_span_5 : decode cX12_span 5 = .ok (.ifCond .eq 21, 3) := by decide +kernel
theorem dX12_span_8 : decode cX12_span 8 = .ok (.aload_n 0, 1) := by decide +kernel
theorem dX12_span_9 : decode cX12_span 9 = .ok (.iload_n 2, 1) := by decide +kernel
theorem dX12_span_10 : decode cX12_span 10 = .ok (.invokevirtual 379, 3) := by decide +kernel
theorem dX12_span_13 : decode cX12_span 13 = .ok (.ifCond .eq 13, 3) := by decide +kernel
theorem dX12_span_16 : decode cX12_span 16 = .ok (.iload_n 3, 1) := by decide +kernel
theorem dX12_span_17 : decode cX12_span 17 = .ok (.i2l, 1) := by decide +kernel
theorem dX12_span_18 : decode cX12_span 18 = .ok (.lconst 0, 1) := by decide +kernel
theorem dX12_span_19 : decode cX12_span 19 = .ok (.lconst 1, 1) := by decide +kernel
theorem dX12_span_20 : decode cX12_span 20 = .ok (.invokestatic 102, 3) := by decide +kernel
theorem dX12_span_23 : decode cX12_span 23 = .ok (.ifCond .ne 6, 3) := by decide +kernel
theorem dX12_span_26 : decode cX12_span 26 = .ok (.bipush (-2), 2) := by decide +kernel
theorem dX12_span_28 : decode cX12_span 28 = .ok (.ireturn, 1) := by decide +kernel
theorem dX12_span_29 : decode cX12_span 29 = .ok (.aload_n 0, 1) := by decide +kernel
theorem dX12_span_30 : decode cX12_span 30 = .ok (.iload_n 1, 1) := by decide +kernel
theorem dX12_span_31 : decode cX12_span 31 = .ok (.invokevirtual 362, 3) := by decide +kernel
theorem dX12_span_34 : decode cX12_span 34 = .ok (.aload_n 0, 1) := by decide +kernel
theorem dX12_span_35 : decode cX12_span 35 = .ok (.iload_n 2, 1) := by decide +kernel
theorem dX12_span_36 : decode cX12_span 36 = .ok (.iload_n 3, 1) := by decide +kernel
theorem dX12_span_37 : decode cX12_span 37 = .ok (.invokevirtual 391, 3) := by decide +kernel
theorem dX12_span_40 : decode cX12_span 40 = .ok (.ireturn, 1) := by decide +kernel
set_option maxHeartbeats 4000000 in
set_option maxRecDepth 100000 in
theorem sX12_span (l : Launch) (dC : Nat → ClassId) (dI : Nat → Nat → Nat) (sz : Nat) (h0 : Nat) (mi : Nat → Int32) (mr : Nat → Nat) (km_must : ClassId) (fm_must : Nat → Int32) (km_least : ClassId) (fm_least : Nat → Int32) (km_pin : ClassId) (fm_pin : Nat → Int32) (km_ways : ClassId) (fm_ways : Nat → Int32) (km_verdict : ClassId) (fm_verdict : Nat → Int32) (km_row : ClassId) (fm_row : Nat → Int32) (km_struck : ClassId) (fm_struck : Nat → Int32) (km_reportKnown : ClassId) (fm_reportKnown : Nat → Int32) (km_reportPlace : ClassId) (fm_reportPlace : Nat → Int32) (km_reportMonth : ClassId) (fm_reportMonth : Nat → Int32) (km_reportDay : ClassId) (fm_reportDay : Nat → Int32) (km_reportKind : ClassId) (fm_reportKind : Nat → Int32) (km_trust : ClassId) (fm_trust : Nat → Int32) (km_letter : ClassId) (fm_letter : Nat → Int32) (p1 : Int32) (p2 : Int32) (p3 : Int32) (gmi_0 : gi (mi 0) 0 24) (gmi_1 : gi (mi 1) 0 5) (gmi_2 : gi (mi 2) 0 5) (gmi_4 : gi (mi 4) 0 1) (gmi_7 : gi (mi 7) 0 6) (gmi_10 : gi (mi 10) 0 24) (gmi_17 : gi (mi 17) 0 8) (gmi_23 : gi (mi 23) 0 300) (gmi_24 : gi (mi 24) 0 1) (gmi_26 : gi (mi 26) 0 1600) (gmi_29 : gi (mi 29) 0 1600) (gmi_30 : gi (mi 30) 0 1600) (gmi_33 : gi (mi 33) 0 1) (gmi_37 : gi (mi 37) 0 1) (gmi_41 : gi (mi 41) 0 24) (gmi_50 : gi (mi 50) 0 1) (gmi_51 : gi (mi 51) 0 1) (gmi_56 : gi (mi 56) 0 80) (gfm_row : ga fm_row 24 0 23) (gfm_struck : ga fm_struck 24 0 1) (gfm_reportKnown : ga fm_reportKnown 24 0 999) (gfm_reportPlace : ga fm_reportPlace 24 0 5) (gfm_reportMonth : ga fm_reportMonth 24 0 23) (gfm_reportDay : ga fm_reportDay 24 0 999) : Met l yX12_span (.code yX12_span cX12_span 4 (some .int) :: wsGB) ({ frames := 6, cells := 0, slots := 0, locals := 147 }) (va_Pc [.ref h0, .int p1, .int p2, .int p3] (fun U => U.heap.size = sz ∧ va_P (dC, dI) vwCl [(h0, .inr (12, fsMM mi mr)), ((mr 14), .inl (km_must, 25, .inl fm_must)), ((mr 15), .inl (km_least, 25, .inl fm_least)), ((mr 16), .inl (km_pin, 25, .inl fm_pin)), ((mr 17), .inl (km_ways, 6875, .inl fm_ways)), ((mr 18), .inl (km_verdict, 24, .inl fm_verdict)), ((mr 19), .inl (km_row, 24, .inl fm_row)), ((mr 4), .inl (km_struck, 24, .inl fm_struck)), ((mr 7), .inl (km_reportKnown, 24, .inl fm_reportKnown)), ((mr 2), .inl (km_reportPlace, 24, .inl fm_reportPlace)), ((mr 5), .inl (km_reportMonth, 24, .inl fm_reportMonth)), ((mr 6), .inl (km_reportDay, 24, .inl fm_reportDay)), ((mr 3), .inl (km_reportKind, 24, .inl fm_reportKind)), ((mr 0), .inl (km_trust, 6, .inl fm_trust)), ((mr 1), .inl (km_letter, 36, .inl fm_letter))] U.heap ∧ va_K (dC, dI) vwCl [(km_must, .int), (km_least, .int), (km_pin, .int), (km_ways, .int), (km_verdict, .int), (km_row, .int), (km_struck, .boolean), (km_reportKnown, .int), (km_reportPlace, .int), (km_reportMonth, .int), (km_reportDay, .int), (km_reportKind, .int), (km_trust, .int), (km_letter, .int)] U ∧ va_D (fun _ => True) [(h0, .inr (12, fsMM mi mr)), ((mr 14), .inl (km_must, 25, .inl fm_must)), ((mr 15), .inl (km_least, 25, .inl fm_least)), ((mr 16), .inl (km_pin, 25, .inl fm_pin)), ((mr 17), .inl (km_ways, 6875, .inl fm_ways)), ((mr 18), .inl (km_verdict, 24, .inl fm_verdict)), ((mr 19), .inl (km_row, 24, .inl fm_row)), ((mr 4), .inl (km_struck, 24, .inl fm_struck)), ((mr 7), .inl (km_reportKnown, 24, .inl fm_reportKnown)), ((mr 2), .inl (km_reportPlace, 24, .inl fm_reportPlace)), ((mr 5), .inl (km_reportMonth, 24, .inl fm_reportMonth)), ((mr 6), .inl (km_reportDay, 24, .inl fm_reportDay)), ((mr 3), .inl (km_reportKind, 24, .inl fm_reportKind)), ((mr 0), .inl (km_trust, 6, .inl fm_trust)), ((mr 1), .inl (km_letter, 36, .inl fm_letter))])) (va_Qi (fun (r : Int32) (u : Unit) => gi r (-2) 720) (fun _ t => ∃ (w0_37 : Int32) (w0_41 : Int32) (z1 : Nat → Int32) (z2 : Nat → Int32) (z3 : Nat → Int32) (z4 : Nat → Int32) (z5 : Nat → Int32) (z6 : Nat → Int32), gi w0_37 0 1 ∧ gi w0_41 0 24 ∧ ga z6 24 0 23 ∧ va_P (dC, dI) vwCl [(h0, .inr (12, fsMM (upd (upd mi 37 w0_37) 41 w0_41) mr)), ((mr 14), .inl (km_must, 25, .inl z1)), ((mr 15), .inl (km_least, 25, .inl z2)), ((mr 16), .inl (km_pin, 25, .inl z3)), ((mr 17), .inl (km_ways, 6875, .inl z4)), ((mr 18), .inl (km_verdict, 24, .inl z5)), ((mr 19), .inl (km_row, 24, .inl z6)), ((mr 4), .inl (km_struck, 24, .inl fm_struck)), ((mr 7), .inl (km_reportKnown, 24, .inl fm_reportKnown)), ((mr 2), .inl (km_reportPlace, 24, .inl fm_reportPlace)), ((mr 5), .inl (km_reportMonth, 24, .inl fm_reportMonth)), ((mr 6), .inl (km_reportDay, 24, .inl fm_reportDay)), ((mr 3), .inl (km_reportKind, 24, .inl fm_reportKind)), ((mr 0), .inl (km_trust, 6, .inl fm_trust)), ((mr 1), .inl (km_letter, 36, .inl fm_letter))] t.heap ∧ va_D (va_A [(h0, .inr (12, fsMM mi mr)), ((mr 14), .inl (km_must, 25, .inl fm_must)), ((mr 15), .inl (km_least, 25, .inl fm_least)), ((mr 16), .inl (km_pin, 25, .inl fm_pin)), ((mr 17), .inl (km_ways, 6875, .inl fm_ways)), ((mr 18), .inl (km_verdict, 24, .inl fm_verdict)), ((mr 19), .inl (km_row, 24, .inl fm_row)), ((mr 4), .inl (km_struck, 24, .inl fm_struck)), ((mr 7), .inl (km_reportKnown, 24, .inl fm_reportKnown)), ((mr 2), .inl (km_reportPlace, 24, .inl fm_reportPlace)), ((mr 5), .inl (km_reportMonth, 24, .inl fm_reportMonth)), ((mr 6), .inl (km_reportDay, 24, .inl fm_reportDay)), ((mr 3), .inl (km_reportKind, 24, .inl fm_reportKind)), ((mr 0), .inl (km_trust, 6, .inl fm_trust)), ((mr 1), .inl (km_letter, 36, .inl fm_letter))] sz) [(h0, .inr (12, fsMM (upd (upd mi 37 w0_37) 41 w0_41) mr)), ((mr 14), .inl (km_must, 25, .inl z1)), ((mr 15), .inl (km_least, 25, .inl z2)), ((mr 16), .inl (km_pin, 25, .inl z3)), ((mr 17), .inl (km_ways, 6875, .inl z4)), ((mr 18), .inl (km_verdict, 24, .inl z5)), ((mr 19), .inl (km_row, 24, .inl z6)), ((mr 4), .inl (km_struck, 24, .inl fm_struck)), ((mr 7), .inl (km_reportKnown, 24, .inl fm_reportKnown)), ((mr 2), .inl (km_reportPlace, 24, .inl fm_reportPlace)), ((mr 5), .inl (km_reportMonth, 24, .inl fm_reportMonth)), ((mr 6), .inl (km_reportDay, 24, .inl fm_reportDay)), ((mr 3), .inl (km_reportKind, 24, .inl fm_reportKind)), ((mr 0), .inl (km_trust, 6, .inl fm_trust)), ((mr 1), .inl (km_letter, 36, .inl fm_letter))]) (va_A [(h0, .inr (12, fsMM mi mr)), ((mr 14), .inl (km_must, 25, .inl fm_must)), ((mr 15), .inl (km_least, 25, .inl fm_least)), ((mr 16), .inl (km_pin, 25, .inl fm_pin)), ((mr 17), .inl (km_ways, 6875, .inl fm_ways)), ((mr 18), .inl (km_verdict, 24, .inl fm_verdict)), ((mr 19), .inl (km_row, 24, .inl fm_row)), ((mr 4), .inl (km_struck, 24, .inl fm_struck)), ((mr 7), .inl (km_reportKnown, 24, .inl fm_reportKnown)), ((mr 2), .inl (km_reportPlace, 24, .inl fm_reportPlace)), ((mr 5), .inl (km_reportMonth, 24, .inl fm_reportMonth)), ((mr 6), .inl (km_reportDay, 24, .inl fm_reportDay)), ((mr 3), .inl (km_reportKind, 24, .inl fm_reportKind)), ((mr 0), .inl (km_trust, 6, .inl fm_trust)), ((mr 1), .inl (km_letter, 36, .inl fm_letter))] sz)) 0 0 (va_A [(h0, .inr (12, fsMM mi mr)), ((mr 14), .inl (km_must, 25, .inl fm_must)), ((mr 15), .inl (km_least, 25, .inl fm_least)), ((mr 16), .inl (km_pin, 25, .inl fm_pin)), ((mr 17), .inl (km_ways, 6875, .inl fm_ways)), ((mr 18), .inl (km_verdict, 24, .inl fm_verdict)), ((mr 19), .inl (km_row, 24, .inl fm_row)), ((mr 4), .inl (km_struck, 24, .inl fm_struck)), ((mr 7), .inl (km_reportKnown, 24, .inl fm_reportKnown)), ((mr 2), .inl (km_reportPlace, 24, .inl fm_reportPlace)), ((mr 5), .inl (km_reportMonth, 24, .inl fm_reportMonth)), ((mr 6), .inl (km_reportDay, 24, .inl fm_reportDay)), ((mr 3), .inl (km_reportKind, 24, .inl fm_reportKind)), ((mr 0), .inl (km_trust, 6, .inl fm_trust)), ((mr 1), .inl (km_letter, 36, .inl fm_letter))] sz) := by
  refine Met.ofW (cc := cX12_span) (maxL := 4) (ret := (some .int)) (by decide) rfl ?_
  intro p e s m args below meth c s₁ B hml hv
  obtain ⟨rfl, hsz, hP, hK, hD0⟩ := hv
  have hx := B.exec
  have hb := B.bytes
  have hr := B.returns
  have hts := atoms_spec (ws := (.code yX12_span cX12_span 4 (some .int) :: wsGB)) B.pre
  have hown : s.vm.findClass RX12 = some m.cls := findClass_of_methodNamed B.named
  have hlocks := B.notSynchronized
  subst hsz
  have hD := hD0.self (sz := s.heap.size)
  generalize hAe : va_A [(h0, .inr (12, fsMM mi mr)), ((mr 14), .inl (km_must, 25, .inl fm_must)), ((mr 15), .inl (km_least, 25, .inl fm_least)), ((mr 16), .inl (km_pin, 25, .inl fm_pin)), ((mr 17), .inl (km_ways, 6875, .inl fm_ways)), ((mr 18), .inl (km_verdict, 24, .inl fm_verdict)), ((mr 19), .inl (km_row, 24, .inl fm_row)), ((mr 4), .inl (km_struck, 24, .inl fm_struck)), ((mr 7), .inl (km_reportKnown, 24, .inl fm_reportKnown)), ((mr 2), .inl (km_reportPlace, 24, .inl fm_reportPlace)), ((mr 5), .inl (km_reportMonth, 24, .inl fm_reportMonth)), ((mr 6), .inl (km_reportDay, 24, .inl fm_reportDay)), ((mr 3), .inl (km_reportKind, 24, .inl fm_reportKind)), ((mr 0), .inl (km_trust, 6, .inl fm_trust)), ((mr 1), .inl (km_letter, 36, .inl fm_letter))] s.heap.size = A at hD ⊢
  have hA : ∀ q : Nat, s.heap.size ≤ q → A q := fun q h => by rw [← hAe]; exact Or.inr h
  have hS : va_S A s.heap s.heap [] := va_S.rf
  have hl := lv_entry ([.ref h0, .int p1, .int p2, .int p3]) (n := 4) (Nat.le_of_ble_eq_true rfl)
  rw [lg_entry_eq]
  generalize (lg_sl ([.ref h0, .int p1, .int p2, .int p3]) ++ List.replicate (4 - (lg_sl ([.ref h0, .int p1, .int p2, .int p3])).length) Slot.unset).toArray = ls at hl ⊢
  have hl : lv_has ls 4 [(0, .ref h0), (1, .int p1), (2, .int p2), (3, .int p3)] := hl
  refine lv_aload_n hx hb dX12_span_0 rfl (lv_at hl 0 rfl) ?_
  refine lv_iload_n hx hb dX12_span_1 rfl (lv_at hl 1 rfl) ?_
  have hPc := hP.sub (ws' := [(h0, .inr (12, fsMM mi mr))]) [0] rfl
  have hKc := hK.sub (tys' := []) [] rfl
  refine va_calli (va_runV (As := [.int p1]) (rest := []) ⟨hx, hb, hml, hown, hts⟩ (sX12_isTime l dC dI h0 mi mr p1 gmi_0 gmi_1 gmi_2 gmi_4 gmi_7 gmi_10 gmi_17 gmi_23 gmi_24 gmi_26 gmi_29 gmi_30 gmi_33 gmi_37 gmi_41 gmi_50 gmi_51 gmi_56) (cwV 1 hts (gz_gV mGB_256 mGB_257 mGB_258 mGB_1 mGB_259 goodGB) rfl rfl rfl (by decide +kernel) ⟨Nat.le_of_ble_eq_true rfl, Nat.le_of_ble_eq_true rfl⟩) ⟨fun a U g mk q => by obtain ⟨q0, qP, qK⟩ := q; exact ⟨q0, qP, va_K.moved (u := U) (U := U.calling g mk a) (Vm.Alike.refl U.vm) qK⟩, va_recv hKc hPc (ci := 12) (q0 := 0) rfl rfl, fun U hU hW => ⟨rfl, by rw [hU]; exact hPc, va_K.moved hW.alike hKc⟩⟩ rfl rfl hl.1 rfl (lv_room (Nat.le_of_ble_eq_true rfl)) dX12_span_2 ⟨Nat.zero_le _, Nat.zero_le _⟩) hS (fun q _ h => h.elim) (fun q h => h.elim) (fun r_57 u t H1 locs ht hvm hw hB hz1 hk1 hS => ?_)
  have hP := gz_keep hP hk1
  generalize H1 = H at hP hS ⊢
  have gr_57 : gi r_57 0 1 := hw.1
  have hqr_57 := hw.2
  refine lv_if_eq (tgt := 26) hx hb dX12_span_5 (by decide) (fun c_58 => ?_) (fun c_58 => ?_)
  · have g_59 : gi r_57 0 0 := gi_eq c_58 (gi_c 0 0 (by decide))
    refine lv_bipush (v := (-2)) hx hb dX12_span_26 (by decide) ?_
    exact W.iret (v := (-2)) hx hb hr (fun t ht hW => ⟨⟨(-2), (), rfl, (gi_w (gi_c (-2) (-2) (by decide)) (by decide)), (mi 37), (mi 41), fm_must, fm_least, fm_pin, fm_ways, fm_verdict, fm_row, gmi_37, gmi_41, gfm_row, by rw [ht]; exact hP, hD⟩, hS.F ht⟩) hS.2.2 dX12_span_28
  · have g_60 : gi r_57 1 1 := gi_ne_lo c_58 gr_57 (gi_c 0 0 (by decide)) (by decide)
    have g_61 : gi p1 0 999 := gi_cap (gi_any p1) (hqr_57 (gz_one g_60)) (by decide)
    refine lv_aload_n hx hb dX12_span_8 rfl (lv_at hl 0 rfl) ?_
    refine lv_iload_n hx hb dX12_span_9 rfl (lv_at hl 2 rfl) ?_
    have hPc := hP.sub (ws' := [(h0, .inr (12, fsMM mi mr))]) [0] rfl
    have hKc := hK.sub (tys' := []) [] rfl
    refine va_calli (va_runV (As := [.int p2]) (rest := []) ⟨hx, hb, hml, hown, hts⟩ (sX12_isBegin l dC dI h0 mi mr p2 gmi_0 gmi_1 gmi_2 gmi_4 gmi_7 gmi_10 gmi_17 gmi_23 gmi_24 gmi_26 gmi_29 gmi_30 gmi_33 gmi_37 gmi_41 gmi_50 gmi_51 gmi_56) (cwV 1 hts (gz_gV mGB_354 mGB_355 mGB_356 mGB_1 mGB_357 goodGB) rfl rfl rfl (by decide +kernel) ⟨Nat.le_of_ble_eq_true rfl, Nat.le_of_ble_eq_true rfl⟩) ⟨fun a U g mk q => by obtain ⟨q0, qP, qK⟩ := q; exact ⟨q0, qP, va_K.moved (u := U) (U := U.calling g mk a) (Vm.Alike.refl U.vm) qK⟩, va_recv hKc hPc (ci := 12) (q0 := 0) rfl rfl, fun U hU hW => ⟨rfl, by rw [hU]; exact hPc, va_K.moved hW.alike hKc⟩⟩ rfl rfl hl.1 rfl (lv_room (Nat.le_of_ble_eq_true rfl)) dX12_span_10 ⟨Nat.zero_le _, Nat.zero_le _⟩) hS (fun q _ h => h.elim) (fun q h => h.elim) (fun r_62 u t H1 locs ht hvm hw hB hz1 hk1 hS => ?_)
    have hP := gz_keep hP hk1
    generalize H1 = H at hP hS ⊢
    have gr_62 : gi r_62 0 1 := hw.1
    have hqr_62 := hw.2
    refine lv_if_eq (tgt := 26) hx hb dX12_span_13 (by decide) (fun c_63 => ?_) (fun c_63 => ?_)
    · have g_64 : gi r_62 0 0 := gi_eq c_63 (gi_c 0 0 (by decide))
      refine lv_bipush (v := (-2)) hx hb dX12_span_26 (by decide) ?_
      exact W.iret (v := (-2)) hx hb hr (fun t ht hW => ⟨⟨(-2), (), rfl, (gi_w (gi_c (-2) (-2) (by decide)) (by decide)), (mi 37), (mi 41), fm_must, fm_least, fm_pin, fm_ways, fm_verdict, fm_row, gmi_37, gmi_41, gfm_row, by rw [ht]; exact hP, hD⟩, hS.F ht⟩) hS.2.2 dX12_span_28
    · have g_65 : gi r_62 1 1 := gi_ne_lo c_63 gr_62 (gi_c 0 0 (by decide)) (by decide)
      have g_66 : gi p2 0 24 := gi_cap (gi_any p2) (hqr_62 (gz_one g_65)) (by decide)
      refine lv_iload_n hx hb dX12_span_16 rfl (lv_at hl 3 rfl) ?_
      refine lv_i2l (v := (p3).toInt64) hx hb dX12_span_17 rfl ?_
      refine lv_topl (fun l_67 el_67 => ?_)
      refine lv_lconst (v := 0) hx hb dX12_span_18 (by decide) ?_
      refine lv_lconst (v := 1) hx hb dX12_span_19 (by decide) ?_
      have hPc := hP.sub (ws' := []) [] rfl
      have hKc := hK.sub (tys' := []) [] rfl
      refine va_calli (va_runS (As := [.long l_67, .long 0, .long 1]) (rest := []) ⟨hx, hb, hml, hown, hts⟩ (sX12_in l dC dI l_67 0 1) (cwS 3 hts (gz_gS mGB_47 mGB_48 mGB_1 mGB_49 goodGB) rfl rfl rfl (by decide +kernel) ⟨Nat.le_of_ble_eq_true rfl, Nat.le_of_ble_eq_true rfl⟩) ⟨fun a U g mk q => by obtain ⟨q0, qP, qK⟩ := q; exact ⟨q0, qP, va_K.moved (u := U) (U := U.calling g mk a) (Vm.Alike.refl U.vm) qK⟩, fun U hU hW => ⟨rfl, by rw [hU]; exact hPc, va_K.moved hW.alike hKc⟩⟩ rfl rfl hl.1 rfl (lv_room (Nat.le_of_ble_eq_true rfl)) dX12_span_20 ⟨Nat.zero_le _, Nat.zero_le _⟩) hS (fun q _ h => h.elim) (fun q h => h.elim) (fun r_68 u t H1 locs ht hvm hw hB hz1 hk1 hS => ?_)
      obtain ⟨hw, hE⟩ := hw
      have hP := gz_keep hP hk1
      generalize H1 = H at hP hS ⊢
      have gr_68 : gi r_68 0 1 := hw.1
      have hqr_68 := hw.2
      refine lv_if_ne (tgt := 29) hx hb dX12_span_23 (by decide) (fun c_69 => ?_) (fun c_69 => ?_)
      · have g_70 : gi r_68 1 1 := gi_ne_lo c_69 gr_68 (gi_c 0 0 (by decide)) (by decide)
        have g_71 : gi p3 0 1 := gi_cap (gi_any p3) (gz_inr (hqr_68.1 (gz_one g_70)) el_67 (A := 0) (B := 1) (by decide) (by decide)) (by decide)
        refine lv_aload_n hx hb dX12_span_29 rfl (lv_at hl 0 rfl) ?_
        refine lv_iload_n hx hb dX12_span_30 rfl (lv_at hl 1 rfl) ?_
        have hPc := hP.sub (ws' := [(h0, .inr (12, fsMM mi mr)), ((mr 14), .inl (km_must, 25, .inl fm_must)), ((mr 15), .inl (km_least, 25, .inl fm_least)), ((mr 16), .inl (km_pin, 25, .inl fm_pin)), ((mr 17), .inl (km_ways, 6875, .inl fm_ways)), ((mr 18), .inl (km_verdict, 24, .inl fm_verdict)), ((mr 19), .inl (km_row, 24, .inl fm_row)), ((mr 4), .inl (km_struck, 24, .inl fm_struck)), ((mr 7), .inl (km_reportKnown, 24, .inl fm_reportKnown)), ((mr 2), .inl (km_reportPlace, 24, .inl fm_reportPlace)), ((mr 5), .inl (km_reportMonth, 24, .inl fm_reportMonth)), ((mr 6), .inl (km_reportDay, 24, .inl fm_reportDay)), ((mr 3), .inl (km_reportKind, 24, .inl fm_reportKind)), ((mr 0), .inl (km_trust, 6, .inl fm_trust)), ((mr 1), .inl (km_letter, 36, .inl fm_letter))]) [0, 1, 2, 3, 4, 5, 6, 7, 8, 9, 10, 11, 12, 13, 14] rfl
        have hKc := hK.sub (tys' := [(km_must, .int), (km_least, .int), (km_pin, .int), (km_ways, .int), (km_verdict, .int), (km_row, .int), (km_struck, .boolean), (km_reportKnown, .int), (km_reportPlace, .int), (km_reportMonth, .int), (km_reportDay, .int), (km_reportKind, .int), (km_trust, .int), (km_letter, .int)]) [0, 1, 2, 3, 4, 5, 6, 7, 8, 9, 10, 11, 12, 13] rfl
        have hDc := hD.sub (ws' := [(h0, .inr (12, fsMM mi mr)), ((mr 14), .inl (km_must, 25, .inl fm_must)), ((mr 15), .inl (km_least, 25, .inl fm_least)), ((mr 16), .inl (km_pin, 25, .inl fm_pin)), ((mr 17), .inl (km_ways, 6875, .inl fm_ways)), ((mr 18), .inl (km_verdict, 24, .inl fm_verdict)), ((mr 19), .inl (km_row, 24, .inl fm_row)), ((mr 4), .inl (km_struck, 24, .inl fm_struck)), ((mr 7), .inl (km_reportKnown, 24, .inl fm_reportKnown)), ((mr 2), .inl (km_reportPlace, 24, .inl fm_reportPlace)), ((mr 5), .inl (km_reportMonth, 24, .inl fm_reportMonth)), ((mr 6), .inl (km_reportDay, 24, .inl fm_reportDay)), ((mr 3), .inl (km_reportKind, 24, .inl fm_reportKind)), ((mr 0), .inl (km_trust, 6, .inl fm_trust)), ((mr 1), .inl (km_letter, 36, .inl fm_letter))]) [0, 1, 2, 3, 4, 5, 6, 7, 8, 9, 10, 11, 12, 13, 14] (by decide) rfl
        have hFc := va_free (wc := [(h0, .inr (12, fsMM mi mr)), ((mr 14), .inl (km_must, 25, .inl fm_must)), ((mr 15), .inl (km_least, 25, .inl fm_least)), ((mr 16), .inl (km_pin, 25, .inl fm_pin)), ((mr 17), .inl (km_ways, 6875, .inl fm_ways)), ((mr 18), .inl (km_verdict, 24, .inl fm_verdict)), ((mr 19), .inl (km_row, 24, .inl fm_row)), ((mr 4), .inl (km_struck, 24, .inl fm_struck)), ((mr 7), .inl (km_reportKnown, 24, .inl fm_reportKnown)), ((mr 2), .inl (km_reportPlace, 24, .inl fm_reportPlace)), ((mr 5), .inl (km_reportMonth, 24, .inl fm_reportMonth)), ((mr 6), .inl (km_reportDay, 24, .inl fm_reportDay)), ((mr 3), .inl (km_reportKind, 24, .inl fm_reportKind)), ((mr 0), .inl (km_trust, 6, .inl fm_trust)), ((mr 1), .inl (km_letter, 36, .inl fm_letter))]) hD hS hA [0, 1, 2, 3, 4, 5, 6, 7, 8, 9, 10, 11, 12, 13, 14] rfl
        refine va_callv (va_runV (As := [.int p1]) (rest := []) ⟨hx, hb, hml, hown, hts⟩ (sX12_judgesAll l dC dI H.size h0 mi mr km_must fm_must km_least fm_least km_pin fm_pin km_ways fm_ways km_verdict fm_verdict km_row fm_row km_struck fm_struck km_reportKnown fm_reportKnown km_reportPlace fm_reportPlace km_reportMonth fm_reportMonth km_reportDay fm_reportDay km_reportKind fm_reportKind km_trust fm_trust km_letter fm_letter p1 gmi_0 gmi_1 gmi_2 gmi_4 gmi_7 gmi_10 gmi_17 gmi_23 gmi_24 gmi_26 gmi_29 gmi_30 gmi_33 gmi_37 gmi_41 gmi_50 gmi_51 gmi_56 gfm_row gfm_struck gfm_reportKnown gfm_reportPlace gfm_reportMonth gfm_reportDay) (cwV 1 hts (gz_gV mGB_261 mGB_262 mGB_263 mGB_1 mGB_264 goodGB) rfl rfl rfl (by decide +kernel) ⟨Nat.le_of_ble_eq_true rfl, Nat.le_of_ble_eq_true rfl⟩) ⟨fun a U g mk q => by obtain ⟨q0, q1, qP, qK, qD⟩ := q; exact ⟨q0, q1, qP, va_K.moved (u := U) (U := U.calling g mk a) (Vm.Alike.refl U.vm) qK, qD⟩, va_recv hKc hPc (ci := 12) (q0 := 0) rfl rfl, fun U hU hW => ⟨rfl, by rw [hU], by rw [hU]; exact hPc, va_K.moved hW.alike hKc, hDc.weaken (fun _ _ _ _ => trivial)⟩⟩ rfl rfl hl.1 rfl (lv_room (Nat.le_of_ble_eq_true rfl)) dX12_span_31 ⟨Nat.zero_le _, Nat.zero_le _⟩) hS (fun q _ h => hFc q h) hFc (fun u t H1 locs ht hvm hw hB hz1 hk1 hS => ?_)
        obtain ⟨y_73, y_74, f_75, f_76, f_77, f_78, f_79, f_80, gy_73, gy_74, gf_80, hP1, hD1⟩ := hB
        rw [ht] at hP1
        obtain ⟨hP, hD⟩ := va_join (wr := []) (w1 := [(h0, .inr (12, fsMM (upd (upd mi 37 y_73) 41 y_74) mr)), ((mr 14), .inl (km_must, 25, .inl f_75)), ((mr 15), .inl (km_least, 25, .inl f_76)), ((mr 16), .inl (km_pin, 25, .inl f_77)), ((mr 17), .inl (km_ways, 6875, .inl f_78)), ((mr 18), .inl (km_verdict, 24, .inl f_79)), ((mr 19), .inl (km_row, 24, .inl f_80)), ((mr 4), .inl (km_struck, 24, .inl fm_struck)), ((mr 7), .inl (km_reportKnown, 24, .inl fm_reportKnown)), ((mr 2), .inl (km_reportPlace, 24, .inl fm_reportPlace)), ((mr 5), .inl (km_reportMonth, 24, .inl fm_reportMonth)), ((mr 6), .inl (km_reportDay, 24, .inl fm_reportDay)), ((mr 3), .inl (km_reportKind, 24, .inl fm_reportKind)), ((mr 0), .inl (km_trust, 6, .inl fm_trust)), ((mr 1), .inl (km_letter, 36, .inl fm_letter))]) hP hD [0, 1, 2, 3, 4, 5, 6, 7, 8, 9, 10, 11, 12, 13, 14] [] rfl rfl (by decide) (by decide) hk1 hFc hP1 hD1
        have hP := hP.sub (ws' := [(h0, .inr (12, fsMM (upd (upd mi 37 y_73) 41 y_74) mr)), ((mr 14), .inl (km_must, 25, .inl f_75)), ((mr 15), .inl (km_least, 25, .inl f_76)), ((mr 16), .inl (km_pin, 25, .inl f_77)), ((mr 17), .inl (km_ways, 6875, .inl f_78)), ((mr 18), .inl (km_verdict, 24, .inl f_79)), ((mr 19), .inl (km_row, 24, .inl f_80)), ((mr 4), .inl (km_struck, 24, .inl fm_struck)), ((mr 7), .inl (km_reportKnown, 24, .inl fm_reportKnown)), ((mr 2), .inl (km_reportPlace, 24, .inl fm_reportPlace)), ((mr 5), .inl (km_reportMonth, 24, .inl fm_reportMonth)), ((mr 6), .inl (km_reportDay, 24, .inl fm_reportDay)), ((mr 3), .inl (km_reportKind, 24, .inl fm_reportKind)), ((mr 0), .inl (km_trust, 6, .inl fm_trust)), ((mr 1), .inl (km_letter, 36, .inl fm_letter))]) [0, 1, 2, 3, 4, 5, 6, 7, 8, 9, 10, 11, 12, 13, 14] rfl
        have hD := hD.sub (ws' := [(h0, .inr (12, fsMM (upd (upd mi 37 y_73) 41 y_74) mr)), ((mr 14), .inl (km_must, 25, .inl f_75)), ((mr 15), .inl (km_least, 25, .inl f_76)), ((mr 16), .inl (km_pin, 25, .inl f_77)), ((mr 17), .inl (km_ways, 6875, .inl f_78)), ((mr 18), .inl (km_verdict, 24, .inl f_79)), ((mr 19), .inl (km_row, 24, .inl f_80)), ((mr 4), .inl (km_struck, 24, .inl fm_struck)), ((mr 7), .inl (km_reportKnown, 24, .inl fm_reportKnown)), ((mr 2), .inl (km_reportPlace, 24, .inl fm_reportPlace)), ((mr 5), .inl (km_reportMonth, 24, .inl fm_reportMonth)), ((mr 6), .inl (km_reportDay, 24, .inl fm_reportDay)), ((mr 3), .inl (km_reportKind, 24, .inl fm_reportKind)), ((mr 0), .inl (km_trust, 6, .inl fm_trust)), ((mr 1), .inl (km_letter, 36, .inl fm_letter))]) [0, 1, 2, 3, 4, 5, 6, 7, 8, 9, 10, 11, 12, 13, 14] (by decide) rfl
        generalize H1 = H at hP hS ⊢
        refine lv_aload_n hx hb dX12_span_34 rfl (lv_at hl 0 rfl) ?_
        refine lv_iload_n hx hb dX12_span_35 rfl (lv_at hl 2 rfl) ?_
        refine lv_iload_n hx hb dX12_span_36 rfl (lv_at hl 3 rfl) ?_
        have hPc := hP.sub (ws' := [(h0, .inr (12, fsMM (upd (upd mi 37 y_73) 41 y_74) mr)), ((mr 14), .inl (km_must, 25, .inl f_75)), ((mr 15), .inl (km_least, 25, .inl f_76)), ((mr 16), .inl (km_pin, 25, .inl f_77)), ((mr 17), .inl (km_ways, 6875, .inl f_78))]) [0, 1, 2, 3, 4] rfl
        have hKc := hK.sub (tys' := [(km_must, .int), (km_least, .int), (km_pin, .int), (km_ways, .int)]) [0, 1, 2, 3] rfl
        have hDc := hD.sub (ws' := [(h0, .inr (12, fsMM (upd (upd mi 37 y_73) 41 y_74) mr)), ((mr 14), .inl (km_must, 25, .inl f_75)), ((mr 15), .inl (km_least, 25, .inl f_76)), ((mr 16), .inl (km_pin, 25, .inl f_77)), ((mr 17), .inl (km_ways, 6875, .inl f_78))]) [0, 1, 2, 3, 4] (by decide) rfl
        have hFc := va_free (wc := [(h0, .inr (12, fsMM (upd (upd mi 37 y_73) 41 y_74) mr)), ((mr 14), .inl (km_must, 25, .inl f_75)), ((mr 15), .inl (km_least, 25, .inl f_76)), ((mr 16), .inl (km_pin, 25, .inl f_77)), ((mr 17), .inl (km_ways, 6875, .inl f_78))]) hD hS hA [0, 1, 2, 3, 4] rfl
        refine va_calli (va_runV (As := [.int p2, .int p3]) (rest := []) ⟨hx, hb, hml, hown, hts⟩ (sX12_spanOf l dC dI H.size h0 (upd (upd mi 37 y_73) 41 y_74) mr km_must f_75 km_least f_76 km_pin f_77 km_ways f_78 p2 p3 gmi_0 gmi_1 gmi_2 gmi_4 gmi_7 gmi_10 gmi_17 gmi_23 gmi_24 gmi_26 gmi_29 gmi_30 gmi_33 gy_73 gy_74 gmi_50 gmi_51 gmi_56 g_66) (cwV 2 hts (gz_gV mGB_369 mGB_370 mGB_371 mGB_1 mGB_372 goodGB) rfl rfl rfl (by decide +kernel) ⟨Nat.le_of_ble_eq_true rfl, Nat.le_of_ble_eq_true rfl⟩) ⟨fun a U g mk q => by obtain ⟨q0, q1, qP, qK, qD⟩ := q; exact ⟨q0, q1, qP, va_K.moved (u := U) (U := U.calling g mk a) (Vm.Alike.refl U.vm) qK, qD⟩, va_recv hKc hPc (ci := 12) (q0 := 0) rfl rfl, fun U hU hW => ⟨rfl, by rw [hU], by rw [hU]; exact hPc, va_K.moved hW.alike hKc, hDc.weaken (fun _ _ _ _ => trivial)⟩⟩ rfl rfl hl.1 rfl (lv_room (Nat.le_of_ble_eq_true rfl)) dX12_span_37 ⟨Nat.zero_le _, Nat.zero_le _⟩) hS (fun q _ h => hFc q h) hFc (fun r_81 u t H1 locs ht hvm hw hB hz1 hk1 hS => ?_)
        obtain ⟨f_82, f_83, hP1, hD1⟩ := hB
        rw [ht] at hP1
        obtain ⟨hP, hD⟩ := va_join (wr := [((mr 18), .inl (km_verdict, 24, .inl f_79)), ((mr 19), .inl (km_row, 24, .inl f_80)), ((mr 4), .inl (km_struck, 24, .inl fm_struck)), ((mr 7), .inl (km_reportKnown, 24, .inl fm_reportKnown)), ((mr 2), .inl (km_reportPlace, 24, .inl fm_reportPlace)), ((mr 5), .inl (km_reportMonth, 24, .inl fm_reportMonth)), ((mr 6), .inl (km_reportDay, 24, .inl fm_reportDay)), ((mr 3), .inl (km_reportKind, 24, .inl fm_reportKind)), ((mr 0), .inl (km_trust, 6, .inl fm_trust)), ((mr 1), .inl (km_letter, 36, .inl fm_letter))]) (w1 := [(h0, .inr (12, fsMM (upd (upd mi 37 y_73) 41 y_74) mr)), ((mr 14), .inl (km_must, 25, .inl f_75)), ((mr 15), .inl (km_least, 25, .inl f_76)), ((mr 16), .inl (km_pin, 25, .inl f_82)), ((mr 17), .inl (km_ways, 6875, .inl f_83))]) hP hD [0, 1, 2, 3, 4] [5, 6, 7, 8, 9, 10, 11, 12, 13, 14] rfl rfl (by decide) (by decide) hk1 hFc hP1 hD1
        have hP := hP.sub (ws' := [(h0, .inr (12, fsMM (upd (upd mi 37 y_73) 41 y_74) mr)), ((mr 14), .inl (km_must, 25, .inl f_75)), ((mr 15), .inl (km_least, 25, .inl f_76)), ((mr 16), .inl (km_pin, 25, .inl f_82)), ((mr 17), .inl (km_ways, 6875, .inl f_83)), ((mr 18), .inl (km_verdict, 24, .inl f_79)), ((mr 19), .inl (km_row, 24, .inl f_80)), ((mr 4), .inl (km_struck, 24, .inl fm_struck)), ((mr 7), .inl (km_reportKnown, 24, .inl fm_reportKnown)), ((mr 2), .inl (km_reportPlace, 24, .inl fm_reportPlace)), ((mr 5), .inl (km_reportMonth, 24, .inl fm_reportMonth)), ((mr 6), .inl (km_reportDay, 24, .inl fm_reportDay)), ((mr 3), .inl (km_reportKind, 24, .inl fm_reportKind)), ((mr 0), .inl (km_trust, 6, .inl fm_trust)), ((mr 1), .inl (km_letter, 36, .inl fm_letter))]) [10, 11, 12, 13, 14, 0, 1, 2, 3, 4, 5, 6, 7, 8, 9] rfl
        have hD := hD.sub (ws' := [(h0, .inr (12, fsMM (upd (upd mi 37 y_73) 41 y_74) mr)), ((mr 14), .inl (km_must, 25, .inl f_75)), ((mr 15), .inl (km_least, 25, .inl f_76)), ((mr 16), .inl (km_pin, 25, .inl f_82)), ((mr 17), .inl (km_ways, 6875, .inl f_83)), ((mr 18), .inl (km_verdict, 24, .inl f_79)), ((mr 19), .inl (km_row, 24, .inl f_80)), ((mr 4), .inl (km_struck, 24, .inl fm_struck)), ((mr 7), .inl (km_reportKnown, 24, .inl fm_reportKnown)), ((mr 2), .inl (km_reportPlace, 24, .inl fm_reportPlace)), ((mr 5), .inl (km_reportMonth, 24, .inl fm_reportMonth)), ((mr 6), .inl (km_reportDay, 24, .inl fm_reportDay)), ((mr 3), .inl (km_reportKind, 24, .inl fm_reportKind)), ((mr 0), .inl (km_trust, 6, .inl fm_trust)), ((mr 1), .inl (km_letter, 36, .inl fm_letter))]) [10, 11, 12, 13, 14, 0, 1, 2, 3, 4, 5, 6, 7, 8, 9] (by decide) rfl
        generalize H1 = H at hP hS ⊢
        have gr_81 : gi r_81 (-2) 720 := hw
        exact W.iret (v := r_81) hx hb hr (fun t ht hW => ⟨⟨r_81, (), rfl, gr_81, y_73, y_74, f_75, f_76, f_82, f_83, f_79, f_80, gy_73, gy_74, gf_80, by rw [ht]; exact hP, hD⟩, hS.F ht⟩) hS.2.2 dX12_span_40
      · have g_84 : gi r_68 0 0 := gi_eq c_69 (gi_c 0 0 (by decide))
        refine lv_bipush (v := (-2)) hx hb dX12_span_26 (by decide) ?_
        exact W.iret (v := (-2)) hx hb hr (fun t ht hW => ⟨⟨(-2), (), rfl, (gi_w (gi_c (-2) (-2) (by decide)) (by decide)), (mi 37), (mi 41), fm_must, fm_least, fm_pin, fm_ways, fm_verdict, fm_row, gmi_37, gmi_41, gfm_row, by rw [ht]; exact hP, hD⟩, hS.F ht⟩) hS.2.2 dX12_span_28
