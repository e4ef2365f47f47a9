theorem dX12_beginsOn_0 : decode cX12_beginsOn 0 = .ok (.aload_n 0, 1) := by decide +kernel
theorem dX12_beginsOn_1 : decode cX12_beginsOn 1 = .ok (.iload_n 1, 1) := by decide +kernel
theorem dX12_beginsOn_2 : decode cX12_beginsOn 2 = .ok (.iload_n 2, 1) := by decide +kernel
theorem dX12_beginsOn_3 : decode cX12_beginsOn 3 = .ok (.iconst (-1), 1) := by decide +kernel
theorem dX12_beginsOn_4 : decode cX12_beginsOn 4 = .ok (.iconst 0, 1) := by decide +kernel
theorem dX12_beginsOn_5 : decode cX12_beginsOn 5 = .ok (.invokevirtual 385, 3) := by decide +kernel
theorem dX12_beginsOn_8 : decode cX12_beginsOn 8 = .ok (.ireturn, 1) := by decide +kernel
set_option maxHeartbeats 4000000 in
set_option maxRecDepth 100000 in
theorem sX12_beginsOn (l : Launch) (dC : Nat → ClassId) (dI : Nat → Nat → Nat) (sz : Nat) (h0 : Nat) (mi : Nat → Int32) (mr : Nat → Nat) (km_must : ClassId) (fm_must : Nat → Int32) (km_least : ClassId) (fm_least : Nat → Int32) (km_pin : ClassId) (fm_pin : Nat → Int32) (km_ways : ClassId) (fm_ways : Nat → Int32) (p1 : Int32) (p2 : Int32) (gmi_0 : gi (mi 0) 0 24) (gmi_1 : gi (mi 1) 0 5) (gmi_2 : gi (mi 2) 0 5) (gmi_4 : gi (mi 4) 0 1) (gmi_7 : gi (mi 7) 0 6) (gmi_10 : gi (mi 10) 0 24) (gmi_17 : gi (mi 17) 0 8) (gmi_23 : gi (mi 23) 0 300) (gmi_24 : gi (mi 24) 0 1) (gmi_26 : gi (mi 26) 0 1600) (gmi_29 : gi (mi 29) 0 1600) (gmi_30 : gi (mi 30) 0 1600) (gmi_33 : gi (mi 33) 0 1) (gmi_37 : gi (mi 37) 0 1) (gmi_41 : gi (mi 41) 0 24) (gmi_50 : gi (mi 50) 0 1) (gmi_51 : gi (mi 51) 0 1) (gmi_56 : gi (mi 56) 0 80) (gp1 : gi p1 0 24) : Met l yX12_beginsOn (.code yX12_beginsOn cX12_beginsOn 3 (some .int) :: wsGB) ({ frames := 4, cells := 0, slots := 0, locals := 101 }) (va_Pc [.ref h0, .int p1, .int p2] (fun U => U.heap.size = sz ∧ va_P (dC, dI) vwCl [(h0, .inr (12, fsMM mi mr)), ((mr 14), .inl (km_must, 25, .inl fm_must)), ((mr 15), .inl (km_least, 25, .inl fm_least)), ((mr 16), .inl (km_pin, 25, .inl fm_pin)), ((mr 17), .inl (km_ways, 6875, .inl fm_ways))] U.heap ∧ va_K (dC, dI) vwCl [(km_must, .int), (km_least, .int), (km_pin, .int), (km_ways, .int)] U ∧ va_D (fun _ => True) [(h0, .inr (12, fsMM mi mr)), ((mr 14), .inl (km_must, 25, .inl fm_must)), ((mr 15), .inl (km_least, 25, .inl fm_least)), ((mr 16), .inl (km_pin, 25, .inl fm_pin)), ((mr 17), .inl (km_ways, 6875, .inl fm_ways))])) (va_Qi (fun (r : Int32) (u : Unit) => gi r (-2147483648) 2147483647) (fun _ t => ∃ (z3 : Nat → Int32) (z4 : Nat → Int32), va_P (dC, dI) vwCl [(h0, .inr (12, fsMM mi mr)), ((mr 14), .inl (km_must, 25, .inl fm_must)), ((mr 15), .inl (km_least, 25, .inl fm_least)), ((mr 16), .inl (km_pin, 25, .inl z3)), ((mr 17), .inl (km_ways, 6875, .inl z4))] t.heap ∧ va_D (va_A [(h0, .inr (12, fsMM mi mr)), ((mr 14), .inl (km_must, 25, .inl fm_must)), ((mr 15), .inl (km_least, 25, .inl fm_least)), ((mr 16), .inl (km_pin, 25, .inl fm_pin)), ((mr 17), .inl (km_ways, 6875, .inl fm_ways))] sz) [(h0, .inr (12, fsMM mi mr)), ((mr 14), .inl (km_must, 25, .inl fm_must)), ((mr 15), .inl (km_least, 25, .inl fm_least)), ((mr 16), .inl (km_pin, 25, .inl z3)), ((mr 17), .inl (km_ways, 6875, .inl z4))]) (va_A [(h0, .inr (12, fsMM mi mr)), ((mr 14), .inl (km_must, 25, .inl fm_must)), ((mr 15), .inl (km_least, 25, .inl fm_least)), ((mr 16), .inl (km_pin, 25, .inl fm_pin)), ((mr 17), .inl (km_ways, 6875, .inl fm_ways))] sz)) 0 0 (va_A [(h0, .inr (12, fsMM mi mr)), ((mr 14), .inl (km_must, 25, .inl fm_must)), ((mr 15), .inl (km_least, 25, .inl fm_least)), ((mr 16), .inl (km_pin, 25, .inl fm_pin)), ((mr 17), .inl (km_ways, 6875, .inl fm_ways))] sz) := by
  refine Met.ofW (cc := cX12_beginsOn) (maxL := 3) (ret := (some .int)) (by decide) rfl ?_
  intro p e s m args below meth c s₁ B hml hv
  obtain ⟨rfl, hsz, hP, hK, hD0⟩ := hv
  have hx := B.exec
  have hb := B.bytes
  have hr := B.returns
  have hts := atoms_spec (ws := (.code yX12_beginsOn cX12_beginsOn 3 (some .int) :: wsGB)) B.pre
  have hown : s.vm.findClass RX12 = some m.cls := findClass_of_methodNamed B.named
  have hlocks := B.notSynchronized
  subst hsz
  have hD := hD0.self (sz := s.heap.size)
  generalize hAe : va_A [(h0, .inr (12, fsMM mi mr)), ((mr 14), .inl (km_must, 25, .inl fm_must)), ((mr 15), .inl (km_least, 25, .inl fm_least)), ((mr 16), .inl (km_pin, 25, .inl fm_pin)), ((mr 17), .inl (km_ways, 6875, .inl fm_ways))] s.heap.size = A at hD ⊢
  have hA : ∀ q : Nat, s.heap.size ≤ q → A q := fun q h => by rw [← hAe]; exact Or.inr h
  have hS : va_S A s.heap s.heap [] := va_S.rf
  have hl := lv_entry ([.ref h0, .int p1, .int p2]) (n := 3) (Nat.le_of_ble_eq_true rfl)
  rw [lg_entry_eq]
  generalize (lg_sl ([.ref h0, .int p1, .int p2]) ++ List.replicate (3 - (lg_sl ([.ref h0, .int p1, .int p2])).length) Slot.unset).toArray = ls at hl ⊢
  have hl : lv_has ls 3 [(0, .ref h0), (1, .int p1), (2, .int p2)] := hl
  refine lv_aload_n hx hb dX12_beginsOn_0 rfl (lv_at hl 0 rfl) ?_
  refine lv_iload_n hx hb dX12_beginsOn_1 rfl (lv_at hl 1 rfl) ?_
  refine lv_iload_n hx hb dX12_beginsOn_2 rfl (lv_at hl 2 rfl) ?_
  refine lv_iconst (v := (-1)) hx hb dX12_beginsOn_3 (by decide) ?_
  refine lv_iconst (v := 0) hx hb dX12_beginsOn_4 (by decide) ?_
  have hPc := hP.sub (ws' := [(h0, .inr (12, fsMM mi mr)), ((mr 14), .inl (km_must, 25, .inl fm_must)), ((mr 15), .inl (km_least, 25, .inl fm_least)), ((mr 16), .inl (km_pin, 25, .inl fm_pin)), ((mr 17), .inl (km_ways, 6875, .inl fm_ways))]) [0, 1, 2, 3, 4] rfl
  have hKc := hK.sub (tys' := [(km_must, .int), (km_least, .int), (km_pin, .int), (km_ways, .int)]) [0, 1, 2, 3] rfl
  have hDc := hD.sub (ws' := [(h0, .inr (12, fsMM mi mr)), ((mr 14), .inl (km_must, 25, .inl fm_must)), ((mr 15), .inl (km_least, 25, .inl fm_least)), ((mr 16), .inl (km_pin, 25, .inl fm_pin)), ((mr 17), .inl (km_ways, 6875, .inl fm_ways))]) [0, 1, 2, 3, 4] (by decide) rfl
  have hFc := va_free (wc := [(h0, .inr (12, fsMM mi mr)), ((mr 14), .inl (km_must, 25, .inl fm_must)), ((mr 15), .inl (km_least, 25, .inl fm_least)), ((mr 16), .inl (km_pin, 25, .inl fm_pin)), ((mr 17), .inl (km_ways, 6875, .inl fm_ways))]) hD hS hA [0, 1, 2, 3, 4] rfl
  refine va_calli (va_runV (As := [.int p1, .int p2, .int (-1), .int 0]) (rest := []) ⟨hx, hb, hml, hown, hts⟩ (sX12_countsWith l dC dI s.heap.size h0 mi mr km_must fm_must km_least fm_least km_pin fm_pin km_ways fm_ways p1 p2 (-1) 0 gmi_0 gmi_1 gmi_2 gmi_4 gmi_7 gmi_10 gmi_17 gmi_23 gmi_24 gmi_26 gmi_29 gmi_30 gmi_33 gmi_37 gmi_41 gmi_50 gmi_51 gmi_56 gp1 (gi_w (gi_c (-1) (-1) (by decide)) (by decide))) (cwV 4 hts (gz_gV mGB_377 mGB_378 mGB_379 mGB_1 mGB_380 goodGB) rfl rfl rfl (by decide +kernel) ⟨Nat.le_of_ble_eq_true rfl, Nat.le_of_ble_eq_true rfl⟩) ⟨fun a U g mk q => by obtain ⟨q0, q1, qP, qK, qD⟩ := q; exact ⟨q0, q1, qP, va_K.moved (u := U) (U := U.calling g mk a) (Vm.Alike.refl U.vm) qK, qD⟩, va_recv hKc hPc (ci := 12) (q0 := 0) rfl rfl, fun U hU hW => ⟨rfl, by rw [hU], by rw [hU]; exact hPc, va_K.moved hW.alike hKc, hDc.weaken (fun _ _ _ _ => trivial)⟩⟩ rfl rfl hl.1 rfl (lv_room (Nat.le_of_ble_eq_true rfl)) dX12_beginsOn_5 ⟨Nat.zero_le _, Nat.zero_le _⟩) hS (fun q _ h => hFc q h) hFc (fun r_7 u t H1 locs ht hvm hw hB hz1 hk1 hS => ?_)
  obtain ⟨f_8, f_9, hP1, hD1⟩ := hB
  rw [ht] at hP1
  obtain ⟨hP, hD⟩ := va_join (wr := []) (w1 := [(h0, .inr (12, fsMM mi mr)), ((mr 14), .inl (km_must, 25, .inl fm_must)), ((mr 15), .inl (km_least, 25, .inl fm_least)), ((mr 16), .inl (km_pin, 25, .inl f_8)), ((mr 17), .inl (km_ways, 6875, .inl f_9))]) hP hD [0, 1, 2, 3, 4] [] rfl rfl (by decide) (by decide) hk1 hFc hP1 hD1
  have hP := hP.sub (ws' := [(h0, .inr (12, fsMM mi mr)), ((mr 14), .inl (km_must, 25, .inl fm_must)), ((mr 15), .inl (km_least, 25, .inl fm_least)), ((mr 16), .inl (km_pin, 25, .inl f_8)), ((mr 17), .inl (km_ways, 6875, .inl f_9))]) [0, 1, 2, 3, 4] rfl
  have hD := hD.sub (ws' := [(h0, .inr (12, fsMM mi mr)), ((mr 14), .inl (km_must, 25, .inl fm_must)), ((mr 15), .inl (km_least, 25, .inl fm_least)), ((mr 16), .inl (km_pin, 25, .inl f_8)), ((mr 17), .inl (km_ways, 6875, .inl f_9))]) [0, 1, 2, 3, 4] (by decide) rfl
  generalize H1 = H at hP hS ⊢
  exact W.iret (v := r_7) hx hb hr (fun t ht hW => ⟨⟨r_7, (), rfl, (gi_any r_7), f_8, f_9, by rw [ht]; exact hP, hD⟩, hS.F ht⟩) hS.2.2 dX12_beginsOn_8
