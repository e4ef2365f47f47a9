theorem dX12_moves_0 : decode cX12_moves 0 = .ok (.aload_n 0, 1) := by decide +kernel
theorem dX12_moves_1 : decode cX12_moves 1 = .ok (.getfield 106, 3) := by decide +kernel
theorem dX12_moves_4 : decode cX12_moves 4 = .ok (.ifCond .eq 7, 3) := by decide +kernel
theorem dX12_moves_7 : decode cX12_moves 7 = .ok (.iload_n 1, 1) := by decide +kernel
theorem dX12_moves_8 : decode cX12_moves 8 = .ok (.goto 12, 3) := by decide +kernel
theorem dX12_moves_11 : decode cX12_moves 11 = .ok (.aload_n 0, 1) := by decide +kernel
theorem dX12_moves_12 : decode cX12_moves 12 = .ok (.getfield 47, 3) := by decide +kernel
theorem dX12_moves_15 : decode cX12_moves 15 = .ok (.aload_n 0, 1) := by decide +kernel
theorem dX12_moves_16 : decode cX12_moves 16 = .ok (.getfield 110, 3) := by decide +kernel
theorem dX12_moves_19 : decode cX12_moves 19 = .ok (.iaload, 1) := by decide +kernel
theorem dX12_moves_20 : decode cX12_moves 20 = .ok (.istore_n 2, 1) := by decide +kernel
theorem dX12_moves_21 : decode cX12_moves 21 = .ok (.aload_n 0, 1) := by decide +kernel
theorem dX12_moves_22 : decode cX12_moves 22 = .ok (.getfield 47, 3) := by decide +kernel
theorem dX12_moves_25 : decode cX12_moves 25 = .ok (.aload_n 0, 1) := by decide +kernel
theorem dX12_moves_26 : decode cX12_moves 26 = .ok (.getfield 110, 3) := by decide +kernel
theorem dX12_moves_29 : decode cX12_moves 29 = .ok (.iload_n 2, 1) := by decide +kernel
theorem dX12_moves_30 : decode cX12_moves 30 = .ok (.iastore, 1) := by decide +kernel
theorem dX12_moves_31 : decode cX12_moves 31 = .ok (.aload_n 0, 1) := by decide +kernel
theorem dX12_moves_32 : decode cX12_moves 32 = .ok (.dup, 1) := by decide +kernel
theorem dX12_moves_33 : decode cX12_moves 33 = .ok (.getfield 110, 3) := by decide +kernel
theorem dX12_moves_36 : decode cX12_moves 36 = .ok (.iconst 1, 1) := by decide +kernel
theorem dX12_moves_37 : decode cX12_moves 37 = .ok (.iadd, 1) := by decide +kernel
theorem dX12_moves_38 : decode cX12_moves 38 = .ok (.putfield 110, 3) := by decide +kernel
theorem dX12_moves_41 : decode cX12_moves 41 = .ok (.iload_n 2, 1) := by decide +kernel
theorem dX12_moves_42 : decode cX12_moves 42 = .ok (.ireturn, 1) := by decide +kernel
noncomputable def bfX12_moves_20 (mi : Nat → Int32) (fm_kept : Nat → Int32) (p1 : Int32) (s0 : Int32) (w0_23 : Int32) (z1 : Nat → Int32) : Int32 × Int32 × (Nat → Int32) := (s0, (w0_23 + (1 : Int32)), (upd z1 w0_23.toNatClampNeg s0))
noncomputable def fX12_moves (mi : Nat → Int32) (fm_kept : Nat → Int32) (p1 : Int32) : Int32 × Int32 × (Nat → Int32) := if (mi 24) = (0 : Int32) then (bfX12_moves_20 mi fm_kept p1 (fm_kept (mi 23).toNatClampNeg) (mi 23) fm_kept) else (bfX12_moves_20 mi fm_kept p1 p1 (mi 23) fm_kept)
set_option maxHeartbeats 4000000 in
set_option maxRecDepth 100000 in
theorem sX12_movesK (l : Launch) (dC : Nat → ClassId) (dI : Nat → Nat → Nat) (sz : Nat) (h0 : Nat) (mi : Nat → Int32) (mr : Nat → Nat) (km_kept : ClassId) (fm_kept : Nat → Int32) (p1 : Int32) (gmi_0 : gi (mi 0) 0 100000) (gmi_1 : gi (mi 1) 0 100000) (gmi_2 : gi (mi 2) 0 100000) (gmi_4 : gi (mi 4) 0 1) (gmi_7 : gi (mi 7) 0 6) (gmi_10 : gi (mi 10) 0 24) (gmi_17 : gi (mi 17) 0 8) (gmi_23 : gi (mi 23) 0 300) (gmi_24 : gi (mi 24) 0 1) (gmi_26 : gi (mi 26) 0 1600) (gmi_29 : gi (mi 29) 0 1600) (gmi_30 : gi (mi 30) 0 1600) (gmi_32 : gi (mi 32) 0 100000) (gmi_33 : gi (mi 33) 0 1) (gmi_37 : gi (mi 37) 0 1) (gmi_41 : gi (mi 41) 0 24) (gmi_50 : gi (mi 50) 0 1) (gmi_51 : gi (mi 51) 0 1) (gmi_56 : gi (mi 56) 0 80) (hpq0 : 1 ≤ (mi 24).toInt) (hpq1 : (mi 23).toInt ≤ 299) : Met l yX12_moves (.code yX12_moves cX12_moves 3 (some .int) :: wsGB) ({ frames := 0, cells := 0, slots := 0, locals := 0 }) (va_Pc [.ref h0, .int p1] (fun U => U.heap.size = sz ∧ va_P (dC, dI) vwCl [(h0, .inr (12, fsMM mi mr)), ((mr 12), .inl (km_kept, 300, .inl fm_kept))] U.heap ∧ va_K (dC, dI) vwCl [(km_kept, .int)] U ∧ va_D (fun _ => True) [(h0, .inr (12, fsMM mi mr)), ((mr 12), .inl (km_kept, 300, .inl fm_kept))])) (va_Qi (fun (r : Int32) (u : Int32) => r = u ∧ gi r (-2147483648) 2147483647) (fun r t => ∃ (w0_23 : Int32) (z1 : Nat → Int32), gi w0_23 0 300 ∧ w0_23.toInt = (mi 23).toInt + 1 ∧ z1 = upd fm_kept (mi 23).toNatClampNeg p1 ∧ r = p1 ∧ (r, w0_23, z1) = fX12_moves mi fm_kept p1 ∧ va_P (dC, dI) vwCl [(h0, .inr (12, fsMM (upd mi 23 w0_23) mr)), ((mr 12), .inl (km_kept, 300, .inl z1))] t.heap ∧ va_D (va_A [(h0, .inr (12, fsMM mi mr)), ((mr 12), .inl (km_kept, 300, .inl fm_kept))] sz) [(h0, .inr (12, fsMM (upd mi 23 w0_23) mr)), ((mr 12), .inl (km_kept, 300, .inl z1))]) (va_A [(h0, .inr (12, fsMM mi mr)), ((mr 12), .inl (km_kept, 300, .inl fm_kept))] sz)) 0 0 (va_A [(h0, .inr (12, fsMM mi mr)), ((mr 12), .inl (km_kept, 300, .inl fm_kept))] sz) := by
  refine Met.ofW (cc := cX12_moves) (maxL := 3) (ret := (some .int)) (by decide) rfl ?_
  intro p e s m args below meth c s₁ B hml hv
  obtain ⟨rfl, hsz, hP, hK, hD0⟩ := hv
  have hx := B.exec
  have hb := B.bytes
  have hr := B.returns
  have hts := atoms_spec (ws := (.code yX12_moves cX12_moves 3 (some .int) :: wsGB)) B.pre
  have hown : s.vm.findClass RX12 = some m.cls := findClass_of_methodNamed B.named
  have hlocks := B.notSynchronized
  subst hsz
  have hD := hD0.self (sz := s.heap.size)
  generalize hAe : va_A [(h0, .inr (12, fsMM mi mr)), ((mr 12), .inl (km_kept, 300, .inl fm_kept))] s.heap.size = A at hD ⊢
  have hA : ∀ q : Nat, s.heap.size ≤ q → A q := fun q h => by rw [← hAe]; exact Or.inr h
  have hS : va_S A s.heap s.heap [] := va_S.rf
  have hl := lv_entry ([.ref h0, .int p1]) (n := 3) (Nat.le_of_ble_eq_true rfl)
  rw [lg_entry_eq]
  generalize (lg_sl ([.ref h0, .int p1]) ++ List.replicate (3 - (lg_sl ([.ref h0, .int p1])).length) Slot.unset).toArray = ls at hl ⊢
  have hl : lv_has ls 3 [(0, .ref h0), (1, .int p1)] := hl
  obtain ⟨RES, hF⟩ : ∃ R9, fX12_moves mi fm_kept p1 = R9 := ⟨_, rfl⟩
  have hR9 := hF
  have g_11 : gi (mi 24) 1 1 := ⟨by omega, gmi_24.2⟩
  have g_12 : gi (mi 23) 0 299 := ⟨gmi_23.1, by omega⟩
  refine lv_aload_n hx hb dX12_moves_0 rfl (lv_at hl 0 rfl) ?_
  refine va_get (D := (dC, dI)) (ci := 12) (v := .int (mi 24)) (C := RX12) (T := TX12) (N := 57) hx hb hts (fun w h => List.mem_cons_of_mem _ (jnGB_X12 w h)) hown hK hP 0 rfl rfl 24 (by decide) (hts _ (List.mem_cons_of_mem _ mGB_121)) (fun _ h9 => h9) rfl dX12_moves_1 ?_
  refine lv_if_eq (tgt := 11) hx hb dX12_moves_4 (by decide) (fun c_13 => absurd c_13 (gi_no_eq g_11 (gi_c 0 0 (by decide)) (by decide))) (fun c_13 => ?_)
  have hF := gf_neg c_13 hF
  refine lv_iload_n hx hb dX12_moves_7 rfl (lv_at hl 1 rfl) ?_
  refine lv_goto (tgt := 20) hx hb dX12_moves_8 (by decide) ?_
  refine lv_istore_n (lv' := [(2, .int p1), (0, .ref h0), (1, .int p1)]) hx hb dX12_moves_20 rfl hl (by decide) rfl (fun ls hl => ?_)
  refine lv_aload_n hx hb dX12_moves_21 rfl (lv_at hl 1 rfl) ?_
  refine va_get (D := (dC, dI)) (ci := 12) (v := .ref (mr 12)) (C := RX12) (T := TX12) (N := 57) hx hb hts (fun w h => List.mem_cons_of_mem _ (jnGB_X12 w h)) hown hK hP 0 rfl rfl 22 (by decide) (hts _ (List.mem_cons_of_mem _ mGB_23)) (fun _ h9 => h9) rfl dX12_moves_22 ?_
  refine lv_aload_n hx hb dX12_moves_25 rfl (lv_at hl 1 rfl) ?_
  refine va_get (D := (dC, dI)) (ci := 12) (v := .int (mi 23)) (C := RX12) (T := TX12) (N := 57) hx hb hts (fun w h => List.mem_cons_of_mem _ (jnGB_X12 w h)) hown hK hP 0 rfl rfl 23 (by decide) (hts _ (List.mem_cons_of_mem _ mGB_122)) (fun _ h9 => h9) rfl dX12_moves_26 ?_
  refine lv_iload_n hx hb dX12_moves_29 rfl (lv_at hl 0 rfl) ?_
  refine va_iast hx hb hK hP hD hS 1 0 rfl rfl (gi_in g_12 (by decide)) dX12_moves_30 (fun H locs hP hD hS => ?_)
  have hP : va_P (dC, dI) vwCl [(h0, .inr (12, fsMM mi mr)), ((mr 12), .inl (km_kept, 300, .inl (upd fm_kept ((mi 23) : Int32).toNatClampNeg p1)))] H := hP
  have hD : va_D A [(h0, .inr (12, fsMM mi mr)), ((mr 12), .inl (km_kept, 300, .inl (upd fm_kept ((mi 23) : Int32).toNatClampNeg p1)))] := hD
  obtain ⟨f_14, ef_14⟩ : ∃ f9, upd fm_kept ((mi 23) : Int32).toNatClampNeg p1 = f9 := ⟨_, rfl⟩
  rw [ef_14] at hP hD
  refine lv_aload_n hx hb dX12_moves_31 rfl (lv_at hl 1 rfl) ?_
  refine lv_dup hx hb dX12_moves_32 rfl ?_
  refine va_get (D := (dC, dI)) (ci := 12) (v := .int (mi 23)) (C := RX12) (T := TX12) (N := 57) hx hb hts (fun w h => List.mem_cons_of_mem _ (jnGB_X12 w h)) hown hK hP 0 rfl rfl 23 (by decide) (hts _ (List.mem_cons_of_mem _ mGB_122)) (fun _ h9 => h9) rfl dX12_moves_33 ?_
  refine lv_iconst (v := 1) hx hb dX12_moves_36 (by decide) ?_
  refine lv_iadd hx hb dX12_moves_37 ?_
  refine lv_topi (fun x_15 ex_15 => ?_)
  have gx_15 : gi x_15 1 300 := gi_add ex_15 g_12 (gi_c 1 1 (by decide)) (by decide)
  refine va_put (D := (dC, dI)) (ci := 12) (v := .int x_15) (ty := .int) (C := RX12) (T := TX12) (N := 57) hx hb hts (fun w h => List.mem_cons_of_mem _ (jnGB_X12 w h)) tyX12 tyX12_ok nmX12 hown hK hP hD hS 0 rfl rfl 23 (by decide) (hts _ (List.mem_cons_of_mem _ mGB_122)) (fun _ h9 => h9) rfl (by decide +kernel) rfl rfl (Nat.le_of_ble_eq_true rfl) dX12_moves_38 (fun H locs hP hD hS => ?_)
  have hP : va_P (dC, dI) vwCl [(h0, .inr (12, fsMM (upd mi 23 x_15) mr)), ((mr 12), .inl (km_kept, 300, .inl f_14))] H := hP
  have hD : va_D A [(h0, .inr (12, fsMM (upd mi 23 x_15) mr)), ((mr 12), .inl (km_kept, 300, .inl f_14))] := hD
  refine lv_iload_n hx hb dX12_moves_41 rfl (lv_at hl 0 rfl) ?_
  exact W.iret (v := p1) hx hb hr (fun t ht hW => ⟨⟨p1, p1, rfl, ⟨rfl, (gi_any p1)⟩, x_15, f_14, (gi_w gx_15 (by decide)), (show x_15.toInt = (mi 23).toInt + 1 from by have qgx_15 := gx_15.1; have rgx_15 := gx_15.2; have igx_15 : x_15.toInt = (mi 23).toInt + 1 := (by have hc1 : (1 : Int32).toInt = 1 := (by decide); have h9 := gi_addI ex_15 (by have h1 := g_12.1; have h2 := (gi_c 1 1 (by decide)).1; have h3 := g_12.2; have h4 := (gi_c 1 1 (by decide)).2; omega) (by have h1 := g_12.1; have h2 := (gi_c 1 1 (by decide)).1; have h3 := g_12.2; have h4 := (gi_c 1 1 (by decide)).2; omega); rw [hc1] at h9; exact h9); have qgmi_23 := g_12.1; have rgmi_23 := g_12.2; have qgmi_24 := g_11.1; have rgmi_24 := g_11.2; omega), (show f_14 = upd fm_kept (mi 23).toNatClampNeg p1 from by exact ef_14.symm), (show p1 = p1 from by rfl), by rw [ex_15, ← ef_14]; exact hF.trans hR9.symm, by rw [ht]; exact hP, hD⟩, hS.F ht⟩) hS.2.2 dX12_moves_42
set_option maxHeartbeats 4000000 in
set_option maxRecDepth 100000 in
theorem sX12_movesR (l : Launch) (dC : Nat → ClassId) (dI : Nat → Nat → Nat) (sz : Nat) (h0 : Nat) (mi : Nat → Int32) (mr : Nat → Nat) (km_kept : ClassId) (fm_kept : Nat → Int32) (p1 : Int32) (gmi_0 : gi (mi 0) 0 100000) (gmi_1 : gi (mi 1) 0 100000) (gmi_2 : gi (mi 2) 0 100000) (gmi_4 : gi (mi 4) 0 1) (gmi_7 : gi (mi 7) 0 6) (gmi_10 : gi (mi 10) 0 24) (gmi_17 : gi (mi 17) 0 8) (gmi_23 : gi (mi 23) 0 300) (gmi_24 : gi (mi 24) 0 1) (gmi_26 : gi (mi 26) 0 1600) (gmi_29 : gi (mi 29) 0 1600) (gmi_30 : gi (mi 30) 0 1600) (gmi_32 : gi (mi 32) 0 100000) (gmi_33 : gi (mi 33) 0 1) (gmi_37 : gi (mi 37) 0 1) (gmi_41 : gi (mi 41) 0 24) (gmi_50 : gi (mi 50) 0 1) (gmi_51 : gi (mi 51) 0 1) (gmi_56 : gi (mi 56) 0 80) (hpq0 : (mi 24).toInt ≤ 0) (hpq1 : (mi 23).toInt ≤ 299) : Met l yX12_moves (.code yX12_moves cX12_moves 3 (some .int) :: wsGB) ({ frames := 0, cells := 0, slots := 0, locals := 0 }) (va_Pc [.ref h0, .int p1] (fun U => U.heap.size = sz ∧ va_P (dC, dI) vwCl [(h0, .inr (12, fsMM mi mr)), ((mr 12), .inl (km_kept, 300, .inl fm_kept))] U.heap ∧ va_K (dC, dI) vwCl [(km_kept, .int)] U ∧ va_D (fun _ => True) [(h0, .inr (12, fsMM mi mr)), ((mr 12), .inl (km_kept, 300, .inl fm_kept))])) (va_Qi (fun (r : Int32) (u : Int32) => r = u ∧ gi r (-2147483648) 2147483647) (fun r t => ∃ (w0_23 : Int32) (z1 : Nat → Int32), gi w0_23 0 300 ∧ w0_23.toInt = (mi 23).toInt + 1 ∧ z1 = fm_kept ∧ r = fm_kept (mi 23).toNatClampNeg ∧ (r, w0_23, z1) = fX12_moves mi fm_kept p1 ∧ va_P (dC, dI) vwCl [(h0, .inr (12, fsMM (upd mi 23 w0_23) mr)), ((mr 12), .inl (km_kept, 300, .inl z1))] t.heap ∧ va_D (va_A [(h0, .inr (12, fsMM mi mr)), ((mr 12), .inl (km_kept, 300, .inl fm_kept))] sz) [(h0, .inr (12, fsMM (upd mi 23 w0_23) mr)), ((mr 12), .inl (km_kept, 300, .inl z1))]) (va_A [(h0, .inr (12, fsMM mi mr)), ((mr 12), .inl (km_kept, 300, .inl fm_kept))] sz)) 0 0 (va_A [(h0, .inr (12, fsMM mi mr)), ((mr 12), .inl (km_kept, 300, .inl fm_kept))] sz) := by
  refine Met.ofW (cc := cX12_moves) (maxL := 3) (ret := (some .int)) (by decide) rfl ?_
  intro p e s m args below meth c s₁ B hml hv
  obtain ⟨rfl, hsz, hP, hK, hD0⟩ := hv
  have hx := B.exec
  have hb := B.bytes
  have hr := B.returns
  have hts := atoms_spec (ws := (.code yX12_moves cX12_moves 3 (some .int) :: wsGB)) B.pre
  have hown : s.vm.findClass RX12 = some m.cls := findClass_of_methodNamed B.named
  have hlocks := B.notSynchronized
  subst hsz
  have hD := hD0.self (sz := s.heap.size)
  generalize hAe : va_A [(h0, .inr (12, fsMM mi mr)), ((mr 12), .inl (km_kept, 300, .inl fm_kept))] s.heap.size = A at hD ⊢
  have hA : ∀ q : Nat, s.heap.size ≤ q → A q := fun q h => by rw [← hAe]; exact Or.inr h
  have hS : va_S A s.heap s.heap [] := va_S.rf
  have hl := lv_entry ([.ref h0, .int p1]) (n := 3) (Nat.le_of_ble_eq_true rfl)
  rw [lg_entry_eq]
  generalize (lg_sl ([.ref h0, .int p1]) ++ List.replicate (3 - (lg_sl ([.ref h0, .int p1])).length) Slot.unset).toArray = ls at hl ⊢
  have hl : lv_has ls 3 [(0, .ref h0), (1, .int p1)] := hl
  obtain ⟨RES, hF⟩ : ∃ R9, fX12_moves mi fm_kept p1 = R9 := ⟨_, rfl⟩
  have hR9 := hF
  have g_13 : gi (mi 24) 0 0 := ⟨gmi_24.1, by omega⟩
  have g_14 : gi (mi 23) 0 299 := ⟨gmi_23.1, by omega⟩
  refine lv_aload_n hx hb dX12_moves_0 rfl (lv_at hl 0 rfl) ?_
  refine va_get (D := (dC, dI)) (ci := 12) (v := .int (mi 24)) (C := RX12) (T := TX12) (N := 57) hx hb hts (fun w h => List.mem_cons_of_mem _ (jnGB_X12 w h)) hown hK hP 0 rfl rfl 24 (by decide) (hts _ (List.mem_cons_of_mem _ mGB_121)) (fun _ h9 => h9) rfl dX12_moves_1 ?_
  refine lv_if_eq (tgt := 11) hx hb dX12_moves_4 (by decide) (fun c_15 => ?_) (fun c_15 => absurd (gi_is_eq g_13 (gi_c 0 0 (by decide))) c_15)
  have hF := gf_pos c_15 hF
  refine lv_aload_n hx hb dX12_moves_11 rfl (lv_at hl 0 rfl) ?_
  refine va_get (D := (dC, dI)) (ci := 12) (v := .ref (mr 12)) (C := RX12) (T := TX12) (N := 57) hx hb hts (fun w h => List.mem_cons_of_mem _ (jnGB_X12 w h)) hown hK hP 0 rfl rfl 22 (by decide) (hts _ (List.mem_cons_of_mem _ mGB_23)) (fun _ h9 => h9) rfl dX12_moves_12 ?_
  refine lv_aload_n hx hb dX12_moves_15 rfl (lv_at hl 0 rfl) ?_
  refine va_get (D := (dC, dI)) (ci := 12) (v := .int (mi 23)) (C := RX12) (T := TX12) (N := 57) hx hb hts (fun w h => List.mem_cons_of_mem _ (jnGB_X12 w h)) hown hK hP 0 rfl rfl 23 (by decide) (hts _ (List.mem_cons_of_mem _ mGB_122)) (fun _ h9 => h9) rfl dX12_moves_16 ?_
  refine va_iald hx hb hK hP 1 0 rfl rfl (gi_in g_14 (by decide)) dX12_moves_19 ?_
  refine lv_topi (fun x_16 ex_16 => ?_)
  have hlx_16 : x_16.toInt = (fm_kept (mi 23).toNatClampNeg).toInt := congrArg Int32.toInt ex_16
  refine lv_istore_n (lv' := [(2, .int x_16), (0, .ref h0), (1, .int p1)]) hx hb dX12_moves_20 rfl hl (by decide) rfl (fun ls hl => ?_)
  refine lv_aload_n hx hb dX12_moves_21 rfl (lv_at hl 1 rfl) ?_
  refine va_get (D := (dC, dI)) (ci := 12) (v := .ref (mr 12)) (C := RX12) (T := TX12) (N := 57) hx hb hts (fun w h => List.mem_cons_of_mem _ (jnGB_X12 w h)) hown hK hP 0 rfl rfl 22 (by decide) (hts _ (List.mem_cons_of_mem _ mGB_23)) (fun _ h9 => h9) rfl dX12_moves_22 ?_
  refine lv_aload_n hx hb dX12_moves_25 rfl (lv_at hl 1 rfl) ?_
  refine va_get (D := (dC, dI)) (ci := 12) (v := .int (mi 23)) (C := RX12) (T := TX12) (N := 57) hx hb hts (fun w h => List.mem_cons_of_mem _ (jnGB_X12 w h)) hown hK hP 0 rfl rfl 23 (by decide) (hts _ (List.mem_cons_of_mem _ mGB_122)) (fun _ h9 => h9) rfl dX12_moves_26 ?_
  refine lv_iload_n hx hb dX12_moves_29 rfl (lv_at hl 0 rfl) ?_
  refine va_iast hx hb hK hP hD hS 1 0 rfl rfl (gi_in g_14 (by decide)) dX12_moves_30 (fun H locs hP hD hS => ?_)
  have hP : va_P (dC, dI) vwCl [(h0, .inr (12, fsMM mi mr)), ((mr 12), .inl (km_kept, 300, .inl (upd fm_kept ((mi 23) : Int32).toNatClampNeg x_16)))] H := hP
  have hD : va_D A [(h0, .inr (12, fsMM mi mr)), ((mr 12), .inl (km_kept, 300, .inl (upd fm_kept ((mi 23) : Int32).toNatClampNeg x_16)))] := hD
  obtain ⟨f_17, ef_17⟩ : ∃ f9, upd fm_kept ((mi 23) : Int32).toNatClampNeg x_16 = f9 := ⟨_, rfl⟩
  rw [ef_17] at hP hD
  refine lv_aload_n hx hb dX12_moves_31 rfl (lv_at hl 1 rfl) ?_
  refine lv_dup hx hb dX12_moves_32 rfl ?_
  refine va_get (D := (dC, dI)) (ci := 12) (v := .int (mi 23)) (C := RX12) (T := TX12) (N := 57) hx hb hts (fun w h => List.mem_cons_of_mem _ (jnGB_X12 w h)) hown hK hP 0 rfl rfl 23 (by decide) (hts _ (List.mem_cons_of_mem _ mGB_122)) (fun _ h9 => h9) rfl dX12_moves_33 ?_
  refine lv_iconst (v := 1) hx hb dX12_moves_36 (by decide) ?_
  refine lv_iadd hx hb dX12_moves_37 ?_
  refine lv_topi (fun x_18 ex_18 => ?_)
  have gx_18 : gi x_18 1 300 := gi_add ex_18 g_14 (gi_c 1 1 (by decide)) (by decide)
  refine va_put (D := (dC, dI)) (ci := 12) (v := .int x_18) (ty := .int) (C := RX12) (T := TX12) (N := 57) hx hb hts (fun w h => List.mem_cons_of_mem _ (jnGB_X12 w h)) tyX12 tyX12_ok nmX12 hown hK hP hD hS 0 rfl rfl 23 (by decide) (hts _ (List.mem_cons_of_mem _ mGB_122)) (fun _ h9 => h9) rfl (by decide +kernel) rfl rfl (Nat.le_of_ble_eq_true rfl) dX12_moves_38 (fun H locs hP hD hS => ?_)
  have hP : va_P (dC, dI) vwCl [(h0, .inr (12, fsMM (upd mi 23 x_18) mr)), ((mr 12), .inl (km_kept, 300, .inl f_17))] H := hP
  have hD : va_D A [(h0, .inr (12, fsMM (upd mi 23 x_18) mr)), ((mr 12), .inl (km_kept, 300, .inl f_17))] := hD
  refine lv_iload_n hx hb dX12_moves_41 rfl (lv_at hl 0 rfl) ?_
  exact W.iret (v := x_16) hx hb hr (fun t ht hW => ⟨⟨x_16, x_16, rfl, ⟨rfl, (gi_any x_16)⟩, x_18, f_17, (gi_w gx_18 (by decide)), (show x_18.toInt = (mi 23).toInt + 1 from by have qgx_18 := gx_18.1; have rgx_18 := gx_18.2; have igx_18 : x_18.toInt = (mi 23).toInt + 1 := (by have hc1 : (1 : Int32).toInt = 1 := (by decide); have h9 := gi_addI ex_18 (by have h1 := g_14.1; have h2 := (gi_c 1 1 (by decide)).1; have h3 := g_14.2; have h4 := (gi_c 1 1 (by decide)).2; omega) (by have h1 := g_14.1; have h2 := (gi_c 1 1 (by decide)).1; have h3 := g_14.2; have h4 := (gi_c 1 1 (by decide)).2; omega); rw [hc1] at h9; exact h9); have qgmi_23 := g_14.1; have rgmi_23 := g_14.2; have qgmi_24 := g_13.1; have rgmi_24 := g_13.2; omega), (show f_17 = fm_kept from by rw [← ef_17, ex_16]; exact upd_self _ _), (show x_16 = fm_kept (mi 23).toNatClampNeg from by exact ex_16), by rw [ex_18, ← ef_17, ex_16]; exact hF.trans hR9.symm, by rw [ht]; exact hP, hD⟩, hS.F ht⟩) hS.2.2 dX12_moves_42
/-! what is kept, and laid back -/
theorem mv_k {kept row kept' : Nat → Int32} {at0 a k k2 x : Int32} (h : ∀ j : Nat, (j : Int) < k.toInt → kept (at0.toNatClampNeg + j) = row j) (hk0 : 0 ≤ k.toInt) (ha0 : 0 ≤ at0.toInt) (ha : a.toInt = at0.toInt + k.toInt) (ex : x = row k.toNatClampNeg) (e : kept' = upd kept a.toNatClampNeg x) (hk : k2.toInt = k.toInt + 1) : ∀ j : Nat, (j : Int) < k2.toInt → kept' (at0.toNatClampNeg + j) = row j := by
  intro j hj
  have h1 : a.toNatClampNeg = at0.toNatClampNeg + k.toNatClampNeg := by show a.toInt.toNat = at0.toInt.toNat + k.toInt.toNat; omega
  have h2 : (k.toNatClampNeg : Int) = k.toInt := by show ((k.toInt.toNat : Nat) : Int) = _; omega
  rw [e, h1]
  unfold upd
  by_cases hjk : j = k.toNatClampNeg
  · rw [if_pos (by omega), ex, hjk]
  · rw [if_neg (by omega)]
    exact h j (by omega)
theorem mv_f {kept kept0 kept' : Nat → Int32} {at0 a k x : Int32} (h : ∀ j : Nat, j < at0.toNatClampNeg → kept j = kept0 j) (hk0 : 0 ≤ k.toInt) (ha0 : 0 ≤ at0.toInt) (ha : a.toInt = at0.toInt + k.toInt) (e : kept' = upd kept a.toNatClampNeg x) : ∀ j : Nat, j < at0.toNatClampNeg → kept' j = kept0 j := by
  intro j hj
  have h1 : a.toNatClampNeg = at0.toNatClampNeg + k.toNatClampNeg := by show a.toInt.toNat = at0.toInt.toNat + k.toInt.toNat; omega
  rw [e]
  unfold upd
  rw [if_neg (by omega)]
  exact h j hj
theorem mv_r {kept row row' : Nat → Int32} {at0 a k k2 x : Int32} (h : ∀ j : Nat, (j : Int) < k.toInt → row j = kept (at0.toNatClampNeg + j)) (hk0 : 0 ≤ k.toInt) (ha0 : 0 ≤ at0.toInt) (ha : a.toInt = at0.toInt + k.toInt) (ex : x = kept a.toNatClampNeg) (e : upd row k.toNatClampNeg x = row') (hk : k2.toInt = k.toInt + 1) : ∀ j : Nat, (j : Int) < k2.toInt → row' j = kept (at0.toNatClampNeg + j) := by
  intro j hj
  have h1 : a.toNatClampNeg = at0.toNatClampNeg + k.toNatClampNeg := by show a.toInt.toNat = at0.toInt.toNat + k.toInt.toNat; omega
  have h2 : (k.toNatClampNeg : Int) = k.toInt := by show ((k.toInt.toNat : Nat) : Int) = _; omega
  rw [← e]
  unfold upd
  by_cases hjk : j = k.toNatClampNeg
  · rw [if_pos hjk, ex, h1, hjk]
  · rw [if_neg hjk]
    exact h j (by omega)
theorem gz_cn {x : Int32} {n : Nat} {a b : Int} (h : gi x a b) (ha : a = (n : Int) ∧ b = (n : Int)) : x.toNatClampNeg = n := by
  have h1 := h.1; have h2 := h.2
  show x.toInt.toNat = n
  omega
def rkP (k : Nat → Int32) : Prop := gi (k 0) 0 24 ∧ gi (k 1) 0 5 ∧ gi (k 2) 0 5 ∧ gi (k 7) 0 6 ∧ gi (k 8) 0 24 ∧ gi (k 9) 0 8 ∧ ((k 3).toInt = 0 ∨ (2 ≤ (k 0).toInt ∧ (k 0).toInt ≤ 24 ∧ 1 ≤ (k 1).toInt ∧ (k 1).toInt ≤ 5 ∧ 1 ≤ (k 2).toInt ∧ (k 2).toInt ≤ 5)) ∧ ga (fun j => k (52 + j)) 24 0 5 ∧ ga (fun j => k (100 + j)) 24 0 23 ∧ ga (fun j => k (124 + j)) 24 0 999 ∧ ga (fun j => k (148 + j)) 24 0 999 ∧ ga (fun j => k (172 + j)) 8 0 23 ∧ ga (fun j => k (188 + j)) 8 0 600 ∧ ∀ j : Nat, j < 8 → ((k (196 + j)).toInt ≠ 0 ∨ (k (172 + j)).toInt + (k (188 + j)).toInt ≤ 23)
theorem rk_congr {k k' : Nat → Int32} (h : ∀ j : Nat, j < 204 → k' j = k j) (hk : rkP k) : rkP k' := by
  obtain ⟨h0, h1, h2, h3, h4, h5, h6, h7, h8, h9, h10, h11, h12, h13⟩ := hk
  have e : ∀ j : Nat, j < 204 → k' j = k j := h
  have ag : ∀ (o n : Nat) (a b : Int), o + n ≤ 204 → ga (fun j => k (o + j)) n a b → ga (fun j => k' (o + j)) n a b := fun o n a b ho hg j hj => by
    show gi (k' (o + j)) a b
    rw [e (o + j) (by omega)]
    exact hg j hj
  refine ⟨?_, ?_, ?_, ?_, ?_, ?_, ?_, ag 52 24 0 5 (by omega) h7, ag 100 24 0 23 (by omega) h8, ag 124 24 0 999 (by omega) h9, ag 148 24 0 999 (by omega) h10, ag 172 8 0 23 (by omega) h11, ag 188 8 0 600 (by omega) h12, fun j hj => ?_⟩
  · rw [e 0 (by omega)]; exact h0
  · rw [e 1 (by omega)]; exact h1
  · rw [e 2 (by omega)]; exact h2
  · rw [e 7 (by omega)]; exact h3
  · rw [e 8 (by omega)]; exact h4
  · rw [e 9 (by omega)]; exact h5
  · rw [e 3 (by omega), e 0 (by omega), e 1 (by omega), e 2 (by omega)]; exact h6
  · rw [e (196 + j) (by omega), e (172 + j) (by omega), e (188 + j) (by omega)]; exact h13 j hj
theorem rk_upd {k k' : Nat → Int32} {a x : Int32} {A B : Int} (hk : rkP k) (e : k' = upd k a.toNatClampNeg x) (ha : gi a A B) (hA : 204 ≤ A) : rkP k' := by
  refine rk_congr (k := k) (fun j hj => ?_) hk
  have h1 := ha.1
  have h2 : 204 ≤ a.toNatClampNeg := by show 204 ≤ a.toInt.toNat; omega
  rw [e]
  unfold upd
  rw [if_neg (by omega)]
/-- a row that is laid back has the bounds of what was kept -/
theorem ga_back {row kept : Nat → Int32} {at0 : Int32} {o n : Nat} {a b : Int} (h : ∀ j : Nat, (j : Int) < (n : Int) → row j = kept (at0.toNatClampNeg + j)) (h0 : at0.toNatClampNeg = o) (hg : ga (fun j => kept (o + j)) n a b) : ga row n a b := by
  intro j hj
  rw [h j (by omega), h0]
  exact hg j hj

theorem dX12_movesRow_0 : decode cX12_movesRow 0 = .ok (.iconst 0, 1) := by decide +kernel
theorem dX12_movesRow_1 : decode cX12_movesRow 1 = .ok (.istore_n 2, 1) := by decide +kernel
theorem dX12_movesRow_2 : decode cX12_movesRow 2 = .ok (.iload_n 2, 1) := by decide +kernel
theorem dX12_movesRow_3 : decode cX12_movesRow 3 = .ok (.aload_n 1, 1) := by decide +kernel
theorem dX12_movesRow_4 : decode cX12_movesRow 4 = .ok (.arraylength, 1) := by decide +kernel
theorem dX12_movesRow_5 : decode cX12_movesRow 5 = .ok (.if_icmp .ge 19, 3) := by decide +kernel
theorem dX12_movesRow_8 : decode cX12_movesRow 8 = .ok (.aload_n 1, 1) := by decide +kernel
theorem dX12_movesRow_9 : decode cX12_movesRow 9 = .ok (.iload_n 2, 1) := by decide +kernel
theorem dX12_movesRow_10 : decode cX12_movesRow 10 = .ok (.aload_n 0, 1) := by decide +kernel
theorem dX12_movesRow_11 : decode cX12_movesRow 11 = .ok (.aload_n 1, 1) := by decide +kernel
theorem dX12_movesRow_12 : decode cX12_movesRow 12 = .ok (.iload_n 2, 1) := by decide +kernel
theorem dX12_movesRow_13 : decode cX12_movesRow 13 = .ok (.iaload, 1) := by decide +kernel
theorem dX12_movesRow_14 : decode cX12_movesRow 14 = .ok (.invokevirtual 113, 3) := by decide +kernel
theorem dX12_movesRow_17 : decode cX12_movesRow 17 = .ok (.iastore, 1) := by decide +kernel
theorem dX12_movesRow_18 : decode cX12_movesRow 18 = .ok (.iinc 2 1, 3) := by decide +kernel
theorem dX12_movesRow_21 : decode cX12_movesRow 21 = .ok (.goto (-19), 3) := by decide +kernel
theorem dX12_movesRow_24 : decode cX12_movesRow 24 = .ok (.return_, 1) := by decide +kernel
noncomputable def dfX12_movesRow_2 (mi : Nat → Int32) (fm_kept : Nat → Int32) (frw : Nat → Int32) (K : (Int32 → Int32 → (Nat → Int32) → (Nat → Int32) → (Int32 × (Nat → Int32) × (Nat → Int32)))) (v2 : Int32) (w0_23 : Int32) (z1 : Nat → Int32) (z2 : Nat → Int32) : Int32 × (Nat → Int32) × (Nat → Int32) := if (6 : Int32) ≤ v2 then (w0_23, z1, z2) else (cal (fun o1 => K (v2 + (1 : Int32)) o1.2.1 o1.2.2 (upd z2 v2.toNatClampNeg o1.1)) (fX12_moves (upd mi 23 w0_23) z1 (z2 v2.toNatClampNeg)))
noncomputable def lfX12_movesRow (mi : Nat → Int32) (fm_kept : Nat → Int32) (frw : Nat → Int32) (z : Nat) : (Int32 → Int32 → (Nat → Int32) → (Nat → Int32) → (Int32 × (Nat → Int32) × (Nat → Int32))) := Nat.rec (motive := fun _ => (Int32 → Int32 → (Nat → Int32) → (Nat → Int32) → (Int32 × (Nat → Int32) × (Nat → Int32)))) (fun _ _ _ _ => (0, fun _ => 0, fun _ => 0)) (fun _ K => dfX12_movesRow_2 mi fm_kept frw K) z
noncomputable def fX12_movesRow (mi : Nat → Int32) (fm_kept : Nat → Int32) (frw : Nat → Int32) : Int32 × (Nat → Int32) × (Nat → Int32) := (lfX12_movesRow mi fm_kept frw 1000000000) (0 : Int32) (mi 23) fm_kept frw
set_option maxHeartbeats 4000000 in
set_option maxRecDepth 100000 in
theorem lp_sX12_movesRowK6 {p : Program} {l : Launch} {e : Env} {R : Room} {s : State} {m : MethodId} {args : Array Value} {below : List Frame} {meth : Method} {c : Code} {Q : State → Prop} {A : Nat → Prop} {cells slots : Nat} {dC : Nat → ClassId} {dI : Nat → Nat → Nat} {RES : Int32 × (Nat → Int32) × (Nat → Int32)} (h0 : Nat) (rw : Nat) (mi : Nat → Int32) (mr : Nat → Nat) (km_kept : ClassId) (fm_kept : Nat → Int32) (krw : ClassId) (frw : Nat → Int32) (gmi_0 : gi (mi 0) 0 100000) (gmi_1 : gi (mi 1) 0 100000) (gmi_2 : gi (mi 2) 0 100000) (gmi_4 : gi (mi 4) 0 1) (gmi_7 : gi (mi 7) 0 6) (gmi_10 : gi (mi 10) 0 24) (gmi_17 : gi (mi 17) 0 8) (gmi_23 : gi (mi 23) 0 300) (gmi_24 : gi (mi 24) 0 1) (gmi_26 : gi (mi 26) 0 1600) (gmi_29 : gi (mi 29) 0 1600) (gmi_30 : gi (mi 30) 0 1600) (gmi_32 : gi (mi 32) 0 100000) (gmi_33 : gi (mi 33) 0 1) (gmi_37 : gi (mi 37) 0 1) (gmi_41 : gi (mi 41) 0 24) (gmi_50 : gi (mi 50) 0 1) (gmi_51 : gi (mi 51) 0 1) (gmi_56 : gi (mi 56) 0 80) (hpq0 : (mi 24).toInt = 1) (hpq1 : (mi 23).toInt ≤ 294) (hx : p.tables.exec = Jvm.exec) (hb : c.code = cX12_movesRow) (hml : c.maxLocals = 3) (hown : s.vm.findClass RX12 = some m.cls) (hts : ∀ w ∈ ((.code yX12_movesRow cX12_movesRow 3 none :: wsGB) : List Cond), w.before args s = true) (hK : va_K (dC, dI) vwCl [(km_kept, .int), (krw, .int)] s) (hA : ∀ q : Nat, s.heap.size ≤ q → A q) (hRf : 1 ≤ R.frames) (hRl : 22 ≤ R.locals) (hRc : cells ≤ R.cells) (hRs : slots ≤ R.slots) (kr24 : ∀ (w0_23 : Int32) (z1 : Nat → Int32) (z2 : Nat → Int32) (H : Heap) (locs : List Loc) (ls : Array Slot), gi w0_23 0 300 → w0_23.toInt = (mi 23).toInt + 6 → z2 = frw → (∀ j : Nat, (j : Int) < 6 → z1 ((mi 23).toNatClampNeg + j) = frw j) → (∀ j : Nat, j < (mi 23).toNatClampNeg → z1 j = fm_kept j) → (w0_23, z1, z2) = RES → va_P (dC, dI) vwCl [(h0, .inr (12, fsMM (upd mi 23 w0_23) mr)), ((mr 12), .inl (km_kept, 300, .inl z1)), (rw, .inl (krw, 6, .inl z2))] H → va_D A [(h0, .inr (12, fsMM (upd mi 23 w0_23) mr)), ((mr 12), .inl (km_kept, 300, .inl z1)), (rw, .inl (krw, 6, .inl z2))] → va_S A s.heap H locs → lv_has ls 3 [] → W p l e R s m args below meth c H locs cells slots Q (F0 m 24 ls [])) : ∀ z : Nat, (∀ (v2 : Int32) (w0_23 : Int32) (z1 : Nat → Int32) (z2 : Nat → Int32) (H : Heap) (locs : List Loc) (ls : Array Slot), gi v2 0 6 → gi w0_23 0 300 → w0_23.toInt = (mi 23).toInt + v2.toInt → z2 = frw → (∀ j : Nat, (j : Int) < v2.toInt → z1 ((mi 23).toNatClampNeg + j) = frw j) → (∀ j : Nat, j < (mi 23).toNatClampNeg → z1 j = fm_kept j) → (lfX12_movesRow mi fm_kept frw z) v2 w0_23 z1 z2 = RES → 13 + (-2) * v2.toInt < (z : Int) → va_P (dC, dI) vwCl [(h0, .inr (12, fsMM (upd mi 23 w0_23) mr)), ((mr 12), .inl (km_kept, 300, .inl z1)), (rw, .inl (krw, 6, .inl z2))] H → va_D A [(h0, .inr (12, fsMM (upd mi 23 w0_23) mr)), ((mr 12), .inl (km_kept, 300, .inl z1)), (rw, .inl (krw, 6, .inl z2))] → va_S A s.heap H locs → lv_has ls 3 [(0, .ref h0), (1, .ref rw), (2, .int v2)] → W p l e R s m args below meth c H locs cells slots Q (F0 m 2 ls [])) := by
  intro z
  induction z with
  | zero =>
    intro v2 w0_23 z1 z2 H locs ls gv2 gw0_23 hinv0 hinv1 hinv2 hinv3 hF hmu hP hD hS hl
    exact absurd hmu (by have hv21 := gv2.1; have hv22 := gv2.2; omega)
  | succ z ih =>
      intro v2 w0_23 z1 z2 H locs ls gv2 gw0_23 hinv0 hinv1 hinv2 hinv3 hF hmu hP hD hS hl
      have hF : dfX12_movesRow_2 mi fm_kept frw (lfX12_movesRow mi fm_kept frw z) v2 w0_23 z1 z2 = RES := hF
      have g_74 : gi (mi 23) 0 294 := ⟨gmi_23.1, by omega⟩
      refine lv_iload_n hx hb dX12_movesRow_2 rfl (lv_at hl 2 rfl) ?_
      refine lv_aload_n hx hb dX12_movesRow_3 rfl (lv_at hl 1 rfl) ?_
      refine va_alen (v := 6) hx hb hK hP 2 1 rfl rfl rfl dX12_movesRow_4 ?_
      refine lv_icmp_ge (tgt := 24) hx hb dX12_movesRow_5 (by decide) (fun c_75 => ?_) (fun c_75 => ?_)
      · have hF := gf_pos c_75 hF
        have hc_76 : 6 ≤ v2.toInt := by have h9 := Int32.le_iff_toInt_le.mp c_75; rw [show (6 : Int32).toInt = 6 from by decide] at h9; exact h9
        have g_77 : gi v2 6 6 := gi_le_r c_75 (gi_c 6 6 (by decide)) gv2
        exact kr24 w0_23 z1 z2 _ _ _ gw0_23 (show w0_23.toInt = (mi 23).toInt + 6 from by have qgw0_23 := gw0_23.1; have rgw0_23 := gw0_23.2; have qgv2 := g_77.1; have rgv2 := g_77.2; have qgmi_24 := gmi_24.1; have rgmi_24 := gmi_24.2; have qgmi_23 := g_74.1; have rgmi_23 := g_74.2; omega) (show z2 = frw from by exact hinv1) (show ∀ j : Nat, (j : Int) < 6 → z1 ((mi 23).toNatClampNeg + j) = frw j from by exact fun j hj => hinv2 j (by have qgw0_23 := gw0_23.1; have rgw0_23 := gw0_23.2; have qgv2 := g_77.1; have rgv2 := g_77.2; have qgmi_24 := gmi_24.1; have rgmi_24 := gmi_24.2; have qgmi_23 := g_74.1; have rgmi_23 := g_74.2; omega)) (show ∀ j : Nat, j < (mi 23).toNatClampNeg → z1 j = fm_kept j from by exact hinv3) hF hP hD hS (lv_sub hl [] rfl)
      · have hF := gf_neg c_75 hF
        have hc_78 : v2.toInt < 6 := by have h9 := Int32.lt_iff_toInt_lt.mp (Int32.not_le.mp c_75); rw [show (6 : Int32).toInt = 6 from by decide] at h9; exact h9
        have g_79 : gi v2 0 5 := gi_lt_l (Int32.not_le.mp c_75) gv2 (gi_c 6 6 (by decide)) (by decide)
        refine lv_aload_n hx hb dX12_movesRow_8 rfl (lv_at hl 1 rfl) ?_
        refine lv_iload_n hx hb dX12_movesRow_9 rfl (lv_at hl 2 rfl) ?_
        refine lv_aload_n hx hb dX12_movesRow_10 rfl (lv_at hl 0 rfl) ?_
        refine lv_aload_n hx hb dX12_movesRow_11 rfl (lv_at hl 1 rfl) ?_
        refine lv_iload_n hx hb dX12_movesRow_12 rfl (lv_at hl 2 rfl) ?_
        refine va_iald hx hb hK hP 2 1 rfl rfl (gi_in g_79 (by decide)) dX12_movesRow_13 ?_
        refine lv_topi (fun x_80 ex_80 => ?_)
        have hlx_80 : x_80.toInt = (z2 v2.toNatClampNeg).toInt := congrArg Int32.toInt ex_80
        have hPc := hP.sub (ws' := [(h0, .inr (12, fsMM (upd mi 23 w0_23) mr)), ((mr 12), .inl (km_kept, 300, .inl z1))]) [0, 1] rfl
        have hKc := hK.sub (tys' := [(km_kept, .int)]) [0] rfl
        have hDc := hD.sub (ws' := [(h0, .inr (12, fsMM (upd mi 23 w0_23) mr)), ((mr 12), .inl (km_kept, 300, .inl z1))]) [0, 1] (by decide) rfl
        have hFc := va_free (wc := [(h0, .inr (12, fsMM (upd mi 23 w0_23) mr)), ((mr 12), .inl (km_kept, 300, .inl z1))]) hD hS hA [0, 1] rfl
        refine va_calli (va_runV (As := [.int x_80]) (rest := [.int v2, .ref rw]) ⟨hx, hb, hml, hown, hts⟩ (sX12_movesK l dC dI H.size h0 (upd mi 23 w0_23) mr km_kept z1 x_80 gmi_0 gmi_1 gmi_2 gmi_4 gmi_7 gmi_10 gmi_17 gw0_23 gmi_24 gmi_26 gmi_29 gmi_30 gmi_32 gmi_33 gmi_37 gmi_41 gmi_50 gmi_51 gmi_56 (show 1 ≤ (mi 24).toInt from by have qgw0_23 := gw0_23.1; have rgw0_23 := gw0_23.2; have qgv2 := g_79.1; have rgv2 := g_79.2; have qgmi_24 := gmi_24.1; have rgmi_24 := gmi_24.2; have qgmi_23 := g_74.1; have rgmi_23 := g_74.2; omega) (show w0_23.toInt ≤ 299 from by have qgw0_23 := gw0_23.1; have rgw0_23 := gw0_23.2; have qgv2 := g_79.1; have rgv2 := g_79.2; have qgmi_24 := gmi_24.1; have rgmi_24 := gmi_24.2; have qgmi_23 := g_74.1; have rgmi_23 := g_74.2; omega)) (cwV 1 hts (gz_gV mGB_123 mGB_124 mGB_125 mGB_1 mGB_126 goodGB) rfl rfl rfl (by decide +kernel) ⟨Nat.le_trans (Nat.le_of_ble_eq_true rfl) hRf, Nat.le_trans (Nat.le_of_ble_eq_true rfl) hRl⟩) ⟨fun a U g mk q => by obtain ⟨q0, q1, qP, qK, qD⟩ := q; exact ⟨q0, q1, qP, va_K.moved (u := U) (U := U.calling g mk a) (Vm.Alike.refl U.vm) qK, qD⟩, va_recv hKc hPc (ci := 12) (q0 := 0) rfl rfl, fun U hU hW => ⟨rfl, by rw [hU], by rw [hU]; exact hPc, va_K.moved hW.alike hKc, hDc.weaken (fun _ _ _ _ => trivial)⟩⟩ rfl rfl hl.1 rfl (lv_room (Nat.le_of_ble_eq_true rfl)) dX12_movesRow_14 ⟨hRc, hRs⟩) hS (fun q _ h => hFc q h) hFc (fun r_81 u t H1 locs ht hvm hw hB hz1 hk1 hS => ?_)
        obtain ⟨hu_, hw⟩ := hw
        subst hu_
        obtain ⟨y_82, f_83, gy_82, hpr0_r_81, hpr1_r_81, hpr2_r_81, hE, hP1, hD1⟩ := hB
        rw [ht] at hP1
        obtain ⟨hP, hD⟩ := va_join (wr := [(rw, .inl (krw, 6, .inl z2))]) (w1 := [(h0, .inr (12, fsMM (upd mi 23 y_82) mr)), ((mr 12), .inl (km_kept, 300, .inl f_83))]) hP hD [0, 1] [2] rfl rfl (by decide) (by decide) hk1 hFc hP1 hD1
        have hP := hP.sub (ws' := [(h0, .inr (12, fsMM (upd mi 23 y_82) mr)), ((mr 12), .inl (km_kept, 300, .inl f_83)), (rw, .inl (krw, 6, .inl z2))]) [1, 2, 0] rfl
        have hD := hD.sub (ws' := [(h0, .inr (12, fsMM (upd mi 23 y_82) mr)), ((mr 12), .inl (km_kept, 300, .inl f_83)), (rw, .inl (krw, 6, .inl z2))]) [1, 2, 0] (by decide) rfl
        have hpr0_r_81 : y_82.toInt = w0_23.toInt + 1 := hpr0_r_81
        have g_84 : gi y_82 1 301 := ⟨by have u1 := gw0_23.1; omega, by have u2 := gw0_23.2; omega⟩
        have hpr1_r_81 : f_83 = upd z1 w0_23.toNatClampNeg x_80 := hpr1_r_81
        have hpr2_r_81 : r_81 = x_80 := hpr2_r_81
        rw [ex_80] at hE
        have hF := gf_callm (a := (r_81, y_82, f_83)) hE hF (by first | with_reducible rfl | simp only [upd_same, upd_app, ↓reduceIte, Nat.reduceEqDiff])
        generalize H1 = H at hP hS ⊢
        refine va_iast hx hb hK hP hD hS 2 1 rfl rfl (gi_in g_79 (by decide)) dX12_movesRow_17 (fun H locs hP hD hS => ?_)
        have hP : va_P (dC, dI) vwCl [(h0, .inr (12, fsMM (upd mi 23 y_82) mr)), ((mr 12), .inl (km_kept, 300, .inl f_83)), (rw, .inl (krw, 6, .inl (upd z2 (v2 : Int32).toNatClampNeg r_81)))] H := hP
        have hD : va_D A [(h0, .inr (12, fsMM (upd mi 23 y_82) mr)), ((mr 12), .inl (km_kept, 300, .inl f_83)), (rw, .inl (krw, 6, .inl (upd z2 (v2 : Int32).toNatClampNeg r_81)))] := hD
        generalize ef_85 : upd z2 (v2 : Int32).toNatClampNeg r_81 = f_85 at hP hD
        obtain ⟨x_86, ex_86⟩ : ∃ y : Int32, y = v2 + 1 := ⟨_, rfl⟩
        have gx_86 : gi x_86 1 6 := gi_add ex_86 g_79 (gi_c 1 1 (by decide)) (by decide)
        refine lv_iinc (v := x_86) (lv' := [(2, .int x_86), (0, .ref h0), (1, .ref rw)]) hx hb dX12_movesRow_18 hl (k := 2) rfl (by rw [ex_86]; rfl) (by decide) rfl (fun ls hl => ?_)
        refine lv_goto (tgt := 2) hx hb dX12_movesRow_21 (by decide) ?_
        exact ih x_86 y_82 f_83 f_85 _ _ _ (gi_w gx_86 (by decide)) (show gi y_82 0 300 from ⟨by have qgy_82 := g_84.1; have rgy_82 := g_84.2; have qgw0_23 := gw0_23.1; have rgw0_23 := gw0_23.2; have qgv2 := g_79.1; have rgv2 := g_79.2; have qgmi_24 := gmi_24.1; have rgmi_24 := gmi_24.2; have qgmi_23 := g_74.1; have rgmi_23 := g_74.2; omega, by have qgy_82 := g_84.1; have rgy_82 := g_84.2; have qgw0_23 := gw0_23.1; have rgw0_23 := gw0_23.2; have qgv2 := g_79.1; have rgv2 := g_79.2; have qgmi_24 := gmi_24.1; have rgmi_24 := gmi_24.2; have qgmi_23 := g_74.1; have rgmi_23 := g_74.2; omega⟩) (show y_82.toInt = (mi 23).toInt + x_86.toInt from by have qgy_82 := g_84.1; have rgy_82 := g_84.2; have qgx_86 := gx_86.1; have rgx_86 := gx_86.2; have igx_86 : x_86.toInt = v2.toInt + 1 := (by have hc1 : (1 : Int32).toInt = 1 := (by decide); have h9 := gi_addI ex_86 (by have h1 := g_79.1; have h2 := (gi_c 1 1 (by decide)).1; have h3 := g_79.2; have h4 := (gi_c 1 1 (by decide)).2; omega) (by have h1 := g_79.1; have h2 := (gi_c 1 1 (by decide)).1; have h3 := g_79.2; have h4 := (gi_c 1 1 (by decide)).2; omega); rw [hc1] at h9; exact h9); have qgv2 := g_79.1; have rgv2 := g_79.2; have qgw0_23 := gw0_23.1; have rgw0_23 := gw0_23.2; have qgmi_24 := gmi_24.1; have rgmi_24 := gmi_24.2; have qgmi_23 := g_74.1; have rgmi_23 := g_74.2; omega) (show f_85 = frw from by rw [← ef_85, hpr2_r_81, ex_80, upd_self]; exact hinv1) (show ∀ j : Nat, (j : Int) < x_86.toInt → f_83 ((mi 23).toNatClampNeg + j) = frw j from by exact mv_k hinv2 (by have qgy_82 := g_84.1; have rgy_82 := g_84.2; have qgw0_23 := gw0_23.1; have rgw0_23 := gw0_23.2; have qgv2 := g_79.1; have rgv2 := g_79.2; have qgmi_24 := gmi_24.1; have rgmi_24 := gmi_24.2; have qgmi_23 := g_74.1; have rgmi_23 := g_74.2; omega) (by have qgy_82 := g_84.1; have rgy_82 := g_84.2; have qgw0_23 := gw0_23.1; have rgw0_23 := gw0_23.2; have qgv2 := g_79.1; have rgv2 := g_79.2; have qgmi_24 := gmi_24.1; have rgmi_24 := gmi_24.2; have qgmi_23 := g_74.1; have rgmi_23 := g_74.2; omega) (by have qgy_82 := g_84.1; have rgy_82 := g_84.2; have qgw0_23 := gw0_23.1; have rgw0_23 := gw0_23.2; have qgv2 := g_79.1; have rgv2 := g_79.2; have qgmi_24 := gmi_24.1; have rgmi_24 := gmi_24.2; have qgmi_23 := g_74.1; have rgmi_23 := g_74.2; omega) (ex_80.trans (congrFun hinv1 _)) hpr1_r_81 (by have qgy_82 := g_84.1; have rgy_82 := g_84.2; have qgx_86 := gx_86.1; have rgx_86 := gx_86.2; have igx_86 : x_86.toInt = v2.toInt + 1 := (by have hc1 : (1 : Int32).toInt = 1 := (by decide); have h9 := gi_addI ex_86 (by have h1 := g_79.1; have h2 := (gi_c 1 1 (by decide)).1; have h3 := g_79.2; have h4 := (gi_c 1 1 (by decide)).2; omega) (by have h1 := g_79.1; have h2 := (gi_c 1 1 (by decide)).1; have h3 := g_79.2; have h4 := (gi_c 1 1 (by decide)).2; omega); rw [hc1] at h9; exact h9); have qgv2 := g_79.1; have rgv2 := g_79.2; have qgw0_23 := gw0_23.1; have rgw0_23 := gw0_23.2; have qgmi_24 := gmi_24.1; have rgmi_24 := gmi_24.2; have qgmi_23 := g_74.1; have rgmi_23 := g_74.2; omega)) (show ∀ j : Nat, j < (mi 23).toNatClampNeg → f_83 j = fm_kept j from by exact mv_f (k := v2) (a := w0_23) hinv3 (by have qgy_82 := g_84.1; have rgy_82 := g_84.2; have qgw0_23 := gw0_23.1; have rgw0_23 := gw0_23.2; have qgv2 := g_79.1; have rgv2 := g_79.2; have qgmi_24 := gmi_24.1; have rgmi_24 := gmi_24.2; have qgmi_23 := g_74.1; have rgmi_23 := g_74.2; omega) (by have qgy_82 := g_84.1; have rgy_82 := g_84.2; have qgw0_23 := gw0_23.1; have rgw0_23 := gw0_23.2; have qgv2 := g_79.1; have rgv2 := g_79.2; have qgmi_24 := gmi_24.1; have rgmi_24 := gmi_24.2; have qgmi_23 := g_74.1; have rgmi_23 := g_74.2; omega) (by have qgy_82 := g_84.1; have rgy_82 := g_84.2; have qgw0_23 := gw0_23.1; have rgw0_23 := gw0_23.2; have qgv2 := g_79.1; have rgv2 := g_79.2; have qgmi_24 := gmi_24.1; have rgmi_24 := gmi_24.2; have qgmi_23 := g_74.1; have rgmi_23 := g_74.2; omega) hpr1_r_81) (by rw [ex_86, ← ef_85]; exact hF) (by have av2 := gv2.1; have bv2 := gv2.2; have qgx_86 := gx_86.1; have rgx_86 := gx_86.2; have igx_86 : x_86.toInt = v2.toInt + 1 := (by have hc1 : (1 : Int32).toInt = 1 := (by decide); have h9 := gi_addI ex_86 (by have h1 := g_79.1; have h2 := (gi_c 1 1 (by decide)).1; have h3 := g_79.2; have h4 := (gi_c 1 1 (by decide)).2; omega) (by have h1 := g_79.1; have h2 := (gi_c 1 1 (by decide)).1; have h3 := g_79.2; have h4 := (gi_c 1 1 (by decide)).2; omega); rw [hc1] at h9; exact h9); have qgv2 := g_79.1; have rgv2 := g_79.2; omega) hP hD hS (lv_sub hl [1, 2, 0] rfl)
set_option maxHeartbeats 4000000 in
set_option maxRecDepth 100000 in
theorem sX12_movesRowK6 (l : Launch) (dC : Nat → ClassId) (dI : Nat → Nat → Nat) (sz : Nat) (h0 : Nat) (rw : Nat) (mi : Nat → Int32) (mr : Nat → Nat) (km_kept : ClassId) (fm_kept : Nat → Int32) (krw : ClassId) (frw : Nat → Int32) (gmi_0 : gi (mi 0) 0 100000) (gmi_1 : gi (mi 1) 0 100000) (gmi_2 : gi (mi 2) 0 100000) (gmi_4 : gi (mi 4) 0 1) (gmi_7 : gi (mi 7) 0 6) (gmi_10 : gi (mi 10) 0 24) (gmi_17 : gi (mi 17) 0 8) (gmi_23 : gi (mi 23) 0 300) (gmi_24 : gi (mi 24) 0 1) (gmi_26 : gi (mi 26) 0 1600) (gmi_29 : gi (mi 29) 0 1600) (gmi_30 : gi (mi 30) 0 1600) (gmi_32 : gi (mi 32) 0 100000) (gmi_33 : gi (mi 33) 0 1) (gmi_37 : gi (mi 37) 0 1) (gmi_41 : gi (mi 41) 0 24) (gmi_50 : gi (mi 50) 0 1) (gmi_51 : gi (mi 51) 0 1) (gmi_56 : gi (mi 56) 0 80) (hpq0 : (mi 24).toInt = 1) (hpq1 : (mi 23).toInt ≤ 294) : Met l yX12_movesRow (.code yX12_movesRow cX12_movesRow 3 none :: wsGB) ({ frames := 1, cells := 0, slots := 0, locals := 22 }) (va_Pc [.ref h0, .ref rw] (fun U => U.heap.size = sz ∧ va_P (dC, dI) vwCl [(h0, .inr (12, fsMM mi mr)), ((mr 12), .inl (km_kept, 300, .inl fm_kept)), (rw, .inl (krw, 6, .inl frw))] U.heap ∧ va_K (dC, dI) vwCl [(km_kept, .int), (krw, .int)] U ∧ va_D (fun _ => True) [(h0, .inr (12, fsMM mi mr)), ((mr 12), .inl (km_kept, 300, .inl fm_kept)), (rw, .inl (krw, 6, .inl frw))])) (va_Qv (fun (u : Unit) => True) (fun _ t => ∃ (w0_23 : Int32) (z1 : Nat → Int32) (z2 : Nat → Int32), gi w0_23 0 300 ∧ w0_23.toInt = (mi 23).toInt + 6 ∧ z2 = frw ∧ (∀ j : Nat, (j : Int) < 6 → z1 ((mi 23).toNatClampNeg + j) = frw j) ∧ (∀ j : Nat, j < (mi 23).toNatClampNeg → z1 j = fm_kept j) ∧ (w0_23, z1, z2) = fX12_movesRow mi fm_kept frw ∧ va_P (dC, dI) vwCl [(h0, .inr (12, fsMM (upd mi 23 w0_23) mr)), ((mr 12), .inl (km_kept, 300, .inl z1)), (rw, .inl (krw, 6, .inl z2))] t.heap ∧ va_D (va_A [(h0, .inr (12, fsMM mi mr)), ((mr 12), .inl (km_kept, 300, .inl fm_kept)), (rw, .inl (krw, 6, .inl frw))] sz) [(h0, .inr (12, fsMM (upd mi 23 w0_23) mr)), ((mr 12), .inl (km_kept, 300, .inl z1)), (rw, .inl (krw, 6, .inl z2))]) (va_A [(h0, .inr (12, fsMM mi mr)), ((mr 12), .inl (km_kept, 300, .inl fm_kept)), (rw, .inl (krw, 6, .inl frw))] sz)) 0 0 (va_A [(h0, .inr (12, fsMM mi mr)), ((mr 12), .inl (km_kept, 300, .inl fm_kept)), (rw, .inl (krw, 6, .inl frw))] sz) := by
  refine Met.ofW (cc := cX12_movesRow) (maxL := 3) (ret := none) (by decide) rfl ?_
  intro p e s m args below meth c s₁ B hml hv
  obtain ⟨rfl, hsz, hP, hK, hD0⟩ := hv
  have hx := B.exec
  have hb := B.bytes
  have hr := B.returns
  have hts := atoms_spec (ws := (.code yX12_movesRow cX12_movesRow 3 none :: wsGB)) B.pre
  have hown : s.vm.findClass RX12 = some m.cls := findClass_of_methodNamed B.named
  have hlocks := B.notSynchronized
  subst hsz
  have hD := hD0.self (sz := s.heap.size)
  generalize hAe : va_A [(h0, .inr (12, fsMM mi mr)), ((mr 12), .inl (km_kept, 300, .inl fm_kept)), (rw, .inl (krw, 6, .inl frw))] s.heap.size = A at hD ⊢
  have hA : ∀ q : Nat, s.heap.size ≤ q → A q := fun q h => by rw [← hAe]; exact Or.inr h
  have hS : va_S A s.heap s.heap [] := va_S.rf
  have hl := lv_entry ([.ref h0, .ref rw]) (n := 3) (Nat.le_of_ble_eq_true rfl)
  rw [lg_entry_eq]
  generalize (lg_sl ([.ref h0, .ref rw]) ++ List.replicate (3 - (lg_sl ([.ref h0, .ref rw])).length) Slot.unset).toArray = ls at hl ⊢
  have hl : lv_has ls 3 [(0, .ref h0), (1, .ref rw)] := hl
  obtain ⟨RES, hF⟩ : ∃ R9, fX12_movesRow mi fm_kept frw = R9 := ⟨_, rfl⟩
  have hR9 := hF
  have g_87 : gi (mi 23) 0 294 := ⟨gmi_23.1, by omega⟩
  refine lv_iconst (v := 0) hx hb dX12_movesRow_0 (by decide) ?_
  refine lv_istore_n (lv' := [(2, .int 0), (0, .ref h0), (1, .ref rw)]) hx hb dX12_movesRow_1 rfl hl (by decide) rfl (fun ls hl => ?_)
  refine (lp_sX12_movesRowK6 h0 rw mi mr km_kept fm_kept krw frw gmi_0 gmi_1 gmi_2 gmi_4 gmi_7 gmi_10 gmi_17 gmi_23 gmi_24 gmi_26 gmi_29 gmi_30 gmi_32 gmi_33 gmi_37 gmi_41 gmi_50 gmi_51 gmi_56 hpq0 hpq1 hx hb hml hown hts hK hA (Nat.le_of_ble_eq_true rfl) (Nat.le_of_ble_eq_true rfl) (Nat.zero_le _) (Nat.zero_le _) (fun w0_23 z1 z2 H locs ls gw0_23 hpr0 hpr1 hpr2 hpr3 hF hP hD hS hl => ?_) 1000000000) 0 (mi 23) fm_kept frw _ _ _ (gi_w (gi_c 0 0 (by decide)) (by decide)) (gi_w g_87 (by decide)) (show (mi 23).toInt = (mi 23).toInt + (0 : Int32).toInt from by have k0 : (0 : Int32).toInt = 0 := (by decide); have qgmi_24 := gmi_24.1; have rgmi_24 := gmi_24.2; have qgmi_23 := g_87.1; have rgmi_23 := g_87.2; omega) (show frw = frw from by rfl) (show ∀ j : Nat, (j : Int) < (0 : Int) → fm_kept ((mi 23).toNatClampNeg + j) = frw j from by exact fun j hj => absurd hj (by have h0 : (0 : Int32).toInt = 0 := (by decide); omega)) (show ∀ j : Nat, j < (mi 23).toNatClampNeg → fm_kept j = fm_kept j from by exact fun j hj => rfl) hF (by have k0 : (0 : Int32).toInt = 0 := (by decide); omega) hP hD hS (lv_sub hl [1, 2, 0] rfl)
  · skip
    exact W.vret hx hb hr (fun t ht hW => ⟨⟨(), rfl, trivial, w0_23, z1, z2, gw0_23, hpr0, hpr1, hpr2, hpr3, hF.trans hR9.symm, by rw [ht]; exact hP, hD⟩, hS.F ht⟩) hS.2.2 dX12_movesRow_24
noncomputable def dfX12_movesRow_sX12_movesRowR6_2 (mi : Nat → Int32) (fm_kept : Nat → Int32) (frw : Nat → Int32) (K : (Int32 → Int32 → (Nat → Int32) → (Int32 × (Nat → Int32) × (Nat → Int32)))) (v2 : Int32) (w0_23 : Int32) (z2 : Nat → Int32) : Int32 × (Nat → Int32) × (Nat → Int32) := if (6 : Int32) ≤ v2 then (w0_23, fm_kept, z2) else (cal (fun o1 => K (v2 + (1 : Int32)) o1.2.1 (upd z2 v2.toNatClampNeg o1.1)) (fX12_moves (upd mi 23 w0_23) fm_kept (z2 v2.toNatClampNeg)))
noncomputable def lfX12_movesRow_sX12_movesRowR6 (mi : Nat → Int32) (fm_kept : Nat → Int32) (frw : Nat → Int32) (z : Nat) : (Int32 → Int32 → (Nat → Int32) → (Int32 × (Nat → Int32) × (Nat → Int32))) := Nat.rec (motive := fun _ => (Int32 → Int32 → (Nat → Int32) → (Int32 × (Nat → Int32) × (Nat → Int32)))) (fun _ _ _ => (0, fun _ => 0, fun _ => 0)) (fun _ K => dfX12_movesRow_sX12_movesRowR6_2 mi fm_kept frw K) z
noncomputable def fX12_movesRow_sX12_movesRowR6 (mi : Nat → Int32) (fm_kept : Nat → Int32) (frw : Nat → Int32) : Int32 × (Nat → Int32) × (Nat → Int32) := (lfX12_movesRow_sX12_movesRowR6 mi fm_kept frw 1000000000) (0 : Int32) (mi 23) frw
set_option maxHeartbeats 4000000 in
set_option maxRecDepth 100000 in
theorem lp_sX12_movesRowR6 {p : Program} {l : Launch} {e : Env} {R : Room} {s : State} {m : MethodId} {args : Array Value} {below : List Frame} {meth : Method} {c : Code} {Q : State → Prop} {A : Nat → Prop} {cells slots : Nat} {dC : Nat → ClassId} {dI : Nat → Nat → Nat} {RES : Int32 × (Nat → Int32) × (Nat → Int32)} (h0 : Nat) (rw : Nat) (mi : Nat → Int32) (mr : Nat → Nat) (km_kept : ClassId) (fm_kept : Nat → Int32) (krw : ClassId) (frw : Nat → Int32) (gmi_0 : gi (mi 0) 0 100000) (gmi_1 : gi (mi 1) 0 100000) (gmi_2 : gi (mi 2) 0 100000) (gmi_4 : gi (mi 4) 0 1) (gmi_7 : gi (mi 7) 0 6) (gmi_10 : gi (mi 10) 0 24) (gmi_17 : gi (mi 17) 0 8) (gmi_23 : gi (mi 23) 0 300) (gmi_24 : gi (mi 24) 0 1) (gmi_26 : gi (mi 26) 0 1600) (gmi_29 : gi (mi 29) 0 1600) (gmi_30 : gi (mi 30) 0 1600) (gmi_32 : gi (mi 32) 0 100000) (gmi_33 : gi (mi 33) 0 1) (gmi_37 : gi (mi 37) 0 1) (gmi_41 : gi (mi 41) 0 24) (gmi_50 : gi (mi 50) 0 1) (gmi_51 : gi (mi 51) 0 1) (gmi_56 : gi (mi 56) 0 80) (hpq0 : (mi 24).toInt = 0) (hpq1 : (mi 23).toInt ≤ 294) (hx : p.tables.exec = Jvm.exec) (hb : c.code = cX12_movesRow) (hml : c.maxLocals = 3) (hown : s.vm.findClass RX12 = some m.cls) (hts : ∀ w ∈ ((.code yX12_movesRow cX12_movesRow 3 none :: wsGB) : List Cond), w.before args s = true) (hK : va_K (dC, dI) vwCl [(km_kept, .int), (krw, .int)] s) (hA : ∀ q : Nat, s.heap.size ≤ q → A q) (hRf : 1 ≤ R.frames) (hRl : 22 ≤ R.locals) (hRc : cells ≤ R.cells) (hRs : slots ≤ R.slots) (kr24 : ∀ (w0_23 : Int32) (z1 : Nat → Int32) (z2 : Nat → Int32) (H : Heap) (locs : List Loc) (ls : Array Slot), gi w0_23 0 300 → w0_23.toInt = (mi 23).toInt + 6 → z1 = fm_kept → (∀ j : Nat, (j : Int) < 6 → z2 j = fm_kept ((mi 23).toNatClampNeg + j)) → (w0_23, z1, z2) = RES → va_P (dC, dI) vwCl [(h0, .inr (12, fsMM (upd mi 23 w0_23) mr)), ((mr 12), .inl (km_kept, 300, .inl z1)), (rw, .inl (krw, 6, .inl z2))] H → va_D A [(h0, .inr (12, fsMM (upd mi 23 w0_23) mr)), ((mr 12), .inl (km_kept, 300, .inl z1)), (rw, .inl (krw, 6, .inl z2))] → va_S A s.heap H locs → lv_has ls 3 [] → W p l e R s m args below meth c H locs cells slots Q (F0 m 24 ls [])) : ∀ z : Nat, (∀ (v2 : Int32) (w0_23 : Int32) (z2 : Nat → Int32) (H : Heap) (locs : List Loc) (ls : Array Slot), gi v2 0 6 → gi w0_23 0 300 → w0_23.toInt = (mi 23).toInt + v2.toInt → fm_kept = fm_kept → (∀ j : Nat, (j : Int) < v2.toInt → z2 j = fm_kept ((mi 23).toNatClampNeg + j)) → (lfX12_movesRow_sX12_movesRowR6 mi fm_kept frw z) v2 w0_23 z2 = RES → 13 + (-2) * v2.toInt < (z : Int) → va_P (dC, dI) vwCl [(h0, .inr (12, fsMM (upd mi 23 w0_23) mr)), ((mr 12), .inl (km_kept, 300, .inl fm_kept)), (rw, .inl (krw, 6, .inl z2))] H → va_D A [(h0, .inr (12, fsMM (upd mi 23 w0_23) mr)), ((mr 12), .inl (km_kept, 300, .inl fm_kept)), (rw, .inl (krw, 6, .inl z2))] → va_S A s.heap H locs → lv_has ls 3 [(0, .ref h0), (1, .ref rw), (2, .int v2)] → W p l e R s m args below meth c H locs cells slots Q (F0 m 2 ls [])) := by
  intro z
  induction z with
  | zero =>
    intro v2 w0_23 z2 H locs ls gv2 gw0_23 hinv0 hinv1 hinv2 hF hmu hP hD hS hl
    exact absurd hmu (by have hv21 := gv2.1; have hv22 := gv2.2; omega)
  | succ z ih =>
      intro v2 w0_23 z2 H locs ls gv2 gw0_23 hinv0 hinv1 hinv2 hF hmu hP hD hS hl
      have hF : dfX12_movesRow_sX12_movesRowR6_2 mi fm_kept frw (lfX12_movesRow_sX12_movesRowR6 mi fm_kept frw z) v2 w0_23 z2 = RES := hF
      have g_74 : gi (mi 23) 0 294 := ⟨gmi_23.1, by omega⟩
      refine lv_iload_n hx hb dX12_movesRow_2 rfl (lv_at hl 2 rfl) ?_
      refine lv_aload_n hx hb dX12_movesRow_3 rfl (lv_at hl 1 rfl) ?_
      refine va_alen (v := 6) hx hb hK hP 2 1 rfl rfl rfl dX12_movesRow_4 ?_
      refine lv_icmp_ge (tgt := 24) hx hb dX12_movesRow_5 (by decide) (fun c_75 => ?_) (fun c_75 => ?_)
      · have hF := gf_pos c_75 hF
        have hc_76 : 6 ≤ v2.toInt := by have h9 := Int32.le_iff_toInt_le.mp c_75; rw [show (6 : Int32).toInt = 6 from by decide] at h9; exact h9
        have g_77 : gi v2 6 6 := gi_le_r c_75 (gi_c 6 6 (by decide)) gv2
        exact kr24 w0_23 fm_kept z2 _ _ _ gw0_23 (show w0_23.toInt = (mi 23).toInt + 6 from by have qgw0_23 := gw0_23.1; have rgw0_23 := gw0_23.2; have qgv2 := g_77.1; have rgv2 := g_77.2; have qgmi_24 := gmi_24.1; have rgmi_24 := gmi_24.2; have qgmi_23 := g_74.1; have rgmi_23 := g_74.2; omega) (show fm_kept = fm_kept from by exact hinv1) (show ∀ j : Nat, (j : Int) < 6 → z2 j = fm_kept ((mi 23).toNatClampNeg + j) from by exact fun j hj => hinv2 j (by have qgw0_23 := gw0_23.1; have rgw0_23 := gw0_23.2; have qgv2 := g_77.1; have rgv2 := g_77.2; have qgmi_24 := gmi_24.1; have rgmi_24 := gmi_24.2; have qgmi_23 := g_74.1; have rgmi_23 := g_74.2; omega)) hF hP hD hS (lv_sub hl [] rfl)
      · have hF := gf_neg c_75 hF
        have hc_78 : v2.toInt < 6 := by have h9 := Int32.lt_iff_toInt_lt.mp (Int32.not_le.mp c_75); rw [show (6 : Int32).toInt = 6 from by decide] at h9; exact h9
        have g_79 : gi v2 0 5 := gi_lt_l (Int32.not_le.mp c_75) gv2 (gi_c 6 6 (by decide)) (by decide)
        refine lv_aload_n hx hb dX12_movesRow_8 rfl (lv_at hl 1 rfl) ?_
        refine lv_iload_n hx hb dX12_movesRow_9 rfl (lv_at hl 2 rfl) ?_
        refine lv_aload_n hx hb dX12_movesRow_10 rfl (lv_at hl 0 rfl) ?_
        refine lv_aload_n hx hb dX12_movesRow_11 rfl (lv_at hl 1 rfl) ?_
        refine lv_iload_n hx hb dX12_movesRow_12 rfl (lv_at hl 2 rfl) ?_
        refine va_iald hx hb hK hP 2 1 rfl rfl (gi_in g_79 (by decide)) dX12_movesRow_13 ?_
        refine lv_topi (fun x_80 ex_80 => ?_)
        have hlx_80 : x_80.toInt = (z2 v2.toNatClampNeg).toInt := congrArg Int32.toInt ex_80
        have hPc := hP.sub (ws' := [(h0, .inr (12, fsMM (upd mi 23 w0_23) mr)), ((mr 12), .inl (km_kept, 300, .inl fm_kept))]) [0, 1] rfl
        have hKc := hK.sub (tys' := [(km_kept, .int)]) [0] rfl
        have hDc := hD.sub (ws' := [(h0, .inr (12, fsMM (upd mi 23 w0_23) mr)), ((mr 12), .inl (km_kept, 300, .inl fm_kept))]) [0, 1] (by decide) rfl
        have hFc := va_free (wc := [(h0, .inr (12, fsMM (upd mi 23 w0_23) mr)), ((mr 12), .inl (km_kept, 300, .inl fm_kept))]) hD hS hA [0, 1] rfl
        refine va_calli (va_runV (As := [.int x_80]) (rest := [.int v2, .ref rw]) ⟨hx, hb, hml, hown, hts⟩ (sX12_movesR l dC dI H.size h0 (upd mi 23 w0_23) mr km_kept fm_kept x_80 gmi_0 gmi_1 gmi_2 gmi_4 gmi_7 gmi_10 gmi_17 gw0_23 gmi_24 gmi_26 gmi_29 gmi_30 gmi_32 gmi_33 gmi_37 gmi_41 gmi_50 gmi_51 gmi_56 (show (mi 24).toInt ≤ 0 from by have qgw0_23 := gw0_23.1; have rgw0_23 := gw0_23.2; have qgv2 := g_79.1; have rgv2 := g_79.2; have qgmi_24 := gmi_24.1; have rgmi_24 := gmi_24.2; have qgmi_23 := g_74.1; have rgmi_23 := g_74.2; omega) (show w0_23.toInt ≤ 299 from by have qgw0_23 := gw0_23.1; have rgw0_23 := gw0_23.2; have qgv2 := g_79.1; have rgv2 := g_79.2; have qgmi_24 := gmi_24.1; have rgmi_24 := gmi_24.2; have qgmi_23 := g_74.1; have rgmi_23 := g_74.2; omega)) (cwV 1 hts (gz_gV mGB_123 mGB_124 mGB_125 mGB_1 mGB_126 goodGB) rfl rfl rfl (by decide +kernel) ⟨Nat.le_trans (Nat.le_of_ble_eq_true rfl) hRf, Nat.le_trans (Nat.le_of_ble_eq_true rfl) hRl⟩) ⟨fun a U g mk q => by obtain ⟨q0, q1, qP, qK, qD⟩ := q; exact ⟨q0, q1, qP, va_K.moved (u := U) (U := U.calling g mk a) (Vm.Alike.refl U.vm) qK, qD⟩, va_recv hKc hPc (ci := 12) (q0 := 0) rfl rfl, fun U hU hW => ⟨rfl, by rw [hU], by rw [hU]; exact hPc, va_K.moved hW.alike hKc, hDc.weaken (fun _ _ _ _ => trivial)⟩⟩ rfl rfl hl.1 rfl (lv_room (Nat.le_of_ble_eq_true rfl)) dX12_movesRow_14 ⟨hRc, hRs⟩) hS (fun q _ h => hFc q h) hFc (fun r_81 u t H1 locs ht hvm hw hB hz1 hk1 hS => ?_)
        obtain ⟨hu_, hw⟩ := hw
        subst hu_
        obtain ⟨y_82, f_83, gy_82, hpr0_r_81, hpr1_r_81, hpr2_r_81, hE, hP1, hD1⟩ := hB
        rw [ht] at hP1
        obtain ⟨hP, hD⟩ := va_join (wr := [(rw, .inl (krw, 6, .inl z2))]) (w1 := [(h0, .inr (12, fsMM (upd mi 23 y_82) mr)), ((mr 12), .inl (km_kept, 300, .inl f_83))]) hP hD [0, 1] [2] rfl rfl (by decide) (by decide) hk1 hFc hP1 hD1
        have hP := hP.sub (ws' := [(h0, .inr (12, fsMM (upd mi 23 y_82) mr)), ((mr 12), .inl (km_kept, 300, .inl f_83)), (rw, .inl (krw, 6, .inl z2))]) [1, 2, 0] rfl
        have hD := hD.sub (ws' := [(h0, .inr (12, fsMM (upd mi 23 y_82) mr)), ((mr 12), .inl (km_kept, 300, .inl f_83)), (rw, .inl (krw, 6, .inl z2))]) [1, 2, 0] (by decide) rfl
        have hpr0_r_81 : y_82.toInt = w0_23.toInt + 1 := hpr0_r_81
        have g_84 : gi y_82 1 301 := ⟨by have u1 := gw0_23.1; omega, by have u2 := gw0_23.2; omega⟩
        have hpr1_r_81 : f_83 = fm_kept := hpr1_r_81
        have hpr1_r_81 := hpr1_r_81.symm
        subst hpr1_r_81
        have hpr2_r_81 : r_81 = fm_kept w0_23.toNatClampNeg := hpr2_r_81
        rw [ex_80] at hE
        have hF := gf_callm (a := (r_81, y_82, fm_kept)) hE hF (by first | with_reducible rfl | simp only [upd_same, upd_app, ↓reduceIte, Nat.reduceEqDiff])
        generalize H1 = H at hP hS ⊢
        refine va_iast hx hb hK hP hD hS 2 1 rfl rfl (gi_in g_79 (by decide)) dX12_movesRow_17 (fun H locs hP hD hS => ?_)
        have hP : va_P (dC, dI) vwCl [(h0, .inr (12, fsMM (upd mi 23 y_82) mr)), ((mr 12), .inl (km_kept, 300, .inl fm_kept)), (rw, .inl (krw, 6, .inl (upd z2 (v2 : Int32).toNatClampNeg r_81)))] H := hP
        have hD : va_D A [(h0, .inr (12, fsMM (upd mi 23 y_82) mr)), ((mr 12), .inl (km_kept, 300, .inl fm_kept)), (rw, .inl (krw, 6, .inl (upd z2 (v2 : Int32).toNatClampNeg r_81)))] := hD
        generalize ef_85 : upd z2 (v2 : Int32).toNatClampNeg r_81 = f_85 at hP hD
        obtain ⟨x_86, ex_86⟩ : ∃ y : Int32, y = v2 + 1 := ⟨_, rfl⟩
        have gx_86 : gi x_86 1 6 := gi_add ex_86 g_79 (gi_c 1 1 (by decide)) (by decide)
        refine lv_iinc (v := x_86) (lv' := [(2, .int x_86), (0, .ref h0), (1, .ref rw)]) hx hb dX12_movesRow_18 hl (k := 2) rfl (by rw [ex_86]; rfl) (by decide) rfl (fun ls hl => ?_)
        refine lv_goto (tgt := 2) hx hb dX12_movesRow_21 (by decide) ?_
        exact ih x_86 y_82 f_85 _ _ _ (gi_w gx_86 (by decide)) (show gi y_82 0 300 from ⟨by have qgy_82 := g_84.1; have rgy_82 := g_84.2; have qgw0_23 := gw0_23.1; have rgw0_23 := gw0_23.2; have qgv2 := g_79.1; have rgv2 := g_79.2; have qgmi_24 := gmi_24.1; have rgmi_24 := gmi_24.2; have qgmi_23 := g_74.1; have rgmi_23 := g_74.2; omega, by have qgy_82 := g_84.1; have rgy_82 := g_84.2; have qgw0_23 := gw0_23.1; have rgw0_23 := gw0_23.2; have qgv2 := g_79.1; have rgv2 := g_79.2; have qgmi_24 := gmi_24.1; have rgmi_24 := gmi_24.2; have qgmi_23 := g_74.1; have rgmi_23 := g_74.2; omega⟩) (show y_82.toInt = (mi 23).toInt + x_86.toInt from by have qgy_82 := g_84.1; have rgy_82 := g_84.2; have qgx_86 := gx_86.1; have rgx_86 := gx_86.2; have igx_86 : x_86.toInt = v2.toInt + 1 := (by have hc1 : (1 : Int32).toInt = 1 := (by decide); have h9 := gi_addI ex_86 (by have h1 := g_79.1; have h2 := (gi_c 1 1 (by decide)).1; have h3 := g_79.2; have h4 := (gi_c 1 1 (by decide)).2; omega) (by have h1 := g_79.1; have h2 := (gi_c 1 1 (by decide)).1; have h3 := g_79.2; have h4 := (gi_c 1 1 (by decide)).2; omega); rw [hc1] at h9; exact h9); have qgv2 := g_79.1; have rgv2 := g_79.2; have qgw0_23 := gw0_23.1; have rgw0_23 := gw0_23.2; have qgmi_24 := gmi_24.1; have rgmi_24 := gmi_24.2; have qgmi_23 := g_74.1; have rgmi_23 := g_74.2; omega) (show fm_kept = fm_kept from by exact hinv1) (show ∀ j : Nat, (j : Int) < x_86.toInt → f_85 j = fm_kept ((mi 23).toNatClampNeg + j) from by exact mv_r hinv2 (by have qgy_82 := g_84.1; have rgy_82 := g_84.2; have qgw0_23 := gw0_23.1; have rgw0_23 := gw0_23.2; have qgv2 := g_79.1; have rgv2 := g_79.2; have qgmi_24 := gmi_24.1; have rgmi_24 := gmi_24.2; have qgmi_23 := g_74.1; have rgmi_23 := g_74.2; omega) (by have qgy_82 := g_84.1; have rgy_82 := g_84.2; have qgw0_23 := gw0_23.1; have rgw0_23 := gw0_23.2; have qgv2 := g_79.1; have rgv2 := g_79.2; have qgmi_24 := gmi_24.1; have rgmi_24 := gmi_24.2; have qgmi_23 := g_74.1; have rgmi_23 := g_74.2; omega) (by have qgy_82 := g_84.1; have rgy_82 := g_84.2; have qgw0_23 := gw0_23.1; have rgw0_23 := gw0_23.2; have qgv2 := g_79.1; have rgv2 := g_79.2; have qgmi_24 := gmi_24.1; have rgmi_24 := gmi_24.2; have qgmi_23 := g_74.1; have rgmi_23 := g_74.2; omega) (hpr2_r_81.trans (congrFun hinv1 _)) ef_85 (by have qgy_82 := g_84.1; have rgy_82 := g_84.2; have qgx_86 := gx_86.1; have rgx_86 := gx_86.2; have igx_86 : x_86.toInt = v2.toInt + 1 := (by have hc1 : (1 : Int32).toInt = 1 := (by decide); have h9 := gi_addI ex_86 (by have h1 := g_79.1; have h2 := (gi_c 1 1 (by decide)).1; have h3 := g_79.2; have h4 := (gi_c 1 1 (by decide)).2; omega) (by have h1 := g_79.1; have h2 := (gi_c 1 1 (by decide)).1; have h3 := g_79.2; have h4 := (gi_c 1 1 (by decide)).2; omega); rw [hc1] at h9; exact h9); have qgv2 := g_79.1; have rgv2 := g_79.2; have qgw0_23 := gw0_23.1; have rgw0_23 := gw0_23.2; have qgmi_24 := gmi_24.1; have rgmi_24 := gmi_24.2; have qgmi_23 := g_74.1; have rgmi_23 := g_74.2; omega)) (by rw [ex_86, ← ef_85]; exact hF) (by have av2 := gv2.1; have bv2 := gv2.2; have qgx_86 := gx_86.1; have rgx_86 := gx_86.2; have igx_86 : x_86.toInt = v2.toInt + 1 := (by have hc1 : (1 : Int32).toInt = 1 := (by decide); have h9 := gi_addI ex_86 (by have h1 := g_79.1; have h2 := (gi_c 1 1 (by decide)).1; have h3 := g_79.2; have h4 := (gi_c 1 1 (by decide)).2; omega) (by have h1 := g_79.1; have h2 := (gi_c 1 1 (by decide)).1; have h3 := g_79.2; have h4 := (gi_c 1 1 (by decide)).2; omega); rw [hc1] at h9; exact h9); have qgv2 := g_79.1; have rgv2 := g_79.2; omega) hP hD hS (lv_sub hl [1, 2, 0] rfl)
set_option maxHeartbeats 4000000 in
set_option maxRecDepth 100000 in
theorem sX12_movesRowR6 (l : Launch) (dC : Nat → ClassId) (dI : Nat → Nat → Nat) (sz : Nat) (h0 : Nat) (rw : Nat) (mi : Nat → Int32) (mr : Nat → Nat) (km_kept : ClassId) (fm_kept : Nat → Int32) (krw : ClassId) (frw : Nat → Int32) (gmi_0 : gi (mi 0) 0 100000) (gmi_1 : gi (mi 1) 0 100000) (gmi_2 : gi (mi 2) 0 100000) (gmi_4 : gi (mi 4) 0 1) (gmi_7 : gi (mi 7) 0 6) (gmi_10 : gi (mi 10) 0 24) (gmi_17 : gi (mi 17) 0 8) (gmi_23 : gi (mi 23) 0 300) (gmi_24 : gi (mi 24) 0 1) (gmi_26 : gi (mi 26) 0 1600) (gmi_29 : gi (mi 29) 0 1600) (gmi_30 : gi (mi 30) 0 1600) (gmi_32 : gi (mi 32) 0 100000) (gmi_33 : gi (mi 33) 0 1) (gmi_37 : gi (mi 37) 0 1) (gmi_41 : gi (mi 41) 0 24) (gmi_50 : gi (mi 50) 0 1) (gmi_51 : gi (mi 51) 0 1) (gmi_56 : gi (mi 56) 0 80) (hpq0 : (mi 24).toInt = 0) (hpq1 : (mi 23).toInt ≤ 294) : Met l yX12_movesRow (.code yX12_movesRow cX12_movesRow 3 none :: wsGB) ({ frames := 1, cells := 0, slots := 0, locals := 22 }) (va_Pc [.ref h0, .ref rw] (fun U => U.heap.size = sz ∧ va_P (dC, dI) vwCl [(h0, .inr (12, fsMM mi mr)), ((mr 12), .inl (km_kept, 300, .inl fm_kept)), (rw, .inl (krw, 6, .inl frw))] U.heap ∧ va_K (dC, dI) vwCl [(km_kept, .int), (krw, .int)] U ∧ va_D (fun _ => True) [(h0, .inr (12, fsMM mi mr)), ((mr 12), .inl (km_kept, 300, .inl fm_kept)), (rw, .inl (krw, 6, .inl frw))])) (va_Qv (fun (u : Unit) => True) (fun _ t => ∃ (w0_23 : Int32) (z1 : Nat → Int32) (z2 : Nat → Int32), gi w0_23 0 300 ∧ w0_23.toInt = (mi 23).toInt + 6 ∧ z1 = fm_kept ∧ (∀ j : Nat, (j : Int) < 6 → z2 j = fm_kept ((mi 23).toNatClampNeg + j)) ∧ (w0_23, z1, z2) = fX12_movesRow_sX12_movesRowR6 mi fm_kept frw ∧ va_P (dC, dI) vwCl [(h0, .inr (12, fsMM (upd mi 23 w0_23) mr)), ((mr 12), .inl (km_kept, 300, .inl z1)), (rw, .inl (krw, 6, .inl z2))] t.heap ∧ va_D (va_A [(h0, .inr (12, fsMM mi mr)), ((mr 12), .inl (km_kept, 300, .inl fm_kept)), (rw, .inl (krw, 6, .inl frw))] sz) [(h0, .inr (12, fsMM (upd mi 23 w0_23) mr)), ((mr 12), .inl (km_kept, 300, .inl z1)), (rw, .inl (krw, 6, .inl z2))]) (va_A [(h0, .inr (12, fsMM mi mr)), ((mr 12), .inl (km_kept, 300, .inl fm_kept)), (rw, .inl (krw, 6, .inl frw))] sz)) 0 0 (va_A [(h0, .inr (12, fsMM mi mr)), ((mr 12), .inl (km_kept, 300, .inl fm_kept)), (rw, .inl (krw, 6, .inl frw))] sz) := by
  refine Met.ofW (cc := cX12_movesRow) (maxL := 3) (ret := none) (by decide) rfl ?_
  intro p e s m args below meth c s₁ B hml hv
  obtain ⟨rfl, hsz, hP, hK, hD0⟩ := hv
  have hx := B.exec
  have hb := B.bytes
  have hr := B.returns
  have hts := atoms_spec (ws := (.code yX12_movesRow cX12_movesRow 3 none :: wsGB)) B.pre
  have hown : s.vm.findClass RX12 = some m.cls := findClass_of_methodNamed B.named
  have hlocks := B.notSynchronized
  subst hsz
  have hD := hD0.self (sz := s.heap.size)
  generalize hAe : va_A [(h0, .inr (12, fsMM mi mr)), ((mr 12), .inl (km_kept, 300, .inl fm_kept)), (rw, .inl (krw, 6, .inl frw))] s.heap.size = A at hD ⊢
  have hA : ∀ q : Nat, s.heap.size ≤ q → A q := fun q h => by rw [← hAe]; exact Or.inr h
  have hS : va_S A s.heap s.heap [] := va_S.rf
  have hl := lv_entry ([.ref h0, .ref rw]) (n := 3) (Nat.le_of_ble_eq_true rfl)
  rw [lg_entry_eq]
  generalize (lg_sl ([.ref h0, .ref rw]) ++ List.replicate (3 - (lg_sl ([.ref h0, .ref rw])).length) Slot.unset).toArray = ls at hl ⊢
  have hl : lv_has ls 3 [(0, .ref h0), (1, .ref rw)] := hl
  obtain ⟨RES, hF⟩ : ∃ R9, fX12_movesRow_sX12_movesRowR6 mi fm_kept frw = R9 := ⟨_, rfl⟩
  have hR9 := hF
  have g_87 : gi (mi 23) 0 294 := ⟨gmi_23.1, by omega⟩
  refine lv_iconst (v := 0) hx hb dX12_movesRow_0 (by decide) ?_
  refine lv_istore_n (lv' := [(2, .int 0), (0, .ref h0), (1, .ref rw)]) hx hb dX12_movesRow_1 rfl hl (by decide) rfl (fun ls hl => ?_)
  refine (lp_sX12_movesRowR6 h0 rw mi mr km_kept fm_kept krw frw gmi_0 gmi_1 gmi_2 gmi_4 gmi_7 gmi_10 gmi_17 gmi_23 gmi_24 gmi_26 gmi_29 gmi_30 gmi_32 gmi_33 gmi_37 gmi_41 gmi_50 gmi_51 gmi_56 hpq0 hpq1 hx hb hml hown hts hK hA (Nat.le_of_ble_eq_true rfl) (Nat.le_of_ble_eq_true rfl) (Nat.zero_le _) (Nat.zero_le _) (fun w0_23 z1 z2 H locs ls gw0_23 hpr0 hpr1 hpr2 hF hP hD hS hl => ?_) 1000000000) 0 (mi 23) frw _ _ _ (gi_w (gi_c 0 0 (by decide)) (by decide)) (gi_w g_87 (by decide)) (show (mi 23).toInt = (mi 23).toInt + (0 : Int32).toInt from by have k0 : (0 : Int32).toInt = 0 := (by decide); have qgmi_24 := gmi_24.1; have rgmi_24 := gmi_24.2; have qgmi_23 := g_87.1; have rgmi_23 := g_87.2; omega) (show fm_kept = fm_kept from by rfl) (show ∀ j : Nat, (j : Int) < (0 : Int) → frw j = fm_kept ((mi 23).toNatClampNeg + j) from by exact fun j hj => absurd hj (by have h0 : (0 : Int32).toInt = 0 := (by decide); omega)) hF (by have k0 : (0 : Int32).toInt = 0 := (by decide); omega) hP hD hS (lv_sub hl [1, 2, 0] rfl)
  · skip
    exact W.vret hx hb hr (fun t ht hW => ⟨⟨(), rfl, trivial, w0_23, z1, z2, gw0_23, hpr0, hpr1, hpr2, hF.trans hR9.symm, by rw [ht]; exact hP, hD⟩, hS.F ht⟩) hS.2.2 dX12_movesRow_24
noncomputable def dfX12_movesRow_sX12_movesRowK36_2 (mi : Nat → Int32) (fm_kept : Nat → Int32) (frw : Nat → Int32) (K : (Int32 → Int32 → (Nat → Int32) → (Nat → Int32) → (Int32 × (Nat → Int32) × (Nat → Int32)))) (v2 : Int32) (w0_23 : Int32) (z1 : Nat → Int32) (z2 : Nat → Int32) : Int32 × (Nat → Int32) × (Nat → Int32) := if (36 : Int32) ≤ v2 then (w0_23, z1, z2) else (cal (fun o1 => K (v2 + (1 : Int32)) o1.2.1 o1.2.2 (upd z2 v2.toNatClampNeg o1.1)) (fX12_moves (upd mi 23 w0_23) z1 (z2 v2.toNatClampNeg)))
noncomputable def lfX12_movesRow_sX12_movesRowK36 (mi : Nat → Int32) (fm_kept : Nat → Int32) (frw : Nat → Int32) (z : Nat) : (Int32 → Int32 → (Nat → Int32) → (Nat → Int32) → (Int32 × (Nat → Int32) × (Nat → Int32))) := Nat.rec (motive := fun _ => (Int32 → Int32 → (Nat → Int32) → (Nat → Int32) → (Int32 × (Nat → Int32) × (Nat → Int32)))) (fun _ _ _ _ => (0, fun _ => 0, fun _ => 0)) (fun _ K => dfX12_movesRow_sX12_movesRowK36_2 mi fm_kept frw K) z
noncomputable def fX12_movesRow_sX12_movesRowK36 (mi : Nat → Int32) (fm_kept : Nat → Int32) (frw : Nat → Int32) : Int32 × (Nat → Int32) × (Nat → Int32) := (lfX12_movesRow_sX12_movesRowK36 mi fm_kept frw 1000000000) (0 : Int32) (mi 23) fm_kept frw
set_option maxHeartbeats 4000000 in
set_option maxRecDepth 100000 in
theorem lp_sX12_movesRowK36 {p : Program} {l : Launch} {e : Env} {R : Room} {s : State} {m : MethodId} {args : Array Value} {below : List Frame} {meth : Method} {c : Code} {Q : State → Prop} {A : Nat → Prop} {cells slots : Nat} {dC : Nat → ClassId} {dI : Nat → Nat → Nat} {RES : Int32 × (Nat → Int32) × (Nat → Int32)} (h0 : Nat) (rw : Nat) (mi : Nat → Int32) (mr : Nat → Nat) (km_kept : ClassId) (fm_kept : Nat → Int32) (krw : ClassId) (frw : Nat → Int32) (gmi_0 : gi (mi 0) 0 100000) (gmi_1 : gi (mi 1) 0 100000) (gmi_2 : gi (mi 2) 0 100000) (gmi_4 : gi (mi 4) 0 1) (gmi_7 : gi (mi 7) 0 6) (gmi_10 : gi (mi 10) 0 24) (gmi_17 : gi (mi 17) 0 8) (gmi_23 : gi (mi 23) 0 300) (gmi_24 : gi (mi 24) 0 1) (gmi_26 : gi (mi 26) 0 1600) (gmi_29 : gi (mi 29) 0 1600) (gmi_30 : gi (mi 30) 0 1600) (gmi_32 : gi (mi 32) 0 100000) (gmi_33 : gi (mi 33) 0 1) (gmi_37 : gi (mi 37) 0 1) (gmi_41 : gi (mi 41) 0 24) (gmi_50 : gi (mi 50) 0 1) (gmi_51 : gi (mi 51) 0 1) (gmi_56 : gi (mi 56) 0 80) (hpq0 : (mi 24).toInt = 1) (hpq1 : (mi 23).toInt ≤ 264) (hx : p.tables.exec = Jvm.exec) (hb : c.code = cX12_movesRow) (hml : c.maxLocals = 3) (hown : s.vm.findClass RX12 = some m.cls) (hts : ∀ w ∈ ((.code yX12_movesRow cX12_movesRow 3 none :: wsGB) : List Cond), w.before args s = true) (hK : va_K (dC, dI) vwCl [(km_kept, .int), (krw, .int)] s) (hA : ∀ q : Nat, s.heap.size ≤ q → A q) (hRf : 1 ≤ R.frames) (hRl : 22 ≤ R.locals) (hRc : cells ≤ R.cells) (hRs : slots ≤ R.slots) (kr24 : ∀ (w0_23 : Int32) (z1 : Nat → Int32) (z2 : Nat → Int32) (H : Heap) (locs : List Loc) (ls : Array Slot), gi w0_23 0 300 → w0_23.toInt = (mi 23).toInt + 36 → z2 = frw → (∀ j : Nat, (j : Int) < 36 → z1 ((mi 23).toNatClampNeg + j) = frw j) → (∀ j : Nat, j < (mi 23).toNatClampNeg → z1 j = fm_kept j) → (w0_23, z1, z2) = RES → va_P (dC, dI) vwCl [(h0, .inr (12, fsMM (upd mi 23 w0_23) mr)), ((mr 12), .inl (km_kept, 300, .inl z1)), (rw, .inl (krw, 36, .inl z2))] H → va_D A [(h0, .inr (12, fsMM (upd mi 23 w0_23) mr)), ((mr 12), .inl (km_kept, 300, .inl z1)), (rw, .inl (krw, 36, .inl z2))] → va_S A s.heap H locs → lv_has ls 3 [] → W p l e R s m args below meth c H locs cells slots Q (F0 m 24 ls [])) : ∀ z : Nat, (∀ (v2 : Int32) (w0_23 : Int32) (z1 : Nat → Int32) (z2 : Nat → Int32) (H : Heap) (locs : List Loc) (ls : Array Slot), gi v2 0 72 → gi w0_23 0 300 → w0_23.toInt = (mi 23).toInt + v2.toInt → z2 = frw → (∀ j : Nat, (j : Int) < v2.toInt → z1 ((mi 23).toNatClampNeg + j) = frw j) → (∀ j : Nat, j < (mi 23).toNatClampNeg → z1 j = fm_kept j) → v2.toInt ≤ 36 → (lfX12_movesRow_sX12_movesRowK36 mi fm_kept frw z) v2 w0_23 z1 z2 = RES → 145 + (-2) * v2.toInt < (z : Int) → va_P (dC, dI) vwCl [(h0, .inr (12, fsMM (upd mi 23 w0_23) mr)), ((mr 12), .inl (km_kept, 300, .inl z1)), (rw, .inl (krw, 36, .inl z2))] H → va_D A [(h0, .inr (12, fsMM (upd mi 23 w0_23) mr)), ((mr 12), .inl (km_kept, 300, .inl z1)), (rw, .inl (krw, 36, .inl z2))] → va_S A s.heap H locs → lv_has ls 3 [(0, .ref h0), (1, .ref rw), (2, .int v2)] → W p l e R s m args below meth c H locs cells slots Q (F0 m 2 ls [])) := by
  intro z
  induction z with
  | zero =>
    intro v2 w0_23 z1 z2 H locs ls gv2 gw0_23 hinv0 hinv1 hinv2 hinv3 hinv4 hF hmu hP hD hS hl
    exact absurd hmu (by have hv21 := gv2.1; have hv22 := gv2.2; omega)
  | succ z ih =>
      intro v2 w0_23 z1 z2 H locs ls gv2 gw0_23 hinv0 hinv1 hinv2 hinv3 hinv4 hF hmu hP hD hS hl
      have hF : dfX12_movesRow_sX12_movesRowK36_2 mi fm_kept frw (lfX12_movesRow_sX12_movesRowK36 mi fm_kept frw z) v2 w0_23 z1 z2 = RES := hF
      have g_215 : gi (mi 23) 0 264 := ⟨gmi_23.1, by omega⟩
      have g_216 : gi v2 0 36 := ⟨gv2.1, by omega⟩
      refine lv_iload_n hx hb dX12_movesRow_2 rfl (lv_at hl 2 rfl) ?_
      refine lv_aload_n hx hb dX12_movesRow_3 rfl (lv_at hl 1 rfl) ?_
      refine va_alen (v := 36) hx hb hK hP 2 1 rfl rfl rfl dX12_movesRow_4 ?_
      refine lv_icmp_ge (tgt := 24) hx hb dX12_movesRow_5 (by decide) (fun c_217 => ?_) (fun c_217 => ?_)
      · have hF := gf_pos c_217 hF
        have hc_218 : 36 ≤ v2.toInt := by have h9 := Int32.le_iff_toInt_le.mp c_217; rw [show (36 : Int32).toInt = 36 from by decide] at h9; exact h9
        have g_219 : gi v2 36 36 := gi_le_r c_217 (gi_c 36 36 (by decide)) g_216
        exact kr24 w0_23 z1 z2 _ _ _ gw0_23 (show w0_23.toInt = (mi 23).toInt + 36 from by have qgw0_23 := gw0_23.1; have rgw0_23 := gw0_23.2; have qgv2 := g_219.1; have rgv2 := g_219.2; have qgmi_24 := gmi_24.1; have rgmi_24 := gmi_24.2; have qgmi_23 := g_215.1; have rgmi_23 := g_215.2; omega) (show z2 = frw from by exact hinv1) (show ∀ j : Nat, (j : Int) < 36 → z1 ((mi 23).toNatClampNeg + j) = frw j from by exact fun j hj => hinv2 j (by have qgw0_23 := gw0_23.1; have rgw0_23 := gw0_23.2; have qgv2 := g_219.1; have rgv2 := g_219.2; have qgmi_24 := gmi_24.1; have rgmi_24 := gmi_24.2; have qgmi_23 := g_215.1; have rgmi_23 := g_215.2; omega)) (show ∀ j : Nat, j < (mi 23).toNatClampNeg → z1 j = fm_kept j from by exact hinv3) hF hP hD hS (lv_sub hl [] rfl)
      · have hF := gf_neg c_217 hF
        have hc_220 : v2.toInt < 36 := by have h9 := Int32.lt_iff_toInt_lt.mp (Int32.not_le.mp c_217); rw [show (36 : Int32).toInt = 36 from by decide] at h9; exact h9
        have g_221 : gi v2 0 35 := gi_lt_l (Int32.not_le.mp c_217) g_216 (gi_c 36 36 (by decide)) (by decide)
        refine lv_aload_n hx hb dX12_movesRow_8 rfl (lv_at hl 1 rfl) ?_
        refine lv_iload_n hx hb dX12_movesRow_9 rfl (lv_at hl 2 rfl) ?_
        refine lv_aload_n hx hb dX12_movesRow_10 rfl (lv_at hl 0 rfl) ?_
        refine lv_aload_n hx hb dX12_movesRow_11 rfl (lv_at hl 1 rfl) ?_
        refine lv_iload_n hx hb dX12_movesRow_12 rfl (lv_at hl 2 rfl) ?_
        refine va_iald hx hb hK hP 2 1 rfl rfl (gi_in g_221 (by decide)) dX12_movesRow_13 ?_
        refine lv_topi (fun x_222 ex_222 => ?_)
        have hlx_222 : x_222.toInt = (z2 v2.toNatClampNeg).toInt := congrArg Int32.toInt ex_222
        have hPc := hP.sub (ws' := [(h0, .inr (12, fsMM (upd mi 23 w0_23) mr)), ((mr 12), .inl (km_kept, 300, .inl z1))]) [0, 1] rfl
        have hKc := hK.sub (tys' := [(km_kept, .int)]) [0] rfl
        have hDc := hD.sub (ws' := [(h0, .inr (12, fsMM (upd mi 23 w0_23) mr)), ((mr 12), .inl (km_kept, 300, .inl z1))]) [0, 1] (by decide) rfl
        have hFc := va_free (wc := [(h0, .inr (12, fsMM (upd mi 23 w0_23) mr)), ((mr 12), .inl (km_kept, 300, .inl z1))]) hD hS hA [0, 1] rfl
        refine va_calli (va_runV (As := [.int x_222]) (rest := [.int v2, .ref rw]) ⟨hx, hb, hml, hown, hts⟩ (sX12_movesK l dC dI H.size h0 (upd mi 23 w0_23) mr km_kept z1 x_222 gmi_0 gmi_1 gmi_2 gmi_4 gmi_7 gmi_10 gmi_17 gw0_23 gmi_24 gmi_26 gmi_29 gmi_30 gmi_32 gmi_33 gmi_37 gmi_41 gmi_50 gmi_51 gmi_56 (show 1 ≤ (mi 24).toInt from by have qgw0_23 := gw0_23.1; have rgw0_23 := gw0_23.2; have qgv2 := g_221.1; have rgv2 := g_221.2; have qgmi_24 := gmi_24.1; have rgmi_24 := gmi_24.2; have qgmi_23 := g_215.1; have rgmi_23 := g_215.2; omega) (show w0_23.toInt ≤ 299 from by have qgw0_23 := gw0_23.1; have rgw0_23 := gw0_23.2; have qgv2 := g_221.1; have rgv2 := g_221.2; have qgmi_24 := gmi_24.1; have rgmi_24 := gmi_24.2; have qgmi_23 := g_215.1; have rgmi_23 := g_215.2; omega)) (cwV 1 hts (gz_gV mGB_123 mGB_124 mGB_125 mGB_1 mGB_126 goodGB) rfl rfl rfl (by decide +kernel) ⟨Nat.le_trans (Nat.le_of_ble_eq_true rfl) hRf, Nat.le_trans (Nat.le_of_ble_eq_true rfl) hRl⟩) ⟨fun a U g mk q => by obtain ⟨q0, q1, qP, qK, qD⟩ := q; exact ⟨q0, q1, qP, va_K.moved (u := U) (U := U.calling g mk a) (Vm.Alike.refl U.vm) qK, qD⟩, va_recv hKc hPc (ci := 12) (q0 := 0) rfl rfl, fun U hU hW => ⟨rfl, by rw [hU], by rw [hU]; exact hPc, va_K.moved hW.alike hKc, hDc.weaken (fun _ _ _ _ => trivial)⟩⟩ rfl rfl hl.1 rfl (lv_room (Nat.le_of_ble_eq_true rfl)) dX12_movesRow_14 ⟨hRc, hRs⟩) hS (fun q _ h => hFc q h) hFc (fun r_223 u t H1 locs ht hvm hw hB hz1 hk1 hS => ?_)
        obtain ⟨hu_, hw⟩ := hw
        subst hu_
        obtain ⟨y_224, f_225, gy_224, hpr0_r_223, hpr1_r_223, hpr2_r_223, hE, hP1, hD1⟩ := hB
        rw [ht] at hP1
        obtain ⟨hP, hD⟩ := va_join (wr := [(rw, .inl (krw, 36, .inl z2))]) (w1 := [(h0, .inr (12, fsMM (upd mi 23 y_224) mr)), ((mr 12), .inl (km_kept, 300, .inl f_225))]) hP hD [0, 1] [2] rfl rfl (by decide) (by decide) hk1 hFc hP1 hD1
        have hP := hP.sub (ws' := [(h0, .inr (12, fsMM (upd mi 23 y_224) mr)), ((mr 12), .inl (km_kept, 300, .inl f_225)), (rw, .inl (krw, 36, .inl z2))]) [1, 2, 0] rfl
        have hD := hD.sub (ws' := [(h0, .inr (12, fsMM (upd mi 23 y_224) mr)), ((mr 12), .inl (km_kept, 300, .inl f_225)), (rw, .inl (krw, 36, .inl z2))]) [1, 2, 0] (by decide) rfl
        have hpr0_r_223 : y_224.toInt = w0_23.toInt + 1 := hpr0_r_223
        have g_226 : gi y_224 1 301 := ⟨by have u1 := gw0_23.1; omega, by have u2 := gw0_23.2; omega⟩
        have hpr1_r_223 : f_225 = upd z1 w0_23.toNatClampNeg x_222 := hpr1_r_223
        have hpr2_r_223 : r_223 = x_222 := hpr2_r_223
        rw [ex_222] at hE
        have hF := gf_callm (a := (r_223, y_224, f_225)) hE hF (by first | with_reducible rfl | simp only [upd_same, upd_app, ↓reduceIte, Nat.reduceEqDiff])
        generalize H1 = H at hP hS ⊢
        refine va_iast hx hb hK hP hD hS 2 1 rfl rfl (gi_in g_221 (by decide)) dX12_movesRow_17 (fun H locs hP hD hS => ?_)
        have hP : va_P (dC, dI) vwCl [(h0, .inr (12, fsMM (upd mi 23 y_224) mr)), ((mr 12), .inl (km_kept, 300, .inl f_225)), (rw, .inl (krw, 36, .inl (upd z2 (v2 : Int32).toNatClampNeg r_223)))] H := hP
        have hD : va_D A [(h0, .inr (12, fsMM (upd mi 23 y_224) mr)), ((mr 12), .inl (km_kept, 300, .inl f_225)), (rw, .inl (krw, 36, .inl (upd z2 (v2 : Int32).toNatClampNeg r_223)))] := hD
        generalize ef_227 : upd z2 (v2 : Int32).toNatClampNeg r_223 = f_227 at hP hD
        obtain ⟨x_228, ex_228⟩ : ∃ y : Int32, y = v2 + 1 := ⟨_, rfl⟩
        have gx_228 : gi x_228 1 36 := gi_add ex_228 g_221 (gi_c 1 1 (by decide)) (by decide)
        refine lv_iinc (v := x_228) (lv' := [(2, .int x_228), (0, .ref h0), (1, .ref rw)]) hx hb dX12_movesRow_18 hl (k := 2) rfl (by rw [ex_228]; rfl) (by decide) rfl (fun ls hl => ?_)
        refine lv_goto (tgt := 2) hx hb dX12_movesRow_21 (by decide) ?_
        exact ih x_228 y_224 f_225 f_227 _ _ _ (gi_w gx_228 (by decide)) (show gi y_224 0 300 from ⟨by have qgy_224 := g_226.1; have rgy_224 := g_226.2; have qgw0_23 := gw0_23.1; have rgw0_23 := gw0_23.2; have qgv2 := g_221.1; have rgv2 := g_221.2; have qgmi_24 := gmi_24.1; have rgmi_24 := gmi_24.2; have qgmi_23 := g_215.1; have rgmi_23 := g_215.2; omega, by have qgy_224 := g_226.1; have rgy_224 := g_226.2; have qgw0_23 := gw0_23.1; have rgw0_23 := gw0_23.2; have qgv2 := g_221.1; have rgv2 := g_221.2; have qgmi_24 := gmi_24.1; have rgmi_24 := gmi_24.2; have qgmi_23 := g_215.1; have rgmi_23 := g_215.2; omega⟩) (show y_224.toInt = (mi 23).toInt + x_228.toInt from by have qgy_224 := g_226.1; have rgy_224 := g_226.2; have qgx_228 := gx_228.1; have rgx_228 := gx_228.2; have igx_228 : x_228.toInt = v2.toInt + 1 := (by have hc1 : (1 : Int32).toInt = 1 := (by decide); have h9 := gi_addI ex_228 (by have h1 := g_221.1; have h2 := (gi_c 1 1 (by decide)).1; have h3 := g_221.2; have h4 := (gi_c 1 1 (by decide)).2; omega) (by have h1 := g_221.1; have h2 := (gi_c 1 1 (by decide)).1; have h3 := g_221.2; have h4 := (gi_c 1 1 (by decide)).2; omega); rw [hc1] at h9; exact h9); have qgv2 := g_221.1; have rgv2 := g_221.2; have qgw0_23 := gw0_23.1; have rgw0_23 := gw0_23.2; have qgmi_24 := gmi_24.1; have rgmi_24 := gmi_24.2; have qgmi_23 := g_215.1; have rgmi_23 := g_215.2; omega) (show f_227 = frw from by rw [← ef_227, hpr2_r_223, ex_222, upd_self]; exact hinv1) (show ∀ j : Nat, (j : Int) < x_228.toInt → f_225 ((mi 23).toNatClampNeg + j) = frw j from by exact mv_k hinv2 (by have qgy_224 := g_226.1; have rgy_224 := g_226.2; have qgw0_23 := gw0_23.1; have rgw0_23 := gw0_23.2; have qgv2 := g_221.1; have rgv2 := g_221.2; have qgmi_24 := gmi_24.1; have rgmi_24 := gmi_24.2; have qgmi_23 := g_215.1; have rgmi_23 := g_215.2; omega) (by have qgy_224 := g_226.1; have rgy_224 := g_226.2; have qgw0_23 := gw0_23.1; have rgw0_23 := gw0_23.2; have qgv2 := g_221.1; have rgv2 := g_221.2; have qgmi_24 := gmi_24.1; have rgmi_24 := gmi_24.2; have qgmi_23 := g_215.1; have rgmi_23 := g_215.2; omega) (by have qgy_224 := g_226.1; have rgy_224 := g_226.2; have qgw0_23 := gw0_23.1; have rgw0_23 := gw0_23.2; have qgv2 := g_221.1; have rgv2 := g_221.2; have qgmi_24 := gmi_24.1; have rgmi_24 := gmi_24.2; have qgmi_23 := g_215.1; have rgmi_23 := g_215.2; omega) (ex_222.trans (congrFun hinv1 _)) hpr1_r_223 (by have qgy_224 := g_226.1; have rgy_224 := g_226.2; have qgx_228 := gx_228.1; have rgx_228 := gx_228.2; have igx_228 : x_228.toInt = v2.toInt + 1 := (by have hc1 : (1 : Int32).toInt = 1 := (by decide); have h9 := gi_addI ex_228 (by have h1 := g_221.1; have h2 := (gi_c 1 1 (by decide)).1; have h3 := g_221.2; have h4 := (gi_c 1 1 (by decide)).2; omega) (by have h1 := g_221.1; have h2 := (gi_c 1 1 (by decide)).1; have h3 := g_221.2; have h4 := (gi_c 1 1 (by decide)).2; omega); rw [hc1] at h9; exact h9); have qgv2 := g_221.1; have rgv2 := g_221.2; have qgw0_23 := gw0_23.1; have rgw0_23 := gw0_23.2; have qgmi_24 := gmi_24.1; have rgmi_24 := gmi_24.2; have qgmi_23 := g_215.1; have rgmi_23 := g_215.2; omega)) (show ∀ j : Nat, j < (mi 23).toNatClampNeg → f_225 j = fm_kept j from by exact mv_f (k := v2) (a := w0_23) hinv3 (by have qgy_224 := g_226.1; have rgy_224 := g_226.2; have qgw0_23 := gw0_23.1; have rgw0_23 := gw0_23.2; have qgv2 := g_221.1; have rgv2 := g_221.2; have qgmi_24 := gmi_24.1; have rgmi_24 := gmi_24.2; have qgmi_23 := g_215.1; have rgmi_23 := g_215.2; omega) (by have qgy_224 := g_226.1; have rgy_224 := g_226.2; have qgw0_23 := gw0_23.1; have rgw0_23 := gw0_23.2; have qgv2 := g_221.1; have rgv2 := g_221.2; have qgmi_24 := gmi_24.1; have rgmi_24 := gmi_24.2; have qgmi_23 := g_215.1; have rgmi_23 := g_215.2; omega) (by have qgy_224 := g_226.1; have rgy_224 := g_226.2; have qgw0_23 := gw0_23.1; have rgw0_23 := gw0_23.2; have qgv2 := g_221.1; have rgv2 := g_221.2; have qgmi_24 := gmi_24.1; have rgmi_24 := gmi_24.2; have qgmi_23 := g_215.1; have rgmi_23 := g_215.2; omega) hpr1_r_223) (show x_228.toInt ≤ 36 from by have qgy_224 := g_226.1; have rgy_224 := g_226.2; have qgx_228 := gx_228.1; have rgx_228 := gx_228.2; have igx_228 : x_228.toInt = v2.toInt + 1 := (by have hc1 : (1 : Int32).toInt = 1 := (by decide); have h9 := gi_addI ex_228 (by have h1 := g_221.1; have h2 := (gi_c 1 1 (by decide)).1; have h3 := g_221.2; have h4 := (gi_c 1 1 (by decide)).2; omega) (by have h1 := g_221.1; have h2 := (gi_c 1 1 (by decide)).1; have h3 := g_221.2; have h4 := (gi_c 1 1 (by decide)).2; omega); rw [hc1] at h9; exact h9); have qgv2 := g_221.1; have rgv2 := g_221.2; have qgw0_23 := gw0_23.1; have rgw0_23 := gw0_23.2; have qgmi_24 := gmi_24.1; have rgmi_24 := gmi_24.2; have qgmi_23 := g_215.1; have rgmi_23 := g_215.2; omega) (by rw [ex_228, ← ef_227]; exact hF) (by have av2 := gv2.1; have bv2 := gv2.2; have qgx_228 := gx_228.1; have rgx_228 := gx_228.2; have igx_228 : x_228.toInt = v2.toInt + 1 := (by have hc1 : (1 : Int32).toInt = 1 := (by decide); have h9 := gi_addI ex_228 (by have h1 := g_221.1; have h2 := (gi_c 1 1 (by decide)).1; have h3 := g_221.2; have h4 := (gi_c 1 1 (by decide)).2; omega) (by have h1 := g_221.1; have h2 := (gi_c 1 1 (by decide)).1; have h3 := g_221.2; have h4 := (gi_c 1 1 (by decide)).2; omega); rw [hc1] at h9; exact h9); have qgv2 := g_221.1; have rgv2 := g_221.2; omega) hP hD hS (lv_sub hl [1, 2, 0] rfl)
set_option maxHeartbeats 4000000 in
set_option maxRecDepth 100000 in
theorem sX12_movesRowK36 (l : Launch) (dC : Nat → ClassId) (dI : Nat → Nat → Nat) (sz : Nat) (h0 : Nat) (rw : Nat) (mi : Nat → Int32) (mr : Nat → Nat) (km_kept : ClassId) (fm_kept : Nat → Int32) (krw : ClassId) (frw : Nat → Int32) (gmi_0 : gi (mi 0) 0 100000) (gmi_1 : gi (mi 1) 0 100000) (gmi_2 : gi (mi 2) 0 100000) (gmi_4 : gi (mi 4) 0 1) (gmi_7 : gi (mi 7) 0 6) (gmi_10 : gi (mi 10) 0 24) (gmi_17 : gi (mi 17) 0 8) (gmi_23 : gi (mi 23) 0 300) (gmi_24 : gi (mi 24) 0 1) (gmi_26 : gi (mi 26) 0 1600) (gmi_29 : gi (mi 29) 0 1600) (gmi_30 : gi (mi 30) 0 1600) (gmi_32 : gi (mi 32) 0 100000) (gmi_33 : gi (mi 33) 0 1) (gmi_37 : gi (mi 37) 0 1) (gmi_41 : gi (mi 41) 0 24) (gmi_50 : gi (mi 50) 0 1) (gmi_51 : gi (mi 51) 0 1) (gmi_56 : gi (mi 56) 0 80) (hpq0 : (mi 24).toInt = 1) (hpq1 : (mi 23).toInt ≤ 264) : Met l yX12_movesRow (.code yX12_movesRow cX12_movesRow 3 none :: wsGB) ({ frames := 1, cells := 0, slots := 0, locals := 22 }) (va_Pc [.ref h0, .ref rw] (fun U => U.heap.size = sz ∧ va_P (dC, dI) vwCl [(h0, .inr (12, fsMM mi mr)), ((mr 12), .inl (km_kept, 300, .inl fm_kept)), (rw, .inl (krw, 36, .inl frw))] U.heap ∧ va_K (dC, dI) vwCl [(km_kept, .int), (krw, .int)] U ∧ va_D (fun _ => True) [(h0, .inr (12, fsMM mi mr)), ((mr 12), .inl (km_kept, 300, .inl fm_kept)), (rw, .inl (krw, 36, .inl frw))])) (va_Qv (fun (u : Unit) => True) (fun _ t => ∃ (w0_23 : Int32) (z1 : Nat → Int32) (z2 : Nat → Int32), gi w0_23 0 300 ∧ w0_23.toInt = (mi 23).toInt + 36 ∧ z2 = frw ∧ (∀ j : Nat, (j : Int) < 36 → z1 ((mi 23).toNatClampNeg + j) = frw j) ∧ (∀ j : Nat, j < (mi 23).toNatClampNeg → z1 j = fm_kept j) ∧ (w0_23, z1, z2) = fX12_movesRow_sX12_movesRowK36 mi fm_kept frw ∧ va_P (dC, dI) vwCl [(h0, .inr (12, fsMM (upd mi 23 w0_23) mr)), ((mr 12), .inl (km_kept, 300, .inl z1)), (rw, .inl (krw, 36, .inl z2))] t.heap ∧ va_D (va_A [(h0, .inr (12, fsMM mi mr)), ((mr 12), .inl (km_kept, 300, .inl fm_kept)), (rw, .inl (krw, 36, .inl frw))] sz) [(h0, .inr (12, fsMM (upd mi 23 w0_23) mr)), ((mr 12), .inl (km_kept, 300, .inl z1)), (rw, .inl (krw, 36, .inl z2))]) (va_A [(h0, .inr (12, fsMM mi mr)), ((mr 12), .inl (km_kept, 300, .inl fm_kept)), (rw, .inl (krw, 36, .inl frw))] sz)) 0 0 (va_A [(h0, .inr (12, fsMM mi mr)), ((mr 12), .inl (km_kept, 300, .inl fm_kept)), (rw, .inl (krw, 36, .inl frw))] sz) := by
  refine Met.ofW (cc := cX12_movesRow) (maxL := 3) (ret := none) (by decide) rfl ?_
  intro p e s m args below meth c s₁ B hml hv
  obtain ⟨rfl, hsz, hP, hK, hD0⟩ := hv
  have hx := B.exec
  have hb := B.bytes
  have hr := B.returns
  have hts := atoms_spec (ws := (.code yX12_movesRow cX12_movesRow 3 none :: wsGB)) B.pre
  have hown : s.vm.findClass RX12 = some m.cls := findClass_of_methodNamed B.named
  have hlocks := B.notSynchronized
  subst hsz
  have hD := hD0.self (sz := s.heap.size)
  generalize hAe : va_A [(h0, .inr (12, fsMM mi mr)), ((mr 12), .inl (km_kept, 300, .inl fm_kept)), (rw, .inl (krw, 36, .inl frw))] s.heap.size = A at hD ⊢
  have hA : ∀ q : Nat, s.heap.size ≤ q → A q := fun q h => by rw [← hAe]; exact Or.inr h
  have hS : va_S A s.heap s.heap [] := va_S.rf
  have hl := lv_entry ([.ref h0, .ref rw]) (n := 3) (Nat.le_of_ble_eq_true rfl)
  rw [lg_entry_eq]
  generalize (lg_sl ([.ref h0, .ref rw]) ++ List.replicate (3 - (lg_sl ([.ref h0, .ref rw])).length) Slot.unset).toArray = ls at hl ⊢
  have hl : lv_has ls 3 [(0, .ref h0), (1, .ref rw)] := hl
  obtain ⟨RES, hF⟩ : ∃ R9, fX12_movesRow_sX12_movesRowK36 mi fm_kept frw = R9 := ⟨_, rfl⟩
  have hR9 := hF
  have g_229 : gi (mi 23) 0 264 := ⟨gmi_23.1, by omega⟩
  refine lv_iconst (v := 0) hx hb dX12_movesRow_0 (by decide) ?_
  refine lv_istore_n (lv' := [(2, .int 0), (0, .ref h0), (1, .ref rw)]) hx hb dX12_movesRow_1 rfl hl (by decide) rfl (fun ls hl => ?_)
  refine (lp_sX12_movesRowK36 h0 rw mi mr km_kept fm_kept krw frw gmi_0 gmi_1 gmi_2 gmi_4 gmi_7 gmi_10 gmi_17 gmi_23 gmi_24 gmi_26 gmi_29 gmi_30 gmi_32 gmi_33 gmi_37 gmi_41 gmi_50 gmi_51 gmi_56 hpq0 hpq1 hx hb hml hown hts hK hA (Nat.le_of_ble_eq_true rfl) (Nat.le_of_ble_eq_true rfl) (Nat.zero_le _) (Nat.zero_le _) (fun w0_23 z1 z2 H locs ls gw0_23 hpr0 hpr1 hpr2 hpr3 hF hP hD hS hl => ?_) 1000000000) 0 (mi 23) fm_kept frw _ _ _ (gi_w (gi_c 0 0 (by decide)) (by decide)) (gi_w g_229 (by decide)) (show (mi 23).toInt = (mi 23).toInt + (0 : Int32).toInt from by have k0 : (0 : Int32).toInt = 0 := (by decide); have qgmi_24 := gmi_24.1; have rgmi_24 := gmi_24.2; have qgmi_23 := g_229.1; have rgmi_23 := g_229.2; omega) (show frw = frw from by rfl) (show ∀ j : Nat, (j : Int) < (0 : Int) → fm_kept ((mi 23).toNatClampNeg + j) = frw j from by exact fun j hj => absurd hj (by have h0 : (0 : Int32).toInt = 0 := (by decide); omega)) (show ∀ j : Nat, j < (mi 23).toNatClampNeg → fm_kept j = fm_kept j from by exact fun j hj => rfl) (show (0 : Int32).toInt ≤ 36 from by have k0 : (0 : Int32).toInt = 0 := (by decide); have qgmi_24 := gmi_24.1; have rgmi_24 := gmi_24.2; have qgmi_23 := g_229.1; have rgmi_23 := g_229.2; omega) hF (by have k0 : (0 : Int32).toInt = 0 := (by decide); omega) hP hD hS (lv_sub hl [1, 2, 0] rfl)
  · skip
    exact W.vret hx hb hr (fun t ht hW => ⟨⟨(), rfl, trivial, w0_23, z1, z2, gw0_23, hpr0, hpr1, hpr2, hpr3, hF.trans hR9.symm, by rw [ht]; exact hP, hD⟩, hS.F ht⟩) hS.2.2 dX12_movesRow_24
noncomputable def dfX12_movesRow_sX12_movesRowR36_2 (mi : Nat → Int32) (fm_kept : Nat → Int32) (frw : Nat → Int32) (K : (Int32 → Int32 → (Nat → Int32) → (Int32 × (Nat → Int32) × (Nat → Int32)))) (v2 : Int32) (w0_23 : Int32) (z2 : Nat → Int32) : Int32 × (Nat → Int32) × (Nat → Int32) := if (36 : Int32) ≤ v2 then (w0_23, fm_kept, z2) else (cal (fun o1 => K (v2 + (1 : Int32)) o1.2.1 (upd z2 v2.toNatClampNeg o1.1)) (fX12_moves (upd mi 23 w0_23) fm_kept (z2 v2.toNatClampNeg)))
noncomputable def lfX12_movesRow_sX12_movesRowR36 (mi : Nat → Int32) (fm_kept : Nat → Int32) (frw : Nat → Int32) (z : Nat) : (Int32 → Int32 → (Nat → Int32) → (Int32 × (Nat → Int32) × (Nat → Int32))) := Nat.rec (motive := fun _ => (Int32 → Int32 → (Nat → Int32) → (Int32 × (Nat → Int32) × (Nat → Int32)))) (fun _ _ _ => (0, fun _ => 0, fun _ => 0)) (fun _ K => dfX12_movesRow_sX12_movesRowR36_2 mi fm_kept frw K) z
noncomputable def fX12_movesRow_sX12_movesRowR36 (mi : Nat → Int32) (fm_kept : Nat → Int32) (frw : Nat → Int32) : Int32 × (Nat → Int32) × (Nat → Int32) := (lfX12_movesRow_sX12_movesRowR36 mi fm_kept frw 1000000000) (0 : Int32) (mi 23) frw
set_option maxHeartbeats 4000000 in
set_option maxRecDepth 100000 in
theorem lp_sX12_movesRowR36 {p : Program} {l : Launch} {e : Env} {R : Room} {s : State} {m : MethodId} {args : Array Value} {below : List Frame} {meth : Method} {c : Code} {Q : State → Prop} {A : Nat → Prop} {cells slots : Nat} {dC : Nat → ClassId} {dI : Nat → Nat → Nat} {RES : Int32 × (Nat → Int32) × (Nat → Int32)} (h0 : Nat) (rw : Nat) (mi : Nat → Int32) (mr : Nat → Nat) (km_kept : ClassId) (fm_kept : Nat → Int32) (krw : ClassId) (frw : Nat → Int32) (gmi_0 : gi (mi 0) 0 100000) (gmi_1 : gi (mi 1) 0 100000) (gmi_2 : gi (mi 2) 0 100000) (gmi_4 : gi (mi 4) 0 1) (gmi_7 : gi (mi 7) 0 6) (gmi_10 : gi (mi 10) 0 24) (gmi_17 : gi (mi 17) 0 8) (gmi_23 : gi (mi 23) 0 300) (gmi_24 : gi (mi 24) 0 1) (gmi_26 : gi (mi 26) 0 1600) (gmi_29 : gi (mi 29) 0 1600) (gmi_30 : gi (mi 30) 0 1600) (gmi_32 : gi (mi 32) 0 100000) (gmi_33 : gi (mi 33) 0 1) (gmi_37 : gi (mi 37) 0 1) (gmi_41 : gi (mi 41) 0 24) (gmi_50 : gi (mi 50) 0 1) (gmi_51 : gi (mi 51) 0 1) (gmi_56 : gi (mi 56) 0 80) (hpq0 : (mi 24).toInt = 0) (hpq1 : (mi 23).toInt ≤ 264) (hx : p.tables.exec = Jvm.exec) (hb : c.code = cX12_movesRow) (hml : c.maxLocals = 3) (hown : s.vm.findClass RX12 = some m.cls) (hts : ∀ w ∈ ((.code yX12_movesRow cX12_movesRow 3 none :: wsGB) : List Cond), w.before args s = true) (hK : va_K (dC, dI) vwCl [(km_kept, .int), (krw, .int)] s) (hA : ∀ q : Nat, s.heap.size ≤ q → A q) (hRf : 1 ≤ R.frames) (hRl : 22 ≤ R.locals) (hRc : cells ≤ R.cells) (hRs : slots ≤ R.slots) (kr24 : ∀ (w0_23 : Int32) (z1 : Nat → Int32) (z2 : Nat → Int32) (H : Heap) (locs : List Loc) (ls : Array Slot), gi w0_23 0 300 → w0_23.toInt = (mi 23).toInt + 36 → z1 = fm_kept → (∀ j : Nat, (j : Int) < 36 → z2 j = fm_kept ((mi 23).toNatClampNeg + j)) → (w0_23, z1, z2) = RES → va_P (dC, dI) vwCl [(h0, .inr (12, fsMM (upd mi 23 w0_23) mr)), ((mr 12), .inl (km_kept, 300, .inl z1)), (rw, .inl (krw, 36, .inl z2))] H → va_D A [(h0, .inr (12, fsMM (upd mi 23 w0_23) mr)), ((mr 12), .inl (km_kept, 300, .inl z1)), (rw, .inl (krw, 36, .inl z2))] → va_S A s.heap H locs → lv_has ls 3 [] → W p l e R s m args below meth c H locs cells slots Q (F0 m 24 ls [])) : ∀ z : Nat, (∀ (v2 : Int32) (w0_23 : Int32) (z2 : Nat → Int32) (H : Heap) (locs : List Loc) (ls : Array Slot), gi v2 0 72 → gi w0_23 0 300 → w0_23.toInt = (mi 23).toInt + v2.toInt → fm_kept = fm_kept → (∀ j : Nat, (j : Int) < v2.toInt → z2 j = fm_kept ((mi 23).toNatClampNeg + j)) → v2.toInt ≤ 36 → (lfX12_movesRow_sX12_movesRowR36 mi fm_kept frw z) v2 w0_23 z2 = RES → 145 + (-2) * v2.toInt < (z : Int) → va_P (dC, dI) vwCl [(h0, .inr (12, fsMM (upd mi 23 w0_23) mr)), ((mr 12), .inl (km_kept, 300, .inl fm_kept)), (rw, .inl (krw, 36, .inl z2))] H → va_D A [(h0, .inr (12, fsMM (upd mi 23 w0_23) mr)), ((mr 12), .inl (km_kept, 300, .inl fm_kept)), (rw, .inl (krw, 36, .inl z2))] → va_S A s.heap H locs → lv_has ls 3 [(0, .ref h0), (1, .ref rw), (2, .int v2)] → W p l e R s m args below meth c H locs cells slots Q (F0 m 2 ls [])) := by
  intro z
  induction z with
  | zero =>
    intro v2 w0_23 z2 H locs ls gv2 gw0_23 hinv0 hinv1 hinv2 hinv3 hF hmu hP hD hS hl
    exact absurd hmu (by have hv21 := gv2.1; have hv22 := gv2.2; omega)
  | succ z ih =>
      intro v2 w0_23 z2 H locs ls gv2 gw0_23 hinv0 hinv1 hinv2 hinv3 hF hmu hP hD hS hl
      have hF : dfX12_movesRow_sX12_movesRowR36_2 mi fm_kept frw (lfX12_movesRow_sX12_movesRowR36 mi fm_kept frw z) v2 w0_23 z2 = RES := hF
      have g_215 : gi (mi 23) 0 264 := ⟨gmi_23.1, by omega⟩
      have g_216 : gi v2 0 36 := ⟨gv2.1, by omega⟩
      refine lv_iload_n hx hb dX12_movesRow_2 rfl (lv_at hl 2 rfl) ?_
      refine lv_aload_n hx hb dX12_movesRow_3 rfl (lv_at hl 1 rfl) ?_
      refine va_alen (v := 36) hx hb hK hP 2 1 rfl rfl rfl dX12_movesRow_4 ?_
      refine lv_icmp_ge (tgt := 24) hx hb dX12_movesRow_5 (by decide) (fun c_217 => ?_) (fun c_217 => ?_)
      · have hF := gf_pos c_217 hF
        have hc_218 : 36 ≤ v2.toInt := by have h9 := Int32.le_iff_toInt_le.mp c_217; rw [show (36 : Int32).toInt = 36 from by decide] at h9; exact h9
        have g_219 : gi v2 36 36 := gi_le_r c_217 (gi_c 36 36 (by decide)) g_216
        exact kr24 w0_23 fm_kept z2 _ _ _ gw0_23 (show w0_23.toInt = (mi 23).toInt + 36 from by have qgw0_23 := gw0_23.1; have rgw0_23 := gw0_23.2; have qgv2 := g_219.1; have rgv2 := g_219.2; have qgmi_24 := gmi_24.1; have rgmi_24 := gmi_24.2; have qgmi_23 := g_215.1; have rgmi_23 := g_215.2; omega) (show fm_kept = fm_kept from by exact hinv1) (show ∀ j : Nat, (j : Int) < 36 → z2 j = fm_kept ((mi 23).toNatClampNeg + j) from by exact fun j hj => hinv2 j (by have qgw0_23 := gw0_23.1; have rgw0_23 := gw0_23.2; have qgv2 := g_219.1; have rgv2 := g_219.2; have qgmi_24 := gmi_24.1; have rgmi_24 := gmi_24.2; have qgmi_23 := g_215.1; have rgmi_23 := g_215.2; omega)) hF hP hD hS (lv_sub hl [] rfl)
      · have hF := gf_neg c_217 hF
        have hc_220 : v2.toInt < 36 := by have h9 := Int32.lt_iff_toInt_lt.mp (Int32.not_le.mp c_217); rw [show (36 : Int32).toInt = 36 from by decide] at h9; exact h9
        have g_221 : gi v2 0 35 := gi_lt_l (Int32.not_le.mp c_217) g_216 (gi_c 36 36 (by decide)) (by decide)
        refine lv_aload_n hx hb dX12_movesRow_8 rfl (lv_at hl 1 rfl) ?_
        refine lv_iload_n hx hb dX12_movesRow_9 rfl (lv_at hl 2 rfl) ?_
        refine lv_aload_n hx hb dX12_movesRow_10 rfl (lv_at hl 0 rfl) ?_
        refine lv_aload_n hx hb dX12_movesRow_11 rfl (lv_at hl 1 rfl) ?_
        refine lv_iload_n hx hb dX12_movesRow_12 rfl (lv_at hl 2 rfl) ?_
        refine va_iald hx hb hK hP 2 1 rfl rfl (gi_in g_221 (by decide)) dX12_movesRow_13 ?_
        refine lv_topi (fun x_222 ex_222 => ?_)
        have hlx_222 : x_222.toInt = (z2 v2.toNatClampNeg).toInt := congrArg Int32.toInt ex_222
        have hPc := hP.sub (ws' := [(h0, .inr (12, fsMM (upd mi 23 w0_23) mr)), ((mr 12), .inl (km_kept, 300, .inl fm_kept))]) [0, 1] rfl
        have hKc := hK.sub (tys' := [(km_kept, .int)]) [0] rfl
        have hDc := hD.sub (ws' := [(h0, .inr (12, fsMM (upd mi 23 w0_23) mr)), ((mr 12), .inl (km_kept, 300, .inl fm_kept))]) [0, 1] (by decide) rfl
        have hFc := va_free (wc := [(h0, .inr (12, fsMM (upd mi 23 w0_23) mr)), ((mr 12), .inl (km_kept, 300, .inl fm_kept))]) hD hS hA [0, 1] rfl
        refine va_calli (va_runV (As := [.int x_222]) (rest := [.int v2, .ref rw]) ⟨hx, hb, hml, hown, hts⟩ (sX12_movesR l dC dI H.size h0 (upd mi 23 w0_23) mr km_kept fm_kept x_222 gmi_0 gmi_1 gmi_2 gmi_4 gmi_7 gmi_10 gmi_17 gw0_23 gmi_24 gmi_26 gmi_29 gmi_30 gmi_32 gmi_33 gmi_37 gmi_41 gmi_50 gmi_51 gmi_56 (show (mi 24).toInt ≤ 0 from by have qgw0_23 := gw0_23.1; have rgw0_23 := gw0_23.2; have qgv2 := g_221.1; have rgv2 := g_221.2; have qgmi_24 := gmi_24.1; have rgmi_24 := gmi_24.2; have qgmi_23 := g_215.1; have rgmi_23 := g_215.2; omega) (show w0_23.toInt ≤ 299 from by have qgw0_23 := gw0_23.1; have rgw0_23 := gw0_23.2; have qgv2 := g_221.1; have rgv2 := g_221.2; have qgmi_24 := gmi_24.1; have rgmi_24 := gmi_24.2; have qgmi_23 := g_215.1; have rgmi_23 := g_215.2; omega)) (cwV 1 hts (gz_gV mGB_123 mGB_124 mGB_125 mGB_1 mGB_126 goodGB) rfl rfl rfl (by decide +kernel) ⟨Nat.le_trans (Nat.le_of_ble_eq_true rfl) hRf, Nat.le_trans (Nat.le_of_ble_eq_true rfl) hRl⟩) ⟨fun a U g mk q => by obtain ⟨q0, q1, qP, qK, qD⟩ := q; exact ⟨q0, q1, qP, va_K.moved (u := U) (U := U.calling g mk a) (Vm.Alike.refl U.vm) qK, qD⟩, va_recv hKc hPc (ci := 12) (q0 := 0) rfl rfl, fun U hU hW => ⟨rfl, by rw [hU], by rw [hU]; exact hPc, va_K.moved hW.alike hKc, hDc.weaken (fun _ _ _ _ => trivial)⟩⟩ rfl rfl hl.1 rfl (lv_room (Nat.le_of_ble_eq_true rfl)) dX12_movesRow_14 ⟨hRc, hRs⟩) hS (fun q _ h => hFc q h) hFc (fun r_223 u t H1 locs ht hvm hw hB hz1 hk1 hS => ?_)
        obtain ⟨hu_, hw⟩ := hw
        subst hu_
        obtain ⟨y_224, f_225, gy_224, hpr0_r_223, hpr1_r_223, hpr2_r_223, hE, hP1, hD1⟩ := hB
        rw [ht] at hP1
        obtain ⟨hP, hD⟩ := va_join (wr := [(rw, .inl (krw, 36, .inl z2))]) (w1 := [(h0, .inr (12, fsMM (upd mi 23 y_224) mr)), ((mr 12), .inl (km_kept, 300, .inl f_225))]) hP hD [0, 1] [2] rfl rfl (by decide) (by decide) hk1 hFc hP1 hD1
        have hP := hP.sub (ws' := [(h0, .inr (12, fsMM (upd mi 23 y_224) mr)), ((mr 12), .inl (km_kept, 300, .inl f_225)), (rw, .inl (krw, 36, .inl z2))]) [1, 2, 0] rfl
        have hD := hD.sub (ws' := [(h0, .inr (12, fsMM (upd mi 23 y_224) mr)), ((mr 12), .inl (km_kept, 300, .inl f_225)), (rw, .inl (krw, 36, .inl z2))]) [1, 2, 0] (by decide) rfl
        have hpr0_r_223 : y_224.toInt = w0_23.toInt + 1 := hpr0_r_223
        have g_226 : gi y_224 1 301 := ⟨by have u1 := gw0_23.1; omega, by have u2 := gw0_23.2; omega⟩
        have hpr1_r_223 : f_225 = fm_kept := hpr1_r_223
        have hpr1_r_223 := hpr1_r_223.symm
        subst hpr1_r_223
        have hpr2_r_223 : r_223 = fm_kept w0_23.toNatClampNeg := hpr2_r_223
        rw [ex_222] at hE
        have hF := gf_callm (a := (r_223, y_224, fm_kept)) hE hF (by first | with_reducible rfl | simp only [upd_same, upd_app, ↓reduceIte, Nat.reduceEqDiff])
        generalize H1 = H at hP hS ⊢
        refine va_iast hx hb hK hP hD hS 2 1 rfl rfl (gi_in g_221 (by decide)) dX12_movesRow_17 (fun H locs hP hD hS => ?_)
        have hP : va_P (dC, dI) vwCl [(h0, .inr (12, fsMM (upd mi 23 y_224) mr)), ((mr 12), .inl (km_kept, 300, .inl fm_kept)), (rw, .inl (krw, 36, .inl (upd z2 (v2 : Int32).toNatClampNeg r_223)))] H := hP
        have hD : va_D A [(h0, .inr (12, fsMM (upd mi 23 y_224) mr)), ((mr 12), .inl (km_kept, 300, .inl fm_kept)), (rw, .inl (krw, 36, .inl (upd z2 (v2 : Int32).toNatClampNeg r_223)))] := hD
        generalize ef_227 : upd z2 (v2 : Int32).toNatClampNeg r_223 = f_227 at hP hD
        obtain ⟨x_228, ex_228⟩ : ∃ y : Int32, y = v2 + 1 := ⟨_, rfl⟩
        have gx_228 : gi x_228 1 36 := gi_add ex_228 g_221 (gi_c 1 1 (by decide)) (by decide)
        refine lv_iinc (v := x_228) (lv' := [(2, .int x_228), (0, .ref h0), (1, .ref rw)]) hx hb dX12_movesRow_18 hl (k := 2) rfl (by rw [ex_228]; rfl) (by decide) rfl (fun ls hl => ?_)
        refine lv_goto (tgt := 2) hx hb dX12_movesRow_21 (by decide) ?_
        exact ih x_228 y_224 f_227 _ _ _ (gi_w gx_228 (by decide)) (show gi y_224 0 300 from ⟨by have qgy_224 := g_226.1; have rgy_224 := g_226.2; have qgw0_23 := gw0_23.1; have rgw0_23 := gw0_23.2; have qgv2 := g_221.1; have rgv2 := g_221.2; have qgmi_24 := gmi_24.1; have rgmi_24 := gmi_24.2; have qgmi_23 := g_215.1; have rgmi_23 := g_215.2; omega, by have qgy_224 := g_226.1; have rgy_224 := g_226.2; have qgw0_23 := gw0_23.1; have rgw0_23 := gw0_23.2; have qgv2 := g_221.1; have rgv2 := g_221.2; have qgmi_24 := gmi_24.1; have rgmi_24 := gmi_24.2; have qgmi_23 := g_215.1; have rgmi_23 := g_215.2; omega⟩) (show y_224.toInt = (mi 23).toInt + x_228.toInt from by have qgy_224 := g_226.1; have rgy_224 := g_226.2; have qgx_228 := gx_228.1; have rgx_228 := gx_228.2; have igx_228 : x_228.toInt = v2.toInt + 1 := (by have hc1 : (1 : Int32).toInt = 1 := (by decide); have h9 := gi_addI ex_228 (by have h1 := g_221.1; have h2 := (gi_c 1 1 (by decide)).1; have h3 := g_221.2; have h4 := (gi_c 1 1 (by decide)).2; omega) (by have h1 := g_221.1; have h2 := (gi_c 1 1 (by decide)).1; have h3 := g_221.2; have h4 := (gi_c 1 1 (by decide)).2; omega); rw [hc1] at h9; exact h9); have qgv2 := g_221.1; have rgv2 := g_221.2; have qgw0_23 := gw0_23.1; have rgw0_23 := gw0_23.2; have qgmi_24 := gmi_24.1; have rgmi_24 := gmi_24.2; have qgmi_23 := g_215.1; have rgmi_23 := g_215.2; omega) (show fm_kept = fm_kept from by exact hinv1) (show ∀ j : Nat, (j : Int) < x_228.toInt → f_227 j = fm_kept ((mi 23).toNatClampNeg + j) from by exact mv_r hinv2 (by have qgy_224 := g_226.1; have rgy_224 := g_226.2; have qgw0_23 := gw0_23.1; have rgw0_23 := gw0_23.2; have qgv2 := g_221.1; have rgv2 := g_221.2; have qgmi_24 := gmi_24.1; have rgmi_24 := gmi_24.2; have qgmi_23 := g_215.1; have rgmi_23 := g_215.2; omega) (by have qgy_224 := g_226.1; have rgy_224 := g_226.2; have qgw0_23 := gw0_23.1; have rgw0_23 := gw0_23.2; have qgv2 := g_221.1; have rgv2 := g_221.2; have qgmi_24 := gmi_24.1; have rgmi_24 := gmi_24.2; have qgmi_23 := g_215.1; have rgmi_23 := g_215.2; omega) (by have qgy_224 := g_226.1; have rgy_224 := g_226.2; have qgw0_23 := gw0_23.1; have rgw0_23 := gw0_23.2; have qgv2 := g_221.1; have rgv2 := g_221.2; have qgmi_24 := gmi_24.1; have rgmi_24 := gmi_24.2; have qgmi_23 := g_215.1; have rgmi_23 := g_215.2; omega) (hpr2_r_223.trans (congrFun hinv1 _)) ef_227 (by have qgy_224 := g_226.1; have rgy_224 := g_226.2; have qgx_228 := gx_228.1; have rgx_228 := gx_228.2; have igx_228 : x_228.toInt = v2.toInt + 1 := (by have hc1 : (1 : Int32).toInt = 1 := (by decide); have h9 := gi_addI ex_228 (by have h1 := g_221.1; have h2 := (gi_c 1 1 (by decide)).1; have h3 := g_221.2; have h4 := (gi_c 1 1 (by decide)).2; omega) (by have h1 := g_221.1; have h2 := (gi_c 1 1 (by decide)).1; have h3 := g_221.2; have h4 := (gi_c 1 1 (by decide)).2; omega); rw [hc1] at h9; exact h9); have qgv2 := g_221.1; have rgv2 := g_221.2; have qgw0_23 := gw0_23.1; have rgw0_23 := gw0_23.2; have qgmi_24 := gmi_24.1; have rgmi_24 := gmi_24.2; have qgmi_23 := g_215.1; have rgmi_23 := g_215.2; omega)) (show x_228.toInt ≤ 36 from by have qgy_224 := g_226.1; have rgy_224 := g_226.2; have qgx_228 := gx_228.1; have rgx_228 := gx_228.2; have igx_228 : x_228.toInt = v2.toInt + 1 := (by have hc1 : (1 : Int32).toInt = 1 := (by decide); have h9 := gi_addI ex_228 (by have h1 := g_221.1; have h2 := (gi_c 1 1 (by decide)).1; have h3 := g_221.2; have h4 := (gi_c 1 1 (by decide)).2; omega) (by have h1 := g_221.1; have h2 := (gi_c 1 1 (by decide)).1; have h3 := g_221.2; have h4 := (gi_c 1 1 (by decide)).2; omega); rw [hc1] at h9; exact h9); have qgv2 := g_221.1; have rgv2 := g_221.2; have qgw0_23 := gw0_23.1; have rgw0_23 := gw0_23.2; have qgmi_24 := gmi_24.1; have rgmi_24 := gmi_24.2; have qgmi_23 := g_215.1; have rgmi_23 := g_215.2; omega) (by rw [ex_228, ← ef_227]; exact hF) (by have av2 := gv2.1; have bv2 := gv2.2; have qgx_228 := gx_228.1; have rgx_228 := gx_228.2; have igx_228 : x_228.toInt = v2.toInt + 1 := (by have hc1 : (1 : Int32).toInt = 1 := (by decide); have h9 := gi_addI ex_228 (by have h1 := g_221.1; have h2 := (gi_c 1 1 (by decide)).1; have h3 := g_221.2; have h4 := (gi_c 1 1 (by decide)).2; omega) (by have h1 := g_221.1; have h2 := (gi_c 1 1 (by decide)).1; have h3 := g_221.2; have h4 := (gi_c 1 1 (by decide)).2; omega); rw [hc1] at h9; exact h9); have qgv2 := g_221.1; have rgv2 := g_221.2; omega) hP hD hS (lv_sub hl [1, 2, 0] rfl)
set_option maxHeartbeats 4000000 in
set_option maxRecDepth 100000 in
theorem sX12_movesRowR36 (l : Launch) (dC : Nat → ClassId) (dI : Nat → Nat → Nat) (sz : Nat) (h0 : Nat) (rw : Nat) (mi : Nat → Int32) (mr : Nat → Nat) (km_kept : ClassId) (fm_kept : Nat → Int32) (krw : ClassId) (frw : Nat → Int32) (gmi_0 : gi (mi 0) 0 100000) (gmi_1 : gi (mi 1) 0 100000) (gmi_2 : gi (mi 2) 0 100000) (gmi_4 : gi (mi 4) 0 1) (gmi_7 : gi (mi 7) 0 6) (gmi_10 : gi (mi 10) 0 24) (gmi_17 : gi (mi 17) 0 8) (gmi_23 : gi (mi 23) 0 300) (gmi_24 : gi (mi 24) 0 1) (gmi_26 : gi (mi 26) 0 1600) (gmi_29 : gi (mi 29) 0 1600) (gmi_30 : gi (mi 30) 0 1600) (gmi_32 : gi (mi 32) 0 100000) (gmi_33 : gi (mi 33) 0 1) (gmi_37 : gi (mi 37) 0 1) (gmi_41 : gi (mi 41) 0 24) (gmi_50 : gi (mi 50) 0 1) (gmi_51 : gi (mi 51) 0 1) (gmi_56 : gi (mi 56) 0 80) (hpq0 : (mi 24).toInt = 0) (hpq1 : (mi 23).toInt ≤ 264) : Met l yX12_movesRow (.code yX12_movesRow cX12_movesRow 3 none :: wsGB) ({ frames := 1, cells := 0, slots := 0, locals := 22 }) (va_Pc [.ref h0, .ref rw] (fun U => U.heap.size = sz ∧ va_P (dC, dI) vwCl [(h0, .inr (12, fsMM mi mr)), ((mr 12), .inl (km_kept, 300, .inl fm_kept)), (rw, .inl (krw, 36, .inl frw))] U.heap ∧ va_K (dC, dI) vwCl [(km_kept, .int), (krw, .int)] U ∧ va_D (fun _ => True) [(h0, .inr (12, fsMM mi mr)), ((mr 12), .inl (km_kept, 300, .inl fm_kept)), (rw, .inl (krw, 36, .inl frw))])) (va_Qv (fun (u : Unit) => True) (fun _ t => ∃ (w0_23 : Int32) (z1 : Nat → Int32) (z2 : Nat → Int32), gi w0_23 0 300 ∧ w0_23.toInt = (mi 23).toInt + 36 ∧ z1 = fm_kept ∧ (∀ j : Nat, (j : Int) < 36 → z2 j = fm_kept ((mi 23).toNatClampNeg + j)) ∧ (w0_23, z1, z2) = fX12_movesRow_sX12_movesRowR36 mi fm_kept frw ∧ va_P (dC, dI) vwCl [(h0, .inr (12, fsMM (upd mi 23 w0_23) mr)), ((mr 12), .inl (km_kept, 300, .inl z1)), (rw, .inl (krw, 36, .inl z2))] t.heap ∧ va_D (va_A [(h0, .inr (12, fsMM mi mr)), ((mr 12), .inl (km_kept, 300, .inl fm_kept)), (rw, .inl (krw, 36, .inl frw))] sz) [(h0, .inr (12, fsMM (upd mi 23 w0_23) mr)), ((mr 12), .inl (km_kept, 300, .inl z1)), (rw, .inl (krw, 36, .inl z2))]) (va_A [(h0, .inr (12, fsMM mi mr)), ((mr 12), .inl (km_kept, 300, .inl fm_kept)), (rw, .inl (krw, 36, .inl frw))] sz)) 0 0 (va_A [(h0, .inr (12, fsMM mi mr)), ((mr 12), .inl (km_kept, 300, .inl fm_kept)), (rw, .inl (krw, 36, .inl frw))] sz) := by
  refine Met.ofW (cc := cX12_movesRow) (maxL := 3) (ret := none) (by decide) rfl ?_
  intro p e s m args below meth c s₁ B hml hv
  obtain ⟨rfl, hsz, hP, hK, hD0⟩ := hv
  have hx := B.exec
  have hb := B.bytes
  have hr := B.returns
  have hts := atoms_spec (ws := (.code yX12_movesRow cX12_movesRow 3 none :: wsGB)) B.pre
  have hown : s.vm.findClass RX12 = some m.cls := findClass_of_methodNamed B.named
  have hlocks := B.notSynchronized
  subst hsz
  have hD := hD0.self (sz := s.heap.size)
  generalize hAe : va_A [(h0, .inr (12, fsMM mi mr)), ((mr 12), .inl (km_kept, 300, .inl fm_kept)), (rw, .inl (krw, 36, .inl frw))] s.heap.size = A at hD ⊢
  have hA : ∀ q : Nat, s.heap.size ≤ q → A q := fun q h => by rw [← hAe]; exact Or.inr h
  have hS : va_S A s.heap s.heap [] := va_S.rf
  have hl := lv_entry ([.ref h0, .ref rw]) (n := 3) (Nat.le_of_ble_eq_true rfl)
  rw [lg_entry_eq]
  generalize (lg_sl ([.ref h0, .ref rw]) ++ List.replicate (3 - (lg_sl ([.ref h0, .ref rw])).length) Slot.unset).toArray = ls at hl ⊢
  have hl : lv_has ls 3 [(0, .ref h0), (1, .ref rw)] := hl
  obtain ⟨RES, hF⟩ : ∃ R9, fX12_movesRow_sX12_movesRowR36 mi fm_kept frw = R9 := ⟨_, rfl⟩
  have hR9 := hF
  have g_229 : gi (mi 23) 0 264 := ⟨gmi_23.1, by omega⟩
  refine lv_iconst (v := 0) hx hb dX12_movesRow_0 (by decide) ?_
  refine lv_istore_n (lv' := [(2, .int 0), (0, .ref h0), (1, .ref rw)]) hx hb dX12_movesRow_1 rfl hl (by decide) rfl (fun ls hl => ?_)
  refine (lp_sX12_movesRowR36 h0 rw mi mr km_kept fm_kept krw frw gmi_0 gmi_1 gmi_2 gmi_4 gmi_7 gmi_10 gmi_17 gmi_23 gmi_24 gmi_26 gmi_29 gmi_30 gmi_32 gmi_33 gmi_37 gmi_41 gmi_50 gmi_51 gmi_56 hpq0 hpq1 hx hb hml hown hts hK hA (Nat.le_of_ble_eq_true rfl) (Nat.le_of_ble_eq_true rfl) (Nat.zero_le _) (Nat.zero_le _) (fun w0_23 z1 z2 H locs ls gw0_23 hpr0 hpr1 hpr2 hF hP hD hS hl => ?_) 1000000000) 0 (mi 23) frw _ _ _ (gi_w (gi_c 0 0 (by decide)) (by decide)) (gi_w g_229 (by decide)) (show (mi 23).toInt = (mi 23).toInt + (0 : Int32).toInt from by have k0 : (0 : Int32).toInt = 0 := (by decide); have qgmi_24 := gmi_24.1; have rgmi_24 := gmi_24.2; have qgmi_23 := g_229.1; have rgmi_23 := g_229.2; omega) (show fm_kept = fm_kept from by rfl) (show ∀ j : Nat, (j : Int) < (0 : Int) → frw j = fm_kept ((mi 23).toNatClampNeg + j) from by exact fun j hj => absurd hj (by have h0 : (0 : Int32).toInt = 0 := (by decide); omega)) (show (0 : Int32).toInt ≤ 36 from by have k0 : (0 : Int32).toInt = 0 := (by decide); have qgmi_24 := gmi_24.1; have rgmi_24 := gmi_24.2; have qgmi_23 := g_229.1; have rgmi_23 := g_229.2; omega) hF (by have k0 : (0 : Int32).toInt = 0 := (by decide); omega) hP hD hS (lv_sub hl [1, 2, 0] rfl)
  · skip
    exact W.vret hx hb hr (fun t ht hW => ⟨⟨(), rfl, trivial, w0_23, z1, z2, gw0_23, hpr0, hpr1, hpr2, hF.trans hR9.symm, by rw [ht]; exact hP, hD⟩, hS.F ht⟩) hS.2.2 dX12_movesRow_24
noncomputable def dfX12_movesRow_sX12_movesRowK24_2 (mi : Nat → Int32) (fm_kept : Nat → Int32) (frw : Nat → Int32) (K : (Int32 → Int32 → (Nat → Int32) → (Nat → Int32) → (Int32 × (Nat → Int32) × (Nat → Int32)))) (v2 : Int32) (w0_23 : Int32) (z1 : Nat → Int32) (z2 : Nat → Int32) : Int32 × (Nat → Int32) × (Nat → Int32) := if (24 : Int32) ≤ v2 then (w0_23, z1, z2) else (cal (fun o1 => K (v2 + (1 : Int32)) o1.2.1 o1.2.2 (upd z2 v2.toNatClampNeg o1.1)) (fX12_moves (upd mi 23 w0_23) z1 (z2 v2.toNatClampNeg)))
noncomputable def lfX12_movesRow_sX12_movesRowK24 (mi : Nat → Int32) (fm_kept : Nat → Int32) (frw : Nat → Int32) (z : Nat) : (Int32 → Int32 → (Nat → Int32) → (Nat → Int32) → (Int32 × (Nat → Int32) × (Nat → Int32))) := Nat.rec (motive := fun _ => (Int32 → Int32 → (Nat → Int32) → (Nat → Int32) → (Int32 × (Nat → Int32) × (Nat → Int32)))) (fun _ _ _ _ => (0, fun _ => 0, fun _ => 0)) (fun _ K => dfX12_movesRow_sX12_movesRowK24_2 mi fm_kept frw K) z
noncomputable def fX12_movesRow_sX12_movesRowK24 (mi : Nat → Int32) (fm_kept : Nat → Int32) (frw : Nat → Int32) : Int32 × (Nat → Int32) × (Nat → Int32) := (lfX12_movesRow_sX12_movesRowK24 mi fm_kept frw 1000000000) (0 : Int32) (mi 23) fm_kept frw
set_option maxHeartbeats 4000000 in
set_option maxRecDepth 100000 in
theorem lp_sX12_movesRowK24 {p : Program} {l : Launch} {e : Env} {R : Room} {s : State} {m : MethodId} {args : Array Value} {below : List Frame} {meth : Method} {c : Code} {Q : State → Prop} {A : Nat → Prop} {cells slots : Nat} {dC : Nat → ClassId} {dI : Nat → Nat → Nat} {RES : Int32 × (Nat → Int32) × (Nat → Int32)} (h0 : Nat) (rw : Nat) (mi : Nat → Int32) (mr : Nat → Nat) (km_kept : ClassId) (fm_kept : Nat → Int32) (krw : ClassId) (frw : Nat → Int32) (gmi_0 : gi (mi 0) 0 100000) (gmi_1 : gi (mi 1) 0 100000) (gmi_2 : gi (mi 2) 0 100000) (gmi_4 : gi (mi 4) 0 1) (gmi_7 : gi (mi 7) 0 6) (gmi_10 : gi (mi 10) 0 24) (gmi_17 : gi (mi 17) 0 8) (gmi_23 : gi (mi 23) 0 300) (gmi_24 : gi (mi 24) 0 1) (gmi_26 : gi (mi 26) 0 1600) (gmi_29 : gi (mi 29) 0 1600) (gmi_30 : gi (mi 30) 0 1600) (gmi_32 : gi (mi 32) 0 100000) (gmi_33 : gi (mi 33) 0 1) (gmi_37 : gi (mi 37) 0 1) (gmi_41 : gi (mi 41) 0 24) (gmi_50 : gi (mi 50) 0 1) (gmi_51 : gi (mi 51) 0 1) (gmi_56 : gi (mi 56) 0 80) (hpq0 : (mi 24).toInt = 1) (hpq1 : (mi 23).toInt ≤ 276) (hx : p.tables.exec = Jvm.exec) (hb : c.code = cX12_movesRow) (hml : c.maxLocals = 3) (hown : s.vm.findClass RX12 = some m.cls) (hts : ∀ w ∈ ((.code yX12_movesRow cX12_movesRow 3 none :: wsGB) : List Cond), w.before args s = true) (hK : va_K (dC, dI) vwCl [(km_kept, .int), (krw, .int)] s) (hA : ∀ q : Nat, s.heap.size ≤ q → A q) (hRf : 1 ≤ R.frames) (hRl : 22 ≤ R.locals) (hRc : cells ≤ R.cells) (hRs : slots ≤ R.slots) (kr24 : ∀ (w0_23 : Int32) (z1 : Nat → Int32) (z2 : Nat → Int32) (H : Heap) (locs : List Loc) (ls : Array Slot), gi w0_23 0 300 → w0_23.toInt = (mi 23).toInt + 24 → z2 = frw → (∀ j : Nat, (j : Int) < 24 → z1 ((mi 23).toNatClampNeg + j) = frw j) → (∀ j : Nat, j < (mi 23).toNatClampNeg → z1 j = fm_kept j) → (w0_23, z1, z2) = RES → va_P (dC, dI) vwCl [(h0, .inr (12, fsMM (upd mi 23 w0_23) mr)), ((mr 12), .inl (km_kept, 300, .inl z1)), (rw, .inl (krw, 24, .inl z2))] H → va_D A [(h0, .inr (12, fsMM (upd mi 23 w0_23) mr)), ((mr 12), .inl (km_kept, 300, .inl z1)), (rw, .inl (krw, 24, .inl z2))] → va_S A s.heap H locs → lv_has ls 3 [] → W p l e R s m args below meth c H locs cells slots Q (F0 m 24 ls [])) : ∀ z : Nat, (∀ (v2 : Int32) (w0_23 : Int32) (z1 : Nat → Int32) (z2 : Nat → Int32) (H : Heap) (locs : List Loc) (ls : Array Slot), gi v2 0 24 → gi w0_23 0 300 → w0_23.toInt = (mi 23).toInt + v2.toInt → z2 = frw → (∀ j : Nat, (j : Int) < v2.toInt → z1 ((mi 23).toNatClampNeg + j) = frw j) → (∀ j : Nat, j < (mi 23).toNatClampNeg → z1 j = fm_kept j) → (lfX12_movesRow_sX12_movesRowK24 mi fm_kept frw z) v2 w0_23 z1 z2 = RES → 49 + (-2) * v2.toInt < (z : Int) → va_P (dC, dI) vwCl [(h0, .inr (12, fsMM (upd mi 23 w0_23) mr)), ((mr 12), .inl (km_kept, 300, .inl z1)), (rw, .inl (krw, 24, .inl z2))] H → va_D A [(h0, .inr (12, fsMM (upd mi 23 w0_23) mr)), ((mr 12), .inl (km_kept, 300, .inl z1)), (rw, .inl (krw, 24, .inl z2))] → va_S A s.heap H locs → lv_has ls 3 [(0, .ref h0), (1, .ref rw), (2, .int v2)] → W p l e R s m args below meth c H locs cells slots Q (F0 m 2 ls [])) := by
  intro z
  induction z with
  | zero =>
    intro v2 w0_23 z1 z2 H locs ls gv2 gw0_23 hinv0 hinv1 hinv2 hinv3 hF hmu hP hD hS hl
    exact absurd hmu (by have hv21 := gv2.1; have hv22 := gv2.2; omega)
  | succ z ih =>
      intro v2 w0_23 z1 z2 H locs ls gv2 gw0_23 hinv0 hinv1 hinv2 hinv3 hF hmu hP hD hS hl
      have hF : dfX12_movesRow_sX12_movesRowK24_2 mi fm_kept frw (lfX12_movesRow_sX12_movesRowK24 mi fm_kept frw z) v2 w0_23 z1 z2 = RES := hF
      have g_154 : gi (mi 23) 0 276 := ⟨gmi_23.1, by omega⟩
      refine lv_iload_n hx hb dX12_movesRow_2 rfl (lv_at hl 2 rfl) ?_
      refine lv_aload_n hx hb dX12_movesRow_3 rfl (lv_at hl 1 rfl) ?_
      refine va_alen (v := 24) hx hb hK hP 2 1 rfl rfl rfl dX12_movesRow_4 ?_
      refine lv_icmp_ge (tgt := 24) hx hb dX12_movesRow_5 (by decide) (fun c_155 => ?_) (fun c_155 => ?_)
      · have hF := gf_pos c_155 hF
        have hc_156 : 24 ≤ v2.toInt := by have h9 := Int32.le_iff_toInt_le.mp c_155; rw [show (24 : Int32).toInt = 24 from by decide] at h9; exact h9
        have g_157 : gi v2 24 24 := gi_le_r c_155 (gi_c 24 24 (by decide)) gv2
        exact kr24 w0_23 z1 z2 _ _ _ gw0_23 (show w0_23.toInt = (mi 23).toInt + 24 from by have qgw0_23 := gw0_23.1; have rgw0_23 := gw0_23.2; have qgv2 := g_157.1; have rgv2 := g_157.2; have qgmi_24 := gmi_24.1; have rgmi_24 := gmi_24.2; have qgmi_23 := g_154.1; have rgmi_23 := g_154.2; omega) (show z2 = frw from by exact hinv1) (show ∀ j : Nat, (j : Int) < 24 → z1 ((mi 23).toNatClampNeg + j) = frw j from by exact fun j hj => hinv2 j (by have qgw0_23 := gw0_23.1; have rgw0_23 := gw0_23.2; have qgv2 := g_157.1; have rgv2 := g_157.2; have qgmi_24 := gmi_24.1; have rgmi_24 := gmi_24.2; have qgmi_23 := g_154.1; have rgmi_23 := g_154.2; omega)) (show ∀ j : Nat, j < (mi 23).toNatClampNeg → z1 j = fm_kept j from by exact hinv3) hF hP hD hS (lv_sub hl [] rfl)
      · have hF := gf_neg c_155 hF
        have hc_158 : v2.toInt < 24 := by have h9 := Int32.lt_iff_toInt_lt.mp (Int32.not_le.mp c_155); rw [show (24 : Int32).toInt = 24 from by decide] at h9; exact h9
        have g_159 : gi v2 0 23 := gi_lt_l (Int32.not_le.mp c_155) gv2 (gi_c 24 24 (by decide)) (by decide)
        refine lv_aload_n hx hb dX12_movesRow_8 rfl (lv_at hl 1 rfl) ?_
        refine lv_iload_n hx hb dX12_movesRow_9 rfl (lv_at hl 2 rfl) ?_
        refine lv_aload_n hx hb dX12_movesRow_10 rfl (lv_at hl 0 rfl) ?_
        refine lv_aload_n hx hb dX12_movesRow_11 rfl (lv_at hl 1 rfl) ?_
        refine lv_iload_n hx hb dX12_movesRow_12 rfl (lv_at hl 2 rfl) ?_
        refine va_iald hx hb hK hP 2 1 rfl rfl (gi_in g_159 (by decide)) dX12_movesRow_13 ?_
        refine lv_topi (fun x_160 ex_160 => ?_)
        have hlx_160 : x_160.toInt = (z2 v2.toNatClampNeg).toInt := congrArg Int32.toInt ex_160
        have hPc := hP.sub (ws' := [(h0, .inr (12, fsMM (upd mi 23 w0_23) mr)), ((mr 12), .inl (km_kept, 300, .inl z1))]) [0, 1] rfl
        have hKc := hK.sub (tys' := [(km_kept, .int)]) [0] rfl
        have hDc := hD.sub (ws' := [(h0, .inr (12, fsMM (upd mi 23 w0_23) mr)), ((mr 12), .inl (km_kept, 300, .inl z1))]) [0, 1] (by decide) rfl
        have hFc := va_free (wc := [(h0, .inr (12, fsMM (upd mi 23 w0_23) mr)), ((mr 12), .inl (km_kept, 300, .inl z1))]) hD hS hA [0, 1] rfl
        refine va_calli (va_runV (As := [.int x_160]) (rest := [.int v2, .ref rw]) ⟨hx, hb, hml, hown, hts⟩ (sX12_movesK l dC dI H.size h0 (upd mi 23 w0_23) mr km_kept z1 x_160 gmi_0 gmi_1 gmi_2 gmi_4 gmi_7 gmi_10 gmi_17 gw0_23 gmi_24 gmi_26 gmi_29 gmi_30 gmi_32 gmi_33 gmi_37 gmi_41 gmi_50 gmi_51 gmi_56 (show 1 ≤ (mi 24).toInt from by have qgw0_23 := gw0_23.1; have rgw0_23 := gw0_23.2; have qgv2 := g_159.1; have rgv2 := g_159.2; have qgmi_24 := gmi_24.1; have rgmi_24 := gmi_24.2; have qgmi_23 := g_154.1; have rgmi_23 := g_154.2; omega) (show w0_23.toInt ≤ 299 from by have qgw0_23 := gw0_23.1; have rgw0_23 := gw0_23.2; have qgv2 := g_159.1; have rgv2 := g_159.2; have qgmi_24 := gmi_24.1; have rgmi_24 := gmi_24.2; have qgmi_23 := g_154.1; have rgmi_23 := g_154.2; omega)) (cwV 1 hts (gz_gV mGB_123 mGB_124 mGB_125 mGB_1 mGB_126 goodGB) rfl rfl rfl (by decide +kernel) ⟨Nat.le_trans (Nat.le_of_ble_eq_true rfl) hRf, Nat.le_trans (Nat.le_of_ble_eq_true rfl) hRl⟩) ⟨fun a U g mk q => by obtain ⟨q0, q1, qP, qK, qD⟩ := q; exact ⟨q0, q1, qP, va_K.moved (u := U) (U := U.calling g mk a) (Vm.Alike.refl U.vm) qK, qD⟩, va_recv hKc hPc (ci := 12) (q0 := 0) rfl rfl, fun U hU hW => ⟨rfl, by rw [hU], by rw [hU]; exact hPc, va_K.moved hW.alike hKc, hDc.weaken (fun _ _ _ _ => trivial)⟩⟩ rfl rfl hl.1 rfl (lv_room (Nat.le_of_ble_eq_true rfl)) dX12_movesRow_14 ⟨hRc, hRs⟩) hS (fun q _ h => hFc q h) hFc (fun r_161 u t H1 locs ht hvm hw hB hz1 hk1 hS => ?_)
        obtain ⟨hu_, hw⟩ := hw
        subst hu_
        obtain ⟨y_162, f_163, gy_162, hpr0_r_161, hpr1_r_161, hpr2_r_161, hE, hP1, hD1⟩ := hB
        rw [ht] at hP1
        obtain ⟨hP, hD⟩ := va_join (wr := [(rw, .inl (krw, 24, .inl z2))]) (w1 := [(h0, .inr (12, fsMM (upd mi 23 y_162) mr)), ((mr 12), .inl (km_kept, 300, .inl f_163))]) hP hD [0, 1] [2] rfl rfl (by decide) (by decide) hk1 hFc hP1 hD1
        have hP := hP.sub (ws' := [(h0, .inr (12, fsMM (upd mi 23 y_162) mr)), ((mr 12), .inl (km_kept, 300, .inl f_163)), (rw, .inl (krw, 24, .inl z2))]) [1, 2, 0] rfl
        have hD := hD.sub (ws' := [(h0, .inr (12, fsMM (upd mi 23 y_162) mr)), ((mr 12), .inl (km_kept, 300, .inl f_163)), (rw, .inl (krw, 24, .inl z2))]) [1, 2, 0] (by decide) rfl
        have hpr0_r_161 : y_162.toInt = w0_23.toInt + 1 := hpr0_r_161
        have g_164 : gi y_162 1 301 := ⟨by have u1 := gw0_23.1; omega, by have u2 := gw0_23.2; omega⟩
        have hpr1_r_161 : f_163 = upd z1 w0_23.toNatClampNeg x_160 := hpr1_r_161
        have hpr2_r_161 : r_161 = x_160 := hpr2_r_161
        rw [ex_160] at hE
        have hF := gf_callm (a := (r_161, y_162, f_163)) hE hF (by first | with_reducible rfl | simp only [upd_same, upd_app, ↓reduceIte, Nat.reduceEqDiff])
        generalize H1 = H at hP hS ⊢
        refine va_iast hx hb hK hP hD hS 2 1 rfl rfl (gi_in g_159 (by decide)) dX12_movesRow_17 (fun H locs hP hD hS => ?_)
        have hP : va_P (dC, dI) vwCl [(h0, .inr (12, fsMM (upd mi 23 y_162) mr)), ((mr 12), .inl (km_kept, 300, .inl f_163)), (rw, .inl (krw, 24, .inl (upd z2 (v2 : Int32).toNatClampNeg r_161)))] H := hP
        have hD : va_D A [(h0, .inr (12, fsMM (upd mi 23 y_162) mr)), ((mr 12), .inl (km_kept, 300, .inl f_163)), (rw, .inl (krw, 24, .inl (upd z2 (v2 : Int32).toNatClampNeg r_161)))] := hD
        generalize ef_165 : upd z2 (v2 : Int32).toNatClampNeg r_161 = f_165 at hP hD
        obtain ⟨x_166, ex_166⟩ : ∃ y : Int32, y = v2 + 1 := ⟨_, rfl⟩
        have gx_166 : gi x_166 1 24 := gi_add ex_166 g_159 (gi_c 1 1 (by decide)) (by decide)
        refine lv_iinc (v := x_166) (lv' := [(2, .int x_166), (0, .ref h0), (1, .ref rw)]) hx hb dX12_movesRow_18 hl (k := 2) rfl (by rw [ex_166]; rfl) (by decide) rfl (fun ls hl => ?_)
        refine lv_goto (tgt := 2) hx hb dX12_movesRow_21 (by decide) ?_
        exact ih x_166 y_162 f_163 f_165 _ _ _ (gi_w gx_166 (by decide)) (show gi y_162 0 300 from ⟨by have qgy_162 := g_164.1; have rgy_162 := g_164.2; have qgw0_23 := gw0_23.1; have rgw0_23 := gw0_23.2; have qgv2 := g_159.1; have rgv2 := g_159.2; have qgmi_24 := gmi_24.1; have rgmi_24 := gmi_24.2; have qgmi_23 := g_154.1; have rgmi_23 := g_154.2; omega, by have qgy_162 := g_164.1; have rgy_162 := g_164.2; have qgw0_23 := gw0_23.1; have rgw0_23 := gw0_23.2; have qgv2 := g_159.1; have rgv2 := g_159.2; have qgmi_24 := gmi_24.1; have rgmi_24 := gmi_24.2; have qgmi_23 := g_154.1; have rgmi_23 := g_154.2; omega⟩) (show y_162.toInt = (mi 23).toInt + x_166.toInt from by have qgy_162 := g_164.1; have rgy_162 := g_164.2; have qgx_166 := gx_166.1; have rgx_166 := gx_166.2; have igx_166 : x_166.toInt = v2.toInt + 1 := (by have hc1 : (1 : Int32).toInt = 1 := (by decide); have h9 := gi_addI ex_166 (by have h1 := g_159.1; have h2 := (gi_c 1 1 (by decide)).1; have h3 := g_159.2; have h4 := (gi_c 1 1 (by decide)).2; omega) (by have h1 := g_159.1; have h2 := (gi_c 1 1 (by decide)).1; have h3 := g_159.2; have h4 := (gi_c 1 1 (by decide)).2; omega); rw [hc1] at h9; exact h9); have qgv2 := g_159.1; have rgv2 := g_159.2; have qgw0_23 := gw0_23.1; have rgw0_23 := gw0_23.2; have qgmi_24 := gmi_24.1; have rgmi_24 := gmi_24.2; have qgmi_23 := g_154.1; have rgmi_23 := g_154.2; omega) (show f_165 = frw from by rw [← ef_165, hpr2_r_161, ex_160, upd_self]; exact hinv1) (show ∀ j : Nat, (j : Int) < x_166.toInt → f_163 ((mi 23).toNatClampNeg + j) = frw j from by exact mv_k hinv2 (by have qgy_162 := g_164.1; have rgy_162 := g_164.2; have qgw0_23 := gw0_23.1; have rgw0_23 := gw0_23.2; have qgv2 := g_159.1; have rgv2 := g_159.2; have qgmi_24 := gmi_24.1; have rgmi_24 := gmi_24.2; have qgmi_23 := g_154.1; have rgmi_23 := g_154.2; omega) (by have qgy_162 := g_164.1; have rgy_162 := g_164.2; have qgw0_23 := gw0_23.1; have rgw0_23 := gw0_23.2; have qgv2 := g_159.1; have rgv2 := g_159.2; have qgmi_24 := gmi_24.1; have rgmi_24 := gmi_24.2; have qgmi_23 := g_154.1; have rgmi_23 := g_154.2; omega) (by have qgy_162 := g_164.1; have rgy_162 := g_164.2; have qgw0_23 := gw0_23.1; have rgw0_23 := gw0_23.2; have qgv2 := g_159.1; have rgv2 := g_159.2; have qgmi_24 := gmi_24.1; have rgmi_24 := gmi_24.2; have qgmi_23 := g_154.1; have rgmi_23 := g_154.2; omega) (ex_160.trans (congrFun hinv1 _)) hpr1_r_161 (by have qgy_162 := g_164.1; have rgy_162 := g_164.2; have qgx_166 := gx_166.1; have rgx_166 := gx_166.2; have igx_166 : x_166.toInt = v2.toInt + 1 := (by have hc1 : (1 : Int32).toInt = 1 := (by decide); have h9 := gi_addI ex_166 (by have h1 := g_159.1; have h2 := (gi_c 1 1 (by decide)).1; have h3 := g_159.2; have h4 := (gi_c 1 1 (by decide)).2; omega) (by have h1 := g_159.1; have h2 := (gi_c 1 1 (by decide)).1; have h3 := g_159.2; have h4 := (gi_c 1 1 (by decide)).2; omega); rw [hc1] at h9; exact h9); have qgv2 := g_159.1; have rgv2 := g_159.2; have qgw0_23 := gw0_23.1; have rgw0_23 := gw0_23.2; have qgmi_24 := gmi_24.1; have rgmi_24 := gmi_24.2; have qgmi_23 := g_154.1; have rgmi_23 := g_154.2; omega)) (show ∀ j : Nat, j < (mi 23).toNatClampNeg → f_163 j = fm_kept j from by exact mv_f (k := v2) (a := w0_23) hinv3 (by have qgy_162 := g_164.1; have rgy_162 := g_164.2; have qgw0_23 := gw0_23.1; have rgw0_23 := gw0_23.2; have qgv2 := g_159.1; have rgv2 := g_159.2; have qgmi_24 := gmi_24.1; have rgmi_24 := gmi_24.2; have qgmi_23 := g_154.1; have rgmi_23 := g_154.2; omega) (by have qgy_162 := g_164.1; have rgy_162 := g_164.2; have qgw0_23 := gw0_23.1; have rgw0_23 := gw0_23.2; have qgv2 := g_159.1; have rgv2 := g_159.2; have qgmi_24 := gmi_24.1; have rgmi_24 := gmi_24.2; have qgmi_23 := g_154.1; have rgmi_23 := g_154.2; omega) (by have qgy_162 := g_164.1; have rgy_162 := g_164.2; have qgw0_23 := gw0_23.1; have rgw0_23 := gw0_23.2; have qgv2 := g_159.1; have rgv2 := g_159.2; have qgmi_24 := gmi_24.1; have rgmi_24 := gmi_24.2; have qgmi_23 := g_154.1; have rgmi_23 := g_154.2; omega) hpr1_r_161) (by rw [ex_166, ← ef_165]; exact hF) (by have av2 := gv2.1; have bv2 := gv2.2; have qgx_166 := gx_166.1; have rgx_166 := gx_166.2; have igx_166 : x_166.toInt = v2.toInt + 1 := (by have hc1 : (1 : Int32).toInt = 1 := (by decide); have h9 := gi_addI ex_166 (by have h1 := g_159.1; have h2 := (gi_c 1 1 (by decide)).1; have h3 := g_159.2; have h4 := (gi_c 1 1 (by decide)).2; omega) (by have h1 := g_159.1; have h2 := (gi_c 1 1 (by decide)).1; have h3 := g_159.2; have h4 := (gi_c 1 1 (by decide)).2; omega); rw [hc1] at h9; exact h9); have qgv2 := g_159.1; have rgv2 := g_159.2; omega) hP hD hS (lv_sub hl [1, 2, 0] rfl)
set_option maxHeartbeats 4000000 in
set_option maxRecDepth 100000 in
theorem sX12_movesRowK24 (l : Launch) (dC : Nat → ClassId) (dI : Nat → Nat → Nat) (sz : Nat) (h0 : Nat) (rw : Nat) (mi : Nat → Int32) (mr : Nat → Nat) (km_kept : ClassId) (fm_kept : Nat → Int32) (krw : ClassId) (frw : Nat → Int32) (gmi_0 : gi (mi 0) 0 100000) (gmi_1 : gi (mi 1) 0 100000) (gmi_2 : gi (mi 2) 0 100000) (gmi_4 : gi (mi 4) 0 1) (gmi_7 : gi (mi 7) 0 6) (gmi_10 : gi (mi 10) 0 24) (gmi_17 : gi (mi 17) 0 8) (gmi_23 : gi (mi 23) 0 300) (gmi_24 : gi (mi 24) 0 1) (gmi_26 : gi (mi 26) 0 1600) (gmi_29 : gi (mi 29) 0 1600) (gmi_30 : gi (mi 30) 0 1600) (gmi_32 : gi (mi 32) 0 100000) (gmi_33 : gi (mi 33) 0 1) (gmi_37 : gi (mi 37) 0 1) (gmi_41 : gi (mi 41) 0 24) (gmi_50 : gi (mi 50) 0 1) (gmi_51 : gi (mi 51) 0 1) (gmi_56 : gi (mi 56) 0 80) (hpq0 : (mi 24).toInt = 1) (hpq1 : (mi 23).toInt ≤ 276) : Met l yX12_movesRow (.code yX12_movesRow cX12_movesRow 3 none :: wsGB) ({ frames := 1, cells := 0, slots := 0, locals := 22 }) (va_Pc [.ref h0, .ref rw] (fun U => U.heap.size = sz ∧ va_P (dC, dI) vwCl [(h0, .inr (12, fsMM mi mr)), ((mr 12), .inl (km_kept, 300, .inl fm_kept)), (rw, .inl (krw, 24, .inl frw))] U.heap ∧ va_K (dC, dI) vwCl [(km_kept, .int), (krw, .int)] U ∧ va_D (fun _ => True) [(h0, .inr (12, fsMM mi mr)), ((mr 12), .inl (km_kept, 300, .inl fm_kept)), (rw, .inl (krw, 24, .inl frw))])) (va_Qv (fun (u : Unit) => True) (fun _ t => ∃ (w0_23 : Int32) (z1 : Nat → Int32) (z2 : Nat → Int32), gi w0_23 0 300 ∧ w0_23.toInt = (mi 23).toInt + 24 ∧ z2 = frw ∧ (∀ j : Nat, (j : Int) < 24 → z1 ((mi 23).toNatClampNeg + j) = frw j) ∧ (∀ j : Nat, j < (mi 23).toNatClampNeg → z1 j = fm_kept j) ∧ (w0_23, z1, z2) = fX12_movesRow_sX12_movesRowK24 mi fm_kept frw ∧ va_P (dC, dI) vwCl [(h0, .inr (12, fsMM (upd mi 23 w0_23) mr)), ((mr 12), .inl (km_kept, 300, .inl z1)), (rw, .inl (krw, 24, .inl z2))] t.heap ∧ va_D (va_A [(h0, .inr (12, fsMM mi mr)), ((mr 12), .inl (km_kept, 300, .inl fm_kept)), (rw, .inl (krw, 24, .inl frw))] sz) [(h0, .inr (12, fsMM (upd mi 23 w0_23) mr)), ((mr 12), .inl (km_kept, 300, .inl z1)), (rw, .inl (krw, 24, .inl z2))]) (va_A [(h0, .inr (12, fsMM mi mr)), ((mr 12), .inl (km_kept, 300, .inl fm_kept)), (rw, .inl (krw, 24, .inl frw))] sz)) 0 0 (va_A [(h0, .inr (12, fsMM mi mr)), ((mr 12), .inl (km_kept, 300, .inl fm_kept)), (rw, .inl (krw, 24, .inl frw))] sz) := by
  refine Met.ofW (cc := cX12_movesRow) (maxL := 3) (ret := none) (by decide) rfl ?_
  intro p e s m args below meth c s₁ B hml hv
  obtain ⟨rfl, hsz, hP, hK, hD0⟩ := hv
  have hx := B.exec
  have hb := B.bytes
  have hr := B.returns
  have hts := atoms_spec (ws := (.code yX12_movesRow cX12_movesRow 3 none :: wsGB)) B.pre
  have hown : s.vm.findClass RX12 = some m.cls := findClass_of_methodNamed B.named
  have hlocks := B.notSynchronized
  subst hsz
  have hD := hD0.self (sz := s.heap.size)
  generalize hAe : va_A [(h0, .inr (12, fsMM mi mr)), ((mr 12), .inl (km_kept, 300, .inl fm_kept)), (rw, .inl (krw, 24, .inl frw))] s.heap.size = A at hD ⊢
  have hA : ∀ q : Nat, s.heap.size ≤ q → A q := fun q h => by rw [← hAe]; exact Or.inr h
  have hS : va_S A s.heap s.heap [] := va_S.rf
  have hl := lv_entry ([.ref h0, .ref rw]) (n := 3) (Nat.le_of_ble_eq_true rfl)
  rw [lg_entry_eq]
  generalize (lg_sl ([.ref h0, .ref rw]) ++ List.replicate (3 - (lg_sl ([.ref h0, .ref rw])).length) Slot.unset).toArray = ls at hl ⊢
  have hl : lv_has ls 3 [(0, .ref h0), (1, .ref rw)] := hl
  obtain ⟨RES, hF⟩ : ∃ R9, fX12_movesRow_sX12_movesRowK24 mi fm_kept frw = R9 := ⟨_, rfl⟩
  have hR9 := hF
  have g_167 : gi (mi 23) 0 276 := ⟨gmi_23.1, by omega⟩
  refine lv_iconst (v := 0) hx hb dX12_movesRow_0 (by decide) ?_
  refine lv_istore_n (lv' := [(2, .int 0), (0, .ref h0), (1, .ref rw)]) hx hb dX12_movesRow_1 rfl hl (by decide) rfl (fun ls hl => ?_)
  refine (lp_sX12_movesRowK24 h0 rw mi mr km_kept fm_kept krw frw gmi_0 gmi_1 gmi_2 gmi_4 gmi_7 gmi_10 gmi_17 gmi_23 gmi_24 gmi_26 gmi_29 gmi_30 gmi_32 gmi_33 gmi_37 gmi_41 gmi_50 gmi_51 gmi_56 hpq0 hpq1 hx hb hml hown hts hK hA (Nat.le_of_ble_eq_true rfl) (Nat.le_of_ble_eq_true rfl) (Nat.zero_le _) (Nat.zero_le _) (fun w0_23 z1 z2 H locs ls gw0_23 hpr0 hpr1 hpr2 hpr3 hF hP hD hS hl => ?_) 1000000000) 0 (mi 23) fm_kept frw _ _ _ (gi_w (gi_c 0 0 (by decide)) (by decide)) (gi_w g_167 (by decide)) (show (mi 23).toInt = (mi 23).toInt + (0 : Int32).toInt from by have k0 : (0 : Int32).toInt = 0 := (by decide); have qgmi_24 := gmi_24.1; have rgmi_24 := gmi_24.2; have qgmi_23 := g_167.1; have rgmi_23 := g_167.2; omega) (show frw = frw from by rfl) (show ∀ j : Nat, (j : Int) < (0 : Int) → fm_kept ((mi 23).toNatClampNeg + j) = frw j from by exact fun j hj => absurd hj (by have h0 : (0 : Int32).toInt = 0 := (by decide); omega)) (show ∀ j : Nat, j < (mi 23).toNatClampNeg → fm_kept j = fm_kept j from by exact fun j hj => rfl) hF (by have k0 : (0 : Int32).toInt = 0 := (by decide); omega) hP hD hS (lv_sub hl [1, 2, 0] rfl)
  · skip
    exact W.vret hx hb hr (fun t ht hW => ⟨⟨(), rfl, trivial, w0_23, z1, z2, gw0_23, hpr0, hpr1, hpr2, hpr3, hF.trans hR9.symm, by rw [ht]; exact hP, hD⟩, hS.F ht⟩) hS.2.2 dX12_movesRow_24
noncomputable def dfX12_movesRow_sX12_movesRowR24_2 (mi : Nat → Int32) (fm_kept : Nat → Int32) (frw : Nat → Int32) (K : (Int32 → Int32 → (Nat → Int32) → (Int32 × (Nat → Int32) × (Nat → Int32)))) (v2 : Int32) (w0_23 : Int32) (z2 : Nat → Int32) : Int32 × (Nat → Int32) × (Nat → Int32) := if (24 : Int32) ≤ v2 then (w0_23, fm_kept, z2) else (cal (fun o1 => K (v2 + (1 : Int32)) o1.2.1 (upd z2 v2.toNatClampNeg o1.1)) (fX12_moves (upd mi 23 w0_23) fm_kept (z2 v2.toNatClampNeg)))
noncomputable def lfX12_movesRow_sX12_movesRowR24 (mi : Nat → Int32) (fm_kept : Nat → Int32) (frw : Nat → Int32) (z : Nat) : (Int32 → Int32 → (Nat → Int32) → (Int32 × (Nat → Int32) × (Nat → Int32))) := Nat.rec (motive := fun _ => (Int32 → Int32 → (Nat → Int32) → (Int32 × (Nat → Int32) × (Nat → Int32)))) (fun _ _ _ => (0, fun _ => 0, fun _ => 0)) (fun _ K => dfX12_movesRow_sX12_movesRowR24_2 mi fm_kept frw K) z
noncomputable def fX12_movesRow_sX12_movesRowR24 (mi : Nat → Int32) (fm_kept : Nat → Int32) (frw : Nat → Int32) : Int32 × (Nat → Int32) × (Nat → Int32) := (lfX12_movesRow_sX12_movesRowR24 mi fm_kept frw 1000000000) (0 : Int32) (mi 23) frw
set_option maxHeartbeats 4000000 in
set_option maxRecDepth 100000 in
theorem lp_sX12_movesRowR24 {p : Program} {l : Launch} {e : Env} {R : Room} {s : State} {m : MethodId} {args : Array Value} {below : List Frame} {meth : Method} {c : Code} {Q : State → Prop} {A : Nat → Prop} {cells slots : Nat} {dC : Nat → ClassId} {dI : Nat → Nat → Nat} {RES : Int32 × (Nat → Int32) × (Nat → Int32)} (h0 : Nat) (rw : Nat) (mi : Nat → Int32) (mr : Nat → Nat) (km_kept : ClassId) (fm_kept : Nat → Int32) (krw : ClassId) (frw : Nat → Int32) (gmi_0 : gi (mi 0) 0 100000) (gmi_1 : gi (mi 1) 0 100000) (gmi_2 : gi (mi 2) 0 100000) (gmi_4 : gi (mi 4) 0 1) (gmi_7 : gi (mi 7) 0 6) (gmi_10 : gi (mi 10) 0 24) (gmi_17 : gi (mi 17) 0 8) (gmi_23 : gi (mi 23) 0 300) (gmi_24 : gi (mi 24) 0 1) (gmi_26 : gi (mi 26) 0 1600) (gmi_29 : gi (mi 29) 0 1600) (gmi_30 : gi (mi 30) 0 1600) (gmi_32 : gi (mi 32) 0 100000) (gmi_33 : gi (mi 33) 0 1) (gmi_37 : gi (mi 37) 0 1) (gmi_41 : gi (mi 41) 0 24) (gmi_50 : gi (mi 50) 0 1) (gmi_51 : gi (mi 51) 0 1) (gmi_56 : gi (mi 56) 0 80) (hpq0 : (mi 24).toInt = 0) (hpq1 : (mi 23).toInt ≤ 276) (hx : p.tables.exec = Jvm.exec) (hb : c.code = cX12_movesRow) (hml : c.maxLocals = 3) (hown : s.vm.findClass RX12 = some m.cls) (hts : ∀ w ∈ ((.code yX12_movesRow cX12_movesRow 3 none :: wsGB) : List Cond), w.before args s = true) (hK : va_K (dC, dI) vwCl [(km_kept, .int), (krw, .int)] s) (hA : ∀ q : Nat, s.heap.size ≤ q → A q) (hRf : 1 ≤ R.frames) (hRl : 22 ≤ R.locals) (hRc : cells ≤ R.cells) (hRs : slots ≤ R.slots) (kr24 : ∀ (w0_23 : Int32) (z1 : Nat → Int32) (z2 : Nat → Int32) (H : Heap) (locs : List Loc) (ls : Array Slot), gi w0_23 0 300 → w0_23.toInt = (mi 23).toInt + 24 → z1 = fm_kept → (∀ j : Nat, (j : Int) < 24 → z2 j = fm_kept ((mi 23).toNatClampNeg + j)) → (w0_23, z1, z2) = RES → va_P (dC, dI) vwCl [(h0, .inr (12, fsMM (upd mi 23 w0_23) mr)), ((mr 12), .inl (km_kept, 300, .inl z1)), (rw, .inl (krw, 24, .inl z2))] H → va_D A [(h0, .inr (12, fsMM (upd mi 23 w0_23) mr)), ((mr 12), .inl (km_kept, 300, .inl z1)), (rw, .inl (krw, 24, .inl z2))] → va_S A s.heap H locs → lv_has ls 3 [] → W p l e R s m args below meth c H locs cells slots Q (F0 m 24 ls [])) : ∀ z : Nat, (∀ (v2 : Int32) (w0_23 : Int32) (z2 : Nat → Int32) (H : Heap) (locs : List Loc) (ls : Array Slot), gi v2 0 24 → gi w0_23 0 300 → w0_23.toInt = (mi 23).toInt + v2.toInt → fm_kept = fm_kept → (∀ j : Nat, (j : Int) < v2.toInt → z2 j = fm_kept ((mi 23).toNatClampNeg + j)) → (lfX12_movesRow_sX12_movesRowR24 mi fm_kept frw z) v2 w0_23 z2 = RES → 49 + (-2) * v2.toInt < (z : Int) → va_P (dC, dI) vwCl [(h0, .inr (12, fsMM (upd mi 23 w0_23) mr)), ((mr 12), .inl (km_kept, 300, .inl fm_kept)), (rw, .inl (krw, 24, .inl z2))] H → va_D A [(h0, .inr (12, fsMM (upd mi 23 w0_23) mr)), ((mr 12), .inl (km_kept, 300, .inl fm_kept)), (rw, .inl (krw, 24, .inl z2))] → va_S A s.heap H locs → lv_has ls 3 [(0, .ref h0), (1, .ref rw), (2, .int v2)] → W p l e R s m args below meth c H locs cells slots Q (F0 m 2 ls [])) := by
  intro z
  induction z with
  | zero =>
    intro v2 w0_23 z2 H locs ls gv2 gw0_23 hinv0 hinv1 hinv2 hF hmu hP hD hS hl
    exact absurd hmu (by have hv21 := gv2.1; have hv22 := gv2.2; omega)
  | succ z ih =>
      intro v2 w0_23 z2 H locs ls gv2 gw0_23 hinv0 hinv1 hinv2 hF hmu hP hD hS hl
      have hF : dfX12_movesRow_sX12_movesRowR24_2 mi fm_kept frw (lfX12_movesRow_sX12_movesRowR24 mi fm_kept frw z) v2 w0_23 z2 = RES := hF
      have g_154 : gi (mi 23) 0 276 := ⟨gmi_23.1, by omega⟩
      refine lv_iload_n hx hb dX12_movesRow_2 rfl (lv_at hl 2 rfl) ?_
      refine lv_aload_n hx hb dX12_movesRow_3 rfl (lv_at hl 1 rfl) ?_
      refine va_alen (v := 24) hx hb hK hP 2 1 rfl rfl rfl dX12_movesRow_4 ?_
      refine lv_icmp_ge (tgt := 24) hx hb dX12_movesRow_5 (by decide) (fun c_155 => ?_) (fun c_155 => ?_)
      · have hF := gf_pos c_155 hF
        have hc_156 : 24 ≤ v2.toInt := by have h9 := Int32.le_iff_toInt_le.mp c_155; rw [show (24 : Int32).toInt = 24 from by decide] at h9; exact h9
        have g_157 : gi v2 24 24 := gi_le_r c_155 (gi_c 24 24 (by decide)) gv2
        exact kr24 w0_23 fm_kept z2 _ _ _ gw0_23 (show w0_23.toInt = (mi 23).toInt + 24 from by have qgw0_23 := gw0_23.1; have rgw0_23 := gw0_23.2; have qgv2 := g_157.1; have rgv2 := g_157.2; have qgmi_24 := gmi_24.1; have rgmi_24 := gmi_24.2; have qgmi_23 := g_154.1; have rgmi_23 := g_154.2; omega) (show fm_kept = fm_kept from by exact hinv1) (show ∀ j : Nat, (j : Int) < 24 → z2 j = fm_kept ((mi 23).toNatClampNeg + j) from by exact fun j hj => hinv2 j (by have qgw0_23 := gw0_23.1; have rgw0_23 := gw0_23.2; have qgv2 := g_157.1; have rgv2 := g_157.2; have qgmi_24 := gmi_24.1; have rgmi_24 := gmi_24.2; have qgmi_23 := g_154.1; have rgmi_23 := g_154.2; omega)) hF hP hD hS (lv_sub hl [] rfl)
      · have hF := gf_neg c_155 hF
        have hc_158 : v2.toInt < 24 := by have h9 := Int32.lt_iff_toInt_lt.mp (Int32.not_le.mp c_155); rw [show (24 : Int32).toInt = 24 from by decide] at h9; exact h9
        have g_159 : gi v2 0 23 := gi_lt_l (Int32.not_le.mp c_155) gv2 (gi_c 24 24 (by decide)) (by decide)
        refine lv_aload_n hx hb dX12_movesRow_8 rfl (lv_at hl 1 rfl) ?_
        refine lv_iload_n hx hb dX12_movesRow_9 rfl (lv_at hl 2 rfl) ?_
        refine lv_aload_n hx hb dX12_movesRow_10 rfl (lv_at hl 0 rfl) ?_
        refine lv_aload_n hx hb dX12_movesRow_11 rfl (lv_at hl 1 rfl) ?_
        refine lv_iload_n hx hb dX12_movesRow_12 rfl (lv_at hl 2 rfl) ?_
        refine va_iald hx hb hK hP 2 1 rfl rfl (gi_in g_159 (by decide)) dX12_movesRow_13 ?_
        refine lv_topi (fun x_160 ex_160 => ?_)
        have hlx_160 : x_160.toInt = (z2 v2.toNatClampNeg).toInt := congrArg Int32.toInt ex_160
        have hPc := hP.sub (ws' := [(h0, .inr (12, fsMM (upd mi 23 w0_23) mr)), ((mr 12), .inl (km_kept, 300, .inl fm_kept))]) [0, 1] rfl
        have hKc := hK.sub (tys' := [(km_kept, .int)]) [0] rfl
        have hDc := hD.sub (ws' := [(h0, .inr (12, fsMM (upd mi 23 w0_23) mr)), ((mr 12), .inl (km_kept, 300, .inl fm_kept))]) [0, 1] (by decide) rfl
        have hFc := va_free (wc := [(h0, .inr (12, fsMM (upd mi 23 w0_23) mr)), ((mr 12), .inl (km_kept, 300, .inl fm_kept))]) hD hS hA [0, 1] rfl
        refine va_calli (va_runV (As := [.int x_160]) (rest := [.int v2, .ref rw]) ⟨hx, hb, hml, hown, hts⟩ (sX12_movesR l dC dI H.size h0 (upd mi 23 w0_23) mr km_kept fm_kept x_160 gmi_0 gmi_1 gmi_2 gmi_4 gmi_7 gmi_10 gmi_17 gw0_23 gmi_24 gmi_26 gmi_29 gmi_30 gmi_32 gmi_33 gmi_37 gmi_41 gmi_50 gmi_51 gmi_56 (show (mi 24).toInt ≤ 0 from by have qgw0_23 := gw0_23.1; have rgw0_23 := gw0_23.2; have qgv2 := g_159.1; have rgv2 := g_159.2; have qgmi_24 := gmi_24.1; have rgmi_24 := gmi_24.2; have qgmi_23 := g_154.1; have rgmi_23 := g_154.2; omega) (show w0_23.toInt ≤ 299 from by have qgw0_23 := gw0_23.1; have rgw0_23 := gw0_23.2; have qgv2 := g_159.1; have rgv2 := g_159.2; have qgmi_24 := gmi_24.1; have rgmi_24 := gmi_24.2; have qgmi_23 := g_154.1; have rgmi_23 := g_154.2; omega)) (cwV 1 hts (gz_gV mGB_123 mGB_124 mGB_125 mGB_1 mGB_126 goodGB) rfl rfl rfl (by decide +kernel) ⟨Nat.le_trans (Nat.le_of_ble_eq_true rfl) hRf, Nat.le_trans (Nat.le_of_ble_eq_true rfl) hRl⟩) ⟨fun a U g mk q => by obtain ⟨q0, q1, qP, qK, qD⟩ := q; exact ⟨q0, q1, qP, va_K.moved (u := U) (U := U.calling g mk a) (Vm.Alike.refl U.vm) qK, qD⟩, va_recv hKc hPc (ci := 12) (q0 := 0) rfl rfl, fun U hU hW => ⟨rfl, by rw [hU], by rw [hU]; exact hPc, va_K.moved hW.alike hKc, hDc.weaken (fun _ _ _ _ => trivial)⟩⟩ rfl rfl hl.1 rfl (lv_room (Nat.le_of_ble_eq_true rfl)) dX12_movesRow_14 ⟨hRc, hRs⟩) hS (fun q _ h => hFc q h) hFc (fun r_161 u t H1 locs ht hvm hw hB hz1 hk1 hS => ?_)
        obtain ⟨hu_, hw⟩ := hw
        subst hu_
        obtain ⟨y_162, f_163, gy_162, hpr0_r_161, hpr1_r_161, hpr2_r_161, hE, hP1, hD1⟩ := hB
        rw [ht] at hP1
        obtain ⟨hP, hD⟩ := va_join (wr := [(rw, .inl (krw, 24, .inl z2))]) (w1 := [(h0, .inr (12, fsMM (upd mi 23 y_162) mr)), ((mr 12), .inl (km_kept, 300, .inl f_163))]) hP hD [0, 1] [2] rfl rfl (by decide) (by decide) hk1 hFc hP1 hD1
        have hP := hP.sub (ws' := [(h0, .inr (12, fsMM (upd mi 23 y_162) mr)), ((mr 12), .inl (km_kept, 300, .inl f_163)), (rw, .inl (krw, 24, .inl z2))]) [1, 2, 0] rfl
        have hD := hD.sub (ws' := [(h0, .inr (12, fsMM (upd mi 23 y_162) mr)), ((mr 12), .inl (km_kept, 300, .inl f_163)), (rw, .inl (krw, 24, .inl z2))]) [1, 2, 0] (by decide) rfl
        have hpr0_r_161 : y_162.toInt = w0_23.toInt + 1 := hpr0_r_161
        have g_164 : gi y_162 1 301 := ⟨by have u1 := gw0_23.1; omega, by have u2 := gw0_23.2; omega⟩
        have hpr1_r_161 : f_163 = fm_kept := hpr1_r_161
        have hpr1_r_161 := hpr1_r_161.symm
        subst hpr1_r_161
        have hpr2_r_161 : r_161 = fm_kept w0_23.toNatClampNeg := hpr2_r_161
        rw [ex_160] at hE
        have hF := gf_callm (a := (r_161, y_162, fm_kept)) hE hF (by first | with_reducible rfl | simp only [upd_same, upd_app, ↓reduceIte, Nat.reduceEqDiff])
        generalize H1 = H at hP hS ⊢
        refine va_iast hx hb hK hP hD hS 2 1 rfl rfl (gi_in g_159 (by decide)) dX12_movesRow_17 (fun H locs hP hD hS => ?_)
        have hP : va_P (dC, dI) vwCl [(h0, .inr (12, fsMM (upd mi 23 y_162) mr)), ((mr 12), .inl (km_kept, 300, .inl fm_kept)), (rw, .inl (krw, 24, .inl (upd z2 (v2 : Int32).toNatClampNeg r_161)))] H := hP
        have hD : va_D A [(h0, .inr (12, fsMM (upd mi 23 y_162) mr)), ((mr 12), .inl (km_kept, 300, .inl fm_kept)), (rw, .inl (krw, 24, .inl (upd z2 (v2 : Int32).toNatClampNeg r_161)))] := hD
        generalize ef_165 : upd z2 (v2 : Int32).toNatClampNeg r_161 = f_165 at hP hD
        obtain ⟨x_166, ex_166⟩ : ∃ y : Int32, y = v2 + 1 := ⟨_, rfl⟩
        have gx_166 : gi x_166 1 24 := gi_add ex_166 g_159 (gi_c 1 1 (by decide)) (by decide)
        refine lv_iinc (v := x_166) (lv' := [(2, .int x_166), (0, .ref h0), (1, .ref rw)]) hx hb dX12_movesRow_18 hl (k := 2) rfl (by rw [ex_166]; rfl) (by decide) rfl (fun ls hl => ?_)
        refine lv_goto (tgt := 2) hx hb dX12_movesRow_21 (by decide) ?_
        exact ih x_166 y_162 f_165 _ _ _ (gi_w gx_166 (by decide)) (show gi y_162 0 300 from ⟨by have qgy_162 := g_164.1; have rgy_162 := g_164.2; have qgw0_23 := gw0_23.1; have rgw0_23 := gw0_23.2; have qgv2 := g_159.1; have rgv2 := g_159.2; have qgmi_24 := gmi_24.1; have rgmi_24 := gmi_24.2; have qgmi_23 := g_154.1; have rgmi_23 := g_154.2; omega, by have qgy_162 := g_164.1; have rgy_162 := g_164.2; have qgw0_23 := gw0_23.1; have rgw0_23 := gw0_23.2; have qgv2 := g_159.1; have rgv2 := g_159.2; have qgmi_24 := gmi_24.1; have rgmi_24 := gmi_24.2; have qgmi_23 := g_154.1; have rgmi_23 := g_154.2; omega⟩) (show y_162.toInt = (mi 23).toInt + x_166.toInt from by have qgy_162 := g_164.1; have rgy_162 := g_164.2; have qgx_166 := gx_166.1; have rgx_166 := gx_166.2; have igx_166 : x_166.toInt = v2.toInt + 1 := (by have hc1 : (1 : Int32).toInt = 1 := (by decide); have h9 := gi_addI ex_166 (by have h1 := g_159.1; have h2 := (gi_c 1 1 (by decide)).1; have h3 := g_159.2; have h4 := (gi_c 1 1 (by decide)).2; omega) (by have h1 := g_159.1; have h2 := (gi_c 1 1 (by decide)).1; have h3 := g_159.2; have h4 := (gi_c 1 1 (by decide)).2; omega); rw [hc1] at h9; exact h9); have qgv2 := g_159.1; have rgv2 := g_159.2; have qgw0_23 := gw0_23.1; have rgw0_23 := gw0_23.2; have qgmi_24 := gmi_24.1; have rgmi_24 := gmi_24.2; have qgmi_23 := g_154.1; have rgmi_23 := g_154.2; omega) (show fm_kept = fm_kept from by exact hinv1) (show ∀ j : Nat, (j : Int) < x_166.toInt → f_165 j = fm_kept ((mi 23).toNatClampNeg + j) from by exact mv_r hinv2 (by have qgy_162 := g_164.1; have rgy_162 := g_164.2; have qgw0_23 := gw0_23.1; have rgw0_23 := gw0_23.2; have qgv2 := g_159.1; have rgv2 := g_159.2; have qgmi_24 := gmi_24.1; have rgmi_24 := gmi_24.2; have qgmi_23 := g_154.1; have rgmi_23 := g_154.2; omega) (by have qgy_162 := g_164.1; have rgy_162 := g_164.2; have qgw0_23 := gw0_23.1; have rgw0_23 := gw0_23.2; have qgv2 := g_159.1; have rgv2 := g_159.2; have qgmi_24 := gmi_24.1; have rgmi_24 := gmi_24.2; have qgmi_23 := g_154.1; have rgmi_23 := g_154.2; omega) (by have qgy_162 := g_164.1; have rgy_162 := g_164.2; have qgw0_23 := gw0_23.1; have rgw0_23 := gw0_23.2; have qgv2 := g_159.1; have rgv2 := g_159.2; have qgmi_24 := gmi_24.1; have rgmi_24 := gmi_24.2; have qgmi_23 := g_154.1; have rgmi_23 := g_154.2; omega) (hpr2_r_161.trans (congrFun hinv1 _)) ef_165 (by have qgy_162 := g_164.1; have rgy_162 := g_164.2; have qgx_166 := gx_166.1; have rgx_166 := gx_166.2; have igx_166 : x_166.toInt = v2.toInt + 1 := (by have hc1 : (1 : Int32).toInt = 1 := (by decide); have h9 := gi_addI ex_166 (by have h1 := g_159.1; have h2 := (gi_c 1 1 (by decide)).1; have h3 := g_159.2; have h4 := (gi_c 1 1 (by decide)).2; omega) (by have h1 := g_159.1; have h2 := (gi_c 1 1 (by decide)).1; have h3 := g_159.2; have h4 := (gi_c 1 1 (by decide)).2; omega); rw [hc1] at h9; exact h9); have qgv2 := g_159.1; have rgv2 := g_159.2; have qgw0_23 := gw0_23.1; have rgw0_23 := gw0_23.2; have qgmi_24 := gmi_24.1; have rgmi_24 := gmi_24.2; have qgmi_23 := g_154.1; have rgmi_23 := g_154.2; omega)) (by rw [ex_166, ← ef_165]; exact hF) (by have av2 := gv2.1; have bv2 := gv2.2; have qgx_166 := gx_166.1; have rgx_166 := gx_166.2; have igx_166 : x_166.toInt = v2.toInt + 1 := (by have hc1 : (1 : Int32).toInt = 1 := (by decide); have h9 := gi_addI ex_166 (by have h1 := g_159.1; have h2 := (gi_c 1 1 (by decide)).1; have h3 := g_159.2; have h4 := (gi_c 1 1 (by decide)).2; omega) (by have h1 := g_159.1; have h2 := (gi_c 1 1 (by decide)).1; have h3 := g_159.2; have h4 := (gi_c 1 1 (by decide)).2; omega); rw [hc1] at h9; exact h9); have qgv2 := g_159.1; have rgv2 := g_159.2; omega) hP hD hS (lv_sub hl [1, 2, 0] rfl)
set_option maxHeartbeats 4000000 in
set_option maxRecDepth 100000 in
theorem sX12_movesRowR24 (l : Launch) (dC : Nat → ClassId) (dI : Nat → Nat → Nat) (sz : Nat) (h0 : Nat) (rw : Nat) (mi : Nat → Int32) (mr : Nat → Nat) (km_kept : ClassId) (fm_kept : Nat → Int32) (krw : ClassId) (frw : Nat → Int32) (gmi_0 : gi (mi 0) 0 100000) (gmi_1 : gi (mi 1) 0 100000) (gmi_2 : gi (mi 2) 0 100000) (gmi_4 : gi (mi 4) 0 1) (gmi_7 : gi (mi 7) 0 6) (gmi_10 : gi (mi 10) 0 24) (gmi_17 : gi (mi 17) 0 8) (gmi_23 : gi (mi 23) 0 300) (gmi_24 : gi (mi 24) 0 1) (gmi_26 : gi (mi 26) 0 1600) (gmi_29 : gi (mi 29) 0 1600) (gmi_30 : gi (mi 30) 0 1600) (gmi_32 : gi (mi 32) 0 100000) (gmi_33 : gi (mi 33) 0 1) (gmi_37 : gi (mi 37) 0 1) (gmi_41 : gi (mi 41) 0 24) (gmi_50 : gi (mi 50) 0 1) (gmi_51 : gi (mi 51) 0 1) (gmi_56 : gi (mi 56) 0 80) (hpq0 : (mi 24).toInt = 0) (hpq1 : (mi 23).toInt ≤ 276) : Met l yX12_movesRow (.code yX12_movesRow cX12_movesRow 3 none :: wsGB) ({ frames := 1, cells := 0, slots := 0, locals := 22 }) (va_Pc [.ref h0, .ref rw] (fun U => U.heap.size = sz ∧ va_P (dC, dI) vwCl [(h0, .inr (12, fsMM mi mr)), ((mr 12), .inl (km_kept, 300, .inl fm_kept)), (rw, .inl (krw, 24, .inl frw))] U.heap ∧ va_K (dC, dI) vwCl [(km_kept, .int), (krw, .int)] U ∧ va_D (fun _ => True) [(h0, .inr (12, fsMM mi mr)), ((mr 12), .inl (km_kept, 300, .inl fm_kept)), (rw, .inl (krw, 24, .inl frw))])) (va_Qv (fun (u : Unit) => True) (fun _ t => ∃ (w0_23 : Int32) (z1 : Nat → Int32) (z2 : Nat → Int32), gi w0_23 0 300 ∧ w0_23.toInt = (mi 23).toInt + 24 ∧ z1 = fm_kept ∧ (∀ j : Nat, (j : Int) < 24 → z2 j = fm_kept ((mi 23).toNatClampNeg + j)) ∧ (w0_23, z1, z2) = fX12_movesRow_sX12_movesRowR24 mi fm_kept frw ∧ va_P (dC, dI) vwCl [(h0, .inr (12, fsMM (upd mi 23 w0_23) mr)), ((mr 12), .inl (km_kept, 300, .inl z1)), (rw, .inl (krw, 24, .inl z2))] t.heap ∧ va_D (va_A [(h0, .inr (12, fsMM mi mr)), ((mr 12), .inl (km_kept, 300, .inl fm_kept)), (rw, .inl (krw, 24, .inl frw))] sz) [(h0, .inr (12, fsMM (upd mi 23 w0_23) mr)), ((mr 12), .inl (km_kept, 300, .inl z1)), (rw, .inl (krw, 24, .inl z2))]) (va_A [(h0, .inr (12, fsMM mi mr)), ((mr 12), .inl (km_kept, 300, .inl fm_kept)), (rw, .inl (krw, 24, .inl frw))] sz)) 0 0 (va_A [(h0, .inr (12, fsMM mi mr)), ((mr 12), .inl (km_kept, 300, .inl fm_kept)), (rw, .inl (krw, 24, .inl frw))] sz) := by
  refine Met.ofW (cc := cX12_movesRow) (maxL := 3) (ret := none) (by decide) rfl ?_
  intro p e s m args below meth c s₁ B hml hv
  obtain ⟨rfl, hsz, hP, hK, hD0⟩ := hv
  have hx := B.exec
  have hb := B.bytes
  have hr := B.returns
  have hts := atoms_spec (ws := (.code yX12_movesRow cX12_movesRow 3 none :: wsGB)) B.pre
  have hown : s.vm.findClass RX12 = some m.cls := findClass_of_methodNamed B.named
  have hlocks := B.notSynchronized
  subst hsz
  have hD := hD0.self (sz := s.heap.size)
  generalize hAe : va_A [(h0, .inr (12, fsMM mi mr)), ((mr 12), .inl (km_kept, 300, .inl fm_kept)), (rw, .inl (krw, 24, .inl frw))] s.heap.size = A at hD ⊢
  have hA : ∀ q : Nat, s.heap.size ≤ q → A q := fun q h => by rw [← hAe]; exact Or.inr h
  have hS : va_S A s.heap s.heap [] := va_S.rf
  have hl := lv_entry ([.ref h0, .ref rw]) (n := 3) (Nat.le_of_ble_eq_true rfl)
  rw [lg_entry_eq]
  generalize (lg_sl ([.ref h0, .ref rw]) ++ List.replicate (3 - (lg_sl ([.ref h0, .ref rw])).length) Slot.unset).toArray = ls at hl ⊢
  have hl : lv_has ls 3 [(0, .ref h0), (1, .ref rw)] := hl
  obtain ⟨RES, hF⟩ : ∃ R9, fX12_movesRow_sX12_movesRowR24 mi fm_kept frw = R9 := ⟨_, rfl⟩
  have hR9 := hF
  have g_167 : gi (mi 23) 0 276 := ⟨gmi_23.1, by omega⟩
  refine lv_iconst (v := 0) hx hb dX12_movesRow_0 (by decide) ?_
  refine lv_istore_n (lv' := [(2, .int 0), (0, .ref h0), (1, .ref rw)]) hx hb dX12_movesRow_1 rfl hl (by decide) rfl (fun ls hl => ?_)
  refine (lp_sX12_movesRowR24 h0 rw mi mr km_kept fm_kept krw frw gmi_0 gmi_1 gmi_2 gmi_4 gmi_7 gmi_10 gmi_17 gmi_23 gmi_24 gmi_26 gmi_29 gmi_30 gmi_32 gmi_33 gmi_37 gmi_41 gmi_50 gmi_51 gmi_56 hpq0 hpq1 hx hb hml hown hts hK hA (Nat.le_of_ble_eq_true rfl) (Nat.le_of_ble_eq_true rfl) (Nat.zero_le _) (Nat.zero_le _) (fun w0_23 z1 z2 H locs ls gw0_23 hpr0 hpr1 hpr2 hF hP hD hS hl => ?_) 1000000000) 0 (mi 23) frw _ _ _ (gi_w (gi_c 0 0 (by decide)) (by decide)) (gi_w g_167 (by decide)) (show (mi 23).toInt = (mi 23).toInt + (0 : Int32).toInt from by have k0 : (0 : Int32).toInt = 0 := (by decide); have qgmi_24 := gmi_24.1; have rgmi_24 := gmi_24.2; have qgmi_23 := g_167.1; have rgmi_23 := g_167.2; omega) (show fm_kept = fm_kept from by rfl) (show ∀ j : Nat, (j : Int) < (0 : Int) → frw j = fm_kept ((mi 23).toNatClampNeg + j) from by exact fun j hj => absurd hj (by have h0 : (0 : Int32).toInt = 0 := (by decide); omega)) hF (by have k0 : (0 : Int32).toInt = 0 := (by decide); omega) hP hD hS (lv_sub hl [1, 2, 0] rfl)
  · skip
    exact W.vret hx hb hr (fun t ht hW => ⟨⟨(), rfl, trivial, w0_23, z1, z2, gw0_23, hpr0, hpr1, hpr2, hF.trans hR9.symm, by rw [ht]; exact hP, hD⟩, hS.F ht⟩) hS.2.2 dX12_movesRow_24
noncomputable def dfX12_movesRow_sX12_movesRowK8_2 (mi : Nat → Int32) (fm_kept : Nat → Int32) (frw : Nat → Int32) (K : (Int32 → Int32 → (Nat → Int32) → (Nat → Int32) → (Int32 × (Nat → Int32) × (Nat → Int32)))) (v2 : Int32) (w0_23 : Int32) (z1 : Nat → Int32) (z2 : Nat → Int32) : Int32 × (Nat → Int32) × (Nat → Int32) := if (8 : Int32) ≤ v2 then (w0_23, z1, z2) else (cal (fun o1 => K (v2 + (1 : Int32)) o1.2.1 o1.2.2 (upd z2 v2.toNatClampNeg o1.1)) (fX12_moves (upd mi 23 w0_23) z1 (z2 v2.toNatClampNeg)))
noncomputable def lfX12_movesRow_sX12_movesRowK8 (mi : Nat → Int32) (fm_kept : Nat → Int32) (frw : Nat → Int32) (z : Nat) : (Int32 → Int32 → (Nat → Int32) → (Nat → Int32) → (Int32 × (Nat → Int32) × (Nat → Int32))) := Nat.rec (motive := fun _ => (Int32 → Int32 → (Nat → Int32) → (Nat → Int32) → (Int32 × (Nat → Int32) × (Nat → Int32)))) (fun _ _ _ _ => (0, fun _ => 0, fun _ => 0)) (fun _ K => dfX12_movesRow_sX12_movesRowK8_2 mi fm_kept frw K) z
noncomputable def fX12_movesRow_sX12_movesRowK8 (mi : Nat → Int32) (fm_kept : Nat → Int32) (frw : Nat → Int32) : Int32 × (Nat → Int32) × (Nat → Int32) := (lfX12_movesRow_sX12_movesRowK8 mi fm_kept frw 1000000000) (0 : Int32) (mi 23) fm_kept frw
set_option maxHeartbeats 4000000 in
set_option maxRecDepth 100000 in
theorem lp_sX12_movesRowK8 {p : Program} {l : Launch} {e : Env} {R : Room} {s : State} {m : MethodId} {args : Array Value} {below : List Frame} {meth : Method} {c : Code} {Q : State → Prop} {A : Nat → Prop} {cells slots : Nat} {dC : Nat → ClassId} {dI : Nat → Nat → Nat} {RES : Int32 × (Nat → Int32) × (Nat → Int32)} (h0 : Nat) (rw : Nat) (mi : Nat → Int32) (mr : Nat → Nat) (km_kept : ClassId) (fm_kept : Nat → Int32) (krw : ClassId) (frw : Nat → Int32) (gmi_0 : gi (mi 0) 0 100000) (gmi_1 : gi (mi 1) 0 100000) (gmi_2 : gi (mi 2) 0 100000) (gmi_4 : gi (mi 4) 0 1) (gmi_7 : gi (mi 7) 0 6) (gmi_10 : gi (mi 10) 0 24) (gmi_17 : gi (mi 17) 0 8) (gmi_23 : gi (mi 23) 0 300) (gmi_24 : gi (mi 24) 0 1) (gmi_26 : gi (mi 26) 0 1600) (gmi_29 : gi (mi 29) 0 1600) (gmi_30 : gi (mi 30) 0 1600) (gmi_32 : gi (mi 32) 0 100000) (gmi_33 : gi (mi 33) 0 1) (gmi_37 : gi (mi 37) 0 1) (gmi_41 : gi (mi 41) 0 24) (gmi_50 : gi (mi 50) 0 1) (gmi_51 : gi (mi 51) 0 1) (gmi_56 : gi (mi 56) 0 80) (hpq0 : (mi 24).toInt = 1) (hpq1 : (mi 23).toInt ≤ 292) (hx : p.tables.exec = Jvm.exec) (hb : c.code = cX12_movesRow) (hml : c.maxLocals = 3) (hown : s.vm.findClass RX12 = some m.cls) (hts : ∀ w ∈ ((.code yX12_movesRow cX12_movesRow 3 none :: wsGB) : List Cond), w.before args s = true) (hK : va_K (dC, dI) vwCl [(km_kept, .int), (krw, .int)] s) (hA : ∀ q : Nat, s.heap.size ≤ q → A q) (hRf : 1 ≤ R.frames) (hRl : 22 ≤ R.locals) (hRc : cells ≤ R.cells) (hRs : slots ≤ R.slots) (kr24 : ∀ (w0_23 : Int32) (z1 : Nat → Int32) (z2 : Nat → Int32) (H : Heap) (locs : List Loc) (ls : Array Slot), gi w0_23 0 300 → w0_23.toInt = (mi 23).toInt + 8 → z2 = frw → (∀ j : Nat, (j : Int) < 8 → z1 ((mi 23).toNatClampNeg + j) = frw j) → (∀ j : Nat, j < (mi 23).toNatClampNeg → z1 j = fm_kept j) → (w0_23, z1, z2) = RES → va_P (dC, dI) vwCl [(h0, .inr (12, fsMM (upd mi 23 w0_23) mr)), ((mr 12), .inl (km_kept, 300, .inl z1)), (rw, .inl (krw, 8, .inl z2))] H → va_D A [(h0, .inr (12, fsMM (upd mi 23 w0_23) mr)), ((mr 12), .inl (km_kept, 300, .inl z1)), (rw, .inl (krw, 8, .inl z2))] → va_S A s.heap H locs → lv_has ls 3 [] → W p l e R s m args below meth c H locs cells slots Q (F0 m 24 ls [])) : ∀ z : Nat, (∀ (v2 : Int32) (w0_23 : Int32) (z1 : Nat → Int32) (z2 : Nat → Int32) (H : Heap) (locs : List Loc) (ls : Array Slot), gi v2 0 8 → gi w0_23 0 300 → w0_23.toInt = (mi 23).toInt + v2.toInt → z2 = frw → (∀ j : Nat, (j : Int) < v2.toInt → z1 ((mi 23).toNatClampNeg + j) = frw j) → (∀ j : Nat, j < (mi 23).toNatClampNeg → z1 j = fm_kept j) → (lfX12_movesRow_sX12_movesRowK8 mi fm_kept frw z) v2 w0_23 z1 z2 = RES → 17 + (-2) * v2.toInt < (z : Int) → va_P (dC, dI) vwCl [(h0, .inr (12, fsMM (upd mi 23 w0_23) mr)), ((mr 12), .inl (km_kept, 300, .inl z1)), (rw, .inl (krw, 8, .inl z2))] H → va_D A [(h0, .inr (12, fsMM (upd mi 23 w0_23) mr)), ((mr 12), .inl (km_kept, 300, .inl z1)), (rw, .inl (krw, 8, .inl z2))] → va_S A s.heap H locs → lv_has ls 3 [(0, .ref h0), (1, .ref rw), (2, .int v2)] → W p l e R s m args below meth c H locs cells slots Q (F0 m 2 ls [])) := by
  intro z
  induction z with
  | zero =>
    intro v2 w0_23 z1 z2 H locs ls gv2 gw0_23 hinv0 hinv1 hinv2 hinv3 hF hmu hP hD hS hl
    exact absurd hmu (by have hv21 := gv2.1; have hv22 := gv2.2; omega)
  | succ z ih =>
      intro v2 w0_23 z1 z2 H locs ls gv2 gw0_23 hinv0 hinv1 hinv2 hinv3 hF hmu hP hD hS hl
      have hF : dfX12_movesRow_sX12_movesRowK8_2 mi fm_kept frw (lfX12_movesRow_sX12_movesRowK8 mi fm_kept frw z) v2 w0_23 z1 z2 = RES := hF
      have g_84 : gi (mi 23) 0 292 := ⟨gmi_23.1, by omega⟩
      refine lv_iload_n hx hb dX12_movesRow_2 rfl (lv_at hl 2 rfl) ?_
      refine lv_aload_n hx hb dX12_movesRow_3 rfl (lv_at hl 1 rfl) ?_
      refine va_alen (v := 8) hx hb hK hP 2 1 rfl rfl rfl dX12_movesRow_4 ?_
      refine lv_icmp_ge (tgt := 24) hx hb dX12_movesRow_5 (by decide) (fun c_85 => ?_) (fun c_85 => ?_)
      · have hF := gf_pos c_85 hF
        have hc_86 : 8 ≤ v2.toInt := by have h9 := Int32.le_iff_toInt_le.mp c_85; rw [show (8 : Int32).toInt = 8 from by decide] at h9; exact h9
        have g_87 : gi v2 8 8 := gi_le_r c_85 (gi_c 8 8 (by decide)) gv2
        exact kr24 w0_23 z1 z2 _ _ _ gw0_23 (show w0_23.toInt = (mi 23).toInt + 8 from by have qgw0_23 := gw0_23.1; have rgw0_23 := gw0_23.2; have qgv2 := g_87.1; have rgv2 := g_87.2; have qgmi_24 := gmi_24.1; have rgmi_24 := gmi_24.2; have qgmi_23 := g_84.1; have rgmi_23 := g_84.2; omega) (show z2 = frw from by exact hinv1) (show ∀ j : Nat, (j : Int) < 8 → z1 ((mi 23).toNatClampNeg + j) = frw j from by exact fun j hj => hinv2 j (by have qgw0_23 := gw0_23.1; have rgw0_23 := gw0_23.2; have qgv2 := g_87.1; have rgv2 := g_87.2; have qgmi_24 := gmi_24.1; have rgmi_24 := gmi_24.2; have qgmi_23 := g_84.1; have rgmi_23 := g_84.2; omega)) (show ∀ j : Nat, j < (mi 23).toNatClampNeg → z1 j = fm_kept j from by exact hinv3) hF hP hD hS (lv_sub hl [] rfl)
      · have hF := gf_neg c_85 hF
        have hc_88 : v2.toInt < 8 := by have h9 := Int32.lt_iff_toInt_lt.mp (Int32.not_le.mp c_85); rw [show (8 : Int32).toInt = 8 from by decide] at h9; exact h9
        have g_89 : gi v2 0 7 := gi_lt_l (Int32.not_le.mp c_85) gv2 (gi_c 8 8 (by decide)) (by decide)
        refine lv_aload_n hx hb dX12_movesRow_8 rfl (lv_at hl 1 rfl) ?_
        refine lv_iload_n hx hb dX12_movesRow_9 rfl (lv_at hl 2 rfl) ?_
        refine lv_aload_n hx hb dX12_movesRow_10 rfl (lv_at hl 0 rfl) ?_
        refine lv_aload_n hx hb dX12_movesRow_11 rfl (lv_at hl 1 rfl) ?_
        refine lv_iload_n hx hb dX12_movesRow_12 rfl (lv_at hl 2 rfl) ?_
        refine va_iald hx hb hK hP 2 1 rfl rfl (gi_in g_89 (by decide)) dX12_movesRow_13 ?_
        refine lv_topi (fun x_90 ex_90 => ?_)
        have hlx_90 : x_90.toInt = (z2 v2.toNatClampNeg).toInt := congrArg Int32.toInt ex_90
        have hPc := hP.sub (ws' := [(h0, .inr (12, fsMM (upd mi 23 w0_23) mr)), ((mr 12), .inl (km_kept, 300, .inl z1))]) [0, 1] rfl
        have hKc := hK.sub (tys' := [(km_kept, .int)]) [0] rfl
        have hDc := hD.sub (ws' := [(h0, .inr (12, fsMM (upd mi 23 w0_23) mr)), ((mr 12), .inl (km_kept, 300, .inl z1))]) [0, 1] (by decide) rfl
        have hFc := va_free (wc := [(h0, .inr (12, fsMM (upd mi 23 w0_23) mr)), ((mr 12), .inl (km_kept, 300, .inl z1))]) hD hS hA [0, 1] rfl
        refine va_calli (va_runV (As := [.int x_90]) (rest := [.int v2, .ref rw]) ⟨hx, hb, hml, hown, hts⟩ (sX12_movesK l dC dI H.size h0 (upd mi 23 w0_23) mr km_kept z1 x_90 gmi_0 gmi_1 gmi_2 gmi_4 gmi_7 gmi_10 gmi_17 gw0_23 gmi_24 gmi_26 gmi_29 gmi_30 gmi_32 gmi_33 gmi_37 gmi_41 gmi_50 gmi_51 gmi_56 (show 1 ≤ (mi 24).toInt from by have qgw0_23 := gw0_23.1; have rgw0_23 := gw0_23.2; have qgv2 := g_89.1; have rgv2 := g_89.2; have qgmi_24 := gmi_24.1; have rgmi_24 := gmi_24.2; have qgmi_23 := g_84.1; have rgmi_23 := g_84.2; omega) (show w0_23.toInt ≤ 299 from by have qgw0_23 := gw0_23.1; have rgw0_23 := gw0_23.2; have qgv2 := g_89.1; have rgv2 := g_89.2; have qgmi_24 := gmi_24.1; have rgmi_24 := gmi_24.2; have qgmi_23 := g_84.1; have rgmi_23 := g_84.2; omega)) (cwV 1 hts (gz_gV mGB_123 mGB_124 mGB_125 mGB_1 mGB_126 goodGB) rfl rfl rfl (by decide +kernel) ⟨Nat.le_trans (Nat.le_of_ble_eq_true rfl) hRf, Nat.le_trans (Nat.le_of_ble_eq_true rfl) hRl⟩) ⟨fun a U g mk q => by obtain ⟨q0, q1, qP, qK, qD⟩ := q; exact ⟨q0, q1, qP, va_K.moved (u := U) (U := U.calling g mk a) (Vm.Alike.refl U.vm) qK, qD⟩, va_recv hKc hPc (ci := 12) (q0 := 0) rfl rfl, fun U hU hW => ⟨rfl, by rw [hU], by rw [hU]; exact hPc, va_K.moved hW.alike hKc, hDc.weaken (fun _ _ _ _ => trivial)⟩⟩ rfl rfl hl.1 rfl (lv_room (Nat.le_of_ble_eq_true rfl)) dX12_movesRow_14 ⟨hRc, hRs⟩) hS (fun q _ h => hFc q h) hFc (fun r_91 u t H1 locs ht hvm hw hB hz1 hk1 hS => ?_)
        obtain ⟨hu_, hw⟩ := hw
        subst hu_
        obtain ⟨y_92, f_93, gy_92, hpr0_r_91, hpr1_r_91, hpr2_r_91, hE, hP1, hD1⟩ := hB
        rw [ht] at hP1
        obtain ⟨hP, hD⟩ := va_join (wr := [(rw, .inl (krw, 8, .inl z2))]) (w1 := [(h0, .inr (12, fsMM (upd mi 23 y_92) mr)), ((mr 12), .inl (km_kept, 300, .inl f_93))]) hP hD [0, 1] [2] rfl rfl (by decide) (by decide) hk1 hFc hP1 hD1
        have hP := hP.sub (ws' := [(h0, .inr (12, fsMM (upd mi 23 y_92) mr)), ((mr 12), .inl (km_kept, 300, .inl f_93)), (rw, .inl (krw, 8, .inl z2))]) [1, 2, 0] rfl
        have hD := hD.sub (ws' := [(h0, .inr (12, fsMM (upd mi 23 y_92) mr)), ((mr 12), .inl (km_kept, 300, .inl f_93)), (rw, .inl (krw, 8, .inl z2))]) [1, 2, 0] (by decide) rfl
        have hpr0_r_91 : y_92.toInt = w0_23.toInt + 1 := hpr0_r_91
        have g_94 : gi y_92 1 301 := ⟨by have u1 := gw0_23.1; omega, by have u2 := gw0_23.2; omega⟩
        have hpr1_r_91 : f_93 = upd z1 w0_23.toNatClampNeg x_90 := hpr1_r_91
        have hpr2_r_91 : r_91 = x_90 := hpr2_r_91
        rw [ex_90] at hE
        have hF := gf_callm (a := (r_91, y_92, f_93)) hE hF (by first | with_reducible rfl | simp only [upd_same, upd_app, ↓reduceIte, Nat.reduceEqDiff])
        generalize H1 = H at hP hS ⊢
        refine va_iast hx hb hK hP hD hS 2 1 rfl rfl (gi_in g_89 (by decide)) dX12_movesRow_17 (fun H locs hP hD hS => ?_)
        have hP : va_P (dC, dI) vwCl [(h0, .inr (12, fsMM (upd mi 23 y_92) mr)), ((mr 12), .inl (km_kept, 300, .inl f_93)), (rw, .inl (krw, 8, .inl (upd z2 (v2 : Int32).toNatClampNeg r_91)))] H := hP
        have hD : va_D A [(h0, .inr (12, fsMM (upd mi 23 y_92) mr)), ((mr 12), .inl (km_kept, 300, .inl f_93)), (rw, .inl (krw, 8, .inl (upd z2 (v2 : Int32).toNatClampNeg r_91)))] := hD
        generalize ef_95 : upd z2 (v2 : Int32).toNatClampNeg r_91 = f_95 at hP hD
        obtain ⟨x_96, ex_96⟩ : ∃ y : Int32, y = v2 + 1 := ⟨_, rfl⟩
        have gx_96 : gi x_96 1 8 := gi_add ex_96 g_89 (gi_c 1 1 (by decide)) (by decide)
        refine lv_iinc (v := x_96) (lv' := [(2, .int x_96), (0, .ref h0), (1, .ref rw)]) hx hb dX12_movesRow_18 hl (k := 2) rfl (by rw [ex_96]; rfl) (by decide) rfl (fun ls hl => ?_)
        refine lv_goto (tgt := 2) hx hb dX12_movesRow_21 (by decide) ?_
        exact ih x_96 y_92 f_93 f_95 _ _ _ (gi_w gx_96 (by decide)) (show gi y_92 0 300 from ⟨by have qgy_92 := g_94.1; have rgy_92 := g_94.2; have qgw0_23 := gw0_23.1; have rgw0_23 := gw0_23.2; have qgv2 := g_89.1; have rgv2 := g_89.2; have qgmi_24 := gmi_24.1; have rgmi_24 := gmi_24.2; have qgmi_23 := g_84.1; have rgmi_23 := g_84.2; omega, by have qgy_92 := g_94.1; have rgy_92 := g_94.2; have qgw0_23 := gw0_23.1; have rgw0_23 := gw0_23.2; have qgv2 := g_89.1; have rgv2 := g_89.2; have qgmi_24 := gmi_24.1; have rgmi_24 := gmi_24.2; have qgmi_23 := g_84.1; have rgmi_23 := g_84.2; omega⟩) (show y_92.toInt = (mi 23).toInt + x_96.toInt from by have qgy_92 := g_94.1; have rgy_92 := g_94.2; have qgx_96 := gx_96.1; have rgx_96 := gx_96.2; have igx_96 : x_96.toInt = v2.toInt + 1 := (by have hc1 : (1 : Int32).toInt = 1 := (by decide); have h9 := gi_addI ex_96 (by have h1 := g_89.1; have h2 := (gi_c 1 1 (by decide)).1; have h3 := g_89.2; have h4 := (gi_c 1 1 (by decide)).2; omega) (by have h1 := g_89.1; have h2 := (gi_c 1 1 (by decide)).1; have h3 := g_89.2; have h4 := (gi_c 1 1 (by decide)).2; omega); rw [hc1] at h9; exact h9); have qgv2 := g_89.1; have rgv2 := g_89.2; have qgw0_23 := gw0_23.1; have rgw0_23 := gw0_23.2; have qgmi_24 := gmi_24.1; have rgmi_24 := gmi_24.2; have qgmi_23 := g_84.1; have rgmi_23 := g_84.2; omega) (show f_95 = frw from by rw [← ef_95, hpr2_r_91, ex_90, upd_self]; exact hinv1) (show ∀ j : Nat, (j : Int) < x_96.toInt → f_93 ((mi 23).toNatClampNeg + j) = frw j from by exact mv_k hinv2 (by have qgy_92 := g_94.1; have rgy_92 := g_94.2; have qgw0_23 := gw0_23.1; have rgw0_23 := gw0_23.2; have qgv2 := g_89.1; have rgv2 := g_89.2; have qgmi_24 := gmi_24.1; have rgmi_24 := gmi_24.2; have qgmi_23 := g_84.1; have rgmi_23 := g_84.2; omega) (by have qgy_92 := g_94.1; have rgy_92 := g_94.2; have qgw0_23 := gw0_23.1; have rgw0_23 := gw0_23.2; have qgv2 := g_89.1; have rgv2 := g_89.2; have qgmi_24 := gmi_24.1; have rgmi_24 := gmi_24.2; have qgmi_23 := g_84.1; have rgmi_23 := g_84.2; omega) (by have qgy_92 := g_94.1; have rgy_92 := g_94.2; have qgw0_23 := gw0_23.1; have rgw0_23 := gw0_23.2; have qgv2 := g_89.1; have rgv2 := g_89.2; have qgmi_24 := gmi_24.1; have rgmi_24 := gmi_24.2; have qgmi_23 := g_84.1; have rgmi_23 := g_84.2; omega) (ex_90.trans (congrFun hinv1 _)) hpr1_r_91 (by have qgy_92 := g_94.1; have rgy_92 := g_94.2; have qgx_96 := gx_96.1; have rgx_96 := gx_96.2; have igx_96 : x_96.toInt = v2.toInt + 1 := (by have hc1 : (1 : Int32).toInt = 1 := (by decide); have h9 := gi_addI ex_96 (by have h1 := g_89.1; have h2 := (gi_c 1 1 (by decide)).1; have h3 := g_89.2; have h4 := (gi_c 1 1 (by decide)).2; omega) (by have h1 := g_89.1; have h2 := (gi_c 1 1 (by decide)).1; have h3 := g_89.2; have h4 := (gi_c 1 1 (by decide)).2; omega); rw [hc1] at h9; exact h9); have qgv2 := g_89.1; have rgv2 := g_89.2; have qgw0_23 := gw0_23.1; have rgw0_23 := gw0_23.2; have qgmi_24 := gmi_24.1; have rgmi_24 := gmi_24.2; have qgmi_23 := g_84.1; have rgmi_23 := g_84.2; omega)) (show ∀ j : Nat, j < (mi 23).toNatClampNeg → f_93 j = fm_kept j from by exact mv_f (k := v2) (a := w0_23) hinv3 (by have qgy_92 := g_94.1; have rgy_92 := g_94.2; have qgw0_23 := gw0_23.1; have rgw0_23 := gw0_23.2; have qgv2 := g_89.1; have rgv2 := g_89.2; have qgmi_24 := gmi_24.1; have rgmi_24 := gmi_24.2; have qgmi_23 := g_84.1; have rgmi_23 := g_84.2; omega) (by have qgy_92 := g_94.1; have rgy_92 := g_94.2; have qgw0_23 := gw0_23.1; have rgw0_23 := gw0_23.2; have qgv2 := g_89.1; have rgv2 := g_89.2; have qgmi_24 := gmi_24.1; have rgmi_24 := gmi_24.2; have qgmi_23 := g_84.1; have rgmi_23 := g_84.2; omega) (by have qgy_92 := g_94.1; have rgy_92 := g_94.2; have qgw0_23 := gw0_23.1; have rgw0_23 := gw0_23.2; have qgv2 := g_89.1; have rgv2 := g_89.2; have qgmi_24 := gmi_24.1; have rgmi_24 := gmi_24.2; have qgmi_23 := g_84.1; have rgmi_23 := g_84.2; omega) hpr1_r_91) (by rw [ex_96, ← ef_95]; exact hF) (by have av2 := gv2.1; have bv2 := gv2.2; have qgx_96 := gx_96.1; have rgx_96 := gx_96.2; have igx_96 : x_96.toInt = v2.toInt + 1 := (by have hc1 : (1 : Int32).toInt = 1 := (by decide); have h9 := gi_addI ex_96 (by have h1 := g_89.1; have h2 := (gi_c 1 1 (by decide)).1; have h3 := g_89.2; have h4 := (gi_c 1 1 (by decide)).2; omega) (by have h1 := g_89.1; have h2 := (gi_c 1 1 (by decide)).1; have h3 := g_89.2; have h4 := (gi_c 1 1 (by decide)).2; omega); rw [hc1] at h9; exact h9); have qgv2 := g_89.1; have rgv2 := g_89.2; omega) hP hD hS (lv_sub hl [1, 2, 0] rfl)
set_option maxHeartbeats 4000000 in
set_option maxRecDepth 100000 in
theorem sX12_movesRowK8 (l : Launch) (dC : Nat → ClassId) (dI : Nat → Nat → Nat) (sz : Nat) (h0 : Nat) (rw : Nat) (mi : Nat → Int32) (mr : Nat → Nat) (km_kept : ClassId) (fm_kept : Nat → Int32) (krw : ClassId) (frw : Nat → Int32) (gmi_0 : gi (mi 0) 0 100000) (gmi_1 : gi (mi 1) 0 100000) (gmi_2 : gi (mi 2) 0 100000) (gmi_4 : gi (mi 4) 0 1) (gmi_7 : gi (mi 7) 0 6) (gmi_10 : gi (mi 10) 0 24) (gmi_17 : gi (mi 17) 0 8) (gmi_23 : gi (mi 23) 0 300) (gmi_24 : gi (mi 24) 0 1) (gmi_26 : gi (mi 26) 0 1600) (gmi_29 : gi (mi 29) 0 1600) (gmi_30 : gi (mi 30) 0 1600) (gmi_32 : gi (mi 32) 0 100000) (gmi_33 : gi (mi 33) 0 1) (gmi_37 : gi (mi 37) 0 1) (gmi_41 : gi (mi 41) 0 24) (gmi_50 : gi (mi 50) 0 1) (gmi_51 : gi (mi 51) 0 1) (gmi_56 : gi (mi 56) 0 80) (hpq0 : (mi 24).toInt = 1) (hpq1 : (mi 23).toInt ≤ 292) : Met l yX12_movesRow (.code yX12_movesRow cX12_movesRow 3 none :: wsGB) ({ frames := 1, cells := 0, slots := 0, locals := 22 }) (va_Pc [.ref h0, .ref rw] (fun U => U.heap.size = sz ∧ va_P (dC, dI) vwCl [(h0, .inr (12, fsMM mi mr)), ((mr 12), .inl (km_kept, 300, .inl fm_kept)), (rw, .inl (krw, 8, .inl frw))] U.heap ∧ va_K (dC, dI) vwCl [(km_kept, .int), (krw, .int)] U ∧ va_D (fun _ => True) [(h0, .inr (12, fsMM mi mr)), ((mr 12), .inl (km_kept, 300, .inl fm_kept)), (rw, .inl (krw, 8, .inl frw))])) (va_Qv (fun (u : Unit) => True) (fun _ t => ∃ (w0_23 : Int32) (z1 : Nat → Int32) (z2 : Nat → Int32), gi w0_23 0 300 ∧ w0_23.toInt = (mi 23).toInt + 8 ∧ z2 = frw ∧ (∀ j : Nat, (j : Int) < 8 → z1 ((mi 23).toNatClampNeg + j) = frw j) ∧ (∀ j : Nat, j < (mi 23).toNatClampNeg → z1 j = fm_kept j) ∧ (w0_23, z1, z2) = fX12_movesRow_sX12_movesRowK8 mi fm_kept frw ∧ va_P (dC, dI) vwCl [(h0, .inr (12, fsMM (upd mi 23 w0_23) mr)), ((mr 12), .inl (km_kept, 300, .inl z1)), (rw, .inl (krw, 8, .inl z2))] t.heap ∧ va_D (va_A [(h0, .inr (12, fsMM mi mr)), ((mr 12), .inl (km_kept, 300, .inl fm_kept)), (rw, .inl (krw, 8, .inl frw))] sz) [(h0, .inr (12, fsMM (upd mi 23 w0_23) mr)), ((mr 12), .inl (km_kept, 300, .inl z1)), (rw, .inl (krw, 8, .inl z2))]) (va_A [(h0, .inr (12, fsMM mi mr)), ((mr 12), .inl (km_kept, 300, .inl fm_kept)), (rw, .inl (krw, 8, .inl frw))] sz)) 0 0 (va_A [(h0, .inr (12, fsMM mi mr)), ((mr 12), .inl (km_kept, 300, .inl fm_kept)), (rw, .inl (krw, 8, .inl frw))] sz) := by
  refine Met.ofW (cc := cX12_movesRow) (maxL := 3) (ret := none) (by decide) rfl ?_
  intro p e s m args below meth c s₁ B hml hv
  obtain ⟨rfl, hsz, hP, hK, hD0⟩ := hv
  have hx := B.exec
  have hb := B.bytes
  have hr := B.returns
  have hts := atoms_spec (ws := (.code yX12_movesRow cX12_movesRow 3 none :: wsGB)) B.pre
  have hown : s.vm.findClass RX12 = some m.cls := findClass_of_methodNamed B.named
  have hlocks := B.notSynchronized
  subst hsz
  have hD := hD0.self (sz := s.heap.size)
  generalize hAe : va_A [(h0, .inr (12, fsMM mi mr)), ((mr 12), .inl (km_kept, 300, .inl fm_kept)), (rw, .inl (krw, 8, .inl frw))] s.heap.size = A at hD ⊢
  have hA : ∀ q : Nat, s.heap.size ≤ q → A q := fun q h => by rw [← hAe]; exact Or.inr h
  have hS : va_S A s.heap s.heap [] := va_S.rf
  have hl := lv_entry ([.ref h0, .ref rw]) (n := 3) (Nat.le_of_ble_eq_true rfl)
  rw [lg_entry_eq]
  generalize (lg_sl ([.ref h0, .ref rw]) ++ List.replicate (3 - (lg_sl ([.ref h0, .ref rw])).length) Slot.unset).toArray = ls at hl ⊢
  have hl : lv_has ls 3 [(0, .ref h0), (1, .ref rw)] := hl
  obtain ⟨RES, hF⟩ : ∃ R9, fX12_movesRow_sX12_movesRowK8 mi fm_kept frw = R9 := ⟨_, rfl⟩
  have hR9 := hF
  have g_97 : gi (mi 23) 0 292 := ⟨gmi_23.1, by omega⟩
  refine lv_iconst (v := 0) hx hb dX12_movesRow_0 (by decide) ?_
  refine lv_istore_n (lv' := [(2, .int 0), (0, .ref h0), (1, .ref rw)]) hx hb dX12_movesRow_1 rfl hl (by decide) rfl (fun ls hl => ?_)
  refine (lp_sX12_movesRowK8 h0 rw mi mr km_kept fm_kept krw frw gmi_0 gmi_1 gmi_2 gmi_4 gmi_7 gmi_10 gmi_17 gmi_23 gmi_24 gmi_26 gmi_29 gmi_30 gmi_32 gmi_33 gmi_37 gmi_41 gmi_50 gmi_51 gmi_56 hpq0 hpq1 hx hb hml hown hts hK hA (Nat.le_of_ble_eq_true rfl) (Nat.le_of_ble_eq_true rfl) (Nat.zero_le _) (Nat.zero_le _) (fun w0_23 z1 z2 H locs ls gw0_23 hpr0 hpr1 hpr2 hpr3 hF hP hD hS hl => ?_) 1000000000) 0 (mi 23) fm_kept frw _ _ _ (gi_w (gi_c 0 0 (by decide)) (by decide)) (gi_w g_97 (by decide)) (show (mi 23).toInt = (mi 23).toInt + (0 : Int32).toInt from by have k0 : (0 : Int32).toInt = 0 := (by decide); have qgmi_24 := gmi_24.1; have rgmi_24 := gmi_24.2; have qgmi_23 := g_97.1; have rgmi_23 := g_97.2; omega) (show frw = frw from by rfl) (show ∀ j : Nat, (j : Int) < (0 : Int) → fm_kept ((mi 23).toNatClampNeg + j) = frw j from by exact fun j hj => absurd hj (by have h0 : (0 : Int32).toInt = 0 := (by decide); omega)) (show ∀ j : Nat, j < (mi 23).toNatClampNeg → fm_kept j = fm_kept j from by exact fun j hj => rfl) hF (by have k0 : (0 : Int32).toInt = 0 := (by decide); omega) hP hD hS (lv_sub hl [1, 2, 0] rfl)
  · skip
    exact W.vret hx hb hr (fun t ht hW => ⟨⟨(), rfl, trivial, w0_23, z1, z2, gw0_23, hpr0, hpr1, hpr2, hpr3, hF.trans hR9.symm, by rw [ht]; exact hP, hD⟩, hS.F ht⟩) hS.2.2 dX12_movesRow_24
noncomputable def dfX12_movesRow_sX12_movesRowR8_2 (mi : Nat → Int32) (fm_kept : Nat → Int32) (frw : Nat → Int32) (K : (Int32 → Int32 → (Nat → Int32) → (Int32 × (Nat → Int32) × (Nat → Int32)))) (v2 : Int32) (w0_23 : Int32) (z2 : Nat → Int32) : Int32 × (Nat → Int32) × (Nat → Int32) := if (8 : Int32) ≤ v2 then (w0_23, fm_kept, z2) else (cal (fun o1 => K (v2 + (1 : Int32)) o1.2.1 (upd z2 v2.toNatClampNeg o1.1)) (fX12_moves (upd mi 23 w0_23) fm_kept (z2 v2.toNatClampNeg)))
noncomputable def lfX12_movesRow_sX12_movesRowR8 (mi : Nat → Int32) (fm_kept : Nat → Int32) (frw : Nat → Int32) (z : Nat) : (Int32 → Int32 → (Nat → Int32) → (Int32 × (Nat → Int32) × (Nat → Int32))) := Nat.rec (motive := fun _ => (Int32 → Int32 → (Nat → Int32) → (Int32 × (Nat → Int32) × (Nat → Int32)))) (fun _ _ _ => (0, fun _ => 0, fun _ => 0)) (fun _ K => dfX12_movesRow_sX12_movesRowR8_2 mi fm_kept frw K) z
noncomputable def fX12_movesRow_sX12_movesRowR8 (mi : Nat → Int32) (fm_kept : Nat → Int32) (frw : Nat → Int32) : Int32 × (Nat → Int32) × (Nat → Int32) := (lfX12_movesRow_sX12_movesRowR8 mi fm_kept frw 1000000000) (0 : Int32) (mi 23) frw
set_option maxHeartbeats 4000000 in
set_option maxRecDepth 100000 in
theorem lp_sX12_movesRowR8 {p : Program} {l : Launch} {e : Env} {R : Room} {s : State} {m : MethodId} {args : Array Value} {below : List Frame} {meth : Method} {c : Code} {Q : State → Prop} {A : Nat → Prop} {cells slots : Nat} {dC : Nat → ClassId} {dI : Nat → Nat → Nat} {RES : Int32 × (Nat → Int32) × (Nat → Int32)} (h0 : Nat) (rw : Nat) (mi : Nat → Int32) (mr : Nat → Nat) (km_kept : ClassId) (fm_kept : Nat → Int32) (krw : ClassId) (frw : Nat → Int32) (gmi_0 : gi (mi 0) 0 100000) (gmi_1 : gi (mi 1) 0 100000) (gmi_2 : gi (mi 2) 0 100000) (gmi_4 : gi (mi 4) 0 1) (gmi_7 : gi (mi 7) 0 6) (gmi_10 : gi (mi 10) 0 24) (gmi_17 : gi (mi 17) 0 8) (gmi_23 : gi (mi 23) 0 300) (gmi_24 : gi (mi 24) 0 1) (gmi_26 : gi (mi 26) 0 1600) (gmi_29 : gi (mi 29) 0 1600) (gmi_30 : gi (mi 30) 0 1600) (gmi_32 : gi (mi 32) 0 100000) (gmi_33 : gi (mi 33) 0 1) (gmi_37 : gi (mi 37) 0 1) (gmi_41 : gi (mi 41) 0 24) (gmi_50 : gi (mi 50) 0 1) (gmi_51 : gi (mi 51) 0 1) (gmi_56 : gi (mi 56) 0 80) (hpq0 : (mi 24).toInt = 0) (hpq1 : (mi 23).toInt ≤ 292) (hx : p.tables.exec = Jvm.exec) (hb : c.code = cX12_movesRow) (hml : c.maxLocals = 3) (hown : s.vm.findClass RX12 = some m.cls) (hts : ∀ w ∈ ((.code yX12_movesRow cX12_movesRow 3 none :: wsGB) : List Cond), w.before args s = true) (hK : va_K (dC, dI) vwCl [(km_kept, .int), (krw, .int)] s) (hA : ∀ q : Nat, s.heap.size ≤ q → A q) (hRf : 1 ≤ R.frames) (hRl : 22 ≤ R.locals) (hRc : cells ≤ R.cells) (hRs : slots ≤ R.slots) (kr24 : ∀ (w0_23 : Int32) (z1 : Nat → Int32) (z2 : Nat → Int32) (H : Heap) (locs : List Loc) (ls : Array Slot), gi w0_23 0 300 → w0_23.toInt = (mi 23).toInt + 8 → z1 = fm_kept → (∀ j : Nat, (j : Int) < 8 → z2 j = fm_kept ((mi 23).toNatClampNeg + j)) → (w0_23, z1, z2) = RES → va_P (dC, dI) vwCl [(h0, .inr (12, fsMM (upd mi 23 w0_23) mr)), ((mr 12), .inl (km_kept, 300, .inl z1)), (rw, .inl (krw, 8, .inl z2))] H → va_D A [(h0, .inr (12, fsMM (upd mi 23 w0_23) mr)), ((mr 12), .inl (km_kept, 300, .inl z1)), (rw, .inl (krw, 8, .inl z2))] → va_S A s.heap H locs → lv_has ls 3 [] → W p l e R s m args below meth c H locs cells slots Q (F0 m 24 ls [])) : ∀ z : Nat, (∀ (v2 : Int32) (w0_23 : Int32) (z2 : Nat → Int32) (H : Heap) (locs : List Loc) (ls : Array Slot), gi v2 0 8 → gi w0_23 0 300 → w0_23.toInt = (mi 23).toInt + v2.toInt → fm_kept = fm_kept → (∀ j : Nat, (j : Int) < v2.toInt → z2 j = fm_kept ((mi 23).toNatClampNeg + j)) → (lfX12_movesRow_sX12_movesRowR8 mi fm_kept frw z) v2 w0_23 z2 = RES → 17 + (-2) * v2.toInt < (z : Int) → va_P (dC, dI) vwCl [(h0, .inr (12, fsMM (upd mi 23 w0_23) mr)), ((mr 12), .inl (km_kept, 300, .inl fm_kept)), (rw, .inl (krw, 8, .inl z2))] H → va_D A [(h0, .inr (12, fsMM (upd mi 23 w0_23) mr)), ((mr 12), .inl (km_kept, 300, .inl fm_kept)), (rw, .inl (krw, 8, .inl z2))] → va_S A s.heap H locs → lv_has ls 3 [(0, .ref h0), (1, .ref rw), (2, .int v2)] → W p l e R s m args below meth c H locs cells slots Q (F0 m 2 ls [])) := by
  intro z
  induction z with
  | zero =>
    intro v2 w0_23 z2 H locs ls gv2 gw0_23 hinv0 hinv1 hinv2 hF hmu hP hD hS hl
    exact absurd hmu (by have hv21 := gv2.1; have hv22 := gv2.2; omega)
  | succ z ih =>
      intro v2 w0_23 z2 H locs ls gv2 gw0_23 hinv0 hinv1 hinv2 hF hmu hP hD hS hl
      have hF : dfX12_movesRow_sX12_movesRowR8_2 mi fm_kept frw (lfX12_movesRow_sX12_movesRowR8 mi fm_kept frw z) v2 w0_23 z2 = RES := hF
      have g_84 : gi (mi 23) 0 292 := ⟨gmi_23.1, by omega⟩
      refine lv_iload_n hx hb dX12_movesRow_2 rfl (lv_at hl 2 rfl) ?_
      refine lv_aload_n hx hb dX12_movesRow_3 rfl (lv_at hl 1 rfl) ?_
      refine va_alen (v := 8) hx hb hK hP 2 1 rfl rfl rfl dX12_movesRow_4 ?_
      refine lv_icmp_ge (tgt := 24) hx hb dX12_movesRow_5 (by decide) (fun c_85 => ?_) (fun c_85 => ?_)
      · have hF := gf_pos c_85 hF
        have hc_86 : 8 ≤ v2.toInt := by have h9 := Int32.le_iff_toInt_le.mp c_85; rw [show (8 : Int32).toInt = 8 from by decide] at h9; exact h9
        have g_87 : gi v2 8 8 := gi_le_r c_85 (gi_c 8 8 (by decide)) gv2
        exact kr24 w0_23 fm_kept z2 _ _ _ gw0_23 (show w0_23.toInt = (mi 23).toInt + 8 from by have qgw0_23 := gw0_23.1; have rgw0_23 := gw0_23.2; have qgv2 := g_87.1; have rgv2 := g_87.2; have qgmi_24 := gmi_24.1; have rgmi_24 := gmi_24.2; have qgmi_23 := g_84.1; have rgmi_23 := g_84.2; omega) (show fm_kept = fm_kept from by exact hinv1) (show ∀ j : Nat, (j : Int) < 8 → z2 j = fm_kept ((mi 23).toNatClampNeg + j) from by exact fun j hj => hinv2 j (by have qgw0_23 := gw0_23.1; have rgw0_23 := gw0_23.2; have qgv2 := g_87.1; have rgv2 := g_87.2; have qgmi_24 := gmi_24.1; have rgmi_24 := gmi_24.2; have qgmi_23 := g_84.1; have rgmi_23 := g_84.2; omega)) hF hP hD hS (lv_sub hl [] rfl)
      · have hF := gf_neg c_85 hF
        have hc_88 : v2.toInt < 8 := by have h9 := Int32.lt_iff_toInt_lt.mp (Int32.not_le.mp c_85); rw [show (8 : Int32).toInt = 8 from by decide] at h9; exact h9
        have g_89 : gi v2 0 7 := gi_lt_l (Int32.not_le.mp c_85) gv2 (gi_c 8 8 (by decide)) (by decide)
        refine lv_aload_n hx hb dX12_movesRow_8 rfl (lv_at hl 1 rfl) ?_
        refine lv_iload_n hx hb dX12_movesRow_9 rfl (lv_at hl 2 rfl) ?_
        refine lv_aload_n hx hb dX12_movesRow_10 rfl (lv_at hl 0 rfl) ?_
        refine lv_aload_n hx hb dX12_movesRow_11 rfl (lv_at hl 1 rfl) ?_
        refine lv_iload_n hx hb dX12_movesRow_12 rfl (lv_at hl 2 rfl) ?_
        refine va_iald hx hb hK hP 2 1 rfl rfl (gi_in g_89 (by decide)) dX12_movesRow_13 ?_
        refine lv_topi (fun x_90 ex_90 => ?_)
        have hlx_90 : x_90.toInt = (z2 v2.toNatClampNeg).toInt := congrArg Int32.toInt ex_90
        have hPc := hP.sub (ws' := [(h0, .inr (12, fsMM (upd mi 23 w0_23) mr)), ((mr 12), .inl (km_kept, 300, .inl fm_kept))]) [0, 1] rfl
        have hKc := hK.sub (tys' := [(km_kept, .int)]) [0] rfl
        have hDc := hD.sub (ws' := [(h0, .inr (12, fsMM (upd mi 23 w0_23) mr)), ((mr 12), .inl (km_kept, 300, .inl fm_kept))]) [0, 1] (by decide) rfl
        have hFc := va_free (wc := [(h0, .inr (12, fsMM (upd mi 23 w0_23) mr)), ((mr 12), .inl (km_kept, 300, .inl fm_kept))]) hD hS hA [0, 1] rfl
        refine va_calli (va_runV (As := [.int x_90]) (rest := [.int v2, .ref rw]) ⟨hx, hb, hml, hown, hts⟩ (sX12_movesR l dC dI H.size h0 (upd mi 23 w0_23) mr km_kept fm_kept x_90 gmi_0 gmi_1 gmi_2 gmi_4 gmi_7 gmi_10 gmi_17 gw0_23 gmi_24 gmi_26 gmi_29 gmi_30 gmi_32 gmi_33 gmi_37 gmi_41 gmi_50 gmi_51 gmi_56 (show (mi 24).toInt ≤ 0 from by have qgw0_23 := gw0_23.1; have rgw0_23 := gw0_23.2; have qgv2 := g_89.1; have rgv2 := g_89.2; have qgmi_24 := gmi_24.1; have rgmi_24 := gmi_24.2; have qgmi_23 := g_84.1; have rgmi_23 := g_84.2; omega) (show w0_23.toInt ≤ 299 from by have qgw0_23 := gw0_23.1; have rgw0_23 := gw0_23.2; have qgv2 := g_89.1; have rgv2 := g_89.2; have qgmi_24 := gmi_24.1; have rgmi_24 := gmi_24.2; have qgmi_23 := g_84.1; have rgmi_23 := g_84.2; omega)) (cwV 1 hts (gz_gV mGB_123 mGB_124 mGB_125 mGB_1 mGB_126 goodGB) rfl rfl rfl (by decide +kernel) ⟨Nat.le_trans (Nat.le_of_ble_eq_true rfl) hRf, Nat.le_trans (Nat.le_of_ble_eq_true rfl) hRl⟩) ⟨fun a U g mk q => by obtain ⟨q0, q1, qP, qK, qD⟩ := q; exact ⟨q0, q1, qP, va_K.moved (u := U) (U := U.calling g mk a) (Vm.Alike.refl U.vm) qK, qD⟩, va_recv hKc hPc (ci := 12) (q0 := 0) rfl rfl, fun U hU hW => ⟨rfl, by rw [hU], by rw [hU]; exact hPc, va_K.moved hW.alike hKc, hDc.weaken (fun _ _ _ _ => trivial)⟩⟩ rfl rfl hl.1 rfl (lv_room (Nat.le_of_ble_eq_true rfl)) dX12_movesRow_14 ⟨hRc, hRs⟩) hS (fun q _ h => hFc q h) hFc (fun r_91 u t H1 locs ht hvm hw hB hz1 hk1 hS => ?_)
        obtain ⟨hu_, hw⟩ := hw
        subst hu_
        obtain ⟨y_92, f_93, gy_92, hpr0_r_91, hpr1_r_91, hpr2_r_91, hE, hP1, hD1⟩ := hB
        rw [ht] at hP1
        obtain ⟨hP, hD⟩ := va_join (wr := [(rw, .inl (krw, 8, .inl z2))]) (w1 := [(h0, .inr (12, fsMM (upd mi 23 y_92) mr)), ((mr 12), .inl (km_kept, 300, .inl f_93))]) hP hD [0, 1] [2] rfl rfl (by decide) (by decide) hk1 hFc hP1 hD1
        have hP := hP.sub (ws' := [(h0, .inr (12, fsMM (upd mi 23 y_92) mr)), ((mr 12), .inl (km_kept, 300, .inl f_93)), (rw, .inl (krw, 8, .inl z2))]) [1, 2, 0] rfl
        have hD := hD.sub (ws' := [(h0, .inr (12, fsMM (upd mi 23 y_92) mr)), ((mr 12), .inl (km_kept, 300, .inl f_93)), (rw, .inl (krw, 8, .inl z2))]) [1, 2, 0] (by decide) rfl
        have hpr0_r_91 : y_92.toInt = w0_23.toInt + 1 := hpr0_r_91
        have g_94 : gi y_92 1 301 := ⟨by have u1 := gw0_23.1; omega, by have u2 := gw0_23.2; omega⟩
        have hpr1_r_91 : f_93 = fm_kept := hpr1_r_91
        have hpr1_r_91 := hpr1_r_91.symm
        subst hpr1_r_91
        have hpr2_r_91 : r_91 = fm_kept w0_23.toNatClampNeg := hpr2_r_91
        rw [ex_90] at hE
        have hF := gf_callm (a := (r_91, y_92, fm_kept)) hE hF (by first | with_reducible rfl | simp only [upd_same, upd_app, ↓reduceIte, Nat.reduceEqDiff])
        generalize H1 = H at hP hS ⊢
        refine va_iast hx hb hK hP hD hS 2 1 rfl rfl (gi_in g_89 (by decide)) dX12_movesRow_17 (fun H locs hP hD hS => ?_)
        have hP : va_P (dC, dI) vwCl [(h0, .inr (12, fsMM (upd mi 23 y_92) mr)), ((mr 12), .inl (km_kept, 300, .inl fm_kept)), (rw, .inl (krw, 8, .inl (upd z2 (v2 : Int32).toNatClampNeg r_91)))] H := hP
        have hD : va_D A [(h0, .inr (12, fsMM (upd mi 23 y_92) mr)), ((mr 12), .inl (km_kept, 300, .inl fm_kept)), (rw, .inl (krw, 8, .inl (upd z2 (v2 : Int32).toNatClampNeg r_91)))] := hD
        generalize ef_95 : upd z2 (v2 : Int32).toNatClampNeg r_91 = f_95 at hP hD
        obtain ⟨x_96, ex_96⟩ : ∃ y : Int32, y = v2 + 1 := ⟨_, rfl⟩
        have gx_96 : gi x_96 1 8 := gi_add ex_96 g_89 (gi_c 1 1 (by decide)) (by decide)
        refine lv_iinc (v := x_96) (lv' := [(2, .int x_96), (0, .ref h0), (1, .ref rw)]) hx hb dX12_movesRow_18 hl (k := 2) rfl (by rw [ex_96]; rfl) (by decide) rfl (fun ls hl => ?_)
        refine lv_goto (tgt := 2) hx hb dX12_movesRow_21 (by decide) ?_
        exact ih x_96 y_92 f_95 _ _ _ (gi_w gx_96 (by decide)) (show gi y_92 0 300 from ⟨by have qgy_92 := g_94.1; have rgy_92 := g_94.2; have qgw0_23 := gw0_23.1; have rgw0_23 := gw0_23.2; have qgv2 := g_89.1; have rgv2 := g_89.2; have qgmi_24 := gmi_24.1; have rgmi_24 := gmi_24.2; have qgmi_23 := g_84.1; have rgmi_23 := g_84.2; omega, by have qgy_92 := g_94.1; have rgy_92 := g_94.2; have qgw0_23 := gw0_23.1; have rgw0_23 := gw0_23.2; have qgv2 := g_89.1; have rgv2 := g_89.2; have qgmi_24 := gmi_24.1; have rgmi_24 := gmi_24.2; have qgmi_23 := g_84.1; have rgmi_23 := g_84.2; omega⟩) (show y_92.toInt = (mi 23).toInt + x_96.toInt from by have qgy_92 := g_94.1; have rgy_92 := g_94.2; have qgx_96 := gx_96.1; have rgx_96 := gx_96.2; have igx_96 : x_96.toInt = v2.toInt + 1 := (by have hc1 : (1 : Int32).toInt = 1 := (by decide); have h9 := gi_addI ex_96 (by have h1 := g_89.1; have h2 := (gi_c 1 1 (by decide)).1; have h3 := g_89.2; have h4 := (gi_c 1 1 (by decide)).2; omega) (by have h1 := g_89.1; have h2 := (gi_c 1 1 (by decide)).1; have h3 := g_89.2; have h4 := (gi_c 1 1 (by decide)).2; omega); rw [hc1] at h9; exact h9); have qgv2 := g_89.1; have rgv2 := g_89.2; have qgw0_23 := gw0_23.1; have rgw0_23 := gw0_23.2; have qgmi_24 := gmi_24.1; have rgmi_24 := gmi_24.2; have qgmi_23 := g_84.1; have rgmi_23 := g_84.2; omega) (show fm_kept = fm_kept from by exact hinv1) (show ∀ j : Nat, (j : Int) < x_96.toInt → f_95 j = fm_kept ((mi 23).toNatClampNeg + j) from by exact mv_r hinv2 (by have qgy_92 := g_94.1; have rgy_92 := g_94.2; have qgw0_23 := gw0_23.1; have rgw0_23 := gw0_23.2; have qgv2 := g_89.1; have rgv2 := g_89.2; have qgmi_24 := gmi_24.1; have rgmi_24 := gmi_24.2; have qgmi_23 := g_84.1; have rgmi_23 := g_84.2; omega) (by have qgy_92 := g_94.1; have rgy_92 := g_94.2; have qgw0_23 := gw0_23.1; have rgw0_23 := gw0_23.2; have qgv2 := g_89.1; have rgv2 := g_89.2; have qgmi_24 := gmi_24.1; have rgmi_24 := gmi_24.2; have qgmi_23 := g_84.1; have rgmi_23 := g_84.2; omega) (by have qgy_92 := g_94.1; have rgy_92 := g_94.2; have qgw0_23 := gw0_23.1; have rgw0_23 := gw0_23.2; have qgv2 := g_89.1; have rgv2 := g_89.2; have qgmi_24 := gmi_24.1; have rgmi_24 := gmi_24.2; have qgmi_23 := g_84.1; have rgmi_23 := g_84.2; omega) (hpr2_r_91.trans (congrFun hinv1 _)) ef_95 (by have qgy_92 := g_94.1; have rgy_92 := g_94.2; have qgx_96 := gx_96.1; have rgx_96 := gx_96.2; have igx_96 : x_96.toInt = v2.toInt + 1 := (by have hc1 : (1 : Int32).toInt = 1 := (by decide); have h9 := gi_addI ex_96 (by have h1 := g_89.1; have h2 := (gi_c 1 1 (by decide)).1; have h3 := g_89.2; have h4 := (gi_c 1 1 (by decide)).2; omega) (by have h1 := g_89.1; have h2 := (gi_c 1 1 (by decide)).1; have h3 := g_89.2; have h4 := (gi_c 1 1 (by decide)).2; omega); rw [hc1] at h9; exact h9); have qgv2 := g_89.1; have rgv2 := g_89.2; have qgw0_23 := gw0_23.1; have rgw0_23 := gw0_23.2; have qgmi_24 := gmi_24.1; have rgmi_24 := gmi_24.2; have qgmi_23 := g_84.1; have rgmi_23 := g_84.2; omega)) (by rw [ex_96, ← ef_95]; exact hF) (by have av2 := gv2.1; have bv2 := gv2.2; have qgx_96 := gx_96.1; have rgx_96 := gx_96.2; have igx_96 : x_96.toInt = v2.toInt + 1 := (by have hc1 : (1 : Int32).toInt = 1 := (by decide); have h9 := gi_addI ex_96 (by have h1 := g_89.1; have h2 := (gi_c 1 1 (by decide)).1; have h3 := g_89.2; have h4 := (gi_c 1 1 (by decide)).2; omega) (by have h1 := g_89.1; have h2 := (gi_c 1 1 (by decide)).1; have h3 := g_89.2; have h4 := (gi_c 1 1 (by decide)).2; omega); rw [hc1] at h9; exact h9); have qgv2 := g_89.1; have rgv2 := g_89.2; omega) hP hD hS (lv_sub hl [1, 2, 0] rfl)
set_option maxHeartbeats 4000000 in
set_option maxRecDepth 100000 in
theorem sX12_movesRowR8 (l : Launch) (dC : Nat → ClassId) (dI : Nat → Nat → Nat) (sz : Nat) (h0 : Nat) (rw : Nat) (mi : Nat → Int32) (mr : Nat → Nat) (km_kept : ClassId) (fm_kept : Nat → Int32) (krw : ClassId) (frw : Nat → Int32) (gmi_0 : gi (mi 0) 0 100000) (gmi_1 : gi (mi 1) 0 100000) (gmi_2 : gi (mi 2) 0 100000) (gmi_4 : gi (mi 4) 0 1) (gmi_7 : gi (mi 7) 0 6) (gmi_10 : gi (mi 10) 0 24) (gmi_17 : gi (mi 17) 0 8) (gmi_23 : gi (mi 23) 0 300) (gmi_24 : gi (mi 24) 0 1) (gmi_26 : gi (mi 26) 0 1600) (gmi_29 : gi (mi 29) 0 1600) (gmi_30 : gi (mi 30) 0 1600) (gmi_32 : gi (mi 32) 0 100000) (gmi_33 : gi (mi 33) 0 1) (gmi_37 : gi (mi 37) 0 1) (gmi_41 : gi (mi 41) 0 24) (gmi_50 : gi (mi 50) 0 1) (gmi_51 : gi (mi 51) 0 1) (gmi_56 : gi (mi 56) 0 80) (hpq0 : (mi 24).toInt = 0) (hpq1 : (mi 23).toInt ≤ 292) : Met l yX12_movesRow (.code yX12_movesRow cX12_movesRow 3 none :: wsGB) ({ frames := 1, cells := 0, slots := 0, locals := 22 }) (va_Pc [.ref h0, .ref rw] (fun U => U.heap.size = sz ∧ va_P (dC, dI) vwCl [(h0, .inr (12, fsMM mi mr)), ((mr 12), .inl (km_kept, 300, .inl fm_kept)), (rw, .inl (krw, 8, .inl frw))] U.heap ∧ va_K (dC, dI) vwCl [(km_kept, .int), (krw, .int)] U ∧ va_D (fun _ => True) [(h0, .inr (12, fsMM mi mr)), ((mr 12), .inl (km_kept, 300, .inl fm_kept)), (rw, .inl (krw, 8, .inl frw))])) (va_Qv (fun (u : Unit) => True) (fun _ t => ∃ (w0_23 : Int32) (z1 : Nat → Int32) (z2 : Nat → Int32), gi w0_23 0 300 ∧ w0_23.toInt = (mi 23).toInt + 8 ∧ z1 = fm_kept ∧ (∀ j : Nat, (j : Int) < 8 → z2 j = fm_kept ((mi 23).toNatClampNeg + j)) ∧ (w0_23, z1, z2) = fX12_movesRow_sX12_movesRowR8 mi fm_kept frw ∧ va_P (dC, dI) vwCl [(h0, .inr (12, fsMM (upd mi 23 w0_23) mr)), ((mr 12), .inl (km_kept, 300, .inl z1)), (rw, .inl (krw, 8, .inl z2))] t.heap ∧ va_D (va_A [(h0, .inr (12, fsMM mi mr)), ((mr 12), .inl (km_kept, 300, .inl fm_kept)), (rw, .inl (krw, 8, .inl frw))] sz) [(h0, .inr (12, fsMM (upd mi 23 w0_23) mr)), ((mr 12), .inl (km_kept, 300, .inl z1)), (rw, .inl (krw, 8, .inl z2))]) (va_A [(h0, .inr (12, fsMM mi mr)), ((mr 12), .inl (km_kept, 300, .inl fm_kept)), (rw, .inl (krw, 8, .inl frw))] sz)) 0 0 (va_A [(h0, .inr (12, fsMM mi mr)), ((mr 12), .inl (km_kept, 300, .inl fm_kept)), (rw, .inl (krw, 8, .inl frw))] sz) := by
  refine Met.ofW (cc := cX12_movesRow) (maxL := 3) (ret := none) (by decide) rfl ?_
  intro p e s m args below meth c s₁ B hml hv
  obtain ⟨rfl, hsz, hP, hK, hD0⟩ := hv
  have hx := B.exec
  have hb := B.bytes
  have hr := B.returns
  have hts := atoms_spec (ws := (.code yX12_movesRow cX12_movesRow 3 none :: wsGB)) B.pre
  have hown : s.vm.findClass RX12 = some m.cls := findClass_of_methodNamed B.named
  have hlocks := B.notSynchronized
  subst hsz
  have hD := hD0.self (sz := s.heap.size)
  generalize hAe : va_A [(h0, .inr (12, fsMM mi mr)), ((mr 12), .inl (km_kept, 300, .inl fm_kept)), (rw, .inl (krw, 8, .inl frw))] s.heap.size = A at hD ⊢
  have hA : ∀ q : Nat, s.heap.size ≤ q → A q := fun q h => by rw [← hAe]; exact Or.inr h
  have hS : va_S A s.heap s.heap [] := va_S.rf
  have hl := lv_entry ([.ref h0, .ref rw]) (n := 3) (Nat.le_of_ble_eq_true rfl)
  rw [lg_entry_eq]
  generalize (lg_sl ([.ref h0, .ref rw]) ++ List.replicate (3 - (lg_sl ([.ref h0, .ref rw])).length) Slot.unset).toArray = ls at hl ⊢
  have hl : lv_has ls 3 [(0, .ref h0), (1, .ref rw)] := hl
  obtain ⟨RES, hF⟩ : ∃ R9, fX12_movesRow_sX12_movesRowR8 mi fm_kept frw = R9 := ⟨_, rfl⟩
  have hR9 := hF
  have g_97 : gi (mi 23) 0 292 := ⟨gmi_23.1, by omega⟩
  refine lv_iconst (v := 0) hx hb dX12_movesRow_0 (by decide) ?_
  refine lv_istore_n (lv' := [(2, .int 0), (0, .ref h0), (1, .ref rw)]) hx hb dX12_movesRow_1 rfl hl (by decide) rfl (fun ls hl => ?_)
  refine (lp_sX12_movesRowR8 h0 rw mi mr km_kept fm_kept krw frw gmi_0 gmi_1 gmi_2 gmi_4 gmi_7 gmi_10 gmi_17 gmi_23 gmi_24 gmi_26 gmi_29 gmi_30 gmi_32 gmi_33 gmi_37 gmi_41 gmi_50 gmi_51 gmi_56 hpq0 hpq1 hx hb hml hown hts hK hA (Nat.le_of_ble_eq_true rfl) (Nat.le_of_ble_eq_true rfl) (Nat.zero_le _) (Nat.zero_le _) (fun w0_23 z1 z2 H locs ls gw0_23 hpr0 hpr1 hpr2 hF hP hD hS hl => ?_) 1000000000) 0 (mi 23) frw _ _ _ (gi_w (gi_c 0 0 (by decide)) (by decide)) (gi_w g_97 (by decide)) (show (mi 23).toInt = (mi 23).toInt + (0 : Int32).toInt from by have k0 : (0 : Int32).toInt = 0 := (by decide); have qgmi_24 := gmi_24.1; have rgmi_24 := gmi_24.2; have qgmi_23 := g_97.1; have rgmi_23 := g_97.2; omega) (show fm_kept = fm_kept from by rfl) (show ∀ j : Nat, (j : Int) < (0 : Int) → frw j = fm_kept ((mi 23).toNatClampNeg + j) from by exact fun j hj => absurd hj (by have h0 : (0 : Int32).toInt = 0 := (by decide); omega)) hF (by have k0 : (0 : Int32).toInt = 0 := (by decide); omega) hP hD hS (lv_sub hl [1, 2, 0] rfl)
  · skip
    exact W.vret hx hb hr (fun t ht hW => ⟨⟨(), rfl, trivial, w0_23, z1, z2, gw0_23, hpr0, hpr1, hpr2, hF.trans hR9.symm, by rw [ht]; exact hP, hD⟩, hS.F ht⟩) hS.2.2 dX12_movesRow_24
