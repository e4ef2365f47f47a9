theorem dX12_moves_0 : decode cX12_moves 0 = .ok (.aload_n 0, 1) := by decide +kernel
theorem dX12_moves_1 : decode cX12_moves 1 = .ok (.getfield 106, 3) := by decide +kernel
theorem dX12_moves_4 : decode cX12_moves 4 = .ok (.ifCond .eq 7, 3) := by decide +kernel
theorem dX12_moves_7 : decode cX12_moves 7 = .ok (.iload_n 1, 1) := by decide +kernel
theorem dX12_moves_8 : decode cX12_moves 8 = .ok (.goto 12, 3) := by decide +kernel
theorem dX12_moves_11 : decode cX12_moves 11 = .ok (.aload_n 0, 1) := by decide +kernel
theorem dX12_moves_12 : decode cX12_moves 12 = .ok (.getfield 47, 3) := by decide +kernel
theorem dX12_moves_15 : decode cX12_moves 15 = .ok (.aload_n 0, 1) := by decide +kernel
theorem dX12_moves_16 : decode cX12_moves 16 = .ok (.getfield 110, 3) := by decide +kernel
theorem dX12_moves_19 : decode cX12_moves 19 = .ok (.iaload, 1) := by decide +kernel
theorem dX12_moves_20 : decode cX12_moves 20 = .ok (.istore_n 2, 1) := by decide +kernel
theorem dX12_moves_21 : decode cX12_moves 21 = .ok (.aload_n 0, 1) := by decide +kernel
theorem dX12_moves_22 : decode cX12_moves 22 = .ok (.getfield 47, 3) := by decide +kernel
theorem dX12_moves_25 : decode cX12_moves 25 = .ok (.aload_n 0, 1) := by decide +kernel
theorem dX12_moves_26 : decode cX12_moves 26 = .ok (.getfield 110, 3) := by decide +kernel
theorem dX12_moves_29 : decode cX12_moves 29 = .ok (.iload_n 2, 1) := by decide +kernel
theorem dX12_moves_30 : decode cX12_moves 30 = .ok (.iastore, 1) := by decide +kernel
theorem dX12_moves_31 : decode cX12_moves 31 = .ok (.aload_n 0, 1) := by decide +kernel
theorem dX12_moves_32 : decode cX12_moves 32 = .ok (.dup, 1) := by decide +kernel
theorem dX12_moves_33 : decode cX12_moves 33 = .ok (.getfield 110, 3) := by decide +kernel
theorem dX12_moves_36 : decode cX12_moves 36 = .ok (.iconst 1, 1) := by decide +kernel
theorem dX12_moves_37 : decode cX12_moves 37 = .ok (.iadd, 1) := by decide +kernel
theorem dX12_moves_38 : decode cX12_moves 38 = .ok (.putfield 110, 3) := by decide +kernel
theorem dX12_moves_41 : decode cX12_moves 41 = .ok (.iload_n 2, 1) := by decide +kernel
theorem dX12_moves_42 : decode cX12_moves 42 = .ok (.ireturn, 1) := by decide +kernel
set_option maxHeartbeats 4000000 in
set_option maxRecDepth 100000 in
theorem sX12_movesK (l : Launch) (dC : Nat → ClassId) (dI : Nat → Nat → Nat) (sz : Nat) (h0 : Nat) (mi : Nat → Int32) (mr : Nat → Nat) (km_kept : ClassId) (fm_kept : Nat → Int32) (p1 : Int32) (gmi_0 : gi (mi 0) 0 100000) (gmi_1 : gi (mi 1) 0 100000) (gmi_2 : gi (mi 2) 0 100000) (gmi_4 : gi (mi 4) 0 1) (gmi_7 : gi (mi 7) 0 6) (gmi_10 : gi (mi 10) 0 24) (gmi_17 : gi (mi 17) 0 8) (gmi_23 : gi (mi 23) 0 300) (gmi_24 : gi (mi 24) 0 1) (gmi_26 : gi (mi 26) 0 1600) (gmi_29 : gi (mi 29) 0 1600) (gmi_30 : gi (mi 30) 0 1600) (gmi_32 : gi (mi 32) 0 100000) (gmi_33 : gi (mi 33) 0 1) (gmi_37 : gi (mi 37) 0 1) (gmi_41 : gi (mi 41) 0 24) (gmi_50 : gi (mi 50) 0 1) (gmi_51 : gi (mi 51) 0 1) (gmi_56 : gi (mi 56) 0 80) (hpq0 : 1 ≤ (mi 24).toInt) (hpq1 : (mi 23).toInt ≤ 299) : Met l yX12_moves (.code yX12_moves cX12_moves 3 (some .int) :: wsGB) ({ frames := 0, cells := 0, slots := 0, locals := 0 }) (va_Pc [.ref h0, .int p1] (fun U => U.heap.size = sz ∧ va_P (dC, dI) vwCl [(h0, .inr (12, fsMM mi mr)), ((mr 12), .inl (km_kept, 300, .inl fm_kept))] U.heap ∧ va_K (dC, dI) vwCl [(km_kept, .int)] U ∧ va_D (fun _ => True) [(h0, .inr (12, fsMM mi mr)), ((mr 12), .inl (km_kept, 300, .inl fm_kept))])) (va_Qi (fun (r : Int32) (u : Int32) => r = u ∧ gi r (-2147483648) 2147483647) (fun r t => ∃ (w0_23 : Int32) (z1 : Nat → Int32), gi w0_23 0 300 ∧ w0_23.toInt = (mi 23).toInt + 1 ∧ z1 = upd fm_kept (mi 23).toNatClampNeg p1 ∧ r = p1 ∧ va_P (dC, dI) vwCl [(h0, .inr (12, fsMM (upd mi 23 w0_23) mr)), ((mr 12), .inl (km_kept, 300, .inl z1))] t.heap ∧ va_D (va_A [(h0, .inr (12, fsMM mi mr)), ((mr 12), .inl (km_kept, 300, .inl fm_kept))] sz) [(h0, .inr (12, fsMM (upd mi 23 w0_23) mr)), ((mr 12), .inl (km_kept, 300, .inl z1))]) (va_A [(h0, .inr (12, fsMM mi mr)), ((mr 12), .inl (km_kept, 300, .inl fm_kept))] sz)) 0 0 (va_A [(h0, .inr (12, fsMM mi mr)), ((mr 12), .inl (km_kept, 300, .inl fm_kept))] sz) := by
  refine Met.ofW (cc := cX12_moves) (maxL := 3) (ret := (some .int)) (by decide) rfl ?_
  intro p e s m args below meth c s₁ B hml hv
  obtain ⟨rfl, hsz, hP, hK, hD0⟩ := hv
  have hx := B.exec
  have hb := B.bytes
  have hr := B.returns
  have hts := atoms_spec (ws := (.code yX12_moves cX12_moves 3 (some .int) :: wsGB)) B.pre
  have hown : s.vm.findClass RX12 = some m.cls := findClass_of_methodNamed B.named
  have hlocks := B.notSynchronized
  subst hsz
  have hD := hD0.self (sz := s.heap.size)
  generalize hAe : va_A [(h0, .inr (12, fsMM mi mr)), ((mr 12), .inl (km_kept, 300, .inl fm_kept))] s.heap.size = A at hD ⊢
  have hA : ∀ q : Nat, s.heap.size ≤ q → A q := fun q h => by rw [← hAe]; exact Or.inr h
  have hS : va_S A s.heap s.heap [] := va_S.rf
  have hl := lv_entry ([.ref h0, .int p1]) (n := 3) (Nat.le_of_ble_eq_true rfl)
  rw [lg_entry_eq]
  generalize (lg_sl ([.ref h0, .int p1]) ++ List.replicate (3 - (lg_sl ([.ref h0, .int p1])).length) Slot.unset).toArray = ls at hl ⊢
  have hl : lv_has ls 3 [(0, .ref h0), (1, .int p1)] := hl
  have g_11 : gi (mi 24) 1 1 := ⟨by omega, gmi_24.2⟩
  have g_12 : gi (mi 23) 0 299 := ⟨gmi_23.1, by omega⟩
  refine lv_aload_n hx hb dX12_moves_0 rfl (lv_at hl 0 rfl) ?_
  refine va_get (D := (dC, dI)) (ci := 12) (v := .int (mi 24)) (C := RX12) (T := TX12) (N := 57) hx hb hts (fun w h => List.mem_cons_of_mem _ (jnGB_X12 w h)) hown hK hP 0 rfl rfl 24 (by decide) (hts _ (List.mem_cons_of_mem _ mGB_121)) (fun _ h9 => h9) rfl dX12_moves_1 ?_
  refine lv_if_eq (tgt := 11) hx hb dX12_moves_4 (by decide) (fun c_13 => absurd c_13 (gi_no_eq g_11 (gi_c 0 0 (by decide)) (by decide))) (fun c_13 => ?_)
  refine lv_iload_n hx hb dX12_moves_7 rfl (lv_at hl 1 rfl) ?_
  refine lv_goto (tgt := 20) hx hb dX12_moves_8 (by decide) ?_
  refine lv_istore_n (lv' := [(2, .int p1), (0, .ref h0), (1, .int p1)]) hx hb dX12_moves_20 rfl hl (by decide) rfl (fun ls hl => ?_)
  refine lv_aload_n hx hb dX12_moves_21 rfl (lv_at hl 1 rfl) ?_
  refine va_get (D := (dC, dI)) (ci := 12) (v := .ref (mr 12)) (C := RX12) (T := TX12) (N := 57) hx hb hts (fun w h => List.mem_cons_of_mem _ (jnGB_X12 w h)) hown hK hP 0 rfl rfl 22 (by decide) (hts _ (List.mem_cons_of_mem _ mGB_23)) (fun _ h9 => h9) rfl dX12_moves_22 ?_
  refine lv_aload_n hx hb dX12_moves_25 rfl (lv_at hl 1 rfl) ?_
  refine va_get (D := (dC, dI)) (ci := 12) (v := .int (mi 23)) (C := RX12) (T := TX12) (N := 57) hx hb hts (fun w h => List.mem_cons_of_mem _ (jnGB_X12 w h)) hown hK hP 0 rfl rfl 23 (by decide) (hts _ (List.mem_cons_of_mem _ mGB_122)) (fun _ h9 => h9) rfl dX12_moves_26 ?_
  refine lv_iload_n hx hb dX12_moves_29 rfl (lv_at hl 0 rfl) ?_
  refine va_iast hx hb hK hP hD hS 1 0 rfl rfl (gi_in g_12 (by decide)) dX12_moves_30 (fun H locs hP hD hS => ?_)
  have hP : va_P (dC, dI) vwCl [(h0, .inr (12, fsMM mi mr)), ((mr 12), .inl (km_kept, 300, .inl (upd fm_kept ((mi 23) : Int32).toNatClampNeg p1)))] H := hP
  have hD : va_D A [(h0, .inr (12, fsMM mi mr)), ((mr 12), .inl (km_kept, 300, .inl (upd fm_kept ((mi 23) : Int32).toNatClampNeg p1)))] := hD
  obtain ⟨f_14, ef_14⟩ : ∃ f9, upd fm_kept ((mi 23) : Int32).toNatClampNeg p1 = f9 := ⟨_, rfl⟩
  rw [ef_14] at hP hD
  refine lv_aload_n hx hb dX12_moves_31 rfl (lv_at hl 1 rfl) ?_
  refine lv_dup hx hb dX12_moves_32 rfl ?_
  refine va_get (D := (dC, dI)) (ci := 12) (v := .int (mi 23)) (C := RX12) (T := TX12) (N := 57) hx hb hts (fun w h => List.mem_cons_of_mem _ (jnGB_X12 w h)) hown hK hP 0 rfl rfl 23 (by decide) (hts _ (List.mem_cons_of_mem _ mGB_122)) (fun _ h9 => h9) rfl dX12_moves_33 ?_
  refine lv_iconst (v := 1) hx hb dX12_moves_36 (by decide) ?_
  refine lv_iadd hx hb dX12_moves_37 ?_
  refine lv_topi (fun x_15 ex_15 => ?_)
  have gx_15 : gi x_15 1 300 := gi_add ex_15 g_12 (gi_c 1 1 (by decide)) (by decide)
  refine va_put (D := (dC, dI)) (ci := 12) (v := .int x_15) (ty := .int) (C := RX12) (T := TX12) (N := 57) hx hb hts (fun w h => List.mem_cons_of_mem _ (jnGB_X12 w h)) tyX12 tyX12_ok nmX12 hown hK hP hD hS 0 rfl rfl 23 (by decide) (hts _ (List.mem_cons_of_mem _ mGB_122)) (fun _ h9 => h9) rfl (by decide +kernel) rfl rfl (Nat.le_of_ble_eq_true rfl) dX12_moves_38 (fun H locs hP hD hS => ?_)
  have hP : va_P (dC, dI) vwCl [(h0, .inr (12, fsMM (upd mi 23 x_15) mr)), ((mr 12), .inl (km_kept, 300, .inl f_14))] H := hP
  have hD : va_D A [(h0, .inr (12, fsMM (upd mi 23 x_15) mr)), ((mr 12), .inl (km_kept, 300, .inl f_14))] := hD
  refine lv_iload_n hx hb dX12_moves_41 rfl (lv_at hl 0 rfl) ?_
  exact W.iret (v := p1) hx hb hr (fun t ht hW => ⟨⟨p1, p1, rfl, ⟨rfl, (gi_any p1)⟩, x_15, f_14, (gi_w gx_15 (by decide)), (show x_15.toInt = (mi 23).toInt + 1 from by have qgx_15 := gx_15.1; have rgx_15 := gx_15.2; have igx_15 : x_15.toInt = (mi 23).toInt + 1 := (by have hc1 : (1 : Int32).toInt = 1 := (by decide); have h9 := gi_addI ex_15 (by have h1 := g_12.1; have h2 := (gi_c 1 1 (by decide)).1; have h3 := g_12.2; have h4 := (gi_c 1 1 (by decide)).2; omega) (by have h1 := g_12.1; have h2 := (gi_c 1 1 (by decide)).1; have h3 := g_12.2; have h4 := (gi_c 1 1 (by decide)).2; omega); rw [hc1] at h9; exact h9); have qgmi_23 := g_12.1; have rgmi_23 := g_12.2; have qgmi_24 := g_11.1; have rgmi_24 := g_11.2; omega), (show f_14 = upd fm_kept (mi 23).toNatClampNeg p1 from by exact ef_14.symm), (show p1 = p1 from by rfl), by rw [ht]; exact hP, hD⟩, hS.F ht⟩) hS.2.2 dX12_moves_42
