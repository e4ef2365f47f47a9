set_option maxHeartbeats 4000000 in
set_option maxRecDepth 100000 in
theorem sX12_movesR (l : Launch) (dC : Nat → ClassId) (dI : Nat → Nat → Nat) (sz : Nat) (h0 : Nat) (mi : Nat → Int32) (mr : Nat → Nat) (km_kept : ClassId) (fm_kept : Nat → Int32) (p1 : Int32) (gmi_0 : gi (mi 0) 0 100000) (gmi_1 : gi (mi 1) 0 100000) (gmi_2 : gi (mi 2) 0 100000) (gmi_4 : gi (mi 4) 0 1) (gmi_7 : gi (mi 7) 0 6) (gmi_10 : gi (mi 10) 0 24) (gmi_17 : gi (mi 17) 0 8) (gmi_23 : gi (mi 23) 0 300) (gmi_24 : gi (mi 24) 0 1) (gmi_26 : gi (mi 26) 0 1600) (gmi_29 : gi (mi 29) 0 1600) (gmi_30 : gi (mi 30) 0 1600) (gmi_32 : gi (mi 32) 0 100000) (gmi_33 : gi (mi 33) 0 1) (gmi_37 : gi (mi 37) 0 1) (gmi_41 : gi (mi 41) 0 24) (gmi_50 : gi (mi 50) 0 1) (gmi_51 : gi (mi 51) 0 1) (gmi_56 : gi (mi 56) 0 80) (hpq0 : (mi 24).toInt ≤ 0) (hpq1 : (mi 23).toInt ≤ 299) : Met l yX12_moves (.code yX12_moves cX12_moves 3 (some .int) :: wsGB) ({ frames := 0, cells := 0, slots := 0, locals := 0 }) (va_Pc [.ref h0, .int p1] (fun U => U.heap.size = sz ∧ va_P (dC, dI) vwCl [(h0, .inr (12, fsMM mi mr)), ((mr 12), .inl (km_kept, 300, .inl fm_kept))] U.heap ∧ va_K (dC, dI) vwCl [(km_kept, .int)] U ∧ va_D (fun _ => True) [(h0, .inr (12, fsMM mi mr)), ((mr 12), .inl (km_kept, 300, .inl fm_kept))])) (va_Qi (fun (r : Int32) (u : Int32) => r = u ∧ gi r (-2147483648) 2147483647) (fun r t => ∃ (w0_23 : Int32) (z1 : Nat → Int32), gi w0_23 0 300 ∧ w0_23.toInt = (mi 23).toInt + 1 ∧ z1 = fm_kept ∧ r = fm_kept (mi 23).toNatClampNeg ∧ va_P (dC, dI) vwCl [(h0, .inr (12, fsMM (upd mi 23 w0_23) mr)), ((mr 12), .inl (km_kept, 300, .inl z1))] t.heap ∧ va_D (va_A [(h0, .inr (12, fsMM mi mr)), ((mr 12), .inl (km_kept, 300, .inl fm_kept))] sz) [(h0, .inr (12, fsMM (upd mi 23 w0_23) mr)), ((mr 12), .inl (km_kept, 300, .inl z1))]) (va_A [(h0, .inr (12, fsMM mi mr)), ((mr 12), .inl (km_kept, 300, .inl fm_kept))] sz)) 0 0 (va_A [(h0, .inr (12, fsMM mi mr)), ((mr 12), .inl (km_kept, 300, .inl fm_kept))] sz) := by
  refine Met.ofW (cc := cX12_moves) (maxL := 3) (ret := (some .int)) (by decide) rfl ?_
  intro p e s m args below meth c s₁ B hml hv
  obtain ⟨rfl, hsz, hP, hK, hD0⟩ := hv
  have hx := B.exec
  have hb := B.bytes
  have hr := B.returns
  have hts := atoms_spec (ws := (.code yX12_moves cX12_moves 3 (some .int) :: wsGB)) B.pre
  have hown : s.vm.findClass RX12 = some m.cls := findClass_of_methodNamed B.named
  have hlocks := B.notSynchronized
  subst hsz
  have hD := hD0.self (sz := s.heap.size)
  generalize hAe : va_A [(h0, .inr (12, fsMM mi mr)), ((mr 12), .inl (km_kept, 300, .inl fm_kept))] s.heap.size = A at hD ⊢
  have hA : ∀ q : Nat, s.heap.size ≤ q → A q := fun q h => by rw [← hAe]; exact Or.inr h
  have hS : va_S A s.heap s.heap [] := va_S.rf
  have hl := lv_entry ([.ref h0, .int p1]) (n := 3) (Nat.le_of_ble_eq_true rfl)
  rw [lg_entry_eq]
  generalize (lg_sl ([.ref h0, .int p1]) ++ List.replicate (3 - (lg_sl ([.ref h0, .int p1])).length) Slot.unset).toArray = ls at hl ⊢
  have hl : lv_has ls 3 [(0, .ref h0), (1, .int p1)] := hl
  have g_13 : gi (mi 24) 0 0 := ⟨gmi_24.1, by omega⟩
  have g_14 : gi (mi 23) 0 299 := ⟨gmi_23.1, by omega⟩
  refine lv_aload_n hx hb dX12_moves_0 rfl (lv_at hl 0 rfl) ?_
  refine va_get (D := (dC, dI)) (ci := 12) (v := .int (mi 24)) (C := RX12) (T := TX12) (N := 57) hx hb hts (fun w h => List.mem_cons_of_mem _ (jnGB_X12 w h)) hown hK hP 0 rfl rfl 24 (by decide) (hts _ (List.mem_cons_of_mem _ mGB_121)) (fun _ h9 => h9) rfl dX12_moves_1 ?_
  refine lv_if_eq (tgt := 11) hx hb dX12_moves_4 (by decide) (fun c_15 => ?_) (fun c_15 => absurd (gi_is_eq g_13 (gi_c 0 0 (by decide))) c_15)
  refine lv_aload_n hx hb dX12_moves_11 rfl (lv_at hl 0 rfl) ?_
  refine va_get (D := (dC, dI)) (ci := 12) (v := .ref (mr 12)) (C := RX12) (T := TX12) (N := 57) hx hb hts (fun w h => List.mem_cons_of_mem _ (jnGB_X12 w h)) hown hK hP 0 rfl rfl 22 (by decide) (hts _ (List.mem_cons_of_mem _ mGB_23)) (fun _ h9 => h9) rfl dX12_moves_12 ?_
  refine lv_aload_n hx hb dX12_moves_15 rfl (lv_at hl 0 rfl) ?_
  refine va_get (D := (dC, dI)) (ci := 12) (v := .int (mi 23)) (C := RX12) (T := TX12) (N := 57) hx hb hts (fun w h => List.mem_cons_of_mem _ (jnGB_X12 w h)) hown hK hP 0 rfl rfl 23 (by decide) (hts _ (List.mem_cons_of_mem _ mGB_122)) (fun _ h9 => h9) rfl dX12_moves_16 ?_
  refine va_iald hx hb hK hP 1 0 rfl rfl (gi_in g_14 (by decide)) dX12_moves_19 ?_
  refine lv_topi (fun x_16 ex_16 => ?_)
  have hlx_16 : x_16.toInt = (fm_kept (mi 23).toNatClampNeg).toInt := congrArg Int32.toInt ex_16
  refine lv_istore_n (lv' := [(2, .int x_16), (0, .ref h0), (1, .int p1)]) hx hb dX12_moves_20 rfl hl (by decide) rfl (fun ls hl => ?_)
  refine lv_aload_n hx hb dX12_moves_21 rfl (lv_at hl 1 rfl) ?_
  refine va_get (D := (dC, dI)) (ci := 12) (v := .ref (mr 12)) (C := RX12) (T := TX12) (N := 57) hx hb hts (fun w h => List.mem_cons_of_mem _ (jnGB_X12 w h)) hown hK hP 0 rfl rfl 22 (by decide) (hts _ (List.mem_cons_of_mem _ mGB_23)) (fun _ h9 => h9) rfl dX12_moves_22 ?_
  refine lv_aload_n hx hb dX12_moves_25 rfl (lv_at hl 1 rfl) ?_
  refine va_get (D := (dC, dI)) (ci := 12) (v := .int (mi 23)) (C := RX12) (T := TX12) (N := 57) hx hb hts (fun w h => List.mem_cons_of_mem _ (jnGB_X12 w h)) hown hK hP 0 rfl rfl 23 (by decide) (hts _ (List.mem_cons_of_mem _ mGB_122)) (fun _ h9 => h9) rfl dX12_moves_26 ?_
  refine lv_iload_n hx hb dX12_moves_29 rfl (lv_at hl 0 rfl) ?_
  refine va_iast hx hb hK hP hD hS 1 0 rfl rfl (gi_in g_14 (by decide)) dX12_moves_30 (fun H locs hP hD hS => ?_)
  have hP : va_P (dC, dI) vwCl [(h0, .inr (12, fsMM mi mr)), ((mr 12), .inl (km_kept, 300, .inl (upd fm_kept ((mi 23) : Int32).toNatClampNeg x_16)))] H := hP
  have hD : va_D A [(h0, .inr (12, fsMM mi mr)), ((mr 12), .inl (km_kept, 300, .inl (upd fm_kept ((mi 23) : Int32).toNatClampNeg x_16)))] := hD
  obtain ⟨f_17, ef_17⟩ : ∃ f9, upd fm_kept ((mi 23) : Int32).toNatClampNeg x_16 = f9 := ⟨_, rfl⟩
  rw [ef_17] at hP hD
  refine lv_aload_n hx hb dX12_moves_31 rfl (lv_at hl 1 rfl) ?_
  refine lv_dup hx hb dX12_moves_32 rfl ?_
  refine va_get (D := (dC, dI)) (ci := 12) (v := .int (mi 23)) (C := RX12) (T := TX12) (N := 57) hx hb hts (fun w h => List.mem_cons_of_mem _ (jnGB_X12 w h)) hown hK hP 0 rfl rfl 23 (by decide) (hts _ (List.mem_cons_of_mem _ mGB_122)) (fun _ h9 => h9) rfl dX12_moves_33 ?_
  refine lv_iconst (v := 1) hx hb dX12_moves_36 (by decide) ?_
  refine lv_iadd hx hb dX12_moves_37 ?_
  refine lv_topi (fun x_18 ex_18 => ?_)
  have gx_18 : gi x_18 1 300 := gi_add ex_18 g_14 (gi_c 1 1 (by decide)) (by decide)
  refine va_put (D := (dC, dI)) (ci := 12) (v := .int x_18) (ty := .int) (C := RX12) (T := TX12) (N := 57) hx hb hts (fun w h => List.mem_cons_of_mem _ (jnGB_X12 w h)) tyX12 tyX12_ok nmX12 hown hK hP hD hS 0 rfl rfl 23 (by decide) (hts _ (List.mem_cons_of_mem _ mGB_122)) (fun _ h9 => h9) rfl (by decide +kernel) rfl rfl (Nat.le_of_ble_eq_true rfl) dX12_moves_38 (fun H locs hP hD hS => ?_)
  have hP : va_P (dC, dI) vwCl [(h0, .inr (12, fsMM (upd mi 23 x_18) mr)), ((mr 12), .inl (km_kept, 300, .inl f_17))] H := hP
  have hD : va_D A [(h0, .inr (12, fsMM (upd mi 23 x_18) mr)), ((mr 12), .inl (km_kept, 300, .inl f_17))] := hD
  refine lv_iload_n hx hb dX12_moves_41 rfl (lv_at hl 0 rfl) ?_
  exact W.iret (v := x_16) hx hb hr (fun t ht hW => ⟨⟨x_16, x_16, rfl, ⟨rfl, (gi_any x_16)⟩, x_18, f_17, (gi_w gx_18 (by decide)), (show x_18.toInt = (mi 23).toInt + 1 from by have qgx_18 := gx_18.1; have rgx_18 := gx_18.2; have igx_18 : x_18.toInt = (mi 23).toInt + 1 := (by have hc1 : (1 : Int32).toInt = 1 := (by decide); have h9 := gi_addI ex_18 (by have h1 := g_14.1; have h2 := (gi_c 1 1 (by decide)).1; have h3 := g_14.2; have h4 := (gi_c 1 1 (by decide)).2; omega) (by have h1 := g_14.1; have h2 := (gi_c 1 1 (by decide)).1; have h3 := g_14.2; have h4 := (gi_c 1 1 (by decide)).2; omega); rw [hc1] at h9; exact h9); have qgmi_23 := g_14.1; have rgmi_23 := g_14.2; have qgmi_24 := g_13.1; have rgmi_24 := g_13.2; omega), (show f_17 = fm_kept from by rw [← ef_17, ex_16]; exact upd_self _ _), (show x_16 = fm_kept (mi 23).toNatClampNeg from by exact ex_16), by rw [ht]; exact hP, hD⟩, hS.F ht⟩) hS.2.2 dX12_moves_42
