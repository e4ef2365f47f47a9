theorem dX12_faultsAt_0 : decode cX12_faultsAt 0 = .ok (.aload_n 0, 1) := by decide +kernel
theorem dX12_faultsAt_1 : decode cX12_faultsAt 1 = .ok (.getfield 174, 3) := by decide +kernel
theorem dX12_faultsAt_4 : decode cX12_faultsAt 4 = .ok (.ifCond .ne 18, 3) := by decide +kernel
theorem dX12_faultsAt_7 : decode cX12_faultsAt 7 = .ok (.aload_n 0, 1) := by decide +kernel
theorem dX12_faultsAt_8 : decode cX12_faultsAt 8 = .ok (.iconst 1, 1) := by decide +kernel
theorem dX12_faultsAt_9 : decode cX12_faultsAt 9 = .ok (.putfield 174, 3) := by decide +kernel
theorem dX12_faultsAt_12 : decode cX12_faultsAt 12 = .ok (.aload_n 0, 1) := by decide +kernel
theorem dX12_faultsAt_13 : decode cX12_faultsAt 13 = .ok (.iload_n 1, 1) := by decide +kernel
theorem dX12_faultsAt_14 : decode cX12_faultsAt 14 = .ok (.putfield 177, 3) := by decide +kernel
theorem dX12_faultsAt_17 : decode cX12_faultsAt 17 = .ok (.aload_n 0, 1) := by decide +kernel
theorem dX12_faultsAt_18 : decode cX12_faultsAt 18 = .ok (.iload_n 2, 1) := by decide +kernel
theorem dX12_faultsAt_19 : decode cX12_faultsAt 19 = .ok (.putfield 53, 3) := by decide +kernel
theorem dX12_faultsAt_22 : decode cX12_faultsAt 22 = .ok (.return_, 1) := by decide +kernel
set_option maxHeartbeats 4000000 in
set_option maxRecDepth 100000 in
theorem sX12_faultsAtP (l : Launch) (dC : Nat → ClassId) (dI : Nat → Nat → Nat) (sz : Nat) (h0 : Nat) (mi : Nat → Int32) (mr : Nat → Nat) (p1 : Int32) (p2 : Int32) (gmi_0 : gi (mi 0) 0 100000) (gmi_1 : gi (mi 1) 0 100000) (gmi_2 : gi (mi 2) 0 100000) (gmi_4 : gi (mi 4) 0 1) (gmi_7 : gi (mi 7) 0 6) (gmi_10 : gi (mi 10) 0 24) (gmi_17 : gi (mi 17) 0 8) (gmi_23 : gi (mi 23) 0 300) (gmi_24 : gi (mi 24) 0 1) (gmi_26 : gi (mi 26) 0 1600) (gmi_29 : gi (mi 29) 0 1600) (gmi_30 : gi (mi 30) 0 1600) (gmi_32 : gi (mi 32) 0 100000) (gmi_33 : gi (mi 33) 0 1) (gmi_37 : gi (mi 37) 0 1) (gmi_41 : gi (mi 41) 0 24) (gmi_50 : gi (mi 50) 0 1) (gmi_51 : gi (mi 51) 0 1) (gmi_56 : gi (mi 56) 0 80) : Met l yX12_faultsAt (.code yX12_faultsAt cX12_faultsAt 3 none :: wsGB) ({ frames := 0, cells := 0, slots := 0, locals := 0 }) (va_Pc [.ref h0, .int p1, .int p2] (fun U => U.heap.size = sz ∧ va_P (dC, dI) vwCl [(h0, .inr (12, fsMM mi mr))] U.heap ∧ va_K (dC, dI) vwCl [] U ∧ va_D (fun _ => True) [(h0, .inr (12, fsMM mi mr))])) (va_Qv (fun (u : Unit) => True) (fun _ t => ∃ (w0_27 : Int32) (w0_28 : Int32) (w0_33 : Int32), gi w0_33 0 1 ∧ w0_33.toInt = 1 ∧ va_P (dC, dI) vwCl [(h0, .inr (12, fsMM (upd (upd (upd mi 27 w0_27) 28 w0_28) 33 w0_33) mr))] t.heap ∧ va_D (va_A [(h0, .inr (12, fsMM mi mr))] sz) [(h0, .inr (12, fsMM (upd (upd (upd mi 27 w0_27) 28 w0_28) 33 w0_33) mr))]) (va_A [(h0, .inr (12, fsMM mi mr))] sz)) 0 0 (va_A [(h0, .inr (12, fsMM mi mr))] sz) := by
  refine Met.ofW (cc := cX12_faultsAt) (maxL := 3) (ret := none) (by decide) rfl ?_
  intro p e s m args below meth c s₁ B hml hv
  obtain ⟨rfl, hsz, hP, hK, hD0⟩ := hv
  have hx := B.exec
  have hb := B.bytes
  have hr := B.returns
  have hts := atoms_spec (ws := (.code yX12_faultsAt cX12_faultsAt 3 none :: wsGB)) B.pre
  have hown : s.vm.findClass RX12 = some m.cls := findClass_of_methodNamed B.named
  have hlocks := B.notSynchronized
  subst hsz
  have hD := hD0.self (sz := s.heap.size)
  generalize hAe : va_A [(h0, .inr (12, fsMM mi mr))] s.heap.size = A at hD ⊢
  have hA : ∀ q : Nat, s.heap.size ≤ q → A q := fun q h => by rw [← hAe]; exact Or.inr h
  have hS : va_S A s.heap s.heap [] := va_S.rf
  have hl := lv_entry ([.ref h0, .int p1, .int p2]) (n := 3) (Nat.le_of_ble_eq_true rfl)
  rw [lg_entry_eq]
  generalize (lg_sl ([.ref h0, .int p1, .int p2]) ++ List.replicate (3 - (lg_sl ([.ref h0, .int p1, .int p2])).length) Slot.unset).toArray = ls at hl ⊢
  have hl : lv_has ls 3 [(0, .ref h0), (1, .int p1), (2, .int p2)] := hl
  refine lv_aload_n hx hb dX12_faultsAt_0 rfl (lv_at hl 0 rfl) ?_
  refine va_get (D := (dC, dI)) (ci := 12) (v := .int (mi 33)) (C := RX12) (T := TX12) (N := 57) hx hb hts (fun w h => List.mem_cons_of_mem _ (jnGB_X12 w h)) hown hK hP 0 rfl rfl 33 (by decide) (hts _ (List.mem_cons_of_mem _ mGB_114)) (fun _ h9 => h9) rfl dX12_faultsAt_1 ?_
  refine lv_if_ne (tgt := 22) hx hb dX12_faultsAt_4 (by decide) (fun c_11 => ?_) (fun c_11 => ?_)
  · have hc_12 : (mi 33).toInt ≠ 0 := fun h9 => c_11 (Int32.toInt_inj.mp (by rw [show (0 : Int32).toInt = 0 from by decide]; exact h9))
    have g_13 : gi (mi 33) 1 1 := gi_ne_lo c_11 gmi_33 (gi_c 0 0 (by decide)) (by decide)
    exact W.vret hx hb hr (fun t ht hW => ⟨⟨(), rfl, trivial, (mi 27), (mi 28), (mi 33), (gi_w g_13 (by decide)), (show (mi 33).toInt = 1 from by have qgmi_33 := g_13.1; have rgmi_33 := g_13.2; omega), by rw [ht]; exact hP, hD⟩, hS.F ht⟩) hS.2.2 dX12_faultsAt_22
  · have hc_14 : (mi 33).toInt = 0 := by have h9 := congrArg Int32.toInt c_11; rw [show (0 : Int32).toInt = 0 from by decide] at h9; exact h9
    have g_15 : gi (mi 33) 0 0 := gi_eq c_11 (gi_c 0 0 (by decide))
    refine lv_aload_n hx hb dX12_faultsAt_7 rfl (lv_at hl 0 rfl) ?_
    refine lv_iconst (v := 1) hx hb dX12_faultsAt_8 (by decide) ?_
    refine va_put (D := (dC, dI)) (ci := 12) (v := .int 1) (ty := .boolean) (C := RX12) (T := TX12) (N := 57) hx hb hts (fun w h => List.mem_cons_of_mem _ (jnGB_X12 w h)) tyX12 tyX12_ok nmX12 hown hK hP hD hS 0 rfl rfl 33 (by decide) (hts _ (List.mem_cons_of_mem _ mGB_114)) (fun _ h9 => h9) rfl (by decide +kernel) rfl rfl (Nat.le_of_ble_eq_true rfl) dX12_faultsAt_9 (fun H locs hP hD hS => ?_)
    have hP : va_P (dC, dI) vwCl [(h0, .inr (12, fsMM (upd mi 33 1) mr))] H := hP
    have hD : va_D A [(h0, .inr (12, fsMM (upd mi 33 1) mr))] := hD
    refine lv_aload_n hx hb dX12_faultsAt_12 rfl (lv_at hl 0 rfl) ?_
    refine lv_iload_n hx hb dX12_faultsAt_13 rfl (lv_at hl 1 rfl) ?_
    refine va_put (D := (dC, dI)) (ci := 12) (v := .int p1) (ty := .int) (C := RX12) (T := TX12) (N := 57) hx hb hts (fun w h => List.mem_cons_of_mem _ (jnGB_X12 w h)) tyX12 tyX12_ok nmX12 hown hK hP hD hS 0 rfl rfl 27 (by decide) (hts _ (List.mem_cons_of_mem _ mGB_115)) (fun _ h9 => h9) rfl (by decide +kernel) rfl rfl (Nat.le_of_ble_eq_true rfl) dX12_faultsAt_14 (fun H locs hP hD hS => ?_)
    have hP : va_P (dC, dI) vwCl [(h0, .inr (12, fsMM (upd (upd mi 27 p1) 33 1) mr))] H := hP
    have hD : va_D A [(h0, .inr (12, fsMM (upd (upd mi 27 p1) 33 1) mr))] := hD
    refine lv_aload_n hx hb dX12_faultsAt_17 rfl (lv_at hl 0 rfl) ?_
    refine lv_iload_n hx hb dX12_faultsAt_18 rfl (lv_at hl 2 rfl) ?_
    refine va_put (D := (dC, dI)) (ci := 12) (v := .int p2) (ty := .int) (C := RX12) (T := TX12) (N := 57) hx hb hts (fun w h => List.mem_cons_of_mem _ (jnGB_X12 w h)) tyX12 tyX12_ok nmX12 hown hK hP hD hS 0 rfl rfl 28 (by decide) (hts _ (List.mem_cons_of_mem _ mGB_25)) (fun _ h9 => h9) rfl (by decide +kernel) rfl rfl (Nat.le_of_ble_eq_true rfl) dX12_faultsAt_19 (fun H locs hP hD hS => ?_)
    have hP : va_P (dC, dI) vwCl [(h0, .inr (12, fsMM (upd (upd (upd mi 27 p1) 28 p2) 33 1) mr))] H := hP
    have hD : va_D A [(h0, .inr (12, fsMM (upd (upd (upd mi 27 p1) 28 p2) 33 1) mr))] := hD
    exact W.vret hx hb hr (fun t ht hW => ⟨⟨(), rfl, trivial, p1, p2, 1, (gi_w (gi_c 1 1 (by decide)) (by decide)), (show (1 : Int32).toInt = 1 from by have k1 : (1 : Int32).toInt = 1 := (by decide); have qgmi_33 := g_15.1; have rgmi_33 := g_15.2; omega), by rw [ht]; exact hP, hD⟩, hS.F ht⟩) hS.2.2 dX12_faultsAt_22
