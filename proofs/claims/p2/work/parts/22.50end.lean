theorem dX12_end_0 : decode cX12_end 0 = .ok (.iload_n 1, 1) := by decide +kernel
theorem dX12_end_1 : decode cX12_end 1 = .ok (.i2l, 1) := by decide +kernel
theorem dX12_end_2 : decode cX12_end 2 = .ok (.lconst 0, 1) := by decide +kernel
theorem dX12_end_3 : decode cX12_end 3 = .ok (.aload_n 0, 1) := by decide +kernel
theorem dX12_end_4 : decode cX12_end 4 = .ok (.getfield 99, 3) := by decide +kernel
theorem dX12_end_7 : decode cX12_end 7 = .ok (.i2l, 1) := by decide +kernel
theorem dX12_end_8 : decode cX12_end 8 = .ok (.invokestatic 102, 3) := by decide +kernel
theorem dX12_end_11 : decode cX12_end 11 = .ok (.ifCond .ne 5, 3) := by decide +kernel
theorem dX12_end_14 : decode cX12_end 14 = .ok (.iconst (-1), 1) := by decide +kernel
theorem dX12_end_15 : decode cX12_end 15 = .ok (.ireturn, 1) := by decide +kernel
theorem dX12_end_16 : decode cX12_end 16 = .ok (.aload_n 0, 1) := by decide +kernel
theorem dX12_end_17 : decode cX12_end 17 = .ok (.iload_n 1, 1) := by decide +kernel
theorem dX12_end_18 : decode cX12_end 18 = .ok (.putfield 99, 3) := by decide +kernel
theorem dX12_end_21 : decode cX12_end 21 = .ok (.iload_n 1, 1) := by decide +kernel
theorem dX12_end_22 : decode cX12_end 22 = .ok (.ireturn, 1) := by decide +kernel
set_option maxHeartbeats 4000000 in
set_option maxRecDepth 100000 in
theorem sX12_end (l : Launch) (dC : Nat → ClassId) (dI : Nat → Nat → Nat) (sz : Nat) (h0 : Nat) (mi : Nat → Int32) (mr : Nat → Nat) (p1 : Int32) (gmi_0 : gi (mi 0) 0 24) (gmi_1 : gi (mi 1) 0 5) (gmi_2 : gi (mi 2) 0 5) (gmi_4 : gi (mi 4) 0 1) (gmi_7 : gi (mi 7) 0 6) (gmi_10 : gi (mi 10) 0 24) (gmi_17 : gi (mi 17) 0 8) (gmi_23 : gi (mi 23) 0 300) (gmi_24 : gi (mi 24) 0 1) (gmi_26 : gi (mi 26) 0 1600) (gmi_29 : gi (mi 29) 0 1600) (gmi_30 : gi (mi 30) 0 1600) (gmi_33 : gi (mi 33) 0 1) (gmi_37 : gi (mi 37) 0 1) (gmi_41 : gi (mi 41) 0 24) (gmi_50 : gi (mi 50) 0 1) (gmi_51 : gi (mi 51) 0 1) (gmi_56 : gi (mi 56) 0 80) : Met l yX12_end (.code yX12_end cX12_end 2 (some .int) :: wsGB) ({ frames := 1, cells := 0, slots := 0, locals := 25 }) (va_Pc [.ref h0, .int p1] (fun U => U.heap.size = sz ∧ va_P (dC, dI) vwCl [(h0, .inr (12, fsMM mi mr))] U.heap ∧ va_K (dC, dI) vwCl [] U ∧ va_D (fun _ => True) [(h0, .inr (12, fsMM mi mr))])) (va_Qi (fun (r : Int32) (u : Unit) => gi r (-1) 1600 ∧ ((0 ≤ p1.toInt ∧ p1.toInt ≤ (mi 26).toInt ∧ r.toInt = p1.toInt) ∨ ((p1.toInt < 0 ∨ (mi 26).toInt < p1.toInt) ∧ r.toInt = -1))) (fun _ t => ∃ (w0_26 : Int32), gi w0_26 0 1600 ∧ ((0 ≤ p1.toInt ∧ p1.toInt ≤ (mi 26).toInt ∧ w0_26.toInt = p1.toInt) ∨ ((p1.toInt < 0 ∨ (mi 26).toInt < p1.toInt) ∧ w0_26.toInt = (mi 26).toInt)) ∧ va_P (dC, dI) vwCl [(h0, .inr (12, fsMM (upd mi 26 w0_26) mr))] t.heap ∧ va_D (va_A [(h0, .inr (12, fsMM mi mr))] sz) [(h0, .inr (12, fsMM (upd mi 26 w0_26) mr))]) (va_A [(h0, .inr (12, fsMM mi mr))] sz)) 0 0 (va_A [(h0, .inr (12, fsMM mi mr))] sz) := by
  refine Met.ofW (cc := cX12_end) (maxL := 2) (ret := (some .int)) (by decide) rfl ?_
  intro p e s m args below meth c s₁ B hml hv
  obtain ⟨rfl, hsz, hP, hK, hD0⟩ := hv
  have hx := B.exec
  have hb := B.bytes
  have hr := B.returns
  have hts := atoms_spec (ws := (.code yX12_end cX12_end 2 (some .int) :: wsGB)) B.pre
  have hown : s.vm.findClass RX12 = some m.cls := findClass_of_methodNamed B.named
  have hlocks := B.notSynchronized
  subst hsz
  have hD := hD0.self (sz := s.heap.size)
  generalize hAe : va_A [(h0, .inr (12, fsMM mi mr))] s.heap.size = A at hD ⊢
  have hA : ∀ q : Nat, s.heap.size ≤ q → A q := fun q h => by rw [← hAe]; exact Or.inr h
  have hS : va_S A s.heap s.heap [] := va_S.rf
  have hl := lv_entry ([.ref h0, .int p1]) (n := 2) (Nat.le_of_ble_eq_true rfl)
  rw [lg_entry_eq]
  generalize (lg_sl ([.ref h0, .int p1]) ++ List.replicate (2 - (lg_sl ([.ref h0, .int p1])).length) Slot.unset).toArray = ls at hl ⊢
  have hl : lv_has ls 2 [(0, .ref h0), (1, .int p1)] := hl
  refine lv_iload_n hx hb dX12_end_0 rfl (lv_at hl 1 rfl) ?_
  refine lv_i2l (v := (p1).toInt64) hx hb dX12_end_1 rfl ?_
  refine lv_topl (fun l_19 el_19 => ?_)
  refine lv_lconst (v := 0) hx hb dX12_end_2 (by decide) ?_
  refine lv_aload_n hx hb dX12_end_3 rfl (lv_at hl 0 rfl) ?_
  refine va_get (D := (dC, dI)) (ci := 12) (v := .int (mi 26)) (C := RX12) (T := TX12) (N := 57) hx hb hts (fun w h => List.mem_cons_of_mem _ (jnGB_X12 w h)) hown hK hP 0 rfl rfl 26 (by decide) (hts _ (List.mem_cons_of_mem _ mGB_43)) (fun _ h9 => h9) rfl dX12_end_4 ?_
  refine lv_i2l (v := ((mi 26)).toInt64) hx hb dX12_end_7 rfl ?_
  refine lv_topl (fun l_20 el_20 => ?_)
  have hPc := hP.sub (ws' := []) [] rfl
  have hKc := hK.sub (tys' := []) [] rfl
  refine va_calli (va_runS (As := [.long l_19, .long 0, .long l_20]) (rest := []) ⟨hx, hb, hml, hown, hts⟩ (sX12_in l dC dI l_19 0 l_20) (cwS 3 hts (gz_gS mGB_47 mGB_48 mGB_1 mGB_49 goodGB) rfl rfl rfl (by decide +kernel) ⟨Nat.le_of_ble_eq_true rfl, Nat.le_of_ble_eq_true rfl⟩) ⟨fun a U g mk q => by obtain ⟨q0, qP, qK⟩ := q; exact ⟨q0, qP, va_K.moved (u := U) (U := U.calling g mk a) (Vm.Alike.refl U.vm) qK⟩, fun U hU hW => ⟨rfl, by rw [hU]; exact hPc, va_K.moved hW.alike hKc⟩⟩ rfl rfl hl.1 rfl (lv_room (Nat.le_of_ble_eq_true rfl)) dX12_end_8 ⟨Nat.zero_le _, Nat.zero_le _⟩) hS (fun q _ h => h.elim) (fun q h => h.elim) (fun r_21 u t H1 locs ht hvm hw hB hz1 hk1 hS => ?_)
  have hP := gz_keep hP hk1
  generalize H1 = H at hP hS ⊢
  have gr_21 : gi r_21 0 1 := hw.1
  have hqr_21 := hw.2
  refine lv_if_ne (tgt := 16) hx hb dX12_end_11 (by decide) (fun c_22 => ?_) (fun c_22 => ?_)
  · have g_23 : gi r_21 1 1 := gi_ne_lo c_22 gr_21 (gi_c 0 0 (by decide)) (by decide)
    have hin_24 := gz_inT (A := 0) (B := (mi 26).toInt) (hqr_21.1 (gz_one g_23)) el_19 (by decide) (gz_l2e el_20)
    have g_25 : gi p1 0 1600 := gi_cap (gi_any p1) (gz_inr (hqr_21.1 (gz_one g_23)) el_19 (A := 0) (B := 1600) (by decide) (gz_l2u el_20 gmi_26)) (by decide)
    refine lv_aload_n hx hb dX12_end_16 rfl (lv_at hl 0 rfl) ?_
    refine lv_iload_n hx hb dX12_end_17 rfl (lv_at hl 1 rfl) ?_
    refine va_put (D := (dC, dI)) (ci := 12) (v := .int p1) (ty := .int) (C := RX12) (T := TX12) (N := 57) hx hb hts (fun w h => List.mem_cons_of_mem _ (jnGB_X12 w h)) tyX12 tyX12_ok nmX12 hown hK hP hD hS 0 rfl rfl 26 (by decide) (hts _ (List.mem_cons_of_mem _ mGB_43)) (fun _ h9 => h9) rfl (by decide +kernel) rfl rfl (Nat.le_of_ble_eq_true rfl) dX12_end_18 (fun H locs hP hD hS => ?_)
    have hP : va_P (dC, dI) vwCl [(h0, .inr (12, fsMM (upd mi 26 p1) mr))] H := hP
    have hD : va_D A [(h0, .inr (12, fsMM (upd mi 26 p1) mr))] := hD
    refine lv_iload_n hx hb dX12_end_21 rfl (lv_at hl 1 rfl) ?_
    exact W.iret (v := p1) hx hb hr (fun t ht hW => ⟨⟨p1, (), rfl, ⟨(gi_w g_25 (by decide)), by have qgp1 := g_25.1; have rgp1 := g_25.2; omega⟩, p1, g_25, by have qgp1 := g_25.1; have rgp1 := g_25.2; omega, by rw [ht]; exact hP, hD⟩, hS.F ht⟩) hS.2.2 dX12_end_22
  · have g_26 : gi r_21 0 0 := gi_eq c_22 (gi_c 0 0 (by decide))
    have hno_27 := gz_inF (A := 0) (B := (mi 26).toInt) (hqr_21.2 (gz_zero1 g_26)) el_19 (by decide) (gz_l2e el_20)
    refine lv_iconst (v := (-1)) hx hb dX12_end_14 (by decide) ?_
    exact W.iret (v := (-1)) hx hb hr (fun t ht hW => ⟨⟨(-1), (), rfl, ⟨(gi_w (gi_c (-1) (-1) (by decide)) (by decide)), by have km1 : ((-1) : Int32).toInt = (-1) := (by decide); omega⟩, (mi 26), gmi_26, by have qgmi_26 := gmi_26.1; have rgmi_26 := gmi_26.2; omega, by rw [ht]; exact hP, hD⟩, hS.F ht⟩) hS.2.2 dX12_end_15
