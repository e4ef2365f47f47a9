theorem dX12_trusts_0 : decode cX12_trusts 0 = .ok (.aload_n 0, 1) := by decide +kernel
theorem dX12_trusts_1 : decode cX12_trusts 1 = .ok (.iload_n 1, 1) := by decide +kernel
theorem dX12_trusts_2 : decode cX12_trusts 2 = .ok (.invokevirtual 294, 3) := by decide +kernel
theorem dX12_trusts_5 : decode cX12_trusts 5 = .ok (.ifCond .eq 15, 3) := by decide +kernel
theorem dX12_trusts_8 : decode cX12_trusts 8 = .ok (.iload_n 2, 1) := by decide +kernel
theorem dX12_trusts_9 : decode cX12_trusts 9 = .ok (.i2l, 1) := by decide +kernel
theorem dX12_trusts_10 : decode cX12_trusts 10 = .ok (.lconst 0, 1) := by decide +kernel
theorem dX12_trusts_11 : decode cX12_trusts 11 = .ok (.ldc2_w 486, 3) := by decide +kernel
theorem dX12_trusts_14 : decode cX12_trusts 14 = .ok (.invokestatic 102, 3) := by decide +kernel
theorem dX12_trusts_17 : decode cX12_trusts 17 = .ok (.ifCond .ne 6, 3) := by decide +kernel
theorem dX12_trusts_20 : decode cX12_trusts 20 = .ok (.bipush (-2), 2) := by decide +kernel
theorem dX12_trusts_22 : decode cX12_trusts 22 = .ok (.ireturn, 1) := by decide +kernel
theorem dX12_trusts_23 : decode cX12_trusts 23 = .ok (.aload_n 0, 1) := by decide +kernel
theorem dX12_trusts_24 : decode cX12_trusts 24 = .ok (.getfield 7, 3) := by decide +kernel
theorem dX12_trusts_27 : decode cX12_trusts 27 = .ok (.iload_n 1, 1) := by decide +kernel
theorem dX12_trusts_28 : decode cX12_trusts 28 = .ok (.iaload, 1) := by decide +kernel
theorem dX12_trusts_29 : decode cX12_trusts 29 = .ok (.istore_n 3, 1) := by decide +kernel
theorem dX12_trusts_30 : decode cX12_trusts 30 = .ok (.aload_n 0, 1) := by decide +kernel
theorem dX12_trusts_31 : decode cX12_trusts 31 = .ok (.getfield 7, 3) := by decide +kernel
theorem dX12_trusts_34 : decode cX12_trusts 34 = .ok (.iload_n 1, 1) := by decide +kernel
theorem dX12_trusts_35 : decode cX12_trusts 35 = .ok (.iload_n 2, 1) := by decide +kernel
theorem dX12_trusts_36 : decode cX12_trusts 36 = .ok (.iastore, 1) := by decide +kernel
theorem dX12_trusts_37 : decode cX12_trusts 37 = .ok (.iload_n 3, 1) := by decide +kernel
theorem dX12_trusts_38 : decode cX12_trusts 38 = .ok (.ireturn, 1) := by decide +kernel
set_option maxHeartbeats 4000000 in
set_option maxRecDepth 100000 in
theorem sX12_trusts (l : Launch) (dC : Nat → ClassId) (dI : Nat → Nat → Nat) (sz : Nat) (h0 : Nat) (mi : Nat → Int32) (mr : Nat → Nat) (km_trust : ClassId) (fm_trust : Nat → Int32) (p1 : Int32) (p2 : Int32) (gmi_0 : gi (mi 0) 0 24) (gmi_1 : gi (mi 1) 0 5) (gmi_2 : gi (mi 2) 0 5) (gmi_4 : gi (mi 4) 0 1) (gmi_7 : gi (mi 7) 0 6) (gmi_10 : gi (mi 10) 0 24) (gmi_17 : gi (mi 17) 0 8) (gmi_23 : gi (mi 23) 0 300) (gmi_24 : gi (mi 24) 0 1) (gmi_26 : gi (mi 26) 0 1600) (gmi_29 : gi (mi 29) 0 1600) (gmi_30 : gi (mi 30) 0 1600) (gmi_33 : gi (mi 33) 0 1) (gmi_37 : gi (mi 37) 0 1) (gmi_41 : gi (mi 41) 0 24) (gmi_50 : gi (mi 50) 0 1) (gmi_51 : gi (mi 51) 0 1) (gmi_56 : gi (mi 56) 0 80) : Met l yX12_trusts (.code yX12_trusts cX12_trusts 4 (some .int) :: wsGB) ({ frames := 2, cells := 0, slots := 0, locals := 46 }) (va_Pc [.ref h0, .int p1, .int p2] (fun U => U.heap.size = sz ∧ va_P (dC, dI) vwCl [(h0, .inr (12, fsMM mi mr)), ((mr 0), .inl (km_trust, 6, .inl fm_trust))] U.heap ∧ va_K (dC, dI) vwCl [(km_trust, .int)] U ∧ va_D (fun _ => True) [(h0, .inr (12, fsMM mi mr)), ((mr 0), .inl (km_trust, 6, .inl fm_trust))])) (va_Qi (fun (r : Int32) (u : Unit) => gi r (-2147483648) 2147483647) (fun _ t => ∃ (z1 : Nat → Int32), va_P (dC, dI) vwCl [(h0, .inr (12, fsMM mi mr)), ((mr 0), .inl (km_trust, 6, .inl z1))] t.heap ∧ va_D (va_A [(h0, .inr (12, fsMM mi mr)), ((mr 0), .inl (km_trust, 6, .inl fm_trust))] sz) [(h0, .inr (12, fsMM mi mr)), ((mr 0), .inl (km_trust, 6, .inl z1))]) (va_A [(h0, .inr (12, fsMM mi mr)), ((mr 0), .inl (km_trust, 6, .inl fm_trust))] sz)) 0 0 (va_A [(h0, .inr (12, fsMM mi mr)), ((mr 0), .inl (km_trust, 6, .inl fm_trust))] sz) := by
  refine Met.ofW (cc := cX12_trusts) (maxL := 4) (ret := (some .int)) (by decide) rfl ?_
  intro p e s m args below meth c s₁ B hml hv
  obtain ⟨rfl, hsz, hP, hK, hD0⟩ := hv
  have hx := B.exec
  have hb := B.bytes
  have hr := B.returns
  have hts := atoms_spec (ws := (.code yX12_trusts cX12_trusts 4 (some .int) :: wsGB)) B.pre
  have hown : s.vm.findClass RX12 = some m.cls := findClass_of_methodNamed B.named
  have hlocks := B.notSynchronized
  subst hsz
  have hD := hD0.self (sz := s.heap.size)
  generalize hAe : va_A [(h0, .inr (12, fsMM mi mr)), ((mr 0), .inl (km_trust, 6, .inl fm_trust))] s.heap.size = A at hD ⊢
  have hA : ∀ q : Nat, s.heap.size ≤ q → A q := fun q h => by rw [← hAe]; exact Or.inr h
  have hS : va_S A s.heap s.heap [] := va_S.rf
  have hl := lv_entry ([.ref h0, .int p1, .int p2]) (n := 4) (Nat.le_of_ble_eq_true rfl)
  rw [lg_entry_eq]
  generalize (lg_sl ([.ref h0, .int p1, .int p2]) ++ List.replicate (4 - (lg_sl ([.ref h0, .int p1, .int p2])).length) Slot.unset).toArray = ls at hl ⊢
  have hl : lv_has ls 4 [(0, .ref h0), (1, .int p1), (2, .int p2)] := hl
  refine lv_aload_n hx hb dX12_trusts_0 rfl (lv_at hl 0 rfl) ?_
  refine lv_iload_n hx hb dX12_trusts_1 rfl (lv_at hl 1 rfl) ?_
  have hPc := hP.sub (ws' := [(h0, .inr (12, fsMM mi mr))]) [0] rfl
  have hKc := hK.sub (tys' := []) [] rfl
  refine va_calli (va_runV (As := [.int p1]) (rest := []) ⟨hx, hb, hml, hown, hts⟩ (sX12_isPlace l dC dI h0 mi mr p1 gmi_0 gmi_1 gmi_2 gmi_4 gmi_7 gmi_10 gmi_17 gmi_23 gmi_24 gmi_26 gmi_29 gmi_30 gmi_33 gmi_37 gmi_41 gmi_50 gmi_51 gmi_56) (cwV 1 hts (gz_gV mGB_224 mGB_225 mGB_226 mGB_1 mGB_227 goodGB) rfl rfl rfl (by decide +kernel) ⟨Nat.le_of_ble_eq_true rfl, Nat.le_of_ble_eq_true rfl⟩) ⟨fun a U g mk q => by obtain ⟨q0, qP, qK⟩ := q; exact ⟨q0, qP, va_K.moved (u := U) (U := U.calling g mk a) (Vm.Alike.refl U.vm) qK⟩, va_recv hKc hPc (ci := 12) (q0 := 0) rfl rfl, fun U hU hW => ⟨rfl, by rw [hU]; exact hPc, va_K.moved hW.alike hKc⟩⟩ rfl rfl hl.1 rfl (lv_room (Nat.le_of_ble_eq_true rfl)) dX12_trusts_2 ⟨Nat.zero_le _, Nat.zero_le _⟩) hS (fun q _ h => h.elim) (fun q h => h.elim) (fun r_27 u t H1 locs ht hvm hw hB hz1 hk1 hS => ?_)
  have hP := gz_keep hP hk1
  generalize H1 = H at hP hS ⊢
  have gr_27 : gi r_27 0 1 := hw.1
  have hqr_27 := hw.2
  refine lv_if_eq (tgt := 20) hx hb dX12_trusts_5 (by decide) (fun c_28 => ?_) (fun c_28 => ?_)
  · have g_29 : gi r_27 0 0 := gi_eq c_28 (gi_c 0 0 (by decide))
    refine lv_bipush (v := (-2)) hx hb dX12_trusts_20 (by decide) ?_
    exact W.iret (v := (-2)) hx hb hr (fun t ht hW => ⟨⟨(-2), (), rfl, (gi_any (-2)), fm_trust, by rw [ht]; exact hP, hD⟩, hS.F ht⟩) hS.2.2 dX12_trusts_22
  · have g_30 : gi r_27 1 1 := gi_ne_lo c_28 gr_27 (gi_c 0 0 (by decide)) (by decide)
    have g_31 : gi p1 0 5 := gi_cap (gi_any p1) (hqr_27 (gz_one g_30)) (by decide)
    refine lv_iload_n hx hb dX12_trusts_8 rfl (lv_at hl 2 rfl) ?_
    refine lv_i2l (v := (p2).toInt64) hx hb dX12_trusts_9 rfl ?_
    refine lv_topl (fun l_32 el_32 => ?_)
    refine lv_lconst (v := 0) hx hb dX12_trusts_10 (by decide) ?_
    refine lv_ldc2 (own := RX12) (v := 9) hx hb hown (hts _ (List.mem_cons_of_mem _ mGB_585)) dX12_trusts_11 ?_
    have hPc := hP.sub (ws' := []) [] rfl
    have hKc := hK.sub (tys' := []) [] rfl
    refine va_calli (va_runS (As := [.long l_32, .long 0, .long 9]) (rest := []) ⟨hx, hb, hml, hown, hts⟩ (sX12_in l dC dI l_32 0 9) (cwS 3 hts (gz_gS mGB_47 mGB_48 mGB_1 mGB_49 goodGB) rfl rfl rfl (by decide +kernel) ⟨Nat.le_of_ble_eq_true rfl, Nat.le_of_ble_eq_true rfl⟩) ⟨fun a U g mk q => by obtain ⟨q0, qP, qK⟩ := q; exact ⟨q0, qP, va_K.moved (u := U) (U := U.calling g mk a) (Vm.Alike.refl U.vm) qK⟩, fun U hU hW => ⟨rfl, by rw [hU]; exact hPc, va_K.moved hW.alike hKc⟩⟩ rfl rfl hl.1 rfl (lv_room (Nat.le_of_ble_eq_true rfl)) dX12_trusts_14 ⟨Nat.zero_le _, Nat.zero_le _⟩) hS (fun q _ h => h.elim) (fun q h => h.elim) (fun r_33 u t H1 locs ht hvm hw hB hz1 hk1 hS => ?_)
    have hP := gz_keep hP hk1
    generalize H1 = H at hP hS ⊢
    have gr_33 : gi r_33 0 1 := hw.1
    have hqr_33 := hw.2
    refine lv_if_ne (tgt := 23) hx hb dX12_trusts_17 (by decide) (fun c_34 => ?_) (fun c_34 => ?_)
    · have g_35 : gi r_33 1 1 := gi_ne_lo c_34 gr_33 (gi_c 0 0 (by decide)) (by decide)
      have g_36 : gi p2 0 9 := gi_cap (gi_any p2) (gz_inr (hqr_33.1 (gz_one g_35)) el_32 (A := 0) (B := 9) (by decide) (by decide)) (by decide)
      refine lv_aload_n hx hb dX12_trusts_23 rfl (lv_at hl 0 rfl) ?_
      refine va_get (D := (dC, dI)) (ci := 12) (v := .ref (mr 0)) (C := RX12) (T := TX12) (N := 57) hx hb hts (fun w h => List.mem_cons_of_mem _ (jnGB_X12 w h)) hown hK hP 0 rfl rfl 8 (by decide) (hts _ (List.mem_cons_of_mem _ mGB_10)) (fun _ h9 => h9) rfl dX12_trusts_24 ?_
      refine lv_iload_n hx hb dX12_trusts_27 rfl (lv_at hl 1 rfl) ?_
      refine va_iald hx hb hK hP 1 0 rfl rfl (gi_in g_31 (by decide)) dX12_trusts_28 ?_
      refine lv_topi (fun x_37 ex_37 => ?_)
      refine lv_istore_n (lv' := [(3, .int x_37), (0, .ref h0), (1, .int p1), (2, .int p2)]) hx hb dX12_trusts_29 rfl hl (by decide) rfl (fun ls hl => ?_)
      refine lv_aload_n hx hb dX12_trusts_30 rfl (lv_at hl 1 rfl) ?_
      refine va_get (D := (dC, dI)) (ci := 12) (v := .ref (mr 0)) (C := RX12) (T := TX12) (N := 57) hx hb hts (fun w h => List.mem_cons_of_mem _ (jnGB_X12 w h)) hown hK hP 0 rfl rfl 8 (by decide) (hts _ (List.mem_cons_of_mem _ mGB_10)) (fun _ h9 => h9) rfl dX12_trusts_31 ?_
      refine lv_iload_n hx hb dX12_trusts_34 rfl (lv_at hl 2 rfl) ?_
      refine lv_iload_n hx hb dX12_trusts_35 rfl (lv_at hl 3 rfl) ?_
      refine va_iast hx hb hK hP hD hS 1 0 rfl rfl (gi_in g_31 (by decide)) dX12_trusts_36 (fun H locs hP hD hS => ?_)
      have hP : va_P (dC, dI) vwCl [(h0, .inr (12, fsMM mi mr)), ((mr 0), .inl (km_trust, 6, .inl (upd fm_trust (p1 : Int32).toNatClampNeg p2)))] H := hP
      have hD : va_D A [(h0, .inr (12, fsMM mi mr)), ((mr 0), .inl (km_trust, 6, .inl (upd fm_trust (p1 : Int32).toNatClampNeg p2)))] := hD
      generalize upd fm_trust (p1 : Int32).toNatClampNeg p2 = f_38 at hP hD
      refine lv_iload_n hx hb dX12_trusts_37 rfl (lv_at hl 0 rfl) ?_
      exact W.iret (v := x_37) hx hb hr (fun t ht hW => ⟨⟨x_37, (), rfl, (gi_any x_37), f_38, by rw [ht]; exact hP, hD⟩, hS.F ht⟩) hS.2.2 dX12_trusts_38
    · have g_39 : gi r_33 0 0 := gi_eq c_34 (gi_c 0 0 (by decide))
      refine lv_bipush (v := (-2)) hx hb dX12_trusts_20 (by decide) ?_
      exact W.iret (v := (-2)) hx hb hr (fun t ht hW => ⟨⟨(-2), (), rfl, (gi_any (-2)), fm_trust, by rw [ht]; exact hP, hD⟩, hS.F ht⟩) hS.2.2 dX12_trusts_22
