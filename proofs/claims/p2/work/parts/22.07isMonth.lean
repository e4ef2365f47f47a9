theorem dX12_isMonth_0 : decode cX12_isMonth 0 = .ok (.iload_n 1, 1) := by decide +kernel
theorem dX12_isMonth_1 : decode cX12_isMonth 1 = .ok (.i2l, 1) := by decide +kernel
theorem dX12_isMonth_2 : decode cX12_isMonth 2 = .ok (.lconst 0, 1) := by decide +kernel
theorem dX12_isMonth_3 : decode cX12_isMonth 3 = .ok (.aload_n 0, 1) := by decide +kernel
theorem dX12_isMonth_4 : decode cX12_isMonth 4 = .ok (.getfield 117, 3) := by decide +kernel
theorem dX12_isMonth_7 : decode cX12_isMonth 7 = .ok (.iconst 1, 1) := by decide +kernel
theorem dX12_isMonth_8 : decode cX12_isMonth 8 = .ok (.isub, 1) := by decide +kernel
theorem dX12_isMonth_9 : decode cX12_isMonth 9 = .ok (.i2l, 1) := by decide +kernel
theorem dX12_isMonth_10 : decode cX12_isMonth 10 = .ok (.invokestatic 102, 3) := by decide +kernel
theorem dX12_isMonth_13 : decode cX12_isMonth 13 = .ok (.ireturn, 1) := by decide +kernel
set_option maxHeartbeats 4000000 in
set_option maxRecDepth 100000 in
theorem sX12_isMonth (l : Launch) (dC : Nat → ClassId) (dI : Nat → Nat → Nat) (h0 : Nat) (mi : Nat → Int32) (mr : Nat → Nat) (p1 : Int32) (gmi_0 : gi (mi 0) 0 24) (gmi_1 : gi (mi 1) 0 5) (gmi_2 : gi (mi 2) 0 5) (gmi_4 : gi (mi 4) 0 1) (gmi_7 : gi (mi 7) 0 6) (gmi_10 : gi (mi 10) 0 24) (gmi_17 : gi (mi 17) 0 8) (gmi_23 : gi (mi 23) 0 300) (gmi_24 : gi (mi 24) 0 1) (gmi_26 : gi (mi 26) 0 1600) (gmi_29 : gi (mi 29) 0 1600) (gmi_30 : gi (mi 30) 0 1600) (gmi_33 : gi (mi 33) 0 1) (gmi_37 : gi (mi 37) 0 1) (gmi_41 : gi (mi 41) 0 24) (gmi_50 : gi (mi 50) 0 1) (gmi_51 : gi (mi 51) 0 1) (gmi_56 : gi (mi 56) 0 80) : Met l yX12_isMonth (.code yX12_isMonth cX12_isMonth 2 (some .boolean) :: wsGB) ({ frames := 1, cells := 0, slots := 0, locals := 25 }) (va_Pc [.ref h0, .int p1] (fun U => va_P (dC, dI) vwCl [(h0, .inr (12, fsMM mi mr))] U.heap ∧ va_K (dC, dI) vwCl [] U)) (va_Qi (fun (r : Int32) (u : Unit) => gi r 0 1 ∧ (r.toInt = 1 → gi p1 0 23)) (fun _ _ => True) (fun _ => False)) 0 0 (fun _ => False) := by
  refine Met.ofW (cc := cX12_isMonth) (maxL := 2) (ret := (some .boolean)) (by decide) rfl ?_
  intro p e s m args below meth c s₁ B hml hv
  obtain ⟨rfl, hP, hK⟩ := hv
  have hx := B.exec
  have hb := B.bytes
  have hr := B.returns
  have hts := atoms_spec (ws := (.code yX12_isMonth cX12_isMonth 2 (some .boolean) :: wsGB)) B.pre
  have hown : s.vm.findClass RX12 = some m.cls := findClass_of_methodNamed B.named
  have hlocks := B.notSynchronized
  have hS : va_S (fun _ => False) s.heap s.heap [] := va_S.rf
  have hl := lv_entry ([.ref h0, .int p1]) (n := 2) (Nat.le_of_ble_eq_true rfl)
  rw [lg_entry_eq]
  generalize (lg_sl ([.ref h0, .int p1]) ++ List.replicate (2 - (lg_sl ([.ref h0, .int p1])).length) Slot.unset).toArray = ls at hl ⊢
  have hl : lv_has ls 2 [(0, .ref h0), (1, .int p1)] := hl
  refine lv_iload_n hx hb dX12_isMonth_0 rfl (lv_at hl 1 rfl) ?_
  refine lv_i2l (v := (p1).toInt64) hx hb dX12_isMonth_1 rfl ?_
  refine lv_topl (fun l_5 el_5 => ?_)
  refine lv_lconst (v := 0) hx hb dX12_isMonth_2 (by decide) ?_
  refine lv_aload_n hx hb dX12_isMonth_3 rfl (lv_at hl 0 rfl) ?_
  refine va_get (D := (dC, dI)) (ci := 12) (v := .int (mi 0)) (C := RX12) (T := TX12) (N := 57) hx hb hts (fun w h => List.mem_cons_of_mem _ (jnGB_X12 w h)) hown hK hP 0 rfl rfl 0 (by decide) (hts _ (List.mem_cons_of_mem _ mGB_103)) (fun _ h9 => h9) rfl dX12_isMonth_4 ?_
  refine lv_iconst (v := 1) hx hb dX12_isMonth_7 (by decide) ?_
  refine lv_isub hx hb dX12_isMonth_8 ?_
  refine lv_topi (fun x_6 ex_6 => ?_)
  have gx_6 : gi x_6 (-1) 23 := gi_sub ex_6 gmi_0 (gi_c 1 1 (by decide)) (by decide)
  refine lv_i2l (v := (x_6).toInt64) hx hb dX12_isMonth_9 rfl ?_
  refine lv_topl (fun l_7 el_7 => ?_)
  have hPc := hP.sub (ws' := []) [] rfl
  have hKc := hK.sub (tys' := []) [] rfl
  refine va_calli (va_runS (As := [.long l_5, .long 0, .long l_7]) (rest := []) ⟨hx, hb, hml, hown, hts⟩ (sX12_in l dC dI l_5 0 l_7) (cwS 3 hts (gz_gS mGB_47 mGB_48 mGB_1 mGB_49 goodGB) rfl rfl rfl (by decide +kernel) ⟨Nat.le_of_ble_eq_true rfl, Nat.le_of_ble_eq_true rfl⟩) ⟨fun a U g mk q => by obtain ⟨q0, qP, qK⟩ := q; exact ⟨q0, qP, va_K.moved (u := U) (U := U.calling g mk a) (Vm.Alike.refl U.vm) qK⟩, fun U hU hW => ⟨rfl, by rw [hU]; exact hPc, va_K.moved hW.alike hKc⟩⟩ rfl rfl hl.1 rfl (lv_room (Nat.le_of_ble_eq_true rfl)) dX12_isMonth_10 ⟨Nat.zero_le _, Nat.zero_le _⟩) hS (fun q _ h => h.elim) (fun q h => h.elim) (fun r_8 u t H1 locs ht hvm hw hB hz1 hk1 hS => ?_)
  have hP := gz_keep hP hk1
  generalize H1 = H at hP hS ⊢
  have gr_8 : gi r_8 0 1 := hw.1
  have hqr_8 := hw.2
  exact W.zret (v := r_8) hx hb hr (gz_nb gr_8) (fun t ht hW => ⟨⟨r_8, (), rfl, ⟨gr_8, (fun h1 => (gi_w (gz_inr (hqr_8.1 h1) el_5 (A := 0) (B := 23) (by decide) (gz_l2u el_7 gx_6)) (by decide)))⟩, trivial⟩, hS.F ht⟩) hS.2.2 dX12_isMonth_13
