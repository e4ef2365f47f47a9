set_option maxHeartbeats 4000000 in
set_option maxRecDepth 100000 in
theorem sX12_isTimeC (l : Launch) (dC : Nat → ClassId) (dI : Nat → Nat → Nat) (h0 : Nat) (mi : Nat → Int32) (mr : Nat → Nat) (p1 : Int32) (gmi_0 : gi (mi 0) 0 24) (gmi_1 : gi (mi 1) 0 5) (gmi_2 : gi (mi 2) 0 5) (gmi_4 : gi (mi 4) 0 1) (gmi_7 : gi (mi 7) 0 6) (gmi_10 : gi (mi 10) 0 24) (gmi_17 : gi (mi 17) 0 8) (gmi_23 : gi (mi 23) 0 300) (gmi_24 : gi (mi 24) 0 1) (gmi_26 : gi (mi 26) 0 1600) (gmi_29 : gi (mi 29) 0 1600) (gmi_30 : gi (mi 30) 0 1600) (gmi_33 : gi (mi 33) 0 1) (gmi_37 : gi (mi 37) 0 1) (gmi_41 : gi (mi 41) 0 24) (gmi_50 : gi (mi 50) 0 1) (gmi_51 : gi (mi 51) 0 1) (gmi_56 : gi (mi 56) 0 80) : Met l yX12_isTime (.code yX12_isTime cX12_isTime 2 (some .boolean) :: wsGB) ({ frames := 1, cells := 0, slots := 0, locals := 25 }) (va_Pc [.ref h0, .int p1] (fun U => va_P (dC, dI) vwCl [(h0, .inr (12, fsMM mi mr))] U.heap ∧ va_K (dC, dI) vwCl [] U)) (va_Qi (fun (r : Int32) (u : Unit) => gi r 0 1 ∧ (r.toInt = 1 → 0 < (mi 3).toInt) ∧ (r.toInt = 0 → 0 = 0)) (fun _ _ => True) (fun _ => False)) 0 0 (fun _ => False) := by
  refine Met.ofW (cc := cX12_isTime) (maxL := 2) (ret := (some .boolean)) (by decide) rfl ?_
  intro p e s m args below meth c s₁ B hml hv
  obtain ⟨rfl, hP, hK⟩ := hv
  have hx := B.exec
  have hb := B.bytes
  have hr := B.returns
  have hts := atoms_spec (ws := (.code yX12_isTime cX12_isTime 2 (some .boolean) :: wsGB)) B.pre
  have hown : s.vm.findClass RX12 = some m.cls := findClass_of_methodNamed B.named
  have hlocks := B.notSynchronized
  have hS : va_S (fun _ => False) s.heap s.heap [] := va_S.rf
  have hl := lv_entry ([.ref h0, .int p1]) (n := 2) (Nat.le_of_ble_eq_true rfl)
  rw [lg_entry_eq]
  generalize (lg_sl ([.ref h0, .int p1]) ++ List.replicate (2 - (lg_sl ([.ref h0, .int p1])).length) Slot.unset).toArray = ls at hl ⊢
  have hl : lv_has ls 2 [(0, .ref h0), (1, .int p1)] := hl
  refine lv_aload_n hx hb dX12_isTime_0 rfl (lv_at hl 0 rfl) ?_
  refine va_get (D := (dC, dI)) (ci := 12) (v := .int (mi 3)) (C := RX12) (T := TX12) (N := 57) hx hb hts (fun w h => List.mem_cons_of_mem _ (jnGB_X12 w h)) hown hK hP 0 rfl rfl 3 (by decide) (hts _ (List.mem_cons_of_mem _ mGB_106)) (fun _ h9 => h9) rfl dX12_isTime_1 ?_
  refine lv_if_le (tgt := 23) hx hb dX12_isTime_4 (by decide) (fun c_16 => ?_) (fun c_16 => ?_)
  · have hc_17 : (mi 3).toInt ≤ 0 := by have h9 := Int32.le_iff_toInt_le.mp c_16; rw [show (0 : Int32).toInt = 0 from by decide] at h9; exact h9
    have g_18 : gi (mi 3) (-2147483648) 0 := gi_le_l c_16 (gi_any (mi 3)) (gi_c 0 0 (by decide))
    refine lv_iconst (v := 0) hx hb dX12_isTime_23 (by decide) ?_
    exact W.zret (v := 0) hx hb hr (by decide) (fun t ht hW => ⟨⟨0, (), rfl, ⟨(gi_w (gi_c 0 0 (by decide)) (by decide)), ⟨fun h9 => absurd h9 (by decide), fun _ => (show 0 = 0 from by have qgmi_3 := g_18.1; have rgmi_3 := g_18.2; omega)⟩⟩, trivial⟩, hS.F ht⟩) hS.2.2 dX12_isTime_24
  · have hc_19 : 0 < (mi 3).toInt := by have h9 := Int32.lt_iff_toInt_lt.mp (Int32.not_le.mp c_16); rw [show (0 : Int32).toInt = 0 from by decide] at h9; exact h9
    have g_20 : gi (mi 3) 1 2147483647 := gi_lt_r (Int32.not_le.mp c_16) (gi_c 0 0 (by decide)) (gi_any (mi 3)) (by decide)
    refine lv_iload_n hx hb dX12_isTime_7 rfl (lv_at hl 1 rfl) ?_
    refine lv_i2l (v := (p1).toInt64) hx hb dX12_isTime_8 rfl ?_
    refine lv_topl (fun l_21 el_21 => ?_)
    refine lv_lconst (v := 0) hx hb dX12_isTime_9 (by decide) ?_
    refine lv_ldc2 (own := RX12) (v := 999) hx hb hown (hts _ (List.mem_cons_of_mem _ mGB_260)) dX12_isTime_10 ?_
    have hPc := hP.sub (ws' := []) [] rfl
    have hKc := hK.sub (tys' := []) [] rfl
    refine va_calli (va_runS (As := [.long l_21, .long 0, .long 999]) (rest := []) ⟨hx, hb, hml, hown, hts⟩ (sX12_in l dC dI l_21 0 999) (cwS 3 hts (gz_gS mGB_47 mGB_48 mGB_1 mGB_49 goodGB) rfl rfl rfl (by decide +kernel) ⟨Nat.le_of_ble_eq_true rfl, Nat.le_of_ble_eq_true rfl⟩) ⟨fun a U g mk q => by obtain ⟨q0, qP, qK⟩ := q; exact ⟨q0, qP, va_K.moved (u := U) (U := U.calling g mk a) (Vm.Alike.refl U.vm) qK⟩, fun U hU hW => ⟨rfl, by rw [hU]; exact hPc, va_K.moved hW.alike hKc⟩⟩ rfl rfl hl.1 rfl (lv_room (Nat.le_of_ble_eq_true rfl)) dX12_isTime_13 ⟨Nat.zero_le _, Nat.zero_le _⟩) hS (fun q _ h => h.elim) (fun q h => h.elim) (fun r_22 u t H1 locs ht hvm hw hB hz1 hk1 hS => ?_)
    have hP := gz_keep hP hk1
    generalize H1 = H at hP hS ⊢
    have gr_22 : gi r_22 0 1 := hw.1
    have hqr_22 := hw.2
    refine lv_if_eq (tgt := 23) hx hb dX12_isTime_16 (by decide) (fun c_23 => ?_) (fun c_23 => ?_)
    · have hc_24 : r_22.toInt = 0 := by have h9 := congrArg Int32.toInt c_23; rw [show (0 : Int32).toInt = 0 from by decide] at h9; exact h9
      have g_25 : gi r_22 0 0 := gi_eq c_23 (gi_c 0 0 (by decide))
      have hno_26 := gz_inF (A := 0) (B := 999) (hqr_22.2 (gz_zero1 g_25)) el_21 (by decide) (by decide)
      refine lv_iconst (v := 0) hx hb dX12_isTime_23 (by decide) ?_
      exact W.zret (v := 0) hx hb hr (by decide) (fun t ht hW => ⟨⟨0, (), rfl, ⟨(gi_w (gi_c 0 0 (by decide)) (by decide)), ⟨fun h9 => absurd h9 (by decide), fun _ => (show 0 = 0 from by have qgr_22 := g_25.1; have rgr_22 := g_25.2; have qgmi_3 := g_20.1; have rgmi_3 := g_20.2; omega)⟩⟩, trivial⟩, hS.F ht⟩) hS.2.2 dX12_isTime_24
    · have hc_27 : r_22.toInt ≠ 0 := fun h9 => c_23 (Int32.toInt_inj.mp (by rw [show (0 : Int32).toInt = 0 from by decide]; exact h9))
      have g_28 : gi r_22 1 1 := gi_ne_lo c_23 gr_22 (gi_c 0 0 (by decide)) (by decide)
      have hin_29 := gz_inT (A := 0) (B := 999) (hqr_22.1 (gz_one g_28)) el_21 (by decide) (by decide)
      have g_30 : gi p1 0 999 := gi_cap (gi_any p1) (gz_inr (hqr_22.1 (gz_one g_28)) el_21 (A := 0) (B := 999) (by decide) (by decide)) (by decide)
      refine lv_iconst (v := 1) hx hb dX12_isTime_19 (by decide) ?_
      refine lv_goto (tgt := 24) hx hb dX12_isTime_20 (by decide) ?_
      exact W.zret (v := 1) hx hb hr (by decide) (fun t ht hW => ⟨⟨1, (), rfl, ⟨(gi_w (gi_c 1 1 (by decide)) (by decide)), ⟨fun _ => (show 0 < (mi 3).toInt from by have qgr_22 := g_28.1; have rgr_22 := g_28.2; have qgmi_3 := g_20.1; have rgmi_3 := g_20.2; omega), fun h9 => absurd h9 (by decide)⟩⟩, trivial⟩, hS.F ht⟩) hS.2.2 dX12_isTime_24
