theorem dX12_isKnown_0 : decode cX12_isKnown 0 = .ok (.aload_n 0, 1) := by decide +kernel
theorem dX12_isKnown_1 : decode cX12_isKnown 1 = .ok (.getfield 22, 3) := by decide +kernel
theorem dX12_isKnown_4 : decode cX12_isKnown 4 = .ok (.iload_n 1, 1) := by decide +kernel
theorem dX12_isKnown_5 : decode cX12_isKnown 5 = .ok (.baload, 1) := by decide +kernel
theorem dX12_isKnown_6 : decode cX12_isKnown 6 = .ok (.ifCond .ne 17, 3) := by decide +kernel
theorem dX12_isKnown_9 : decode cX12_isKnown 9 = .ok (.aload_n 0, 1) := by decide +kernel
theorem dX12_isKnown_10 : decode cX12_isKnown 10 = .ok (.getfield 32, 3) := by decide +kernel
theorem dX12_isKnown_13 : decode cX12_isKnown 13 = .ok (.iload_n 1, 1) := by decide +kernel
theorem dX12_isKnown_14 : decode cX12_isKnown 14 = .ok (.iaload, 1) := by decide +kernel
theorem dX12_isKnown_15 : decode cX12_isKnown 15 = .ok (.iload_n 2, 1) := by decide +kernel
theorem dX12_isKnown_16 : decode cX12_isKnown 16 = .ok (.if_icmp .gt 7, 3) := by decide +kernel
theorem dX12_isKnown_19 : decode cX12_isKnown 19 = .ok (.iconst 1, 1) := by decide +kernel
theorem dX12_isKnown_20 : decode cX12_isKnown 20 = .ok (.goto 4, 3) := by decide +kernel
theorem dX12_isKnown_23 : decode cX12_isKnown 23 = .ok (.iconst 0, 1) := by decide +kernel
theorem dX12_isKnown_24 : decode cX12_isKnown 24 = .ok (.ireturn, 1) := by decide +kernel
set_option maxHeartbeats 4000000 in
set_option maxRecDepth 100000 in
theorem sX12_isKnown (l : Launch) (dC : Nat → ClassId) (dI : Nat → Nat → Nat) (h0 : Nat) (mi : Nat → Int32) (mr : Nat → Nat) (km_struck : ClassId) (fm_struck : Nat → Int32) (km_reportKnown : ClassId) (fm_reportKnown : Nat → Int32) (p1 : Int32) (p2 : Int32) (gmi_0 : gi (mi 0) 0 24) (gmi_1 : gi (mi 1) 0 5) (gmi_2 : gi (mi 2) 0 5) (gmi_4 : gi (mi 4) 0 1) (gmi_7 : gi (mi 7) 0 6) (gmi_10 : gi (mi 10) 0 24) (gmi_17 : gi (mi 17) 0 8) (gmi_23 : gi (mi 23) 0 300) (gmi_24 : gi (mi 24) 0 1) (gmi_26 : gi (mi 26) 0 1600) (gmi_29 : gi (mi 29) 0 1600) (gmi_30 : gi (mi 30) 0 1600) (gmi_33 : gi (mi 33) 0 1) (gmi_37 : gi (mi 37) 0 1) (gmi_41 : gi (mi 41) 0 24) (gmi_50 : gi (mi 50) 0 1) (gmi_51 : gi (mi 51) 0 1) (gmi_56 : gi (mi 56) 0 80) (gfm_struck : ga fm_struck 24 0 1) (gfm_reportKnown : ga fm_reportKnown 24 0 999) (gp1 : gi p1 0 23) : Met l yX12_isKnown (.code yX12_isKnown cX12_isKnown 3 (some .boolean) :: wsGB) ({ frames := 0, cells := 0, slots := 0, locals := 0 }) (va_Pc [.ref h0, .int p1, .int p2] (fun U => va_P (dC, dI) vwCl [(h0, .inr (12, fsMM mi mr)), ((mr 4), .inl (km_struck, 24, .inl fm_struck)), ((mr 7), .inl (km_reportKnown, 24, .inl fm_reportKnown))] U.heap ∧ va_K (dC, dI) vwCl [(km_struck, .boolean), (km_reportKnown, .int)] U)) (va_Qi (fun (r : Int32) (u : Unit) => gi r 0 1) (fun _ _ => True) (fun _ => False)) 0 0 (fun _ => False) := by
  refine Met.ofW (cc := cX12_isKnown) (maxL := 3) (ret := (some .boolean)) (by decide) rfl ?_
  intro p e s m args below meth c s₁ B hml hv
  obtain ⟨rfl, hP, hK⟩ := hv
  have hx := B.exec
  have hb := B.bytes
  have hr := B.returns
  have hts := atoms_spec (ws := (.code yX12_isKnown cX12_isKnown 3 (some .boolean) :: wsGB)) B.pre
  have hown : s.vm.findClass RX12 = some m.cls := findClass_of_methodNamed B.named
  have hlocks := B.notSynchronized
  have hS : va_S (fun _ => False) s.heap s.heap [] := va_S.rf
  have hl := lv_entry ([.ref h0, .int p1, .int p2]) (n := 3) (Nat.le_of_ble_eq_true rfl)
  rw [lg_entry_eq]
  generalize (lg_sl ([.ref h0, .int p1, .int p2]) ++ List.replicate (3 - (lg_sl ([.ref h0, .int p1, .int p2])).length) Slot.unset).toArray = ls at hl ⊢
  have hl : lv_has ls 3 [(0, .ref h0), (1, .int p1), (2, .int p2)] := hl
  refine lv_aload_n hx hb dX12_isKnown_0 rfl (lv_at hl 0 rfl) ?_
  refine va_get (D := (dC, dI)) (ci := 12) (v := .ref (mr 4)) (C := RX12) (T := TX12) (N := 57) hx hb hts (fun w h => List.mem_cons_of_mem _ (jnGB_X12 w h)) hown hK hP 0 rfl rfl 13 (by decide) (hts _ (List.mem_cons_of_mem _ mGB_15)) (fun _ h9 => h9) rfl dX12_isKnown_1 ?_
  refine lv_iload_n hx hb dX12_isKnown_4 rfl (lv_at hl 1 rfl) ?_
  refine va_zald hx hb hK hP 1 0 rfl rfl (gi_in gp1 (by decide)) dX12_isKnown_5 ?_
  refine lv_topi (fun x_9 ex_9 => ?_)
  have gx_9 : gi x_9 0 1 := ga_at gfm_struck (gi_in gp1 (by decide)) ex_9
  refine lv_if_ne (tgt := 23) hx hb dX12_isKnown_6 (by decide) (fun c_10 => ?_) (fun c_10 => ?_)
  · have g_11 : gi x_9 1 1 := gi_ne_lo c_10 gx_9 (gi_c 0 0 (by decide)) (by decide)
    refine lv_iconst (v := 0) hx hb dX12_isKnown_23 (by decide) ?_
    exact W.zret (v := 0) hx hb hr (by decide) (fun t ht hW => ⟨⟨0, (), rfl, (gi_w (gi_c 0 0 (by decide)) (by decide)), trivial⟩, hS.F ht⟩) hS.2.2 dX12_isKnown_24
  · have g_12 : gi x_9 0 0 := gi_eq c_10 (gi_c 0 0 (by decide))
    refine lv_aload_n hx hb dX12_isKnown_9 rfl (lv_at hl 0 rfl) ?_
    refine va_get (D := (dC, dI)) (ci := 12) (v := .ref (mr 7)) (C := RX12) (T := TX12) (N := 57) hx hb hts (fun w h => List.mem_cons_of_mem _ (jnGB_X12 w h)) hown hK hP 0 rfl rfl 16 (by decide) (hts _ (List.mem_cons_of_mem _ mGB_18)) (fun _ h9 => h9) rfl dX12_isKnown_10 ?_
    refine lv_iload_n hx hb dX12_isKnown_13 rfl (lv_at hl 1 rfl) ?_
    refine va_iald hx hb hK hP 2 1 rfl rfl (gi_in gp1 (by decide)) dX12_isKnown_14 ?_
    refine lv_topi (fun x_13 ex_13 => ?_)
    have gx_13 : gi x_13 0 999 := ga_at gfm_reportKnown (gi_in gp1 (by decide)) ex_13
    refine lv_iload_n hx hb dX12_isKnown_15 rfl (lv_at hl 2 rfl) ?_
    refine lv_icmp_gt (tgt := 23) hx hb dX12_isKnown_16 (by decide) (fun c_14 => ?_) (fun c_14 => ?_)
    · have g_15 : gi p2 (-2147483648) 998 := gi_lt_l c_14 (gi_any p2) gx_13 (by decide)
      refine lv_iconst (v := 0) hx hb dX12_isKnown_23 (by decide) ?_
      exact W.zret (v := 0) hx hb hr (by decide) (fun t ht hW => ⟨⟨0, (), rfl, (gi_w (gi_c 0 0 (by decide)) (by decide)), trivial⟩, hS.F ht⟩) hS.2.2 dX12_isKnown_24
    · have g_16 : gi p2 0 2147483647 := gi_le_r (Int32.not_lt.mp c_14) gx_13 (gi_any p2)
      refine lv_iconst (v := 1) hx hb dX12_isKnown_19 (by decide) ?_
      refine lv_goto (tgt := 24) hx hb dX12_isKnown_20 (by decide) ?_
      exact W.zret (v := 1) hx hb hr (by decide) (fun t ht hW => ⟨⟨1, (), rfl, (gi_w (gi_c 1 1 (by decide)) (by decide)), trivial⟩, hS.F ht⟩) hS.2.2 dX12_isKnown_24
