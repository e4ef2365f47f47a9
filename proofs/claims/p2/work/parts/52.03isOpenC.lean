set_option maxHeartbeats 4000000 in
set_option maxRecDepth 100000 in
theorem sX12_isOpenC (l : Launch) (dC : Nat → ClassId) (dI : Nat → Nat → Nat) (h0 : Nat) (mi : Nat → Int32) (mr : Nat → Nat) (km_must : ClassId) (fm_must : Nat → Int32) (km_least : ClassId) (fm_least : Nat → Int32) (km_pin : ClassId) (fm_pin : Nat → Int32) (p1 : Int32) (p2 : Int32) (gmi_0 : gi (mi 0) 0 24) (gmi_1 : gi (mi 1) 0 5) (gmi_2 : gi (mi 2) 0 5) (gmi_4 : gi (mi 4) 0 1) (gmi_7 : gi (mi 7) 0 6) (gmi_10 : gi (mi 10) 0 24) (gmi_17 : gi (mi 17) 0 8) (gmi_23 : gi (mi 23) 0 300) (gmi_24 : gi (mi 24) 0 1) (gmi_26 : gi (mi 26) 0 1600) (gmi_29 : gi (mi 29) 0 1600) (gmi_30 : gi (mi 30) 0 1600) (gmi_33 : gi (mi 33) 0 1) (gmi_37 : gi (mi 37) 0 1) (gmi_41 : gi (mi 41) 0 24) (gmi_50 : gi (mi 50) 0 1) (gmi_51 : gi (mi 51) 0 1) (gmi_56 : gi (mi 56) 0 80) (gp1 : gi p1 0 24) : Met l yX12_isOpen (.code yX12_isOpen cX12_isOpen 3 (some .boolean) :: wsGB) ({ frames := 0, cells := 0, slots := 0, locals := 0 }) (va_Pc [.ref h0, .int p1, .int p2] (fun U => va_P (dC, dI) vwCl [(h0, .inr (12, fsMM mi mr)), ((mr 14), .inl (km_must, 25, .inl fm_must)), ((mr 15), .inl (km_least, 25, .inl fm_least)), ((mr 16), .inl (km_pin, 25, .inl fm_pin))] U.heap ∧ va_K (dC, dI) vwCl [(km_must, .int), (km_least, .int), (km_pin, .int)] U)) (va_Qi (fun (r : Int32) (u : Unit) => gi r 0 1 ∧ (r.toInt = 1 → (((fm_must p1.toNatClampNeg).toInt = -1 ∨ (fm_must p1.toNatClampNeg).toInt = p2.toInt) ∧ (fm_least p1.toNatClampNeg).toInt ≤ p2.toInt ∧ ((fm_pin p1.toNatClampNeg).toInt = -1 ∨ (fm_pin p1.toNatClampNeg).toInt = p2.toInt))) ∧ (r.toInt = 0 → (¬ (((fm_must p1.toNatClampNeg).toInt = -1 ∨ (fm_must p1.toNatClampNeg).toInt = p2.toInt) ∧ (fm_least p1.toNatClampNeg).toInt ≤ p2.toInt ∧ ((fm_pin p1.toNatClampNeg).toInt = -1 ∨ (fm_pin p1.toNatClampNeg).toInt = p2.toInt))))) (fun _ _ => True) (fun _ => False)) 0 0 (fun _ => False) := by
  refine Met.ofW (cc := cX12_isOpen) (maxL := 3) (ret := (some .boolean)) (by decide) rfl ?_
  intro p e s m args below meth c s₁ B hml hv
  obtain ⟨rfl, hP, hK⟩ := hv
  have hx := B.exec
  have hb := B.bytes
  have hr := B.returns
  have hts := atoms_spec (ws := (.code yX12_isOpen cX12_isOpen 3 (some .boolean) :: wsGB)) B.pre
  have hown : s.vm.findClass RX12 = some m.cls := findClass_of_methodNamed B.named
  have hlocks := B.notSynchronized
  have hS : va_S (fun _ => False) s.heap s.heap [] := va_S.rf
  have hl := lv_entry ([.ref h0, .int p1, .int p2]) (n := 3) (Nat.le_of_ble_eq_true rfl)
  rw [lg_entry_eq]
  generalize (lg_sl ([.ref h0, .int p1, .int p2]) ++ List.replicate (3 - (lg_sl ([.ref h0, .int p1, .int p2])).length) Slot.unset).toArray = ls at hl ⊢
  have hl : lv_has ls 3 [(0, .ref h0), (1, .int p1), (2, .int p2)] := hl
  refine lv_aload_n hx hb dX12_isOpen_0 rfl (lv_at hl 0 rfl) ?_
  refine va_get (D := (dC, dI)) (ci := 12) (v := .ref (mr 14)) (C := RX12) (T := TX12) (N := 57) hx hb hts (fun w h => List.mem_cons_of_mem _ (jnGB_X12 w h)) hown hK hP 0 rfl rfl 34 (by decide) (hts _ (List.mem_cons_of_mem _ mGB_26)) (fun _ h9 => h9) rfl dX12_isOpen_1 ?_
  refine lv_iload_n hx hb dX12_isOpen_4 rfl (lv_at hl 1 rfl) ?_
  refine va_iald hx hb hK hP 1 0 rfl rfl (gi_in gp1 (by decide)) dX12_isOpen_5 ?_
  refine lv_topi (fun x_40 ex_40 => ?_)
  have hlx_40 : x_40.toInt = (fm_must p1.toNatClampNeg).toInt := congrArg Int32.toInt ex_40
  refine lv_iconst (v := (-1)) hx hb dX12_isOpen_6 (by decide) ?_
  refine lv_icmp_eq (tgt := 20) hx hb dX12_isOpen_7 (by decide) (fun c_41 => ?_) (fun c_41 => ?_)
  · have hc_42 : x_40.toInt = (-1) := by have h9 := congrArg Int32.toInt c_41; rw [show ((-1) : Int32).toInt = (-1) from by decide] at h9; exact h9
    have g_43 : gi x_40 (-1) (-1) := gi_eq c_41 (gi_c (-1) (-1) (by decide))
    refine lv_iload_n hx hb dX12_isOpen_20 rfl (lv_at hl 2 rfl) ?_
    refine lv_aload_n hx hb dX12_isOpen_21 rfl (lv_at hl 0 rfl) ?_
    refine va_get (D := (dC, dI)) (ci := 12) (v := .ref (mr 15)) (C := RX12) (T := TX12) (N := 57) hx hb hts (fun w h => List.mem_cons_of_mem _ (jnGB_X12 w h)) hown hK hP 0 rfl rfl 35 (by decide) (hts _ (List.mem_cons_of_mem _ mGB_27)) (fun _ h9 => h9) rfl dX12_isOpen_22 ?_
    refine lv_iload_n hx hb dX12_isOpen_25 rfl (lv_at hl 1 rfl) ?_
    refine va_iald hx hb hK hP 2 1 rfl rfl (gi_in gp1 (by decide)) dX12_isOpen_26 ?_
    refine lv_topi (fun x_44 ex_44 => ?_)
    have hlx_44 : x_44.toInt = (fm_least p1.toNatClampNeg).toInt := congrArg Int32.toInt ex_44
    refine lv_icmp_lt (tgt := 54) hx hb dX12_isOpen_27 (by decide) (fun c_45 => ?_) (fun c_45 => ?_)
    · have hc_46 : p2.toInt < x_44.toInt := by have h9 := Int32.lt_iff_toInt_lt.mp c_45; exact h9
      have g_47 : gi p2 (-2147483648) 2147483646 := gi_lt_l c_45 (gi_any p2) (gi_any x_44) (by decide)
      have g_48 : gi x_44 (-2147483647) 2147483647 := gi_lt_r c_45 (gi_any p2) (gi_any x_44) (by decide)
      refine lv_iconst (v := 0) hx hb dX12_isOpen_54 (by decide) ?_
      exact W.zret (v := 0) hx hb hr (by decide) (fun t ht hW => ⟨⟨0, (), rfl, ⟨(gi_w (gi_c 0 0 (by decide)) (by decide)), ⟨fun h9 => absurd h9 (by decide), fun _ => (show (¬ (((fm_must p1.toNatClampNeg).toInt = -1 ∨ (fm_must p1.toNatClampNeg).toInt = p2.toInt) ∧ (fm_least p1.toNatClampNeg).toInt ≤ p2.toInt ∧ ((fm_pin p1.toNatClampNeg).toInt = -1 ∨ (fm_pin p1.toNatClampNeg).toInt = p2.toInt))) from by have qgx_44 := g_48.1; have rgx_44 := g_48.2; have qgx_40 := g_43.1; have rgx_40 := g_43.2; have qgp2 := g_47.1; have rgp2 := g_47.2; have qgp1 := gp1.1; have rgp1 := gp1.2; omega)⟩⟩, trivial⟩, hS.F ht⟩) hS.2.2 dX12_isOpen_55
    · have hc_49 : x_44.toInt ≤ p2.toInt := by have h9 := Int32.le_iff_toInt_le.mp (Int32.not_lt.mp c_45); exact h9
      refine lv_aload_n hx hb dX12_isOpen_30 rfl (lv_at hl 0 rfl) ?_
      refine va_get (D := (dC, dI)) (ci := 12) (v := .ref (mr 16)) (C := RX12) (T := TX12) (N := 57) hx hb hts (fun w h => List.mem_cons_of_mem _ (jnGB_X12 w h)) hown hK hP 0 rfl rfl 36 (by decide) (hts _ (List.mem_cons_of_mem _ mGB_28)) (fun _ h9 => h9) rfl dX12_isOpen_31 ?_
      refine lv_iload_n hx hb dX12_isOpen_34 rfl (lv_at hl 1 rfl) ?_
      refine va_iald hx hb hK hP 3 2 rfl rfl (gi_in gp1 (by decide)) dX12_isOpen_35 ?_
      refine lv_topi (fun x_50 ex_50 => ?_)
      have hlx_50 : x_50.toInt = (fm_pin p1.toNatClampNeg).toInt := congrArg Int32.toInt ex_50
      refine lv_iconst (v := (-1)) hx hb dX12_isOpen_36 (by decide) ?_
      refine lv_icmp_eq (tgt := 50) hx hb dX12_isOpen_37 (by decide) (fun c_51 => ?_) (fun c_51 => ?_)
      · have hc_52 : x_50.toInt = (-1) := by have h9 := congrArg Int32.toInt c_51; rw [show ((-1) : Int32).toInt = (-1) from by decide] at h9; exact h9
        have g_53 : gi x_50 (-1) (-1) := gi_eq c_51 (gi_c (-1) (-1) (by decide))
        refine lv_iconst (v := 1) hx hb dX12_isOpen_50 (by decide) ?_
        refine lv_goto (tgt := 55) hx hb dX12_isOpen_51 (by decide) ?_
        exact W.zret (v := 1) hx hb hr (by decide) (fun t ht hW => ⟨⟨1, (), rfl, ⟨(gi_w (gi_c 1 1 (by decide)) (by decide)), ⟨fun _ => (show (((fm_must p1.toNatClampNeg).toInt = -1 ∨ (fm_must p1.toNatClampNeg).toInt = p2.toInt) ∧ (fm_least p1.toNatClampNeg).toInt ≤ p2.toInt ∧ ((fm_pin p1.toNatClampNeg).toInt = -1 ∨ (fm_pin p1.toNatClampNeg).toInt = p2.toInt)) from by have qgx_50 := g_53.1; have rgx_50 := g_53.2; have qgx_40 := g_43.1; have rgx_40 := g_43.2; have qgp1 := gp1.1; have rgp1 := gp1.2; omega), fun h9 => absurd h9 (by decide)⟩⟩, trivial⟩, hS.F ht⟩) hS.2.2 dX12_isOpen_55
      · have hc_54 : x_50.toInt ≠ (-1) := fun h9 => c_51 (Int32.toInt_inj.mp (by rw [show ((-1) : Int32).toInt = (-1) from by decide]; exact h9))
        refine lv_aload_n hx hb dX12_isOpen_40 rfl (lv_at hl 0 rfl) ?_
        refine va_get (D := (dC, dI)) (ci := 12) (v := .ref (mr 16)) (C := RX12) (T := TX12) (N := 57) hx hb hts (fun w h => List.mem_cons_of_mem _ (jnGB_X12 w h)) hown hK hP 0 rfl rfl 36 (by decide) (hts _ (List.mem_cons_of_mem _ mGB_28)) (fun _ h9 => h9) rfl dX12_isOpen_41 ?_
        refine lv_iload_n hx hb dX12_isOpen_44 rfl (lv_at hl 1 rfl) ?_
        refine va_iald hx hb hK hP 3 2 rfl rfl (gi_in gp1 (by decide)) dX12_isOpen_45 ?_
        refine lv_topi (fun x_55 ex_55 => ?_)
        have hlx_55 : x_55.toInt = (fm_pin p1.toNatClampNeg).toInt := congrArg Int32.toInt ex_55
        refine lv_iload_n hx hb dX12_isOpen_46 rfl (lv_at hl 2 rfl) ?_
        refine lv_icmp_ne (tgt := 54) hx hb dX12_isOpen_47 (by decide) (fun c_56 => ?_) (fun c_56 => ?_)
        · have hc_57 : x_55.toInt ≠ p2.toInt := fun h9 => c_56 (Int32.toInt_inj.mp (by exact h9))
          refine lv_iconst (v := 0) hx hb dX12_isOpen_54 (by decide) ?_
          exact W.zret (v := 0) hx hb hr (by decide) (fun t ht hW => ⟨⟨0, (), rfl, ⟨(gi_w (gi_c 0 0 (by decide)) (by decide)), ⟨fun h9 => absurd h9 (by decide), fun _ => (show (¬ (((fm_must p1.toNatClampNeg).toInt = -1 ∨ (fm_must p1.toNatClampNeg).toInt = p2.toInt) ∧ (fm_least p1.toNatClampNeg).toInt ≤ p2.toInt ∧ ((fm_pin p1.toNatClampNeg).toInt = -1 ∨ (fm_pin p1.toNatClampNeg).toInt = p2.toInt))) from by have qgx_40 := g_43.1; have rgx_40 := g_43.2; have qgp1 := gp1.1; have rgp1 := gp1.2; omega)⟩⟩, trivial⟩, hS.F ht⟩) hS.2.2 dX12_isOpen_55
        · have hc_58 : x_55.toInt = p2.toInt := by have h9 := congrArg Int32.toInt c_56; exact h9
          refine lv_iconst (v := 1) hx hb dX12_isOpen_50 (by decide) ?_
          refine lv_goto (tgt := 55) hx hb dX12_isOpen_51 (by decide) ?_
          exact W.zret (v := 1) hx hb hr (by decide) (fun t ht hW => ⟨⟨1, (), rfl, ⟨(gi_w (gi_c 1 1 (by decide)) (by decide)), ⟨fun _ => (show (((fm_must p1.toNatClampNeg).toInt = -1 ∨ (fm_must p1.toNatClampNeg).toInt = p2.toInt) ∧ (fm_least p1.toNatClampNeg).toInt ≤ p2.toInt ∧ ((fm_pin p1.toNatClampNeg).toInt = -1 ∨ (fm_pin p1.toNatClampNeg).toInt = p2.toInt)) from by have qgx_40 := g_43.1; have rgx_40 := g_43.2; have qgp1 := gp1.1; have rgp1 := gp1.2; omega), fun h9 => absurd h9 (by decide)⟩⟩, trivial⟩, hS.F ht⟩) hS.2.2 dX12_isOpen_55
  · have hc_59 : x_40.toInt ≠ (-1) := fun h9 => c_41 (Int32.toInt_inj.mp (by rw [show ((-1) : Int32).toInt = (-1) from by decide]; exact h9))
    refine lv_aload_n hx hb dX12_isOpen_10 rfl (lv_at hl 0 rfl) ?_
    refine va_get (D := (dC, dI)) (ci := 12) (v := .ref (mr 14)) (C := RX12) (T := TX12) (N := 57) hx hb hts (fun w h => List.mem_cons_of_mem _ (jnGB_X12 w h)) hown hK hP 0 rfl rfl 34 (by decide) (hts _ (List.mem_cons_of_mem _ mGB_26)) (fun _ h9 => h9) rfl dX12_isOpen_11 ?_
    refine lv_iload_n hx hb dX12_isOpen_14 rfl (lv_at hl 1 rfl) ?_
    refine va_iald hx hb hK hP 1 0 rfl rfl (gi_in gp1 (by decide)) dX12_isOpen_15 ?_
    refine lv_topi (fun x_60 ex_60 => ?_)
    have hlx_60 : x_60.toInt = (fm_must p1.toNatClampNeg).toInt := congrArg Int32.toInt ex_60
    refine lv_iload_n hx hb dX12_isOpen_16 rfl (lv_at hl 2 rfl) ?_
    refine lv_icmp_ne (tgt := 54) hx hb dX12_isOpen_17 (by decide) (fun c_61 => ?_) (fun c_61 => ?_)
    · have hc_62 : x_60.toInt ≠ p2.toInt := fun h9 => c_61 (Int32.toInt_inj.mp (by exact h9))
      refine lv_iconst (v := 0) hx hb dX12_isOpen_54 (by decide) ?_
      exact W.zret (v := 0) hx hb hr (by decide) (fun t ht hW => ⟨⟨0, (), rfl, ⟨(gi_w (gi_c 0 0 (by decide)) (by decide)), ⟨fun h9 => absurd h9 (by decide), fun _ => (show (¬ (((fm_must p1.toNatClampNeg).toInt = -1 ∨ (fm_must p1.toNatClampNeg).toInt = p2.toInt) ∧ (fm_least p1.toNatClampNeg).toInt ≤ p2.toInt ∧ ((fm_pin p1.toNatClampNeg).toInt = -1 ∨ (fm_pin p1.toNatClampNeg).toInt = p2.toInt))) from by have qgp1 := gp1.1; have rgp1 := gp1.2; omega)⟩⟩, trivial⟩, hS.F ht⟩) hS.2.2 dX12_isOpen_55
    · have hc_63 : x_60.toInt = p2.toInt := by have h9 := congrArg Int32.toInt c_61; exact h9
      refine lv_iload_n hx hb dX12_isOpen_20 rfl (lv_at hl 2 rfl) ?_
      refine lv_aload_n hx hb dX12_isOpen_21 rfl (lv_at hl 0 rfl) ?_
      refine va_get (D := (dC, dI)) (ci := 12) (v := .ref (mr 15)) (C := RX12) (T := TX12) (N := 57) hx hb hts (fun w h => List.mem_cons_of_mem _ (jnGB_X12 w h)) hown hK hP 0 rfl rfl 35 (by decide) (hts _ (List.mem_cons_of_mem _ mGB_27)) (fun _ h9 => h9) rfl dX12_isOpen_22 ?_
      refine lv_iload_n hx hb dX12_isOpen_25 rfl (lv_at hl 1 rfl) ?_
      refine va_iald hx hb hK hP 2 1 rfl rfl (gi_in gp1 (by decide)) dX12_isOpen_26 ?_
      refine lv_topi (fun x_64 ex_64 => ?_)
      have hlx_64 : x_64.toInt = (fm_least p1.toNatClampNeg).toInt := congrArg Int32.toInt ex_64
      refine lv_icmp_lt (tgt := 54) hx hb dX12_isOpen_27 (by decide) (fun c_65 => ?_) (fun c_65 => ?_)
      · have hc_66 : p2.toInt < x_64.toInt := by have h9 := Int32.lt_iff_toInt_lt.mp c_65; exact h9
        have g_67 : gi p2 (-2147483648) 2147483646 := gi_lt_l c_65 (gi_any p2) (gi_any x_64) (by decide)
        have g_68 : gi x_64 (-2147483647) 2147483647 := gi_lt_r c_65 (gi_any p2) (gi_any x_64) (by decide)
        refine lv_iconst (v := 0) hx hb dX12_isOpen_54 (by decide) ?_
        exact W.zret (v := 0) hx hb hr (by decide) (fun t ht hW => ⟨⟨0, (), rfl, ⟨(gi_w (gi_c 0 0 (by decide)) (by decide)), ⟨fun h9 => absurd h9 (by decide), fun _ => (show (¬ (((fm_must p1.toNatClampNeg).toInt = -1 ∨ (fm_must p1.toNatClampNeg).toInt = p2.toInt) ∧ (fm_least p1.toNatClampNeg).toInt ≤ p2.toInt ∧ ((fm_pin p1.toNatClampNeg).toInt = -1 ∨ (fm_pin p1.toNatClampNeg).toInt = p2.toInt))) from by have qgx_64 := g_68.1; have rgx_64 := g_68.2; have qgp2 := g_67.1; have rgp2 := g_67.2; have qgp1 := gp1.1; have rgp1 := gp1.2; omega)⟩⟩, trivial⟩, hS.F ht⟩) hS.2.2 dX12_isOpen_55
      · have hc_69 : x_64.toInt ≤ p2.toInt := by have h9 := Int32.le_iff_toInt_le.mp (Int32.not_lt.mp c_65); exact h9
        refine lv_aload_n hx hb dX12_isOpen_30 rfl (lv_at hl 0 rfl) ?_
        refine va_get (D := (dC, dI)) (ci := 12) (v := .ref (mr 16)) (C := RX12) (T := TX12) (N := 57) hx hb hts (fun w h => List.mem_cons_of_mem _ (jnGB_X12 w h)) hown hK hP 0 rfl rfl 36 (by decide) (hts _ (List.mem_cons_of_mem _ mGB_28)) (fun _ h9 => h9) rfl dX12_isOpen_31 ?_
        refine lv_iload_n hx hb dX12_isOpen_34 rfl (lv_at hl 1 rfl) ?_
        refine va_iald hx hb hK hP 3 2 rfl rfl (gi_in gp1 (by decide)) dX12_isOpen_35 ?_
        refine lv_topi (fun x_70 ex_70 => ?_)
        have hlx_70 : x_70.toInt = (fm_pin p1.toNatClampNeg).toInt := congrArg Int32.toInt ex_70
        refine lv_iconst (v := (-1)) hx hb dX12_isOpen_36 (by decide) ?_
        refine lv_icmp_eq (tgt := 50) hx hb dX12_isOpen_37 (by decide) (fun c_71 => ?_) (fun c_71 => ?_)
        · have hc_72 : x_70.toInt = (-1) := by have h9 := congrArg Int32.toInt c_71; rw [show ((-1) : Int32).toInt = (-1) from by decide] at h9; exact h9
          have g_73 : gi x_70 (-1) (-1) := gi_eq c_71 (gi_c (-1) (-1) (by decide))
          refine lv_iconst (v := 1) hx hb dX12_isOpen_50 (by decide) ?_
          refine lv_goto (tgt := 55) hx hb dX12_isOpen_51 (by decide) ?_
          exact W.zret (v := 1) hx hb hr (by decide) (fun t ht hW => ⟨⟨1, (), rfl, ⟨(gi_w (gi_c 1 1 (by decide)) (by decide)), ⟨fun _ => (show (((fm_must p1.toNatClampNeg).toInt = -1 ∨ (fm_must p1.toNatClampNeg).toInt = p2.toInt) ∧ (fm_least p1.toNatClampNeg).toInt ≤ p2.toInt ∧ ((fm_pin p1.toNatClampNeg).toInt = -1 ∨ (fm_pin p1.toNatClampNeg).toInt = p2.toInt)) from by have qgx_70 := g_73.1; have rgx_70 := g_73.2; have qgp1 := gp1.1; have rgp1 := gp1.2; omega), fun h9 => absurd h9 (by decide)⟩⟩, trivial⟩, hS.F ht⟩) hS.2.2 dX12_isOpen_55
        · have hc_74 : x_70.toInt ≠ (-1) := fun h9 => c_71 (Int32.toInt_inj.mp (by rw [show ((-1) : Int32).toInt = (-1) from by decide]; exact h9))
          refine lv_aload_n hx hb dX12_isOpen_40 rfl (lv_at hl 0 rfl) ?_
          refine va_get (D := (dC, dI)) (ci := 12) (v := .ref (mr 16)) (C := RX12) (T := TX12) (N := 57) hx hb hts (fun w h => List.mem_cons_of_mem _ (jnGB_X12 w h)) hown hK hP 0 rfl rfl 36 (by decide) (hts _ (List.mem_cons_of_mem _ mGB_28)) (fun _ h9 => h9) rfl dX12_isOpen_41 ?_
          refine lv_iload_n hx hb dX12_isOpen_44 rfl (lv_at hl 1 rfl) ?_
          refine va_iald hx hb hK hP 3 2 rfl rfl (gi_in gp1 (by decide)) dX12_isOpen_45 ?_
          refine lv_topi (fun x_75 ex_75 => ?_)
          have hlx_75 : x_75.toInt = (fm_pin p1.toNatClampNeg).toInt := congrArg Int32.toInt ex_75
          refine lv_iload_n hx hb dX12_isOpen_46 rfl (lv_at hl 2 rfl) ?_
          refine lv_icmp_ne (tgt := 54) hx hb dX12_isOpen_47 (by decide) (fun c_76 => ?_) (fun c_76 => ?_)
          · have hc_77 : x_75.toInt ≠ p2.toInt := fun h9 => c_76 (Int32.toInt_inj.mp (by exact h9))
            refine lv_iconst (v := 0) hx hb dX12_isOpen_54 (by decide) ?_
            exact W.zret (v := 0) hx hb hr (by decide) (fun t ht hW => ⟨⟨0, (), rfl, ⟨(gi_w (gi_c 0 0 (by decide)) (by decide)), ⟨fun h9 => absurd h9 (by decide), fun _ => (show (¬ (((fm_must p1.toNatClampNeg).toInt = -1 ∨ (fm_must p1.toNatClampNeg).toInt = p2.toInt) ∧ (fm_least p1.toNatClampNeg).toInt ≤ p2.toInt ∧ ((fm_pin p1.toNatClampNeg).toInt = -1 ∨ (fm_pin p1.toNatClampNeg).toInt = p2.toInt))) from by have qgp1 := gp1.1; have rgp1 := gp1.2; omega)⟩⟩, trivial⟩, hS.F ht⟩) hS.2.2 dX12_isOpen_55
          · have hc_78 : x_75.toInt = p2.toInt := by have h9 := congrArg Int32.toInt c_76; exact h9
            refine lv_iconst (v := 1) hx hb dX12_isOpen_50 (by decide) ?_
            refine lv_goto (tgt := 55) hx hb dX12_isOpen_51 (by decide) ?_
            exact W.zret (v := 1) hx hb hr (by decide) (fun t ht hW => ⟨⟨1, (), rfl, ⟨(gi_w (gi_c 1 1 (by decide)) (by decide)), ⟨fun _ => (show (((fm_must p1.toNatClampNeg).toInt = -1 ∨ (fm_must p1.toNatClampNeg).toInt = p2.toInt) ∧ (fm_least p1.toNatClampNeg).toInt ≤ p2.toInt ∧ ((fm_pin p1.toNatClampNeg).toInt = -1 ∨ (fm_pin p1.toNatClampNeg).toInt = p2.toInt)) from by have qgp1 := gp1.1; have rgp1 := gp1.2; omega), fun h9 => absurd h9 (by decide)⟩⟩, trivial⟩, hS.F ht⟩) hS.2.2 dX12_isOpen_55
