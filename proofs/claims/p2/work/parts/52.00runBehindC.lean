set_option maxHeartbeats 4000000 in
set_option maxRecDepth 100000 in
theorem sX12_runBehindC (l : Launch) (dC : Nat → ClassId) (dI : Nat → Nat → Nat) (h0 : Nat) (mi : Nat → Int32) (mr : Nat → Nat) (p1 : Int32) (p2 : Int32) (gmi_0 : gi (mi 0) 0 24) (gmi_1 : gi (mi 1) 0 5) (gmi_2 : gi (mi 2) 0 5) (gmi_4 : gi (mi 4) 0 1) (gmi_7 : gi (mi 7) 0 6) (gmi_10 : gi (mi 10) 0 24) (gmi_17 : gi (mi 17) 0 8) (gmi_23 : gi (mi 23) 0 300) (gmi_24 : gi (mi 24) 0 1) (gmi_26 : gi (mi 26) 0 1600) (gmi_29 : gi (mi 29) 0 1600) (gmi_30 : gi (mi 30) 0 1600) (gmi_33 : gi (mi 33) 0 1) (gmi_37 : gi (mi 37) 0 1) (gmi_41 : gi (mi 41) 0 24) (gmi_50 : gi (mi 50) 0 1) (gmi_51 : gi (mi 51) 0 1) (gmi_56 : gi (mi 56) 0 80) (gp1 : gi p1 (-1) 10) (gp2 : gi p2 0 1) : Met l yX12_runBehind (.code yX12_runBehind cX12_runBehind 4 (some .int) :: wsGB) ({ frames := 0, cells := 0, slots := 0, locals := 0 }) (va_Pc [.ref h0, .int p1, .int p2] (fun U => va_P (dC, dI) vwCl [(h0, .inr (12, fsMM mi mr))] U.heap ∧ va_K (dC, dI) vwCl [] U)) (va_Qi (fun (r : Int32) (u : Unit) => gi r (-1) 10 ∧ r.toInt = rbF (mi 1).toInt (mi 2).toInt p1.toInt p2.toInt) (fun _ _ => True) (fun _ => False)) 0 0 (fun _ => False) := by
  refine Met.ofW (cc := cX12_runBehind) (maxL := 4) (ret := (some .int)) (by decide) rfl ?_
  intro p e s m args below meth c s₁ B hml hv
  obtain ⟨rfl, hP, hK⟩ := hv
  have hx := B.exec
  have hb := B.bytes
  have hr := B.returns
  have hts := atoms_spec (ws := (.code yX12_runBehind cX12_runBehind 4 (some .int) :: wsGB)) B.pre
  have hown : s.vm.findClass RX12 = some m.cls := findClass_of_methodNamed B.named
  have hlocks := B.notSynchronized
  have hS : va_S (fun _ => False) s.heap s.heap [] := va_S.rf
  have hl := lv_entry ([.ref h0, .int p1, .int p2]) (n := 4) (Nat.le_of_ble_eq_true rfl)
  rw [lg_entry_eq]
  generalize (lg_sl ([.ref h0, .int p1, .int p2]) ++ List.replicate (4 - (lg_sl ([.ref h0, .int p1, .int p2])).length) Slot.unset).toArray = ls at hl ⊢
  have hl : lv_has ls 4 [(0, .ref h0), (1, .int p1), (2, .int p2)] := hl
  refine lv_iload_n hx hb dX12_runBehind_0 rfl (lv_at hl 2 rfl) ?_
  refine lv_iconst (v := 1) hx hb dX12_runBehind_1 (by decide) ?_
  refine lv_icmp_ne (tgt := 20) hx hb dX12_runBehind_2 (by decide) (fun c_49 => ?_) (fun c_49 => ?_)
  · have hc_50 : p2.toInt ≠ 1 := fun h9 => c_49 (Int32.toInt_inj.mp (by rw [show (1 : Int32).toInt = 1 from by decide]; exact h9))
    have g_51 : gi p2 0 0 := gi_ne_hi c_49 gp2 (gi_c 1 1 (by decide)) (by decide)
    refine lv_iload_n hx hb dX12_runBehind_20 rfl (lv_at hl 1 rfl) ?_
    refine lv_iconst (v := 5) hx hb dX12_runBehind_21 (by decide) ?_
    refine lv_icmp_le (tgt := 33) hx hb dX12_runBehind_22 (by decide) (fun c_52 => ?_) (fun c_52 => ?_)
    · have hc_53 : p1.toInt ≤ 5 := by have h9 := Int32.le_iff_toInt_le.mp c_52; rw [show (5 : Int32).toInt = 5 from by decide] at h9; exact h9
      have g_54 : gi p1 (-1) 5 := gi_le_l c_52 gp1 (gi_c 5 5 (by decide))
      refine lv_iconst (v := 1) hx hb dX12_runBehind_33 (by decide) ?_
      refine lv_istore_n (lv' := [(3, .int 1), (0, .ref h0), (1, .int p1), (2, .int p2)]) hx hb dX12_runBehind_34 rfl hl (by decide) rfl (fun ls hl => ?_)
      refine lv_iload_n hx hb dX12_runBehind_35 rfl (lv_at hl 0 rfl) ?_
      refine lv_iload_n hx hb dX12_runBehind_36 rfl (lv_at hl 3 rfl) ?_
      refine lv_iconst (v := 1) hx hb dX12_runBehind_37 (by decide) ?_
      refine lv_icmp_ne (tgt := 48) hx hb dX12_runBehind_38 (by decide) (fun c_55 => ?_) (fun c_55 => absurd c_55 (gi_no_eq g_51 (gi_c 1 1 (by decide)) (by decide)))
      refine lv_aload_n hx hb dX12_runBehind_48 rfl (lv_at hl 1 rfl) ?_
      refine va_get (D := (dC, dI)) (ci := 12) (v := .int (mi 2)) (C := RX12) (T := TX12) (N := 57) hx hb hts (fun w h => List.mem_cons_of_mem _ (jnGB_X12 w h)) hown hK hP 0 rfl rfl 2 (by decide) (hts _ (List.mem_cons_of_mem _ mGB_105)) (fun _ h9 => h9) rfl dX12_runBehind_49 ?_
      refine lv_icmp_le (tgt := 57) hx hb dX12_runBehind_52 (by decide) (fun c_56 => ?_) (fun c_56 => ?_)
      · have hc_57 : 1 ≤ (mi 2).toInt := by have h9 := Int32.le_iff_toInt_le.mp c_56; rw [show (1 : Int32).toInt = 1 from by decide] at h9; exact h9
        have g_58 : gi (mi 2) 1 5 := gi_le_r c_56 (gi_c 1 1 (by decide)) gmi_2
        refine lv_iload_n hx hb dX12_runBehind_57 rfl (lv_at hl 3 rfl) ?_
        refine lv_iconst (v := 1) hx hb dX12_runBehind_58 (by decide) ?_
        refine lv_icmp_ne (tgt := 66) hx hb dX12_runBehind_59 (by decide) (fun c_59 => ?_) (fun c_59 => absurd c_59 (gi_no_eq g_51 (gi_c 1 1 (by decide)) (by decide)))
        refine lv_iload_n hx hb dX12_runBehind_66 rfl (lv_at hl 0 rfl) ?_
        refine lv_iconst (v := 5) hx hb dX12_runBehind_67 (by decide) ?_
        refine lv_iadd hx hb dX12_runBehind_68 ?_
        refine gz_topi (y := 6) (by decide) ?_
        exact W.iret (v := 6) hx hb hr (fun t ht hW => ⟨⟨6, (), rfl, ⟨(gi_w (gi_c 6 6 (by decide)) (by decide)), (show (6 : Int) = rbF (mi 1).toInt (mi 2).toInt p1.toInt p2.toInt from by unfold rbF; (repeat' split) <;> (have k6 : (6 : Int32).toInt = 6 := (by decide); have qgp2 := g_51.1; have rgp2 := g_51.2; have qgp1 := g_54.1; have rgp1 := g_54.2; have qgmi_2 := g_58.1; have rgmi_2 := g_58.2; omega))⟩, trivial⟩, hS.F ht⟩) hS.2.2 dX12_runBehind_69
      · have hc_60 : (mi 2).toInt < 1 := by have h9 := Int32.lt_iff_toInt_lt.mp (Int32.not_le.mp c_56); rw [show (1 : Int32).toInt = 1 from by decide] at h9; exact h9
        have g_61 : gi (mi 2) 0 0 := gi_lt_l (Int32.not_le.mp c_56) gmi_2 (gi_c 1 1 (by decide)) (by decide)
        refine lv_iconst (v := (-1)) hx hb dX12_runBehind_55 (by decide) ?_
        exact W.iret (v := (-1)) hx hb hr (fun t ht hW => ⟨⟨(-1), (), rfl, ⟨(gi_w (gi_c (-1) (-1) (by decide)) (by decide)), (show ((-1) : Int) = rbF (mi 1).toInt (mi 2).toInt p1.toInt p2.toInt from by unfold rbF; (repeat' split) <;> (have km1 : ((-1) : Int32).toInt = (-1) := (by decide); have qgp2 := g_51.1; have rgp2 := g_51.2; have qgp1 := g_54.1; have rgp1 := g_54.2; have qgmi_2 := g_61.1; have rgmi_2 := g_61.2; omega))⟩, trivial⟩, hS.F ht⟩) hS.2.2 dX12_runBehind_56
    · have hc_62 : 5 < p1.toInt := by have h9 := Int32.lt_iff_toInt_lt.mp (Int32.not_le.mp c_52); rw [show (5 : Int32).toInt = 5 from by decide] at h9; exact h9
      have g_63 : gi p1 6 10 := gi_lt_r (Int32.not_le.mp c_52) (gi_c 5 5 (by decide)) gp1 (by decide)
      refine lv_iload_n hx hb dX12_runBehind_25 rfl (lv_at hl 1 rfl) ?_
      refine lv_iconst (v := 5) hx hb dX12_runBehind_26 (by decide) ?_
      refine lv_isub hx hb dX12_runBehind_27 ?_
      refine lv_topi (fun x_64 ex_64 => ?_)
      have gx_64 : gi x_64 1 5 := gi_sub ex_64 g_63 (gi_c 5 5 (by decide)) (by decide)
      refine lv_iconst (v := 1) hx hb dX12_runBehind_28 (by decide) ?_
      refine lv_iadd hx hb dX12_runBehind_29 ?_
      refine lv_topi (fun x_65 ex_65 => ?_)
      have gx_65 : gi x_65 2 6 := gi_add ex_65 gx_64 (gi_c 1 1 (by decide)) (by decide)
      refine lv_goto (tgt := 34) hx hb dX12_runBehind_30 (by decide) ?_
      refine lv_istore_n (lv' := [(3, .int x_65), (0, .ref h0), (1, .int p1), (2, .int p2)]) hx hb dX12_runBehind_34 rfl hl (by decide) rfl (fun ls hl => ?_)
      refine lv_iload_n hx hb dX12_runBehind_35 rfl (lv_at hl 0 rfl) ?_
      refine lv_iload_n hx hb dX12_runBehind_36 rfl (lv_at hl 3 rfl) ?_
      refine lv_iconst (v := 1) hx hb dX12_runBehind_37 (by decide) ?_
      refine lv_icmp_ne (tgt := 48) hx hb dX12_runBehind_38 (by decide) (fun c_66 => ?_) (fun c_66 => absurd c_66 (gi_no_eq g_51 (gi_c 1 1 (by decide)) (by decide)))
      refine lv_aload_n hx hb dX12_runBehind_48 rfl (lv_at hl 1 rfl) ?_
      refine va_get (D := (dC, dI)) (ci := 12) (v := .int (mi 2)) (C := RX12) (T := TX12) (N := 57) hx hb hts (fun w h => List.mem_cons_of_mem _ (jnGB_X12 w h)) hown hK hP 0 rfl rfl 2 (by decide) (hts _ (List.mem_cons_of_mem _ mGB_105)) (fun _ h9 => h9) rfl dX12_runBehind_49 ?_
      refine lv_icmp_le (tgt := 57) hx hb dX12_runBehind_52 (by decide) (fun c_67 => ?_) (fun c_67 => ?_)
      · have hc_68 : x_65.toInt ≤ (mi 2).toInt := by have h9 := Int32.le_iff_toInt_le.mp c_67; exact h9
        have g_69 : gi x_65 2 5 := gi_le_l c_67 gx_65 gmi_2
        have g_70 : gi (mi 2) 2 5 := gi_relL (Int32.le_iff_toInt_le.mp c_67) g_69 gmi_2
        have g_71 : gi (mi 2) 2 5 := gi_le_r c_67 gx_65 gmi_2
        refine lv_iload_n hx hb dX12_runBehind_57 rfl (lv_at hl 3 rfl) ?_
        refine lv_iconst (v := 1) hx hb dX12_runBehind_58 (by decide) ?_
        refine lv_icmp_ne (tgt := 66) hx hb dX12_runBehind_59 (by decide) (fun c_72 => ?_) (fun c_72 => absurd c_72 (gi_no_eq g_51 (gi_c 1 1 (by decide)) (by decide)))
        refine lv_iload_n hx hb dX12_runBehind_66 rfl (lv_at hl 0 rfl) ?_
        refine lv_iconst (v := 5) hx hb dX12_runBehind_67 (by decide) ?_
        refine lv_iadd hx hb dX12_runBehind_68 ?_
        refine lv_topi (fun x_73 ex_73 => ?_)
        have gx_73 : gi x_73 7 10 := gi_add ex_73 g_69 (gi_c 5 5 (by decide)) (by decide)
        exact W.iret (v := x_73) hx hb hr (fun t ht hW => ⟨⟨x_73, (), rfl, ⟨(gi_w gx_73 (by decide)), (show x_73.toInt = rbF (mi 1).toInt (mi 2).toInt p1.toInt p2.toInt from by unfold rbF; (repeat' split) <;> (have qgx_73 := gx_73.1; have rgx_73 := gx_73.2; have igx_73 : x_73.toInt = x_65.toInt + 5 := (by have hc5 : (5 : Int32).toInt = 5 := (by decide); have h9 := gi_addI ex_73 (by have h1 := g_69.1; have h2 := (gi_c 5 5 (by decide)).1; have h3 := g_69.2; have h4 := (gi_c 5 5 (by decide)).2; omega) (by have h1 := g_69.1; have h2 := (gi_c 5 5 (by decide)).1; have h3 := g_69.2; have h4 := (gi_c 5 5 (by decide)).2; omega); rw [hc5] at h9; exact h9); have qgx_65 := g_69.1; have rgx_65 := g_69.2; have igx_65 : x_65.toInt = x_64.toInt + 1 := (by have hc1 : (1 : Int32).toInt = 1 := (by decide); have h9 := gi_addI ex_65 (by have h1 := gx_64.1; have h2 := (gi_c 1 1 (by decide)).1; have h3 := gx_64.2; have h4 := (gi_c 1 1 (by decide)).2; omega) (by have h1 := gx_64.1; have h2 := (gi_c 1 1 (by decide)).1; have h3 := gx_64.2; have h4 := (gi_c 1 1 (by decide)).2; omega); rw [hc1] at h9; exact h9); have qgx_64 := gx_64.1; have rgx_64 := gx_64.2; have igx_64 : x_64.toInt = p1.toInt - 5 := (by have hc5 : (5 : Int32).toInt = 5 := (by decide); have h9 := gi_subI ex_64 (by have h1 := g_63.1; have h2 := (gi_c 5 5 (by decide)).1; have h3 := g_63.2; have h4 := (gi_c 5 5 (by decide)).2; omega) (by have h1 := g_63.1; have h2 := (gi_c 5 5 (by decide)).1; have h3 := g_63.2; have h4 := (gi_c 5 5 (by decide)).2; omega); rw [hc5] at h9; exact h9); have qgp1 := g_63.1; have rgp1 := g_63.2; have qgp2 := g_51.1; have rgp2 := g_51.2; have qgmi_2 := g_71.1; have rgmi_2 := g_71.2; omega))⟩, trivial⟩, hS.F ht⟩) hS.2.2 dX12_runBehind_69
      · have hc_74 : (mi 2).toInt < x_65.toInt := by have h9 := Int32.lt_iff_toInt_lt.mp (Int32.not_le.mp c_67); exact h9
        refine lv_iconst (v := (-1)) hx hb dX12_runBehind_55 (by decide) ?_
        exact W.iret (v := (-1)) hx hb hr (fun t ht hW => ⟨⟨(-1), (), rfl, ⟨(gi_w (gi_c (-1) (-1) (by decide)) (by decide)), (show ((-1) : Int) = rbF (mi 1).toInt (mi 2).toInt p1.toInt p2.toInt from by unfold rbF; (repeat' split) <;> (have km1 : ((-1) : Int32).toInt = (-1) := (by decide); have qgx_65 := gx_65.1; have rgx_65 := gx_65.2; have igx_65 : x_65.toInt = x_64.toInt + 1 := (by have hc1 : (1 : Int32).toInt = 1 := (by decide); have h9 := gi_addI ex_65 (by have h1 := gx_64.1; have h2 := (gi_c 1 1 (by decide)).1; have h3 := gx_64.2; have h4 := (gi_c 1 1 (by decide)).2; omega) (by have h1 := gx_64.1; have h2 := (gi_c 1 1 (by decide)).1; have h3 := gx_64.2; have h4 := (gi_c 1 1 (by decide)).2; omega); rw [hc1] at h9; exact h9); have qgx_64 := gx_64.1; have rgx_64 := gx_64.2; have igx_64 : x_64.toInt = p1.toInt - 5 := (by have hc5 : (5 : Int32).toInt = 5 := (by decide); have h9 := gi_subI ex_64 (by have h1 := g_63.1; have h2 := (gi_c 5 5 (by decide)).1; have h3 := g_63.2; have h4 := (gi_c 5 5 (by decide)).2; omega) (by have h1 := g_63.1; have h2 := (gi_c 5 5 (by decide)).1; have h3 := g_63.2; have h4 := (gi_c 5 5 (by decide)).2; omega); rw [hc5] at h9; exact h9); have qgp1 := g_63.1; have rgp1 := g_63.2; have qgp2 := g_51.1; have rgp2 := g_51.2; have qgmi_2 := gmi_2.1; have rgmi_2 := gmi_2.2; omega))⟩, trivial⟩, hS.F ht⟩) hS.2.2 dX12_runBehind_56
  · have hc_75 : p2.toInt = 1 := by have h9 := congrArg Int32.toInt c_49; rw [show (1 : Int32).toInt = 1 from by decide] at h9; exact h9
    have g_76 : gi p2 1 1 := gi_eq c_49 (gi_c 1 1 (by decide))
    refine lv_iload_n hx hb dX12_runBehind_5 rfl (lv_at hl 1 rfl) ?_
    refine lv_iconst (v := 5) hx hb dX12_runBehind_6 (by decide) ?_
    refine lv_icmp_gt (tgt := 16) hx hb dX12_runBehind_7 (by decide) (fun c_77 => ?_) (fun c_77 => ?_)
    · have hc_78 : 5 < p1.toInt := by have h9 := Int32.lt_iff_toInt_lt.mp c_77; rw [show (5 : Int32).toInt = 5 from by decide] at h9; exact h9
      have g_79 : gi p1 6 10 := gi_lt_r c_77 (gi_c 5 5 (by decide)) gp1 (by decide)
      refine lv_iconst (v := 1) hx hb dX12_runBehind_16 (by decide) ?_
      refine lv_goto (tgt := 34) hx hb dX12_runBehind_17 (by decide) ?_
      refine lv_istore_n (lv' := [(3, .int 1), (0, .ref h0), (1, .int p1), (2, .int p2)]) hx hb dX12_runBehind_34 rfl hl (by decide) rfl (fun ls hl => ?_)
      refine lv_iload_n hx hb dX12_runBehind_35 rfl (lv_at hl 0 rfl) ?_
      refine lv_iload_n hx hb dX12_runBehind_36 rfl (lv_at hl 3 rfl) ?_
      refine lv_iconst (v := 1) hx hb dX12_runBehind_37 (by decide) ?_
      refine lv_icmp_ne (tgt := 48) hx hb dX12_runBehind_38 (by decide) (fun c_80 => absurd (gi_is_eq g_76 (gi_c 1 1 (by decide))) c_80) (fun c_80 => ?_)
      refine lv_aload_n hx hb dX12_runBehind_41 rfl (lv_at hl 1 rfl) ?_
      refine va_get (D := (dC, dI)) (ci := 12) (v := .int (mi 1)) (C := RX12) (T := TX12) (N := 57) hx hb hts (fun w h => List.mem_cons_of_mem _ (jnGB_X12 w h)) hown hK hP 0 rfl rfl 1 (by decide) (hts _ (List.mem_cons_of_mem _ mGB_104)) (fun _ h9 => h9) rfl dX12_runBehind_42 ?_
      refine lv_goto (tgt := 52) hx hb dX12_runBehind_45 (by decide) ?_
      refine lv_icmp_le (tgt := 57) hx hb dX12_runBehind_52 (by decide) (fun c_81 => ?_) (fun c_81 => ?_)
      · have hc_82 : 1 ≤ (mi 1).toInt := by have h9 := Int32.le_iff_toInt_le.mp c_81; rw [show (1 : Int32).toInt = 1 from by decide] at h9; exact h9
        have g_83 : gi (mi 1) 1 5 := gi_le_r c_81 (gi_c 1 1 (by decide)) gmi_1
        refine lv_iload_n hx hb dX12_runBehind_57 rfl (lv_at hl 3 rfl) ?_
        refine lv_iconst (v := 1) hx hb dX12_runBehind_58 (by decide) ?_
        refine lv_icmp_ne (tgt := 66) hx hb dX12_runBehind_59 (by decide) (fun c_84 => absurd (gi_is_eq g_76 (gi_c 1 1 (by decide))) c_84) (fun c_84 => ?_)
        refine lv_iload_n hx hb dX12_runBehind_62 rfl (lv_at hl 0 rfl) ?_
        refine lv_goto (tgt := 69) hx hb dX12_runBehind_63 (by decide) ?_
        exact W.iret (v := 1) hx hb hr (fun t ht hW => ⟨⟨1, (), rfl, ⟨(gi_w (gi_c 1 1 (by decide)) (by decide)), (show (1 : Int) = rbF (mi 1).toInt (mi 2).toInt p1.toInt p2.toInt from by unfold rbF; (repeat' split) <;> (have k1 : (1 : Int32).toInt = 1 := (by decide); have qgp2 := g_76.1; have rgp2 := g_76.2; have qgp1 := g_79.1; have rgp1 := g_79.2; have qgmi_1 := g_83.1; have rgmi_1 := g_83.2; omega))⟩, trivial⟩, hS.F ht⟩) hS.2.2 dX12_runBehind_69
      · have hc_85 : (mi 1).toInt < 1 := by have h9 := Int32.lt_iff_toInt_lt.mp (Int32.not_le.mp c_81); rw [show (1 : Int32).toInt = 1 from by decide] at h9; exact h9
        have g_86 : gi (mi 1) 0 0 := gi_lt_l (Int32.not_le.mp c_81) gmi_1 (gi_c 1 1 (by decide)) (by decide)
        refine lv_iconst (v := (-1)) hx hb dX12_runBehind_55 (by decide) ?_
        exact W.iret (v := (-1)) hx hb hr (fun t ht hW => ⟨⟨(-1), (), rfl, ⟨(gi_w (gi_c (-1) (-1) (by decide)) (by decide)), (show ((-1) : Int) = rbF (mi 1).toInt (mi 2).toInt p1.toInt p2.toInt from by unfold rbF; (repeat' split) <;> (have km1 : ((-1) : Int32).toInt = (-1) := (by decide); have qgp2 := g_76.1; have rgp2 := g_76.2; have qgp1 := g_79.1; have rgp1 := g_79.2; have qgmi_1 := g_86.1; have rgmi_1 := g_86.2; omega))⟩, trivial⟩, hS.F ht⟩) hS.2.2 dX12_runBehind_56
    · have hc_87 : p1.toInt ≤ 5 := by have h9 := Int32.le_iff_toInt_le.mp (Int32.not_lt.mp c_77); rw [show (5 : Int32).toInt = 5 from by decide] at h9; exact h9
      have g_88 : gi p1 (-1) 5 := gi_le_l (Int32.not_lt.mp c_77) gp1 (gi_c 5 5 (by decide))
      refine lv_iload_n hx hb dX12_runBehind_10 rfl (lv_at hl 1 rfl) ?_
      refine lv_iconst (v := 1) hx hb dX12_runBehind_11 (by decide) ?_
      refine lv_iadd hx hb dX12_runBehind_12 ?_
      refine lv_topi (fun x_89 ex_89 => ?_)
      have gx_89 : gi x_89 0 6 := gi_add ex_89 g_88 (gi_c 1 1 (by decide)) (by decide)
      refine lv_goto (tgt := 34) hx hb dX12_runBehind_13 (by decide) ?_
      refine lv_istore_n (lv' := [(3, .int x_89), (0, .ref h0), (1, .int p1), (2, .int p2)]) hx hb dX12_runBehind_34 rfl hl (by decide) rfl (fun ls hl => ?_)
      refine lv_iload_n hx hb dX12_runBehind_35 rfl (lv_at hl 0 rfl) ?_
      refine lv_iload_n hx hb dX12_runBehind_36 rfl (lv_at hl 3 rfl) ?_
      refine lv_iconst (v := 1) hx hb dX12_runBehind_37 (by decide) ?_
      refine lv_icmp_ne (tgt := 48) hx hb dX12_runBehind_38 (by decide) (fun c_90 => absurd (gi_is_eq g_76 (gi_c 1 1 (by decide))) c_90) (fun c_90 => ?_)
      refine lv_aload_n hx hb dX12_runBehind_41 rfl (lv_at hl 1 rfl) ?_
      refine va_get (D := (dC, dI)) (ci := 12) (v := .int (mi 1)) (C := RX12) (T := TX12) (N := 57) hx hb hts (fun w h => List.mem_cons_of_mem _ (jnGB_X12 w h)) hown hK hP 0 rfl rfl 1 (by decide) (hts _ (List.mem_cons_of_mem _ mGB_104)) (fun _ h9 => h9) rfl dX12_runBehind_42 ?_
      refine lv_goto (tgt := 52) hx hb dX12_runBehind_45 (by decide) ?_
      refine lv_icmp_le (tgt := 57) hx hb dX12_runBehind_52 (by decide) (fun c_91 => ?_) (fun c_91 => ?_)
      · have hc_92 : x_89.toInt ≤ (mi 1).toInt := by have h9 := Int32.le_iff_toInt_le.mp c_91; exact h9
        have g_93 : gi x_89 0 5 := gi_le_l c_91 gx_89 gmi_1
        refine lv_iload_n hx hb dX12_runBehind_57 rfl (lv_at hl 3 rfl) ?_
        refine lv_iconst (v := 1) hx hb dX12_runBehind_58 (by decide) ?_
        refine lv_icmp_ne (tgt := 66) hx hb dX12_runBehind_59 (by decide) (fun c_94 => absurd (gi_is_eq g_76 (gi_c 1 1 (by decide))) c_94) (fun c_94 => ?_)
        refine lv_iload_n hx hb dX12_runBehind_62 rfl (lv_at hl 0 rfl) ?_
        refine lv_goto (tgt := 69) hx hb dX12_runBehind_63 (by decide) ?_
        exact W.iret (v := x_89) hx hb hr (fun t ht hW => ⟨⟨x_89, (), rfl, ⟨(gi_w g_93 (by decide)), (show x_89.toInt = rbF (mi 1).toInt (mi 2).toInt p1.toInt p2.toInt from by unfold rbF; (repeat' split) <;> (have qgx_89 := g_93.1; have rgx_89 := g_93.2; have igx_89 : x_89.toInt = p1.toInt + 1 := (by have hc1 : (1 : Int32).toInt = 1 := (by decide); have h9 := gi_addI ex_89 (by have h1 := g_88.1; have h2 := (gi_c 1 1 (by decide)).1; have h3 := g_88.2; have h4 := (gi_c 1 1 (by decide)).2; omega) (by have h1 := g_88.1; have h2 := (gi_c 1 1 (by decide)).1; have h3 := g_88.2; have h4 := (gi_c 1 1 (by decide)).2; omega); rw [hc1] at h9; exact h9); have qgp1 := g_88.1; have rgp1 := g_88.2; have qgp2 := g_76.1; have rgp2 := g_76.2; have qgmi_1 := gmi_1.1; have rgmi_1 := gmi_1.2; omega))⟩, trivial⟩, hS.F ht⟩) hS.2.2 dX12_runBehind_69
      · have hc_95 : (mi 1).toInt < x_89.toInt := by have h9 := Int32.lt_iff_toInt_lt.mp (Int32.not_le.mp c_91); exact h9
        have g_96 : gi x_89 1 6 := gi_lt_r (Int32.not_le.mp c_91) gmi_1 gx_89 (by decide)
        refine lv_iconst (v := (-1)) hx hb dX12_runBehind_55 (by decide) ?_
        exact W.iret (v := (-1)) hx hb hr (fun t ht hW => ⟨⟨(-1), (), rfl, ⟨(gi_w (gi_c (-1) (-1) (by decide)) (by decide)), (show ((-1) : Int) = rbF (mi 1).toInt (mi 2).toInt p1.toInt p2.toInt from by unfold rbF; (repeat' split) <;> (have km1 : ((-1) : Int32).toInt = (-1) := (by decide); have qgx_89 := g_96.1; have rgx_89 := g_96.2; have igx_89 : x_89.toInt = p1.toInt + 1 := (by have hc1 : (1 : Int32).toInt = 1 := (by decide); have h9 := gi_addI ex_89 (by have h1 := g_88.1; have h2 := (gi_c 1 1 (by decide)).1; have h3 := g_88.2; have h4 := (gi_c 1 1 (by decide)).2; omega) (by have h1 := g_88.1; have h2 := (gi_c 1 1 (by decide)).1; have h3 := g_88.2; have h4 := (gi_c 1 1 (by decide)).2; omega); rw [hc1] at h9; exact h9); have qgp1 := g_88.1; have rgp1 := g_88.2; have qgp2 := g_76.1; have rgp2 := g_76.2; have qgmi_1 := gmi_1.1; have rgmi_1 := gmi_1.2; omega))⟩, trivial⟩, hS.F ht⟩) hS.2.2 dX12_runBehind_56
