theorem dX12_runBehind_0 : decode cX12_runBehind 0 = .ok (.iload_n 2, 1) := by decide +kernel
theorem dX12_runBehind_1 : decode cX12_runBehind 1 = .ok (.iconst 1, 1) := by decide +kernel
theorem dX12_runBehind_2 : decode cX12_runBehind 2 = .ok (.if_icmp .ne 18, 3) := by decide +kernel
theorem dX12_runBehind_5 : decode cX12_runBehind 5 = .ok (.iload_n 1, 1) := by decide +kernel
theorem dX12_runBehind_6 : decode cX12_runBehind 6 = .ok (.iconst 5, 1) := by decide +kernel
theorem dX12_runBehind_7 : decode cX12_runBehind 7 = .ok (.if_icmp .gt 9, 3) := by decide +kernel
theorem dX12_runBehind_10 : decode cX12_runBehind 10 = .ok (.iload_n 1, 1) := by decide +kernel
theorem dX12_runBehind_11 : decode cX12_runBehind 11 = .ok (.iconst 1, 1) := by decide +kernel
theorem dX12_runBehind_12 : decode cX12_runBehind 12 = .ok (.iadd, 1) := by decide +kernel
theorem dX12_runBehind_13 : decode cX12_runBehind 13 = .ok (.goto 21, 3) := by decide +kernel
theorem dX12_runBehind_16 : decode cX12_runBehind 16 = .ok (.iconst 1, 1) := by decide +kernel
theorem dX12_runBehind_17 : decode cX12_runBehind 17 = .ok (.goto 17, 3) := by decide +kernel
theorem dX12_runBehind_20 : decode cX12_runBehind 20 = .ok (.iload_n 1, 1) := by decide +kernel
theorem dX12_runBehind_21 : decode cX12_runBehind 21 = .ok (.iconst 5, 1) := by decide +kernel
theorem dX12_runBehind_22 : decode cX12_runBehind 22 = .ok (.if_icmp .le 11, 3) := by decide +kernel
theorem dX12_runBehind_25 : decode cX12_runBehind 25 = .ok (.iload_n 1, 1) := by decide +kernel
theorem dX12_runBehind_26 : decode cX12_runBehind 26 = .ok (.iconst 5, 1) := by decide +kernel
theorem dX12_runBehind_27 : decode cX12_runBehind 27 = .ok (.isub, 1) := by decide +kernel
theorem dX12_runBehind_28 : decode cX12_runBehind 28 = .ok (.iconst 1, 1) := by decide +kernel
theorem dX12_runBehind_29 : decode cX12_runBehind 29 = .ok (.iadd, 1) := by decide +kernel
theorem dX12_runBehind_30 : decode cX12_runBehind 30 = .ok (.goto 4, 3) := by decide +kernel
theorem dX12_runBehind_33 : decode cX12_runBehind 33 = .ok (.iconst 1, 1) := by decide +kernel
theorem dX12_runBehind_34 : decode cX12_runBehind 34 = .ok (.istore_n 3, 1) := by decide +kernel
theorem dX12_runBehind_35 : decode cX12_runBehind 35 = .ok (.iload_n 3, 1) := by decide +kernel
theorem dX12_runBehind_36 : decode cX12_runBehind 36 = .ok (.iload_n 2, 1) := by decide +kernel
theorem dX12_runBehind_37 : decode cX12_runBehind 37 = .ok (.iconst 1, 1) := by decide +kernel
theorem dX12_runBehind_38 : decode cX12_runBehind 38 = .ok (.if_icmp .ne 10, 3) := by decide +kernel
theorem dX12_runBehind_41 : decode cX12_runBehind 41 = .ok (.aload_n 0, 1) := by decide +kernel
theorem dX12_runBehind_42 : decode cX12_runBehind 42 = .ok (.getfield 120, 3) := by decide +kernel
theorem dX12_runBehind_45 : decode cX12_runBehind 45 = .ok (.goto 7, 3) := by decide +kernel
theorem dX12_runBehind_48 : decode cX12_runBehind 48 = .ok (.aload_n 0, 1) := by decide +kernel
theorem dX12_runBehind_49 : decode cX12_runBehind 49 = .ok (.getfield 123, 3) := by decide +kernel
theorem dX12_runBehind_52 : decode cX12_runBehind 52 = .ok (.if_icmp .le 5, 3) := by decide +kernel
theorem dX12_runBehind_55 : decode cX12_runBehind 55 = .ok (.iconst (-1), 1) := by decide +kernel
theorem dX12_runBehind_56 : decode cX12_runBehind 56 = .ok (.ireturn, 1) := by decide +kernel
theorem dX12_runBehind_57 : decode cX12_runBehind 57 = .ok (.iload_n 2, 1) := by decide +kernel
theorem dX12_runBehind_58 : decode cX12_runBehind 58 = .ok (.iconst 1, 1) := by decide +kernel
theorem dX12_runBehind_59 : decode cX12_runBehind 59 = .ok (.if_icmp .ne 7, 3) := by decide +kernel
theorem dX12_runBehind_62 : decode cX12_runBehind 62 = .ok (.iload_n 3, 1) := by decide +kernel
theorem dX12_runBehind_63 : decode cX12_runBehind 63 = .ok (.goto 6, 3) := by decide +kernel
theorem dX12_runBehind_66 : decode cX12_runBehind 66 = .ok (.iload_n 3, 1) := by decide +kernel
theorem dX12_runBehind_67 : decode cX12_runBehind 67 = .ok (.iconst 5, 1) := by decide +kernel
theorem dX12_runBehind_68 : decode cX12_runBehind 68 = .ok (.iadd, 1) := by decide +kernel
theorem dX12_runBehind_69 : decode cX12_runBehind 69 = .ok (.ireturn, 1) := by decide +kernel
set_option maxHeartbeats 4000000 in
set_option maxRecDepth 100000 in
theorem sX12_runBehind (l : Launch) (dC : Nat → ClassId) (dI : Nat → Nat → Nat) (h0 : Nat) (mi : Nat → Int32) (mr : Nat → Nat) (p1 : Int32) (p2 : Int32) (gmi_0 : gi (mi 0) 0 24) (gmi_1 : gi (mi 1) 0 5) (gmi_2 : gi (mi 2) 0 5) (gmi_4 : gi (mi 4) 0 1) (gmi_7 : gi (mi 7) 0 6) (gmi_10 : gi (mi 10) 0 24) (gmi_17 : gi (mi 17) 0 8) (gmi_23 : gi (mi 23) 0 300) (gmi_24 : gi (mi 24) 0 1) (gmi_26 : gi (mi 26) 0 1600) (gmi_29 : gi (mi 29) 0 1600) (gmi_30 : gi (mi 30) 0 1600) (gmi_33 : gi (mi 33) 0 1) (gmi_37 : gi (mi 37) 0 1) (gmi_41 : gi (mi 41) 0 24) (gmi_50 : gi (mi 50) 0 1) (gmi_51 : gi (mi 51) 0 1) (gmi_56 : gi (mi 56) 0 80) (gp1 : gi p1 (-1) 10) (gp2 : gi p2 0 1) : Met l yX12_runBehind (.code yX12_runBehind cX12_runBehind 4 (some .int) :: wsGB) ({ frames := 0, cells := 0, slots := 0, locals := 0 }) (va_Pc [.ref h0, .int p1, .int p2] (fun U => va_P (dC, dI) vwCl [(h0, .inr (12, fsMM mi mr))] U.heap ∧ va_K (dC, dI) vwCl [] U)) (va_Qi (fun (r : Int32) (u : Unit) => gi r (-1) 10) (fun _ _ => True) (fun _ => False)) 0 0 (fun _ => False) := by
  refine Met.ofW (cc := cX12_runBehind) (maxL := 4) (ret := (some .int)) (by decide) rfl ?_
  intro p e s m args below meth c s₁ B hml hv
  obtain ⟨rfl, hP, hK⟩ := hv
  have hx := B.exec
  have hb := B.bytes
  have hr := B.returns
  have hts := atoms_spec (ws := (.code yX12_runBehind cX12_runBehind 4 (some .int) :: wsGB)) B.pre
  have hown : s.vm.findClass RX12 = some m.cls := findClass_of_methodNamed B.named
  have hlocks := B.notSynchronized
  have hS : va_S (fun _ => False) s.heap s.heap [] := va_S.rf
  have hl := lv_entry ([.ref h0, .int p1, .int p2]) (n := 4) (Nat.le_of_ble_eq_true rfl)
  rw [lg_entry_eq]
  generalize (lg_sl ([.ref h0, .int p1, .int p2]) ++ List.replicate (4 - (lg_sl ([.ref h0, .int p1, .int p2])).length) Slot.unset).toArray = ls at hl ⊢
  have hl : lv_has ls 4 [(0, .ref h0), (1, .int p1), (2, .int p2)] := hl
  refine lv_iload_n hx hb dX12_runBehind_0 rfl (lv_at hl 2 rfl) ?_
  refine lv_iconst (v := 1) hx hb dX12_runBehind_1 (by decide) ?_
  refine lv_icmp_ne (tgt := 20) hx hb dX12_runBehind_2 (by decide) (fun c_34 => ?_) (fun c_34 => ?_)
  · have g_35 : gi p2 0 0 := gi_ne_hi c_34 gp2 (gi_c 1 1 (by decide)) (by decide)
    refine lv_iload_n hx hb dX12_runBehind_20 rfl (lv_at hl 1 rfl) ?_
    refine lv_iconst (v := 5) hx hb dX12_runBehind_21 (by decide) ?_
    refine lv_icmp_le (tgt := 33) hx hb dX12_runBehind_22 (by decide) (fun c_36 => ?_) (fun c_36 => ?_)
    · have g_37 : gi p1 (-1) 5 := gi_le_l c_36 gp1 (gi_c 5 5 (by decide))
      refine lv_iconst (v := 1) hx hb dX12_runBehind_33 (by decide) ?_
      refine lv_istore_n (lv' := [(3, .int 1), (0, .ref h0), (1, .int p1), (2, .int p2)]) hx hb dX12_runBehind_34 rfl hl (by decide) rfl (fun ls hl => ?_)
      refine lv_iload_n hx hb dX12_runBehind_35 rfl (lv_at hl 0 rfl) ?_
      refine lv_iload_n hx hb dX12_runBehind_36 rfl (lv_at hl 3 rfl) ?_
      refine lv_iconst (v := 1) hx hb dX12_runBehind_37 (by decide) ?_
      refine lv_icmp_ne (tgt := 48) hx hb dX12_runBehind_38 (by decide) (fun c_38 => ?_) (fun c_38 => absurd c_38 (gi_no_eq g_35 (gi_c 1 1 (by decide)) (by decide)))
      refine lv_aload_n hx hb dX12_runBehind_48 rfl (lv_at hl 1 rfl) ?_
      refine va_get (D := (dC, dI)) (ci := 12) (v := .int (mi 2)) (C := RX12) (T := TX12) (N := 57) hx hb hts (fun w h => List.mem_cons_of_mem _ (jnGB_X12 w h)) hown hK hP 0 rfl rfl 2 (by decide) (hts _ (List.mem_cons_of_mem _ mGB_105)) (fun _ h9 => h9) rfl dX12_runBehind_49 ?_
      refine lv_icmp_le (tgt := 57) hx hb dX12_runBehind_52 (by decide) (fun c_39 => ?_) (fun c_39 => ?_)
      · have g_40 : gi (mi 2) 1 5 := gi_le_r c_39 (gi_c 1 1 (by decide)) gmi_2
        refine lv_iload_n hx hb dX12_runBehind_57 rfl (lv_at hl 3 rfl) ?_
        refine lv_iconst (v := 1) hx hb dX12_runBehind_58 (by decide) ?_
        refine lv_icmp_ne (tgt := 66) hx hb dX12_runBehind_59 (by decide) (fun c_41 => ?_) (fun c_41 => absurd c_41 (gi_no_eq g_35 (gi_c 1 1 (by decide)) (by decide)))
        refine lv_iload_n hx hb dX12_runBehind_66 rfl (lv_at hl 0 rfl) ?_
        refine lv_iconst (v := 5) hx hb dX12_runBehind_67 (by decide) ?_
        refine lv_iadd hx hb dX12_runBehind_68 ?_
        refine gz_topi (y := 6) (by decide) ?_
        exact W.iret (v := 6) hx hb hr (fun t ht hW => ⟨⟨6, (), rfl, (gi_w (gi_c 6 6 (by decide)) (by decide)), trivial⟩, hS.F ht⟩) hS.2.2 dX12_runBehind_69
      · have g_42 : gi (mi 2) 0 0 := gi_lt_l (Int32.not_le.mp c_39) gmi_2 (gi_c 1 1 (by decide)) (by decide)
        refine lv_iconst (v := (-1)) hx hb dX12_runBehind_55 (by decide) ?_
        exact W.iret (v := (-1)) hx hb hr (fun t ht hW => ⟨⟨(-1), (), rfl, (gi_w (gi_c (-1) (-1) (by decide)) (by decide)), trivial⟩, hS.F ht⟩) hS.2.2 dX12_runBehind_56
    · have g_43 : gi p1 6 10 := gi_lt_r (Int32.not_le.mp c_36) (gi_c 5 5 (by decide)) gp1 (by decide)
      refine lv_iload_n hx hb dX12_runBehind_25 rfl (lv_at hl 1 rfl) ?_
      refine lv_iconst (v := 5) hx hb dX12_runBehind_26 (by decide) ?_
      refine lv_isub hx hb dX12_runBehind_27 ?_
      refine lv_topi (fun x_44 ex_44 => ?_)
      have gx_44 : gi x_44 1 5 := gi_sub ex_44 g_43 (gi_c 5 5 (by decide)) (by decide)
      refine lv_iconst (v := 1) hx hb dX12_runBehind_28 (by decide) ?_
      refine lv_iadd hx hb dX12_runBehind_29 ?_
      refine lv_topi (fun x_45 ex_45 => ?_)
      have gx_45 : gi x_45 2 6 := gi_add ex_45 gx_44 (gi_c 1 1 (by decide)) (by decide)
      refine lv_goto (tgt := 34) hx hb dX12_runBehind_30 (by decide) ?_
      refine lv_istore_n (lv' := [(3, .int x_45), (0, .ref h0), (1, .int p1), (2, .int p2)]) hx hb dX12_runBehind_34 rfl hl (by decide) rfl (fun ls hl => ?_)
      refine lv_iload_n hx hb dX12_runBehind_35 rfl (lv_at hl 0 rfl) ?_
      refine lv_iload_n hx hb dX12_runBehind_36 rfl (lv_at hl 3 rfl) ?_
      refine lv_iconst (v := 1) hx hb dX12_runBehind_37 (by decide) ?_
      refine lv_icmp_ne (tgt := 48) hx hb dX12_runBehind_38 (by decide) (fun c_46 => ?_) (fun c_46 => absurd c_46 (gi_no_eq g_35 (gi_c 1 1 (by decide)) (by decide)))
      refine lv_aload_n hx hb dX12_runBehind_48 rfl (lv_at hl 1 rfl) ?_
      refine va_get (D := (dC, dI)) (ci := 12) (v := .int (mi 2)) (C := RX12) (T := TX12) (N := 57) hx hb hts (fun w h => List.mem_cons_of_mem _ (jnGB_X12 w h)) hown hK hP 0 rfl rfl 2 (by decide) (hts _ (List.mem_cons_of_mem _ mGB_105)) (fun _ h9 => h9) rfl dX12_runBehind_49 ?_
      refine lv_icmp_le (tgt := 57) hx hb dX12_runBehind_52 (by decide) (fun c_47 => ?_) (fun c_47 => ?_)
      · have g_48 : gi x_45 2 5 := gi_le_l c_47 gx_45 gmi_2
        have g_49 : gi (mi 2) 2 5 := gi_le_r c_47 gx_45 gmi_2
        refine lv_iload_n hx hb dX12_runBehind_57 rfl (lv_at hl 3 rfl) ?_
        refine lv_iconst (v := 1) hx hb dX12_runBehind_58 (by decide) ?_
        refine lv_icmp_ne (tgt := 66) hx hb dX12_runBehind_59 (by decide) (fun c_50 => ?_) (fun c_50 => absurd c_50 (gi_no_eq g_35 (gi_c 1 1 (by decide)) (by decide)))
        refine lv_iload_n hx hb dX12_runBehind_66 rfl (lv_at hl 0 rfl) ?_
        refine lv_iconst (v := 5) hx hb dX12_runBehind_67 (by decide) ?_
        refine lv_iadd hx hb dX12_runBehind_68 ?_
        refine lv_topi (fun x_51 ex_51 => ?_)
        have gx_51 : gi x_51 7 10 := gi_add ex_51 g_48 (gi_c 5 5 (by decide)) (by decide)
        exact W.iret (v := x_51) hx hb hr (fun t ht hW => ⟨⟨x_51, (), rfl, (gi_w gx_51 (by decide)), trivial⟩, hS.F ht⟩) hS.2.2 dX12_runBehind_69
      · refine lv_iconst (v := (-1)) hx hb dX12_runBehind_55 (by decide) ?_
        exact W.iret (v := (-1)) hx hb hr (fun t ht hW => ⟨⟨(-1), (), rfl, (gi_w (gi_c (-1) (-1) (by decide)) (by decide)), trivial⟩, hS.F ht⟩) hS.2.2 dX12_runBehind_56
  · have g_52 : gi p2 1 1 := gi_eq c_34 (gi_c 1 1 (by decide))
    refine lv_iload_n hx hb dX12_runBehind_5 rfl (lv_at hl 1 rfl) ?_
    refine lv_iconst (v := 5) hx hb dX12_runBehind_6 (by decide) ?_
    refine lv_icmp_gt (tgt := 16) hx hb dX12_runBehind_7 (by decide) (fun c_53 => ?_) (fun c_53 => ?_)
    · have g_54 : gi p1 6 10 := gi_lt_r c_53 (gi_c 5 5 (by decide)) gp1 (by decide)
      refine lv_iconst (v := 1) hx hb dX12_runBehind_16 (by decide) ?_
      refine lv_goto (tgt := 34) hx hb dX12_runBehind_17 (by decide) ?_
      refine lv_istore_n (lv' := [(3, .int 1), (0, .ref h0), (1, .int p1), (2, .int p2)]) hx hb dX12_runBehind_34 rfl hl (by decide) rfl (fun ls hl => ?_)
      refine lv_iload_n hx hb dX12_runBehind_35 rfl (lv_at hl 0 rfl) ?_
      refine lv_iload_n hx hb dX12_runBehind_36 rfl (lv_at hl 3 rfl) ?_
      refine lv_iconst (v := 1) hx hb dX12_runBehind_37 (by decide) ?_
      refine lv_icmp_ne (tgt := 48) hx hb dX12_runBehind_38 (by decide) (fun c_55 => absurd (gi_is_eq g_52 (gi_c 1 1 (by decide))) c_55) (fun c_55 => ?_)
      refine lv_aload_n hx hb dX12_runBehind_41 rfl (lv_at hl 1 rfl) ?_
      refine va_get (D := (dC, dI)) (ci := 12) (v := .int (mi 1)) (C := RX12) (T := TX12) (N := 57) hx hb hts (fun w h => List.mem_cons_of_mem _ (jnGB_X12 w h)) hown hK hP 0 rfl rfl 1 (by decide) (hts _ (List.mem_cons_of_mem _ mGB_104)) (fun _ h9 => h9) rfl dX12_runBehind_42 ?_
      refine lv_goto (tgt := 52) hx hb dX12_runBehind_45 (by decide) ?_
      refine lv_icmp_le (tgt := 57) hx hb dX12_runBehind_52 (by decide) (fun c_56 => ?_) (fun c_56 => ?_)
      · have g_57 : gi (mi 1) 1 5 := gi_le_r c_56 (gi_c 1 1 (by decide)) gmi_1
        refine lv_iload_n hx hb dX12_runBehind_57 rfl (lv_at hl 3 rfl) ?_
        refine lv_iconst (v := 1) hx hb dX12_runBehind_58 (by decide) ?_
        refine lv_icmp_ne (tgt := 66) hx hb dX12_runBehind_59 (by decide) (fun c_58 => absurd (gi_is_eq g_52 (gi_c 1 1 (by decide))) c_58) (fun c_58 => ?_)
        refine lv_iload_n hx hb dX12_runBehind_62 rfl (lv_at hl 0 rfl) ?_
        refine lv_goto (tgt := 69) hx hb dX12_runBehind_63 (by decide) ?_
        exact W.iret (v := 1) hx hb hr (fun t ht hW => ⟨⟨1, (), rfl, (gi_w (gi_c 1 1 (by decide)) (by decide)), trivial⟩, hS.F ht⟩) hS.2.2 dX12_runBehind_69
      · have g_59 : gi (mi 1) 0 0 := gi_lt_l (Int32.not_le.mp c_56) gmi_1 (gi_c 1 1 (by decide)) (by decide)
        refine lv_iconst (v := (-1)) hx hb dX12_runBehind_55 (by decide) ?_
        exact W.iret (v := (-1)) hx hb hr (fun t ht hW => ⟨⟨(-1), (), rfl, (gi_w (gi_c (-1) (-1) (by decide)) (by decide)), trivial⟩, hS.F ht⟩) hS.2.2 dX12_runBehind_56
    · have g_60 : gi p1 (-1) 5 := gi_le_l (Int32.not_lt.mp c_53) gp1 (gi_c 5 5 (by decide))
      refine lv_iload_n hx hb dX12_runBehind_10 rfl (lv_at hl 1 rfl) ?_
      refine lv_iconst (v := 1) hx hb dX12_runBehind_11 (by decide) ?_
      refine lv_iadd hx hb dX12_runBehind_12 ?_
      refine lv_topi (fun x_61 ex_61 => ?_)
      have gx_61 : gi x_61 0 6 := gi_add ex_61 g_60 (gi_c 1 1 (by decide)) (by decide)
      refine lv_goto (tgt := 34) hx hb dX12_runBehind_13 (by decide) ?_
      refine lv_istore_n (lv' := [(3, .int x_61), (0, .ref h0), (1, .int p1), (2, .int p2)]) hx hb dX12_runBehind_34 rfl hl (by decide) rfl (fun ls hl => ?_)
      refine lv_iload_n hx hb dX12_runBehind_35 rfl (lv_at hl 0 rfl) ?_
      refine lv_iload_n hx hb dX12_runBehind_36 rfl (lv_at hl 3 rfl) ?_
      refine lv_iconst (v := 1) hx hb dX12_runBehind_37 (by decide) ?_
      refine lv_icmp_ne (tgt := 48) hx hb dX12_runBehind_38 (by decide) (fun c_62 => absurd (gi_is_eq g_52 (gi_c 1 1 (by decide))) c_62) (fun c_62 => ?_)
      refine lv_aload_n hx hb dX12_runBehind_41 rfl (lv_at hl 1 rfl) ?_
      refine va_get (D := (dC, dI)) (ci := 12) (v := .int (mi 1)) (C := RX12) (T := TX12) (N := 57) hx hb hts (fun w h => List.mem_cons_of_mem _ (jnGB_X12 w h)) hown hK hP 0 rfl rfl 1 (by decide) (hts _ (List.mem_cons_of_mem _ mGB_104)) (fun _ h9 => h9) rfl dX12_runBehind_42 ?_
      refine lv_goto (tgt := 52) hx hb dX12_runBehind_45 (by decide) ?_
      refine lv_icmp_le (tgt := 57) hx hb dX12_runBehind_52 (by decide) (fun c_63 => ?_) (fun c_63 => ?_)
      · have g_64 : gi x_61 0 5 := gi_le_l c_63 gx_61 gmi_1
        refine lv_iload_n hx hb dX12_runBehind_57 rfl (lv_at hl 3 rfl) ?_
        refine lv_iconst (v := 1) hx hb dX12_runBehind_58 (by decide) ?_
        refine lv_icmp_ne (tgt := 66) hx hb dX12_runBehind_59 (by decide) (fun c_65 => absurd (gi_is_eq g_52 (gi_c 1 1 (by decide))) c_65) (fun c_65 => ?_)
        refine lv_iload_n hx hb dX12_runBehind_62 rfl (lv_at hl 0 rfl) ?_
        refine lv_goto (tgt := 69) hx hb dX12_runBehind_63 (by decide) ?_
        exact W.iret (v := x_61) hx hb hr (fun t ht hW => ⟨⟨x_61, (), rfl, (gi_w g_64 (by decide)), trivial⟩, hS.F ht⟩) hS.2.2 dX12_runBehind_69
      · have g_66 : gi x_61 1 6 := gi_lt_r (Int32.not_le.mp c_63) gmi_1 gx_61 (by decide)
        refine lv_iconst (v := (-1)) hx hb dX12_runBehind_55 (by decide) ?_
        exact W.iret (v := (-1)) hx hb hr (fun t ht hW => ⟨⟨(-1), (), rfl, (gi_w (gi_c (-1) (-1) (by decide)) (by decide)), trivial⟩, hS.F ht⟩) hS.2.2 dX12_runBehind_56
