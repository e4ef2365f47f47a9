theorem dX12_holds_0 : decode cX12_holds 0 = .ok (.aload_n 0, 1) := by decide +kernel
theorem dX12_holds_1 : decode cX12_holds 1 = .ok (.getfield 26, 3) := by decide +kernel
theorem dX12_holds_4 : decode cX12_holds 4 = .ok (.iload_n 1, 1) := by decide +kernel
theorem dX12_holds_5 : decode cX12_holds 5 = .ok (.iaload, 1) := by decide +kernel
theorem dX12_holds_6 : decode cX12_holds 6 = .ok (.istore_n 2, 1) := by decide +kernel
theorem dX12_holds_7 : decode cX12_holds 7 = .ok (.aload_n 0, 1) := by decide +kernel
theorem dX12_holds_8 : decode cX12_holds 8 = .ok (.getfield 29, 3) := by decide +kernel
theorem dX12_holds_11 : decode cX12_holds 11 = .ok (.iload_n 1, 1) := by decide +kernel
theorem dX12_holds_12 : decode cX12_holds 12 = .ok (.iaload, 1) := by decide +kernel
theorem dX12_holds_13 : decode cX12_holds 13 = .ok (.iconst 1, 1) := by decide +kernel
theorem dX12_holds_14 : decode cX12_holds 14 = .ok (.iadd, 1) := by decide +kernel
theorem dX12_holds_15 : decode cX12_holds 15 = .ok (.istore_n 3, 1) := by decide +kernel
theorem dX12_holds_16 : decode cX12_holds 16 = .ok (.aload_n 0, 1) := by decide +kernel
theorem dX12_holds_17 : decode cX12_holds 17 = .ok (.getfield 19, 3) := by decide +kernel
theorem dX12_holds_20 : decode cX12_holds 20 = .ok (.iload_n 1, 1) := by decide +kernel
theorem dX12_holds_21 : decode cX12_holds 21 = .ok (.iaload, 1) := by decide +kernel
theorem dX12_holds_22 : decode cX12_holds 22 = .ok (.ifCond .ne 46, 3) := by decide +kernel
theorem dX12_holds_25 : decode cX12_holds 25 = .ok (.aload_n 0, 1) := by decide +kernel
theorem dX12_holds_26 : decode cX12_holds 26 = .ok (.aload_n 0, 1) := by decide +kernel
theorem dX12_holds_27 : decode cX12_holds 27 = .ok (.getfield 312, 3) := by decide +kernel
theorem dX12_holds_30 : decode cX12_holds 30 = .ok (.ifCond .ne 23, 3) := by decide +kernel
theorem dX12_holds_33 : decode cX12_holds 33 = .ok (.aload_n 0, 1) := by decide +kernel
theorem dX12_holds_34 : decode cX12_holds 34 = .ok (.getfield 57, 3) := by decide +kernel
theorem dX12_holds_37 : decode cX12_holds 37 = .ok (.iload_n 2, 1) := by decide +kernel
theorem dX12_holds_38 : decode cX12_holds 38 = .ok (.iaload, 1) := by decide +kernel
theorem dX12_holds_39 : decode cX12_holds 39 = .ok (.iconst (-1), 1) := by decide +kernel
theorem dX12_holds_40 : decode cX12_holds 40 = .ok (.if_icmp .eq 17, 3) := by decide +kernel
theorem dX12_holds_43 : decode cX12_holds 43 = .ok (.aload_n 0, 1) := by decide +kernel
theorem dX12_holds_44 : decode cX12_holds 44 = .ok (.getfield 57, 3) := by decide +kernel
theorem dX12_holds_47 : decode cX12_holds 47 = .ok (.iload_n 2, 1) := by decide +kernel
theorem dX12_holds_48 : decode cX12_holds 48 = .ok (.iaload, 1) := by decide +kernel
theorem dX12_holds_49 : decode cX12_holds 49 = .ok (.iload_n 3, 1) := by decide +kernel
theorem dX12_holds_50 : decode cX12_holds 50 = .ok (.if_icmp .eq 7, 3) := by decide +kernel
theorem dX12_holds_53 : decode cX12_holds 53 = .ok (.iconst 1, 1) := by decide +kernel
theorem dX12_holds_54 : decode cX12_holds 54 = .ok (.goto 4, 3) := by decide +kernel
theorem dX12_holds_57 : decode cX12_holds 57 = .ok (.iconst 0, 1) := by decide +kernel
theorem dX12_holds_58 : decode cX12_holds 58 = .ok (.putfield 312, 3) := by decide +kernel
theorem dX12_holds_61 : decode cX12_holds 61 = .ok (.aload_n 0, 1) := by decide +kernel
theorem dX12_holds_62 : decode cX12_holds 62 = .ok (.getfield 57, 3) := by decide +kernel
theorem dX12_holds_65 : decode cX12_holds 65 = .ok (.iload_n 2, 1) := by decide +kernel
theorem dX12_holds_66 : decode cX12_holds 66 = .ok (.iload_n 3, 1) := by decide +kernel
theorem dX12_holds_67 : decode cX12_holds 67 = .ok (.iastore, 1) := by decide +kernel
theorem dX12_holds_68 : decode cX12_holds 68 = .ok (.aload_n 0, 1) := by decide +kernel
theorem dX12_holds_69 : decode cX12_holds 69 = .ok (.getfield 19, 3) := by decide +kernel
theorem dX12_holds_72 : decode cX12_holds 72 = .ok (.iload_n 1, 1) := by decide +kernel
theorem dX12_holds_73 : decode cX12_holds 73 = .ok (.iaload, 1) := by decide +kernel
theorem dX12_holds_74 : decode cX12_holds 74 = .ok (.iconst 1, 1) := by decide +kernel
theorem dX12_holds_75 : decode cX12_holds 75 = .ok (.if_icmp .ne 21, 3) := by decide +kernel
theorem dX12_holds_78 : decode cX12_holds 78 = .ok (.aload_n 0, 1) := by decide +kernel
theorem dX12_holds_79 : decode cX12_holds 79 = .ok (.getfield 60, 3) := by decide +kernel
theorem dX12_holds_82 : decode cX12_holds 82 = .ok (.iload_n 2, 1) := by decide +kernel
theorem dX12_holds_83 : decode cX12_holds 83 = .ok (.aload_n 0, 1) := by decide +kernel
theorem dX12_holds_84 : decode cX12_holds 84 = .ok (.getfield 60, 3) := by decide +kernel
theorem dX12_holds_87 : decode cX12_holds 87 = .ok (.iload_n 2, 1) := by decide +kernel
theorem dX12_holds_88 : decode cX12_holds 88 = .ok (.iaload, 1) := by decide +kernel
theorem dX12_holds_89 : decode cX12_holds 89 = .ok (.iload_n 3, 1) := by decide +kernel
theorem dX12_holds_90 : decode cX12_holds 90 = .ok (.iconst 1, 1) := by decide +kernel
theorem dX12_holds_91 : decode cX12_holds 91 = .ok (.iadd, 1) := by decide +kernel
theorem dX12_holds_92 : decode cX12_holds 92 = .ok (.invokestatic 219, 3) := by decide +kernel
theorem dX12_holds_95 : decode cX12_holds 95 = .ok (.iastore, 1) := by decide +kernel
theorem dX12_holds_96 : decode cX12_holds 96 = .ok (.return_, 1) := by decide +kernel
set_option maxHeartbeats 4000000 in
set_option maxRecDepth 100000 in
theorem sX12_holds (l : Launch) (dC : Nat → ClassId) (dI : Nat → Nat → Nat) (sz : Nat) (h0 : Nat) (mi : Nat → Int32) (mr : Nat → Nat) (km_reportMonth : ClassId) (fm_reportMonth : Nat → Int32) (km_reportDay : ClassId) (fm_reportDay : Nat → Int32) (km_reportKind : ClassId) (fm_reportKind : Nat → Int32) (km_must : ClassId) (fm_must : Nat → Int32) (km_least : ClassId) (fm_least : Nat → Int32) (p1 : Int32) (gmi_0 : gi (mi 0) 0 24) (gmi_1 : gi (mi 1) 0 5) (gmi_2 : gi (mi 2) 0 5) (gmi_4 : gi (mi 4) 0 1) (gmi_7 : gi (mi 7) 0 6) (gmi_10 : gi (mi 10) 0 24) (gmi_17 : gi (mi 17) 0 8) (gmi_23 : gi (mi 23) 0 300) (gmi_24 : gi (mi 24) 0 1) (gmi_26 : gi (mi 26) 0 1600) (gmi_29 : gi (mi 29) 0 1600) (gmi_30 : gi (mi 30) 0 1600) (gmi_33 : gi (mi 33) 0 1) (gmi_37 : gi (mi 37) 0 1) (gmi_41 : gi (mi 41) 0 24) (gmi_50 : gi (mi 50) 0 1) (gmi_51 : gi (mi 51) 0 1) (gmi_56 : gi (mi 56) 0 80) (gfm_reportMonth : ga fm_reportMonth 24 0 23) (gfm_reportDay : ga fm_reportDay 24 0 999) (gp1 : gi p1 0 23) : Met l yX12_holds (.code yX12_holds cX12_holds 4 none :: wsGB) ({ frames := 1, cells := 0, slots := 0, locals := 15 }) (va_Pc [.ref h0, .int p1] (fun U => U.heap.size = sz ∧ va_P (dC, dI) vwCl [(h0, .inr (12, fsMM mi mr)), ((mr 5), .inl (km_reportMonth, 24, .inl fm_reportMonth)), ((mr 6), .inl (km_reportDay, 24, .inl fm_reportDay)), ((mr 3), .inl (km_reportKind, 24, .inl fm_reportKind)), ((mr 14), .inl (km_must, 25, .inl fm_must)), ((mr 15), .inl (km_least, 25, .inl fm_least))] U.heap ∧ va_K (dC, dI) vwCl [(km_reportMonth, .int), (km_reportDay, .int), (km_reportKind, .int), (km_must, .int), (km_least, .int)] U ∧ va_D (fun _ => True) [(h0, .inr (12, fsMM mi mr)), ((mr 5), .inl (km_reportMonth, 24, .inl fm_reportMonth)), ((mr 6), .inl (km_reportDay, 24, .inl fm_reportDay)), ((mr 3), .inl (km_reportKind, 24, .inl fm_reportKind)), ((mr 14), .inl (km_must, 25, .inl fm_must)), ((mr 15), .inl (km_least, 25, .inl fm_least))])) (va_Qv (fun (u : Unit) => True) (fun _ t => ∃ (w0_37 : Int32) (z4 : Nat → Int32) (z5 : Nat → Int32), gi w0_37 0 1 ∧ va_P (dC, dI) vwCl [(h0, .inr (12, fsMM (upd mi 37 w0_37) mr)), ((mr 5), .inl (km_reportMonth, 24, .inl fm_reportMonth)), ((mr 6), .inl (km_reportDay, 24, .inl fm_reportDay)), ((mr 3), .inl (km_reportKind, 24, .inl fm_reportKind)), ((mr 14), .inl (km_must, 25, .inl z4)), ((mr 15), .inl (km_least, 25, .inl z5))] t.heap ∧ va_D (va_A [(h0, .inr (12, fsMM mi mr)), ((mr 5), .inl (km_reportMonth, 24, .inl fm_reportMonth)), ((mr 6), .inl (km_reportDay, 24, .inl fm_reportDay)), ((mr 3), .inl (km_reportKind, 24, .inl fm_reportKind)), ((mr 14), .inl (km_must, 25, .inl fm_must)), ((mr 15), .inl (km_least, 25, .inl fm_least))] sz) [(h0, .inr (12, fsMM (upd mi 37 w0_37) mr)), ((mr 5), .inl (km_reportMonth, 24, .inl fm_reportMonth)), ((mr 6), .inl (km_reportDay, 24, .inl fm_reportDay)), ((mr 3), .inl (km_reportKind, 24, .inl fm_reportKind)), ((mr 14), .inl (km_must, 25, .inl z4)), ((mr 15), .inl (km_least, 25, .inl z5))]) (va_A [(h0, .inr (12, fsMM mi mr)), ((mr 5), .inl (km_reportMonth, 24, .inl fm_reportMonth)), ((mr 6), .inl (km_reportDay, 24, .inl fm_reportDay)), ((mr 3), .inl (km_reportKind, 24, .inl fm_reportKind)), ((mr 14), .inl (km_must, 25, .inl fm_must)), ((mr 15), .inl (km_least, 25, .inl fm_least))] sz)) 0 0 (va_A [(h0, .inr (12, fsMM mi mr)), ((mr 5), .inl (km_reportMonth, 24, .inl fm_reportMonth)), ((mr 6), .inl (km_reportDay, 24, .inl fm_reportDay)), ((mr 3), .inl (km_reportKind, 24, .inl fm_reportKind)), ((mr 14), .inl (km_must, 25, .inl fm_must)), ((mr 15), .inl (km_least, 25, .inl fm_least))] sz) := by
  refine Met.ofW (cc := cX12_holds) (maxL := 4) (ret := none) (by decide) rfl ?_
  intro p e s m args below meth c s₁ B hml hv
  obtain ⟨rfl, hsz, hP, hK, hD0⟩ := hv
  have hx := B.exec
  have hb := B.bytes
  have hr := B.returns
  have hts := atoms_spec (ws := (.code yX12_holds cX12_holds 4 none :: wsGB)) B.pre
  have hown : s.vm.findClass RX12 = some m.cls := findClass_of_methodNamed B.named
  have hlocks := B.notSynchronized
  subst hsz
  have hD := hD0.self (sz := s.heap.size)
  generalize hAe : va_A [(h0, .inr (12, fsMM mi mr)), ((mr 5), .inl (km_reportMonth, 24, .inl fm_reportMonth)), ((mr 6), .inl (km_reportDay, 24, .inl fm_reportDay)), ((mr 3), .inl (km_reportKind, 24, .inl fm_reportKind)), ((mr 14), .inl (km_must, 25, .inl fm_must)), ((mr 15), .inl (km_least, 25, .inl fm_least))] s.heap.size = A at hD ⊢
  have hA : ∀ q : Nat, s.heap.size ≤ q → A q := fun q h => by rw [← hAe]; exact Or.inr h
  have hS : va_S A s.heap s.heap [] := va_S.rf
  have hl := lv_entry ([.ref h0, .int p1]) (n := 4) (Nat.le_of_ble_eq_true rfl)
  rw [lg_entry_eq]
  generalize (lg_sl ([.ref h0, .int p1]) ++ List.replicate (4 - (lg_sl ([.ref h0, .int p1])).length) Slot.unset).toArray = ls at hl ⊢
  have hl : lv_has ls 4 [(0, .ref h0), (1, .int p1)] := hl
  refine lv_aload_n hx hb dX12_holds_0 rfl (lv_at hl 0 rfl) ?_
  refine va_get (D := (dC, dI)) (ci := 12) (v := .ref (mr 5)) (C := RX12) (T := TX12) (N := 57) hx hb hts (fun w h => List.mem_cons_of_mem _ (jnGB_X12 w h)) hown hK hP 0 rfl rfl 14 (by decide) (hts _ (List.mem_cons_of_mem _ mGB_16)) (fun _ h9 => h9) rfl dX12_holds_1 ?_
  refine lv_iload_n hx hb dX12_holds_4 rfl (lv_at hl 1 rfl) ?_
  refine va_iald hx hb hK hP 1 0 rfl rfl (gi_in gp1 (by decide)) dX12_holds_5 ?_
  refine lv_topi (fun x_109 ex_109 => ?_)
  have gx_109 : gi x_109 0 23 := ga_at gfm_reportMonth (gi_in gp1 (by decide)) ex_109
  refine lv_istore_n (lv' := [(2, .int x_109), (0, .ref h0), (1, .int p1)]) hx hb dX12_holds_6 rfl hl (by decide) rfl (fun ls hl => ?_)
  refine lv_aload_n hx hb dX12_holds_7 rfl (lv_at hl 1 rfl) ?_
  refine va_get (D := (dC, dI)) (ci := 12) (v := .ref (mr 6)) (C := RX12) (T := TX12) (N := 57) hx hb hts (fun w h => List.mem_cons_of_mem _ (jnGB_X12 w h)) hown hK hP 0 rfl rfl 15 (by decide) (hts _ (List.mem_cons_of_mem _ mGB_17)) (fun _ h9 => h9) rfl dX12_holds_8 ?_
  refine lv_iload_n hx hb dX12_holds_11 rfl (lv_at hl 2 rfl) ?_
  refine va_iald hx hb hK hP 2 1 rfl rfl (gi_in gp1 (by decide)) dX12_holds_12 ?_
  refine lv_topi (fun x_110 ex_110 => ?_)
  have gx_110 : gi x_110 0 999 := ga_at gfm_reportDay (gi_in gp1 (by decide)) ex_110
  refine lv_iconst (v := 1) hx hb dX12_holds_13 (by decide) ?_
  refine lv_iadd hx hb dX12_holds_14 ?_
  refine lv_topi (fun x_111 ex_111 => ?_)
  have gx_111 : gi x_111 1 1000 := gi_add ex_111 gx_110 (gi_c 1 1 (by decide)) (by decide)
  refine lv_istore_n (lv' := [(3, .int x_111), (2, .int x_109), (0, .ref h0), (1, .int p1)]) hx hb dX12_holds_15 rfl hl (by decide) rfl (fun ls hl => ?_)
  refine lv_aload_n hx hb dX12_holds_16 rfl (lv_at hl 2 rfl) ?_
  refine va_get (D := (dC, dI)) (ci := 12) (v := .ref (mr 3)) (C := RX12) (T := TX12) (N := 57) hx hb hts (fun w h => List.mem_cons_of_mem _ (jnGB_X12 w h)) hown hK hP 0 rfl rfl 12 (by decide) (hts _ (List.mem_cons_of_mem _ mGB_13)) (fun _ h9 => h9) rfl dX12_holds_17 ?_
  refine lv_iload_n hx hb dX12_holds_20 rfl (lv_at hl 3 rfl) ?_
  refine va_iald hx hb hK hP 3 2 rfl rfl (gi_in gp1 (by decide)) dX12_holds_21 ?_
  refine lv_topi (fun x_112 ex_112 => ?_)
  refine lv_if_ne (tgt := 68) hx hb dX12_holds_22 (by decide) (fun c_113 => ?_) (fun c_113 => ?_)
  · refine lv_aload_n hx hb dX12_holds_68 rfl (lv_at hl 2 rfl) ?_
    refine va_get (D := (dC, dI)) (ci := 12) (v := .ref (mr 3)) (C := RX12) (T := TX12) (N := 57) hx hb hts (fun w h => List.mem_cons_of_mem _ (jnGB_X12 w h)) hown hK hP 0 rfl rfl 12 (by decide) (hts _ (List.mem_cons_of_mem _ mGB_13)) (fun _ h9 => h9) rfl dX12_holds_69 ?_
    refine lv_iload_n hx hb dX12_holds_72 rfl (lv_at hl 3 rfl) ?_
    refine va_iald hx hb hK hP 3 2 rfl rfl (gi_in gp1 (by decide)) dX12_holds_73 ?_
    refine lv_topi (fun x_114 ex_114 => ?_)
    refine lv_iconst (v := 1) hx hb dX12_holds_74 (by decide) ?_
    refine lv_icmp_ne (tgt := 96) hx hb dX12_holds_75 (by decide) (fun c_115 => ?_) (fun c_115 => ?_)
    · exact W.vret hx hb hr (fun t ht hW => ⟨⟨(), rfl, trivial, (mi 37), fm_must, fm_least, gmi_37, by rw [ht]; exact hP, hD⟩, hS.F ht⟩) hS.2.2 dX12_holds_96
    · have g_116 : gi x_114 1 1 := gi_eq c_115 (gi_c 1 1 (by decide))
      refine lv_aload_n hx hb dX12_holds_78 rfl (lv_at hl 2 rfl) ?_
      refine va_get (D := (dC, dI)) (ci := 12) (v := .ref (mr 15)) (C := RX12) (T := TX12) (N := 57) hx hb hts (fun w h => List.mem_cons_of_mem _ (jnGB_X12 w h)) hown hK hP 0 rfl rfl 35 (by decide) (hts _ (List.mem_cons_of_mem _ mGB_27)) (fun _ h9 => h9) rfl dX12_holds_79 ?_
      refine lv_iload_n hx hb dX12_holds_82 rfl (lv_at hl 1 rfl) ?_
      refine lv_aload_n hx hb dX12_holds_83 rfl (lv_at hl 2 rfl) ?_
      refine va_get (D := (dC, dI)) (ci := 12) (v := .ref (mr 15)) (C := RX12) (T := TX12) (N := 57) hx hb hts (fun w h => List.mem_cons_of_mem _ (jnGB_X12 w h)) hown hK hP 0 rfl rfl 35 (by decide) (hts _ (List.mem_cons_of_mem _ mGB_27)) (fun _ h9 => h9) rfl dX12_holds_84 ?_
      refine lv_iload_n hx hb dX12_holds_87 rfl (lv_at hl 1 rfl) ?_
      refine va_iald hx hb hK hP 5 4 rfl rfl (gi_in gx_109 (by decide)) dX12_holds_88 ?_
      refine lv_topi (fun x_117 ex_117 => ?_)
      refine lv_iload_n hx hb dX12_holds_89 rfl (lv_at hl 0 rfl) ?_
      refine lv_iconst (v := 1) hx hb dX12_holds_90 (by decide) ?_
      refine lv_iadd hx hb dX12_holds_91 ?_
      refine lv_topi (fun x_118 ex_118 => ?_)
      have gx_118 : gi x_118 2 1001 := gi_add ex_118 gx_111 (gi_c 1 1 (by decide)) (by decide)
      refine va_mmax (own := RX12) hx hb (by rw [hml]; exact hl.1.symm) hown (hts _ (List.mem_cons_of_mem _ mGB_202)) (hts _ (List.mem_cons_of_mem _ mGB_203)) (hts _ (List.mem_cons_of_mem _ mGB_98)) (hts _ (List.mem_cons_of_mem _ mGB_204)) (Nat.le_of_ble_eq_true rfl) (Nat.le_of_ble_eq_true rfl) (Nat.zero_le _) (Nat.zero_le _) dX12_holds_92 ?_
      refine lv_topi (fun x_119 ex_119 => ?_)
      have gx_119 : gi x_119 2 2147483647 := gi_max ex_119 (gi_any x_117) gx_118 (by decide)
      refine va_iast hx hb hK hP hD hS 5 4 rfl rfl (gi_in gx_109 (by decide)) dX12_holds_95 (fun H locs hP hD hS => ?_)
      have hP : va_P (dC, dI) vwCl [(h0, .inr (12, fsMM mi mr)), ((mr 5), .inl (km_reportMonth, 24, .inl fm_reportMonth)), ((mr 6), .inl (km_reportDay, 24, .inl fm_reportDay)), ((mr 3), .inl (km_reportKind, 24, .inl fm_reportKind)), ((mr 14), .inl (km_must, 25, .inl fm_must)), ((mr 15), .inl (km_least, 25, .inl (upd fm_least (x_109 : Int32).toNatClampNeg x_119)))] H := hP
      have hD : va_D A [(h0, .inr (12, fsMM mi mr)), ((mr 5), .inl (km_reportMonth, 24, .inl fm_reportMonth)), ((mr 6), .inl (km_reportDay, 24, .inl fm_reportDay)), ((mr 3), .inl (km_reportKind, 24, .inl fm_reportKind)), ((mr 14), .inl (km_must, 25, .inl fm_must)), ((mr 15), .inl (km_least, 25, .inl (upd fm_least (x_109 : Int32).toNatClampNeg x_119)))] := hD
      generalize upd fm_least (x_109 : Int32).toNatClampNeg x_119 = f_120 at hP hD
      exact W.vret hx hb hr (fun t ht hW => ⟨⟨(), rfl, trivial, (mi 37), fm_must, f_120, gmi_37, by rw [ht]; exact hP, hD⟩, hS.F ht⟩) hS.2.2 dX12_holds_96
  · have g_121 : gi x_112 0 0 := gi_eq c_113 (gi_c 0 0 (by decide))
    refine lv_aload_n hx hb dX12_holds_25 rfl (lv_at hl 2 rfl) ?_
    refine lv_aload_n hx hb dX12_holds_26 rfl (lv_at hl 2 rfl) ?_
    refine va_get (D := (dC, dI)) (ci := 12) (v := .int (mi 37)) (C := RX12) (T := TX12) (N := 57) hx hb hts (fun w h => List.mem_cons_of_mem _ (jnGB_X12 w h)) hown hK hP 0 rfl rfl 37 (by decide) (hts _ (List.mem_cons_of_mem _ mGB_270)) (fun _ h9 => h9) rfl dX12_holds_27 ?_
    refine lv_if_ne (tgt := 53) hx hb dX12_holds_30 (by decide) (fun c_122 => ?_) (fun c_122 => ?_)
    · have g_123 : gi (mi 37) 1 1 := gi_ne_lo c_122 gmi_37 (gi_c 0 0 (by decide)) (by decide)
      refine lv_iconst (v := 1) hx hb dX12_holds_53 (by decide) ?_
      refine lv_goto (tgt := 58) hx hb dX12_holds_54 (by decide) ?_
      refine va_put (D := (dC, dI)) (ci := 12) (v := .int 1) (ty := .boolean) (C := RX12) (T := TX12) (N := 57) hx hb hts (fun w h => List.mem_cons_of_mem _ (jnGB_X12 w h)) tyX12 tyX12_ok nmX12 hown hK hP hD hS 0 rfl rfl 37 (by decide) (hts _ (List.mem_cons_of_mem _ mGB_270)) (fun _ h9 => h9) rfl (by decide +kernel) rfl rfl (Nat.le_of_ble_eq_true rfl) dX12_holds_58 (fun H locs hP hD hS => ?_)
      have hP : va_P (dC, dI) vwCl [(h0, .inr (12, fsMM (upd mi 37 1) mr)), ((mr 5), .inl (km_reportMonth, 24, .inl fm_reportMonth)), ((mr 6), .inl (km_reportDay, 24, .inl fm_reportDay)), ((mr 3), .inl (km_reportKind, 24, .inl fm_reportKind)), ((mr 14), .inl (km_must, 25, .inl fm_must)), ((mr 15), .inl (km_least, 25, .inl fm_least))] H := hP
      have hD : va_D A [(h0, .inr (12, fsMM (upd mi 37 1) mr)), ((mr 5), .inl (km_reportMonth, 24, .inl fm_reportMonth)), ((mr 6), .inl (km_reportDay, 24, .inl fm_reportDay)), ((mr 3), .inl (km_reportKind, 24, .inl fm_reportKind)), ((mr 14), .inl (km_must, 25, .inl fm_must)), ((mr 15), .inl (km_least, 25, .inl fm_least))] := hD
      refine lv_aload_n hx hb dX12_holds_61 rfl (lv_at hl 2 rfl) ?_
      refine va_get (D := (dC, dI)) (ci := 12) (v := .ref (mr 14)) (C := RX12) (T := TX12) (N := 57) hx hb hts (fun w h => List.mem_cons_of_mem _ (jnGB_X12 w h)) hown hK hP 0 rfl rfl 34 (by decide) (hts _ (List.mem_cons_of_mem _ mGB_26)) (fun _ h9 => h9) rfl dX12_holds_62 ?_
      refine lv_iload_n hx hb dX12_holds_65 rfl (lv_at hl 1 rfl) ?_
      refine lv_iload_n hx hb dX12_holds_66 rfl (lv_at hl 0 rfl) ?_
      refine va_iast hx hb hK hP hD hS 4 3 rfl rfl (gi_in gx_109 (by decide)) dX12_holds_67 (fun H locs hP hD hS => ?_)
      have hP : va_P (dC, dI) vwCl [(h0, .inr (12, fsMM (upd mi 37 1) mr)), ((mr 5), .inl (km_reportMonth, 24, .inl fm_reportMonth)), ((mr 6), .inl (km_reportDay, 24, .inl fm_reportDay)), ((mr 3), .inl (km_reportKind, 24, .inl fm_reportKind)), ((mr 14), .inl (km_must, 25, .inl (upd fm_must (x_109 : Int32).toNatClampNeg x_111))), ((mr 15), .inl (km_least, 25, .inl fm_least))] H := hP
      have hD : va_D A [(h0, .inr (12, fsMM (upd mi 37 1) mr)), ((mr 5), .inl (km_reportMonth, 24, .inl fm_reportMonth)), ((mr 6), .inl (km_reportDay, 24, .inl fm_reportDay)), ((mr 3), .inl (km_reportKind, 24, .inl fm_reportKind)), ((mr 14), .inl (km_must, 25, .inl (upd fm_must (x_109 : Int32).toNatClampNeg x_111))), ((mr 15), .inl (km_least, 25, .inl fm_least))] := hD
      generalize upd fm_must (x_109 : Int32).toNatClampNeg x_111 = f_124 at hP hD
      refine lv_aload_n hx hb dX12_holds_68 rfl (lv_at hl 2 rfl) ?_
      refine va_get (D := (dC, dI)) (ci := 12) (v := .ref (mr 3)) (C := RX12) (T := TX12) (N := 57) hx hb hts (fun w h => List.mem_cons_of_mem _ (jnGB_X12 w h)) hown hK hP 0 rfl rfl 12 (by decide) (hts _ (List.mem_cons_of_mem _ mGB_13)) (fun _ h9 => h9) rfl dX12_holds_69 ?_
      refine lv_iload_n hx hb dX12_holds_72 rfl (lv_at hl 3 rfl) ?_
      refine va_iald hx hb hK hP 3 2 rfl rfl (gi_in gp1 (by decide)) dX12_holds_73 ?_
      refine lv_topi (fun x_125 ex_125 => ?_)
      refine lv_iconst (v := 1) hx hb dX12_holds_74 (by decide) ?_
      refine lv_icmp_ne (tgt := 96) hx hb dX12_holds_75 (by decide) (fun c_126 => ?_) (fun c_126 => ?_)
      · exact W.vret hx hb hr (fun t ht hW => ⟨⟨(), rfl, trivial, 1, f_124, fm_least, (gi_w (gi_c 1 1 (by decide)) (by decide)), by rw [ht]; exact hP, hD⟩, hS.F ht⟩) hS.2.2 dX12_holds_96
      · have g_127 : gi x_125 1 1 := gi_eq c_126 (gi_c 1 1 (by decide))
        refine lv_aload_n hx hb dX12_holds_78 rfl (lv_at hl 2 rfl) ?_
        refine va_get (D := (dC, dI)) (ci := 12) (v := .ref (mr 15)) (C := RX12) (T := TX12) (N := 57) hx hb hts (fun w h => List.mem_cons_of_mem _ (jnGB_X12 w h)) hown hK hP 0 rfl rfl 35 (by decide) (hts _ (List.mem_cons_of_mem _ mGB_27)) (fun _ h9 => h9) rfl dX12_holds_79 ?_
        refine lv_iload_n hx hb dX12_holds_82 rfl (lv_at hl 1 rfl) ?_
        refine lv_aload_n hx hb dX12_holds_83 rfl (lv_at hl 2 rfl) ?_
        refine va_get (D := (dC, dI)) (ci := 12) (v := .ref (mr 15)) (C := RX12) (T := TX12) (N := 57) hx hb hts (fun w h => List.mem_cons_of_mem _ (jnGB_X12 w h)) hown hK hP 0 rfl rfl 35 (by decide) (hts _ (List.mem_cons_of_mem _ mGB_27)) (fun _ h9 => h9) rfl dX12_holds_84 ?_
        refine lv_iload_n hx hb dX12_holds_87 rfl (lv_at hl 1 rfl) ?_
        refine va_iald hx hb hK hP 5 4 rfl rfl (gi_in gx_109 (by decide)) dX12_holds_88 ?_
        refine lv_topi (fun x_128 ex_128 => ?_)
        refine lv_iload_n hx hb dX12_holds_89 rfl (lv_at hl 0 rfl) ?_
        refine lv_iconst (v := 1) hx hb dX12_holds_90 (by decide) ?_
        refine lv_iadd hx hb dX12_holds_91 ?_
        refine lv_topi (fun x_129 ex_129 => ?_)
        have gx_129 : gi x_129 2 1001 := gi_add ex_129 gx_111 (gi_c 1 1 (by decide)) (by decide)
        refine va_mmax (own := RX12) hx hb (by rw [hml]; exact hl.1.symm) hown (hts _ (List.mem_cons_of_mem _ mGB_202)) (hts _ (List.mem_cons_of_mem _ mGB_203)) (hts _ (List.mem_cons_of_mem _ mGB_98)) (hts _ (List.mem_cons_of_mem _ mGB_204)) (Nat.le_of_ble_eq_true rfl) (Nat.le_of_ble_eq_true rfl) (Nat.zero_le _) (Nat.zero_le _) dX12_holds_92 ?_
        refine lv_topi (fun x_130 ex_130 => ?_)
        have gx_130 : gi x_130 2 2147483647 := gi_max ex_130 (gi_any x_128) gx_129 (by decide)
        refine va_iast hx hb hK hP hD hS 5 4 rfl rfl (gi_in gx_109 (by decide)) dX12_holds_95 (fun H locs hP hD hS => ?_)
        have hP : va_P (dC, dI) vwCl [(h0, .inr (12, fsMM (upd mi 37 1) mr)), ((mr 5), .inl (km_reportMonth, 24, .inl fm_reportMonth)), ((mr 6), .inl (km_reportDay, 24, .inl fm_reportDay)), ((mr 3), .inl (km_reportKind, 24, .inl fm_reportKind)), ((mr 14), .inl (km_must, 25, .inl f_124)), ((mr 15), .inl (km_least, 25, .inl (upd fm_least (x_109 : Int32).toNatClampNeg x_130)))] H := hP
        have hD : va_D A [(h0, .inr (12, fsMM (upd mi 37 1) mr)), ((mr 5), .inl (km_reportMonth, 24, .inl fm_reportMonth)), ((mr 6), .inl (km_reportDay, 24, .inl fm_reportDay)), ((mr 3), .inl (km_reportKind, 24, .inl fm_reportKind)), ((mr 14), .inl (km_must, 25, .inl f_124)), ((mr 15), .inl (km_least, 25, .inl (upd fm_least (x_109 : Int32).toNatClampNeg x_130)))] := hD
        generalize upd fm_least (x_109 : Int32).toNatClampNeg x_130 = f_131 at hP hD
        exact W.vret hx hb hr (fun t ht hW => ⟨⟨(), rfl, trivial, 1, f_124, f_131, (gi_w (gi_c 1 1 (by decide)) (by decide)), by rw [ht]; exact hP, hD⟩, hS.F ht⟩) hS.2.2 dX12_holds_96
    · have g_132 : gi (mi 37) 0 0 := gi_eq c_122 (gi_c 0 0 (by decide))
      refine lv_aload_n hx hb dX12_holds_33 rfl (lv_at hl 2 rfl) ?_
      refine va_get (D := (dC, dI)) (ci := 12) (v := .ref (mr 14)) (C := RX12) (T := TX12) (N := 57) hx hb hts (fun w h => List.mem_cons_of_mem _ (jnGB_X12 w h)) hown hK hP 0 rfl rfl 34 (by decide) (hts _ (List.mem_cons_of_mem _ mGB_26)) (fun _ h9 => h9) rfl dX12_holds_34 ?_
      refine lv_iload_n hx hb dX12_holds_37 rfl (lv_at hl 1 rfl) ?_
      refine va_iald hx hb hK hP 4 3 rfl rfl (gi_in gx_109 (by decide)) dX12_holds_38 ?_
      refine lv_topi (fun x_133 ex_133 => ?_)
      refine lv_iconst (v := (-1)) hx hb dX12_holds_39 (by decide) ?_
      refine lv_icmp_eq (tgt := 57) hx hb dX12_holds_40 (by decide) (fun c_134 => ?_) (fun c_134 => ?_)
      · have g_135 : gi x_133 (-1) (-1) := gi_eq c_134 (gi_c (-1) (-1) (by decide))
        refine lv_iconst (v := 0) hx hb dX12_holds_57 (by decide) ?_
        refine va_put (D := (dC, dI)) (ci := 12) (v := .int 0) (ty := .boolean) (C := RX12) (T := TX12) (N := 57) hx hb hts (fun w h => List.mem_cons_of_mem _ (jnGB_X12 w h)) tyX12 tyX12_ok nmX12 hown hK hP hD hS 0 rfl rfl 37 (by decide) (hts _ (List.mem_cons_of_mem _ mGB_270)) (fun _ h9 => h9) rfl (by decide +kernel) rfl rfl (Nat.le_of_ble_eq_true rfl) dX12_holds_58 (fun H locs hP hD hS => ?_)
        have hP : va_P (dC, dI) vwCl [(h0, .inr (12, fsMM (upd mi 37 0) mr)), ((mr 5), .inl (km_reportMonth, 24, .inl fm_reportMonth)), ((mr 6), .inl (km_reportDay, 24, .inl fm_reportDay)), ((mr 3), .inl (km_reportKind, 24, .inl fm_reportKind)), ((mr 14), .inl (km_must, 25, .inl fm_must)), ((mr 15), .inl (km_least, 25, .inl fm_least))] H := hP
        have hD : va_D A [(h0, .inr (12, fsMM (upd mi 37 0) mr)), ((mr 5), .inl (km_reportMonth, 24, .inl fm_reportMonth)), ((mr 6), .inl (km_reportDay, 24, .inl fm_reportDay)), ((mr 3), .inl (km_reportKind, 24, .inl fm_reportKind)), ((mr 14), .inl (km_must, 25, .inl fm_must)), ((mr 15), .inl (km_least, 25, .inl fm_least))] := hD
        refine lv_aload_n hx hb dX12_holds_61 rfl (lv_at hl 2 rfl) ?_
        refine va_get (D := (dC, dI)) (ci := 12) (v := .ref (mr 14)) (C := RX12) (T := TX12) (N := 57) hx hb hts (fun w h => List.mem_cons_of_mem _ (jnGB_X12 w h)) hown hK hP 0 rfl rfl 34 (by decide) (hts _ (List.mem_cons_of_mem _ mGB_26)) (fun _ h9 => h9) rfl dX12_holds_62 ?_
        refine lv_iload_n hx hb dX12_holds_65 rfl (lv_at hl 1 rfl) ?_
        refine lv_iload_n hx hb dX12_holds_66 rfl (lv_at hl 0 rfl) ?_
        refine va_iast hx hb hK hP hD hS 4 3 rfl rfl (gi_in gx_109 (by decide)) dX12_holds_67 (fun H locs hP hD hS => ?_)
        have hP : va_P (dC, dI) vwCl [(h0, .inr (12, fsMM (upd mi 37 0) mr)), ((mr 5), .inl (km_reportMonth, 24, .inl fm_reportMonth)), ((mr 6), .inl (km_reportDay, 24, .inl fm_reportDay)), ((mr 3), .inl (km_reportKind, 24, .inl fm_reportKind)), ((mr 14), .inl (km_must, 25, .inl (upd fm_must (x_109 : Int32).toNatClampNeg x_111))), ((mr 15), .inl (km_least, 25, .inl fm_least))] H := hP
        have hD : va_D A [(h0, .inr (12, fsMM (upd mi 37 0) mr)), ((mr 5), .inl (km_reportMonth, 24, .inl fm_reportMonth)), ((mr 6), .inl (km_reportDay, 24, .inl fm_reportDay)), ((mr 3), .inl (km_reportKind, 24, .inl fm_reportKind)), ((mr 14), .inl (km_must, 25, .inl (upd fm_must (x_109 : Int32).toNatClampNeg x_111))), ((mr 15), .inl (km_least, 25, .inl fm_least))] := hD
        generalize upd fm_must (x_109 : Int32).toNatClampNeg x_111 = f_136 at hP hD
        refine lv_aload_n hx hb dX12_holds_68 rfl (lv_at hl 2 rfl) ?_
        refine va_get (D := (dC, dI)) (ci := 12) (v := .ref (mr 3)) (C := RX12) (T := TX12) (N := 57) hx hb hts (fun w h => List.mem_cons_of_mem _ (jnGB_X12 w h)) hown hK hP 0 rfl rfl 12 (by decide) (hts _ (List.mem_cons_of_mem _ mGB_13)) (fun _ h9 => h9) rfl dX12_holds_69 ?_
        refine lv_iload_n hx hb dX12_holds_72 rfl (lv_at hl 3 rfl) ?_
        refine va_iald hx hb hK hP 3 2 rfl rfl (gi_in gp1 (by decide)) dX12_holds_73 ?_
        refine lv_topi (fun x_137 ex_137 => ?_)
        refine lv_iconst (v := 1) hx hb dX12_holds_74 (by decide) ?_
        refine lv_icmp_ne (tgt := 96) hx hb dX12_holds_75 (by decide) (fun c_138 => ?_) (fun c_138 => ?_)
        · exact W.vret hx hb hr (fun t ht hW => ⟨⟨(), rfl, trivial, 0, f_136, fm_least, (gi_w (gi_c 0 0 (by decide)) (by decide)), by rw [ht]; exact hP, hD⟩, hS.F ht⟩) hS.2.2 dX12_holds_96
        · have g_139 : gi x_137 1 1 := gi_eq c_138 (gi_c 1 1 (by decide))
          refine lv_aload_n hx hb dX12_holds_78 rfl (lv_at hl 2 rfl) ?_
          refine va_get (D := (dC, dI)) (ci := 12) (v := .ref (mr 15)) (C := RX12) (T := TX12) (N := 57) hx hb hts (fun w h => List.mem_cons_of_mem _ (jnGB_X12 w h)) hown hK hP 0 rfl rfl 35 (by decide) (hts _ (List.mem_cons_of_mem _ mGB_27)) (fun _ h9 => h9) rfl dX12_holds_79 ?_
          refine lv_iload_n hx hb dX12_holds_82 rfl (lv_at hl 1 rfl) ?_
          refine lv_aload_n hx hb dX12_holds_83 rfl (lv_at hl 2 rfl) ?_
          refine va_get (D := (dC, dI)) (ci := 12) (v := .ref (mr 15)) (C := RX12) (T := TX12) (N := 57) hx hb hts (fun w h => List.mem_cons_of_mem _ (jnGB_X12 w h)) hown hK hP 0 rfl rfl 35 (by decide) (hts _ (List.mem_cons_of_mem _ mGB_27)) (fun _ h9 => h9) rfl dX12_holds_84 ?_
          refine lv_iload_n hx hb dX12_holds_87 rfl (lv_at hl 1 rfl) ?_
          refine va_iald hx hb hK hP 5 4 rfl rfl (gi_in gx_109 (by decide)) dX12_holds_88 ?_
          refine lv_topi (fun x_140 ex_140 => ?_)
          refine lv_iload_n hx hb dX12_holds_89 rfl (lv_at hl 0 rfl) ?_
          refine lv_iconst (v := 1) hx hb dX12_holds_90 (by decide) ?_
          refine lv_iadd hx hb dX12_holds_91 ?_
          refine lv_topi (fun x_141 ex_141 => ?_)
          have gx_141 : gi x_141 2 1001 := gi_add ex_141 gx_111 (gi_c 1 1 (by decide)) (by decide)
          refine va_mmax (own := RX12) hx hb (by rw [hml]; exact hl.1.symm) hown (hts _ (List.mem_cons_of_mem _ mGB_202)) (hts _ (List.mem_cons_of_mem _ mGB_203)) (hts _ (List.mem_cons_of_mem _ mGB_98)) (hts _ (List.mem_cons_of_mem _ mGB_204)) (Nat.le_of_ble_eq_true rfl) (Nat.le_of_ble_eq_true rfl) (Nat.zero_le _) (Nat.zero_le _) dX12_holds_92 ?_
          refine lv_topi (fun x_142 ex_142 => ?_)
          have gx_142 : gi x_142 2 2147483647 := gi_max ex_142 (gi_any x_140) gx_141 (by decide)
          refine va_iast hx hb hK hP hD hS 5 4 rfl rfl (gi_in gx_109 (by decide)) dX12_holds_95 (fun H locs hP hD hS => ?_)
          have hP : va_P (dC, dI) vwCl [(h0, .inr (12, fsMM (upd mi 37 0) mr)), ((mr 5), .inl (km_reportMonth, 24, .inl fm_reportMonth)), ((mr 6), .inl (km_reportDay, 24, .inl fm_reportDay)), ((mr 3), .inl (km_reportKind, 24, .inl fm_reportKind)), ((mr 14), .inl (km_must, 25, .inl f_136)), ((mr 15), .inl (km_least, 25, .inl (upd fm_least (x_109 : Int32).toNatClampNeg x_142)))] H := hP
          have hD : va_D A [(h0, .inr (12, fsMM (upd mi 37 0) mr)), ((mr 5), .inl (km_reportMonth, 24, .inl fm_reportMonth)), ((mr 6), .inl (km_reportDay, 24, .inl fm_reportDay)), ((mr 3), .inl (km_reportKind, 24, .inl fm_reportKind)), ((mr 14), .inl (km_must, 25, .inl f_136)), ((mr 15), .inl (km_least, 25, .inl (upd fm_least (x_109 : Int32).toNatClampNeg x_142)))] := hD
          generalize upd fm_least (x_109 : Int32).toNatClampNeg x_142 = f_143 at hP hD
          exact W.vret hx hb hr (fun t ht hW => ⟨⟨(), rfl, trivial, 0, f_136, f_143, (gi_w (gi_c 0 0 (by decide)) (by decide)), by rw [ht]; exact hP, hD⟩, hS.F ht⟩) hS.2.2 dX12_holds_96
      · refine lv_aload_n hx hb dX12_holds_43 rfl (lv_at hl 2 rfl) ?_
        refine va_get (D := (dC, dI)) (ci := 12) (v := .ref (mr 14)) (C := RX12) (T := TX12) (N := 57) hx hb hts (fun w h => List.mem_cons_of_mem _ (jnGB_X12 w h)) hown hK hP 0 rfl rfl 34 (by decide) (hts _ (List.mem_cons_of_mem _ mGB_26)) (fun _ h9 => h9) rfl dX12_holds_44 ?_
        refine lv_iload_n hx hb dX12_holds_47 rfl (lv_at hl 1 rfl) ?_
        refine va_iald hx hb hK hP 4 3 rfl rfl (gi_in gx_109 (by decide)) dX12_holds_48 ?_
        refine lv_topi (fun x_144 ex_144 => ?_)
        refine lv_iload_n hx hb dX12_holds_49 rfl (lv_at hl 0 rfl) ?_
        refine lv_icmp_eq (tgt := 57) hx hb dX12_holds_50 (by decide) (fun c_145 => ?_) (fun c_145 => ?_)
        · have g_146 : gi x_144 1 1000 := gi_eq c_145 gx_111
          refine lv_iconst (v := 0) hx hb dX12_holds_57 (by decide) ?_
          refine va_put (D := (dC, dI)) (ci := 12) (v := .int 0) (ty := .boolean) (C := RX12) (T := TX12) (N := 57) hx hb hts (fun w h => List.mem_cons_of_mem _ (jnGB_X12 w h)) tyX12 tyX12_ok nmX12 hown hK hP hD hS 0 rfl rfl 37 (by decide) (hts _ (List.mem_cons_of_mem _ mGB_270)) (fun _ h9 => h9) rfl (by decide +kernel) rfl rfl (Nat.le_of_ble_eq_true rfl) dX12_holds_58 (fun H locs hP hD hS => ?_)
          have hP : va_P (dC, dI) vwCl [(h0, .inr (12, fsMM (upd mi 37 0) mr)), ((mr 5), .inl (km_reportMonth, 24, .inl fm_reportMonth)), ((mr 6), .inl (km_reportDay, 24, .inl fm_reportDay)), ((mr 3), .inl (km_reportKind, 24, .inl fm_reportKind)), ((mr 14), .inl (km_must, 25, .inl fm_must)), ((mr 15), .inl (km_least, 25, .inl fm_least))] H := hP
          have hD : va_D A [(h0, .inr (12, fsMM (upd mi 37 0) mr)), ((mr 5), .inl (km_reportMonth, 24, .inl fm_reportMonth)), ((mr 6), .inl (km_reportDay, 24, .inl fm_reportDay)), ((mr 3), .inl (km_reportKind, 24, .inl fm_reportKind)), ((mr 14), .inl (km_must, 25, .inl fm_must)), ((mr 15), .inl (km_least, 25, .inl fm_least))] := hD
          refine lv_aload_n hx hb dX12_holds_61 rfl (lv_at hl 2 rfl) ?_
          refine va_get (D := (dC, dI)) (ci := 12) (v := .ref (mr 14)) (C := RX12) (T := TX12) (N := 57) hx hb hts (fun w h => List.mem_cons_of_mem _ (jnGB_X12 w h)) hown hK hP 0 rfl rfl 34 (by decide) (hts _ (List.mem_cons_of_mem _ mGB_26)) (fun _ h9 => h9) rfl dX12_holds_62 ?_
          refine lv_iload_n hx hb dX12_holds_65 rfl (lv_at hl 1 rfl) ?_
          refine lv_iload_n hx hb dX12_holds_66 rfl (lv_at hl 0 rfl) ?_
          refine va_iast hx hb hK hP hD hS 4 3 rfl rfl (gi_in gx_109 (by decide)) dX12_holds_67 (fun H locs hP hD hS => ?_)
          have hP : va_P (dC, dI) vwCl [(h0, .inr (12, fsMM (upd mi 37 0) mr)), ((mr 5), .inl (km_reportMonth, 24, .inl fm_reportMonth)), ((mr 6), .inl (km_reportDay, 24, .inl fm_reportDay)), ((mr 3), .inl (km_reportKind, 24, .inl fm_reportKind)), ((mr 14), .inl (km_must, 25, .inl (upd fm_must (x_109 : Int32).toNatClampNeg x_111))), ((mr 15), .inl (km_least, 25, .inl fm_least))] H := hP
          have hD : va_D A [(h0, .inr (12, fsMM (upd mi 37 0) mr)), ((mr 5), .inl (km_reportMonth, 24, .inl fm_reportMonth)), ((mr 6), .inl (km_reportDay, 24, .inl fm_reportDay)), ((mr 3), .inl (km_reportKind, 24, .inl fm_reportKind)), ((mr 14), .inl (km_must, 25, .inl (upd fm_must (x_109 : Int32).toNatClampNeg x_111))), ((mr 15), .inl (km_least, 25, .inl fm_least))] := hD
          generalize upd fm_must (x_109 : Int32).toNatClampNeg x_111 = f_147 at hP hD
          refine lv_aload_n hx hb dX12_holds_68 rfl (lv_at hl 2 rfl) ?_
          refine va_get (D := (dC, dI)) (ci := 12) (v := .ref (mr 3)) (C := RX12) (T := TX12) (N := 57) hx hb hts (fun w h => List.mem_cons_of_mem _ (jnGB_X12 w h)) hown hK hP 0 rfl rfl 12 (by decide) (hts _ (List.mem_cons_of_mem _ mGB_13)) (fun _ h9 => h9) rfl dX12_holds_69 ?_
          refine lv_iload_n hx hb dX12_holds_72 rfl (lv_at hl 3 rfl) ?_
          refine va_iald hx hb hK hP 3 2 rfl rfl (gi_in gp1 (by decide)) dX12_holds_73 ?_
          refine lv_topi (fun x_148 ex_148 => ?_)
          refine lv_iconst (v := 1) hx hb dX12_holds_74 (by decide) ?_
          refine lv_icmp_ne (tgt := 96) hx hb dX12_holds_75 (by decide) (fun c_149 => ?_) (fun c_149 => ?_)
          · exact W.vret hx hb hr (fun t ht hW => ⟨⟨(), rfl, trivial, 0, f_147, fm_least, (gi_w (gi_c 0 0 (by decide)) (by decide)), by rw [ht]; exact hP, hD⟩, hS.F ht⟩) hS.2.2 dX12_holds_96
          · have g_150 : gi x_148 1 1 := gi_eq c_149 (gi_c 1 1 (by decide))
            refine lv_aload_n hx hb dX12_holds_78 rfl (lv_at hl 2 rfl) ?_
            refine va_get (D := (dC, dI)) (ci := 12) (v := .ref (mr 15)) (C := RX12) (T := TX12) (N := 57) hx hb hts (fun w h => List.mem_cons_of_mem _ (jnGB_X12 w h)) hown hK hP 0 rfl rfl 35 (by decide) (hts _ (List.mem_cons_of_mem _ mGB_27)) (fun _ h9 => h9) rfl dX12_holds_79 ?_
            refine lv_iload_n hx hb dX12_holds_82 rfl (lv_at hl 1 rfl) ?_
            refine lv_aload_n hx hb dX12_holds_83 rfl (lv_at hl 2 rfl) ?_
            refine va_get (D := (dC, dI)) (ci := 12) (v := .ref (mr 15)) (C := RX12) (T := TX12) (N := 57) hx hb hts (fun w h => List.mem_cons_of_mem _ (jnGB_X12 w h)) hown hK hP 0 rfl rfl 35 (by decide) (hts _ (List.mem_cons_of_mem _ mGB_27)) (fun _ h9 => h9) rfl dX12_holds_84 ?_
            refine lv_iload_n hx hb dX12_holds_87 rfl (lv_at hl 1 rfl) ?_
            refine va_iald hx hb hK hP 5 4 rfl rfl (gi_in gx_109 (by decide)) dX12_holds_88 ?_
            refine lv_topi (fun x_151 ex_151 => ?_)
            refine lv_iload_n hx hb dX12_holds_89 rfl (lv_at hl 0 rfl) ?_
            refine lv_iconst (v := 1) hx hb dX12_holds_90 (by decide) ?_
            refine lv_iadd hx hb dX12_holds_91 ?_
            refine lv_topi (fun x_152 ex_152 => ?_)
            have gx_152 : gi x_152 2 1001 := gi_add ex_152 gx_111 (gi_c 1 1 (by decide)) (by decide)
            refine va_mmax (own := RX12) hx hb (by rw [hml]; exact hl.1.symm) hown (hts _ (List.mem_cons_of_mem _ mGB_202)) (hts _ (List.mem_cons_of_mem _ mGB_203)) (hts _ (List.mem_cons_of_mem _ mGB_98)) (hts _ (List.mem_cons_of_mem _ mGB_204)) (Nat.le_of_ble_eq_true rfl) (Nat.le_of_ble_eq_true rfl) (Nat.zero_le _) (Nat.zero_le _) dX12_holds_92 ?_
            refine lv_topi (fun x_153 ex_153 => ?_)
            have gx_153 : gi x_153 2 2147483647 := gi_max ex_153 (gi_any x_151) gx_152 (by decide)
            refine va_iast hx hb hK hP hD hS 5 4 rfl rfl (gi_in gx_109 (by decide)) dX12_holds_95 (fun H locs hP hD hS => ?_)
            have hP : va_P (dC, dI) vwCl [(h0, .inr (12, fsMM (upd mi 37 0) mr)), ((mr 5), .inl (km_reportMonth, 24, .inl fm_reportMonth)), ((mr 6), .inl (km_reportDay, 24, .inl fm_reportDay)), ((mr 3), .inl (km_reportKind, 24, .inl fm_reportKind)), ((mr 14), .inl (km_must, 25, .inl f_147)), ((mr 15), .inl (km_least, 25, .inl (upd fm_least (x_109 : Int32).toNatClampNeg x_153)))] H := hP
            have hD : va_D A [(h0, .inr (12, fsMM (upd mi 37 0) mr)), ((mr 5), .inl (km_reportMonth, 24, .inl fm_reportMonth)), ((mr 6), .inl (km_reportDay, 24, .inl fm_reportDay)), ((mr 3), .inl (km_reportKind, 24, .inl fm_reportKind)), ((mr 14), .inl (km_must, 25, .inl f_147)), ((mr 15), .inl (km_least, 25, .inl (upd fm_least (x_109 : Int32).toNatClampNeg x_153)))] := hD
            generalize upd fm_least (x_109 : Int32).toNatClampNeg x_153 = f_154 at hP hD
            exact W.vret hx hb hr (fun t ht hW => ⟨⟨(), rfl, trivial, 0, f_147, f_154, (gi_w (gi_c 0 0 (by decide)) (by decide)), by rw [ht]; exact hP, hD⟩, hS.F ht⟩) hS.2.2 dX12_holds_96
        · refine lv_iconst (v := 1) hx hb dX12_holds_53 (by decide) ?_
          refine lv_goto (tgt := 58) hx hb dX12_holds_54 (by decide) ?_
          refine va_put (D := (dC, dI)) (ci := 12) (v := .int 1) (ty := .boolean) (C := RX12) (T := TX12) (N := 57) hx hb hts (fun w h => List.mem_cons_of_mem _ (jnGB_X12 w h)) tyX12 tyX12_ok nmX12 hown hK hP hD hS 0 rfl rfl 37 (by decide) (hts _ (List.mem_cons_of_mem _ mGB_270)) (fun _ h9 => h9) rfl (by decide +kernel) rfl rfl (Nat.le_of_ble_eq_true rfl) dX12_holds_58 (fun H locs hP hD hS => ?_)
          have hP : va_P (dC, dI) vwCl [(h0, .inr (12, fsMM (upd mi 37 1) mr)), ((mr 5), .inl (km_reportMonth, 24, .inl fm_reportMonth)), ((mr 6), .inl (km_reportDay, 24, .inl fm_reportDay)), ((mr 3), .inl (km_reportKind, 24, .inl fm_reportKind)), ((mr 14), .inl (km_must, 25, .inl fm_must)), ((mr 15), .inl (km_least, 25, .inl fm_least))] H := hP
          have hD : va_D A [(h0, .inr (12, fsMM (upd mi 37 1) mr)), ((mr 5), .inl (km_reportMonth, 24, .inl fm_reportMonth)), ((mr 6), .inl (km_reportDay, 24, .inl fm_reportDay)), ((mr 3), .inl (km_reportKind, 24, .inl fm_reportKind)), ((mr 14), .inl (km_must, 25, .inl fm_must)), ((mr 15), .inl (km_least, 25, .inl fm_least))] := hD
          refine lv_aload_n hx hb dX12_holds_61 rfl (lv_at hl 2 rfl) ?_
          refine va_get (D := (dC, dI)) (ci := 12) (v := .ref (mr 14)) (C := RX12) (T := TX12) (N := 57) hx hb hts (fun w h => List.mem_cons_of_mem _ (jnGB_X12 w h)) hown hK hP 0 rfl rfl 34 (by decide) (hts _ (List.mem_cons_of_mem _ mGB_26)) (fun _ h9 => h9) rfl dX12_holds_62 ?_
          refine lv_iload_n hx hb dX12_holds_65 rfl (lv_at hl 1 rfl) ?_
          refine lv_iload_n hx hb dX12_holds_66 rfl (lv_at hl 0 rfl) ?_
          refine va_iast hx hb hK hP hD hS 4 3 rfl rfl (gi_in gx_109 (by decide)) dX12_holds_67 (fun H locs hP hD hS => ?_)
          have hP : va_P (dC, dI) vwCl [(h0, .inr (12, fsMM (upd mi 37 1) mr)), ((mr 5), .inl (km_reportMonth, 24, .inl fm_reportMonth)), ((mr 6), .inl (km_reportDay, 24, .inl fm_reportDay)), ((mr 3), .inl (km_reportKind, 24, .inl fm_reportKind)), ((mr 14), .inl (km_must, 25, .inl (upd fm_must (x_109 : Int32).toNatClampNeg x_111))), ((mr 15), .inl (km_least, 25, .inl fm_least))] H := hP
          have hD : va_D A [(h0, .inr (12, fsMM (upd mi 37 1) mr)), ((mr 5), .inl (km_reportMonth, 24, .inl fm_reportMonth)), ((mr 6), .inl (km_reportDay, 24, .inl fm_reportDay)), ((mr 3), .inl (km_reportKind, 24, .inl fm_reportKind)), ((mr 14), .inl (km_must, 25, .inl (upd fm_must (x_109 : Int32).toNatClampNeg x_111))), ((mr 15), .inl (km_least, 25, .inl fm_least))] := hD
          generalize upd fm_must (x_109 : Int32).toNatClampNeg x_111 = f_155 at hP hD
          refine lv_aload_n hx hb dX12_holds_68 rfl (lv_at hl 2 rfl) ?_
          refine va_get (D := (dC, dI)) (ci := 12) (v := .ref (mr 3)) (C := RX12) (T := TX12) (N := 57) hx hb hts (fun w h => List.mem_cons_of_mem _ (jnGB_X12 w h)) hown hK hP 0 rfl rfl 12 (by decide) (hts _ (List.mem_cons_of_mem _ mGB_13)) (fun _ h9 => h9) rfl dX12_holds_69 ?_
          refine lv_iload_n hx hb dX12_holds_72 rfl (lv_at hl 3 rfl) ?_
          refine va_iald hx hb hK hP 3 2 rfl rfl (gi_in gp1 (by decide)) dX12_holds_73 ?_
          refine lv_topi (fun x_156 ex_156 => ?_)
          refine lv_iconst (v := 1) hx hb dX12_holds_74 (by decide) ?_
          refine lv_icmp_ne (tgt := 96) hx hb dX12_holds_75 (by decide) (fun c_157 => ?_) (fun c_157 => ?_)
          · exact W.vret hx hb hr (fun t ht hW => ⟨⟨(), rfl, trivial, 1, f_155, fm_least, (gi_w (gi_c 1 1 (by decide)) (by decide)), by rw [ht]; exact hP, hD⟩, hS.F ht⟩) hS.2.2 dX12_holds_96
          · have g_158 : gi x_156 1 1 := gi_eq c_157 (gi_c 1 1 (by decide))
            refine lv_aload_n hx hb dX12_holds_78 rfl (lv_at hl 2 rfl) ?_
            refine va_get (D := (dC, dI)) (ci := 12) (v := .ref (mr 15)) (C := RX12) (T := TX12) (N := 57) hx hb hts (fun w h => List.mem_cons_of_mem _ (jnGB_X12 w h)) hown hK hP 0 rfl rfl 35 (by decide) (hts _ (List.mem_cons_of_mem _ mGB_27)) (fun _ h9 => h9) rfl dX12_holds_79 ?_
            refine lv_iload_n hx hb dX12_holds_82 rfl (lv_at hl 1 rfl) ?_
            refine lv_aload_n hx hb dX12_holds_83 rfl (lv_at hl 2 rfl) ?_
            refine va_get (D := (dC, dI)) (ci := 12) (v := .ref (mr 15)) (C := RX12) (T := TX12) (N := 57) hx hb hts (fun w h => List.mem_cons_of_mem _ (jnGB_X12 w h)) hown hK hP 0 rfl rfl 35 (by decide) (hts _ (List.mem_cons_of_mem _ mGB_27)) (fun _ h9 => h9) rfl dX12_holds_84 ?_
            refine lv_iload_n hx hb dX12_holds_87 rfl (lv_at hl 1 rfl) ?_
            refine va_iald hx hb hK hP 5 4 rfl rfl (gi_in gx_109 (by decide)) dX12_holds_88 ?_
            refine lv_topi (fun x_159 ex_159 => ?_)
            refine lv_iload_n hx hb dX12_holds_89 rfl (lv_at hl 0 rfl) ?_
            refine lv_iconst (v := 1) hx hb dX12_holds_90 (by decide) ?_
            refine lv_iadd hx hb dX12_holds_91 ?_
            refine lv_topi (fun x_160 ex_160 => ?_)
            have gx_160 : gi x_160 2 1001 := gi_add ex_160 gx_111 (gi_c 1 1 (by decide)) (by decide)
            refine va_mmax (own := RX12) hx hb (by rw [hml]; exact hl.1.symm) hown (hts _ (List.mem_cons_of_mem _ mGB_202)) (hts _ (List.mem_cons_of_mem _ mGB_203)) (hts _ (List.mem_cons_of_mem _ mGB_98)) (hts _ (List.mem_cons_of_mem _ mGB_204)) (Nat.le_of_ble_eq_true rfl) (Nat.le_of_ble_eq_true rfl) (Nat.zero_le _) (Nat.zero_le _) dX12_holds_92 ?_
            refine lv_topi (fun x_161 ex_161 => ?_)
            have gx_161 : gi x_161 2 2147483647 := gi_max ex_161 (gi_any x_159) gx_160 (by decide)
            refine va_iast hx hb hK hP hD hS 5 4 rfl rfl (gi_in gx_109 (by decide)) dX12_holds_95 (fun H locs hP hD hS => ?_)
            have hP : va_P (dC, dI) vwCl [(h0, .inr (12, fsMM (upd mi 37 1) mr)), ((mr 5), .inl (km_reportMonth, 24, .inl fm_reportMonth)), ((mr 6), .inl (km_reportDay, 24, .inl fm_reportDay)), ((mr 3), .inl (km_reportKind, 24, .inl fm_reportKind)), ((mr 14), .inl (km_must, 25, .inl f_155)), ((mr 15), .inl (km_least, 25, .inl (upd fm_least (x_109 : Int32).toNatClampNeg x_161)))] H := hP
            have hD : va_D A [(h0, .inr (12, fsMM (upd mi 37 1) mr)), ((mr 5), .inl (km_reportMonth, 24, .inl fm_reportMonth)), ((mr 6), .inl (km_reportDay, 24, .inl fm_reportDay)), ((mr 3), .inl (km_reportKind, 24, .inl fm_reportKind)), ((mr 14), .inl (km_must, 25, .inl f_155)), ((mr 15), .inl (km_least, 25, .inl (upd fm_least (x_109 : Int32).toNatClampNeg x_161)))] := hD
            generalize upd fm_least (x_109 : Int32).toNatClampNeg x_161 = f_162 at hP hD
            exact W.vret hx hb hr (fun t ht hW => ⟨⟨(), rfl, trivial, 1, f_155, f_162, (gi_w (gi_c 1 1 (by decide)) (by decide)), by rw [ht]; exact hP, hD⟩, hS.F ht⟩) hS.2.2 dX12_holds_96
