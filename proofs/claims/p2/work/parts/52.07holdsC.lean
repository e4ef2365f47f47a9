set_option maxHeartbeats 4000000 in
set_option maxRecDepth 100000 in
theorem sX12_holdsC (l : Launch) (dC : Nat → ClassId) (dI : Nat → Nat → Nat) (sz : Nat) (h0 : Nat) (mi : Nat → Int32) (mr : Nat → Nat) (km_reportMonth : ClassId) (fm_reportMonth : Nat → Int32) (km_reportDay : ClassId) (fm_reportDay : Nat → Int32) (km_reportKind : ClassId) (fm_reportKind : Nat → Int32) (km_must : ClassId) (fm_must : Nat → Int32) (km_least : ClassId) (fm_least : Nat → Int32) (p1 : Int32) (gmi_0 : gi (mi 0) 0 24) (gmi_1 : gi (mi 1) 0 5) (gmi_2 : gi (mi 2) 0 5) (gmi_4 : gi (mi 4) 0 1) (gmi_7 : gi (mi 7) 0 6) (gmi_10 : gi (mi 10) 0 24) (gmi_17 : gi (mi 17) 0 8) (gmi_23 : gi (mi 23) 0 300) (gmi_24 : gi (mi 24) 0 1) (gmi_26 : gi (mi 26) 0 1600) (gmi_29 : gi (mi 29) 0 1600) (gmi_30 : gi (mi 30) 0 1600) (gmi_33 : gi (mi 33) 0 1) (gmi_37 : gi (mi 37) 0 1) (gmi_41 : gi (mi 41) 0 24) (gmi_50 : gi (mi 50) 0 1) (gmi_51 : gi (mi 51) 0 1) (gmi_56 : gi (mi 56) 0 80) (gfm_reportMonth : ga fm_reportMonth 24 0 23) (gfm_reportDay : ga fm_reportDay 24 0 999) (gp1 : gi p1 0 23) : Met l yX12_holds (.code yX12_holds cX12_holds 4 none :: wsGB) ({ frames := 1, cells := 0, slots := 0, locals := 15 }) (va_Pc [.ref h0, .int p1] (fun U => U.heap.size = sz ∧ va_P (dC, dI) vwCl [(h0, .inr (12, fsMM mi mr)), ((mr 5), .inl (km_reportMonth, 24, .inl fm_reportMonth)), ((mr 6), .inl (km_reportDay, 24, .inl fm_reportDay)), ((mr 3), .inl (km_reportKind, 24, .inl fm_reportKind)), ((mr 14), .inl (km_must, 25, .inl fm_must)), ((mr 15), .inl (km_least, 25, .inl fm_least))] U.heap ∧ va_K (dC, dI) vwCl [(km_reportMonth, .int), (km_reportDay, .int), (km_reportKind, .int), (km_must, .int), (km_least, .int)] U ∧ va_D (fun _ => True) [(h0, .inr (12, fsMM mi mr)), ((mr 5), .inl (km_reportMonth, 24, .inl fm_reportMonth)), ((mr 6), .inl (km_reportDay, 24, .inl fm_reportDay)), ((mr 3), .inl (km_reportKind, 24, .inl fm_reportKind)), ((mr 14), .inl (km_must, 25, .inl fm_must)), ((mr 15), .inl (km_least, 25, .inl fm_least))])) (va_Qv (fun (u : Unit) => True) (fun _ t => ∃ (w0_37 : Int32) (z4 : Nat → Int32) (z5 : Nat → Int32), gi w0_37 0 1 ∧ (∀ j : Nat, j ≠ (fm_reportMonth p1.toNatClampNeg).toNatClampNeg → z4 j = fm_must j) ∧ (∀ j : Nat, j ≠ (fm_reportMonth p1.toNatClampNeg).toNatClampNeg → z5 j = fm_least j) ∧ va_P (dC, dI) vwCl [(h0, .inr (12, fsMM (upd mi 37 w0_37) mr)), ((mr 5), .inl (km_reportMonth, 24, .inl fm_reportMonth)), ((mr 6), .inl (km_reportDay, 24, .inl fm_reportDay)), ((mr 3), .inl (km_reportKind, 24, .inl fm_reportKind)), ((mr 14), .inl (km_must, 25, .inl z4)), ((mr 15), .inl (km_least, 25, .inl z5))] t.heap ∧ va_D (va_A [(h0, .inr (12, fsMM mi mr)), ((mr 5), .inl (km_reportMonth, 24, .inl fm_reportMonth)), ((mr 6), .inl (km_reportDay, 24, .inl fm_reportDay)), ((mr 3), .inl (km_reportKind, 24, .inl fm_reportKind)), ((mr 14), .inl (km_must, 25, .inl fm_must)), ((mr 15), .inl (km_least, 25, .inl fm_least))] sz) [(h0, .inr (12, fsMM (upd mi 37 w0_37) mr)), ((mr 5), .inl (km_reportMonth, 24, .inl fm_reportMonth)), ((mr 6), .inl (km_reportDay, 24, .inl fm_reportDay)), ((mr 3), .inl (km_reportKind, 24, .inl fm_reportKind)), ((mr 14), .inl (km_must, 25, .inl z4)), ((mr 15), .inl (km_least, 25, .inl z5))]) (va_A [(h0, .inr (12, fsMM mi mr)), ((mr 5), .inl (km_reportMonth, 24, .inl fm_reportMonth)), ((mr 6), .inl (km_reportDay, 24, .inl fm_reportDay)), ((mr 3), .inl (km_reportKind, 24, .inl fm_reportKind)), ((mr 14), .inl (km_must, 25, .inl fm_must)), ((mr 15), .inl (km_least, 25, .inl fm_least))] sz)) 0 0 (va_A [(h0, .inr (12, fsMM mi mr)), ((mr 5), .inl (km_reportMonth, 24, .inl fm_reportMonth)), ((mr 6), .inl (km_reportDay, 24, .inl fm_reportDay)), ((mr 3), .inl (km_reportKind, 24, .inl fm_reportKind)), ((mr 14), .inl (km_must, 25, .inl fm_must)), ((mr 15), .inl (km_least, 25, .inl fm_least))] sz) := by
  refine Met.ofW (cc := cX12_holds) (maxL := 4) (ret := none) (by decide) rfl ?_
  intro p e s m args below meth c s₁ B hml hv
  obtain ⟨rfl, hsz, hP, hK, hD0⟩ := hv
  have hx := B.exec
  have hb := B.bytes
  have hr := B.returns
  have hts := atoms_spec (ws := (.code yX12_holds cX12_holds 4 none :: wsGB)) B.pre
  have hown : s.vm.findClass RX12 = some m.cls := findClass_of_methodNamed B.named
  have hlocks := B.notSynchronized
  subst hsz
  have hD := hD0.self (sz := s.heap.size)
  generalize hAe : va_A [(h0, .inr (12, fsMM mi mr)), ((mr 5), .inl (km_reportMonth, 24, .inl fm_reportMonth)), ((mr 6), .inl (km_reportDay, 24, .inl fm_reportDay)), ((mr 3), .inl (km_reportKind, 24, .inl fm_reportKind)), ((mr 14), .inl (km_must, 25, .inl fm_must)), ((mr 15), .inl (km_least, 25, .inl fm_least))] s.heap.size = A at hD ⊢
  have hA : ∀ q : Nat, s.heap.size ≤ q → A q := fun q h => by rw [← hAe]; exact Or.inr h
  have hS : va_S A s.heap s.heap [] := va_S.rf
  have hl := lv_entry ([.ref h0, .int p1]) (n := 4) (Nat.le_of_ble_eq_true rfl)
  rw [lg_entry_eq]
  generalize (lg_sl ([.ref h0, .int p1]) ++ List.replicate (4 - (lg_sl ([.ref h0, .int p1])).length) Slot.unset).toArray = ls at hl ⊢
  have hl : lv_has ls 4 [(0, .ref h0), (1, .int p1)] := hl
  refine lv_aload_n hx hb dX12_holds_0 rfl (lv_at hl 0 rfl) ?_
  refine va_get (D := (dC, dI)) (ci := 12) (v := .ref (mr 5)) (C := RX12) (T := TX12) (N := 57) hx hb hts (fun w h => List.mem_cons_of_mem _ (jnGB_X12 w h)) hown hK hP 0 rfl rfl 14 (by decide) (hts _ (List.mem_cons_of_mem _ mGB_16)) (fun _ h9 => h9) rfl dX12_holds_1 ?_
  refine lv_iload_n hx hb dX12_holds_4 rfl (lv_at hl 1 rfl) ?_
  refine va_iald hx hb hK hP 1 0 rfl rfl (gi_in gp1 (by decide)) dX12_holds_5 ?_
  refine lv_topi (fun x_145 ex_145 => ?_)
  have gx_145 : gi x_145 0 23 := ga_at gfm_reportMonth (gi_in gp1 (by decide)) ex_145
  have hlx_145 : x_145.toInt = (fm_reportMonth p1.toNatClampNeg).toInt := congrArg Int32.toInt ex_145
  refine lv_istore_n (lv' := [(2, .int x_145), (0, .ref h0), (1, .int p1)]) hx hb dX12_holds_6 rfl hl (by decide) rfl (fun ls hl => ?_)
  refine lv_aload_n hx hb dX12_holds_7 rfl (lv_at hl 1 rfl) ?_
  refine va_get (D := (dC, dI)) (ci := 12) (v := .ref (mr 6)) (C := RX12) (T := TX12) (N := 57) hx hb hts (fun w h => List.mem_cons_of_mem _ (jnGB_X12 w h)) hown hK hP 0 rfl rfl 15 (by decide) (hts _ (List.mem_cons_of_mem _ mGB_17)) (fun _ h9 => h9) rfl dX12_holds_8 ?_
  refine lv_iload_n hx hb dX12_holds_11 rfl (lv_at hl 2 rfl) ?_
  refine va_iald hx hb hK hP 2 1 rfl rfl (gi_in gp1 (by decide)) dX12_holds_12 ?_
  refine lv_topi (fun x_146 ex_146 => ?_)
  have gx_146 : gi x_146 0 999 := ga_at gfm_reportDay (gi_in gp1 (by decide)) ex_146
  have hlx_146 : x_146.toInt = (fm_reportDay p1.toNatClampNeg).toInt := congrArg Int32.toInt ex_146
  refine lv_iconst (v := 1) hx hb dX12_holds_13 (by decide) ?_
  refine lv_iadd hx hb dX12_holds_14 ?_
  refine lv_topi (fun x_147 ex_147 => ?_)
  have gx_147 : gi x_147 1 1000 := gi_add ex_147 gx_146 (gi_c 1 1 (by decide)) (by decide)
  refine lv_istore_n (lv' := [(3, .int x_147), (2, .int x_145), (0, .ref h0), (1, .int p1)]) hx hb dX12_holds_15 rfl hl (by decide) rfl (fun ls hl => ?_)
  refine lv_aload_n hx hb dX12_holds_16 rfl (lv_at hl 2 rfl) ?_
  refine va_get (D := (dC, dI)) (ci := 12) (v := .ref (mr 3)) (C := RX12) (T := TX12) (N := 57) hx hb hts (fun w h => List.mem_cons_of_mem _ (jnGB_X12 w h)) hown hK hP 0 rfl rfl 12 (by decide) (hts _ (List.mem_cons_of_mem _ mGB_13)) (fun _ h9 => h9) rfl dX12_holds_17 ?_
  refine lv_iload_n hx hb dX12_holds_20 rfl (lv_at hl 3 rfl) ?_
  refine va_iald hx hb hK hP 3 2 rfl rfl (gi_in gp1 (by decide)) dX12_holds_21 ?_
  refine lv_topi (fun x_148 ex_148 => ?_)
  have hlx_148 : x_148.toInt = (fm_reportKind p1.toNatClampNeg).toInt := congrArg Int32.toInt ex_148
  refine lv_if_ne (tgt := 68) hx hb dX12_holds_22 (by decide) (fun c_149 => ?_) (fun c_149 => ?_)
  · have hc_150 : x_148.toInt ≠ 0 := fun h9 => c_149 (Int32.toInt_inj.mp (by rw [show (0 : Int32).toInt = 0 from by decide]; exact h9))
    refine lv_aload_n hx hb dX12_holds_68 rfl (lv_at hl 2 rfl) ?_
    refine va_get (D := (dC, dI)) (ci := 12) (v := .ref (mr 3)) (C := RX12) (T := TX12) (N := 57) hx hb hts (fun w h => List.mem_cons_of_mem _ (jnGB_X12 w h)) hown hK hP 0 rfl rfl 12 (by decide) (hts _ (List.mem_cons_of_mem _ mGB_13)) (fun _ h9 => h9) rfl dX12_holds_69 ?_
    refine lv_iload_n hx hb dX12_holds_72 rfl (lv_at hl 3 rfl) ?_
    refine va_iald hx hb hK hP 3 2 rfl rfl (gi_in gp1 (by decide)) dX12_holds_73 ?_
    refine lv_topi (fun x_151 ex_151 => ?_)
    have hlx_151 : x_151.toInt = (fm_reportKind p1.toNatClampNeg).toInt := congrArg Int32.toInt ex_151
    refine lv_iconst (v := 1) hx hb dX12_holds_74 (by decide) ?_
    refine lv_icmp_ne (tgt := 96) hx hb dX12_holds_75 (by decide) (fun c_152 => ?_) (fun c_152 => ?_)
    · have hc_153 : x_151.toInt ≠ 1 := fun h9 => c_152 (Int32.toInt_inj.mp (by rw [show (1 : Int32).toInt = 1 from by decide]; exact h9))
      exact W.vret hx hb hr (fun t ht hW => ⟨⟨(), rfl, trivial, (mi 37), fm_must, fm_least, gmi_37, (show ∀ j : Nat, j ≠ (fm_reportMonth p1.toNatClampNeg).toNatClampNeg → fm_must j = fm_must j from by exact fun j hj => rfl), (show ∀ j : Nat, j ≠ (fm_reportMonth p1.toNatClampNeg).toNatClampNeg → fm_least j = fm_least j from by exact fun j hj => rfl), by rw [ht]; exact hP, hD⟩, hS.F ht⟩) hS.2.2 dX12_holds_96
    · have hc_154 : x_151.toInt = 1 := by have h9 := congrArg Int32.toInt c_152; rw [show (1 : Int32).toInt = 1 from by decide] at h9; exact h9
      have g_155 : gi x_151 1 1 := gi_eq c_152 (gi_c 1 1 (by decide))
      refine lv_aload_n hx hb dX12_holds_78 rfl (lv_at hl 2 rfl) ?_
      refine va_get (D := (dC, dI)) (ci := 12) (v := .ref (mr 15)) (C := RX12) (T := TX12) (N := 57) hx hb hts (fun w h => List.mem_cons_of_mem _ (jnGB_X12 w h)) hown hK hP 0 rfl rfl 35 (by decide) (hts _ (List.mem_cons_of_mem _ mGB_27)) (fun _ h9 => h9) rfl dX12_holds_79 ?_
      refine lv_iload_n hx hb dX12_holds_82 rfl (lv_at hl 1 rfl) ?_
      refine lv_aload_n hx hb dX12_holds_83 rfl (lv_at hl 2 rfl) ?_
      refine va_get (D := (dC, dI)) (ci := 12) (v := .ref (mr 15)) (C := RX12) (T := TX12) (N := 57) hx hb hts (fun w h => List.mem_cons_of_mem _ (jnGB_X12 w h)) hown hK hP 0 rfl rfl 35 (by decide) (hts _ (List.mem_cons_of_mem _ mGB_27)) (fun _ h9 => h9) rfl dX12_holds_84 ?_
      refine lv_iload_n hx hb dX12_holds_87 rfl (lv_at hl 1 rfl) ?_
      refine va_iald hx hb hK hP 5 4 rfl rfl (gi_in gx_145 (by decide)) dX12_holds_88 ?_
      refine lv_topi (fun x_156 ex_156 => ?_)
      have hlx_156 : x_156.toInt = (fm_least x_145.toNatClampNeg).toInt := congrArg Int32.toInt ex_156
      refine lv_iload_n hx hb dX12_holds_89 rfl (lv_at hl 0 rfl) ?_
      refine lv_iconst (v := 1) hx hb dX12_holds_90 (by decide) ?_
      refine lv_iadd hx hb dX12_holds_91 ?_
      refine lv_topi (fun x_157 ex_157 => ?_)
      have gx_157 : gi x_157 2 1001 := gi_add ex_157 gx_147 (gi_c 1 1 (by decide)) (by decide)
      refine va_mmax (own := RX12) hx hb (by rw [hml]; exact hl.1.symm) hown (hts _ (List.mem_cons_of_mem _ mGB_202)) (hts _ (List.mem_cons_of_mem _ mGB_203)) (hts _ (List.mem_cons_of_mem _ mGB_98)) (hts _ (List.mem_cons_of_mem _ mGB_204)) (Nat.le_of_ble_eq_true rfl) (Nat.le_of_ble_eq_true rfl) (Nat.zero_le _) (Nat.zero_le _) dX12_holds_92 ?_
      refine lv_topi (fun x_158 ex_158 => ?_)
      have gx_158 : gi x_158 2 2147483647 := gi_max ex_158 (gi_any x_156) gx_157 (by decide)
      refine va_iast hx hb hK hP hD hS 5 4 rfl rfl (gi_in gx_145 (by decide)) dX12_holds_95 (fun H locs hP hD hS => ?_)
      have hP : va_P (dC, dI) vwCl [(h0, .inr (12, fsMM mi mr)), ((mr 5), .inl (km_reportMonth, 24, .inl fm_reportMonth)), ((mr 6), .inl (km_reportDay, 24, .inl fm_reportDay)), ((mr 3), .inl (km_reportKind, 24, .inl fm_reportKind)), ((mr 14), .inl (km_must, 25, .inl fm_must)), ((mr 15), .inl (km_least, 25, .inl (upd fm_least (x_145 : Int32).toNatClampNeg x_158)))] H := hP
      have hD : va_D A [(h0, .inr (12, fsMM mi mr)), ((mr 5), .inl (km_reportMonth, 24, .inl fm_reportMonth)), ((mr 6), .inl (km_reportDay, 24, .inl fm_reportDay)), ((mr 3), .inl (km_reportKind, 24, .inl fm_reportKind)), ((mr 14), .inl (km_must, 25, .inl fm_must)), ((mr 15), .inl (km_least, 25, .inl (upd fm_least (x_145 : Int32).toNatClampNeg x_158)))] := hD
      generalize ef_159 : upd fm_least (x_145 : Int32).toNatClampNeg x_158 = f_159 at hP hD
      exact W.vret hx hb hr (fun t ht hW => ⟨⟨(), rfl, trivial, (mi 37), fm_must, f_159, gmi_37, (show ∀ j : Nat, j ≠ (fm_reportMonth p1.toNatClampNeg).toNatClampNeg → fm_must j = fm_must j from by exact fun j hj => rfl), (show ∀ j : Nat, j ≠ (fm_reportMonth p1.toNatClampNeg).toNatClampNeg → f_159 j = fm_least j from by exact fun j hj => by rw [← ef_159]; unfold upd; rw [if_neg (fun h9 => hj (h9.trans (congrArg Int32.toNatClampNeg ex_145)))]), by rw [ht]; exact hP, hD⟩, hS.F ht⟩) hS.2.2 dX12_holds_96
  · have hc_160 : x_148.toInt = 0 := by have h9 := congrArg Int32.toInt c_149; rw [show (0 : Int32).toInt = 0 from by decide] at h9; exact h9
    have g_161 : gi x_148 0 0 := gi_eq c_149 (gi_c 0 0 (by decide))
    refine lv_aload_n hx hb dX12_holds_25 rfl (lv_at hl 2 rfl) ?_
    refine lv_aload_n hx hb dX12_holds_26 rfl (lv_at hl 2 rfl) ?_
    refine va_get (D := (dC, dI)) (ci := 12) (v := .int (mi 37)) (C := RX12) (T := TX12) (N := 57) hx hb hts (fun w h => List.mem_cons_of_mem _ (jnGB_X12 w h)) hown hK hP 0 rfl rfl 37 (by decide) (hts _ (List.mem_cons_of_mem _ mGB_270)) (fun _ h9 => h9) rfl dX12_holds_27 ?_
    refine lv_if_ne (tgt := 53) hx hb dX12_holds_30 (by decide) (fun c_162 => ?_) (fun c_162 => ?_)
    · have hc_163 : (mi 37).toInt ≠ 0 := fun h9 => c_162 (Int32.toInt_inj.mp (by rw [show (0 : Int32).toInt = 0 from by decide]; exact h9))
      have g_164 : gi (mi 37) 1 1 := gi_ne_lo c_162 gmi_37 (gi_c 0 0 (by decide)) (by decide)
      refine lv_iconst (v := 1) hx hb dX12_holds_53 (by decide) ?_
      refine lv_goto (tgt := 58) hx hb dX12_holds_54 (by decide) ?_
      refine va_put (D := (dC, dI)) (ci := 12) (v := .int 1) (ty := .boolean) (C := RX12) (T := TX12) (N := 57) hx hb hts (fun w h => List.mem_cons_of_mem _ (jnGB_X12 w h)) tyX12 tyX12_ok nmX12 hown hK hP hD hS 0 rfl rfl 37 (by decide) (hts _ (List.mem_cons_of_mem _ mGB_270)) (fun _ h9 => h9) rfl (by decide +kernel) rfl rfl (Nat.le_of_ble_eq_true rfl) dX12_holds_58 (fun H locs hP hD hS => ?_)
      have hP : va_P (dC, dI) vwCl [(h0, .inr (12, fsMM (upd mi 37 1) mr)), ((mr 5), .inl (km_reportMonth, 24, .inl fm_reportMonth)), ((mr 6), .inl (km_reportDay, 24, .inl fm_reportDay)), ((mr 3), .inl (km_reportKind, 24, .inl fm_reportKind)), ((mr 14), .inl (km_must, 25, .inl fm_must)), ((mr 15), .inl (km_least, 25, .inl fm_least))] H := hP
      have hD : va_D A [(h0, .inr (12, fsMM (upd mi 37 1) mr)), ((mr 5), .inl (km_reportMonth, 24, .inl fm_reportMonth)), ((mr 6), .inl (km_reportDay, 24, .inl fm_reportDay)), ((mr 3), .inl (km_reportKind, 24, .inl fm_reportKind)), ((mr 14), .inl (km_must, 25, .inl fm_must)), ((mr 15), .inl (km_least, 25, .inl fm_least))] := hD
      refine lv_aload_n hx hb dX12_holds_61 rfl (lv_at hl 2 rfl) ?_
      refine va_get (D := (dC, dI)) (ci := 12) (v := .ref (mr 14)) (C := RX12) (T := TX12) (N := 57) hx hb hts (fun w h => List.mem_cons_of_mem _ (jnGB_X12 w h)) hown hK hP 0 rfl rfl 34 (by decide) (hts _ (List.mem_cons_of_mem _ mGB_26)) (fun _ h9 => h9) rfl dX12_holds_62 ?_
      refine lv_iload_n hx hb dX12_holds_65 rfl (lv_at hl 1 rfl) ?_
      refine lv_iload_n hx hb dX12_holds_66 rfl (lv_at hl 0 rfl) ?_
      refine va_iast hx hb hK hP hD hS 4 3 rfl rfl (gi_in gx_145 (by decide)) dX12_holds_67 (fun H locs hP hD hS => ?_)
      have hP : va_P (dC, dI) vwCl [(h0, .inr (12, fsMM (upd mi 37 1) mr)), ((mr 5), .inl (km_reportMonth, 24, .inl fm_reportMonth)), ((mr 6), .inl (km_reportDay, 24, .inl fm_reportDay)), ((mr 3), .inl (km_reportKind, 24, .inl fm_reportKind)), ((mr 14), .inl (km_must, 25, .inl (upd fm_must (x_145 : Int32).toNatClampNeg x_147))), ((mr 15), .inl (km_least, 25, .inl fm_least))] H := hP
      have hD : va_D A [(h0, .inr (12, fsMM (upd mi 37 1) mr)), ((mr 5), .inl (km_reportMonth, 24, .inl fm_reportMonth)), ((mr 6), .inl (km_reportDay, 24, .inl fm_reportDay)), ((mr 3), .inl (km_reportKind, 24, .inl fm_reportKind)), ((mr 14), .inl (km_must, 25, .inl (upd fm_must (x_145 : Int32).toNatClampNeg x_147))), ((mr 15), .inl (km_least, 25, .inl fm_least))] := hD
      generalize ef_165 : upd fm_must (x_145 : Int32).toNatClampNeg x_147 = f_165 at hP hD
      refine lv_aload_n hx hb dX12_holds_68 rfl (lv_at hl 2 rfl) ?_
      refine va_get (D := (dC, dI)) (ci := 12) (v := .ref (mr 3)) (C := RX12) (T := TX12) (N := 57) hx hb hts (fun w h => List.mem_cons_of_mem _ (jnGB_X12 w h)) hown hK hP 0 rfl rfl 12 (by decide) (hts _ (List.mem_cons_of_mem _ mGB_13)) (fun _ h9 => h9) rfl dX12_holds_69 ?_
      refine lv_iload_n hx hb dX12_holds_72 rfl (lv_at hl 3 rfl) ?_
      refine va_iald hx hb hK hP 3 2 rfl rfl (gi_in gp1 (by decide)) dX12_holds_73 ?_
      refine lv_topi (fun x_166 ex_166 => ?_)
      have hlx_166 : x_166.toInt = (fm_reportKind p1.toNatClampNeg).toInt := congrArg Int32.toInt ex_166
      refine lv_iconst (v := 1) hx hb dX12_holds_74 (by decide) ?_
      refine lv_icmp_ne (tgt := 96) hx hb dX12_holds_75 (by decide) (fun c_167 => ?_) (fun c_167 => ?_)
      · have hc_168 : x_166.toInt ≠ 1 := fun h9 => c_167 (Int32.toInt_inj.mp (by rw [show (1 : Int32).toInt = 1 from by decide]; exact h9))
        exact W.vret hx hb hr (fun t ht hW => ⟨⟨(), rfl, trivial, 1, f_165, fm_least, (gi_w (gi_c 1 1 (by decide)) (by decide)), (show ∀ j : Nat, j ≠ (fm_reportMonth p1.toNatClampNeg).toNatClampNeg → f_165 j = fm_must j from by exact fun j hj => by rw [← ef_165]; unfold upd; rw [if_neg (fun h9 => hj (h9.trans (congrArg Int32.toNatClampNeg ex_145)))]), (show ∀ j : Nat, j ≠ (fm_reportMonth p1.toNatClampNeg).toNatClampNeg → fm_least j = fm_least j from by exact fun j hj => rfl), by rw [ht]; exact hP, hD⟩, hS.F ht⟩) hS.2.2 dX12_holds_96
      · have hc_169 : x_166.toInt = 1 := by have h9 := congrArg Int32.toInt c_167; rw [show (1 : Int32).toInt = 1 from by decide] at h9; exact h9
        have g_170 : gi x_166 1 1 := gi_eq c_167 (gi_c 1 1 (by decide))
        refine lv_aload_n hx hb dX12_holds_78 rfl (lv_at hl 2 rfl) ?_
        refine va_get (D := (dC, dI)) (ci := 12) (v := .ref (mr 15)) (C := RX12) (T := TX12) (N := 57) hx hb hts (fun w h => List.mem_cons_of_mem _ (jnGB_X12 w h)) hown hK hP 0 rfl rfl 35 (by decide) (hts _ (List.mem_cons_of_mem _ mGB_27)) (fun _ h9 => h9) rfl dX12_holds_79 ?_
        refine lv_iload_n hx hb dX12_holds_82 rfl (lv_at hl 1 rfl) ?_
        refine lv_aload_n hx hb dX12_holds_83 rfl (lv_at hl 2 rfl) ?_
        refine va_get (D := (dC, dI)) (ci := 12) (v := .ref (mr 15)) (C := RX12) (T := TX12) (N := 57) hx hb hts (fun w h => List.mem_cons_of_mem _ (jnGB_X12 w h)) hown hK hP 0 rfl rfl 35 (by decide) (hts _ (List.mem_cons_of_mem _ mGB_27)) (fun _ h9 => h9) rfl dX12_holds_84 ?_
        refine lv_iload_n hx hb dX12_holds_87 rfl (lv_at hl 1 rfl) ?_
        refine va_iald hx hb hK hP 5 4 rfl rfl (gi_in gx_145 (by decide)) dX12_holds_88 ?_
        refine lv_topi (fun x_171 ex_171 => ?_)
        have hlx_171 : x_171.toInt = (fm_least x_145.toNatClampNeg).toInt := congrArg Int32.toInt ex_171
        refine lv_iload_n hx hb dX12_holds_89 rfl (lv_at hl 0 rfl) ?_
        refine lv_iconst (v := 1) hx hb dX12_holds_90 (by decide) ?_
        refine lv_iadd hx hb dX12_holds_91 ?_
        refine lv_topi (fun x_172 ex_172 => ?_)
        have gx_172 : gi x_172 2 1001 := gi_add ex_172 gx_147 (gi_c 1 1 (by decide)) (by decide)
        refine va_mmax (own := RX12) hx hb (by rw [hml]; exact hl.1.symm) hown (hts _ (List.mem_cons_of_mem _ mGB_202)) (hts _ (List.mem_cons_of_mem _ mGB_203)) (hts _ (List.mem_cons_of_mem _ mGB_98)) (hts _ (List.mem_cons_of_mem _ mGB_204)) (Nat.le_of_ble_eq_true rfl) (Nat.le_of_ble_eq_true rfl) (Nat.zero_le _) (Nat.zero_le _) dX12_holds_92 ?_
        refine lv_topi (fun x_173 ex_173 => ?_)
        have gx_173 : gi x_173 2 2147483647 := gi_max ex_173 (gi_any x_171) gx_172 (by decide)
        refine va_iast hx hb hK hP hD hS 5 4 rfl rfl (gi_in gx_145 (by decide)) dX12_holds_95 (fun H locs hP hD hS => ?_)
        have hP : va_P (dC, dI) vwCl [(h0, .inr (12, fsMM (upd mi 37 1) mr)), ((mr 5), .inl (km_reportMonth, 24, .inl fm_reportMonth)), ((mr 6), .inl (km_reportDay, 24, .inl fm_reportDay)), ((mr 3), .inl (km_reportKind, 24, .inl fm_reportKind)), ((mr 14), .inl (km_must, 25, .inl f_165)), ((mr 15), .inl (km_least, 25, .inl (upd fm_least (x_145 : Int32).toNatClampNeg x_173)))] H := hP
        have hD : va_D A [(h0, .inr (12, fsMM (upd mi 37 1) mr)), ((mr 5), .inl (km_reportMonth, 24, .inl fm_reportMonth)), ((mr 6), .inl (km_reportDay, 24, .inl fm_reportDay)), ((mr 3), .inl (km_reportKind, 24, .inl fm_reportKind)), ((mr 14), .inl (km_must, 25, .inl f_165)), ((mr 15), .inl (km_least, 25, .inl (upd fm_least (x_145 : Int32).toNatClampNeg x_173)))] := hD
        generalize ef_174 : upd fm_least (x_145 : Int32).toNatClampNeg x_173 = f_174 at hP hD
        exact W.vret hx hb hr (fun t ht hW => ⟨⟨(), rfl, trivial, 1, f_165, f_174, (gi_w (gi_c 1 1 (by decide)) (by decide)), (show ∀ j : Nat, j ≠ (fm_reportMonth p1.toNatClampNeg).toNatClampNeg → f_165 j = fm_must j from by exact fun j hj => by rw [← ef_165]; unfold upd; rw [if_neg (fun h9 => hj (h9.trans (congrArg Int32.toNatClampNeg ex_145)))]), (show ∀ j : Nat, j ≠ (fm_reportMonth p1.toNatClampNeg).toNatClampNeg → f_174 j = fm_least j from by exact fun j hj => by rw [← ef_174]; unfold upd; rw [if_neg (fun h9 => hj (h9.trans (congrArg Int32.toNatClampNeg ex_145)))]), by rw [ht]; exact hP, hD⟩, hS.F ht⟩) hS.2.2 dX12_holds_96
    · have hc_175 : (mi 37).toInt = 0 := by have h9 := congrArg Int32.toInt c_162; rw [show (0 : Int32).toInt = 0 from by decide] at h9; exact h9
      have g_176 : gi (mi 37) 0 0 := gi_eq c_162 (gi_c 0 0 (by decide))
      refine lv_aload_n hx hb dX12_holds_33 rfl (lv_at hl 2 rfl) ?_
      refine va_get (D := (dC, dI)) (ci := 12) (v := .ref (mr 14)) (C := RX12) (T := TX12) (N := 57) hx hb hts (fun w h => List.mem_cons_of_mem _ (jnGB_X12 w h)) hown hK hP 0 rfl rfl 34 (by decide) (hts _ (List.mem_cons_of_mem _ mGB_26)) (fun _ h9 => h9) rfl dX12_holds_34 ?_
      refine lv_iload_n hx hb dX12_holds_37 rfl (lv_at hl 1 rfl) ?_
      refine va_iald hx hb hK hP 4 3 rfl rfl (gi_in gx_145 (by decide)) dX12_holds_38 ?_
      refine lv_topi (fun x_177 ex_177 => ?_)
      have hlx_177 : x_177.toInt = (fm_must x_145.toNatClampNeg).toInt := congrArg Int32.toInt ex_177
      refine lv_iconst (v := (-1)) hx hb dX12_holds_39 (by decide) ?_
      refine lv_icmp_eq (tgt := 57) hx hb dX12_holds_40 (by decide) (fun c_178 => ?_) (fun c_178 => ?_)
      · have hc_179 : x_177.toInt = (-1) := by have h9 := congrArg Int32.toInt c_178; rw [show ((-1) : Int32).toInt = (-1) from by decide] at h9; exact h9
        have g_180 : gi x_177 (-1) (-1) := gi_eq c_178 (gi_c (-1) (-1) (by decide))
        refine lv_iconst (v := 0) hx hb dX12_holds_57 (by decide) ?_
        refine va_put (D := (dC, dI)) (ci := 12) (v := .int 0) (ty := .boolean) (C := RX12) (T := TX12) (N := 57) hx hb hts (fun w h => List.mem_cons_of_mem _ (jnGB_X12 w h)) tyX12 tyX12_ok nmX12 hown hK hP hD hS 0 rfl rfl 37 (by decide) (hts _ (List.mem_cons_of_mem _ mGB_270)) (fun _ h9 => h9) rfl (by decide +kernel) rfl rfl (Nat.le_of_ble_eq_true rfl) dX12_holds_58 (fun H locs hP hD hS => ?_)
        have hP : va_P (dC, dI) vwCl [(h0, .inr (12, fsMM (upd mi 37 0) mr)), ((mr 5), .inl (km_reportMonth, 24, .inl fm_reportMonth)), ((mr 6), .inl (km_reportDay, 24, .inl fm_reportDay)), ((mr 3), .inl (km_reportKind, 24, .inl fm_reportKind)), ((mr 14), .inl (km_must, 25, .inl fm_must)), ((mr 15), .inl (km_least, 25, .inl fm_least))] H := hP
        have hD : va_D A [(h0, .inr (12, fsMM (upd mi 37 0) mr)), ((mr 5), .inl (km_reportMonth, 24, .inl fm_reportMonth)), ((mr 6), .inl (km_reportDay, 24, .inl fm_reportDay)), ((mr 3), .inl (km_reportKind, 24, .inl fm_reportKind)), ((mr 14), .inl (km_must, 25, .inl fm_must)), ((mr 15), .inl (km_least, 25, .inl fm_least))] := hD
        refine lv_aload_n hx hb dX12_holds_61 rfl (lv_at hl 2 rfl) ?_
        refine va_get (D := (dC, dI)) (ci := 12) (v := .ref (mr 14)) (C := RX12) (T := TX12) (N := 57) hx hb hts (fun w h => List.mem_cons_of_mem _ (jnGB_X12 w h)) hown hK hP 0 rfl rfl 34 (by decide) (hts _ (List.mem_cons_of_mem _ mGB_26)) (fun _ h9 => h9) rfl dX12_holds_62 ?_
        refine lv_iload_n hx hb dX12_holds_65 rfl (lv_at hl 1 rfl) ?_
        refine lv_iload_n hx hb dX12_holds_66 rfl (lv_at hl 0 rfl) ?_
        refine va_iast hx hb hK hP hD hS 4 3 rfl rfl (gi_in gx_145 (by decide)) dX12_holds_67 (fun H locs hP hD hS => ?_)
        have hP : va_P (dC, dI) vwCl [(h0, .inr (12, fsMM (upd mi 37 0) mr)), ((mr 5), .inl (km_reportMonth, 24, .inl fm_reportMonth)), ((mr 6), .inl (km_reportDay, 24, .inl fm_reportDay)), ((mr 3), .inl (km_reportKind, 24, .inl fm_reportKind)), ((mr 14), .inl (km_must, 25, .inl (upd fm_must (x_145 : Int32).toNatClampNeg x_147))), ((mr 15), .inl (km_least, 25, .inl fm_least))] H := hP
        have hD : va_D A [(h0, .inr (12, fsMM (upd mi 37 0) mr)), ((mr 5), .inl (km_reportMonth, 24, .inl fm_reportMonth)), ((mr 6), .inl (km_reportDay, 24, .inl fm_reportDay)), ((mr 3), .inl (km_reportKind, 24, .inl fm_reportKind)), ((mr 14), .inl (km_must, 25, .inl (upd fm_must (x_145 : Int32).toNatClampNeg x_147))), ((mr 15), .inl (km_least, 25, .inl fm_least))] := hD
        generalize ef_181 : upd fm_must (x_145 : Int32).toNatClampNeg x_147 = f_181 at hP hD
        refine lv_aload_n hx hb dX12_holds_68 rfl (lv_at hl 2 rfl) ?_
        refine va_get (D := (dC, dI)) (ci := 12) (v := .ref (mr 3)) (C := RX12) (T := TX12) (N := 57) hx hb hts (fun w h => List.mem_cons_of_mem _ (jnGB_X12 w h)) hown hK hP 0 rfl rfl 12 (by decide) (hts _ (List.mem_cons_of_mem _ mGB_13)) (fun _ h9 => h9) rfl dX12_holds_69 ?_
        refine lv_iload_n hx hb dX12_holds_72 rfl (lv_at hl 3 rfl) ?_
        refine va_iald hx hb hK hP 3 2 rfl rfl (gi_in gp1 (by decide)) dX12_holds_73 ?_
        refine lv_topi (fun x_182 ex_182 => ?_)
        have hlx_182 : x_182.toInt = (fm_reportKind p1.toNatClampNeg).toInt := congrArg Int32.toInt ex_182
        refine lv_iconst (v := 1) hx hb dX12_holds_74 (by decide) ?_
        refine lv_icmp_ne (tgt := 96) hx hb dX12_holds_75 (by decide) (fun c_183 => ?_) (fun c_183 => ?_)
        · have hc_184 : x_182.toInt ≠ 1 := fun h9 => c_183 (Int32.toInt_inj.mp (by rw [show (1 : Int32).toInt = 1 from by decide]; exact h9))
          exact W.vret hx hb hr (fun t ht hW => ⟨⟨(), rfl, trivial, 0, f_181, fm_least, (gi_w (gi_c 0 0 (by decide)) (by decide)), (show ∀ j : Nat, j ≠ (fm_reportMonth p1.toNatClampNeg).toNatClampNeg → f_181 j = fm_must j from by exact fun j hj => by rw [← ef_181]; unfold upd; rw [if_neg (fun h9 => hj (h9.trans (congrArg Int32.toNatClampNeg ex_145)))]), (show ∀ j : Nat, j ≠ (fm_reportMonth p1.toNatClampNeg).toNatClampNeg → fm_least j = fm_least j from by exact fun j hj => rfl), by rw [ht]; exact hP, hD⟩, hS.F ht⟩) hS.2.2 dX12_holds_96
        · have hc_185 : x_182.toInt = 1 := by have h9 := congrArg Int32.toInt c_183; rw [show (1 : Int32).toInt = 1 from by decide] at h9; exact h9
          have g_186 : gi x_182 1 1 := gi_eq c_183 (gi_c 1 1 (by decide))
          refine lv_aload_n hx hb dX12_holds_78 rfl (lv_at hl 2 rfl) ?_
          refine va_get (D := (dC, dI)) (ci := 12) (v := .ref (mr 15)) (C := RX12) (T := TX12) (N := 57) hx hb hts (fun w h => List.mem_cons_of_mem _ (jnGB_X12 w h)) hown hK hP 0 rfl rfl 35 (by decide) (hts _ (List.mem_cons_of_mem _ mGB_27)) (fun _ h9 => h9) rfl dX12_holds_79 ?_
          refine lv_iload_n hx hb dX12_holds_82 rfl (lv_at hl 1 rfl) ?_
          refine lv_aload_n hx hb dX12_holds_83 rfl (lv_at hl 2 rfl) ?_
          refine va_get (D := (dC, dI)) (ci := 12) (v := .ref (mr 15)) (C := RX12) (T := TX12) (N := 57) hx hb hts (fun w h => List.mem_cons_of_mem _ (jnGB_X12 w h)) hown hK hP 0 rfl rfl 35 (by decide) (hts _ (List.mem_cons_of_mem _ mGB_27)) (fun _ h9 => h9) rfl dX12_holds_84 ?_
          refine lv_iload_n hx hb dX12_holds_87 rfl (lv_at hl 1 rfl) ?_
          refine va_iald hx hb hK hP 5 4 rfl rfl (gi_in gx_145 (by decide)) dX12_holds_88 ?_
          refine lv_topi (fun x_187 ex_187 => ?_)
          have hlx_187 : x_187.toInt = (fm_least x_145.toNatClampNeg).toInt := congrArg Int32.toInt ex_187
          refine lv_iload_n hx hb dX12_holds_89 rfl (lv_at hl 0 rfl) ?_
          refine lv_iconst (v := 1) hx hb dX12_holds_90 (by decide) ?_
          refine lv_iadd hx hb dX12_holds_91 ?_
          refine lv_topi (fun x_188 ex_188 => ?_)
          have gx_188 : gi x_188 2 1001 := gi_add ex_188 gx_147 (gi_c 1 1 (by decide)) (by decide)
          refine va_mmax (own := RX12) hx hb (by rw [hml]; exact hl.1.symm) hown (hts _ (List.mem_cons_of_mem _ mGB_202)) (hts _ (List.mem_cons_of_mem _ mGB_203)) (hts _ (List.mem_cons_of_mem _ mGB_98)) (hts _ (List.mem_cons_of_mem _ mGB_204)) (Nat.le_of_ble_eq_true rfl) (Nat.le_of_ble_eq_true rfl) (Nat.zero_le _) (Nat.zero_le _) dX12_holds_92 ?_
          refine lv_topi (fun x_189 ex_189 => ?_)
          have gx_189 : gi x_189 2 2147483647 := gi_max ex_189 (gi_any x_187) gx_188 (by decide)
          refine va_iast hx hb hK hP hD hS 5 4 rfl rfl (gi_in gx_145 (by decide)) dX12_holds_95 (fun H locs hP hD hS => ?_)
          have hP : va_P (dC, dI) vwCl [(h0, .inr (12, fsMM (upd mi 37 0) mr)), ((mr 5), .inl (km_reportMonth, 24, .inl fm_reportMonth)), ((mr 6), .inl (km_reportDay, 24, .inl fm_reportDay)), ((mr 3), .inl (km_reportKind, 24, .inl fm_reportKind)), ((mr 14), .inl (km_must, 25, .inl f_181)), ((mr 15), .inl (km_least, 25, .inl (upd fm_least (x_145 : Int32).toNatClampNeg x_189)))] H := hP
          have hD : va_D A [(h0, .inr (12, fsMM (upd mi 37 0) mr)), ((mr 5), .inl (km_reportMonth, 24, .inl fm_reportMonth)), ((mr 6), .inl (km_reportDay, 24, .inl fm_reportDay)), ((mr 3), .inl (km_reportKind, 24, .inl fm_reportKind)), ((mr 14), .inl (km_must, 25, .inl f_181)), ((mr 15), .inl (km_least, 25, .inl (upd fm_least (x_145 : Int32).toNatClampNeg x_189)))] := hD
          generalize ef_190 : upd fm_least (x_145 : Int32).toNatClampNeg x_189 = f_190 at hP hD
          exact W.vret hx hb hr (fun t ht hW => ⟨⟨(), rfl, trivial, 0, f_181, f_190, (gi_w (gi_c 0 0 (by decide)) (by decide)), (show ∀ j : Nat, j ≠ (fm_reportMonth p1.toNatClampNeg).toNatClampNeg → f_181 j = fm_must j from by exact fun j hj => by rw [← ef_181]; unfold upd; rw [if_neg (fun h9 => hj (h9.trans (congrArg Int32.toNatClampNeg ex_145)))]), (show ∀ j : Nat, j ≠ (fm_reportMonth p1.toNatClampNeg).toNatClampNeg → f_190 j = fm_least j from by exact fun j hj => by rw [← ef_190]; unfold upd; rw [if_neg (fun h9 => hj (h9.trans (congrArg Int32.toNatClampNeg ex_145)))]), by rw [ht]; exact hP, hD⟩, hS.F ht⟩) hS.2.2 dX12_holds_96
      · have hc_191 : x_177.toInt ≠ (-1) := fun h9 => c_178 (Int32.toInt_inj.mp (by rw [show ((-1) : Int32).toInt = (-1) from by decide]; exact h9))
        refine lv_aload_n hx hb dX12_holds_43 rfl (lv_at hl 2 rfl) ?_
        refine va_get (D := (dC, dI)) (ci := 12) (v := .ref (mr 14)) (C := RX12) (T := TX12) (N := 57) hx hb hts (fun w h => List.mem_cons_of_mem _ (jnGB_X12 w h)) hown hK hP 0 rfl rfl 34 (by decide) (hts _ (List.mem_cons_of_mem _ mGB_26)) (fun _ h9 => h9) rfl dX12_holds_44 ?_
        refine lv_iload_n hx hb dX12_holds_47 rfl (lv_at hl 1 rfl) ?_
        refine va_iald hx hb hK hP 4 3 rfl rfl (gi_in gx_145 (by decide)) dX12_holds_48 ?_
        refine lv_topi (fun x_192 ex_192 => ?_)
        have hlx_192 : x_192.toInt = (fm_must x_145.toNatClampNeg).toInt := congrArg Int32.toInt ex_192
        refine lv_iload_n hx hb dX12_holds_49 rfl (lv_at hl 0 rfl) ?_
        refine lv_icmp_eq (tgt := 57) hx hb dX12_holds_50 (by decide) (fun c_193 => ?_) (fun c_193 => ?_)
        · have hc_194 : x_192.toInt = x_147.toInt := by have h9 := congrArg Int32.toInt c_193; exact h9
          have g_195 : gi x_192 1 1000 := gi_eq c_193 gx_147
          refine lv_iconst (v := 0) hx hb dX12_holds_57 (by decide) ?_
          refine va_put (D := (dC, dI)) (ci := 12) (v := .int 0) (ty := .boolean) (C := RX12) (T := TX12) (N := 57) hx hb hts (fun w h => List.mem_cons_of_mem _ (jnGB_X12 w h)) tyX12 tyX12_ok nmX12 hown hK hP hD hS 0 rfl rfl 37 (by decide) (hts _ (List.mem_cons_of_mem _ mGB_270)) (fun _ h9 => h9) rfl (by decide +kernel) rfl rfl (Nat.le_of_ble_eq_true rfl) dX12_holds_58 (fun H locs hP hD hS => ?_)
          have hP : va_P (dC, dI) vwCl [(h0, .inr (12, fsMM (upd mi 37 0) mr)), ((mr 5), .inl (km_reportMonth, 24, .inl fm_reportMonth)), ((mr 6), .inl (km_reportDay, 24, .inl fm_reportDay)), ((mr 3), .inl (km_reportKind, 24, .inl fm_reportKind)), ((mr 14), .inl (km_must, 25, .inl fm_must)), ((mr 15), .inl (km_least, 25, .inl fm_least))] H := hP
          have hD : va_D A [(h0, .inr (12, fsMM (upd mi 37 0) mr)), ((mr 5), .inl (km_reportMonth, 24, .inl fm_reportMonth)), ((mr 6), .inl (km_reportDay, 24, .inl fm_reportDay)), ((mr 3), .inl (km_reportKind, 24, .inl fm_reportKind)), ((mr 14), .inl (km_must, 25, .inl fm_must)), ((mr 15), .inl (km_least, 25, .inl fm_least))] := hD
          refine lv_aload_n hx hb dX12_holds_61 rfl (lv_at hl 2 rfl) ?_
          refine va_get (D := (dC, dI)) (ci := 12) (v := .ref (mr 14)) (C := RX12) (T := TX12) (N := 57) hx hb hts (fun w h => List.mem_cons_of_mem _ (jnGB_X12 w h)) hown hK hP 0 rfl rfl 34 (by decide) (hts _ (List.mem_cons_of_mem _ mGB_26)) (fun _ h9 => h9) rfl dX12_holds_62 ?_
          refine lv_iload_n hx hb dX12_holds_65 rfl (lv_at hl 1 rfl) ?_
          refine lv_iload_n hx hb dX12_holds_66 rfl (lv_at hl 0 rfl) ?_
          refine va_iast hx hb hK hP hD hS 4 3 rfl rfl (gi_in gx_145 (by decide)) dX12_holds_67 (fun H locs hP hD hS => ?_)
          have hP : va_P (dC, dI) vwCl [(h0, .inr (12, fsMM (upd mi 37 0) mr)), ((mr 5), .inl (km_reportMonth, 24, .inl fm_reportMonth)), ((mr 6), .inl (km_reportDay, 24, .inl fm_reportDay)), ((mr 3), .inl (km_reportKind, 24, .inl fm_reportKind)), ((mr 14), .inl (km_must, 25, .inl (upd fm_must (x_145 : Int32).toNatClampNeg x_147))), ((mr 15), .inl (km_least, 25, .inl fm_least))] H := hP
          have hD : va_D A [(h0, .inr (12, fsMM (upd mi 37 0) mr)), ((mr 5), .inl (km_reportMonth, 24, .inl fm_reportMonth)), ((mr 6), .inl (km_reportDay, 24, .inl fm_reportDay)), ((mr 3), .inl (km_reportKind, 24, .inl fm_reportKind)), ((mr 14), .inl (km_must, 25, .inl (upd fm_must (x_145 : Int32).toNatClampNeg x_147))), ((mr 15), .inl (km_least, 25, .inl fm_least))] := hD
          generalize ef_196 : upd fm_must (x_145 : Int32).toNatClampNeg x_147 = f_196 at hP hD
          refine lv_aload_n hx hb dX12_holds_68 rfl (lv_at hl 2 rfl) ?_
          refine va_get (D := (dC, dI)) (ci := 12) (v := .ref (mr 3)) (C := RX12) (T := TX12) (N := 57) hx hb hts (fun w h => List.mem_cons_of_mem _ (jnGB_X12 w h)) hown hK hP 0 rfl rfl 12 (by decide) (hts _ (List.mem_cons_of_mem _ mGB_13)) (fun _ h9 => h9) rfl dX12_holds_69 ?_
          refine lv_iload_n hx hb dX12_holds_72 rfl (lv_at hl 3 rfl) ?_
          refine va_iald hx hb hK hP 3 2 rfl rfl (gi_in gp1 (by decide)) dX12_holds_73 ?_
          refine lv_topi (fun x_197 ex_197 => ?_)
          have hlx_197 : x_197.toInt = (fm_reportKind p1.toNatClampNeg).toInt := congrArg Int32.toInt ex_197
          refine lv_iconst (v := 1) hx hb dX12_holds_74 (by decide) ?_
          refine lv_icmp_ne (tgt := 96) hx hb dX12_holds_75 (by decide) (fun c_198 => ?_) (fun c_198 => ?_)
          · have hc_199 : x_197.toInt ≠ 1 := fun h9 => c_198 (Int32.toInt_inj.mp (by rw [show (1 : Int32).toInt = 1 from by decide]; exact h9))
            exact W.vret hx hb hr (fun t ht hW => ⟨⟨(), rfl, trivial, 0, f_196, fm_least, (gi_w (gi_c 0 0 (by decide)) (by decide)), (show ∀ j : Nat, j ≠ (fm_reportMonth p1.toNatClampNeg).toNatClampNeg → f_196 j = fm_must j from by exact fun j hj => by rw [← ef_196]; unfold upd; rw [if_neg (fun h9 => hj (h9.trans (congrArg Int32.toNatClampNeg ex_145)))]), (show ∀ j : Nat, j ≠ (fm_reportMonth p1.toNatClampNeg).toNatClampNeg → fm_least j = fm_least j from by exact fun j hj => rfl), by rw [ht]; exact hP, hD⟩, hS.F ht⟩) hS.2.2 dX12_holds_96
          · have hc_200 : x_197.toInt = 1 := by have h9 := congrArg Int32.toInt c_198; rw [show (1 : Int32).toInt = 1 from by decide] at h9; exact h9
            have g_201 : gi x_197 1 1 := gi_eq c_198 (gi_c 1 1 (by decide))
            refine lv_aload_n hx hb dX12_holds_78 rfl (lv_at hl 2 rfl) ?_
            refine va_get (D := (dC, dI)) (ci := 12) (v := .ref (mr 15)) (C := RX12) (T := TX12) (N := 57) hx hb hts (fun w h => List.mem_cons_of_mem _ (jnGB_X12 w h)) hown hK hP 0 rfl rfl 35 (by decide) (hts _ (List.mem_cons_of_mem _ mGB_27)) (fun _ h9 => h9) rfl dX12_holds_79 ?_
            refine lv_iload_n hx hb dX12_holds_82 rfl (lv_at hl 1 rfl) ?_
            refine lv_aload_n hx hb dX12_holds_83 rfl (lv_at hl 2 rfl) ?_
            refine va_get (D := (dC, dI)) (ci := 12) (v := .ref (mr 15)) (C := RX12) (T := TX12) (N := 57) hx hb hts (fun w h => List.mem_cons_of_mem _ (jnGB_X12 w h)) hown hK hP 0 rfl rfl 35 (by decide) (hts _ (List.mem_cons_of_mem _ mGB_27)) (fun _ h9 => h9) rfl dX12_holds_84 ?_
            refine lv_iload_n hx hb dX12_holds_87 rfl (lv_at hl 1 rfl) ?_
            refine va_iald hx hb hK hP 5 4 rfl rfl (gi_in gx_145 (by decide)) dX12_holds_88 ?_
            refine lv_topi (fun x_202 ex_202 => ?_)
            have hlx_202 : x_202.toInt = (fm_least x_145.toNatClampNeg).toInt := congrArg Int32.toInt ex_202
            refine lv_iload_n hx hb dX12_holds_89 rfl (lv_at hl 0 rfl) ?_
            refine lv_iconst (v := 1) hx hb dX12_holds_90 (by decide) ?_
            refine lv_iadd hx hb dX12_holds_91 ?_
            refine lv_topi (fun x_203 ex_203 => ?_)
            have gx_203 : gi x_203 2 1001 := gi_add ex_203 gx_147 (gi_c 1 1 (by decide)) (by decide)
            refine va_mmax (own := RX12) hx hb (by rw [hml]; exact hl.1.symm) hown (hts _ (List.mem_cons_of_mem _ mGB_202)) (hts _ (List.mem_cons_of_mem _ mGB_203)) (hts _ (List.mem_cons_of_mem _ mGB_98)) (hts _ (List.mem_cons_of_mem _ mGB_204)) (Nat.le_of_ble_eq_true rfl) (Nat.le_of_ble_eq_true rfl) (Nat.zero_le _) (Nat.zero_le _) dX12_holds_92 ?_
            refine lv_topi (fun x_204 ex_204 => ?_)
            have gx_204 : gi x_204 2 2147483647 := gi_max ex_204 (gi_any x_202) gx_203 (by decide)
            refine va_iast hx hb hK hP hD hS 5 4 rfl rfl (gi_in gx_145 (by decide)) dX12_holds_95 (fun H locs hP hD hS => ?_)
            have hP : va_P (dC, dI) vwCl [(h0, .inr (12, fsMM (upd mi 37 0) mr)), ((mr 5), .inl (km_reportMonth, 24, .inl fm_reportMonth)), ((mr 6), .inl (km_reportDay, 24, .inl fm_reportDay)), ((mr 3), .inl (km_reportKind, 24, .inl fm_reportKind)), ((mr 14), .inl (km_must, 25, .inl f_196)), ((mr 15), .inl (km_least, 25, .inl (upd fm_least (x_145 : Int32).toNatClampNeg x_204)))] H := hP
            have hD : va_D A [(h0, .inr (12, fsMM (upd mi 37 0) mr)), ((mr 5), .inl (km_reportMonth, 24, .inl fm_reportMonth)), ((mr 6), .inl (km_reportDay, 24, .inl fm_reportDay)), ((mr 3), .inl (km_reportKind, 24, .inl fm_reportKind)), ((mr 14), .inl (km_must, 25, .inl f_196)), ((mr 15), .inl (km_least, 25, .inl (upd fm_least (x_145 : Int32).toNatClampNeg x_204)))] := hD
            generalize ef_205 : upd fm_least (x_145 : Int32).toNatClampNeg x_204 = f_205 at hP hD
            exact W.vret hx hb hr (fun t ht hW => ⟨⟨(), rfl, trivial, 0, f_196, f_205, (gi_w (gi_c 0 0 (by decide)) (by decide)), (show ∀ j : Nat, j ≠ (fm_reportMonth p1.toNatClampNeg).toNatClampNeg → f_196 j = fm_must j from by exact fun j hj => by rw [← ef_196]; unfold upd; rw [if_neg (fun h9 => hj (h9.trans (congrArg Int32.toNatClampNeg ex_145)))]), (show ∀ j : Nat, j ≠ (fm_reportMonth p1.toNatClampNeg).toNatClampNeg → f_205 j = fm_least j from by exact fun j hj => by rw [← ef_205]; unfold upd; rw [if_neg (fun h9 => hj (h9.trans (congrArg Int32.toNatClampNeg ex_145)))]), by rw [ht]; exact hP, hD⟩, hS.F ht⟩) hS.2.2 dX12_holds_96
        · have hc_206 : x_192.toInt ≠ x_147.toInt := fun h9 => c_193 (Int32.toInt_inj.mp (by exact h9))
          refine lv_iconst (v := 1) hx hb dX12_holds_53 (by decide) ?_
          refine lv_goto (tgt := 58) hx hb dX12_holds_54 (by decide) ?_
          refine va_put (D := (dC, dI)) (ci := 12) (v := .int 1) (ty := .boolean) (C := RX12) (T := TX12) (N := 57) hx hb hts (fun w h => List.mem_cons_of_mem _ (jnGB_X12 w h)) tyX12 tyX12_ok nmX12 hown hK hP hD hS 0 rfl rfl 37 (by decide) (hts _ (List.mem_cons_of_mem _ mGB_270)) (fun _ h9 => h9) rfl (by decide +kernel) rfl rfl (Nat.le_of_ble_eq_true rfl) dX12_holds_58 (fun H locs hP hD hS => ?_)
          have hP : va_P (dC, dI) vwCl [(h0, .inr (12, fsMM (upd mi 37 1) mr)), ((mr 5), .inl (km_reportMonth, 24, .inl fm_reportMonth)), ((mr 6), .inl (km_reportDay, 24, .inl fm_reportDay)), ((mr 3), .inl (km_reportKind, 24, .inl fm_reportKind)), ((mr 14), .inl (km_must, 25, .inl fm_must)), ((mr 15), .inl (km_least, 25, .inl fm_least))] H := hP
          have hD : va_D A [(h0, .inr (12, fsMM (upd mi 37 1) mr)), ((mr 5), .inl (km_reportMonth, 24, .inl fm_reportMonth)), ((mr 6), .inl (km_reportDay, 24, .inl fm_reportDay)), ((mr 3), .inl (km_reportKind, 24, .inl fm_reportKind)), ((mr 14), .inl (km_must, 25, .inl fm_must)), ((mr 15), .inl (km_least, 25, .inl fm_least))] := hD
          refine lv_aload_n hx hb dX12_holds_61 rfl (lv_at hl 2 rfl) ?_
          refine va_get (D := (dC, dI)) (ci := 12) (v := .ref (mr 14)) (C := RX12) (T := TX12) (N := 57) hx hb hts (fun w h => List.mem_cons_of_mem _ (jnGB_X12 w h)) hown hK hP 0 rfl rfl 34 (by decide) (hts _ (List.mem_cons_of_mem _ mGB_26)) (fun _ h9 => h9) rfl dX12_holds_62 ?_
          refine lv_iload_n hx hb dX12_holds_65 rfl (lv_at hl 1 rfl) ?_
          refine lv_iload_n hx hb dX12_holds_66 rfl (lv_at hl 0 rfl) ?_
          refine va_iast hx hb hK hP hD hS 4 3 rfl rfl (gi_in gx_145 (by decide)) dX12_holds_67 (fun H locs hP hD hS => ?_)
          have hP : va_P (dC, dI) vwCl [(h0, .inr (12, fsMM (upd mi 37 1) mr)), ((mr 5), .inl (km_reportMonth, 24, .inl fm_reportMonth)), ((mr 6), .inl (km_reportDay, 24, .inl fm_reportDay)), ((mr 3), .inl (km_reportKind, 24, .inl fm_reportKind)), ((mr 14), .inl (km_must, 25, .inl (upd fm_must (x_145 : Int32).toNatClampNeg x_147))), ((mr 15), .inl (km_least, 25, .inl fm_least))] H := hP
          have hD : va_D A [(h0, .inr (12, fsMM (upd mi 37 1) mr)), ((mr 5), .inl (km_reportMonth, 24, .inl fm_reportMonth)), ((mr 6), .inl (km_reportDay, 24, .inl fm_reportDay)), ((mr 3), .inl (km_reportKind, 24, .inl fm_reportKind)), ((mr 14), .inl (km_must, 25, .inl (upd fm_must (x_145 : Int32).toNatClampNeg x_147))), ((mr 15), .inl (km_least, 25, .inl fm_least))] := hD
          generalize ef_207 : upd fm_must (x_145 : Int32).toNatClampNeg x_147 = f_207 at hP hD
          refine lv_aload_n hx hb dX12_holds_68 rfl (lv_at hl 2 rfl) ?_
          refine va_get (D := (dC, dI)) (ci := 12) (v := .ref (mr 3)) (C := RX12) (T := TX12) (N := 57) hx hb hts (fun w h => List.mem_cons_of_mem _ (jnGB_X12 w h)) hown hK hP 0 rfl rfl 12 (by decide) (hts _ (List.mem_cons_of_mem _ mGB_13)) (fun _ h9 => h9) rfl dX12_holds_69 ?_
          refine lv_iload_n hx hb dX12_holds_72 rfl (lv_at hl 3 rfl) ?_
          refine va_iald hx hb hK hP 3 2 rfl rfl (gi_in gp1 (by decide)) dX12_holds_73 ?_
          refine lv_topi (fun x_208 ex_208 => ?_)
          have hlx_208 : x_208.toInt = (fm_reportKind p1.toNatClampNeg).toInt := congrArg Int32.toInt ex_208
          refine lv_iconst (v := 1) hx hb dX12_holds_74 (by decide) ?_
          refine lv_icmp_ne (tgt := 96) hx hb dX12_holds_75 (by decide) (fun c_209 => ?_) (fun c_209 => ?_)
          · have hc_210 : x_208.toInt ≠ 1 := fun h9 => c_209 (Int32.toInt_inj.mp (by rw [show (1 : Int32).toInt = 1 from by decide]; exact h9))
            exact W.vret hx hb hr (fun t ht hW => ⟨⟨(), rfl, trivial, 1, f_207, fm_least, (gi_w (gi_c 1 1 (by decide)) (by decide)), (show ∀ j : Nat, j ≠ (fm_reportMonth p1.toNatClampNeg).toNatClampNeg → f_207 j = fm_must j from by exact fun j hj => by rw [← ef_207]; unfold upd; rw [if_neg (fun h9 => hj (h9.trans (congrArg Int32.toNatClampNeg ex_145)))]), (show ∀ j : Nat, j ≠ (fm_reportMonth p1.toNatClampNeg).toNatClampNeg → fm_least j = fm_least j from by exact fun j hj => rfl), by rw [ht]; exact hP, hD⟩, hS.F ht⟩) hS.2.2 dX12_holds_96
          · have hc_211 : x_208.toInt = 1 := by have h9 := congrArg Int32.toInt c_209; rw [show (1 : Int32).toInt = 1 from by decide] at h9; exact h9
            have g_212 : gi x_208 1 1 := gi_eq c_209 (gi_c 1 1 (by decide))
            refine lv_aload_n hx hb dX12_holds_78 rfl (lv_at hl 2 rfl) ?_
            refine va_get (D := (dC, dI)) (ci := 12) (v := .ref (mr 15)) (C := RX12) (T := TX12) (N := 57) hx hb hts (fun w h => List.mem_cons_of_mem _ (jnGB_X12 w h)) hown hK hP 0 rfl rfl 35 (by decide) (hts _ (List.mem_cons_of_mem _ mGB_27)) (fun _ h9 => h9) rfl dX12_holds_79 ?_
            refine lv_iload_n hx hb dX12_holds_82 rfl (lv_at hl 1 rfl) ?_
            refine lv_aload_n hx hb dX12_holds_83 rfl (lv_at hl 2 rfl) ?_
            refine va_get (D := (dC, dI)) (ci := 12) (v := .ref (mr 15)) (C := RX12) (T := TX12) (N := 57) hx hb hts (fun w h => List.mem_cons_of_mem _ (jnGB_X12 w h)) hown hK hP 0 rfl rfl 35 (by decide) (hts _ (List.mem_cons_of_mem _ mGB_27)) (fun _ h9 => h9) rfl dX12_holds_84 ?_
            refine lv_iload_n hx hb dX12_holds_87 rfl (lv_at hl 1 rfl) ?_
            refine va_iald hx hb hK hP 5 4 rfl rfl (gi_in gx_145 (by decide)) dX12_holds_88 ?_
            refine lv_topi (fun x_213 ex_213 => ?_)
            have hlx_213 : x_213.toInt = (fm_least x_145.toNatClampNeg).toInt := congrArg Int32.toInt ex_213
            refine lv_iload_n hx hb dX12_holds_89 rfl (lv_at hl 0 rfl) ?_
            refine lv_iconst (v := 1) hx hb dX12_holds_90 (by decide) ?_
            refine lv_iadd hx hb dX12_holds_91 ?_
            refine lv_topi (fun x_214 ex_214 => ?_)
            have gx_214 : gi x_214 2 1001 := gi_add ex_214 gx_147 (gi_c 1 1 (by decide)) (by decide)
            refine va_mmax (own := RX12) hx hb (by rw [hml]; exact hl.1.symm) hown (hts _ (List.mem_cons_of_mem _ mGB_202)) (hts _ (List.mem_cons_of_mem _ mGB_203)) (hts _ (List.mem_cons_of_mem _ mGB_98)) (hts _ (List.mem_cons_of_mem _ mGB_204)) (Nat.le_of_ble_eq_true rfl) (Nat.le_of_ble_eq_true rfl) (Nat.zero_le _) (Nat.zero_le _) dX12_holds_92 ?_
            refine lv_topi (fun x_215 ex_215 => ?_)
            have gx_215 : gi x_215 2 2147483647 := gi_max ex_215 (gi_any x_213) gx_214 (by decide)
            refine va_iast hx hb hK hP hD hS 5 4 rfl rfl (gi_in gx_145 (by decide)) dX12_holds_95 (fun H locs hP hD hS => ?_)
            have hP : va_P (dC, dI) vwCl [(h0, .inr (12, fsMM (upd mi 37 1) mr)), ((mr 5), .inl (km_reportMonth, 24, .inl fm_reportMonth)), ((mr 6), .inl (km_reportDay, 24, .inl fm_reportDay)), ((mr 3), .inl (km_reportKind, 24, .inl fm_reportKind)), ((mr 14), .inl (km_must, 25, .inl f_207)), ((mr 15), .inl (km_least, 25, .inl (upd fm_least (x_145 : Int32).toNatClampNeg x_215)))] H := hP
            have hD : va_D A [(h0, .inr (12, fsMM (upd mi 37 1) mr)), ((mr 5), .inl (km_reportMonth, 24, .inl fm_reportMonth)), ((mr 6), .inl (km_reportDay, 24, .inl fm_reportDay)), ((mr 3), .inl (km_reportKind, 24, .inl fm_reportKind)), ((mr 14), .inl (km_must, 25, .inl f_207)), ((mr 15), .inl (km_least, 25, .inl (upd fm_least (x_145 : Int32).toNatClampNeg x_215)))] := hD
            generalize ef_216 : upd fm_least (x_145 : Int32).toNatClampNeg x_215 = f_216 at hP hD
            exact W.vret hx hb hr (fun t ht hW => ⟨⟨(), rfl, trivial, 1, f_207, f_216, (gi_w (gi_c 1 1 (by decide)) (by decide)), (show ∀ j : Nat, j ≠ (fm_reportMonth p1.toNatClampNeg).toNatClampNeg → f_207 j = fm_must j from by exact fun j hj => by rw [← ef_207]; unfold upd; rw [if_neg (fun h9 => hj (h9.trans (congrArg Int32.toNatClampNeg ex_145)))]), (show ∀ j : Nat, j ≠ (fm_reportMonth p1.toNatClampNeg).toNatClampNeg → f_216 j = fm_least j from by exact fun j hj => by rw [← ef_216]; unfold upd; rw [if_neg (fun h9 => hj (h9.trans (congrArg Int32.toNatClampNeg ex_145)))]), by rw [ht]; exact hP, hD⟩, hS.F ht⟩) hS.2.2 dX12_holds_96
