theorem dX12_lays_0 : decode cX12_lays 0 = .ok (.aload_n 0, 1) := by decide +kernel
theorem dX12_lays_1 : decode cX12_lays 1 = .ok (.getfield 16, 3) := by decide +kernel
theorem dX12_lays_4 : decode cX12_lays 4 = .ok (.aload_n 0, 1) := by decide +kernel
theorem dX12_lays_5 : decode cX12_lays 5 = .ok (.getfield 141, 3) := by decide +kernel
theorem dX12_lays_8 : decode cX12_lays 8 = .ok (.iload_n 1, 1) := by decide +kernel
theorem dX12_lays_9 : decode cX12_lays 9 = .ok (.iastore, 1) := by decide +kernel
theorem dX12_lays_10 : decode cX12_lays 10 = .ok (.aload_n 0, 1) := by decide +kernel
theorem dX12_lays_11 : decode cX12_lays 11 = .ok (.getfield 19, 3) := by decide +kernel
theorem dX12_lays_14 : decode cX12_lays 14 = .ok (.aload_n 0, 1) := by decide +kernel
theorem dX12_lays_15 : decode cX12_lays 15 = .ok (.getfield 141, 3) := by decide +kernel
theorem dX12_lays_18 : decode cX12_lays 18 = .ok (.iload_n 2, 1) := by decide +kernel
theorem dX12_lays_19 : decode cX12_lays 19 = .ok (.iastore, 1) := by decide +kernel
theorem dX12_lays_20 : decode cX12_lays 20 = .ok (.aload_n 0, 1) := by decide +kernel
theorem dX12_lays_21 : decode cX12_lays 21 = .ok (.getfield 26, 3) := by decide +kernel
theorem dX12_lays_24 : decode cX12_lays 24 = .ok (.aload_n 0, 1) := by decide +kernel
theorem dX12_lays_25 : decode cX12_lays 25 = .ok (.getfield 141, 3) := by decide +kernel
theorem dX12_lays_28 : decode cX12_lays 28 = .ok (.iload_n 3, 1) := by decide +kernel
theorem dX12_lays_29 : decode cX12_lays 29 = .ok (.iastore, 1) := by decide +kernel
theorem dX12_lays_30 : decode cX12_lays 30 = .ok (.aload_n 0, 1) := by decide +kernel
theorem dX12_lays_31 : decode cX12_lays 31 = .ok (.getfield 29, 3) := by decide +kernel
theorem dX12_lays_34 : decode cX12_lays 34 = .ok (.aload_n 0, 1) := by decide +kernel
theorem dX12_lays_35 : decode cX12_lays 35 = .ok (.getfield 141, 3) := by decide +kernel
theorem dX12_lays_38 : decode cX12_lays 38 = .ok (.iload 4, 2) := by decide +kernel
theorem dX12_lays_40 : decode cX12_lays 40 = .ok (.iastore, 1) := by decide +kernel
theorem dX12_lays_41 : decode cX12_lays 41 = .ok (.aload_n 0, 1) := by decide +kernel
theorem dX12_lays_42 : decode cX12_lays 42 = .ok (.getfield 32, 3) := by decide +kernel
theorem dX12_lays_45 : decode cX12_lays 45 = .ok (.aload_n 0, 1) := by decide +kernel
theorem dX12_lays_46 : decode cX12_lays 46 = .ok (.getfield 141, 3) := by decide +kernel
theorem dX12_lays_49 : decode cX12_lays 49 = .ok (.iload 5, 2) := by decide +kernel
theorem dX12_lays_51 : decode cX12_lays 51 = .ok (.iastore, 1) := by decide +kernel
theorem dX12_lays_52 : decode cX12_lays 52 = .ok (.aload_n 0, 1) := by decide +kernel
theorem dX12_lays_53 : decode cX12_lays 53 = .ok (.getfield 22, 3) := by decide +kernel
theorem dX12_lays_56 : decode cX12_lays 56 = .ok (.aload_n 0, 1) := by decide +kernel
theorem dX12_lays_57 : decode cX12_lays 57 = .ok (.getfield 141, 3) := by decide +kernel
theorem dX12_lays_60 : decode cX12_lays 60 = .ok (.iconst 0, 1) := by decide +kernel
theorem dX12_lays_61 : decode cX12_lays 61 = .ok (.bastore, 1) := by decide +kernel
theorem dX12_lays_62 : decode cX12_lays 62 = .ok (.aload_n 0, 1) := by decide +kernel
theorem dX12_lays_63 : decode cX12_lays 63 = .ok (.dup, 1) := by decide +kernel
theorem dX12_lays_64 : decode cX12_lays 64 = .ok (.getfield 141, 3) := by decide +kernel
theorem dX12_lays_67 : decode cX12_lays 67 = .ok (.iconst 1, 1) := by decide +kernel
theorem dX12_lays_68 : decode cX12_lays 68 = .ok (.iadd, 1) := by decide +kernel
theorem dX12_lays_69 : decode cX12_lays 69 = .ok (.putfield 141, 3) := by decide +kernel
theorem dX12_lays_72 : decode cX12_lays 72 = .ok (.return_, 1) := by decide +kernel
set_option maxHeartbeats 4000000 in
set_option maxRecDepth 100000 in
theorem sX12_lays (l : Launch) (dC : Nat → ClassId) (dI : Nat → Nat → Nat) (sz : Nat) (h0 : Nat) (mi : Nat → Int32) (mr : Nat → Nat) (km_reportPlace : ClassId) (fm_reportPlace : Nat → Int32) (km_reportKind : ClassId) (fm_reportKind : Nat → Int32) (km_reportMonth : ClassId) (fm_reportMonth : Nat → Int32) (km_reportDay : ClassId) (fm_reportDay : Nat → Int32) (km_reportKnown : ClassId) (fm_reportKnown : Nat → Int32) (km_struck : ClassId) (fm_struck : Nat → Int32) (p1 : Int32) (p2 : Int32) (p3 : Int32) (p4 : Int32) (p5 : Int32) (gmi_0 : gi (mi 0) 0 24) (gmi_1 : gi (mi 1) 0 5) (gmi_2 : gi (mi 2) 0 5) (gmi_4 : gi (mi 4) 0 1) (gmi_7 : gi (mi 7) 0 6) (gmi_10 : gi (mi 10) 0 23) (gmi_17 : gi (mi 17) 0 8) (gmi_23 : gi (mi 23) 0 300) (gmi_24 : gi (mi 24) 0 1) (gmi_26 : gi (mi 26) 0 1600) (gmi_29 : gi (mi 29) 0 1600) (gmi_30 : gi (mi 30) 0 1600) (gmi_33 : gi (mi 33) 0 1) (gmi_37 : gi (mi 37) 0 1) (gmi_41 : gi (mi 41) 0 24) (gmi_50 : gi (mi 50) 0 1) (gmi_51 : gi (mi 51) 0 1) (gmi_56 : gi (mi 56) 0 80) (gfm_reportPlace : ga fm_reportPlace 24 0 5) (gfm_reportMonth : ga fm_reportMonth 24 0 23) (gfm_reportDay : ga fm_reportDay 24 0 999) (gfm_reportKnown : ga fm_reportKnown 24 0 999) (gfm_struck : ga fm_struck 24 0 1) (gp1 : gi p1 0 5) (gp3 : gi p3 0 23) (gp4 : gi p4 0 999) (gp5 : gi p5 0 999) : Met l yX12_lays (.code yX12_lays cX12_lays 6 none :: wsGB) ({ frames := 0, cells := 0, slots := 0, locals := 0 }) (va_Pc [.ref h0, .int p1, .int p2, .int p3, .int p4, .int p5] (fun U => U.heap.size = sz ∧ va_P (dC, dI) vwCl [(h0, .inr (12, fsMM mi mr)), ((mr 2), .inl (km_reportPlace, 24, .inl fm_reportPlace)), ((mr 3), .inl (km_reportKind, 24, .inl fm_reportKind)), ((mr 5), .inl (km_reportMonth, 24, .inl fm_reportMonth)), ((mr 6), .inl (km_reportDay, 24, .inl fm_reportDay)), ((mr 7), .inl (km_reportKnown, 24, .inl fm_reportKnown)), ((mr 4), .inl (km_struck, 24, .inl fm_struck))] U.heap ∧ va_K (dC, dI) vwCl [(km_reportPlace, .int), (km_reportKind, .int), (km_reportMonth, .int), (km_reportDay, .int), (km_reportKnown, .int), (km_struck, .boolean)] U ∧ va_D (fun _ => True) [(h0, .inr (12, fsMM mi mr)), ((mr 2), .inl (km_reportPlace, 24, .inl fm_reportPlace)), ((mr 3), .inl (km_reportKind, 24, .inl fm_reportKind)), ((mr 5), .inl (km_reportMonth, 24, .inl fm_reportMonth)), ((mr 6), .inl (km_reportDay, 24, .inl fm_reportDay)), ((mr 7), .inl (km_reportKnown, 24, .inl fm_reportKnown)), ((mr 4), .inl (km_struck, 24, .inl fm_struck))])) (va_Qv (fun (u : Unit) => True) (fun _ t => ∃ (w0_10 : Int32) (z1 : Nat → Int32) (z2 : Nat → Int32) (z3 : Nat → Int32) (z4 : Nat → Int32) (z5 : Nat → Int32) (z6 : Nat → Int32), gi w0_10 0 24 ∧ ga z1 24 0 5 ∧ ga z3 24 0 23 ∧ ga z4 24 0 999 ∧ ga z5 24 0 999 ∧ ga z6 24 0 1 ∧ va_P (dC, dI) vwCl [(h0, .inr (12, fsMM (upd mi 10 w0_10) mr)), ((mr 2), .inl (km_reportPlace, 24, .inl z1)), ((mr 3), .inl (km_reportKind, 24, .inl z2)), ((mr 5), .inl (km_reportMonth, 24, .inl z3)), ((mr 6), .inl (km_reportDay, 24, .inl z4)), ((mr 7), .inl (km_reportKnown, 24, .inl z5)), ((mr 4), .inl (km_struck, 24, .inl z6))] t.heap ∧ va_D (va_A [(h0, .inr (12, fsMM mi mr)), ((mr 2), .inl (km_reportPlace, 24, .inl fm_reportPlace)), ((mr 3), .inl (km_reportKind, 24, .inl fm_reportKind)), ((mr 5), .inl (km_reportMonth, 24, .inl fm_reportMonth)), ((mr 6), .inl (km_reportDay, 24, .inl fm_reportDay)), ((mr 7), .inl (km_reportKnown, 24, .inl fm_reportKnown)), ((mr 4), .inl (km_struck, 24, .inl fm_struck))] sz) [(h0, .inr (12, fsMM (upd mi 10 w0_10) mr)), ((mr 2), .inl (km_reportPlace, 24, .inl z1)), ((mr 3), .inl (km_reportKind, 24, .inl z2)), ((mr 5), .inl (km_reportMonth, 24, .inl z3)), ((mr 6), .inl (km_reportDay, 24, .inl z4)), ((mr 7), .inl (km_reportKnown, 24, .inl z5)), ((mr 4), .inl (km_struck, 24, .inl z6))]) (va_A [(h0, .inr (12, fsMM mi mr)), ((mr 2), .inl (km_reportPlace, 24, .inl fm_reportPlace)), ((mr 3), .inl (km_reportKind, 24, .inl fm_reportKind)), ((mr 5), .inl (km_reportMonth, 24, .inl fm_reportMonth)), ((mr 6), .inl (km_reportDay, 24, .inl fm_reportDay)), ((mr 7), .inl (km_reportKnown, 24, .inl fm_reportKnown)), ((mr 4), .inl (km_struck, 24, .inl fm_struck))] sz)) 0 0 (va_A [(h0, .inr (12, fsMM mi mr)), ((mr 2), .inl (km_reportPlace, 24, .inl fm_reportPlace)), ((mr 3), .inl (km_reportKind, 24, .inl fm_reportKind)), ((mr 5), .inl (km_reportMonth, 24, .inl fm_reportMonth)), ((mr 6), .inl (km_reportDay, 24, .inl fm_reportDay)), ((mr 7), .inl (km_reportKnown, 24, .inl fm_reportKnown)), ((mr 4), .inl (km_struck, 24, .inl fm_struck))] sz) := by
  refine Met.ofW (cc := cX12_lays) (maxL := 6) (ret := none) (by decide) rfl ?_
  intro p e s m args below meth c s₁ B hml hv
  obtain ⟨rfl, hsz, hP, hK, hD0⟩ := hv
  have hx := B.exec
  have hb := B.bytes
  have hr := B.returns
  have hts := atoms_spec (ws := (.code yX12_lays cX12_lays 6 none :: wsGB)) B.pre
  have hown : s.vm.findClass RX12 = some m.cls := findClass_of_methodNamed B.named
  have hlocks := B.notSynchronized
  subst hsz
  have hD := hD0.self (sz := s.heap.size)
  generalize hAe : va_A [(h0, .inr (12, fsMM mi mr)), ((mr 2), .inl (km_reportPlace, 24, .inl fm_reportPlace)), ((mr 3), .inl (km_reportKind, 24, .inl fm_reportKind)), ((mr 5), .inl (km_reportMonth, 24, .inl fm_reportMonth)), ((mr 6), .inl (km_reportDay, 24, .inl fm_reportDay)), ((mr 7), .inl (km_reportKnown, 24, .inl fm_reportKnown)), ((mr 4), .inl (km_struck, 24, .inl fm_struck))] s.heap.size = A at hD ⊢
  have hA : ∀ q : Nat, s.heap.size ≤ q → A q := fun q h => by rw [← hAe]; exact Or.inr h
  have hS : va_S A s.heap s.heap [] := va_S.rf
  have hl := lv_entry ([.ref h0, .int p1, .int p2, .int p3, .int p4, .int p5]) (n := 6) (Nat.le_of_ble_eq_true rfl)
  rw [lg_entry_eq]
  generalize (lg_sl ([.ref h0, .int p1, .int p2, .int p3, .int p4, .int p5]) ++ List.replicate (6 - (lg_sl ([.ref h0, .int p1, .int p2, .int p3, .int p4, .int p5])).length) Slot.unset).toArray = ls at hl ⊢
  have hl : lv_has ls 6 [(0, .ref h0), (1, .int p1), (2, .int p2), (3, .int p3), (4, .int p4), (5, .int p5)] := hl
  refine lv_aload_n hx hb dX12_lays_0 rfl (lv_at hl 0 rfl) ?_
  refine va_get (D := (dC, dI)) (ci := 12) (v := .ref (mr 2)) (C := RX12) (T := TX12) (N := 57) hx hb hts (fun w h => List.mem_cons_of_mem _ (jnGB_X12 w h)) hown hK hP 0 rfl rfl 11 (by decide) (hts _ (List.mem_cons_of_mem _ mGB_12)) (fun _ h9 => h9) rfl dX12_lays_1 ?_
  refine lv_aload_n hx hb dX12_lays_4 rfl (lv_at hl 0 rfl) ?_
  refine va_get (D := (dC, dI)) (ci := 12) (v := .int (mi 10)) (C := RX12) (T := TX12) (N := 57) hx hb hts (fun w h => List.mem_cons_of_mem _ (jnGB_X12 w h)) hown hK hP 0 rfl rfl 10 (by decide) (hts _ (List.mem_cons_of_mem _ mGB_111)) (fun _ h9 => h9) rfl dX12_lays_5 ?_
  refine lv_iload_n hx hb dX12_lays_8 rfl (lv_at hl 1 rfl) ?_
  refine va_iast hx hb hK hP hD hS 1 0 rfl rfl (gi_in gmi_10 (by decide)) dX12_lays_9 (fun H locs hP hD hS => ?_)
  have hP : va_P (dC, dI) vwCl [(h0, .inr (12, fsMM mi mr)), ((mr 2), .inl (km_reportPlace, 24, .inl (upd fm_reportPlace ((mi 10) : Int32).toNatClampNeg p1))), ((mr 3), .inl (km_reportKind, 24, .inl fm_reportKind)), ((mr 5), .inl (km_reportMonth, 24, .inl fm_reportMonth)), ((mr 6), .inl (km_reportDay, 24, .inl fm_reportDay)), ((mr 7), .inl (km_reportKnown, 24, .inl fm_reportKnown)), ((mr 4), .inl (km_struck, 24, .inl fm_struck))] H := hP
  have hD : va_D A [(h0, .inr (12, fsMM mi mr)), ((mr 2), .inl (km_reportPlace, 24, .inl (upd fm_reportPlace ((mi 10) : Int32).toNatClampNeg p1))), ((mr 3), .inl (km_reportKind, 24, .inl fm_reportKind)), ((mr 5), .inl (km_reportMonth, 24, .inl fm_reportMonth)), ((mr 6), .inl (km_reportDay, 24, .inl fm_reportDay)), ((mr 7), .inl (km_reportKnown, 24, .inl fm_reportKnown)), ((mr 4), .inl (km_struck, 24, .inl fm_struck))] := hD
  have gf_15 : ga (upd fm_reportPlace ((mi 10) : Int32).toNatClampNeg p1) 24 0 5 := ga_upd gfm_reportPlace gp1
  generalize upd fm_reportPlace ((mi 10) : Int32).toNatClampNeg p1 = f_15 at hP hD gf_15
  refine lv_aload_n hx hb dX12_lays_10 rfl (lv_at hl 0 rfl) ?_
  refine va_get (D := (dC, dI)) (ci := 12) (v := .ref (mr 3)) (C := RX12) (T := TX12) (N := 57) hx hb hts (fun w h => List.mem_cons_of_mem _ (jnGB_X12 w h)) hown hK hP 0 rfl rfl 12 (by decide) (hts _ (List.mem_cons_of_mem _ mGB_13)) (fun _ h9 => h9) rfl dX12_lays_11 ?_
  refine lv_aload_n hx hb dX12_lays_14 rfl (lv_at hl 0 rfl) ?_
  refine va_get (D := (dC, dI)) (ci := 12) (v := .int (mi 10)) (C := RX12) (T := TX12) (N := 57) hx hb hts (fun w h => List.mem_cons_of_mem _ (jnGB_X12 w h)) hown hK hP 0 rfl rfl 10 (by decide) (hts _ (List.mem_cons_of_mem _ mGB_111)) (fun _ h9 => h9) rfl dX12_lays_15 ?_
  refine lv_iload_n hx hb dX12_lays_18 rfl (lv_at hl 2 rfl) ?_
  refine va_iast hx hb hK hP hD hS 2 1 rfl rfl (gi_in gmi_10 (by decide)) dX12_lays_19 (fun H locs hP hD hS => ?_)
  have hP : va_P (dC, dI) vwCl [(h0, .inr (12, fsMM mi mr)), ((mr 2), .inl (km_reportPlace, 24, .inl f_15)), ((mr 3), .inl (km_reportKind, 24, .inl (upd fm_reportKind ((mi 10) : Int32).toNatClampNeg p2))), ((mr 5), .inl (km_reportMonth, 24, .inl fm_reportMonth)), ((mr 6), .inl (km_reportDay, 24, .inl fm_reportDay)), ((mr 7), .inl (km_reportKnown, 24, .inl fm_reportKnown)), ((mr 4), .inl (km_struck, 24, .inl fm_struck))] H := hP
  have hD : va_D A [(h0, .inr (12, fsMM mi mr)), ((mr 2), .inl (km_reportPlace, 24, .inl f_15)), ((mr 3), .inl (km_reportKind, 24, .inl (upd fm_reportKind ((mi 10) : Int32).toNatClampNeg p2))), ((mr 5), .inl (km_reportMonth, 24, .inl fm_reportMonth)), ((mr 6), .inl (km_reportDay, 24, .inl fm_reportDay)), ((mr 7), .inl (km_reportKnown, 24, .inl fm_reportKnown)), ((mr 4), .inl (km_struck, 24, .inl fm_struck))] := hD
  generalize upd fm_reportKind ((mi 10) : Int32).toNatClampNeg p2 = f_16 at hP hD
  refine lv_aload_n hx hb dX12_lays_20 rfl (lv_at hl 0 rfl) ?_
  refine va_get (D := (dC, dI)) (ci := 12) (v := .ref (mr 5)) (C := RX12) (T := TX12) (N := 57) hx hb hts (fun w h => List.mem_cons_of_mem _ (jnGB_X12 w h)) hown hK hP 0 rfl rfl 14 (by decide) (hts _ (List.mem_cons_of_mem _ mGB_16)) (fun _ h9 => h9) rfl dX12_lays_21 ?_
  refine lv_aload_n hx hb dX12_lays_24 rfl (lv_at hl 0 rfl) ?_
  refine va_get (D := (dC, dI)) (ci := 12) (v := .int (mi 10)) (C := RX12) (T := TX12) (N := 57) hx hb hts (fun w h => List.mem_cons_of_mem _ (jnGB_X12 w h)) hown hK hP 0 rfl rfl 10 (by decide) (hts _ (List.mem_cons_of_mem _ mGB_111)) (fun _ h9 => h9) rfl dX12_lays_25 ?_
  refine lv_iload_n hx hb dX12_lays_28 rfl (lv_at hl 3 rfl) ?_
  refine va_iast hx hb hK hP hD hS 3 2 rfl rfl (gi_in gmi_10 (by decide)) dX12_lays_29 (fun H locs hP hD hS => ?_)
  have hP : va_P (dC, dI) vwCl [(h0, .inr (12, fsMM mi mr)), ((mr 2), .inl (km_reportPlace, 24, .inl f_15)), ((mr 3), .inl (km_reportKind, 24, .inl f_16)), ((mr 5), .inl (km_reportMonth, 24, .inl (upd fm_reportMonth ((mi 10) : Int32).toNatClampNeg p3))), ((mr 6), .inl (km_reportDay, 24, .inl fm_reportDay)), ((mr 7), .inl (km_reportKnown, 24, .inl fm_reportKnown)), ((mr 4), .inl (km_struck, 24, .inl fm_struck))] H := hP
  have hD : va_D A [(h0, .inr (12, fsMM mi mr)), ((mr 2), .inl (km_reportPlace, 24, .inl f_15)), ((mr 3), .inl (km_reportKind, 24, .inl f_16)), ((mr 5), .inl (km_reportMonth, 24, .inl (upd fm_reportMonth ((mi 10) : Int32).toNatClampNeg p3))), ((mr 6), .inl (km_reportDay, 24, .inl fm_reportDay)), ((mr 7), .inl (km_reportKnown, 24, .inl fm_reportKnown)), ((mr 4), .inl (km_struck, 24, .inl fm_struck))] := hD
  have gf_17 : ga (upd fm_reportMonth ((mi 10) : Int32).toNatClampNeg p3) 24 0 23 := ga_upd gfm_reportMonth gp3
  generalize upd fm_reportMonth ((mi 10) : Int32).toNatClampNeg p3 = f_17 at hP hD gf_17
  refine lv_aload_n hx hb dX12_lays_30 rfl (lv_at hl 0 rfl) ?_
  refine va_get (D := (dC, dI)) (ci := 12) (v := .ref (mr 6)) (C := RX12) (T := TX12) (N := 57) hx hb hts (fun w h => List.mem_cons_of_mem _ (jnGB_X12 w h)) hown hK hP 0 rfl rfl 15 (by decide) (hts _ (List.mem_cons_of_mem _ mGB_17)) (fun _ h9 => h9) rfl dX12_lays_31 ?_
  refine lv_aload_n hx hb dX12_lays_34 rfl (lv_at hl 0 rfl) ?_
  refine va_get (D := (dC, dI)) (ci := 12) (v := .int (mi 10)) (C := RX12) (T := TX12) (N := 57) hx hb hts (fun w h => List.mem_cons_of_mem _ (jnGB_X12 w h)) hown hK hP 0 rfl rfl 10 (by decide) (hts _ (List.mem_cons_of_mem _ mGB_111)) (fun _ h9 => h9) rfl dX12_lays_35 ?_
  refine lv_iload hx hb dX12_lays_38 (lv_at hl 4 rfl) ?_
  refine va_iast hx hb hK hP hD hS 4 3 rfl rfl (gi_in gmi_10 (by decide)) dX12_lays_40 (fun H locs hP hD hS => ?_)
  have hP : va_P (dC, dI) vwCl [(h0, .inr (12, fsMM mi mr)), ((mr 2), .inl (km_reportPlace, 24, .inl f_15)), ((mr 3), .inl (km_reportKind, 24, .inl f_16)), ((mr 5), .inl (km_reportMonth, 24, .inl f_17)), ((mr 6), .inl (km_reportDay, 24, .inl (upd fm_reportDay ((mi 10) : Int32).toNatClampNeg p4))), ((mr 7), .inl (km_reportKnown, 24, .inl fm_reportKnown)), ((mr 4), .inl (km_struck, 24, .inl fm_struck))] H := hP
  have hD : va_D A [(h0, .inr (12, fsMM mi mr)), ((mr 2), .inl (km_reportPlace, 24, .inl f_15)), ((mr 3), .inl (km_reportKind, 24, .inl f_16)), ((mr 5), .inl (km_reportMonth, 24, .inl f_17)), ((mr 6), .inl (km_reportDay, 24, .inl (upd fm_reportDay ((mi 10) : Int32).toNatClampNeg p4))), ((mr 7), .inl (km_reportKnown, 24, .inl fm_reportKnown)), ((mr 4), .inl (km_struck, 24, .inl fm_struck))] := hD
  have gf_18 : ga (upd fm_reportDay ((mi 10) : Int32).toNatClampNeg p4) 24 0 999 := ga_upd gfm_reportDay gp4
  generalize upd fm_reportDay ((mi 10) : Int32).toNatClampNeg p4 = f_18 at hP hD gf_18
  refine lv_aload_n hx hb dX12_lays_41 rfl (lv_at hl 0 rfl) ?_
  refine va_get (D := (dC, dI)) (ci := 12) (v := .ref (mr 7)) (C := RX12) (T := TX12) (N := 57) hx hb hts (fun w h => List.mem_cons_of_mem _ (jnGB_X12 w h)) hown hK hP 0 rfl rfl 16 (by decide) (hts _ (List.mem_cons_of_mem _ mGB_18)) (fun _ h9 => h9) rfl dX12_lays_42 ?_
  refine lv_aload_n hx hb dX12_lays_45 rfl (lv_at hl 0 rfl) ?_
  refine va_get (D := (dC, dI)) (ci := 12) (v := .int (mi 10)) (C := RX12) (T := TX12) (N := 57) hx hb hts (fun w h => List.mem_cons_of_mem _ (jnGB_X12 w h)) hown hK hP 0 rfl rfl 10 (by decide) (hts _ (List.mem_cons_of_mem _ mGB_111)) (fun _ h9 => h9) rfl dX12_lays_46 ?_
  refine lv_iload hx hb dX12_lays_49 (lv_at hl 5 rfl) ?_
  refine va_iast hx hb hK hP hD hS 5 4 rfl rfl (gi_in gmi_10 (by decide)) dX12_lays_51 (fun H locs hP hD hS => ?_)
  have hP : va_P (dC, dI) vwCl [(h0, .inr (12, fsMM mi mr)), ((mr 2), .inl (km_reportPlace, 24, .inl f_15)), ((mr 3), .inl (km_reportKind, 24, .inl f_16)), ((mr 5), .inl (km_reportMonth, 24, .inl f_17)), ((mr 6), .inl (km_reportDay, 24, .inl f_18)), ((mr 7), .inl (km_reportKnown, 24, .inl (upd fm_reportKnown ((mi 10) : Int32).toNatClampNeg p5))), ((mr 4), .inl (km_struck, 24, .inl fm_struck))] H := hP
  have hD : va_D A [(h0, .inr (12, fsMM mi mr)), ((mr 2), .inl (km_reportPlace, 24, .inl f_15)), ((mr 3), .inl (km_reportKind, 24, .inl f_16)), ((mr 5), .inl (km_reportMonth, 24, .inl f_17)), ((mr 6), .inl (km_reportDay, 24, .inl f_18)), ((mr 7), .inl (km_reportKnown, 24, .inl (upd fm_reportKnown ((mi 10) : Int32).toNatClampNeg p5))), ((mr 4), .inl (km_struck, 24, .inl fm_struck))] := hD
  have gf_19 : ga (upd fm_reportKnown ((mi 10) : Int32).toNatClampNeg p5) 24 0 999 := ga_upd gfm_reportKnown gp5
  generalize upd fm_reportKnown ((mi 10) : Int32).toNatClampNeg p5 = f_19 at hP hD gf_19
  refine lv_aload_n hx hb dX12_lays_52 rfl (lv_at hl 0 rfl) ?_
  refine va_get (D := (dC, dI)) (ci := 12) (v := .ref (mr 4)) (C := RX12) (T := TX12) (N := 57) hx hb hts (fun w h => List.mem_cons_of_mem _ (jnGB_X12 w h)) hown hK hP 0 rfl rfl 13 (by decide) (hts _ (List.mem_cons_of_mem _ mGB_15)) (fun _ h9 => h9) rfl dX12_lays_53 ?_
  refine lv_aload_n hx hb dX12_lays_56 rfl (lv_at hl 0 rfl) ?_
  refine va_get (D := (dC, dI)) (ci := 12) (v := .int (mi 10)) (C := RX12) (T := TX12) (N := 57) hx hb hts (fun w h => List.mem_cons_of_mem _ (jnGB_X12 w h)) hown hK hP 0 rfl rfl 10 (by decide) (hts _ (List.mem_cons_of_mem _ mGB_111)) (fun _ h9 => h9) rfl dX12_lays_57 ?_
  refine lv_iconst (v := 0) hx hb dX12_lays_60 (by decide) ?_
  refine va_zast hx hb hK hP hD hS 6 5 rfl rfl (gi_in gmi_10 (by decide)) dX12_lays_61 (fun H locs hP hD hS => ?_)
  have hP : va_P (dC, dI) vwCl [(h0, .inr (12, fsMM mi mr)), ((mr 2), .inl (km_reportPlace, 24, .inl f_15)), ((mr 3), .inl (km_reportKind, 24, .inl f_16)), ((mr 5), .inl (km_reportMonth, 24, .inl f_17)), ((mr 6), .inl (km_reportDay, 24, .inl f_18)), ((mr 7), .inl (km_reportKnown, 24, .inl f_19)), ((mr 4), .inl (km_struck, 24, .inl (upd fm_struck ((mi 10) : Int32).toNatClampNeg (vp_nar .boolean 0))))] H := hP
  have hD : va_D A [(h0, .inr (12, fsMM mi mr)), ((mr 2), .inl (km_reportPlace, 24, .inl f_15)), ((mr 3), .inl (km_reportKind, 24, .inl f_16)), ((mr 5), .inl (km_reportMonth, 24, .inl f_17)), ((mr 6), .inl (km_reportDay, 24, .inl f_18)), ((mr 7), .inl (km_reportKnown, 24, .inl f_19)), ((mr 4), .inl (km_struck, 24, .inl (upd fm_struck ((mi 10) : Int32).toNatClampNeg (vp_nar .boolean 0))))] := hD
  have gf_20 : ga (upd fm_struck ((mi 10) : Int32).toNatClampNeg (vp_nar .boolean 0)) 24 0 1 := ga_updz gfm_struck (gi_w (gi_c 0 0 (by decide)) (by decide))
  generalize upd fm_struck ((mi 10) : Int32).toNatClampNeg (vp_nar .boolean 0) = f_20 at hP hD gf_20
  refine lv_aload_n hx hb dX12_lays_62 rfl (lv_at hl 0 rfl) ?_
  refine lv_dup hx hb dX12_lays_63 rfl ?_
  refine va_get (D := (dC, dI)) (ci := 12) (v := .int (mi 10)) (C := RX12) (T := TX12) (N := 57) hx hb hts (fun w h => List.mem_cons_of_mem _ (jnGB_X12 w h)) hown hK hP 0 rfl rfl 10 (by decide) (hts _ (List.mem_cons_of_mem _ mGB_111)) (fun _ h9 => h9) rfl dX12_lays_64 ?_
  refine lv_iconst (v := 1) hx hb dX12_lays_67 (by decide) ?_
  refine lv_iadd hx hb dX12_lays_68 ?_
  refine lv_topi (fun x_21 ex_21 => ?_)
  have gx_21 : gi x_21 1 24 := gi_add ex_21 gmi_10 (gi_c 1 1 (by decide)) (by decide)
  refine va_put (D := (dC, dI)) (ci := 12) (v := .int x_21) (ty := .int) (C := RX12) (T := TX12) (N := 57) hx hb hts (fun w h => List.mem_cons_of_mem _ (jnGB_X12 w h)) tyX12 tyX12_ok nmX12 hown hK hP hD hS 0 rfl rfl 10 (by decide) (hts _ (List.mem_cons_of_mem _ mGB_111)) (fun _ h9 => h9) rfl (by decide +kernel) rfl rfl (Nat.le_of_ble_eq_true rfl) dX12_lays_69 (fun H locs hP hD hS => ?_)
  have hP : va_P (dC, dI) vwCl [(h0, .inr (12, fsMM (upd mi 10 x_21) mr)), ((mr 2), .inl (km_reportPlace, 24, .inl f_15)), ((mr 3), .inl (km_reportKind, 24, .inl f_16)), ((mr 5), .inl (km_reportMonth, 24, .inl f_17)), ((mr 6), .inl (km_reportDay, 24, .inl f_18)), ((mr 7), .inl (km_reportKnown, 24, .inl f_19)), ((mr 4), .inl (km_struck, 24, .inl f_20))] H := hP
  have hD : va_D A [(h0, .inr (12, fsMM (upd mi 10 x_21) mr)), ((mr 2), .inl (km_reportPlace, 24, .inl f_15)), ((mr 3), .inl (km_reportKind, 24, .inl f_16)), ((mr 5), .inl (km_reportMonth, 24, .inl f_17)), ((mr 6), .inl (km_reportDay, 24, .inl f_18)), ((mr 7), .inl (km_reportKnown, 24, .inl f_19)), ((mr 4), .inl (km_struck, 24, .inl f_20))] := hD
  exact W.vret hx hb hr (fun t ht hW => ⟨⟨(), rfl, trivial, x_21, f_15, f_16, f_17, f_18, f_19, f_20, (gi_w gx_21 (by decide)), gf_15, gf_17, gf_18, gf_19, gf_20, by rw [ht]; exact hP, hD⟩, hS.F ht⟩) hS.2.2 dX12_lays_72
