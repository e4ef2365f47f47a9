theorem dX12_judges_0 : decode cX12_judges 0 = .ok (.aload_n 0, 1) := by decide +kernel
theorem dX12_judges_1 : decode cX12_judges 1 = .ok (.getfield 129, 3) := by decide +kernel
theorem dX12_judges_4 : decode cX12_judges 4 = .ok (.ifCond .eq 33, 3) := by decide +kernel
theorem dX12_judges_7 : decode cX12_judges 7 = .ok (.aload_n 0, 1) := by decide +kernel
theorem dX12_judges_8 : decode cX12_judges 8 = .ok (.getfield 19, 3) := by decide +kernel
theorem dX12_judges_11 : decode cX12_judges 11 = .ok (.iload_n 1, 1) := by decide +kernel
theorem dX12_judges_12 : decode cX12_judges 12 = .ok (.iaload, 1) := by decide +kernel
theorem dX12_judges_13 : decode cX12_judges 13 = .ok (.ifCond .ne 24, 3) := by decide +kernel
theorem dX12_judges_16 : decode cX12_judges 16 = .ok (.aload_n 0, 1) := by decide +kernel
theorem dX12_judges_17 : decode cX12_judges 17 = .ok (.getfield 29, 3) := by decide +kernel
theorem dX12_judges_20 : decode cX12_judges 20 = .ok (.iload_n 1, 1) := by decide +kernel
theorem dX12_judges_21 : decode cX12_judges 21 = .ok (.iaload, 1) := by decide +kernel
theorem dX12_judges_22 : decode cX12_judges 22 = .ok (.aload_n 0, 1) := by decide +kernel
theorem dX12_judges_23 : decode cX12_judges 23 = .ok (.aload_n 0, 1) := by decide +kernel
theorem dX12_judges_24 : decode cX12_judges 24 = .ok (.getfield 26, 3) := by decide +kernel
theorem dX12_judges_27 : decode cX12_judges 27 = .ok (.iload_n 1, 1) := by decide +kernel
theorem dX12_judges_28 : decode cX12_judges 28 = .ok (.iaload, 1) := by decide +kernel
theorem dX12_judges_29 : decode cX12_judges 29 = .ok (.invokevirtual 309, 3) := by decide +kernel
theorem dX12_judges_32 : decode cX12_judges 32 = .ok (.if_icmp .ge 5, 3) := by decide +kernel
theorem dX12_judges_35 : decode cX12_judges 35 = .ok (.iconst 1, 1) := by decide +kernel
theorem dX12_judges_36 : decode cX12_judges 36 = .ok (.ireturn, 1) := by decide +kernel
theorem dX12_judges_37 : decode cX12_judges 37 = .ok (.aload_n 0, 1) := by decide +kernel
theorem dX12_judges_38 : decode cX12_judges 38 = .ok (.getfield 26, 3) := by decide +kernel
theorem dX12_judges_41 : decode cX12_judges 41 = .ok (.iload_n 1, 1) := by decide +kernel
theorem dX12_judges_42 : decode cX12_judges 42 = .ok (.iaload, 1) := by decide +kernel
theorem dX12_judges_43 : decode cX12_judges 43 = .ok (.istore_n 2, 1) := by decide +kernel
theorem dX12_judges_44 : decode cX12_judges 44 = .ok (.aload_n 0, 1) := by decide +kernel
theorem dX12_judges_45 : decode cX12_judges 45 = .ok (.getfield 57, 3) := by decide +kernel
theorem dX12_judges_48 : decode cX12_judges 48 = .ok (.iload_n 2, 1) := by decide +kernel
theorem dX12_judges_49 : decode cX12_judges 49 = .ok (.iaload, 1) := by decide +kernel
theorem dX12_judges_50 : decode cX12_judges 50 = .ok (.istore_n 3, 1) := by decide +kernel
theorem dX12_judges_51 : decode cX12_judges 51 = .ok (.aload_n 0, 1) := by decide +kernel
theorem dX12_judges_52 : decode cX12_judges 52 = .ok (.getfield 60, 3) := by decide +kernel
theorem dX12_judges_55 : decode cX12_judges 55 = .ok (.iload_n 2, 1) := by decide +kernel
theorem dX12_judges_56 : decode cX12_judges 56 = .ok (.iaload, 1) := by decide +kernel
theorem dX12_judges_57 : decode cX12_judges 57 = .ok (.istore 4, 2) := by decide +kernel
theorem dX12_judges_59 : decode cX12_judges 59 = .ok (.aload_n 0, 1) := by decide +kernel
theorem dX12_judges_60 : decode cX12_judges 60 = .ok (.iload_n 1, 1) := by decide +kernel
theorem dX12_judges_61 : decode cX12_judges 61 = .ok (.invokevirtual 347, 3) := by decide +kernel
theorem dX12_judges_64 : decode cX12_judges 64 = .ok (.aload_n 0, 1) := by decide +kernel
theorem dX12_judges_65 : decode cX12_judges 65 = .ok (.invokevirtual 332, 3) := by decide +kernel
theorem dX12_judges_68 : decode cX12_judges 68 = .ok (.ifCond .le 5, 3) := by decide +kernel
theorem dX12_judges_71 : decode cX12_judges 71 = .ok (.iconst 0, 1) := by decide +kernel
theorem dX12_judges_72 : decode cX12_judges 72 = .ok (.ireturn, 1) := by decide +kernel
theorem dX12_judges_73 : decode cX12_judges 73 = .ok (.aload_n 0, 1) := by decide +kernel
theorem dX12_judges_74 : decode cX12_judges 74 = .ok (.getfield 57, 3) := by decide +kernel
theorem dX12_judges_77 : decode cX12_judges 77 = .ok (.iload_n 2, 1) := by decide +kernel
theorem dX12_judges_78 : decode cX12_judges 78 = .ok (.iload_n 3, 1) := by decide +kernel
theorem dX12_judges_79 : decode cX12_judges 79 = .ok (.iastore, 1) := by decide +kernel
theorem dX12_judges_80 : decode cX12_judges 80 = .ok (.aload_n 0, 1) := by decide +kernel
theorem dX12_judges_81 : decode cX12_judges 81 = .ok (.getfield 60, 3) := by decide +kernel
theorem dX12_judges_84 : decode cX12_judges 84 = .ok (.iload_n 2, 1) := by decide +kernel
theorem dX12_judges_85 : decode cX12_judges 85 = .ok (.iload 4, 2) := by decide +kernel
theorem dX12_judges_87 : decode cX12_judges 87 = .ok (.iastore, 1) := by decide +kernel
theorem dX12_judges_88 : decode cX12_judges 88 = .ok (.aload_n 0, 1) := by decide +kernel
theorem dX12_judges_89 : decode cX12_judges 89 = .ok (.iconst 0, 1) := by decide +kernel
theorem dX12_judges_90 : decode cX12_judges 90 = .ok (.putfield 312, 3) := by decide +kernel
theorem dX12_judges_93 : decode cX12_judges 93 = .ok (.iconst 2, 1) := by decide +kernel
theorem dX12_judges_94 : decode cX12_judges 94 = .ok (.ireturn, 1) := by decide +kernel
set_option maxHeartbeats 4000000 in
set_option maxRecDepth 100000 in
theorem sX12_judges (l : Launch) (dC : Nat → ClassId) (dI : Nat → Nat → Nat) (sz : Nat) (h0 : Nat) (mi : Nat → Int32) (mr : Nat → Nat) (km_must : ClassId) (fm_must : Nat → Int32) (km_least : ClassId) (fm_least : Nat → Int32) (km_pin : ClassId) (fm_pin : Nat → Int32) (km_ways : ClassId) (fm_ways : Nat → Int32) (km_reportMonth : ClassId) (fm_reportMonth : Nat → Int32) (km_reportDay : ClassId) (fm_reportDay : Nat → Int32) (km_reportKind : ClassId) (fm_reportKind : Nat → Int32) (p1 : Int32) (gmi_0 : gi (mi 0) 0 24) (gmi_1 : gi (mi 1) 0 5) (gmi_2 : gi (mi 2) 0 5) (gmi_4 : gi (mi 4) 0 1) (gmi_7 : gi (mi 7) 0 6) (gmi_10 : gi (mi 10) 0 24) (gmi_17 : gi (mi 17) 0 8) (gmi_23 : gi (mi 23) 0 300) (gmi_24 : gi (mi 24) 0 1) (gmi_26 : gi (mi 26) 0 1600) (gmi_29 : gi (mi 29) 0 1600) (gmi_30 : gi (mi 30) 0 1600) (gmi_33 : gi (mi 33) 0 1) (gmi_37 : gi (mi 37) 0 1) (gmi_41 : gi (mi 41) 0 24) (gmi_50 : gi (mi 50) 0 1) (gmi_51 : gi (mi 51) 0 1) (gmi_56 : gi (mi 56) 0 80) (gfm_reportMonth : ga fm_reportMonth 24 0 23) (gfm_reportDay : ga fm_reportDay 24 0 999) (gp1 : gi p1 0 23) : Met l yX12_judges (.code yX12_judges cX12_judges 5 (some .int) :: wsGB) ({ frames := 3, cells := 0, slots := 0, locals := 73 }) (va_Pc [.ref h0, .int p1] (fun U => U.heap.size = sz ∧ va_P (dC, dI) vwCl [(h0, .inr (12, fsMM mi mr)), ((mr 14), .inl (km_must, 25, .inl fm_must)), ((mr 15), .inl (km_least, 25, .inl fm_least)), ((mr 16), .inl (km_pin, 25, .inl fm_pin)), ((mr 17), .inl (km_ways, 6875, .inl fm_ways)), ((mr 5), .inl (km_reportMonth, 24, .inl fm_reportMonth)), ((mr 6), .inl (km_reportDay, 24, .inl fm_reportDay)), ((mr 3), .inl (km_reportKind, 24, .inl fm_reportKind))] U.heap ∧ va_K (dC, dI) vwCl [(km_must, .int), (km_least, .int), (km_pin, .int), (km_ways, .int), (km_reportMonth, .int), (km_reportDay, .int), (km_reportKind, .int)] U ∧ va_D (fun _ => True) [(h0, .inr (12, fsMM mi mr)), ((mr 14), .inl (km_must, 25, .inl fm_must)), ((mr 15), .inl (km_least, 25, .inl fm_least)), ((mr 16), .inl (km_pin, 25, .inl fm_pin)), ((mr 17), .inl (km_ways, 6875, .inl fm_ways)), ((mr 5), .inl (km_reportMonth, 24, .inl fm_reportMonth)), ((mr 6), .inl (km_reportDay, 24, .inl fm_reportDay)), ((mr 3), .inl (km_reportKind, 24, .inl fm_reportKind))])) (va_Qi (fun (r : Int32) (u : Unit) => gi r 0 2) (fun _ t => ∃ (w0_37 : Int32) (z1 : Nat → Int32) (z2 : Nat → Int32) (z4 : Nat → Int32), gi w0_37 0 1 ∧ va_P (dC, dI) vwCl [(h0, .inr (12, fsMM (upd mi 37 w0_37) mr)), ((mr 14), .inl (km_must, 25, .inl z1)), ((mr 15), .inl (km_least, 25, .inl z2)), ((mr 16), .inl (km_pin, 25, .inl fm_pin)), ((mr 17), .inl (km_ways, 6875, .inl z4)), ((mr 5), .inl (km_reportMonth, 24, .inl fm_reportMonth)), ((mr 6), .inl (km_reportDay, 24, .inl fm_reportDay)), ((mr 3), .inl (km_reportKind, 24, .inl fm_reportKind))] t.heap ∧ va_D (va_A [(h0, .inr (12, fsMM mi mr)), ((mr 14), .inl (km_must, 25, .inl fm_must)), ((mr 15), .inl (km_least, 25, .inl fm_least)), ((mr 16), .inl (km_pin, 25, .inl fm_pin)), ((mr 17), .inl (km_ways, 6875, .inl fm_ways)), ((mr 5), .inl (km_reportMonth, 24, .inl fm_reportMonth)), ((mr 6), .inl (km_reportDay, 24, .inl fm_reportDay)), ((mr 3), .inl (km_reportKind, 24, .inl fm_reportKind))] sz) [(h0, .inr (12, fsMM (upd mi 37 w0_37) mr)), ((mr 14), .inl (km_must, 25, .inl z1)), ((mr 15), .inl (km_least, 25, .inl z2)), ((mr 16), .inl (km_pin, 25, .inl fm_pin)), ((mr 17), .inl (km_ways, 6875, .inl z4)), ((mr 5), .inl (km_reportMonth, 24, .inl fm_reportMonth)), ((mr 6), .inl (km_reportDay, 24, .inl fm_reportDay)), ((mr 3), .inl (km_reportKind, 24, .inl fm_reportKind))]) (va_A [(h0, .inr (12, fsMM mi mr)), ((mr 14), .inl (km_must, 25, .inl fm_must)), ((mr 15), .inl (km_least, 25, .inl fm_least)), ((mr 16), .inl (km_pin, 25, .inl fm_pin)), ((mr 17), .inl (km_ways, 6875, .inl fm_ways)), ((mr 5), .inl (km_reportMonth, 24, .inl fm_reportMonth)), ((mr 6), .inl (km_reportDay, 24, .inl fm_reportDay)), ((mr 3), .inl (km_reportKind, 24, .inl fm_reportKind))] sz)) 0 0 (va_A [(h0, .inr (12, fsMM mi mr)), ((mr 14), .inl (km_must, 25, .inl fm_must)), ((mr 15), .inl (km_least, 25, .inl fm_least)), ((mr 16), .inl (km_pin, 25, .inl fm_pin)), ((mr 17), .inl (km_ways, 6875, .inl fm_ways)), ((mr 5), .inl (km_reportMonth, 24, .inl fm_reportMonth)), ((mr 6), .inl (km_reportDay, 24, .inl fm_reportDay)), ((mr 3), .inl (km_reportKind, 24, .inl fm_reportKind))] sz) := by
  refine Met.ofW (cc := cX12_judges) (maxL := 5) (ret := (some .int)) (by decide) rfl ?_
  intro p e s m args below meth c s₁ B hml hv
  obtain ⟨rfl, hsz, hP, hK, hD0⟩ := hv
  have hx := B.exec
  have hb := B.bytes
  have hr := B.returns
  have hts := atoms_spec (ws := (.code yX12_judges cX12_judges 5 (some .int) :: wsGB)) B.pre
  have hown : s.vm.findClass RX12 = some m.cls := findClass_of_methodNamed B.named
  have hlocks := B.notSynchronized
  subst hsz
  have hD := hD0.self (sz := s.heap.size)
  generalize hAe : va_A [(h0, .inr (12, fsMM mi mr)), ((mr 14), .inl (km_must, 25, .inl fm_must)), ((mr 15), .inl (km_least, 25, .inl fm_least)), ((mr 16), .inl (km_pin, 25, .inl fm_pin)), ((mr 17), .inl (km_ways, 6875, .inl fm_ways)), ((mr 5), .inl (km_reportMonth, 24, .inl fm_reportMonth)), ((mr 6), .inl (km_reportDay, 24, .inl fm_reportDay)), ((mr 3), .inl (km_reportKind, 24, .inl fm_reportKind))] s.heap.size = A at hD ⊢
  have hA : ∀ q : Nat, s.heap.size ≤ q → A q := fun q h => by rw [← hAe]; exact Or.inr h
  have hS : va_S A s.heap s.heap [] := va_S.rf
  have hl := lv_entry ([.ref h0, .int p1]) (n := 5) (Nat.le_of_ble_eq_true rfl)
  rw [lg_entry_eq]
  generalize (lg_sl ([.ref h0, .int p1]) ++ List.replicate (5 - (lg_sl ([.ref h0, .int p1])).length) Slot.unset).toArray = ls at hl ⊢
  have hl : lv_has ls 5 [(0, .ref h0), (1, .int p1)] := hl
  refine lv_aload_n hx hb dX12_judges_0 rfl (lv_at hl 0 rfl) ?_
  refine va_get (D := (dC, dI)) (ci := 12) (v := .int (mi 4)) (C := RX12) (T := TX12) (N := 57) hx hb hts (fun w h => List.mem_cons_of_mem _ (jnGB_X12 w h)) hown hK hP 0 rfl rfl 4 (by decide) (hts _ (List.mem_cons_of_mem _ mGB_107)) (fun _ h9 => h9) rfl dX12_judges_1 ?_
  refine lv_if_eq (tgt := 37) hx hb dX12_judges_4 (by decide) (fun c_109 => ?_) (fun c_109 => ?_)
  · have g_110 : gi (mi 4) 0 0 := gi_eq c_109 (gi_c 0 0 (by decide))
    refine lv_aload_n hx hb dX12_judges_37 rfl (lv_at hl 0 rfl) ?_
    refine va_get (D := (dC, dI)) (ci := 12) (v := .ref (mr 5)) (C := RX12) (T := TX12) (N := 57) hx hb hts (fun w h => List.mem_cons_of_mem _ (jnGB_X12 w h)) hown hK hP 0 rfl rfl 14 (by decide) (hts _ (List.mem_cons_of_mem _ mGB_16)) (fun _ h9 => h9) rfl dX12_judges_38 ?_
    refine lv_iload_n hx hb dX12_judges_41 rfl (lv_at hl 1 rfl) ?_
    refine va_iald hx hb hK hP 5 4 rfl rfl (gi_in gp1 (by decide)) dX12_judges_42 ?_
    refine lv_topi (fun x_111 ex_111 => ?_)
    have gx_111 : gi x_111 0 23 := ga_at gfm_reportMonth (gi_in gp1 (by decide)) ex_111
    refine lv_istore_n (lv' := [(2, .int x_111), (0, .ref h0), (1, .int p1)]) hx hb dX12_judges_43 rfl hl (by decide) rfl (fun ls hl => ?_)
    refine lv_aload_n hx hb dX12_judges_44 rfl (lv_at hl 1 rfl) ?_
    refine va_get (D := (dC, dI)) (ci := 12) (v := .ref (mr 14)) (C := RX12) (T := TX12) (N := 57) hx hb hts (fun w h => List.mem_cons_of_mem _ (jnGB_X12 w h)) hown hK hP 0 rfl rfl 34 (by decide) (hts _ (List.mem_cons_of_mem _ mGB_26)) (fun _ h9 => h9) rfl dX12_judges_45 ?_
    refine lv_iload_n hx hb dX12_judges_48 rfl (lv_at hl 0 rfl) ?_
    refine va_iald hx hb hK hP 1 0 rfl rfl (gi_in gx_111 (by decide)) dX12_judges_49 ?_
    refine lv_topi (fun x_112 ex_112 => ?_)
    refine lv_istore_n (lv' := [(3, .int x_112), (2, .int x_111), (0, .ref h0), (1, .int p1)]) hx hb dX12_judges_50 rfl hl (by decide) rfl (fun ls hl => ?_)
    refine lv_aload_n hx hb dX12_judges_51 rfl (lv_at hl 2 rfl) ?_
    refine va_get (D := (dC, dI)) (ci := 12) (v := .ref (mr 15)) (C := RX12) (T := TX12) (N := 57) hx hb hts (fun w h => List.mem_cons_of_mem _ (jnGB_X12 w h)) hown hK hP 0 rfl rfl 35 (by decide) (hts _ (List.mem_cons_of_mem _ mGB_27)) (fun _ h9 => h9) rfl dX12_judges_52 ?_
    refine lv_iload_n hx hb dX12_judges_55 rfl (lv_at hl 1 rfl) ?_
    refine va_iald hx hb hK hP 2 1 rfl rfl (gi_in gx_111 (by decide)) dX12_judges_56 ?_
    refine lv_topi (fun x_113 ex_113 => ?_)
    refine lv_istore (lv' := [(4, .int x_113), (3, .int x_112), (2, .int x_111), (0, .ref h0), (1, .int p1)]) hx hb dX12_judges_57 hl (by decide) rfl (fun ls hl => ?_)
    refine lv_aload_n hx hb dX12_judges_59 rfl (lv_at hl 3 rfl) ?_
    refine lv_iload_n hx hb dX12_judges_60 rfl (lv_at hl 4 rfl) ?_
    have hPc := hP.sub (ws' := [(h0, .inr (12, fsMM mi mr)), ((mr 5), .inl (km_reportMonth, 24, .inl fm_reportMonth)), ((mr 6), .inl (km_reportDay, 24, .inl fm_reportDay)), ((mr 3), .inl (km_reportKind, 24, .inl fm_reportKind)), ((mr 14), .inl (km_must, 25, .inl fm_must)), ((mr 15), .inl (km_least, 25, .inl fm_least))]) [0, 5, 6, 7, 1, 2] rfl
    have hKc := hK.sub (tys' := [(km_reportMonth, .int), (km_reportDay, .int), (km_reportKind, .int), (km_must, .int), (km_least, .int)]) [4, 5, 6, 0, 1] rfl
    have hDc := hD.sub (ws' := [(h0, .inr (12, fsMM mi mr)), ((mr 5), .inl (km_reportMonth, 24, .inl fm_reportMonth)), ((mr 6), .inl (km_reportDay, 24, .inl fm_reportDay)), ((mr 3), .inl (km_reportKind, 24, .inl fm_reportKind)), ((mr 14), .inl (km_must, 25, .inl fm_must)), ((mr 15), .inl (km_least, 25, .inl fm_least))]) [0, 5, 6, 7, 1, 2] (by decide) rfl
    have hFc := va_free (wc := [(h0, .inr (12, fsMM mi mr)), ((mr 5), .inl (km_reportMonth, 24, .inl fm_reportMonth)), ((mr 6), .inl (km_reportDay, 24, .inl fm_reportDay)), ((mr 3), .inl (km_reportKind, 24, .inl fm_reportKind)), ((mr 14), .inl (km_must, 25, .inl fm_must)), ((mr 15), .inl (km_least, 25, .inl fm_least))]) hD hS hA [0, 5, 6, 7, 1, 2] rfl
    refine va_callv (va_runV (As := [.int p1]) (rest := []) ⟨hx, hb, hml, hown, hts⟩ (sX12_holds l dC dI s.heap.size h0 mi mr km_reportMonth fm_reportMonth km_reportDay fm_reportDay km_reportKind fm_reportKind km_must fm_must km_least fm_least p1 gmi_0 gmi_1 gmi_2 (gi_w g_110 (by decide)) gmi_7 gmi_10 gmi_17 gmi_23 gmi_24 gmi_26 gmi_29 gmi_30 gmi_33 gmi_37 gmi_41 gmi_50 gmi_51 gmi_56 gfm_reportMonth gfm_reportDay gp1) (cwV 1 hts (gz_gV mGB_295 mGB_296 mGB_297 mGB_1 mGB_298 goodGB) rfl rfl rfl (by decide +kernel) ⟨Nat.le_of_ble_eq_true rfl, Nat.le_of_ble_eq_true rfl⟩) ⟨fun a U g mk q => by obtain ⟨q0, q1, qP, qK, qD⟩ := q; exact ⟨q0, q1, qP, va_K.moved (u := U) (U := U.calling g mk a) (Vm.Alike.refl U.vm) qK, qD⟩, va_recv hKc hPc (ci := 12) (q0 := 0) rfl rfl, fun U hU hW => ⟨rfl, by rw [hU], by rw [hU]; exact hPc, va_K.moved hW.alike hKc, hDc.weaken (fun _ _ _ _ => trivial)⟩⟩ rfl rfl hl.1 rfl (lv_room (Nat.le_of_ble_eq_true rfl)) dX12_judges_61 ⟨Nat.zero_le _, Nat.zero_le _⟩) hS (fun q _ h => hFc q h) hFc (fun u t H1 locs ht hvm hw hB hz1 hk1 hS => ?_)
    obtain ⟨y_115, f_116, f_117, gy_115, hP1, hD1⟩ := hB
    rw [ht] at hP1
    obtain ⟨hP, hD⟩ := va_join (wr := [((mr 16), .inl (km_pin, 25, .inl fm_pin)), ((mr 17), .inl (km_ways, 6875, .inl fm_ways))]) (w1 := [(h0, .inr (12, fsMM (upd mi 37 y_115) mr)), ((mr 5), .inl (km_reportMonth, 24, .inl fm_reportMonth)), ((mr 6), .inl (km_reportDay, 24, .inl fm_reportDay)), ((mr 3), .inl (km_reportKind, 24, .inl fm_reportKind)), ((mr 14), .inl (km_must, 25, .inl f_116)), ((mr 15), .inl (km_least, 25, .inl f_117))]) hP hD [0, 5, 6, 7, 1, 2] [3, 4] rfl rfl (by decide) (by decide) hk1 hFc hP1 hD1
    have hP := hP.sub (ws' := [(h0, .inr (12, fsMM (upd mi 37 y_115) mr)), ((mr 14), .inl (km_must, 25, .inl f_116)), ((mr 15), .inl (km_least, 25, .inl f_117)), ((mr 16), .inl (km_pin, 25, .inl fm_pin)), ((mr 17), .inl (km_ways, 6875, .inl fm_ways)), ((mr 5), .inl (km_reportMonth, 24, .inl fm_reportMonth)), ((mr 6), .inl (km_reportDay, 24, .inl fm_reportDay)), ((mr 3), .inl (km_reportKind, 24, .inl fm_reportKind))]) [2, 6, 7, 0, 1, 3, 4, 5] rfl
    have hD := hD.sub (ws' := [(h0, .inr (12, fsMM (upd mi 37 y_115) mr)), ((mr 14), .inl (km_must, 25, .inl f_116)), ((mr 15), .inl (km_least, 25, .inl f_117)), ((mr 16), .inl (km_pin, 25, .inl fm_pin)), ((mr 17), .inl (km_ways, 6875, .inl fm_ways)), ((mr 5), .inl (km_reportMonth, 24, .inl fm_reportMonth)), ((mr 6), .inl (km_reportDay, 24, .inl fm_reportDay)), ((mr 3), .inl (km_reportKind, 24, .inl fm_reportKind))]) [2, 6, 7, 0, 1, 3, 4, 5] (by decide) rfl
    generalize H1 = H at hP hS ⊢
    refine lv_aload_n hx hb dX12_judges_64 rfl (lv_at hl 3 rfl) ?_
    have hPc := hP.sub (ws' := [(h0, .inr (12, fsMM (upd mi 37 y_115) mr)), ((mr 14), .inl (km_must, 25, .inl f_116)), ((mr 15), .inl (km_least, 25, .inl f_117)), ((mr 16), .inl (km_pin, 25, .inl fm_pin)), ((mr 17), .inl (km_ways, 6875, .inl fm_ways))]) [0, 1, 2, 3, 4] rfl
    have hKc := hK.sub (tys' := [(km_must, .int), (km_least, .int), (km_pin, .int), (km_ways, .int)]) [0, 1, 2, 3] rfl
    have hDc := hD.sub (ws' := [(h0, .inr (12, fsMM (upd mi 37 y_115) mr)), ((mr 14), .inl (km_must, 25, .inl f_116)), ((mr 15), .inl (km_least, 25, .inl f_117)), ((mr 16), .inl (km_pin, 25, .inl fm_pin)), ((mr 17), .inl (km_ways, 6875, .inl fm_ways))]) [0, 1, 2, 3, 4] (by decide) rfl
    have hFc := va_free (wc := [(h0, .inr (12, fsMM (upd mi 37 y_115) mr)), ((mr 14), .inl (km_must, 25, .inl f_116)), ((mr 15), .inl (km_least, 25, .inl f_117)), ((mr 16), .inl (km_pin, 25, .inl fm_pin)), ((mr 17), .inl (km_ways, 6875, .inl fm_ways))]) hD hS hA [0, 1, 2, 3, 4] rfl
    refine va_calli (va_runV (As := []) (rest := []) ⟨hx, hb, hml, hown, hts⟩ (sX12_counts l dC dI H.size h0 (upd mi 37 y_115) mr km_must f_116 km_least f_117 km_pin fm_pin km_ways fm_ways gmi_0 gmi_1 gmi_2 (gi_w g_110 (by decide)) gmi_7 gmi_10 gmi_17 gmi_23 gmi_24 gmi_26 gmi_29 gmi_30 gmi_33 gy_115 gmi_41 gmi_50 gmi_51 gmi_56) (cwV 0 hts (gz_gV mGB_299 mGB_300 mGB_301 mGB_1 mGB_302 goodGB) rfl rfl rfl (by decide +kernel) ⟨Nat.le_of_ble_eq_true rfl, Nat.le_of_ble_eq_true rfl⟩) ⟨fun a U g mk q => by obtain ⟨q0, q1, qP, qK, qD⟩ := q; exact ⟨q0, q1, qP, va_K.moved (u := U) (U := U.calling g mk a) (Vm.Alike.refl U.vm) qK, qD⟩, va_recv hKc hPc (ci := 12) (q0 := 0) rfl rfl, fun U hU hW => ⟨rfl, by rw [hU], by rw [hU]; exact hPc, va_K.moved hW.alike hKc, hDc.weaken (fun _ _ _ _ => trivial)⟩⟩ rfl rfl hl.1 rfl (lv_room (Nat.le_of_ble_eq_true rfl)) dX12_judges_65 ⟨Nat.zero_le _, Nat.zero_le _⟩) hS (fun q _ h => hFc q h) hFc (fun r_118 u t H1 locs ht hvm hw hB hz1 hk1 hS => ?_)
    obtain ⟨f_119, hP1, hD1⟩ := hB
    rw [ht] at hP1
    obtain ⟨hP, hD⟩ := va_join (wr := [((mr 5), .inl (km_reportMonth, 24, .inl fm_reportMonth)), ((mr 6), .inl (km_reportDay, 24, .inl fm_reportDay)), ((mr 3), .inl (km_reportKind, 24, .inl fm_reportKind))]) (w1 := [(h0, .inr (12, fsMM (upd mi 37 y_115) mr)), ((mr 14), .inl (km_must, 25, .inl f_116)), ((mr 15), .inl (km_least, 25, .inl f_117)), ((mr 16), .inl (km_pin, 25, .inl fm_pin)), ((mr 17), .inl (km_ways, 6875, .inl f_119))]) hP hD [0, 1, 2, 3, 4] [5, 6, 7] rfl rfl (by decide) (by decide) hk1 hFc hP1 hD1
    have hP := hP.sub (ws' := [(h0, .inr (12, fsMM (upd mi 37 y_115) mr)), ((mr 14), .inl (km_must, 25, .inl f_116)), ((mr 15), .inl (km_least, 25, .inl f_117)), ((mr 16), .inl (km_pin, 25, .inl fm_pin)), ((mr 17), .inl (km_ways, 6875, .inl f_119)), ((mr 5), .inl (km_reportMonth, 24, .inl fm_reportMonth)), ((mr 6), .inl (km_reportDay, 24, .inl fm_reportDay)), ((mr 3), .inl (km_reportKind, 24, .inl fm_reportKind))]) [3, 4, 5, 6, 7, 0, 1, 2] rfl
    have hD := hD.sub (ws' := [(h0, .inr (12, fsMM (upd mi 37 y_115) mr)), ((mr 14), .inl (km_must, 25, .inl f_116)), ((mr 15), .inl (km_least, 25, .inl f_117)), ((mr 16), .inl (km_pin, 25, .inl fm_pin)), ((mr 17), .inl (km_ways, 6875, .inl f_119)), ((mr 5), .inl (km_reportMonth, 24, .inl fm_reportMonth)), ((mr 6), .inl (km_reportDay, 24, .inl fm_reportDay)), ((mr 3), .inl (km_reportKind, 24, .inl fm_reportKind))]) [3, 4, 5, 6, 7, 0, 1, 2] (by decide) rfl
    generalize H1 = H at hP hS ⊢
    refine lv_if_le (tgt := 73) hx hb dX12_judges_68 (by decide) (fun c_120 => ?_) (fun c_120 => ?_)
    · have g_121 : gi r_118 (-2147483648) 0 := gi_le_l c_120 (gi_any r_118) (gi_c 0 0 (by decide))
      refine lv_aload_n hx hb dX12_judges_73 rfl (lv_at hl 3 rfl) ?_
      refine va_get (D := (dC, dI)) (ci := 12) (v := .ref (mr 14)) (C := RX12) (T := TX12) (N := 57) hx hb hts (fun w h => List.mem_cons_of_mem _ (jnGB_X12 w h)) hown hK hP 0 rfl rfl 34 (by decide) (hts _ (List.mem_cons_of_mem _ mGB_26)) (fun _ h9 => h9) rfl dX12_judges_74 ?_
      refine lv_iload_n hx hb dX12_judges_77 rfl (lv_at hl 2 rfl) ?_
      refine lv_iload_n hx hb dX12_judges_78 rfl (lv_at hl 1 rfl) ?_
      refine va_iast hx hb hK hP hD hS 1 0 rfl rfl (gi_in gx_111 (by decide)) dX12_judges_79 (fun H locs hP hD hS => ?_)
      have hP : va_P (dC, dI) vwCl [(h0, .inr (12, fsMM (upd mi 37 y_115) mr)), ((mr 14), .inl (km_must, 25, .inl (upd f_116 (x_111 : Int32).toNatClampNeg x_112))), ((mr 15), .inl (km_least, 25, .inl f_117)), ((mr 16), .inl (km_pin, 25, .inl fm_pin)), ((mr 17), .inl (km_ways, 6875, .inl f_119)), ((mr 5), .inl (km_reportMonth, 24, .inl fm_reportMonth)), ((mr 6), .inl (km_reportDay, 24, .inl fm_reportDay)), ((mr 3), .inl (km_reportKind, 24, .inl fm_reportKind))] H := hP
      have hD : va_D A [(h0, .inr (12, fsMM (upd mi 37 y_115) mr)), ((mr 14), .inl (km_must, 25, .inl (upd f_116 (x_111 : Int32).toNatClampNeg x_112))), ((mr 15), .inl (km_least, 25, .inl f_117)), ((mr 16), .inl (km_pin, 25, .inl fm_pin)), ((mr 17), .inl (km_ways, 6875, .inl f_119)), ((mr 5), .inl (km_reportMonth, 24, .inl fm_reportMonth)), ((mr 6), .inl (km_reportDay, 24, .inl fm_reportDay)), ((mr 3), .inl (km_reportKind, 24, .inl fm_reportKind))] := hD
      generalize upd f_116 (x_111 : Int32).toNatClampNeg x_112 = f_122 at hP hD
      refine lv_aload_n hx hb dX12_judges_80 rfl (lv_at hl 3 rfl) ?_
      refine va_get (D := (dC, dI)) (ci := 12) (v := .ref (mr 15)) (C := RX12) (T := TX12) (N := 57) hx hb hts (fun w h => List.mem_cons_of_mem _ (jnGB_X12 w h)) hown hK hP 0 rfl rfl 35 (by decide) (hts _ (List.mem_cons_of_mem _ mGB_27)) (fun _ h9 => h9) rfl dX12_judges_81 ?_
      refine lv_iload_n hx hb dX12_judges_84 rfl (lv_at hl 2 rfl) ?_
      refine lv_iload hx hb dX12_judges_85 (lv_at hl 0 rfl) ?_
      refine va_iast hx hb hK hP hD hS 2 1 rfl rfl (gi_in gx_111 (by decide)) dX12_judges_87 (fun H locs hP hD hS => ?_)
      have hP : va_P (dC, dI) vwCl [(h0, .inr (12, fsMM (upd mi 37 y_115) mr)), ((mr 14), .inl (km_must, 25, .inl f_122)), ((mr 15), .inl (km_least, 25, .inl (upd f_117 (x_111 : Int32).toNatClampNeg x_113))), ((mr 16), .inl (km_pin, 25, .inl fm_pin)), ((mr 17), .inl (km_ways, 6875, .inl f_119)), ((mr 5), .inl (km_reportMonth, 24, .inl fm_reportMonth)), ((mr 6), .inl (km_reportDay, 24, .inl fm_reportDay)), ((mr 3), .inl (km_reportKind, 24, .inl fm_reportKind))] H := hP
      have hD : va_D A [(h0, .inr (12, fsMM (upd mi 37 y_115) mr)), ((mr 14), .inl (km_must, 25, .inl f_122)), ((mr 15), .inl (km_least, 25, .inl (upd f_117 (x_111 : Int32).toNatClampNeg x_113))), ((mr 16), .inl (km_pin, 25, .inl fm_pin)), ((mr 17), .inl (km_ways, 6875, .inl f_119)), ((mr 5), .inl (km_reportMonth, 24, .inl fm_reportMonth)), ((mr 6), .inl (km_reportDay, 24, .inl fm_reportDay)), ((mr 3), .inl (km_reportKind, 24, .inl fm_reportKind))] := hD
      generalize upd f_117 (x_111 : Int32).toNatClampNeg x_113 = f_123 at hP hD
      refine lv_aload_n hx hb dX12_judges_88 rfl (lv_at hl 3 rfl) ?_
      refine lv_iconst (v := 0) hx hb dX12_judges_89 (by decide) ?_
      refine va_put (D := (dC, dI)) (ci := 12) (v := .int 0) (ty := .boolean) (C := RX12) (T := TX12) (N := 57) hx hb hts (fun w h => List.mem_cons_of_mem _ (jnGB_X12 w h)) tyX12 tyX12_ok nmX12 hown hK hP hD hS 0 rfl rfl 37 (by decide) (hts _ (List.mem_cons_of_mem _ mGB_270)) (fun _ h9 => h9) rfl (by decide +kernel) rfl rfl (Nat.le_of_ble_eq_true rfl) dX12_judges_90 (fun H locs hP hD hS => ?_)
      have hP : va_P (dC, dI) vwCl [(h0, .inr (12, fsMM (upd mi 37 0) mr)), ((mr 14), .inl (km_must, 25, .inl f_122)), ((mr 15), .inl (km_least, 25, .inl f_123)), ((mr 16), .inl (km_pin, 25, .inl fm_pin)), ((mr 17), .inl (km_ways, 6875, .inl f_119)), ((mr 5), .inl (km_reportMonth, 24, .inl fm_reportMonth)), ((mr 6), .inl (km_reportDay, 24, .inl fm_reportDay)), ((mr 3), .inl (km_reportKind, 24, .inl fm_reportKind))] H := hP
      have hD : va_D A [(h0, .inr (12, fsMM (upd mi 37 0) mr)), ((mr 14), .inl (km_must, 25, .inl f_122)), ((mr 15), .inl (km_least, 25, .inl f_123)), ((mr 16), .inl (km_pin, 25, .inl fm_pin)), ((mr 17), .inl (km_ways, 6875, .inl f_119)), ((mr 5), .inl (km_reportMonth, 24, .inl fm_reportMonth)), ((mr 6), .inl (km_reportDay, 24, .inl fm_reportDay)), ((mr 3), .inl (km_reportKind, 24, .inl fm_reportKind))] := hD
      refine lv_iconst (v := 2) hx hb dX12_judges_93 (by decide) ?_
      exact W.iret (v := 2) hx hb hr (fun t ht hW => ⟨⟨2, (), rfl, (gi_w (gi_c 2 2 (by decide)) (by decide)), 0, f_122, f_123, f_119, (gi_w (gi_c 0 0 (by decide)) (by decide)), by rw [ht]; exact hP, hD⟩, hS.F ht⟩) hS.2.2 dX12_judges_94
    · have g_124 : gi r_118 1 2147483647 := gi_lt_r (Int32.not_le.mp c_120) (gi_c 0 0 (by decide)) (gi_any r_118) (by decide)
      refine lv_iconst (v := 0) hx hb dX12_judges_71 (by decide) ?_
      exact W.iret (v := 0) hx hb hr (fun t ht hW => ⟨⟨0, (), rfl, (gi_w (gi_c 0 0 (by decide)) (by decide)), y_115, f_116, f_117, f_119, gy_115, by rw [ht]; exact hP, hD⟩, hS.F ht⟩) hS.2.2 dX12_judges_72
  · have g_125 : gi (mi 4) 1 1 := gi_ne_lo c_109 gmi_4 (gi_c 0 0 (by decide)) (by decide)
    refine lv_aload_n hx hb dX12_judges_7 rfl (lv_at hl 0 rfl) ?_
    refine va_get (D := (dC, dI)) (ci := 12) (v := .ref (mr 3)) (C := RX12) (T := TX12) (N := 57) hx hb hts (fun w h => List.mem_cons_of_mem _ (jnGB_X12 w h)) hown hK hP 0 rfl rfl 12 (by decide) (hts _ (List.mem_cons_of_mem _ mGB_13)) (fun _ h9 => h9) rfl dX12_judges_8 ?_
    refine lv_iload_n hx hb dX12_judges_11 rfl (lv_at hl 1 rfl) ?_
    refine va_iald hx hb hK hP 7 6 rfl rfl (gi_in gp1 (by decide)) dX12_judges_12 ?_
    refine lv_topi (fun x_126 ex_126 => ?_)
    refine lv_if_ne (tgt := 37) hx hb dX12_judges_13 (by decide) (fun c_127 => ?_) (fun c_127 => ?_)
    · refine lv_aload_n hx hb dX12_judges_37 rfl (lv_at hl 0 rfl) ?_
      refine va_get (D := (dC, dI)) (ci := 12) (v := .ref (mr 5)) (C := RX12) (T := TX12) (N := 57) hx hb hts (fun w h => List.mem_cons_of_mem _ (jnGB_X12 w h)) hown hK hP 0 rfl rfl 14 (by decide) (hts _ (List.mem_cons_of_mem _ mGB_16)) (fun _ h9 => h9) rfl dX12_judges_38 ?_
      refine lv_iload_n hx hb dX12_judges_41 rfl (lv_at hl 1 rfl) ?_
      refine va_iald hx hb hK hP 5 4 rfl rfl (gi_in gp1 (by decide)) dX12_judges_42 ?_
      refine lv_topi (fun x_128 ex_128 => ?_)
      have gx_128 : gi x_128 0 23 := ga_at gfm_reportMonth (gi_in gp1 (by decide)) ex_128
      refine lv_istore_n (lv' := [(2, .int x_128), (0, .ref h0), (1, .int p1)]) hx hb dX12_judges_43 rfl hl (by decide) rfl (fun ls hl => ?_)
      refine lv_aload_n hx hb dX12_judges_44 rfl (lv_at hl 1 rfl) ?_
      refine va_get (D := (dC, dI)) (ci := 12) (v := .ref (mr 14)) (C := RX12) (T := TX12) (N := 57) hx hb hts (fun w h => List.mem_cons_of_mem _ (jnGB_X12 w h)) hown hK hP 0 rfl rfl 34 (by decide) (hts _ (List.mem_cons_of_mem _ mGB_26)) (fun _ h9 => h9) rfl dX12_judges_45 ?_
      refine lv_iload_n hx hb dX12_judges_48 rfl (lv_at hl 0 rfl) ?_
      refine va_iald hx hb hK hP 1 0 rfl rfl (gi_in gx_128 (by decide)) dX12_judges_49 ?_
      refine lv_topi (fun x_129 ex_129 => ?_)
      refine lv_istore_n (lv' := [(3, .int x_129), (2, .int x_128), (0, .ref h0), (1, .int p1)]) hx hb dX12_judges_50 rfl hl (by decide) rfl (fun ls hl => ?_)
      refine lv_aload_n hx hb dX12_judges_51 rfl (lv_at hl 2 rfl) ?_
      refine va_get (D := (dC, dI)) (ci := 12) (v := .ref (mr 15)) (C := RX12) (T := TX12) (N := 57) hx hb hts (fun w h => List.mem_cons_of_mem _ (jnGB_X12 w h)) hown hK hP 0 rfl rfl 35 (by decide) (hts _ (List.mem_cons_of_mem _ mGB_27)) (fun _ h9 => h9) rfl dX12_judges_52 ?_
      refine lv_iload_n hx hb dX12_judges_55 rfl (lv_at hl 1 rfl) ?_
      refine va_iald hx hb hK hP 2 1 rfl rfl (gi_in gx_128 (by decide)) dX12_judges_56 ?_
      refine lv_topi (fun x_130 ex_130 => ?_)
      refine lv_istore (lv' := [(4, .int x_130), (3, .int x_129), (2, .int x_128), (0, .ref h0), (1, .int p1)]) hx hb dX12_judges_57 hl (by decide) rfl (fun ls hl => ?_)
      refine lv_aload_n hx hb dX12_judges_59 rfl (lv_at hl 3 rfl) ?_
      refine lv_iload_n hx hb dX12_judges_60 rfl (lv_at hl 4 rfl) ?_
      have hPc := hP.sub (ws' := [(h0, .inr (12, fsMM mi mr)), ((mr 5), .inl (km_reportMonth, 24, .inl fm_reportMonth)), ((mr 6), .inl (km_reportDay, 24, .inl fm_reportDay)), ((mr 3), .inl (km_reportKind, 24, .inl fm_reportKind)), ((mr 14), .inl (km_must, 25, .inl fm_must)), ((mr 15), .inl (km_least, 25, .inl fm_least))]) [0, 5, 6, 7, 1, 2] rfl
      have hKc := hK.sub (tys' := [(km_reportMonth, .int), (km_reportDay, .int), (km_reportKind, .int), (km_must, .int), (km_least, .int)]) [4, 5, 6, 0, 1] rfl
      have hDc := hD.sub (ws' := [(h0, .inr (12, fsMM mi mr)), ((mr 5), .inl (km_reportMonth, 24, .inl fm_reportMonth)), ((mr 6), .inl (km_reportDay, 24, .inl fm_reportDay)), ((mr 3), .inl (km_reportKind, 24, .inl fm_reportKind)), ((mr 14), .inl (km_must, 25, .inl fm_must)), ((mr 15), .inl (km_least, 25, .inl fm_least))]) [0, 5, 6, 7, 1, 2] (by decide) rfl
      have hFc := va_free (wc := [(h0, .inr (12, fsMM mi mr)), ((mr 5), .inl (km_reportMonth, 24, .inl fm_reportMonth)), ((mr 6), .inl (km_reportDay, 24, .inl fm_reportDay)), ((mr 3), .inl (km_reportKind, 24, .inl fm_reportKind)), ((mr 14), .inl (km_must, 25, .inl fm_must)), ((mr 15), .inl (km_least, 25, .inl fm_least))]) hD hS hA [0, 5, 6, 7, 1, 2] rfl
      refine va_callv (va_runV (As := [.int p1]) (rest := []) ⟨hx, hb, hml, hown, hts⟩ (sX12_holds l dC dI s.heap.size h0 mi mr km_reportMonth fm_reportMonth km_reportDay fm_reportDay km_reportKind fm_reportKind km_must fm_must km_least fm_least p1 gmi_0 gmi_1 gmi_2 (gi_w g_125 (by decide)) gmi_7 gmi_10 gmi_17 gmi_23 gmi_24 gmi_26 gmi_29 gmi_30 gmi_33 gmi_37 gmi_41 gmi_50 gmi_51 gmi_56 gfm_reportMonth gfm_reportDay gp1) (cwV 1 hts (gz_gV mGB_295 mGB_296 mGB_297 mGB_1 mGB_298 goodGB) rfl rfl rfl (by decide +kernel) ⟨Nat.le_of_ble_eq_true rfl, Nat.le_of_ble_eq_true rfl⟩) ⟨fun a U g mk q => by obtain ⟨q0, q1, qP, qK, qD⟩ := q; exact ⟨q0, q1, qP, va_K.moved (u := U) (U := U.calling g mk a) (Vm.Alike.refl U.vm) qK, qD⟩, va_recv hKc hPc (ci := 12) (q0 := 0) rfl rfl, fun U hU hW => ⟨rfl, by rw [hU], by rw [hU]; exact hPc, va_K.moved hW.alike hKc, hDc.weaken (fun _ _ _ _ => trivial)⟩⟩ rfl rfl hl.1 rfl (lv_room (Nat.le_of_ble_eq_true rfl)) dX12_judges_61 ⟨Nat.zero_le _, Nat.zero_le _⟩) hS (fun q _ h => hFc q h) hFc (fun u t H1 locs ht hvm hw hB hz1 hk1 hS => ?_)
      obtain ⟨y_132, f_133, f_134, gy_132, hP1, hD1⟩ := hB
      rw [ht] at hP1
      obtain ⟨hP, hD⟩ := va_join (wr := [((mr 16), .inl (km_pin, 25, .inl fm_pin)), ((mr 17), .inl (km_ways, 6875, .inl fm_ways))]) (w1 := [(h0, .inr (12, fsMM (upd mi 37 y_132) mr)), ((mr 5), .inl (km_reportMonth, 24, .inl fm_reportMonth)), ((mr 6), .inl (km_reportDay, 24, .inl fm_reportDay)), ((mr 3), .inl (km_reportKind, 24, .inl fm_reportKind)), ((mr 14), .inl (km_must, 25, .inl f_133)), ((mr 15), .inl (km_least, 25, .inl f_134))]) hP hD [0, 5, 6, 7, 1, 2] [3, 4] rfl rfl (by decide) (by decide) hk1 hFc hP1 hD1
      have hP := hP.sub (ws' := [(h0, .inr (12, fsMM (upd mi 37 y_132) mr)), ((mr 14), .inl (km_must, 25, .inl f_133)), ((mr 15), .inl (km_least, 25, .inl f_134)), ((mr 16), .inl (km_pin, 25, .inl fm_pin)), ((mr 17), .inl (km_ways, 6875, .inl fm_ways)), ((mr 5), .inl (km_reportMonth, 24, .inl fm_reportMonth)), ((mr 6), .inl (km_reportDay, 24, .inl fm_reportDay)), ((mr 3), .inl (km_reportKind, 24, .inl fm_reportKind))]) [2, 6, 7, 0, 1, 3, 4, 5] rfl
      have hD := hD.sub (ws' := [(h0, .inr (12, fsMM (upd mi 37 y_132) mr)), ((mr 14), .inl (km_must, 25, .inl f_133)), ((mr 15), .inl (km_least, 25, .inl f_134)), ((mr 16), .inl (km_pin, 25, .inl fm_pin)), ((mr 17), .inl (km_ways, 6875, .inl fm_ways)), ((mr 5), .inl (km_reportMonth, 24, .inl fm_reportMonth)), ((mr 6), .inl (km_reportDay, 24, .inl fm_reportDay)), ((mr 3), .inl (km_reportKind, 24, .inl fm_reportKind))]) [2, 6, 7, 0, 1, 3, 4, 5] (by decide) rfl
      generalize H1 = H at hP hS ⊢
      refine lv_aload_n hx hb dX12_judges_64 rfl (lv_at hl 3 rfl) ?_
      have hPc := hP.sub (ws' := [(h0, .inr (12, fsMM (upd mi 37 y_132) mr)), ((mr 14), .inl (km_must, 25, .inl f_133)), ((mr 15), .inl (km_least, 25, .inl f_134)), ((mr 16), .inl (km_pin, 25, .inl fm_pin)), ((mr 17), .inl (km_ways, 6875, .inl fm_ways))]) [0, 1, 2, 3, 4] rfl
      have hKc := hK.sub (tys' := [(km_must, .int), (km_least, .int), (km_pin, .int), (km_ways, .int)]) [0, 1, 2, 3] rfl
      have hDc := hD.sub (ws' := [(h0, .inr (12, fsMM (upd mi 37 y_132) mr)), ((mr 14), .inl (km_must, 25, .inl f_133)), ((mr 15), .inl (km_least, 25, .inl f_134)), ((mr 16), .inl (km_pin, 25, .inl fm_pin)), ((mr 17), .inl (km_ways, 6875, .inl fm_ways))]) [0, 1, 2, 3, 4] (by decide) rfl
      have hFc := va_free (wc := [(h0, .inr (12, fsMM (upd mi 37 y_132) mr)), ((mr 14), .inl (km_must, 25, .inl f_133)), ((mr 15), .inl (km_least, 25, .inl f_134)), ((mr 16), .inl (km_pin, 25, .inl fm_pin)), ((mr 17), .inl (km_ways, 6875, .inl fm_ways))]) hD hS hA [0, 1, 2, 3, 4] rfl
      refine va_calli (va_runV (As := []) (rest := []) ⟨hx, hb, hml, hown, hts⟩ (sX12_counts l dC dI H.size h0 (upd mi 37 y_132) mr km_must f_133 km_least f_134 km_pin fm_pin km_ways fm_ways gmi_0 gmi_1 gmi_2 (gi_w g_125 (by decide)) gmi_7 gmi_10 gmi_17 gmi_23 gmi_24 gmi_26 gmi_29 gmi_30 gmi_33 gy_132 gmi_41 gmi_50 gmi_51 gmi_56) (cwV 0 hts (gz_gV mGB_299 mGB_300 mGB_301 mGB_1 mGB_302 goodGB) rfl rfl rfl (by decide +kernel) ⟨Nat.le_of_ble_eq_true rfl, Nat.le_of_ble_eq_true rfl⟩) ⟨fun a U g mk q => by obtain ⟨q0, q1, qP, qK, qD⟩ := q; exact ⟨q0, q1, qP, va_K.moved (u := U) (U := U.calling g mk a) (Vm.Alike.refl U.vm) qK, qD⟩, va_recv hKc hPc (ci := 12) (q0 := 0) rfl rfl, fun U hU hW => ⟨rfl, by rw [hU], by rw [hU]; exact hPc, va_K.moved hW.alike hKc, hDc.weaken (fun _ _ _ _ => trivial)⟩⟩ rfl rfl hl.1 rfl (lv_room (Nat.le_of_ble_eq_true rfl)) dX12_judges_65 ⟨Nat.zero_le _, Nat.zero_le _⟩) hS (fun q _ h => hFc q h) hFc (fun r_135 u t H1 locs ht hvm hw hB hz1 hk1 hS => ?_)
      obtain ⟨f_136, hP1, hD1⟩ := hB
      rw [ht] at hP1
      obtain ⟨hP, hD⟩ := va_join (wr := [((mr 5), .inl (km_reportMonth, 24, .inl fm_reportMonth)), ((mr 6), .inl (km_reportDay, 24, .inl fm_reportDay)), ((mr 3), .inl (km_reportKind, 24, .inl fm_reportKind))]) (w1 := [(h0, .inr (12, fsMM (upd mi 37 y_132) mr)), ((mr 14), .inl (km_must, 25, .inl f_133)), ((mr 15), .inl (km_least, 25, .inl f_134)), ((mr 16), .inl (km_pin, 25, .inl fm_pin)), ((mr 17), .inl (km_ways, 6875, .inl f_136))]) hP hD [0, 1, 2, 3, 4] [5, 6, 7] rfl rfl (by decide) (by decide) hk1 hFc hP1 hD1
      have hP := hP.sub (ws' := [(h0, .inr (12, fsMM (upd mi 37 y_132) mr)), ((mr 14), .inl (km_must, 25, .inl f_133)), ((mr 15), .inl (km_least, 25, .inl f_134)), ((mr 16), .inl (km_pin, 25, .inl fm_pin)), ((mr 17), .inl (km_ways, 6875, .inl f_136)), ((mr 5), .inl (km_reportMonth, 24, .inl fm_reportMonth)), ((mr 6), .inl (km_reportDay, 24, .inl fm_reportDay)), ((mr 3), .inl (km_reportKind, 24, .inl fm_reportKind))]) [3, 4, 5, 6, 7, 0, 1, 2] rfl
      have hD := hD.sub (ws' := [(h0, .inr (12, fsMM (upd mi 37 y_132) mr)), ((mr 14), .inl (km_must, 25, .inl f_133)), ((mr 15), .inl (km_least, 25, .inl f_134)), ((mr 16), .inl (km_pin, 25, .inl fm_pin)), ((mr 17), .inl (km_ways, 6875, .inl f_136)), ((mr 5), .inl (km_reportMonth, 24, .inl fm_reportMonth)), ((mr 6), .inl (km_reportDay, 24, .inl fm_reportDay)), ((mr 3), .inl (km_reportKind, 24, .inl fm_reportKind))]) [3, 4, 5, 6, 7, 0, 1, 2] (by decide) rfl
      generalize H1 = H at hP hS ⊢
      refine lv_if_le (tgt := 73) hx hb dX12_judges_68 (by decide) (fun c_137 => ?_) (fun c_137 => ?_)
      · have g_138 : gi r_135 (-2147483648) 0 := gi_le_l c_137 (gi_any r_135) (gi_c 0 0 (by decide))
        refine lv_aload_n hx hb dX12_judges_73 rfl (lv_at hl 3 rfl) ?_
        refine va_get (D := (dC, dI)) (ci := 12) (v := .ref (mr 14)) (C := RX12) (T := TX12) (N := 57) hx hb hts (fun w h => List.mem_cons_of_mem _ (jnGB_X12 w h)) hown hK hP 0 rfl rfl 34 (by decide) (hts _ (List.mem_cons_of_mem _ mGB_26)) (fun _ h9 => h9) rfl dX12_judges_74 ?_
        refine lv_iload_n hx hb dX12_judges_77 rfl (lv_at hl 2 rfl) ?_
        refine lv_iload_n hx hb dX12_judges_78 rfl (lv_at hl 1 rfl) ?_
        refine va_iast hx hb hK hP hD hS 1 0 rfl rfl (gi_in gx_128 (by decide)) dX12_judges_79 (fun H locs hP hD hS => ?_)
        have hP : va_P (dC, dI) vwCl [(h0, .inr (12, fsMM (upd mi 37 y_132) mr)), ((mr 14), .inl (km_must, 25, .inl (upd f_133 (x_128 : Int32).toNatClampNeg x_129))), ((mr 15), .inl (km_least, 25, .inl f_134)), ((mr 16), .inl (km_pin, 25, .inl fm_pin)), ((mr 17), .inl (km_ways, 6875, .inl f_136)), ((mr 5), .inl (km_reportMonth, 24, .inl fm_reportMonth)), ((mr 6), .inl (km_reportDay, 24, .inl fm_reportDay)), ((mr 3), .inl (km_reportKind, 24, .inl fm_reportKind))] H := hP
        have hD : va_D A [(h0, .inr (12, fsMM (upd mi 37 y_132) mr)), ((mr 14), .inl (km_must, 25, .inl (upd f_133 (x_128 : Int32).toNatClampNeg x_129))), ((mr 15), .inl (km_least, 25, .inl f_134)), ((mr 16), .inl (km_pin, 25, .inl fm_pin)), ((mr 17), .inl (km_ways, 6875, .inl f_136)), ((mr 5), .inl (km_reportMonth, 24, .inl fm_reportMonth)), ((mr 6), .inl (km_reportDay, 24, .inl fm_reportDay)), ((mr 3), .inl (km_reportKind, 24, .inl fm_reportKind))] := hD
        generalize upd f_133 (x_128 : Int32).toNatClampNeg x_129 = f_139 at hP hD
        refine lv_aload_n hx hb dX12_judges_80 rfl (lv_at hl 3 rfl) ?_
        refine va_get (D := (dC, dI)) (ci := 12) (v := .ref (mr 15)) (C := RX12) (T := TX12) (N := 57) hx hb hts (fun w h => List.mem_cons_of_mem _ (jnGB_X12 w h)) hown hK hP 0 rfl rfl 35 (by decide) (hts _ (List.mem_cons_of_mem _ mGB_27)) (fun _ h9 => h9) rfl dX12_judges_81 ?_
        refine lv_iload_n hx hb dX12_judges_84 rfl (lv_at hl 2 rfl) ?_
        refine lv_iload hx hb dX12_judges_85 (lv_at hl 0 rfl) ?_
        refine va_iast hx hb hK hP hD hS 2 1 rfl rfl (gi_in gx_128 (by decide)) dX12_judges_87 (fun H locs hP hD hS => ?_)
        have hP : va_P (dC, dI) vwCl [(h0, .inr (12, fsMM (upd mi 37 y_132) mr)), ((mr 14), .inl (km_must, 25, .inl f_139)), ((mr 15), .inl (km_least, 25, .inl (upd f_134 (x_128 : Int32).toNatClampNeg x_130))), ((mr 16), .inl (km_pin, 25, .inl fm_pin)), ((mr 17), .inl (km_ways, 6875, .inl f_136)), ((mr 5), .inl (km_reportMonth, 24, .inl fm_reportMonth)), ((mr 6), .inl (km_reportDay, 24, .inl fm_reportDay)), ((mr 3), .inl (km_reportKind, 24, .inl fm_reportKind))] H := hP
        have hD : va_D A [(h0, .inr (12, fsMM (upd mi 37 y_132) mr)), ((mr 14), .inl (km_must, 25, .inl f_139)), ((mr 15), .inl (km_least, 25, .inl (upd f_134 (x_128 : Int32).toNatClampNeg x_130))), ((mr 16), .inl (km_pin, 25, .inl fm_pin)), ((mr 17), .inl (km_ways, 6875, .inl f_136)), ((mr 5), .inl (km_reportMonth, 24, .inl fm_reportMonth)), ((mr 6), .inl (km_reportDay, 24, .inl fm_reportDay)), ((mr 3), .inl (km_reportKind, 24, .inl fm_reportKind))] := hD
        generalize upd f_134 (x_128 : Int32).toNatClampNeg x_130 = f_140 at hP hD
        refine lv_aload_n hx hb dX12_judges_88 rfl (lv_at hl 3 rfl) ?_
        refine lv_iconst (v := 0) hx hb dX12_judges_89 (by decide) ?_
        refine va_put (D := (dC, dI)) (ci := 12) (v := .int 0) (ty := .boolean) (C := RX12) (T := TX12) (N := 57) hx hb hts (fun w h => List.mem_cons_of_mem _ (jnGB_X12 w h)) tyX12 tyX12_ok nmX12 hown hK hP hD hS 0 rfl rfl 37 (by decide) (hts _ (List.mem_cons_of_mem _ mGB_270)) (fun _ h9 => h9) rfl (by decide +kernel) rfl rfl (Nat.le_of_ble_eq_true rfl) dX12_judges_90 (fun H locs hP hD hS => ?_)
        have hP : va_P (dC, dI) vwCl [(h0, .inr (12, fsMM (upd mi 37 0) mr)), ((mr 14), .inl (km_must, 25, .inl f_139)), ((mr 15), .inl (km_least, 25, .inl f_140)), ((mr 16), .inl (km_pin, 25, .inl fm_pin)), ((mr 17), .inl (km_ways, 6875, .inl f_136)), ((mr 5), .inl (km_reportMonth, 24, .inl fm_reportMonth)), ((mr 6), .inl (km_reportDay, 24, .inl fm_reportDay)), ((mr 3), .inl (km_reportKind, 24, .inl fm_reportKind))] H := hP
        have hD : va_D A [(h0, .inr (12, fsMM (upd mi 37 0) mr)), ((mr 14), .inl (km_must, 25, .inl f_139)), ((mr 15), .inl (km_least, 25, .inl f_140)), ((mr 16), .inl (km_pin, 25, .inl fm_pin)), ((mr 17), .inl (km_ways, 6875, .inl f_136)), ((mr 5), .inl (km_reportMonth, 24, .inl fm_reportMonth)), ((mr 6), .inl (km_reportDay, 24, .inl fm_reportDay)), ((mr 3), .inl (km_reportKind, 24, .inl fm_reportKind))] := hD
        refine lv_iconst (v := 2) hx hb dX12_judges_93 (by decide) ?_
        exact W.iret (v := 2) hx hb hr (fun t ht hW => ⟨⟨2, (), rfl, (gi_w (gi_c 2 2 (by decide)) (by decide)), 0, f_139, f_140, f_136, (gi_w (gi_c 0 0 (by decide)) (by decide)), by rw [ht]; exact hP, hD⟩, hS.F ht⟩) hS.2.2 dX12_judges_94
      · have g_141 : gi r_135 1 2147483647 := gi_lt_r (Int32.not_le.mp c_137) (gi_c 0 0 (by decide)) (gi_any r_135) (by decide)
        refine lv_iconst (v := 0) hx hb dX12_judges_71 (by decide) ?_
        exact W.iret (v := 0) hx hb hr (fun t ht hW => ⟨⟨0, (), rfl, (gi_w (gi_c 0 0 (by decide)) (by decide)), y_132, f_133, f_134, f_136, gy_132, by rw [ht]; exact hP, hD⟩, hS.F ht⟩) hS.2.2 dX12_judges_72
    · have g_142 : gi x_126 0 0 := gi_eq c_127 (gi_c 0 0 (by decide))
      refine lv_aload_n hx hb dX12_judges_16 rfl (lv_at hl 0 rfl) ?_
      refine va_get (D := (dC, dI)) (ci := 12) (v := .ref (mr 6)) (C := RX12) (T := TX12) (N := 57) hx hb hts (fun w h => List.mem_cons_of_mem _ (jnGB_X12 w h)) hown hK hP 0 rfl rfl 15 (by decide) (hts _ (List.mem_cons_of_mem _ mGB_17)) (fun _ h9 => h9) rfl dX12_judges_17 ?_
      refine lv_iload_n hx hb dX12_judges_20 rfl (lv_at hl 1 rfl) ?_
      refine va_iald hx hb hK hP 6 5 rfl rfl (gi_in gp1 (by decide)) dX12_judges_21 ?_
      refine lv_topi (fun x_143 ex_143 => ?_)
      have gx_143 : gi x_143 0 999 := ga_at gfm_reportDay (gi_in gp1 (by decide)) ex_143
      refine lv_aload_n hx hb dX12_judges_22 rfl (lv_at hl 0 rfl) ?_
      refine lv_aload_n hx hb dX12_judges_23 rfl (lv_at hl 0 rfl) ?_
      refine va_get (D := (dC, dI)) (ci := 12) (v := .ref (mr 5)) (C := RX12) (T := TX12) (N := 57) hx hb hts (fun w h => List.mem_cons_of_mem _ (jnGB_X12 w h)) hown hK hP 0 rfl rfl 14 (by decide) (hts _ (List.mem_cons_of_mem _ mGB_16)) (fun _ h9 => h9) rfl dX12_judges_24 ?_
      refine lv_iload_n hx hb dX12_judges_27 rfl (lv_at hl 1 rfl) ?_
      refine va_iald hx hb hK hP 5 4 rfl rfl (gi_in gp1 (by decide)) dX12_judges_28 ?_
      refine lv_topi (fun x_144 ex_144 => ?_)
      have gx_144 : gi x_144 0 23 := ga_at gfm_reportMonth (gi_in gp1 (by decide)) ex_144
      have hPc := hP.sub (ws' := [(h0, .inr (12, fsMM mi mr))]) [0] rfl
      have hKc := hK.sub (tys' := []) [] rfl
      refine va_calli (va_runV (As := [.int x_144]) (rest := [.int x_143]) ⟨hx, hb, hml, hown, hts⟩ (sX12_earlyOf l dC dI h0 mi mr x_144 gmi_0 gmi_1 gmi_2 (gi_w g_125 (by decide)) gmi_7 gmi_10 gmi_17 gmi_23 gmi_24 gmi_26 gmi_29 gmi_30 gmi_33 gmi_37 gmi_41 gmi_50 gmi_51 gmi_56) (cwV 1 hts (gz_gV mGB_249 mGB_250 mGB_251 mGB_1 mGB_252 goodGB) rfl rfl rfl (by decide +kernel) ⟨Nat.le_of_ble_eq_true rfl, Nat.le_of_ble_eq_true rfl⟩) ⟨fun a U g mk q => by obtain ⟨q0, qP, qK⟩ := q; exact ⟨q0, qP, va_K.moved (u := U) (U := U.calling g mk a) (Vm.Alike.refl U.vm) qK⟩, va_recv hKc hPc (ci := 12) (q0 := 0) rfl rfl, fun U hU hW => ⟨rfl, by rw [hU]; exact hPc, va_K.moved hW.alike hKc⟩⟩ rfl rfl hl.1 rfl (lv_room (Nat.le_of_ble_eq_true rfl)) dX12_judges_29 ⟨Nat.zero_le _, Nat.zero_le _⟩) hS (fun q _ h => h.elim) (fun q h => h.elim) (fun r_145 u t H1 locs ht hvm hw hB hz1 hk1 hS => ?_)
      have hP := gz_keep hP hk1
      generalize H1 = H at hP hS ⊢
      refine lv_icmp_ge (tgt := 37) hx hb dX12_judges_32 (by decide) (fun c_146 => ?_) (fun c_146 => ?_)
      · have g_147 : gi r_145 (-2147483648) 999 := gi_le_l c_146 (gi_any r_145) gx_143
        refine lv_aload_n hx hb dX12_judges_37 rfl (lv_at hl 0 rfl) ?_
        refine va_get (D := (dC, dI)) (ci := 12) (v := .ref (mr 5)) (C := RX12) (T := TX12) (N := 57) hx hb hts (fun w h => List.mem_cons_of_mem _ (jnGB_X12 w h)) hown hK hP 0 rfl rfl 14 (by decide) (hts _ (List.mem_cons_of_mem _ mGB_16)) (fun _ h9 => h9) rfl dX12_judges_38 ?_
        refine lv_iload_n hx hb dX12_judges_41 rfl (lv_at hl 1 rfl) ?_
        refine va_iald hx hb hK hP 5 4 rfl rfl (gi_in gp1 (by decide)) dX12_judges_42 ?_
        refine lv_topi (fun x_148 ex_148 => ?_)
        have gx_148 : gi x_148 0 23 := ga_at gfm_reportMonth (gi_in gp1 (by decide)) ex_148
        refine lv_istore_n (lv' := [(2, .int x_148), (0, .ref h0), (1, .int p1)]) hx hb dX12_judges_43 rfl hl (by decide) rfl (fun ls hl => ?_)
        refine lv_aload_n hx hb dX12_judges_44 rfl (lv_at hl 1 rfl) ?_
        refine va_get (D := (dC, dI)) (ci := 12) (v := .ref (mr 14)) (C := RX12) (T := TX12) (N := 57) hx hb hts (fun w h => List.mem_cons_of_mem _ (jnGB_X12 w h)) hown hK hP 0 rfl rfl 34 (by decide) (hts _ (List.mem_cons_of_mem _ mGB_26)) (fun _ h9 => h9) rfl dX12_judges_45 ?_
        refine lv_iload_n hx hb dX12_judges_48 rfl (lv_at hl 0 rfl) ?_
        refine va_iald hx hb hK hP 1 0 rfl rfl (gi_in gx_148 (by decide)) dX12_judges_49 ?_
        refine lv_topi (fun x_149 ex_149 => ?_)
        refine lv_istore_n (lv' := [(3, .int x_149), (2, .int x_148), (0, .ref h0), (1, .int p1)]) hx hb dX12_judges_50 rfl hl (by decide) rfl (fun ls hl => ?_)
        refine lv_aload_n hx hb dX12_judges_51 rfl (lv_at hl 2 rfl) ?_
        refine va_get (D := (dC, dI)) (ci := 12) (v := .ref (mr 15)) (C := RX12) (T := TX12) (N := 57) hx hb hts (fun w h => List.mem_cons_of_mem _ (jnGB_X12 w h)) hown hK hP 0 rfl rfl 35 (by decide) (hts _ (List.mem_cons_of_mem _ mGB_27)) (fun _ h9 => h9) rfl dX12_judges_52 ?_
        refine lv_iload_n hx hb dX12_judges_55 rfl (lv_at hl 1 rfl) ?_
        refine va_iald hx hb hK hP 2 1 rfl rfl (gi_in gx_148 (by decide)) dX12_judges_56 ?_
        refine lv_topi (fun x_150 ex_150 => ?_)
        refine lv_istore (lv' := [(4, .int x_150), (3, .int x_149), (2, .int x_148), (0, .ref h0), (1, .int p1)]) hx hb dX12_judges_57 hl (by decide) rfl (fun ls hl => ?_)
        refine lv_aload_n hx hb dX12_judges_59 rfl (lv_at hl 3 rfl) ?_
        refine lv_iload_n hx hb dX12_judges_60 rfl (lv_at hl 4 rfl) ?_
        have hPc := hP.sub (ws' := [(h0, .inr (12, fsMM mi mr)), ((mr 5), .inl (km_reportMonth, 24, .inl fm_reportMonth)), ((mr 6), .inl (km_reportDay, 24, .inl fm_reportDay)), ((mr 3), .inl (km_reportKind, 24, .inl fm_reportKind)), ((mr 14), .inl (km_must, 25, .inl fm_must)), ((mr 15), .inl (km_least, 25, .inl fm_least))]) [0, 5, 6, 7, 1, 2] rfl
        have hKc := hK.sub (tys' := [(km_reportMonth, .int), (km_reportDay, .int), (km_reportKind, .int), (km_must, .int), (km_least, .int)]) [4, 5, 6, 0, 1] rfl
        have hDc := hD.sub (ws' := [(h0, .inr (12, fsMM mi mr)), ((mr 5), .inl (km_reportMonth, 24, .inl fm_reportMonth)), ((mr 6), .inl (km_reportDay, 24, .inl fm_reportDay)), ((mr 3), .inl (km_reportKind, 24, .inl fm_reportKind)), ((mr 14), .inl (km_must, 25, .inl fm_must)), ((mr 15), .inl (km_least, 25, .inl fm_least))]) [0, 5, 6, 7, 1, 2] (by decide) rfl
        have hFc := va_free (wc := [(h0, .inr (12, fsMM mi mr)), ((mr 5), .inl (km_reportMonth, 24, .inl fm_reportMonth)), ((mr 6), .inl (km_reportDay, 24, .inl fm_reportDay)), ((mr 3), .inl (km_reportKind, 24, .inl fm_reportKind)), ((mr 14), .inl (km_must, 25, .inl fm_must)), ((mr 15), .inl (km_least, 25, .inl fm_least))]) hD hS hA [0, 5, 6, 7, 1, 2] rfl
        refine va_callv (va_runV (As := [.int p1]) (rest := []) ⟨hx, hb, hml, hown, hts⟩ (sX12_holds l dC dI H.size h0 mi mr km_reportMonth fm_reportMonth km_reportDay fm_reportDay km_reportKind fm_reportKind km_must fm_must km_least fm_least p1 gmi_0 gmi_1 gmi_2 (gi_w g_125 (by decide)) gmi_7 gmi_10 gmi_17 gmi_23 gmi_24 gmi_26 gmi_29 gmi_30 gmi_33 gmi_37 gmi_41 gmi_50 gmi_51 gmi_56 gfm_reportMonth gfm_reportDay gp1) (cwV 1 hts (gz_gV mGB_295 mGB_296 mGB_297 mGB_1 mGB_298 goodGB) rfl rfl rfl (by decide +kernel) ⟨Nat.le_of_ble_eq_true rfl, Nat.le_of_ble_eq_true rfl⟩) ⟨fun a U g mk q => by obtain ⟨q0, q1, qP, qK, qD⟩ := q; exact ⟨q0, q1, qP, va_K.moved (u := U) (U := U.calling g mk a) (Vm.Alike.refl U.vm) qK, qD⟩, va_recv hKc hPc (ci := 12) (q0 := 0) rfl rfl, fun U hU hW => ⟨rfl, by rw [hU], by rw [hU]; exact hPc, va_K.moved hW.alike hKc, hDc.weaken (fun _ _ _ _ => trivial)⟩⟩ rfl rfl hl.1 rfl (lv_room (Nat.le_of_ble_eq_true rfl)) dX12_judges_61 ⟨Nat.zero_le _, Nat.zero_le _⟩) hS (fun q _ h => hFc q h) hFc (fun u t H1 locs ht hvm hw hB hz1 hk1 hS => ?_)
        obtain ⟨y_152, f_153, f_154, gy_152, hP1, hD1⟩ := hB
        rw [ht] at hP1
        obtain ⟨hP, hD⟩ := va_join (wr := [((mr 16), .inl (km_pin, 25, .inl fm_pin)), ((mr 17), .inl (km_ways, 6875, .inl fm_ways))]) (w1 := [(h0, .inr (12, fsMM (upd mi 37 y_152) mr)), ((mr 5), .inl (km_reportMonth, 24, .inl fm_reportMonth)), ((mr 6), .inl (km_reportDay, 24, .inl fm_reportDay)), ((mr 3), .inl (km_reportKind, 24, .inl fm_reportKind)), ((mr 14), .inl (km_must, 25, .inl f_153)), ((mr 15), .inl (km_least, 25, .inl f_154))]) hP hD [0, 5, 6, 7, 1, 2] [3, 4] rfl rfl (by decide) (by decide) hk1 hFc hP1 hD1
        have hP := hP.sub (ws' := [(h0, .inr (12, fsMM (upd mi 37 y_152) mr)), ((mr 14), .inl (km_must, 25, .inl f_153)), ((mr 15), .inl (km_least, 25, .inl f_154)), ((mr 16), .inl (km_pin, 25, .inl fm_pin)), ((mr 17), .inl (km_ways, 6875, .inl fm_ways)), ((mr 5), .inl (km_reportMonth, 24, .inl fm_reportMonth)), ((mr 6), .inl (km_reportDay, 24, .inl fm_reportDay)), ((mr 3), .inl (km_reportKind, 24, .inl fm_reportKind))]) [2, 6, 7, 0, 1, 3, 4, 5] rfl
        have hD := hD.sub (ws' := [(h0, .inr (12, fsMM (upd mi 37 y_152) mr)), ((mr 14), .inl (km_must, 25, .inl f_153)), ((mr 15), .inl (km_least, 25, .inl f_154)), ((mr 16), .inl (km_pin, 25, .inl fm_pin)), ((mr 17), .inl (km_ways, 6875, .inl fm_ways)), ((mr 5), .inl (km_reportMonth, 24, .inl fm_reportMonth)), ((mr 6), .inl (km_reportDay, 24, .inl fm_reportDay)), ((mr 3), .inl (km_reportKind, 24, .inl fm_reportKind))]) [2, 6, 7, 0, 1, 3, 4, 5] (by decide) rfl
        generalize H1 = H at hP hS ⊢
        refine lv_aload_n hx hb dX12_judges_64 rfl (lv_at hl 3 rfl) ?_
        have hPc := hP.sub (ws' := [(h0, .inr (12, fsMM (upd mi 37 y_152) mr)), ((mr 14), .inl (km_must, 25, .inl f_153)), ((mr 15), .inl (km_least, 25, .inl f_154)), ((mr 16), .inl (km_pin, 25, .inl fm_pin)), ((mr 17), .inl (km_ways, 6875, .inl fm_ways))]) [0, 1, 2, 3, 4] rfl
        have hKc := hK.sub (tys' := [(km_must, .int), (km_least, .int), (km_pin, .int), (km_ways, .int)]) [0, 1, 2, 3] rfl
        have hDc := hD.sub (ws' := [(h0, .inr (12, fsMM (upd mi 37 y_152) mr)), ((mr 14), .inl (km_must, 25, .inl f_153)), ((mr 15), .inl (km_least, 25, .inl f_154)), ((mr 16), .inl (km_pin, 25, .inl fm_pin)), ((mr 17), .inl (km_ways, 6875, .inl fm_ways))]) [0, 1, 2, 3, 4] (by decide) rfl
        have hFc := va_free (wc := [(h0, .inr (12, fsMM (upd mi 37 y_152) mr)), ((mr 14), .inl (km_must, 25, .inl f_153)), ((mr 15), .inl (km_least, 25, .inl f_154)), ((mr 16), .inl (km_pin, 25, .inl fm_pin)), ((mr 17), .inl (km_ways, 6875, .inl fm_ways))]) hD hS hA [0, 1, 2, 3, 4] rfl
        refine va_calli (va_runV (As := []) (rest := []) ⟨hx, hb, hml, hown, hts⟩ (sX12_counts l dC dI H.size h0 (upd mi 37 y_152) mr km_must f_153 km_least f_154 km_pin fm_pin km_ways fm_ways gmi_0 gmi_1 gmi_2 (gi_w g_125 (by decide)) gmi_7 gmi_10 gmi_17 gmi_23 gmi_24 gmi_26 gmi_29 gmi_30 gmi_33 gy_152 gmi_41 gmi_50 gmi_51 gmi_56) (cwV 0 hts (gz_gV mGB_299 mGB_300 mGB_301 mGB_1 mGB_302 goodGB) rfl rfl rfl (by decide +kernel) ⟨Nat.le_of_ble_eq_true rfl, Nat.le_of_ble_eq_true rfl⟩) ⟨fun a U g mk q => by obtain ⟨q0, q1, qP, qK, qD⟩ := q; exact ⟨q0, q1, qP, va_K.moved (u := U) (U := U.calling g mk a) (Vm.Alike.refl U.vm) qK, qD⟩, va_recv hKc hPc (ci := 12) (q0 := 0) rfl rfl, fun U hU hW => ⟨rfl, by rw [hU], by rw [hU]; exact hPc, va_K.moved hW.alike hKc, hDc.weaken (fun _ _ _ _ => trivial)⟩⟩ rfl rfl hl.1 rfl (lv_room (Nat.le_of_ble_eq_true rfl)) dX12_judges_65 ⟨Nat.zero_le _, Nat.zero_le _⟩) hS (fun q _ h => hFc q h) hFc (fun r_155 u t H1 locs ht hvm hw hB hz1 hk1 hS => ?_)
        obtain ⟨f_156, hP1, hD1⟩ := hB
        rw [ht] at hP1
        obtain ⟨hP, hD⟩ := va_join (wr := [((mr 5), .inl (km_reportMonth, 24, .inl fm_reportMonth)), ((mr 6), .inl (km_reportDay, 24, .inl fm_reportDay)), ((mr 3), .inl (km_reportKind, 24, .inl fm_reportKind))]) (w1 := [(h0, .inr (12, fsMM (upd mi 37 y_152) mr)), ((mr 14), .inl (km_must, 25, .inl f_153)), ((mr 15), .inl (km_least, 25, .inl f_154)), ((mr 16), .inl (km_pin, 25, .inl fm_pin)), ((mr 17), .inl (km_ways, 6875, .inl f_156))]) hP hD [0, 1, 2, 3, 4] [5, 6, 7] rfl rfl (by decide) (by decide) hk1 hFc hP1 hD1
        have hP := hP.sub (ws' := [(h0, .inr (12, fsMM (upd mi 37 y_152) mr)), ((mr 14), .inl (km_must, 25, .inl f_153)), ((mr 15), .inl (km_least, 25, .inl f_154)), ((mr 16), .inl (km_pin, 25, .inl fm_pin)), ((mr 17), .inl (km_ways, 6875, .inl f_156)), ((mr 5), .inl (km_reportMonth, 24, .inl fm_reportMonth)), ((mr 6), .inl (km_reportDay, 24, .inl fm_reportDay)), ((mr 3), .inl (km_reportKind, 24, .inl fm_reportKind))]) [3, 4, 5, 6, 7, 0, 1, 2] rfl
        have hD := hD.sub (ws' := [(h0, .inr (12, fsMM (upd mi 37 y_152) mr)), ((mr 14), .inl (km_must, 25, .inl f_153)), ((mr 15), .inl (km_least, 25, .inl f_154)), ((mr 16), .inl (km_pin, 25, .inl fm_pin)), ((mr 17), .inl (km_ways, 6875, .inl f_156)), ((mr 5), .inl (km_reportMonth, 24, .inl fm_reportMonth)), ((mr 6), .inl (km_reportDay, 24, .inl fm_reportDay)), ((mr 3), .inl (km_reportKind, 24, .inl fm_reportKind))]) [3, 4, 5, 6, 7, 0, 1, 2] (by decide) rfl
        generalize H1 = H at hP hS ⊢
        refine lv_if_le (tgt := 73) hx hb dX12_judges_68 (by decide) (fun c_157 => ?_) (fun c_157 => ?_)
        · have g_158 : gi r_155 (-2147483648) 0 := gi_le_l c_157 (gi_any r_155) (gi_c 0 0 (by decide))
          refine lv_aload_n hx hb dX12_judges_73 rfl (lv_at hl 3 rfl) ?_
          refine va_get (D := (dC, dI)) (ci := 12) (v := .ref (mr 14)) (C := RX12) (T := TX12) (N := 57) hx hb hts (fun w h => List.mem_cons_of_mem _ (jnGB_X12 w h)) hown hK hP 0 rfl rfl 34 (by decide) (hts _ (List.mem_cons_of_mem _ mGB_26)) (fun _ h9 => h9) rfl dX12_judges_74 ?_
          refine lv_iload_n hx hb dX12_judges_77 rfl (lv_at hl 2 rfl) ?_
          refine lv_iload_n hx hb dX12_judges_78 rfl (lv_at hl 1 rfl) ?_
          refine va_iast hx hb hK hP hD hS 1 0 rfl rfl (gi_in gx_148 (by decide)) dX12_judges_79 (fun H locs hP hD hS => ?_)
          have hP : va_P (dC, dI) vwCl [(h0, .inr (12, fsMM (upd mi 37 y_152) mr)), ((mr 14), .inl (km_must, 25, .inl (upd f_153 (x_148 : Int32).toNatClampNeg x_149))), ((mr 15), .inl (km_least, 25, .inl f_154)), ((mr 16), .inl (km_pin, 25, .inl fm_pin)), ((mr 17), .inl (km_ways, 6875, .inl f_156)), ((mr 5), .inl (km_reportMonth, 24, .inl fm_reportMonth)), ((mr 6), .inl (km_reportDay, 24, .inl fm_reportDay)), ((mr 3), .inl (km_reportKind, 24, .inl fm_reportKind))] H := hP
          have hD : va_D A [(h0, .inr (12, fsMM (upd mi 37 y_152) mr)), ((mr 14), .inl (km_must, 25, .inl (upd f_153 (x_148 : Int32).toNatClampNeg x_149))), ((mr 15), .inl (km_least, 25, .inl f_154)), ((mr 16), .inl (km_pin, 25, .inl fm_pin)), ((mr 17), .inl (km_ways, 6875, .inl f_156)), ((mr 5), .inl (km_reportMonth, 24, .inl fm_reportMonth)), ((mr 6), .inl (km_reportDay, 24, .inl fm_reportDay)), ((mr 3), .inl (km_reportKind, 24, .inl fm_reportKind))] := hD
          generalize upd f_153 (x_148 : Int32).toNatClampNeg x_149 = f_159 at hP hD
          refine lv_aload_n hx hb dX12_judges_80 rfl (lv_at hl 3 rfl) ?_
          refine va_get (D := (dC, dI)) (ci := 12) (v := .ref (mr 15)) (C := RX12) (T := TX12) (N := 57) hx hb hts (fun w h => List.mem_cons_of_mem _ (jnGB_X12 w h)) hown hK hP 0 rfl rfl 35 (by decide) (hts _ (List.mem_cons_of_mem _ mGB_27)) (fun _ h9 => h9) rfl dX12_judges_81 ?_
          refine lv_iload_n hx hb dX12_judges_84 rfl (lv_at hl 2 rfl) ?_
          refine lv_iload hx hb dX12_judges_85 (lv_at hl 0 rfl) ?_
          refine va_iast hx hb hK hP hD hS 2 1 rfl rfl (gi_in gx_148 (by decide)) dX12_judges_87 (fun H locs hP hD hS => ?_)
          have hP : va_P (dC, dI) vwCl [(h0, .inr (12, fsMM (upd mi 37 y_152) mr)), ((mr 14), .inl (km_must, 25, .inl f_159)), ((mr 15), .inl (km_least, 25, .inl (upd f_154 (x_148 : Int32).toNatClampNeg x_150))), ((mr 16), .inl (km_pin, 25, .inl fm_pin)), ((mr 17), .inl (km_ways, 6875, .inl f_156)), ((mr 5), .inl (km_reportMonth, 24, .inl fm_reportMonth)), ((mr 6), .inl (km_reportDay, 24, .inl fm_reportDay)), ((mr 3), .inl (km_reportKind, 24, .inl fm_reportKind))] H := hP
          have hD : va_D A [(h0, .inr (12, fsMM (upd mi 37 y_152) mr)), ((mr 14), .inl (km_must, 25, .inl f_159)), ((mr 15), .inl (km_least, 25, .inl (upd f_154 (x_148 : Int32).toNatClampNeg x_150))), ((mr 16), .inl (km_pin, 25, .inl fm_pin)), ((mr 17), .inl (km_ways, 6875, .inl f_156)), ((mr 5), .inl (km_reportMonth, 24, .inl fm_reportMonth)), ((mr 6), .inl (km_reportDay, 24, .inl fm_reportDay)), ((mr 3), .inl (km_reportKind, 24, .inl fm_reportKind))] := hD
          generalize upd f_154 (x_148 : Int32).toNatClampNeg x_150 = f_160 at hP hD
          refine lv_aload_n hx hb dX12_judges_88 rfl (lv_at hl 3 rfl) ?_
          refine lv_iconst (v := 0) hx hb dX12_judges_89 (by decide) ?_
          refine va_put (D := (dC, dI)) (ci := 12) (v := .int 0) (ty := .boolean) (C := RX12) (T := TX12) (N := 57) hx hb hts (fun w h => List.mem_cons_of_mem _ (jnGB_X12 w h)) tyX12 tyX12_ok nmX12 hown hK hP hD hS 0 rfl rfl 37 (by decide) (hts _ (List.mem_cons_of_mem _ mGB_270)) (fun _ h9 => h9) rfl (by decide +kernel) rfl rfl (Nat.le_of_ble_eq_true rfl) dX12_judges_90 (fun H locs hP hD hS => ?_)
          have hP : va_P (dC, dI) vwCl [(h0, .inr (12, fsMM (upd mi 37 0) mr)), ((mr 14), .inl (km_must, 25, .inl f_159)), ((mr 15), .inl (km_least, 25, .inl f_160)), ((mr 16), .inl (km_pin, 25, .inl fm_pin)), ((mr 17), .inl (km_ways, 6875, .inl f_156)), ((mr 5), .inl (km_reportMonth, 24, .inl fm_reportMonth)), ((mr 6), .inl (km_reportDay, 24, .inl fm_reportDay)), ((mr 3), .inl (km_reportKind, 24, .inl fm_reportKind))] H := hP
          have hD : va_D A [(h0, .inr (12, fsMM (upd mi 37 0) mr)), ((mr 14), .inl (km_must, 25, .inl f_159)), ((mr 15), .inl (km_least, 25, .inl f_160)), ((mr 16), .inl (km_pin, 25, .inl fm_pin)), ((mr 17), .inl (km_ways, 6875, .inl f_156)), ((mr 5), .inl (km_reportMonth, 24, .inl fm_reportMonth)), ((mr 6), .inl (km_reportDay, 24, .inl fm_reportDay)), ((mr 3), .inl (km_reportKind, 24, .inl fm_reportKind))] := hD
          refine lv_iconst (v := 2) hx hb dX12_judges_93 (by decide) ?_
          exact W.iret (v := 2) hx hb hr (fun t ht hW => ⟨⟨2, (), rfl, (gi_w (gi_c 2 2 (by decide)) (by decide)), 0, f_159, f_160, f_156, (gi_w (gi_c 0 0 (by decide)) (by decide)), by rw [ht]; exact hP, hD⟩, hS.F ht⟩) hS.2.2 dX12_judges_94
        · have g_161 : gi r_155 1 2147483647 := gi_lt_r (Int32.not_le.mp c_157) (gi_c 0 0 (by decide)) (gi_any r_155) (by decide)
          refine lv_iconst (v := 0) hx hb dX12_judges_71 (by decide) ?_
          exact W.iret (v := 0) hx hb hr (fun t ht hW => ⟨⟨0, (), rfl, (gi_w (gi_c 0 0 (by decide)) (by decide)), y_152, f_153, f_154, f_156, gy_152, by rw [ht]; exact hP, hD⟩, hS.F ht⟩) hS.2.2 dX12_judges_72
      · have g_162 : gi r_145 1 2147483647 := gi_lt_r (Int32.not_le.mp c_146) gx_143 (gi_any r_145) (by decide)
        refine lv_iconst (v := 1) hx hb dX12_judges_35 (by decide) ?_
        exact W.iret (v := 1) hx hb hr (fun t ht hW => ⟨⟨1, (), rfl, (gi_w (gi_c 1 1 (by decide)) (by decide)), (mi 37), fm_must, fm_least, fm_ways, gmi_37, by rw [ht]; exact hP, hD⟩, hS.F ht⟩) hS.2.2 dX12_judges_36
