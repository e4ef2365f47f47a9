theorem dX12_spanOf_0 : decode cX12_spanOf 0 = .ok (.iconst 0, 1) := by decide +kernel
theorem dX12_spanOf_1 : decode cX12_spanOf 1 = .ok (.istore_n 3, 1) := by decide +kernel
theorem dX12_spanOf_2 : decode cX12_spanOf 2 = .ok (.iload_n 3, 1) := by decide +kernel
theorem dX12_spanOf_3 : decode cX12_spanOf 3 = .ok (.iload_n 1, 1) := by decide +kernel
theorem dX12_spanOf_4 : decode cX12_spanOf 4 = .ok (.if_icmp .gt 40, 3) := by decide +kernel
theorem dX12_spanOf_7 : decode cX12_spanOf 7 = .ok (.bipush 29, 2) := by decide +kernel
theorem dX12_spanOf_9 : decode cX12_spanOf 9 = .ok (.iload_n 1, 1) := by decide +kernel
theorem dX12_spanOf_10 : decode cX12_spanOf 10 = .ok (.imul, 1) := by decide +kernel
theorem dX12_spanOf_11 : decode cX12_spanOf 11 = .ok (.iload_n 2, 1) := by decide +kernel
theorem dX12_spanOf_12 : decode cX12_spanOf 12 = .ok (.ifCond .ne 7, 3) := by decide +kernel
theorem dX12_spanOf_15 : decode cX12_spanOf 15 = .ok (.iload_n 3, 1) := by decide +kernel
theorem dX12_spanOf_16 : decode cX12_spanOf 16 = .ok (.goto 6, 3) := by decide +kernel
theorem dX12_spanOf_19 : decode cX12_spanOf 19 = .ok (.iload_n 1, 1) := by decide +kernel
theorem dX12_spanOf_20 : decode cX12_spanOf 20 = .ok (.iload_n 3, 1) := by decide +kernel
theorem dX12_spanOf_21 : decode cX12_spanOf 21 = .ok (.isub, 1) := by decide +kernel
theorem dX12_spanOf_22 : decode cX12_spanOf 22 = .ok (.iadd, 1) := by decide +kernel
theorem dX12_spanOf_23 : decode cX12_spanOf 23 = .ok (.istore 4, 2) := by decide +kernel
theorem dX12_spanOf_25 : decode cX12_spanOf 25 = .ok (.aload_n 0, 1) := by decide +kernel
theorem dX12_spanOf_26 : decode cX12_spanOf 26 = .ok (.iload_n 1, 1) := by decide +kernel
theorem dX12_spanOf_27 : decode cX12_spanOf 27 = .ok (.iload 4, 2) := by decide +kernel
theorem dX12_spanOf_29 : decode cX12_spanOf 29 = .ok (.invokevirtual 388, 3) := by decide +kernel
theorem dX12_spanOf_32 : decode cX12_spanOf 32 = .ok (.ifCond .le 6, 3) := by decide +kernel
theorem dX12_spanOf_35 : decode cX12_spanOf 35 = .ok (.iload 4, 2) := by decide +kernel
theorem dX12_spanOf_37 : decode cX12_spanOf 37 = .ok (.ireturn, 1) := by decide +kernel
theorem dX12_spanOf_38 : decode cX12_spanOf 38 = .ok (.iinc 3 1, 3) := by decide +kernel
theorem dX12_spanOf_41 : decode cX12_spanOf 41 = .ok (.goto (-39), 3) := by decide +kernel
theorem dX12_spanOf_44 : decode cX12_spanOf 44 = .ok (.bipush (-2), 2) := by decide +kernel
theorem dX12_spanOf_46 : decode cX12_spanOf 46 = .ok (.ireturn, 1) := by decide +kernel
set_option maxHeartbeats 4000000 in
set_option maxRecDepth 100000 in
theorem lp_sX12_spanOf {p : Program} {l : Launch} {e : Env} {R : Room} {s : State} {m : MethodId} {args : Array Value} {below : List Frame} {meth : Method} {c : Code} {Q : State → Prop} {A : Nat → Prop} {cells slots : Nat} {dC : Nat → ClassId} {dI : Nat → Nat → Nat} (h0 : Nat) (mi : Nat → Int32) (mr : Nat → Nat) (km_must : ClassId) (fm_must : Nat → Int32) (km_least : ClassId) (fm_least : Nat → Int32) (km_pin : ClassId) (fm_pin : Nat → Int32) (km_ways : ClassId) (fm_ways : Nat → Int32) (p1 : Int32) (p2 : Int32) (gmi_0 : gi (mi 0) 0 24) (gmi_1 : gi (mi 1) 0 5) (gmi_2 : gi (mi 2) 0 5) (gmi_4 : gi (mi 4) 0 1) (gmi_7 : gi (mi 7) 0 6) (gmi_10 : gi (mi 10) 0 24) (gmi_17 : gi (mi 17) 0 8) (gmi_23 : gi (mi 23) 0 300) (gmi_24 : gi (mi 24) 0 1) (gmi_26 : gi (mi 26) 0 1600) (gmi_29 : gi (mi 29) 0 1600) (gmi_30 : gi (mi 30) 0 1600) (gmi_33 : gi (mi 33) 0 1) (gmi_37 : gi (mi 37) 0 1) (gmi_41 : gi (mi 41) 0 24) (gmi_50 : gi (mi 50) 0 1) (gmi_51 : gi (mi 51) 0 1) (gmi_56 : gi (mi 56) 0 80) (gp1 : gi p1 0 24) (hx : p.tables.exec = Jvm.exec) (hb : c.code = cX12_spanOf) (hml : c.maxLocals = 5) (hown : s.vm.findClass RX12 = some m.cls) (hts : ∀ w ∈ ((.code yX12_spanOf cX12_spanOf 5 (some .int) :: wsGB) : List Cond), w.before args s = true) (hK : va_K (dC, dI) vwCl [(km_must, .int), (km_least, .int), (km_pin, .int), (km_ways, .int)] s) (hA : ∀ q : Nat, s.heap.size ≤ q → A q) (hRf : 5 ≤ R.frames) (hRl : 123 ≤ R.locals) (hRc : cells ≤ R.cells) (hRs : slots ≤ R.slots) (kr46 : ∀ (v : Int32) (z3 : Nat → Int32) (z4 : Nat → Int32) (H : Heap) (locs : List Loc) (ls : Array Slot), gi v (-2) (-2) → va_P (dC, dI) vwCl [(h0, .inr (12, fsMM mi mr)), ((mr 14), .inl (km_must, 25, .inl fm_must)), ((mr 15), .inl (km_least, 25, .inl fm_least)), ((mr 16), .inl (km_pin, 25, .inl z3)), ((mr 17), .inl (km_ways, 6875, .inl z4))] H → va_D A [(h0, .inr (12, fsMM mi mr)), ((mr 14), .inl (km_must, 25, .inl fm_must)), ((mr 15), .inl (km_least, 25, .inl fm_least)), ((mr 16), .inl (km_pin, 25, .inl z3)), ((mr 17), .inl (km_ways, 6875, .inl z4))] → va_S A s.heap H locs → lv_has ls 5 [] → W p l e R s m args below meth c H locs cells slots Q (F0 m 46 ls [.int v])) (kr37 : ∀ (v : Int32) (z3 : Nat → Int32) (z4 : Nat → Int32) (H : Heap) (locs : List Loc) (ls : Array Slot), gi v 0 720 → va_P (dC, dI) vwCl [(h0, .inr (12, fsMM mi mr)), ((mr 14), .inl (km_must, 25, .inl fm_must)), ((mr 15), .inl (km_least, 25, .inl fm_least)), ((mr 16), .inl (km_pin, 25, .inl z3)), ((mr 17), .inl (km_ways, 6875, .inl z4))] H → va_D A [(h0, .inr (12, fsMM mi mr)), ((mr 14), .inl (km_must, 25, .inl fm_must)), ((mr 15), .inl (km_least, 25, .inl fm_least)), ((mr 16), .inl (km_pin, 25, .inl z3)), ((mr 17), .inl (km_ways, 6875, .inl z4))] → va_S A s.heap H locs → lv_has ls 5 [] → W p l e R s m args below meth c H locs cells slots Q (F0 m 37 ls [.int v])) : ∀ z : Nat, (∀ (v3 : Int32) (z3 : Nat → Int32) (z4 : Nat → Int32) (H : Heap) (locs : List Loc) (ls : Array Slot), gi v3 0 25 → 51 + (-2) * v3.toInt < (z : Int) → va_P (dC, dI) vwCl [(h0, .inr (12, fsMM mi mr)), ((mr 14), .inl (km_must, 25, .inl fm_must)), ((mr 15), .inl (km_least, 25, .inl fm_least)), ((mr 16), .inl (km_pin, 25, .inl z3)), ((mr 17), .inl (km_ways, 6875, .inl z4))] H → va_D A [(h0, .inr (12, fsMM mi mr)), ((mr 14), .inl (km_must, 25, .inl fm_must)), ((mr 15), .inl (km_least, 25, .inl fm_least)), ((mr 16), .inl (km_pin, 25, .inl z3)), ((mr 17), .inl (km_ways, 6875, .inl z4))] → va_S A s.heap H locs → lv_has ls 5 [(0, .ref h0), (1, .int p1), (2, .int p2), (3, .int v3)] → W p l e R s m args below meth c H locs cells slots Q (F0 m 2 ls [])) := by
  intro z
  induction z with
  | zero =>
    intro v3 z3 z4 H locs ls gv3 hmu hP hD hS hl
    exact absurd hmu (by have hv31 := gv3.1; have hv32 := gv3.2; omega)
  | succ z ih =>
      intro v3 z3 z4 H locs ls gv3 hmu hP hD hS hl
      refine lv_iload_n hx hb dX12_spanOf_2 rfl (lv_at hl 3 rfl) ?_
      refine lv_iload_n hx hb dX12_spanOf_3 rfl (lv_at hl 1 rfl) ?_
      refine lv_icmp_gt (tgt := 44) hx hb dX12_spanOf_4 (by decide) (fun c_367 => ?_) (fun c_367 => ?_)
      · have g_368 : gi v3 1 25 := gi_lt_r c_367 gp1 gv3 (by decide)
        refine lv_bipush (v := (-2)) hx hb dX12_spanOf_44 (by decide) ?_
        exact kr46 (-2) z3 z4 _ _ _ (gi_c (-2) (-2) (by decide)) hP hD hS (lv_sub hl [] rfl)
      · have g_369 : gi v3 0 24 := gi_le_l (Int32.not_lt.mp c_367) gv3 gp1
        refine lv_bipush (v := 29) hx hb dX12_spanOf_7 (by decide) ?_
        refine lv_iload_n hx hb dX12_spanOf_9 rfl (lv_at hl 1 rfl) ?_
        refine lv_imul hx hb dX12_spanOf_10 ?_
        refine lv_topi (fun x_370 ex_370 => ?_)
        have gx_370 : gi x_370 0 696 := gi_mul ex_370 (gi_c 29 29 (by decide)) gp1 (by decide)
        refine lv_iload_n hx hb dX12_spanOf_11 rfl (lv_at hl 2 rfl) ?_
        refine lv_if_ne (tgt := 19) hx hb dX12_spanOf_12 (by decide) (fun c_371 => ?_) (fun c_371 => ?_)
        · refine lv_iload_n hx hb dX12_spanOf_19 rfl (lv_at hl 1 rfl) ?_
          refine lv_iload_n hx hb dX12_spanOf_20 rfl (lv_at hl 3 rfl) ?_
          refine lv_isub hx hb dX12_spanOf_21 ?_
          refine lv_topi (fun x_372 ex_372 => ?_)
          have gx_372 : gi x_372 0 24 := gi_subrel ex_372 (Int32.le_iff_toInt_le.mp (Int32.not_lt.mp c_367)) gp1 g_369 (by decide)
          refine lv_iadd hx hb dX12_spanOf_22 ?_
          refine lv_topi (fun x_373 ex_373 => ?_)
          have gx_373 : gi x_373 0 720 := gi_add ex_373 gx_370 gx_372 (by decide)
          refine lv_istore (lv' := [(4, .int x_373), (0, .ref h0), (1, .int p1), (2, .int p2), (3, .int v3)]) hx hb dX12_spanOf_23 hl (by decide) rfl (fun ls hl => ?_)
          refine lv_aload_n hx hb dX12_spanOf_25 rfl (lv_at hl 1 rfl) ?_
          refine lv_iload_n hx hb dX12_spanOf_26 rfl (lv_at hl 2 rfl) ?_
          refine lv_iload hx hb dX12_spanOf_27 (lv_at hl 0 rfl) ?_
          have hPc := hP.sub (ws' := [(h0, .inr (12, fsMM mi mr)), ((mr 14), .inl (km_must, 25, .inl fm_must)), ((mr 15), .inl (km_least, 25, .inl fm_least)), ((mr 16), .inl (km_pin, 25, .inl z3)), ((mr 17), .inl (km_ways, 6875, .inl z4))]) [0, 1, 2, 3, 4] rfl
          have hKc := hK.sub (tys' := [(km_must, .int), (km_least, .int), (km_pin, .int), (km_ways, .int)]) [0, 1, 2, 3] rfl
          have hDc := hD.sub (ws' := [(h0, .inr (12, fsMM mi mr)), ((mr 14), .inl (km_must, 25, .inl fm_must)), ((mr 15), .inl (km_least, 25, .inl fm_least)), ((mr 16), .inl (km_pin, 25, .inl z3)), ((mr 17), .inl (km_ways, 6875, .inl z4))]) [0, 1, 2, 3, 4] (by decide) rfl
          have hFc := va_free (wc := [(h0, .inr (12, fsMM mi mr)), ((mr 14), .inl (km_must, 25, .inl fm_must)), ((mr 15), .inl (km_least, 25, .inl fm_least)), ((mr 16), .inl (km_pin, 25, .inl z3)), ((mr 17), .inl (km_ways, 6875, .inl z4))]) hD hS hA [0, 1, 2, 3, 4] rfl
          refine va_calli (va_runV (As := [.int p1, .int x_373]) (rest := []) ⟨hx, hb, hml, hown, hts⟩ (sX12_beginsOn l dC dI H.size h0 mi mr km_must fm_must km_least fm_least km_pin z3 km_ways z4 p1 x_373 gmi_0 gmi_1 gmi_2 gmi_4 gmi_7 gmi_10 gmi_17 gmi_23 gmi_24 gmi_26 gmi_29 gmi_30 gmi_33 gmi_37 gmi_41 gmi_50 gmi_51 gmi_56 gp1) (cwV 2 hts (gz_gV mGB_373 mGB_374 mGB_375 mGB_1 mGB_376 goodGB) rfl rfl rfl (by decide +kernel) ⟨Nat.le_trans (Nat.le_of_ble_eq_true rfl) hRf, Nat.le_trans (Nat.le_of_ble_eq_true rfl) hRl⟩) ⟨fun a U g mk q => by obtain ⟨q0, q1, qP, qK, qD⟩ := q; exact ⟨q0, q1, qP, va_K.moved (u := U) (U := U.calling g mk a) (Vm.Alike.refl U.vm) qK, qD⟩, va_recv hKc hPc (ci := 12) (q0 := 0) rfl rfl, fun U hU hW => ⟨rfl, by rw [hU], by rw [hU]; exact hPc, va_K.moved hW.alike hKc, hDc.weaken (fun _ _ _ _ => trivial)⟩⟩ rfl rfl hl.1 rfl (lv_room (Nat.le_of_ble_eq_true rfl)) dX12_spanOf_29 ⟨hRc, hRs⟩) hS (fun q _ h => hFc q h) hFc (fun r_374 u t H1 locs ht hvm hw hB hz1 hk1 hS => ?_)
          obtain ⟨f_375, f_376, hP1, hD1⟩ := hB
          rw [ht] at hP1
          obtain ⟨hP, hD⟩ := va_join (wr := []) (w1 := [(h0, .inr (12, fsMM mi mr)), ((mr 14), .inl (km_must, 25, .inl fm_must)), ((mr 15), .inl (km_least, 25, .inl fm_least)), ((mr 16), .inl (km_pin, 25, .inl f_375)), ((mr 17), .inl (km_ways, 6875, .inl f_376))]) hP hD [0, 1, 2, 3, 4] [] rfl rfl (by decide) (by decide) hk1 hFc hP1 hD1
          have hP := hP.sub (ws' := [(h0, .inr (12, fsMM mi mr)), ((mr 14), .inl (km_must, 25, .inl fm_must)), ((mr 15), .inl (km_least, 25, .inl fm_least)), ((mr 16), .inl (km_pin, 25, .inl f_375)), ((mr 17), .inl (km_ways, 6875, .inl f_376))]) [0, 1, 2, 3, 4] rfl
          have hD := hD.sub (ws' := [(h0, .inr (12, fsMM mi mr)), ((mr 14), .inl (km_must, 25, .inl fm_must)), ((mr 15), .inl (km_least, 25, .inl fm_least)), ((mr 16), .inl (km_pin, 25, .inl f_375)), ((mr 17), .inl (km_ways, 6875, .inl f_376))]) [0, 1, 2, 3, 4] (by decide) rfl
          generalize H1 = H at hP hS ⊢
          refine lv_if_le (tgt := 38) hx hb dX12_spanOf_32 (by decide) (fun c_377 => ?_) (fun c_377 => ?_)
          · have g_378 : gi r_374 (-2147483648) 0 := gi_le_l c_377 (gi_any r_374) (gi_c 0 0 (by decide))
            obtain ⟨x_379, ex_379⟩ : ∃ y : Int32, y = v3 + 1 := ⟨_, rfl⟩
            have gx_379 : gi x_379 1 25 := gi_add ex_379 g_369 (gi_c 1 1 (by decide)) (by decide)
            refine lv_iinc (v := x_379) (lv' := [(3, .int x_379), (4, .int x_373), (0, .ref h0), (1, .int p1), (2, .int p2)]) hx hb dX12_spanOf_38 hl (k := 4) rfl (by rw [ex_379]; rfl) (by decide) rfl (fun ls hl => ?_)
            refine lv_goto (tgt := 2) hx hb dX12_spanOf_41 (by decide) ?_
            exact ih x_379 f_375 f_376 _ _ _ (gi_w gx_379 (by decide)) (by have av3 := gv3.1; have bv3 := gv3.2; have qgx_379 := gx_379.1; have rgx_379 := gx_379.2; have igx_379 : x_379.toInt = v3.toInt + 1 := (by have hc1 : (1 : Int32).toInt = 1 := (by decide); have h9 := gi_addI ex_379 (by have h1 := g_369.1; have h2 := (gi_c 1 1 (by decide)).1; have h3 := g_369.2; have h4 := (gi_c 1 1 (by decide)).2; omega) (by have h1 := g_369.1; have h2 := (gi_c 1 1 (by decide)).1; have h3 := g_369.2; have h4 := (gi_c 1 1 (by decide)).2; omega); rw [hc1] at h9; exact h9); have qgv3 := g_369.1; have rgv3 := g_369.2; omega) hP hD hS (lv_sub hl [2, 3, 4, 0] rfl)
          · have g_380 : gi r_374 1 2147483647 := gi_lt_r (Int32.not_le.mp c_377) (gi_c 0 0 (by decide)) (gi_any r_374) (by decide)
            refine lv_iload hx hb dX12_spanOf_35 (lv_at hl 0 rfl) ?_
            exact kr37 x_373 f_375 f_376 _ _ _ gx_373 hP hD hS (lv_sub hl [] rfl)
        · have g_381 : gi p2 0 0 := gi_eq c_371 (gi_c 0 0 (by decide))
          refine lv_iload_n hx hb dX12_spanOf_15 rfl (lv_at hl 3 rfl) ?_
          refine lv_goto (tgt := 22) hx hb dX12_spanOf_16 (by decide) ?_
          refine lv_iadd hx hb dX12_spanOf_22 ?_
          refine lv_topi (fun x_382 ex_382 => ?_)
          have gx_382 : gi x_382 0 720 := gi_add ex_382 gx_370 g_369 (by decide)
          refine lv_istore (lv' := [(4, .int x_382), (0, .ref h0), (1, .int p1), (2, .int p2), (3, .int v3)]) hx hb dX12_spanOf_23 hl (by decide) rfl (fun ls hl => ?_)
          refine lv_aload_n hx hb dX12_spanOf_25 rfl (lv_at hl 1 rfl) ?_
          refine lv_iload_n hx hb dX12_spanOf_26 rfl (lv_at hl 2 rfl) ?_
          refine lv_iload hx hb dX12_spanOf_27 (lv_at hl 0 rfl) ?_
          have hPc := hP.sub (ws' := [(h0, .inr (12, fsMM mi mr)), ((mr 14), .inl (km_must, 25, .inl fm_must)), ((mr 15), .inl (km_least, 25, .inl fm_least)), ((mr 16), .inl (km_pin, 25, .inl z3)), ((mr 17), .inl (km_ways, 6875, .inl z4))]) [0, 1, 2, 3, 4] rfl
          have hKc := hK.sub (tys' := [(km_must, .int), (km_least, .int), (km_pin, .int), (km_ways, .int)]) [0, 1, 2, 3] rfl
          have hDc := hD.sub (ws' := [(h0, .inr (12, fsMM mi mr)), ((mr 14), .inl (km_must, 25, .inl fm_must)), ((mr 15), .inl (km_least, 25, .inl fm_least)), ((mr 16), .inl (km_pin, 25, .inl z3)), ((mr 17), .inl (km_ways, 6875, .inl z4))]) [0, 1, 2, 3, 4] (by decide) rfl
          have hFc := va_free (wc := [(h0, .inr (12, fsMM mi mr)), ((mr 14), .inl (km_must, 25, .inl fm_must)), ((mr 15), .inl (km_least, 25, .inl fm_least)), ((mr 16), .inl (km_pin, 25, .inl z3)), ((mr 17), .inl (km_ways, 6875, .inl z4))]) hD hS hA [0, 1, 2, 3, 4] rfl
          refine va_calli (va_runV (As := [.int p1, .int x_382]) (rest := []) ⟨hx, hb, hml, hown, hts⟩ (sX12_beginsOn l dC dI H.size h0 mi mr km_must fm_must km_least fm_least km_pin z3 km_ways z4 p1 x_382 gmi_0 gmi_1 gmi_2 gmi_4 gmi_7 gmi_10 gmi_17 gmi_23 gmi_24 gmi_26 gmi_29 gmi_30 gmi_33 gmi_37 gmi_41 gmi_50 gmi_51 gmi_56 gp1) (cwV 2 hts (gz_gV mGB_373 mGB_374 mGB_375 mGB_1 mGB_376 goodGB) rfl rfl rfl (by decide +kernel) ⟨Nat.le_trans (Nat.le_of_ble_eq_true rfl) hRf, Nat.le_trans (Nat.le_of_ble_eq_true rfl) hRl⟩) ⟨fun a U g mk q => by obtain ⟨q0, q1, qP, qK, qD⟩ := q; exact ⟨q0, q1, qP, va_K.moved (u := U) (U := U.calling g mk a) (Vm.Alike.refl U.vm) qK, qD⟩, va_recv hKc hPc (ci := 12) (q0 := 0) rfl rfl, fun U hU hW => ⟨rfl, by rw [hU], by rw [hU]; exact hPc, va_K.moved hW.alike hKc, hDc.weaken (fun _ _ _ _ => trivial)⟩⟩ rfl rfl hl.1 rfl (lv_room (Nat.le_of_ble_eq_true rfl)) dX12_spanOf_29 ⟨hRc, hRs⟩) hS (fun q _ h => hFc q h) hFc (fun r_383 u t H1 locs ht hvm hw hB hz1 hk1 hS => ?_)
          obtain ⟨f_384, f_385, hP1, hD1⟩ := hB
          rw [ht] at hP1
          obtain ⟨hP, hD⟩ := va_join (wr := []) (w1 := [(h0, .inr (12, fsMM mi mr)), ((mr 14), .inl (km_must, 25, .inl fm_must)), ((mr 15), .inl (km_least, 25, .inl fm_least)), ((mr 16), .inl (km_pin, 25, .inl f_384)), ((mr 17), .inl (km_ways, 6875, .inl f_385))]) hP hD [0, 1, 2, 3, 4] [] rfl rfl (by decide) (by decide) hk1 hFc hP1 hD1
          have hP := hP.sub (ws' := [(h0, .inr (12, fsMM mi mr)), ((mr 14), .inl (km_must, 25, .inl fm_must)), ((mr 15), .inl (km_least, 25, .inl fm_least)), ((mr 16), .inl (km_pin, 25, .inl f_384)), ((mr 17), .inl (km_ways, 6875, .inl f_385))]) [0, 1, 2, 3, 4] rfl
          have hD := hD.sub (ws' := [(h0, .inr (12, fsMM mi mr)), ((mr 14), .inl (km_must, 25, .inl fm_must)), ((mr 15), .inl (km_least, 25, .inl fm_least)), ((mr 16), .inl (km_pin, 25, .inl f_384)), ((mr 17), .inl (km_ways, 6875, .inl f_385))]) [0, 1, 2, 3, 4] (by decide) rfl
          generalize H1 = H at hP hS ⊢
          refine lv_if_le (tgt := 38) hx hb dX12_spanOf_32 (by decide) (fun c_386 => ?_) (fun c_386 => ?_)
          · have g_387 : gi r_383 (-2147483648) 0 := gi_le_l c_386 (gi_any r_383) (gi_c 0 0 (by decide))
            obtain ⟨x_388, ex_388⟩ : ∃ y : Int32, y = v3 + 1 := ⟨_, rfl⟩
            have gx_388 : gi x_388 1 25 := gi_add ex_388 g_369 (gi_c 1 1 (by decide)) (by decide)
            refine lv_iinc (v := x_388) (lv' := [(3, .int x_388), (4, .int x_382), (0, .ref h0), (1, .int p1), (2, .int p2)]) hx hb dX12_spanOf_38 hl (k := 4) rfl (by rw [ex_388]; rfl) (by decide) rfl (fun ls hl => ?_)
            refine lv_goto (tgt := 2) hx hb dX12_spanOf_41 (by decide) ?_
            exact ih x_388 f_384 f_385 _ _ _ (gi_w gx_388 (by decide)) (by have av3 := gv3.1; have bv3 := gv3.2; have qgx_388 := gx_388.1; have rgx_388 := gx_388.2; have igx_388 : x_388.toInt = v3.toInt + 1 := (by have hc1 : (1 : Int32).toInt = 1 := (by decide); have h9 := gi_addI ex_388 (by have h1 := g_369.1; have h2 := (gi_c 1 1 (by decide)).1; have h3 := g_369.2; have h4 := (gi_c 1 1 (by decide)).2; omega) (by have h1 := g_369.1; have h2 := (gi_c 1 1 (by decide)).1; have h3 := g_369.2; have h4 := (gi_c 1 1 (by decide)).2; omega); rw [hc1] at h9; exact h9); have qgv3 := g_369.1; have rgv3 := g_369.2; omega) hP hD hS (lv_sub hl [2, 3, 4, 0] rfl)
          · have g_389 : gi r_383 1 2147483647 := gi_lt_r (Int32.not_le.mp c_386) (gi_c 0 0 (by decide)) (gi_any r_383) (by decide)
            refine lv_iload hx hb dX12_spanOf_35 (lv_at hl 0 rfl) ?_
            exact kr37 x_382 f_384 f_385 _ _ _ gx_382 hP hD hS (lv_sub hl [] rfl)
set_option maxHeartbeats 4000000 in
set_option maxRecDepth 100000 in
theorem sX12_spanOf (l : Launch) (dC : Nat → ClassId) (dI : Nat → Nat → Nat) (sz : Nat) (h0 : Nat) (mi : Nat → Int32) (mr : Nat → Nat) (km_must : ClassId) (fm_must : Nat → Int32) (km_least : ClassId) (fm_least : Nat → Int32) (km_pin : ClassId) (fm_pin : Nat → Int32) (km_ways : ClassId) (fm_ways : Nat → Int32) (p1 : Int32) (p2 : Int32) (gmi_0 : gi (mi 0) 0 24) (gmi_1 : gi (mi 1) 0 5) (gmi_2 : gi (mi 2) 0 5) (gmi_4 : gi (mi 4) 0 1) (gmi_7 : gi (mi 7) 0 6) (gmi_10 : gi (mi 10) 0 24) (gmi_17 : gi (mi 17) 0 8) (gmi_23 : gi (mi 23) 0 300) (gmi_24 : gi (mi 24) 0 1) (gmi_26 : gi (mi 26) 0 1600) (gmi_29 : gi (mi 29) 0 1600) (gmi_30 : gi (mi 30) 0 1600) (gmi_33 : gi (mi 33) 0 1) (gmi_37 : gi (mi 37) 0 1) (gmi_41 : gi (mi 41) 0 24) (gmi_50 : gi (mi 50) 0 1) (gmi_51 : gi (mi 51) 0 1) (gmi_56 : gi (mi 56) 0 80) (gp1 : gi p1 0 24) : Met l yX12_spanOf (.code yX12_spanOf cX12_spanOf 5 (some .int) :: wsGB) ({ frames := 5, cells := 0, slots := 0, locals := 123 }) (va_Pc [.ref h0, .int p1, .int p2] (fun U => U.heap.size = sz ∧ va_P (dC, dI) vwCl [(h0, .inr (12, fsMM mi mr)), ((mr 14), .inl (km_must, 25, .inl fm_must)), ((mr 15), .inl (km_least, 25, .inl fm_least)), ((mr 16), .inl (km_pin, 25, .inl fm_pin)), ((mr 17), .inl (km_ways, 6875, .inl fm_ways))] U.heap ∧ va_K (dC, dI) vwCl [(km_must, .int), (km_least, .int), (km_pin, .int), (km_ways, .int)] U ∧ va_D (fun _ => True) [(h0, .inr (12, fsMM mi mr)), ((mr 14), .inl (km_must, 25, .inl fm_must)), ((mr 15), .inl (km_least, 25, .inl fm_least)), ((mr 16), .inl (km_pin, 25, .inl fm_pin)), ((mr 17), .inl (km_ways, 6875, .inl fm_ways))])) (va_Qi (fun (r : Int32) (u : Unit) => gi r (-2) 720) (fun _ t => ∃ (z3 : Nat → Int32) (z4 : Nat → Int32), va_P (dC, dI) vwCl [(h0, .inr (12, fsMM mi mr)), ((mr 14), .inl (km_must, 25, .inl fm_must)), ((mr 15), .inl (km_least, 25, .inl fm_least)), ((mr 16), .inl (km_pin, 25, .inl z3)), ((mr 17), .inl (km_ways, 6875, .inl z4))] t.heap ∧ va_D (va_A [(h0, .inr (12, fsMM mi mr)), ((mr 14), .inl (km_must, 25, .inl fm_must)), ((mr 15), .inl (km_least, 25, .inl fm_least)), ((mr 16), .inl (km_pin, 25, .inl fm_pin)), ((mr 17), .inl (km_ways, 6875, .inl fm_ways))] sz) [(h0, .inr (12, fsMM mi mr)), ((mr 14), .inl (km_must, 25, .inl fm_must)), ((mr 15), .inl (km_least, 25, .inl fm_least)), ((mr 16), .inl (km_pin, 25, .inl z3)), ((mr 17), .inl (km_ways, 6875, .inl z4))]) (va_A [(h0, .inr (12, fsMM mi mr)), ((mr 14), .inl (km_must, 25, .inl fm_must)), ((mr 15), .inl (km_least, 25, .inl fm_least)), ((mr 16), .inl (km_pin, 25, .inl fm_pin)), ((mr 17), .inl (km_ways, 6875, .inl fm_ways))] sz)) 0 0 (va_A [(h0, .inr (12, fsMM mi mr)), ((mr 14), .inl (km_must, 25, .inl fm_must)), ((mr 15), .inl (km_least, 25, .inl fm_least)), ((mr 16), .inl (km_pin, 25, .inl fm_pin)), ((mr 17), .inl (km_ways, 6875, .inl fm_ways))] sz) := by
  refine Met.ofW (cc := cX12_spanOf) (maxL := 5) (ret := (some .int)) (by decide) rfl ?_
  intro p e s m args below meth c s₁ B hml hv
  obtain ⟨rfl, hsz, hP, hK, hD0⟩ := hv
  have hx := B.exec
  have hb := B.bytes
  have hr := B.returns
  have hts := atoms_spec (ws := (.code yX12_spanOf cX12_spanOf 5 (some .int) :: wsGB)) B.pre
  have hown : s.vm.findClass RX12 = some m.cls := findClass_of_methodNamed B.named
  have hlocks := B.notSynchronized
  subst hsz
  have hD := hD0.self (sz := s.heap.size)
  generalize hAe : va_A [(h0, .inr (12, fsMM mi mr)), ((mr 14), .inl (km_must, 25, .inl fm_must)), ((mr 15), .inl (km_least, 25, .inl fm_least)), ((mr 16), .inl (km_pin, 25, .inl fm_pin)), ((mr 17), .inl (km_ways, 6875, .inl fm_ways))] s.heap.size = A at hD ⊢
  have hA : ∀ q : Nat, s.heap.size ≤ q → A q := fun q h => by rw [← hAe]; exact Or.inr h
  have hS : va_S A s.heap s.heap [] := va_S.rf
  have hl := lv_entry ([.ref h0, .int p1, .int p2]) (n := 5) (Nat.le_of_ble_eq_true rfl)
  rw [lg_entry_eq]
  generalize (lg_sl ([.ref h0, .int p1, .int p2]) ++ List.replicate (5 - (lg_sl ([.ref h0, .int p1, .int p2])).length) Slot.unset).toArray = ls at hl ⊢
  have hl : lv_has ls 5 [(0, .ref h0), (1, .int p1), (2, .int p2)] := hl
  refine lv_iconst (v := 0) hx hb dX12_spanOf_0 (by decide) ?_
  refine lv_istore_n (lv' := [(3, .int 0), (0, .ref h0), (1, .int p1), (2, .int p2)]) hx hb dX12_spanOf_1 rfl hl (by decide) rfl (fun ls hl => ?_)
  refine (lp_sX12_spanOf h0 mi mr km_must fm_must km_least fm_least km_pin fm_pin km_ways fm_ways p1 p2 gmi_0 gmi_1 gmi_2 gmi_4 gmi_7 gmi_10 gmi_17 gmi_23 gmi_24 gmi_26 gmi_29 gmi_30 gmi_33 gmi_37 gmi_41 gmi_50 gmi_51 gmi_56 gp1 hx hb hml hown hts hK hA (Nat.le_of_ble_eq_true rfl) (Nat.le_of_ble_eq_true rfl) (Nat.zero_le _) (Nat.zero_le _) (fun v z3 z4 H locs ls gv hP hD hS hl => ?_) (fun v z3 z4 H locs ls gv hP hD hS hl => ?_) 64) 0 fm_pin fm_ways _ _ _ (gi_w (gi_c 0 0 (by decide)) (by decide)) (by have k0 : (0 : Int32).toInt = 0 := (by decide); omega) hP hD hS (lv_sub hl [1, 2, 3, 0] rfl)
  · skip
    exact W.iret (v := v) hx hb hr (fun t ht hW => ⟨⟨v, (), rfl, (gi_w gv (by decide)), z3, z4, by rw [ht]; exact hP, hD⟩, hS.F ht⟩) hS.2.2 dX12_spanOf_46
  · skip
    exact W.iret (v := v) hx hb hr (fun t ht hW => ⟨⟨v, (), rfl, (gi_w gv (by decide)), z3, z4, by rw [ht]; exact hP, hD⟩, hS.F ht⟩) hS.2.2 dX12_spanOf_37
