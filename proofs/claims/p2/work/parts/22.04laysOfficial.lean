theorem dX12_laysOfficial_0 : decode cX12_laysOfficial 0 = .ok (.aload_n 0, 1) := by decide +kernel
theorem dX12_laysOfficial_1 : decode cX12_laysOfficial 1 = .ok (.invokevirtual 332, 3) := by decide +kernel
theorem dX12_laysOfficial_4 : decode cX12_laysOfficial 4 = .ok (.pop, 1) := by decide +kernel
theorem dX12_laysOfficial_5 : decode cX12_laysOfficial 5 = .ok (.iconst 0, 1) := by decide +kernel
theorem dX12_laysOfficial_6 : decode cX12_laysOfficial 6 = .ok (.istore_n 1, 1) := by decide +kernel
theorem dX12_laysOfficial_7 : decode cX12_laysOfficial 7 = .ok (.iconst 0, 1) := by decide +kernel
theorem dX12_laysOfficial_8 : decode cX12_laysOfficial 8 = .ok (.istore_n 2, 1) := by decide +kernel
theorem dX12_laysOfficial_9 : decode cX12_laysOfficial 9 = .ok (.aload_n 0, 1) := by decide +kernel
theorem dX12_laysOfficial_10 : decode cX12_laysOfficial 10 = .ok (.getfield 87, 3) := by decide +kernel
theorem dX12_laysOfficial_13 : decode cX12_laysOfficial 13 = .ok (.iconst 0, 1) := by decide +kernel
theorem dX12_laysOfficial_14 : decode cX12_laysOfficial 14 = .ok (.iconst 0, 1) := by decide +kernel
theorem dX12_laysOfficial_15 : decode cX12_laysOfficial 15 = .ok (.iastore, 1) := by decide +kernel
theorem dX12_laysOfficial_16 : decode cX12_laysOfficial 16 = .ok (.iconst 0, 1) := by decide +kernel
theorem dX12_laysOfficial_17 : decode cX12_laysOfficial 17 = .ok (.istore_n 3, 1) := by decide +kernel
theorem dX12_laysOfficial_18 : decode cX12_laysOfficial 18 = .ok (.iload_n 3, 1) := by decide +kernel
theorem dX12_laysOfficial_19 : decode cX12_laysOfficial 19 = .ok (.aload_n 0, 1) := by decide +kernel
theorem dX12_laysOfficial_20 : decode cX12_laysOfficial 20 = .ok (.getfield 117, 3) := by decide +kernel
theorem dX12_laysOfficial_23 : decode cX12_laysOfficial 23 = .ok (.if_icmp .ge 56, 3) := by decide +kernel
theorem dX12_laysOfficial_26 : decode cX12_laysOfficial 26 = .ok (.aload_n 0, 1) := by decide +kernel
theorem dX12_laysOfficial_27 : decode cX12_laysOfficial 27 = .ok (.iload_n 3, 1) := by decide +kernel
theorem dX12_laysOfficial_28 : decode cX12_laysOfficial 28 = .ok (.iload_n 1, 1) := by decide +kernel
theorem dX12_laysOfficial_29 : decode cX12_laysOfficial 29 = .ok (.iload_n 2, 1) := by decide +kernel
theorem dX12_laysOfficial_30 : decode cX12_laysOfficial 30 = .ok (.iconst 1, 1) := by decide +kernel
theorem dX12_laysOfficial_31 : decode cX12_laysOfficial 31 = .ok (.invokevirtual 328, 3) := by decide +kernel
theorem dX12_laysOfficial_34 : decode cX12_laysOfficial 34 = .ok (.ifCond .le 7, 3) := by decide +kernel
theorem dX12_laysOfficial_37 : decode cX12_laysOfficial 37 = .ok (.iconst 1, 1) := by decide +kernel
theorem dX12_laysOfficial_38 : decode cX12_laysOfficial 38 = .ok (.goto 4, 3) := by decide +kernel
theorem dX12_laysOfficial_41 : decode cX12_laysOfficial 41 = .ok (.iconst 0, 1) := by decide +kernel
theorem dX12_laysOfficial_42 : decode cX12_laysOfficial 42 = .ok (.istore 4, 2) := by decide +kernel
theorem dX12_laysOfficial_44 : decode cX12_laysOfficial 44 = .ok (.aload_n 0, 1) := by decide +kernel
theorem dX12_laysOfficial_45 : decode cX12_laysOfficial 45 = .ok (.iload_n 2, 1) := by decide +kernel
theorem dX12_laysOfficial_46 : decode cX12_laysOfficial 46 = .ok (.iload 4, 2) := by decide +kernel
theorem dX12_laysOfficial_48 : decode cX12_laysOfficial 48 = .ok (.invokevirtual 318, 3) := by decide +kernel
theorem dX12_laysOfficial_51 : decode cX12_laysOfficial 51 = .ok (.istore_n 2, 1) := by decide +kernel
theorem dX12_laysOfficial_52 : decode cX12_laysOfficial 52 = .ok (.iload_n 1, 1) := by decide +kernel
theorem dX12_laysOfficial_53 : decode cX12_laysOfficial 53 = .ok (.iload 4, 2) := by decide +kernel
theorem dX12_laysOfficial_55 : decode cX12_laysOfficial 55 = .ok (.iadd, 1) := by decide +kernel
theorem dX12_laysOfficial_56 : decode cX12_laysOfficial 56 = .ok (.istore_n 1, 1) := by decide +kernel
theorem dX12_laysOfficial_57 : decode cX12_laysOfficial 57 = .ok (.aload_n 0, 1) := by decide +kernel
theorem dX12_laysOfficial_58 : decode cX12_laysOfficial 58 = .ok (.getfield 87, 3) := by decide +kernel
theorem dX12_laysOfficial_61 : decode cX12_laysOfficial 61 = .ok (.iload_n 3, 1) := by decide +kernel
theorem dX12_laysOfficial_62 : decode cX12_laysOfficial 62 = .ok (.iconst 1, 1) := by decide +kernel
theorem dX12_laysOfficial_63 : decode cX12_laysOfficial 63 = .ok (.iadd, 1) := by decide +kernel
theorem dX12_laysOfficial_64 : decode cX12_laysOfficial 64 = .ok (.bipush 29, 2) := by decide +kernel
theorem dX12_laysOfficial_66 : decode cX12_laysOfficial 66 = .ok (.iload_n 3, 1) := by decide +kernel
theorem dX12_laysOfficial_67 : decode cX12_laysOfficial 67 = .ok (.iconst 1, 1) := by decide +kernel
theorem dX12_laysOfficial_68 : decode cX12_laysOfficial 68 = .ok (.iadd, 1) := by decide +kernel
theorem dX12_laysOfficial_69 : decode cX12_laysOfficial 69 = .ok (.imul, 1) := by decide +kernel
theorem dX12_laysOfficial_70 : decode cX12_laysOfficial 70 = .ok (.iload_n 1, 1) := by decide +kernel
theorem dX12_laysOfficial_71 : decode cX12_laysOfficial 71 = .ok (.iadd, 1) := by decide +kernel
theorem dX12_laysOfficial_72 : decode cX12_laysOfficial 72 = .ok (.iastore, 1) := by decide +kernel
theorem dX12_laysOfficial_73 : decode cX12_laysOfficial 73 = .ok (.iinc 3 1, 3) := by decide +kernel
theorem dX12_laysOfficial_76 : decode cX12_laysOfficial 76 = .ok (.goto (-58), 3) := by decide +kernel
theorem dX12_laysOfficial_79 : decode cX12_laysOfficial 79 = .ok (.return_, 1) := by decide +kernel
set_option maxHeartbeats 4000000 in
set_option maxRecDepth 100000 in
theorem lp_sX12_laysOfficial {p : Program} {l : Launch} {e : Env} {R : Room} {s : State} {m : MethodId} {args : Array Value} {below : List Frame} {meth : Method} {c : Code} {Q : State → Prop} {A : Nat → Prop} {cells slots : Nat} {dC : Nat → ClassId} {dI : Nat → Nat → Nat} (h0 : Nat) (mi : Nat → Int32) (mr : Nat → Nat) (km_must : ClassId) (fm_must : Nat → Int32) (km_least : ClassId) (fm_least : Nat → Int32) (km_pin : ClassId) (fm_pin : Nat → Int32) (km_ways : ClassId) (fm_ways : Nat → Int32) (km_official : ClassId) (fm_official : Nat → Int32) (gmi_0 : gi (mi 0) 0 24) (gmi_1 : gi (mi 1) 0 5) (gmi_2 : gi (mi 2) 0 5) (gmi_4 : gi (mi 4) 0 1) (gmi_7 : gi (mi 7) 0 6) (gmi_10 : gi (mi 10) 0 24) (gmi_17 : gi (mi 17) 0 8) (gmi_23 : gi (mi 23) 0 300) (gmi_24 : gi (mi 24) 0 1) (gmi_26 : gi (mi 26) 0 1600) (gmi_29 : gi (mi 29) 0 1600) (gmi_30 : gi (mi 30) 0 1600) (gmi_33 : gi (mi 33) 0 1) (gmi_37 : gi (mi 37) 0 1) (gmi_41 : gi (mi 41) 0 24) (gmi_50 : gi (mi 50) 0 1) (gmi_51 : gi (mi 51) 0 1) (gmi_56 : gi (mi 56) 0 80) (hx : p.tables.exec = Jvm.exec) (hb : c.code = cX12_laysOfficial) (hml : c.maxLocals = 5) (hown : s.vm.findClass RX12 = some m.cls) (hts : ∀ w ∈ ((.code yX12_laysOfficial cX12_laysOfficial 5 none :: wsGB) : List Cond), w.before args s = true) (hK : va_K (dC, dI) vwCl [(km_must, .int), (km_least, .int), (km_pin, .int), (km_ways, .int), (km_official, .int)] s) (hA : ∀ q : Nat, s.heap.size ≤ q → A q) (hRf : 3 ≤ R.frames) (hRl : 73 ≤ R.locals) (hRc : cells ≤ R.cells) (hRs : slots ≤ R.slots) (kr79 : ∀ (z4 : Nat → Int32) (z5 : Nat → Int32) (H : Heap) (locs : List Loc) (ls : Array Slot), va_P (dC, dI) vwCl [(h0, .inr (12, fsMM mi mr)), ((mr 14), .inl (km_must, 25, .inl fm_must)), ((mr 15), .inl (km_least, 25, .inl fm_least)), ((mr 16), .inl (km_pin, 25, .inl fm_pin)), ((mr 17), .inl (km_ways, 6875, .inl z4)), ((mr 20), .inl (km_official, 25, .inl z5))] H → va_D A [(h0, .inr (12, fsMM mi mr)), ((mr 14), .inl (km_must, 25, .inl fm_must)), ((mr 15), .inl (km_least, 25, .inl fm_least)), ((mr 16), .inl (km_pin, 25, .inl fm_pin)), ((mr 17), .inl (km_ways, 6875, .inl z4)), ((mr 20), .inl (km_official, 25, .inl z5))] → va_S A s.heap H locs → lv_has ls 5 [] → W p l e R s m args below meth c H locs cells slots Q (F0 m 79 ls [])) : ∀ z : Nat, (∀ (v1 : Int32) (v2 : Int32) (v3 : Int32) (z4 : Nat → Int32) (z5 : Nat → Int32) (H : Heap) (locs : List Loc) (ls : Array Slot), gi v1 0 24 → gi v2 (-1) 10 → gi v3 0 24 → v1.toInt ≤ v3.toInt → 49 + (-2) * v3.toInt < (z : Int) → va_P (dC, dI) vwCl [(h0, .inr (12, fsMM mi mr)), ((mr 14), .inl (km_must, 25, .inl fm_must)), ((mr 15), .inl (km_least, 25, .inl fm_least)), ((mr 16), .inl (km_pin, 25, .inl fm_pin)), ((mr 17), .inl (km_ways, 6875, .inl z4)), ((mr 20), .inl (km_official, 25, .inl z5))] H → va_D A [(h0, .inr (12, fsMM mi mr)), ((mr 14), .inl (km_must, 25, .inl fm_must)), ((mr 15), .inl (km_least, 25, .inl fm_least)), ((mr 16), .inl (km_pin, 25, .inl fm_pin)), ((mr 17), .inl (km_ways, 6875, .inl z4)), ((mr 20), .inl (km_official, 25, .inl z5))] → va_S A s.heap H locs → lv_has ls 5 [(0, .ref h0), (1, .int v1), (2, .int v2), (3, .int v3)] → W p l e R s m args below meth c H locs cells slots Q (F0 m 18 ls [])) := by
  intro z
  induction z with
  | zero =>
    intro v1 v2 v3 z4 z5 H locs ls gv1 gv2 gv3 hle_gv1_gv3 hmu hP hD hS hl
    exact absurd hmu (by have hv31 := gv3.1; have hv32 := gv3.2; omega)
  | succ z ih =>
      intro v1 v2 v3 z4 z5 H locs ls gv1 gv2 gv3 hle_gv1_gv3 hmu hP hD hS hl
      refine lv_iload_n hx hb dX12_laysOfficial_18 rfl (lv_at hl 3 rfl) ?_
      refine lv_aload_n hx hb dX12_laysOfficial_19 rfl (lv_at hl 0 rfl) ?_
      refine va_get (D := (dC, dI)) (ci := 12) (v := .int (mi 0)) (C := RX12) (T := TX12) (N := 57) hx hb hts (fun w h => List.mem_cons_of_mem _ (jnGB_X12 w h)) hown hK hP 0 rfl rfl 0 (by decide) (hts _ (List.mem_cons_of_mem _ mGB_103)) (fun _ h9 => h9) rfl dX12_laysOfficial_20 ?_
      refine lv_icmp_ge (tgt := 79) hx hb dX12_laysOfficial_23 (by decide) (fun c_392 => ?_) (fun c_392 => ?_)
      · exact kr79 z4 z5 _ _ _ hP hD hS (lv_sub hl [] rfl)
      · have g_393 : gi v3 0 23 := gi_lt_l (Int32.not_le.mp c_392) gv3 gmi_0 (by decide)
        have g_394 : gi v1 0 23 := gi_rel hle_gv1_gv3 gv1 g_393
        have g_395 : gi (mi 0) 1 24 := gi_lt_r (Int32.not_le.mp c_392) gv3 gmi_0 (by decide)
        refine lv_aload_n hx hb dX12_laysOfficial_26 rfl (lv_at hl 0 rfl) ?_
        refine lv_iload_n hx hb dX12_laysOfficial_27 rfl (lv_at hl 3 rfl) ?_
        refine lv_iload_n hx hb dX12_laysOfficial_28 rfl (lv_at hl 1 rfl) ?_
        refine lv_iload_n hx hb dX12_laysOfficial_29 rfl (lv_at hl 2 rfl) ?_
        refine lv_iconst (v := 1) hx hb dX12_laysOfficial_30 (by decide) ?_
        have hPc := hP.sub (ws' := [(h0, .inr (12, fsMM mi mr)), ((mr 17), .inl (km_ways, 6875, .inl z4))]) [0, 4] rfl
        have hKc := hK.sub (tys' := [(km_ways, .int)]) [3] rfl
        refine va_calli (va_runV (As := [.int v3, .int v1, .int v2, .int 1]) (rest := []) ⟨hx, hb, hml, hown, hts⟩ (sX12_waysBy l dC dI h0 mi mr km_ways z4 v3 v1 v2 1 (gi_w g_395 (by decide)) gmi_1 gmi_2 gmi_4 gmi_7 gmi_10 gmi_17 gmi_23 gmi_24 gmi_26 gmi_29 gmi_30 gmi_33 gmi_37 gmi_41 gmi_50 gmi_51 gmi_56 g_393 g_394 gv2 (gi_w (gi_c 1 1 (by decide)) (by decide))) (cwV 4 hts (gz_gV mGB_307 mGB_308 mGB_309 mGB_1 mGB_310 goodGB) rfl rfl rfl (by decide +kernel) ⟨Nat.le_trans (Nat.le_of_ble_eq_true rfl) hRf, Nat.le_trans (Nat.le_of_ble_eq_true rfl) hRl⟩) ⟨fun a U g mk q => by obtain ⟨q0, qP, qK⟩ := q; exact ⟨q0, qP, va_K.moved (u := U) (U := U.calling g mk a) (Vm.Alike.refl U.vm) qK⟩, va_recv hKc hPc (ci := 12) (q0 := 0) rfl rfl, fun U hU hW => ⟨rfl, by rw [hU]; exact hPc, va_K.moved hW.alike hKc⟩⟩ rfl rfl hl.1 rfl (lv_room (Nat.le_of_ble_eq_true rfl)) dX12_laysOfficial_31 ⟨hRc, hRs⟩) hS (fun q _ h => h.elim) (fun q h => h.elim) (fun r_396 u t H1 locs ht hvm hw hB hz1 hk1 hS => ?_)
        have hP := gz_keep hP hk1
        generalize H1 = H at hP hS ⊢
        refine lv_if_le (tgt := 41) hx hb dX12_laysOfficial_34 (by decide) (fun c_397 => ?_) (fun c_397 => ?_)
        · have g_398 : gi r_396 (-2147483648) 0 := gi_le_l c_397 (gi_any r_396) (gi_c 0 0 (by decide))
          refine lv_iconst (v := 0) hx hb dX12_laysOfficial_41 (by decide) ?_
          refine lv_istore (lv' := [(4, .int 0), (0, .ref h0), (1, .int v1), (2, .int v2), (3, .int v3)]) hx hb dX12_laysOfficial_42 hl (by decide) rfl (fun ls hl => ?_)
          refine lv_aload_n hx hb dX12_laysOfficial_44 rfl (lv_at hl 1 rfl) ?_
          refine lv_iload_n hx hb dX12_laysOfficial_45 rfl (lv_at hl 3 rfl) ?_
          refine lv_iload hx hb dX12_laysOfficial_46 (lv_at hl 0 rfl) ?_
          have hPc := hP.sub (ws' := [(h0, .inr (12, fsMM mi mr))]) [0] rfl
          have hKc := hK.sub (tys' := []) [] rfl
          refine va_calli (va_runV (As := [.int v2, .int 0]) (rest := []) ⟨hx, hb, hml, hown, hts⟩ (sX12_runBehind l dC dI h0 mi mr v2 0 (gi_w g_395 (by decide)) gmi_1 gmi_2 gmi_4 gmi_7 gmi_10 gmi_17 gmi_23 gmi_24 gmi_26 gmi_29 gmi_30 gmi_33 gmi_37 gmi_41 gmi_50 gmi_51 gmi_56 gv2 (gi_w (gi_c 0 0 (by decide)) (by decide))) (cwV 2 hts (gz_gV mGB_311 mGB_312 mGB_313 mGB_1 mGB_314 goodGB) rfl rfl rfl (by decide +kernel) ⟨Nat.le_trans (Nat.le_of_ble_eq_true rfl) hRf, Nat.le_trans (Nat.le_of_ble_eq_true rfl) hRl⟩) ⟨fun a U g mk q => by obtain ⟨q0, qP, qK⟩ := q; exact ⟨q0, qP, va_K.moved (u := U) (U := U.calling g mk a) (Vm.Alike.refl U.vm) qK⟩, va_recv hKc hPc (ci := 12) (q0 := 0) rfl rfl, fun U hU hW => ⟨rfl, by rw [hU]; exact hPc, va_K.moved hW.alike hKc⟩⟩ rfl rfl hl.1 rfl (lv_room (Nat.le_of_ble_eq_true rfl)) dX12_laysOfficial_48 ⟨hRc, hRs⟩) hS (fun q _ h => h.elim) (fun q h => h.elim) (fun r_399 u t H1 locs ht hvm hw hB hz1 hk1 hS => ?_)
          have hP := gz_keep hP hk1
          generalize H1 = H at hP hS ⊢
          have gr_399 : gi r_399 (-1) 10 := hw
          refine lv_istore_n (lv' := [(2, .int r_399), (4, .int 0), (0, .ref h0), (1, .int v1), (3, .int v3)]) hx hb dX12_laysOfficial_51 rfl hl (by decide) rfl (fun ls hl => ?_)
          refine lv_iload_n hx hb dX12_laysOfficial_52 rfl (lv_at hl 3 rfl) ?_
          refine lv_iload hx hb dX12_laysOfficial_53 (lv_at hl 1 rfl) ?_
          refine lv_iadd hx hb dX12_laysOfficial_55 ?_
          refine lv_topi (fun x_400 ex_400 => ?_)
          have gx_400 : gi x_400 0 23 := gi_add ex_400 g_394 (gi_c 0 0 (by decide)) (by decide)
          refine lv_istore_n (lv' := [(1, .int x_400), (2, .int r_399), (4, .int 0), (0, .ref h0), (3, .int v3)]) hx hb dX12_laysOfficial_56 rfl hl (by decide) rfl (fun ls hl => ?_)
          refine lv_aload_n hx hb dX12_laysOfficial_57 rfl (lv_at hl 3 rfl) ?_
          refine va_get (D := (dC, dI)) (ci := 12) (v := .ref (mr 20)) (C := RX12) (T := TX12) (N := 57) hx hb hts (fun w h => List.mem_cons_of_mem _ (jnGB_X12 w h)) hown hK hP 0 rfl rfl 46 (by decide) (hts _ (List.mem_cons_of_mem _ mGB_36)) (fun _ h9 => h9) rfl dX12_laysOfficial_58 ?_
          refine lv_iload_n hx hb dX12_laysOfficial_61 rfl (lv_at hl 4 rfl) ?_
          refine lv_iconst (v := 1) hx hb dX12_laysOfficial_62 (by decide) ?_
          refine lv_iadd hx hb dX12_laysOfficial_63 ?_
          refine lv_topi (fun x_401 ex_401 => ?_)
          have gx_401 : gi x_401 1 24 := gi_add ex_401 g_393 (gi_c 1 1 (by decide)) (by decide)
          refine lv_bipush (v := 29) hx hb dX12_laysOfficial_64 (by decide) ?_
          refine lv_iload_n hx hb dX12_laysOfficial_66 rfl (lv_at hl 4 rfl) ?_
          refine lv_iconst (v := 1) hx hb dX12_laysOfficial_67 (by decide) ?_
          refine lv_iadd hx hb dX12_laysOfficial_68 ?_
          refine lv_topi (fun x_402 ex_402 => ?_)
          have gx_402 : gi x_402 1 24 := gi_add ex_402 g_393 (gi_c 1 1 (by decide)) (by decide)
          refine lv_imul hx hb dX12_laysOfficial_69 ?_
          refine lv_topi (fun x_403 ex_403 => ?_)
          have gx_403 : gi x_403 29 696 := gi_mul ex_403 (gi_c 29 29 (by decide)) gx_402 (by decide)
          refine lv_iload_n hx hb dX12_laysOfficial_70 rfl (lv_at hl 0 rfl) ?_
          refine lv_iadd hx hb dX12_laysOfficial_71 ?_
          refine lv_topi (fun x_404 ex_404 => ?_)
          have gx_404 : gi x_404 29 719 := gi_add ex_404 gx_403 gx_400 (by decide)
          refine va_iast hx hb hK hP hD hS 5 4 rfl rfl (gi_in gx_401 (by decide)) dX12_laysOfficial_72 (fun H locs hP hD hS => ?_)
          have hP : va_P (dC, dI) vwCl [(h0, .inr (12, fsMM mi mr)), ((mr 14), .inl (km_must, 25, .inl fm_must)), ((mr 15), .inl (km_least, 25, .inl fm_least)), ((mr 16), .inl (km_pin, 25, .inl fm_pin)), ((mr 17), .inl (km_ways, 6875, .inl z4)), ((mr 20), .inl (km_official, 25, .inl (upd z5 (x_401 : Int32).toNatClampNeg x_404)))] H := hP
          have hD : va_D A [(h0, .inr (12, fsMM mi mr)), ((mr 14), .inl (km_must, 25, .inl fm_must)), ((mr 15), .inl (km_least, 25, .inl fm_least)), ((mr 16), .inl (km_pin, 25, .inl fm_pin)), ((mr 17), .inl (km_ways, 6875, .inl z4)), ((mr 20), .inl (km_official, 25, .inl (upd z5 (x_401 : Int32).toNatClampNeg x_404)))] := hD
          generalize upd z5 (x_401 : Int32).toNatClampNeg x_404 = f_405 at hP hD
          obtain ⟨x_406, ex_406⟩ : ∃ y : Int32, y = v3 + 1 := ⟨_, rfl⟩
          have gx_406 : gi x_406 1 24 := gi_add ex_406 g_393 (gi_c 1 1 (by decide)) (by decide)
          refine lv_iinc (v := x_406) (lv' := [(3, .int x_406), (1, .int x_400), (2, .int r_399), (4, .int 0), (0, .ref h0)]) hx hb dX12_laysOfficial_73 hl (k := 4) rfl (by rw [ex_406]; rfl) (by decide) rfl (fun ls hl => ?_)
          refine lv_goto (tgt := 18) hx hb dX12_laysOfficial_76 (by decide) ?_
          exact ih x_400 r_399 x_406 z4 f_405 _ _ _ (gi_w gx_400 (by decide)) gr_399 (gi_w gx_406 (by decide)) (by have qgx_406 := gx_406.1; have rgx_406 := gx_406.2; have igx_406 : x_406.toInt = v3.toInt + 1 := (by have hc1 : (1 : Int32).toInt = 1 := (by decide); have h9 := gi_addI ex_406 (by have h1 := g_393.1; have h2 := (gi_c 1 1 (by decide)).1; have h3 := g_393.2; have h4 := (gi_c 1 1 (by decide)).2; omega) (by have h1 := g_393.1; have h2 := (gi_c 1 1 (by decide)).1; have h3 := g_393.2; have h4 := (gi_c 1 1 (by decide)).2; omega); rw [hc1] at h9; exact h9); have qgv3 := g_393.1; have rgv3 := g_393.2; have qgx_400 := gx_400.1; have rgx_400 := gx_400.2; have igx_400 : x_400.toInt = v1.toInt + 0 := (by have hc0 : (0 : Int32).toInt = 0 := (by decide); have h9 := gi_addI ex_400 (by have h1 := g_394.1; have h2 := (gi_c 0 0 (by decide)).1; have h3 := g_394.2; have h4 := (gi_c 0 0 (by decide)).2; omega) (by have h1 := g_394.1; have h2 := (gi_c 0 0 (by decide)).1; have h3 := g_394.2; have h4 := (gi_c 0 0 (by decide)).2; omega); rw [hc0] at h9; exact h9); have qgv1 := g_394.1; have rgv1 := g_394.2; have y1 := (Int32.lt_iff_toInt_lt.mp (Int32.not_le.mp c_392)); omega) (by have av3 := gv3.1; have bv3 := gv3.2; have qgx_406 := gx_406.1; have rgx_406 := gx_406.2; have igx_406 : x_406.toInt = v3.toInt + 1 := (by have hc1 : (1 : Int32).toInt = 1 := (by decide); have h9 := gi_addI ex_406 (by have h1 := g_393.1; have h2 := (gi_c 1 1 (by decide)).1; have h3 := g_393.2; have h4 := (gi_c 1 1 (by decide)).2; omega) (by have h1 := g_393.1; have h2 := (gi_c 1 1 (by decide)).1; have h3 := g_393.2; have h4 := (gi_c 1 1 (by decide)).2; omega); rw [hc1] at h9; exact h9); have qgv3 := g_393.1; have rgv3 := g_393.2; omega) hP hD hS (lv_sub hl [4, 1, 2, 0] rfl)
        · have g_407 : gi r_396 1 2147483647 := gi_lt_r (Int32.not_le.mp c_397) (gi_c 0 0 (by decide)) (gi_any r_396) (by decide)
          refine lv_iconst (v := 1) hx hb dX12_laysOfficial_37 (by decide) ?_
          refine lv_goto (tgt := 42) hx hb dX12_laysOfficial_38 (by decide) ?_
          refine lv_istore (lv' := [(4, .int 1), (0, .ref h0), (1, .int v1), (2, .int v2), (3, .int v3)]) hx hb dX12_laysOfficial_42 hl (by decide) rfl (fun ls hl => ?_)
          refine lv_aload_n hx hb dX12_laysOfficial_44 rfl (lv_at hl 1 rfl) ?_
          refine lv_iload_n hx hb dX12_laysOfficial_45 rfl (lv_at hl 3 rfl) ?_
          refine lv_iload hx hb dX12_laysOfficial_46 (lv_at hl 0 rfl) ?_
          have hPc := hP.sub (ws' := [(h0, .inr (12, fsMM mi mr))]) [0] rfl
          have hKc := hK.sub (tys' := []) [] rfl
          refine va_calli (va_runV (As := [.int v2, .int 1]) (rest := []) ⟨hx, hb, hml, hown, hts⟩ (sX12_runBehind l dC dI h0 mi mr v2 1 (gi_w g_395 (by decide)) gmi_1 gmi_2 gmi_4 gmi_7 gmi_10 gmi_17 gmi_23 gmi_24 gmi_26 gmi_29 gmi_30 gmi_33 gmi_37 gmi_41 gmi_50 gmi_51 gmi_56 gv2 (gi_w (gi_c 1 1 (by decide)) (by decide))) (cwV 2 hts (gz_gV mGB_311 mGB_312 mGB_313 mGB_1 mGB_314 goodGB) rfl rfl rfl (by decide +kernel) ⟨Nat.le_trans (Nat.le_of_ble_eq_true rfl) hRf, Nat.le_trans (Nat.le_of_ble_eq_true rfl) hRl⟩) ⟨fun a U g mk q => by obtain ⟨q0, qP, qK⟩ := q; exact ⟨q0, qP, va_K.moved (u := U) (U := U.calling g mk a) (Vm.Alike.refl U.vm) qK⟩, va_recv hKc hPc (ci := 12) (q0 := 0) rfl rfl, fun U hU hW => ⟨rfl, by rw [hU]; exact hPc, va_K.moved hW.alike hKc⟩⟩ rfl rfl hl.1 rfl (lv_room (Nat.le_of_ble_eq_true rfl)) dX12_laysOfficial_48 ⟨hRc, hRs⟩) hS (fun q _ h => h.elim) (fun q h => h.elim) (fun r_408 u t H1 locs ht hvm hw hB hz1 hk1 hS => ?_)
          have hP := gz_keep hP hk1
          generalize H1 = H at hP hS ⊢
          have gr_408 : gi r_408 (-1) 10 := hw
          refine lv_istore_n (lv' := [(2, .int r_408), (4, .int 1), (0, .ref h0), (1, .int v1), (3, .int v3)]) hx hb dX12_laysOfficial_51 rfl hl (by decide) rfl (fun ls hl => ?_)
          refine lv_iload_n hx hb dX12_laysOfficial_52 rfl (lv_at hl 3 rfl) ?_
          refine lv_iload hx hb dX12_laysOfficial_53 (lv_at hl 1 rfl) ?_
          refine lv_iadd hx hb dX12_laysOfficial_55 ?_
          refine lv_topi (fun x_409 ex_409 => ?_)
          have gx_409 : gi x_409 1 24 := gi_add ex_409 g_394 (gi_c 1 1 (by decide)) (by decide)
          refine lv_istore_n (lv' := [(1, .int x_409), (2, .int r_408), (4, .int 1), (0, .ref h0), (3, .int v3)]) hx hb dX12_laysOfficial_56 rfl hl (by decide) rfl (fun ls hl => ?_)
          refine lv_aload_n hx hb dX12_laysOfficial_57 rfl (lv_at hl 3 rfl) ?_
          refine va_get (D := (dC, dI)) (ci := 12) (v := .ref (mr 20)) (C := RX12) (T := TX12) (N := 57) hx hb hts (fun w h => List.mem_cons_of_mem _ (jnGB_X12 w h)) hown hK hP 0 rfl rfl 46 (by decide) (hts _ (List.mem_cons_of_mem _ mGB_36)) (fun _ h9 => h9) rfl dX12_laysOfficial_58 ?_
          refine lv_iload_n hx hb dX12_laysOfficial_61 rfl (lv_at hl 4 rfl) ?_
          refine lv_iconst (v := 1) hx hb dX12_laysOfficial_62 (by decide) ?_
          refine lv_iadd hx hb dX12_laysOfficial_63 ?_
          refine lv_topi (fun x_410 ex_410 => ?_)
          have gx_410 : gi x_410 1 24 := gi_add ex_410 g_393 (gi_c 1 1 (by decide)) (by decide)
          refine lv_bipush (v := 29) hx hb dX12_laysOfficial_64 (by decide) ?_
          refine lv_iload_n hx hb dX12_laysOfficial_66 rfl (lv_at hl 4 rfl) ?_
          refine lv_iconst (v := 1) hx hb dX12_laysOfficial_67 (by decide) ?_
          refine lv_iadd hx hb dX12_laysOfficial_68 ?_
          refine lv_topi (fun x_411 ex_411 => ?_)
          have gx_411 : gi x_411 1 24 := gi_add ex_411 g_393 (gi_c 1 1 (by decide)) (by decide)
          refine lv_imul hx hb dX12_laysOfficial_69 ?_
          refine lv_topi (fun x_412 ex_412 => ?_)
          have gx_412 : gi x_412 29 696 := gi_mul ex_412 (gi_c 29 29 (by decide)) gx_411 (by decide)
          refine lv_iload_n hx hb dX12_laysOfficial_70 rfl (lv_at hl 0 rfl) ?_
          refine lv_iadd hx hb dX12_laysOfficial_71 ?_
          refine lv_topi (fun x_413 ex_413 => ?_)
          have gx_413 : gi x_413 30 720 := gi_add ex_413 gx_412 gx_409 (by decide)
          refine va_iast hx hb hK hP hD hS 5 4 rfl rfl (gi_in gx_410 (by decide)) dX12_laysOfficial_72 (fun H locs hP hD hS => ?_)
          have hP : va_P (dC, dI) vwCl [(h0, .inr (12, fsMM mi mr)), ((mr 14), .inl (km_must, 25, .inl fm_must)), ((mr 15), .inl (km_least, 25, .inl fm_least)), ((mr 16), .inl (km_pin, 25, .inl fm_pin)), ((mr 17), .inl (km_ways, 6875, .inl z4)), ((mr 20), .inl (km_official, 25, .inl (upd z5 (x_410 : Int32).toNatClampNeg x_413)))] H := hP
          have hD : va_D A [(h0, .inr (12, fsMM mi mr)), ((mr 14), .inl (km_must, 25, .inl fm_must)), ((mr 15), .inl (km_least, 25, .inl fm_least)), ((mr 16), .inl (km_pin, 25, .inl fm_pin)), ((mr 17), .inl (km_ways, 6875, .inl z4)), ((mr 20), .inl (km_official, 25, .inl (upd z5 (x_410 : Int32).toNatClampNeg x_413)))] := hD
          generalize upd z5 (x_410 : Int32).toNatClampNeg x_413 = f_414 at hP hD
          obtain ⟨x_415, ex_415⟩ : ∃ y : Int32, y = v3 + 1 := ⟨_, rfl⟩
          have gx_415 : gi x_415 1 24 := gi_add ex_415 g_393 (gi_c 1 1 (by decide)) (by decide)
          refine lv_iinc (v := x_415) (lv' := [(3, .int x_415), (1, .int x_409), (2, .int r_408), (4, .int 1), (0, .ref h0)]) hx hb dX12_laysOfficial_73 hl (k := 4) rfl (by rw [ex_415]; rfl) (by decide) rfl (fun ls hl => ?_)
          refine lv_goto (tgt := 18) hx hb dX12_laysOfficial_76 (by decide) ?_
          exact ih x_409 r_408 x_415 z4 f_414 _ _ _ (gi_w gx_409 (by decide)) gr_408 (gi_w gx_415 (by decide)) (by have qgx_415 := gx_415.1; have rgx_415 := gx_415.2; have igx_415 : x_415.toInt = v3.toInt + 1 := (by have hc1 : (1 : Int32).toInt = 1 := (by decide); have h9 := gi_addI ex_415 (by have h1 := g_393.1; have h2 := (gi_c 1 1 (by decide)).1; have h3 := g_393.2; have h4 := (gi_c 1 1 (by decide)).2; omega) (by have h1 := g_393.1; have h2 := (gi_c 1 1 (by decide)).1; have h3 := g_393.2; have h4 := (gi_c 1 1 (by decide)).2; omega); rw [hc1] at h9; exact h9); have qgv3 := g_393.1; have rgv3 := g_393.2; have qgx_409 := gx_409.1; have rgx_409 := gx_409.2; have igx_409 : x_409.toInt = v1.toInt + 1 := (by have hc1 : (1 : Int32).toInt = 1 := (by decide); have h9 := gi_addI ex_409 (by have h1 := g_394.1; have h2 := (gi_c 1 1 (by decide)).1; have h3 := g_394.2; have h4 := (gi_c 1 1 (by decide)).2; omega) (by have h1 := g_394.1; have h2 := (gi_c 1 1 (by decide)).1; have h3 := g_394.2; have h4 := (gi_c 1 1 (by decide)).2; omega); rw [hc1] at h9; exact h9); have qgv1 := g_394.1; have rgv1 := g_394.2; have y1 := (Int32.lt_iff_toInt_lt.mp (Int32.not_le.mp c_392)); omega) (by have av3 := gv3.1; have bv3 := gv3.2; have qgx_415 := gx_415.1; have rgx_415 := gx_415.2; have igx_415 : x_415.toInt = v3.toInt + 1 := (by have hc1 : (1 : Int32).toInt = 1 := (by decide); have h9 := gi_addI ex_415 (by have h1 := g_393.1; have h2 := (gi_c 1 1 (by decide)).1; have h3 := g_393.2; have h4 := (gi_c 1 1 (by decide)).2; omega) (by have h1 := g_393.1; have h2 := (gi_c 1 1 (by decide)).1; have h3 := g_393.2; have h4 := (gi_c 1 1 (by decide)).2; omega); rw [hc1] at h9; exact h9); have qgv3 := g_393.1; have rgv3 := g_393.2; omega) hP hD hS (lv_sub hl [4, 1, 2, 0] rfl)
set_option maxHeartbeats 4000000 in
set_option maxRecDepth 100000 in
theorem sX12_laysOfficial (l : Launch) (dC : Nat → ClassId) (dI : Nat → Nat → Nat) (sz : Nat) (h0 : Nat) (mi : Nat → Int32) (mr : Nat → Nat) (km_must : ClassId) (fm_must : Nat → Int32) (km_least : ClassId) (fm_least : Nat → Int32) (km_pin : ClassId) (fm_pin : Nat → Int32) (km_ways : ClassId) (fm_ways : Nat → Int32) (km_official : ClassId) (fm_official : Nat → Int32) (gmi_0 : gi (mi 0) 0 24) (gmi_1 : gi (mi 1) 0 5) (gmi_2 : gi (mi 2) 0 5) (gmi_4 : gi (mi 4) 0 1) (gmi_7 : gi (mi 7) 0 6) (gmi_10 : gi (mi 10) 0 24) (gmi_17 : gi (mi 17) 0 8) (gmi_23 : gi (mi 23) 0 300) (gmi_24 : gi (mi 24) 0 1) (gmi_26 : gi (mi 26) 0 1600) (gmi_29 : gi (mi 29) 0 1600) (gmi_30 : gi (mi 30) 0 1600) (gmi_33 : gi (mi 33) 0 1) (gmi_37 : gi (mi 37) 0 1) (gmi_41 : gi (mi 41) 0 24) (gmi_50 : gi (mi 50) 0 1) (gmi_51 : gi (mi 51) 0 1) (gmi_56 : gi (mi 56) 0 80) : Met l yX12_laysOfficial (.code yX12_laysOfficial cX12_laysOfficial 5 none :: wsGB) ({ frames := 3, cells := 0, slots := 0, locals := 73 }) (va_Pc [.ref h0] (fun U => U.heap.size = sz ∧ va_P (dC, dI) vwCl [(h0, .inr (12, fsMM mi mr)), ((mr 14), .inl (km_must, 25, .inl fm_must)), ((mr 15), .inl (km_least, 25, .inl fm_least)), ((mr 16), .inl (km_pin, 25, .inl fm_pin)), ((mr 17), .inl (km_ways, 6875, .inl fm_ways)), ((mr 20), .inl (km_official, 25, .inl fm_official))] U.heap ∧ va_K (dC, dI) vwCl [(km_must, .int), (km_least, .int), (km_pin, .int), (km_ways, .int), (km_official, .int)] U ∧ va_D (fun _ => True) [(h0, .inr (12, fsMM mi mr)), ((mr 14), .inl (km_must, 25, .inl fm_must)), ((mr 15), .inl (km_least, 25, .inl fm_least)), ((mr 16), .inl (km_pin, 25, .inl fm_pin)), ((mr 17), .inl (km_ways, 6875, .inl fm_ways)), ((mr 20), .inl (km_official, 25, .inl fm_official))])) (va_Qv (fun (u : Unit) => True) (fun _ t => ∃ (z4 : Nat → Int32) (z5 : Nat → Int32), va_P (dC, dI) vwCl [(h0, .inr (12, fsMM mi mr)), ((mr 14), .inl (km_must, 25, .inl fm_must)), ((mr 15), .inl (km_least, 25, .inl fm_least)), ((mr 16), .inl (km_pin, 25, .inl fm_pin)), ((mr 17), .inl (km_ways, 6875, .inl z4)), ((mr 20), .inl (km_official, 25, .inl z5))] t.heap ∧ va_D (va_A [(h0, .inr (12, fsMM mi mr)), ((mr 14), .inl (km_must, 25, .inl fm_must)), ((mr 15), .inl (km_least, 25, .inl fm_least)), ((mr 16), .inl (km_pin, 25, .inl fm_pin)), ((mr 17), .inl (km_ways, 6875, .inl fm_ways)), ((mr 20), .inl (km_official, 25, .inl fm_official))] sz) [(h0, .inr (12, fsMM mi mr)), ((mr 14), .inl (km_must, 25, .inl fm_must)), ((mr 15), .inl (km_least, 25, .inl fm_least)), ((mr 16), .inl (km_pin, 25, .inl fm_pin)), ((mr 17), .inl (km_ways, 6875, .inl z4)), ((mr 20), .inl (km_official, 25, .inl z5))]) (va_A [(h0, .inr (12, fsMM mi mr)), ((mr 14), .inl (km_must, 25, .inl fm_must)), ((mr 15), .inl (km_least, 25, .inl fm_least)), ((mr 16), .inl (km_pin, 25, .inl fm_pin)), ((mr 17), .inl (km_ways, 6875, .inl fm_ways)), ((mr 20), .inl (km_official, 25, .inl fm_official))] sz)) 0 0 (va_A [(h0, .inr (12, fsMM mi mr)), ((mr 14), .inl (km_must, 25, .inl fm_must)), ((mr 15), .inl (km_least, 25, .inl fm_least)), ((mr 16), .inl (km_pin, 25, .inl fm_pin)), ((mr 17), .inl (km_ways, 6875, .inl fm_ways)), ((mr 20), .inl (km_official, 25, .inl fm_official))] sz) := by
  refine Met.ofW (cc := cX12_laysOfficial) (maxL := 5) (ret := none) (by decide) rfl ?_
  intro p e s m args below meth c s₁ B hml hv
  obtain ⟨rfl, hsz, hP, hK, hD0⟩ := hv
  have hx := B.exec
  have hb := B.bytes
  have hr := B.returns
  have hts := atoms_spec (ws := (.code yX12_laysOfficial cX12_laysOfficial 5 none :: wsGB)) B.pre
  have hown : s.vm.findClass RX12 = some m.cls := findClass_of_methodNamed B.named
  have hlocks := B.notSynchronized
  subst hsz
  have hD := hD0.self (sz := s.heap.size)
  generalize hAe : va_A [(h0, .inr (12, fsMM mi mr)), ((mr 14), .inl (km_must, 25, .inl fm_must)), ((mr 15), .inl (km_least, 25, .inl fm_least)), ((mr 16), .inl (km_pin, 25, .inl fm_pin)), ((mr 17), .inl (km_ways, 6875, .inl fm_ways)), ((mr 20), .inl (km_official, 25, .inl fm_official))] s.heap.size = A at hD ⊢
  have hA : ∀ q : Nat, s.heap.size ≤ q → A q := fun q h => by rw [← hAe]; exact Or.inr h
  have hS : va_S A s.heap s.heap [] := va_S.rf
  have hl := lv_entry ([.ref h0]) (n := 5) (Nat.le_of_ble_eq_true rfl)
  rw [lg_entry_eq]
  generalize (lg_sl ([.ref h0]) ++ List.replicate (5 - (lg_sl ([.ref h0])).length) Slot.unset).toArray = ls at hl ⊢
  have hl : lv_has ls 5 [(0, .ref h0)] := hl
  refine lv_aload_n hx hb dX12_laysOfficial_0 rfl (lv_at hl 0 rfl) ?_
  have hPc := hP.sub (ws' := [(h0, .inr (12, fsMM mi mr)), ((mr 14), .inl (km_must, 25, .inl fm_must)), ((mr 15), .inl (km_least, 25, .inl fm_least)), ((mr 16), .inl (km_pin, 25, .inl fm_pin)), ((mr 17), .inl (km_ways, 6875, .inl fm_ways))]) [0, 1, 2, 3, 4] rfl
  have hKc := hK.sub (tys' := [(km_must, .int), (km_least, .int), (km_pin, .int), (km_ways, .int)]) [0, 1, 2, 3] rfl
  have hDc := hD.sub (ws' := [(h0, .inr (12, fsMM mi mr)), ((mr 14), .inl (km_must, 25, .inl fm_must)), ((mr 15), .inl (km_least, 25, .inl fm_least)), ((mr 16), .inl (km_pin, 25, .inl fm_pin)), ((mr 17), .inl (km_ways, 6875, .inl fm_ways))]) [0, 1, 2, 3, 4] (by decide) rfl
  have hFc := va_free (wc := [(h0, .inr (12, fsMM mi mr)), ((mr 14), .inl (km_must, 25, .inl fm_must)), ((mr 15), .inl (km_least, 25, .inl fm_least)), ((mr 16), .inl (km_pin, 25, .inl fm_pin)), ((mr 17), .inl (km_ways, 6875, .inl fm_ways))]) hD hS hA [0, 1, 2, 3, 4] rfl
  refine va_calli (va_runV (As := []) (rest := []) ⟨hx, hb, hml, hown, hts⟩ (sX12_counts l dC dI s.heap.size h0 mi mr km_must fm_must km_least fm_least km_pin fm_pin km_ways fm_ways gmi_0 gmi_1 gmi_2 gmi_4 gmi_7 gmi_10 gmi_17 gmi_23 gmi_24 gmi_26 gmi_29 gmi_30 gmi_33 gmi_37 gmi_41 gmi_50 gmi_51 gmi_56) (cwV 0 hts (gz_gV mGB_299 mGB_300 mGB_301 mGB_1 mGB_302 goodGB) rfl rfl rfl (by decide +kernel) ⟨Nat.le_of_ble_eq_true rfl, Nat.le_of_ble_eq_true rfl⟩) ⟨fun a U g mk q => by obtain ⟨q0, q1, qP, qK, qD⟩ := q; exact ⟨q0, q1, qP, va_K.moved (u := U) (U := U.calling g mk a) (Vm.Alike.refl U.vm) qK, qD⟩, va_recv hKc hPc (ci := 12) (q0 := 0) rfl rfl, fun U hU hW => ⟨rfl, by rw [hU], by rw [hU]; exact hPc, va_K.moved hW.alike hKc, hDc.weaken (fun _ _ _ _ => trivial)⟩⟩ rfl rfl hl.1 rfl (lv_room (Nat.le_of_ble_eq_true rfl)) dX12_laysOfficial_1 ⟨Nat.zero_le _, Nat.zero_le _⟩) hS (fun q _ h => hFc q h) hFc (fun r_416 u t H1 locs ht hvm hw hB hz1 hk1 hS => ?_)
  obtain ⟨f_417, hP1, hD1⟩ := hB
  rw [ht] at hP1
  obtain ⟨hP, hD⟩ := va_join (wr := [((mr 20), .inl (km_official, 25, .inl fm_official))]) (w1 := [(h0, .inr (12, fsMM mi mr)), ((mr 14), .inl (km_must, 25, .inl fm_must)), ((mr 15), .inl (km_least, 25, .inl fm_least)), ((mr 16), .inl (km_pin, 25, .inl fm_pin)), ((mr 17), .inl (km_ways, 6875, .inl f_417))]) hP hD [0, 1, 2, 3, 4] [5] rfl rfl (by decide) (by decide) hk1 hFc hP1 hD1
  have hP := hP.sub (ws' := [(h0, .inr (12, fsMM mi mr)), ((mr 14), .inl (km_must, 25, .inl fm_must)), ((mr 15), .inl (km_least, 25, .inl fm_least)), ((mr 16), .inl (km_pin, 25, .inl fm_pin)), ((mr 17), .inl (km_ways, 6875, .inl f_417)), ((mr 20), .inl (km_official, 25, .inl fm_official))]) [1, 2, 3, 4, 5, 0] rfl
  have hD := hD.sub (ws' := [(h0, .inr (12, fsMM mi mr)), ((mr 14), .inl (km_must, 25, .inl fm_must)), ((mr 15), .inl (km_least, 25, .inl fm_least)), ((mr 16), .inl (km_pin, 25, .inl fm_pin)), ((mr 17), .inl (km_ways, 6875, .inl f_417)), ((mr 20), .inl (km_official, 25, .inl fm_official))]) [1, 2, 3, 4, 5, 0] (by decide) rfl
  generalize H1 = H at hP hS ⊢
  refine lv_pop hx hb dX12_laysOfficial_4 rfl ?_
  refine lv_iconst (v := 0) hx hb dX12_laysOfficial_5 (by decide) ?_
  refine lv_istore_n (lv' := [(1, .int 0), (0, .ref h0)]) hx hb dX12_laysOfficial_6 rfl hl (by decide) rfl (fun ls hl => ?_)
  refine lv_iconst (v := 0) hx hb dX12_laysOfficial_7 (by decide) ?_
  refine lv_istore_n (lv' := [(2, .int 0), (1, .int 0), (0, .ref h0)]) hx hb dX12_laysOfficial_8 rfl hl (by decide) rfl (fun ls hl => ?_)
  refine lv_aload_n hx hb dX12_laysOfficial_9 rfl (lv_at hl 2 rfl) ?_
  refine va_get (D := (dC, dI)) (ci := 12) (v := .ref (mr 20)) (C := RX12) (T := TX12) (N := 57) hx hb hts (fun w h => List.mem_cons_of_mem _ (jnGB_X12 w h)) hown hK hP 0 rfl rfl 46 (by decide) (hts _ (List.mem_cons_of_mem _ mGB_36)) (fun _ h9 => h9) rfl dX12_laysOfficial_10 ?_
  refine lv_iconst (v := 0) hx hb dX12_laysOfficial_13 (by decide) ?_
  refine lv_iconst (v := 0) hx hb dX12_laysOfficial_14 (by decide) ?_
  refine va_iast hx hb hK hP hD hS 5 4 rfl rfl (gi_in (gi_c 0 0 (by decide)) (by decide)) dX12_laysOfficial_15 (fun H locs hP hD hS => ?_)
  have hP : va_P (dC, dI) vwCl [(h0, .inr (12, fsMM mi mr)), ((mr 14), .inl (km_must, 25, .inl fm_must)), ((mr 15), .inl (km_least, 25, .inl fm_least)), ((mr 16), .inl (km_pin, 25, .inl fm_pin)), ((mr 17), .inl (km_ways, 6875, .inl f_417)), ((mr 20), .inl (km_official, 25, .inl (upd fm_official (0 : Int32).toNatClampNeg 0)))] H := hP
  have hD : va_D A [(h0, .inr (12, fsMM mi mr)), ((mr 14), .inl (km_must, 25, .inl fm_must)), ((mr 15), .inl (km_least, 25, .inl fm_least)), ((mr 16), .inl (km_pin, 25, .inl fm_pin)), ((mr 17), .inl (km_ways, 6875, .inl f_417)), ((mr 20), .inl (km_official, 25, .inl (upd fm_official (0 : Int32).toNatClampNeg 0)))] := hD
  generalize upd fm_official (0 : Int32).toNatClampNeg 0 = f_418 at hP hD
  refine lv_iconst (v := 0) hx hb dX12_laysOfficial_16 (by decide) ?_
  refine lv_istore_n (lv' := [(3, .int 0), (2, .int 0), (1, .int 0), (0, .ref h0)]) hx hb dX12_laysOfficial_17 rfl hl (by decide) rfl (fun ls hl => ?_)
  refine (lp_sX12_laysOfficial h0 mi mr km_must fm_must km_least fm_least km_pin fm_pin km_ways fm_ways km_official fm_official gmi_0 gmi_1 gmi_2 gmi_4 gmi_7 gmi_10 gmi_17 gmi_23 gmi_24 gmi_26 gmi_29 gmi_30 gmi_33 gmi_37 gmi_41 gmi_50 gmi_51 gmi_56 hx hb hml hown hts hK hA (Nat.le_of_ble_eq_true rfl) (Nat.le_of_ble_eq_true rfl) (Nat.zero_le _) (Nat.zero_le _) (fun z4 z5 H locs ls hP hD hS hl => ?_) 62) 0 0 0 f_417 f_418 _ _ _ (gi_w (gi_c 0 0 (by decide)) (by decide)) (gi_w (gi_c 0 0 (by decide)) (by decide)) (gi_w (gi_c 0 0 (by decide)) (by decide)) (by have k0 : (0 : Int32).toInt = 0 := (by decide); have k0 : (0 : Int32).toInt = 0 := (by decide); omega) (by have k0 : (0 : Int32).toInt = 0 := (by decide); omega) hP hD hS (lv_sub hl [3, 2, 1, 0] rfl)
  · skip
    exact W.vret hx hb hr (fun t ht hW => ⟨⟨(), rfl, trivial, z4, z5, by rw [ht]; exact hP, hD⟩, hS.F ht⟩) hS.2.2 dX12_laysOfficial_79
