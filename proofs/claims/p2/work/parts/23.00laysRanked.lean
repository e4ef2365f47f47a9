theorem dX12_laysRanked_0 : decode cX12_laysRanked 0 = .ok (.aload_n 0, 1) := by decide +kernel
theorem dX12_laysRanked_1 : decode cX12_laysRanked 1 = .ok (.invokevirtual 332, 3) := by decide +kernel
theorem dX12_laysRanked_4 : decode cX12_laysRanked 4 = .ok (.pop, 1) := by decide +kernel
theorem dX12_laysRanked_5 : decode cX12_laysRanked 5 = .ok (.iload_n 1, 1) := by decide +kernel
theorem dX12_laysRanked_6 : decode cX12_laysRanked 6 = .ok (.istore_n 2, 1) := by decide +kernel
theorem dX12_laysRanked_7 : decode cX12_laysRanked 7 = .ok (.iconst 0, 1) := by decide +kernel
theorem dX12_laysRanked_8 : decode cX12_laysRanked 8 = .ok (.istore_n 3, 1) := by decide +kernel
theorem dX12_laysRanked_9 : decode cX12_laysRanked 9 = .ok (.iconst 0, 1) := by decide +kernel
theorem dX12_laysRanked_10 : decode cX12_laysRanked 10 = .ok (.istore 4, 2) := by decide +kernel
theorem dX12_laysRanked_12 : decode cX12_laysRanked 12 = .ok (.aload_n 0, 1) := by decide +kernel
theorem dX12_laysRanked_13 : decode cX12_laysRanked 13 = .ok (.iconst 0, 1) := by decide +kernel
theorem dX12_laysRanked_14 : decode cX12_laysRanked 14 = .ok (.putfield 397, 3) := by decide +kernel
theorem dX12_laysRanked_17 : decode cX12_laysRanked 17 = .ok (.aload_n 0, 1) := by decide +kernel
theorem dX12_laysRanked_18 : decode cX12_laysRanked 18 = .ok (.getfield 87, 3) := by decide +kernel
theorem dX12_laysRanked_21 : decode cX12_laysRanked 21 = .ok (.iconst 0, 1) := by decide +kernel
theorem dX12_laysRanked_22 : decode cX12_laysRanked 22 = .ok (.iconst 0, 1) := by decide +kernel
theorem dX12_laysRanked_23 : decode cX12_laysRanked 23 = .ok (.iastore, 1) := by decide +kernel
theorem dX12_laysRanked_24 : decode cX12_laysRanked 24 = .ok (.iconst 0, 1) := by decide +kernel
theorem dX12_laysRanked_25 : decode cX12_laysRanked 25 = .ok (.istore 5, 2) := by decide +kernel
theorem dX12_laysRanked_27 : decode cX12_laysRanked 27 = .ok (.iload 5, 2) := by decide +kernel
theorem dX12_laysRanked_29 : decode cX12_laysRanked 29 = .ok (.aload_n 0, 1) := by decide +kernel
theorem dX12_laysRanked_30 : decode cX12_laysRanked 30 = .ok (.getfield 117, 3) := by decide +kernel
theorem dX12_laysRanked_33 : decode cX12_laysRanked 33 = .ok (.if_icmp .ge 96, 3) := by decide +kernel
theorem dX12_laysRanked_36 : decode cX12_laysRanked 36 = .ok (.aload_n 0, 1) := by decide +kernel
theorem dX12_laysRanked_37 : decode cX12_laysRanked 37 = .ok (.iload 5, 2) := by decide +kernel
theorem dX12_laysRanked_39 : decode cX12_laysRanked 39 = .ok (.iload_n 3, 1) := by decide +kernel
theorem dX12_laysRanked_40 : decode cX12_laysRanked 40 = .ok (.iload 4, 2) := by decide +kernel
theorem dX12_laysRanked_42 : decode cX12_laysRanked 42 = .ok (.iconst 0, 1) := by decide +kernel
theorem dX12_laysRanked_43 : decode cX12_laysRanked 43 = .ok (.invokevirtual 328, 3) := by decide +kernel
theorem dX12_laysRanked_46 : decode cX12_laysRanked 46 = .ok (.istore 6, 2) := by decide +kernel
theorem dX12_laysRanked_48 : decode cX12_laysRanked 48 = .ok (.iload_n 2, 1) := by decide +kernel
theorem dX12_laysRanked_49 : decode cX12_laysRanked 49 = .ok (.iload 6, 2) := by decide +kernel
theorem dX12_laysRanked_51 : decode cX12_laysRanked 51 = .ok (.if_icmp .ge 7, 3) := by decide +kernel
theorem dX12_laysRanked_54 : decode cX12_laysRanked 54 = .ok (.iconst 0, 1) := by decide +kernel
theorem dX12_laysRanked_55 : decode cX12_laysRanked 55 = .ok (.goto 4, 3) := by decide +kernel
theorem dX12_laysRanked_58 : decode cX12_laysRanked 58 = .ok (.iconst 1, 1) := by decide +kernel
theorem dX12_laysRanked_59 : decode cX12_laysRanked 59 = .ok (.istore 7, 2) := by decide +kernel
theorem dX12_laysRanked_61 : decode cX12_laysRanked 61 = .ok (.iload_n 2, 1) := by decide +kernel
theorem dX12_laysRanked_62 : decode cX12_laysRanked 62 = .ok (.iload 7, 2) := by decide +kernel
theorem dX12_laysRanked_64 : decode cX12_laysRanked 64 = .ok (.iconst 1, 1) := by decide +kernel
theorem dX12_laysRanked_65 : decode cX12_laysRanked 65 = .ok (.if_icmp .ne 8, 3) := by decide +kernel
theorem dX12_laysRanked_68 : decode cX12_laysRanked 68 = .ok (.iload 6, 2) := by decide +kernel
theorem dX12_laysRanked_70 : decode cX12_laysRanked 70 = .ok (.goto 4, 3) := by decide +kernel
theorem dX12_laysRanked_73 : decode cX12_laysRanked 73 = .ok (.iconst 0, 1) := by decide +kernel
theorem dX12_laysRanked_74 : decode cX12_laysRanked 74 = .ok (.isub, 1) := by decide +kernel
theorem dX12_laysRanked_75 : decode cX12_laysRanked 75 = .ok (.istore_n 2, 1) := by decide +kernel
theorem dX12_laysRanked_76 : decode cX12_laysRanked 76 = .ok (.aload_n 0, 1) := by decide +kernel
theorem dX12_laysRanked_77 : decode cX12_laysRanked 77 = .ok (.iload 4, 2) := by decide +kernel
theorem dX12_laysRanked_79 : decode cX12_laysRanked 79 = .ok (.iload 7, 2) := by decide +kernel
theorem dX12_laysRanked_81 : decode cX12_laysRanked 81 = .ok (.invokevirtual 318, 3) := by decide +kernel
theorem dX12_laysRanked_84 : decode cX12_laysRanked 84 = .ok (.istore 4, 2) := by decide +kernel
theorem dX12_laysRanked_86 : decode cX12_laysRanked 86 = .ok (.iload_n 3, 1) := by decide +kernel
theorem dX12_laysRanked_87 : decode cX12_laysRanked 87 = .ok (.iload 7, 2) := by decide +kernel
theorem dX12_laysRanked_89 : decode cX12_laysRanked 89 = .ok (.iadd, 1) := by decide +kernel
theorem dX12_laysRanked_90 : decode cX12_laysRanked 90 = .ok (.istore_n 3, 1) := by decide +kernel
theorem dX12_laysRanked_91 : decode cX12_laysRanked 91 = .ok (.aload_n 0, 1) := by decide +kernel
theorem dX12_laysRanked_92 : decode cX12_laysRanked 92 = .ok (.dup, 1) := by decide +kernel
theorem dX12_laysRanked_93 : decode cX12_laysRanked 93 = .ok (.getfield 397, 3) := by decide +kernel
theorem dX12_laysRanked_96 : decode cX12_laysRanked 96 = .ok (.iload 7, 2) := by decide +kernel
theorem dX12_laysRanked_98 : decode cX12_laysRanked 98 = .ok (.iload 5, 2) := by decide +kernel
theorem dX12_laysRanked_100 : decode cX12_laysRanked 100 = .ok (.ishl, 1) := by decide +kernel
theorem dX12_laysRanked_101 : decode cX12_laysRanked 101 = .ok (.ior, 1) := by decide +kernel
theorem dX12_laysRanked_102 : decode cX12_laysRanked 102 = .ok (.putfield 397, 3) := by decide +kernel
theorem dX12_laysRanked_105 : decode cX12_laysRanked 105 = .ok (.aload_n 0, 1) := by decide +kernel
theorem dX12_laysRanked_106 : decode cX12_laysRanked 106 = .ok (.getfield 87, 3) := by decide +kernel
theorem dX12_laysRanked_109 : decode cX12_laysRanked 109 = .ok (.iload 5, 2) := by decide +kernel
theorem dX12_laysRanked_111 : decode cX12_laysRanked 111 = .ok (.iconst 1, 1) := by decide +kernel
theorem dX12_laysRanked_112 : decode cX12_laysRanked 112 = .ok (.iadd, 1) := by decide +kernel
theorem dX12_laysRanked_113 : decode cX12_laysRanked 113 = .ok (.bipush 29, 2) := by decide +kernel
theorem dX12_laysRanked_115 : decode cX12_laysRanked 115 = .ok (.iload 5, 2) := by decide +kernel
theorem dX12_laysRanked_117 : decode cX12_laysRanked 117 = .ok (.iconst 1, 1) := by decide +kernel
theorem dX12_laysRanked_118 : decode cX12_laysRanked 118 = .ok (.iadd, 1) := by decide +kernel
theorem dX12_laysRanked_119 : decode cX12_laysRanked 119 = .ok (.imul, 1) := by decide +kernel
theorem dX12_laysRanked_120 : decode cX12_laysRanked 120 = .ok (.iload_n 3, 1) := by decide +kernel
theorem dX12_laysRanked_121 : decode cX12_laysRanked 121 = .ok (.iadd, 1) := by decide +kernel
theorem dX12_laysRanked_122 : decode cX12_laysRanked 122 = .ok (.iastore, 1) := by decide +kernel
theorem dX12_laysRanked_123 : decode cX12_laysRanked 123 = .ok (.iinc 5 1, 3) := by decide +kernel
theorem dX12_laysRanked_126 : decode cX12_laysRanked 126 = .ok (.goto (-99), 3) := by decide +kernel
theorem dX12_laysRanked_129 : decode cX12_laysRanked 129 = .ok (.return_, 1) := by decide +kernel
set_option maxHeartbeats 4000000 in
set_option maxRecDepth 100000 in
theorem lp_sX12_laysRanked {p : Program} {l : Launch} {e : Env} {R : Room} {s : State} {m : MethodId} {args : Array Value} {below : List Frame} {meth : Method} {c : Code} {Q : State → Prop} {A : Nat → Prop} {cells slots : Nat} {dC : Nat → ClassId} {dI : Nat → Nat → Nat} (h0 : Nat) (mi : Nat → Int32) (mr : Nat → Nat) (km_must : ClassId) (fm_must : Nat → Int32) (km_least : ClassId) (fm_least : Nat → Int32) (km_pin : ClassId) (fm_pin : Nat → Int32) (km_ways : ClassId) (fm_ways : Nat → Int32) (km_official : ClassId) (fm_official : Nat → Int32) (p1 : Int32) (gmi_0 : gi (mi 0) 0 24) (gmi_1 : gi (mi 1) 0 5) (gmi_2 : gi (mi 2) 0 5) (gmi_4 : gi (mi 4) 0 1) (gmi_7 : gi (mi 7) 0 6) (gmi_10 : gi (mi 10) 0 24) (gmi_17 : gi (mi 17) 0 8) (gmi_23 : gi (mi 23) 0 300) (gmi_24 : gi (mi 24) 0 1) (gmi_26 : gi (mi 26) 0 1600) (gmi_29 : gi (mi 29) 0 1600) (gmi_30 : gi (mi 30) 0 1600) (gmi_33 : gi (mi 33) 0 1) (gmi_37 : gi (mi 37) 0 1) (gmi_41 : gi (mi 41) 0 24) (gmi_50 : gi (mi 50) 0 1) (gmi_51 : gi (mi 51) 0 1) (gmi_56 : gi (mi 56) 0 80) (hx : p.tables.exec = Jvm.exec) (hb : c.code = cX12_laysRanked) (hml : c.maxLocals = 8) (hown : s.vm.findClass RX12 = some m.cls) (hts : ∀ w ∈ ((.code yX12_laysRanked cX12_laysRanked 8 none :: wsGB) : List Cond), w.before args s = true) (hK : va_K (dC, dI) vwCl [(km_must, .int), (km_least, .int), (km_pin, .int), (km_ways, .int), (km_official, .int)] s) (hA : ∀ q : Nat, s.heap.size ≤ q → A q) (hRf : 3 ≤ R.frames) (hRl : 73 ≤ R.locals) (hRc : cells ≤ R.cells) (hRs : slots ≤ R.slots) (kr129 : ∀ (w0_47 : Int32) (z4 : Nat → Int32) (z5 : Nat → Int32) (H : Heap) (locs : List Loc) (ls : Array Slot), va_P (dC, dI) vwCl [(h0, .inr (12, fsMM (upd mi 47 w0_47) mr)), ((mr 14), .inl (km_must, 25, .inl fm_must)), ((mr 15), .inl (km_least, 25, .inl fm_least)), ((mr 16), .inl (km_pin, 25, .inl fm_pin)), ((mr 17), .inl (km_ways, 6875, .inl z4)), ((mr 20), .inl (km_official, 25, .inl z5))] H → va_D A [(h0, .inr (12, fsMM (upd mi 47 w0_47) mr)), ((mr 14), .inl (km_must, 25, .inl fm_must)), ((mr 15), .inl (km_least, 25, .inl fm_least)), ((mr 16), .inl (km_pin, 25, .inl fm_pin)), ((mr 17), .inl (km_ways, 6875, .inl z4)), ((mr 20), .inl (km_official, 25, .inl z5))] → va_S A s.heap H locs → lv_has ls 8 [] → W p l e R s m args below meth c H locs cells slots Q (F0 m 129 ls [])) : ∀ z : Nat, (∀ (v2 : Int32) (v3 : Int32) (v4 : Int32) (v5 : Int32) (w0_47 : Int32) (z4 : Nat → Int32) (z5 : Nat → Int32) (H : Heap) (locs : List Loc) (ls : Array Slot), gi v3 0 24 → gi v4 (-1) 10 → gi v5 0 24 → v3.toInt ≤ v5.toInt → 49 + (-2) * v5.toInt < (z : Int) → va_P (dC, dI) vwCl [(h0, .inr (12, fsMM (upd mi 47 w0_47) mr)), ((mr 14), .inl (km_must, 25, .inl fm_must)), ((mr 15), .inl (km_least, 25, .inl fm_least)), ((mr 16), .inl (km_pin, 25, .inl fm_pin)), ((mr 17), .inl (km_ways, 6875, .inl z4)), ((mr 20), .inl (km_official, 25, .inl z5))] H → va_D A [(h0, .inr (12, fsMM (upd mi 47 w0_47) mr)), ((mr 14), .inl (km_must, 25, .inl fm_must)), ((mr 15), .inl (km_least, 25, .inl fm_least)), ((mr 16), .inl (km_pin, 25, .inl fm_pin)), ((mr 17), .inl (km_ways, 6875, .inl z4)), ((mr 20), .inl (km_official, 25, .inl z5))] → va_S A s.heap H locs → lv_has ls 8 [(0, .ref h0), (1, .int p1), (2, .int v2), (3, .int v3), (4, .int v4), (5, .int v5)] → W p l e R s m args below meth c H locs cells slots Q (F0 m 27 ls [])) := by
  intro z
  induction z with
  | zero =>
    intro v2 v3 v4 v5 w0_47 z4 z5 H locs ls gv3 gv4 gv5 hle_gv3_gv5 hmu hP hD hS hl
    exact absurd hmu (by have hv51 := gv5.1; have hv52 := gv5.2; omega)
  | succ z ih =>
      intro v2 v3 v4 v5 w0_47 z4 z5 H locs ls gv3 gv4 gv5 hle_gv3_gv5 hmu hP hD hS hl
      refine lv_iload hx hb dX12_laysRanked_27 (lv_at hl 5 rfl) ?_
      refine lv_aload_n hx hb dX12_laysRanked_29 rfl (lv_at hl 0 rfl) ?_
      refine va_get (D := (dC, dI)) (ci := 12) (v := .int (mi 0)) (C := RX12) (T := TX12) (N := 57) hx hb hts (fun w h => List.mem_cons_of_mem _ (jnGB_X12 w h)) hown hK hP 0 rfl rfl 0 (by decide) (hts _ (List.mem_cons_of_mem _ mGB_103)) (fun _ h9 => h9) rfl dX12_laysRanked_30 ?_
      refine lv_icmp_ge (tgt := 129) hx hb dX12_laysRanked_33 (by decide) (fun c_512 => ?_) (fun c_512 => ?_)
      · exact kr129 w0_47 z4 z5 _ _ _ hP hD hS (lv_sub hl [] rfl)
      · have g_513 : gi v5 0 23 := gi_lt_l (Int32.not_le.mp c_512) gv5 gmi_0 (by decide)
        have g_514 : gi v3 0 23 := gi_rel hle_gv3_gv5 gv3 g_513
        have g_515 : gi (mi 0) 1 24 := gi_lt_r (Int32.not_le.mp c_512) gv5 gmi_0 (by decide)
        refine lv_aload_n hx hb dX12_laysRanked_36 rfl (lv_at hl 0 rfl) ?_
        refine lv_iload hx hb dX12_laysRanked_37 (lv_at hl 5 rfl) ?_
        refine lv_iload_n hx hb dX12_laysRanked_39 rfl (lv_at hl 3 rfl) ?_
        refine lv_iload hx hb dX12_laysRanked_40 (lv_at hl 4 rfl) ?_
        refine lv_iconst (v := 0) hx hb dX12_laysRanked_42 (by decide) ?_
        have hPc := hP.sub (ws' := [(h0, .inr (12, fsMM (upd mi 47 w0_47) mr)), ((mr 17), .inl (km_ways, 6875, .inl z4))]) [0, 4] rfl
        have hKc := hK.sub (tys' := [(km_ways, .int)]) [3] rfl
        refine va_calli (va_runV (As := [.int v5, .int v3, .int v4, .int 0]) (rest := []) ⟨hx, hb, hml, hown, hts⟩ (sX12_waysBy l dC dI h0 (upd mi 47 w0_47) mr km_ways z4 v5 v3 v4 0 (gi_w g_515 (by decide)) gmi_1 gmi_2 gmi_4 gmi_7 gmi_10 gmi_17 gmi_23 gmi_24 gmi_26 gmi_29 gmi_30 gmi_33 gmi_37 gmi_41 gmi_50 gmi_51 gmi_56 g_513 g_514 gv4 (gi_w (gi_c 0 0 (by decide)) (by decide))) (cwV 4 hts (gz_gV mGB_307 mGB_308 mGB_309 mGB_1 mGB_310 goodGB) rfl rfl rfl (by decide +kernel) ⟨Nat.le_trans (Nat.le_of_ble_eq_true rfl) hRf, Nat.le_trans (Nat.le_of_ble_eq_true rfl) hRl⟩) ⟨fun a U g mk q => by obtain ⟨q0, qP, qK⟩ := q; exact ⟨q0, qP, va_K.moved (u := U) (U := U.calling g mk a) (Vm.Alike.refl U.vm) qK⟩, va_recv hKc hPc (ci := 12) (q0 := 0) rfl rfl, fun U hU hW => ⟨rfl, by rw [hU]; exact hPc, va_K.moved hW.alike hKc⟩⟩ rfl rfl hl.1 rfl (lv_room (Nat.le_of_ble_eq_true rfl)) dX12_laysRanked_43 ⟨hRc, hRs⟩) hS (fun q _ h => h.elim) (fun q h => h.elim) (fun r_516 u t H1 locs ht hvm hw hB hz1 hk1 hS => ?_)
        have hP := gz_keep hP hk1
        generalize H1 = H at hP hS ⊢
        refine lv_istore (lv' := [(6, .int r_516), (0, .ref h0), (1, .int p1), (2, .int v2), (3, .int v3), (4, .int v4), (5, .int v5)]) hx hb dX12_laysRanked_46 hl (by decide) rfl (fun ls hl => ?_)
        refine lv_iload_n hx hb dX12_laysRanked_48 rfl (lv_at hl 3 rfl) ?_
        refine lv_iload hx hb dX12_laysRanked_49 (lv_at hl 0 rfl) ?_
        refine lv_icmp_ge (tgt := 58) hx hb dX12_laysRanked_51 (by decide) (fun c_517 => ?_) (fun c_517 => ?_)
        · refine lv_iconst (v := 1) hx hb dX12_laysRanked_58 (by decide) ?_
          refine lv_istore (lv' := [(7, .int 1), (6, .int r_516), (0, .ref h0), (1, .int p1), (2, .int v2), (3, .int v3), (4, .int v4), (5, .int v5)]) hx hb dX12_laysRanked_59 hl (by decide) rfl (fun ls hl => ?_)
          refine lv_iload_n hx hb dX12_laysRanked_61 rfl (lv_at hl 4 rfl) ?_
          refine lv_iload hx hb dX12_laysRanked_62 (lv_at hl 0 rfl) ?_
          refine lv_iconst (v := 1) hx hb dX12_laysRanked_64 (by decide) ?_
          refine lv_icmp_ne (tgt := 73) hx hb dX12_laysRanked_65 (by decide) (fun c_518 => absurd (gi_is_eq (gi_c 1 1 (by decide)) (gi_c 1 1 (by decide))) c_518) (fun c_518 => ?_)
          refine lv_iload hx hb dX12_laysRanked_68 (lv_at hl 1 rfl) ?_
          refine lv_goto (tgt := 74) hx hb dX12_laysRanked_70 (by decide) ?_
          refine lv_isub hx hb dX12_laysRanked_74 ?_
          refine lv_topi (fun x_519 ex_519 => ?_)
          refine lv_istore_n (lv' := [(2, .int x_519), (7, .int 1), (6, .int r_516), (0, .ref h0), (1, .int p1), (3, .int v3), (4, .int v4), (5, .int v5)]) hx hb dX12_laysRanked_75 rfl hl (by decide) rfl (fun ls hl => ?_)
          refine lv_aload_n hx hb dX12_laysRanked_76 rfl (lv_at hl 3 rfl) ?_
          refine lv_iload hx hb dX12_laysRanked_77 (lv_at hl 6 rfl) ?_
          refine lv_iload hx hb dX12_laysRanked_79 (lv_at hl 1 rfl) ?_
          have hPc := hP.sub (ws' := [(h0, .inr (12, fsMM (upd mi 47 w0_47) mr))]) [0] rfl
          have hKc := hK.sub (tys' := []) [] rfl
          refine va_calli (va_runV (As := [.int v4, .int 1]) (rest := []) ⟨hx, hb, hml, hown, hts⟩ (sX12_runBehind l dC dI h0 (upd mi 47 w0_47) mr v4 1 (gi_w g_515 (by decide)) gmi_1 gmi_2 gmi_4 gmi_7 gmi_10 gmi_17 gmi_23 gmi_24 gmi_26 gmi_29 gmi_30 gmi_33 gmi_37 gmi_41 gmi_50 gmi_51 gmi_56 gv4 (gi_w (gi_c 1 1 (by decide)) (by decide))) (cwV 2 hts (gz_gV mGB_311 mGB_312 mGB_313 mGB_1 mGB_314 goodGB) rfl rfl rfl (by decide +kernel) ⟨Nat.le_trans (Nat.le_of_ble_eq_true rfl) hRf, Nat.le_trans (Nat.le_of_ble_eq_true rfl) hRl⟩) ⟨fun a U g mk q => by obtain ⟨q0, qP, qK⟩ := q; exact ⟨q0, qP, va_K.moved (u := U) (U := U.calling g mk a) (Vm.Alike.refl U.vm) qK⟩, va_recv hKc hPc (ci := 12) (q0 := 0) rfl rfl, fun U hU hW => ⟨rfl, by rw [hU]; exact hPc, va_K.moved hW.alike hKc⟩⟩ rfl rfl hl.1 rfl (lv_room (Nat.le_of_ble_eq_true rfl)) dX12_laysRanked_81 ⟨hRc, hRs⟩) hS (fun q _ h => h.elim) (fun q h => h.elim) (fun r_520 u t H1 locs ht hvm hw hB hz1 hk1 hS => ?_)
          have hP := gz_keep hP hk1
          generalize H1 = H at hP hS ⊢
          have gr_520 : gi r_520 (-1) 10 := hw
          refine lv_istore (lv' := [(4, .int r_520), (2, .int x_519), (7, .int 1), (6, .int r_516), (0, .ref h0), (1, .int p1), (3, .int v3), (5, .int v5)]) hx hb dX12_laysRanked_84 hl (by decide) rfl (fun ls hl => ?_)
          refine lv_iload_n hx hb dX12_laysRanked_86 rfl (lv_at hl 6 rfl) ?_
          refine lv_iload hx hb dX12_laysRanked_87 (lv_at hl 2 rfl) ?_
          refine lv_iadd hx hb dX12_laysRanked_89 ?_
          refine lv_topi (fun x_521 ex_521 => ?_)
          have gx_521 : gi x_521 1 24 := gi_add ex_521 g_514 (gi_c 1 1 (by decide)) (by decide)
          refine lv_istore_n (lv' := [(3, .int x_521), (4, .int r_520), (2, .int x_519), (7, .int 1), (6, .int r_516), (0, .ref h0), (1, .int p1), (5, .int v5)]) hx hb dX12_laysRanked_90 rfl hl (by decide) rfl (fun ls hl => ?_)
          refine lv_aload_n hx hb dX12_laysRanked_91 rfl (lv_at hl 5 rfl) ?_
          refine lv_dup hx hb dX12_laysRanked_92 rfl ?_
          refine va_get (D := (dC, dI)) (ci := 12) (v := .int w0_47) (C := RX12) (T := TX12) (N := 57) hx hb hts (fun w h => List.mem_cons_of_mem _ (jnGB_X12 w h)) hown hK hP 0 rfl rfl 47 (by decide) (hts _ (List.mem_cons_of_mem _ mGB_404)) (fun _ h9 => h9) rfl dX12_laysRanked_93 ?_
          refine lv_iload hx hb dX12_laysRanked_96 (lv_at hl 3 rfl) ?_
          refine lv_iload hx hb dX12_laysRanked_98 (lv_at hl 7 rfl) ?_
          refine lv_ishl hx hb dX12_laysRanked_100 ?_
          refine lv_topi (fun x_522 ex_522 => ?_)
          refine lv_ior hx hb dX12_laysRanked_101 ?_
          refine lv_topi (fun x_523 ex_523 => ?_)
          refine va_put (D := (dC, dI)) (ci := 12) (v := .int x_523) (ty := .int) (C := RX12) (T := TX12) (N := 57) hx hb hts (fun w h => List.mem_cons_of_mem _ (jnGB_X12 w h)) tyX12 tyX12_ok nmX12 hown hK hP hD hS 0 rfl rfl 47 (by decide) (hts _ (List.mem_cons_of_mem _ mGB_404)) (fun _ h9 => h9) rfl (by decide +kernel) rfl rfl (Nat.le_of_ble_eq_true rfl) dX12_laysRanked_102 (fun H locs hP hD hS => ?_)
          have hP : va_P (dC, dI) vwCl [(h0, .inr (12, fsMM (upd mi 47 x_523) mr)), ((mr 14), .inl (km_must, 25, .inl fm_must)), ((mr 15), .inl (km_least, 25, .inl fm_least)), ((mr 16), .inl (km_pin, 25, .inl fm_pin)), ((mr 17), .inl (km_ways, 6875, .inl z4)), ((mr 20), .inl (km_official, 25, .inl z5))] H := hP
          have hD : va_D A [(h0, .inr (12, fsMM (upd mi 47 x_523) mr)), ((mr 14), .inl (km_must, 25, .inl fm_must)), ((mr 15), .inl (km_least, 25, .inl fm_least)), ((mr 16), .inl (km_pin, 25, .inl fm_pin)), ((mr 17), .inl (km_ways, 6875, .inl z4)), ((mr 20), .inl (km_official, 25, .inl z5))] := hD
          refine lv_aload_n hx hb dX12_laysRanked_105 rfl (lv_at hl 5 rfl) ?_
          refine va_get (D := (dC, dI)) (ci := 12) (v := .ref (mr 20)) (C := RX12) (T := TX12) (N := 57) hx hb hts (fun w h => List.mem_cons_of_mem _ (jnGB_X12 w h)) hown hK hP 0 rfl rfl 46 (by decide) (hts _ (List.mem_cons_of_mem _ mGB_36)) (fun _ h9 => h9) rfl dX12_laysRanked_106 ?_
          refine lv_iload hx hb dX12_laysRanked_109 (lv_at hl 7 rfl) ?_
          refine lv_iconst (v := 1) hx hb dX12_laysRanked_111 (by decide) ?_
          refine lv_iadd hx hb dX12_laysRanked_112 ?_
          refine lv_topi (fun x_524 ex_524 => ?_)
          have gx_524 : gi x_524 1 24 := gi_add ex_524 g_513 (gi_c 1 1 (by decide)) (by decide)
          refine lv_bipush (v := 29) hx hb dX12_laysRanked_113 (by decide) ?_
          refine lv_iload hx hb dX12_laysRanked_115 (lv_at hl 7 rfl) ?_
          refine lv_iconst (v := 1) hx hb dX12_laysRanked_117 (by decide) ?_
          refine lv_iadd hx hb dX12_laysRanked_118 ?_
          refine lv_topi (fun x_525 ex_525 => ?_)
          have gx_525 : gi x_525 1 24 := gi_add ex_525 g_513 (gi_c 1 1 (by decide)) (by decide)
          refine lv_imul hx hb dX12_laysRanked_119 ?_
          refine lv_topi (fun x_526 ex_526 => ?_)
          have gx_526 : gi x_526 29 696 := gi_mul ex_526 (gi_c 29 29 (by decide)) gx_525 (by decide)
          refine lv_iload_n hx hb dX12_laysRanked_120 rfl (lv_at hl 0 rfl) ?_
          refine lv_iadd hx hb dX12_laysRanked_121 ?_
          refine lv_topi (fun x_527 ex_527 => ?_)
          have gx_527 : gi x_527 30 720 := gi_add ex_527 gx_526 gx_521 (by decide)
          refine va_iast hx hb hK hP hD hS 5 4 rfl rfl (gi_in gx_524 (by decide)) dX12_laysRanked_122 (fun H locs hP hD hS => ?_)
          have hP : va_P (dC, dI) vwCl [(h0, .inr (12, fsMM (upd mi 47 x_523) mr)), ((mr 14), .inl (km_must, 25, .inl fm_must)), ((mr 15), .inl (km_least, 25, .inl fm_least)), ((mr 16), .inl (km_pin, 25, .inl fm_pin)), ((mr 17), .inl (km_ways, 6875, .inl z4)), ((mr 20), .inl (km_official, 25, .inl (upd z5 (x_524 : Int32).toNatClampNeg x_527)))] H := hP
          have hD : va_D A [(h0, .inr (12, fsMM (upd mi 47 x_523) mr)), ((mr 14), .inl (km_must, 25, .inl fm_must)), ((mr 15), .inl (km_least, 25, .inl fm_least)), ((mr 16), .inl (km_pin, 25, .inl fm_pin)), ((mr 17), .inl (km_ways, 6875, .inl z4)), ((mr 20), .inl (km_official, 25, .inl (upd z5 (x_524 : Int32).toNatClampNeg x_527)))] := hD
          generalize upd z5 (x_524 : Int32).toNatClampNeg x_527 = f_528 at hP hD
          obtain ⟨x_529, ex_529⟩ : ∃ y : Int32, y = v5 + 1 := ⟨_, rfl⟩
          have gx_529 : gi x_529 1 24 := gi_add ex_529 g_513 (gi_c 1 1 (by decide)) (by decide)
          refine lv_iinc (v := x_529) (lv' := [(5, .int x_529), (3, .int x_521), (4, .int r_520), (2, .int x_519), (7, .int 1), (6, .int r_516), (0, .ref h0), (1, .int p1)]) hx hb dX12_laysRanked_123 hl (k := 7) rfl (by rw [ex_529]; rfl) (by decide) rfl (fun ls hl => ?_)
          refine lv_goto (tgt := 27) hx hb dX12_laysRanked_126 (by decide) ?_
          exact ih x_519 x_521 r_520 x_529 x_523 z4 f_528 _ _ _ (gi_w gx_521 (by decide)) gr_520 (gi_w gx_529 (by decide)) (by have qgx_529 := gx_529.1; have rgx_529 := gx_529.2; have igx_529 : x_529.toInt = v5.toInt + 1 := (by have hc1 : (1 : Int32).toInt = 1 := (by decide); have h9 := gi_addI ex_529 (by have h1 := g_513.1; have h2 := (gi_c 1 1 (by decide)).1; have h3 := g_513.2; have h4 := (gi_c 1 1 (by decide)).2; omega) (by have h1 := g_513.1; have h2 := (gi_c 1 1 (by decide)).1; have h3 := g_513.2; have h4 := (gi_c 1 1 (by decide)).2; omega); rw [hc1] at h9; exact h9); have qgv5 := g_513.1; have rgv5 := g_513.2; have qgx_521 := gx_521.1; have rgx_521 := gx_521.2; have igx_521 : x_521.toInt = v3.toInt + 1 := (by have hc1 : (1 : Int32).toInt = 1 := (by decide); have h9 := gi_addI ex_521 (by have h1 := g_514.1; have h2 := (gi_c 1 1 (by decide)).1; have h3 := g_514.2; have h4 := (gi_c 1 1 (by decide)).2; omega) (by have h1 := g_514.1; have h2 := (gi_c 1 1 (by decide)).1; have h3 := g_514.2; have h4 := (gi_c 1 1 (by decide)).2; omega); rw [hc1] at h9; exact h9); have qgv3 := g_514.1; have rgv3 := g_514.2; have y1 := (Int32.lt_iff_toInt_lt.mp (Int32.not_le.mp c_512)); have y2 := (Int32.le_iff_toInt_le.mp c_517); omega) (by have av5 := gv5.1; have bv5 := gv5.2; have qgx_529 := gx_529.1; have rgx_529 := gx_529.2; have igx_529 : x_529.toInt = v5.toInt + 1 := (by have hc1 : (1 : Int32).toInt = 1 := (by decide); have h9 := gi_addI ex_529 (by have h1 := g_513.1; have h2 := (gi_c 1 1 (by decide)).1; have h3 := g_513.2; have h4 := (gi_c 1 1 (by decide)).2; omega) (by have h1 := g_513.1; have h2 := (gi_c 1 1 (by decide)).1; have h3 := g_513.2; have h4 := (gi_c 1 1 (by decide)).2; omega); rw [hc1] at h9; exact h9); have qgv5 := g_513.1; have rgv5 := g_513.2; omega) hP hD hS (lv_sub hl [6, 7, 3, 1, 2, 0] rfl)
        · have g_530 : gi v2 (-2147483648) 2147483646 := gi_lt_l (Int32.not_le.mp c_517) (gi_any v2) (gi_any r_516) (by decide)
          have g_531 : gi r_516 (-2147483647) 2147483647 := gi_lt_r (Int32.not_le.mp c_517) (gi_any v2) (gi_any r_516) (by decide)
          refine lv_iconst (v := 0) hx hb dX12_laysRanked_54 (by decide) ?_
          refine lv_goto (tgt := 59) hx hb dX12_laysRanked_55 (by decide) ?_
          refine lv_istore (lv' := [(7, .int 0), (6, .int r_516), (0, .ref h0), (1, .int p1), (2, .int v2), (3, .int v3), (4, .int v4), (5, .int v5)]) hx hb dX12_laysRanked_59 hl (by decide) rfl (fun ls hl => ?_)
          refine lv_iload_n hx hb dX12_laysRanked_61 rfl (lv_at hl 4 rfl) ?_
          refine lv_iload hx hb dX12_laysRanked_62 (lv_at hl 0 rfl) ?_
          refine lv_iconst (v := 1) hx hb dX12_laysRanked_64 (by decide) ?_
          refine lv_icmp_ne (tgt := 73) hx hb dX12_laysRanked_65 (by decide) (fun c_532 => ?_) (fun c_532 => absurd c_532 (gi_no_eq (gi_c 0 0 (by decide)) (gi_c 1 1 (by decide)) (by decide)))
          refine lv_iconst (v := 0) hx hb dX12_laysRanked_73 (by decide) ?_
          refine lv_isub hx hb dX12_laysRanked_74 ?_
          refine lv_topi (fun x_533 ex_533 => ?_)
          have gx_533 : gi x_533 (-2147483648) 2147483646 := gi_sub ex_533 g_530 (gi_c 0 0 (by decide)) (by decide)
          refine lv_istore_n (lv' := [(2, .int x_533), (7, .int 0), (6, .int r_516), (0, .ref h0), (1, .int p1), (3, .int v3), (4, .int v4), (5, .int v5)]) hx hb dX12_laysRanked_75 rfl hl (by decide) rfl (fun ls hl => ?_)
          refine lv_aload_n hx hb dX12_laysRanked_76 rfl (lv_at hl 3 rfl) ?_
          refine lv_iload hx hb dX12_laysRanked_77 (lv_at hl 6 rfl) ?_
          refine lv_iload hx hb dX12_laysRanked_79 (lv_at hl 1 rfl) ?_
          have hPc := hP.sub (ws' := [(h0, .inr (12, fsMM (upd mi 47 w0_47) mr))]) [0] rfl
          have hKc := hK.sub (tys' := []) [] rfl
          refine va_calli (va_runV (As := [.int v4, .int 0]) (rest := []) ⟨hx, hb, hml, hown, hts⟩ (sX12_runBehind l dC dI h0 (upd mi 47 w0_47) mr v4 0 (gi_w g_515 (by decide)) gmi_1 gmi_2 gmi_4 gmi_7 gmi_10 gmi_17 gmi_23 gmi_24 gmi_26 gmi_29 gmi_30 gmi_33 gmi_37 gmi_41 gmi_50 gmi_51 gmi_56 gv4 (gi_w (gi_c 0 0 (by decide)) (by decide))) (cwV 2 hts (gz_gV mGB_311 mGB_312 mGB_313 mGB_1 mGB_314 goodGB) rfl rfl rfl (by decide +kernel) ⟨Nat.le_trans (Nat.le_of_ble_eq_true rfl) hRf, Nat.le_trans (Nat.le_of_ble_eq_true rfl) hRl⟩) ⟨fun a U g mk q => by obtain ⟨q0, qP, qK⟩ := q; exact ⟨q0, qP, va_K.moved (u := U) (U := U.calling g mk a) (Vm.Alike.refl U.vm) qK⟩, va_recv hKc hPc (ci := 12) (q0 := 0) rfl rfl, fun U hU hW => ⟨rfl, by rw [hU]; exact hPc, va_K.moved hW.alike hKc⟩⟩ rfl rfl hl.1 rfl (lv_room (Nat.le_of_ble_eq_true rfl)) dX12_laysRanked_81 ⟨hRc, hRs⟩) hS (fun q _ h => h.elim) (fun q h => h.elim) (fun r_534 u t H1 locs ht hvm hw hB hz1 hk1 hS => ?_)
          have hP := gz_keep hP hk1
          generalize H1 = H at hP hS ⊢
          have gr_534 : gi r_534 (-1) 10 := hw
          refine lv_istore (lv' := [(4, .int r_534), (2, .int x_533), (7, .int 0), (6, .int r_516), (0, .ref h0), (1, .int p1), (3, .int v3), (5, .int v5)]) hx hb dX12_laysRanked_84 hl (by decide) rfl (fun ls hl => ?_)
          refine lv_iload_n hx hb dX12_laysRanked_86 rfl (lv_at hl 6 rfl) ?_
          refine lv_iload hx hb dX12_laysRanked_87 (lv_at hl 2 rfl) ?_
          refine lv_iadd hx hb dX12_laysRanked_89 ?_
          refine lv_topi (fun x_535 ex_535 => ?_)
          have gx_535 : gi x_535 0 23 := gi_add ex_535 g_514 (gi_c 0 0 (by decide)) (by decide)
          refine lv_istore_n (lv' := [(3, .int x_535), (4, .int r_534), (2, .int x_533), (7, .int 0), (6, .int r_516), (0, .ref h0), (1, .int p1), (5, .int v5)]) hx hb dX12_laysRanked_90 rfl hl (by decide) rfl (fun ls hl => ?_)
          refine lv_aload_n hx hb dX12_laysRanked_91 rfl (lv_at hl 5 rfl) ?_
          refine lv_dup hx hb dX12_laysRanked_92 rfl ?_
          refine va_get (D := (dC, dI)) (ci := 12) (v := .int w0_47) (C := RX12) (T := TX12) (N := 57) hx hb hts (fun w h => List.mem_cons_of_mem _ (jnGB_X12 w h)) hown hK hP 0 rfl rfl 47 (by decide) (hts _ (List.mem_cons_of_mem _ mGB_404)) (fun _ h9 => h9) rfl dX12_laysRanked_93 ?_
          refine lv_iload hx hb dX12_laysRanked_96 (lv_at hl 3 rfl) ?_
          refine lv_iload hx hb dX12_laysRanked_98 (lv_at hl 7 rfl) ?_
          refine lv_ishl hx hb dX12_laysRanked_100 ?_
          refine lv_topi (fun x_536 ex_536 => ?_)
          refine lv_ior hx hb dX12_laysRanked_101 ?_
          refine lv_topi (fun x_537 ex_537 => ?_)
          refine va_put (D := (dC, dI)) (ci := 12) (v := .int x_537) (ty := .int) (C := RX12) (T := TX12) (N := 57) hx hb hts (fun w h => List.mem_cons_of_mem _ (jnGB_X12 w h)) tyX12 tyX12_ok nmX12 hown hK hP hD hS 0 rfl rfl 47 (by decide) (hts _ (List.mem_cons_of_mem _ mGB_404)) (fun _ h9 => h9) rfl (by decide +kernel) rfl rfl (Nat.le_of_ble_eq_true rfl) dX12_laysRanked_102 (fun H locs hP hD hS => ?_)
          have hP : va_P (dC, dI) vwCl [(h0, .inr (12, fsMM (upd mi 47 x_537) mr)), ((mr 14), .inl (km_must, 25, .inl fm_must)), ((mr 15), .inl (km_least, 25, .inl fm_least)), ((mr 16), .inl (km_pin, 25, .inl fm_pin)), ((mr 17), .inl (km_ways, 6875, .inl z4)), ((mr 20), .inl (km_official, 25, .inl z5))] H := hP
          have hD : va_D A [(h0, .inr (12, fsMM (upd mi 47 x_537) mr)), ((mr 14), .inl (km_must, 25, .inl fm_must)), ((mr 15), .inl (km_least, 25, .inl fm_least)), ((mr 16), .inl (km_pin, 25, .inl fm_pin)), ((mr 17), .inl (km_ways, 6875, .inl z4)), ((mr 20), .inl (km_official, 25, .inl z5))] := hD
          refine lv_aload_n hx hb dX12_laysRanked_105 rfl (lv_at hl 5 rfl) ?_
          refine va_get (D := (dC, dI)) (ci := 12) (v := .ref (mr 20)) (C := RX12) (T := TX12) (N := 57) hx hb hts (fun w h => List.mem_cons_of_mem _ (jnGB_X12 w h)) hown hK hP 0 rfl rfl 46 (by decide) (hts _ (List.mem_cons_of_mem _ mGB_36)) (fun _ h9 => h9) rfl dX12_laysRanked_106 ?_
          refine lv_iload hx hb dX12_laysRanked_109 (lv_at hl 7 rfl) ?_
          refine lv_iconst (v := 1) hx hb dX12_laysRanked_111 (by decide) ?_
          refine lv_iadd hx hb dX12_laysRanked_112 ?_
          refine lv_topi (fun x_538 ex_538 => ?_)
          have gx_538 : gi x_538 1 24 := gi_add ex_538 g_513 (gi_c 1 1 (by decide)) (by decide)
          refine lv_bipush (v := 29) hx hb dX12_laysRanked_113 (by decide) ?_
          refine lv_iload hx hb dX12_laysRanked_115 (lv_at hl 7 rfl) ?_
          refine lv_iconst (v := 1) hx hb dX12_laysRanked_117 (by decide) ?_
          refine lv_iadd hx hb dX12_laysRanked_118 ?_
          refine lv_topi (fun x_539 ex_539 => ?_)
          have gx_539 : gi x_539 1 24 := gi_add ex_539 g_513 (gi_c 1 1 (by decide)) (by decide)
          refine lv_imul hx hb dX12_laysRanked_119 ?_
          refine lv_topi (fun x_540 ex_540 => ?_)
          have gx_540 : gi x_540 29 696 := gi_mul ex_540 (gi_c 29 29 (by decide)) gx_539 (by decide)
          refine lv_iload_n hx hb dX12_laysRanked_120 rfl (lv_at hl 0 rfl) ?_
          refine lv_iadd hx hb dX12_laysRanked_121 ?_
          refine lv_topi (fun x_541 ex_541 => ?_)
          have gx_541 : gi x_541 29 719 := gi_add ex_541 gx_540 gx_535 (by decide)
          refine va_iast hx hb hK hP hD hS 5 4 rfl rfl (gi_in gx_538 (by decide)) dX12_laysRanked_122 (fun H locs hP hD hS => ?_)
          have hP : va_P (dC, dI) vwCl [(h0, .inr (12, fsMM (upd mi 47 x_537) mr)), ((mr 14), .inl (km_must, 25, .inl fm_must)), ((mr 15), .inl (km_least, 25, .inl fm_least)), ((mr 16), .inl (km_pin, 25, .inl fm_pin)), ((mr 17), .inl (km_ways, 6875, .inl z4)), ((mr 20), .inl (km_official, 25, .inl (upd z5 (x_538 : Int32).toNatClampNeg x_541)))] H := hP
          have hD : va_D A [(h0, .inr (12, fsMM (upd mi 47 x_537) mr)), ((mr 14), .inl (km_must, 25, .inl fm_must)), ((mr 15), .inl (km_least, 25, .inl fm_least)), ((mr 16), .inl (km_pin, 25, .inl fm_pin)), ((mr 17), .inl (km_ways, 6875, .inl z4)), ((mr 20), .inl (km_official, 25, .inl (upd z5 (x_538 : Int32).toNatClampNeg x_541)))] := hD
          generalize upd z5 (x_538 : Int32).toNatClampNeg x_541 = f_542 at hP hD
          obtain ⟨x_543, ex_543⟩ : ∃ y : Int32, y = v5 + 1 := ⟨_, rfl⟩
          have gx_543 : gi x_543 1 24 := gi_add ex_543 g_513 (gi_c 1 1 (by decide)) (by decide)
          refine lv_iinc (v := x_543) (lv' := [(5, .int x_543), (3, .int x_535), (4, .int r_534), (2, .int x_533), (7, .int 0), (6, .int r_516), (0, .ref h0), (1, .int p1)]) hx hb dX12_laysRanked_123 hl (k := 7) rfl (by rw [ex_543]; rfl) (by decide) rfl (fun ls hl => ?_)
          refine lv_goto (tgt := 27) hx hb dX12_laysRanked_126 (by decide) ?_
          exact ih x_533 x_535 r_534 x_543 x_537 z4 f_542 _ _ _ (gi_w gx_535 (by decide)) gr_534 (gi_w gx_543 (by decide)) (by have qgx_543 := gx_543.1; have rgx_543 := gx_543.2; have igx_543 : x_543.toInt = v5.toInt + 1 := (by have hc1 : (1 : Int32).toInt = 1 := (by decide); have h9 := gi_addI ex_543 (by have h1 := g_513.1; have h2 := (gi_c 1 1 (by decide)).1; have h3 := g_513.2; have h4 := (gi_c 1 1 (by decide)).2; omega) (by have h1 := g_513.1; have h2 := (gi_c 1 1 (by decide)).1; have h3 := g_513.2; have h4 := (gi_c 1 1 (by decide)).2; omega); rw [hc1] at h9; exact h9); have qgv5 := g_513.1; have rgv5 := g_513.2; have qgx_535 := gx_535.1; have rgx_535 := gx_535.2; have igx_535 : x_535.toInt = v3.toInt + 0 := (by have hc0 : (0 : Int32).toInt = 0 := (by decide); have h9 := gi_addI ex_535 (by have h1 := g_514.1; have h2 := (gi_c 0 0 (by decide)).1; have h3 := g_514.2; have h4 := (gi_c 0 0 (by decide)).2; omega) (by have h1 := g_514.1; have h2 := (gi_c 0 0 (by decide)).1; have h3 := g_514.2; have h4 := (gi_c 0 0 (by decide)).2; omega); rw [hc0] at h9; exact h9); have qgv3 := g_514.1; have rgv3 := g_514.2; have y1 := (Int32.lt_iff_toInt_lt.mp (Int32.not_le.mp c_512)); have y2 := (Int32.lt_iff_toInt_lt.mp (Int32.not_le.mp c_517)); omega) (by have av5 := gv5.1; have bv5 := gv5.2; have qgx_543 := gx_543.1; have rgx_543 := gx_543.2; have igx_543 : x_543.toInt = v5.toInt + 1 := (by have hc1 : (1 : Int32).toInt = 1 := (by decide); have h9 := gi_addI ex_543 (by have h1 := g_513.1; have h2 := (gi_c 1 1 (by decide)).1; have h3 := g_513.2; have h4 := (gi_c 1 1 (by decide)).2; omega) (by have h1 := g_513.1; have h2 := (gi_c 1 1 (by decide)).1; have h3 := g_513.2; have h4 := (gi_c 1 1 (by decide)).2; omega); rw [hc1] at h9; exact h9); have qgv5 := g_513.1; have rgv5 := g_513.2; omega) hP hD hS (lv_sub hl [6, 7, 3, 1, 2, 0] rfl)
set_option maxHeartbeats 4000000 in
set_option maxRecDepth 100000 in
theorem sX12_laysRanked (l : Launch) (dC : Nat → ClassId) (dI : Nat → Nat → Nat) (sz : Nat) (h0 : Nat) (mi : Nat → Int32) (mr : Nat → Nat) (km_must : ClassId) (fm_must : Nat → Int32) (km_least : ClassId) (fm_least : Nat → Int32) (km_pin : ClassId) (fm_pin : Nat → Int32) (km_ways : ClassId) (fm_ways : Nat → Int32) (km_official : ClassId) (fm_official : Nat → Int32) (p1 : Int32) (gmi_0 : gi (mi 0) 0 24) (gmi_1 : gi (mi 1) 0 5) (gmi_2 : gi (mi 2) 0 5) (gmi_4 : gi (mi 4) 0 1) (gmi_7 : gi (mi 7) 0 6) (gmi_10 : gi (mi 10) 0 24) (gmi_17 : gi (mi 17) 0 8) (gmi_23 : gi (mi 23) 0 300) (gmi_24 : gi (mi 24) 0 1) (gmi_26 : gi (mi 26) 0 1600) (gmi_29 : gi (mi 29) 0 1600) (gmi_30 : gi (mi 30) 0 1600) (gmi_33 : gi (mi 33) 0 1) (gmi_37 : gi (mi 37) 0 1) (gmi_41 : gi (mi 41) 0 24) (gmi_50 : gi (mi 50) 0 1) (gmi_51 : gi (mi 51) 0 1) (gmi_56 : gi (mi 56) 0 80) : Met l yX12_laysRanked (.code yX12_laysRanked cX12_laysRanked 8 none :: wsGB) ({ frames := 3, cells := 0, slots := 0, locals := 73 }) (va_Pc [.ref h0, .int p1] (fun U => U.heap.size = sz ∧ va_P (dC, dI) vwCl [(h0, .inr (12, fsMM mi mr)), ((mr 14), .inl (km_must, 25, .inl fm_must)), ((mr 15), .inl (km_least, 25, .inl fm_least)), ((mr 16), .inl (km_pin, 25, .inl fm_pin)), ((mr 17), .inl (km_ways, 6875, .inl fm_ways)), ((mr 20), .inl (km_official, 25, .inl fm_official))] U.heap ∧ va_K (dC, dI) vwCl [(km_must, .int), (km_least, .int), (km_pin, .int), (km_ways, .int), (km_official, .int)] U ∧ va_D (fun _ => True) [(h0, .inr (12, fsMM mi mr)), ((mr 14), .inl (km_must, 25, .inl fm_must)), ((mr 15), .inl (km_least, 25, .inl fm_least)), ((mr 16), .inl (km_pin, 25, .inl fm_pin)), ((mr 17), .inl (km_ways, 6875, .inl fm_ways)), ((mr 20), .inl (km_official, 25, .inl fm_official))])) (va_Qv (fun (u : Unit) => True) (fun _ t => ∃ (w0_47 : Int32) (z4 : Nat → Int32) (z5 : Nat → Int32), va_P (dC, dI) vwCl [(h0, .inr (12, fsMM (upd mi 47 w0_47) mr)), ((mr 14), .inl (km_must, 25, .inl fm_must)), ((mr 15), .inl (km_least, 25, .inl fm_least)), ((mr 16), .inl (km_pin, 25, .inl fm_pin)), ((mr 17), .inl (km_ways, 6875, .inl z4)), ((mr 20), .inl (km_official, 25, .inl z5))] t.heap ∧ va_D (va_A [(h0, .inr (12, fsMM mi mr)), ((mr 14), .inl (km_must, 25, .inl fm_must)), ((mr 15), .inl (km_least, 25, .inl fm_least)), ((mr 16), .inl (km_pin, 25, .inl fm_pin)), ((mr 17), .inl (km_ways, 6875, .inl fm_ways)), ((mr 20), .inl (km_official, 25, .inl fm_official))] sz) [(h0, .inr (12, fsMM (upd mi 47 w0_47) mr)), ((mr 14), .inl (km_must, 25, .inl fm_must)), ((mr 15), .inl (km_least, 25, .inl fm_least)), ((mr 16), .inl (km_pin, 25, .inl fm_pin)), ((mr 17), .inl (km_ways, 6875, .inl z4)), ((mr 20), .inl (km_official, 25, .inl z5))]) (va_A [(h0, .inr (12, fsMM mi mr)), ((mr 14), .inl (km_must, 25, .inl fm_must)), ((mr 15), .inl (km_least, 25, .inl fm_least)), ((mr 16), .inl (km_pin, 25, .inl fm_pin)), ((mr 17), .inl (km_ways, 6875, .inl fm_ways)), ((mr 20), .inl (km_official, 25, .inl fm_official))] sz)) 0 0 (va_A [(h0, .inr (12, fsMM mi mr)), ((mr 14), .inl (km_must, 25, .inl fm_must)), ((mr 15), .inl (km_least, 25, .inl fm_least)), ((mr 16), .inl (km_pin, 25, .inl fm_pin)), ((mr 17), .inl (km_ways, 6875, .inl fm_ways)), ((mr 20), .inl (km_official, 25, .inl fm_official))] sz) := by
  refine Met.ofW (cc := cX12_laysRanked) (maxL := 8) (ret := none) (by decide) rfl ?_
  intro p e s m args below meth c s₁ B hml hv
  obtain ⟨rfl, hsz, hP, hK, hD0⟩ := hv
  have hx := B.exec
  have hb := B.bytes
  have hr := B.returns
  have hts := atoms_spec (ws := (.code yX12_laysRanked cX12_laysRanked 8 none :: wsGB)) B.pre
  have hown : s.vm.findClass RX12 = some m.cls := findClass_of_methodNamed B.named
  have hlocks := B.notSynchronized
  subst hsz
  have hD := hD0.self (sz := s.heap.size)
  generalize hAe : va_A [(h0, .inr (12, fsMM mi mr)), ((mr 14), .inl (km_must, 25, .inl fm_must)), ((mr 15), .inl (km_least, 25, .inl fm_least)), ((mr 16), .inl (km_pin, 25, .inl fm_pin)), ((mr 17), .inl (km_ways, 6875, .inl fm_ways)), ((mr 20), .inl (km_official, 25, .inl fm_official))] s.heap.size = A at hD ⊢
  have hA : ∀ q : Nat, s.heap.size ≤ q → A q := fun q h => by rw [← hAe]; exact Or.inr h
  have hS : va_S A s.heap s.heap [] := va_S.rf
  have hl := lv_entry ([.ref h0, .int p1]) (n := 8) (Nat.le_of_ble_eq_true rfl)
  rw [lg_entry_eq]
  generalize (lg_sl ([.ref h0, .int p1]) ++ List.replicate (8 - (lg_sl ([.ref h0, .int p1])).length) Slot.unset).toArray = ls at hl ⊢
  have hl : lv_has ls 8 [(0, .ref h0), (1, .int p1)] := hl
  refine lv_aload_n hx hb dX12_laysRanked_0 rfl (lv_at hl 0 rfl) ?_
  have hPc := hP.sub (ws' := [(h0, .inr (12, fsMM mi mr)), ((mr 14), .inl (km_must, 25, .inl fm_must)), ((mr 15), .inl (km_least, 25, .inl fm_least)), ((mr 16), .inl (km_pin, 25, .inl fm_pin)), ((mr 17), .inl (km_ways, 6875, .inl fm_ways))]) [0, 1, 2, 3, 4] rfl
  have hKc := hK.sub (tys' := [(km_must, .int), (km_least, .int), (km_pin, .int), (km_ways, .int)]) [0, 1, 2, 3] rfl
  have hDc := hD.sub (ws' := [(h0, .inr (12, fsMM mi mr)), ((mr 14), .inl (km_must, 25, .inl fm_must)), ((mr 15), .inl (km_least, 25, .inl fm_least)), ((mr 16), .inl (km_pin, 25, .inl fm_pin)), ((mr 17), .inl (km_ways, 6875, .inl fm_ways))]) [0, 1, 2, 3, 4] (by decide) rfl
  have hFc := va_free (wc := [(h0, .inr (12, fsMM mi mr)), ((mr 14), .inl (km_must, 25, .inl fm_must)), ((mr 15), .inl (km_least, 25, .inl fm_least)), ((mr 16), .inl (km_pin, 25, .inl fm_pin)), ((mr 17), .inl (km_ways, 6875, .inl fm_ways))]) hD hS hA [0, 1, 2, 3, 4] rfl
  refine va_calli (va_runV (As := []) (rest := []) ⟨hx, hb, hml, hown, hts⟩ (sX12_counts l dC dI s.heap.size h0 mi mr km_must fm_must km_least fm_least km_pin fm_pin km_ways fm_ways gmi_0 gmi_1 gmi_2 gmi_4 gmi_7 gmi_10 gmi_17 gmi_23 gmi_24 gmi_26 gmi_29 gmi_30 gmi_33 gmi_37 gmi_41 gmi_50 gmi_51 gmi_56) (cwV 0 hts (gz_gV mGB_299 mGB_300 mGB_301 mGB_1 mGB_302 goodGB) rfl rfl rfl (by decide +kernel) ⟨Nat.le_of_ble_eq_true rfl, Nat.le_of_ble_eq_true rfl⟩) ⟨fun a U g mk q => by obtain ⟨q0, q1, qP, qK, qD⟩ := q; exact ⟨q0, q1, qP, va_K.moved (u := U) (U := U.calling g mk a) (Vm.Alike.refl U.vm) qK, qD⟩, va_recv hKc hPc (ci := 12) (q0 := 0) rfl rfl, fun U hU hW => ⟨rfl, by rw [hU], by rw [hU]; exact hPc, va_K.moved hW.alike hKc, hDc.weaken (fun _ _ _ _ => trivial)⟩⟩ rfl rfl hl.1 rfl (lv_room (Nat.le_of_ble_eq_true rfl)) dX12_laysRanked_1 ⟨Nat.zero_le _, Nat.zero_le _⟩) hS (fun q _ h => hFc q h) hFc (fun r_544 u t H1 locs ht hvm hw hB hz1 hk1 hS => ?_)
  obtain ⟨f_545, hP1, hD1⟩ := hB
  rw [ht] at hP1
  obtain ⟨hP, hD⟩ := va_join (wr := [((mr 20), .inl (km_official, 25, .inl fm_official))]) (w1 := [(h0, .inr (12, fsMM mi mr)), ((mr 14), .inl (km_must, 25, .inl fm_must)), ((mr 15), .inl (km_least, 25, .inl fm_least)), ((mr 16), .inl (km_pin, 25, .inl fm_pin)), ((mr 17), .inl (km_ways, 6875, .inl f_545))]) hP hD [0, 1, 2, 3, 4] [5] rfl rfl (by decide) (by decide) hk1 hFc hP1 hD1
  have hP := hP.sub (ws' := [(h0, .inr (12, fsMM mi mr)), ((mr 14), .inl (km_must, 25, .inl fm_must)), ((mr 15), .inl (km_least, 25, .inl fm_least)), ((mr 16), .inl (km_pin, 25, .inl fm_pin)), ((mr 17), .inl (km_ways, 6875, .inl f_545)), ((mr 20), .inl (km_official, 25, .inl fm_official))]) [1, 2, 3, 4, 5, 0] rfl
  have hD := hD.sub (ws' := [(h0, .inr (12, fsMM mi mr)), ((mr 14), .inl (km_must, 25, .inl fm_must)), ((mr 15), .inl (km_least, 25, .inl fm_least)), ((mr 16), .inl (km_pin, 25, .inl fm_pin)), ((mr 17), .inl (km_ways, 6875, .inl f_545)), ((mr 20), .inl (km_official, 25, .inl fm_official))]) [1, 2, 3, 4, 5, 0] (by decide) rfl
  generalize H1 = H at hP hS ⊢
  refine lv_pop hx hb dX12_laysRanked_4 rfl ?_
  refine lv_iload_n hx hb dX12_laysRanked_5 rfl (lv_at hl 1 rfl) ?_
  refine lv_istore_n (lv' := [(2, .int p1), (0, .ref h0), (1, .int p1)]) hx hb dX12_laysRanked_6 rfl hl (by decide) rfl (fun ls hl => ?_)
  refine lv_iconst (v := 0) hx hb dX12_laysRanked_7 (by decide) ?_
  refine lv_istore_n (lv' := [(3, .int 0), (2, .int p1), (0, .ref h0), (1, .int p1)]) hx hb dX12_laysRanked_8 rfl hl (by decide) rfl (fun ls hl => ?_)
  refine lv_iconst (v := 0) hx hb dX12_laysRanked_9 (by decide) ?_
  refine lv_istore (lv' := [(4, .int 0), (3, .int 0), (2, .int p1), (0, .ref h0), (1, .int p1)]) hx hb dX12_laysRanked_10 hl (by decide) rfl (fun ls hl => ?_)
  refine lv_aload_n hx hb dX12_laysRanked_12 rfl (lv_at hl 3 rfl) ?_
  refine lv_iconst (v := 0) hx hb dX12_laysRanked_13 (by decide) ?_
  refine va_put (D := (dC, dI)) (ci := 12) (v := .int 0) (ty := .int) (C := RX12) (T := TX12) (N := 57) hx hb hts (fun w h => List.mem_cons_of_mem _ (jnGB_X12 w h)) tyX12 tyX12_ok nmX12 hown hK hP hD hS 0 rfl rfl 47 (by decide) (hts _ (List.mem_cons_of_mem _ mGB_404)) (fun _ h9 => h9) rfl (by decide +kernel) rfl rfl (Nat.le_of_ble_eq_true rfl) dX12_laysRanked_14 (fun H locs hP hD hS => ?_)
  have hP : va_P (dC, dI) vwCl [(h0, .inr (12, fsMM (upd mi 47 0) mr)), ((mr 14), .inl (km_must, 25, .inl fm_must)), ((mr 15), .inl (km_least, 25, .inl fm_least)), ((mr 16), .inl (km_pin, 25, .inl fm_pin)), ((mr 17), .inl (km_ways, 6875, .inl f_545)), ((mr 20), .inl (km_official, 25, .inl fm_official))] H := hP
  have hD : va_D A [(h0, .inr (12, fsMM (upd mi 47 0) mr)), ((mr 14), .inl (km_must, 25, .inl fm_must)), ((mr 15), .inl (km_least, 25, .inl fm_least)), ((mr 16), .inl (km_pin, 25, .inl fm_pin)), ((mr 17), .inl (km_ways, 6875, .inl f_545)), ((mr 20), .inl (km_official, 25, .inl fm_official))] := hD
  refine lv_aload_n hx hb dX12_laysRanked_17 rfl (lv_at hl 3 rfl) ?_
  refine va_get (D := (dC, dI)) (ci := 12) (v := .ref (mr 20)) (C := RX12) (T := TX12) (N := 57) hx hb hts (fun w h => List.mem_cons_of_mem _ (jnGB_X12 w h)) hown hK hP 0 rfl rfl 46 (by decide) (hts _ (List.mem_cons_of_mem _ mGB_36)) (fun _ h9 => h9) rfl dX12_laysRanked_18 ?_
  refine lv_iconst (v := 0) hx hb dX12_laysRanked_21 (by decide) ?_
  refine lv_iconst (v := 0) hx hb dX12_laysRanked_22 (by decide) ?_
  refine va_iast hx hb hK hP hD hS 5 4 rfl rfl (gi_in (gi_c 0 0 (by decide)) (by decide)) dX12_laysRanked_23 (fun H locs hP hD hS => ?_)
  have hP : va_P (dC, dI) vwCl [(h0, .inr (12, fsMM (upd mi 47 0) mr)), ((mr 14), .inl (km_must, 25, .inl fm_must)), ((mr 15), .inl (km_least, 25, .inl fm_least)), ((mr 16), .inl (km_pin, 25, .inl fm_pin)), ((mr 17), .inl (km_ways, 6875, .inl f_545)), ((mr 20), .inl (km_official, 25, .inl (upd fm_official (0 : Int32).toNatClampNeg 0)))] H := hP
  have hD : va_D A [(h0, .inr (12, fsMM (upd mi 47 0) mr)), ((mr 14), .inl (km_must, 25, .inl fm_must)), ((mr 15), .inl (km_least, 25, .inl fm_least)), ((mr 16), .inl (km_pin, 25, .inl fm_pin)), ((mr 17), .inl (km_ways, 6875, .inl f_545)), ((mr 20), .inl (km_official, 25, .inl (upd fm_official (0 : Int32).toNatClampNeg 0)))] := hD
  generalize upd fm_official (0 : Int32).toNatClampNeg 0 = f_546 at hP hD
  refine lv_iconst (v := 0) hx hb dX12_laysRanked_24 (by decide) ?_
  refine lv_istore (lv' := [(5, .int 0), (4, .int 0), (3, .int 0), (2, .int p1), (0, .ref h0), (1, .int p1)]) hx hb dX12_laysRanked_25 hl (by decide) rfl (fun ls hl => ?_)
  refine (lp_sX12_laysRanked h0 mi mr km_must fm_must km_least fm_least km_pin fm_pin km_ways fm_ways km_official fm_official p1 gmi_0 gmi_1 gmi_2 gmi_4 gmi_7 gmi_10 gmi_17 gmi_23 gmi_24 gmi_26 gmi_29 gmi_30 gmi_33 gmi_37 gmi_41 gmi_50 gmi_51 gmi_56 hx hb hml hown hts hK hA (Nat.le_of_ble_eq_true rfl) (Nat.le_of_ble_eq_true rfl) (Nat.zero_le _) (Nat.zero_le _) (fun w0_47 z4 z5 H locs ls hP hD hS hl => ?_) 62) p1 0 0 0 0 f_545 f_546 _ _ _ (gi_w (gi_c 0 0 (by decide)) (by decide)) (gi_w (gi_c 0 0 (by decide)) (by decide)) (gi_w (gi_c 0 0 (by decide)) (by decide)) (by have k0 : (0 : Int32).toInt = 0 := (by decide); have k0 : (0 : Int32).toInt = 0 := (by decide); omega) (by have k0 : (0 : Int32).toInt = 0 := (by decide); omega) hP hD hS (lv_sub hl [4, 5, 3, 2, 1, 0] rfl)
  · skip
    exact W.vret hx hb hr (fun t ht hW => ⟨⟨(), rfl, trivial, w0_47, z4, z5, by rw [ht]; exact hP, hD⟩, hS.F ht⟩) hS.2.2 dX12_laysRanked_129
