theorem dX12_laysRanked_0 : decode cX12_laysRanked 0 = .ok (.aload_n 0, 1) := by decide +kernel
theorem dX12_laysRanked_1 : decode cX12_laysRanked 1 = .ok (.invokevirtual 332, 3) := by decide +kernel
theorem dX12_laysRanked_4 : decode cX12_laysRanked 4 = .ok (.pop, 1) := by decide +kernel
theorem dX12_laysRanked_5 : decode cX12_laysRanked 5 = .ok (.iload_n 1, 1) := by decide +kernel
theorem dX12_laysRanked_6 : decode cX12_laysRanked 6 = .ok (.istore_n 2, 1) := by decide +kernel
theorem dX12_laysRanked_7 : decode cX12_laysRanked 7 = .ok (.iconst 0, 1) := by decide +kernel
theorem dX12_laysRanked_8 : decode cX12_laysRanked 8 = .ok (.istore_n 3, 1) := by decide +kernel
theorem dX12_laysRanked_9 : decode cX12_laysRanked 9 = .ok (.iconst 0, 1) := by decide +kernel
theorem dX12_laysRanked_10 : decode cX12_laysRanked 10 = .ok (.istore 4, 2) := by decide +kernel
theorem dX12_laysRanked_12 : decode cX12_laysRanked 12 = .ok (.aload_n 0, 1) := by decide +kernel
theorem dX12_laysRanked_13 : decode cX12_laysRanked 13 = .ok (.iconst 0, 1) := by decide +kernel
theorem dX12_laysRanked_14 : decode cX12_laysRanked 14 = .ok (.putfield 397, 3) := by decide +kernel
theorem dX12_laysRanked_17 : decode cX12_laysRanked 17 = .ok (.aload_n 0, 1) := by decide +kernel
theorem dX12_laysRanked_18 : decode cX12_laysRanked 18 = .ok (.getfield 87, 3) := by decide +kernel
theorem dX12_laysRanked_21 : decode cX12_laysRanked 21 = .ok (.iconst 0, 1) := by decide +kernel
theorem dX12_laysRanked_22 : decode cX12_laysRanked 22 = .ok (.iconst 0, 1) := by decide +kernel
theorem dX12_laysRanked_23 : decode cX12_laysRanked 23 = .ok (.iastore, 1) := by decide +kernel
theorem dX12_laysRanked_24 : decode cX12_laysRanked 24 = .ok (.iconst 0, 1) := by decide +kernel
theorem dX12_laysRanked_25 : decode cX12_laysRanked 25 = .ok (.istore 5, 2) := by decide +kernel
theorem dX12_laysRanked_27 : decode cX12_laysRanked 27 = .ok (.iload 5, 2) := by decide +kernel
theorem dX12_laysRanked_29 : decode cX12_laysRanked 29 = .ok (.aload_n 0, 1) := by decide +kernel
theorem dX12_laysRanked_30 : decode cX12_laysRanked 30 = .ok (.getfield 117, 3) := by decide +kernel
theorem dX12_laysRanked_33 : decode cX12_laysRanked 33 = .ok (.if_icmp .ge 96, 3) := by decide +kernel
theorem dX12_laysRanked_36 : decode cX12_laysRanked 36 = .ok (.aload_n 0, 1) := by decide +kernel
theorem dX12_laysRanked_37 : decode cX12_laysRanked 37 = .ok (.iload 5, 2) := by decide +kernel
theorem dX12_laysRanked_39 : decode cX12_laysRanked 39 = .ok (.iload_n 3, 1) := by decide +kernel
theorem dX12_laysRanked_40 : decode cX12_laysRanked 40 = .ok (.iload 4, 2) := by decide +kernel
theorem dX12_laysRanked_42 : decode cX12_laysRanked 42 = .ok (.iconst 0, 1) := by decide +kernel
theorem dX12_laysRanked_43 : decode cX12_laysRanked 43 = .ok (.invokevirtual 328, 3) := by decide +kernel
theorem dX12_laysRanked_46 : decode cX12_laysRanked 46 = .ok (.istore 6, 2) := by decide +kernel
theorem dX12_laysRanked_48 : decode cX12_laysRanked 48 = .ok (.iload_n 2, 1) := by decide +kernel
theorem dX12_laysRanked_49 : decode cX12_laysRanked 49 = .ok (.iload 6, 2) := by decide +kernel
theorem dX12_laysRanked_51 : decode cX12_laysRanked 51 = .ok (.if_icmp .ge 7, 3) := by decide +kernel
theorem dX12_laysRanked_54 : decode cX12_laysRanked 54 = .ok (.iconst 0, 1) := by decide +kernel
theorem dX12_laysRanked_55 : decode cX12_laysRanked 55 = .ok (.goto 4, 3) := by decide +kernel
theorem dX12_laysRanked_58 : decode cX12_laysRanked 58 = .ok (.iconst 1, 1) := by decide +kernel
theorem dX12_laysRanked_59 : decode cX12_laysRanked 59 = .ok (.istore 7, 2) := by decide +kernel
theorem dX12_laysRanked_61 : decode cX12_laysRanked 61 = .ok (.iload_n 2, 1) := by decide +kernel
theorem dX12_laysRanked_62 : decode cX12_laysRanked 62 = .ok (.iload 7, 2) := by decide +kernel
theorem dX12_laysRanked_64 : decode cX12_laysRanked 64 = .ok (.iconst 1, 1) := by decide +kernel
theorem dX12_laysRanked_65 : decode cX12_laysRanked 65 = .ok (.if_icmp .ne 8, 3) := by decide +kernel
theorem dX12_laysRanked_68 : decode cX12_laysRanked 68 = .ok (.iload 6, 2) := by decide +kernel
theorem dX12_laysRanked_70 : decode cX12_laysRanked 70 = .ok (.goto 4, 3) := by decide +kernel
theorem dX12_laysRanked_73 : decode cX12_laysRanked 73 = .ok (.iconst 0, 1) := by decide +kernel
theorem dX12_laysRanked_74 : decode cX12_laysRanked 74 = .ok (.isub, 1) := by decide +kernel
theorem dX12_laysRanked_75 : decode cX12_laysRanked 75 = .ok (.istore_n 2, 1) := by decide +kernel
theorem dX12_laysRanked_76 : decode cX12_laysRanked 76 = .ok (.aload_n 0, 1) := by decide +kernel
theorem dX12_laysRanked_77 : decode cX12_laysRanked 77 = .ok (.iload 4, 2) := by decide +kernel
theorem dX12_laysRanked_79 : decode cX12_laysRanked 79 = .ok (.iload 7, 2) := by decide +kernel
theorem dX12_laysRanked_81 : decode cX12_laysRanked 81 = .ok (.invokevirtual 318, 3) := by decide +kernel
theorem dX12_laysRanked_84 : decode cX12_laysRanked 84 = .ok (.istore 4, 2) := by decide +kernel
theorem dX12_laysRanked_86 : decode cX12_laysRanked 86 = .ok (.iload_n 3, 1) := by decide +kernel
theorem dX12_laysRanked_87 : decode cX12_laysRanked 87 = .ok (.iload 7, 2) := by decide +kernel
theorem dX12_laysRanked_89 : decode cX12_laysRanked 89 = .ok (.iadd, 1) := by decide +kernel
theorem dX12_laysRanked_90 : decode cX12_laysRanked 90 = .ok (.istore_n 3, 1) := by decide +kernel
theorem dX12_laysRanked_91 : decode cX12_laysRanked 91 = .ok (.aload_n 0, 1) := by decide +kernel
theorem dX12_laysRanked_92 : decode cX12_laysRanked 92 = .ok (.dup, 1) := by decide +kernel
theorem dX12_laysRanked_93 : decode cX12_laysRanked 93 = .ok (.getfield 397, 3) := by decide +kernel
theorem dX12_laysRanked_96 : decode cX12_laysRanked 96 = .ok (.iload 7, 2) := by decide +kernel
theorem dX12_laysRanked_98 : decode cX12_laysRanked 98 = .ok (.iload 5, 2) := by decide +kernel
theorem dX12_laysRanked_100 : decode cX12_laysRanked 100 = .ok (.ishl, 1) := by decide +kernel
theorem dX12_laysRanked_101 : decode cX12_laysRanked 101 = .ok (.ior, 1) := by decide +kernel
theorem dX12_laysRanked_102 : decode cX12_laysRanked 102 = .ok (.putfield 397, 3) := by decide +kernel
theorem dX12_laysRanked_105 : decode cX12_laysRanked 105 = .ok (.aload_n 0, 1) := by decide +kernel
theorem dX12_laysRanked_106 : decode cX12_laysRanked 106 = .ok (.getfield 87, 3) := by decide +kernel
theorem dX12_laysRanked_109 : decode cX12_laysRanked 109 = .ok (.iload 5, 2) := by decide +kernel
theorem dX12_laysRanked_111 : decode cX12_laysRanked 111 = .ok (.iconst 1, 1) := by decide +kernel
theorem dX12_laysRanked_112 : decode cX12_laysRanked 112 = .ok (.iadd, 1) := by decide +kernel
theorem dX12_laysRanked_113 : decode cX12_laysRanked 113 = .ok (.bipush 29, 2) := by decide +kernel
theorem dX12_laysRanked_115 : decode cX12_laysRanked 115 = .ok (.iload 5, 2) := by decide +kernel
theorem dX12_laysRanked_117 : decode cX12_laysRanked 117 = .ok (.iconst 1, 1) := by decide +kernel
theorem dX12_laysRanked_118 : decode cX12_laysRanked 118 = .ok (.iadd, 1) := by decide +kernel
theorem dX12_laysRanked_119 : decode cX12_laysRanked 119 = .ok (.imul, 1) := by decide +kernel
theorem dX12_laysRanked_120 : decode cX12_laysRanked 120 = .ok (.iload_n 3, 1) := by decide +kernel
theorem dX12_laysRanked_121 : decode cX12_laysRanked 121 = .ok (.iadd, 1) := by decide +kernel
theorem dX12_laysRanked_122 : decode cX12_laysRanked 122 = .ok (.iastore, 1) := by decide +kernel
theorem dX12_laysRanked_123 : decode cX12_laysRanked 123 = .ok (.iinc 5 1, 3) := by decide +kernel
theorem dX12_laysRanked_126 : decode cX12_laysRanked 126 = .ok (.goto (-99), 3) := by decide +kernel
theorem dX12_laysRanked_129 : decode cX12_laysRanked 129 = .ok (.return_, 1) := by decide +kernel
set_option maxHeartbeats 4000000 in
set_option maxRecDepth 100000 in
theorem lp_sX12_laysRanked {p : Program} {l : Launch} {e : Env} {R : Room} {s : State} {m : MethodId} {args : Array Value} {below : List Frame} {meth : Method} {c : Code} {Q : State → Prop} {A : Nat → Prop} {cells slots : Nat} {dC : Nat → ClassId} {dI : Nat → Nat → Nat} (h0 : Nat) (mi : Nat → Int32) (mr : Nat → Nat) (km_must : ClassId) (fm_must : Nat → Int32) (km_least : ClassId) (fm_least : Nat → Int32) (km_pin : ClassId) (fm_pin : Nat → Int32) (km_ways : ClassId) (fm_ways : Nat → Int32) (km_official : ClassId) (fm_official : Nat → Int32) (p1 : Int32) (gmi_0 : gi (mi 0) 0 24) (gmi_1 : gi (mi 1) 0 5) (gmi_2 : gi (mi 2) 0 5) (gmi_4 : gi (mi 4) 0 1) (gmi_7 : gi (mi 7) 0 6) (gmi_10 : gi (mi 10) 0 24) (gmi_17 : gi (mi 17) 0 8) (gmi_23 : gi (mi 23) 0 300) (gmi_24 : gi (mi 24) 0 1) (gmi_26 : gi (mi 26) 0 1600) (gmi_29 : gi (mi 29) 0 1600) (gmi_30 : gi (mi 30) 0 1600) (gmi_33 : gi (mi 33) 0 1) (gmi_37 : gi (mi 37) 0 1) (gmi_41 : gi (mi 41) 0 24) (gmi_50 : gi (mi 50) 0 1) (gmi_51 : gi (mi 51) 0 1) (gmi_56 : gi (mi 56) 0 80) (hx : p.tables.exec = Jvm.exec) (hb : c.code = cX12_laysRanked) (hml : c.maxLocals = 8) (hown : s.vm.findClass RX12 = some m.cls) (hts : ∀ w ∈ ((.code yX12_laysRanked cX12_laysRanked 8 none :: wsGB) : List Cond), w.before args s = true) (hK : va_K (dC, dI) vwCl [(km_must, .int), (km_least, .int), (km_pin, .int), (km_ways, .int), (km_official, .int)] s) (hA : ∀ q : Nat, s.heap.size ≤ q → A q) (hRf : 3 ≤ R.frames) (hRl : 73 ≤ R.locals) (hRc : cells ≤ R.cells) (hRs : slots ≤ R.slots) (kr129 : ∀ (w0_47 : Int32) (z4 : Nat → Int32) (z5 : Nat → Int32) (H : Heap) (locs : List Loc) (ls : Array Slot), va_P (dC, dI) vwCl [(h0, .inr (12, fsMM (upd mi 47 w0_47) mr)), ((mr 14), .inl (km_must, 25, .inl fm_must)), ((mr 15), .inl (km_least, 25, .inl fm_least)), ((mr 16), .inl (km_pin, 25, .inl fm_pin)), ((mr 17), .inl (km_ways, 6875, .inl z4)), ((mr 20), .inl (km_official, 25, .inl z5))] H → va_D A [(h0, .inr (12, fsMM (upd mi 47 w0_47) mr)), ((mr 14), .inl (km_must, 25, .inl fm_must)), ((mr 15), .inl (km_least, 25, .inl fm_least)), ((mr 16), .inl (km_pin, 25, .inl fm_pin)), ((mr 17), .inl (km_ways, 6875, .inl z4)), ((mr 20), .inl (km_official, 25, .inl z5))] → va_S A s.heap H locs → lv_has ls 8 [] → W p l e R s m args below meth c H locs cells slots Q (F0 m 129 ls [])) : ∀ z : Nat, (∀ (v2 : Int32) (v3 : Int32) (v4 : Int32) (v5 : Int32) (w0_47 : Int32) (z4 : Nat → Int32) (z5 : Nat → Int32) (H : Heap) (locs : List Loc) (ls : Array Slot), gi v3 0 24 → gi v4 (-1) 10 → gi v5 0 24 → v3.toInt ≤ v5.toInt → 49 + (-2) * v5.toInt < (z : Int) → va_P (dC, dI) vwCl [(h0, .inr (12, fsMM (upd mi 47 w0_47) mr)), ((mr 14), .inl (km_must, 25, .inl fm_must)), ((mr 15), .inl (km_least, 25, .inl fm_least)), ((mr 16), .inl (km_pin, 25, .inl fm_pin)), ((mr 17), .inl (km_ways, 6875, .inl z4)), ((mr 20), .inl (km_official, 25, .inl z5))] H → va_D A [(h0, .inr (12, fsMM (upd mi 47 w0_47) mr)), ((mr 14), .inl (km_must, 25, .inl fm_must)), ((mr 15), .inl (km_least, 25, .inl fm_least)), ((mr 16), .inl (km_pin, 25, .inl fm_pin)), ((mr 17), .inl (km_ways, 6875, .inl z4)), ((mr 20), .inl (km_official, 25, .inl z5))] → va_S A s.heap H locs → lv_has ls 8 [(0, .ref h0), (1, .int p1), (2, .int v2), (3, .int v3), (4, .int v4), (5, .int v5)] → W p l e R s m args below meth c H locs cells slots Q (F0 m 27 ls [])) := by
  intro z
  induction z with
  | zero =>
    intro v2 v3 v4 v5 w0_47 z4 z5 H locs ls gv3 gv4 gv5 hle_gv3_gv5 hmu hP hD hS hl
    exact absurd hmu (by have hv51 := gv5.1; have hv52 := gv5.2; omega)
  | succ z ih =>
      intro v2 v3 v4 v5 w0_47 z4 z5 H locs ls gv3 gv4 gv5 hle_gv3_gv5 hmu hP hD hS hl
      refine lv_iload hx hb dX12_laysRanked_27 (lv_at hl 5 rfl) ?_
      refine lv_aload_n hx hb dX12_laysRanked_29 rfl (lv_at hl 0 rfl) ?_
      refine va_get (D := (dC, dI)) (ci := 12) (v := .int (mi 0)) (C := RX12) (T := TX12) (N := 57) hx hb hts (fun w h => List.mem_cons_of_mem _ (jnGB_X12 w h)) hown hK hP 0 rfl rfl 0 (by decide) (hts _ (List.mem_cons_of_mem _ mGB_103)) (fun _ h9 => h9) rfl dX12_laysRanked_30 ?_
      refine lv_icmp_ge (tgt := 129) hx hb dX12_laysRanked_33 (by decide) (fun c_512 => ?_) (fun c_512 => ?_)
      · exact kr129 w0_47 z4 z5 _ _ _ hP hD hS (lv_sub hl [] rfl)
      · have g_513 : gi v5 0 23 := gi_lt_l (Int32.not_le.mp c_512) gv5 gmi_0 (by decide)
        have g_514 : gi v3 0 23 := gi_rel hle_gv3_gv5 gv3 g_513
        have g_515 : gi (mi 0) 1 24 := gi_lt_r (Int32.not_le.mp c_512) gv5 gmi_0 (by decide)
        refine lv_aload_n hx hb dX12_laysRanked_36 rfl (lv_at hl 0 rfl) ?_
        refine lv_iload hx hb dX12_laysRanked_37 (lv_at hl 5 rfl) ?_
        refine lv_iload_n hx hb dX12_laysRanked_39 rfl (lv_at hl 3 rfl) ?_
        refine lv_iload hx hb dX12_laysRanked_40 (lv_at hl 4 rfl) ?_
        refine lv_iconst (v := 0) hx hb dX12_laysRanked_42 (by decide) ?_
        have hPc := hP.sub (ws' := [(h0, .inr (12, fsMM (upd mi 47 w0_47) mr)), ((mr 17), .inl (km_ways, 6875, .inl z4))]) [0, 4] rfl
        have hKc := hK.sub (tys' := [(km_ways, .int)]) [3] rfl
        refine va_calli (va_runV (As := [.int v5, .int v3, .int v4, .int 0]) (rest := []) ⟨hx, hb, hml, hown, hts⟩ (sX12_waysBy l dC dI h0 (upd mi 47 w0_47) mr km_ways z4 v5 v3 v4 0 (gi_w g_515 (by decide)) gmi_1 gmi_2 gmi_4 gmi_7 gmi_10 gmi_17 gmi_23 gmi_24 gmi_26 gmi_29 gmi_30 gmi_33 gmi_37 gmi_41 gmi_50 gmi_51 gmi_56 g_513 g_514 gv4 (gi_w (gi_c 0 0 (by decide)) (by decide))) (cwV 4 hts (gz_gV mGB_307 mGB_308 mGB_309 mGB_1 mGB_310 goodGB) rfl rfl rfl (by decide +kernel) ⟨Nat.le_trans (Nat.le_of_ble_eq_true rfl) hRf, Nat.le_trans (Nat.le_of_ble_eq_true rfl) hRl⟩) ⟨fun a U g mk q => by obtain ⟨q0, qP, qK⟩ := q; exact ⟨q0, qP, va_K.moved (u := U) (U := U.calling g mk a) (Vm.Alike.refl U.vm) qK⟩, va_recv hKc hPc (ci := 12) (q0 := 0) rfl rfl, fun U hU hW => ⟨rfl, by rw [hU]; exact hPc, va_K.moved hW.alike hKc⟩⟩ rfl rfl hl.1 rfl (lv_room (Nat.le_of_ble_eq_true rfl)) dX12_laysRanked_43 ⟨hRc, hRs⟩) hS (fun q _ h => h.elim) (fun q h => h.elim) (fun r_516 u t H1 locs ht hvm hw hB hz1 hk1 hS => ?_)
        have hP := gz_keep hP hk1
        generalize H1 = H at hP hS ⊢
        refine lv_istore (lv' := [(6, .int r_516), (0, .ref h0), (1, .int p1), (2, .int v2), (3, .int v3), (4, .int v4), (5, .int v5)]) hx hb dX12_laysRanked_46 hl (by decide) rfl (fun ls hl => ?_)
        refine lv_iload_n hx hb dX12_laysRanked_48 rfl (lv_at hl 3 rfl) ?_
        refine lv_iload hx hb dX12_laysRanked_49 (lv_at hl 0 rfl) ?_
        refine lv_icmp_ge (tgt := 58) hx hb dX12_laysRanked_51 (by decide) (fun c_517 => ?_) (fun c_517 => ?_)
        · refine lv_iconst (v := 1) hx hb dX12_laysRanked_58 (by decide) ?_
          refine lv_istore (lv' := [(7, .int 1), (6, .int r_516), (0, .ref h0), (1, .int p1), (2, .int v2), (3, .int v3), (4, .int v4), (5, .int v5)]) hx hb dX12_laysRanked_59 hl (by decide) rfl (fun ls hl => ?_)
          refine lv_iload_n hx hb dX12_laysRanked_61 rfl (lv_at hl 4 rfl) ?_
          refine lv_iload hx hb dX12_laysRanked_62 (lv_at hl 0 rfl) ?_
          refine lv_iconst (v := 1) hx hb dX12_laysRanked_64 (by decide) ?_
          refine lv_icmp_ne (tgt := 73) hx hb dX12_laysRanked_65 (by decide) (fun c_518 => absurd (gi_is_eq (gi_c 1 1 (by decide)) (gi_c 1 1 (by decide))) c_518) (fun c_518 => ?_)
          refine lv_iload hx hb dX12_laysRanked_68 (lv_at hl 1 rfl) ?_
          refine lv_goto (tgt := 74) hx hb dX12_laysRanked_70 (by decide) ?_
          refine lv_isub hx hb dX12_laysRanked_74 ?_
          refine lv_topi (fun x_519 ex_519 => ?_)
          refine lv_istore_n (lv' := [(2, .int x_519), (7, .int 1), (6, .int r_516), (0, .ref h0), (1, .int p1), (3, .int v3), (4, .int v4), (5, .int v5)]) hx hb dX12_laysRanked_75 rfl hl (by decide) rfl (fun ls hl => ?_)
          refine lv_aload_n hx hb dX12_laysRanked_76 rfl (lv_at hl 3 rfl) ?_
          refine lv_iload hx hb dX12_laysRanked_77 (lv_at hl 6 rfl) ?_
          refine lv_iload hx hb dX12_laysRanked_79 (lv_at hl 1 rfl) ?_
          have hPc := hP.sub (ws' := [(h0, .inr (12, fsMM (upd mi 47 w0_47) mr))]) [0] rfl
          have hKc := hK.sub (tys' := []) [] rfl
          refine va_calli (va_runV (As := [.int v4, .int 1]) (rest := []) ⟨hx, hb, hml, hown, hts⟩ (sX12_runBehind l dC dI h0 (upd mi 47 w0_47) mr v4 1 (gi_w g_515 (by decide)) gmi_1 gmi_2 gmi_4 gmi_7 gmi_10 gmi_17 gmi_23 gmi_24 gmi_26 gmi_29 gmi_30 gmi_33 gmi_37 gmi_41 gmi_50 gmi_51 gmi_56 gv4 (gi_w (gi_c 1 1 (by decide)) (by decide))) (cwV 2 hts (gz_gV mGB_311 mGB_312 mGB_313 mGB_1 mGB_314 goodGB) rfl rfl rfl (by decide +kernel) ⟨Nat.le_trans (Nat.le_of_ble_eq_true rfl) hRf, Nat.le_trans (Nat.le_of_ble_eq_true rfl) hRl⟩) ⟨fun a U g mk q => by obtain ⟨q0, qP, qK⟩ := q; exact ⟨q0, qP, va_K.moved (u := U) (U := U.calling g mk a) (Vm.Alike.refl U.vm) qK⟩, va_recv hKc hPc (ci := 12) (q0 := 0) rfl rfl, fun U hU hW => ⟨rfl, by rw [hU]; exact hPc, va_K.moved hW.alike hKc⟩⟩ rfl rfl hl.1 rfl (lv_room (Nat.le_of_ble_eq_true rfl)) dX12_laysRanked_81 ⟨hRc, hRs⟩) hS (fun q _ h => h.elim) (fun q h => h.elim) (fun r_520 u t H1 locs ht hvm hw hB hz1 hk1 hS => ?_)
          have hP := gz_keep hP hk1
          generalize H1 = H at hP hS ⊢
          have gr_520 : gi r_520 (-1) 10 := hw
          refine lv_istore (lv' := [(4, .int r_520), (2, .int x_519), (7, .int 1), (6, .int r_516), (0, .ref h0), (1, .int p1), (3, .int v3), (5, .int v5)]) hx hb dX12_laysRanked_84 hl (by decide) rfl (fun ls hl => ?_)
          refine lv_iload_n hx hb dX12_laysRanked_86 rfl (lv_at hl 6 rfl) ?_
          refine lv_iload hx hb dX12_laysRanked_87 (lv_at hl 2 rfl) ?_
          refine lv_iadd hx hb dX12_laysRanked_89 ?_
          refine lv_topi (fun x_521 ex_521 => ?_)
          have gx_521 : gi x_521 1 24 := gi_add ex_521 g_514 (gi_c 1 1 (by decide)) (by decide)
          refine lv_istore_n (lv' := [(3, .int x_521), (4, .int r_520), (2, .int x_519), (7, .int 1), (6, .int r_516), (0, .ref h0), (1, .int p1), (5, .int v5)]) hx hb dX12_laysRanked_90 rfl hl (by decide) rfl (fun ls hl => ?_)
          refine lv_aload_n hx hb dX12_laysRanked_91 rfl (lv_at hl 5 rfl) ?_
          refine lv_dup hx hb dX12_laysRanked_92 rfl ?_
          refine va_get (D := (dC, dI)) (ci := 12) (v := .int w0_47) (C := RX12) (T := TX12) (N := 57) hx hb hts (fun w h => List.mem_cons_of_mem _ (jnGB_X12 w h)) hown hK hP 0 rfl rfl 47 (by decide) (hts _ (List.mem_cons_of_mem _ mGB_404)) (fun _ h9 => h9) rfl dX12_laysRanked_93 ?_
          refine lv_iload hx hb dX12_laysRanked_96 (lv_at hl 3 rfl) ?_
          refine lv_iload hx hb dX12_laysRanked_98 (lv_at hl 7 rfl) ?_
          refine lv_ishl hx hb dX12_laysRanked_100 ?_
          refine lv_topi (fun x_522 ex_522 => ?_)
          refine lv_ior hx hb dX12_laysRanked_101 ?_
          refine lv_topi (fun x_523 ex_523 => ?_)
          refine va_put (D := (dC, dI)) (ci := 12) (v := .int x_523) (ty := .int) (C := RX12) (T := TX12) (N := 57) hx hb hts (fun w h => List.mem_cons_of_mem _ (jnGB_X12 w h)) tyX12 tyX12_ok nmX12 hown hK hP hD hS 0 rfl rfl 47 (by decide) (hts _ (List.mem_cons_of_mem _ mGB_404)) (fun _ h9 => h9) rfl (by decide +kernel) rfl rfl (Nat.le_of_ble_eq_true rfl) dX12_laysRanked_102 (fun H locs hP hD hS => ?_)
          have hP : va_P (dC, dI) vwCl [(h0, .inr (12, fsMM (upd mi 47 x_523) mr)), ((mr 14), .inl (km_must, 25, .inl fm_must)), ((mr 15), .inl (km_least, 25, .inl fm_least)), ((mr 16), .inl (km_pin, 25, .inl fm_pin)), ((mr 17), .inl (km_ways, 6875, .inl z4)), ((mr 20), .inl (km_official, 25, .inl z5))] H := hP
          have hD : va_D A [(h0, .inr (12, fsMM (upd mi 47 x_523) mr)), ((mr 14), .inl (km_must, 25, .inl fm_must)), ((mr 15), .inl (km_least, 25, .inl fm_least)), ((mr 16), .inl (km_pin, 25, .inl fm_pin)), ((mr 17), .inl (km_ways, 6875, .inl z4)), ((mr 20), .inl (km_official, 25, .inl z5))] := hD
          refine lv_aload_n hx hb dX12_laysRanked_105 rfl (lv_at hl 5 rfl) ?_
          refine va_get (D := (dC, dI)) (ci := 12) (v := .ref (mr 20)) (C := RX12) (T := TX12) (N := 57) hx hb hts (fun w h => List.mem_cons_of_mem _ (jnGB_X12 w h)) hown hK hP 0 rfl rfl 46 (by decide) (hts _ (List.mem_cons_of_mem _ mGB_36)) (fun _ h9 => h9) rfl dX12_laysRanked_106 ?_
          refine lv_iload hx hb dX12_laysRanked_109 (lv_at hl 7 rfl) ?_
          refine lv_iconst (v := 1) hx hb dX12_laysRanked_111 (by decide) ?_
          refine lv_iadd hx hb dX12_laysRanked_112 ?_
          refine lv_topi (fun x_524 ex_524 => ?_)
          have gx_524 : gi x_524 1 24 := gi_add ex_524 g_513 (gi_c 1 1 (by decide)) (by decide)
          refine lv_bipush (v := 29) hx hb dX12_laysRanked_113 (by decide) ?_
          refine lv_iload hx hb dX12_laysRanked_115 (lv_at hl 7 rfl) ?_
          refine lv_iconst (v := 1) hx hb dX12_laysRanked_117 (by decide) ?_
          refine lv_iadd hx hb dX12_laysRanked_118 ?_
          refine lv_topi (fun x_525 ex_525 => ?_)
          have gx_525 : gi x_525 1 24 := gi_add ex_525 g_513 (gi_c 1 1 (by decide)) (by decide)
          refine lv_imul hx hb dX12_laysRanked_119 ?_
          refine lv_topi (fun x_526 ex_526 => ?_)
          have gx_526 : gi x_526 29 696 := gi_mul ex_526 (gi_c 29 29 (by decide)) gx_525 (by decide)
          refine lv_iload_n hx hb dX12_laysRanked_120 rfl (lv_at hl 0 rfl) ?_
          refine lv_iadd hx hb dX12_laysRanked_121 ?_
          refine lv_topi (fun x_527 ex_527 => ?_)
          have gx_527 : gi x_527 30 720 := gi_add ex_527 gx_526 gx_521 (by decide)
          refine va_iast hx hb hK hP hD hS 5 4 rfl rfl (gi_in gx_524 (by decide)) dX12_laysRanked_122 (fun H locs hP hD hS => ?_)
          have hP : va_P (dC, dI) vwCl [(h0, .inr (12, fsMM (upd mi 47 x_523) mr)), ((mr 14), .inl (km_must, 25, .inl fm_must)), ((mr 15), .inl (km_least, 25, .inl fm_least)), ((mr 16), .inl (km_pin, 25, .inl fm_pin)), ((mr 17), .inl (km_ways, 6875, .inl z4)), ((mr 20), .inl (km_official, 25, .inl (upd z5 (x_524 : Int32).toNatClampNeg x_527)))] H := hP
          have hD : va_D A [(h0, .inr (12, fsMM (upd mi 47 x_523) mr)), ((mr 14), .inl (km_must, 25, .inl fm_must)), ((mr 15), .inl (km_least, 25, .inl fm_least)), ((mr 16), .inl (km_pin, 25, .inl fm_pin)), ((mr 17), .inl (km_ways, 6875, .inl z4)), ((mr 20), .inl (km_official, 25, .inl (upd z5 (x_524 : Int32).toNatClampNeg x_527)))] := hD
          generalize upd z5 (x_524 : Int32).toNatClampNeg x_527 = f_528 at hP hD
          obtain ⟨x_529, ex_529⟩ : ∃ y : Int32, y = v5 + 1 := ⟨_, rfl⟩
          have gx_529 : gi x_529 1 24 := gi_add ex_529 g_513 (gi_c 1 1 (by decide)) (by decide)
          refine lv_iinc (v := x_529) (lv' := [(5, .int x_529), (3, .int x_521), (4, .int r_520), (2, .int x_519), (7, .int 1), (6, .int r_516), (0, .ref h0), (1, .int p1)]) hx hb dX12_laysRanked_123 hl (k := 7) rfl (by rw [ex_529]; rfl) (by decide) rfl (fun ls hl => ?_)
          refine lv_goto (tgt := 27) hx hb dX12_laysRanked_126 (by decide) ?_
          exact ih x_519 x_521 r_520 x_529 x_523 z4 f_528 _ _ _ (gi_w gx_521 (by decide)) gr_520 (gi_w gx_529 (by decide)) (by have qgx_529 := gx_529.1; have rgx_529 := gx_529.2; have igx_529 : x_529.toInt = v5.toInt + 1 := (by have hc1 : (1 : Int32).toInt = 1 := (by decide); have h9 := gi_addI ex_529 (by have h1 := g_513.1; have h2 := (gi_c 1 1 (by decide)).1; have h3 := g_513.2; have h4 := (gi_c 1 1 (by decide)).2; omega) (by have h1 := g_513.1; have h2 := (gi_c 1 1 (by decide)).1; have h3 := g_513.2; have h4 := (gi_c 1 1 (by decide)).2; omega); rw [hc1] at h9; exact h9); have qgv5 := g_513.1; have rgv5 := g_513.2; have qgx_521 := gx_521.1; have rgx_521 := gx_521.2; have igx_521 : x_521.toInt = v3.toInt + 1 := (by have hc1 : (1 : Int32).toInt = 1 := (by decide); have h9 := gi_addI ex_521 (by have h1 := g_514.1; have h2 := (gi_c 1 1 (by decide)).1; have h3 := g_514.2; have h4 := (gi_c 1 1 (by decide)).2; omega) (by have h1 := g_514.1; have h2 := (gi_c 1 1 (by decide)).1; have h3 := g_514.2; have h4 := (gi_c 1 1 (by decide)).2; omega); rw [hc1] at h9; exact h9); have qgv3 := g_514.1; have rgv3 := g_514.2; have y1 := (Int32.lt_iff_toInt_lt.mp (Int32.not_le.mp c_512)); have y2 := (Int32.le_iff_toInt_le.mp c_517); omega) (by have av5 := gv5.1; have bv5 := gv5.2; have qgx_529 := gx_529.1; have rgx_529 := gx_529.2; have igx_529 : x_529.toInt = v5.toInt + 1 := (by have hc1 : (1 : Int32).toInt = 1 := (by decide); have h9 := gi_addI ex_529 (by have h1 := g_513.1; have h2 := (gi_c 1 1 (by decide)).1; have h3 := g_513.2; have h4 := (gi_c 1 1 (by decide)).2; omega) (by have h1 := g_513.1; have h2 := (gi_c 1 1 (by decide)).1; have h3 := g_513.2; have h4 := (gi_c 1 1 (by decide)).2; omega); rw [hc1] at h9; exact h9); have qgv5 := g_513.1; have rgv5 := g_513.2; omega) hP hD hS (lv_sub hl [6, 7, 3, 1, 2, 0] rfl)
        · have g_530 : gi v2 (-2147483648) 2147483646 := gi_lt_l (Int32.not_le.mp c_517) (gi_any v2) (gi_any r_516) (by decide)
          have g_531 : gi r_516 (-2147483647) 2147483647 := gi_lt_r (Int32.not_le.mp c_517) (gi_any v2) (gi_any r_516) (by decide)
          refine lv_iconst (v := 0) hx hb dX12_laysRanked_54 (by decide) ?_
          refine lv_goto (tgt := 59) hx hb dX12_laysRanked_55 (by decide) ?_
          refine lv_istore (lv' := [(7, .int 0), (6, .int r_516), (0, .ref h0), (1, .int p1), (2, .int v2), (3, .int v3), (4, .int v4), (5, .int v5)]) hx hb dX12_laysRanked_59 hl (by decide) rfl (fun ls hl => ?_)
          refine lv_iload_n hx hb dX12_laysRanked_61 rfl (lv_at hl 4 rfl) ?_
          refine lv_iload hx hb dX12_laysRanked_62 (lv_at hl 0 rfl) ?_
          refine lv_iconst (v := 1) hx hb dX12_laysRanked_64 (by decide) ?_
          refine lv_icmp_ne (tgt := 73) hx hb dX12_laysRanked_65 (by decide) (fun c_532 => ?_) (fun c_532 => absurd c_532 (gi_no_eq (gi_c 0 0 (by decide)) (gi_c 1 1 (by decide)) (by decide)))
          refine lv_iconst (v := 0) hx hb dX12_laysRanked_73 (by decide) ?_
          refine lv_isub hx hb dX12_laysRanked_74 ?_
          refine lv_topi (fun x_533 ex_533 => ?_)
          have gx_533 : gi x_533 (-2147483648) 2147483646 := gi_sub ex_533 g_530 (gi_c 0 0 (by decide)) (by decide)
          refine lv_istore_n (lv' := [(2, .int x_533), (7, .int 0), (6, .int r_516), (0, .ref h0), (1, .int p1), (3, .int v3), (4, .int v4), (5, .int v5)]) hx hb dX12_laysRanked_75 rfl hl (by decide) rfl (fun ls hl => ?_)
          refine lv_aload_n hx hb dX12_laysRanked_76 rfl (lv_at hl 3 rfl) ?_
          refine lv_iload hx hb dX12_laysRanked_77 (lv_at hl 6 rfl) ?_
          refine lv_iload hx hb dX12_laysRanked_79 (lv_at hl 1 rfl) ?_
          have hPc := hP.sub (ws' := [(h0, .inr (12, fsMM (upd mi 47 w0_47) mr))]) [0] rfl
          have hKc := hK.sub (tys' := []) [] rfl
          refine va_calli (va_runV (As := [.int v4, .int 0]) (rest := []) ⟨hx, hb, hml, hown, hts⟩ (sX12_runBehind l dC dI h0 (upd mi 47 w0_47) mr v4 0 (gi_w g_515 (by decide)) gmi_1 gmi_2 gmi_4 gmi_7 gmi_10 gmi_17 gmi_23 gmi_24 gmi_26 gmi_29 gmi_30 gmi_33 gmi_37 gmi_41 gmi_50 gmi_51 gmi_56 gv4 (gi_w (gi_c 0 0 (by decide)) (by decide))) (cwV 2 hts (gz_gV mGB_311 mGB_312 mGB_313 mGB_1 mGB_314 goodGB) rfl rfl rfl (by decide +kernel) ⟨Nat.le_trans (Nat.le_of_ble_eq_true rfl) hRf, Nat.le_trans (Nat.le_of_ble_eq_true rfl) hRl⟩) ⟨fun a U g mk q => by obtain ⟨q0, qP, qK⟩ := q; exact ⟨q0, qP, va_K.moved (u := U) (U := U.calling g mk a) (Vm.Alike.refl U.vm) qK⟩, va_recv hKc hPc (ci := 12) (q0 := 0) rfl rfl, fun U hU hW => ⟨rfl, by rw [hU]; exact hPc, va_K.moved hW.alike hKc⟩⟩ rfl rfl hl.1 rfl (lv_room (Nat.le_of_ble_eq_true rfl)) dX12_laysRanked_81 ⟨hRc, hRs⟩) hS (fun q _ h => h.elim) (fun q h => h.elim) (fun r_534 u t H1 locs ht hvm hw hB hz1 hk1 hS => ?_)
          have hP := gz_keep hP hk1
          generalize H1 = H at hP hS ⊢
          have gr_534 : gi r_534 (-1) 10 := hw
          refine lv_istore (lv' := [(4, .int r_534), (2, .int x_533), (7, .int 0), (6, .int r_516), (0, .ref h0), (1, .int p1), (3, .int v3), (5, .int v5)]) hx hb dX12_laysRanked_84 hl (by decide) rfl (fun ls hl => ?_)
          refine lv_iload_n hx hb dX12_laysRanked_86 rfl (lv_at hl 6 rfl) ?_
          refine lv_iload hx hb dX12_laysRanked_87 (lv_at hl 2 rfl) ?_
          refine lv_iadd hx hb dX12_laysRanked_89 ?_
          refine lv_topi (fun x_535 ex_535 => ?_)
          have gx_535 : gi x_535 0 23 := gi_add ex_535 g_514 (gi_c 0 0 (by decide)) (by decide)
          refine lv_istore_n (lv' := [(3, .int x_535), (4, .int r_534), (2, .int x_533), (7, .int 0), (6, .int r_516), (0, .ref h0), (1, .int p1), (5, .int v5)]) hx hb dX12_laysRanked_90 rfl hl (by decide) rfl (fun ls hl => ?_)
          refine lv_aload_n hx hb dX12_laysRanked_91 rfl (lv_at hl 5 rfl) ?_
          refine lv_dup hx hb dX12_laysRanked_92 rfl ?_
          refine va_get (D := (dC, dI)) (ci := 12) (v := .int w0_47) (C := RX12) (T := TX12) (N := 57) hx hb hts (fun w h => List.mem_cons_of_mem _ (jnGB_X12 w h)) hown hK hP 0 rfl rfl 47 (by decide) (hts _ (List.mem_cons_of_mem _ mGB_404)) (fun _ h9 => h9) rfl dX12_laysRanked_93 ?_
          refine lv_iload hx hb dX12_laysRanked_96 (lv_at hl 3 rfl) ?_
          refine lv_iload hx hb dX12_laysRanked_98 (lv_at hl 7 rfl) ?_
          refine lv_ishl hx hb dX12_laysRanked_100 ?_
          refine lv_topi (fun x_536 ex_536 => ?_)
          refine lv_ior hx hb dX12_laysRanked_101 ?_
          refine lv_topi (fun x_537 ex_537 => ?_)
          refine va_put (D := (dC, dI)) (ci := 12) (v := .int x_537) (ty := .int) (C := RX12) (T := TX12) (N := 57) hx hb hts (fun w h => List.mem_cons_of_mem _ (jnGB_X12 w h)) tyX12 tyX12_ok nmX12 hown hK hP hD hS 0 rfl rfl 47 (by decide) (hts _ (List.mem_cons_of_mem _ mGB_404)) (fun _ h9 => h9) rfl (by decide +kernel) rfl rfl (Nat.le_of_ble_eq_true rfl) dX12_laysRanked_102 (fun H locs hP hD hS => ?_)
          have hP : va_P (dC, dI) vwCl [(h0, .inr (12, fsMM (upd mi 47 x_537) mr)), ((mr 14), .inl (km_must, 25, .inl fm_must)), ((mr 15), .inl (km_least, 25, .inl fm_least)), ((mr 16), .inl (km_pin, 25, .inl fm_pin)), ((mr 17), .inl (km_ways, 6875, .inl z4)), ((mr 20), .inl (km_official, 25, .inl z5))] H := hP
          have hD : va_D A [(h0, .inr (12, fsMM (upd mi 47 x_537) mr)), ((mr 14), .inl (km_must, 25, .inl fm_must)), ((mr 15), .inl (km_least, 25, .inl fm_least)), ((mr 16), .inl (km_pin, 25, .inl fm_pin)), ((mr 17), .inl (km_ways, 6875, .inl z4)), ((mr 20), .inl (km_official, 25, .inl z5))] := hD
          refine lv_aload_n hx hb dX12_laysRanked_105 rfl (lv_at hl 5 rfl) ?_
          refine va_get (D := (dC, dI)) (ci := 12) (v := .ref (mr 20)) (C := RX12) (T := TX12) (N := 57) hx hb hts (fun w h => List.mem_cons_of_mem _ (jnGB_X12 w h)) hown hK hP 0 rfl rfl 46 (by decide) (hts _ (List.mem_cons_of_mem _ mGB_36)) (fun _ h9 => h9) rfl dX12_laysRanked_106 ?_
          refine lv_iload hx hb dX12_laysRanked_109 (lv_at hl 7 rfl) ?_
          refine lv_iconst (v := 1) hx hb dX12_laysRanked_111 (by decide) ?_
          refine lv_iadd hx hb dX12_laysRanked_112 ?_
          refine lv_topi (fun x_538 ex_538 => ?_)
          have gx_538 : gi x_538 1 24 := gi_add ex_538 g_513 (gi_c 1 1 (by decide)) (by decide)
          refine lv_bipush (v := 29) hx hb dX12_laysRanked_113 (by decide) ?_
          refine lv_iload hx hb dX12_laysRanked_115 (lv_at hl 7 rfl) ?_
          refine lv_iconst (v := 1) hx hb dX12_laysRanked_117 (by decide) ?_
          refine lv_iadd hx hb dX12_laysRanked_118 ?_
          refine lv_topi (fun x_539 ex_539 => ?_)
          have gx_539 : gi x_539 1 24 := gi_add ex_539 g_513 (gi_c 1 1 (by decide)) (by decide)
          refine lv_imul hx hb dX12_laysRanked_119 ?_
          refine lv_topi (fun x_540 ex_540 => ?_)
          have gx_540 : gi x_540 29 696 := gi_mul ex_540 (gi_c 29 29 (by decide)) gx_539 (by decide)
          refine lv_iload_n hx hb dX12_laysRanked_120 rfl (lv_at hl 0 rfl) ?_
          refine lv_iadd hx hb dX12_laysRanked_121 ?_
          refine lv_topi (fun x_541 ex_541 => ?_)
          have gx_541 : gi x_541 29 719 := gi_add ex_541 gx_540 gx_535 (by decide)
          refine va_iast hx hb hK hP hD hS 5 4 rfl rfl (gi_in gx_538 (by decide)) dX12_laysRanked_122 (fun H locs hP hD hS => ?_)
          have hP : va_P (dC, dI) vwCl [(h0, .inr (12, fsMM (upd mi 47 x_537) mr)), ((mr 14), .inl (km_must, 25, .inl fm_must)), ((mr 15), .inl (km_least, 25, .inl fm_least)), ((mr 16), .inl (km_pin, 25, .inl fm_pin)), ((mr 17), .inl (km_ways, 6875, .inl z4)), ((mr 20), .inl (km_official, 25, .inl (upd z5 (x_538 : Int32).toNatClampNeg x_541)))] H := hP
          have hD : va_D A [(h0, .inr (12, fsMM (upd mi 47 x_537) mr)), ((mr 14), .inl (km_must, 25, .inl fm_must)), ((mr 15), .inl (km_least, 25, .inl fm_least)), ((mr 16), .inl (km_pin, 25, .inl fm_pin)), ((mr 17), .inl (km_ways, 6875, .inl z4)), ((mr 20), .inl (km_official, 25, .inl (upd z5 (x_538 : Int32).toNatClampNeg x_541)))] := hD
          generalize upd z5 (x_538 : Int32).toNatClampNeg x_541 = f_542 at hP hD
          obtain ⟨x_543, ex_543⟩ : ∃ y : Int32, y = v5 + 1 := ⟨_, rfl⟩
          have gx_543 : gi x_543 1 24 := gi_add ex_543 g_513 (gi_c 1 1 (by decide)) (by decide)
          refine lv_iinc (v := x_543) (lv' := [(5, .int x_543), (3, .int x_535), (4, .int r_534), (2, .int x_533), (7, .int 0), (6, .int r_516), (0, .ref h0), (1, .int p1)]) hx hb dX12_laysRanked_123 hl (k := 7) rfl (by rw [ex_543]; rfl) (by decide) rfl (fun ls hl => ?_)
          refine lv_goto (tgt := 27) hx hb dX12_laysRanked_126 (by decide) ?_
          exact ih x_533 x_535 r_534 x_543 x_537 z4 f_542 _ _ _ (gi_w gx_535 (by decide)) gr_534 (gi_w gx_543 (by decide)) (by have qgx_543 := gx_543.1; have rgx_543 := gx_543.2; have igx_543 : x_543.toInt = v5.toInt + 1 := (by have hc1 : (1 : Int32).toInt = 1 := (by decide); have h9 := gi_addI ex_543 (by have h1 := g_513.1; have h2 := (gi_c 1 1 (by decide)).1; have h3 := g_513.2; have h4 := (gi_c 1 1 (by decide)).2; omega) (by have h1 := g_513.1; have h2 := (gi_c 1 1 (by decide)).1; have h3 := g_513.2; have h4 := (gi_c 1 1 (by decide)).2; omega); rw [hc1] at h9; exact h9); have qgv5 := g_513.1; have rgv5 := g_513.2; have qgx_535 := gx_535.1; have rgx_535 := gx_535.2; have igx_535 : x_535.toInt = v3.toInt + 0 := (by have hc0 : (0 : Int32).toInt = 0 := (by decide); have h9 := gi_addI ex_535 (by have h1 := g_514.1; have h2 := (gi_c 0 0 (by decide)).1; have h3 := g_514.2; have h4 := (gi_c 0 0 (by decide)).2; omega) (by have h1 := g_514.1; have h2 := (gi_c 0 0 (by decide)).1; have h3 := g_514.2; have h4 := (gi_c 0 0 (by decide)).2; omega); rw [hc0] at h9; exact h9); have qgv3 := g_514.1; have rgv3 := g_514.2; have y1 := (Int32.lt_iff_toInt_lt.mp (Int32.not_le.mp c_512)); have y2 := (Int32.lt_iff_toInt_lt.mp (Int32.not_le.mp c_517)); omega) (by have av5 := gv5.1; have bv5 := gv5.2; have qgx_543 := gx_543.1; have rgx_543 := gx_543.2; have igx_543 : x_543.toInt = v5.toInt + 1 := (by have hc1 : (1 : Int32).toInt = 1 := (by decide); have h9 := gi_addI ex_543 (by have h1 := g_513.1; have h2 := (gi_c 1 1 (by decide)).1; have h3 := g_513.2; have h4 := (gi_c 1 1 (by decide)).2; omega) (by have h1 := g_513.1; have h2 := (gi_c 1 1 (by decide)).1; have h3 := g_513.2; have h4 := (gi_c 1 1 (by decide)).2; omega); rw [hc1] at h9; exact h9); have qgv5 := g_513.1; have rgv5 := g_513.2; omega) hP hD hS (lv_sub hl [6, 7, 3, 1, 2, 0] rfl)
set_option maxHeartbeats 4000000 in
set_option maxRecDepth 100000 in
theorem sX12_laysRanked (l : Launch) (dC : Nat → ClassId) (dI : Nat → Nat → Nat) (sz : Nat) (h0 : Nat) (mi : Nat → Int32) (mr : Nat → Nat) (km_must : ClassId) (fm_must : Nat → Int32) (km_least : ClassId) (fm_least : Nat → Int32) (km_pin : ClassId) (fm_pin : Nat → Int32) (km_ways : ClassId) (fm_ways : Nat → Int32) (km_official : ClassId) (fm_official : Nat → Int32) (p1 : Int32) (gmi_0 : gi (mi 0) 0 24) (gmi_1 : gi (mi 1) 0 5) (gmi_2 : gi (mi 2) 0 5) (gmi_4 : gi (mi 4) 0 1) (gmi_7 : gi (mi 7) 0 6) (gmi_10 : gi (mi 10) 0 24) (gmi_17 : gi (mi 17) 0 8) (gmi_23 : gi (mi 23) 0 300) (gmi_24 : gi (mi 24) 0 1) (gmi_26 : gi (mi 26) 0 1600) (gmi_29 : gi (mi 29) 0 1600) (gmi_30 : gi (mi 30) 0 1600) (gmi_33 : gi (mi 33) 0 1) (gmi_37 : gi (mi 37) 0 1) (gmi_41 : gi (mi 41) 0 24) (gmi_50 : gi (mi 50) 0 1) (gmi_51 : gi (mi 51) 0 1) (gmi_56 : gi (mi 56) 0 80) : Met l yX12_laysRanked (.code yX12_laysRanked cX12_laysRanked 8 none :: wsGB) ({ frames := 3, cells := 0, slots := 0, locals := 73 }) (va_Pc [.ref h0, .int p1] (fun U => U.heap.size = sz ∧ va_P (dC, dI) vwCl [(h0, .inr (12, fsMM mi mr)), ((mr 14), .inl (km_must, 25, .inl fm_must)), ((mr 15), .inl (km_least, 25, .inl fm_least)), ((mr 16), .inl (km_pin, 25, .inl fm_pin)), ((mr 17), .inl (km_ways, 6875, .inl fm_ways)), ((mr 20), .inl (km_official, 25, .inl fm_official))] U.heap ∧ va_K (dC, dI) vwCl [(km_must, .int), (km_least, .int), (km_pin, .int), (km_ways, .int), (km_official, .int)] U ∧ va_D (fun _ => True) [(h0, .inr (12, fsMM mi mr)), ((mr 14), .inl (km_must, 25, .inl fm_must)), ((mr 15), .inl (km_least, 25, .inl fm_least)), ((mr 16), .inl (km_pin, 25, .inl fm_pin)), ((mr 17), .inl (km_ways, 6875, .inl fm_ways)), ((mr 20), .inl (km_official, 25, .inl fm_official))])) (va_Qv (fun (u : Unit) => True) (fun _ t => ∃ (w0_47 : Int32) (z4 : Nat → Int32) (z5 : Nat → Int32), va_P (dC, dI) vwCl [(h0, .inr (12, fsMM (upd mi 47 w0_47) mr)), ((mr 14), .inl (km_must, 25, .inl fm_must)), ((mr 15), .inl (km_least, 25, .inl fm_least)), ((mr 16), .inl (km_pin, 25, .inl fm_pin)), ((mr 17), .inl (km_ways, 6875, .inl z4)), ((mr 20), .inl (km_official, 25, .inl z5))] t.heap ∧ va_D (va_A [(h0, .inr (12, fsMM mi mr)), ((mr 14), .inl (km_must, 25, .inl fm_must)), ((mr 15), .inl (km_least, 25, .inl fm_least)), ((mr 16), .inl (km_pin, 25, .inl fm_pin)), ((mr 17), .inl (km_ways, 6875, .inl fm_ways)), ((mr 20), .inl (km_official, 25, .inl fm_official))] sz) [(h0, .inr (12, fsMM (upd mi 47 w0_47) mr)), ((mr 14), .inl (km_must, 25, .inl fm_must)), ((mr 15), .inl (km_least, 25, .inl fm_least)), ((mr 16), .inl (km_pin, 25, .inl fm_pin)), ((mr 17), .inl (km_ways, 6875, .inl z4)), ((mr 20), .inl (km_official, 25, .inl z5))]) (va_A [(h0, .inr (12, fsMM mi mr)), ((mr 14), .inl (km_must, 25, .inl fm_must)), ((mr 15), .inl (km_least, 25, .inl fm_least)), ((mr 16), .inl (km_pin, 25, .inl fm_pin)), ((mr 17), .inl (km_ways, 6875, .inl fm_ways)), ((mr 20), .inl (km_official, 25, .inl fm_official))] sz)) 0 0 (va_A [(h0, .inr (12, fsMM mi mr)), ((mr 14), .inl (km_must, 25, .inl fm_must)), ((mr 15), .inl (km_least, 25, .inl fm_least)), ((mr 16), .inl (km_pin, 25, .inl fm_pin)), ((mr 17), .inl (km_ways, 6875, .inl fm_ways)), ((mr 20), .inl (km_official, 25, .inl fm_official))] sz) := by
  refine Met.ofW (cc := cX12_laysRanked) (maxL := 8) (ret := none) (by decide) rfl ?_
  intro p e s m args below meth c s₁ B hml hv
  obtain ⟨rfl, hsz, hP, hK, hD0⟩ := hv
  have hx := B.exec
  have hb := B.bytes
  have hr := B.returns
  have hts := atoms_spec (ws := (.code yX12_laysRanked cX12_laysRanked 8 none :: wsGB)) B.pre
  have hown : s.vm.findClass RX12 = some m.cls := findClass_of_methodNamed B.named
  have hlocks := B.notSynchronized
  subst hsz
  have hD := hD0.self (sz := s.heap.size)
  generalize hAe : va_A [(h0, .inr (12, fsMM mi mr)), ((mr 14), .inl (km_must, 25, .inl fm_must)), ((mr 15), .inl (km_least, 25, .inl fm_least)), ((mr 16), .inl (km_pin, 25, .inl fm_pin)), ((mr 17), .inl (km_ways, 6875, .inl fm_ways)), ((mr 20), .inl (km_official, 25, .inl fm_official))] s.heap.size = A at hD ⊢
  have hA : ∀ q : Nat, s.heap.size ≤ q → A q := fun q h => by rw [← hAe]; exact Or.inr h
  have hS : va_S A s.heap s.heap [] := va_S.rf
  have hl := lv_entry ([.ref h0, .int p1]) (n := 8) (Nat.le_of_ble_eq_true rfl)
  rw [lg_entry_eq]
  generalize (lg_sl ([.ref h0, .int p1]) ++ List.replicate (8 - (lg_sl ([.ref h0, .int p1])).length) Slot.unset).toArray = ls at hl ⊢
  have hl : lv_has ls 8 [(0, .ref h0), (1, .int p1)] := hl
  refine lv_aload_n hx hb dX12_laysRanked_0 rfl (lv_at hl 0 rfl) ?_
  have hPc := hP.sub (ws' := [(h0, .inr (12, fsMM mi mr)), ((mr 14), .inl (km_must, 25, .inl fm_must)), ((mr 15), .inl (km_least, 25, .inl fm_least)), ((mr 16), .inl (km_pin, 25, .inl fm_pin)), ((mr 17), .inl (km_ways, 6875, .inl fm_ways))]) [0, 1, 2, 3, 4] rfl
  have hKc := hK.sub (tys' := [(km_must, .int), (km_least, .int), (km_pin, .int), (km_ways, .int)]) [0, 1, 2, 3] rfl
  have hDc := hD.sub (ws' := [(h0, .inr (12, fsMM mi mr)), ((mr 14), .inl (km_must, 25, .inl fm_must)), ((mr 15), .inl (km_least, 25, .inl fm_least)), ((mr 16), .inl (km_pin, 25, .inl fm_pin)), ((mr 17), .inl (km_ways, 6875, .inl fm_ways))]) [0, 1, 2, 3, 4] (by decide) rfl
  have hFc := va_free (wc := [(h0, .inr (12, fsMM mi mr)), ((mr 14), .inl (km_must, 25, .inl fm_must)), ((mr 15), .inl (km_least, 25, .inl fm_least)), ((mr 16), .inl (km_pin, 25, .inl fm_pin)), ((mr 17), .inl (km_ways, 6875, .inl fm_ways))]) hD hS hA [0, 1, 2, 3, 4] rfl
  refine va_calli (va_runV (As := []) (rest := []) ⟨hx, hb, hml, hown, hts⟩ (sX12_counts l dC dI s.heap.size h0 mi mr km_must fm_must km_least fm_least km_pin fm_pin km_ways fm_ways gmi_0 gmi_1 gmi_2 gmi_4 gmi_7 gmi_10 gmi_17 gmi_23 gmi_24 gmi_26 gmi_29 gmi_30 gmi_33 gmi_37 gmi_41 gmi_50 gmi_51 gmi_56) (cwV 0 hts (gz_gV mGB_299 mGB_300 mGB_301 mGB_1 mGB_302 goodGB) rfl rfl rfl (by decide +kernel) ⟨Nat.le_of_ble_eq_true rfl, Nat.le_of_ble_eq_true rfl⟩) ⟨fun a U g mk q => by obtain ⟨q0, q1, qP, qK, qD⟩ := q; exact ⟨q0, q1, qP, va_K.moved (u := U) (U := U.calling g mk a) (Vm.Alike.refl U.vm) qK, qD⟩, va_recv hKc hPc (ci := 12) (q0 := 0) rfl rfl, fun U hU hW => ⟨rfl, by rw [hU], by rw [hU]; exact hPc, va_K.moved hW.alike hKc, hDc.weaken (fun _ _ _ _ => trivial)⟩⟩ rfl rfl hl.1 rfl (lv_room (Nat.le_of_ble_eq_true rfl)) dX12_laysRanked_1 ⟨Nat.zero_le _, Nat.zero_le _⟩) hS (fun q _ h => hFc q h) hFc (fun r_544 u t H1 locs ht hvm hw hB hz1 hk1 hS => ?_)
  obtain ⟨f_545, hP1, hD1⟩ := hB
  rw [ht] at hP1
  obtain ⟨hP, hD⟩ := va_join (wr := [((mr 20), .inl (km_official, 25, .inl fm_official))]) (w1 := [(h0, .inr (12, fsMM mi mr)), ((mr 14), .inl (km_must, 25, .inl fm_must)), ((mr 15), .inl (km_least, 25, .inl fm_least)), ((mr 16), .inl (km_pin, 25, .inl fm_pin)), ((mr 17), .inl (km_ways, 6875, .inl f_545))]) hP hD [0, 1, 2, 3, 4] [5] rfl rfl (by decide) (by decide) hk1 hFc hP1 hD1
  have hP := hP.sub (ws' := [(h0, .inr (12, fsMM mi mr)), ((mr 14), .inl (km_must, 25, .inl fm_must)), ((mr 15), .inl (km_least, 25, .inl fm_least)), ((mr 16), .inl (km_pin, 25, .inl fm_pin)), ((mr 17), .inl (km_ways, 6875, .inl f_545)), ((mr 20), .inl (km_official, 25, .inl fm_official))]) [1, 2, 3, 4, 5, 0] rfl
  have hD := hD.sub (ws' := [(h0, .inr (12, fsMM mi mr)), ((mr 14), .inl (km_must, 25, .inl fm_must)), ((mr 15), .inl (km_least, 25, .inl fm_least)), ((mr 16), .inl (km_pin, 25, .inl fm_pin)), ((mr 17), .inl (km_ways, 6875, .inl f_545)), ((mr 20), .inl (km_official, 25, .inl fm_official))]) [1, 2, 3, 4, 5, 0] (by decide) rfl
  generalize H1 = H at hP hS ⊢
  refine lv_pop hx hb dX12_laysRanked_4 rfl ?_
  refine lv_iload_n hx hb dX12_laysRanked_5 rfl (lv_at hl 1 rfl) ?_
  refine lv_istore_n (lv' := [(2, .int p1), (0, .ref h0), (1, .int p1)]) hx hb dX12_laysRanked_6 rfl hl (by decide) rfl (fun ls hl => ?_)
  refine lv_iconst (v := 0) hx hb dX12_laysRanked_7 (by decide) ?_
  refine lv_istore_n (lv' := [(3, .int 0), (2, .int p1), (0, .ref h0), (1, .int p1)]) hx hb dX12_laysRanked_8 rfl hl (by decide) rfl (fun ls hl => ?_)
  refine lv_iconst (v := 0) hx hb dX12_laysRanked_9 (by decide) ?_
  refine lv_istore (lv' := [(4, .int 0), (3, .int 0), (2, .int p1), (0, .ref h0), (1, .int p1)]) hx hb dX12_laysRanked_10 hl (by decide) rfl (fun ls hl => ?_)
  refine lv_aload_n hx hb dX12_laysRanked_12 rfl (lv_at hl 3 rfl) ?_
  refine lv_iconst (v := 0) hx hb dX12_laysRanked_13 (by decide) ?_
  refine va_put (D := (dC, dI)) (ci := 12) (v := .int 0) (ty := .int) (C := RX12) (T := TX12) (N := 57) hx hb hts (fun w h => List.mem_cons_of_mem _ (jnGB_X12 w h)) tyX12 tyX12_ok nmX12 hown hK hP hD hS 0 rfl rfl 47 (by decide) (hts _ (List.mem_cons_of_mem _ mGB_404)) (fun _ h9 => h9) rfl (by decide +kernel) rfl rfl (Nat.le_of_ble_eq_true rfl) dX12_laysRanked_14 (fun H locs hP hD hS => ?_)
  have hP : va_P (dC, dI) vwCl [(h0, .inr (12, fsMM (upd mi 47 0) mr)), ((mr 14), .inl (km_must, 25, .inl fm_must)), ((mr 15), .inl (km_least, 25, .inl fm_least)), ((mr 16), .inl (km_pin, 25, .inl fm_pin)), ((mr 17), .inl (km_ways, 6875, .inl f_545)), ((mr 20), .inl (km_official, 25, .inl fm_official))] H := hP
  have hD : va_D A [(h0, .inr (12, fsMM (upd mi 47 0) mr)), ((mr 14), .inl (km_must, 25, .inl fm_must)), ((mr 15), .inl (km_least, 25, .inl fm_least)), ((mr 16), .inl (km_pin, 25, .inl fm_pin)), ((mr 17), .inl (km_ways, 6875, .inl f_545)), ((mr 20), .inl (km_official, 25, .inl fm_official))] := hD
  refine lv_aload_n hx hb dX12_laysRanked_17 rfl (lv_at hl 3 rfl) ?_
  refine va_get (D := (dC, dI)) (ci := 12) (v := .ref (mr 20)) (C := RX12) (T := TX12) (N := 57) hx hb hts (fun w h => List.mem_cons_of_mem _ (jnGB_X12 w h)) hown hK hP 0 rfl rfl 46 (by decide) (hts _ (List.mem_cons_of_mem _ mGB_36)) (fun _ h9 => h9) rfl dX12_laysRanked_18 ?_
  refine lv_iconst (v := 0) hx hb dX12_laysRanked_21 (by decide) ?_
  refine lv_iconst (v := 0) hx hb dX12_laysRanked_22 (by decide) ?_
  refine va_iast hx hb hK hP hD hS 5 4 rfl rfl (gi_in (gi_c 0 0 (by decide)) (by decide)) dX12_laysRanked_23 (fun H locs hP hD hS => ?_)
  have hP : va_P (dC, dI) vwCl [(h0, .inr (12, fsMM (upd mi 47 0) mr)), ((mr 14), .inl (km_must, 25, .inl fm_must)), ((mr 15), .inl (km_least, 25, .inl fm_least)), ((mr 16), .inl (km_pin, 25, .inl fm_pin)), ((mr 17), .inl (km_ways, 6875, .inl f_545)), ((mr 20), .inl (km_official, 25, .inl (upd fm_official (0 : Int32).toNatClampNeg 0)))] H := hP
  have hD : va_D A [(h0, .inr (12, fsMM (upd mi 47 0) mr)), ((mr 14), .inl (km_must, 25, .inl fm_must)), ((mr 15), .inl (km_least, 25, .inl fm_least)), ((mr 16), .inl (km_pin, 25, .inl fm_pin)), ((mr 17), .inl (km_ways, 6875, .inl f_545)), ((mr 20), .inl (km_official, 25, .inl (upd fm_official (0 : Int32).toNatClampNeg 0)))] := hD
  generalize upd fm_official (0 : Int32).toNatClampNeg 0 = f_546 at hP hD
  refine lv_iconst (v := 0) hx hb dX12_laysRanked_24 (by decide) ?_
  refine lv_istore (lv' := [(5, .int 0), (4, .int 0), (3, .int 0), (2, .int p1), (0, .ref h0), (1, .int p1)]) hx hb dX12_laysRanked_25 hl (by decide) rfl (fun ls hl => ?_)
  refine (lp_sX12_laysRanked h0 mi mr km_must fm_must km_least fm_least km_pin fm_pin km_ways fm_ways km_official fm_official p1 gmi_0 gmi_1 gmi_2 gmi_4 gmi_7 gmi_10 gmi_17 gmi_23 gmi_24 gmi_26 gmi_29 gmi_30 gmi_33 gmi_37 gmi_41 gmi_50 gmi_51 gmi_56 hx hb hml hown hts hK hA (Nat.le_of_ble_eq_true rfl) (Nat.le_of_ble_eq_true rfl) (Nat.zero_le _) (Nat.zero_le _) (fun w0_47 z4 z5 H locs ls hP hD hS hl => ?_) 62) p1 0 0 0 0 f_545 f_546 _ _ _ (gi_w (gi_c 0 0 (by decide)) (by decide)) (gi_w (gi_c 0 0 (by decide)) (by decide)) (gi_w (gi_c 0 0 (by decide)) (by decide)) (by have k0 : (0 : Int32).toInt = 0 := (by decide); have k0 : (0 : Int32).toInt = 0 := (by decide); omega) (by have k0 : (0 : Int32).toInt = 0 := (by decide); omega) hP hD hS (lv_sub hl [4, 5, 3, 2, 1, 0] rfl)
  · skip
    exact W.vret hx hb hr (fun t ht hW => ⟨⟨(), rfl, trivial, w0_47, z4, z5, by rw [ht]; exact hP, hD⟩, hS.F ht⟩) hS.2.2 dX12_laysRanked_129
theorem dX12_ranked_0 : decode cX12_ranked 0 = .ok (.aload_n 0, 1) := by decide +kernel
theorem dX12_ranked_1 : decode cX12_ranked 1 = .ok (.iload_n 1, 1) := by decide +kernel
theorem dX12_ranked_2 : decode cX12_ranked 2 = .ok (.invokevirtual 359, 3) := by decide +kernel
theorem dX12_ranked_5 : decode cX12_ranked 5 = .ok (.ifCond .eq 15, 3) := by decide +kernel
theorem dX12_ranked_8 : decode cX12_ranked 8 = .ok (.iload_n 2, 1) := by decide +kernel
theorem dX12_ranked_9 : decode cX12_ranked 9 = .ok (.ifCond .lt 11, 3) := by decide +kernel
theorem dX12_ranked_12 : decode cX12_ranked 12 = .ok (.aload_n 0, 1) := by decide +kernel
theorem dX12_ranked_13 : decode cX12_ranked 13 = .ok (.iload_n 3, 1) := by decide +kernel
theorem dX12_ranked_14 : decode cX12_ranked 14 = .ok (.invokevirtual 379, 3) := by decide +kernel
theorem dX12_ranked_17 : decode cX12_ranked 17 = .ok (.ifCond .ne 6, 3) := by decide +kernel
theorem dX12_ranked_20 : decode cX12_ranked 20 = .ok (.bipush (-2), 2) := by decide +kernel
theorem dX12_ranked_22 : decode cX12_ranked 22 = .ok (.ireturn, 1) := by decide +kernel
theorem dX12_ranked_23 : decode cX12_ranked 23 = .ok (.aload_n 0, 1) := by decide +kernel
theorem dX12_ranked_24 : decode cX12_ranked 24 = .ok (.iload_n 1, 1) := by decide +kernel
theorem dX12_ranked_25 : decode cX12_ranked 25 = .ok (.invokevirtual 362, 3) := by decide +kernel
theorem dX12_ranked_28 : decode cX12_ranked 28 = .ok (.iload_n 2, 1) := by decide +kernel
theorem dX12_ranked_29 : decode cX12_ranked 29 = .ok (.aload_n 0, 1) := by decide +kernel
theorem dX12_ranked_30 : decode cX12_ranked 30 = .ok (.invokevirtual 332, 3) := by decide +kernel
theorem dX12_ranked_33 : decode cX12_ranked 33 = .ok (.if_icmp .lt 5, 3) := by decide +kernel
theorem dX12_ranked_36 : decode cX12_ranked 36 = .ok (.iconst (-1), 1) := by decide +kernel
theorem dX12_ranked_37 : decode cX12_ranked 37 = .ok (.ireturn, 1) := by decide +kernel
theorem dX12_ranked_38 : decode cX12_ranked 38 = .ok (.aload_n 0, 1) := by decide +kernel
theorem dX12_ranked_39 : decode cX12_ranked 39 = .ok (.iload_n 2, 1) := by decide +kernel
theorem dX12_ranked_40 : decode cX12_ranked 40 = .ok (.invokevirtual 400, 3) := by decide +kernel
theorem dX12_ranked_43 : decode cX12_ranked 43 = .ok (.aload_n 0, 1) := by decide +kernel
theorem dX12_ranked_44 : decode cX12_ranked 44 = .ok (.getfield 87, 3) := by decide +kernel
theorem dX12_ranked_47 : decode cX12_ranked 47 = .ok (.iload_n 3, 1) := by decide +kernel
theorem dX12_ranked_48 : decode cX12_ranked 48 = .ok (.iaload, 1) := by decide +kernel
theorem dX12_ranked_49 : decode cX12_ranked 49 = .ok (.ireturn, 1) := by decide +kernel
set_option maxHeartbeats 4000000 in
set_option maxRecDepth 100000 in
theorem sX12_ranked (l : Launch) (dC : Nat → ClassId) (dI : Nat → Nat → Nat) (sz : Nat) (h0 : Nat) (mi : Nat → Int32) (mr : Nat → Nat) (km_must : ClassId) (fm_must : Nat → Int32) (km_least : ClassId) (fm_least : Nat → Int32) (km_pin : ClassId) (fm_pin : Nat → Int32) (km_ways : ClassId) (fm_ways : Nat → Int32) (km_verdict : ClassId) (fm_verdict : Nat → Int32) (km_row : ClassId) (fm_row : Nat → Int32) (km_struck : ClassId) (fm_struck : Nat → Int32) (km_reportKnown : ClassId) (fm_reportKnown : Nat → Int32) (km_reportPlace : ClassId) (fm_reportPlace : Nat → Int32) (km_reportMonth : ClassId) (fm_reportMonth : Nat → Int32) (km_reportDay : ClassId) (fm_reportDay : Nat → Int32) (km_reportKind : ClassId) (fm_reportKind : Nat → Int32) (km_trust : ClassId) (fm_trust : Nat → Int32) (km_letter : ClassId) (fm_letter : Nat → Int32) (km_official : ClassId) (fm_official : Nat → Int32) (p1 : Int32) (p2 : Int32) (p3 : Int32) (gmi_0 : gi (mi 0) 0 24) (gmi_1 : gi (mi 1) 0 5) (gmi_2 : gi (mi 2) 0 5) (gmi_4 : gi (mi 4) 0 1) (gmi_7 : gi (mi 7) 0 6) (gmi_10 : gi (mi 10) 0 24) (gmi_17 : gi (mi 17) 0 8) (gmi_23 : gi (mi 23) 0 300) (gmi_24 : gi (mi 24) 0 1) (gmi_26 : gi (mi 26) 0 1600) (gmi_29 : gi (mi 29) 0 1600) (gmi_30 : gi (mi 30) 0 1600) (gmi_33 : gi (mi 33) 0 1) (gmi_37 : gi (mi 37) 0 1) (gmi_41 : gi (mi 41) 0 24) (gmi_50 : gi (mi 50) 0 1) (gmi_51 : gi (mi 51) 0 1) (gmi_56 : gi (mi 56) 0 80) (gfm_row : ga fm_row 24 0 23) (gfm_struck : ga fm_struck 24 0 1) (gfm_reportKnown : ga fm_reportKnown 24 0 999) (gfm_reportPlace : ga fm_reportPlace 24 0 5) (gfm_reportMonth : ga fm_reportMonth 24 0 23) (gfm_reportDay : ga fm_reportDay 24 0 999) : Met l yX12_ranked (.code yX12_ranked cX12_ranked 4 (some .int) :: wsGB) ({ frames := 5, cells := 0, slots := 0, locals := 119 }) (va_Pc [.ref h0, .int p1, .int p2, .int p3] (fun U => U.heap.size = sz ∧ va_P (dC, dI) vwCl [(h0, .inr (12, fsMM mi mr)), ((mr 14), .inl (km_must, 25, .inl fm_must)), ((mr 15), .inl (km_least, 25, .inl fm_least)), ((mr 16), .inl (km_pin, 25, .inl fm_pin)), ((mr 17), .inl (km_ways, 6875, .inl fm_ways)), ((mr 18), .inl (km_verdict, 24, .inl fm_verdict)), ((mr 19), .inl (km_row, 24, .inl fm_row)), ((mr 4), .inl (km_struck, 24, .inl fm_struck)), ((mr 7), .inl (km_reportKnown, 24, .inl fm_reportKnown)), ((mr 2), .inl (km_reportPlace, 24, .inl fm_reportPlace)), ((mr 5), .inl (km_reportMonth, 24, .inl fm_reportMonth)), ((mr 6), .inl (km_reportDay, 24, .inl fm_reportDay)), ((mr 3), .inl (km_reportKind, 24, .inl fm_reportKind)), ((mr 0), .inl (km_trust, 6, .inl fm_trust)), ((mr 1), .inl (km_letter, 36, .inl fm_letter)), ((mr 20), .inl (km_official, 25, .inl fm_official))] U.heap ∧ va_K (dC, dI) vwCl [(km_must, .int), (km_least, .int), (km_pin, .int), (km_ways, .int), (km_verdict, .int), (km_row, .int), (km_struck, .boolean), (km_reportKnown, .int), (km_reportPlace, .int), (km_reportMonth, .int), (km_reportDay, .int), (km_reportKind, .int), (km_trust, .int), (km_letter, .int), (km_official, .int)] U ∧ va_D (fun _ => True) [(h0, .inr (12, fsMM mi mr)), ((mr 14), .inl (km_must, 25, .inl fm_must)), ((mr 15), .inl (km_least, 25, .inl fm_least)), ((mr 16), .inl (km_pin, 25, .inl fm_pin)), ((mr 17), .inl (km_ways, 6875, .inl fm_ways)), ((mr 18), .inl (km_verdict, 24, .inl fm_verdict)), ((mr 19), .inl (km_row, 24, .inl fm_row)), ((mr 4), .inl (km_struck, 24, .inl fm_struck)), ((mr 7), .inl (km_reportKnown, 24, .inl fm_reportKnown)), ((mr 2), .inl (km_reportPlace, 24, .inl fm_reportPlace)), ((mr 5), .inl (km_reportMonth, 24, .inl fm_reportMonth)), ((mr 6), .inl (km_reportDay, 24, .inl fm_reportDay)), ((mr 3), .inl (km_reportKind, 24, .inl fm_reportKind)), ((mr 0), .inl (km_trust, 6, .inl fm_trust)), ((mr 1), .inl (km_letter, 36, .inl fm_letter)), ((mr 20), .inl (km_official, 25, .inl fm_official))])) (va_Qi (fun (r : Int32) (u : Unit) => gi r (-2147483648) 2147483647) (fun _ t => ∃ (w0_37 : Int32) (w0_41 : Int32) (w0_47 : Int32) (z1 : Nat → Int32) (z2 : Nat → Int32) (z3 : Nat → Int32) (z4 : Nat → Int32) (z5 : Nat → Int32) (z6 : Nat → Int32) (z15 : Nat → Int32), gi w0_37 0 1 ∧ gi w0_41 0 24 ∧ ga z6 24 0 23 ∧ va_P (dC, dI) vwCl [(h0, .inr (12, fsMM (upd (upd (upd mi 37 w0_37) 41 w0_41) 47 w0_47) mr)), ((mr 14), .inl (km_must, 25, .inl z1)), ((mr 15), .inl (km_least, 25, .inl z2)), ((mr 16), .inl (km_pin, 25, .inl z3)), ((mr 17), .inl (km_ways, 6875, .inl z4)), ((mr 18), .inl (km_verdict, 24, .inl z5)), ((mr 19), .inl (km_row, 24, .inl z6)), ((mr 4), .inl (km_struck, 24, .inl fm_struck)), ((mr 7), .inl (km_reportKnown, 24, .inl fm_reportKnown)), ((mr 2), .inl (km_reportPlace, 24, .inl fm_reportPlace)), ((mr 5), .inl (km_reportMonth, 24, .inl fm_reportMonth)), ((mr 6), .inl (km_reportDay, 24, .inl fm_reportDay)), ((mr 3), .inl (km_reportKind, 24, .inl fm_reportKind)), ((mr 0), .inl (km_trust, 6, .inl fm_trust)), ((mr 1), .inl (km_letter, 36, .inl fm_letter)), ((mr 20), .inl (km_official, 25, .inl z15))] t.heap ∧ va_D (va_A [(h0, .inr (12, fsMM mi mr)), ((mr 14), .inl (km_must, 25, .inl fm_must)), ((mr 15), .inl (km_least, 25, .inl fm_least)), ((mr 16), .inl (km_pin, 25, .inl fm_pin)), ((mr 17), .inl (km_ways, 6875, .inl fm_ways)), ((mr 18), .inl (km_verdict, 24, .inl fm_verdict)), ((mr 19), .inl (km_row, 24, .inl fm_row)), ((mr 4), .inl (km_struck, 24, .inl fm_struck)), ((mr 7), .inl (km_reportKnown, 24, .inl fm_reportKnown)), ((mr 2), .inl (km_reportPlace, 24, .inl fm_reportPlace)), ((mr 5), .inl (km_reportMonth, 24, .inl fm_reportMonth)), ((mr 6), .inl (km_reportDay, 24, .inl fm_reportDay)), ((mr 3), .inl (km_reportKind, 24, .inl fm_reportKind)), ((mr 0), .inl (km_trust, 6, .inl fm_trust)), ((mr 1), .inl (km_letter, 36, .inl fm_letter)), ((mr 20), .inl (km_official, 25, .inl fm_official))] sz) [(h0, .inr (12, fsMM (upd (upd (upd mi 37 w0_37) 41 w0_41) 47 w0_47) mr)), ((mr 14), .inl (km_must, 25, .inl z1)), ((mr 15), .inl (km_least, 25, .inl z2)), ((mr 16), .inl (km_pin, 25, .inl z3)), ((mr 17), .inl (km_ways, 6875, .inl z4)), ((mr 18), .inl (km_verdict, 24, .inl z5)), ((mr 19), .inl (km_row, 24, .inl z6)), ((mr 4), .inl (km_struck, 24, .inl fm_struck)), ((mr 7), .inl (km_reportKnown, 24, .inl fm_reportKnown)), ((mr 2), .inl (km_reportPlace, 24, .inl fm_reportPlace)), ((mr 5), .inl (km_reportMonth, 24, .inl fm_reportMonth)), ((mr 6), .inl (km_reportDay, 24, .inl fm_reportDay)), ((mr 3), .inl (km_reportKind, 24, .inl fm_reportKind)), ((mr 0), .inl (km_trust, 6, .inl fm_trust)), ((mr 1), .inl (km_letter, 36, .inl fm_letter)), ((mr 20), .inl (km_official, 25, .inl z15))]) (va_A [(h0, .inr (12, fsMM mi mr)), ((mr 14), .inl (km_must, 25, .inl fm_must)), ((mr 15), .inl (km_least, 25, .inl fm_least)), ((mr 16), .inl (km_pin, 25, .inl fm_pin)), ((mr 17), .inl (km_ways, 6875, .inl fm_ways)), ((mr 18), .inl (km_verdict, 24, .inl fm_verdict)), ((mr 19), .inl (km_row, 24, .inl fm_row)), ((mr 4), .inl (km_struck, 24, .inl fm_struck)), ((mr 7), .inl (km_reportKnown, 24, .inl fm_reportKnown)), ((mr 2), .inl (km_reportPlace, 24, .inl fm_reportPlace)), ((mr 5), .inl (km_reportMonth, 24, .inl fm_reportMonth)), ((mr 6), .inl (km_reportDay, 24, .inl fm_reportDay)), ((mr 3), .inl (km_reportKind, 24, .inl fm_reportKind)), ((mr 0), .inl (km_trust, 6, .inl fm_trust)), ((mr 1), .inl (km_letter, 36, .inl fm_letter)), ((mr 20), .inl (km_official, 25, .inl fm_official))] sz)) 0 0 (va_A [(h0, .inr (12, fsMM mi mr)), ((mr 14), .inl (km_must, 25, .inl fm_must)), ((mr 15), .inl (km_least, 25, .inl fm_least)), ((mr 16), .inl (km_pin, 25, .inl fm_pin)), ((mr 17), .inl (km_ways, 6875, .inl fm_ways)), ((mr 18), .inl (km_verdict, 24, .inl fm_verdict)), ((mr 19), .inl (km_row, 24, .inl fm_row)), ((mr 4), .inl (km_struck, 24, .inl fm_struck)), ((mr 7), .inl (km_reportKnown, 24, .inl fm_reportKnown)), ((mr 2), .inl (km_reportPlace, 24, .inl fm_reportPlace)), ((mr 5), .inl (km_reportMonth, 24, .inl fm_reportMonth)), ((mr 6), .inl (km_reportDay, 24, .inl fm_reportDay)), ((mr 3), .inl (km_reportKind, 24, .inl fm_reportKind)), ((mr 0), .inl (km_trust, 6, .inl fm_trust)), ((mr 1), .inl (km_letter, 36, .inl fm_letter)), ((mr 20), .inl (km_official, 25, .inl fm_official))] sz) := by
  refine Met.ofW (cc := cX12_ranked) (maxL := 4) (ret := (some .int)) (by decide) rfl ?_
  intro p e s m args below meth c s₁ B hml hv
  obtain ⟨rfl, hsz, hP, hK, hD0⟩ := hv
  have hx := B.exec
  have hb := B.bytes
  have hr := B.returns
  have hts := atoms_spec (ws := (.code yX12_ranked cX12_ranked 4 (some .int) :: wsGB)) B.pre
  have hown : s.vm.findClass RX12 = some m.cls := findClass_of_methodNamed B.named
  have hlocks := B.notSynchronized
  subst hsz
  have hD := hD0.self (sz := s.heap.size)
  generalize hAe : va_A [(h0, .inr (12, fsMM mi mr)), ((mr 14), .inl (km_must, 25, .inl fm_must)), ((mr 15), .inl (km_least, 25, .inl fm_least)), ((mr 16), .inl (km_pin, 25, .inl fm_pin)), ((mr 17), .inl (km_ways, 6875, .inl fm_ways)), ((mr 18), .inl (km_verdict, 24, .inl fm_verdict)), ((mr 19), .inl (km_row, 24, .inl fm_row)), ((mr 4), .inl (km_struck, 24, .inl fm_struck)), ((mr 7), .inl (km_reportKnown, 24, .inl fm_reportKnown)), ((mr 2), .inl (km_reportPlace, 24, .inl fm_reportPlace)), ((mr 5), .inl (km_reportMonth, 24, .inl fm_reportMonth)), ((mr 6), .inl (km_reportDay, 24, .inl fm_reportDay)), ((mr 3), .inl (km_reportKind, 24, .inl fm_reportKind)), ((mr 0), .inl (km_trust, 6, .inl fm_trust)), ((mr 1), .inl (km_letter, 36, .inl fm_letter)), ((mr 20), .inl (km_official, 25, .inl fm_official))] s.heap.size = A at hD ⊢
  have hA : ∀ q : Nat, s.heap.size ≤ q → A q := fun q h => by rw [← hAe]; exact Or.inr h
  have hS : va_S A s.heap s.heap [] := va_S.rf
  have hl := lv_entry ([.ref h0, .int p1, .int p2, .int p3]) (n := 4) (Nat.le_of_ble_eq_true rfl)
  rw [lg_entry_eq]
  generalize (lg_sl ([.ref h0, .int p1, .int p2, .int p3]) ++ List.replicate (4 - (lg_sl ([.ref h0, .int p1, .int p2, .int p3])).length) Slot.unset).toArray = ls at hl ⊢
  have hl : lv_has ls 4 [(0, .ref h0), (1, .int p1), (2, .int p2), (3, .int p3)] := hl
  refine lv_aload_n hx hb dX12_ranked_0 rfl (lv_at hl 0 rfl) ?_
  refine lv_iload_n hx hb dX12_ranked_1 rfl (lv_at hl 1 rfl) ?_
  have hPc := hP.sub (ws' := [(h0, .inr (12, fsMM mi mr))]) [0] rfl
  have hKc := hK.sub (tys' := []) [] rfl
  refine va_calli (va_runV (As := [.int p1]) (rest := []) ⟨hx, hb, hml, hown, hts⟩ (sX12_isTime l dC dI h0 mi mr p1 gmi_0 gmi_1 gmi_2 gmi_4 gmi_7 gmi_10 gmi_17 gmi_23 gmi_24 gmi_26 gmi_29 gmi_30 gmi_33 gmi_37 gmi_41 gmi_50 gmi_51 gmi_56) (cwV 1 hts (gz_gV mGB_256 mGB_257 mGB_258 mGB_1 mGB_259 goodGB) rfl rfl rfl (by decide +kernel) ⟨Nat.le_of_ble_eq_true rfl, Nat.le_of_ble_eq_true rfl⟩) ⟨fun a U g mk q => by obtain ⟨q0, qP, qK⟩ := q; exact ⟨q0, qP, va_K.moved (u := U) (U := U.calling g mk a) (Vm.Alike.refl U.vm) qK⟩, va_recv hKc hPc (ci := 12) (q0 := 0) rfl rfl, fun U hU hW => ⟨rfl, by rw [hU]; exact hPc, va_K.moved hW.alike hKc⟩⟩ rfl rfl hl.1 rfl (lv_room (Nat.le_of_ble_eq_true rfl)) dX12_ranked_2 ⟨Nat.zero_le _, Nat.zero_le _⟩) hS (fun q _ h => h.elim) (fun q h => h.elim) (fun r_65 u t H1 locs ht hvm hw hB hz1 hk1 hS => ?_)
  have hP := gz_keep hP hk1
  generalize H1 = H at hP hS ⊢
  have gr_65 : gi r_65 0 1 := hw.1
  have hqr_65 := hw.2
  refine lv_if_eq (tgt := 20) hx hb dX12_ranked_5 (by decide) (fun c_66 => ?_) (fun c_66 => ?_)
  · have g_67 : gi r_65 0 0 := gi_eq c_66 (gi_c 0 0 (by decide))
    refine lv_bipush (v := (-2)) hx hb dX12_ranked_20 (by decide) ?_
    exact W.iret (v := (-2)) hx hb hr (fun t ht hW => ⟨⟨(-2), (), rfl, (gi_any (-2)), (mi 37), (mi 41), (mi 47), fm_must, fm_least, fm_pin, fm_ways, fm_verdict, fm_row, fm_official, gmi_37, gmi_41, gfm_row, by rw [ht]; exact hP, hD⟩, hS.F ht⟩) hS.2.2 dX12_ranked_22
  · have g_68 : gi r_65 1 1 := gi_ne_lo c_66 gr_65 (gi_c 0 0 (by decide)) (by decide)
    have g_69 : gi p1 0 999 := gi_cap (gi_any p1) (hqr_65 (gz_one g_68)) (by decide)
    refine lv_iload_n hx hb dX12_ranked_8 rfl (lv_at hl 2 rfl) ?_
    refine lv_if_lt (tgt := 20) hx hb dX12_ranked_9 (by decide) (fun c_70 => ?_) (fun c_70 => ?_)
    · have g_71 : gi p2 (-2147483648) (-1) := gi_lt_l c_70 (gi_any p2) (gi_c 0 0 (by decide)) (by decide)
      refine lv_bipush (v := (-2)) hx hb dX12_ranked_20 (by decide) ?_
      exact W.iret (v := (-2)) hx hb hr (fun t ht hW => ⟨⟨(-2), (), rfl, (gi_any (-2)), (mi 37), (mi 41), (mi 47), fm_must, fm_least, fm_pin, fm_ways, fm_verdict, fm_row, fm_official, gmi_37, gmi_41, gfm_row, by rw [ht]; exact hP, hD⟩, hS.F ht⟩) hS.2.2 dX12_ranked_22
    · have g_72 : gi p2 0 2147483647 := gi_le_r (Int32.not_lt.mp c_70) (gi_c 0 0 (by decide)) (gi_any p2)
      refine lv_aload_n hx hb dX12_ranked_12 rfl (lv_at hl 0 rfl) ?_
      refine lv_iload_n hx hb dX12_ranked_13 rfl (lv_at hl 3 rfl) ?_
      have hPc := hP.sub (ws' := [(h0, .inr (12, fsMM mi mr))]) [0] rfl
      have hKc := hK.sub (tys' := []) [] rfl
      refine va_calli (va_runV (As := [.int p3]) (rest := []) ⟨hx, hb, hml, hown, hts⟩ (sX12_isBegin l dC dI h0 mi mr p3 gmi_0 gmi_1 gmi_2 gmi_4 gmi_7 gmi_10 gmi_17 gmi_23 gmi_24 gmi_26 gmi_29 gmi_30 gmi_33 gmi_37 gmi_41 gmi_50 gmi_51 gmi_56) (cwV 1 hts (gz_gV mGB_354 mGB_355 mGB_356 mGB_1 mGB_357 goodGB) rfl rfl rfl (by decide +kernel) ⟨Nat.le_of_ble_eq_true rfl, Nat.le_of_ble_eq_true rfl⟩) ⟨fun a U g mk q => by obtain ⟨q0, qP, qK⟩ := q; exact ⟨q0, qP, va_K.moved (u := U) (U := U.calling g mk a) (Vm.Alike.refl U.vm) qK⟩, va_recv hKc hPc (ci := 12) (q0 := 0) rfl rfl, fun U hU hW => ⟨rfl, by rw [hU]; exact hPc, va_K.moved hW.alike hKc⟩⟩ rfl rfl hl.1 rfl (lv_room (Nat.le_of_ble_eq_true rfl)) dX12_ranked_14 ⟨Nat.zero_le _, Nat.zero_le _⟩) hS (fun q _ h => h.elim) (fun q h => h.elim) (fun r_73 u t H1 locs ht hvm hw hB hz1 hk1 hS => ?_)
      have hP := gz_keep hP hk1
      generalize H1 = H at hP hS ⊢
      have gr_73 : gi r_73 0 1 := hw.1
      have hqr_73 := hw.2
      refine lv_if_ne (tgt := 23) hx hb dX12_ranked_17 (by decide) (fun c_74 => ?_) (fun c_74 => ?_)
      · have g_75 : gi r_73 1 1 := gi_ne_lo c_74 gr_73 (gi_c 0 0 (by decide)) (by decide)
        have g_76 : gi p3 0 24 := gi_cap (gi_any p3) (hqr_73 (gz_one g_75)) (by decide)
        refine lv_aload_n hx hb dX12_ranked_23 rfl (lv_at hl 0 rfl) ?_
        refine lv_iload_n hx hb dX12_ranked_24 rfl (lv_at hl 1 rfl) ?_
        have hPc := hP.sub (ws' := [(h0, .inr (12, fsMM mi mr)), ((mr 14), .inl (km_must, 25, .inl fm_must)), ((mr 15), .inl (km_least, 25, .inl fm_least)), ((mr 16), .inl (km_pin, 25, .inl fm_pin)), ((mr 17), .inl (km_ways, 6875, .inl fm_ways)), ((mr 18), .inl (km_verdict, 24, .inl fm_verdict)), ((mr 19), .inl (km_row, 24, .inl fm_row)), ((mr 4), .inl (km_struck, 24, .inl fm_struck)), ((mr 7), .inl (km_reportKnown, 24, .inl fm_reportKnown)), ((mr 2), .inl (km_reportPlace, 24, .inl fm_reportPlace)), ((mr 5), .inl (km_reportMonth, 24, .inl fm_reportMonth)), ((mr 6), .inl (km_reportDay, 24, .inl fm_reportDay)), ((mr 3), .inl (km_reportKind, 24, .inl fm_reportKind)), ((mr 0), .inl (km_trust, 6, .inl fm_trust)), ((mr 1), .inl (km_letter, 36, .inl fm_letter))]) [0, 1, 2, 3, 4, 5, 6, 7, 8, 9, 10, 11, 12, 13, 14] rfl
        have hKc := hK.sub (tys' := [(km_must, .int), (km_least, .int), (km_pin, .int), (km_ways, .int), (km_verdict, .int), (km_row, .int), (km_struck, .boolean), (km_reportKnown, .int), (km_reportPlace, .int), (km_reportMonth, .int), (km_reportDay, .int), (km_reportKind, .int), (km_trust, .int), (km_letter, .int)]) [0, 1, 2, 3, 4, 5, 6, 7, 8, 9, 10, 11, 12, 13] rfl
        have hDc := hD.sub (ws' := [(h0, .inr (12, fsMM mi mr)), ((mr 14), .inl (km_must, 25, .inl fm_must)), ((mr 15), .inl (km_least, 25, .inl fm_least)), ((mr 16), .inl (km_pin, 25, .inl fm_pin)), ((mr 17), .inl (km_ways, 6875, .inl fm_ways)), ((mr 18), .inl (km_verdict, 24, .inl fm_verdict)), ((mr 19), .inl (km_row, 24, .inl fm_row)), ((mr 4), .inl (km_struck, 24, .inl fm_struck)), ((mr 7), .inl (km_reportKnown, 24, .inl fm_reportKnown)), ((mr 2), .inl (km_reportPlace, 24, .inl fm_reportPlace)), ((mr 5), .inl (km_reportMonth, 24, .inl fm_reportMonth)), ((mr 6), .inl (km_reportDay, 24, .inl fm_reportDay)), ((mr 3), .inl (km_reportKind, 24, .inl fm_reportKind)), ((mr 0), .inl (km_trust, 6, .inl fm_trust)), ((mr 1), .inl (km_letter, 36, .inl fm_letter))]) [0, 1, 2, 3, 4, 5, 6, 7, 8, 9, 10, 11, 12, 13, 14] (by decide) rfl
        have hFc := va_free (wc := [(h0, .inr (12, fsMM mi mr)), ((mr 14), .inl (km_must, 25, .inl fm_must)), ((mr 15), .inl (km_least, 25, .inl fm_least)), ((mr 16), .inl (km_pin, 25, .inl fm_pin)), ((mr 17), .inl (km_ways, 6875, .inl fm_ways)), ((mr 18), .inl (km_verdict, 24, .inl fm_verdict)), ((mr 19), .inl (km_row, 24, .inl fm_row)), ((mr 4), .inl (km_struck, 24, .inl fm_struck)), ((mr 7), .inl (km_reportKnown, 24, .inl fm_reportKnown)), ((mr 2), .inl (km_reportPlace, 24, .inl fm_reportPlace)), ((mr 5), .inl (km_reportMonth, 24, .inl fm_reportMonth)), ((mr 6), .inl (km_reportDay, 24, .inl fm_reportDay)), ((mr 3), .inl (km_reportKind, 24, .inl fm_reportKind)), ((mr 0), .inl (km_trust, 6, .inl fm_trust)), ((mr 1), .inl (km_letter, 36, .inl fm_letter))]) hD hS hA [0, 1, 2, 3, 4, 5, 6, 7, 8, 9, 10, 11, 12, 13, 14] rfl
        refine va_callv (va_runV (As := [.int p1]) (rest := []) ⟨hx, hb, hml, hown, hts⟩ (sX12_judgesAll l dC dI H.size h0 mi mr km_must fm_must km_least fm_least km_pin fm_pin km_ways fm_ways km_verdict fm_verdict km_row fm_row km_struck fm_struck km_reportKnown fm_reportKnown km_reportPlace fm_reportPlace km_reportMonth fm_reportMonth km_reportDay fm_reportDay km_reportKind fm_reportKind km_trust fm_trust km_letter fm_letter p1 gmi_0 gmi_1 gmi_2 gmi_4 gmi_7 gmi_10 gmi_17 gmi_23 gmi_24 gmi_26 gmi_29 gmi_30 gmi_33 gmi_37 gmi_41 gmi_50 gmi_51 gmi_56 gfm_row gfm_struck gfm_reportKnown gfm_reportPlace gfm_reportMonth gfm_reportDay) (cwV 1 hts (gz_gV mGB_261 mGB_262 mGB_263 mGB_1 mGB_264 goodGB) rfl rfl rfl (by decide +kernel) ⟨Nat.le_of_ble_eq_true rfl, Nat.le_of_ble_eq_true rfl⟩) ⟨fun a U g mk q => by obtain ⟨q0, q1, qP, qK, qD⟩ := q; exact ⟨q0, q1, qP, va_K.moved (u := U) (U := U.calling g mk a) (Vm.Alike.refl U.vm) qK, qD⟩, va_recv hKc hPc (ci := 12) (q0 := 0) rfl rfl, fun U hU hW => ⟨rfl, by rw [hU], by rw [hU]; exact hPc, va_K.moved hW.alike hKc, hDc.weaken (fun _ _ _ _ => trivial)⟩⟩ rfl rfl hl.1 rfl (lv_room (Nat.le_of_ble_eq_true rfl)) dX12_ranked_25 ⟨Nat.zero_le _, Nat.zero_le _⟩) hS (fun q _ h => hFc q h) hFc (fun u t H1 locs ht hvm hw hB hz1 hk1 hS => ?_)
        obtain ⟨y_78, y_79, f_80, f_81, f_82, f_83, f_84, f_85, gy_78, gy_79, gf_85, hP1, hD1⟩ := hB
        rw [ht] at hP1
        obtain ⟨hP, hD⟩ := va_join (wr := [((mr 20), .inl (km_official, 25, .inl fm_official))]) (w1 := [(h0, .inr (12, fsMM (upd (upd mi 37 y_78) 41 y_79) mr)), ((mr 14), .inl (km_must, 25, .inl f_80)), ((mr 15), .inl (km_least, 25, .inl f_81)), ((mr 16), .inl (km_pin, 25, .inl f_82)), ((mr 17), .inl (km_ways, 6875, .inl f_83)), ((mr 18), .inl (km_verdict, 24, .inl f_84)), ((mr 19), .inl (km_row, 24, .inl f_85)), ((mr 4), .inl (km_struck, 24, .inl fm_struck)), ((mr 7), .inl (km_reportKnown, 24, .inl fm_reportKnown)), ((mr 2), .inl (km_reportPlace, 24, .inl fm_reportPlace)), ((mr 5), .inl (km_reportMonth, 24, .inl fm_reportMonth)), ((mr 6), .inl (km_reportDay, 24, .inl fm_reportDay)), ((mr 3), .inl (km_reportKind, 24, .inl fm_reportKind)), ((mr 0), .inl (km_trust, 6, .inl fm_trust)), ((mr 1), .inl (km_letter, 36, .inl fm_letter))]) hP hD [0, 1, 2, 3, 4, 5, 6, 7, 8, 9, 10, 11, 12, 13, 14] [15] rfl rfl (by decide) (by decide) hk1 hFc hP1 hD1
        have hP := hP.sub (ws' := [(h0, .inr (12, fsMM (upd (upd mi 37 y_78) 41 y_79) mr)), ((mr 14), .inl (km_must, 25, .inl f_80)), ((mr 15), .inl (km_least, 25, .inl f_81)), ((mr 16), .inl (km_pin, 25, .inl f_82)), ((mr 17), .inl (km_ways, 6875, .inl f_83)), ((mr 18), .inl (km_verdict, 24, .inl f_84)), ((mr 19), .inl (km_row, 24, .inl f_85)), ((mr 4), .inl (km_struck, 24, .inl fm_struck)), ((mr 7), .inl (km_reportKnown, 24, .inl fm_reportKnown)), ((mr 2), .inl (km_reportPlace, 24, .inl fm_reportPlace)), ((mr 5), .inl (km_reportMonth, 24, .inl fm_reportMonth)), ((mr 6), .inl (km_reportDay, 24, .inl fm_reportDay)), ((mr 3), .inl (km_reportKind, 24, .inl fm_reportKind)), ((mr 0), .inl (km_trust, 6, .inl fm_trust)), ((mr 1), .inl (km_letter, 36, .inl fm_letter)), ((mr 20), .inl (km_official, 25, .inl fm_official))]) [1, 2, 3, 4, 5, 6, 7, 8, 9, 10, 11, 12, 13, 14, 15, 0] rfl
        have hD := hD.sub (ws' := [(h0, .inr (12, fsMM (upd (upd mi 37 y_78) 41 y_79) mr)), ((mr 14), .inl (km_must, 25, .inl f_80)), ((mr 15), .inl (km_least, 25, .inl f_81)), ((mr 16), .inl (km_pin, 25, .inl f_82)), ((mr 17), .inl (km_ways, 6875, .inl f_83)), ((mr 18), .inl (km_verdict, 24, .inl f_84)), ((mr 19), .inl (km_row, 24, .inl f_85)), ((mr 4), .inl (km_struck, 24, .inl fm_struck)), ((mr 7), .inl (km_reportKnown, 24, .inl fm_reportKnown)), ((mr 2), .inl (km_reportPlace, 24, .inl fm_reportPlace)), ((mr 5), .inl (km_reportMonth, 24, .inl fm_reportMonth)), ((mr 6), .inl (km_reportDay, 24, .inl fm_reportDay)), ((mr 3), .inl (km_reportKind, 24, .inl fm_reportKind)), ((mr 0), .inl (km_trust, 6, .inl fm_trust)), ((mr 1), .inl (km_letter, 36, .inl fm_letter)), ((mr 20), .inl (km_official, 25, .inl fm_official))]) [1, 2, 3, 4, 5, 6, 7, 8, 9, 10, 11, 12, 13, 14, 15, 0] (by decide) rfl
        generalize H1 = H at hP hS ⊢
        refine lv_iload_n hx hb dX12_ranked_28 rfl (lv_at hl 2 rfl) ?_
        refine lv_aload_n hx hb dX12_ranked_29 rfl (lv_at hl 0 rfl) ?_
        have hPc := hP.sub (ws' := [(h0, .inr (12, fsMM (upd (upd mi 37 y_78) 41 y_79) mr)), ((mr 14), .inl (km_must, 25, .inl f_80)), ((mr 15), .inl (km_least, 25, .inl f_81)), ((mr 16), .inl (km_pin, 25, .inl f_82)), ((mr 17), .inl (km_ways, 6875, .inl f_83))]) [0, 1, 2, 3, 4] rfl
        have hKc := hK.sub (tys' := [(km_must, .int), (km_least, .int), (km_pin, .int), (km_ways, .int)]) [0, 1, 2, 3] rfl
        have hDc := hD.sub (ws' := [(h0, .inr (12, fsMM (upd (upd mi 37 y_78) 41 y_79) mr)), ((mr 14), .inl (km_must, 25, .inl f_80)), ((mr 15), .inl (km_least, 25, .inl f_81)), ((mr 16), .inl (km_pin, 25, .inl f_82)), ((mr 17), .inl (km_ways, 6875, .inl f_83))]) [0, 1, 2, 3, 4] (by decide) rfl
        have hFc := va_free (wc := [(h0, .inr (12, fsMM (upd (upd mi 37 y_78) 41 y_79) mr)), ((mr 14), .inl (km_must, 25, .inl f_80)), ((mr 15), .inl (km_least, 25, .inl f_81)), ((mr 16), .inl (km_pin, 25, .inl f_82)), ((mr 17), .inl (km_ways, 6875, .inl f_83))]) hD hS hA [0, 1, 2, 3, 4] rfl
        refine va_calli (va_runV (As := []) (rest := [.int p2]) ⟨hx, hb, hml, hown, hts⟩ (sX12_counts l dC dI H.size h0 (upd (upd mi 37 y_78) 41 y_79) mr km_must f_80 km_least f_81 km_pin f_82 km_ways f_83 gmi_0 gmi_1 gmi_2 gmi_4 gmi_7 gmi_10 gmi_17 gmi_23 gmi_24 gmi_26 gmi_29 gmi_30 gmi_33 gy_78 gy_79 gmi_50 gmi_51 gmi_56) (cwV 0 hts (gz_gV mGB_299 mGB_300 mGB_301 mGB_1 mGB_302 goodGB) rfl rfl rfl (by decide +kernel) ⟨Nat.le_of_ble_eq_true rfl, Nat.le_of_ble_eq_true rfl⟩) ⟨fun a U g mk q => by obtain ⟨q0, q1, qP, qK, qD⟩ := q; exact ⟨q0, q1, qP, va_K.moved (u := U) (U := U.calling g mk a) (Vm.Alike.refl U.vm) qK, qD⟩, va_recv hKc hPc (ci := 12) (q0 := 0) rfl rfl, fun U hU hW => ⟨rfl, by rw [hU], by rw [hU]; exact hPc, va_K.moved hW.alike hKc, hDc.weaken (fun _ _ _ _ => trivial)⟩⟩ rfl rfl hl.1 rfl (lv_room (Nat.le_of_ble_eq_true rfl)) dX12_ranked_30 ⟨Nat.zero_le _, Nat.zero_le _⟩) hS (fun q _ h => hFc q h) hFc (fun r_86 u t H1 locs ht hvm hw hB hz1 hk1 hS => ?_)
        obtain ⟨f_87, hP1, hD1⟩ := hB
        rw [ht] at hP1
        obtain ⟨hP, hD⟩ := va_join (wr := [((mr 18), .inl (km_verdict, 24, .inl f_84)), ((mr 19), .inl (km_row, 24, .inl f_85)), ((mr 4), .inl (km_struck, 24, .inl fm_struck)), ((mr 7), .inl (km_reportKnown, 24, .inl fm_reportKnown)), ((mr 2), .inl (km_reportPlace, 24, .inl fm_reportPlace)), ((mr 5), .inl (km_reportMonth, 24, .inl fm_reportMonth)), ((mr 6), .inl (km_reportDay, 24, .inl fm_reportDay)), ((mr 3), .inl (km_reportKind, 24, .inl fm_reportKind)), ((mr 0), .inl (km_trust, 6, .inl fm_trust)), ((mr 1), .inl (km_letter, 36, .inl fm_letter)), ((mr 20), .inl (km_official, 25, .inl fm_official))]) (w1 := [(h0, .inr (12, fsMM (upd (upd mi 37 y_78) 41 y_79) mr)), ((mr 14), .inl (km_must, 25, .inl f_80)), ((mr 15), .inl (km_least, 25, .inl f_81)), ((mr 16), .inl (km_pin, 25, .inl f_82)), ((mr 17), .inl (km_ways, 6875, .inl f_87))]) hP hD [0, 1, 2, 3, 4] [5, 6, 7, 8, 9, 10, 11, 12, 13, 14, 15] rfl rfl (by decide) (by decide) hk1 hFc hP1 hD1
        have hP := hP.sub (ws' := [(h0, .inr (12, fsMM (upd (upd mi 37 y_78) 41 y_79) mr)), ((mr 14), .inl (km_must, 25, .inl f_80)), ((mr 15), .inl (km_least, 25, .inl f_81)), ((mr 16), .inl (km_pin, 25, .inl f_82)), ((mr 17), .inl (km_ways, 6875, .inl f_87)), ((mr 18), .inl (km_verdict, 24, .inl f_84)), ((mr 19), .inl (km_row, 24, .inl f_85)), ((mr 4), .inl (km_struck, 24, .inl fm_struck)), ((mr 7), .inl (km_reportKnown, 24, .inl fm_reportKnown)), ((mr 2), .inl (km_reportPlace, 24, .inl fm_reportPlace)), ((mr 5), .inl (km_reportMonth, 24, .inl fm_reportMonth)), ((mr 6), .inl (km_reportDay, 24, .inl fm_reportDay)), ((mr 3), .inl (km_reportKind, 24, .inl fm_reportKind)), ((mr 0), .inl (km_trust, 6, .inl fm_trust)), ((mr 1), .inl (km_letter, 36, .inl fm_letter)), ((mr 20), .inl (km_official, 25, .inl fm_official))]) [11, 12, 13, 14, 15, 0, 1, 2, 3, 4, 5, 6, 7, 8, 9, 10] rfl
        have hD := hD.sub (ws' := [(h0, .inr (12, fsMM (upd (upd mi 37 y_78) 41 y_79) mr)), ((mr 14), .inl (km_must, 25, .inl f_80)), ((mr 15), .inl (km_least, 25, .inl f_81)), ((mr 16), .inl (km_pin, 25, .inl f_82)), ((mr 17), .inl (km_ways, 6875, .inl f_87)), ((mr 18), .inl (km_verdict, 24, .inl f_84)), ((mr 19), .inl (km_row, 24, .inl f_85)), ((mr 4), .inl (km_struck, 24, .inl fm_struck)), ((mr 7), .inl (km_reportKnown, 24, .inl fm_reportKnown)), ((mr 2), .inl (km_reportPlace, 24, .inl fm_reportPlace)), ((mr 5), .inl (km_reportMonth, 24, .inl fm_reportMonth)), ((mr 6), .inl (km_reportDay, 24, .inl fm_reportDay)), ((mr 3), .inl (km_reportKind, 24, .inl fm_reportKind)), ((mr 0), .inl (km_trust, 6, .inl fm_trust)), ((mr 1), .inl (km_letter, 36, .inl fm_letter)), ((mr 20), .inl (km_official, 25, .inl fm_official))]) [11, 12, 13, 14, 15, 0, 1, 2, 3, 4, 5, 6, 7, 8, 9, 10] (by decide) rfl
        generalize H1 = H at hP hS ⊢
        refine lv_icmp_lt (tgt := 38) hx hb dX12_ranked_33 (by decide) (fun c_88 => ?_) (fun c_88 => ?_)
        · have g_89 : gi p2 0 2147483646 := gi_lt_l c_88 g_72 (gi_any r_86) (by decide)
          have g_90 : gi r_86 1 2147483647 := gi_lt_r c_88 g_72 (gi_any r_86) (by decide)
          refine lv_aload_n hx hb dX12_ranked_38 rfl (lv_at hl 0 rfl) ?_
          refine lv_iload_n hx hb dX12_ranked_39 rfl (lv_at hl 2 rfl) ?_
          have hPc := hP.sub (ws' := [(h0, .inr (12, fsMM (upd (upd mi 37 y_78) 41 y_79) mr)), ((mr 14), .inl (km_must, 25, .inl f_80)), ((mr 15), .inl (km_least, 25, .inl f_81)), ((mr 16), .inl (km_pin, 25, .inl f_82)), ((mr 17), .inl (km_ways, 6875, .inl f_87)), ((mr 20), .inl (km_official, 25, .inl fm_official))]) [0, 1, 2, 3, 4, 15] rfl
          have hKc := hK.sub (tys' := [(km_must, .int), (km_least, .int), (km_pin, .int), (km_ways, .int), (km_official, .int)]) [0, 1, 2, 3, 14] rfl
          have hDc := hD.sub (ws' := [(h0, .inr (12, fsMM (upd (upd mi 37 y_78) 41 y_79) mr)), ((mr 14), .inl (km_must, 25, .inl f_80)), ((mr 15), .inl (km_least, 25, .inl f_81)), ((mr 16), .inl (km_pin, 25, .inl f_82)), ((mr 17), .inl (km_ways, 6875, .inl f_87)), ((mr 20), .inl (km_official, 25, .inl fm_official))]) [0, 1, 2, 3, 4, 15] (by decide) rfl
          have hFc := va_free (wc := [(h0, .inr (12, fsMM (upd (upd mi 37 y_78) 41 y_79) mr)), ((mr 14), .inl (km_must, 25, .inl f_80)), ((mr 15), .inl (km_least, 25, .inl f_81)), ((mr 16), .inl (km_pin, 25, .inl f_82)), ((mr 17), .inl (km_ways, 6875, .inl f_87)), ((mr 20), .inl (km_official, 25, .inl fm_official))]) hD hS hA [0, 1, 2, 3, 4, 15] rfl
          refine va_callv (va_runV (As := [.int p2]) (rest := []) ⟨hx, hb, hml, hown, hts⟩ (sX12_laysRanked l dC dI H.size h0 (upd (upd mi 37 y_78) 41 y_79) mr km_must f_80 km_least f_81 km_pin f_82 km_ways f_87 km_official fm_official p2 gmi_0 gmi_1 gmi_2 gmi_4 gmi_7 gmi_10 gmi_17 gmi_23 gmi_24 gmi_26 gmi_29 gmi_30 gmi_33 gy_78 gy_79 gmi_50 gmi_51 gmi_56) (cwV 1 hts (gz_gV mGB_400 mGB_401 mGB_402 mGB_1 mGB_403 goodGB) rfl rfl rfl (by decide +kernel) ⟨Nat.le_of_ble_eq_true rfl, Nat.le_of_ble_eq_true rfl⟩) ⟨fun a U g mk q => by obtain ⟨q0, q1, qP, qK, qD⟩ := q; exact ⟨q0, q1, qP, va_K.moved (u := U) (U := U.calling g mk a) (Vm.Alike.refl U.vm) qK, qD⟩, va_recv hKc hPc (ci := 12) (q0 := 0) rfl rfl, fun U hU hW => ⟨rfl, by rw [hU], by rw [hU]; exact hPc, va_K.moved hW.alike hKc, hDc.weaken (fun _ _ _ _ => trivial)⟩⟩ rfl rfl hl.1 rfl (lv_room (Nat.le_of_ble_eq_true rfl)) dX12_ranked_40 ⟨Nat.zero_le _, Nat.zero_le _⟩) hS (fun q _ h => hFc q h) hFc (fun u t H1 locs ht hvm hw hB hz1 hk1 hS => ?_)
          obtain ⟨y_92, f_93, f_94, hP1, hD1⟩ := hB
          rw [ht] at hP1
          obtain ⟨hP, hD⟩ := va_join (wr := [((mr 18), .inl (km_verdict, 24, .inl f_84)), ((mr 19), .inl (km_row, 24, .inl f_85)), ((mr 4), .inl (km_struck, 24, .inl fm_struck)), ((mr 7), .inl (km_reportKnown, 24, .inl fm_reportKnown)), ((mr 2), .inl (km_reportPlace, 24, .inl fm_reportPlace)), ((mr 5), .inl (km_reportMonth, 24, .inl fm_reportMonth)), ((mr 6), .inl (km_reportDay, 24, .inl fm_reportDay)), ((mr 3), .inl (km_reportKind, 24, .inl fm_reportKind)), ((mr 0), .inl (km_trust, 6, .inl fm_trust)), ((mr 1), .inl (km_letter, 36, .inl fm_letter))]) (w1 := [(h0, .inr (12, fsMM (upd (upd (upd mi 37 y_78) 41 y_79) 47 y_92) mr)), ((mr 14), .inl (km_must, 25, .inl f_80)), ((mr 15), .inl (km_least, 25, .inl f_81)), ((mr 16), .inl (km_pin, 25, .inl f_82)), ((mr 17), .inl (km_ways, 6875, .inl f_93)), ((mr 20), .inl (km_official, 25, .inl f_94))]) hP hD [0, 1, 2, 3, 4, 15] [5, 6, 7, 8, 9, 10, 11, 12, 13, 14] rfl rfl (by decide) (by decide) hk1 hFc hP1 hD1
          have hP := hP.sub (ws' := [(h0, .inr (12, fsMM (upd (upd (upd mi 37 y_78) 41 y_79) 47 y_92) mr)), ((mr 14), .inl (km_must, 25, .inl f_80)), ((mr 15), .inl (km_least, 25, .inl f_81)), ((mr 16), .inl (km_pin, 25, .inl f_82)), ((mr 17), .inl (km_ways, 6875, .inl f_93)), ((mr 18), .inl (km_verdict, 24, .inl f_84)), ((mr 19), .inl (km_row, 24, .inl f_85)), ((mr 4), .inl (km_struck, 24, .inl fm_struck)), ((mr 7), .inl (km_reportKnown, 24, .inl fm_reportKnown)), ((mr 2), .inl (km_reportPlace, 24, .inl fm_reportPlace)), ((mr 5), .inl (km_reportMonth, 24, .inl fm_reportMonth)), ((mr 6), .inl (km_reportDay, 24, .inl fm_reportDay)), ((mr 3), .inl (km_reportKind, 24, .inl fm_reportKind)), ((mr 0), .inl (km_trust, 6, .inl fm_trust)), ((mr 1), .inl (km_letter, 36, .inl fm_letter)), ((mr 20), .inl (km_official, 25, .inl f_94))]) [10, 11, 12, 13, 14, 0, 1, 2, 3, 4, 5, 6, 7, 8, 9, 15] rfl
          have hD := hD.sub (ws' := [(h0, .inr (12, fsMM (upd (upd (upd mi 37 y_78) 41 y_79) 47 y_92) mr)), ((mr 14), .inl (km_must, 25, .inl f_80)), ((mr 15), .inl (km_least, 25, .inl f_81)), ((mr 16), .inl (km_pin, 25, .inl f_82)), ((mr 17), .inl (km_ways, 6875, .inl f_93)), ((mr 18), .inl (km_verdict, 24, .inl f_84)), ((mr 19), .inl (km_row, 24, .inl f_85)), ((mr 4), .inl (km_struck, 24, .inl fm_struck)), ((mr 7), .inl (km_reportKnown, 24, .inl fm_reportKnown)), ((mr 2), .inl (km_reportPlace, 24, .inl fm_reportPlace)), ((mr 5), .inl (km_reportMonth, 24, .inl fm_reportMonth)), ((mr 6), .inl (km_reportDay, 24, .inl fm_reportDay)), ((mr 3), .inl (km_reportKind, 24, .inl fm_reportKind)), ((mr 0), .inl (km_trust, 6, .inl fm_trust)), ((mr 1), .inl (km_letter, 36, .inl fm_letter)), ((mr 20), .inl (km_official, 25, .inl f_94))]) [10, 11, 12, 13, 14, 0, 1, 2, 3, 4, 5, 6, 7, 8, 9, 15] (by decide) rfl
          generalize H1 = H at hP hS ⊢
          refine lv_aload_n hx hb dX12_ranked_43 rfl (lv_at hl 0 rfl) ?_
          refine va_get (D := (dC, dI)) (ci := 12) (v := .ref (mr 20)) (C := RX12) (T := TX12) (N := 57) hx hb hts (fun w h => List.mem_cons_of_mem _ (jnGB_X12 w h)) hown hK hP 0 rfl rfl 46 (by decide) (hts _ (List.mem_cons_of_mem _ mGB_36)) (fun _ h9 => h9) rfl dX12_ranked_44 ?_
          refine lv_iload_n hx hb dX12_ranked_47 rfl (lv_at hl 3 rfl) ?_
          refine va_iald hx hb hK hP 15 14 rfl rfl (gi_in g_76 (by decide)) dX12_ranked_48 ?_
          refine lv_topi (fun x_95 ex_95 => ?_)
          exact W.iret (v := x_95) hx hb hr (fun t ht hW => ⟨⟨x_95, (), rfl, (gi_any x_95), y_78, y_79, y_92, f_80, f_81, f_82, f_93, f_84, f_85, f_94, gy_78, gy_79, gf_85, by rw [ht]; exact hP, hD⟩, hS.F ht⟩) hS.2.2 dX12_ranked_49
        · refine lv_iconst (v := (-1)) hx hb dX12_ranked_36 (by decide) ?_
          exact W.iret (v := (-1)) hx hb hr (fun t ht hW => ⟨⟨(-1), (), rfl, (gi_any (-1)), y_78, y_79, (mi 47), f_80, f_81, f_82, f_87, f_84, f_85, fm_official, gy_78, gy_79, gf_85, by rw [ht]; exact hP, hD⟩, hS.F ht⟩) hS.2.2 dX12_ranked_37
      · have g_96 : gi r_73 0 0 := gi_eq c_74 (gi_c 0 0 (by decide))
        refine lv_bipush (v := (-2)) hx hb dX12_ranked_20 (by decide) ?_
        exact W.iret (v := (-2)) hx hb hr (fun t ht hW => ⟨⟨(-2), (), rfl, (gi_any (-2)), (mi 37), (mi 41), (mi 47), fm_must, fm_least, fm_pin, fm_ways, fm_verdict, fm_row, fm_official, gmi_37, gmi_41, gfm_row, by rw [ht]; exact hP, hD⟩, hS.F ht⟩) hS.2.2 dX12_ranked_22
theorem dX12_rank_0 : decode cX12_rank 0 = .ok (.aload_n 0, 1) := by decide +kernel
theorem dX12_rank_1 : decode cX12_rank 1 = .ok (.iload_n 1, 1) := by decide +kernel
theorem dX12_rank_2 : decode cX12_rank 2 = .ok (.invokevirtual 359, 3) := by decide +kernel
theorem dX12_rank_5 : decode cX12_rank 5 = .ok (.ifCond .eq 21, 3) := by decide +kernel
theorem dX12_rank_8 : decode cX12_rank 8 = .ok (.iload_n 2, 1) := by decide +kernel
theorem dX12_rank_9 : decode cX12_rank 9 = .ok (.i2l, 1) := by decide +kernel
theorem dX12_rank_10 : decode cX12_rank 10 = .ok (.lconst 0, 1) := by decide +kernel
theorem dX12_rank_11 : decode cX12_rank 11 = .ok (.iconst 1, 1) := by decide +kernel
theorem dX12_rank_12 : decode cX12_rank 12 = .ok (.aload_n 0, 1) := by decide +kernel
theorem dX12_rank_13 : decode cX12_rank 13 = .ok (.getfield 117, 3) := by decide +kernel
theorem dX12_rank_16 : decode cX12_rank 16 = .ok (.ishl, 1) := by decide +kernel
theorem dX12_rank_17 : decode cX12_rank 17 = .ok (.iconst 1, 1) := by decide +kernel
theorem dX12_rank_18 : decode cX12_rank 18 = .ok (.isub, 1) := by decide +kernel
theorem dX12_rank_19 : decode cX12_rank 19 = .ok (.i2l, 1) := by decide +kernel
theorem dX12_rank_20 : decode cX12_rank 20 = .ok (.invokestatic 102, 3) := by decide +kernel
theorem dX12_rank_23 : decode cX12_rank 23 = .ok (.ifCond .ne 6, 3) := by decide +kernel
theorem dX12_rank_26 : decode cX12_rank 26 = .ok (.bipush (-2), 2) := by decide +kernel
theorem dX12_rank_28 : decode cX12_rank 28 = .ok (.ireturn, 1) := by decide +kernel
theorem dX12_rank_29 : decode cX12_rank 29 = .ok (.aload_n 0, 1) := by decide +kernel
theorem dX12_rank_30 : decode cX12_rank 30 = .ok (.iload_n 1, 1) := by decide +kernel
theorem dX12_rank_31 : decode cX12_rank 31 = .ok (.invokevirtual 362, 3) := by decide +kernel
theorem dX12_rank_34 : decode cX12_rank 34 = .ok (.aload_n 0, 1) := by decide +kernel
theorem dX12_rank_35 : decode cX12_rank 35 = .ok (.invokevirtual 332, 3) := by decide +kernel
theorem dX12_rank_38 : decode cX12_rank 38 = .ok (.pop, 1) := by decide +kernel
theorem dX12_rank_39 : decode cX12_rank 39 = .ok (.iconst 0, 1) := by decide +kernel
theorem dX12_rank_40 : decode cX12_rank 40 = .ok (.istore_n 3, 1) := by decide +kernel
theorem dX12_rank_41 : decode cX12_rank 41 = .ok (.iconst 0, 1) := by decide +kernel
theorem dX12_rank_42 : decode cX12_rank 42 = .ok (.istore 4, 2) := by decide +kernel
theorem dX12_rank_44 : decode cX12_rank 44 = .ok (.iconst 0, 1) := by decide +kernel
theorem dX12_rank_45 : decode cX12_rank 45 = .ok (.istore 5, 2) := by decide +kernel
theorem dX12_rank_47 : decode cX12_rank 47 = .ok (.iconst 0, 1) := by decide +kernel
theorem dX12_rank_48 : decode cX12_rank 48 = .ok (.istore 6, 2) := by decide +kernel
theorem dX12_rank_50 : decode cX12_rank 50 = .ok (.iload 6, 2) := by decide +kernel
theorem dX12_rank_52 : decode cX12_rank 52 = .ok (.aload_n 0, 1) := by decide +kernel
theorem dX12_rank_53 : decode cX12_rank 53 = .ok (.getfield 117, 3) := by decide +kernel
theorem dX12_rank_56 : decode cX12_rank 56 = .ok (.if_icmp .ge 75, 3) := by decide +kernel
theorem dX12_rank_59 : decode cX12_rank 59 = .ok (.iload_n 2, 1) := by decide +kernel
theorem dX12_rank_60 : decode cX12_rank 60 = .ok (.iload 6, 2) := by decide +kernel
theorem dX12_rank_62 : decode cX12_rank 62 = .ok (.ishr, 1) := by decide +kernel
theorem dX12_rank_63 : decode cX12_rank 63 = .ok (.iconst 1, 1) := by decide +kernel
theorem dX12_rank_64 : decode cX12_rank 64 = .ok (.iand, 1) := by decide +kernel
theorem dX12_rank_65 : decode cX12_rank 65 = .ok (.istore 7, 2) := by decide +kernel
theorem dX12_rank_67 : decode cX12_rank 67 = .ok (.aload_n 0, 1) := by decide +kernel
theorem dX12_rank_68 : decode cX12_rank 68 = .ok (.iload 6, 2) := by decide +kernel
theorem dX12_rank_70 : decode cX12_rank 70 = .ok (.iload 4, 2) := by decide +kernel
theorem dX12_rank_72 : decode cX12_rank 72 = .ok (.iload 5, 2) := by decide +kernel
theorem dX12_rank_74 : decode cX12_rank 74 = .ok (.iload 7, 2) := by decide +kernel
theorem dX12_rank_76 : decode cX12_rank 76 = .ok (.invokevirtual 328, 3) := by decide +kernel
theorem dX12_rank_79 : decode cX12_rank 79 = .ok (.ifCond .ne 5, 3) := by decide +kernel
theorem dX12_rank_82 : decode cX12_rank 82 = .ok (.iconst (-1), 1) := by decide +kernel
theorem dX12_rank_83 : decode cX12_rank 83 = .ok (.ireturn, 1) := by decide +kernel
theorem dX12_rank_84 : decode cX12_rank 84 = .ok (.iload_n 3, 1) := by decide +kernel
theorem dX12_rank_85 : decode cX12_rank 85 = .ok (.iload 7, 2) := by decide +kernel
theorem dX12_rank_87 : decode cX12_rank 87 = .ok (.iconst 1, 1) := by decide +kernel
theorem dX12_rank_88 : decode cX12_rank 88 = .ok (.if_icmp .ne 17, 3) := by decide +kernel
theorem dX12_rank_91 : decode cX12_rank 91 = .ok (.aload_n 0, 1) := by decide +kernel
theorem dX12_rank_92 : decode cX12_rank 92 = .ok (.iload 6, 2) := by decide +kernel
theorem dX12_rank_94 : decode cX12_rank 94 = .ok (.iload 4, 2) := by decide +kernel
theorem dX12_rank_96 : decode cX12_rank 96 = .ok (.iload 5, 2) := by decide +kernel
theorem dX12_rank_98 : decode cX12_rank 98 = .ok (.iconst 0, 1) := by decide +kernel
theorem dX12_rank_99 : decode cX12_rank 99 = .ok (.invokevirtual 328, 3) := by decide +kernel
theorem dX12_rank_102 : decode cX12_rank 102 = .ok (.goto 4, 3) := by decide +kernel
theorem dX12_rank_105 : decode cX12_rank 105 = .ok (.iconst 0, 1) := by decide +kernel
theorem dX12_rank_106 : decode cX12_rank 106 = .ok (.iadd, 1) := by decide +kernel
theorem dX12_rank_107 : decode cX12_rank 107 = .ok (.istore_n 3, 1) := by decide +kernel
theorem dX12_rank_108 : decode cX12_rank 108 = .ok (.aload_n 0, 1) := by decide +kernel
theorem dX12_rank_109 : decode cX12_rank 109 = .ok (.iload 5, 2) := by decide +kernel
theorem dX12_rank_111 : decode cX12_rank 111 = .ok (.iload 7, 2) := by decide +kernel
theorem dX12_rank_113 : decode cX12_rank 113 = .ok (.invokevirtual 318, 3) := by decide +kernel
theorem dX12_rank_116 : decode cX12_rank 116 = .ok (.istore 5, 2) := by decide +kernel
theorem dX12_rank_118 : decode cX12_rank 118 = .ok (.iload 4, 2) := by decide +kernel
theorem dX12_rank_120 : decode cX12_rank 120 = .ok (.iload 7, 2) := by decide +kernel
theorem dX12_rank_122 : decode cX12_rank 122 = .ok (.iadd, 1) := by decide +kernel
theorem dX12_rank_123 : decode cX12_rank 123 = .ok (.istore 4, 2) := by decide +kernel
theorem dX12_rank_125 : decode cX12_rank 125 = .ok (.iinc 6 1, 3) := by decide +kernel
theorem dX12_rank_128 : decode cX12_rank 128 = .ok (.goto (-78), 3) := by decide +kernel
theorem dX12_rank_131 : decode cX12_rank 131 = .ok (.iload_n 3, 1) := by decide +kernel
theorem dX12_rank_132 : decode cX12_rank 132 = .ok (.ireturn, 1) := by decide +kernel
set_option maxHeartbeats 4000000 in
set_option maxRecDepth 100000 in
theorem lp_sX12_rank {p : Program} {l : Launch} {e : Env} {R : Room} {s : State} {m : MethodId} {args : Array Value} {below : List Frame} {meth : Method} {c : Code} {Q : State → Prop} {A : Nat → Prop} {cells slots : Nat} {dC : Nat → ClassId} {dI : Nat → Nat → Nat} (h0 : Nat) (mi : Nat → Int32) (mr : Nat → Nat) (km_must : ClassId) (fm_must : Nat → Int32) (km_least : ClassId) (fm_least : Nat → Int32) (km_pin : ClassId) (fm_pin : Nat → Int32) (km_ways : ClassId) (fm_ways : Nat → Int32) (km_verdict : ClassId) (fm_verdict : Nat → Int32) (km_row : ClassId) (fm_row : Nat → Int32) (km_struck : ClassId) (fm_struck : Nat → Int32) (km_reportKnown : ClassId) (fm_reportKnown : Nat → Int32) (km_reportPlace : ClassId) (fm_reportPlace : Nat → Int32) (km_reportMonth : ClassId) (fm_reportMonth : Nat → Int32) (km_reportDay : ClassId) (fm_reportDay : Nat → Int32) (km_reportKind : ClassId) (fm_reportKind : Nat → Int32) (km_trust : ClassId) (fm_trust : Nat → Int32) (km_letter : ClassId) (fm_letter : Nat → Int32) (p1 : Int32) (p2 : Int32) (gmi_0 : gi (mi 0) 0 24) (gmi_1 : gi (mi 1) 0 5) (gmi_2 : gi (mi 2) 0 5) (gmi_4 : gi (mi 4) 0 1) (gmi_7 : gi (mi 7) 0 6) (gmi_10 : gi (mi 10) 0 24) (gmi_17 : gi (mi 17) 0 8) (gmi_23 : gi (mi 23) 0 300) (gmi_24 : gi (mi 24) 0 1) (gmi_26 : gi (mi 26) 0 1600) (gmi_29 : gi (mi 29) 0 1600) (gmi_30 : gi (mi 30) 0 1600) (gmi_33 : gi (mi 33) 0 1) (gmi_37 : gi (mi 37) 0 1) (gmi_41 : gi (mi 41) 0 24) (gmi_50 : gi (mi 50) 0 1) (gmi_51 : gi (mi 51) 0 1) (gmi_56 : gi (mi 56) 0 80) (gfm_row : ga fm_row 24 0 23) (gfm_struck : ga fm_struck 24 0 1) (gfm_reportKnown : ga fm_reportKnown 24 0 999) (gfm_reportPlace : ga fm_reportPlace 24 0 5) (gfm_reportMonth : ga fm_reportMonth 24 0 23) (gfm_reportDay : ga fm_reportDay 24 0 999) (hx : p.tables.exec = Jvm.exec) (hb : c.code = cX12_rank) (hml : c.maxLocals = 8) (hown : s.vm.findClass RX12 = some m.cls) (hts : ∀ w ∈ ((.code yX12_rank cX12_rank 8 (some .int) :: wsGB) : List Cond), w.before args s = true) (hK : va_K (dC, dI) vwCl [(km_must, .int), (km_least, .int), (km_pin, .int), (km_ways, .int), (km_verdict, .int), (km_row, .int), (km_struck, .boolean), (km_reportKnown, .int), (km_reportPlace, .int), (km_reportMonth, .int), (km_reportDay, .int), (km_reportKind, .int), (km_trust, .int), (km_letter, .int)] s) (hA : ∀ q : Nat, s.heap.size ≤ q → A q) (hRf : 5 ≤ R.frames) (hRl : 119 ≤ R.locals) (hRc : cells ≤ R.cells) (hRs : slots ≤ R.slots) (kr28 : ∀ (v : Int32) (w0_37 : Int32) (w0_41 : Int32) (z1 : Nat → Int32) (z2 : Nat → Int32) (z3 : Nat → Int32) (z4 : Nat → Int32) (z5 : Nat → Int32) (z6 : Nat → Int32) (H : Heap) (locs : List Loc) (ls : Array Slot), gi v (-2) (-2) → gi w0_37 0 1 → gi w0_41 0 24 → ga z6 24 0 23 → va_P (dC, dI) vwCl [(h0, .inr (12, fsMM (upd (upd mi 37 w0_37) 41 w0_41) mr)), ((mr 14), .inl (km_must, 25, .inl z1)), ((mr 15), .inl (km_least, 25, .inl z2)), ((mr 16), .inl (km_pin, 25, .inl z3)), ((mr 17), .inl (km_ways, 6875, .inl z4)), ((mr 18), .inl (km_verdict, 24, .inl z5)), ((mr 19), .inl (km_row, 24, .inl z6)), ((mr 4), .inl (km_struck, 24, .inl fm_struck)), ((mr 7), .inl (km_reportKnown, 24, .inl fm_reportKnown)), ((mr 2), .inl (km_reportPlace, 24, .inl fm_reportPlace)), ((mr 5), .inl (km_reportMonth, 24, .inl fm_reportMonth)), ((mr 6), .inl (km_reportDay, 24, .inl fm_reportDay)), ((mr 3), .inl (km_reportKind, 24, .inl fm_reportKind)), ((mr 0), .inl (km_trust, 6, .inl fm_trust)), ((mr 1), .inl (km_letter, 36, .inl fm_letter))] H → va_D A [(h0, .inr (12, fsMM (upd (upd mi 37 w0_37) 41 w0_41) mr)), ((mr 14), .inl (km_must, 25, .inl z1)), ((mr 15), .inl (km_least, 25, .inl z2)), ((mr 16), .inl (km_pin, 25, .inl z3)), ((mr 17), .inl (km_ways, 6875, .inl z4)), ((mr 18), .inl (km_verdict, 24, .inl z5)), ((mr 19), .inl (km_row, 24, .inl z6)), ((mr 4), .inl (km_struck, 24, .inl fm_struck)), ((mr 7), .inl (km_reportKnown, 24, .inl fm_reportKnown)), ((mr 2), .inl (km_reportPlace, 24, .inl fm_reportPlace)), ((mr 5), .inl (km_reportMonth, 24, .inl fm_reportMonth)), ((mr 6), .inl (km_reportDay, 24, .inl fm_reportDay)), ((mr 3), .inl (km_reportKind, 24, .inl fm_reportKind)), ((mr 0), .inl (km_trust, 6, .inl fm_trust)), ((mr 1), .inl (km_letter, 36, .inl fm_letter))] → va_S A s.heap H locs → lv_has ls 8 [] → W p l e R s m args below meth c H locs cells slots Q (F0 m 28 ls [.int v])) (kr132 : ∀ (v : Int32) (w0_37 : Int32) (w0_41 : Int32) (z1 : Nat → Int32) (z2 : Nat → Int32) (z3 : Nat → Int32) (z4 : Nat → Int32) (z5 : Nat → Int32) (z6 : Nat → Int32) (H : Heap) (locs : List Loc) (ls : Array Slot), gi w0_37 0 1 → gi w0_41 0 24 → ga z6 24 0 23 → va_P (dC, dI) vwCl [(h0, .inr (12, fsMM (upd (upd mi 37 w0_37) 41 w0_41) mr)), ((mr 14), .inl (km_must, 25, .inl z1)), ((mr 15), .inl (km_least, 25, .inl z2)), ((mr 16), .inl (km_pin, 25, .inl z3)), ((mr 17), .inl (km_ways, 6875, .inl z4)), ((mr 18), .inl (km_verdict, 24, .inl z5)), ((mr 19), .inl (km_row, 24, .inl z6)), ((mr 4), .inl (km_struck, 24, .inl fm_struck)), ((mr 7), .inl (km_reportKnown, 24, .inl fm_reportKnown)), ((mr 2), .inl (km_reportPlace, 24, .inl fm_reportPlace)), ((mr 5), .inl (km_reportMonth, 24, .inl fm_reportMonth)), ((mr 6), .inl (km_reportDay, 24, .inl fm_reportDay)), ((mr 3), .inl (km_reportKind, 24, .inl fm_reportKind)), ((mr 0), .inl (km_trust, 6, .inl fm_trust)), ((mr 1), .inl (km_letter, 36, .inl fm_letter))] H → va_D A [(h0, .inr (12, fsMM (upd (upd mi 37 w0_37) 41 w0_41) mr)), ((mr 14), .inl (km_must, 25, .inl z1)), ((mr 15), .inl (km_least, 25, .inl z2)), ((mr 16), .inl (km_pin, 25, .inl z3)), ((mr 17), .inl (km_ways, 6875, .inl z4)), ((mr 18), .inl (km_verdict, 24, .inl z5)), ((mr 19), .inl (km_row, 24, .inl z6)), ((mr 4), .inl (km_struck, 24, .inl fm_struck)), ((mr 7), .inl (km_reportKnown, 24, .inl fm_reportKnown)), ((mr 2), .inl (km_reportPlace, 24, .inl fm_reportPlace)), ((mr 5), .inl (km_reportMonth, 24, .inl fm_reportMonth)), ((mr 6), .inl (km_reportDay, 24, .inl fm_reportDay)), ((mr 3), .inl (km_reportKind, 24, .inl fm_reportKind)), ((mr 0), .inl (km_trust, 6, .inl fm_trust)), ((mr 1), .inl (km_letter, 36, .inl fm_letter))] → va_S A s.heap H locs → lv_has ls 8 [] → W p l e R s m args below meth c H locs cells slots Q (F0 m 132 ls [.int v])) (kr83 : ∀ (v : Int32) (w0_37 : Int32) (w0_41 : Int32) (z1 : Nat → Int32) (z2 : Nat → Int32) (z3 : Nat → Int32) (z4 : Nat → Int32) (z5 : Nat → Int32) (z6 : Nat → Int32) (H : Heap) (locs : List Loc) (ls : Array Slot), gi v (-1) (-1) → gi w0_37 0 1 → gi w0_41 0 24 → ga z6 24 0 23 → va_P (dC, dI) vwCl [(h0, .inr (12, fsMM (upd (upd mi 37 w0_37) 41 w0_41) mr)), ((mr 14), .inl (km_must, 25, .inl z1)), ((mr 15), .inl (km_least, 25, .inl z2)), ((mr 16), .inl (km_pin, 25, .inl z3)), ((mr 17), .inl (km_ways, 6875, .inl z4)), ((mr 18), .inl (km_verdict, 24, .inl z5)), ((mr 19), .inl (km_row, 24, .inl z6)), ((mr 4), .inl (km_struck, 24, .inl fm_struck)), ((mr 7), .inl (km_reportKnown, 24, .inl fm_reportKnown)), ((mr 2), .inl (km_reportPlace, 24, .inl fm_reportPlace)), ((mr 5), .inl (km_reportMonth, 24, .inl fm_reportMonth)), ((mr 6), .inl (km_reportDay, 24, .inl fm_reportDay)), ((mr 3), .inl (km_reportKind, 24, .inl fm_reportKind)), ((mr 0), .inl (km_trust, 6, .inl fm_trust)), ((mr 1), .inl (km_letter, 36, .inl fm_letter))] H → va_D A [(h0, .inr (12, fsMM (upd (upd mi 37 w0_37) 41 w0_41) mr)), ((mr 14), .inl (km_must, 25, .inl z1)), ((mr 15), .inl (km_least, 25, .inl z2)), ((mr 16), .inl (km_pin, 25, .inl z3)), ((mr 17), .inl (km_ways, 6875, .inl z4)), ((mr 18), .inl (km_verdict, 24, .inl z5)), ((mr 19), .inl (km_row, 24, .inl z6)), ((mr 4), .inl (km_struck, 24, .inl fm_struck)), ((mr 7), .inl (km_reportKnown, 24, .inl fm_reportKnown)), ((mr 2), .inl (km_reportPlace, 24, .inl fm_reportPlace)), ((mr 5), .inl (km_reportMonth, 24, .inl fm_reportMonth)), ((mr 6), .inl (km_reportDay, 24, .inl fm_reportDay)), ((mr 3), .inl (km_reportKind, 24, .inl fm_reportKind)), ((mr 0), .inl (km_trust, 6, .inl fm_trust)), ((mr 1), .inl (km_letter, 36, .inl fm_letter))] → va_S A s.heap H locs → lv_has ls 8 [] → W p l e R s m args below meth c H locs cells slots Q (F0 m 83 ls [.int v])) : ∀ z : Nat, (∀ (v3 : Int32) (v4 : Int32) (v5 : Int32) (v6 : Int32) (w0_37 : Int32) (w0_41 : Int32) (z1 : Nat → Int32) (z2 : Nat → Int32) (z3 : Nat → Int32) (z4 : Nat → Int32) (z5 : Nat → Int32) (z6 : Nat → Int32) (H : Heap) (locs : List Loc) (ls : Array Slot), gi p1 0 999 → gi p2 0 2147483647 → gi v4 0 24 → gi v5 (-1) 10 → gi v6 0 24 → gi w0_37 0 1 → gi w0_41 0 24 → ga z6 24 0 23 → v4.toInt ≤ v6.toInt → 49 + (-2) * v6.toInt < (z : Int) → va_P (dC, dI) vwCl [(h0, .inr (12, fsMM (upd (upd mi 37 w0_37) 41 w0_41) mr)), ((mr 14), .inl (km_must, 25, .inl z1)), ((mr 15), .inl (km_least, 25, .inl z2)), ((mr 16), .inl (km_pin, 25, .inl z3)), ((mr 17), .inl (km_ways, 6875, .inl z4)), ((mr 18), .inl (km_verdict, 24, .inl z5)), ((mr 19), .inl (km_row, 24, .inl z6)), ((mr 4), .inl (km_struck, 24, .inl fm_struck)), ((mr 7), .inl (km_reportKnown, 24, .inl fm_reportKnown)), ((mr 2), .inl (km_reportPlace, 24, .inl fm_reportPlace)), ((mr 5), .inl (km_reportMonth, 24, .inl fm_reportMonth)), ((mr 6), .inl (km_reportDay, 24, .inl fm_reportDay)), ((mr 3), .inl (km_reportKind, 24, .inl fm_reportKind)), ((mr 0), .inl (km_trust, 6, .inl fm_trust)), ((mr 1), .inl (km_letter, 36, .inl fm_letter))] H → va_D A [(h0, .inr (12, fsMM (upd (upd mi 37 w0_37) 41 w0_41) mr)), ((mr 14), .inl (km_must, 25, .inl z1)), ((mr 15), .inl (km_least, 25, .inl z2)), ((mr 16), .inl (km_pin, 25, .inl z3)), ((mr 17), .inl (km_ways, 6875, .inl z4)), ((mr 18), .inl (km_verdict, 24, .inl z5)), ((mr 19), .inl (km_row, 24, .inl z6)), ((mr 4), .inl (km_struck, 24, .inl fm_struck)), ((mr 7), .inl (km_reportKnown, 24, .inl fm_reportKnown)), ((mr 2), .inl (km_reportPlace, 24, .inl fm_reportPlace)), ((mr 5), .inl (km_reportMonth, 24, .inl fm_reportMonth)), ((mr 6), .inl (km_reportDay, 24, .inl fm_reportDay)), ((mr 3), .inl (km_reportKind, 24, .inl fm_reportKind)), ((mr 0), .inl (km_trust, 6, .inl fm_trust)), ((mr 1), .inl (km_letter, 36, .inl fm_letter))] → va_S A s.heap H locs → lv_has ls 8 [(0, .ref h0), (1, .int p1), (2, .int p2), (3, .int v3), (4, .int v4), (5, .int v5), (6, .int v6)] → W p l e R s m args below meth c H locs cells slots Q (F0 m 50 ls [])) := by
  intro z
  induction z with
  | zero =>
    intro v3 v4 v5 v6 w0_37 w0_41 z1 z2 z3 z4 z5 z6 H locs ls gf_p1 gf_p2 gv4 gv5 gv6 gw0_37 gw0_41 gz6 hle_gv4_gv6 hmu hP hD hS hl
    exact absurd hmu (by have hv61 := gv6.1; have hv62 := gv6.2; omega)
  | succ z ih =>
      intro v3 v4 v5 v6 w0_37 w0_41 z1 z2 z3 z4 z5 z6 H locs ls gf_p1 gf_p2 gv4 gv5 gv6 gw0_37 gw0_41 gz6 hle_gv4_gv6 hmu hP hD hS hl
      refine lv_iload hx hb dX12_rank_50 (lv_at hl 6 rfl) ?_
      refine lv_aload_n hx hb dX12_rank_52 rfl (lv_at hl 0 rfl) ?_
      refine va_get (D := (dC, dI)) (ci := 12) (v := .int (mi 0)) (C := RX12) (T := TX12) (N := 57) hx hb hts (fun w h => List.mem_cons_of_mem _ (jnGB_X12 w h)) hown hK hP 0 rfl rfl 0 (by decide) (hts _ (List.mem_cons_of_mem _ mGB_103)) (fun _ h9 => h9) rfl dX12_rank_53 ?_
      refine lv_icmp_ge (tgt := 131) hx hb dX12_rank_56 (by decide) (fun c_677 => ?_) (fun c_677 => ?_)
      · refine lv_iload_n hx hb dX12_rank_131 rfl (lv_at hl 3 rfl) ?_
        exact kr132 v3 w0_37 w0_41 z1 z2 z3 z4 z5 z6 _ _ _ gw0_37 gw0_41 gz6 hP hD hS (lv_sub hl [] rfl)
      · have g_678 : gi v6 0 23 := gi_lt_l (Int32.not_le.mp c_677) gv6 gmi_0 (by decide)
        have g_679 : gi v4 0 23 := gi_rel hle_gv4_gv6 gv4 g_678
        have g_680 : gi (mi 0) 1 24 := gi_lt_r (Int32.not_le.mp c_677) gv6 gmi_0 (by decide)
        refine lv_iload_n hx hb dX12_rank_59 rfl (lv_at hl 2 rfl) ?_
        refine lv_iload hx hb dX12_rank_60 (lv_at hl 6 rfl) ?_
        refine lv_ishr hx hb dX12_rank_62 ?_
        refine lv_topi (fun x_681 ex_681 => ?_)
        refine lv_iconst (v := 1) hx hb dX12_rank_63 (by decide) ?_
        refine lv_iand hx hb dX12_rank_64 ?_
        refine lv_topi (fun x_682 ex_682 => ?_)
        have gx_682 : gi x_682 0 1 := gi_and1 ex_682
        refine lv_istore (lv' := [(7, .int x_682), (0, .ref h0), (1, .int p1), (2, .int p2), (3, .int v3), (4, .int v4), (5, .int v5), (6, .int v6)]) hx hb dX12_rank_65 hl (by decide) rfl (fun ls hl => ?_)
        refine lv_aload_n hx hb dX12_rank_67 rfl (lv_at hl 1 rfl) ?_
        refine lv_iload hx hb dX12_rank_68 (lv_at hl 7 rfl) ?_
        refine lv_iload hx hb dX12_rank_70 (lv_at hl 5 rfl) ?_
        refine lv_iload hx hb dX12_rank_72 (lv_at hl 6 rfl) ?_
        refine lv_iload hx hb dX12_rank_74 (lv_at hl 0 rfl) ?_
        have hPc := hP.sub (ws' := [(h0, .inr (12, fsMM (upd (upd mi 37 w0_37) 41 w0_41) mr)), ((mr 17), .inl (km_ways, 6875, .inl z4))]) [0, 4] rfl
        have hKc := hK.sub (tys' := [(km_ways, .int)]) [3] rfl
        refine va_calli (va_runV (As := [.int v6, .int v4, .int v5, .int x_682]) (rest := []) ⟨hx, hb, hml, hown, hts⟩ (sX12_waysBy l dC dI h0 (upd (upd mi 37 w0_37) 41 w0_41) mr km_ways z4 v6 v4 v5 x_682 (gi_w g_680 (by decide)) gmi_1 gmi_2 gmi_4 gmi_7 gmi_10 gmi_17 gmi_23 gmi_24 gmi_26 gmi_29 gmi_30 gmi_33 gw0_37 gw0_41 gmi_50 gmi_51 gmi_56 g_678 g_679 gv5 gx_682) (cwV 4 hts (gz_gV mGB_307 mGB_308 mGB_309 mGB_1 mGB_310 goodGB) rfl rfl rfl (by decide +kernel) ⟨Nat.le_trans (Nat.le_of_ble_eq_true rfl) hRf, Nat.le_trans (Nat.le_of_ble_eq_true rfl) hRl⟩) ⟨fun a U g mk q => by obtain ⟨q0, qP, qK⟩ := q; exact ⟨q0, qP, va_K.moved (u := U) (U := U.calling g mk a) (Vm.Alike.refl U.vm) qK⟩, va_recv hKc hPc (ci := 12) (q0 := 0) rfl rfl, fun U hU hW => ⟨rfl, by rw [hU]; exact hPc, va_K.moved hW.alike hKc⟩⟩ rfl rfl hl.1 rfl (lv_room (Nat.le_of_ble_eq_true rfl)) dX12_rank_76 ⟨hRc, hRs⟩) hS (fun q _ h => h.elim) (fun q h => h.elim) (fun r_683 u t H1 locs ht hvm hw hB hz1 hk1 hS => ?_)
        have hP := gz_keep hP hk1
        generalize H1 = H at hP hS ⊢
        refine lv_if_ne (tgt := 84) hx hb dX12_rank_79 (by decide) (fun c_684 => ?_) (fun c_684 => ?_)
        · refine lv_iload_n hx hb dX12_rank_84 rfl (lv_at hl 4 rfl) ?_
          refine lv_iload hx hb dX12_rank_85 (lv_at hl 0 rfl) ?_
          refine lv_iconst (v := 1) hx hb dX12_rank_87 (by decide) ?_
          refine lv_icmp_ne (tgt := 105) hx hb dX12_rank_88 (by decide) (fun c_685 => ?_) (fun c_685 => ?_)
          · have g_686 : gi x_682 0 0 := gi_ne_hi c_685 gx_682 (gi_c 1 1 (by decide)) (by decide)
            refine lv_iconst (v := 0) hx hb dX12_rank_105 (by decide) ?_
            refine lv_iadd hx hb dX12_rank_106 ?_
            refine lv_topi (fun x_687 ex_687 => ?_)
            refine lv_istore_n (lv' := [(3, .int x_687), (7, .int x_682), (0, .ref h0), (1, .int p1), (2, .int p2), (4, .int v4), (5, .int v5), (6, .int v6)]) hx hb dX12_rank_107 rfl hl (by decide) rfl (fun ls hl => ?_)
            refine lv_aload_n hx hb dX12_rank_108 rfl (lv_at hl 2 rfl) ?_
            refine lv_iload hx hb dX12_rank_109 (lv_at hl 6 rfl) ?_
            refine lv_iload hx hb dX12_rank_111 (lv_at hl 1 rfl) ?_
            have hPc := hP.sub (ws' := [(h0, .inr (12, fsMM (upd (upd mi 37 w0_37) 41 w0_41) mr))]) [0] rfl
            have hKc := hK.sub (tys' := []) [] rfl
            refine va_calli (va_runV (As := [.int v5, .int x_682]) (rest := []) ⟨hx, hb, hml, hown, hts⟩ (sX12_runBehind l dC dI h0 (upd (upd mi 37 w0_37) 41 w0_41) mr v5 x_682 (gi_w g_680 (by decide)) gmi_1 gmi_2 gmi_4 gmi_7 gmi_10 gmi_17 gmi_23 gmi_24 gmi_26 gmi_29 gmi_30 gmi_33 gw0_37 gw0_41 gmi_50 gmi_51 gmi_56 gv5 (gi_w g_686 (by decide))) (cwV 2 hts (gz_gV mGB_311 mGB_312 mGB_313 mGB_1 mGB_314 goodGB) rfl rfl rfl (by decide +kernel) ⟨Nat.le_trans (Nat.le_of_ble_eq_true rfl) hRf, Nat.le_trans (Nat.le_of_ble_eq_true rfl) hRl⟩) ⟨fun a U g mk q => by obtain ⟨q0, qP, qK⟩ := q; exact ⟨q0, qP, va_K.moved (u := U) (U := U.calling g mk a) (Vm.Alike.refl U.vm) qK⟩, va_recv hKc hPc (ci := 12) (q0 := 0) rfl rfl, fun U hU hW => ⟨rfl, by rw [hU]; exact hPc, va_K.moved hW.alike hKc⟩⟩ rfl rfl hl.1 rfl (lv_room (Nat.le_of_ble_eq_true rfl)) dX12_rank_113 ⟨hRc, hRs⟩) hS (fun q _ h => h.elim) (fun q h => h.elim) (fun r_688 u t H1 locs ht hvm hw hB hz1 hk1 hS => ?_)
            have hP := gz_keep hP hk1
            generalize H1 = H at hP hS ⊢
            have gr_688 : gi r_688 (-1) 10 := hw
            refine lv_istore (lv' := [(5, .int r_688), (3, .int x_687), (7, .int x_682), (0, .ref h0), (1, .int p1), (2, .int p2), (4, .int v4), (6, .int v6)]) hx hb dX12_rank_116 hl (by decide) rfl (fun ls hl => ?_)
            refine lv_iload hx hb dX12_rank_118 (lv_at hl 6 rfl) ?_
            refine lv_iload hx hb dX12_rank_120 (lv_at hl 2 rfl) ?_
            refine lv_iadd hx hb dX12_rank_122 ?_
            refine lv_topi (fun x_689 ex_689 => ?_)
            have gx_689 : gi x_689 0 23 := gi_add ex_689 g_679 g_686 (by decide)
            refine lv_istore (lv' := [(4, .int x_689), (5, .int r_688), (3, .int x_687), (7, .int x_682), (0, .ref h0), (1, .int p1), (2, .int p2), (6, .int v6)]) hx hb dX12_rank_123 hl (by decide) rfl (fun ls hl => ?_)
            obtain ⟨x_690, ex_690⟩ : ∃ y : Int32, y = v6 + 1 := ⟨_, rfl⟩
            have gx_690 : gi x_690 1 24 := gi_add ex_690 g_678 (gi_c 1 1 (by decide)) (by decide)
            refine lv_iinc (v := x_690) (lv' := [(6, .int x_690), (4, .int x_689), (5, .int r_688), (3, .int x_687), (7, .int x_682), (0, .ref h0), (1, .int p1), (2, .int p2)]) hx hb dX12_rank_125 hl (k := 7) rfl (by rw [ex_690]; rfl) (by decide) rfl (fun ls hl => ?_)
            refine lv_goto (tgt := 50) hx hb dX12_rank_128 (by decide) ?_
            exact ih x_687 x_689 r_688 x_690 w0_37 w0_41 z1 z2 z3 z4 z5 z6 _ _ _ gf_p1 gf_p2 (gi_w gx_689 (by decide)) gr_688 (gi_w gx_690 (by decide)) gw0_37 gw0_41 gz6 (by have qgx_690 := gx_690.1; have rgx_690 := gx_690.2; have igx_690 : x_690.toInt = v6.toInt + 1 := (by have hc1 : (1 : Int32).toInt = 1 := (by decide); have h9 := gi_addI ex_690 (by have h1 := g_678.1; have h2 := (gi_c 1 1 (by decide)).1; have h3 := g_678.2; have h4 := (gi_c 1 1 (by decide)).2; omega) (by have h1 := g_678.1; have h2 := (gi_c 1 1 (by decide)).1; have h3 := g_678.2; have h4 := (gi_c 1 1 (by decide)).2; omega); rw [hc1] at h9; exact h9); have qgv6 := g_678.1; have rgv6 := g_678.2; have qgx_689 := gx_689.1; have rgx_689 := gx_689.2; have igx_689 : x_689.toInt = v4.toInt + x_682.toInt := (by have h9 := gi_addI ex_689 (by have h1 := g_679.1; have h2 := g_686.1; have h3 := g_679.2; have h4 := g_686.2; omega) (by have h1 := g_679.1; have h2 := g_686.1; have h3 := g_679.2; have h4 := g_686.2; omega); exact h9); have qgx_682 := g_686.1; have rgx_682 := g_686.2; have qgv4 := g_679.1; have rgv4 := g_679.2; have y1 := (Int32.lt_iff_toInt_lt.mp (Int32.not_le.mp c_677)); omega) (by have av6 := gv6.1; have bv6 := gv6.2; have qgx_690 := gx_690.1; have rgx_690 := gx_690.2; have igx_690 : x_690.toInt = v6.toInt + 1 := (by have hc1 : (1 : Int32).toInt = 1 := (by decide); have h9 := gi_addI ex_690 (by have h1 := g_678.1; have h2 := (gi_c 1 1 (by decide)).1; have h3 := g_678.2; have h4 := (gi_c 1 1 (by decide)).2; omega) (by have h1 := g_678.1; have h2 := (gi_c 1 1 (by decide)).1; have h3 := g_678.2; have h4 := (gi_c 1 1 (by decide)).2; omega); rw [hc1] at h9; exact h9); have qgv6 := g_678.1; have rgv6 := g_678.2; omega) hP hD hS (lv_sub hl [5, 6, 7, 3, 1, 2, 0] rfl)
          · have g_691 : gi x_682 1 1 := gi_eq c_685 (gi_c 1 1 (by decide))
            refine lv_aload_n hx hb dX12_rank_91 rfl (lv_at hl 1 rfl) ?_
            refine lv_iload hx hb dX12_rank_92 (lv_at hl 7 rfl) ?_
            refine lv_iload hx hb dX12_rank_94 (lv_at hl 5 rfl) ?_
            refine lv_iload hx hb dX12_rank_96 (lv_at hl 6 rfl) ?_
            refine lv_iconst (v := 0) hx hb dX12_rank_98 (by decide) ?_
            have hPc := hP.sub (ws' := [(h0, .inr (12, fsMM (upd (upd mi 37 w0_37) 41 w0_41) mr)), ((mr 17), .inl (km_ways, 6875, .inl z4))]) [0, 4] rfl
            have hKc := hK.sub (tys' := [(km_ways, .int)]) [3] rfl
            refine va_calli (va_runV (As := [.int v6, .int v4, .int v5, .int 0]) (rest := [.int v3]) ⟨hx, hb, hml, hown, hts⟩ (sX12_waysBy l dC dI h0 (upd (upd mi 37 w0_37) 41 w0_41) mr km_ways z4 v6 v4 v5 0 (gi_w g_680 (by decide)) gmi_1 gmi_2 gmi_4 gmi_7 gmi_10 gmi_17 gmi_23 gmi_24 gmi_26 gmi_29 gmi_30 gmi_33 gw0_37 gw0_41 gmi_50 gmi_51 gmi_56 g_678 g_679 gv5 (gi_w (gi_c 0 0 (by decide)) (by decide))) (cwV 4 hts (gz_gV mGB_307 mGB_308 mGB_309 mGB_1 mGB_310 goodGB) rfl rfl rfl (by decide +kernel) ⟨Nat.le_trans (Nat.le_of_ble_eq_true rfl) hRf, Nat.le_trans (Nat.le_of_ble_eq_true rfl) hRl⟩) ⟨fun a U g mk q => by obtain ⟨q0, qP, qK⟩ := q; exact ⟨q0, qP, va_K.moved (u := U) (U := U.calling g mk a) (Vm.Alike.refl U.vm) qK⟩, va_recv hKc hPc (ci := 12) (q0 := 0) rfl rfl, fun U hU hW => ⟨rfl, by rw [hU]; exact hPc, va_K.moved hW.alike hKc⟩⟩ rfl rfl hl.1 rfl (lv_room (Nat.le_of_ble_eq_true rfl)) dX12_rank_99 ⟨hRc, hRs⟩) hS (fun q _ h => h.elim) (fun q h => h.elim) (fun r_692 u t H1 locs ht hvm hw hB hz1 hk1 hS => ?_)
            have hP := gz_keep hP hk1
            generalize H1 = H at hP hS ⊢
            refine lv_goto (tgt := 106) hx hb dX12_rank_102 (by decide) ?_
            refine lv_iadd hx hb dX12_rank_106 ?_
            refine lv_topi (fun x_693 ex_693 => ?_)
            refine lv_istore_n (lv' := [(3, .int x_693), (7, .int x_682), (0, .ref h0), (1, .int p1), (2, .int p2), (4, .int v4), (5, .int v5), (6, .int v6)]) hx hb dX12_rank_107 rfl hl (by decide) rfl (fun ls hl => ?_)
            refine lv_aload_n hx hb dX12_rank_108 rfl (lv_at hl 2 rfl) ?_
            refine lv_iload hx hb dX12_rank_109 (lv_at hl 6 rfl) ?_
            refine lv_iload hx hb dX12_rank_111 (lv_at hl 1 rfl) ?_
            have hPc := hP.sub (ws' := [(h0, .inr (12, fsMM (upd (upd mi 37 w0_37) 41 w0_41) mr))]) [0] rfl
            have hKc := hK.sub (tys' := []) [] rfl
            refine va_calli (va_runV (As := [.int v5, .int x_682]) (rest := []) ⟨hx, hb, hml, hown, hts⟩ (sX12_runBehind l dC dI h0 (upd (upd mi 37 w0_37) 41 w0_41) mr v5 x_682 (gi_w g_680 (by decide)) gmi_1 gmi_2 gmi_4 gmi_7 gmi_10 gmi_17 gmi_23 gmi_24 gmi_26 gmi_29 gmi_30 gmi_33 gw0_37 gw0_41 gmi_50 gmi_51 gmi_56 gv5 (gi_w g_691 (by decide))) (cwV 2 hts (gz_gV mGB_311 mGB_312 mGB_313 mGB_1 mGB_314 goodGB) rfl rfl rfl (by decide +kernel) ⟨Nat.le_trans (Nat.le_of_ble_eq_true rfl) hRf, Nat.le_trans (Nat.le_of_ble_eq_true rfl) hRl⟩) ⟨fun a U g mk q => by obtain ⟨q0, qP, qK⟩ := q; exact ⟨q0, qP, va_K.moved (u := U) (U := U.calling g mk a) (Vm.Alike.refl U.vm) qK⟩, va_recv hKc hPc (ci := 12) (q0 := 0) rfl rfl, fun U hU hW => ⟨rfl, by rw [hU]; exact hPc, va_K.moved hW.alike hKc⟩⟩ rfl rfl hl.1 rfl (lv_room (Nat.le_of_ble_eq_true rfl)) dX12_rank_113 ⟨hRc, hRs⟩) hS (fun q _ h => h.elim) (fun q h => h.elim) (fun r_694 u t H1 locs ht hvm hw hB hz1 hk1 hS => ?_)
            have hP := gz_keep hP hk1
            generalize H1 = H at hP hS ⊢
            have gr_694 : gi r_694 (-1) 10 := hw
            refine lv_istore (lv' := [(5, .int r_694), (3, .int x_693), (7, .int x_682), (0, .ref h0), (1, .int p1), (2, .int p2), (4, .int v4), (6, .int v6)]) hx hb dX12_rank_116 hl (by decide) rfl (fun ls hl => ?_)
            refine lv_iload hx hb dX12_rank_118 (lv_at hl 6 rfl) ?_
            refine lv_iload hx hb dX12_rank_120 (lv_at hl 2 rfl) ?_
            refine lv_iadd hx hb dX12_rank_122 ?_
            refine lv_topi (fun x_695 ex_695 => ?_)
            have gx_695 : gi x_695 1 24 := gi_add ex_695 g_679 g_691 (by decide)
            refine lv_istore (lv' := [(4, .int x_695), (5, .int r_694), (3, .int x_693), (7, .int x_682), (0, .ref h0), (1, .int p1), (2, .int p2), (6, .int v6)]) hx hb dX12_rank_123 hl (by decide) rfl (fun ls hl => ?_)
            obtain ⟨x_696, ex_696⟩ : ∃ y : Int32, y = v6 + 1 := ⟨_, rfl⟩
            have gx_696 : gi x_696 1 24 := gi_add ex_696 g_678 (gi_c 1 1 (by decide)) (by decide)
            refine lv_iinc (v := x_696) (lv' := [(6, .int x_696), (4, .int x_695), (5, .int r_694), (3, .int x_693), (7, .int x_682), (0, .ref h0), (1, .int p1), (2, .int p2)]) hx hb dX12_rank_125 hl (k := 7) rfl (by rw [ex_696]; rfl) (by decide) rfl (fun ls hl => ?_)
            refine lv_goto (tgt := 50) hx hb dX12_rank_128 (by decide) ?_
            exact ih x_693 x_695 r_694 x_696 w0_37 w0_41 z1 z2 z3 z4 z5 z6 _ _ _ gf_p1 gf_p2 (gi_w gx_695 (by decide)) gr_694 (gi_w gx_696 (by decide)) gw0_37 gw0_41 gz6 (by have qgx_696 := gx_696.1; have rgx_696 := gx_696.2; have igx_696 : x_696.toInt = v6.toInt + 1 := (by have hc1 : (1 : Int32).toInt = 1 := (by decide); have h9 := gi_addI ex_696 (by have h1 := g_678.1; have h2 := (gi_c 1 1 (by decide)).1; have h3 := g_678.2; have h4 := (gi_c 1 1 (by decide)).2; omega) (by have h1 := g_678.1; have h2 := (gi_c 1 1 (by decide)).1; have h3 := g_678.2; have h4 := (gi_c 1 1 (by decide)).2; omega); rw [hc1] at h9; exact h9); have qgv6 := g_678.1; have rgv6 := g_678.2; have qgx_695 := gx_695.1; have rgx_695 := gx_695.2; have igx_695 : x_695.toInt = v4.toInt + x_682.toInt := (by have h9 := gi_addI ex_695 (by have h1 := g_679.1; have h2 := g_691.1; have h3 := g_679.2; have h4 := g_691.2; omega) (by have h1 := g_679.1; have h2 := g_691.1; have h3 := g_679.2; have h4 := g_691.2; omega); exact h9); have qgx_682 := g_691.1; have rgx_682 := g_691.2; have qgv4 := g_679.1; have rgv4 := g_679.2; have y1 := (Int32.lt_iff_toInt_lt.mp (Int32.not_le.mp c_677)); omega) (by have av6 := gv6.1; have bv6 := gv6.2; have qgx_696 := gx_696.1; have rgx_696 := gx_696.2; have igx_696 : x_696.toInt = v6.toInt + 1 := (by have hc1 : (1 : Int32).toInt = 1 := (by decide); have h9 := gi_addI ex_696 (by have h1 := g_678.1; have h2 := (gi_c 1 1 (by decide)).1; have h3 := g_678.2; have h4 := (gi_c 1 1 (by decide)).2; omega) (by have h1 := g_678.1; have h2 := (gi_c 1 1 (by decide)).1; have h3 := g_678.2; have h4 := (gi_c 1 1 (by decide)).2; omega); rw [hc1] at h9; exact h9); have qgv6 := g_678.1; have rgv6 := g_678.2; omega) hP hD hS (lv_sub hl [5, 6, 7, 3, 1, 2, 0] rfl)
        · have g_697 : gi r_683 0 0 := gi_eq c_684 (gi_c 0 0 (by decide))
          refine lv_iconst (v := (-1)) hx hb dX12_rank_82 (by decide) ?_
          exact kr83 (-1) w0_37 w0_41 z1 z2 z3 z4 z5 z6 _ _ _ (gi_c (-1) (-1) (by decide)) gw0_37 gw0_41 gz6 hP hD hS (lv_sub hl [] rfl)
set_option maxHeartbeats 4000000 in
set_option maxRecDepth 100000 in
theorem sX12_rank (l : Launch) (dC : Nat → ClassId) (dI : Nat → Nat → Nat) (sz : Nat) (h0 : Nat) (mi : Nat → Int32) (mr : Nat → Nat) (km_must : ClassId) (fm_must : Nat → Int32) (km_least : ClassId) (fm_least : Nat → Int32) (km_pin : ClassId) (fm_pin : Nat → Int32) (km_ways : ClassId) (fm_ways : Nat → Int32) (km_verdict : ClassId) (fm_verdict : Nat → Int32) (km_row : ClassId) (fm_row : Nat → Int32) (km_struck : ClassId) (fm_struck : Nat → Int32) (km_reportKnown : ClassId) (fm_reportKnown : Nat → Int32) (km_reportPlace : ClassId) (fm_reportPlace : Nat → Int32) (km_reportMonth : ClassId) (fm_reportMonth : Nat → Int32) (km_reportDay : ClassId) (fm_reportDay : Nat → Int32) (km_reportKind : ClassId) (fm_reportKind : Nat → Int32) (km_trust : ClassId) (fm_trust : Nat → Int32) (km_letter : ClassId) (fm_letter : Nat → Int32) (p1 : Int32) (p2 : Int32) (gmi_0 : gi (mi 0) 0 24) (gmi_1 : gi (mi 1) 0 5) (gmi_2 : gi (mi 2) 0 5) (gmi_4 : gi (mi 4) 0 1) (gmi_7 : gi (mi 7) 0 6) (gmi_10 : gi (mi 10) 0 24) (gmi_17 : gi (mi 17) 0 8) (gmi_23 : gi (mi 23) 0 300) (gmi_24 : gi (mi 24) 0 1) (gmi_26 : gi (mi 26) 0 1600) (gmi_29 : gi (mi 29) 0 1600) (gmi_30 : gi (mi 30) 0 1600) (gmi_33 : gi (mi 33) 0 1) (gmi_37 : gi (mi 37) 0 1) (gmi_41 : gi (mi 41) 0 24) (gmi_50 : gi (mi 50) 0 1) (gmi_51 : gi (mi 51) 0 1) (gmi_56 : gi (mi 56) 0 80) (gfm_row : ga fm_row 24 0 23) (gfm_struck : ga fm_struck 24 0 1) (gfm_reportKnown : ga fm_reportKnown 24 0 999) (gfm_reportPlace : ga fm_reportPlace 24 0 5) (gfm_reportMonth : ga fm_reportMonth 24 0 23) (gfm_reportDay : ga fm_reportDay 24 0 999) : Met l yX12_rank (.code yX12_rank cX12_rank 8 (some .int) :: wsGB) ({ frames := 5, cells := 0, slots := 0, locals := 119 }) (va_Pc [.ref h0, .int p1, .int p2] (fun U => U.heap.size = sz ∧ va_P (dC, dI) vwCl [(h0, .inr (12, fsMM mi mr)), ((mr 14), .inl (km_must, 25, .inl fm_must)), ((mr 15), .inl (km_least, 25, .inl fm_least)), ((mr 16), .inl (km_pin, 25, .inl fm_pin)), ((mr 17), .inl (km_ways, 6875, .inl fm_ways)), ((mr 18), .inl (km_verdict, 24, .inl fm_verdict)), ((mr 19), .inl (km_row, 24, .inl fm_row)), ((mr 4), .inl (km_struck, 24, .inl fm_struck)), ((mr 7), .inl (km_reportKnown, 24, .inl fm_reportKnown)), ((mr 2), .inl (km_reportPlace, 24, .inl fm_reportPlace)), ((mr 5), .inl (km_reportMonth, 24, .inl fm_reportMonth)), ((mr 6), .inl (km_reportDay, 24, .inl fm_reportDay)), ((mr 3), .inl (km_reportKind, 24, .inl fm_reportKind)), ((mr 0), .inl (km_trust, 6, .inl fm_trust)), ((mr 1), .inl (km_letter, 36, .inl fm_letter))] U.heap ∧ va_K (dC, dI) vwCl [(km_must, .int), (km_least, .int), (km_pin, .int), (km_ways, .int), (km_verdict, .int), (km_row, .int), (km_struck, .boolean), (km_reportKnown, .int), (km_reportPlace, .int), (km_reportMonth, .int), (km_reportDay, .int), (km_reportKind, .int), (km_trust, .int), (km_letter, .int)] U ∧ va_D (fun _ => True) [(h0, .inr (12, fsMM mi mr)), ((mr 14), .inl (km_must, 25, .inl fm_must)), ((mr 15), .inl (km_least, 25, .inl fm_least)), ((mr 16), .inl (km_pin, 25, .inl fm_pin)), ((mr 17), .inl (km_ways, 6875, .inl fm_ways)), ((mr 18), .inl (km_verdict, 24, .inl fm_verdict)), ((mr 19), .inl (km_row, 24, .inl fm_row)), ((mr 4), .inl (km_struck, 24, .inl fm_struck)), ((mr 7), .inl (km_reportKnown, 24, .inl fm_reportKnown)), ((mr 2), .inl (km_reportPlace, 24, .inl fm_reportPlace)), ((mr 5), .inl (km_reportMonth, 24, .inl fm_reportMonth)), ((mr 6), .inl (km_reportDay, 24, .inl fm_reportDay)), ((mr 3), .inl (km_reportKind, 24, .inl fm_reportKind)), ((mr 0), .inl (km_trust, 6, .inl fm_trust)), ((mr 1), .inl (km_letter, 36, .inl fm_letter))])) (va_Qi (fun (r : Int32) (u : Unit) => gi r (-2147483648) 2147483647) (fun _ t => ∃ (w0_37 : Int32) (w0_41 : Int32) (z1 : Nat → Int32) (z2 : Nat → Int32) (z3 : Nat → Int32) (z4 : Nat → Int32) (z5 : Nat → Int32) (z6 : Nat → Int32), gi w0_37 0 1 ∧ gi w0_41 0 24 ∧ ga z6 24 0 23 ∧ va_P (dC, dI) vwCl [(h0, .inr (12, fsMM (upd (upd mi 37 w0_37) 41 w0_41) mr)), ((mr 14), .inl (km_must, 25, .inl z1)), ((mr 15), .inl (km_least, 25, .inl z2)), ((mr 16), .inl (km_pin, 25, .inl z3)), ((mr 17), .inl (km_ways, 6875, .inl z4)), ((mr 18), .inl (km_verdict, 24, .inl z5)), ((mr 19), .inl (km_row, 24, .inl z6)), ((mr 4), .inl (km_struck, 24, .inl fm_struck)), ((mr 7), .inl (km_reportKnown, 24, .inl fm_reportKnown)), ((mr 2), .inl (km_reportPlace, 24, .inl fm_reportPlace)), ((mr 5), .inl (km_reportMonth, 24, .inl fm_reportMonth)), ((mr 6), .inl (km_reportDay, 24, .inl fm_reportDay)), ((mr 3), .inl (km_reportKind, 24, .inl fm_reportKind)), ((mr 0), .inl (km_trust, 6, .inl fm_trust)), ((mr 1), .inl (km_letter, 36, .inl fm_letter))] t.heap ∧ va_D (va_A [(h0, .inr (12, fsMM mi mr)), ((mr 14), .inl (km_must, 25, .inl fm_must)), ((mr 15), .inl (km_least, 25, .inl fm_least)), ((mr 16), .inl (km_pin, 25, .inl fm_pin)), ((mr 17), .inl (km_ways, 6875, .inl fm_ways)), ((mr 18), .inl (km_verdict, 24, .inl fm_verdict)), ((mr 19), .inl (km_row, 24, .inl fm_row)), ((mr 4), .inl (km_struck, 24, .inl fm_struck)), ((mr 7), .inl (km_reportKnown, 24, .inl fm_reportKnown)), ((mr 2), .inl (km_reportPlace, 24, .inl fm_reportPlace)), ((mr 5), .inl (km_reportMonth, 24, .inl fm_reportMonth)), ((mr 6), .inl (km_reportDay, 24, .inl fm_reportDay)), ((mr 3), .inl (km_reportKind, 24, .inl fm_reportKind)), ((mr 0), .inl (km_trust, 6, .inl fm_trust)), ((mr 1), .inl (km_letter, 36, .inl fm_letter))] sz) [(h0, .inr (12, fsMM (upd (upd mi 37 w0_37) 41 w0_41) mr)), ((mr 14), .inl (km_must, 25, .inl z1)), ((mr 15), .inl (km_least, 25, .inl z2)), ((mr 16), .inl (km_pin, 25, .inl z3)), ((mr 17), .inl (km_ways, 6875, .inl z4)), ((mr 18), .inl (km_verdict, 24, .inl z5)), ((mr 19), .inl (km_row, 24, .inl z6)), ((mr 4), .inl (km_struck, 24, .inl fm_struck)), ((mr 7), .inl (km_reportKnown, 24, .inl fm_reportKnown)), ((mr 2), .inl (km_reportPlace, 24, .inl fm_reportPlace)), ((mr 5), .inl (km_reportMonth, 24, .inl fm_reportMonth)), ((mr 6), .inl (km_reportDay, 24, .inl fm_reportDay)), ((mr 3), .inl (km_reportKind, 24, .inl fm_reportKind)), ((mr 0), .inl (km_trust, 6, .inl fm_trust)), ((mr 1), .inl (km_letter, 36, .inl fm_letter))]) (va_A [(h0, .inr (12, fsMM mi mr)), ((mr 14), .inl (km_must, 25, .inl fm_must)), ((mr 15), .inl (km_least, 25, .inl fm_least)), ((mr 16), .inl (km_pin, 25, .inl fm_pin)), ((mr 17), .inl (km_ways, 6875, .inl fm_ways)), ((mr 18), .inl (km_verdict, 24, .inl fm_verdict)), ((mr 19), .inl (km_row, 24, .inl fm_row)), ((mr 4), .inl (km_struck, 24, .inl fm_struck)), ((mr 7), .inl (km_reportKnown, 24, .inl fm_reportKnown)), ((mr 2), .inl (km_reportPlace, 24, .inl fm_reportPlace)), ((mr 5), .inl (km_reportMonth, 24, .inl fm_reportMonth)), ((mr 6), .inl (km_reportDay, 24, .inl fm_reportDay)), ((mr 3), .inl (km_reportKind, 24, .inl fm_reportKind)), ((mr 0), .inl (km_trust, 6, .inl fm_trust)), ((mr 1), .inl (km_letter, 36, .inl fm_letter))] sz)) 0 0 (va_A [(h0, .inr (12, fsMM mi mr)), ((mr 14), .inl (km_must, 25, .inl fm_must)), ((mr 15), .inl (km_least, 25, .inl fm_least)), ((mr 16), .inl (km_pin, 25, .inl fm_pin)), ((mr 17), .inl (km_ways, 6875, .inl fm_ways)), ((mr 18), .inl (km_verdict, 24, .inl fm_verdict)), ((mr 19), .inl (km_row, 24, .inl fm_row)), ((mr 4), .inl (km_struck, 24, .inl fm_struck)), ((mr 7), .inl (km_reportKnown, 24, .inl fm_reportKnown)), ((mr 2), .inl (km_reportPlace, 24, .inl fm_reportPlace)), ((mr 5), .inl (km_reportMonth, 24, .inl fm_reportMonth)), ((mr 6), .inl (km_reportDay, 24, .inl fm_reportDay)), ((mr 3), .inl (km_reportKind, 24, .inl fm_reportKind)), ((mr 0), .inl (km_trust, 6, .inl fm_trust)), ((mr 1), .inl (km_letter, 36, .inl fm_letter))] sz) := by
  refine Met.ofW (cc := cX12_rank) (maxL := 8) (ret := (some .int)) (by decide) rfl ?_
  intro p e s m args below meth c s₁ B hml hv
  obtain ⟨rfl, hsz, hP, hK, hD0⟩ := hv
  have hx := B.exec
  have hb := B.bytes
  have hr := B.returns
  have hts := atoms_spec (ws := (.code yX12_rank cX12_rank 8 (some .int) :: wsGB)) B.pre
  have hown : s.vm.findClass RX12 = some m.cls := findClass_of_methodNamed B.named
  have hlocks := B.notSynchronized
  subst hsz
  have hD := hD0.self (sz := s.heap.size)
  generalize hAe : va_A [(h0, .inr (12, fsMM mi mr)), ((mr 14), .inl (km_must, 25, .inl fm_must)), ((mr 15), .inl (km_least, 25, .inl fm_least)), ((mr 16), .inl (km_pin, 25, .inl fm_pin)), ((mr 17), .inl (km_ways, 6875, .inl fm_ways)), ((mr 18), .inl (km_verdict, 24, .inl fm_verdict)), ((mr 19), .inl (km_row, 24, .inl fm_row)), ((mr 4), .inl (km_struck, 24, .inl fm_struck)), ((mr 7), .inl (km_reportKnown, 24, .inl fm_reportKnown)), ((mr 2), .inl (km_reportPlace, 24, .inl fm_reportPlace)), ((mr 5), .inl (km_reportMonth, 24, .inl fm_reportMonth)), ((mr 6), .inl (km_reportDay, 24, .inl fm_reportDay)), ((mr 3), .inl (km_reportKind, 24, .inl fm_reportKind)), ((mr 0), .inl (km_trust, 6, .inl fm_trust)), ((mr 1), .inl (km_letter, 36, .inl fm_letter))] s.heap.size = A at hD ⊢
  have hA : ∀ q : Nat, s.heap.size ≤ q → A q := fun q h => by rw [← hAe]; exact Or.inr h
  have hS : va_S A s.heap s.heap [] := va_S.rf
  have hl := lv_entry ([.ref h0, .int p1, .int p2]) (n := 8) (Nat.le_of_ble_eq_true rfl)
  rw [lg_entry_eq]
  generalize (lg_sl ([.ref h0, .int p1, .int p2]) ++ List.replicate (8 - (lg_sl ([.ref h0, .int p1, .int p2])).length) Slot.unset).toArray = ls at hl ⊢
  have hl : lv_has ls 8 [(0, .ref h0), (1, .int p1), (2, .int p2)] := hl
  refine lv_aload_n hx hb dX12_rank_0 rfl (lv_at hl 0 rfl) ?_
  refine lv_iload_n hx hb dX12_rank_1 rfl (lv_at hl 1 rfl) ?_
  have hPc := hP.sub (ws' := [(h0, .inr (12, fsMM mi mr))]) [0] rfl
  have hKc := hK.sub (tys' := []) [] rfl
  refine va_calli (va_runV (As := [.int p1]) (rest := []) ⟨hx, hb, hml, hown, hts⟩ (sX12_isTime l dC dI h0 mi mr p1 gmi_0 gmi_1 gmi_2 gmi_4 gmi_7 gmi_10 gmi_17 gmi_23 gmi_24 gmi_26 gmi_29 gmi_30 gmi_33 gmi_37 gmi_41 gmi_50 gmi_51 gmi_56) (cwV 1 hts (gz_gV mGB_256 mGB_257 mGB_258 mGB_1 mGB_259 goodGB) rfl rfl rfl (by decide +kernel) ⟨Nat.le_of_ble_eq_true rfl, Nat.le_of_ble_eq_true rfl⟩) ⟨fun a U g mk q => by obtain ⟨q0, qP, qK⟩ := q; exact ⟨q0, qP, va_K.moved (u := U) (U := U.calling g mk a) (Vm.Alike.refl U.vm) qK⟩, va_recv hKc hPc (ci := 12) (q0 := 0) rfl rfl, fun U hU hW => ⟨rfl, by rw [hU]; exact hPc, va_K.moved hW.alike hKc⟩⟩ rfl rfl hl.1 rfl (lv_room (Nat.le_of_ble_eq_true rfl)) dX12_rank_2 ⟨Nat.zero_le _, Nat.zero_le _⟩) hS (fun q _ h => h.elim) (fun q h => h.elim) (fun r_698 u t H1 locs ht hvm hw hB hz1 hk1 hS => ?_)
  have hP := gz_keep hP hk1
  generalize H1 = H at hP hS ⊢
  have gr_698 : gi r_698 0 1 := hw.1
  have hqr_698 := hw.2
  refine lv_if_eq (tgt := 26) hx hb dX12_rank_5 (by decide) (fun c_699 => ?_) (fun c_699 => ?_)
  · have g_700 : gi r_698 0 0 := gi_eq c_699 (gi_c 0 0 (by decide))
    refine lv_bipush (v := (-2)) hx hb dX12_rank_26 (by decide) ?_
    exact W.iret (v := (-2)) hx hb hr (fun t ht hW => ⟨⟨(-2), (), rfl, (gi_any (-2)), (mi 37), (mi 41), fm_must, fm_least, fm_pin, fm_ways, fm_verdict, fm_row, gmi_37, gmi_41, gfm_row, by rw [ht]; exact hP, hD⟩, hS.F ht⟩) hS.2.2 dX12_rank_28
  · have g_701 : gi r_698 1 1 := gi_ne_lo c_699 gr_698 (gi_c 0 0 (by decide)) (by decide)
    have g_702 : gi p1 0 999 := gi_cap (gi_any p1) (hqr_698 (gz_one g_701)) (by decide)
    refine lv_iload_n hx hb dX12_rank_8 rfl (lv_at hl 2 rfl) ?_
    refine lv_i2l (v := (p2).toInt64) hx hb dX12_rank_9 rfl ?_
    refine lv_topl (fun l_703 el_703 => ?_)
    refine lv_lconst (v := 0) hx hb dX12_rank_10 (by decide) ?_
    refine lv_iconst (v := 1) hx hb dX12_rank_11 (by decide) ?_
    refine lv_aload_n hx hb dX12_rank_12 rfl (lv_at hl 0 rfl) ?_
    refine va_get (D := (dC, dI)) (ci := 12) (v := .int (mi 0)) (C := RX12) (T := TX12) (N := 57) hx hb hts (fun w h => List.mem_cons_of_mem _ (jnGB_X12 w h)) hown hK hP 0 rfl rfl 0 (by decide) (hts _ (List.mem_cons_of_mem _ mGB_103)) (fun _ h9 => h9) rfl dX12_rank_13 ?_
    refine lv_ishl hx hb dX12_rank_16 ?_
    refine lv_topi (fun x_704 ex_704 => ?_)
    refine lv_iconst (v := 1) hx hb dX12_rank_17 (by decide) ?_
    refine lv_isub hx hb dX12_rank_18 ?_
    refine lv_topi (fun x_705 ex_705 => ?_)
    refine lv_i2l (v := (x_705).toInt64) hx hb dX12_rank_19 rfl ?_
    refine lv_topl (fun l_706 el_706 => ?_)
    have hPc := hP.sub (ws' := []) [] rfl
    have hKc := hK.sub (tys' := []) [] rfl
    refine va_calli (va_runS (As := [.long l_703, .long 0, .long l_706]) (rest := []) ⟨hx, hb, hml, hown, hts⟩ (sX12_in l dC dI l_703 0 l_706) (cwS 3 hts (gz_gS mGB_47 mGB_48 mGB_1 mGB_49 goodGB) rfl rfl rfl (by decide +kernel) ⟨Nat.le_of_ble_eq_true rfl, Nat.le_of_ble_eq_true rfl⟩) ⟨fun a U g mk q => by obtain ⟨q0, qP, qK⟩ := q; exact ⟨q0, qP, va_K.moved (u := U) (U := U.calling g mk a) (Vm.Alike.refl U.vm) qK⟩, fun U hU hW => ⟨rfl, by rw [hU]; exact hPc, va_K.moved hW.alike hKc⟩⟩ rfl rfl hl.1 rfl (lv_room (Nat.le_of_ble_eq_true rfl)) dX12_rank_20 ⟨Nat.zero_le _, Nat.zero_le _⟩) hS (fun q _ h => h.elim) (fun q h => h.elim) (fun r_707 u t H1 locs ht hvm hw hB hz1 hk1 hS => ?_)
    obtain ⟨hw, hE⟩ := hw
    have hP := gz_keep hP hk1
    generalize H1 = H at hP hS ⊢
    have gr_707 : gi r_707 0 1 := hw.1
    have hqr_707 := hw.2
    refine lv_if_ne (tgt := 29) hx hb dX12_rank_23 (by decide) (fun c_708 => ?_) (fun c_708 => ?_)
    · have g_709 : gi r_707 1 1 := gi_ne_lo c_708 gr_707 (gi_c 0 0 (by decide)) (by decide)
      have g_710 : gi p2 0 2147483647 := gi_cap (gi_any p2) (gz_inr (hqr_707.1 (gz_one g_709)) el_703 (A := 0) (B := 2147483647) (by decide) (gz_l2u el_706 (gi_any x_705))) (by decide)
      refine lv_aload_n hx hb dX12_rank_29 rfl (lv_at hl 0 rfl) ?_
      refine lv_iload_n hx hb dX12_rank_30 rfl (lv_at hl 1 rfl) ?_
      have hPc := hP.sub (ws' := [(h0, .inr (12, fsMM mi mr)), ((mr 14), .inl (km_must, 25, .inl fm_must)), ((mr 15), .inl (km_least, 25, .inl fm_least)), ((mr 16), .inl (km_pin, 25, .inl fm_pin)), ((mr 17), .inl (km_ways, 6875, .inl fm_ways)), ((mr 18), .inl (km_verdict, 24, .inl fm_verdict)), ((mr 19), .inl (km_row, 24, .inl fm_row)), ((mr 4), .inl (km_struck, 24, .inl fm_struck)), ((mr 7), .inl (km_reportKnown, 24, .inl fm_reportKnown)), ((mr 2), .inl (km_reportPlace, 24, .inl fm_reportPlace)), ((mr 5), .inl (km_reportMonth, 24, .inl fm_reportMonth)), ((mr 6), .inl (km_reportDay, 24, .inl fm_reportDay)), ((mr 3), .inl (km_reportKind, 24, .inl fm_reportKind)), ((mr 0), .inl (km_trust, 6, .inl fm_trust)), ((mr 1), .inl (km_letter, 36, .inl fm_letter))]) [0, 1, 2, 3, 4, 5, 6, 7, 8, 9, 10, 11, 12, 13, 14] rfl
      have hKc := hK.sub (tys' := [(km_must, .int), (km_least, .int), (km_pin, .int), (km_ways, .int), (km_verdict, .int), (km_row, .int), (km_struck, .boolean), (km_reportKnown, .int), (km_reportPlace, .int), (km_reportMonth, .int), (km_reportDay, .int), (km_reportKind, .int), (km_trust, .int), (km_letter, .int)]) [0, 1, 2, 3, 4, 5, 6, 7, 8, 9, 10, 11, 12, 13] rfl
      have hDc := hD.sub (ws' := [(h0, .inr (12, fsMM mi mr)), ((mr 14), .inl (km_must, 25, .inl fm_must)), ((mr 15), .inl (km_least, 25, .inl fm_least)), ((mr 16), .inl (km_pin, 25, .inl fm_pin)), ((mr 17), .inl (km_ways, 6875, .inl fm_ways)), ((mr 18), .inl (km_verdict, 24, .inl fm_verdict)), ((mr 19), .inl (km_row, 24, .inl fm_row)), ((mr 4), .inl (km_struck, 24, .inl fm_struck)), ((mr 7), .inl (km_reportKnown, 24, .inl fm_reportKnown)), ((mr 2), .inl (km_reportPlace, 24, .inl fm_reportPlace)), ((mr 5), .inl (km_reportMonth, 24, .inl fm_reportMonth)), ((mr 6), .inl (km_reportDay, 24, .inl fm_reportDay)), ((mr 3), .inl (km_reportKind, 24, .inl fm_reportKind)), ((mr 0), .inl (km_trust, 6, .inl fm_trust)), ((mr 1), .inl (km_letter, 36, .inl fm_letter))]) [0, 1, 2, 3, 4, 5, 6, 7, 8, 9, 10, 11, 12, 13, 14] (by decide) rfl
      have hFc := va_free (wc := [(h0, .inr (12, fsMM mi mr)), ((mr 14), .inl (km_must, 25, .inl fm_must)), ((mr 15), .inl (km_least, 25, .inl fm_least)), ((mr 16), .inl (km_pin, 25, .inl fm_pin)), ((mr 17), .inl (km_ways, 6875, .inl fm_ways)), ((mr 18), .inl (km_verdict, 24, .inl fm_verdict)), ((mr 19), .inl (km_row, 24, .inl fm_row)), ((mr 4), .inl (km_struck, 24, .inl fm_struck)), ((mr 7), .inl (km_reportKnown, 24, .inl fm_reportKnown)), ((mr 2), .inl (km_reportPlace, 24, .inl fm_reportPlace)), ((mr 5), .inl (km_reportMonth, 24, .inl fm_reportMonth)), ((mr 6), .inl (km_reportDay, 24, .inl fm_reportDay)), ((mr 3), .inl (km_reportKind, 24, .inl fm_reportKind)), ((mr 0), .inl (km_trust, 6, .inl fm_trust)), ((mr 1), .inl (km_letter, 36, .inl fm_letter))]) hD hS hA [0, 1, 2, 3, 4, 5, 6, 7, 8, 9, 10, 11, 12, 13, 14] rfl
      refine va_callv (va_runV (As := [.int p1]) (rest := []) ⟨hx, hb, hml, hown, hts⟩ (sX12_judgesAll l dC dI H.size h0 mi mr km_must fm_must km_least fm_least km_pin fm_pin km_ways fm_ways km_verdict fm_verdict km_row fm_row km_struck fm_struck km_reportKnown fm_reportKnown km_reportPlace fm_reportPlace km_reportMonth fm_reportMonth km_reportDay fm_reportDay km_reportKind fm_reportKind km_trust fm_trust km_letter fm_letter p1 gmi_0 gmi_1 gmi_2 gmi_4 gmi_7 gmi_10 gmi_17 gmi_23 gmi_24 gmi_26 gmi_29 gmi_30 gmi_33 gmi_37 gmi_41 gmi_50 gmi_51 gmi_56 gfm_row gfm_struck gfm_reportKnown gfm_reportPlace gfm_reportMonth gfm_reportDay) (cwV 1 hts (gz_gV mGB_261 mGB_262 mGB_263 mGB_1 mGB_264 goodGB) rfl rfl rfl (by decide +kernel) ⟨Nat.le_of_ble_eq_true rfl, Nat.le_of_ble_eq_true rfl⟩) ⟨fun a U g mk q => by obtain ⟨q0, q1, qP, qK, qD⟩ := q; exact ⟨q0, q1, qP, va_K.moved (u := U) (U := U.calling g mk a) (Vm.Alike.refl U.vm) qK, qD⟩, va_recv hKc hPc (ci := 12) (q0 := 0) rfl rfl, fun U hU hW => ⟨rfl, by rw [hU], by rw [hU]; exact hPc, va_K.moved hW.alike hKc, hDc.weaken (fun _ _ _ _ => trivial)⟩⟩ rfl rfl hl.1 rfl (lv_room (Nat.le_of_ble_eq_true rfl)) dX12_rank_31 ⟨Nat.zero_le _, Nat.zero_le _⟩) hS (fun q _ h => hFc q h) hFc (fun u t H1 locs ht hvm hw hB hz1 hk1 hS => ?_)
      obtain ⟨y_712, y_713, f_714, f_715, f_716, f_717, f_718, f_719, gy_712, gy_713, gf_719, hP1, hD1⟩ := hB
      rw [ht] at hP1
      obtain ⟨hP, hD⟩ := va_join (wr := []) (w1 := [(h0, .inr (12, fsMM (upd (upd mi 37 y_712) 41 y_713) mr)), ((mr 14), .inl (km_must, 25, .inl f_714)), ((mr 15), .inl (km_least, 25, .inl f_715)), ((mr 16), .inl (km_pin, 25, .inl f_716)), ((mr 17), .inl (km_ways, 6875, .inl f_717)), ((mr 18), .inl (km_verdict, 24, .inl f_718)), ((mr 19), .inl (km_row, 24, .inl f_719)), ((mr 4), .inl (km_struck, 24, .inl fm_struck)), ((mr 7), .inl (km_reportKnown, 24, .inl fm_reportKnown)), ((mr 2), .inl (km_reportPlace, 24, .inl fm_reportPlace)), ((mr 5), .inl (km_reportMonth, 24, .inl fm_reportMonth)), ((mr 6), .inl (km_reportDay, 24, .inl fm_reportDay)), ((mr 3), .inl (km_reportKind, 24, .inl fm_reportKind)), ((mr 0), .inl (km_trust, 6, .inl fm_trust)), ((mr 1), .inl (km_letter, 36, .inl fm_letter))]) hP hD [0, 1, 2, 3, 4, 5, 6, 7, 8, 9, 10, 11, 12, 13, 14] [] rfl rfl (by decide) (by decide) hk1 hFc hP1 hD1
      have hP := hP.sub (ws' := [(h0, .inr (12, fsMM (upd (upd mi 37 y_712) 41 y_713) mr)), ((mr 14), .inl (km_must, 25, .inl f_714)), ((mr 15), .inl (km_least, 25, .inl f_715)), ((mr 16), .inl (km_pin, 25, .inl f_716)), ((mr 17), .inl (km_ways, 6875, .inl f_717)), ((mr 18), .inl (km_verdict, 24, .inl f_718)), ((mr 19), .inl (km_row, 24, .inl f_719)), ((mr 4), .inl (km_struck, 24, .inl fm_struck)), ((mr 7), .inl (km_reportKnown, 24, .inl fm_reportKnown)), ((mr 2), .inl (km_reportPlace, 24, .inl fm_reportPlace)), ((mr 5), .inl (km_reportMonth, 24, .inl fm_reportMonth)), ((mr 6), .inl (km_reportDay, 24, .inl fm_reportDay)), ((mr 3), .inl (km_reportKind, 24, .inl fm_reportKind)), ((mr 0), .inl (km_trust, 6, .inl fm_trust)), ((mr 1), .inl (km_letter, 36, .inl fm_letter))]) [0, 1, 2, 3, 4, 5, 6, 7, 8, 9, 10, 11, 12, 13, 14] rfl
      have hD := hD.sub (ws' := [(h0, .inr (12, fsMM (upd (upd mi 37 y_712) 41 y_713) mr)), ((mr 14), .inl (km_must, 25, .inl f_714)), ((mr 15), .inl (km_least, 25, .inl f_715)), ((mr 16), .inl (km_pin, 25, .inl f_716)), ((mr 17), .inl (km_ways, 6875, .inl f_717)), ((mr 18), .inl (km_verdict, 24, .inl f_718)), ((mr 19), .inl (km_row, 24, .inl f_719)), ((mr 4), .inl (km_struck, 24, .inl fm_struck)), ((mr 7), .inl (km_reportKnown, 24, .inl fm_reportKnown)), ((mr 2), .inl (km_reportPlace, 24, .inl fm_reportPlace)), ((mr 5), .inl (km_reportMonth, 24, .inl fm_reportMonth)), ((mr 6), .inl (km_reportDay, 24, .inl fm_reportDay)), ((mr 3), .inl (km_reportKind, 24, .inl fm_reportKind)), ((mr 0), .inl (km_trust, 6, .inl fm_trust)), ((mr 1), .inl (km_letter, 36, .inl fm_letter))]) [0, 1, 2, 3, 4, 5, 6, 7, 8, 9, 10, 11, 12, 13, 14] (by decide) rfl
      generalize H1 = H at hP hS ⊢
      refine lv_aload_n hx hb dX12_rank_34 rfl (lv_at hl 0 rfl) ?_
      have hPc := hP.sub (ws' := [(h0, .inr (12, fsMM (upd (upd mi 37 y_712) 41 y_713) mr)), ((mr 14), .inl (km_must, 25, .inl f_714)), ((mr 15), .inl (km_least, 25, .inl f_715)), ((mr 16), .inl (km_pin, 25, .inl f_716)), ((mr 17), .inl (km_ways, 6875, .inl f_717))]) [0, 1, 2, 3, 4] rfl
      have hKc := hK.sub (tys' := [(km_must, .int), (km_least, .int), (km_pin, .int), (km_ways, .int)]) [0, 1, 2, 3] rfl
      have hDc := hD.sub (ws' := [(h0, .inr (12, fsMM (upd (upd mi 37 y_712) 41 y_713) mr)), ((mr 14), .inl (km_must, 25, .inl f_714)), ((mr 15), .inl (km_least, 25, .inl f_715)), ((mr 16), .inl (km_pin, 25, .inl f_716)), ((mr 17), .inl (km_ways, 6875, .inl f_717))]) [0, 1, 2, 3, 4] (by decide) rfl
      have hFc := va_free (wc := [(h0, .inr (12, fsMM (upd (upd mi 37 y_712) 41 y_713) mr)), ((mr 14), .inl (km_must, 25, .inl f_714)), ((mr 15), .inl (km_least, 25, .inl f_715)), ((mr 16), .inl (km_pin, 25, .inl f_716)), ((mr 17), .inl (km_ways, 6875, .inl f_717))]) hD hS hA [0, 1, 2, 3, 4] rfl
      refine va_calli (va_runV (As := []) (rest := []) ⟨hx, hb, hml, hown, hts⟩ (sX12_counts l dC dI H.size h0 (upd (upd mi 37 y_712) 41 y_713) mr km_must f_714 km_least f_715 km_pin f_716 km_ways f_717 gmi_0 gmi_1 gmi_2 gmi_4 gmi_7 gmi_10 gmi_17 gmi_23 gmi_24 gmi_26 gmi_29 gmi_30 gmi_33 gy_712 gy_713 gmi_50 gmi_51 gmi_56) (cwV 0 hts (gz_gV mGB_299 mGB_300 mGB_301 mGB_1 mGB_302 goodGB) rfl rfl rfl (by decide +kernel) ⟨Nat.le_of_ble_eq_true rfl, Nat.le_of_ble_eq_true rfl⟩) ⟨fun a U g mk q => by obtain ⟨q0, q1, qP, qK, qD⟩ := q; exact ⟨q0, q1, qP, va_K.moved (u := U) (U := U.calling g mk a) (Vm.Alike.refl U.vm) qK, qD⟩, va_recv hKc hPc (ci := 12) (q0 := 0) rfl rfl, fun U hU hW => ⟨rfl, by rw [hU], by rw [hU]; exact hPc, va_K.moved hW.alike hKc, hDc.weaken (fun _ _ _ _ => trivial)⟩⟩ rfl rfl hl.1 rfl (lv_room (Nat.le_of_ble_eq_true rfl)) dX12_rank_35 ⟨Nat.zero_le _, Nat.zero_le _⟩) hS (fun q _ h => hFc q h) hFc (fun r_720 u t H1 locs ht hvm hw hB hz1 hk1 hS => ?_)
      obtain ⟨f_721, hP1, hD1⟩ := hB
      rw [ht] at hP1
      obtain ⟨hP, hD⟩ := va_join (wr := [((mr 18), .inl (km_verdict, 24, .inl f_718)), ((mr 19), .inl (km_row, 24, .inl f_719)), ((mr 4), .inl (km_struck, 24, .inl fm_struck)), ((mr 7), .inl (km_reportKnown, 24, .inl fm_reportKnown)), ((mr 2), .inl (km_reportPlace, 24, .inl fm_reportPlace)), ((mr 5), .inl (km_reportMonth, 24, .inl fm_reportMonth)), ((mr 6), .inl (km_reportDay, 24, .inl fm_reportDay)), ((mr 3), .inl (km_reportKind, 24, .inl fm_reportKind)), ((mr 0), .inl (km_trust, 6, .inl fm_trust)), ((mr 1), .inl (km_letter, 36, .inl fm_letter))]) (w1 := [(h0, .inr (12, fsMM (upd (upd mi 37 y_712) 41 y_713) mr)), ((mr 14), .inl (km_must, 25, .inl f_714)), ((mr 15), .inl (km_least, 25, .inl f_715)), ((mr 16), .inl (km_pin, 25, .inl f_716)), ((mr 17), .inl (km_ways, 6875, .inl f_721))]) hP hD [0, 1, 2, 3, 4] [5, 6, 7, 8, 9, 10, 11, 12, 13, 14] rfl rfl (by decide) (by decide) hk1 hFc hP1 hD1
      have hP := hP.sub (ws' := [(h0, .inr (12, fsMM (upd (upd mi 37 y_712) 41 y_713) mr)), ((mr 14), .inl (km_must, 25, .inl f_714)), ((mr 15), .inl (km_least, 25, .inl f_715)), ((mr 16), .inl (km_pin, 25, .inl f_716)), ((mr 17), .inl (km_ways, 6875, .inl f_721)), ((mr 18), .inl (km_verdict, 24, .inl f_718)), ((mr 19), .inl (km_row, 24, .inl f_719)), ((mr 4), .inl (km_struck, 24, .inl fm_struck)), ((mr 7), .inl (km_reportKnown, 24, .inl fm_reportKnown)), ((mr 2), .inl (km_reportPlace, 24, .inl fm_reportPlace)), ((mr 5), .inl (km_reportMonth, 24, .inl fm_reportMonth)), ((mr 6), .inl (km_reportDay, 24, .inl fm_reportDay)), ((mr 3), .inl (km_reportKind, 24, .inl fm_reportKind)), ((mr 0), .inl (km_trust, 6, .inl fm_trust)), ((mr 1), .inl (km_letter, 36, .inl fm_letter))]) [10, 11, 12, 13, 14, 0, 1, 2, 3, 4, 5, 6, 7, 8, 9] rfl
      have hD := hD.sub (ws' := [(h0, .inr (12, fsMM (upd (upd mi 37 y_712) 41 y_713) mr)), ((mr 14), .inl (km_must, 25, .inl f_714)), ((mr 15), .inl (km_least, 25, .inl f_715)), ((mr 16), .inl (km_pin, 25, .inl f_716)), ((mr 17), .inl (km_ways, 6875, .inl f_721)), ((mr 18), .inl (km_verdict, 24, .inl f_718)), ((mr 19), .inl (km_row, 24, .inl f_719)), ((mr 4), .inl (km_struck, 24, .inl fm_struck)), ((mr 7), .inl (km_reportKnown, 24, .inl fm_reportKnown)), ((mr 2), .inl (km_reportPlace, 24, .inl fm_reportPlace)), ((mr 5), .inl (km_reportMonth, 24, .inl fm_reportMonth)), ((mr 6), .inl (km_reportDay, 24, .inl fm_reportDay)), ((mr 3), .inl (km_reportKind, 24, .inl fm_reportKind)), ((mr 0), .inl (km_trust, 6, .inl fm_trust)), ((mr 1), .inl (km_letter, 36, .inl fm_letter))]) [10, 11, 12, 13, 14, 0, 1, 2, 3, 4, 5, 6, 7, 8, 9] (by decide) rfl
      generalize H1 = H at hP hS ⊢
      refine lv_pop hx hb dX12_rank_38 rfl ?_
      refine lv_iconst (v := 0) hx hb dX12_rank_39 (by decide) ?_
      refine lv_istore_n (lv' := [(3, .int 0), (0, .ref h0), (1, .int p1), (2, .int p2)]) hx hb dX12_rank_40 rfl hl (by decide) rfl (fun ls hl => ?_)
      refine lv_iconst (v := 0) hx hb dX12_rank_41 (by decide) ?_
      refine lv_istore (lv' := [(4, .int 0), (3, .int 0), (0, .ref h0), (1, .int p1), (2, .int p2)]) hx hb dX12_rank_42 hl (by decide) rfl (fun ls hl => ?_)
      refine lv_iconst (v := 0) hx hb dX12_rank_44 (by decide) ?_
      refine lv_istore (lv' := [(5, .int 0), (4, .int 0), (3, .int 0), (0, .ref h0), (1, .int p1), (2, .int p2)]) hx hb dX12_rank_45 hl (by decide) rfl (fun ls hl => ?_)
      refine lv_iconst (v := 0) hx hb dX12_rank_47 (by decide) ?_
      refine lv_istore (lv' := [(6, .int 0), (5, .int 0), (4, .int 0), (3, .int 0), (0, .ref h0), (1, .int p1), (2, .int p2)]) hx hb dX12_rank_48 hl (by decide) rfl (fun ls hl => ?_)
      refine (lp_sX12_rank h0 mi mr km_must fm_must km_least fm_least km_pin fm_pin km_ways fm_ways km_verdict fm_verdict km_row fm_row km_struck fm_struck km_reportKnown fm_reportKnown km_reportPlace fm_reportPlace km_reportMonth fm_reportMonth km_reportDay fm_reportDay km_reportKind fm_reportKind km_trust fm_trust km_letter fm_letter p1 p2 gmi_0 gmi_1 gmi_2 gmi_4 gmi_7 gmi_10 gmi_17 gmi_23 gmi_24 gmi_26 gmi_29 gmi_30 gmi_33 gmi_37 gmi_41 gmi_50 gmi_51 gmi_56 gfm_row gfm_struck gfm_reportKnown gfm_reportPlace gfm_reportMonth gfm_reportDay hx hb hml hown hts hK hA (Nat.le_of_ble_eq_true rfl) (Nat.le_of_ble_eq_true rfl) (Nat.zero_le _) (Nat.zero_le _) (fun v w0_37 w0_41 z1 z2 z3 z4 z5 z6 H locs ls gv gw0_37 gw0_41 gz6 hP hD hS hl => ?_) (fun v w0_37 w0_41 z1 z2 z3 z4 z5 z6 H locs ls gw0_37 gw0_41 gz6 hP hD hS hl => ?_) (fun v w0_37 w0_41 z1 z2 z3 z4 z5 z6 H locs ls gv gw0_37 gw0_41 gz6 hP hD hS hl => ?_) 62) 0 0 0 0 y_712 y_713 f_714 f_715 f_716 f_721 f_718 f_719 _ _ _ g_702 g_710 (gi_w (gi_c 0 0 (by decide)) (by decide)) (gi_w (gi_c 0 0 (by decide)) (by decide)) (gi_w (gi_c 0 0 (by decide)) (by decide)) gy_712 gy_713 gf_719 (by have k0 : (0 : Int32).toInt = 0 := (by decide); have k0 : (0 : Int32).toInt = 0 := (by decide); omega) (by have k0 : (0 : Int32).toInt = 0 := (by decide); omega) hP hD hS (lv_sub hl [4, 5, 6, 3, 2, 1, 0] rfl)
      · skip
        exact W.iret (v := v) hx hb hr (fun t ht hW => ⟨⟨v, (), rfl, (gi_any v), w0_37, w0_41, z1, z2, z3, z4, z5, z6, gw0_37, gw0_41, gz6, by rw [ht]; exact hP, hD⟩, hS.F ht⟩) hS.2.2 dX12_rank_28
      · skip
        exact W.iret (v := v) hx hb hr (fun t ht hW => ⟨⟨v, (), rfl, (gi_any v), w0_37, w0_41, z1, z2, z3, z4, z5, z6, gw0_37, gw0_41, gz6, by rw [ht]; exact hP, hD⟩, hS.F ht⟩) hS.2.2 dX12_rank_132
      · skip
        exact W.iret (v := v) hx hb hr (fun t ht hW => ⟨⟨v, (), rfl, (gi_any v), w0_37, w0_41, z1, z2, z3, z4, z5, z6, gw0_37, gw0_41, gz6, by rw [ht]; exact hP, hD⟩, hS.F ht⟩) hS.2.2 dX12_rank_83
    · have g_722 : gi r_707 0 0 := gi_eq c_708 (gi_c 0 0 (by decide))
      refine lv_bipush (v := (-2)) hx hb dX12_rank_26 (by decide) ?_
      exact W.iret (v := (-2)) hx hb hr (fun t ht hW => ⟨⟨(-2), (), rfl, (gi_any (-2)), (mi 37), (mi 41), fm_must, fm_least, fm_pin, fm_ways, fm_verdict, fm_row, gmi_37, gmi_41, gfm_row, by rw [ht]; exact hP, hD⟩, hS.F ht⟩) hS.2.2 dX12_rank_28
theorem dJ6_bitCount_0f7a4_0 : decode cJ6_bitCount_0f7a4 0 = .ok (.iload_n 0, 1) := by decide +kernel
theorem dJ6_bitCount_0f7a4_1 : decode cJ6_bitCount_0f7a4 1 = .ok (.iload_n 0, 1) := by decide +kernel
theorem dJ6_bitCount_0f7a4_2 : decode cJ6_bitCount_0f7a4 2 = .ok (.iconst 1, 1) := by decide +kernel
theorem dJ6_bitCount_0f7a4_3 : decode cJ6_bitCount_0f7a4 3 = .ok (.iushr, 1) := by decide +kernel
theorem dJ6_bitCount_0f7a4_4 : decode cJ6_bitCount_0f7a4 4 = .ok (.ldc_w 265, 3) := by decide +kernel
theorem dJ6_bitCount_0f7a4_7 : decode cJ6_bitCount_0f7a4 7 = .ok (.iand, 1) := by decide +kernel
theorem dJ6_bitCount_0f7a4_8 : decode cJ6_bitCount_0f7a4 8 = .ok (.isub, 1) := by decide +kernel
theorem dJ6_bitCount_0f7a4_9 : decode cJ6_bitCount_0f7a4 9 = .ok (.istore_n 0, 1) := by decide +kernel
theorem dJ6_bitCount_0f7a4_10 : decode cJ6_bitCount_0f7a4 10 = .ok (.iload_n 0, 1) := by decide +kernel
theorem dJ6_bitCount_0f7a4_11 : decode cJ6_bitCount_0f7a4 11 = .ok (.ldc_w 266, 3) := by decide +kernel
theorem dJ6_bitCount_0f7a4_14 : decode cJ6_bitCount_0f7a4 14 = .ok (.iand, 1) := by decide +kernel
theorem dJ6_bitCount_0f7a4_15 : decode cJ6_bitCount_0f7a4 15 = .ok (.iload_n 0, 1) := by decide +kernel
theorem dJ6_bitCount_0f7a4_16 : decode cJ6_bitCount_0f7a4 16 = .ok (.iconst 2, 1) := by decide +kernel
theorem dJ6_bitCount_0f7a4_17 : decode cJ6_bitCount_0f7a4 17 = .ok (.iushr, 1) := by decide +kernel
theorem dJ6_bitCount_0f7a4_18 : decode cJ6_bitCount_0f7a4 18 = .ok (.ldc_w 266, 3) := by decide +kernel
theorem dJ6_bitCount_0f7a4_21 : decode cJ6_bitCount_0f7a4 21 = .ok (.iand, 1) := by decide +kernel
theorem dJ6_bitCount_0f7a4_22 : decode cJ6_bitCount_0f7a4 22 = .ok (.iadd, 1) := by decide +kernel
theorem dJ6_bitCount_0f7a4_23 : decode cJ6_bitCount_0f7a4 23 = .ok (.istore_n 0, 1) := by decide +kernel
theorem dJ6_bitCount_0f7a4_24 : decode cJ6_bitCount_0f7a4 24 = .ok (.iload_n 0, 1) := by decide +kernel
theorem dJ6_bitCount_0f7a4_25 : decode cJ6_bitCount_0f7a4 25 = .ok (.iload_n 0, 1) := by decide +kernel
theorem dJ6_bitCount_0f7a4_26 : decode cJ6_bitCount_0f7a4 26 = .ok (.iconst 4, 1) := by decide +kernel
theorem dJ6_bitCount_0f7a4_27 : decode cJ6_bitCount_0f7a4 27 = .ok (.iushr, 1) := by decide +kernel
theorem dJ6_bitCount_0f7a4_28 : decode cJ6_bitCount_0f7a4 28 = .ok (.iadd, 1) := by decide +kernel
theorem dJ6_bitCount_0f7a4_29 : decode cJ6_bitCount_0f7a4 29 = .ok (.ldc_w 267, 3) := by decide +kernel
theorem dJ6_bitCount_0f7a4_32 : decode cJ6_bitCount_0f7a4 32 = .ok (.iand, 1) := by decide +kernel
theorem dJ6_bitCount_0f7a4_33 : decode cJ6_bitCount_0f7a4 33 = .ok (.istore_n 0, 1) := by decide +kernel
theorem dJ6_bitCount_0f7a4_34 : decode cJ6_bitCount_0f7a4 34 = .ok (.iload_n 0, 1) := by decide +kernel
theorem dJ6_bitCount_0f7a4_35 : decode cJ6_bitCount_0f7a4 35 = .ok (.iload_n 0, 1) := by decide +kernel
theorem dJ6_bitCount_0f7a4_36 : decode cJ6_bitCount_0f7a4 36 = .ok (.bipush 8, 2) := by decide +kernel
theorem dJ6_bitCount_0f7a4_38 : decode cJ6_bitCount_0f7a4 38 = .ok (.iushr, 1) := by decide +kernel
theorem dJ6_bitCount_0f7a4_39 : decode cJ6_bitCount_0f7a4 39 = .ok (.iadd, 1) := by decide +kernel
theorem dJ6_bitCount_0f7a4_40 : decode cJ6_bitCount_0f7a4 40 = .ok (.istore_n 0, 1) := by decide +kernel
theorem dJ6_bitCount_0f7a4_41 : decode cJ6_bitCount_0f7a4 41 = .ok (.iload_n 0, 1) := by decide +kernel
theorem dJ6_bitCount_0f7a4_42 : decode cJ6_bitCount_0f7a4 42 = .ok (.iload_n 0, 1) := by decide +kernel
theorem dJ6_bitCount_0f7a4_43 : decode cJ6_bitCount_0f7a4 43 = .ok (.bipush 16, 2) := by decide +kernel
theorem dJ6_bitCount_0f7a4_45 : decode cJ6_bitCount_0f7a4 45 = .ok (.iushr, 1) := by decide +kernel
theorem dJ6_bitCount_0f7a4_46 : decode cJ6_bitCount_0f7a4 46 = .ok (.iadd, 1) := by decide +kernel
theorem dJ6_bitCount_0f7a4_47 : decode cJ6_bitCount_0f7a4 47 = .ok (.istore_n 0, 1) := by decide +kernel
theorem dJ6_bitCount_0f7a4_48 : decode cJ6_bitCount_0f7a4 48 = .ok (.iload_n 0, 1) := by decide +kernel
theorem dJ6_bitCount_0f7a4_49 : decode cJ6_bitCount_0f7a4 49 = .ok (.bipush 63, 2) := by decide +kernel
theorem dJ6_bitCount_0f7a4_51 : decode cJ6_bitCount_0f7a4 51 = .ok (.iand, 1) := by decide +kernel
theorem dJ6_bitCount_0f7a4_52 : decode cJ6_bitCount_0f7a4 52 = .ok (.ireturn, 1) := by decide +kernel
set_option maxHeartbeats 4000000 in
set_option maxRecDepth 100000 in
theorem sJ6_bitCountB (l : Launch) (dC : Nat → ClassId) (dI : Nat → Nat → Nat) (p0 : Int32)  : Met l yJ6_bitCount_0f7a4 (.code yJ6_bitCount_0f7a4 cJ6_bitCount_0f7a4 1 (some .int) :: wsGB) ({ frames := 0, cells := 0, slots := 0, locals := 0 }) (va_Pc [.int p0] (fun U => va_P (dC, dI) vwCl [] U.heap ∧ va_K (dC, dI) vwCl [] U)) (va_Qi (fun (r : Int32) (u : Unit) => gi r (-2147483648) 2147483647) (fun _ _ => True) (fun _ => False)) 0 0 (fun _ => False) := by
  refine Met.ofW (cc := cJ6_bitCount_0f7a4) (maxL := 1) (ret := (some .int)) (by decide) rfl ?_
  intro p e s m args below meth c s₁ B hml hv
  obtain ⟨rfl, hP, hK⟩ := hv
  have hx := B.exec
  have hb := B.bytes
  have hr := B.returns
  have hts := atoms_spec (ws := (.code yJ6_bitCount_0f7a4 cJ6_bitCount_0f7a4 1 (some .int) :: wsGB)) B.pre
  have hown : s.vm.findClass RJ6 = some m.cls := findClass_of_methodNamed B.named
  have hlocks := B.notSynchronized
  have hS : va_S (fun _ => False) s.heap s.heap [] := va_S.rf
  have hl := lv_entry ([.int p0]) (n := 1) (Nat.le_of_ble_eq_true rfl)
  rw [lg_entry_eq]
  generalize (lg_sl ([.int p0]) ++ List.replicate (1 - (lg_sl ([.int p0])).length) Slot.unset).toArray = ls at hl ⊢
  have hl : lv_has ls 1 [(0, .int p0)] := hl
  refine lv_iload_n hx hb dJ6_bitCount_0f7a4_0 rfl (lv_at hl 0 rfl) ?_
  refine lv_iload_n hx hb dJ6_bitCount_0f7a4_1 rfl (lv_at hl 0 rfl) ?_
  refine lv_iconst (v := 1) hx hb dJ6_bitCount_0f7a4_2 (by decide) ?_
  refine lv_iushr hx hb dJ6_bitCount_0f7a4_3 rfl ?_
  refine lv_topi (fun x_16 ex_16 => ?_)
  refine lv_ldcw (own := RJ6) (v := 1431655765) hx hb hown (hts _ (List.mem_cons_of_mem _ mGB_321)) dJ6_bitCount_0f7a4_4 ?_
  refine lv_iand hx hb dJ6_bitCount_0f7a4_7 ?_
  refine lv_topi (fun x_17 ex_17 => ?_)
  refine lv_isub hx hb dJ6_bitCount_0f7a4_8 ?_
  refine lv_topi (fun x_18 ex_18 => ?_)
  refine lv_istore_n (lv' := [(0, .int x_18)]) hx hb dJ6_bitCount_0f7a4_9 rfl hl (by decide) rfl (fun ls hl => ?_)
  refine lv_iload_n hx hb dJ6_bitCount_0f7a4_10 rfl (lv_at hl 0 rfl) ?_
  refine lv_ldcw (own := RJ6) (v := 858993459) hx hb hown (hts _ (List.mem_cons_of_mem _ mGB_322)) dJ6_bitCount_0f7a4_11 ?_
  refine lv_iand hx hb dJ6_bitCount_0f7a4_14 ?_
  refine lv_topi (fun x_19 ex_19 => ?_)
  refine lv_iload_n hx hb dJ6_bitCount_0f7a4_15 rfl (lv_at hl 0 rfl) ?_
  refine lv_iconst (v := 2) hx hb dJ6_bitCount_0f7a4_16 (by decide) ?_
  refine lv_iushr hx hb dJ6_bitCount_0f7a4_17 rfl ?_
  refine lv_topi (fun x_20 ex_20 => ?_)
  refine lv_ldcw (own := RJ6) (v := 858993459) hx hb hown (hts _ (List.mem_cons_of_mem _ mGB_322)) dJ6_bitCount_0f7a4_18 ?_
  refine lv_iand hx hb dJ6_bitCount_0f7a4_21 ?_
  refine lv_topi (fun x_21 ex_21 => ?_)
  refine lv_iadd hx hb dJ6_bitCount_0f7a4_22 ?_
  refine lv_topi (fun x_22 ex_22 => ?_)
  refine lv_istore_n (lv' := [(0, .int x_22)]) hx hb dJ6_bitCount_0f7a4_23 rfl hl (by decide) rfl (fun ls hl => ?_)
  refine lv_iload_n hx hb dJ6_bitCount_0f7a4_24 rfl (lv_at hl 0 rfl) ?_
  refine lv_iload_n hx hb dJ6_bitCount_0f7a4_25 rfl (lv_at hl 0 rfl) ?_
  refine lv_iconst (v := 4) hx hb dJ6_bitCount_0f7a4_26 (by decide) ?_
  refine lv_iushr hx hb dJ6_bitCount_0f7a4_27 rfl ?_
  refine lv_topi (fun x_23 ex_23 => ?_)
  refine lv_iadd hx hb dJ6_bitCount_0f7a4_28 ?_
  refine lv_topi (fun x_24 ex_24 => ?_)
  refine lv_ldcw (own := RJ6) (v := 252645135) hx hb hown (hts _ (List.mem_cons_of_mem _ mGB_323)) dJ6_bitCount_0f7a4_29 ?_
  refine lv_iand hx hb dJ6_bitCount_0f7a4_32 ?_
  refine lv_topi (fun x_25 ex_25 => ?_)
  refine lv_istore_n (lv' := [(0, .int x_25)]) hx hb dJ6_bitCount_0f7a4_33 rfl hl (by decide) rfl (fun ls hl => ?_)
  refine lv_iload_n hx hb dJ6_bitCount_0f7a4_34 rfl (lv_at hl 0 rfl) ?_
  refine lv_iload_n hx hb dJ6_bitCount_0f7a4_35 rfl (lv_at hl 0 rfl) ?_
  refine lv_bipush (v := 8) hx hb dJ6_bitCount_0f7a4_36 (by decide) ?_
  refine lv_iushr hx hb dJ6_bitCount_0f7a4_38 rfl ?_
  refine lv_topi (fun x_26 ex_26 => ?_)
  refine lv_iadd hx hb dJ6_bitCount_0f7a4_39 ?_
  refine lv_topi (fun x_27 ex_27 => ?_)
  refine lv_istore_n (lv' := [(0, .int x_27)]) hx hb dJ6_bitCount_0f7a4_40 rfl hl (by decide) rfl (fun ls hl => ?_)
  refine lv_iload_n hx hb dJ6_bitCount_0f7a4_41 rfl (lv_at hl 0 rfl) ?_
  refine lv_iload_n hx hb dJ6_bitCount_0f7a4_42 rfl (lv_at hl 0 rfl) ?_
  refine lv_bipush (v := 16) hx hb dJ6_bitCount_0f7a4_43 (by decide) ?_
  refine lv_iushr hx hb dJ6_bitCount_0f7a4_45 rfl ?_
  refine lv_topi (fun x_28 ex_28 => ?_)
  refine lv_iadd hx hb dJ6_bitCount_0f7a4_46 ?_
  refine lv_topi (fun x_29 ex_29 => ?_)
  refine lv_istore_n (lv' := [(0, .int x_29)]) hx hb dJ6_bitCount_0f7a4_47 rfl hl (by decide) rfl (fun ls hl => ?_)
  refine lv_iload_n hx hb dJ6_bitCount_0f7a4_48 rfl (lv_at hl 0 rfl) ?_
  refine lv_bipush (v := 63) hx hb dJ6_bitCount_0f7a4_49 (by decide) ?_
  refine lv_iand hx hb dJ6_bitCount_0f7a4_51 ?_
  refine lv_topi (fun x_30 ex_30 => ?_)
  exact W.iret (v := x_30) hx hb hr (fun t ht hW => ⟨⟨x_30, (), rfl, (gi_any x_30), trivial⟩, hS.F ht⟩) hS.2.2 dJ6_bitCount_0f7a4_52
theorem dX12_taken_0 : decode cX12_taken 0 = .ok (.aload_n 0, 1) := by decide +kernel
theorem dX12_taken_1 : decode cX12_taken 1 = .ok (.iload_n 1, 1) := by decide +kernel
theorem dX12_taken_2 : decode cX12_taken 2 = .ok (.invokevirtual 359, 3) := by decide +kernel
theorem dX12_taken_5 : decode cX12_taken 5 = .ok (.ifCond .ne 6, 3) := by decide +kernel
theorem dX12_taken_8 : decode cX12_taken 8 = .ok (.bipush (-2), 2) := by decide +kernel
theorem dX12_taken_10 : decode cX12_taken 10 = .ok (.ireturn, 1) := by decide +kernel
theorem dX12_taken_11 : decode cX12_taken 11 = .ok (.aload_n 0, 1) := by decide +kernel
theorem dX12_taken_12 : decode cX12_taken 12 = .ok (.iload_n 1, 1) := by decide +kernel
theorem dX12_taken_13 : decode cX12_taken 13 = .ok (.invokevirtual 362, 3) := by decide +kernel
theorem dX12_taken_16 : decode cX12_taken 16 = .ok (.aload_n 0, 1) := by decide +kernel
theorem dX12_taken_17 : decode cX12_taken 17 = .ok (.invokevirtual 365, 3) := by decide +kernel
theorem dX12_taken_20 : decode cX12_taken 20 = .ok (.invokestatic 368, 3) := by decide +kernel
theorem dX12_taken_23 : decode cX12_taken 23 = .ok (.ireturn, 1) := by decide +kernel
set_option maxHeartbeats 4000000 in
set_option maxRecDepth 100000 in
theorem sX12_taken (l : Launch) (dC : Nat → ClassId) (dI : Nat → Nat → Nat) (sz : Nat) (h0 : Nat) (mi : Nat → Int32) (mr : Nat → Nat) (km_must : ClassId) (fm_must : Nat → Int32) (km_least : ClassId) (fm_least : Nat → Int32) (km_pin : ClassId) (fm_pin : Nat → Int32) (km_ways : ClassId) (fm_ways : Nat → Int32) (km_verdict : ClassId) (fm_verdict : Nat → Int32) (km_row : ClassId) (fm_row : Nat → Int32) (km_struck : ClassId) (fm_struck : Nat → Int32) (km_reportKnown : ClassId) (fm_reportKnown : Nat → Int32) (km_reportPlace : ClassId) (fm_reportPlace : Nat → Int32) (km_reportMonth : ClassId) (fm_reportMonth : Nat → Int32) (km_reportDay : ClassId) (fm_reportDay : Nat → Int32) (km_reportKind : ClassId) (fm_reportKind : Nat → Int32) (km_trust : ClassId) (fm_trust : Nat → Int32) (km_letter : ClassId) (fm_letter : Nat → Int32) (p1 : Int32) (gmi_0 : gi (mi 0) 0 24) (gmi_1 : gi (mi 1) 0 5) (gmi_2 : gi (mi 2) 0 5) (gmi_4 : gi (mi 4) 0 1) (gmi_7 : gi (mi 7) 0 6) (gmi_10 : gi (mi 10) 0 24) (gmi_17 : gi (mi 17) 0 8) (gmi_23 : gi (mi 23) 0 300) (gmi_24 : gi (mi 24) 0 1) (gmi_26 : gi (mi 26) 0 1600) (gmi_29 : gi (mi 29) 0 1600) (gmi_30 : gi (mi 30) 0 1600) (gmi_33 : gi (mi 33) 0 1) (gmi_37 : gi (mi 37) 0 1) (gmi_41 : gi (mi 41) 0 24) (gmi_50 : gi (mi 50) 0 1) (gmi_51 : gi (mi 51) 0 1) (gmi_56 : gi (mi 56) 0 80) (gfm_row : ga fm_row 24 0 23) (gfm_struck : ga fm_struck 24 0 1) (gfm_reportKnown : ga fm_reportKnown 24 0 999) (gfm_reportPlace : ga fm_reportPlace 24 0 5) (gfm_reportMonth : ga fm_reportMonth 24 0 23) (gfm_reportDay : ga fm_reportDay 24 0 999) : Met l yX12_taken (.code yX12_taken cX12_taken 2 (some .int) :: wsGB) ({ frames := 5, cells := 0, slots := 0, locals := 119 }) (va_Pc [.ref h0, .int p1] (fun U => U.heap.size = sz ∧ va_P (dC, dI) vwCl [(h0, .inr (12, fsMM mi mr)), ((mr 14), .inl (km_must, 25, .inl fm_must)), ((mr 15), .inl (km_least, 25, .inl fm_least)), ((mr 16), .inl (km_pin, 25, .inl fm_pin)), ((mr 17), .inl (km_ways, 6875, .inl fm_ways)), ((mr 18), .inl (km_verdict, 24, .inl fm_verdict)), ((mr 19), .inl (km_row, 24, .inl fm_row)), ((mr 4), .inl (km_struck, 24, .inl fm_struck)), ((mr 7), .inl (km_reportKnown, 24, .inl fm_reportKnown)), ((mr 2), .inl (km_reportPlace, 24, .inl fm_reportPlace)), ((mr 5), .inl (km_reportMonth, 24, .inl fm_reportMonth)), ((mr 6), .inl (km_reportDay, 24, .inl fm_reportDay)), ((mr 3), .inl (km_reportKind, 24, .inl fm_reportKind)), ((mr 0), .inl (km_trust, 6, .inl fm_trust)), ((mr 1), .inl (km_letter, 36, .inl fm_letter))] U.heap ∧ va_K (dC, dI) vwCl [(km_must, .int), (km_least, .int), (km_pin, .int), (km_ways, .int), (km_verdict, .int), (km_row, .int), (km_struck, .boolean), (km_reportKnown, .int), (km_reportPlace, .int), (km_reportMonth, .int), (km_reportDay, .int), (km_reportKind, .int), (km_trust, .int), (km_letter, .int)] U ∧ va_D (fun _ => True) [(h0, .inr (12, fsMM mi mr)), ((mr 14), .inl (km_must, 25, .inl fm_must)), ((mr 15), .inl (km_least, 25, .inl fm_least)), ((mr 16), .inl (km_pin, 25, .inl fm_pin)), ((mr 17), .inl (km_ways, 6875, .inl fm_ways)), ((mr 18), .inl (km_verdict, 24, .inl fm_verdict)), ((mr 19), .inl (km_row, 24, .inl fm_row)), ((mr 4), .inl (km_struck, 24, .inl fm_struck)), ((mr 7), .inl (km_reportKnown, 24, .inl fm_reportKnown)), ((mr 2), .inl (km_reportPlace, 24, .inl fm_reportPlace)), ((mr 5), .inl (km_reportMonth, 24, .inl fm_reportMonth)), ((mr 6), .inl (km_reportDay, 24, .inl fm_reportDay)), ((mr 3), .inl (km_reportKind, 24, .inl fm_reportKind)), ((mr 0), .inl (km_trust, 6, .inl fm_trust)), ((mr 1), .inl (km_letter, 36, .inl fm_letter))])) (va_Qi (fun (r : Int32) (u : Unit) => gi r (-2147483648) 2147483647) (fun _ t => ∃ (w0_37 : Int32) (w0_41 : Int32) (z1 : Nat → Int32) (z2 : Nat → Int32) (z3 : Nat → Int32) (z4 : Nat → Int32) (z5 : Nat → Int32) (z6 : Nat → Int32), gi w0_37 0 1 ∧ gi w0_41 0 24 ∧ ga z6 24 0 23 ∧ va_P (dC, dI) vwCl [(h0, .inr (12, fsMM (upd (upd mi 37 w0_37) 41 w0_41) mr)), ((mr 14), .inl (km_must, 25, .inl z1)), ((mr 15), .inl (km_least, 25, .inl z2)), ((mr 16), .inl (km_pin, 25, .inl z3)), ((mr 17), .inl (km_ways, 6875, .inl z4)), ((mr 18), .inl (km_verdict, 24, .inl z5)), ((mr 19), .inl (km_row, 24, .inl z6)), ((mr 4), .inl (km_struck, 24, .inl fm_struck)), ((mr 7), .inl (km_reportKnown, 24, .inl fm_reportKnown)), ((mr 2), .inl (km_reportPlace, 24, .inl fm_reportPlace)), ((mr 5), .inl (km_reportMonth, 24, .inl fm_reportMonth)), ((mr 6), .inl (km_reportDay, 24, .inl fm_reportDay)), ((mr 3), .inl (km_reportKind, 24, .inl fm_reportKind)), ((mr 0), .inl (km_trust, 6, .inl fm_trust)), ((mr 1), .inl (km_letter, 36, .inl fm_letter))] t.heap ∧ va_D (va_A [(h0, .inr (12, fsMM mi mr)), ((mr 14), .inl (km_must, 25, .inl fm_must)), ((mr 15), .inl (km_least, 25, .inl fm_least)), ((mr 16), .inl (km_pin, 25, .inl fm_pin)), ((mr 17), .inl (km_ways, 6875, .inl fm_ways)), ((mr 18), .inl (km_verdict, 24, .inl fm_verdict)), ((mr 19), .inl (km_row, 24, .inl fm_row)), ((mr 4), .inl (km_struck, 24, .inl fm_struck)), ((mr 7), .inl (km_reportKnown, 24, .inl fm_reportKnown)), ((mr 2), .inl (km_reportPlace, 24, .inl fm_reportPlace)), ((mr 5), .inl (km_reportMonth, 24, .inl fm_reportMonth)), ((mr 6), .inl (km_reportDay, 24, .inl fm_reportDay)), ((mr 3), .inl (km_reportKind, 24, .inl fm_reportKind)), ((mr 0), .inl (km_trust, 6, .inl fm_trust)), ((mr 1), .inl (km_letter, 36, .inl fm_letter))] sz) [(h0, .inr (12, fsMM (upd (upd mi 37 w0_37) 41 w0_41) mr)), ((mr 14), .inl (km_must, 25, .inl z1)), ((mr 15), .inl (km_least, 25, .inl z2)), ((mr 16), .inl (km_pin, 25, .inl z3)), ((mr 17), .inl (km_ways, 6875, .inl z4)), ((mr 18), .inl (km_verdict, 24, .inl z5)), ((mr 19), .inl (km_row, 24, .inl z6)), ((mr 4), .inl (km_struck, 24, .inl fm_struck)), ((mr 7), .inl (km_reportKnown, 24, .inl fm_reportKnown)), ((mr 2), .inl (km_reportPlace, 24, .inl fm_reportPlace)), ((mr 5), .inl (km_reportMonth, 24, .inl fm_reportMonth)), ((mr 6), .inl (km_reportDay, 24, .inl fm_reportDay)), ((mr 3), .inl (km_reportKind, 24, .inl fm_reportKind)), ((mr 0), .inl (km_trust, 6, .inl fm_trust)), ((mr 1), .inl (km_letter, 36, .inl fm_letter))]) (va_A [(h0, .inr (12, fsMM mi mr)), ((mr 14), .inl (km_must, 25, .inl fm_must)), ((mr 15), .inl (km_least, 25, .inl fm_least)), ((mr 16), .inl (km_pin, 25, .inl fm_pin)), ((mr 17), .inl (km_ways, 6875, .inl fm_ways)), ((mr 18), .inl (km_verdict, 24, .inl fm_verdict)), ((mr 19), .inl (km_row, 24, .inl fm_row)), ((mr 4), .inl (km_struck, 24, .inl fm_struck)), ((mr 7), .inl (km_reportKnown, 24, .inl fm_reportKnown)), ((mr 2), .inl (km_reportPlace, 24, .inl fm_reportPlace)), ((mr 5), .inl (km_reportMonth, 24, .inl fm_reportMonth)), ((mr 6), .inl (km_reportDay, 24, .inl fm_reportDay)), ((mr 3), .inl (km_reportKind, 24, .inl fm_reportKind)), ((mr 0), .inl (km_trust, 6, .inl fm_trust)), ((mr 1), .inl (km_letter, 36, .inl fm_letter))] sz)) 0 0 (va_A [(h0, .inr (12, fsMM mi mr)), ((mr 14), .inl (km_must, 25, .inl fm_must)), ((mr 15), .inl (km_least, 25, .inl fm_least)), ((mr 16), .inl (km_pin, 25, .inl fm_pin)), ((mr 17), .inl (km_ways, 6875, .inl fm_ways)), ((mr 18), .inl (km_verdict, 24, .inl fm_verdict)), ((mr 19), .inl (km_row, 24, .inl fm_row)), ((mr 4), .inl (km_struck, 24, .inl fm_struck)), ((mr 7), .inl (km_reportKnown, 24, .inl fm_reportKnown)), ((mr 2), .inl (km_reportPlace, 24, .inl fm_reportPlace)), ((mr 5), .inl (km_reportMonth, 24, .inl fm_reportMonth)), ((mr 6), .inl (km_reportDay, 24, .inl fm_reportDay)), ((mr 3), .inl (km_reportKind, 24, .inl fm_reportKind)), ((mr 0), .inl (km_trust, 6, .inl fm_trust)), ((mr 1), .inl (km_letter, 36, .inl fm_letter))] sz) := by
  refine Met.ofW (cc := cX12_taken) (maxL := 2) (ret := (some .int)) (by decide) rfl ?_
  intro p e s m args below meth c s₁ B hml hv
  obtain ⟨rfl, hsz, hP, hK, hD0⟩ := hv
  have hx := B.exec
  have hb := B.bytes
  have hr := B.returns
  have hts := atoms_spec (ws := (.code yX12_taken cX12_taken 2 (some .int) :: wsGB)) B.pre
  have hown : s.vm.findClass RX12 = some m.cls := findClass_of_methodNamed B.named
  have hlocks := B.notSynchronized
  subst hsz
  have hD := hD0.self (sz := s.heap.size)
  generalize hAe : va_A [(h0, .inr (12, fsMM mi mr)), ((mr 14), .inl (km_must, 25, .inl fm_must)), ((mr 15), .inl (km_least, 25, .inl fm_least)), ((mr 16), .inl (km_pin, 25, .inl fm_pin)), ((mr 17), .inl (km_ways, 6875, .inl fm_ways)), ((mr 18), .inl (km_verdict, 24, .inl fm_verdict)), ((mr 19), .inl (km_row, 24, .inl fm_row)), ((mr 4), .inl (km_struck, 24, .inl fm_struck)), ((mr 7), .inl (km_reportKnown, 24, .inl fm_reportKnown)), ((mr 2), .inl (km_reportPlace, 24, .inl fm_reportPlace)), ((mr 5), .inl (km_reportMonth, 24, .inl fm_reportMonth)), ((mr 6), .inl (km_reportDay, 24, .inl fm_reportDay)), ((mr 3), .inl (km_reportKind, 24, .inl fm_reportKind)), ((mr 0), .inl (km_trust, 6, .inl fm_trust)), ((mr 1), .inl (km_letter, 36, .inl fm_letter))] s.heap.size = A at hD ⊢
  have hA : ∀ q : Nat, s.heap.size ≤ q → A q := fun q h => by rw [← hAe]; exact Or.inr h
  have hS : va_S A s.heap s.heap [] := va_S.rf
  have hl := lv_entry ([.ref h0, .int p1]) (n := 2) (Nat.le_of_ble_eq_true rfl)
  rw [lg_entry_eq]
  generalize (lg_sl ([.ref h0, .int p1]) ++ List.replicate (2 - (lg_sl ([.ref h0, .int p1])).length) Slot.unset).toArray = ls at hl ⊢
  have hl : lv_has ls 2 [(0, .ref h0), (1, .int p1)] := hl
  refine lv_aload_n hx hb dX12_taken_0 rfl (lv_at hl 0 rfl) ?_
  refine lv_iload_n hx hb dX12_taken_1 rfl (lv_at hl 1 rfl) ?_
  have hPc := hP.sub (ws' := [(h0, .inr (12, fsMM mi mr))]) [0] rfl
  have hKc := hK.sub (tys' := []) [] rfl
  refine va_calli (va_runV (As := [.int p1]) (rest := []) ⟨hx, hb, hml, hown, hts⟩ (sX12_isTime l dC dI h0 mi mr p1 gmi_0 gmi_1 gmi_2 gmi_4 gmi_7 gmi_10 gmi_17 gmi_23 gmi_24 gmi_26 gmi_29 gmi_30 gmi_33 gmi_37 gmi_41 gmi_50 gmi_51 gmi_56) (cwV 1 hts (gz_gV mGB_256 mGB_257 mGB_258 mGB_1 mGB_259 goodGB) rfl rfl rfl (by decide +kernel) ⟨Nat.le_of_ble_eq_true rfl, Nat.le_of_ble_eq_true rfl⟩) ⟨fun a U g mk q => by obtain ⟨q0, qP, qK⟩ := q; exact ⟨q0, qP, va_K.moved (u := U) (U := U.calling g mk a) (Vm.Alike.refl U.vm) qK⟩, va_recv hKc hPc (ci := 12) (q0 := 0) rfl rfl, fun U hU hW => ⟨rfl, by rw [hU]; exact hPc, va_K.moved hW.alike hKc⟩⟩ rfl rfl hl.1 rfl (lv_room (Nat.le_of_ble_eq_true rfl)) dX12_taken_2 ⟨Nat.zero_le _, Nat.zero_le _⟩) hS (fun q _ h => h.elim) (fun q h => h.elim) (fun r_33 u t H1 locs ht hvm hw hB hz1 hk1 hS => ?_)
  have hP := gz_keep hP hk1
  generalize H1 = H at hP hS ⊢
  have gr_33 : gi r_33 0 1 := hw.1
  have hqr_33 := hw.2
  refine lv_if_ne (tgt := 11) hx hb dX12_taken_5 (by decide) (fun c_34 => ?_) (fun c_34 => ?_)
  · have g_35 : gi r_33 1 1 := gi_ne_lo c_34 gr_33 (gi_c 0 0 (by decide)) (by decide)
    have g_36 : gi p1 0 999 := gi_cap (gi_any p1) (hqr_33 (gz_one g_35)) (by decide)
    refine lv_aload_n hx hb dX12_taken_11 rfl (lv_at hl 0 rfl) ?_
    refine lv_iload_n hx hb dX12_taken_12 rfl (lv_at hl 1 rfl) ?_
    have hPc := hP.sub (ws' := [(h0, .inr (12, fsMM mi mr)), ((mr 14), .inl (km_must, 25, .inl fm_must)), ((mr 15), .inl (km_least, 25, .inl fm_least)), ((mr 16), .inl (km_pin, 25, .inl fm_pin)), ((mr 17), .inl (km_ways, 6875, .inl fm_ways)), ((mr 18), .inl (km_verdict, 24, .inl fm_verdict)), ((mr 19), .inl (km_row, 24, .inl fm_row)), ((mr 4), .inl (km_struck, 24, .inl fm_struck)), ((mr 7), .inl (km_reportKnown, 24, .inl fm_reportKnown)), ((mr 2), .inl (km_reportPlace, 24, .inl fm_reportPlace)), ((mr 5), .inl (km_reportMonth, 24, .inl fm_reportMonth)), ((mr 6), .inl (km_reportDay, 24, .inl fm_reportDay)), ((mr 3), .inl (km_reportKind, 24, .inl fm_reportKind)), ((mr 0), .inl (km_trust, 6, .inl fm_trust)), ((mr 1), .inl (km_letter, 36, .inl fm_letter))]) [0, 1, 2, 3, 4, 5, 6, 7, 8, 9, 10, 11, 12, 13, 14] rfl
    have hKc := hK.sub (tys' := [(km_must, .int), (km_least, .int), (km_pin, .int), (km_ways, .int), (km_verdict, .int), (km_row, .int), (km_struck, .boolean), (km_reportKnown, .int), (km_reportPlace, .int), (km_reportMonth, .int), (km_reportDay, .int), (km_reportKind, .int), (km_trust, .int), (km_letter, .int)]) [0, 1, 2, 3, 4, 5, 6, 7, 8, 9, 10, 11, 12, 13] rfl
    have hDc := hD.sub (ws' := [(h0, .inr (12, fsMM mi mr)), ((mr 14), .inl (km_must, 25, .inl fm_must)), ((mr 15), .inl (km_least, 25, .inl fm_least)), ((mr 16), .inl (km_pin, 25, .inl fm_pin)), ((mr 17), .inl (km_ways, 6875, .inl fm_ways)), ((mr 18), .inl (km_verdict, 24, .inl fm_verdict)), ((mr 19), .inl (km_row, 24, .inl fm_row)), ((mr 4), .inl (km_struck, 24, .inl fm_struck)), ((mr 7), .inl (km_reportKnown, 24, .inl fm_reportKnown)), ((mr 2), .inl (km_reportPlace, 24, .inl fm_reportPlace)), ((mr 5), .inl (km_reportMonth, 24, .inl fm_reportMonth)), ((mr 6), .inl (km_reportDay, 24, .inl fm_reportDay)), ((mr 3), .inl (km_reportKind, 24, .inl fm_reportKind)), ((mr 0), .inl (km_trust, 6, .inl fm_trust)), ((mr 1), .inl (km_letter, 36, .inl fm_letter))]) [0, 1, 2, 3, 4, 5, 6, 7, 8, 9, 10, 11, 12, 13, 14] (by decide) rfl
    have hFc := va_free (wc := [(h0, .inr (12, fsMM mi mr)), ((mr 14), .inl (km_must, 25, .inl fm_must)), ((mr 15), .inl (km_least, 25, .inl fm_least)), ((mr 16), .inl (km_pin, 25, .inl fm_pin)), ((mr 17), .inl (km_ways, 6875, .inl fm_ways)), ((mr 18), .inl (km_verdict, 24, .inl fm_verdict)), ((mr 19), .inl (km_row, 24, .inl fm_row)), ((mr 4), .inl (km_struck, 24, .inl fm_struck)), ((mr 7), .inl (km_reportKnown, 24, .inl fm_reportKnown)), ((mr 2), .inl (km_reportPlace, 24, .inl fm_reportPlace)), ((mr 5), .inl (km_reportMonth, 24, .inl fm_reportMonth)), ((mr 6), .inl (km_reportDay, 24, .inl fm_reportDay)), ((mr 3), .inl (km_reportKind, 24, .inl fm_reportKind)), ((mr 0), .inl (km_trust, 6, .inl fm_trust)), ((mr 1), .inl (km_letter, 36, .inl fm_letter))]) hD hS hA [0, 1, 2, 3, 4, 5, 6, 7, 8, 9, 10, 11, 12, 13, 14] rfl
    refine va_callv (va_runV (As := [.int p1]) (rest := []) ⟨hx, hb, hml, hown, hts⟩ (sX12_judgesAll l dC dI H.size h0 mi mr km_must fm_must km_least fm_least km_pin fm_pin km_ways fm_ways km_verdict fm_verdict km_row fm_row km_struck fm_struck km_reportKnown fm_reportKnown km_reportPlace fm_reportPlace km_reportMonth fm_reportMonth km_reportDay fm_reportDay km_reportKind fm_reportKind km_trust fm_trust km_letter fm_letter p1 gmi_0 gmi_1 gmi_2 gmi_4 gmi_7 gmi_10 gmi_17 gmi_23 gmi_24 gmi_26 gmi_29 gmi_30 gmi_33 gmi_37 gmi_41 gmi_50 gmi_51 gmi_56 gfm_row gfm_struck gfm_reportKnown gfm_reportPlace gfm_reportMonth gfm_reportDay) (cwV 1 hts (gz_gV mGB_261 mGB_262 mGB_263 mGB_1 mGB_264 goodGB) rfl rfl rfl (by decide +kernel) ⟨Nat.le_of_ble_eq_true rfl, Nat.le_of_ble_eq_true rfl⟩) ⟨fun a U g mk q => by obtain ⟨q0, q1, qP, qK, qD⟩ := q; exact ⟨q0, q1, qP, va_K.moved (u := U) (U := U.calling g mk a) (Vm.Alike.refl U.vm) qK, qD⟩, va_recv hKc hPc (ci := 12) (q0 := 0) rfl rfl, fun U hU hW => ⟨rfl, by rw [hU], by rw [hU]; exact hPc, va_K.moved hW.alike hKc, hDc.weaken (fun _ _ _ _ => trivial)⟩⟩ rfl rfl hl.1 rfl (lv_room (Nat.le_of_ble_eq_true rfl)) dX12_taken_13 ⟨Nat.zero_le _, Nat.zero_le _⟩) hS (fun q _ h => hFc q h) hFc (fun u t H1 locs ht hvm hw hB hz1 hk1 hS => ?_)
    obtain ⟨y_38, y_39, f_40, f_41, f_42, f_43, f_44, f_45, gy_38, gy_39, gf_45, hP1, hD1⟩ := hB
    rw [ht] at hP1
    obtain ⟨hP, hD⟩ := va_join (wr := []) (w1 := [(h0, .inr (12, fsMM (upd (upd mi 37 y_38) 41 y_39) mr)), ((mr 14), .inl (km_must, 25, .inl f_40)), ((mr 15), .inl (km_least, 25, .inl f_41)), ((mr 16), .inl (km_pin, 25, .inl f_42)), ((mr 17), .inl (km_ways, 6875, .inl f_43)), ((mr 18), .inl (km_verdict, 24, .inl f_44)), ((mr 19), .inl (km_row, 24, .inl f_45)), ((mr 4), .inl (km_struck, 24, .inl fm_struck)), ((mr 7), .inl (km_reportKnown, 24, .inl fm_reportKnown)), ((mr 2), .inl (km_reportPlace, 24, .inl fm_reportPlace)), ((mr 5), .inl (km_reportMonth, 24, .inl fm_reportMonth)), ((mr 6), .inl (km_reportDay, 24, .inl fm_reportDay)), ((mr 3), .inl (km_reportKind, 24, .inl fm_reportKind)), ((mr 0), .inl (km_trust, 6, .inl fm_trust)), ((mr 1), .inl (km_letter, 36, .inl fm_letter))]) hP hD [0, 1, 2, 3, 4, 5, 6, 7, 8, 9, 10, 11, 12, 13, 14] [] rfl rfl (by decide) (by decide) hk1 hFc hP1 hD1
    have hP := hP.sub (ws' := [(h0, .inr (12, fsMM (upd (upd mi 37 y_38) 41 y_39) mr)), ((mr 14), .inl (km_must, 25, .inl f_40)), ((mr 15), .inl (km_least, 25, .inl f_41)), ((mr 16), .inl (km_pin, 25, .inl f_42)), ((mr 17), .inl (km_ways, 6875, .inl f_43)), ((mr 18), .inl (km_verdict, 24, .inl f_44)), ((mr 19), .inl (km_row, 24, .inl f_45)), ((mr 4), .inl (km_struck, 24, .inl fm_struck)), ((mr 7), .inl (km_reportKnown, 24, .inl fm_reportKnown)), ((mr 2), .inl (km_reportPlace, 24, .inl fm_reportPlace)), ((mr 5), .inl (km_reportMonth, 24, .inl fm_reportMonth)), ((mr 6), .inl (km_reportDay, 24, .inl fm_reportDay)), ((mr 3), .inl (km_reportKind, 24, .inl fm_reportKind)), ((mr 0), .inl (km_trust, 6, .inl fm_trust)), ((mr 1), .inl (km_letter, 36, .inl fm_letter))]) [0, 1, 2, 3, 4, 5, 6, 7, 8, 9, 10, 11, 12, 13, 14] rfl
    have hD := hD.sub (ws' := [(h0, .inr (12, fsMM (upd (upd mi 37 y_38) 41 y_39) mr)), ((mr 14), .inl (km_must, 25, .inl f_40)), ((mr 15), .inl (km_least, 25, .inl f_41)), ((mr 16), .inl (km_pin, 25, .inl f_42)), ((mr 17), .inl (km_ways, 6875, .inl f_43)), ((mr 18), .inl (km_verdict, 24, .inl f_44)), ((mr 19), .inl (km_row, 24, .inl f_45)), ((mr 4), .inl (km_struck, 24, .inl fm_struck)), ((mr 7), .inl (km_reportKnown, 24, .inl fm_reportKnown)), ((mr 2), .inl (km_reportPlace, 24, .inl fm_reportPlace)), ((mr 5), .inl (km_reportMonth, 24, .inl fm_reportMonth)), ((mr 6), .inl (km_reportDay, 24, .inl fm_reportDay)), ((mr 3), .inl (km_reportKind, 24, .inl fm_reportKind)), ((mr 0), .inl (km_trust, 6, .inl fm_trust)), ((mr 1), .inl (km_letter, 36, .inl fm_letter))]) [0, 1, 2, 3, 4, 5, 6, 7, 8, 9, 10, 11, 12, 13, 14] (by decide) rfl
    generalize H1 = H at hP hS ⊢
    refine lv_aload_n hx hb dX12_taken_16 rfl (lv_at hl 0 rfl) ?_
    have hPc := hP.sub (ws' := [(h0, .inr (12, fsMM (upd (upd mi 37 y_38) 41 y_39) mr)), ((mr 18), .inl (km_verdict, 24, .inl f_44))]) [0, 5] rfl
    have hKc := hK.sub (tys' := [(km_verdict, .int)]) [4] rfl
    refine va_calli (va_runV (As := []) (rest := []) ⟨hx, hb, hml, hown, hts⟩ (sX12_takenBits l dC dI h0 (upd (upd mi 37 y_38) 41 y_39) mr km_verdict f_44 gmi_0 gmi_1 gmi_2 gmi_4 gmi_7 gmi_10 gmi_17 gmi_23 gmi_24 gmi_26 gmi_29 gmi_30 gmi_33 gy_38 gy_39 gmi_50 gmi_51 gmi_56) (cwV 0 hts (gz_gV mGB_327 mGB_328 mGB_329 mGB_1 mGB_330 goodGB) rfl rfl rfl (by decide +kernel) ⟨Nat.le_of_ble_eq_true rfl, Nat.le_of_ble_eq_true rfl⟩) ⟨fun a U g mk q => by obtain ⟨q0, qP, qK⟩ := q; exact ⟨q0, qP, va_K.moved (u := U) (U := U.calling g mk a) (Vm.Alike.refl U.vm) qK⟩, va_recv hKc hPc (ci := 12) (q0 := 0) rfl rfl, fun U hU hW => ⟨rfl, by rw [hU]; exact hPc, va_K.moved hW.alike hKc⟩⟩ rfl rfl hl.1 rfl (lv_room (Nat.le_of_ble_eq_true rfl)) dX12_taken_17 ⟨Nat.zero_le _, Nat.zero_le _⟩) hS (fun q _ h => h.elim) (fun q h => h.elim) (fun r_46 u t H1 locs ht hvm hw hB hz1 hk1 hS => ?_)
    have hP := gz_keep hP hk1
    generalize H1 = H at hP hS ⊢
    have hPc := hP.sub (ws' := []) [] rfl
    have hKc := hK.sub (tys' := []) [] rfl
    refine va_calli (va_runS (As := [.int r_46]) (rest := []) ⟨hx, hb, hml, hown, hts⟩ (sJ6_bitCountB l dC dI r_46) (⟨callB_of 1 hts (gz_gP mGB_320 goodGB) rfl rfl rfl (hts _ (List.mem_cons_of_mem _ mGB_319)) (hts _ (List.mem_cons_of_mem _ mGB_331)) (by decide +kernel) ⟨Nat.le_of_ble_eq_true rfl, Nat.le_of_ble_eq_true rfl⟩, (hts _ (List.mem_cons_of_mem _ mGB_318))⟩) ⟨fun a U g mk q => by obtain ⟨q0, qP, qK⟩ := q; exact ⟨q0, qP, va_K.moved (u := U) (U := U.calling g mk a) (Vm.Alike.refl U.vm) qK⟩, fun U hU hW => ⟨rfl, by rw [hU]; exact hPc, va_K.moved hW.alike hKc⟩⟩ rfl rfl hl.1 rfl (lv_room (Nat.le_of_ble_eq_true rfl)) dX12_taken_20 ⟨Nat.zero_le _, Nat.zero_le _⟩) hS (fun q _ h => h.elim) (fun q h => h.elim) (fun r_47 u t H1 locs ht hvm hw hB hz1 hk1 hS => ?_)
    have hP := gz_keep hP hk1
    generalize H1 = H at hP hS ⊢
    exact W.iret (v := r_47) hx hb hr (fun t ht hW => ⟨⟨r_47, (), rfl, (gi_any r_47), y_38, y_39, f_40, f_41, f_42, f_43, f_44, f_45, gy_38, gy_39, gf_45, by rw [ht]; exact hP, hD⟩, hS.F ht⟩) hS.2.2 dX12_taken_23
  · have g_48 : gi r_33 0 0 := gi_eq c_34 (gi_c 0 0 (by decide))
    refine lv_bipush (v := (-2)) hx hb dX12_taken_8 (by decide) ?_
    exact W.iret (v := (-2)) hx hb hr (fun t ht hW => ⟨⟨(-2), (), rfl, (gi_any (-2)), (mi 37), (mi 41), fm_must, fm_least, fm_pin, fm_ways, fm_verdict, fm_row, gmi_37, gmi_41, gfm_row, by rw [ht]; exact hP, hD⟩, hS.F ht⟩) hS.2.2 dX12_taken_10
theorem dX12_worthBy_0 : decode cX12_worthBy 0 = .ok (.aload_n 0, 1) := by decide +kernel
theorem dX12_worthBy_1 : decode cX12_worthBy 1 = .ok (.iload_n 3, 1) := by decide +kernel
theorem dX12_worthBy_2 : decode cX12_worthBy 2 = .ok (.iload 4, 2) := by decide +kernel
theorem dX12_worthBy_4 : decode cX12_worthBy 4 = .ok (.invokevirtual 318, 3) := by decide +kernel
theorem dX12_worthBy_7 : decode cX12_worthBy 7 = .ok (.istore 5, 2) := by decide +kernel
theorem dX12_worthBy_9 : decode cX12_worthBy 9 = .ok (.iload 5, 2) := by decide +kernel
theorem dX12_worthBy_11 : decode cX12_worthBy 11 = .ok (.iconst (-1), 1) := by decide +kernel
theorem dX12_worthBy_12 : decode cX12_worthBy 12 = .ok (.if_icmp .ne 9, 3) := by decide +kernel
theorem dX12_worthBy_15 : decode cX12_worthBy 15 = .ok (.ldc_w 468, 3) := by decide +kernel
theorem dX12_worthBy_18 : decode cX12_worthBy 18 = .ok (.goto 20, 3) := by decide +kernel
theorem dX12_worthBy_21 : decode cX12_worthBy 21 = .ok (.aload_n 0, 1) := by decide +kernel
theorem dX12_worthBy_22 : decode cX12_worthBy 22 = .ok (.getfield 93, 3) := by decide +kernel
theorem dX12_worthBy_25 : decode cX12_worthBy 25 = .ok (.iload_n 1, 1) := by decide +kernel
theorem dX12_worthBy_26 : decode cX12_worthBy 26 = .ok (.iconst 1, 1) := by decide +kernel
theorem dX12_worthBy_27 : decode cX12_worthBy 27 = .ok (.iadd, 1) := by decide +kernel
theorem dX12_worthBy_28 : decode cX12_worthBy 28 = .ok (.iload_n 2, 1) := by decide +kernel
theorem dX12_worthBy_29 : decode cX12_worthBy 29 = .ok (.iload 4, 2) := by decide +kernel
theorem dX12_worthBy_31 : decode cX12_worthBy 31 = .ok (.iadd, 1) := by decide +kernel
theorem dX12_worthBy_32 : decode cX12_worthBy 32 = .ok (.iload 5, 2) := by decide +kernel
theorem dX12_worthBy_34 : decode cX12_worthBy 34 = .ok (.invokestatic 321, 3) := by decide +kernel
theorem dX12_worthBy_37 : decode cX12_worthBy 37 = .ok (.iaload, 1) := by decide +kernel
theorem dX12_worthBy_38 : decode cX12_worthBy 38 = .ok (.ireturn, 1) := by decide +kernel
set_option maxHeartbeats 4000000 in
set_option maxRecDepth 100000 in
theorem sX12_worthBy (l : Launch) (dC : Nat → ClassId) (dI : Nat → Nat → Nat) (h0 : Nat) (mi : Nat → Int32) (mr : Nat → Nat) (km_worth : ClassId) (fm_worth : Nat → Int32) (p1 : Int32) (p2 : Int32) (p3 : Int32) (p4 : Int32) (gmi_0 : gi (mi 0) 0 24) (gmi_1 : gi (mi 1) 0 5) (gmi_2 : gi (mi 2) 0 5) (gmi_4 : gi (mi 4) 0 1) (gmi_7 : gi (mi 7) 0 6) (gmi_10 : gi (mi 10) 0 24) (gmi_17 : gi (mi 17) 0 8) (gmi_23 : gi (mi 23) 0 300) (gmi_24 : gi (mi 24) 0 1) (gmi_26 : gi (mi 26) 0 1600) (gmi_29 : gi (mi 29) 0 1600) (gmi_30 : gi (mi 30) 0 1600) (gmi_33 : gi (mi 33) 0 1) (gmi_37 : gi (mi 37) 0 1) (gmi_41 : gi (mi 41) 0 24) (gmi_50 : gi (mi 50) 0 1) (gmi_51 : gi (mi 51) 0 1) (gmi_56 : gi (mi 56) 0 80) (gp1 : gi p1 0 23) (gp2 : gi p2 0 23) (gp3 : gi p3 (-1) 10) (gp4 : gi p4 0 1) : Met l yX12_worthBy (.code yX12_worthBy cX12_worthBy 6 (some .int) :: wsGB) ({ frames := 1, cells := 0, slots := 0, locals := 23 }) (va_Pc [.ref h0, .int p1, .int p2, .int p3, .int p4] (fun U => va_P (dC, dI) vwCl [(h0, .inr (12, fsMM mi mr)), ((mr 22), .inl (km_worth, 6875, .inl fm_worth))] U.heap ∧ va_K (dC, dI) vwCl [(km_worth, .int)] U)) (va_Qi (fun (r : Int32) (u : Unit) => gi r (-2147483648) 2147483647) (fun _ _ => True) (fun _ => False)) 0 0 (fun _ => False) := by
  refine Met.ofW (cc := cX12_worthBy) (maxL := 6) (ret := (some .int)) (by decide) rfl ?_
  intro p e s m args below meth c s₁ B hml hv
  obtain ⟨rfl, hP, hK⟩ := hv
  have hx := B.exec
  have hb := B.bytes
  have hr := B.returns
  have hts := atoms_spec (ws := (.code yX12_worthBy cX12_worthBy 6 (some .int) :: wsGB)) B.pre
  have hown : s.vm.findClass RX12 = some m.cls := findClass_of_methodNamed B.named
  have hlocks := B.notSynchronized
  have hS : va_S (fun _ => False) s.heap s.heap [] := va_S.rf
  have hl := lv_entry ([.ref h0, .int p1, .int p2, .int p3, .int p4]) (n := 6) (Nat.le_of_ble_eq_true rfl)
  rw [lg_entry_eq]
  generalize (lg_sl ([.ref h0, .int p1, .int p2, .int p3, .int p4]) ++ List.replicate (6 - (lg_sl ([.ref h0, .int p1, .int p2, .int p3, .int p4])).length) Slot.unset).toArray = ls at hl ⊢
  have hl : lv_has ls 6 [(0, .ref h0), (1, .int p1), (2, .int p2), (3, .int p3), (4, .int p4)] := hl
  refine lv_aload_n hx hb dX12_worthBy_0 rfl (lv_at hl 0 rfl) ?_
  refine lv_iload_n hx hb dX12_worthBy_1 rfl (lv_at hl 3 rfl) ?_
  refine lv_iload hx hb dX12_worthBy_2 (lv_at hl 4 rfl) ?_
  have hPc := hP.sub (ws' := [(h0, .inr (12, fsMM mi mr))]) [0] rfl
  have hKc := hK.sub (tys' := []) [] rfl
  refine va_calli (va_runV (As := [.int p3, .int p4]) (rest := []) ⟨hx, hb, hml, hown, hts⟩ (sX12_runBehind l dC dI h0 mi mr p3 p4 gmi_0 gmi_1 gmi_2 gmi_4 gmi_7 gmi_10 gmi_17 gmi_23 gmi_24 gmi_26 gmi_29 gmi_30 gmi_33 gmi_37 gmi_41 gmi_50 gmi_51 gmi_56 gp3 gp4) (cwV 2 hts (gz_gV mGB_311 mGB_312 mGB_313 mGB_1 mGB_314 goodGB) rfl rfl rfl (by decide +kernel) ⟨Nat.le_of_ble_eq_true rfl, Nat.le_of_ble_eq_true rfl⟩) ⟨fun a U g mk q => by obtain ⟨q0, qP, qK⟩ := q; exact ⟨q0, qP, va_K.moved (u := U) (U := U.calling g mk a) (Vm.Alike.refl U.vm) qK⟩, va_recv hKc hPc (ci := 12) (q0 := 0) rfl rfl, fun U hU hW => ⟨rfl, by rw [hU]; exact hPc, va_K.moved hW.alike hKc⟩⟩ rfl rfl hl.1 rfl (lv_room (Nat.le_of_ble_eq_true rfl)) dX12_worthBy_4 ⟨Nat.zero_le _, Nat.zero_le _⟩) hS (fun q _ h => h.elim) (fun q h => h.elim) (fun r_9 u t H1 locs ht hvm hw hB hz1 hk1 hS => ?_)
  have hP := gz_keep hP hk1
  generalize H1 = H at hP hS ⊢
  have gr_9 : gi r_9 (-1) 10 := hw
  refine lv_istore (lv' := [(5, .int r_9), (0, .ref h0), (1, .int p1), (2, .int p2), (3, .int p3), (4, .int p4)]) hx hb dX12_worthBy_7 hl (by decide) rfl (fun ls hl => ?_)
  refine lv_iload hx hb dX12_worthBy_9 (lv_at hl 0 rfl) ?_
  refine lv_iconst (v := (-1)) hx hb dX12_worthBy_11 (by decide) ?_
  refine lv_icmp_ne (tgt := 21) hx hb dX12_worthBy_12 (by decide) (fun c_10 => ?_) (fun c_10 => ?_)
  · have g_11 : gi r_9 0 10 := gi_ne_lo c_10 gr_9 (gi_c (-1) (-1) (by decide)) (by decide)
    refine lv_aload_n hx hb dX12_worthBy_21 rfl (lv_at hl 1 rfl) ?_
    refine va_get (D := (dC, dI)) (ci := 12) (v := .ref (mr 22)) (C := RX12) (T := TX12) (N := 57) hx hb hts (fun w h => List.mem_cons_of_mem _ (jnGB_X12 w h)) hown hK hP 0 rfl rfl 53 (by decide) (hts _ (List.mem_cons_of_mem _ mGB_38)) (fun _ h9 => h9) rfl dX12_worthBy_22 ?_
    refine lv_iload_n hx hb dX12_worthBy_25 rfl (lv_at hl 2 rfl) ?_
    refine lv_iconst (v := 1) hx hb dX12_worthBy_26 (by decide) ?_
    refine lv_iadd hx hb dX12_worthBy_27 ?_
    refine lv_topi (fun x_12 ex_12 => ?_)
    have gx_12 : gi x_12 1 24 := gi_add ex_12 gp1 (gi_c 1 1 (by decide)) (by decide)
    refine lv_iload_n hx hb dX12_worthBy_28 rfl (lv_at hl 3 rfl) ?_
    refine lv_iload hx hb dX12_worthBy_29 (lv_at hl 5 rfl) ?_
    refine lv_iadd hx hb dX12_worthBy_31 ?_
    refine lv_topi (fun x_13 ex_13 => ?_)
    have gx_13 : gi x_13 0 24 := gi_add ex_13 gp2 gp4 (by decide)
    refine lv_iload hx hb dX12_worthBy_32 (lv_at hl 0 rfl) ?_
    have hPc := hP.sub (ws' := []) [] rfl
    have hKc := hK.sub (tys' := []) [] rfl
    refine va_calli (va_runS (As := [.int x_12, .int x_13, .int r_9]) (rest := [.ref (mr 22)]) ⟨hx, hb, hml, hown, hts⟩ (sX12_placeOf l dC dI x_12 x_13 r_9 (gi_w gx_12 (by decide)) gx_13 g_11) (cwS 3 hts (gz_gS mGB_315 mGB_316 mGB_1 mGB_317 goodGB) rfl rfl rfl (by decide +kernel) ⟨Nat.le_of_ble_eq_true rfl, Nat.le_of_ble_eq_true rfl⟩) ⟨fun a U g mk q => by obtain ⟨q0, qP, qK⟩ := q; exact ⟨q0, qP, va_K.moved (u := U) (U := U.calling g mk a) (Vm.Alike.refl U.vm) qK⟩, fun U hU hW => ⟨rfl, by rw [hU]; exact hPc, va_K.moved hW.alike hKc⟩⟩ rfl rfl hl.1 rfl (lv_room (Nat.le_of_ble_eq_true rfl)) dX12_worthBy_34 ⟨Nat.zero_le _, Nat.zero_le _⟩) hS (fun q _ h => h.elim) (fun q h => h.elim) (fun r_14 u t H1 locs ht hvm hw hB hz1 hk1 hS => ?_)
    have hP := gz_keep hP hk1
    generalize H1 = H at hP hS ⊢
    have gr_14 : gi r_14 0 6874 := hw
    refine va_iald hx hb hK hP 1 0 rfl rfl (gi_in gr_14 (by decide)) dX12_worthBy_37 ?_
    refine lv_topi (fun x_15 ex_15 => ?_)
    exact W.iret (v := x_15) hx hb hr (fun t ht hW => ⟨⟨x_15, (), rfl, (gi_any x_15), trivial⟩, hS.F ht⟩) hS.2.2 dX12_worthBy_38
  · have g_16 : gi r_9 (-1) (-1) := gi_eq c_10 (gi_c (-1) (-1) (by decide))
    refine lv_ldcw (own := RX12) (v := 100000000) hx hb hown (hts _ (List.mem_cons_of_mem _ mGB_557)) dX12_worthBy_15 ?_
    refine lv_goto (tgt := 38) hx hb dX12_worthBy_18 (by decide) ?_
    exact W.iret (v := 100000000) hx hb hr (fun t ht hW => ⟨⟨100000000, (), rfl, (gi_any 100000000), trivial⟩, hS.F ht⟩) hS.2.2 dX12_worthBy_38
theorem dX12_costOf_0 : decode cX12_costOf 0 = .ok (.iload_n 1, 1) := by decide +kernel
theorem dX12_costOf_1 : decode cX12_costOf 1 = .ok (.ifCond .ne 5, 3) := by decide +kernel
theorem dX12_costOf_4 : decode cX12_costOf 4 = .ok (.iconst 0, 1) := by decide +kernel
theorem dX12_costOf_5 : decode cX12_costOf 5 = .ok (.ireturn, 1) := by decide +kernel
theorem dX12_costOf_6 : decode cX12_costOf 6 = .ok (.iload 4, 2) := by decide +kernel
theorem dX12_costOf_8 : decode cX12_costOf 8 = .ok (.ifCond .eq 38, 3) := by decide +kernel
theorem dX12_costOf_11 : decode cX12_costOf 11 = .ok (.aload_n 0, 1) := by decide +kernel
theorem dX12_costOf_12 : decode cX12_costOf 12 = .ok (.getfield 312, 3) := by decide +kernel
theorem dX12_costOf_15 : decode cX12_costOf 15 = .ok (.ifCond .ne 12, 3) := by decide +kernel
theorem dX12_costOf_18 : decode cX12_costOf 18 = .ok (.aload_n 0, 1) := by decide +kernel
theorem dX12_costOf_19 : decode cX12_costOf 19 = .ok (.iload_n 1, 1) := by decide +kernel
theorem dX12_costOf_20 : decode cX12_costOf 20 = .ok (.iload_n 2, 1) := by decide +kernel
theorem dX12_costOf_21 : decode cX12_costOf 21 = .ok (.invokevirtual 325, 3) := by decide +kernel
theorem dX12_costOf_24 : decode cX12_costOf 24 = .ok (.ifCond .ne 9, 3) := by decide +kernel
theorem dX12_costOf_27 : decode cX12_costOf 27 = .ok (.ldc_w 468, 3) := by decide +kernel
theorem dX12_costOf_30 : decode cX12_costOf 30 = .ok (.goto 15, 3) := by decide +kernel
theorem dX12_costOf_33 : decode cX12_costOf 33 = .ok (.iload_n 2, 1) := by decide +kernel
theorem dX12_costOf_34 : decode cX12_costOf 34 = .ok (.aload_n 0, 1) := by decide +kernel
theorem dX12_costOf_35 : decode cX12_costOf 35 = .ok (.iload_n 1, 1) := by decide +kernel
theorem dX12_costOf_36 : decode cX12_costOf 36 = .ok (.invokevirtual 309, 3) := by decide +kernel
theorem dX12_costOf_39 : decode cX12_costOf 39 = .ok (.isub, 1) := by decide +kernel
theorem dX12_costOf_40 : decode cX12_costOf 40 = .ok (.iconst 1, 1) := by decide +kernel
theorem dX12_costOf_41 : decode cX12_costOf 41 = .ok (.isub, 1) := by decide +kernel
theorem dX12_costOf_42 : decode cX12_costOf 42 = .ok (.invokestatic 469, 3) := by decide +kernel
theorem dX12_costOf_45 : decode cX12_costOf 45 = .ok (.ireturn, 1) := by decide +kernel
theorem dX12_costOf_46 : decode cX12_costOf 46 = .ok (.iconst 0, 1) := by decide +kernel
theorem dX12_costOf_47 : decode cX12_costOf 47 = .ok (.istore 5, 2) := by decide +kernel
theorem dX12_costOf_49 : decode cX12_costOf 49 = .ok (.iconst 0, 1) := by decide +kernel
theorem dX12_costOf_50 : decode cX12_costOf 50 = .ok (.istore 6, 2) := by decide +kernel
theorem dX12_costOf_52 : decode cX12_costOf 52 = .ok (.iload 6, 2) := by decide +kernel
theorem dX12_costOf_54 : decode cX12_costOf 54 = .ok (.aload_n 0, 1) := by decide +kernel
theorem dX12_costOf_55 : decode cX12_costOf 55 = .ok (.getfield 141, 3) := by decide +kernel
theorem dX12_costOf_58 : decode cX12_costOf 58 = .ok (.if_icmp .ge 121, 3) := by decide +kernel
theorem dX12_costOf_61 : decode cX12_costOf 61 = .ok (.aload_n 0, 1) := by decide +kernel
theorem dX12_costOf_62 : decode cX12_costOf 62 = .ok (.getfield 26, 3) := by decide +kernel
theorem dX12_costOf_65 : decode cX12_costOf 65 = .ok (.iload 6, 2) := by decide +kernel
theorem dX12_costOf_67 : decode cX12_costOf 67 = .ok (.iaload, 1) := by decide +kernel
theorem dX12_costOf_68 : decode cX12_costOf 68 = .ok (.iload_n 1, 1) := by decide +kernel
theorem dX12_costOf_69 : decode cX12_costOf 69 = .ok (.if_icmp .ne 104, 3) := by decide +kernel
theorem dX12_costOf_72 : decode cX12_costOf 72 = .ok (.aload_n 0, 1) := by decide +kernel
theorem dX12_costOf_73 : decode cX12_costOf 73 = .ok (.iload 6, 2) := by decide +kernel
theorem dX12_costOf_75 : decode cX12_costOf 75 = .ok (.iload_n 3, 1) := by decide +kernel
theorem dX12_costOf_76 : decode cX12_costOf 76 = .ok (.invokevirtual 341, 3) := by decide +kernel
theorem dX12_costOf_79 : decode cX12_costOf 79 = .ok (.ifCond .eq 94, 3) := by decide +kernel
theorem dX12_costOf_82 : decode cX12_costOf 82 = .ok (.aload_n 0, 1) := by decide +kernel
theorem dX12_costOf_83 : decode cX12_costOf 83 = .ok (.getfield 19, 3) := by decide +kernel
theorem dX12_costOf_86 : decode cX12_costOf 86 = .ok (.iload 6, 2) := by decide +kernel
theorem dX12_costOf_88 : decode cX12_costOf 88 = .ok (.iaload, 1) := by decide +kernel
theorem dX12_costOf_89 : decode cX12_costOf 89 = .ok (.iconst 2, 1) := by decide +kernel
theorem dX12_costOf_90 : decode cX12_costOf 90 = .ok (.if_icmp .ne 6, 3) := by decide +kernel
theorem dX12_costOf_93 : decode cX12_costOf 93 = .ok (.goto 80, 3) := by decide +kernel
theorem dX12_costOf_96 : decode cX12_costOf 96 = .ok (.aload_n 0, 1) := by decide +kernel
theorem dX12_costOf_97 : decode cX12_costOf 97 = .ok (.getfield 19, 3) := by decide +kernel
theorem dX12_costOf_100 : decode cX12_costOf 100 = .ok (.iload 6, 2) := by decide +kernel
theorem dX12_costOf_102 : decode cX12_costOf 102 = .ok (.iaload, 1) := by decide +kernel
theorem dX12_costOf_103 : decode cX12_costOf 103 = .ok (.ifCond .ne 24, 3) := by decide +kernel
theorem dX12_costOf_106 : decode cX12_costOf 106 = .ok (.iload_n 2, 1) := by decide +kernel
theorem dX12_costOf_107 : decode cX12_costOf 107 = .ok (.aload_n 0, 1) := by decide +kernel
theorem dX12_costOf_108 : decode cX12_costOf 108 = .ok (.getfield 29, 3) := by decide +kernel
theorem dX12_costOf_111 : decode cX12_costOf 111 = .ok (.iload 6, 2) := by decide +kernel
theorem dX12_costOf_113 : decode cX12_costOf 113 = .ok (.iaload, 1) := by decide +kernel
theorem dX12_costOf_114 : decode cX12_costOf 114 = .ok (.iconst 1, 1) := by decide +kernel
theorem dX12_costOf_115 : decode cX12_costOf 115 = .ok (.iadd, 1) := by decide +kernel
theorem dX12_costOf_116 : decode cX12_costOf 116 = .ok (.if_icmp .ne 7, 3) := by decide +kernel
theorem dX12_costOf_119 : decode cX12_costOf 119 = .ok (.iconst 1, 1) := by decide +kernel
theorem dX12_costOf_120 : decode cX12_costOf 120 = .ok (.goto 25, 3) := by decide +kernel
theorem dX12_costOf_123 : decode cX12_costOf 123 = .ok (.iconst 0, 1) := by decide +kernel
theorem dX12_costOf_124 : decode cX12_costOf 124 = .ok (.goto 21, 3) := by decide +kernel
theorem dX12_costOf_127 : decode cX12_costOf 127 = .ok (.iload_n 2, 1) := by decide +kernel
theorem dX12_costOf_128 : decode cX12_costOf 128 = .ok (.aload_n 0, 1) := by decide +kernel
theorem dX12_costOf_129 : decode cX12_costOf 129 = .ok (.getfield 29, 3) := by decide +kernel
theorem dX12_costOf_132 : decode cX12_costOf 132 = .ok (.iload 6, 2) := by decide +kernel
theorem dX12_costOf_134 : decode cX12_costOf 134 = .ok (.iaload, 1) := by decide +kernel
theorem dX12_costOf_135 : decode cX12_costOf 135 = .ok (.iconst 1, 1) := by decide +kernel
theorem dX12_costOf_136 : decode cX12_costOf 136 = .ok (.iadd, 1) := by decide +kernel
theorem dX12_costOf_137 : decode cX12_costOf 137 = .ok (.if_icmp .le 7, 3) := by decide +kernel
theorem dX12_costOf_140 : decode cX12_costOf 140 = .ok (.iconst 1, 1) := by decide +kernel
theorem dX12_costOf_141 : decode cX12_costOf 141 = .ok (.goto 4, 3) := by decide +kernel
theorem dX12_costOf_144 : decode cX12_costOf 144 = .ok (.iconst 0, 1) := by decide +kernel
theorem dX12_costOf_145 : decode cX12_costOf 145 = .ok (.istore 7, 2) := by decide +kernel
theorem dX12_costOf_147 : decode cX12_costOf 147 = .ok (.iload 5, 2) := by decide +kernel
theorem dX12_costOf_149 : decode cX12_costOf 149 = .ok (.iload 7, 2) := by decide +kernel
theorem dX12_costOf_151 : decode cX12_costOf 151 = .ok (.ifCond .eq 7, 3) := by decide +kernel
theorem dX12_costOf_154 : decode cX12_costOf 154 = .ok (.iconst 0, 1) := by decide +kernel
theorem dX12_costOf_155 : decode cX12_costOf 155 = .ok (.goto 15, 3) := by decide +kernel
theorem dX12_costOf_158 : decode cX12_costOf 158 = .ok (.aload_n 0, 1) := by decide +kernel
theorem dX12_costOf_159 : decode cX12_costOf 159 = .ok (.getfield 7, 3) := by decide +kernel
theorem dX12_costOf_162 : decode cX12_costOf 162 = .ok (.aload_n 0, 1) := by decide +kernel
theorem dX12_costOf_163 : decode cX12_costOf 163 = .ok (.getfield 16, 3) := by decide +kernel
theorem dX12_costOf_166 : decode cX12_costOf 166 = .ok (.iload 6, 2) := by decide +kernel
theorem dX12_costOf_168 : decode cX12_costOf 168 = .ok (.iaload, 1) := by decide +kernel
theorem dX12_costOf_169 : decode cX12_costOf 169 = .ok (.iaload, 1) := by decide +kernel
theorem dX12_costOf_170 : decode cX12_costOf 170 = .ok (.iadd, 1) := by decide +kernel
theorem dX12_costOf_171 : decode cX12_costOf 171 = .ok (.istore 5, 2) := by decide +kernel
theorem dX12_costOf_173 : decode cX12_costOf 173 = .ok (.iinc 6 1, 3) := by decide +kernel
theorem dX12_costOf_176 : decode cX12_costOf 176 = .ok (.goto (-124), 3) := by decide +kernel
theorem dX12_costOf_179 : decode cX12_costOf 179 = .ok (.iload 5, 2) := by decide +kernel
theorem dX12_costOf_181 : decode cX12_costOf 181 = .ok (.ireturn, 1) := by decide +kernel
set_option maxHeartbeats 4000000 in
set_option maxRecDepth 100000 in
theorem lp_sX12_costOf {p : Program} {l : Launch} {e : Env} {R : Room} {s : State} {m : MethodId} {args : Array Value} {below : List Frame} {meth : Method} {c : Code} {Q : State → Prop} {A : Nat → Prop} {cells slots : Nat} {dC : Nat → ClassId} {dI : Nat → Nat → Nat} (h0 : Nat) (mi : Nat → Int32) (mr : Nat → Nat) (km_must : ClassId) (fm_must : Nat → Int32) (km_least : ClassId) (fm_least : Nat → Int32) (km_pin : ClassId) (fm_pin : Nat → Int32) (km_struck : ClassId) (fm_struck : Nat → Int32) (km_reportKnown : ClassId) (fm_reportKnown : Nat → Int32) (km_reportMonth : ClassId) (fm_reportMonth : Nat → Int32) (km_reportKind : ClassId) (fm_reportKind : Nat → Int32) (km_reportDay : ClassId) (fm_reportDay : Nat → Int32) (km_reportPlace : ClassId) (fm_reportPlace : Nat → Int32) (km_trust : ClassId) (fm_trust : Nat → Int32) (p1 : Int32) (p2 : Int32) (p3 : Int32) (p4 : Int32) (gmi_0 : gi (mi 0) 0 24) (gmi_1 : gi (mi 1) 0 5) (gmi_2 : gi (mi 2) 0 5) (gmi_4 : gi (mi 4) 0 1) (gmi_7 : gi (mi 7) 0 6) (gmi_10 : gi (mi 10) 0 24) (gmi_17 : gi (mi 17) 0 8) (gmi_23 : gi (mi 23) 0 300) (gmi_24 : gi (mi 24) 0 1) (gmi_26 : gi (mi 26) 0 1600) (gmi_29 : gi (mi 29) 0 1600) (gmi_30 : gi (mi 30) 0 1600) (gmi_33 : gi (mi 33) 0 1) (gmi_37 : gi (mi 37) 0 1) (gmi_41 : gi (mi 41) 0 24) (gmi_50 : gi (mi 50) 0 1) (gmi_51 : gi (mi 51) 0 1) (gmi_56 : gi (mi 56) 0 80) (gfm_struck : ga fm_struck 24 0 1) (gfm_reportKnown : ga fm_reportKnown 24 0 999) (gfm_reportMonth : ga fm_reportMonth 24 0 23) (gfm_reportDay : ga fm_reportDay 24 0 999) (gfm_reportPlace : ga fm_reportPlace 24 0 5) (gp1 : gi p1 0 24) (gp4 : gi p4 0 1) (hx : p.tables.exec = Jvm.exec) (hb : c.code = cX12_costOf) (hml : c.maxLocals = 8) (hown : s.vm.findClass RX12 = some m.cls) (hts : ∀ w ∈ ((.code yX12_costOf cX12_costOf 8 (some .int) :: wsGB) : List Cond), w.before args s = true) (hK : va_K (dC, dI) vwCl [(km_must, .int), (km_least, .int), (km_pin, .int), (km_struck, .boolean), (km_reportKnown, .int), (km_reportMonth, .int), (km_reportKind, .int), (km_reportDay, .int), (km_reportPlace, .int), (km_trust, .int)] s) (hRf : 1 ≤ R.frames) (hRl : 22 ≤ R.locals) (hRc : cells ≤ R.cells) (hRs : slots ≤ R.slots) (kr45 : ∀ (v : Int32) (H : Heap) (locs : List Loc) (ls : Array Slot), va_P (dC, dI) vwCl [(h0, .inr (12, fsMM mi mr)), ((mr 14), .inl (km_must, 25, .inl fm_must)), ((mr 15), .inl (km_least, 25, .inl fm_least)), ((mr 16), .inl (km_pin, 25, .inl fm_pin)), ((mr 4), .inl (km_struck, 24, .inl fm_struck)), ((mr 7), .inl (km_reportKnown, 24, .inl fm_reportKnown)), ((mr 5), .inl (km_reportMonth, 24, .inl fm_reportMonth)), ((mr 3), .inl (km_reportKind, 24, .inl fm_reportKind)), ((mr 6), .inl (km_reportDay, 24, .inl fm_reportDay)), ((mr 2), .inl (km_reportPlace, 24, .inl fm_reportPlace)), ((mr 0), .inl (km_trust, 6, .inl fm_trust))] H → va_S A s.heap H locs → lv_has ls 8 [] → W p l e R s m args below meth c H locs cells slots Q (F0 m 45 ls [.int v])) (kr5 : ∀ (v : Int32) (H : Heap) (locs : List Loc) (ls : Array Slot), gi v 0 0 → va_P (dC, dI) vwCl [(h0, .inr (12, fsMM mi mr)), ((mr 14), .inl (km_must, 25, .inl fm_must)), ((mr 15), .inl (km_least, 25, .inl fm_least)), ((mr 16), .inl (km_pin, 25, .inl fm_pin)), ((mr 4), .inl (km_struck, 24, .inl fm_struck)), ((mr 7), .inl (km_reportKnown, 24, .inl fm_reportKnown)), ((mr 5), .inl (km_reportMonth, 24, .inl fm_reportMonth)), ((mr 3), .inl (km_reportKind, 24, .inl fm_reportKind)), ((mr 6), .inl (km_reportDay, 24, .inl fm_reportDay)), ((mr 2), .inl (km_reportPlace, 24, .inl fm_reportPlace)), ((mr 0), .inl (km_trust, 6, .inl fm_trust))] H → va_S A s.heap H locs → lv_has ls 8 [] → W p l e R s m args below meth c H locs cells slots Q (F0 m 5 ls [.int v])) (kr181 : ∀ (v : Int32) (H : Heap) (locs : List Loc) (ls : Array Slot), va_P (dC, dI) vwCl [(h0, .inr (12, fsMM mi mr)), ((mr 14), .inl (km_must, 25, .inl fm_must)), ((mr 15), .inl (km_least, 25, .inl fm_least)), ((mr 16), .inl (km_pin, 25, .inl fm_pin)), ((mr 4), .inl (km_struck, 24, .inl fm_struck)), ((mr 7), .inl (km_reportKnown, 24, .inl fm_reportKnown)), ((mr 5), .inl (km_reportMonth, 24, .inl fm_reportMonth)), ((mr 3), .inl (km_reportKind, 24, .inl fm_reportKind)), ((mr 6), .inl (km_reportDay, 24, .inl fm_reportDay)), ((mr 2), .inl (km_reportPlace, 24, .inl fm_reportPlace)), ((mr 0), .inl (km_trust, 6, .inl fm_trust))] H → va_S A s.heap H locs → lv_has ls 8 [] → W p l e R s m args below meth c H locs cells slots Q (F0 m 181 ls [.int v])) : ∀ z : Nat, (∀ (v5 : Int32) (v6 : Int32) (H : Heap) (locs : List Loc) (ls : Array Slot), gi p1 1 24 → gi p4 0 0 → gi v6 0 24 → 49 + (-2) * v6.toInt < (z : Int) → va_P (dC, dI) vwCl [(h0, .inr (12, fsMM mi mr)), ((mr 14), .inl (km_must, 25, .inl fm_must)), ((mr 15), .inl (km_least, 25, .inl fm_least)), ((mr 16), .inl (km_pin, 25, .inl fm_pin)), ((mr 4), .inl (km_struck, 24, .inl fm_struck)), ((mr 7), .inl (km_reportKnown, 24, .inl fm_reportKnown)), ((mr 5), .inl (km_reportMonth, 24, .inl fm_reportMonth)), ((mr 3), .inl (km_reportKind, 24, .inl fm_reportKind)), ((mr 6), .inl (km_reportDay, 24, .inl fm_reportDay)), ((mr 2), .inl (km_reportPlace, 24, .inl fm_reportPlace)), ((mr 0), .inl (km_trust, 6, .inl fm_trust))] H → va_S A s.heap H locs → lv_has ls 8 [(0, .ref h0), (1, .int p1), (2, .int p2), (3, .int p3), (4, .int p4), (5, .int v5), (6, .int v6)] → W p l e R s m args below meth c H locs cells slots Q (F0 m 52 ls [])) := by
  intro z
  induction z with
  | zero =>
    intro v5 v6 H locs ls gf_p1 gf_p4 gv6 hmu hP hS hl
    exact absurd hmu (by have hv61 := gv6.1; have hv62 := gv6.2; omega)
  | succ z ih =>
      intro v5 v6 H locs ls gf_p1 gf_p4 gv6 hmu hP hS hl
      refine lv_iload hx hb dX12_costOf_52 (lv_at hl 6 rfl) ?_
      refine lv_aload_n hx hb dX12_costOf_54 rfl (lv_at hl 0 rfl) ?_
      refine va_get (D := (dC, dI)) (ci := 12) (v := .int (mi 10)) (C := RX12) (T := TX12) (N := 57) hx hb hts (fun w h => List.mem_cons_of_mem _ (jnGB_X12 w h)) hown hK hP 0 rfl rfl 10 (by decide) (hts _ (List.mem_cons_of_mem _ mGB_111)) (fun _ h9 => h9) rfl dX12_costOf_55 ?_
      refine lv_icmp_ge (tgt := 179) hx hb dX12_costOf_58 (by decide) (fun c_901 => ?_) (fun c_901 => ?_)
      · refine lv_iload hx hb dX12_costOf_179 (lv_at hl 5 rfl) ?_
        exact kr181 v5 _ _ _ hP hS (lv_sub hl [] rfl)
      · have g_902 : gi v6 0 23 := gi_lt_l (Int32.not_le.mp c_901) gv6 gmi_10 (by decide)
        have g_903 : gi (mi 10) 1 24 := gi_lt_r (Int32.not_le.mp c_901) gv6 gmi_10 (by decide)
        refine lv_aload_n hx hb dX12_costOf_61 rfl (lv_at hl 0 rfl) ?_
        refine va_get (D := (dC, dI)) (ci := 12) (v := .ref (mr 5)) (C := RX12) (T := TX12) (N := 57) hx hb hts (fun w h => List.mem_cons_of_mem _ (jnGB_X12 w h)) hown hK hP 0 rfl rfl 14 (by decide) (hts _ (List.mem_cons_of_mem _ mGB_16)) (fun _ h9 => h9) rfl dX12_costOf_62 ?_
        refine lv_iload hx hb dX12_costOf_65 (lv_at hl 6 rfl) ?_
        refine va_iald hx hb hK hP 6 5 rfl rfl (gi_in g_902 (by decide)) dX12_costOf_67 ?_
        refine lv_topi (fun x_904 ex_904 => ?_)
        have gx_904 : gi x_904 0 23 := ga_at gfm_reportMonth (gi_in g_902 (by decide)) ex_904
        refine lv_iload_n hx hb dX12_costOf_68 rfl (lv_at hl 1 rfl) ?_
        refine lv_icmp_ne (tgt := 173) hx hb dX12_costOf_69 (by decide) (fun c_905 => ?_) (fun c_905 => ?_)
        · obtain ⟨x_906, ex_906⟩ : ∃ y : Int32, y = v6 + 1 := ⟨_, rfl⟩
          have gx_906 : gi x_906 1 24 := gi_add ex_906 g_902 (gi_c 1 1 (by decide)) (by decide)
          refine lv_iinc (v := x_906) (lv' := [(6, .int x_906), (0, .ref h0), (1, .int p1), (2, .int p2), (3, .int p3), (4, .int p4), (5, .int v5)]) hx hb dX12_costOf_173 hl (k := 6) rfl (by rw [ex_906]; rfl) (by decide) rfl (fun ls hl => ?_)
          refine lv_goto (tgt := 52) hx hb dX12_costOf_176 (by decide) ?_
          exact ih v5 x_906 _ _ _ gf_p1 gf_p4 (gi_w gx_906 (by decide)) (by have av6 := gv6.1; have bv6 := gv6.2; have qgx_906 := gx_906.1; have rgx_906 := gx_906.2; have igx_906 : x_906.toInt = v6.toInt + 1 := (by have hc1 : (1 : Int32).toInt = 1 := (by decide); have h9 := gi_addI ex_906 (by have h1 := g_902.1; have h2 := (gi_c 1 1 (by decide)).1; have h3 := g_902.2; have h4 := (gi_c 1 1 (by decide)).2; omega) (by have h1 := g_902.1; have h2 := (gi_c 1 1 (by decide)).1; have h3 := g_902.2; have h4 := (gi_c 1 1 (by decide)).2; omega); rw [hc1] at h9; exact h9); have qgv6 := g_902.1; have rgv6 := g_902.2; omega) hP hS (lv_sub hl [1, 2, 3, 4, 5, 6, 0] rfl)
        · refine lv_aload_n hx hb dX12_costOf_72 rfl (lv_at hl 0 rfl) ?_
          refine lv_iload hx hb dX12_costOf_73 (lv_at hl 6 rfl) ?_
          refine lv_iload_n hx hb dX12_costOf_75 rfl (lv_at hl 3 rfl) ?_
          have hPc := hP.sub (ws' := [(h0, .inr (12, fsMM mi mr)), ((mr 4), .inl (km_struck, 24, .inl fm_struck)), ((mr 7), .inl (km_reportKnown, 24, .inl fm_reportKnown))]) [0, 4, 5] rfl
          have hKc := hK.sub (tys' := [(km_struck, .boolean), (km_reportKnown, .int)]) [3, 4] rfl
          refine va_calli (va_runV (As := [.int v6, .int p3]) (rest := []) ⟨hx, hb, hml, hown, hts⟩ (sX12_isKnown l dC dI h0 mi mr km_struck fm_struck km_reportKnown fm_reportKnown v6 p3 gmi_0 gmi_1 gmi_2 gmi_4 gmi_7 (gi_w g_903 (by decide)) gmi_17 gmi_23 gmi_24 gmi_26 gmi_29 gmi_30 gmi_33 gmi_37 gmi_41 gmi_50 gmi_51 gmi_56 gfm_struck gfm_reportKnown g_902) (cwV 2 hts (gz_gV mGB_279 mGB_280 mGB_281 mGB_1 mGB_282 goodGB) rfl rfl rfl (by decide +kernel) ⟨Nat.le_trans (Nat.le_of_ble_eq_true rfl) hRf, Nat.le_trans (Nat.le_of_ble_eq_true rfl) hRl⟩) ⟨fun a U g mk q => by obtain ⟨q0, qP, qK⟩ := q; exact ⟨q0, qP, va_K.moved (u := U) (U := U.calling g mk a) (Vm.Alike.refl U.vm) qK⟩, va_recv hKc hPc (ci := 12) (q0 := 0) rfl rfl, fun U hU hW => ⟨rfl, by rw [hU]; exact hPc, va_K.moved hW.alike hKc⟩⟩ rfl rfl hl.1 rfl (lv_room (Nat.le_of_ble_eq_true rfl)) dX12_costOf_76 ⟨hRc, hRs⟩) hS (fun q _ h => h.elim) (fun q h => h.elim) (fun r_907 u t H1 locs ht hvm hw hB hz1 hk1 hS => ?_)
          have hP := gz_keep hP hk1
          generalize H1 = H at hP hS ⊢
          have gr_907 : gi r_907 0 1 := hw
          refine lv_if_eq (tgt := 173) hx hb dX12_costOf_79 (by decide) (fun c_908 => ?_) (fun c_908 => ?_)
          · have g_909 : gi r_907 0 0 := gi_eq c_908 (gi_c 0 0 (by decide))
            obtain ⟨x_910, ex_910⟩ : ∃ y : Int32, y = v6 + 1 := ⟨_, rfl⟩
            have gx_910 : gi x_910 1 24 := gi_add ex_910 g_902 (gi_c 1 1 (by decide)) (by decide)
            refine lv_iinc (v := x_910) (lv' := [(6, .int x_910), (0, .ref h0), (1, .int p1), (2, .int p2), (3, .int p3), (4, .int p4), (5, .int v5)]) hx hb dX12_costOf_173 hl (k := 6) rfl (by rw [ex_910]; rfl) (by decide) rfl (fun ls hl => ?_)
            refine lv_goto (tgt := 52) hx hb dX12_costOf_176 (by decide) ?_
            exact ih v5 x_910 _ _ _ gf_p1 gf_p4 (gi_w gx_910 (by decide)) (by have av6 := gv6.1; have bv6 := gv6.2; have qgx_910 := gx_910.1; have rgx_910 := gx_910.2; have igx_910 : x_910.toInt = v6.toInt + 1 := (by have hc1 : (1 : Int32).toInt = 1 := (by decide); have h9 := gi_addI ex_910 (by have h1 := g_902.1; have h2 := (gi_c 1 1 (by decide)).1; have h3 := g_902.2; have h4 := (gi_c 1 1 (by decide)).2; omega) (by have h1 := g_902.1; have h2 := (gi_c 1 1 (by decide)).1; have h3 := g_902.2; have h4 := (gi_c 1 1 (by decide)).2; omega); rw [hc1] at h9; exact h9); have qgv6 := g_902.1; have rgv6 := g_902.2; omega) hP hS (lv_sub hl [1, 2, 3, 4, 5, 6, 0] rfl)
          · have g_911 : gi r_907 1 1 := gi_ne_lo c_908 gr_907 (gi_c 0 0 (by decide)) (by decide)
            refine lv_aload_n hx hb dX12_costOf_82 rfl (lv_at hl 0 rfl) ?_
            refine va_get (D := (dC, dI)) (ci := 12) (v := .ref (mr 3)) (C := RX12) (T := TX12) (N := 57) hx hb hts (fun w h => List.mem_cons_of_mem _ (jnGB_X12 w h)) hown hK hP 0 rfl rfl 12 (by decide) (hts _ (List.mem_cons_of_mem _ mGB_13)) (fun _ h9 => h9) rfl dX12_costOf_83 ?_
            refine lv_iload hx hb dX12_costOf_86 (lv_at hl 6 rfl) ?_
            refine va_iald hx hb hK hP 7 6 rfl rfl (gi_in g_902 (by decide)) dX12_costOf_88 ?_
            refine lv_topi (fun x_912 ex_912 => ?_)
            refine lv_iconst (v := 2) hx hb dX12_costOf_89 (by decide) ?_
            refine lv_icmp_ne (tgt := 96) hx hb dX12_costOf_90 (by decide) (fun c_913 => ?_) (fun c_913 => ?_)
            · refine lv_aload_n hx hb dX12_costOf_96 rfl (lv_at hl 0 rfl) ?_
              refine va_get (D := (dC, dI)) (ci := 12) (v := .ref (mr 3)) (C := RX12) (T := TX12) (N := 57) hx hb hts (fun w h => List.mem_cons_of_mem _ (jnGB_X12 w h)) hown hK hP 0 rfl rfl 12 (by decide) (hts _ (List.mem_cons_of_mem _ mGB_13)) (fun _ h9 => h9) rfl dX12_costOf_97 ?_
              refine lv_iload hx hb dX12_costOf_100 (lv_at hl 6 rfl) ?_
              refine va_iald hx hb hK hP 7 6 rfl rfl (gi_in g_902 (by decide)) dX12_costOf_102 ?_
              refine lv_topi (fun x_914 ex_914 => ?_)
              refine lv_if_ne (tgt := 127) hx hb dX12_costOf_103 (by decide) (fun c_915 => ?_) (fun c_915 => ?_)
              · refine lv_iload_n hx hb dX12_costOf_127 rfl (lv_at hl 2 rfl) ?_
                refine lv_aload_n hx hb dX12_costOf_128 rfl (lv_at hl 0 rfl) ?_
                refine va_get (D := (dC, dI)) (ci := 12) (v := .ref (mr 6)) (C := RX12) (T := TX12) (N := 57) hx hb hts (fun w h => List.mem_cons_of_mem _ (jnGB_X12 w h)) hown hK hP 0 rfl rfl 15 (by decide) (hts _ (List.mem_cons_of_mem _ mGB_17)) (fun _ h9 => h9) rfl dX12_costOf_129 ?_
                refine lv_iload hx hb dX12_costOf_132 (lv_at hl 6 rfl) ?_
                refine va_iald hx hb hK hP 8 7 rfl rfl (gi_in g_902 (by decide)) dX12_costOf_134 ?_
                refine lv_topi (fun x_916 ex_916 => ?_)
                have gx_916 : gi x_916 0 999 := ga_at gfm_reportDay (gi_in g_902 (by decide)) ex_916
                refine lv_iconst (v := 1) hx hb dX12_costOf_135 (by decide) ?_
                refine lv_iadd hx hb dX12_costOf_136 ?_
                refine lv_topi (fun x_917 ex_917 => ?_)
                have gx_917 : gi x_917 1 1000 := gi_add ex_917 gx_916 (gi_c 1 1 (by decide)) (by decide)
                refine lv_icmp_le (tgt := 144) hx hb dX12_costOf_137 (by decide) (fun c_918 => ?_) (fun c_918 => ?_)
                · have g_919 : gi p2 (-2147483648) 1000 := gi_le_l c_918 (gi_any p2) gx_917
                  refine lv_iconst (v := 0) hx hb dX12_costOf_144 (by decide) ?_
                  refine lv_istore (lv' := [(7, .int 0), (0, .ref h0), (1, .int p1), (2, .int p2), (3, .int p3), (4, .int p4), (5, .int v5), (6, .int v6)]) hx hb dX12_costOf_145 hl (by decide) rfl (fun ls hl => ?_)
                  refine lv_iload hx hb dX12_costOf_147 (lv_at hl 6 rfl) ?_
                  refine lv_iload hx hb dX12_costOf_149 (lv_at hl 0 rfl) ?_
                  refine lv_if_eq (tgt := 158) hx hb dX12_costOf_151 (by decide) (fun c_920 => ?_) (fun c_920 => absurd (gi_is_eq (gi_c 0 0 (by decide)) (gi_c 0 0 (by decide))) c_920)
                  refine lv_aload_n hx hb dX12_costOf_158 rfl (lv_at hl 1 rfl) ?_
                  refine va_get (D := (dC, dI)) (ci := 12) (v := .ref (mr 0)) (C := RX12) (T := TX12) (N := 57) hx hb hts (fun w h => List.mem_cons_of_mem _ (jnGB_X12 w h)) hown hK hP 0 rfl rfl 8 (by decide) (hts _ (List.mem_cons_of_mem _ mGB_10)) (fun _ h9 => h9) rfl dX12_costOf_159 ?_
                  refine lv_aload_n hx hb dX12_costOf_162 rfl (lv_at hl 1 rfl) ?_
                  refine va_get (D := (dC, dI)) (ci := 12) (v := .ref (mr 2)) (C := RX12) (T := TX12) (N := 57) hx hb hts (fun w h => List.mem_cons_of_mem _ (jnGB_X12 w h)) hown hK hP 0 rfl rfl 11 (by decide) (hts _ (List.mem_cons_of_mem _ mGB_12)) (fun _ h9 => h9) rfl dX12_costOf_163 ?_
                  refine lv_iload hx hb dX12_costOf_166 (lv_at hl 7 rfl) ?_
                  refine va_iald hx hb hK hP 9 8 rfl rfl (gi_in g_902 (by decide)) dX12_costOf_168 ?_
                  refine lv_topi (fun x_921 ex_921 => ?_)
                  have gx_921 : gi x_921 0 5 := ga_at gfm_reportPlace (gi_in g_902 (by decide)) ex_921
                  refine va_iald hx hb hK hP 10 9 rfl rfl (gi_in gx_921 (by decide)) dX12_costOf_169 ?_
                  refine lv_topi (fun x_922 ex_922 => ?_)
                  refine lv_iadd hx hb dX12_costOf_170 ?_
                  refine lv_topi (fun x_923 ex_923 => ?_)
                  refine lv_istore (lv' := [(5, .int x_923), (7, .int 0), (0, .ref h0), (1, .int p1), (2, .int p2), (3, .int p3), (4, .int p4), (6, .int v6)]) hx hb dX12_costOf_171 hl (by decide) rfl (fun ls hl => ?_)
                  obtain ⟨x_924, ex_924⟩ : ∃ y : Int32, y = v6 + 1 := ⟨_, rfl⟩
                  have gx_924 : gi x_924 1 24 := gi_add ex_924 g_902 (gi_c 1 1 (by decide)) (by decide)
                  refine lv_iinc (v := x_924) (lv' := [(6, .int x_924), (5, .int x_923), (7, .int 0), (0, .ref h0), (1, .int p1), (2, .int p2), (3, .int p3), (4, .int p4)]) hx hb dX12_costOf_173 hl (k := 7) rfl (by rw [ex_924]; rfl) (by decide) rfl (fun ls hl => ?_)
                  refine lv_goto (tgt := 52) hx hb dX12_costOf_176 (by decide) ?_
                  exact ih x_923 x_924 _ _ _ gf_p1 gf_p4 (gi_w gx_924 (by decide)) (by have av6 := gv6.1; have bv6 := gv6.2; have qgx_924 := gx_924.1; have rgx_924 := gx_924.2; have igx_924 : x_924.toInt = v6.toInt + 1 := (by have hc1 : (1 : Int32).toInt = 1 := (by decide); have h9 := gi_addI ex_924 (by have h1 := g_902.1; have h2 := (gi_c 1 1 (by decide)).1; have h3 := g_902.2; have h4 := (gi_c 1 1 (by decide)).2; omega) (by have h1 := g_902.1; have h2 := (gi_c 1 1 (by decide)).1; have h3 := g_902.2; have h4 := (gi_c 1 1 (by decide)).2; omega); rw [hc1] at h9; exact h9); have qgv6 := g_902.1; have rgv6 := g_902.2; omega) hP hS (lv_sub hl [3, 4, 5, 6, 7, 1, 0] rfl)
                · have g_925 : gi p2 2 2147483647 := gi_lt_r (Int32.not_le.mp c_918) gx_917 (gi_any p2) (by decide)
                  refine lv_iconst (v := 1) hx hb dX12_costOf_140 (by decide) ?_
                  refine lv_goto (tgt := 145) hx hb dX12_costOf_141 (by decide) ?_
                  refine lv_istore (lv' := [(7, .int 1), (0, .ref h0), (1, .int p1), (2, .int p2), (3, .int p3), (4, .int p4), (5, .int v5), (6, .int v6)]) hx hb dX12_costOf_145 hl (by decide) rfl (fun ls hl => ?_)
                  refine lv_iload hx hb dX12_costOf_147 (lv_at hl 6 rfl) ?_
                  refine lv_iload hx hb dX12_costOf_149 (lv_at hl 0 rfl) ?_
                  refine lv_if_eq (tgt := 158) hx hb dX12_costOf_151 (by decide) (fun c_926 => absurd c_926 (gi_no_eq (gi_c 1 1 (by decide)) (gi_c 0 0 (by decide)) (by decide))) (fun c_926 => ?_)
                  refine lv_iconst (v := 0) hx hb dX12_costOf_154 (by decide) ?_
                  refine lv_goto (tgt := 170) hx hb dX12_costOf_155 (by decide) ?_
                  refine lv_iadd hx hb dX12_costOf_170 ?_
                  refine lv_topi (fun x_927 ex_927 => ?_)
                  refine lv_istore (lv' := [(5, .int x_927), (7, .int 1), (0, .ref h0), (1, .int p1), (2, .int p2), (3, .int p3), (4, .int p4), (6, .int v6)]) hx hb dX12_costOf_171 hl (by decide) rfl (fun ls hl => ?_)
                  obtain ⟨x_928, ex_928⟩ : ∃ y : Int32, y = v6 + 1 := ⟨_, rfl⟩
                  have gx_928 : gi x_928 1 24 := gi_add ex_928 g_902 (gi_c 1 1 (by decide)) (by decide)
                  refine lv_iinc (v := x_928) (lv' := [(6, .int x_928), (5, .int x_927), (7, .int 1), (0, .ref h0), (1, .int p1), (2, .int p2), (3, .int p3), (4, .int p4)]) hx hb dX12_costOf_173 hl (k := 7) rfl (by rw [ex_928]; rfl) (by decide) rfl (fun ls hl => ?_)
                  refine lv_goto (tgt := 52) hx hb dX12_costOf_176 (by decide) ?_
                  exact ih x_927 x_928 _ _ _ gf_p1 gf_p4 (gi_w gx_928 (by decide)) (by have av6 := gv6.1; have bv6 := gv6.2; have qgx_928 := gx_928.1; have rgx_928 := gx_928.2; have igx_928 : x_928.toInt = v6.toInt + 1 := (by have hc1 : (1 : Int32).toInt = 1 := (by decide); have h9 := gi_addI ex_928 (by have h1 := g_902.1; have h2 := (gi_c 1 1 (by decide)).1; have h3 := g_902.2; have h4 := (gi_c 1 1 (by decide)).2; omega) (by have h1 := g_902.1; have h2 := (gi_c 1 1 (by decide)).1; have h3 := g_902.2; have h4 := (gi_c 1 1 (by decide)).2; omega); rw [hc1] at h9; exact h9); have qgv6 := g_902.1; have rgv6 := g_902.2; omega) hP hS (lv_sub hl [3, 4, 5, 6, 7, 1, 0] rfl)
              · have g_929 : gi x_914 0 0 := gi_eq c_915 (gi_c 0 0 (by decide))
                refine lv_iload_n hx hb dX12_costOf_106 rfl (lv_at hl 2 rfl) ?_
                refine lv_aload_n hx hb dX12_costOf_107 rfl (lv_at hl 0 rfl) ?_
                refine va_get (D := (dC, dI)) (ci := 12) (v := .ref (mr 6)) (C := RX12) (T := TX12) (N := 57) hx hb hts (fun w h => List.mem_cons_of_mem _ (jnGB_X12 w h)) hown hK hP 0 rfl rfl 15 (by decide) (hts _ (List.mem_cons_of_mem _ mGB_17)) (fun _ h9 => h9) rfl dX12_costOf_108 ?_
                refine lv_iload hx hb dX12_costOf_111 (lv_at hl 6 rfl) ?_
                refine va_iald hx hb hK hP 8 7 rfl rfl (gi_in g_902 (by decide)) dX12_costOf_113 ?_
                refine lv_topi (fun x_930 ex_930 => ?_)
                have gx_930 : gi x_930 0 999 := ga_at gfm_reportDay (gi_in g_902 (by decide)) ex_930
                refine lv_iconst (v := 1) hx hb dX12_costOf_114 (by decide) ?_
                refine lv_iadd hx hb dX12_costOf_115 ?_
                refine lv_topi (fun x_931 ex_931 => ?_)
                have gx_931 : gi x_931 1 1000 := gi_add ex_931 gx_930 (gi_c 1 1 (by decide)) (by decide)
                refine lv_icmp_ne (tgt := 123) hx hb dX12_costOf_116 (by decide) (fun c_932 => ?_) (fun c_932 => ?_)
                · refine lv_iconst (v := 0) hx hb dX12_costOf_123 (by decide) ?_
                  refine lv_goto (tgt := 145) hx hb dX12_costOf_124 (by decide) ?_
                  refine lv_istore (lv' := [(7, .int 0), (0, .ref h0), (1, .int p1), (2, .int p2), (3, .int p3), (4, .int p4), (5, .int v5), (6, .int v6)]) hx hb dX12_costOf_145 hl (by decide) rfl (fun ls hl => ?_)
                  refine lv_iload hx hb dX12_costOf_147 (lv_at hl 6 rfl) ?_
                  refine lv_iload hx hb dX12_costOf_149 (lv_at hl 0 rfl) ?_
                  refine lv_if_eq (tgt := 158) hx hb dX12_costOf_151 (by decide) (fun c_933 => ?_) (fun c_933 => absurd (gi_is_eq (gi_c 0 0 (by decide)) (gi_c 0 0 (by decide))) c_933)
                  refine lv_aload_n hx hb dX12_costOf_158 rfl (lv_at hl 1 rfl) ?_
                  refine va_get (D := (dC, dI)) (ci := 12) (v := .ref (mr 0)) (C := RX12) (T := TX12) (N := 57) hx hb hts (fun w h => List.mem_cons_of_mem _ (jnGB_X12 w h)) hown hK hP 0 rfl rfl 8 (by decide) (hts _ (List.mem_cons_of_mem _ mGB_10)) (fun _ h9 => h9) rfl dX12_costOf_159 ?_
                  refine lv_aload_n hx hb dX12_costOf_162 rfl (lv_at hl 1 rfl) ?_
                  refine va_get (D := (dC, dI)) (ci := 12) (v := .ref (mr 2)) (C := RX12) (T := TX12) (N := 57) hx hb hts (fun w h => List.mem_cons_of_mem _ (jnGB_X12 w h)) hown hK hP 0 rfl rfl 11 (by decide) (hts _ (List.mem_cons_of_mem _ mGB_12)) (fun _ h9 => h9) rfl dX12_costOf_163 ?_
                  refine lv_iload hx hb dX12_costOf_166 (lv_at hl 7 rfl) ?_
                  refine va_iald hx hb hK hP 9 8 rfl rfl (gi_in g_902 (by decide)) dX12_costOf_168 ?_
                  refine lv_topi (fun x_934 ex_934 => ?_)
                  have gx_934 : gi x_934 0 5 := ga_at gfm_reportPlace (gi_in g_902 (by decide)) ex_934
                  refine va_iald hx hb hK hP 10 9 rfl rfl (gi_in gx_934 (by decide)) dX12_costOf_169 ?_
                  refine lv_topi (fun x_935 ex_935 => ?_)
                  refine lv_iadd hx hb dX12_costOf_170 ?_
                  refine lv_topi (fun x_936 ex_936 => ?_)
                  refine lv_istore (lv' := [(5, .int x_936), (7, .int 0), (0, .ref h0), (1, .int p1), (2, .int p2), (3, .int p3), (4, .int p4), (6, .int v6)]) hx hb dX12_costOf_171 hl (by decide) rfl (fun ls hl => ?_)
                  obtain ⟨x_937, ex_937⟩ : ∃ y : Int32, y = v6 + 1 := ⟨_, rfl⟩
                  have gx_937 : gi x_937 1 24 := gi_add ex_937 g_902 (gi_c 1 1 (by decide)) (by decide)
                  refine lv_iinc (v := x_937) (lv' := [(6, .int x_937), (5, .int x_936), (7, .int 0), (0, .ref h0), (1, .int p1), (2, .int p2), (3, .int p3), (4, .int p4)]) hx hb dX12_costOf_173 hl (k := 7) rfl (by rw [ex_937]; rfl) (by decide) rfl (fun ls hl => ?_)
                  refine lv_goto (tgt := 52) hx hb dX12_costOf_176 (by decide) ?_
                  exact ih x_936 x_937 _ _ _ gf_p1 gf_p4 (gi_w gx_937 (by decide)) (by have av6 := gv6.1; have bv6 := gv6.2; have qgx_937 := gx_937.1; have rgx_937 := gx_937.2; have igx_937 : x_937.toInt = v6.toInt + 1 := (by have hc1 : (1 : Int32).toInt = 1 := (by decide); have h9 := gi_addI ex_937 (by have h1 := g_902.1; have h2 := (gi_c 1 1 (by decide)).1; have h3 := g_902.2; have h4 := (gi_c 1 1 (by decide)).2; omega) (by have h1 := g_902.1; have h2 := (gi_c 1 1 (by decide)).1; have h3 := g_902.2; have h4 := (gi_c 1 1 (by decide)).2; omega); rw [hc1] at h9; exact h9); have qgv6 := g_902.1; have rgv6 := g_902.2; omega) hP hS (lv_sub hl [3, 4, 5, 6, 7, 1, 0] rfl)
                · have g_938 : gi p2 1 1000 := gi_eq c_932 gx_931
                  refine lv_iconst (v := 1) hx hb dX12_costOf_119 (by decide) ?_
                  refine lv_goto (tgt := 145) hx hb dX12_costOf_120 (by decide) ?_
                  refine lv_istore (lv' := [(7, .int 1), (0, .ref h0), (1, .int p1), (2, .int p2), (3, .int p3), (4, .int p4), (5, .int v5), (6, .int v6)]) hx hb dX12_costOf_145 hl (by decide) rfl (fun ls hl => ?_)
                  refine lv_iload hx hb dX12_costOf_147 (lv_at hl 6 rfl) ?_
                  refine lv_iload hx hb dX12_costOf_149 (lv_at hl 0 rfl) ?_
                  refine lv_if_eq (tgt := 158) hx hb dX12_costOf_151 (by decide) (fun c_939 => absurd c_939 (gi_no_eq (gi_c 1 1 (by decide)) (gi_c 0 0 (by decide)) (by decide))) (fun c_939 => ?_)
                  refine lv_iconst (v := 0) hx hb dX12_costOf_154 (by decide) ?_
                  refine lv_goto (tgt := 170) hx hb dX12_costOf_155 (by decide) ?_
                  refine lv_iadd hx hb dX12_costOf_170 ?_
                  refine lv_topi (fun x_940 ex_940 => ?_)
                  refine lv_istore (lv' := [(5, .int x_940), (7, .int 1), (0, .ref h0), (1, .int p1), (2, .int p2), (3, .int p3), (4, .int p4), (6, .int v6)]) hx hb dX12_costOf_171 hl (by decide) rfl (fun ls hl => ?_)
                  obtain ⟨x_941, ex_941⟩ : ∃ y : Int32, y = v6 + 1 := ⟨_, rfl⟩
                  have gx_941 : gi x_941 1 24 := gi_add ex_941 g_902 (gi_c 1 1 (by decide)) (by decide)
                  refine lv_iinc (v := x_941) (lv' := [(6, .int x_941), (5, .int x_940), (7, .int 1), (0, .ref h0), (1, .int p1), (2, .int p2), (3, .int p3), (4, .int p4)]) hx hb dX12_costOf_173 hl (k := 7) rfl (by rw [ex_941]; rfl) (by decide) rfl (fun ls hl => ?_)
                  refine lv_goto (tgt := 52) hx hb dX12_costOf_176 (by decide) ?_
                  exact ih x_940 x_941 _ _ _ gf_p1 gf_p4 (gi_w gx_941 (by decide)) (by have av6 := gv6.1; have bv6 := gv6.2; have qgx_941 := gx_941.1; have rgx_941 := gx_941.2; have igx_941 : x_941.toInt = v6.toInt + 1 := (by have hc1 : (1 : Int32).toInt = 1 := (by decide); have h9 := gi_addI ex_941 (by have h1 := g_902.1; have h2 := (gi_c 1 1 (by decide)).1; have h3 := g_902.2; have h4 := (gi_c 1 1 (by decide)).2; omega) (by have h1 := g_902.1; have h2 := (gi_c 1 1 (by decide)).1; have h3 := g_902.2; have h4 := (gi_c 1 1 (by decide)).2; omega); rw [hc1] at h9; exact h9); have qgv6 := g_902.1; have rgv6 := g_902.2; omega) hP hS (lv_sub hl [3, 4, 5, 6, 7, 1, 0] rfl)
            · have g_942 : gi x_912 2 2 := gi_eq c_913 (gi_c 2 2 (by decide))
              refine lv_goto (tgt := 173) hx hb dX12_costOf_93 (by decide) ?_
              obtain ⟨x_943, ex_943⟩ : ∃ y : Int32, y = v6 + 1 := ⟨_, rfl⟩
              have gx_943 : gi x_943 1 24 := gi_add ex_943 g_902 (gi_c 1 1 (by decide)) (by decide)
              refine lv_iinc (v := x_943) (lv' := [(6, .int x_943), (0, .ref h0), (1, .int p1), (2, .int p2), (3, .int p3), (4, .int p4), (5, .int v5)]) hx hb dX12_costOf_173 hl (k := 6) rfl (by rw [ex_943]; rfl) (by decide) rfl (fun ls hl => ?_)
              refine lv_goto (tgt := 52) hx hb dX12_costOf_176 (by decide) ?_
              exact ih v5 x_943 _ _ _ gf_p1 gf_p4 (gi_w gx_943 (by decide)) (by have av6 := gv6.1; have bv6 := gv6.2; have qgx_943 := gx_943.1; have rgx_943 := gx_943.2; have igx_943 : x_943.toInt = v6.toInt + 1 := (by have hc1 : (1 : Int32).toInt = 1 := (by decide); have h9 := gi_addI ex_943 (by have h1 := g_902.1; have h2 := (gi_c 1 1 (by decide)).1; have h3 := g_902.2; have h4 := (gi_c 1 1 (by decide)).2; omega) (by have h1 := g_902.1; have h2 := (gi_c 1 1 (by decide)).1; have h3 := g_902.2; have h4 := (gi_c 1 1 (by decide)).2; omega); rw [hc1] at h9; exact h9); have qgv6 := g_902.1; have rgv6 := g_902.2; omega) hP hS (lv_sub hl [1, 2, 3, 4, 5, 6, 0] rfl)
set_option maxHeartbeats 4000000 in
set_option maxRecDepth 100000 in
theorem sX12_costOf (l : Launch) (dC : Nat → ClassId) (dI : Nat → Nat → Nat) (h0 : Nat) (mi : Nat → Int32) (mr : Nat → Nat) (km_must : ClassId) (fm_must : Nat → Int32) (km_least : ClassId) (fm_least : Nat → Int32) (km_pin : ClassId) (fm_pin : Nat → Int32) (km_struck : ClassId) (fm_struck : Nat → Int32) (km_reportKnown : ClassId) (fm_reportKnown : Nat → Int32) (km_reportMonth : ClassId) (fm_reportMonth : Nat → Int32) (km_reportKind : ClassId) (fm_reportKind : Nat → Int32) (km_reportDay : ClassId) (fm_reportDay : Nat → Int32) (km_reportPlace : ClassId) (fm_reportPlace : Nat → Int32) (km_trust : ClassId) (fm_trust : Nat → Int32) (p1 : Int32) (p2 : Int32) (p3 : Int32) (p4 : Int32) (gmi_0 : gi (mi 0) 0 24) (gmi_1 : gi (mi 1) 0 5) (gmi_2 : gi (mi 2) 0 5) (gmi_4 : gi (mi 4) 0 1) (gmi_7 : gi (mi 7) 0 6) (gmi_10 : gi (mi 10) 0 24) (gmi_17 : gi (mi 17) 0 8) (gmi_23 : gi (mi 23) 0 300) (gmi_24 : gi (mi 24) 0 1) (gmi_26 : gi (mi 26) 0 1600) (gmi_29 : gi (mi 29) 0 1600) (gmi_30 : gi (mi 30) 0 1600) (gmi_33 : gi (mi 33) 0 1) (gmi_37 : gi (mi 37) 0 1) (gmi_41 : gi (mi 41) 0 24) (gmi_50 : gi (mi 50) 0 1) (gmi_51 : gi (mi 51) 0 1) (gmi_56 : gi (mi 56) 0 80) (gfm_struck : ga fm_struck 24 0 1) (gfm_reportKnown : ga fm_reportKnown 24 0 999) (gfm_reportMonth : ga fm_reportMonth 24 0 23) (gfm_reportDay : ga fm_reportDay 24 0 999) (gfm_reportPlace : ga fm_reportPlace 24 0 5) (gp1 : gi p1 0 24) (gp4 : gi p4 0 1) : Met l yX12_costOf (.code yX12_costOf cX12_costOf 8 (some .int) :: wsGB) ({ frames := 1, cells := 0, slots := 0, locals := 22 }) (va_Pc [.ref h0, .int p1, .int p2, .int p3, .int p4] (fun U => va_P (dC, dI) vwCl [(h0, .inr (12, fsMM mi mr)), ((mr 14), .inl (km_must, 25, .inl fm_must)), ((mr 15), .inl (km_least, 25, .inl fm_least)), ((mr 16), .inl (km_pin, 25, .inl fm_pin)), ((mr 4), .inl (km_struck, 24, .inl fm_struck)), ((mr 7), .inl (km_reportKnown, 24, .inl fm_reportKnown)), ((mr 5), .inl (km_reportMonth, 24, .inl fm_reportMonth)), ((mr 3), .inl (km_reportKind, 24, .inl fm_reportKind)), ((mr 6), .inl (km_reportDay, 24, .inl fm_reportDay)), ((mr 2), .inl (km_reportPlace, 24, .inl fm_reportPlace)), ((mr 0), .inl (km_trust, 6, .inl fm_trust))] U.heap ∧ va_K (dC, dI) vwCl [(km_must, .int), (km_least, .int), (km_pin, .int), (km_struck, .boolean), (km_reportKnown, .int), (km_reportMonth, .int), (km_reportKind, .int), (km_reportDay, .int), (km_reportPlace, .int), (km_trust, .int)] U)) (va_Qi (fun (r : Int32) (u : Unit) => gi r (-2147483648) 2147483647) (fun _ _ => True) (fun _ => False)) 0 0 (fun _ => False) := by
  refine Met.ofW (cc := cX12_costOf) (maxL := 8) (ret := (some .int)) (by decide) rfl ?_
  intro p e s m args below meth c s₁ B hml hv
  obtain ⟨rfl, hP, hK⟩ := hv
  have hx := B.exec
  have hb := B.bytes
  have hr := B.returns
  have hts := atoms_spec (ws := (.code yX12_costOf cX12_costOf 8 (some .int) :: wsGB)) B.pre
  have hown : s.vm.findClass RX12 = some m.cls := findClass_of_methodNamed B.named
  have hlocks := B.notSynchronized
  have hS : va_S (fun _ => False) s.heap s.heap [] := va_S.rf
  have hl := lv_entry ([.ref h0, .int p1, .int p2, .int p3, .int p4]) (n := 8) (Nat.le_of_ble_eq_true rfl)
  rw [lg_entry_eq]
  generalize (lg_sl ([.ref h0, .int p1, .int p2, .int p3, .int p4]) ++ List.replicate (8 - (lg_sl ([.ref h0, .int p1, .int p2, .int p3, .int p4])).length) Slot.unset).toArray = ls at hl ⊢
  have hl : lv_has ls 8 [(0, .ref h0), (1, .int p1), (2, .int p2), (3, .int p3), (4, .int p4)] := hl
  refine lv_iload_n hx hb dX12_costOf_0 rfl (lv_at hl 1 rfl) ?_
  refine lv_if_ne (tgt := 6) hx hb dX12_costOf_1 (by decide) (fun c_944 => ?_) (fun c_944 => ?_)
  · have g_945 : gi p1 1 24 := gi_ne_lo c_944 gp1 (gi_c 0 0 (by decide)) (by decide)
    refine lv_iload hx hb dX12_costOf_6 (lv_at hl 4 rfl) ?_
    refine lv_if_eq (tgt := 46) hx hb dX12_costOf_8 (by decide) (fun c_946 => ?_) (fun c_946 => ?_)
    · have g_947 : gi p4 0 0 := gi_eq c_946 (gi_c 0 0 (by decide))
      refine lv_iconst (v := 0) hx hb dX12_costOf_46 (by decide) ?_
      refine lv_istore (lv' := [(5, .int 0), (0, .ref h0), (1, .int p1), (2, .int p2), (3, .int p3), (4, .int p4)]) hx hb dX12_costOf_47 hl (by decide) rfl (fun ls hl => ?_)
      refine lv_iconst (v := 0) hx hb dX12_costOf_49 (by decide) ?_
      refine lv_istore (lv' := [(6, .int 0), (5, .int 0), (0, .ref h0), (1, .int p1), (2, .int p2), (3, .int p3), (4, .int p4)]) hx hb dX12_costOf_50 hl (by decide) rfl (fun ls hl => ?_)
      refine (lp_sX12_costOf h0 mi mr km_must fm_must km_least fm_least km_pin fm_pin km_struck fm_struck km_reportKnown fm_reportKnown km_reportMonth fm_reportMonth km_reportKind fm_reportKind km_reportDay fm_reportDay km_reportPlace fm_reportPlace km_trust fm_trust p1 p2 p3 p4 gmi_0 gmi_1 gmi_2 gmi_4 gmi_7 gmi_10 gmi_17 gmi_23 gmi_24 gmi_26 gmi_29 gmi_30 gmi_33 gmi_37 gmi_41 gmi_50 gmi_51 gmi_56 gfm_struck gfm_reportKnown gfm_reportMonth gfm_reportDay gfm_reportPlace gp1 gp4 hx hb hml hown hts hK (Nat.le_of_ble_eq_true rfl) (Nat.le_of_ble_eq_true rfl) (Nat.zero_le _) (Nat.zero_le _) (fun v H locs ls hP hS hl => ?_) (fun v H locs ls gv hP hS hl => ?_) (fun v H locs ls hP hS hl => ?_) 62) 0 0 _ _ _ g_945 g_947 (gi_w (gi_c 0 0 (by decide)) (by decide)) (by have k0 : (0 : Int32).toInt = 0 := (by decide); omega) hP hS (lv_sub hl [2, 3, 4, 5, 6, 1, 0] rfl)
      · skip
        exact W.iret (v := v) hx hb hr (fun t ht hW => ⟨⟨v, (), rfl, (gi_any v), trivial⟩, hS.F ht⟩) hS.2.2 dX12_costOf_45
      · skip
        exact W.iret (v := v) hx hb hr (fun t ht hW => ⟨⟨v, (), rfl, (gi_any v), trivial⟩, hS.F ht⟩) hS.2.2 dX12_costOf_5
      · skip
        exact W.iret (v := v) hx hb hr (fun t ht hW => ⟨⟨v, (), rfl, (gi_any v), trivial⟩, hS.F ht⟩) hS.2.2 dX12_costOf_181
    · have g_948 : gi p4 1 1 := gi_ne_lo c_946 gp4 (gi_c 0 0 (by decide)) (by decide)
      refine lv_aload_n hx hb dX12_costOf_11 rfl (lv_at hl 0 rfl) ?_
      refine va_get (D := (dC, dI)) (ci := 12) (v := .int (mi 37)) (C := RX12) (T := TX12) (N := 57) hx hb hts (fun w h => List.mem_cons_of_mem _ (jnGB_X12 w h)) hown hK hP 0 rfl rfl 37 (by decide) (hts _ (List.mem_cons_of_mem _ mGB_270)) (fun _ h9 => h9) rfl dX12_costOf_12 ?_
      refine lv_if_ne (tgt := 27) hx hb dX12_costOf_15 (by decide) (fun c_949 => ?_) (fun c_949 => ?_)
      · have g_950 : gi (mi 37) 1 1 := gi_ne_lo c_949 gmi_37 (gi_c 0 0 (by decide)) (by decide)
        refine lv_ldcw (own := RX12) (v := 100000000) hx hb hown (hts _ (List.mem_cons_of_mem _ mGB_557)) dX12_costOf_27 ?_
        refine lv_goto (tgt := 45) hx hb dX12_costOf_30 (by decide) ?_
        exact W.iret (v := 100000000) hx hb hr (fun t ht hW => ⟨⟨100000000, (), rfl, (gi_any 100000000), trivial⟩, hS.F ht⟩) hS.2.2 dX12_costOf_45
      · have g_951 : gi (mi 37) 0 0 := gi_eq c_949 (gi_c 0 0 (by decide))
        refine lv_aload_n hx hb dX12_costOf_18 rfl (lv_at hl 0 rfl) ?_
        refine lv_iload_n hx hb dX12_costOf_19 rfl (lv_at hl 1 rfl) ?_
        refine lv_iload_n hx hb dX12_costOf_20 rfl (lv_at hl 2 rfl) ?_
        have hPc := hP.sub (ws' := [(h0, .inr (12, fsMM mi mr)), ((mr 14), .inl (km_must, 25, .inl fm_must)), ((mr 15), .inl (km_least, 25, .inl fm_least)), ((mr 16), .inl (km_pin, 25, .inl fm_pin))]) [0, 1, 2, 3] rfl
        have hKc := hK.sub (tys' := [(km_must, .int), (km_least, .int), (km_pin, .int)]) [0, 1, 2] rfl
        refine va_calli (va_runV (As := [.int p1, .int p2]) (rest := []) ⟨hx, hb, hml, hown, hts⟩ (sX12_isOpen l dC dI h0 mi mr km_must fm_must km_least fm_least km_pin fm_pin p1 p2 gmi_0 gmi_1 gmi_2 gmi_4 gmi_7 gmi_10 gmi_17 gmi_23 gmi_24 gmi_26 gmi_29 gmi_30 gmi_33 (gi_w g_951 (by decide)) gmi_41 gmi_50 gmi_51 gmi_56 (gi_w g_945 (by decide))) (cwV 2 hts (gz_gV mGB_303 mGB_304 mGB_305 mGB_1 mGB_306 goodGB) rfl rfl rfl (by decide +kernel) ⟨Nat.le_of_ble_eq_true rfl, Nat.le_of_ble_eq_true rfl⟩) ⟨fun a U g mk q => by obtain ⟨q0, qP, qK⟩ := q; exact ⟨q0, qP, va_K.moved (u := U) (U := U.calling g mk a) (Vm.Alike.refl U.vm) qK⟩, va_recv hKc hPc (ci := 12) (q0 := 0) rfl rfl, fun U hU hW => ⟨rfl, by rw [hU]; exact hPc, va_K.moved hW.alike hKc⟩⟩ rfl rfl hl.1 rfl (lv_room (Nat.le_of_ble_eq_true rfl)) dX12_costOf_21 ⟨Nat.zero_le _, Nat.zero_le _⟩) hS (fun q _ h => h.elim) (fun q h => h.elim) (fun r_952 u t H1 locs ht hvm hw hB hz1 hk1 hS => ?_)
        have hP := gz_keep hP hk1
        generalize H1 = H at hP hS ⊢
        have gr_952 : gi r_952 0 1 := hw
        refine lv_if_ne (tgt := 33) hx hb dX12_costOf_24 (by decide) (fun c_953 => ?_) (fun c_953 => ?_)
        · have g_954 : gi r_952 1 1 := gi_ne_lo c_953 gr_952 (gi_c 0 0 (by decide)) (by decide)
          refine lv_iload_n hx hb dX12_costOf_33 rfl (lv_at hl 2 rfl) ?_
          refine lv_aload_n hx hb dX12_costOf_34 rfl (lv_at hl 0 rfl) ?_
          refine lv_iload_n hx hb dX12_costOf_35 rfl (lv_at hl 1 rfl) ?_
          have hPc := hP.sub (ws' := [(h0, .inr (12, fsMM mi mr))]) [0] rfl
          have hKc := hK.sub (tys' := []) [] rfl
          refine va_calli (va_runV (As := [.int p1]) (rest := [.int p2]) ⟨hx, hb, hml, hown, hts⟩ (sX12_earlyOf l dC dI h0 mi mr p1 gmi_0 gmi_1 gmi_2 gmi_4 gmi_7 gmi_10 gmi_17 gmi_23 gmi_24 gmi_26 gmi_29 gmi_30 gmi_33 (gi_w g_951 (by decide)) gmi_41 gmi_50 gmi_51 gmi_56) (cwV 1 hts (gz_gV mGB_249 mGB_250 mGB_251 mGB_1 mGB_252 goodGB) rfl rfl rfl (by decide +kernel) ⟨Nat.le_of_ble_eq_true rfl, Nat.le_of_ble_eq_true rfl⟩) ⟨fun a U g mk q => by obtain ⟨q0, qP, qK⟩ := q; exact ⟨q0, qP, va_K.moved (u := U) (U := U.calling g mk a) (Vm.Alike.refl U.vm) qK⟩, va_recv hKc hPc (ci := 12) (q0 := 0) rfl rfl, fun U hU hW => ⟨rfl, by rw [hU]; exact hPc, va_K.moved hW.alike hKc⟩⟩ rfl rfl hl.1 rfl (lv_room (Nat.le_of_ble_eq_true rfl)) dX12_costOf_36 ⟨Nat.zero_le _, Nat.zero_le _⟩) hS (fun q _ h => h.elim) (fun q h => h.elim) (fun r_955 u t H1 locs ht hvm hw hB hz1 hk1 hS => ?_)
          have hP := gz_keep hP hk1
          generalize H1 = H at hP hS ⊢
          refine lv_isub hx hb dX12_costOf_39 ?_
          refine lv_topi (fun x_956 ex_956 => ?_)
          refine lv_iconst (v := 1) hx hb dX12_costOf_40 (by decide) ?_
          refine lv_isub hx hb dX12_costOf_41 ?_
          refine lv_topi (fun x_957 ex_957 => ?_)
          refine va_mabs (own := RX12) hx hb (by rw [hml]; exact hl.1.symm) hown (hts _ (List.mem_cons_of_mem _ mGB_562)) (hts _ (List.mem_cons_of_mem _ mGB_547)) (hts _ (List.mem_cons_of_mem _ mGB_98)) (hts _ (List.mem_cons_of_mem _ mGB_548)) (Nat.le_of_ble_eq_true rfl) (Nat.le_of_ble_eq_true rfl) (Nat.zero_le _) (Nat.zero_le _) dX12_costOf_42 ?_
          refine lv_topi (fun x_958 ex_958 => ?_)
          exact W.iret (v := x_958) hx hb hr (fun t ht hW => ⟨⟨x_958, (), rfl, (gi_any x_958), trivial⟩, hS.F ht⟩) hS.2.2 dX12_costOf_45
        · have g_959 : gi r_952 0 0 := gi_eq c_953 (gi_c 0 0 (by decide))
          refine lv_ldcw (own := RX12) (v := 100000000) hx hb hown (hts _ (List.mem_cons_of_mem _ mGB_557)) dX12_costOf_27 ?_
          refine lv_goto (tgt := 45) hx hb dX12_costOf_30 (by decide) ?_
          exact W.iret (v := 100000000) hx hb hr (fun t ht hW => ⟨⟨100000000, (), rfl, (gi_any 100000000), trivial⟩, hS.F ht⟩) hS.2.2 dX12_costOf_45
  · have g_960 : gi p1 0 0 := gi_eq c_944 (gi_c 0 0 (by decide))
    refine lv_iconst (v := 0) hx hb dX12_costOf_4 (by decide) ?_
    exact W.iret (v := 0) hx hb hr (fun t ht hW => ⟨⟨0, (), rfl, (gi_any 0), trivial⟩, hS.F ht⟩) hS.2.2 dX12_costOf_5
theorem dX12_laysWorth_0 : decode cX12_laysWorth 0 = .ok (.aload_n 0, 1) := by decide +kernel
theorem dX12_laysWorth_1 : decode cX12_laysWorth 1 = .ok (.getfield 117, 3) := by decide +kernel
theorem dX12_laysWorth_4 : decode cX12_laysWorth 4 = .ok (.istore_n 3, 1) := by decide +kernel
theorem dX12_laysWorth_5 : decode cX12_laysWorth 5 = .ok (.iload_n 3, 1) := by decide +kernel
theorem dX12_laysWorth_6 : decode cX12_laysWorth 6 = .ok (.ifCond .lt 117, 3) := by decide +kernel
theorem dX12_laysWorth_9 : decode cX12_laysWorth 9 = .ok (.iconst 0, 1) := by decide +kernel
theorem dX12_laysWorth_10 : decode cX12_laysWorth 10 = .ok (.istore 4, 2) := by decide +kernel
theorem dX12_laysWorth_12 : decode cX12_laysWorth 12 = .ok (.iload 4, 2) := by decide +kernel
theorem dX12_laysWorth_14 : decode cX12_laysWorth 14 = .ok (.iload_n 3, 1) := by decide +kernel
theorem dX12_laysWorth_15 : decode cX12_laysWorth 15 = .ok (.if_icmp .gt 102, 3) := by decide +kernel
theorem dX12_laysWorth_18 : decode cX12_laysWorth 18 = .ok (.aload_n 0, 1) := by decide +kernel
theorem dX12_laysWorth_19 : decode cX12_laysWorth 19 = .ok (.iload_n 3, 1) := by decide +kernel
theorem dX12_laysWorth_20 : decode cX12_laysWorth 20 = .ok (.bipush 29, 2) := by decide +kernel
theorem dX12_laysWorth_22 : decode cX12_laysWorth 22 = .ok (.iload_n 3, 1) := by decide +kernel
theorem dX12_laysWorth_23 : decode cX12_laysWorth 23 = .ok (.imul, 1) := by decide +kernel
theorem dX12_laysWorth_24 : decode cX12_laysWorth 24 = .ok (.iload 4, 2) := by decide +kernel
theorem dX12_laysWorth_26 : decode cX12_laysWorth 26 = .ok (.iadd, 1) := by decide +kernel
theorem dX12_laysWorth_27 : decode cX12_laysWorth 27 = .ok (.iload_n 1, 1) := by decide +kernel
theorem dX12_laysWorth_28 : decode cX12_laysWorth 28 = .ok (.iload_n 2, 1) := by decide +kernel
theorem dX12_laysWorth_29 : decode cX12_laysWorth 29 = .ok (.invokevirtual 472, 3) := by decide +kernel
theorem dX12_laysWorth_32 : decode cX12_laysWorth 32 = .ok (.istore 5, 2) := by decide +kernel
theorem dX12_laysWorth_34 : decode cX12_laysWorth 34 = .ok (.iconst 0, 1) := by decide +kernel
theorem dX12_laysWorth_35 : decode cX12_laysWorth 35 = .ok (.istore 6, 2) := by decide +kernel
theorem dX12_laysWorth_37 : decode cX12_laysWorth 37 = .ok (.iload 6, 2) := by decide +kernel
theorem dX12_laysWorth_39 : decode cX12_laysWorth 39 = .ok (.bipush 10, 2) := by decide +kernel
theorem dX12_laysWorth_41 : decode cX12_laysWorth 41 = .ok (.if_icmp .gt 70, 3) := by decide +kernel
theorem dX12_laysWorth_44 : decode cX12_laysWorth 44 = .ok (.iload_n 3, 1) := by decide +kernel
theorem dX12_laysWorth_45 : decode cX12_laysWorth 45 = .ok (.aload_n 0, 1) := by decide +kernel
theorem dX12_laysWorth_46 : decode cX12_laysWorth 46 = .ok (.getfield 117, 3) := by decide +kernel
theorem dX12_laysWorth_49 : decode cX12_laysWorth 49 = .ok (.if_icmp .ne 7, 3) := by decide +kernel
theorem dX12_laysWorth_52 : decode cX12_laysWorth 52 = .ok (.iconst 0, 1) := by decide +kernel
theorem dX12_laysWorth_53 : decode cX12_laysWorth 53 = .ok (.goto 26, 3) := by decide +kernel
theorem dX12_laysWorth_56 : decode cX12_laysWorth 56 = .ok (.aload_n 0, 1) := by decide +kernel
theorem dX12_laysWorth_57 : decode cX12_laysWorth 57 = .ok (.iload_n 3, 1) := by decide +kernel
theorem dX12_laysWorth_58 : decode cX12_laysWorth 58 = .ok (.iload 4, 2) := by decide +kernel
theorem dX12_laysWorth_60 : decode cX12_laysWorth 60 = .ok (.iload 6, 2) := by decide +kernel
theorem dX12_laysWorth_62 : decode cX12_laysWorth 62 = .ok (.iconst 0, 1) := by decide +kernel
theorem dX12_laysWorth_63 : decode cX12_laysWorth 63 = .ok (.invokevirtual 476, 3) := by decide +kernel
theorem dX12_laysWorth_66 : decode cX12_laysWorth 66 = .ok (.aload_n 0, 1) := by decide +kernel
theorem dX12_laysWorth_67 : decode cX12_laysWorth 67 = .ok (.iload_n 3, 1) := by decide +kernel
theorem dX12_laysWorth_68 : decode cX12_laysWorth 68 = .ok (.iload 4, 2) := by decide +kernel
theorem dX12_laysWorth_70 : decode cX12_laysWorth 70 = .ok (.iload 6, 2) := by decide +kernel
theorem dX12_laysWorth_72 : decode cX12_laysWorth 72 = .ok (.iconst 1, 1) := by decide +kernel
theorem dX12_laysWorth_73 : decode cX12_laysWorth 73 = .ok (.invokevirtual 476, 3) := by decide +kernel
theorem dX12_laysWorth_76 : decode cX12_laysWorth 76 = .ok (.invokestatic 168, 3) := by decide +kernel
theorem dX12_laysWorth_79 : decode cX12_laysWorth 79 = .ok (.istore 7, 2) := by decide +kernel
theorem dX12_laysWorth_81 : decode cX12_laysWorth 81 = .ok (.aload_n 0, 1) := by decide +kernel
theorem dX12_laysWorth_82 : decode cX12_laysWorth 82 = .ok (.getfield 93, 3) := by decide +kernel
theorem dX12_laysWorth_85 : decode cX12_laysWorth 85 = .ok (.iload_n 3, 1) := by decide +kernel
theorem dX12_laysWorth_86 : decode cX12_laysWorth 86 = .ok (.iload 4, 2) := by decide +kernel
theorem dX12_laysWorth_88 : decode cX12_laysWorth 88 = .ok (.iload 6, 2) := by decide +kernel
theorem dX12_laysWorth_90 : decode cX12_laysWorth 90 = .ok (.invokestatic 321, 3) := by decide +kernel
theorem dX12_laysWorth_93 : decode cX12_laysWorth 93 = .ok (.ldc_w 468, 3) := by decide +kernel
theorem dX12_laysWorth_96 : decode cX12_laysWorth 96 = .ok (.iload 5, 2) := by decide +kernel
theorem dX12_laysWorth_98 : decode cX12_laysWorth 98 = .ok (.iload 7, 2) := by decide +kernel
theorem dX12_laysWorth_100 : decode cX12_laysWorth 100 = .ok (.iadd, 1) := by decide +kernel
theorem dX12_laysWorth_101 : decode cX12_laysWorth 101 = .ok (.invokestatic 168, 3) := by decide +kernel
theorem dX12_laysWorth_104 : decode cX12_laysWorth 104 = .ok (.iastore, 1) := by decide +kernel
theorem dX12_laysWorth_105 : decode cX12_laysWorth 105 = .ok (.iinc 6 1, 3) := by decide +kernel
theorem dX12_laysWorth_108 : decode cX12_laysWorth 108 = .ok (.goto (-71), 3) := by decide +kernel
theorem dX12_laysWorth_111 : decode cX12_laysWorth 111 = .ok (.iinc 4 1, 3) := by decide +kernel
theorem dX12_laysWorth_114 : decode cX12_laysWorth 114 = .ok (.goto (-102), 3) := by decide +kernel
theorem dX12_laysWorth_117 : decode cX12_laysWorth 117 = .ok (.iinc 3 (-1), 3) := by decide +kernel
theorem dX12_laysWorth_120 : decode cX12_laysWorth 120 = .ok (.goto (-115), 3) := by decide +kernel
theorem dX12_laysWorth_123 : decode cX12_laysWorth 123 = .ok (.aload_n 0, 1) := by decide +kernel
theorem dX12_laysWorth_124 : decode cX12_laysWorth 124 = .ok (.iconst 0, 1) := by decide +kernel
theorem dX12_laysWorth_125 : decode cX12_laysWorth 125 = .ok (.putfield 479, 3) := by decide +kernel
theorem dX12_laysWorth_128 : decode cX12_laysWorth 128 = .ok (.iconst 0, 1) := by decide +kernel
theorem dX12_laysWorth_129 : decode cX12_laysWorth 129 = .ok (.istore_n 3, 1) := by decide +kernel
theorem dX12_laysWorth_130 : decode cX12_laysWorth 130 = .ok (.iconst 0, 1) := by decide +kernel
theorem dX12_laysWorth_131 : decode cX12_laysWorth 131 = .ok (.istore 4, 2) := by decide +kernel
theorem dX12_laysWorth_133 : decode cX12_laysWorth 133 = .ok (.iconst 0, 1) := by decide +kernel
theorem dX12_laysWorth_134 : decode cX12_laysWorth 134 = .ok (.istore 5, 2) := by decide +kernel
theorem dX12_laysWorth_136 : decode cX12_laysWorth 136 = .ok (.iload 5, 2) := by decide +kernel
theorem dX12_laysWorth_138 : decode cX12_laysWorth 138 = .ok (.aload_n 0, 1) := by decide +kernel
theorem dX12_laysWorth_139 : decode cX12_laysWorth 139 = .ok (.getfield 117, 3) := by decide +kernel
theorem dX12_laysWorth_142 : decode cX12_laysWorth 142 = .ok (.if_icmp .ge 68, 3) := by decide +kernel
theorem dX12_laysWorth_145 : decode cX12_laysWorth 145 = .ok (.aload_n 0, 1) := by decide +kernel
theorem dX12_laysWorth_146 : decode cX12_laysWorth 146 = .ok (.iload 5, 2) := by decide +kernel
theorem dX12_laysWorth_148 : decode cX12_laysWorth 148 = .ok (.iload_n 3, 1) := by decide +kernel
theorem dX12_laysWorth_149 : decode cX12_laysWorth 149 = .ok (.iload 4, 2) := by decide +kernel
theorem dX12_laysWorth_151 : decode cX12_laysWorth 151 = .ok (.iconst 0, 1) := by decide +kernel
theorem dX12_laysWorth_152 : decode cX12_laysWorth 152 = .ok (.invokevirtual 476, 3) := by decide +kernel
theorem dX12_laysWorth_155 : decode cX12_laysWorth 155 = .ok (.aload_n 0, 1) := by decide +kernel
theorem dX12_laysWorth_156 : decode cX12_laysWorth 156 = .ok (.iload 5, 2) := by decide +kernel
theorem dX12_laysWorth_158 : decode cX12_laysWorth 158 = .ok (.iload_n 3, 1) := by decide +kernel
theorem dX12_laysWorth_159 : decode cX12_laysWorth 159 = .ok (.iload 4, 2) := by decide +kernel
theorem dX12_laysWorth_161 : decode cX12_laysWorth 161 = .ok (.iconst 1, 1) := by decide +kernel
theorem dX12_laysWorth_162 : decode cX12_laysWorth 162 = .ok (.invokevirtual 476, 3) := by decide +kernel
theorem dX12_laysWorth_165 : decode cX12_laysWorth 165 = .ok (.if_icmp .gt 7, 3) := by decide +kernel
theorem dX12_laysWorth_168 : decode cX12_laysWorth 168 = .ok (.iconst 0, 1) := by decide +kernel
theorem dX12_laysWorth_169 : decode cX12_laysWorth 169 = .ok (.goto 4, 3) := by decide +kernel
theorem dX12_laysWorth_172 : decode cX12_laysWorth 172 = .ok (.iconst 1, 1) := by decide +kernel
theorem dX12_laysWorth_173 : decode cX12_laysWorth 173 = .ok (.istore 6, 2) := by decide +kernel
theorem dX12_laysWorth_175 : decode cX12_laysWorth 175 = .ok (.aload_n 0, 1) := by decide +kernel
theorem dX12_laysWorth_176 : decode cX12_laysWorth 176 = .ok (.iload 4, 2) := by decide +kernel
theorem dX12_laysWorth_178 : decode cX12_laysWorth 178 = .ok (.iload 6, 2) := by decide +kernel
theorem dX12_laysWorth_180 : decode cX12_laysWorth 180 = .ok (.invokevirtual 318, 3) := by decide +kernel
theorem dX12_laysWorth_183 : decode cX12_laysWorth 183 = .ok (.istore 4, 2) := by decide +kernel
theorem dX12_laysWorth_185 : decode cX12_laysWorth 185 = .ok (.iload_n 3, 1) := by decide +kernel
theorem dX12_laysWorth_186 : decode cX12_laysWorth 186 = .ok (.iload 6, 2) := by decide +kernel
theorem dX12_laysWorth_188 : decode cX12_laysWorth 188 = .ok (.iadd, 1) := by decide +kernel
theorem dX12_laysWorth_189 : decode cX12_laysWorth 189 = .ok (.istore_n 3, 1) := by decide +kernel
theorem dX12_laysWorth_190 : decode cX12_laysWorth 190 = .ok (.aload_n 0, 1) := by decide +kernel
theorem dX12_laysWorth_191 : decode cX12_laysWorth 191 = .ok (.dup, 1) := by decide +kernel
theorem dX12_laysWorth_192 : decode cX12_laysWorth 192 = .ok (.getfield 479, 3) := by decide +kernel
theorem dX12_laysWorth_195 : decode cX12_laysWorth 195 = .ok (.iload 6, 2) := by decide +kernel
theorem dX12_laysWorth_197 : decode cX12_laysWorth 197 = .ok (.iload 5, 2) := by decide +kernel
theorem dX12_laysWorth_199 : decode cX12_laysWorth 199 = .ok (.ishl, 1) := by decide +kernel
theorem dX12_laysWorth_200 : decode cX12_laysWorth 200 = .ok (.ior, 1) := by decide +kernel
theorem dX12_laysWorth_201 : decode cX12_laysWorth 201 = .ok (.putfield 479, 3) := by decide +kernel
theorem dX12_laysWorth_204 : decode cX12_laysWorth 204 = .ok (.iinc 5 1, 3) := by decide +kernel
theorem dX12_laysWorth_207 : decode cX12_laysWorth 207 = .ok (.goto (-71), 3) := by decide +kernel
theorem dX12_laysWorth_210 : decode cX12_laysWorth 210 = .ok (.aload_n 0, 1) := by decide +kernel
theorem dX12_laysWorth_211 : decode cX12_laysWorth 211 = .ok (.getfield 93, 3) := by decide +kernel
theorem dX12_laysWorth_214 : decode cX12_laysWorth 214 = .ok (.iconst 0, 1) := by decide +kernel
theorem dX12_laysWorth_215 : decode cX12_laysWorth 215 = .ok (.iaload, 1) := by decide +kernel
theorem dX12_laysWorth_216 : decode cX12_laysWorth 216 = .ok (.ireturn, 1) := by decide +kernel
set_option maxHeartbeats 4000000 in
set_option maxRecDepth 100000 in
theorem lp_sX12_laysWorth {p : Program} {l : Launch} {e : Env} {R : Room} {s : State} {m : MethodId} {args : Array Value} {below : List Frame} {meth : Method} {c : Code} {Q : State → Prop} {A : Nat → Prop} {cells slots : Nat} {dC : Nat → ClassId} {dI : Nat → Nat → Nat} (h0 : Nat) (mi : Nat → Int32) (mr : Nat → Nat) (km_worth : ClassId) (fm_worth : Nat → Int32) (km_must : ClassId) (fm_must : Nat → Int32) (km_least : ClassId) (fm_least : Nat → Int32) (km_pin : ClassId) (fm_pin : Nat → Int32) (km_struck : ClassId) (fm_struck : Nat → Int32) (km_reportKnown : ClassId) (fm_reportKnown : Nat → Int32) (km_reportMonth : ClassId) (fm_reportMonth : Nat → Int32) (km_reportKind : ClassId) (fm_reportKind : Nat → Int32) (km_reportDay : ClassId) (fm_reportDay : Nat → Int32) (km_reportPlace : ClassId) (fm_reportPlace : Nat → Int32) (km_trust : ClassId) (fm_trust : Nat → Int32) (p1 : Int32) (p2 : Int32) (gmi_0 : gi (mi 0) 0 24) (gmi_1 : gi (mi 1) 0 5) (gmi_2 : gi (mi 2) 0 5) (gmi_4 : gi (mi 4) 0 1) (gmi_7 : gi (mi 7) 0 6) (gmi_10 : gi (mi 10) 0 24) (gmi_17 : gi (mi 17) 0 8) (gmi_23 : gi (mi 23) 0 300) (gmi_24 : gi (mi 24) 0 1) (gmi_26 : gi (mi 26) 0 1600) (gmi_29 : gi (mi 29) 0 1600) (gmi_30 : gi (mi 30) 0 1600) (gmi_33 : gi (mi 33) 0 1) (gmi_37 : gi (mi 37) 0 1) (gmi_41 : gi (mi 41) 0 24) (gmi_50 : gi (mi 50) 0 1) (gmi_51 : gi (mi 51) 0 1) (gmi_56 : gi (mi 56) 0 80) (gfm_struck : ga fm_struck 24 0 1) (gfm_reportKnown : ga fm_reportKnown 24 0 999) (gfm_reportMonth : ga fm_reportMonth 24 0 23) (gfm_reportDay : ga fm_reportDay 24 0 999) (gfm_reportPlace : ga fm_reportPlace 24 0 5) (gp2 : gi p2 0 1) (hx : p.tables.exec = Jvm.exec) (hb : c.code = cX12_laysWorth) (hml : c.maxLocals = 8) (hown : s.vm.findClass RX12 = some m.cls) (hts : ∀ w ∈ ((.code yX12_laysWorth cX12_laysWorth 8 (some .int) :: wsGB) : List Cond), w.before args s = true) (hK : va_K (dC, dI) vwCl [(km_worth, .int), (km_must, .int), (km_least, .int), (km_pin, .int), (km_struck, .boolean), (km_reportKnown, .int), (km_reportMonth, .int), (km_reportKind, .int), (km_reportDay, .int), (km_reportPlace, .int), (km_trust, .int)] s) (hA : ∀ q : Nat, s.heap.size ≤ q → A q) (hRf : 2 ≤ R.frames) (hRl : 49 ≤ R.locals) (hRc : cells ≤ R.cells) (hRs : slots ≤ R.slots) (kr216 : ∀ (v : Int32) (w0_54 : Int32) (z1 : Nat → Int32) (H : Heap) (locs : List Loc) (ls : Array Slot), va_P (dC, dI) vwCl [(h0, .inr (12, fsMM (upd mi 54 w0_54) mr)), ((mr 22), .inl (km_worth, 6875, .inl z1)), ((mr 14), .inl (km_must, 25, .inl fm_must)), ((mr 15), .inl (km_least, 25, .inl fm_least)), ((mr 16), .inl (km_pin, 25, .inl fm_pin)), ((mr 4), .inl (km_struck, 24, .inl fm_struck)), ((mr 7), .inl (km_reportKnown, 24, .inl fm_reportKnown)), ((mr 5), .inl (km_reportMonth, 24, .inl fm_reportMonth)), ((mr 3), .inl (km_reportKind, 24, .inl fm_reportKind)), ((mr 6), .inl (km_reportDay, 24, .inl fm_reportDay)), ((mr 2), .inl (km_reportPlace, 24, .inl fm_reportPlace)), ((mr 0), .inl (km_trust, 6, .inl fm_trust))] H → va_D A [(h0, .inr (12, fsMM (upd mi 54 w0_54) mr)), ((mr 22), .inl (km_worth, 6875, .inl z1)), ((mr 14), .inl (km_must, 25, .inl fm_must)), ((mr 15), .inl (km_least, 25, .inl fm_least)), ((mr 16), .inl (km_pin, 25, .inl fm_pin)), ((mr 4), .inl (km_struck, 24, .inl fm_struck)), ((mr 7), .inl (km_reportKnown, 24, .inl fm_reportKnown)), ((mr 5), .inl (km_reportMonth, 24, .inl fm_reportMonth)), ((mr 3), .inl (km_reportKind, 24, .inl fm_reportKind)), ((mr 6), .inl (km_reportDay, 24, .inl fm_reportDay)), ((mr 2), .inl (km_reportPlace, 24, .inl fm_reportPlace)), ((mr 0), .inl (km_trust, 6, .inl fm_trust))] → va_S A s.heap H locs → lv_has ls 8 [] → W p l e R s m args below meth c H locs cells slots Q (F0 m 216 ls [.int v])) : ∀ z : Nat, (∀ (v3 : Int32) (z1 : Nat → Int32) (H : Heap) (locs : List Loc) (ls : Array Slot), gi v3 (-1) 24 → v3.toInt ≤ (mi 0).toInt → 811 + 758 * v3.toInt < (z : Int) → va_P (dC, dI) vwCl [(h0, .inr (12, fsMM mi mr)), ((mr 22), .inl (km_worth, 6875, .inl z1)), ((mr 14), .inl (km_must, 25, .inl fm_must)), ((mr 15), .inl (km_least, 25, .inl fm_least)), ((mr 16), .inl (km_pin, 25, .inl fm_pin)), ((mr 4), .inl (km_struck, 24, .inl fm_struck)), ((mr 7), .inl (km_reportKnown, 24, .inl fm_reportKnown)), ((mr 5), .inl (km_reportMonth, 24, .inl fm_reportMonth)), ((mr 3), .inl (km_reportKind, 24, .inl fm_reportKind)), ((mr 6), .inl (km_reportDay, 24, .inl fm_reportDay)), ((mr 2), .inl (km_reportPlace, 24, .inl fm_reportPlace)), ((mr 0), .inl (km_trust, 6, .inl fm_trust))] H → va_D A [(h0, .inr (12, fsMM mi mr)), ((mr 22), .inl (km_worth, 6875, .inl z1)), ((mr 14), .inl (km_must, 25, .inl fm_must)), ((mr 15), .inl (km_least, 25, .inl fm_least)), ((mr 16), .inl (km_pin, 25, .inl fm_pin)), ((mr 4), .inl (km_struck, 24, .inl fm_struck)), ((mr 7), .inl (km_reportKnown, 24, .inl fm_reportKnown)), ((mr 5), .inl (km_reportMonth, 24, .inl fm_reportMonth)), ((mr 3), .inl (km_reportKind, 24, .inl fm_reportKind)), ((mr 6), .inl (km_reportDay, 24, .inl fm_reportDay)), ((mr 2), .inl (km_reportPlace, 24, .inl fm_reportPlace)), ((mr 0), .inl (km_trust, 6, .inl fm_trust))] → va_S A s.heap H locs → lv_has ls 8 [(0, .ref h0), (1, .int p1), (2, .int p2), (3, .int v3)] → W p l e R s m args below meth c H locs cells slots Q (F0 m 5 ls [])) ∧ (∀ (v3 : Int32) (v4 : Int32) (z1 : Nat → Int32) (H : Heap) (locs : List Loc) (ls : Array Slot), gi v3 0 24 → gi v4 0 25 → v3.toInt ≤ (mi 0).toInt → 754 + 758 * v3.toInt + (-28) * v4.toInt < (z : Int) → va_P (dC, dI) vwCl [(h0, .inr (12, fsMM mi mr)), ((mr 22), .inl (km_worth, 6875, .inl z1)), ((mr 14), .inl (km_must, 25, .inl fm_must)), ((mr 15), .inl (km_least, 25, .inl fm_least)), ((mr 16), .inl (km_pin, 25, .inl fm_pin)), ((mr 4), .inl (km_struck, 24, .inl fm_struck)), ((mr 7), .inl (km_reportKnown, 24, .inl fm_reportKnown)), ((mr 5), .inl (km_reportMonth, 24, .inl fm_reportMonth)), ((mr 3), .inl (km_reportKind, 24, .inl fm_reportKind)), ((mr 6), .inl (km_reportDay, 24, .inl fm_reportDay)), ((mr 2), .inl (km_reportPlace, 24, .inl fm_reportPlace)), ((mr 0), .inl (km_trust, 6, .inl fm_trust))] H → va_D A [(h0, .inr (12, fsMM mi mr)), ((mr 22), .inl (km_worth, 6875, .inl z1)), ((mr 14), .inl (km_must, 25, .inl fm_must)), ((mr 15), .inl (km_least, 25, .inl fm_least)), ((mr 16), .inl (km_pin, 25, .inl fm_pin)), ((mr 4), .inl (km_struck, 24, .inl fm_struck)), ((mr 7), .inl (km_reportKnown, 24, .inl fm_reportKnown)), ((mr 5), .inl (km_reportMonth, 24, .inl fm_reportMonth)), ((mr 3), .inl (km_reportKind, 24, .inl fm_reportKind)), ((mr 6), .inl (km_reportDay, 24, .inl fm_reportDay)), ((mr 2), .inl (km_reportPlace, 24, .inl fm_reportPlace)), ((mr 0), .inl (km_trust, 6, .inl fm_trust))] → va_S A s.heap H locs → lv_has ls 8 [(0, .ref h0), (1, .int p1), (2, .int p2), (3, .int v3), (4, .int v4)] → W p l e R s m args below meth c H locs cells slots Q (F0 m 12 ls [])) ∧ (∀ (v3 : Int32) (v4 : Int32) (v5 : Int32) (v6 : Int32) (z1 : Nat → Int32) (H : Heap) (locs : List Loc) (ls : Array Slot), gi v3 0 24 → gi v4 0 24 → gi v6 0 11 → v3.toInt ≤ (mi 0).toInt → v4.toInt ≤ v3.toInt → 749 + 758 * v3.toInt + (-28) * v4.toInt + (-2) * v6.toInt < (z : Int) → va_P (dC, dI) vwCl [(h0, .inr (12, fsMM mi mr)), ((mr 22), .inl (km_worth, 6875, .inl z1)), ((mr 14), .inl (km_must, 25, .inl fm_must)), ((mr 15), .inl (km_least, 25, .inl fm_least)), ((mr 16), .inl (km_pin, 25, .inl fm_pin)), ((mr 4), .inl (km_struck, 24, .inl fm_struck)), ((mr 7), .inl (km_reportKnown, 24, .inl fm_reportKnown)), ((mr 5), .inl (km_reportMonth, 24, .inl fm_reportMonth)), ((mr 3), .inl (km_reportKind, 24, .inl fm_reportKind)), ((mr 6), .inl (km_reportDay, 24, .inl fm_reportDay)), ((mr 2), .inl (km_reportPlace, 24, .inl fm_reportPlace)), ((mr 0), .inl (km_trust, 6, .inl fm_trust))] H → va_D A [(h0, .inr (12, fsMM mi mr)), ((mr 22), .inl (km_worth, 6875, .inl z1)), ((mr 14), .inl (km_must, 25, .inl fm_must)), ((mr 15), .inl (km_least, 25, .inl fm_least)), ((mr 16), .inl (km_pin, 25, .inl fm_pin)), ((mr 4), .inl (km_struck, 24, .inl fm_struck)), ((mr 7), .inl (km_reportKnown, 24, .inl fm_reportKnown)), ((mr 5), .inl (km_reportMonth, 24, .inl fm_reportMonth)), ((mr 3), .inl (km_reportKind, 24, .inl fm_reportKind)), ((mr 6), .inl (km_reportDay, 24, .inl fm_reportDay)), ((mr 2), .inl (km_reportPlace, 24, .inl fm_reportPlace)), ((mr 0), .inl (km_trust, 6, .inl fm_trust))] → va_S A s.heap H locs → lv_has ls 8 [(0, .ref h0), (1, .int p1), (2, .int p2), (3, .int v3), (4, .int v4), (5, .int v5), (6, .int v6)] → W p l e R s m args below meth c H locs cells slots Q (F0 m 37 ls [])) ∧ (∀ (v3 : Int32) (v4 : Int32) (v5 : Int32) (w0_54 : Int32) (z1 : Nat → Int32) (H : Heap) (locs : List Loc) (ls : Array Slot), gi v3 0 24 → gi v4 (-1) 10 → gi v5 0 24 → v3.toInt ≤ v5.toInt → 49 + (-2) * v5.toInt < (z : Int) → va_P (dC, dI) vwCl [(h0, .inr (12, fsMM (upd mi 54 w0_54) mr)), ((mr 22), .inl (km_worth, 6875, .inl z1)), ((mr 14), .inl (km_must, 25, .inl fm_must)), ((mr 15), .inl (km_least, 25, .inl fm_least)), ((mr 16), .inl (km_pin, 25, .inl fm_pin)), ((mr 4), .inl (km_struck, 24, .inl fm_struck)), ((mr 7), .inl (km_reportKnown, 24, .inl fm_reportKnown)), ((mr 5), .inl (km_reportMonth, 24, .inl fm_reportMonth)), ((mr 3), .inl (km_reportKind, 24, .inl fm_reportKind)), ((mr 6), .inl (km_reportDay, 24, .inl fm_reportDay)), ((mr 2), .inl (km_reportPlace, 24, .inl fm_reportPlace)), ((mr 0), .inl (km_trust, 6, .inl fm_trust))] H → va_D A [(h0, .inr (12, fsMM (upd mi 54 w0_54) mr)), ((mr 22), .inl (km_worth, 6875, .inl z1)), ((mr 14), .inl (km_must, 25, .inl fm_must)), ((mr 15), .inl (km_least, 25, .inl fm_least)), ((mr 16), .inl (km_pin, 25, .inl fm_pin)), ((mr 4), .inl (km_struck, 24, .inl fm_struck)), ((mr 7), .inl (km_reportKnown, 24, .inl fm_reportKnown)), ((mr 5), .inl (km_reportMonth, 24, .inl fm_reportMonth)), ((mr 3), .inl (km_reportKind, 24, .inl fm_reportKind)), ((mr 6), .inl (km_reportDay, 24, .inl fm_reportDay)), ((mr 2), .inl (km_reportPlace, 24, .inl fm_reportPlace)), ((mr 0), .inl (km_trust, 6, .inl fm_trust))] → va_S A s.heap H locs → lv_has ls 8 [(0, .ref h0), (1, .int p1), (2, .int p2), (3, .int v3), (4, .int v4), (5, .int v5)] → W p l e R s m args below meth c H locs cells slots Q (F0 m 136 ls [])) := by
  intro z
  induction z with
  | zero =>
    refine ⟨?_, ?_, ?_, ?_⟩
    · intro v3 z1 H locs ls gv3 hle_gv3_gmi_0 hmu hP hD hS hl
      exact absurd hmu (by have hv31 := gv3.1; have hv32 := gv3.2; omega)
    · intro v3 v4 z1 H locs ls gv3 gv4 hle_gv3_gmi_0 hmu hP hD hS hl
      exact absurd hmu (by have hv31 := gv3.1; have hv32 := gv3.2; have hv41 := gv4.1; have hv42 := gv4.2; omega)
    · intro v3 v4 v5 v6 z1 H locs ls gv3 gv4 gv6 hle_gv3_gmi_0 hle_gv4_gv3 hmu hP hD hS hl
      exact absurd hmu (by have hv31 := gv3.1; have hv32 := gv3.2; have hv41 := gv4.1; have hv42 := gv4.2; have hv61 := gv6.1; have hv62 := gv6.2; omega)
    · intro v3 v4 v5 w0_54 z1 H locs ls gv3 gv4 gv5 hle_gv3_gv5 hmu hP hD hS hl
      exact absurd hmu (by have hv51 := gv5.1; have hv52 := gv5.2; omega)
  | succ z ih =>
    refine ⟨?_, ?_, ?_, ?_⟩
    · intro v3 z1 H locs ls gv3 hle_gv3_gmi_0 hmu hP hD hS hl
      refine lv_iload_n hx hb dX12_laysWorth_5 rfl (lv_at hl 3 rfl) ?_
      refine lv_if_lt (tgt := 123) hx hb dX12_laysWorth_6 (by decide) (fun c_986 => ?_) (fun c_986 => ?_)
      · have g_987 : gi v3 (-1) (-1) := gi_lt_l c_986 gv3 (gi_c 0 0 (by decide)) (by decide)
        refine lv_aload_n hx hb dX12_laysWorth_123 rfl (lv_at hl 0 rfl) ?_
        refine lv_iconst (v := 0) hx hb dX12_laysWorth_124 (by decide) ?_
        refine va_put (D := (dC, dI)) (ci := 12) (v := .int 0) (ty := .int) (C := RX12) (T := TX12) (N := 57) hx hb hts (fun w h => List.mem_cons_of_mem _ (jnGB_X12 w h)) tyX12 tyX12_ok nmX12 hown hK hP hD hS 0 rfl rfl 54 (by decide) (hts _ (List.mem_cons_of_mem _ mGB_552)) (fun _ h9 => h9) rfl (by decide +kernel) rfl rfl (Nat.le_of_ble_eq_true rfl) dX12_laysWorth_125 (fun H locs hP hD hS => ?_)
        have hP : va_P (dC, dI) vwCl [(h0, .inr (12, fsMM (upd mi 54 0) mr)), ((mr 22), .inl (km_worth, 6875, .inl z1)), ((mr 14), .inl (km_must, 25, .inl fm_must)), ((mr 15), .inl (km_least, 25, .inl fm_least)), ((mr 16), .inl (km_pin, 25, .inl fm_pin)), ((mr 4), .inl (km_struck, 24, .inl fm_struck)), ((mr 7), .inl (km_reportKnown, 24, .inl fm_reportKnown)), ((mr 5), .inl (km_reportMonth, 24, .inl fm_reportMonth)), ((mr 3), .inl (km_reportKind, 24, .inl fm_reportKind)), ((mr 6), .inl (km_reportDay, 24, .inl fm_reportDay)), ((mr 2), .inl (km_reportPlace, 24, .inl fm_reportPlace)), ((mr 0), .inl (km_trust, 6, .inl fm_trust))] H := hP
        have hD : va_D A [(h0, .inr (12, fsMM (upd mi 54 0) mr)), ((mr 22), .inl (km_worth, 6875, .inl z1)), ((mr 14), .inl (km_must, 25, .inl fm_must)), ((mr 15), .inl (km_least, 25, .inl fm_least)), ((mr 16), .inl (km_pin, 25, .inl fm_pin)), ((mr 4), .inl (km_struck, 24, .inl fm_struck)), ((mr 7), .inl (km_reportKnown, 24, .inl fm_reportKnown)), ((mr 5), .inl (km_reportMonth, 24, .inl fm_reportMonth)), ((mr 3), .inl (km_reportKind, 24, .inl fm_reportKind)), ((mr 6), .inl (km_reportDay, 24, .inl fm_reportDay)), ((mr 2), .inl (km_reportPlace, 24, .inl fm_reportPlace)), ((mr 0), .inl (km_trust, 6, .inl fm_trust))] := hD
        refine lv_iconst (v := 0) hx hb dX12_laysWorth_128 (by decide) ?_
        refine lv_istore_n (lv' := [(3, .int 0), (0, .ref h0), (1, .int p1), (2, .int p2)]) hx hb dX12_laysWorth_129 rfl hl (by decide) rfl (fun ls hl => ?_)
        refine lv_iconst (v := 0) hx hb dX12_laysWorth_130 (by decide) ?_
        refine lv_istore (lv' := [(4, .int 0), (3, .int 0), (0, .ref h0), (1, .int p1), (2, .int p2)]) hx hb dX12_laysWorth_131 hl (by decide) rfl (fun ls hl => ?_)
        refine lv_iconst (v := 0) hx hb dX12_laysWorth_133 (by decide) ?_
        refine lv_istore (lv' := [(5, .int 0), (4, .int 0), (3, .int 0), (0, .ref h0), (1, .int p1), (2, .int p2)]) hx hb dX12_laysWorth_134 hl (by decide) rfl (fun ls hl => ?_)
        exact ih.2.2.2 0 0 0 0 z1 _ _ _ (gi_w (gi_c 0 0 (by decide)) (by decide)) (gi_w (gi_c 0 0 (by decide)) (by decide)) (gi_w (gi_c 0 0 (by decide)) (by decide)) (by have k0 : (0 : Int32).toInt = 0 := (by decide); have k0 : (0 : Int32).toInt = 0 := (by decide); omega) (by have k0 : (0 : Int32).toInt = 0 := (by decide); have av3 := gv3.1; have bv3 := gv3.2; omega) hP hD hS (lv_sub hl [3, 4, 5, 2, 1, 0] rfl)
      · have g_988 : gi v3 0 24 := gi_le_r (Int32.not_lt.mp c_986) (gi_c 0 0 (by decide)) gv3
        refine lv_iconst (v := 0) hx hb dX12_laysWorth_9 (by decide) ?_
        refine lv_istore (lv' := [(4, .int 0), (0, .ref h0), (1, .int p1), (2, .int p2), (3, .int v3)]) hx hb dX12_laysWorth_10 hl (by decide) rfl (fun ls hl => ?_)
        exact ih.2.1 v3 0 z1 _ _ _ g_988 (gi_w (gi_c 0 0 (by decide)) (by decide)) (by have qgmi_0 := gmi_0.1; have rgmi_0 := gmi_0.2; have qgv3 := g_988.1; have rgv3 := g_988.2; omega) (by have k0 : (0 : Int32).toInt = 0 := (by decide); have av3 := gv3.1; have bv3 := gv3.2; have qgv3 := g_988.1; have rgv3 := g_988.2; omega) hP hD hS (lv_sub hl [1, 2, 3, 4, 0] rfl)
    · intro v3 v4 z1 H locs ls gv3 gv4 hle_gv3_gmi_0 hmu hP hD hS hl
      refine lv_iload hx hb dX12_laysWorth_12 (lv_at hl 4 rfl) ?_
      refine lv_iload_n hx hb dX12_laysWorth_14 rfl (lv_at hl 3 rfl) ?_
      refine lv_icmp_gt (tgt := 117) hx hb dX12_laysWorth_15 (by decide) (fun c_989 => ?_) (fun c_989 => ?_)
      · have g_990 : gi v4 1 25 := gi_lt_r c_989 gv3 gv4 (by decide)
        obtain ⟨x_991, ex_991⟩ : ∃ y : Int32, y = v3 + (-1) := ⟨_, rfl⟩
        have gx_991 : gi x_991 (-1) 23 := gi_add ex_991 gv3 (gi_c (-1) (-1) (by decide)) (by decide)
        refine lv_iinc (v := x_991) (lv' := [(3, .int x_991), (0, .ref h0), (1, .int p1), (2, .int p2), (4, .int v4)]) hx hb dX12_laysWorth_117 hl (k := 3) rfl (by rw [ex_991]; rfl) (by decide) rfl (fun ls hl => ?_)
        refine lv_goto (tgt := 5) hx hb dX12_laysWorth_120 (by decide) ?_
        exact ih.1 x_991 z1 _ _ _ (gi_w gx_991 (by decide)) (by have qgmi_0 := gmi_0.1; have rgmi_0 := gmi_0.2; have qgx_991 := gx_991.1; have rgx_991 := gx_991.2; have igx_991 : x_991.toInt = v3.toInt + (-1) := (by have hcm1 : ((-1) : Int32).toInt = (-1) := (by decide); have h9 := gi_addI ex_991 (by have h1 := gv3.1; have h2 := (gi_c (-1) (-1) (by decide)).1; have h3 := gv3.2; have h4 := (gi_c (-1) (-1) (by decide)).2; omega) (by have h1 := gv3.1; have h2 := (gi_c (-1) (-1) (by decide)).1; have h3 := gv3.2; have h4 := (gi_c (-1) (-1) (by decide)).2; omega); rw [hcm1] at h9; exact h9); have qgv3 := gv3.1; have rgv3 := gv3.2; have y1 := (Int32.lt_iff_toInt_lt.mp c_989); omega) (by have av3 := gv3.1; have bv3 := gv3.2; have av4 := gv4.1; have bv4 := gv4.2; have qgx_991 := gx_991.1; have rgx_991 := gx_991.2; have igx_991 : x_991.toInt = v3.toInt + (-1) := (by have hcm1 : ((-1) : Int32).toInt = (-1) := (by decide); have h9 := gi_addI ex_991 (by have h1 := gv3.1; have h2 := (gi_c (-1) (-1) (by decide)).1; have h3 := gv3.2; have h4 := (gi_c (-1) (-1) (by decide)).2; omega) (by have h1 := gv3.1; have h2 := (gi_c (-1) (-1) (by decide)).1; have h3 := gv3.2; have h4 := (gi_c (-1) (-1) (by decide)).2; omega); rw [hcm1] at h9; exact h9); have qgv3 := gv3.1; have rgv3 := gv3.2; omega) hP hD hS (lv_sub hl [1, 2, 3, 0] rfl)
      · have g_992 : gi v4 0 24 := gi_le_l (Int32.not_lt.mp c_989) gv4 gv3
        refine lv_aload_n hx hb dX12_laysWorth_18 rfl (lv_at hl 0 rfl) ?_
        refine lv_iload_n hx hb dX12_laysWorth_19 rfl (lv_at hl 3 rfl) ?_
        refine lv_bipush (v := 29) hx hb dX12_laysWorth_20 (by decide) ?_
        refine lv_iload_n hx hb dX12_laysWorth_22 rfl (lv_at hl 3 rfl) ?_
        refine lv_imul hx hb dX12_laysWorth_23 ?_
        refine lv_topi (fun x_993 ex_993 => ?_)
        have gx_993 : gi x_993 0 696 := gi_mul ex_993 (gi_c 29 29 (by decide)) gv3 (by decide)
        refine lv_iload hx hb dX12_laysWorth_24 (lv_at hl 4 rfl) ?_
        refine lv_iadd hx hb dX12_laysWorth_26 ?_
        refine lv_topi (fun x_994 ex_994 => ?_)
        have gx_994 : gi x_994 0 720 := gi_add ex_994 gx_993 g_992 (by decide)
        refine lv_iload_n hx hb dX12_laysWorth_27 rfl (lv_at hl 1 rfl) ?_
        refine lv_iload_n hx hb dX12_laysWorth_28 rfl (lv_at hl 2 rfl) ?_
        have hPc := hP.sub (ws' := [(h0, .inr (12, fsMM mi mr)), ((mr 14), .inl (km_must, 25, .inl fm_must)), ((mr 15), .inl (km_least, 25, .inl fm_least)), ((mr 16), .inl (km_pin, 25, .inl fm_pin)), ((mr 4), .inl (km_struck, 24, .inl fm_struck)), ((mr 7), .inl (km_reportKnown, 24, .inl fm_reportKnown)), ((mr 5), .inl (km_reportMonth, 24, .inl fm_reportMonth)), ((mr 3), .inl (km_reportKind, 24, .inl fm_reportKind)), ((mr 6), .inl (km_reportDay, 24, .inl fm_reportDay)), ((mr 2), .inl (km_reportPlace, 24, .inl fm_reportPlace)), ((mr 0), .inl (km_trust, 6, .inl fm_trust))]) [0, 2, 3, 4, 5, 6, 7, 8, 9, 10, 11] rfl
        have hKc := hK.sub (tys' := [(km_must, .int), (km_least, .int), (km_pin, .int), (km_struck, .boolean), (km_reportKnown, .int), (km_reportMonth, .int), (km_reportKind, .int), (km_reportDay, .int), (km_reportPlace, .int), (km_trust, .int)]) [1, 2, 3, 4, 5, 6, 7, 8, 9, 10] rfl
        refine va_calli (va_runV (As := [.int v3, .int x_994, .int p1, .int p2]) (rest := []) ⟨hx, hb, hml, hown, hts⟩ (sX12_costOf l dC dI h0 mi mr km_must fm_must km_least fm_least km_pin fm_pin km_struck fm_struck km_reportKnown fm_reportKnown km_reportMonth fm_reportMonth km_reportKind fm_reportKind km_reportDay fm_reportDay km_reportPlace fm_reportPlace km_trust fm_trust v3 x_994 p1 p2 gmi_0 gmi_1 gmi_2 gmi_4 gmi_7 gmi_10 gmi_17 gmi_23 gmi_24 gmi_26 gmi_29 gmi_30 gmi_33 gmi_37 gmi_41 gmi_50 gmi_51 gmi_56 gfm_struck gfm_reportKnown gfm_reportMonth gfm_reportDay gfm_reportPlace gv3 gp2) (cwV 4 hts (gz_gV mGB_558 mGB_559 mGB_560 mGB_1 mGB_561 goodGB) rfl rfl rfl (by decide +kernel) ⟨Nat.le_trans (Nat.le_of_ble_eq_true rfl) hRf, Nat.le_trans (Nat.le_of_ble_eq_true rfl) hRl⟩) ⟨fun a U g mk q => by obtain ⟨q0, qP, qK⟩ := q; exact ⟨q0, qP, va_K.moved (u := U) (U := U.calling g mk a) (Vm.Alike.refl U.vm) qK⟩, va_recv hKc hPc (ci := 12) (q0 := 0) rfl rfl, fun U hU hW => ⟨rfl, by rw [hU]; exact hPc, va_K.moved hW.alike hKc⟩⟩ rfl rfl hl.1 rfl (lv_room (Nat.le_of_ble_eq_true rfl)) dX12_laysWorth_29 ⟨hRc, hRs⟩) hS (fun q _ h => h.elim) (fun q h => h.elim) (fun r_995 u t H1 locs ht hvm hw hB hz1 hk1 hS => ?_)
        have hP := gz_keep hP hk1
        generalize H1 = H at hP hS ⊢
        refine lv_istore (lv' := [(5, .int r_995), (0, .ref h0), (1, .int p1), (2, .int p2), (3, .int v3), (4, .int v4)]) hx hb dX12_laysWorth_32 hl (by decide) rfl (fun ls hl => ?_)
        refine lv_iconst (v := 0) hx hb dX12_laysWorth_34 (by decide) ?_
        refine lv_istore (lv' := [(6, .int 0), (5, .int r_995), (0, .ref h0), (1, .int p1), (2, .int p2), (3, .int v3), (4, .int v4)]) hx hb dX12_laysWorth_35 hl (by decide) rfl (fun ls hl => ?_)
        exact ih.2.2.1 v3 v4 r_995 0 z1 _ _ _ gv3 g_992 (gi_w (gi_c 0 0 (by decide)) (by decide)) (by have qgmi_0 := gmi_0.1; have rgmi_0 := gmi_0.2; have qgv3 := gv3.1; have rgv3 := gv3.2; have y1 := (Int32.le_iff_toInt_le.mp (Int32.not_lt.mp c_989)); omega) (by have qgv3 := gv3.1; have rgv3 := gv3.2; have qgv4 := g_992.1; have rgv4 := g_992.2; have y1 := (Int32.le_iff_toInt_le.mp (Int32.not_lt.mp c_989)); omega) (by have k0 : (0 : Int32).toInt = 0 := (by decide); have av3 := gv3.1; have bv3 := gv3.2; have av4 := gv4.1; have bv4 := gv4.2; have qgv4 := g_992.1; have rgv4 := g_992.2; have qgv3 := gv3.1; have rgv3 := gv3.2; omega) hP hD hS (lv_sub hl [2, 3, 4, 5, 6, 1, 0] rfl)
    · intro v3 v4 v5 v6 z1 H locs ls gv3 gv4 gv6 hle_gv3_gmi_0 hle_gv4_gv3 hmu hP hD hS hl
      refine lv_iload hx hb dX12_laysWorth_37 (lv_at hl 6 rfl) ?_
      refine lv_bipush (v := 10) hx hb dX12_laysWorth_39 (by decide) ?_
      refine lv_icmp_gt (tgt := 111) hx hb dX12_laysWorth_41 (by decide) (fun c_996 => ?_) (fun c_996 => ?_)
      · have g_997 : gi v6 11 11 := gi_lt_r c_996 (gi_c 10 10 (by decide)) gv6 (by decide)
        obtain ⟨x_998, ex_998⟩ : ∃ y : Int32, y = v4 + 1 := ⟨_, rfl⟩
        have gx_998 : gi x_998 1 25 := gi_add ex_998 gv4 (gi_c 1 1 (by decide)) (by decide)
        refine lv_iinc (v := x_998) (lv' := [(4, .int x_998), (0, .ref h0), (1, .int p1), (2, .int p2), (3, .int v3), (5, .int v5), (6, .int v6)]) hx hb dX12_laysWorth_111 hl (k := 4) rfl (by rw [ex_998]; rfl) (by decide) rfl (fun ls hl => ?_)
        refine lv_goto (tgt := 12) hx hb dX12_laysWorth_114 (by decide) ?_
        exact ih.2.1 v3 x_998 z1 _ _ _ gv3 (gi_w gx_998 (by decide)) (by have qgmi_0 := gmi_0.1; have rgmi_0 := gmi_0.2; have qgv3 := gv3.1; have rgv3 := gv3.2; omega) (by have av3 := gv3.1; have bv3 := gv3.2; have av4 := gv4.1; have bv4 := gv4.2; have av6 := gv6.1; have bv6 := gv6.2; have qgx_998 := gx_998.1; have rgx_998 := gx_998.2; have igx_998 : x_998.toInt = v4.toInt + 1 := (by have hc1 : (1 : Int32).toInt = 1 := (by decide); have h9 := gi_addI ex_998 (by have h1 := gv4.1; have h2 := (gi_c 1 1 (by decide)).1; have h3 := gv4.2; have h4 := (gi_c 1 1 (by decide)).2; omega) (by have h1 := gv4.1; have h2 := (gi_c 1 1 (by decide)).1; have h3 := gv4.2; have h4 := (gi_c 1 1 (by decide)).2; omega); rw [hc1] at h9; exact h9); have qgv4 := gv4.1; have rgv4 := gv4.2; have qgv3 := gv3.1; have rgv3 := gv3.2; omega) hP hD hS (lv_sub hl [1, 2, 3, 4, 0] rfl)
      · have g_999 : gi v6 0 10 := gi_le_l (Int32.not_lt.mp c_996) gv6 (gi_c 10 10 (by decide))
        refine lv_iload_n hx hb dX12_laysWorth_44 rfl (lv_at hl 3 rfl) ?_
        refine lv_aload_n hx hb dX12_laysWorth_45 rfl (lv_at hl 0 rfl) ?_
        refine va_get (D := (dC, dI)) (ci := 12) (v := .int (mi 0)) (C := RX12) (T := TX12) (N := 57) hx hb hts (fun w h => List.mem_cons_of_mem _ (jnGB_X12 w h)) hown hK hP 0 rfl rfl 0 (by decide) (hts _ (List.mem_cons_of_mem _ mGB_103)) (fun _ h9 => h9) rfl dX12_laysWorth_46 ?_
        refine lv_icmp_ne (tgt := 56) hx hb dX12_laysWorth_49 (by decide) (fun c_1000 => ?_) (fun c_1000 => ?_)
        · have g_1001 : gi v3 0 23 := gi_nele hle_gv3_gmi_0 c_1000 gv3 gmi_0 (by decide)
          have g_1002 : gi v4 0 23 := gi_rel hle_gv4_gv3 gv4 g_1001
          refine lv_aload_n hx hb dX12_laysWorth_56 rfl (lv_at hl 0 rfl) ?_
          refine lv_iload_n hx hb dX12_laysWorth_57 rfl (lv_at hl 3 rfl) ?_
          refine lv_iload hx hb dX12_laysWorth_58 (lv_at hl 4 rfl) ?_
          refine lv_iload hx hb dX12_laysWorth_60 (lv_at hl 6 rfl) ?_
          refine lv_iconst (v := 0) hx hb dX12_laysWorth_62 (by decide) ?_
          have hPc := hP.sub (ws' := [(h0, .inr (12, fsMM mi mr)), ((mr 22), .inl (km_worth, 6875, .inl z1))]) [0, 1] rfl
          have hKc := hK.sub (tys' := [(km_worth, .int)]) [0] rfl
          refine va_calli (va_runV (As := [.int v3, .int v4, .int v6, .int 0]) (rest := []) ⟨hx, hb, hml, hown, hts⟩ (sX12_worthBy l dC dI h0 mi mr km_worth z1 v3 v4 v6 0 gmi_0 gmi_1 gmi_2 gmi_4 gmi_7 gmi_10 gmi_17 gmi_23 gmi_24 gmi_26 gmi_29 gmi_30 gmi_33 gmi_37 gmi_41 gmi_50 gmi_51 gmi_56 g_1001 g_1002 (gi_w g_999 (by decide)) (gi_w (gi_c 0 0 (by decide)) (by decide))) (cwV 4 hts (gz_gV mGB_563 mGB_564 mGB_565 mGB_1 mGB_566 goodGB) rfl rfl rfl (by decide +kernel) ⟨Nat.le_trans (Nat.le_of_ble_eq_true rfl) hRf, Nat.le_trans (Nat.le_of_ble_eq_true rfl) hRl⟩) ⟨fun a U g mk q => by obtain ⟨q0, qP, qK⟩ := q; exact ⟨q0, qP, va_K.moved (u := U) (U := U.calling g mk a) (Vm.Alike.refl U.vm) qK⟩, va_recv hKc hPc (ci := 12) (q0 := 0) rfl rfl, fun U hU hW => ⟨rfl, by rw [hU]; exact hPc, va_K.moved hW.alike hKc⟩⟩ rfl rfl hl.1 rfl (lv_room (Nat.le_of_ble_eq_true rfl)) dX12_laysWorth_63 ⟨hRc, hRs⟩) hS (fun q _ h => h.elim) (fun q h => h.elim) (fun r_1003 u t H1 locs ht hvm hw hB hz1 hk1 hS => ?_)
          have hP := gz_keep hP hk1
          generalize H1 = H at hP hS ⊢
          refine lv_aload_n hx hb dX12_laysWorth_66 rfl (lv_at hl 0 rfl) ?_
          refine lv_iload_n hx hb dX12_laysWorth_67 rfl (lv_at hl 3 rfl) ?_
          refine lv_iload hx hb dX12_laysWorth_68 (lv_at hl 4 rfl) ?_
          refine lv_iload hx hb dX12_laysWorth_70 (lv_at hl 6 rfl) ?_
          refine lv_iconst (v := 1) hx hb dX12_laysWorth_72 (by decide) ?_
          have hPc := hP.sub (ws' := [(h0, .inr (12, fsMM mi mr)), ((mr 22), .inl (km_worth, 6875, .inl z1))]) [0, 1] rfl
          have hKc := hK.sub (tys' := [(km_worth, .int)]) [0] rfl
          refine va_calli (va_runV (As := [.int v3, .int v4, .int v6, .int 1]) (rest := [.int r_1003]) ⟨hx, hb, hml, hown, hts⟩ (sX12_worthBy l dC dI h0 mi mr km_worth z1 v3 v4 v6 1 gmi_0 gmi_1 gmi_2 gmi_4 gmi_7 gmi_10 gmi_17 gmi_23 gmi_24 gmi_26 gmi_29 gmi_30 gmi_33 gmi_37 gmi_41 gmi_50 gmi_51 gmi_56 g_1001 g_1002 (gi_w g_999 (by decide)) (gi_w (gi_c 1 1 (by decide)) (by decide))) (cwV 4 hts (gz_gV mGB_563 mGB_564 mGB_565 mGB_1 mGB_566 goodGB) rfl rfl rfl (by decide +kernel) ⟨Nat.le_trans (Nat.le_of_ble_eq_true rfl) hRf, Nat.le_trans (Nat.le_of_ble_eq_true rfl) hRl⟩) ⟨fun a U g mk q => by obtain ⟨q0, qP, qK⟩ := q; exact ⟨q0, qP, va_K.moved (u := U) (U := U.calling g mk a) (Vm.Alike.refl U.vm) qK⟩, va_recv hKc hPc (ci := 12) (q0 := 0) rfl rfl, fun U hU hW => ⟨rfl, by rw [hU]; exact hPc, va_K.moved hW.alike hKc⟩⟩ rfl rfl hl.1 rfl (lv_room (Nat.le_of_ble_eq_true rfl)) dX12_laysWorth_73 ⟨hRc, hRs⟩) hS (fun q _ h => h.elim) (fun q h => h.elim) (fun r_1004 u t H1 locs ht hvm hw hB hz1 hk1 hS => ?_)
          have hP := gz_keep hP hk1
          generalize H1 = H at hP hS ⊢
          refine va_mmin (own := RX12) hx hb (by rw [hml]; exact hl.1.symm) hown (hts _ (List.mem_cons_of_mem _ mGB_138)) (hts _ (List.mem_cons_of_mem _ mGB_97)) (hts _ (List.mem_cons_of_mem _ mGB_98)) (hts _ (List.mem_cons_of_mem _ mGB_99)) (Nat.le_trans (Nat.le_of_ble_eq_true rfl) hRf) (Nat.le_trans (Nat.le_of_ble_eq_true rfl) hRl) hRc hRs dX12_laysWorth_76 ?_
          refine lv_topi (fun x_1005 ex_1005 => ?_)
          refine lv_istore (lv' := [(7, .int x_1005), (0, .ref h0), (1, .int p1), (2, .int p2), (3, .int v3), (4, .int v4), (5, .int v5), (6, .int v6)]) hx hb dX12_laysWorth_79 hl (by decide) rfl (fun ls hl => ?_)
          refine lv_aload_n hx hb dX12_laysWorth_81 rfl (lv_at hl 1 rfl) ?_
          refine va_get (D := (dC, dI)) (ci := 12) (v := .ref (mr 22)) (C := RX12) (T := TX12) (N := 57) hx hb hts (fun w h => List.mem_cons_of_mem _ (jnGB_X12 w h)) hown hK hP 0 rfl rfl 53 (by decide) (hts _ (List.mem_cons_of_mem _ mGB_38)) (fun _ h9 => h9) rfl dX12_laysWorth_82 ?_
          refine lv_iload_n hx hb dX12_laysWorth_85 rfl (lv_at hl 4 rfl) ?_
          refine lv_iload hx hb dX12_laysWorth_86 (lv_at hl 5 rfl) ?_
          refine lv_iload hx hb dX12_laysWorth_88 (lv_at hl 7 rfl) ?_
          have hPc := hP.sub (ws' := []) [] rfl
          have hKc := hK.sub (tys' := []) [] rfl
          refine va_calli (va_runS (As := [.int v3, .int v4, .int v6]) (rest := [.ref (mr 22)]) ⟨hx, hb, hml, hown, hts⟩ (sX12_placeOf l dC dI v3 v4 v6 (gi_w g_1001 (by decide)) (gi_w g_1002 (by decide)) g_999) (cwS 3 hts (gz_gS mGB_315 mGB_316 mGB_1 mGB_317 goodGB) rfl rfl rfl (by decide +kernel) ⟨Nat.le_trans (Nat.le_of_ble_eq_true rfl) hRf, Nat.le_trans (Nat.le_of_ble_eq_true rfl) hRl⟩) ⟨fun a U g mk q => by obtain ⟨q0, qP, qK⟩ := q; exact ⟨q0, qP, va_K.moved (u := U) (U := U.calling g mk a) (Vm.Alike.refl U.vm) qK⟩, fun U hU hW => ⟨rfl, by rw [hU]; exact hPc, va_K.moved hW.alike hKc⟩⟩ rfl rfl hl.1 rfl (lv_room (Nat.le_of_ble_eq_true rfl)) dX12_laysWorth_90 ⟨hRc, hRs⟩) hS (fun q _ h => h.elim) (fun q h => h.elim) (fun r_1006 u t H1 locs ht hvm hw hB hz1 hk1 hS => ?_)
          have hP := gz_keep hP hk1
          generalize H1 = H at hP hS ⊢
          have gr_1006 : gi r_1006 0 6874 := hw
          refine lv_ldcw (own := RX12) (v := 100000000) hx hb hown (hts _ (List.mem_cons_of_mem _ mGB_557)) dX12_laysWorth_93 ?_
          refine lv_iload hx hb dX12_laysWorth_96 (lv_at hl 6 rfl) ?_
          refine lv_iload hx hb dX12_laysWorth_98 (lv_at hl 0 rfl) ?_
          refine lv_iadd hx hb dX12_laysWorth_100 ?_
          refine lv_topi (fun x_1007 ex_1007 => ?_)
          refine va_mmin (own := RX12) hx hb (by rw [hml]; exact hl.1.symm) hown (hts _ (List.mem_cons_of_mem _ mGB_138)) (hts _ (List.mem_cons_of_mem _ mGB_97)) (hts _ (List.mem_cons_of_mem _ mGB_98)) (hts _ (List.mem_cons_of_mem _ mGB_99)) (Nat.le_trans (Nat.le_of_ble_eq_true rfl) hRf) (Nat.le_trans (Nat.le_of_ble_eq_true rfl) hRl) hRc hRs dX12_laysWorth_101 ?_
          refine lv_topi (fun x_1008 ex_1008 => ?_)
          have gx_1008 : gi x_1008 (-2147483648) 100000000 := gi_min ex_1008 (gi_c 100000000 100000000 (by decide)) (gi_any x_1007) (by decide)
          refine va_iast hx hb hK hP hD hS 1 0 rfl rfl (gi_in gr_1006 (by decide)) dX12_laysWorth_104 (fun H locs hP hD hS => ?_)
          have hP : va_P (dC, dI) vwCl [(h0, .inr (12, fsMM mi mr)), ((mr 22), .inl (km_worth, 6875, .inl (upd z1 (r_1006 : Int32).toNatClampNeg x_1008))), ((mr 14), .inl (km_must, 25, .inl fm_must)), ((mr 15), .inl (km_least, 25, .inl fm_least)), ((mr 16), .inl (km_pin, 25, .inl fm_pin)), ((mr 4), .inl (km_struck, 24, .inl fm_struck)), ((mr 7), .inl (km_reportKnown, 24, .inl fm_reportKnown)), ((mr 5), .inl (km_reportMonth, 24, .inl fm_reportMonth)), ((mr 3), .inl (km_reportKind, 24, .inl fm_reportKind)), ((mr 6), .inl (km_reportDay, 24, .inl fm_reportDay)), ((mr 2), .inl (km_reportPlace, 24, .inl fm_reportPlace)), ((mr 0), .inl (km_trust, 6, .inl fm_trust))] H := hP
          have hD : va_D A [(h0, .inr (12, fsMM mi mr)), ((mr 22), .inl (km_worth, 6875, .inl (upd z1 (r_1006 : Int32).toNatClampNeg x_1008))), ((mr 14), .inl (km_must, 25, .inl fm_must)), ((mr 15), .inl (km_least, 25, .inl fm_least)), ((mr 16), .inl (km_pin, 25, .inl fm_pin)), ((mr 4), .inl (km_struck, 24, .inl fm_struck)), ((mr 7), .inl (km_reportKnown, 24, .inl fm_reportKnown)), ((mr 5), .inl (km_reportMonth, 24, .inl fm_reportMonth)), ((mr 3), .inl (km_reportKind, 24, .inl fm_reportKind)), ((mr 6), .inl (km_reportDay, 24, .inl fm_reportDay)), ((mr 2), .inl (km_reportPlace, 24, .inl fm_reportPlace)), ((mr 0), .inl (km_trust, 6, .inl fm_trust))] := hD
          generalize upd z1 (r_1006 : Int32).toNatClampNeg x_1008 = f_1009 at hP hD
          obtain ⟨x_1010, ex_1010⟩ : ∃ y : Int32, y = v6 + 1 := ⟨_, rfl⟩
          have gx_1010 : gi x_1010 1 11 := gi_add ex_1010 g_999 (gi_c 1 1 (by decide)) (by decide)
          refine lv_iinc (v := x_1010) (lv' := [(6, .int x_1010), (7, .int x_1005), (0, .ref h0), (1, .int p1), (2, .int p2), (3, .int v3), (4, .int v4), (5, .int v5)]) hx hb dX12_laysWorth_105 hl (k := 7) rfl (by rw [ex_1010]; rfl) (by decide) rfl (fun ls hl => ?_)
          refine lv_goto (tgt := 37) hx hb dX12_laysWorth_108 (by decide) ?_
          exact ih.2.2.1 v3 v4 v5 x_1010 f_1009 _ _ _ (gi_w g_1001 (by decide)) (gi_w g_1002 (by decide)) (gi_w gx_1010 (by decide)) (by have qgmi_0 := gmi_0.1; have rgmi_0 := gmi_0.2; have qgv3 := g_1001.1; have rgv3 := g_1001.2; omega) (by have qgv3 := g_1001.1; have rgv3 := g_1001.2; have qgv4 := g_1002.1; have rgv4 := g_1002.2; omega) (by have av3 := gv3.1; have bv3 := gv3.2; have av4 := gv4.1; have bv4 := gv4.2; have av6 := gv6.1; have bv6 := gv6.2; have qgx_1010 := gx_1010.1; have rgx_1010 := gx_1010.2; have igx_1010 : x_1010.toInt = v6.toInt + 1 := (by have hc1 : (1 : Int32).toInt = 1 := (by decide); have h9 := gi_addI ex_1010 (by have h1 := g_999.1; have h2 := (gi_c 1 1 (by decide)).1; have h3 := g_999.2; have h4 := (gi_c 1 1 (by decide)).2; omega) (by have h1 := g_999.1; have h2 := (gi_c 1 1 (by decide)).1; have h3 := g_999.2; have h4 := (gi_c 1 1 (by decide)).2; omega); rw [hc1] at h9; exact h9); have qgv6 := g_999.1; have rgv6 := g_999.2; have qgv4 := g_1002.1; have rgv4 := g_1002.2; have qgv3 := g_1001.1; have rgv3 := g_1001.2; omega) hP hD hS (lv_sub hl [2, 3, 4, 5, 6, 7, 0] rfl)
        · refine lv_iconst (v := 0) hx hb dX12_laysWorth_52 (by decide) ?_
          refine lv_goto (tgt := 79) hx hb dX12_laysWorth_53 (by decide) ?_
          refine lv_istore (lv' := [(7, .int 0), (0, .ref h0), (1, .int p1), (2, .int p2), (3, .int v3), (4, .int v4), (5, .int v5), (6, .int v6)]) hx hb dX12_laysWorth_79 hl (by decide) rfl (fun ls hl => ?_)
          refine lv_aload_n hx hb dX12_laysWorth_81 rfl (lv_at hl 1 rfl) ?_
          refine va_get (D := (dC, dI)) (ci := 12) (v := .ref (mr 22)) (C := RX12) (T := TX12) (N := 57) hx hb hts (fun w h => List.mem_cons_of_mem _ (jnGB_X12 w h)) hown hK hP 0 rfl rfl 53 (by decide) (hts _ (List.mem_cons_of_mem _ mGB_38)) (fun _ h9 => h9) rfl dX12_laysWorth_82 ?_
          refine lv_iload_n hx hb dX12_laysWorth_85 rfl (lv_at hl 4 rfl) ?_
          refine lv_iload hx hb dX12_laysWorth_86 (lv_at hl 5 rfl) ?_
          refine lv_iload hx hb dX12_laysWorth_88 (lv_at hl 7 rfl) ?_
          have hPc := hP.sub (ws' := []) [] rfl
          have hKc := hK.sub (tys' := []) [] rfl
          refine va_calli (va_runS (As := [.int v3, .int v4, .int v6]) (rest := [.ref (mr 22)]) ⟨hx, hb, hml, hown, hts⟩ (sX12_placeOf l dC dI v3 v4 v6 gv3 gv4 g_999) (cwS 3 hts (gz_gS mGB_315 mGB_316 mGB_1 mGB_317 goodGB) rfl rfl rfl (by decide +kernel) ⟨Nat.le_trans (Nat.le_of_ble_eq_true rfl) hRf, Nat.le_trans (Nat.le_of_ble_eq_true rfl) hRl⟩) ⟨fun a U g mk q => by obtain ⟨q0, qP, qK⟩ := q; exact ⟨q0, qP, va_K.moved (u := U) (U := U.calling g mk a) (Vm.Alike.refl U.vm) qK⟩, fun U hU hW => ⟨rfl, by rw [hU]; exact hPc, va_K.moved hW.alike hKc⟩⟩ rfl rfl hl.1 rfl (lv_room (Nat.le_of_ble_eq_true rfl)) dX12_laysWorth_90 ⟨hRc, hRs⟩) hS (fun q _ h => h.elim) (fun q h => h.elim) (fun r_1011 u t H1 locs ht hvm hw hB hz1 hk1 hS => ?_)
          have hP := gz_keep hP hk1
          generalize H1 = H at hP hS ⊢
          have gr_1011 : gi r_1011 0 6874 := hw
          refine lv_ldcw (own := RX12) (v := 100000000) hx hb hown (hts _ (List.mem_cons_of_mem _ mGB_557)) dX12_laysWorth_93 ?_
          refine lv_iload hx hb dX12_laysWorth_96 (lv_at hl 6 rfl) ?_
          refine lv_iload hx hb dX12_laysWorth_98 (lv_at hl 0 rfl) ?_
          refine lv_iadd hx hb dX12_laysWorth_100 ?_
          refine lv_topi (fun x_1012 ex_1012 => ?_)
          refine va_mmin (own := RX12) hx hb (by rw [hml]; exact hl.1.symm) hown (hts _ (List.mem_cons_of_mem _ mGB_138)) (hts _ (List.mem_cons_of_mem _ mGB_97)) (hts _ (List.mem_cons_of_mem _ mGB_98)) (hts _ (List.mem_cons_of_mem _ mGB_99)) (Nat.le_trans (Nat.le_of_ble_eq_true rfl) hRf) (Nat.le_trans (Nat.le_of_ble_eq_true rfl) hRl) hRc hRs dX12_laysWorth_101 ?_
          refine lv_topi (fun x_1013 ex_1013 => ?_)
          have gx_1013 : gi x_1013 (-2147483648) 100000000 := gi_min ex_1013 (gi_c 100000000 100000000 (by decide)) (gi_any x_1012) (by decide)
          refine va_iast hx hb hK hP hD hS 1 0 rfl rfl (gi_in gr_1011 (by decide)) dX12_laysWorth_104 (fun H locs hP hD hS => ?_)
          have hP : va_P (dC, dI) vwCl [(h0, .inr (12, fsMM mi mr)), ((mr 22), .inl (km_worth, 6875, .inl (upd z1 (r_1011 : Int32).toNatClampNeg x_1013))), ((mr 14), .inl (km_must, 25, .inl fm_must)), ((mr 15), .inl (km_least, 25, .inl fm_least)), ((mr 16), .inl (km_pin, 25, .inl fm_pin)), ((mr 4), .inl (km_struck, 24, .inl fm_struck)), ((mr 7), .inl (km_reportKnown, 24, .inl fm_reportKnown)), ((mr 5), .inl (km_reportMonth, 24, .inl fm_reportMonth)), ((mr 3), .inl (km_reportKind, 24, .inl fm_reportKind)), ((mr 6), .inl (km_reportDay, 24, .inl fm_reportDay)), ((mr 2), .inl (km_reportPlace, 24, .inl fm_reportPlace)), ((mr 0), .inl (km_trust, 6, .inl fm_trust))] H := hP
          have hD : va_D A [(h0, .inr (12, fsMM mi mr)), ((mr 22), .inl (km_worth, 6875, .inl (upd z1 (r_1011 : Int32).toNatClampNeg x_1013))), ((mr 14), .inl (km_must, 25, .inl fm_must)), ((mr 15), .inl (km_least, 25, .inl fm_least)), ((mr 16), .inl (km_pin, 25, .inl fm_pin)), ((mr 4), .inl (km_struck, 24, .inl fm_struck)), ((mr 7), .inl (km_reportKnown, 24, .inl fm_reportKnown)), ((mr 5), .inl (km_reportMonth, 24, .inl fm_reportMonth)), ((mr 3), .inl (km_reportKind, 24, .inl fm_reportKind)), ((mr 6), .inl (km_reportDay, 24, .inl fm_reportDay)), ((mr 2), .inl (km_reportPlace, 24, .inl fm_reportPlace)), ((mr 0), .inl (km_trust, 6, .inl fm_trust))] := hD
          generalize upd z1 (r_1011 : Int32).toNatClampNeg x_1013 = f_1014 at hP hD
          obtain ⟨x_1015, ex_1015⟩ : ∃ y : Int32, y = v6 + 1 := ⟨_, rfl⟩
          have gx_1015 : gi x_1015 1 11 := gi_add ex_1015 g_999 (gi_c 1 1 (by decide)) (by decide)
          refine lv_iinc (v := x_1015) (lv' := [(6, .int x_1015), (7, .int 0), (0, .ref h0), (1, .int p1), (2, .int p2), (3, .int v3), (4, .int v4), (5, .int v5)]) hx hb dX12_laysWorth_105 hl (k := 7) rfl (by rw [ex_1015]; rfl) (by decide) rfl (fun ls hl => ?_)
          refine lv_goto (tgt := 37) hx hb dX12_laysWorth_108 (by decide) ?_
          exact ih.2.2.1 v3 v4 v5 x_1015 f_1014 _ _ _ gv3 gv4 (gi_w gx_1015 (by decide)) (by have qgmi_0 := gmi_0.1; have rgmi_0 := gmi_0.2; have qgv3 := gv3.1; have rgv3 := gv3.2; omega) (by have qgv3 := gv3.1; have rgv3 := gv3.2; have qgv4 := gv4.1; have rgv4 := gv4.2; omega) (by have av3 := gv3.1; have bv3 := gv3.2; have av4 := gv4.1; have bv4 := gv4.2; have av6 := gv6.1; have bv6 := gv6.2; have qgx_1015 := gx_1015.1; have rgx_1015 := gx_1015.2; have igx_1015 : x_1015.toInt = v6.toInt + 1 := (by have hc1 : (1 : Int32).toInt = 1 := (by decide); have h9 := gi_addI ex_1015 (by have h1 := g_999.1; have h2 := (gi_c 1 1 (by decide)).1; have h3 := g_999.2; have h4 := (gi_c 1 1 (by decide)).2; omega) (by have h1 := g_999.1; have h2 := (gi_c 1 1 (by decide)).1; have h3 := g_999.2; have h4 := (gi_c 1 1 (by decide)).2; omega); rw [hc1] at h9; exact h9); have qgv6 := g_999.1; have rgv6 := g_999.2; have qgv4 := gv4.1; have rgv4 := gv4.2; have qgv3 := gv3.1; have rgv3 := gv3.2; omega) hP hD hS (lv_sub hl [2, 3, 4, 5, 6, 7, 0] rfl)
    · intro v3 v4 v5 w0_54 z1 H locs ls gv3 gv4 gv5 hle_gv3_gv5 hmu hP hD hS hl
      refine lv_iload hx hb dX12_laysWorth_136 (lv_at hl 5 rfl) ?_
      refine lv_aload_n hx hb dX12_laysWorth_138 rfl (lv_at hl 0 rfl) ?_
      refine va_get (D := (dC, dI)) (ci := 12) (v := .int (mi 0)) (C := RX12) (T := TX12) (N := 57) hx hb hts (fun w h => List.mem_cons_of_mem _ (jnGB_X12 w h)) hown hK hP 0 rfl rfl 0 (by decide) (hts _ (List.mem_cons_of_mem _ mGB_103)) (fun _ h9 => h9) rfl dX12_laysWorth_139 ?_
      refine lv_icmp_ge (tgt := 210) hx hb dX12_laysWorth_142 (by decide) (fun c_1016 => ?_) (fun c_1016 => ?_)
      · refine lv_aload_n hx hb dX12_laysWorth_210 rfl (lv_at hl 0 rfl) ?_
        refine va_get (D := (dC, dI)) (ci := 12) (v := .ref (mr 22)) (C := RX12) (T := TX12) (N := 57) hx hb hts (fun w h => List.mem_cons_of_mem _ (jnGB_X12 w h)) hown hK hP 0 rfl rfl 53 (by decide) (hts _ (List.mem_cons_of_mem _ mGB_38)) (fun _ h9 => h9) rfl dX12_laysWorth_211 ?_
        refine lv_iconst (v := 0) hx hb dX12_laysWorth_214 (by decide) ?_
        refine va_iald hx hb hK hP 1 0 rfl rfl (gi_in (gi_c 0 0 (by decide)) (by decide)) dX12_laysWorth_215 ?_
        refine lv_topi (fun x_1017 ex_1017 => ?_)
        exact kr216 x_1017 w0_54 z1 _ _ _ hP hD hS (lv_sub hl [] rfl)
      · have g_1018 : gi v5 0 23 := gi_lt_l (Int32.not_le.mp c_1016) gv5 gmi_0 (by decide)
        have g_1019 : gi v3 0 23 := gi_rel hle_gv3_gv5 gv3 g_1018
        have g_1020 : gi (mi 0) 1 24 := gi_lt_r (Int32.not_le.mp c_1016) gv5 gmi_0 (by decide)
        refine lv_aload_n hx hb dX12_laysWorth_145 rfl (lv_at hl 0 rfl) ?_
        refine lv_iload hx hb dX12_laysWorth_146 (lv_at hl 5 rfl) ?_
        refine lv_iload_n hx hb dX12_laysWorth_148 rfl (lv_at hl 3 rfl) ?_
        refine lv_iload hx hb dX12_laysWorth_149 (lv_at hl 4 rfl) ?_
        refine lv_iconst (v := 0) hx hb dX12_laysWorth_151 (by decide) ?_
        have hPc := hP.sub (ws' := [(h0, .inr (12, fsMM (upd mi 54 w0_54) mr)), ((mr 22), .inl (km_worth, 6875, .inl z1))]) [0, 1] rfl
        have hKc := hK.sub (tys' := [(km_worth, .int)]) [0] rfl
        refine va_calli (va_runV (As := [.int v5, .int v3, .int v4, .int 0]) (rest := []) ⟨hx, hb, hml, hown, hts⟩ (sX12_worthBy l dC dI h0 (upd mi 54 w0_54) mr km_worth z1 v5 v3 v4 0 (gi_w g_1020 (by decide)) gmi_1 gmi_2 gmi_4 gmi_7 gmi_10 gmi_17 gmi_23 gmi_24 gmi_26 gmi_29 gmi_30 gmi_33 gmi_37 gmi_41 gmi_50 gmi_51 gmi_56 g_1018 g_1019 gv4 (gi_w (gi_c 0 0 (by decide)) (by decide))) (cwV 4 hts (gz_gV mGB_563 mGB_564 mGB_565 mGB_1 mGB_566 goodGB) rfl rfl rfl (by decide +kernel) ⟨Nat.le_trans (Nat.le_of_ble_eq_true rfl) hRf, Nat.le_trans (Nat.le_of_ble_eq_true rfl) hRl⟩) ⟨fun a U g mk q => by obtain ⟨q0, qP, qK⟩ := q; exact ⟨q0, qP, va_K.moved (u := U) (U := U.calling g mk a) (Vm.Alike.refl U.vm) qK⟩, va_recv hKc hPc (ci := 12) (q0 := 0) rfl rfl, fun U hU hW => ⟨rfl, by rw [hU]; exact hPc, va_K.moved hW.alike hKc⟩⟩ rfl rfl hl.1 rfl (lv_room (Nat.le_of_ble_eq_true rfl)) dX12_laysWorth_152 ⟨hRc, hRs⟩) hS (fun q _ h => h.elim) (fun q h => h.elim) (fun r_1021 u t H1 locs ht hvm hw hB hz1 hk1 hS => ?_)
        have hP := gz_keep hP hk1
        generalize H1 = H at hP hS ⊢
        refine lv_aload_n hx hb dX12_laysWorth_155 rfl (lv_at hl 0 rfl) ?_
        refine lv_iload hx hb dX12_laysWorth_156 (lv_at hl 5 rfl) ?_
        refine lv_iload_n hx hb dX12_laysWorth_158 rfl (lv_at hl 3 rfl) ?_
        refine lv_iload hx hb dX12_laysWorth_159 (lv_at hl 4 rfl) ?_
        refine lv_iconst (v := 1) hx hb dX12_laysWorth_161 (by decide) ?_
        have hPc := hP.sub (ws' := [(h0, .inr (12, fsMM (upd mi 54 w0_54) mr)), ((mr 22), .inl (km_worth, 6875, .inl z1))]) [0, 1] rfl
        have hKc := hK.sub (tys' := [(km_worth, .int)]) [0] rfl
        refine va_calli (va_runV (As := [.int v5, .int v3, .int v4, .int 1]) (rest := [.int r_1021]) ⟨hx, hb, hml, hown, hts⟩ (sX12_worthBy l dC dI h0 (upd mi 54 w0_54) mr km_worth z1 v5 v3 v4 1 (gi_w g_1020 (by decide)) gmi_1 gmi_2 gmi_4 gmi_7 gmi_10 gmi_17 gmi_23 gmi_24 gmi_26 gmi_29 gmi_30 gmi_33 gmi_37 gmi_41 gmi_50 gmi_51 gmi_56 g_1018 g_1019 gv4 (gi_w (gi_c 1 1 (by decide)) (by decide))) (cwV 4 hts (gz_gV mGB_563 mGB_564 mGB_565 mGB_1 mGB_566 goodGB) rfl rfl rfl (by decide +kernel) ⟨Nat.le_trans (Nat.le_of_ble_eq_true rfl) hRf, Nat.le_trans (Nat.le_of_ble_eq_true rfl) hRl⟩) ⟨fun a U g mk q => by obtain ⟨q0, qP, qK⟩ := q; exact ⟨q0, qP, va_K.moved (u := U) (U := U.calling g mk a) (Vm.Alike.refl U.vm) qK⟩, va_recv hKc hPc (ci := 12) (q0 := 0) rfl rfl, fun U hU hW => ⟨rfl, by rw [hU]; exact hPc, va_K.moved hW.alike hKc⟩⟩ rfl rfl hl.1 rfl (lv_room (Nat.le_of_ble_eq_true rfl)) dX12_laysWorth_162 ⟨hRc, hRs⟩) hS (fun q _ h => h.elim) (fun q h => h.elim) (fun r_1022 u t H1 locs ht hvm hw hB hz1 hk1 hS => ?_)
        have hP := gz_keep hP hk1
        generalize H1 = H at hP hS ⊢
        refine lv_icmp_gt (tgt := 172) hx hb dX12_laysWorth_165 (by decide) (fun c_1023 => ?_) (fun c_1023 => ?_)
        · have g_1024 : gi r_1022 (-2147483648) 2147483646 := gi_lt_l c_1023 (gi_any r_1022) (gi_any r_1021) (by decide)
          have g_1025 : gi r_1021 (-2147483647) 2147483647 := gi_lt_r c_1023 (gi_any r_1022) (gi_any r_1021) (by decide)
          refine lv_iconst (v := 1) hx hb dX12_laysWorth_172 (by decide) ?_
          refine lv_istore (lv' := [(6, .int 1), (0, .ref h0), (1, .int p1), (2, .int p2), (3, .int v3), (4, .int v4), (5, .int v5)]) hx hb dX12_laysWorth_173 hl (by decide) rfl (fun ls hl => ?_)
          refine lv_aload_n hx hb dX12_laysWorth_175 rfl (lv_at hl 1 rfl) ?_
          refine lv_iload hx hb dX12_laysWorth_176 (lv_at hl 5 rfl) ?_
          refine lv_iload hx hb dX12_laysWorth_178 (lv_at hl 0 rfl) ?_
          have hPc := hP.sub (ws' := [(h0, .inr (12, fsMM (upd mi 54 w0_54) mr))]) [0] rfl
          have hKc := hK.sub (tys' := []) [] rfl
          refine va_calli (va_runV (As := [.int v4, .int 1]) (rest := []) ⟨hx, hb, hml, hown, hts⟩ (sX12_runBehind l dC dI h0 (upd mi 54 w0_54) mr v4 1 (gi_w g_1020 (by decide)) gmi_1 gmi_2 gmi_4 gmi_7 gmi_10 gmi_17 gmi_23 gmi_24 gmi_26 gmi_29 gmi_30 gmi_33 gmi_37 gmi_41 gmi_50 gmi_51 gmi_56 gv4 (gi_w (gi_c 1 1 (by decide)) (by decide))) (cwV 2 hts (gz_gV mGB_311 mGB_312 mGB_313 mGB_1 mGB_314 goodGB) rfl rfl rfl (by decide +kernel) ⟨Nat.le_trans (Nat.le_of_ble_eq_true rfl) hRf, Nat.le_trans (Nat.le_of_ble_eq_true rfl) hRl⟩) ⟨fun a U g mk q => by obtain ⟨q0, qP, qK⟩ := q; exact ⟨q0, qP, va_K.moved (u := U) (U := U.calling g mk a) (Vm.Alike.refl U.vm) qK⟩, va_recv hKc hPc (ci := 12) (q0 := 0) rfl rfl, fun U hU hW => ⟨rfl, by rw [hU]; exact hPc, va_K.moved hW.alike hKc⟩⟩ rfl rfl hl.1 rfl (lv_room (Nat.le_of_ble_eq_true rfl)) dX12_laysWorth_180 ⟨hRc, hRs⟩) hS (fun q _ h => h.elim) (fun q h => h.elim) (fun r_1026 u t H1 locs ht hvm hw hB hz1 hk1 hS => ?_)
          have hP := gz_keep hP hk1
          generalize H1 = H at hP hS ⊢
          have gr_1026 : gi r_1026 (-1) 10 := hw
          refine lv_istore (lv' := [(4, .int r_1026), (6, .int 1), (0, .ref h0), (1, .int p1), (2, .int p2), (3, .int v3), (5, .int v5)]) hx hb dX12_laysWorth_183 hl (by decide) rfl (fun ls hl => ?_)
          refine lv_iload_n hx hb dX12_laysWorth_185 rfl (lv_at hl 5 rfl) ?_
          refine lv_iload hx hb dX12_laysWorth_186 (lv_at hl 1 rfl) ?_
          refine lv_iadd hx hb dX12_laysWorth_188 ?_
          refine lv_topi (fun x_1027 ex_1027 => ?_)
          have gx_1027 : gi x_1027 1 24 := gi_add ex_1027 g_1019 (gi_c 1 1 (by decide)) (by decide)
          refine lv_istore_n (lv' := [(3, .int x_1027), (4, .int r_1026), (6, .int 1), (0, .ref h0), (1, .int p1), (2, .int p2), (5, .int v5)]) hx hb dX12_laysWorth_189 rfl hl (by decide) rfl (fun ls hl => ?_)
          refine lv_aload_n hx hb dX12_laysWorth_190 rfl (lv_at hl 3 rfl) ?_
          refine lv_dup hx hb dX12_laysWorth_191 rfl ?_
          refine va_get (D := (dC, dI)) (ci := 12) (v := .int w0_54) (C := RX12) (T := TX12) (N := 57) hx hb hts (fun w h => List.mem_cons_of_mem _ (jnGB_X12 w h)) hown hK hP 0 rfl rfl 54 (by decide) (hts _ (List.mem_cons_of_mem _ mGB_552)) (fun _ h9 => h9) rfl dX12_laysWorth_192 ?_
          refine lv_iload hx hb dX12_laysWorth_195 (lv_at hl 2 rfl) ?_
          refine lv_iload hx hb dX12_laysWorth_197 (lv_at hl 6 rfl) ?_
          refine lv_ishl hx hb dX12_laysWorth_199 ?_
          refine lv_topi (fun x_1028 ex_1028 => ?_)
          refine lv_ior hx hb dX12_laysWorth_200 ?_
          refine lv_topi (fun x_1029 ex_1029 => ?_)
          refine va_put (D := (dC, dI)) (ci := 12) (v := .int x_1029) (ty := .int) (C := RX12) (T := TX12) (N := 57) hx hb hts (fun w h => List.mem_cons_of_mem _ (jnGB_X12 w h)) tyX12 tyX12_ok nmX12 hown hK hP hD hS 0 rfl rfl 54 (by decide) (hts _ (List.mem_cons_of_mem _ mGB_552)) (fun _ h9 => h9) rfl (by decide +kernel) rfl rfl (Nat.le_of_ble_eq_true rfl) dX12_laysWorth_201 (fun H locs hP hD hS => ?_)
          have hP : va_P (dC, dI) vwCl [(h0, .inr (12, fsMM (upd mi 54 x_1029) mr)), ((mr 22), .inl (km_worth, 6875, .inl z1)), ((mr 14), .inl (km_must, 25, .inl fm_must)), ((mr 15), .inl (km_least, 25, .inl fm_least)), ((mr 16), .inl (km_pin, 25, .inl fm_pin)), ((mr 4), .inl (km_struck, 24, .inl fm_struck)), ((mr 7), .inl (km_reportKnown, 24, .inl fm_reportKnown)), ((mr 5), .inl (km_reportMonth, 24, .inl fm_reportMonth)), ((mr 3), .inl (km_reportKind, 24, .inl fm_reportKind)), ((mr 6), .inl (km_reportDay, 24, .inl fm_reportDay)), ((mr 2), .inl (km_reportPlace, 24, .inl fm_reportPlace)), ((mr 0), .inl (km_trust, 6, .inl fm_trust))] H := hP
          have hD : va_D A [(h0, .inr (12, fsMM (upd mi 54 x_1029) mr)), ((mr 22), .inl (km_worth, 6875, .inl z1)), ((mr 14), .inl (km_must, 25, .inl fm_must)), ((mr 15), .inl (km_least, 25, .inl fm_least)), ((mr 16), .inl (km_pin, 25, .inl fm_pin)), ((mr 4), .inl (km_struck, 24, .inl fm_struck)), ((mr 7), .inl (km_reportKnown, 24, .inl fm_reportKnown)), ((mr 5), .inl (km_reportMonth, 24, .inl fm_reportMonth)), ((mr 3), .inl (km_reportKind, 24, .inl fm_reportKind)), ((mr 6), .inl (km_reportDay, 24, .inl fm_reportDay)), ((mr 2), .inl (km_reportPlace, 24, .inl fm_reportPlace)), ((mr 0), .inl (km_trust, 6, .inl fm_trust))] := hD
          obtain ⟨x_1030, ex_1030⟩ : ∃ y : Int32, y = v5 + 1 := ⟨_, rfl⟩
          have gx_1030 : gi x_1030 1 24 := gi_add ex_1030 g_1018 (gi_c 1 1 (by decide)) (by decide)
          refine lv_iinc (v := x_1030) (lv' := [(5, .int x_1030), (3, .int x_1027), (4, .int r_1026), (6, .int 1), (0, .ref h0), (1, .int p1), (2, .int p2)]) hx hb dX12_laysWorth_204 hl (k := 6) rfl (by rw [ex_1030]; rfl) (by decide) rfl (fun ls hl => ?_)
          refine lv_goto (tgt := 136) hx hb dX12_laysWorth_207 (by decide) ?_
          exact ih.2.2.2 x_1027 r_1026 x_1030 x_1029 z1 _ _ _ (gi_w gx_1027 (by decide)) gr_1026 (gi_w gx_1030 (by decide)) (by have qgx_1030 := gx_1030.1; have rgx_1030 := gx_1030.2; have igx_1030 : x_1030.toInt = v5.toInt + 1 := (by have hc1 : (1 : Int32).toInt = 1 := (by decide); have h9 := gi_addI ex_1030 (by have h1 := g_1018.1; have h2 := (gi_c 1 1 (by decide)).1; have h3 := g_1018.2; have h4 := (gi_c 1 1 (by decide)).2; omega) (by have h1 := g_1018.1; have h2 := (gi_c 1 1 (by decide)).1; have h3 := g_1018.2; have h4 := (gi_c 1 1 (by decide)).2; omega); rw [hc1] at h9; exact h9); have qgv5 := g_1018.1; have rgv5 := g_1018.2; have qgx_1027 := gx_1027.1; have rgx_1027 := gx_1027.2; have igx_1027 : x_1027.toInt = v3.toInt + 1 := (by have hc1 : (1 : Int32).toInt = 1 := (by decide); have h9 := gi_addI ex_1027 (by have h1 := g_1019.1; have h2 := (gi_c 1 1 (by decide)).1; have h3 := g_1019.2; have h4 := (gi_c 1 1 (by decide)).2; omega) (by have h1 := g_1019.1; have h2 := (gi_c 1 1 (by decide)).1; have h3 := g_1019.2; have h4 := (gi_c 1 1 (by decide)).2; omega); rw [hc1] at h9; exact h9); have qgv3 := g_1019.1; have rgv3 := g_1019.2; have y1 := (Int32.lt_iff_toInt_lt.mp (Int32.not_le.mp c_1016)); have y2 := (Int32.lt_iff_toInt_lt.mp c_1023); omega) (by have av5 := gv5.1; have bv5 := gv5.2; have qgx_1030 := gx_1030.1; have rgx_1030 := gx_1030.2; have igx_1030 : x_1030.toInt = v5.toInt + 1 := (by have hc1 : (1 : Int32).toInt = 1 := (by decide); have h9 := gi_addI ex_1030 (by have h1 := g_1018.1; have h2 := (gi_c 1 1 (by decide)).1; have h3 := g_1018.2; have h4 := (gi_c 1 1 (by decide)).2; omega) (by have h1 := g_1018.1; have h2 := (gi_c 1 1 (by decide)).1; have h3 := g_1018.2; have h4 := (gi_c 1 1 (by decide)).2; omega); rw [hc1] at h9; exact h9); have qgv5 := g_1018.1; have rgv5 := g_1018.2; omega) hP hD hS (lv_sub hl [4, 5, 6, 1, 2, 0] rfl)
        · refine lv_iconst (v := 0) hx hb dX12_laysWorth_168 (by decide) ?_
          refine lv_goto (tgt := 173) hx hb dX12_laysWorth_169 (by decide) ?_
          refine lv_istore (lv' := [(6, .int 0), (0, .ref h0), (1, .int p1), (2, .int p2), (3, .int v3), (4, .int v4), (5, .int v5)]) hx hb dX12_laysWorth_173 hl (by decide) rfl (fun ls hl => ?_)
          refine lv_aload_n hx hb dX12_laysWorth_175 rfl (lv_at hl 1 rfl) ?_
          refine lv_iload hx hb dX12_laysWorth_176 (lv_at hl 5 rfl) ?_
          refine lv_iload hx hb dX12_laysWorth_178 (lv_at hl 0 rfl) ?_
          have hPc := hP.sub (ws' := [(h0, .inr (12, fsMM (upd mi 54 w0_54) mr))]) [0] rfl
          have hKc := hK.sub (tys' := []) [] rfl
          refine va_calli (va_runV (As := [.int v4, .int 0]) (rest := []) ⟨hx, hb, hml, hown, hts⟩ (sX12_runBehind l dC dI h0 (upd mi 54 w0_54) mr v4 0 (gi_w g_1020 (by decide)) gmi_1 gmi_2 gmi_4 gmi_7 gmi_10 gmi_17 gmi_23 gmi_24 gmi_26 gmi_29 gmi_30 gmi_33 gmi_37 gmi_41 gmi_50 gmi_51 gmi_56 gv4 (gi_w (gi_c 0 0 (by decide)) (by decide))) (cwV 2 hts (gz_gV mGB_311 mGB_312 mGB_313 mGB_1 mGB_314 goodGB) rfl rfl rfl (by decide +kernel) ⟨Nat.le_trans (Nat.le_of_ble_eq_true rfl) hRf, Nat.le_trans (Nat.le_of_ble_eq_true rfl) hRl⟩) ⟨fun a U g mk q => by obtain ⟨q0, qP, qK⟩ := q; exact ⟨q0, qP, va_K.moved (u := U) (U := U.calling g mk a) (Vm.Alike.refl U.vm) qK⟩, va_recv hKc hPc (ci := 12) (q0 := 0) rfl rfl, fun U hU hW => ⟨rfl, by rw [hU]; exact hPc, va_K.moved hW.alike hKc⟩⟩ rfl rfl hl.1 rfl (lv_room (Nat.le_of_ble_eq_true rfl)) dX12_laysWorth_180 ⟨hRc, hRs⟩) hS (fun q _ h => h.elim) (fun q h => h.elim) (fun r_1031 u t H1 locs ht hvm hw hB hz1 hk1 hS => ?_)
          have hP := gz_keep hP hk1
          generalize H1 = H at hP hS ⊢
          have gr_1031 : gi r_1031 (-1) 10 := hw
          refine lv_istore (lv' := [(4, .int r_1031), (6, .int 0), (0, .ref h0), (1, .int p1), (2, .int p2), (3, .int v3), (5, .int v5)]) hx hb dX12_laysWorth_183 hl (by decide) rfl (fun ls hl => ?_)
          refine lv_iload_n hx hb dX12_laysWorth_185 rfl (lv_at hl 5 rfl) ?_
          refine lv_iload hx hb dX12_laysWorth_186 (lv_at hl 1 rfl) ?_
          refine lv_iadd hx hb dX12_laysWorth_188 ?_
          refine lv_topi (fun x_1032 ex_1032 => ?_)
          have gx_1032 : gi x_1032 0 23 := gi_add ex_1032 g_1019 (gi_c 0 0 (by decide)) (by decide)
          refine lv_istore_n (lv' := [(3, .int x_1032), (4, .int r_1031), (6, .int 0), (0, .ref h0), (1, .int p1), (2, .int p2), (5, .int v5)]) hx hb dX12_laysWorth_189 rfl hl (by decide) rfl (fun ls hl => ?_)
          refine lv_aload_n hx hb dX12_laysWorth_190 rfl (lv_at hl 3 rfl) ?_
          refine lv_dup hx hb dX12_laysWorth_191 rfl ?_
          refine va_get (D := (dC, dI)) (ci := 12) (v := .int w0_54) (C := RX12) (T := TX12) (N := 57) hx hb hts (fun w h => List.mem_cons_of_mem _ (jnGB_X12 w h)) hown hK hP 0 rfl rfl 54 (by decide) (hts _ (List.mem_cons_of_mem _ mGB_552)) (fun _ h9 => h9) rfl dX12_laysWorth_192 ?_
          refine lv_iload hx hb dX12_laysWorth_195 (lv_at hl 2 rfl) ?_
          refine lv_iload hx hb dX12_laysWorth_197 (lv_at hl 6 rfl) ?_
          refine lv_ishl hx hb dX12_laysWorth_199 ?_
          refine lv_topi (fun x_1033 ex_1033 => ?_)
          refine lv_ior hx hb dX12_laysWorth_200 ?_
          refine lv_topi (fun x_1034 ex_1034 => ?_)
          refine va_put (D := (dC, dI)) (ci := 12) (v := .int x_1034) (ty := .int) (C := RX12) (T := TX12) (N := 57) hx hb hts (fun w h => List.mem_cons_of_mem _ (jnGB_X12 w h)) tyX12 tyX12_ok nmX12 hown hK hP hD hS 0 rfl rfl 54 (by decide) (hts _ (List.mem_cons_of_mem _ mGB_552)) (fun _ h9 => h9) rfl (by decide +kernel) rfl rfl (Nat.le_of_ble_eq_true rfl) dX12_laysWorth_201 (fun H locs hP hD hS => ?_)
          have hP : va_P (dC, dI) vwCl [(h0, .inr (12, fsMM (upd mi 54 x_1034) mr)), ((mr 22), .inl (km_worth, 6875, .inl z1)), ((mr 14), .inl (km_must, 25, .inl fm_must)), ((mr 15), .inl (km_least, 25, .inl fm_least)), ((mr 16), .inl (km_pin, 25, .inl fm_pin)), ((mr 4), .inl (km_struck, 24, .inl fm_struck)), ((mr 7), .inl (km_reportKnown, 24, .inl fm_reportKnown)), ((mr 5), .inl (km_reportMonth, 24, .inl fm_reportMonth)), ((mr 3), .inl (km_reportKind, 24, .inl fm_reportKind)), ((mr 6), .inl (km_reportDay, 24, .inl fm_reportDay)), ((mr 2), .inl (km_reportPlace, 24, .inl fm_reportPlace)), ((mr 0), .inl (km_trust, 6, .inl fm_trust))] H := hP
          have hD : va_D A [(h0, .inr (12, fsMM (upd mi 54 x_1034) mr)), ((mr 22), .inl (km_worth, 6875, .inl z1)), ((mr 14), .inl (km_must, 25, .inl fm_must)), ((mr 15), .inl (km_least, 25, .inl fm_least)), ((mr 16), .inl (km_pin, 25, .inl fm_pin)), ((mr 4), .inl (km_struck, 24, .inl fm_struck)), ((mr 7), .inl (km_reportKnown, 24, .inl fm_reportKnown)), ((mr 5), .inl (km_reportMonth, 24, .inl fm_reportMonth)), ((mr 3), .inl (km_reportKind, 24, .inl fm_reportKind)), ((mr 6), .inl (km_reportDay, 24, .inl fm_reportDay)), ((mr 2), .inl (km_reportPlace, 24, .inl fm_reportPlace)), ((mr 0), .inl (km_trust, 6, .inl fm_trust))] := hD
          obtain ⟨x_1035, ex_1035⟩ : ∃ y : Int32, y = v5 + 1 := ⟨_, rfl⟩
          have gx_1035 : gi x_1035 1 24 := gi_add ex_1035 g_1018 (gi_c 1 1 (by decide)) (by decide)
          refine lv_iinc (v := x_1035) (lv' := [(5, .int x_1035), (3, .int x_1032), (4, .int r_1031), (6, .int 0), (0, .ref h0), (1, .int p1), (2, .int p2)]) hx hb dX12_laysWorth_204 hl (k := 6) rfl (by rw [ex_1035]; rfl) (by decide) rfl (fun ls hl => ?_)
          refine lv_goto (tgt := 136) hx hb dX12_laysWorth_207 (by decide) ?_
          exact ih.2.2.2 x_1032 r_1031 x_1035 x_1034 z1 _ _ _ (gi_w gx_1032 (by decide)) gr_1031 (gi_w gx_1035 (by decide)) (by have qgx_1035 := gx_1035.1; have rgx_1035 := gx_1035.2; have igx_1035 : x_1035.toInt = v5.toInt + 1 := (by have hc1 : (1 : Int32).toInt = 1 := (by decide); have h9 := gi_addI ex_1035 (by have h1 := g_1018.1; have h2 := (gi_c 1 1 (by decide)).1; have h3 := g_1018.2; have h4 := (gi_c 1 1 (by decide)).2; omega) (by have h1 := g_1018.1; have h2 := (gi_c 1 1 (by decide)).1; have h3 := g_1018.2; have h4 := (gi_c 1 1 (by decide)).2; omega); rw [hc1] at h9; exact h9); have qgv5 := g_1018.1; have rgv5 := g_1018.2; have qgx_1032 := gx_1032.1; have rgx_1032 := gx_1032.2; have igx_1032 : x_1032.toInt = v3.toInt + 0 := (by have hc0 : (0 : Int32).toInt = 0 := (by decide); have h9 := gi_addI ex_1032 (by have h1 := g_1019.1; have h2 := (gi_c 0 0 (by decide)).1; have h3 := g_1019.2; have h4 := (gi_c 0 0 (by decide)).2; omega) (by have h1 := g_1019.1; have h2 := (gi_c 0 0 (by decide)).1; have h3 := g_1019.2; have h4 := (gi_c 0 0 (by decide)).2; omega); rw [hc0] at h9; exact h9); have qgv3 := g_1019.1; have rgv3 := g_1019.2; have y1 := (Int32.lt_iff_toInt_lt.mp (Int32.not_le.mp c_1016)); have y2 := (Int32.le_iff_toInt_le.mp (Int32.not_lt.mp c_1023)); omega) (by have av5 := gv5.1; have bv5 := gv5.2; have qgx_1035 := gx_1035.1; have rgx_1035 := gx_1035.2; have igx_1035 : x_1035.toInt = v5.toInt + 1 := (by have hc1 : (1 : Int32).toInt = 1 := (by decide); have h9 := gi_addI ex_1035 (by have h1 := g_1018.1; have h2 := (gi_c 1 1 (by decide)).1; have h3 := g_1018.2; have h4 := (gi_c 1 1 (by decide)).2; omega) (by have h1 := g_1018.1; have h2 := (gi_c 1 1 (by decide)).1; have h3 := g_1018.2; have h4 := (gi_c 1 1 (by decide)).2; omega); rw [hc1] at h9; exact h9); have qgv5 := g_1018.1; have rgv5 := g_1018.2; omega) hP hD hS (lv_sub hl [4, 5, 6, 1, 2, 0] rfl)
set_option maxHeartbeats 4000000 in
set_option maxRecDepth 100000 in
theorem sX12_laysWorth (l : Launch) (dC : Nat → ClassId) (dI : Nat → Nat → Nat) (sz : Nat) (h0 : Nat) (mi : Nat → Int32) (mr : Nat → Nat) (km_worth : ClassId) (fm_worth : Nat → Int32) (km_must : ClassId) (fm_must : Nat → Int32) (km_least : ClassId) (fm_least : Nat → Int32) (km_pin : ClassId) (fm_pin : Nat → Int32) (km_struck : ClassId) (fm_struck : Nat → Int32) (km_reportKnown : ClassId) (fm_reportKnown : Nat → Int32) (km_reportMonth : ClassId) (fm_reportMonth : Nat → Int32) (km_reportKind : ClassId) (fm_reportKind : Nat → Int32) (km_reportDay : ClassId) (fm_reportDay : Nat → Int32) (km_reportPlace : ClassId) (fm_reportPlace : Nat → Int32) (km_trust : ClassId) (fm_trust : Nat → Int32) (p1 : Int32) (p2 : Int32) (gmi_0 : gi (mi 0) 0 24) (gmi_1 : gi (mi 1) 0 5) (gmi_2 : gi (mi 2) 0 5) (gmi_4 : gi (mi 4) 0 1) (gmi_7 : gi (mi 7) 0 6) (gmi_10 : gi (mi 10) 0 24) (gmi_17 : gi (mi 17) 0 8) (gmi_23 : gi (mi 23) 0 300) (gmi_24 : gi (mi 24) 0 1) (gmi_26 : gi (mi 26) 0 1600) (gmi_29 : gi (mi 29) 0 1600) (gmi_30 : gi (mi 30) 0 1600) (gmi_33 : gi (mi 33) 0 1) (gmi_37 : gi (mi 37) 0 1) (gmi_41 : gi (mi 41) 0 24) (gmi_50 : gi (mi 50) 0 1) (gmi_51 : gi (mi 51) 0 1) (gmi_56 : gi (mi 56) 0 80) (gfm_struck : ga fm_struck 24 0 1) (gfm_reportKnown : ga fm_reportKnown 24 0 999) (gfm_reportMonth : ga fm_reportMonth 24 0 23) (gfm_reportDay : ga fm_reportDay 24 0 999) (gfm_reportPlace : ga fm_reportPlace 24 0 5) (gp2 : gi p2 0 1) : Met l yX12_laysWorth (.code yX12_laysWorth cX12_laysWorth 8 (some .int) :: wsGB) ({ frames := 2, cells := 0, slots := 0, locals := 49 }) (va_Pc [.ref h0, .int p1, .int p2] (fun U => U.heap.size = sz ∧ va_P (dC, dI) vwCl [(h0, .inr (12, fsMM mi mr)), ((mr 22), .inl (km_worth, 6875, .inl fm_worth)), ((mr 14), .inl (km_must, 25, .inl fm_must)), ((mr 15), .inl (km_least, 25, .inl fm_least)), ((mr 16), .inl (km_pin, 25, .inl fm_pin)), ((mr 4), .inl (km_struck, 24, .inl fm_struck)), ((mr 7), .inl (km_reportKnown, 24, .inl fm_reportKnown)), ((mr 5), .inl (km_reportMonth, 24, .inl fm_reportMonth)), ((mr 3), .inl (km_reportKind, 24, .inl fm_reportKind)), ((mr 6), .inl (km_reportDay, 24, .inl fm_reportDay)), ((mr 2), .inl (km_reportPlace, 24, .inl fm_reportPlace)), ((mr 0), .inl (km_trust, 6, .inl fm_trust))] U.heap ∧ va_K (dC, dI) vwCl [(km_worth, .int), (km_must, .int), (km_least, .int), (km_pin, .int), (km_struck, .boolean), (km_reportKnown, .int), (km_reportMonth, .int), (km_reportKind, .int), (km_reportDay, .int), (km_reportPlace, .int), (km_trust, .int)] U ∧ va_D (fun _ => True) [(h0, .inr (12, fsMM mi mr)), ((mr 22), .inl (km_worth, 6875, .inl fm_worth)), ((mr 14), .inl (km_must, 25, .inl fm_must)), ((mr 15), .inl (km_least, 25, .inl fm_least)), ((mr 16), .inl (km_pin, 25, .inl fm_pin)), ((mr 4), .inl (km_struck, 24, .inl fm_struck)), ((mr 7), .inl (km_reportKnown, 24, .inl fm_reportKnown)), ((mr 5), .inl (km_reportMonth, 24, .inl fm_reportMonth)), ((mr 3), .inl (km_reportKind, 24, .inl fm_reportKind)), ((mr 6), .inl (km_reportDay, 24, .inl fm_reportDay)), ((mr 2), .inl (km_reportPlace, 24, .inl fm_reportPlace)), ((mr 0), .inl (km_trust, 6, .inl fm_trust))])) (va_Qi (fun (r : Int32) (u : Unit) => gi r (-2147483648) 2147483647) (fun _ t => ∃ (w0_54 : Int32) (z1 : Nat → Int32), va_P (dC, dI) vwCl [(h0, .inr (12, fsMM (upd mi 54 w0_54) mr)), ((mr 22), .inl (km_worth, 6875, .inl z1)), ((mr 14), .inl (km_must, 25, .inl fm_must)), ((mr 15), .inl (km_least, 25, .inl fm_least)), ((mr 16), .inl (km_pin, 25, .inl fm_pin)), ((mr 4), .inl (km_struck, 24, .inl fm_struck)), ((mr 7), .inl (km_reportKnown, 24, .inl fm_reportKnown)), ((mr 5), .inl (km_reportMonth, 24, .inl fm_reportMonth)), ((mr 3), .inl (km_reportKind, 24, .inl fm_reportKind)), ((mr 6), .inl (km_reportDay, 24, .inl fm_reportDay)), ((mr 2), .inl (km_reportPlace, 24, .inl fm_reportPlace)), ((mr 0), .inl (km_trust, 6, .inl fm_trust))] t.heap ∧ va_D (va_A [(h0, .inr (12, fsMM mi mr)), ((mr 22), .inl (km_worth, 6875, .inl fm_worth)), ((mr 14), .inl (km_must, 25, .inl fm_must)), ((mr 15), .inl (km_least, 25, .inl fm_least)), ((mr 16), .inl (km_pin, 25, .inl fm_pin)), ((mr 4), .inl (km_struck, 24, .inl fm_struck)), ((mr 7), .inl (km_reportKnown, 24, .inl fm_reportKnown)), ((mr 5), .inl (km_reportMonth, 24, .inl fm_reportMonth)), ((mr 3), .inl (km_reportKind, 24, .inl fm_reportKind)), ((mr 6), .inl (km_reportDay, 24, .inl fm_reportDay)), ((mr 2), .inl (km_reportPlace, 24, .inl fm_reportPlace)), ((mr 0), .inl (km_trust, 6, .inl fm_trust))] sz) [(h0, .inr (12, fsMM (upd mi 54 w0_54) mr)), ((mr 22), .inl (km_worth, 6875, .inl z1)), ((mr 14), .inl (km_must, 25, .inl fm_must)), ((mr 15), .inl (km_least, 25, .inl fm_least)), ((mr 16), .inl (km_pin, 25, .inl fm_pin)), ((mr 4), .inl (km_struck, 24, .inl fm_struck)), ((mr 7), .inl (km_reportKnown, 24, .inl fm_reportKnown)), ((mr 5), .inl (km_reportMonth, 24, .inl fm_reportMonth)), ((mr 3), .inl (km_reportKind, 24, .inl fm_reportKind)), ((mr 6), .inl (km_reportDay, 24, .inl fm_reportDay)), ((mr 2), .inl (km_reportPlace, 24, .inl fm_reportPlace)), ((mr 0), .inl (km_trust, 6, .inl fm_trust))]) (va_A [(h0, .inr (12, fsMM mi mr)), ((mr 22), .inl (km_worth, 6875, .inl fm_worth)), ((mr 14), .inl (km_must, 25, .inl fm_must)), ((mr 15), .inl (km_least, 25, .inl fm_least)), ((mr 16), .inl (km_pin, 25, .inl fm_pin)), ((mr 4), .inl (km_struck, 24, .inl fm_struck)), ((mr 7), .inl (km_reportKnown, 24, .inl fm_reportKnown)), ((mr 5), .inl (km_reportMonth, 24, .inl fm_reportMonth)), ((mr 3), .inl (km_reportKind, 24, .inl fm_reportKind)), ((mr 6), .inl (km_reportDay, 24, .inl fm_reportDay)), ((mr 2), .inl (km_reportPlace, 24, .inl fm_reportPlace)), ((mr 0), .inl (km_trust, 6, .inl fm_trust))] sz)) 0 0 (va_A [(h0, .inr (12, fsMM mi mr)), ((mr 22), .inl (km_worth, 6875, .inl fm_worth)), ((mr 14), .inl (km_must, 25, .inl fm_must)), ((mr 15), .inl (km_least, 25, .inl fm_least)), ((mr 16), .inl (km_pin, 25, .inl fm_pin)), ((mr 4), .inl (km_struck, 24, .inl fm_struck)), ((mr 7), .inl (km_reportKnown, 24, .inl fm_reportKnown)), ((mr 5), .inl (km_reportMonth, 24, .inl fm_reportMonth)), ((mr 3), .inl (km_reportKind, 24, .inl fm_reportKind)), ((mr 6), .inl (km_reportDay, 24, .inl fm_reportDay)), ((mr 2), .inl (km_reportPlace, 24, .inl fm_reportPlace)), ((mr 0), .inl (km_trust, 6, .inl fm_trust))] sz) := by
  refine Met.ofW (cc := cX12_laysWorth) (maxL := 8) (ret := (some .int)) (by decide) rfl ?_
  intro p e s m args below meth c s₁ B hml hv
  obtain ⟨rfl, hsz, hP, hK, hD0⟩ := hv
  have hx := B.exec
  have hb := B.bytes
  have hr := B.returns
  have hts := atoms_spec (ws := (.code yX12_laysWorth cX12_laysWorth 8 (some .int) :: wsGB)) B.pre
  have hown : s.vm.findClass RX12 = some m.cls := findClass_of_methodNamed B.named
  have hlocks := B.notSynchronized
  subst hsz
  have hD := hD0.self (sz := s.heap.size)
  generalize hAe : va_A [(h0, .inr (12, fsMM mi mr)), ((mr 22), .inl (km_worth, 6875, .inl fm_worth)), ((mr 14), .inl (km_must, 25, .inl fm_must)), ((mr 15), .inl (km_least, 25, .inl fm_least)), ((mr 16), .inl (km_pin, 25, .inl fm_pin)), ((mr 4), .inl (km_struck, 24, .inl fm_struck)), ((mr 7), .inl (km_reportKnown, 24, .inl fm_reportKnown)), ((mr 5), .inl (km_reportMonth, 24, .inl fm_reportMonth)), ((mr 3), .inl (km_reportKind, 24, .inl fm_reportKind)), ((mr 6), .inl (km_reportDay, 24, .inl fm_reportDay)), ((mr 2), .inl (km_reportPlace, 24, .inl fm_reportPlace)), ((mr 0), .inl (km_trust, 6, .inl fm_trust))] s.heap.size = A at hD ⊢
  have hA : ∀ q : Nat, s.heap.size ≤ q → A q := fun q h => by rw [← hAe]; exact Or.inr h
  have hS : va_S A s.heap s.heap [] := va_S.rf
  have hl := lv_entry ([.ref h0, .int p1, .int p2]) (n := 8) (Nat.le_of_ble_eq_true rfl)
  rw [lg_entry_eq]
  generalize (lg_sl ([.ref h0, .int p1, .int p2]) ++ List.replicate (8 - (lg_sl ([.ref h0, .int p1, .int p2])).length) Slot.unset).toArray = ls at hl ⊢
  have hl : lv_has ls 8 [(0, .ref h0), (1, .int p1), (2, .int p2)] := hl
  refine lv_aload_n hx hb dX12_laysWorth_0 rfl (lv_at hl 0 rfl) ?_
  refine va_get (D := (dC, dI)) (ci := 12) (v := .int (mi 0)) (C := RX12) (T := TX12) (N := 57) hx hb hts (fun w h => List.mem_cons_of_mem _ (jnGB_X12 w h)) hown hK hP 0 rfl rfl 0 (by decide) (hts _ (List.mem_cons_of_mem _ mGB_103)) (fun _ h9 => h9) rfl dX12_laysWorth_1 ?_
  refine lv_istore_n (lv' := [(3, .int (mi 0)), (0, .ref h0), (1, .int p1), (2, .int p2)]) hx hb dX12_laysWorth_4 rfl hl (by decide) rfl (fun ls hl => ?_)
  refine (lp_sX12_laysWorth h0 mi mr km_worth fm_worth km_must fm_must km_least fm_least km_pin fm_pin km_struck fm_struck km_reportKnown fm_reportKnown km_reportMonth fm_reportMonth km_reportKind fm_reportKind km_reportDay fm_reportDay km_reportPlace fm_reportPlace km_trust fm_trust p1 p2 gmi_0 gmi_1 gmi_2 gmi_4 gmi_7 gmi_10 gmi_17 gmi_23 gmi_24 gmi_26 gmi_29 gmi_30 gmi_33 gmi_37 gmi_41 gmi_50 gmi_51 gmi_56 gfm_struck gfm_reportKnown gfm_reportMonth gfm_reportDay gfm_reportPlace gp2 hx hb hml hown hts hK hA (Nat.le_of_ble_eq_true rfl) (Nat.le_of_ble_eq_true rfl) (Nat.zero_le _) (Nat.zero_le _) (fun v w0_54 z1 H locs ls hP hD hS hl => ?_) 20528).1 (mi 0) fm_worth _ _ _ (gi_w gmi_0 (by decide)) (by have qgmi_0 := gmi_0.1; have rgmi_0 := gmi_0.2; omega) (by have qgmi_0 := gmi_0.1; have rgmi_0 := gmi_0.2; omega) hP hD hS (lv_sub hl [1, 2, 3, 0] rfl)
  · skip
    exact W.iret (v := v) hx hb hr (fun t ht hW => ⟨⟨v, (), rfl, (gi_any v), w0_54, z1, by rw [ht]; exact hP, hD⟩, hS.F ht⟩) hS.2.2 dX12_laysWorth_216
theorem dX12_nearest_0 : decode cX12_nearest 0 = .ok (.aload_n 0, 1) := by decide +kernel
theorem dX12_nearest_1 : decode cX12_nearest 1 = .ok (.iload_n 1, 1) := by decide +kernel
theorem dX12_nearest_2 : decode cX12_nearest 2 = .ok (.invokevirtual 359, 3) := by decide +kernel
theorem dX12_nearest_5 : decode cX12_nearest 5 = .ok (.ifCond .eq 20, 3) := by decide +kernel
theorem dX12_nearest_8 : decode cX12_nearest 8 = .ok (.aload_n 0, 1) := by decide +kernel
theorem dX12_nearest_9 : decode cX12_nearest 9 = .ok (.getfield 129, 3) := by decide +kernel
theorem dX12_nearest_12 : decode cX12_nearest 12 = .ok (.ifCond .eq 13, 3) := by decide +kernel
theorem dX12_nearest_15 : decode cX12_nearest 15 = .ok (.iload_n 2, 1) := by decide +kernel
theorem dX12_nearest_16 : decode cX12_nearest 16 = .ok (.i2l, 1) := by decide +kernel
theorem dX12_nearest_17 : decode cX12_nearest 17 = .ok (.lconst 0, 1) := by decide +kernel
theorem dX12_nearest_18 : decode cX12_nearest 18 = .ok (.lconst 1, 1) := by decide +kernel
theorem dX12_nearest_19 : decode cX12_nearest 19 = .ok (.invokestatic 102, 3) := by decide +kernel
theorem dX12_nearest_22 : decode cX12_nearest 22 = .ok (.ifCond .ne 6, 3) := by decide +kernel
theorem dX12_nearest_25 : decode cX12_nearest 25 = .ok (.bipush (-2), 2) := by decide +kernel
theorem dX12_nearest_27 : decode cX12_nearest 27 = .ok (.ireturn, 1) := by decide +kernel
theorem dX12_nearest_28 : decode cX12_nearest 28 = .ok (.aload_n 0, 1) := by decide +kernel
theorem dX12_nearest_29 : decode cX12_nearest 29 = .ok (.iload_n 1, 1) := by decide +kernel
theorem dX12_nearest_30 : decode cX12_nearest 30 = .ok (.invokevirtual 362, 3) := by decide +kernel
theorem dX12_nearest_33 : decode cX12_nearest 33 = .ok (.aload_n 0, 1) := by decide +kernel
theorem dX12_nearest_34 : decode cX12_nearest 34 = .ok (.iload_n 1, 1) := by decide +kernel
theorem dX12_nearest_35 : decode cX12_nearest 35 = .ok (.iconst 1, 1) := by decide +kernel
theorem dX12_nearest_36 : decode cX12_nearest 36 = .ok (.invokevirtual 482, 3) := by decide +kernel
theorem dX12_nearest_39 : decode cX12_nearest 39 = .ok (.istore_n 3, 1) := by decide +kernel
theorem dX12_nearest_40 : decode cX12_nearest 40 = .ok (.iload_n 2, 1) := by decide +kernel
theorem dX12_nearest_41 : decode cX12_nearest 41 = .ok (.ifCond .ne 7, 3) := by decide +kernel
theorem dX12_nearest_44 : decode cX12_nearest 44 = .ok (.iload_n 3, 1) := by decide +kernel
theorem dX12_nearest_45 : decode cX12_nearest 45 = .ok (.goto 7, 3) := by decide +kernel
theorem dX12_nearest_48 : decode cX12_nearest 48 = .ok (.aload_n 0, 1) := by decide +kernel
theorem dX12_nearest_49 : decode cX12_nearest 49 = .ok (.getfield 479, 3) := by decide +kernel
theorem dX12_nearest_52 : decode cX12_nearest 52 = .ok (.ireturn, 1) := by decide +kernel
set_option maxHeartbeats 4000000 in
set_option maxRecDepth 100000 in
theorem sX12_nearest (l : Launch) (dC : Nat → ClassId) (dI : Nat → Nat → Nat) (sz : Nat) (h0 : Nat) (mi : Nat → Int32) (mr : Nat → Nat) (km_must : ClassId) (fm_must : Nat → Int32) (km_least : ClassId) (fm_least : Nat → Int32) (km_pin : ClassId) (fm_pin : Nat → Int32) (km_ways : ClassId) (fm_ways : Nat → Int32) (km_verdict : ClassId) (fm_verdict : Nat → Int32) (km_row : ClassId) (fm_row : Nat → Int32) (km_struck : ClassId) (fm_struck : Nat → Int32) (km_reportKnown : ClassId) (fm_reportKnown : Nat → Int32) (km_reportPlace : ClassId) (fm_reportPlace : Nat → Int32) (km_reportMonth : ClassId) (fm_reportMonth : Nat → Int32) (km_reportDay : ClassId) (fm_reportDay : Nat → Int32) (km_reportKind : ClassId) (fm_reportKind : Nat → Int32) (km_trust : ClassId) (fm_trust : Nat → Int32) (km_letter : ClassId) (fm_letter : Nat → Int32) (km_worth : ClassId) (fm_worth : Nat → Int32) (p1 : Int32) (p2 : Int32) (gmi_0 : gi (mi 0) 0 24) (gmi_1 : gi (mi 1) 0 5) (gmi_2 : gi (mi 2) 0 5) (gmi_4 : gi (mi 4) 0 1) (gmi_7 : gi (mi 7) 0 6) (gmi_10 : gi (mi 10) 0 24) (gmi_17 : gi (mi 17) 0 8) (gmi_23 : gi (mi 23) 0 300) (gmi_24 : gi (mi 24) 0 1) (gmi_26 : gi (mi 26) 0 1600) (gmi_29 : gi (mi 29) 0 1600) (gmi_30 : gi (mi 30) 0 1600) (gmi_33 : gi (mi 33) 0 1) (gmi_37 : gi (mi 37) 0 1) (gmi_41 : gi (mi 41) 0 24) (gmi_50 : gi (mi 50) 0 1) (gmi_51 : gi (mi 51) 0 1) (gmi_56 : gi (mi 56) 0 80) (gfm_row : ga fm_row 24 0 23) (gfm_struck : ga fm_struck 24 0 1) (gfm_reportKnown : ga fm_reportKnown 24 0 999) (gfm_reportPlace : ga fm_reportPlace 24 0 5) (gfm_reportMonth : ga fm_reportMonth 24 0 23) (gfm_reportDay : ga fm_reportDay 24 0 999) : Met l yX12_nearest (.code yX12_nearest cX12_nearest 4 (some .int) :: wsGB) ({ frames := 5, cells := 0, slots := 0, locals := 119 }) (va_Pc [.ref h0, .int p1, .int p2] (fun U => U.heap.size = sz ∧ va_P (dC, dI) vwCl [(h0, .inr (12, fsMM mi mr)), ((mr 14), .inl (km_must, 25, .inl fm_must)), ((mr 15), .inl (km_least, 25, .inl fm_least)), ((mr 16), .inl (km_pin, 25, .inl fm_pin)), ((mr 17), .inl (km_ways, 6875, .inl fm_ways)), ((mr 18), .inl (km_verdict, 24, .inl fm_verdict)), ((mr 19), .inl (km_row, 24, .inl fm_row)), ((mr 4), .inl (km_struck, 24, .inl fm_struck)), ((mr 7), .inl (km_reportKnown, 24, .inl fm_reportKnown)), ((mr 2), .inl (km_reportPlace, 24, .inl fm_reportPlace)), ((mr 5), .inl (km_reportMonth, 24, .inl fm_reportMonth)), ((mr 6), .inl (km_reportDay, 24, .inl fm_reportDay)), ((mr 3), .inl (km_reportKind, 24, .inl fm_reportKind)), ((mr 0), .inl (km_trust, 6, .inl fm_trust)), ((mr 1), .inl (km_letter, 36, .inl fm_letter)), ((mr 22), .inl (km_worth, 6875, .inl fm_worth))] U.heap ∧ va_K (dC, dI) vwCl [(km_must, .int), (km_least, .int), (km_pin, .int), (km_ways, .int), (km_verdict, .int), (km_row, .int), (km_struck, .boolean), (km_reportKnown, .int), (km_reportPlace, .int), (km_reportMonth, .int), (km_reportDay, .int), (km_reportKind, .int), (km_trust, .int), (km_letter, .int), (km_worth, .int)] U ∧ va_D (fun _ => True) [(h0, .inr (12, fsMM mi mr)), ((mr 14), .inl (km_must, 25, .inl fm_must)), ((mr 15), .inl (km_least, 25, .inl fm_least)), ((mr 16), .inl (km_pin, 25, .inl fm_pin)), ((mr 17), .inl (km_ways, 6875, .inl fm_ways)), ((mr 18), .inl (km_verdict, 24, .inl fm_verdict)), ((mr 19), .inl (km_row, 24, .inl fm_row)), ((mr 4), .inl (km_struck, 24, .inl fm_struck)), ((mr 7), .inl (km_reportKnown, 24, .inl fm_reportKnown)), ((mr 2), .inl (km_reportPlace, 24, .inl fm_reportPlace)), ((mr 5), .inl (km_reportMonth, 24, .inl fm_reportMonth)), ((mr 6), .inl (km_reportDay, 24, .inl fm_reportDay)), ((mr 3), .inl (km_reportKind, 24, .inl fm_reportKind)), ((mr 0), .inl (km_trust, 6, .inl fm_trust)), ((mr 1), .inl (km_letter, 36, .inl fm_letter)), ((mr 22), .inl (km_worth, 6875, .inl fm_worth))])) (va_Qi (fun (r : Int32) (u : Unit) => gi r (-2147483648) 2147483647) (fun _ t => ∃ (w0_37 : Int32) (w0_41 : Int32) (w0_54 : Int32) (z1 : Nat → Int32) (z2 : Nat → Int32) (z3 : Nat → Int32) (z4 : Nat → Int32) (z5 : Nat → Int32) (z6 : Nat → Int32) (z15 : Nat → Int32), gi w0_37 0 1 ∧ gi w0_41 0 24 ∧ ga z6 24 0 23 ∧ va_P (dC, dI) vwCl [(h0, .inr (12, fsMM (upd (upd (upd mi 37 w0_37) 41 w0_41) 54 w0_54) mr)), ((mr 14), .inl (km_must, 25, .inl z1)), ((mr 15), .inl (km_least, 25, .inl z2)), ((mr 16), .inl (km_pin, 25, .inl z3)), ((mr 17), .inl (km_ways, 6875, .inl z4)), ((mr 18), .inl (km_verdict, 24, .inl z5)), ((mr 19), .inl (km_row, 24, .inl z6)), ((mr 4), .inl (km_struck, 24, .inl fm_struck)), ((mr 7), .inl (km_reportKnown, 24, .inl fm_reportKnown)), ((mr 2), .inl (km_reportPlace, 24, .inl fm_reportPlace)), ((mr 5), .inl (km_reportMonth, 24, .inl fm_reportMonth)), ((mr 6), .inl (km_reportDay, 24, .inl fm_reportDay)), ((mr 3), .inl (km_reportKind, 24, .inl fm_reportKind)), ((mr 0), .inl (km_trust, 6, .inl fm_trust)), ((mr 1), .inl (km_letter, 36, .inl fm_letter)), ((mr 22), .inl (km_worth, 6875, .inl z15))] t.heap ∧ va_D (va_A [(h0, .inr (12, fsMM mi mr)), ((mr 14), .inl (km_must, 25, .inl fm_must)), ((mr 15), .inl (km_least, 25, .inl fm_least)), ((mr 16), .inl (km_pin, 25, .inl fm_pin)), ((mr 17), .inl (km_ways, 6875, .inl fm_ways)), ((mr 18), .inl (km_verdict, 24, .inl fm_verdict)), ((mr 19), .inl (km_row, 24, .inl fm_row)), ((mr 4), .inl (km_struck, 24, .inl fm_struck)), ((mr 7), .inl (km_reportKnown, 24, .inl fm_reportKnown)), ((mr 2), .inl (km_reportPlace, 24, .inl fm_reportPlace)), ((mr 5), .inl (km_reportMonth, 24, .inl fm_reportMonth)), ((mr 6), .inl (km_reportDay, 24, .inl fm_reportDay)), ((mr 3), .inl (km_reportKind, 24, .inl fm_reportKind)), ((mr 0), .inl (km_trust, 6, .inl fm_trust)), ((mr 1), .inl (km_letter, 36, .inl fm_letter)), ((mr 22), .inl (km_worth, 6875, .inl fm_worth))] sz) [(h0, .inr (12, fsMM (upd (upd (upd mi 37 w0_37) 41 w0_41) 54 w0_54) mr)), ((mr 14), .inl (km_must, 25, .inl z1)), ((mr 15), .inl (km_least, 25, .inl z2)), ((mr 16), .inl (km_pin, 25, .inl z3)), ((mr 17), .inl (km_ways, 6875, .inl z4)), ((mr 18), .inl (km_verdict, 24, .inl z5)), ((mr 19), .inl (km_row, 24, .inl z6)), ((mr 4), .inl (km_struck, 24, .inl fm_struck)), ((mr 7), .inl (km_reportKnown, 24, .inl fm_reportKnown)), ((mr 2), .inl (km_reportPlace, 24, .inl fm_reportPlace)), ((mr 5), .inl (km_reportMonth, 24, .inl fm_reportMonth)), ((mr 6), .inl (km_reportDay, 24, .inl fm_reportDay)), ((mr 3), .inl (km_reportKind, 24, .inl fm_reportKind)), ((mr 0), .inl (km_trust, 6, .inl fm_trust)), ((mr 1), .inl (km_letter, 36, .inl fm_letter)), ((mr 22), .inl (km_worth, 6875, .inl z15))]) (va_A [(h0, .inr (12, fsMM mi mr)), ((mr 14), .inl (km_must, 25, .inl fm_must)), ((mr 15), .inl (km_least, 25, .inl fm_least)), ((mr 16), .inl (km_pin, 25, .inl fm_pin)), ((mr 17), .inl (km_ways, 6875, .inl fm_ways)), ((mr 18), .inl (km_verdict, 24, .inl fm_verdict)), ((mr 19), .inl (km_row, 24, .inl fm_row)), ((mr 4), .inl (km_struck, 24, .inl fm_struck)), ((mr 7), .inl (km_reportKnown, 24, .inl fm_reportKnown)), ((mr 2), .inl (km_reportPlace, 24, .inl fm_reportPlace)), ((mr 5), .inl (km_reportMonth, 24, .inl fm_reportMonth)), ((mr 6), .inl (km_reportDay, 24, .inl fm_reportDay)), ((mr 3), .inl (km_reportKind, 24, .inl fm_reportKind)), ((mr 0), .inl (km_trust, 6, .inl fm_trust)), ((mr 1), .inl (km_letter, 36, .inl fm_letter)), ((mr 22), .inl (km_worth, 6875, .inl fm_worth))] sz)) 0 0 (va_A [(h0, .inr (12, fsMM mi mr)), ((mr 14), .inl (km_must, 25, .inl fm_must)), ((mr 15), .inl (km_least, 25, .inl fm_least)), ((mr 16), .inl (km_pin, 25, .inl fm_pin)), ((mr 17), .inl (km_ways, 6875, .inl fm_ways)), ((mr 18), .inl (km_verdict, 24, .inl fm_verdict)), ((mr 19), .inl (km_row, 24, .inl fm_row)), ((mr 4), .inl (km_struck, 24, .inl fm_struck)), ((mr 7), .inl (km_reportKnown, 24, .inl fm_reportKnown)), ((mr 2), .inl (km_reportPlace, 24, .inl fm_reportPlace)), ((mr 5), .inl (km_reportMonth, 24, .inl fm_reportMonth)), ((mr 6), .inl (km_reportDay, 24, .inl fm_reportDay)), ((mr 3), .inl (km_reportKind, 24, .inl fm_reportKind)), ((mr 0), .inl (km_trust, 6, .inl fm_trust)), ((mr 1), .inl (km_letter, 36, .inl fm_letter)), ((mr 22), .inl (km_worth, 6875, .inl fm_worth))] sz) := by
  refine Met.ofW (cc := cX12_nearest) (maxL := 4) (ret := (some .int)) (by decide) rfl ?_
  intro p e s m args below meth c s₁ B hml hv
  obtain ⟨rfl, hsz, hP, hK, hD0⟩ := hv
  have hx := B.exec
  have hb := B.bytes
  have hr := B.returns
  have hts := atoms_spec (ws := (.code yX12_nearest cX12_nearest 4 (some .int) :: wsGB)) B.pre
  have hown : s.vm.findClass RX12 = some m.cls := findClass_of_methodNamed B.named
  have hlocks := B.notSynchronized
  subst hsz
  have hD := hD0.self (sz := s.heap.size)
  generalize hAe : va_A [(h0, .inr (12, fsMM mi mr)), ((mr 14), .inl (km_must, 25, .inl fm_must)), ((mr 15), .inl (km_least, 25, .inl fm_least)), ((mr 16), .inl (km_pin, 25, .inl fm_pin)), ((mr 17), .inl (km_ways, 6875, .inl fm_ways)), ((mr 18), .inl (km_verdict, 24, .inl fm_verdict)), ((mr 19), .inl (km_row, 24, .inl fm_row)), ((mr 4), .inl (km_struck, 24, .inl fm_struck)), ((mr 7), .inl (km_reportKnown, 24, .inl fm_reportKnown)), ((mr 2), .inl (km_reportPlace, 24, .inl fm_reportPlace)), ((mr 5), .inl (km_reportMonth, 24, .inl fm_reportMonth)), ((mr 6), .inl (km_reportDay, 24, .inl fm_reportDay)), ((mr 3), .inl (km_reportKind, 24, .inl fm_reportKind)), ((mr 0), .inl (km_trust, 6, .inl fm_trust)), ((mr 1), .inl (km_letter, 36, .inl fm_letter)), ((mr 22), .inl (km_worth, 6875, .inl fm_worth))] s.heap.size = A at hD ⊢
  have hA : ∀ q : Nat, s.heap.size ≤ q → A q := fun q h => by rw [← hAe]; exact Or.inr h
  have hS : va_S A s.heap s.heap [] := va_S.rf
  have hl := lv_entry ([.ref h0, .int p1, .int p2]) (n := 4) (Nat.le_of_ble_eq_true rfl)
  rw [lg_entry_eq]
  generalize (lg_sl ([.ref h0, .int p1, .int p2]) ++ List.replicate (4 - (lg_sl ([.ref h0, .int p1, .int p2])).length) Slot.unset).toArray = ls at hl ⊢
  have hl : lv_has ls 4 [(0, .ref h0), (1, .int p1), (2, .int p2)] := hl
  refine lv_aload_n hx hb dX12_nearest_0 rfl (lv_at hl 0 rfl) ?_
  refine lv_iload_n hx hb dX12_nearest_1 rfl (lv_at hl 1 rfl) ?_
  have hPc := hP.sub (ws' := [(h0, .inr (12, fsMM mi mr))]) [0] rfl
  have hKc := hK.sub (tys' := []) [] rfl
  refine va_calli (va_runV (As := [.int p1]) (rest := []) ⟨hx, hb, hml, hown, hts⟩ (sX12_isTime l dC dI h0 mi mr p1 gmi_0 gmi_1 gmi_2 gmi_4 gmi_7 gmi_10 gmi_17 gmi_23 gmi_24 gmi_26 gmi_29 gmi_30 gmi_33 gmi_37 gmi_41 gmi_50 gmi_51 gmi_56) (cwV 1 hts (gz_gV mGB_256 mGB_257 mGB_258 mGB_1 mGB_259 goodGB) rfl rfl rfl (by decide +kernel) ⟨Nat.le_of_ble_eq_true rfl, Nat.le_of_ble_eq_true rfl⟩) ⟨fun a U g mk q => by obtain ⟨q0, qP, qK⟩ := q; exact ⟨q0, qP, va_K.moved (u := U) (U := U.calling g mk a) (Vm.Alike.refl U.vm) qK⟩, va_recv hKc hPc (ci := 12) (q0 := 0) rfl rfl, fun U hU hW => ⟨rfl, by rw [hU]; exact hPc, va_K.moved hW.alike hKc⟩⟩ rfl rfl hl.1 rfl (lv_room (Nat.le_of_ble_eq_true rfl)) dX12_nearest_2 ⟨Nat.zero_le _, Nat.zero_le _⟩) hS (fun q _ h => h.elim) (fun q h => h.elim) (fun r_59 u t H1 locs ht hvm hw hB hz1 hk1 hS => ?_)
  have hP := gz_keep hP hk1
  generalize H1 = H at hP hS ⊢
  have gr_59 : gi r_59 0 1 := hw.1
  have hqr_59 := hw.2
  refine lv_if_eq (tgt := 25) hx hb dX12_nearest_5 (by decide) (fun c_60 => ?_) (fun c_60 => ?_)
  · have g_61 : gi r_59 0 0 := gi_eq c_60 (gi_c 0 0 (by decide))
    refine lv_bipush (v := (-2)) hx hb dX12_nearest_25 (by decide) ?_
    exact W.iret (v := (-2)) hx hb hr (fun t ht hW => ⟨⟨(-2), (), rfl, (gi_any (-2)), (mi 37), (mi 41), (mi 54), fm_must, fm_least, fm_pin, fm_ways, fm_verdict, fm_row, fm_worth, gmi_37, gmi_41, gfm_row, by rw [ht]; exact hP, hD⟩, hS.F ht⟩) hS.2.2 dX12_nearest_27
  · have g_62 : gi r_59 1 1 := gi_ne_lo c_60 gr_59 (gi_c 0 0 (by decide)) (by decide)
    have g_63 : gi p1 0 999 := gi_cap (gi_any p1) (hqr_59 (gz_one g_62)) (by decide)
    refine lv_aload_n hx hb dX12_nearest_8 rfl (lv_at hl 0 rfl) ?_
    refine va_get (D := (dC, dI)) (ci := 12) (v := .int (mi 4)) (C := RX12) (T := TX12) (N := 57) hx hb hts (fun w h => List.mem_cons_of_mem _ (jnGB_X12 w h)) hown hK hP 0 rfl rfl 4 (by decide) (hts _ (List.mem_cons_of_mem _ mGB_107)) (fun _ h9 => h9) rfl dX12_nearest_9 ?_
    refine lv_if_eq (tgt := 25) hx hb dX12_nearest_12 (by decide) (fun c_64 => ?_) (fun c_64 => ?_)
    · have g_65 : gi (mi 4) 0 0 := gi_eq c_64 (gi_c 0 0 (by decide))
      refine lv_bipush (v := (-2)) hx hb dX12_nearest_25 (by decide) ?_
      exact W.iret (v := (-2)) hx hb hr (fun t ht hW => ⟨⟨(-2), (), rfl, (gi_any (-2)), (mi 37), (mi 41), (mi 54), fm_must, fm_least, fm_pin, fm_ways, fm_verdict, fm_row, fm_worth, gmi_37, gmi_41, gfm_row, by rw [ht]; exact hP, hD⟩, hS.F ht⟩) hS.2.2 dX12_nearest_27
    · have g_66 : gi (mi 4) 1 1 := gi_ne_lo c_64 gmi_4 (gi_c 0 0 (by decide)) (by decide)
      refine lv_iload_n hx hb dX12_nearest_15 rfl (lv_at hl 2 rfl) ?_
      refine lv_i2l (v := (p2).toInt64) hx hb dX12_nearest_16 rfl ?_
      refine lv_topl (fun l_67 el_67 => ?_)
      refine lv_lconst (v := 0) hx hb dX12_nearest_17 (by decide) ?_
      refine lv_lconst (v := 1) hx hb dX12_nearest_18 (by decide) ?_
      have hPc := hP.sub (ws' := []) [] rfl
      have hKc := hK.sub (tys' := []) [] rfl
      refine va_calli (va_runS (As := [.long l_67, .long 0, .long 1]) (rest := []) ⟨hx, hb, hml, hown, hts⟩ (sX12_in l dC dI l_67 0 1) (cwS 3 hts (gz_gS mGB_47 mGB_48 mGB_1 mGB_49 goodGB) rfl rfl rfl (by decide +kernel) ⟨Nat.le_of_ble_eq_true rfl, Nat.le_of_ble_eq_true rfl⟩) ⟨fun a U g mk q => by obtain ⟨q0, qP, qK⟩ := q; exact ⟨q0, qP, va_K.moved (u := U) (U := U.calling g mk a) (Vm.Alike.refl U.vm) qK⟩, fun U hU hW => ⟨rfl, by rw [hU]; exact hPc, va_K.moved hW.alike hKc⟩⟩ rfl rfl hl.1 rfl (lv_room (Nat.le_of_ble_eq_true rfl)) dX12_nearest_19 ⟨Nat.zero_le _, Nat.zero_le _⟩) hS (fun q _ h => h.elim) (fun q h => h.elim) (fun r_68 u t H1 locs ht hvm hw hB hz1 hk1 hS => ?_)
      obtain ⟨hw, hE⟩ := hw
      have hP := gz_keep hP hk1
      generalize H1 = H at hP hS ⊢
      have gr_68 : gi r_68 0 1 := hw.1
      have hqr_68 := hw.2
      refine lv_if_ne (tgt := 28) hx hb dX12_nearest_22 (by decide) (fun c_69 => ?_) (fun c_69 => ?_)
      · have g_70 : gi r_68 1 1 := gi_ne_lo c_69 gr_68 (gi_c 0 0 (by decide)) (by decide)
        have g_71 : gi p2 0 1 := gi_cap (gi_any p2) (gz_inr (hqr_68.1 (gz_one g_70)) el_67 (A := 0) (B := 1) (by decide) (by decide)) (by decide)
        refine lv_aload_n hx hb dX12_nearest_28 rfl (lv_at hl 0 rfl) ?_
        refine lv_iload_n hx hb dX12_nearest_29 rfl (lv_at hl 1 rfl) ?_
        have hPc := hP.sub (ws' := [(h0, .inr (12, fsMM mi mr)), ((mr 14), .inl (km_must, 25, .inl fm_must)), ((mr 15), .inl (km_least, 25, .inl fm_least)), ((mr 16), .inl (km_pin, 25, .inl fm_pin)), ((mr 17), .inl (km_ways, 6875, .inl fm_ways)), ((mr 18), .inl (km_verdict, 24, .inl fm_verdict)), ((mr 19), .inl (km_row, 24, .inl fm_row)), ((mr 4), .inl (km_struck, 24, .inl fm_struck)), ((mr 7), .inl (km_reportKnown, 24, .inl fm_reportKnown)), ((mr 2), .inl (km_reportPlace, 24, .inl fm_reportPlace)), ((mr 5), .inl (km_reportMonth, 24, .inl fm_reportMonth)), ((mr 6), .inl (km_reportDay, 24, .inl fm_reportDay)), ((mr 3), .inl (km_reportKind, 24, .inl fm_reportKind)), ((mr 0), .inl (km_trust, 6, .inl fm_trust)), ((mr 1), .inl (km_letter, 36, .inl fm_letter))]) [0, 1, 2, 3, 4, 5, 6, 7, 8, 9, 10, 11, 12, 13, 14] rfl
        have hKc := hK.sub (tys' := [(km_must, .int), (km_least, .int), (km_pin, .int), (km_ways, .int), (km_verdict, .int), (km_row, .int), (km_struck, .boolean), (km_reportKnown, .int), (km_reportPlace, .int), (km_reportMonth, .int), (km_reportDay, .int), (km_reportKind, .int), (km_trust, .int), (km_letter, .int)]) [0, 1, 2, 3, 4, 5, 6, 7, 8, 9, 10, 11, 12, 13] rfl
        have hDc := hD.sub (ws' := [(h0, .inr (12, fsMM mi mr)), ((mr 14), .inl (km_must, 25, .inl fm_must)), ((mr 15), .inl (km_least, 25, .inl fm_least)), ((mr 16), .inl (km_pin, 25, .inl fm_pin)), ((mr 17), .inl (km_ways, 6875, .inl fm_ways)), ((mr 18), .inl (km_verdict, 24, .inl fm_verdict)), ((mr 19), .inl (km_row, 24, .inl fm_row)), ((mr 4), .inl (km_struck, 24, .inl fm_struck)), ((mr 7), .inl (km_reportKnown, 24, .inl fm_reportKnown)), ((mr 2), .inl (km_reportPlace, 24, .inl fm_reportPlace)), ((mr 5), .inl (km_reportMonth, 24, .inl fm_reportMonth)), ((mr 6), .inl (km_reportDay, 24, .inl fm_reportDay)), ((mr 3), .inl (km_reportKind, 24, .inl fm_reportKind)), ((mr 0), .inl (km_trust, 6, .inl fm_trust)), ((mr 1), .inl (km_letter, 36, .inl fm_letter))]) [0, 1, 2, 3, 4, 5, 6, 7, 8, 9, 10, 11, 12, 13, 14] (by decide) rfl
        have hFc := va_free (wc := [(h0, .inr (12, fsMM mi mr)), ((mr 14), .inl (km_must, 25, .inl fm_must)), ((mr 15), .inl (km_least, 25, .inl fm_least)), ((mr 16), .inl (km_pin, 25, .inl fm_pin)), ((mr 17), .inl (km_ways, 6875, .inl fm_ways)), ((mr 18), .inl (km_verdict, 24, .inl fm_verdict)), ((mr 19), .inl (km_row, 24, .inl fm_row)), ((mr 4), .inl (km_struck, 24, .inl fm_struck)), ((mr 7), .inl (km_reportKnown, 24, .inl fm_reportKnown)), ((mr 2), .inl (km_reportPlace, 24, .inl fm_reportPlace)), ((mr 5), .inl (km_reportMonth, 24, .inl fm_reportMonth)), ((mr 6), .inl (km_reportDay, 24, .inl fm_reportDay)), ((mr 3), .inl (km_reportKind, 24, .inl fm_reportKind)), ((mr 0), .inl (km_trust, 6, .inl fm_trust)), ((mr 1), .inl (km_letter, 36, .inl fm_letter))]) hD hS hA [0, 1, 2, 3, 4, 5, 6, 7, 8, 9, 10, 11, 12, 13, 14] rfl
        refine va_callv (va_runV (As := [.int p1]) (rest := []) ⟨hx, hb, hml, hown, hts⟩ (sX12_judgesAll l dC dI H.size h0 mi mr km_must fm_must km_least fm_least km_pin fm_pin km_ways fm_ways km_verdict fm_verdict km_row fm_row km_struck fm_struck km_reportKnown fm_reportKnown km_reportPlace fm_reportPlace km_reportMonth fm_reportMonth km_reportDay fm_reportDay km_reportKind fm_reportKind km_trust fm_trust km_letter fm_letter p1 gmi_0 gmi_1 gmi_2 (gi_w g_66 (by decide)) gmi_7 gmi_10 gmi_17 gmi_23 gmi_24 gmi_26 gmi_29 gmi_30 gmi_33 gmi_37 gmi_41 gmi_50 gmi_51 gmi_56 gfm_row gfm_struck gfm_reportKnown gfm_reportPlace gfm_reportMonth gfm_reportDay) (cwV 1 hts (gz_gV mGB_261 mGB_262 mGB_263 mGB_1 mGB_264 goodGB) rfl rfl rfl (by decide +kernel) ⟨Nat.le_of_ble_eq_true rfl, Nat.le_of_ble_eq_true rfl⟩) ⟨fun a U g mk q => by obtain ⟨q0, q1, qP, qK, qD⟩ := q; exact ⟨q0, q1, qP, va_K.moved (u := U) (U := U.calling g mk a) (Vm.Alike.refl U.vm) qK, qD⟩, va_recv hKc hPc (ci := 12) (q0 := 0) rfl rfl, fun U hU hW => ⟨rfl, by rw [hU], by rw [hU]; exact hPc, va_K.moved hW.alike hKc, hDc.weaken (fun _ _ _ _ => trivial)⟩⟩ rfl rfl hl.1 rfl (lv_room (Nat.le_of_ble_eq_true rfl)) dX12_nearest_30 ⟨Nat.zero_le _, Nat.zero_le _⟩) hS (fun q _ h => hFc q h) hFc (fun u t H1 locs ht hvm hw hB hz1 hk1 hS => ?_)
        obtain ⟨y_73, y_74, f_75, f_76, f_77, f_78, f_79, f_80, gy_73, gy_74, gf_80, hP1, hD1⟩ := hB
        rw [ht] at hP1
        obtain ⟨hP, hD⟩ := va_join (wr := [((mr 22), .inl (km_worth, 6875, .inl fm_worth))]) (w1 := [(h0, .inr (12, fsMM (upd (upd mi 37 y_73) 41 y_74) mr)), ((mr 14), .inl (km_must, 25, .inl f_75)), ((mr 15), .inl (km_least, 25, .inl f_76)), ((mr 16), .inl (km_pin, 25, .inl f_77)), ((mr 17), .inl (km_ways, 6875, .inl f_78)), ((mr 18), .inl (km_verdict, 24, .inl f_79)), ((mr 19), .inl (km_row, 24, .inl f_80)), ((mr 4), .inl (km_struck, 24, .inl fm_struck)), ((mr 7), .inl (km_reportKnown, 24, .inl fm_reportKnown)), ((mr 2), .inl (km_reportPlace, 24, .inl fm_reportPlace)), ((mr 5), .inl (km_reportMonth, 24, .inl fm_reportMonth)), ((mr 6), .inl (km_reportDay, 24, .inl fm_reportDay)), ((mr 3), .inl (km_reportKind, 24, .inl fm_reportKind)), ((mr 0), .inl (km_trust, 6, .inl fm_trust)), ((mr 1), .inl (km_letter, 36, .inl fm_letter))]) hP hD [0, 1, 2, 3, 4, 5, 6, 7, 8, 9, 10, 11, 12, 13, 14] [15] rfl rfl (by decide) (by decide) hk1 hFc hP1 hD1
        have hP := hP.sub (ws' := [(h0, .inr (12, fsMM (upd (upd mi 37 y_73) 41 y_74) mr)), ((mr 14), .inl (km_must, 25, .inl f_75)), ((mr 15), .inl (km_least, 25, .inl f_76)), ((mr 16), .inl (km_pin, 25, .inl f_77)), ((mr 17), .inl (km_ways, 6875, .inl f_78)), ((mr 18), .inl (km_verdict, 24, .inl f_79)), ((mr 19), .inl (km_row, 24, .inl f_80)), ((mr 4), .inl (km_struck, 24, .inl fm_struck)), ((mr 7), .inl (km_reportKnown, 24, .inl fm_reportKnown)), ((mr 2), .inl (km_reportPlace, 24, .inl fm_reportPlace)), ((mr 5), .inl (km_reportMonth, 24, .inl fm_reportMonth)), ((mr 6), .inl (km_reportDay, 24, .inl fm_reportDay)), ((mr 3), .inl (km_reportKind, 24, .inl fm_reportKind)), ((mr 0), .inl (km_trust, 6, .inl fm_trust)), ((mr 1), .inl (km_letter, 36, .inl fm_letter)), ((mr 22), .inl (km_worth, 6875, .inl fm_worth))]) [1, 2, 3, 4, 5, 6, 7, 8, 9, 10, 11, 12, 13, 14, 15, 0] rfl
        have hD := hD.sub (ws' := [(h0, .inr (12, fsMM (upd (upd mi 37 y_73) 41 y_74) mr)), ((mr 14), .inl (km_must, 25, .inl f_75)), ((mr 15), .inl (km_least, 25, .inl f_76)), ((mr 16), .inl (km_pin, 25, .inl f_77)), ((mr 17), .inl (km_ways, 6875, .inl f_78)), ((mr 18), .inl (km_verdict, 24, .inl f_79)), ((mr 19), .inl (km_row, 24, .inl f_80)), ((mr 4), .inl (km_struck, 24, .inl fm_struck)), ((mr 7), .inl (km_reportKnown, 24, .inl fm_reportKnown)), ((mr 2), .inl (km_reportPlace, 24, .inl fm_reportPlace)), ((mr 5), .inl (km_reportMonth, 24, .inl fm_reportMonth)), ((mr 6), .inl (km_reportDay, 24, .inl fm_reportDay)), ((mr 3), .inl (km_reportKind, 24, .inl fm_reportKind)), ((mr 0), .inl (km_trust, 6, .inl fm_trust)), ((mr 1), .inl (km_letter, 36, .inl fm_letter)), ((mr 22), .inl (km_worth, 6875, .inl fm_worth))]) [1, 2, 3, 4, 5, 6, 7, 8, 9, 10, 11, 12, 13, 14, 15, 0] (by decide) rfl
        generalize H1 = H at hP hS ⊢
        refine lv_aload_n hx hb dX12_nearest_33 rfl (lv_at hl 0 rfl) ?_
        refine lv_iload_n hx hb dX12_nearest_34 rfl (lv_at hl 1 rfl) ?_
        refine lv_iconst (v := 1) hx hb dX12_nearest_35 (by decide) ?_
        have hPc := hP.sub (ws' := [(h0, .inr (12, fsMM (upd (upd mi 37 y_73) 41 y_74) mr)), ((mr 22), .inl (km_worth, 6875, .inl fm_worth)), ((mr 14), .inl (km_must, 25, .inl f_75)), ((mr 15), .inl (km_least, 25, .inl f_76)), ((mr 16), .inl (km_pin, 25, .inl f_77)), ((mr 4), .inl (km_struck, 24, .inl fm_struck)), ((mr 7), .inl (km_reportKnown, 24, .inl fm_reportKnown)), ((mr 5), .inl (km_reportMonth, 24, .inl fm_reportMonth)), ((mr 3), .inl (km_reportKind, 24, .inl fm_reportKind)), ((mr 6), .inl (km_reportDay, 24, .inl fm_reportDay)), ((mr 2), .inl (km_reportPlace, 24, .inl fm_reportPlace)), ((mr 0), .inl (km_trust, 6, .inl fm_trust))]) [0, 15, 1, 2, 3, 7, 8, 10, 12, 11, 9, 13] rfl
        have hKc := hK.sub (tys' := [(km_worth, .int), (km_must, .int), (km_least, .int), (km_pin, .int), (km_struck, .boolean), (km_reportKnown, .int), (km_reportMonth, .int), (km_reportKind, .int), (km_reportDay, .int), (km_reportPlace, .int), (km_trust, .int)]) [14, 0, 1, 2, 6, 7, 9, 11, 10, 8, 12] rfl
        have hDc := hD.sub (ws' := [(h0, .inr (12, fsMM (upd (upd mi 37 y_73) 41 y_74) mr)), ((mr 22), .inl (km_worth, 6875, .inl fm_worth)), ((mr 14), .inl (km_must, 25, .inl f_75)), ((mr 15), .inl (km_least, 25, .inl f_76)), ((mr 16), .inl (km_pin, 25, .inl f_77)), ((mr 4), .inl (km_struck, 24, .inl fm_struck)), ((mr 7), .inl (km_reportKnown, 24, .inl fm_reportKnown)), ((mr 5), .inl (km_reportMonth, 24, .inl fm_reportMonth)), ((mr 3), .inl (km_reportKind, 24, .inl fm_reportKind)), ((mr 6), .inl (km_reportDay, 24, .inl fm_reportDay)), ((mr 2), .inl (km_reportPlace, 24, .inl fm_reportPlace)), ((mr 0), .inl (km_trust, 6, .inl fm_trust))]) [0, 15, 1, 2, 3, 7, 8, 10, 12, 11, 9, 13] (by decide) rfl
        have hFc := va_free (wc := [(h0, .inr (12, fsMM (upd (upd mi 37 y_73) 41 y_74) mr)), ((mr 22), .inl (km_worth, 6875, .inl fm_worth)), ((mr 14), .inl (km_must, 25, .inl f_75)), ((mr 15), .inl (km_least, 25, .inl f_76)), ((mr 16), .inl (km_pin, 25, .inl f_77)), ((mr 4), .inl (km_struck, 24, .inl fm_struck)), ((mr 7), .inl (km_reportKnown, 24, .inl fm_reportKnown)), ((mr 5), .inl (km_reportMonth, 24, .inl fm_reportMonth)), ((mr 3), .inl (km_reportKind, 24, .inl fm_reportKind)), ((mr 6), .inl (km_reportDay, 24, .inl fm_reportDay)), ((mr 2), .inl (km_reportPlace, 24, .inl fm_reportPlace)), ((mr 0), .inl (km_trust, 6, .inl fm_trust))]) hD hS hA [0, 15, 1, 2, 3, 7, 8, 10, 12, 11, 9, 13] rfl
        refine va_calli (va_runV (As := [.int p1, .int 1]) (rest := []) ⟨hx, hb, hml, hown, hts⟩ (sX12_laysWorth l dC dI H.size h0 (upd (upd mi 37 y_73) 41 y_74) mr km_worth fm_worth km_must f_75 km_least f_76 km_pin f_77 km_struck fm_struck km_reportKnown fm_reportKnown km_reportMonth fm_reportMonth km_reportKind fm_reportKind km_reportDay fm_reportDay km_reportPlace fm_reportPlace km_trust fm_trust p1 1 gmi_0 gmi_1 gmi_2 (gi_w g_66 (by decide)) gmi_7 gmi_10 gmi_17 gmi_23 gmi_24 gmi_26 gmi_29 gmi_30 gmi_33 gy_73 gy_74 gmi_50 gmi_51 gmi_56 gfm_struck gfm_reportKnown gfm_reportMonth gfm_reportDay gfm_reportPlace (gi_w (gi_c 1 1 (by decide)) (by decide))) (cwV 2 hts (gz_gV mGB_553 mGB_554 mGB_555 mGB_1 mGB_556 goodGB) rfl rfl rfl (by decide +kernel) ⟨Nat.le_of_ble_eq_true rfl, Nat.le_of_ble_eq_true rfl⟩) ⟨fun a U g mk q => by obtain ⟨q0, q1, qP, qK, qD⟩ := q; exact ⟨q0, q1, qP, va_K.moved (u := U) (U := U.calling g mk a) (Vm.Alike.refl U.vm) qK, qD⟩, va_recv hKc hPc (ci := 12) (q0 := 0) rfl rfl, fun U hU hW => ⟨rfl, by rw [hU], by rw [hU]; exact hPc, va_K.moved hW.alike hKc, hDc.weaken (fun _ _ _ _ => trivial)⟩⟩ rfl rfl hl.1 rfl (lv_room (Nat.le_of_ble_eq_true rfl)) dX12_nearest_36 ⟨Nat.zero_le _, Nat.zero_le _⟩) hS (fun q _ h => hFc q h) hFc (fun r_81 u t H1 locs ht hvm hw hB hz1 hk1 hS => ?_)
        obtain ⟨y_82, f_83, hP1, hD1⟩ := hB
        rw [ht] at hP1
        obtain ⟨hP, hD⟩ := va_join (wr := [((mr 17), .inl (km_ways, 6875, .inl f_78)), ((mr 18), .inl (km_verdict, 24, .inl f_79)), ((mr 19), .inl (km_row, 24, .inl f_80)), ((mr 1), .inl (km_letter, 36, .inl fm_letter))]) (w1 := [(h0, .inr (12, fsMM (upd (upd (upd mi 37 y_73) 41 y_74) 54 y_82) mr)), ((mr 22), .inl (km_worth, 6875, .inl f_83)), ((mr 14), .inl (km_must, 25, .inl f_75)), ((mr 15), .inl (km_least, 25, .inl f_76)), ((mr 16), .inl (km_pin, 25, .inl f_77)), ((mr 4), .inl (km_struck, 24, .inl fm_struck)), ((mr 7), .inl (km_reportKnown, 24, .inl fm_reportKnown)), ((mr 5), .inl (km_reportMonth, 24, .inl fm_reportMonth)), ((mr 3), .inl (km_reportKind, 24, .inl fm_reportKind)), ((mr 6), .inl (km_reportDay, 24, .inl fm_reportDay)), ((mr 2), .inl (km_reportPlace, 24, .inl fm_reportPlace)), ((mr 0), .inl (km_trust, 6, .inl fm_trust))]) hP hD [0, 15, 1, 2, 3, 7, 8, 10, 12, 11, 9, 13] [4, 5, 6, 14] rfl rfl (by decide) (by decide) hk1 hFc hP1 hD1
        have hP := hP.sub (ws' := [(h0, .inr (12, fsMM (upd (upd (upd mi 37 y_73) 41 y_74) 54 y_82) mr)), ((mr 14), .inl (km_must, 25, .inl f_75)), ((mr 15), .inl (km_least, 25, .inl f_76)), ((mr 16), .inl (km_pin, 25, .inl f_77)), ((mr 17), .inl (km_ways, 6875, .inl f_78)), ((mr 18), .inl (km_verdict, 24, .inl f_79)), ((mr 19), .inl (km_row, 24, .inl f_80)), ((mr 4), .inl (km_struck, 24, .inl fm_struck)), ((mr 7), .inl (km_reportKnown, 24, .inl fm_reportKnown)), ((mr 2), .inl (km_reportPlace, 24, .inl fm_reportPlace)), ((mr 5), .inl (km_reportMonth, 24, .inl fm_reportMonth)), ((mr 6), .inl (km_reportDay, 24, .inl fm_reportDay)), ((mr 3), .inl (km_reportKind, 24, .inl fm_reportKind)), ((mr 0), .inl (km_trust, 6, .inl fm_trust)), ((mr 1), .inl (km_letter, 36, .inl fm_letter)), ((mr 22), .inl (km_worth, 6875, .inl f_83))]) [4, 6, 7, 8, 0, 1, 2, 9, 10, 14, 11, 13, 12, 15, 3, 5] rfl
        have hD := hD.sub (ws' := [(h0, .inr (12, fsMM (upd (upd (upd mi 37 y_73) 41 y_74) 54 y_82) mr)), ((mr 14), .inl (km_must, 25, .inl f_75)), ((mr 15), .inl (km_least, 25, .inl f_76)), ((mr 16), .inl (km_pin, 25, .inl f_77)), ((mr 17), .inl (km_ways, 6875, .inl f_78)), ((mr 18), .inl (km_verdict, 24, .inl f_79)), ((mr 19), .inl (km_row, 24, .inl f_80)), ((mr 4), .inl (km_struck, 24, .inl fm_struck)), ((mr 7), .inl (km_reportKnown, 24, .inl fm_reportKnown)), ((mr 2), .inl (km_reportPlace, 24, .inl fm_reportPlace)), ((mr 5), .inl (km_reportMonth, 24, .inl fm_reportMonth)), ((mr 6), .inl (km_reportDay, 24, .inl fm_reportDay)), ((mr 3), .inl (km_reportKind, 24, .inl fm_reportKind)), ((mr 0), .inl (km_trust, 6, .inl fm_trust)), ((mr 1), .inl (km_letter, 36, .inl fm_letter)), ((mr 22), .inl (km_worth, 6875, .inl f_83))]) [4, 6, 7, 8, 0, 1, 2, 9, 10, 14, 11, 13, 12, 15, 3, 5] (by decide) rfl
        generalize H1 = H at hP hS ⊢
        refine lv_istore_n (lv' := [(3, .int r_81), (0, .ref h0), (1, .int p1), (2, .int p2)]) hx hb dX12_nearest_39 rfl hl (by decide) rfl (fun ls hl => ?_)
        refine lv_iload_n hx hb dX12_nearest_40 rfl (lv_at hl 3 rfl) ?_
        refine lv_if_ne (tgt := 48) hx hb dX12_nearest_41 (by decide) (fun c_84 => ?_) (fun c_84 => ?_)
        · have g_85 : gi p2 1 1 := gi_ne_lo c_84 g_71 (gi_c 0 0 (by decide)) (by decide)
          refine lv_aload_n hx hb dX12_nearest_48 rfl (lv_at hl 1 rfl) ?_
          refine va_get (D := (dC, dI)) (ci := 12) (v := .int y_82) (C := RX12) (T := TX12) (N := 57) hx hb hts (fun w h => List.mem_cons_of_mem _ (jnGB_X12 w h)) hown hK hP 0 rfl rfl 54 (by decide) (hts _ (List.mem_cons_of_mem _ mGB_552)) (fun _ h9 => h9) rfl dX12_nearest_49 ?_
          exact W.iret (v := y_82) hx hb hr (fun t ht hW => ⟨⟨y_82, (), rfl, (gi_any y_82), y_73, y_74, y_82, f_75, f_76, f_77, f_78, f_79, f_80, f_83, gy_73, gy_74, gf_80, by rw [ht]; exact hP, hD⟩, hS.F ht⟩) hS.2.2 dX12_nearest_52
        · have g_86 : gi p2 0 0 := gi_eq c_84 (gi_c 0 0 (by decide))
          refine lv_iload_n hx hb dX12_nearest_44 rfl (lv_at hl 0 rfl) ?_
          refine lv_goto (tgt := 52) hx hb dX12_nearest_45 (by decide) ?_
          exact W.iret (v := r_81) hx hb hr (fun t ht hW => ⟨⟨r_81, (), rfl, (gi_any r_81), y_73, y_74, y_82, f_75, f_76, f_77, f_78, f_79, f_80, f_83, gy_73, gy_74, gf_80, by rw [ht]; exact hP, hD⟩, hS.F ht⟩) hS.2.2 dX12_nearest_52
      · have g_87 : gi r_68 0 0 := gi_eq c_69 (gi_c 0 0 (by decide))
        refine lv_bipush (v := (-2)) hx hb dX12_nearest_25 (by decide) ?_
        exact W.iret (v := (-2)) hx hb hr (fun t ht hW => ⟨⟨(-2), (), rfl, (gi_any (-2)), (mi 37), (mi 41), (mi 54), fm_must, fm_least, fm_pin, fm_ways, fm_verdict, fm_row, fm_worth, gmi_37, gmi_41, gfm_row, by rw [ht]; exact hP, hD⟩, hS.F ht⟩) hS.2.2 dX12_nearest_27
theorem dX12_backed_0 : decode cX12_backed 0 = .ok (.aload_n 0, 1) := by decide +kernel
theorem dX12_backed_1 : decode cX12_backed 1 = .ok (.iload_n 1, 1) := by decide +kernel
theorem dX12_backed_2 : decode cX12_backed 2 = .ok (.invokevirtual 359, 3) := by decide +kernel
theorem dX12_backed_5 : decode cX12_backed 5 = .ok (.ifCond .eq 13, 3) := by decide +kernel
theorem dX12_backed_8 : decode cX12_backed 8 = .ok (.iload_n 2, 1) := by decide +kernel
theorem dX12_backed_9 : decode cX12_backed 9 = .ok (.i2l, 1) := by decide +kernel
theorem dX12_backed_10 : decode cX12_backed 10 = .ok (.lconst 0, 1) := by decide +kernel
theorem dX12_backed_11 : decode cX12_backed 11 = .ok (.lconst 1, 1) := by decide +kernel
theorem dX12_backed_12 : decode cX12_backed 12 = .ok (.invokestatic 102, 3) := by decide +kernel
theorem dX12_backed_15 : decode cX12_backed 15 = .ok (.ifCond .ne 6, 3) := by decide +kernel
theorem dX12_backed_18 : decode cX12_backed 18 = .ok (.bipush (-2), 2) := by decide +kernel
theorem dX12_backed_20 : decode cX12_backed 20 = .ok (.ireturn, 1) := by decide +kernel
theorem dX12_backed_21 : decode cX12_backed 21 = .ok (.iconst 0, 1) := by decide +kernel
theorem dX12_backed_22 : decode cX12_backed 22 = .ok (.istore_n 3, 1) := by decide +kernel
theorem dX12_backed_23 : decode cX12_backed 23 = .ok (.iconst 0, 1) := by decide +kernel
theorem dX12_backed_24 : decode cX12_backed 24 = .ok (.istore 4, 2) := by decide +kernel
theorem dX12_backed_26 : decode cX12_backed 26 = .ok (.iload 4, 2) := by decide +kernel
theorem dX12_backed_28 : decode cX12_backed 28 = .ok (.aload_n 0, 1) := by decide +kernel
theorem dX12_backed_29 : decode cX12_backed 29 = .ok (.getfield 141, 3) := by decide +kernel
theorem dX12_backed_32 : decode cX12_backed 32 = .ok (.if_icmp .ge 49, 3) := by decide +kernel
theorem dX12_backed_35 : decode cX12_backed 35 = .ok (.iload_n 3, 1) := by decide +kernel
theorem dX12_backed_36 : decode cX12_backed 36 = .ok (.aload_n 0, 1) := by decide +kernel
theorem dX12_backed_37 : decode cX12_backed 37 = .ok (.iload 4, 2) := by decide +kernel
theorem dX12_backed_39 : decode cX12_backed 39 = .ok (.iload_n 1, 1) := by decide +kernel
theorem dX12_backed_40 : decode cX12_backed 40 = .ok (.invokevirtual 341, 3) := by decide +kernel
theorem dX12_backed_43 : decode cX12_backed 43 = .ok (.ifCond .eq 29, 3) := by decide +kernel
theorem dX12_backed_46 : decode cX12_backed 46 = .ok (.aload_n 0, 1) := by decide +kernel
theorem dX12_backed_47 : decode cX12_backed 47 = .ok (.getfield 19, 3) := by decide +kernel
theorem dX12_backed_50 : decode cX12_backed 50 = .ok (.iload 4, 2) := by decide +kernel
theorem dX12_backed_52 : decode cX12_backed 52 = .ok (.iaload, 1) := by decide +kernel
theorem dX12_backed_53 : decode cX12_backed 53 = .ok (.iconst 2, 1) := by decide +kernel
theorem dX12_backed_54 : decode cX12_backed 54 = .ok (.if_icmp .eq 18, 3) := by decide +kernel
theorem dX12_backed_57 : decode cX12_backed 57 = .ok (.aload_n 0, 1) := by decide +kernel
theorem dX12_backed_58 : decode cX12_backed 58 = .ok (.getfield 7, 3) := by decide +kernel
theorem dX12_backed_61 : decode cX12_backed 61 = .ok (.aload_n 0, 1) := by decide +kernel
theorem dX12_backed_62 : decode cX12_backed 62 = .ok (.getfield 16, 3) := by decide +kernel
theorem dX12_backed_65 : decode cX12_backed 65 = .ok (.iload 4, 2) := by decide +kernel
theorem dX12_backed_67 : decode cX12_backed 67 = .ok (.iaload, 1) := by decide +kernel
theorem dX12_backed_68 : decode cX12_backed 68 = .ok (.iaload, 1) := by decide +kernel
theorem dX12_backed_69 : decode cX12_backed 69 = .ok (.goto 4, 3) := by decide +kernel
theorem dX12_backed_72 : decode cX12_backed 72 = .ok (.iconst 0, 1) := by decide +kernel
theorem dX12_backed_73 : decode cX12_backed 73 = .ok (.iadd, 1) := by decide +kernel
theorem dX12_backed_74 : decode cX12_backed 74 = .ok (.istore_n 3, 1) := by decide +kernel
theorem dX12_backed_75 : decode cX12_backed 75 = .ok (.iinc 4 1, 3) := by decide +kernel
theorem dX12_backed_78 : decode cX12_backed 78 = .ok (.goto (-52), 3) := by decide +kernel
theorem dX12_backed_81 : decode cX12_backed 81 = .ok (.aload_n 0, 1) := by decide +kernel
theorem dX12_backed_82 : decode cX12_backed 82 = .ok (.iload_n 1, 1) := by decide +kernel
theorem dX12_backed_83 : decode cX12_backed 83 = .ok (.iconst 0, 1) := by decide +kernel
theorem dX12_backed_84 : decode cX12_backed 84 = .ok (.invokevirtual 482, 3) := by decide +kernel
theorem dX12_backed_87 : decode cX12_backed 87 = .ok (.istore 4, 2) := by decide +kernel
theorem dX12_backed_89 : decode cX12_backed 89 = .ok (.iload_n 2, 1) := by decide +kernel
theorem dX12_backed_90 : decode cX12_backed 90 = .ok (.ifCond .ne 10, 3) := by decide +kernel
theorem dX12_backed_93 : decode cX12_backed 93 = .ok (.iload_n 3, 1) := by decide +kernel
theorem dX12_backed_94 : decode cX12_backed 94 = .ok (.iload 4, 2) := by decide +kernel
theorem dX12_backed_96 : decode cX12_backed 96 = .ok (.isub, 1) := by decide +kernel
theorem dX12_backed_97 : decode cX12_backed 97 = .ok (.goto 7, 3) := by decide +kernel
theorem dX12_backed_100 : decode cX12_backed 100 = .ok (.aload_n 0, 1) := by decide +kernel
theorem dX12_backed_101 : decode cX12_backed 101 = .ok (.getfield 479, 3) := by decide +kernel
theorem dX12_backed_104 : decode cX12_backed 104 = .ok (.ireturn, 1) := by decide +kernel
set_option maxHeartbeats 4000000 in
set_option maxRecDepth 100000 in
theorem lp_sX12_backed {p : Program} {l : Launch} {e : Env} {R : Room} {s : State} {m : MethodId} {args : Array Value} {below : List Frame} {meth : Method} {c : Code} {Q : State → Prop} {A : Nat → Prop} {cells slots : Nat} {dC : Nat → ClassId} {dI : Nat → Nat → Nat} (h0 : Nat) (mi : Nat → Int32) (mr : Nat → Nat) (km_must : ClassId) (fm_must : Nat → Int32) (km_least : ClassId) (fm_least : Nat → Int32) (km_pin : ClassId) (fm_pin : Nat → Int32) (km_ways : ClassId) (fm_ways : Nat → Int32) (km_verdict : ClassId) (fm_verdict : Nat → Int32) (km_row : ClassId) (fm_row : Nat → Int32) (km_struck : ClassId) (fm_struck : Nat → Int32) (km_reportKnown : ClassId) (fm_reportKnown : Nat → Int32) (km_reportPlace : ClassId) (fm_reportPlace : Nat → Int32) (km_reportMonth : ClassId) (fm_reportMonth : Nat → Int32) (km_reportDay : ClassId) (fm_reportDay : Nat → Int32) (km_reportKind : ClassId) (fm_reportKind : Nat → Int32) (km_trust : ClassId) (fm_trust : Nat → Int32) (km_letter : ClassId) (fm_letter : Nat → Int32) (km_worth : ClassId) (fm_worth : Nat → Int32) (p1 : Int32) (p2 : Int32) (gmi_0 : gi (mi 0) 0 24) (gmi_1 : gi (mi 1) 0 5) (gmi_2 : gi (mi 2) 0 5) (gmi_4 : gi (mi 4) 0 1) (gmi_7 : gi (mi 7) 0 6) (gmi_10 : gi (mi 10) 0 24) (gmi_17 : gi (mi 17) 0 8) (gmi_23 : gi (mi 23) 0 300) (gmi_24 : gi (mi 24) 0 1) (gmi_26 : gi (mi 26) 0 1600) (gmi_29 : gi (mi 29) 0 1600) (gmi_30 : gi (mi 30) 0 1600) (gmi_33 : gi (mi 33) 0 1) (gmi_37 : gi (mi 37) 0 1) (gmi_41 : gi (mi 41) 0 24) (gmi_50 : gi (mi 50) 0 1) (gmi_51 : gi (mi 51) 0 1) (gmi_56 : gi (mi 56) 0 80) (gfm_row : ga fm_row 24 0 23) (gfm_struck : ga fm_struck 24 0 1) (gfm_reportKnown : ga fm_reportKnown 24 0 999) (gfm_reportPlace : ga fm_reportPlace 24 0 5) (gfm_reportMonth : ga fm_reportMonth 24 0 23) (gfm_reportDay : ga fm_reportDay 24 0 999) (hx : p.tables.exec = Jvm.exec) (hb : c.code = cX12_backed) (hml : c.maxLocals = 5) (hown : s.vm.findClass RX12 = some m.cls) (hts : ∀ w ∈ ((.code yX12_backed cX12_backed 5 (some .int) :: wsGB) : List Cond), w.before args s = true) (hK : va_K (dC, dI) vwCl [(km_must, .int), (km_least, .int), (km_pin, .int), (km_ways, .int), (km_verdict, .int), (km_row, .int), (km_struck, .boolean), (km_reportKnown, .int), (km_reportPlace, .int), (km_reportMonth, .int), (km_reportDay, .int), (km_reportKind, .int), (km_trust, .int), (km_letter, .int), (km_worth, .int)] s) (hA : ∀ q : Nat, s.heap.size ≤ q → A q) (hRf : 3 ≤ R.frames) (hRl : 76 ≤ R.locals) (hRc : cells ≤ R.cells) (hRs : slots ≤ R.slots) (kr20 : ∀ (v : Int32) (w0_54 : Int32) (z15 : Nat → Int32) (H : Heap) (locs : List Loc) (ls : Array Slot), gi v (-2) (-2) → va_P (dC, dI) vwCl [(h0, .inr (12, fsMM (upd mi 54 w0_54) mr)), ((mr 14), .inl (km_must, 25, .inl fm_must)), ((mr 15), .inl (km_least, 25, .inl fm_least)), ((mr 16), .inl (km_pin, 25, .inl fm_pin)), ((mr 17), .inl (km_ways, 6875, .inl fm_ways)), ((mr 18), .inl (km_verdict, 24, .inl fm_verdict)), ((mr 19), .inl (km_row, 24, .inl fm_row)), ((mr 4), .inl (km_struck, 24, .inl fm_struck)), ((mr 7), .inl (km_reportKnown, 24, .inl fm_reportKnown)), ((mr 2), .inl (km_reportPlace, 24, .inl fm_reportPlace)), ((mr 5), .inl (km_reportMonth, 24, .inl fm_reportMonth)), ((mr 6), .inl (km_reportDay, 24, .inl fm_reportDay)), ((mr 3), .inl (km_reportKind, 24, .inl fm_reportKind)), ((mr 0), .inl (km_trust, 6, .inl fm_trust)), ((mr 1), .inl (km_letter, 36, .inl fm_letter)), ((mr 22), .inl (km_worth, 6875, .inl z15))] H → va_D A [(h0, .inr (12, fsMM (upd mi 54 w0_54) mr)), ((mr 14), .inl (km_must, 25, .inl fm_must)), ((mr 15), .inl (km_least, 25, .inl fm_least)), ((mr 16), .inl (km_pin, 25, .inl fm_pin)), ((mr 17), .inl (km_ways, 6875, .inl fm_ways)), ((mr 18), .inl (km_verdict, 24, .inl fm_verdict)), ((mr 19), .inl (km_row, 24, .inl fm_row)), ((mr 4), .inl (km_struck, 24, .inl fm_struck)), ((mr 7), .inl (km_reportKnown, 24, .inl fm_reportKnown)), ((mr 2), .inl (km_reportPlace, 24, .inl fm_reportPlace)), ((mr 5), .inl (km_reportMonth, 24, .inl fm_reportMonth)), ((mr 6), .inl (km_reportDay, 24, .inl fm_reportDay)), ((mr 3), .inl (km_reportKind, 24, .inl fm_reportKind)), ((mr 0), .inl (km_trust, 6, .inl fm_trust)), ((mr 1), .inl (km_letter, 36, .inl fm_letter)), ((mr 22), .inl (km_worth, 6875, .inl z15))] → va_S A s.heap H locs → lv_has ls 5 [] → W p l e R s m args below meth c H locs cells slots Q (F0 m 20 ls [.int v])) (kr104 : ∀ (v : Int32) (w0_54 : Int32) (z15 : Nat → Int32) (H : Heap) (locs : List Loc) (ls : Array Slot), va_P (dC, dI) vwCl [(h0, .inr (12, fsMM (upd mi 54 w0_54) mr)), ((mr 14), .inl (km_must, 25, .inl fm_must)), ((mr 15), .inl (km_least, 25, .inl fm_least)), ((mr 16), .inl (km_pin, 25, .inl fm_pin)), ((mr 17), .inl (km_ways, 6875, .inl fm_ways)), ((mr 18), .inl (km_verdict, 24, .inl fm_verdict)), ((mr 19), .inl (km_row, 24, .inl fm_row)), ((mr 4), .inl (km_struck, 24, .inl fm_struck)), ((mr 7), .inl (km_reportKnown, 24, .inl fm_reportKnown)), ((mr 2), .inl (km_reportPlace, 24, .inl fm_reportPlace)), ((mr 5), .inl (km_reportMonth, 24, .inl fm_reportMonth)), ((mr 6), .inl (km_reportDay, 24, .inl fm_reportDay)), ((mr 3), .inl (km_reportKind, 24, .inl fm_reportKind)), ((mr 0), .inl (km_trust, 6, .inl fm_trust)), ((mr 1), .inl (km_letter, 36, .inl fm_letter)), ((mr 22), .inl (km_worth, 6875, .inl z15))] H → va_D A [(h0, .inr (12, fsMM (upd mi 54 w0_54) mr)), ((mr 14), .inl (km_must, 25, .inl fm_must)), ((mr 15), .inl (km_least, 25, .inl fm_least)), ((mr 16), .inl (km_pin, 25, .inl fm_pin)), ((mr 17), .inl (km_ways, 6875, .inl fm_ways)), ((mr 18), .inl (km_verdict, 24, .inl fm_verdict)), ((mr 19), .inl (km_row, 24, .inl fm_row)), ((mr 4), .inl (km_struck, 24, .inl fm_struck)), ((mr 7), .inl (km_reportKnown, 24, .inl fm_reportKnown)), ((mr 2), .inl (km_reportPlace, 24, .inl fm_reportPlace)), ((mr 5), .inl (km_reportMonth, 24, .inl fm_reportMonth)), ((mr 6), .inl (km_reportDay, 24, .inl fm_reportDay)), ((mr 3), .inl (km_reportKind, 24, .inl fm_reportKind)), ((mr 0), .inl (km_trust, 6, .inl fm_trust)), ((mr 1), .inl (km_letter, 36, .inl fm_letter)), ((mr 22), .inl (km_worth, 6875, .inl z15))] → va_S A s.heap H locs → lv_has ls 5 [] → W p l e R s m args below meth c H locs cells slots Q (F0 m 104 ls [.int v])) : ∀ z : Nat, (∀ (v3 : Int32) (v4 : Int32) (H : Heap) (locs : List Loc) (ls : Array Slot), gi p1 0 999 → gi p2 0 1 → gi v4 0 24 → 49 + (-2) * v4.toInt < (z : Int) → va_P (dC, dI) vwCl [(h0, .inr (12, fsMM mi mr)), ((mr 14), .inl (km_must, 25, .inl fm_must)), ((mr 15), .inl (km_least, 25, .inl fm_least)), ((mr 16), .inl (km_pin, 25, .inl fm_pin)), ((mr 17), .inl (km_ways, 6875, .inl fm_ways)), ((mr 18), .inl (km_verdict, 24, .inl fm_verdict)), ((mr 19), .inl (km_row, 24, .inl fm_row)), ((mr 4), .inl (km_struck, 24, .inl fm_struck)), ((mr 7), .inl (km_reportKnown, 24, .inl fm_reportKnown)), ((mr 2), .inl (km_reportPlace, 24, .inl fm_reportPlace)), ((mr 5), .inl (km_reportMonth, 24, .inl fm_reportMonth)), ((mr 6), .inl (km_reportDay, 24, .inl fm_reportDay)), ((mr 3), .inl (km_reportKind, 24, .inl fm_reportKind)), ((mr 0), .inl (km_trust, 6, .inl fm_trust)), ((mr 1), .inl (km_letter, 36, .inl fm_letter)), ((mr 22), .inl (km_worth, 6875, .inl fm_worth))] H → va_D A [(h0, .inr (12, fsMM mi mr)), ((mr 14), .inl (km_must, 25, .inl fm_must)), ((mr 15), .inl (km_least, 25, .inl fm_least)), ((mr 16), .inl (km_pin, 25, .inl fm_pin)), ((mr 17), .inl (km_ways, 6875, .inl fm_ways)), ((mr 18), .inl (km_verdict, 24, .inl fm_verdict)), ((mr 19), .inl (km_row, 24, .inl fm_row)), ((mr 4), .inl (km_struck, 24, .inl fm_struck)), ((mr 7), .inl (km_reportKnown, 24, .inl fm_reportKnown)), ((mr 2), .inl (km_reportPlace, 24, .inl fm_reportPlace)), ((mr 5), .inl (km_reportMonth, 24, .inl fm_reportMonth)), ((mr 6), .inl (km_reportDay, 24, .inl fm_reportDay)), ((mr 3), .inl (km_reportKind, 24, .inl fm_reportKind)), ((mr 0), .inl (km_trust, 6, .inl fm_trust)), ((mr 1), .inl (km_letter, 36, .inl fm_letter)), ((mr 22), .inl (km_worth, 6875, .inl fm_worth))] → va_S A s.heap H locs → lv_has ls 5 [(0, .ref h0), (1, .int p1), (2, .int p2), (3, .int v3), (4, .int v4)] → W p l e R s m args below meth c H locs cells slots Q (F0 m 26 ls [])) := by
  intro z
  induction z with
  | zero =>
    intro v3 v4 H locs ls gf_p1 gf_p2 gv4 hmu hP hD hS hl
    exact absurd hmu (by have hv41 := gv4.1; have hv42 := gv4.2; omega)
  | succ z ih =>
      intro v3 v4 H locs ls gf_p1 gf_p2 gv4 hmu hP hD hS hl
      refine lv_iload hx hb dX12_backed_26 (lv_at hl 4 rfl) ?_
      refine lv_aload_n hx hb dX12_backed_28 rfl (lv_at hl 0 rfl) ?_
      refine va_get (D := (dC, dI)) (ci := 12) (v := .int (mi 10)) (C := RX12) (T := TX12) (N := 57) hx hb hts (fun w h => List.mem_cons_of_mem _ (jnGB_X12 w h)) hown hK hP 0 rfl rfl 10 (by decide) (hts _ (List.mem_cons_of_mem _ mGB_111)) (fun _ h9 => h9) rfl dX12_backed_29 ?_
      refine lv_icmp_ge (tgt := 81) hx hb dX12_backed_32 (by decide) (fun c_541 => ?_) (fun c_541 => ?_)
      · refine lv_aload_n hx hb dX12_backed_81 rfl (lv_at hl 0 rfl) ?_
        refine lv_iload_n hx hb dX12_backed_82 rfl (lv_at hl 1 rfl) ?_
        refine lv_iconst (v := 0) hx hb dX12_backed_83 (by decide) ?_
        have hPc := hP.sub (ws' := [(h0, .inr (12, fsMM mi mr)), ((mr 22), .inl (km_worth, 6875, .inl fm_worth)), ((mr 14), .inl (km_must, 25, .inl fm_must)), ((mr 15), .inl (km_least, 25, .inl fm_least)), ((mr 16), .inl (km_pin, 25, .inl fm_pin)), ((mr 4), .inl (km_struck, 24, .inl fm_struck)), ((mr 7), .inl (km_reportKnown, 24, .inl fm_reportKnown)), ((mr 5), .inl (km_reportMonth, 24, .inl fm_reportMonth)), ((mr 3), .inl (km_reportKind, 24, .inl fm_reportKind)), ((mr 6), .inl (km_reportDay, 24, .inl fm_reportDay)), ((mr 2), .inl (km_reportPlace, 24, .inl fm_reportPlace)), ((mr 0), .inl (km_trust, 6, .inl fm_trust))]) [0, 15, 1, 2, 3, 7, 8, 10, 12, 11, 9, 13] rfl
        have hKc := hK.sub (tys' := [(km_worth, .int), (km_must, .int), (km_least, .int), (km_pin, .int), (km_struck, .boolean), (km_reportKnown, .int), (km_reportMonth, .int), (km_reportKind, .int), (km_reportDay, .int), (km_reportPlace, .int), (km_trust, .int)]) [14, 0, 1, 2, 6, 7, 9, 11, 10, 8, 12] rfl
        have hDc := hD.sub (ws' := [(h0, .inr (12, fsMM mi mr)), ((mr 22), .inl (km_worth, 6875, .inl fm_worth)), ((mr 14), .inl (km_must, 25, .inl fm_must)), ((mr 15), .inl (km_least, 25, .inl fm_least)), ((mr 16), .inl (km_pin, 25, .inl fm_pin)), ((mr 4), .inl (km_struck, 24, .inl fm_struck)), ((mr 7), .inl (km_reportKnown, 24, .inl fm_reportKnown)), ((mr 5), .inl (km_reportMonth, 24, .inl fm_reportMonth)), ((mr 3), .inl (km_reportKind, 24, .inl fm_reportKind)), ((mr 6), .inl (km_reportDay, 24, .inl fm_reportDay)), ((mr 2), .inl (km_reportPlace, 24, .inl fm_reportPlace)), ((mr 0), .inl (km_trust, 6, .inl fm_trust))]) [0, 15, 1, 2, 3, 7, 8, 10, 12, 11, 9, 13] (by decide) rfl
        have hFc := va_free (wc := [(h0, .inr (12, fsMM mi mr)), ((mr 22), .inl (km_worth, 6875, .inl fm_worth)), ((mr 14), .inl (km_must, 25, .inl fm_must)), ((mr 15), .inl (km_least, 25, .inl fm_least)), ((mr 16), .inl (km_pin, 25, .inl fm_pin)), ((mr 4), .inl (km_struck, 24, .inl fm_struck)), ((mr 7), .inl (km_reportKnown, 24, .inl fm_reportKnown)), ((mr 5), .inl (km_reportMonth, 24, .inl fm_reportMonth)), ((mr 3), .inl (km_reportKind, 24, .inl fm_reportKind)), ((mr 6), .inl (km_reportDay, 24, .inl fm_reportDay)), ((mr 2), .inl (km_reportPlace, 24, .inl fm_reportPlace)), ((mr 0), .inl (km_trust, 6, .inl fm_trust))]) hD hS hA [0, 15, 1, 2, 3, 7, 8, 10, 12, 11, 9, 13] rfl
        refine va_calli (va_runV (As := [.int p1, .int 0]) (rest := []) ⟨hx, hb, hml, hown, hts⟩ (sX12_laysWorth l dC dI H.size h0 mi mr km_worth fm_worth km_must fm_must km_least fm_least km_pin fm_pin km_struck fm_struck km_reportKnown fm_reportKnown km_reportMonth fm_reportMonth km_reportKind fm_reportKind km_reportDay fm_reportDay km_reportPlace fm_reportPlace km_trust fm_trust p1 0 gmi_0 gmi_1 gmi_2 gmi_4 gmi_7 gmi_10 gmi_17 gmi_23 gmi_24 gmi_26 gmi_29 gmi_30 gmi_33 gmi_37 gmi_41 gmi_50 gmi_51 gmi_56 gfm_struck gfm_reportKnown gfm_reportMonth gfm_reportDay gfm_reportPlace (gi_w (gi_c 0 0 (by decide)) (by decide))) (cwV 2 hts (gz_gV mGB_553 mGB_554 mGB_555 mGB_1 mGB_556 goodGB) rfl rfl rfl (by decide +kernel) ⟨Nat.le_trans (Nat.le_of_ble_eq_true rfl) hRf, Nat.le_trans (Nat.le_of_ble_eq_true rfl) hRl⟩) ⟨fun a U g mk q => by obtain ⟨q0, q1, qP, qK, qD⟩ := q; exact ⟨q0, q1, qP, va_K.moved (u := U) (U := U.calling g mk a) (Vm.Alike.refl U.vm) qK, qD⟩, va_recv hKc hPc (ci := 12) (q0 := 0) rfl rfl, fun U hU hW => ⟨rfl, by rw [hU], by rw [hU]; exact hPc, va_K.moved hW.alike hKc, hDc.weaken (fun _ _ _ _ => trivial)⟩⟩ rfl rfl hl.1 rfl (lv_room (Nat.le_of_ble_eq_true rfl)) dX12_backed_84 ⟨hRc, hRs⟩) hS (fun q _ h => hFc q h) hFc (fun r_542 u t H1 locs ht hvm hw hB hz1 hk1 hS => ?_)
        obtain ⟨y_543, f_544, hP1, hD1⟩ := hB
        rw [ht] at hP1
        obtain ⟨hP, hD⟩ := va_join (wr := [((mr 17), .inl (km_ways, 6875, .inl fm_ways)), ((mr 18), .inl (km_verdict, 24, .inl fm_verdict)), ((mr 19), .inl (km_row, 24, .inl fm_row)), ((mr 1), .inl (km_letter, 36, .inl fm_letter))]) (w1 := [(h0, .inr (12, fsMM (upd mi 54 y_543) mr)), ((mr 22), .inl (km_worth, 6875, .inl f_544)), ((mr 14), .inl (km_must, 25, .inl fm_must)), ((mr 15), .inl (km_least, 25, .inl fm_least)), ((mr 16), .inl (km_pin, 25, .inl fm_pin)), ((mr 4), .inl (km_struck, 24, .inl fm_struck)), ((mr 7), .inl (km_reportKnown, 24, .inl fm_reportKnown)), ((mr 5), .inl (km_reportMonth, 24, .inl fm_reportMonth)), ((mr 3), .inl (km_reportKind, 24, .inl fm_reportKind)), ((mr 6), .inl (km_reportDay, 24, .inl fm_reportDay)), ((mr 2), .inl (km_reportPlace, 24, .inl fm_reportPlace)), ((mr 0), .inl (km_trust, 6, .inl fm_trust))]) hP hD [0, 15, 1, 2, 3, 7, 8, 10, 12, 11, 9, 13] [4, 5, 6, 14] rfl rfl (by decide) (by decide) hk1 hFc hP1 hD1
        have hP := hP.sub (ws' := [(h0, .inr (12, fsMM (upd mi 54 y_543) mr)), ((mr 14), .inl (km_must, 25, .inl fm_must)), ((mr 15), .inl (km_least, 25, .inl fm_least)), ((mr 16), .inl (km_pin, 25, .inl fm_pin)), ((mr 17), .inl (km_ways, 6875, .inl fm_ways)), ((mr 18), .inl (km_verdict, 24, .inl fm_verdict)), ((mr 19), .inl (km_row, 24, .inl fm_row)), ((mr 4), .inl (km_struck, 24, .inl fm_struck)), ((mr 7), .inl (km_reportKnown, 24, .inl fm_reportKnown)), ((mr 2), .inl (km_reportPlace, 24, .inl fm_reportPlace)), ((mr 5), .inl (km_reportMonth, 24, .inl fm_reportMonth)), ((mr 6), .inl (km_reportDay, 24, .inl fm_reportDay)), ((mr 3), .inl (km_reportKind, 24, .inl fm_reportKind)), ((mr 0), .inl (km_trust, 6, .inl fm_trust)), ((mr 1), .inl (km_letter, 36, .inl fm_letter)), ((mr 22), .inl (km_worth, 6875, .inl f_544))]) [4, 6, 7, 8, 0, 1, 2, 9, 10, 14, 11, 13, 12, 15, 3, 5] rfl
        have hD := hD.sub (ws' := [(h0, .inr (12, fsMM (upd mi 54 y_543) mr)), ((mr 14), .inl (km_must, 25, .inl fm_must)), ((mr 15), .inl (km_least, 25, .inl fm_least)), ((mr 16), .inl (km_pin, 25, .inl fm_pin)), ((mr 17), .inl (km_ways, 6875, .inl fm_ways)), ((mr 18), .inl (km_verdict, 24, .inl fm_verdict)), ((mr 19), .inl (km_row, 24, .inl fm_row)), ((mr 4), .inl (km_struck, 24, .inl fm_struck)), ((mr 7), .inl (km_reportKnown, 24, .inl fm_reportKnown)), ((mr 2), .inl (km_reportPlace, 24, .inl fm_reportPlace)), ((mr 5), .inl (km_reportMonth, 24, .inl fm_reportMonth)), ((mr 6), .inl (km_reportDay, 24, .inl fm_reportDay)), ((mr 3), .inl (km_reportKind, 24, .inl fm_reportKind)), ((mr 0), .inl (km_trust, 6, .inl fm_trust)), ((mr 1), .inl (km_letter, 36, .inl fm_letter)), ((mr 22), .inl (km_worth, 6875, .inl f_544))]) [4, 6, 7, 8, 0, 1, 2, 9, 10, 14, 11, 13, 12, 15, 3, 5] (by decide) rfl
        generalize H1 = H at hP hS ⊢
        refine lv_istore (lv' := [(4, .int r_542), (0, .ref h0), (1, .int p1), (2, .int p2), (3, .int v3)]) hx hb dX12_backed_87 hl (by decide) rfl (fun ls hl => ?_)
        refine lv_iload_n hx hb dX12_backed_89 rfl (lv_at hl 3 rfl) ?_
        refine lv_if_ne (tgt := 100) hx hb dX12_backed_90 (by decide) (fun c_545 => ?_) (fun c_545 => ?_)
        · have g_546 : gi p2 1 1 := gi_ne_lo c_545 gf_p2 (gi_c 0 0 (by decide)) (by decide)
          refine lv_aload_n hx hb dX12_backed_100 rfl (lv_at hl 1 rfl) ?_
          refine va_get (D := (dC, dI)) (ci := 12) (v := .int y_543) (C := RX12) (T := TX12) (N := 57) hx hb hts (fun w h => List.mem_cons_of_mem _ (jnGB_X12 w h)) hown hK hP 0 rfl rfl 54 (by decide) (hts _ (List.mem_cons_of_mem _ mGB_552)) (fun _ h9 => h9) rfl dX12_backed_101 ?_
          exact kr104 y_543 y_543 f_544 _ _ _ hP hD hS (lv_sub hl [] rfl)
        · have g_547 : gi p2 0 0 := gi_eq c_545 (gi_c 0 0 (by decide))
          refine lv_iload_n hx hb dX12_backed_93 rfl (lv_at hl 4 rfl) ?_
          refine lv_iload hx hb dX12_backed_94 (lv_at hl 0 rfl) ?_
          refine lv_isub hx hb dX12_backed_96 ?_
          refine lv_topi (fun x_548 ex_548 => ?_)
          refine lv_goto (tgt := 104) hx hb dX12_backed_97 (by decide) ?_
          exact kr104 x_548 y_543 f_544 _ _ _ hP hD hS (lv_sub hl [] rfl)
      · have g_549 : gi v4 0 23 := gi_lt_l (Int32.not_le.mp c_541) gv4 gmi_10 (by decide)
        have g_550 : gi (mi 10) 1 24 := gi_lt_r (Int32.not_le.mp c_541) gv4 gmi_10 (by decide)
        refine lv_iload_n hx hb dX12_backed_35 rfl (lv_at hl 3 rfl) ?_
        refine lv_aload_n hx hb dX12_backed_36 rfl (lv_at hl 0 rfl) ?_
        refine lv_iload hx hb dX12_backed_37 (lv_at hl 4 rfl) ?_
        refine lv_iload_n hx hb dX12_backed_39 rfl (lv_at hl 1 rfl) ?_
        have hPc := hP.sub (ws' := [(h0, .inr (12, fsMM mi mr)), ((mr 4), .inl (km_struck, 24, .inl fm_struck)), ((mr 7), .inl (km_reportKnown, 24, .inl fm_reportKnown))]) [0, 7, 8] rfl
        have hKc := hK.sub (tys' := [(km_struck, .boolean), (km_reportKnown, .int)]) [6, 7] rfl
        refine va_calli (va_runV (As := [.int v4, .int p1]) (rest := [.int v3]) ⟨hx, hb, hml, hown, hts⟩ (sX12_isKnown l dC dI h0 mi mr km_struck fm_struck km_reportKnown fm_reportKnown v4 p1 gmi_0 gmi_1 gmi_2 gmi_4 gmi_7 (gi_w g_550 (by decide)) gmi_17 gmi_23 gmi_24 gmi_26 gmi_29 gmi_30 gmi_33 gmi_37 gmi_41 gmi_50 gmi_51 gmi_56 gfm_struck gfm_reportKnown g_549) (cwV 2 hts (gz_gV mGB_279 mGB_280 mGB_281 mGB_1 mGB_282 goodGB) rfl rfl rfl (by decide +kernel) ⟨Nat.le_trans (Nat.le_of_ble_eq_true rfl) hRf, Nat.le_trans (Nat.le_of_ble_eq_true rfl) hRl⟩) ⟨fun a U g mk q => by obtain ⟨q0, qP, qK⟩ := q; exact ⟨q0, qP, va_K.moved (u := U) (U := U.calling g mk a) (Vm.Alike.refl U.vm) qK⟩, va_recv hKc hPc (ci := 12) (q0 := 0) rfl rfl, fun U hU hW => ⟨rfl, by rw [hU]; exact hPc, va_K.moved hW.alike hKc⟩⟩ rfl rfl hl.1 rfl (lv_room (Nat.le_of_ble_eq_true rfl)) dX12_backed_40 ⟨hRc, hRs⟩) hS (fun q _ h => h.elim) (fun q h => h.elim) (fun r_551 u t H1 locs ht hvm hw hB hz1 hk1 hS => ?_)
        have hP := gz_keep hP hk1
        generalize H1 = H at hP hS ⊢
        have gr_551 : gi r_551 0 1 := hw
        refine lv_if_eq (tgt := 72) hx hb dX12_backed_43 (by decide) (fun c_552 => ?_) (fun c_552 => ?_)
        · have g_553 : gi r_551 0 0 := gi_eq c_552 (gi_c 0 0 (by decide))
          refine lv_iconst (v := 0) hx hb dX12_backed_72 (by decide) ?_
          refine lv_iadd hx hb dX12_backed_73 ?_
          refine lv_topi (fun x_554 ex_554 => ?_)
          refine lv_istore_n (lv' := [(3, .int x_554), (0, .ref h0), (1, .int p1), (2, .int p2), (4, .int v4)]) hx hb dX12_backed_74 rfl hl (by decide) rfl (fun ls hl => ?_)
          obtain ⟨x_555, ex_555⟩ : ∃ y : Int32, y = v4 + 1 := ⟨_, rfl⟩
          have gx_555 : gi x_555 1 24 := gi_add ex_555 g_549 (gi_c 1 1 (by decide)) (by decide)
          refine lv_iinc (v := x_555) (lv' := [(4, .int x_555), (3, .int x_554), (0, .ref h0), (1, .int p1), (2, .int p2)]) hx hb dX12_backed_75 hl (k := 4) rfl (by rw [ex_555]; rfl) (by decide) rfl (fun ls hl => ?_)
          refine lv_goto (tgt := 26) hx hb dX12_backed_78 (by decide) ?_
          exact ih x_554 x_555 _ _ _ gf_p1 gf_p2 (gi_w gx_555 (by decide)) (by have av4 := gv4.1; have bv4 := gv4.2; have qgx_555 := gx_555.1; have rgx_555 := gx_555.2; have igx_555 : x_555.toInt = v4.toInt + 1 := (by have hc1 : (1 : Int32).toInt = 1 := (by decide); have h9 := gi_addI ex_555 (by have h1 := g_549.1; have h2 := (gi_c 1 1 (by decide)).1; have h3 := g_549.2; have h4 := (gi_c 1 1 (by decide)).2; omega) (by have h1 := g_549.1; have h2 := (gi_c 1 1 (by decide)).1; have h3 := g_549.2; have h4 := (gi_c 1 1 (by decide)).2; omega); rw [hc1] at h9; exact h9); have qgv4 := g_549.1; have rgv4 := g_549.2; omega) hP hD hS (lv_sub hl [2, 3, 4, 1, 0] rfl)
        · have g_556 : gi r_551 1 1 := gi_ne_lo c_552 gr_551 (gi_c 0 0 (by decide)) (by decide)
          refine lv_aload_n hx hb dX12_backed_46 rfl (lv_at hl 0 rfl) ?_
          refine va_get (D := (dC, dI)) (ci := 12) (v := .ref (mr 3)) (C := RX12) (T := TX12) (N := 57) hx hb hts (fun w h => List.mem_cons_of_mem _ (jnGB_X12 w h)) hown hK hP 0 rfl rfl 12 (by decide) (hts _ (List.mem_cons_of_mem _ mGB_13)) (fun _ h9 => h9) rfl dX12_backed_47 ?_
          refine lv_iload hx hb dX12_backed_50 (lv_at hl 4 rfl) ?_
          refine va_iald hx hb hK hP 12 11 rfl rfl (gi_in g_549 (by decide)) dX12_backed_52 ?_
          refine lv_topi (fun x_557 ex_557 => ?_)
          refine lv_iconst (v := 2) hx hb dX12_backed_53 (by decide) ?_
          refine lv_icmp_eq (tgt := 72) hx hb dX12_backed_54 (by decide) (fun c_558 => ?_) (fun c_558 => ?_)
          · have g_559 : gi x_557 2 2 := gi_eq c_558 (gi_c 2 2 (by decide))
            refine lv_iconst (v := 0) hx hb dX12_backed_72 (by decide) ?_
            refine lv_iadd hx hb dX12_backed_73 ?_
            refine lv_topi (fun x_560 ex_560 => ?_)
            refine lv_istore_n (lv' := [(3, .int x_560), (0, .ref h0), (1, .int p1), (2, .int p2), (4, .int v4)]) hx hb dX12_backed_74 rfl hl (by decide) rfl (fun ls hl => ?_)
            obtain ⟨x_561, ex_561⟩ : ∃ y : Int32, y = v4 + 1 := ⟨_, rfl⟩
            have gx_561 : gi x_561 1 24 := gi_add ex_561 g_549 (gi_c 1 1 (by decide)) (by decide)
            refine lv_iinc (v := x_561) (lv' := [(4, .int x_561), (3, .int x_560), (0, .ref h0), (1, .int p1), (2, .int p2)]) hx hb dX12_backed_75 hl (k := 4) rfl (by rw [ex_561]; rfl) (by decide) rfl (fun ls hl => ?_)
            refine lv_goto (tgt := 26) hx hb dX12_backed_78 (by decide) ?_
            exact ih x_560 x_561 _ _ _ gf_p1 gf_p2 (gi_w gx_561 (by decide)) (by have av4 := gv4.1; have bv4 := gv4.2; have qgx_561 := gx_561.1; have rgx_561 := gx_561.2; have igx_561 : x_561.toInt = v4.toInt + 1 := (by have hc1 : (1 : Int32).toInt = 1 := (by decide); have h9 := gi_addI ex_561 (by have h1 := g_549.1; have h2 := (gi_c 1 1 (by decide)).1; have h3 := g_549.2; have h4 := (gi_c 1 1 (by decide)).2; omega) (by have h1 := g_549.1; have h2 := (gi_c 1 1 (by decide)).1; have h3 := g_549.2; have h4 := (gi_c 1 1 (by decide)).2; omega); rw [hc1] at h9; exact h9); have qgv4 := g_549.1; have rgv4 := g_549.2; omega) hP hD hS (lv_sub hl [2, 3, 4, 1, 0] rfl)
          · refine lv_aload_n hx hb dX12_backed_57 rfl (lv_at hl 0 rfl) ?_
            refine va_get (D := (dC, dI)) (ci := 12) (v := .ref (mr 0)) (C := RX12) (T := TX12) (N := 57) hx hb hts (fun w h => List.mem_cons_of_mem _ (jnGB_X12 w h)) hown hK hP 0 rfl rfl 8 (by decide) (hts _ (List.mem_cons_of_mem _ mGB_10)) (fun _ h9 => h9) rfl dX12_backed_58 ?_
            refine lv_aload_n hx hb dX12_backed_61 rfl (lv_at hl 0 rfl) ?_
            refine va_get (D := (dC, dI)) (ci := 12) (v := .ref (mr 2)) (C := RX12) (T := TX12) (N := 57) hx hb hts (fun w h => List.mem_cons_of_mem _ (jnGB_X12 w h)) hown hK hP 0 rfl rfl 11 (by decide) (hts _ (List.mem_cons_of_mem _ mGB_12)) (fun _ h9 => h9) rfl dX12_backed_62 ?_
            refine lv_iload hx hb dX12_backed_65 (lv_at hl 4 rfl) ?_
            refine va_iald hx hb hK hP 9 8 rfl rfl (gi_in g_549 (by decide)) dX12_backed_67 ?_
            refine lv_topi (fun x_562 ex_562 => ?_)
            have gx_562 : gi x_562 0 5 := ga_at gfm_reportPlace (gi_in g_549 (by decide)) ex_562
            refine va_iald hx hb hK hP 13 12 rfl rfl (gi_in gx_562 (by decide)) dX12_backed_68 ?_
            refine lv_topi (fun x_563 ex_563 => ?_)
            refine lv_goto (tgt := 73) hx hb dX12_backed_69 (by decide) ?_
            refine lv_iadd hx hb dX12_backed_73 ?_
            refine lv_topi (fun x_564 ex_564 => ?_)
            refine lv_istore_n (lv' := [(3, .int x_564), (0, .ref h0), (1, .int p1), (2, .int p2), (4, .int v4)]) hx hb dX12_backed_74 rfl hl (by decide) rfl (fun ls hl => ?_)
            obtain ⟨x_565, ex_565⟩ : ∃ y : Int32, y = v4 + 1 := ⟨_, rfl⟩
            have gx_565 : gi x_565 1 24 := gi_add ex_565 g_549 (gi_c 1 1 (by decide)) (by decide)
            refine lv_iinc (v := x_565) (lv' := [(4, .int x_565), (3, .int x_564), (0, .ref h0), (1, .int p1), (2, .int p2)]) hx hb dX12_backed_75 hl (k := 4) rfl (by rw [ex_565]; rfl) (by decide) rfl (fun ls hl => ?_)
            refine lv_goto (tgt := 26) hx hb dX12_backed_78 (by decide) ?_
            exact ih x_564 x_565 _ _ _ gf_p1 gf_p2 (gi_w gx_565 (by decide)) (by have av4 := gv4.1; have bv4 := gv4.2; have qgx_565 := gx_565.1; have rgx_565 := gx_565.2; have igx_565 : x_565.toInt = v4.toInt + 1 := (by have hc1 : (1 : Int32).toInt = 1 := (by decide); have h9 := gi_addI ex_565 (by have h1 := g_549.1; have h2 := (gi_c 1 1 (by decide)).1; have h3 := g_549.2; have h4 := (gi_c 1 1 (by decide)).2; omega) (by have h1 := g_549.1; have h2 := (gi_c 1 1 (by decide)).1; have h3 := g_549.2; have h4 := (gi_c 1 1 (by decide)).2; omega); rw [hc1] at h9; exact h9); have qgv4 := g_549.1; have rgv4 := g_549.2; omega) hP hD hS (lv_sub hl [2, 3, 4, 1, 0] rfl)
set_option maxHeartbeats 4000000 in
set_option maxRecDepth 100000 in
theorem sX12_backed (l : Launch) (dC : Nat → ClassId) (dI : Nat → Nat → Nat) (sz : Nat) (h0 : Nat) (mi : Nat → Int32) (mr : Nat → Nat) (km_must : ClassId) (fm_must : Nat → Int32) (km_least : ClassId) (fm_least : Nat → Int32) (km_pin : ClassId) (fm_pin : Nat → Int32) (km_ways : ClassId) (fm_ways : Nat → Int32) (km_verdict : ClassId) (fm_verdict : Nat → Int32) (km_row : ClassId) (fm_row : Nat → Int32) (km_struck : ClassId) (fm_struck : Nat → Int32) (km_reportKnown : ClassId) (fm_reportKnown : Nat → Int32) (km_reportPlace : ClassId) (fm_reportPlace : Nat → Int32) (km_reportMonth : ClassId) (fm_reportMonth : Nat → Int32) (km_reportDay : ClassId) (fm_reportDay : Nat → Int32) (km_reportKind : ClassId) (fm_reportKind : Nat → Int32) (km_trust : ClassId) (fm_trust : Nat → Int32) (km_letter : ClassId) (fm_letter : Nat → Int32) (km_worth : ClassId) (fm_worth : Nat → Int32) (p1 : Int32) (p2 : Int32) (gmi_0 : gi (mi 0) 0 24) (gmi_1 : gi (mi 1) 0 5) (gmi_2 : gi (mi 2) 0 5) (gmi_4 : gi (mi 4) 0 1) (gmi_7 : gi (mi 7) 0 6) (gmi_10 : gi (mi 10) 0 24) (gmi_17 : gi (mi 17) 0 8) (gmi_23 : gi (mi 23) 0 300) (gmi_24 : gi (mi 24) 0 1) (gmi_26 : gi (mi 26) 0 1600) (gmi_29 : gi (mi 29) 0 1600) (gmi_30 : gi (mi 30) 0 1600) (gmi_33 : gi (mi 33) 0 1) (gmi_37 : gi (mi 37) 0 1) (gmi_41 : gi (mi 41) 0 24) (gmi_50 : gi (mi 50) 0 1) (gmi_51 : gi (mi 51) 0 1) (gmi_56 : gi (mi 56) 0 80) (gfm_row : ga fm_row 24 0 23) (gfm_struck : ga fm_struck 24 0 1) (gfm_reportKnown : ga fm_reportKnown 24 0 999) (gfm_reportPlace : ga fm_reportPlace 24 0 5) (gfm_reportMonth : ga fm_reportMonth 24 0 23) (gfm_reportDay : ga fm_reportDay 24 0 999) : Met l yX12_backed (.code yX12_backed cX12_backed 5 (some .int) :: wsGB) ({ frames := 3, cells := 0, slots := 0, locals := 76 }) (va_Pc [.ref h0, .int p1, .int p2] (fun U => U.heap.size = sz ∧ va_P (dC, dI) vwCl [(h0, .inr (12, fsMM mi mr)), ((mr 14), .inl (km_must, 25, .inl fm_must)), ((mr 15), .inl (km_least, 25, .inl fm_least)), ((mr 16), .inl (km_pin, 25, .inl fm_pin)), ((mr 17), .inl (km_ways, 6875, .inl fm_ways)), ((mr 18), .inl (km_verdict, 24, .inl fm_verdict)), ((mr 19), .inl (km_row, 24, .inl fm_row)), ((mr 4), .inl (km_struck, 24, .inl fm_struck)), ((mr 7), .inl (km_reportKnown, 24, .inl fm_reportKnown)), ((mr 2), .inl (km_reportPlace, 24, .inl fm_reportPlace)), ((mr 5), .inl (km_reportMonth, 24, .inl fm_reportMonth)), ((mr 6), .inl (km_reportDay, 24, .inl fm_reportDay)), ((mr 3), .inl (km_reportKind, 24, .inl fm_reportKind)), ((mr 0), .inl (km_trust, 6, .inl fm_trust)), ((mr 1), .inl (km_letter, 36, .inl fm_letter)), ((mr 22), .inl (km_worth, 6875, .inl fm_worth))] U.heap ∧ va_K (dC, dI) vwCl [(km_must, .int), (km_least, .int), (km_pin, .int), (km_ways, .int), (km_verdict, .int), (km_row, .int), (km_struck, .boolean), (km_reportKnown, .int), (km_reportPlace, .int), (km_reportMonth, .int), (km_reportDay, .int), (km_reportKind, .int), (km_trust, .int), (km_letter, .int), (km_worth, .int)] U ∧ va_D (fun _ => True) [(h0, .inr (12, fsMM mi mr)), ((mr 14), .inl (km_must, 25, .inl fm_must)), ((mr 15), .inl (km_least, 25, .inl fm_least)), ((mr 16), .inl (km_pin, 25, .inl fm_pin)), ((mr 17), .inl (km_ways, 6875, .inl fm_ways)), ((mr 18), .inl (km_verdict, 24, .inl fm_verdict)), ((mr 19), .inl (km_row, 24, .inl fm_row)), ((mr 4), .inl (km_struck, 24, .inl fm_struck)), ((mr 7), .inl (km_reportKnown, 24, .inl fm_reportKnown)), ((mr 2), .inl (km_reportPlace, 24, .inl fm_reportPlace)), ((mr 5), .inl (km_reportMonth, 24, .inl fm_reportMonth)), ((mr 6), .inl (km_reportDay, 24, .inl fm_reportDay)), ((mr 3), .inl (km_reportKind, 24, .inl fm_reportKind)), ((mr 0), .inl (km_trust, 6, .inl fm_trust)), ((mr 1), .inl (km_letter, 36, .inl fm_letter)), ((mr 22), .inl (km_worth, 6875, .inl fm_worth))])) (va_Qi (fun (r : Int32) (u : Unit) => gi r (-2147483648) 2147483647) (fun _ t => ∃ (w0_54 : Int32) (z15 : Nat → Int32), va_P (dC, dI) vwCl [(h0, .inr (12, fsMM (upd mi 54 w0_54) mr)), ((mr 14), .inl (km_must, 25, .inl fm_must)), ((mr 15), .inl (km_least, 25, .inl fm_least)), ((mr 16), .inl (km_pin, 25, .inl fm_pin)), ((mr 17), .inl (km_ways, 6875, .inl fm_ways)), ((mr 18), .inl (km_verdict, 24, .inl fm_verdict)), ((mr 19), .inl (km_row, 24, .inl fm_row)), ((mr 4), .inl (km_struck, 24, .inl fm_struck)), ((mr 7), .inl (km_reportKnown, 24, .inl fm_reportKnown)), ((mr 2), .inl (km_reportPlace, 24, .inl fm_reportPlace)), ((mr 5), .inl (km_reportMonth, 24, .inl fm_reportMonth)), ((mr 6), .inl (km_reportDay, 24, .inl fm_reportDay)), ((mr 3), .inl (km_reportKind, 24, .inl fm_reportKind)), ((mr 0), .inl (km_trust, 6, .inl fm_trust)), ((mr 1), .inl (km_letter, 36, .inl fm_letter)), ((mr 22), .inl (km_worth, 6875, .inl z15))] t.heap ∧ va_D (va_A [(h0, .inr (12, fsMM mi mr)), ((mr 14), .inl (km_must, 25, .inl fm_must)), ((mr 15), .inl (km_least, 25, .inl fm_least)), ((mr 16), .inl (km_pin, 25, .inl fm_pin)), ((mr 17), .inl (km_ways, 6875, .inl fm_ways)), ((mr 18), .inl (km_verdict, 24, .inl fm_verdict)), ((mr 19), .inl (km_row, 24, .inl fm_row)), ((mr 4), .inl (km_struck, 24, .inl fm_struck)), ((mr 7), .inl (km_reportKnown, 24, .inl fm_reportKnown)), ((mr 2), .inl (km_reportPlace, 24, .inl fm_reportPlace)), ((mr 5), .inl (km_reportMonth, 24, .inl fm_reportMonth)), ((mr 6), .inl (km_reportDay, 24, .inl fm_reportDay)), ((mr 3), .inl (km_reportKind, 24, .inl fm_reportKind)), ((mr 0), .inl (km_trust, 6, .inl fm_trust)), ((mr 1), .inl (km_letter, 36, .inl fm_letter)), ((mr 22), .inl (km_worth, 6875, .inl fm_worth))] sz) [(h0, .inr (12, fsMM (upd mi 54 w0_54) mr)), ((mr 14), .inl (km_must, 25, .inl fm_must)), ((mr 15), .inl (km_least, 25, .inl fm_least)), ((mr 16), .inl (km_pin, 25, .inl fm_pin)), ((mr 17), .inl (km_ways, 6875, .inl fm_ways)), ((mr 18), .inl (km_verdict, 24, .inl fm_verdict)), ((mr 19), .inl (km_row, 24, .inl fm_row)), ((mr 4), .inl (km_struck, 24, .inl fm_struck)), ((mr 7), .inl (km_reportKnown, 24, .inl fm_reportKnown)), ((mr 2), .inl (km_reportPlace, 24, .inl fm_reportPlace)), ((mr 5), .inl (km_reportMonth, 24, .inl fm_reportMonth)), ((mr 6), .inl (km_reportDay, 24, .inl fm_reportDay)), ((mr 3), .inl (km_reportKind, 24, .inl fm_reportKind)), ((mr 0), .inl (km_trust, 6, .inl fm_trust)), ((mr 1), .inl (km_letter, 36, .inl fm_letter)), ((mr 22), .inl (km_worth, 6875, .inl z15))]) (va_A [(h0, .inr (12, fsMM mi mr)), ((mr 14), .inl (km_must, 25, .inl fm_must)), ((mr 15), .inl (km_least, 25, .inl fm_least)), ((mr 16), .inl (km_pin, 25, .inl fm_pin)), ((mr 17), .inl (km_ways, 6875, .inl fm_ways)), ((mr 18), .inl (km_verdict, 24, .inl fm_verdict)), ((mr 19), .inl (km_row, 24, .inl fm_row)), ((mr 4), .inl (km_struck, 24, .inl fm_struck)), ((mr 7), .inl (km_reportKnown, 24, .inl fm_reportKnown)), ((mr 2), .inl (km_reportPlace, 24, .inl fm_reportPlace)), ((mr 5), .inl (km_reportMonth, 24, .inl fm_reportMonth)), ((mr 6), .inl (km_reportDay, 24, .inl fm_reportDay)), ((mr 3), .inl (km_reportKind, 24, .inl fm_reportKind)), ((mr 0), .inl (km_trust, 6, .inl fm_trust)), ((mr 1), .inl (km_letter, 36, .inl fm_letter)), ((mr 22), .inl (km_worth, 6875, .inl fm_worth))] sz)) 0 0 (va_A [(h0, .inr (12, fsMM mi mr)), ((mr 14), .inl (km_must, 25, .inl fm_must)), ((mr 15), .inl (km_least, 25, .inl fm_least)), ((mr 16), .inl (km_pin, 25, .inl fm_pin)), ((mr 17), .inl (km_ways, 6875, .inl fm_ways)), ((mr 18), .inl (km_verdict, 24, .inl fm_verdict)), ((mr 19), .inl (km_row, 24, .inl fm_row)), ((mr 4), .inl (km_struck, 24, .inl fm_struck)), ((mr 7), .inl (km_reportKnown, 24, .inl fm_reportKnown)), ((mr 2), .inl (km_reportPlace, 24, .inl fm_reportPlace)), ((mr 5), .inl (km_reportMonth, 24, .inl fm_reportMonth)), ((mr 6), .inl (km_reportDay, 24, .inl fm_reportDay)), ((mr 3), .inl (km_reportKind, 24, .inl fm_reportKind)), ((mr 0), .inl (km_trust, 6, .inl fm_trust)), ((mr 1), .inl (km_letter, 36, .inl fm_letter)), ((mr 22), .inl (km_worth, 6875, .inl fm_worth))] sz) := by
  refine Met.ofW (cc := cX12_backed) (maxL := 5) (ret := (some .int)) (by decide) rfl ?_
  intro p e s m args below meth c s₁ B hml hv
  obtain ⟨rfl, hsz, hP, hK, hD0⟩ := hv
  have hx := B.exec
  have hb := B.bytes
  have hr := B.returns
  have hts := atoms_spec (ws := (.code yX12_backed cX12_backed 5 (some .int) :: wsGB)) B.pre
  have hown : s.vm.findClass RX12 = some m.cls := findClass_of_methodNamed B.named
  have hlocks := B.notSynchronized
  subst hsz
  have hD := hD0.self (sz := s.heap.size)
  generalize hAe : va_A [(h0, .inr (12, fsMM mi mr)), ((mr 14), .inl (km_must, 25, .inl fm_must)), ((mr 15), .inl (km_least, 25, .inl fm_least)), ((mr 16), .inl (km_pin, 25, .inl fm_pin)), ((mr 17), .inl (km_ways, 6875, .inl fm_ways)), ((mr 18), .inl (km_verdict, 24, .inl fm_verdict)), ((mr 19), .inl (km_row, 24, .inl fm_row)), ((mr 4), .inl (km_struck, 24, .inl fm_struck)), ((mr 7), .inl (km_reportKnown, 24, .inl fm_reportKnown)), ((mr 2), .inl (km_reportPlace, 24, .inl fm_reportPlace)), ((mr 5), .inl (km_reportMonth, 24, .inl fm_reportMonth)), ((mr 6), .inl (km_reportDay, 24, .inl fm_reportDay)), ((mr 3), .inl (km_reportKind, 24, .inl fm_reportKind)), ((mr 0), .inl (km_trust, 6, .inl fm_trust)), ((mr 1), .inl (km_letter, 36, .inl fm_letter)), ((mr 22), .inl (km_worth, 6875, .inl fm_worth))] s.heap.size = A at hD ⊢
  have hA : ∀ q : Nat, s.heap.size ≤ q → A q := fun q h => by rw [← hAe]; exact Or.inr h
  have hS : va_S A s.heap s.heap [] := va_S.rf
  have hl := lv_entry ([.ref h0, .int p1, .int p2]) (n := 5) (Nat.le_of_ble_eq_true rfl)
  rw [lg_entry_eq]
  generalize (lg_sl ([.ref h0, .int p1, .int p2]) ++ List.replicate (5 - (lg_sl ([.ref h0, .int p1, .int p2])).length) Slot.unset).toArray = ls at hl ⊢
  have hl : lv_has ls 5 [(0, .ref h0), (1, .int p1), (2, .int p2)] := hl
  refine lv_aload_n hx hb dX12_backed_0 rfl (lv_at hl 0 rfl) ?_
  refine lv_iload_n hx hb dX12_backed_1 rfl (lv_at hl 1 rfl) ?_
  have hPc := hP.sub (ws' := [(h0, .inr (12, fsMM mi mr))]) [0] rfl
  have hKc := hK.sub (tys' := []) [] rfl
  refine va_calli (va_runV (As := [.int p1]) (rest := []) ⟨hx, hb, hml, hown, hts⟩ (sX12_isTime l dC dI h0 mi mr p1 gmi_0 gmi_1 gmi_2 gmi_4 gmi_7 gmi_10 gmi_17 gmi_23 gmi_24 gmi_26 gmi_29 gmi_30 gmi_33 gmi_37 gmi_41 gmi_50 gmi_51 gmi_56) (cwV 1 hts (gz_gV mGB_256 mGB_257 mGB_258 mGB_1 mGB_259 goodGB) rfl rfl rfl (by decide +kernel) ⟨Nat.le_of_ble_eq_true rfl, Nat.le_of_ble_eq_true rfl⟩) ⟨fun a U g mk q => by obtain ⟨q0, qP, qK⟩ := q; exact ⟨q0, qP, va_K.moved (u := U) (U := U.calling g mk a) (Vm.Alike.refl U.vm) qK⟩, va_recv hKc hPc (ci := 12) (q0 := 0) rfl rfl, fun U hU hW => ⟨rfl, by rw [hU]; exact hPc, va_K.moved hW.alike hKc⟩⟩ rfl rfl hl.1 rfl (lv_room (Nat.le_of_ble_eq_true rfl)) dX12_backed_2 ⟨Nat.zero_le _, Nat.zero_le _⟩) hS (fun q _ h => h.elim) (fun q h => h.elim) (fun r_566 u t H1 locs ht hvm hw hB hz1 hk1 hS => ?_)
  have hP := gz_keep hP hk1
  generalize H1 = H at hP hS ⊢
  have gr_566 : gi r_566 0 1 := hw.1
  have hqr_566 := hw.2
  refine lv_if_eq (tgt := 18) hx hb dX12_backed_5 (by decide) (fun c_567 => ?_) (fun c_567 => ?_)
  · have g_568 : gi r_566 0 0 := gi_eq c_567 (gi_c 0 0 (by decide))
    refine lv_bipush (v := (-2)) hx hb dX12_backed_18 (by decide) ?_
    exact W.iret (v := (-2)) hx hb hr (fun t ht hW => ⟨⟨(-2), (), rfl, (gi_any (-2)), (mi 54), fm_worth, by rw [ht]; exact hP, hD⟩, hS.F ht⟩) hS.2.2 dX12_backed_20
  · have g_569 : gi r_566 1 1 := gi_ne_lo c_567 gr_566 (gi_c 0 0 (by decide)) (by decide)
    have g_570 : gi p1 0 999 := gi_cap (gi_any p1) (hqr_566 (gz_one g_569)) (by decide)
    refine lv_iload_n hx hb dX12_backed_8 rfl (lv_at hl 2 rfl) ?_
    refine lv_i2l (v := (p2).toInt64) hx hb dX12_backed_9 rfl ?_
    refine lv_topl (fun l_571 el_571 => ?_)
    refine lv_lconst (v := 0) hx hb dX12_backed_10 (by decide) ?_
    refine lv_lconst (v := 1) hx hb dX12_backed_11 (by decide) ?_
    have hPc := hP.sub (ws' := []) [] rfl
    have hKc := hK.sub (tys' := []) [] rfl
    refine va_calli (va_runS (As := [.long l_571, .long 0, .long 1]) (rest := []) ⟨hx, hb, hml, hown, hts⟩ (sX12_in l dC dI l_571 0 1) (cwS 3 hts (gz_gS mGB_47 mGB_48 mGB_1 mGB_49 goodGB) rfl rfl rfl (by decide +kernel) ⟨Nat.le_of_ble_eq_true rfl, Nat.le_of_ble_eq_true rfl⟩) ⟨fun a U g mk q => by obtain ⟨q0, qP, qK⟩ := q; exact ⟨q0, qP, va_K.moved (u := U) (U := U.calling g mk a) (Vm.Alike.refl U.vm) qK⟩, fun U hU hW => ⟨rfl, by rw [hU]; exact hPc, va_K.moved hW.alike hKc⟩⟩ rfl rfl hl.1 rfl (lv_room (Nat.le_of_ble_eq_true rfl)) dX12_backed_12 ⟨Nat.zero_le _, Nat.zero_le _⟩) hS (fun q _ h => h.elim) (fun q h => h.elim) (fun r_572 u t H1 locs ht hvm hw hB hz1 hk1 hS => ?_)
    obtain ⟨hw, hE⟩ := hw
    have hP := gz_keep hP hk1
    generalize H1 = H at hP hS ⊢
    have gr_572 : gi r_572 0 1 := hw.1
    have hqr_572 := hw.2
    refine lv_if_ne (tgt := 21) hx hb dX12_backed_15 (by decide) (fun c_573 => ?_) (fun c_573 => ?_)
    · have g_574 : gi r_572 1 1 := gi_ne_lo c_573 gr_572 (gi_c 0 0 (by decide)) (by decide)
      have g_575 : gi p2 0 1 := gi_cap (gi_any p2) (gz_inr (hqr_572.1 (gz_one g_574)) el_571 (A := 0) (B := 1) (by decide) (by decide)) (by decide)
      refine lv_iconst (v := 0) hx hb dX12_backed_21 (by decide) ?_
      refine lv_istore_n (lv' := [(3, .int 0), (0, .ref h0), (1, .int p1), (2, .int p2)]) hx hb dX12_backed_22 rfl hl (by decide) rfl (fun ls hl => ?_)
      refine lv_iconst (v := 0) hx hb dX12_backed_23 (by decide) ?_
      refine lv_istore (lv' := [(4, .int 0), (3, .int 0), (0, .ref h0), (1, .int p1), (2, .int p2)]) hx hb dX12_backed_24 hl (by decide) rfl (fun ls hl => ?_)
      refine (lp_sX12_backed h0 mi mr km_must fm_must km_least fm_least km_pin fm_pin km_ways fm_ways km_verdict fm_verdict km_row fm_row km_struck fm_struck km_reportKnown fm_reportKnown km_reportPlace fm_reportPlace km_reportMonth fm_reportMonth km_reportDay fm_reportDay km_reportKind fm_reportKind km_trust fm_trust km_letter fm_letter km_worth fm_worth p1 p2 gmi_0 gmi_1 gmi_2 gmi_4 gmi_7 gmi_10 gmi_17 gmi_23 gmi_24 gmi_26 gmi_29 gmi_30 gmi_33 gmi_37 gmi_41 gmi_50 gmi_51 gmi_56 gfm_row gfm_struck gfm_reportKnown gfm_reportPlace gfm_reportMonth gfm_reportDay hx hb hml hown hts hK hA (Nat.le_of_ble_eq_true rfl) (Nat.le_of_ble_eq_true rfl) (Nat.zero_le _) (Nat.zero_le _) (fun v w0_54 z15 H locs ls gv hP hD hS hl => ?_) (fun v w0_54 z15 H locs ls hP hD hS hl => ?_) 62) 0 0 _ _ _ g_570 g_575 (gi_w (gi_c 0 0 (by decide)) (by decide)) (by have k0 : (0 : Int32).toInt = 0 := (by decide); omega) hP hD hS (lv_sub hl [2, 3, 4, 1, 0] rfl)
      · skip
        exact W.iret (v := v) hx hb hr (fun t ht hW => ⟨⟨v, (), rfl, (gi_any v), w0_54, z15, by rw [ht]; exact hP, hD⟩, hS.F ht⟩) hS.2.2 dX12_backed_20
      · skip
        exact W.iret (v := v) hx hb hr (fun t ht hW => ⟨⟨v, (), rfl, (gi_any v), w0_54, z15, by rw [ht]; exact hP, hD⟩, hS.F ht⟩) hS.2.2 dX12_backed_104
    · have g_576 : gi r_572 0 0 := gi_eq c_573 (gi_c 0 0 (by decide))
      refine lv_bipush (v := (-2)) hx hb dX12_backed_18 (by decide) ?_
      exact W.iret (v := (-2)) hx hb hr (fun t ht hW => ⟨⟨(-2), (), rfl, (gi_any (-2)), (mi 54), fm_worth, by rw [ht]; exact hP, hD⟩, hS.F ht⟩) hS.2.2 dX12_backed_20
