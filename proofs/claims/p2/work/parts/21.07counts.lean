theorem dX12_counts_0 : decode cX12_counts 0 = .ok (.aload_n 0, 1) := by decide +kernel
theorem dX12_counts_1 : decode cX12_counts 1 = .ok (.getfield 117, 3) := by decide +kernel
theorem dX12_counts_4 : decode cX12_counts 4 = .ok (.istore_n 1, 1) := by decide +kernel
theorem dX12_counts_5 : decode cX12_counts 5 = .ok (.iload_n 1, 1) := by decide +kernel
theorem dX12_counts_6 : decode cX12_counts 6 = .ok (.ifCond .lt 120, 3) := by decide +kernel
theorem dX12_counts_9 : decode cX12_counts 9 = .ok (.iconst 0, 1) := by decide +kernel
theorem dX12_counts_10 : decode cX12_counts 10 = .ok (.istore_n 2, 1) := by decide +kernel
theorem dX12_counts_11 : decode cX12_counts 11 = .ok (.iload_n 2, 1) := by decide +kernel
theorem dX12_counts_12 : decode cX12_counts 12 = .ok (.iload_n 1, 1) := by decide +kernel
theorem dX12_counts_13 : decode cX12_counts 13 = .ok (.if_icmp .gt 107, 3) := by decide +kernel
theorem dX12_counts_16 : decode cX12_counts 16 = .ok (.aload_n 0, 1) := by decide +kernel
theorem dX12_counts_17 : decode cX12_counts 17 = .ok (.getfield 312, 3) := by decide +kernel
theorem dX12_counts_20 : decode cX12_counts 20 = .ok (.ifCond .ne 21, 3) := by decide +kernel
theorem dX12_counts_23 : decode cX12_counts 23 = .ok (.aload_n 0, 1) := by decide +kernel
theorem dX12_counts_24 : decode cX12_counts 24 = .ok (.iload_n 1, 1) := by decide +kernel
theorem dX12_counts_25 : decode cX12_counts 25 = .ok (.bipush 29, 2) := by decide +kernel
theorem dX12_counts_27 : decode cX12_counts 27 = .ok (.iload_n 1, 1) := by decide +kernel
theorem dX12_counts_28 : decode cX12_counts 28 = .ok (.imul, 1) := by decide +kernel
theorem dX12_counts_29 : decode cX12_counts 29 = .ok (.iload_n 2, 1) := by decide +kernel
theorem dX12_counts_30 : decode cX12_counts 30 = .ok (.iadd, 1) := by decide +kernel
theorem dX12_counts_31 : decode cX12_counts 31 = .ok (.invokevirtual 325, 3) := by decide +kernel
theorem dX12_counts_34 : decode cX12_counts 34 = .ok (.ifCond .eq 7, 3) := by decide +kernel
theorem dX12_counts_37 : decode cX12_counts 37 = .ok (.iconst 1, 1) := by decide +kernel
theorem dX12_counts_38 : decode cX12_counts 38 = .ok (.goto 4, 3) := by decide +kernel
theorem dX12_counts_41 : decode cX12_counts 41 = .ok (.iconst 0, 1) := by decide +kernel
theorem dX12_counts_42 : decode cX12_counts 42 = .ok (.istore_n 3, 1) := by decide +kernel
theorem dX12_counts_43 : decode cX12_counts 43 = .ok (.iconst 0, 1) := by decide +kernel
theorem dX12_counts_44 : decode cX12_counts 44 = .ok (.istore 4, 2) := by decide +kernel
theorem dX12_counts_46 : decode cX12_counts 46 = .ok (.iload 4, 2) := by decide +kernel
theorem dX12_counts_48 : decode cX12_counts 48 = .ok (.bipush 10, 2) := by decide +kernel
theorem dX12_counts_50 : decode cX12_counts 50 = .ok (.if_icmp .gt 64, 3) := by decide +kernel
theorem dX12_counts_53 : decode cX12_counts 53 = .ok (.iload_n 3, 1) := by decide +kernel
theorem dX12_counts_54 : decode cX12_counts 54 = .ok (.ifCond .ne 7, 3) := by decide +kernel
theorem dX12_counts_57 : decode cX12_counts 57 = .ok (.iconst 0, 1) := by decide +kernel
theorem dX12_counts_58 : decode cX12_counts 58 = .ok (.goto 34, 3) := by decide +kernel
theorem dX12_counts_61 : decode cX12_counts 61 = .ok (.iload_n 1, 1) := by decide +kernel
theorem dX12_counts_62 : decode cX12_counts 62 = .ok (.aload_n 0, 1) := by decide +kernel
theorem dX12_counts_63 : decode cX12_counts 63 = .ok (.getfield 117, 3) := by decide +kernel
theorem dX12_counts_66 : decode cX12_counts 66 = .ok (.if_icmp .ne 7, 3) := by decide +kernel
theorem dX12_counts_69 : decode cX12_counts 69 = .ok (.iconst 1, 1) := by decide +kernel
theorem dX12_counts_70 : decode cX12_counts 70 = .ok (.goto 22, 3) := by decide +kernel
theorem dX12_counts_73 : decode cX12_counts 73 = .ok (.aload_n 0, 1) := by decide +kernel
theorem dX12_counts_74 : decode cX12_counts 74 = .ok (.iload_n 1, 1) := by decide +kernel
theorem dX12_counts_75 : decode cX12_counts 75 = .ok (.iload_n 2, 1) := by decide +kernel
theorem dX12_counts_76 : decode cX12_counts 76 = .ok (.iload 4, 2) := by decide +kernel
theorem dX12_counts_78 : decode cX12_counts 78 = .ok (.iconst 0, 1) := by decide +kernel
theorem dX12_counts_79 : decode cX12_counts 79 = .ok (.invokevirtual 328, 3) := by decide +kernel
theorem dX12_counts_82 : decode cX12_counts 82 = .ok (.aload_n 0, 1) := by decide +kernel
theorem dX12_counts_83 : decode cX12_counts 83 = .ok (.iload_n 1, 1) := by decide +kernel
theorem dX12_counts_84 : decode cX12_counts 84 = .ok (.iload_n 2, 1) := by decide +kernel
theorem dX12_counts_85 : decode cX12_counts 85 = .ok (.iload 4, 2) := by decide +kernel
theorem dX12_counts_87 : decode cX12_counts 87 = .ok (.iconst 1, 1) := by decide +kernel
theorem dX12_counts_88 : decode cX12_counts 88 = .ok (.invokevirtual 328, 3) := by decide +kernel
theorem dX12_counts_91 : decode cX12_counts 91 = .ok (.iadd, 1) := by decide +kernel
theorem dX12_counts_92 : decode cX12_counts 92 = .ok (.istore 5, 2) := by decide +kernel
theorem dX12_counts_94 : decode cX12_counts 94 = .ok (.aload_n 0, 1) := by decide +kernel
theorem dX12_counts_95 : decode cX12_counts 95 = .ok (.getfield 66, 3) := by decide +kernel
theorem dX12_counts_98 : decode cX12_counts 98 = .ok (.iload_n 1, 1) := by decide +kernel
theorem dX12_counts_99 : decode cX12_counts 99 = .ok (.iload_n 2, 1) := by decide +kernel
theorem dX12_counts_100 : decode cX12_counts 100 = .ok (.iload 4, 2) := by decide +kernel
theorem dX12_counts_102 : decode cX12_counts 102 = .ok (.invokestatic 321, 3) := by decide +kernel
theorem dX12_counts_105 : decode cX12_counts 105 = .ok (.iload 5, 2) := by decide +kernel
theorem dX12_counts_107 : decode cX12_counts 107 = .ok (.iastore, 1) := by decide +kernel
theorem dX12_counts_108 : decode cX12_counts 108 = .ok (.iinc 4 1, 3) := by decide +kernel
theorem dX12_counts_111 : decode cX12_counts 111 = .ok (.goto (-65), 3) := by decide +kernel
theorem dX12_counts_114 : decode cX12_counts 114 = .ok (.iinc 2 1, 3) := by decide +kernel
theorem dX12_counts_117 : decode cX12_counts 117 = .ok (.goto (-106), 3) := by decide +kernel
theorem dX12_counts_120 : decode cX12_counts 120 = .ok (.iinc 1 (-1), 3) := by decide +kernel
theorem dX12_counts_123 : decode cX12_counts 123 = .ok (.goto (-118), 3) := by decide +kernel
theorem dX12_counts_126 : decode cX12_counts 126 = .ok (.aload_n 0, 1) := by decide +kernel
theorem dX12_counts_127 : decode cX12_counts 127 = .ok (.getfield 66, 3) := by decide +kernel
theorem dX12_counts_130 : decode cX12_counts 130 = .ok (.iconst 0, 1) := by decide +kernel
theorem dX12_counts_131 : decode cX12_counts 131 = .ok (.iaload, 1) := by decide +kernel
theorem dX12_counts_132 : decode cX12_counts 132 = .ok (.ireturn, 1) := by decide +kernel
set_option maxHeartbeats 4000000 in
set_option maxRecDepth 100000 in
theorem lp_sX12_counts {p : Program} {l : Launch} {e : Env} {R : Room} {s : State} {m : MethodId} {args : Array Value} {below : List Frame} {meth : Method} {c : Code} {Q : State → Prop} {A : Nat → Prop} {cells slots : Nat} {dC : Nat → ClassId} {dI : Nat → Nat → Nat} (h0 : Nat) (mi : Nat → Int32) (mr : Nat → Nat) (km_must : ClassId) (fm_must : Nat → Int32) (km_least : ClassId) (fm_least : Nat → Int32) (km_pin : ClassId) (fm_pin : Nat → Int32) (km_ways : ClassId) (fm_ways : Nat → Int32) (gmi_0 : gi (mi 0) 0 24) (gmi_1 : gi (mi 1) 0 5) (gmi_2 : gi (mi 2) 0 5) (gmi_4 : gi (mi 4) 0 1) (gmi_7 : gi (mi 7) 0 6) (gmi_10 : gi (mi 10) 0 24) (gmi_17 : gi (mi 17) 0 8) (gmi_23 : gi (mi 23) 0 300) (gmi_24 : gi (mi 24) 0 1) (gmi_26 : gi (mi 26) 0 1600) (gmi_29 : gi (mi 29) 0 1600) (gmi_30 : gi (mi 30) 0 1600) (gmi_33 : gi (mi 33) 0 1) (gmi_37 : gi (mi 37) 0 1) (gmi_41 : gi (mi 41) 0 24) (gmi_50 : gi (mi 50) 0 1) (gmi_51 : gi (mi 51) 0 1) (gmi_56 : gi (mi 56) 0 80) (hx : p.tables.exec = Jvm.exec) (hb : c.code = cX12_counts) (hml : c.maxLocals = 6) (hown : s.vm.findClass RX12 = some m.cls) (hts : ∀ w ∈ ((.code yX12_counts cX12_counts 6 (some .int) :: wsGB) : List Cond), w.before args s = true) (hK : va_K (dC, dI) vwCl [(km_must, .int), (km_least, .int), (km_pin, .int), (km_ways, .int)] s) (hA : ∀ q : Nat, s.heap.size ≤ q → A q) (hRf : 2 ≤ R.frames) (hRl : 48 ≤ R.locals) (hRc : cells ≤ R.cells) (hRs : slots ≤ R.slots) (kr132 : ∀ (v : Int32) (z4 : Nat → Int32) (H : Heap) (locs : List Loc) (ls : Array Slot), va_P (dC, dI) vwCl [(h0, .inr (12, fsMM mi mr)), ((mr 14), .inl (km_must, 25, .inl fm_must)), ((mr 15), .inl (km_least, 25, .inl fm_least)), ((mr 16), .inl (km_pin, 25, .inl fm_pin)), ((mr 17), .inl (km_ways, 6875, .inl z4))] H → va_D A [(h0, .inr (12, fsMM mi mr)), ((mr 14), .inl (km_must, 25, .inl fm_must)), ((mr 15), .inl (km_least, 25, .inl fm_least)), ((mr 16), .inl (km_pin, 25, .inl fm_pin)), ((mr 17), .inl (km_ways, 6875, .inl z4))] → va_S A s.heap H locs → lv_has ls 6 [] → W p l e R s m args below meth c H locs cells slots Q (F0 m 132 ls [.int v])) : ∀ z : Nat, (∀ (v1 : Int32) (z4 : Nat → Int32) (H : Heap) (locs : List Loc) (ls : Array Slot), gi v1 (-1) 24 → v1.toInt ≤ (mi 0).toInt → 759 + 758 * v1.toInt < (z : Int) → va_P (dC, dI) vwCl [(h0, .inr (12, fsMM mi mr)), ((mr 14), .inl (km_must, 25, .inl fm_must)), ((mr 15), .inl (km_least, 25, .inl fm_least)), ((mr 16), .inl (km_pin, 25, .inl fm_pin)), ((mr 17), .inl (km_ways, 6875, .inl z4))] H → va_D A [(h0, .inr (12, fsMM mi mr)), ((mr 14), .inl (km_must, 25, .inl fm_must)), ((mr 15), .inl (km_least, 25, .inl fm_least)), ((mr 16), .inl (km_pin, 25, .inl fm_pin)), ((mr 17), .inl (km_ways, 6875, .inl z4))] → va_S A s.heap H locs → lv_has ls 6 [(0, .ref h0), (1, .int v1)] → W p l e R s m args below meth c H locs cells slots Q (F0 m 5 ls [])) ∧ (∀ (v1 : Int32) (v2 : Int32) (z4 : Nat → Int32) (H : Heap) (locs : List Loc) (ls : Array Slot), gi v1 0 24 → gi v2 0 25 → v1.toInt ≤ (mi 0).toInt → 702 + 758 * v1.toInt + (-28) * v2.toInt < (z : Int) → va_P (dC, dI) vwCl [(h0, .inr (12, fsMM mi mr)), ((mr 14), .inl (km_must, 25, .inl fm_must)), ((mr 15), .inl (km_least, 25, .inl fm_least)), ((mr 16), .inl (km_pin, 25, .inl fm_pin)), ((mr 17), .inl (km_ways, 6875, .inl z4))] H → va_D A [(h0, .inr (12, fsMM mi mr)), ((mr 14), .inl (km_must, 25, .inl fm_must)), ((mr 15), .inl (km_least, 25, .inl fm_least)), ((mr 16), .inl (km_pin, 25, .inl fm_pin)), ((mr 17), .inl (km_ways, 6875, .inl z4))] → va_S A s.heap H locs → lv_has ls 6 [(0, .ref h0), (1, .int v1), (2, .int v2)] → W p l e R s m args below meth c H locs cells slots Q (F0 m 11 ls [])) ∧ (∀ (v1 : Int32) (v2 : Int32) (v3 : Int32) (v4 : Int32) (z4 : Nat → Int32) (H : Heap) (locs : List Loc) (ls : Array Slot), gi v1 0 24 → gi v2 0 24 → gi v3 0 1 → gi v4 0 11 → v1.toInt ≤ (mi 0).toInt → v2.toInt ≤ v1.toInt → 697 + 758 * v1.toInt + (-28) * v2.toInt + (-2) * v4.toInt < (z : Int) → va_P (dC, dI) vwCl [(h0, .inr (12, fsMM mi mr)), ((mr 14), .inl (km_must, 25, .inl fm_must)), ((mr 15), .inl (km_least, 25, .inl fm_least)), ((mr 16), .inl (km_pin, 25, .inl fm_pin)), ((mr 17), .inl (km_ways, 6875, .inl z4))] H → va_D A [(h0, .inr (12, fsMM mi mr)), ((mr 14), .inl (km_must, 25, .inl fm_must)), ((mr 15), .inl (km_least, 25, .inl fm_least)), ((mr 16), .inl (km_pin, 25, .inl fm_pin)), ((mr 17), .inl (km_ways, 6875, .inl z4))] → va_S A s.heap H locs → lv_has ls 6 [(0, .ref h0), (1, .int v1), (2, .int v2), (3, .int v3), (4, .int v4)] → W p l e R s m args below meth c H locs cells slots Q (F0 m 46 ls [])) := by
  intro z
  induction z with
  | zero =>
    refine ⟨?_, ?_, ?_⟩
    · intro v1 z4 H locs ls gv1 hle_gv1_gmi_0 hmu hP hD hS hl
      exact absurd hmu (by have hv11 := gv1.1; have hv12 := gv1.2; omega)
    · intro v1 v2 z4 H locs ls gv1 gv2 hle_gv1_gmi_0 hmu hP hD hS hl
      exact absurd hmu (by have hv11 := gv1.1; have hv12 := gv1.2; have hv21 := gv2.1; have hv22 := gv2.2; omega)
    · intro v1 v2 v3 v4 z4 H locs ls gv1 gv2 gv3 gv4 hle_gv1_gmi_0 hle_gv2_gv1 hmu hP hD hS hl
      exact absurd hmu (by have hv11 := gv1.1; have hv12 := gv1.2; have hv21 := gv2.1; have hv22 := gv2.2; have hv41 := gv4.1; have hv42 := gv4.2; omega)
  | succ z ih =>
    refine ⟨?_, ?_, ?_⟩
    · intro v1 z4 H locs ls gv1 hle_gv1_gmi_0 hmu hP hD hS hl
      refine lv_iload_n hx hb dX12_counts_5 rfl (lv_at hl 1 rfl) ?_
      refine lv_if_lt (tgt := 126) hx hb dX12_counts_6 (by decide) (fun c_892 => ?_) (fun c_892 => ?_)
      · have g_893 : gi v1 (-1) (-1) := gi_lt_l c_892 gv1 (gi_c 0 0 (by decide)) (by decide)
        refine lv_aload_n hx hb dX12_counts_126 rfl (lv_at hl 0 rfl) ?_
        refine va_get (D := (dC, dI)) (ci := 12) (v := .ref (mr 17)) (C := RX12) (T := TX12) (N := 57) hx hb hts (fun w h => List.mem_cons_of_mem _ (jnGB_X12 w h)) hown hK hP 0 rfl rfl 38 (by decide) (hts _ (List.mem_cons_of_mem _ mGB_29)) (fun _ h9 => h9) rfl dX12_counts_127 ?_
        refine lv_iconst (v := 0) hx hb dX12_counts_130 (by decide) ?_
        refine va_iald hx hb hK hP 4 3 rfl rfl (gi_in (gi_c 0 0 (by decide)) (by decide)) dX12_counts_131 ?_
        refine lv_topi (fun x_894 ex_894 => ?_)
        exact kr132 x_894 z4 _ _ _ hP hD hS (lv_sub hl [] rfl)
      · have g_895 : gi v1 0 24 := gi_le_r (Int32.not_lt.mp c_892) (gi_c 0 0 (by decide)) gv1
        refine lv_iconst (v := 0) hx hb dX12_counts_9 (by decide) ?_
        refine lv_istore_n (lv' := [(2, .int 0), (0, .ref h0), (1, .int v1)]) hx hb dX12_counts_10 rfl hl (by decide) rfl (fun ls hl => ?_)
        exact ih.2.1 v1 0 z4 _ _ _ g_895 (gi_w (gi_c 0 0 (by decide)) (by decide)) (by have qgmi_0 := gmi_0.1; have rgmi_0 := gmi_0.2; have qgv1 := g_895.1; have rgv1 := g_895.2; omega) (by have k0 : (0 : Int32).toInt = 0 := (by decide); have av1 := gv1.1; have bv1 := gv1.2; have qgv1 := g_895.1; have rgv1 := g_895.2; omega) hP hD hS (lv_sub hl [1, 2, 0] rfl)
    · intro v1 v2 z4 H locs ls gv1 gv2 hle_gv1_gmi_0 hmu hP hD hS hl
      refine lv_iload_n hx hb dX12_counts_11 rfl (lv_at hl 2 rfl) ?_
      refine lv_iload_n hx hb dX12_counts_12 rfl (lv_at hl 1 rfl) ?_
      refine lv_icmp_gt (tgt := 120) hx hb dX12_counts_13 (by decide) (fun c_896 => ?_) (fun c_896 => ?_)
      · have g_897 : gi v2 1 25 := gi_lt_r c_896 gv1 gv2 (by decide)
        obtain ⟨x_898, ex_898⟩ : ∃ y : Int32, y = v1 + (-1) := ⟨_, rfl⟩
        have gx_898 : gi x_898 (-1) 23 := gi_add ex_898 gv1 (gi_c (-1) (-1) (by decide)) (by decide)
        refine lv_iinc (v := x_898) (lv' := [(1, .int x_898), (0, .ref h0), (2, .int v2)]) hx hb dX12_counts_120 hl (k := 1) rfl (by rw [ex_898]; rfl) (by decide) rfl (fun ls hl => ?_)
        refine lv_goto (tgt := 5) hx hb dX12_counts_123 (by decide) ?_
        exact ih.1 x_898 z4 _ _ _ (gi_w gx_898 (by decide)) (by have qgmi_0 := gmi_0.1; have rgmi_0 := gmi_0.2; have qgx_898 := gx_898.1; have rgx_898 := gx_898.2; have igx_898 : x_898.toInt = v1.toInt + (-1) := (by have hcm1 : ((-1) : Int32).toInt = (-1) := (by decide); have h9 := gi_addI ex_898 (by have h1 := gv1.1; have h2 := (gi_c (-1) (-1) (by decide)).1; have h3 := gv1.2; have h4 := (gi_c (-1) (-1) (by decide)).2; omega) (by have h1 := gv1.1; have h2 := (gi_c (-1) (-1) (by decide)).1; have h3 := gv1.2; have h4 := (gi_c (-1) (-1) (by decide)).2; omega); rw [hcm1] at h9; exact h9); have qgv1 := gv1.1; have rgv1 := gv1.2; have y1 := (Int32.lt_iff_toInt_lt.mp c_896); omega) (by have av1 := gv1.1; have bv1 := gv1.2; have av2 := gv2.1; have bv2 := gv2.2; have qgx_898 := gx_898.1; have rgx_898 := gx_898.2; have igx_898 : x_898.toInt = v1.toInt + (-1) := (by have hcm1 : ((-1) : Int32).toInt = (-1) := (by decide); have h9 := gi_addI ex_898 (by have h1 := gv1.1; have h2 := (gi_c (-1) (-1) (by decide)).1; have h3 := gv1.2; have h4 := (gi_c (-1) (-1) (by decide)).2; omega) (by have h1 := gv1.1; have h2 := (gi_c (-1) (-1) (by decide)).1; have h3 := gv1.2; have h4 := (gi_c (-1) (-1) (by decide)).2; omega); rw [hcm1] at h9; exact h9); have qgv1 := gv1.1; have rgv1 := gv1.2; omega) hP hD hS (lv_sub hl [1, 0] rfl)
      · have g_899 : gi v2 0 24 := gi_le_l (Int32.not_lt.mp c_896) gv2 gv1
        refine lv_aload_n hx hb dX12_counts_16 rfl (lv_at hl 0 rfl) ?_
        refine va_get (D := (dC, dI)) (ci := 12) (v := .int (mi 37)) (C := RX12) (T := TX12) (N := 57) hx hb hts (fun w h => List.mem_cons_of_mem _ (jnGB_X12 w h)) hown hK hP 0 rfl rfl 37 (by decide) (hts _ (List.mem_cons_of_mem _ mGB_270)) (fun _ h9 => h9) rfl dX12_counts_17 ?_
        refine lv_if_ne (tgt := 41) hx hb dX12_counts_20 (by decide) (fun c_900 => ?_) (fun c_900 => ?_)
        · have g_901 : gi (mi 37) 1 1 := gi_ne_lo c_900 gmi_37 (gi_c 0 0 (by decide)) (by decide)
          refine lv_iconst (v := 0) hx hb dX12_counts_41 (by decide) ?_
          refine lv_istore_n (lv' := [(3, .int 0), (0, .ref h0), (1, .int v1), (2, .int v2)]) hx hb dX12_counts_42 rfl hl (by decide) rfl (fun ls hl => ?_)
          refine lv_iconst (v := 0) hx hb dX12_counts_43 (by decide) ?_
          refine lv_istore (lv' := [(4, .int 0), (3, .int 0), (0, .ref h0), (1, .int v1), (2, .int v2)]) hx hb dX12_counts_44 hl (by decide) rfl (fun ls hl => ?_)
          exact ih.2.2 v1 v2 0 0 z4 _ _ _ gv1 g_899 (gi_w (gi_c 0 0 (by decide)) (by decide)) (gi_w (gi_c 0 0 (by decide)) (by decide)) (by have qgmi_0 := gmi_0.1; have rgmi_0 := gmi_0.2; have qgv1 := gv1.1; have rgv1 := gv1.2; have y1 := (Int32.le_iff_toInt_le.mp (Int32.not_lt.mp c_896)); omega) (by have qgv1 := gv1.1; have rgv1 := gv1.2; have qgv2 := g_899.1; have rgv2 := g_899.2; have y1 := (Int32.le_iff_toInt_le.mp (Int32.not_lt.mp c_896)); omega) (by have k0 : (0 : Int32).toInt = 0 := (by decide); have av1 := gv1.1; have bv1 := gv1.2; have av2 := gv2.1; have bv2 := gv2.2; have qgv2 := g_899.1; have rgv2 := g_899.2; have qgv1 := gv1.1; have rgv1 := gv1.2; omega) hP hD hS (lv_sub hl [2, 3, 4, 1, 0] rfl)
        · have g_902 : gi (mi 37) 0 0 := gi_eq c_900 (gi_c 0 0 (by decide))
          refine lv_aload_n hx hb dX12_counts_23 rfl (lv_at hl 0 rfl) ?_
          refine lv_iload_n hx hb dX12_counts_24 rfl (lv_at hl 1 rfl) ?_
          refine lv_bipush (v := 29) hx hb dX12_counts_25 (by decide) ?_
          refine lv_iload_n hx hb dX12_counts_27 rfl (lv_at hl 1 rfl) ?_
          refine lv_imul hx hb dX12_counts_28 ?_
          refine lv_topi (fun x_903 ex_903 => ?_)
          have gx_903 : gi x_903 0 696 := gi_mul ex_903 (gi_c 29 29 (by decide)) gv1 (by decide)
          refine lv_iload_n hx hb dX12_counts_29 rfl (lv_at hl 2 rfl) ?_
          refine lv_iadd hx hb dX12_counts_30 ?_
          refine lv_topi (fun x_904 ex_904 => ?_)
          have gx_904 : gi x_904 0 720 := gi_add ex_904 gx_903 g_899 (by decide)
          have hPc := hP.sub (ws' := [(h0, .inr (12, fsMM mi mr)), ((mr 14), .inl (km_must, 25, .inl fm_must)), ((mr 15), .inl (km_least, 25, .inl fm_least)), ((mr 16), .inl (km_pin, 25, .inl fm_pin))]) [0, 1, 2, 3] rfl
          have hKc := hK.sub (tys' := [(km_must, .int), (km_least, .int), (km_pin, .int)]) [0, 1, 2] rfl
          refine va_calli (va_runV (As := [.int v1, .int x_904]) (rest := []) ⟨hx, hb, hml, hown, hts⟩ (sX12_isOpen l dC dI h0 mi mr km_must fm_must km_least fm_least km_pin fm_pin v1 x_904 gmi_0 gmi_1 gmi_2 gmi_4 gmi_7 gmi_10 gmi_17 gmi_23 gmi_24 gmi_26 gmi_29 gmi_30 gmi_33 (gi_w g_902 (by decide)) gmi_41 gmi_50 gmi_51 gmi_56 gv1) (cwV 2 hts (gz_gV mGB_303 mGB_304 mGB_305 mGB_1 mGB_306 goodGB) rfl rfl rfl (by decide +kernel) ⟨Nat.le_trans (Nat.le_of_ble_eq_true rfl) hRf, Nat.le_trans (Nat.le_of_ble_eq_true rfl) hRl⟩) ⟨fun a U g mk q => by obtain ⟨q0, qP, qK⟩ := q; exact ⟨q0, qP, va_K.moved (u := U) (U := U.calling g mk a) (Vm.Alike.refl U.vm) qK⟩, va_recv hKc hPc (ci := 12) (q0 := 0) rfl rfl, fun U hU hW => ⟨rfl, by rw [hU]; exact hPc, va_K.moved hW.alike hKc⟩⟩ rfl rfl hl.1 rfl (lv_room (Nat.le_of_ble_eq_true rfl)) dX12_counts_31 ⟨hRc, hRs⟩) hS (fun q _ h => h.elim) (fun q h => h.elim) (fun r_905 u t H1 locs ht hvm hw hB hz1 hk1 hS => ?_)
          have hP := gz_keep hP hk1
          generalize H1 = H at hP hS ⊢
          have gr_905 : gi r_905 0 1 := hw
          refine lv_if_eq (tgt := 41) hx hb dX12_counts_34 (by decide) (fun c_906 => ?_) (fun c_906 => ?_)
          · have g_907 : gi r_905 0 0 := gi_eq c_906 (gi_c 0 0 (by decide))
            refine lv_iconst (v := 0) hx hb dX12_counts_41 (by decide) ?_
            refine lv_istore_n (lv' := [(3, .int 0), (0, .ref h0), (1, .int v1), (2, .int v2)]) hx hb dX12_counts_42 rfl hl (by decide) rfl (fun ls hl => ?_)
            refine lv_iconst (v := 0) hx hb dX12_counts_43 (by decide) ?_
            refine lv_istore (lv' := [(4, .int 0), (3, .int 0), (0, .ref h0), (1, .int v1), (2, .int v2)]) hx hb dX12_counts_44 hl (by decide) rfl (fun ls hl => ?_)
            exact ih.2.2 v1 v2 0 0 z4 _ _ _ gv1 g_899 (gi_w (gi_c 0 0 (by decide)) (by decide)) (gi_w (gi_c 0 0 (by decide)) (by decide)) (by have qgmi_0 := gmi_0.1; have rgmi_0 := gmi_0.2; have qgv1 := gv1.1; have rgv1 := gv1.2; have y1 := (Int32.le_iff_toInt_le.mp (Int32.not_lt.mp c_896)); omega) (by have qgv1 := gv1.1; have rgv1 := gv1.2; have qgv2 := g_899.1; have rgv2 := g_899.2; have y1 := (Int32.le_iff_toInt_le.mp (Int32.not_lt.mp c_896)); omega) (by have k0 : (0 : Int32).toInt = 0 := (by decide); have av1 := gv1.1; have bv1 := gv1.2; have av2 := gv2.1; have bv2 := gv2.2; have qgv2 := g_899.1; have rgv2 := g_899.2; have qgv1 := gv1.1; have rgv1 := gv1.2; omega) hP hD hS (lv_sub hl [2, 3, 4, 1, 0] rfl)
          · have g_908 : gi r_905 1 1 := gi_ne_lo c_906 gr_905 (gi_c 0 0 (by decide)) (by decide)
            refine lv_iconst (v := 1) hx hb dX12_counts_37 (by decide) ?_
            refine lv_goto (tgt := 42) hx hb dX12_counts_38 (by decide) ?_
            refine lv_istore_n (lv' := [(3, .int 1), (0, .ref h0), (1, .int v1), (2, .int v2)]) hx hb dX12_counts_42 rfl hl (by decide) rfl (fun ls hl => ?_)
            refine lv_iconst (v := 0) hx hb dX12_counts_43 (by decide) ?_
            refine lv_istore (lv' := [(4, .int 0), (3, .int 1), (0, .ref h0), (1, .int v1), (2, .int v2)]) hx hb dX12_counts_44 hl (by decide) rfl (fun ls hl => ?_)
            exact ih.2.2 v1 v2 1 0 z4 _ _ _ gv1 g_899 (gi_w (gi_c 1 1 (by decide)) (by decide)) (gi_w (gi_c 0 0 (by decide)) (by decide)) (by have qgmi_0 := gmi_0.1; have rgmi_0 := gmi_0.2; have qgv1 := gv1.1; have rgv1 := gv1.2; have y1 := (Int32.le_iff_toInt_le.mp (Int32.not_lt.mp c_896)); omega) (by have qgv1 := gv1.1; have rgv1 := gv1.2; have qgv2 := g_899.1; have rgv2 := g_899.2; have y1 := (Int32.le_iff_toInt_le.mp (Int32.not_lt.mp c_896)); omega) (by have k0 : (0 : Int32).toInt = 0 := (by decide); have av1 := gv1.1; have bv1 := gv1.2; have av2 := gv2.1; have bv2 := gv2.2; have qgv2 := g_899.1; have rgv2 := g_899.2; have qgv1 := gv1.1; have rgv1 := gv1.2; omega) hP hD hS (lv_sub hl [2, 3, 4, 1, 0] rfl)
    · intro v1 v2 v3 v4 z4 H locs ls gv1 gv2 gv3 gv4 hle_gv1_gmi_0 hle_gv2_gv1 hmu hP hD hS hl
      refine lv_iload hx hb dX12_counts_46 (lv_at hl 4 rfl) ?_
      refine lv_bipush (v := 10) hx hb dX12_counts_48 (by decide) ?_
      refine lv_icmp_gt (tgt := 114) hx hb dX12_counts_50 (by decide) (fun c_909 => ?_) (fun c_909 => ?_)
      · have g_910 : gi v4 11 11 := gi_lt_r c_909 (gi_c 10 10 (by decide)) gv4 (by decide)
        obtain ⟨x_911, ex_911⟩ : ∃ y : Int32, y = v2 + 1 := ⟨_, rfl⟩
        have gx_911 : gi x_911 1 25 := gi_add ex_911 gv2 (gi_c 1 1 (by decide)) (by decide)
        refine lv_iinc (v := x_911) (lv' := [(2, .int x_911), (0, .ref h0), (1, .int v1), (3, .int v3), (4, .int v4)]) hx hb dX12_counts_114 hl (k := 2) rfl (by rw [ex_911]; rfl) (by decide) rfl (fun ls hl => ?_)
        refine lv_goto (tgt := 11) hx hb dX12_counts_117 (by decide) ?_
        exact ih.2.1 v1 x_911 z4 _ _ _ gv1 (gi_w gx_911 (by decide)) (by have qgmi_0 := gmi_0.1; have rgmi_0 := gmi_0.2; have qgv1 := gv1.1; have rgv1 := gv1.2; omega) (by have av1 := gv1.1; have bv1 := gv1.2; have av2 := gv2.1; have bv2 := gv2.2; have av4 := gv4.1; have bv4 := gv4.2; have qgx_911 := gx_911.1; have rgx_911 := gx_911.2; have igx_911 : x_911.toInt = v2.toInt + 1 := (by have hc1 : (1 : Int32).toInt = 1 := (by decide); have h9 := gi_addI ex_911 (by have h1 := gv2.1; have h2 := (gi_c 1 1 (by decide)).1; have h3 := gv2.2; have h4 := (gi_c 1 1 (by decide)).2; omega) (by have h1 := gv2.1; have h2 := (gi_c 1 1 (by decide)).1; have h3 := gv2.2; have h4 := (gi_c 1 1 (by decide)).2; omega); rw [hc1] at h9; exact h9); have qgv2 := gv2.1; have rgv2 := gv2.2; have qgv1 := gv1.1; have rgv1 := gv1.2; omega) hP hD hS (lv_sub hl [1, 2, 0] rfl)
      · have g_912 : gi v4 0 10 := gi_le_l (Int32.not_lt.mp c_909) gv4 (gi_c 10 10 (by decide))
        refine lv_iload_n hx hb dX12_counts_53 rfl (lv_at hl 3 rfl) ?_
        refine lv_if_ne (tgt := 61) hx hb dX12_counts_54 (by decide) (fun c_913 => ?_) (fun c_913 => ?_)
        · have g_914 : gi v3 1 1 := gi_ne_lo c_913 gv3 (gi_c 0 0 (by decide)) (by decide)
          refine lv_iload_n hx hb dX12_counts_61 rfl (lv_at hl 1 rfl) ?_
          refine lv_aload_n hx hb dX12_counts_62 rfl (lv_at hl 0 rfl) ?_
          refine va_get (D := (dC, dI)) (ci := 12) (v := .int (mi 0)) (C := RX12) (T := TX12) (N := 57) hx hb hts (fun w h => List.mem_cons_of_mem _ (jnGB_X12 w h)) hown hK hP 0 rfl rfl 0 (by decide) (hts _ (List.mem_cons_of_mem _ mGB_103)) (fun _ h9 => h9) rfl dX12_counts_63 ?_
          refine lv_icmp_ne (tgt := 73) hx hb dX12_counts_66 (by decide) (fun c_915 => ?_) (fun c_915 => ?_)
          · have g_916 : gi v1 0 23 := gi_nele hle_gv1_gmi_0 c_915 gv1 gmi_0 (by decide)
            have g_917 : gi v2 0 23 := gi_rel hle_gv2_gv1 gv2 g_916
            refine lv_aload_n hx hb dX12_counts_73 rfl (lv_at hl 0 rfl) ?_
            refine lv_iload_n hx hb dX12_counts_74 rfl (lv_at hl 1 rfl) ?_
            refine lv_iload_n hx hb dX12_counts_75 rfl (lv_at hl 2 rfl) ?_
            refine lv_iload hx hb dX12_counts_76 (lv_at hl 4 rfl) ?_
            refine lv_iconst (v := 0) hx hb dX12_counts_78 (by decide) ?_
            have hPc := hP.sub (ws' := [(h0, .inr (12, fsMM mi mr)), ((mr 17), .inl (km_ways, 6875, .inl z4))]) [0, 4] rfl
            have hKc := hK.sub (tys' := [(km_ways, .int)]) [3] rfl
            refine va_calli (va_runV (As := [.int v1, .int v2, .int v4, .int 0]) (rest := []) ⟨hx, hb, hml, hown, hts⟩ (sX12_waysBy l dC dI h0 mi mr km_ways z4 v1 v2 v4 0 gmi_0 gmi_1 gmi_2 gmi_4 gmi_7 gmi_10 gmi_17 gmi_23 gmi_24 gmi_26 gmi_29 gmi_30 gmi_33 gmi_37 gmi_41 gmi_50 gmi_51 gmi_56 g_916 g_917 (gi_w g_912 (by decide)) (gi_w (gi_c 0 0 (by decide)) (by decide))) (cwV 4 hts (gz_gV mGB_307 mGB_308 mGB_309 mGB_1 mGB_310 goodGB) rfl rfl rfl (by decide +kernel) ⟨Nat.le_trans (Nat.le_of_ble_eq_true rfl) hRf, Nat.le_trans (Nat.le_of_ble_eq_true rfl) hRl⟩) ⟨fun a U g mk q => by obtain ⟨q0, qP, qK⟩ := q; exact ⟨q0, qP, va_K.moved (u := U) (U := U.calling g mk a) (Vm.Alike.refl U.vm) qK⟩, va_recv hKc hPc (ci := 12) (q0 := 0) rfl rfl, fun U hU hW => ⟨rfl, by rw [hU]; exact hPc, va_K.moved hW.alike hKc⟩⟩ rfl rfl hl.1 rfl (lv_room (Nat.le_of_ble_eq_true rfl)) dX12_counts_79 ⟨hRc, hRs⟩) hS (fun q _ h => h.elim) (fun q h => h.elim) (fun r_918 u t H1 locs ht hvm hw hB hz1 hk1 hS => ?_)
            have hP := gz_keep hP hk1
            generalize H1 = H at hP hS ⊢
            refine lv_aload_n hx hb dX12_counts_82 rfl (lv_at hl 0 rfl) ?_
            refine lv_iload_n hx hb dX12_counts_83 rfl (lv_at hl 1 rfl) ?_
            refine lv_iload_n hx hb dX12_counts_84 rfl (lv_at hl 2 rfl) ?_
            refine lv_iload hx hb dX12_counts_85 (lv_at hl 4 rfl) ?_
            refine lv_iconst (v := 1) hx hb dX12_counts_87 (by decide) ?_
            have hPc := hP.sub (ws' := [(h0, .inr (12, fsMM mi mr)), ((mr 17), .inl (km_ways, 6875, .inl z4))]) [0, 4] rfl
            have hKc := hK.sub (tys' := [(km_ways, .int)]) [3] rfl
            refine va_calli (va_runV (As := [.int v1, .int v2, .int v4, .int 1]) (rest := [.int r_918]) ⟨hx, hb, hml, hown, hts⟩ (sX12_waysBy l dC dI h0 mi mr km_ways z4 v1 v2 v4 1 gmi_0 gmi_1 gmi_2 gmi_4 gmi_7 gmi_10 gmi_17 gmi_23 gmi_24 gmi_26 gmi_29 gmi_30 gmi_33 gmi_37 gmi_41 gmi_50 gmi_51 gmi_56 g_916 g_917 (gi_w g_912 (by decide)) (gi_w (gi_c 1 1 (by decide)) (by decide))) (cwV 4 hts (gz_gV mGB_307 mGB_308 mGB_309 mGB_1 mGB_310 goodGB) rfl rfl rfl (by decide +kernel) ⟨Nat.le_trans (Nat.le_of_ble_eq_true rfl) hRf, Nat.le_trans (Nat.le_of_ble_eq_true rfl) hRl⟩) ⟨fun a U g mk q => by obtain ⟨q0, qP, qK⟩ := q; exact ⟨q0, qP, va_K.moved (u := U) (U := U.calling g mk a) (Vm.Alike.refl U.vm) qK⟩, va_recv hKc hPc (ci := 12) (q0 := 0) rfl rfl, fun U hU hW => ⟨rfl, by rw [hU]; exact hPc, va_K.moved hW.alike hKc⟩⟩ rfl rfl hl.1 rfl (lv_room (Nat.le_of_ble_eq_true rfl)) dX12_counts_88 ⟨hRc, hRs⟩) hS (fun q _ h => h.elim) (fun q h => h.elim) (fun r_919 u t H1 locs ht hvm hw hB hz1 hk1 hS => ?_)
            have hP := gz_keep hP hk1
            generalize H1 = H at hP hS ⊢
            refine lv_iadd hx hb dX12_counts_91 ?_
            refine lv_topi (fun x_920 ex_920 => ?_)
            refine lv_istore (lv' := [(5, .int x_920), (0, .ref h0), (1, .int v1), (2, .int v2), (3, .int v3), (4, .int v4)]) hx hb dX12_counts_92 hl (by decide) rfl (fun ls hl => ?_)
            refine lv_aload_n hx hb dX12_counts_94 rfl (lv_at hl 1 rfl) ?_
            refine va_get (D := (dC, dI)) (ci := 12) (v := .ref (mr 17)) (C := RX12) (T := TX12) (N := 57) hx hb hts (fun w h => List.mem_cons_of_mem _ (jnGB_X12 w h)) hown hK hP 0 rfl rfl 38 (by decide) (hts _ (List.mem_cons_of_mem _ mGB_29)) (fun _ h9 => h9) rfl dX12_counts_95 ?_
            refine lv_iload_n hx hb dX12_counts_98 rfl (lv_at hl 2 rfl) ?_
            refine lv_iload_n hx hb dX12_counts_99 rfl (lv_at hl 3 rfl) ?_
            refine lv_iload hx hb dX12_counts_100 (lv_at hl 5 rfl) ?_
            have hPc := hP.sub (ws' := []) [] rfl
            have hKc := hK.sub (tys' := []) [] rfl
            refine va_calli (va_runS (As := [.int v1, .int v2, .int v4]) (rest := [.ref (mr 17)]) ⟨hx, hb, hml, hown, hts⟩ (sX12_placeOf l dC dI v1 v2 v4 (gi_w g_916 (by decide)) (gi_w g_917 (by decide)) g_912) (cwS 3 hts (gz_gS mGB_315 mGB_316 mGB_1 mGB_317 goodGB) rfl rfl rfl (by decide +kernel) ⟨Nat.le_trans (Nat.le_of_ble_eq_true rfl) hRf, Nat.le_trans (Nat.le_of_ble_eq_true rfl) hRl⟩) ⟨fun a U g mk q => by obtain ⟨q0, qP, qK⟩ := q; exact ⟨q0, qP, va_K.moved (u := U) (U := U.calling g mk a) (Vm.Alike.refl U.vm) qK⟩, fun U hU hW => ⟨rfl, by rw [hU]; exact hPc, va_K.moved hW.alike hKc⟩⟩ rfl rfl hl.1 rfl (lv_room (Nat.le_of_ble_eq_true rfl)) dX12_counts_102 ⟨hRc, hRs⟩) hS (fun q _ h => h.elim) (fun q h => h.elim) (fun r_921 u t H1 locs ht hvm hw hB hz1 hk1 hS => ?_)
            have hP := gz_keep hP hk1
            generalize H1 = H at hP hS ⊢
            have gr_921 : gi r_921 0 6874 := hw
            refine lv_iload hx hb dX12_counts_105 (lv_at hl 0 rfl) ?_
            refine va_iast hx hb hK hP hD hS 4 3 rfl rfl (gi_in gr_921 (by decide)) dX12_counts_107 (fun H locs hP hD hS => ?_)
            have hP : va_P (dC, dI) vwCl [(h0, .inr (12, fsMM mi mr)), ((mr 14), .inl (km_must, 25, .inl fm_must)), ((mr 15), .inl (km_least, 25, .inl fm_least)), ((mr 16), .inl (km_pin, 25, .inl fm_pin)), ((mr 17), .inl (km_ways, 6875, .inl (upd z4 (r_921 : Int32).toNatClampNeg x_920)))] H := hP
            have hD : va_D A [(h0, .inr (12, fsMM mi mr)), ((mr 14), .inl (km_must, 25, .inl fm_must)), ((mr 15), .inl (km_least, 25, .inl fm_least)), ((mr 16), .inl (km_pin, 25, .inl fm_pin)), ((mr 17), .inl (km_ways, 6875, .inl (upd z4 (r_921 : Int32).toNatClampNeg x_920)))] := hD
            generalize upd z4 (r_921 : Int32).toNatClampNeg x_920 = f_922 at hP hD
            obtain ⟨x_923, ex_923⟩ : ∃ y : Int32, y = v4 + 1 := ⟨_, rfl⟩
            have gx_923 : gi x_923 1 11 := gi_add ex_923 g_912 (gi_c 1 1 (by decide)) (by decide)
            refine lv_iinc (v := x_923) (lv' := [(4, .int x_923), (5, .int x_920), (0, .ref h0), (1, .int v1), (2, .int v2), (3, .int v3)]) hx hb dX12_counts_108 hl (k := 5) rfl (by rw [ex_923]; rfl) (by decide) rfl (fun ls hl => ?_)
            refine lv_goto (tgt := 46) hx hb dX12_counts_111 (by decide) ?_
            exact ih.2.2 v1 v2 v3 x_923 f_922 _ _ _ (gi_w g_916 (by decide)) (gi_w g_917 (by decide)) (gi_w g_914 (by decide)) (gi_w gx_923 (by decide)) (by have qgmi_0 := gmi_0.1; have rgmi_0 := gmi_0.2; have qgv1 := g_916.1; have rgv1 := g_916.2; omega) (by have qgv1 := g_916.1; have rgv1 := g_916.2; have qgv2 := g_917.1; have rgv2 := g_917.2; omega) (by have av1 := gv1.1; have bv1 := gv1.2; have av2 := gv2.1; have bv2 := gv2.2; have av4 := gv4.1; have bv4 := gv4.2; have qgx_923 := gx_923.1; have rgx_923 := gx_923.2; have igx_923 : x_923.toInt = v4.toInt + 1 := (by have hc1 : (1 : Int32).toInt = 1 := (by decide); have h9 := gi_addI ex_923 (by have h1 := g_912.1; have h2 := (gi_c 1 1 (by decide)).1; have h3 := g_912.2; have h4 := (gi_c 1 1 (by decide)).2; omega) (by have h1 := g_912.1; have h2 := (gi_c 1 1 (by decide)).1; have h3 := g_912.2; have h4 := (gi_c 1 1 (by decide)).2; omega); rw [hc1] at h9; exact h9); have qgv4 := g_912.1; have rgv4 := g_912.2; have qgv2 := g_917.1; have rgv2 := g_917.2; have qgv1 := g_916.1; have rgv1 := g_916.2; omega) hP hD hS (lv_sub hl [2, 3, 4, 5, 0] rfl)
          · refine lv_iconst (v := 1) hx hb dX12_counts_69 (by decide) ?_
            refine lv_goto (tgt := 92) hx hb dX12_counts_70 (by decide) ?_
            refine lv_istore (lv' := [(5, .int 1), (0, .ref h0), (1, .int v1), (2, .int v2), (3, .int v3), (4, .int v4)]) hx hb dX12_counts_92 hl (by decide) rfl (fun ls hl => ?_)
            refine lv_aload_n hx hb dX12_counts_94 rfl (lv_at hl 1 rfl) ?_
            refine va_get (D := (dC, dI)) (ci := 12) (v := .ref (mr 17)) (C := RX12) (T := TX12) (N := 57) hx hb hts (fun w h => List.mem_cons_of_mem _ (jnGB_X12 w h)) hown hK hP 0 rfl rfl 38 (by decide) (hts _ (List.mem_cons_of_mem _ mGB_29)) (fun _ h9 => h9) rfl dX12_counts_95 ?_
            refine lv_iload_n hx hb dX12_counts_98 rfl (lv_at hl 2 rfl) ?_
            refine lv_iload_n hx hb dX12_counts_99 rfl (lv_at hl 3 rfl) ?_
            refine lv_iload hx hb dX12_counts_100 (lv_at hl 5 rfl) ?_
            have hPc := hP.sub (ws' := []) [] rfl
            have hKc := hK.sub (tys' := []) [] rfl
            refine va_calli (va_runS (As := [.int v1, .int v2, .int v4]) (rest := [.ref (mr 17)]) ⟨hx, hb, hml, hown, hts⟩ (sX12_placeOf l dC dI v1 v2 v4 gv1 gv2 g_912) (cwS 3 hts (gz_gS mGB_315 mGB_316 mGB_1 mGB_317 goodGB) rfl rfl rfl (by decide +kernel) ⟨Nat.le_trans (Nat.le_of_ble_eq_true rfl) hRf, Nat.le_trans (Nat.le_of_ble_eq_true rfl) hRl⟩) ⟨fun a U g mk q => by obtain ⟨q0, qP, qK⟩ := q; exact ⟨q0, qP, va_K.moved (u := U) (U := U.calling g mk a) (Vm.Alike.refl U.vm) qK⟩, fun U hU hW => ⟨rfl, by rw [hU]; exact hPc, va_K.moved hW.alike hKc⟩⟩ rfl rfl hl.1 rfl (lv_room (Nat.le_of_ble_eq_true rfl)) dX12_counts_102 ⟨hRc, hRs⟩) hS (fun q _ h => h.elim) (fun q h => h.elim) (fun r_924 u t H1 locs ht hvm hw hB hz1 hk1 hS => ?_)
            have hP := gz_keep hP hk1
            generalize H1 = H at hP hS ⊢
            have gr_924 : gi r_924 0 6874 := hw
            refine lv_iload hx hb dX12_counts_105 (lv_at hl 0 rfl) ?_
            refine va_iast hx hb hK hP hD hS 4 3 rfl rfl (gi_in gr_924 (by decide)) dX12_counts_107 (fun H locs hP hD hS => ?_)
            have hP : va_P (dC, dI) vwCl [(h0, .inr (12, fsMM mi mr)), ((mr 14), .inl (km_must, 25, .inl fm_must)), ((mr 15), .inl (km_least, 25, .inl fm_least)), ((mr 16), .inl (km_pin, 25, .inl fm_pin)), ((mr 17), .inl (km_ways, 6875, .inl (upd z4 (r_924 : Int32).toNatClampNeg 1)))] H := hP
            have hD : va_D A [(h0, .inr (12, fsMM mi mr)), ((mr 14), .inl (km_must, 25, .inl fm_must)), ((mr 15), .inl (km_least, 25, .inl fm_least)), ((mr 16), .inl (km_pin, 25, .inl fm_pin)), ((mr 17), .inl (km_ways, 6875, .inl (upd z4 (r_924 : Int32).toNatClampNeg 1)))] := hD
            generalize upd z4 (r_924 : Int32).toNatClampNeg 1 = f_925 at hP hD
            obtain ⟨x_926, ex_926⟩ : ∃ y : Int32, y = v4 + 1 := ⟨_, rfl⟩
            have gx_926 : gi x_926 1 11 := gi_add ex_926 g_912 (gi_c 1 1 (by decide)) (by decide)
            refine lv_iinc (v := x_926) (lv' := [(4, .int x_926), (5, .int 1), (0, .ref h0), (1, .int v1), (2, .int v2), (3, .int v3)]) hx hb dX12_counts_108 hl (k := 5) rfl (by rw [ex_926]; rfl) (by decide) rfl (fun ls hl => ?_)
            refine lv_goto (tgt := 46) hx hb dX12_counts_111 (by decide) ?_
            exact ih.2.2 v1 v2 v3 x_926 f_925 _ _ _ gv1 gv2 (gi_w g_914 (by decide)) (gi_w gx_926 (by decide)) (by have qgmi_0 := gmi_0.1; have rgmi_0 := gmi_0.2; have qgv1 := gv1.1; have rgv1 := gv1.2; omega) (by have qgv1 := gv1.1; have rgv1 := gv1.2; have qgv2 := gv2.1; have rgv2 := gv2.2; omega) (by have av1 := gv1.1; have bv1 := gv1.2; have av2 := gv2.1; have bv2 := gv2.2; have av4 := gv4.1; have bv4 := gv4.2; have qgx_926 := gx_926.1; have rgx_926 := gx_926.2; have igx_926 : x_926.toInt = v4.toInt + 1 := (by have hc1 : (1 : Int32).toInt = 1 := (by decide); have h9 := gi_addI ex_926 (by have h1 := g_912.1; have h2 := (gi_c 1 1 (by decide)).1; have h3 := g_912.2; have h4 := (gi_c 1 1 (by decide)).2; omega) (by have h1 := g_912.1; have h2 := (gi_c 1 1 (by decide)).1; have h3 := g_912.2; have h4 := (gi_c 1 1 (by decide)).2; omega); rw [hc1] at h9; exact h9); have qgv4 := g_912.1; have rgv4 := g_912.2; have qgv2 := gv2.1; have rgv2 := gv2.2; have qgv1 := gv1.1; have rgv1 := gv1.2; omega) hP hD hS (lv_sub hl [2, 3, 4, 5, 0] rfl)
        · have g_927 : gi v3 0 0 := gi_eq c_913 (gi_c 0 0 (by decide))
          refine lv_iconst (v := 0) hx hb dX12_counts_57 (by decide) ?_
          refine lv_goto (tgt := 92) hx hb dX12_counts_58 (by decide) ?_
          refine lv_istore (lv' := [(5, .int 0), (0, .ref h0), (1, .int v1), (2, .int v2), (3, .int v3), (4, .int v4)]) hx hb dX12_counts_92 hl (by decide) rfl (fun ls hl => ?_)
          refine lv_aload_n hx hb dX12_counts_94 rfl (lv_at hl 1 rfl) ?_
          refine va_get (D := (dC, dI)) (ci := 12) (v := .ref (mr 17)) (C := RX12) (T := TX12) (N := 57) hx hb hts (fun w h => List.mem_cons_of_mem _ (jnGB_X12 w h)) hown hK hP 0 rfl rfl 38 (by decide) (hts _ (List.mem_cons_of_mem _ mGB_29)) (fun _ h9 => h9) rfl dX12_counts_95 ?_
          refine lv_iload_n hx hb dX12_counts_98 rfl (lv_at hl 2 rfl) ?_
          refine lv_iload_n hx hb dX12_counts_99 rfl (lv_at hl 3 rfl) ?_
          refine lv_iload hx hb dX12_counts_100 (lv_at hl 5 rfl) ?_
          have hPc := hP.sub (ws' := []) [] rfl
          have hKc := hK.sub (tys' := []) [] rfl
          refine va_calli (va_runS (As := [.int v1, .int v2, .int v4]) (rest := [.ref (mr 17)]) ⟨hx, hb, hml, hown, hts⟩ (sX12_placeOf l dC dI v1 v2 v4 gv1 gv2 g_912) (cwS 3 hts (gz_gS mGB_315 mGB_316 mGB_1 mGB_317 goodGB) rfl rfl rfl (by decide +kernel) ⟨Nat.le_trans (Nat.le_of_ble_eq_true rfl) hRf, Nat.le_trans (Nat.le_of_ble_eq_true rfl) hRl⟩) ⟨fun a U g mk q => by obtain ⟨q0, qP, qK⟩ := q; exact ⟨q0, qP, va_K.moved (u := U) (U := U.calling g mk a) (Vm.Alike.refl U.vm) qK⟩, fun U hU hW => ⟨rfl, by rw [hU]; exact hPc, va_K.moved hW.alike hKc⟩⟩ rfl rfl hl.1 rfl (lv_room (Nat.le_of_ble_eq_true rfl)) dX12_counts_102 ⟨hRc, hRs⟩) hS (fun q _ h => h.elim) (fun q h => h.elim) (fun r_928 u t H1 locs ht hvm hw hB hz1 hk1 hS => ?_)
          have hP := gz_keep hP hk1
          generalize H1 = H at hP hS ⊢
          have gr_928 : gi r_928 0 6874 := hw
          refine lv_iload hx hb dX12_counts_105 (lv_at hl 0 rfl) ?_
          refine va_iast hx hb hK hP hD hS 4 3 rfl rfl (gi_in gr_928 (by decide)) dX12_counts_107 (fun H locs hP hD hS => ?_)
          have hP : va_P (dC, dI) vwCl [(h0, .inr (12, fsMM mi mr)), ((mr 14), .inl (km_must, 25, .inl fm_must)), ((mr 15), .inl (km_least, 25, .inl fm_least)), ((mr 16), .inl (km_pin, 25, .inl fm_pin)), ((mr 17), .inl (km_ways, 6875, .inl (upd z4 (r_928 : Int32).toNatClampNeg 0)))] H := hP
          have hD : va_D A [(h0, .inr (12, fsMM mi mr)), ((mr 14), .inl (km_must, 25, .inl fm_must)), ((mr 15), .inl (km_least, 25, .inl fm_least)), ((mr 16), .inl (km_pin, 25, .inl fm_pin)), ((mr 17), .inl (km_ways, 6875, .inl (upd z4 (r_928 : Int32).toNatClampNeg 0)))] := hD
          generalize upd z4 (r_928 : Int32).toNatClampNeg 0 = f_929 at hP hD
          obtain ⟨x_930, ex_930⟩ : ∃ y : Int32, y = v4 + 1 := ⟨_, rfl⟩
          have gx_930 : gi x_930 1 11 := gi_add ex_930 g_912 (gi_c 1 1 (by decide)) (by decide)
          refine lv_iinc (v := x_930) (lv' := [(4, .int x_930), (5, .int 0), (0, .ref h0), (1, .int v1), (2, .int v2), (3, .int v3)]) hx hb dX12_counts_108 hl (k := 5) rfl (by rw [ex_930]; rfl) (by decide) rfl (fun ls hl => ?_)
          refine lv_goto (tgt := 46) hx hb dX12_counts_111 (by decide) ?_
          exact ih.2.2 v1 v2 v3 x_930 f_929 _ _ _ gv1 gv2 (gi_w g_927 (by decide)) (gi_w gx_930 (by decide)) (by have qgmi_0 := gmi_0.1; have rgmi_0 := gmi_0.2; have qgv1 := gv1.1; have rgv1 := gv1.2; omega) (by have qgv1 := gv1.1; have rgv1 := gv1.2; have qgv2 := gv2.1; have rgv2 := gv2.2; omega) (by have av1 := gv1.1; have bv1 := gv1.2; have av2 := gv2.1; have bv2 := gv2.2; have av4 := gv4.1; have bv4 := gv4.2; have qgx_930 := gx_930.1; have rgx_930 := gx_930.2; have igx_930 : x_930.toInt = v4.toInt + 1 := (by have hc1 : (1 : Int32).toInt = 1 := (by decide); have h9 := gi_addI ex_930 (by have h1 := g_912.1; have h2 := (gi_c 1 1 (by decide)).1; have h3 := g_912.2; have h4 := (gi_c 1 1 (by decide)).2; omega) (by have h1 := g_912.1; have h2 := (gi_c 1 1 (by decide)).1; have h3 := g_912.2; have h4 := (gi_c 1 1 (by decide)).2; omega); rw [hc1] at h9; exact h9); have qgv4 := g_912.1; have rgv4 := g_912.2; have qgv2 := gv2.1; have rgv2 := gv2.2; have qgv1 := gv1.1; have rgv1 := gv1.2; omega) hP hD hS (lv_sub hl [2, 3, 4, 5, 0] rfl)
set_option maxHeartbeats 4000000 in
set_option maxRecDepth 100000 in
theorem sX12_counts (l : Launch) (dC : Nat → ClassId) (dI : Nat → Nat → Nat) (sz : Nat) (h0 : Nat) (mi : Nat → Int32) (mr : Nat → Nat) (km_must : ClassId) (fm_must : Nat → Int32) (km_least : ClassId) (fm_least : Nat → Int32) (km_pin : ClassId) (fm_pin : Nat → Int32) (km_ways : ClassId) (fm_ways : Nat → Int32) (gmi_0 : gi (mi 0) 0 24) (gmi_1 : gi (mi 1) 0 5) (gmi_2 : gi (mi 2) 0 5) (gmi_4 : gi (mi 4) 0 1) (gmi_7 : gi (mi 7) 0 6) (gmi_10 : gi (mi 10) 0 24) (gmi_17 : gi (mi 17) 0 8) (gmi_23 : gi (mi 23) 0 300) (gmi_24 : gi (mi 24) 0 1) (gmi_26 : gi (mi 26) 0 1600) (gmi_29 : gi (mi 29) 0 1600) (gmi_30 : gi (mi 30) 0 1600) (gmi_33 : gi (mi 33) 0 1) (gmi_37 : gi (mi 37) 0 1) (gmi_41 : gi (mi 41) 0 24) (gmi_50 : gi (mi 50) 0 1) (gmi_51 : gi (mi 51) 0 1) (gmi_56 : gi (mi 56) 0 80) : Met l yX12_counts (.code yX12_counts cX12_counts 6 (some .int) :: wsGB) ({ frames := 2, cells := 0, slots := 0, locals := 48 }) (va_Pc [.ref h0] (fun U => U.heap.size = sz ∧ va_P (dC, dI) vwCl [(h0, .inr (12, fsMM mi mr)), ((mr 14), .inl (km_must, 25, .inl fm_must)), ((mr 15), .inl (km_least, 25, .inl fm_least)), ((mr 16), .inl (km_pin, 25, .inl fm_pin)), ((mr 17), .inl (km_ways, 6875, .inl fm_ways))] U.heap ∧ va_K (dC, dI) vwCl [(km_must, .int), (km_least, .int), (km_pin, .int), (km_ways, .int)] U ∧ va_D (fun _ => True) [(h0, .inr (12, fsMM mi mr)), ((mr 14), .inl (km_must, 25, .inl fm_must)), ((mr 15), .inl (km_least, 25, .inl fm_least)), ((mr 16), .inl (km_pin, 25, .inl fm_pin)), ((mr 17), .inl (km_ways, 6875, .inl fm_ways))])) (va_Qi (fun (r : Int32) (u : Unit) => gi r (-2147483648) 2147483647) (fun _ t => ∃ (z4 : Nat → Int32), va_P (dC, dI) vwCl [(h0, .inr (12, fsMM mi mr)), ((mr 14), .inl (km_must, 25, .inl fm_must)), ((mr 15), .inl (km_least, 25, .inl fm_least)), ((mr 16), .inl (km_pin, 25, .inl fm_pin)), ((mr 17), .inl (km_ways, 6875, .inl z4))] t.heap ∧ va_D (va_A [(h0, .inr (12, fsMM mi mr)), ((mr 14), .inl (km_must, 25, .inl fm_must)), ((mr 15), .inl (km_least, 25, .inl fm_least)), ((mr 16), .inl (km_pin, 25, .inl fm_pin)), ((mr 17), .inl (km_ways, 6875, .inl fm_ways))] sz) [(h0, .inr (12, fsMM mi mr)), ((mr 14), .inl (km_must, 25, .inl fm_must)), ((mr 15), .inl (km_least, 25, .inl fm_least)), ((mr 16), .inl (km_pin, 25, .inl fm_pin)), ((mr 17), .inl (km_ways, 6875, .inl z4))]) (va_A [(h0, .inr (12, fsMM mi mr)), ((mr 14), .inl (km_must, 25, .inl fm_must)), ((mr 15), .inl (km_least, 25, .inl fm_least)), ((mr 16), .inl (km_pin, 25, .inl fm_pin)), ((mr 17), .inl (km_ways, 6875, .inl fm_ways))] sz)) 0 0 (va_A [(h0, .inr (12, fsMM mi mr)), ((mr 14), .inl (km_must, 25, .inl fm_must)), ((mr 15), .inl (km_least, 25, .inl fm_least)), ((mr 16), .inl (km_pin, 25, .inl fm_pin)), ((mr 17), .inl (km_ways, 6875, .inl fm_ways))] sz) := by
  refine Met.ofW (cc := cX12_counts) (maxL := 6) (ret := (some .int)) (by decide) rfl ?_
  intro p e s m args below meth c s₁ B hml hv
  obtain ⟨rfl, hsz, hP, hK, hD0⟩ := hv
  have hx := B.exec
  have hb := B.bytes
  have hr := B.returns
  have hts := atoms_spec (ws := (.code yX12_counts cX12_counts 6 (some .int) :: wsGB)) B.pre
  have hown : s.vm.findClass RX12 = some m.cls := findClass_of_methodNamed B.named
  have hlocks := B.notSynchronized
  subst hsz
  have hD := hD0.self (sz := s.heap.size)
  generalize hAe : va_A [(h0, .inr (12, fsMM mi mr)), ((mr 14), .inl (km_must, 25, .inl fm_must)), ((mr 15), .inl (km_least, 25, .inl fm_least)), ((mr 16), .inl (km_pin, 25, .inl fm_pin)), ((mr 17), .inl (km_ways, 6875, .inl fm_ways))] s.heap.size = A at hD ⊢
  have hA : ∀ q : Nat, s.heap.size ≤ q → A q := fun q h => by rw [← hAe]; exact Or.inr h
  have hS : va_S A s.heap s.heap [] := va_S.rf
  have hl := lv_entry ([.ref h0]) (n := 6) (Nat.le_of_ble_eq_true rfl)
  rw [lg_entry_eq]
  generalize (lg_sl ([.ref h0]) ++ List.replicate (6 - (lg_sl ([.ref h0])).length) Slot.unset).toArray = ls at hl ⊢
  have hl : lv_has ls 6 [(0, .ref h0)] := hl
  refine lv_aload_n hx hb dX12_counts_0 rfl (lv_at hl 0 rfl) ?_
  refine va_get (D := (dC, dI)) (ci := 12) (v := .int (mi 0)) (C := RX12) (T := TX12) (N := 57) hx hb hts (fun w h => List.mem_cons_of_mem _ (jnGB_X12 w h)) hown hK hP 0 rfl rfl 0 (by decide) (hts _ (List.mem_cons_of_mem _ mGB_103)) (fun _ h9 => h9) rfl dX12_counts_1 ?_
  refine lv_istore_n (lv' := [(1, .int (mi 0)), (0, .ref h0)]) hx hb dX12_counts_4 rfl hl (by decide) rfl (fun ls hl => ?_)
  refine (lp_sX12_counts h0 mi mr km_must fm_must km_least fm_least km_pin fm_pin km_ways fm_ways gmi_0 gmi_1 gmi_2 gmi_4 gmi_7 gmi_10 gmi_17 gmi_23 gmi_24 gmi_26 gmi_29 gmi_30 gmi_33 gmi_37 gmi_41 gmi_50 gmi_51 gmi_56 hx hb hml hown hts hK hA (Nat.le_of_ble_eq_true rfl) (Nat.le_of_ble_eq_true rfl) (Nat.zero_le _) (Nat.zero_le _) (fun v z4 H locs ls hP hD hS hl => ?_) 20476).1 (mi 0) fm_ways _ _ _ (gi_w gmi_0 (by decide)) (by have qgmi_0 := gmi_0.1; have rgmi_0 := gmi_0.2; omega) (by have qgmi_0 := gmi_0.1; have rgmi_0 := gmi_0.2; omega) hP hD hS (lv_sub hl [1, 0] rfl)
  · skip
    exact W.iret (v := v) hx hb hr (fun t ht hW => ⟨⟨v, (), rfl, (gi_any v), z4, by rw [ht]; exact hP, hD⟩, hS.F ht⟩) hS.2.2 dX12_counts_132
