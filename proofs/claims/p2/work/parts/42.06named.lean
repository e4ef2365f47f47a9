theorem dX12_named_0 : decode cX12_named 0 = .ok (.iconst 0, 1) := by decide +kernel
theorem dX12_named_1 : decode cX12_named 1 = .ok (.istore_n 1, 1) := by decide +kernel
theorem dX12_named_2 : decode cX12_named 2 = .ok (.iload_n 1, 1) := by decide +kernel
theorem dX12_named_3 : decode cX12_named 3 = .ok (.aload_n 0, 1) := by decide +kernel
theorem dX12_named_4 : decode cX12_named 4 = .ok (.getfield 138, 3) := by decide +kernel
theorem dX12_named_7 : decode cX12_named 7 = .ok (.if_icmp .ge 101, 3) := by decide +kernel
theorem dX12_named_10 : decode cX12_named 10 = .ok (.aload_n 0, 1) := by decide +kernel
theorem dX12_named_11 : decode cX12_named 11 = .ok (.getfield 151, 3) := by decide +kernel
theorem dX12_named_14 : decode cX12_named 14 = .ok (.aload_n 0, 1) := by decide +kernel
theorem dX12_named_15 : decode cX12_named 15 = .ok (.getfield 158, 3) := by decide +kernel
theorem dX12_named_18 : decode cX12_named 18 = .ok (.isub, 1) := by decide +kernel
theorem dX12_named_19 : decode cX12_named 19 = .ok (.bipush 6, 2) := by decide +kernel
theorem dX12_named_21 : decode cX12_named 21 = .ok (.if_icmp .gt 7, 3) := by decide +kernel
theorem dX12_named_24 : decode cX12_named 24 = .ok (.iconst 1, 1) := by decide +kernel
theorem dX12_named_25 : decode cX12_named 25 = .ok (.goto 4, 3) := by decide +kernel
theorem dX12_named_28 : decode cX12_named 28 = .ok (.iconst 0, 1) := by decide +kernel
theorem dX12_named_29 : decode cX12_named 29 = .ok (.istore_n 2, 1) := by decide +kernel
theorem dX12_named_30 : decode cX12_named 30 = .ok (.iconst 0, 1) := by decide +kernel
theorem dX12_named_31 : decode cX12_named 31 = .ok (.istore_n 3, 1) := by decide +kernel
theorem dX12_named_32 : decode cX12_named 32 = .ok (.iload_n 3, 1) := by decide +kernel
theorem dX12_named_33 : decode cX12_named 33 = .ok (.bipush 6, 2) := by decide +kernel
theorem dX12_named_35 : decode cX12_named 35 = .ok (.if_icmp .ge 61, 3) := by decide +kernel
theorem dX12_named_38 : decode cX12_named 38 = .ok (.iload_n 2, 1) := by decide +kernel
theorem dX12_named_39 : decode cX12_named 39 = .ok (.ifCond .eq 57, 3) := by decide +kernel
theorem dX12_named_42 : decode cX12_named 42 = .ok (.aload_n 0, 1) := by decide +kernel
theorem dX12_named_43 : decode cX12_named 43 = .ok (.getfield 13, 3) := by decide +kernel
theorem dX12_named_46 : decode cX12_named 46 = .ok (.bipush 6, 2) := by decide +kernel
theorem dX12_named_48 : decode cX12_named 48 = .ok (.iload_n 1, 1) := by decide +kernel
theorem dX12_named_49 : decode cX12_named 49 = .ok (.imul, 1) := by decide +kernel
theorem dX12_named_50 : decode cX12_named 50 = .ok (.iload_n 3, 1) := by decide +kernel
theorem dX12_named_51 : decode cX12_named 51 = .ok (.iadd, 1) := by decide +kernel
theorem dX12_named_52 : decode cX12_named 52 = .ok (.iaload, 1) := by decide +kernel
theorem dX12_named_53 : decode cX12_named 53 = .ok (.iload_n 3, 1) := by decide +kernel
theorem dX12_named_54 : decode cX12_named 54 = .ok (.aload_n 0, 1) := by decide +kernel
theorem dX12_named_55 : decode cX12_named 55 = .ok (.getfield 151, 3) := by decide +kernel
theorem dX12_named_58 : decode cX12_named 58 = .ok (.aload_n 0, 1) := by decide +kernel
theorem dX12_named_59 : decode cX12_named 59 = .ok (.getfield 158, 3) := by decide +kernel
theorem dX12_named_62 : decode cX12_named 62 = .ok (.isub, 1) := by decide +kernel
theorem dX12_named_63 : decode cX12_named 63 = .ok (.if_icmp .ge 17, 3) := by decide +kernel
theorem dX12_named_66 : decode cX12_named 66 = .ok (.aload_n 0, 1) := by decide +kernel
theorem dX12_named_67 : decode cX12_named 67 = .ok (.getfield 50, 3) := by decide +kernel
theorem dX12_named_70 : decode cX12_named 70 = .ok (.aload_n 0, 1) := by decide +kernel
theorem dX12_named_71 : decode cX12_named 71 = .ok (.getfield 158, 3) := by decide +kernel
theorem dX12_named_74 : decode cX12_named 74 = .ok (.iload_n 3, 1) := by decide +kernel
theorem dX12_named_75 : decode cX12_named 75 = .ok (.iadd, 1) := by decide +kernel
theorem dX12_named_76 : decode cX12_named 76 = .ok (.iaload, 1) := by decide +kernel
theorem dX12_named_77 : decode cX12_named 77 = .ok (.goto 4, 3) := by decide +kernel
theorem dX12_named_80 : decode cX12_named 80 = .ok (.iconst 0, 1) := by decide +kernel
theorem dX12_named_81 : decode cX12_named 81 = .ok (.if_icmp .ne 7, 3) := by decide +kernel
theorem dX12_named_84 : decode cX12_named 84 = .ok (.iconst 1, 1) := by decide +kernel
theorem dX12_named_85 : decode cX12_named 85 = .ok (.goto 4, 3) := by decide +kernel
theorem dX12_named_88 : decode cX12_named 88 = .ok (.iconst 0, 1) := by decide +kernel
theorem dX12_named_89 : decode cX12_named 89 = .ok (.istore_n 2, 1) := by decide +kernel
theorem dX12_named_90 : decode cX12_named 90 = .ok (.iinc 3 1, 3) := by decide +kernel
theorem dX12_named_93 : decode cX12_named 93 = .ok (.goto (-61), 3) := by decide +kernel
theorem dX12_named_96 : decode cX12_named 96 = .ok (.iload_n 2, 1) := by decide +kernel
theorem dX12_named_97 : decode cX12_named 97 = .ok (.ifCond .eq 5, 3) := by decide +kernel
theorem dX12_named_100 : decode cX12_named 100 = .ok (.iload_n 1, 1) := by decide +kernel
theorem dX12_named_101 : decode cX12_named 101 = .ok (.ireturn, 1) := by decide +kernel
theorem dX12_named_102 : decode cX12_named 102 = .ok (.iinc 1 1, 3) := by decide +kernel
theorem dX12_named_105 : decode cX12_named 105 = .ok (.goto (-103), 3) := by decide +kernel
theorem dX12_named_108 : decode cX12_named 108 = .ok (.iconst (-1), 1) := by decide +kernel
theorem dX12_named_109 : decode cX12_named 109 = .ok (.ireturn, 1) := by decide +kernel
set_option maxHeartbeats 4000000 in
set_option maxRecDepth 100000 in
theorem lp_sX12_namedP {p : Program} {l : Launch} {e : Env} {R : Room} {s : State} {m : MethodId} {args : Array Value} {below : List Frame} {meth : Method} {c : Code} {Q : State → Prop} {A : Nat → Prop} {cells slots : Nat} {dC : Nat → ClassId} {dI : Nat → Nat → Nat} (h0 : Nat) (mi : Nat → Int32) (mr : Nat → Nat) (km_tape : ClassId) (fm_tape : Nat → Int32) (km_letter : ClassId) (fm_letter : Nat → Int32) (gmi_0 : gi (mi 0) 0 100000) (gmi_1 : gi (mi 1) 0 100000) (gmi_2 : gi (mi 2) 0 100000) (gmi_4 : gi (mi 4) 0 1) (gmi_7 : gi (mi 7) 0 6) (gmi_10 : gi (mi 10) 0 24) (gmi_17 : gi (mi 17) 0 8) (gmi_23 : gi (mi 23) 0 300) (gmi_24 : gi (mi 24) 0 1) (gmi_26 : gi (mi 26) 0 1600) (gmi_29 : gi (mi 29) 0 1600) (gmi_30 : gi (mi 30) 0 1600) (gmi_32 : gi (mi 32) 0 100000) (gmi_33 : gi (mi 33) 0 1) (gmi_37 : gi (mi 37) 0 1) (gmi_41 : gi (mi 41) 0 24) (gmi_50 : gi (mi 50) 0 1) (gmi_51 : gi (mi 51) 0 1) (gmi_56 : gi (mi 56) 0 80) (hpq0 : (mi 30).toInt ≤ (mi 29).toInt) (hpq1 : (mi 29).toInt ≤ (mi 26).toInt) (hpq2 : ((mi 31).toInt = 0 ∨ (mi 30).toInt < (mi 29).toInt)) (hx : p.tables.exec = Jvm.exec) (hb : c.code = cX12_named) (hml : c.maxLocals = 4) (hown : s.vm.findClass RX12 = some m.cls) (hts : ∀ w ∈ ((.code yX12_named cX12_named 4 (some .int) :: wsGB) : List Cond), w.before args s = true) (hK : va_K (dC, dI) vwCl [(km_tape, .int), (km_letter, .int)] s) (hRf : 0 ≤ R.frames) (hRl : 0 ≤ R.locals) (hRc : cells ≤ R.cells) (hRs : slots ≤ R.slots) (kr109 : ∀ (v : Int32) (H : Heap) (locs : List Loc) (ls : Array Slot), gi v (-1) (-1) → va_P (dC, dI) vwCl [(h0, .inr (12, fsMM mi mr)), ((mr 13), .inl (km_tape, 1600, .inl fm_tape)), ((mr 1), .inl (km_letter, 36, .inl fm_letter))] H → va_S A s.heap H locs → lv_has ls 4 [] → W p l e R s m args below meth c H locs cells slots Q (F0 m 109 ls [.int v])) (kr101 : ∀ (v : Int32) (H : Heap) (locs : List Loc) (ls : Array Slot), gi v 0 5 → va_P (dC, dI) vwCl [(h0, .inr (12, fsMM mi mr)), ((mr 13), .inl (km_tape, 1600, .inl fm_tape)), ((mr 1), .inl (km_letter, 36, .inl fm_letter))] H → va_S A s.heap H locs → lv_has ls 4 [] → W p l e R s m args below meth c H locs cells slots Q (F0 m 101 ls [.int v])) : ∀ z : Nat, (∀ (v1 : Int32) (H : Heap) (locs : List Loc) (ls : Array Slot), gi v1 0 6 → 109 + (-18) * v1.toInt < (z : Int) → va_P (dC, dI) vwCl [(h0, .inr (12, fsMM mi mr)), ((mr 13), .inl (km_tape, 1600, .inl fm_tape)), ((mr 1), .inl (km_letter, 36, .inl fm_letter))] H → va_S A s.heap H locs → lv_has ls 4 [(0, .ref h0), (1, .int v1)] → W p l e R s m args below meth c H locs cells slots Q (F0 m 2 ls [])) ∧ (∀ (v1 : Int32) (v2 : Int32) (v3 : Int32) (H : Heap) (locs : List Loc) (ls : Array Slot), gi v1 0 5 → gi v2 0 1 → gi v3 0 6 → 104 + (-18) * v1.toInt + (-2) * v3.toInt < (z : Int) → va_P (dC, dI) vwCl [(h0, .inr (12, fsMM mi mr)), ((mr 13), .inl (km_tape, 1600, .inl fm_tape)), ((mr 1), .inl (km_letter, 36, .inl fm_letter))] H → va_S A s.heap H locs → lv_has ls 4 [(0, .ref h0), (1, .int v1), (2, .int v2), (3, .int v3)] → W p l e R s m args below meth c H locs cells slots Q (F0 m 32 ls [])) := by
  intro z
  induction z with
  | zero =>
    refine ⟨?_, ?_⟩
    · intro v1 H locs ls gv1 hmu hP hS hl
      exact absurd hmu (by have hv11 := gv1.1; have hv12 := gv1.2; omega)
    · intro v1 v2 v3 H locs ls gv1 gv2 gv3 hmu hP hS hl
      exact absurd hmu (by have hv11 := gv1.1; have hv12 := gv1.2; have hv31 := gv3.1; have hv32 := gv3.2; omega)
  | succ z ih =>
    refine ⟨?_, ?_⟩
    · intro v1 H locs ls gv1 hmu hP hS hl
      refine lv_iload_n hx hb dX12_named_2 rfl (lv_at hl 1 rfl) ?_
      refine lv_aload_n hx hb dX12_named_3 rfl (lv_at hl 0 rfl) ?_
      refine va_get (D := (dC, dI)) (ci := 12) (v := .int (mi 7)) (C := RX12) (T := TX12) (N := 57) hx hb hts (fun w h => List.mem_cons_of_mem _ (jnGB_X12 w h)) hown hK hP 0 rfl rfl 7 (by decide) (hts _ (List.mem_cons_of_mem _ mGB_110)) (fun _ h9 => h9) rfl dX12_named_4 ?_
      refine lv_icmp_ge (tgt := 108) hx hb dX12_named_7 (by decide) (fun c_298 => ?_) (fun c_298 => ?_)
      · have hc_299 : (mi 7).toInt ≤ v1.toInt := by have h9 := Int32.le_iff_toInt_le.mp c_298; exact h9
        refine lv_iconst (v := (-1)) hx hb dX12_named_108 (by decide) ?_
        exact kr109 (-1) _ _ _ (gi_c (-1) (-1) (by decide)) hP hS (lv_sub hl [] rfl)
      · have hc_300 : v1.toInt < (mi 7).toInt := by have h9 := Int32.lt_iff_toInt_lt.mp (Int32.not_le.mp c_298); exact h9
        have g_301 : gi v1 0 5 := gi_lt_l (Int32.not_le.mp c_298) gv1 gmi_7 (by decide)
        have g_302 : gi (mi 7) 1 6 := gi_lt_r (Int32.not_le.mp c_298) gv1 gmi_7 (by decide)
        refine lv_aload_n hx hb dX12_named_10 rfl (lv_at hl 0 rfl) ?_
        refine va_get (D := (dC, dI)) (ci := 12) (v := .int (mi 29)) (C := RX12) (T := TX12) (N := 57) hx hb hts (fun w h => List.mem_cons_of_mem _ (jnGB_X12 w h)) hown hK hP 0 rfl rfl 29 (by decide) (hts _ (List.mem_cons_of_mem _ mGB_113)) (fun _ h9 => h9) rfl dX12_named_11 ?_
        refine lv_aload_n hx hb dX12_named_14 rfl (lv_at hl 0 rfl) ?_
        refine va_get (D := (dC, dI)) (ci := 12) (v := .int (mi 30)) (C := RX12) (T := TX12) (N := 57) hx hb hts (fun w h => List.mem_cons_of_mem _ (jnGB_X12 w h)) hown hK hP 0 rfl rfl 30 (by decide) (hts _ (List.mem_cons_of_mem _ mGB_135)) (fun _ h9 => h9) rfl dX12_named_15 ?_
        refine lv_isub hx hb dX12_named_18 ?_
        refine lv_topi (fun x_303 ex_303 => ?_)
        have gx_303 : gi x_303 (-1600) 1600 := gi_sub ex_303 gmi_29 gmi_30 (by decide)
        refine lv_bipush (v := 6) hx hb dX12_named_19 (by decide) ?_
        refine lv_icmp_gt (tgt := 28) hx hb dX12_named_21 (by decide) (fun c_304 => ?_) (fun c_304 => ?_)
        · have hc_305 : 6 < x_303.toInt := by have h9 := Int32.lt_iff_toInt_lt.mp c_304; rw [show (6 : Int32).toInt = 6 from by decide] at h9; exact h9
          have g_306 : gi x_303 7 1600 := gi_lt_r c_304 (gi_c 6 6 (by decide)) gx_303 (by decide)
          refine lv_iconst (v := 0) hx hb dX12_named_28 (by decide) ?_
          refine lv_istore_n (lv' := [(2, .int 0), (0, .ref h0), (1, .int v1)]) hx hb dX12_named_29 rfl hl (by decide) rfl (fun ls hl => ?_)
          refine lv_iconst (v := 0) hx hb dX12_named_30 (by decide) ?_
          refine lv_istore_n (lv' := [(3, .int 0), (2, .int 0), (0, .ref h0), (1, .int v1)]) hx hb dX12_named_31 rfl hl (by decide) rfl (fun ls hl => ?_)
          exact ih.2 v1 0 0 _ _ _ g_301 (gi_w (gi_c 0 0 (by decide)) (by decide)) (gi_w (gi_c 0 0 (by decide)) (by decide)) (by have k0 : (0 : Int32).toInt = 0 := (by decide); have av1 := gv1.1; have bv1 := gv1.2; have qgv1 := g_301.1; have rgv1 := g_301.2; omega) hP hS (lv_sub hl [2, 3, 1, 0] rfl)
        · have hc_307 : x_303.toInt ≤ 6 := by have h9 := Int32.le_iff_toInt_le.mp (Int32.not_lt.mp c_304); rw [show (6 : Int32).toInt = 6 from by decide] at h9; exact h9
          have g_308 : gi x_303 (-1600) 6 := gi_le_l (Int32.not_lt.mp c_304) gx_303 (gi_c 6 6 (by decide))
          refine lv_iconst (v := 1) hx hb dX12_named_24 (by decide) ?_
          refine lv_goto (tgt := 29) hx hb dX12_named_25 (by decide) ?_
          refine lv_istore_n (lv' := [(2, .int 1), (0, .ref h0), (1, .int v1)]) hx hb dX12_named_29 rfl hl (by decide) rfl (fun ls hl => ?_)
          refine lv_iconst (v := 0) hx hb dX12_named_30 (by decide) ?_
          refine lv_istore_n (lv' := [(3, .int 0), (2, .int 1), (0, .ref h0), (1, .int v1)]) hx hb dX12_named_31 rfl hl (by decide) rfl (fun ls hl => ?_)
          exact ih.2 v1 1 0 _ _ _ g_301 (gi_w (gi_c 1 1 (by decide)) (by decide)) (gi_w (gi_c 0 0 (by decide)) (by decide)) (by have k0 : (0 : Int32).toInt = 0 := (by decide); have av1 := gv1.1; have bv1 := gv1.2; have qgv1 := g_301.1; have rgv1 := g_301.2; omega) hP hS (lv_sub hl [2, 3, 1, 0] rfl)
    · intro v1 v2 v3 H locs ls gv1 gv2 gv3 hmu hP hS hl
      refine lv_iload_n hx hb dX12_named_32 rfl (lv_at hl 3 rfl) ?_
      refine lv_bipush (v := 6) hx hb dX12_named_33 (by decide) ?_
      refine lv_icmp_ge (tgt := 96) hx hb dX12_named_35 (by decide) (fun c_309 => ?_) (fun c_309 => ?_)
      · have hc_310 : 6 ≤ v3.toInt := by have h9 := Int32.le_iff_toInt_le.mp c_309; rw [show (6 : Int32).toInt = 6 from by decide] at h9; exact h9
        have g_311 : gi v3 6 6 := gi_le_r c_309 (gi_c 6 6 (by decide)) gv3
        refine lv_iload_n hx hb dX12_named_96 rfl (lv_at hl 2 rfl) ?_
        refine lv_if_eq (tgt := 102) hx hb dX12_named_97 (by decide) (fun c_312 => ?_) (fun c_312 => ?_)
        · have hc_313 : v2.toInt = 0 := by have h9 := congrArg Int32.toInt c_312; rw [show (0 : Int32).toInt = 0 from by decide] at h9; exact h9
          have g_314 : gi v2 0 0 := gi_eq c_312 (gi_c 0 0 (by decide))
          obtain ⟨x_315, ex_315⟩ : ∃ y : Int32, y = v1 + 1 := ⟨_, rfl⟩
          have gx_315 : gi x_315 1 6 := gi_add ex_315 gv1 (gi_c 1 1 (by decide)) (by decide)
          refine lv_iinc (v := x_315) (lv' := [(1, .int x_315), (0, .ref h0), (2, .int v2), (3, .int v3)]) hx hb dX12_named_102 hl (k := 1) rfl (by rw [ex_315]; rfl) (by decide) rfl (fun ls hl => ?_)
          refine lv_goto (tgt := 2) hx hb dX12_named_105 (by decide) ?_
          exact ih.1 x_315 _ _ _ (gi_w gx_315 (by decide)) (by have av1 := gv1.1; have bv1 := gv1.2; have av3 := gv3.1; have bv3 := gv3.2; have qgx_315 := gx_315.1; have rgx_315 := gx_315.2; have igx_315 : x_315.toInt = v1.toInt + 1 := (by have hc1 : (1 : Int32).toInt = 1 := (by decide); have h9 := gi_addI ex_315 (by have h1 := gv1.1; have h2 := (gi_c 1 1 (by decide)).1; have h3 := gv1.2; have h4 := (gi_c 1 1 (by decide)).2; omega) (by have h1 := gv1.1; have h2 := (gi_c 1 1 (by decide)).1; have h3 := gv1.2; have h4 := (gi_c 1 1 (by decide)).2; omega); rw [hc1] at h9; exact h9); have qgv1 := gv1.1; have rgv1 := gv1.2; omega) hP hS (lv_sub hl [1, 0] rfl)
        · have hc_316 : v2.toInt ≠ 0 := fun h9 => c_312 (Int32.toInt_inj.mp (by rw [show (0 : Int32).toInt = 0 from by decide]; exact h9))
          have g_317 : gi v2 1 1 := gi_ne_lo c_312 gv2 (gi_c 0 0 (by decide)) (by decide)
          refine lv_iload_n hx hb dX12_named_100 rfl (lv_at hl 1 rfl) ?_
          exact kr101 v1 _ _ _ gv1 hP hS (lv_sub hl [] rfl)
      · have hc_318 : v3.toInt < 6 := by have h9 := Int32.lt_iff_toInt_lt.mp (Int32.not_le.mp c_309); rw [show (6 : Int32).toInt = 6 from by decide] at h9; exact h9
        have g_319 : gi v3 0 5 := gi_lt_l (Int32.not_le.mp c_309) gv3 (gi_c 6 6 (by decide)) (by decide)
        refine lv_iload_n hx hb dX12_named_38 rfl (lv_at hl 2 rfl) ?_
        refine lv_if_eq (tgt := 96) hx hb dX12_named_39 (by decide) (fun c_320 => ?_) (fun c_320 => ?_)
        · have hc_321 : v2.toInt = 0 := by have h9 := congrArg Int32.toInt c_320; rw [show (0 : Int32).toInt = 0 from by decide] at h9; exact h9
          have g_322 : gi v2 0 0 := gi_eq c_320 (gi_c 0 0 (by decide))
          refine lv_iload_n hx hb dX12_named_96 rfl (lv_at hl 2 rfl) ?_
          refine lv_if_eq (tgt := 102) hx hb dX12_named_97 (by decide) (fun c_323 => ?_) (fun c_323 => absurd (gi_is_eq g_322 (gi_c 0 0 (by decide))) c_323)
          obtain ⟨x_324, ex_324⟩ : ∃ y : Int32, y = v1 + 1 := ⟨_, rfl⟩
          have gx_324 : gi x_324 1 6 := gi_add ex_324 gv1 (gi_c 1 1 (by decide)) (by decide)
          refine lv_iinc (v := x_324) (lv' := [(1, .int x_324), (0, .ref h0), (2, .int v2), (3, .int v3)]) hx hb dX12_named_102 hl (k := 1) rfl (by rw [ex_324]; rfl) (by decide) rfl (fun ls hl => ?_)
          refine lv_goto (tgt := 2) hx hb dX12_named_105 (by decide) ?_
          exact ih.1 x_324 _ _ _ (gi_w gx_324 (by decide)) (by have av1 := gv1.1; have bv1 := gv1.2; have av3 := gv3.1; have bv3 := gv3.2; have qgx_324 := gx_324.1; have rgx_324 := gx_324.2; have igx_324 : x_324.toInt = v1.toInt + 1 := (by have hc1 : (1 : Int32).toInt = 1 := (by decide); have h9 := gi_addI ex_324 (by have h1 := gv1.1; have h2 := (gi_c 1 1 (by decide)).1; have h3 := gv1.2; have h4 := (gi_c 1 1 (by decide)).2; omega) (by have h1 := gv1.1; have h2 := (gi_c 1 1 (by decide)).1; have h3 := gv1.2; have h4 := (gi_c 1 1 (by decide)).2; omega); rw [hc1] at h9; exact h9); have qgv1 := gv1.1; have rgv1 := gv1.2; omega) hP hS (lv_sub hl [1, 0] rfl)
        · have hc_325 : v2.toInt ≠ 0 := fun h9 => c_320 (Int32.toInt_inj.mp (by rw [show (0 : Int32).toInt = 0 from by decide]; exact h9))
          have g_326 : gi v2 1 1 := gi_ne_lo c_320 gv2 (gi_c 0 0 (by decide)) (by decide)
          refine lv_aload_n hx hb dX12_named_42 rfl (lv_at hl 0 rfl) ?_
          refine va_get (D := (dC, dI)) (ci := 12) (v := .ref (mr 1)) (C := RX12) (T := TX12) (N := 57) hx hb hts (fun w h => List.mem_cons_of_mem _ (jnGB_X12 w h)) hown hK hP 0 rfl rfl 9 (by decide) (hts _ (List.mem_cons_of_mem _ mGB_11)) (fun _ h9 => h9) rfl dX12_named_43 ?_
          refine lv_bipush (v := 6) hx hb dX12_named_46 (by decide) ?_
          refine lv_iload_n hx hb dX12_named_48 rfl (lv_at hl 1 rfl) ?_
          refine lv_imul hx hb dX12_named_49 ?_
          refine lv_topi (fun x_327 ex_327 => ?_)
          have gx_327 : gi x_327 0 30 := gi_mul ex_327 (gi_c 6 6 (by decide)) gv1 (by decide)
          refine lv_iload_n hx hb dX12_named_50 rfl (lv_at hl 3 rfl) ?_
          refine lv_iadd hx hb dX12_named_51 ?_
          refine lv_topi (fun x_328 ex_328 => ?_)
          have gx_328 : gi x_328 0 35 := gi_add ex_328 gx_327 g_319 (by decide)
          refine va_iald hx hb hK hP 2 1 rfl rfl (gi_in gx_328 (by decide)) dX12_named_52 ?_
          refine lv_topi (fun x_329 ex_329 => ?_)
          have hlx_329 : x_329.toInt = (fm_letter x_328.toNatClampNeg).toInt := congrArg Int32.toInt ex_329
          refine lv_iload_n hx hb dX12_named_53 rfl (lv_at hl 3 rfl) ?_
          refine lv_aload_n hx hb dX12_named_54 rfl (lv_at hl 0 rfl) ?_
          refine va_get (D := (dC, dI)) (ci := 12) (v := .int (mi 29)) (C := RX12) (T := TX12) (N := 57) hx hb hts (fun w h => List.mem_cons_of_mem _ (jnGB_X12 w h)) hown hK hP 0 rfl rfl 29 (by decide) (hts _ (List.mem_cons_of_mem _ mGB_113)) (fun _ h9 => h9) rfl dX12_named_55 ?_
          refine lv_aload_n hx hb dX12_named_58 rfl (lv_at hl 0 rfl) ?_
          refine va_get (D := (dC, dI)) (ci := 12) (v := .int (mi 30)) (C := RX12) (T := TX12) (N := 57) hx hb hts (fun w h => List.mem_cons_of_mem _ (jnGB_X12 w h)) hown hK hP 0 rfl rfl 30 (by decide) (hts _ (List.mem_cons_of_mem _ mGB_135)) (fun _ h9 => h9) rfl dX12_named_59 ?_
          refine lv_isub hx hb dX12_named_62 ?_
          refine lv_topi (fun x_330 ex_330 => ?_)
          have gx_330 : gi x_330 (-1600) 1600 := gi_sub ex_330 gmi_29 gmi_30 (by decide)
          refine lv_icmp_ge (tgt := 80) hx hb dX12_named_63 (by decide) (fun c_331 => ?_) (fun c_331 => ?_)
          · have hc_332 : x_330.toInt ≤ v3.toInt := by have h9 := Int32.le_iff_toInt_le.mp c_331; exact h9
            have g_333 : gi x_330 (-1600) 5 := gi_le_l c_331 gx_330 g_319
            refine lv_iconst (v := 0) hx hb dX12_named_80 (by decide) ?_
            refine lv_icmp_ne (tgt := 88) hx hb dX12_named_81 (by decide) (fun c_334 => ?_) (fun c_334 => ?_)
            · have hc_335 : x_329.toInt ≠ 0 := fun h9 => c_334 (Int32.toInt_inj.mp (by rw [show (0 : Int32).toInt = 0 from by decide]; exact h9))
              refine lv_iconst (v := 0) hx hb dX12_named_88 (by decide) ?_
              refine lv_istore_n (lv' := [(2, .int 0), (0, .ref h0), (1, .int v1), (3, .int v3)]) hx hb dX12_named_89 rfl hl (by decide) rfl (fun ls hl => ?_)
              obtain ⟨x_336, ex_336⟩ : ∃ y : Int32, y = v3 + 1 := ⟨_, rfl⟩
              have gx_336 : gi x_336 1 6 := gi_add ex_336 g_319 (gi_c 1 1 (by decide)) (by decide)
              refine lv_iinc (v := x_336) (lv' := [(3, .int x_336), (2, .int 0), (0, .ref h0), (1, .int v1)]) hx hb dX12_named_90 hl (k := 3) rfl (by rw [ex_336]; rfl) (by decide) rfl (fun ls hl => ?_)
              refine lv_goto (tgt := 32) hx hb dX12_named_93 (by decide) ?_
              exact ih.2 v1 0 x_336 _ _ _ gv1 (gi_w (gi_c 0 0 (by decide)) (by decide)) (gi_w gx_336 (by decide)) (by have av1 := gv1.1; have bv1 := gv1.2; have av3 := gv3.1; have bv3 := gv3.2; have qgx_336 := gx_336.1; have rgx_336 := gx_336.2; have igx_336 : x_336.toInt = v3.toInt + 1 := (by have hc1 : (1 : Int32).toInt = 1 := (by decide); have h9 := gi_addI ex_336 (by have h1 := g_319.1; have h2 := (gi_c 1 1 (by decide)).1; have h3 := g_319.2; have h4 := (gi_c 1 1 (by decide)).2; omega) (by have h1 := g_319.1; have h2 := (gi_c 1 1 (by decide)).1; have h3 := g_319.2; have h4 := (gi_c 1 1 (by decide)).2; omega); rw [hc1] at h9; exact h9); have qgv3 := g_319.1; have rgv3 := g_319.2; have qgv1 := gv1.1; have rgv1 := gv1.2; omega) hP hS (lv_sub hl [2, 3, 1, 0] rfl)
            · have hc_337 : x_329.toInt = 0 := by have h9 := congrArg Int32.toInt c_334; rw [show (0 : Int32).toInt = 0 from by decide] at h9; exact h9
              have g_338 : gi x_329 0 0 := gi_eq c_334 (gi_c 0 0 (by decide))
              refine lv_iconst (v := 1) hx hb dX12_named_84 (by decide) ?_
              refine lv_goto (tgt := 89) hx hb dX12_named_85 (by decide) ?_
              refine lv_istore_n (lv' := [(2, .int 1), (0, .ref h0), (1, .int v1), (3, .int v3)]) hx hb dX12_named_89 rfl hl (by decide) rfl (fun ls hl => ?_)
              obtain ⟨x_339, ex_339⟩ : ∃ y : Int32, y = v3 + 1 := ⟨_, rfl⟩
              have gx_339 : gi x_339 1 6 := gi_add ex_339 g_319 (gi_c 1 1 (by decide)) (by decide)
              refine lv_iinc (v := x_339) (lv' := [(3, .int x_339), (2, .int 1), (0, .ref h0), (1, .int v1)]) hx hb dX12_named_90 hl (k := 3) rfl (by rw [ex_339]; rfl) (by decide) rfl (fun ls hl => ?_)
              refine lv_goto (tgt := 32) hx hb dX12_named_93 (by decide) ?_
              exact ih.2 v1 1 x_339 _ _ _ gv1 (gi_w (gi_c 1 1 (by decide)) (by decide)) (gi_w gx_339 (by decide)) (by have av1 := gv1.1; have bv1 := gv1.2; have av3 := gv3.1; have bv3 := gv3.2; have qgx_339 := gx_339.1; have rgx_339 := gx_339.2; have igx_339 : x_339.toInt = v3.toInt + 1 := (by have hc1 : (1 : Int32).toInt = 1 := (by decide); have h9 := gi_addI ex_339 (by have h1 := g_319.1; have h2 := (gi_c 1 1 (by decide)).1; have h3 := g_319.2; have h4 := (gi_c 1 1 (by decide)).2; omega) (by have h1 := g_319.1; have h2 := (gi_c 1 1 (by decide)).1; have h3 := g_319.2; have h4 := (gi_c 1 1 (by decide)).2; omega); rw [hc1] at h9; exact h9); have qgv3 := g_319.1; have rgv3 := g_319.2; have qgv1 := gv1.1; have rgv1 := gv1.2; omega) hP hS (lv_sub hl [2, 3, 1, 0] rfl)
          · have hc_340 : v3.toInt < x_330.toInt := by have h9 := Int32.lt_iff_toInt_lt.mp (Int32.not_le.mp c_331); exact h9
            have g_341 : gi x_330 1 1600 := gi_lt_r (Int32.not_le.mp c_331) g_319 gx_330 (by decide)
            refine lv_aload_n hx hb dX12_named_66 rfl (lv_at hl 0 rfl) ?_
            refine va_get (D := (dC, dI)) (ci := 12) (v := .ref (mr 13)) (C := RX12) (T := TX12) (N := 57) hx hb hts (fun w h => List.mem_cons_of_mem _ (jnGB_X12 w h)) hown hK hP 0 rfl rfl 25 (by decide) (hts _ (List.mem_cons_of_mem _ mGB_24)) (fun _ h9 => h9) rfl dX12_named_67 ?_
            refine lv_aload_n hx hb dX12_named_70 rfl (lv_at hl 0 rfl) ?_
            refine va_get (D := (dC, dI)) (ci := 12) (v := .int (mi 30)) (C := RX12) (T := TX12) (N := 57) hx hb hts (fun w h => List.mem_cons_of_mem _ (jnGB_X12 w h)) hown hK hP 0 rfl rfl 30 (by decide) (hts _ (List.mem_cons_of_mem _ mGB_135)) (fun _ h9 => h9) rfl dX12_named_71 ?_
            refine lv_iload_n hx hb dX12_named_74 rfl (lv_at hl 3 rfl) ?_
            refine lv_iadd hx hb dX12_named_75 ?_
            refine lv_topi (fun x_342 ex_342 => ?_)
            have gx_342 : gi x_342 0 1605 := gi_add ex_342 gmi_30 g_319 (by decide)
            refine va_iald hx hb hK hP 1 0 rfl rfl (gz_inR (n := 1600) (by have qgx_342 := gx_342.1; have rgx_342 := gx_342.2; have igx_342 : x_342.toInt = (mi 30).toInt + v3.toInt := (by have h9 := gi_addI ex_342 (by have h1 := gmi_30.1; have h2 := g_319.1; have h3 := gmi_30.2; have h4 := g_319.2; omega) (by have h1 := gmi_30.1; have h2 := g_319.1; have h3 := gmi_30.2; have h4 := g_319.2; omega); exact h9); have qgv3 := g_319.1; have rgv3 := g_319.2; have qgmi_30 := gmi_30.1; have rgmi_30 := gmi_30.2; have qgx_330 := g_341.1; have rgx_330 := g_341.2; have igx_330 : x_330.toInt = (mi 29).toInt - (mi 30).toInt := (by have h9 := gi_subI ex_330 (by have h1 := gmi_29.1; have h2 := gmi_30.1; have h3 := gmi_29.2; have h4 := gmi_30.2; omega) (by have h1 := gmi_29.1; have h2 := gmi_30.1; have h3 := gmi_29.2; have h4 := gmi_30.2; omega); exact h9); have qgmi_29 := gmi_29.1; have rgmi_29 := gmi_29.2; have qgv2 := g_326.1; have rgv2 := g_326.2; have qgmi_26 := gmi_26.1; have rgmi_26 := gmi_26.2; omega) (by have qgx_342 := gx_342.1; have rgx_342 := gx_342.2; have igx_342 : x_342.toInt = (mi 30).toInt + v3.toInt := (by have h9 := gi_addI ex_342 (by have h1 := gmi_30.1; have h2 := g_319.1; have h3 := gmi_30.2; have h4 := g_319.2; omega) (by have h1 := gmi_30.1; have h2 := g_319.1; have h3 := gmi_30.2; have h4 := g_319.2; omega); exact h9); have qgv3 := g_319.1; have rgv3 := g_319.2; have qgmi_30 := gmi_30.1; have rgmi_30 := gmi_30.2; have qgx_330 := g_341.1; have rgx_330 := g_341.2; have igx_330 : x_330.toInt = (mi 29).toInt - (mi 30).toInt := (by have h9 := gi_subI ex_330 (by have h1 := gmi_29.1; have h2 := gmi_30.1; have h3 := gmi_29.2; have h4 := gmi_30.2; omega) (by have h1 := gmi_29.1; have h2 := gmi_30.1; have h3 := gmi_29.2; have h4 := gmi_30.2; omega); exact h9); have qgmi_29 := gmi_29.1; have rgmi_29 := gmi_29.2; have qgv2 := g_326.1; have rgv2 := g_326.2; have qgmi_26 := gmi_26.1; have rgmi_26 := gmi_26.2; omega)) dX12_named_76 ?_
            refine lv_topi (fun x_343 ex_343 => ?_)
            have hlx_343 : x_343.toInt = (fm_tape x_342.toNatClampNeg).toInt := congrArg Int32.toInt ex_343
            refine lv_goto (tgt := 81) hx hb dX12_named_77 (by decide) ?_
            refine lv_icmp_ne (tgt := 88) hx hb dX12_named_81 (by decide) (fun c_344 => ?_) (fun c_344 => ?_)
            · have hc_345 : x_329.toInt ≠ x_343.toInt := fun h9 => c_344 (Int32.toInt_inj.mp (by exact h9))
              refine lv_iconst (v := 0) hx hb dX12_named_88 (by decide) ?_
              refine lv_istore_n (lv' := [(2, .int 0), (0, .ref h0), (1, .int v1), (3, .int v3)]) hx hb dX12_named_89 rfl hl (by decide) rfl (fun ls hl => ?_)
              obtain ⟨x_346, ex_346⟩ : ∃ y : Int32, y = v3 + 1 := ⟨_, rfl⟩
              have gx_346 : gi x_346 1 6 := gi_add ex_346 g_319 (gi_c 1 1 (by decide)) (by decide)
              refine lv_iinc (v := x_346) (lv' := [(3, .int x_346), (2, .int 0), (0, .ref h0), (1, .int v1)]) hx hb dX12_named_90 hl (k := 3) rfl (by rw [ex_346]; rfl) (by decide) rfl (fun ls hl => ?_)
              refine lv_goto (tgt := 32) hx hb dX12_named_93 (by decide) ?_
              exact ih.2 v1 0 x_346 _ _ _ gv1 (gi_w (gi_c 0 0 (by decide)) (by decide)) (gi_w gx_346 (by decide)) (by have av1 := gv1.1; have bv1 := gv1.2; have av3 := gv3.1; have bv3 := gv3.2; have qgx_346 := gx_346.1; have rgx_346 := gx_346.2; have igx_346 : x_346.toInt = v3.toInt + 1 := (by have hc1 : (1 : Int32).toInt = 1 := (by decide); have h9 := gi_addI ex_346 (by have h1 := g_319.1; have h2 := (gi_c 1 1 (by decide)).1; have h3 := g_319.2; have h4 := (gi_c 1 1 (by decide)).2; omega) (by have h1 := g_319.1; have h2 := (gi_c 1 1 (by decide)).1; have h3 := g_319.2; have h4 := (gi_c 1 1 (by decide)).2; omega); rw [hc1] at h9; exact h9); have qgv3 := g_319.1; have rgv3 := g_319.2; have qgv1 := gv1.1; have rgv1 := gv1.2; omega) hP hS (lv_sub hl [2, 3, 1, 0] rfl)
            · have hc_347 : x_329.toInt = x_343.toInt := by have h9 := congrArg Int32.toInt c_344; exact h9
              refine lv_iconst (v := 1) hx hb dX12_named_84 (by decide) ?_
              refine lv_goto (tgt := 89) hx hb dX12_named_85 (by decide) ?_
              refine lv_istore_n (lv' := [(2, .int 1), (0, .ref h0), (1, .int v1), (3, .int v3)]) hx hb dX12_named_89 rfl hl (by decide) rfl (fun ls hl => ?_)
              obtain ⟨x_348, ex_348⟩ : ∃ y : Int32, y = v3 + 1 := ⟨_, rfl⟩
              have gx_348 : gi x_348 1 6 := gi_add ex_348 g_319 (gi_c 1 1 (by decide)) (by decide)
              refine lv_iinc (v := x_348) (lv' := [(3, .int x_348), (2, .int 1), (0, .ref h0), (1, .int v1)]) hx hb dX12_named_90 hl (k := 3) rfl (by rw [ex_348]; rfl) (by decide) rfl (fun ls hl => ?_)
              refine lv_goto (tgt := 32) hx hb dX12_named_93 (by decide) ?_
              exact ih.2 v1 1 x_348 _ _ _ gv1 (gi_w (gi_c 1 1 (by decide)) (by decide)) (gi_w gx_348 (by decide)) (by have av1 := gv1.1; have bv1 := gv1.2; have av3 := gv3.1; have bv3 := gv3.2; have qgx_348 := gx_348.1; have rgx_348 := gx_348.2; have igx_348 : x_348.toInt = v3.toInt + 1 := (by have hc1 : (1 : Int32).toInt = 1 := (by decide); have h9 := gi_addI ex_348 (by have h1 := g_319.1; have h2 := (gi_c 1 1 (by decide)).1; have h3 := g_319.2; have h4 := (gi_c 1 1 (by decide)).2; omega) (by have h1 := g_319.1; have h2 := (gi_c 1 1 (by decide)).1; have h3 := g_319.2; have h4 := (gi_c 1 1 (by decide)).2; omega); rw [hc1] at h9; exact h9); have qgv3 := g_319.1; have rgv3 := g_319.2; have qgv1 := gv1.1; have rgv1 := gv1.2; omega) hP hS (lv_sub hl [2, 3, 1, 0] rfl)
set_option maxHeartbeats 4000000 in
set_option maxRecDepth 100000 in
theorem sX12_namedP (l : Launch) (dC : Nat → ClassId) (dI : Nat → Nat → Nat) (h0 : Nat) (mi : Nat → Int32) (mr : Nat → Nat) (km_tape : ClassId) (fm_tape : Nat → Int32) (km_letter : ClassId) (fm_letter : Nat → Int32) (gmi_0 : gi (mi 0) 0 100000) (gmi_1 : gi (mi 1) 0 100000) (gmi_2 : gi (mi 2) 0 100000) (gmi_4 : gi (mi 4) 0 1) (gmi_7 : gi (mi 7) 0 6) (gmi_10 : gi (mi 10) 0 24) (gmi_17 : gi (mi 17) 0 8) (gmi_23 : gi (mi 23) 0 300) (gmi_24 : gi (mi 24) 0 1) (gmi_26 : gi (mi 26) 0 1600) (gmi_29 : gi (mi 29) 0 1600) (gmi_30 : gi (mi 30) 0 1600) (gmi_32 : gi (mi 32) 0 100000) (gmi_33 : gi (mi 33) 0 1) (gmi_37 : gi (mi 37) 0 1) (gmi_41 : gi (mi 41) 0 24) (gmi_50 : gi (mi 50) 0 1) (gmi_51 : gi (mi 51) 0 1) (gmi_56 : gi (mi 56) 0 80) (hpq0 : (mi 30).toInt ≤ (mi 29).toInt) (hpq1 : (mi 29).toInt ≤ (mi 26).toInt) (hpq2 : ((mi 31).toInt = 0 ∨ (mi 30).toInt < (mi 29).toInt)) : Met l yX12_named (.code yX12_named cX12_named 4 (some .int) :: wsGB) ({ frames := 0, cells := 0, slots := 0, locals := 0 }) (va_Pc [.ref h0] (fun U => va_P (dC, dI) vwCl [(h0, .inr (12, fsMM mi mr)), ((mr 13), .inl (km_tape, 1600, .inl fm_tape)), ((mr 1), .inl (km_letter, 36, .inl fm_letter))] U.heap ∧ va_K (dC, dI) vwCl [(km_tape, .int), (km_letter, .int)] U)) (va_Qi (fun (r : Int32) (u : Unit) => gi r (-1) 5) (fun _ _ => True) (fun _ => False)) 0 0 (fun _ => False) := by
  refine Met.ofW (cc := cX12_named) (maxL := 4) (ret := (some .int)) (by decide) rfl ?_
  intro p e s m args below meth c s₁ B hml hv
  obtain ⟨rfl, hP, hK⟩ := hv
  have hx := B.exec
  have hb := B.bytes
  have hr := B.returns
  have hts := atoms_spec (ws := (.code yX12_named cX12_named 4 (some .int) :: wsGB)) B.pre
  have hown : s.vm.findClass RX12 = some m.cls := findClass_of_methodNamed B.named
  have hlocks := B.notSynchronized
  have hS : va_S (fun _ => False) s.heap s.heap [] := va_S.rf
  have hl := lv_entry ([.ref h0]) (n := 4) (Nat.le_of_ble_eq_true rfl)
  rw [lg_entry_eq]
  generalize (lg_sl ([.ref h0]) ++ List.replicate (4 - (lg_sl ([.ref h0])).length) Slot.unset).toArray = ls at hl ⊢
  have hl : lv_has ls 4 [(0, .ref h0)] := hl
  refine lv_iconst (v := 0) hx hb dX12_named_0 (by decide) ?_
  refine lv_istore_n (lv' := [(1, .int 0), (0, .ref h0)]) hx hb dX12_named_1 rfl hl (by decide) rfl (fun ls hl => ?_)
  refine (lp_sX12_namedP h0 mi mr km_tape fm_tape km_letter fm_letter gmi_0 gmi_1 gmi_2 gmi_4 gmi_7 gmi_10 gmi_17 gmi_23 gmi_24 gmi_26 gmi_29 gmi_30 gmi_32 gmi_33 gmi_37 gmi_41 gmi_50 gmi_51 gmi_56 hpq0 hpq1 hpq2 hx hb hml hown hts hK (Nat.le_of_ble_eq_true rfl) (Nat.le_of_ble_eq_true rfl) (Nat.zero_le _) (Nat.zero_le _) (fun v H locs ls gv hP hS hl => ?_) (fun v H locs ls gv hP hS hl => ?_) 154).1 0 _ _ _ (gi_w (gi_c 0 0 (by decide)) (by decide)) (by have k0 : (0 : Int32).toInt = 0 := (by decide); omega) hP hS (lv_sub hl [1, 0] rfl)
  · skip
    exact W.iret (v := v) hx hb hr (fun t ht hW => ⟨⟨v, (), rfl, (gi_w gv (by decide)), trivial⟩, hS.F ht⟩) hS.2.2 dX12_named_109
  · skip
    exact W.iret (v := v) hx hb hr (fun t ht hW => ⟨⟨v, (), rfl, (gi_w gv (by decide)), trivial⟩, hS.F ht⟩) hS.2.2 dX12_named_101
