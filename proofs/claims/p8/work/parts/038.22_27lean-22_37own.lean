theorem dX12_lean_0 : decode cX12_lean 0 = .ok (.aload_n 0, 1) := by decide +kernel
theorem dX12_lean_1 : decode cX12_lean 1 = .ok (.iload_n 1, 1) := by decide +kernel
theorem dX12_lean_2 : decode cX12_lean 2 = .ok (.invokevirtual 359, 3) := by decide +kernel
theorem dX12_lean_5 : decode cX12_lean 5 = .ok (.ifCond .eq 11, 3) := by decide +kernel
theorem dX12_lean_8 : decode cX12_lean 8 = .ok (.aload_n 0, 1) := by decide +kernel
theorem dX12_lean_9 : decode cX12_lean 9 = .ok (.iload_n 2, 1) := by decide +kernel
theorem dX12_lean_10 : decode cX12_lean 10 = .ok (.invokevirtual 394, 3) := by decide +kernel
theorem dX12_lean_13 : decode cX12_lean 13 = .ok (.ifCond .ne 6, 3) := by decide +kernel
theorem dX12_lean_16 : decode cX12_lean 16 = .ok (.bipush (-2), 2) := by decide +kernel
theorem dX12_lean_18 : decode cX12_lean 18 = .ok (.ireturn, 1) := by decide +kernel
theorem dX12_lean_19 : decode cX12_lean 19 = .ok (.aload_n 0, 1) := by decide +kernel
theorem dX12_lean_20 : decode cX12_lean 20 = .ok (.iload_n 1, 1) := by decide +kernel
theorem dX12_lean_21 : decode cX12_lean 21 = .ok (.invokevirtual 362, 3) := by decide +kernel
theorem dX12_lean_24 : decode cX12_lean 24 = .ok (.iconst 0, 1) := by decide +kernel
theorem dX12_lean_25 : decode cX12_lean 25 = .ok (.istore_n 3, 1) := by decide +kernel
theorem dX12_lean_26 : decode cX12_lean 26 = .ok (.bipush 29, 2) := by decide +kernel
theorem dX12_lean_28 : decode cX12_lean 28 = .ok (.iload_n 2, 1) := by decide +kernel
theorem dX12_lean_29 : decode cX12_lean 29 = .ok (.imul, 1) := by decide +kernel
theorem dX12_lean_30 : decode cX12_lean 30 = .ok (.istore 4, 2) := by decide +kernel
theorem dX12_lean_32 : decode cX12_lean 32 = .ok (.iload 4, 2) := by decide +kernel
theorem dX12_lean_34 : decode cX12_lean 34 = .ok (.bipush 30, 2) := by decide +kernel
theorem dX12_lean_36 : decode cX12_lean 36 = .ok (.iload_n 2, 1) := by decide +kernel
theorem dX12_lean_37 : decode cX12_lean 37 = .ok (.imul, 1) := by decide +kernel
theorem dX12_lean_38 : decode cX12_lean 38 = .ok (.if_icmp .gt 27, 3) := by decide +kernel
theorem dX12_lean_41 : decode cX12_lean 41 = .ok (.iload_n 3, 1) := by decide +kernel
theorem dX12_lean_42 : decode cX12_lean 42 = .ok (.aload_n 0, 1) := by decide +kernel
theorem dX12_lean_43 : decode cX12_lean 43 = .ok (.iload_n 2, 1) := by decide +kernel
theorem dX12_lean_44 : decode cX12_lean 44 = .ok (.iload 4, 2) := by decide +kernel
theorem dX12_lean_46 : decode cX12_lean 46 = .ok (.iload_n 2, 1) := by decide +kernel
theorem dX12_lean_47 : decode cX12_lean 47 = .ok (.iconst 1, 1) := by decide +kernel
theorem dX12_lean_48 : decode cX12_lean 48 = .ok (.iadd, 1) := by decide +kernel
theorem dX12_lean_49 : decode cX12_lean 49 = .ok (.iload 4, 2) := by decide +kernel
theorem dX12_lean_51 : decode cX12_lean 51 = .ok (.bipush 29, 2) := by decide +kernel
theorem dX12_lean_53 : decode cX12_lean 53 = .ok (.iadd, 1) := by decide +kernel
theorem dX12_lean_54 : decode cX12_lean 54 = .ok (.invokevirtual 385, 3) := by decide +kernel
theorem dX12_lean_57 : decode cX12_lean 57 = .ok (.iadd, 1) := by decide +kernel
theorem dX12_lean_58 : decode cX12_lean 58 = .ok (.istore_n 3, 1) := by decide +kernel
theorem dX12_lean_59 : decode cX12_lean 59 = .ok (.iinc 4 1, 3) := by decide +kernel
theorem dX12_lean_62 : decode cX12_lean 62 = .ok (.goto (-30), 3) := by decide +kernel
theorem dX12_lean_65 : decode cX12_lean 65 = .ok (.iload_n 3, 1) := by decide +kernel
theorem dX12_lean_66 : decode cX12_lean 66 = .ok (.ireturn, 1) := by decide +kernel
set_option maxHeartbeats 4000000 in
set_option maxRecDepth 100000 in
theorem lp_sX12_lean {p : Program} {l : Launch} {e : Env} {R : Room} {s : State} {m : MethodId} {args : Array Value} {below : List Frame} {meth : Method} {c : Code} {Q : State → Prop} {A : Nat → Prop} {cells slots : Nat} {dC : Nat → ClassId} {dI : Nat → Nat → Nat} (h0 : Nat) (mi : Nat → Int32) (mr : Nat → Nat) (km : Nat → ClassId) (fm_must : Nat → Int32) (fm_least : Nat → Int32) (fm_pin : Nat → Int32) (fm_ways : Nat → Int32) (fm_verdict : Nat → Int32) (fm_row : Nat → Int32) (fm_struck : Nat → Int32) (fm_reportKnown : Nat → Int32) (fm_reportPlace : Nat → Int32) (fm_reportMonth : Nat → Int32) (fm_reportDay : Nat → Int32) (fm_reportKind : Nat → Int32) (fm_trust : Nat → Int32) (fm_letter : Nat → Int32) (fm_deedMonth : Nat → Int32) (fm_deedDay : Nat → Int32) (fm_deedLong : Nat → Int32) (fm_deedKind : Nat → Int32) (fm_kept : Nat → Int32) (fm_tape : Nat → Int32) (fm_official : Nat → Int32) (fm_aside : Nat → Int32) (fm_worth : Nat → Int32) (fm_out : Nat → Int32) (p1 : Int32) (p2 : Int32) (gmi_0 : gi (mi 0) 0 24) (gmi_1 : gi (mi 1) 0 5) (gmi_2 : gi (mi 2) 0 5) (gmi_4 : gi (mi 4) 0 1) (gmi_7 : gi (mi 7) 0 6) (gmi_10 : gi (mi 10) 0 24) (gmi_17 : gi (mi 17) 0 8) (gmi_23 : gi (mi 23) 0 300) (gmi_24 : gi (mi 24) 0 1) (gmi_26 : gi (mi 26) 0 1600) (gmi_29 : gi (mi 29) 0 1600) (gmi_30 : gi (mi 30) 0 1600) (gmi_33 : gi (mi 33) 0 1) (gmi_37 : gi (mi 37) 0 1) (gmi_41 : gi (mi 41) 0 24) (gmi_50 : gi (mi 50) 0 1) (gmi_51 : gi (mi 51) 0 1) (gmi_56 : gi (mi 56) 0 80) (gfm_row : ga fm_row 24 0 23) (gfm_struck : ga fm_struck 24 0 1) (gfm_reportKnown : ga fm_reportKnown 24 0 999) (gfm_reportPlace : ga fm_reportPlace 24 0 5) (gfm_reportMonth : ga fm_reportMonth 24 0 23) (gfm_reportDay : ga fm_reportDay 24 0 999) (hx : p.tables.exec = Jvm.exec) (hb : c.code = cX12_lean) (hml : c.maxLocals = 5) (hown : s.vm.findClass RX12 = some m.cls) (hts : ∀ w ∈ ((.code yX12_lean cX12_lean 5 (some .int) :: wsGB) : List Cond), w.before args s = true) (hK : va_K (dC, dI) vwCl (MT km) s) (hA : ∀ q : Nat, s.heap.size ≤ q → A q) (hRf : 5 ≤ R.frames) (hRl : 119 ≤ R.locals) (hRc : cells ≤ R.cells) (hRs : slots ≤ R.slots) (kr18 : ∀ (v : Int32) (w0_37 : Int32) (w0_41 : Int32) (z1 : Nat → Int32) (z2 : Nat → Int32) (z3 : Nat → Int32) (z4 : Nat → Int32) (z5 : Nat → Int32) (z6 : Nat → Int32) (H : Heap) (locs : List Loc) (ls : Array Slot), gi v (-2) (-2) → gi w0_37 0 1 → gi w0_41 0 24 → ga z6 24 0 23 → va_P (dC, dI) vwCl (MWn h0 mr km (mi 0) (mi 1) (mi 2) (mi 3) (mi 4) (mi 5) (mi 6) (mi 7) (mi 10) (mi 17) (mi 23) (mi 24) (mi 26) (mi 27) (mi 28) (mi 29) (mi 30) (mi 31) (mi 32) (mi 33) w0_37 w0_41 (mi 42) (mi 43) (mi 44) (mi 45) (mi 47) (mi 48) (mi 49) (mi 50) (mi 51) (mi 54) (mi 56) fm_trust fm_letter fm_reportPlace fm_reportKind fm_struck fm_reportMonth fm_reportDay fm_reportKnown fm_deedMonth fm_deedDay fm_deedLong fm_deedKind fm_kept fm_tape z1 z2 z3 z4 z5 z6 fm_official fm_aside fm_worth fm_out) H → va_D A (MWn h0 mr km (mi 0) (mi 1) (mi 2) (mi 3) (mi 4) (mi 5) (mi 6) (mi 7) (mi 10) (mi 17) (mi 23) (mi 24) (mi 26) (mi 27) (mi 28) (mi 29) (mi 30) (mi 31) (mi 32) (mi 33) w0_37 w0_41 (mi 42) (mi 43) (mi 44) (mi 45) (mi 47) (mi 48) (mi 49) (mi 50) (mi 51) (mi 54) (mi 56) fm_trust fm_letter fm_reportPlace fm_reportKind fm_struck fm_reportMonth fm_reportDay fm_reportKnown fm_deedMonth fm_deedDay fm_deedLong fm_deedKind fm_kept fm_tape z1 z2 z3 z4 z5 z6 fm_official fm_aside fm_worth fm_out) → va_S A s.heap H locs → lv_has ls 5 [] → W p l e R s m args below meth c H locs cells slots Q (F0 m 18 ls [.int v])) (kr66 : ∀ (v : Int32) (w0_37 : Int32) (w0_41 : Int32) (z1 : Nat → Int32) (z2 : Nat → Int32) (z3 : Nat → Int32) (z4 : Nat → Int32) (z5 : Nat → Int32) (z6 : Nat → Int32) (H : Heap) (locs : List Loc) (ls : Array Slot), gi w0_37 0 1 → gi w0_41 0 24 → ga z6 24 0 23 → va_P (dC, dI) vwCl (MWn h0 mr km (mi 0) (mi 1) (mi 2) (mi 3) (mi 4) (mi 5) (mi 6) (mi 7) (mi 10) (mi 17) (mi 23) (mi 24) (mi 26) (mi 27) (mi 28) (mi 29) (mi 30) (mi 31) (mi 32) (mi 33) w0_37 w0_41 (mi 42) (mi 43) (mi 44) (mi 45) (mi 47) (mi 48) (mi 49) (mi 50) (mi 51) (mi 54) (mi 56) fm_trust fm_letter fm_reportPlace fm_reportKind fm_struck fm_reportMonth fm_reportDay fm_reportKnown fm_deedMonth fm_deedDay fm_deedLong fm_deedKind fm_kept fm_tape z1 z2 z3 z4 z5 z6 fm_official fm_aside fm_worth fm_out) H → va_D A (MWn h0 mr km (mi 0) (mi 1) (mi 2) (mi 3) (mi 4) (mi 5) (mi 6) (mi 7) (mi 10) (mi 17) (mi 23) (mi 24) (mi 26) (mi 27) (mi 28) (mi 29) (mi 30) (mi 31) (mi 32) (mi 33) w0_37 w0_41 (mi 42) (mi 43) (mi 44) (mi 45) (mi 47) (mi 48) (mi 49) (mi 50) (mi 51) (mi 54) (mi 56) fm_trust fm_letter fm_reportPlace fm_reportKind fm_struck fm_reportMonth fm_reportDay fm_reportKnown fm_deedMonth fm_deedDay fm_deedLong fm_deedKind fm_kept fm_tape z1 z2 z3 z4 z5 z6 fm_official fm_aside fm_worth fm_out) → va_S A s.heap H locs → lv_has ls 5 [] → W p l e R s m args below meth c H locs cells slots Q (F0 m 66 ls [.int v])) : ∀ z : Nat, (∀ (v3 : Int32) (v4 : Int32) (w0_37 : Int32) (w0_41 : Int32) (z1 : Nat → Int32) (z2 : Nat → Int32) (z3 : Nat → Int32) (z4 : Nat → Int32) (z5 : Nat → Int32) (z6 : Nat → Int32) (H : Heap) (locs : List Loc) (ls : Array Slot), gi p1 0 999 → gi p2 0 23 → gi v4 0 999 → gi w0_37 0 1 → gi w0_41 0 24 → ga z6 24 0 23 → 1999 + (-2) * v4.toInt < (z : Int) → va_P (dC, dI) vwCl (MWn h0 mr km (mi 0) (mi 1) (mi 2) (mi 3) (mi 4) (mi 5) (mi 6) (mi 7) (mi 10) (mi 17) (mi 23) (mi 24) (mi 26) (mi 27) (mi 28) (mi 29) (mi 30) (mi 31) (mi 32) (mi 33) w0_37 w0_41 (mi 42) (mi 43) (mi 44) (mi 45) (mi 47) (mi 48) (mi 49) (mi 50) (mi 51) (mi 54) (mi 56) fm_trust fm_letter fm_reportPlace fm_reportKind fm_struck fm_reportMonth fm_reportDay fm_reportKnown fm_deedMonth fm_deedDay fm_deedLong fm_deedKind fm_kept fm_tape z1 z2 z3 z4 z5 z6 fm_official fm_aside fm_worth fm_out) H → va_D A (MWn h0 mr km (mi 0) (mi 1) (mi 2) (mi 3) (mi 4) (mi 5) (mi 6) (mi 7) (mi 10) (mi 17) (mi 23) (mi 24) (mi 26) (mi 27) (mi 28) (mi 29) (mi 30) (mi 31) (mi 32) (mi 33) w0_37 w0_41 (mi 42) (mi 43) (mi 44) (mi 45) (mi 47) (mi 48) (mi 49) (mi 50) (mi 51) (mi 54) (mi 56) fm_trust fm_letter fm_reportPlace fm_reportKind fm_struck fm_reportMonth fm_reportDay fm_reportKnown fm_deedMonth fm_deedDay fm_deedLong fm_deedKind fm_kept fm_tape z1 z2 z3 z4 z5 z6 fm_official fm_aside fm_worth fm_out) → va_S A s.heap H locs → lv_has ls 5 [(0, .ref h0), (1, .int p1), (2, .int p2), (3, .int v3), (4, .int v4)] → W p l e R s m args below meth c H locs cells slots Q (F0 m 32 ls [])) := by
  intro z
  induction z with
  | zero =>
    intro v3 v4 w0_37 w0_41 z1 z2 z3 z4 z5 z6 H locs ls gf_p1 gf_p2 gv4 gw0_37 gw0_41 gz6 hmu hP hD hS hl
    exact absurd hmu (by have hv41 := gv4.1; have hv42 := gv4.2; omega)
  | succ z ih =>
      intro v3 v4 w0_37 w0_41 z1 z2 z3 z4 z5 z6 H locs ls gf_p1 gf_p2 gv4 gw0_37 gw0_41 gz6 hmu hP hD hS hl
      refine lv_iload hx hb dX12_lean_32 (lv_at hl 4 rfl) ?_
      refine lv_bipush (v := 30) hx hb dX12_lean_34 (by decide) ?_
      refine lv_iload_n hx hb dX12_lean_36 rfl (lv_at hl 2 rfl) ?_
      refine lv_imul hx hb dX12_lean_37 ?_
      refine lv_topi (fun x_63 ex_63 => ?_)
      have gx_63 : gi x_63 0 690 := gi_mul ex_63 (gi_c 30 30 (by decide)) gf_p2 (by decide)
      refine lv_icmp_gt (tgt := 65) hx hb dX12_lean_38 (by decide) (fun c_64 => ?_) (fun c_64 => ?_)
      · have g_65 : gi v4 1 999 := gi_lt_r c_64 gx_63 gv4 (by decide)
        refine lv_iload_n hx hb dX12_lean_65 rfl (lv_at hl 3 rfl) ?_
        exact kr66 v3 w0_37 w0_41 z1 z2 z3 z4 z5 z6 _ _ _ gw0_37 gw0_41 gz6 hP hD hS (lv_sub hl [] rfl)
      · have g_66 : gi v4 0 690 := gi_le_l (Int32.not_lt.mp c_64) gv4 gx_63
        refine lv_iload_n hx hb dX12_lean_41 rfl (lv_at hl 3 rfl) ?_
        refine lv_aload_n hx hb dX12_lean_42 rfl (lv_at hl 0 rfl) ?_
        refine lv_iload_n hx hb dX12_lean_43 rfl (lv_at hl 2 rfl) ?_
        refine lv_iload hx hb dX12_lean_44 (lv_at hl 4 rfl) ?_
        refine lv_iload_n hx hb dX12_lean_46 rfl (lv_at hl 2 rfl) ?_
        refine lv_iconst (v := 1) hx hb dX12_lean_47 (by decide) ?_
        refine lv_iadd hx hb dX12_lean_48 ?_
        refine lv_topi (fun x_67 ex_67 => ?_)
        have gx_67 : gi x_67 1 24 := gi_add ex_67 gf_p2 (gi_c 1 1 (by decide)) (by decide)
        refine lv_iload hx hb dX12_lean_49 (lv_at hl 4 rfl) ?_
        refine lv_bipush (v := 29) hx hb dX12_lean_51 (by decide) ?_
        refine lv_iadd hx hb dX12_lean_53 ?_
        refine lv_topi (fun x_68 ex_68 => ?_)
        have gx_68 : gi x_68 29 719 := gi_add ex_68 g_66 (gi_c 29 29 (by decide)) (by decide)
        have hFc := gz_fullF hD hS hA
        refine va_calli (va_runV (As := [.int p2, .int v4, .int x_67, .int x_68]) (rest := [.int v3]) ⟨hx, hb, hml, hown, hts⟩ (sX12_countsWith l dC dI H.size h0 (upd (upd mi 37 w0_37) 41 w0_41) mr km z1 z2 z3 z4 fm_trust fm_letter fm_reportPlace fm_reportKind fm_struck fm_reportMonth fm_reportDay fm_reportKnown fm_deedMonth fm_deedDay fm_deedLong fm_deedKind fm_kept fm_tape z5 z6 fm_official fm_aside fm_worth fm_out p2 v4 x_67 x_68 gmi_0 gmi_1 gmi_2 gmi_4 gmi_7 gmi_10 gmi_17 gmi_23 gmi_24 gmi_26 gmi_29 gmi_30 gmi_33 gw0_37 gw0_41 gmi_50 gmi_51 gmi_56 (gi_w gf_p2 (by decide)) (gi_w gx_67 (by decide))) (cwV 4 hts (gz_gV mGB_377 mGB_378 mGB_379 mGB_1 mGB_380 goodGB) rfl rfl rfl (by decide +kernel) ⟨Nat.le_trans (Nat.le_of_ble_eq_true rfl) hRf, Nat.le_trans (Nat.le_of_ble_eq_true rfl) hRl⟩) ⟨bl_W, mw_recv hK hP, fun U hU hW => ⟨rfl, by rw [hU], by rw [hU]; exact hP, va_K.moved hW.alike hK, hD.weaken (fun _ _ _ _ => trivial)⟩⟩ rfl rfl hl.1 rfl (lv_room (Nat.le_of_ble_eq_true rfl)) dX12_lean_54 ⟨hRc, hRs⟩) hS (fun q _ h => hFc q h) hFc (fun r_69 u t H1 locs ht hvm hw hB hz1 hk1 hS => ?_)
        obtain ⟨f_70, f_71, hB⟩ := hB
        obtain ⟨hP1, hD1⟩ := hB
        rw [ht] at hP1
        have hD : va_D A (MWn h0 mr km (mi 0) (mi 1) (mi 2) (mi 3) (mi 4) (mi 5) (mi 6) (mi 7) (mi 10) (mi 17) (mi 23) (mi 24) (mi 26) (mi 27) (mi 28) (mi 29) (mi 30) (mi 31) (mi 32) (mi 33) w0_37 w0_41 (mi 42) (mi 43) (mi 44) (mi 45) (mi 47) (mi 48) (mi 49) (mi 50) (mi 51) (mi 54) (mi 56) fm_trust fm_letter fm_reportPlace fm_reportKind fm_struck fm_reportMonth fm_reportDay fm_reportKnown fm_deedMonth fm_deedDay fm_deedLong fm_deedKind fm_kept fm_tape z1 z2 f_70 f_71 z5 z6 fm_official fm_aside fm_worth fm_out) := gz_fullD hFc hD1
        have hP : va_P (dC, dI) vwCl (MWn h0 mr km (mi 0) (mi 1) (mi 2) (mi 3) (mi 4) (mi 5) (mi 6) (mi 7) (mi 10) (mi 17) (mi 23) (mi 24) (mi 26) (mi 27) (mi 28) (mi 29) (mi 30) (mi 31) (mi 32) (mi 33) w0_37 w0_41 (mi 42) (mi 43) (mi 44) (mi 45) (mi 47) (mi 48) (mi 49) (mi 50) (mi 51) (mi 54) (mi 56) fm_trust fm_letter fm_reportPlace fm_reportKind fm_struck fm_reportMonth fm_reportDay fm_reportKnown fm_deedMonth fm_deedDay fm_deedLong fm_deedKind fm_kept fm_tape z1 z2 f_70 f_71 z5 z6 fm_official fm_aside fm_worth fm_out) H1 := hP1
        generalize H1 = H at hP hS ⊢
        refine lv_iadd hx hb dX12_lean_57 ?_
        refine lv_topi (fun x_72 ex_72 => ?_)
        refine lv_istore_n (lv' := [(3, .int x_72), (0, .ref h0), (1, .int p1), (2, .int p2), (4, .int v4)]) hx hb dX12_lean_58 rfl hl (by decide) rfl (fun ls hl => ?_)
        obtain ⟨x_73, ex_73⟩ : ∃ y : Int32, y = v4 + 1 := ⟨_, rfl⟩
        have gx_73 : gi x_73 1 691 := gi_add ex_73 g_66 (gi_c 1 1 (by decide)) (by decide)
        refine lv_iinc (v := x_73) (lv' := [(4, .int x_73), (3, .int x_72), (0, .ref h0), (1, .int p1), (2, .int p2)]) hx hb dX12_lean_59 hl (k := 4) rfl (by rw [ex_73]; rfl) (by decide) rfl (fun ls hl => ?_)
        refine lv_goto (tgt := 32) hx hb dX12_lean_62 (by decide) ?_
        exact ih x_72 x_73 w0_37 w0_41 z1 z2 f_70 f_71 z5 z6 _ _ _ gf_p1 gf_p2 (gi_w gx_73 (by decide)) gw0_37 gw0_41 gz6 (by have av4 := gv4.1; have bv4 := gv4.2; have qgx_73 := gx_73.1; have rgx_73 := gx_73.2; have igx_73 : x_73.toInt = v4.toInt + 1 := (by have hc1 : (1 : Int32).toInt = 1 := (by decide); have h9 := gi_addI ex_73 (by have h1 := g_66.1; have h2 := (gi_c 1 1 (by decide)).1; have h3 := g_66.2; have h4 := (gi_c 1 1 (by decide)).2; omega) (by have h1 := g_66.1; have h2 := (gi_c 1 1 (by decide)).1; have h3 := g_66.2; have h4 := (gi_c 1 1 (by decide)).2; omega); rw [hc1] at h9; exact h9); have qgv4 := g_66.1; have rgv4 := g_66.2; omega) hP hD hS (lv_sub hl [2, 3, 4, 1, 0] rfl)
abbrev pb_sX12_lean (dC : Nat → ClassId) (dI : Nat → Nat → Nat) (A9 : Nat → Prop) (h0 : Nat) (mi : Nat → Int32) (mr : Nat → Nat) (km : Nat → ClassId) (fm_must : Nat → Int32) (fm_least : Nat → Int32) (fm_pin : Nat → Int32) (fm_ways : Nat → Int32) (fm_verdict : Nat → Int32) (fm_row : Nat → Int32) (fm_struck : Nat → Int32) (fm_reportKnown : Nat → Int32) (fm_reportPlace : Nat → Int32) (fm_reportMonth : Nat → Int32) (fm_reportDay : Nat → Int32) (fm_reportKind : Nat → Int32) (fm_trust : Nat → Int32) (fm_letter : Nat → Int32) (fm_deedMonth : Nat → Int32) (fm_deedDay : Nat → Int32) (fm_deedLong : Nat → Int32) (fm_deedKind : Nat → Int32) (fm_kept : Nat → Int32) (fm_tape : Nat → Int32) (fm_official : Nat → Int32) (fm_aside : Nat → Int32) (fm_worth : Nat → Int32) (fm_out : Nat → Int32) (p1 : Int32) (p2 : Int32) (w0_37 : Int32) (w0_41 : Int32) (z1 : Nat → Int32) (z2 : Nat → Int32) (z3 : Nat → Int32) (z4 : Nat → Int32) (z5 : Nat → Int32) (z6 : Nat → Int32) (t : State) : Prop := gi w0_37 0 1 ∧ gi w0_41 0 24 ∧ ga z6 24 0 23 ∧ va_P (dC, dI) vwCl (MWn h0 mr km (mi 0) (mi 1) (mi 2) (mi 3) (mi 4) (mi 5) (mi 6) (mi 7) (mi 10) (mi 17) (mi 23) (mi 24) (mi 26) (mi 27) (mi 28) (mi 29) (mi 30) (mi 31) (mi 32) (mi 33) w0_37 w0_41 (mi 42) (mi 43) (mi 44) (mi 45) (mi 47) (mi 48) (mi 49) (mi 50) (mi 51) (mi 54) (mi 56) fm_trust fm_letter fm_reportPlace fm_reportKind fm_struck fm_reportMonth fm_reportDay fm_reportKnown fm_deedMonth fm_deedDay fm_deedLong fm_deedKind fm_kept fm_tape z1 z2 z3 z4 z5 z6 fm_official fm_aside fm_worth fm_out) t.heap ∧ va_D A9 (MWn h0 mr km (mi 0) (mi 1) (mi 2) (mi 3) (mi 4) (mi 5) (mi 6) (mi 7) (mi 10) (mi 17) (mi 23) (mi 24) (mi 26) (mi 27) (mi 28) (mi 29) (mi 30) (mi 31) (mi 32) (mi 33) w0_37 w0_41 (mi 42) (mi 43) (mi 44) (mi 45) (mi 47) (mi 48) (mi 49) (mi 50) (mi 51) (mi 54) (mi 56) fm_trust fm_letter fm_reportPlace fm_reportKind fm_struck fm_reportMonth fm_reportDay fm_reportKnown fm_deedMonth fm_deedDay fm_deedLong fm_deedKind fm_kept fm_tape z1 z2 z3 z4 z5 z6 fm_official fm_aside fm_worth fm_out)
set_option maxHeartbeats 4000000 in
set_option maxRecDepth 100000 in
theorem sX12_lean (l : Launch) (dC : Nat → ClassId) (dI : Nat → Nat → Nat) (sz : Nat) (h0 : Nat) (mi : Nat → Int32) (mr : Nat → Nat) (km : Nat → ClassId) (fm_must : Nat → Int32) (fm_least : Nat → Int32) (fm_pin : Nat → Int32) (fm_ways : Nat → Int32) (fm_verdict : Nat → Int32) (fm_row : Nat → Int32) (fm_struck : Nat → Int32) (fm_reportKnown : Nat → Int32) (fm_reportPlace : Nat → Int32) (fm_reportMonth : Nat → Int32) (fm_reportDay : Nat → Int32) (fm_reportKind : Nat → Int32) (fm_trust : Nat → Int32) (fm_letter : Nat → Int32) (fm_deedMonth : Nat → Int32) (fm_deedDay : Nat → Int32) (fm_deedLong : Nat → Int32) (fm_deedKind : Nat → Int32) (fm_kept : Nat → Int32) (fm_tape : Nat → Int32) (fm_official : Nat → Int32) (fm_aside : Nat → Int32) (fm_worth : Nat → Int32) (fm_out : Nat → Int32) (p1 : Int32) (p2 : Int32) (gmi_0 : gi (mi 0) 0 24) (gmi_1 : gi (mi 1) 0 5) (gmi_2 : gi (mi 2) 0 5) (gmi_4 : gi (mi 4) 0 1) (gmi_7 : gi (mi 7) 0 6) (gmi_10 : gi (mi 10) 0 24) (gmi_17 : gi (mi 17) 0 8) (gmi_23 : gi (mi 23) 0 300) (gmi_24 : gi (mi 24) 0 1) (gmi_26 : gi (mi 26) 0 1600) (gmi_29 : gi (mi 29) 0 1600) (gmi_30 : gi (mi 30) 0 1600) (gmi_33 : gi (mi 33) 0 1) (gmi_37 : gi (mi 37) 0 1) (gmi_41 : gi (mi 41) 0 24) (gmi_50 : gi (mi 50) 0 1) (gmi_51 : gi (mi 51) 0 1) (gmi_56 : gi (mi 56) 0 80) (gfm_row : ga fm_row 24 0 23) (gfm_struck : ga fm_struck 24 0 1) (gfm_reportKnown : ga fm_reportKnown 24 0 999) (gfm_reportPlace : ga fm_reportPlace 24 0 5) (gfm_reportMonth : ga fm_reportMonth 24 0 23) (gfm_reportDay : ga fm_reportDay 24 0 999) : Met l yX12_lean (.code yX12_lean cX12_lean 5 (some .int) :: wsGB) ({ frames := 5, cells := 0, slots := 0, locals := 119 }) (va_Pc [.ref h0, .int p1, .int p2] (fun U => U.heap.size = sz ∧ va_P (dC, dI) vwCl (MWn h0 mr km (mi 0) (mi 1) (mi 2) (mi 3) (mi 4) (mi 5) (mi 6) (mi 7) (mi 10) (mi 17) (mi 23) (mi 24) (mi 26) (mi 27) (mi 28) (mi 29) (mi 30) (mi 31) (mi 32) (mi 33) (mi 37) (mi 41) (mi 42) (mi 43) (mi 44) (mi 45) (mi 47) (mi 48) (mi 49) (mi 50) (mi 51) (mi 54) (mi 56) fm_trust fm_letter fm_reportPlace fm_reportKind fm_struck fm_reportMonth fm_reportDay fm_reportKnown fm_deedMonth fm_deedDay fm_deedLong fm_deedKind fm_kept fm_tape fm_must fm_least fm_pin fm_ways fm_verdict fm_row fm_official fm_aside fm_worth fm_out) U.heap ∧ va_K (dC, dI) vwCl (MT km) U ∧ va_D (fun _ => True) (MWn h0 mr km (mi 0) (mi 1) (mi 2) (mi 3) (mi 4) (mi 5) (mi 6) (mi 7) (mi 10) (mi 17) (mi 23) (mi 24) (mi 26) (mi 27) (mi 28) (mi 29) (mi 30) (mi 31) (mi 32) (mi 33) (mi 37) (mi 41) (mi 42) (mi 43) (mi 44) (mi 45) (mi 47) (mi 48) (mi 49) (mi 50) (mi 51) (mi 54) (mi 56) fm_trust fm_letter fm_reportPlace fm_reportKind fm_struck fm_reportMonth fm_reportDay fm_reportKnown fm_deedMonth fm_deedDay fm_deedLong fm_deedKind fm_kept fm_tape fm_must fm_least fm_pin fm_ways fm_verdict fm_row fm_official fm_aside fm_worth fm_out))) (va_Qi (fun (r : Int32) (u : Unit) => gi r (-2147483648) 2147483647) (fun _ t => ∃ (w0_37 : Int32) (w0_41 : Int32) (z1 : Nat → Int32) (z2 : Nat → Int32) (z3 : Nat → Int32) (z4 : Nat → Int32) (z5 : Nat → Int32) (z6 : Nat → Int32), pb_sX12_lean dC dI (va_A (MWn h0 mr km (mi 0) (mi 1) (mi 2) (mi 3) (mi 4) (mi 5) (mi 6) (mi 7) (mi 10) (mi 17) (mi 23) (mi 24) (mi 26) (mi 27) (mi 28) (mi 29) (mi 30) (mi 31) (mi 32) (mi 33) (mi 37) (mi 41) (mi 42) (mi 43) (mi 44) (mi 45) (mi 47) (mi 48) (mi 49) (mi 50) (mi 51) (mi 54) (mi 56) fm_trust fm_letter fm_reportPlace fm_reportKind fm_struck fm_reportMonth fm_reportDay fm_reportKnown fm_deedMonth fm_deedDay fm_deedLong fm_deedKind fm_kept fm_tape fm_must fm_least fm_pin fm_ways fm_verdict fm_row fm_official fm_aside fm_worth fm_out) sz) h0 mi mr km fm_must fm_least fm_pin fm_ways fm_verdict fm_row fm_struck fm_reportKnown fm_reportPlace fm_reportMonth fm_reportDay fm_reportKind fm_trust fm_letter fm_deedMonth fm_deedDay fm_deedLong fm_deedKind fm_kept fm_tape fm_official fm_aside fm_worth fm_out p1 p2 w0_37 w0_41 z1 z2 z3 z4 z5 z6 t) (va_A (MWn h0 mr km (mi 0) (mi 1) (mi 2) (mi 3) (mi 4) (mi 5) (mi 6) (mi 7) (mi 10) (mi 17) (mi 23) (mi 24) (mi 26) (mi 27) (mi 28) (mi 29) (mi 30) (mi 31) (mi 32) (mi 33) (mi 37) (mi 41) (mi 42) (mi 43) (mi 44) (mi 45) (mi 47) (mi 48) (mi 49) (mi 50) (mi 51) (mi 54) (mi 56) fm_trust fm_letter fm_reportPlace fm_reportKind fm_struck fm_reportMonth fm_reportDay fm_reportKnown fm_deedMonth fm_deedDay fm_deedLong fm_deedKind fm_kept fm_tape fm_must fm_least fm_pin fm_ways fm_verdict fm_row fm_official fm_aside fm_worth fm_out) sz)) 0 0 (va_A (MWn h0 mr km (mi 0) (mi 1) (mi 2) (mi 3) (mi 4) (mi 5) (mi 6) (mi 7) (mi 10) (mi 17) (mi 23) (mi 24) (mi 26) (mi 27) (mi 28) (mi 29) (mi 30) (mi 31) (mi 32) (mi 33) (mi 37) (mi 41) (mi 42) (mi 43) (mi 44) (mi 45) (mi 47) (mi 48) (mi 49) (mi 50) (mi 51) (mi 54) (mi 56) fm_trust fm_letter fm_reportPlace fm_reportKind fm_struck fm_reportMonth fm_reportDay fm_reportKnown fm_deedMonth fm_deedDay fm_deedLong fm_deedKind fm_kept fm_tape fm_must fm_least fm_pin fm_ways fm_verdict fm_row fm_official fm_aside fm_worth fm_out) sz) := by
  refine Met.ofW (cc := cX12_lean) (maxL := 5) (ret := (some .int)) (by decide) rfl ?_
  intro p e s m args below meth c s₁ B hml hv
  obtain ⟨rfl, hsz, hP, hK, hD0⟩ := hv
  have hx := B.exec
  have hb := B.bytes
  have hr := B.returns
  have hts := atoms_spec (ws := (.code yX12_lean cX12_lean 5 (some .int) :: wsGB)) B.pre
  have hown : s.vm.findClass RX12 = some m.cls := findClass_of_methodNamed B.named
  have hlocks := B.notSynchronized
  subst hsz
  have hD := hD0.self (sz := s.heap.size)
  generalize hAe : va_A (MWn h0 mr km (mi 0) (mi 1) (mi 2) (mi 3) (mi 4) (mi 5) (mi 6) (mi 7) (mi 10) (mi 17) (mi 23) (mi 24) (mi 26) (mi 27) (mi 28) (mi 29) (mi 30) (mi 31) (mi 32) (mi 33) (mi 37) (mi 41) (mi 42) (mi 43) (mi 44) (mi 45) (mi 47) (mi 48) (mi 49) (mi 50) (mi 51) (mi 54) (mi 56) fm_trust fm_letter fm_reportPlace fm_reportKind fm_struck fm_reportMonth fm_reportDay fm_reportKnown fm_deedMonth fm_deedDay fm_deedLong fm_deedKind fm_kept fm_tape fm_must fm_least fm_pin fm_ways fm_verdict fm_row fm_official fm_aside fm_worth fm_out) s.heap.size = A at hD ⊢
  have hA : ∀ q : Nat, s.heap.size ≤ q → A q := fun q h => by rw [← hAe]; exact Or.inr h
  have hS : va_S A s.heap s.heap [] := va_S.rf
  have hl := lv_entry ([.ref h0, .int p1, .int p2]) (n := 5) (Nat.le_of_ble_eq_true rfl)
  rw [lg_entry_eq]
  generalize (lg_sl ([.ref h0, .int p1, .int p2]) ++ List.replicate (5 - (lg_sl ([.ref h0, .int p1, .int p2])).length) Slot.unset).toArray = ls at hl ⊢
  have hl : lv_has ls 5 [(0, .ref h0), (1, .int p1), (2, .int p2)] := hl
  refine lv_aload_n hx hb dX12_lean_0 rfl (lv_at hl 0 rfl) ?_
  refine lv_iload_n hx hb dX12_lean_1 rfl (lv_at hl 1 rfl) ?_
  refine va_calli (va_runV (As := [.int p1]) (rest := []) ⟨hx, hb, hml, hown, hts⟩ (sX12_isTime l dC dI h0 mi mr km fm_trust fm_letter fm_reportPlace fm_reportKind fm_struck fm_reportMonth fm_reportDay fm_reportKnown fm_deedMonth fm_deedDay fm_deedLong fm_deedKind fm_kept fm_tape fm_must fm_least fm_pin fm_ways fm_verdict fm_row fm_official fm_aside fm_worth fm_out p1 gmi_0 gmi_1 gmi_2 gmi_4 gmi_7 gmi_10 gmi_17 gmi_23 gmi_24 gmi_26 gmi_29 gmi_30 gmi_33 gmi_37 gmi_41 gmi_50 gmi_51 gmi_56) (cwV 1 hts (gz_gV mGB_256 mGB_257 mGB_258 mGB_1 mGB_259 goodGB) rfl rfl rfl (by decide +kernel) ⟨Nat.le_of_ble_eq_true rfl, Nat.le_of_ble_eq_true rfl⟩) ⟨bl_R, mw_recv hK hP, fun U hU hW => ⟨rfl, by rw [hU]; exact hP, va_K.moved hW.alike hK⟩⟩ rfl rfl hl.1 rfl (lv_room (Nat.le_of_ble_eq_true rfl)) dX12_lean_2 ⟨Nat.zero_le _, Nat.zero_le _⟩) hS (fun q _ h => h.elim) (fun q h => h.elim) (fun r_74 u t H1 locs ht hvm hw hB hz1 hk1 hS => ?_)
  obtain ⟨hw, hE⟩ := hw
  have hP := gz_keep hP hk1
  generalize H1 = H at hP hS ⊢
  have gr_74 : gi r_74 0 1 := hw.1
  have hqr_74 := hw.2
  refine lv_if_eq (tgt := 16) hx hb dX12_lean_5 (by decide) (fun c_75 => ?_) (fun c_75 => ?_)
  · have g_76 : gi r_74 0 0 := gi_eq c_75 (gi_c 0 0 (by decide))
    refine lv_bipush (v := (-2)) hx hb dX12_lean_16 (by decide) ?_
    exact W.iret (v := (-2)) hx hb hr (fun t ht hW => ⟨⟨(-2), (), rfl, (gi_any (-2)), (mi 37), (mi 41), fm_must, fm_least, fm_pin, fm_ways, fm_verdict, fm_row, gmi_37, gmi_41, gfm_row, by rw [ht]; exact hP, hD⟩, hS.F ht⟩) hS.2.2 dX12_lean_18
  · have g_77 : gi r_74 1 1 := gi_ne_lo c_75 gr_74 (gi_c 0 0 (by decide)) (by decide)
    have g_78 : gi p1 0 999 := gi_cap (gi_any p1) (hqr_74 (gz_one g_77)) (by decide)
    refine lv_aload_n hx hb dX12_lean_8 rfl (lv_at hl 0 rfl) ?_
    refine lv_iload_n hx hb dX12_lean_9 rfl (lv_at hl 2 rfl) ?_
    refine va_calli (va_runV (As := [.int p2]) (rest := []) ⟨hx, hb, hml, hown, hts⟩ (sX12_isMonth l dC dI h0 mi mr km fm_trust fm_letter fm_reportPlace fm_reportKind fm_struck fm_reportMonth fm_reportDay fm_reportKnown fm_deedMonth fm_deedDay fm_deedLong fm_deedKind fm_kept fm_tape fm_must fm_least fm_pin fm_ways fm_verdict fm_row fm_official fm_aside fm_worth fm_out p2 gmi_0 gmi_1 gmi_2 gmi_4 gmi_7 gmi_10 gmi_17 gmi_23 gmi_24 gmi_26 gmi_29 gmi_30 gmi_33 gmi_37 gmi_41 gmi_50 gmi_51 gmi_56) (cwV 1 hts (gz_gV mGB_387 mGB_388 mGB_389 mGB_1 mGB_390 goodGB) rfl rfl rfl (by decide +kernel) ⟨Nat.le_of_ble_eq_true rfl, Nat.le_of_ble_eq_true rfl⟩) ⟨bl_R, mw_recv hK hP, fun U hU hW => ⟨rfl, by rw [hU]; exact hP, va_K.moved hW.alike hK⟩⟩ rfl rfl hl.1 rfl (lv_room (Nat.le_of_ble_eq_true rfl)) dX12_lean_10 ⟨Nat.zero_le _, Nat.zero_le _⟩) hS (fun q _ h => h.elim) (fun q h => h.elim) (fun r_79 u t H1 locs ht hvm hw hB hz1 hk1 hS => ?_)
    have hP := gz_keep hP hk1
    generalize H1 = H at hP hS ⊢
    have gr_79 : gi r_79 0 1 := hw.1
    have hqr_79 := hw.2
    refine lv_if_ne (tgt := 19) hx hb dX12_lean_13 (by decide) (fun c_80 => ?_) (fun c_80 => ?_)
    · have g_81 : gi r_79 1 1 := gi_ne_lo c_80 gr_79 (gi_c 0 0 (by decide)) (by decide)
      have g_82 : gi p2 0 23 := gi_cap (gi_any p2) (hqr_79 (gz_one g_81)) (by decide)
      refine lv_aload_n hx hb dX12_lean_19 rfl (lv_at hl 0 rfl) ?_
      refine lv_iload_n hx hb dX12_lean_20 rfl (lv_at hl 1 rfl) ?_
      have hFc := gz_fullF hD hS hA
      refine va_callv (va_runV (As := [.int p1]) (rest := []) ⟨hx, hb, hml, hown, hts⟩ (sX12_judgesAll l dC dI H.size h0 mi mr km fm_must fm_least fm_pin fm_ways fm_verdict fm_row fm_struck fm_reportKnown fm_reportPlace fm_reportMonth fm_reportDay fm_reportKind fm_trust fm_letter fm_deedMonth fm_deedDay fm_deedLong fm_deedKind fm_kept fm_tape fm_official fm_aside fm_worth fm_out p1 gmi_0 gmi_1 gmi_2 gmi_4 gmi_7 gmi_10 gmi_17 gmi_23 gmi_24 gmi_26 gmi_29 gmi_30 gmi_33 gmi_37 gmi_41 gmi_50 gmi_51 gmi_56 gfm_row gfm_struck gfm_reportKnown gfm_reportPlace gfm_reportMonth gfm_reportDay) (cwV 1 hts (gz_gV mGB_261 mGB_262 mGB_263 mGB_1 mGB_264 goodGB) rfl rfl rfl (by decide +kernel) ⟨Nat.le_of_ble_eq_true rfl, Nat.le_of_ble_eq_true rfl⟩) ⟨bl_W, mw_recv hK hP, fun U hU hW => ⟨rfl, by rw [hU], by rw [hU]; exact hP, va_K.moved hW.alike hK, hD.weaken (fun _ _ _ _ => trivial)⟩⟩ rfl rfl hl.1 rfl (lv_room (Nat.le_of_ble_eq_true rfl)) dX12_lean_21 ⟨Nat.zero_le _, Nat.zero_le _⟩) hS (fun q _ h => hFc q h) hFc (fun u t H1 locs ht hvm hw hB hz1 hk1 hS => ?_)
      obtain ⟨y_84, y_85, f_86, f_87, f_88, f_89, f_90, f_91, hB⟩ := hB
      obtain ⟨gy_84, gy_85, gf_91, hP1, hD1⟩ := hB
      rw [ht] at hP1
      have hD : va_D A (MWn h0 mr km (mi 0) (mi 1) (mi 2) (mi 3) (mi 4) (mi 5) (mi 6) (mi 7) (mi 10) (mi 17) (mi 23) (mi 24) (mi 26) (mi 27) (mi 28) (mi 29) (mi 30) (mi 31) (mi 32) (mi 33) y_84 y_85 (mi 42) (mi 43) (mi 44) (mi 45) (mi 47) (mi 48) (mi 49) (mi 50) (mi 51) (mi 54) (mi 56) fm_trust fm_letter fm_reportPlace fm_reportKind fm_struck fm_reportMonth fm_reportDay fm_reportKnown fm_deedMonth fm_deedDay fm_deedLong fm_deedKind fm_kept fm_tape f_86 f_87 f_88 f_89 f_90 f_91 fm_official fm_aside fm_worth fm_out) := gz_fullD hFc hD1
      have hP : va_P (dC, dI) vwCl (MWn h0 mr km (mi 0) (mi 1) (mi 2) (mi 3) (mi 4) (mi 5) (mi 6) (mi 7) (mi 10) (mi 17) (mi 23) (mi 24) (mi 26) (mi 27) (mi 28) (mi 29) (mi 30) (mi 31) (mi 32) (mi 33) y_84 y_85 (mi 42) (mi 43) (mi 44) (mi 45) (mi 47) (mi 48) (mi 49) (mi 50) (mi 51) (mi 54) (mi 56) fm_trust fm_letter fm_reportPlace fm_reportKind fm_struck fm_reportMonth fm_reportDay fm_reportKnown fm_deedMonth fm_deedDay fm_deedLong fm_deedKind fm_kept fm_tape f_86 f_87 f_88 f_89 f_90 f_91 fm_official fm_aside fm_worth fm_out) H1 := hP1
      generalize H1 = H at hP hS ⊢
      refine lv_iconst (v := 0) hx hb dX12_lean_24 (by decide) ?_
      refine lv_istore_n (lv' := [(3, .int 0), (0, .ref h0), (1, .int p1), (2, .int p2)]) hx hb dX12_lean_25 rfl hl (by decide) rfl (fun ls hl => ?_)
      refine lv_bipush (v := 29) hx hb dX12_lean_26 (by decide) ?_
      refine lv_iload_n hx hb dX12_lean_28 rfl (lv_at hl 3 rfl) ?_
      refine lv_imul hx hb dX12_lean_29 ?_
      refine lv_topi (fun x_92 ex_92 => ?_)
      have gx_92 : gi x_92 0 667 := gi_mul ex_92 (gi_c 29 29 (by decide)) g_82 (by decide)
      refine lv_istore (lv' := [(4, .int x_92), (3, .int 0), (0, .ref h0), (1, .int p1), (2, .int p2)]) hx hb dX12_lean_30 hl (by decide) rfl (fun ls hl => ?_)
      refine (lp_sX12_lean h0 mi mr km fm_must fm_least fm_pin fm_ways fm_verdict fm_row fm_struck fm_reportKnown fm_reportPlace fm_reportMonth fm_reportDay fm_reportKind fm_trust fm_letter fm_deedMonth fm_deedDay fm_deedLong fm_deedKind fm_kept fm_tape fm_official fm_aside fm_worth fm_out p1 p2 gmi_0 gmi_1 gmi_2 gmi_4 gmi_7 gmi_10 gmi_17 gmi_23 gmi_24 gmi_26 gmi_29 gmi_30 gmi_33 gmi_37 gmi_41 gmi_50 gmi_51 gmi_56 gfm_row gfm_struck gfm_reportKnown gfm_reportPlace gfm_reportMonth gfm_reportDay hx hb hml hown hts hK hA (Nat.le_of_ble_eq_true rfl) (Nat.le_of_ble_eq_true rfl) (Nat.zero_le _) (Nat.zero_le _) (fun v w0_37 w0_41 z1 z2 z3 z4 z5 z6 H locs ls gv gw0_37 gw0_41 gz6 hP hD hS hl => ?_) (fun v w0_37 w0_41 z1 z2 z3 z4 z5 z6 H locs ls gw0_37 gw0_41 gz6 hP hD hS hl => ?_) 2012) 0 x_92 y_84 y_85 f_86 f_87 f_88 f_89 f_90 f_91 _ _ _ g_78 g_82 (gi_w gx_92 (by decide)) gy_84 gy_85 gf_91 (by have qgx_92 := gx_92.1; have rgx_92 := gx_92.2; omega) hP hD hS (lv_sub hl [2, 3, 4, 1, 0] rfl)
      · skip
        exact W.iret (v := v) hx hb hr (fun t ht hW => ⟨⟨v, (), rfl, (gi_any v), w0_37, w0_41, z1, z2, z3, z4, z5, z6, gw0_37, gw0_41, gz6, by rw [ht]; exact hP, hD⟩, hS.F ht⟩) hS.2.2 dX12_lean_18
      · skip
        exact W.iret (v := v) hx hb hr (fun t ht hW => ⟨⟨v, (), rfl, (gi_any v), w0_37, w0_41, z1, z2, z3, z4, z5, z6, gw0_37, gw0_41, gz6, by rw [ht]; exact hP, hD⟩, hS.F ht⟩) hS.2.2 dX12_lean_66
    · have g_93 : gi r_79 0 0 := gi_eq c_80 (gi_c 0 0 (by decide))
      refine lv_bipush (v := (-2)) hx hb dX12_lean_16 (by decide) ?_
      exact W.iret (v := (-2)) hx hb hr (fun t ht hW => ⟨⟨(-2), (), rfl, (gi_any (-2)), (mi 37), (mi 41), fm_must, fm_least, fm_pin, fm_ways, fm_verdict, fm_row, gmi_37, gmi_41, gfm_row, by rw [ht]; exact hP, hD⟩, hS.F ht⟩) hS.2.2 dX12_lean_18
theorem dX12_day_0 : decode cX12_day 0 = .ok (.aload_n 0, 1) := by decide +kernel
theorem dX12_day_1 : decode cX12_day 1 = .ok (.iload_n 1, 1) := by decide +kernel
theorem dX12_day_2 : decode cX12_day 2 = .ok (.invokevirtual 359, 3) := by decide +kernel
theorem dX12_day_5 : decode cX12_day 5 = .ok (.ifCond .eq 18, 3) := by decide +kernel
theorem dX12_day_8 : decode cX12_day 8 = .ok (.aload_n 0, 1) := by decide +kernel
theorem dX12_day_9 : decode cX12_day 9 = .ok (.iload_n 2, 1) := by decide +kernel
theorem dX12_day_10 : decode cX12_day 10 = .ok (.invokevirtual 394, 3) := by decide +kernel
theorem dX12_day_13 : decode cX12_day 13 = .ok (.ifCond .eq 10, 3) := by decide +kernel
theorem dX12_day_16 : decode cX12_day 16 = .ok (.iload_n 3, 1) := by decide +kernel
theorem dX12_day_17 : decode cX12_day 17 = .ok (.invokestatic 409, 3) := by decide +kernel
theorem dX12_day_20 : decode cX12_day 20 = .ok (.ifCond .ne 6, 3) := by decide +kernel
theorem dX12_day_23 : decode cX12_day 23 = .ok (.bipush (-2), 2) := by decide +kernel
theorem dX12_day_25 : decode cX12_day 25 = .ok (.ireturn, 1) := by decide +kernel
theorem dX12_day_26 : decode cX12_day 26 = .ok (.aload_n 0, 1) := by decide +kernel
theorem dX12_day_27 : decode cX12_day 27 = .ok (.iload_n 1, 1) := by decide +kernel
theorem dX12_day_28 : decode cX12_day 28 = .ok (.invokevirtual 382, 3) := by decide +kernel
theorem dX12_day_31 : decode cX12_day 31 = .ok (.aload_n 0, 1) := by decide +kernel
theorem dX12_day_32 : decode cX12_day 32 = .ok (.iload_n 2, 1) := by decide +kernel
theorem dX12_day_33 : decode cX12_day 33 = .ok (.iload_n 3, 1) := by decide +kernel
theorem dX12_day_34 : decode cX12_day 34 = .ok (.invokevirtual 412, 3) := by decide +kernel
theorem dX12_day_37 : decode cX12_day 37 = .ok (.ireturn, 1) := by decide +kernel
abbrev pb_sX12_day (dC : Nat → ClassId) (dI : Nat → Nat → Nat) (A9 : Nat → Prop) (h0 : Nat) (mi : Nat → Int32) (mr : Nat → Nat) (km : Nat → ClassId) (fm_must : Nat → Int32) (fm_least : Nat → Int32) (fm_pin : Nat → Int32) (fm_ways : Nat → Int32) (fm_verdict : Nat → Int32) (fm_row : Nat → Int32) (fm_struck : Nat → Int32) (fm_reportKnown : Nat → Int32) (fm_reportPlace : Nat → Int32) (fm_reportMonth : Nat → Int32) (fm_reportDay : Nat → Int32) (fm_reportKind : Nat → Int32) (fm_trust : Nat → Int32) (fm_letter : Nat → Int32) (fm_official : Nat → Int32) (fm_deedMonth : Nat → Int32) (fm_deedDay : Nat → Int32) (fm_deedLong : Nat → Int32) (fm_deedKind : Nat → Int32) (fm_kept : Nat → Int32) (fm_tape : Nat → Int32) (fm_aside : Nat → Int32) (fm_worth : Nat → Int32) (fm_out : Nat → Int32) (p1 : Int32) (p2 : Int32) (p3 : Int32) (w0_37 : Int32) (w0_41 : Int32) (z1 : Nat → Int32) (z2 : Nat → Int32) (z3 : Nat → Int32) (z4 : Nat → Int32) (z5 : Nat → Int32) (z6 : Nat → Int32) (z15 : Nat → Int32) (t : State) : Prop := gi w0_37 0 1 ∧ gi w0_41 0 24 ∧ ga z6 24 0 23 ∧ va_P (dC, dI) vwCl (MWn h0 mr km (mi 0) (mi 1) (mi 2) (mi 3) (mi 4) (mi 5) (mi 6) (mi 7) (mi 10) (mi 17) (mi 23) (mi 24) (mi 26) (mi 27) (mi 28) (mi 29) (mi 30) (mi 31) (mi 32) (mi 33) w0_37 w0_41 (mi 42) (mi 43) (mi 44) (mi 45) (mi 47) (mi 48) (mi 49) (mi 50) (mi 51) (mi 54) (mi 56) fm_trust fm_letter fm_reportPlace fm_reportKind fm_struck fm_reportMonth fm_reportDay fm_reportKnown fm_deedMonth fm_deedDay fm_deedLong fm_deedKind fm_kept fm_tape z1 z2 z3 z4 z5 z6 z15 fm_aside fm_worth fm_out) t.heap ∧ va_D A9 (MWn h0 mr km (mi 0) (mi 1) (mi 2) (mi 3) (mi 4) (mi 5) (mi 6) (mi 7) (mi 10) (mi 17) (mi 23) (mi 24) (mi 26) (mi 27) (mi 28) (mi 29) (mi 30) (mi 31) (mi 32) (mi 33) w0_37 w0_41 (mi 42) (mi 43) (mi 44) (mi 45) (mi 47) (mi 48) (mi 49) (mi 50) (mi 51) (mi 54) (mi 56) fm_trust fm_letter fm_reportPlace fm_reportKind fm_struck fm_reportMonth fm_reportDay fm_reportKnown fm_deedMonth fm_deedDay fm_deedLong fm_deedKind fm_kept fm_tape z1 z2 z3 z4 z5 z6 z15 fm_aside fm_worth fm_out)
set_option maxHeartbeats 4000000 in
set_option maxRecDepth 100000 in
theorem sX12_day (l : Launch) (dC : Nat → ClassId) (dI : Nat → Nat → Nat) (sz : Nat) (h0 : Nat) (mi : Nat → Int32) (mr : Nat → Nat) (km : Nat → ClassId) (fm_must : Nat → Int32) (fm_least : Nat → Int32) (fm_pin : Nat → Int32) (fm_ways : Nat → Int32) (fm_verdict : Nat → Int32) (fm_row : Nat → Int32) (fm_struck : Nat → Int32) (fm_reportKnown : Nat → Int32) (fm_reportPlace : Nat → Int32) (fm_reportMonth : Nat → Int32) (fm_reportDay : Nat → Int32) (fm_reportKind : Nat → Int32) (fm_trust : Nat → Int32) (fm_letter : Nat → Int32) (fm_official : Nat → Int32) (fm_deedMonth : Nat → Int32) (fm_deedDay : Nat → Int32) (fm_deedLong : Nat → Int32) (fm_deedKind : Nat → Int32) (fm_kept : Nat → Int32) (fm_tape : Nat → Int32) (fm_aside : Nat → Int32) (fm_worth : Nat → Int32) (fm_out : Nat → Int32) (p1 : Int32) (p2 : Int32) (p3 : Int32) (gmi_0 : gi (mi 0) 0 24) (gmi_1 : gi (mi 1) 0 5) (gmi_2 : gi (mi 2) 0 5) (gmi_4 : gi (mi 4) 0 1) (gmi_7 : gi (mi 7) 0 6) (gmi_10 : gi (mi 10) 0 24) (gmi_17 : gi (mi 17) 0 8) (gmi_23 : gi (mi 23) 0 300) (gmi_24 : gi (mi 24) 0 1) (gmi_26 : gi (mi 26) 0 1600) (gmi_29 : gi (mi 29) 0 1600) (gmi_30 : gi (mi 30) 0 1600) (gmi_33 : gi (mi 33) 0 1) (gmi_37 : gi (mi 37) 0 1) (gmi_41 : gi (mi 41) 0 24) (gmi_50 : gi (mi 50) 0 1) (gmi_51 : gi (mi 51) 0 1) (gmi_56 : gi (mi 56) 0 80) (gfm_row : ga fm_row 24 0 23) (gfm_struck : ga fm_struck 24 0 1) (gfm_reportKnown : ga fm_reportKnown 24 0 999) (gfm_reportPlace : ga fm_reportPlace 24 0 5) (gfm_reportMonth : ga fm_reportMonth 24 0 23) (gfm_reportDay : ga fm_reportDay 24 0 999) : Met l yX12_day (.code yX12_day cX12_day 4 (some .int) :: wsGB) ({ frames := 6, cells := 0, slots := 0, locals := 140 }) (va_Pc [.ref h0, .int p1, .int p2, .int p3] (fun U => U.heap.size = sz ∧ va_P (dC, dI) vwCl (MWn h0 mr km (mi 0) (mi 1) (mi 2) (mi 3) (mi 4) (mi 5) (mi 6) (mi 7) (mi 10) (mi 17) (mi 23) (mi 24) (mi 26) (mi 27) (mi 28) (mi 29) (mi 30) (mi 31) (mi 32) (mi 33) (mi 37) (mi 41) (mi 42) (mi 43) (mi 44) (mi 45) (mi 47) (mi 48) (mi 49) (mi 50) (mi 51) (mi 54) (mi 56) fm_trust fm_letter fm_reportPlace fm_reportKind fm_struck fm_reportMonth fm_reportDay fm_reportKnown fm_deedMonth fm_deedDay fm_deedLong fm_deedKind fm_kept fm_tape fm_must fm_least fm_pin fm_ways fm_verdict fm_row fm_official fm_aside fm_worth fm_out) U.heap ∧ va_K (dC, dI) vwCl (MT km) U ∧ va_D (fun _ => True) (MWn h0 mr km (mi 0) (mi 1) (mi 2) (mi 3) (mi 4) (mi 5) (mi 6) (mi 7) (mi 10) (mi 17) (mi 23) (mi 24) (mi 26) (mi 27) (mi 28) (mi 29) (mi 30) (mi 31) (mi 32) (mi 33) (mi 37) (mi 41) (mi 42) (mi 43) (mi 44) (mi 45) (mi 47) (mi 48) (mi 49) (mi 50) (mi 51) (mi 54) (mi 56) fm_trust fm_letter fm_reportPlace fm_reportKind fm_struck fm_reportMonth fm_reportDay fm_reportKnown fm_deedMonth fm_deedDay fm_deedLong fm_deedKind fm_kept fm_tape fm_must fm_least fm_pin fm_ways fm_verdict fm_row fm_official fm_aside fm_worth fm_out))) (va_Qi (fun (r : Int32) (u : Unit) => gi r (-2147483648) 2147483647) (fun _ t => ∃ (w0_37 : Int32) (w0_41 : Int32) (z1 : Nat → Int32) (z2 : Nat → Int32) (z3 : Nat → Int32) (z4 : Nat → Int32) (z5 : Nat → Int32) (z6 : Nat → Int32) (z15 : Nat → Int32), pb_sX12_day dC dI (va_A (MWn h0 mr km (mi 0) (mi 1) (mi 2) (mi 3) (mi 4) (mi 5) (mi 6) (mi 7) (mi 10) (mi 17) (mi 23) (mi 24) (mi 26) (mi 27) (mi 28) (mi 29) (mi 30) (mi 31) (mi 32) (mi 33) (mi 37) (mi 41) (mi 42) (mi 43) (mi 44) (mi 45) (mi 47) (mi 48) (mi 49) (mi 50) (mi 51) (mi 54) (mi 56) fm_trust fm_letter fm_reportPlace fm_reportKind fm_struck fm_reportMonth fm_reportDay fm_reportKnown fm_deedMonth fm_deedDay fm_deedLong fm_deedKind fm_kept fm_tape fm_must fm_least fm_pin fm_ways fm_verdict fm_row fm_official fm_aside fm_worth fm_out) sz) h0 mi mr km fm_must fm_least fm_pin fm_ways fm_verdict fm_row fm_struck fm_reportKnown fm_reportPlace fm_reportMonth fm_reportDay fm_reportKind fm_trust fm_letter fm_official fm_deedMonth fm_deedDay fm_deedLong fm_deedKind fm_kept fm_tape fm_aside fm_worth fm_out p1 p2 p3 w0_37 w0_41 z1 z2 z3 z4 z5 z6 z15 t) (va_A (MWn h0 mr km (mi 0) (mi 1) (mi 2) (mi 3) (mi 4) (mi 5) (mi 6) (mi 7) (mi 10) (mi 17) (mi 23) (mi 24) (mi 26) (mi 27) (mi 28) (mi 29) (mi 30) (mi 31) (mi 32) (mi 33) (mi 37) (mi 41) (mi 42) (mi 43) (mi 44) (mi 45) (mi 47) (mi 48) (mi 49) (mi 50) (mi 51) (mi 54) (mi 56) fm_trust fm_letter fm_reportPlace fm_reportKind fm_struck fm_reportMonth fm_reportDay fm_reportKnown fm_deedMonth fm_deedDay fm_deedLong fm_deedKind fm_kept fm_tape fm_must fm_least fm_pin fm_ways fm_verdict fm_row fm_official fm_aside fm_worth fm_out) sz)) 0 0 (va_A (MWn h0 mr km (mi 0) (mi 1) (mi 2) (mi 3) (mi 4) (mi 5) (mi 6) (mi 7) (mi 10) (mi 17) (mi 23) (mi 24) (mi 26) (mi 27) (mi 28) (mi 29) (mi 30) (mi 31) (mi 32) (mi 33) (mi 37) (mi 41) (mi 42) (mi 43) (mi 44) (mi 45) (mi 47) (mi 48) (mi 49) (mi 50) (mi 51) (mi 54) (mi 56) fm_trust fm_letter fm_reportPlace fm_reportKind fm_struck fm_reportMonth fm_reportDay fm_reportKnown fm_deedMonth fm_deedDay fm_deedLong fm_deedKind fm_kept fm_tape fm_must fm_least fm_pin fm_ways fm_verdict fm_row fm_official fm_aside fm_worth fm_out) sz) := by
  refine Met.ofW (cc := cX12_day) (maxL := 4) (ret := (some .int)) (by decide) rfl ?_
  intro p e s m args below meth c s₁ B hml hv
  obtain ⟨rfl, hsz, hP, hK, hD0⟩ := hv
  have hx := B.exec
  have hb := B.bytes
  have hr := B.returns
  have hts := atoms_spec (ws := (.code yX12_day cX12_day 4 (some .int) :: wsGB)) B.pre
  have hown : s.vm.findClass RX12 = some m.cls := findClass_of_methodNamed B.named
  have hlocks := B.notSynchronized
  subst hsz
  have hD := hD0.self (sz := s.heap.size)
  generalize hAe : va_A (MWn h0 mr km (mi 0) (mi 1) (mi 2) (mi 3) (mi 4) (mi 5) (mi 6) (mi 7) (mi 10) (mi 17) (mi 23) (mi 24) (mi 26) (mi 27) (mi 28) (mi 29) (mi 30) (mi 31) (mi 32) (mi 33) (mi 37) (mi 41) (mi 42) (mi 43) (mi 44) (mi 45) (mi 47) (mi 48) (mi 49) (mi 50) (mi 51) (mi 54) (mi 56) fm_trust fm_letter fm_reportPlace fm_reportKind fm_struck fm_reportMonth fm_reportDay fm_reportKnown fm_deedMonth fm_deedDay fm_deedLong fm_deedKind fm_kept fm_tape fm_must fm_least fm_pin fm_ways fm_verdict fm_row fm_official fm_aside fm_worth fm_out) s.heap.size = A at hD ⊢
  have hA : ∀ q : Nat, s.heap.size ≤ q → A q := fun q h => by rw [← hAe]; exact Or.inr h
  have hS : va_S A s.heap s.heap [] := va_S.rf
  have hl := lv_entry ([.ref h0, .int p1, .int p2, .int p3]) (n := 4) (Nat.le_of_ble_eq_true rfl)
  rw [lg_entry_eq]
  generalize (lg_sl ([.ref h0, .int p1, .int p2, .int p3]) ++ List.replicate (4 - (lg_sl ([.ref h0, .int p1, .int p2, .int p3])).length) Slot.unset).toArray = ls at hl ⊢
  have hl : lv_has ls 4 [(0, .ref h0), (1, .int p1), (2, .int p2), (3, .int p3)] := hl
  refine lv_aload_n hx hb dX12_day_0 rfl (lv_at hl 0 rfl) ?_
  refine lv_iload_n hx hb dX12_day_1 rfl (lv_at hl 1 rfl) ?_
  refine va_calli (va_runV (As := [.int p1]) (rest := []) ⟨hx, hb, hml, hown, hts⟩ (sX12_isTime l dC dI h0 mi mr km fm_trust fm_letter fm_reportPlace fm_reportKind fm_struck fm_reportMonth fm_reportDay fm_reportKnown fm_deedMonth fm_deedDay fm_deedLong fm_deedKind fm_kept fm_tape fm_must fm_least fm_pin fm_ways fm_verdict fm_row fm_official fm_aside fm_worth fm_out p1 gmi_0 gmi_1 gmi_2 gmi_4 gmi_7 gmi_10 gmi_17 gmi_23 gmi_24 gmi_26 gmi_29 gmi_30 gmi_33 gmi_37 gmi_41 gmi_50 gmi_51 gmi_56) (cwV 1 hts (gz_gV mGB_256 mGB_257 mGB_258 mGB_1 mGB_259 goodGB) rfl rfl rfl (by decide +kernel) ⟨Nat.le_of_ble_eq_true rfl, Nat.le_of_ble_eq_true rfl⟩) ⟨bl_R, mw_recv hK hP, fun U hU hW => ⟨rfl, by rw [hU]; exact hP, va_K.moved hW.alike hK⟩⟩ rfl rfl hl.1 rfl (lv_room (Nat.le_of_ble_eq_true rfl)) dX12_day_2 ⟨Nat.zero_le _, Nat.zero_le _⟩) hS (fun q _ h => h.elim) (fun q h => h.elim) (fun r_53 u t H1 locs ht hvm hw hB hz1 hk1 hS => ?_)
  obtain ⟨hw, hE⟩ := hw
  have hP := gz_keep hP hk1
  generalize H1 = H at hP hS ⊢
  have gr_53 : gi r_53 0 1 := hw.1
  have hqr_53 := hw.2
  refine lv_if_eq (tgt := 23) hx hb dX12_day_5 (by decide) (fun c_54 => ?_) (fun c_54 => ?_)
  · have g_55 : gi r_53 0 0 := gi_eq c_54 (gi_c 0 0 (by decide))
    refine lv_bipush (v := (-2)) hx hb dX12_day_23 (by decide) ?_
    exact W.iret (v := (-2)) hx hb hr (fun t ht hW => ⟨⟨(-2), (), rfl, (gi_any (-2)), (mi 37), (mi 41), fm_must, fm_least, fm_pin, fm_ways, fm_verdict, fm_row, fm_official, gmi_37, gmi_41, gfm_row, by rw [ht]; exact hP, hD⟩, hS.F ht⟩) hS.2.2 dX12_day_25
  · have g_56 : gi r_53 1 1 := gi_ne_lo c_54 gr_53 (gi_c 0 0 (by decide)) (by decide)
    have g_57 : gi p1 0 999 := gi_cap (gi_any p1) (hqr_53 (gz_one g_56)) (by decide)
    refine lv_aload_n hx hb dX12_day_8 rfl (lv_at hl 0 rfl) ?_
    refine lv_iload_n hx hb dX12_day_9 rfl (lv_at hl 2 rfl) ?_
    refine va_calli (va_runV (As := [.int p2]) (rest := []) ⟨hx, hb, hml, hown, hts⟩ (sX12_isMonth l dC dI h0 mi mr km fm_trust fm_letter fm_reportPlace fm_reportKind fm_struck fm_reportMonth fm_reportDay fm_reportKnown fm_deedMonth fm_deedDay fm_deedLong fm_deedKind fm_kept fm_tape fm_must fm_least fm_pin fm_ways fm_verdict fm_row fm_official fm_aside fm_worth fm_out p2 gmi_0 gmi_1 gmi_2 gmi_4 gmi_7 gmi_10 gmi_17 gmi_23 gmi_24 gmi_26 gmi_29 gmi_30 gmi_33 gmi_37 gmi_41 gmi_50 gmi_51 gmi_56) (cwV 1 hts (gz_gV mGB_387 mGB_388 mGB_389 mGB_1 mGB_390 goodGB) rfl rfl rfl (by decide +kernel) ⟨Nat.le_of_ble_eq_true rfl, Nat.le_of_ble_eq_true rfl⟩) ⟨bl_R, mw_recv hK hP, fun U hU hW => ⟨rfl, by rw [hU]; exact hP, va_K.moved hW.alike hK⟩⟩ rfl rfl hl.1 rfl (lv_room (Nat.le_of_ble_eq_true rfl)) dX12_day_10 ⟨Nat.zero_le _, Nat.zero_le _⟩) hS (fun q _ h => h.elim) (fun q h => h.elim) (fun r_58 u t H1 locs ht hvm hw hB hz1 hk1 hS => ?_)
    have hP := gz_keep hP hk1
    generalize H1 = H at hP hS ⊢
    have gr_58 : gi r_58 0 1 := hw.1
    have hqr_58 := hw.2
    refine lv_if_eq (tgt := 23) hx hb dX12_day_13 (by decide) (fun c_59 => ?_) (fun c_59 => ?_)
    · have g_60 : gi r_58 0 0 := gi_eq c_59 (gi_c 0 0 (by decide))
      refine lv_bipush (v := (-2)) hx hb dX12_day_23 (by decide) ?_
      exact W.iret (v := (-2)) hx hb hr (fun t ht hW => ⟨⟨(-2), (), rfl, (gi_any (-2)), (mi 37), (mi 41), fm_must, fm_least, fm_pin, fm_ways, fm_verdict, fm_row, fm_official, gmi_37, gmi_41, gfm_row, by rw [ht]; exact hP, hD⟩, hS.F ht⟩) hS.2.2 dX12_day_25
    · have g_61 : gi r_58 1 1 := gi_ne_lo c_59 gr_58 (gi_c 0 0 (by decide)) (by decide)
      have g_62 : gi p2 0 23 := gi_cap (gi_any p2) (hqr_58 (gz_one g_61)) (by decide)
      refine lv_iload_n hx hb dX12_day_16 rfl (lv_at hl 3 rfl) ?_
      have hPc := hP.sub (ws' := []) [] rfl
      have hKc := hK.sub (tys' := []) [] rfl
      refine va_calli (va_runS (As := [.int p3]) (rest := []) ⟨hx, hb, hml, hown, hts⟩ (sX12_isInMonth l dC dI p3) (cwS 1 hts (gz_gS mGB_415 mGB_416 mGB_1 mGB_417 goodGB) rfl rfl rfl (by decide +kernel) ⟨Nat.le_of_ble_eq_true rfl, Nat.le_of_ble_eq_true rfl⟩) ⟨bl_R, fun U hU hW => ⟨rfl, by rw [hU]; exact hPc, va_K.moved hW.alike hKc⟩⟩ rfl rfl hl.1 rfl (lv_room (Nat.le_of_ble_eq_true rfl)) dX12_day_17 ⟨Nat.zero_le _, Nat.zero_le _⟩) hS (fun q _ h => h.elim) (fun q h => h.elim) (fun r_63 u t H1 locs ht hvm hw hB hz1 hk1 hS => ?_)
      have hP := gz_keep hP hk1
      generalize H1 = H at hP hS ⊢
      have gr_63 : gi r_63 0 1 := hw.1
      have hqr_63 := hw.2
      refine lv_if_ne (tgt := 26) hx hb dX12_day_20 (by decide) (fun c_64 => ?_) (fun c_64 => ?_)
      · have g_65 : gi r_63 1 1 := gi_ne_lo c_64 gr_63 (gi_c 0 0 (by decide)) (by decide)
        have g_66 : gi p3 1 30 := gi_cap (gi_any p3) (hqr_63 (gz_one g_65)) (by decide)
        refine lv_aload_n hx hb dX12_day_26 rfl (lv_at hl 0 rfl) ?_
        refine lv_iload_n hx hb dX12_day_27 rfl (lv_at hl 1 rfl) ?_
        have hFc := gz_fullF hD hS hA
        refine va_callv (va_runV (As := [.int p1]) (rest := []) ⟨hx, hb, hml, hown, hts⟩ (sX12_officialBy l dC dI H.size h0 mi mr km fm_must fm_least fm_pin fm_ways fm_verdict fm_row fm_struck fm_reportKnown fm_reportPlace fm_reportMonth fm_reportDay fm_reportKind fm_trust fm_letter fm_official fm_deedMonth fm_deedDay fm_deedLong fm_deedKind fm_kept fm_tape fm_aside fm_worth fm_out p1 gmi_0 gmi_1 gmi_2 gmi_4 gmi_7 gmi_10 gmi_17 gmi_23 gmi_24 gmi_26 gmi_29 gmi_30 gmi_33 gmi_37 gmi_41 gmi_50 gmi_51 gmi_56 gfm_row gfm_struck gfm_reportKnown gfm_reportPlace gfm_reportMonth gfm_reportDay) (cwV 1 hts (gz_gV mGB_358 mGB_359 mGB_360 mGB_1 mGB_361 goodGB) rfl rfl rfl (by decide +kernel) ⟨Nat.le_of_ble_eq_true rfl, Nat.le_of_ble_eq_true rfl⟩) ⟨bl_W, mw_recv hK hP, fun U hU hW => ⟨rfl, by rw [hU], by rw [hU]; exact hP, va_K.moved hW.alike hK, hD.weaken (fun _ _ _ _ => trivial)⟩⟩ rfl rfl hl.1 rfl (lv_room (Nat.le_of_ble_eq_true rfl)) dX12_day_28 ⟨Nat.zero_le _, Nat.zero_le _⟩) hS (fun q _ h => hFc q h) hFc (fun u t H1 locs ht hvm hw hB hz1 hk1 hS => ?_)
        obtain ⟨y_68, y_69, f_70, f_71, f_72, f_73, f_74, f_75, f_76, hB⟩ := hB
        obtain ⟨gy_68, gy_69, gf_75, hP1, hD1⟩ := hB
        rw [ht] at hP1
        have hD : va_D A (MWn h0 mr km (mi 0) (mi 1) (mi 2) (mi 3) (mi 4) (mi 5) (mi 6) (mi 7) (mi 10) (mi 17) (mi 23) (mi 24) (mi 26) (mi 27) (mi 28) (mi 29) (mi 30) (mi 31) (mi 32) (mi 33) y_68 y_69 (mi 42) (mi 43) (mi 44) (mi 45) (mi 47) (mi 48) (mi 49) (mi 50) (mi 51) (mi 54) (mi 56) fm_trust fm_letter fm_reportPlace fm_reportKind fm_struck fm_reportMonth fm_reportDay fm_reportKnown fm_deedMonth fm_deedDay fm_deedLong fm_deedKind fm_kept fm_tape f_70 f_71 f_72 f_73 f_74 f_75 f_76 fm_aside fm_worth fm_out) := gz_fullD hFc hD1
        have hP : va_P (dC, dI) vwCl (MWn h0 mr km (mi 0) (mi 1) (mi 2) (mi 3) (mi 4) (mi 5) (mi 6) (mi 7) (mi 10) (mi 17) (mi 23) (mi 24) (mi 26) (mi 27) (mi 28) (mi 29) (mi 30) (mi 31) (mi 32) (mi 33) y_68 y_69 (mi 42) (mi 43) (mi 44) (mi 45) (mi 47) (mi 48) (mi 49) (mi 50) (mi 51) (mi 54) (mi 56) fm_trust fm_letter fm_reportPlace fm_reportKind fm_struck fm_reportMonth fm_reportDay fm_reportKnown fm_deedMonth fm_deedDay fm_deedLong fm_deedKind fm_kept fm_tape f_70 f_71 f_72 f_73 f_74 f_75 f_76 fm_aside fm_worth fm_out) H1 := hP1
        generalize H1 = H at hP hS ⊢
        refine lv_aload_n hx hb dX12_day_31 rfl (lv_at hl 0 rfl) ?_
        refine lv_iload_n hx hb dX12_day_32 rfl (lv_at hl 2 rfl) ?_
        refine lv_iload_n hx hb dX12_day_33 rfl (lv_at hl 3 rfl) ?_
        refine va_calli (va_runV (As := [.int p2, .int p3]) (rest := []) ⟨hx, hb, hml, hown, hts⟩ (sX12_dayBy l dC dI h0 (upd (upd mi 37 y_68) 41 y_69) mr km f_76 fm_trust fm_letter fm_reportPlace fm_reportKind fm_struck fm_reportMonth fm_reportDay fm_reportKnown fm_deedMonth fm_deedDay fm_deedLong fm_deedKind fm_kept fm_tape f_70 f_71 f_72 f_73 f_74 f_75 fm_aside fm_worth fm_out p2 p3 gmi_0 gmi_1 gmi_2 gmi_4 gmi_7 gmi_10 gmi_17 gmi_23 gmi_24 gmi_26 gmi_29 gmi_30 gmi_33 gy_68 gy_69 gmi_50 gmi_51 gmi_56 g_62) (cwV 2 hts (gz_gV mGB_419 mGB_420 mGB_421 mGB_1 mGB_422 goodGB) rfl rfl rfl (by decide +kernel) ⟨Nat.le_of_ble_eq_true rfl, Nat.le_of_ble_eq_true rfl⟩) ⟨bl_R, mw_recv hK hP, fun U hU hW => ⟨rfl, by rw [hU]; exact hP, va_K.moved hW.alike hK⟩⟩ rfl rfl hl.1 rfl (lv_room (Nat.le_of_ble_eq_true rfl)) dX12_day_34 ⟨Nat.zero_le _, Nat.zero_le _⟩) hS (fun q _ h => h.elim) (fun q h => h.elim) (fun r_77 u t H1 locs ht hvm hw hB hz1 hk1 hS => ?_)
        have hP := gz_keep hP hk1
        generalize H1 = H at hP hS ⊢
        exact W.iret (v := r_77) hx hb hr (fun t ht hW => ⟨⟨r_77, (), rfl, (gi_any r_77), y_68, y_69, f_70, f_71, f_72, f_73, f_74, f_75, f_76, gy_68, gy_69, gf_75, by rw [ht]; exact hP, hD⟩, hS.F ht⟩) hS.2.2 dX12_day_37
      · have g_78 : gi r_63 0 0 := gi_eq c_64 (gi_c 0 0 (by decide))
        refine lv_bipush (v := (-2)) hx hb dX12_day_23 (by decide) ?_
        exact W.iret (v := (-2)) hx hb hr (fun t ht hW => ⟨⟨(-2), (), rfl, (gi_any (-2)), (mi 37), (mi 41), fm_must, fm_least, fm_pin, fm_ways, fm_verdict, fm_row, fm_official, gmi_37, gmi_41, gfm_row, by rw [ht]; exact hP, hD⟩, hS.F ht⟩) hS.2.2 dX12_day_25
theorem dX12_date_0 : decode cX12_date 0 = .ok (.aload_n 0, 1) := by decide +kernel
theorem dX12_date_1 : decode cX12_date 1 = .ok (.iload_n 1, 1) := by decide +kernel
theorem dX12_date_2 : decode cX12_date 2 = .ok (.invokevirtual 359, 3) := by decide +kernel
theorem dX12_date_5 : decode cX12_date 5 = .ok (.ifCond .eq 15, 3) := by decide +kernel
theorem dX12_date_8 : decode cX12_date 8 = .ok (.iload_n 2, 1) := by decide +kernel
theorem dX12_date_9 : decode cX12_date 9 = .ok (.i2l, 1) := by decide +kernel
theorem dX12_date_10 : decode cX12_date 10 = .ok (.lconst 0, 1) := by decide +kernel
theorem dX12_date_11 : decode cX12_date 11 = .ok (.ldc2_w 292, 3) := by decide +kernel
theorem dX12_date_14 : decode cX12_date 14 = .ok (.invokestatic 102, 3) := by decide +kernel
theorem dX12_date_17 : decode cX12_date 17 = .ok (.ifCond .ne 6, 3) := by decide +kernel
theorem dX12_date_20 : decode cX12_date 20 = .ok (.bipush (-2), 2) := by decide +kernel
theorem dX12_date_22 : decode cX12_date 22 = .ok (.ireturn, 1) := by decide +kernel
theorem dX12_date_23 : decode cX12_date 23 = .ok (.aload_n 0, 1) := by decide +kernel
theorem dX12_date_24 : decode cX12_date 24 = .ok (.iload_n 1, 1) := by decide +kernel
theorem dX12_date_25 : decode cX12_date 25 = .ok (.invokevirtual 382, 3) := by decide +kernel
theorem dX12_date_28 : decode cX12_date 28 = .ok (.iconst 0, 1) := by decide +kernel
theorem dX12_date_29 : decode cX12_date 29 = .ok (.istore_n 3, 1) := by decide +kernel
theorem dX12_date_30 : decode cX12_date 30 = .ok (.iload_n 3, 1) := by decide +kernel
theorem dX12_date_31 : decode cX12_date 31 = .ok (.aload_n 0, 1) := by decide +kernel
theorem dX12_date_32 : decode cX12_date 32 = .ok (.getfield 117, 3) := by decide +kernel
theorem dX12_date_35 : decode cX12_date 35 = .ok (.if_icmp .ge 51, 3) := by decide +kernel
theorem dX12_date_38 : decode cX12_date 38 = .ok (.iload_n 2, 1) := by decide +kernel
theorem dX12_date_39 : decode cX12_date 39 = .ok (.i2l, 1) := by decide +kernel
theorem dX12_date_40 : decode cX12_date 40 = .ok (.aload_n 0, 1) := by decide +kernel
theorem dX12_date_41 : decode cX12_date 41 = .ok (.getfield 87, 3) := by decide +kernel
theorem dX12_date_44 : decode cX12_date 44 = .ok (.iload_n 3, 1) := by decide +kernel
theorem dX12_date_45 : decode cX12_date 45 = .ok (.iaload, 1) := by decide +kernel
theorem dX12_date_46 : decode cX12_date 46 = .ok (.i2l, 1) := by decide +kernel
theorem dX12_date_47 : decode cX12_date 47 = .ok (.aload_n 0, 1) := by decide +kernel
theorem dX12_date_48 : decode cX12_date 48 = .ok (.getfield 87, 3) := by decide +kernel
theorem dX12_date_51 : decode cX12_date 51 = .ok (.iload_n 3, 1) := by decide +kernel
theorem dX12_date_52 : decode cX12_date 52 = .ok (.iconst 1, 1) := by decide +kernel
theorem dX12_date_53 : decode cX12_date 53 = .ok (.iadd, 1) := by decide +kernel
theorem dX12_date_54 : decode cX12_date 54 = .ok (.iaload, 1) := by decide +kernel
theorem dX12_date_55 : decode cX12_date 55 = .ok (.iconst 1, 1) := by decide +kernel
theorem dX12_date_56 : decode cX12_date 56 = .ok (.isub, 1) := by decide +kernel
theorem dX12_date_57 : decode cX12_date 57 = .ok (.i2l, 1) := by decide +kernel
theorem dX12_date_58 : decode cX12_date 58 = .ok (.invokestatic 102, 3) := by decide +kernel
theorem dX12_date_61 : decode cX12_date 61 = .ok (.ifCond .eq 19, 3) := by decide +kernel
theorem dX12_date_64 : decode cX12_date 64 = .ok (.bipush 100, 2) := by decide +kernel
theorem dX12_date_66 : decode cX12_date 66 = .ok (.iload_n 3, 1) := by decide +kernel
theorem dX12_date_67 : decode cX12_date 67 = .ok (.imul, 1) := by decide +kernel
theorem dX12_date_68 : decode cX12_date 68 = .ok (.iload_n 2, 1) := by decide +kernel
theorem dX12_date_69 : decode cX12_date 69 = .ok (.iadd, 1) := by decide +kernel
theorem dX12_date_70 : decode cX12_date 70 = .ok (.aload_n 0, 1) := by decide +kernel
theorem dX12_date_71 : decode cX12_date 71 = .ok (.getfield 87, 3) := by decide +kernel
theorem dX12_date_74 : decode cX12_date 74 = .ok (.iload_n 3, 1) := by decide +kernel
theorem dX12_date_75 : decode cX12_date 75 = .ok (.iaload, 1) := by decide +kernel
theorem dX12_date_76 : decode cX12_date 76 = .ok (.isub, 1) := by decide +kernel
theorem dX12_date_77 : decode cX12_date 77 = .ok (.iconst 1, 1) := by decide +kernel
theorem dX12_date_78 : decode cX12_date 78 = .ok (.iadd, 1) := by decide +kernel
theorem dX12_date_79 : decode cX12_date 79 = .ok (.ireturn, 1) := by decide +kernel
theorem dX12_date_80 : decode cX12_date 80 = .ok (.iinc 3 1, 3) := by decide +kernel
theorem dX12_date_83 : decode cX12_date 83 = .ok (.goto (-53), 3) := by decide +kernel
theorem dX12_date_86 : decode cX12_date 86 = .ok (.iconst (-1), 1) := by decide +kernel
theorem dX12_date_87 : decode cX12_date 87 = .ok (.ireturn, 1) := by decide +kernel
set_option maxHeartbeats 4000000 in
set_option maxRecDepth 100000 in
theorem lp_sX12_date {p : Program} {l : Launch} {e : Env} {R : Room} {s : State} {m : MethodId} {args : Array Value} {below : List Frame} {meth : Method} {c : Code} {Q : State → Prop} {A : Nat → Prop} {cells slots : Nat} {dC : Nat → ClassId} {dI : Nat → Nat → Nat} (h0 : Nat) (mi : Nat → Int32) (mr : Nat → Nat) (km : Nat → ClassId) (fm_must : Nat → Int32) (fm_least : Nat → Int32) (fm_pin : Nat → Int32) (fm_ways : Nat → Int32) (fm_verdict : Nat → Int32) (fm_row : Nat → Int32) (fm_struck : Nat → Int32) (fm_reportKnown : Nat → Int32) (fm_reportPlace : Nat → Int32) (fm_reportMonth : Nat → Int32) (fm_reportDay : Nat → Int32) (fm_reportKind : Nat → Int32) (fm_trust : Nat → Int32) (fm_letter : Nat → Int32) (fm_official : Nat → Int32) (fm_deedMonth : Nat → Int32) (fm_deedDay : Nat → Int32) (fm_deedLong : Nat → Int32) (fm_deedKind : Nat → Int32) (fm_kept : Nat → Int32) (fm_tape : Nat → Int32) (fm_aside : Nat → Int32) (fm_worth : Nat → Int32) (fm_out : Nat → Int32) (p1 : Int32) (p2 : Int32) (gmi_0 : gi (mi 0) 0 24) (gmi_1 : gi (mi 1) 0 5) (gmi_2 : gi (mi 2) 0 5) (gmi_4 : gi (mi 4) 0 1) (gmi_7 : gi (mi 7) 0 6) (gmi_10 : gi (mi 10) 0 24) (gmi_17 : gi (mi 17) 0 8) (gmi_23 : gi (mi 23) 0 300) (gmi_24 : gi (mi 24) 0 1) (gmi_26 : gi (mi 26) 0 1600) (gmi_29 : gi (mi 29) 0 1600) (gmi_30 : gi (mi 30) 0 1600) (gmi_33 : gi (mi 33) 0 1) (gmi_37 : gi (mi 37) 0 1) (gmi_41 : gi (mi 41) 0 24) (gmi_50 : gi (mi 50) 0 1) (gmi_51 : gi (mi 51) 0 1) (gmi_56 : gi (mi 56) 0 80) (gfm_row : ga fm_row 24 0 23) (gfm_struck : ga fm_struck 24 0 1) (gfm_reportKnown : ga fm_reportKnown 24 0 999) (gfm_reportPlace : ga fm_reportPlace 24 0 5) (gfm_reportMonth : ga fm_reportMonth 24 0 23) (gfm_reportDay : ga fm_reportDay 24 0 999) (hx : p.tables.exec = Jvm.exec) (hb : c.code = cX12_date) (hml : c.maxLocals = 4) (hown : s.vm.findClass RX12 = some m.cls) (hts : ∀ w ∈ ((.code yX12_date cX12_date 4 (some .int) :: wsGB) : List Cond), w.before args s = true) (hK : va_K (dC, dI) vwCl (MT km) s) (hA : ∀ q : Nat, s.heap.size ≤ q → A q) (hRf : 6 ≤ R.frames) (hRl : 140 ≤ R.locals) (hRc : cells ≤ R.cells) (hRs : slots ≤ R.slots) (kr22 : ∀ (v : Int32) (w0_37 : Int32) (w0_41 : Int32) (z1 : Nat → Int32) (z2 : Nat → Int32) (z3 : Nat → Int32) (z4 : Nat → Int32) (z5 : Nat → Int32) (z6 : Nat → Int32) (z15 : Nat → Int32) (H : Heap) (locs : List Loc) (ls : Array Slot), gi v (-2) (-2) → gi w0_37 0 1 → gi w0_41 0 24 → ga z6 24 0 23 → va_P (dC, dI) vwCl (MWn h0 mr km (mi 0) (mi 1) (mi 2) (mi 3) (mi 4) (mi 5) (mi 6) (mi 7) (mi 10) (mi 17) (mi 23) (mi 24) (mi 26) (mi 27) (mi 28) (mi 29) (mi 30) (mi 31) (mi 32) (mi 33) w0_37 w0_41 (mi 42) (mi 43) (mi 44) (mi 45) (mi 47) (mi 48) (mi 49) (mi 50) (mi 51) (mi 54) (mi 56) fm_trust fm_letter fm_reportPlace fm_reportKind fm_struck fm_reportMonth fm_reportDay fm_reportKnown fm_deedMonth fm_deedDay fm_deedLong fm_deedKind fm_kept fm_tape z1 z2 z3 z4 z5 z6 z15 fm_aside fm_worth fm_out) H → va_D A (MWn h0 mr km (mi 0) (mi 1) (mi 2) (mi 3) (mi 4) (mi 5) (mi 6) (mi 7) (mi 10) (mi 17) (mi 23) (mi 24) (mi 26) (mi 27) (mi 28) (mi 29) (mi 30) (mi 31) (mi 32) (mi 33) w0_37 w0_41 (mi 42) (mi 43) (mi 44) (mi 45) (mi 47) (mi 48) (mi 49) (mi 50) (mi 51) (mi 54) (mi 56) fm_trust fm_letter fm_reportPlace fm_reportKind fm_struck fm_reportMonth fm_reportDay fm_reportKnown fm_deedMonth fm_deedDay fm_deedLong fm_deedKind fm_kept fm_tape z1 z2 z3 z4 z5 z6 z15 fm_aside fm_worth fm_out) → va_S A s.heap H locs → lv_has ls 4 [] → W p l e R s m args below meth c H locs cells slots Q (F0 m 22 ls [.int v])) (kr87 : ∀ (v : Int32) (w0_37 : Int32) (w0_41 : Int32) (z1 : Nat → Int32) (z2 : Nat → Int32) (z3 : Nat → Int32) (z4 : Nat → Int32) (z5 : Nat → Int32) (z6 : Nat → Int32) (z15 : Nat → Int32) (H : Heap) (locs : List Loc) (ls : Array Slot), gi v (-1) (-1) → gi w0_37 0 1 → gi w0_41 0 24 → ga z6 24 0 23 → va_P (dC, dI) vwCl (MWn h0 mr km (mi 0) (mi 1) (mi 2) (mi 3) (mi 4) (mi 5) (mi 6) (mi 7) (mi 10) (mi 17) (mi 23) (mi 24) (mi 26) (mi 27) (mi 28) (mi 29) (mi 30) (mi 31) (mi 32) (mi 33) w0_37 w0_41 (mi 42) (mi 43) (mi 44) (mi 45) (mi 47) (mi 48) (mi 49) (mi 50) (mi 51) (mi 54) (mi 56) fm_trust fm_letter fm_reportPlace fm_reportKind fm_struck fm_reportMonth fm_reportDay fm_reportKnown fm_deedMonth fm_deedDay fm_deedLong fm_deedKind fm_kept fm_tape z1 z2 z3 z4 z5 z6 z15 fm_aside fm_worth fm_out) H → va_D A (MWn h0 mr km (mi 0) (mi 1) (mi 2) (mi 3) (mi 4) (mi 5) (mi 6) (mi 7) (mi 10) (mi 17) (mi 23) (mi 24) (mi 26) (mi 27) (mi 28) (mi 29) (mi 30) (mi 31) (mi 32) (mi 33) w0_37 w0_41 (mi 42) (mi 43) (mi 44) (mi 45) (mi 47) (mi 48) (mi 49) (mi 50) (mi 51) (mi 54) (mi 56) fm_trust fm_letter fm_reportPlace fm_reportKind fm_struck fm_reportMonth fm_reportDay fm_reportKnown fm_deedMonth fm_deedDay fm_deedLong fm_deedKind fm_kept fm_tape z1 z2 z3 z4 z5 z6 z15 fm_aside fm_worth fm_out) → va_S A s.heap H locs → lv_has ls 4 [] → W p l e R s m args below meth c H locs cells slots Q (F0 m 87 ls [.int v])) (kr79 : ∀ (v : Int32) (w0_37 : Int32) (w0_41 : Int32) (z1 : Nat → Int32) (z2 : Nat → Int32) (z3 : Nat → Int32) (z4 : Nat → Int32) (z5 : Nat → Int32) (z6 : Nat → Int32) (z15 : Nat → Int32) (H : Heap) (locs : List Loc) (ls : Array Slot), gi w0_37 0 1 → gi w0_41 0 24 → ga z6 24 0 23 → va_P (dC, dI) vwCl (MWn h0 mr km (mi 0) (mi 1) (mi 2) (mi 3) (mi 4) (mi 5) (mi 6) (mi 7) (mi 10) (mi 17) (mi 23) (mi 24) (mi 26) (mi 27) (mi 28) (mi 29) (mi 30) (mi 31) (mi 32) (mi 33) w0_37 w0_41 (mi 42) (mi 43) (mi 44) (mi 45) (mi 47) (mi 48) (mi 49) (mi 50) (mi 51) (mi 54) (mi 56) fm_trust fm_letter fm_reportPlace fm_reportKind fm_struck fm_reportMonth fm_reportDay fm_reportKnown fm_deedMonth fm_deedDay fm_deedLong fm_deedKind fm_kept fm_tape z1 z2 z3 z4 z5 z6 z15 fm_aside fm_worth fm_out) H → va_D A (MWn h0 mr km (mi 0) (mi 1) (mi 2) (mi 3) (mi 4) (mi 5) (mi 6) (mi 7) (mi 10) (mi 17) (mi 23) (mi 24) (mi 26) (mi 27) (mi 28) (mi 29) (mi 30) (mi 31) (mi 32) (mi 33) w0_37 w0_41 (mi 42) (mi 43) (mi 44) (mi 45) (mi 47) (mi 48) (mi 49) (mi 50) (mi 51) (mi 54) (mi 56) fm_trust fm_letter fm_reportPlace fm_reportKind fm_struck fm_reportMonth fm_reportDay fm_reportKnown fm_deedMonth fm_deedDay fm_deedLong fm_deedKind fm_kept fm_tape z1 z2 z3 z4 z5 z6 z15 fm_aside fm_worth fm_out) → va_S A s.heap H locs → lv_has ls 4 [] → W p l e R s m args below meth c H locs cells slots Q (F0 m 79 ls [.int v])) : ∀ z : Nat, (∀ (v3 : Int32) (w0_37 : Int32) (w0_41 : Int32) (z1 : Nat → Int32) (z2 : Nat → Int32) (z3 : Nat → Int32) (z4 : Nat → Int32) (z5 : Nat → Int32) (z6 : Nat → Int32) (z15 : Nat → Int32) (H : Heap) (locs : List Loc) (ls : Array Slot), gi p1 0 999 → gi p2 0 999 → gi v3 0 24 → gi w0_37 0 1 → gi w0_41 0 24 → ga z6 24 0 23 → 49 + (-2) * v3.toInt < (z : Int) → va_P (dC, dI) vwCl (MWn h0 mr km (mi 0) (mi 1) (mi 2) (mi 3) (mi 4) (mi 5) (mi 6) (mi 7) (mi 10) (mi 17) (mi 23) (mi 24) (mi 26) (mi 27) (mi 28) (mi 29) (mi 30) (mi 31) (mi 32) (mi 33) w0_37 w0_41 (mi 42) (mi 43) (mi 44) (mi 45) (mi 47) (mi 48) (mi 49) (mi 50) (mi 51) (mi 54) (mi 56) fm_trust fm_letter fm_reportPlace fm_reportKind fm_struck fm_reportMonth fm_reportDay fm_reportKnown fm_deedMonth fm_deedDay fm_deedLong fm_deedKind fm_kept fm_tape z1 z2 z3 z4 z5 z6 z15 fm_aside fm_worth fm_out) H → va_D A (MWn h0 mr km (mi 0) (mi 1) (mi 2) (mi 3) (mi 4) (mi 5) (mi 6) (mi 7) (mi 10) (mi 17) (mi 23) (mi 24) (mi 26) (mi 27) (mi 28) (mi 29) (mi 30) (mi 31) (mi 32) (mi 33) w0_37 w0_41 (mi 42) (mi 43) (mi 44) (mi 45) (mi 47) (mi 48) (mi 49) (mi 50) (mi 51) (mi 54) (mi 56) fm_trust fm_letter fm_reportPlace fm_reportKind fm_struck fm_reportMonth fm_reportDay fm_reportKnown fm_deedMonth fm_deedDay fm_deedLong fm_deedKind fm_kept fm_tape z1 z2 z3 z4 z5 z6 z15 fm_aside fm_worth fm_out) → va_S A s.heap H locs → lv_has ls 4 [(0, .ref h0), (1, .int p1), (2, .int p2), (3, .int v3)] → W p l e R s m args below meth c H locs cells slots Q (F0 m 30 ls [])) := by
  intro z
  induction z with
  | zero =>
    intro v3 w0_37 w0_41 z1 z2 z3 z4 z5 z6 z15 H locs ls gf_p1 gf_p2 gv3 gw0_37 gw0_41 gz6 hmu hP hD hS hl
    exact absurd hmu (by have hv31 := gv3.1; have hv32 := gv3.2; omega)
  | succ z ih =>
      intro v3 w0_37 w0_41 z1 z2 z3 z4 z5 z6 z15 H locs ls gf_p1 gf_p2 gv3 gw0_37 gw0_41 gz6 hmu hP hD hS hl
      refine lv_iload_n hx hb dX12_date_30 rfl (lv_at hl 3 rfl) ?_
      refine lv_aload_n hx hb dX12_date_31 rfl (lv_at hl 0 rfl) ?_
      refine va_get (D := (dC, dI)) (ci := 12) (v := .int (mi 0)) (C := RX12) (T := TX12) (N := 57) hx hb hts (fun w h => List.mem_cons_of_mem _ (jnGB_X12 w h)) hown hK hP 0 rfl rfl 0 (by decide) (hts _ (List.mem_cons_of_mem _ mGB_103)) (fun _ h9 => h9) rfl dX12_date_32 ?_
      refine lv_icmp_ge (tgt := 86) hx hb dX12_date_35 (by decide) (fun c_616 => ?_) (fun c_616 => ?_)
      · refine lv_iconst (v := (-1)) hx hb dX12_date_86 (by decide) ?_
        exact kr87 (-1) w0_37 w0_41 z1 z2 z3 z4 z5 z6 z15 _ _ _ (gi_c (-1) (-1) (by decide)) gw0_37 gw0_41 gz6 hP hD hS (lv_sub hl [] rfl)
      · have g_617 : gi v3 0 23 := gi_lt_l (Int32.not_le.mp c_616) gv3 gmi_0 (by decide)
        have g_618 : gi (mi 0) 1 24 := gi_lt_r (Int32.not_le.mp c_616) gv3 gmi_0 (by decide)
        refine lv_iload_n hx hb dX12_date_38 rfl (lv_at hl 2 rfl) ?_
        refine lv_i2l (v := (p2).toInt64) hx hb dX12_date_39 rfl ?_
        refine lv_topl (fun l_619 el_619 => ?_)
        refine lv_aload_n hx hb dX12_date_40 rfl (lv_at hl 0 rfl) ?_
        refine va_get (D := (dC, dI)) (ci := 12) (v := .ref (mr 20)) (C := RX12) (T := TX12) (N := 57) hx hb hts (fun w h => List.mem_cons_of_mem _ (jnGB_X12 w h)) hown hK hP 0 rfl rfl 46 (by decide) (hts _ (List.mem_cons_of_mem _ mGB_36)) (fun _ h9 => h9) rfl dX12_date_41 ?_
        refine lv_iload_n hx hb dX12_date_44 rfl (lv_at hl 3 rfl) ?_
        refine va_iald hx hb hK hP 21 20 rfl rfl (gi_in g_617 (by decide)) dX12_date_45 ?_
        refine lv_topi (fun x_620 ex_620 => ?_)
        refine lv_i2l (v := (x_620).toInt64) hx hb dX12_date_46 rfl ?_
        refine lv_topl (fun l_621 el_621 => ?_)
        refine lv_aload_n hx hb dX12_date_47 rfl (lv_at hl 0 rfl) ?_
        refine va_get (D := (dC, dI)) (ci := 12) (v := .ref (mr 20)) (C := RX12) (T := TX12) (N := 57) hx hb hts (fun w h => List.mem_cons_of_mem _ (jnGB_X12 w h)) hown hK hP 0 rfl rfl 46 (by decide) (hts _ (List.mem_cons_of_mem _ mGB_36)) (fun _ h9 => h9) rfl dX12_date_48 ?_
        refine lv_iload_n hx hb dX12_date_51 rfl (lv_at hl 3 rfl) ?_
        refine lv_iconst (v := 1) hx hb dX12_date_52 (by decide) ?_
        refine lv_iadd hx hb dX12_date_53 ?_
        refine lv_topi (fun x_622 ex_622 => ?_)
        have gx_622 : gi x_622 1 24 := gi_add ex_622 g_617 (gi_c 1 1 (by decide)) (by decide)
        refine va_iald hx hb hK hP 21 20 rfl rfl (gi_in gx_622 (by decide)) dX12_date_54 ?_
        refine lv_topi (fun x_623 ex_623 => ?_)
        refine lv_iconst (v := 1) hx hb dX12_date_55 (by decide) ?_
        refine lv_isub hx hb dX12_date_56 ?_
        refine lv_topi (fun x_624 ex_624 => ?_)
        refine lv_i2l (v := (x_624).toInt64) hx hb dX12_date_57 rfl ?_
        refine lv_topl (fun l_625 el_625 => ?_)
        have hPc := hP.sub (ws' := []) [] rfl
        have hKc := hK.sub (tys' := []) [] rfl
        refine va_calli (va_runS (As := [.long l_619, .long l_621, .long l_625]) (rest := []) ⟨hx, hb, hml, hown, hts⟩ (sX12_in l dC dI l_619 l_621 l_625) (cwS 3 hts (gz_gS mGB_47 mGB_48 mGB_1 mGB_49 goodGB) rfl rfl rfl (by decide +kernel) ⟨Nat.le_trans (Nat.le_of_ble_eq_true rfl) hRf, Nat.le_trans (Nat.le_of_ble_eq_true rfl) hRl⟩) ⟨bl_R, fun U hU hW => ⟨rfl, by rw [hU]; exact hPc, va_K.moved hW.alike hKc⟩⟩ rfl rfl hl.1 rfl (lv_room (Nat.le_of_ble_eq_true rfl)) dX12_date_58 ⟨hRc, hRs⟩) hS (fun q _ h => h.elim) (fun q h => h.elim) (fun r_626 u t H1 locs ht hvm hw hB hz1 hk1 hS => ?_)
        obtain ⟨hw, hE⟩ := hw
        have hP := gz_keep hP hk1
        generalize H1 = H at hP hS ⊢
        have gr_626 : gi r_626 0 1 := hw.1
        have hqr_626 := hw.2
        refine lv_if_eq (tgt := 80) hx hb dX12_date_61 (by decide) (fun c_627 => ?_) (fun c_627 => ?_)
        · have g_628 : gi r_626 0 0 := gi_eq c_627 (gi_c 0 0 (by decide))
          obtain ⟨x_629, ex_629⟩ : ∃ y : Int32, y = v3 + 1 := ⟨_, rfl⟩
          have gx_629 : gi x_629 1 24 := gi_add ex_629 g_617 (gi_c 1 1 (by decide)) (by decide)
          refine lv_iinc (v := x_629) (lv' := [(3, .int x_629), (0, .ref h0), (1, .int p1), (2, .int p2)]) hx hb dX12_date_80 hl (k := 3) rfl (by rw [ex_629]; rfl) (by decide) rfl (fun ls hl => ?_)
          refine lv_goto (tgt := 30) hx hb dX12_date_83 (by decide) ?_
          exact ih x_629 w0_37 w0_41 z1 z2 z3 z4 z5 z6 z15 _ _ _ gf_p1 gf_p2 (gi_w gx_629 (by decide)) gw0_37 gw0_41 gz6 (by have av3 := gv3.1; have bv3 := gv3.2; have qgx_629 := gx_629.1; have rgx_629 := gx_629.2; have igx_629 : x_629.toInt = v3.toInt + 1 := (by have hc1 : (1 : Int32).toInt = 1 := (by decide); have h9 := gi_addI ex_629 (by have h1 := g_617.1; have h2 := (gi_c 1 1 (by decide)).1; have h3 := g_617.2; have h4 := (gi_c 1 1 (by decide)).2; omega) (by have h1 := g_617.1; have h2 := (gi_c 1 1 (by decide)).1; have h3 := g_617.2; have h4 := (gi_c 1 1 (by decide)).2; omega); rw [hc1] at h9; exact h9); have qgv3 := g_617.1; have rgv3 := g_617.2; omega) hP hD hS (lv_sub hl [1, 2, 3, 0] rfl)
        · have g_630 : gi r_626 1 1 := gi_ne_lo c_627 gr_626 (gi_c 0 0 (by decide)) (by decide)
          refine lv_bipush (v := 100) hx hb dX12_date_64 (by decide) ?_
          refine lv_iload_n hx hb dX12_date_66 rfl (lv_at hl 3 rfl) ?_
          refine lv_imul hx hb dX12_date_67 ?_
          refine lv_topi (fun x_631 ex_631 => ?_)
          have gx_631 : gi x_631 0 2300 := gi_mul ex_631 (gi_c 100 100 (by decide)) g_617 (by decide)
          refine lv_iload_n hx hb dX12_date_68 rfl (lv_at hl 2 rfl) ?_
          refine lv_iadd hx hb dX12_date_69 ?_
          refine lv_topi (fun x_632 ex_632 => ?_)
          have gx_632 : gi x_632 0 3299 := gi_add ex_632 gx_631 gf_p2 (by decide)
          refine lv_aload_n hx hb dX12_date_70 rfl (lv_at hl 0 rfl) ?_
          refine va_get (D := (dC, dI)) (ci := 12) (v := .ref (mr 20)) (C := RX12) (T := TX12) (N := 57) hx hb hts (fun w h => List.mem_cons_of_mem _ (jnGB_X12 w h)) hown hK hP 0 rfl rfl 46 (by decide) (hts _ (List.mem_cons_of_mem _ mGB_36)) (fun _ h9 => h9) rfl dX12_date_71 ?_
          refine lv_iload_n hx hb dX12_date_74 rfl (lv_at hl 3 rfl) ?_
          refine va_iald hx hb hK hP 21 20 rfl rfl (gi_in g_617 (by decide)) dX12_date_75 ?_
          refine lv_topi (fun x_633 ex_633 => ?_)
          refine lv_isub hx hb dX12_date_76 ?_
          refine lv_topi (fun x_634 ex_634 => ?_)
          refine lv_iconst (v := 1) hx hb dX12_date_77 (by decide) ?_
          refine lv_iadd hx hb dX12_date_78 ?_
          refine lv_topi (fun x_635 ex_635 => ?_)
          exact kr79 x_635 w0_37 w0_41 z1 z2 z3 z4 z5 z6 z15 _ _ _ gw0_37 gw0_41 gz6 hP hD hS (lv_sub hl [] rfl)
abbrev pb_sX12_date (dC : Nat → ClassId) (dI : Nat → Nat → Nat) (A9 : Nat → Prop) (h0 : Nat) (mi : Nat → Int32) (mr : Nat → Nat) (km : Nat → ClassId) (fm_must : Nat → Int32) (fm_least : Nat → Int32) (fm_pin : Nat → Int32) (fm_ways : Nat → Int32) (fm_verdict : Nat → Int32) (fm_row : Nat → Int32) (fm_struck : Nat → Int32) (fm_reportKnown : Nat → Int32) (fm_reportPlace : Nat → Int32) (fm_reportMonth : Nat → Int32) (fm_reportDay : Nat → Int32) (fm_reportKind : Nat → Int32) (fm_trust : Nat → Int32) (fm_letter : Nat → Int32) (fm_official : Nat → Int32) (fm_deedMonth : Nat → Int32) (fm_deedDay : Nat → Int32) (fm_deedLong : Nat → Int32) (fm_deedKind : Nat → Int32) (fm_kept : Nat → Int32) (fm_tape : Nat → Int32) (fm_aside : Nat → Int32) (fm_worth : Nat → Int32) (fm_out : Nat → Int32) (p1 : Int32) (p2 : Int32) (w0_37 : Int32) (w0_41 : Int32) (z1 : Nat → Int32) (z2 : Nat → Int32) (z3 : Nat → Int32) (z4 : Nat → Int32) (z5 : Nat → Int32) (z6 : Nat → Int32) (z15 : Nat → Int32) (t : State) : Prop := gi w0_37 0 1 ∧ gi w0_41 0 24 ∧ ga z6 24 0 23 ∧ va_P (dC, dI) vwCl (MWn h0 mr km (mi 0) (mi 1) (mi 2) (mi 3) (mi 4) (mi 5) (mi 6) (mi 7) (mi 10) (mi 17) (mi 23) (mi 24) (mi 26) (mi 27) (mi 28) (mi 29) (mi 30) (mi 31) (mi 32) (mi 33) w0_37 w0_41 (mi 42) (mi 43) (mi 44) (mi 45) (mi 47) (mi 48) (mi 49) (mi 50) (mi 51) (mi 54) (mi 56) fm_trust fm_letter fm_reportPlace fm_reportKind fm_struck fm_reportMonth fm_reportDay fm_reportKnown fm_deedMonth fm_deedDay fm_deedLong fm_deedKind fm_kept fm_tape z1 z2 z3 z4 z5 z6 z15 fm_aside fm_worth fm_out) t.heap ∧ va_D A9 (MWn h0 mr km (mi 0) (mi 1) (mi 2) (mi 3) (mi 4) (mi 5) (mi 6) (mi 7) (mi 10) (mi 17) (mi 23) (mi 24) (mi 26) (mi 27) (mi 28) (mi 29) (mi 30) (mi 31) (mi 32) (mi 33) w0_37 w0_41 (mi 42) (mi 43) (mi 44) (mi 45) (mi 47) (mi 48) (mi 49) (mi 50) (mi 51) (mi 54) (mi 56) fm_trust fm_letter fm_reportPlace fm_reportKind fm_struck fm_reportMonth fm_reportDay fm_reportKnown fm_deedMonth fm_deedDay fm_deedLong fm_deedKind fm_kept fm_tape z1 z2 z3 z4 z5 z6 z15 fm_aside fm_worth fm_out)
set_option maxHeartbeats 4000000 in
set_option maxRecDepth 100000 in
theorem sX12_date (l : Launch) (dC : Nat → ClassId) (dI : Nat → Nat → Nat) (sz : Nat) (h0 : Nat) (mi : Nat → Int32) (mr : Nat → Nat) (km : Nat → ClassId) (fm_must : Nat → Int32) (fm_least : Nat → Int32) (fm_pin : Nat → Int32) (fm_ways : Nat → Int32) (fm_verdict : Nat → Int32) (fm_row : Nat → Int32) (fm_struck : Nat → Int32) (fm_reportKnown : Nat → Int32) (fm_reportPlace : Nat → Int32) (fm_reportMonth : Nat → Int32) (fm_reportDay : Nat → Int32) (fm_reportKind : Nat → Int32) (fm_trust : Nat → Int32) (fm_letter : Nat → Int32) (fm_official : Nat → Int32) (fm_deedMonth : Nat → Int32) (fm_deedDay : Nat → Int32) (fm_deedLong : Nat → Int32) (fm_deedKind : Nat → Int32) (fm_kept : Nat → Int32) (fm_tape : Nat → Int32) (fm_aside : Nat → Int32) (fm_worth : Nat → Int32) (fm_out : Nat → Int32) (p1 : Int32) (p2 : Int32) (gmi_0 : gi (mi 0) 0 24) (gmi_1 : gi (mi 1) 0 5) (gmi_2 : gi (mi 2) 0 5) (gmi_4 : gi (mi 4) 0 1) (gmi_7 : gi (mi 7) 0 6) (gmi_10 : gi (mi 10) 0 24) (gmi_17 : gi (mi 17) 0 8) (gmi_23 : gi (mi 23) 0 300) (gmi_24 : gi (mi 24) 0 1) (gmi_26 : gi (mi 26) 0 1600) (gmi_29 : gi (mi 29) 0 1600) (gmi_30 : gi (mi 30) 0 1600) (gmi_33 : gi (mi 33) 0 1) (gmi_37 : gi (mi 37) 0 1) (gmi_41 : gi (mi 41) 0 24) (gmi_50 : gi (mi 50) 0 1) (gmi_51 : gi (mi 51) 0 1) (gmi_56 : gi (mi 56) 0 80) (gfm_row : ga fm_row 24 0 23) (gfm_struck : ga fm_struck 24 0 1) (gfm_reportKnown : ga fm_reportKnown 24 0 999) (gfm_reportPlace : ga fm_reportPlace 24 0 5) (gfm_reportMonth : ga fm_reportMonth 24 0 23) (gfm_reportDay : ga fm_reportDay 24 0 999) : Met l yX12_date (.code yX12_date cX12_date 4 (some .int) :: wsGB) ({ frames := 6, cells := 0, slots := 0, locals := 140 }) (va_Pc [.ref h0, .int p1, .int p2] (fun U => U.heap.size = sz ∧ va_P (dC, dI) vwCl (MWn h0 mr km (mi 0) (mi 1) (mi 2) (mi 3) (mi 4) (mi 5) (mi 6) (mi 7) (mi 10) (mi 17) (mi 23) (mi 24) (mi 26) (mi 27) (mi 28) (mi 29) (mi 30) (mi 31) (mi 32) (mi 33) (mi 37) (mi 41) (mi 42) (mi 43) (mi 44) (mi 45) (mi 47) (mi 48) (mi 49) (mi 50) (mi 51) (mi 54) (mi 56) fm_trust fm_letter fm_reportPlace fm_reportKind fm_struck fm_reportMonth fm_reportDay fm_reportKnown fm_deedMonth fm_deedDay fm_deedLong fm_deedKind fm_kept fm_tape fm_must fm_least fm_pin fm_ways fm_verdict fm_row fm_official fm_aside fm_worth fm_out) U.heap ∧ va_K (dC, dI) vwCl (MT km) U ∧ va_D (fun _ => True) (MWn h0 mr km (mi 0) (mi 1) (mi 2) (mi 3) (mi 4) (mi 5) (mi 6) (mi 7) (mi 10) (mi 17) (mi 23) (mi 24) (mi 26) (mi 27) (mi 28) (mi 29) (mi 30) (mi 31) (mi 32) (mi 33) (mi 37) (mi 41) (mi 42) (mi 43) (mi 44) (mi 45) (mi 47) (mi 48) (mi 49) (mi 50) (mi 51) (mi 54) (mi 56) fm_trust fm_letter fm_reportPlace fm_reportKind fm_struck fm_reportMonth fm_reportDay fm_reportKnown fm_deedMonth fm_deedDay fm_deedLong fm_deedKind fm_kept fm_tape fm_must fm_least fm_pin fm_ways fm_verdict fm_row fm_official fm_aside fm_worth fm_out))) (va_Qi (fun (r : Int32) (u : Unit) => gi r (-2147483648) 2147483647) (fun _ t => ∃ (w0_37 : Int32) (w0_41 : Int32) (z1 : Nat → Int32) (z2 : Nat → Int32) (z3 : Nat → Int32) (z4 : Nat → Int32) (z5 : Nat → Int32) (z6 : Nat → Int32) (z15 : Nat → Int32), pb_sX12_date dC dI (va_A (MWn h0 mr km (mi 0) (mi 1) (mi 2) (mi 3) (mi 4) (mi 5) (mi 6) (mi 7) (mi 10) (mi 17) (mi 23) (mi 24) (mi 26) (mi 27) (mi 28) (mi 29) (mi 30) (mi 31) (mi 32) (mi 33) (mi 37) (mi 41) (mi 42) (mi 43) (mi 44) (mi 45) (mi 47) (mi 48) (mi 49) (mi 50) (mi 51) (mi 54) (mi 56) fm_trust fm_letter fm_reportPlace fm_reportKind fm_struck fm_reportMonth fm_reportDay fm_reportKnown fm_deedMonth fm_deedDay fm_deedLong fm_deedKind fm_kept fm_tape fm_must fm_least fm_pin fm_ways fm_verdict fm_row fm_official fm_aside fm_worth fm_out) sz) h0 mi mr km fm_must fm_least fm_pin fm_ways fm_verdict fm_row fm_struck fm_reportKnown fm_reportPlace fm_reportMonth fm_reportDay fm_reportKind fm_trust fm_letter fm_official fm_deedMonth fm_deedDay fm_deedLong fm_deedKind fm_kept fm_tape fm_aside fm_worth fm_out p1 p2 w0_37 w0_41 z1 z2 z3 z4 z5 z6 z15 t) (va_A (MWn h0 mr km (mi 0) (mi 1) (mi 2) (mi 3) (mi 4) (mi 5) (mi 6) (mi 7) (mi 10) (mi 17) (mi 23) (mi 24) (mi 26) (mi 27) (mi 28) (mi 29) (mi 30) (mi 31) (mi 32) (mi 33) (mi 37) (mi 41) (mi 42) (mi 43) (mi 44) (mi 45) (mi 47) (mi 48) (mi 49) (mi 50) (mi 51) (mi 54) (mi 56) fm_trust fm_letter fm_reportPlace fm_reportKind fm_struck fm_reportMonth fm_reportDay fm_reportKnown fm_deedMonth fm_deedDay fm_deedLong fm_deedKind fm_kept fm_tape fm_must fm_least fm_pin fm_ways fm_verdict fm_row fm_official fm_aside fm_worth fm_out) sz)) 0 0 (va_A (MWn h0 mr km (mi 0) (mi 1) (mi 2) (mi 3) (mi 4) (mi 5) (mi 6) (mi 7) (mi 10) (mi 17) (mi 23) (mi 24) (mi 26) (mi 27) (mi 28) (mi 29) (mi 30) (mi 31) (mi 32) (mi 33) (mi 37) (mi 41) (mi 42) (mi 43) (mi 44) (mi 45) (mi 47) (mi 48) (mi 49) (mi 50) (mi 51) (mi 54) (mi 56) fm_trust fm_letter fm_reportPlace fm_reportKind fm_struck fm_reportMonth fm_reportDay fm_reportKnown fm_deedMonth fm_deedDay fm_deedLong fm_deedKind fm_kept fm_tape fm_must fm_least fm_pin fm_ways fm_verdict fm_row fm_official fm_aside fm_worth fm_out) sz) := by
  refine Met.ofW (cc := cX12_date) (maxL := 4) (ret := (some .int)) (by decide) rfl ?_
  intro p e s m args below meth c s₁ B hml hv
  obtain ⟨rfl, hsz, hP, hK, hD0⟩ := hv
  have hx := B.exec
  have hb := B.bytes
  have hr := B.returns
  have hts := atoms_spec (ws := (.code yX12_date cX12_date 4 (some .int) :: wsGB)) B.pre
  have hown : s.vm.findClass RX12 = some m.cls := findClass_of_methodNamed B.named
  have hlocks := B.notSynchronized
  subst hsz
  have hD := hD0.self (sz := s.heap.size)
  generalize hAe : va_A (MWn h0 mr km (mi 0) (mi 1) (mi 2) (mi 3) (mi 4) (mi 5) (mi 6) (mi 7) (mi 10) (mi 17) (mi 23) (mi 24) (mi 26) (mi 27) (mi 28) (mi 29) (mi 30) (mi 31) (mi 32) (mi 33) (mi 37) (mi 41) (mi 42) (mi 43) (mi 44) (mi 45) (mi 47) (mi 48) (mi 49) (mi 50) (mi 51) (mi 54) (mi 56) fm_trust fm_letter fm_reportPlace fm_reportKind fm_struck fm_reportMonth fm_reportDay fm_reportKnown fm_deedMonth fm_deedDay fm_deedLong fm_deedKind fm_kept fm_tape fm_must fm_least fm_pin fm_ways fm_verdict fm_row fm_official fm_aside fm_worth fm_out) s.heap.size = A at hD ⊢
  have hA : ∀ q : Nat, s.heap.size ≤ q → A q := fun q h => by rw [← hAe]; exact Or.inr h
  have hS : va_S A s.heap s.heap [] := va_S.rf
  have hl := lv_entry ([.ref h0, .int p1, .int p2]) (n := 4) (Nat.le_of_ble_eq_true rfl)
  rw [lg_entry_eq]
  generalize (lg_sl ([.ref h0, .int p1, .int p2]) ++ List.replicate (4 - (lg_sl ([.ref h0, .int p1, .int p2])).length) Slot.unset).toArray = ls at hl ⊢
  have hl : lv_has ls 4 [(0, .ref h0), (1, .int p1), (2, .int p2)] := hl
  refine lv_aload_n hx hb dX12_date_0 rfl (lv_at hl 0 rfl) ?_
  refine lv_iload_n hx hb dX12_date_1 rfl (lv_at hl 1 rfl) ?_
  refine va_calli (va_runV (As := [.int p1]) (rest := []) ⟨hx, hb, hml, hown, hts⟩ (sX12_isTime l dC dI h0 mi mr km fm_trust fm_letter fm_reportPlace fm_reportKind fm_struck fm_reportMonth fm_reportDay fm_reportKnown fm_deedMonth fm_deedDay fm_deedLong fm_deedKind fm_kept fm_tape fm_must fm_least fm_pin fm_ways fm_verdict fm_row fm_official fm_aside fm_worth fm_out p1 gmi_0 gmi_1 gmi_2 gmi_4 gmi_7 gmi_10 gmi_17 gmi_23 gmi_24 gmi_26 gmi_29 gmi_30 gmi_33 gmi_37 gmi_41 gmi_50 gmi_51 gmi_56) (cwV 1 hts (gz_gV mGB_256 mGB_257 mGB_258 mGB_1 mGB_259 goodGB) rfl rfl rfl (by decide +kernel) ⟨Nat.le_of_ble_eq_true rfl, Nat.le_of_ble_eq_true rfl⟩) ⟨bl_R, mw_recv hK hP, fun U hU hW => ⟨rfl, by rw [hU]; exact hP, va_K.moved hW.alike hK⟩⟩ rfl rfl hl.1 rfl (lv_room (Nat.le_of_ble_eq_true rfl)) dX12_date_2 ⟨Nat.zero_le _, Nat.zero_le _⟩) hS (fun q _ h => h.elim) (fun q h => h.elim) (fun r_636 u t H1 locs ht hvm hw hB hz1 hk1 hS => ?_)
  obtain ⟨hw, hE⟩ := hw
  have hP := gz_keep hP hk1
  generalize H1 = H at hP hS ⊢
  have gr_636 : gi r_636 0 1 := hw.1
  have hqr_636 := hw.2
  refine lv_if_eq (tgt := 20) hx hb dX12_date_5 (by decide) (fun c_637 => ?_) (fun c_637 => ?_)
  · have g_638 : gi r_636 0 0 := gi_eq c_637 (gi_c 0 0 (by decide))
    refine lv_bipush (v := (-2)) hx hb dX12_date_20 (by decide) ?_
    exact W.iret (v := (-2)) hx hb hr (fun t ht hW => ⟨⟨(-2), (), rfl, (gi_any (-2)), (mi 37), (mi 41), fm_must, fm_least, fm_pin, fm_ways, fm_verdict, fm_row, fm_official, gmi_37, gmi_41, gfm_row, by rw [ht]; exact hP, hD⟩, hS.F ht⟩) hS.2.2 dX12_date_22
  · have g_639 : gi r_636 1 1 := gi_ne_lo c_637 gr_636 (gi_c 0 0 (by decide)) (by decide)
    have g_640 : gi p1 0 999 := gi_cap (gi_any p1) (hqr_636 (gz_one g_639)) (by decide)
    refine lv_iload_n hx hb dX12_date_8 rfl (lv_at hl 2 rfl) ?_
    refine lv_i2l (v := (p2).toInt64) hx hb dX12_date_9 rfl ?_
    refine lv_topl (fun l_641 el_641 => ?_)
    refine lv_lconst (v := 0) hx hb dX12_date_10 (by decide) ?_
    refine lv_ldc2 (own := RX12) (v := 999) hx hb hown (hts _ (List.mem_cons_of_mem _ mGB_260)) dX12_date_11 ?_
    have hPc := hP.sub (ws' := []) [] rfl
    have hKc := hK.sub (tys' := []) [] rfl
    refine va_calli (va_runS (As := [.long l_641, .long 0, .long 999]) (rest := []) ⟨hx, hb, hml, hown, hts⟩ (sX12_in l dC dI l_641 0 999) (cwS 3 hts (gz_gS mGB_47 mGB_48 mGB_1 mGB_49 goodGB) rfl rfl rfl (by decide +kernel) ⟨Nat.le_of_ble_eq_true rfl, Nat.le_of_ble_eq_true rfl⟩) ⟨bl_R, fun U hU hW => ⟨rfl, by rw [hU]; exact hPc, va_K.moved hW.alike hKc⟩⟩ rfl rfl hl.1 rfl (lv_room (Nat.le_of_ble_eq_true rfl)) dX12_date_14 ⟨Nat.zero_le _, Nat.zero_le _⟩) hS (fun q _ h => h.elim) (fun q h => h.elim) (fun r_642 u t H1 locs ht hvm hw hB hz1 hk1 hS => ?_)
    obtain ⟨hw, hE⟩ := hw
    have hP := gz_keep hP hk1
    generalize H1 = H at hP hS ⊢
    have gr_642 : gi r_642 0 1 := hw.1
    have hqr_642 := hw.2
    refine lv_if_ne (tgt := 23) hx hb dX12_date_17 (by decide) (fun c_643 => ?_) (fun c_643 => ?_)
    · have g_644 : gi r_642 1 1 := gi_ne_lo c_643 gr_642 (gi_c 0 0 (by decide)) (by decide)
      have g_645 : gi p2 0 999 := gi_cap (gi_any p2) (gz_inr (hqr_642.1 (gz_one g_644)) el_641 (A := 0) (B := 999) (by decide) (by decide)) (by decide)
      refine lv_aload_n hx hb dX12_date_23 rfl (lv_at hl 0 rfl) ?_
      refine lv_iload_n hx hb dX12_date_24 rfl (lv_at hl 1 rfl) ?_
      have hFc := gz_fullF hD hS hA
      refine va_callv (va_runV (As := [.int p1]) (rest := []) ⟨hx, hb, hml, hown, hts⟩ (sX12_officialBy l dC dI H.size h0 mi mr km fm_must fm_least fm_pin fm_ways fm_verdict fm_row fm_struck fm_reportKnown fm_reportPlace fm_reportMonth fm_reportDay fm_reportKind fm_trust fm_letter fm_official fm_deedMonth fm_deedDay fm_deedLong fm_deedKind fm_kept fm_tape fm_aside fm_worth fm_out p1 gmi_0 gmi_1 gmi_2 gmi_4 gmi_7 gmi_10 gmi_17 gmi_23 gmi_24 gmi_26 gmi_29 gmi_30 gmi_33 gmi_37 gmi_41 gmi_50 gmi_51 gmi_56 gfm_row gfm_struck gfm_reportKnown gfm_reportPlace gfm_reportMonth gfm_reportDay) (cwV 1 hts (gz_gV mGB_358 mGB_359 mGB_360 mGB_1 mGB_361 goodGB) rfl rfl rfl (by decide +kernel) ⟨Nat.le_of_ble_eq_true rfl, Nat.le_of_ble_eq_true rfl⟩) ⟨bl_W, mw_recv hK hP, fun U hU hW => ⟨rfl, by rw [hU], by rw [hU]; exact hP, va_K.moved hW.alike hK, hD.weaken (fun _ _ _ _ => trivial)⟩⟩ rfl rfl hl.1 rfl (lv_room (Nat.le_of_ble_eq_true rfl)) dX12_date_25 ⟨Nat.zero_le _, Nat.zero_le _⟩) hS (fun q _ h => hFc q h) hFc (fun u t H1 locs ht hvm hw hB hz1 hk1 hS => ?_)
      obtain ⟨y_647, y_648, f_649, f_650, f_651, f_652, f_653, f_654, f_655, hB⟩ := hB
      obtain ⟨gy_647, gy_648, gf_654, hP1, hD1⟩ := hB
      rw [ht] at hP1
      have hD : va_D A (MWn h0 mr km (mi 0) (mi 1) (mi 2) (mi 3) (mi 4) (mi 5) (mi 6) (mi 7) (mi 10) (mi 17) (mi 23) (mi 24) (mi 26) (mi 27) (mi 28) (mi 29) (mi 30) (mi 31) (mi 32) (mi 33) y_647 y_648 (mi 42) (mi 43) (mi 44) (mi 45) (mi 47) (mi 48) (mi 49) (mi 50) (mi 51) (mi 54) (mi 56) fm_trust fm_letter fm_reportPlace fm_reportKind fm_struck fm_reportMonth fm_reportDay fm_reportKnown fm_deedMonth fm_deedDay fm_deedLong fm_deedKind fm_kept fm_tape f_649 f_650 f_651 f_652 f_653 f_654 f_655 fm_aside fm_worth fm_out) := gz_fullD hFc hD1
      have hP : va_P (dC, dI) vwCl (MWn h0 mr km (mi 0) (mi 1) (mi 2) (mi 3) (mi 4) (mi 5) (mi 6) (mi 7) (mi 10) (mi 17) (mi 23) (mi 24) (mi 26) (mi 27) (mi 28) (mi 29) (mi 30) (mi 31) (mi 32) (mi 33) y_647 y_648 (mi 42) (mi 43) (mi 44) (mi 45) (mi 47) (mi 48) (mi 49) (mi 50) (mi 51) (mi 54) (mi 56) fm_trust fm_letter fm_reportPlace fm_reportKind fm_struck fm_reportMonth fm_reportDay fm_reportKnown fm_deedMonth fm_deedDay fm_deedLong fm_deedKind fm_kept fm_tape f_649 f_650 f_651 f_652 f_653 f_654 f_655 fm_aside fm_worth fm_out) H1 := hP1
      generalize H1 = H at hP hS ⊢
      refine lv_iconst (v := 0) hx hb dX12_date_28 (by decide) ?_
      refine lv_istore_n (lv' := [(3, .int 0), (0, .ref h0), (1, .int p1), (2, .int p2)]) hx hb dX12_date_29 rfl hl (by decide) rfl (fun ls hl => ?_)
      refine (lp_sX12_date h0 mi mr km fm_must fm_least fm_pin fm_ways fm_verdict fm_row fm_struck fm_reportKnown fm_reportPlace fm_reportMonth fm_reportDay fm_reportKind fm_trust fm_letter fm_official fm_deedMonth fm_deedDay fm_deedLong fm_deedKind fm_kept fm_tape fm_aside fm_worth fm_out p1 p2 gmi_0 gmi_1 gmi_2 gmi_4 gmi_7 gmi_10 gmi_17 gmi_23 gmi_24 gmi_26 gmi_29 gmi_30 gmi_33 gmi_37 gmi_41 gmi_50 gmi_51 gmi_56 gfm_row gfm_struck gfm_reportKnown gfm_reportPlace gfm_reportMonth gfm_reportDay hx hb hml hown hts hK hA (Nat.le_of_ble_eq_true rfl) (Nat.le_of_ble_eq_true rfl) (Nat.zero_le _) (Nat.zero_le _) (fun v w0_37 w0_41 z1 z2 z3 z4 z5 z6 z15 H locs ls gv gw0_37 gw0_41 gz6 hP hD hS hl => ?_) (fun v w0_37 w0_41 z1 z2 z3 z4 z5 z6 z15 H locs ls gv gw0_37 gw0_41 gz6 hP hD hS hl => ?_) (fun v w0_37 w0_41 z1 z2 z3 z4 z5 z6 z15 H locs ls gw0_37 gw0_41 gz6 hP hD hS hl => ?_) 62) 0 y_647 y_648 f_649 f_650 f_651 f_652 f_653 f_654 f_655 _ _ _ g_640 g_645 (gi_w (gi_c 0 0 (by decide)) (by decide)) gy_647 gy_648 gf_654 (by have k0 : (0 : Int32).toInt = 0 := (by decide); omega) hP hD hS (lv_sub hl [1, 2, 3, 0] rfl)
      · skip
        exact W.iret (v := v) hx hb hr (fun t ht hW => ⟨⟨v, (), rfl, (gi_any v), w0_37, w0_41, z1, z2, z3, z4, z5, z6, z15, gw0_37, gw0_41, gz6, by rw [ht]; exact hP, hD⟩, hS.F ht⟩) hS.2.2 dX12_date_22
      · skip
        exact W.iret (v := v) hx hb hr (fun t ht hW => ⟨⟨v, (), rfl, (gi_any v), w0_37, w0_41, z1, z2, z3, z4, z5, z6, z15, gw0_37, gw0_41, gz6, by rw [ht]; exact hP, hD⟩, hS.F ht⟩) hS.2.2 dX12_date_87
      · skip
        exact W.iret (v := v) hx hb hr (fun t ht hW => ⟨⟨v, (), rfl, (gi_any v), w0_37, w0_41, z1, z2, z3, z4, z5, z6, z15, gw0_37, gw0_41, gz6, by rw [ht]; exact hP, hD⟩, hS.F ht⟩) hS.2.2 dX12_date_79
    · have g_656 : gi r_642 0 0 := gi_eq c_643 (gi_c 0 0 (by decide))
      refine lv_bipush (v := (-2)) hx hb dX12_date_20 (by decide) ?_
      exact W.iret (v := (-2)) hx hb hr (fun t ht hW => ⟨⟨(-2), (), rfl, (gi_any (-2)), (mi 37), (mi 41), fm_must, fm_least, fm_pin, fm_ways, fm_verdict, fm_row, fm_official, gmi_37, gmi_41, gfm_row, by rw [ht]; exact hP, hD⟩, hS.F ht⟩) hS.2.2 dX12_date_22
theorem dX12_dates_0 : decode cX12_dates 0 = .ok (.aload_n 0, 1) := by decide +kernel
theorem dX12_dates_1 : decode cX12_dates 1 = .ok (.iload_n 1, 1) := by decide +kernel
theorem dX12_dates_2 : decode cX12_dates 2 = .ok (.invokevirtual 359, 3) := by decide +kernel
theorem dX12_dates_5 : decode cX12_dates 5 = .ok (.ifCond .eq 15, 3) := by decide +kernel
theorem dX12_dates_8 : decode cX12_dates 8 = .ok (.iload_n 2, 1) := by decide +kernel
theorem dX12_dates_9 : decode cX12_dates 9 = .ok (.i2l, 1) := by decide +kernel
theorem dX12_dates_10 : decode cX12_dates 10 = .ok (.lconst 0, 1) := by decide +kernel
theorem dX12_dates_11 : decode cX12_dates 11 = .ok (.ldc2_w 292, 3) := by decide +kernel
theorem dX12_dates_14 : decode cX12_dates 14 = .ok (.invokestatic 102, 3) := by decide +kernel
theorem dX12_dates_17 : decode cX12_dates 17 = .ok (.ifCond .ne 6, 3) := by decide +kernel
theorem dX12_dates_20 : decode cX12_dates 20 = .ok (.bipush (-2), 2) := by decide +kernel
theorem dX12_dates_22 : decode cX12_dates 22 = .ok (.ireturn, 1) := by decide +kernel
theorem dX12_dates_23 : decode cX12_dates 23 = .ok (.aload_n 0, 1) := by decide +kernel
theorem dX12_dates_24 : decode cX12_dates 24 = .ok (.iload_n 1, 1) := by decide +kernel
theorem dX12_dates_25 : decode cX12_dates 25 = .ok (.invokevirtual 362, 3) := by decide +kernel
theorem dX12_dates_28 : decode cX12_dates 28 = .ok (.iconst 0, 1) := by decide +kernel
theorem dX12_dates_29 : decode cX12_dates 29 = .ok (.istore_n 3, 1) := by decide +kernel
theorem dX12_dates_30 : decode cX12_dates 30 = .ok (.iconst 0, 1) := by decide +kernel
theorem dX12_dates_31 : decode cX12_dates 31 = .ok (.istore 4, 2) := by decide +kernel
theorem dX12_dates_33 : decode cX12_dates 33 = .ok (.iload 4, 2) := by decide +kernel
theorem dX12_dates_35 : decode cX12_dates 35 = .ok (.aload_n 0, 1) := by decide +kernel
theorem dX12_dates_36 : decode cX12_dates 36 = .ok (.getfield 117, 3) := by decide +kernel
theorem dX12_dates_39 : decode cX12_dates 39 = .ok (.if_icmp .ge 45, 3) := by decide +kernel
theorem dX12_dates_42 : decode cX12_dates 42 = .ok (.iconst 1, 1) := by decide +kernel
theorem dX12_dates_43 : decode cX12_dates 43 = .ok (.istore 5, 2) := by decide +kernel
theorem dX12_dates_45 : decode cX12_dates 45 = .ok (.iload 5, 2) := by decide +kernel
theorem dX12_dates_47 : decode cX12_dates 47 = .ok (.bipush 30, 2) := by decide +kernel
theorem dX12_dates_49 : decode cX12_dates 49 = .ok (.if_icmp .gt 29, 3) := by decide +kernel
theorem dX12_dates_52 : decode cX12_dates 52 = .ok (.iload_n 3, 1) := by decide +kernel
theorem dX12_dates_53 : decode cX12_dates 53 = .ok (.aload_n 0, 1) := by decide +kernel
theorem dX12_dates_54 : decode cX12_dates 54 = .ok (.iload 4, 2) := by decide +kernel
theorem dX12_dates_56 : decode cX12_dates 56 = .ok (.iload 5, 2) := by decide +kernel
theorem dX12_dates_58 : decode cX12_dates 58 = .ok (.iload_n 2, 1) := by decide +kernel
theorem dX12_dates_59 : decode cX12_dates 59 = .ok (.invokevirtual 415, 3) := by decide +kernel
theorem dX12_dates_62 : decode cX12_dates 62 = .ok (.ifCond .le 7, 3) := by decide +kernel
theorem dX12_dates_65 : decode cX12_dates 65 = .ok (.iconst 1, 1) := by decide +kernel
theorem dX12_dates_66 : decode cX12_dates 66 = .ok (.goto 4, 3) := by decide +kernel
theorem dX12_dates_69 : decode cX12_dates 69 = .ok (.iconst 0, 1) := by decide +kernel
theorem dX12_dates_70 : decode cX12_dates 70 = .ok (.iadd, 1) := by decide +kernel
theorem dX12_dates_71 : decode cX12_dates 71 = .ok (.istore_n 3, 1) := by decide +kernel
theorem dX12_dates_72 : decode cX12_dates 72 = .ok (.iinc 5 1, 3) := by decide +kernel
theorem dX12_dates_75 : decode cX12_dates 75 = .ok (.goto (-30), 3) := by decide +kernel
theorem dX12_dates_78 : decode cX12_dates 78 = .ok (.iinc 4 1, 3) := by decide +kernel
theorem dX12_dates_81 : decode cX12_dates 81 = .ok (.goto (-48), 3) := by decide +kernel
theorem dX12_dates_84 : decode cX12_dates 84 = .ok (.iload_n 3, 1) := by decide +kernel
theorem dX12_dates_85 : decode cX12_dates 85 = .ok (.ireturn, 1) := by decide +kernel
set_option maxHeartbeats 4000000 in
set_option maxRecDepth 100000 in
theorem lp_sX12_dates {p : Program} {l : Launch} {e : Env} {R : Room} {s : State} {m : MethodId} {args : Array Value} {below : List Frame} {meth : Method} {c : Code} {Q : State → Prop} {A : Nat → Prop} {cells slots : Nat} {dC : Nat → ClassId} {dI : Nat → Nat → Nat} (h0 : Nat) (mi : Nat → Int32) (mr : Nat → Nat) (km : Nat → ClassId) (fm_must : Nat → Int32) (fm_least : Nat → Int32) (fm_pin : Nat → Int32) (fm_ways : Nat → Int32) (fm_verdict : Nat → Int32) (fm_row : Nat → Int32) (fm_struck : Nat → Int32) (fm_reportKnown : Nat → Int32) (fm_reportPlace : Nat → Int32) (fm_reportMonth : Nat → Int32) (fm_reportDay : Nat → Int32) (fm_reportKind : Nat → Int32) (fm_trust : Nat → Int32) (fm_letter : Nat → Int32) (fm_deedMonth : Nat → Int32) (fm_deedDay : Nat → Int32) (fm_deedLong : Nat → Int32) (fm_deedKind : Nat → Int32) (fm_kept : Nat → Int32) (fm_tape : Nat → Int32) (fm_official : Nat → Int32) (fm_aside : Nat → Int32) (fm_worth : Nat → Int32) (fm_out : Nat → Int32) (p1 : Int32) (p2 : Int32) (gmi_0 : gi (mi 0) 0 24) (gmi_1 : gi (mi 1) 0 5) (gmi_2 : gi (mi 2) 0 5) (gmi_4 : gi (mi 4) 0 1) (gmi_7 : gi (mi 7) 0 6) (gmi_10 : gi (mi 10) 0 24) (gmi_17 : gi (mi 17) 0 8) (gmi_23 : gi (mi 23) 0 300) (gmi_24 : gi (mi 24) 0 1) (gmi_26 : gi (mi 26) 0 1600) (gmi_29 : gi (mi 29) 0 1600) (gmi_30 : gi (mi 30) 0 1600) (gmi_33 : gi (mi 33) 0 1) (gmi_37 : gi (mi 37) 0 1) (gmi_41 : gi (mi 41) 0 24) (gmi_50 : gi (mi 50) 0 1) (gmi_51 : gi (mi 51) 0 1) (gmi_56 : gi (mi 56) 0 80) (gfm_row : ga fm_row 24 0 23) (gfm_struck : ga fm_struck 24 0 1) (gfm_reportKnown : ga fm_reportKnown 24 0 999) (gfm_reportPlace : ga fm_reportPlace 24 0 5) (gfm_reportMonth : ga fm_reportMonth 24 0 23) (gfm_reportDay : ga fm_reportDay 24 0 999) (hx : p.tables.exec = Jvm.exec) (hb : c.code = cX12_dates) (hml : c.maxLocals = 6) (hown : s.vm.findClass RX12 = some m.cls) (hts : ∀ w ∈ ((.code yX12_dates cX12_dates 6 (some .int) :: wsGB) : List Cond), w.before args s = true) (hK : va_K (dC, dI) vwCl (MT km) s) (hA : ∀ q : Nat, s.heap.size ≤ q → A q) (hRf : 6 ≤ R.frames) (hRl : 147 ≤ R.locals) (hRc : cells ≤ R.cells) (hRs : slots ≤ R.slots) (kr22 : ∀ (v : Int32) (w0_37 : Int32) (w0_41 : Int32) (z1 : Nat → Int32) (z2 : Nat → Int32) (z3 : Nat → Int32) (z4 : Nat → Int32) (z5 : Nat → Int32) (z6 : Nat → Int32) (H : Heap) (locs : List Loc) (ls : Array Slot), gi v (-2) (-2) → gi w0_37 0 1 → gi w0_41 0 24 → ga z6 24 0 23 → va_P (dC, dI) vwCl (MWn h0 mr km (mi 0) (mi 1) (mi 2) (mi 3) (mi 4) (mi 5) (mi 6) (mi 7) (mi 10) (mi 17) (mi 23) (mi 24) (mi 26) (mi 27) (mi 28) (mi 29) (mi 30) (mi 31) (mi 32) (mi 33) w0_37 w0_41 (mi 42) (mi 43) (mi 44) (mi 45) (mi 47) (mi 48) (mi 49) (mi 50) (mi 51) (mi 54) (mi 56) fm_trust fm_letter fm_reportPlace fm_reportKind fm_struck fm_reportMonth fm_reportDay fm_reportKnown fm_deedMonth fm_deedDay fm_deedLong fm_deedKind fm_kept fm_tape z1 z2 z3 z4 z5 z6 fm_official fm_aside fm_worth fm_out) H → va_D A (MWn h0 mr km (mi 0) (mi 1) (mi 2) (mi 3) (mi 4) (mi 5) (mi 6) (mi 7) (mi 10) (mi 17) (mi 23) (mi 24) (mi 26) (mi 27) (mi 28) (mi 29) (mi 30) (mi 31) (mi 32) (mi 33) w0_37 w0_41 (mi 42) (mi 43) (mi 44) (mi 45) (mi 47) (mi 48) (mi 49) (mi 50) (mi 51) (mi 54) (mi 56) fm_trust fm_letter fm_reportPlace fm_reportKind fm_struck fm_reportMonth fm_reportDay fm_reportKnown fm_deedMonth fm_deedDay fm_deedLong fm_deedKind fm_kept fm_tape z1 z2 z3 z4 z5 z6 fm_official fm_aside fm_worth fm_out) → va_S A s.heap H locs → lv_has ls 6 [] → W p l e R s m args below meth c H locs cells slots Q (F0 m 22 ls [.int v])) (kr85 : ∀ (v : Int32) (w0_37 : Int32) (w0_41 : Int32) (z1 : Nat → Int32) (z2 : Nat → Int32) (z3 : Nat → Int32) (z4 : Nat → Int32) (z5 : Nat → Int32) (z6 : Nat → Int32) (H : Heap) (locs : List Loc) (ls : Array Slot), gi w0_37 0 1 → gi w0_41 0 24 → ga z6 24 0 23 → va_P (dC, dI) vwCl (MWn h0 mr km (mi 0) (mi 1) (mi 2) (mi 3) (mi 4) (mi 5) (mi 6) (mi 7) (mi 10) (mi 17) (mi 23) (mi 24) (mi 26) (mi 27) (mi 28) (mi 29) (mi 30) (mi 31) (mi 32) (mi 33) w0_37 w0_41 (mi 42) (mi 43) (mi 44) (mi 45) (mi 47) (mi 48) (mi 49) (mi 50) (mi 51) (mi 54) (mi 56) fm_trust fm_letter fm_reportPlace fm_reportKind fm_struck fm_reportMonth fm_reportDay fm_reportKnown fm_deedMonth fm_deedDay fm_deedLong fm_deedKind fm_kept fm_tape z1 z2 z3 z4 z5 z6 fm_official fm_aside fm_worth fm_out) H → va_D A (MWn h0 mr km (mi 0) (mi 1) (mi 2) (mi 3) (mi 4) (mi 5) (mi 6) (mi 7) (mi 10) (mi 17) (mi 23) (mi 24) (mi 26) (mi 27) (mi 28) (mi 29) (mi 30) (mi 31) (mi 32) (mi 33) w0_37 w0_41 (mi 42) (mi 43) (mi 44) (mi 45) (mi 47) (mi 48) (mi 49) (mi 50) (mi 51) (mi 54) (mi 56) fm_trust fm_letter fm_reportPlace fm_reportKind fm_struck fm_reportMonth fm_reportDay fm_reportKnown fm_deedMonth fm_deedDay fm_deedLong fm_deedKind fm_kept fm_tape z1 z2 z3 z4 z5 z6 fm_official fm_aside fm_worth fm_out) → va_S A s.heap H locs → lv_has ls 6 [] → W p l e R s m args below meth c H locs cells slots Q (F0 m 85 ls [.int v])) : ∀ z : Nat, (∀ (v3 : Int32) (v4 : Int32) (w0_37 : Int32) (w0_41 : Int32) (z1 : Nat → Int32) (z2 : Nat → Int32) (z3 : Nat → Int32) (z4 : Nat → Int32) (z5 : Nat → Int32) (z6 : Nat → Int32) (H : Heap) (locs : List Loc) (ls : Array Slot), gi p1 0 999 → gi p2 0 999 → gi v4 0 24 → gi w0_37 0 1 → gi w0_41 0 24 → ga z6 24 0 23 → 1585 + (-66) * v4.toInt < (z : Int) → va_P (dC, dI) vwCl (MWn h0 mr km (mi 0) (mi 1) (mi 2) (mi 3) (mi 4) (mi 5) (mi 6) (mi 7) (mi 10) (mi 17) (mi 23) (mi 24) (mi 26) (mi 27) (mi 28) (mi 29) (mi 30) (mi 31) (mi 32) (mi 33) w0_37 w0_41 (mi 42) (mi 43) (mi 44) (mi 45) (mi 47) (mi 48) (mi 49) (mi 50) (mi 51) (mi 54) (mi 56) fm_trust fm_letter fm_reportPlace fm_reportKind fm_struck fm_reportMonth fm_reportDay fm_reportKnown fm_deedMonth fm_deedDay fm_deedLong fm_deedKind fm_kept fm_tape z1 z2 z3 z4 z5 z6 fm_official fm_aside fm_worth fm_out) H → va_D A (MWn h0 mr km (mi 0) (mi 1) (mi 2) (mi 3) (mi 4) (mi 5) (mi 6) (mi 7) (mi 10) (mi 17) (mi 23) (mi 24) (mi 26) (mi 27) (mi 28) (mi 29) (mi 30) (mi 31) (mi 32) (mi 33) w0_37 w0_41 (mi 42) (mi 43) (mi 44) (mi 45) (mi 47) (mi 48) (mi 49) (mi 50) (mi 51) (mi 54) (mi 56) fm_trust fm_letter fm_reportPlace fm_reportKind fm_struck fm_reportMonth fm_reportDay fm_reportKnown fm_deedMonth fm_deedDay fm_deedLong fm_deedKind fm_kept fm_tape z1 z2 z3 z4 z5 z6 fm_official fm_aside fm_worth fm_out) → va_S A s.heap H locs → lv_has ls 6 [(0, .ref h0), (1, .int p1), (2, .int p2), (3, .int v3), (4, .int v4)] → W p l e R s m args below meth c H locs cells slots Q (F0 m 33 ls [])) ∧ (∀ (v3 : Int32) (v4 : Int32) (v5 : Int32) (w0_37 : Int32) (w0_41 : Int32) (z1 : Nat → Int32) (z2 : Nat → Int32) (z3 : Nat → Int32) (z4 : Nat → Int32) (z5 : Nat → Int32) (z6 : Nat → Int32) (H : Heap) (locs : List Loc) (ls : Array Slot), gi p1 0 999 → gi p2 0 999 → gi v4 0 23 → gi v5 1 31 → gi w0_37 0 1 → gi w0_41 0 24 → ga z6 24 0 23 → 1582 + (-66) * v4.toInt + (-2) * v5.toInt < (z : Int) → va_P (dC, dI) vwCl (MWn h0 mr km (mi 0) (mi 1) (mi 2) (mi 3) (mi 4) (mi 5) (mi 6) (mi 7) (mi 10) (mi 17) (mi 23) (mi 24) (mi 26) (mi 27) (mi 28) (mi 29) (mi 30) (mi 31) (mi 32) (mi 33) w0_37 w0_41 (mi 42) (mi 43) (mi 44) (mi 45) (mi 47) (mi 48) (mi 49) (mi 50) (mi 51) (mi 54) (mi 56) fm_trust fm_letter fm_reportPlace fm_reportKind fm_struck fm_reportMonth fm_reportDay fm_reportKnown fm_deedMonth fm_deedDay fm_deedLong fm_deedKind fm_kept fm_tape z1 z2 z3 z4 z5 z6 fm_official fm_aside fm_worth fm_out) H → va_D A (MWn h0 mr km (mi 0) (mi 1) (mi 2) (mi 3) (mi 4) (mi 5) (mi 6) (mi 7) (mi 10) (mi 17) (mi 23) (mi 24) (mi 26) (mi 27) (mi 28) (mi 29) (mi 30) (mi 31) (mi 32) (mi 33) w0_37 w0_41 (mi 42) (mi 43) (mi 44) (mi 45) (mi 47) (mi 48) (mi 49) (mi 50) (mi 51) (mi 54) (mi 56) fm_trust fm_letter fm_reportPlace fm_reportKind fm_struck fm_reportMonth fm_reportDay fm_reportKnown fm_deedMonth fm_deedDay fm_deedLong fm_deedKind fm_kept fm_tape z1 z2 z3 z4 z5 z6 fm_official fm_aside fm_worth fm_out) → va_S A s.heap H locs → lv_has ls 6 [(0, .ref h0), (1, .int p1), (2, .int p2), (3, .int v3), (4, .int v4), (5, .int v5)] → W p l e R s m args below meth c H locs cells slots Q (F0 m 45 ls [])) := by
  intro z
  induction z with
  | zero =>
    refine ⟨?_, ?_⟩
    · intro v3 v4 w0_37 w0_41 z1 z2 z3 z4 z5 z6 H locs ls gf_p1 gf_p2 gv4 gw0_37 gw0_41 gz6 hmu hP hD hS hl
      exact absurd hmu (by have hv41 := gv4.1; have hv42 := gv4.2; omega)
    · intro v3 v4 v5 w0_37 w0_41 z1 z2 z3 z4 z5 z6 H locs ls gf_p1 gf_p2 gv4 gv5 gw0_37 gw0_41 gz6 hmu hP hD hS hl
      exact absurd hmu (by have hv41 := gv4.1; have hv42 := gv4.2; have hv51 := gv5.1; have hv52 := gv5.2; omega)
  | succ z ih =>
    refine ⟨?_, ?_⟩
    · intro v3 v4 w0_37 w0_41 z1 z2 z3 z4 z5 z6 H locs ls gf_p1 gf_p2 gv4 gw0_37 gw0_41 gz6 hmu hP hD hS hl
      refine lv_iload hx hb dX12_dates_33 (lv_at hl 4 rfl) ?_
      refine lv_aload_n hx hb dX12_dates_35 rfl (lv_at hl 0 rfl) ?_
      refine va_get (D := (dC, dI)) (ci := 12) (v := .int (mi 0)) (C := RX12) (T := TX12) (N := 57) hx hb hts (fun w h => List.mem_cons_of_mem _ (jnGB_X12 w h)) hown hK hP 0 rfl rfl 0 (by decide) (hts _ (List.mem_cons_of_mem _ mGB_103)) (fun _ h9 => h9) rfl dX12_dates_36 ?_
      refine lv_icmp_ge (tgt := 84) hx hb dX12_dates_39 (by decide) (fun c_1427 => ?_) (fun c_1427 => ?_)
      · refine lv_iload_n hx hb dX12_dates_84 rfl (lv_at hl 3 rfl) ?_
        exact kr85 v3 w0_37 w0_41 z1 z2 z3 z4 z5 z6 _ _ _ gw0_37 gw0_41 gz6 hP hD hS (lv_sub hl [] rfl)
      · have g_1428 : gi v4 0 23 := gi_lt_l (Int32.not_le.mp c_1427) gv4 gmi_0 (by decide)
        have g_1429 : gi (mi 0) 1 24 := gi_lt_r (Int32.not_le.mp c_1427) gv4 gmi_0 (by decide)
        refine lv_iconst (v := 1) hx hb dX12_dates_42 (by decide) ?_
        refine lv_istore (lv' := [(5, .int 1), (0, .ref h0), (1, .int p1), (2, .int p2), (3, .int v3), (4, .int v4)]) hx hb dX12_dates_43 hl (by decide) rfl (fun ls hl => ?_)
        exact ih.2 v3 v4 1 w0_37 w0_41 z1 z2 z3 z4 z5 z6 _ _ _ gf_p1 gf_p2 g_1428 (gi_w (gi_c 1 1 (by decide)) (by decide)) gw0_37 gw0_41 gz6 (by have k1 : (1 : Int32).toInt = 1 := (by decide); have av4 := gv4.1; have bv4 := gv4.2; have qgv4 := g_1428.1; have rgv4 := g_1428.2; omega) hP hD hS (lv_sub hl [1, 2, 3, 4, 5, 0] rfl)
    · intro v3 v4 v5 w0_37 w0_41 z1 z2 z3 z4 z5 z6 H locs ls gf_p1 gf_p2 gv4 gv5 gw0_37 gw0_41 gz6 hmu hP hD hS hl
      refine lv_iload hx hb dX12_dates_45 (lv_at hl 5 rfl) ?_
      refine lv_bipush (v := 30) hx hb dX12_dates_47 (by decide) ?_
      refine lv_icmp_gt (tgt := 78) hx hb dX12_dates_49 (by decide) (fun c_1430 => ?_) (fun c_1430 => ?_)
      · have g_1431 : gi v5 31 31 := gi_lt_r c_1430 (gi_c 30 30 (by decide)) gv5 (by decide)
        obtain ⟨x_1432, ex_1432⟩ : ∃ y : Int32, y = v4 + 1 := ⟨_, rfl⟩
        have gx_1432 : gi x_1432 1 24 := gi_add ex_1432 gv4 (gi_c 1 1 (by decide)) (by decide)
        refine lv_iinc (v := x_1432) (lv' := [(4, .int x_1432), (0, .ref h0), (1, .int p1), (2, .int p2), (3, .int v3), (5, .int v5)]) hx hb dX12_dates_78 hl (k := 4) rfl (by rw [ex_1432]; rfl) (by decide) rfl (fun ls hl => ?_)
        refine lv_goto (tgt := 33) hx hb dX12_dates_81 (by decide) ?_
        exact ih.1 v3 x_1432 w0_37 w0_41 z1 z2 z3 z4 z5 z6 _ _ _ gf_p1 gf_p2 (gi_w gx_1432 (by decide)) gw0_37 gw0_41 gz6 (by have av4 := gv4.1; have bv4 := gv4.2; have av5 := gv5.1; have bv5 := gv5.2; have qgx_1432 := gx_1432.1; have rgx_1432 := gx_1432.2; have igx_1432 : x_1432.toInt = v4.toInt + 1 := (by have hc1 : (1 : Int32).toInt = 1 := (by decide); have h9 := gi_addI ex_1432 (by have h1 := gv4.1; have h2 := (gi_c 1 1 (by decide)).1; have h3 := gv4.2; have h4 := (gi_c 1 1 (by decide)).2; omega) (by have h1 := gv4.1; have h2 := (gi_c 1 1 (by decide)).1; have h3 := gv4.2; have h4 := (gi_c 1 1 (by decide)).2; omega); rw [hc1] at h9; exact h9); have qgv4 := gv4.1; have rgv4 := gv4.2; omega) hP hD hS (lv_sub hl [1, 2, 3, 4, 0] rfl)
      · have g_1433 : gi v5 1 30 := gi_le_l (Int32.not_lt.mp c_1430) gv5 (gi_c 30 30 (by decide))
        refine lv_iload_n hx hb dX12_dates_52 rfl (lv_at hl 3 rfl) ?_
        refine lv_aload_n hx hb dX12_dates_53 rfl (lv_at hl 0 rfl) ?_
        refine lv_iload hx hb dX12_dates_54 (lv_at hl 4 rfl) ?_
        refine lv_iload hx hb dX12_dates_56 (lv_at hl 5 rfl) ?_
        refine lv_iload_n hx hb dX12_dates_58 rfl (lv_at hl 2 rfl) ?_
        have hFc := gz_fullF hD hS hA
        refine va_calli (va_runV (As := [.int v4, .int v5, .int p2]) (rest := [.int v3]) ⟨hx, hb, hml, hown, hts⟩ (sX12_datesWith l dC dI H.size h0 (upd (upd mi 37 w0_37) 41 w0_41) mr km z1 z2 z3 z4 fm_trust fm_letter fm_reportPlace fm_reportKind fm_struck fm_reportMonth fm_reportDay fm_reportKnown fm_deedMonth fm_deedDay fm_deedLong fm_deedKind fm_kept fm_tape z5 z6 fm_official fm_aside fm_worth fm_out v4 v5 p2 gmi_0 gmi_1 gmi_2 gmi_4 gmi_7 gmi_10 gmi_17 gmi_23 gmi_24 gmi_26 gmi_29 gmi_30 gmi_33 gw0_37 gw0_41 gmi_50 gmi_51 gmi_56 gv4) (cwV 3 hts (gz_gV mGB_433 mGB_434 mGB_435 mGB_1 mGB_436 goodGB) rfl rfl rfl (by decide +kernel) ⟨Nat.le_trans (Nat.le_of_ble_eq_true rfl) hRf, Nat.le_trans (Nat.le_of_ble_eq_true rfl) hRl⟩) ⟨bl_W, mw_recv hK hP, fun U hU hW => ⟨rfl, by rw [hU], by rw [hU]; exact hP, va_K.moved hW.alike hK, hD.weaken (fun _ _ _ _ => trivial)⟩⟩ rfl rfl hl.1 rfl (lv_room (Nat.le_of_ble_eq_true rfl)) dX12_dates_59 ⟨hRc, hRs⟩) hS (fun q _ h => hFc q h) hFc (fun r_1434 u t H1 locs ht hvm hw hB hz1 hk1 hS => ?_)
        obtain ⟨f_1435, f_1436, hB⟩ := hB
        obtain ⟨hP1, hD1⟩ := hB
        rw [ht] at hP1
        have hD : va_D A (MWn h0 mr km (mi 0) (mi 1) (mi 2) (mi 3) (mi 4) (mi 5) (mi 6) (mi 7) (mi 10) (mi 17) (mi 23) (mi 24) (mi 26) (mi 27) (mi 28) (mi 29) (mi 30) (mi 31) (mi 32) (mi 33) w0_37 w0_41 (mi 42) (mi 43) (mi 44) (mi 45) (mi 47) (mi 48) (mi 49) (mi 50) (mi 51) (mi 54) (mi 56) fm_trust fm_letter fm_reportPlace fm_reportKind fm_struck fm_reportMonth fm_reportDay fm_reportKnown fm_deedMonth fm_deedDay fm_deedLong fm_deedKind fm_kept fm_tape z1 z2 f_1435 f_1436 z5 z6 fm_official fm_aside fm_worth fm_out) := gz_fullD hFc hD1
        have hP : va_P (dC, dI) vwCl (MWn h0 mr km (mi 0) (mi 1) (mi 2) (mi 3) (mi 4) (mi 5) (mi 6) (mi 7) (mi 10) (mi 17) (mi 23) (mi 24) (mi 26) (mi 27) (mi 28) (mi 29) (mi 30) (mi 31) (mi 32) (mi 33) w0_37 w0_41 (mi 42) (mi 43) (mi 44) (mi 45) (mi 47) (mi 48) (mi 49) (mi 50) (mi 51) (mi 54) (mi 56) fm_trust fm_letter fm_reportPlace fm_reportKind fm_struck fm_reportMonth fm_reportDay fm_reportKnown fm_deedMonth fm_deedDay fm_deedLong fm_deedKind fm_kept fm_tape z1 z2 f_1435 f_1436 z5 z6 fm_official fm_aside fm_worth fm_out) H1 := hP1
        generalize H1 = H at hP hS ⊢
        refine lv_if_le (tgt := 69) hx hb dX12_dates_62 (by decide) (fun c_1437 => ?_) (fun c_1437 => ?_)
        · have g_1438 : gi r_1434 (-2147483648) 0 := gi_le_l c_1437 (gi_any r_1434) (gi_c 0 0 (by decide))
          refine lv_iconst (v := 0) hx hb dX12_dates_69 (by decide) ?_
          refine lv_iadd hx hb dX12_dates_70 ?_
          refine lv_topi (fun x_1439 ex_1439 => ?_)
          refine lv_istore_n (lv' := [(3, .int x_1439), (0, .ref h0), (1, .int p1), (2, .int p2), (4, .int v4), (5, .int v5)]) hx hb dX12_dates_71 rfl hl (by decide) rfl (fun ls hl => ?_)
          obtain ⟨x_1440, ex_1440⟩ : ∃ y : Int32, y = v5 + 1 := ⟨_, rfl⟩
          have gx_1440 : gi x_1440 2 31 := gi_add ex_1440 g_1433 (gi_c 1 1 (by decide)) (by decide)
          refine lv_iinc (v := x_1440) (lv' := [(5, .int x_1440), (3, .int x_1439), (0, .ref h0), (1, .int p1), (2, .int p2), (4, .int v4)]) hx hb dX12_dates_72 hl (k := 5) rfl (by rw [ex_1440]; rfl) (by decide) rfl (fun ls hl => ?_)
          refine lv_goto (tgt := 45) hx hb dX12_dates_75 (by decide) ?_
          exact ih.2 x_1439 v4 x_1440 w0_37 w0_41 z1 z2 f_1435 f_1436 z5 z6 _ _ _ gf_p1 gf_p2 gv4 (gi_w gx_1440 (by decide)) gw0_37 gw0_41 gz6 (by have av4 := gv4.1; have bv4 := gv4.2; have av5 := gv5.1; have bv5 := gv5.2; have qgx_1440 := gx_1440.1; have rgx_1440 := gx_1440.2; have igx_1440 : x_1440.toInt = v5.toInt + 1 := (by have hc1 : (1 : Int32).toInt = 1 := (by decide); have h9 := gi_addI ex_1440 (by have h1 := g_1433.1; have h2 := (gi_c 1 1 (by decide)).1; have h3 := g_1433.2; have h4 := (gi_c 1 1 (by decide)).2; omega) (by have h1 := g_1433.1; have h2 := (gi_c 1 1 (by decide)).1; have h3 := g_1433.2; have h4 := (gi_c 1 1 (by decide)).2; omega); rw [hc1] at h9; exact h9); have qgv5 := g_1433.1; have rgv5 := g_1433.2; have qgv4 := gv4.1; have rgv4 := gv4.2; omega) hP hD hS (lv_sub hl [2, 3, 4, 1, 5, 0] rfl)
        · have g_1441 : gi r_1434 1 2147483647 := gi_lt_r (Int32.not_le.mp c_1437) (gi_c 0 0 (by decide)) (gi_any r_1434) (by decide)
          refine lv_iconst (v := 1) hx hb dX12_dates_65 (by decide) ?_
          refine lv_goto (tgt := 70) hx hb dX12_dates_66 (by decide) ?_
          refine lv_iadd hx hb dX12_dates_70 ?_
          refine lv_topi (fun x_1442 ex_1442 => ?_)
          refine lv_istore_n (lv' := [(3, .int x_1442), (0, .ref h0), (1, .int p1), (2, .int p2), (4, .int v4), (5, .int v5)]) hx hb dX12_dates_71 rfl hl (by decide) rfl (fun ls hl => ?_)
          obtain ⟨x_1443, ex_1443⟩ : ∃ y : Int32, y = v5 + 1 := ⟨_, rfl⟩
          have gx_1443 : gi x_1443 2 31 := gi_add ex_1443 g_1433 (gi_c 1 1 (by decide)) (by decide)
          refine lv_iinc (v := x_1443) (lv' := [(5, .int x_1443), (3, .int x_1442), (0, .ref h0), (1, .int p1), (2, .int p2), (4, .int v4)]) hx hb dX12_dates_72 hl (k := 5) rfl (by rw [ex_1443]; rfl) (by decide) rfl (fun ls hl => ?_)
          refine lv_goto (tgt := 45) hx hb dX12_dates_75 (by decide) ?_
          exact ih.2 x_1442 v4 x_1443 w0_37 w0_41 z1 z2 f_1435 f_1436 z5 z6 _ _ _ gf_p1 gf_p2 gv4 (gi_w gx_1443 (by decide)) gw0_37 gw0_41 gz6 (by have av4 := gv4.1; have bv4 := gv4.2; have av5 := gv5.1; have bv5 := gv5.2; have qgx_1443 := gx_1443.1; have rgx_1443 := gx_1443.2; have igx_1443 : x_1443.toInt = v5.toInt + 1 := (by have hc1 : (1 : Int32).toInt = 1 := (by decide); have h9 := gi_addI ex_1443 (by have h1 := g_1433.1; have h2 := (gi_c 1 1 (by decide)).1; have h3 := g_1433.2; have h4 := (gi_c 1 1 (by decide)).2; omega) (by have h1 := g_1433.1; have h2 := (gi_c 1 1 (by decide)).1; have h3 := g_1433.2; have h4 := (gi_c 1 1 (by decide)).2; omega); rw [hc1] at h9; exact h9); have qgv5 := g_1433.1; have rgv5 := g_1433.2; have qgv4 := gv4.1; have rgv4 := gv4.2; omega) hP hD hS (lv_sub hl [2, 3, 4, 1, 5, 0] rfl)
abbrev pb_sX12_dates (dC : Nat → ClassId) (dI : Nat → Nat → Nat) (A9 : Nat → Prop) (h0 : Nat) (mi : Nat → Int32) (mr : Nat → Nat) (km : Nat → ClassId) (fm_must : Nat → Int32) (fm_least : Nat → Int32) (fm_pin : Nat → Int32) (fm_ways : Nat → Int32) (fm_verdict : Nat → Int32) (fm_row : Nat → Int32) (fm_struck : Nat → Int32) (fm_reportKnown : Nat → Int32) (fm_reportPlace : Nat → Int32) (fm_reportMonth : Nat → Int32) (fm_reportDay : Nat → Int32) (fm_reportKind : Nat → Int32) (fm_trust : Nat → Int32) (fm_letter : Nat → Int32) (fm_deedMonth : Nat → Int32) (fm_deedDay : Nat → Int32) (fm_deedLong : Nat → Int32) (fm_deedKind : Nat → Int32) (fm_kept : Nat → Int32) (fm_tape : Nat → Int32) (fm_official : Nat → Int32) (fm_aside : Nat → Int32) (fm_worth : Nat → Int32) (fm_out : Nat → Int32) (p1 : Int32) (p2 : Int32) (w0_37 : Int32) (w0_41 : Int32) (z1 : Nat → Int32) (z2 : Nat → Int32) (z3 : Nat → Int32) (z4 : Nat → Int32) (z5 : Nat → Int32) (z6 : Nat → Int32) (t : State) : Prop := gi w0_37 0 1 ∧ gi w0_41 0 24 ∧ ga z6 24 0 23 ∧ va_P (dC, dI) vwCl (MWn h0 mr km (mi 0) (mi 1) (mi 2) (mi 3) (mi 4) (mi 5) (mi 6) (mi 7) (mi 10) (mi 17) (mi 23) (mi 24) (mi 26) (mi 27) (mi 28) (mi 29) (mi 30) (mi 31) (mi 32) (mi 33) w0_37 w0_41 (mi 42) (mi 43) (mi 44) (mi 45) (mi 47) (mi 48) (mi 49) (mi 50) (mi 51) (mi 54) (mi 56) fm_trust fm_letter fm_reportPlace fm_reportKind fm_struck fm_reportMonth fm_reportDay fm_reportKnown fm_deedMonth fm_deedDay fm_deedLong fm_deedKind fm_kept fm_tape z1 z2 z3 z4 z5 z6 fm_official fm_aside fm_worth fm_out) t.heap ∧ va_D A9 (MWn h0 mr km (mi 0) (mi 1) (mi 2) (mi 3) (mi 4) (mi 5) (mi 6) (mi 7) (mi 10) (mi 17) (mi 23) (mi 24) (mi 26) (mi 27) (mi 28) (mi 29) (mi 30) (mi 31) (mi 32) (mi 33) w0_37 w0_41 (mi 42) (mi 43) (mi 44) (mi 45) (mi 47) (mi 48) (mi 49) (mi 50) (mi 51) (mi 54) (mi 56) fm_trust fm_letter fm_reportPlace fm_reportKind fm_struck fm_reportMonth fm_reportDay fm_reportKnown fm_deedMonth fm_deedDay fm_deedLong fm_deedKind fm_kept fm_tape z1 z2 z3 z4 z5 z6 fm_official fm_aside fm_worth fm_out)
set_option maxHeartbeats 4000000 in
set_option maxRecDepth 100000 in
theorem sX12_dates (l : Launch) (dC : Nat → ClassId) (dI : Nat → Nat → Nat) (sz : Nat) (h0 : Nat) (mi : Nat → Int32) (mr : Nat → Nat) (km : Nat → ClassId) (fm_must : Nat → Int32) (fm_least : Nat → Int32) (fm_pin : Nat → Int32) (fm_ways : Nat → Int32) (fm_verdict : Nat → Int32) (fm_row : Nat → Int32) (fm_struck : Nat → Int32) (fm_reportKnown : Nat → Int32) (fm_reportPlace : Nat → Int32) (fm_reportMonth : Nat → Int32) (fm_reportDay : Nat → Int32) (fm_reportKind : Nat → Int32) (fm_trust : Nat → Int32) (fm_letter : Nat → Int32) (fm_deedMonth : Nat → Int32) (fm_deedDay : Nat → Int32) (fm_deedLong : Nat → Int32) (fm_deedKind : Nat → Int32) (fm_kept : Nat → Int32) (fm_tape : Nat → Int32) (fm_official : Nat → Int32) (fm_aside : Nat → Int32) (fm_worth : Nat → Int32) (fm_out : Nat → Int32) (p1 : Int32) (p2 : Int32) (gmi_0 : gi (mi 0) 0 24) (gmi_1 : gi (mi 1) 0 5) (gmi_2 : gi (mi 2) 0 5) (gmi_4 : gi (mi 4) 0 1) (gmi_7 : gi (mi 7) 0 6) (gmi_10 : gi (mi 10) 0 24) (gmi_17 : gi (mi 17) 0 8) (gmi_23 : gi (mi 23) 0 300) (gmi_24 : gi (mi 24) 0 1) (gmi_26 : gi (mi 26) 0 1600) (gmi_29 : gi (mi 29) 0 1600) (gmi_30 : gi (mi 30) 0 1600) (gmi_33 : gi (mi 33) 0 1) (gmi_37 : gi (mi 37) 0 1) (gmi_41 : gi (mi 41) 0 24) (gmi_50 : gi (mi 50) 0 1) (gmi_51 : gi (mi 51) 0 1) (gmi_56 : gi (mi 56) 0 80) (gfm_row : ga fm_row 24 0 23) (gfm_struck : ga fm_struck 24 0 1) (gfm_reportKnown : ga fm_reportKnown 24 0 999) (gfm_reportPlace : ga fm_reportPlace 24 0 5) (gfm_reportMonth : ga fm_reportMonth 24 0 23) (gfm_reportDay : ga fm_reportDay 24 0 999) : Met l yX12_dates (.code yX12_dates cX12_dates 6 (some .int) :: wsGB) ({ frames := 6, cells := 0, slots := 0, locals := 147 }) (va_Pc [.ref h0, .int p1, .int p2] (fun U => U.heap.size = sz ∧ va_P (dC, dI) vwCl (MWn h0 mr km (mi 0) (mi 1) (mi 2) (mi 3) (mi 4) (mi 5) (mi 6) (mi 7) (mi 10) (mi 17) (mi 23) (mi 24) (mi 26) (mi 27) (mi 28) (mi 29) (mi 30) (mi 31) (mi 32) (mi 33) (mi 37) (mi 41) (mi 42) (mi 43) (mi 44) (mi 45) (mi 47) (mi 48) (mi 49) (mi 50) (mi 51) (mi 54) (mi 56) fm_trust fm_letter fm_reportPlace fm_reportKind fm_struck fm_reportMonth fm_reportDay fm_reportKnown fm_deedMonth fm_deedDay fm_deedLong fm_deedKind fm_kept fm_tape fm_must fm_least fm_pin fm_ways fm_verdict fm_row fm_official fm_aside fm_worth fm_out) U.heap ∧ va_K (dC, dI) vwCl (MT km) U ∧ va_D (fun _ => True) (MWn h0 mr km (mi 0) (mi 1) (mi 2) (mi 3) (mi 4) (mi 5) (mi 6) (mi 7) (mi 10) (mi 17) (mi 23) (mi 24) (mi 26) (mi 27) (mi 28) (mi 29) (mi 30) (mi 31) (mi 32) (mi 33) (mi 37) (mi 41) (mi 42) (mi 43) (mi 44) (mi 45) (mi 47) (mi 48) (mi 49) (mi 50) (mi 51) (mi 54) (mi 56) fm_trust fm_letter fm_reportPlace fm_reportKind fm_struck fm_reportMonth fm_reportDay fm_reportKnown fm_deedMonth fm_deedDay fm_deedLong fm_deedKind fm_kept fm_tape fm_must fm_least fm_pin fm_ways fm_verdict fm_row fm_official fm_aside fm_worth fm_out))) (va_Qi (fun (r : Int32) (u : Unit) => gi r (-2147483648) 2147483647) (fun _ t => ∃ (w0_37 : Int32) (w0_41 : Int32) (z1 : Nat → Int32) (z2 : Nat → Int32) (z3 : Nat → Int32) (z4 : Nat → Int32) (z5 : Nat → Int32) (z6 : Nat → Int32), pb_sX12_dates dC dI (va_A (MWn h0 mr km (mi 0) (mi 1) (mi 2) (mi 3) (mi 4) (mi 5) (mi 6) (mi 7) (mi 10) (mi 17) (mi 23) (mi 24) (mi 26) (mi 27) (mi 28) (mi 29) (mi 30) (mi 31) (mi 32) (mi 33) (mi 37) (mi 41) (mi 42) (mi 43) (mi 44) (mi 45) (mi 47) (mi 48) (mi 49) (mi 50) (mi 51) (mi 54) (mi 56) fm_trust fm_letter fm_reportPlace fm_reportKind fm_struck fm_reportMonth fm_reportDay fm_reportKnown fm_deedMonth fm_deedDay fm_deedLong fm_deedKind fm_kept fm_tape fm_must fm_least fm_pin fm_ways fm_verdict fm_row fm_official fm_aside fm_worth fm_out) sz) h0 mi mr km fm_must fm_least fm_pin fm_ways fm_verdict fm_row fm_struck fm_reportKnown fm_reportPlace fm_reportMonth fm_reportDay fm_reportKind fm_trust fm_letter fm_deedMonth fm_deedDay fm_deedLong fm_deedKind fm_kept fm_tape fm_official fm_aside fm_worth fm_out p1 p2 w0_37 w0_41 z1 z2 z3 z4 z5 z6 t) (va_A (MWn h0 mr km (mi 0) (mi 1) (mi 2) (mi 3) (mi 4) (mi 5) (mi 6) (mi 7) (mi 10) (mi 17) (mi 23) (mi 24) (mi 26) (mi 27) (mi 28) (mi 29) (mi 30) (mi 31) (mi 32) (mi 33) (mi 37) (mi 41) (mi 42) (mi 43) (mi 44) (mi 45) (mi 47) (mi 48) (mi 49) (mi 50) (mi 51) (mi 54) (mi 56) fm_trust fm_letter fm_reportPlace fm_reportKind fm_struck fm_reportMonth fm_reportDay fm_reportKnown fm_deedMonth fm_deedDay fm_deedLong fm_deedKind fm_kept fm_tape fm_must fm_least fm_pin fm_ways fm_verdict fm_row fm_official fm_aside fm_worth fm_out) sz)) 0 0 (va_A (MWn h0 mr km (mi 0) (mi 1) (mi 2) (mi 3) (mi 4) (mi 5) (mi 6) (mi 7) (mi 10) (mi 17) (mi 23) (mi 24) (mi 26) (mi 27) (mi 28) (mi 29) (mi 30) (mi 31) (mi 32) (mi 33) (mi 37) (mi 41) (mi 42) (mi 43) (mi 44) (mi 45) (mi 47) (mi 48) (mi 49) (mi 50) (mi 51) (mi 54) (mi 56) fm_trust fm_letter fm_reportPlace fm_reportKind fm_struck fm_reportMonth fm_reportDay fm_reportKnown fm_deedMonth fm_deedDay fm_deedLong fm_deedKind fm_kept fm_tape fm_must fm_least fm_pin fm_ways fm_verdict fm_row fm_official fm_aside fm_worth fm_out) sz) := by
  refine Met.ofW (cc := cX12_dates) (maxL := 6) (ret := (some .int)) (by decide) rfl ?_
  intro p e s m args below meth c s₁ B hml hv
  obtain ⟨rfl, hsz, hP, hK, hD0⟩ := hv
  have hx := B.exec
  have hb := B.bytes
  have hr := B.returns
  have hts := atoms_spec (ws := (.code yX12_dates cX12_dates 6 (some .int) :: wsGB)) B.pre
  have hown : s.vm.findClass RX12 = some m.cls := findClass_of_methodNamed B.named
  have hlocks := B.notSynchronized
  subst hsz
  have hD := hD0.self (sz := s.heap.size)
  generalize hAe : va_A (MWn h0 mr km (mi 0) (mi 1) (mi 2) (mi 3) (mi 4) (mi 5) (mi 6) (mi 7) (mi 10) (mi 17) (mi 23) (mi 24) (mi 26) (mi 27) (mi 28) (mi 29) (mi 30) (mi 31) (mi 32) (mi 33) (mi 37) (mi 41) (mi 42) (mi 43) (mi 44) (mi 45) (mi 47) (mi 48) (mi 49) (mi 50) (mi 51) (mi 54) (mi 56) fm_trust fm_letter fm_reportPlace fm_reportKind fm_struck fm_reportMonth fm_reportDay fm_reportKnown fm_deedMonth fm_deedDay fm_deedLong fm_deedKind fm_kept fm_tape fm_must fm_least fm_pin fm_ways fm_verdict fm_row fm_official fm_aside fm_worth fm_out) s.heap.size = A at hD ⊢
  have hA : ∀ q : Nat, s.heap.size ≤ q → A q := fun q h => by rw [← hAe]; exact Or.inr h
  have hS : va_S A s.heap s.heap [] := va_S.rf
  have hl := lv_entry ([.ref h0, .int p1, .int p2]) (n := 6) (Nat.le_of_ble_eq_true rfl)
  rw [lg_entry_eq]
  generalize (lg_sl ([.ref h0, .int p1, .int p2]) ++ List.replicate (6 - (lg_sl ([.ref h0, .int p1, .int p2])).length) Slot.unset).toArray = ls at hl ⊢
  have hl : lv_has ls 6 [(0, .ref h0), (1, .int p1), (2, .int p2)] := hl
  refine lv_aload_n hx hb dX12_dates_0 rfl (lv_at hl 0 rfl) ?_
  refine lv_iload_n hx hb dX12_dates_1 rfl (lv_at hl 1 rfl) ?_
  refine va_calli (va_runV (As := [.int p1]) (rest := []) ⟨hx, hb, hml, hown, hts⟩ (sX12_isTime l dC dI h0 mi mr km fm_trust fm_letter fm_reportPlace fm_reportKind fm_struck fm_reportMonth fm_reportDay fm_reportKnown fm_deedMonth fm_deedDay fm_deedLong fm_deedKind fm_kept fm_tape fm_must fm_least fm_pin fm_ways fm_verdict fm_row fm_official fm_aside fm_worth fm_out p1 gmi_0 gmi_1 gmi_2 gmi_4 gmi_7 gmi_10 gmi_17 gmi_23 gmi_24 gmi_26 gmi_29 gmi_30 gmi_33 gmi_37 gmi_41 gmi_50 gmi_51 gmi_56) (cwV 1 hts (gz_gV mGB_256 mGB_257 mGB_258 mGB_1 mGB_259 goodGB) rfl rfl rfl (by decide +kernel) ⟨Nat.le_of_ble_eq_true rfl, Nat.le_of_ble_eq_true rfl⟩) ⟨bl_R, mw_recv hK hP, fun U hU hW => ⟨rfl, by rw [hU]; exact hP, va_K.moved hW.alike hK⟩⟩ rfl rfl hl.1 rfl (lv_room (Nat.le_of_ble_eq_true rfl)) dX12_dates_2 ⟨Nat.zero_le _, Nat.zero_le _⟩) hS (fun q _ h => h.elim) (fun q h => h.elim) (fun r_1444 u t H1 locs ht hvm hw hB hz1 hk1 hS => ?_)
  obtain ⟨hw, hE⟩ := hw
  have hP := gz_keep hP hk1
  generalize H1 = H at hP hS ⊢
  have gr_1444 : gi r_1444 0 1 := hw.1
  have hqr_1444 := hw.2
  refine lv_if_eq (tgt := 20) hx hb dX12_dates_5 (by decide) (fun c_1445 => ?_) (fun c_1445 => ?_)
  · have g_1446 : gi r_1444 0 0 := gi_eq c_1445 (gi_c 0 0 (by decide))
    refine lv_bipush (v := (-2)) hx hb dX12_dates_20 (by decide) ?_
    exact W.iret (v := (-2)) hx hb hr (fun t ht hW => ⟨⟨(-2), (), rfl, (gi_any (-2)), (mi 37), (mi 41), fm_must, fm_least, fm_pin, fm_ways, fm_verdict, fm_row, gmi_37, gmi_41, gfm_row, by rw [ht]; exact hP, hD⟩, hS.F ht⟩) hS.2.2 dX12_dates_22
  · have g_1447 : gi r_1444 1 1 := gi_ne_lo c_1445 gr_1444 (gi_c 0 0 (by decide)) (by decide)
    have g_1448 : gi p1 0 999 := gi_cap (gi_any p1) (hqr_1444 (gz_one g_1447)) (by decide)
    refine lv_iload_n hx hb dX12_dates_8 rfl (lv_at hl 2 rfl) ?_
    refine lv_i2l (v := (p2).toInt64) hx hb dX12_dates_9 rfl ?_
    refine lv_topl (fun l_1449 el_1449 => ?_)
    refine lv_lconst (v := 0) hx hb dX12_dates_10 (by decide) ?_
    refine lv_ldc2 (own := RX12) (v := 999) hx hb hown (hts _ (List.mem_cons_of_mem _ mGB_260)) dX12_dates_11 ?_
    have hPc := hP.sub (ws' := []) [] rfl
    have hKc := hK.sub (tys' := []) [] rfl
    refine va_calli (va_runS (As := [.long l_1449, .long 0, .long 999]) (rest := []) ⟨hx, hb, hml, hown, hts⟩ (sX12_in l dC dI l_1449 0 999) (cwS 3 hts (gz_gS mGB_47 mGB_48 mGB_1 mGB_49 goodGB) rfl rfl rfl (by decide +kernel) ⟨Nat.le_of_ble_eq_true rfl, Nat.le_of_ble_eq_true rfl⟩) ⟨bl_R, fun U hU hW => ⟨rfl, by rw [hU]; exact hPc, va_K.moved hW.alike hKc⟩⟩ rfl rfl hl.1 rfl (lv_room (Nat.le_of_ble_eq_true rfl)) dX12_dates_14 ⟨Nat.zero_le _, Nat.zero_le _⟩) hS (fun q _ h => h.elim) (fun q h => h.elim) (fun r_1450 u t H1 locs ht hvm hw hB hz1 hk1 hS => ?_)
    obtain ⟨hw, hE⟩ := hw
    have hP := gz_keep hP hk1
    generalize H1 = H at hP hS ⊢
    have gr_1450 : gi r_1450 0 1 := hw.1
    have hqr_1450 := hw.2
    refine lv_if_ne (tgt := 23) hx hb dX12_dates_17 (by decide) (fun c_1451 => ?_) (fun c_1451 => ?_)
    · have g_1452 : gi r_1450 1 1 := gi_ne_lo c_1451 gr_1450 (gi_c 0 0 (by decide)) (by decide)
      have g_1453 : gi p2 0 999 := gi_cap (gi_any p2) (gz_inr (hqr_1450.1 (gz_one g_1452)) el_1449 (A := 0) (B := 999) (by decide) (by decide)) (by decide)
      refine lv_aload_n hx hb dX12_dates_23 rfl (lv_at hl 0 rfl) ?_
      refine lv_iload_n hx hb dX12_dates_24 rfl (lv_at hl 1 rfl) ?_
      have hFc := gz_fullF hD hS hA
      refine va_callv (va_runV (As := [.int p1]) (rest := []) ⟨hx, hb, hml, hown, hts⟩ (sX12_judgesAll l dC dI H.size h0 mi mr km fm_must fm_least fm_pin fm_ways fm_verdict fm_row fm_struck fm_reportKnown fm_reportPlace fm_reportMonth fm_reportDay fm_reportKind fm_trust fm_letter fm_deedMonth fm_deedDay fm_deedLong fm_deedKind fm_kept fm_tape fm_official fm_aside fm_worth fm_out p1 gmi_0 gmi_1 gmi_2 gmi_4 gmi_7 gmi_10 gmi_17 gmi_23 gmi_24 gmi_26 gmi_29 gmi_30 gmi_33 gmi_37 gmi_41 gmi_50 gmi_51 gmi_56 gfm_row gfm_struck gfm_reportKnown gfm_reportPlace gfm_reportMonth gfm_reportDay) (cwV 1 hts (gz_gV mGB_261 mGB_262 mGB_263 mGB_1 mGB_264 goodGB) rfl rfl rfl (by decide +kernel) ⟨Nat.le_of_ble_eq_true rfl, Nat.le_of_ble_eq_true rfl⟩) ⟨bl_W, mw_recv hK hP, fun U hU hW => ⟨rfl, by rw [hU], by rw [hU]; exact hP, va_K.moved hW.alike hK, hD.weaken (fun _ _ _ _ => trivial)⟩⟩ rfl rfl hl.1 rfl (lv_room (Nat.le_of_ble_eq_true rfl)) dX12_dates_25 ⟨Nat.zero_le _, Nat.zero_le _⟩) hS (fun q _ h => hFc q h) hFc (fun u t H1 locs ht hvm hw hB hz1 hk1 hS => ?_)
      obtain ⟨y_1455, y_1456, f_1457, f_1458, f_1459, f_1460, f_1461, f_1462, hB⟩ := hB
      obtain ⟨gy_1455, gy_1456, gf_1462, hP1, hD1⟩ := hB
      rw [ht] at hP1
      have hD : va_D A (MWn h0 mr km (mi 0) (mi 1) (mi 2) (mi 3) (mi 4) (mi 5) (mi 6) (mi 7) (mi 10) (mi 17) (mi 23) (mi 24) (mi 26) (mi 27) (mi 28) (mi 29) (mi 30) (mi 31) (mi 32) (mi 33) y_1455 y_1456 (mi 42) (mi 43) (mi 44) (mi 45) (mi 47) (mi 48) (mi 49) (mi 50) (mi 51) (mi 54) (mi 56) fm_trust fm_letter fm_reportPlace fm_reportKind fm_struck fm_reportMonth fm_reportDay fm_reportKnown fm_deedMonth fm_deedDay fm_deedLong fm_deedKind fm_kept fm_tape f_1457 f_1458 f_1459 f_1460 f_1461 f_1462 fm_official fm_aside fm_worth fm_out) := gz_fullD hFc hD1
      have hP : va_P (dC, dI) vwCl (MWn h0 mr km (mi 0) (mi 1) (mi 2) (mi 3) (mi 4) (mi 5) (mi 6) (mi 7) (mi 10) (mi 17) (mi 23) (mi 24) (mi 26) (mi 27) (mi 28) (mi 29) (mi 30) (mi 31) (mi 32) (mi 33) y_1455 y_1456 (mi 42) (mi 43) (mi 44) (mi 45) (mi 47) (mi 48) (mi 49) (mi 50) (mi 51) (mi 54) (mi 56) fm_trust fm_letter fm_reportPlace fm_reportKind fm_struck fm_reportMonth fm_reportDay fm_reportKnown fm_deedMonth fm_deedDay fm_deedLong fm_deedKind fm_kept fm_tape f_1457 f_1458 f_1459 f_1460 f_1461 f_1462 fm_official fm_aside fm_worth fm_out) H1 := hP1
      generalize H1 = H at hP hS ⊢
      refine lv_iconst (v := 0) hx hb dX12_dates_28 (by decide) ?_
      refine lv_istore_n (lv' := [(3, .int 0), (0, .ref h0), (1, .int p1), (2, .int p2)]) hx hb dX12_dates_29 rfl hl (by decide) rfl (fun ls hl => ?_)
      refine lv_iconst (v := 0) hx hb dX12_dates_30 (by decide) ?_
      refine lv_istore (lv' := [(4, .int 0), (3, .int 0), (0, .ref h0), (1, .int p1), (2, .int p2)]) hx hb dX12_dates_31 hl (by decide) rfl (fun ls hl => ?_)
      refine (lp_sX12_dates h0 mi mr km fm_must fm_least fm_pin fm_ways fm_verdict fm_row fm_struck fm_reportKnown fm_reportPlace fm_reportMonth fm_reportDay fm_reportKind fm_trust fm_letter fm_deedMonth fm_deedDay fm_deedLong fm_deedKind fm_kept fm_tape fm_official fm_aside fm_worth fm_out p1 p2 gmi_0 gmi_1 gmi_2 gmi_4 gmi_7 gmi_10 gmi_17 gmi_23 gmi_24 gmi_26 gmi_29 gmi_30 gmi_33 gmi_37 gmi_41 gmi_50 gmi_51 gmi_56 gfm_row gfm_struck gfm_reportKnown gfm_reportPlace gfm_reportMonth gfm_reportDay hx hb hml hown hts hK hA (Nat.le_of_ble_eq_true rfl) (Nat.le_of_ble_eq_true rfl) (Nat.zero_le _) (Nat.zero_le _) (fun v w0_37 w0_41 z1 z2 z3 z4 z5 z6 H locs ls gv gw0_37 gw0_41 gz6 hP hD hS hl => ?_) (fun v w0_37 w0_41 z1 z2 z3 z4 z5 z6 H locs ls gw0_37 gw0_41 gz6 hP hD hS hl => ?_) 1726).1 0 0 y_1455 y_1456 f_1457 f_1458 f_1459 f_1460 f_1461 f_1462 _ _ _ g_1448 g_1453 (gi_w (gi_c 0 0 (by decide)) (by decide)) gy_1455 gy_1456 gf_1462 (by have k0 : (0 : Int32).toInt = 0 := (by decide); omega) hP hD hS (lv_sub hl [2, 3, 4, 1, 0] rfl)
      · skip
        exact W.iret (v := v) hx hb hr (fun t ht hW => ⟨⟨v, (), rfl, (gi_any v), w0_37, w0_41, z1, z2, z3, z4, z5, z6, gw0_37, gw0_41, gz6, by rw [ht]; exact hP, hD⟩, hS.F ht⟩) hS.2.2 dX12_dates_22
      · skip
        exact W.iret (v := v) hx hb hr (fun t ht hW => ⟨⟨v, (), rfl, (gi_any v), w0_37, w0_41, z1, z2, z3, z4, z5, z6, gw0_37, gw0_41, gz6, by rw [ht]; exact hP, hD⟩, hS.F ht⟩) hS.2.2 dX12_dates_85
    · have g_1463 : gi r_1450 0 0 := gi_eq c_1451 (gi_c 0 0 (by decide))
      refine lv_bipush (v := (-2)) hx hb dX12_dates_20 (by decide) ?_
      exact W.iret (v := (-2)) hx hb hr (fun t ht hW => ⟨⟨(-2), (), rfl, (gi_any (-2)), (mi 37), (mi 41), fm_must, fm_least, fm_pin, fm_ways, fm_verdict, fm_row, gmi_37, gmi_41, gfm_row, by rw [ht]; exact hP, hD⟩, hS.F ht⟩) hS.2.2 dX12_dates_22
theorem dX12_likely_0 : decode cX12_likely 0 = .ok (.aload_n 0, 1) := by decide +kernel
theorem dX12_likely_1 : decode cX12_likely 1 = .ok (.iload_n 1, 1) := by decide +kernel
theorem dX12_likely_2 : decode cX12_likely 2 = .ok (.invokevirtual 359, 3) := by decide +kernel
theorem dX12_likely_5 : decode cX12_likely 5 = .ok (.ifCond .eq 15, 3) := by decide +kernel
theorem dX12_likely_8 : decode cX12_likely 8 = .ok (.iload_n 2, 1) := by decide +kernel
theorem dX12_likely_9 : decode cX12_likely 9 = .ok (.i2l, 1) := by decide +kernel
theorem dX12_likely_10 : decode cX12_likely 10 = .ok (.lconst 0, 1) := by decide +kernel
theorem dX12_likely_11 : decode cX12_likely 11 = .ok (.ldc2_w 292, 3) := by decide +kernel
theorem dX12_likely_14 : decode cX12_likely 14 = .ok (.invokestatic 102, 3) := by decide +kernel
theorem dX12_likely_17 : decode cX12_likely 17 = .ok (.ifCond .ne 6, 3) := by decide +kernel
theorem dX12_likely_20 : decode cX12_likely 20 = .ok (.bipush (-2), 2) := by decide +kernel
theorem dX12_likely_22 : decode cX12_likely 22 = .ok (.ireturn, 1) := by decide +kernel
theorem dX12_likely_23 : decode cX12_likely 23 = .ok (.aload_n 0, 1) := by decide +kernel
theorem dX12_likely_24 : decode cX12_likely 24 = .ok (.iload_n 1, 1) := by decide +kernel
theorem dX12_likely_25 : decode cX12_likely 25 = .ok (.invokevirtual 362, 3) := by decide +kernel
theorem dX12_likely_28 : decode cX12_likely 28 = .ok (.iconst (-1), 1) := by decide +kernel
theorem dX12_likely_29 : decode cX12_likely 29 = .ok (.istore_n 3, 1) := by decide +kernel
theorem dX12_likely_30 : decode cX12_likely 30 = .ok (.iconst 0, 1) := by decide +kernel
theorem dX12_likely_31 : decode cX12_likely 31 = .ok (.istore 4, 2) := by decide +kernel
theorem dX12_likely_33 : decode cX12_likely 33 = .ok (.iconst 0, 1) := by decide +kernel
theorem dX12_likely_34 : decode cX12_likely 34 = .ok (.istore 5, 2) := by decide +kernel
theorem dX12_likely_36 : decode cX12_likely 36 = .ok (.iload 5, 2) := by decide +kernel
theorem dX12_likely_38 : decode cX12_likely 38 = .ok (.aload_n 0, 1) := by decide +kernel
theorem dX12_likely_39 : decode cX12_likely 39 = .ok (.getfield 117, 3) := by decide +kernel
theorem dX12_likely_42 : decode cX12_likely 42 = .ok (.if_icmp .ge 56, 3) := by decide +kernel
theorem dX12_likely_45 : decode cX12_likely 45 = .ok (.iconst 1, 1) := by decide +kernel
theorem dX12_likely_46 : decode cX12_likely 46 = .ok (.istore 6, 2) := by decide +kernel
theorem dX12_likely_48 : decode cX12_likely 48 = .ok (.iload 6, 2) := by decide +kernel
theorem dX12_likely_50 : decode cX12_likely 50 = .ok (.bipush 30, 2) := by decide +kernel
theorem dX12_likely_52 : decode cX12_likely 52 = .ok (.if_icmp .gt 40, 3) := by decide +kernel
theorem dX12_likely_55 : decode cX12_likely 55 = .ok (.aload_n 0, 1) := by decide +kernel
theorem dX12_likely_56 : decode cX12_likely 56 = .ok (.iload 5, 2) := by decide +kernel
theorem dX12_likely_58 : decode cX12_likely 58 = .ok (.iload 6, 2) := by decide +kernel
theorem dX12_likely_60 : decode cX12_likely 60 = .ok (.iload_n 2, 1) := by decide +kernel
theorem dX12_likely_61 : decode cX12_likely 61 = .ok (.invokevirtual 415, 3) := by decide +kernel
theorem dX12_likely_64 : decode cX12_likely 64 = .ok (.istore 7, 2) := by decide +kernel
theorem dX12_likely_66 : decode cX12_likely 66 = .ok (.iload 7, 2) := by decide +kernel
theorem dX12_likely_68 : decode cX12_likely 68 = .ok (.iload 4, 2) := by decide +kernel
theorem dX12_likely_70 : decode cX12_likely 70 = .ok (.if_icmp .le 16, 3) := by decide +kernel
theorem dX12_likely_73 : decode cX12_likely 73 = .ok (.bipush 100, 2) := by decide +kernel
theorem dX12_likely_75 : decode cX12_likely 75 = .ok (.iload 5, 2) := by decide +kernel
theorem dX12_likely_77 : decode cX12_likely 77 = .ok (.imul, 1) := by decide +kernel
theorem dX12_likely_78 : decode cX12_likely 78 = .ok (.iload 6, 2) := by decide +kernel
theorem dX12_likely_80 : decode cX12_likely 80 = .ok (.iadd, 1) := by decide +kernel
theorem dX12_likely_81 : decode cX12_likely 81 = .ok (.istore_n 3, 1) := by decide +kernel
theorem dX12_likely_82 : decode cX12_likely 82 = .ok (.iload 7, 2) := by decide +kernel
theorem dX12_likely_84 : decode cX12_likely 84 = .ok (.istore 4, 2) := by decide +kernel
theorem dX12_likely_86 : decode cX12_likely 86 = .ok (.iinc 6 1, 3) := by decide +kernel
theorem dX12_likely_89 : decode cX12_likely 89 = .ok (.goto (-41), 3) := by decide +kernel
theorem dX12_likely_92 : decode cX12_likely 92 = .ok (.iinc 5 1, 3) := by decide +kernel
theorem dX12_likely_95 : decode cX12_likely 95 = .ok (.goto (-59), 3) := by decide +kernel
theorem dX12_likely_98 : decode cX12_likely 98 = .ok (.iload_n 3, 1) := by decide +kernel
theorem dX12_likely_99 : decode cX12_likely 99 = .ok (.ireturn, 1) := by decide +kernel
set_option maxHeartbeats 4000000 in
set_option maxRecDepth 100000 in
theorem lp_sX12_likely {p : Program} {l : Launch} {e : Env} {R : Room} {s : State} {m : MethodId} {args : Array Value} {below : List Frame} {meth : Method} {c : Code} {Q : State → Prop} {A : Nat → Prop} {cells slots : Nat} {dC : Nat → ClassId} {dI : Nat → Nat → Nat} (h0 : Nat) (mi : Nat → Int32) (mr : Nat → Nat) (km : Nat → ClassId) (fm_must : Nat → Int32) (fm_least : Nat → Int32) (fm_pin : Nat → Int32) (fm_ways : Nat → Int32) (fm_verdict : Nat → Int32) (fm_row : Nat → Int32) (fm_struck : Nat → Int32) (fm_reportKnown : Nat → Int32) (fm_reportPlace : Nat → Int32) (fm_reportMonth : Nat → Int32) (fm_reportDay : Nat → Int32) (fm_reportKind : Nat → Int32) (fm_trust : Nat → Int32) (fm_letter : Nat → Int32) (fm_deedMonth : Nat → Int32) (fm_deedDay : Nat → Int32) (fm_deedLong : Nat → Int32) (fm_deedKind : Nat → Int32) (fm_kept : Nat → Int32) (fm_tape : Nat → Int32) (fm_official : Nat → Int32) (fm_aside : Nat → Int32) (fm_worth : Nat → Int32) (fm_out : Nat → Int32) (p1 : Int32) (p2 : Int32) (gmi_0 : gi (mi 0) 0 24) (gmi_1 : gi (mi 1) 0 5) (gmi_2 : gi (mi 2) 0 5) (gmi_4 : gi (mi 4) 0 1) (gmi_7 : gi (mi 7) 0 6) (gmi_10 : gi (mi 10) 0 24) (gmi_17 : gi (mi 17) 0 8) (gmi_23 : gi (mi 23) 0 300) (gmi_24 : gi (mi 24) 0 1) (gmi_26 : gi (mi 26) 0 1600) (gmi_29 : gi (mi 29) 0 1600) (gmi_30 : gi (mi 30) 0 1600) (gmi_33 : gi (mi 33) 0 1) (gmi_37 : gi (mi 37) 0 1) (gmi_41 : gi (mi 41) 0 24) (gmi_50 : gi (mi 50) 0 1) (gmi_51 : gi (mi 51) 0 1) (gmi_56 : gi (mi 56) 0 80) (gfm_row : ga fm_row 24 0 23) (gfm_struck : ga fm_struck 24 0 1) (gfm_reportKnown : ga fm_reportKnown 24 0 999) (gfm_reportPlace : ga fm_reportPlace 24 0 5) (gfm_reportMonth : ga fm_reportMonth 24 0 23) (gfm_reportDay : ga fm_reportDay 24 0 999) (hx : p.tables.exec = Jvm.exec) (hb : c.code = cX12_likely) (hml : c.maxLocals = 8) (hown : s.vm.findClass RX12 = some m.cls) (hts : ∀ w ∈ ((.code yX12_likely cX12_likely 8 (some .int) :: wsGB) : List Cond), w.before args s = true) (hK : va_K (dC, dI) vwCl (MT km) s) (hA : ∀ q : Nat, s.heap.size ≤ q → A q) (hRf : 6 ≤ R.frames) (hRl : 147 ≤ R.locals) (hRc : cells ≤ R.cells) (hRs : slots ≤ R.slots) (kr22 : ∀ (v : Int32) (w0_37 : Int32) (w0_41 : Int32) (z1 : Nat → Int32) (z2 : Nat → Int32) (z3 : Nat → Int32) (z4 : Nat → Int32) (z5 : Nat → Int32) (z6 : Nat → Int32) (H : Heap) (locs : List Loc) (ls : Array Slot), gi v (-2) (-2) → gi w0_37 0 1 → gi w0_41 0 24 → ga z6 24 0 23 → va_P (dC, dI) vwCl (MWn h0 mr km (mi 0) (mi 1) (mi 2) (mi 3) (mi 4) (mi 5) (mi 6) (mi 7) (mi 10) (mi 17) (mi 23) (mi 24) (mi 26) (mi 27) (mi 28) (mi 29) (mi 30) (mi 31) (mi 32) (mi 33) w0_37 w0_41 (mi 42) (mi 43) (mi 44) (mi 45) (mi 47) (mi 48) (mi 49) (mi 50) (mi 51) (mi 54) (mi 56) fm_trust fm_letter fm_reportPlace fm_reportKind fm_struck fm_reportMonth fm_reportDay fm_reportKnown fm_deedMonth fm_deedDay fm_deedLong fm_deedKind fm_kept fm_tape z1 z2 z3 z4 z5 z6 fm_official fm_aside fm_worth fm_out) H → va_D A (MWn h0 mr km (mi 0) (mi 1) (mi 2) (mi 3) (mi 4) (mi 5) (mi 6) (mi 7) (mi 10) (mi 17) (mi 23) (mi 24) (mi 26) (mi 27) (mi 28) (mi 29) (mi 30) (mi 31) (mi 32) (mi 33) w0_37 w0_41 (mi 42) (mi 43) (mi 44) (mi 45) (mi 47) (mi 48) (mi 49) (mi 50) (mi 51) (mi 54) (mi 56) fm_trust fm_letter fm_reportPlace fm_reportKind fm_struck fm_reportMonth fm_reportDay fm_reportKnown fm_deedMonth fm_deedDay fm_deedLong fm_deedKind fm_kept fm_tape z1 z2 z3 z4 z5 z6 fm_official fm_aside fm_worth fm_out) → va_S A s.heap H locs → lv_has ls 8 [] → W p l e R s m args below meth c H locs cells slots Q (F0 m 22 ls [.int v])) (kr99 : ∀ (v : Int32) (w0_37 : Int32) (w0_41 : Int32) (z1 : Nat → Int32) (z2 : Nat → Int32) (z3 : Nat → Int32) (z4 : Nat → Int32) (z5 : Nat → Int32) (z6 : Nat → Int32) (H : Heap) (locs : List Loc) (ls : Array Slot), gi v (-1) 3300 → gi w0_37 0 1 → gi w0_41 0 24 → ga z6 24 0 23 → va_P (dC, dI) vwCl (MWn h0 mr km (mi 0) (mi 1) (mi 2) (mi 3) (mi 4) (mi 5) (mi 6) (mi 7) (mi 10) (mi 17) (mi 23) (mi 24) (mi 26) (mi 27) (mi 28) (mi 29) (mi 30) (mi 31) (mi 32) (mi 33) w0_37 w0_41 (mi 42) (mi 43) (mi 44) (mi 45) (mi 47) (mi 48) (mi 49) (mi 50) (mi 51) (mi 54) (mi 56) fm_trust fm_letter fm_reportPlace fm_reportKind fm_struck fm_reportMonth fm_reportDay fm_reportKnown fm_deedMonth fm_deedDay fm_deedLong fm_deedKind fm_kept fm_tape z1 z2 z3 z4 z5 z6 fm_official fm_aside fm_worth fm_out) H → va_D A (MWn h0 mr km (mi 0) (mi 1) (mi 2) (mi 3) (mi 4) (mi 5) (mi 6) (mi 7) (mi 10) (mi 17) (mi 23) (mi 24) (mi 26) (mi 27) (mi 28) (mi 29) (mi 30) (mi 31) (mi 32) (mi 33) w0_37 w0_41 (mi 42) (mi 43) (mi 44) (mi 45) (mi 47) (mi 48) (mi 49) (mi 50) (mi 51) (mi 54) (mi 56) fm_trust fm_letter fm_reportPlace fm_reportKind fm_struck fm_reportMonth fm_reportDay fm_reportKnown fm_deedMonth fm_deedDay fm_deedLong fm_deedKind fm_kept fm_tape z1 z2 z3 z4 z5 z6 fm_official fm_aside fm_worth fm_out) → va_S A s.heap H locs → lv_has ls 8 [] → W p l e R s m args below meth c H locs cells slots Q (F0 m 99 ls [.int v])) : ∀ z : Nat, (∀ (v3 : Int32) (v4 : Int32) (v5 : Int32) (w0_37 : Int32) (w0_41 : Int32) (z1 : Nat → Int32) (z2 : Nat → Int32) (z3 : Nat → Int32) (z4 : Nat → Int32) (z5 : Nat → Int32) (z6 : Nat → Int32) (H : Heap) (locs : List Loc) (ls : Array Slot), gi p1 0 999 → gi p2 0 999 → gi v3 (-1) 3300 → gi v4 0 2147483647 → gi v5 0 24 → gi w0_37 0 1 → gi w0_41 0 24 → ga z6 24 0 23 → 1585 + (-66) * v5.toInt < (z : Int) → va_P (dC, dI) vwCl (MWn h0 mr km (mi 0) (mi 1) (mi 2) (mi 3) (mi 4) (mi 5) (mi 6) (mi 7) (mi 10) (mi 17) (mi 23) (mi 24) (mi 26) (mi 27) (mi 28) (mi 29) (mi 30) (mi 31) (mi 32) (mi 33) w0_37 w0_41 (mi 42) (mi 43) (mi 44) (mi 45) (mi 47) (mi 48) (mi 49) (mi 50) (mi 51) (mi 54) (mi 56) fm_trust fm_letter fm_reportPlace fm_reportKind fm_struck fm_reportMonth fm_reportDay fm_reportKnown fm_deedMonth fm_deedDay fm_deedLong fm_deedKind fm_kept fm_tape z1 z2 z3 z4 z5 z6 fm_official fm_aside fm_worth fm_out) H → va_D A (MWn h0 mr km (mi 0) (mi 1) (mi 2) (mi 3) (mi 4) (mi 5) (mi 6) (mi 7) (mi 10) (mi 17) (mi 23) (mi 24) (mi 26) (mi 27) (mi 28) (mi 29) (mi 30) (mi 31) (mi 32) (mi 33) w0_37 w0_41 (mi 42) (mi 43) (mi 44) (mi 45) (mi 47) (mi 48) (mi 49) (mi 50) (mi 51) (mi 54) (mi 56) fm_trust fm_letter fm_reportPlace fm_reportKind fm_struck fm_reportMonth fm_reportDay fm_reportKnown fm_deedMonth fm_deedDay fm_deedLong fm_deedKind fm_kept fm_tape z1 z2 z3 z4 z5 z6 fm_official fm_aside fm_worth fm_out) → va_S A s.heap H locs → lv_has ls 8 [(0, .ref h0), (1, .int p1), (2, .int p2), (3, .int v3), (4, .int v4), (5, .int v5)] → W p l e R s m args below meth c H locs cells slots Q (F0 m 36 ls [])) ∧ (∀ (v3 : Int32) (v4 : Int32) (v5 : Int32) (v6 : Int32) (w0_37 : Int32) (w0_41 : Int32) (z1 : Nat → Int32) (z2 : Nat → Int32) (z3 : Nat → Int32) (z4 : Nat → Int32) (z5 : Nat → Int32) (z6 : Nat → Int32) (H : Heap) (locs : List Loc) (ls : Array Slot), gi p1 0 999 → gi p2 0 999 → gi v3 (-1) 3300 → gi v4 0 2147483647 → gi v5 0 23 → gi v6 1 31 → gi w0_37 0 1 → gi w0_41 0 24 → ga z6 24 0 23 → 1582 + (-66) * v5.toInt + (-2) * v6.toInt < (z : Int) → va_P (dC, dI) vwCl (MWn h0 mr km (mi 0) (mi 1) (mi 2) (mi 3) (mi 4) (mi 5) (mi 6) (mi 7) (mi 10) (mi 17) (mi 23) (mi 24) (mi 26) (mi 27) (mi 28) (mi 29) (mi 30) (mi 31) (mi 32) (mi 33) w0_37 w0_41 (mi 42) (mi 43) (mi 44) (mi 45) (mi 47) (mi 48) (mi 49) (mi 50) (mi 51) (mi 54) (mi 56) fm_trust fm_letter fm_reportPlace fm_reportKind fm_struck fm_reportMonth fm_reportDay fm_reportKnown fm_deedMonth fm_deedDay fm_deedLong fm_deedKind fm_kept fm_tape z1 z2 z3 z4 z5 z6 fm_official fm_aside fm_worth fm_out) H → va_D A (MWn h0 mr km (mi 0) (mi 1) (mi 2) (mi 3) (mi 4) (mi 5) (mi 6) (mi 7) (mi 10) (mi 17) (mi 23) (mi 24) (mi 26) (mi 27) (mi 28) (mi 29) (mi 30) (mi 31) (mi 32) (mi 33) w0_37 w0_41 (mi 42) (mi 43) (mi 44) (mi 45) (mi 47) (mi 48) (mi 49) (mi 50) (mi 51) (mi 54) (mi 56) fm_trust fm_letter fm_reportPlace fm_reportKind fm_struck fm_reportMonth fm_reportDay fm_reportKnown fm_deedMonth fm_deedDay fm_deedLong fm_deedKind fm_kept fm_tape z1 z2 z3 z4 z5 z6 fm_official fm_aside fm_worth fm_out) → va_S A s.heap H locs → lv_has ls 8 [(0, .ref h0), (1, .int p1), (2, .int p2), (3, .int v3), (4, .int v4), (5, .int v5), (6, .int v6)] → W p l e R s m args below meth c H locs cells slots Q (F0 m 48 ls [])) := by
  intro z
  induction z with
  | zero =>
    refine ⟨?_, ?_⟩
    · intro v3 v4 v5 w0_37 w0_41 z1 z2 z3 z4 z5 z6 H locs ls gf_p1 gf_p2 gv3 gv4 gv5 gw0_37 gw0_41 gz6 hmu hP hD hS hl
      exact absurd hmu (by have hv51 := gv5.1; have hv52 := gv5.2; omega)
    · intro v3 v4 v5 v6 w0_37 w0_41 z1 z2 z3 z4 z5 z6 H locs ls gf_p1 gf_p2 gv3 gv4 gv5 gv6 gw0_37 gw0_41 gz6 hmu hP hD hS hl
      exact absurd hmu (by have hv51 := gv5.1; have hv52 := gv5.2; have hv61 := gv6.1; have hv62 := gv6.2; omega)
  | succ z ih =>
    refine ⟨?_, ?_⟩
    · intro v3 v4 v5 w0_37 w0_41 z1 z2 z3 z4 z5 z6 H locs ls gf_p1 gf_p2 gv3 gv4 gv5 gw0_37 gw0_41 gz6 hmu hP hD hS hl
      refine lv_iload hx hb dX12_likely_36 (lv_at hl 5 rfl) ?_
      refine lv_aload_n hx hb dX12_likely_38 rfl (lv_at hl 0 rfl) ?_
      refine va_get (D := (dC, dI)) (ci := 12) (v := .int (mi 0)) (C := RX12) (T := TX12) (N := 57) hx hb hts (fun w h => List.mem_cons_of_mem _ (jnGB_X12 w h)) hown hK hP 0 rfl rfl 0 (by decide) (hts _ (List.mem_cons_of_mem _ mGB_103)) (fun _ h9 => h9) rfl dX12_likely_39 ?_
      refine lv_icmp_ge (tgt := 98) hx hb dX12_likely_42 (by decide) (fun c_1168 => ?_) (fun c_1168 => ?_)
      · refine lv_iload_n hx hb dX12_likely_98 rfl (lv_at hl 3 rfl) ?_
        exact kr99 v3 w0_37 w0_41 z1 z2 z3 z4 z5 z6 _ _ _ gv3 gw0_37 gw0_41 gz6 hP hD hS (lv_sub hl [] rfl)
      · have g_1169 : gi v5 0 23 := gi_lt_l (Int32.not_le.mp c_1168) gv5 gmi_0 (by decide)
        have g_1170 : gi (mi 0) 1 24 := gi_lt_r (Int32.not_le.mp c_1168) gv5 gmi_0 (by decide)
        refine lv_iconst (v := 1) hx hb dX12_likely_45 (by decide) ?_
        refine lv_istore (lv' := [(6, .int 1), (0, .ref h0), (1, .int p1), (2, .int p2), (3, .int v3), (4, .int v4), (5, .int v5)]) hx hb dX12_likely_46 hl (by decide) rfl (fun ls hl => ?_)
        exact ih.2 v3 v4 v5 1 w0_37 w0_41 z1 z2 z3 z4 z5 z6 _ _ _ gf_p1 gf_p2 gv3 gv4 g_1169 (gi_w (gi_c 1 1 (by decide)) (by decide)) gw0_37 gw0_41 gz6 (by have k1 : (1 : Int32).toInt = 1 := (by decide); have av5 := gv5.1; have bv5 := gv5.2; have qgv5 := g_1169.1; have rgv5 := g_1169.2; omega) hP hD hS (lv_sub hl [1, 2, 3, 4, 5, 6, 0] rfl)
    · intro v3 v4 v5 v6 w0_37 w0_41 z1 z2 z3 z4 z5 z6 H locs ls gf_p1 gf_p2 gv3 gv4 gv5 gv6 gw0_37 gw0_41 gz6 hmu hP hD hS hl
      refine lv_iload hx hb dX12_likely_48 (lv_at hl 6 rfl) ?_
      refine lv_bipush (v := 30) hx hb dX12_likely_50 (by decide) ?_
      refine lv_icmp_gt (tgt := 92) hx hb dX12_likely_52 (by decide) (fun c_1171 => ?_) (fun c_1171 => ?_)
      · have g_1172 : gi v6 31 31 := gi_lt_r c_1171 (gi_c 30 30 (by decide)) gv6 (by decide)
        obtain ⟨x_1173, ex_1173⟩ : ∃ y : Int32, y = v5 + 1 := ⟨_, rfl⟩
        have gx_1173 : gi x_1173 1 24 := gi_add ex_1173 gv5 (gi_c 1 1 (by decide)) (by decide)
        refine lv_iinc (v := x_1173) (lv' := [(5, .int x_1173), (0, .ref h0), (1, .int p1), (2, .int p2), (3, .int v3), (4, .int v4), (6, .int v6)]) hx hb dX12_likely_92 hl (k := 5) rfl (by rw [ex_1173]; rfl) (by decide) rfl (fun ls hl => ?_)
        refine lv_goto (tgt := 36) hx hb dX12_likely_95 (by decide) ?_
        exact ih.1 v3 v4 x_1173 w0_37 w0_41 z1 z2 z3 z4 z5 z6 _ _ _ gf_p1 gf_p2 gv3 gv4 (gi_w gx_1173 (by decide)) gw0_37 gw0_41 gz6 (by have av5 := gv5.1; have bv5 := gv5.2; have av6 := gv6.1; have bv6 := gv6.2; have qgx_1173 := gx_1173.1; have rgx_1173 := gx_1173.2; have igx_1173 : x_1173.toInt = v5.toInt + 1 := (by have hc1 : (1 : Int32).toInt = 1 := (by decide); have h9 := gi_addI ex_1173 (by have h1 := gv5.1; have h2 := (gi_c 1 1 (by decide)).1; have h3 := gv5.2; have h4 := (gi_c 1 1 (by decide)).2; omega) (by have h1 := gv5.1; have h2 := (gi_c 1 1 (by decide)).1; have h3 := gv5.2; have h4 := (gi_c 1 1 (by decide)).2; omega); rw [hc1] at h9; exact h9); have qgv5 := gv5.1; have rgv5 := gv5.2; omega) hP hD hS (lv_sub hl [1, 2, 3, 4, 5, 0] rfl)
      · have g_1174 : gi v6 1 30 := gi_le_l (Int32.not_lt.mp c_1171) gv6 (gi_c 30 30 (by decide))
        refine lv_aload_n hx hb dX12_likely_55 rfl (lv_at hl 0 rfl) ?_
        refine lv_iload hx hb dX12_likely_56 (lv_at hl 5 rfl) ?_
        refine lv_iload hx hb dX12_likely_58 (lv_at hl 6 rfl) ?_
        refine lv_iload_n hx hb dX12_likely_60 rfl (lv_at hl 2 rfl) ?_
        have hFc := gz_fullF hD hS hA
        refine va_calli (va_runV (As := [.int v5, .int v6, .int p2]) (rest := []) ⟨hx, hb, hml, hown, hts⟩ (sX12_datesWith l dC dI H.size h0 (upd (upd mi 37 w0_37) 41 w0_41) mr km z1 z2 z3 z4 fm_trust fm_letter fm_reportPlace fm_reportKind fm_struck fm_reportMonth fm_reportDay fm_reportKnown fm_deedMonth fm_deedDay fm_deedLong fm_deedKind fm_kept fm_tape z5 z6 fm_official fm_aside fm_worth fm_out v5 v6 p2 gmi_0 gmi_1 gmi_2 gmi_4 gmi_7 gmi_10 gmi_17 gmi_23 gmi_24 gmi_26 gmi_29 gmi_30 gmi_33 gw0_37 gw0_41 gmi_50 gmi_51 gmi_56 gv5) (cwV 3 hts (gz_gV mGB_433 mGB_434 mGB_435 mGB_1 mGB_436 goodGB) rfl rfl rfl (by decide +kernel) ⟨Nat.le_trans (Nat.le_of_ble_eq_true rfl) hRf, Nat.le_trans (Nat.le_of_ble_eq_true rfl) hRl⟩) ⟨bl_W, mw_recv hK hP, fun U hU hW => ⟨rfl, by rw [hU], by rw [hU]; exact hP, va_K.moved hW.alike hK, hD.weaken (fun _ _ _ _ => trivial)⟩⟩ rfl rfl hl.1 rfl (lv_room (Nat.le_of_ble_eq_true rfl)) dX12_likely_61 ⟨hRc, hRs⟩) hS (fun q _ h => hFc q h) hFc (fun r_1175 u t H1 locs ht hvm hw hB hz1 hk1 hS => ?_)
        obtain ⟨f_1176, f_1177, hB⟩ := hB
        obtain ⟨hP1, hD1⟩ := hB
        rw [ht] at hP1
        have hD : va_D A (MWn h0 mr km (mi 0) (mi 1) (mi 2) (mi 3) (mi 4) (mi 5) (mi 6) (mi 7) (mi 10) (mi 17) (mi 23) (mi 24) (mi 26) (mi 27) (mi 28) (mi 29) (mi 30) (mi 31) (mi 32) (mi 33) w0_37 w0_41 (mi 42) (mi 43) (mi 44) (mi 45) (mi 47) (mi 48) (mi 49) (mi 50) (mi 51) (mi 54) (mi 56) fm_trust fm_letter fm_reportPlace fm_reportKind fm_struck fm_reportMonth fm_reportDay fm_reportKnown fm_deedMonth fm_deedDay fm_deedLong fm_deedKind fm_kept fm_tape z1 z2 f_1176 f_1177 z5 z6 fm_official fm_aside fm_worth fm_out) := gz_fullD hFc hD1
        have hP : va_P (dC, dI) vwCl (MWn h0 mr km (mi 0) (mi 1) (mi 2) (mi 3) (mi 4) (mi 5) (mi 6) (mi 7) (mi 10) (mi 17) (mi 23) (mi 24) (mi 26) (mi 27) (mi 28) (mi 29) (mi 30) (mi 31) (mi 32) (mi 33) w0_37 w0_41 (mi 42) (mi 43) (mi 44) (mi 45) (mi 47) (mi 48) (mi 49) (mi 50) (mi 51) (mi 54) (mi 56) fm_trust fm_letter fm_reportPlace fm_reportKind fm_struck fm_reportMonth fm_reportDay fm_reportKnown fm_deedMonth fm_deedDay fm_deedLong fm_deedKind fm_kept fm_tape z1 z2 f_1176 f_1177 z5 z6 fm_official fm_aside fm_worth fm_out) H1 := hP1
        generalize H1 = H at hP hS ⊢
        refine lv_istore (lv' := [(7, .int r_1175), (0, .ref h0), (1, .int p1), (2, .int p2), (3, .int v3), (4, .int v4), (5, .int v5), (6, .int v6)]) hx hb dX12_likely_64 hl (by decide) rfl (fun ls hl => ?_)
        refine lv_iload hx hb dX12_likely_66 (lv_at hl 0 rfl) ?_
        refine lv_iload hx hb dX12_likely_68 (lv_at hl 5 rfl) ?_
        refine lv_icmp_le (tgt := 86) hx hb dX12_likely_70 (by decide) (fun c_1178 => ?_) (fun c_1178 => ?_)
        · obtain ⟨x_1179, ex_1179⟩ : ∃ y : Int32, y = v6 + 1 := ⟨_, rfl⟩
          have gx_1179 : gi x_1179 2 31 := gi_add ex_1179 g_1174 (gi_c 1 1 (by decide)) (by decide)
          refine lv_iinc (v := x_1179) (lv' := [(6, .int x_1179), (7, .int r_1175), (0, .ref h0), (1, .int p1), (2, .int p2), (3, .int v3), (4, .int v4), (5, .int v5)]) hx hb dX12_likely_86 hl (k := 7) rfl (by rw [ex_1179]; rfl) (by decide) rfl (fun ls hl => ?_)
          refine lv_goto (tgt := 48) hx hb dX12_likely_89 (by decide) ?_
          exact ih.2 v3 v4 v5 x_1179 w0_37 w0_41 z1 z2 f_1176 f_1177 z5 z6 _ _ _ gf_p1 gf_p2 gv3 gv4 gv5 (gi_w gx_1179 (by decide)) gw0_37 gw0_41 gz6 (by have av5 := gv5.1; have bv5 := gv5.2; have av6 := gv6.1; have bv6 := gv6.2; have qgx_1179 := gx_1179.1; have rgx_1179 := gx_1179.2; have igx_1179 : x_1179.toInt = v6.toInt + 1 := (by have hc1 : (1 : Int32).toInt = 1 := (by decide); have h9 := gi_addI ex_1179 (by have h1 := g_1174.1; have h2 := (gi_c 1 1 (by decide)).1; have h3 := g_1174.2; have h4 := (gi_c 1 1 (by decide)).2; omega) (by have h1 := g_1174.1; have h2 := (gi_c 1 1 (by decide)).1; have h3 := g_1174.2; have h4 := (gi_c 1 1 (by decide)).2; omega); rw [hc1] at h9; exact h9); have qgv6 := g_1174.1; have rgv6 := g_1174.2; have qgv5 := gv5.1; have rgv5 := gv5.2; omega) hP hD hS (lv_sub hl [2, 3, 4, 5, 6, 7, 0] rfl)
        · have g_1180 : gi v4 0 2147483646 := gi_lt_l (Int32.not_le.mp c_1178) gv4 (gi_any r_1175) (by decide)
          have g_1181 : gi r_1175 1 2147483647 := gi_lt_r (Int32.not_le.mp c_1178) gv4 (gi_any r_1175) (by decide)
          refine lv_bipush (v := 100) hx hb dX12_likely_73 (by decide) ?_
          refine lv_iload hx hb dX12_likely_75 (lv_at hl 6 rfl) ?_
          refine lv_imul hx hb dX12_likely_77 ?_
          refine lv_topi (fun x_1182 ex_1182 => ?_)
          have gx_1182 : gi x_1182 0 2300 := gi_mul ex_1182 (gi_c 100 100 (by decide)) gv5 (by decide)
          refine lv_iload hx hb dX12_likely_78 (lv_at hl 7 rfl) ?_
          refine lv_iadd hx hb dX12_likely_80 ?_
          refine lv_topi (fun x_1183 ex_1183 => ?_)
          have gx_1183 : gi x_1183 1 2330 := gi_add ex_1183 gx_1182 g_1174 (by decide)
          refine lv_istore_n (lv' := [(3, .int x_1183), (7, .int r_1175), (0, .ref h0), (1, .int p1), (2, .int p2), (4, .int v4), (5, .int v5), (6, .int v6)]) hx hb dX12_likely_81 rfl hl (by decide) rfl (fun ls hl => ?_)
          refine lv_iload hx hb dX12_likely_82 (lv_at hl 1 rfl) ?_
          refine lv_istore (lv' := [(4, .int r_1175), (3, .int x_1183), (7, .int r_1175), (0, .ref h0), (1, .int p1), (2, .int p2), (5, .int v5), (6, .int v6)]) hx hb dX12_likely_84 hl (by decide) rfl (fun ls hl => ?_)
          obtain ⟨x_1184, ex_1184⟩ : ∃ y : Int32, y = v6 + 1 := ⟨_, rfl⟩
          have gx_1184 : gi x_1184 2 31 := gi_add ex_1184 g_1174 (gi_c 1 1 (by decide)) (by decide)
          refine lv_iinc (v := x_1184) (lv' := [(6, .int x_1184), (4, .int r_1175), (3, .int x_1183), (7, .int r_1175), (0, .ref h0), (1, .int p1), (2, .int p2), (5, .int v5)]) hx hb dX12_likely_86 hl (k := 7) rfl (by rw [ex_1184]; rfl) (by decide) rfl (fun ls hl => ?_)
          refine lv_goto (tgt := 48) hx hb dX12_likely_89 (by decide) ?_
          exact ih.2 x_1183 r_1175 v5 x_1184 w0_37 w0_41 z1 z2 f_1176 f_1177 z5 z6 _ _ _ gf_p1 gf_p2 (gi_w gx_1183 (by decide)) (gi_w g_1181 (by decide)) gv5 (gi_w gx_1184 (by decide)) gw0_37 gw0_41 gz6 (by have av5 := gv5.1; have bv5 := gv5.2; have av6 := gv6.1; have bv6 := gv6.2; have qgx_1184 := gx_1184.1; have rgx_1184 := gx_1184.2; have igx_1184 : x_1184.toInt = v6.toInt + 1 := (by have hc1 : (1 : Int32).toInt = 1 := (by decide); have h9 := gi_addI ex_1184 (by have h1 := g_1174.1; have h2 := (gi_c 1 1 (by decide)).1; have h3 := g_1174.2; have h4 := (gi_c 1 1 (by decide)).2; omega) (by have h1 := g_1174.1; have h2 := (gi_c 1 1 (by decide)).1; have h3 := g_1174.2; have h4 := (gi_c 1 1 (by decide)).2; omega); rw [hc1] at h9; exact h9); have qgv6 := g_1174.1; have rgv6 := g_1174.2; have qgv5 := gv5.1; have rgv5 := gv5.2; omega) hP hD hS (lv_sub hl [4, 5, 6, 2, 1, 7, 0] rfl)
abbrev pb_sX12_likely (dC : Nat → ClassId) (dI : Nat → Nat → Nat) (A9 : Nat → Prop) (h0 : Nat) (mi : Nat → Int32) (mr : Nat → Nat) (km : Nat → ClassId) (fm_must : Nat → Int32) (fm_least : Nat → Int32) (fm_pin : Nat → Int32) (fm_ways : Nat → Int32) (fm_verdict : Nat → Int32) (fm_row : Nat → Int32) (fm_struck : Nat → Int32) (fm_reportKnown : Nat → Int32) (fm_reportPlace : Nat → Int32) (fm_reportMonth : Nat → Int32) (fm_reportDay : Nat → Int32) (fm_reportKind : Nat → Int32) (fm_trust : Nat → Int32) (fm_letter : Nat → Int32) (fm_deedMonth : Nat → Int32) (fm_deedDay : Nat → Int32) (fm_deedLong : Nat → Int32) (fm_deedKind : Nat → Int32) (fm_kept : Nat → Int32) (fm_tape : Nat → Int32) (fm_official : Nat → Int32) (fm_aside : Nat → Int32) (fm_worth : Nat → Int32) (fm_out : Nat → Int32) (p1 : Int32) (p2 : Int32) (w0_37 : Int32) (w0_41 : Int32) (z1 : Nat → Int32) (z2 : Nat → Int32) (z3 : Nat → Int32) (z4 : Nat → Int32) (z5 : Nat → Int32) (z6 : Nat → Int32) (t : State) : Prop := gi w0_37 0 1 ∧ gi w0_41 0 24 ∧ ga z6 24 0 23 ∧ va_P (dC, dI) vwCl (MWn h0 mr km (mi 0) (mi 1) (mi 2) (mi 3) (mi 4) (mi 5) (mi 6) (mi 7) (mi 10) (mi 17) (mi 23) (mi 24) (mi 26) (mi 27) (mi 28) (mi 29) (mi 30) (mi 31) (mi 32) (mi 33) w0_37 w0_41 (mi 42) (mi 43) (mi 44) (mi 45) (mi 47) (mi 48) (mi 49) (mi 50) (mi 51) (mi 54) (mi 56) fm_trust fm_letter fm_reportPlace fm_reportKind fm_struck fm_reportMonth fm_reportDay fm_reportKnown fm_deedMonth fm_deedDay fm_deedLong fm_deedKind fm_kept fm_tape z1 z2 z3 z4 z5 z6 fm_official fm_aside fm_worth fm_out) t.heap ∧ va_D A9 (MWn h0 mr km (mi 0) (mi 1) (mi 2) (mi 3) (mi 4) (mi 5) (mi 6) (mi 7) (mi 10) (mi 17) (mi 23) (mi 24) (mi 26) (mi 27) (mi 28) (mi 29) (mi 30) (mi 31) (mi 32) (mi 33) w0_37 w0_41 (mi 42) (mi 43) (mi 44) (mi 45) (mi 47) (mi 48) (mi 49) (mi 50) (mi 51) (mi 54) (mi 56) fm_trust fm_letter fm_reportPlace fm_reportKind fm_struck fm_reportMonth fm_reportDay fm_reportKnown fm_deedMonth fm_deedDay fm_deedLong fm_deedKind fm_kept fm_tape z1 z2 z3 z4 z5 z6 fm_official fm_aside fm_worth fm_out)
set_option maxHeartbeats 4000000 in
set_option maxRecDepth 100000 in
theorem sX12_likely (l : Launch) (dC : Nat → ClassId) (dI : Nat → Nat → Nat) (sz : Nat) (h0 : Nat) (mi : Nat → Int32) (mr : Nat → Nat) (km : Nat → ClassId) (fm_must : Nat → Int32) (fm_least : Nat → Int32) (fm_pin : Nat → Int32) (fm_ways : Nat → Int32) (fm_verdict : Nat → Int32) (fm_row : Nat → Int32) (fm_struck : Nat → Int32) (fm_reportKnown : Nat → Int32) (fm_reportPlace : Nat → Int32) (fm_reportMonth : Nat → Int32) (fm_reportDay : Nat → Int32) (fm_reportKind : Nat → Int32) (fm_trust : Nat → Int32) (fm_letter : Nat → Int32) (fm_deedMonth : Nat → Int32) (fm_deedDay : Nat → Int32) (fm_deedLong : Nat → Int32) (fm_deedKind : Nat → Int32) (fm_kept : Nat → Int32) (fm_tape : Nat → Int32) (fm_official : Nat → Int32) (fm_aside : Nat → Int32) (fm_worth : Nat → Int32) (fm_out : Nat → Int32) (p1 : Int32) (p2 : Int32) (gmi_0 : gi (mi 0) 0 24) (gmi_1 : gi (mi 1) 0 5) (gmi_2 : gi (mi 2) 0 5) (gmi_4 : gi (mi 4) 0 1) (gmi_7 : gi (mi 7) 0 6) (gmi_10 : gi (mi 10) 0 24) (gmi_17 : gi (mi 17) 0 8) (gmi_23 : gi (mi 23) 0 300) (gmi_24 : gi (mi 24) 0 1) (gmi_26 : gi (mi 26) 0 1600) (gmi_29 : gi (mi 29) 0 1600) (gmi_30 : gi (mi 30) 0 1600) (gmi_33 : gi (mi 33) 0 1) (gmi_37 : gi (mi 37) 0 1) (gmi_41 : gi (mi 41) 0 24) (gmi_50 : gi (mi 50) 0 1) (gmi_51 : gi (mi 51) 0 1) (gmi_56 : gi (mi 56) 0 80) (gfm_row : ga fm_row 24 0 23) (gfm_struck : ga fm_struck 24 0 1) (gfm_reportKnown : ga fm_reportKnown 24 0 999) (gfm_reportPlace : ga fm_reportPlace 24 0 5) (gfm_reportMonth : ga fm_reportMonth 24 0 23) (gfm_reportDay : ga fm_reportDay 24 0 999) : Met l yX12_likely (.code yX12_likely cX12_likely 8 (some .int) :: wsGB) ({ frames := 6, cells := 0, slots := 0, locals := 147 }) (va_Pc [.ref h0, .int p1, .int p2] (fun U => U.heap.size = sz ∧ va_P (dC, dI) vwCl (MWn h0 mr km (mi 0) (mi 1) (mi 2) (mi 3) (mi 4) (mi 5) (mi 6) (mi 7) (mi 10) (mi 17) (mi 23) (mi 24) (mi 26) (mi 27) (mi 28) (mi 29) (mi 30) (mi 31) (mi 32) (mi 33) (mi 37) (mi 41) (mi 42) (mi 43) (mi 44) (mi 45) (mi 47) (mi 48) (mi 49) (mi 50) (mi 51) (mi 54) (mi 56) fm_trust fm_letter fm_reportPlace fm_reportKind fm_struck fm_reportMonth fm_reportDay fm_reportKnown fm_deedMonth fm_deedDay fm_deedLong fm_deedKind fm_kept fm_tape fm_must fm_least fm_pin fm_ways fm_verdict fm_row fm_official fm_aside fm_worth fm_out) U.heap ∧ va_K (dC, dI) vwCl (MT km) U ∧ va_D (fun _ => True) (MWn h0 mr km (mi 0) (mi 1) (mi 2) (mi 3) (mi 4) (mi 5) (mi 6) (mi 7) (mi 10) (mi 17) (mi 23) (mi 24) (mi 26) (mi 27) (mi 28) (mi 29) (mi 30) (mi 31) (mi 32) (mi 33) (mi 37) (mi 41) (mi 42) (mi 43) (mi 44) (mi 45) (mi 47) (mi 48) (mi 49) (mi 50) (mi 51) (mi 54) (mi 56) fm_trust fm_letter fm_reportPlace fm_reportKind fm_struck fm_reportMonth fm_reportDay fm_reportKnown fm_deedMonth fm_deedDay fm_deedLong fm_deedKind fm_kept fm_tape fm_must fm_least fm_pin fm_ways fm_verdict fm_row fm_official fm_aside fm_worth fm_out))) (va_Qi (fun (r : Int32) (u : Unit) => gi r (-2) 3300) (fun _ t => ∃ (w0_37 : Int32) (w0_41 : Int32) (z1 : Nat → Int32) (z2 : Nat → Int32) (z3 : Nat → Int32) (z4 : Nat → Int32) (z5 : Nat → Int32) (z6 : Nat → Int32), pb_sX12_likely dC dI (va_A (MWn h0 mr km (mi 0) (mi 1) (mi 2) (mi 3) (mi 4) (mi 5) (mi 6) (mi 7) (mi 10) (mi 17) (mi 23) (mi 24) (mi 26) (mi 27) (mi 28) (mi 29) (mi 30) (mi 31) (mi 32) (mi 33) (mi 37) (mi 41) (mi 42) (mi 43) (mi 44) (mi 45) (mi 47) (mi 48) (mi 49) (mi 50) (mi 51) (mi 54) (mi 56) fm_trust fm_letter fm_reportPlace fm_reportKind fm_struck fm_reportMonth fm_reportDay fm_reportKnown fm_deedMonth fm_deedDay fm_deedLong fm_deedKind fm_kept fm_tape fm_must fm_least fm_pin fm_ways fm_verdict fm_row fm_official fm_aside fm_worth fm_out) sz) h0 mi mr km fm_must fm_least fm_pin fm_ways fm_verdict fm_row fm_struck fm_reportKnown fm_reportPlace fm_reportMonth fm_reportDay fm_reportKind fm_trust fm_letter fm_deedMonth fm_deedDay fm_deedLong fm_deedKind fm_kept fm_tape fm_official fm_aside fm_worth fm_out p1 p2 w0_37 w0_41 z1 z2 z3 z4 z5 z6 t) (va_A (MWn h0 mr km (mi 0) (mi 1) (mi 2) (mi 3) (mi 4) (mi 5) (mi 6) (mi 7) (mi 10) (mi 17) (mi 23) (mi 24) (mi 26) (mi 27) (mi 28) (mi 29) (mi 30) (mi 31) (mi 32) (mi 33) (mi 37) (mi 41) (mi 42) (mi 43) (mi 44) (mi 45) (mi 47) (mi 48) (mi 49) (mi 50) (mi 51) (mi 54) (mi 56) fm_trust fm_letter fm_reportPlace fm_reportKind fm_struck fm_reportMonth fm_reportDay fm_reportKnown fm_deedMonth fm_deedDay fm_deedLong fm_deedKind fm_kept fm_tape fm_must fm_least fm_pin fm_ways fm_verdict fm_row fm_official fm_aside fm_worth fm_out) sz)) 0 0 (va_A (MWn h0 mr km (mi 0) (mi 1) (mi 2) (mi 3) (mi 4) (mi 5) (mi 6) (mi 7) (mi 10) (mi 17) (mi 23) (mi 24) (mi 26) (mi 27) (mi 28) (mi 29) (mi 30) (mi 31) (mi 32) (mi 33) (mi 37) (mi 41) (mi 42) (mi 43) (mi 44) (mi 45) (mi 47) (mi 48) (mi 49) (mi 50) (mi 51) (mi 54) (mi 56) fm_trust fm_letter fm_reportPlace fm_reportKind fm_struck fm_reportMonth fm_reportDay fm_reportKnown fm_deedMonth fm_deedDay fm_deedLong fm_deedKind fm_kept fm_tape fm_must fm_least fm_pin fm_ways fm_verdict fm_row fm_official fm_aside fm_worth fm_out) sz) := by
  refine Met.ofW (cc := cX12_likely) (maxL := 8) (ret := (some .int)) (by decide) rfl ?_
  intro p e s m args below meth c s₁ B hml hv
  obtain ⟨rfl, hsz, hP, hK, hD0⟩ := hv
  have hx := B.exec
  have hb := B.bytes
  have hr := B.returns
  have hts := atoms_spec (ws := (.code yX12_likely cX12_likely 8 (some .int) :: wsGB)) B.pre
  have hown : s.vm.findClass RX12 = some m.cls := findClass_of_methodNamed B.named
  have hlocks := B.notSynchronized
  subst hsz
  have hD := hD0.self (sz := s.heap.size)
  generalize hAe : va_A (MWn h0 mr km (mi 0) (mi 1) (mi 2) (mi 3) (mi 4) (mi 5) (mi 6) (mi 7) (mi 10) (mi 17) (mi 23) (mi 24) (mi 26) (mi 27) (mi 28) (mi 29) (mi 30) (mi 31) (mi 32) (mi 33) (mi 37) (mi 41) (mi 42) (mi 43) (mi 44) (mi 45) (mi 47) (mi 48) (mi 49) (mi 50) (mi 51) (mi 54) (mi 56) fm_trust fm_letter fm_reportPlace fm_reportKind fm_struck fm_reportMonth fm_reportDay fm_reportKnown fm_deedMonth fm_deedDay fm_deedLong fm_deedKind fm_kept fm_tape fm_must fm_least fm_pin fm_ways fm_verdict fm_row fm_official fm_aside fm_worth fm_out) s.heap.size = A at hD ⊢
  have hA : ∀ q : Nat, s.heap.size ≤ q → A q := fun q h => by rw [← hAe]; exact Or.inr h
  have hS : va_S A s.heap s.heap [] := va_S.rf
  have hl := lv_entry ([.ref h0, .int p1, .int p2]) (n := 8) (Nat.le_of_ble_eq_true rfl)
  rw [lg_entry_eq]
  generalize (lg_sl ([.ref h0, .int p1, .int p2]) ++ List.replicate (8 - (lg_sl ([.ref h0, .int p1, .int p2])).length) Slot.unset).toArray = ls at hl ⊢
  have hl : lv_has ls 8 [(0, .ref h0), (1, .int p1), (2, .int p2)] := hl
  refine lv_aload_n hx hb dX12_likely_0 rfl (lv_at hl 0 rfl) ?_
  refine lv_iload_n hx hb dX12_likely_1 rfl (lv_at hl 1 rfl) ?_
  refine va_calli (va_runV (As := [.int p1]) (rest := []) ⟨hx, hb, hml, hown, hts⟩ (sX12_isTime l dC dI h0 mi mr km fm_trust fm_letter fm_reportPlace fm_reportKind fm_struck fm_reportMonth fm_reportDay fm_reportKnown fm_deedMonth fm_deedDay fm_deedLong fm_deedKind fm_kept fm_tape fm_must fm_least fm_pin fm_ways fm_verdict fm_row fm_official fm_aside fm_worth fm_out p1 gmi_0 gmi_1 gmi_2 gmi_4 gmi_7 gmi_10 gmi_17 gmi_23 gmi_24 gmi_26 gmi_29 gmi_30 gmi_33 gmi_37 gmi_41 gmi_50 gmi_51 gmi_56) (cwV 1 hts (gz_gV mGB_256 mGB_257 mGB_258 mGB_1 mGB_259 goodGB) rfl rfl rfl (by decide +kernel) ⟨Nat.le_of_ble_eq_true rfl, Nat.le_of_ble_eq_true rfl⟩) ⟨bl_R, mw_recv hK hP, fun U hU hW => ⟨rfl, by rw [hU]; exact hP, va_K.moved hW.alike hK⟩⟩ rfl rfl hl.1 rfl (lv_room (Nat.le_of_ble_eq_true rfl)) dX12_likely_2 ⟨Nat.zero_le _, Nat.zero_le _⟩) hS (fun q _ h => h.elim) (fun q h => h.elim) (fun r_1185 u t H1 locs ht hvm hw hB hz1 hk1 hS => ?_)
  obtain ⟨hw, hE⟩ := hw
  have hP := gz_keep hP hk1
  generalize H1 = H at hP hS ⊢
  have gr_1185 : gi r_1185 0 1 := hw.1
  have hqr_1185 := hw.2
  refine lv_if_eq (tgt := 20) hx hb dX12_likely_5 (by decide) (fun c_1186 => ?_) (fun c_1186 => ?_)
  · have g_1187 : gi r_1185 0 0 := gi_eq c_1186 (gi_c 0 0 (by decide))
    refine lv_bipush (v := (-2)) hx hb dX12_likely_20 (by decide) ?_
    exact W.iret (v := (-2)) hx hb hr (fun t ht hW => ⟨⟨(-2), (), rfl, (gi_w (gi_c (-2) (-2) (by decide)) (by decide)), (mi 37), (mi 41), fm_must, fm_least, fm_pin, fm_ways, fm_verdict, fm_row, gmi_37, gmi_41, gfm_row, by rw [ht]; exact hP, hD⟩, hS.F ht⟩) hS.2.2 dX12_likely_22
  · have g_1188 : gi r_1185 1 1 := gi_ne_lo c_1186 gr_1185 (gi_c 0 0 (by decide)) (by decide)
    have g_1189 : gi p1 0 999 := gi_cap (gi_any p1) (hqr_1185 (gz_one g_1188)) (by decide)
    refine lv_iload_n hx hb dX12_likely_8 rfl (lv_at hl 2 rfl) ?_
    refine lv_i2l (v := (p2).toInt64) hx hb dX12_likely_9 rfl ?_
    refine lv_topl (fun l_1190 el_1190 => ?_)
    refine lv_lconst (v := 0) hx hb dX12_likely_10 (by decide) ?_
    refine lv_ldc2 (own := RX12) (v := 999) hx hb hown (hts _ (List.mem_cons_of_mem _ mGB_260)) dX12_likely_11 ?_
    have hPc := hP.sub (ws' := []) [] rfl
    have hKc := hK.sub (tys' := []) [] rfl
    refine va_calli (va_runS (As := [.long l_1190, .long 0, .long 999]) (rest := []) ⟨hx, hb, hml, hown, hts⟩ (sX12_in l dC dI l_1190 0 999) (cwS 3 hts (gz_gS mGB_47 mGB_48 mGB_1 mGB_49 goodGB) rfl rfl rfl (by decide +kernel) ⟨Nat.le_of_ble_eq_true rfl, Nat.le_of_ble_eq_true rfl⟩) ⟨bl_R, fun U hU hW => ⟨rfl, by rw [hU]; exact hPc, va_K.moved hW.alike hKc⟩⟩ rfl rfl hl.1 rfl (lv_room (Nat.le_of_ble_eq_true rfl)) dX12_likely_14 ⟨Nat.zero_le _, Nat.zero_le _⟩) hS (fun q _ h => h.elim) (fun q h => h.elim) (fun r_1191 u t H1 locs ht hvm hw hB hz1 hk1 hS => ?_)
    obtain ⟨hw, hE⟩ := hw
    have hP := gz_keep hP hk1
    generalize H1 = H at hP hS ⊢
    have gr_1191 : gi r_1191 0 1 := hw.1
    have hqr_1191 := hw.2
    refine lv_if_ne (tgt := 23) hx hb dX12_likely_17 (by decide) (fun c_1192 => ?_) (fun c_1192 => ?_)
    · have g_1193 : gi r_1191 1 1 := gi_ne_lo c_1192 gr_1191 (gi_c 0 0 (by decide)) (by decide)
      have g_1194 : gi p2 0 999 := gi_cap (gi_any p2) (gz_inr (hqr_1191.1 (gz_one g_1193)) el_1190 (A := 0) (B := 999) (by decide) (by decide)) (by decide)
      refine lv_aload_n hx hb dX12_likely_23 rfl (lv_at hl 0 rfl) ?_
      refine lv_iload_n hx hb dX12_likely_24 rfl (lv_at hl 1 rfl) ?_
      have hFc := gz_fullF hD hS hA
      refine va_callv (va_runV (As := [.int p1]) (rest := []) ⟨hx, hb, hml, hown, hts⟩ (sX12_judgesAll l dC dI H.size h0 mi mr km fm_must fm_least fm_pin fm_ways fm_verdict fm_row fm_struck fm_reportKnown fm_reportPlace fm_reportMonth fm_reportDay fm_reportKind fm_trust fm_letter fm_deedMonth fm_deedDay fm_deedLong fm_deedKind fm_kept fm_tape fm_official fm_aside fm_worth fm_out p1 gmi_0 gmi_1 gmi_2 gmi_4 gmi_7 gmi_10 gmi_17 gmi_23 gmi_24 gmi_26 gmi_29 gmi_30 gmi_33 gmi_37 gmi_41 gmi_50 gmi_51 gmi_56 gfm_row gfm_struck gfm_reportKnown gfm_reportPlace gfm_reportMonth gfm_reportDay) (cwV 1 hts (gz_gV mGB_261 mGB_262 mGB_263 mGB_1 mGB_264 goodGB) rfl rfl rfl (by decide +kernel) ⟨Nat.le_of_ble_eq_true rfl, Nat.le_of_ble_eq_true rfl⟩) ⟨bl_W, mw_recv hK hP, fun U hU hW => ⟨rfl, by rw [hU], by rw [hU]; exact hP, va_K.moved hW.alike hK, hD.weaken (fun _ _ _ _ => trivial)⟩⟩ rfl rfl hl.1 rfl (lv_room (Nat.le_of_ble_eq_true rfl)) dX12_likely_25 ⟨Nat.zero_le _, Nat.zero_le _⟩) hS (fun q _ h => hFc q h) hFc (fun u t H1 locs ht hvm hw hB hz1 hk1 hS => ?_)
      obtain ⟨y_1196, y_1197, f_1198, f_1199, f_1200, f_1201, f_1202, f_1203, hB⟩ := hB
      obtain ⟨gy_1196, gy_1197, gf_1203, hP1, hD1⟩ := hB
      rw [ht] at hP1
      have hD : va_D A (MWn h0 mr km (mi 0) (mi 1) (mi 2) (mi 3) (mi 4) (mi 5) (mi 6) (mi 7) (mi 10) (mi 17) (mi 23) (mi 24) (mi 26) (mi 27) (mi 28) (mi 29) (mi 30) (mi 31) (mi 32) (mi 33) y_1196 y_1197 (mi 42) (mi 43) (mi 44) (mi 45) (mi 47) (mi 48) (mi 49) (mi 50) (mi 51) (mi 54) (mi 56) fm_trust fm_letter fm_reportPlace fm_reportKind fm_struck fm_reportMonth fm_reportDay fm_reportKnown fm_deedMonth fm_deedDay fm_deedLong fm_deedKind fm_kept fm_tape f_1198 f_1199 f_1200 f_1201 f_1202 f_1203 fm_official fm_aside fm_worth fm_out) := gz_fullD hFc hD1
      have hP : va_P (dC, dI) vwCl (MWn h0 mr km (mi 0) (mi 1) (mi 2) (mi 3) (mi 4) (mi 5) (mi 6) (mi 7) (mi 10) (mi 17) (mi 23) (mi 24) (mi 26) (mi 27) (mi 28) (mi 29) (mi 30) (mi 31) (mi 32) (mi 33) y_1196 y_1197 (mi 42) (mi 43) (mi 44) (mi 45) (mi 47) (mi 48) (mi 49) (mi 50) (mi 51) (mi 54) (mi 56) fm_trust fm_letter fm_reportPlace fm_reportKind fm_struck fm_reportMonth fm_reportDay fm_reportKnown fm_deedMonth fm_deedDay fm_deedLong fm_deedKind fm_kept fm_tape f_1198 f_1199 f_1200 f_1201 f_1202 f_1203 fm_official fm_aside fm_worth fm_out) H1 := hP1
      generalize H1 = H at hP hS ⊢
      refine lv_iconst (v := (-1)) hx hb dX12_likely_28 (by decide) ?_
      refine lv_istore_n (lv' := [(3, .int (-1)), (0, .ref h0), (1, .int p1), (2, .int p2)]) hx hb dX12_likely_29 rfl hl (by decide) rfl (fun ls hl => ?_)
      refine lv_iconst (v := 0) hx hb dX12_likely_30 (by decide) ?_
      refine lv_istore (lv' := [(4, .int 0), (3, .int (-1)), (0, .ref h0), (1, .int p1), (2, .int p2)]) hx hb dX12_likely_31 hl (by decide) rfl (fun ls hl => ?_)
      refine lv_iconst (v := 0) hx hb dX12_likely_33 (by decide) ?_
      refine lv_istore (lv' := [(5, .int 0), (4, .int 0), (3, .int (-1)), (0, .ref h0), (1, .int p1), (2, .int p2)]) hx hb dX12_likely_34 hl (by decide) rfl (fun ls hl => ?_)
      refine (lp_sX12_likely h0 mi mr km fm_must fm_least fm_pin fm_ways fm_verdict fm_row fm_struck fm_reportKnown fm_reportPlace fm_reportMonth fm_reportDay fm_reportKind fm_trust fm_letter fm_deedMonth fm_deedDay fm_deedLong fm_deedKind fm_kept fm_tape fm_official fm_aside fm_worth fm_out p1 p2 gmi_0 gmi_1 gmi_2 gmi_4 gmi_7 gmi_10 gmi_17 gmi_23 gmi_24 gmi_26 gmi_29 gmi_30 gmi_33 gmi_37 gmi_41 gmi_50 gmi_51 gmi_56 gfm_row gfm_struck gfm_reportKnown gfm_reportPlace gfm_reportMonth gfm_reportDay hx hb hml hown hts hK hA (Nat.le_of_ble_eq_true rfl) (Nat.le_of_ble_eq_true rfl) (Nat.zero_le _) (Nat.zero_le _) (fun v w0_37 w0_41 z1 z2 z3 z4 z5 z6 H locs ls gv gw0_37 gw0_41 gz6 hP hD hS hl => ?_) (fun v w0_37 w0_41 z1 z2 z3 z4 z5 z6 H locs ls gv gw0_37 gw0_41 gz6 hP hD hS hl => ?_) 1726).1 (-1) 0 0 y_1196 y_1197 f_1198 f_1199 f_1200 f_1201 f_1202 f_1203 _ _ _ g_1189 g_1194 (gi_w (gi_c (-1) (-1) (by decide)) (by decide)) (gi_w (gi_c 0 0 (by decide)) (by decide)) (gi_w (gi_c 0 0 (by decide)) (by decide)) gy_1196 gy_1197 gf_1203 (by have k0 : (0 : Int32).toInt = 0 := (by decide); omega) hP hD hS (lv_sub hl [3, 4, 5, 2, 1, 0] rfl)
      · skip
        exact W.iret (v := v) hx hb hr (fun t ht hW => ⟨⟨v, (), rfl, (gi_w gv (by decide)), w0_37, w0_41, z1, z2, z3, z4, z5, z6, gw0_37, gw0_41, gz6, by rw [ht]; exact hP, hD⟩, hS.F ht⟩) hS.2.2 dX12_likely_22
      · skip
        exact W.iret (v := v) hx hb hr (fun t ht hW => ⟨⟨v, (), rfl, (gi_w gv (by decide)), w0_37, w0_41, z1, z2, z3, z4, z5, z6, gw0_37, gw0_41, gz6, by rw [ht]; exact hP, hD⟩, hS.F ht⟩) hS.2.2 dX12_likely_99
    · have g_1204 : gi r_1191 0 0 := gi_eq c_1192 (gi_c 0 0 (by decide))
      refine lv_bipush (v := (-2)) hx hb dX12_likely_20 (by decide) ?_
      exact W.iret (v := (-2)) hx hb hr (fun t ht hW => ⟨⟨(-2), (), rfl, (gi_w (gi_c (-2) (-2) (by decide)) (by decide)), (mi 37), (mi 41), fm_must, fm_least, fm_pin, fm_ways, fm_verdict, fm_row, gmi_37, gmi_41, gfm_row, by rw [ht]; exact hP, hD⟩, hS.F ht⟩) hS.2.2 dX12_likely_22
theorem dX12_weekday_0 : decode cX12_weekday 0 = .ok (.aload_n 0, 1) := by decide +kernel
theorem dX12_weekday_1 : decode cX12_weekday 1 = .ok (.iload_n 1, 1) := by decide +kernel
theorem dX12_weekday_2 : decode cX12_weekday 2 = .ok (.invokevirtual 359, 3) := by decide +kernel
theorem dX12_weekday_5 : decode cX12_weekday 5 = .ok (.ifCond .eq 31, 3) := by decide +kernel
theorem dX12_weekday_8 : decode cX12_weekday 8 = .ok (.aload_n 0, 1) := by decide +kernel
theorem dX12_weekday_9 : decode cX12_weekday 9 = .ok (.iload_n 2, 1) := by decide +kernel
theorem dX12_weekday_10 : decode cX12_weekday 10 = .ok (.invokevirtual 394, 3) := by decide +kernel
theorem dX12_weekday_13 : decode cX12_weekday 13 = .ok (.ifCond .eq 23, 3) := by decide +kernel
theorem dX12_weekday_16 : decode cX12_weekday 16 = .ok (.iload_n 3, 1) := by decide +kernel
theorem dX12_weekday_17 : decode cX12_weekday 17 = .ok (.invokestatic 409, 3) := by decide +kernel
theorem dX12_weekday_20 : decode cX12_weekday 20 = .ok (.ifCond .eq 16, 3) := by decide +kernel
theorem dX12_weekday_23 : decode cX12_weekday 23 = .ok (.iload 4, 2) := by decide +kernel
theorem dX12_weekday_25 : decode cX12_weekday 25 = .ok (.i2l, 1) := by decide +kernel
theorem dX12_weekday_26 : decode cX12_weekday 26 = .ok (.lconst 0, 1) := by decide +kernel
theorem dX12_weekday_27 : decode cX12_weekday 27 = .ok (.ldc2_w 418, 3) := by decide +kernel
theorem dX12_weekday_30 : decode cX12_weekday 30 = .ok (.invokestatic 102, 3) := by decide +kernel
theorem dX12_weekday_33 : decode cX12_weekday 33 = .ok (.ifCond .ne 6, 3) := by decide +kernel
theorem dX12_weekday_36 : decode cX12_weekday 36 = .ok (.bipush (-2), 2) := by decide +kernel
theorem dX12_weekday_38 : decode cX12_weekday 38 = .ok (.ireturn, 1) := by decide +kernel
theorem dX12_weekday_39 : decode cX12_weekday 39 = .ok (.aload_n 0, 1) := by decide +kernel
theorem dX12_weekday_40 : decode cX12_weekday 40 = .ok (.iload_n 1, 1) := by decide +kernel
theorem dX12_weekday_41 : decode cX12_weekday 41 = .ok (.invokevirtual 362, 3) := by decide +kernel
theorem dX12_weekday_44 : decode cX12_weekday 44 = .ok (.iconst 0, 1) := by decide +kernel
theorem dX12_weekday_45 : decode cX12_weekday 45 = .ok (.istore 5, 2) := by decide +kernel
theorem dX12_weekday_47 : decode cX12_weekday 47 = .ok (.bipush 29, 2) := by decide +kernel
theorem dX12_weekday_49 : decode cX12_weekday 49 = .ok (.iload_n 2, 1) := by decide +kernel
theorem dX12_weekday_50 : decode cX12_weekday 50 = .ok (.imul, 1) := by decide +kernel
theorem dX12_weekday_51 : decode cX12_weekday 51 = .ok (.istore 6, 2) := by decide +kernel
theorem dX12_weekday_53 : decode cX12_weekday 53 = .ok (.iload 6, 2) := by decide +kernel
theorem dX12_weekday_55 : decode cX12_weekday 55 = .ok (.bipush 30, 2) := by decide +kernel
theorem dX12_weekday_57 : decode cX12_weekday 57 = .ok (.iload_n 2, 1) := by decide +kernel
theorem dX12_weekday_58 : decode cX12_weekday 58 = .ok (.imul, 1) := by decide +kernel
theorem dX12_weekday_59 : decode cX12_weekday 59 = .ok (.bipush 30, 2) := by decide +kernel
theorem dX12_weekday_61 : decode cX12_weekday 61 = .ok (.iadd, 1) := by decide +kernel
theorem dX12_weekday_62 : decode cX12_weekday 62 = .ok (.if_icmp .ge 36, 3) := by decide +kernel
theorem dX12_weekday_65 : decode cX12_weekday 65 = .ok (.iload 5, 2) := by decide +kernel
theorem dX12_weekday_67 : decode cX12_weekday 67 = .ok (.iload 6, 2) := by decide +kernel
theorem dX12_weekday_69 : decode cX12_weekday 69 = .ok (.bipush 7, 2) := by decide +kernel
theorem dX12_weekday_71 : decode cX12_weekday 71 = .ok (.irem, 1) := by decide +kernel
theorem dX12_weekday_72 : decode cX12_weekday 72 = .ok (.iload 4, 2) := by decide +kernel
theorem dX12_weekday_74 : decode cX12_weekday 74 = .ok (.if_icmp .ne 14, 3) := by decide +kernel
theorem dX12_weekday_77 : decode cX12_weekday 77 = .ok (.aload_n 0, 1) := by decide +kernel
theorem dX12_weekday_78 : decode cX12_weekday 78 = .ok (.iload_n 2, 1) := by decide +kernel
theorem dX12_weekday_79 : decode cX12_weekday 79 = .ok (.iload_n 3, 1) := by decide +kernel
theorem dX12_weekday_80 : decode cX12_weekday 80 = .ok (.iload 6, 2) := by decide +kernel
theorem dX12_weekday_82 : decode cX12_weekday 82 = .ok (.invokevirtual 420, 3) := by decide +kernel
theorem dX12_weekday_85 : decode cX12_weekday 85 = .ok (.goto 4, 3) := by decide +kernel
theorem dX12_weekday_88 : decode cX12_weekday 88 = .ok (.iconst 0, 1) := by decide +kernel
theorem dX12_weekday_89 : decode cX12_weekday 89 = .ok (.iadd, 1) := by decide +kernel
theorem dX12_weekday_90 : decode cX12_weekday 90 = .ok (.istore 5, 2) := by decide +kernel
theorem dX12_weekday_92 : decode cX12_weekday 92 = .ok (.iinc 6 1, 3) := by decide +kernel
theorem dX12_weekday_95 : decode cX12_weekday 95 = .ok (.goto (-42), 3) := by decide +kernel
theorem dX12_weekday_98 : decode cX12_weekday 98 = .ok (.iload 5, 2) := by decide +kernel
theorem dX12_weekday_100 : decode cX12_weekday 100 = .ok (.ireturn, 1) := by decide +kernel
set_option maxHeartbeats 4000000 in
set_option maxRecDepth 100000 in
theorem lp_sX12_weekday {p : Program} {l : Launch} {e : Env} {R : Room} {s : State} {m : MethodId} {args : Array Value} {below : List Frame} {meth : Method} {c : Code} {Q : State → Prop} {A : Nat → Prop} {cells slots : Nat} {dC : Nat → ClassId} {dI : Nat → Nat → Nat} (h0 : Nat) (mi : Nat → Int32) (mr : Nat → Nat) (km : Nat → ClassId) (fm_must : Nat → Int32) (fm_least : Nat → Int32) (fm_pin : Nat → Int32) (fm_ways : Nat → Int32) (fm_verdict : Nat → Int32) (fm_row : Nat → Int32) (fm_struck : Nat → Int32) (fm_reportKnown : Nat → Int32) (fm_reportPlace : Nat → Int32) (fm_reportMonth : Nat → Int32) (fm_reportDay : Nat → Int32) (fm_reportKind : Nat → Int32) (fm_trust : Nat → Int32) (fm_letter : Nat → Int32) (fm_deedMonth : Nat → Int32) (fm_deedDay : Nat → Int32) (fm_deedLong : Nat → Int32) (fm_deedKind : Nat → Int32) (fm_kept : Nat → Int32) (fm_tape : Nat → Int32) (fm_official : Nat → Int32) (fm_aside : Nat → Int32) (fm_worth : Nat → Int32) (fm_out : Nat → Int32) (p1 : Int32) (p2 : Int32) (p3 : Int32) (p4 : Int32) (gmi_0 : gi (mi 0) 0 24) (gmi_1 : gi (mi 1) 0 5) (gmi_2 : gi (mi 2) 0 5) (gmi_4 : gi (mi 4) 0 1) (gmi_7 : gi (mi 7) 0 6) (gmi_10 : gi (mi 10) 0 24) (gmi_17 : gi (mi 17) 0 8) (gmi_23 : gi (mi 23) 0 300) (gmi_24 : gi (mi 24) 0 1) (gmi_26 : gi (mi 26) 0 1600) (gmi_29 : gi (mi 29) 0 1600) (gmi_30 : gi (mi 30) 0 1600) (gmi_33 : gi (mi 33) 0 1) (gmi_37 : gi (mi 37) 0 1) (gmi_41 : gi (mi 41) 0 24) (gmi_50 : gi (mi 50) 0 1) (gmi_51 : gi (mi 51) 0 1) (gmi_56 : gi (mi 56) 0 80) (gfm_row : ga fm_row 24 0 23) (gfm_struck : ga fm_struck 24 0 1) (gfm_reportKnown : ga fm_reportKnown 24 0 999) (gfm_reportPlace : ga fm_reportPlace 24 0 5) (gfm_reportMonth : ga fm_reportMonth 24 0 23) (gfm_reportDay : ga fm_reportDay 24 0 999) (hx : p.tables.exec = Jvm.exec) (hb : c.code = cX12_weekday) (hml : c.maxLocals = 7) (hown : s.vm.findClass RX12 = some m.cls) (hts : ∀ w ∈ ((.code yX12_weekday cX12_weekday 7 (some .int) :: wsGB) : List Cond), w.before args s = true) (hK : va_K (dC, dI) vwCl (MT km) s) (hA : ∀ q : Nat, s.heap.size ≤ q → A q) (hRf : 6 ≤ R.frames) (hRl : 147 ≤ R.locals) (hRc : cells ≤ R.cells) (hRs : slots ≤ R.slots) (kr38 : ∀ (v : Int32) (w0_37 : Int32) (w0_41 : Int32) (z1 : Nat → Int32) (z2 : Nat → Int32) (z3 : Nat → Int32) (z4 : Nat → Int32) (z5 : Nat → Int32) (z6 : Nat → Int32) (H : Heap) (locs : List Loc) (ls : Array Slot), gi v (-2) (-2) → gi w0_37 0 1 → gi w0_41 0 24 → ga z6 24 0 23 → va_P (dC, dI) vwCl (MWn h0 mr km (mi 0) (mi 1) (mi 2) (mi 3) (mi 4) (mi 5) (mi 6) (mi 7) (mi 10) (mi 17) (mi 23) (mi 24) (mi 26) (mi 27) (mi 28) (mi 29) (mi 30) (mi 31) (mi 32) (mi 33) w0_37 w0_41 (mi 42) (mi 43) (mi 44) (mi 45) (mi 47) (mi 48) (mi 49) (mi 50) (mi 51) (mi 54) (mi 56) fm_trust fm_letter fm_reportPlace fm_reportKind fm_struck fm_reportMonth fm_reportDay fm_reportKnown fm_deedMonth fm_deedDay fm_deedLong fm_deedKind fm_kept fm_tape z1 z2 z3 z4 z5 z6 fm_official fm_aside fm_worth fm_out) H → va_D A (MWn h0 mr km (mi 0) (mi 1) (mi 2) (mi 3) (mi 4) (mi 5) (mi 6) (mi 7) (mi 10) (mi 17) (mi 23) (mi 24) (mi 26) (mi 27) (mi 28) (mi 29) (mi 30) (mi 31) (mi 32) (mi 33) w0_37 w0_41 (mi 42) (mi 43) (mi 44) (mi 45) (mi 47) (mi 48) (mi 49) (mi 50) (mi 51) (mi 54) (mi 56) fm_trust fm_letter fm_reportPlace fm_reportKind fm_struck fm_reportMonth fm_reportDay fm_reportKnown fm_deedMonth fm_deedDay fm_deedLong fm_deedKind fm_kept fm_tape z1 z2 z3 z4 z5 z6 fm_official fm_aside fm_worth fm_out) → va_S A s.heap H locs → lv_has ls 7 [] → W p l e R s m args below meth c H locs cells slots Q (F0 m 38 ls [.int v])) (kr100 : ∀ (v : Int32) (w0_37 : Int32) (w0_41 : Int32) (z1 : Nat → Int32) (z2 : Nat → Int32) (z3 : Nat → Int32) (z4 : Nat → Int32) (z5 : Nat → Int32) (z6 : Nat → Int32) (H : Heap) (locs : List Loc) (ls : Array Slot), gi w0_37 0 1 → gi w0_41 0 24 → ga z6 24 0 23 → va_P (dC, dI) vwCl (MWn h0 mr km (mi 0) (mi 1) (mi 2) (mi 3) (mi 4) (mi 5) (mi 6) (mi 7) (mi 10) (mi 17) (mi 23) (mi 24) (mi 26) (mi 27) (mi 28) (mi 29) (mi 30) (mi 31) (mi 32) (mi 33) w0_37 w0_41 (mi 42) (mi 43) (mi 44) (mi 45) (mi 47) (mi 48) (mi 49) (mi 50) (mi 51) (mi 54) (mi 56) fm_trust fm_letter fm_reportPlace fm_reportKind fm_struck fm_reportMonth fm_reportDay fm_reportKnown fm_deedMonth fm_deedDay fm_deedLong fm_deedKind fm_kept fm_tape z1 z2 z3 z4 z5 z6 fm_official fm_aside fm_worth fm_out) H → va_D A (MWn h0 mr km (mi 0) (mi 1) (mi 2) (mi 3) (mi 4) (mi 5) (mi 6) (mi 7) (mi 10) (mi 17) (mi 23) (mi 24) (mi 26) (mi 27) (mi 28) (mi 29) (mi 30) (mi 31) (mi 32) (mi 33) w0_37 w0_41 (mi 42) (mi 43) (mi 44) (mi 45) (mi 47) (mi 48) (mi 49) (mi 50) (mi 51) (mi 54) (mi 56) fm_trust fm_letter fm_reportPlace fm_reportKind fm_struck fm_reportMonth fm_reportDay fm_reportKnown fm_deedMonth fm_deedDay fm_deedLong fm_deedKind fm_kept fm_tape z1 z2 z3 z4 z5 z6 fm_official fm_aside fm_worth fm_out) → va_S A s.heap H locs → lv_has ls 7 [] → W p l e R s m args below meth c H locs cells slots Q (F0 m 100 ls [.int v])) : ∀ z : Nat, (∀ (v5 : Int32) (v6 : Int32) (w0_37 : Int32) (w0_41 : Int32) (z1 : Nat → Int32) (z2 : Nat → Int32) (z3 : Nat → Int32) (z4 : Nat → Int32) (z5 : Nat → Int32) (z6 : Nat → Int32) (H : Heap) (locs : List Loc) (ls : Array Slot), gi p1 0 999 → gi p2 0 23 → gi p3 1 30 → gi p4 0 6 → gi v6 0 999 → gi w0_37 0 1 → gi w0_41 0 24 → ga z6 24 0 23 → 1999 + (-2) * v6.toInt < (z : Int) → va_P (dC, dI) vwCl (MWn h0 mr km (mi 0) (mi 1) (mi 2) (mi 3) (mi 4) (mi 5) (mi 6) (mi 7) (mi 10) (mi 17) (mi 23) (mi 24) (mi 26) (mi 27) (mi 28) (mi 29) (mi 30) (mi 31) (mi 32) (mi 33) w0_37 w0_41 (mi 42) (mi 43) (mi 44) (mi 45) (mi 47) (mi 48) (mi 49) (mi 50) (mi 51) (mi 54) (mi 56) fm_trust fm_letter fm_reportPlace fm_reportKind fm_struck fm_reportMonth fm_reportDay fm_reportKnown fm_deedMonth fm_deedDay fm_deedLong fm_deedKind fm_kept fm_tape z1 z2 z3 z4 z5 z6 fm_official fm_aside fm_worth fm_out) H → va_D A (MWn h0 mr km (mi 0) (mi 1) (mi 2) (mi 3) (mi 4) (mi 5) (mi 6) (mi 7) (mi 10) (mi 17) (mi 23) (mi 24) (mi 26) (mi 27) (mi 28) (mi 29) (mi 30) (mi 31) (mi 32) (mi 33) w0_37 w0_41 (mi 42) (mi 43) (mi 44) (mi 45) (mi 47) (mi 48) (mi 49) (mi 50) (mi 51) (mi 54) (mi 56) fm_trust fm_letter fm_reportPlace fm_reportKind fm_struck fm_reportMonth fm_reportDay fm_reportKnown fm_deedMonth fm_deedDay fm_deedLong fm_deedKind fm_kept fm_tape z1 z2 z3 z4 z5 z6 fm_official fm_aside fm_worth fm_out) → va_S A s.heap H locs → lv_has ls 7 [(0, .ref h0), (1, .int p1), (2, .int p2), (3, .int p3), (4, .int p4), (5, .int v5), (6, .int v6)] → W p l e R s m args below meth c H locs cells slots Q (F0 m 53 ls [])) := by
  intro z
  induction z with
  | zero =>
    intro v5 v6 w0_37 w0_41 z1 z2 z3 z4 z5 z6 H locs ls gf_p1 gf_p2 gf_p3 gf_p4 gv6 gw0_37 gw0_41 gz6 hmu hP hD hS hl
    exact absurd hmu (by have hv61 := gv6.1; have hv62 := gv6.2; omega)
  | succ z ih =>
      intro v5 v6 w0_37 w0_41 z1 z2 z3 z4 z5 z6 H locs ls gf_p1 gf_p2 gf_p3 gf_p4 gv6 gw0_37 gw0_41 gz6 hmu hP hD hS hl
      refine lv_iload hx hb dX12_weekday_53 (lv_at hl 6 rfl) ?_
      refine lv_bipush (v := 30) hx hb dX12_weekday_55 (by decide) ?_
      refine lv_iload_n hx hb dX12_weekday_57 rfl (lv_at hl 2 rfl) ?_
      refine lv_imul hx hb dX12_weekday_58 ?_
      refine lv_topi (fun x_93 ex_93 => ?_)
      have gx_93 : gi x_93 0 690 := gi_mul ex_93 (gi_c 30 30 (by decide)) gf_p2 (by decide)
      refine lv_bipush (v := 30) hx hb dX12_weekday_59 (by decide) ?_
      refine lv_iadd hx hb dX12_weekday_61 ?_
      refine lv_topi (fun x_94 ex_94 => ?_)
      have gx_94 : gi x_94 30 720 := gi_add ex_94 gx_93 (gi_c 30 30 (by decide)) (by decide)
      refine lv_icmp_ge (tgt := 98) hx hb dX12_weekday_62 (by decide) (fun c_95 => ?_) (fun c_95 => ?_)
      · have g_96 : gi v6 30 999 := gi_le_r c_95 gx_94 gv6
        refine lv_iload hx hb dX12_weekday_98 (lv_at hl 5 rfl) ?_
        exact kr100 v5 w0_37 w0_41 z1 z2 z3 z4 z5 z6 _ _ _ gw0_37 gw0_41 gz6 hP hD hS (lv_sub hl [] rfl)
      · have g_97 : gi v6 0 719 := gi_lt_l (Int32.not_le.mp c_95) gv6 gx_94 (by decide)
        refine lv_iload hx hb dX12_weekday_65 (lv_at hl 5 rfl) ?_
        refine lv_iload hx hb dX12_weekday_67 (lv_at hl 6 rfl) ?_
        refine lv_bipush (v := 7) hx hb dX12_weekday_69 (by decide) ?_
        refine lv_irem hx hb dX12_weekday_71 (by decide) ?_
        refine lv_topi (fun x_98 ex_98 => ?_)
        refine lv_iload hx hb dX12_weekday_72 (lv_at hl 4 rfl) ?_
        refine lv_icmp_ne (tgt := 88) hx hb dX12_weekday_74 (by decide) (fun c_99 => ?_) (fun c_99 => ?_)
        · refine lv_iconst (v := 0) hx hb dX12_weekday_88 (by decide) ?_
          refine lv_iadd hx hb dX12_weekday_89 ?_
          refine lv_topi (fun x_100 ex_100 => ?_)
          refine lv_istore (lv' := [(5, .int x_100), (0, .ref h0), (1, .int p1), (2, .int p2), (3, .int p3), (4, .int p4), (6, .int v6)]) hx hb dX12_weekday_90 hl (by decide) rfl (fun ls hl => ?_)
          obtain ⟨x_101, ex_101⟩ : ∃ y : Int32, y = v6 + 1 := ⟨_, rfl⟩
          have gx_101 : gi x_101 1 720 := gi_add ex_101 g_97 (gi_c 1 1 (by decide)) (by decide)
          refine lv_iinc (v := x_101) (lv' := [(6, .int x_101), (5, .int x_100), (0, .ref h0), (1, .int p1), (2, .int p2), (3, .int p3), (4, .int p4)]) hx hb dX12_weekday_92 hl (k := 6) rfl (by rw [ex_101]; rfl) (by decide) rfl (fun ls hl => ?_)
          refine lv_goto (tgt := 53) hx hb dX12_weekday_95 (by decide) ?_
          exact ih x_100 x_101 w0_37 w0_41 z1 z2 z3 z4 z5 z6 _ _ _ gf_p1 gf_p2 gf_p3 gf_p4 (gi_w gx_101 (by decide)) gw0_37 gw0_41 gz6 (by have av6 := gv6.1; have bv6 := gv6.2; have qgx_101 := gx_101.1; have rgx_101 := gx_101.2; have igx_101 : x_101.toInt = v6.toInt + 1 := (by have hc1 : (1 : Int32).toInt = 1 := (by decide); have h9 := gi_addI ex_101 (by have h1 := g_97.1; have h2 := (gi_c 1 1 (by decide)).1; have h3 := g_97.2; have h4 := (gi_c 1 1 (by decide)).2; omega) (by have h1 := g_97.1; have h2 := (gi_c 1 1 (by decide)).1; have h3 := g_97.2; have h4 := (gi_c 1 1 (by decide)).2; omega); rw [hc1] at h9; exact h9); have qgv6 := g_97.1; have rgv6 := g_97.2; omega) hP hD hS (lv_sub hl [2, 3, 4, 5, 6, 1, 0] rfl)
        · have g_102 : gi x_98 0 6 := gi_eq c_99 gf_p4
          refine lv_aload_n hx hb dX12_weekday_77 rfl (lv_at hl 0 rfl) ?_
          refine lv_iload_n hx hb dX12_weekday_78 rfl (lv_at hl 2 rfl) ?_
          refine lv_iload_n hx hb dX12_weekday_79 rfl (lv_at hl 3 rfl) ?_
          refine lv_iload hx hb dX12_weekday_80 (lv_at hl 6 rfl) ?_
          have hFc := gz_fullF hD hS hA
          refine va_calli (va_runV (As := [.int p2, .int p3, .int v6]) (rest := [.int v5]) ⟨hx, hb, hml, hown, hts⟩ (sX12_fallsOn l dC dI H.size h0 (upd (upd mi 37 w0_37) 41 w0_41) mr km z1 z2 z3 z4 fm_trust fm_letter fm_reportPlace fm_reportKind fm_struck fm_reportMonth fm_reportDay fm_reportKnown fm_deedMonth fm_deedDay fm_deedLong fm_deedKind fm_kept fm_tape z5 z6 fm_official fm_aside fm_worth fm_out p2 p3 v6 gmi_0 gmi_1 gmi_2 gmi_4 gmi_7 gmi_10 gmi_17 gmi_23 gmi_24 gmi_26 gmi_29 gmi_30 gmi_33 gw0_37 gw0_41 gmi_50 gmi_51 gmi_56 gf_p2) (cwV 3 hts (gz_gV mGB_488 mGB_489 mGB_490 mGB_1 mGB_491 goodGB) rfl rfl rfl (by decide +kernel) ⟨Nat.le_trans (Nat.le_of_ble_eq_true rfl) hRf, Nat.le_trans (Nat.le_of_ble_eq_true rfl) hRl⟩) ⟨bl_W, mw_recv hK hP, fun U hU hW => ⟨rfl, by rw [hU], by rw [hU]; exact hP, va_K.moved hW.alike hK, hD.weaken (fun _ _ _ _ => trivial)⟩⟩ rfl rfl hl.1 rfl (lv_room (Nat.le_of_ble_eq_true rfl)) dX12_weekday_82 ⟨hRc, hRs⟩) hS (fun q _ h => hFc q h) hFc (fun r_103 u t H1 locs ht hvm hw hB hz1 hk1 hS => ?_)
          obtain ⟨f_104, f_105, hB⟩ := hB
          obtain ⟨hP1, hD1⟩ := hB
          rw [ht] at hP1
          have hD : va_D A (MWn h0 mr km (mi 0) (mi 1) (mi 2) (mi 3) (mi 4) (mi 5) (mi 6) (mi 7) (mi 10) (mi 17) (mi 23) (mi 24) (mi 26) (mi 27) (mi 28) (mi 29) (mi 30) (mi 31) (mi 32) (mi 33) w0_37 w0_41 (mi 42) (mi 43) (mi 44) (mi 45) (mi 47) (mi 48) (mi 49) (mi 50) (mi 51) (mi 54) (mi 56) fm_trust fm_letter fm_reportPlace fm_reportKind fm_struck fm_reportMonth fm_reportDay fm_reportKnown fm_deedMonth fm_deedDay fm_deedLong fm_deedKind fm_kept fm_tape z1 z2 f_104 f_105 z5 z6 fm_official fm_aside fm_worth fm_out) := gz_fullD hFc hD1
          have hP : va_P (dC, dI) vwCl (MWn h0 mr km (mi 0) (mi 1) (mi 2) (mi 3) (mi 4) (mi 5) (mi 6) (mi 7) (mi 10) (mi 17) (mi 23) (mi 24) (mi 26) (mi 27) (mi 28) (mi 29) (mi 30) (mi 31) (mi 32) (mi 33) w0_37 w0_41 (mi 42) (mi 43) (mi 44) (mi 45) (mi 47) (mi 48) (mi 49) (mi 50) (mi 51) (mi 54) (mi 56) fm_trust fm_letter fm_reportPlace fm_reportKind fm_struck fm_reportMonth fm_reportDay fm_reportKnown fm_deedMonth fm_deedDay fm_deedLong fm_deedKind fm_kept fm_tape z1 z2 f_104 f_105 z5 z6 fm_official fm_aside fm_worth fm_out) H1 := hP1
          generalize H1 = H at hP hS ⊢
          refine lv_goto (tgt := 89) hx hb dX12_weekday_85 (by decide) ?_
          refine lv_iadd hx hb dX12_weekday_89 ?_
          refine lv_topi (fun x_106 ex_106 => ?_)
          refine lv_istore (lv' := [(5, .int x_106), (0, .ref h0), (1, .int p1), (2, .int p2), (3, .int p3), (4, .int p4), (6, .int v6)]) hx hb dX12_weekday_90 hl (by decide) rfl (fun ls hl => ?_)
          obtain ⟨x_107, ex_107⟩ : ∃ y : Int32, y = v6 + 1 := ⟨_, rfl⟩
          have gx_107 : gi x_107 1 720 := gi_add ex_107 g_97 (gi_c 1 1 (by decide)) (by decide)
          refine lv_iinc (v := x_107) (lv' := [(6, .int x_107), (5, .int x_106), (0, .ref h0), (1, .int p1), (2, .int p2), (3, .int p3), (4, .int p4)]) hx hb dX12_weekday_92 hl (k := 6) rfl (by rw [ex_107]; rfl) (by decide) rfl (fun ls hl => ?_)
          refine lv_goto (tgt := 53) hx hb dX12_weekday_95 (by decide) ?_
          exact ih x_106 x_107 w0_37 w0_41 z1 z2 f_104 f_105 z5 z6 _ _ _ gf_p1 gf_p2 gf_p3 gf_p4 (gi_w gx_107 (by decide)) gw0_37 gw0_41 gz6 (by have av6 := gv6.1; have bv6 := gv6.2; have qgx_107 := gx_107.1; have rgx_107 := gx_107.2; have igx_107 : x_107.toInt = v6.toInt + 1 := (by have hc1 : (1 : Int32).toInt = 1 := (by decide); have h9 := gi_addI ex_107 (by have h1 := g_97.1; have h2 := (gi_c 1 1 (by decide)).1; have h3 := g_97.2; have h4 := (gi_c 1 1 (by decide)).2; omega) (by have h1 := g_97.1; have h2 := (gi_c 1 1 (by decide)).1; have h3 := g_97.2; have h4 := (gi_c 1 1 (by decide)).2; omega); rw [hc1] at h9; exact h9); have qgv6 := g_97.1; have rgv6 := g_97.2; omega) hP hD hS (lv_sub hl [2, 3, 4, 5, 6, 1, 0] rfl)
abbrev pb_sX12_weekday (dC : Nat → ClassId) (dI : Nat → Nat → Nat) (A9 : Nat → Prop) (h0 : Nat) (mi : Nat → Int32) (mr : Nat → Nat) (km : Nat → ClassId) (fm_must : Nat → Int32) (fm_least : Nat → Int32) (fm_pin : Nat → Int32) (fm_ways : Nat → Int32) (fm_verdict : Nat → Int32) (fm_row : Nat → Int32) (fm_struck : Nat → Int32) (fm_reportKnown : Nat → Int32) (fm_reportPlace : Nat → Int32) (fm_reportMonth : Nat → Int32) (fm_reportDay : Nat → Int32) (fm_reportKind : Nat → Int32) (fm_trust : Nat → Int32) (fm_letter : Nat → Int32) (fm_deedMonth : Nat → Int32) (fm_deedDay : Nat → Int32) (fm_deedLong : Nat → Int32) (fm_deedKind : Nat → Int32) (fm_kept : Nat → Int32) (fm_tape : Nat → Int32) (fm_official : Nat → Int32) (fm_aside : Nat → Int32) (fm_worth : Nat → Int32) (fm_out : Nat → Int32) (p1 : Int32) (p2 : Int32) (p3 : Int32) (p4 : Int32) (w0_37 : Int32) (w0_41 : Int32) (z1 : Nat → Int32) (z2 : Nat → Int32) (z3 : Nat → Int32) (z4 : Nat → Int32) (z5 : Nat → Int32) (z6 : Nat → Int32) (t : State) : Prop := gi w0_37 0 1 ∧ gi w0_41 0 24 ∧ ga z6 24 0 23 ∧ va_P (dC, dI) vwCl (MWn h0 mr km (mi 0) (mi 1) (mi 2) (mi 3) (mi 4) (mi 5) (mi 6) (mi 7) (mi 10) (mi 17) (mi 23) (mi 24) (mi 26) (mi 27) (mi 28) (mi 29) (mi 30) (mi 31) (mi 32) (mi 33) w0_37 w0_41 (mi 42) (mi 43) (mi 44) (mi 45) (mi 47) (mi 48) (mi 49) (mi 50) (mi 51) (mi 54) (mi 56) fm_trust fm_letter fm_reportPlace fm_reportKind fm_struck fm_reportMonth fm_reportDay fm_reportKnown fm_deedMonth fm_deedDay fm_deedLong fm_deedKind fm_kept fm_tape z1 z2 z3 z4 z5 z6 fm_official fm_aside fm_worth fm_out) t.heap ∧ va_D A9 (MWn h0 mr km (mi 0) (mi 1) (mi 2) (mi 3) (mi 4) (mi 5) (mi 6) (mi 7) (mi 10) (mi 17) (mi 23) (mi 24) (mi 26) (mi 27) (mi 28) (mi 29) (mi 30) (mi 31) (mi 32) (mi 33) w0_37 w0_41 (mi 42) (mi 43) (mi 44) (mi 45) (mi 47) (mi 48) (mi 49) (mi 50) (mi 51) (mi 54) (mi 56) fm_trust fm_letter fm_reportPlace fm_reportKind fm_struck fm_reportMonth fm_reportDay fm_reportKnown fm_deedMonth fm_deedDay fm_deedLong fm_deedKind fm_kept fm_tape z1 z2 z3 z4 z5 z6 fm_official fm_aside fm_worth fm_out)
set_option maxHeartbeats 4000000 in
set_option maxRecDepth 100000 in
theorem sX12_weekday (l : Launch) (dC : Nat → ClassId) (dI : Nat → Nat → Nat) (sz : Nat) (h0 : Nat) (mi : Nat → Int32) (mr : Nat → Nat) (km : Nat → ClassId) (fm_must : Nat → Int32) (fm_least : Nat → Int32) (fm_pin : Nat → Int32) (fm_ways : Nat → Int32) (fm_verdict : Nat → Int32) (fm_row : Nat → Int32) (fm_struck : Nat → Int32) (fm_reportKnown : Nat → Int32) (fm_reportPlace : Nat → Int32) (fm_reportMonth : Nat → Int32) (fm_reportDay : Nat → Int32) (fm_reportKind : Nat → Int32) (fm_trust : Nat → Int32) (fm_letter : Nat → Int32) (fm_deedMonth : Nat → Int32) (fm_deedDay : Nat → Int32) (fm_deedLong : Nat → Int32) (fm_deedKind : Nat → Int32) (fm_kept : Nat → Int32) (fm_tape : Nat → Int32) (fm_official : Nat → Int32) (fm_aside : Nat → Int32) (fm_worth : Nat → Int32) (fm_out : Nat → Int32) (p1 : Int32) (p2 : Int32) (p3 : Int32) (p4 : Int32) (gmi_0 : gi (mi 0) 0 24) (gmi_1 : gi (mi 1) 0 5) (gmi_2 : gi (mi 2) 0 5) (gmi_4 : gi (mi 4) 0 1) (gmi_7 : gi (mi 7) 0 6) (gmi_10 : gi (mi 10) 0 24) (gmi_17 : gi (mi 17) 0 8) (gmi_23 : gi (mi 23) 0 300) (gmi_24 : gi (mi 24) 0 1) (gmi_26 : gi (mi 26) 0 1600) (gmi_29 : gi (mi 29) 0 1600) (gmi_30 : gi (mi 30) 0 1600) (gmi_33 : gi (mi 33) 0 1) (gmi_37 : gi (mi 37) 0 1) (gmi_41 : gi (mi 41) 0 24) (gmi_50 : gi (mi 50) 0 1) (gmi_51 : gi (mi 51) 0 1) (gmi_56 : gi (mi 56) 0 80) (gfm_row : ga fm_row 24 0 23) (gfm_struck : ga fm_struck 24 0 1) (gfm_reportKnown : ga fm_reportKnown 24 0 999) (gfm_reportPlace : ga fm_reportPlace 24 0 5) (gfm_reportMonth : ga fm_reportMonth 24 0 23) (gfm_reportDay : ga fm_reportDay 24 0 999) : Met l yX12_weekday (.code yX12_weekday cX12_weekday 7 (some .int) :: wsGB) ({ frames := 6, cells := 0, slots := 0, locals := 147 }) (va_Pc [.ref h0, .int p1, .int p2, .int p3, .int p4] (fun U => U.heap.size = sz ∧ va_P (dC, dI) vwCl (MWn h0 mr km (mi 0) (mi 1) (mi 2) (mi 3) (mi 4) (mi 5) (mi 6) (mi 7) (mi 10) (mi 17) (mi 23) (mi 24) (mi 26) (mi 27) (mi 28) (mi 29) (mi 30) (mi 31) (mi 32) (mi 33) (mi 37) (mi 41) (mi 42) (mi 43) (mi 44) (mi 45) (mi 47) (mi 48) (mi 49) (mi 50) (mi 51) (mi 54) (mi 56) fm_trust fm_letter fm_reportPlace fm_reportKind fm_struck fm_reportMonth fm_reportDay fm_reportKnown fm_deedMonth fm_deedDay fm_deedLong fm_deedKind fm_kept fm_tape fm_must fm_least fm_pin fm_ways fm_verdict fm_row fm_official fm_aside fm_worth fm_out) U.heap ∧ va_K (dC, dI) vwCl (MT km) U ∧ va_D (fun _ => True) (MWn h0 mr km (mi 0) (mi 1) (mi 2) (mi 3) (mi 4) (mi 5) (mi 6) (mi 7) (mi 10) (mi 17) (mi 23) (mi 24) (mi 26) (mi 27) (mi 28) (mi 29) (mi 30) (mi 31) (mi 32) (mi 33) (mi 37) (mi 41) (mi 42) (mi 43) (mi 44) (mi 45) (mi 47) (mi 48) (mi 49) (mi 50) (mi 51) (mi 54) (mi 56) fm_trust fm_letter fm_reportPlace fm_reportKind fm_struck fm_reportMonth fm_reportDay fm_reportKnown fm_deedMonth fm_deedDay fm_deedLong fm_deedKind fm_kept fm_tape fm_must fm_least fm_pin fm_ways fm_verdict fm_row fm_official fm_aside fm_worth fm_out))) (va_Qi (fun (r : Int32) (u : Unit) => gi r (-2147483648) 2147483647) (fun _ t => ∃ (w0_37 : Int32) (w0_41 : Int32) (z1 : Nat → Int32) (z2 : Nat → Int32) (z3 : Nat → Int32) (z4 : Nat → Int32) (z5 : Nat → Int32) (z6 : Nat → Int32), pb_sX12_weekday dC dI (va_A (MWn h0 mr km (mi 0) (mi 1) (mi 2) (mi 3) (mi 4) (mi 5) (mi 6) (mi 7) (mi 10) (mi 17) (mi 23) (mi 24) (mi 26) (mi 27) (mi 28) (mi 29) (mi 30) (mi 31) (mi 32) (mi 33) (mi 37) (mi 41) (mi 42) (mi 43) (mi 44) (mi 45) (mi 47) (mi 48) (mi 49) (mi 50) (mi 51) (mi 54) (mi 56) fm_trust fm_letter fm_reportPlace fm_reportKind fm_struck fm_reportMonth fm_reportDay fm_reportKnown fm_deedMonth fm_deedDay fm_deedLong fm_deedKind fm_kept fm_tape fm_must fm_least fm_pin fm_ways fm_verdict fm_row fm_official fm_aside fm_worth fm_out) sz) h0 mi mr km fm_must fm_least fm_pin fm_ways fm_verdict fm_row fm_struck fm_reportKnown fm_reportPlace fm_reportMonth fm_reportDay fm_reportKind fm_trust fm_letter fm_deedMonth fm_deedDay fm_deedLong fm_deedKind fm_kept fm_tape fm_official fm_aside fm_worth fm_out p1 p2 p3 p4 w0_37 w0_41 z1 z2 z3 z4 z5 z6 t) (va_A (MWn h0 mr km (mi 0) (mi 1) (mi 2) (mi 3) (mi 4) (mi 5) (mi 6) (mi 7) (mi 10) (mi 17) (mi 23) (mi 24) (mi 26) (mi 27) (mi 28) (mi 29) (mi 30) (mi 31) (mi 32) (mi 33) (mi 37) (mi 41) (mi 42) (mi 43) (mi 44) (mi 45) (mi 47) (mi 48) (mi 49) (mi 50) (mi 51) (mi 54) (mi 56) fm_trust fm_letter fm_reportPlace fm_reportKind fm_struck fm_reportMonth fm_reportDay fm_reportKnown fm_deedMonth fm_deedDay fm_deedLong fm_deedKind fm_kept fm_tape fm_must fm_least fm_pin fm_ways fm_verdict fm_row fm_official fm_aside fm_worth fm_out) sz)) 0 0 (va_A (MWn h0 mr km (mi 0) (mi 1) (mi 2) (mi 3) (mi 4) (mi 5) (mi 6) (mi 7) (mi 10) (mi 17) (mi 23) (mi 24) (mi 26) (mi 27) (mi 28) (mi 29) (mi 30) (mi 31) (mi 32) (mi 33) (mi 37) (mi 41) (mi 42) (mi 43) (mi 44) (mi 45) (mi 47) (mi 48) (mi 49) (mi 50) (mi 51) (mi 54) (mi 56) fm_trust fm_letter fm_reportPlace fm_reportKind fm_struck fm_reportMonth fm_reportDay fm_reportKnown fm_deedMonth fm_deedDay fm_deedLong fm_deedKind fm_kept fm_tape fm_must fm_least fm_pin fm_ways fm_verdict fm_row fm_official fm_aside fm_worth fm_out) sz) := by
  refine Met.ofW (cc := cX12_weekday) (maxL := 7) (ret := (some .int)) (by decide) rfl ?_
  intro p e s m args below meth c s₁ B hml hv
  obtain ⟨rfl, hsz, hP, hK, hD0⟩ := hv
  have hx := B.exec
  have hb := B.bytes
  have hr := B.returns
  have hts := atoms_spec (ws := (.code yX12_weekday cX12_weekday 7 (some .int) :: wsGB)) B.pre
  have hown : s.vm.findClass RX12 = some m.cls := findClass_of_methodNamed B.named
  have hlocks := B.notSynchronized
  subst hsz
  have hD := hD0.self (sz := s.heap.size)
  generalize hAe : va_A (MWn h0 mr km (mi 0) (mi 1) (mi 2) (mi 3) (mi 4) (mi 5) (mi 6) (mi 7) (mi 10) (mi 17) (mi 23) (mi 24) (mi 26) (mi 27) (mi 28) (mi 29) (mi 30) (mi 31) (mi 32) (mi 33) (mi 37) (mi 41) (mi 42) (mi 43) (mi 44) (mi 45) (mi 47) (mi 48) (mi 49) (mi 50) (mi 51) (mi 54) (mi 56) fm_trust fm_letter fm_reportPlace fm_reportKind fm_struck fm_reportMonth fm_reportDay fm_reportKnown fm_deedMonth fm_deedDay fm_deedLong fm_deedKind fm_kept fm_tape fm_must fm_least fm_pin fm_ways fm_verdict fm_row fm_official fm_aside fm_worth fm_out) s.heap.size = A at hD ⊢
  have hA : ∀ q : Nat, s.heap.size ≤ q → A q := fun q h => by rw [← hAe]; exact Or.inr h
  have hS : va_S A s.heap s.heap [] := va_S.rf
  have hl := lv_entry ([.ref h0, .int p1, .int p2, .int p3, .int p4]) (n := 7) (Nat.le_of_ble_eq_true rfl)
  rw [lg_entry_eq]
  generalize (lg_sl ([.ref h0, .int p1, .int p2, .int p3, .int p4]) ++ List.replicate (7 - (lg_sl ([.ref h0, .int p1, .int p2, .int p3, .int p4])).length) Slot.unset).toArray = ls at hl ⊢
  have hl : lv_has ls 7 [(0, .ref h0), (1, .int p1), (2, .int p2), (3, .int p3), (4, .int p4)] := hl
  refine lv_aload_n hx hb dX12_weekday_0 rfl (lv_at hl 0 rfl) ?_
  refine lv_iload_n hx hb dX12_weekday_1 rfl (lv_at hl 1 rfl) ?_
  refine va_calli (va_runV (As := [.int p1]) (rest := []) ⟨hx, hb, hml, hown, hts⟩ (sX12_isTime l dC dI h0 mi mr km fm_trust fm_letter fm_reportPlace fm_reportKind fm_struck fm_reportMonth fm_reportDay fm_reportKnown fm_deedMonth fm_deedDay fm_deedLong fm_deedKind fm_kept fm_tape fm_must fm_least fm_pin fm_ways fm_verdict fm_row fm_official fm_aside fm_worth fm_out p1 gmi_0 gmi_1 gmi_2 gmi_4 gmi_7 gmi_10 gmi_17 gmi_23 gmi_24 gmi_26 gmi_29 gmi_30 gmi_33 gmi_37 gmi_41 gmi_50 gmi_51 gmi_56) (cwV 1 hts (gz_gV mGB_256 mGB_257 mGB_258 mGB_1 mGB_259 goodGB) rfl rfl rfl (by decide +kernel) ⟨Nat.le_of_ble_eq_true rfl, Nat.le_of_ble_eq_true rfl⟩) ⟨bl_R, mw_recv hK hP, fun U hU hW => ⟨rfl, by rw [hU]; exact hP, va_K.moved hW.alike hK⟩⟩ rfl rfl hl.1 rfl (lv_room (Nat.le_of_ble_eq_true rfl)) dX12_weekday_2 ⟨Nat.zero_le _, Nat.zero_le _⟩) hS (fun q _ h => h.elim) (fun q h => h.elim) (fun r_108 u t H1 locs ht hvm hw hB hz1 hk1 hS => ?_)
  obtain ⟨hw, hE⟩ := hw
  have hP := gz_keep hP hk1
  generalize H1 = H at hP hS ⊢
  have gr_108 : gi r_108 0 1 := hw.1
  have hqr_108 := hw.2
  refine lv_if_eq (tgt := 36) hx hb dX12_weekday_5 (by decide) (fun c_109 => ?_) (fun c_109 => ?_)
  · have g_110 : gi r_108 0 0 := gi_eq c_109 (gi_c 0 0 (by decide))
    refine lv_bipush (v := (-2)) hx hb dX12_weekday_36 (by decide) ?_
    exact W.iret (v := (-2)) hx hb hr (fun t ht hW => ⟨⟨(-2), (), rfl, (gi_any (-2)), (mi 37), (mi 41), fm_must, fm_least, fm_pin, fm_ways, fm_verdict, fm_row, gmi_37, gmi_41, gfm_row, by rw [ht]; exact hP, hD⟩, hS.F ht⟩) hS.2.2 dX12_weekday_38
  · have g_111 : gi r_108 1 1 := gi_ne_lo c_109 gr_108 (gi_c 0 0 (by decide)) (by decide)
    have g_112 : gi p1 0 999 := gi_cap (gi_any p1) (hqr_108 (gz_one g_111)) (by decide)
    refine lv_aload_n hx hb dX12_weekday_8 rfl (lv_at hl 0 rfl) ?_
    refine lv_iload_n hx hb dX12_weekday_9 rfl (lv_at hl 2 rfl) ?_
    refine va_calli (va_runV (As := [.int p2]) (rest := []) ⟨hx, hb, hml, hown, hts⟩ (sX12_isMonth l dC dI h0 mi mr km fm_trust fm_letter fm_reportPlace fm_reportKind fm_struck fm_reportMonth fm_reportDay fm_reportKnown fm_deedMonth fm_deedDay fm_deedLong fm_deedKind fm_kept fm_tape fm_must fm_least fm_pin fm_ways fm_verdict fm_row fm_official fm_aside fm_worth fm_out p2 gmi_0 gmi_1 gmi_2 gmi_4 gmi_7 gmi_10 gmi_17 gmi_23 gmi_24 gmi_26 gmi_29 gmi_30 gmi_33 gmi_37 gmi_41 gmi_50 gmi_51 gmi_56) (cwV 1 hts (gz_gV mGB_387 mGB_388 mGB_389 mGB_1 mGB_390 goodGB) rfl rfl rfl (by decide +kernel) ⟨Nat.le_of_ble_eq_true rfl, Nat.le_of_ble_eq_true rfl⟩) ⟨bl_R, mw_recv hK hP, fun U hU hW => ⟨rfl, by rw [hU]; exact hP, va_K.moved hW.alike hK⟩⟩ rfl rfl hl.1 rfl (lv_room (Nat.le_of_ble_eq_true rfl)) dX12_weekday_10 ⟨Nat.zero_le _, Nat.zero_le _⟩) hS (fun q _ h => h.elim) (fun q h => h.elim) (fun r_113 u t H1 locs ht hvm hw hB hz1 hk1 hS => ?_)
    have hP := gz_keep hP hk1
    generalize H1 = H at hP hS ⊢
    have gr_113 : gi r_113 0 1 := hw.1
    have hqr_113 := hw.2
    refine lv_if_eq (tgt := 36) hx hb dX12_weekday_13 (by decide) (fun c_114 => ?_) (fun c_114 => ?_)
    · have g_115 : gi r_113 0 0 := gi_eq c_114 (gi_c 0 0 (by decide))
      refine lv_bipush (v := (-2)) hx hb dX12_weekday_36 (by decide) ?_
      exact W.iret (v := (-2)) hx hb hr (fun t ht hW => ⟨⟨(-2), (), rfl, (gi_any (-2)), (mi 37), (mi 41), fm_must, fm_least, fm_pin, fm_ways, fm_verdict, fm_row, gmi_37, gmi_41, gfm_row, by rw [ht]; exact hP, hD⟩, hS.F ht⟩) hS.2.2 dX12_weekday_38
    · have g_116 : gi r_113 1 1 := gi_ne_lo c_114 gr_113 (gi_c 0 0 (by decide)) (by decide)
      have g_117 : gi p2 0 23 := gi_cap (gi_any p2) (hqr_113 (gz_one g_116)) (by decide)
      refine lv_iload_n hx hb dX12_weekday_16 rfl (lv_at hl 3 rfl) ?_
      have hPc := hP.sub (ws' := []) [] rfl
      have hKc := hK.sub (tys' := []) [] rfl
      refine va_calli (va_runS (As := [.int p3]) (rest := []) ⟨hx, hb, hml, hown, hts⟩ (sX12_isInMonth l dC dI p3) (cwS 1 hts (gz_gS mGB_415 mGB_416 mGB_1 mGB_417 goodGB) rfl rfl rfl (by decide +kernel) ⟨Nat.le_of_ble_eq_true rfl, Nat.le_of_ble_eq_true rfl⟩) ⟨bl_R, fun U hU hW => ⟨rfl, by rw [hU]; exact hPc, va_K.moved hW.alike hKc⟩⟩ rfl rfl hl.1 rfl (lv_room (Nat.le_of_ble_eq_true rfl)) dX12_weekday_17 ⟨Nat.zero_le _, Nat.zero_le _⟩) hS (fun q _ h => h.elim) (fun q h => h.elim) (fun r_118 u t H1 locs ht hvm hw hB hz1 hk1 hS => ?_)
      have hP := gz_keep hP hk1
      generalize H1 = H at hP hS ⊢
      have gr_118 : gi r_118 0 1 := hw.1
      have hqr_118 := hw.2
      refine lv_if_eq (tgt := 36) hx hb dX12_weekday_20 (by decide) (fun c_119 => ?_) (fun c_119 => ?_)
      · have g_120 : gi r_118 0 0 := gi_eq c_119 (gi_c 0 0 (by decide))
        refine lv_bipush (v := (-2)) hx hb dX12_weekday_36 (by decide) ?_
        exact W.iret (v := (-2)) hx hb hr (fun t ht hW => ⟨⟨(-2), (), rfl, (gi_any (-2)), (mi 37), (mi 41), fm_must, fm_least, fm_pin, fm_ways, fm_verdict, fm_row, gmi_37, gmi_41, gfm_row, by rw [ht]; exact hP, hD⟩, hS.F ht⟩) hS.2.2 dX12_weekday_38
      · have g_121 : gi r_118 1 1 := gi_ne_lo c_119 gr_118 (gi_c 0 0 (by decide)) (by decide)
        have g_122 : gi p3 1 30 := gi_cap (gi_any p3) (hqr_118 (gz_one g_121)) (by decide)
        refine lv_iload hx hb dX12_weekday_23 (lv_at hl 4 rfl) ?_
        refine lv_i2l (v := (p4).toInt64) hx hb dX12_weekday_25 rfl ?_
        refine lv_topl (fun l_123 el_123 => ?_)
        refine lv_lconst (v := 0) hx hb dX12_weekday_26 (by decide) ?_
        refine lv_ldc2 (own := RX12) (v := 6) hx hb hown (hts _ (List.mem_cons_of_mem _ mGB_540)) dX12_weekday_27 ?_
        have hPc := hP.sub (ws' := []) [] rfl
        have hKc := hK.sub (tys' := []) [] rfl
        refine va_calli (va_runS (As := [.long l_123, .long 0, .long 6]) (rest := []) ⟨hx, hb, hml, hown, hts⟩ (sX12_in l dC dI l_123 0 6) (cwS 3 hts (gz_gS mGB_47 mGB_48 mGB_1 mGB_49 goodGB) rfl rfl rfl (by decide +kernel) ⟨Nat.le_of_ble_eq_true rfl, Nat.le_of_ble_eq_true rfl⟩) ⟨bl_R, fun U hU hW => ⟨rfl, by rw [hU]; exact hPc, va_K.moved hW.alike hKc⟩⟩ rfl rfl hl.1 rfl (lv_room (Nat.le_of_ble_eq_true rfl)) dX12_weekday_30 ⟨Nat.zero_le _, Nat.zero_le _⟩) hS (fun q _ h => h.elim) (fun q h => h.elim) (fun r_124 u t H1 locs ht hvm hw hB hz1 hk1 hS => ?_)
        obtain ⟨hw, hE⟩ := hw
        have hP := gz_keep hP hk1
        generalize H1 = H at hP hS ⊢
        have gr_124 : gi r_124 0 1 := hw.1
        have hqr_124 := hw.2
        refine lv_if_ne (tgt := 39) hx hb dX12_weekday_33 (by decide) (fun c_125 => ?_) (fun c_125 => ?_)
        · have g_126 : gi r_124 1 1 := gi_ne_lo c_125 gr_124 (gi_c 0 0 (by decide)) (by decide)
          have g_127 : gi p4 0 6 := gi_cap (gi_any p4) (gz_inr (hqr_124.1 (gz_one g_126)) el_123 (A := 0) (B := 6) (by decide) (by decide)) (by decide)
          refine lv_aload_n hx hb dX12_weekday_39 rfl (lv_at hl 0 rfl) ?_
          refine lv_iload_n hx hb dX12_weekday_40 rfl (lv_at hl 1 rfl) ?_
          have hFc := gz_fullF hD hS hA
          refine va_callv (va_runV (As := [.int p1]) (rest := []) ⟨hx, hb, hml, hown, hts⟩ (sX12_judgesAll l dC dI H.size h0 mi mr km fm_must fm_least fm_pin fm_ways fm_verdict fm_row fm_struck fm_reportKnown fm_reportPlace fm_reportMonth fm_reportDay fm_reportKind fm_trust fm_letter fm_deedMonth fm_deedDay fm_deedLong fm_deedKind fm_kept fm_tape fm_official fm_aside fm_worth fm_out p1 gmi_0 gmi_1 gmi_2 gmi_4 gmi_7 gmi_10 gmi_17 gmi_23 gmi_24 gmi_26 gmi_29 gmi_30 gmi_33 gmi_37 gmi_41 gmi_50 gmi_51 gmi_56 gfm_row gfm_struck gfm_reportKnown gfm_reportPlace gfm_reportMonth gfm_reportDay) (cwV 1 hts (gz_gV mGB_261 mGB_262 mGB_263 mGB_1 mGB_264 goodGB) rfl rfl rfl (by decide +kernel) ⟨Nat.le_of_ble_eq_true rfl, Nat.le_of_ble_eq_true rfl⟩) ⟨bl_W, mw_recv hK hP, fun U hU hW => ⟨rfl, by rw [hU], by rw [hU]; exact hP, va_K.moved hW.alike hK, hD.weaken (fun _ _ _ _ => trivial)⟩⟩ rfl rfl hl.1 rfl (lv_room (Nat.le_of_ble_eq_true rfl)) dX12_weekday_41 ⟨Nat.zero_le _, Nat.zero_le _⟩) hS (fun q _ h => hFc q h) hFc (fun u t H1 locs ht hvm hw hB hz1 hk1 hS => ?_)
          obtain ⟨y_129, y_130, f_131, f_132, f_133, f_134, f_135, f_136, hB⟩ := hB
          obtain ⟨gy_129, gy_130, gf_136, hP1, hD1⟩ := hB
          rw [ht] at hP1
          have hD : va_D A (MWn h0 mr km (mi 0) (mi 1) (mi 2) (mi 3) (mi 4) (mi 5) (mi 6) (mi 7) (mi 10) (mi 17) (mi 23) (mi 24) (mi 26) (mi 27) (mi 28) (mi 29) (mi 30) (mi 31) (mi 32) (mi 33) y_129 y_130 (mi 42) (mi 43) (mi 44) (mi 45) (mi 47) (mi 48) (mi 49) (mi 50) (mi 51) (mi 54) (mi 56) fm_trust fm_letter fm_reportPlace fm_reportKind fm_struck fm_reportMonth fm_reportDay fm_reportKnown fm_deedMonth fm_deedDay fm_deedLong fm_deedKind fm_kept fm_tape f_131 f_132 f_133 f_134 f_135 f_136 fm_official fm_aside fm_worth fm_out) := gz_fullD hFc hD1
          have hP : va_P (dC, dI) vwCl (MWn h0 mr km (mi 0) (mi 1) (mi 2) (mi 3) (mi 4) (mi 5) (mi 6) (mi 7) (mi 10) (mi 17) (mi 23) (mi 24) (mi 26) (mi 27) (mi 28) (mi 29) (mi 30) (mi 31) (mi 32) (mi 33) y_129 y_130 (mi 42) (mi 43) (mi 44) (mi 45) (mi 47) (mi 48) (mi 49) (mi 50) (mi 51) (mi 54) (mi 56) fm_trust fm_letter fm_reportPlace fm_reportKind fm_struck fm_reportMonth fm_reportDay fm_reportKnown fm_deedMonth fm_deedDay fm_deedLong fm_deedKind fm_kept fm_tape f_131 f_132 f_133 f_134 f_135 f_136 fm_official fm_aside fm_worth fm_out) H1 := hP1
          generalize H1 = H at hP hS ⊢
          refine lv_iconst (v := 0) hx hb dX12_weekday_44 (by decide) ?_
          refine lv_istore (lv' := [(5, .int 0), (0, .ref h0), (1, .int p1), (2, .int p2), (3, .int p3), (4, .int p4)]) hx hb dX12_weekday_45 hl (by decide) rfl (fun ls hl => ?_)
          refine lv_bipush (v := 29) hx hb dX12_weekday_47 (by decide) ?_
          refine lv_iload_n hx hb dX12_weekday_49 rfl (lv_at hl 3 rfl) ?_
          refine lv_imul hx hb dX12_weekday_50 ?_
          refine lv_topi (fun x_137 ex_137 => ?_)
          have gx_137 : gi x_137 0 667 := gi_mul ex_137 (gi_c 29 29 (by decide)) g_117 (by decide)
          refine lv_istore (lv' := [(6, .int x_137), (5, .int 0), (0, .ref h0), (1, .int p1), (2, .int p2), (3, .int p3), (4, .int p4)]) hx hb dX12_weekday_51 hl (by decide) rfl (fun ls hl => ?_)
          refine (lp_sX12_weekday h0 mi mr km fm_must fm_least fm_pin fm_ways fm_verdict fm_row fm_struck fm_reportKnown fm_reportPlace fm_reportMonth fm_reportDay fm_reportKind fm_trust fm_letter fm_deedMonth fm_deedDay fm_deedLong fm_deedKind fm_kept fm_tape fm_official fm_aside fm_worth fm_out p1 p2 p3 p4 gmi_0 gmi_1 gmi_2 gmi_4 gmi_7 gmi_10 gmi_17 gmi_23 gmi_24 gmi_26 gmi_29 gmi_30 gmi_33 gmi_37 gmi_41 gmi_50 gmi_51 gmi_56 gfm_row gfm_struck gfm_reportKnown gfm_reportPlace gfm_reportMonth gfm_reportDay hx hb hml hown hts hK hA (Nat.le_of_ble_eq_true rfl) (Nat.le_of_ble_eq_true rfl) (Nat.zero_le _) (Nat.zero_le _) (fun v w0_37 w0_41 z1 z2 z3 z4 z5 z6 H locs ls gv gw0_37 gw0_41 gz6 hP hD hS hl => ?_) (fun v w0_37 w0_41 z1 z2 z3 z4 z5 z6 H locs ls gw0_37 gw0_41 gz6 hP hD hS hl => ?_) 2012) 0 x_137 y_129 y_130 f_131 f_132 f_133 f_134 f_135 f_136 _ _ _ g_112 g_117 g_122 g_127 (gi_w gx_137 (by decide)) gy_129 gy_130 gf_136 (by have qgx_137 := gx_137.1; have rgx_137 := gx_137.2; omega) hP hD hS (lv_sub hl [2, 3, 4, 5, 6, 1, 0] rfl)
          · skip
            exact W.iret (v := v) hx hb hr (fun t ht hW => ⟨⟨v, (), rfl, (gi_any v), w0_37, w0_41, z1, z2, z3, z4, z5, z6, gw0_37, gw0_41, gz6, by rw [ht]; exact hP, hD⟩, hS.F ht⟩) hS.2.2 dX12_weekday_38
          · skip
            exact W.iret (v := v) hx hb hr (fun t ht hW => ⟨⟨v, (), rfl, (gi_any v), w0_37, w0_41, z1, z2, z3, z4, z5, z6, gw0_37, gw0_41, gz6, by rw [ht]; exact hP, hD⟩, hS.F ht⟩) hS.2.2 dX12_weekday_100
        · have g_138 : gi r_124 0 0 := gi_eq c_125 (gi_c 0 0 (by decide))
          refine lv_bipush (v := (-2)) hx hb dX12_weekday_36 (by decide) ?_
          exact W.iret (v := (-2)) hx hb hr (fun t ht hW => ⟨⟨(-2), (), rfl, (gi_any (-2)), (mi 37), (mi 41), fm_must, fm_least, fm_pin, fm_ways, fm_verdict, fm_row, gmi_37, gmi_41, gfm_row, by rw [ht]; exact hP, hD⟩, hS.F ht⟩) hS.2.2 dX12_weekday_38
theorem dX12_moved_0 : decode cX12_moved 0 = .ok (.aload_n 0, 1) := by decide +kernel
theorem dX12_moved_1 : decode cX12_moved 1 = .ok (.iload_n 1, 1) := by decide +kernel
theorem dX12_moved_2 : decode cX12_moved 2 = .ok (.invokevirtual 359, 3) := by decide +kernel
theorem dX12_moved_5 : decode cX12_moved 5 = .ok (.ifCond .eq 19, 3) := by decide +kernel
theorem dX12_moved_8 : decode cX12_moved 8 = .ok (.aload_n 0, 1) := by decide +kernel
theorem dX12_moved_9 : decode cX12_moved 9 = .ok (.iload_n 2, 1) := by decide +kernel
theorem dX12_moved_10 : decode cX12_moved 10 = .ok (.invokevirtual 359, 3) := by decide +kernel
theorem dX12_moved_13 : decode cX12_moved 13 = .ok (.ifCond .eq 11, 3) := by decide +kernel
theorem dX12_moved_16 : decode cX12_moved 16 = .ok (.aload_n 0, 1) := by decide +kernel
theorem dX12_moved_17 : decode cX12_moved 17 = .ok (.iload_n 3, 1) := by decide +kernel
theorem dX12_moved_18 : decode cX12_moved 18 = .ok (.invokevirtual 379, 3) := by decide +kernel
theorem dX12_moved_21 : decode cX12_moved 21 = .ok (.ifCond .ne 7, 3) := by decide +kernel
theorem dX12_moved_24 : decode cX12_moved 24 = .ok (.sipush (-2000), 3) := by decide +kernel
theorem dX12_moved_27 : decode cX12_moved 27 = .ok (.ireturn, 1) := by decide +kernel
theorem dX12_moved_28 : decode cX12_moved 28 = .ok (.aload_n 0, 1) := by decide +kernel
theorem dX12_moved_29 : decode cX12_moved 29 = .ok (.iload_n 2, 1) := by decide +kernel
theorem dX12_moved_30 : decode cX12_moved 30 = .ok (.invokevirtual 382, 3) := by decide +kernel
theorem dX12_moved_33 : decode cX12_moved 33 = .ok (.aload_n 0, 1) := by decide +kernel
theorem dX12_moved_34 : decode cX12_moved 34 = .ok (.getfield 87, 3) := by decide +kernel
theorem dX12_moved_37 : decode cX12_moved 37 = .ok (.iload_n 3, 1) := by decide +kernel
theorem dX12_moved_38 : decode cX12_moved 38 = .ok (.iaload, 1) := by decide +kernel
theorem dX12_moved_39 : decode cX12_moved 39 = .ok (.istore 4, 2) := by decide +kernel
theorem dX12_moved_41 : decode cX12_moved 41 = .ok (.aload_n 0, 1) := by decide +kernel
theorem dX12_moved_42 : decode cX12_moved 42 = .ok (.iload_n 1, 1) := by decide +kernel
theorem dX12_moved_43 : decode cX12_moved 43 = .ok (.invokevirtual 382, 3) := by decide +kernel
theorem dX12_moved_46 : decode cX12_moved 46 = .ok (.iload 4, 2) := by decide +kernel
theorem dX12_moved_48 : decode cX12_moved 48 = .ok (.aload_n 0, 1) := by decide +kernel
theorem dX12_moved_49 : decode cX12_moved 49 = .ok (.getfield 87, 3) := by decide +kernel
theorem dX12_moved_52 : decode cX12_moved 52 = .ok (.iload_n 3, 1) := by decide +kernel
theorem dX12_moved_53 : decode cX12_moved 53 = .ok (.iaload, 1) := by decide +kernel
theorem dX12_moved_54 : decode cX12_moved 54 = .ok (.isub, 1) := by decide +kernel
theorem dX12_moved_55 : decode cX12_moved 55 = .ok (.ireturn, 1) := by decide +kernel
abbrev pb_sX12_moved (dC : Nat → ClassId) (dI : Nat → Nat → Nat) (A9 : Nat → Prop) (h0 : Nat) (mi : Nat → Int32) (mr : Nat → Nat) (km : Nat → ClassId) (fm_must : Nat → Int32) (fm_least : Nat → Int32) (fm_pin : Nat → Int32) (fm_ways : Nat → Int32) (fm_verdict : Nat → Int32) (fm_row : Nat → Int32) (fm_struck : Nat → Int32) (fm_reportKnown : Nat → Int32) (fm_reportPlace : Nat → Int32) (fm_reportMonth : Nat → Int32) (fm_reportDay : Nat → Int32) (fm_reportKind : Nat → Int32) (fm_trust : Nat → Int32) (fm_letter : Nat → Int32) (fm_official : Nat → Int32) (fm_deedMonth : Nat → Int32) (fm_deedDay : Nat → Int32) (fm_deedLong : Nat → Int32) (fm_deedKind : Nat → Int32) (fm_kept : Nat → Int32) (fm_tape : Nat → Int32) (fm_aside : Nat → Int32) (fm_worth : Nat → Int32) (fm_out : Nat → Int32) (p1 : Int32) (p2 : Int32) (p3 : Int32) (w0_37 : Int32) (w0_41 : Int32) (z1 : Nat → Int32) (z2 : Nat → Int32) (z3 : Nat → Int32) (z4 : Nat → Int32) (z5 : Nat → Int32) (z6 : Nat → Int32) (z15 : Nat → Int32) (t : State) : Prop := gi w0_37 0 1 ∧ gi w0_41 0 24 ∧ ga z6 24 0 23 ∧ va_P (dC, dI) vwCl (MWn h0 mr km (mi 0) (mi 1) (mi 2) (mi 3) (mi 4) (mi 5) (mi 6) (mi 7) (mi 10) (mi 17) (mi 23) (mi 24) (mi 26) (mi 27) (mi 28) (mi 29) (mi 30) (mi 31) (mi 32) (mi 33) w0_37 w0_41 (mi 42) (mi 43) (mi 44) (mi 45) (mi 47) (mi 48) (mi 49) (mi 50) (mi 51) (mi 54) (mi 56) fm_trust fm_letter fm_reportPlace fm_reportKind fm_struck fm_reportMonth fm_reportDay fm_reportKnown fm_deedMonth fm_deedDay fm_deedLong fm_deedKind fm_kept fm_tape z1 z2 z3 z4 z5 z6 z15 fm_aside fm_worth fm_out) t.heap ∧ va_D A9 (MWn h0 mr km (mi 0) (mi 1) (mi 2) (mi 3) (mi 4) (mi 5) (mi 6) (mi 7) (mi 10) (mi 17) (mi 23) (mi 24) (mi 26) (mi 27) (mi 28) (mi 29) (mi 30) (mi 31) (mi 32) (mi 33) w0_37 w0_41 (mi 42) (mi 43) (mi 44) (mi 45) (mi 47) (mi 48) (mi 49) (mi 50) (mi 51) (mi 54) (mi 56) fm_trust fm_letter fm_reportPlace fm_reportKind fm_struck fm_reportMonth fm_reportDay fm_reportKnown fm_deedMonth fm_deedDay fm_deedLong fm_deedKind fm_kept fm_tape z1 z2 z3 z4 z5 z6 z15 fm_aside fm_worth fm_out)
set_option maxHeartbeats 4000000 in
set_option maxRecDepth 100000 in
theorem sX12_moved (l : Launch) (dC : Nat → ClassId) (dI : Nat → Nat → Nat) (sz : Nat) (h0 : Nat) (mi : Nat → Int32) (mr : Nat → Nat) (km : Nat → ClassId) (fm_must : Nat → Int32) (fm_least : Nat → Int32) (fm_pin : Nat → Int32) (fm_ways : Nat → Int32) (fm_verdict : Nat → Int32) (fm_row : Nat → Int32) (fm_struck : Nat → Int32) (fm_reportKnown : Nat → Int32) (fm_reportPlace : Nat → Int32) (fm_reportMonth : Nat → Int32) (fm_reportDay : Nat → Int32) (fm_reportKind : Nat → Int32) (fm_trust : Nat → Int32) (fm_letter : Nat → Int32) (fm_official : Nat → Int32) (fm_deedMonth : Nat → Int32) (fm_deedDay : Nat → Int32) (fm_deedLong : Nat → Int32) (fm_deedKind : Nat → Int32) (fm_kept : Nat → Int32) (fm_tape : Nat → Int32) (fm_aside : Nat → Int32) (fm_worth : Nat → Int32) (fm_out : Nat → Int32) (p1 : Int32) (p2 : Int32) (p3 : Int32) (gmi_0 : gi (mi 0) 0 24) (gmi_1 : gi (mi 1) 0 5) (gmi_2 : gi (mi 2) 0 5) (gmi_4 : gi (mi 4) 0 1) (gmi_7 : gi (mi 7) 0 6) (gmi_10 : gi (mi 10) 0 24) (gmi_17 : gi (mi 17) 0 8) (gmi_23 : gi (mi 23) 0 300) (gmi_24 : gi (mi 24) 0 1) (gmi_26 : gi (mi 26) 0 1600) (gmi_29 : gi (mi 29) 0 1600) (gmi_30 : gi (mi 30) 0 1600) (gmi_33 : gi (mi 33) 0 1) (gmi_37 : gi (mi 37) 0 1) (gmi_41 : gi (mi 41) 0 24) (gmi_50 : gi (mi 50) 0 1) (gmi_51 : gi (mi 51) 0 1) (gmi_56 : gi (mi 56) 0 80) (gfm_row : ga fm_row 24 0 23) (gfm_struck : ga fm_struck 24 0 1) (gfm_reportKnown : ga fm_reportKnown 24 0 999) (gfm_reportPlace : ga fm_reportPlace 24 0 5) (gfm_reportMonth : ga fm_reportMonth 24 0 23) (gfm_reportDay : ga fm_reportDay 24 0 999) : Met l yX12_moved (.code yX12_moved cX12_moved 5 (some .int) :: wsGB) ({ frames := 6, cells := 0, slots := 0, locals := 140 }) (va_Pc [.ref h0, .int p1, .int p2, .int p3] (fun U => U.heap.size = sz ∧ va_P (dC, dI) vwCl (MWn h0 mr km (mi 0) (mi 1) (mi 2) (mi 3) (mi 4) (mi 5) (mi 6) (mi 7) (mi 10) (mi 17) (mi 23) (mi 24) (mi 26) (mi 27) (mi 28) (mi 29) (mi 30) (mi 31) (mi 32) (mi 33) (mi 37) (mi 41) (mi 42) (mi 43) (mi 44) (mi 45) (mi 47) (mi 48) (mi 49) (mi 50) (mi 51) (mi 54) (mi 56) fm_trust fm_letter fm_reportPlace fm_reportKind fm_struck fm_reportMonth fm_reportDay fm_reportKnown fm_deedMonth fm_deedDay fm_deedLong fm_deedKind fm_kept fm_tape fm_must fm_least fm_pin fm_ways fm_verdict fm_row fm_official fm_aside fm_worth fm_out) U.heap ∧ va_K (dC, dI) vwCl (MT km) U ∧ va_D (fun _ => True) (MWn h0 mr km (mi 0) (mi 1) (mi 2) (mi 3) (mi 4) (mi 5) (mi 6) (mi 7) (mi 10) (mi 17) (mi 23) (mi 24) (mi 26) (mi 27) (mi 28) (mi 29) (mi 30) (mi 31) (mi 32) (mi 33) (mi 37) (mi 41) (mi 42) (mi 43) (mi 44) (mi 45) (mi 47) (mi 48) (mi 49) (mi 50) (mi 51) (mi 54) (mi 56) fm_trust fm_letter fm_reportPlace fm_reportKind fm_struck fm_reportMonth fm_reportDay fm_reportKnown fm_deedMonth fm_deedDay fm_deedLong fm_deedKind fm_kept fm_tape fm_must fm_least fm_pin fm_ways fm_verdict fm_row fm_official fm_aside fm_worth fm_out))) (va_Qi (fun (r : Int32) (u : Unit) => gi r (-2147483648) 2147483647) (fun _ t => ∃ (w0_37 : Int32) (w0_41 : Int32) (z1 : Nat → Int32) (z2 : Nat → Int32) (z3 : Nat → Int32) (z4 : Nat → Int32) (z5 : Nat → Int32) (z6 : Nat → Int32) (z15 : Nat → Int32), pb_sX12_moved dC dI (va_A (MWn h0 mr km (mi 0) (mi 1) (mi 2) (mi 3) (mi 4) (mi 5) (mi 6) (mi 7) (mi 10) (mi 17) (mi 23) (mi 24) (mi 26) (mi 27) (mi 28) (mi 29) (mi 30) (mi 31) (mi 32) (mi 33) (mi 37) (mi 41) (mi 42) (mi 43) (mi 44) (mi 45) (mi 47) (mi 48) (mi 49) (mi 50) (mi 51) (mi 54) (mi 56) fm_trust fm_letter fm_reportPlace fm_reportKind fm_struck fm_reportMonth fm_reportDay fm_reportKnown fm_deedMonth fm_deedDay fm_deedLong fm_deedKind fm_kept fm_tape fm_must fm_least fm_pin fm_ways fm_verdict fm_row fm_official fm_aside fm_worth fm_out) sz) h0 mi mr km fm_must fm_least fm_pin fm_ways fm_verdict fm_row fm_struck fm_reportKnown fm_reportPlace fm_reportMonth fm_reportDay fm_reportKind fm_trust fm_letter fm_official fm_deedMonth fm_deedDay fm_deedLong fm_deedKind fm_kept fm_tape fm_aside fm_worth fm_out p1 p2 p3 w0_37 w0_41 z1 z2 z3 z4 z5 z6 z15 t) (va_A (MWn h0 mr km (mi 0) (mi 1) (mi 2) (mi 3) (mi 4) (mi 5) (mi 6) (mi 7) (mi 10) (mi 17) (mi 23) (mi 24) (mi 26) (mi 27) (mi 28) (mi 29) (mi 30) (mi 31) (mi 32) (mi 33) (mi 37) (mi 41) (mi 42) (mi 43) (mi 44) (mi 45) (mi 47) (mi 48) (mi 49) (mi 50) (mi 51) (mi 54) (mi 56) fm_trust fm_letter fm_reportPlace fm_reportKind fm_struck fm_reportMonth fm_reportDay fm_reportKnown fm_deedMonth fm_deedDay fm_deedLong fm_deedKind fm_kept fm_tape fm_must fm_least fm_pin fm_ways fm_verdict fm_row fm_official fm_aside fm_worth fm_out) sz)) 0 0 (va_A (MWn h0 mr km (mi 0) (mi 1) (mi 2) (mi 3) (mi 4) (mi 5) (mi 6) (mi 7) (mi 10) (mi 17) (mi 23) (mi 24) (mi 26) (mi 27) (mi 28) (mi 29) (mi 30) (mi 31) (mi 32) (mi 33) (mi 37) (mi 41) (mi 42) (mi 43) (mi 44) (mi 45) (mi 47) (mi 48) (mi 49) (mi 50) (mi 51) (mi 54) (mi 56) fm_trust fm_letter fm_reportPlace fm_reportKind fm_struck fm_reportMonth fm_reportDay fm_reportKnown fm_deedMonth fm_deedDay fm_deedLong fm_deedKind fm_kept fm_tape fm_must fm_least fm_pin fm_ways fm_verdict fm_row fm_official fm_aside fm_worth fm_out) sz) := by
  refine Met.ofW (cc := cX12_moved) (maxL := 5) (ret := (some .int)) (by decide) rfl ?_
  intro p e s m args below meth c s₁ B hml hv
  obtain ⟨rfl, hsz, hP, hK, hD0⟩ := hv
  have hx := B.exec
  have hb := B.bytes
  have hr := B.returns
  have hts := atoms_spec (ws := (.code yX12_moved cX12_moved 5 (some .int) :: wsGB)) B.pre
  have hown : s.vm.findClass RX12 = some m.cls := findClass_of_methodNamed B.named
  have hlocks := B.notSynchronized
  subst hsz
  have hD := hD0.self (sz := s.heap.size)
  generalize hAe : va_A (MWn h0 mr km (mi 0) (mi 1) (mi 2) (mi 3) (mi 4) (mi 5) (mi 6) (mi 7) (mi 10) (mi 17) (mi 23) (mi 24) (mi 26) (mi 27) (mi 28) (mi 29) (mi 30) (mi 31) (mi 32) (mi 33) (mi 37) (mi 41) (mi 42) (mi 43) (mi 44) (mi 45) (mi 47) (mi 48) (mi 49) (mi 50) (mi 51) (mi 54) (mi 56) fm_trust fm_letter fm_reportPlace fm_reportKind fm_struck fm_reportMonth fm_reportDay fm_reportKnown fm_deedMonth fm_deedDay fm_deedLong fm_deedKind fm_kept fm_tape fm_must fm_least fm_pin fm_ways fm_verdict fm_row fm_official fm_aside fm_worth fm_out) s.heap.size = A at hD ⊢
  have hA : ∀ q : Nat, s.heap.size ≤ q → A q := fun q h => by rw [← hAe]; exact Or.inr h
  have hS : va_S A s.heap s.heap [] := va_S.rf
  have hl := lv_entry ([.ref h0, .int p1, .int p2, .int p3]) (n := 5) (Nat.le_of_ble_eq_true rfl)
  rw [lg_entry_eq]
  generalize (lg_sl ([.ref h0, .int p1, .int p2, .int p3]) ++ List.replicate (5 - (lg_sl ([.ref h0, .int p1, .int p2, .int p3])).length) Slot.unset).toArray = ls at hl ⊢
  have hl : lv_has ls 5 [(0, .ref h0), (1, .int p1), (2, .int p2), (3, .int p3)] := hl
  refine lv_aload_n hx hb dX12_moved_0 rfl (lv_at hl 0 rfl) ?_
  refine lv_iload_n hx hb dX12_moved_1 rfl (lv_at hl 1 rfl) ?_
  refine va_calli (va_runV (As := [.int p1]) (rest := []) ⟨hx, hb, hml, hown, hts⟩ (sX12_isTime l dC dI h0 mi mr km fm_trust fm_letter fm_reportPlace fm_reportKind fm_struck fm_reportMonth fm_reportDay fm_reportKnown fm_deedMonth fm_deedDay fm_deedLong fm_deedKind fm_kept fm_tape fm_must fm_least fm_pin fm_ways fm_verdict fm_row fm_official fm_aside fm_worth fm_out p1 gmi_0 gmi_1 gmi_2 gmi_4 gmi_7 gmi_10 gmi_17 gmi_23 gmi_24 gmi_26 gmi_29 gmi_30 gmi_33 gmi_37 gmi_41 gmi_50 gmi_51 gmi_56) (cwV 1 hts (gz_gV mGB_256 mGB_257 mGB_258 mGB_1 mGB_259 goodGB) rfl rfl rfl (by decide +kernel) ⟨Nat.le_of_ble_eq_true rfl, Nat.le_of_ble_eq_true rfl⟩) ⟨bl_R, mw_recv hK hP, fun U hU hW => ⟨rfl, by rw [hU]; exact hP, va_K.moved hW.alike hK⟩⟩ rfl rfl hl.1 rfl (lv_room (Nat.le_of_ble_eq_true rfl)) dX12_moved_2 ⟨Nat.zero_le _, Nat.zero_le _⟩) hS (fun q _ h => h.elim) (fun q h => h.elim) (fun r_77 u t H1 locs ht hvm hw hB hz1 hk1 hS => ?_)
  obtain ⟨hw, hE⟩ := hw
  have hP := gz_keep hP hk1
  generalize H1 = H at hP hS ⊢
  have gr_77 : gi r_77 0 1 := hw.1
  have hqr_77 := hw.2
  refine lv_if_eq (tgt := 24) hx hb dX12_moved_5 (by decide) (fun c_78 => ?_) (fun c_78 => ?_)
  · have g_79 : gi r_77 0 0 := gi_eq c_78 (gi_c 0 0 (by decide))
    refine lv_sipush (v := (-2000)) hx hb dX12_moved_24 (by decide) ?_
    exact W.iret (v := (-2000)) hx hb hr (fun t ht hW => ⟨⟨(-2000), (), rfl, (gi_any (-2000)), (mi 37), (mi 41), fm_must, fm_least, fm_pin, fm_ways, fm_verdict, fm_row, fm_official, gmi_37, gmi_41, gfm_row, by rw [ht]; exact hP, hD⟩, hS.F ht⟩) hS.2.2 dX12_moved_27
  · have g_80 : gi r_77 1 1 := gi_ne_lo c_78 gr_77 (gi_c 0 0 (by decide)) (by decide)
    have g_81 : gi p1 0 999 := gi_cap (gi_any p1) (hqr_77 (gz_one g_80)) (by decide)
    refine lv_aload_n hx hb dX12_moved_8 rfl (lv_at hl 0 rfl) ?_
    refine lv_iload_n hx hb dX12_moved_9 rfl (lv_at hl 2 rfl) ?_
    refine va_calli (va_runV (As := [.int p2]) (rest := []) ⟨hx, hb, hml, hown, hts⟩ (sX12_isTime l dC dI h0 mi mr km fm_trust fm_letter fm_reportPlace fm_reportKind fm_struck fm_reportMonth fm_reportDay fm_reportKnown fm_deedMonth fm_deedDay fm_deedLong fm_deedKind fm_kept fm_tape fm_must fm_least fm_pin fm_ways fm_verdict fm_row fm_official fm_aside fm_worth fm_out p2 gmi_0 gmi_1 gmi_2 gmi_4 gmi_7 gmi_10 gmi_17 gmi_23 gmi_24 gmi_26 gmi_29 gmi_30 gmi_33 gmi_37 gmi_41 gmi_50 gmi_51 gmi_56) (cwV 1 hts (gz_gV mGB_256 mGB_257 mGB_258 mGB_1 mGB_259 goodGB) rfl rfl rfl (by decide +kernel) ⟨Nat.le_of_ble_eq_true rfl, Nat.le_of_ble_eq_true rfl⟩) ⟨bl_R, mw_recv hK hP, fun U hU hW => ⟨rfl, by rw [hU]; exact hP, va_K.moved hW.alike hK⟩⟩ rfl rfl hl.1 rfl (lv_room (Nat.le_of_ble_eq_true rfl)) dX12_moved_10 ⟨Nat.zero_le _, Nat.zero_le _⟩) hS (fun q _ h => h.elim) (fun q h => h.elim) (fun r_82 u t H1 locs ht hvm hw hB hz1 hk1 hS => ?_)
    obtain ⟨hw, hE⟩ := hw
    have hP := gz_keep hP hk1
    generalize H1 = H at hP hS ⊢
    have gr_82 : gi r_82 0 1 := hw.1
    have hqr_82 := hw.2
    refine lv_if_eq (tgt := 24) hx hb dX12_moved_13 (by decide) (fun c_83 => ?_) (fun c_83 => ?_)
    · have g_84 : gi r_82 0 0 := gi_eq c_83 (gi_c 0 0 (by decide))
      refine lv_sipush (v := (-2000)) hx hb dX12_moved_24 (by decide) ?_
      exact W.iret (v := (-2000)) hx hb hr (fun t ht hW => ⟨⟨(-2000), (), rfl, (gi_any (-2000)), (mi 37), (mi 41), fm_must, fm_least, fm_pin, fm_ways, fm_verdict, fm_row, fm_official, gmi_37, gmi_41, gfm_row, by rw [ht]; exact hP, hD⟩, hS.F ht⟩) hS.2.2 dX12_moved_27
    · have g_85 : gi r_82 1 1 := gi_ne_lo c_83 gr_82 (gi_c 0 0 (by decide)) (by decide)
      have g_86 : gi p2 0 999 := gi_cap (gi_any p2) (hqr_82 (gz_one g_85)) (by decide)
      refine lv_aload_n hx hb dX12_moved_16 rfl (lv_at hl 0 rfl) ?_
      refine lv_iload_n hx hb dX12_moved_17 rfl (lv_at hl 3 rfl) ?_
      refine va_calli (va_runV (As := [.int p3]) (rest := []) ⟨hx, hb, hml, hown, hts⟩ (sX12_isBegin l dC dI h0 mi mr km fm_trust fm_letter fm_reportPlace fm_reportKind fm_struck fm_reportMonth fm_reportDay fm_reportKnown fm_deedMonth fm_deedDay fm_deedLong fm_deedKind fm_kept fm_tape fm_must fm_least fm_pin fm_ways fm_verdict fm_row fm_official fm_aside fm_worth fm_out p3 gmi_0 gmi_1 gmi_2 gmi_4 gmi_7 gmi_10 gmi_17 gmi_23 gmi_24 gmi_26 gmi_29 gmi_30 gmi_33 gmi_37 gmi_41 gmi_50 gmi_51 gmi_56) (cwV 1 hts (gz_gV mGB_354 mGB_355 mGB_356 mGB_1 mGB_357 goodGB) rfl rfl rfl (by decide +kernel) ⟨Nat.le_of_ble_eq_true rfl, Nat.le_of_ble_eq_true rfl⟩) ⟨bl_R, mw_recv hK hP, fun U hU hW => ⟨rfl, by rw [hU]; exact hP, va_K.moved hW.alike hK⟩⟩ rfl rfl hl.1 rfl (lv_room (Nat.le_of_ble_eq_true rfl)) dX12_moved_18 ⟨Nat.zero_le _, Nat.zero_le _⟩) hS (fun q _ h => h.elim) (fun q h => h.elim) (fun r_87 u t H1 locs ht hvm hw hB hz1 hk1 hS => ?_)
      have hP := gz_keep hP hk1
      generalize H1 = H at hP hS ⊢
      have gr_87 : gi r_87 0 1 := hw.1
      have hqr_87 := hw.2
      refine lv_if_ne (tgt := 28) hx hb dX12_moved_21 (by decide) (fun c_88 => ?_) (fun c_88 => ?_)
      · have g_89 : gi r_87 1 1 := gi_ne_lo c_88 gr_87 (gi_c 0 0 (by decide)) (by decide)
        have g_90 : gi p3 0 24 := gi_cap (gi_any p3) (hqr_87 (gz_one g_89)) (by decide)
        refine lv_aload_n hx hb dX12_moved_28 rfl (lv_at hl 0 rfl) ?_
        refine lv_iload_n hx hb dX12_moved_29 rfl (lv_at hl 2 rfl) ?_
        have hFc := gz_fullF hD hS hA
        refine va_callv (va_runV (As := [.int p2]) (rest := []) ⟨hx, hb, hml, hown, hts⟩ (sX12_officialBy l dC dI H.size h0 mi mr km fm_must fm_least fm_pin fm_ways fm_verdict fm_row fm_struck fm_reportKnown fm_reportPlace fm_reportMonth fm_reportDay fm_reportKind fm_trust fm_letter fm_official fm_deedMonth fm_deedDay fm_deedLong fm_deedKind fm_kept fm_tape fm_aside fm_worth fm_out p2 gmi_0 gmi_1 gmi_2 gmi_4 gmi_7 gmi_10 gmi_17 gmi_23 gmi_24 gmi_26 gmi_29 gmi_30 gmi_33 gmi_37 gmi_41 gmi_50 gmi_51 gmi_56 gfm_row gfm_struck gfm_reportKnown gfm_reportPlace gfm_reportMonth gfm_reportDay) (cwV 1 hts (gz_gV mGB_358 mGB_359 mGB_360 mGB_1 mGB_361 goodGB) rfl rfl rfl (by decide +kernel) ⟨Nat.le_of_ble_eq_true rfl, Nat.le_of_ble_eq_true rfl⟩) ⟨bl_W, mw_recv hK hP, fun U hU hW => ⟨rfl, by rw [hU], by rw [hU]; exact hP, va_K.moved hW.alike hK, hD.weaken (fun _ _ _ _ => trivial)⟩⟩ rfl rfl hl.1 rfl (lv_room (Nat.le_of_ble_eq_true rfl)) dX12_moved_30 ⟨Nat.zero_le _, Nat.zero_le _⟩) hS (fun q _ h => hFc q h) hFc (fun u t H1 locs ht hvm hw hB hz1 hk1 hS => ?_)
        obtain ⟨y_92, y_93, f_94, f_95, f_96, f_97, f_98, f_99, f_100, hB⟩ := hB
        obtain ⟨gy_92, gy_93, gf_99, hP1, hD1⟩ := hB
        rw [ht] at hP1
        have hD : va_D A (MWn h0 mr km (mi 0) (mi 1) (mi 2) (mi 3) (mi 4) (mi 5) (mi 6) (mi 7) (mi 10) (mi 17) (mi 23) (mi 24) (mi 26) (mi 27) (mi 28) (mi 29) (mi 30) (mi 31) (mi 32) (mi 33) y_92 y_93 (mi 42) (mi 43) (mi 44) (mi 45) (mi 47) (mi 48) (mi 49) (mi 50) (mi 51) (mi 54) (mi 56) fm_trust fm_letter fm_reportPlace fm_reportKind fm_struck fm_reportMonth fm_reportDay fm_reportKnown fm_deedMonth fm_deedDay fm_deedLong fm_deedKind fm_kept fm_tape f_94 f_95 f_96 f_97 f_98 f_99 f_100 fm_aside fm_worth fm_out) := gz_fullD hFc hD1
        have hP : va_P (dC, dI) vwCl (MWn h0 mr km (mi 0) (mi 1) (mi 2) (mi 3) (mi 4) (mi 5) (mi 6) (mi 7) (mi 10) (mi 17) (mi 23) (mi 24) (mi 26) (mi 27) (mi 28) (mi 29) (mi 30) (mi 31) (mi 32) (mi 33) y_92 y_93 (mi 42) (mi 43) (mi 44) (mi 45) (mi 47) (mi 48) (mi 49) (mi 50) (mi 51) (mi 54) (mi 56) fm_trust fm_letter fm_reportPlace fm_reportKind fm_struck fm_reportMonth fm_reportDay fm_reportKnown fm_deedMonth fm_deedDay fm_deedLong fm_deedKind fm_kept fm_tape f_94 f_95 f_96 f_97 f_98 f_99 f_100 fm_aside fm_worth fm_out) H1 := hP1
        generalize H1 = H at hP hS ⊢
        refine lv_aload_n hx hb dX12_moved_33 rfl (lv_at hl 0 rfl) ?_
        refine va_get (D := (dC, dI)) (ci := 12) (v := .ref (mr 20)) (C := RX12) (T := TX12) (N := 57) hx hb hts (fun w h => List.mem_cons_of_mem _ (jnGB_X12 w h)) hown hK hP 0 rfl rfl 46 (by decide) (hts _ (List.mem_cons_of_mem _ mGB_36)) (fun _ h9 => h9) rfl dX12_moved_34 ?_
        refine lv_iload_n hx hb dX12_moved_37 rfl (lv_at hl 3 rfl) ?_
        refine va_iald hx hb hK hP 21 20 rfl rfl (gi_in g_90 (by decide)) dX12_moved_38 ?_
        refine lv_topi (fun x_101 ex_101 => ?_)
        refine lv_istore (lv' := [(4, .int x_101), (0, .ref h0), (1, .int p1), (2, .int p2), (3, .int p3)]) hx hb dX12_moved_39 hl (by decide) rfl (fun ls hl => ?_)
        refine lv_aload_n hx hb dX12_moved_41 rfl (lv_at hl 1 rfl) ?_
        refine lv_iload_n hx hb dX12_moved_42 rfl (lv_at hl 2 rfl) ?_
        have hFc := gz_fullF hD hS hA
        refine va_callv (va_runV (As := [.int p1]) (rest := []) ⟨hx, hb, hml, hown, hts⟩ (sX12_officialBy l dC dI H.size h0 (upd (upd mi 37 y_92) 41 y_93) mr km f_94 f_95 f_96 f_97 f_98 f_99 fm_struck fm_reportKnown fm_reportPlace fm_reportMonth fm_reportDay fm_reportKind fm_trust fm_letter f_100 fm_deedMonth fm_deedDay fm_deedLong fm_deedKind fm_kept fm_tape fm_aside fm_worth fm_out p1 gmi_0 gmi_1 gmi_2 gmi_4 gmi_7 gmi_10 gmi_17 gmi_23 gmi_24 gmi_26 gmi_29 gmi_30 gmi_33 gy_92 gy_93 gmi_50 gmi_51 gmi_56 gf_99 gfm_struck gfm_reportKnown gfm_reportPlace gfm_reportMonth gfm_reportDay) (cwV 1 hts (gz_gV mGB_358 mGB_359 mGB_360 mGB_1 mGB_361 goodGB) rfl rfl rfl (by decide +kernel) ⟨Nat.le_of_ble_eq_true rfl, Nat.le_of_ble_eq_true rfl⟩) ⟨bl_W, mw_recv hK hP, fun U hU hW => ⟨rfl, by rw [hU], by rw [hU]; exact hP, va_K.moved hW.alike hK, hD.weaken (fun _ _ _ _ => trivial)⟩⟩ rfl rfl hl.1 rfl (lv_room (Nat.le_of_ble_eq_true rfl)) dX12_moved_43 ⟨Nat.zero_le _, Nat.zero_le _⟩) hS (fun q _ h => hFc q h) hFc (fun u t H1 locs ht hvm hw hB hz1 hk1 hS => ?_)
        obtain ⟨y_103, y_104, f_105, f_106, f_107, f_108, f_109, f_110, f_111, hB⟩ := hB
        obtain ⟨gy_103, gy_104, gf_110, hP1, hD1⟩ := hB
        rw [ht] at hP1
        have hD : va_D A (MWn h0 mr km (mi 0) (mi 1) (mi 2) (mi 3) (mi 4) (mi 5) (mi 6) (mi 7) (mi 10) (mi 17) (mi 23) (mi 24) (mi 26) (mi 27) (mi 28) (mi 29) (mi 30) (mi 31) (mi 32) (mi 33) y_103 y_104 (mi 42) (mi 43) (mi 44) (mi 45) (mi 47) (mi 48) (mi 49) (mi 50) (mi 51) (mi 54) (mi 56) fm_trust fm_letter fm_reportPlace fm_reportKind fm_struck fm_reportMonth fm_reportDay fm_reportKnown fm_deedMonth fm_deedDay fm_deedLong fm_deedKind fm_kept fm_tape f_105 f_106 f_107 f_108 f_109 f_110 f_111 fm_aside fm_worth fm_out) := gz_fullD hFc hD1
        have hP : va_P (dC, dI) vwCl (MWn h0 mr km (mi 0) (mi 1) (mi 2) (mi 3) (mi 4) (mi 5) (mi 6) (mi 7) (mi 10) (mi 17) (mi 23) (mi 24) (mi 26) (mi 27) (mi 28) (mi 29) (mi 30) (mi 31) (mi 32) (mi 33) y_103 y_104 (mi 42) (mi 43) (mi 44) (mi 45) (mi 47) (mi 48) (mi 49) (mi 50) (mi 51) (mi 54) (mi 56) fm_trust fm_letter fm_reportPlace fm_reportKind fm_struck fm_reportMonth fm_reportDay fm_reportKnown fm_deedMonth fm_deedDay fm_deedLong fm_deedKind fm_kept fm_tape f_105 f_106 f_107 f_108 f_109 f_110 f_111 fm_aside fm_worth fm_out) H1 := hP1
        generalize H1 = H at hP hS ⊢
        refine lv_iload hx hb dX12_moved_46 (lv_at hl 0 rfl) ?_
        refine lv_aload_n hx hb dX12_moved_48 rfl (lv_at hl 1 rfl) ?_
        refine va_get (D := (dC, dI)) (ci := 12) (v := .ref (mr 20)) (C := RX12) (T := TX12) (N := 57) hx hb hts (fun w h => List.mem_cons_of_mem _ (jnGB_X12 w h)) hown hK hP 0 rfl rfl 46 (by decide) (hts _ (List.mem_cons_of_mem _ mGB_36)) (fun _ h9 => h9) rfl dX12_moved_49 ?_
        refine lv_iload_n hx hb dX12_moved_52 rfl (lv_at hl 4 rfl) ?_
        refine va_iald hx hb hK hP 21 20 rfl rfl (gi_in g_90 (by decide)) dX12_moved_53 ?_
        refine lv_topi (fun x_112 ex_112 => ?_)
        refine lv_isub hx hb dX12_moved_54 ?_
        refine lv_topi (fun x_113 ex_113 => ?_)
        exact W.iret (v := x_113) hx hb hr (fun t ht hW => ⟨⟨x_113, (), rfl, (gi_any x_113), y_103, y_104, f_105, f_106, f_107, f_108, f_109, f_110, f_111, gy_103, gy_104, gf_110, by rw [ht]; exact hP, hD⟩, hS.F ht⟩) hS.2.2 dX12_moved_55
      · have g_114 : gi r_87 0 0 := gi_eq c_88 (gi_c 0 0 (by decide))
        refine lv_sipush (v := (-2000)) hx hb dX12_moved_24 (by decide) ?_
        exact W.iret (v := (-2000)) hx hb hr (fun t ht hW => ⟨⟨(-2000), (), rfl, (gi_any (-2000)), (mi 37), (mi 41), fm_must, fm_least, fm_pin, fm_ways, fm_verdict, fm_row, fm_official, gmi_37, gmi_41, gfm_row, by rw [ht]; exact hP, hD⟩, hS.F ht⟩) hS.2.2 dX12_moved_27
theorem dX12_keepsOfficial_0 : decode cX12_keepsOfficial 0 = .ok (.iconst 0, 1) := by decide +kernel
theorem dX12_keepsOfficial_1 : decode cX12_keepsOfficial 1 = .ok (.istore_n 1, 1) := by decide +kernel
theorem dX12_keepsOfficial_2 : decode cX12_keepsOfficial 2 = .ok (.iload_n 1, 1) := by decide +kernel
theorem dX12_keepsOfficial_3 : decode cX12_keepsOfficial 3 = .ok (.bipush 24, 2) := by decide +kernel
theorem dX12_keepsOfficial_5 : decode cX12_keepsOfficial 5 = .ok (.if_icmp .gt 21, 3) := by decide +kernel
theorem dX12_keepsOfficial_8 : decode cX12_keepsOfficial 8 = .ok (.aload_n 0, 1) := by decide +kernel
theorem dX12_keepsOfficial_9 : decode cX12_keepsOfficial 9 = .ok (.getfield 90, 3) := by decide +kernel
theorem dX12_keepsOfficial_12 : decode cX12_keepsOfficial 12 = .ok (.iload_n 1, 1) := by decide +kernel
theorem dX12_keepsOfficial_13 : decode cX12_keepsOfficial 13 = .ok (.aload_n 0, 1) := by decide +kernel
theorem dX12_keepsOfficial_14 : decode cX12_keepsOfficial 14 = .ok (.getfield 87, 3) := by decide +kernel
theorem dX12_keepsOfficial_17 : decode cX12_keepsOfficial 17 = .ok (.iload_n 1, 1) := by decide +kernel
theorem dX12_keepsOfficial_18 : decode cX12_keepsOfficial 18 = .ok (.iaload, 1) := by decide +kernel
theorem dX12_keepsOfficial_19 : decode cX12_keepsOfficial 19 = .ok (.iastore, 1) := by decide +kernel
theorem dX12_keepsOfficial_20 : decode cX12_keepsOfficial 20 = .ok (.iinc 1 1, 3) := by decide +kernel
theorem dX12_keepsOfficial_23 : decode cX12_keepsOfficial 23 = .ok (.goto (-21), 3) := by decide +kernel
theorem dX12_keepsOfficial_26 : decode cX12_keepsOfficial 26 = .ok (.return_, 1) := by decide +kernel
set_option maxHeartbeats 4000000 in
set_option maxRecDepth 100000 in
theorem lp_sX12_keepsOfficial {p : Program} {l : Launch} {e : Env} {R : Room} {s : State} {m : MethodId} {args : Array Value} {below : List Frame} {meth : Method} {c : Code} {Q : State → Prop} {A : Nat → Prop} {cells slots : Nat} {dC : Nat → ClassId} {dI : Nat → Nat → Nat} (h0 : Nat) (mi : Nat → Int32) (mr : Nat → Nat) (km : Nat → ClassId) (fm_official : Nat → Int32) (fm_aside : Nat → Int32) (fm_trust : Nat → Int32) (fm_letter : Nat → Int32) (fm_reportPlace : Nat → Int32) (fm_reportKind : Nat → Int32) (fm_struck : Nat → Int32) (fm_reportMonth : Nat → Int32) (fm_reportDay : Nat → Int32) (fm_reportKnown : Nat → Int32) (fm_deedMonth : Nat → Int32) (fm_deedDay : Nat → Int32) (fm_deedLong : Nat → Int32) (fm_deedKind : Nat → Int32) (fm_kept : Nat → Int32) (fm_tape : Nat → Int32) (fm_must : Nat → Int32) (fm_least : Nat → Int32) (fm_pin : Nat → Int32) (fm_ways : Nat → Int32) (fm_verdict : Nat → Int32) (fm_row : Nat → Int32) (fm_worth : Nat → Int32) (fm_out : Nat → Int32) (gmi_0 : gi (mi 0) 0 24) (gmi_1 : gi (mi 1) 0 5) (gmi_2 : gi (mi 2) 0 5) (gmi_4 : gi (mi 4) 0 1) (gmi_7 : gi (mi 7) 0 6) (gmi_10 : gi (mi 10) 0 24) (gmi_17 : gi (mi 17) 0 8) (gmi_23 : gi (mi 23) 0 300) (gmi_24 : gi (mi 24) 0 1) (gmi_26 : gi (mi 26) 0 1600) (gmi_29 : gi (mi 29) 0 1600) (gmi_30 : gi (mi 30) 0 1600) (gmi_33 : gi (mi 33) 0 1) (gmi_37 : gi (mi 37) 0 1) (gmi_41 : gi (mi 41) 0 24) (gmi_50 : gi (mi 50) 0 1) (gmi_51 : gi (mi 51) 0 1) (gmi_56 : gi (mi 56) 0 80) (hx : p.tables.exec = Jvm.exec) (hb : c.code = cX12_keepsOfficial) (hml : c.maxLocals = 2) (hown : s.vm.findClass RX12 = some m.cls) (hts : ∀ w ∈ ((.code yX12_keepsOfficial cX12_keepsOfficial 2 none :: wsGB) : List Cond), w.before args s = true) (hK : va_K (dC, dI) vwCl (MT km) s) (hA : ∀ q : Nat, s.heap.size ≤ q → A q) (hRf : 0 ≤ R.frames) (hRl : 0 ≤ R.locals) (hRc : cells ≤ R.cells) (hRs : slots ≤ R.slots) (kr26 : ∀ (z2 : Nat → Int32) (H : Heap) (locs : List Loc) (ls : Array Slot), va_P (dC, dI) vwCl (MWn h0 mr km (mi 0) (mi 1) (mi 2) (mi 3) (mi 4) (mi 5) (mi 6) (mi 7) (mi 10) (mi 17) (mi 23) (mi 24) (mi 26) (mi 27) (mi 28) (mi 29) (mi 30) (mi 31) (mi 32) (mi 33) (mi 37) (mi 41) (mi 42) (mi 43) (mi 44) (mi 45) (mi 47) (mi 48) (mi 49) (mi 50) (mi 51) (mi 54) (mi 56) fm_trust fm_letter fm_reportPlace fm_reportKind fm_struck fm_reportMonth fm_reportDay fm_reportKnown fm_deedMonth fm_deedDay fm_deedLong fm_deedKind fm_kept fm_tape fm_must fm_least fm_pin fm_ways fm_verdict fm_row fm_official z2 fm_worth fm_out) H → va_D A (MWn h0 mr km (mi 0) (mi 1) (mi 2) (mi 3) (mi 4) (mi 5) (mi 6) (mi 7) (mi 10) (mi 17) (mi 23) (mi 24) (mi 26) (mi 27) (mi 28) (mi 29) (mi 30) (mi 31) (mi 32) (mi 33) (mi 37) (mi 41) (mi 42) (mi 43) (mi 44) (mi 45) (mi 47) (mi 48) (mi 49) (mi 50) (mi 51) (mi 54) (mi 56) fm_trust fm_letter fm_reportPlace fm_reportKind fm_struck fm_reportMonth fm_reportDay fm_reportKnown fm_deedMonth fm_deedDay fm_deedLong fm_deedKind fm_kept fm_tape fm_must fm_least fm_pin fm_ways fm_verdict fm_row fm_official z2 fm_worth fm_out) → va_S A s.heap H locs → lv_has ls 2 [] → W p l e R s m args below meth c H locs cells slots Q (F0 m 26 ls [])) : ∀ z : Nat, (∀ (v1 : Int32) (z2 : Nat → Int32) (H : Heap) (locs : List Loc) (ls : Array Slot), gi v1 0 25 → 51 + (-2) * v1.toInt < (z : Int) → va_P (dC, dI) vwCl (MWn h0 mr km (mi 0) (mi 1) (mi 2) (mi 3) (mi 4) (mi 5) (mi 6) (mi 7) (mi 10) (mi 17) (mi 23) (mi 24) (mi 26) (mi 27) (mi 28) (mi 29) (mi 30) (mi 31) (mi 32) (mi 33) (mi 37) (mi 41) (mi 42) (mi 43) (mi 44) (mi 45) (mi 47) (mi 48) (mi 49) (mi 50) (mi 51) (mi 54) (mi 56) fm_trust fm_letter fm_reportPlace fm_reportKind fm_struck fm_reportMonth fm_reportDay fm_reportKnown fm_deedMonth fm_deedDay fm_deedLong fm_deedKind fm_kept fm_tape fm_must fm_least fm_pin fm_ways fm_verdict fm_row fm_official z2 fm_worth fm_out) H → va_D A (MWn h0 mr km (mi 0) (mi 1) (mi 2) (mi 3) (mi 4) (mi 5) (mi 6) (mi 7) (mi 10) (mi 17) (mi 23) (mi 24) (mi 26) (mi 27) (mi 28) (mi 29) (mi 30) (mi 31) (mi 32) (mi 33) (mi 37) (mi 41) (mi 42) (mi 43) (mi 44) (mi 45) (mi 47) (mi 48) (mi 49) (mi 50) (mi 51) (mi 54) (mi 56) fm_trust fm_letter fm_reportPlace fm_reportKind fm_struck fm_reportMonth fm_reportDay fm_reportKnown fm_deedMonth fm_deedDay fm_deedLong fm_deedKind fm_kept fm_tape fm_must fm_least fm_pin fm_ways fm_verdict fm_row fm_official z2 fm_worth fm_out) → va_S A s.heap H locs → lv_has ls 2 [(0, .ref h0), (1, .int v1)] → W p l e R s m args below meth c H locs cells slots Q (F0 m 2 ls [])) := by
  intro z
  induction z with
  | zero =>
    intro v1 z2 H locs ls gv1 hmu hP hD hS hl
    exact absurd hmu (by have hv11 := gv1.1; have hv12 := gv1.2; omega)
  | succ z ih =>
      intro v1 z2 H locs ls gv1 hmu hP hD hS hl
      refine lv_iload_n hx hb dX12_keepsOfficial_2 rfl (lv_at hl 1 rfl) ?_
      refine lv_bipush (v := 24) hx hb dX12_keepsOfficial_3 (by decide) ?_
      refine lv_icmp_gt (tgt := 26) hx hb dX12_keepsOfficial_5 (by decide) (fun c_67 => ?_) (fun c_67 => ?_)
      · have g_68 : gi v1 25 25 := gi_lt_r c_67 (gi_c 24 24 (by decide)) gv1 (by decide)
        exact kr26 z2 _ _ _ hP hD hS (lv_sub hl [] rfl)
      · have g_69 : gi v1 0 24 := gi_le_l (Int32.not_lt.mp c_67) gv1 (gi_c 24 24 (by decide))
        refine lv_aload_n hx hb dX12_keepsOfficial_8 rfl (lv_at hl 0 rfl) ?_
        refine va_get (D := (dC, dI)) (ci := 12) (v := .ref (mr 21)) (C := RX12) (T := TX12) (N := 57) hx hb hts (fun w h => List.mem_cons_of_mem _ (jnGB_X12 w h)) hown hK hP 0 rfl rfl 52 (by decide) (hts _ (List.mem_cons_of_mem _ mGB_37)) (fun _ h9 => h9) rfl dX12_keepsOfficial_9 ?_
        refine lv_iload_n hx hb dX12_keepsOfficial_12 rfl (lv_at hl 1 rfl) ?_
        refine lv_aload_n hx hb dX12_keepsOfficial_13 rfl (lv_at hl 0 rfl) ?_
        refine va_get (D := (dC, dI)) (ci := 12) (v := .ref (mr 20)) (C := RX12) (T := TX12) (N := 57) hx hb hts (fun w h => List.mem_cons_of_mem _ (jnGB_X12 w h)) hown hK hP 0 rfl rfl 46 (by decide) (hts _ (List.mem_cons_of_mem _ mGB_36)) (fun _ h9 => h9) rfl dX12_keepsOfficial_14 ?_
        refine lv_iload_n hx hb dX12_keepsOfficial_17 rfl (lv_at hl 1 rfl) ?_
        refine va_iald hx hb hK hP 21 20 rfl rfl (gi_in g_69 (by decide)) dX12_keepsOfficial_18 ?_
        refine lv_topi (fun x_70 ex_70 => ?_)
        refine va_iast hx hb hK hP hD hS 22 21 rfl rfl (gi_in g_69 (by decide)) dX12_keepsOfficial_19 (fun H locs hP hD hS => ?_)
        have hP : va_P (dC, dI) vwCl (MWn h0 mr km (mi 0) (mi 1) (mi 2) (mi 3) (mi 4) (mi 5) (mi 6) (mi 7) (mi 10) (mi 17) (mi 23) (mi 24) (mi 26) (mi 27) (mi 28) (mi 29) (mi 30) (mi 31) (mi 32) (mi 33) (mi 37) (mi 41) (mi 42) (mi 43) (mi 44) (mi 45) (mi 47) (mi 48) (mi 49) (mi 50) (mi 51) (mi 54) (mi 56) fm_trust fm_letter fm_reportPlace fm_reportKind fm_struck fm_reportMonth fm_reportDay fm_reportKnown fm_deedMonth fm_deedDay fm_deedLong fm_deedKind fm_kept fm_tape fm_must fm_least fm_pin fm_ways fm_verdict fm_row fm_official (upd z2 (v1 : Int32).toNatClampNeg x_70) fm_worth fm_out) H := hP
        have hD : va_D A (MWn h0 mr km (mi 0) (mi 1) (mi 2) (mi 3) (mi 4) (mi 5) (mi 6) (mi 7) (mi 10) (mi 17) (mi 23) (mi 24) (mi 26) (mi 27) (mi 28) (mi 29) (mi 30) (mi 31) (mi 32) (mi 33) (mi 37) (mi 41) (mi 42) (mi 43) (mi 44) (mi 45) (mi 47) (mi 48) (mi 49) (mi 50) (mi 51) (mi 54) (mi 56) fm_trust fm_letter fm_reportPlace fm_reportKind fm_struck fm_reportMonth fm_reportDay fm_reportKnown fm_deedMonth fm_deedDay fm_deedLong fm_deedKind fm_kept fm_tape fm_must fm_least fm_pin fm_ways fm_verdict fm_row fm_official (upd z2 (v1 : Int32).toNatClampNeg x_70) fm_worth fm_out) := hD
        generalize upd z2 (v1 : Int32).toNatClampNeg x_70 = f_71 at hP hD
        obtain ⟨x_72, ex_72⟩ : ∃ y : Int32, y = v1 + 1 := ⟨_, rfl⟩
        have gx_72 : gi x_72 1 25 := gi_add ex_72 g_69 (gi_c 1 1 (by decide)) (by decide)
        refine lv_iinc (v := x_72) (lv' := [(1, .int x_72), (0, .ref h0)]) hx hb dX12_keepsOfficial_20 hl (k := 1) rfl (by rw [ex_72]; rfl) (by decide) rfl (fun ls hl => ?_)
        refine lv_goto (tgt := 2) hx hb dX12_keepsOfficial_23 (by decide) ?_
        exact ih x_72 f_71 _ _ _ (gi_w gx_72 (by decide)) (by have av1 := gv1.1; have bv1 := gv1.2; have qgx_72 := gx_72.1; have rgx_72 := gx_72.2; have igx_72 : x_72.toInt = v1.toInt + 1 := (by have hc1 : (1 : Int32).toInt = 1 := (by decide); have h9 := gi_addI ex_72 (by have h1 := g_69.1; have h2 := (gi_c 1 1 (by decide)).1; have h3 := g_69.2; have h4 := (gi_c 1 1 (by decide)).2; omega) (by have h1 := g_69.1; have h2 := (gi_c 1 1 (by decide)).1; have h3 := g_69.2; have h4 := (gi_c 1 1 (by decide)).2; omega); rw [hc1] at h9; exact h9); have qgv1 := g_69.1; have rgv1 := g_69.2; omega) hP hD hS (lv_sub hl [1, 0] rfl)
abbrev pb_sX12_keepsOfficial (dC : Nat → ClassId) (dI : Nat → Nat → Nat) (A9 : Nat → Prop) (h0 : Nat) (mi : Nat → Int32) (mr : Nat → Nat) (km : Nat → ClassId) (fm_official : Nat → Int32) (fm_aside : Nat → Int32) (fm_trust : Nat → Int32) (fm_letter : Nat → Int32) (fm_reportPlace : Nat → Int32) (fm_reportKind : Nat → Int32) (fm_struck : Nat → Int32) (fm_reportMonth : Nat → Int32) (fm_reportDay : Nat → Int32) (fm_reportKnown : Nat → Int32) (fm_deedMonth : Nat → Int32) (fm_deedDay : Nat → Int32) (fm_deedLong : Nat → Int32) (fm_deedKind : Nat → Int32) (fm_kept : Nat → Int32) (fm_tape : Nat → Int32) (fm_must : Nat → Int32) (fm_least : Nat → Int32) (fm_pin : Nat → Int32) (fm_ways : Nat → Int32) (fm_verdict : Nat → Int32) (fm_row : Nat → Int32) (fm_worth : Nat → Int32) (fm_out : Nat → Int32) (z2 : Nat → Int32) (t : State) : Prop := va_P (dC, dI) vwCl (MWn h0 mr km (mi 0) (mi 1) (mi 2) (mi 3) (mi 4) (mi 5) (mi 6) (mi 7) (mi 10) (mi 17) (mi 23) (mi 24) (mi 26) (mi 27) (mi 28) (mi 29) (mi 30) (mi 31) (mi 32) (mi 33) (mi 37) (mi 41) (mi 42) (mi 43) (mi 44) (mi 45) (mi 47) (mi 48) (mi 49) (mi 50) (mi 51) (mi 54) (mi 56) fm_trust fm_letter fm_reportPlace fm_reportKind fm_struck fm_reportMonth fm_reportDay fm_reportKnown fm_deedMonth fm_deedDay fm_deedLong fm_deedKind fm_kept fm_tape fm_must fm_least fm_pin fm_ways fm_verdict fm_row fm_official z2 fm_worth fm_out) t.heap ∧ va_D A9 (MWn h0 mr km (mi 0) (mi 1) (mi 2) (mi 3) (mi 4) (mi 5) (mi 6) (mi 7) (mi 10) (mi 17) (mi 23) (mi 24) (mi 26) (mi 27) (mi 28) (mi 29) (mi 30) (mi 31) (mi 32) (mi 33) (mi 37) (mi 41) (mi 42) (mi 43) (mi 44) (mi 45) (mi 47) (mi 48) (mi 49) (mi 50) (mi 51) (mi 54) (mi 56) fm_trust fm_letter fm_reportPlace fm_reportKind fm_struck fm_reportMonth fm_reportDay fm_reportKnown fm_deedMonth fm_deedDay fm_deedLong fm_deedKind fm_kept fm_tape fm_must fm_least fm_pin fm_ways fm_verdict fm_row fm_official z2 fm_worth fm_out)
set_option maxHeartbeats 4000000 in
set_option maxRecDepth 100000 in
theorem sX12_keepsOfficial (l : Launch) (dC : Nat → ClassId) (dI : Nat → Nat → Nat) (sz : Nat) (h0 : Nat) (mi : Nat → Int32) (mr : Nat → Nat) (km : Nat → ClassId) (fm_official : Nat → Int32) (fm_aside : Nat → Int32) (fm_trust : Nat → Int32) (fm_letter : Nat → Int32) (fm_reportPlace : Nat → Int32) (fm_reportKind : Nat → Int32) (fm_struck : Nat → Int32) (fm_reportMonth : Nat → Int32) (fm_reportDay : Nat → Int32) (fm_reportKnown : Nat → Int32) (fm_deedMonth : Nat → Int32) (fm_deedDay : Nat → Int32) (fm_deedLong : Nat → Int32) (fm_deedKind : Nat → Int32) (fm_kept : Nat → Int32) (fm_tape : Nat → Int32) (fm_must : Nat → Int32) (fm_least : Nat → Int32) (fm_pin : Nat → Int32) (fm_ways : Nat → Int32) (fm_verdict : Nat → Int32) (fm_row : Nat → Int32) (fm_worth : Nat → Int32) (fm_out : Nat → Int32) (gmi_0 : gi (mi 0) 0 24) (gmi_1 : gi (mi 1) 0 5) (gmi_2 : gi (mi 2) 0 5) (gmi_4 : gi (mi 4) 0 1) (gmi_7 : gi (mi 7) 0 6) (gmi_10 : gi (mi 10) 0 24) (gmi_17 : gi (mi 17) 0 8) (gmi_23 : gi (mi 23) 0 300) (gmi_24 : gi (mi 24) 0 1) (gmi_26 : gi (mi 26) 0 1600) (gmi_29 : gi (mi 29) 0 1600) (gmi_30 : gi (mi 30) 0 1600) (gmi_33 : gi (mi 33) 0 1) (gmi_37 : gi (mi 37) 0 1) (gmi_41 : gi (mi 41) 0 24) (gmi_50 : gi (mi 50) 0 1) (gmi_51 : gi (mi 51) 0 1) (gmi_56 : gi (mi 56) 0 80) : Met l yX12_keepsOfficial (.code yX12_keepsOfficial cX12_keepsOfficial 2 none :: wsGB) ({ frames := 0, cells := 0, slots := 0, locals := 0 }) (va_Pc [.ref h0] (fun U => U.heap.size = sz ∧ va_P (dC, dI) vwCl (MWn h0 mr km (mi 0) (mi 1) (mi 2) (mi 3) (mi 4) (mi 5) (mi 6) (mi 7) (mi 10) (mi 17) (mi 23) (mi 24) (mi 26) (mi 27) (mi 28) (mi 29) (mi 30) (mi 31) (mi 32) (mi 33) (mi 37) (mi 41) (mi 42) (mi 43) (mi 44) (mi 45) (mi 47) (mi 48) (mi 49) (mi 50) (mi 51) (mi 54) (mi 56) fm_trust fm_letter fm_reportPlace fm_reportKind fm_struck fm_reportMonth fm_reportDay fm_reportKnown fm_deedMonth fm_deedDay fm_deedLong fm_deedKind fm_kept fm_tape fm_must fm_least fm_pin fm_ways fm_verdict fm_row fm_official fm_aside fm_worth fm_out) U.heap ∧ va_K (dC, dI) vwCl (MT km) U ∧ va_D (fun _ => True) (MWn h0 mr km (mi 0) (mi 1) (mi 2) (mi 3) (mi 4) (mi 5) (mi 6) (mi 7) (mi 10) (mi 17) (mi 23) (mi 24) (mi 26) (mi 27) (mi 28) (mi 29) (mi 30) (mi 31) (mi 32) (mi 33) (mi 37) (mi 41) (mi 42) (mi 43) (mi 44) (mi 45) (mi 47) (mi 48) (mi 49) (mi 50) (mi 51) (mi 54) (mi 56) fm_trust fm_letter fm_reportPlace fm_reportKind fm_struck fm_reportMonth fm_reportDay fm_reportKnown fm_deedMonth fm_deedDay fm_deedLong fm_deedKind fm_kept fm_tape fm_must fm_least fm_pin fm_ways fm_verdict fm_row fm_official fm_aside fm_worth fm_out))) (va_Qv (fun (u : Unit) => True) (fun _ t => ∃ (z2 : Nat → Int32), pb_sX12_keepsOfficial dC dI (va_A (MWn h0 mr km (mi 0) (mi 1) (mi 2) (mi 3) (mi 4) (mi 5) (mi 6) (mi 7) (mi 10) (mi 17) (mi 23) (mi 24) (mi 26) (mi 27) (mi 28) (mi 29) (mi 30) (mi 31) (mi 32) (mi 33) (mi 37) (mi 41) (mi 42) (mi 43) (mi 44) (mi 45) (mi 47) (mi 48) (mi 49) (mi 50) (mi 51) (mi 54) (mi 56) fm_trust fm_letter fm_reportPlace fm_reportKind fm_struck fm_reportMonth fm_reportDay fm_reportKnown fm_deedMonth fm_deedDay fm_deedLong fm_deedKind fm_kept fm_tape fm_must fm_least fm_pin fm_ways fm_verdict fm_row fm_official fm_aside fm_worth fm_out) sz) h0 mi mr km fm_official fm_aside fm_trust fm_letter fm_reportPlace fm_reportKind fm_struck fm_reportMonth fm_reportDay fm_reportKnown fm_deedMonth fm_deedDay fm_deedLong fm_deedKind fm_kept fm_tape fm_must fm_least fm_pin fm_ways fm_verdict fm_row fm_worth fm_out z2 t) (va_A (MWn h0 mr km (mi 0) (mi 1) (mi 2) (mi 3) (mi 4) (mi 5) (mi 6) (mi 7) (mi 10) (mi 17) (mi 23) (mi 24) (mi 26) (mi 27) (mi 28) (mi 29) (mi 30) (mi 31) (mi 32) (mi 33) (mi 37) (mi 41) (mi 42) (mi 43) (mi 44) (mi 45) (mi 47) (mi 48) (mi 49) (mi 50) (mi 51) (mi 54) (mi 56) fm_trust fm_letter fm_reportPlace fm_reportKind fm_struck fm_reportMonth fm_reportDay fm_reportKnown fm_deedMonth fm_deedDay fm_deedLong fm_deedKind fm_kept fm_tape fm_must fm_least fm_pin fm_ways fm_verdict fm_row fm_official fm_aside fm_worth fm_out) sz)) 0 0 (va_A (MWn h0 mr km (mi 0) (mi 1) (mi 2) (mi 3) (mi 4) (mi 5) (mi 6) (mi 7) (mi 10) (mi 17) (mi 23) (mi 24) (mi 26) (mi 27) (mi 28) (mi 29) (mi 30) (mi 31) (mi 32) (mi 33) (mi 37) (mi 41) (mi 42) (mi 43) (mi 44) (mi 45) (mi 47) (mi 48) (mi 49) (mi 50) (mi 51) (mi 54) (mi 56) fm_trust fm_letter fm_reportPlace fm_reportKind fm_struck fm_reportMonth fm_reportDay fm_reportKnown fm_deedMonth fm_deedDay fm_deedLong fm_deedKind fm_kept fm_tape fm_must fm_least fm_pin fm_ways fm_verdict fm_row fm_official fm_aside fm_worth fm_out) sz) := by
  refine Met.ofW (cc := cX12_keepsOfficial) (maxL := 2) (ret := none) (by decide) rfl ?_
  intro p e s m args below meth c s₁ B hml hv
  obtain ⟨rfl, hsz, hP, hK, hD0⟩ := hv
  have hx := B.exec
  have hb := B.bytes
  have hr := B.returns
  have hts := atoms_spec (ws := (.code yX12_keepsOfficial cX12_keepsOfficial 2 none :: wsGB)) B.pre
  have hown : s.vm.findClass RX12 = some m.cls := findClass_of_methodNamed B.named
  have hlocks := B.notSynchronized
  subst hsz
  have hD := hD0.self (sz := s.heap.size)
  generalize hAe : va_A (MWn h0 mr km (mi 0) (mi 1) (mi 2) (mi 3) (mi 4) (mi 5) (mi 6) (mi 7) (mi 10) (mi 17) (mi 23) (mi 24) (mi 26) (mi 27) (mi 28) (mi 29) (mi 30) (mi 31) (mi 32) (mi 33) (mi 37) (mi 41) (mi 42) (mi 43) (mi 44) (mi 45) (mi 47) (mi 48) (mi 49) (mi 50) (mi 51) (mi 54) (mi 56) fm_trust fm_letter fm_reportPlace fm_reportKind fm_struck fm_reportMonth fm_reportDay fm_reportKnown fm_deedMonth fm_deedDay fm_deedLong fm_deedKind fm_kept fm_tape fm_must fm_least fm_pin fm_ways fm_verdict fm_row fm_official fm_aside fm_worth fm_out) s.heap.size = A at hD ⊢
  have hA : ∀ q : Nat, s.heap.size ≤ q → A q := fun q h => by rw [← hAe]; exact Or.inr h
  have hS : va_S A s.heap s.heap [] := va_S.rf
  have hl := lv_entry ([.ref h0]) (n := 2) (Nat.le_of_ble_eq_true rfl)
  rw [lg_entry_eq]
  generalize (lg_sl ([.ref h0]) ++ List.replicate (2 - (lg_sl ([.ref h0])).length) Slot.unset).toArray = ls at hl ⊢
  have hl : lv_has ls 2 [(0, .ref h0)] := hl
  refine lv_iconst (v := 0) hx hb dX12_keepsOfficial_0 (by decide) ?_
  refine lv_istore_n (lv' := [(1, .int 0), (0, .ref h0)]) hx hb dX12_keepsOfficial_1 rfl hl (by decide) rfl (fun ls hl => ?_)
  refine (lp_sX12_keepsOfficial h0 mi mr km fm_official fm_aside fm_trust fm_letter fm_reportPlace fm_reportKind fm_struck fm_reportMonth fm_reportDay fm_reportKnown fm_deedMonth fm_deedDay fm_deedLong fm_deedKind fm_kept fm_tape fm_must fm_least fm_pin fm_ways fm_verdict fm_row fm_worth fm_out gmi_0 gmi_1 gmi_2 gmi_4 gmi_7 gmi_10 gmi_17 gmi_23 gmi_24 gmi_26 gmi_29 gmi_30 gmi_33 gmi_37 gmi_41 gmi_50 gmi_51 gmi_56 hx hb hml hown hts hK hA (Nat.le_of_ble_eq_true rfl) (Nat.le_of_ble_eq_true rfl) (Nat.zero_le _) (Nat.zero_le _) (fun z2 H locs ls hP hD hS hl => ?_) 64) 0 fm_aside _ _ _ (gi_w (gi_c 0 0 (by decide)) (by decide)) (by have k0 : (0 : Int32).toInt = 0 := (by decide); omega) hP hD hS (lv_sub hl [1, 0] rfl)
  · skip
    exact W.vret hx hb hr (fun t ht hW => ⟨⟨(), rfl, trivial, z2, by rw [ht]; exact hP, hD⟩, hS.F ht⟩) hS.2.2 dX12_keepsOfficial_26
theorem dX12_unlike_0 : decode cX12_unlike 0 = .ok (.iconst 0, 1) := by decide +kernel
theorem dX12_unlike_1 : decode cX12_unlike 1 = .ok (.istore_n 1, 1) := by decide +kernel
theorem dX12_unlike_2 : decode cX12_unlike 2 = .ok (.iconst 1, 1) := by decide +kernel
theorem dX12_unlike_3 : decode cX12_unlike 3 = .ok (.istore_n 2, 1) := by decide +kernel
theorem dX12_unlike_4 : decode cX12_unlike 4 = .ok (.iload_n 2, 1) := by decide +kernel
theorem dX12_unlike_5 : decode cX12_unlike 5 = .ok (.aload_n 0, 1) := by decide +kernel
theorem dX12_unlike_6 : decode cX12_unlike 6 = .ok (.getfield 117, 3) := by decide +kernel
theorem dX12_unlike_9 : decode cX12_unlike 9 = .ok (.if_icmp .gt 34, 3) := by decide +kernel
theorem dX12_unlike_12 : decode cX12_unlike 12 = .ok (.iload_n 1, 1) := by decide +kernel
theorem dX12_unlike_13 : decode cX12_unlike 13 = .ok (.aload_n 0, 1) := by decide +kernel
theorem dX12_unlike_14 : decode cX12_unlike 14 = .ok (.getfield 87, 3) := by decide +kernel
theorem dX12_unlike_17 : decode cX12_unlike 17 = .ok (.iload_n 2, 1) := by decide +kernel
theorem dX12_unlike_18 : decode cX12_unlike 18 = .ok (.iaload, 1) := by decide +kernel
theorem dX12_unlike_19 : decode cX12_unlike 19 = .ok (.aload_n 0, 1) := by decide +kernel
theorem dX12_unlike_20 : decode cX12_unlike 20 = .ok (.getfield 90, 3) := by decide +kernel
theorem dX12_unlike_23 : decode cX12_unlike 23 = .ok (.iload_n 2, 1) := by decide +kernel
theorem dX12_unlike_24 : decode cX12_unlike 24 = .ok (.iaload, 1) := by decide +kernel
theorem dX12_unlike_25 : decode cX12_unlike 25 = .ok (.if_icmp .eq 9, 3) := by decide +kernel
theorem dX12_unlike_28 : decode cX12_unlike 28 = .ok (.iconst 1, 1) := by decide +kernel
theorem dX12_unlike_29 : decode cX12_unlike 29 = .ok (.iload_n 2, 1) := by decide +kernel
theorem dX12_unlike_30 : decode cX12_unlike 30 = .ok (.ishl, 1) := by decide +kernel
theorem dX12_unlike_31 : decode cX12_unlike 31 = .ok (.goto 4, 3) := by decide +kernel
theorem dX12_unlike_34 : decode cX12_unlike 34 = .ok (.iconst 0, 1) := by decide +kernel
theorem dX12_unlike_35 : decode cX12_unlike 35 = .ok (.ior, 1) := by decide +kernel
theorem dX12_unlike_36 : decode cX12_unlike 36 = .ok (.istore_n 1, 1) := by decide +kernel
theorem dX12_unlike_37 : decode cX12_unlike 37 = .ok (.iinc 2 1, 3) := by decide +kernel
theorem dX12_unlike_40 : decode cX12_unlike 40 = .ok (.goto (-36), 3) := by decide +kernel
theorem dX12_unlike_43 : decode cX12_unlike 43 = .ok (.iload_n 1, 1) := by decide +kernel
theorem dX12_unlike_44 : decode cX12_unlike 44 = .ok (.ireturn, 1) := by decide +kernel
set_option maxHeartbeats 4000000 in
set_option maxRecDepth 100000 in
theorem lp_sX12_unlike {p : Program} {l : Launch} {e : Env} {R : Room} {s : State} {m : MethodId} {args : Array Value} {below : List Frame} {meth : Method} {c : Code} {Q : State → Prop} {A : Nat → Prop} {cells slots : Nat} {dC : Nat → ClassId} {dI : Nat → Nat → Nat} (h0 : Nat) (mi : Nat → Int32) (mr : Nat → Nat) (km : Nat → ClassId) (fm_official : Nat → Int32) (fm_aside : Nat → Int32) (fm_trust : Nat → Int32) (fm_letter : Nat → Int32) (fm_reportPlace : Nat → Int32) (fm_reportKind : Nat → Int32) (fm_struck : Nat → Int32) (fm_reportMonth : Nat → Int32) (fm_reportDay : Nat → Int32) (fm_reportKnown : Nat → Int32) (fm_deedMonth : Nat → Int32) (fm_deedDay : Nat → Int32) (fm_deedLong : Nat → Int32) (fm_deedKind : Nat → Int32) (fm_kept : Nat → Int32) (fm_tape : Nat → Int32) (fm_must : Nat → Int32) (fm_least : Nat → Int32) (fm_pin : Nat → Int32) (fm_ways : Nat → Int32) (fm_verdict : Nat → Int32) (fm_row : Nat → Int32) (fm_worth : Nat → Int32) (fm_out : Nat → Int32) (gmi_0 : gi (mi 0) 0 24) (gmi_1 : gi (mi 1) 0 5) (gmi_2 : gi (mi 2) 0 5) (gmi_4 : gi (mi 4) 0 1) (gmi_7 : gi (mi 7) 0 6) (gmi_10 : gi (mi 10) 0 24) (gmi_17 : gi (mi 17) 0 8) (gmi_23 : gi (mi 23) 0 300) (gmi_24 : gi (mi 24) 0 1) (gmi_26 : gi (mi 26) 0 1600) (gmi_29 : gi (mi 29) 0 1600) (gmi_30 : gi (mi 30) 0 1600) (gmi_33 : gi (mi 33) 0 1) (gmi_37 : gi (mi 37) 0 1) (gmi_41 : gi (mi 41) 0 24) (gmi_50 : gi (mi 50) 0 1) (gmi_51 : gi (mi 51) 0 1) (gmi_56 : gi (mi 56) 0 80) (hx : p.tables.exec = Jvm.exec) (hb : c.code = cX12_unlike) (hml : c.maxLocals = 3) (hown : s.vm.findClass RX12 = some m.cls) (hts : ∀ w ∈ ((.code yX12_unlike cX12_unlike 3 (some .int) :: wsGB) : List Cond), w.before args s = true) (hK : va_K (dC, dI) vwCl (MT km) s) (hRf : 0 ≤ R.frames) (hRl : 0 ≤ R.locals) (hRc : cells ≤ R.cells) (hRs : slots ≤ R.slots) (kr44 : ∀ (v : Int32) (H : Heap) (locs : List Loc) (ls : Array Slot), va_P (dC, dI) vwCl (MWn h0 mr km (mi 0) (mi 1) (mi 2) (mi 3) (mi 4) (mi 5) (mi 6) (mi 7) (mi 10) (mi 17) (mi 23) (mi 24) (mi 26) (mi 27) (mi 28) (mi 29) (mi 30) (mi 31) (mi 32) (mi 33) (mi 37) (mi 41) (mi 42) (mi 43) (mi 44) (mi 45) (mi 47) (mi 48) (mi 49) (mi 50) (mi 51) (mi 54) (mi 56) fm_trust fm_letter fm_reportPlace fm_reportKind fm_struck fm_reportMonth fm_reportDay fm_reportKnown fm_deedMonth fm_deedDay fm_deedLong fm_deedKind fm_kept fm_tape fm_must fm_least fm_pin fm_ways fm_verdict fm_row fm_official fm_aside fm_worth fm_out) H → va_S A s.heap H locs → lv_has ls 3 [] → W p l e R s m args below meth c H locs cells slots Q (F0 m 44 ls [.int v])) : ∀ z : Nat, (∀ (v1 : Int32) (v2 : Int32) (H : Heap) (locs : List Loc) (ls : Array Slot), gi v2 1 25 → 51 + (-2) * v2.toInt < (z : Int) → va_P (dC, dI) vwCl (MWn h0 mr km (mi 0) (mi 1) (mi 2) (mi 3) (mi 4) (mi 5) (mi 6) (mi 7) (mi 10) (mi 17) (mi 23) (mi 24) (mi 26) (mi 27) (mi 28) (mi 29) (mi 30) (mi 31) (mi 32) (mi 33) (mi 37) (mi 41) (mi 42) (mi 43) (mi 44) (mi 45) (mi 47) (mi 48) (mi 49) (mi 50) (mi 51) (mi 54) (mi 56) fm_trust fm_letter fm_reportPlace fm_reportKind fm_struck fm_reportMonth fm_reportDay fm_reportKnown fm_deedMonth fm_deedDay fm_deedLong fm_deedKind fm_kept fm_tape fm_must fm_least fm_pin fm_ways fm_verdict fm_row fm_official fm_aside fm_worth fm_out) H → va_S A s.heap H locs → lv_has ls 3 [(0, .ref h0), (1, .int v1), (2, .int v2)] → W p l e R s m args below meth c H locs cells slots Q (F0 m 4 ls [])) := by
  intro z
  induction z with
  | zero =>
    intro v1 v2 H locs ls gv2 hmu hP hS hl
    exact absurd hmu (by have hv21 := gv2.1; have hv22 := gv2.2; omega)
  | succ z ih =>
      intro v1 v2 H locs ls gv2 hmu hP hS hl
      refine lv_iload_n hx hb dX12_unlike_4 rfl (lv_at hl 2 rfl) ?_
      refine lv_aload_n hx hb dX12_unlike_5 rfl (lv_at hl 0 rfl) ?_
      refine va_get (D := (dC, dI)) (ci := 12) (v := .int (mi 0)) (C := RX12) (T := TX12) (N := 57) hx hb hts (fun w h => List.mem_cons_of_mem _ (jnGB_X12 w h)) hown hK hP 0 rfl rfl 0 (by decide) (hts _ (List.mem_cons_of_mem _ mGB_103)) (fun _ h9 => h9) rfl dX12_unlike_6 ?_
      refine lv_icmp_gt (tgt := 43) hx hb dX12_unlike_9 (by decide) (fun c_166 => ?_) (fun c_166 => ?_)
      · refine lv_iload_n hx hb dX12_unlike_43 rfl (lv_at hl 1 rfl) ?_
        exact kr44 v1 _ _ _ hP hS (lv_sub hl [] rfl)
      · have g_167 : gi v2 1 24 := gi_le_l (Int32.not_lt.mp c_166) gv2 gmi_0
        have g_168 : gi (mi 0) 1 24 := gi_le_r (Int32.not_lt.mp c_166) gv2 gmi_0
        refine lv_iload_n hx hb dX12_unlike_12 rfl (lv_at hl 1 rfl) ?_
        refine lv_aload_n hx hb dX12_unlike_13 rfl (lv_at hl 0 rfl) ?_
        refine va_get (D := (dC, dI)) (ci := 12) (v := .ref (mr 20)) (C := RX12) (T := TX12) (N := 57) hx hb hts (fun w h => List.mem_cons_of_mem _ (jnGB_X12 w h)) hown hK hP 0 rfl rfl 46 (by decide) (hts _ (List.mem_cons_of_mem _ mGB_36)) (fun _ h9 => h9) rfl dX12_unlike_14 ?_
        refine lv_iload_n hx hb dX12_unlike_17 rfl (lv_at hl 2 rfl) ?_
        refine va_iald hx hb hK hP 21 20 rfl rfl (gi_in g_167 (by decide)) dX12_unlike_18 ?_
        refine lv_topi (fun x_169 ex_169 => ?_)
        refine lv_aload_n hx hb dX12_unlike_19 rfl (lv_at hl 0 rfl) ?_
        refine va_get (D := (dC, dI)) (ci := 12) (v := .ref (mr 21)) (C := RX12) (T := TX12) (N := 57) hx hb hts (fun w h => List.mem_cons_of_mem _ (jnGB_X12 w h)) hown hK hP 0 rfl rfl 52 (by decide) (hts _ (List.mem_cons_of_mem _ mGB_37)) (fun _ h9 => h9) rfl dX12_unlike_20 ?_
        refine lv_iload_n hx hb dX12_unlike_23 rfl (lv_at hl 2 rfl) ?_
        refine va_iald hx hb hK hP 22 21 rfl rfl (gi_in g_167 (by decide)) dX12_unlike_24 ?_
        refine lv_topi (fun x_170 ex_170 => ?_)
        refine lv_icmp_eq (tgt := 34) hx hb dX12_unlike_25 (by decide) (fun c_171 => ?_) (fun c_171 => ?_)
        · refine lv_iconst (v := 0) hx hb dX12_unlike_34 (by decide) ?_
          refine lv_ior hx hb dX12_unlike_35 ?_
          refine lv_topi (fun x_172 ex_172 => ?_)
          refine lv_istore_n (lv' := [(1, .int x_172), (0, .ref h0), (2, .int v2)]) hx hb dX12_unlike_36 rfl hl (by decide) rfl (fun ls hl => ?_)
          obtain ⟨x_173, ex_173⟩ : ∃ y : Int32, y = v2 + 1 := ⟨_, rfl⟩
          have gx_173 : gi x_173 2 25 := gi_add ex_173 g_167 (gi_c 1 1 (by decide)) (by decide)
          refine lv_iinc (v := x_173) (lv' := [(2, .int x_173), (1, .int x_172), (0, .ref h0)]) hx hb dX12_unlike_37 hl (k := 2) rfl (by rw [ex_173]; rfl) (by decide) rfl (fun ls hl => ?_)
          refine lv_goto (tgt := 4) hx hb dX12_unlike_40 (by decide) ?_
          exact ih x_172 x_173 _ _ _ (gi_w gx_173 (by decide)) (by have av2 := gv2.1; have bv2 := gv2.2; have qgx_173 := gx_173.1; have rgx_173 := gx_173.2; have igx_173 : x_173.toInt = v2.toInt + 1 := (by have hc1 : (1 : Int32).toInt = 1 := (by decide); have h9 := gi_addI ex_173 (by have h1 := g_167.1; have h2 := (gi_c 1 1 (by decide)).1; have h3 := g_167.2; have h4 := (gi_c 1 1 (by decide)).2; omega) (by have h1 := g_167.1; have h2 := (gi_c 1 1 (by decide)).1; have h3 := g_167.2; have h4 := (gi_c 1 1 (by decide)).2; omega); rw [hc1] at h9; exact h9); have qgv2 := g_167.1; have rgv2 := g_167.2; omega) hP hS (lv_sub hl [2, 1, 0] rfl)
        · refine lv_iconst (v := 1) hx hb dX12_unlike_28 (by decide) ?_
          refine lv_iload_n hx hb dX12_unlike_29 rfl (lv_at hl 2 rfl) ?_
          refine lv_ishl hx hb dX12_unlike_30 ?_
          refine lv_topi (fun x_174 ex_174 => ?_)
          refine lv_goto (tgt := 35) hx hb dX12_unlike_31 (by decide) ?_
          refine lv_ior hx hb dX12_unlike_35 ?_
          refine lv_topi (fun x_175 ex_175 => ?_)
          refine lv_istore_n (lv' := [(1, .int x_175), (0, .ref h0), (2, .int v2)]) hx hb dX12_unlike_36 rfl hl (by decide) rfl (fun ls hl => ?_)
          obtain ⟨x_176, ex_176⟩ : ∃ y : Int32, y = v2 + 1 := ⟨_, rfl⟩
          have gx_176 : gi x_176 2 25 := gi_add ex_176 g_167 (gi_c 1 1 (by decide)) (by decide)
          refine lv_iinc (v := x_176) (lv' := [(2, .int x_176), (1, .int x_175), (0, .ref h0)]) hx hb dX12_unlike_37 hl (k := 2) rfl (by rw [ex_176]; rfl) (by decide) rfl (fun ls hl => ?_)
          refine lv_goto (tgt := 4) hx hb dX12_unlike_40 (by decide) ?_
          exact ih x_175 x_176 _ _ _ (gi_w gx_176 (by decide)) (by have av2 := gv2.1; have bv2 := gv2.2; have qgx_176 := gx_176.1; have rgx_176 := gx_176.2; have igx_176 : x_176.toInt = v2.toInt + 1 := (by have hc1 : (1 : Int32).toInt = 1 := (by decide); have h9 := gi_addI ex_176 (by have h1 := g_167.1; have h2 := (gi_c 1 1 (by decide)).1; have h3 := g_167.2; have h4 := (gi_c 1 1 (by decide)).2; omega) (by have h1 := g_167.1; have h2 := (gi_c 1 1 (by decide)).1; have h3 := g_167.2; have h4 := (gi_c 1 1 (by decide)).2; omega); rw [hc1] at h9; exact h9); have qgv2 := g_167.1; have rgv2 := g_167.2; omega) hP hS (lv_sub hl [2, 1, 0] rfl)
set_option maxHeartbeats 4000000 in
set_option maxRecDepth 100000 in
theorem sX12_unlike (l : Launch) (dC : Nat → ClassId) (dI : Nat → Nat → Nat) (h0 : Nat) (mi : Nat → Int32) (mr : Nat → Nat) (km : Nat → ClassId) (fm_official : Nat → Int32) (fm_aside : Nat → Int32) (fm_trust : Nat → Int32) (fm_letter : Nat → Int32) (fm_reportPlace : Nat → Int32) (fm_reportKind : Nat → Int32) (fm_struck : Nat → Int32) (fm_reportMonth : Nat → Int32) (fm_reportDay : Nat → Int32) (fm_reportKnown : Nat → Int32) (fm_deedMonth : Nat → Int32) (fm_deedDay : Nat → Int32) (fm_deedLong : Nat → Int32) (fm_deedKind : Nat → Int32) (fm_kept : Nat → Int32) (fm_tape : Nat → Int32) (fm_must : Nat → Int32) (fm_least : Nat → Int32) (fm_pin : Nat → Int32) (fm_ways : Nat → Int32) (fm_verdict : Nat → Int32) (fm_row : Nat → Int32) (fm_worth : Nat → Int32) (fm_out : Nat → Int32) (gmi_0 : gi (mi 0) 0 24) (gmi_1 : gi (mi 1) 0 5) (gmi_2 : gi (mi 2) 0 5) (gmi_4 : gi (mi 4) 0 1) (gmi_7 : gi (mi 7) 0 6) (gmi_10 : gi (mi 10) 0 24) (gmi_17 : gi (mi 17) 0 8) (gmi_23 : gi (mi 23) 0 300) (gmi_24 : gi (mi 24) 0 1) (gmi_26 : gi (mi 26) 0 1600) (gmi_29 : gi (mi 29) 0 1600) (gmi_30 : gi (mi 30) 0 1600) (gmi_33 : gi (mi 33) 0 1) (gmi_37 : gi (mi 37) 0 1) (gmi_41 : gi (mi 41) 0 24) (gmi_50 : gi (mi 50) 0 1) (gmi_51 : gi (mi 51) 0 1) (gmi_56 : gi (mi 56) 0 80) : Met l yX12_unlike (.code yX12_unlike cX12_unlike 3 (some .int) :: wsGB) ({ frames := 0, cells := 0, slots := 0, locals := 0 }) (va_Pc [.ref h0] (fun U => va_P (dC, dI) vwCl (MWn h0 mr km (mi 0) (mi 1) (mi 2) (mi 3) (mi 4) (mi 5) (mi 6) (mi 7) (mi 10) (mi 17) (mi 23) (mi 24) (mi 26) (mi 27) (mi 28) (mi 29) (mi 30) (mi 31) (mi 32) (mi 33) (mi 37) (mi 41) (mi 42) (mi 43) (mi 44) (mi 45) (mi 47) (mi 48) (mi 49) (mi 50) (mi 51) (mi 54) (mi 56) fm_trust fm_letter fm_reportPlace fm_reportKind fm_struck fm_reportMonth fm_reportDay fm_reportKnown fm_deedMonth fm_deedDay fm_deedLong fm_deedKind fm_kept fm_tape fm_must fm_least fm_pin fm_ways fm_verdict fm_row fm_official fm_aside fm_worth fm_out) U.heap ∧ va_K (dC, dI) vwCl (MT km) U)) (va_Qi (fun (r : Int32) (u : Unit) => gi r (-2147483648) 2147483647) (fun _ _ => True) (fun _ => False)) 0 0 (fun _ => False) := by
  refine Met.ofW (cc := cX12_unlike) (maxL := 3) (ret := (some .int)) (by decide) rfl ?_
  intro p e s m args below meth c s₁ B hml hv
  obtain ⟨rfl, hP, hK⟩ := hv
  have hx := B.exec
  have hb := B.bytes
  have hr := B.returns
  have hts := atoms_spec (ws := (.code yX12_unlike cX12_unlike 3 (some .int) :: wsGB)) B.pre
  have hown : s.vm.findClass RX12 = some m.cls := findClass_of_methodNamed B.named
  have hlocks := B.notSynchronized
  have hS : va_S (fun _ => False) s.heap s.heap [] := va_S.rf
  have hl := lv_entry ([.ref h0]) (n := 3) (Nat.le_of_ble_eq_true rfl)
  rw [lg_entry_eq]
  generalize (lg_sl ([.ref h0]) ++ List.replicate (3 - (lg_sl ([.ref h0])).length) Slot.unset).toArray = ls at hl ⊢
  have hl : lv_has ls 3 [(0, .ref h0)] := hl
  refine lv_iconst (v := 0) hx hb dX12_unlike_0 (by decide) ?_
  refine lv_istore_n (lv' := [(1, .int 0), (0, .ref h0)]) hx hb dX12_unlike_1 rfl hl (by decide) rfl (fun ls hl => ?_)
  refine lv_iconst (v := 1) hx hb dX12_unlike_2 (by decide) ?_
  refine lv_istore_n (lv' := [(2, .int 1), (1, .int 0), (0, .ref h0)]) hx hb dX12_unlike_3 rfl hl (by decide) rfl (fun ls hl => ?_)
  refine (lp_sX12_unlike h0 mi mr km fm_official fm_aside fm_trust fm_letter fm_reportPlace fm_reportKind fm_struck fm_reportMonth fm_reportDay fm_reportKnown fm_deedMonth fm_deedDay fm_deedLong fm_deedKind fm_kept fm_tape fm_must fm_least fm_pin fm_ways fm_verdict fm_row fm_worth fm_out gmi_0 gmi_1 gmi_2 gmi_4 gmi_7 gmi_10 gmi_17 gmi_23 gmi_24 gmi_26 gmi_29 gmi_30 gmi_33 gmi_37 gmi_41 gmi_50 gmi_51 gmi_56 hx hb hml hown hts hK (Nat.le_of_ble_eq_true rfl) (Nat.le_of_ble_eq_true rfl) (Nat.zero_le _) (Nat.zero_le _) (fun v H locs ls hP hS hl => ?_) 62) 0 1 _ _ _ (gi_w (gi_c 1 1 (by decide)) (by decide)) (by have k1 : (1 : Int32).toInt = 1 := (by decide); omega) hP hS (lv_sub hl [2, 1, 0] rfl)
  · skip
    exact W.iret (v := v) hx hb hr (fun t ht hW => ⟨⟨v, (), rfl, (gi_any v), trivial⟩, hS.F ht⟩) hS.2.2 dX12_unlike_44
theorem dX12_ownBy_0 : decode cX12_ownBy 0 = .ok (.aload_n 0, 1) := by decide +kernel
theorem dX12_ownBy_1 : decode cX12_ownBy 1 = .ok (.iload_n 2, 1) := by decide +kernel
theorem dX12_ownBy_2 : decode cX12_ownBy 2 = .ok (.putfield 75, 3) := by decide +kernel
theorem dX12_ownBy_5 : decode cX12_ownBy 5 = .ok (.aload_n 0, 1) := by decide +kernel
theorem dX12_ownBy_6 : decode cX12_ownBy 6 = .ok (.iload_n 1, 1) := by decide +kernel
theorem dX12_ownBy_7 : decode cX12_ownBy 7 = .ok (.invokevirtual 382, 3) := by decide +kernel
theorem dX12_ownBy_10 : decode cX12_ownBy 10 = .ok (.aload_n 0, 1) := by decide +kernel
theorem dX12_ownBy_11 : decode cX12_ownBy 11 = .ok (.iconst (-1), 1) := by decide +kernel
theorem dX12_ownBy_12 : decode cX12_ownBy 12 = .ok (.putfield 75, 3) := by decide +kernel
theorem dX12_ownBy_15 : decode cX12_ownBy 15 = .ok (.return_, 1) := by decide +kernel
abbrev pb_sX12_ownBy (dC : Nat → ClassId) (dI : Nat → Nat → Nat) (A9 : Nat → Prop) (h0 : Nat) (mi : Nat → Int32) (mr : Nat → Nat) (km : Nat → ClassId) (fm_must : Nat → Int32) (fm_least : Nat → Int32) (fm_pin : Nat → Int32) (fm_ways : Nat → Int32) (fm_verdict : Nat → Int32) (fm_row : Nat → Int32) (fm_struck : Nat → Int32) (fm_reportKnown : Nat → Int32) (fm_reportPlace : Nat → Int32) (fm_reportMonth : Nat → Int32) (fm_reportDay : Nat → Int32) (fm_reportKind : Nat → Int32) (fm_trust : Nat → Int32) (fm_letter : Nat → Int32) (fm_official : Nat → Int32) (fm_deedMonth : Nat → Int32) (fm_deedDay : Nat → Int32) (fm_deedLong : Nat → Int32) (fm_deedKind : Nat → Int32) (fm_kept : Nat → Int32) (fm_tape : Nat → Int32) (fm_aside : Nat → Int32) (fm_worth : Nat → Int32) (fm_out : Nat → Int32) (p1 : Int32) (p2 : Int32) (w0_37 : Int32) (w0_41 : Int32) (w0_42 : Int32) (z1 : Nat → Int32) (z2 : Nat → Int32) (z3 : Nat → Int32) (z4 : Nat → Int32) (z5 : Nat → Int32) (z6 : Nat → Int32) (z15 : Nat → Int32) (t : State) : Prop := gi w0_37 0 1 ∧ gi w0_41 0 24 ∧ ga z6 24 0 23 ∧ va_P (dC, dI) vwCl (MWn h0 mr km (mi 0) (mi 1) (mi 2) (mi 3) (mi 4) (mi 5) (mi 6) (mi 7) (mi 10) (mi 17) (mi 23) (mi 24) (mi 26) (mi 27) (mi 28) (mi 29) (mi 30) (mi 31) (mi 32) (mi 33) w0_37 w0_41 w0_42 (mi 43) (mi 44) (mi 45) (mi 47) (mi 48) (mi 49) (mi 50) (mi 51) (mi 54) (mi 56) fm_trust fm_letter fm_reportPlace fm_reportKind fm_struck fm_reportMonth fm_reportDay fm_reportKnown fm_deedMonth fm_deedDay fm_deedLong fm_deedKind fm_kept fm_tape z1 z2 z3 z4 z5 z6 z15 fm_aside fm_worth fm_out) t.heap ∧ va_D A9 (MWn h0 mr km (mi 0) (mi 1) (mi 2) (mi 3) (mi 4) (mi 5) (mi 6) (mi 7) (mi 10) (mi 17) (mi 23) (mi 24) (mi 26) (mi 27) (mi 28) (mi 29) (mi 30) (mi 31) (mi 32) (mi 33) w0_37 w0_41 w0_42 (mi 43) (mi 44) (mi 45) (mi 47) (mi 48) (mi 49) (mi 50) (mi 51) (mi 54) (mi 56) fm_trust fm_letter fm_reportPlace fm_reportKind fm_struck fm_reportMonth fm_reportDay fm_reportKnown fm_deedMonth fm_deedDay fm_deedLong fm_deedKind fm_kept fm_tape z1 z2 z3 z4 z5 z6 z15 fm_aside fm_worth fm_out)
set_option maxHeartbeats 4000000 in
set_option maxRecDepth 100000 in
theorem sX12_ownBy (l : Launch) (dC : Nat → ClassId) (dI : Nat → Nat → Nat) (sz : Nat) (h0 : Nat) (mi : Nat → Int32) (mr : Nat → Nat) (km : Nat → ClassId) (fm_must : Nat → Int32) (fm_least : Nat → Int32) (fm_pin : Nat → Int32) (fm_ways : Nat → Int32) (fm_verdict : Nat → Int32) (fm_row : Nat → Int32) (fm_struck : Nat → Int32) (fm_reportKnown : Nat → Int32) (fm_reportPlace : Nat → Int32) (fm_reportMonth : Nat → Int32) (fm_reportDay : Nat → Int32) (fm_reportKind : Nat → Int32) (fm_trust : Nat → Int32) (fm_letter : Nat → Int32) (fm_official : Nat → Int32) (fm_deedMonth : Nat → Int32) (fm_deedDay : Nat → Int32) (fm_deedLong : Nat → Int32) (fm_deedKind : Nat → Int32) (fm_kept : Nat → Int32) (fm_tape : Nat → Int32) (fm_aside : Nat → Int32) (fm_worth : Nat → Int32) (fm_out : Nat → Int32) (p1 : Int32) (p2 : Int32) (gmi_0 : gi (mi 0) 0 24) (gmi_1 : gi (mi 1) 0 5) (gmi_2 : gi (mi 2) 0 5) (gmi_4 : gi (mi 4) 0 1) (gmi_7 : gi (mi 7) 0 6) (gmi_10 : gi (mi 10) 0 24) (gmi_17 : gi (mi 17) 0 8) (gmi_23 : gi (mi 23) 0 300) (gmi_24 : gi (mi 24) 0 1) (gmi_26 : gi (mi 26) 0 1600) (gmi_29 : gi (mi 29) 0 1600) (gmi_30 : gi (mi 30) 0 1600) (gmi_33 : gi (mi 33) 0 1) (gmi_37 : gi (mi 37) 0 1) (gmi_41 : gi (mi 41) 0 24) (gmi_50 : gi (mi 50) 0 1) (gmi_51 : gi (mi 51) 0 1) (gmi_56 : gi (mi 56) 0 80) (gfm_row : ga fm_row 24 0 23) (gfm_struck : ga fm_struck 24 0 1) (gfm_reportKnown : ga fm_reportKnown 24 0 999) (gfm_reportPlace : ga fm_reportPlace 24 0 5) (gfm_reportMonth : ga fm_reportMonth 24 0 23) (gfm_reportDay : ga fm_reportDay 24 0 999) : Met l yX12_ownBy (.code yX12_ownBy cX12_ownBy 3 none :: wsGB) ({ frames := 6, cells := 0, slots := 0, locals := 140 }) (va_Pc [.ref h0, .int p1, .int p2] (fun U => U.heap.size = sz ∧ va_P (dC, dI) vwCl (MWn h0 mr km (mi 0) (mi 1) (mi 2) (mi 3) (mi 4) (mi 5) (mi 6) (mi 7) (mi 10) (mi 17) (mi 23) (mi 24) (mi 26) (mi 27) (mi 28) (mi 29) (mi 30) (mi 31) (mi 32) (mi 33) (mi 37) (mi 41) (mi 42) (mi 43) (mi 44) (mi 45) (mi 47) (mi 48) (mi 49) (mi 50) (mi 51) (mi 54) (mi 56) fm_trust fm_letter fm_reportPlace fm_reportKind fm_struck fm_reportMonth fm_reportDay fm_reportKnown fm_deedMonth fm_deedDay fm_deedLong fm_deedKind fm_kept fm_tape fm_must fm_least fm_pin fm_ways fm_verdict fm_row fm_official fm_aside fm_worth fm_out) U.heap ∧ va_K (dC, dI) vwCl (MT km) U ∧ va_D (fun _ => True) (MWn h0 mr km (mi 0) (mi 1) (mi 2) (mi 3) (mi 4) (mi 5) (mi 6) (mi 7) (mi 10) (mi 17) (mi 23) (mi 24) (mi 26) (mi 27) (mi 28) (mi 29) (mi 30) (mi 31) (mi 32) (mi 33) (mi 37) (mi 41) (mi 42) (mi 43) (mi 44) (mi 45) (mi 47) (mi 48) (mi 49) (mi 50) (mi 51) (mi 54) (mi 56) fm_trust fm_letter fm_reportPlace fm_reportKind fm_struck fm_reportMonth fm_reportDay fm_reportKnown fm_deedMonth fm_deedDay fm_deedLong fm_deedKind fm_kept fm_tape fm_must fm_least fm_pin fm_ways fm_verdict fm_row fm_official fm_aside fm_worth fm_out))) (va_Qv (fun (u : Unit) => True) (fun _ t => ∃ (w0_37 : Int32) (w0_41 : Int32) (w0_42 : Int32) (z1 : Nat → Int32) (z2 : Nat → Int32) (z3 : Nat → Int32) (z4 : Nat → Int32) (z5 : Nat → Int32) (z6 : Nat → Int32) (z15 : Nat → Int32), pb_sX12_ownBy dC dI (va_A (MWn h0 mr km (mi 0) (mi 1) (mi 2) (mi 3) (mi 4) (mi 5) (mi 6) (mi 7) (mi 10) (mi 17) (mi 23) (mi 24) (mi 26) (mi 27) (mi 28) (mi 29) (mi 30) (mi 31) (mi 32) (mi 33) (mi 37) (mi 41) (mi 42) (mi 43) (mi 44) (mi 45) (mi 47) (mi 48) (mi 49) (mi 50) (mi 51) (mi 54) (mi 56) fm_trust fm_letter fm_reportPlace fm_reportKind fm_struck fm_reportMonth fm_reportDay fm_reportKnown fm_deedMonth fm_deedDay fm_deedLong fm_deedKind fm_kept fm_tape fm_must fm_least fm_pin fm_ways fm_verdict fm_row fm_official fm_aside fm_worth fm_out) sz) h0 mi mr km fm_must fm_least fm_pin fm_ways fm_verdict fm_row fm_struck fm_reportKnown fm_reportPlace fm_reportMonth fm_reportDay fm_reportKind fm_trust fm_letter fm_official fm_deedMonth fm_deedDay fm_deedLong fm_deedKind fm_kept fm_tape fm_aside fm_worth fm_out p1 p2 w0_37 w0_41 w0_42 z1 z2 z3 z4 z5 z6 z15 t) (va_A (MWn h0 mr km (mi 0) (mi 1) (mi 2) (mi 3) (mi 4) (mi 5) (mi 6) (mi 7) (mi 10) (mi 17) (mi 23) (mi 24) (mi 26) (mi 27) (mi 28) (mi 29) (mi 30) (mi 31) (mi 32) (mi 33) (mi 37) (mi 41) (mi 42) (mi 43) (mi 44) (mi 45) (mi 47) (mi 48) (mi 49) (mi 50) (mi 51) (mi 54) (mi 56) fm_trust fm_letter fm_reportPlace fm_reportKind fm_struck fm_reportMonth fm_reportDay fm_reportKnown fm_deedMonth fm_deedDay fm_deedLong fm_deedKind fm_kept fm_tape fm_must fm_least fm_pin fm_ways fm_verdict fm_row fm_official fm_aside fm_worth fm_out) sz)) 0 0 (va_A (MWn h0 mr km (mi 0) (mi 1) (mi 2) (mi 3) (mi 4) (mi 5) (mi 6) (mi 7) (mi 10) (mi 17) (mi 23) (mi 24) (mi 26) (mi 27) (mi 28) (mi 29) (mi 30) (mi 31) (mi 32) (mi 33) (mi 37) (mi 41) (mi 42) (mi 43) (mi 44) (mi 45) (mi 47) (mi 48) (mi 49) (mi 50) (mi 51) (mi 54) (mi 56) fm_trust fm_letter fm_reportPlace fm_reportKind fm_struck fm_reportMonth fm_reportDay fm_reportKnown fm_deedMonth fm_deedDay fm_deedLong fm_deedKind fm_kept fm_tape fm_must fm_least fm_pin fm_ways fm_verdict fm_row fm_official fm_aside fm_worth fm_out) sz) := by
  refine Met.ofW (cc := cX12_ownBy) (maxL := 3) (ret := none) (by decide) rfl ?_
  intro p e s m args below meth c s₁ B hml hv
  obtain ⟨rfl, hsz, hP, hK, hD0⟩ := hv
  have hx := B.exec
  have hb := B.bytes
  have hr := B.returns
  have hts := atoms_spec (ws := (.code yX12_ownBy cX12_ownBy 3 none :: wsGB)) B.pre
  have hown : s.vm.findClass RX12 = some m.cls := findClass_of_methodNamed B.named
  have hlocks := B.notSynchronized
  subst hsz
  have hD := hD0.self (sz := s.heap.size)
  generalize hAe : va_A (MWn h0 mr km (mi 0) (mi 1) (mi 2) (mi 3) (mi 4) (mi 5) (mi 6) (mi 7) (mi 10) (mi 17) (mi 23) (mi 24) (mi 26) (mi 27) (mi 28) (mi 29) (mi 30) (mi 31) (mi 32) (mi 33) (mi 37) (mi 41) (mi 42) (mi 43) (mi 44) (mi 45) (mi 47) (mi 48) (mi 49) (mi 50) (mi 51) (mi 54) (mi 56) fm_trust fm_letter fm_reportPlace fm_reportKind fm_struck fm_reportMonth fm_reportDay fm_reportKnown fm_deedMonth fm_deedDay fm_deedLong fm_deedKind fm_kept fm_tape fm_must fm_least fm_pin fm_ways fm_verdict fm_row fm_official fm_aside fm_worth fm_out) s.heap.size = A at hD ⊢
  have hA : ∀ q : Nat, s.heap.size ≤ q → A q := fun q h => by rw [← hAe]; exact Or.inr h
  have hS : va_S A s.heap s.heap [] := va_S.rf
  have hl := lv_entry ([.ref h0, .int p1, .int p2]) (n := 3) (Nat.le_of_ble_eq_true rfl)
  rw [lg_entry_eq]
  generalize (lg_sl ([.ref h0, .int p1, .int p2]) ++ List.replicate (3 - (lg_sl ([.ref h0, .int p1, .int p2])).length) Slot.unset).toArray = ls at hl ⊢
  have hl : lv_has ls 3 [(0, .ref h0), (1, .int p1), (2, .int p2)] := hl
  refine lv_aload_n hx hb dX12_ownBy_0 rfl (lv_at hl 0 rfl) ?_
  refine lv_iload_n hx hb dX12_ownBy_1 rfl (lv_at hl 2 rfl) ?_
  refine va_put (D := (dC, dI)) (ci := 12) (v := .int p2) (ty := .int) (C := RX12) (T := TX12) (N := 57) hx hb hts (fun w h => List.mem_cons_of_mem _ (jnGB_X12 w h)) tyX12 tyX12_ok nmX12 hown hK hP hD hS 0 rfl rfl 42 (by decide) (hts _ (List.mem_cons_of_mem _ mGB_32)) (fun _ h9 => h9) rfl (by decide +kernel) rfl rfl (Nat.le_of_ble_eq_true rfl) dX12_ownBy_2 (fun H locs hP hD hS => ?_)
  have hP : va_P (dC, dI) vwCl (MWn h0 mr km (mi 0) (mi 1) (mi 2) (mi 3) (mi 4) (mi 5) (mi 6) (mi 7) (mi 10) (mi 17) (mi 23) (mi 24) (mi 26) (mi 27) (mi 28) (mi 29) (mi 30) (mi 31) (mi 32) (mi 33) (mi 37) (mi 41) p2 (mi 43) (mi 44) (mi 45) (mi 47) (mi 48) (mi 49) (mi 50) (mi 51) (mi 54) (mi 56) fm_trust fm_letter fm_reportPlace fm_reportKind fm_struck fm_reportMonth fm_reportDay fm_reportKnown fm_deedMonth fm_deedDay fm_deedLong fm_deedKind fm_kept fm_tape fm_must fm_least fm_pin fm_ways fm_verdict fm_row fm_official fm_aside fm_worth fm_out) H := hP
  have hD : va_D A (MWn h0 mr km (mi 0) (mi 1) (mi 2) (mi 3) (mi 4) (mi 5) (mi 6) (mi 7) (mi 10) (mi 17) (mi 23) (mi 24) (mi 26) (mi 27) (mi 28) (mi 29) (mi 30) (mi 31) (mi 32) (mi 33) (mi 37) (mi 41) p2 (mi 43) (mi 44) (mi 45) (mi 47) (mi 48) (mi 49) (mi 50) (mi 51) (mi 54) (mi 56) fm_trust fm_letter fm_reportPlace fm_reportKind fm_struck fm_reportMonth fm_reportDay fm_reportKnown fm_deedMonth fm_deedDay fm_deedLong fm_deedKind fm_kept fm_tape fm_must fm_least fm_pin fm_ways fm_verdict fm_row fm_official fm_aside fm_worth fm_out) := hD
  refine lv_aload_n hx hb dX12_ownBy_5 rfl (lv_at hl 0 rfl) ?_
  refine lv_iload_n hx hb dX12_ownBy_6 rfl (lv_at hl 1 rfl) ?_
  have hFc := gz_fullF hD hS hA
  refine va_callv (va_runV (As := [.int p1]) (rest := []) ⟨hx, hb, hml, hown, hts⟩ (sX12_officialBy l dC dI H.size h0 (upd mi 42 p2) mr km fm_must fm_least fm_pin fm_ways fm_verdict fm_row fm_struck fm_reportKnown fm_reportPlace fm_reportMonth fm_reportDay fm_reportKind fm_trust fm_letter fm_official fm_deedMonth fm_deedDay fm_deedLong fm_deedKind fm_kept fm_tape fm_aside fm_worth fm_out p1 gmi_0 gmi_1 gmi_2 gmi_4 gmi_7 gmi_10 gmi_17 gmi_23 gmi_24 gmi_26 gmi_29 gmi_30 gmi_33 gmi_37 gmi_41 gmi_50 gmi_51 gmi_56 gfm_row gfm_struck gfm_reportKnown gfm_reportPlace gfm_reportMonth gfm_reportDay) (cwV 1 hts (gz_gV mGB_358 mGB_359 mGB_360 mGB_1 mGB_361 goodGB) rfl rfl rfl (by decide +kernel) ⟨Nat.le_of_ble_eq_true rfl, Nat.le_of_ble_eq_true rfl⟩) ⟨bl_W, mw_recv hK hP, fun U hU hW => ⟨rfl, by rw [hU], by rw [hU]; exact hP, va_K.moved hW.alike hK, hD.weaken (fun _ _ _ _ => trivial)⟩⟩ rfl rfl hl.1 rfl (lv_room (Nat.le_of_ble_eq_true rfl)) dX12_ownBy_7 ⟨Nat.zero_le _, Nat.zero_le _⟩) hS (fun q _ h => hFc q h) hFc (fun u t H1 locs ht hvm hw hB hz1 hk1 hS => ?_)
  obtain ⟨y_22, y_23, f_24, f_25, f_26, f_27, f_28, f_29, f_30, hB⟩ := hB
  obtain ⟨gy_22, gy_23, gf_29, hP1, hD1⟩ := hB
  rw [ht] at hP1
  have hD : va_D A (MWn h0 mr km (mi 0) (mi 1) (mi 2) (mi 3) (mi 4) (mi 5) (mi 6) (mi 7) (mi 10) (mi 17) (mi 23) (mi 24) (mi 26) (mi 27) (mi 28) (mi 29) (mi 30) (mi 31) (mi 32) (mi 33) y_22 y_23 p2 (mi 43) (mi 44) (mi 45) (mi 47) (mi 48) (mi 49) (mi 50) (mi 51) (mi 54) (mi 56) fm_trust fm_letter fm_reportPlace fm_reportKind fm_struck fm_reportMonth fm_reportDay fm_reportKnown fm_deedMonth fm_deedDay fm_deedLong fm_deedKind fm_kept fm_tape f_24 f_25 f_26 f_27 f_28 f_29 f_30 fm_aside fm_worth fm_out) := gz_fullD hFc hD1
  have hP : va_P (dC, dI) vwCl (MWn h0 mr km (mi 0) (mi 1) (mi 2) (mi 3) (mi 4) (mi 5) (mi 6) (mi 7) (mi 10) (mi 17) (mi 23) (mi 24) (mi 26) (mi 27) (mi 28) (mi 29) (mi 30) (mi 31) (mi 32) (mi 33) y_22 y_23 p2 (mi 43) (mi 44) (mi 45) (mi 47) (mi 48) (mi 49) (mi 50) (mi 51) (mi 54) (mi 56) fm_trust fm_letter fm_reportPlace fm_reportKind fm_struck fm_reportMonth fm_reportDay fm_reportKnown fm_deedMonth fm_deedDay fm_deedLong fm_deedKind fm_kept fm_tape f_24 f_25 f_26 f_27 f_28 f_29 f_30 fm_aside fm_worth fm_out) H1 := hP1
  generalize H1 = H at hP hS ⊢
  refine lv_aload_n hx hb dX12_ownBy_10 rfl (lv_at hl 0 rfl) ?_
  refine lv_iconst (v := (-1)) hx hb dX12_ownBy_11 (by decide) ?_
  refine va_put (D := (dC, dI)) (ci := 12) (v := .int (-1)) (ty := .int) (C := RX12) (T := TX12) (N := 57) hx hb hts (fun w h => List.mem_cons_of_mem _ (jnGB_X12 w h)) tyX12 tyX12_ok nmX12 hown hK hP hD hS 0 rfl rfl 42 (by decide) (hts _ (List.mem_cons_of_mem _ mGB_32)) (fun _ h9 => h9) rfl (by decide +kernel) rfl rfl (Nat.le_of_ble_eq_true rfl) dX12_ownBy_12 (fun H locs hP hD hS => ?_)
  have hP : va_P (dC, dI) vwCl (MWn h0 mr km (mi 0) (mi 1) (mi 2) (mi 3) (mi 4) (mi 5) (mi 6) (mi 7) (mi 10) (mi 17) (mi 23) (mi 24) (mi 26) (mi 27) (mi 28) (mi 29) (mi 30) (mi 31) (mi 32) (mi 33) y_22 y_23 (-1) (mi 43) (mi 44) (mi 45) (mi 47) (mi 48) (mi 49) (mi 50) (mi 51) (mi 54) (mi 56) fm_trust fm_letter fm_reportPlace fm_reportKind fm_struck fm_reportMonth fm_reportDay fm_reportKnown fm_deedMonth fm_deedDay fm_deedLong fm_deedKind fm_kept fm_tape f_24 f_25 f_26 f_27 f_28 f_29 f_30 fm_aside fm_worth fm_out) H := hP
  have hD : va_D A (MWn h0 mr km (mi 0) (mi 1) (mi 2) (mi 3) (mi 4) (mi 5) (mi 6) (mi 7) (mi 10) (mi 17) (mi 23) (mi 24) (mi 26) (mi 27) (mi 28) (mi 29) (mi 30) (mi 31) (mi 32) (mi 33) y_22 y_23 (-1) (mi 43) (mi 44) (mi 45) (mi 47) (mi 48) (mi 49) (mi 50) (mi 51) (mi 54) (mi 56) fm_trust fm_letter fm_reportPlace fm_reportKind fm_struck fm_reportMonth fm_reportDay fm_reportKnown fm_deedMonth fm_deedDay fm_deedLong fm_deedKind fm_kept fm_tape f_24 f_25 f_26 f_27 f_28 f_29 f_30 fm_aside fm_worth fm_out) := hD
  exact W.vret hx hb hr (fun t ht hW => ⟨⟨(), rfl, trivial, y_22, y_23, (-1), f_24, f_25, f_26, f_27, f_28, f_29, f_30, gy_22, gy_23, gf_29, by rw [ht]; exact hP, hD⟩, hS.F ht⟩) hS.2.2 dX12_ownBy_15
theorem dX12_own_0 : decode cX12_own 0 = .ok (.aload_n 0, 1) := by decide +kernel
theorem dX12_own_1 : decode cX12_own 1 = .ok (.iload_n 1, 1) := by decide +kernel
theorem dX12_own_2 : decode cX12_own 2 = .ok (.invokevirtual 359, 3) := by decide +kernel
theorem dX12_own_5 : decode cX12_own 5 = .ok (.ifCond .eq 19, 3) := by decide +kernel
theorem dX12_own_8 : decode cX12_own 8 = .ok (.aload_n 0, 1) := by decide +kernel
theorem dX12_own_9 : decode cX12_own 9 = .ok (.iload_n 2, 1) := by decide +kernel
theorem dX12_own_10 : decode cX12_own 10 = .ok (.invokevirtual 294, 3) := by decide +kernel
theorem dX12_own_13 : decode cX12_own 13 = .ok (.ifCond .eq 11, 3) := by decide +kernel
theorem dX12_own_16 : decode cX12_own 16 = .ok (.aload_n 0, 1) := by decide +kernel
theorem dX12_own_17 : decode cX12_own 17 = .ok (.iload_n 3, 1) := by decide +kernel
theorem dX12_own_18 : decode cX12_own 18 = .ok (.invokevirtual 379, 3) := by decide +kernel
theorem dX12_own_21 : decode cX12_own 21 = .ok (.ifCond .ne 6, 3) := by decide +kernel
theorem dX12_own_24 : decode cX12_own 24 = .ok (.bipush (-2), 2) := by decide +kernel
theorem dX12_own_26 : decode cX12_own 26 = .ok (.ireturn, 1) := by decide +kernel
theorem dX12_own_27 : decode cX12_own 27 = .ok (.aload_n 0, 1) := by decide +kernel
theorem dX12_own_28 : decode cX12_own 28 = .ok (.iload_n 1, 1) := by decide +kernel
theorem dX12_own_29 : decode cX12_own 29 = .ok (.iload_n 2, 1) := by decide +kernel
theorem dX12_own_30 : decode cX12_own 30 = .ok (.invokevirtual 459, 3) := by decide +kernel
theorem dX12_own_33 : decode cX12_own 33 = .ok (.aload_n 0, 1) := by decide +kernel
theorem dX12_own_34 : decode cX12_own 34 = .ok (.getfield 87, 3) := by decide +kernel
theorem dX12_own_37 : decode cX12_own 37 = .ok (.iload_n 3, 1) := by decide +kernel
theorem dX12_own_38 : decode cX12_own 38 = .ok (.iaload, 1) := by decide +kernel
theorem dX12_own_39 : decode cX12_own 39 = .ok (.ireturn, 1) := by decide +kernel
abbrev pb_sX12_own (dC : Nat → ClassId) (dI : Nat → Nat → Nat) (A9 : Nat → Prop) (h0 : Nat) (mi : Nat → Int32) (mr : Nat → Nat) (km : Nat → ClassId) (fm_must : Nat → Int32) (fm_least : Nat → Int32) (fm_pin : Nat → Int32) (fm_ways : Nat → Int32) (fm_verdict : Nat → Int32) (fm_row : Nat → Int32) (fm_struck : Nat → Int32) (fm_reportKnown : Nat → Int32) (fm_reportPlace : Nat → Int32) (fm_reportMonth : Nat → Int32) (fm_reportDay : Nat → Int32) (fm_reportKind : Nat → Int32) (fm_trust : Nat → Int32) (fm_letter : Nat → Int32) (fm_official : Nat → Int32) (fm_deedMonth : Nat → Int32) (fm_deedDay : Nat → Int32) (fm_deedLong : Nat → Int32) (fm_deedKind : Nat → Int32) (fm_kept : Nat → Int32) (fm_tape : Nat → Int32) (fm_aside : Nat → Int32) (fm_worth : Nat → Int32) (fm_out : Nat → Int32) (p1 : Int32) (p2 : Int32) (p3 : Int32) (w0_37 : Int32) (w0_41 : Int32) (w0_42 : Int32) (z1 : Nat → Int32) (z2 : Nat → Int32) (z3 : Nat → Int32) (z4 : Nat → Int32) (z5 : Nat → Int32) (z6 : Nat → Int32) (z15 : Nat → Int32) (t : State) : Prop := gi w0_37 0 1 ∧ gi w0_41 0 24 ∧ ga z6 24 0 23 ∧ va_P (dC, dI) vwCl (MWn h0 mr km (mi 0) (mi 1) (mi 2) (mi 3) (mi 4) (mi 5) (mi 6) (mi 7) (mi 10) (mi 17) (mi 23) (mi 24) (mi 26) (mi 27) (mi 28) (mi 29) (mi 30) (mi 31) (mi 32) (mi 33) w0_37 w0_41 w0_42 (mi 43) (mi 44) (mi 45) (mi 47) (mi 48) (mi 49) (mi 50) (mi 51) (mi 54) (mi 56) fm_trust fm_letter fm_reportPlace fm_reportKind fm_struck fm_reportMonth fm_reportDay fm_reportKnown fm_deedMonth fm_deedDay fm_deedLong fm_deedKind fm_kept fm_tape z1 z2 z3 z4 z5 z6 z15 fm_aside fm_worth fm_out) t.heap ∧ va_D A9 (MWn h0 mr km (mi 0) (mi 1) (mi 2) (mi 3) (mi 4) (mi 5) (mi 6) (mi 7) (mi 10) (mi 17) (mi 23) (mi 24) (mi 26) (mi 27) (mi 28) (mi 29) (mi 30) (mi 31) (mi 32) (mi 33) w0_37 w0_41 w0_42 (mi 43) (mi 44) (mi 45) (mi 47) (mi 48) (mi 49) (mi 50) (mi 51) (mi 54) (mi 56) fm_trust fm_letter fm_reportPlace fm_reportKind fm_struck fm_reportMonth fm_reportDay fm_reportKnown fm_deedMonth fm_deedDay fm_deedLong fm_deedKind fm_kept fm_tape z1 z2 z3 z4 z5 z6 z15 fm_aside fm_worth fm_out)
set_option maxHeartbeats 4000000 in
set_option maxRecDepth 100000 in
theorem sX12_own (l : Launch) (dC : Nat → ClassId) (dI : Nat → Nat → Nat) (sz : Nat) (h0 : Nat) (mi : Nat → Int32) (mr : Nat → Nat) (km : Nat → ClassId) (fm_must : Nat → Int32) (fm_least : Nat → Int32) (fm_pin : Nat → Int32) (fm_ways : Nat → Int32) (fm_verdict : Nat → Int32) (fm_row : Nat → Int32) (fm_struck : Nat → Int32) (fm_reportKnown : Nat → Int32) (fm_reportPlace : Nat → Int32) (fm_reportMonth : Nat → Int32) (fm_reportDay : Nat → Int32) (fm_reportKind : Nat → Int32) (fm_trust : Nat → Int32) (fm_letter : Nat → Int32) (fm_official : Nat → Int32) (fm_deedMonth : Nat → Int32) (fm_deedDay : Nat → Int32) (fm_deedLong : Nat → Int32) (fm_deedKind : Nat → Int32) (fm_kept : Nat → Int32) (fm_tape : Nat → Int32) (fm_aside : Nat → Int32) (fm_worth : Nat → Int32) (fm_out : Nat → Int32) (p1 : Int32) (p2 : Int32) (p3 : Int32) (gmi_0 : gi (mi 0) 0 24) (gmi_1 : gi (mi 1) 0 5) (gmi_2 : gi (mi 2) 0 5) (gmi_4 : gi (mi 4) 0 1) (gmi_7 : gi (mi 7) 0 6) (gmi_10 : gi (mi 10) 0 24) (gmi_17 : gi (mi 17) 0 8) (gmi_23 : gi (mi 23) 0 300) (gmi_24 : gi (mi 24) 0 1) (gmi_26 : gi (mi 26) 0 1600) (gmi_29 : gi (mi 29) 0 1600) (gmi_30 : gi (mi 30) 0 1600) (gmi_33 : gi (mi 33) 0 1) (gmi_37 : gi (mi 37) 0 1) (gmi_41 : gi (mi 41) 0 24) (gmi_50 : gi (mi 50) 0 1) (gmi_51 : gi (mi 51) 0 1) (gmi_56 : gi (mi 56) 0 80) (gfm_row : ga fm_row 24 0 23) (gfm_struck : ga fm_struck 24 0 1) (gfm_reportKnown : ga fm_reportKnown 24 0 999) (gfm_reportPlace : ga fm_reportPlace 24 0 5) (gfm_reportMonth : ga fm_reportMonth 24 0 23) (gfm_reportDay : ga fm_reportDay 24 0 999) : Met l yX12_own (.code yX12_own cX12_own 4 (some .int) :: wsGB) ({ frames := 7, cells := 0, slots := 0, locals := 162 }) (va_Pc [.ref h0, .int p1, .int p2, .int p3] (fun U => U.heap.size = sz ∧ va_P (dC, dI) vwCl (MWn h0 mr km (mi 0) (mi 1) (mi 2) (mi 3) (mi 4) (mi 5) (mi 6) (mi 7) (mi 10) (mi 17) (mi 23) (mi 24) (mi 26) (mi 27) (mi 28) (mi 29) (mi 30) (mi 31) (mi 32) (mi 33) (mi 37) (mi 41) (mi 42) (mi 43) (mi 44) (mi 45) (mi 47) (mi 48) (mi 49) (mi 50) (mi 51) (mi 54) (mi 56) fm_trust fm_letter fm_reportPlace fm_reportKind fm_struck fm_reportMonth fm_reportDay fm_reportKnown fm_deedMonth fm_deedDay fm_deedLong fm_deedKind fm_kept fm_tape fm_must fm_least fm_pin fm_ways fm_verdict fm_row fm_official fm_aside fm_worth fm_out) U.heap ∧ va_K (dC, dI) vwCl (MT km) U ∧ va_D (fun _ => True) (MWn h0 mr km (mi 0) (mi 1) (mi 2) (mi 3) (mi 4) (mi 5) (mi 6) (mi 7) (mi 10) (mi 17) (mi 23) (mi 24) (mi 26) (mi 27) (mi 28) (mi 29) (mi 30) (mi 31) (mi 32) (mi 33) (mi 37) (mi 41) (mi 42) (mi 43) (mi 44) (mi 45) (mi 47) (mi 48) (mi 49) (mi 50) (mi 51) (mi 54) (mi 56) fm_trust fm_letter fm_reportPlace fm_reportKind fm_struck fm_reportMonth fm_reportDay fm_reportKnown fm_deedMonth fm_deedDay fm_deedLong fm_deedKind fm_kept fm_tape fm_must fm_least fm_pin fm_ways fm_verdict fm_row fm_official fm_aside fm_worth fm_out))) (va_Qi (fun (r : Int32) (u : Unit) => gi r (-2147483648) 2147483647) (fun _ t => ∃ (w0_37 : Int32) (w0_41 : Int32) (w0_42 : Int32) (z1 : Nat → Int32) (z2 : Nat → Int32) (z3 : Nat → Int32) (z4 : Nat → Int32) (z5 : Nat → Int32) (z6 : Nat → Int32) (z15 : Nat → Int32), pb_sX12_own dC dI (va_A (MWn h0 mr km (mi 0) (mi 1) (mi 2) (mi 3) (mi 4) (mi 5) (mi 6) (mi 7) (mi 10) (mi 17) (mi 23) (mi 24) (mi 26) (mi 27) (mi 28) (mi 29) (mi 30) (mi 31) (mi 32) (mi 33) (mi 37) (mi 41) (mi 42) (mi 43) (mi 44) (mi 45) (mi 47) (mi 48) (mi 49) (mi 50) (mi 51) (mi 54) (mi 56) fm_trust fm_letter fm_reportPlace fm_reportKind fm_struck fm_reportMonth fm_reportDay fm_reportKnown fm_deedMonth fm_deedDay fm_deedLong fm_deedKind fm_kept fm_tape fm_must fm_least fm_pin fm_ways fm_verdict fm_row fm_official fm_aside fm_worth fm_out) sz) h0 mi mr km fm_must fm_least fm_pin fm_ways fm_verdict fm_row fm_struck fm_reportKnown fm_reportPlace fm_reportMonth fm_reportDay fm_reportKind fm_trust fm_letter fm_official fm_deedMonth fm_deedDay fm_deedLong fm_deedKind fm_kept fm_tape fm_aside fm_worth fm_out p1 p2 p3 w0_37 w0_41 w0_42 z1 z2 z3 z4 z5 z6 z15 t) (va_A (MWn h0 mr km (mi 0) (mi 1) (mi 2) (mi 3) (mi 4) (mi 5) (mi 6) (mi 7) (mi 10) (mi 17) (mi 23) (mi 24) (mi 26) (mi 27) (mi 28) (mi 29) (mi 30) (mi 31) (mi 32) (mi 33) (mi 37) (mi 41) (mi 42) (mi 43) (mi 44) (mi 45) (mi 47) (mi 48) (mi 49) (mi 50) (mi 51) (mi 54) (mi 56) fm_trust fm_letter fm_reportPlace fm_reportKind fm_struck fm_reportMonth fm_reportDay fm_reportKnown fm_deedMonth fm_deedDay fm_deedLong fm_deedKind fm_kept fm_tape fm_must fm_least fm_pin fm_ways fm_verdict fm_row fm_official fm_aside fm_worth fm_out) sz)) 0 0 (va_A (MWn h0 mr km (mi 0) (mi 1) (mi 2) (mi 3) (mi 4) (mi 5) (mi 6) (mi 7) (mi 10) (mi 17) (mi 23) (mi 24) (mi 26) (mi 27) (mi 28) (mi 29) (mi 30) (mi 31) (mi 32) (mi 33) (mi 37) (mi 41) (mi 42) (mi 43) (mi 44) (mi 45) (mi 47) (mi 48) (mi 49) (mi 50) (mi 51) (mi 54) (mi 56) fm_trust fm_letter fm_reportPlace fm_reportKind fm_struck fm_reportMonth fm_reportDay fm_reportKnown fm_deedMonth fm_deedDay fm_deedLong fm_deedKind fm_kept fm_tape fm_must fm_least fm_pin fm_ways fm_verdict fm_row fm_official fm_aside fm_worth fm_out) sz) := by
  refine Met.ofW (cc := cX12_own) (maxL := 4) (ret := (some .int)) (by decide) rfl ?_
  intro p e s m args below meth c s₁ B hml hv
  obtain ⟨rfl, hsz, hP, hK, hD0⟩ := hv
  have hx := B.exec
  have hb := B.bytes
  have hr := B.returns
  have hts := atoms_spec (ws := (.code yX12_own cX12_own 4 (some .int) :: wsGB)) B.pre
  have hown : s.vm.findClass RX12 = some m.cls := findClass_of_methodNamed B.named
  have hlocks := B.notSynchronized
  subst hsz
  have hD := hD0.self (sz := s.heap.size)
  generalize hAe : va_A (MWn h0 mr km (mi 0) (mi 1) (mi 2) (mi 3) (mi 4) (mi 5) (mi 6) (mi 7) (mi 10) (mi 17) (mi 23) (mi 24) (mi 26) (mi 27) (mi 28) (mi 29) (mi 30) (mi 31) (mi 32) (mi 33) (mi 37) (mi 41) (mi 42) (mi 43) (mi 44) (mi 45) (mi 47) (mi 48) (mi 49) (mi 50) (mi 51) (mi 54) (mi 56) fm_trust fm_letter fm_reportPlace fm_reportKind fm_struck fm_reportMonth fm_reportDay fm_reportKnown fm_deedMonth fm_deedDay fm_deedLong fm_deedKind fm_kept fm_tape fm_must fm_least fm_pin fm_ways fm_verdict fm_row fm_official fm_aside fm_worth fm_out) s.heap.size = A at hD ⊢
  have hA : ∀ q : Nat, s.heap.size ≤ q → A q := fun q h => by rw [← hAe]; exact Or.inr h
  have hS : va_S A s.heap s.heap [] := va_S.rf
  have hl := lv_entry ([.ref h0, .int p1, .int p2, .int p3]) (n := 4) (Nat.le_of_ble_eq_true rfl)
  rw [lg_entry_eq]
  generalize (lg_sl ([.ref h0, .int p1, .int p2, .int p3]) ++ List.replicate (4 - (lg_sl ([.ref h0, .int p1, .int p2, .int p3])).length) Slot.unset).toArray = ls at hl ⊢
  have hl : lv_has ls 4 [(0, .ref h0), (1, .int p1), (2, .int p2), (3, .int p3)] := hl
  refine lv_aload_n hx hb dX12_own_0 rfl (lv_at hl 0 rfl) ?_
  refine lv_iload_n hx hb dX12_own_1 rfl (lv_at hl 1 rfl) ?_
  refine va_calli (va_runV (As := [.int p1]) (rest := []) ⟨hx, hb, hml, hown, hts⟩ (sX12_isTime l dC dI h0 mi mr km fm_trust fm_letter fm_reportPlace fm_reportKind fm_struck fm_reportMonth fm_reportDay fm_reportKnown fm_deedMonth fm_deedDay fm_deedLong fm_deedKind fm_kept fm_tape fm_must fm_least fm_pin fm_ways fm_verdict fm_row fm_official fm_aside fm_worth fm_out p1 gmi_0 gmi_1 gmi_2 gmi_4 gmi_7 gmi_10 gmi_17 gmi_23 gmi_24 gmi_26 gmi_29 gmi_30 gmi_33 gmi_37 gmi_41 gmi_50 gmi_51 gmi_56) (cwV 1 hts (gz_gV mGB_256 mGB_257 mGB_258 mGB_1 mGB_259 goodGB) rfl rfl rfl (by decide +kernel) ⟨Nat.le_of_ble_eq_true rfl, Nat.le_of_ble_eq_true rfl⟩) ⟨bl_R, mw_recv hK hP, fun U hU hW => ⟨rfl, by rw [hU]; exact hP, va_K.moved hW.alike hK⟩⟩ rfl rfl hl.1 rfl (lv_room (Nat.le_of_ble_eq_true rfl)) dX12_own_2 ⟨Nat.zero_le _, Nat.zero_le _⟩) hS (fun q _ h => h.elim) (fun q h => h.elim) (fun r_55 u t H1 locs ht hvm hw hB hz1 hk1 hS => ?_)
  obtain ⟨hw, hE⟩ := hw
  have hP := gz_keep hP hk1
  generalize H1 = H at hP hS ⊢
  have gr_55 : gi r_55 0 1 := hw.1
  have hqr_55 := hw.2
  refine lv_if_eq (tgt := 24) hx hb dX12_own_5 (by decide) (fun c_56 => ?_) (fun c_56 => ?_)
  · have g_57 : gi r_55 0 0 := gi_eq c_56 (gi_c 0 0 (by decide))
    refine lv_bipush (v := (-2)) hx hb dX12_own_24 (by decide) ?_
    exact W.iret (v := (-2)) hx hb hr (fun t ht hW => ⟨⟨(-2), (), rfl, (gi_any (-2)), (mi 37), (mi 41), (mi 42), fm_must, fm_least, fm_pin, fm_ways, fm_verdict, fm_row, fm_official, gmi_37, gmi_41, gfm_row, by rw [ht]; exact hP, hD⟩, hS.F ht⟩) hS.2.2 dX12_own_26
  · have g_58 : gi r_55 1 1 := gi_ne_lo c_56 gr_55 (gi_c 0 0 (by decide)) (by decide)
    have g_59 : gi p1 0 999 := gi_cap (gi_any p1) (hqr_55 (gz_one g_58)) (by decide)
    refine lv_aload_n hx hb dX12_own_8 rfl (lv_at hl 0 rfl) ?_
    refine lv_iload_n hx hb dX12_own_9 rfl (lv_at hl 2 rfl) ?_
    refine va_calli (va_runV (As := [.int p2]) (rest := []) ⟨hx, hb, hml, hown, hts⟩ (sX12_isPlace l dC dI h0 mi mr km fm_trust fm_letter fm_reportPlace fm_reportKind fm_struck fm_reportMonth fm_reportDay fm_reportKnown fm_deedMonth fm_deedDay fm_deedLong fm_deedKind fm_kept fm_tape fm_must fm_least fm_pin fm_ways fm_verdict fm_row fm_official fm_aside fm_worth fm_out p2 gmi_0 gmi_1 gmi_2 gmi_4 gmi_7 gmi_10 gmi_17 gmi_23 gmi_24 gmi_26 gmi_29 gmi_30 gmi_33 gmi_37 gmi_41 gmi_50 gmi_51 gmi_56) (cwV 1 hts (gz_gV mGB_224 mGB_225 mGB_226 mGB_1 mGB_227 goodGB) rfl rfl rfl (by decide +kernel) ⟨Nat.le_of_ble_eq_true rfl, Nat.le_of_ble_eq_true rfl⟩) ⟨bl_R, mw_recv hK hP, fun U hU hW => ⟨rfl, by rw [hU]; exact hP, va_K.moved hW.alike hK⟩⟩ rfl rfl hl.1 rfl (lv_room (Nat.le_of_ble_eq_true rfl)) dX12_own_10 ⟨Nat.zero_le _, Nat.zero_le _⟩) hS (fun q _ h => h.elim) (fun q h => h.elim) (fun r_60 u t H1 locs ht hvm hw hB hz1 hk1 hS => ?_)
    obtain ⟨hw, hE⟩ := hw
    have hP := gz_keep hP hk1
    generalize H1 = H at hP hS ⊢
    have gr_60 : gi r_60 0 1 := hw.1
    have hqr_60 := hw.2
    refine lv_if_eq (tgt := 24) hx hb dX12_own_13 (by decide) (fun c_61 => ?_) (fun c_61 => ?_)
    · have g_62 : gi r_60 0 0 := gi_eq c_61 (gi_c 0 0 (by decide))
      refine lv_bipush (v := (-2)) hx hb dX12_own_24 (by decide) ?_
      exact W.iret (v := (-2)) hx hb hr (fun t ht hW => ⟨⟨(-2), (), rfl, (gi_any (-2)), (mi 37), (mi 41), (mi 42), fm_must, fm_least, fm_pin, fm_ways, fm_verdict, fm_row, fm_official, gmi_37, gmi_41, gfm_row, by rw [ht]; exact hP, hD⟩, hS.F ht⟩) hS.2.2 dX12_own_26
    · have g_63 : gi r_60 1 1 := gi_ne_lo c_61 gr_60 (gi_c 0 0 (by decide)) (by decide)
      have g_64 : gi p2 0 5 := gi_cap (gi_any p2) (hqr_60 (gz_one g_63)) (by decide)
      refine lv_aload_n hx hb dX12_own_16 rfl (lv_at hl 0 rfl) ?_
      refine lv_iload_n hx hb dX12_own_17 rfl (lv_at hl 3 rfl) ?_
      refine va_calli (va_runV (As := [.int p3]) (rest := []) ⟨hx, hb, hml, hown, hts⟩ (sX12_isBegin l dC dI h0 mi mr km fm_trust fm_letter fm_reportPlace fm_reportKind fm_struck fm_reportMonth fm_reportDay fm_reportKnown fm_deedMonth fm_deedDay fm_deedLong fm_deedKind fm_kept fm_tape fm_must fm_least fm_pin fm_ways fm_verdict fm_row fm_official fm_aside fm_worth fm_out p3 gmi_0 gmi_1 gmi_2 gmi_4 gmi_7 gmi_10 gmi_17 gmi_23 gmi_24 gmi_26 gmi_29 gmi_30 gmi_33 gmi_37 gmi_41 gmi_50 gmi_51 gmi_56) (cwV 1 hts (gz_gV mGB_354 mGB_355 mGB_356 mGB_1 mGB_357 goodGB) rfl rfl rfl (by decide +kernel) ⟨Nat.le_of_ble_eq_true rfl, Nat.le_of_ble_eq_true rfl⟩) ⟨bl_R, mw_recv hK hP, fun U hU hW => ⟨rfl, by rw [hU]; exact hP, va_K.moved hW.alike hK⟩⟩ rfl rfl hl.1 rfl (lv_room (Nat.le_of_ble_eq_true rfl)) dX12_own_18 ⟨Nat.zero_le _, Nat.zero_le _⟩) hS (fun q _ h => h.elim) (fun q h => h.elim) (fun r_65 u t H1 locs ht hvm hw hB hz1 hk1 hS => ?_)
      have hP := gz_keep hP hk1
      generalize H1 = H at hP hS ⊢
      have gr_65 : gi r_65 0 1 := hw.1
      have hqr_65 := hw.2
      refine lv_if_ne (tgt := 27) hx hb dX12_own_21 (by decide) (fun c_66 => ?_) (fun c_66 => ?_)
      · have g_67 : gi r_65 1 1 := gi_ne_lo c_66 gr_65 (gi_c 0 0 (by decide)) (by decide)
        have g_68 : gi p3 0 24 := gi_cap (gi_any p3) (hqr_65 (gz_one g_67)) (by decide)
        refine lv_aload_n hx hb dX12_own_27 rfl (lv_at hl 0 rfl) ?_
        refine lv_iload_n hx hb dX12_own_28 rfl (lv_at hl 1 rfl) ?_
        refine lv_iload_n hx hb dX12_own_29 rfl (lv_at hl 2 rfl) ?_
        have hFc := gz_fullF hD hS hA
        refine va_callv (va_runV (As := [.int p1, .int p2]) (rest := []) ⟨hx, hb, hml, hown, hts⟩ (sX12_ownBy l dC dI H.size h0 mi mr km fm_must fm_least fm_pin fm_ways fm_verdict fm_row fm_struck fm_reportKnown fm_reportPlace fm_reportMonth fm_reportDay fm_reportKind fm_trust fm_letter fm_official fm_deedMonth fm_deedDay fm_deedLong fm_deedKind fm_kept fm_tape fm_aside fm_worth fm_out p1 p2 gmi_0 gmi_1 gmi_2 gmi_4 gmi_7 gmi_10 gmi_17 gmi_23 gmi_24 gmi_26 gmi_29 gmi_30 gmi_33 gmi_37 gmi_41 gmi_50 gmi_51 gmi_56 gfm_row gfm_struck gfm_reportKnown gfm_reportPlace gfm_reportMonth gfm_reportDay) (cwV 2 hts (gz_gV mGB_510 mGB_511 mGB_512 mGB_1 mGB_513 goodGB) rfl rfl rfl (by decide +kernel) ⟨Nat.le_of_ble_eq_true rfl, Nat.le_of_ble_eq_true rfl⟩) ⟨bl_W, mw_recv hK hP, fun U hU hW => ⟨rfl, by rw [hU], by rw [hU]; exact hP, va_K.moved hW.alike hK, hD.weaken (fun _ _ _ _ => trivial)⟩⟩ rfl rfl hl.1 rfl (lv_room (Nat.le_of_ble_eq_true rfl)) dX12_own_30 ⟨Nat.zero_le _, Nat.zero_le _⟩) hS (fun q _ h => hFc q h) hFc (fun u t H1 locs ht hvm hw hB hz1 hk1 hS => ?_)
        obtain ⟨y_70, y_71, y_72, f_73, f_74, f_75, f_76, f_77, f_78, f_79, hB⟩ := hB
        obtain ⟨gy_70, gy_71, gf_78, hP1, hD1⟩ := hB
        rw [ht] at hP1
        have hD : va_D A (MWn h0 mr km (mi 0) (mi 1) (mi 2) (mi 3) (mi 4) (mi 5) (mi 6) (mi 7) (mi 10) (mi 17) (mi 23) (mi 24) (mi 26) (mi 27) (mi 28) (mi 29) (mi 30) (mi 31) (mi 32) (mi 33) y_70 y_71 y_72 (mi 43) (mi 44) (mi 45) (mi 47) (mi 48) (mi 49) (mi 50) (mi 51) (mi 54) (mi 56) fm_trust fm_letter fm_reportPlace fm_reportKind fm_struck fm_reportMonth fm_reportDay fm_reportKnown fm_deedMonth fm_deedDay fm_deedLong fm_deedKind fm_kept fm_tape f_73 f_74 f_75 f_76 f_77 f_78 f_79 fm_aside fm_worth fm_out) := gz_fullD hFc hD1
        have hP : va_P (dC, dI) vwCl (MWn h0 mr km (mi 0) (mi 1) (mi 2) (mi 3) (mi 4) (mi 5) (mi 6) (mi 7) (mi 10) (mi 17) (mi 23) (mi 24) (mi 26) (mi 27) (mi 28) (mi 29) (mi 30) (mi 31) (mi 32) (mi 33) y_70 y_71 y_72 (mi 43) (mi 44) (mi 45) (mi 47) (mi 48) (mi 49) (mi 50) (mi 51) (mi 54) (mi 56) fm_trust fm_letter fm_reportPlace fm_reportKind fm_struck fm_reportMonth fm_reportDay fm_reportKnown fm_deedMonth fm_deedDay fm_deedLong fm_deedKind fm_kept fm_tape f_73 f_74 f_75 f_76 f_77 f_78 f_79 fm_aside fm_worth fm_out) H1 := hP1
        generalize H1 = H at hP hS ⊢
        refine lv_aload_n hx hb dX12_own_33 rfl (lv_at hl 0 rfl) ?_
        refine va_get (D := (dC, dI)) (ci := 12) (v := .ref (mr 20)) (C := RX12) (T := TX12) (N := 57) hx hb hts (fun w h => List.mem_cons_of_mem _ (jnGB_X12 w h)) hown hK hP 0 rfl rfl 46 (by decide) (hts _ (List.mem_cons_of_mem _ mGB_36)) (fun _ h9 => h9) rfl dX12_own_34 ?_
        refine lv_iload_n hx hb dX12_own_37 rfl (lv_at hl 3 rfl) ?_
        refine va_iald hx hb hK hP 21 20 rfl rfl (gi_in g_68 (by decide)) dX12_own_38 ?_
        refine lv_topi (fun x_80 ex_80 => ?_)
        exact W.iret (v := x_80) hx hb hr (fun t ht hW => ⟨⟨x_80, (), rfl, (gi_any x_80), y_70, y_71, y_72, f_73, f_74, f_75, f_76, f_77, f_78, f_79, gy_70, gy_71, gf_78, by rw [ht]; exact hP, hD⟩, hS.F ht⟩) hS.2.2 dX12_own_39
      · have g_81 : gi r_65 0 0 := gi_eq c_66 (gi_c 0 0 (by decide))
        refine lv_bipush (v := (-2)) hx hb dX12_own_24 (by decide) ?_
        exact W.iret (v := (-2)) hx hb hr (fun t ht hW => ⟨⟨(-2), (), rfl, (gi_any (-2)), (mi 37), (mi 41), (mi 42), fm_must, fm_least, fm_pin, fm_ways, fm_verdict, fm_row, fm_official, gmi_37, gmi_41, gfm_row, by rw [ht]; exact hP, hD⟩, hS.F ht⟩) hS.2.2 dX12_own_26
