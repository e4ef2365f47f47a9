theorem dX12_blind_0 : decode cX12_blind 0 = .ok (.aload_n 0, 1) := by decide +kernel
theorem dX12_blind_1 : decode cX12_blind 1 = .ok (.iload_n 1, 1) := by decide +kernel
theorem dX12_blind_2 : decode cX12_blind 2 = .ok (.invokevirtual 359, 3) := by decide +kernel
theorem dX12_blind_5 : decode cX12_blind 5 = .ok (.ifCond .eq 19, 3) := by decide +kernel
theorem dX12_blind_8 : decode cX12_blind 8 = .ok (.iload_n 2, 1) := by decide +kernel
theorem dX12_blind_9 : decode cX12_blind 9 = .ok (.i2l, 1) := by decide +kernel
theorem dX12_blind_10 : decode cX12_blind 10 = .ok (.lconst 1, 1) := by decide +kernel
theorem dX12_blind_11 : decode cX12_blind 11 = .ok (.aload_n 0, 1) := by decide +kernel
theorem dX12_blind_12 : decode cX12_blind 12 = .ok (.getfield 117, 3) := by decide +kernel
theorem dX12_blind_15 : decode cX12_blind 15 = .ok (.iconst 1, 1) := by decide +kernel
theorem dX12_blind_16 : decode cX12_blind 16 = .ok (.isub, 1) := by decide +kernel
theorem dX12_blind_17 : decode cX12_blind 17 = .ok (.i2l, 1) := by decide +kernel
theorem dX12_blind_18 : decode cX12_blind 18 = .ok (.invokestatic 102, 3) := by decide +kernel
theorem dX12_blind_21 : decode cX12_blind 21 = .ok (.ifCond .ne 6, 3) := by decide +kernel
theorem dX12_blind_24 : decode cX12_blind 24 = .ok (.bipush (-2), 2) := by decide +kernel
theorem dX12_blind_26 : decode cX12_blind 26 = .ok (.ireturn, 1) := by decide +kernel
theorem dX12_blind_27 : decode cX12_blind 27 = .ok (.iconst 0, 1) := by decide +kernel
theorem dX12_blind_28 : decode cX12_blind 28 = .ok (.istore_n 3, 1) := by decide +kernel
theorem dX12_blind_29 : decode cX12_blind 29 = .ok (.iconst 0, 1) := by decide +kernel
theorem dX12_blind_30 : decode cX12_blind 30 = .ok (.istore 4, 2) := by decide +kernel
theorem dX12_blind_32 : decode cX12_blind 32 = .ok (.iload 4, 2) := by decide +kernel
theorem dX12_blind_34 : decode cX12_blind 34 = .ok (.aload_n 0, 1) := by decide +kernel
theorem dX12_blind_35 : decode cX12_blind 35 = .ok (.getfield 141, 3) := by decide +kernel
theorem dX12_blind_38 : decode cX12_blind 38 = .ok (.if_icmp .ge 48, 3) := by decide +kernel
theorem dX12_blind_41 : decode cX12_blind 41 = .ok (.aload_n 0, 1) := by decide +kernel
theorem dX12_blind_42 : decode cX12_blind 42 = .ok (.iload 4, 2) := by decide +kernel
theorem dX12_blind_44 : decode cX12_blind 44 = .ok (.iload_n 1, 1) := by decide +kernel
theorem dX12_blind_45 : decode cX12_blind 45 = .ok (.invokevirtual 341, 3) := by decide +kernel
theorem dX12_blind_48 : decode cX12_blind 48 = .ok (.ifCond .eq 32, 3) := by decide +kernel
theorem dX12_blind_51 : decode cX12_blind 51 = .ok (.aload_n 0, 1) := by decide +kernel
theorem dX12_blind_52 : decode cX12_blind 52 = .ok (.getfield 26, 3) := by decide +kernel
theorem dX12_blind_55 : decode cX12_blind 55 = .ok (.iload 4, 2) := by decide +kernel
theorem dX12_blind_57 : decode cX12_blind 57 = .ok (.iaload, 1) := by decide +kernel
theorem dX12_blind_58 : decode cX12_blind 58 = .ok (.iload_n 2, 1) := by decide +kernel
theorem dX12_blind_59 : decode cX12_blind 59 = .ok (.if_icmp .eq 6, 3) := by decide +kernel
theorem dX12_blind_62 : decode cX12_blind 62 = .ok (.goto 18, 3) := by decide +kernel
theorem dX12_blind_65 : decode cX12_blind 65 = .ok (.aload_n 0, 1) := by decide +kernel
theorem dX12_blind_66 : decode cX12_blind 66 = .ok (.getfield 19, 3) := by decide +kernel
theorem dX12_blind_69 : decode cX12_blind 69 = .ok (.iload 4, 2) := by decide +kernel
theorem dX12_blind_71 : decode cX12_blind 71 = .ok (.iaload, 1) := by decide +kernel
theorem dX12_blind_72 : decode cX12_blind 72 = .ok (.iconst 2, 1) := by decide +kernel
theorem dX12_blind_73 : decode cX12_blind 73 = .ok (.if_icmp .eq 5, 3) := by decide +kernel
theorem dX12_blind_76 : decode cX12_blind 76 = .ok (.iconst 0, 1) := by decide +kernel
theorem dX12_blind_77 : decode cX12_blind 77 = .ok (.ireturn, 1) := by decide +kernel
theorem dX12_blind_78 : decode cX12_blind 78 = .ok (.iconst 1, 1) := by decide +kernel
theorem dX12_blind_79 : decode cX12_blind 79 = .ok (.istore_n 3, 1) := by decide +kernel
theorem dX12_blind_80 : decode cX12_blind 80 = .ok (.iinc 4 1, 3) := by decide +kernel
theorem dX12_blind_83 : decode cX12_blind 83 = .ok (.goto (-51), 3) := by decide +kernel
theorem dX12_blind_86 : decode cX12_blind 86 = .ok (.iload_n 3, 1) := by decide +kernel
theorem dX12_blind_87 : decode cX12_blind 87 = .ok (.ifCond .eq 7, 3) := by decide +kernel
theorem dX12_blind_90 : decode cX12_blind 90 = .ok (.iconst 1, 1) := by decide +kernel
theorem dX12_blind_91 : decode cX12_blind 91 = .ok (.goto 4, 3) := by decide +kernel
theorem dX12_blind_94 : decode cX12_blind 94 = .ok (.iconst 0, 1) := by decide +kernel
theorem dX12_blind_95 : decode cX12_blind 95 = .ok (.ireturn, 1) := by decide +kernel
set_option maxHeartbeats 4000000 in
set_option maxRecDepth 100000 in
theorem lp_sX12_blind {p : Program} {l : Launch} {e : Env} {R : Room} {s : State} {m : MethodId} {args : Array Value} {below : List Frame} {meth : Method} {c : Code} {Q : State → Prop} {A : Nat → Prop} {cells slots : Nat} {dC : Nat → ClassId} {dI : Nat → Nat → Nat} (h0 : Nat) (mi : Nat → Int32) (mr : Nat → Nat) (km_must : ClassId) (fm_must : Nat → Int32) (km_least : ClassId) (fm_least : Nat → Int32) (km_pin : ClassId) (fm_pin : Nat → Int32) (km_ways : ClassId) (fm_ways : Nat → Int32) (km_verdict : ClassId) (fm_verdict : Nat → Int32) (km_row : ClassId) (fm_row : Nat → Int32) (km_struck : ClassId) (fm_struck : Nat → Int32) (km_reportKnown : ClassId) (fm_reportKnown : Nat → Int32) (km_reportPlace : ClassId) (fm_reportPlace : Nat → Int32) (km_reportMonth : ClassId) (fm_reportMonth : Nat → Int32) (km_reportDay : ClassId) (fm_reportDay : Nat → Int32) (km_reportKind : ClassId) (fm_reportKind : Nat → Int32) (km_trust : ClassId) (fm_trust : Nat → Int32) (km_letter : ClassId) (fm_letter : Nat → Int32) (p1 : Int32) (p2 : Int32) (gmi_0 : gi (mi 0) 0 24) (gmi_1 : gi (mi 1) 0 5) (gmi_2 : gi (mi 2) 0 5) (gmi_4 : gi (mi 4) 0 1) (gmi_7 : gi (mi 7) 0 6) (gmi_10 : gi (mi 10) 0 24) (gmi_17 : gi (mi 17) 0 8) (gmi_23 : gi (mi 23) 0 300) (gmi_24 : gi (mi 24) 0 1) (gmi_26 : gi (mi 26) 0 1600) (gmi_29 : gi (mi 29) 0 1600) (gmi_30 : gi (mi 30) 0 1600) (gmi_33 : gi (mi 33) 0 1) (gmi_37 : gi (mi 37) 0 1) (gmi_41 : gi (mi 41) 0 24) (gmi_50 : gi (mi 50) 0 1) (gmi_51 : gi (mi 51) 0 1) (gmi_56 : gi (mi 56) 0 80) (gfm_row : ga fm_row 24 0 23) (gfm_struck : ga fm_struck 24 0 1) (gfm_reportKnown : ga fm_reportKnown 24 0 999) (gfm_reportPlace : ga fm_reportPlace 24 0 5) (gfm_reportMonth : ga fm_reportMonth 24 0 23) (gfm_reportDay : ga fm_reportDay 24 0 999) (hx : p.tables.exec = Jvm.exec) (hb : c.code = cX12_blind) (hml : c.maxLocals = 5) (hown : s.vm.findClass RX12 = some m.cls) (hts : ∀ w ∈ ((.code yX12_blind cX12_blind 5 (some .int) :: wsGB) : List Cond), w.before args s = true) (hK : va_K (dC, dI) vwCl [(km_must, .int), (km_least, .int), (km_pin, .int), (km_ways, .int), (km_verdict, .int), (km_row, .int), (km_struck, .boolean), (km_reportKnown, .int), (km_reportPlace, .int), (km_reportMonth, .int), (km_reportDay, .int), (km_reportKind, .int), (km_trust, .int), (km_letter, .int)] s) (hRf : 2 ≤ R.frames) (hRl : 46 ≤ R.locals) (hRc : cells ≤ R.cells) (hRs : slots ≤ R.slots) (kr26 : ∀ (v : Int32) (H : Heap) (locs : List Loc) (ls : Array Slot), gi v (-2) (-2) → va_P (dC, dI) vwCl [(h0, .inr (12, fsMM mi mr)), ((mr 14), .inl (km_must, 25, .inl fm_must)), ((mr 15), .inl (km_least, 25, .inl fm_least)), ((mr 16), .inl (km_pin, 25, .inl fm_pin)), ((mr 17), .inl (km_ways, 6875, .inl fm_ways)), ((mr 18), .inl (km_verdict, 24, .inl fm_verdict)), ((mr 19), .inl (km_row, 24, .inl fm_row)), ((mr 4), .inl (km_struck, 24, .inl fm_struck)), ((mr 7), .inl (km_reportKnown, 24, .inl fm_reportKnown)), ((mr 2), .inl (km_reportPlace, 24, .inl fm_reportPlace)), ((mr 5), .inl (km_reportMonth, 24, .inl fm_reportMonth)), ((mr 6), .inl (km_reportDay, 24, .inl fm_reportDay)), ((mr 3), .inl (km_reportKind, 24, .inl fm_reportKind)), ((mr 0), .inl (km_trust, 6, .inl fm_trust)), ((mr 1), .inl (km_letter, 36, .inl fm_letter))] H → va_S A s.heap H locs → lv_has ls 5 [] → W p l e R s m args below meth c H locs cells slots Q (F0 m 26 ls [.int v])) (kr95 : ∀ (v : Int32) (H : Heap) (locs : List Loc) (ls : Array Slot), gi v 0 1 → va_P (dC, dI) vwCl [(h0, .inr (12, fsMM mi mr)), ((mr 14), .inl (km_must, 25, .inl fm_must)), ((mr 15), .inl (km_least, 25, .inl fm_least)), ((mr 16), .inl (km_pin, 25, .inl fm_pin)), ((mr 17), .inl (km_ways, 6875, .inl fm_ways)), ((mr 18), .inl (km_verdict, 24, .inl fm_verdict)), ((mr 19), .inl (km_row, 24, .inl fm_row)), ((mr 4), .inl (km_struck, 24, .inl fm_struck)), ((mr 7), .inl (km_reportKnown, 24, .inl fm_reportKnown)), ((mr 2), .inl (km_reportPlace, 24, .inl fm_reportPlace)), ((mr 5), .inl (km_reportMonth, 24, .inl fm_reportMonth)), ((mr 6), .inl (km_reportDay, 24, .inl fm_reportDay)), ((mr 3), .inl (km_reportKind, 24, .inl fm_reportKind)), ((mr 0), .inl (km_trust, 6, .inl fm_trust)), ((mr 1), .inl (km_letter, 36, .inl fm_letter))] H → va_S A s.heap H locs → lv_has ls 5 [] → W p l e R s m args below meth c H locs cells slots Q (F0 m 95 ls [.int v])) (kr77 : ∀ (v : Int32) (H : Heap) (locs : List Loc) (ls : Array Slot), gi v 0 0 → va_P (dC, dI) vwCl [(h0, .inr (12, fsMM mi mr)), ((mr 14), .inl (km_must, 25, .inl fm_must)), ((mr 15), .inl (km_least, 25, .inl fm_least)), ((mr 16), .inl (km_pin, 25, .inl fm_pin)), ((mr 17), .inl (km_ways, 6875, .inl fm_ways)), ((mr 18), .inl (km_verdict, 24, .inl fm_verdict)), ((mr 19), .inl (km_row, 24, .inl fm_row)), ((mr 4), .inl (km_struck, 24, .inl fm_struck)), ((mr 7), .inl (km_reportKnown, 24, .inl fm_reportKnown)), ((mr 2), .inl (km_reportPlace, 24, .inl fm_reportPlace)), ((mr 5), .inl (km_reportMonth, 24, .inl fm_reportMonth)), ((mr 6), .inl (km_reportDay, 24, .inl fm_reportDay)), ((mr 3), .inl (km_reportKind, 24, .inl fm_reportKind)), ((mr 0), .inl (km_trust, 6, .inl fm_trust)), ((mr 1), .inl (km_letter, 36, .inl fm_letter))] H → va_S A s.heap H locs → lv_has ls 5 [] → W p l e R s m args below meth c H locs cells slots Q (F0 m 77 ls [.int v])) : ∀ z : Nat, (∀ (v3 : Int32) (v4 : Int32) (H : Heap) (locs : List Loc) (ls : Array Slot), gi p1 0 999 → gi p2 1 23 → gi v3 0 1 → gi v4 0 24 → 49 + (-2) * v4.toInt < (z : Int) → va_P (dC, dI) vwCl [(h0, .inr (12, fsMM mi mr)), ((mr 14), .inl (km_must, 25, .inl fm_must)), ((mr 15), .inl (km_least, 25, .inl fm_least)), ((mr 16), .inl (km_pin, 25, .inl fm_pin)), ((mr 17), .inl (km_ways, 6875, .inl fm_ways)), ((mr 18), .inl (km_verdict, 24, .inl fm_verdict)), ((mr 19), .inl (km_row, 24, .inl fm_row)), ((mr 4), .inl (km_struck, 24, .inl fm_struck)), ((mr 7), .inl (km_reportKnown, 24, .inl fm_reportKnown)), ((mr 2), .inl (km_reportPlace, 24, .inl fm_reportPlace)), ((mr 5), .inl (km_reportMonth, 24, .inl fm_reportMonth)), ((mr 6), .inl (km_reportDay, 24, .inl fm_reportDay)), ((mr 3), .inl (km_reportKind, 24, .inl fm_reportKind)), ((mr 0), .inl (km_trust, 6, .inl fm_trust)), ((mr 1), .inl (km_letter, 36, .inl fm_letter))] H → va_S A s.heap H locs → lv_has ls 5 [(0, .ref h0), (1, .int p1), (2, .int p2), (3, .int v3), (4, .int v4)] → W p l e R s m args below meth c H locs cells slots Q (F0 m 32 ls [])) := by
  intro z
  induction z with
  | zero =>
    intro v3 v4 H locs ls gf_p1 gf_p2 gv3 gv4 hmu hP hS hl
    exact absurd hmu (by have hv41 := gv4.1; have hv42 := gv4.2; omega)
  | succ z ih =>
      intro v3 v4 H locs ls gf_p1 gf_p2 gv3 gv4 hmu hP hS hl
      refine lv_iload hx hb dX12_blind_32 (lv_at hl 4 rfl) ?_
      refine lv_aload_n hx hb dX12_blind_34 rfl (lv_at hl 0 rfl) ?_
      refine va_get (D := (dC, dI)) (ci := 12) (v := .int (mi 10)) (C := RX12) (T := TX12) (N := 57) hx hb hts (fun w h => List.mem_cons_of_mem _ (jnGB_X12 w h)) hown hK hP 0 rfl rfl 10 (by decide) (hts _ (List.mem_cons_of_mem _ mGB_111)) (fun _ h9 => h9) rfl dX12_blind_35 ?_
      refine lv_icmp_ge (tgt := 86) hx hb dX12_blind_38 (by decide) (fun c_479 => ?_) (fun c_479 => ?_)
      · refine lv_iload_n hx hb dX12_blind_86 rfl (lv_at hl 3 rfl) ?_
        refine lv_if_eq (tgt := 94) hx hb dX12_blind_87 (by decide) (fun c_480 => ?_) (fun c_480 => ?_)
        · have g_481 : gi v3 0 0 := gi_eq c_480 (gi_c 0 0 (by decide))
          refine lv_iconst (v := 0) hx hb dX12_blind_94 (by decide) ?_
          exact kr95 0 _ _ _ (gi_w (gi_c 0 0 (by decide)) (by decide)) hP hS (lv_sub hl [] rfl)
        · have g_482 : gi v3 1 1 := gi_ne_lo c_480 gv3 (gi_c 0 0 (by decide)) (by decide)
          refine lv_iconst (v := 1) hx hb dX12_blind_90 (by decide) ?_
          refine lv_goto (tgt := 95) hx hb dX12_blind_91 (by decide) ?_
          exact kr95 1 _ _ _ (gi_w (gi_c 1 1 (by decide)) (by decide)) hP hS (lv_sub hl [] rfl)
      · have g_483 : gi v4 0 23 := gi_lt_l (Int32.not_le.mp c_479) gv4 gmi_10 (by decide)
        have g_484 : gi (mi 10) 1 24 := gi_lt_r (Int32.not_le.mp c_479) gv4 gmi_10 (by decide)
        refine lv_aload_n hx hb dX12_blind_41 rfl (lv_at hl 0 rfl) ?_
        refine lv_iload hx hb dX12_blind_42 (lv_at hl 4 rfl) ?_
        refine lv_iload_n hx hb dX12_blind_44 rfl (lv_at hl 1 rfl) ?_
        have hPc := hP.sub (ws' := [(h0, .inr (12, fsMM mi mr)), ((mr 4), .inl (km_struck, 24, .inl fm_struck)), ((mr 7), .inl (km_reportKnown, 24, .inl fm_reportKnown))]) [0, 7, 8] rfl
        have hKc := hK.sub (tys' := [(km_struck, .boolean), (km_reportKnown, .int)]) [6, 7] rfl
        refine va_calli (va_runV (As := [.int v4, .int p1]) (rest := []) ⟨hx, hb, hml, hown, hts⟩ (sX12_isKnown l dC dI h0 mi mr km_struck fm_struck km_reportKnown fm_reportKnown v4 p1 gmi_0 gmi_1 gmi_2 gmi_4 gmi_7 (gi_w g_484 (by decide)) gmi_17 gmi_23 gmi_24 gmi_26 gmi_29 gmi_30 gmi_33 gmi_37 gmi_41 gmi_50 gmi_51 gmi_56 gfm_struck gfm_reportKnown g_483) (cwV 2 hts (gz_gV mGB_279 mGB_280 mGB_281 mGB_1 mGB_282 goodGB) rfl rfl rfl (by decide +kernel) ⟨Nat.le_trans (Nat.le_of_ble_eq_true rfl) hRf, Nat.le_trans (Nat.le_of_ble_eq_true rfl) hRl⟩) ⟨fun a U g mk q => by obtain ⟨q0, qP, qK⟩ := q; exact ⟨q0, qP, va_K.moved (u := U) (U := U.calling g mk a) (Vm.Alike.refl U.vm) qK⟩, va_recv hKc hPc (ci := 12) (q0 := 0) rfl rfl, fun U hU hW => ⟨rfl, by rw [hU]; exact hPc, va_K.moved hW.alike hKc⟩⟩ rfl rfl hl.1 rfl (lv_room (Nat.le_of_ble_eq_true rfl)) dX12_blind_45 ⟨hRc, hRs⟩) hS (fun q _ h => h.elim) (fun q h => h.elim) (fun r_485 u t H1 locs ht hvm hw hB hz1 hk1 hS => ?_)
        have hP := gz_keep hP hk1
        generalize H1 = H at hP hS ⊢
        have gr_485 : gi r_485 0 1 := hw
        refine lv_if_eq (tgt := 80) hx hb dX12_blind_48 (by decide) (fun c_486 => ?_) (fun c_486 => ?_)
        · have g_487 : gi r_485 0 0 := gi_eq c_486 (gi_c 0 0 (by decide))
          obtain ⟨x_488, ex_488⟩ : ∃ y : Int32, y = v4 + 1 := ⟨_, rfl⟩
          have gx_488 : gi x_488 1 24 := gi_add ex_488 g_483 (gi_c 1 1 (by decide)) (by decide)
          refine lv_iinc (v := x_488) (lv' := [(4, .int x_488), (0, .ref h0), (1, .int p1), (2, .int p2), (3, .int v3)]) hx hb dX12_blind_80 hl (k := 4) rfl (by rw [ex_488]; rfl) (by decide) rfl (fun ls hl => ?_)
          refine lv_goto (tgt := 32) hx hb dX12_blind_83 (by decide) ?_
          exact ih v3 x_488 _ _ _ gf_p1 gf_p2 gv3 (gi_w gx_488 (by decide)) (by have av4 := gv4.1; have bv4 := gv4.2; have qgx_488 := gx_488.1; have rgx_488 := gx_488.2; have igx_488 : x_488.toInt = v4.toInt + 1 := (by have hc1 : (1 : Int32).toInt = 1 := (by decide); have h9 := gi_addI ex_488 (by have h1 := g_483.1; have h2 := (gi_c 1 1 (by decide)).1; have h3 := g_483.2; have h4 := (gi_c 1 1 (by decide)).2; omega) (by have h1 := g_483.1; have h2 := (gi_c 1 1 (by decide)).1; have h3 := g_483.2; have h4 := (gi_c 1 1 (by decide)).2; omega); rw [hc1] at h9; exact h9); have qgv4 := g_483.1; have rgv4 := g_483.2; omega) hP hS (lv_sub hl [1, 2, 3, 4, 0] rfl)
        · have g_489 : gi r_485 1 1 := gi_ne_lo c_486 gr_485 (gi_c 0 0 (by decide)) (by decide)
          refine lv_aload_n hx hb dX12_blind_51 rfl (lv_at hl 0 rfl) ?_
          refine va_get (D := (dC, dI)) (ci := 12) (v := .ref (mr 5)) (C := RX12) (T := TX12) (N := 57) hx hb hts (fun w h => List.mem_cons_of_mem _ (jnGB_X12 w h)) hown hK hP 0 rfl rfl 14 (by decide) (hts _ (List.mem_cons_of_mem _ mGB_16)) (fun _ h9 => h9) rfl dX12_blind_52 ?_
          refine lv_iload hx hb dX12_blind_55 (lv_at hl 4 rfl) ?_
          refine va_iald hx hb hK hP 10 9 rfl rfl (gi_in g_483 (by decide)) dX12_blind_57 ?_
          refine lv_topi (fun x_490 ex_490 => ?_)
          have gx_490 : gi x_490 0 23 := ga_at gfm_reportMonth (gi_in g_483 (by decide)) ex_490
          refine lv_iload_n hx hb dX12_blind_58 rfl (lv_at hl 2 rfl) ?_
          refine lv_icmp_eq (tgt := 65) hx hb dX12_blind_59 (by decide) (fun c_491 => ?_) (fun c_491 => ?_)
          · have g_492 : gi x_490 1 23 := gi_eq c_491 gf_p2
            refine lv_aload_n hx hb dX12_blind_65 rfl (lv_at hl 0 rfl) ?_
            refine va_get (D := (dC, dI)) (ci := 12) (v := .ref (mr 3)) (C := RX12) (T := TX12) (N := 57) hx hb hts (fun w h => List.mem_cons_of_mem _ (jnGB_X12 w h)) hown hK hP 0 rfl rfl 12 (by decide) (hts _ (List.mem_cons_of_mem _ mGB_13)) (fun _ h9 => h9) rfl dX12_blind_66 ?_
            refine lv_iload hx hb dX12_blind_69 (lv_at hl 4 rfl) ?_
            refine va_iald hx hb hK hP 12 11 rfl rfl (gi_in g_483 (by decide)) dX12_blind_71 ?_
            refine lv_topi (fun x_493 ex_493 => ?_)
            refine lv_iconst (v := 2) hx hb dX12_blind_72 (by decide) ?_
            refine lv_icmp_eq (tgt := 78) hx hb dX12_blind_73 (by decide) (fun c_494 => ?_) (fun c_494 => ?_)
            · have g_495 : gi x_493 2 2 := gi_eq c_494 (gi_c 2 2 (by decide))
              refine lv_iconst (v := 1) hx hb dX12_blind_78 (by decide) ?_
              refine lv_istore_n (lv' := [(3, .int 1), (0, .ref h0), (1, .int p1), (2, .int p2), (4, .int v4)]) hx hb dX12_blind_79 rfl hl (by decide) rfl (fun ls hl => ?_)
              obtain ⟨x_496, ex_496⟩ : ∃ y : Int32, y = v4 + 1 := ⟨_, rfl⟩
              have gx_496 : gi x_496 1 24 := gi_add ex_496 g_483 (gi_c 1 1 (by decide)) (by decide)
              refine lv_iinc (v := x_496) (lv' := [(4, .int x_496), (3, .int 1), (0, .ref h0), (1, .int p1), (2, .int p2)]) hx hb dX12_blind_80 hl (k := 4) rfl (by rw [ex_496]; rfl) (by decide) rfl (fun ls hl => ?_)
              refine lv_goto (tgt := 32) hx hb dX12_blind_83 (by decide) ?_
              exact ih 1 x_496 _ _ _ gf_p1 gf_p2 (gi_w (gi_c 1 1 (by decide)) (by decide)) (gi_w gx_496 (by decide)) (by have av4 := gv4.1; have bv4 := gv4.2; have qgx_496 := gx_496.1; have rgx_496 := gx_496.2; have igx_496 : x_496.toInt = v4.toInt + 1 := (by have hc1 : (1 : Int32).toInt = 1 := (by decide); have h9 := gi_addI ex_496 (by have h1 := g_483.1; have h2 := (gi_c 1 1 (by decide)).1; have h3 := g_483.2; have h4 := (gi_c 1 1 (by decide)).2; omega) (by have h1 := g_483.1; have h2 := (gi_c 1 1 (by decide)).1; have h3 := g_483.2; have h4 := (gi_c 1 1 (by decide)).2; omega); rw [hc1] at h9; exact h9); have qgv4 := g_483.1; have rgv4 := g_483.2; omega) hP hS (lv_sub hl [2, 3, 4, 1, 0] rfl)
            · refine lv_iconst (v := 0) hx hb dX12_blind_76 (by decide) ?_
              exact kr77 0 _ _ _ (gi_c 0 0 (by decide)) hP hS (lv_sub hl [] rfl)
          · refine lv_goto (tgt := 80) hx hb dX12_blind_62 (by decide) ?_
            obtain ⟨x_497, ex_497⟩ : ∃ y : Int32, y = v4 + 1 := ⟨_, rfl⟩
            have gx_497 : gi x_497 1 24 := gi_add ex_497 g_483 (gi_c 1 1 (by decide)) (by decide)
            refine lv_iinc (v := x_497) (lv' := [(4, .int x_497), (0, .ref h0), (1, .int p1), (2, .int p2), (3, .int v3)]) hx hb dX12_blind_80 hl (k := 4) rfl (by rw [ex_497]; rfl) (by decide) rfl (fun ls hl => ?_)
            refine lv_goto (tgt := 32) hx hb dX12_blind_83 (by decide) ?_
            exact ih v3 x_497 _ _ _ gf_p1 gf_p2 gv3 (gi_w gx_497 (by decide)) (by have av4 := gv4.1; have bv4 := gv4.2; have qgx_497 := gx_497.1; have rgx_497 := gx_497.2; have igx_497 : x_497.toInt = v4.toInt + 1 := (by have hc1 : (1 : Int32).toInt = 1 := (by decide); have h9 := gi_addI ex_497 (by have h1 := g_483.1; have h2 := (gi_c 1 1 (by decide)).1; have h3 := g_483.2; have h4 := (gi_c 1 1 (by decide)).2; omega) (by have h1 := g_483.1; have h2 := (gi_c 1 1 (by decide)).1; have h3 := g_483.2; have h4 := (gi_c 1 1 (by decide)).2; omega); rw [hc1] at h9; exact h9); have qgv4 := g_483.1; have rgv4 := g_483.2; omega) hP hS (lv_sub hl [1, 2, 3, 4, 0] rfl)
set_option maxHeartbeats 4000000 in
set_option maxRecDepth 100000 in
theorem sX12_blind (l : Launch) (dC : Nat → ClassId) (dI : Nat → Nat → Nat) (h0 : Nat) (mi : Nat → Int32) (mr : Nat → Nat) (km_must : ClassId) (fm_must : Nat → Int32) (km_least : ClassId) (fm_least : Nat → Int32) (km_pin : ClassId) (fm_pin : Nat → Int32) (km_ways : ClassId) (fm_ways : Nat → Int32) (km_verdict : ClassId) (fm_verdict : Nat → Int32) (km_row : ClassId) (fm_row : Nat → Int32) (km_struck : ClassId) (fm_struck : Nat → Int32) (km_reportKnown : ClassId) (fm_reportKnown : Nat → Int32) (km_reportPlace : ClassId) (fm_reportPlace : Nat → Int32) (km_reportMonth : ClassId) (fm_reportMonth : Nat → Int32) (km_reportDay : ClassId) (fm_reportDay : Nat → Int32) (km_reportKind : ClassId) (fm_reportKind : Nat → Int32) (km_trust : ClassId) (fm_trust : Nat → Int32) (km_letter : ClassId) (fm_letter : Nat → Int32) (p1 : Int32) (p2 : Int32) (gmi_0 : gi (mi 0) 0 24) (gmi_1 : gi (mi 1) 0 5) (gmi_2 : gi (mi 2) 0 5) (gmi_4 : gi (mi 4) 0 1) (gmi_7 : gi (mi 7) 0 6) (gmi_10 : gi (mi 10) 0 24) (gmi_17 : gi (mi 17) 0 8) (gmi_23 : gi (mi 23) 0 300) (gmi_24 : gi (mi 24) 0 1) (gmi_26 : gi (mi 26) 0 1600) (gmi_29 : gi (mi 29) 0 1600) (gmi_30 : gi (mi 30) 0 1600) (gmi_33 : gi (mi 33) 0 1) (gmi_37 : gi (mi 37) 0 1) (gmi_41 : gi (mi 41) 0 24) (gmi_50 : gi (mi 50) 0 1) (gmi_51 : gi (mi 51) 0 1) (gmi_56 : gi (mi 56) 0 80) (gfm_row : ga fm_row 24 0 23) (gfm_struck : ga fm_struck 24 0 1) (gfm_reportKnown : ga fm_reportKnown 24 0 999) (gfm_reportPlace : ga fm_reportPlace 24 0 5) (gfm_reportMonth : ga fm_reportMonth 24 0 23) (gfm_reportDay : ga fm_reportDay 24 0 999) : Met l yX12_blind (.code yX12_blind cX12_blind 5 (some .int) :: wsGB) ({ frames := 2, cells := 0, slots := 0, locals := 46 }) (va_Pc [.ref h0, .int p1, .int p2] (fun U => va_P (dC, dI) vwCl [(h0, .inr (12, fsMM mi mr)), ((mr 14), .inl (km_must, 25, .inl fm_must)), ((mr 15), .inl (km_least, 25, .inl fm_least)), ((mr 16), .inl (km_pin, 25, .inl fm_pin)), ((mr 17), .inl (km_ways, 6875, .inl fm_ways)), ((mr 18), .inl (km_verdict, 24, .inl fm_verdict)), ((mr 19), .inl (km_row, 24, .inl fm_row)), ((mr 4), .inl (km_struck, 24, .inl fm_struck)), ((mr 7), .inl (km_reportKnown, 24, .inl fm_reportKnown)), ((mr 2), .inl (km_reportPlace, 24, .inl fm_reportPlace)), ((mr 5), .inl (km_reportMonth, 24, .inl fm_reportMonth)), ((mr 6), .inl (km_reportDay, 24, .inl fm_reportDay)), ((mr 3), .inl (km_reportKind, 24, .inl fm_reportKind)), ((mr 0), .inl (km_trust, 6, .inl fm_trust)), ((mr 1), .inl (km_letter, 36, .inl fm_letter))] U.heap ∧ va_K (dC, dI) vwCl [(km_must, .int), (km_least, .int), (km_pin, .int), (km_ways, .int), (km_verdict, .int), (km_row, .int), (km_struck, .boolean), (km_reportKnown, .int), (km_reportPlace, .int), (km_reportMonth, .int), (km_reportDay, .int), (km_reportKind, .int), (km_trust, .int), (km_letter, .int)] U)) (va_Qi (fun (r : Int32) (u : Unit) => gi r (-2) 1) (fun _ _ => True) (fun _ => False)) 0 0 (fun _ => False) := by
  refine Met.ofW (cc := cX12_blind) (maxL := 5) (ret := (some .int)) (by decide) rfl ?_
  intro p e s m args below meth c s₁ B hml hv
  obtain ⟨rfl, hP, hK⟩ := hv
  have hx := B.exec
  have hb := B.bytes
  have hr := B.returns
  have hts := atoms_spec (ws := (.code yX12_blind cX12_blind 5 (some .int) :: wsGB)) B.pre
  have hown : s.vm.findClass RX12 = some m.cls := findClass_of_methodNamed B.named
  have hlocks := B.notSynchronized
  have hS : va_S (fun _ => False) s.heap s.heap [] := va_S.rf
  have hl := lv_entry ([.ref h0, .int p1, .int p2]) (n := 5) (Nat.le_of_ble_eq_true rfl)
  rw [lg_entry_eq]
  generalize (lg_sl ([.ref h0, .int p1, .int p2]) ++ List.replicate (5 - (lg_sl ([.ref h0, .int p1, .int p2])).length) Slot.unset).toArray = ls at hl ⊢
  have hl : lv_has ls 5 [(0, .ref h0), (1, .int p1), (2, .int p2)] := hl
  refine lv_aload_n hx hb dX12_blind_0 rfl (lv_at hl 0 rfl) ?_
  refine lv_iload_n hx hb dX12_blind_1 rfl (lv_at hl 1 rfl) ?_
  have hPc := hP.sub (ws' := [(h0, .inr (12, fsMM mi mr))]) [0] rfl
  have hKc := hK.sub (tys' := []) [] rfl
  refine va_calli (va_runV (As := [.int p1]) (rest := []) ⟨hx, hb, hml, hown, hts⟩ (sX12_isTime l dC dI h0 mi mr p1 gmi_0 gmi_1 gmi_2 gmi_4 gmi_7 gmi_10 gmi_17 gmi_23 gmi_24 gmi_26 gmi_29 gmi_30 gmi_33 gmi_37 gmi_41 gmi_50 gmi_51 gmi_56) (cwV 1 hts (gz_gV mGB_256 mGB_257 mGB_258 mGB_1 mGB_259 goodGB) rfl rfl rfl (by decide +kernel) ⟨Nat.le_of_ble_eq_true rfl, Nat.le_of_ble_eq_true rfl⟩) ⟨fun a U g mk q => by obtain ⟨q0, qP, qK⟩ := q; exact ⟨q0, qP, va_K.moved (u := U) (U := U.calling g mk a) (Vm.Alike.refl U.vm) qK⟩, va_recv hKc hPc (ci := 12) (q0 := 0) rfl rfl, fun U hU hW => ⟨rfl, by rw [hU]; exact hPc, va_K.moved hW.alike hKc⟩⟩ rfl rfl hl.1 rfl (lv_room (Nat.le_of_ble_eq_true rfl)) dX12_blind_2 ⟨Nat.zero_le _, Nat.zero_le _⟩) hS (fun q _ h => h.elim) (fun q h => h.elim) (fun r_498 u t H1 locs ht hvm hw hB hz1 hk1 hS => ?_)
  have hP := gz_keep hP hk1
  generalize H1 = H at hP hS ⊢
  have gr_498 : gi r_498 0 1 := hw.1
  have hqr_498 := hw.2
  refine lv_if_eq (tgt := 24) hx hb dX12_blind_5 (by decide) (fun c_499 => ?_) (fun c_499 => ?_)
  · have g_500 : gi r_498 0 0 := gi_eq c_499 (gi_c 0 0 (by decide))
    refine lv_bipush (v := (-2)) hx hb dX12_blind_24 (by decide) ?_
    exact W.iret (v := (-2)) hx hb hr (fun t ht hW => ⟨⟨(-2), (), rfl, (gi_w (gi_c (-2) (-2) (by decide)) (by decide)), trivial⟩, hS.F ht⟩) hS.2.2 dX12_blind_26
  · have g_501 : gi r_498 1 1 := gi_ne_lo c_499 gr_498 (gi_c 0 0 (by decide)) (by decide)
    have g_502 : gi p1 0 999 := gi_cap (gi_any p1) (hqr_498 (gz_one g_501)) (by decide)
    refine lv_iload_n hx hb dX12_blind_8 rfl (lv_at hl 2 rfl) ?_
    refine lv_i2l (v := (p2).toInt64) hx hb dX12_blind_9 rfl ?_
    refine lv_topl (fun l_503 el_503 => ?_)
    refine lv_lconst (v := 1) hx hb dX12_blind_10 (by decide) ?_
    refine lv_aload_n hx hb dX12_blind_11 rfl (lv_at hl 0 rfl) ?_
    refine va_get (D := (dC, dI)) (ci := 12) (v := .int (mi 0)) (C := RX12) (T := TX12) (N := 57) hx hb hts (fun w h => List.mem_cons_of_mem _ (jnGB_X12 w h)) hown hK hP 0 rfl rfl 0 (by decide) (hts _ (List.mem_cons_of_mem _ mGB_103)) (fun _ h9 => h9) rfl dX12_blind_12 ?_
    refine lv_iconst (v := 1) hx hb dX12_blind_15 (by decide) ?_
    refine lv_isub hx hb dX12_blind_16 ?_
    refine lv_topi (fun x_504 ex_504 => ?_)
    have gx_504 : gi x_504 (-1) 23 := gi_sub ex_504 gmi_0 (gi_c 1 1 (by decide)) (by decide)
    refine lv_i2l (v := (x_504).toInt64) hx hb dX12_blind_17 rfl ?_
    refine lv_topl (fun l_505 el_505 => ?_)
    have hPc := hP.sub (ws' := []) [] rfl
    have hKc := hK.sub (tys' := []) [] rfl
    refine va_calli (va_runS (As := [.long l_503, .long 1, .long l_505]) (rest := []) ⟨hx, hb, hml, hown, hts⟩ (sX12_in l dC dI l_503 1 l_505) (cwS 3 hts (gz_gS mGB_47 mGB_48 mGB_1 mGB_49 goodGB) rfl rfl rfl (by decide +kernel) ⟨Nat.le_of_ble_eq_true rfl, Nat.le_of_ble_eq_true rfl⟩) ⟨fun a U g mk q => by obtain ⟨q0, qP, qK⟩ := q; exact ⟨q0, qP, va_K.moved (u := U) (U := U.calling g mk a) (Vm.Alike.refl U.vm) qK⟩, fun U hU hW => ⟨rfl, by rw [hU]; exact hPc, va_K.moved hW.alike hKc⟩⟩ rfl rfl hl.1 rfl (lv_room (Nat.le_of_ble_eq_true rfl)) dX12_blind_18 ⟨Nat.zero_le _, Nat.zero_le _⟩) hS (fun q _ h => h.elim) (fun q h => h.elim) (fun r_506 u t H1 locs ht hvm hw hB hz1 hk1 hS => ?_)
    have hP := gz_keep hP hk1
    generalize H1 = H at hP hS ⊢
    have gr_506 : gi r_506 0 1 := hw.1
    have hqr_506 := hw.2
    refine lv_if_ne (tgt := 27) hx hb dX12_blind_21 (by decide) (fun c_507 => ?_) (fun c_507 => ?_)
    · have g_508 : gi r_506 1 1 := gi_ne_lo c_507 gr_506 (gi_c 0 0 (by decide)) (by decide)
      have g_509 : gi p2 1 23 := gi_cap (gi_any p2) (gz_inr (hqr_506.1 (gz_one g_508)) el_503 (A := 1) (B := 23) (by decide) (gz_l2u el_505 gx_504)) (by decide)
      refine lv_iconst (v := 0) hx hb dX12_blind_27 (by decide) ?_
      refine lv_istore_n (lv' := [(3, .int 0), (0, .ref h0), (1, .int p1), (2, .int p2)]) hx hb dX12_blind_28 rfl hl (by decide) rfl (fun ls hl => ?_)
      refine lv_iconst (v := 0) hx hb dX12_blind_29 (by decide) ?_
      refine lv_istore (lv' := [(4, .int 0), (3, .int 0), (0, .ref h0), (1, .int p1), (2, .int p2)]) hx hb dX12_blind_30 hl (by decide) rfl (fun ls hl => ?_)
      refine (lp_sX12_blind h0 mi mr km_must fm_must km_least fm_least km_pin fm_pin km_ways fm_ways km_verdict fm_verdict km_row fm_row km_struck fm_struck km_reportKnown fm_reportKnown km_reportPlace fm_reportPlace km_reportMonth fm_reportMonth km_reportDay fm_reportDay km_reportKind fm_reportKind km_trust fm_trust km_letter fm_letter p1 p2 gmi_0 gmi_1 gmi_2 gmi_4 gmi_7 gmi_10 gmi_17 gmi_23 gmi_24 gmi_26 gmi_29 gmi_30 gmi_33 gmi_37 gmi_41 gmi_50 gmi_51 gmi_56 gfm_row gfm_struck gfm_reportKnown gfm_reportPlace gfm_reportMonth gfm_reportDay hx hb hml hown hts hK (Nat.le_of_ble_eq_true rfl) (Nat.le_of_ble_eq_true rfl) (Nat.zero_le _) (Nat.zero_le _) (fun v H locs ls gv hP hS hl => ?_) (fun v H locs ls gv hP hS hl => ?_) (fun v H locs ls gv hP hS hl => ?_) 62) 0 0 _ _ _ g_502 g_509 (gi_w (gi_c 0 0 (by decide)) (by decide)) (gi_w (gi_c 0 0 (by decide)) (by decide)) (by have k0 : (0 : Int32).toInt = 0 := (by decide); omega) hP hS (lv_sub hl [2, 3, 4, 1, 0] rfl)
      · skip
        exact W.iret (v := v) hx hb hr (fun t ht hW => ⟨⟨v, (), rfl, (gi_w gv (by decide)), trivial⟩, hS.F ht⟩) hS.2.2 dX12_blind_26
      · skip
        exact W.iret (v := v) hx hb hr (fun t ht hW => ⟨⟨v, (), rfl, (gi_w gv (by decide)), trivial⟩, hS.F ht⟩) hS.2.2 dX12_blind_95
      · skip
        exact W.iret (v := v) hx hb hr (fun t ht hW => ⟨⟨v, (), rfl, (gi_w gv (by decide)), trivial⟩, hS.F ht⟩) hS.2.2 dX12_blind_77
    · have g_510 : gi r_506 0 0 := gi_eq c_507 (gi_c 0 0 (by decide))
      refine lv_bipush (v := (-2)) hx hb dX12_blind_24 (by decide) ?_
      exact W.iret (v := (-2)) hx hb hr (fun t ht hW => ⟨⟨(-2), (), rfl, (gi_w (gi_c (-2) (-2) (by decide)) (by decide)), trivial⟩, hS.F ht⟩) hS.2.2 dX12_blind_26
