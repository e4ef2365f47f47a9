theorem dX12_nextTime_0 : decode cX12_nextTime 0 = .ok (.sipush 1000, 3) := by decide +kernel
theorem dX12_nextTime_3 : decode cX12_nextTime 3 = .ok (.istore_n 2, 1) := by decide +kernel
theorem dX12_nextTime_4 : decode cX12_nextTime 4 = .ok (.iconst 0, 1) := by decide +kernel
theorem dX12_nextTime_5 : decode cX12_nextTime 5 = .ok (.istore_n 3, 1) := by decide +kernel
theorem dX12_nextTime_6 : decode cX12_nextTime 6 = .ok (.iload_n 3, 1) := by decide +kernel
theorem dX12_nextTime_7 : decode cX12_nextTime 7 = .ok (.aload_n 0, 1) := by decide +kernel
theorem dX12_nextTime_8 : decode cX12_nextTime 8 = .ok (.getfield 141, 3) := by decide +kernel
theorem dX12_nextTime_11 : decode cX12_nextTime 11 = .ok (.if_icmp .ge 43, 3) := by decide +kernel
theorem dX12_nextTime_14 : decode cX12_nextTime 14 = .ok (.aload_n 0, 1) := by decide +kernel
theorem dX12_nextTime_15 : decode cX12_nextTime 15 = .ok (.getfield 22, 3) := by decide +kernel
theorem dX12_nextTime_18 : decode cX12_nextTime 18 = .ok (.iload_n 3, 1) := by decide +kernel
theorem dX12_nextTime_19 : decode cX12_nextTime 19 = .ok (.baload, 1) := by decide +kernel
theorem dX12_nextTime_20 : decode cX12_nextTime 20 = .ok (.ifCond .ne 26, 3) := by decide +kernel
theorem dX12_nextTime_23 : decode cX12_nextTime 23 = .ok (.aload_n 0, 1) := by decide +kernel
theorem dX12_nextTime_24 : decode cX12_nextTime 24 = .ok (.getfield 32, 3) := by decide +kernel
theorem dX12_nextTime_27 : decode cX12_nextTime 27 = .ok (.iload_n 3, 1) := by decide +kernel
theorem dX12_nextTime_28 : decode cX12_nextTime 28 = .ok (.iaload, 1) := by decide +kernel
theorem dX12_nextTime_29 : decode cX12_nextTime 29 = .ok (.iload_n 1, 1) := by decide +kernel
theorem dX12_nextTime_30 : decode cX12_nextTime 30 = .ok (.if_icmp .le 16, 3) := by decide +kernel
theorem dX12_nextTime_33 : decode cX12_nextTime 33 = .ok (.iload_n 2, 1) := by decide +kernel
theorem dX12_nextTime_34 : decode cX12_nextTime 34 = .ok (.aload_n 0, 1) := by decide +kernel
theorem dX12_nextTime_35 : decode cX12_nextTime 35 = .ok (.getfield 32, 3) := by decide +kernel
theorem dX12_nextTime_38 : decode cX12_nextTime 38 = .ok (.iload_n 3, 1) := by decide +kernel
theorem dX12_nextTime_39 : decode cX12_nextTime 39 = .ok (.iaload, 1) := by decide +kernel
theorem dX12_nextTime_40 : decode cX12_nextTime 40 = .ok (.invokestatic 168, 3) := by decide +kernel
theorem dX12_nextTime_43 : decode cX12_nextTime 43 = .ok (.goto 4, 3) := by decide +kernel
theorem dX12_nextTime_46 : decode cX12_nextTime 46 = .ok (.iload_n 2, 1) := by decide +kernel
theorem dX12_nextTime_47 : decode cX12_nextTime 47 = .ok (.istore_n 2, 1) := by decide +kernel
theorem dX12_nextTime_48 : decode cX12_nextTime 48 = .ok (.iinc 3 1, 3) := by decide +kernel
theorem dX12_nextTime_51 : decode cX12_nextTime 51 = .ok (.goto (-45), 3) := by decide +kernel
theorem dX12_nextTime_54 : decode cX12_nextTime 54 = .ok (.iload_n 2, 1) := by decide +kernel
theorem dX12_nextTime_55 : decode cX12_nextTime 55 = .ok (.ireturn, 1) := by decide +kernel
set_option maxHeartbeats 4000000 in
set_option maxRecDepth 100000 in
theorem lp_sX12_nextTime {p : Program} {l : Launch} {e : Env} {R : Room} {s : State} {m : MethodId} {args : Array Value} {below : List Frame} {meth : Method} {c : Code} {Q : State → Prop} {A : Nat → Prop} {cells slots : Nat} {dC : Nat → ClassId} {dI : Nat → Nat → Nat} (h0 : Nat) (mi : Nat → Int32) (mr : Nat → Nat) (km_struck : ClassId) (fm_struck : Nat → Int32) (km_reportKnown : ClassId) (fm_reportKnown : Nat → Int32) (p1 : Int32) (gmi_0 : gi (mi 0) 0 24) (gmi_1 : gi (mi 1) 0 5) (gmi_2 : gi (mi 2) 0 5) (gmi_4 : gi (mi 4) 0 1) (gmi_7 : gi (mi 7) 0 6) (gmi_10 : gi (mi 10) 0 24) (gmi_17 : gi (mi 17) 0 8) (gmi_23 : gi (mi 23) 0 300) (gmi_24 : gi (mi 24) 0 1) (gmi_26 : gi (mi 26) 0 1600) (gmi_29 : gi (mi 29) 0 1600) (gmi_30 : gi (mi 30) 0 1600) (gmi_33 : gi (mi 33) 0 1) (gmi_37 : gi (mi 37) 0 1) (gmi_41 : gi (mi 41) 0 24) (gmi_50 : gi (mi 50) 0 1) (gmi_51 : gi (mi 51) 0 1) (gmi_56 : gi (mi 56) 0 80) (gfm_struck : ga fm_struck 24 0 1) (gfm_reportKnown : ga fm_reportKnown 24 0 999) (gp1 : gi p1 0 999) (hx : p.tables.exec = Jvm.exec) (hb : c.code = cX12_nextTime) (hml : c.maxLocals = 4) (hown : s.vm.findClass RX12 = some m.cls) (hts : ∀ w ∈ ((.code yX12_nextTime cX12_nextTime 4 (some .int) :: wsGB) : List Cond), w.before args s = true) (hK : va_K (dC, dI) vwCl [(km_struck, .boolean), (km_reportKnown, .int)] s) (hRf : 1 ≤ R.frames) (hRl : 13 ≤ R.locals) (hRc : cells ≤ R.cells) (hRs : slots ≤ R.slots) (kr55 : ∀ (v : Int32) (H : Heap) (locs : List Loc) (ls : Array Slot), gi v 1 1000 → p1.toInt < v.toInt → va_P (dC, dI) vwCl [(h0, .inr (12, fsMM mi mr)), ((mr 4), .inl (km_struck, 24, .inl fm_struck)), ((mr 7), .inl (km_reportKnown, 24, .inl fm_reportKnown))] H → va_S A s.heap H locs → lv_has ls 4 [] → W p l e R s m args below meth c H locs cells slots Q (F0 m 55 ls [.int v])) : ∀ z : Nat, (∀ (v2 : Int32) (v3 : Int32) (H : Heap) (locs : List Loc) (ls : Array Slot), gi v2 1 1000 → gi v3 0 24 → p1.toInt < v2.toInt → 49 + (-2) * v3.toInt < (z : Int) → va_P (dC, dI) vwCl [(h0, .inr (12, fsMM mi mr)), ((mr 4), .inl (km_struck, 24, .inl fm_struck)), ((mr 7), .inl (km_reportKnown, 24, .inl fm_reportKnown))] H → va_S A s.heap H locs → lv_has ls 4 [(0, .ref h0), (1, .int p1), (2, .int v2), (3, .int v3)] → W p l e R s m args below meth c H locs cells slots Q (F0 m 6 ls [])) := by
  intro z
  induction z with
  | zero =>
    intro v2 v3 H locs ls gv2 gv3 hinv0 hmu hP hS hl
    exact absurd hmu (by have hv31 := gv3.1; have hv32 := gv3.2; omega)
  | succ z ih =>
      intro v2 v3 H locs ls gv2 gv3 hinv0 hmu hP hS hl
      refine lv_iload_n hx hb dX12_nextTime_6 rfl (lv_at hl 3 rfl) ?_
      refine lv_aload_n hx hb dX12_nextTime_7 rfl (lv_at hl 0 rfl) ?_
      refine va_get (D := (dC, dI)) (ci := 12) (v := .int (mi 10)) (C := RX12) (T := TX12) (N := 57) hx hb hts (fun w h => List.mem_cons_of_mem _ (jnGB_X12 w h)) hown hK hP 0 rfl rfl 10 (by decide) (hts _ (List.mem_cons_of_mem _ mGB_111)) (fun _ h9 => h9) rfl dX12_nextTime_8 ?_
      refine lv_icmp_ge (tgt := 54) hx hb dX12_nextTime_11 (by decide) (fun c_226 => ?_) (fun c_226 => ?_)
      · refine lv_iload_n hx hb dX12_nextTime_54 rfl (lv_at hl 2 rfl) ?_
        exact kr55 v2 _ _ _ gv2 (by have qgv2 := gv2.1; have rgv2 := gv2.2; have y0 := (Int32.le_iff_toInt_le.mp c_226); omega) hP hS (lv_sub hl [] rfl)
      · have g_227 : gi v3 0 23 := gi_lt_l (Int32.not_le.mp c_226) gv3 gmi_10 (by decide)
        have g_228 : gi (mi 10) 1 24 := gi_lt_r (Int32.not_le.mp c_226) gv3 gmi_10 (by decide)
        refine lv_aload_n hx hb dX12_nextTime_14 rfl (lv_at hl 0 rfl) ?_
        refine va_get (D := (dC, dI)) (ci := 12) (v := .ref (mr 4)) (C := RX12) (T := TX12) (N := 57) hx hb hts (fun w h => List.mem_cons_of_mem _ (jnGB_X12 w h)) hown hK hP 0 rfl rfl 13 (by decide) (hts _ (List.mem_cons_of_mem _ mGB_15)) (fun _ h9 => h9) rfl dX12_nextTime_15 ?_
        refine lv_iload_n hx hb dX12_nextTime_18 rfl (lv_at hl 3 rfl) ?_
        refine va_zald hx hb hK hP 1 0 rfl rfl (gi_in g_227 (by decide)) dX12_nextTime_19 ?_
        refine lv_topi (fun x_229 ex_229 => ?_)
        have gx_229 : gi x_229 0 1 := ga_at gfm_struck (gi_in g_227 (by decide)) ex_229
        refine lv_if_ne (tgt := 46) hx hb dX12_nextTime_20 (by decide) (fun c_230 => ?_) (fun c_230 => ?_)
        · have g_231 : gi x_229 1 1 := gi_ne_lo c_230 gx_229 (gi_c 0 0 (by decide)) (by decide)
          refine lv_iload_n hx hb dX12_nextTime_46 rfl (lv_at hl 2 rfl) ?_
          refine lv_istore_n (lv' := [(2, .int v2), (0, .ref h0), (1, .int p1), (3, .int v3)]) hx hb dX12_nextTime_47 rfl hl (by decide) rfl (fun ls hl => ?_)
          obtain ⟨x_232, ex_232⟩ : ∃ y : Int32, y = v3 + 1 := ⟨_, rfl⟩
          have gx_232 : gi x_232 1 24 := gi_add ex_232 g_227 (gi_c 1 1 (by decide)) (by decide)
          refine lv_iinc (v := x_232) (lv' := [(3, .int x_232), (2, .int v2), (0, .ref h0), (1, .int p1)]) hx hb dX12_nextTime_48 hl (k := 3) rfl (by rw [ex_232]; rfl) (by decide) rfl (fun ls hl => ?_)
          refine lv_goto (tgt := 6) hx hb dX12_nextTime_51 (by decide) ?_
          exact ih v2 x_232 _ _ _ gv2 (gi_w gx_232 (by decide)) (by have qgp1 := gp1.1; have rgp1 := gp1.2; have qgv2 := gv2.1; have rgv2 := gv2.2; have y0 := (Int32.lt_iff_toInt_lt.mp (Int32.not_le.mp c_226)); omega) (by have av3 := gv3.1; have bv3 := gv3.2; have qgx_232 := gx_232.1; have rgx_232 := gx_232.2; have igx_232 : x_232.toInt = v3.toInt + 1 := (by have hc1 : (1 : Int32).toInt = 1 := (by decide); have h9 := gi_addI ex_232 (by have h1 := g_227.1; have h2 := (gi_c 1 1 (by decide)).1; have h3 := g_227.2; have h4 := (gi_c 1 1 (by decide)).2; omega) (by have h1 := g_227.1; have h2 := (gi_c 1 1 (by decide)).1; have h3 := g_227.2; have h4 := (gi_c 1 1 (by decide)).2; omega); rw [hc1] at h9; exact h9); have qgv3 := g_227.1; have rgv3 := g_227.2; omega) hP hS (lv_sub hl [2, 3, 1, 0] rfl)
        · have g_233 : gi x_229 0 0 := gi_eq c_230 (gi_c 0 0 (by decide))
          refine lv_aload_n hx hb dX12_nextTime_23 rfl (lv_at hl 0 rfl) ?_
          refine va_get (D := (dC, dI)) (ci := 12) (v := .ref (mr 7)) (C := RX12) (T := TX12) (N := 57) hx hb hts (fun w h => List.mem_cons_of_mem _ (jnGB_X12 w h)) hown hK hP 0 rfl rfl 16 (by decide) (hts _ (List.mem_cons_of_mem _ mGB_18)) (fun _ h9 => h9) rfl dX12_nextTime_24 ?_
          refine lv_iload_n hx hb dX12_nextTime_27 rfl (lv_at hl 3 rfl) ?_
          refine va_iald hx hb hK hP 2 1 rfl rfl (gi_in g_227 (by decide)) dX12_nextTime_28 ?_
          refine lv_topi (fun x_234 ex_234 => ?_)
          have gx_234 : gi x_234 0 999 := ga_at gfm_reportKnown (gi_in g_227 (by decide)) ex_234
          refine lv_iload_n hx hb dX12_nextTime_29 rfl (lv_at hl 1 rfl) ?_
          refine lv_icmp_le (tgt := 46) hx hb dX12_nextTime_30 (by decide) (fun c_235 => ?_) (fun c_235 => ?_)
          · refine lv_iload_n hx hb dX12_nextTime_46 rfl (lv_at hl 2 rfl) ?_
            refine lv_istore_n (lv' := [(2, .int v2), (0, .ref h0), (1, .int p1), (3, .int v3)]) hx hb dX12_nextTime_47 rfl hl (by decide) rfl (fun ls hl => ?_)
            obtain ⟨x_236, ex_236⟩ : ∃ y : Int32, y = v3 + 1 := ⟨_, rfl⟩
            have gx_236 : gi x_236 1 24 := gi_add ex_236 g_227 (gi_c 1 1 (by decide)) (by decide)
            refine lv_iinc (v := x_236) (lv' := [(3, .int x_236), (2, .int v2), (0, .ref h0), (1, .int p1)]) hx hb dX12_nextTime_48 hl (k := 3) rfl (by rw [ex_236]; rfl) (by decide) rfl (fun ls hl => ?_)
            refine lv_goto (tgt := 6) hx hb dX12_nextTime_51 (by decide) ?_
            exact ih v2 x_236 _ _ _ gv2 (gi_w gx_236 (by decide)) (by have qgp1 := gp1.1; have rgp1 := gp1.2; have qgv2 := gv2.1; have rgv2 := gv2.2; have y0 := (Int32.lt_iff_toInt_lt.mp (Int32.not_le.mp c_226)); have y1 := (Int32.le_iff_toInt_le.mp c_235); omega) (by have av3 := gv3.1; have bv3 := gv3.2; have qgx_236 := gx_236.1; have rgx_236 := gx_236.2; have igx_236 : x_236.toInt = v3.toInt + 1 := (by have hc1 : (1 : Int32).toInt = 1 := (by decide); have h9 := gi_addI ex_236 (by have h1 := g_227.1; have h2 := (gi_c 1 1 (by decide)).1; have h3 := g_227.2; have h4 := (gi_c 1 1 (by decide)).2; omega) (by have h1 := g_227.1; have h2 := (gi_c 1 1 (by decide)).1; have h3 := g_227.2; have h4 := (gi_c 1 1 (by decide)).2; omega); rw [hc1] at h9; exact h9); have qgv3 := g_227.1; have rgv3 := g_227.2; omega) hP hS (lv_sub hl [2, 3, 1, 0] rfl)
          · have g_237 : gi p1 0 998 := gi_lt_l (Int32.not_le.mp c_235) gp1 gx_234 (by decide)
            have g_238 : gi x_234 1 999 := gi_lt_r (Int32.not_le.mp c_235) gp1 gx_234 (by decide)
            refine lv_iload_n hx hb dX12_nextTime_33 rfl (lv_at hl 2 rfl) ?_
            refine lv_aload_n hx hb dX12_nextTime_34 rfl (lv_at hl 0 rfl) ?_
            refine va_get (D := (dC, dI)) (ci := 12) (v := .ref (mr 7)) (C := RX12) (T := TX12) (N := 57) hx hb hts (fun w h => List.mem_cons_of_mem _ (jnGB_X12 w h)) hown hK hP 0 rfl rfl 16 (by decide) (hts _ (List.mem_cons_of_mem _ mGB_18)) (fun _ h9 => h9) rfl dX12_nextTime_35 ?_
            refine lv_iload_n hx hb dX12_nextTime_38 rfl (lv_at hl 3 rfl) ?_
            refine va_iald hx hb hK hP 2 1 rfl rfl (gi_in g_227 (by decide)) dX12_nextTime_39 ?_
            refine gz_topi (y := x_234) ex_234.symm ?_
            refine va_mmin (own := RX12) hx hb (by rw [hml]; exact hl.1.symm) hown (hts _ (List.mem_cons_of_mem _ mGB_138)) (hts _ (List.mem_cons_of_mem _ mGB_97)) (hts _ (List.mem_cons_of_mem _ mGB_98)) (hts _ (List.mem_cons_of_mem _ mGB_99)) (Nat.le_trans (Nat.le_of_ble_eq_true rfl) hRf) (Nat.le_trans (Nat.le_of_ble_eq_true rfl) hRl) hRc hRs dX12_nextTime_40 ?_
            refine lv_topi (fun x_239 ex_239 => ?_)
            have gx_239 : gi x_239 1 999 := gi_min ex_239 gv2 g_238 (by decide)
            refine lv_goto (tgt := 47) hx hb dX12_nextTime_43 (by decide) ?_
            refine lv_istore_n (lv' := [(2, .int x_239), (0, .ref h0), (1, .int p1), (3, .int v3)]) hx hb dX12_nextTime_47 rfl hl (by decide) rfl (fun ls hl => ?_)
            obtain ⟨x_240, ex_240⟩ : ∃ y : Int32, y = v3 + 1 := ⟨_, rfl⟩
            have gx_240 : gi x_240 1 24 := gi_add ex_240 g_227 (gi_c 1 1 (by decide)) (by decide)
            refine lv_iinc (v := x_240) (lv' := [(3, .int x_240), (2, .int x_239), (0, .ref h0), (1, .int p1)]) hx hb dX12_nextTime_48 hl (k := 3) rfl (by rw [ex_240]; rfl) (by decide) rfl (fun ls hl => ?_)
            refine lv_goto (tgt := 6) hx hb dX12_nextTime_51 (by decide) ?_
            exact ih x_239 x_240 _ _ _ (gi_w gx_239 (by decide)) (gi_w gx_240 (by decide)) (by have qgp1 := g_237.1; have rgp1 := g_237.2; have qgx_239 := gx_239.1; have rgx_239 := gx_239.2; have igx_239 : x_239.toInt = min v2.toInt x_234.toInt := (by exact gi_minI ex_239); have qgx_234 := g_238.1; have rgx_234 := g_238.2; have qgv2 := gv2.1; have rgv2 := gv2.2; have y0 := (Int32.lt_iff_toInt_lt.mp (Int32.not_le.mp c_226)); have y1 := (Int32.lt_iff_toInt_lt.mp (Int32.not_le.mp c_235)); omega) (by have av3 := gv3.1; have bv3 := gv3.2; have qgx_240 := gx_240.1; have rgx_240 := gx_240.2; have igx_240 : x_240.toInt = v3.toInt + 1 := (by have hc1 : (1 : Int32).toInt = 1 := (by decide); have h9 := gi_addI ex_240 (by have h1 := g_227.1; have h2 := (gi_c 1 1 (by decide)).1; have h3 := g_227.2; have h4 := (gi_c 1 1 (by decide)).2; omega) (by have h1 := g_227.1; have h2 := (gi_c 1 1 (by decide)).1; have h3 := g_227.2; have h4 := (gi_c 1 1 (by decide)).2; omega); rw [hc1] at h9; exact h9); have qgv3 := g_227.1; have rgv3 := g_227.2; omega) hP hS (lv_sub hl [2, 3, 1, 0] rfl)
set_option maxHeartbeats 4000000 in
set_option maxRecDepth 100000 in
theorem sX12_nextTime (l : Launch) (dC : Nat → ClassId) (dI : Nat → Nat → Nat) (h0 : Nat) (mi : Nat → Int32) (mr : Nat → Nat) (km_struck : ClassId) (fm_struck : Nat → Int32) (km_reportKnown : ClassId) (fm_reportKnown : Nat → Int32) (p1 : Int32) (gmi_0 : gi (mi 0) 0 24) (gmi_1 : gi (mi 1) 0 5) (gmi_2 : gi (mi 2) 0 5) (gmi_4 : gi (mi 4) 0 1) (gmi_7 : gi (mi 7) 0 6) (gmi_10 : gi (mi 10) 0 24) (gmi_17 : gi (mi 17) 0 8) (gmi_23 : gi (mi 23) 0 300) (gmi_24 : gi (mi 24) 0 1) (gmi_26 : gi (mi 26) 0 1600) (gmi_29 : gi (mi 29) 0 1600) (gmi_30 : gi (mi 30) 0 1600) (gmi_33 : gi (mi 33) 0 1) (gmi_37 : gi (mi 37) 0 1) (gmi_41 : gi (mi 41) 0 24) (gmi_50 : gi (mi 50) 0 1) (gmi_51 : gi (mi 51) 0 1) (gmi_56 : gi (mi 56) 0 80) (gfm_struck : ga fm_struck 24 0 1) (gfm_reportKnown : ga fm_reportKnown 24 0 999) (gp1 : gi p1 0 999) : Met l yX12_nextTime (.code yX12_nextTime cX12_nextTime 4 (some .int) :: wsGB) ({ frames := 1, cells := 0, slots := 0, locals := 13 }) (va_Pc [.ref h0, .int p1] (fun U => va_P (dC, dI) vwCl [(h0, .inr (12, fsMM mi mr)), ((mr 4), .inl (km_struck, 24, .inl fm_struck)), ((mr 7), .inl (km_reportKnown, 24, .inl fm_reportKnown))] U.heap ∧ va_K (dC, dI) vwCl [(km_struck, .boolean), (km_reportKnown, .int)] U)) (va_Qi (fun (r : Int32) (u : Unit) => gi r 1 1000 ∧ p1.toInt < r.toInt) (fun _ _ => True) (fun _ => False)) 0 0 (fun _ => False) := by
  refine Met.ofW (cc := cX12_nextTime) (maxL := 4) (ret := (some .int)) (by decide) rfl ?_
  intro p e s m args below meth c s₁ B hml hv
  obtain ⟨rfl, hP, hK⟩ := hv
  have hx := B.exec
  have hb := B.bytes
  have hr := B.returns
  have hts := atoms_spec (ws := (.code yX12_nextTime cX12_nextTime 4 (some .int) :: wsGB)) B.pre
  have hown : s.vm.findClass RX12 = some m.cls := findClass_of_methodNamed B.named
  have hlocks := B.notSynchronized
  have hS : va_S (fun _ => False) s.heap s.heap [] := va_S.rf
  have hl := lv_entry ([.ref h0, .int p1]) (n := 4) (Nat.le_of_ble_eq_true rfl)
  rw [lg_entry_eq]
  generalize (lg_sl ([.ref h0, .int p1]) ++ List.replicate (4 - (lg_sl ([.ref h0, .int p1])).length) Slot.unset).toArray = ls at hl ⊢
  have hl : lv_has ls 4 [(0, .ref h0), (1, .int p1)] := hl
  refine lv_sipush (v := 1000) hx hb dX12_nextTime_0 (by decide) ?_
  refine lv_istore_n (lv' := [(2, .int 1000), (0, .ref h0), (1, .int p1)]) hx hb dX12_nextTime_3 rfl hl (by decide) rfl (fun ls hl => ?_)
  refine lv_iconst (v := 0) hx hb dX12_nextTime_4 (by decide) ?_
  refine lv_istore_n (lv' := [(3, .int 0), (2, .int 1000), (0, .ref h0), (1, .int p1)]) hx hb dX12_nextTime_5 rfl hl (by decide) rfl (fun ls hl => ?_)
  refine (lp_sX12_nextTime h0 mi mr km_struck fm_struck km_reportKnown fm_reportKnown p1 gmi_0 gmi_1 gmi_2 gmi_4 gmi_7 gmi_10 gmi_17 gmi_23 gmi_24 gmi_26 gmi_29 gmi_30 gmi_33 gmi_37 gmi_41 gmi_50 gmi_51 gmi_56 gfm_struck gfm_reportKnown gp1 hx hb hml hown hts hK (Nat.le_of_ble_eq_true rfl) (Nat.le_of_ble_eq_true rfl) (Nat.zero_le _) (Nat.zero_le _) (fun v H locs ls gv hpx hP hS hl => ?_) 62) 1000 0 _ _ _ (gi_w (gi_c 1000 1000 (by decide)) (by decide)) (gi_w (gi_c 0 0 (by decide)) (by decide)) (by have qgp1 := gp1.1; have rgp1 := gp1.2; have k1000 : (1000 : Int32).toInt = 1000 := (by decide); omega) (by have k0 : (0 : Int32).toInt = 0 := (by decide); omega) hP hS (lv_sub hl [2, 3, 1, 0] rfl)
  · skip
    exact W.iret (v := v) hx hb hr (fun t ht hW => ⟨⟨v, (), rfl, ⟨gv, by have qgv := gv.1; have rgv := gv.2; omega⟩, trivial⟩, hS.F ht⟩) hS.2.2 dX12_nextTime_55
