theorem dX11_blind_0 : decode cX11_blind 0 = .ok (.aload_n 0, 1) := by decide +kernel
theorem dX11_blind_1 : decode cX11_blind 1 = .ok (.iload_n 1, 1) := by decide +kernel
theorem dX11_blind_2 : decode cX11_blind 2 = .ok (.invokevirtual 216, 3) := by decide +kernel
theorem dX11_blind_5 : decode cX11_blind 5 = .ok (.ifCond .eq 21, 3) := by decide +kernel
theorem dX11_blind_8 : decode cX11_blind 8 = .ok (.aload_n 0, 1) := by decide +kernel
theorem dX11_blind_9 : decode cX11_blind 9 = .ok (.iload_n 2, 1) := by decide +kernel
theorem dX11_blind_10 : decode cX11_blind 10 = .ok (.iconst 1, 1) := by decide +kernel
theorem dX11_blind_11 : decode cX11_blind 11 = .ok (.aload_n 0, 1) := by decide +kernel
theorem dX11_blind_12 : decode cX11_blind 12 = .ok (.getfield 19, 3) := by decide +kernel
theorem dX11_blind_15 : decode cX11_blind 15 = .ok (.getfield 120, 3) := by decide +kernel
theorem dX11_blind_18 : decode cX11_blind 18 = .ok (.iconst 1, 1) := by decide +kernel
theorem dX11_blind_19 : decode cX11_blind 19 = .ok (.isub, 1) := by decide +kernel
theorem dX11_blind_20 : decode cX11_blind 20 = .ok (.invokevirtual 209, 3) := by decide +kernel
theorem dX11_blind_23 : decode cX11_blind 23 = .ok (.ifCond .ne 6, 3) := by decide +kernel
theorem dX11_blind_26 : decode cX11_blind 26 = .ok (.bipush (-2), 2) := by decide +kernel
theorem dX11_blind_28 : decode cX11_blind 28 = .ok (.ireturn, 1) := by decide +kernel
theorem dX11_blind_29 : decode cX11_blind 29 = .ok (.iconst 0, 1) := by decide +kernel
theorem dX11_blind_30 : decode cX11_blind 30 = .ok (.istore_n 3, 1) := by decide +kernel
theorem dX11_blind_31 : decode cX11_blind 31 = .ok (.iconst 0, 1) := by decide +kernel
theorem dX11_blind_32 : decode cX11_blind 32 = .ok (.istore 4, 2) := by decide +kernel
theorem dX11_blind_34 : decode cX11_blind 34 = .ok (.iload 4, 2) := by decide +kernel
theorem dX11_blind_36 : decode cX11_blind 36 = .ok (.aload_n 0, 1) := by decide +kernel
theorem dX11_blind_37 : decode cX11_blind 37 = .ok (.getfield 19, 3) := by decide +kernel
theorem dX11_blind_40 : decode cX11_blind 40 = .ok (.getfield 132, 3) := by decide +kernel
theorem dX11_blind_43 : decode cX11_blind 43 = .ok (.if_icmp .ge 52, 3) := by decide +kernel
theorem dX11_blind_46 : decode cX11_blind 46 = .ok (.aload_n 0, 1) := by decide +kernel
theorem dX11_blind_47 : decode cX11_blind 47 = .ok (.getfield 19, 3) := by decide +kernel
theorem dX11_blind_50 : decode cX11_blind 50 = .ok (.getfield 167, 3) := by decide +kernel
theorem dX11_blind_53 : decode cX11_blind 53 = .ok (.iload 4, 2) := by decide +kernel
theorem dX11_blind_55 : decode cX11_blind 55 = .ok (.aaload, 1) := by decide +kernel
theorem dX11_blind_56 : decode cX11_blind 56 = .ok (.astore 5, 2) := by decide +kernel
theorem dX11_blind_58 : decode cX11_blind 58 = .ok (.aload 5, 2) := by decide +kernel
theorem dX11_blind_60 : decode cX11_blind 60 = .ok (.getfield 182, 3) := by decide +kernel
theorem dX11_blind_63 : decode cX11_blind 63 = .ok (.iload_n 2, 1) := by decide +kernel
theorem dX11_blind_64 : decode cX11_blind 64 = .ok (.if_icmp .ne 25, 3) := by decide +kernel
theorem dX11_blind_67 : decode cX11_blind 67 = .ok (.aload 5, 2) := by decide +kernel
theorem dX11_blind_69 : decode cX11_blind 69 = .ok (.iload_n 1, 1) := by decide +kernel
theorem dX11_blind_70 : decode cX11_blind 70 = .ok (.invokevirtual 244, 3) := by decide +kernel
theorem dX11_blind_73 : decode cX11_blind 73 = .ok (.ifCond .eq 16, 3) := by decide +kernel
theorem dX11_blind_76 : decode cX11_blind 76 = .ok (.aload 5, 2) := by decide +kernel
theorem dX11_blind_78 : decode cX11_blind 78 = .ok (.getfield 179, 3) := by decide +kernel
theorem dX11_blind_81 : decode cX11_blind 81 = .ok (.iconst 2, 1) := by decide +kernel
theorem dX11_blind_82 : decode cX11_blind 82 = .ok (.if_icmp .eq 5, 3) := by decide +kernel
theorem dX11_blind_85 : decode cX11_blind 85 = .ok (.iconst 0, 1) := by decide +kernel
theorem dX11_blind_86 : decode cX11_blind 86 = .ok (.ireturn, 1) := by decide +kernel
theorem dX11_blind_87 : decode cX11_blind 87 = .ok (.iconst 1, 1) := by decide +kernel
theorem dX11_blind_88 : decode cX11_blind 88 = .ok (.istore_n 3, 1) := by decide +kernel
theorem dX11_blind_89 : decode cX11_blind 89 = .ok (.iinc 4 1, 3) := by decide +kernel
theorem dX11_blind_92 : decode cX11_blind 92 = .ok (.goto (-58), 3) := by decide +kernel
theorem dX11_blind_95 : decode cX11_blind 95 = .ok (.iload_n 3, 1) := by decide +kernel
theorem dX11_blind_96 : decode cX11_blind 96 = .ok (.ireturn, 1) := by decide +kernel
set_option maxHeartbeats 4000000 in
set_option maxRecDepth 100000 in
theorem lp_sX11_blind {p : Program} {l : Launch} {e : Env} {R : Room} {s : State} {m : MethodId} {args : Array Value} {below : List Frame} {meth : Method} {c : Code} {Q : State → Prop} {A : Nat → Prop} {cells slots : Nat} {dC : Nat → ClassId} {dI : Nat → Nat → Nat} (h0 : Nat) (am : Nat) (re : Nat) (xr : Nat) (xs : Nat) (xf : Nat) (co : Nat) (oc : Nat) (ta : Nat) (xq : Nat) (xh : Nat) (xk : Nat) (xo : Nat) (x_outLength : Int32) (x_courtStands : Int32) (x_courtNews : Int32) (x_tallyStands : Int32) (x_historyStands : Int32) (amonths : Int32) (afull : Int32) (alean : Int32) (alines : Int32) (ahasMoon : Int32) (amoonStart : Int32) (amoonStep : Int32) (aplaceCount : Int32) (areportCount : Int32) (adeedCount : Int32) (pl : Nat) (de : Nat) (kre : ClassId) (ra : Nat → Nat) (r_place : Nat → Int32) (r_kind : Nat → Int32) (r_month : Nat → Int32) (r_day : Nat → Int32) (r_known : Nat → Int32) (r_struck : Nat → Int32) (p1 : Int32) (p2 : Int32) (gx_outLength : gi x_outLength 0 72) (gx_courtStands : gi x_courtStands 0 1) (gx_tallyStands : gi x_tallyStands 0 1) (gx_historyStands : gi x_historyStands 0 1) (gamonths : gi amonths 0 24) (gafull : gi afull 0 5) (galean : gi alean 0 5) (gahasMoon : gi ahasMoon 0 1) (gaplaceCount : gi aplaceCount 0 6) (gareportCount : gi areportCount 0 24) (gadeedCount : gi adeedCount 0 8) (gr_place : ga r_place 24 0 5) (gr_month : ga r_month 24 0 23) (gr_struck : ga r_struck 24 0 1) (hx : p.tables.exec = Jvm.exec) (hb : c.code = cX11_blind) (hml : c.maxLocals = 6) (hown : s.vm.findClass RX11 = some m.cls) (hts : ∀ w ∈ ((.code yX11_blind cX11_blind 6 (some .int) :: wsGA) : List Cond), w.before args s = true) (hK : va_K (dC, dI) vwCl [(kre, .object RX7)] s) (hz : nzA s) (hF0 : va_P (dC, dI) vwCl (gz_fam 24 ra 7 (fun i => [.int (r_place i), .int (r_kind i), .int (r_month i), .int (r_day i), .int (r_known i), .int (r_struck i)])) s.heap) (hFA0 : gz_ap A (gz_fam 24 ra 7 (fun i => [.int (r_place i), .int (r_kind i), .int (r_month i), .int (r_day i), .int (r_known i), .int (r_struck i)]))) (hRf : 2 ≤ R.frames) (hRl : 43 ≤ R.locals) (hRc : cells ≤ R.cells) (hRs : slots ≤ R.slots) (kr28 : ∀ (v : Int32) (H : Heap) (locs : List Loc) (ls : Array Slot), gi v (-2) (-2) → va_P (dC, dI) vwCl [(h0, .inr (11, [.ref xr, .ref am, .ref xs, .ref xf, .ref co, .ref oc, .ref ta, .ref xq, .ref xh, .ref xk, .ref xo, .int x_outLength, .int x_courtStands, .int x_courtNews, .int x_tallyStands, .int x_historyStands])), (am, .inr (0, [.int amonths, .int afull, .int alean, .int alines, .int ahasMoon, .int amoonStart, .int amoonStep, .int aplaceCount, .int areportCount, .int adeedCount, .ref pl, .ref re, .ref de])), (re, .inl (kre, 24, .inr (.inr (.inr (.inr (fun i => some (ra i)))))))] H → va_S A s.heap H locs → lv_has ls 6 [] → W p l e R s m args below meth c H locs cells slots Q (F0 m 28 ls [.int v])) (kr96 : ∀ (v : Int32) (H : Heap) (locs : List Loc) (ls : Array Slot), gi v 0 1 → va_P (dC, dI) vwCl [(h0, .inr (11, [.ref xr, .ref am, .ref xs, .ref xf, .ref co, .ref oc, .ref ta, .ref xq, .ref xh, .ref xk, .ref xo, .int x_outLength, .int x_courtStands, .int x_courtNews, .int x_tallyStands, .int x_historyStands])), (am, .inr (0, [.int amonths, .int afull, .int alean, .int alines, .int ahasMoon, .int amoonStart, .int amoonStep, .int aplaceCount, .int areportCount, .int adeedCount, .ref pl, .ref re, .ref de])), (re, .inl (kre, 24, .inr (.inr (.inr (.inr (fun i => some (ra i)))))))] H → va_S A s.heap H locs → lv_has ls 6 [] → W p l e R s m args below meth c H locs cells slots Q (F0 m 96 ls [.int v])) (kr86 : ∀ (v : Int32) (H : Heap) (locs : List Loc) (ls : Array Slot), gi v 0 0 → va_P (dC, dI) vwCl [(h0, .inr (11, [.ref xr, .ref am, .ref xs, .ref xf, .ref co, .ref oc, .ref ta, .ref xq, .ref xh, .ref xk, .ref xo, .int x_outLength, .int x_courtStands, .int x_courtNews, .int x_tallyStands, .int x_historyStands])), (am, .inr (0, [.int amonths, .int afull, .int alean, .int alines, .int ahasMoon, .int amoonStart, .int amoonStep, .int aplaceCount, .int areportCount, .int adeedCount, .ref pl, .ref re, .ref de])), (re, .inl (kre, 24, .inr (.inr (.inr (.inr (fun i => some (ra i)))))))] H → va_S A s.heap H locs → lv_has ls 6 [] → W p l e R s m args below meth c H locs cells slots Q (F0 m 86 ls [.int v])) : ∀ z : Nat, (∀ (v3 : Int32) (v4 : Int32) (H : Heap) (locs : List Loc) (ls : Array Slot), gi p1 0 999 → gi p2 0 23 → gi v3 0 1 → gi v4 0 24 → 49 + (-2) * v4.toInt < (z : Int) → va_P (dC, dI) vwCl [(h0, .inr (11, [.ref xr, .ref am, .ref xs, .ref xf, .ref co, .ref oc, .ref ta, .ref xq, .ref xh, .ref xk, .ref xo, .int x_outLength, .int x_courtStands, .int x_courtNews, .int x_tallyStands, .int x_historyStands])), (am, .inr (0, [.int amonths, .int afull, .int alean, .int alines, .int ahasMoon, .int amoonStart, .int amoonStep, .int aplaceCount, .int areportCount, .int adeedCount, .ref pl, .ref re, .ref de])), (re, .inl (kre, 24, .inr (.inr (.inr (.inr (fun i => some (ra i)))))))] H → va_S A s.heap H locs → lv_has ls 6 [(0, .ref h0), (1, .int p1), (2, .int p2), (3, .int v3), (4, .int v4)] → W p l e R s m args below meth c H locs cells slots Q (F0 m 34 ls [])) := by
  intro z
  induction z with
  | zero =>
    intro v3 v4 H locs ls gf_p1 gf_p2 gv3 gv4 hmu hP hS hl
    exact absurd hmu (by have hv41 := gv4.1; have hv42 := gv4.2; omega)
  | succ z ih =>
      intro v3 v4 H locs ls gf_p1 gf_p2 gv3 gv4 hmu hP hS hl
      refine lv_iload hx hb dX11_blind_34 (lv_at hl 4 rfl) ?_
      refine lv_aload_n hx hb dX11_blind_36 rfl (lv_at hl 0 rfl) ?_
      refine va_get (D := (dC, dI)) (ci := 11) (v := .ref am) (C := RX11) (T := TX11) (N := 16) hx hb hts (fun w h => List.mem_cons_of_mem _ (jnGA_X11 w h)) hown hK hP 0 rfl rfl 1 (by decide) (hts _ (List.mem_cons_of_mem _ mGA_14)) (fun _ h9 => h9) rfl dX11_blind_37 ?_
      refine va_get (D := (dC, dI)) (ci := 0) (v := .int areportCount) (C := RX0) (T := TX0) (N := 13) hx hb hts (fun w h => List.mem_cons_of_mem _ (jnGA_X0 w h)) hown hK hP 1 rfl rfl 8 (by decide) (hts _ (List.mem_cons_of_mem _ mGA_357)) (fun _ h9 => h9) rfl dX11_blind_40 ?_
      refine lv_icmp_ge (tgt := 95) hx hb dX11_blind_43 (by decide) (fun c_391 => ?_) (fun c_391 => ?_)
      · refine lv_iload_n hx hb dX11_blind_95 rfl (lv_at hl 3 rfl) ?_
        exact kr96 v3 _ _ _ gv3 hP hS (lv_sub hl [] rfl)
      · have g_392 : gi v4 0 23 := gi_lt_l (Int32.not_le.mp c_391) gv4 gareportCount (by decide)
        have g_393 : gi areportCount 1 24 := gi_lt_r (Int32.not_le.mp c_391) gv4 gareportCount (by decide)
        refine lv_aload_n hx hb dX11_blind_46 rfl (lv_at hl 0 rfl) ?_
        refine va_get (D := (dC, dI)) (ci := 11) (v := .ref am) (C := RX11) (T := TX11) (N := 16) hx hb hts (fun w h => List.mem_cons_of_mem _ (jnGA_X11 w h)) hown hK hP 0 rfl rfl 1 (by decide) (hts _ (List.mem_cons_of_mem _ mGA_14)) (fun _ h9 => h9) rfl dX11_blind_47 ?_
        refine va_get (D := (dC, dI)) (ci := 0) (v := .ref re) (C := RX0) (T := TX0) (N := 13) hx hb hts (fun w h => List.mem_cons_of_mem _ (jnGA_X0 w h)) hown hK hP 1 rfl rfl 11 (by decide) (hts _ (List.mem_cons_of_mem _ mGA_381)) (fun _ h9 => h9) rfl dX11_blind_50 ?_
        refine lv_iload hx hb dX11_blind_53 (lv_at hl 4 rfl) ?_
        refine va_aldq hx hb hK hP 2 0 rfl rfl (gi_in g_392 (by decide)) dX11_blind_55 ?_
        refine W.eq (g2 := F0 m 56 ls [.ref (ra v4.toNatClampNeg)]) rfl ?_
        refine lv_astore (lv' := [(5, .ref (ra v4.toNatClampNeg)), (0, .ref h0), (1, .int p1), (2, .int p2), (3, .int v3), (4, .int v4)]) hx hb dX11_blind_56 hl (by decide) rfl (fun ls hl => ?_)
        refine lv_aload hx hb dX11_blind_58 (lv_at hl 0 rfl) ?_
        refine va_get (D := (dC, dI)) (ci := 7) (v := .int (r_month v4.toNatClampNeg)) (C := RX7) (T := TX7) (N := 6) hx hb hts (fun w h => List.mem_cons_of_mem _ (jnGA_X7 w h)) hown hK (gz_ro hF0 hFA0 hS) (v4.toNatClampNeg) (gz_fam_at (gz_clt (gi_in (n := 24) g_392 (by decide)))) rfl 2 (by decide) (hts _ (List.mem_cons_of_mem _ mGA_385)) (fun _ h9 => h9) rfl dX11_blind_60 ?_
        refine lv_topi (fun x_394 ex_394 => ?_)
        have gx_394 : gi x_394 0 23 := ga_at gr_month (gi_in (n := 24) g_392 (by decide)) ex_394
        refine lv_iload_n hx hb dX11_blind_63 rfl (lv_at hl 3 rfl) ?_
        refine lv_icmp_ne (tgt := 89) hx hb dX11_blind_64 (by decide) (fun c_395 => ?_) (fun c_395 => ?_)
        · obtain ⟨x_396, ex_396⟩ : ∃ y : Int32, y = v4 + 1 := ⟨_, rfl⟩
          have gx_396 : gi x_396 1 24 := gi_add ex_396 g_392 (gi_c 1 1 (by decide)) (by decide)
          refine lv_iinc (v := x_396) (lv' := [(4, .int x_396), (5, .ref (ra v4.toNatClampNeg)), (0, .ref h0), (1, .int p1), (2, .int p2), (3, .int v3)]) hx hb dX11_blind_89 hl (k := 5) rfl (by rw [ex_396]; rfl) (by decide) rfl (fun ls hl => ?_)
          refine lv_goto (tgt := 34) hx hb dX11_blind_92 (by decide) ?_
          exact ih v3 x_396 _ _ _ gf_p1 gf_p2 gv3 (gi_w gx_396 (by decide)) (by have av4 := gv4.1; have bv4 := gv4.2; have qgx_396 := gx_396.1; have rgx_396 := gx_396.2; have igx_396 : x_396.toInt = v4.toInt + 1 := (by have hc1 : (1 : Int32).toInt = 1 := (by decide); have h9 := gi_addI ex_396 (by have h1 := g_392.1; have h2 := (gi_c 1 1 (by decide)).1; have h3 := g_392.2; have h4 := (gi_c 1 1 (by decide)).2; omega) (by have h1 := g_392.1; have h2 := (gi_c 1 1 (by decide)).1; have h3 := g_392.2; have h4 := (gi_c 1 1 (by decide)).2; omega); rw [hc1] at h9; exact h9); have qgv4 := g_392.1; have rgv4 := g_392.2; omega) hP hS (lv_sub hl [2, 3, 4, 5, 0] rfl)
        · refine lv_aload hx hb dX11_blind_67 (lv_at hl 0 rfl) ?_
          refine lv_iload_n hx hb dX11_blind_69 rfl (lv_at hl 2 rfl) ?_
          have hPc : va_P (dC, dI) vwCl [((ra v4.toNatClampNeg), .inr (7, [.int (r_place v4.toNatClampNeg), .int (r_kind v4.toNatClampNeg), .int (r_month v4.toNatClampNeg), .int (r_day v4.toNatClampNeg), .int (r_known v4.toNatClampNeg), .int (r_struck v4.toNatClampNeg)]))] H := (gz_fam1 (gz_ro hF0 hFA0 hS) (gz_clt (gi_in (n := 24) g_392 (by decide))))
          have hKc := hK.sub (tys' := []) [] rfl
          refine va_calli (va_runV (As := [.int p1]) (rest := []) ⟨hx, hb, hml, hown, hts⟩ (sX7_isKnownBy l dC dI (ra v4.toNatClampNeg) (r_place v4.toNatClampNeg) (r_kind v4.toNatClampNeg) (r_month v4.toNatClampNeg) (r_day v4.toNatClampNeg) (r_known v4.toNatClampNeg) (r_struck v4.toNatClampNeg) p1 (ga_ix gr_place (gi_in (n := 24) g_392 (by decide))) (ga_ix gr_month (gi_in (n := 24) g_392 (by decide))) (ga_ix gr_struck (gi_in (n := 24) g_392 (by decide)))) (cwV 1 hts (gz_gV mGA_546 mGA_438 mGA_439 mGA_78 mGA_440 goodGA) rfl rfl rfl (by decide +kernel) ⟨Nat.le_trans (Nat.le_of_ble_eq_true rfl) hRf, Nat.le_trans (Nat.le_of_ble_eq_true rfl) hRl⟩) ⟨fun a U g mk q => by obtain ⟨q0, qP, qK, qZ⟩ := q; exact ⟨q0, qP, va_K.moved (u := U) (U := U.calling g mk a) (Vm.Alike.refl U.vm) qK, nzA_same (u := U) (U := U.calling g mk a) rfl qZ⟩, va_recv hKc hPc (ci := 7) (q0 := 0) rfl rfl, fun U hU hW => ⟨rfl, by rw [hU]; exact hPc, va_K.moved hW.alike hKc, nzA_warm hW hz⟩⟩ rfl rfl hl.1 rfl (lv_room (Nat.le_of_ble_eq_true rfl)) dX11_blind_70 ⟨hRc, hRs⟩) hS (fun q _ h => h.elim) (fun q h => h.elim) (fun r_397 u t H1 locs ht hvm hw hB hz1 hk1 hS => ?_)
          have hP := gz_keep hP hk1
          generalize H1 = H at hP hS ⊢
          have gr_397 : gi r_397 0 1 := hw
          refine lv_if_eq (tgt := 89) hx hb dX11_blind_73 (by decide) (fun c_398 => ?_) (fun c_398 => ?_)
          · have g_399 : gi r_397 0 0 := gi_eq c_398 (gi_c 0 0 (by decide))
            obtain ⟨x_400, ex_400⟩ : ∃ y : Int32, y = v4 + 1 := ⟨_, rfl⟩
            have gx_400 : gi x_400 1 24 := gi_add ex_400 g_392 (gi_c 1 1 (by decide)) (by decide)
            refine lv_iinc (v := x_400) (lv' := [(4, .int x_400), (5, .ref (ra v4.toNatClampNeg)), (0, .ref h0), (1, .int p1), (2, .int p2), (3, .int v3)]) hx hb dX11_blind_89 hl (k := 5) rfl (by rw [ex_400]; rfl) (by decide) rfl (fun ls hl => ?_)
            refine lv_goto (tgt := 34) hx hb dX11_blind_92 (by decide) ?_
            exact ih v3 x_400 _ _ _ gf_p1 gf_p2 gv3 (gi_w gx_400 (by decide)) (by have av4 := gv4.1; have bv4 := gv4.2; have qgx_400 := gx_400.1; have rgx_400 := gx_400.2; have igx_400 : x_400.toInt = v4.toInt + 1 := (by have hc1 : (1 : Int32).toInt = 1 := (by decide); have h9 := gi_addI ex_400 (by have h1 := g_392.1; have h2 := (gi_c 1 1 (by decide)).1; have h3 := g_392.2; have h4 := (gi_c 1 1 (by decide)).2; omega) (by have h1 := g_392.1; have h2 := (gi_c 1 1 (by decide)).1; have h3 := g_392.2; have h4 := (gi_c 1 1 (by decide)).2; omega); rw [hc1] at h9; exact h9); have qgv4 := g_392.1; have rgv4 := g_392.2; omega) hP hS (lv_sub hl [2, 3, 4, 5, 0] rfl)
          · have g_401 : gi r_397 1 1 := gi_ne_lo c_398 gr_397 (gi_c 0 0 (by decide)) (by decide)
            refine lv_aload hx hb dX11_blind_76 (lv_at hl 0 rfl) ?_
            refine va_get (D := (dC, dI)) (ci := 7) (v := .int (r_kind v4.toNatClampNeg)) (C := RX7) (T := TX7) (N := 6) hx hb hts (fun w h => List.mem_cons_of_mem _ (jnGA_X7 w h)) hown hK (gz_ro hF0 hFA0 hS) (v4.toNatClampNeg) (gz_fam_at (gz_clt (gi_in (n := 24) g_392 (by decide)))) rfl 1 (by decide) (hts _ (List.mem_cons_of_mem _ mGA_384)) (fun _ h9 => h9) rfl dX11_blind_78 ?_
            refine lv_topi (fun x_402 ex_402 => ?_)
            refine lv_iconst (v := 2) hx hb dX11_blind_81 (by decide) ?_
            refine lv_icmp_eq (tgt := 87) hx hb dX11_blind_82 (by decide) (fun c_403 => ?_) (fun c_403 => ?_)
            · have g_404 : gi x_402 2 2 := gi_eq c_403 (gi_c 2 2 (by decide))
              refine lv_iconst (v := 1) hx hb dX11_blind_87 (by decide) ?_
              refine lv_istore_n (lv' := [(3, .int 1), (5, .ref (ra v4.toNatClampNeg)), (0, .ref h0), (1, .int p1), (2, .int p2), (4, .int v4)]) hx hb dX11_blind_88 rfl hl (by decide) rfl (fun ls hl => ?_)
              obtain ⟨x_405, ex_405⟩ : ∃ y : Int32, y = v4 + 1 := ⟨_, rfl⟩
              have gx_405 : gi x_405 1 24 := gi_add ex_405 g_392 (gi_c 1 1 (by decide)) (by decide)
              refine lv_iinc (v := x_405) (lv' := [(4, .int x_405), (3, .int 1), (5, .ref (ra v4.toNatClampNeg)), (0, .ref h0), (1, .int p1), (2, .int p2)]) hx hb dX11_blind_89 hl (k := 5) rfl (by rw [ex_405]; rfl) (by decide) rfl (fun ls hl => ?_)
              refine lv_goto (tgt := 34) hx hb dX11_blind_92 (by decide) ?_
              exact ih 1 x_405 _ _ _ gf_p1 gf_p2 (gi_w (gi_c 1 1 (by decide)) (by decide)) (gi_w gx_405 (by decide)) (by have av4 := gv4.1; have bv4 := gv4.2; have qgx_405 := gx_405.1; have rgx_405 := gx_405.2; have igx_405 : x_405.toInt = v4.toInt + 1 := (by have hc1 : (1 : Int32).toInt = 1 := (by decide); have h9 := gi_addI ex_405 (by have h1 := g_392.1; have h2 := (gi_c 1 1 (by decide)).1; have h3 := g_392.2; have h4 := (gi_c 1 1 (by decide)).2; omega) (by have h1 := g_392.1; have h2 := (gi_c 1 1 (by decide)).1; have h3 := g_392.2; have h4 := (gi_c 1 1 (by decide)).2; omega); rw [hc1] at h9; exact h9); have qgv4 := g_392.1; have rgv4 := g_392.2; omega) hP hS (lv_sub hl [3, 4, 5, 1, 0] rfl)
            · refine lv_iconst (v := 0) hx hb dX11_blind_85 (by decide) ?_
              exact kr86 0 _ _ _ (gi_c 0 0 (by decide)) hP hS (lv_sub hl [] rfl)
set_option maxHeartbeats 4000000 in
set_option maxRecDepth 100000 in
theorem sX11_blind (l : Launch) (dC : Nat → ClassId) (dI : Nat → Nat → Nat) (h0 : Nat) (am : Nat) (re : Nat) (xr : Nat) (xs : Nat) (xf : Nat) (co : Nat) (oc : Nat) (ta : Nat) (xq : Nat) (xh : Nat) (xk : Nat) (xo : Nat) (x_outLength : Int32) (x_courtStands : Int32) (x_courtNews : Int32) (x_tallyStands : Int32) (x_historyStands : Int32) (amonths : Int32) (afull : Int32) (alean : Int32) (alines : Int32) (ahasMoon : Int32) (amoonStart : Int32) (amoonStep : Int32) (aplaceCount : Int32) (areportCount : Int32) (adeedCount : Int32) (pl : Nat) (de : Nat) (kre : ClassId) (ra : Nat → Nat) (r_place : Nat → Int32) (r_kind : Nat → Int32) (r_month : Nat → Int32) (r_day : Nat → Int32) (r_known : Nat → Int32) (r_struck : Nat → Int32) (p1 : Int32) (p2 : Int32) (gx_outLength : gi x_outLength 0 72) (gx_courtStands : gi x_courtStands 0 1) (gx_tallyStands : gi x_tallyStands 0 1) (gx_historyStands : gi x_historyStands 0 1) (gamonths : gi amonths 0 24) (gafull : gi afull 0 5) (galean : gi alean 0 5) (gahasMoon : gi ahasMoon 0 1) (gaplaceCount : gi aplaceCount 0 6) (gareportCount : gi areportCount 0 24) (gadeedCount : gi adeedCount 0 8) (gr_place : ga r_place 24 0 5) (gr_month : ga r_month 24 0 23) (gr_struck : ga r_struck 24 0 1) : Met l yX11_blind (.code yX11_blind cX11_blind 6 (some .int) :: wsGA) ({ frames := 2, cells := 0, slots := 0, locals := 43 }) (va_Pc [.ref h0, .int p1, .int p2] (fun U => va_P (dC, dI) vwCl [(h0, .inr (11, [.ref xr, .ref am, .ref xs, .ref xf, .ref co, .ref oc, .ref ta, .ref xq, .ref xh, .ref xk, .ref xo, .int x_outLength, .int x_courtStands, .int x_courtNews, .int x_tallyStands, .int x_historyStands])), (am, .inr (0, [.int amonths, .int afull, .int alean, .int alines, .int ahasMoon, .int amoonStart, .int amoonStep, .int aplaceCount, .int areportCount, .int adeedCount, .ref pl, .ref re, .ref de])), (re, .inl (kre, 24, .inr (.inr (.inr (.inr (fun i => some (ra i)))))))] U.heap ∧ va_K (dC, dI) vwCl [(kre, .object RX7)] U ∧ nzA U ∧ va_P (dC, dI) vwCl (gz_fam 24 ra 7 (fun i => [.int (r_place i), .int (r_kind i), .int (r_month i), .int (r_day i), .int (r_known i), .int (r_struck i)])) U.heap)) (va_Qi (fun (r : Int32) (u : Unit) => gi r (-2) 1) (fun _ _ => True) (fun _ => False)) 0 0 (fun _ => False) := by
  refine Met.ofW (cc := cX11_blind) (maxL := 6) (ret := (some .int)) (by decide) rfl ?_
  intro p e s m args below meth c s₁ B hml hv
  obtain ⟨rfl, hP, hK, hz, hF0⟩ := hv
  have hx := B.exec
  have hb := B.bytes
  have hr := B.returns
  have hts := atoms_spec (ws := (.code yX11_blind cX11_blind 6 (some .int) :: wsGA)) B.pre
  have hown : s.vm.findClass RX11 = some m.cls := findClass_of_methodNamed B.named
  have hlocks := B.notSynchronized
  have hS : va_S (fun _ => False) s.heap s.heap [] := va_S.rf
  have hFA0 : gz_ap (fun _ => False) (gz_fam 24 ra 7 (fun i => [.int (r_place i), .int (r_kind i), .int (r_month i), .int (r_day i), .int (r_known i), .int (r_struck i)])) := gz_ap0
  have hl := lv_entry ([.ref h0, .int p1, .int p2]) (n := 6) (Nat.le_of_ble_eq_true rfl)
  rw [lg_entry_eq]
  generalize (lg_sl ([.ref h0, .int p1, .int p2]) ++ List.replicate (6 - (lg_sl ([.ref h0, .int p1, .int p2])).length) Slot.unset).toArray = ls at hl ⊢
  have hl : lv_has ls 6 [(0, .ref h0), (1, .int p1), (2, .int p2)] := hl
  refine lv_aload_n hx hb dX11_blind_0 rfl (lv_at hl 0 rfl) ?_
  refine lv_iload_n hx hb dX11_blind_1 rfl (lv_at hl 1 rfl) ?_
  have hPc := hP.sub (ws' := [(h0, .inr (11, [.ref xr, .ref am, .ref xs, .ref xf, .ref co, .ref oc, .ref ta, .ref xq, .ref xh, .ref xk, .ref xo, .int x_outLength, .int x_courtStands, .int x_courtNews, .int x_tallyStands, .int x_historyStands])), (am, .inr (0, [.int amonths, .int afull, .int alean, .int alines, .int ahasMoon, .int amoonStart, .int amoonStep, .int aplaceCount, .int areportCount, .int adeedCount, .ref pl, .ref re, .ref de]))]) [0, 1] rfl
  have hKc := hK.sub (tys' := []) [] rfl
  refine va_calli (va_runV (As := [.int p1]) (rest := []) ⟨hx, hb, hml, hown, hts⟩ (sX11_hasTime l dC dI h0 am xr xs xf co oc ta xq xh xk xo x_outLength x_courtStands x_courtNews x_tallyStands x_historyStands amonths afull alean alines ahasMoon amoonStart amoonStep aplaceCount areportCount adeedCount pl re de p1 gx_outLength gx_courtStands gx_tallyStands gx_historyStands gamonths gafull galean gahasMoon gaplaceCount gareportCount gadeedCount) (cwV 1 hts (gz_gV mGA_424 mGA_425 mGA_426 mGA_1 mGA_427 goodGA) rfl rfl rfl (by decide +kernel) ⟨Nat.le_of_ble_eq_true rfl, Nat.le_of_ble_eq_true rfl⟩) ⟨fun a U g mk q => by obtain ⟨q0, qP, qK, qZ⟩ := q; exact ⟨q0, qP, va_K.moved (u := U) (U := U.calling g mk a) (Vm.Alike.refl U.vm) qK, nzA_same (u := U) (U := U.calling g mk a) rfl qZ⟩, va_recv hKc hPc (ci := 11) (q0 := 0) rfl rfl, fun U hU hW => ⟨rfl, by rw [hU]; exact hPc, va_K.moved hW.alike hKc, nzA_warm hW hz⟩⟩ rfl rfl hl.1 rfl (lv_room (Nat.le_of_ble_eq_true rfl)) dX11_blind_2 ⟨Nat.zero_le _, Nat.zero_le _⟩) hS (fun q _ h => h.elim) (fun q h => h.elim) (fun r_406 u t H1 locs ht hvm hw hB hz1 hk1 hS => ?_)
  have hP := gz_keep hP hk1
  generalize H1 = H at hP hS ⊢
  have gr_406 : gi r_406 0 1 := hw.1
  have hqr_406 := hw.2
  refine lv_if_eq (tgt := 26) hx hb dX11_blind_5 (by decide) (fun c_407 => ?_) (fun c_407 => ?_)
  · have g_408 : gi r_406 0 0 := gi_eq c_407 (gi_c 0 0 (by decide))
    refine lv_bipush (v := (-2)) hx hb dX11_blind_26 (by decide) ?_
    exact W.iret (v := (-2)) hx hb hr (fun t ht hW => ⟨⟨(-2), (), rfl, (gi_w (gi_c (-2) (-2) (by decide)) (by decide)), trivial⟩, hS.F ht⟩) hS.2.2 dX11_blind_28
  · have g_409 : gi r_406 1 1 := gi_ne_lo c_407 gr_406 (gi_c 0 0 (by decide)) (by decide)
    have g_410 : gi p1 0 999 := gi_cap (gi_any p1) (hqr_406 (gz_one g_409)) (by decide)
    refine lv_aload_n hx hb dX11_blind_8 rfl (lv_at hl 0 rfl) ?_
    refine lv_iload_n hx hb dX11_blind_9 rfl (lv_at hl 2 rfl) ?_
    refine lv_iconst (v := 1) hx hb dX11_blind_10 (by decide) ?_
    refine lv_aload_n hx hb dX11_blind_11 rfl (lv_at hl 0 rfl) ?_
    refine va_get (D := (dC, dI)) (ci := 11) (v := .ref am) (C := RX11) (T := TX11) (N := 16) hx hb hts (fun w h => List.mem_cons_of_mem _ (jnGA_X11 w h)) hown hK hP 0 rfl rfl 1 (by decide) (hts _ (List.mem_cons_of_mem _ mGA_14)) (fun _ h9 => h9) rfl dX11_blind_12 ?_
    refine va_get (D := (dC, dI)) (ci := 0) (v := .int amonths) (C := RX0) (T := TX0) (N := 13) hx hb hts (fun w h => List.mem_cons_of_mem _ (jnGA_X0 w h)) hown hK hP 1 rfl rfl 0 (by decide) (hts _ (List.mem_cons_of_mem _ mGA_353)) (fun _ h9 => h9) rfl dX11_blind_15 ?_
    refine lv_iconst (v := 1) hx hb dX11_blind_18 (by decide) ?_
    refine lv_isub hx hb dX11_blind_19 ?_
    refine lv_topi (fun x_411 ex_411 => ?_)
    have gx_411 : gi x_411 (-1) 23 := gi_sub ex_411 gamonths (gi_c 1 1 (by decide)) (by decide)
    have hPc := hP.sub (ws' := [(h0, .inr (11, [.ref xr, .ref am, .ref xs, .ref xf, .ref co, .ref oc, .ref ta, .ref xq, .ref xh, .ref xk, .ref xo, .int x_outLength, .int x_courtStands, .int x_courtNews, .int x_tallyStands, .int x_historyStands])), (am, .inr (0, [.int amonths, .int afull, .int alean, .int alines, .int ahasMoon, .int amoonStart, .int amoonStep, .int aplaceCount, .int areportCount, .int adeedCount, .ref pl, .ref re, .ref de]))]) [0, 1] rfl
    have hKc := hK.sub (tys' := []) [] rfl
    refine va_calli (va_runV (As := [.int p2, .int 1, .int x_411]) (rest := []) ⟨hx, hb, hml, hown, hts⟩ (sX11_hasMonthA l dC dI h0 am xr xs xf co oc ta xq xh xk xo x_outLength x_courtStands x_courtNews x_tallyStands x_historyStands amonths afull alean alines ahasMoon amoonStart amoonStep aplaceCount areportCount adeedCount pl re de p2 1 x_411 gx_outLength gx_courtStands gx_tallyStands gx_historyStands gamonths gafull galean gahasMoon gaplaceCount gareportCount gadeedCount (gi_w (gi_c 1 1 (by decide)) (by decide)) gx_411) (cwV 3 hts (gz_gV mGA_408 mGA_409 mGA_410 mGA_1 mGA_411 goodGA) rfl rfl rfl (by decide +kernel) ⟨Nat.le_of_ble_eq_true rfl, Nat.le_of_ble_eq_true rfl⟩) ⟨fun a U g mk q => by obtain ⟨q0, qP, qK, qZ⟩ := q; exact ⟨q0, qP, va_K.moved (u := U) (U := U.calling g mk a) (Vm.Alike.refl U.vm) qK, nzA_same (u := U) (U := U.calling g mk a) rfl qZ⟩, va_recv hKc hPc (ci := 11) (q0 := 0) rfl rfl, fun U hU hW => ⟨rfl, by rw [hU]; exact hPc, va_K.moved hW.alike hKc, nzA_warm hW hz⟩⟩ rfl rfl hl.1 rfl (lv_room (Nat.le_of_ble_eq_true rfl)) dX11_blind_20 ⟨Nat.zero_le _, Nat.zero_le _⟩) hS (fun q _ h => h.elim) (fun q h => h.elim) (fun r_412 u t H1 locs ht hvm hw hB hz1 hk1 hS => ?_)
    have hP := gz_keep hP hk1
    generalize H1 = H at hP hS ⊢
    have gr_412 : gi r_412 0 1 := hw.1
    have hqr_412 := hw.2
    refine lv_if_ne (tgt := 29) hx hb dX11_blind_23 (by decide) (fun c_413 => ?_) (fun c_413 => ?_)
    · have g_414 : gi r_412 1 1 := gi_ne_lo c_413 gr_412 (gi_c 0 0 (by decide)) (by decide)
      have g_415 : gi p2 0 23 := gi_cap (gi_any p2) (hqr_412 (gz_one g_414)) (by decide)
      refine lv_iconst (v := 0) hx hb dX11_blind_29 (by decide) ?_
      refine lv_istore_n (lv' := [(3, .int 0), (0, .ref h0), (1, .int p1), (2, .int p2)]) hx hb dX11_blind_30 rfl hl (by decide) rfl (fun ls hl => ?_)
      refine lv_iconst (v := 0) hx hb dX11_blind_31 (by decide) ?_
      refine lv_istore (lv' := [(4, .int 0), (3, .int 0), (0, .ref h0), (1, .int p1), (2, .int p2)]) hx hb dX11_blind_32 hl (by decide) rfl (fun ls hl => ?_)
      refine (lp_sX11_blind h0 am re xr xs xf co oc ta xq xh xk xo x_outLength x_courtStands x_courtNews x_tallyStands x_historyStands amonths afull alean alines ahasMoon amoonStart amoonStep aplaceCount areportCount adeedCount pl de kre ra r_place r_kind r_month r_day r_known r_struck p1 p2 gx_outLength gx_courtStands gx_tallyStands gx_historyStands gamonths gafull galean gahasMoon gaplaceCount gareportCount gadeedCount gr_place gr_month gr_struck hx hb hml hown hts hK hz hF0 hFA0 (Nat.le_of_ble_eq_true rfl) (Nat.le_of_ble_eq_true rfl) (Nat.zero_le _) (Nat.zero_le _) (fun v H locs ls gv hP hS hl => ?_) (fun v H locs ls gv hP hS hl => ?_) (fun v H locs ls gv hP hS hl => ?_) 62) 0 0 _ _ _ g_410 g_415 (gi_w (gi_c 0 0 (by decide)) (by decide)) (gi_w (gi_c 0 0 (by decide)) (by decide)) (by have k0 : (0 : Int32).toInt = 0 := (by decide); omega) hP hS (lv_sub hl [2, 3, 4, 1, 0] rfl)
      · skip
        exact W.iret (v := v) hx hb hr (fun t ht hW => ⟨⟨v, (), rfl, (gi_w gv (by decide)), trivial⟩, hS.F ht⟩) hS.2.2 dX11_blind_28
      · skip
        exact W.iret (v := v) hx hb hr (fun t ht hW => ⟨⟨v, (), rfl, (gi_w gv (by decide)), trivial⟩, hS.F ht⟩) hS.2.2 dX11_blind_96
      · skip
        exact W.iret (v := v) hx hb hr (fun t ht hW => ⟨⟨v, (), rfl, (gi_w gv (by decide)), trivial⟩, hS.F ht⟩) hS.2.2 dX11_blind_86
    · have g_416 : gi r_412 0 0 := gi_eq c_413 (gi_c 0 0 (by decide))
      refine lv_bipush (v := (-2)) hx hb dX11_blind_26 (by decide) ?_
      exact W.iret (v := (-2)) hx hb hr (fun t ht hW => ⟨⟨(-2), (), rfl, (gi_w (gi_c (-2) (-2) (by decide)) (by decide)), trivial⟩, hS.F ht⟩) hS.2.2 dX11_blind_28
