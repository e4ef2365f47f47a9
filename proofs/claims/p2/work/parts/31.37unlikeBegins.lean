theorem dX11_unlikeBegins_0 : decode cX11_unlikeBegins 0 = .ok (.iconst 0, 1) := by decide +kernel
theorem dX11_unlikeBegins_1 : decode cX11_unlikeBegins 1 = .ok (.istore_n 3, 1) := by decide +kernel
theorem dX11_unlikeBegins_2 : decode cX11_unlikeBegins 2 = .ok (.iconst 1, 1) := by decide +kernel
theorem dX11_unlikeBegins_3 : decode cX11_unlikeBegins 3 = .ok (.istore 4, 2) := by decide +kernel
theorem dX11_unlikeBegins_5 : decode cX11_unlikeBegins 5 = .ok (.iload 4, 2) := by decide +kernel
theorem dX11_unlikeBegins_7 : decode cX11_unlikeBegins 7 = .ok (.aload_n 0, 1) := by decide +kernel
theorem dX11_unlikeBegins_8 : decode cX11_unlikeBegins 8 = .ok (.getfield 19, 3) := by decide +kernel
theorem dX11_unlikeBegins_11 : decode cX11_unlikeBegins 11 = .ok (.getfield 120, 3) := by decide +kernel
theorem dX11_unlikeBegins_14 : decode cX11_unlikeBegins 14 = .ok (.if_icmp .gt 27, 3) := by decide +kernel
theorem dX11_unlikeBegins_17 : decode cX11_unlikeBegins 17 = .ok (.aload_n 1, 1) := by decide +kernel
theorem dX11_unlikeBegins_18 : decode cX11_unlikeBegins 18 = .ok (.iload 4, 2) := by decide +kernel
theorem dX11_unlikeBegins_20 : decode cX11_unlikeBegins 20 = .ok (.iaload, 1) := by decide +kernel
theorem dX11_unlikeBegins_21 : decode cX11_unlikeBegins 21 = .ok (.aload_n 2, 1) := by decide +kernel
theorem dX11_unlikeBegins_22 : decode cX11_unlikeBegins 22 = .ok (.iload 4, 2) := by decide +kernel
theorem dX11_unlikeBegins_24 : decode cX11_unlikeBegins 24 = .ok (.iaload, 1) := by decide +kernel
theorem dX11_unlikeBegins_25 : decode cX11_unlikeBegins 25 = .ok (.if_icmp .eq 10, 3) := by decide +kernel
theorem dX11_unlikeBegins_28 : decode cX11_unlikeBegins 28 = .ok (.iload_n 3, 1) := by decide +kernel
theorem dX11_unlikeBegins_29 : decode cX11_unlikeBegins 29 = .ok (.iconst 1, 1) := by decide +kernel
theorem dX11_unlikeBegins_30 : decode cX11_unlikeBegins 30 = .ok (.iload 4, 2) := by decide +kernel
theorem dX11_unlikeBegins_32 : decode cX11_unlikeBegins 32 = .ok (.ishl, 1) := by decide +kernel
theorem dX11_unlikeBegins_33 : decode cX11_unlikeBegins 33 = .ok (.ior, 1) := by decide +kernel
theorem dX11_unlikeBegins_34 : decode cX11_unlikeBegins 34 = .ok (.istore_n 3, 1) := by decide +kernel
theorem dX11_unlikeBegins_35 : decode cX11_unlikeBegins 35 = .ok (.iinc 4 1, 3) := by decide +kernel
theorem dX11_unlikeBegins_38 : decode cX11_unlikeBegins 38 = .ok (.goto (-33), 3) := by decide +kernel
theorem dX11_unlikeBegins_41 : decode cX11_unlikeBegins 41 = .ok (.iload_n 3, 1) := by decide +kernel
theorem dX11_unlikeBegins_42 : decode cX11_unlikeBegins 42 = .ok (.ireturn, 1) := by decide +kernel
set_option maxHeartbeats 4000000 in
set_option maxRecDepth 100000 in
theorem lp_sX11_unlikeBegins {p : Program} {l : Launch} {e : Env} {R : Room} {s : State} {m : MethodId} {args : Array Value} {below : List Frame} {meth : Method} {c : Code} {Q : State → Prop} {A : Nat → Prop} {cells slots : Nat} {dC : Nat → ClassId} {dI : Nat → Nat → Nat} (h0 : Nat) (am : Nat) (cb : Nat) (ob : Nat) (xr : Nat) (xs : Nat) (xf : Nat) (co : Nat) (oc : Nat) (ta : Nat) (xq : Nat) (xh : Nat) (xk : Nat) (xo : Nat) (x_outLength : Int32) (x_courtStands : Int32) (x_courtNews : Int32) (x_tallyStands : Int32) (x_historyStands : Int32) (amonths : Int32) (afull : Int32) (alean : Int32) (alines : Int32) (ahasMoon : Int32) (amoonStart : Int32) (amoonStep : Int32) (aplaceCount : Int32) (areportCount : Int32) (adeedCount : Int32) (pl : Nat) (re : Nat) (de : Nat) (kcb : ClassId) (fcb : Nat → Int32) (kob : ClassId) (fob : Nat → Int32) (gx_outLength : gi x_outLength 0 72) (gx_courtStands : gi x_courtStands 0 1) (gx_tallyStands : gi x_tallyStands 0 1) (gx_historyStands : gi x_historyStands 0 1) (gamonths : gi amonths 0 24) (gafull : gi afull 0 5) (galean : gi alean 0 5) (gahasMoon : gi ahasMoon 0 1) (gaplaceCount : gi aplaceCount 0 6) (gareportCount : gi areportCount 0 24) (gadeedCount : gi adeedCount 0 8) (hx : p.tables.exec = Jvm.exec) (hb : c.code = cX11_unlikeBegins) (hml : c.maxLocals = 5) (hown : s.vm.findClass RX11 = some m.cls) (hts : ∀ w ∈ ((.code yX11_unlikeBegins cX11_unlikeBegins 5 (some .int) :: wsGA) : List Cond), w.before args s = true) (hK : va_K (dC, dI) vwCl [(kcb, .int), (kob, .int)] s) (hz : nzA s) (hRf : 0 ≤ R.frames) (hRl : 0 ≤ R.locals) (hRc : cells ≤ R.cells) (hRs : slots ≤ R.slots) (kr42 : ∀ (v : Int32) (H : Heap) (locs : List Loc) (ls : Array Slot), va_P (dC, dI) vwCl [(h0, .inr (11, [.ref xr, .ref am, .ref xs, .ref xf, .ref co, .ref oc, .ref ta, .ref xq, .ref xh, .ref xk, .ref xo, .int x_outLength, .int x_courtStands, .int x_courtNews, .int x_tallyStands, .int x_historyStands])), (am, .inr (0, [.int amonths, .int afull, .int alean, .int alines, .int ahasMoon, .int amoonStart, .int amoonStep, .int aplaceCount, .int areportCount, .int adeedCount, .ref pl, .ref re, .ref de])), (cb, .inl (kcb, 25, .inl fcb)), (ob, .inl (kob, 25, .inl fob))] H → va_S A s.heap H locs → lv_has ls 5 [] → W p l e R s m args below meth c H locs cells slots Q (F0 m 42 ls [.int v])) : ∀ z : Nat, (∀ (v3 : Int32) (v4 : Int32) (H : Heap) (locs : List Loc) (ls : Array Slot), gi v4 1 25 → 51 + (-2) * v4.toInt < (z : Int) → va_P (dC, dI) vwCl [(h0, .inr (11, [.ref xr, .ref am, .ref xs, .ref xf, .ref co, .ref oc, .ref ta, .ref xq, .ref xh, .ref xk, .ref xo, .int x_outLength, .int x_courtStands, .int x_courtNews, .int x_tallyStands, .int x_historyStands])), (am, .inr (0, [.int amonths, .int afull, .int alean, .int alines, .int ahasMoon, .int amoonStart, .int amoonStep, .int aplaceCount, .int areportCount, .int adeedCount, .ref pl, .ref re, .ref de])), (cb, .inl (kcb, 25, .inl fcb)), (ob, .inl (kob, 25, .inl fob))] H → va_S A s.heap H locs → lv_has ls 5 [(0, .ref h0), (1, .ref cb), (2, .ref ob), (3, .int v3), (4, .int v4)] → W p l e R s m args below meth c H locs cells slots Q (F0 m 5 ls [])) := by
  intro z
  induction z with
  | zero =>
    intro v3 v4 H locs ls gv4 hmu hP hS hl
    exact absurd hmu (by have hv41 := gv4.1; have hv42 := gv4.2; omega)
  | succ z ih =>
      intro v3 v4 H locs ls gv4 hmu hP hS hl
      refine lv_iload hx hb dX11_unlikeBegins_5 (lv_at hl 4 rfl) ?_
      refine lv_aload_n hx hb dX11_unlikeBegins_7 rfl (lv_at hl 0 rfl) ?_
      refine va_get (D := (dC, dI)) (ci := 11) (v := .ref am) (C := RX11) (T := TX11) (N := 16) hx hb hts (fun w h => List.mem_cons_of_mem _ (jnGA_X11 w h)) hown hK hP 0 rfl rfl 1 (by decide) (hts _ (List.mem_cons_of_mem _ mGA_14)) (fun _ h9 => h9) rfl dX11_unlikeBegins_8 ?_
      refine va_get (D := (dC, dI)) (ci := 0) (v := .int amonths) (C := RX0) (T := TX0) (N := 13) hx hb hts (fun w h => List.mem_cons_of_mem _ (jnGA_X0 w h)) hown hK hP 1 rfl rfl 0 (by decide) (hts _ (List.mem_cons_of_mem _ mGA_353)) (fun _ h9 => h9) rfl dX11_unlikeBegins_11 ?_
      refine lv_icmp_gt (tgt := 41) hx hb dX11_unlikeBegins_14 (by decide) (fun c_151 => ?_) (fun c_151 => ?_)
      · refine lv_iload_n hx hb dX11_unlikeBegins_41 rfl (lv_at hl 3 rfl) ?_
        exact kr42 v3 _ _ _ hP hS (lv_sub hl [] rfl)
      · have g_152 : gi v4 1 24 := gi_le_l (Int32.not_lt.mp c_151) gv4 gamonths
        have g_153 : gi amonths 1 24 := gi_le_r (Int32.not_lt.mp c_151) gv4 gamonths
        refine lv_aload_n hx hb dX11_unlikeBegins_17 rfl (lv_at hl 1 rfl) ?_
        refine lv_iload hx hb dX11_unlikeBegins_18 (lv_at hl 4 rfl) ?_
        refine va_iald hx hb hK hP 2 0 rfl rfl (gi_in g_152 (by decide)) dX11_unlikeBegins_20 ?_
        refine lv_topi (fun x_154 ex_154 => ?_)
        refine lv_aload_n hx hb dX11_unlikeBegins_21 rfl (lv_at hl 2 rfl) ?_
        refine lv_iload hx hb dX11_unlikeBegins_22 (lv_at hl 4 rfl) ?_
        refine va_iald hx hb hK hP 3 1 rfl rfl (gi_in g_152 (by decide)) dX11_unlikeBegins_24 ?_
        refine lv_topi (fun x_155 ex_155 => ?_)
        refine lv_icmp_eq (tgt := 35) hx hb dX11_unlikeBegins_25 (by decide) (fun c_156 => ?_) (fun c_156 => ?_)
        · obtain ⟨x_157, ex_157⟩ : ∃ y : Int32, y = v4 + 1 := ⟨_, rfl⟩
          have gx_157 : gi x_157 2 25 := gi_add ex_157 g_152 (gi_c 1 1 (by decide)) (by decide)
          refine lv_iinc (v := x_157) (lv' := [(4, .int x_157), (0, .ref h0), (1, .ref cb), (2, .ref ob), (3, .int v3)]) hx hb dX11_unlikeBegins_35 hl (k := 4) rfl (by rw [ex_157]; rfl) (by decide) rfl (fun ls hl => ?_)
          refine lv_goto (tgt := 5) hx hb dX11_unlikeBegins_38 (by decide) ?_
          exact ih v3 x_157 _ _ _ (gi_w gx_157 (by decide)) (by have av4 := gv4.1; have bv4 := gv4.2; have qgx_157 := gx_157.1; have rgx_157 := gx_157.2; have igx_157 : x_157.toInt = v4.toInt + 1 := (by have hc1 : (1 : Int32).toInt = 1 := (by decide); have h9 := gi_addI ex_157 (by have h1 := g_152.1; have h2 := (gi_c 1 1 (by decide)).1; have h3 := g_152.2; have h4 := (gi_c 1 1 (by decide)).2; omega) (by have h1 := g_152.1; have h2 := (gi_c 1 1 (by decide)).1; have h3 := g_152.2; have h4 := (gi_c 1 1 (by decide)).2; omega); rw [hc1] at h9; exact h9); have qgv4 := g_152.1; have rgv4 := g_152.2; omega) hP hS (lv_sub hl [1, 2, 3, 4, 0] rfl)
        · refine lv_iload_n hx hb dX11_unlikeBegins_28 rfl (lv_at hl 3 rfl) ?_
          refine lv_iconst (v := 1) hx hb dX11_unlikeBegins_29 (by decide) ?_
          refine lv_iload hx hb dX11_unlikeBegins_30 (lv_at hl 4 rfl) ?_
          refine lv_ishl hx hb dX11_unlikeBegins_32 ?_
          refine lv_topi (fun x_158 ex_158 => ?_)
          refine lv_ior hx hb dX11_unlikeBegins_33 ?_
          refine lv_topi (fun x_159 ex_159 => ?_)
          refine lv_istore_n (lv' := [(3, .int x_159), (0, .ref h0), (1, .ref cb), (2, .ref ob), (4, .int v4)]) hx hb dX11_unlikeBegins_34 rfl hl (by decide) rfl (fun ls hl => ?_)
          obtain ⟨x_160, ex_160⟩ : ∃ y : Int32, y = v4 + 1 := ⟨_, rfl⟩
          have gx_160 : gi x_160 2 25 := gi_add ex_160 g_152 (gi_c 1 1 (by decide)) (by decide)
          refine lv_iinc (v := x_160) (lv' := [(4, .int x_160), (3, .int x_159), (0, .ref h0), (1, .ref cb), (2, .ref ob)]) hx hb dX11_unlikeBegins_35 hl (k := 4) rfl (by rw [ex_160]; rfl) (by decide) rfl (fun ls hl => ?_)
          refine lv_goto (tgt := 5) hx hb dX11_unlikeBegins_38 (by decide) ?_
          exact ih x_159 x_160 _ _ _ (gi_w gx_160 (by decide)) (by have av4 := gv4.1; have bv4 := gv4.2; have qgx_160 := gx_160.1; have rgx_160 := gx_160.2; have igx_160 : x_160.toInt = v4.toInt + 1 := (by have hc1 : (1 : Int32).toInt = 1 := (by decide); have h9 := gi_addI ex_160 (by have h1 := g_152.1; have h2 := (gi_c 1 1 (by decide)).1; have h3 := g_152.2; have h4 := (gi_c 1 1 (by decide)).2; omega) (by have h1 := g_152.1; have h2 := (gi_c 1 1 (by decide)).1; have h3 := g_152.2; have h4 := (gi_c 1 1 (by decide)).2; omega); rw [hc1] at h9; exact h9); have qgv4 := g_152.1; have rgv4 := g_152.2; omega) hP hS (lv_sub hl [2, 3, 4, 1, 0] rfl)
set_option maxHeartbeats 4000000 in
set_option maxRecDepth 100000 in
theorem sX11_unlikeBegins (l : Launch) (dC : Nat → ClassId) (dI : Nat → Nat → Nat) (h0 : Nat) (am : Nat) (cb : Nat) (ob : Nat) (xr : Nat) (xs : Nat) (xf : Nat) (co : Nat) (oc : Nat) (ta : Nat) (xq : Nat) (xh : Nat) (xk : Nat) (xo : Nat) (x_outLength : Int32) (x_courtStands : Int32) (x_courtNews : Int32) (x_tallyStands : Int32) (x_historyStands : Int32) (amonths : Int32) (afull : Int32) (alean : Int32) (alines : Int32) (ahasMoon : Int32) (amoonStart : Int32) (amoonStep : Int32) (aplaceCount : Int32) (areportCount : Int32) (adeedCount : Int32) (pl : Nat) (re : Nat) (de : Nat) (kcb : ClassId) (fcb : Nat → Int32) (kob : ClassId) (fob : Nat → Int32) (gx_outLength : gi x_outLength 0 72) (gx_courtStands : gi x_courtStands 0 1) (gx_tallyStands : gi x_tallyStands 0 1) (gx_historyStands : gi x_historyStands 0 1) (gamonths : gi amonths 0 24) (gafull : gi afull 0 5) (galean : gi alean 0 5) (gahasMoon : gi ahasMoon 0 1) (gaplaceCount : gi aplaceCount 0 6) (gareportCount : gi areportCount 0 24) (gadeedCount : gi adeedCount 0 8) : Met l yX11_unlikeBegins (.code yX11_unlikeBegins cX11_unlikeBegins 5 (some .int) :: wsGA) ({ frames := 0, cells := 0, slots := 0, locals := 0 }) (va_Pc [.ref h0, .ref cb, .ref ob] (fun U => va_P (dC, dI) vwCl [(h0, .inr (11, [.ref xr, .ref am, .ref xs, .ref xf, .ref co, .ref oc, .ref ta, .ref xq, .ref xh, .ref xk, .ref xo, .int x_outLength, .int x_courtStands, .int x_courtNews, .int x_tallyStands, .int x_historyStands])), (am, .inr (0, [.int amonths, .int afull, .int alean, .int alines, .int ahasMoon, .int amoonStart, .int amoonStep, .int aplaceCount, .int areportCount, .int adeedCount, .ref pl, .ref re, .ref de])), (cb, .inl (kcb, 25, .inl fcb)), (ob, .inl (kob, 25, .inl fob))] U.heap ∧ va_K (dC, dI) vwCl [(kcb, .int), (kob, .int)] U ∧ nzA U)) (va_Qi (fun (r : Int32) (u : Unit) => gi r (-2147483648) 2147483647) (fun _ _ => True) (fun _ => False)) 0 0 (fun _ => False) := by
  refine Met.ofW (cc := cX11_unlikeBegins) (maxL := 5) (ret := (some .int)) (by decide) rfl ?_
  intro p e s m args below meth c s₁ B hml hv
  obtain ⟨rfl, hP, hK, hz⟩ := hv
  have hx := B.exec
  have hb := B.bytes
  have hr := B.returns
  have hts := atoms_spec (ws := (.code yX11_unlikeBegins cX11_unlikeBegins 5 (some .int) :: wsGA)) B.pre
  have hown : s.vm.findClass RX11 = some m.cls := findClass_of_methodNamed B.named
  have hlocks := B.notSynchronized
  have hS : va_S (fun _ => False) s.heap s.heap [] := va_S.rf
  have hl := lv_entry ([.ref h0, .ref cb, .ref ob]) (n := 5) (Nat.le_of_ble_eq_true rfl)
  rw [lg_entry_eq]
  generalize (lg_sl ([.ref h0, .ref cb, .ref ob]) ++ List.replicate (5 - (lg_sl ([.ref h0, .ref cb, .ref ob])).length) Slot.unset).toArray = ls at hl ⊢
  have hl : lv_has ls 5 [(0, .ref h0), (1, .ref cb), (2, .ref ob)] := hl
  refine lv_iconst (v := 0) hx hb dX11_unlikeBegins_0 (by decide) ?_
  refine lv_istore_n (lv' := [(3, .int 0), (0, .ref h0), (1, .ref cb), (2, .ref ob)]) hx hb dX11_unlikeBegins_1 rfl hl (by decide) rfl (fun ls hl => ?_)
  refine lv_iconst (v := 1) hx hb dX11_unlikeBegins_2 (by decide) ?_
  refine lv_istore (lv' := [(4, .int 1), (3, .int 0), (0, .ref h0), (1, .ref cb), (2, .ref ob)]) hx hb dX11_unlikeBegins_3 hl (by decide) rfl (fun ls hl => ?_)
  refine (lp_sX11_unlikeBegins h0 am cb ob xr xs xf co oc ta xq xh xk xo x_outLength x_courtStands x_courtNews x_tallyStands x_historyStands amonths afull alean alines ahasMoon amoonStart amoonStep aplaceCount areportCount adeedCount pl re de kcb fcb kob fob gx_outLength gx_courtStands gx_tallyStands gx_historyStands gamonths gafull galean gahasMoon gaplaceCount gareportCount gadeedCount hx hb hml hown hts hK hz (Nat.le_of_ble_eq_true rfl) (Nat.le_of_ble_eq_true rfl) (Nat.zero_le _) (Nat.zero_le _) (fun v H locs ls hP hS hl => ?_) 62) 0 1 _ _ _ (gi_w (gi_c 1 1 (by decide)) (by decide)) (by have k1 : (1 : Int32).toInt = 1 := (by decide); omega) hP hS (lv_sub hl [2, 3, 4, 1, 0] rfl)
  · skip
    exact W.iret (v := v) hx hb hr (fun t ht hW => ⟨⟨v, (), rfl, (gi_any v), trivial⟩, hS.F ht⟩) hS.2.2 dX11_unlikeBegins_42
