theorem dX4_changesAt_0 : decode cX4_changesAt 0 = .ok (.aload_n 0, 1) := by decide +kernel
theorem dX4_changesAt_1 : decode cX4_changesAt 1 = .ok (.getfield 15, 3) := by decide +kernel
theorem dX4_changesAt_4 : decode cX4_changesAt 4 = .ok (.iload_n 1, 1) := by decide +kernel
theorem dX4_changesAt_5 : decode cX4_changesAt 5 = .ok (.bipush 25, 2) := by decide +kernel
theorem dX4_changesAt_7 : decode cX4_changesAt 7 = .ok (.imul, 1) := by decide +kernel
theorem dX4_changesAt_8 : decode cX4_changesAt 8 = .ok (.iload_n 2, 1) := by decide +kernel
theorem dX4_changesAt_9 : decode cX4_changesAt 9 = .ok (.iadd, 1) := by decide +kernel
theorem dX4_changesAt_10 : decode cX4_changesAt 10 = .ok (.iaload, 1) := by decide +kernel
theorem dX4_changesAt_11 : decode cX4_changesAt 11 = .ok (.aload_n 0, 1) := by decide +kernel
theorem dX4_changesAt_12 : decode cX4_changesAt 12 = .ok (.getfield 15, 3) := by decide +kernel
theorem dX4_changesAt_15 : decode cX4_changesAt 15 = .ok (.iload_n 1, 1) := by decide +kernel
theorem dX4_changesAt_16 : decode cX4_changesAt 16 = .ok (.iconst 1, 1) := by decide +kernel
theorem dX4_changesAt_17 : decode cX4_changesAt 17 = .ok (.isub, 1) := by decide +kernel
theorem dX4_changesAt_18 : decode cX4_changesAt 18 = .ok (.bipush 25, 2) := by decide +kernel
theorem dX4_changesAt_20 : decode cX4_changesAt 20 = .ok (.imul, 1) := by decide +kernel
theorem dX4_changesAt_21 : decode cX4_changesAt 21 = .ok (.iload_n 2, 1) := by decide +kernel
theorem dX4_changesAt_22 : decode cX4_changesAt 22 = .ok (.iadd, 1) := by decide +kernel
theorem dX4_changesAt_23 : decode cX4_changesAt 23 = .ok (.iaload, 1) := by decide +kernel
theorem dX4_changesAt_24 : decode cX4_changesAt 24 = .ok (.if_icmp .eq 7, 3) := by decide +kernel
theorem dX4_changesAt_27 : decode cX4_changesAt 27 = .ok (.iconst 1, 1) := by decide +kernel
theorem dX4_changesAt_28 : decode cX4_changesAt 28 = .ok (.goto 4, 3) := by decide +kernel
theorem dX4_changesAt_31 : decode cX4_changesAt 31 = .ok (.iconst 0, 1) := by decide +kernel
theorem dX4_changesAt_32 : decode cX4_changesAt 32 = .ok (.ireturn, 1) := by decide +kernel
set_option maxHeartbeats 4000000 in
set_option maxRecDepth 100000 in
theorem sX4_changesAt (l : Launch) (dC : Nat → ClassId) (dI : Nat → Nat → Nat) (h0 : Nat) (hb_ : Nat) (si : Nat) (eras : Int32) (khb_ : ClassId) (fhb_ : Nat → Int32) (p0 : Int32) (p1 : Int32) (geras : gi eras 0 25) (gp0 : gi p0 1 24) (gp1 : gi p1 0 24) : Met l yX4_changesAt (.code yX4_changesAt cX4_changesAt 3 (some .boolean) :: wsGA) ({ frames := 0, cells := 0, slots := 0, locals := 0 }) (va_Pc [.ref h0, .int p0, .int p1] (fun U => va_P (dC, dI) vwCl [(h0, .inr (4, [.ref si, .ref hb_, .int eras])), (hb_, .inl (khb_, 625, .inl fhb_))] U.heap ∧ va_K (dC, dI) vwCl [(khb_, .int)] U ∧ nzA U)) (va_Qi (fun (r : Int32) (u : Unit) => gi r 0 1) (fun _ _ => True) (fun _ => False)) 0 0 (fun _ => False) := by
  refine Met.ofW (cc := cX4_changesAt) (maxL := 3) (ret := (some .boolean)) (by decide) rfl ?_
  intro p e s m args below meth c s₁ B hml hv
  obtain ⟨rfl, hP, hK, hz⟩ := hv
  have hx := B.exec
  have hb := B.bytes
  have hr := B.returns
  have hts := atoms_spec (ws := (.code yX4_changesAt cX4_changesAt 3 (some .boolean) :: wsGA)) B.pre
  have hown : s.vm.findClass RX4 = some m.cls := findClass_of_methodNamed B.named
  have hlocks := B.notSynchronized
  have hS : va_S (fun _ => False) s.heap s.heap [] := va_S.rf
  have hl := lv_entry ([.ref h0, .int p0, .int p1]) (n := 3) (Nat.le_of_ble_eq_true rfl)
  rw [lg_entry_eq]
  generalize (lg_sl ([.ref h0, .int p0, .int p1]) ++ List.replicate (3 - (lg_sl ([.ref h0, .int p0, .int p1])).length) Slot.unset).toArray = ls at hl ⊢
  have hl : lv_has ls 3 [(0, .ref h0), (1, .int p0), (2, .int p1)] := hl
  refine lv_aload_n hx hb dX4_changesAt_0 rfl (lv_at hl 0 rfl) ?_
  refine va_get (D := (dC, dI)) (ci := 4) (v := .ref hb_) (C := RX4) (T := TX4) (N := 3) hx hb hts (fun w h => List.mem_cons_of_mem _ (jnGA_X4 w h)) hown hK hP 0 rfl rfl 1 (by decide) (hts _ (List.mem_cons_of_mem _ mGA_123)) (fun _ h9 => h9) rfl dX4_changesAt_1 ?_
  refine lv_iload_n hx hb dX4_changesAt_4 rfl (lv_at hl 1 rfl) ?_
  refine lv_bipush (v := 25) hx hb dX4_changesAt_5 (by decide) ?_
  refine lv_imul hx hb dX4_changesAt_7 ?_
  refine lv_topi (fun x_9 ex_9 => ?_)
  have gx_9 : gi x_9 25 600 := gi_mul ex_9 gp0 (gi_c 25 25 (by decide)) (by decide)
  refine lv_iload_n hx hb dX4_changesAt_8 rfl (lv_at hl 2 rfl) ?_
  refine lv_iadd hx hb dX4_changesAt_9 ?_
  refine lv_topi (fun x_10 ex_10 => ?_)
  have gx_10 : gi x_10 25 624 := gi_add ex_10 gx_9 gp1 (by decide)
  refine va_iald hx hb hK hP 1 0 rfl rfl (gi_in gx_10 (by decide)) dX4_changesAt_10 ?_
  refine lv_topi (fun x_11 ex_11 => ?_)
  refine lv_aload_n hx hb dX4_changesAt_11 rfl (lv_at hl 0 rfl) ?_
  refine va_get (D := (dC, dI)) (ci := 4) (v := .ref hb_) (C := RX4) (T := TX4) (N := 3) hx hb hts (fun w h => List.mem_cons_of_mem _ (jnGA_X4 w h)) hown hK hP 0 rfl rfl 1 (by decide) (hts _ (List.mem_cons_of_mem _ mGA_123)) (fun _ h9 => h9) rfl dX4_changesAt_12 ?_
  refine lv_iload_n hx hb dX4_changesAt_15 rfl (lv_at hl 1 rfl) ?_
  refine lv_iconst (v := 1) hx hb dX4_changesAt_16 (by decide) ?_
  refine lv_isub hx hb dX4_changesAt_17 ?_
  refine lv_topi (fun x_12 ex_12 => ?_)
  have gx_12 : gi x_12 0 23 := gi_sub ex_12 gp0 (gi_c 1 1 (by decide)) (by decide)
  refine lv_bipush (v := 25) hx hb dX4_changesAt_18 (by decide) ?_
  refine lv_imul hx hb dX4_changesAt_20 ?_
  refine lv_topi (fun x_13 ex_13 => ?_)
  have gx_13 : gi x_13 0 575 := gi_mul ex_13 gx_12 (gi_c 25 25 (by decide)) (by decide)
  refine lv_iload_n hx hb dX4_changesAt_21 rfl (lv_at hl 2 rfl) ?_
  refine lv_iadd hx hb dX4_changesAt_22 ?_
  refine lv_topi (fun x_14 ex_14 => ?_)
  have gx_14 : gi x_14 0 599 := gi_add ex_14 gx_13 gp1 (by decide)
  refine va_iald hx hb hK hP 1 0 rfl rfl (gi_in gx_14 (by decide)) dX4_changesAt_23 ?_
  refine lv_topi (fun x_15 ex_15 => ?_)
  refine lv_icmp_eq (tgt := 31) hx hb dX4_changesAt_24 (by decide) (fun c_16 => ?_) (fun c_16 => ?_)
  · refine lv_iconst (v := 0) hx hb dX4_changesAt_31 (by decide) ?_
    exact W.zret (v := 0) hx hb hr (by decide) (fun t ht hW => ⟨⟨0, (), rfl, (gi_w (gi_c 0 0 (by decide)) (by decide)), trivial⟩, hS.F ht⟩) hS.2.2 dX4_changesAt_32
  · refine lv_iconst (v := 1) hx hb dX4_changesAt_27 (by decide) ?_
    refine lv_goto (tgt := 32) hx hb dX4_changesAt_28 (by decide) ?_
    exact W.zret (v := 1) hx hb hr (by decide) (fun t ht hW => ⟨⟨1, (), rfl, (gi_w (gi_c 1 1 (by decide)) (by decide)), trivial⟩, hS.F ht⟩) hS.2.2 dX4_changesAt_32
theorem dX4_changesOf_0 : decode cX4_changesOf 0 = .ok (.iconst 0, 1) := by decide +kernel
theorem dX4_changesOf_1 : decode cX4_changesOf 1 = .ok (.istore_n 2, 1) := by decide +kernel
theorem dX4_changesOf_2 : decode cX4_changesOf 2 = .ok (.iconst 1, 1) := by decide +kernel
theorem dX4_changesOf_3 : decode cX4_changesOf 3 = .ok (.istore_n 3, 1) := by decide +kernel
theorem dX4_changesOf_4 : decode cX4_changesOf 4 = .ok (.iload_n 3, 1) := by decide +kernel
theorem dX4_changesOf_5 : decode cX4_changesOf 5 = .ok (.aload_n 0, 1) := by decide +kernel
theorem dX4_changesOf_6 : decode cX4_changesOf 6 = .ok (.getfield 18, 3) := by decide +kernel
theorem dX4_changesOf_9 : decode cX4_changesOf 9 = .ok (.if_icmp .ge 21, 3) := by decide +kernel
theorem dX4_changesOf_12 : decode cX4_changesOf 12 = .ok (.aload_n 0, 1) := by decide +kernel
theorem dX4_changesOf_13 : decode cX4_changesOf 13 = .ok (.iload_n 3, 1) := by decide +kernel
theorem dX4_changesOf_14 : decode cX4_changesOf 14 = .ok (.iload_n 1, 1) := by decide +kernel
theorem dX4_changesOf_15 : decode cX4_changesOf 15 = .ok (.invokevirtual 41, 3) := by decide +kernel
theorem dX4_changesOf_18 : decode cX4_changesOf 18 = .ok (.ifCond .eq 6, 3) := by decide +kernel
theorem dX4_changesOf_21 : decode cX4_changesOf 21 = .ok (.iinc 2 1, 3) := by decide +kernel
theorem dX4_changesOf_24 : decode cX4_changesOf 24 = .ok (.iinc 3 1, 3) := by decide +kernel
theorem dX4_changesOf_27 : decode cX4_changesOf 27 = .ok (.goto (-23), 3) := by decide +kernel
theorem dX4_changesOf_30 : decode cX4_changesOf 30 = .ok (.iload_n 2, 1) := by decide +kernel
theorem dX4_changesOf_31 : decode cX4_changesOf 31 = .ok (.ireturn, 1) := by decide +kernel
set_option maxHeartbeats 4000000 in
set_option maxRecDepth 100000 in
theorem lp_sX4_changesOf {p : Program} {l : Launch} {e : Env} {R : Room} {s : State} {m : MethodId} {args : Array Value} {below : List Frame} {meth : Method} {c : Code} {Q : State → Prop} {A : Nat → Prop} {cells slots : Nat} {dC : Nat → ClassId} {dI : Nat → Nat → Nat} (h0 : Nat) (hb_ : Nat) (si : Nat) (eras : Int32) (khb_ : ClassId) (fhb_ : Nat → Int32) (p0 : Int32) (geras : gi eras 0 25) (gp0 : gi p0 0 24) (hx : p.tables.exec = Jvm.exec) (hb : c.code = cX4_changesOf) (hml : c.maxLocals = 4) (hown : s.vm.findClass RX4 = some m.cls) (hts : ∀ w ∈ ((.code yX4_changesOf cX4_changesOf 4 (some .int) :: wsGA) : List Cond), w.before args s = true) (hK : va_K (dC, dI) vwCl [(khb_, .int)] s) (hz : nzA s) (hRf : 1 ≤ R.frames) (hRl : 22 ≤ R.locals) (hRc : cells ≤ R.cells) (hRs : slots ≤ R.slots) (kr31 : ∀ (v : Int32) (H : Heap) (locs : List Loc) (ls : Array Slot), va_P (dC, dI) vwCl [(h0, .inr (4, [.ref si, .ref hb_, .int eras])), (hb_, .inl (khb_, 625, .inl fhb_))] H → va_S A s.heap H locs → lv_has ls 4 [] → W p l e R s m args below meth c H locs cells slots Q (F0 m 31 ls [.int v])) : ∀ z : Nat, (∀ (v2 : Int32) (v3 : Int32) (H : Heap) (locs : List Loc) (ls : Array Slot), gi v3 1 25 → 51 + (-2) * v3.toInt < (z : Int) → va_P (dC, dI) vwCl [(h0, .inr (4, [.ref si, .ref hb_, .int eras])), (hb_, .inl (khb_, 625, .inl fhb_))] H → va_S A s.heap H locs → lv_has ls 4 [(0, .ref h0), (1, .int p0), (2, .int v2), (3, .int v3)] → W p l e R s m args below meth c H locs cells slots Q (F0 m 4 ls [])) := by
  intro z
  induction z with
  | zero =>
    intro v2 v3 H locs ls gv3 hmu hP hS hl
    exact absurd hmu (by have hv31 := gv3.1; have hv32 := gv3.2; omega)
  | succ z ih =>
      intro v2 v3 H locs ls gv3 hmu hP hS hl
      refine lv_iload_n hx hb dX4_changesOf_4 rfl (lv_at hl 3 rfl) ?_
      refine lv_aload_n hx hb dX4_changesOf_5 rfl (lv_at hl 0 rfl) ?_
      refine va_get (D := (dC, dI)) (ci := 4) (v := .int eras) (C := RX4) (T := TX4) (N := 3) hx hb hts (fun w h => List.mem_cons_of_mem _ (jnGA_X4 w h)) hown hK hP 0 rfl rfl 2 (by decide) (hts _ (List.mem_cons_of_mem _ mGA_124)) (fun _ h9 => h9) rfl dX4_changesOf_6 ?_
      refine lv_icmp_ge (tgt := 30) hx hb dX4_changesOf_9 (by decide) (fun c_391 => ?_) (fun c_391 => ?_)
      · refine lv_iload_n hx hb dX4_changesOf_30 rfl (lv_at hl 2 rfl) ?_
        exact kr31 v2 _ _ _ hP hS (lv_sub hl [] rfl)
      · have g_392 : gi v3 1 24 := gi_lt_l (Int32.not_le.mp c_391) gv3 geras (by decide)
        have g_393 : gi eras 2 25 := gi_lt_r (Int32.not_le.mp c_391) gv3 geras (by decide)
        refine lv_aload_n hx hb dX4_changesOf_12 rfl (lv_at hl 0 rfl) ?_
        refine lv_iload_n hx hb dX4_changesOf_13 rfl (lv_at hl 3 rfl) ?_
        refine lv_iload_n hx hb dX4_changesOf_14 rfl (lv_at hl 1 rfl) ?_
        have hPc := hP.sub (ws' := [(h0, .inr (4, [.ref si, .ref hb_, .int eras])), (hb_, .inl (khb_, 625, .inl fhb_))]) [0, 1] rfl
        have hKc := hK.sub (tys' := [(khb_, .int)]) [0] rfl
        refine va_calli (va_runV (As := [.int v3, .int p0]) (rest := []) ⟨hx, hb, hml, hown, hts⟩ (sX4_changesAt l dC dI h0 hb_ si eras khb_ fhb_ v3 p0 (gi_w g_393 (by decide)) g_392 gp0) (cwV 2 hts (gz_gV mGA_723 mGA_724 mGA_725 mGA_35 mGA_726 goodGA) rfl rfl rfl (by decide +kernel) ⟨Nat.le_trans (Nat.le_of_ble_eq_true rfl) hRf, Nat.le_trans (Nat.le_of_ble_eq_true rfl) hRl⟩) ⟨fun a U g mk q => by obtain ⟨q0, qP, qK, qZ⟩ := q; exact ⟨q0, qP, va_K.moved (u := U) (U := U.calling g mk a) (Vm.Alike.refl U.vm) qK, nzA_same (u := U) (U := U.calling g mk a) rfl qZ⟩, va_recv hKc hPc (ci := 4) (q0 := 0) rfl rfl, fun U hU hW => ⟨rfl, by rw [hU]; exact hPc, va_K.moved hW.alike hKc, nzA_warm hW hz⟩⟩ rfl rfl hl.1 rfl (lv_room (Nat.le_of_ble_eq_true rfl)) dX4_changesOf_15 ⟨hRc, hRs⟩) hS (fun q _ h => h.elim) (fun q h => h.elim) (fun r_394 u t H1 locs ht hvm hw hB hz1 hk1 hS => ?_)
        have hP := gz_keep hP hk1
        generalize H1 = H at hP hS ⊢
        have gr_394 : gi r_394 0 1 := hw
        refine lv_if_eq (tgt := 24) hx hb dX4_changesOf_18 (by decide) (fun c_395 => ?_) (fun c_395 => ?_)
        · have g_396 : gi r_394 0 0 := gi_eq c_395 (gi_c 0 0 (by decide))
          obtain ⟨x_397, ex_397⟩ : ∃ y : Int32, y = v3 + 1 := ⟨_, rfl⟩
          have gx_397 : gi x_397 2 25 := gi_add ex_397 g_392 (gi_c 1 1 (by decide)) (by decide)
          refine lv_iinc (v := x_397) (lv' := [(3, .int x_397), (0, .ref h0), (1, .int p0), (2, .int v2)]) hx hb dX4_changesOf_24 hl (k := 3) rfl (by rw [ex_397]; rfl) (by decide) rfl (fun ls hl => ?_)
          refine lv_goto (tgt := 4) hx hb dX4_changesOf_27 (by decide) ?_
          exact ih v2 x_397 _ _ _ (gi_w gx_397 (by decide)) (by have av3 := gv3.1; have bv3 := gv3.2; have qgx_397 := gx_397.1; have rgx_397 := gx_397.2; have igx_397 : x_397.toInt = v3.toInt + 1 := (by have hc1 : (1 : Int32).toInt = 1 := (by decide); have h9 := gi_addI ex_397 (by have h1 := g_392.1; have h2 := (gi_c 1 1 (by decide)).1; have h3 := g_392.2; have h4 := (gi_c 1 1 (by decide)).2; omega) (by have h1 := g_392.1; have h2 := (gi_c 1 1 (by decide)).1; have h3 := g_392.2; have h4 := (gi_c 1 1 (by decide)).2; omega); rw [hc1] at h9; exact h9); have qgv3 := g_392.1; have rgv3 := g_392.2; omega) hP hS (lv_sub hl [1, 2, 3, 0] rfl)
        · have g_398 : gi r_394 1 1 := gi_ne_lo c_395 gr_394 (gi_c 0 0 (by decide)) (by decide)
          obtain ⟨x_399, ex_399⟩ : ∃ y : Int32, y = v2 + 1 := ⟨_, rfl⟩
          refine lv_iinc (v := x_399) (lv' := [(2, .int x_399), (0, .ref h0), (1, .int p0), (3, .int v3)]) hx hb dX4_changesOf_21 hl (k := 2) rfl (by rw [ex_399]; rfl) (by decide) rfl (fun ls hl => ?_)
          obtain ⟨x_400, ex_400⟩ : ∃ y : Int32, y = v3 + 1 := ⟨_, rfl⟩
          have gx_400 : gi x_400 2 25 := gi_add ex_400 g_392 (gi_c 1 1 (by decide)) (by decide)
          refine lv_iinc (v := x_400) (lv' := [(3, .int x_400), (2, .int x_399), (0, .ref h0), (1, .int p0)]) hx hb dX4_changesOf_24 hl (k := 3) rfl (by rw [ex_400]; rfl) (by decide) rfl (fun ls hl => ?_)
          refine lv_goto (tgt := 4) hx hb dX4_changesOf_27 (by decide) ?_
          exact ih x_399 x_400 _ _ _ (gi_w gx_400 (by decide)) (by have av3 := gv3.1; have bv3 := gv3.2; have qgx_400 := gx_400.1; have rgx_400 := gx_400.2; have igx_400 : x_400.toInt = v3.toInt + 1 := (by have hc1 : (1 : Int32).toInt = 1 := (by decide); have h9 := gi_addI ex_400 (by have h1 := g_392.1; have h2 := (gi_c 1 1 (by decide)).1; have h3 := g_392.2; have h4 := (gi_c 1 1 (by decide)).2; omega) (by have h1 := g_392.1; have h2 := (gi_c 1 1 (by decide)).1; have h3 := g_392.2; have h4 := (gi_c 1 1 (by decide)).2; omega); rw [hc1] at h9; exact h9); have qgv3 := g_392.1; have rgv3 := g_392.2; omega) hP hS (lv_sub hl [2, 3, 1, 0] rfl)
set_option maxHeartbeats 4000000 in
set_option maxRecDepth 100000 in
theorem sX4_changesOf (l : Launch) (dC : Nat → ClassId) (dI : Nat → Nat → Nat) (h0 : Nat) (hb_ : Nat) (si : Nat) (eras : Int32) (khb_ : ClassId) (fhb_ : Nat → Int32) (p0 : Int32) (geras : gi eras 0 25) (gp0 : gi p0 0 24) : Met l yX4_changesOf (.code yX4_changesOf cX4_changesOf 4 (some .int) :: wsGA) ({ frames := 1, cells := 0, slots := 0, locals := 22 }) (va_Pc [.ref h0, .int p0] (fun U => va_P (dC, dI) vwCl [(h0, .inr (4, [.ref si, .ref hb_, .int eras])), (hb_, .inl (khb_, 625, .inl fhb_))] U.heap ∧ va_K (dC, dI) vwCl [(khb_, .int)] U ∧ nzA U)) (va_Qi (fun (r : Int32) (u : Unit) => gi r (-2147483648) 2147483647) (fun _ _ => True) (fun _ => False)) 0 0 (fun _ => False) := by
  refine Met.ofW (cc := cX4_changesOf) (maxL := 4) (ret := (some .int)) (by decide) rfl ?_
  intro p e s m args below meth c s₁ B hml hv
  obtain ⟨rfl, hP, hK, hz⟩ := hv
  have hx := B.exec
  have hb := B.bytes
  have hr := B.returns
  have hts := atoms_spec (ws := (.code yX4_changesOf cX4_changesOf 4 (some .int) :: wsGA)) B.pre
  have hown : s.vm.findClass RX4 = some m.cls := findClass_of_methodNamed B.named
  have hlocks := B.notSynchronized
  have hS : va_S (fun _ => False) s.heap s.heap [] := va_S.rf
  have hl := lv_entry ([.ref h0, .int p0]) (n := 4) (Nat.le_of_ble_eq_true rfl)
  rw [lg_entry_eq]
  generalize (lg_sl ([.ref h0, .int p0]) ++ List.replicate (4 - (lg_sl ([.ref h0, .int p0])).length) Slot.unset).toArray = ls at hl ⊢
  have hl : lv_has ls 4 [(0, .ref h0), (1, .int p0)] := hl
  refine lv_iconst (v := 0) hx hb dX4_changesOf_0 (by decide) ?_
  refine lv_istore_n (lv' := [(2, .int 0), (0, .ref h0), (1, .int p0)]) hx hb dX4_changesOf_1 rfl hl (by decide) rfl (fun ls hl => ?_)
  refine lv_iconst (v := 1) hx hb dX4_changesOf_2 (by decide) ?_
  refine lv_istore_n (lv' := [(3, .int 1), (2, .int 0), (0, .ref h0), (1, .int p0)]) hx hb dX4_changesOf_3 rfl hl (by decide) rfl (fun ls hl => ?_)
  refine (lp_sX4_changesOf h0 hb_ si eras khb_ fhb_ p0 geras gp0 hx hb hml hown hts hK hz (Nat.le_of_ble_eq_true rfl) (Nat.le_of_ble_eq_true rfl) (Nat.zero_le _) (Nat.zero_le _) (fun v H locs ls hP hS hl => ?_) 62) 0 1 _ _ _ (gi_w (gi_c 1 1 (by decide)) (by decide)) (by have k1 : (1 : Int32).toInt = 1 := (by decide); omega) hP hS (lv_sub hl [2, 3, 1, 0] rfl)
  · skip
    exact W.iret (v := v) hx hb hr (fun t ht hW => ⟨⟨v, (), rfl, (gi_any v), trivial⟩, hS.F ht⟩) hS.2.2 dX4_changesOf_31
theorem dX4_lastChangeOf_0 : decode cX4_lastChangeOf 0 = .ok (.aload_n 0, 1) := by decide +kernel
theorem dX4_lastChangeOf_1 : decode cX4_lastChangeOf 1 = .ok (.getfield 18, 3) := by decide +kernel
theorem dX4_lastChangeOf_4 : decode cX4_lastChangeOf 4 = .ok (.iconst 1, 1) := by decide +kernel
theorem dX4_lastChangeOf_5 : decode cX4_lastChangeOf 5 = .ok (.isub, 1) := by decide +kernel
theorem dX4_lastChangeOf_6 : decode cX4_lastChangeOf 6 = .ok (.istore_n 2, 1) := by decide +kernel
theorem dX4_lastChangeOf_7 : decode cX4_lastChangeOf 7 = .ok (.iload_n 2, 1) := by decide +kernel
theorem dX4_lastChangeOf_8 : decode cX4_lastChangeOf 8 = .ok (.iconst 1, 1) := by decide +kernel
theorem dX4_lastChangeOf_9 : decode cX4_lastChangeOf 9 = .ok (.if_icmp .lt 25, 3) := by decide +kernel
theorem dX4_lastChangeOf_12 : decode cX4_lastChangeOf 12 = .ok (.aload_n 0, 1) := by decide +kernel
theorem dX4_lastChangeOf_13 : decode cX4_lastChangeOf 13 = .ok (.iload_n 2, 1) := by decide +kernel
theorem dX4_lastChangeOf_14 : decode cX4_lastChangeOf 14 = .ok (.iload_n 1, 1) := by decide +kernel
theorem dX4_lastChangeOf_15 : decode cX4_lastChangeOf 15 = .ok (.invokevirtual 41, 3) := by decide +kernel
theorem dX4_lastChangeOf_18 : decode cX4_lastChangeOf 18 = .ok (.ifCond .eq 10, 3) := by decide +kernel
theorem dX4_lastChangeOf_21 : decode cX4_lastChangeOf 21 = .ok (.aload_n 0, 1) := by decide +kernel
theorem dX4_lastChangeOf_22 : decode cX4_lastChangeOf 22 = .ok (.getfield 11, 3) := by decide +kernel
theorem dX4_lastChangeOf_25 : decode cX4_lastChangeOf 25 = .ok (.iload_n 2, 1) := by decide +kernel
theorem dX4_lastChangeOf_26 : decode cX4_lastChangeOf 26 = .ok (.iaload, 1) := by decide +kernel
theorem dX4_lastChangeOf_27 : decode cX4_lastChangeOf 27 = .ok (.ireturn, 1) := by decide +kernel
theorem dX4_lastChangeOf_28 : decode cX4_lastChangeOf 28 = .ok (.iinc 2 (-1), 3) := by decide +kernel
theorem dX4_lastChangeOf_31 : decode cX4_lastChangeOf 31 = .ok (.goto (-24), 3) := by decide +kernel
theorem dX4_lastChangeOf_34 : decode cX4_lastChangeOf 34 = .ok (.iconst 0, 1) := by decide +kernel
theorem dX4_lastChangeOf_35 : decode cX4_lastChangeOf 35 = .ok (.ireturn, 1) := by decide +kernel
set_option maxHeartbeats 4000000 in
set_option maxRecDepth 100000 in
theorem lp_sX4_lastChangeOf {p : Program} {l : Launch} {e : Env} {R : Room} {s : State} {m : MethodId} {args : Array Value} {below : List Frame} {meth : Method} {c : Code} {Q : State → Prop} {A : Nat → Prop} {cells slots : Nat} {dC : Nat → ClassId} {dI : Nat → Nat → Nat} (h0 : Nat) (si : Nat) (hb_ : Nat) (eras : Int32) (ksi : ClassId) (fsi : Nat → Int32) (khb_ : ClassId) (fhb_ : Nat → Int32) (p0 : Int32) (geras : gi eras 0 25) (gp0 : gi p0 0 24) (hx : p.tables.exec = Jvm.exec) (hb : c.code = cX4_lastChangeOf) (hml : c.maxLocals = 3) (hown : s.vm.findClass RX4 = some m.cls) (hts : ∀ w ∈ ((.code yX4_lastChangeOf cX4_lastChangeOf 3 (some .int) :: wsGA) : List Cond), w.before args s = true) (hK : va_K (dC, dI) vwCl [(ksi, .int), (khb_, .int)] s) (hz : nzA s) (hRf : 1 ≤ R.frames) (hRl : 22 ≤ R.locals) (hRc : cells ≤ R.cells) (hRs : slots ≤ R.slots) (kr35 : ∀ (v : Int32) (H : Heap) (locs : List Loc) (ls : Array Slot), gi v 0 0 → va_P (dC, dI) vwCl [(h0, .inr (4, [.ref si, .ref hb_, .int eras])), (si, .inl (ksi, 25, .inl fsi)), (hb_, .inl (khb_, 625, .inl fhb_))] H → va_S A s.heap H locs → lv_has ls 3 [] → W p l e R s m args below meth c H locs cells slots Q (F0 m 35 ls [.int v])) (kr27 : ∀ (v : Int32) (H : Heap) (locs : List Loc) (ls : Array Slot), va_P (dC, dI) vwCl [(h0, .inr (4, [.ref si, .ref hb_, .int eras])), (si, .inl (ksi, 25, .inl fsi)), (hb_, .inl (khb_, 625, .inl fhb_))] H → va_S A s.heap H locs → lv_has ls 3 [] → W p l e R s m args below meth c H locs cells slots Q (F0 m 27 ls [.int v])) : ∀ z : Nat, (∀ (v2 : Int32) (H : Heap) (locs : List Loc) (ls : Array Slot), gi v2 (-1) 24 → 3 + 2 * v2.toInt < (z : Int) → va_P (dC, dI) vwCl [(h0, .inr (4, [.ref si, .ref hb_, .int eras])), (si, .inl (ksi, 25, .inl fsi)), (hb_, .inl (khb_, 625, .inl fhb_))] H → va_S A s.heap H locs → lv_has ls 3 [(0, .ref h0), (1, .int p0), (2, .int v2)] → W p l e R s m args below meth c H locs cells slots Q (F0 m 7 ls [])) := by
  intro z
  induction z with
  | zero =>
    intro v2 H locs ls gv2 hmu hP hS hl
    exact absurd hmu (by have hv21 := gv2.1; have hv22 := gv2.2; omega)
  | succ z ih =>
      intro v2 H locs ls gv2 hmu hP hS hl
      refine lv_iload_n hx hb dX4_lastChangeOf_7 rfl (lv_at hl 2 rfl) ?_
      refine lv_iconst (v := 1) hx hb dX4_lastChangeOf_8 (by decide) ?_
      refine lv_icmp_lt (tgt := 34) hx hb dX4_lastChangeOf_9 (by decide) (fun c_21 => ?_) (fun c_21 => ?_)
      · have g_22 : gi v2 (-1) 0 := gi_lt_l c_21 gv2 (gi_c 1 1 (by decide)) (by decide)
        refine lv_iconst (v := 0) hx hb dX4_lastChangeOf_34 (by decide) ?_
        exact kr35 0 _ _ _ (gi_c 0 0 (by decide)) hP hS (lv_sub hl [] rfl)
      · have g_23 : gi v2 1 24 := gi_le_r (Int32.not_lt.mp c_21) (gi_c 1 1 (by decide)) gv2
        refine lv_aload_n hx hb dX4_lastChangeOf_12 rfl (lv_at hl 0 rfl) ?_
        refine lv_iload_n hx hb dX4_lastChangeOf_13 rfl (lv_at hl 2 rfl) ?_
        refine lv_iload_n hx hb dX4_lastChangeOf_14 rfl (lv_at hl 1 rfl) ?_
        have hPc := hP.sub (ws' := [(h0, .inr (4, [.ref si, .ref hb_, .int eras])), (hb_, .inl (khb_, 625, .inl fhb_))]) [0, 2] rfl
        have hKc := hK.sub (tys' := [(khb_, .int)]) [1] rfl
        refine va_calli (va_runV (As := [.int v2, .int p0]) (rest := []) ⟨hx, hb, hml, hown, hts⟩ (sX4_changesAt l dC dI h0 hb_ si eras khb_ fhb_ v2 p0 geras g_23 gp0) (cwV 2 hts (gz_gV mGA_723 mGA_724 mGA_725 mGA_35 mGA_726 goodGA) rfl rfl rfl (by decide +kernel) ⟨Nat.le_trans (Nat.le_of_ble_eq_true rfl) hRf, Nat.le_trans (Nat.le_of_ble_eq_true rfl) hRl⟩) ⟨fun a U g mk q => by obtain ⟨q0, qP, qK, qZ⟩ := q; exact ⟨q0, qP, va_K.moved (u := U) (U := U.calling g mk a) (Vm.Alike.refl U.vm) qK, nzA_same (u := U) (U := U.calling g mk a) rfl qZ⟩, va_recv hKc hPc (ci := 4) (q0 := 0) rfl rfl, fun U hU hW => ⟨rfl, by rw [hU]; exact hPc, va_K.moved hW.alike hKc, nzA_warm hW hz⟩⟩ rfl rfl hl.1 rfl (lv_room (Nat.le_of_ble_eq_true rfl)) dX4_lastChangeOf_15 ⟨hRc, hRs⟩) hS (fun q _ h => h.elim) (fun q h => h.elim) (fun r_24 u t H1 locs ht hvm hw hB hz1 hk1 hS => ?_)
        have hP := gz_keep hP hk1
        generalize H1 = H at hP hS ⊢
        have gr_24 : gi r_24 0 1 := hw
        refine lv_if_eq (tgt := 28) hx hb dX4_lastChangeOf_18 (by decide) (fun c_25 => ?_) (fun c_25 => ?_)
        · have g_26 : gi r_24 0 0 := gi_eq c_25 (gi_c 0 0 (by decide))
          obtain ⟨x_27, ex_27⟩ : ∃ y : Int32, y = v2 + (-1) := ⟨_, rfl⟩
          have gx_27 : gi x_27 0 23 := gi_add ex_27 g_23 (gi_c (-1) (-1) (by decide)) (by decide)
          refine lv_iinc (v := x_27) (lv' := [(2, .int x_27), (0, .ref h0), (1, .int p0)]) hx hb dX4_lastChangeOf_28 hl (k := 2) rfl (by rw [ex_27]; rfl) (by decide) rfl (fun ls hl => ?_)
          refine lv_goto (tgt := 7) hx hb dX4_lastChangeOf_31 (by decide) ?_
          exact ih x_27 _ _ _ (gi_w gx_27 (by decide)) (by have av2 := gv2.1; have bv2 := gv2.2; have qgx_27 := gx_27.1; have rgx_27 := gx_27.2; have igx_27 : x_27.toInt = v2.toInt + (-1) := (by have hcm1 : ((-1) : Int32).toInt = (-1) := (by decide); have h9 := gi_addI ex_27 (by have h1 := g_23.1; have h2 := (gi_c (-1) (-1) (by decide)).1; have h3 := g_23.2; have h4 := (gi_c (-1) (-1) (by decide)).2; omega) (by have h1 := g_23.1; have h2 := (gi_c (-1) (-1) (by decide)).1; have h3 := g_23.2; have h4 := (gi_c (-1) (-1) (by decide)).2; omega); rw [hcm1] at h9; exact h9); have qgv2 := g_23.1; have rgv2 := g_23.2; omega) hP hS (lv_sub hl [1, 2, 0] rfl)
        · have g_28 : gi r_24 1 1 := gi_ne_lo c_25 gr_24 (gi_c 0 0 (by decide)) (by decide)
          refine lv_aload_n hx hb dX4_lastChangeOf_21 rfl (lv_at hl 0 rfl) ?_
          refine va_get (D := (dC, dI)) (ci := 4) (v := .ref si) (C := RX4) (T := TX4) (N := 3) hx hb hts (fun w h => List.mem_cons_of_mem _ (jnGA_X4 w h)) hown hK hP 0 rfl rfl 0 (by decide) (hts _ (List.mem_cons_of_mem _ mGA_122)) (fun _ h9 => h9) rfl dX4_lastChangeOf_22 ?_
          refine lv_iload_n hx hb dX4_lastChangeOf_25 rfl (lv_at hl 2 rfl) ?_
          refine va_iald hx hb hK hP 1 0 rfl rfl (gi_in g_23 (by decide)) dX4_lastChangeOf_26 ?_
          refine lv_topi (fun x_29 ex_29 => ?_)
          exact kr27 x_29 _ _ _ hP hS (lv_sub hl [] rfl)
set_option maxHeartbeats 4000000 in
set_option maxRecDepth 100000 in
theorem sX4_lastChangeOf (l : Launch) (dC : Nat → ClassId) (dI : Nat → Nat → Nat) (h0 : Nat) (si : Nat) (hb_ : Nat) (eras : Int32) (ksi : ClassId) (fsi : Nat → Int32) (khb_ : ClassId) (fhb_ : Nat → Int32) (p0 : Int32) (geras : gi eras 0 25) (gp0 : gi p0 0 24) : Met l yX4_lastChangeOf (.code yX4_lastChangeOf cX4_lastChangeOf 3 (some .int) :: wsGA) ({ frames := 1, cells := 0, slots := 0, locals := 22 }) (va_Pc [.ref h0, .int p0] (fun U => va_P (dC, dI) vwCl [(h0, .inr (4, [.ref si, .ref hb_, .int eras])), (si, .inl (ksi, 25, .inl fsi)), (hb_, .inl (khb_, 625, .inl fhb_))] U.heap ∧ va_K (dC, dI) vwCl [(ksi, .int), (khb_, .int)] U ∧ nzA U)) (va_Qi (fun (r : Int32) (u : Unit) => gi r (-2147483648) 2147483647) (fun _ _ => True) (fun _ => False)) 0 0 (fun _ => False) := by
  refine Met.ofW (cc := cX4_lastChangeOf) (maxL := 3) (ret := (some .int)) (by decide) rfl ?_
  intro p e s m args below meth c s₁ B hml hv
  obtain ⟨rfl, hP, hK, hz⟩ := hv
  have hx := B.exec
  have hb := B.bytes
  have hr := B.returns
  have hts := atoms_spec (ws := (.code yX4_lastChangeOf cX4_lastChangeOf 3 (some .int) :: wsGA)) B.pre
  have hown : s.vm.findClass RX4 = some m.cls := findClass_of_methodNamed B.named
  have hlocks := B.notSynchronized
  have hS : va_S (fun _ => False) s.heap s.heap [] := va_S.rf
  have hl := lv_entry ([.ref h0, .int p0]) (n := 3) (Nat.le_of_ble_eq_true rfl)
  rw [lg_entry_eq]
  generalize (lg_sl ([.ref h0, .int p0]) ++ List.replicate (3 - (lg_sl ([.ref h0, .int p0])).length) Slot.unset).toArray = ls at hl ⊢
  have hl : lv_has ls 3 [(0, .ref h0), (1, .int p0)] := hl
  refine lv_aload_n hx hb dX4_lastChangeOf_0 rfl (lv_at hl 0 rfl) ?_
  refine va_get (D := (dC, dI)) (ci := 4) (v := .int eras) (C := RX4) (T := TX4) (N := 3) hx hb hts (fun w h => List.mem_cons_of_mem _ (jnGA_X4 w h)) hown hK hP 0 rfl rfl 2 (by decide) (hts _ (List.mem_cons_of_mem _ mGA_124)) (fun _ h9 => h9) rfl dX4_lastChangeOf_1 ?_
  refine lv_iconst (v := 1) hx hb dX4_lastChangeOf_4 (by decide) ?_
  refine lv_isub hx hb dX4_lastChangeOf_5 ?_
  refine lv_topi (fun x_30 ex_30 => ?_)
  have gx_30 : gi x_30 (-1) 24 := gi_sub ex_30 geras (gi_c 1 1 (by decide)) (by decide)
  refine lv_istore_n (lv' := [(2, .int x_30), (0, .ref h0), (1, .int p0)]) hx hb dX4_lastChangeOf_6 rfl hl (by decide) rfl (fun ls hl => ?_)
  refine (lp_sX4_lastChangeOf h0 si hb_ eras ksi fsi khb_ fhb_ p0 geras gp0 hx hb hml hown hts hK hz (Nat.le_of_ble_eq_true rfl) (Nat.le_of_ble_eq_true rfl) (Nat.zero_le _) (Nat.zero_le _) (fun v H locs ls gv hP hS hl => ?_) (fun v H locs ls hP hS hl => ?_) 64) x_30 _ _ _ gx_30 (by have qgx_30 := gx_30.1; have rgx_30 := gx_30.2; have igx_30 : x_30.toInt = eras.toInt - 1 := (by have hc1 : (1 : Int32).toInt = 1 := (by decide); have h9 := gi_subI ex_30 (by have h1 := geras.1; have h2 := (gi_c 1 1 (by decide)).1; have h3 := geras.2; have h4 := (gi_c 1 1 (by decide)).2; omega) (by have h1 := geras.1; have h2 := (gi_c 1 1 (by decide)).1; have h3 := geras.2; have h4 := (gi_c 1 1 (by decide)).2; omega); rw [hc1] at h9; exact h9); have qgeras := geras.1; have rgeras := geras.2; omega) hP hS (lv_sub hl [1, 2, 0] rfl)
  · skip
    exact W.iret (v := v) hx hb hr (fun t ht hW => ⟨⟨v, (), rfl, (gi_any v), trivial⟩, hS.F ht⟩) hS.2.2 dX4_lastChangeOf_35
  · skip
    exact W.iret (v := v) hx hb hr (fun t ht hW => ⟨⟨v, (), rfl, (gi_any v), trivial⟩, hS.F ht⟩) hS.2.2 dX4_lastChangeOf_27
theorem dX1_lengthOf_0 : decode cX1_lengthOf 0 = .ok (.aload_n 0, 1) := by decide +kernel
theorem dX1_lengthOf_1 : decode cX1_lengthOf 1 = .ok (.getfield 29, 3) := by decide +kernel
theorem dX1_lengthOf_4 : decode cX1_lengthOf 4 = .ok (.iload_n 1, 1) := by decide +kernel
theorem dX1_lengthOf_5 : decode cX1_lengthOf 5 = .ok (.iconst 1, 1) := by decide +kernel
theorem dX1_lengthOf_6 : decode cX1_lengthOf 6 = .ok (.iadd, 1) := by decide +kernel
theorem dX1_lengthOf_7 : decode cX1_lengthOf 7 = .ok (.iaload, 1) := by decide +kernel
theorem dX1_lengthOf_8 : decode cX1_lengthOf 8 = .ok (.aload_n 0, 1) := by decide +kernel
theorem dX1_lengthOf_9 : decode cX1_lengthOf 9 = .ok (.getfield 29, 3) := by decide +kernel
theorem dX1_lengthOf_12 : decode cX1_lengthOf 12 = .ok (.iload_n 1, 1) := by decide +kernel
theorem dX1_lengthOf_13 : decode cX1_lengthOf 13 = .ok (.iaload, 1) := by decide +kernel
theorem dX1_lengthOf_14 : decode cX1_lengthOf 14 = .ok (.isub, 1) := by decide +kernel
theorem dX1_lengthOf_15 : decode cX1_lengthOf 15 = .ok (.ireturn, 1) := by decide +kernel
set_option maxHeartbeats 4000000 in
set_option maxRecDepth 100000 in
theorem sX1_lengthOf (l : Launch) (dC : Nat → ClassId) (dI : Nat → Nat → Nat) (h0 : Nat) (cb : Nat) (frame : Nat) (verdicts : Nat) (queue : Nat) (turns : Nat) (queueLength : Int32) (takenBits : Int32) (kcb : ClassId) (fcb : Nat → Int32) (p0 : Int32) (gqueueLength : gi queueLength 0 24) (gp0 : gi p0 0 23) : Met l yX1_lengthOf (.code yX1_lengthOf cX1_lengthOf 2 (some .int) :: wsGA) ({ frames := 0, cells := 0, slots := 0, locals := 0 }) (va_Pc [.ref h0, .int p0] (fun U => va_P (dC, dI) vwCl [(h0, .inr (1, [.ref frame, .ref verdicts, .ref queue, .ref turns, .ref cb, .int queueLength, .int takenBits])), (cb, .inl (kcb, 25, .inl fcb))] U.heap ∧ va_K (dC, dI) vwCl [(kcb, .int)] U ∧ nzA U)) (va_Qi (fun (r : Int32) (u : Unit) => gi r (-2147483648) 2147483647) (fun _ _ => True) (fun _ => False)) 0 0 (fun _ => False) := by
  refine Met.ofW (cc := cX1_lengthOf) (maxL := 2) (ret := (some .int)) (by decide) rfl ?_
  intro p e s m args below meth c s₁ B hml hv
  obtain ⟨rfl, hP, hK, hz⟩ := hv
  have hx := B.exec
  have hb := B.bytes
  have hr := B.returns
  have hts := atoms_spec (ws := (.code yX1_lengthOf cX1_lengthOf 2 (some .int) :: wsGA)) B.pre
  have hown : s.vm.findClass RX1 = some m.cls := findClass_of_methodNamed B.named
  have hlocks := B.notSynchronized
  have hS : va_S (fun _ => False) s.heap s.heap [] := va_S.rf
  have hl := lv_entry ([.ref h0, .int p0]) (n := 2) (Nat.le_of_ble_eq_true rfl)
  rw [lg_entry_eq]
  generalize (lg_sl ([.ref h0, .int p0]) ++ List.replicate (2 - (lg_sl ([.ref h0, .int p0])).length) Slot.unset).toArray = ls at hl ⊢
  have hl : lv_has ls 2 [(0, .ref h0), (1, .int p0)] := hl
  refine lv_aload_n hx hb dX1_lengthOf_0 rfl (lv_at hl 0 rfl) ?_
  refine va_get (D := (dC, dI)) (ci := 1) (v := .ref cb) (C := RX1) (T := TX1) (N := 7) hx hb hts (fun w h => List.mem_cons_of_mem _ (jnGA_X1 w h)) hown hK hP 0 rfl rfl 4 (by decide) (hts _ (List.mem_cons_of_mem _ mGA_105)) (fun _ h9 => h9) rfl dX1_lengthOf_1 ?_
  refine lv_iload_n hx hb dX1_lengthOf_4 rfl (lv_at hl 1 rfl) ?_
  refine lv_iconst (v := 1) hx hb dX1_lengthOf_5 (by decide) ?_
  refine lv_iadd hx hb dX1_lengthOf_6 ?_
  refine lv_topi (fun x_5 ex_5 => ?_)
  have gx_5 : gi x_5 1 24 := gi_add ex_5 gp0 (gi_c 1 1 (by decide)) (by decide)
  refine va_iald hx hb hK hP 1 0 rfl rfl (gi_in gx_5 (by decide)) dX1_lengthOf_7 ?_
  refine lv_topi (fun x_6 ex_6 => ?_)
  refine lv_aload_n hx hb dX1_lengthOf_8 rfl (lv_at hl 0 rfl) ?_
  refine va_get (D := (dC, dI)) (ci := 1) (v := .ref cb) (C := RX1) (T := TX1) (N := 7) hx hb hts (fun w h => List.mem_cons_of_mem _ (jnGA_X1 w h)) hown hK hP 0 rfl rfl 4 (by decide) (hts _ (List.mem_cons_of_mem _ mGA_105)) (fun _ h9 => h9) rfl dX1_lengthOf_9 ?_
  refine lv_iload_n hx hb dX1_lengthOf_12 rfl (lv_at hl 1 rfl) ?_
  refine va_iald hx hb hK hP 1 0 rfl rfl (gi_in gp0 (by decide)) dX1_lengthOf_13 ?_
  refine lv_topi (fun x_7 ex_7 => ?_)
  refine lv_isub hx hb dX1_lengthOf_14 ?_
  refine lv_topi (fun x_8 ex_8 => ?_)
  exact W.iret (v := x_8) hx hb hr (fun t ht hW => ⟨⟨x_8, (), rfl, (gi_any x_8), trivial⟩, hS.F ht⟩) hS.2.2 dX1_lengthOf_15
theorem dX0_wipe_0 : decode cX0_wipe 0 = .ok (.aload_n 0, 1) := by decide +kernel
theorem dX0_wipe_1 : decode cX0_wipe 1 = .ok (.iconst 0, 1) := by decide +kernel
theorem dX0_wipe_2 : decode cX0_wipe 2 = .ok (.putfield 32, 3) := by decide +kernel
theorem dX0_wipe_5 : decode cX0_wipe 5 = .ok (.aload_n 0, 1) := by decide +kernel
theorem dX0_wipe_6 : decode cX0_wipe 6 = .ok (.iconst 0, 1) := by decide +kernel
theorem dX0_wipe_7 : decode cX0_wipe 7 = .ok (.putfield 36, 3) := by decide +kernel
theorem dX0_wipe_10 : decode cX0_wipe 10 = .ok (.aload_n 0, 1) := by decide +kernel
theorem dX0_wipe_11 : decode cX0_wipe 11 = .ok (.iconst 0, 1) := by decide +kernel
theorem dX0_wipe_12 : decode cX0_wipe 12 = .ok (.putfield 39, 3) := by decide +kernel
theorem dX0_wipe_15 : decode cX0_wipe 15 = .ok (.aload_n 0, 1) := by decide +kernel
theorem dX0_wipe_16 : decode cX0_wipe 16 = .ok (.iconst 0, 1) := by decide +kernel
theorem dX0_wipe_17 : decode cX0_wipe 17 = .ok (.putfield 42, 3) := by decide +kernel
theorem dX0_wipe_20 : decode cX0_wipe 20 = .ok (.aload_n 0, 1) := by decide +kernel
theorem dX0_wipe_21 : decode cX0_wipe 21 = .ok (.iconst 0, 1) := by decide +kernel
theorem dX0_wipe_22 : decode cX0_wipe 22 = .ok (.putfield 45, 3) := by decide +kernel
theorem dX0_wipe_25 : decode cX0_wipe 25 = .ok (.aload_n 0, 1) := by decide +kernel
theorem dX0_wipe_26 : decode cX0_wipe 26 = .ok (.iconst 0, 1) := by decide +kernel
theorem dX0_wipe_27 : decode cX0_wipe 27 = .ok (.putfield 49, 3) := by decide +kernel
theorem dX0_wipe_30 : decode cX0_wipe 30 = .ok (.aload_n 0, 1) := by decide +kernel
theorem dX0_wipe_31 : decode cX0_wipe 31 = .ok (.iconst 0, 1) := by decide +kernel
theorem dX0_wipe_32 : decode cX0_wipe 32 = .ok (.putfield 52, 3) := by decide +kernel
theorem dX0_wipe_35 : decode cX0_wipe 35 = .ok (.aload_n 0, 1) := by decide +kernel
theorem dX0_wipe_36 : decode cX0_wipe 36 = .ok (.iconst 0, 1) := by decide +kernel
theorem dX0_wipe_37 : decode cX0_wipe 37 = .ok (.putfield 55, 3) := by decide +kernel
theorem dX0_wipe_40 : decode cX0_wipe 40 = .ok (.aload_n 0, 1) := by decide +kernel
theorem dX0_wipe_41 : decode cX0_wipe 41 = .ok (.iconst 0, 1) := by decide +kernel
theorem dX0_wipe_42 : decode cX0_wipe 42 = .ok (.putfield 58, 3) := by decide +kernel
theorem dX0_wipe_45 : decode cX0_wipe 45 = .ok (.aload_n 0, 1) := by decide +kernel
theorem dX0_wipe_46 : decode cX0_wipe 46 = .ok (.iconst 0, 1) := by decide +kernel
theorem dX0_wipe_47 : decode cX0_wipe 47 = .ok (.putfield 61, 3) := by decide +kernel
theorem dX0_wipe_50 : decode cX0_wipe 50 = .ok (.return_, 1) := by decide +kernel
set_option maxHeartbeats 4000000 in
set_option maxRecDepth 100000 in
theorem sX0_wipe (l : Launch) (dC : Nat → ClassId) (dI : Nat → Nat → Nat) (sz : Nat) (h0 : Nat) (months : Int32) (full : Int32) (lean : Int32) (lines : Int32) (hasMoon : Int32) (moonStart : Int32) (moonStep : Int32) (placeCount : Int32) (reportCount : Int32) (deedCount : Int32) (places : Nat) (reports : Nat) (deeds : Nat) (gmonths : gi months 0 24) (gfull : gi full 0 5) (glean : gi lean 0 5) (ghasMoon : gi hasMoon 0 1) (gplaceCount : gi placeCount 0 6) (greportCount : gi reportCount 0 24) (gdeedCount : gi deedCount 0 8) : Met l yX0_wipe (.code yX0_wipe cX0_wipe 1 none :: wsGA) ({ frames := 0, cells := 0, slots := 0, locals := 0 }) (va_Pc [.ref h0] (fun U => U.heap.size = sz ∧ va_P (dC, dI) vwCl [(h0, .inr (0, [.int months, .int full, .int lean, .int lines, .int hasMoon, .int moonStart, .int moonStep, .int placeCount, .int reportCount, .int deedCount, .ref places, .ref reports, .ref deeds]))] U.heap ∧ va_K (dC, dI) vwCl [] U ∧ va_D (fun _ => True) [(h0, .inr (0, [.int months, .int full, .int lean, .int lines, .int hasMoon, .int moonStart, .int moonStep, .int placeCount, .int reportCount, .int deedCount, .ref places, .ref reports, .ref deeds]))] ∧ nzA U)) (va_Qv (fun (u : Unit) => True) (fun _ t => ∃ (w0_0 : Int32) (w0_1 : Int32) (w0_2 : Int32) (w0_3 : Int32) (w0_4 : Int32) (w0_5 : Int32) (w0_6 : Int32) (w0_7 : Int32) (w0_8 : Int32) (w0_9 : Int32), gi w0_0 0 24 ∧ gi w0_1 0 5 ∧ gi w0_2 0 5 ∧ gi w0_4 0 1 ∧ gi w0_7 0 6 ∧ gi w0_8 0 24 ∧ gi w0_9 0 8 ∧ va_P (dC, dI) vwCl [(h0, .inr (0, [.int w0_0, .int w0_1, .int w0_2, .int w0_3, .int w0_4, .int w0_5, .int w0_6, .int w0_7, .int w0_8, .int w0_9, .ref places, .ref reports, .ref deeds]))] t.heap ∧ va_D (va_A [(h0, .inr (0, [.int months, .int full, .int lean, .int lines, .int hasMoon, .int moonStart, .int moonStep, .int placeCount, .int reportCount, .int deedCount, .ref places, .ref reports, .ref deeds]))] sz) [(h0, .inr (0, [.int w0_0, .int w0_1, .int w0_2, .int w0_3, .int w0_4, .int w0_5, .int w0_6, .int w0_7, .int w0_8, .int w0_9, .ref places, .ref reports, .ref deeds]))]) (va_A [(h0, .inr (0, [.int months, .int full, .int lean, .int lines, .int hasMoon, .int moonStart, .int moonStep, .int placeCount, .int reportCount, .int deedCount, .ref places, .ref reports, .ref deeds]))] sz)) 0 0 (va_A [(h0, .inr (0, [.int months, .int full, .int lean, .int lines, .int hasMoon, .int moonStart, .int moonStep, .int placeCount, .int reportCount, .int deedCount, .ref places, .ref reports, .ref deeds]))] sz) := by
  refine Met.ofW (cc := cX0_wipe) (maxL := 1) (ret := none) (by decide) rfl ?_
  intro p e s m args below meth c s₁ B hml hv
  obtain ⟨rfl, hsz, hP, hK, hD0, hz⟩ := hv
  have hx := B.exec
  have hb := B.bytes
  have hr := B.returns
  have hts := atoms_spec (ws := (.code yX0_wipe cX0_wipe 1 none :: wsGA)) B.pre
  have hown : s.vm.findClass RX0 = some m.cls := findClass_of_methodNamed B.named
  have hlocks := B.notSynchronized
  subst hsz
  have hD := hD0.self (sz := s.heap.size)
  generalize hAe : va_A [(h0, .inr (0, [.int months, .int full, .int lean, .int lines, .int hasMoon, .int moonStart, .int moonStep, .int placeCount, .int reportCount, .int deedCount, .ref places, .ref reports, .ref deeds]))] s.heap.size = A at hD ⊢
  have hA : ∀ q : Nat, s.heap.size ≤ q → A q := fun q h => by rw [← hAe]; exact Or.inr h
  have hS : va_S A s.heap s.heap [] := va_S.rf
  have hl := lv_entry ([.ref h0]) (n := 1) (Nat.le_of_ble_eq_true rfl)
  rw [lg_entry_eq]
  generalize (lg_sl ([.ref h0]) ++ List.replicate (1 - (lg_sl ([.ref h0])).length) Slot.unset).toArray = ls at hl ⊢
  have hl : lv_has ls 1 [(0, .ref h0)] := hl
  refine lv_aload_n hx hb dX0_wipe_0 rfl (lv_at hl 0 rfl) ?_
  refine lv_iconst (v := 0) hx hb dX0_wipe_1 (by decide) ?_
  refine va_put (D := (dC, dI)) (ci := 0) (v := .int 0) (ty := .int) (C := RX0) (T := TX0) (N := 13) hx hb hts (fun w h => List.mem_cons_of_mem _ (jnGA_X0 w h)) tyX0 tyX0_ok nmX0 hown hK hP hD hS 0 rfl rfl 0 (by decide) (hts _ (List.mem_cons_of_mem _ mGA_152)) (fun _ h9 => h9) rfl (by decide +kernel) rfl rfl (Nat.le_of_ble_eq_true rfl) dX0_wipe_2 (fun H locs hP hD hS => ?_)
  have hP : va_P (dC, dI) vwCl [(h0, .inr (0, [.int 0, .int full, .int lean, .int lines, .int hasMoon, .int moonStart, .int moonStep, .int placeCount, .int reportCount, .int deedCount, .ref places, .ref reports, .ref deeds]))] H := hP
  have hD : va_D A [(h0, .inr (0, [.int 0, .int full, .int lean, .int lines, .int hasMoon, .int moonStart, .int moonStep, .int placeCount, .int reportCount, .int deedCount, .ref places, .ref reports, .ref deeds]))] := hD
  refine lv_aload_n hx hb dX0_wipe_5 rfl (lv_at hl 0 rfl) ?_
  refine lv_iconst (v := 0) hx hb dX0_wipe_6 (by decide) ?_
  refine va_put (D := (dC, dI)) (ci := 0) (v := .int 0) (ty := .int) (C := RX0) (T := TX0) (N := 13) hx hb hts (fun w h => List.mem_cons_of_mem _ (jnGA_X0 w h)) tyX0 tyX0_ok nmX0 hown hK hP hD hS 0 rfl rfl 1 (by decide) (hts _ (List.mem_cons_of_mem _ mGA_153)) (fun _ h9 => h9) rfl (by decide +kernel) rfl rfl (Nat.le_of_ble_eq_true rfl) dX0_wipe_7 (fun H locs hP hD hS => ?_)
  have hP : va_P (dC, dI) vwCl [(h0, .inr (0, [.int 0, .int 0, .int lean, .int lines, .int hasMoon, .int moonStart, .int moonStep, .int placeCount, .int reportCount, .int deedCount, .ref places, .ref reports, .ref deeds]))] H := hP
  have hD : va_D A [(h0, .inr (0, [.int 0, .int 0, .int lean, .int lines, .int hasMoon, .int moonStart, .int moonStep, .int placeCount, .int reportCount, .int deedCount, .ref places, .ref reports, .ref deeds]))] := hD
  refine lv_aload_n hx hb dX0_wipe_10 rfl (lv_at hl 0 rfl) ?_
  refine lv_iconst (v := 0) hx hb dX0_wipe_11 (by decide) ?_
  refine va_put (D := (dC, dI)) (ci := 0) (v := .int 0) (ty := .int) (C := RX0) (T := TX0) (N := 13) hx hb hts (fun w h => List.mem_cons_of_mem _ (jnGA_X0 w h)) tyX0 tyX0_ok nmX0 hown hK hP hD hS 0 rfl rfl 2 (by decide) (hts _ (List.mem_cons_of_mem _ mGA_154)) (fun _ h9 => h9) rfl (by decide +kernel) rfl rfl (Nat.le_of_ble_eq_true rfl) dX0_wipe_12 (fun H locs hP hD hS => ?_)
  have hP : va_P (dC, dI) vwCl [(h0, .inr (0, [.int 0, .int 0, .int 0, .int lines, .int hasMoon, .int moonStart, .int moonStep, .int placeCount, .int reportCount, .int deedCount, .ref places, .ref reports, .ref deeds]))] H := hP
  have hD : va_D A [(h0, .inr (0, [.int 0, .int 0, .int 0, .int lines, .int hasMoon, .int moonStart, .int moonStep, .int placeCount, .int reportCount, .int deedCount, .ref places, .ref reports, .ref deeds]))] := hD
  refine lv_aload_n hx hb dX0_wipe_15 rfl (lv_at hl 0 rfl) ?_
  refine lv_iconst (v := 0) hx hb dX0_wipe_16 (by decide) ?_
  refine va_put (D := (dC, dI)) (ci := 0) (v := .int 0) (ty := .int) (C := RX0) (T := TX0) (N := 13) hx hb hts (fun w h => List.mem_cons_of_mem _ (jnGA_X0 w h)) tyX0 tyX0_ok nmX0 hown hK hP hD hS 0 rfl rfl 3 (by decide) (hts _ (List.mem_cons_of_mem _ mGA_155)) (fun _ h9 => h9) rfl (by decide +kernel) rfl rfl (Nat.le_of_ble_eq_true rfl) dX0_wipe_17 (fun H locs hP hD hS => ?_)
  have hP : va_P (dC, dI) vwCl [(h0, .inr (0, [.int 0, .int 0, .int 0, .int 0, .int hasMoon, .int moonStart, .int moonStep, .int placeCount, .int reportCount, .int deedCount, .ref places, .ref reports, .ref deeds]))] H := hP
  have hD : va_D A [(h0, .inr (0, [.int 0, .int 0, .int 0, .int 0, .int hasMoon, .int moonStart, .int moonStep, .int placeCount, .int reportCount, .int deedCount, .ref places, .ref reports, .ref deeds]))] := hD
  refine lv_aload_n hx hb dX0_wipe_20 rfl (lv_at hl 0 rfl) ?_
  refine lv_iconst (v := 0) hx hb dX0_wipe_21 (by decide) ?_
  refine va_put (D := (dC, dI)) (ci := 0) (v := .int 0) (ty := .boolean) (C := RX0) (T := TX0) (N := 13) hx hb hts (fun w h => List.mem_cons_of_mem _ (jnGA_X0 w h)) tyX0 tyX0_ok nmX0 hown hK hP hD hS 0 rfl rfl 4 (by decide) (hts _ (List.mem_cons_of_mem _ mGA_156)) (fun _ h9 => h9) rfl (by decide +kernel) rfl rfl (Nat.le_of_ble_eq_true rfl) dX0_wipe_22 (fun H locs hP hD hS => ?_)
  have hP : va_P (dC, dI) vwCl [(h0, .inr (0, [.int 0, .int 0, .int 0, .int 0, .int 0, .int moonStart, .int moonStep, .int placeCount, .int reportCount, .int deedCount, .ref places, .ref reports, .ref deeds]))] H := hP
  have hD : va_D A [(h0, .inr (0, [.int 0, .int 0, .int 0, .int 0, .int 0, .int moonStart, .int moonStep, .int placeCount, .int reportCount, .int deedCount, .ref places, .ref reports, .ref deeds]))] := hD
  refine lv_aload_n hx hb dX0_wipe_25 rfl (lv_at hl 0 rfl) ?_
  refine lv_iconst (v := 0) hx hb dX0_wipe_26 (by decide) ?_
  refine va_put (D := (dC, dI)) (ci := 0) (v := .int 0) (ty := .int) (C := RX0) (T := TX0) (N := 13) hx hb hts (fun w h => List.mem_cons_of_mem _ (jnGA_X0 w h)) tyX0 tyX0_ok nmX0 hown hK hP hD hS 0 rfl rfl 5 (by decide) (hts _ (List.mem_cons_of_mem _ mGA_157)) (fun _ h9 => h9) rfl (by decide +kernel) rfl rfl (Nat.le_of_ble_eq_true rfl) dX0_wipe_27 (fun H locs hP hD hS => ?_)
  have hP : va_P (dC, dI) vwCl [(h0, .inr (0, [.int 0, .int 0, .int 0, .int 0, .int 0, .int 0, .int moonStep, .int placeCount, .int reportCount, .int deedCount, .ref places, .ref reports, .ref deeds]))] H := hP
  have hD : va_D A [(h0, .inr (0, [.int 0, .int 0, .int 0, .int 0, .int 0, .int 0, .int moonStep, .int placeCount, .int reportCount, .int deedCount, .ref places, .ref reports, .ref deeds]))] := hD
  refine lv_aload_n hx hb dX0_wipe_30 rfl (lv_at hl 0 rfl) ?_
  refine lv_iconst (v := 0) hx hb dX0_wipe_31 (by decide) ?_
  refine va_put (D := (dC, dI)) (ci := 0) (v := .int 0) (ty := .int) (C := RX0) (T := TX0) (N := 13) hx hb hts (fun w h => List.mem_cons_of_mem _ (jnGA_X0 w h)) tyX0 tyX0_ok nmX0 hown hK hP hD hS 0 rfl rfl 6 (by decide) (hts _ (List.mem_cons_of_mem _ mGA_158)) (fun _ h9 => h9) rfl (by decide +kernel) rfl rfl (Nat.le_of_ble_eq_true rfl) dX0_wipe_32 (fun H locs hP hD hS => ?_)
  have hP : va_P (dC, dI) vwCl [(h0, .inr (0, [.int 0, .int 0, .int 0, .int 0, .int 0, .int 0, .int 0, .int placeCount, .int reportCount, .int deedCount, .ref places, .ref reports, .ref deeds]))] H := hP
  have hD : va_D A [(h0, .inr (0, [.int 0, .int 0, .int 0, .int 0, .int 0, .int 0, .int 0, .int placeCount, .int reportCount, .int deedCount, .ref places, .ref reports, .ref deeds]))] := hD
  refine lv_aload_n hx hb dX0_wipe_35 rfl (lv_at hl 0 rfl) ?_
  refine lv_iconst (v := 0) hx hb dX0_wipe_36 (by decide) ?_
  refine va_put (D := (dC, dI)) (ci := 0) (v := .int 0) (ty := .int) (C := RX0) (T := TX0) (N := 13) hx hb hts (fun w h => List.mem_cons_of_mem _ (jnGA_X0 w h)) tyX0 tyX0_ok nmX0 hown hK hP hD hS 0 rfl rfl 7 (by decide) (hts _ (List.mem_cons_of_mem _ mGA_159)) (fun _ h9 => h9) rfl (by decide +kernel) rfl rfl (Nat.le_of_ble_eq_true rfl) dX0_wipe_37 (fun H locs hP hD hS => ?_)
  have hP : va_P (dC, dI) vwCl [(h0, .inr (0, [.int 0, .int 0, .int 0, .int 0, .int 0, .int 0, .int 0, .int 0, .int reportCount, .int deedCount, .ref places, .ref reports, .ref deeds]))] H := hP
  have hD : va_D A [(h0, .inr (0, [.int 0, .int 0, .int 0, .int 0, .int 0, .int 0, .int 0, .int 0, .int reportCount, .int deedCount, .ref places, .ref reports, .ref deeds]))] := hD
  refine lv_aload_n hx hb dX0_wipe_40 rfl (lv_at hl 0 rfl) ?_
  refine lv_iconst (v := 0) hx hb dX0_wipe_41 (by decide) ?_
  refine va_put (D := (dC, dI)) (ci := 0) (v := .int 0) (ty := .int) (C := RX0) (T := TX0) (N := 13) hx hb hts (fun w h => List.mem_cons_of_mem _ (jnGA_X0 w h)) tyX0 tyX0_ok nmX0 hown hK hP hD hS 0 rfl rfl 8 (by decide) (hts _ (List.mem_cons_of_mem _ mGA_160)) (fun _ h9 => h9) rfl (by decide +kernel) rfl rfl (Nat.le_of_ble_eq_true rfl) dX0_wipe_42 (fun H locs hP hD hS => ?_)
  have hP : va_P (dC, dI) vwCl [(h0, .inr (0, [.int 0, .int 0, .int 0, .int 0, .int 0, .int 0, .int 0, .int 0, .int 0, .int deedCount, .ref places, .ref reports, .ref deeds]))] H := hP
  have hD : va_D A [(h0, .inr (0, [.int 0, .int 0, .int 0, .int 0, .int 0, .int 0, .int 0, .int 0, .int 0, .int deedCount, .ref places, .ref reports, .ref deeds]))] := hD
  refine lv_aload_n hx hb dX0_wipe_45 rfl (lv_at hl 0 rfl) ?_
  refine lv_iconst (v := 0) hx hb dX0_wipe_46 (by decide) ?_
  refine va_put (D := (dC, dI)) (ci := 0) (v := .int 0) (ty := .int) (C := RX0) (T := TX0) (N := 13) hx hb hts (fun w h => List.mem_cons_of_mem _ (jnGA_X0 w h)) tyX0 tyX0_ok nmX0 hown hK hP hD hS 0 rfl rfl 9 (by decide) (hts _ (List.mem_cons_of_mem _ mGA_161)) (fun _ h9 => h9) rfl (by decide +kernel) rfl rfl (Nat.le_of_ble_eq_true rfl) dX0_wipe_47 (fun H locs hP hD hS => ?_)
  have hP : va_P (dC, dI) vwCl [(h0, .inr (0, [.int 0, .int 0, .int 0, .int 0, .int 0, .int 0, .int 0, .int 0, .int 0, .int 0, .ref places, .ref reports, .ref deeds]))] H := hP
  have hD : va_D A [(h0, .inr (0, [.int 0, .int 0, .int 0, .int 0, .int 0, .int 0, .int 0, .int 0, .int 0, .int 0, .ref places, .ref reports, .ref deeds]))] := hD
  exact W.vret hx hb hr (fun t ht hW => ⟨⟨(), rfl, trivial, 0, 0, 0, 0, 0, 0, 0, 0, 0, 0, (gi_w (gi_c 0 0 (by decide)) (by decide)), (gi_w (gi_c 0 0 (by decide)) (by decide)), (gi_w (gi_c 0 0 (by decide)) (by decide)), (gi_w (gi_c 0 0 (by decide)) (by decide)), (gi_w (gi_c 0 0 (by decide)) (by decide)), (gi_w (gi_c 0 0 (by decide)) (by decide)), (gi_w (gi_c 0 0 (by decide)) (by decide)), by rw [ht]; exact hP, hD⟩, hS.F ht⟩) hS.2.2 dX0_wipe_50
theorem dX0_setMoon_0 : decode cX0_setMoon 0 = .ok (.aload_n 0, 1) := by decide +kernel
theorem dX0_setMoon_1 : decode cX0_setMoon 1 = .ok (.iconst 1, 1) := by decide +kernel
theorem dX0_setMoon_2 : decode cX0_setMoon 2 = .ok (.putfield 45, 3) := by decide +kernel
theorem dX0_setMoon_5 : decode cX0_setMoon 5 = .ok (.aload_n 0, 1) := by decide +kernel
theorem dX0_setMoon_6 : decode cX0_setMoon 6 = .ok (.iload_n 1, 1) := by decide +kernel
theorem dX0_setMoon_7 : decode cX0_setMoon 7 = .ok (.putfield 49, 3) := by decide +kernel
theorem dX0_setMoon_10 : decode cX0_setMoon 10 = .ok (.aload_n 0, 1) := by decide +kernel
theorem dX0_setMoon_11 : decode cX0_setMoon 11 = .ok (.iload_n 2, 1) := by decide +kernel
theorem dX0_setMoon_12 : decode cX0_setMoon 12 = .ok (.putfield 52, 3) := by decide +kernel
theorem dX0_setMoon_15 : decode cX0_setMoon 15 = .ok (.return_, 1) := by decide +kernel
set_option maxHeartbeats 4000000 in
set_option maxRecDepth 100000 in
theorem sX0_setMoon (l : Launch) (dC : Nat → ClassId) (dI : Nat → Nat → Nat) (sz : Nat) (h0 : Nat) (months : Int32) (full : Int32) (lean : Int32) (lines : Int32) (hasMoon : Int32) (moonStart : Int32) (moonStep : Int32) (placeCount : Int32) (reportCount : Int32) (deedCount : Int32) (places : Nat) (reports : Nat) (deeds : Nat) (p0 : Int32) (p1 : Int32) (gmonths : gi months 0 24) (gfull : gi full 0 5) (glean : gi lean 0 5) (ghasMoon : gi hasMoon 0 1) (gplaceCount : gi placeCount 0 6) (greportCount : gi reportCount 0 24) (gdeedCount : gi deedCount 0 8) : Met l yX0_setMoon (.code yX0_setMoon cX0_setMoon 3 none :: wsGA) ({ frames := 0, cells := 0, slots := 0, locals := 0 }) (va_Pc [.ref h0, .int p0, .int p1] (fun U => U.heap.size = sz ∧ va_P (dC, dI) vwCl [(h0, .inr (0, [.int months, .int full, .int lean, .int lines, .int hasMoon, .int moonStart, .int moonStep, .int placeCount, .int reportCount, .int deedCount, .ref places, .ref reports, .ref deeds]))] U.heap ∧ va_K (dC, dI) vwCl [] U ∧ va_D (fun _ => True) [(h0, .inr (0, [.int months, .int full, .int lean, .int lines, .int hasMoon, .int moonStart, .int moonStep, .int placeCount, .int reportCount, .int deedCount, .ref places, .ref reports, .ref deeds]))] ∧ nzA U)) (va_Qv (fun (u : Unit) => True) (fun _ t => ∃ (w0_4 : Int32) (w0_5 : Int32) (w0_6 : Int32), gi w0_4 0 1 ∧ va_P (dC, dI) vwCl [(h0, .inr (0, [.int months, .int full, .int lean, .int lines, .int w0_4, .int w0_5, .int w0_6, .int placeCount, .int reportCount, .int deedCount, .ref places, .ref reports, .ref deeds]))] t.heap ∧ va_D (va_A [(h0, .inr (0, [.int months, .int full, .int lean, .int lines, .int hasMoon, .int moonStart, .int moonStep, .int placeCount, .int reportCount, .int deedCount, .ref places, .ref reports, .ref deeds]))] sz) [(h0, .inr (0, [.int months, .int full, .int lean, .int lines, .int w0_4, .int w0_5, .int w0_6, .int placeCount, .int reportCount, .int deedCount, .ref places, .ref reports, .ref deeds]))]) (va_A [(h0, .inr (0, [.int months, .int full, .int lean, .int lines, .int hasMoon, .int moonStart, .int moonStep, .int placeCount, .int reportCount, .int deedCount, .ref places, .ref reports, .ref deeds]))] sz)) 0 0 (va_A [(h0, .inr (0, [.int months, .int full, .int lean, .int lines, .int hasMoon, .int moonStart, .int moonStep, .int placeCount, .int reportCount, .int deedCount, .ref places, .ref reports, .ref deeds]))] sz) := by
  refine Met.ofW (cc := cX0_setMoon) (maxL := 3) (ret := none) (by decide) rfl ?_
  intro p e s m args below meth c s₁ B hml hv
  obtain ⟨rfl, hsz, hP, hK, hD0, hz⟩ := hv
  have hx := B.exec
  have hb := B.bytes
  have hr := B.returns
  have hts := atoms_spec (ws := (.code yX0_setMoon cX0_setMoon 3 none :: wsGA)) B.pre
  have hown : s.vm.findClass RX0 = some m.cls := findClass_of_methodNamed B.named
  have hlocks := B.notSynchronized
  subst hsz
  have hD := hD0.self (sz := s.heap.size)
  generalize hAe : va_A [(h0, .inr (0, [.int months, .int full, .int lean, .int lines, .int hasMoon, .int moonStart, .int moonStep, .int placeCount, .int reportCount, .int deedCount, .ref places, .ref reports, .ref deeds]))] s.heap.size = A at hD ⊢
  have hA : ∀ q : Nat, s.heap.size ≤ q → A q := fun q h => by rw [← hAe]; exact Or.inr h
  have hS : va_S A s.heap s.heap [] := va_S.rf
  have hl := lv_entry ([.ref h0, .int p0, .int p1]) (n := 3) (Nat.le_of_ble_eq_true rfl)
  rw [lg_entry_eq]
  generalize (lg_sl ([.ref h0, .int p0, .int p1]) ++ List.replicate (3 - (lg_sl ([.ref h0, .int p0, .int p1])).length) Slot.unset).toArray = ls at hl ⊢
  have hl : lv_has ls 3 [(0, .ref h0), (1, .int p0), (2, .int p1)] := hl
  refine lv_aload_n hx hb dX0_setMoon_0 rfl (lv_at hl 0 rfl) ?_
  refine lv_iconst (v := 1) hx hb dX0_setMoon_1 (by decide) ?_
  refine va_put (D := (dC, dI)) (ci := 0) (v := .int 1) (ty := .boolean) (C := RX0) (T := TX0) (N := 13) hx hb hts (fun w h => List.mem_cons_of_mem _ (jnGA_X0 w h)) tyX0 tyX0_ok nmX0 hown hK hP hD hS 0 rfl rfl 4 (by decide) (hts _ (List.mem_cons_of_mem _ mGA_156)) (fun _ h9 => h9) rfl (by decide +kernel) rfl rfl (Nat.le_of_ble_eq_true rfl) dX0_setMoon_2 (fun H locs hP hD hS => ?_)
  have hP : va_P (dC, dI) vwCl [(h0, .inr (0, [.int months, .int full, .int lean, .int lines, .int 1, .int moonStart, .int moonStep, .int placeCount, .int reportCount, .int deedCount, .ref places, .ref reports, .ref deeds]))] H := hP
  have hD : va_D A [(h0, .inr (0, [.int months, .int full, .int lean, .int lines, .int 1, .int moonStart, .int moonStep, .int placeCount, .int reportCount, .int deedCount, .ref places, .ref reports, .ref deeds]))] := hD
  refine lv_aload_n hx hb dX0_setMoon_5 rfl (lv_at hl 0 rfl) ?_
  refine lv_iload_n hx hb dX0_setMoon_6 rfl (lv_at hl 1 rfl) ?_
  refine va_put (D := (dC, dI)) (ci := 0) (v := .int p0) (ty := .int) (C := RX0) (T := TX0) (N := 13) hx hb hts (fun w h => List.mem_cons_of_mem _ (jnGA_X0 w h)) tyX0 tyX0_ok nmX0 hown hK hP hD hS 0 rfl rfl 5 (by decide) (hts _ (List.mem_cons_of_mem _ mGA_157)) (fun _ h9 => h9) rfl (by decide +kernel) rfl rfl (Nat.le_of_ble_eq_true rfl) dX0_setMoon_7 (fun H locs hP hD hS => ?_)
  have hP : va_P (dC, dI) vwCl [(h0, .inr (0, [.int months, .int full, .int lean, .int lines, .int 1, .int p0, .int moonStep, .int placeCount, .int reportCount, .int deedCount, .ref places, .ref reports, .ref deeds]))] H := hP
  have hD : va_D A [(h0, .inr (0, [.int months, .int full, .int lean, .int lines, .int 1, .int p0, .int moonStep, .int placeCount, .int reportCount, .int deedCount, .ref places, .ref reports, .ref deeds]))] := hD
  refine lv_aload_n hx hb dX0_setMoon_10 rfl (lv_at hl 0 rfl) ?_
  refine lv_iload_n hx hb dX0_setMoon_11 rfl (lv_at hl 2 rfl) ?_
  refine va_put (D := (dC, dI)) (ci := 0) (v := .int p1) (ty := .int) (C := RX0) (T := TX0) (N := 13) hx hb hts (fun w h => List.mem_cons_of_mem _ (jnGA_X0 w h)) tyX0 tyX0_ok nmX0 hown hK hP hD hS 0 rfl rfl 6 (by decide) (hts _ (List.mem_cons_of_mem _ mGA_158)) (fun _ h9 => h9) rfl (by decide +kernel) rfl rfl (Nat.le_of_ble_eq_true rfl) dX0_setMoon_12 (fun H locs hP hD hS => ?_)
  have hP : va_P (dC, dI) vwCl [(h0, .inr (0, [.int months, .int full, .int lean, .int lines, .int 1, .int p0, .int p1, .int placeCount, .int reportCount, .int deedCount, .ref places, .ref reports, .ref deeds]))] H := hP
  have hD : va_D A [(h0, .inr (0, [.int months, .int full, .int lean, .int lines, .int 1, .int p0, .int p1, .int placeCount, .int reportCount, .int deedCount, .ref places, .ref reports, .ref deeds]))] := hD
  exact W.vret hx hb hr (fun t ht hW => ⟨⟨(), rfl, trivial, 1, p0, p1, (gi_w (gi_c 1 1 (by decide)) (by decide)), by rw [ht]; exact hP, hD⟩, hS.F ht⟩) hS.2.2 dX0_setMoon_15
theorem dX0_earlyOf_0 : decode cX0_earlyOf 0 = .ok (.aload_n 0, 1) := by decide +kernel
theorem dX0_earlyOf_1 : decode cX0_earlyOf 1 = .ok (.getfield 49, 3) := by decide +kernel
theorem dX0_earlyOf_4 : decode cX0_earlyOf 4 = .ok (.iload_n 1, 1) := by decide +kernel
theorem dX0_earlyOf_5 : decode cX0_earlyOf 5 = .ok (.aload_n 0, 1) := by decide +kernel
theorem dX0_earlyOf_6 : decode cX0_earlyOf 6 = .ok (.getfield 52, 3) := by decide +kernel
theorem dX0_earlyOf_9 : decode cX0_earlyOf 9 = .ok (.imul, 1) := by decide +kernel
theorem dX0_earlyOf_10 : decode cX0_earlyOf 10 = .ok (.iadd, 1) := by decide +kernel
theorem dX0_earlyOf_11 : decode cX0_earlyOf 11 = .ok (.sipush 1000, 3) := by decide +kernel
theorem dX0_earlyOf_14 : decode cX0_earlyOf 14 = .ok (.idiv, 1) := by decide +kernel
theorem dX0_earlyOf_15 : decode cX0_earlyOf 15 = .ok (.ireturn, 1) := by decide +kernel
set_option maxHeartbeats 4000000 in
set_option maxRecDepth 100000 in
theorem sX0_earlyOf (l : Launch) (dC : Nat → ClassId) (dI : Nat → Nat → Nat) (h0 : Nat) (months : Int32) (full : Int32) (lean : Int32) (lines : Int32) (hasMoon : Int32) (moonStart : Int32) (moonStep : Int32) (placeCount : Int32) (reportCount : Int32) (deedCount : Int32) (places : Nat) (reports : Nat) (deeds : Nat) (p0 : Int32) (gmonths : gi months 0 24) (gfull : gi full 0 5) (glean : gi lean 0 5) (ghasMoon : gi hasMoon 0 1) (gplaceCount : gi placeCount 0 6) (greportCount : gi reportCount 0 24) (gdeedCount : gi deedCount 0 8) : Met l yX0_earlyOf (.code yX0_earlyOf cX0_earlyOf 2 (some .int) :: wsGA) ({ frames := 0, cells := 0, slots := 0, locals := 0 }) (va_Pc [.ref h0, .int p0] (fun U => va_P (dC, dI) vwCl [(h0, .inr (0, [.int months, .int full, .int lean, .int lines, .int hasMoon, .int moonStart, .int moonStep, .int placeCount, .int reportCount, .int deedCount, .ref places, .ref reports, .ref deeds]))] U.heap ∧ va_K (dC, dI) vwCl [] U ∧ nzA U)) (va_Qi (fun (r : Int32) (u : Unit) => gi r (-2147483648) 2147483647) (fun _ _ => True) (fun _ => False)) 0 0 (fun _ => False) := by
  refine Met.ofW (cc := cX0_earlyOf) (maxL := 2) (ret := (some .int)) (by decide) rfl ?_
  intro p e s m args below meth c s₁ B hml hv
  obtain ⟨rfl, hP, hK, hz⟩ := hv
  have hx := B.exec
  have hb := B.bytes
  have hr := B.returns
  have hts := atoms_spec (ws := (.code yX0_earlyOf cX0_earlyOf 2 (some .int) :: wsGA)) B.pre
  have hown : s.vm.findClass RX0 = some m.cls := findClass_of_methodNamed B.named
  have hlocks := B.notSynchronized
  have hS : va_S (fun _ => False) s.heap s.heap [] := va_S.rf
  have hl := lv_entry ([.ref h0, .int p0]) (n := 2) (Nat.le_of_ble_eq_true rfl)
  rw [lg_entry_eq]
  generalize (lg_sl ([.ref h0, .int p0]) ++ List.replicate (2 - (lg_sl ([.ref h0, .int p0])).length) Slot.unset).toArray = ls at hl ⊢
  have hl : lv_has ls 2 [(0, .ref h0), (1, .int p0)] := hl
  refine lv_aload_n hx hb dX0_earlyOf_0 rfl (lv_at hl 0 rfl) ?_
  refine va_get (D := (dC, dI)) (ci := 0) (v := .int moonStart) (C := RX0) (T := TX0) (N := 13) hx hb hts (fun w h => List.mem_cons_of_mem _ (jnGA_X0 w h)) hown hK hP 0 rfl rfl 5 (by decide) (hts _ (List.mem_cons_of_mem _ mGA_157)) (fun _ h9 => h9) rfl dX0_earlyOf_1 ?_
  refine lv_iload_n hx hb dX0_earlyOf_4 rfl (lv_at hl 1 rfl) ?_
  refine lv_aload_n hx hb dX0_earlyOf_5 rfl (lv_at hl 0 rfl) ?_
  refine va_get (D := (dC, dI)) (ci := 0) (v := .int moonStep) (C := RX0) (T := TX0) (N := 13) hx hb hts (fun w h => List.mem_cons_of_mem _ (jnGA_X0 w h)) hown hK hP 0 rfl rfl 6 (by decide) (hts _ (List.mem_cons_of_mem _ mGA_158)) (fun _ h9 => h9) rfl dX0_earlyOf_6 ?_
  refine lv_imul hx hb dX0_earlyOf_9 ?_
  refine lv_topi (fun x_4 ex_4 => ?_)
  refine lv_iadd hx hb dX0_earlyOf_10 ?_
  refine lv_topi (fun x_5 ex_5 => ?_)
  refine lv_sipush (v := 1000) hx hb dX0_earlyOf_11 (by decide) ?_
  refine lv_idiv hx hb dX0_earlyOf_14 (by decide) ?_
  refine lv_topi (fun x_6 ex_6 => ?_)
  exact W.iret (v := x_6) hx hb hr (fun t ht hW => ⟨⟨x_6, (), rfl, (gi_any x_6), trivial⟩, hS.F ht⟩) hS.2.2 dX0_earlyOf_15
theorem dX10_put_0 : decode cX10_put 0 = .ok (.aload_n 0, 1) := by decide +kernel
theorem dX10_put_1 : decode cX10_put 1 = .ok (.getfield 15, 3) := by decide +kernel
theorem dX10_put_4 : decode cX10_put 4 = .ok (.sipush 1596, 3) := by decide +kernel
theorem dX10_put_7 : decode cX10_put 7 = .ok (.if_icmp .le 4, 3) := by decide +kernel
theorem dX10_put_10 : decode cX10_put 10 = .ok (.return_, 1) := by decide +kernel
theorem dX10_put_11 : decode cX10_put 11 = .ok (.aload_n 0, 1) := by decide +kernel
theorem dX10_put_12 : decode cX10_put 12 = .ok (.getfield 9, 3) := by decide +kernel
theorem dX10_put_15 : decode cX10_put 15 = .ok (.aload_n 0, 1) := by decide +kernel
theorem dX10_put_16 : decode cX10_put 16 = .ok (.getfield 15, 3) := by decide +kernel
theorem dX10_put_19 : decode cX10_put 19 = .ok (.iload_n 1, 1) := by decide +kernel
theorem dX10_put_20 : decode cX10_put 20 = .ok (.bipush 24, 2) := by decide +kernel
theorem dX10_put_22 : decode cX10_put 22 = .ok (.iushr, 1) := by decide +kernel
theorem dX10_put_23 : decode cX10_put 23 = .ok (.i2b, 1) := by decide +kernel
theorem dX10_put_24 : decode cX10_put 24 = .ok (.bastore, 1) := by decide +kernel
theorem dX10_put_25 : decode cX10_put 25 = .ok (.aload_n 0, 1) := by decide +kernel
theorem dX10_put_26 : decode cX10_put 26 = .ok (.getfield 9, 3) := by decide +kernel
theorem dX10_put_29 : decode cX10_put 29 = .ok (.aload_n 0, 1) := by decide +kernel
theorem dX10_put_30 : decode cX10_put 30 = .ok (.getfield 15, 3) := by decide +kernel
theorem dX10_put_33 : decode cX10_put 33 = .ok (.iconst 1, 1) := by decide +kernel
theorem dX10_put_34 : decode cX10_put 34 = .ok (.iadd, 1) := by decide +kernel
theorem dX10_put_35 : decode cX10_put 35 = .ok (.iload_n 1, 1) := by decide +kernel
theorem dX10_put_36 : decode cX10_put 36 = .ok (.bipush 16, 2) := by decide +kernel
theorem dX10_put_38 : decode cX10_put 38 = .ok (.iushr, 1) := by decide +kernel
theorem dX10_put_39 : decode cX10_put 39 = .ok (.i2b, 1) := by decide +kernel
theorem dX10_put_40 : decode cX10_put 40 = .ok (.bastore, 1) := by decide +kernel
theorem dX10_put_41 : decode cX10_put 41 = .ok (.aload_n 0, 1) := by decide +kernel
theorem dX10_put_42 : decode cX10_put 42 = .ok (.getfield 9, 3) := by decide +kernel
theorem dX10_put_45 : decode cX10_put 45 = .ok (.aload_n 0, 1) := by decide +kernel
theorem dX10_put_46 : decode cX10_put 46 = .ok (.getfield 15, 3) := by decide +kernel
theorem dX10_put_49 : decode cX10_put 49 = .ok (.iconst 2, 1) := by decide +kernel
theorem dX10_put_50 : decode cX10_put 50 = .ok (.iadd, 1) := by decide +kernel
theorem dX10_put_51 : decode cX10_put 51 = .ok (.iload_n 1, 1) := by decide +kernel
theorem dX10_put_52 : decode cX10_put 52 = .ok (.bipush 8, 2) := by decide +kernel
theorem dX10_put_54 : decode cX10_put 54 = .ok (.iushr, 1) := by decide +kernel
theorem dX10_put_55 : decode cX10_put 55 = .ok (.i2b, 1) := by decide +kernel
theorem dX10_put_56 : decode cX10_put 56 = .ok (.bastore, 1) := by decide +kernel
theorem dX10_put_57 : decode cX10_put 57 = .ok (.aload_n 0, 1) := by decide +kernel
theorem dX10_put_58 : decode cX10_put 58 = .ok (.getfield 9, 3) := by decide +kernel
theorem dX10_put_61 : decode cX10_put 61 = .ok (.aload_n 0, 1) := by decide +kernel
theorem dX10_put_62 : decode cX10_put 62 = .ok (.getfield 15, 3) := by decide +kernel
theorem dX10_put_65 : decode cX10_put 65 = .ok (.iconst 3, 1) := by decide +kernel
theorem dX10_put_66 : decode cX10_put 66 = .ok (.iadd, 1) := by decide +kernel
theorem dX10_put_67 : decode cX10_put 67 = .ok (.iload_n 1, 1) := by decide +kernel
theorem dX10_put_68 : decode cX10_put 68 = .ok (.i2b, 1) := by decide +kernel
theorem dX10_put_69 : decode cX10_put 69 = .ok (.bastore, 1) := by decide +kernel
theorem dX10_put_70 : decode cX10_put 70 = .ok (.aload_n 0, 1) := by decide +kernel
theorem dX10_put_71 : decode cX10_put 71 = .ok (.dup, 1) := by decide +kernel
theorem dX10_put_72 : decode cX10_put 72 = .ok (.getfield 15, 3) := by decide +kernel
theorem dX10_put_75 : decode cX10_put 75 = .ok (.iconst 4, 1) := by decide +kernel
theorem dX10_put_76 : decode cX10_put 76 = .ok (.iadd, 1) := by decide +kernel
theorem dX10_put_77 : decode cX10_put 77 = .ok (.putfield 15, 3) := by decide +kernel
theorem dX10_put_80 : decode cX10_put 80 = .ok (.return_, 1) := by decide +kernel
set_option maxHeartbeats 4000000 in
set_option maxRecDepth 100000 in
theorem sX10_put (l : Launch) (dC : Nat → ClassId) (dI : Nat → Nat → Nat) (sz : Nat) (h0 : Nat) (bt : Nat) (length : Int32) (kbt : ClassId) (fbt : Nat → Int32) (p0 : Int32) (glength : gi length 0 1600) : Met l yX10_put (.code yX10_put cX10_put 2 none :: wsGA) ({ frames := 0, cells := 0, slots := 0, locals := 0 }) (va_Pc [.ref h0, .int p0] (fun U => U.heap.size = sz ∧ va_P (dC, dI) vwCl [(h0, .inr (10, [.ref bt, .int length])), (bt, .inl (kbt, 1600, .inl fbt))] U.heap ∧ va_K (dC, dI) vwCl [(kbt, .byte)] U ∧ va_D (fun _ => True) [(h0, .inr (10, [.ref bt, .int length])), (bt, .inl (kbt, 1600, .inl fbt))] ∧ nzA U)) (va_Qv (fun (u : Unit) => True) (fun _ t => ∃ (w0_1 : Int32) (z1 : Nat → Int32), gi w0_1 0 1600 ∧ ((1596 < length.toInt ∧ w0_1.toInt = length.toInt) ∨ (length.toInt ≤ 1596 ∧ w0_1.toInt = length.toInt + 4)) ∧ va_P (dC, dI) vwCl [(h0, .inr (10, [.ref bt, .int w0_1])), (bt, .inl (kbt, 1600, .inl z1))] t.heap ∧ va_D (va_A [(h0, .inr (10, [.ref bt, .int length])), (bt, .inl (kbt, 1600, .inl fbt))] sz) [(h0, .inr (10, [.ref bt, .int w0_1])), (bt, .inl (kbt, 1600, .inl z1))]) (va_A [(h0, .inr (10, [.ref bt, .int length])), (bt, .inl (kbt, 1600, .inl fbt))] sz)) 0 0 (va_A [(h0, .inr (10, [.ref bt, .int length])), (bt, .inl (kbt, 1600, .inl fbt))] sz) := by
  refine Met.ofW (cc := cX10_put) (maxL := 2) (ret := none) (by decide) rfl ?_
  intro p e s m args below meth c s₁ B hml hv
  obtain ⟨rfl, hsz, hP, hK, hD0, hz⟩ := hv
  have hx := B.exec
  have hb := B.bytes
  have hr := B.returns
  have hts := atoms_spec (ws := (.code yX10_put cX10_put 2 none :: wsGA)) B.pre
  have hown : s.vm.findClass RX10 = some m.cls := findClass_of_methodNamed B.named
  have hlocks := B.notSynchronized
  subst hsz
  have hD := hD0.self (sz := s.heap.size)
  generalize hAe : va_A [(h0, .inr (10, [.ref bt, .int length])), (bt, .inl (kbt, 1600, .inl fbt))] s.heap.size = A at hD ⊢
  have hA : ∀ q : Nat, s.heap.size ≤ q → A q := fun q h => by rw [← hAe]; exact Or.inr h
  have hS : va_S A s.heap s.heap [] := va_S.rf
  have hl := lv_entry ([.ref h0, .int p0]) (n := 2) (Nat.le_of_ble_eq_true rfl)
  rw [lg_entry_eq]
  generalize (lg_sl ([.ref h0, .int p0]) ++ List.replicate (2 - (lg_sl ([.ref h0, .int p0])).length) Slot.unset).toArray = ls at hl ⊢
  have hl : lv_has ls 2 [(0, .ref h0), (1, .int p0)] := hl
  refine lv_aload_n hx hb dX10_put_0 rfl (lv_at hl 0 rfl) ?_
  refine va_get (D := (dC, dI)) (ci := 10) (v := .int length) (C := RX10) (T := TX10) (N := 2) hx hb hts (fun w h => List.mem_cons_of_mem _ (jnGA_X10 w h)) hown hK hP 0 rfl rfl 1 (by decide) (hts _ (List.mem_cons_of_mem _ mGA_64)) (fun _ h9 => h9) rfl dX10_put_1 ?_
  refine lv_sipush (v := 1596) hx hb dX10_put_4 (by decide) ?_
  refine lv_icmp_le (tgt := 11) hx hb dX10_put_7 (by decide) (fun c_37 => ?_) (fun c_37 => ?_)
  · have g_38 : gi length 0 1596 := gi_le_l c_37 glength (gi_c 1596 1596 (by decide))
    refine lv_aload_n hx hb dX10_put_11 rfl (lv_at hl 0 rfl) ?_
    refine va_get (D := (dC, dI)) (ci := 10) (v := .ref bt) (C := RX10) (T := TX10) (N := 2) hx hb hts (fun w h => List.mem_cons_of_mem _ (jnGA_X10 w h)) hown hK hP 0 rfl rfl 0 (by decide) (hts _ (List.mem_cons_of_mem _ mGA_63)) (fun _ h9 => h9) rfl dX10_put_12 ?_
    refine lv_aload_n hx hb dX10_put_15 rfl (lv_at hl 0 rfl) ?_
    refine va_get (D := (dC, dI)) (ci := 10) (v := .int length) (C := RX10) (T := TX10) (N := 2) hx hb hts (fun w h => List.mem_cons_of_mem _ (jnGA_X10 w h)) hown hK hP 0 rfl rfl 1 (by decide) (hts _ (List.mem_cons_of_mem _ mGA_64)) (fun _ h9 => h9) rfl dX10_put_16 ?_
    refine lv_iload_n hx hb dX10_put_19 rfl (lv_at hl 1 rfl) ?_
    refine lv_bipush (v := 24) hx hb dX10_put_20 (by decide) ?_
    refine lv_iushr hx hb dX10_put_22 rfl ?_
    refine lv_topi (fun x_39 ex_39 => ?_)
    refine lv_i2b hx hb dX10_put_23 rfl ?_
    refine lv_topi (fun x_40 ex_40 => ?_)
    refine va_bast hx hb hK hP hD hS 1 0 rfl rfl (gi_in g_38 (by decide)) dX10_put_24 (fun H locs hP hD hS => ?_)
    have hP : va_P (dC, dI) vwCl [(h0, .inr (10, [.ref bt, .int length])), (bt, .inl (kbt, 1600, .inl (upd fbt (length : Int32).toNatClampNeg (vp_nar .byte x_40))))] H := hP
    have hD : va_D A [(h0, .inr (10, [.ref bt, .int length])), (bt, .inl (kbt, 1600, .inl (upd fbt (length : Int32).toNatClampNeg (vp_nar .byte x_40))))] := hD
    generalize upd fbt (length : Int32).toNatClampNeg (vp_nar .byte x_40) = f_41 at hP hD
    refine lv_aload_n hx hb dX10_put_25 rfl (lv_at hl 0 rfl) ?_
    refine va_get (D := (dC, dI)) (ci := 10) (v := .ref bt) (C := RX10) (T := TX10) (N := 2) hx hb hts (fun w h => List.mem_cons_of_mem _ (jnGA_X10 w h)) hown hK hP 0 rfl rfl 0 (by decide) (hts _ (List.mem_cons_of_mem _ mGA_63)) (fun _ h9 => h9) rfl dX10_put_26 ?_
    refine lv_aload_n hx hb dX10_put_29 rfl (lv_at hl 0 rfl) ?_
    refine va_get (D := (dC, dI)) (ci := 10) (v := .int length) (C := RX10) (T := TX10) (N := 2) hx hb hts (fun w h => List.mem_cons_of_mem _ (jnGA_X10 w h)) hown hK hP 0 rfl rfl 1 (by decide) (hts _ (List.mem_cons_of_mem _ mGA_64)) (fun _ h9 => h9) rfl dX10_put_30 ?_
    refine lv_iconst (v := 1) hx hb dX10_put_33 (by decide) ?_
    refine lv_iadd hx hb dX10_put_34 ?_
    refine lv_topi (fun x_42 ex_42 => ?_)
    have gx_42 : gi x_42 1 1597 := gi_add ex_42 g_38 (gi_c 1 1 (by decide)) (by decide)
    refine lv_iload_n hx hb dX10_put_35 rfl (lv_at hl 1 rfl) ?_
    refine lv_bipush (v := 16) hx hb dX10_put_36 (by decide) ?_
    refine lv_iushr hx hb dX10_put_38 rfl ?_
    refine lv_topi (fun x_43 ex_43 => ?_)
    refine lv_i2b hx hb dX10_put_39 rfl ?_
    refine lv_topi (fun x_44 ex_44 => ?_)
    refine va_bast hx hb hK hP hD hS 1 0 rfl rfl (gi_in gx_42 (by decide)) dX10_put_40 (fun H locs hP hD hS => ?_)
    have hP : va_P (dC, dI) vwCl [(h0, .inr (10, [.ref bt, .int length])), (bt, .inl (kbt, 1600, .inl (upd f_41 (x_42 : Int32).toNatClampNeg (vp_nar .byte x_44))))] H := hP
    have hD : va_D A [(h0, .inr (10, [.ref bt, .int length])), (bt, .inl (kbt, 1600, .inl (upd f_41 (x_42 : Int32).toNatClampNeg (vp_nar .byte x_44))))] := hD
    generalize upd f_41 (x_42 : Int32).toNatClampNeg (vp_nar .byte x_44) = f_45 at hP hD
    refine lv_aload_n hx hb dX10_put_41 rfl (lv_at hl 0 rfl) ?_
    refine va_get (D := (dC, dI)) (ci := 10) (v := .ref bt) (C := RX10) (T := TX10) (N := 2) hx hb hts (fun w h => List.mem_cons_of_mem _ (jnGA_X10 w h)) hown hK hP 0 rfl rfl 0 (by decide) (hts _ (List.mem_cons_of_mem _ mGA_63)) (fun _ h9 => h9) rfl dX10_put_42 ?_
    refine lv_aload_n hx hb dX10_put_45 rfl (lv_at hl 0 rfl) ?_
    refine va_get (D := (dC, dI)) (ci := 10) (v := .int length) (C := RX10) (T := TX10) (N := 2) hx hb hts (fun w h => List.mem_cons_of_mem _ (jnGA_X10 w h)) hown hK hP 0 rfl rfl 1 (by decide) (hts _ (List.mem_cons_of_mem _ mGA_64)) (fun _ h9 => h9) rfl dX10_put_46 ?_
    refine lv_iconst (v := 2) hx hb dX10_put_49 (by decide) ?_
    refine lv_iadd hx hb dX10_put_50 ?_
    refine lv_topi (fun x_46 ex_46 => ?_)
    have gx_46 : gi x_46 2 1598 := gi_add ex_46 g_38 (gi_c 2 2 (by decide)) (by decide)
    refine lv_iload_n hx hb dX10_put_51 rfl (lv_at hl 1 rfl) ?_
    refine lv_bipush (v := 8) hx hb dX10_put_52 (by decide) ?_
    refine lv_iushr hx hb dX10_put_54 rfl ?_
    refine lv_topi (fun x_47 ex_47 => ?_)
    refine lv_i2b hx hb dX10_put_55 rfl ?_
    refine lv_topi (fun x_48 ex_48 => ?_)
    refine va_bast hx hb hK hP hD hS 1 0 rfl rfl (gi_in gx_46 (by decide)) dX10_put_56 (fun H locs hP hD hS => ?_)
    have hP : va_P (dC, dI) vwCl [(h0, .inr (10, [.ref bt, .int length])), (bt, .inl (kbt, 1600, .inl (upd f_45 (x_46 : Int32).toNatClampNeg (vp_nar .byte x_48))))] H := hP
    have hD : va_D A [(h0, .inr (10, [.ref bt, .int length])), (bt, .inl (kbt, 1600, .inl (upd f_45 (x_46 : Int32).toNatClampNeg (vp_nar .byte x_48))))] := hD
    generalize upd f_45 (x_46 : Int32).toNatClampNeg (vp_nar .byte x_48) = f_49 at hP hD
    refine lv_aload_n hx hb dX10_put_57 rfl (lv_at hl 0 rfl) ?_
    refine va_get (D := (dC, dI)) (ci := 10) (v := .ref bt) (C := RX10) (T := TX10) (N := 2) hx hb hts (fun w h => List.mem_cons_of_mem _ (jnGA_X10 w h)) hown hK hP 0 rfl rfl 0 (by decide) (hts _ (List.mem_cons_of_mem _ mGA_63)) (fun _ h9 => h9) rfl dX10_put_58 ?_
    refine lv_aload_n hx hb dX10_put_61 rfl (lv_at hl 0 rfl) ?_
    refine va_get (D := (dC, dI)) (ci := 10) (v := .int length) (C := RX10) (T := TX10) (N := 2) hx hb hts (fun w h => List.mem_cons_of_mem _ (jnGA_X10 w h)) hown hK hP 0 rfl rfl 1 (by decide) (hts _ (List.mem_cons_of_mem _ mGA_64)) (fun _ h9 => h9) rfl dX10_put_62 ?_
    refine lv_iconst (v := 3) hx hb dX10_put_65 (by decide) ?_
    refine lv_iadd hx hb dX10_put_66 ?_
    refine lv_topi (fun x_50 ex_50 => ?_)
    have gx_50 : gi x_50 3 1599 := gi_add ex_50 g_38 (gi_c 3 3 (by decide)) (by decide)
    refine lv_iload_n hx hb dX10_put_67 rfl (lv_at hl 1 rfl) ?_
    refine lv_i2b hx hb dX10_put_68 rfl ?_
    refine lv_topi (fun x_51 ex_51 => ?_)
    refine va_bast hx hb hK hP hD hS 1 0 rfl rfl (gi_in gx_50 (by decide)) dX10_put_69 (fun H locs hP hD hS => ?_)
    have hP : va_P (dC, dI) vwCl [(h0, .inr (10, [.ref bt, .int length])), (bt, .inl (kbt, 1600, .inl (upd f_49 (x_50 : Int32).toNatClampNeg (vp_nar .byte x_51))))] H := hP
    have hD : va_D A [(h0, .inr (10, [.ref bt, .int length])), (bt, .inl (kbt, 1600, .inl (upd f_49 (x_50 : Int32).toNatClampNeg (vp_nar .byte x_51))))] := hD
    generalize upd f_49 (x_50 : Int32).toNatClampNeg (vp_nar .byte x_51) = f_52 at hP hD
    refine lv_aload_n hx hb dX10_put_70 rfl (lv_at hl 0 rfl) ?_
    refine lv_dup hx hb dX10_put_71 rfl ?_
    refine va_get (D := (dC, dI)) (ci := 10) (v := .int length) (C := RX10) (T := TX10) (N := 2) hx hb hts (fun w h => List.mem_cons_of_mem _ (jnGA_X10 w h)) hown hK hP 0 rfl rfl 1 (by decide) (hts _ (List.mem_cons_of_mem _ mGA_64)) (fun _ h9 => h9) rfl dX10_put_72 ?_
    refine lv_iconst (v := 4) hx hb dX10_put_75 (by decide) ?_
    refine lv_iadd hx hb dX10_put_76 ?_
    refine lv_topi (fun x_53 ex_53 => ?_)
    have gx_53 : gi x_53 4 1600 := gi_add ex_53 g_38 (gi_c 4 4 (by decide)) (by decide)
    refine va_put (D := (dC, dI)) (ci := 10) (v := .int x_53) (ty := .int) (C := RX10) (T := TX10) (N := 2) hx hb hts (fun w h => List.mem_cons_of_mem _ (jnGA_X10 w h)) tyX10 tyX10_ok nmX10 hown hK hP hD hS 0 rfl rfl 1 (by decide) (hts _ (List.mem_cons_of_mem _ mGA_64)) (fun _ h9 => h9) rfl (by decide +kernel) rfl rfl (Nat.le_of_ble_eq_true rfl) dX10_put_77 (fun H locs hP hD hS => ?_)
    have hP : va_P (dC, dI) vwCl [(h0, .inr (10, [.ref bt, .int x_53])), (bt, .inl (kbt, 1600, .inl f_52))] H := hP
    have hD : va_D A [(h0, .inr (10, [.ref bt, .int x_53])), (bt, .inl (kbt, 1600, .inl f_52))] := hD
    exact W.vret hx hb hr (fun t ht hW => ⟨⟨(), rfl, trivial, x_53, f_52, (gi_w gx_53 (by decide)), by have qgx_53 := gx_53.1; have rgx_53 := gx_53.2; have igx_53 : x_53.toInt = length.toInt + 4 := (by have hc4 : (4 : Int32).toInt = 4 := (by decide); have h9 := gi_addI ex_53 (by have h1 := g_38.1; have h2 := (gi_c 4 4 (by decide)).1; have h3 := g_38.2; have h4 := (gi_c 4 4 (by decide)).2; omega) (by have h1 := g_38.1; have h2 := (gi_c 4 4 (by decide)).1; have h3 := g_38.2; have h4 := (gi_c 4 4 (by decide)).2; omega); rw [hc4] at h9; exact h9); have qglength := g_38.1; have rglength := g_38.2; omega, by rw [ht]; exact hP, hD⟩, hS.F ht⟩) hS.2.2 dX10_put_80
  · have g_54 : gi length 1597 1600 := gi_lt_r (Int32.not_le.mp c_37) (gi_c 1596 1596 (by decide)) glength (by decide)
    exact W.vret hx hb hr (fun t ht hW => ⟨⟨(), rfl, trivial, length, fbt, (gi_w g_54 (by decide)), by have qglength := g_54.1; have rglength := g_54.2; omega, by rw [ht]; exact hP, hD⟩, hS.F ht⟩) hS.2.2 dX10_put_10
