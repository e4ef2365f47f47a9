noncomputable def lsX4_changesAt : List (Nat × Instr × Nat) := [(0, .aload_n 0, 1), (1, .getfield 15, 3), (4, .iload_n 1, 1), (5, .bipush 25, 2), (7, .imul, 1), (8, .iload_n 2, 1), (9, .iadd, 1), (10, .iaload, 1), (11, .aload_n 0, 1), (12, .getfield 15, 3), (15, .iload_n 1, 1), (16, .iconst 1, 1), (17, .isub, 1), (18, .bipush 25, 2), (20, .imul, 1), (21, .iload_n 2, 1), (22, .iadd, 1), (23, .iaload, 1), (24, .if_icmp .eq 7, 3), (27, .iconst 1, 1), (28, .goto 4, 3), (31, .iconst 0, 1), (32, .ireturn, 1)]
theorem dkX4_changesAt : dkAll cX4_changesAt lsX4_changesAt = true := dk_fast (by decide +kernel)
noncomputable def bfX4_changesAt_32 (fhb_ : Nat → Int32) (p0 : Int32) (p1 : Int32) (s0 : Int32) : Int32 := s0
noncomputable def fX4_changesAt (fhb_ : Nat → Int32) (p0 : Int32) (p1 : Int32) : Int32 := if (fhb_ ((p0 * (25 : Int32)) + p1).toNatClampNeg) = (fhb_ (((p0 - (1 : Int32)) * (25 : Int32)) + p1).toNatClampNeg) then (bfX4_changesAt_32 fhb_ p0 p1 (0 : Int32)) else (bfX4_changesAt_32 fhb_ p0 p1 (1 : Int32))
set_option maxHeartbeats 4000000 in
set_option maxRecDepth 100000 in
theorem sX4_changesAt (l : Launch) (dC : Nat → ClassId) (dI : Nat → Nat → Nat) (h0 : Nat) (hb_ : Nat) (si : Nat) (eras : Int32) (khb_ : ClassId) (fhb_ : Nat → Int32) (p0 : Int32) (p1 : Int32) (geras : gi eras 0 25) (gp0 : gi p0 1 24) (gp1 : gi p1 0 24) : Met l yX4_changesAt (.code yX4_changesAt cX4_changesAt 3 (some .boolean) :: wsGA) ({ frames := 0, cells := 0, slots := 0, locals := 0 }) (va_Pc [.ref h0, .int p0, .int p1] (fun U => va_P (dC, dI) vwCl [(h0, .inr (4, [.ref si, .ref hb_, .int eras])), (hb_, .inl (khb_, 625, .inl fhb_))] U.heap ∧ va_K (dC, dI) vwCl [(khb_, .int)] U ∧ nzA U)) (va_Qi (fun (r : Int32) (u : Unit) => (gi r 0 1) ∧ r = fX4_changesAt fhb_ p0 p1) (fun _ _ => True) (fun _ => False)) 0 0 (fun _ => False) := by
  refine Met.ofW (cc := cX4_changesAt) (maxL := 3) (ret := (some .boolean)) (by decide) rfl ?_
  intro p e s m args below meth c s₁ B hml hv
  obtain ⟨rfl, hP, hK, hz⟩ := hv
  have hx := B.exec
  have hb := B.bytes
  have hr := B.returns
  have hts := atoms_spec (ws := (.code yX4_changesAt cX4_changesAt 3 (some .boolean) :: wsGA)) B.pre
  have hown : s.vm.findClass RX4 = some m.cls := findClass_of_methodNamed B.named
  have hlocks := B.notSynchronized
  have hS : va_S (fun _ => False) s.heap s.heap [] := va_S.rf
  have hl := lv_entry ([.ref h0, .int p0, .int p1]) (n := 3) (Nat.le_of_ble_eq_true rfl)
  rw [lg_entry_eq]
  generalize (lg_sl ([.ref h0, .int p0, .int p1]) ++ List.replicate (3 - (lg_sl ([.ref h0, .int p0, .int p1])).length) Slot.unset).toArray = ls at hl ⊢
  have hl : lv_has ls 3 [(0, .ref h0), (1, .int p0), (2, .int p1)] := hl
  obtain ⟨RES, hF⟩ : ∃ R9, fX4_changesAt fhb_ p0 p1 = R9 := ⟨_, rfl⟩
  have hR9 := hF
  refine lv_aload_n hx hb (dk_at dkX4_changesAt 0 rfl) rfl (lv_at hl 0 rfl) ?_
  refine va_get (D := (dC, dI)) (ci := 4) (v := .ref hb_) (C := RX4) (T := TX4) (N := 3) hx hb hts (fun w h => List.mem_cons_of_mem _ (jnGA_X4 w h)) hown hK hP 0 rfl rfl 1 (by decide) (hts _ (List.mem_cons_of_mem _ mGA_123)) (fun _ h9 => h9) rfl (dk_at dkX4_changesAt 1 rfl) ?_
  refine lv_iload_n hx hb (dk_at dkX4_changesAt 2 rfl) rfl (lv_at hl 1 rfl) ?_
  refine lv_bipush (v := 25) hx hb (dk_at dkX4_changesAt 3 rfl) (by decide) ?_
  refine lv_imul hx hb (dk_at dkX4_changesAt 4 rfl) ?_
  refine lv_topi (fun x_9 ex_9 => ?_)
  have gx_9 : gi x_9 25 600 := gi_mul ex_9 gp0 (gi_c 25 25 (by decide)) (by decide)
  refine lv_iload_n hx hb (dk_at dkX4_changesAt 5 rfl) rfl (lv_at hl 2 rfl) ?_
  refine lv_iadd hx hb (dk_at dkX4_changesAt 6 rfl) ?_
  refine lv_topi (fun x_10 ex_10 => ?_)
  have gx_10 : gi x_10 25 624 := gi_add ex_10 gx_9 gp1 (by decide)
  refine va_iald hx hb hK hP 1 0 rfl rfl (gi_in gx_10 (by decide)) (dk_at dkX4_changesAt 7 rfl) ?_
  refine lv_topi (fun x_11 ex_11 => ?_)
  refine lv_aload_n hx hb (dk_at dkX4_changesAt 8 rfl) rfl (lv_at hl 0 rfl) ?_
  refine va_get (D := (dC, dI)) (ci := 4) (v := .ref hb_) (C := RX4) (T := TX4) (N := 3) hx hb hts (fun w h => List.mem_cons_of_mem _ (jnGA_X4 w h)) hown hK hP 0 rfl rfl 1 (by decide) (hts _ (List.mem_cons_of_mem _ mGA_123)) (fun _ h9 => h9) rfl (dk_at dkX4_changesAt 9 rfl) ?_
  refine lv_iload_n hx hb (dk_at dkX4_changesAt 10 rfl) rfl (lv_at hl 1 rfl) ?_
  refine lv_iconst (v := 1) hx hb (dk_at dkX4_changesAt 11 rfl) (by decide) ?_
  refine lv_isub hx hb (dk_at dkX4_changesAt 12 rfl) ?_
  refine lv_topi (fun x_12 ex_12 => ?_)
  have gx_12 : gi x_12 0 23 := gi_sub ex_12 gp0 (gi_c 1 1 (by decide)) (by decide)
  refine lv_bipush (v := 25) hx hb (dk_at dkX4_changesAt 13 rfl) (by decide) ?_
  refine lv_imul hx hb (dk_at dkX4_changesAt 14 rfl) ?_
  refine lv_topi (fun x_13 ex_13 => ?_)
  have gx_13 : gi x_13 0 575 := gi_mul ex_13 gx_12 (gi_c 25 25 (by decide)) (by decide)
  refine lv_iload_n hx hb (dk_at dkX4_changesAt 15 rfl) rfl (lv_at hl 2 rfl) ?_
  refine lv_iadd hx hb (dk_at dkX4_changesAt 16 rfl) ?_
  refine lv_topi (fun x_14 ex_14 => ?_)
  have gx_14 : gi x_14 0 599 := gi_add ex_14 gx_13 gp1 (by decide)
  refine va_iald hx hb hK hP 1 0 rfl rfl (gi_in gx_14 (by decide)) (dk_at dkX4_changesAt 17 rfl) ?_
  refine lv_topi (fun x_15 ex_15 => ?_)
  refine lv_icmp_eq (tgt := 31) hx hb (dk_at dkX4_changesAt 18 rfl) (by decide) (fun c_16 => ?_) (fun c_16 => ?_)
  · have hF := gf_pos (by rw [ex_15, ex_14, ex_13, ex_12, ex_11, ex_10, ex_9] at c_16; exact c_16) hF
    refine lv_iconst (v := 0) hx hb (dk_at dkX4_changesAt 21 rfl) (by decide) ?_
    exact W.zret (v := 0) hx hb hr (by decide) (fun t ht hW => ⟨⟨0, (), rfl, ⟨(gi_w (gi_c 0 0 (by decide)) (by decide)), hF.trans hR9.symm⟩, trivial⟩, hS.F ht⟩) hS.2.2 (dk_at dkX4_changesAt 22 rfl)
  · have hF := gf_neg (by rw [ex_15, ex_14, ex_13, ex_12, ex_11, ex_10, ex_9] at c_16; exact c_16) hF
    refine lv_iconst (v := 1) hx hb (dk_at dkX4_changesAt 19 rfl) (by decide) ?_
    refine lv_goto (tgt := 32) hx hb (dk_at dkX4_changesAt 20 rfl) (by decide) ?_
    exact W.zret (v := 1) hx hb hr (by decide) (fun t ht hW => ⟨⟨1, (), rfl, ⟨(gi_w (gi_c 1 1 (by decide)) (by decide)), hF.trans hR9.symm⟩, trivial⟩, hS.F ht⟩) hS.2.2 (dk_at dkX4_changesAt 22 rfl)
noncomputable def lsX4_changesOf : List (Nat × Instr × Nat) := [(0, .iconst 0, 1), (1, .istore_n 2, 1), (2, .iconst 1, 1), (3, .istore_n 3, 1), (4, .iload_n 3, 1), (5, .aload_n 0, 1), (6, .getfield 18, 3), (9, .if_icmp .ge 21, 3), (12, .aload_n 0, 1), (13, .iload_n 3, 1), (14, .iload_n 1, 1), (15, .invokevirtual 41, 3), (18, .ifCond .eq 6, 3), (21, .iinc 2 1, 3), (24, .iinc 3 1, 3), (27, .goto (-23), 3), (30, .iload_n 2, 1), (31, .ireturn, 1)]
theorem dkX4_changesOf : dkAll cX4_changesOf lsX4_changesOf = true := dk_fast (by decide +kernel)
noncomputable def bfX4_changesOf_24 (eras : Int32) (fhb_ : Nat → Int32) (p0 : Int32) (K : (Int32 → Int32 → Int32)) (v2 : Int32) (v3 : Int32) : Int32 := K v2 (v3 + (1 : Int32))
noncomputable def dfX4_changesOf_4 (eras : Int32) (fhb_ : Nat → Int32) (p0 : Int32) (K : (Int32 → Int32 → Int32)) (v2 : Int32) (v3 : Int32) : Int32 := if eras ≤ v3 then v2 else (cal (fun o1 => if o1 = (0 : Int32) then (bfX4_changesOf_24 eras fhb_ p0 K v2 v3) else (bfX4_changesOf_24 eras fhb_ p0 K (v2 + (1 : Int32)) v3)) (fX4_changesAt fhb_ v3 p0))
noncomputable def lfX4_changesOf (eras : Int32) (fhb_ : Nat → Int32) (p0 : Int32) (z : Nat) : (Int32 → Int32 → Int32) := Nat.rec (motive := fun _ => (Int32 → Int32 → Int32)) (fun _ _ => (0)) (fun _ K => dfX4_changesOf_4 eras fhb_ p0 K) z
noncomputable def fX4_changesOf (eras : Int32) (fhb_ : Nat → Int32) (p0 : Int32) : Int32 := (lfX4_changesOf eras fhb_ p0 1000000000) (0 : Int32) (1 : Int32)
set_option maxHeartbeats 4000000 in
set_option maxRecDepth 100000 in
theorem lp_sX4_changesOf {p : Program} {l : Launch} {e : Env} {R : Room} {s : State} {m : MethodId} {args : Array Value} {below : List Frame} {meth : Method} {c : Code} {Q : State → Prop} {A : Nat → Prop} {cells slots : Nat} {dC : Nat → ClassId} {dI : Nat → Nat → Nat} {RES : Int32} (h0 : Nat) (hb_ : Nat) (si : Nat) (eras : Int32) (khb_ : ClassId) (fhb_ : Nat → Int32) (p0 : Int32) (geras : gi eras 0 25) (gp0 : gi p0 0 24) (hx : p.tables.exec = Jvm.exec) (hb : c.code = cX4_changesOf) (hml : c.maxLocals = 4) (hown : s.vm.findClass RX4 = some m.cls) (hts : ∀ w ∈ ((.code yX4_changesOf cX4_changesOf 4 (some .int) :: wsGA) : List Cond), w.before args s = true) (hK : va_K (dC, dI) vwCl [(khb_, .int)] s) (hz : nzA s) (hRf : 1 ≤ R.frames) (hRl : 22 ≤ R.locals) (hRc : cells ≤ R.cells) (hRs : slots ≤ R.slots) (kr31 : ∀ (v : Int32) (H : Heap) (locs : List Loc) (ls : Array Slot), v = RES → va_P (dC, dI) vwCl [(h0, .inr (4, [.ref si, .ref hb_, .int eras])), (hb_, .inl (khb_, 625, .inl fhb_))] H → va_S A s.heap H locs → lv_has ls 4 [] → W p l e R s m args below meth c H locs cells slots Q (F0 m 31 ls [.int v])) : ∀ z : Nat, (∀ (v2 : Int32) (v3 : Int32) (H : Heap) (locs : List Loc) (ls : Array Slot), gi v3 1 25 → (lfX4_changesOf eras fhb_ p0 z) v2 v3 = RES → 51 + (-2) * v3.toInt < (z : Int) → va_P (dC, dI) vwCl [(h0, .inr (4, [.ref si, .ref hb_, .int eras])), (hb_, .inl (khb_, 625, .inl fhb_))] H → va_S A s.heap H locs → lv_has ls 4 [(0, .ref h0), (1, .int p0), (2, .int v2), (3, .int v3)] → W p l e R s m args below meth c H locs cells slots Q (F0 m 4 ls [])) := by
  intro z
  induction z with
  | zero =>
    intro v2 v3 H locs ls gv3 hF hmu hP hS hl
    exact absurd hmu (by have hv31 := gv3.1; have hv32 := gv3.2; omega)
  | succ z ih =>
      intro v2 v3 H locs ls gv3 hF hmu hP hS hl
      have hF : dfX4_changesOf_4 eras fhb_ p0 (lfX4_changesOf eras fhb_ p0 z) v2 v3 = RES := hF
      refine lv_iload_n hx hb (dk_at dkX4_changesOf 4 rfl) rfl (lv_at hl 3 rfl) ?_
      refine lv_aload_n hx hb (dk_at dkX4_changesOf 5 rfl) rfl (lv_at hl 0 rfl) ?_
      refine va_get (D := (dC, dI)) (ci := 4) (v := .int eras) (C := RX4) (T := TX4) (N := 3) hx hb hts (fun w h => List.mem_cons_of_mem _ (jnGA_X4 w h)) hown hK hP 0 rfl rfl 2 (by decide) (hts _ (List.mem_cons_of_mem _ mGA_124)) (fun _ h9 => h9) rfl (dk_at dkX4_changesOf 6 rfl) ?_
      refine lv_icmp_ge (tgt := 30) hx hb (dk_at dkX4_changesOf 7 rfl) (by decide) (fun c_391 => ?_) (fun c_391 => ?_)
      · have hF := gf_pos c_391 hF
        refine lv_iload_n hx hb (dk_at dkX4_changesOf 16 rfl) rfl (lv_at hl 2 rfl) ?_
        exact kr31 v2 _ _ _ hF hP hS (lv_sub hl [] rfl)
      · have hF := gf_neg c_391 hF
        have g_392 : gi v3 1 24 := gi_lt_l (Int32.not_le.mp c_391) gv3 geras (by decide)
        have g_393 : gi eras 2 25 := gi_lt_r (Int32.not_le.mp c_391) gv3 geras (by decide)
        refine lv_aload_n hx hb (dk_at dkX4_changesOf 8 rfl) rfl (lv_at hl 0 rfl) ?_
        refine lv_iload_n hx hb (dk_at dkX4_changesOf 9 rfl) rfl (lv_at hl 3 rfl) ?_
        refine lv_iload_n hx hb (dk_at dkX4_changesOf 10 rfl) rfl (lv_at hl 1 rfl) ?_
        refine va_calli (va_runV (As := [.int v3, .int p0]) (rest := []) ⟨hx, hb, hml, hown, hts⟩ (sX4_changesAt l dC dI h0 hb_ si eras khb_ fhb_ v3 p0 (gi_w g_393 (by decide)) g_392 gp0) (cwV 2 hts (gz_gV mGA_723 mGA_724 mGA_725 mGA_35 mGA_726 goodGA) rfl rfl rfl hdV_X4_changesAt_X4_2 ⟨Nat.le_trans (Nat.le_of_ble_eq_true rfl) hRf, Nat.le_trans (Nat.le_of_ble_eq_true rfl) hRl⟩) ⟨bl_I (bl_a bl_P (bl_a bl_K bl_nz)), va_recv hK hP (ci := 4) (q0 := 0) rfl rfl, fun U hU hW => ⟨rfl, by rw [hU]; exact hP, va_K.moved hW.alike hK, nzA_warm hW hz⟩⟩ rfl rfl hl.1 rfl (lv_room (Nat.le_of_ble_eq_true rfl)) (dk_at dkX4_changesOf 11 rfl) ⟨hRc, hRs⟩) hS (fun q _ h => h.elim) (fun q h => h.elim) (fun r_394 u t H1 locs ht hvm hw hB hz1 hk1 hS => ?_)
        obtain ⟨hw, hE⟩ := hw
        have hP := gz_keep hP hk1
        have hF := gf_call (a := r_394) hE hF
        generalize H1 = H at hP hS ⊢
        have gr_394 : gi r_394 0 1 := hw
        refine lv_if_eq (tgt := 24) hx hb (dk_at dkX4_changesOf 12 rfl) (by decide) (fun c_395 => ?_) (fun c_395 => ?_)
        · have hF := gf_pos c_395 hF
          have g_396 : gi r_394 0 0 := gi_eq c_395 (gi_c 0 0 (by decide))
          obtain ⟨x_397, ex_397⟩ : ∃ y : Int32, y = v3 + 1 := ⟨_, rfl⟩
          have gx_397 : gi x_397 2 25 := gi_add ex_397 g_392 (gi_c 1 1 (by decide)) (by decide)
          refine lv_iinc (v := x_397) (lv' := [(3, .int x_397), (0, .ref h0), (1, .int p0), (2, .int v2)]) hx hb (dk_at dkX4_changesOf 14 rfl) hl (k := 3) rfl (by rw [ex_397]; rfl) (by decide) rfl (fun ls hl => ?_)
          refine lv_goto (tgt := 4) hx hb (dk_at dkX4_changesOf 15 rfl) (by decide) ?_
          exact ih v2 x_397 _ _ _ (gi_w gx_397 (by decide)) (by first | (rw [ex_397]; exact hF) | ((try rw [ex_397]); exact hF)) (by have av3 := gv3.1; have bv3 := gv3.2; have qgx_397 := gx_397.1; have rgx_397 := gx_397.2; have igx_397 : x_397.toInt = v3.toInt + 1 := (by have hc1 : (1 : Int32).toInt = 1 := (by decide); have h9 := gi_addE ex_397 g_392 (gi_c 1 1 (by decide)) (by decide); rw [hc1] at h9; exact h9); have qgv3 := g_392.1; have rgv3 := g_392.2; omega) hP hS (lv_sub hl [1, 2, 3, 0] rfl)
        · have hF := gf_neg c_395 hF
          have g_398 : gi r_394 1 1 := gi_ne_lo c_395 gr_394 (gi_c 0 0 (by decide)) (by decide)
          obtain ⟨x_399, ex_399⟩ : ∃ y : Int32, y = v2 + 1 := ⟨_, rfl⟩
          refine lv_iinc (v := x_399) (lv' := [(2, .int x_399), (0, .ref h0), (1, .int p0), (3, .int v3)]) hx hb (dk_at dkX4_changesOf 13 rfl) hl (k := 2) rfl (by rw [ex_399]; rfl) (by decide) rfl (fun ls hl => ?_)
          obtain ⟨x_400, ex_400⟩ : ∃ y : Int32, y = v3 + 1 := ⟨_, rfl⟩
          have gx_400 : gi x_400 2 25 := gi_add ex_400 g_392 (gi_c 1 1 (by decide)) (by decide)
          refine lv_iinc (v := x_400) (lv' := [(3, .int x_400), (2, .int x_399), (0, .ref h0), (1, .int p0)]) hx hb (dk_at dkX4_changesOf 14 rfl) hl (k := 3) rfl (by rw [ex_400]; rfl) (by decide) rfl (fun ls hl => ?_)
          refine lv_goto (tgt := 4) hx hb (dk_at dkX4_changesOf 15 rfl) (by decide) ?_
          exact ih x_399 x_400 _ _ _ (gi_w gx_400 (by decide)) (by first | (rw [ex_400, ex_399]; exact hF) | ((try rw [ex_400]); (try rw [ex_399]); exact hF)) (by have av3 := gv3.1; have bv3 := gv3.2; have qgx_400 := gx_400.1; have rgx_400 := gx_400.2; have igx_400 : x_400.toInt = v3.toInt + 1 := (by have hc1 : (1 : Int32).toInt = 1 := (by decide); have h9 := gi_addE ex_400 g_392 (gi_c 1 1 (by decide)) (by decide); rw [hc1] at h9; exact h9); have qgv3 := g_392.1; have rgv3 := g_392.2; omega) hP hS (lv_sub hl [2, 3, 1, 0] rfl)
set_option maxHeartbeats 4000000 in
set_option maxRecDepth 100000 in
theorem sX4_changesOf (l : Launch) (dC : Nat → ClassId) (dI : Nat → Nat → Nat) (h0 : Nat) (hb_ : Nat) (si : Nat) (eras : Int32) (khb_ : ClassId) (fhb_ : Nat → Int32) (p0 : Int32) (geras : gi eras 0 25) (gp0 : gi p0 0 24) : Met l yX4_changesOf (.code yX4_changesOf cX4_changesOf 4 (some .int) :: wsGA) ({ frames := 1, cells := 0, slots := 0, locals := 22 }) (va_Pc [.ref h0, .int p0] (fun U => va_P (dC, dI) vwCl [(h0, .inr (4, [.ref si, .ref hb_, .int eras])), (hb_, .inl (khb_, 625, .inl fhb_))] U.heap ∧ va_K (dC, dI) vwCl [(khb_, .int)] U ∧ nzA U)) (va_Qi (fun (r : Int32) (u : Unit) => (gi r (-2147483648) 2147483647) ∧ r = fX4_changesOf eras fhb_ p0) (fun _ _ => True) (fun _ => False)) 0 0 (fun _ => False) := by
  refine Met.ofW (cc := cX4_changesOf) (maxL := 4) (ret := (some .int)) (by decide) rfl ?_
  intro p e s m args below meth c s₁ B hml hv
  obtain ⟨rfl, hP, hK, hz⟩ := hv
  have hx := B.exec
  have hb := B.bytes
  have hr := B.returns
  have hts := atoms_spec (ws := (.code yX4_changesOf cX4_changesOf 4 (some .int) :: wsGA)) B.pre
  have hown : s.vm.findClass RX4 = some m.cls := findClass_of_methodNamed B.named
  have hlocks := B.notSynchronized
  have hS : va_S (fun _ => False) s.heap s.heap [] := va_S.rf
  have hl := lv_entry ([.ref h0, .int p0]) (n := 4) (Nat.le_of_ble_eq_true rfl)
  rw [lg_entry_eq]
  generalize (lg_sl ([.ref h0, .int p0]) ++ List.replicate (4 - (lg_sl ([.ref h0, .int p0])).length) Slot.unset).toArray = ls at hl ⊢
  have hl : lv_has ls 4 [(0, .ref h0), (1, .int p0)] := hl
  obtain ⟨RES, hF⟩ : ∃ R9, fX4_changesOf eras fhb_ p0 = R9 := ⟨_, rfl⟩
  have hR9 := hF
  refine lv_iconst (v := 0) hx hb (dk_at dkX4_changesOf 0 rfl) (by decide) ?_
  refine lv_istore_n (lv' := [(2, .int 0), (0, .ref h0), (1, .int p0)]) hx hb (dk_at dkX4_changesOf 1 rfl) rfl hl (by decide) rfl (fun ls hl => ?_)
  refine lv_iconst (v := 1) hx hb (dk_at dkX4_changesOf 2 rfl) (by decide) ?_
  refine lv_istore_n (lv' := [(3, .int 1), (2, .int 0), (0, .ref h0), (1, .int p0)]) hx hb (dk_at dkX4_changesOf 3 rfl) rfl hl (by decide) rfl (fun ls hl => ?_)
  refine (lp_sX4_changesOf h0 hb_ si eras khb_ fhb_ p0 geras gp0 hx hb hml hown hts hK hz (Nat.le_of_ble_eq_true rfl) (Nat.le_of_ble_eq_true rfl) (Nat.zero_le _) (Nat.zero_le _) (fun v H locs ls hF hP hS hl => ?_) 1000000000) 0 1 _ _ _ (gi_w (gi_c 1 1 (by decide)) (by decide)) hF (by have k1 : (1 : Int32).toInt = 1 := (by decide); omega) hP hS (lv_sub hl [2, 3, 1, 0] rfl)
  · skip
    exact W.iret (v := v) hx hb hr (fun t ht hW => ⟨⟨v, (), rfl, ⟨(gi_any v), hF.trans hR9.symm⟩, trivial⟩, hS.F ht⟩) hS.2.2 (dk_at dkX4_changesOf 17 rfl)
noncomputable def lsX4_lastChangeOf : List (Nat × Instr × Nat) := [(0, .aload_n 0, 1), (1, .getfield 18, 3), (4, .iconst 1, 1), (5, .isub, 1), (6, .istore_n 2, 1), (7, .iload_n 2, 1), (8, .iconst 1, 1), (9, .if_icmp .lt 25, 3), (12, .aload_n 0, 1), (13, .iload_n 2, 1), (14, .iload_n 1, 1), (15, .invokevirtual 41, 3), (18, .ifCond .eq 10, 3), (21, .aload_n 0, 1), (22, .getfield 11, 3), (25, .iload_n 2, 1), (26, .iaload, 1), (27, .ireturn, 1), (28, .iinc 2 (-1), 3), (31, .goto (-24), 3), (34, .iconst 0, 1), (35, .ireturn, 1)]
theorem dkX4_lastChangeOf : dkAll cX4_lastChangeOf lsX4_lastChangeOf = true := dk_fast (by decide +kernel)
noncomputable def dfX4_lastChangeOf_7 (eras : Int32) (fsi : Nat → Int32) (fhb_ : Nat → Int32) (p0 : Int32) (K : (Int32 → Int32)) (v2 : Int32) : Int32 := if v2 < (1 : Int32) then (0 : Int32) else (cal (fun o1 => if o1 = (0 : Int32) then (K (v2 + (-1 : Int32))) else (fsi v2.toNatClampNeg)) (fX4_changesAt fhb_ v2 p0))
noncomputable def lfX4_lastChangeOf (eras : Int32) (fsi : Nat → Int32) (fhb_ : Nat → Int32) (p0 : Int32) (z : Nat) : (Int32 → Int32) := Nat.rec (motive := fun _ => (Int32 → Int32)) (fun _ => (0)) (fun _ K => dfX4_lastChangeOf_7 eras fsi fhb_ p0 K) z
noncomputable def fX4_lastChangeOf (eras : Int32) (fsi : Nat → Int32) (fhb_ : Nat → Int32) (p0 : Int32) : Int32 := (lfX4_lastChangeOf eras fsi fhb_ p0 1000000000) (eras - (1 : Int32))
set_option maxHeartbeats 4000000 in
set_option maxRecDepth 100000 in
theorem lp_sX4_lastChangeOf {p : Program} {l : Launch} {e : Env} {R : Room} {s : State} {m : MethodId} {args : Array Value} {below : List Frame} {meth : Method} {c : Code} {Q : State → Prop} {A : Nat → Prop} {cells slots : Nat} {dC : Nat → ClassId} {dI : Nat → Nat → Nat} {RES : Int32} (h0 : Nat) (si : Nat) (hb_ : Nat) (eras : Int32) (ksi : ClassId) (fsi : Nat → Int32) (khb_ : ClassId) (fhb_ : Nat → Int32) (p0 : Int32) (geras : gi eras 0 25) (gp0 : gi p0 0 24) (hx : p.tables.exec = Jvm.exec) (hb : c.code = cX4_lastChangeOf) (hml : c.maxLocals = 3) (hown : s.vm.findClass RX4 = some m.cls) (hts : ∀ w ∈ ((.code yX4_lastChangeOf cX4_lastChangeOf 3 (some .int) :: wsGA) : List Cond), w.before args s = true) (hK : va_K (dC, dI) vwCl [(ksi, .int), (khb_, .int)] s) (hz : nzA s) (hRf : 1 ≤ R.frames) (hRl : 22 ≤ R.locals) (hRc : cells ≤ R.cells) (hRs : slots ≤ R.slots) (kr35 : ∀ (v : Int32) (H : Heap) (locs : List Loc) (ls : Array Slot), gi v 0 0 → v = RES → va_P (dC, dI) vwCl [(h0, .inr (4, [.ref si, .ref hb_, .int eras])), (si, .inl (ksi, 25, .inl fsi)), (hb_, .inl (khb_, 625, .inl fhb_))] H → va_S A s.heap H locs → lv_has ls 3 [] → W p l e R s m args below meth c H locs cells slots Q (F0 m 35 ls [.int v])) (kr27 : ∀ (v : Int32) (H : Heap) (locs : List Loc) (ls : Array Slot), v = RES → va_P (dC, dI) vwCl [(h0, .inr (4, [.ref si, .ref hb_, .int eras])), (si, .inl (ksi, 25, .inl fsi)), (hb_, .inl (khb_, 625, .inl fhb_))] H → va_S A s.heap H locs → lv_has ls 3 [] → W p l e R s m args below meth c H locs cells slots Q (F0 m 27 ls [.int v])) : ∀ z : Nat, (∀ (v2 : Int32) (H : Heap) (locs : List Loc) (ls : Array Slot), gi v2 (-1) 24 → (lfX4_lastChangeOf eras fsi fhb_ p0 z) v2 = RES → 3 + 2 * v2.toInt < (z : Int) → va_P (dC, dI) vwCl [(h0, .inr (4, [.ref si, .ref hb_, .int eras])), (si, .inl (ksi, 25, .inl fsi)), (hb_, .inl (khb_, 625, .inl fhb_))] H → va_S A s.heap H locs → lv_has ls 3 [(0, .ref h0), (1, .int p0), (2, .int v2)] → W p l e R s m args below meth c H locs cells slots Q (F0 m 7 ls [])) := by
  intro z
  induction z with
  | zero =>
    intro v2 H locs ls gv2 hF hmu hP hS hl
    exact absurd hmu (by have hv21 := gv2.1; have hv22 := gv2.2; omega)
  | succ z ih =>
      intro v2 H locs ls gv2 hF hmu hP hS hl
      have hF : dfX4_lastChangeOf_7 eras fsi fhb_ p0 (lfX4_lastChangeOf eras fsi fhb_ p0 z) v2 = RES := hF
      refine lv_iload_n hx hb (dk_at dkX4_lastChangeOf 5 rfl) rfl (lv_at hl 2 rfl) ?_
      refine lv_iconst (v := 1) hx hb (dk_at dkX4_lastChangeOf 6 rfl) (by decide) ?_
      refine lv_icmp_lt (tgt := 34) hx hb (dk_at dkX4_lastChangeOf 7 rfl) (by decide) (fun c_21 => ?_) (fun c_21 => ?_)
      · have hF := gf_pos c_21 hF
        have g_22 : gi v2 (-1) 0 := gi_lt_l c_21 gv2 (gi_c 1 1 (by decide)) (by decide)
        refine lv_iconst (v := 0) hx hb (dk_at dkX4_lastChangeOf 20 rfl) (by decide) ?_
        exact kr35 0 _ _ _ (gi_c 0 0 (by decide)) hF hP hS (lv_sub hl [] rfl)
      · have hF := gf_neg c_21 hF
        have g_23 : gi v2 1 24 := gi_le_r (Int32.not_lt.mp c_21) (gi_c 1 1 (by decide)) gv2
        refine lv_aload_n hx hb (dk_at dkX4_lastChangeOf 8 rfl) rfl (lv_at hl 0 rfl) ?_
        refine lv_iload_n hx hb (dk_at dkX4_lastChangeOf 9 rfl) rfl (lv_at hl 2 rfl) ?_
        refine lv_iload_n hx hb (dk_at dkX4_lastChangeOf 10 rfl) rfl (lv_at hl 1 rfl) ?_
        have hPc := hP.sub (ws' := [(h0, .inr (4, [.ref si, .ref hb_, .int eras])), (hb_, .inl (khb_, 625, .inl fhb_))]) [0, 2] rfl
        have hKc := hK.sub (tys' := [(khb_, .int)]) [1] rfl
        refine va_calli (va_runV (As := [.int v2, .int p0]) (rest := []) ⟨hx, hb, hml, hown, hts⟩ (sX4_changesAt l dC dI h0 hb_ si eras khb_ fhb_ v2 p0 geras g_23 gp0) (cwV 2 hts (gz_gV mGA_723 mGA_724 mGA_725 mGA_35 mGA_726 goodGA) rfl rfl rfl hdV_X4_changesAt_X4_2 ⟨Nat.le_trans (Nat.le_of_ble_eq_true rfl) hRf, Nat.le_trans (Nat.le_of_ble_eq_true rfl) hRl⟩) ⟨bl_I (bl_a bl_P (bl_a bl_K bl_nz)), va_recv hKc hPc (ci := 4) (q0 := 0) rfl rfl, fun U hU hW => ⟨rfl, by rw [hU]; exact hPc, va_K.moved hW.alike hKc, nzA_warm hW hz⟩⟩ rfl rfl hl.1 rfl (lv_room (Nat.le_of_ble_eq_true rfl)) (dk_at dkX4_lastChangeOf 11 rfl) ⟨hRc, hRs⟩) hS (fun q _ h => h.elim) (fun q h => h.elim) (fun r_24 u t H1 locs ht hvm hw hB hz1 hk1 hS => ?_)
        obtain ⟨hw, hE⟩ := hw
        have hP := gz_keep hP hk1
        have hF := gf_call (a := r_24) hE hF
        generalize H1 = H at hP hS ⊢
        have gr_24 : gi r_24 0 1 := hw
        refine lv_if_eq (tgt := 28) hx hb (dk_at dkX4_lastChangeOf 12 rfl) (by decide) (fun c_25 => ?_) (fun c_25 => ?_)
        · have hF := gf_pos c_25 hF
          have g_26 : gi r_24 0 0 := gi_eq c_25 (gi_c 0 0 (by decide))
          obtain ⟨x_27, ex_27⟩ : ∃ y : Int32, y = v2 + (-1) := ⟨_, rfl⟩
          have gx_27 : gi x_27 0 23 := gi_add ex_27 g_23 (gi_c (-1) (-1) (by decide)) (by decide)
          refine lv_iinc (v := x_27) (lv' := [(2, .int x_27), (0, .ref h0), (1, .int p0)]) hx hb (dk_at dkX4_lastChangeOf 18 rfl) hl (k := 2) rfl (by rw [ex_27]; rfl) (by decide) rfl (fun ls hl => ?_)
          refine lv_goto (tgt := 7) hx hb (dk_at dkX4_lastChangeOf 19 rfl) (by decide) ?_
          exact ih x_27 _ _ _ (gi_w gx_27 (by decide)) (by first | (rw [ex_27]; exact hF) | ((try rw [ex_27]); exact hF)) (by have av2 := gv2.1; have bv2 := gv2.2; have qgx_27 := gx_27.1; have rgx_27 := gx_27.2; have igx_27 : x_27.toInt = v2.toInt + (-1) := (by have hcm1 : ((-1) : Int32).toInt = (-1) := (by decide); have h9 := gi_addE ex_27 g_23 (gi_c (-1) (-1) (by decide)) (by decide); rw [hcm1] at h9; exact h9); have qgv2 := g_23.1; have rgv2 := g_23.2; omega) hP hS (lv_sub hl [1, 2, 0] rfl)
        · have hF := gf_neg c_25 hF
          have g_28 : gi r_24 1 1 := gi_ne_lo c_25 gr_24 (gi_c 0 0 (by decide)) (by decide)
          refine lv_aload_n hx hb (dk_at dkX4_lastChangeOf 13 rfl) rfl (lv_at hl 0 rfl) ?_
          refine va_get (D := (dC, dI)) (ci := 4) (v := .ref si) (C := RX4) (T := TX4) (N := 3) hx hb hts (fun w h => List.mem_cons_of_mem _ (jnGA_X4 w h)) hown hK hP 0 rfl rfl 0 (by decide) (hts _ (List.mem_cons_of_mem _ mGA_122)) (fun _ h9 => h9) rfl (dk_at dkX4_lastChangeOf 14 rfl) ?_
          refine lv_iload_n hx hb (dk_at dkX4_lastChangeOf 15 rfl) rfl (lv_at hl 2 rfl) ?_
          refine va_iald hx hb hK hP 1 0 rfl rfl (gi_in g_23 (by decide)) (dk_at dkX4_lastChangeOf 16 rfl) ?_
          refine lv_topi (fun x_29 ex_29 => ?_)
          exact kr27 x_29 _ _ _ (by first | (rw [ex_29]; exact hF) | ((try rw [ex_29]); exact hF)) hP hS (lv_sub hl [] rfl)
set_option maxHeartbeats 4000000 in
set_option maxRecDepth 100000 in
theorem sX4_lastChangeOf (l : Launch) (dC : Nat → ClassId) (dI : Nat → Nat → Nat) (h0 : Nat) (si : Nat) (hb_ : Nat) (eras : Int32) (ksi : ClassId) (fsi : Nat → Int32) (khb_ : ClassId) (fhb_ : Nat → Int32) (p0 : Int32) (geras : gi eras 0 25) (gp0 : gi p0 0 24) : Met l yX4_lastChangeOf (.code yX4_lastChangeOf cX4_lastChangeOf 3 (some .int) :: wsGA) ({ frames := 1, cells := 0, slots := 0, locals := 22 }) (va_Pc [.ref h0, .int p0] (fun U => va_P (dC, dI) vwCl [(h0, .inr (4, [.ref si, .ref hb_, .int eras])), (si, .inl (ksi, 25, .inl fsi)), (hb_, .inl (khb_, 625, .inl fhb_))] U.heap ∧ va_K (dC, dI) vwCl [(ksi, .int), (khb_, .int)] U ∧ nzA U)) (va_Qi (fun (r : Int32) (u : Unit) => (gi r (-2147483648) 2147483647) ∧ r = fX4_lastChangeOf eras fsi fhb_ p0) (fun _ _ => True) (fun _ => False)) 0 0 (fun _ => False) := by
  refine Met.ofW (cc := cX4_lastChangeOf) (maxL := 3) (ret := (some .int)) (by decide) rfl ?_
  intro p e s m args below meth c s₁ B hml hv
  obtain ⟨rfl, hP, hK, hz⟩ := hv
  have hx := B.exec
  have hb := B.bytes
  have hr := B.returns
  have hts := atoms_spec (ws := (.code yX4_lastChangeOf cX4_lastChangeOf 3 (some .int) :: wsGA)) B.pre
  have hown : s.vm.findClass RX4 = some m.cls := findClass_of_methodNamed B.named
  have hlocks := B.notSynchronized
  have hS : va_S (fun _ => False) s.heap s.heap [] := va_S.rf
  have hl := lv_entry ([.ref h0, .int p0]) (n := 3) (Nat.le_of_ble_eq_true rfl)
  rw [lg_entry_eq]
  generalize (lg_sl ([.ref h0, .int p0]) ++ List.replicate (3 - (lg_sl ([.ref h0, .int p0])).length) Slot.unset).toArray = ls at hl ⊢
  have hl : lv_has ls 3 [(0, .ref h0), (1, .int p0)] := hl
  obtain ⟨RES, hF⟩ : ∃ R9, fX4_lastChangeOf eras fsi fhb_ p0 = R9 := ⟨_, rfl⟩
  have hR9 := hF
  refine lv_aload_n hx hb (dk_at dkX4_lastChangeOf 0 rfl) rfl (lv_at hl 0 rfl) ?_
  refine va_get (D := (dC, dI)) (ci := 4) (v := .int eras) (C := RX4) (T := TX4) (N := 3) hx hb hts (fun w h => List.mem_cons_of_mem _ (jnGA_X4 w h)) hown hK hP 0 rfl rfl 2 (by decide) (hts _ (List.mem_cons_of_mem _ mGA_124)) (fun _ h9 => h9) rfl (dk_at dkX4_lastChangeOf 1 rfl) ?_
  refine lv_iconst (v := 1) hx hb (dk_at dkX4_lastChangeOf 2 rfl) (by decide) ?_
  refine lv_isub hx hb (dk_at dkX4_lastChangeOf 3 rfl) ?_
  refine lv_topi (fun x_30 ex_30 => ?_)
  have gx_30 : gi x_30 (-1) 24 := gi_sub ex_30 geras (gi_c 1 1 (by decide)) (by decide)
  refine lv_istore_n (lv' := [(2, .int x_30), (0, .ref h0), (1, .int p0)]) hx hb (dk_at dkX4_lastChangeOf 4 rfl) rfl hl (by decide) rfl (fun ls hl => ?_)
  refine (lp_sX4_lastChangeOf (RES := RES) h0 si hb_ eras ksi fsi khb_ fhb_ p0 geras gp0 hx hb hml hown hts hK hz (Nat.le_of_ble_eq_true rfl) (Nat.le_of_ble_eq_true rfl) (Nat.zero_le _) (Nat.zero_le _) (fun v H locs ls gv hF hP hS hl => ?_) (fun v H locs ls hF hP hS hl => ?_) 1000000000) x_30 _ _ _ gx_30 (by first | (rw [ex_30]; exact hF) | ((try rw [ex_30]); exact hF)) (by have qgx_30 := gx_30.1; have rgx_30 := gx_30.2; have igx_30 : x_30.toInt = eras.toInt - 1 := (by have hc1 : (1 : Int32).toInt = 1 := (by decide); have h9 := gi_subE ex_30 geras (gi_c 1 1 (by decide)) (by decide); rw [hc1] at h9; exact h9); have qgeras := geras.1; have rgeras := geras.2; omega) hP hS (lv_sub hl [1, 2, 0] rfl)
  · skip
    exact W.iret (v := v) hx hb hr (fun t ht hW => ⟨⟨v, (), rfl, ⟨(gi_any v), hF.trans hR9.symm⟩, trivial⟩, hS.F ht⟩) hS.2.2 (dk_at dkX4_lastChangeOf 21 rfl)
  · skip
    exact W.iret (v := v) hx hb hr (fun t ht hW => ⟨⟨v, (), rfl, ⟨(gi_any v), hF.trans hR9.symm⟩, trivial⟩, hS.F ht⟩) hS.2.2 (dk_at dkX4_lastChangeOf 17 rfl)
noncomputable def lsX1_lengthOf : List (Nat × Instr × Nat) := [(0, .aload_n 0, 1), (1, .getfield 29, 3), (4, .iload_n 1, 1), (5, .iconst 1, 1), (6, .iadd, 1), (7, .iaload, 1), (8, .aload_n 0, 1), (9, .getfield 29, 3), (12, .iload_n 1, 1), (13, .iaload, 1), (14, .isub, 1), (15, .ireturn, 1)]
theorem dkX1_lengthOf : dkAll cX1_lengthOf lsX1_lengthOf = true := dk_fast (by decide +kernel)
noncomputable def fX1_lengthOf (fcb : Nat → Int32) (p0 : Int32) : Int32 := ((fcb (p0 + (1 : Int32)).toNatClampNeg) - (fcb p0.toNatClampNeg))
set_option maxHeartbeats 4000000 in
set_option maxRecDepth 100000 in
theorem sX1_lengthOf (l : Launch) (dC : Nat → ClassId) (dI : Nat → Nat → Nat) (h0 : Nat) (cb : Nat) (frame : Nat) (verdicts : Nat) (queue : Nat) (turns : Nat) (queueLength : Int32) (takenBits : Int32) (kcb : ClassId) (fcb : Nat → Int32) (p0 : Int32) (gqueueLength : gi queueLength 0 24) (gp0 : gi p0 0 23) : Met l yX1_lengthOf (.code yX1_lengthOf cX1_lengthOf 2 (some .int) :: wsGA) ({ frames := 0, cells := 0, slots := 0, locals := 0 }) (va_Pc [.ref h0, .int p0] (fun U => va_P (dC, dI) vwCl [(h0, .inr (1, [.ref frame, .ref verdicts, .ref queue, .ref turns, .ref cb, .int queueLength, .int takenBits])), (cb, .inl (kcb, 25, .inl fcb))] U.heap ∧ va_K (dC, dI) vwCl [(kcb, .int)] U ∧ nzA U)) (va_Qi (fun (r : Int32) (u : Unit) => (gi r (-2147483648) 2147483647) ∧ r = fX1_lengthOf fcb p0) (fun _ _ => True) (fun _ => False)) 0 0 (fun _ => False) := by
  refine Met.ofW (cc := cX1_lengthOf) (maxL := 2) (ret := (some .int)) (by decide) rfl ?_
  intro p e s m args below meth c s₁ B hml hv
  obtain ⟨rfl, hP, hK, hz⟩ := hv
  have hx := B.exec
  have hb := B.bytes
  have hr := B.returns
  have hts := atoms_spec (ws := (.code yX1_lengthOf cX1_lengthOf 2 (some .int) :: wsGA)) B.pre
  have hown : s.vm.findClass RX1 = some m.cls := findClass_of_methodNamed B.named
  have hlocks := B.notSynchronized
  have hS : va_S (fun _ => False) s.heap s.heap [] := va_S.rf
  have hl := lv_entry ([.ref h0, .int p0]) (n := 2) (Nat.le_of_ble_eq_true rfl)
  rw [lg_entry_eq]
  generalize (lg_sl ([.ref h0, .int p0]) ++ List.replicate (2 - (lg_sl ([.ref h0, .int p0])).length) Slot.unset).toArray = ls at hl ⊢
  have hl : lv_has ls 2 [(0, .ref h0), (1, .int p0)] := hl
  obtain ⟨RES, hF⟩ : ∃ R9, fX1_lengthOf fcb p0 = R9 := ⟨_, rfl⟩
  have hR9 := hF
  refine lv_aload_n hx hb (dk_at dkX1_lengthOf 0 rfl) rfl (lv_at hl 0 rfl) ?_
  refine va_get (D := (dC, dI)) (ci := 1) (v := .ref cb) (C := RX1) (T := TX1) (N := 7) hx hb hts (fun w h => List.mem_cons_of_mem _ (jnGA_X1 w h)) hown hK hP 0 rfl rfl 4 (by decide) (hts _ (List.mem_cons_of_mem _ mGA_105)) (fun _ h9 => h9) rfl (dk_at dkX1_lengthOf 1 rfl) ?_
  refine lv_iload_n hx hb (dk_at dkX1_lengthOf 2 rfl) rfl (lv_at hl 1 rfl) ?_
  refine lv_iconst (v := 1) hx hb (dk_at dkX1_lengthOf 3 rfl) (by decide) ?_
  refine lv_iadd hx hb (dk_at dkX1_lengthOf 4 rfl) ?_
  refine lv_topi (fun x_5 ex_5 => ?_)
  have gx_5 : gi x_5 1 24 := gi_add ex_5 gp0 (gi_c 1 1 (by decide)) (by decide)
  refine va_iald hx hb hK hP 1 0 rfl rfl (gi_in gx_5 (by decide)) (dk_at dkX1_lengthOf 5 rfl) ?_
  refine lv_topi (fun x_6 ex_6 => ?_)
  refine lv_aload_n hx hb (dk_at dkX1_lengthOf 6 rfl) rfl (lv_at hl 0 rfl) ?_
  refine va_get (D := (dC, dI)) (ci := 1) (v := .ref cb) (C := RX1) (T := TX1) (N := 7) hx hb hts (fun w h => List.mem_cons_of_mem _ (jnGA_X1 w h)) hown hK hP 0 rfl rfl 4 (by decide) (hts _ (List.mem_cons_of_mem _ mGA_105)) (fun _ h9 => h9) rfl (dk_at dkX1_lengthOf 7 rfl) ?_
  refine lv_iload_n hx hb (dk_at dkX1_lengthOf 8 rfl) rfl (lv_at hl 1 rfl) ?_
  refine va_iald hx hb hK hP 1 0 rfl rfl (gi_in gp0 (by decide)) (dk_at dkX1_lengthOf 9 rfl) ?_
  refine lv_topi (fun x_7 ex_7 => ?_)
  refine lv_isub hx hb (dk_at dkX1_lengthOf 10 rfl) ?_
  refine lv_topi (fun x_8 ex_8 => ?_)
  exact W.iret (v := x_8) hx hb hr (fun t ht hW => ⟨⟨x_8, (), rfl, ⟨(gi_any x_8), by first | (rw [ex_8, ex_7, ex_6, ex_5]; exact hF.trans hR9.symm) | ((try rw [ex_8]); (try rw [ex_7]); (try rw [ex_6]); (try rw [ex_5]); exact hF.trans hR9.symm)⟩, trivial⟩, hS.F ht⟩) hS.2.2 (dk_at dkX1_lengthOf 11 rfl)
noncomputable def lsX0_wipe : List (Nat × Instr × Nat) := [(0, .aload_n 0, 1), (1, .iconst 0, 1), (2, .putfield 32, 3), (5, .aload_n 0, 1), (6, .iconst 0, 1), (7, .putfield 36, 3), (10, .aload_n 0, 1), (11, .iconst 0, 1), (12, .putfield 39, 3), (15, .aload_n 0, 1), (16, .iconst 0, 1), (17, .putfield 42, 3), (20, .aload_n 0, 1), (21, .iconst 0, 1), (22, .putfield 45, 3), (25, .aload_n 0, 1), (26, .iconst 0, 1), (27, .putfield 49, 3), (30, .aload_n 0, 1), (31, .iconst 0, 1), (32, .putfield 52, 3), (35, .aload_n 0, 1), (36, .iconst 0, 1), (37, .putfield 55, 3), (40, .aload_n 0, 1), (41, .iconst 0, 1), (42, .putfield 58, 3), (45, .aload_n 0, 1), (46, .iconst 0, 1), (47, .putfield 61, 3), (50, .return_, 1)]
theorem dkX0_wipe : dkAll cX0_wipe lsX0_wipe = true := dk_fast (by decide +kernel)
noncomputable def fX0_wipe : Int32 × Int32 × Int32 × Int32 × Int32 × Int32 × Int32 × Int32 × Int32 × Int32 := ((0 : Int32), (0 : Int32), (0 : Int32), (0 : Int32), (0 : Int32), (0 : Int32), (0 : Int32), (0 : Int32), (0 : Int32), (0 : Int32))
abbrev pb_sX0_wipe (dC : Nat → ClassId) (dI : Nat → Nat → Nat) (A9 : Nat → Prop) (h0 : Nat) (months : Int32) (full : Int32) (lean : Int32) (lines : Int32) (hasMoon : Int32) (moonStart : Int32) (moonStep : Int32) (placeCount : Int32) (reportCount : Int32) (deedCount : Int32) (places : Nat) (reports : Nat) (deeds : Nat) (w0_0 : Int32) (w0_1 : Int32) (w0_2 : Int32) (w0_3 : Int32) (w0_4 : Int32) (w0_5 : Int32) (w0_6 : Int32) (w0_7 : Int32) (w0_8 : Int32) (w0_9 : Int32) (t : State) : Prop := gi w0_0 0 24 ∧ gi w0_1 0 5 ∧ gi w0_2 0 5 ∧ gi w0_4 0 1 ∧ gi w0_7 0 6 ∧ gi w0_8 0 24 ∧ gi w0_9 0 8 ∧ (w0_0, w0_1, w0_2, w0_3, w0_4, w0_5, w0_6, w0_7, w0_8, w0_9) = fX0_wipe ∧ va_P (dC, dI) vwCl [(h0, .inr (0, [.int w0_0, .int w0_1, .int w0_2, .int w0_3, .int w0_4, .int w0_5, .int w0_6, .int w0_7, .int w0_8, .int w0_9, .ref places, .ref reports, .ref deeds]))] t.heap ∧ va_D A9 [(h0, .inr (0, [.int w0_0, .int w0_1, .int w0_2, .int w0_3, .int w0_4, .int w0_5, .int w0_6, .int w0_7, .int w0_8, .int w0_9, .ref places, .ref reports, .ref deeds]))]
set_option maxHeartbeats 4000000 in
set_option maxRecDepth 100000 in
theorem sX0_wipe (l : Launch) (dC : Nat → ClassId) (dI : Nat → Nat → Nat) (sz : Nat) (h0 : Nat) (months : Int32) (full : Int32) (lean : Int32) (lines : Int32) (hasMoon : Int32) (moonStart : Int32) (moonStep : Int32) (placeCount : Int32) (reportCount : Int32) (deedCount : Int32) (places : Nat) (reports : Nat) (deeds : Nat) (gmonths : gi months 0 24) (gfull : gi full 0 5) (glean : gi lean 0 5) (ghasMoon : gi hasMoon 0 1) (gplaceCount : gi placeCount 0 6) (greportCount : gi reportCount 0 24) (gdeedCount : gi deedCount 0 8) : Met l yX0_wipe (.code yX0_wipe cX0_wipe 1 none :: wsGA) ({ frames := 0, cells := 0, slots := 0, locals := 0 }) (va_Pc [.ref h0] (fun U => U.heap.size = sz ∧ va_P (dC, dI) vwCl [(h0, .inr (0, [.int months, .int full, .int lean, .int lines, .int hasMoon, .int moonStart, .int moonStep, .int placeCount, .int reportCount, .int deedCount, .ref places, .ref reports, .ref deeds]))] U.heap ∧ va_K (dC, dI) vwCl [] U ∧ va_D (fun _ => True) [(h0, .inr (0, [.int months, .int full, .int lean, .int lines, .int hasMoon, .int moonStart, .int moonStep, .int placeCount, .int reportCount, .int deedCount, .ref places, .ref reports, .ref deeds]))] ∧ nzA U)) (va_Qv (fun (u : Unit) => True) (fun _ t => ∃ (w0_0 : Int32) (w0_1 : Int32) (w0_2 : Int32) (w0_3 : Int32) (w0_4 : Int32) (w0_5 : Int32) (w0_6 : Int32) (w0_7 : Int32) (w0_8 : Int32) (w0_9 : Int32), pb_sX0_wipe dC dI (va_A [(h0, .inr (0, [.int months, .int full, .int lean, .int lines, .int hasMoon, .int moonStart, .int moonStep, .int placeCount, .int reportCount, .int deedCount, .ref places, .ref reports, .ref deeds]))] sz) h0 months full lean lines hasMoon moonStart moonStep placeCount reportCount deedCount places reports deeds w0_0 w0_1 w0_2 w0_3 w0_4 w0_5 w0_6 w0_7 w0_8 w0_9 t) (va_A [(h0, .inr (0, [.int months, .int full, .int lean, .int lines, .int hasMoon, .int moonStart, .int moonStep, .int placeCount, .int reportCount, .int deedCount, .ref places, .ref reports, .ref deeds]))] sz)) 0 0 (va_A [(h0, .inr (0, [.int months, .int full, .int lean, .int lines, .int hasMoon, .int moonStart, .int moonStep, .int placeCount, .int reportCount, .int deedCount, .ref places, .ref reports, .ref deeds]))] sz) := by
  refine Met.ofW (cc := cX0_wipe) (maxL := 1) (ret := none) (by decide) rfl ?_
  intro p e s m args below meth c s₁ B hml hv
  obtain ⟨rfl, hsz, hP, hK, hD0, hz⟩ := hv
  have hx := B.exec
  have hb := B.bytes
  have hr := B.returns
  have hts := atoms_spec (ws := (.code yX0_wipe cX0_wipe 1 none :: wsGA)) B.pre
  have hown : s.vm.findClass RX0 = some m.cls := findClass_of_methodNamed B.named
  have hlocks := B.notSynchronized
  subst hsz
  have hD := hD0.self (sz := s.heap.size)
  generalize hAe : va_A [(h0, .inr (0, [.int months, .int full, .int lean, .int lines, .int hasMoon, .int moonStart, .int moonStep, .int placeCount, .int reportCount, .int deedCount, .ref places, .ref reports, .ref deeds]))] s.heap.size = A at hD ⊢
  have hA : ∀ q : Nat, s.heap.size ≤ q → A q := fun q h => by rw [← hAe]; exact Or.inr h
  have hS : va_S A s.heap s.heap [] := va_S.rf
  have hl := lv_entry ([.ref h0]) (n := 1) (Nat.le_of_ble_eq_true rfl)
  rw [lg_entry_eq]
  generalize (lg_sl ([.ref h0]) ++ List.replicate (1 - (lg_sl ([.ref h0])).length) Slot.unset).toArray = ls at hl ⊢
  have hl : lv_has ls 1 [(0, .ref h0)] := hl
  obtain ⟨RES, hF⟩ : ∃ R9, fX0_wipe = R9 := ⟨_, rfl⟩
  have hR9 := hF
  refine lv_aload_n hx hb (dk_at dkX0_wipe 0 rfl) rfl (lv_at hl 0 rfl) ?_
  refine lv_iconst (v := 0) hx hb (dk_at dkX0_wipe 1 rfl) (by decide) ?_
  refine va_put (D := (dC, dI)) (ci := 0) (v := .int 0) (ty := .int) (C := RX0) (T := TX0) (N := 13) hx hb hts (fun w h => List.mem_cons_of_mem _ (jnGA_X0 w h)) tyX0 tyX0_ok nmX0 hown hK hP hD hS 0 rfl rfl 0 (by decide) (hts _ (List.mem_cons_of_mem _ mGA_152)) (fun _ h9 => h9) rfl fdX0_0 rfl rfl (Nat.le_of_ble_eq_true rfl) (dk_at dkX0_wipe 2 rfl) (fun H locs hP hD hS => ?_)
  obtain ⟨hP, hD⟩ := gz_both (w := [(h0, .inr (0, [.int 0, .int full, .int lean, .int lines, .int hasMoon, .int moonStart, .int moonStep, .int placeCount, .int reportCount, .int deedCount, .ref places, .ref reports, .ref deeds]))]) hP hD
  refine lv_aload_n hx hb (dk_at dkX0_wipe 3 rfl) rfl (lv_at hl 0 rfl) ?_
  refine lv_iconst (v := 0) hx hb (dk_at dkX0_wipe 4 rfl) (by decide) ?_
  refine va_put (D := (dC, dI)) (ci := 0) (v := .int 0) (ty := .int) (C := RX0) (T := TX0) (N := 13) hx hb hts (fun w h => List.mem_cons_of_mem _ (jnGA_X0 w h)) tyX0 tyX0_ok nmX0 hown hK hP hD hS 0 rfl rfl 1 (by decide) (hts _ (List.mem_cons_of_mem _ mGA_153)) (fun _ h9 => h9) rfl fdX0_1 rfl rfl (Nat.le_of_ble_eq_true rfl) (dk_at dkX0_wipe 5 rfl) (fun H locs hP hD hS => ?_)
  obtain ⟨hP, hD⟩ := gz_both (w := [(h0, .inr (0, [.int 0, .int 0, .int lean, .int lines, .int hasMoon, .int moonStart, .int moonStep, .int placeCount, .int reportCount, .int deedCount, .ref places, .ref reports, .ref deeds]))]) hP hD
  refine lv_aload_n hx hb (dk_at dkX0_wipe 6 rfl) rfl (lv_at hl 0 rfl) ?_
  refine lv_iconst (v := 0) hx hb (dk_at dkX0_wipe 7 rfl) (by decide) ?_
  refine va_put (D := (dC, dI)) (ci := 0) (v := .int 0) (ty := .int) (C := RX0) (T := TX0) (N := 13) hx hb hts (fun w h => List.mem_cons_of_mem _ (jnGA_X0 w h)) tyX0 tyX0_ok nmX0 hown hK hP hD hS 0 rfl rfl 2 (by decide) (hts _ (List.mem_cons_of_mem _ mGA_154)) (fun _ h9 => h9) rfl fdX0_2 rfl rfl (Nat.le_of_ble_eq_true rfl) (dk_at dkX0_wipe 8 rfl) (fun H locs hP hD hS => ?_)
  obtain ⟨hP, hD⟩ := gz_both (w := [(h0, .inr (0, [.int 0, .int 0, .int 0, .int lines, .int hasMoon, .int moonStart, .int moonStep, .int placeCount, .int reportCount, .int deedCount, .ref places, .ref reports, .ref deeds]))]) hP hD
  refine lv_aload_n hx hb (dk_at dkX0_wipe 9 rfl) rfl (lv_at hl 0 rfl) ?_
  refine lv_iconst (v := 0) hx hb (dk_at dkX0_wipe 10 rfl) (by decide) ?_
  refine va_put (D := (dC, dI)) (ci := 0) (v := .int 0) (ty := .int) (C := RX0) (T := TX0) (N := 13) hx hb hts (fun w h => List.mem_cons_of_mem _ (jnGA_X0 w h)) tyX0 tyX0_ok nmX0 hown hK hP hD hS 0 rfl rfl 3 (by decide) (hts _ (List.mem_cons_of_mem _ mGA_155)) (fun _ h9 => h9) rfl fdX0_3 rfl rfl (Nat.le_of_ble_eq_true rfl) (dk_at dkX0_wipe 11 rfl) (fun H locs hP hD hS => ?_)
  obtain ⟨hP, hD⟩ := gz_both (w := [(h0, .inr (0, [.int 0, .int 0, .int 0, .int 0, .int hasMoon, .int moonStart, .int moonStep, .int placeCount, .int reportCount, .int deedCount, .ref places, .ref reports, .ref deeds]))]) hP hD
  refine lv_aload_n hx hb (dk_at dkX0_wipe 12 rfl) rfl (lv_at hl 0 rfl) ?_
  refine lv_iconst (v := 0) hx hb (dk_at dkX0_wipe 13 rfl) (by decide) ?_
  refine va_put (D := (dC, dI)) (ci := 0) (v := .int 0) (ty := .boolean) (C := RX0) (T := TX0) (N := 13) hx hb hts (fun w h => List.mem_cons_of_mem _ (jnGA_X0 w h)) tyX0 tyX0_ok nmX0 hown hK hP hD hS 0 rfl rfl 4 (by decide) (hts _ (List.mem_cons_of_mem _ mGA_156)) (fun _ h9 => h9) rfl fdX0_4 rfl rfl (Nat.le_of_ble_eq_true rfl) (dk_at dkX0_wipe 14 rfl) (fun H locs hP hD hS => ?_)
  obtain ⟨hP, hD⟩ := gz_both (w := [(h0, .inr (0, [.int 0, .int 0, .int 0, .int 0, .int 0, .int moonStart, .int moonStep, .int placeCount, .int reportCount, .int deedCount, .ref places, .ref reports, .ref deeds]))]) hP hD
  refine lv_aload_n hx hb (dk_at dkX0_wipe 15 rfl) rfl (lv_at hl 0 rfl) ?_
  refine lv_iconst (v := 0) hx hb (dk_at dkX0_wipe 16 rfl) (by decide) ?_
  refine va_put (D := (dC, dI)) (ci := 0) (v := .int 0) (ty := .int) (C := RX0) (T := TX0) (N := 13) hx hb hts (fun w h => List.mem_cons_of_mem _ (jnGA_X0 w h)) tyX0 tyX0_ok nmX0 hown hK hP hD hS 0 rfl rfl 5 (by decide) (hts _ (List.mem_cons_of_mem _ mGA_157)) (fun _ h9 => h9) rfl fdX0_5 rfl rfl (Nat.le_of_ble_eq_true rfl) (dk_at dkX0_wipe 17 rfl) (fun H locs hP hD hS => ?_)
  obtain ⟨hP, hD⟩ := gz_both (w := [(h0, .inr (0, [.int 0, .int 0, .int 0, .int 0, .int 0, .int 0, .int moonStep, .int placeCount, .int reportCount, .int deedCount, .ref places, .ref reports, .ref deeds]))]) hP hD
  refine lv_aload_n hx hb (dk_at dkX0_wipe 18 rfl) rfl (lv_at hl 0 rfl) ?_
  refine lv_iconst (v := 0) hx hb (dk_at dkX0_wipe 19 rfl) (by decide) ?_
  refine va_put (D := (dC, dI)) (ci := 0) (v := .int 0) (ty := .int) (C := RX0) (T := TX0) (N := 13) hx hb hts (fun w h => List.mem_cons_of_mem _ (jnGA_X0 w h)) tyX0 tyX0_ok nmX0 hown hK hP hD hS 0 rfl rfl 6 (by decide) (hts _ (List.mem_cons_of_mem _ mGA_158)) (fun _ h9 => h9) rfl fdX0_6 rfl rfl (Nat.le_of_ble_eq_true rfl) (dk_at dkX0_wipe 20 rfl) (fun H locs hP hD hS => ?_)
  obtain ⟨hP, hD⟩ := gz_both (w := [(h0, .inr (0, [.int 0, .int 0, .int 0, .int 0, .int 0, .int 0, .int 0, .int placeCount, .int reportCount, .int deedCount, .ref places, .ref reports, .ref deeds]))]) hP hD
  refine lv_aload_n hx hb (dk_at dkX0_wipe 21 rfl) rfl (lv_at hl 0 rfl) ?_
  refine lv_iconst (v := 0) hx hb (dk_at dkX0_wipe 22 rfl) (by decide) ?_
  refine va_put (D := (dC, dI)) (ci := 0) (v := .int 0) (ty := .int) (C := RX0) (T := TX0) (N := 13) hx hb hts (fun w h => List.mem_cons_of_mem _ (jnGA_X0 w h)) tyX0 tyX0_ok nmX0 hown hK hP hD hS 0 rfl rfl 7 (by decide) (hts _ (List.mem_cons_of_mem _ mGA_159)) (fun _ h9 => h9) rfl fdX0_7 rfl rfl (Nat.le_of_ble_eq_true rfl) (dk_at dkX0_wipe 23 rfl) (fun H locs hP hD hS => ?_)
  obtain ⟨hP, hD⟩ := gz_both (w := [(h0, .inr (0, [.int 0, .int 0, .int 0, .int 0, .int 0, .int 0, .int 0, .int 0, .int reportCount, .int deedCount, .ref places, .ref reports, .ref deeds]))]) hP hD
  refine lv_aload_n hx hb (dk_at dkX0_wipe 24 rfl) rfl (lv_at hl 0 rfl) ?_
  refine lv_iconst (v := 0) hx hb (dk_at dkX0_wipe 25 rfl) (by decide) ?_
  refine va_put (D := (dC, dI)) (ci := 0) (v := .int 0) (ty := .int) (C := RX0) (T := TX0) (N := 13) hx hb hts (fun w h => List.mem_cons_of_mem _ (jnGA_X0 w h)) tyX0 tyX0_ok nmX0 hown hK hP hD hS 0 rfl rfl 8 (by decide) (hts _ (List.mem_cons_of_mem _ mGA_160)) (fun _ h9 => h9) rfl fdX0_8 rfl rfl (Nat.le_of_ble_eq_true rfl) (dk_at dkX0_wipe 26 rfl) (fun H locs hP hD hS => ?_)
  obtain ⟨hP, hD⟩ := gz_both (w := [(h0, .inr (0, [.int 0, .int 0, .int 0, .int 0, .int 0, .int 0, .int 0, .int 0, .int 0, .int deedCount, .ref places, .ref reports, .ref deeds]))]) hP hD
  refine lv_aload_n hx hb (dk_at dkX0_wipe 27 rfl) rfl (lv_at hl 0 rfl) ?_
  refine lv_iconst (v := 0) hx hb (dk_at dkX0_wipe 28 rfl) (by decide) ?_
  refine va_put (D := (dC, dI)) (ci := 0) (v := .int 0) (ty := .int) (C := RX0) (T := TX0) (N := 13) hx hb hts (fun w h => List.mem_cons_of_mem _ (jnGA_X0 w h)) tyX0 tyX0_ok nmX0 hown hK hP hD hS 0 rfl rfl 9 (by decide) (hts _ (List.mem_cons_of_mem _ mGA_161)) (fun _ h9 => h9) rfl fdX0_9 rfl rfl (Nat.le_of_ble_eq_true rfl) (dk_at dkX0_wipe 29 rfl) (fun H locs hP hD hS => ?_)
  obtain ⟨hP, hD⟩ := gz_both (w := [(h0, .inr (0, [.int 0, .int 0, .int 0, .int 0, .int 0, .int 0, .int 0, .int 0, .int 0, .int 0, .ref places, .ref reports, .ref deeds]))]) hP hD
  exact W.vret hx hb hr (fun t ht hW => ⟨⟨(), rfl, trivial, 0, 0, 0, 0, 0, 0, 0, 0, 0, 0, (gi_w (gi_c 0 0 (by decide)) (by decide)), (gi_w (gi_c 0 0 (by decide)) (by decide)), (gi_w (gi_c 0 0 (by decide)) (by decide)), (gi_w (gi_c 0 0 (by decide)) (by decide)), (gi_w (gi_c 0 0 (by decide)) (by decide)), (gi_w (gi_c 0 0 (by decide)) (by decide)), (gi_w (gi_c 0 0 (by decide)) (by decide)), hF.trans hR9.symm, by rw [ht]; exact hP, hD⟩, hS.F ht⟩) hS.2.2 (dk_at dkX0_wipe 30 rfl)
noncomputable def lsX0_setMoon : List (Nat × Instr × Nat) := [(0, .aload_n 0, 1), (1, .iconst 1, 1), (2, .putfield 45, 3), (5, .aload_n 0, 1), (6, .iload_n 1, 1), (7, .putfield 49, 3), (10, .aload_n 0, 1), (11, .iload_n 2, 1), (12, .putfield 52, 3), (15, .return_, 1)]
theorem dkX0_setMoon : dkAll cX0_setMoon lsX0_setMoon = true := dk_fast (by decide +kernel)
noncomputable def fX0_setMoon (p0 : Int32) (p1 : Int32) : Int32 × Int32 × Int32 := ((1 : Int32), p0, p1)
abbrev pb_sX0_setMoon (dC : Nat → ClassId) (dI : Nat → Nat → Nat) (A9 : Nat → Prop) (h0 : Nat) (months : Int32) (full : Int32) (lean : Int32) (lines : Int32) (hasMoon : Int32) (moonStart : Int32) (moonStep : Int32) (placeCount : Int32) (reportCount : Int32) (deedCount : Int32) (places : Nat) (reports : Nat) (deeds : Nat) (p0 : Int32) (p1 : Int32) (w0_4 : Int32) (w0_5 : Int32) (w0_6 : Int32) (t : State) : Prop := gi w0_4 0 1 ∧ (w0_4, w0_5, w0_6) = fX0_setMoon p0 p1 ∧ va_P (dC, dI) vwCl [(h0, .inr (0, [.int months, .int full, .int lean, .int lines, .int w0_4, .int w0_5, .int w0_6, .int placeCount, .int reportCount, .int deedCount, .ref places, .ref reports, .ref deeds]))] t.heap ∧ va_D A9 [(h0, .inr (0, [.int months, .int full, .int lean, .int lines, .int w0_4, .int w0_5, .int w0_6, .int placeCount, .int reportCount, .int deedCount, .ref places, .ref reports, .ref deeds]))]
set_option maxHeartbeats 4000000 in
set_option maxRecDepth 100000 in
theorem sX0_setMoon (l : Launch) (dC : Nat → ClassId) (dI : Nat → Nat → Nat) (sz : Nat) (h0 : Nat) (months : Int32) (full : Int32) (lean : Int32) (lines : Int32) (hasMoon : Int32) (moonStart : Int32) (moonStep : Int32) (placeCount : Int32) (reportCount : Int32) (deedCount : Int32) (places : Nat) (reports : Nat) (deeds : Nat) (p0 : Int32) (p1 : Int32) (gmonths : gi months 0 24) (gfull : gi full 0 5) (glean : gi lean 0 5) (ghasMoon : gi hasMoon 0 1) (gplaceCount : gi placeCount 0 6) (greportCount : gi reportCount 0 24) (gdeedCount : gi deedCount 0 8) : Met l yX0_setMoon (.code yX0_setMoon cX0_setMoon 3 none :: wsGA) ({ frames := 0, cells := 0, slots := 0, locals := 0 }) (va_Pc [.ref h0, .int p0, .int p1] (fun U => U.heap.size = sz ∧ va_P (dC, dI) vwCl [(h0, .inr (0, [.int months, .int full, .int lean, .int lines, .int hasMoon, .int moonStart, .int moonStep, .int placeCount, .int reportCount, .int deedCount, .ref places, .ref reports, .ref deeds]))] U.heap ∧ va_K (dC, dI) vwCl [] U ∧ va_D (fun _ => True) [(h0, .inr (0, [.int months, .int full, .int lean, .int lines, .int hasMoon, .int moonStart, .int moonStep, .int placeCount, .int reportCount, .int deedCount, .ref places, .ref reports, .ref deeds]))] ∧ nzA U)) (va_Qv (fun (u : Unit) => True) (fun _ t => ∃ (w0_4 : Int32) (w0_5 : Int32) (w0_6 : Int32), pb_sX0_setMoon dC dI (va_A [(h0, .inr (0, [.int months, .int full, .int lean, .int lines, .int hasMoon, .int moonStart, .int moonStep, .int placeCount, .int reportCount, .int deedCount, .ref places, .ref reports, .ref deeds]))] sz) h0 months full lean lines hasMoon moonStart moonStep placeCount reportCount deedCount places reports deeds p0 p1 w0_4 w0_5 w0_6 t) (va_A [(h0, .inr (0, [.int months, .int full, .int lean, .int lines, .int hasMoon, .int moonStart, .int moonStep, .int placeCount, .int reportCount, .int deedCount, .ref places, .ref reports, .ref deeds]))] sz)) 0 0 (va_A [(h0, .inr (0, [.int months, .int full, .int lean, .int lines, .int hasMoon, .int moonStart, .int moonStep, .int placeCount, .int reportCount, .int deedCount, .ref places, .ref reports, .ref deeds]))] sz) := by
  refine Met.ofW (cc := cX0_setMoon) (maxL := 3) (ret := none) (by decide) rfl ?_
  intro p e s m args below meth c s₁ B hml hv
  obtain ⟨rfl, hsz, hP, hK, hD0, hz⟩ := hv
  have hx := B.exec
  have hb := B.bytes
  have hr := B.returns
  have hts := atoms_spec (ws := (.code yX0_setMoon cX0_setMoon 3 none :: wsGA)) B.pre
  have hown : s.vm.findClass RX0 = some m.cls := findClass_of_methodNamed B.named
  have hlocks := B.notSynchronized
  subst hsz
  have hD := hD0.self (sz := s.heap.size)
  generalize hAe : va_A [(h0, .inr (0, [.int months, .int full, .int lean, .int lines, .int hasMoon, .int moonStart, .int moonStep, .int placeCount, .int reportCount, .int deedCount, .ref places, .ref reports, .ref deeds]))] s.heap.size = A at hD ⊢
  have hA : ∀ q : Nat, s.heap.size ≤ q → A q := fun q h => by rw [← hAe]; exact Or.inr h
  have hS : va_S A s.heap s.heap [] := va_S.rf
  have hl := lv_entry ([.ref h0, .int p0, .int p1]) (n := 3) (Nat.le_of_ble_eq_true rfl)
  rw [lg_entry_eq]
  generalize (lg_sl ([.ref h0, .int p0, .int p1]) ++ List.replicate (3 - (lg_sl ([.ref h0, .int p0, .int p1])).length) Slot.unset).toArray = ls at hl ⊢
  have hl : lv_has ls 3 [(0, .ref h0), (1, .int p0), (2, .int p1)] := hl
  obtain ⟨RES, hF⟩ : ∃ R9, fX0_setMoon p0 p1 = R9 := ⟨_, rfl⟩
  have hR9 := hF
  refine lv_aload_n hx hb (dk_at dkX0_setMoon 0 rfl) rfl (lv_at hl 0 rfl) ?_
  refine lv_iconst (v := 1) hx hb (dk_at dkX0_setMoon 1 rfl) (by decide) ?_
  refine va_put (D := (dC, dI)) (ci := 0) (v := .int 1) (ty := .boolean) (C := RX0) (T := TX0) (N := 13) hx hb hts (fun w h => List.mem_cons_of_mem _ (jnGA_X0 w h)) tyX0 tyX0_ok nmX0 hown hK hP hD hS 0 rfl rfl 4 (by decide) (hts _ (List.mem_cons_of_mem _ mGA_156)) (fun _ h9 => h9) rfl fdX0_4 rfl rfl (Nat.le_of_ble_eq_true rfl) (dk_at dkX0_setMoon 2 rfl) (fun H locs hP hD hS => ?_)
  obtain ⟨hP, hD⟩ := gz_both (w := [(h0, .inr (0, [.int months, .int full, .int lean, .int lines, .int 1, .int moonStart, .int moonStep, .int placeCount, .int reportCount, .int deedCount, .ref places, .ref reports, .ref deeds]))]) hP hD
  refine lv_aload_n hx hb (dk_at dkX0_setMoon 3 rfl) rfl (lv_at hl 0 rfl) ?_
  refine lv_iload_n hx hb (dk_at dkX0_setMoon 4 rfl) rfl (lv_at hl 1 rfl) ?_
  refine va_put (D := (dC, dI)) (ci := 0) (v := .int p0) (ty := .int) (C := RX0) (T := TX0) (N := 13) hx hb hts (fun w h => List.mem_cons_of_mem _ (jnGA_X0 w h)) tyX0 tyX0_ok nmX0 hown hK hP hD hS 0 rfl rfl 5 (by decide) (hts _ (List.mem_cons_of_mem _ mGA_157)) (fun _ h9 => h9) rfl fdX0_5 rfl rfl (Nat.le_of_ble_eq_true rfl) (dk_at dkX0_setMoon 5 rfl) (fun H locs hP hD hS => ?_)
  obtain ⟨hP, hD⟩ := gz_both (w := [(h0, .inr (0, [.int months, .int full, .int lean, .int lines, .int 1, .int p0, .int moonStep, .int placeCount, .int reportCount, .int deedCount, .ref places, .ref reports, .ref deeds]))]) hP hD
  refine lv_aload_n hx hb (dk_at dkX0_setMoon 6 rfl) rfl (lv_at hl 0 rfl) ?_
  refine lv_iload_n hx hb (dk_at dkX0_setMoon 7 rfl) rfl (lv_at hl 2 rfl) ?_
  refine va_put (D := (dC, dI)) (ci := 0) (v := .int p1) (ty := .int) (C := RX0) (T := TX0) (N := 13) hx hb hts (fun w h => List.mem_cons_of_mem _ (jnGA_X0 w h)) tyX0 tyX0_ok nmX0 hown hK hP hD hS 0 rfl rfl 6 (by decide) (hts _ (List.mem_cons_of_mem _ mGA_158)) (fun _ h9 => h9) rfl fdX0_6 rfl rfl (Nat.le_of_ble_eq_true rfl) (dk_at dkX0_setMoon 8 rfl) (fun H locs hP hD hS => ?_)
  obtain ⟨hP, hD⟩ := gz_both (w := [(h0, .inr (0, [.int months, .int full, .int lean, .int lines, .int 1, .int p0, .int p1, .int placeCount, .int reportCount, .int deedCount, .ref places, .ref reports, .ref deeds]))]) hP hD
  exact W.vret hx hb hr (fun t ht hW => ⟨⟨(), rfl, trivial, 1, p0, p1, (gi_w (gi_c 1 1 (by decide)) (by decide)), hF.trans hR9.symm, by rw [ht]; exact hP, hD⟩, hS.F ht⟩) hS.2.2 (dk_at dkX0_setMoon 9 rfl)
noncomputable def lsX0_earlyOf : List (Nat × Instr × Nat) := [(0, .aload_n 0, 1), (1, .getfield 49, 3), (4, .iload_n 1, 1), (5, .aload_n 0, 1), (6, .getfield 52, 3), (9, .imul, 1), (10, .iadd, 1), (11, .sipush 1000, 3), (14, .idiv, 1), (15, .ireturn, 1)]
theorem dkX0_earlyOf : dkAll cX0_earlyOf lsX0_earlyOf = true := dk_fast (by decide +kernel)
noncomputable def fX0_earlyOf (moonStart : Int32) (moonStep : Int32) (p0 : Int32) : Int32 := ((moonStart + (p0 * moonStep)) / (1000 : Int32))
set_option maxHeartbeats 4000000 in
set_option maxRecDepth 100000 in
theorem sX0_earlyOf (l : Launch) (dC : Nat → ClassId) (dI : Nat → Nat → Nat) (h0 : Nat) (months : Int32) (full : Int32) (lean : Int32) (lines : Int32) (hasMoon : Int32) (moonStart : Int32) (moonStep : Int32) (placeCount : Int32) (reportCount : Int32) (deedCount : Int32) (places : Nat) (reports : Nat) (deeds : Nat) (p0 : Int32) (gmonths : gi months 0 24) (gfull : gi full 0 5) (glean : gi lean 0 5) (ghasMoon : gi hasMoon 0 1) (gplaceCount : gi placeCount 0 6) (greportCount : gi reportCount 0 24) (gdeedCount : gi deedCount 0 8) : Met l yX0_earlyOf (.code yX0_earlyOf cX0_earlyOf 2 (some .int) :: wsGA) ({ frames := 0, cells := 0, slots := 0, locals := 0 }) (va_Pc [.ref h0, .int p0] (fun U => va_P (dC, dI) vwCl [(h0, .inr (0, [.int months, .int full, .int lean, .int lines, .int hasMoon, .int moonStart, .int moonStep, .int placeCount, .int reportCount, .int deedCount, .ref places, .ref reports, .ref deeds]))] U.heap ∧ va_K (dC, dI) vwCl [] U ∧ nzA U)) (va_Qi (fun (r : Int32) (u : Unit) => (gi r (-2147483648) 2147483647) ∧ r = fX0_earlyOf moonStart moonStep p0) (fun _ _ => True) (fun _ => False)) 0 0 (fun _ => False) := by
  refine Met.ofW (cc := cX0_earlyOf) (maxL := 2) (ret := (some .int)) (by decide) rfl ?_
  intro p e s m args below meth c s₁ B hml hv
  obtain ⟨rfl, hP, hK, hz⟩ := hv
  have hx := B.exec
  have hb := B.bytes
  have hr := B.returns
  have hts := atoms_spec (ws := (.code yX0_earlyOf cX0_earlyOf 2 (some .int) :: wsGA)) B.pre
  have hown : s.vm.findClass RX0 = some m.cls := findClass_of_methodNamed B.named
  have hlocks := B.notSynchronized
  have hS : va_S (fun _ => False) s.heap s.heap [] := va_S.rf
  have hl := lv_entry ([.ref h0, .int p0]) (n := 2) (Nat.le_of_ble_eq_true rfl)
  rw [lg_entry_eq]
  generalize (lg_sl ([.ref h0, .int p0]) ++ List.replicate (2 - (lg_sl ([.ref h0, .int p0])).length) Slot.unset).toArray = ls at hl ⊢
  have hl : lv_has ls 2 [(0, .ref h0), (1, .int p0)] := hl
  obtain ⟨RES, hF⟩ : ∃ R9, fX0_earlyOf moonStart moonStep p0 = R9 := ⟨_, rfl⟩
  have hR9 := hF
  refine lv_aload_n hx hb (dk_at dkX0_earlyOf 0 rfl) rfl (lv_at hl 0 rfl) ?_
  refine va_get (D := (dC, dI)) (ci := 0) (v := .int moonStart) (C := RX0) (T := TX0) (N := 13) hx hb hts (fun w h => List.mem_cons_of_mem _ (jnGA_X0 w h)) hown hK hP 0 rfl rfl 5 (by decide) (hts _ (List.mem_cons_of_mem _ mGA_157)) (fun _ h9 => h9) rfl (dk_at dkX0_earlyOf 1 rfl) ?_
  refine lv_iload_n hx hb (dk_at dkX0_earlyOf 2 rfl) rfl (lv_at hl 1 rfl) ?_
  refine lv_aload_n hx hb (dk_at dkX0_earlyOf 3 rfl) rfl (lv_at hl 0 rfl) ?_
  refine va_get (D := (dC, dI)) (ci := 0) (v := .int moonStep) (C := RX0) (T := TX0) (N := 13) hx hb hts (fun w h => List.mem_cons_of_mem _ (jnGA_X0 w h)) hown hK hP 0 rfl rfl 6 (by decide) (hts _ (List.mem_cons_of_mem _ mGA_158)) (fun _ h9 => h9) rfl (dk_at dkX0_earlyOf 4 rfl) ?_
  refine lv_imul hx hb (dk_at dkX0_earlyOf 5 rfl) ?_
  refine lv_topi (fun x_4 ex_4 => ?_)
  refine lv_iadd hx hb (dk_at dkX0_earlyOf 6 rfl) ?_
  refine lv_topi (fun x_5 ex_5 => ?_)
  refine lv_sipush (v := 1000) hx hb (dk_at dkX0_earlyOf 7 rfl) (by decide) ?_
  refine lv_idiv hx hb (dk_at dkX0_earlyOf 8 rfl) (by decide) ?_
  refine lv_topi (fun x_6 ex_6 => ?_)
  exact W.iret (v := x_6) hx hb hr (fun t ht hW => ⟨⟨x_6, (), rfl, ⟨(gi_any x_6), by first | (rw [ex_6, ex_5, ex_4]; exact hF.trans hR9.symm) | ((try rw [ex_6]); (try rw [ex_5]); (try rw [ex_4]); exact hF.trans hR9.symm)⟩, trivial⟩, hS.F ht⟩) hS.2.2 (dk_at dkX0_earlyOf 9 rfl)
noncomputable def lsX10_put : List (Nat × Instr × Nat) := [(0, .aload_n 0, 1), (1, .getfield 15, 3), (4, .sipush 1596, 3), (7, .if_icmp .le 4, 3), (10, .return_, 1), (11, .aload_n 0, 1), (12, .getfield 9, 3), (15, .aload_n 0, 1), (16, .getfield 15, 3), (19, .iload_n 1, 1), (20, .bipush 24, 2), (22, .iushr, 1), (23, .i2b, 1), (24, .bastore, 1), (25, .aload_n 0, 1), (26, .getfield 9, 3), (29, .aload_n 0, 1), (30, .getfield 15, 3), (33, .iconst 1, 1), (34, .iadd, 1), (35, .iload_n 1, 1), (36, .bipush 16, 2), (38, .iushr, 1), (39, .i2b, 1), (40, .bastore, 1), (41, .aload_n 0, 1), (42, .getfield 9, 3), (45, .aload_n 0, 1), (46, .getfield 15, 3), (49, .iconst 2, 1), (50, .iadd, 1), (51, .iload_n 1, 1), (52, .bipush 8, 2), (54, .iushr, 1), (55, .i2b, 1), (56, .bastore, 1), (57, .aload_n 0, 1), (58, .getfield 9, 3), (61, .aload_n 0, 1), (62, .getfield 15, 3), (65, .iconst 3, 1), (66, .iadd, 1), (67, .iload_n 1, 1), (68, .i2b, 1), (69, .bastore, 1), (70, .aload_n 0, 1), (71, .dup, 1), (72, .getfield 15, 3), (75, .iconst 4, 1), (76, .iadd, 1), (77, .putfield 15, 3), (80, .return_, 1)]
theorem dkX10_put : dkAll cX10_put lsX10_put = true := dk_fast (by decide +kernel)
noncomputable def fX10_put (length : Int32) (fbt : Nat → Int32) (p0 : Int32) : Int32 × (Nat → Int32) := if length ≤ (1596 : Int32) then ((length + (4 : Int32)), (upd (upd (upd (upd fbt length.toNatClampNeg (vp_nar .byte (((p0.toUInt32 >>> ((24 : Int32).toUInt32 &&& Int32.toUInt32 31)).toInt32).toInt8.toInt32))) (length + (1 : Int32)).toNatClampNeg (vp_nar .byte (((p0.toUInt32 >>> ((16 : Int32).toUInt32 &&& Int32.toUInt32 31)).toInt32).toInt8.toInt32))) (length + (2 : Int32)).toNatClampNeg (vp_nar .byte (((p0.toUInt32 >>> ((8 : Int32).toUInt32 &&& Int32.toUInt32 31)).toInt32).toInt8.toInt32))) (length + (3 : Int32)).toNatClampNeg (vp_nar .byte (p0.toInt8.toInt32)))) else (length, fbt)
abbrev pb_sX10_put (dC : Nat → ClassId) (dI : Nat → Nat → Nat) (A9 : Nat → Prop) (h0 : Nat) (bt : Nat) (length : Int32) (kbt : ClassId) (fbt : Nat → Int32) (p0 : Int32) (w0_1 : Int32) (z1 : Nat → Int32) (t : State) : Prop := gi w0_1 0 1600 ∧ ((1596 < length.toInt ∧ w0_1.toInt = length.toInt) ∨ (length.toInt ≤ 1596 ∧ w0_1.toInt = length.toInt + 4)) ∧ (w0_1, z1) = fX10_put length fbt p0 ∧ va_P (dC, dI) vwCl [(h0, .inr (10, [.ref bt, .int w0_1])), (bt, .inl (kbt, 1600, .inl z1))] t.heap ∧ va_D A9 [(h0, .inr (10, [.ref bt, .int w0_1])), (bt, .inl (kbt, 1600, .inl z1))]
set_option maxHeartbeats 4000000 in
set_option maxRecDepth 100000 in
theorem sX10_put (l : Launch) (dC : Nat → ClassId) (dI : Nat → Nat → Nat) (sz : Nat) (h0 : Nat) (bt : Nat) (length : Int32) (kbt : ClassId) (fbt : Nat → Int32) (p0 : Int32) (glength : gi length 0 1600) : Met l yX10_put (.code yX10_put cX10_put 2 none :: wsGA) ({ frames := 0, cells := 0, slots := 0, locals := 0 }) (va_Pc [.ref h0, .int p0] (fun U => U.heap.size = sz ∧ va_P (dC, dI) vwCl [(h0, .inr (10, [.ref bt, .int length])), (bt, .inl (kbt, 1600, .inl fbt))] U.heap ∧ va_K (dC, dI) vwCl [(kbt, .byte)] U ∧ va_D (fun _ => True) [(h0, .inr (10, [.ref bt, .int length])), (bt, .inl (kbt, 1600, .inl fbt))] ∧ nzA U)) (va_Qv (fun (u : Unit) => True) (fun _ t => ∃ (w0_1 : Int32) (z1 : Nat → Int32), pb_sX10_put dC dI (va_A [(h0, .inr (10, [.ref bt, .int length])), (bt, .inl (kbt, 1600, .inl fbt))] sz) h0 bt length kbt fbt p0 w0_1 z1 t) (va_A [(h0, .inr (10, [.ref bt, .int length])), (bt, .inl (kbt, 1600, .inl fbt))] sz)) 0 0 (va_A [(h0, .inr (10, [.ref bt, .int length])), (bt, .inl (kbt, 1600, .inl fbt))] sz) := by
  refine Met.ofW (cc := cX10_put) (maxL := 2) (ret := none) (by decide) rfl ?_
  intro p e s m args below meth c s₁ B hml hv
  obtain ⟨rfl, hsz, hP, hK, hD0, hz⟩ := hv
  have hx := B.exec
  have hb := B.bytes
  have hr := B.returns
  have hts := atoms_spec (ws := (.code yX10_put cX10_put 2 none :: wsGA)) B.pre
  have hown : s.vm.findClass RX10 = some m.cls := findClass_of_methodNamed B.named
  have hlocks := B.notSynchronized
  subst hsz
  have hD := hD0.self (sz := s.heap.size)
  generalize hAe : va_A [(h0, .inr (10, [.ref bt, .int length])), (bt, .inl (kbt, 1600, .inl fbt))] s.heap.size = A at hD ⊢
  have hA : ∀ q : Nat, s.heap.size ≤ q → A q := fun q h => by rw [← hAe]; exact Or.inr h
  have hS : va_S A s.heap s.heap [] := va_S.rf
  have hl := lv_entry ([.ref h0, .int p0]) (n := 2) (Nat.le_of_ble_eq_true rfl)
  rw [lg_entry_eq]
  generalize (lg_sl ([.ref h0, .int p0]) ++ List.replicate (2 - (lg_sl ([.ref h0, .int p0])).length) Slot.unset).toArray = ls at hl ⊢
  have hl : lv_has ls 2 [(0, .ref h0), (1, .int p0)] := hl
  obtain ⟨RES, hF⟩ : ∃ R9, fX10_put length fbt p0 = R9 := ⟨_, rfl⟩
  have hR9 := hF
  refine lv_aload_n hx hb (dk_at dkX10_put 0 rfl) rfl (lv_at hl 0 rfl) ?_
  refine va_get (D := (dC, dI)) (ci := 10) (v := .int length) (C := RX10) (T := TX10) (N := 2) hx hb hts (fun w h => List.mem_cons_of_mem _ (jnGA_X10 w h)) hown hK hP 0 rfl rfl 1 (by decide) (hts _ (List.mem_cons_of_mem _ mGA_64)) (fun _ h9 => h9) rfl (dk_at dkX10_put 1 rfl) ?_
  refine lv_sipush (v := 1596) hx hb (dk_at dkX10_put 2 rfl) (by decide) ?_
  refine lv_icmp_le (tgt := 11) hx hb (dk_at dkX10_put 3 rfl) (by decide) (fun c_37 => ?_) (fun c_37 => ?_)
  · have hF := gf_pos c_37 hF
    have g_38 : gi length 0 1596 := gi_le_l c_37 glength (gi_c 1596 1596 (by decide))
    refine lv_aload_n hx hb (dk_at dkX10_put 5 rfl) rfl (lv_at hl 0 rfl) ?_
    refine va_get (D := (dC, dI)) (ci := 10) (v := .ref bt) (C := RX10) (T := TX10) (N := 2) hx hb hts (fun w h => List.mem_cons_of_mem _ (jnGA_X10 w h)) hown hK hP 0 rfl rfl 0 (by decide) (hts _ (List.mem_cons_of_mem _ mGA_63)) (fun _ h9 => h9) rfl (dk_at dkX10_put 6 rfl) ?_
    refine lv_aload_n hx hb (dk_at dkX10_put 7 rfl) rfl (lv_at hl 0 rfl) ?_
    refine va_get (D := (dC, dI)) (ci := 10) (v := .int length) (C := RX10) (T := TX10) (N := 2) hx hb hts (fun w h => List.mem_cons_of_mem _ (jnGA_X10 w h)) hown hK hP 0 rfl rfl 1 (by decide) (hts _ (List.mem_cons_of_mem _ mGA_64)) (fun _ h9 => h9) rfl (dk_at dkX10_put 8 rfl) ?_
    refine lv_iload_n hx hb (dk_at dkX10_put 9 rfl) rfl (lv_at hl 1 rfl) ?_
    refine lv_bipush (v := 24) hx hb (dk_at dkX10_put 10 rfl) (by decide) ?_
    refine lv_iushr hx hb (dk_at dkX10_put 11 rfl) rfl ?_
    refine lv_topi (fun x_39 ex_39 => ?_)
    refine lv_i2b hx hb (dk_at dkX10_put 12 rfl) rfl ?_
    refine lv_topi (fun x_40 ex_40 => ?_)
    refine va_bast hx hb hK hP hD hS 1 0 rfl rfl (gi_in g_38 (by decide)) (dk_at dkX10_put 13 rfl) (fun H locs hP hD hS => ?_)
    obtain ⟨hP, hD⟩ := gz_both (w := [(h0, .inr (10, [.ref bt, .int length])), (bt, .inl (kbt, 1600, .inl (upd fbt (length : Int32).toNatClampNeg (vp_nar .byte x_40))))]) hP hD
    generalize ef_41 : upd fbt (length : Int32).toNatClampNeg (vp_nar .byte x_40) = f_41 at hP hD
    refine lv_aload_n hx hb (dk_at dkX10_put 14 rfl) rfl (lv_at hl 0 rfl) ?_
    refine va_get (D := (dC, dI)) (ci := 10) (v := .ref bt) (C := RX10) (T := TX10) (N := 2) hx hb hts (fun w h => List.mem_cons_of_mem _ (jnGA_X10 w h)) hown hK hP 0 rfl rfl 0 (by decide) (hts _ (List.mem_cons_of_mem _ mGA_63)) (fun _ h9 => h9) rfl (dk_at dkX10_put 15 rfl) ?_
    refine lv_aload_n hx hb (dk_at dkX10_put 16 rfl) rfl (lv_at hl 0 rfl) ?_
    refine va_get (D := (dC, dI)) (ci := 10) (v := .int length) (C := RX10) (T := TX10) (N := 2) hx hb hts (fun w h => List.mem_cons_of_mem _ (jnGA_X10 w h)) hown hK hP 0 rfl rfl 1 (by decide) (hts _ (List.mem_cons_of_mem _ mGA_64)) (fun _ h9 => h9) rfl (dk_at dkX10_put 17 rfl) ?_
    refine lv_iconst (v := 1) hx hb (dk_at dkX10_put 18 rfl) (by decide) ?_
    refine lv_iadd hx hb (dk_at dkX10_put 19 rfl) ?_
    refine lv_topi (fun x_42 ex_42 => ?_)
    have gx_42 : gi x_42 1 1597 := gi_add ex_42 g_38 (gi_c 1 1 (by decide)) (by decide)
    refine lv_iload_n hx hb (dk_at dkX10_put 20 rfl) rfl (lv_at hl 1 rfl) ?_
    refine lv_bipush (v := 16) hx hb (dk_at dkX10_put 21 rfl) (by decide) ?_
    refine lv_iushr hx hb (dk_at dkX10_put 22 rfl) rfl ?_
    refine lv_topi (fun x_43 ex_43 => ?_)
    refine lv_i2b hx hb (dk_at dkX10_put 23 rfl) rfl ?_
    refine lv_topi (fun x_44 ex_44 => ?_)
    refine va_bast hx hb hK hP hD hS 1 0 rfl rfl (gi_in gx_42 (by decide)) (dk_at dkX10_put 24 rfl) (fun H locs hP hD hS => ?_)
    obtain ⟨hP, hD⟩ := gz_both (w := [(h0, .inr (10, [.ref bt, .int length])), (bt, .inl (kbt, 1600, .inl (upd f_41 (x_42 : Int32).toNatClampNeg (vp_nar .byte x_44))))]) hP hD
    generalize ef_45 : upd f_41 (x_42 : Int32).toNatClampNeg (vp_nar .byte x_44) = f_45 at hP hD
    refine lv_aload_n hx hb (dk_at dkX10_put 25 rfl) rfl (lv_at hl 0 rfl) ?_
    refine va_get (D := (dC, dI)) (ci := 10) (v := .ref bt) (C := RX10) (T := TX10) (N := 2) hx hb hts (fun w h => List.mem_cons_of_mem _ (jnGA_X10 w h)) hown hK hP 0 rfl rfl 0 (by decide) (hts _ (List.mem_cons_of_mem _ mGA_63)) (fun _ h9 => h9) rfl (dk_at dkX10_put 26 rfl) ?_
    refine lv_aload_n hx hb (dk_at dkX10_put 27 rfl) rfl (lv_at hl 0 rfl) ?_
    refine va_get (D := (dC, dI)) (ci := 10) (v := .int length) (C := RX10) (T := TX10) (N := 2) hx hb hts (fun w h => List.mem_cons_of_mem _ (jnGA_X10 w h)) hown hK hP 0 rfl rfl 1 (by decide) (hts _ (List.mem_cons_of_mem _ mGA_64)) (fun _ h9 => h9) rfl (dk_at dkX10_put 28 rfl) ?_
    refine lv_iconst (v := 2) hx hb (dk_at dkX10_put 29 rfl) (by decide) ?_
    refine lv_iadd hx hb (dk_at dkX10_put 30 rfl) ?_
    refine lv_topi (fun x_46 ex_46 => ?_)
    have gx_46 : gi x_46 2 1598 := gi_add ex_46 g_38 (gi_c 2 2 (by decide)) (by decide)
    refine lv_iload_n hx hb (dk_at dkX10_put 31 rfl) rfl (lv_at hl 1 rfl) ?_
    refine lv_bipush (v := 8) hx hb (dk_at dkX10_put 32 rfl) (by decide) ?_
    refine lv_iushr hx hb (dk_at dkX10_put 33 rfl) rfl ?_
    refine lv_topi (fun x_47 ex_47 => ?_)
    refine lv_i2b hx hb (dk_at dkX10_put 34 rfl) rfl ?_
    refine lv_topi (fun x_48 ex_48 => ?_)
    refine va_bast hx hb hK hP hD hS 1 0 rfl rfl (gi_in gx_46 (by decide)) (dk_at dkX10_put 35 rfl) (fun H locs hP hD hS => ?_)
    obtain ⟨hP, hD⟩ := gz_both (w := [(h0, .inr (10, [.ref bt, .int length])), (bt, .inl (kbt, 1600, .inl (upd f_45 (x_46 : Int32).toNatClampNeg (vp_nar .byte x_48))))]) hP hD
    generalize ef_49 : upd f_45 (x_46 : Int32).toNatClampNeg (vp_nar .byte x_48) = f_49 at hP hD
    refine lv_aload_n hx hb (dk_at dkX10_put 36 rfl) rfl (lv_at hl 0 rfl) ?_
    refine va_get (D := (dC, dI)) (ci := 10) (v := .ref bt) (C := RX10) (T := TX10) (N := 2) hx hb hts (fun w h => List.mem_cons_of_mem _ (jnGA_X10 w h)) hown hK hP 0 rfl rfl 0 (by decide) (hts _ (List.mem_cons_of_mem _ mGA_63)) (fun _ h9 => h9) rfl (dk_at dkX10_put 37 rfl) ?_
    refine lv_aload_n hx hb (dk_at dkX10_put 38 rfl) rfl (lv_at hl 0 rfl) ?_
    refine va_get (D := (dC, dI)) (ci := 10) (v := .int length) (C := RX10) (T := TX10) (N := 2) hx hb hts (fun w h => List.mem_cons_of_mem _ (jnGA_X10 w h)) hown hK hP 0 rfl rfl 1 (by decide) (hts _ (List.mem_cons_of_mem _ mGA_64)) (fun _ h9 => h9) rfl (dk_at dkX10_put 39 rfl) ?_
    refine lv_iconst (v := 3) hx hb (dk_at dkX10_put 40 rfl) (by decide) ?_
    refine lv_iadd hx hb (dk_at dkX10_put 41 rfl) ?_
    refine lv_topi (fun x_50 ex_50 => ?_)
    have gx_50 : gi x_50 3 1599 := gi_add ex_50 g_38 (gi_c 3 3 (by decide)) (by decide)
    refine lv_iload_n hx hb (dk_at dkX10_put 42 rfl) rfl (lv_at hl 1 rfl) ?_
    refine lv_i2b hx hb (dk_at dkX10_put 43 rfl) rfl ?_
    refine lv_topi (fun x_51 ex_51 => ?_)
    refine va_bast hx hb hK hP hD hS 1 0 rfl rfl (gi_in gx_50 (by decide)) (dk_at dkX10_put 44 rfl) (fun H locs hP hD hS => ?_)
    obtain ⟨hP, hD⟩ := gz_both (w := [(h0, .inr (10, [.ref bt, .int length])), (bt, .inl (kbt, 1600, .inl (upd f_49 (x_50 : Int32).toNatClampNeg (vp_nar .byte x_51))))]) hP hD
    generalize ef_52 : upd f_49 (x_50 : Int32).toNatClampNeg (vp_nar .byte x_51) = f_52 at hP hD
    refine lv_aload_n hx hb (dk_at dkX10_put 45 rfl) rfl (lv_at hl 0 rfl) ?_
    refine lv_dup hx hb (dk_at dkX10_put 46 rfl) rfl ?_
    refine va_get (D := (dC, dI)) (ci := 10) (v := .int length) (C := RX10) (T := TX10) (N := 2) hx hb hts (fun w h => List.mem_cons_of_mem _ (jnGA_X10 w h)) hown hK hP 0 rfl rfl 1 (by decide) (hts _ (List.mem_cons_of_mem _ mGA_64)) (fun _ h9 => h9) rfl (dk_at dkX10_put 47 rfl) ?_
    refine lv_iconst (v := 4) hx hb (dk_at dkX10_put 48 rfl) (by decide) ?_
    refine lv_iadd hx hb (dk_at dkX10_put 49 rfl) ?_
    refine lv_topi (fun x_53 ex_53 => ?_)
    have gx_53 : gi x_53 4 1600 := gi_add ex_53 g_38 (gi_c 4 4 (by decide)) (by decide)
    refine va_put (D := (dC, dI)) (ci := 10) (v := .int x_53) (ty := .int) (C := RX10) (T := TX10) (N := 2) hx hb hts (fun w h => List.mem_cons_of_mem _ (jnGA_X10 w h)) tyX10 tyX10_ok nmX10 hown hK hP hD hS 0 rfl rfl 1 (by decide) (hts _ (List.mem_cons_of_mem _ mGA_64)) (fun _ h9 => h9) rfl fdX10_1 rfl rfl (Nat.le_of_ble_eq_true rfl) (dk_at dkX10_put 50 rfl) (fun H locs hP hD hS => ?_)
    obtain ⟨hP, hD⟩ := gz_both (w := [(h0, .inr (10, [.ref bt, .int x_53])), (bt, .inl (kbt, 1600, .inl f_52))]) hP hD
    exact W.vret hx hb hr (fun t ht hW => ⟨⟨(), rfl, trivial, x_53, f_52, (gi_w gx_53 (by decide)), by have qgx_53 := gx_53.1; have rgx_53 := gx_53.2; have igx_53 : x_53.toInt = length.toInt + 4 := (by have hc4 : (4 : Int32).toInt = 4 := (by decide); have h9 := gi_addE ex_53 g_38 (gi_c 4 4 (by decide)) (by decide); rw [hc4] at h9; exact h9); have qglength := g_38.1; have rglength := g_38.2; omega, by first | (rw [ex_53, ← ef_52, ex_51, ex_50, ← ef_49, ex_48, ex_47, ex_46, ← ef_45, ex_44, ex_43, ex_42, ← ef_41, ex_40, ex_39]; exact hF.trans hR9.symm) | ((try rw [ex_53]); (try rw [← ef_52]); (try rw [ex_51]); (try rw [ex_50]); (try rw [← ef_49]); (try rw [ex_48]); (try rw [ex_47]); (try rw [ex_46]); (try rw [← ef_45]); (try rw [ex_44]); (try rw [ex_43]); (try rw [ex_42]); (try rw [← ef_41]); (try rw [ex_40]); (try rw [ex_39]); exact hF.trans hR9.symm), by rw [ht]; exact hP, hD⟩, hS.F ht⟩) hS.2.2 (dk_at dkX10_put 51 rfl)
  · have hF := gf_neg c_37 hF
    have g_54 : gi length 1597 1600 := gi_lt_r (Int32.not_le.mp c_37) (gi_c 1596 1596 (by decide)) glength (by decide)
    exact W.vret hx hb hr (fun t ht hW => ⟨⟨(), rfl, trivial, length, fbt, (gi_w g_54 (by decide)), by have qglength := g_54.1; have rglength := g_54.2; omega, hF.trans hR9.symm, by rw [ht]; exact hP, hD⟩, hS.F ht⟩) hS.2.2 (dk_at dkX10_put 4 rfl)
noncomputable def lsX0_placeNamed : List (Nat × Instr × Nat) := [(0, .iconst 0, 1), (1, .istore_n 2, 1), (2, .iload_n 2, 1), (3, .aload_n 0, 1), (4, .getfield 55, 3), (7, .if_icmp .ge 24, 3), (10, .aload_n 0, 1), (11, .getfield 11, 3), (14, .iload_n 2, 1), (15, .aaload, 1), (16, .getfield 67, 3), (19, .iload_n 1, 1), (20, .if_icmp .ne 5, 3), (23, .iload_n 2, 1), (24, .ireturn, 1), (25, .iinc 2 1, 3), (28, .goto (-26), 3), (31, .iconst (-1), 1), (32, .ireturn, 1)]
theorem dkX0_placeNamed : dkAll cX0_placeNamed lsX0_placeNamed = true := dk_fast (by decide +kernel)
noncomputable def dfX0_placeNamed_2 (aplaceCount : Int32) (p_name : Nat → Int32) (p1 : Int32) (K : (Int32 → Int32)) (v2 : Int32) : Int32 := if aplaceCount ≤ v2 then (-1 : Int32) else (if (p_name v2.toNatClampNeg) = p1 then v2 else (K (v2 + (1 : Int32))))
noncomputable def lfX0_placeNamed (aplaceCount : Int32) (p_name : Nat → Int32) (p1 : Int32) (z : Nat) : (Int32 → Int32) := Nat.rec (motive := fun _ => (Int32 → Int32)) (fun _ => (0)) (fun _ K => dfX0_placeNamed_2 aplaceCount p_name p1 K) z
noncomputable def fX0_placeNamed (aplaceCount : Int32) (p_name : Nat → Int32) (p1 : Int32) : Int32 := (lfX0_placeNamed aplaceCount p_name p1 1000000000) (0 : Int32)
set_option maxHeartbeats 4000000 in
set_option maxRecDepth 100000 in
theorem lp_sX0_placeNamed {p : Program} {l : Launch} {e : Env} {R : Room} {s : State} {m : MethodId} {args : Array Value} {below : List Frame} {meth : Method} {c : Code} {Q : State → Prop} {A : Nat → Prop} {cells slots : Nat} {dC : Nat → ClassId} {dI : Nat → Nat → Nat} {RES : Int32} (h0 : Nat) (pl : Nat) (amonths : Int32) (afull : Int32) (alean : Int32) (alines : Int32) (ahasMoon : Int32) (amoonStart : Int32) (amoonStep : Int32) (aplaceCount : Int32) (areportCount : Int32) (adeedCount : Int32) (re : Nat) (de : Nat) (kpl : ClassId) (pa : Nat → Nat) (p_name : Nat → Int32) (p_trust : Nat → Int32) (p1 : Int32) (gamonths : gi amonths 0 24) (gafull : gi afull 0 5) (galean : gi alean 0 5) (gahasMoon : gi ahasMoon 0 1) (gaplaceCount : gi aplaceCount 0 6) (gareportCount : gi areportCount 0 24) (gadeedCount : gi adeedCount 0 8) (hx : p.tables.exec = Jvm.exec) (hb : c.code = cX0_placeNamed) (hml : c.maxLocals = 3) (hown : s.vm.findClass RX0 = some m.cls) (hts : ∀ w ∈ ((.code yX0_placeNamed cX0_placeNamed 3 (some .int) :: wsGA) : List Cond), w.before args s = true) (hK : va_K (dC, dI) vwCl [(kpl, .object RX5)] s) (hz : nzA s) (hF0 : va_P (dC, dI) vwCl (gz_fam 6 pa 5 (fun i => [.int (p_name i), .int (p_trust i)])) s.heap) (hFA0 : gz_ap A (gz_fam 6 pa 5 (fun i => [.int (p_name i), .int (p_trust i)]))) (hRf : 0 ≤ R.frames) (hRl : 0 ≤ R.locals) (hRc : cells ≤ R.cells) (hRs : slots ≤ R.slots) (kr32 : ∀ (v : Int32) (H : Heap) (locs : List Loc) (ls : Array Slot), gi v (-1) (-1) → v = RES → va_P (dC, dI) vwCl [(h0, .inr (0, [.int amonths, .int afull, .int alean, .int alines, .int ahasMoon, .int amoonStart, .int amoonStep, .int aplaceCount, .int areportCount, .int adeedCount, .ref pl, .ref re, .ref de])), (pl, .inl (kpl, 6, .inr (.inr (.inr (.inr (fun i => some (pa i)))))))] H → va_S A s.heap H locs → lv_has ls 3 [] → W p l e R s m args below meth c H locs cells slots Q (F0 m 32 ls [.int v])) (kr24 : ∀ (v : Int32) (H : Heap) (locs : List Loc) (ls : Array Slot), gi v 0 5 → v = RES → va_P (dC, dI) vwCl [(h0, .inr (0, [.int amonths, .int afull, .int alean, .int alines, .int ahasMoon, .int amoonStart, .int amoonStep, .int aplaceCount, .int areportCount, .int adeedCount, .ref pl, .ref re, .ref de])), (pl, .inl (kpl, 6, .inr (.inr (.inr (.inr (fun i => some (pa i)))))))] H → va_S A s.heap H locs → lv_has ls 3 [] → W p l e R s m args below meth c H locs cells slots Q (F0 m 24 ls [.int v])) : ∀ z : Nat, (∀ (v2 : Int32) (H : Heap) (locs : List Loc) (ls : Array Slot), gi v2 0 6 → (lfX0_placeNamed aplaceCount p_name p1 z) v2 = RES → 13 + (-2) * v2.toInt < (z : Int) → va_P (dC, dI) vwCl [(h0, .inr (0, [.int amonths, .int afull, .int alean, .int alines, .int ahasMoon, .int amoonStart, .int amoonStep, .int aplaceCount, .int areportCount, .int adeedCount, .ref pl, .ref re, .ref de])), (pl, .inl (kpl, 6, .inr (.inr (.inr (.inr (fun i => some (pa i)))))))] H → va_S A s.heap H locs → lv_has ls 3 [(0, .ref h0), (1, .int p1), (2, .int v2)] → W p l e R s m args below meth c H locs cells slots Q (F0 m 2 ls [])) := by
  intro z
  induction z with
  | zero =>
    intro v2 H locs ls gv2 hF hmu hP hS hl
    exact absurd hmu (by have hv21 := gv2.1; have hv22 := gv2.2; omega)
  | succ z ih =>
      intro v2 H locs ls gv2 hF hmu hP hS hl
      have hF : dfX0_placeNamed_2 aplaceCount p_name p1 (lfX0_placeNamed aplaceCount p_name p1 z) v2 = RES := hF
      refine lv_iload_n hx hb (dk_at dkX0_placeNamed 2 rfl) rfl (lv_at hl 2 rfl) ?_
      refine lv_aload_n hx hb (dk_at dkX0_placeNamed 3 rfl) rfl (lv_at hl 0 rfl) ?_
      refine va_get (D := (dC, dI)) (ci := 0) (v := .int aplaceCount) (C := RX0) (T := TX0) (N := 13) hx hb hts (fun w h => List.mem_cons_of_mem _ (jnGA_X0 w h)) hown hK hP 0 rfl rfl 7 (by decide) (hts _ (List.mem_cons_of_mem _ mGA_159)) (fun _ h9 => h9) rfl (dk_at dkX0_placeNamed 4 rfl) ?_
      refine lv_icmp_ge (tgt := 31) hx hb (dk_at dkX0_placeNamed 5 rfl) (by decide) (fun c_43 => ?_) (fun c_43 => ?_)
      · have hF := gf_pos c_43 hF
        refine lv_iconst (v := (-1)) hx hb (dk_at dkX0_placeNamed 17 rfl) (by decide) ?_
        exact kr32 (-1) _ _ _ (gi_c (-1) (-1) (by decide)) hF hP hS (lv_sub hl [] rfl)
      · have hF := gf_neg c_43 hF
        have g_44 : gi v2 0 5 := gi_lt_l (Int32.not_le.mp c_43) gv2 gaplaceCount (by decide)
        have g_45 : gi aplaceCount 1 6 := gi_lt_r (Int32.not_le.mp c_43) gv2 gaplaceCount (by decide)
        refine lv_aload_n hx hb (dk_at dkX0_placeNamed 6 rfl) rfl (lv_at hl 0 rfl) ?_
        refine va_get (D := (dC, dI)) (ci := 0) (v := .ref pl) (C := RX0) (T := TX0) (N := 13) hx hb hts (fun w h => List.mem_cons_of_mem _ (jnGA_X0 w h)) hown hK hP 0 rfl rfl 10 (by decide) (hts _ (List.mem_cons_of_mem _ mGA_70)) (fun _ h9 => h9) rfl (dk_at dkX0_placeNamed 7 rfl) ?_
        refine lv_iload_n hx hb (dk_at dkX0_placeNamed 8 rfl) rfl (lv_at hl 2 rfl) ?_
        refine va_aldq hx hb hK hP 1 0 rfl rfl (gi_in g_44 (by decide)) (dk_at dkX0_placeNamed 9 rfl) ?_
        refine W.eq (g2 := F0 m 16 ls [.ref (pa v2.toNatClampNeg)]) rfl ?_
        refine va_get (D := (dC, dI)) (ci := 5) (v := .int (p_name v2.toNatClampNeg)) (C := RX5) (T := TX5) (N := 2) hx hb hts (fun w h => List.mem_cons_of_mem _ (jnGA_X5 w h)) hown hK (gz_ro hF0 hFA0 hS) (v2.toNatClampNeg) (gz_fam_at (gz_clt (gi_in (n := 6) g_44 (by decide)))) rfl 0 (by decide) (hts _ (List.mem_cons_of_mem _ mGA_302)) (fun _ h9 => h9) rfl (dk_at dkX0_placeNamed 10 rfl) ?_
        refine lv_topi (fun x_46 ex_46 => ?_)
        refine lv_iload_n hx hb (dk_at dkX0_placeNamed 11 rfl) rfl (lv_at hl 1 rfl) ?_
        refine lv_icmp_ne (tgt := 25) hx hb (dk_at dkX0_placeNamed 12 rfl) (by decide) (fun c_47 => ?_) (fun c_47 => ?_)
        · have hF := gf_neg (by rw [ex_46] at c_47; exact c_47) hF
          obtain ⟨x_48, ex_48⟩ : ∃ y : Int32, y = v2 + 1 := ⟨_, rfl⟩
          have gx_48 : gi x_48 1 6 := gi_add ex_48 g_44 (gi_c 1 1 (by decide)) (by decide)
          refine lv_iinc (v := x_48) (lv' := [(2, .int x_48), (0, .ref h0), (1, .int p1)]) hx hb (dk_at dkX0_placeNamed 15 rfl) hl (k := 2) rfl (by rw [ex_48]; rfl) (by decide) rfl (fun ls hl => ?_)
          refine lv_goto (tgt := 2) hx hb (dk_at dkX0_placeNamed 16 rfl) (by decide) ?_
          exact ih x_48 _ _ _ (gi_w gx_48 (by decide)) (by first | (rw [ex_48]; exact hF) | ((try rw [ex_48]); exact hF)) (by have av2 := gv2.1; have bv2 := gv2.2; have qgx_48 := gx_48.1; have rgx_48 := gx_48.2; have igx_48 : x_48.toInt = v2.toInt + 1 := (by have hc1 : (1 : Int32).toInt = 1 := (by decide); have h9 := gi_addE ex_48 g_44 (gi_c 1 1 (by decide)) (by decide); rw [hc1] at h9; exact h9); have qgv2 := g_44.1; have rgv2 := g_44.2; omega) hP hS (lv_sub hl [1, 2, 0] rfl)
        · have hF := gf_pos (by rw [ex_46] at c_47; exact c_47) hF
          refine lv_iload_n hx hb (dk_at dkX0_placeNamed 13 rfl) rfl (lv_at hl 2 rfl) ?_
          exact kr24 v2 _ _ _ g_44 hF hP hS (lv_sub hl [] rfl)
set_option maxHeartbeats 4000000 in
set_option maxRecDepth 100000 in
theorem sX0_placeNamed (l : Launch) (dC : Nat → ClassId) (dI : Nat → Nat → Nat) (h0 : Nat) (pl : Nat) (amonths : Int32) (afull : Int32) (alean : Int32) (alines : Int32) (ahasMoon : Int32) (amoonStart : Int32) (amoonStep : Int32) (aplaceCount : Int32) (areportCount : Int32) (adeedCount : Int32) (re : Nat) (de : Nat) (kpl : ClassId) (pa : Nat → Nat) (p_name : Nat → Int32) (p_trust : Nat → Int32) (p1 : Int32) (gamonths : gi amonths 0 24) (gafull : gi afull 0 5) (galean : gi alean 0 5) (gahasMoon : gi ahasMoon 0 1) (gaplaceCount : gi aplaceCount 0 6) (gareportCount : gi areportCount 0 24) (gadeedCount : gi adeedCount 0 8) : Met l yX0_placeNamed (.code yX0_placeNamed cX0_placeNamed 3 (some .int) :: wsGA) ({ frames := 0, cells := 0, slots := 0, locals := 0 }) (va_Pc [.ref h0, .int p1] (fun U => va_P (dC, dI) vwCl [(h0, .inr (0, [.int amonths, .int afull, .int alean, .int alines, .int ahasMoon, .int amoonStart, .int amoonStep, .int aplaceCount, .int areportCount, .int adeedCount, .ref pl, .ref re, .ref de])), (pl, .inl (kpl, 6, .inr (.inr (.inr (.inr (fun i => some (pa i)))))))] U.heap ∧ va_K (dC, dI) vwCl [(kpl, .object RX5)] U ∧ nzA U ∧ va_P (dC, dI) vwCl (gz_fam 6 pa 5 (fun i => [.int (p_name i), .int (p_trust i)])) U.heap)) (va_Qi (fun (r : Int32) (u : Unit) => (gi r (-1) 5) ∧ r = fX0_placeNamed aplaceCount p_name p1) (fun _ _ => True) (fun _ => False)) 0 0 (fun _ => False) := by
  refine Met.ofW (cc := cX0_placeNamed) (maxL := 3) (ret := (some .int)) (by decide) rfl ?_
  intro p e s m args below meth c s₁ B hml hv
  obtain ⟨rfl, hP, hK, hz, hF0⟩ := hv
  have hx := B.exec
  have hb := B.bytes
  have hr := B.returns
  have hts := atoms_spec (ws := (.code yX0_placeNamed cX0_placeNamed 3 (some .int) :: wsGA)) B.pre
  have hown : s.vm.findClass RX0 = some m.cls := findClass_of_methodNamed B.named
  have hlocks := B.notSynchronized
  have hS : va_S (fun _ => False) s.heap s.heap [] := va_S.rf
  have hFA0 : gz_ap (fun _ => False) (gz_fam 6 pa 5 (fun i => [.int (p_name i), .int (p_trust i)])) := gz_ap0
  have hl := lv_entry ([.ref h0, .int p1]) (n := 3) (Nat.le_of_ble_eq_true rfl)
  rw [lg_entry_eq]
  generalize (lg_sl ([.ref h0, .int p1]) ++ List.replicate (3 - (lg_sl ([.ref h0, .int p1])).length) Slot.unset).toArray = ls at hl ⊢
  have hl : lv_has ls 3 [(0, .ref h0), (1, .int p1)] := hl
  obtain ⟨RES, hF⟩ : ∃ R9, fX0_placeNamed aplaceCount p_name p1 = R9 := ⟨_, rfl⟩
  have hR9 := hF
  refine lv_iconst (v := 0) hx hb (dk_at dkX0_placeNamed 0 rfl) (by decide) ?_
  refine lv_istore_n (lv' := [(2, .int 0), (0, .ref h0), (1, .int p1)]) hx hb (dk_at dkX0_placeNamed 1 rfl) rfl hl (by decide) rfl (fun ls hl => ?_)
  refine (lp_sX0_placeNamed h0 pl amonths afull alean alines ahasMoon amoonStart amoonStep aplaceCount areportCount adeedCount re de kpl pa p_name p_trust p1 gamonths gafull galean gahasMoon gaplaceCount gareportCount gadeedCount hx hb hml hown hts hK hz hF0 hFA0 (Nat.le_of_ble_eq_true rfl) (Nat.le_of_ble_eq_true rfl) (Nat.zero_le _) (Nat.zero_le _) (fun v H locs ls gv hF hP hS hl => ?_) (fun v H locs ls gv hF hP hS hl => ?_) 1000000000) 0 _ _ _ (gi_w (gi_c 0 0 (by decide)) (by decide)) hF (by have k0 : (0 : Int32).toInt = 0 := (by decide); omega) hP hS (lv_sub hl [1, 2, 0] rfl)
  · skip
    exact W.iret (v := v) hx hb hr (fun t ht hW => ⟨⟨v, (), rfl, ⟨(gi_w gv (by decide)), hF.trans hR9.symm⟩, trivial⟩, hS.F ht⟩) hS.2.2 (dk_at dkX0_placeNamed 18 rfl)
  · skip
    exact W.iret (v := v) hx hb hr (fun t ht hW => ⟨⟨v, (), rfl, ⟨(gi_w gv (by decide)), hF.trans hR9.symm⟩, trivial⟩, hS.F ht⟩) hS.2.2 (dk_at dkX0_placeNamed 14 rfl)
noncomputable def lsX0_namesAhead : List (Nat × Instr × Nat) := [(0, .iconst 0, 1), (1, .istore_n 2, 1), (2, .iconst 0, 1), (3, .istore_n 3, 1), (4, .iload_n 3, 1), (5, .aload_n 0, 1), (6, .getfield 55, 3), (9, .if_icmp .ge 33, 3), (12, .aload_n 0, 1), (13, .getfield 11, 3), (16, .iload_n 3, 1), (17, .aaload, 1), (18, .getfield 67, 3), (21, .aload_n 0, 1), (22, .getfield 11, 3), (25, .iload_n 1, 1), (26, .aaload, 1), (27, .getfield 67, 3), (30, .if_icmp .ge 6, 3), (33, .iinc 2 1, 3), (36, .iinc 3 1, 3), (39, .goto (-35), 3), (42, .iload_n 2, 1), (43, .ireturn, 1)]
theorem dkX0_namesAhead : dkAll cX0_namesAhead lsX0_namesAhead = true := dk_fast (by decide +kernel)
noncomputable def bfX0_namesAhead_36 (aplaceCount : Int32) (p_name : Nat → Int32) (p1 : Int32) (K : (Int32 → Int32 → Int32)) (v2 : Int32) (v3 : Int32) : Int32 := K v2 (v3 + (1 : Int32))
noncomputable def dfX0_namesAhead_4 (aplaceCount : Int32) (p_name : Nat → Int32) (p1 : Int32) (K : (Int32 → Int32 → Int32)) (v2 : Int32) (v3 : Int32) : Int32 := if aplaceCount ≤ v3 then v2 else (if (p_name p1.toNatClampNeg) ≤ (p_name v3.toNatClampNeg) then (bfX0_namesAhead_36 aplaceCount p_name p1 K v2 v3) else (bfX0_namesAhead_36 aplaceCount p_name p1 K (v2 + (1 : Int32)) v3))
noncomputable def lfX0_namesAhead (aplaceCount : Int32) (p_name : Nat → Int32) (p1 : Int32) (z : Nat) : (Int32 → Int32 → Int32) := Nat.rec (motive := fun _ => (Int32 → Int32 → Int32)) (fun _ _ => (0)) (fun _ K => dfX0_namesAhead_4 aplaceCount p_name p1 K) z
noncomputable def fX0_namesAhead (aplaceCount : Int32) (p_name : Nat → Int32) (p1 : Int32) : Int32 := (lfX0_namesAhead aplaceCount p_name p1 1000000000) (0 : Int32) (0 : Int32)
set_option maxHeartbeats 4000000 in
set_option maxRecDepth 100000 in
theorem lp_sX0_namesAhead {p : Program} {l : Launch} {e : Env} {R : Room} {s : State} {m : MethodId} {args : Array Value} {below : List Frame} {meth : Method} {c : Code} {Q : State → Prop} {A : Nat → Prop} {cells slots : Nat} {dC : Nat → ClassId} {dI : Nat → Nat → Nat} {RES : Int32} (h0 : Nat) (pl : Nat) (amonths : Int32) (afull : Int32) (alean : Int32) (alines : Int32) (ahasMoon : Int32) (amoonStart : Int32) (amoonStep : Int32) (aplaceCount : Int32) (areportCount : Int32) (adeedCount : Int32) (re : Nat) (de : Nat) (kpl : ClassId) (pa : Nat → Nat) (p_name : Nat → Int32) (p_trust : Nat → Int32) (p1 : Int32) (gamonths : gi amonths 0 24) (gafull : gi afull 0 5) (galean : gi alean 0 5) (gahasMoon : gi ahasMoon 0 1) (gaplaceCount : gi aplaceCount 0 6) (gareportCount : gi areportCount 0 24) (gadeedCount : gi adeedCount 0 8) (gp1 : gi p1 0 5) (hx : p.tables.exec = Jvm.exec) (hb : c.code = cX0_namesAhead) (hml : c.maxLocals = 4) (hown : s.vm.findClass RX0 = some m.cls) (hts : ∀ w ∈ ((.code yX0_namesAhead cX0_namesAhead 4 (some .int) :: wsGA) : List Cond), w.before args s = true) (hK : va_K (dC, dI) vwCl [(kpl, .object RX5)] s) (hz : nzA s) (hF0 : va_P (dC, dI) vwCl (gz_fam 6 pa 5 (fun i => [.int (p_name i), .int (p_trust i)])) s.heap) (hFA0 : gz_ap A (gz_fam 6 pa 5 (fun i => [.int (p_name i), .int (p_trust i)]))) (hRf : 0 ≤ R.frames) (hRl : 0 ≤ R.locals) (hRc : cells ≤ R.cells) (hRs : slots ≤ R.slots) (kr43 : ∀ (v : Int32) (H : Heap) (locs : List Loc) (ls : Array Slot), v = RES → va_P (dC, dI) vwCl [(h0, .inr (0, [.int amonths, .int afull, .int alean, .int alines, .int ahasMoon, .int amoonStart, .int amoonStep, .int aplaceCount, .int areportCount, .int adeedCount, .ref pl, .ref re, .ref de])), (pl, .inl (kpl, 6, .inr (.inr (.inr (.inr (fun i => some (pa i)))))))] H → va_S A s.heap H locs → lv_has ls 4 [] → W p l e R s m args below meth c H locs cells slots Q (F0 m 43 ls [.int v])) : ∀ z : Nat, (∀ (v2 : Int32) (v3 : Int32) (H : Heap) (locs : List Loc) (ls : Array Slot), gi v3 0 6 → (lfX0_namesAhead aplaceCount p_name p1 z) v2 v3 = RES → 13 + (-2) * v3.toInt < (z : Int) → va_P (dC, dI) vwCl [(h0, .inr (0, [.int amonths, .int afull, .int alean, .int alines, .int ahasMoon, .int amoonStart, .int amoonStep, .int aplaceCount, .int areportCount, .int adeedCount, .ref pl, .ref re, .ref de])), (pl, .inl (kpl, 6, .inr (.inr (.inr (.inr (fun i => some (pa i)))))))] H → va_S A s.heap H locs → lv_has ls 4 [(0, .ref h0), (1, .int p1), (2, .int v2), (3, .int v3)] → W p l e R s m args below meth c H locs cells slots Q (F0 m 4 ls [])) := by
  intro z
  induction z with
  | zero =>
    intro v2 v3 H locs ls gv3 hF hmu hP hS hl
    exact absurd hmu (by have hv31 := gv3.1; have hv32 := gv3.2; omega)
  | succ z ih =>
      intro v2 v3 H locs ls gv3 hF hmu hP hS hl
      have hF : dfX0_namesAhead_4 aplaceCount p_name p1 (lfX0_namesAhead aplaceCount p_name p1 z) v2 v3 = RES := hF
      refine lv_iload_n hx hb (dk_at dkX0_namesAhead 4 rfl) rfl (lv_at hl 3 rfl) ?_
      refine lv_aload_n hx hb (dk_at dkX0_namesAhead 5 rfl) rfl (lv_at hl 0 rfl) ?_
      refine va_get (D := (dC, dI)) (ci := 0) (v := .int aplaceCount) (C := RX0) (T := TX0) (N := 13) hx hb hts (fun w h => List.mem_cons_of_mem _ (jnGA_X0 w h)) hown hK hP 0 rfl rfl 7 (by decide) (hts _ (List.mem_cons_of_mem _ mGA_159)) (fun _ h9 => h9) rfl (dk_at dkX0_namesAhead 6 rfl) ?_
      refine lv_icmp_ge (tgt := 42) hx hb (dk_at dkX0_namesAhead 7 rfl) (by decide) (fun c_430 => ?_) (fun c_430 => ?_)
      · have hF := gf_pos c_430 hF
        refine lv_iload_n hx hb (dk_at dkX0_namesAhead 22 rfl) rfl (lv_at hl 2 rfl) ?_
        exact kr43 v2 _ _ _ hF hP hS (lv_sub hl [] rfl)
      · have hF := gf_neg c_430 hF
        have g_431 : gi v3 0 5 := gi_lt_l (Int32.not_le.mp c_430) gv3 gaplaceCount (by decide)
        have g_432 : gi aplaceCount 1 6 := gi_lt_r (Int32.not_le.mp c_430) gv3 gaplaceCount (by decide)
        refine lv_aload_n hx hb (dk_at dkX0_namesAhead 8 rfl) rfl (lv_at hl 0 rfl) ?_
        refine va_get (D := (dC, dI)) (ci := 0) (v := .ref pl) (C := RX0) (T := TX0) (N := 13) hx hb hts (fun w h => List.mem_cons_of_mem _ (jnGA_X0 w h)) hown hK hP 0 rfl rfl 10 (by decide) (hts _ (List.mem_cons_of_mem _ mGA_70)) (fun _ h9 => h9) rfl (dk_at dkX0_namesAhead 9 rfl) ?_
        refine lv_iload_n hx hb (dk_at dkX0_namesAhead 10 rfl) rfl (lv_at hl 3 rfl) ?_
        refine va_aldq hx hb hK hP 1 0 rfl rfl (gi_in g_431 (by decide)) (dk_at dkX0_namesAhead 11 rfl) ?_
        refine W.eq (g2 := F0 m 18 ls [.ref (pa v3.toNatClampNeg)]) rfl ?_
        refine va_get (D := (dC, dI)) (ci := 5) (v := .int (p_name v3.toNatClampNeg)) (C := RX5) (T := TX5) (N := 2) hx hb hts (fun w h => List.mem_cons_of_mem _ (jnGA_X5 w h)) hown hK (gz_ro hF0 hFA0 hS) (v3.toNatClampNeg) (gz_fam_at (gz_clt (gi_in (n := 6) g_431 (by decide)))) rfl 0 (by decide) (hts _ (List.mem_cons_of_mem _ mGA_302)) (fun _ h9 => h9) rfl (dk_at dkX0_namesAhead 12 rfl) ?_
        refine lv_topi (fun x_433 ex_433 => ?_)
        refine lv_aload_n hx hb (dk_at dkX0_namesAhead 13 rfl) rfl (lv_at hl 0 rfl) ?_
        refine va_get (D := (dC, dI)) (ci := 0) (v := .ref pl) (C := RX0) (T := TX0) (N := 13) hx hb hts (fun w h => List.mem_cons_of_mem _ (jnGA_X0 w h)) hown hK hP 0 rfl rfl 10 (by decide) (hts _ (List.mem_cons_of_mem _ mGA_70)) (fun _ h9 => h9) rfl (dk_at dkX0_namesAhead 14 rfl) ?_
        refine lv_iload_n hx hb (dk_at dkX0_namesAhead 15 rfl) rfl (lv_at hl 1 rfl) ?_
        refine va_aldq hx hb hK hP 1 0 rfl rfl (gi_in gp1 (by decide)) (dk_at dkX0_namesAhead 16 rfl) ?_
        refine W.eq (g2 := F0 m 27 ls [.ref (pa p1.toNatClampNeg), .int x_433]) rfl ?_
        refine va_get (D := (dC, dI)) (ci := 5) (v := .int (p_name p1.toNatClampNeg)) (C := RX5) (T := TX5) (N := 2) hx hb hts (fun w h => List.mem_cons_of_mem _ (jnGA_X5 w h)) hown hK (gz_ro hF0 hFA0 hS) (p1.toNatClampNeg) (gz_fam_at (gz_clt (gi_in (n := 6) gp1 (by decide)))) rfl 0 (by decide) (hts _ (List.mem_cons_of_mem _ mGA_302)) (fun _ h9 => h9) rfl (dk_at dkX0_namesAhead 17 rfl) ?_
        refine lv_topi (fun x_434 ex_434 => ?_)
        refine lv_icmp_ge (tgt := 36) hx hb (dk_at dkX0_namesAhead 18 rfl) (by decide) (fun c_435 => ?_) (fun c_435 => ?_)
        · have hF := gf_pos (by rw [ex_434, ex_433] at c_435; exact c_435) hF
          obtain ⟨x_436, ex_436⟩ : ∃ y : Int32, y = v3 + 1 := ⟨_, rfl⟩
          have gx_436 : gi x_436 1 6 := gi_add ex_436 g_431 (gi_c 1 1 (by decide)) (by decide)
          refine lv_iinc (v := x_436) (lv' := [(3, .int x_436), (0, .ref h0), (1, .int p1), (2, .int v2)]) hx hb (dk_at dkX0_namesAhead 20 rfl) hl (k := 3) rfl (by rw [ex_436]; rfl) (by decide) rfl (fun ls hl => ?_)
          refine lv_goto (tgt := 4) hx hb (dk_at dkX0_namesAhead 21 rfl) (by decide) ?_
          exact ih v2 x_436 _ _ _ (gi_w gx_436 (by decide)) (by first | (rw [ex_436]; exact hF) | ((try rw [ex_436]); exact hF)) (by have av3 := gv3.1; have bv3 := gv3.2; have qgx_436 := gx_436.1; have rgx_436 := gx_436.2; have igx_436 : x_436.toInt = v3.toInt + 1 := (by have hc1 : (1 : Int32).toInt = 1 := (by decide); have h9 := gi_addE ex_436 g_431 (gi_c 1 1 (by decide)) (by decide); rw [hc1] at h9; exact h9); have qgv3 := g_431.1; have rgv3 := g_431.2; omega) hP hS (lv_sub hl [1, 2, 3, 0] rfl)
        · have hF := gf_neg (by rw [ex_434, ex_433] at c_435; exact c_435) hF
          have g_437 : gi x_433 (-2147483648) 2147483646 := gi_lt_l (Int32.not_le.mp c_435) (gi_any x_433) (gi_any x_434) (by decide)
          have g_438 : gi x_434 (-2147483647) 2147483647 := gi_lt_r (Int32.not_le.mp c_435) (gi_any x_433) (gi_any x_434) (by decide)
          obtain ⟨x_439, ex_439⟩ : ∃ y : Int32, y = v2 + 1 := ⟨_, rfl⟩
          refine lv_iinc (v := x_439) (lv' := [(2, .int x_439), (0, .ref h0), (1, .int p1), (3, .int v3)]) hx hb (dk_at dkX0_namesAhead 19 rfl) hl (k := 2) rfl (by rw [ex_439]; rfl) (by decide) rfl (fun ls hl => ?_)
          obtain ⟨x_440, ex_440⟩ : ∃ y : Int32, y = v3 + 1 := ⟨_, rfl⟩
          have gx_440 : gi x_440 1 6 := gi_add ex_440 g_431 (gi_c 1 1 (by decide)) (by decide)
          refine lv_iinc (v := x_440) (lv' := [(3, .int x_440), (2, .int x_439), (0, .ref h0), (1, .int p1)]) hx hb (dk_at dkX0_namesAhead 20 rfl) hl (k := 3) rfl (by rw [ex_440]; rfl) (by decide) rfl (fun ls hl => ?_)
          refine lv_goto (tgt := 4) hx hb (dk_at dkX0_namesAhead 21 rfl) (by decide) ?_
          exact ih x_439 x_440 _ _ _ (gi_w gx_440 (by decide)) (by first | (rw [ex_440, ex_439]; exact hF) | ((try rw [ex_440]); (try rw [ex_439]); exact hF)) (by have av3 := gv3.1; have bv3 := gv3.2; have qgx_440 := gx_440.1; have rgx_440 := gx_440.2; have igx_440 : x_440.toInt = v3.toInt + 1 := (by have hc1 : (1 : Int32).toInt = 1 := (by decide); have h9 := gi_addE ex_440 g_431 (gi_c 1 1 (by decide)) (by decide); rw [hc1] at h9; exact h9); have qgv3 := g_431.1; have rgv3 := g_431.2; omega) hP hS (lv_sub hl [2, 3, 1, 0] rfl)
set_option maxHeartbeats 4000000 in
set_option maxRecDepth 100000 in
theorem sX0_namesAhead (l : Launch) (dC : Nat → ClassId) (dI : Nat → Nat → Nat) (h0 : Nat) (pl : Nat) (amonths : Int32) (afull : Int32) (alean : Int32) (alines : Int32) (ahasMoon : Int32) (amoonStart : Int32) (amoonStep : Int32) (aplaceCount : Int32) (areportCount : Int32) (adeedCount : Int32) (re : Nat) (de : Nat) (kpl : ClassId) (pa : Nat → Nat) (p_name : Nat → Int32) (p_trust : Nat → Int32) (p1 : Int32) (gamonths : gi amonths 0 24) (gafull : gi afull 0 5) (galean : gi alean 0 5) (gahasMoon : gi ahasMoon 0 1) (gaplaceCount : gi aplaceCount 0 6) (gareportCount : gi areportCount 0 24) (gadeedCount : gi adeedCount 0 8) (gp1 : gi p1 0 5) : Met l yX0_namesAhead (.code yX0_namesAhead cX0_namesAhead 4 (some .int) :: wsGA) ({ frames := 0, cells := 0, slots := 0, locals := 0 }) (va_Pc [.ref h0, .int p1] (fun U => va_P (dC, dI) vwCl [(h0, .inr (0, [.int amonths, .int afull, .int alean, .int alines, .int ahasMoon, .int amoonStart, .int amoonStep, .int aplaceCount, .int areportCount, .int adeedCount, .ref pl, .ref re, .ref de])), (pl, .inl (kpl, 6, .inr (.inr (.inr (.inr (fun i => some (pa i)))))))] U.heap ∧ va_K (dC, dI) vwCl [(kpl, .object RX5)] U ∧ nzA U ∧ va_P (dC, dI) vwCl (gz_fam 6 pa 5 (fun i => [.int (p_name i), .int (p_trust i)])) U.heap)) (va_Qi (fun (r : Int32) (u : Unit) => (gi r (-2147483648) 2147483647) ∧ r = fX0_namesAhead aplaceCount p_name p1) (fun _ _ => True) (fun _ => False)) 0 0 (fun _ => False) := by
  refine Met.ofW (cc := cX0_namesAhead) (maxL := 4) (ret := (some .int)) (by decide) rfl ?_
  intro p e s m args below meth c s₁ B hml hv
  obtain ⟨rfl, hP, hK, hz, hF0⟩ := hv
  have hx := B.exec
  have hb := B.bytes
  have hr := B.returns
  have hts := atoms_spec (ws := (.code yX0_namesAhead cX0_namesAhead 4 (some .int) :: wsGA)) B.pre
  have hown : s.vm.findClass RX0 = some m.cls := findClass_of_methodNamed B.named
  have hlocks := B.notSynchronized
  have hS : va_S (fun _ => False) s.heap s.heap [] := va_S.rf
  have hFA0 : gz_ap (fun _ => False) (gz_fam 6 pa 5 (fun i => [.int (p_name i), .int (p_trust i)])) := gz_ap0
  have hl := lv_entry ([.ref h0, .int p1]) (n := 4) (Nat.le_of_ble_eq_true rfl)
  rw [lg_entry_eq]
  generalize (lg_sl ([.ref h0, .int p1]) ++ List.replicate (4 - (lg_sl ([.ref h0, .int p1])).length) Slot.unset).toArray = ls at hl ⊢
  have hl : lv_has ls 4 [(0, .ref h0), (1, .int p1)] := hl
  obtain ⟨RES, hF⟩ : ∃ R9, fX0_namesAhead aplaceCount p_name p1 = R9 := ⟨_, rfl⟩
  have hR9 := hF
  refine lv_iconst (v := 0) hx hb (dk_at dkX0_namesAhead 0 rfl) (by decide) ?_
  refine lv_istore_n (lv' := [(2, .int 0), (0, .ref h0), (1, .int p1)]) hx hb (dk_at dkX0_namesAhead 1 rfl) rfl hl (by decide) rfl (fun ls hl => ?_)
  refine lv_iconst (v := 0) hx hb (dk_at dkX0_namesAhead 2 rfl) (by decide) ?_
  refine lv_istore_n (lv' := [(3, .int 0), (2, .int 0), (0, .ref h0), (1, .int p1)]) hx hb (dk_at dkX0_namesAhead 3 rfl) rfl hl (by decide) rfl (fun ls hl => ?_)
  refine (lp_sX0_namesAhead h0 pl amonths afull alean alines ahasMoon amoonStart amoonStep aplaceCount areportCount adeedCount re de kpl pa p_name p_trust p1 gamonths gafull galean gahasMoon gaplaceCount gareportCount gadeedCount gp1 hx hb hml hown hts hK hz hF0 hFA0 (Nat.le_of_ble_eq_true rfl) (Nat.le_of_ble_eq_true rfl) (Nat.zero_le _) (Nat.zero_le _) (fun v H locs ls hF hP hS hl => ?_) 1000000000) 0 0 _ _ _ (gi_w (gi_c 0 0 (by decide)) (by decide)) hF (by have k0 : (0 : Int32).toInt = 0 := (by decide); omega) hP hS (lv_sub hl [2, 3, 1, 0] rfl)
  · skip
    exact W.iret (v := v) hx hb hr (fun t ht hW => ⟨⟨v, (), rfl, ⟨(gi_any v), hF.trans hR9.symm⟩, trivial⟩, hS.F ht⟩) hS.2.2 (dk_at dkX0_namesAhead 23 rfl)
noncomputable def lsX0_standingOf : List (Nat × Instr × Nat) := [(0, .iconst 0, 1), (1, .istore_n 2, 1), (2, .iconst 0, 1), (3, .istore_n 3, 1), (4, .iload_n 3, 1), (5, .aload_n 0, 1), (6, .getfield 58, 3), (9, .if_icmp .ge 37, 3), (12, .aload_n 0, 1), (13, .getfield 19, 3), (16, .iload_n 3, 1), (17, .aaload, 1), (18, .getfield 77, 3), (21, .iload_n 1, 1), (22, .if_icmp .ne 18, 3), (25, .aload_n 0, 1), (26, .getfield 19, 3), (29, .iload_n 3, 1), (30, .aaload, 1), (31, .getfield 96, 3), (34, .ifCond .ne 6, 3), (37, .iinc 2 1, 3), (40, .iinc 3 1, 3), (43, .goto (-39), 3), (46, .iload_n 2, 1), (47, .ireturn, 1)]
theorem dkX0_standingOf : dkAll cX0_standingOf lsX0_standingOf = true := dk_fast (by decide +kernel)
noncomputable def bfX0_standingOf_40 (areportCount : Int32) (r_place : Nat → Int32) (r_struck : Nat → Int32) (p1 : Int32) (K : (Int32 → Int32 → Int32)) (v2 : Int32) (v3 : Int32) : Int32 := K v2 (v3 + (1 : Int32))
noncomputable def dfX0_standingOf_4 (areportCount : Int32) (r_place : Nat → Int32) (r_struck : Nat → Int32) (p1 : Int32) (K : (Int32 → Int32 → Int32)) (v2 : Int32) (v3 : Int32) : Int32 := if areportCount ≤ v3 then v2 else (if (r_place v3.toNatClampNeg) = p1 then (if (r_struck v3.toNatClampNeg) = (0 : Int32) then (bfX0_standingOf_40 areportCount r_place r_struck p1 K (v2 + (1 : Int32)) v3) else (bfX0_standingOf_40 areportCount r_place r_struck p1 K v2 v3)) else (bfX0_standingOf_40 areportCount r_place r_struck p1 K v2 v3))
noncomputable def lfX0_standingOf (areportCount : Int32) (r_place : Nat → Int32) (r_struck : Nat → Int32) (p1 : Int32) (z : Nat) : (Int32 → Int32 → Int32) := Nat.rec (motive := fun _ => (Int32 → Int32 → Int32)) (fun _ _ => (0)) (fun _ K => dfX0_standingOf_4 areportCount r_place r_struck p1 K) z
noncomputable def fX0_standingOf (areportCount : Int32) (r_place : Nat → Int32) (r_struck : Nat → Int32) (p1 : Int32) : Int32 := (lfX0_standingOf areportCount r_place r_struck p1 1000000000) (0 : Int32) (0 : Int32)
set_option maxHeartbeats 4000000 in
set_option maxRecDepth 100000 in
theorem lp_sX0_standingOf {p : Program} {l : Launch} {e : Env} {R : Room} {s : State} {m : MethodId} {args : Array Value} {below : List Frame} {meth : Method} {c : Code} {Q : State → Prop} {A : Nat → Prop} {cells slots : Nat} {dC : Nat → ClassId} {dI : Nat → Nat → Nat} {RES : Int32} (h0 : Nat) (re : Nat) (amonths : Int32) (afull : Int32) (alean : Int32) (alines : Int32) (ahasMoon : Int32) (amoonStart : Int32) (amoonStep : Int32) (aplaceCount : Int32) (areportCount : Int32) (adeedCount : Int32) (pl : Nat) (de : Nat) (kre : ClassId) (ra : Nat → Nat) (r_place : Nat → Int32) (r_kind : Nat → Int32) (r_month : Nat → Int32) (r_day : Nat → Int32) (r_known : Nat → Int32) (r_struck : Nat → Int32) (p1 : Int32) (gamonths : gi amonths 0 24) (gafull : gi afull 0 5) (galean : gi alean 0 5) (gahasMoon : gi ahasMoon 0 1) (gaplaceCount : gi aplaceCount 0 6) (gareportCount : gi areportCount 0 24) (gadeedCount : gi adeedCount 0 8) (gr_place : ga r_place 24 0 5) (gr_month : ga r_month 24 0 23) (gr_struck : ga r_struck 24 0 1) (hx : p.tables.exec = Jvm.exec) (hb : c.code = cX0_standingOf) (hml : c.maxLocals = 4) (hown : s.vm.findClass RX0 = some m.cls) (hts : ∀ w ∈ ((.code yX0_standingOf cX0_standingOf 4 (some .int) :: wsGA) : List Cond), w.before args s = true) (hK : va_K (dC, dI) vwCl [(kre, .object RX7)] s) (hz : nzA s) (hF0 : va_P (dC, dI) vwCl (gz_fam 24 ra 7 (fun i => [.int (r_place i), .int (r_kind i), .int (r_month i), .int (r_day i), .int (r_known i), .int (r_struck i)])) s.heap) (hFA0 : gz_ap A (gz_fam 24 ra 7 (fun i => [.int (r_place i), .int (r_kind i), .int (r_month i), .int (r_day i), .int (r_known i), .int (r_struck i)]))) (hRf : 0 ≤ R.frames) (hRl : 0 ≤ R.locals) (hRc : cells ≤ R.cells) (hRs : slots ≤ R.slots) (kr47 : ∀ (v : Int32) (H : Heap) (locs : List Loc) (ls : Array Slot), v = RES → va_P (dC, dI) vwCl [(h0, .inr (0, [.int amonths, .int afull, .int alean, .int alines, .int ahasMoon, .int amoonStart, .int amoonStep, .int aplaceCount, .int areportCount, .int adeedCount, .ref pl, .ref re, .ref de])), (re, .inl (kre, 24, .inr (.inr (.inr (.inr (fun i => some (ra i)))))))] H → va_S A s.heap H locs → lv_has ls 4 [] → W p l e R s m args below meth c H locs cells slots Q (F0 m 47 ls [.int v])) : ∀ z : Nat, (∀ (v2 : Int32) (v3 : Int32) (H : Heap) (locs : List Loc) (ls : Array Slot), gi v3 0 24 → (lfX0_standingOf areportCount r_place r_struck p1 z) v2 v3 = RES → 49 + (-2) * v3.toInt < (z : Int) → va_P (dC, dI) vwCl [(h0, .inr (0, [.int amonths, .int afull, .int alean, .int alines, .int ahasMoon, .int amoonStart, .int amoonStep, .int aplaceCount, .int areportCount, .int adeedCount, .ref pl, .ref re, .ref de])), (re, .inl (kre, 24, .inr (.inr (.inr (.inr (fun i => some (ra i)))))))] H → va_S A s.heap H locs → lv_has ls 4 [(0, .ref h0), (1, .int p1), (2, .int v2), (3, .int v3)] → W p l e R s m args below meth c H locs cells slots Q (F0 m 4 ls [])) := by
  intro z
  induction z with
  | zero =>
    intro v2 v3 H locs ls gv3 hF hmu hP hS hl
    exact absurd hmu (by have hv31 := gv3.1; have hv32 := gv3.2; omega)
  | succ z ih =>
      intro v2 v3 H locs ls gv3 hF hmu hP hS hl
      have hF : dfX0_standingOf_4 areportCount r_place r_struck p1 (lfX0_standingOf areportCount r_place r_struck p1 z) v2 v3 = RES := hF
      refine lv_iload_n hx hb (dk_at dkX0_standingOf 4 rfl) rfl (lv_at hl 3 rfl) ?_
      refine lv_aload_n hx hb (dk_at dkX0_standingOf 5 rfl) rfl (lv_at hl 0 rfl) ?_
      refine va_get (D := (dC, dI)) (ci := 0) (v := .int areportCount) (C := RX0) (T := TX0) (N := 13) hx hb hts (fun w h => List.mem_cons_of_mem _ (jnGA_X0 w h)) hown hK hP 0 rfl rfl 8 (by decide) (hts _ (List.mem_cons_of_mem _ mGA_160)) (fun _ h9 => h9) rfl (dk_at dkX0_standingOf 6 rfl) ?_
      refine lv_icmp_ge (tgt := 46) hx hb (dk_at dkX0_standingOf 7 rfl) (by decide) (fun c_547 => ?_) (fun c_547 => ?_)
      · have hF := gf_pos c_547 hF
        refine lv_iload_n hx hb (dk_at dkX0_standingOf 24 rfl) rfl (lv_at hl 2 rfl) ?_
        exact kr47 v2 _ _ _ hF hP hS (lv_sub hl [] rfl)
      · have hF := gf_neg c_547 hF
        have g_548 : gi v3 0 23 := gi_lt_l (Int32.not_le.mp c_547) gv3 gareportCount (by decide)
        have g_549 : gi areportCount 1 24 := gi_lt_r (Int32.not_le.mp c_547) gv3 gareportCount (by decide)
        refine lv_aload_n hx hb (dk_at dkX0_standingOf 8 rfl) rfl (lv_at hl 0 rfl) ?_
        refine va_get (D := (dC, dI)) (ci := 0) (v := .ref re) (C := RX0) (T := TX0) (N := 13) hx hb hts (fun w h => List.mem_cons_of_mem _ (jnGA_X0 w h)) hown hK hP 0 rfl rfl 11 (by decide) (hts _ (List.mem_cons_of_mem _ mGA_72)) (fun _ h9 => h9) rfl (dk_at dkX0_standingOf 9 rfl) ?_
        refine lv_iload_n hx hb (dk_at dkX0_standingOf 10 rfl) rfl (lv_at hl 3 rfl) ?_
        refine va_aldq hx hb hK hP 1 0 rfl rfl (gi_in g_548 (by decide)) (dk_at dkX0_standingOf 11 rfl) ?_
        refine W.eq (g2 := F0 m 18 ls [.ref (ra v3.toNatClampNeg)]) rfl ?_
        refine va_get (D := (dC, dI)) (ci := 7) (v := .int (r_place v3.toNatClampNeg)) (C := RX7) (T := TX7) (N := 6) hx hb hts (fun w h => List.mem_cons_of_mem _ (jnGA_X7 w h)) hown hK (gz_ro hF0 hFA0 hS) (v3.toNatClampNeg) (gz_fam_at (gz_clt (gi_in (n := 24) g_548 (by decide)))) rfl 0 (by decide) (hts _ (List.mem_cons_of_mem _ mGA_317)) (fun _ h9 => h9) rfl (dk_at dkX0_standingOf 12 rfl) ?_
        refine lv_topi (fun x_550 ex_550 => ?_)
        have gx_550 : gi x_550 0 5 := ga_at gr_place (gi_in (n := 24) g_548 (by decide)) ex_550
        refine lv_iload_n hx hb (dk_at dkX0_standingOf 13 rfl) rfl (lv_at hl 1 rfl) ?_
        refine lv_icmp_ne (tgt := 40) hx hb (dk_at dkX0_standingOf 14 rfl) (by decide) (fun c_551 => ?_) (fun c_551 => ?_)
        · have hF := gf_neg (by rw [ex_550] at c_551; exact c_551) hF
          obtain ⟨x_552, ex_552⟩ : ∃ y : Int32, y = v3 + 1 := ⟨_, rfl⟩
          have gx_552 : gi x_552 1 24 := gi_add ex_552 g_548 (gi_c 1 1 (by decide)) (by decide)
          refine lv_iinc (v := x_552) (lv' := [(3, .int x_552), (0, .ref h0), (1, .int p1), (2, .int v2)]) hx hb (dk_at dkX0_standingOf 22 rfl) hl (k := 3) rfl (by rw [ex_552]; rfl) (by decide) rfl (fun ls hl => ?_)
          refine lv_goto (tgt := 4) hx hb (dk_at dkX0_standingOf 23 rfl) (by decide) ?_
          exact ih v2 x_552 _ _ _ (gi_w gx_552 (by decide)) (by first | (rw [ex_552]; exact hF) | ((try rw [ex_552]); exact hF)) (by have av3 := gv3.1; have bv3 := gv3.2; have qgx_552 := gx_552.1; have rgx_552 := gx_552.2; have igx_552 : x_552.toInt = v3.toInt + 1 := (by have hc1 : (1 : Int32).toInt = 1 := (by decide); have h9 := gi_addE ex_552 g_548 (gi_c 1 1 (by decide)) (by decide); rw [hc1] at h9; exact h9); have qgv3 := g_548.1; have rgv3 := g_548.2; omega) hP hS (lv_sub hl [1, 2, 3, 0] rfl)
        · have hF := gf_pos (by rw [ex_550] at c_551; exact c_551) hF
          have g_553 : gi p1 0 5 := gi_eq c_551.symm gx_550
          refine lv_aload_n hx hb (dk_at dkX0_standingOf 15 rfl) rfl (lv_at hl 0 rfl) ?_
          refine va_get (D := (dC, dI)) (ci := 0) (v := .ref re) (C := RX0) (T := TX0) (N := 13) hx hb hts (fun w h => List.mem_cons_of_mem _ (jnGA_X0 w h)) hown hK hP 0 rfl rfl 11 (by decide) (hts _ (List.mem_cons_of_mem _ mGA_72)) (fun _ h9 => h9) rfl (dk_at dkX0_standingOf 16 rfl) ?_
          refine lv_iload_n hx hb (dk_at dkX0_standingOf 17 rfl) rfl (lv_at hl 3 rfl) ?_
          refine va_aldq hx hb hK hP 1 0 rfl rfl (gi_in g_548 (by decide)) (dk_at dkX0_standingOf 18 rfl) ?_
          refine W.eq (g2 := F0 m 31 ls [.ref (ra v3.toNatClampNeg)]) rfl ?_
          refine va_get (D := (dC, dI)) (ci := 7) (v := .int (r_struck v3.toNatClampNeg)) (C := RX7) (T := TX7) (N := 6) hx hb hts (fun w h => List.mem_cons_of_mem _ (jnGA_X7 w h)) hown hK (gz_ro hF0 hFA0 hS) (v3.toNatClampNeg) (gz_fam_at (gz_clt (gi_in (n := 24) g_548 (by decide)))) rfl 5 (by decide) (hts _ (List.mem_cons_of_mem _ mGA_322)) (fun _ h9 => h9) rfl (dk_at dkX0_standingOf 19 rfl) ?_
          refine lv_topi (fun x_554 ex_554 => ?_)
          have gx_554 : gi x_554 0 1 := ga_at gr_struck (gi_in (n := 24) g_548 (by decide)) ex_554
          refine lv_if_ne (tgt := 40) hx hb (dk_at dkX0_standingOf 20 rfl) (by decide) (fun c_555 => ?_) (fun c_555 => ?_)
          · have hF := gf_neg (by rw [ex_554] at c_555; exact c_555) hF
            have g_556 : gi x_554 1 1 := gi_ne_lo c_555 gx_554 (gi_c 0 0 (by decide)) (by decide)
            obtain ⟨x_557, ex_557⟩ : ∃ y : Int32, y = v3 + 1 := ⟨_, rfl⟩
            have gx_557 : gi x_557 1 24 := gi_add ex_557 g_548 (gi_c 1 1 (by decide)) (by decide)
            refine lv_iinc (v := x_557) (lv' := [(3, .int x_557), (0, .ref h0), (1, .int p1), (2, .int v2)]) hx hb (dk_at dkX0_standingOf 22 rfl) hl (k := 3) rfl (by rw [ex_557]; rfl) (by decide) rfl (fun ls hl => ?_)
            refine lv_goto (tgt := 4) hx hb (dk_at dkX0_standingOf 23 rfl) (by decide) ?_
            exact ih v2 x_557 _ _ _ (gi_w gx_557 (by decide)) (by first | (rw [ex_557]; exact hF) | ((try rw [ex_557]); exact hF)) (by have av3 := gv3.1; have bv3 := gv3.2; have qgx_557 := gx_557.1; have rgx_557 := gx_557.2; have igx_557 : x_557.toInt = v3.toInt + 1 := (by have hc1 : (1 : Int32).toInt = 1 := (by decide); have h9 := gi_addE ex_557 g_548 (gi_c 1 1 (by decide)) (by decide); rw [hc1] at h9; exact h9); have qgv3 := g_548.1; have rgv3 := g_548.2; omega) hP hS (lv_sub hl [1, 2, 3, 0] rfl)
          · have hF := gf_pos (by rw [ex_554] at c_555; exact c_555) hF
            have g_558 : gi x_554 0 0 := gi_eq c_555 (gi_c 0 0 (by decide))
            obtain ⟨x_559, ex_559⟩ : ∃ y : Int32, y = v2 + 1 := ⟨_, rfl⟩
            refine lv_iinc (v := x_559) (lv' := [(2, .int x_559), (0, .ref h0), (1, .int p1), (3, .int v3)]) hx hb (dk_at dkX0_standingOf 21 rfl) hl (k := 2) rfl (by rw [ex_559]; rfl) (by decide) rfl (fun ls hl => ?_)
            obtain ⟨x_560, ex_560⟩ : ∃ y : Int32, y = v3 + 1 := ⟨_, rfl⟩
            have gx_560 : gi x_560 1 24 := gi_add ex_560 g_548 (gi_c 1 1 (by decide)) (by decide)
            refine lv_iinc (v := x_560) (lv' := [(3, .int x_560), (2, .int x_559), (0, .ref h0), (1, .int p1)]) hx hb (dk_at dkX0_standingOf 22 rfl) hl (k := 3) rfl (by rw [ex_560]; rfl) (by decide) rfl (fun ls hl => ?_)
            refine lv_goto (tgt := 4) hx hb (dk_at dkX0_standingOf 23 rfl) (by decide) ?_
            exact ih x_559 x_560 _ _ _ (gi_w gx_560 (by decide)) (by first | (rw [ex_560, ex_559]; exact hF) | ((try rw [ex_560]); (try rw [ex_559]); exact hF)) (by have av3 := gv3.1; have bv3 := gv3.2; have qgx_560 := gx_560.1; have rgx_560 := gx_560.2; have igx_560 : x_560.toInt = v3.toInt + 1 := (by have hc1 : (1 : Int32).toInt = 1 := (by decide); have h9 := gi_addE ex_560 g_548 (gi_c 1 1 (by decide)) (by decide); rw [hc1] at h9; exact h9); have qgv3 := g_548.1; have rgv3 := g_548.2; omega) hP hS (lv_sub hl [2, 3, 1, 0] rfl)
set_option maxHeartbeats 4000000 in
set_option maxRecDepth 100000 in
theorem sX0_standingOf (l : Launch) (dC : Nat → ClassId) (dI : Nat → Nat → Nat) (h0 : Nat) (re : Nat) (amonths : Int32) (afull : Int32) (alean : Int32) (alines : Int32) (ahasMoon : Int32) (amoonStart : Int32) (amoonStep : Int32) (aplaceCount : Int32) (areportCount : Int32) (adeedCount : Int32) (pl : Nat) (de : Nat) (kre : ClassId) (ra : Nat → Nat) (r_place : Nat → Int32) (r_kind : Nat → Int32) (r_month : Nat → Int32) (r_day : Nat → Int32) (r_known : Nat → Int32) (r_struck : Nat → Int32) (p1 : Int32) (gamonths : gi amonths 0 24) (gafull : gi afull 0 5) (galean : gi alean 0 5) (gahasMoon : gi ahasMoon 0 1) (gaplaceCount : gi aplaceCount 0 6) (gareportCount : gi areportCount 0 24) (gadeedCount : gi adeedCount 0 8) (gr_place : ga r_place 24 0 5) (gr_month : ga r_month 24 0 23) (gr_struck : ga r_struck 24 0 1) : Met l yX0_standingOf (.code yX0_standingOf cX0_standingOf 4 (some .int) :: wsGA) ({ frames := 0, cells := 0, slots := 0, locals := 0 }) (va_Pc [.ref h0, .int p1] (fun U => va_P (dC, dI) vwCl [(h0, .inr (0, [.int amonths, .int afull, .int alean, .int alines, .int ahasMoon, .int amoonStart, .int amoonStep, .int aplaceCount, .int areportCount, .int adeedCount, .ref pl, .ref re, .ref de])), (re, .inl (kre, 24, .inr (.inr (.inr (.inr (fun i => some (ra i)))))))] U.heap ∧ va_K (dC, dI) vwCl [(kre, .object RX7)] U ∧ nzA U ∧ va_P (dC, dI) vwCl (gz_fam 24 ra 7 (fun i => [.int (r_place i), .int (r_kind i), .int (r_month i), .int (r_day i), .int (r_known i), .int (r_struck i)])) U.heap)) (va_Qi (fun (r : Int32) (u : Unit) => (gi r (-2147483648) 2147483647) ∧ r = fX0_standingOf areportCount r_place r_struck p1) (fun _ _ => True) (fun _ => False)) 0 0 (fun _ => False) := by
  refine Met.ofW (cc := cX0_standingOf) (maxL := 4) (ret := (some .int)) (by decide) rfl ?_
  intro p e s m args below meth c s₁ B hml hv
  obtain ⟨rfl, hP, hK, hz, hF0⟩ := hv
  have hx := B.exec
  have hb := B.bytes
  have hr := B.returns
  have hts := atoms_spec (ws := (.code yX0_standingOf cX0_standingOf 4 (some .int) :: wsGA)) B.pre
  have hown : s.vm.findClass RX0 = some m.cls := findClass_of_methodNamed B.named
  have hlocks := B.notSynchronized
  have hS : va_S (fun _ => False) s.heap s.heap [] := va_S.rf
  have hFA0 : gz_ap (fun _ => False) (gz_fam 24 ra 7 (fun i => [.int (r_place i), .int (r_kind i), .int (r_month i), .int (r_day i), .int (r_known i), .int (r_struck i)])) := gz_ap0
  have hl := lv_entry ([.ref h0, .int p1]) (n := 4) (Nat.le_of_ble_eq_true rfl)
  rw [lg_entry_eq]
  generalize (lg_sl ([.ref h0, .int p1]) ++ List.replicate (4 - (lg_sl ([.ref h0, .int p1])).length) Slot.unset).toArray = ls at hl ⊢
  have hl : lv_has ls 4 [(0, .ref h0), (1, .int p1)] := hl
  obtain ⟨RES, hF⟩ : ∃ R9, fX0_standingOf areportCount r_place r_struck p1 = R9 := ⟨_, rfl⟩
  have hR9 := hF
  refine lv_iconst (v := 0) hx hb (dk_at dkX0_standingOf 0 rfl) (by decide) ?_
  refine lv_istore_n (lv' := [(2, .int 0), (0, .ref h0), (1, .int p1)]) hx hb (dk_at dkX0_standingOf 1 rfl) rfl hl (by decide) rfl (fun ls hl => ?_)
  refine lv_iconst (v := 0) hx hb (dk_at dkX0_standingOf 2 rfl) (by decide) ?_
  refine lv_istore_n (lv' := [(3, .int 0), (2, .int 0), (0, .ref h0), (1, .int p1)]) hx hb (dk_at dkX0_standingOf 3 rfl) rfl hl (by decide) rfl (fun ls hl => ?_)
  refine (lp_sX0_standingOf h0 re amonths afull alean alines ahasMoon amoonStart amoonStep aplaceCount areportCount adeedCount pl de kre ra r_place r_kind r_month r_day r_known r_struck p1 gamonths gafull galean gahasMoon gaplaceCount gareportCount gadeedCount gr_place gr_month gr_struck hx hb hml hown hts hK hz hF0 hFA0 (Nat.le_of_ble_eq_true rfl) (Nat.le_of_ble_eq_true rfl) (Nat.zero_le _) (Nat.zero_le _) (fun v H locs ls hF hP hS hl => ?_) 1000000000) 0 0 _ _ _ (gi_w (gi_c 0 0 (by decide)) (by decide)) hF (by have k0 : (0 : Int32).toInt = 0 := (by decide); omega) hP hS (lv_sub hl [2, 3, 1, 0] rfl)
  · skip
    exact W.iret (v := v) hx hb hr (fun t ht hW => ⟨⟨v, (), rfl, ⟨(gi_any v), hF.trans hR9.symm⟩, trivial⟩, hS.F ht⟩) hS.2.2 (dk_at dkX0_standingOf 25 rfl)
noncomputable def lsX0_standing : List (Nat × Instr × Nat) := [(0, .iconst 0, 1), (1, .istore_n 1, 1), (2, .iconst 0, 1), (3, .istore_n 2, 1), (4, .iload_n 2, 1), (5, .aload_n 0, 1), (6, .getfield 55, 3), (9, .if_icmp .ge 17, 3), (12, .iload_n 1, 1), (13, .aload_n 0, 1), (14, .iload_n 2, 1), (15, .invokevirtual 107, 3), (18, .iadd, 1), (19, .istore_n 1, 1), (20, .iinc 2 1, 3), (23, .goto (-19), 3), (26, .iload_n 1, 1), (27, .ireturn, 1)]
theorem dkX0_standing : dkAll cX0_standing lsX0_standing = true := dk_fast (by decide +kernel)
noncomputable def dfX0_standing_4 (aplaceCount : Int32) (areportCount : Int32) (r_place : Nat → Int32) (r_struck : Nat → Int32) (K : (Int32 → Int32 → Int32)) (v1 : Int32) (v2 : Int32) : Int32 := if aplaceCount ≤ v2 then v1 else (cal (fun o1 => K (v1 + o1) (v2 + (1 : Int32))) (fX0_standingOf areportCount r_place r_struck v2))
noncomputable def lfX0_standing (aplaceCount : Int32) (areportCount : Int32) (r_place : Nat → Int32) (r_struck : Nat → Int32) (z : Nat) : (Int32 → Int32 → Int32) := Nat.rec (motive := fun _ => (Int32 → Int32 → Int32)) (fun _ _ => (0)) (fun _ K => dfX0_standing_4 aplaceCount areportCount r_place r_struck K) z
noncomputable def fX0_standing (aplaceCount : Int32) (areportCount : Int32) (r_place : Nat → Int32) (r_struck : Nat → Int32) : Int32 := (lfX0_standing aplaceCount areportCount r_place r_struck 1000000000) (0 : Int32) (0 : Int32)
set_option maxHeartbeats 4000000 in
set_option maxRecDepth 100000 in
theorem lp_sX0_standing {p : Program} {l : Launch} {e : Env} {R : Room} {s : State} {m : MethodId} {args : Array Value} {below : List Frame} {meth : Method} {c : Code} {Q : State → Prop} {A : Nat → Prop} {cells slots : Nat} {dC : Nat → ClassId} {dI : Nat → Nat → Nat} {RES : Int32} (h0 : Nat) (re : Nat) (amonths : Int32) (afull : Int32) (alean : Int32) (alines : Int32) (ahasMoon : Int32) (amoonStart : Int32) (amoonStep : Int32) (aplaceCount : Int32) (areportCount : Int32) (adeedCount : Int32) (pl : Nat) (de : Nat) (kre : ClassId) (ra : Nat → Nat) (r_place : Nat → Int32) (r_kind : Nat → Int32) (r_month : Nat → Int32) (r_day : Nat → Int32) (r_known : Nat → Int32) (r_struck : Nat → Int32) (gamonths : gi amonths 0 24) (gafull : gi afull 0 5) (galean : gi alean 0 5) (gahasMoon : gi ahasMoon 0 1) (gaplaceCount : gi aplaceCount 0 6) (gareportCount : gi areportCount 0 24) (gadeedCount : gi adeedCount 0 8) (gr_place : ga r_place 24 0 5) (gr_month : ga r_month 24 0 23) (gr_struck : ga r_struck 24 0 1) (hx : p.tables.exec = Jvm.exec) (hb : c.code = cX0_standing) (hml : c.maxLocals = 3) (hown : s.vm.findClass RX0 = some m.cls) (hts : ∀ w ∈ ((.code yX0_standing cX0_standing 3 (some .int) :: wsGA) : List Cond), w.before args s = true) (hK : va_K (dC, dI) vwCl [(kre, .object RX7)] s) (hz : nzA s) (hF0 : va_P (dC, dI) vwCl (gz_fam 24 ra 7 (fun i => [.int (r_place i), .int (r_kind i), .int (r_month i), .int (r_day i), .int (r_known i), .int (r_struck i)])) s.heap) (hFA0 : gz_ap A (gz_fam 24 ra 7 (fun i => [.int (r_place i), .int (r_kind i), .int (r_month i), .int (r_day i), .int (r_known i), .int (r_struck i)]))) (hRf : 1 ≤ R.frames) (hRl : 23 ≤ R.locals) (hRc : cells ≤ R.cells) (hRs : slots ≤ R.slots) (kr27 : ∀ (v : Int32) (H : Heap) (locs : List Loc) (ls : Array Slot), v = RES → va_P (dC, dI) vwCl [(h0, .inr (0, [.int amonths, .int afull, .int alean, .int alines, .int ahasMoon, .int amoonStart, .int amoonStep, .int aplaceCount, .int areportCount, .int adeedCount, .ref pl, .ref re, .ref de])), (re, .inl (kre, 24, .inr (.inr (.inr (.inr (fun i => some (ra i)))))))] H → va_S A s.heap H locs → lv_has ls 3 [] → W p l e R s m args below meth c H locs cells slots Q (F0 m 27 ls [.int v])) : ∀ z : Nat, (∀ (v1 : Int32) (v2 : Int32) (H : Heap) (locs : List Loc) (ls : Array Slot), gi v2 0 6 → (lfX0_standing aplaceCount areportCount r_place r_struck z) v1 v2 = RES → 13 + (-2) * v2.toInt < (z : Int) → va_P (dC, dI) vwCl [(h0, .inr (0, [.int amonths, .int afull, .int alean, .int alines, .int ahasMoon, .int amoonStart, .int amoonStep, .int aplaceCount, .int areportCount, .int adeedCount, .ref pl, .ref re, .ref de])), (re, .inl (kre, 24, .inr (.inr (.inr (.inr (fun i => some (ra i)))))))] H → va_S A s.heap H locs → lv_has ls 3 [(0, .ref h0), (1, .int v1), (2, .int v2)] → W p l e R s m args below meth c H locs cells slots Q (F0 m 4 ls [])) := by
  intro z
  induction z with
  | zero =>
    intro v1 v2 H locs ls gv2 hF hmu hP hS hl
    exact absurd hmu (by have hv21 := gv2.1; have hv22 := gv2.2; omega)
  | succ z ih =>
      intro v1 v2 H locs ls gv2 hF hmu hP hS hl
      have hF : dfX0_standing_4 aplaceCount areportCount r_place r_struck (lfX0_standing aplaceCount areportCount r_place r_struck z) v1 v2 = RES := hF
      refine lv_iload_n hx hb (dk_at dkX0_standing 4 rfl) rfl (lv_at hl 2 rfl) ?_
      refine lv_aload_n hx hb (dk_at dkX0_standing 5 rfl) rfl (lv_at hl 0 rfl) ?_
      refine va_get (D := (dC, dI)) (ci := 0) (v := .int aplaceCount) (C := RX0) (T := TX0) (N := 13) hx hb hts (fun w h => List.mem_cons_of_mem _ (jnGA_X0 w h)) hown hK hP 0 rfl rfl 7 (by decide) (hts _ (List.mem_cons_of_mem _ mGA_159)) (fun _ h9 => h9) rfl (dk_at dkX0_standing 6 rfl) ?_
      refine lv_icmp_ge (tgt := 26) hx hb (dk_at dkX0_standing 7 rfl) (by decide) (fun c_43 => ?_) (fun c_43 => ?_)
      · have hF := gf_pos c_43 hF
        refine lv_iload_n hx hb (dk_at dkX0_standing 16 rfl) rfl (lv_at hl 1 rfl) ?_
        exact kr27 v1 _ _ _ hF hP hS (lv_sub hl [] rfl)
      · have hF := gf_neg c_43 hF
        have g_44 : gi v2 0 5 := gi_lt_l (Int32.not_le.mp c_43) gv2 gaplaceCount (by decide)
        have g_45 : gi aplaceCount 1 6 := gi_lt_r (Int32.not_le.mp c_43) gv2 gaplaceCount (by decide)
        refine lv_iload_n hx hb (dk_at dkX0_standing 8 rfl) rfl (lv_at hl 1 rfl) ?_
        refine lv_aload_n hx hb (dk_at dkX0_standing 9 rfl) rfl (lv_at hl 0 rfl) ?_
        refine lv_iload_n hx hb (dk_at dkX0_standing 10 rfl) rfl (lv_at hl 2 rfl) ?_
        refine va_calli (va_runV (As := [.int v2]) (rest := [.int v1]) ⟨hx, hb, hml, hown, hts⟩ (sX0_standingOf l dC dI h0 re amonths afull alean alines ahasMoon amoonStart amoonStep aplaceCount areportCount adeedCount pl de kre ra r_place r_kind r_month r_day r_known r_struck v2 gamonths gafull galean gahasMoon (gi_w g_45 (by decide)) gareportCount gadeedCount gr_place gr_month gr_struck) (cwV 1 hts (gz_gV mGA_906 mGA_375 mGA_376 mGA_13 mGA_377 goodGA) rfl rfl rfl hdV_X0_standingOf_X0_1 ⟨Nat.le_trans (Nat.le_of_ble_eq_true rfl) hRf, Nat.le_trans (Nat.le_of_ble_eq_true rfl) hRl⟩) ⟨bl_I (bl_a bl_P (bl_a bl_K (bl_a bl_nz bl_P))), va_recv hK hP (ci := 0) (q0 := 0) rfl rfl, fun U hU hW => ⟨rfl, by rw [hU]; exact hP, va_K.moved hW.alike hK, nzA_warm hW hz, by rw [hU]; exact gz_ro hF0 hFA0 hS⟩⟩ rfl rfl hl.1 rfl (lv_room (Nat.le_of_ble_eq_true rfl)) (dk_at dkX0_standing 11 rfl) ⟨hRc, hRs⟩) hS (fun q _ h => h.elim) (fun q h => h.elim) (fun r_46 u t H1 locs ht hvm hw hB hz1 hk1 hS => ?_)
        obtain ⟨hw, hE⟩ := hw
        have hP := gz_keep hP hk1
        have hF := gf_call (a := r_46) hE hF
        generalize H1 = H at hP hS ⊢
        refine lv_iadd hx hb (dk_at dkX0_standing 12 rfl) ?_
        refine lv_topi (fun x_47 ex_47 => ?_)
        refine lv_istore_n (lv' := [(1, .int x_47), (0, .ref h0), (2, .int v2)]) hx hb (dk_at dkX0_standing 13 rfl) rfl hl (by decide) rfl (fun ls hl => ?_)
        obtain ⟨x_48, ex_48⟩ : ∃ y : Int32, y = v2 + 1 := ⟨_, rfl⟩
        have gx_48 : gi x_48 1 6 := gi_add ex_48 g_44 (gi_c 1 1 (by decide)) (by decide)
        refine lv_iinc (v := x_48) (lv' := [(2, .int x_48), (1, .int x_47), (0, .ref h0)]) hx hb (dk_at dkX0_standing 14 rfl) hl (k := 2) rfl (by rw [ex_48]; rfl) (by decide) rfl (fun ls hl => ?_)
        refine lv_goto (tgt := 4) hx hb (dk_at dkX0_standing 15 rfl) (by decide) ?_
        exact ih x_47 x_48 _ _ _ (gi_w gx_48 (by decide)) (by first | (rw [ex_48, ex_47]; exact hF) | ((try rw [ex_48]); (try rw [ex_47]); exact hF)) (by have av2 := gv2.1; have bv2 := gv2.2; have qgx_48 := gx_48.1; have rgx_48 := gx_48.2; have igx_48 : x_48.toInt = v2.toInt + 1 := (by have hc1 : (1 : Int32).toInt = 1 := (by decide); have h9 := gi_addE ex_48 g_44 (gi_c 1 1 (by decide)) (by decide); rw [hc1] at h9; exact h9); have qgv2 := g_44.1; have rgv2 := g_44.2; omega) hP hS (lv_sub hl [2, 1, 0] rfl)
set_option maxHeartbeats 4000000 in
set_option maxRecDepth 100000 in
theorem sX0_standing (l : Launch) (dC : Nat → ClassId) (dI : Nat → Nat → Nat) (h0 : Nat) (re : Nat) (amonths : Int32) (afull : Int32) (alean : Int32) (alines : Int32) (ahasMoon : Int32) (amoonStart : Int32) (amoonStep : Int32) (aplaceCount : Int32) (areportCount : Int32) (adeedCount : Int32) (pl : Nat) (de : Nat) (kre : ClassId) (ra : Nat → Nat) (r_place : Nat → Int32) (r_kind : Nat → Int32) (r_month : Nat → Int32) (r_day : Nat → Int32) (r_known : Nat → Int32) (r_struck : Nat → Int32) (gamonths : gi amonths 0 24) (gafull : gi afull 0 5) (galean : gi alean 0 5) (gahasMoon : gi ahasMoon 0 1) (gaplaceCount : gi aplaceCount 0 6) (gareportCount : gi areportCount 0 24) (gadeedCount : gi adeedCount 0 8) (gr_place : ga r_place 24 0 5) (gr_month : ga r_month 24 0 23) (gr_struck : ga r_struck 24 0 1) : Met l yX0_standing (.code yX0_standing cX0_standing 3 (some .int) :: wsGA) ({ frames := 1, cells := 0, slots := 0, locals := 23 }) (va_Pc [.ref h0] (fun U => va_P (dC, dI) vwCl [(h0, .inr (0, [.int amonths, .int afull, .int alean, .int alines, .int ahasMoon, .int amoonStart, .int amoonStep, .int aplaceCount, .int areportCount, .int adeedCount, .ref pl, .ref re, .ref de])), (re, .inl (kre, 24, .inr (.inr (.inr (.inr (fun i => some (ra i)))))))] U.heap ∧ va_K (dC, dI) vwCl [(kre, .object RX7)] U ∧ nzA U ∧ va_P (dC, dI) vwCl (gz_fam 24 ra 7 (fun i => [.int (r_place i), .int (r_kind i), .int (r_month i), .int (r_day i), .int (r_known i), .int (r_struck i)])) U.heap)) (va_Qi (fun (r : Int32) (u : Unit) => (gi r (-2147483648) 2147483647) ∧ r = fX0_standing aplaceCount areportCount r_place r_struck) (fun _ _ => True) (fun _ => False)) 0 0 (fun _ => False) := by
  refine Met.ofW (cc := cX0_standing) (maxL := 3) (ret := (some .int)) (by decide) rfl ?_
  intro p e s m args below meth c s₁ B hml hv
  obtain ⟨rfl, hP, hK, hz, hF0⟩ := hv
  have hx := B.exec
  have hb := B.bytes
  have hr := B.returns
  have hts := atoms_spec (ws := (.code yX0_standing cX0_standing 3 (some .int) :: wsGA)) B.pre
  have hown : s.vm.findClass RX0 = some m.cls := findClass_of_methodNamed B.named
  have hlocks := B.notSynchronized
  have hS : va_S (fun _ => False) s.heap s.heap [] := va_S.rf
  have hFA0 : gz_ap (fun _ => False) (gz_fam 24 ra 7 (fun i => [.int (r_place i), .int (r_kind i), .int (r_month i), .int (r_day i), .int (r_known i), .int (r_struck i)])) := gz_ap0
  have hl := lv_entry ([.ref h0]) (n := 3) (Nat.le_of_ble_eq_true rfl)
  rw [lg_entry_eq]
  generalize (lg_sl ([.ref h0]) ++ List.replicate (3 - (lg_sl ([.ref h0])).length) Slot.unset).toArray = ls at hl ⊢
  have hl : lv_has ls 3 [(0, .ref h0)] := hl
  obtain ⟨RES, hF⟩ : ∃ R9, fX0_standing aplaceCount areportCount r_place r_struck = R9 := ⟨_, rfl⟩
  have hR9 := hF
  refine lv_iconst (v := 0) hx hb (dk_at dkX0_standing 0 rfl) (by decide) ?_
  refine lv_istore_n (lv' := [(1, .int 0), (0, .ref h0)]) hx hb (dk_at dkX0_standing 1 rfl) rfl hl (by decide) rfl (fun ls hl => ?_)
  refine lv_iconst (v := 0) hx hb (dk_at dkX0_standing 2 rfl) (by decide) ?_
  refine lv_istore_n (lv' := [(2, .int 0), (1, .int 0), (0, .ref h0)]) hx hb (dk_at dkX0_standing 3 rfl) rfl hl (by decide) rfl (fun ls hl => ?_)
  refine (lp_sX0_standing h0 re amonths afull alean alines ahasMoon amoonStart amoonStep aplaceCount areportCount adeedCount pl de kre ra r_place r_kind r_month r_day r_known r_struck gamonths gafull galean gahasMoon gaplaceCount gareportCount gadeedCount gr_place gr_month gr_struck hx hb hml hown hts hK hz hF0 hFA0 (Nat.le_of_ble_eq_true rfl) (Nat.le_of_ble_eq_true rfl) (Nat.zero_le _) (Nat.zero_le _) (fun v H locs ls hF hP hS hl => ?_) 1000000000) 0 0 _ _ _ (gi_w (gi_c 0 0 (by decide)) (by decide)) hF (by have k0 : (0 : Int32).toInt = 0 := (by decide); omega) hP hS (lv_sub hl [2, 1, 0] rfl)
  · skip
    exact W.iret (v := v) hx hb hr (fun t ht hW => ⟨⟨v, (), rfl, ⟨(gi_any v), hF.trans hR9.symm⟩, trivial⟩, hS.F ht⟩) hS.2.2 (dk_at dkX0_standing 17 rfl)
noncomputable def lsX0_knownBits : List (Nat × Instr × Nat) := [(0, .iconst 0, 1), (1, .istore_n 2, 1), (2, .iconst 0, 1), (3, .istore_n 3, 1), (4, .iload_n 3, 1), (5, .aload_n 0, 1), (6, .getfield 58, 3), (9, .if_icmp .ge 28, 3), (12, .aload_n 0, 1), (13, .getfield 19, 3), (16, .iload_n 3, 1), (17, .aaload, 1), (18, .iload_n 1, 1), (19, .invokevirtual 111, 3), (22, .ifCond .eq 9, 3), (25, .iload_n 2, 1), (26, .iconst 1, 1), (27, .iload_n 3, 1), (28, .ishl, 1), (29, .ior, 1), (30, .istore_n 2, 1), (31, .iinc 3 1, 3), (34, .goto (-30), 3), (37, .iload_n 2, 1), (38, .ireturn, 1)]
theorem dkX0_knownBits : dkAll cX0_knownBits lsX0_knownBits = true := dk_fast (by decide +kernel)
noncomputable def bfX0_knownBits_31 (areportCount : Int32) (r_known : Nat → Int32) (r_struck : Nat → Int32) (p1 : Int32) (K : (Int32 → Int32 → Int32)) (v2 : Int32) (v3 : Int32) : Int32 := K v2 (v3 + (1 : Int32))
noncomputable def dfX0_knownBits_4 (areportCount : Int32) (r_known : Nat → Int32) (r_struck : Nat → Int32) (p1 : Int32) (K : (Int32 → Int32 → Int32)) (v2 : Int32) (v3 : Int32) : Int32 := if areportCount ≤ v3 then v2 else (cal (fun o1 => if o1 = (0 : Int32) then (bfX0_knownBits_31 areportCount r_known r_struck p1 K v2 v3) else (bfX0_knownBits_31 areportCount r_known r_struck p1 K (v2 ||| ((1 : Int32) <<< (v3 &&& 31))) v3)) (fX7_isKnownBy (r_known v3.toNatClampNeg) (r_struck v3.toNatClampNeg) p1))
noncomputable def lfX0_knownBits (areportCount : Int32) (r_known : Nat → Int32) (r_struck : Nat → Int32) (p1 : Int32) (z : Nat) : (Int32 → Int32 → Int32) := Nat.rec (motive := fun _ => (Int32 → Int32 → Int32)) (fun _ _ => (0)) (fun _ K => dfX0_knownBits_4 areportCount r_known r_struck p1 K) z
noncomputable def fX0_knownBits (areportCount : Int32) (r_known : Nat → Int32) (r_struck : Nat → Int32) (p1 : Int32) : Int32 := (lfX0_knownBits areportCount r_known r_struck p1 1000000000) (0 : Int32) (0 : Int32)
set_option maxHeartbeats 4000000 in
set_option maxRecDepth 100000 in
theorem lp_sX0_knownBits {p : Program} {l : Launch} {e : Env} {R : Room} {s : State} {m : MethodId} {args : Array Value} {below : List Frame} {meth : Method} {c : Code} {Q : State → Prop} {A : Nat → Prop} {cells slots : Nat} {dC : Nat → ClassId} {dI : Nat → Nat → Nat} {RES : Int32} (h0 : Nat) (re : Nat) (amonths : Int32) (afull : Int32) (alean : Int32) (alines : Int32) (ahasMoon : Int32) (amoonStart : Int32) (amoonStep : Int32) (aplaceCount : Int32) (areportCount : Int32) (adeedCount : Int32) (pl : Nat) (de : Nat) (kre : ClassId) (ra : Nat → Nat) (r_place : Nat → Int32) (r_kind : Nat → Int32) (r_month : Nat → Int32) (r_day : Nat → Int32) (r_known : Nat → Int32) (r_struck : Nat → Int32) (p1 : Int32) (gamonths : gi amonths 0 24) (gafull : gi afull 0 5) (galean : gi alean 0 5) (gahasMoon : gi ahasMoon 0 1) (gaplaceCount : gi aplaceCount 0 6) (gareportCount : gi areportCount 0 24) (gadeedCount : gi adeedCount 0 8) (gr_place : ga r_place 24 0 5) (gr_month : ga r_month 24 0 23) (gr_struck : ga r_struck 24 0 1) (hx : p.tables.exec = Jvm.exec) (hb : c.code = cX0_knownBits) (hml : c.maxLocals = 4) (hown : s.vm.findClass RX0 = some m.cls) (hts : ∀ w ∈ ((.code yX0_knownBits cX0_knownBits 4 (some .int) :: wsGA) : List Cond), w.before args s = true) (hK : va_K (dC, dI) vwCl [(kre, .object RX7)] s) (hz : nzA s) (hF0 : va_P (dC, dI) vwCl (gz_fam 24 ra 7 (fun i => [.int (r_place i), .int (r_kind i), .int (r_month i), .int (r_day i), .int (r_known i), .int (r_struck i)])) s.heap) (hFA0 : gz_ap A (gz_fam 24 ra 7 (fun i => [.int (r_place i), .int (r_kind i), .int (r_month i), .int (r_day i), .int (r_known i), .int (r_struck i)]))) (hRf : 1 ≤ R.frames) (hRl : 21 ≤ R.locals) (hRc : cells ≤ R.cells) (hRs : slots ≤ R.slots) (kr38 : ∀ (v : Int32) (H : Heap) (locs : List Loc) (ls : Array Slot), v = RES → va_P (dC, dI) vwCl [(h0, .inr (0, [.int amonths, .int afull, .int alean, .int alines, .int ahasMoon, .int amoonStart, .int amoonStep, .int aplaceCount, .int areportCount, .int adeedCount, .ref pl, .ref re, .ref de])), (re, .inl (kre, 24, .inr (.inr (.inr (.inr (fun i => some (ra i)))))))] H → va_S A s.heap H locs → lv_has ls 4 [] → W p l e R s m args below meth c H locs cells slots Q (F0 m 38 ls [.int v])) : ∀ z : Nat, (∀ (v2 : Int32) (v3 : Int32) (H : Heap) (locs : List Loc) (ls : Array Slot), gi v3 0 24 → (lfX0_knownBits areportCount r_known r_struck p1 z) v2 v3 = RES → 49 + (-2) * v3.toInt < (z : Int) → va_P (dC, dI) vwCl [(h0, .inr (0, [.int amonths, .int afull, .int alean, .int alines, .int ahasMoon, .int amoonStart, .int amoonStep, .int aplaceCount, .int areportCount, .int adeedCount, .ref pl, .ref re, .ref de])), (re, .inl (kre, 24, .inr (.inr (.inr (.inr (fun i => some (ra i)))))))] H → va_S A s.heap H locs → lv_has ls 4 [(0, .ref h0), (1, .int p1), (2, .int v2), (3, .int v3)] → W p l e R s m args below meth c H locs cells slots Q (F0 m 4 ls [])) := by
  intro z
  induction z with
  | zero =>
    intro v2 v3 H locs ls gv3 hF hmu hP hS hl
    exact absurd hmu (by have hv31 := gv3.1; have hv32 := gv3.2; omega)
  | succ z ih =>
      intro v2 v3 H locs ls gv3 hF hmu hP hS hl
      have hF : dfX0_knownBits_4 areportCount r_known r_struck p1 (lfX0_knownBits areportCount r_known r_struck p1 z) v2 v3 = RES := hF
      refine lv_iload_n hx hb (dk_at dkX0_knownBits 4 rfl) rfl (lv_at hl 3 rfl) ?_
      refine lv_aload_n hx hb (dk_at dkX0_knownBits 5 rfl) rfl (lv_at hl 0 rfl) ?_
      refine va_get (D := (dC, dI)) (ci := 0) (v := .int areportCount) (C := RX0) (T := TX0) (N := 13) hx hb hts (fun w h => List.mem_cons_of_mem _ (jnGA_X0 w h)) hown hK hP 0 rfl rfl 8 (by decide) (hts _ (List.mem_cons_of_mem _ mGA_160)) (fun _ h9 => h9) rfl (dk_at dkX0_knownBits 6 rfl) ?_
      refine lv_icmp_ge (tgt := 37) hx hb (dk_at dkX0_knownBits 7 rfl) (by decide) (fun c_166 => ?_) (fun c_166 => ?_)
      · have hF := gf_pos c_166 hF
        refine lv_iload_n hx hb (dk_at dkX0_knownBits 23 rfl) rfl (lv_at hl 2 rfl) ?_
        exact kr38 v2 _ _ _ hF hP hS (lv_sub hl [] rfl)
      · have hF := gf_neg c_166 hF
        have g_167 : gi v3 0 23 := gi_lt_l (Int32.not_le.mp c_166) gv3 gareportCount (by decide)
        have g_168 : gi areportCount 1 24 := gi_lt_r (Int32.not_le.mp c_166) gv3 gareportCount (by decide)
        refine lv_aload_n hx hb (dk_at dkX0_knownBits 8 rfl) rfl (lv_at hl 0 rfl) ?_
        refine va_get (D := (dC, dI)) (ci := 0) (v := .ref re) (C := RX0) (T := TX0) (N := 13) hx hb hts (fun w h => List.mem_cons_of_mem _ (jnGA_X0 w h)) hown hK hP 0 rfl rfl 11 (by decide) (hts _ (List.mem_cons_of_mem _ mGA_72)) (fun _ h9 => h9) rfl (dk_at dkX0_knownBits 9 rfl) ?_
        refine lv_iload_n hx hb (dk_at dkX0_knownBits 10 rfl) rfl (lv_at hl 3 rfl) ?_
        refine va_aldq hx hb hK hP 1 0 rfl rfl (gi_in g_167 (by decide)) (dk_at dkX0_knownBits 11 rfl) ?_
        refine W.eq (g2 := F0 m 18 ls [.ref (ra v3.toNatClampNeg)]) rfl ?_
        refine lv_iload_n hx hb (dk_at dkX0_knownBits 12 rfl) rfl (lv_at hl 1 rfl) ?_
        have hPc : va_P (dC, dI) vwCl [((ra v3.toNatClampNeg), .inr (7, [.int (r_place v3.toNatClampNeg), .int (r_kind v3.toNatClampNeg), .int (r_month v3.toNatClampNeg), .int (r_day v3.toNatClampNeg), .int (r_known v3.toNatClampNeg), .int (r_struck v3.toNatClampNeg)]))] H := (gz_fam1 (gz_ro hF0 hFA0 hS) (gz_clt (gi_in (n := 24) g_167 (by decide))))
        have hKc := hK.sub (tys' := []) [] rfl
        refine va_calli (va_runV (As := [.int p1]) (rest := []) ⟨hx, hb, hml, hown, hts⟩ (sX7_isKnownBy l dC dI (ra v3.toNatClampNeg) (r_place v3.toNatClampNeg) (r_kind v3.toNatClampNeg) (r_month v3.toNatClampNeg) (r_day v3.toNatClampNeg) (r_known v3.toNatClampNeg) (r_struck v3.toNatClampNeg) p1 (ga_ix gr_place (gi_in (n := 24) g_167 (by decide))) (ga_ix gr_month (gi_in (n := 24) g_167 (by decide))) (ga_ix gr_struck (gi_in (n := 24) g_167 (by decide)))) (cwV 1 hts (gz_gV mGA_437 mGA_438 mGA_439 mGA_78 mGA_440 goodGA) rfl rfl rfl hdV_X7_isKnownBy_X7_1 ⟨Nat.le_trans (Nat.le_of_ble_eq_true rfl) hRf, Nat.le_trans (Nat.le_of_ble_eq_true rfl) hRl⟩) ⟨bl_I (bl_a bl_P (bl_a bl_K bl_nz)), va_recv hKc hPc (ci := 7) (q0 := 0) rfl rfl, fun U hU hW => ⟨rfl, by rw [hU]; exact hPc, va_K.moved hW.alike hKc, nzA_warm hW hz⟩⟩ rfl rfl hl.1 rfl (lv_room (Nat.le_of_ble_eq_true rfl)) (dk_at dkX0_knownBits 13 rfl) ⟨hRc, hRs⟩) hS (fun q _ h => h.elim) (fun q h => h.elim) (fun r_169 u t H1 locs ht hvm hw hB hz1 hk1 hS => ?_)
        obtain ⟨hw, hE⟩ := hw
        have hP := gz_keep hP hk1
        have hF := gf_call (a := r_169) hE hF
        generalize H1 = H at hP hS ⊢
        have gr_169 : gi r_169 0 1 := hw
        refine lv_if_eq (tgt := 31) hx hb (dk_at dkX0_knownBits 14 rfl) (by decide) (fun c_170 => ?_) (fun c_170 => ?_)
        · have hF := gf_pos c_170 hF
          have g_171 : gi r_169 0 0 := gi_eq c_170 (gi_c 0 0 (by decide))
          obtain ⟨x_172, ex_172⟩ : ∃ y : Int32, y = v3 + 1 := ⟨_, rfl⟩
          have gx_172 : gi x_172 1 24 := gi_add ex_172 g_167 (gi_c 1 1 (by decide)) (by decide)
          refine lv_iinc (v := x_172) (lv' := [(3, .int x_172), (0, .ref h0), (1, .int p1), (2, .int v2)]) hx hb (dk_at dkX0_knownBits 21 rfl) hl (k := 3) rfl (by rw [ex_172]; rfl) (by decide) rfl (fun ls hl => ?_)
          refine lv_goto (tgt := 4) hx hb (dk_at dkX0_knownBits 22 rfl) (by decide) ?_
          exact ih v2 x_172 _ _ _ (gi_w gx_172 (by decide)) (by first | (rw [ex_172]; exact hF) | ((try rw [ex_172]); exact hF)) (by have av3 := gv3.1; have bv3 := gv3.2; have qgx_172 := gx_172.1; have rgx_172 := gx_172.2; have igx_172 : x_172.toInt = v3.toInt + 1 := (by have hc1 : (1 : Int32).toInt = 1 := (by decide); have h9 := gi_addE ex_172 g_167 (gi_c 1 1 (by decide)) (by decide); rw [hc1] at h9; exact h9); have qgv3 := g_167.1; have rgv3 := g_167.2; omega) hP hS (lv_sub hl [1, 2, 3, 0] rfl)
        · have hF := gf_neg c_170 hF
          have g_173 : gi r_169 1 1 := gi_ne_lo c_170 gr_169 (gi_c 0 0 (by decide)) (by decide)
          refine lv_iload_n hx hb (dk_at dkX0_knownBits 15 rfl) rfl (lv_at hl 2 rfl) ?_
          refine lv_iconst (v := 1) hx hb (dk_at dkX0_knownBits 16 rfl) (by decide) ?_
          refine lv_iload_n hx hb (dk_at dkX0_knownBits 17 rfl) rfl (lv_at hl 3 rfl) ?_
          refine lv_ishl hx hb (dk_at dkX0_knownBits 18 rfl) ?_
          refine lv_topi (fun x_174 ex_174 => ?_)
          refine lv_ior hx hb (dk_at dkX0_knownBits 19 rfl) ?_
          refine lv_topi (fun x_175 ex_175 => ?_)
          refine lv_istore_n (lv' := [(2, .int x_175), (0, .ref h0), (1, .int p1), (3, .int v3)]) hx hb (dk_at dkX0_knownBits 20 rfl) rfl hl (by decide) rfl (fun ls hl => ?_)
          obtain ⟨x_176, ex_176⟩ : ∃ y : Int32, y = v3 + 1 := ⟨_, rfl⟩
          have gx_176 : gi x_176 1 24 := gi_add ex_176 g_167 (gi_c 1 1 (by decide)) (by decide)
          refine lv_iinc (v := x_176) (lv' := [(3, .int x_176), (2, .int x_175), (0, .ref h0), (1, .int p1)]) hx hb (dk_at dkX0_knownBits 21 rfl) hl (k := 3) rfl (by rw [ex_176]; rfl) (by decide) rfl (fun ls hl => ?_)
          refine lv_goto (tgt := 4) hx hb (dk_at dkX0_knownBits 22 rfl) (by decide) ?_
          exact ih x_175 x_176 _ _ _ (gi_w gx_176 (by decide)) (by first | (rw [ex_176, ex_175, ex_174]; exact hF) | ((try rw [ex_176]); (try rw [ex_175]); (try rw [ex_174]); exact hF)) (by have av3 := gv3.1; have bv3 := gv3.2; have qgx_176 := gx_176.1; have rgx_176 := gx_176.2; have igx_176 : x_176.toInt = v3.toInt + 1 := (by have hc1 : (1 : Int32).toInt = 1 := (by decide); have h9 := gi_addE ex_176 g_167 (gi_c 1 1 (by decide)) (by decide); rw [hc1] at h9; exact h9); have qgv3 := g_167.1; have rgv3 := g_167.2; omega) hP hS (lv_sub hl [2, 3, 1, 0] rfl)
set_option maxHeartbeats 4000000 in
set_option maxRecDepth 100000 in
theorem sX0_knownBits (l : Launch) (dC : Nat → ClassId) (dI : Nat → Nat → Nat) (h0 : Nat) (re : Nat) (amonths : Int32) (afull : Int32) (alean : Int32) (alines : Int32) (ahasMoon : Int32) (amoonStart : Int32) (amoonStep : Int32) (aplaceCount : Int32) (areportCount : Int32) (adeedCount : Int32) (pl : Nat) (de : Nat) (kre : ClassId) (ra : Nat → Nat) (r_place : Nat → Int32) (r_kind : Nat → Int32) (r_month : Nat → Int32) (r_day : Nat → Int32) (r_known : Nat → Int32) (r_struck : Nat → Int32) (p1 : Int32) (gamonths : gi amonths 0 24) (gafull : gi afull 0 5) (galean : gi alean 0 5) (gahasMoon : gi ahasMoon 0 1) (gaplaceCount : gi aplaceCount 0 6) (gareportCount : gi areportCount 0 24) (gadeedCount : gi adeedCount 0 8) (gr_place : ga r_place 24 0 5) (gr_month : ga r_month 24 0 23) (gr_struck : ga r_struck 24 0 1) : Met l yX0_knownBits (.code yX0_knownBits cX0_knownBits 4 (some .int) :: wsGA) ({ frames := 1, cells := 0, slots := 0, locals := 21 }) (va_Pc [.ref h0, .int p1] (fun U => va_P (dC, dI) vwCl [(h0, .inr (0, [.int amonths, .int afull, .int alean, .int alines, .int ahasMoon, .int amoonStart, .int amoonStep, .int aplaceCount, .int areportCount, .int adeedCount, .ref pl, .ref re, .ref de])), (re, .inl (kre, 24, .inr (.inr (.inr (.inr (fun i => some (ra i)))))))] U.heap ∧ va_K (dC, dI) vwCl [(kre, .object RX7)] U ∧ nzA U ∧ va_P (dC, dI) vwCl (gz_fam 24 ra 7 (fun i => [.int (r_place i), .int (r_kind i), .int (r_month i), .int (r_day i), .int (r_known i), .int (r_struck i)])) U.heap)) (va_Qi (fun (r : Int32) (u : Unit) => (gi r (-2147483648) 2147483647) ∧ r = fX0_knownBits areportCount r_known r_struck p1) (fun _ _ => True) (fun _ => False)) 0 0 (fun _ => False) := by
  refine Met.ofW (cc := cX0_knownBits) (maxL := 4) (ret := (some .int)) (by decide) rfl ?_
  intro p e s m args below meth c s₁ B hml hv
  obtain ⟨rfl, hP, hK, hz, hF0⟩ := hv
  have hx := B.exec
  have hb := B.bytes
  have hr := B.returns
  have hts := atoms_spec (ws := (.code yX0_knownBits cX0_knownBits 4 (some .int) :: wsGA)) B.pre
  have hown : s.vm.findClass RX0 = some m.cls := findClass_of_methodNamed B.named
  have hlocks := B.notSynchronized
  have hS : va_S (fun _ => False) s.heap s.heap [] := va_S.rf
  have hFA0 : gz_ap (fun _ => False) (gz_fam 24 ra 7 (fun i => [.int (r_place i), .int (r_kind i), .int (r_month i), .int (r_day i), .int (r_known i), .int (r_struck i)])) := gz_ap0
  have hl := lv_entry ([.ref h0, .int p1]) (n := 4) (Nat.le_of_ble_eq_true rfl)
  rw [lg_entry_eq]
  generalize (lg_sl ([.ref h0, .int p1]) ++ List.replicate (4 - (lg_sl ([.ref h0, .int p1])).length) Slot.unset).toArray = ls at hl ⊢
  have hl : lv_has ls 4 [(0, .ref h0), (1, .int p1)] := hl
  obtain ⟨RES, hF⟩ : ∃ R9, fX0_knownBits areportCount r_known r_struck p1 = R9 := ⟨_, rfl⟩
  have hR9 := hF
  refine lv_iconst (v := 0) hx hb (dk_at dkX0_knownBits 0 rfl) (by decide) ?_
  refine lv_istore_n (lv' := [(2, .int 0), (0, .ref h0), (1, .int p1)]) hx hb (dk_at dkX0_knownBits 1 rfl) rfl hl (by decide) rfl (fun ls hl => ?_)
  refine lv_iconst (v := 0) hx hb (dk_at dkX0_knownBits 2 rfl) (by decide) ?_
  refine lv_istore_n (lv' := [(3, .int 0), (2, .int 0), (0, .ref h0), (1, .int p1)]) hx hb (dk_at dkX0_knownBits 3 rfl) rfl hl (by decide) rfl (fun ls hl => ?_)
  refine (lp_sX0_knownBits h0 re amonths afull alean alines ahasMoon amoonStart amoonStep aplaceCount areportCount adeedCount pl de kre ra r_place r_kind r_month r_day r_known r_struck p1 gamonths gafull galean gahasMoon gaplaceCount gareportCount gadeedCount gr_place gr_month gr_struck hx hb hml hown hts hK hz hF0 hFA0 (Nat.le_of_ble_eq_true rfl) (Nat.le_of_ble_eq_true rfl) (Nat.zero_le _) (Nat.zero_le _) (fun v H locs ls hF hP hS hl => ?_) 1000000000) 0 0 _ _ _ (gi_w (gi_c 0 0 (by decide)) (by decide)) hF (by have k0 : (0 : Int32).toInt = 0 := (by decide); omega) hP hS (lv_sub hl [2, 3, 1, 0] rfl)
  · skip
    exact W.iret (v := v) hx hb hr (fun t ht hW => ⟨⟨v, (), rfl, ⟨(gi_any v), hF.trans hR9.symm⟩, trivial⟩, hS.F ht⟩) hS.2.2 (dk_at dkX0_knownBits 24 rfl)
noncomputable def lsX0_latestNews : List (Nat × Instr × Nat) := [(0, .iconst (-1), 1), (1, .istore_n 2, 1), (2, .iconst 0, 1), (3, .istore_n 3, 1), (4, .iload_n 3, 1), (5, .aload_n 0, 1), (6, .getfield 58, 3), (9, .if_icmp .ge 36, 3), (12, .aload_n 0, 1), (13, .getfield 19, 3), (16, .iload_n 3, 1), (17, .aaload, 1), (18, .iload_n 1, 1), (19, .invokevirtual 111, 3), (22, .ifCond .eq 17, 3), (25, .iload_n 2, 1), (26, .aload_n 0, 1), (27, .getfield 19, 3), (30, .iload_n 3, 1), (31, .aaload, 1), (32, .getfield 89, 3), (35, .invokestatic 115, 3), (38, .istore_n 2, 1), (39, .iinc 3 1, 3), (42, .goto (-38), 3), (45, .iload_n 2, 1), (46, .ireturn, 1)]
theorem dkX0_latestNews : dkAll cX0_latestNews lsX0_latestNews = true := dk_fast (by decide +kernel)
noncomputable def bfX0_latestNews_39 (areportCount : Int32) (r_known : Nat → Int32) (r_struck : Nat → Int32) (p1 : Int32) (K : (Int32 → Int32 → Int32)) (v2 : Int32) (v3 : Int32) : Int32 := K v2 (v3 + (1 : Int32))
noncomputable def dfX0_latestNews_4 (areportCount : Int32) (r_known : Nat → Int32) (r_struck : Nat → Int32) (p1 : Int32) (K : (Int32 → Int32 → Int32)) (v2 : Int32) (v3 : Int32) : Int32 := if areportCount ≤ v3 then v2 else (cal (fun o1 => if o1 = (0 : Int32) then (bfX0_latestNews_39 areportCount r_known r_struck p1 K v2 v3) else (bfX0_latestNews_39 areportCount r_known r_struck p1 K (if v2 < (r_known v3.toNatClampNeg) then (r_known v3.toNatClampNeg) else v2) v3)) (fX7_isKnownBy (r_known v3.toNatClampNeg) (r_struck v3.toNatClampNeg) p1))
noncomputable def lfX0_latestNews (areportCount : Int32) (r_known : Nat → Int32) (r_struck : Nat → Int32) (p1 : Int32) (z : Nat) : (Int32 → Int32 → Int32) := Nat.rec (motive := fun _ => (Int32 → Int32 → Int32)) (fun _ _ => (0)) (fun _ K => dfX0_latestNews_4 areportCount r_known r_struck p1 K) z
noncomputable def fX0_latestNews (areportCount : Int32) (r_known : Nat → Int32) (r_struck : Nat → Int32) (p1 : Int32) : Int32 := (lfX0_latestNews areportCount r_known r_struck p1 1000000000) (-1 : Int32) (0 : Int32)
set_option maxHeartbeats 4000000 in
set_option maxRecDepth 100000 in
theorem lp_sX0_latestNews {p : Program} {l : Launch} {e : Env} {R : Room} {s : State} {m : MethodId} {args : Array Value} {below : List Frame} {meth : Method} {c : Code} {Q : State → Prop} {A : Nat → Prop} {cells slots : Nat} {dC : Nat → ClassId} {dI : Nat → Nat → Nat} {RES : Int32} (h0 : Nat) (re : Nat) (amonths : Int32) (afull : Int32) (alean : Int32) (alines : Int32) (ahasMoon : Int32) (amoonStart : Int32) (amoonStep : Int32) (aplaceCount : Int32) (areportCount : Int32) (adeedCount : Int32) (pl : Nat) (de : Nat) (kre : ClassId) (ra : Nat → Nat) (r_place : Nat → Int32) (r_kind : Nat → Int32) (r_month : Nat → Int32) (r_day : Nat → Int32) (r_known : Nat → Int32) (r_struck : Nat → Int32) (p1 : Int32) (gamonths : gi amonths 0 24) (gafull : gi afull 0 5) (galean : gi alean 0 5) (gahasMoon : gi ahasMoon 0 1) (gaplaceCount : gi aplaceCount 0 6) (gareportCount : gi areportCount 0 24) (gadeedCount : gi adeedCount 0 8) (gr_place : ga r_place 24 0 5) (gr_month : ga r_month 24 0 23) (gr_struck : ga r_struck 24 0 1) (hx : p.tables.exec = Jvm.exec) (hb : c.code = cX0_latestNews) (hml : c.maxLocals = 4) (hown : s.vm.findClass RX0 = some m.cls) (hts : ∀ w ∈ ((.code yX0_latestNews cX0_latestNews 4 (some .int) :: wsGA) : List Cond), w.before args s = true) (hK : va_K (dC, dI) vwCl [(kre, .object RX7)] s) (hz : nzA s) (hF0 : va_P (dC, dI) vwCl (gz_fam 24 ra 7 (fun i => [.int (r_place i), .int (r_kind i), .int (r_month i), .int (r_day i), .int (r_known i), .int (r_struck i)])) s.heap) (hFA0 : gz_ap A (gz_fam 24 ra 7 (fun i => [.int (r_place i), .int (r_kind i), .int (r_month i), .int (r_day i), .int (r_known i), .int (r_struck i)]))) (hRf : 1 ≤ R.frames) (hRl : 21 ≤ R.locals) (hRc : cells ≤ R.cells) (hRs : slots ≤ R.slots) (kr46 : ∀ (v : Int32) (H : Heap) (locs : List Loc) (ls : Array Slot), gi v (-1) 2147483647 → v = RES → va_P (dC, dI) vwCl [(h0, .inr (0, [.int amonths, .int afull, .int alean, .int alines, .int ahasMoon, .int amoonStart, .int amoonStep, .int aplaceCount, .int areportCount, .int adeedCount, .ref pl, .ref re, .ref de])), (re, .inl (kre, 24, .inr (.inr (.inr (.inr (fun i => some (ra i)))))))] H → va_S A s.heap H locs → lv_has ls 4 [] → W p l e R s m args below meth c H locs cells slots Q (F0 m 46 ls [.int v])) : ∀ z : Nat, (∀ (v2 : Int32) (v3 : Int32) (H : Heap) (locs : List Loc) (ls : Array Slot), gi v2 (-1) 2147483647 → gi v3 0 24 → (lfX0_latestNews areportCount r_known r_struck p1 z) v2 v3 = RES → 49 + (-2) * v3.toInt < (z : Int) → va_P (dC, dI) vwCl [(h0, .inr (0, [.int amonths, .int afull, .int alean, .int alines, .int ahasMoon, .int amoonStart, .int amoonStep, .int aplaceCount, .int areportCount, .int adeedCount, .ref pl, .ref re, .ref de])), (re, .inl (kre, 24, .inr (.inr (.inr (.inr (fun i => some (ra i)))))))] H → va_S A s.heap H locs → lv_has ls 4 [(0, .ref h0), (1, .int p1), (2, .int v2), (3, .int v3)] → W p l e R s m args below meth c H locs cells slots Q (F0 m 4 ls [])) := by
  intro z
  induction z with
  | zero =>
    intro v2 v3 H locs ls gv2 gv3 hF hmu hP hS hl
    exact absurd hmu (by have hv31 := gv3.1; have hv32 := gv3.2; omega)
  | succ z ih =>
      intro v2 v3 H locs ls gv2 gv3 hF hmu hP hS hl
      have hF : dfX0_latestNews_4 areportCount r_known r_struck p1 (lfX0_latestNews areportCount r_known r_struck p1 z) v2 v3 = RES := hF
      refine lv_iload_n hx hb (dk_at dkX0_latestNews 4 rfl) rfl (lv_at hl 3 rfl) ?_
      refine lv_aload_n hx hb (dk_at dkX0_latestNews 5 rfl) rfl (lv_at hl 0 rfl) ?_
      refine va_get (D := (dC, dI)) (ci := 0) (v := .int areportCount) (C := RX0) (T := TX0) (N := 13) hx hb hts (fun w h => List.mem_cons_of_mem _ (jnGA_X0 w h)) hown hK hP 0 rfl rfl 8 (by decide) (hts _ (List.mem_cons_of_mem _ mGA_160)) (fun _ h9 => h9) rfl (dk_at dkX0_latestNews 6 rfl) ?_
      refine lv_icmp_ge (tgt := 45) hx hb (dk_at dkX0_latestNews 7 rfl) (by decide) (fun c_166 => ?_) (fun c_166 => ?_)
      · have hF := gf_pos c_166 hF
        refine lv_iload_n hx hb (dk_at dkX0_latestNews 25 rfl) rfl (lv_at hl 2 rfl) ?_
        exact kr46 v2 _ _ _ gv2 hF hP hS (lv_sub hl [] rfl)
      · have hF := gf_neg c_166 hF
        have g_167 : gi v3 0 23 := gi_lt_l (Int32.not_le.mp c_166) gv3 gareportCount (by decide)
        have g_168 : gi areportCount 1 24 := gi_lt_r (Int32.not_le.mp c_166) gv3 gareportCount (by decide)
        refine lv_aload_n hx hb (dk_at dkX0_latestNews 8 rfl) rfl (lv_at hl 0 rfl) ?_
        refine va_get (D := (dC, dI)) (ci := 0) (v := .ref re) (C := RX0) (T := TX0) (N := 13) hx hb hts (fun w h => List.mem_cons_of_mem _ (jnGA_X0 w h)) hown hK hP 0 rfl rfl 11 (by decide) (hts _ (List.mem_cons_of_mem _ mGA_72)) (fun _ h9 => h9) rfl (dk_at dkX0_latestNews 9 rfl) ?_
        refine lv_iload_n hx hb (dk_at dkX0_latestNews 10 rfl) rfl (lv_at hl 3 rfl) ?_
        refine va_aldq hx hb hK hP 1 0 rfl rfl (gi_in g_167 (by decide)) (dk_at dkX0_latestNews 11 rfl) ?_
        refine W.eq (g2 := F0 m 18 ls [.ref (ra v3.toNatClampNeg)]) rfl ?_
        refine lv_iload_n hx hb (dk_at dkX0_latestNews 12 rfl) rfl (lv_at hl 1 rfl) ?_
        have hPc : va_P (dC, dI) vwCl [((ra v3.toNatClampNeg), .inr (7, [.int (r_place v3.toNatClampNeg), .int (r_kind v3.toNatClampNeg), .int (r_month v3.toNatClampNeg), .int (r_day v3.toNatClampNeg), .int (r_known v3.toNatClampNeg), .int (r_struck v3.toNatClampNeg)]))] H := (gz_fam1 (gz_ro hF0 hFA0 hS) (gz_clt (gi_in (n := 24) g_167 (by decide))))
        have hKc := hK.sub (tys' := []) [] rfl
        refine va_calli (va_runV (As := [.int p1]) (rest := []) ⟨hx, hb, hml, hown, hts⟩ (sX7_isKnownBy l dC dI (ra v3.toNatClampNeg) (r_place v3.toNatClampNeg) (r_kind v3.toNatClampNeg) (r_month v3.toNatClampNeg) (r_day v3.toNatClampNeg) (r_known v3.toNatClampNeg) (r_struck v3.toNatClampNeg) p1 (ga_ix gr_place (gi_in (n := 24) g_167 (by decide))) (ga_ix gr_month (gi_in (n := 24) g_167 (by decide))) (ga_ix gr_struck (gi_in (n := 24) g_167 (by decide)))) (cwV 1 hts (gz_gV mGA_437 mGA_438 mGA_439 mGA_78 mGA_440 goodGA) rfl rfl rfl hdV_X7_isKnownBy_X7_1 ⟨Nat.le_trans (Nat.le_of_ble_eq_true rfl) hRf, Nat.le_trans (Nat.le_of_ble_eq_true rfl) hRl⟩) ⟨bl_I (bl_a bl_P (bl_a bl_K bl_nz)), va_recv hKc hPc (ci := 7) (q0 := 0) rfl rfl, fun U hU hW => ⟨rfl, by rw [hU]; exact hPc, va_K.moved hW.alike hKc, nzA_warm hW hz⟩⟩ rfl rfl hl.1 rfl (lv_room (Nat.le_of_ble_eq_true rfl)) (dk_at dkX0_latestNews 13 rfl) ⟨hRc, hRs⟩) hS (fun q _ h => h.elim) (fun q h => h.elim) (fun r_169 u t H1 locs ht hvm hw hB hz1 hk1 hS => ?_)
        obtain ⟨hw, hE⟩ := hw
        have hP := gz_keep hP hk1
        have hF := gf_call (a := r_169) hE hF
        generalize H1 = H at hP hS ⊢
        have gr_169 : gi r_169 0 1 := hw
        refine lv_if_eq (tgt := 39) hx hb (dk_at dkX0_latestNews 14 rfl) (by decide) (fun c_170 => ?_) (fun c_170 => ?_)
        · have hF := gf_pos c_170 hF
          have g_171 : gi r_169 0 0 := gi_eq c_170 (gi_c 0 0 (by decide))
          obtain ⟨x_172, ex_172⟩ : ∃ y : Int32, y = v3 + 1 := ⟨_, rfl⟩
          have gx_172 : gi x_172 1 24 := gi_add ex_172 g_167 (gi_c 1 1 (by decide)) (by decide)
          refine lv_iinc (v := x_172) (lv' := [(3, .int x_172), (0, .ref h0), (1, .int p1), (2, .int v2)]) hx hb (dk_at dkX0_latestNews 23 rfl) hl (k := 3) rfl (by rw [ex_172]; rfl) (by decide) rfl (fun ls hl => ?_)
          refine lv_goto (tgt := 4) hx hb (dk_at dkX0_latestNews 24 rfl) (by decide) ?_
          exact ih v2 x_172 _ _ _ gv2 (gi_w gx_172 (by decide)) (by first | (rw [ex_172]; exact hF) | ((try rw [ex_172]); exact hF)) (by have av3 := gv3.1; have bv3 := gv3.2; have qgx_172 := gx_172.1; have rgx_172 := gx_172.2; have igx_172 : x_172.toInt = v3.toInt + 1 := (by have hc1 : (1 : Int32).toInt = 1 := (by decide); have h9 := gi_addE ex_172 g_167 (gi_c 1 1 (by decide)) (by decide); rw [hc1] at h9; exact h9); have qgv3 := g_167.1; have rgv3 := g_167.2; omega) hP hS (lv_sub hl [1, 2, 3, 0] rfl)
        · have hF := gf_neg c_170 hF
          have g_173 : gi r_169 1 1 := gi_ne_lo c_170 gr_169 (gi_c 0 0 (by decide)) (by decide)
          refine lv_iload_n hx hb (dk_at dkX0_latestNews 15 rfl) rfl (lv_at hl 2 rfl) ?_
          refine lv_aload_n hx hb (dk_at dkX0_latestNews 16 rfl) rfl (lv_at hl 0 rfl) ?_
          refine va_get (D := (dC, dI)) (ci := 0) (v := .ref re) (C := RX0) (T := TX0) (N := 13) hx hb hts (fun w h => List.mem_cons_of_mem _ (jnGA_X0 w h)) hown hK hP 0 rfl rfl 11 (by decide) (hts _ (List.mem_cons_of_mem _ mGA_72)) (fun _ h9 => h9) rfl (dk_at dkX0_latestNews 17 rfl) ?_
          refine lv_iload_n hx hb (dk_at dkX0_latestNews 18 rfl) rfl (lv_at hl 3 rfl) ?_
          refine va_aldq hx hb hK hP 1 0 rfl rfl (gi_in g_167 (by decide)) (dk_at dkX0_latestNews 19 rfl) ?_
          refine W.eq (g2 := F0 m 32 ls [.ref (ra v3.toNatClampNeg), .int v2]) rfl ?_
          refine va_get (D := (dC, dI)) (ci := 7) (v := .int (r_known v3.toNatClampNeg)) (C := RX7) (T := TX7) (N := 6) hx hb hts (fun w h => List.mem_cons_of_mem _ (jnGA_X7 w h)) hown hK (gz_ro hF0 hFA0 hS) (v3.toNatClampNeg) (gz_fam_at (gz_clt (gi_in (n := 24) g_167 (by decide)))) rfl 4 (by decide) (hts _ (List.mem_cons_of_mem _ mGA_321)) (fun _ h9 => h9) rfl (dk_at dkX0_latestNews 20 rfl) ?_
          refine lv_topi (fun x_174 ex_174 => ?_)
          refine va_mmax (own := RX0) hx hb (by rw [hml]; exact hl.1.symm) hown (hts _ (List.mem_cons_of_mem _ mGA_436)) (hts _ (List.mem_cons_of_mem _ mGA_344)) (hts _ (List.mem_cons_of_mem _ mGA_269)) (hts _ (List.mem_cons_of_mem _ mGA_345)) (Nat.le_trans (Nat.le_of_ble_eq_true rfl) hRf) (Nat.le_trans (Nat.le_of_ble_eq_true rfl) hRl) hRc hRs (dk_at dkX0_latestNews 21 rfl) ?_
          refine lv_topi (fun x_175 ex_175 => ?_)
          have gx_175 : gi x_175 (-1) 2147483647 := gi_max ex_175 gv2 (gi_any x_174) (by decide)
          refine lv_istore_n (lv' := [(2, .int x_175), (0, .ref h0), (1, .int p1), (3, .int v3)]) hx hb (dk_at dkX0_latestNews 22 rfl) rfl hl (by decide) rfl (fun ls hl => ?_)
          obtain ⟨x_176, ex_176⟩ : ∃ y : Int32, y = v3 + 1 := ⟨_, rfl⟩
          have gx_176 : gi x_176 1 24 := gi_add ex_176 g_167 (gi_c 1 1 (by decide)) (by decide)
          refine lv_iinc (v := x_176) (lv' := [(3, .int x_176), (2, .int x_175), (0, .ref h0), (1, .int p1)]) hx hb (dk_at dkX0_latestNews 23 rfl) hl (k := 3) rfl (by rw [ex_176]; rfl) (by decide) rfl (fun ls hl => ?_)
          refine lv_goto (tgt := 4) hx hb (dk_at dkX0_latestNews 24 rfl) (by decide) ?_
          exact ih x_175 x_176 _ _ _ gx_175 (gi_w gx_176 (by decide)) (by first | (rw [ex_176, ex_175, ex_174]; exact hF) | ((try rw [ex_176]); (try rw [ex_175]); (try rw [ex_174]); exact hF)) (by have av3 := gv3.1; have bv3 := gv3.2; have qgx_176 := gx_176.1; have rgx_176 := gx_176.2; have igx_176 : x_176.toInt = v3.toInt + 1 := (by have hc1 : (1 : Int32).toInt = 1 := (by decide); have h9 := gi_addE ex_176 g_167 (gi_c 1 1 (by decide)) (by decide); rw [hc1] at h9; exact h9); have qgv3 := g_167.1; have rgv3 := g_167.2; omega) hP hS (lv_sub hl [2, 3, 1, 0] rfl)
set_option maxHeartbeats 4000000 in
set_option maxRecDepth 100000 in
theorem sX0_latestNews (l : Launch) (dC : Nat → ClassId) (dI : Nat → Nat → Nat) (h0 : Nat) (re : Nat) (amonths : Int32) (afull : Int32) (alean : Int32) (alines : Int32) (ahasMoon : Int32) (amoonStart : Int32) (amoonStep : Int32) (aplaceCount : Int32) (areportCount : Int32) (adeedCount : Int32) (pl : Nat) (de : Nat) (kre : ClassId) (ra : Nat → Nat) (r_place : Nat → Int32) (r_kind : Nat → Int32) (r_month : Nat → Int32) (r_day : Nat → Int32) (r_known : Nat → Int32) (r_struck : Nat → Int32) (p1 : Int32) (gamonths : gi amonths 0 24) (gafull : gi afull 0 5) (galean : gi alean 0 5) (gahasMoon : gi ahasMoon 0 1) (gaplaceCount : gi aplaceCount 0 6) (gareportCount : gi areportCount 0 24) (gadeedCount : gi adeedCount 0 8) (gr_place : ga r_place 24 0 5) (gr_month : ga r_month 24 0 23) (gr_struck : ga r_struck 24 0 1) : Met l yX0_latestNews (.code yX0_latestNews cX0_latestNews 4 (some .int) :: wsGA) ({ frames := 1, cells := 0, slots := 0, locals := 21 }) (va_Pc [.ref h0, .int p1] (fun U => va_P (dC, dI) vwCl [(h0, .inr (0, [.int amonths, .int afull, .int alean, .int alines, .int ahasMoon, .int amoonStart, .int amoonStep, .int aplaceCount, .int areportCount, .int adeedCount, .ref pl, .ref re, .ref de])), (re, .inl (kre, 24, .inr (.inr (.inr (.inr (fun i => some (ra i)))))))] U.heap ∧ va_K (dC, dI) vwCl [(kre, .object RX7)] U ∧ nzA U ∧ va_P (dC, dI) vwCl (gz_fam 24 ra 7 (fun i => [.int (r_place i), .int (r_kind i), .int (r_month i), .int (r_day i), .int (r_known i), .int (r_struck i)])) U.heap)) (va_Qi (fun (r : Int32) (u : Unit) => (gi r (-1) 2147483647) ∧ r = fX0_latestNews areportCount r_known r_struck p1) (fun _ _ => True) (fun _ => False)) 0 0 (fun _ => False) := by
  refine Met.ofW (cc := cX0_latestNews) (maxL := 4) (ret := (some .int)) (by decide) rfl ?_
  intro p e s m args below meth c s₁ B hml hv
  obtain ⟨rfl, hP, hK, hz, hF0⟩ := hv
  have hx := B.exec
  have hb := B.bytes
  have hr := B.returns
  have hts := atoms_spec (ws := (.code yX0_latestNews cX0_latestNews 4 (some .int) :: wsGA)) B.pre
  have hown : s.vm.findClass RX0 = some m.cls := findClass_of_methodNamed B.named
  have hlocks := B.notSynchronized
  have hS : va_S (fun _ => False) s.heap s.heap [] := va_S.rf
  have hFA0 : gz_ap (fun _ => False) (gz_fam 24 ra 7 (fun i => [.int (r_place i), .int (r_kind i), .int (r_month i), .int (r_day i), .int (r_known i), .int (r_struck i)])) := gz_ap0
  have hl := lv_entry ([.ref h0, .int p1]) (n := 4) (Nat.le_of_ble_eq_true rfl)
  rw [lg_entry_eq]
  generalize (lg_sl ([.ref h0, .int p1]) ++ List.replicate (4 - (lg_sl ([.ref h0, .int p1])).length) Slot.unset).toArray = ls at hl ⊢
  have hl : lv_has ls 4 [(0, .ref h0), (1, .int p1)] := hl
  obtain ⟨RES, hF⟩ : ∃ R9, fX0_latestNews areportCount r_known r_struck p1 = R9 := ⟨_, rfl⟩
  have hR9 := hF
  refine lv_iconst (v := (-1)) hx hb (dk_at dkX0_latestNews 0 rfl) (by decide) ?_
  refine lv_istore_n (lv' := [(2, .int (-1)), (0, .ref h0), (1, .int p1)]) hx hb (dk_at dkX0_latestNews 1 rfl) rfl hl (by decide) rfl (fun ls hl => ?_)
  refine lv_iconst (v := 0) hx hb (dk_at dkX0_latestNews 2 rfl) (by decide) ?_
  refine lv_istore_n (lv' := [(3, .int 0), (2, .int (-1)), (0, .ref h0), (1, .int p1)]) hx hb (dk_at dkX0_latestNews 3 rfl) rfl hl (by decide) rfl (fun ls hl => ?_)
  refine (lp_sX0_latestNews h0 re amonths afull alean alines ahasMoon amoonStart amoonStep aplaceCount areportCount adeedCount pl de kre ra r_place r_kind r_month r_day r_known r_struck p1 gamonths gafull galean gahasMoon gaplaceCount gareportCount gadeedCount gr_place gr_month gr_struck hx hb hml hown hts hK hz hF0 hFA0 (Nat.le_of_ble_eq_true rfl) (Nat.le_of_ble_eq_true rfl) (Nat.zero_le _) (Nat.zero_le _) (fun v H locs ls gv hF hP hS hl => ?_) 1000000000) (-1) 0 _ _ _ (gi_w (gi_c (-1) (-1) (by decide)) (by decide)) (gi_w (gi_c 0 0 (by decide)) (by decide)) hF (by have k0 : (0 : Int32).toInt = 0 := (by decide); omega) hP hS (lv_sub hl [2, 3, 1, 0] rfl)
  · skip
    exact W.iret (v := v) hx hb hr (fun t ht hW => ⟨⟨v, (), rfl, ⟨gv, hF.trans hR9.symm⟩, trivial⟩, hS.F ht⟩) hS.2.2 (dk_at dkX0_latestNews 26 rfl)
noncomputable def lsX0_newsBehind : List (Nat × Instr × Nat) := [(0, .sipush 1000, 3), (3, .istore_n 2, 1), (4, .iconst 0, 1), (5, .istore_n 3, 1), (6, .iload_n 3, 1), (7, .aload_n 0, 1), (8, .getfield 58, 3), (11, .if_icmp .ge 48, 3), (14, .aload_n 0, 1), (15, .getfield 19, 3), (18, .iload_n 3, 1), (19, .aaload, 1), (20, .getfield 96, 3), (23, .ifCond .ne 30, 3), (26, .aload_n 0, 1), (27, .getfield 19, 3), (30, .iload_n 3, 1), (31, .aaload, 1), (32, .getfield 89, 3), (35, .iload_n 1, 1), (36, .if_icmp .le 17, 3), (39, .iload_n 2, 1), (40, .aload_n 0, 1), (41, .getfield 19, 3), (44, .iload_n 3, 1), (45, .aaload, 1), (46, .getfield 89, 3), (49, .invokestatic 121, 3), (52, .istore_n 2, 1), (53, .iinc 3 1, 3), (56, .goto (-50), 3), (59, .iload_n 2, 1), (60, .ireturn, 1)]
theorem dkX0_newsBehind : dkAll cX0_newsBehind lsX0_newsBehind = true := dk_fast (by decide +kernel)
noncomputable def bfX0_newsBehind_53 (areportCount : Int32) (r_known : Nat → Int32) (r_struck : Nat → Int32) (p1 : Int32) (K : (Int32 → Int32 → Int32)) (v2 : Int32) (v3 : Int32) : Int32 := K v2 (v3 + (1 : Int32))
noncomputable def dfX0_newsBehind_6 (areportCount : Int32) (r_known : Nat → Int32) (r_struck : Nat → Int32) (p1 : Int32) (K : (Int32 → Int32 → Int32)) (v2 : Int32) (v3 : Int32) : Int32 := if areportCount ≤ v3 then v2 else (if (r_struck v3.toNatClampNeg) = (0 : Int32) then (if (r_known v3.toNatClampNeg) ≤ p1 then (bfX0_newsBehind_53 areportCount r_known r_struck p1 K v2 v3) else (bfX0_newsBehind_53 areportCount r_known r_struck p1 K (if (r_known v3.toNatClampNeg) < v2 then (r_known v3.toNatClampNeg) else v2) v3)) else (bfX0_newsBehind_53 areportCount r_known r_struck p1 K v2 v3))
noncomputable def lfX0_newsBehind (areportCount : Int32) (r_known : Nat → Int32) (r_struck : Nat → Int32) (p1 : Int32) (z : Nat) : (Int32 → Int32 → Int32) := Nat.rec (motive := fun _ => (Int32 → Int32 → Int32)) (fun _ _ => (0)) (fun _ K => dfX0_newsBehind_6 areportCount r_known r_struck p1 K) z
noncomputable def fX0_newsBehind (areportCount : Int32) (r_known : Nat → Int32) (r_struck : Nat → Int32) (p1 : Int32) : Int32 := (lfX0_newsBehind areportCount r_known r_struck p1 1000000000) (1000 : Int32) (0 : Int32)
set_option maxHeartbeats 4000000 in
set_option maxRecDepth 100000 in
theorem lp_sX0_newsBehind {p : Program} {l : Launch} {e : Env} {R : Room} {s : State} {m : MethodId} {args : Array Value} {below : List Frame} {meth : Method} {c : Code} {Q : State → Prop} {A : Nat → Prop} {cells slots : Nat} {dC : Nat → ClassId} {dI : Nat → Nat → Nat} {RES : Int32} (h0 : Nat) (re : Nat) (amonths : Int32) (afull : Int32) (alean : Int32) (alines : Int32) (ahasMoon : Int32) (amoonStart : Int32) (amoonStep : Int32) (aplaceCount : Int32) (areportCount : Int32) (adeedCount : Int32) (pl : Nat) (de : Nat) (kre : ClassId) (ra : Nat → Nat) (r_place : Nat → Int32) (r_kind : Nat → Int32) (r_month : Nat → Int32) (r_day : Nat → Int32) (r_known : Nat → Int32) (r_struck : Nat → Int32) (p1 : Int32) (gamonths : gi amonths 0 24) (gafull : gi afull 0 5) (galean : gi alean 0 5) (gahasMoon : gi ahasMoon 0 1) (gaplaceCount : gi aplaceCount 0 6) (gareportCount : gi areportCount 0 24) (gadeedCount : gi adeedCount 0 8) (gr_place : ga r_place 24 0 5) (gr_month : ga r_month 24 0 23) (gr_struck : ga r_struck 24 0 1) (hx : p.tables.exec = Jvm.exec) (hb : c.code = cX0_newsBehind) (hml : c.maxLocals = 4) (hown : s.vm.findClass RX0 = some m.cls) (hts : ∀ w ∈ ((.code yX0_newsBehind cX0_newsBehind 4 (some .int) :: wsGA) : List Cond), w.before args s = true) (hK : va_K (dC, dI) vwCl [(kre, .object RX7)] s) (hz : nzA s) (hF0 : va_P (dC, dI) vwCl (gz_fam 24 ra 7 (fun i => [.int (r_place i), .int (r_kind i), .int (r_month i), .int (r_day i), .int (r_known i), .int (r_struck i)])) s.heap) (hFA0 : gz_ap A (gz_fam 24 ra 7 (fun i => [.int (r_place i), .int (r_kind i), .int (r_month i), .int (r_day i), .int (r_known i), .int (r_struck i)]))) (hRf : 1 ≤ R.frames) (hRl : 13 ≤ R.locals) (hRc : cells ≤ R.cells) (hRs : slots ≤ R.slots) (kr60 : ∀ (v : Int32) (H : Heap) (locs : List Loc) (ls : Array Slot), gi v (-2147483648) 1000 → v = RES → va_P (dC, dI) vwCl [(h0, .inr (0, [.int amonths, .int afull, .int alean, .int alines, .int ahasMoon, .int amoonStart, .int amoonStep, .int aplaceCount, .int areportCount, .int adeedCount, .ref pl, .ref re, .ref de])), (re, .inl (kre, 24, .inr (.inr (.inr (.inr (fun i => some (ra i)))))))] H → va_S A s.heap H locs → lv_has ls 4 [] → W p l e R s m args below meth c H locs cells slots Q (F0 m 60 ls [.int v])) : ∀ z : Nat, (∀ (v2 : Int32) (v3 : Int32) (H : Heap) (locs : List Loc) (ls : Array Slot), gi v2 (-2147483648) 1000 → gi v3 0 24 → (lfX0_newsBehind areportCount r_known r_struck p1 z) v2 v3 = RES → 49 + (-2) * v3.toInt < (z : Int) → va_P (dC, dI) vwCl [(h0, .inr (0, [.int amonths, .int afull, .int alean, .int alines, .int ahasMoon, .int amoonStart, .int amoonStep, .int aplaceCount, .int areportCount, .int adeedCount, .ref pl, .ref re, .ref de])), (re, .inl (kre, 24, .inr (.inr (.inr (.inr (fun i => some (ra i)))))))] H → va_S A s.heap H locs → lv_has ls 4 [(0, .ref h0), (1, .int p1), (2, .int v2), (3, .int v3)] → W p l e R s m args below meth c H locs cells slots Q (F0 m 6 ls [])) := by
  intro z
  induction z with
  | zero =>
    intro v2 v3 H locs ls gv2 gv3 hF hmu hP hS hl
    exact absurd hmu (by have hv31 := gv3.1; have hv32 := gv3.2; omega)
  | succ z ih =>
      intro v2 v3 H locs ls gv2 gv3 hF hmu hP hS hl
      have hF : dfX0_newsBehind_6 areportCount r_known r_struck p1 (lfX0_newsBehind areportCount r_known r_struck p1 z) v2 v3 = RES := hF
      refine lv_iload_n hx hb (dk_at dkX0_newsBehind 4 rfl) rfl (lv_at hl 3 rfl) ?_
      refine lv_aload_n hx hb (dk_at dkX0_newsBehind 5 rfl) rfl (lv_at hl 0 rfl) ?_
      refine va_get (D := (dC, dI)) (ci := 0) (v := .int areportCount) (C := RX0) (T := TX0) (N := 13) hx hb hts (fun w h => List.mem_cons_of_mem _ (jnGA_X0 w h)) hown hK hP 0 rfl rfl 8 (by decide) (hts _ (List.mem_cons_of_mem _ mGA_160)) (fun _ h9 => h9) rfl (dk_at dkX0_newsBehind 6 rfl) ?_
      refine lv_icmp_ge (tgt := 59) hx hb (dk_at dkX0_newsBehind 7 rfl) (by decide) (fun c_241 => ?_) (fun c_241 => ?_)
      · have hF := gf_pos c_241 hF
        refine lv_iload_n hx hb (dk_at dkX0_newsBehind 31 rfl) rfl (lv_at hl 2 rfl) ?_
        exact kr60 v2 _ _ _ gv2 hF hP hS (lv_sub hl [] rfl)
      · have hF := gf_neg c_241 hF
        have g_242 : gi v3 0 23 := gi_lt_l (Int32.not_le.mp c_241) gv3 gareportCount (by decide)
        have g_243 : gi areportCount 1 24 := gi_lt_r (Int32.not_le.mp c_241) gv3 gareportCount (by decide)
        refine lv_aload_n hx hb (dk_at dkX0_newsBehind 8 rfl) rfl (lv_at hl 0 rfl) ?_
        refine va_get (D := (dC, dI)) (ci := 0) (v := .ref re) (C := RX0) (T := TX0) (N := 13) hx hb hts (fun w h => List.mem_cons_of_mem _ (jnGA_X0 w h)) hown hK hP 0 rfl rfl 11 (by decide) (hts _ (List.mem_cons_of_mem _ mGA_72)) (fun _ h9 => h9) rfl (dk_at dkX0_newsBehind 9 rfl) ?_
        refine lv_iload_n hx hb (dk_at dkX0_newsBehind 10 rfl) rfl (lv_at hl 3 rfl) ?_
        refine va_aldq hx hb hK hP 1 0 rfl rfl (gi_in g_242 (by decide)) (dk_at dkX0_newsBehind 11 rfl) ?_
        refine W.eq (g2 := F0 m 20 ls [.ref (ra v3.toNatClampNeg)]) rfl ?_
        refine va_get (D := (dC, dI)) (ci := 7) (v := .int (r_struck v3.toNatClampNeg)) (C := RX7) (T := TX7) (N := 6) hx hb hts (fun w h => List.mem_cons_of_mem _ (jnGA_X7 w h)) hown hK (gz_ro hF0 hFA0 hS) (v3.toNatClampNeg) (gz_fam_at (gz_clt (gi_in (n := 24) g_242 (by decide)))) rfl 5 (by decide) (hts _ (List.mem_cons_of_mem _ mGA_322)) (fun _ h9 => h9) rfl (dk_at dkX0_newsBehind 12 rfl) ?_
        refine lv_topi (fun x_244 ex_244 => ?_)
        have gx_244 : gi x_244 0 1 := ga_at gr_struck (gi_in (n := 24) g_242 (by decide)) ex_244
        refine lv_if_ne (tgt := 53) hx hb (dk_at dkX0_newsBehind 13 rfl) (by decide) (fun c_245 => ?_) (fun c_245 => ?_)
        · have hF := gf_neg (by rw [ex_244] at c_245; exact c_245) hF
          have g_246 : gi x_244 1 1 := gi_ne_lo c_245 gx_244 (gi_c 0 0 (by decide)) (by decide)
          obtain ⟨x_247, ex_247⟩ : ∃ y : Int32, y = v3 + 1 := ⟨_, rfl⟩
          have gx_247 : gi x_247 1 24 := gi_add ex_247 g_242 (gi_c 1 1 (by decide)) (by decide)
          refine lv_iinc (v := x_247) (lv' := [(3, .int x_247), (0, .ref h0), (1, .int p1), (2, .int v2)]) hx hb (dk_at dkX0_newsBehind 29 rfl) hl (k := 3) rfl (by rw [ex_247]; rfl) (by decide) rfl (fun ls hl => ?_)
          refine lv_goto (tgt := 6) hx hb (dk_at dkX0_newsBehind 30 rfl) (by decide) ?_
          exact ih v2 x_247 _ _ _ gv2 (gi_w gx_247 (by decide)) (by first | (rw [ex_247]; exact hF) | ((try rw [ex_247]); exact hF)) (by have av3 := gv3.1; have bv3 := gv3.2; have qgx_247 := gx_247.1; have rgx_247 := gx_247.2; have igx_247 : x_247.toInt = v3.toInt + 1 := (by have hc1 : (1 : Int32).toInt = 1 := (by decide); have h9 := gi_addE ex_247 g_242 (gi_c 1 1 (by decide)) (by decide); rw [hc1] at h9; exact h9); have qgv3 := g_242.1; have rgv3 := g_242.2; omega) hP hS (lv_sub hl [1, 2, 3, 0] rfl)
        · have hF := gf_pos (by rw [ex_244] at c_245; exact c_245) hF
          have g_248 : gi x_244 0 0 := gi_eq c_245 (gi_c 0 0 (by decide))
          refine lv_aload_n hx hb (dk_at dkX0_newsBehind 14 rfl) rfl (lv_at hl 0 rfl) ?_
          refine va_get (D := (dC, dI)) (ci := 0) (v := .ref re) (C := RX0) (T := TX0) (N := 13) hx hb hts (fun w h => List.mem_cons_of_mem _ (jnGA_X0 w h)) hown hK hP 0 rfl rfl 11 (by decide) (hts _ (List.mem_cons_of_mem _ mGA_72)) (fun _ h9 => h9) rfl (dk_at dkX0_newsBehind 15 rfl) ?_
          refine lv_iload_n hx hb (dk_at dkX0_newsBehind 16 rfl) rfl (lv_at hl 3 rfl) ?_
          refine va_aldq hx hb hK hP 1 0 rfl rfl (gi_in g_242 (by decide)) (dk_at dkX0_newsBehind 17 rfl) ?_
          refine W.eq (g2 := F0 m 32 ls [.ref (ra v3.toNatClampNeg)]) rfl ?_
          refine va_get (D := (dC, dI)) (ci := 7) (v := .int (r_known v3.toNatClampNeg)) (C := RX7) (T := TX7) (N := 6) hx hb hts (fun w h => List.mem_cons_of_mem _ (jnGA_X7 w h)) hown hK (gz_ro hF0 hFA0 hS) (v3.toNatClampNeg) (gz_fam_at (gz_clt (gi_in (n := 24) g_242 (by decide)))) rfl 4 (by decide) (hts _ (List.mem_cons_of_mem _ mGA_321)) (fun _ h9 => h9) rfl (dk_at dkX0_newsBehind 18 rfl) ?_
          refine lv_topi (fun x_249 ex_249 => ?_)
          refine lv_iload_n hx hb (dk_at dkX0_newsBehind 19 rfl) rfl (lv_at hl 1 rfl) ?_
          refine lv_icmp_le (tgt := 53) hx hb (dk_at dkX0_newsBehind 20 rfl) (by decide) (fun c_250 => ?_) (fun c_250 => ?_)
          · have hF := gf_pos (by rw [ex_249] at c_250; exact c_250) hF
            obtain ⟨x_251, ex_251⟩ : ∃ y : Int32, y = v3 + 1 := ⟨_, rfl⟩
            have gx_251 : gi x_251 1 24 := gi_add ex_251 g_242 (gi_c 1 1 (by decide)) (by decide)
            refine lv_iinc (v := x_251) (lv' := [(3, .int x_251), (0, .ref h0), (1, .int p1), (2, .int v2)]) hx hb (dk_at dkX0_newsBehind 29 rfl) hl (k := 3) rfl (by rw [ex_251]; rfl) (by decide) rfl (fun ls hl => ?_)
            refine lv_goto (tgt := 6) hx hb (dk_at dkX0_newsBehind 30 rfl) (by decide) ?_
            exact ih v2 x_251 _ _ _ gv2 (gi_w gx_251 (by decide)) (by first | (rw [ex_251]; exact hF) | ((try rw [ex_251]); exact hF)) (by have av3 := gv3.1; have bv3 := gv3.2; have qgx_251 := gx_251.1; have rgx_251 := gx_251.2; have igx_251 : x_251.toInt = v3.toInt + 1 := (by have hc1 : (1 : Int32).toInt = 1 := (by decide); have h9 := gi_addE ex_251 g_242 (gi_c 1 1 (by decide)) (by decide); rw [hc1] at h9; exact h9); have qgv3 := g_242.1; have rgv3 := g_242.2; omega) hP hS (lv_sub hl [1, 2, 3, 0] rfl)
          · have hF := gf_neg (by rw [ex_249] at c_250; exact c_250) hF
            have g_252 : gi p1 (-2147483648) 2147483646 := gi_lt_l (Int32.not_le.mp c_250) (gi_any p1) (gi_any x_249) (by decide)
            have g_253 : gi x_249 (-2147483647) 2147483647 := gi_lt_r (Int32.not_le.mp c_250) (gi_any p1) (gi_any x_249) (by decide)
            refine lv_iload_n hx hb (dk_at dkX0_newsBehind 21 rfl) rfl (lv_at hl 2 rfl) ?_
            refine lv_aload_n hx hb (dk_at dkX0_newsBehind 22 rfl) rfl (lv_at hl 0 rfl) ?_
            refine va_get (D := (dC, dI)) (ci := 0) (v := .ref re) (C := RX0) (T := TX0) (N := 13) hx hb hts (fun w h => List.mem_cons_of_mem _ (jnGA_X0 w h)) hown hK hP 0 rfl rfl 11 (by decide) (hts _ (List.mem_cons_of_mem _ mGA_72)) (fun _ h9 => h9) rfl (dk_at dkX0_newsBehind 23 rfl) ?_
            refine lv_iload_n hx hb (dk_at dkX0_newsBehind 24 rfl) rfl (lv_at hl 3 rfl) ?_
            refine va_aldq hx hb hK hP 1 0 rfl rfl (gi_in g_242 (by decide)) (dk_at dkX0_newsBehind 25 rfl) ?_
            refine W.eq (g2 := F0 m 46 ls [.ref (ra v3.toNatClampNeg), .int v2]) rfl ?_
            refine va_get (D := (dC, dI)) (ci := 7) (v := .int (r_known v3.toNatClampNeg)) (C := RX7) (T := TX7) (N := 6) hx hb hts (fun w h => List.mem_cons_of_mem _ (jnGA_X7 w h)) hown hK (gz_ro hF0 hFA0 hS) (v3.toNatClampNeg) (gz_fam_at (gz_clt (gi_in (n := 24) g_242 (by decide)))) rfl 4 (by decide) (hts _ (List.mem_cons_of_mem _ mGA_321)) (fun _ h9 => h9) rfl (dk_at dkX0_newsBehind 26 rfl) ?_
            refine lv_topi (fun x_254 ex_254 => ?_)
            refine va_mmin (own := RX0) hx hb (by rw [hml]; exact hl.1.symm) hown (hts _ (List.mem_cons_of_mem _ mGA_718)) (hts _ (List.mem_cons_of_mem _ mGA_268)) (hts _ (List.mem_cons_of_mem _ mGA_269)) (hts _ (List.mem_cons_of_mem _ mGA_270)) (Nat.le_trans (Nat.le_of_ble_eq_true rfl) hRf) (Nat.le_trans (Nat.le_of_ble_eq_true rfl) hRl) hRc hRs (dk_at dkX0_newsBehind 27 rfl) ?_
            refine lv_topi (fun x_255 ex_255 => ?_)
            have gx_255 : gi x_255 (-2147483648) 1000 := gi_min ex_255 gv2 (gi_any x_254) (by decide)
            refine lv_istore_n (lv' := [(2, .int x_255), (0, .ref h0), (1, .int p1), (3, .int v3)]) hx hb (dk_at dkX0_newsBehind 28 rfl) rfl hl (by decide) rfl (fun ls hl => ?_)
            obtain ⟨x_256, ex_256⟩ : ∃ y : Int32, y = v3 + 1 := ⟨_, rfl⟩
            have gx_256 : gi x_256 1 24 := gi_add ex_256 g_242 (gi_c 1 1 (by decide)) (by decide)
            refine lv_iinc (v := x_256) (lv' := [(3, .int x_256), (2, .int x_255), (0, .ref h0), (1, .int p1)]) hx hb (dk_at dkX0_newsBehind 29 rfl) hl (k := 3) rfl (by rw [ex_256]; rfl) (by decide) rfl (fun ls hl => ?_)
            refine lv_goto (tgt := 6) hx hb (dk_at dkX0_newsBehind 30 rfl) (by decide) ?_
            exact ih x_255 x_256 _ _ _ gx_255 (gi_w gx_256 (by decide)) (by first | (rw [ex_256, ex_255, ex_254]; exact hF) | ((try rw [ex_256]); (try rw [ex_255]); (try rw [ex_254]); exact hF)) (by have av3 := gv3.1; have bv3 := gv3.2; have qgx_256 := gx_256.1; have rgx_256 := gx_256.2; have igx_256 : x_256.toInt = v3.toInt + 1 := (by have hc1 : (1 : Int32).toInt = 1 := (by decide); have h9 := gi_addE ex_256 g_242 (gi_c 1 1 (by decide)) (by decide); rw [hc1] at h9; exact h9); have qgv3 := g_242.1; have rgv3 := g_242.2; omega) hP hS (lv_sub hl [2, 3, 1, 0] rfl)
set_option maxHeartbeats 4000000 in
set_option maxRecDepth 100000 in
theorem sX0_newsBehind (l : Launch) (dC : Nat → ClassId) (dI : Nat → Nat → Nat) (h0 : Nat) (re : Nat) (amonths : Int32) (afull : Int32) (alean : Int32) (alines : Int32) (ahasMoon : Int32) (amoonStart : Int32) (amoonStep : Int32) (aplaceCount : Int32) (areportCount : Int32) (adeedCount : Int32) (pl : Nat) (de : Nat) (kre : ClassId) (ra : Nat → Nat) (r_place : Nat → Int32) (r_kind : Nat → Int32) (r_month : Nat → Int32) (r_day : Nat → Int32) (r_known : Nat → Int32) (r_struck : Nat → Int32) (p1 : Int32) (gamonths : gi amonths 0 24) (gafull : gi afull 0 5) (galean : gi alean 0 5) (gahasMoon : gi ahasMoon 0 1) (gaplaceCount : gi aplaceCount 0 6) (gareportCount : gi areportCount 0 24) (gadeedCount : gi adeedCount 0 8) (gr_place : ga r_place 24 0 5) (gr_month : ga r_month 24 0 23) (gr_struck : ga r_struck 24 0 1) : Met l yX0_newsBehind (.code yX0_newsBehind cX0_newsBehind 4 (some .int) :: wsGA) ({ frames := 1, cells := 0, slots := 0, locals := 13 }) (va_Pc [.ref h0, .int p1] (fun U => va_P (dC, dI) vwCl [(h0, .inr (0, [.int amonths, .int afull, .int alean, .int alines, .int ahasMoon, .int amoonStart, .int amoonStep, .int aplaceCount, .int areportCount, .int adeedCount, .ref pl, .ref re, .ref de])), (re, .inl (kre, 24, .inr (.inr (.inr (.inr (fun i => some (ra i)))))))] U.heap ∧ va_K (dC, dI) vwCl [(kre, .object RX7)] U ∧ nzA U ∧ va_P (dC, dI) vwCl (gz_fam 24 ra 7 (fun i => [.int (r_place i), .int (r_kind i), .int (r_month i), .int (r_day i), .int (r_known i), .int (r_struck i)])) U.heap)) (va_Qi (fun (r : Int32) (u : Unit) => (gi r (-2147483648) 1000) ∧ r = fX0_newsBehind areportCount r_known r_struck p1) (fun _ _ => True) (fun _ => False)) 0 0 (fun _ => False) := by
  refine Met.ofW (cc := cX0_newsBehind) (maxL := 4) (ret := (some .int)) (by decide) rfl ?_
  intro p e s m args below meth c s₁ B hml hv
  obtain ⟨rfl, hP, hK, hz, hF0⟩ := hv
  have hx := B.exec
  have hb := B.bytes
  have hr := B.returns
  have hts := atoms_spec (ws := (.code yX0_newsBehind cX0_newsBehind 4 (some .int) :: wsGA)) B.pre
  have hown : s.vm.findClass RX0 = some m.cls := findClass_of_methodNamed B.named
  have hlocks := B.notSynchronized
  have hS : va_S (fun _ => False) s.heap s.heap [] := va_S.rf
  have hFA0 : gz_ap (fun _ => False) (gz_fam 24 ra 7 (fun i => [.int (r_place i), .int (r_kind i), .int (r_month i), .int (r_day i), .int (r_known i), .int (r_struck i)])) := gz_ap0
  have hl := lv_entry ([.ref h0, .int p1]) (n := 4) (Nat.le_of_ble_eq_true rfl)
  rw [lg_entry_eq]
  generalize (lg_sl ([.ref h0, .int p1]) ++ List.replicate (4 - (lg_sl ([.ref h0, .int p1])).length) Slot.unset).toArray = ls at hl ⊢
  have hl : lv_has ls 4 [(0, .ref h0), (1, .int p1)] := hl
  obtain ⟨RES, hF⟩ : ∃ R9, fX0_newsBehind areportCount r_known r_struck p1 = R9 := ⟨_, rfl⟩
  have hR9 := hF
  refine lv_sipush (v := 1000) hx hb (dk_at dkX0_newsBehind 0 rfl) (by decide) ?_
  refine lv_istore_n (lv' := [(2, .int 1000), (0, .ref h0), (1, .int p1)]) hx hb (dk_at dkX0_newsBehind 1 rfl) rfl hl (by decide) rfl (fun ls hl => ?_)
  refine lv_iconst (v := 0) hx hb (dk_at dkX0_newsBehind 2 rfl) (by decide) ?_
  refine lv_istore_n (lv' := [(3, .int 0), (2, .int 1000), (0, .ref h0), (1, .int p1)]) hx hb (dk_at dkX0_newsBehind 3 rfl) rfl hl (by decide) rfl (fun ls hl => ?_)
  refine (lp_sX0_newsBehind h0 re amonths afull alean alines ahasMoon amoonStart amoonStep aplaceCount areportCount adeedCount pl de kre ra r_place r_kind r_month r_day r_known r_struck p1 gamonths gafull galean gahasMoon gaplaceCount gareportCount gadeedCount gr_place gr_month gr_struck hx hb hml hown hts hK hz hF0 hFA0 (Nat.le_of_ble_eq_true rfl) (Nat.le_of_ble_eq_true rfl) (Nat.zero_le _) (Nat.zero_le _) (fun v H locs ls gv hF hP hS hl => ?_) 1000000000) 1000 0 _ _ _ (gi_w (gi_c 1000 1000 (by decide)) (by decide)) (gi_w (gi_c 0 0 (by decide)) (by decide)) hF (by have k0 : (0 : Int32).toInt = 0 := (by decide); omega) hP hS (lv_sub hl [2, 3, 1, 0] rfl)
  · skip
    exact W.iret (v := v) hx hb hr (fun t ht hW => ⟨⟨v, (), rfl, ⟨gv, hF.trans hR9.symm⟩, trivial⟩, hS.F ht⟩) hS.2.2 (dk_at dkX0_newsBehind 32 rfl)
noncomputable def lsX1_turnOf : List (Nat × Instr × Nat) := [(0, .aload_n 0, 1), (1, .getfield 47, 3), (4, .iload_n 1, 1), (5, .aaload, 1), (6, .astore_n 2, 1), (7, .aload_n 0, 1), (8, .getfield 82, 3), (11, .aload_n 2, 1), (12, .getfield 86, 3), (15, .aaload, 1), (16, .astore_n 3, 1), (17, .bipush 9, 2), (19, .aload_n 3, 1), (20, .getfield 89, 3), (23, .isub, 1), (24, .i2l, 1), (25, .lstore 4, 2), (27, .lload 4, 2), (29, .ldc2_w 94, 3), (32, .lmul, 1), (33, .aload_n 3, 1), (34, .getfield 96, 3), (37, .i2l, 1), (38, .ladd, 1), (39, .lstore 4, 2), (41, .lload 4, 2), (43, .ldc2_w 99, 3), (46, .lmul, 1), (47, .aload_n 2, 1), (48, .getfield 101, 3), (51, .i2l, 1), (52, .ladd, 1), (53, .lstore 4, 2), (55, .lload 4, 2), (57, .ldc2_w 104, 3), (60, .lmul, 1), (61, .aload_n 2, 1), (62, .getfield 106, 3), (65, .i2l, 1), (66, .ladd, 1), (67, .lstore 4, 2), (69, .lload 4, 2), (71, .ldc2_w 109, 3), (74, .lmul, 1), (75, .aload_n 2, 1), (76, .getfield 111, 3), (79, .i2l, 1), (80, .ladd, 1), (81, .lstore 4, 2), (83, .lload 4, 2), (85, .ldc2_w 99, 3), (88, .lmul, 1), (89, .iload_n 1, 1), (90, .i2l, 1), (91, .ladd, 1), (92, .lreturn, 1)]
theorem dkX1_turnOf : dkAll cX1_turnOf lsX1_turnOf = true := dk_fast (by decide +kernel)
noncomputable def fX1_turnOf (p_name : Nat → Int32) (p_trust : Nat → Int32) (r_place : Nat → Int32) (r_kind : Nat → Int32) (r_month : Nat → Int32) (r_day : Nat → Int32) (p1 : Int32) : Int64 := (((((((((((((9 : Int32) - (p_trust (r_place p1.toNatClampNeg).toNatClampNeg)).toInt64) * (387420489 : Int64)) + ((p_name (r_place p1.toNatClampNeg).toNatClampNeg).toInt64)) * (24 : Int64)) + ((r_month p1.toNatClampNeg).toInt64)) * (1000 : Int64)) + ((r_day p1.toNatClampNeg).toInt64)) * (3 : Int64)) + ((r_kind p1.toNatClampNeg).toInt64)) * (24 : Int64)) + (p1.toInt64))
set_option maxHeartbeats 4000000 in
set_option maxRecDepth 100000 in
theorem sX1_turnOf (l : Launch) (dC : Nat → ClassId) (dI : Nat → Nat → Nat) (am : Nat) (pl : Nat) (re : Nat) (amonths : Int32) (afull : Int32) (alean : Int32) (alines : Int32) (ahasMoon : Int32) (amoonStart : Int32) (amoonStep : Int32) (aplaceCount : Int32) (areportCount : Int32) (adeedCount : Int32) (de : Nat) (kpl : ClassId) (kre : ClassId) (pa : Nat → Nat) (p_name : Nat → Int32) (p_trust : Nat → Int32) (ra : Nat → Nat) (r_place : Nat → Int32) (r_kind : Nat → Int32) (r_month : Nat → Int32) (r_day : Nat → Int32) (r_known : Nat → Int32) (r_struck : Nat → Int32) (p1 : Int32) (gamonths : gi amonths 0 24) (gafull : gi afull 0 5) (galean : gi alean 0 5) (gahasMoon : gi ahasMoon 0 1) (gaplaceCount : gi aplaceCount 0 6) (gareportCount : gi areportCount 0 24) (gadeedCount : gi adeedCount 0 8) (gr_place : ga r_place 24 0 5) (gr_month : ga r_month 24 0 23) (gr_struck : ga r_struck 24 0 1) (gp1 : gi p1 0 23) : Met l yX1_turnOf (.code yX1_turnOf cX1_turnOf 6 (some .long) :: wsGA) ({ frames := 0, cells := 0, slots := 0, locals := 0 }) (va_Pc [.ref am, .int p1] (fun U => va_P (dC, dI) vwCl [(am, .inr (0, [.int amonths, .int afull, .int alean, .int alines, .int ahasMoon, .int amoonStart, .int amoonStep, .int aplaceCount, .int areportCount, .int adeedCount, .ref pl, .ref re, .ref de])), (pl, .inl (kpl, 6, .inr (.inr (.inr (.inr (fun i => some (pa i))))))), (re, .inl (kre, 24, .inr (.inr (.inr (.inr (fun i => some (ra i)))))))] U.heap ∧ va_K (dC, dI) vwCl [(kpl, .object RX5), (kre, .object RX7)] U ∧ nzA U ∧ va_P (dC, dI) vwCl (gz_fam 6 pa 5 (fun i => [.int (p_name i), .int (p_trust i)])) U.heap ∧ va_P (dC, dI) vwCl (gz_fam 24 ra 7 (fun i => [.int (r_place i), .int (r_kind i), .int (r_month i), .int (r_day i), .int (r_known i), .int (r_struck i)])) U.heap)) (va_Ql (fun (r : Int64) (u : Unit) => True ∧ r = fX1_turnOf p_name p_trust r_place r_kind r_month r_day p1) (fun _ _ => True) (fun _ => False)) 0 0 (fun _ => False) := by
  refine Met.ofW (cc := cX1_turnOf) (maxL := 6) (ret := (some .long)) (by decide) rfl ?_
  intro p e s m args below meth c s₁ B hml hv
  obtain ⟨rfl, hP, hK, hz, hF0, hF1⟩ := hv
  have hx := B.exec
  have hb := B.bytes
  have hr := B.returns
  have hts := atoms_spec (ws := (.code yX1_turnOf cX1_turnOf 6 (some .long) :: wsGA)) B.pre
  have hown : s.vm.findClass RX1 = some m.cls := findClass_of_methodNamed B.named
  have hlocks := B.notSynchronized
  have hS : va_S (fun _ => False) s.heap s.heap [] := va_S.rf
  have hFA0 : gz_ap (fun _ => False) (gz_fam 6 pa 5 (fun i => [.int (p_name i), .int (p_trust i)])) := gz_ap0
  have hFA1 : gz_ap (fun _ => False) (gz_fam 24 ra 7 (fun i => [.int (r_place i), .int (r_kind i), .int (r_month i), .int (r_day i), .int (r_known i), .int (r_struck i)])) := gz_ap0
  have hl := lv_entry ([.ref am, .int p1]) (n := 6) (Nat.le_of_ble_eq_true rfl)
  rw [lg_entry_eq]
  generalize (lg_sl ([.ref am, .int p1]) ++ List.replicate (6 - (lg_sl ([.ref am, .int p1])).length) Slot.unset).toArray = ls at hl ⊢
  have hl : lv_has ls 6 [(0, .ref am), (1, .int p1)] := hl
  obtain ⟨RES, hF⟩ : ∃ R9, fX1_turnOf p_name p_trust r_place r_kind r_month r_day p1 = R9 := ⟨_, rfl⟩
  have hR9 := hF
  refine lv_aload_n hx hb (dk_at dkX1_turnOf 0 rfl) rfl (lv_at hl 0 rfl) ?_
  refine va_get (D := (dC, dI)) (ci := 0) (v := .ref re) (C := RX0) (T := TX0) (N := 13) hx hb hts (fun w h => List.mem_cons_of_mem _ (jnGA_X0 w h)) hown hK hP 0 rfl rfl 11 (by decide) (hts _ (List.mem_cons_of_mem _ mGA_447)) (fun _ h9 => h9) rfl (dk_at dkX1_turnOf 1 rfl) ?_
  refine lv_iload_n hx hb (dk_at dkX1_turnOf 2 rfl) rfl (lv_at hl 1 rfl) ?_
  refine va_aldq hx hb hK hP 2 1 rfl rfl (gi_in gp1 (by decide)) (dk_at dkX1_turnOf 3 rfl) ?_
  refine W.eq (g2 := F0 m 6 ls [.ref (ra p1.toNatClampNeg)]) rfl ?_
  refine lv_astore_n (lv' := [(2, .ref (ra p1.toNatClampNeg)), (0, .ref am), (1, .int p1)]) hx hb (dk_at dkX1_turnOf 4 rfl) rfl hl (by decide) rfl (fun ls hl => ?_)
  refine lv_aload_n hx hb (dk_at dkX1_turnOf 5 rfl) rfl (lv_at hl 1 rfl) ?_
  refine va_get (D := (dC, dI)) (ci := 0) (v := .ref pl) (C := RX0) (T := TX0) (N := 13) hx hb hts (fun w h => List.mem_cons_of_mem _ (jnGA_X0 w h)) hown hK hP 0 rfl rfl 10 (by decide) (hts _ (List.mem_cons_of_mem _ mGA_457)) (fun _ h9 => h9) rfl (dk_at dkX1_turnOf 6 rfl) ?_
  refine lv_aload_n hx hb (dk_at dkX1_turnOf 7 rfl) rfl (lv_at hl 0 rfl) ?_
  refine va_get (D := (dC, dI)) (ci := 7) (v := .int (r_place p1.toNatClampNeg)) (C := RX7) (T := TX7) (N := 6) hx hb hts (fun w h => List.mem_cons_of_mem _ (jnGA_X7 w h)) hown hK (gz_ro hF1 hFA1 hS) (p1.toNatClampNeg) (gz_fam_at (gz_clt (gi_in (n := 24) gp1 (by decide)))) rfl 0 (by decide) (hts _ (List.mem_cons_of_mem _ mGA_458)) (fun _ h9 => h9) rfl (dk_at dkX1_turnOf 8 rfl) ?_
  refine lv_topi (fun x_24 ex_24 => ?_)
  have gx_24 : gi x_24 0 5 := ga_at gr_place (gi_in (n := 24) gp1 (by decide)) ex_24
  refine va_aldq hx hb hK hP 1 0 rfl rfl (gi_in gx_24 (by decide)) (dk_at dkX1_turnOf 9 rfl) ?_
  refine W.eq (g2 := F0 m 16 ls [.ref (pa x_24.toNatClampNeg)]) rfl ?_
  refine lv_astore_n (lv' := [(3, .ref (pa x_24.toNatClampNeg)), (2, .ref (ra p1.toNatClampNeg)), (0, .ref am), (1, .int p1)]) hx hb (dk_at dkX1_turnOf 10 rfl) rfl hl (by decide) rfl (fun ls hl => ?_)
  refine lv_bipush (v := 9) hx hb (dk_at dkX1_turnOf 11 rfl) (by decide) ?_
  refine lv_aload_n hx hb (dk_at dkX1_turnOf 12 rfl) rfl (lv_at hl 0 rfl) ?_
  refine va_get (D := (dC, dI)) (ci := 5) (v := .int (p_trust x_24.toNatClampNeg)) (C := RX5) (T := TX5) (N := 2) hx hb hts (fun w h => List.mem_cons_of_mem _ (jnGA_X5 w h)) hown hK (gz_ro hF0 hFA0 hS) (x_24.toNatClampNeg) (gz_fam_at (gz_clt (gi_in (n := 6) gx_24 (by decide)))) rfl 1 (by decide) (hts _ (List.mem_cons_of_mem _ mGA_459)) (fun _ h9 => h9) rfl (dk_at dkX1_turnOf 13 rfl) ?_
  refine lv_topi (fun x_25 ex_25 => ?_)
  refine lv_isub hx hb (dk_at dkX1_turnOf 14 rfl) ?_
  refine lv_topi (fun x_26 ex_26 => ?_)
  refine lv_i2l (v := (x_26).toInt64) hx hb (dk_at dkX1_turnOf 15 rfl) rfl ?_
  refine lv_topl (fun l_27 el_27 => ?_)
  refine lv_lstore (lv' := [(4, .long l_27), (3, .ref (pa x_24.toNatClampNeg)), (2, .ref (ra p1.toNatClampNeg)), (0, .ref am), (1, .int p1)]) hx hb (dk_at dkX1_turnOf 16 rfl) hl (by decide) rfl (fun ls hl => ?_)
  refine lv_lload hx hb (dk_at dkX1_turnOf 17 rfl) (lv_at hl 0 rfl) ?_
  refine lv_ldc2 (own := RX1) (v := 387420489) hx hb hown (hts _ (List.mem_cons_of_mem _ mGA_460)) (dk_at dkX1_turnOf 18 rfl) ?_
  refine lv_lmul hx hb (dk_at dkX1_turnOf 19 rfl) ?_
  refine lv_topl (fun l_28 el_28 => ?_)
  refine lv_aload_n hx hb (dk_at dkX1_turnOf 20 rfl) rfl (lv_at hl 1 rfl) ?_
  refine va_get (D := (dC, dI)) (ci := 5) (v := .int (p_name x_24.toNatClampNeg)) (C := RX5) (T := TX5) (N := 2) hx hb hts (fun w h => List.mem_cons_of_mem _ (jnGA_X5 w h)) hown hK (gz_ro hF0 hFA0 hS) (x_24.toNatClampNeg) (gz_fam_at (gz_clt (gi_in (n := 6) gx_24 (by decide)))) rfl 0 (by decide) (hts _ (List.mem_cons_of_mem _ mGA_461)) (fun _ h9 => h9) rfl (dk_at dkX1_turnOf 21 rfl) ?_
  refine lv_topi (fun x_29 ex_29 => ?_)
  refine lv_i2l (v := (x_29).toInt64) hx hb (dk_at dkX1_turnOf 22 rfl) rfl ?_
  refine lv_topl (fun l_30 el_30 => ?_)
  refine lv_ladd hx hb (dk_at dkX1_turnOf 23 rfl) ?_
  refine lv_topl (fun l_31 el_31 => ?_)
  refine lv_lstore (lv' := [(4, .long l_31), (3, .ref (pa x_24.toNatClampNeg)), (2, .ref (ra p1.toNatClampNeg)), (0, .ref am), (1, .int p1)]) hx hb (dk_at dkX1_turnOf 24 rfl) hl (by decide) rfl (fun ls hl => ?_)
  refine lv_lload hx hb (dk_at dkX1_turnOf 25 rfl) (lv_at hl 0 rfl) ?_
  refine lv_ldc2 (own := RX1) (v := 24) hx hb hown (hts _ (List.mem_cons_of_mem _ mGA_462)) (dk_at dkX1_turnOf 26 rfl) ?_
  refine lv_lmul hx hb (dk_at dkX1_turnOf 27 rfl) ?_
  refine lv_topl (fun l_32 el_32 => ?_)
  refine lv_aload_n hx hb (dk_at dkX1_turnOf 28 rfl) rfl (lv_at hl 2 rfl) ?_
  refine va_get (D := (dC, dI)) (ci := 7) (v := .int (r_month p1.toNatClampNeg)) (C := RX7) (T := TX7) (N := 6) hx hb hts (fun w h => List.mem_cons_of_mem _ (jnGA_X7 w h)) hown hK (gz_ro hF1 hFA1 hS) (p1.toNatClampNeg) (gz_fam_at (gz_clt (gi_in (n := 24) gp1 (by decide)))) rfl 2 (by decide) (hts _ (List.mem_cons_of_mem _ mGA_463)) (fun _ h9 => h9) rfl (dk_at dkX1_turnOf 29 rfl) ?_
  refine lv_topi (fun x_33 ex_33 => ?_)
  have gx_33 : gi x_33 0 23 := ga_at gr_month (gi_in (n := 24) gp1 (by decide)) ex_33
  refine lv_i2l (v := (x_33).toInt64) hx hb (dk_at dkX1_turnOf 30 rfl) rfl ?_
  refine lv_topl (fun l_34 el_34 => ?_)
  refine lv_ladd hx hb (dk_at dkX1_turnOf 31 rfl) ?_
  refine lv_topl (fun l_35 el_35 => ?_)
  refine lv_lstore (lv' := [(4, .long l_35), (3, .ref (pa x_24.toNatClampNeg)), (2, .ref (ra p1.toNatClampNeg)), (0, .ref am), (1, .int p1)]) hx hb (dk_at dkX1_turnOf 32 rfl) hl (by decide) rfl (fun ls hl => ?_)
  refine lv_lload hx hb (dk_at dkX1_turnOf 33 rfl) (lv_at hl 0 rfl) ?_
  refine lv_ldc2 (own := RX1) (v := 1000) hx hb hown (hts _ (List.mem_cons_of_mem _ mGA_464)) (dk_at dkX1_turnOf 34 rfl) ?_
  refine lv_lmul hx hb (dk_at dkX1_turnOf 35 rfl) ?_
  refine lv_topl (fun l_36 el_36 => ?_)
  refine lv_aload_n hx hb (dk_at dkX1_turnOf 36 rfl) rfl (lv_at hl 2 rfl) ?_
  refine va_get (D := (dC, dI)) (ci := 7) (v := .int (r_day p1.toNatClampNeg)) (C := RX7) (T := TX7) (N := 6) hx hb hts (fun w h => List.mem_cons_of_mem _ (jnGA_X7 w h)) hown hK (gz_ro hF1 hFA1 hS) (p1.toNatClampNeg) (gz_fam_at (gz_clt (gi_in (n := 24) gp1 (by decide)))) rfl 3 (by decide) (hts _ (List.mem_cons_of_mem _ mGA_465)) (fun _ h9 => h9) rfl (dk_at dkX1_turnOf 37 rfl) ?_
  refine lv_topi (fun x_37 ex_37 => ?_)
  refine lv_i2l (v := (x_37).toInt64) hx hb (dk_at dkX1_turnOf 38 rfl) rfl ?_
  refine lv_topl (fun l_38 el_38 => ?_)
  refine lv_ladd hx hb (dk_at dkX1_turnOf 39 rfl) ?_
  refine lv_topl (fun l_39 el_39 => ?_)
  refine lv_lstore (lv' := [(4, .long l_39), (3, .ref (pa x_24.toNatClampNeg)), (2, .ref (ra p1.toNatClampNeg)), (0, .ref am), (1, .int p1)]) hx hb (dk_at dkX1_turnOf 40 rfl) hl (by decide) rfl (fun ls hl => ?_)
  refine lv_lload hx hb (dk_at dkX1_turnOf 41 rfl) (lv_at hl 0 rfl) ?_
  refine lv_ldc2 (own := RX1) (v := 3) hx hb hown (hts _ (List.mem_cons_of_mem _ mGA_466)) (dk_at dkX1_turnOf 42 rfl) ?_
  refine lv_lmul hx hb (dk_at dkX1_turnOf 43 rfl) ?_
  refine lv_topl (fun l_40 el_40 => ?_)
  refine lv_aload_n hx hb (dk_at dkX1_turnOf 44 rfl) rfl (lv_at hl 2 rfl) ?_
  refine va_get (D := (dC, dI)) (ci := 7) (v := .int (r_kind p1.toNatClampNeg)) (C := RX7) (T := TX7) (N := 6) hx hb hts (fun w h => List.mem_cons_of_mem _ (jnGA_X7 w h)) hown hK (gz_ro hF1 hFA1 hS) (p1.toNatClampNeg) (gz_fam_at (gz_clt (gi_in (n := 24) gp1 (by decide)))) rfl 1 (by decide) (hts _ (List.mem_cons_of_mem _ mGA_467)) (fun _ h9 => h9) rfl (dk_at dkX1_turnOf 45 rfl) ?_
  refine lv_topi (fun x_41 ex_41 => ?_)
  refine lv_i2l (v := (x_41).toInt64) hx hb (dk_at dkX1_turnOf 46 rfl) rfl ?_
  refine lv_topl (fun l_42 el_42 => ?_)
  refine lv_ladd hx hb (dk_at dkX1_turnOf 47 rfl) ?_
  refine lv_topl (fun l_43 el_43 => ?_)
  refine lv_lstore (lv' := [(4, .long l_43), (3, .ref (pa x_24.toNatClampNeg)), (2, .ref (ra p1.toNatClampNeg)), (0, .ref am), (1, .int p1)]) hx hb (dk_at dkX1_turnOf 48 rfl) hl (by decide) rfl (fun ls hl => ?_)
  refine lv_lload hx hb (dk_at dkX1_turnOf 49 rfl) (lv_at hl 0 rfl) ?_
  refine lv_ldc2 (own := RX1) (v := 24) hx hb hown (hts _ (List.mem_cons_of_mem _ mGA_462)) (dk_at dkX1_turnOf 50 rfl) ?_
  refine lv_lmul hx hb (dk_at dkX1_turnOf 51 rfl) ?_
  refine lv_topl (fun l_44 el_44 => ?_)
  refine lv_iload_n hx hb (dk_at dkX1_turnOf 52 rfl) rfl (lv_at hl 4 rfl) ?_
  refine lv_i2l (v := (p1).toInt64) hx hb (dk_at dkX1_turnOf 53 rfl) rfl ?_
  refine lv_topl (fun l_45 el_45 => ?_)
  refine lv_ladd hx hb (dk_at dkX1_turnOf 54 rfl) ?_
  refine lv_topl (fun l_46 el_46 => ?_)
  exact W.lret (v := l_46) hx hb hr (fun t ht hW => ⟨⟨l_46, (), rfl, ⟨trivial, by first | (rw [el_46, el_45, el_44, el_43, el_42, ex_41, el_40, el_39, el_38, ex_37, el_36, el_35, el_34, ex_33, el_32, el_31, el_30, ex_29, el_28, el_27, ex_26, ex_25, ex_24]; exact hF.trans hR9.symm) | ((try rw [el_46]); (try rw [el_45]); (try rw [el_44]); (try rw [el_43]); (try rw [el_42]); (try rw [ex_41]); (try rw [el_40]); (try rw [el_39]); (try rw [el_38]); (try rw [ex_37]); (try rw [el_36]); (try rw [el_35]); (try rw [el_34]); (try rw [ex_33]); (try rw [el_32]); (try rw [el_31]); (try rw [el_30]); (try rw [ex_29]); (try rw [el_28]); (try rw [el_27]); (try rw [ex_26]); (try rw [ex_25]); (try rw [ex_24]); exact hF.trans hR9.symm)⟩, trivial⟩, hS.F ht⟩) hS.2.2 (dk_at dkX1_turnOf 55 rfl)
noncomputable def lsX1_insert : List (Nat × Instr × Nat) := [(0, .aload_n 0, 1), (1, .getfield 32, 3), (4, .istore 4, 2), (6, .iload 4, 2), (8, .ifCond .le 55, 3), (11, .aload_n 0, 1), (12, .getfield 25, 3), (15, .iload 4, 2), (17, .iconst 1, 1), (18, .isub, 1), (19, .laload, 1), (20, .lload_n 2, 1), (21, .lcmp, 1), (22, .ifCond .le 41, 3), (25, .aload_n 0, 1), (26, .getfield 25, 3), (29, .iload 4, 2), (31, .aload_n 0, 1), (32, .getfield 25, 3), (35, .iload 4, 2), (37, .iconst 1, 1), (38, .isub, 1), (39, .laload, 1), (40, .lastore, 1), (41, .aload_n 0, 1), (42, .getfield 22, 3), (45, .iload 4, 2), (47, .aload_n 0, 1), (48, .getfield 22, 3), (51, .iload 4, 2), (53, .iconst 1, 1), (54, .isub, 1), (55, .iaload, 1), (56, .iastore, 1), (57, .iinc 4 (-1), 3), (60, .goto (-54), 3), (63, .aload_n 0, 1), (64, .getfield 25, 3), (67, .iload 4, 2), (69, .lload_n 2, 1), (70, .lastore, 1), (71, .aload_n 0, 1), (72, .getfield 22, 3), (75, .iload 4, 2), (77, .iload_n 1, 1), (78, .iastore, 1), (79, .aload_n 0, 1), (80, .dup, 1), (81, .getfield 32, 3), (84, .iconst 1, 1), (85, .iadd, 1), (86, .putfield 32, 3), (89, .return_, 1)]
theorem dkX1_insert : dkAll cX1_insert lsX1_insert = true := dk_fast (by decide +kernel)
noncomputable def bfX1_insert_63 (queueLength : Int32) (fqu : Nat → Int32) (ftu : Nat → Int64) (p1 : Int32) (p2 : Int64) (K : (Int32 → (Nat → Int32) → (Nat → Int64) → (Int32 × (Nat → Int32) × (Nat → Int64)))) (v4 : Int32) (w0_5 : Int32) (z1 : Nat → Int32) (z2 : Nat → Int64) : Int32 × (Nat → Int32) × (Nat → Int64) := ((w0_5 + (1 : Int32)), (upd z1 v4.toNatClampNeg p1), (vp_updL z2 v4.toNatClampNeg p2))
noncomputable def dfX1_insert_6 (queueLength : Int32) (fqu : Nat → Int32) (ftu : Nat → Int64) (p1 : Int32) (p2 : Int64) (K : (Int32 → (Nat → Int32) → (Nat → Int64) → (Int32 × (Nat → Int32) × (Nat → Int64)))) (v4 : Int32) (z1 : Nat → Int32) (z2 : Nat → Int64) : Int32 × (Nat → Int32) × (Nat → Int64) := if v4 ≤ (0 : Int32) then (bfX1_insert_63 queueLength fqu ftu p1 p2 K v4 queueLength z1 z2) else (if (lg_cmp (z2 (v4 - (1 : Int32)).toNatClampNeg) p2) ≤ (0 : Int32) then (bfX1_insert_63 queueLength fqu ftu p1 p2 K v4 queueLength z1 z2) else (K (v4 + (-1 : Int32)) (upd z1 v4.toNatClampNeg (z1 (v4 - (1 : Int32)).toNatClampNeg)) (vp_updL z2 v4.toNatClampNeg (z2 (v4 - (1 : Int32)).toNatClampNeg))))
noncomputable def lfX1_insert (queueLength : Int32) (fqu : Nat → Int32) (ftu : Nat → Int64) (p1 : Int32) (p2 : Int64) (z : Nat) : (Int32 → (Nat → Int32) → (Nat → Int64) → (Int32 × (Nat → Int32) × (Nat → Int64))) := Nat.rec (motive := fun _ => (Int32 → (Nat → Int32) → (Nat → Int64) → (Int32 × (Nat → Int32) × (Nat → Int64)))) (fun _ z1 z2 => (0, z1, z2)) (fun _ K => dfX1_insert_6 queueLength fqu ftu p1 p2 K) z
noncomputable def fX1_insert (queueLength : Int32) (fqu : Nat → Int32) (ftu : Nat → Int64) (p1 : Int32) (p2 : Int64) : Int32 × (Nat → Int32) × (Nat → Int64) := (lfX1_insert queueLength fqu ftu p1 p2 1000000000) queueLength fqu ftu
set_option maxHeartbeats 4000000 in
set_option maxRecDepth 100000 in
theorem lp_sX1_insert {p : Program} {l : Launch} {e : Env} {R : Room} {s : State} {m : MethodId} {args : Array Value} {below : List Frame} {meth : Method} {c : Code} {Q : State → Prop} {A : Nat → Prop} {cells slots : Nat} {dC : Nat → ClassId} {dI : Nat → Nat → Nat} {RES : Int32 × (Nat → Int32) × (Nat → Int64)} (h0 : Nat) (qu : Nat) (tu : Nat) (fr : Nat) (ve : Nat) (cb : Nat) (queueLength : Int32) (takenBits : Int32) (kqu : ClassId) (fqu : Nat → Int32) (ktu : ClassId) (ftu : Nat → Int64) (p1 : Int32) (p2 : Int64) (gqueueLength : gi queueLength 0 23) (gfqu : ga fqu 24 0 23) (gp1 : gi p1 0 23) (hx : p.tables.exec = Jvm.exec) (hb : c.code = cX1_insert) (hml : c.maxLocals = 5) (hown : s.vm.findClass RX1 = some m.cls) (hts : ∀ w ∈ ((.code yX1_insert cX1_insert 5 none :: wsGA) : List Cond), w.before args s = true) (hK : va_K (dC, dI) vwCl [(kqu, .int), (ktu, .long)] s) (hz : nzA s) (hA : ∀ q : Nat, s.heap.size ≤ q → A q) (hRf : 0 ≤ R.frames) (hRl : 0 ≤ R.locals) (hRc : cells ≤ R.cells) (hRs : slots ≤ R.slots) (kr89 : ∀ (w0_5 : Int32) (z1 : Nat → Int32) (z2 : Nat → Int64) (H : Heap) (locs : List Loc) (ls : Array Slot), gi w0_5 0 24 → ga z1 24 0 23 → w0_5.toInt = queueLength.toInt + 1 → (w0_5, z1, z2) = RES → va_P (dC, dI) vwCl [(h0, .inr (1, [.ref fr, .ref ve, .ref qu, .ref tu, .ref cb, .int w0_5, .int takenBits])), (qu, .inl (kqu, 24, .inl z1)), (tu, .inl (ktu, 24, .inr (.inl z2)))] H → va_D A [(h0, .inr (1, [.ref fr, .ref ve, .ref qu, .ref tu, .ref cb, .int w0_5, .int takenBits])), (qu, .inl (kqu, 24, .inl z1)), (tu, .inl (ktu, 24, .inr (.inl z2)))] → va_S A s.heap H locs → lv_has ls 5 [] → W p l e R s m args below meth c H locs cells slots Q (F0 m 89 ls [])) : ∀ z : Nat, (∀ (v4 : Int32) (z1 : Nat → Int32) (z2 : Nat → Int64) (H : Heap) (locs : List Loc) (ls : Array Slot), gi v4 0 23 → ga z1 24 0 23 → (lfX1_insert queueLength fqu ftu p1 p2 z) v4 z1 z2 = RES → 1 + 2 * v4.toInt < (z : Int) → va_P (dC, dI) vwCl [(h0, .inr (1, [.ref fr, .ref ve, .ref qu, .ref tu, .ref cb, .int queueLength, .int takenBits])), (qu, .inl (kqu, 24, .inl z1)), (tu, .inl (ktu, 24, .inr (.inl z2)))] H → va_D A [(h0, .inr (1, [.ref fr, .ref ve, .ref qu, .ref tu, .ref cb, .int queueLength, .int takenBits])), (qu, .inl (kqu, 24, .inl z1)), (tu, .inl (ktu, 24, .inr (.inl z2)))] → va_S A s.heap H locs → lv_has ls 5 [(0, .ref h0), (1, .int p1), (2, .long p2), (4, .int v4)] → W p l e R s m args below meth c H locs cells slots Q (F0 m 6 ls [])) := by
  intro z
  induction z with
  | zero =>
    intro v4 z1 z2 H locs ls gv4 gz1 hF hmu hP hD hS hl
    exact absurd hmu (by have hv41 := gv4.1; have hv42 := gv4.2; omega)
  | succ z ih =>
      intro v4 z1 z2 H locs ls gv4 gz1 hF hmu hP hD hS hl
      have hF : dfX1_insert_6 queueLength fqu ftu p1 p2 (lfX1_insert queueLength fqu ftu p1 p2 z) v4 z1 z2 = RES := hF
      refine lv_iload hx hb (dk_at dkX1_insert 3 rfl) (lv_at hl 3 rfl) ?_
      refine lv_if_le (tgt := 63) hx hb (dk_at dkX1_insert 4 rfl) (by decide) (fun c_45 => ?_) (fun c_45 => ?_)
      · have hF := gf_pos c_45 hF
        have g_46 : gi v4 0 0 := gi_le_l c_45 gv4 (gi_c 0 0 (by decide))
        refine lv_aload_n hx hb (dk_at dkX1_insert 36 rfl) rfl (lv_at hl 0 rfl) ?_
        refine va_get (D := (dC, dI)) (ci := 1) (v := .ref tu) (C := RX1) (T := TX1) (N := 7) hx hb hts (fun w h => List.mem_cons_of_mem _ (jnGA_X1 w h)) hown hK hP 0 rfl rfl 3 (by decide) (hts _ (List.mem_cons_of_mem _ mGA_104)) (fun _ h9 => h9) rfl (dk_at dkX1_insert 37 rfl) ?_
        refine lv_iload hx hb (dk_at dkX1_insert 38 rfl) (lv_at hl 3 rfl) ?_
        refine lv_lload_n hx hb (dk_at dkX1_insert 39 rfl) rfl (lv_at hl 2 rfl) ?_
        refine va_last hx hb hK hP hD hS 2 1 rfl rfl (gi_in g_46 (by decide)) (dk_at dkX1_insert 40 rfl) (fun H locs hP hD hS => ?_)
        obtain ⟨hP, hD⟩ := gz_both (w := [(h0, .inr (1, [.ref fr, .ref ve, .ref qu, .ref tu, .ref cb, .int queueLength, .int takenBits])), (qu, .inl (kqu, 24, .inl z1)), (tu, .inl (ktu, 24, .inr (.inl (vp_updL z2 (v4 : Int32).toNatClampNeg p2))))]) hP hD
        generalize ef_47 : vp_updL z2 (v4 : Int32).toNatClampNeg p2 = f_47 at hP hD
        refine lv_aload_n hx hb (dk_at dkX1_insert 41 rfl) rfl (lv_at hl 0 rfl) ?_
        refine va_get (D := (dC, dI)) (ci := 1) (v := .ref qu) (C := RX1) (T := TX1) (N := 7) hx hb hts (fun w h => List.mem_cons_of_mem _ (jnGA_X1 w h)) hown hK hP 0 rfl rfl 2 (by decide) (hts _ (List.mem_cons_of_mem _ mGA_102)) (fun _ h9 => h9) rfl (dk_at dkX1_insert 42 rfl) ?_
        refine lv_iload hx hb (dk_at dkX1_insert 43 rfl) (lv_at hl 3 rfl) ?_
        refine lv_iload_n hx hb (dk_at dkX1_insert 44 rfl) rfl (lv_at hl 1 rfl) ?_
        refine va_iast hx hb hK hP hD hS 1 0 rfl rfl (gi_in g_46 (by decide)) (dk_at dkX1_insert 45 rfl) (fun H locs hP hD hS => ?_)
        obtain ⟨hP, hD⟩ := gz_both (w := [(h0, .inr (1, [.ref fr, .ref ve, .ref qu, .ref tu, .ref cb, .int queueLength, .int takenBits])), (qu, .inl (kqu, 24, .inl (upd z1 (v4 : Int32).toNatClampNeg p1))), (tu, .inl (ktu, 24, .inr (.inl f_47)))]) hP hD
        have gf_48 : ga (upd z1 (v4 : Int32).toNatClampNeg p1) 24 0 23 := ga_upd gz1 gp1
        generalize ef_48 : upd z1 (v4 : Int32).toNatClampNeg p1 = f_48 at hP hD gf_48
        refine lv_aload_n hx hb (dk_at dkX1_insert 46 rfl) rfl (lv_at hl 0 rfl) ?_
        refine lv_dup hx hb (dk_at dkX1_insert 47 rfl) rfl ?_
        refine va_get (D := (dC, dI)) (ci := 1) (v := .int queueLength) (C := RX1) (T := TX1) (N := 7) hx hb hts (fun w h => List.mem_cons_of_mem _ (jnGA_X1 w h)) hown hK hP 0 rfl rfl 5 (by decide) (hts _ (List.mem_cons_of_mem _ mGA_106)) (fun _ h9 => h9) rfl (dk_at dkX1_insert 48 rfl) ?_
        refine lv_iconst (v := 1) hx hb (dk_at dkX1_insert 49 rfl) (by decide) ?_
        refine lv_iadd hx hb (dk_at dkX1_insert 50 rfl) ?_
        refine lv_topi (fun x_49 ex_49 => ?_)
        have gx_49 : gi x_49 1 24 := gi_add ex_49 gqueueLength (gi_c 1 1 (by decide)) (by decide)
        refine va_put (D := (dC, dI)) (ci := 1) (v := .int x_49) (ty := .int) (C := RX1) (T := TX1) (N := 7) hx hb hts (fun w h => List.mem_cons_of_mem _ (jnGA_X1 w h)) tyX1 tyX1_ok nmX1 hown hK hP hD hS 0 rfl rfl 5 (by decide) (hts _ (List.mem_cons_of_mem _ mGA_106)) (fun _ h9 => h9) rfl fdX1_5 rfl rfl (Nat.le_of_ble_eq_true rfl) (dk_at dkX1_insert 51 rfl) (fun H locs hP hD hS => ?_)
        obtain ⟨hP, hD⟩ := gz_both (w := [(h0, .inr (1, [.ref fr, .ref ve, .ref qu, .ref tu, .ref cb, .int x_49, .int takenBits])), (qu, .inl (kqu, 24, .inl f_48)), (tu, .inl (ktu, 24, .inr (.inl f_47)))]) hP hD
        exact kr89 x_49 f_48 f_47 _ _ _ (gi_w gx_49 (by decide)) gf_48 (by have qgx_49 := gx_49.1; have rgx_49 := gx_49.2; have igx_49 : x_49.toInt = queueLength.toInt + 1 := (by have hc1 : (1 : Int32).toInt = 1 := (by decide); have h9 := gi_addE ex_49 gqueueLength (gi_c 1 1 (by decide)) (by decide); rw [hc1] at h9; exact h9); have qgqueueLength := gqueueLength.1; have rgqueueLength := gqueueLength.2; omega) (by first | (rw [ex_49, ← ef_48, ← ef_47]; exact hF) | ((try rw [ex_49]); (try rw [← ef_48]); (try rw [← ef_47]); exact hF)) hP hD hS (lv_sub hl [] rfl)
      · have hF := gf_neg c_45 hF
        have g_50 : gi v4 1 23 := gi_lt_r (Int32.not_le.mp c_45) (gi_c 0 0 (by decide)) gv4 (by decide)
        refine lv_aload_n hx hb (dk_at dkX1_insert 5 rfl) rfl (lv_at hl 0 rfl) ?_
        refine va_get (D := (dC, dI)) (ci := 1) (v := .ref tu) (C := RX1) (T := TX1) (N := 7) hx hb hts (fun w h => List.mem_cons_of_mem _ (jnGA_X1 w h)) hown hK hP 0 rfl rfl 3 (by decide) (hts _ (List.mem_cons_of_mem _ mGA_104)) (fun _ h9 => h9) rfl (dk_at dkX1_insert 6 rfl) ?_
        refine lv_iload hx hb (dk_at dkX1_insert 7 rfl) (lv_at hl 3 rfl) ?_
        refine lv_iconst (v := 1) hx hb (dk_at dkX1_insert 8 rfl) (by decide) ?_
        refine lv_isub hx hb (dk_at dkX1_insert 9 rfl) ?_
        refine lv_topi (fun x_51 ex_51 => ?_)
        have gx_51 : gi x_51 0 22 := gi_sub ex_51 g_50 (gi_c 1 1 (by decide)) (by decide)
        refine va_lald hx hb hK hP 2 1 rfl rfl (gi_in gx_51 (by decide)) (dk_at dkX1_insert 10 rfl) ?_
        refine lv_topl (fun l_52 el_52 => ?_)
        refine lv_lload_n hx hb (dk_at dkX1_insert 11 rfl) rfl (lv_at hl 2 rfl) ?_
        refine W.lcmp hx hb (dk_at dkX1_insert 12 rfl) ?_
        refine lv_topi (fun x_53 ex_53 => ?_)
        refine lv_if_le (tgt := 63) hx hb (dk_at dkX1_insert 13 rfl) (by decide) (fun c_54 => ?_) (fun c_54 => ?_)
        · have hF := gf_pos (by rw [ex_53, el_52, ex_51] at c_54; exact c_54) hF
          have g_55 : gi x_53 (-2147483648) 0 := gi_le_l c_54 (gi_any x_53) (gi_c 0 0 (by decide))
          refine lv_aload_n hx hb (dk_at dkX1_insert 36 rfl) rfl (lv_at hl 0 rfl) ?_
          refine va_get (D := (dC, dI)) (ci := 1) (v := .ref tu) (C := RX1) (T := TX1) (N := 7) hx hb hts (fun w h => List.mem_cons_of_mem _ (jnGA_X1 w h)) hown hK hP 0 rfl rfl 3 (by decide) (hts _ (List.mem_cons_of_mem _ mGA_104)) (fun _ h9 => h9) rfl (dk_at dkX1_insert 37 rfl) ?_
          refine lv_iload hx hb (dk_at dkX1_insert 38 rfl) (lv_at hl 3 rfl) ?_
          refine lv_lload_n hx hb (dk_at dkX1_insert 39 rfl) rfl (lv_at hl 2 rfl) ?_
          refine va_last hx hb hK hP hD hS 2 1 rfl rfl (gi_in g_50 (by decide)) (dk_at dkX1_insert 40 rfl) (fun H locs hP hD hS => ?_)
          obtain ⟨hP, hD⟩ := gz_both (w := [(h0, .inr (1, [.ref fr, .ref ve, .ref qu, .ref tu, .ref cb, .int queueLength, .int takenBits])), (qu, .inl (kqu, 24, .inl z1)), (tu, .inl (ktu, 24, .inr (.inl (vp_updL z2 (v4 : Int32).toNatClampNeg p2))))]) hP hD
          generalize ef_56 : vp_updL z2 (v4 : Int32).toNatClampNeg p2 = f_56 at hP hD
          refine lv_aload_n hx hb (dk_at dkX1_insert 41 rfl) rfl (lv_at hl 0 rfl) ?_
          refine va_get (D := (dC, dI)) (ci := 1) (v := .ref qu) (C := RX1) (T := TX1) (N := 7) hx hb hts (fun w h => List.mem_cons_of_mem _ (jnGA_X1 w h)) hown hK hP 0 rfl rfl 2 (by decide) (hts _ (List.mem_cons_of_mem _ mGA_102)) (fun _ h9 => h9) rfl (dk_at dkX1_insert 42 rfl) ?_
          refine lv_iload hx hb (dk_at dkX1_insert 43 rfl) (lv_at hl 3 rfl) ?_
          refine lv_iload_n hx hb (dk_at dkX1_insert 44 rfl) rfl (lv_at hl 1 rfl) ?_
          refine va_iast hx hb hK hP hD hS 1 0 rfl rfl (gi_in g_50 (by decide)) (dk_at dkX1_insert 45 rfl) (fun H locs hP hD hS => ?_)
          obtain ⟨hP, hD⟩ := gz_both (w := [(h0, .inr (1, [.ref fr, .ref ve, .ref qu, .ref tu, .ref cb, .int queueLength, .int takenBits])), (qu, .inl (kqu, 24, .inl (upd z1 (v4 : Int32).toNatClampNeg p1))), (tu, .inl (ktu, 24, .inr (.inl f_56)))]) hP hD
          have gf_57 : ga (upd z1 (v4 : Int32).toNatClampNeg p1) 24 0 23 := ga_upd gz1 gp1
          generalize ef_57 : upd z1 (v4 : Int32).toNatClampNeg p1 = f_57 at hP hD gf_57
          refine lv_aload_n hx hb (dk_at dkX1_insert 46 rfl) rfl (lv_at hl 0 rfl) ?_
          refine lv_dup hx hb (dk_at dkX1_insert 47 rfl) rfl ?_
          refine va_get (D := (dC, dI)) (ci := 1) (v := .int queueLength) (C := RX1) (T := TX1) (N := 7) hx hb hts (fun w h => List.mem_cons_of_mem _ (jnGA_X1 w h)) hown hK hP 0 rfl rfl 5 (by decide) (hts _ (List.mem_cons_of_mem _ mGA_106)) (fun _ h9 => h9) rfl (dk_at dkX1_insert 48 rfl) ?_
          refine lv_iconst (v := 1) hx hb (dk_at dkX1_insert 49 rfl) (by decide) ?_
          refine lv_iadd hx hb (dk_at dkX1_insert 50 rfl) ?_
          refine lv_topi (fun x_58 ex_58 => ?_)
          have gx_58 : gi x_58 1 24 := gi_add ex_58 gqueueLength (gi_c 1 1 (by decide)) (by decide)
          refine va_put (D := (dC, dI)) (ci := 1) (v := .int x_58) (ty := .int) (C := RX1) (T := TX1) (N := 7) hx hb hts (fun w h => List.mem_cons_of_mem _ (jnGA_X1 w h)) tyX1 tyX1_ok nmX1 hown hK hP hD hS 0 rfl rfl 5 (by decide) (hts _ (List.mem_cons_of_mem _ mGA_106)) (fun _ h9 => h9) rfl fdX1_5 rfl rfl (Nat.le_of_ble_eq_true rfl) (dk_at dkX1_insert 51 rfl) (fun H locs hP hD hS => ?_)
          obtain ⟨hP, hD⟩ := gz_both (w := [(h0, .inr (1, [.ref fr, .ref ve, .ref qu, .ref tu, .ref cb, .int x_58, .int takenBits])), (qu, .inl (kqu, 24, .inl f_57)), (tu, .inl (ktu, 24, .inr (.inl f_56)))]) hP hD
          exact kr89 x_58 f_57 f_56 _ _ _ (gi_w gx_58 (by decide)) gf_57 (by have qgx_58 := gx_58.1; have rgx_58 := gx_58.2; have igx_58 : x_58.toInt = queueLength.toInt + 1 := (by have hc1 : (1 : Int32).toInt = 1 := (by decide); have h9 := gi_addE ex_58 gqueueLength (gi_c 1 1 (by decide)) (by decide); rw [hc1] at h9; exact h9); have qgqueueLength := gqueueLength.1; have rgqueueLength := gqueueLength.2; omega) (by first | (rw [ex_58, ← ef_57, ← ef_56]; exact hF) | ((try rw [ex_58]); (try rw [← ef_57]); (try rw [← ef_56]); exact hF)) hP hD hS (lv_sub hl [] rfl)
        · have hF := gf_neg (by rw [ex_53, el_52, ex_51] at c_54; exact c_54) hF
          have g_59 : gi x_53 1 2147483647 := gi_lt_r (Int32.not_le.mp c_54) (gi_c 0 0 (by decide)) (gi_any x_53) (by decide)
          refine lv_aload_n hx hb (dk_at dkX1_insert 14 rfl) rfl (lv_at hl 0 rfl) ?_
          refine va_get (D := (dC, dI)) (ci := 1) (v := .ref tu) (C := RX1) (T := TX1) (N := 7) hx hb hts (fun w h => List.mem_cons_of_mem _ (jnGA_X1 w h)) hown hK hP 0 rfl rfl 3 (by decide) (hts _ (List.mem_cons_of_mem _ mGA_104)) (fun _ h9 => h9) rfl (dk_at dkX1_insert 15 rfl) ?_
          refine lv_iload hx hb (dk_at dkX1_insert 16 rfl) (lv_at hl 3 rfl) ?_
          refine lv_aload_n hx hb (dk_at dkX1_insert 17 rfl) rfl (lv_at hl 0 rfl) ?_
          refine va_get (D := (dC, dI)) (ci := 1) (v := .ref tu) (C := RX1) (T := TX1) (N := 7) hx hb hts (fun w h => List.mem_cons_of_mem _ (jnGA_X1 w h)) hown hK hP 0 rfl rfl 3 (by decide) (hts _ (List.mem_cons_of_mem _ mGA_104)) (fun _ h9 => h9) rfl (dk_at dkX1_insert 18 rfl) ?_
          refine lv_iload hx hb (dk_at dkX1_insert 19 rfl) (lv_at hl 3 rfl) ?_
          refine lv_iconst (v := 1) hx hb (dk_at dkX1_insert 20 rfl) (by decide) ?_
          refine lv_isub hx hb (dk_at dkX1_insert 21 rfl) ?_
          refine lv_topi (fun x_60 ex_60 => ?_)
          have gx_60 : gi x_60 0 22 := gi_sub ex_60 g_50 (gi_c 1 1 (by decide)) (by decide)
          refine va_lald hx hb hK hP 2 1 rfl rfl (gi_in gx_60 (by decide)) (dk_at dkX1_insert 22 rfl) ?_
          refine lv_topl (fun l_61 el_61 => ?_)
          refine va_last hx hb hK hP hD hS 2 1 rfl rfl (gi_in g_50 (by decide)) (dk_at dkX1_insert 23 rfl) (fun H locs hP hD hS => ?_)
          obtain ⟨hP, hD⟩ := gz_both (w := [(h0, .inr (1, [.ref fr, .ref ve, .ref qu, .ref tu, .ref cb, .int queueLength, .int takenBits])), (qu, .inl (kqu, 24, .inl z1)), (tu, .inl (ktu, 24, .inr (.inl (vp_updL z2 (v4 : Int32).toNatClampNeg l_61))))]) hP hD
          generalize ef_62 : vp_updL z2 (v4 : Int32).toNatClampNeg l_61 = f_62 at hP hD
          refine lv_aload_n hx hb (dk_at dkX1_insert 24 rfl) rfl (lv_at hl 0 rfl) ?_
          refine va_get (D := (dC, dI)) (ci := 1) (v := .ref qu) (C := RX1) (T := TX1) (N := 7) hx hb hts (fun w h => List.mem_cons_of_mem _ (jnGA_X1 w h)) hown hK hP 0 rfl rfl 2 (by decide) (hts _ (List.mem_cons_of_mem _ mGA_102)) (fun _ h9 => h9) rfl (dk_at dkX1_insert 25 rfl) ?_
          refine lv_iload hx hb (dk_at dkX1_insert 26 rfl) (lv_at hl 3 rfl) ?_
          refine lv_aload_n hx hb (dk_at dkX1_insert 27 rfl) rfl (lv_at hl 0 rfl) ?_
          refine va_get (D := (dC, dI)) (ci := 1) (v := .ref qu) (C := RX1) (T := TX1) (N := 7) hx hb hts (fun w h => List.mem_cons_of_mem _ (jnGA_X1 w h)) hown hK hP 0 rfl rfl 2 (by decide) (hts _ (List.mem_cons_of_mem _ mGA_102)) (fun _ h9 => h9) rfl (dk_at dkX1_insert 28 rfl) ?_
          refine lv_iload hx hb (dk_at dkX1_insert 29 rfl) (lv_at hl 3 rfl) ?_
          refine lv_iconst (v := 1) hx hb (dk_at dkX1_insert 30 rfl) (by decide) ?_
          refine lv_isub hx hb (dk_at dkX1_insert 31 rfl) ?_
          refine lv_topi (fun x_63 ex_63 => ?_)
          have gx_63 : gi x_63 0 22 := gi_sub ex_63 g_50 (gi_c 1 1 (by decide)) (by decide)
          refine va_iald hx hb hK hP 1 0 rfl rfl (gi_in gx_63 (by decide)) (dk_at dkX1_insert 32 rfl) ?_
          refine lv_topi (fun x_64 ex_64 => ?_)
          have gx_64 : gi x_64 0 23 := ga_at gz1 (gi_in gx_63 (by decide)) ex_64
          refine va_iast hx hb hK hP hD hS 1 0 rfl rfl (gi_in g_50 (by decide)) (dk_at dkX1_insert 33 rfl) (fun H locs hP hD hS => ?_)
          obtain ⟨hP, hD⟩ := gz_both (w := [(h0, .inr (1, [.ref fr, .ref ve, .ref qu, .ref tu, .ref cb, .int queueLength, .int takenBits])), (qu, .inl (kqu, 24, .inl (upd z1 (v4 : Int32).toNatClampNeg x_64))), (tu, .inl (ktu, 24, .inr (.inl f_62)))]) hP hD
          have gf_65 : ga (upd z1 (v4 : Int32).toNatClampNeg x_64) 24 0 23 := ga_upd gz1 gx_64
          generalize ef_65 : upd z1 (v4 : Int32).toNatClampNeg x_64 = f_65 at hP hD gf_65
          obtain ⟨x_66, ex_66⟩ : ∃ y : Int32, y = v4 + (-1) := ⟨_, rfl⟩
          have gx_66 : gi x_66 0 22 := gi_add ex_66 g_50 (gi_c (-1) (-1) (by decide)) (by decide)
          refine lv_iinc (v := x_66) (lv' := [(4, .int x_66), (0, .ref h0), (1, .int p1), (2, .long p2)]) hx hb (dk_at dkX1_insert 34 rfl) hl (k := 3) rfl (by rw [ex_66]; rfl) (by decide) rfl (fun ls hl => ?_)
          refine lv_goto (tgt := 6) hx hb (dk_at dkX1_insert 35 rfl) (by decide) ?_
          exact ih x_66 f_65 f_62 _ _ _ (gi_w gx_66 (by decide)) gf_65 (by first | (rw [ex_66, ← ef_65, ex_64, ex_63, ← ef_62, el_61, ex_60]; exact hF) | ((try rw [ex_66]); (try rw [← ef_65]); (try rw [ex_64]); (try rw [ex_63]); (try rw [← ef_62]); (try rw [el_61]); (try rw [ex_60]); exact hF)) (by have av4 := gv4.1; have bv4 := gv4.2; have qgx_66 := gx_66.1; have rgx_66 := gx_66.2; have igx_66 : x_66.toInt = v4.toInt + (-1) := (by have hcm1 : ((-1) : Int32).toInt = (-1) := (by decide); have h9 := gi_addE ex_66 g_50 (gi_c (-1) (-1) (by decide)) (by decide); rw [hcm1] at h9; exact h9); have qgv4 := g_50.1; have rgv4 := g_50.2; omega) hP hD hS (lv_sub hl [1, 2, 3, 0] rfl)
abbrev pb_sX1_insert (dC : Nat → ClassId) (dI : Nat → Nat → Nat) (A9 : Nat → Prop) (h0 : Nat) (qu : Nat) (tu : Nat) (fr : Nat) (ve : Nat) (cb : Nat) (queueLength : Int32) (takenBits : Int32) (kqu : ClassId) (fqu : Nat → Int32) (ktu : ClassId) (ftu : Nat → Int64) (p1 : Int32) (p2 : Int64) (w0_5 : Int32) (z1 : Nat → Int32) (z2 : Nat → Int64) (t : State) : Prop := gi w0_5 0 24 ∧ ga z1 24 0 23 ∧ w0_5.toInt = queueLength.toInt + 1 ∧ (w0_5, z1, z2) = fX1_insert queueLength fqu ftu p1 p2 ∧ va_P (dC, dI) vwCl [(h0, .inr (1, [.ref fr, .ref ve, .ref qu, .ref tu, .ref cb, .int w0_5, .int takenBits])), (qu, .inl (kqu, 24, .inl z1)), (tu, .inl (ktu, 24, .inr (.inl z2)))] t.heap ∧ va_D A9 [(h0, .inr (1, [.ref fr, .ref ve, .ref qu, .ref tu, .ref cb, .int w0_5, .int takenBits])), (qu, .inl (kqu, 24, .inl z1)), (tu, .inl (ktu, 24, .inr (.inl z2)))]
set_option maxHeartbeats 4000000 in
set_option maxRecDepth 100000 in
theorem sX1_insert (l : Launch) (dC : Nat → ClassId) (dI : Nat → Nat → Nat) (sz : Nat) (h0 : Nat) (qu : Nat) (tu : Nat) (fr : Nat) (ve : Nat) (cb : Nat) (queueLength : Int32) (takenBits : Int32) (kqu : ClassId) (fqu : Nat → Int32) (ktu : ClassId) (ftu : Nat → Int64) (p1 : Int32) (p2 : Int64) (gqueueLength : gi queueLength 0 23) (gfqu : ga fqu 24 0 23) (gp1 : gi p1 0 23) : Met l yX1_insert (.code yX1_insert cX1_insert 5 none :: wsGA) ({ frames := 0, cells := 0, slots := 0, locals := 0 }) (va_Pc [.ref h0, .int p1, .long p2] (fun U => U.heap.size = sz ∧ va_P (dC, dI) vwCl [(h0, .inr (1, [.ref fr, .ref ve, .ref qu, .ref tu, .ref cb, .int queueLength, .int takenBits])), (qu, .inl (kqu, 24, .inl fqu)), (tu, .inl (ktu, 24, .inr (.inl ftu)))] U.heap ∧ va_K (dC, dI) vwCl [(kqu, .int), (ktu, .long)] U ∧ va_D (fun _ => True) [(h0, .inr (1, [.ref fr, .ref ve, .ref qu, .ref tu, .ref cb, .int queueLength, .int takenBits])), (qu, .inl (kqu, 24, .inl fqu)), (tu, .inl (ktu, 24, .inr (.inl ftu)))] ∧ nzA U)) (va_Qv (fun (u : Unit) => True) (fun _ t => ∃ (w0_5 : Int32) (z1 : Nat → Int32) (z2 : Nat → Int64), pb_sX1_insert dC dI (va_A [(h0, .inr (1, [.ref fr, .ref ve, .ref qu, .ref tu, .ref cb, .int queueLength, .int takenBits])), (qu, .inl (kqu, 24, .inl fqu)), (tu, .inl (ktu, 24, .inr (.inl ftu)))] sz) h0 qu tu fr ve cb queueLength takenBits kqu fqu ktu ftu p1 p2 w0_5 z1 z2 t) (va_A [(h0, .inr (1, [.ref fr, .ref ve, .ref qu, .ref tu, .ref cb, .int queueLength, .int takenBits])), (qu, .inl (kqu, 24, .inl fqu)), (tu, .inl (ktu, 24, .inr (.inl ftu)))] sz)) 0 0 (va_A [(h0, .inr (1, [.ref fr, .ref ve, .ref qu, .ref tu, .ref cb, .int queueLength, .int takenBits])), (qu, .inl (kqu, 24, .inl fqu)), (tu, .inl (ktu, 24, .inr (.inl ftu)))] sz) := by
  refine Met.ofW (cc := cX1_insert) (maxL := 5) (ret := none) (by decide) rfl ?_
  intro p e s m args below meth c s₁ B hml hv
  obtain ⟨rfl, hsz, hP, hK, hD0, hz⟩ := hv
  have hx := B.exec
  have hb := B.bytes
  have hr := B.returns
  have hts := atoms_spec (ws := (.code yX1_insert cX1_insert 5 none :: wsGA)) B.pre
  have hown : s.vm.findClass RX1 = some m.cls := findClass_of_methodNamed B.named
  have hlocks := B.notSynchronized
  subst hsz
  have hD := hD0.self (sz := s.heap.size)
  generalize hAe : va_A [(h0, .inr (1, [.ref fr, .ref ve, .ref qu, .ref tu, .ref cb, .int queueLength, .int takenBits])), (qu, .inl (kqu, 24, .inl fqu)), (tu, .inl (ktu, 24, .inr (.inl ftu)))] s.heap.size = A at hD ⊢
  have hA : ∀ q : Nat, s.heap.size ≤ q → A q := fun q h => by rw [← hAe]; exact Or.inr h
  have hS : va_S A s.heap s.heap [] := va_S.rf
  have hl := lv_entry ([.ref h0, .int p1, .long p2]) (n := 5) (Nat.le_of_ble_eq_true rfl)
  rw [lg_entry_eq]
  generalize (lg_sl ([.ref h0, .int p1, .long p2]) ++ List.replicate (5 - (lg_sl ([.ref h0, .int p1, .long p2])).length) Slot.unset).toArray = ls at hl ⊢
  have hl : lv_has ls 5 [(0, .ref h0), (1, .int p1), (2, .long p2)] := hl
  obtain ⟨RES, hF⟩ : ∃ R9, fX1_insert queueLength fqu ftu p1 p2 = R9 := ⟨_, rfl⟩
  have hR9 := hF
  refine lv_aload_n hx hb (dk_at dkX1_insert 0 rfl) rfl (lv_at hl 0 rfl) ?_
  refine va_get (D := (dC, dI)) (ci := 1) (v := .int queueLength) (C := RX1) (T := TX1) (N := 7) hx hb hts (fun w h => List.mem_cons_of_mem _ (jnGA_X1 w h)) hown hK hP 0 rfl rfl 5 (by decide) (hts _ (List.mem_cons_of_mem _ mGA_106)) (fun _ h9 => h9) rfl (dk_at dkX1_insert 1 rfl) ?_
  refine lv_istore (lv' := [(4, .int queueLength), (0, .ref h0), (1, .int p1), (2, .long p2)]) hx hb (dk_at dkX1_insert 2 rfl) hl (by decide) rfl (fun ls hl => ?_)
  refine (lp_sX1_insert h0 qu tu fr ve cb queueLength takenBits kqu fqu ktu ftu p1 p2 gqueueLength gfqu gp1 hx hb hml hown hts hK hz hA (Nat.le_of_ble_eq_true rfl) (Nat.le_of_ble_eq_true rfl) (Nat.zero_le _) (Nat.zero_le _) (fun w0_5 z1 z2 H locs ls gw0_5 gz1 hpr0 hF hP hD hS hl => ?_) 1000000000) queueLength fqu ftu _ _ _ gqueueLength gfqu hF (by have qgqueueLength := gqueueLength.1; have rgqueueLength := gqueueLength.2; omega) hP hD hS (lv_sub hl [1, 2, 3, 0] rfl)
  · skip
    exact W.vret hx hb hr (fun t ht hW => ⟨⟨(), rfl, trivial, w0_5, z1, z2, gw0_5, gz1, by have qgw0_5 := gw0_5.1; have rgw0_5 := gw0_5.2; omega, hF.trans hR9.symm, by rw [ht]; exact hP, hD⟩, hS.F ht⟩) hS.2.2 (dk_at dkX1_insert 52 rfl)
noncomputable def lsX1_lineUp : List (Nat × Instr × Nat) := [(0, .aload_n 0, 1), (1, .iconst 0, 1), (2, .putfield 32, 3), (5, .iconst 0, 1), (6, .istore_n 3, 1), (7, .iload_n 3, 1), (8, .aload_n 1, 1), (9, .getfield 65, 3), (12, .if_icmp .ge 39, 3), (15, .aload_n 0, 1), (16, .getfield 18, 3), (19, .iload_n 3, 1), (20, .iconst 3, 1), (21, .iastore, 1), (22, .aload_n 1, 1), (23, .getfield 47, 3), (26, .iload_n 3, 1), (27, .aaload, 1), (28, .iload_n 2, 1), (29, .invokevirtual 68, 3), (32, .ifCond .eq 13, 3), (35, .aload_n 0, 1), (36, .iload_n 3, 1), (37, .aload_n 1, 1), (38, .iload_n 3, 1), (39, .invokestatic 74, 3), (42, .invokevirtual 78, 3), (45, .iinc 3 1, 3), (48, .goto (-41), 3), (51, .return_, 1)]
theorem dkX1_lineUp : dkAll cX1_lineUp lsX1_lineUp = true := dk_fast (by decide +kernel)
noncomputable def bfX1_lineUp_45 (fve : Nat → Int32) (fqu : Nat → Int32) (ftu : Nat → Int64) (areportCount : Int32) (p_name : Nat → Int32) (p_trust : Nat → Int32) (r_place : Nat → Int32) (r_kind : Nat → Int32) (r_month : Nat → Int32) (r_day : Nat → Int32) (r_known : Nat → Int32) (r_struck : Nat → Int32) (p2 : Int32) (K : (Int32 → Int32 → (Nat → Int32) → (Nat → Int32) → (Nat → Int64) → (Int32 × (Nat → Int32) × (Nat → Int32) × (Nat → Int64)))) (v3 : Int32) (w0_5 : Int32) (z1 : Nat → Int32) (z2 : Nat → Int32) (z3 : Nat → Int64) : Int32 × (Nat → Int32) × (Nat → Int32) × (Nat → Int64) := K (v3 + (1 : Int32)) w0_5 z1 z2 z3
noncomputable def dfX1_lineUp_7 (fve : Nat → Int32) (fqu : Nat → Int32) (ftu : Nat → Int64) (areportCount : Int32) (p_name : Nat → Int32) (p_trust : Nat → Int32) (r_place : Nat → Int32) (r_kind : Nat → Int32) (r_month : Nat → Int32) (r_day : Nat → Int32) (r_known : Nat → Int32) (r_struck : Nat → Int32) (p2 : Int32) (K : (Int32 → Int32 → (Nat → Int32) → (Nat → Int32) → (Nat → Int64) → (Int32 × (Nat → Int32) × (Nat → Int32) × (Nat → Int64)))) (v3 : Int32) (w0_5 : Int32) (z1 : Nat → Int32) (z2 : Nat → Int32) (z3 : Nat → Int64) : Int32 × (Nat → Int32) × (Nat → Int32) × (Nat → Int64) := if areportCount ≤ v3 then (w0_5, z1, z2, z3) else (cal (fun o1 => if o1 = (0 : Int32) then (bfX1_lineUp_45 fve fqu ftu areportCount p_name p_trust r_place r_kind r_month r_day r_known r_struck p2 K v3 w0_5 (upd z1 v3.toNatClampNeg (3 : Int32)) z2 z3) else (cal (fun o2 => cal (fun o3 => bfX1_lineUp_45 fve fqu ftu areportCount p_name p_trust r_place r_kind r_month r_day r_known r_struck p2 K v3 o3.1 (upd z1 v3.toNatClampNeg (3 : Int32)) o3.2.1 o3.2.2) (fX1_insert w0_5 z2 z3 v3 o2)) (fX1_turnOf p_name p_trust r_place r_kind r_month r_day v3))) (fX7_isKnownBy (r_known v3.toNatClampNeg) (r_struck v3.toNatClampNeg) p2))
noncomputable def lfX1_lineUp (fve : Nat → Int32) (fqu : Nat → Int32) (ftu : Nat → Int64) (areportCount : Int32) (p_name : Nat → Int32) (p_trust : Nat → Int32) (r_place : Nat → Int32) (r_kind : Nat → Int32) (r_month : Nat → Int32) (r_day : Nat → Int32) (r_known : Nat → Int32) (r_struck : Nat → Int32) (p2 : Int32) (z : Nat) : (Int32 → Int32 → (Nat → Int32) → (Nat → Int32) → (Nat → Int64) → (Int32 × (Nat → Int32) × (Nat → Int32) × (Nat → Int64))) := Nat.rec (motive := fun _ => (Int32 → Int32 → (Nat → Int32) → (Nat → Int32) → (Nat → Int64) → (Int32 × (Nat → Int32) × (Nat → Int32) × (Nat → Int64)))) (fun _ w0_5 z1 z2 z3 => (w0_5, z1, z2, z3)) (fun _ K => dfX1_lineUp_7 fve fqu ftu areportCount p_name p_trust r_place r_kind r_month r_day r_known r_struck p2 K) z
noncomputable def fX1_lineUp (fve : Nat → Int32) (fqu : Nat → Int32) (ftu : Nat → Int64) (areportCount : Int32) (p_name : Nat → Int32) (p_trust : Nat → Int32) (r_place : Nat → Int32) (r_kind : Nat → Int32) (r_month : Nat → Int32) (r_day : Nat → Int32) (r_known : Nat → Int32) (r_struck : Nat → Int32) (p2 : Int32) : Int32 × (Nat → Int32) × (Nat → Int32) × (Nat → Int64) := (lfX1_lineUp fve fqu ftu areportCount p_name p_trust r_place r_kind r_month r_day r_known r_struck p2 1000000000) (0 : Int32) (0 : Int32) fve fqu ftu
set_option maxHeartbeats 4000000 in
set_option maxRecDepth 100000 in
theorem lp_sX1_lineUp {p : Program} {l : Launch} {e : Env} {R : Room} {s : State} {m : MethodId} {args : Array Value} {below : List Frame} {meth : Method} {c : Code} {Q : State → Prop} {A : Nat → Prop} {cells slots : Nat} {dC : Nat → ClassId} {dI : Nat → Nat → Nat} {RES : Int32 × (Nat → Int32) × (Nat → Int32) × (Nat → Int64)} (h0 : Nat) (ve : Nat) (qu : Nat) (tu : Nat) (am : Nat) (pl : Nat) (re : Nat) (fr : Nat) (cb : Nat) (queueLength : Int32) (takenBits : Int32) (kve : ClassId) (fve : Nat → Int32) (kqu : ClassId) (fqu : Nat → Int32) (ktu : ClassId) (ftu : Nat → Int64) (amonths : Int32) (afull : Int32) (alean : Int32) (alines : Int32) (ahasMoon : Int32) (amoonStart : Int32) (amoonStep : Int32) (aplaceCount : Int32) (areportCount : Int32) (adeedCount : Int32) (de : Nat) (kpl : ClassId) (kre : ClassId) (pa : Nat → Nat) (p_name : Nat → Int32) (p_trust : Nat → Int32) (ra : Nat → Nat) (r_place : Nat → Int32) (r_kind : Nat → Int32) (r_month : Nat → Int32) (r_day : Nat → Int32) (r_known : Nat → Int32) (r_struck : Nat → Int32) (p2 : Int32) (gqueueLength : gi queueLength 0 24) (gfqu : ga fqu 24 0 23) (gamonths : gi amonths 0 24) (gafull : gi afull 0 5) (galean : gi alean 0 5) (gahasMoon : gi ahasMoon 0 1) (gaplaceCount : gi aplaceCount 0 6) (gareportCount : gi areportCount 0 24) (gadeedCount : gi adeedCount 0 8) (gr_place : ga r_place 24 0 5) (gr_month : ga r_month 24 0 23) (gr_struck : ga r_struck 24 0 1) (hx : p.tables.exec = Jvm.exec) (hb : c.code = cX1_lineUp) (hml : c.maxLocals = 4) (hown : s.vm.findClass RX1 = some m.cls) (hts : ∀ w ∈ ((.code yX1_lineUp cX1_lineUp 4 none :: wsGA) : List Cond), w.before args s = true) (hK : va_K (dC, dI) vwCl [(kve, .int), (kqu, .int), (ktu, .long), (kpl, .object RX5), (kre, .object RX7)] s) (hz : nzA s) (hR : va_P (dC, dI) vwCl [(am, .inr (0, [.int amonths, .int afull, .int alean, .int alines, .int ahasMoon, .int amoonStart, .int amoonStep, .int aplaceCount, .int areportCount, .int adeedCount, .ref pl, .ref re, .ref de])), (pl, .inl (kpl, 6, .inr (.inr (.inr (.inr (fun i => some (pa i))))))), (re, .inl (kre, 24, .inr (.inr (.inr (.inr (fun i => some (ra i)))))))] s.heap) (hRA : gz_ap A [(am, .inr (0, [.int amonths, .int afull, .int alean, .int alines, .int ahasMoon, .int amoonStart, .int amoonStep, .int aplaceCount, .int areportCount, .int adeedCount, .ref pl, .ref re, .ref de])), (pl, .inl (kpl, 6, .inr (.inr (.inr (.inr (fun i => some (pa i))))))), (re, .inl (kre, 24, .inr (.inr (.inr (.inr (fun i => some (ra i)))))))]) (hF0 : va_P (dC, dI) vwCl (gz_fam 6 pa 5 (fun i => [.int (p_name i), .int (p_trust i)])) s.heap) (hFA0 : gz_ap A (gz_fam 6 pa 5 (fun i => [.int (p_name i), .int (p_trust i)]))) (hF1 : va_P (dC, dI) vwCl (gz_fam 24 ra 7 (fun i => [.int (r_place i), .int (r_kind i), .int (r_month i), .int (r_day i), .int (r_known i), .int (r_struck i)])) s.heap) (hFA1 : gz_ap A (gz_fam 24 ra 7 (fun i => [.int (r_place i), .int (r_kind i), .int (r_month i), .int (r_day i), .int (r_known i), .int (r_struck i)]))) (hA : ∀ q : Nat, s.heap.size ≤ q → A q) (hRf : 1 ≤ R.frames) (hRl : 25 ≤ R.locals) (hRc : cells ≤ R.cells) (hRs : slots ≤ R.slots) (kr51 : ∀ (w0_5 : Int32) (z1 : Nat → Int32) (z2 : Nat → Int32) (z3 : Nat → Int64) (H : Heap) (locs : List Loc) (ls : Array Slot), gi w0_5 0 24 → ga z2 24 0 23 → (w0_5, z1, z2, z3) = RES → va_P (dC, dI) vwCl [(h0, .inr (1, [.ref fr, .ref ve, .ref qu, .ref tu, .ref cb, .int w0_5, .int takenBits])), (ve, .inl (kve, 24, .inl z1)), (qu, .inl (kqu, 24, .inl z2)), (tu, .inl (ktu, 24, .inr (.inl z3)))] H → va_D A [(h0, .inr (1, [.ref fr, .ref ve, .ref qu, .ref tu, .ref cb, .int w0_5, .int takenBits])), (ve, .inl (kve, 24, .inl z1)), (qu, .inl (kqu, 24, .inl z2)), (tu, .inl (ktu, 24, .inr (.inl z3)))] → va_S A s.heap H locs → lv_has ls 4 [] → W p l e R s m args below meth c H locs cells slots Q (F0 m 51 ls [])) : ∀ z : Nat, (∀ (v3 : Int32) (w0_5 : Int32) (z1 : Nat → Int32) (z2 : Nat → Int32) (z3 : Nat → Int64) (H : Heap) (locs : List Loc) (ls : Array Slot), gi v3 0 24 → gi w0_5 0 24 → ga z2 24 0 23 → w0_5.toInt ≤ v3.toInt → (lfX1_lineUp fve fqu ftu areportCount p_name p_trust r_place r_kind r_month r_day r_known r_struck p2 z) v3 w0_5 z1 z2 z3 = RES → 49 + (-2) * v3.toInt < (z : Int) → va_P (dC, dI) vwCl [(h0, .inr (1, [.ref fr, .ref ve, .ref qu, .ref tu, .ref cb, .int w0_5, .int takenBits])), (ve, .inl (kve, 24, .inl z1)), (qu, .inl (kqu, 24, .inl z2)), (tu, .inl (ktu, 24, .inr (.inl z3)))] H → va_D A [(h0, .inr (1, [.ref fr, .ref ve, .ref qu, .ref tu, .ref cb, .int w0_5, .int takenBits])), (ve, .inl (kve, 24, .inl z1)), (qu, .inl (kqu, 24, .inl z2)), (tu, .inl (ktu, 24, .inr (.inl z3)))] → va_S A s.heap H locs → lv_has ls 4 [(0, .ref h0), (1, .ref am), (2, .int p2), (3, .int v3)] → W p l e R s m args below meth c H locs cells slots Q (F0 m 7 ls [])) := by
  intro z
  induction z with
  | zero =>
    intro v3 w0_5 z1 z2 z3 H locs ls gv3 gw0_5 gz2 hle_gw0_5_gv3 hF hmu hP hD hS hl
    exact absurd hmu (by have hv31 := gv3.1; have hv32 := gv3.2; omega)
  | succ z ih =>
      intro v3 w0_5 z1 z2 z3 H locs ls gv3 gw0_5 gz2 hle_gw0_5_gv3 hF hmu hP hD hS hl
      have hF : dfX1_lineUp_7 fve fqu ftu areportCount p_name p_trust r_place r_kind r_month r_day r_known r_struck p2 (lfX1_lineUp fve fqu ftu areportCount p_name p_trust r_place r_kind r_month r_day r_known r_struck p2 z) v3 w0_5 z1 z2 z3 = RES := hF
      refine lv_iload_n hx hb (dk_at dkX1_lineUp 5 rfl) rfl (lv_at hl 3 rfl) ?_
      refine lv_aload_n hx hb (dk_at dkX1_lineUp 6 rfl) rfl (lv_at hl 1 rfl) ?_
      refine va_get (D := (dC, dI)) (ci := 0) (v := .int areportCount) (C := RX0) (T := TX0) (N := 13) hx hb hts (fun w h => List.mem_cons_of_mem _ (jnGA_X0 w h)) hown hK (gz_ro hR hRA hS) 0 rfl rfl 8 (by decide) (hts _ (List.mem_cons_of_mem _ mGA_452)) (fun _ h9 => h9) rfl (dk_at dkX1_lineUp 7 rfl) ?_
      refine lv_icmp_ge (tgt := 51) hx hb (dk_at dkX1_lineUp 8 rfl) (by decide) (fun c_241 => ?_) (fun c_241 => ?_)
      · have hF := gf_pos c_241 hF
        exact kr51 w0_5 z1 z2 z3 _ _ _ gw0_5 gz2 hF hP hD hS (lv_sub hl [] rfl)
      · have hF := gf_neg c_241 hF
        have g_242 : gi v3 0 23 := gi_lt_l (Int32.not_le.mp c_241) gv3 gareportCount (by decide)
        have g_243 : gi w0_5 0 23 := gi_rel hle_gw0_5_gv3 gw0_5 g_242
        have g_244 : gi areportCount 1 24 := gi_lt_r (Int32.not_le.mp c_241) gv3 gareportCount (by decide)
        refine lv_aload_n hx hb (dk_at dkX1_lineUp 9 rfl) rfl (lv_at hl 0 rfl) ?_
        refine va_get (D := (dC, dI)) (ci := 1) (v := .ref ve) (C := RX1) (T := TX1) (N := 7) hx hb hts (fun w h => List.mem_cons_of_mem _ (jnGA_X1 w h)) hown hK hP 0 rfl rfl 1 (by decide) (hts _ (List.mem_cons_of_mem _ mGA_101)) (fun _ h9 => h9) rfl (dk_at dkX1_lineUp 10 rfl) ?_
        refine lv_iload_n hx hb (dk_at dkX1_lineUp 11 rfl) rfl (lv_at hl 3 rfl) ?_
        refine lv_iconst (v := 3) hx hb (dk_at dkX1_lineUp 12 rfl) (by decide) ?_
        refine va_iast hx hb hK hP hD hS 1 0 rfl rfl (gi_in g_242 (by decide)) (dk_at dkX1_lineUp 13 rfl) (fun H locs hP hD hS => ?_)
        obtain ⟨hP, hD⟩ := gz_both (w := [(h0, .inr (1, [.ref fr, .ref ve, .ref qu, .ref tu, .ref cb, .int w0_5, .int takenBits])), (ve, .inl (kve, 24, .inl (upd z1 (v3 : Int32).toNatClampNeg 3))), (qu, .inl (kqu, 24, .inl z2)), (tu, .inl (ktu, 24, .inr (.inl z3)))]) hP hD
        generalize ef_245 : upd z1 (v3 : Int32).toNatClampNeg 3 = f_245 at hP hD
        refine lv_aload_n hx hb (dk_at dkX1_lineUp 14 rfl) rfl (lv_at hl 1 rfl) ?_
        refine va_get (D := (dC, dI)) (ci := 0) (v := .ref re) (C := RX0) (T := TX0) (N := 13) hx hb hts (fun w h => List.mem_cons_of_mem _ (jnGA_X0 w h)) hown hK (gz_ro hR hRA hS) 0 rfl rfl 11 (by decide) (hts _ (List.mem_cons_of_mem _ mGA_447)) (fun _ h9 => h9) rfl (dk_at dkX1_lineUp 15 rfl) ?_
        refine lv_iload_n hx hb (dk_at dkX1_lineUp 16 rfl) rfl (lv_at hl 3 rfl) ?_
        refine va_aldq hx hb hK (gz_ro hR hRA hS) 2 4 rfl rfl (gi_in g_242 (by decide)) (dk_at dkX1_lineUp 17 rfl) ?_
        refine W.eq (g2 := F0 m 28 ls [.ref (ra v3.toNatClampNeg)]) rfl ?_
        refine lv_iload_n hx hb (dk_at dkX1_lineUp 18 rfl) rfl (lv_at hl 2 rfl) ?_
        have hPc : va_P (dC, dI) vwCl [((ra v3.toNatClampNeg), .inr (7, [.int (r_place v3.toNatClampNeg), .int (r_kind v3.toNatClampNeg), .int (r_month v3.toNatClampNeg), .int (r_day v3.toNatClampNeg), .int (r_known v3.toNatClampNeg), .int (r_struck v3.toNatClampNeg)]))] H := (gz_fam1 (gz_ro hF1 hFA1 hS) (gz_clt (gi_in (n := 24) g_242 (by decide))))
        have hKc := hK.sub (tys' := []) [] rfl
        refine va_calli (va_runV (As := [.int p2]) (rest := []) ⟨hx, hb, hml, hown, hts⟩ (sX7_isKnownBy l dC dI (ra v3.toNatClampNeg) (r_place v3.toNatClampNeg) (r_kind v3.toNatClampNeg) (r_month v3.toNatClampNeg) (r_day v3.toNatClampNeg) (r_known v3.toNatClampNeg) (r_struck v3.toNatClampNeg) p2 (ga_ix gr_place (gi_in (n := 24) g_242 (by decide))) (ga_ix gr_month (gi_in (n := 24) g_242 (by decide))) (ga_ix gr_struck (gi_in (n := 24) g_242 (by decide)))) (cwV 1 hts (gz_gV mGA_453 mGA_438 mGA_439 mGA_78 mGA_440 goodGA) rfl rfl rfl hdV_X7_isKnownBy_X7_1 ⟨Nat.le_trans (Nat.le_of_ble_eq_true rfl) hRf, Nat.le_trans (Nat.le_of_ble_eq_true rfl) hRl⟩) ⟨bl_I (bl_a bl_P (bl_a bl_K bl_nz)), va_recv hKc hPc (ci := 7) (q0 := 0) rfl rfl, fun U hU hW => ⟨rfl, by rw [hU]; exact hPc, va_K.moved hW.alike hKc, nzA_warm hW hz⟩⟩ rfl rfl hl.1 rfl (lv_room (Nat.le_of_ble_eq_true rfl)) (dk_at dkX1_lineUp 19 rfl) ⟨hRc, hRs⟩) hS (fun q _ h => h.elim) (fun q h => h.elim) (fun r_246 u t H1 locs ht hvm hw hB hz1 hk1 hS => ?_)
        obtain ⟨hw, hE⟩ := hw
        have hP := gz_keep hP hk1
        have hF := gf_call (a := r_246) hE hF
        generalize H1 = H at hP hS ⊢
        have gr_246 : gi r_246 0 1 := hw
        refine lv_if_eq (tgt := 45) hx hb (dk_at dkX1_lineUp 20 rfl) (by decide) (fun c_247 => ?_) (fun c_247 => ?_)
        · have hF := gf_pos c_247 hF
          have g_248 : gi r_246 0 0 := gi_eq c_247 (gi_c 0 0 (by decide))
          obtain ⟨x_249, ex_249⟩ : ∃ y : Int32, y = v3 + 1 := ⟨_, rfl⟩
          have gx_249 : gi x_249 1 24 := gi_add ex_249 g_242 (gi_c 1 1 (by decide)) (by decide)
          refine lv_iinc (v := x_249) (lv' := [(3, .int x_249), (0, .ref h0), (1, .ref am), (2, .int p2)]) hx hb (dk_at dkX1_lineUp 27 rfl) hl (k := 3) rfl (by rw [ex_249]; rfl) (by decide) rfl (fun ls hl => ?_)
          refine lv_goto (tgt := 7) hx hb (dk_at dkX1_lineUp 28 rfl) (by decide) ?_
          exact ih x_249 w0_5 f_245 z2 z3 _ _ _ (gi_w gx_249 (by decide)) (gi_w g_243 (by decide)) gz2 (by have qgx_249 := gx_249.1; have rgx_249 := gx_249.2; have igx_249 : x_249.toInt = v3.toInt + 1 := (by have hc1 : (1 : Int32).toInt = 1 := (by decide); have h9 := gi_addE ex_249 g_242 (gi_c 1 1 (by decide)) (by decide); rw [hc1] at h9; exact h9); have qgv3 := g_242.1; have rgv3 := g_242.2; have qgw0_5 := g_243.1; have rgw0_5 := g_243.2; have y1 := (Int32.lt_iff_toInt_lt.mp (Int32.not_le.mp c_241)); omega) (by first | (rw [ex_249, ← ef_245]; exact hF) | ((try rw [ex_249]); (try rw [← ef_245]); exact hF)) (by have av3 := gv3.1; have bv3 := gv3.2; have qgx_249 := gx_249.1; have rgx_249 := gx_249.2; have igx_249 : x_249.toInt = v3.toInt + 1 := (by have hc1 : (1 : Int32).toInt = 1 := (by decide); have h9 := gi_addE ex_249 g_242 (gi_c 1 1 (by decide)) (by decide); rw [hc1] at h9; exact h9); have qgv3 := g_242.1; have rgv3 := g_242.2; omega) hP hD hS (lv_sub hl [1, 2, 3, 0] rfl)
        · have hF := gf_neg c_247 hF
          have g_250 : gi r_246 1 1 := gi_ne_lo c_247 gr_246 (gi_c 0 0 (by decide)) (by decide)
          refine lv_aload_n hx hb (dk_at dkX1_lineUp 21 rfl) rfl (lv_at hl 0 rfl) ?_
          refine lv_iload_n hx hb (dk_at dkX1_lineUp 22 rfl) rfl (lv_at hl 3 rfl) ?_
          refine lv_aload_n hx hb (dk_at dkX1_lineUp 23 rfl) rfl (lv_at hl 1 rfl) ?_
          refine lv_iload_n hx hb (dk_at dkX1_lineUp 24 rfl) rfl (lv_at hl 3 rfl) ?_
          have hPc : va_P (dC, dI) vwCl [(am, .inr (0, [.int amonths, .int afull, .int alean, .int alines, .int ahasMoon, .int amoonStart, .int amoonStep, .int aplaceCount, .int areportCount, .int adeedCount, .ref pl, .ref re, .ref de])), (pl, .inl (kpl, 6, .inr (.inr (.inr (.inr (fun i => some (pa i))))))), (re, .inl (kre, 24, .inr (.inr (.inr (.inr (fun i => some (ra i)))))))] H := (gz_cat ((gz_ro hR hRA hS).sub [0] rfl) (gz_cat ((gz_ro hR hRA hS).sub [1] rfl) ((gz_ro hR hRA hS).sub [2] rfl)))
          have hKc := hK.sub (tys' := [(kpl, .object RX5), (kre, .object RX7)]) [3, 4] rfl
          refine va_calll (va_runS (As := [.ref am, .int v3]) (rest := [.int v3, .ref h0]) ⟨hx, hb, hml, hown, hts⟩ (sX1_turnOf l dC dI am pl re amonths afull alean alines ahasMoon amoonStart amoonStep aplaceCount areportCount adeedCount de kpl kre pa p_name p_trust ra r_place r_kind r_month r_day r_known r_struck v3 gamonths gafull galean gahasMoon gaplaceCount (gi_w g_244 (by decide)) gadeedCount gr_place gr_month gr_struck g_242) (cwS 2 hts (gz_gS mGA_454 mGA_455 mGA_22 mGA_456 goodGA) rfl rfl rfl hdS_X1_turnOf_X1_2 ⟨Nat.le_trans (Nat.le_of_ble_eq_true rfl) hRf, Nat.le_trans (Nat.le_of_ble_eq_true rfl) hRl⟩) ⟨bl_I (bl_a bl_P (bl_a bl_K (bl_a bl_nz (bl_a bl_P bl_P)))), fun U hU hW => ⟨rfl, by rw [hU]; exact hPc, va_K.moved hW.alike hKc, nzA_warm hW hz, by rw [hU]; exact gz_ro hF0 hFA0 hS, by rw [hU]; exact gz_ro hF1 hFA1 hS⟩⟩ rfl rfl hl.1 rfl (lv_room (Nat.le_of_ble_eq_true rfl)) (dk_at dkX1_lineUp 25 rfl) ⟨hRc, hRs⟩) hS (fun q _ h => h.elim) (fun q h => h.elim) (fun r_251 u t H1 locs ht hvm hw hB hz1 hk1 hS => ?_)
          obtain ⟨hw, hE⟩ := hw
          have hP := gz_keep hP hk1
          have hF := gf_call (a := r_251) hE hF
          generalize H1 = H at hP hS ⊢
          obtain ⟨hPc, hDc, hFc⟩ := gz_cut (wc := [(h0, .inr (1, [.ref fr, .ref ve, .ref qu, .ref tu, .ref cb, .int w0_5, .int takenBits])), (qu, .inl (kqu, 24, .inl z2)), (tu, .inl (ktu, 24, .inr (.inl z3)))]) hP hD hS hA [0, 2, 3] (by decide) rfl
          have hKc := hK.sub (tys' := [(kqu, .int), (ktu, .long)]) [1, 2] rfl
          refine va_callv (va_runV (As := [.int v3, .long r_251]) (rest := []) ⟨hx, hb, hml, hown, hts⟩ (sX1_insert l dC dI H.size h0 qu tu fr ve cb w0_5 takenBits kqu z2 ktu z3 v3 r_251 g_243 gz2 g_242) (cwV 2 hts (gz_gV mGA_468 mGA_469 mGA_470 mGA_22 mGA_471 goodGA) rfl rfl rfl hdV_X1_insert_X1_2 ⟨Nat.le_trans (Nat.le_of_ble_eq_true rfl) hRf, Nat.le_trans (Nat.le_of_ble_eq_true rfl) hRl⟩) ⟨bl_I (bl_a bl_sz (bl_a bl_P (bl_a bl_K (bl_a bl_c bl_nz)))), va_recv hKc hPc (ci := 1) (q0 := 0) rfl rfl, fun U hU hW => ⟨rfl, by rw [hU], by rw [hU]; exact hPc, va_K.moved hW.alike hKc, hDc.weaken (fun _ _ _ _ => trivial), nzA_warm hW hz⟩⟩ rfl rfl hl.1 rfl (lv_room (Nat.le_of_ble_eq_true rfl)) (dk_at dkX1_lineUp 26 rfl) ⟨hRc, hRs⟩) hS (fun q _ h => hFc q h) hFc (fun u t H1 locs ht hvm hw hB hz1 hk1 hS => ?_)
          obtain ⟨y_253, f_254, f_255, hB⟩ := hB
          obtain ⟨gy_253, gf_254, hpr0_r_252, hE, hP1, hD1⟩ := hB
          rw [ht] at hP1
          obtain ⟨hP, hD⟩ := gz_back hP hD hk1 hFc hP1 hD1 [0, 2, 3] rfl rfl
          obtain ⟨hP, hD⟩ := gz_both (w := [(h0, .inr (1, [.ref fr, .ref ve, .ref qu, .ref tu, .ref cb, .int y_253, .int takenBits])), (ve, .inl (kve, 24, .inl f_245)), (qu, .inl (kqu, 24, .inl f_254)), (tu, .inl (ktu, 24, .inr (.inl f_255)))]) hP hD
          have hF := gf_call (a := (y_253, f_254, f_255)) hE hF
          generalize H1 = H at hP hS ⊢
          obtain ⟨x_256, ex_256⟩ : ∃ y : Int32, y = v3 + 1 := ⟨_, rfl⟩
          have gx_256 : gi x_256 1 24 := gi_add ex_256 g_242 (gi_c 1 1 (by decide)) (by decide)
          refine lv_iinc (v := x_256) (lv' := [(3, .int x_256), (0, .ref h0), (1, .ref am), (2, .int p2)]) hx hb (dk_at dkX1_lineUp 27 rfl) hl (k := 3) rfl (by rw [ex_256]; rfl) (by decide) rfl (fun ls hl => ?_)
          refine lv_goto (tgt := 7) hx hb (dk_at dkX1_lineUp 28 rfl) (by decide) ?_
          exact ih x_256 y_253 f_245 f_254 f_255 _ _ _ (gi_w gx_256 (by decide)) gy_253 gf_254 (by have qgx_256 := gx_256.1; have rgx_256 := gx_256.2; have igx_256 : x_256.toInt = v3.toInt + 1 := (by have hc1 : (1 : Int32).toInt = 1 := (by decide); have h9 := gi_addE ex_256 g_242 (gi_c 1 1 (by decide)) (by decide); rw [hc1] at h9; exact h9); have qgv3 := g_242.1; have rgv3 := g_242.2; have qgy_253 := gy_253.1; have rgy_253 := gy_253.2; have y1 := (Int32.lt_iff_toInt_lt.mp (Int32.not_le.mp c_241)); omega) (by first | (rw [ex_256, ← ef_245]; exact hF) | ((try rw [ex_256]); (try rw [← ef_245]); exact hF)) (by have av3 := gv3.1; have bv3 := gv3.2; have qgx_256 := gx_256.1; have rgx_256 := gx_256.2; have igx_256 : x_256.toInt = v3.toInt + 1 := (by have hc1 : (1 : Int32).toInt = 1 := (by decide); have h9 := gi_addE ex_256 g_242 (gi_c 1 1 (by decide)) (by decide); rw [hc1] at h9; exact h9); have qgv3 := g_242.1; have rgv3 := g_242.2; omega) hP hD hS (lv_sub hl [1, 2, 3, 0] rfl)
abbrev pb_sX1_lineUp (dC : Nat → ClassId) (dI : Nat → Nat → Nat) (A9 : Nat → Prop) (h0 : Nat) (ve : Nat) (qu : Nat) (tu : Nat) (am : Nat) (pl : Nat) (re : Nat) (fr : Nat) (cb : Nat) (queueLength : Int32) (takenBits : Int32) (kve : ClassId) (fve : Nat → Int32) (kqu : ClassId) (fqu : Nat → Int32) (ktu : ClassId) (ftu : Nat → Int64) (amonths : Int32) (afull : Int32) (alean : Int32) (alines : Int32) (ahasMoon : Int32) (amoonStart : Int32) (amoonStep : Int32) (aplaceCount : Int32) (areportCount : Int32) (adeedCount : Int32) (de : Nat) (kpl : ClassId) (kre : ClassId) (pa : Nat → Nat) (p_name : Nat → Int32) (p_trust : Nat → Int32) (ra : Nat → Nat) (r_place : Nat → Int32) (r_kind : Nat → Int32) (r_month : Nat → Int32) (r_day : Nat → Int32) (r_known : Nat → Int32) (r_struck : Nat → Int32) (p2 : Int32) (w0_5 : Int32) (z1 : Nat → Int32) (z2 : Nat → Int32) (z3 : Nat → Int64) (t : State) : Prop := gi w0_5 0 24 ∧ ga z2 24 0 23 ∧ (w0_5, z1, z2, z3) = fX1_lineUp fve fqu ftu areportCount p_name p_trust r_place r_kind r_month r_day r_known r_struck p2 ∧ va_P (dC, dI) vwCl [(h0, .inr (1, [.ref fr, .ref ve, .ref qu, .ref tu, .ref cb, .int w0_5, .int takenBits])), (ve, .inl (kve, 24, .inl z1)), (qu, .inl (kqu, 24, .inl z2)), (tu, .inl (ktu, 24, .inr (.inl z3)))] t.heap ∧ va_D A9 [(h0, .inr (1, [.ref fr, .ref ve, .ref qu, .ref tu, .ref cb, .int w0_5, .int takenBits])), (ve, .inl (kve, 24, .inl z1)), (qu, .inl (kqu, 24, .inl z2)), (tu, .inl (ktu, 24, .inr (.inl z3)))]
set_option maxHeartbeats 4000000 in
set_option maxRecDepth 100000 in
theorem sX1_lineUp (l : Launch) (dC : Nat → ClassId) (dI : Nat → Nat → Nat) (sz : Nat) (h0 : Nat) (ve : Nat) (qu : Nat) (tu : Nat) (am : Nat) (pl : Nat) (re : Nat) (fr : Nat) (cb : Nat) (queueLength : Int32) (takenBits : Int32) (kve : ClassId) (fve : Nat → Int32) (kqu : ClassId) (fqu : Nat → Int32) (ktu : ClassId) (ftu : Nat → Int64) (amonths : Int32) (afull : Int32) (alean : Int32) (alines : Int32) (ahasMoon : Int32) (amoonStart : Int32) (amoonStep : Int32) (aplaceCount : Int32) (areportCount : Int32) (adeedCount : Int32) (de : Nat) (kpl : ClassId) (kre : ClassId) (pa : Nat → Nat) (p_name : Nat → Int32) (p_trust : Nat → Int32) (ra : Nat → Nat) (r_place : Nat → Int32) (r_kind : Nat → Int32) (r_month : Nat → Int32) (r_day : Nat → Int32) (r_known : Nat → Int32) (r_struck : Nat → Int32) (p2 : Int32) (gqueueLength : gi queueLength 0 24) (gfqu : ga fqu 24 0 23) (gamonths : gi amonths 0 24) (gafull : gi afull 0 5) (galean : gi alean 0 5) (gahasMoon : gi ahasMoon 0 1) (gaplaceCount : gi aplaceCount 0 6) (gareportCount : gi areportCount 0 24) (gadeedCount : gi adeedCount 0 8) (gr_place : ga r_place 24 0 5) (gr_month : ga r_month 24 0 23) (gr_struck : ga r_struck 24 0 1) : Met l yX1_lineUp (.code yX1_lineUp cX1_lineUp 4 none :: wsGA) ({ frames := 1, cells := 0, slots := 0, locals := 25 }) (va_Pc [.ref h0, .ref am, .int p2] (fun U => U.heap.size = sz ∧ va_P (dC, dI) vwCl [(h0, .inr (1, [.ref fr, .ref ve, .ref qu, .ref tu, .ref cb, .int queueLength, .int takenBits])), (ve, .inl (kve, 24, .inl fve)), (qu, .inl (kqu, 24, .inl fqu)), (tu, .inl (ktu, 24, .inr (.inl ftu)))] U.heap ∧ va_K (dC, dI) vwCl [(kve, .int), (kqu, .int), (ktu, .long), (kpl, .object RX5), (kre, .object RX7)] U ∧ va_D (fun _ => True) [(h0, .inr (1, [.ref fr, .ref ve, .ref qu, .ref tu, .ref cb, .int queueLength, .int takenBits])), (ve, .inl (kve, 24, .inl fve)), (qu, .inl (kqu, 24, .inl fqu)), (tu, .inl (ktu, 24, .inr (.inl ftu)))] ∧ nzA U ∧ va_P (dC, dI) vwCl [(am, .inr (0, [.int amonths, .int afull, .int alean, .int alines, .int ahasMoon, .int amoonStart, .int amoonStep, .int aplaceCount, .int areportCount, .int adeedCount, .ref pl, .ref re, .ref de])), (pl, .inl (kpl, 6, .inr (.inr (.inr (.inr (fun i => some (pa i))))))), (re, .inl (kre, 24, .inr (.inr (.inr (.inr (fun i => some (ra i)))))))] U.heap ∧ gz_ap (va_A [(h0, .inr (1, [.ref fr, .ref ve, .ref qu, .ref tu, .ref cb, .int queueLength, .int takenBits])), (ve, .inl (kve, 24, .inl fve)), (qu, .inl (kqu, 24, .inl fqu)), (tu, .inl (ktu, 24, .inr (.inl ftu)))] sz) [(am, .inr (0, [.int amonths, .int afull, .int alean, .int alines, .int ahasMoon, .int amoonStart, .int amoonStep, .int aplaceCount, .int areportCount, .int adeedCount, .ref pl, .ref re, .ref de])), (pl, .inl (kpl, 6, .inr (.inr (.inr (.inr (fun i => some (pa i))))))), (re, .inl (kre, 24, .inr (.inr (.inr (.inr (fun i => some (ra i)))))))] ∧ va_P (dC, dI) vwCl (gz_fam 6 pa 5 (fun i => [.int (p_name i), .int (p_trust i)])) U.heap ∧ gz_ap (va_A [(h0, .inr (1, [.ref fr, .ref ve, .ref qu, .ref tu, .ref cb, .int queueLength, .int takenBits])), (ve, .inl (kve, 24, .inl fve)), (qu, .inl (kqu, 24, .inl fqu)), (tu, .inl (ktu, 24, .inr (.inl ftu)))] sz) (gz_fam 6 pa 5 (fun i => [.int (p_name i), .int (p_trust i)])) ∧ va_P (dC, dI) vwCl (gz_fam 24 ra 7 (fun i => [.int (r_place i), .int (r_kind i), .int (r_month i), .int (r_day i), .int (r_known i), .int (r_struck i)])) U.heap ∧ gz_ap (va_A [(h0, .inr (1, [.ref fr, .ref ve, .ref qu, .ref tu, .ref cb, .int queueLength, .int takenBits])), (ve, .inl (kve, 24, .inl fve)), (qu, .inl (kqu, 24, .inl fqu)), (tu, .inl (ktu, 24, .inr (.inl ftu)))] sz) (gz_fam 24 ra 7 (fun i => [.int (r_place i), .int (r_kind i), .int (r_month i), .int (r_day i), .int (r_known i), .int (r_struck i)])))) (va_Qv (fun (u : Unit) => True) (fun _ t => ∃ (w0_5 : Int32) (z1 : Nat → Int32) (z2 : Nat → Int32) (z3 : Nat → Int64), pb_sX1_lineUp dC dI (va_A [(h0, .inr (1, [.ref fr, .ref ve, .ref qu, .ref tu, .ref cb, .int queueLength, .int takenBits])), (ve, .inl (kve, 24, .inl fve)), (qu, .inl (kqu, 24, .inl fqu)), (tu, .inl (ktu, 24, .inr (.inl ftu)))] sz) h0 ve qu tu am pl re fr cb queueLength takenBits kve fve kqu fqu ktu ftu amonths afull alean alines ahasMoon amoonStart amoonStep aplaceCount areportCount adeedCount de kpl kre pa p_name p_trust ra r_place r_kind r_month r_day r_known r_struck p2 w0_5 z1 z2 z3 t) (va_A [(h0, .inr (1, [.ref fr, .ref ve, .ref qu, .ref tu, .ref cb, .int queueLength, .int takenBits])), (ve, .inl (kve, 24, .inl fve)), (qu, .inl (kqu, 24, .inl fqu)), (tu, .inl (ktu, 24, .inr (.inl ftu)))] sz)) 0 0 (va_A [(h0, .inr (1, [.ref fr, .ref ve, .ref qu, .ref tu, .ref cb, .int queueLength, .int takenBits])), (ve, .inl (kve, 24, .inl fve)), (qu, .inl (kqu, 24, .inl fqu)), (tu, .inl (ktu, 24, .inr (.inl ftu)))] sz) := by
  refine Met.ofW (cc := cX1_lineUp) (maxL := 4) (ret := none) (by decide) rfl ?_
  intro p e s m args below meth c s₁ B hml hv
  obtain ⟨rfl, hsz, hP, hK, hD0, hz, hR, hRA, hF0, hFA0, hF1, hFA1⟩ := hv
  have hx := B.exec
  have hb := B.bytes
  have hr := B.returns
  have hts := atoms_spec (ws := (.code yX1_lineUp cX1_lineUp 4 none :: wsGA)) B.pre
  have hown : s.vm.findClass RX1 = some m.cls := findClass_of_methodNamed B.named
  have hlocks := B.notSynchronized
  subst hsz
  have hD := hD0.self (sz := s.heap.size)
  generalize hAe : va_A [(h0, .inr (1, [.ref fr, .ref ve, .ref qu, .ref tu, .ref cb, .int queueLength, .int takenBits])), (ve, .inl (kve, 24, .inl fve)), (qu, .inl (kqu, 24, .inl fqu)), (tu, .inl (ktu, 24, .inr (.inl ftu)))] s.heap.size = A at hD hRA hFA0 hFA1 ⊢
  have hA : ∀ q : Nat, s.heap.size ≤ q → A q := fun q h => by rw [← hAe]; exact Or.inr h
  have hS : va_S A s.heap s.heap [] := va_S.rf
  have hl := lv_entry ([.ref h0, .ref am, .int p2]) (n := 4) (Nat.le_of_ble_eq_true rfl)
  rw [lg_entry_eq]
  generalize (lg_sl ([.ref h0, .ref am, .int p2]) ++ List.replicate (4 - (lg_sl ([.ref h0, .ref am, .int p2])).length) Slot.unset).toArray = ls at hl ⊢
  have hl : lv_has ls 4 [(0, .ref h0), (1, .ref am), (2, .int p2)] := hl
  obtain ⟨RES, hF⟩ : ∃ R9, fX1_lineUp fve fqu ftu areportCount p_name p_trust r_place r_kind r_month r_day r_known r_struck p2 = R9 := ⟨_, rfl⟩
  have hR9 := hF
  refine lv_aload_n hx hb (dk_at dkX1_lineUp 0 rfl) rfl (lv_at hl 0 rfl) ?_
  refine lv_iconst (v := 0) hx hb (dk_at dkX1_lineUp 1 rfl) (by decide) ?_
  refine va_put (D := (dC, dI)) (ci := 1) (v := .int 0) (ty := .int) (C := RX1) (T := TX1) (N := 7) hx hb hts (fun w h => List.mem_cons_of_mem _ (jnGA_X1 w h)) tyX1 tyX1_ok nmX1 hown hK hP hD hS 0 rfl rfl 5 (by decide) (hts _ (List.mem_cons_of_mem _ mGA_106)) (fun _ h9 => h9) rfl fdX1_5 rfl rfl (Nat.le_of_ble_eq_true rfl) (dk_at dkX1_lineUp 2 rfl) (fun H locs hP hD hS => ?_)
  obtain ⟨hP, hD⟩ := gz_both (w := [(h0, .inr (1, [.ref fr, .ref ve, .ref qu, .ref tu, .ref cb, .int 0, .int takenBits])), (ve, .inl (kve, 24, .inl fve)), (qu, .inl (kqu, 24, .inl fqu)), (tu, .inl (ktu, 24, .inr (.inl ftu)))]) hP hD
  refine lv_iconst (v := 0) hx hb (dk_at dkX1_lineUp 3 rfl) (by decide) ?_
  refine lv_istore_n (lv' := [(3, .int 0), (0, .ref h0), (1, .ref am), (2, .int p2)]) hx hb (dk_at dkX1_lineUp 4 rfl) rfl hl (by decide) rfl (fun ls hl => ?_)
  refine (lp_sX1_lineUp h0 ve qu tu am pl re fr cb queueLength takenBits kve fve kqu fqu ktu ftu amonths afull alean alines ahasMoon amoonStart amoonStep aplaceCount areportCount adeedCount de kpl kre pa p_name p_trust ra r_place r_kind r_month r_day r_known r_struck p2 gqueueLength gfqu gamonths gafull galean gahasMoon gaplaceCount gareportCount gadeedCount gr_place gr_month gr_struck hx hb hml hown hts hK hz hR hRA hF0 hFA0 hF1 hFA1 hA (Nat.le_of_ble_eq_true rfl) (Nat.le_of_ble_eq_true rfl) (Nat.zero_le _) (Nat.zero_le _) (fun w0_5 z1 z2 z3 H locs ls gw0_5 gz2 hF hP hD hS hl => ?_) 1000000000) 0 0 fve fqu ftu _ _ _ (gi_w (gi_c 0 0 (by decide)) (by decide)) (gi_w (gi_c 0 0 (by decide)) (by decide)) gfqu (by have k0 : (0 : Int32).toInt = 0 := (by decide); have k0 : (0 : Int32).toInt = 0 := (by decide); omega) hF (by have k0 : (0 : Int32).toInt = 0 := (by decide); omega) hP hD hS (lv_sub hl [1, 2, 3, 0] rfl)
  · skip
    exact W.vret hx hb hr (fun t ht hW => ⟨⟨(), rfl, trivial, w0_5, z1, z2, z3, gw0_5, gz2, hF.trans hR9.symm, by rw [ht]; exact hP, hD⟩, hS.F ht⟩) hS.2.2 (dk_at dkX1_lineUp 29 rfl)
noncomputable def lsX1_verdictOn : List (Nat × Instr × Nat) := [(0, .aload_n 2, 1), (1, .getfield 111, 3), (4, .ifCond .ne 14, 3), (7, .aload_n 1, 1), (8, .getfield 114, 3), (11, .ifCond .eq 7, 3), (14, .iconst 1, 1), (15, .goto 4, 3), (18, .iconst 0, 1), (19, .istore_n 3, 1), (20, .iload_n 3, 1), (21, .ifCond .eq 20, 3), (24, .aload_n 2, 1), (25, .getfield 106, 3), (28, .aload_n 1, 1), (29, .aload_n 2, 1), (30, .getfield 101, 3), (33, .invokevirtual 118, 3), (36, .if_icmp .ge 5, 3), (39, .iconst 1, 1), (40, .ireturn, 1), (41, .aload_n 0, 1), (42, .getfield 12, 3), (45, .getfield 122, 3), (48, .aload_n 2, 1), (49, .getfield 101, 3), (52, .iaload, 1), (53, .istore 4, 2), (55, .aload_n 0, 1), (56, .getfield 12, 3), (59, .aload_n 2, 1), (60, .invokevirtual 125, 3), (63, .aload_n 0, 1), (64, .getfield 12, 3), (67, .getfield 122, 3), (70, .aload_n 2, 1), (71, .getfield 101, 3), (74, .iaload, 1), (75, .iload 4, 2), (77, .if_icmp .eq 13, 3), (80, .aload_n 0, 1), (81, .getfield 12, 3), (84, .invokevirtual 57, 3), (87, .ifCond .eq 5, 3), (90, .iconst 0, 1), (91, .ireturn, 1), (92, .aload_n 0, 1), (93, .getfield 12, 3), (96, .getfield 122, 3), (99, .aload_n 2, 1), (100, .getfield 101, 3), (103, .iload 4, 2), (105, .iastore, 1), (106, .iconst 2, 1), (107, .ireturn, 1)]
theorem dkX1_verdictOn : dkAll cX1_verdictOn lsX1_verdictOn = true := dk_fast (by decide +kernel)
noncomputable def bfX1_verdictOn_90 (fmonths : Int32) (ffull : Int32) (flean : Int32) (ffal : Nat → Int32) (ffon : Nat → Int32) (ahasMoon : Int32) (amoonStart : Int32) (amoonStep : Int32) (qkind : Int32) (qmonth : Int32) (qday : Int32) (z2 : Nat → Int32) (z3 : Nat → Int32) : Int32 × (Nat → Int32) × (Nat → Int32) := ((0 : Int32), z2, z3)
noncomputable def bfX1_verdictOn_41 (fmonths : Int32) (ffull : Int32) (flean : Int32) (ffal : Nat → Int32) (ffon : Nat → Int32) (ahasMoon : Int32) (amoonStart : Int32) (amoonStep : Int32) (qkind : Int32) (qmonth : Int32) (qday : Int32) (z2 : Nat → Int32) (z3 : Nat → Int32) : Int32 × (Nat → Int32) × (Nat → Int32) := cal (fun o2 => if (o2 qmonth.toNatClampNeg) = (z2 qmonth.toNatClampNeg) then (bfX1_verdictOn_90 fmonths ffull flean ffal ffon ahasMoon amoonStart amoonStep qkind qmonth qday o2 z3) else (cal (fun o3 => if o3.1 = (0 : Int32) then ((2 : Int32), (upd o2 qmonth.toNatClampNeg (z2 qmonth.toNatClampNeg)), o3.2) else (bfX1_verdictOn_90 fmonths ffull flean ffal ffon ahasMoon amoonStart amoonStep qkind qmonth qday o2 o3.2)) (fX3_fits fmonths ffull flean o2 z3))) (fX3_narrow z2 qkind qmonth qday)
noncomputable def bfX1_verdictOn_19 (fmonths : Int32) (ffull : Int32) (flean : Int32) (ffal : Nat → Int32) (ffon : Nat → Int32) (ahasMoon : Int32) (amoonStart : Int32) (amoonStep : Int32) (qkind : Int32) (qmonth : Int32) (qday : Int32) (s0 : Int32) (z2 : Nat → Int32) (z3 : Nat → Int32) : Int32 × (Nat → Int32) × (Nat → Int32) := if s0 = (0 : Int32) then (bfX1_verdictOn_41 fmonths ffull flean ffal ffon ahasMoon amoonStart amoonStep qkind qmonth qday z2 z3) else (cal (fun o1 => if o1 ≤ qday then (bfX1_verdictOn_41 fmonths ffull flean ffal ffon ahasMoon amoonStart amoonStep qkind qmonth qday z2 z3) else ((1 : Int32), z2, z3)) (fX0_earlyOf amoonStart amoonStep qmonth))
noncomputable def bfX1_verdictOn_18 (fmonths : Int32) (ffull : Int32) (flean : Int32) (ffal : Nat → Int32) (ffon : Nat → Int32) (ahasMoon : Int32) (amoonStart : Int32) (amoonStep : Int32) (qkind : Int32) (qmonth : Int32) (qday : Int32) (z2 : Nat → Int32) (z3 : Nat → Int32) : Int32 × (Nat → Int32) × (Nat → Int32) := bfX1_verdictOn_19 fmonths ffull flean ffal ffon ahasMoon amoonStart amoonStep qkind qmonth qday (0 : Int32) z2 z3
noncomputable def fX1_verdictOn (fmonths : Int32) (ffull : Int32) (flean : Int32) (ffal : Nat → Int32) (ffon : Nat → Int32) (ahasMoon : Int32) (amoonStart : Int32) (amoonStep : Int32) (qkind : Int32) (qmonth : Int32) (qday : Int32) : Int32 × (Nat → Int32) × (Nat → Int32) := if qkind = (0 : Int32) then (if ahasMoon = (0 : Int32) then (bfX1_verdictOn_18 fmonths ffull flean ffal ffon ahasMoon amoonStart amoonStep qkind qmonth qday ffal ffon) else (bfX1_verdictOn_19 fmonths ffull flean ffal ffon ahasMoon amoonStart amoonStep qkind qmonth qday (1 : Int32) ffal ffon)) else (bfX1_verdictOn_18 fmonths ffull flean ffal ffon ahasMoon amoonStart amoonStep qkind qmonth qday ffal ffon)
abbrev pb_sX1_verdictOn (dC : Nat → ClassId) (dI : Nat → Nat → Nat) (A9 : Nat → Prop) (h0 : Nat) (fr : Nat) (fal : Nat) (fon : Nat) (am : Nat) (rp : Nat) (ve : Nat) (qu : Nat) (tu : Nat) (cb : Nat) (queueLength : Int32) (takenBits : Int32) (fmonths : Int32) (ffull : Int32) (flean : Int32) (kfal : ClassId) (ffal : Nat → Int32) (kfon : ClassId) (ffon : Nat → Int32) (amonths : Int32) (afull : Int32) (alean : Int32) (alines : Int32) (ahasMoon : Int32) (amoonStart : Int32) (amoonStep : Int32) (aplaceCount : Int32) (areportCount : Int32) (adeedCount : Int32) (pl : Nat) (re : Nat) (de : Nat) (qplace : Int32) (qkind : Int32) (qmonth : Int32) (qday : Int32) (qknown : Int32) (qstruck : Int32) (r : Int32) (z2 : Nat → Int32) (z3 : Nat → Int32) (t : State) : Prop := (r, z2, z3) = fX1_verdictOn fmonths ffull flean ffal ffon ahasMoon amoonStart amoonStep qkind qmonth qday ∧ va_P (dC, dI) vwCl [(h0, .inr (1, [.ref fr, .ref ve, .ref qu, .ref tu, .ref cb, .int queueLength, .int takenBits])), (fr, .inr (3, [.int fmonths, .int ffull, .int flean, .ref fal, .ref fon])), (fal, .inl (kfal, 25, .inl z2)), (fon, .inl (kfon, 275, .inl z3))] t.heap ∧ va_D A9 [(h0, .inr (1, [.ref fr, .ref ve, .ref qu, .ref tu, .ref cb, .int queueLength, .int takenBits])), (fr, .inr (3, [.int fmonths, .int ffull, .int flean, .ref fal, .ref fon])), (fal, .inl (kfal, 25, .inl z2)), (fon, .inl (kfon, 275, .inl z3))]
set_option maxHeartbeats 4000000 in
set_option maxRecDepth 100000 in
theorem sX1_verdictOn (l : Launch) (dC : Nat → ClassId) (dI : Nat → Nat → Nat) (sz : Nat) (h0 : Nat) (fr : Nat) (fal : Nat) (fon : Nat) (am : Nat) (rp : Nat) (ve : Nat) (qu : Nat) (tu : Nat) (cb : Nat) (queueLength : Int32) (takenBits : Int32) (fmonths : Int32) (ffull : Int32) (flean : Int32) (kfal : ClassId) (ffal : Nat → Int32) (kfon : ClassId) (ffon : Nat → Int32) (amonths : Int32) (afull : Int32) (alean : Int32) (alines : Int32) (ahasMoon : Int32) (amoonStart : Int32) (amoonStep : Int32) (aplaceCount : Int32) (areportCount : Int32) (adeedCount : Int32) (pl : Nat) (re : Nat) (de : Nat) (qplace : Int32) (qkind : Int32) (qmonth : Int32) (qday : Int32) (qknown : Int32) (qstruck : Int32) (gqueueLength : gi queueLength 0 24) (gfmonths : gi fmonths 0 24) (gffull : gi ffull 0 5) (gflean : gi flean 0 5) (gamonths : gi amonths 0 24) (gafull : gi afull 0 5) (galean : gi alean 0 5) (gahasMoon : gi ahasMoon 0 1) (gaplaceCount : gi aplaceCount 0 6) (gareportCount : gi areportCount 0 24) (gadeedCount : gi adeedCount 0 8) (gqplace : gi qplace 0 5) (gqmonth : gi qmonth 0 23) (gqstruck : gi qstruck 0 1) : Met l yX1_verdictOn (.code yX1_verdictOn cX1_verdictOn 5 (some .int) :: wsGA) ({ frames := 2, cells := 0, slots := 0, locals := 47 }) (va_Pc [.ref h0, .ref am, .ref rp] (fun U => U.heap.size = sz ∧ va_P (dC, dI) vwCl [(h0, .inr (1, [.ref fr, .ref ve, .ref qu, .ref tu, .ref cb, .int queueLength, .int takenBits])), (fr, .inr (3, [.int fmonths, .int ffull, .int flean, .ref fal, .ref fon])), (fal, .inl (kfal, 25, .inl ffal)), (fon, .inl (kfon, 275, .inl ffon))] U.heap ∧ va_K (dC, dI) vwCl [(kfal, .int), (kfon, .int)] U ∧ va_D (fun _ => True) [(h0, .inr (1, [.ref fr, .ref ve, .ref qu, .ref tu, .ref cb, .int queueLength, .int takenBits])), (fr, .inr (3, [.int fmonths, .int ffull, .int flean, .ref fal, .ref fon])), (fal, .inl (kfal, 25, .inl ffal)), (fon, .inl (kfon, 275, .inl ffon))] ∧ nzA U ∧ va_P (dC, dI) vwCl [(am, .inr (0, [.int amonths, .int afull, .int alean, .int alines, .int ahasMoon, .int amoonStart, .int amoonStep, .int aplaceCount, .int areportCount, .int adeedCount, .ref pl, .ref re, .ref de])), (rp, .inr (7, [.int qplace, .int qkind, .int qmonth, .int qday, .int qknown, .int qstruck]))] U.heap ∧ gz_ap (va_A [(h0, .inr (1, [.ref fr, .ref ve, .ref qu, .ref tu, .ref cb, .int queueLength, .int takenBits])), (fr, .inr (3, [.int fmonths, .int ffull, .int flean, .ref fal, .ref fon])), (fal, .inl (kfal, 25, .inl ffal)), (fon, .inl (kfon, 275, .inl ffon))] sz) [(am, .inr (0, [.int amonths, .int afull, .int alean, .int alines, .int ahasMoon, .int amoonStart, .int amoonStep, .int aplaceCount, .int areportCount, .int adeedCount, .ref pl, .ref re, .ref de])), (rp, .inr (7, [.int qplace, .int qkind, .int qmonth, .int qday, .int qknown, .int qstruck]))])) (va_Qi (fun (r : Int32) (u : Int32) => r = u ∧ gi r 0 2) (fun r t => ∃ (z2 : Nat → Int32) (z3 : Nat → Int32), pb_sX1_verdictOn dC dI (va_A [(h0, .inr (1, [.ref fr, .ref ve, .ref qu, .ref tu, .ref cb, .int queueLength, .int takenBits])), (fr, .inr (3, [.int fmonths, .int ffull, .int flean, .ref fal, .ref fon])), (fal, .inl (kfal, 25, .inl ffal)), (fon, .inl (kfon, 275, .inl ffon))] sz) h0 fr fal fon am rp ve qu tu cb queueLength takenBits fmonths ffull flean kfal ffal kfon ffon amonths afull alean alines ahasMoon amoonStart amoonStep aplaceCount areportCount adeedCount pl re de qplace qkind qmonth qday qknown qstruck r z2 z3 t) (va_A [(h0, .inr (1, [.ref fr, .ref ve, .ref qu, .ref tu, .ref cb, .int queueLength, .int takenBits])), (fr, .inr (3, [.int fmonths, .int ffull, .int flean, .ref fal, .ref fon])), (fal, .inl (kfal, 25, .inl ffal)), (fon, .inl (kfon, 275, .inl ffon))] sz)) 0 0 (va_A [(h0, .inr (1, [.ref fr, .ref ve, .ref qu, .ref tu, .ref cb, .int queueLength, .int takenBits])), (fr, .inr (3, [.int fmonths, .int ffull, .int flean, .ref fal, .ref fon])), (fal, .inl (kfal, 25, .inl ffal)), (fon, .inl (kfon, 275, .inl ffon))] sz) := by
  refine Met.ofW (cc := cX1_verdictOn) (maxL := 5) (ret := (some .int)) (by decide) rfl ?_
  intro p e s m args below meth c s₁ B hml hv
  obtain ⟨rfl, hsz, hP, hK, hD0, hz, hR, hRA⟩ := hv
  have hx := B.exec
  have hb := B.bytes
  have hr := B.returns
  have hts := atoms_spec (ws := (.code yX1_verdictOn cX1_verdictOn 5 (some .int) :: wsGA)) B.pre
  have hown : s.vm.findClass RX1 = some m.cls := findClass_of_methodNamed B.named
  have hlocks := B.notSynchronized
  subst hsz
  have hD := hD0.self (sz := s.heap.size)
  generalize hAe : va_A [(h0, .inr (1, [.ref fr, .ref ve, .ref qu, .ref tu, .ref cb, .int queueLength, .int takenBits])), (fr, .inr (3, [.int fmonths, .int ffull, .int flean, .ref fal, .ref fon])), (fal, .inl (kfal, 25, .inl ffal)), (fon, .inl (kfon, 275, .inl ffon))] s.heap.size = A at hD hRA ⊢
  have hA : ∀ q : Nat, s.heap.size ≤ q → A q := fun q h => by rw [← hAe]; exact Or.inr h
  have hS : va_S A s.heap s.heap [] := va_S.rf
  have hl := lv_entry ([.ref h0, .ref am, .ref rp]) (n := 5) (Nat.le_of_ble_eq_true rfl)
  rw [lg_entry_eq]
  generalize (lg_sl ([.ref h0, .ref am, .ref rp]) ++ List.replicate (5 - (lg_sl ([.ref h0, .ref am, .ref rp])).length) Slot.unset).toArray = ls at hl ⊢
  have hl : lv_has ls 5 [(0, .ref h0), (1, .ref am), (2, .ref rp)] := hl
  obtain ⟨RES, hF⟩ : ∃ R9, fX1_verdictOn fmonths ffull flean ffal ffon ahasMoon amoonStart amoonStep qkind qmonth qday = R9 := ⟨_, rfl⟩
  have hR9 := hF
  refine lv_aload_n hx hb (dk_at dkX1_verdictOn 0 rfl) rfl (lv_at hl 2 rfl) ?_
  refine va_get (D := (dC, dI)) (ci := 7) (v := .int qkind) (C := RX7) (T := TX7) (N := 6) hx hb hts (fun w h => List.mem_cons_of_mem _ (jnGA_X7 w h)) hown hK (gz_ro hR hRA hS) 1 rfl rfl 1 (by decide) (hts _ (List.mem_cons_of_mem _ mGA_467)) (fun _ h9 => h9) rfl (dk_at dkX1_verdictOn 1 rfl) ?_
  refine lv_if_ne (tgt := 18) hx hb (dk_at dkX1_verdictOn 2 rfl) (by decide) (fun c_91 => ?_) (fun c_91 => ?_)
  · have hF := gf_neg c_91 hF
    refine lv_iconst (v := 0) hx hb (dk_at dkX1_verdictOn 8 rfl) (by decide) ?_
    refine lv_istore_n (lv' := [(3, .int 0), (0, .ref h0), (1, .ref am), (2, .ref rp)]) hx hb (dk_at dkX1_verdictOn 9 rfl) rfl hl (by decide) rfl (fun ls hl => ?_)
    refine lv_iload_n hx hb (dk_at dkX1_verdictOn 10 rfl) rfl (lv_at hl 0 rfl) ?_
    refine lv_if_eq (tgt := 41) hx hb (dk_at dkX1_verdictOn 11 rfl) (by decide) (fun c_92 => ?_) (fun c_92 => absurd (gi_is_eq (gi_c 0 0 (by decide)) (gi_c 0 0 (by decide))) c_92)
    first | have hF := gf_pos c_92 hF | (unfold bfX1_verdictOn_18 at hF; have hF := gf_pos c_92 hF) | (unfold bfX1_verdictOn_19 at hF; have hF := gf_pos c_92 hF) | (unfold bfX1_verdictOn_41 at hF; have hF := gf_pos c_92 hF) | (unfold bfX1_verdictOn_90 at hF; have hF := gf_pos c_92 hF) | (unfold bfX1_verdictOn_18 at hF; unfold bfX1_verdictOn_19 at hF; have hF := gf_pos c_92 hF) | (unfold bfX1_verdictOn_18 at hF; unfold bfX1_verdictOn_41 at hF; have hF := gf_pos c_92 hF) | (unfold bfX1_verdictOn_18 at hF; unfold bfX1_verdictOn_90 at hF; have hF := gf_pos c_92 hF) | (unfold bfX1_verdictOn_19 at hF; unfold bfX1_verdictOn_18 at hF; have hF := gf_pos c_92 hF) | (unfold bfX1_verdictOn_19 at hF; unfold bfX1_verdictOn_41 at hF; have hF := gf_pos c_92 hF) | (unfold bfX1_verdictOn_19 at hF; unfold bfX1_verdictOn_90 at hF; have hF := gf_pos c_92 hF) | (unfold bfX1_verdictOn_41 at hF; unfold bfX1_verdictOn_18 at hF; have hF := gf_pos c_92 hF) | (unfold bfX1_verdictOn_41 at hF; unfold bfX1_verdictOn_19 at hF; have hF := gf_pos c_92 hF) | (unfold bfX1_verdictOn_41 at hF; unfold bfX1_verdictOn_90 at hF; have hF := gf_pos c_92 hF) | (unfold bfX1_verdictOn_90 at hF; unfold bfX1_verdictOn_18 at hF; have hF := gf_pos c_92 hF) | (unfold bfX1_verdictOn_90 at hF; unfold bfX1_verdictOn_19 at hF; have hF := gf_pos c_92 hF) | (unfold bfX1_verdictOn_90 at hF; unfold bfX1_verdictOn_41 at hF; have hF := gf_pos c_92 hF) | skip
    refine lv_aload_n hx hb (dk_at dkX1_verdictOn 21 rfl) rfl (lv_at hl 1 rfl) ?_
    refine va_get (D := (dC, dI)) (ci := 1) (v := .ref fr) (C := RX1) (T := TX1) (N := 7) hx hb hts (fun w h => List.mem_cons_of_mem _ (jnGA_X1 w h)) hown hK hP 0 rfl rfl 0 (by decide) (hts _ (List.mem_cons_of_mem _ mGA_100)) (fun _ h9 => h9) rfl (dk_at dkX1_verdictOn 22 rfl) ?_
    refine va_get (D := (dC, dI)) (ci := 3) (v := .ref fal) (C := RX3) (T := TX3) (N := 5) hx hb hts (fun w h => List.mem_cons_of_mem _ (jnGA_X3 w h)) hown hK hP 1 rfl rfl 3 (by decide) (hts _ (List.mem_cons_of_mem _ mGA_487)) (fun _ h9 => h9) rfl (dk_at dkX1_verdictOn 23 rfl) ?_
    refine lv_aload_n hx hb (dk_at dkX1_verdictOn 24 rfl) rfl (lv_at hl 3 rfl) ?_
    refine va_get (D := (dC, dI)) (ci := 7) (v := .int qmonth) (C := RX7) (T := TX7) (N := 6) hx hb hts (fun w h => List.mem_cons_of_mem _ (jnGA_X7 w h)) hown hK (gz_ro hR hRA hS) 1 rfl rfl 2 (by decide) (hts _ (List.mem_cons_of_mem _ mGA_463)) (fun _ h9 => h9) rfl (dk_at dkX1_verdictOn 25 rfl) ?_
    refine va_iald hx hb hK hP 2 0 rfl rfl (gi_in gqmonth (by decide)) (dk_at dkX1_verdictOn 26 rfl) ?_
    refine lv_topi (fun x_93 ex_93 => ?_)
    refine lv_istore (lv' := [(4, .int x_93), (3, .int 0), (0, .ref h0), (1, .ref am), (2, .ref rp)]) hx hb (dk_at dkX1_verdictOn 27 rfl) hl (by decide) rfl (fun ls hl => ?_)
    refine lv_aload_n hx hb (dk_at dkX1_verdictOn 28 rfl) rfl (lv_at hl 2 rfl) ?_
    refine va_get (D := (dC, dI)) (ci := 1) (v := .ref fr) (C := RX1) (T := TX1) (N := 7) hx hb hts (fun w h => List.mem_cons_of_mem _ (jnGA_X1 w h)) hown hK hP 0 rfl rfl 0 (by decide) (hts _ (List.mem_cons_of_mem _ mGA_100)) (fun _ h9 => h9) rfl (dk_at dkX1_verdictOn 29 rfl) ?_
    refine lv_aload_n hx hb (dk_at dkX1_verdictOn 30 rfl) rfl (lv_at hl 4 rfl) ?_
    obtain ⟨hPc, hDc, hFc⟩ := gz_cut (wc := [(fr, .inr (3, [.int fmonths, .int ffull, .int flean, .ref fal, .ref fon])), (fal, .inl (kfal, 25, .inl ffal))]) hP hD hS hA [1, 2] (by decide) rfl
    have hKc := hK.sub (tys' := [(kfal, .int)]) [0] rfl
    have hRc_ : va_P (dC, dI) vwCl [(rp, .inr (7, [.int qplace, .int qkind, .int qmonth, .int qday, .int qknown, .int qstruck]))] s.heap := ((gz_ro hR hRA hS).sub [1] rfl)
    have hRa_ : gz_ap (va_A [(fr, .inr (3, [.int fmonths, .int ffull, .int flean, .ref fal, .ref fon])), (fal, .inl (kfal, 25, .inl ffal))] s.heap.size) [(rp, .inr (7, [.int qplace, .int qkind, .int qmonth, .int qday, .int qknown, .int qstruck]))] := (gz_apR (gz_ap1 hRA 1 rfl) hFc)
    refine va_callv (va_runV (As := [.ref rp]) (rest := []) ⟨hx, hb, hml, hown, hts⟩ (sX3_narrow l dC dI s.heap.size fr fal rp fmonths ffull flean fon kfal ffal qplace qkind qmonth qday qknown qstruck gfmonths gffull gflean gqplace gqmonth gqstruck) (cwV 1 hts (gz_gV mGA_489 mGA_490 mGA_491 mGA_18 mGA_492 goodGA) rfl rfl rfl hdV_X3_narrow_X3_1 ⟨Nat.le_of_ble_eq_true rfl, Nat.le_of_ble_eq_true rfl⟩) ⟨bl_I (bl_a bl_sz (bl_a bl_P (bl_a bl_K (bl_a bl_c (bl_a bl_nz (bl_a bl_P bl_c)))))), va_recv hKc hPc (ci := 3) (q0 := 0) rfl rfl, fun U hU hW => ⟨rfl, by rw [hU], by rw [hU]; exact hPc, va_K.moved hW.alike hKc, hDc.weaken (fun _ _ _ _ => trivial), nzA_warm hW hz, by rw [hU]; exact hRc_, hRa_⟩⟩ rfl rfl hl.1 rfl (lv_room (Nat.le_of_ble_eq_true rfl)) (dk_at dkX1_verdictOn 31 rfl) ⟨Nat.zero_le _, Nat.zero_le _⟩) hS (fun q _ h => hFc q h) hFc (fun u t H1 locs ht hvm hw hB hz1 hk1 hS => ?_)
    obtain ⟨f_95, hB⟩ := hB
    obtain ⟨hE, hP1, hD1⟩ := hB
    rw [ht] at hP1
    obtain ⟨hP, hD⟩ := gz_back hP hD hk1 hFc hP1 hD1 [1, 2] rfl rfl
    obtain ⟨hP, hD⟩ := gz_both (w := [(h0, .inr (1, [.ref fr, .ref ve, .ref qu, .ref tu, .ref cb, .int queueLength, .int takenBits])), (fr, .inr (3, [.int fmonths, .int ffull, .int flean, .ref fal, .ref fon])), (fal, .inl (kfal, 25, .inl f_95)), (fon, .inl (kfon, 275, .inl ffon))]) hP hD
    have hF := gf_call (a := f_95) hE hF
    generalize H1 = H at hP hS ⊢
    refine lv_aload_n hx hb (dk_at dkX1_verdictOn 32 rfl) rfl (lv_at hl 2 rfl) ?_
    refine va_get (D := (dC, dI)) (ci := 1) (v := .ref fr) (C := RX1) (T := TX1) (N := 7) hx hb hts (fun w h => List.mem_cons_of_mem _ (jnGA_X1 w h)) hown hK hP 0 rfl rfl 0 (by decide) (hts _ (List.mem_cons_of_mem _ mGA_100)) (fun _ h9 => h9) rfl (dk_at dkX1_verdictOn 33 rfl) ?_
    refine va_get (D := (dC, dI)) (ci := 3) (v := .ref fal) (C := RX3) (T := TX3) (N := 5) hx hb hts (fun w h => List.mem_cons_of_mem _ (jnGA_X3 w h)) hown hK hP 1 rfl rfl 3 (by decide) (hts _ (List.mem_cons_of_mem _ mGA_487)) (fun _ h9 => h9) rfl (dk_at dkX1_verdictOn 34 rfl) ?_
    refine lv_aload_n hx hb (dk_at dkX1_verdictOn 35 rfl) rfl (lv_at hl 4 rfl) ?_
    refine va_get (D := (dC, dI)) (ci := 7) (v := .int qmonth) (C := RX7) (T := TX7) (N := 6) hx hb hts (fun w h => List.mem_cons_of_mem _ (jnGA_X7 w h)) hown hK (gz_ro hR hRA hS) 1 rfl rfl 2 (by decide) (hts _ (List.mem_cons_of_mem _ mGA_463)) (fun _ h9 => h9) rfl (dk_at dkX1_verdictOn 36 rfl) ?_
    refine va_iald hx hb hK hP 2 0 rfl rfl (gi_in gqmonth (by decide)) (dk_at dkX1_verdictOn 37 rfl) ?_
    refine lv_topi (fun x_96 ex_96 => ?_)
    refine lv_iload hx hb (dk_at dkX1_verdictOn 38 rfl) (lv_at hl 0 rfl) ?_
    refine lv_icmp_eq (tgt := 90) hx hb (dk_at dkX1_verdictOn 39 rfl) (by decide) (fun c_97 => ?_) (fun c_97 => ?_)
    · have hF := gf_pos (by rw [ex_96, ex_93] at c_97; exact c_97) hF
      refine lv_iconst (v := 0) hx hb (dk_at dkX1_verdictOn 44 rfl) (by decide) ?_
      exact W.iret (v := 0) hx hb hr (fun t ht hW => ⟨⟨0, 0, rfl, ⟨rfl, (gi_w (gi_c 0 0 (by decide)) (by decide))⟩, f_95, ffon, hF.trans hR9.symm, by rw [ht]; exact hP, hD⟩, hS.F ht⟩) hS.2.2 (dk_at dkX1_verdictOn 45 rfl)
    · have hF := gf_neg (by rw [ex_96, ex_93] at c_97; exact c_97) hF
      refine lv_aload_n hx hb (dk_at dkX1_verdictOn 40 rfl) rfl (lv_at hl 2 rfl) ?_
      refine va_get (D := (dC, dI)) (ci := 1) (v := .ref fr) (C := RX1) (T := TX1) (N := 7) hx hb hts (fun w h => List.mem_cons_of_mem _ (jnGA_X1 w h)) hown hK hP 0 rfl rfl 0 (by decide) (hts _ (List.mem_cons_of_mem _ mGA_100)) (fun _ h9 => h9) rfl (dk_at dkX1_verdictOn 41 rfl) ?_
      obtain ⟨hPc, hDc, hFc⟩ := gz_cut (wc := [(fr, .inr (3, [.int fmonths, .int ffull, .int flean, .ref fal, .ref fon])), (fal, .inl (kfal, 25, .inl f_95)), (fon, .inl (kfon, 275, .inl ffon))]) hP hD hS hA [1, 2, 3] (by decide) rfl
      refine va_calli (va_runV (As := []) (rest := []) ⟨hx, hb, hml, hown, hts⟩ (sX3_fits l dC dI H.size fr fal fon fmonths ffull flean kfal f_95 kfon ffon gfmonths gffull gflean) (cwV 0 hts (gz_gV mGA_499 mGA_500 mGA_501 mGA_18 mGA_502 goodGA) rfl rfl rfl hdV_X3_fits_X3_0 ⟨Nat.le_of_ble_eq_true rfl, Nat.le_of_ble_eq_true rfl⟩) ⟨bl_I (bl_a bl_sz (bl_a bl_P (bl_a bl_K (bl_a bl_c bl_nz)))), va_recv hK hPc (ci := 3) (q0 := 0) rfl rfl, fun U hU hW => ⟨rfl, by rw [hU], by rw [hU]; exact hPc, va_K.moved hW.alike hK, hDc.weaken (fun _ _ _ _ => trivial), nzA_warm hW hz⟩⟩ rfl rfl hl.1 rfl (lv_room (Nat.le_of_ble_eq_true rfl)) (dk_at dkX1_verdictOn 42 rfl) ⟨Nat.zero_le _, Nat.zero_le _⟩) hS (fun q _ h => hFc q h) hFc (fun r_98 u t H1 locs ht hvm hw hB hz1 hk1 hS => ?_)
      obtain ⟨hu_, hw⟩ := hw
      subst hu_
      obtain ⟨f_99, hB⟩ := hB
      obtain ⟨hE, hP1, hD1⟩ := hB
      rw [ht] at hP1
      obtain ⟨hP, hD⟩ := gz_back hP hD hk1 hFc hP1 hD1 [1, 2, 3] rfl rfl
      obtain ⟨hP, hD⟩ := gz_both (w := [(h0, .inr (1, [.ref fr, .ref ve, .ref qu, .ref tu, .ref cb, .int queueLength, .int takenBits])), (fr, .inr (3, [.int fmonths, .int ffull, .int flean, .ref fal, .ref fon])), (fal, .inl (kfal, 25, .inl f_95)), (fon, .inl (kfon, 275, .inl f_99))]) hP hD
      have hF := gf_call (a := (r_98, f_99)) hE hF
      generalize H1 = H at hP hS ⊢
      have gr_98 : gi r_98 0 1 := hw
      refine lv_if_eq (tgt := 92) hx hb (dk_at dkX1_verdictOn 43 rfl) (by decide) (fun c_100 => ?_) (fun c_100 => ?_)
      · have hF := gf_pos c_100 hF
        have g_101 : gi r_98 0 0 := gi_eq c_100 (gi_c 0 0 (by decide))
        refine lv_aload_n hx hb (dk_at dkX1_verdictOn 46 rfl) rfl (lv_at hl 2 rfl) ?_
        refine va_get (D := (dC, dI)) (ci := 1) (v := .ref fr) (C := RX1) (T := TX1) (N := 7) hx hb hts (fun w h => List.mem_cons_of_mem _ (jnGA_X1 w h)) hown hK hP 0 rfl rfl 0 (by decide) (hts _ (List.mem_cons_of_mem _ mGA_100)) (fun _ h9 => h9) rfl (dk_at dkX1_verdictOn 47 rfl) ?_
        refine va_get (D := (dC, dI)) (ci := 3) (v := .ref fal) (C := RX3) (T := TX3) (N := 5) hx hb hts (fun w h => List.mem_cons_of_mem _ (jnGA_X3 w h)) hown hK hP 1 rfl rfl 3 (by decide) (hts _ (List.mem_cons_of_mem _ mGA_487)) (fun _ h9 => h9) rfl (dk_at dkX1_verdictOn 48 rfl) ?_
        refine lv_aload_n hx hb (dk_at dkX1_verdictOn 49 rfl) rfl (lv_at hl 4 rfl) ?_
        refine va_get (D := (dC, dI)) (ci := 7) (v := .int qmonth) (C := RX7) (T := TX7) (N := 6) hx hb hts (fun w h => List.mem_cons_of_mem _ (jnGA_X7 w h)) hown hK (gz_ro hR hRA hS) 1 rfl rfl 2 (by decide) (hts _ (List.mem_cons_of_mem _ mGA_463)) (fun _ h9 => h9) rfl (dk_at dkX1_verdictOn 50 rfl) ?_
        refine lv_iload hx hb (dk_at dkX1_verdictOn 51 rfl) (lv_at hl 0 rfl) ?_
        refine va_iast hx hb hK hP hD hS 2 0 rfl rfl (gi_in gqmonth (by decide)) (dk_at dkX1_verdictOn 52 rfl) (fun H locs hP hD hS => ?_)
        obtain ⟨hP, hD⟩ := gz_both (w := [(h0, .inr (1, [.ref fr, .ref ve, .ref qu, .ref tu, .ref cb, .int queueLength, .int takenBits])), (fr, .inr (3, [.int fmonths, .int ffull, .int flean, .ref fal, .ref fon])), (fal, .inl (kfal, 25, .inl (upd f_95 (qmonth : Int32).toNatClampNeg x_93))), (fon, .inl (kfon, 275, .inl f_99))]) hP hD
        generalize ef_102 : upd f_95 (qmonth : Int32).toNatClampNeg x_93 = f_102 at hP hD
        refine lv_iconst (v := 2) hx hb (dk_at dkX1_verdictOn 53 rfl) (by decide) ?_
        exact W.iret (v := 2) hx hb hr (fun t ht hW => ⟨⟨2, 2, rfl, ⟨rfl, (gi_w (gi_c 2 2 (by decide)) (by decide))⟩, f_102, f_99, by first | (rw [← ef_102, ex_93]; exact hF.trans hR9.symm) | ((try rw [← ef_102]); (try rw [ex_93]); exact hF.trans hR9.symm), by rw [ht]; exact hP, hD⟩, hS.F ht⟩) hS.2.2 (dk_at dkX1_verdictOn 54 rfl)
      · have hF := gf_neg c_100 hF
        have g_103 : gi r_98 1 1 := gi_ne_lo c_100 gr_98 (gi_c 0 0 (by decide)) (by decide)
        refine lv_iconst (v := 0) hx hb (dk_at dkX1_verdictOn 44 rfl) (by decide) ?_
        exact W.iret (v := 0) hx hb hr (fun t ht hW => ⟨⟨0, 0, rfl, ⟨rfl, (gi_w (gi_c 0 0 (by decide)) (by decide))⟩, f_95, f_99, hF.trans hR9.symm, by rw [ht]; exact hP, hD⟩, hS.F ht⟩) hS.2.2 (dk_at dkX1_verdictOn 45 rfl)
  · have hF := gf_pos c_91 hF
    have g_104 : gi qkind 0 0 := gi_eq c_91 (gi_c 0 0 (by decide))
    refine lv_aload_n hx hb (dk_at dkX1_verdictOn 3 rfl) rfl (lv_at hl 1 rfl) ?_
    refine va_get (D := (dC, dI)) (ci := 0) (v := .int ahasMoon) (C := RX0) (T := TX0) (N := 13) hx hb hts (fun w h => List.mem_cons_of_mem _ (jnGA_X0 w h)) hown hK (gz_ro hR hRA hS) 0 rfl rfl 4 (by decide) (hts _ (List.mem_cons_of_mem _ mGA_486)) (fun _ h9 => h9) rfl (dk_at dkX1_verdictOn 4 rfl) ?_
    refine lv_if_eq (tgt := 18) hx hb (dk_at dkX1_verdictOn 5 rfl) (by decide) (fun c_105 => ?_) (fun c_105 => ?_)
    · have hF := gf_pos c_105 hF
      have g_106 : gi ahasMoon 0 0 := gi_eq c_105 (gi_c 0 0 (by decide))
      refine lv_iconst (v := 0) hx hb (dk_at dkX1_verdictOn 8 rfl) (by decide) ?_
      refine lv_istore_n (lv' := [(3, .int 0), (0, .ref h0), (1, .ref am), (2, .ref rp)]) hx hb (dk_at dkX1_verdictOn 9 rfl) rfl hl (by decide) rfl (fun ls hl => ?_)
      refine lv_iload_n hx hb (dk_at dkX1_verdictOn 10 rfl) rfl (lv_at hl 0 rfl) ?_
      refine lv_if_eq (tgt := 41) hx hb (dk_at dkX1_verdictOn 11 rfl) (by decide) (fun c_107 => ?_) (fun c_107 => absurd (gi_is_eq (gi_c 0 0 (by decide)) (gi_c 0 0 (by decide))) c_107)
      first | have hF := gf_pos c_107 hF | (unfold bfX1_verdictOn_18 at hF; have hF := gf_pos c_107 hF) | (unfold bfX1_verdictOn_19 at hF; have hF := gf_pos c_107 hF) | (unfold bfX1_verdictOn_41 at hF; have hF := gf_pos c_107 hF) | (unfold bfX1_verdictOn_90 at hF; have hF := gf_pos c_107 hF) | (unfold bfX1_verdictOn_18 at hF; unfold bfX1_verdictOn_19 at hF; have hF := gf_pos c_107 hF) | (unfold bfX1_verdictOn_18 at hF; unfold bfX1_verdictOn_41 at hF; have hF := gf_pos c_107 hF) | (unfold bfX1_verdictOn_18 at hF; unfold bfX1_verdictOn_90 at hF; have hF := gf_pos c_107 hF) | (unfold bfX1_verdictOn_19 at hF; unfold bfX1_verdictOn_18 at hF; have hF := gf_pos c_107 hF) | (unfold bfX1_verdictOn_19 at hF; unfold bfX1_verdictOn_41 at hF; have hF := gf_pos c_107 hF) | (unfold bfX1_verdictOn_19 at hF; unfold bfX1_verdictOn_90 at hF; have hF := gf_pos c_107 hF) | (unfold bfX1_verdictOn_41 at hF; unfold bfX1_verdictOn_18 at hF; have hF := gf_pos c_107 hF) | (unfold bfX1_verdictOn_41 at hF; unfold bfX1_verdictOn_19 at hF; have hF := gf_pos c_107 hF) | (unfold bfX1_verdictOn_41 at hF; unfold bfX1_verdictOn_90 at hF; have hF := gf_pos c_107 hF) | (unfold bfX1_verdictOn_90 at hF; unfold bfX1_verdictOn_18 at hF; have hF := gf_pos c_107 hF) | (unfold bfX1_verdictOn_90 at hF; unfold bfX1_verdictOn_19 at hF; have hF := gf_pos c_107 hF) | (unfold bfX1_verdictOn_90 at hF; unfold bfX1_verdictOn_41 at hF; have hF := gf_pos c_107 hF) | skip
      refine lv_aload_n hx hb (dk_at dkX1_verdictOn 21 rfl) rfl (lv_at hl 1 rfl) ?_
      refine va_get (D := (dC, dI)) (ci := 1) (v := .ref fr) (C := RX1) (T := TX1) (N := 7) hx hb hts (fun w h => List.mem_cons_of_mem _ (jnGA_X1 w h)) hown hK hP 0 rfl rfl 0 (by decide) (hts _ (List.mem_cons_of_mem _ mGA_100)) (fun _ h9 => h9) rfl (dk_at dkX1_verdictOn 22 rfl) ?_
      refine va_get (D := (dC, dI)) (ci := 3) (v := .ref fal) (C := RX3) (T := TX3) (N := 5) hx hb hts (fun w h => List.mem_cons_of_mem _ (jnGA_X3 w h)) hown hK hP 1 rfl rfl 3 (by decide) (hts _ (List.mem_cons_of_mem _ mGA_487)) (fun _ h9 => h9) rfl (dk_at dkX1_verdictOn 23 rfl) ?_
      refine lv_aload_n hx hb (dk_at dkX1_verdictOn 24 rfl) rfl (lv_at hl 3 rfl) ?_
      refine va_get (D := (dC, dI)) (ci := 7) (v := .int qmonth) (C := RX7) (T := TX7) (N := 6) hx hb hts (fun w h => List.mem_cons_of_mem _ (jnGA_X7 w h)) hown hK (gz_ro hR hRA hS) 1 rfl rfl 2 (by decide) (hts _ (List.mem_cons_of_mem _ mGA_463)) (fun _ h9 => h9) rfl (dk_at dkX1_verdictOn 25 rfl) ?_
      refine va_iald hx hb hK hP 2 0 rfl rfl (gi_in gqmonth (by decide)) (dk_at dkX1_verdictOn 26 rfl) ?_
      refine lv_topi (fun x_108 ex_108 => ?_)
      refine lv_istore (lv' := [(4, .int x_108), (3, .int 0), (0, .ref h0), (1, .ref am), (2, .ref rp)]) hx hb (dk_at dkX1_verdictOn 27 rfl) hl (by decide) rfl (fun ls hl => ?_)
      refine lv_aload_n hx hb (dk_at dkX1_verdictOn 28 rfl) rfl (lv_at hl 2 rfl) ?_
      refine va_get (D := (dC, dI)) (ci := 1) (v := .ref fr) (C := RX1) (T := TX1) (N := 7) hx hb hts (fun w h => List.mem_cons_of_mem _ (jnGA_X1 w h)) hown hK hP 0 rfl rfl 0 (by decide) (hts _ (List.mem_cons_of_mem _ mGA_100)) (fun _ h9 => h9) rfl (dk_at dkX1_verdictOn 29 rfl) ?_
      refine lv_aload_n hx hb (dk_at dkX1_verdictOn 30 rfl) rfl (lv_at hl 4 rfl) ?_
      obtain ⟨hPc, hDc, hFc⟩ := gz_cut (wc := [(fr, .inr (3, [.int fmonths, .int ffull, .int flean, .ref fal, .ref fon])), (fal, .inl (kfal, 25, .inl ffal))]) hP hD hS hA [1, 2] (by decide) rfl
      have hKc := hK.sub (tys' := [(kfal, .int)]) [0] rfl
      have hRc_ : va_P (dC, dI) vwCl [(rp, .inr (7, [.int qplace, .int qkind, .int qmonth, .int qday, .int qknown, .int qstruck]))] s.heap := ((gz_ro hR hRA hS).sub [1] rfl)
      have hRa_ : gz_ap (va_A [(fr, .inr (3, [.int fmonths, .int ffull, .int flean, .ref fal, .ref fon])), (fal, .inl (kfal, 25, .inl ffal))] s.heap.size) [(rp, .inr (7, [.int qplace, .int qkind, .int qmonth, .int qday, .int qknown, .int qstruck]))] := (gz_apR (gz_ap1 hRA 1 rfl) hFc)
      refine va_callv (va_runV (As := [.ref rp]) (rest := []) ⟨hx, hb, hml, hown, hts⟩ (sX3_narrow l dC dI s.heap.size fr fal rp fmonths ffull flean fon kfal ffal qplace qkind qmonth qday qknown qstruck gfmonths gffull gflean gqplace gqmonth gqstruck) (cwV 1 hts (gz_gV mGA_489 mGA_490 mGA_491 mGA_18 mGA_492 goodGA) rfl rfl rfl hdV_X3_narrow_X3_1 ⟨Nat.le_of_ble_eq_true rfl, Nat.le_of_ble_eq_true rfl⟩) ⟨bl_I (bl_a bl_sz (bl_a bl_P (bl_a bl_K (bl_a bl_c (bl_a bl_nz (bl_a bl_P bl_c)))))), va_recv hKc hPc (ci := 3) (q0 := 0) rfl rfl, fun U hU hW => ⟨rfl, by rw [hU], by rw [hU]; exact hPc, va_K.moved hW.alike hKc, hDc.weaken (fun _ _ _ _ => trivial), nzA_warm hW hz, by rw [hU]; exact hRc_, hRa_⟩⟩ rfl rfl hl.1 rfl (lv_room (Nat.le_of_ble_eq_true rfl)) (dk_at dkX1_verdictOn 31 rfl) ⟨Nat.zero_le _, Nat.zero_le _⟩) hS (fun q _ h => hFc q h) hFc (fun u t H1 locs ht hvm hw hB hz1 hk1 hS => ?_)
      obtain ⟨f_110, hB⟩ := hB
      obtain ⟨hE, hP1, hD1⟩ := hB
      rw [ht] at hP1
      obtain ⟨hP, hD⟩ := gz_back hP hD hk1 hFc hP1 hD1 [1, 2] rfl rfl
      obtain ⟨hP, hD⟩ := gz_both (w := [(h0, .inr (1, [.ref fr, .ref ve, .ref qu, .ref tu, .ref cb, .int queueLength, .int takenBits])), (fr, .inr (3, [.int fmonths, .int ffull, .int flean, .ref fal, .ref fon])), (fal, .inl (kfal, 25, .inl f_110)), (fon, .inl (kfon, 275, .inl ffon))]) hP hD
      have hF := gf_call (a := f_110) hE hF
      generalize H1 = H at hP hS ⊢
      refine lv_aload_n hx hb (dk_at dkX1_verdictOn 32 rfl) rfl (lv_at hl 2 rfl) ?_
      refine va_get (D := (dC, dI)) (ci := 1) (v := .ref fr) (C := RX1) (T := TX1) (N := 7) hx hb hts (fun w h => List.mem_cons_of_mem _ (jnGA_X1 w h)) hown hK hP 0 rfl rfl 0 (by decide) (hts _ (List.mem_cons_of_mem _ mGA_100)) (fun _ h9 => h9) rfl (dk_at dkX1_verdictOn 33 rfl) ?_
      refine va_get (D := (dC, dI)) (ci := 3) (v := .ref fal) (C := RX3) (T := TX3) (N := 5) hx hb hts (fun w h => List.mem_cons_of_mem _ (jnGA_X3 w h)) hown hK hP 1 rfl rfl 3 (by decide) (hts _ (List.mem_cons_of_mem _ mGA_487)) (fun _ h9 => h9) rfl (dk_at dkX1_verdictOn 34 rfl) ?_
      refine lv_aload_n hx hb (dk_at dkX1_verdictOn 35 rfl) rfl (lv_at hl 4 rfl) ?_
      refine va_get (D := (dC, dI)) (ci := 7) (v := .int qmonth) (C := RX7) (T := TX7) (N := 6) hx hb hts (fun w h => List.mem_cons_of_mem _ (jnGA_X7 w h)) hown hK (gz_ro hR hRA hS) 1 rfl rfl 2 (by decide) (hts _ (List.mem_cons_of_mem _ mGA_463)) (fun _ h9 => h9) rfl (dk_at dkX1_verdictOn 36 rfl) ?_
      refine va_iald hx hb hK hP 2 0 rfl rfl (gi_in gqmonth (by decide)) (dk_at dkX1_verdictOn 37 rfl) ?_
      refine lv_topi (fun x_111 ex_111 => ?_)
      refine lv_iload hx hb (dk_at dkX1_verdictOn 38 rfl) (lv_at hl 0 rfl) ?_
      refine lv_icmp_eq (tgt := 90) hx hb (dk_at dkX1_verdictOn 39 rfl) (by decide) (fun c_112 => ?_) (fun c_112 => ?_)
      · have hF := gf_pos (by rw [ex_111, ex_108] at c_112; exact c_112) hF
        refine lv_iconst (v := 0) hx hb (dk_at dkX1_verdictOn 44 rfl) (by decide) ?_
        exact W.iret (v := 0) hx hb hr (fun t ht hW => ⟨⟨0, 0, rfl, ⟨rfl, (gi_w (gi_c 0 0 (by decide)) (by decide))⟩, f_110, ffon, hF.trans hR9.symm, by rw [ht]; exact hP, hD⟩, hS.F ht⟩) hS.2.2 (dk_at dkX1_verdictOn 45 rfl)
      · have hF := gf_neg (by rw [ex_111, ex_108] at c_112; exact c_112) hF
        refine lv_aload_n hx hb (dk_at dkX1_verdictOn 40 rfl) rfl (lv_at hl 2 rfl) ?_
        refine va_get (D := (dC, dI)) (ci := 1) (v := .ref fr) (C := RX1) (T := TX1) (N := 7) hx hb hts (fun w h => List.mem_cons_of_mem _ (jnGA_X1 w h)) hown hK hP 0 rfl rfl 0 (by decide) (hts _ (List.mem_cons_of_mem _ mGA_100)) (fun _ h9 => h9) rfl (dk_at dkX1_verdictOn 41 rfl) ?_
        obtain ⟨hPc, hDc, hFc⟩ := gz_cut (wc := [(fr, .inr (3, [.int fmonths, .int ffull, .int flean, .ref fal, .ref fon])), (fal, .inl (kfal, 25, .inl f_110)), (fon, .inl (kfon, 275, .inl ffon))]) hP hD hS hA [1, 2, 3] (by decide) rfl
        refine va_calli (va_runV (As := []) (rest := []) ⟨hx, hb, hml, hown, hts⟩ (sX3_fits l dC dI H.size fr fal fon fmonths ffull flean kfal f_110 kfon ffon gfmonths gffull gflean) (cwV 0 hts (gz_gV mGA_499 mGA_500 mGA_501 mGA_18 mGA_502 goodGA) rfl rfl rfl hdV_X3_fits_X3_0 ⟨Nat.le_of_ble_eq_true rfl, Nat.le_of_ble_eq_true rfl⟩) ⟨bl_I (bl_a bl_sz (bl_a bl_P (bl_a bl_K (bl_a bl_c bl_nz)))), va_recv hK hPc (ci := 3) (q0 := 0) rfl rfl, fun U hU hW => ⟨rfl, by rw [hU], by rw [hU]; exact hPc, va_K.moved hW.alike hK, hDc.weaken (fun _ _ _ _ => trivial), nzA_warm hW hz⟩⟩ rfl rfl hl.1 rfl (lv_room (Nat.le_of_ble_eq_true rfl)) (dk_at dkX1_verdictOn 42 rfl) ⟨Nat.zero_le _, Nat.zero_le _⟩) hS (fun q _ h => hFc q h) hFc (fun r_113 u t H1 locs ht hvm hw hB hz1 hk1 hS => ?_)
        obtain ⟨hu_, hw⟩ := hw
        subst hu_
        obtain ⟨f_114, hB⟩ := hB
        obtain ⟨hE, hP1, hD1⟩ := hB
        rw [ht] at hP1
        obtain ⟨hP, hD⟩ := gz_back hP hD hk1 hFc hP1 hD1 [1, 2, 3] rfl rfl
        obtain ⟨hP, hD⟩ := gz_both (w := [(h0, .inr (1, [.ref fr, .ref ve, .ref qu, .ref tu, .ref cb, .int queueLength, .int takenBits])), (fr, .inr (3, [.int fmonths, .int ffull, .int flean, .ref fal, .ref fon])), (fal, .inl (kfal, 25, .inl f_110)), (fon, .inl (kfon, 275, .inl f_114))]) hP hD
        have hF := gf_call (a := (r_113, f_114)) hE hF
        generalize H1 = H at hP hS ⊢
        have gr_113 : gi r_113 0 1 := hw
        refine lv_if_eq (tgt := 92) hx hb (dk_at dkX1_verdictOn 43 rfl) (by decide) (fun c_115 => ?_) (fun c_115 => ?_)
        · have hF := gf_pos c_115 hF
          have g_116 : gi r_113 0 0 := gi_eq c_115 (gi_c 0 0 (by decide))
          refine lv_aload_n hx hb (dk_at dkX1_verdictOn 46 rfl) rfl (lv_at hl 2 rfl) ?_
          refine va_get (D := (dC, dI)) (ci := 1) (v := .ref fr) (C := RX1) (T := TX1) (N := 7) hx hb hts (fun w h => List.mem_cons_of_mem _ (jnGA_X1 w h)) hown hK hP 0 rfl rfl 0 (by decide) (hts _ (List.mem_cons_of_mem _ mGA_100)) (fun _ h9 => h9) rfl (dk_at dkX1_verdictOn 47 rfl) ?_
          refine va_get (D := (dC, dI)) (ci := 3) (v := .ref fal) (C := RX3) (T := TX3) (N := 5) hx hb hts (fun w h => List.mem_cons_of_mem _ (jnGA_X3 w h)) hown hK hP 1 rfl rfl 3 (by decide) (hts _ (List.mem_cons_of_mem _ mGA_487)) (fun _ h9 => h9) rfl (dk_at dkX1_verdictOn 48 rfl) ?_
          refine lv_aload_n hx hb (dk_at dkX1_verdictOn 49 rfl) rfl (lv_at hl 4 rfl) ?_
          refine va_get (D := (dC, dI)) (ci := 7) (v := .int qmonth) (C := RX7) (T := TX7) (N := 6) hx hb hts (fun w h => List.mem_cons_of_mem _ (jnGA_X7 w h)) hown hK (gz_ro hR hRA hS) 1 rfl rfl 2 (by decide) (hts _ (List.mem_cons_of_mem _ mGA_463)) (fun _ h9 => h9) rfl (dk_at dkX1_verdictOn 50 rfl) ?_
          refine lv_iload hx hb (dk_at dkX1_verdictOn 51 rfl) (lv_at hl 0 rfl) ?_
          refine va_iast hx hb hK hP hD hS 2 0 rfl rfl (gi_in gqmonth (by decide)) (dk_at dkX1_verdictOn 52 rfl) (fun H locs hP hD hS => ?_)
          obtain ⟨hP, hD⟩ := gz_both (w := [(h0, .inr (1, [.ref fr, .ref ve, .ref qu, .ref tu, .ref cb, .int queueLength, .int takenBits])), (fr, .inr (3, [.int fmonths, .int ffull, .int flean, .ref fal, .ref fon])), (fal, .inl (kfal, 25, .inl (upd f_110 (qmonth : Int32).toNatClampNeg x_108))), (fon, .inl (kfon, 275, .inl f_114))]) hP hD
          generalize ef_117 : upd f_110 (qmonth : Int32).toNatClampNeg x_108 = f_117 at hP hD
          refine lv_iconst (v := 2) hx hb (dk_at dkX1_verdictOn 53 rfl) (by decide) ?_
          exact W.iret (v := 2) hx hb hr (fun t ht hW => ⟨⟨2, 2, rfl, ⟨rfl, (gi_w (gi_c 2 2 (by decide)) (by decide))⟩, f_117, f_114, by first | (rw [← ef_117, ex_108]; exact hF.trans hR9.symm) | ((try rw [← ef_117]); (try rw [ex_108]); exact hF.trans hR9.symm), by rw [ht]; exact hP, hD⟩, hS.F ht⟩) hS.2.2 (dk_at dkX1_verdictOn 54 rfl)
        · have hF := gf_neg c_115 hF
          have g_118 : gi r_113 1 1 := gi_ne_lo c_115 gr_113 (gi_c 0 0 (by decide)) (by decide)
          refine lv_iconst (v := 0) hx hb (dk_at dkX1_verdictOn 44 rfl) (by decide) ?_
          exact W.iret (v := 0) hx hb hr (fun t ht hW => ⟨⟨0, 0, rfl, ⟨rfl, (gi_w (gi_c 0 0 (by decide)) (by decide))⟩, f_110, f_114, hF.trans hR9.symm, by rw [ht]; exact hP, hD⟩, hS.F ht⟩) hS.2.2 (dk_at dkX1_verdictOn 45 rfl)
    · have hF := gf_neg c_105 hF
      have g_119 : gi ahasMoon 1 1 := gi_ne_lo c_105 gahasMoon (gi_c 0 0 (by decide)) (by decide)
      refine lv_iconst (v := 1) hx hb (dk_at dkX1_verdictOn 6 rfl) (by decide) ?_
      refine lv_goto (tgt := 19) hx hb (dk_at dkX1_verdictOn 7 rfl) (by decide) ?_
      refine lv_istore_n (lv' := [(3, .int 1), (0, .ref h0), (1, .ref am), (2, .ref rp)]) hx hb (dk_at dkX1_verdictOn 9 rfl) rfl hl (by decide) rfl (fun ls hl => ?_)
      refine lv_iload_n hx hb (dk_at dkX1_verdictOn 10 rfl) rfl (lv_at hl 0 rfl) ?_
      refine lv_if_eq (tgt := 41) hx hb (dk_at dkX1_verdictOn 11 rfl) (by decide) (fun c_120 => absurd c_120 (gi_no_eq (gi_c 1 1 (by decide)) (gi_c 0 0 (by decide)) (by decide))) (fun c_120 => ?_)
      first | have hF := gf_neg c_120 hF | (unfold bfX1_verdictOn_18 at hF; have hF := gf_neg c_120 hF) | (unfold bfX1_verdictOn_19 at hF; have hF := gf_neg c_120 hF) | (unfold bfX1_verdictOn_41 at hF; have hF := gf_neg c_120 hF) | (unfold bfX1_verdictOn_90 at hF; have hF := gf_neg c_120 hF) | (unfold bfX1_verdictOn_18 at hF; unfold bfX1_verdictOn_19 at hF; have hF := gf_neg c_120 hF) | (unfold bfX1_verdictOn_18 at hF; unfold bfX1_verdictOn_41 at hF; have hF := gf_neg c_120 hF) | (unfold bfX1_verdictOn_18 at hF; unfold bfX1_verdictOn_90 at hF; have hF := gf_neg c_120 hF) | (unfold bfX1_verdictOn_19 at hF; unfold bfX1_verdictOn_18 at hF; have hF := gf_neg c_120 hF) | (unfold bfX1_verdictOn_19 at hF; unfold bfX1_verdictOn_41 at hF; have hF := gf_neg c_120 hF) | (unfold bfX1_verdictOn_19 at hF; unfold bfX1_verdictOn_90 at hF; have hF := gf_neg c_120 hF) | (unfold bfX1_verdictOn_41 at hF; unfold bfX1_verdictOn_18 at hF; have hF := gf_neg c_120 hF) | (unfold bfX1_verdictOn_41 at hF; unfold bfX1_verdictOn_19 at hF; have hF := gf_neg c_120 hF) | (unfold bfX1_verdictOn_41 at hF; unfold bfX1_verdictOn_90 at hF; have hF := gf_neg c_120 hF) | (unfold bfX1_verdictOn_90 at hF; unfold bfX1_verdictOn_18 at hF; have hF := gf_neg c_120 hF) | (unfold bfX1_verdictOn_90 at hF; unfold bfX1_verdictOn_19 at hF; have hF := gf_neg c_120 hF) | (unfold bfX1_verdictOn_90 at hF; unfold bfX1_verdictOn_41 at hF; have hF := gf_neg c_120 hF) | skip
      refine lv_aload_n hx hb (dk_at dkX1_verdictOn 12 rfl) rfl (lv_at hl 3 rfl) ?_
      refine va_get (D := (dC, dI)) (ci := 7) (v := .int qday) (C := RX7) (T := TX7) (N := 6) hx hb hts (fun w h => List.mem_cons_of_mem _ (jnGA_X7 w h)) hown hK (gz_ro hR hRA hS) 1 rfl rfl 3 (by decide) (hts _ (List.mem_cons_of_mem _ mGA_465)) (fun _ h9 => h9) rfl (dk_at dkX1_verdictOn 13 rfl) ?_
      refine lv_aload_n hx hb (dk_at dkX1_verdictOn 14 rfl) rfl (lv_at hl 2 rfl) ?_
      refine lv_aload_n hx hb (dk_at dkX1_verdictOn 15 rfl) rfl (lv_at hl 3 rfl) ?_
      refine va_get (D := (dC, dI)) (ci := 7) (v := .int qmonth) (C := RX7) (T := TX7) (N := 6) hx hb hts (fun w h => List.mem_cons_of_mem _ (jnGA_X7 w h)) hown hK (gz_ro hR hRA hS) 1 rfl rfl 2 (by decide) (hts _ (List.mem_cons_of_mem _ mGA_463)) (fun _ h9 => h9) rfl (dk_at dkX1_verdictOn 16 rfl) ?_
      have hPc : va_P (dC, dI) vwCl [(am, .inr (0, [.int amonths, .int afull, .int alean, .int alines, .int ahasMoon, .int amoonStart, .int amoonStep, .int aplaceCount, .int areportCount, .int adeedCount, .ref pl, .ref re, .ref de]))] s.heap := ((gz_ro hR hRA hS).sub [0] rfl)
      have hKc := hK.sub (tys' := []) [] rfl
      refine va_calli (va_runV (As := [.int qmonth]) (rest := [.int qday]) ⟨hx, hb, hml, hown, hts⟩ (sX0_earlyOf l dC dI am amonths afull alean alines ahasMoon amoonStart amoonStep aplaceCount areportCount adeedCount pl re de qmonth gamonths gafull galean (gi_w g_119 (by decide)) gaplaceCount gareportCount gadeedCount) (cwV 1 hts (gz_gV mGA_488 mGA_417 mGA_418 mGA_13 mGA_419 goodGA) rfl rfl rfl hdV_X0_earlyOf_X0_1 ⟨Nat.le_of_ble_eq_true rfl, Nat.le_of_ble_eq_true rfl⟩) ⟨bl_I (bl_a bl_P (bl_a bl_K bl_nz)), va_recv hKc hPc (ci := 0) (q0 := 0) rfl rfl, fun U hU hW => ⟨rfl, by rw [hU]; exact hPc, va_K.moved hW.alike hKc, nzA_warm hW hz⟩⟩ rfl rfl hl.1 rfl (lv_room (Nat.le_of_ble_eq_true rfl)) (dk_at dkX1_verdictOn 17 rfl) ⟨Nat.zero_le _, Nat.zero_le _⟩) hS (fun q _ h => h.elim) (fun q h => h.elim) (fun r_121 u t H1 locs ht hvm hw hB hz1 hk1 hS => ?_)
      obtain ⟨hw, hE⟩ := hw
      have hP := gz_keep hP hk1
      have hF := gf_call (a := r_121) hE hF
      generalize H1 = H at hP hS ⊢
      refine lv_icmp_ge (tgt := 41) hx hb (dk_at dkX1_verdictOn 18 rfl) (by decide) (fun c_122 => ?_) (fun c_122 => ?_)
      · have hF := gf_pos c_122 hF
        refine lv_aload_n hx hb (dk_at dkX1_verdictOn 21 rfl) rfl (lv_at hl 1 rfl) ?_
        refine va_get (D := (dC, dI)) (ci := 1) (v := .ref fr) (C := RX1) (T := TX1) (N := 7) hx hb hts (fun w h => List.mem_cons_of_mem _ (jnGA_X1 w h)) hown hK hP 0 rfl rfl 0 (by decide) (hts _ (List.mem_cons_of_mem _ mGA_100)) (fun _ h9 => h9) rfl (dk_at dkX1_verdictOn 22 rfl) ?_
        refine va_get (D := (dC, dI)) (ci := 3) (v := .ref fal) (C := RX3) (T := TX3) (N := 5) hx hb hts (fun w h => List.mem_cons_of_mem _ (jnGA_X3 w h)) hown hK hP 1 rfl rfl 3 (by decide) (hts _ (List.mem_cons_of_mem _ mGA_487)) (fun _ h9 => h9) rfl (dk_at dkX1_verdictOn 23 rfl) ?_
        refine lv_aload_n hx hb (dk_at dkX1_verdictOn 24 rfl) rfl (lv_at hl 3 rfl) ?_
        refine va_get (D := (dC, dI)) (ci := 7) (v := .int qmonth) (C := RX7) (T := TX7) (N := 6) hx hb hts (fun w h => List.mem_cons_of_mem _ (jnGA_X7 w h)) hown hK (gz_ro hR hRA hS) 1 rfl rfl 2 (by decide) (hts _ (List.mem_cons_of_mem _ mGA_463)) (fun _ h9 => h9) rfl (dk_at dkX1_verdictOn 25 rfl) ?_
        refine va_iald hx hb hK hP 2 0 rfl rfl (gi_in gqmonth (by decide)) (dk_at dkX1_verdictOn 26 rfl) ?_
        refine lv_topi (fun x_123 ex_123 => ?_)
        refine lv_istore (lv' := [(4, .int x_123), (3, .int 1), (0, .ref h0), (1, .ref am), (2, .ref rp)]) hx hb (dk_at dkX1_verdictOn 27 rfl) hl (by decide) rfl (fun ls hl => ?_)
        refine lv_aload_n hx hb (dk_at dkX1_verdictOn 28 rfl) rfl (lv_at hl 2 rfl) ?_
        refine va_get (D := (dC, dI)) (ci := 1) (v := .ref fr) (C := RX1) (T := TX1) (N := 7) hx hb hts (fun w h => List.mem_cons_of_mem _ (jnGA_X1 w h)) hown hK hP 0 rfl rfl 0 (by decide) (hts _ (List.mem_cons_of_mem _ mGA_100)) (fun _ h9 => h9) rfl (dk_at dkX1_verdictOn 29 rfl) ?_
        refine lv_aload_n hx hb (dk_at dkX1_verdictOn 30 rfl) rfl (lv_at hl 4 rfl) ?_
        obtain ⟨hPc, hDc, hFc⟩ := gz_cut (wc := [(fr, .inr (3, [.int fmonths, .int ffull, .int flean, .ref fal, .ref fon])), (fal, .inl (kfal, 25, .inl ffal))]) hP hD hS hA [1, 2] (by decide) rfl
        have hKc := hK.sub (tys' := [(kfal, .int)]) [0] rfl
        have hRc_ : va_P (dC, dI) vwCl [(rp, .inr (7, [.int qplace, .int qkind, .int qmonth, .int qday, .int qknown, .int qstruck]))] H := ((gz_ro hR hRA hS).sub [1] rfl)
        have hRa_ : gz_ap (va_A [(fr, .inr (3, [.int fmonths, .int ffull, .int flean, .ref fal, .ref fon])), (fal, .inl (kfal, 25, .inl ffal))] H.size) [(rp, .inr (7, [.int qplace, .int qkind, .int qmonth, .int qday, .int qknown, .int qstruck]))] := (gz_apR (gz_ap1 hRA 1 rfl) hFc)
        refine va_callv (va_runV (As := [.ref rp]) (rest := []) ⟨hx, hb, hml, hown, hts⟩ (sX3_narrow l dC dI H.size fr fal rp fmonths ffull flean fon kfal ffal qplace qkind qmonth qday qknown qstruck gfmonths gffull gflean gqplace gqmonth gqstruck) (cwV 1 hts (gz_gV mGA_489 mGA_490 mGA_491 mGA_18 mGA_492 goodGA) rfl rfl rfl hdV_X3_narrow_X3_1 ⟨Nat.le_of_ble_eq_true rfl, Nat.le_of_ble_eq_true rfl⟩) ⟨bl_I (bl_a bl_sz (bl_a bl_P (bl_a bl_K (bl_a bl_c (bl_a bl_nz (bl_a bl_P bl_c)))))), va_recv hKc hPc (ci := 3) (q0 := 0) rfl rfl, fun U hU hW => ⟨rfl, by rw [hU], by rw [hU]; exact hPc, va_K.moved hW.alike hKc, hDc.weaken (fun _ _ _ _ => trivial), nzA_warm hW hz, by rw [hU]; exact hRc_, hRa_⟩⟩ rfl rfl hl.1 rfl (lv_room (Nat.le_of_ble_eq_true rfl)) (dk_at dkX1_verdictOn 31 rfl) ⟨Nat.zero_le _, Nat.zero_le _⟩) hS (fun q _ h => hFc q h) hFc (fun u t H1 locs ht hvm hw hB hz1 hk1 hS => ?_)
        obtain ⟨f_125, hB⟩ := hB
        obtain ⟨hE, hP1, hD1⟩ := hB
        rw [ht] at hP1
        obtain ⟨hP, hD⟩ := gz_back hP hD hk1 hFc hP1 hD1 [1, 2] rfl rfl
        obtain ⟨hP, hD⟩ := gz_both (w := [(h0, .inr (1, [.ref fr, .ref ve, .ref qu, .ref tu, .ref cb, .int queueLength, .int takenBits])), (fr, .inr (3, [.int fmonths, .int ffull, .int flean, .ref fal, .ref fon])), (fal, .inl (kfal, 25, .inl f_125)), (fon, .inl (kfon, 275, .inl ffon))]) hP hD
        have hF := gf_call (a := f_125) hE hF
        generalize H1 = H at hP hS ⊢
        refine lv_aload_n hx hb (dk_at dkX1_verdictOn 32 rfl) rfl (lv_at hl 2 rfl) ?_
        refine va_get (D := (dC, dI)) (ci := 1) (v := .ref fr) (C := RX1) (T := TX1) (N := 7) hx hb hts (fun w h => List.mem_cons_of_mem _ (jnGA_X1 w h)) hown hK hP 0 rfl rfl 0 (by decide) (hts _ (List.mem_cons_of_mem _ mGA_100)) (fun _ h9 => h9) rfl (dk_at dkX1_verdictOn 33 rfl) ?_
        refine va_get (D := (dC, dI)) (ci := 3) (v := .ref fal) (C := RX3) (T := TX3) (N := 5) hx hb hts (fun w h => List.mem_cons_of_mem _ (jnGA_X3 w h)) hown hK hP 1 rfl rfl 3 (by decide) (hts _ (List.mem_cons_of_mem _ mGA_487)) (fun _ h9 => h9) rfl (dk_at dkX1_verdictOn 34 rfl) ?_
        refine lv_aload_n hx hb (dk_at dkX1_verdictOn 35 rfl) rfl (lv_at hl 4 rfl) ?_
        refine va_get (D := (dC, dI)) (ci := 7) (v := .int qmonth) (C := RX7) (T := TX7) (N := 6) hx hb hts (fun w h => List.mem_cons_of_mem _ (jnGA_X7 w h)) hown hK (gz_ro hR hRA hS) 1 rfl rfl 2 (by decide) (hts _ (List.mem_cons_of_mem _ mGA_463)) (fun _ h9 => h9) rfl (dk_at dkX1_verdictOn 36 rfl) ?_
        refine va_iald hx hb hK hP 2 0 rfl rfl (gi_in gqmonth (by decide)) (dk_at dkX1_verdictOn 37 rfl) ?_
        refine lv_topi (fun x_126 ex_126 => ?_)
        refine lv_iload hx hb (dk_at dkX1_verdictOn 38 rfl) (lv_at hl 0 rfl) ?_
        refine lv_icmp_eq (tgt := 90) hx hb (dk_at dkX1_verdictOn 39 rfl) (by decide) (fun c_127 => ?_) (fun c_127 => ?_)
        · have hF := gf_pos (by rw [ex_126, ex_123] at c_127; exact c_127) hF
          refine lv_iconst (v := 0) hx hb (dk_at dkX1_verdictOn 44 rfl) (by decide) ?_
          exact W.iret (v := 0) hx hb hr (fun t ht hW => ⟨⟨0, 0, rfl, ⟨rfl, (gi_w (gi_c 0 0 (by decide)) (by decide))⟩, f_125, ffon, hF.trans hR9.symm, by rw [ht]; exact hP, hD⟩, hS.F ht⟩) hS.2.2 (dk_at dkX1_verdictOn 45 rfl)
        · have hF := gf_neg (by rw [ex_126, ex_123] at c_127; exact c_127) hF
          refine lv_aload_n hx hb (dk_at dkX1_verdictOn 40 rfl) rfl (lv_at hl 2 rfl) ?_
          refine va_get (D := (dC, dI)) (ci := 1) (v := .ref fr) (C := RX1) (T := TX1) (N := 7) hx hb hts (fun w h => List.mem_cons_of_mem _ (jnGA_X1 w h)) hown hK hP 0 rfl rfl 0 (by decide) (hts _ (List.mem_cons_of_mem _ mGA_100)) (fun _ h9 => h9) rfl (dk_at dkX1_verdictOn 41 rfl) ?_
          obtain ⟨hPc, hDc, hFc⟩ := gz_cut (wc := [(fr, .inr (3, [.int fmonths, .int ffull, .int flean, .ref fal, .ref fon])), (fal, .inl (kfal, 25, .inl f_125)), (fon, .inl (kfon, 275, .inl ffon))]) hP hD hS hA [1, 2, 3] (by decide) rfl
          refine va_calli (va_runV (As := []) (rest := []) ⟨hx, hb, hml, hown, hts⟩ (sX3_fits l dC dI H.size fr fal fon fmonths ffull flean kfal f_125 kfon ffon gfmonths gffull gflean) (cwV 0 hts (gz_gV mGA_499 mGA_500 mGA_501 mGA_18 mGA_502 goodGA) rfl rfl rfl hdV_X3_fits_X3_0 ⟨Nat.le_of_ble_eq_true rfl, Nat.le_of_ble_eq_true rfl⟩) ⟨bl_I (bl_a bl_sz (bl_a bl_P (bl_a bl_K (bl_a bl_c bl_nz)))), va_recv hK hPc (ci := 3) (q0 := 0) rfl rfl, fun U hU hW => ⟨rfl, by rw [hU], by rw [hU]; exact hPc, va_K.moved hW.alike hK, hDc.weaken (fun _ _ _ _ => trivial), nzA_warm hW hz⟩⟩ rfl rfl hl.1 rfl (lv_room (Nat.le_of_ble_eq_true rfl)) (dk_at dkX1_verdictOn 42 rfl) ⟨Nat.zero_le _, Nat.zero_le _⟩) hS (fun q _ h => hFc q h) hFc (fun r_128 u t H1 locs ht hvm hw hB hz1 hk1 hS => ?_)
          obtain ⟨hu_, hw⟩ := hw
          subst hu_
          obtain ⟨f_129, hB⟩ := hB
          obtain ⟨hE, hP1, hD1⟩ := hB
          rw [ht] at hP1
          obtain ⟨hP, hD⟩ := gz_back hP hD hk1 hFc hP1 hD1 [1, 2, 3] rfl rfl
          obtain ⟨hP, hD⟩ := gz_both (w := [(h0, .inr (1, [.ref fr, .ref ve, .ref qu, .ref tu, .ref cb, .int queueLength, .int takenBits])), (fr, .inr (3, [.int fmonths, .int ffull, .int flean, .ref fal, .ref fon])), (fal, .inl (kfal, 25, .inl f_125)), (fon, .inl (kfon, 275, .inl f_129))]) hP hD
          have hF := gf_call (a := (r_128, f_129)) hE hF
          generalize H1 = H at hP hS ⊢
          have gr_128 : gi r_128 0 1 := hw
          refine lv_if_eq (tgt := 92) hx hb (dk_at dkX1_verdictOn 43 rfl) (by decide) (fun c_130 => ?_) (fun c_130 => ?_)
          · have hF := gf_pos c_130 hF
            have g_131 : gi r_128 0 0 := gi_eq c_130 (gi_c 0 0 (by decide))
            refine lv_aload_n hx hb (dk_at dkX1_verdictOn 46 rfl) rfl (lv_at hl 2 rfl) ?_
            refine va_get (D := (dC, dI)) (ci := 1) (v := .ref fr) (C := RX1) (T := TX1) (N := 7) hx hb hts (fun w h => List.mem_cons_of_mem _ (jnGA_X1 w h)) hown hK hP 0 rfl rfl 0 (by decide) (hts _ (List.mem_cons_of_mem _ mGA_100)) (fun _ h9 => h9) rfl (dk_at dkX1_verdictOn 47 rfl) ?_
            refine va_get (D := (dC, dI)) (ci := 3) (v := .ref fal) (C := RX3) (T := TX3) (N := 5) hx hb hts (fun w h => List.mem_cons_of_mem _ (jnGA_X3 w h)) hown hK hP 1 rfl rfl 3 (by decide) (hts _ (List.mem_cons_of_mem _ mGA_487)) (fun _ h9 => h9) rfl (dk_at dkX1_verdictOn 48 rfl) ?_
            refine lv_aload_n hx hb (dk_at dkX1_verdictOn 49 rfl) rfl (lv_at hl 4 rfl) ?_
            refine va_get (D := (dC, dI)) (ci := 7) (v := .int qmonth) (C := RX7) (T := TX7) (N := 6) hx hb hts (fun w h => List.mem_cons_of_mem _ (jnGA_X7 w h)) hown hK (gz_ro hR hRA hS) 1 rfl rfl 2 (by decide) (hts _ (List.mem_cons_of_mem _ mGA_463)) (fun _ h9 => h9) rfl (dk_at dkX1_verdictOn 50 rfl) ?_
            refine lv_iload hx hb (dk_at dkX1_verdictOn 51 rfl) (lv_at hl 0 rfl) ?_
            refine va_iast hx hb hK hP hD hS 2 0 rfl rfl (gi_in gqmonth (by decide)) (dk_at dkX1_verdictOn 52 rfl) (fun H locs hP hD hS => ?_)
            obtain ⟨hP, hD⟩ := gz_both (w := [(h0, .inr (1, [.ref fr, .ref ve, .ref qu, .ref tu, .ref cb, .int queueLength, .int takenBits])), (fr, .inr (3, [.int fmonths, .int ffull, .int flean, .ref fal, .ref fon])), (fal, .inl (kfal, 25, .inl (upd f_125 (qmonth : Int32).toNatClampNeg x_123))), (fon, .inl (kfon, 275, .inl f_129))]) hP hD
            generalize ef_132 : upd f_125 (qmonth : Int32).toNatClampNeg x_123 = f_132 at hP hD
            refine lv_iconst (v := 2) hx hb (dk_at dkX1_verdictOn 53 rfl) (by decide) ?_
            exact W.iret (v := 2) hx hb hr (fun t ht hW => ⟨⟨2, 2, rfl, ⟨rfl, (gi_w (gi_c 2 2 (by decide)) (by decide))⟩, f_132, f_129, by first | (rw [← ef_132, ex_123]; exact hF.trans hR9.symm) | ((try rw [← ef_132]); (try rw [ex_123]); exact hF.trans hR9.symm), by rw [ht]; exact hP, hD⟩, hS.F ht⟩) hS.2.2 (dk_at dkX1_verdictOn 54 rfl)
          · have hF := gf_neg c_130 hF
            have g_133 : gi r_128 1 1 := gi_ne_lo c_130 gr_128 (gi_c 0 0 (by decide)) (by decide)
            refine lv_iconst (v := 0) hx hb (dk_at dkX1_verdictOn 44 rfl) (by decide) ?_
            exact W.iret (v := 0) hx hb hr (fun t ht hW => ⟨⟨0, 0, rfl, ⟨rfl, (gi_w (gi_c 0 0 (by decide)) (by decide))⟩, f_125, f_129, hF.trans hR9.symm, by rw [ht]; exact hP, hD⟩, hS.F ht⟩) hS.2.2 (dk_at dkX1_verdictOn 45 rfl)
      · have hF := gf_neg c_122 hF
        have g_134 : gi qday (-2147483648) 2147483646 := gi_lt_l (Int32.not_le.mp c_122) (gi_any qday) (gi_any r_121) (by decide)
        have g_135 : gi r_121 (-2147483647) 2147483647 := gi_lt_r (Int32.not_le.mp c_122) (gi_any qday) (gi_any r_121) (by decide)
        refine lv_iconst (v := 1) hx hb (dk_at dkX1_verdictOn 19 rfl) (by decide) ?_
        exact W.iret (v := 1) hx hb hr (fun t ht hW => ⟨⟨1, 1, rfl, ⟨rfl, (gi_w (gi_c 1 1 (by decide)) (by decide))⟩, ffal, ffon, hF.trans hR9.symm, by rw [ht]; exact hP, hD⟩, hS.F ht⟩) hS.2.2 (dk_at dkX1_verdictOn 20 rfl)
noncomputable def lsX1_judge : List (Nat × Instr × Nat) := [(0, .aload_n 0, 1), (1, .aload_n 1, 1), (2, .iload_n 2, 1), (3, .invokevirtual 39, 3), (6, .aload_n 0, 1), (7, .getfield 12, 3), (10, .aload_n 1, 1), (11, .invokevirtual 43, 3), (14, .aload_n 0, 1), (15, .iconst 0, 1), (16, .putfield 36, 3), (19, .iconst 0, 1), (20, .istore_n 3, 1), (21, .iload_n 3, 1), (22, .aload_n 0, 1), (23, .getfield 32, 3), (26, .if_icmp .ge 59, 3), (29, .aload_n 0, 1), (30, .getfield 22, 3), (33, .iload_n 3, 1), (34, .iaload, 1), (35, .istore 4, 2), (37, .aload_n 0, 1), (38, .getfield 18, 3), (41, .iload 4, 2), (43, .aload_n 0, 1), (44, .aload_n 1, 1), (45, .aload_n 1, 1), (46, .getfield 47, 3), (49, .iload 4, 2), (51, .aaload, 1), (52, .invokevirtual 53, 3), (55, .iastore, 1), (56, .aload_n 0, 1), (57, .getfield 18, 3), (60, .iload 4, 2), (62, .iaload, 1), (63, .ifCond .ne 16, 3), (66, .aload_n 0, 1), (67, .dup, 1), (68, .getfield 36, 3), (71, .iconst 1, 1), (72, .iload 4, 2), (74, .ishl, 1), (75, .ior, 1), (76, .putfield 36, 3), (79, .iinc 3 1, 3), (82, .goto (-61), 3), (85, .aload_n 0, 1), (86, .getfield 12, 3), (89, .invokevirtual 57, 3), (92, .pop, 1), (93, .aload_n 0, 1), (94, .getfield 12, 3), (97, .aload_n 0, 1), (98, .getfield 29, 3), (101, .invokevirtual 61, 3), (104, .return_, 1)]
theorem dkX1_judge : dkAll cX1_judge lsX1_judge = true := dk_fast (by decide +kernel)
noncomputable def bfX1_judge_79 (fve : Nat → Int32) (fqu : Nat → Int32) (ftu : Nat → Int64) (fcb : Nat → Int32) (ffal : Nat → Int32) (ffon : Nat → Int32) (amonths : Int32) (afull : Int32) (alean : Int32) (ahasMoon : Int32) (amoonStart : Int32) (amoonStep : Int32) (areportCount : Int32) (p_name : Nat → Int32) (p_trust : Nat → Int32) (r_place : Nat → Int32) (r_kind : Nat → Int32) (r_month : Nat → Int32) (r_day : Nat → Int32) (r_known : Nat → Int32) (r_struck : Nat → Int32) (p2 : Int32) (K : (Int32 → Int32 → Int32 → Int32 → Int32 → Int32 → (Nat → Int32) → (Nat → Int32) → (Nat → Int64) → (Nat → Int32) → (Nat → Int32) → (Int32 × Int32 × Int32 × Int32 × Int32 × (Nat → Int32) × (Nat → Int32) × (Nat → Int64) × (Nat → Int32) × (Nat → Int32) × (Nat → Int32)))) (v3 : Int32) (w0_5 : Int32) (w0_6 : Int32) (w5_0 : Int32) (w5_1 : Int32) (w5_2 : Int32) (z1 : Nat → Int32) (z2 : Nat → Int32) (z3 : Nat → Int64) (z4 : Nat → Int32) (z6 : Nat → Int32) (z7 : Nat → Int32) : Int32 × Int32 × Int32 × Int32 × Int32 × (Nat → Int32) × (Nat → Int32) × (Nat → Int64) × (Nat → Int32) × (Nat → Int32) × (Nat → Int32) := K (v3 + (1 : Int32)) w0_5 w0_6 w5_0 w5_1 w5_2 z1 z2 z3 z6 z7
noncomputable def dfX1_judge_21 (fve : Nat → Int32) (fqu : Nat → Int32) (ftu : Nat → Int64) (fcb : Nat → Int32) (ffal : Nat → Int32) (ffon : Nat → Int32) (amonths : Int32) (afull : Int32) (alean : Int32) (ahasMoon : Int32) (amoonStart : Int32) (amoonStep : Int32) (areportCount : Int32) (p_name : Nat → Int32) (p_trust : Nat → Int32) (r_place : Nat → Int32) (r_kind : Nat → Int32) (r_month : Nat → Int32) (r_day : Nat → Int32) (r_known : Nat → Int32) (r_struck : Nat → Int32) (p2 : Int32) (K : (Int32 → Int32 → Int32 → Int32 → Int32 → Int32 → (Nat → Int32) → (Nat → Int32) → (Nat → Int64) → (Nat → Int32) → (Nat → Int32) → (Int32 × Int32 × Int32 × Int32 × Int32 × (Nat → Int32) × (Nat → Int32) × (Nat → Int64) × (Nat → Int32) × (Nat → Int32) × (Nat → Int32)))) (v3 : Int32) (w0_5 : Int32) (w0_6 : Int32) (w5_0 : Int32) (w5_1 : Int32) (w5_2 : Int32) (z1 : Nat → Int32) (z2 : Nat → Int32) (z3 : Nat → Int64) (z6 : Nat → Int32) (z7 : Nat → Int32) : Int32 × Int32 × Int32 × Int32 × Int32 × (Nat → Int32) × (Nat → Int32) × (Nat → Int64) × (Nat → Int32) × (Nat → Int32) × (Nat → Int32) := if w0_5 ≤ v3 then (cal (fun o3 => cal (fun o4 => (w0_5, w0_6, w5_0, w5_1, w5_2, z1, z2, z3, o4, z6, o3.2)) (fX3_beginsInto w5_0 w5_1 w5_2 o3.2 fcb)) (fX3_fits w5_0 w5_1 w5_2 z6 z7)) else (cal (fun o5 => if ((upd z1 (z2 v3.toNatClampNeg).toNatClampNeg o5.1) (z2 v3.toNatClampNeg).toNatClampNeg) = (0 : Int32) then (bfX1_judge_79 fve fqu ftu fcb ffal ffon amonths afull alean ahasMoon amoonStart amoonStep areportCount p_name p_trust r_place r_kind r_month r_day r_known r_struck p2 K v3 w0_5 (w0_6 ||| ((1 : Int32) <<< ((z2 v3.toNatClampNeg) &&& 31))) w5_0 w5_1 w5_2 (upd z1 (z2 v3.toNatClampNeg).toNatClampNeg o5.1) z2 z3 fcb o5.2.1 o5.2.2) else (bfX1_judge_79 fve fqu ftu fcb ffal ffon amonths afull alean ahasMoon amoonStart amoonStep areportCount p_name p_trust r_place r_kind r_month r_day r_known r_struck p2 K v3 w0_5 w0_6 w5_0 w5_1 w5_2 (upd z1 (z2 v3.toNatClampNeg).toNatClampNeg o5.1) z2 z3 fcb o5.2.1 o5.2.2)) (fX1_verdictOn w5_0 w5_1 w5_2 z6 z7 ahasMoon amoonStart amoonStep (r_kind (z2 v3.toNatClampNeg).toNatClampNeg) (r_month (z2 v3.toNatClampNeg).toNatClampNeg) (r_day (z2 v3.toNatClampNeg).toNatClampNeg)))
noncomputable def lfX1_judge (fve : Nat → Int32) (fqu : Nat → Int32) (ftu : Nat → Int64) (fcb : Nat → Int32) (ffal : Nat → Int32) (ffon : Nat → Int32) (amonths : Int32) (afull : Int32) (alean : Int32) (ahasMoon : Int32) (amoonStart : Int32) (amoonStep : Int32) (areportCount : Int32) (p_name : Nat → Int32) (p_trust : Nat → Int32) (r_place : Nat → Int32) (r_kind : Nat → Int32) (r_month : Nat → Int32) (r_day : Nat → Int32) (r_known : Nat → Int32) (r_struck : Nat → Int32) (p2 : Int32) (z : Nat) : (Int32 → Int32 → Int32 → Int32 → Int32 → Int32 → (Nat → Int32) → (Nat → Int32) → (Nat → Int64) → (Nat → Int32) → (Nat → Int32) → (Int32 × Int32 × Int32 × Int32 × Int32 × (Nat → Int32) × (Nat → Int32) × (Nat → Int64) × (Nat → Int32) × (Nat → Int32) × (Nat → Int32))) := Nat.rec (motive := fun _ => (Int32 → Int32 → Int32 → Int32 → Int32 → Int32 → (Nat → Int32) → (Nat → Int32) → (Nat → Int64) → (Nat → Int32) → (Nat → Int32) → (Int32 × Int32 × Int32 × Int32 × Int32 × (Nat → Int32) × (Nat → Int32) × (Nat → Int64) × (Nat → Int32) × (Nat → Int32) × (Nat → Int32)))) (fun _ w0_5 w0_6 w5_0 w5_1 w5_2 z1 z2 z3 z6 z7 => (w0_5, w0_6, w5_0, w5_1, w5_2, z1, z2, z3, fun _ => 0, z6, z7)) (fun _ K => dfX1_judge_21 fve fqu ftu fcb ffal ffon amonths afull alean ahasMoon amoonStart amoonStep areportCount p_name p_trust r_place r_kind r_month r_day r_known r_struck p2 K) z
noncomputable def fX1_judge (fve : Nat → Int32) (fqu : Nat → Int32) (ftu : Nat → Int64) (fcb : Nat → Int32) (ffal : Nat → Int32) (ffon : Nat → Int32) (amonths : Int32) (afull : Int32) (alean : Int32) (ahasMoon : Int32) (amoonStart : Int32) (amoonStep : Int32) (areportCount : Int32) (p_name : Nat → Int32) (p_trust : Nat → Int32) (r_place : Nat → Int32) (r_kind : Nat → Int32) (r_month : Nat → Int32) (r_day : Nat → Int32) (r_known : Nat → Int32) (r_struck : Nat → Int32) (p2 : Int32) : Int32 × Int32 × Int32 × Int32 × Int32 × (Nat → Int32) × (Nat → Int32) × (Nat → Int64) × (Nat → Int32) × (Nat → Int32) × (Nat → Int32) := cal (fun o1 => cal (fun o2 => (lfX1_judge fve fqu ftu fcb ffal ffon amonths afull alean ahasMoon amoonStart amoonStep areportCount p_name p_trust r_place r_kind r_month r_day r_known r_struck p2 1000000000) (0 : Int32) o1.1 (0 : Int32) o2.1 o2.2.1 o2.2.2.1 o1.2.1 o1.2.2.1 o1.2.2.2 o2.2.2.2 ffon) (fX3_open ffal amonths afull alean)) (fX1_lineUp fve fqu ftu areportCount p_name p_trust r_place r_kind r_month r_day r_known r_struck p2)
set_option maxHeartbeats 4000000 in
set_option maxRecDepth 100000 in
theorem lp_sX1_judge {p : Program} {l : Launch} {e : Env} {R : Room} {s : State} {m : MethodId} {args : Array Value} {below : List Frame} {meth : Method} {c : Code} {Q : State → Prop} {A : Nat → Prop} {cells slots : Nat} {dC : Nat → ClassId} {dI : Nat → Nat → Nat} {RES : Int32 × Int32 × Int32 × Int32 × Int32 × (Nat → Int32) × (Nat → Int32) × (Nat → Int64) × (Nat → Int32) × (Nat → Int32) × (Nat → Int32)} (h0 : Nat) (ve : Nat) (qu : Nat) (tu : Nat) (cb : Nat) (fr : Nat) (fal : Nat) (fon : Nat) (am : Nat) (pl : Nat) (re : Nat) (queueLength : Int32) (takenBits : Int32) (kve : ClassId) (fve : Nat → Int32) (kqu : ClassId) (fqu : Nat → Int32) (ktu : ClassId) (ftu : Nat → Int64) (kcb : ClassId) (fcb : Nat → Int32) (fmonths : Int32) (ffull : Int32) (flean : Int32) (kfal : ClassId) (ffal : Nat → Int32) (kfon : ClassId) (ffon : Nat → Int32) (amonths : Int32) (afull : Int32) (alean : Int32) (alines : Int32) (ahasMoon : Int32) (amoonStart : Int32) (amoonStep : Int32) (aplaceCount : Int32) (areportCount : Int32) (adeedCount : Int32) (de : Nat) (kpl : ClassId) (kre : ClassId) (pa : Nat → Nat) (p_name : Nat → Int32) (p_trust : Nat → Int32) (ra : Nat → Nat) (r_place : Nat → Int32) (r_kind : Nat → Int32) (r_month : Nat → Int32) (r_day : Nat → Int32) (r_known : Nat → Int32) (r_struck : Nat → Int32) (p2 : Int32) (gqueueLength : gi queueLength 0 24) (gfqu : ga fqu 24 0 23) (gfmonths : gi fmonths 0 24) (gffull : gi ffull 0 5) (gflean : gi flean 0 5) (gamonths : gi amonths 0 24) (gafull : gi afull 0 5) (galean : gi alean 0 5) (gahasMoon : gi ahasMoon 0 1) (gaplaceCount : gi aplaceCount 0 6) (gareportCount : gi areportCount 0 24) (gadeedCount : gi adeedCount 0 8) (gr_place : ga r_place 24 0 5) (gr_month : ga r_month 24 0 23) (gr_struck : ga r_struck 24 0 1) (hx : p.tables.exec = Jvm.exec) (hb : c.code = cX1_judge) (hml : c.maxLocals = 5) (hown : s.vm.findClass RX1 = some m.cls) (hts : ∀ w ∈ ((.code yX1_judge cX1_judge 5 none :: wsGA) : List Cond), w.before args s = true) (hK : va_K (dC, dI) vwCl [(kve, .int), (kqu, .int), (ktu, .long), (kcb, .int), (kfal, .int), (kfon, .int), (kpl, .object RX5), (kre, .object RX7)] s) (hz : nzA s) (hR : va_P (dC, dI) vwCl [(am, .inr (0, [.int amonths, .int afull, .int alean, .int alines, .int ahasMoon, .int amoonStart, .int amoonStep, .int aplaceCount, .int areportCount, .int adeedCount, .ref pl, .ref re, .ref de])), (pl, .inl (kpl, 6, .inr (.inr (.inr (.inr (fun i => some (pa i))))))), (re, .inl (kre, 24, .inr (.inr (.inr (.inr (fun i => some (ra i)))))))] s.heap) (hRA : gz_ap A [(am, .inr (0, [.int amonths, .int afull, .int alean, .int alines, .int ahasMoon, .int amoonStart, .int amoonStep, .int aplaceCount, .int areportCount, .int adeedCount, .ref pl, .ref re, .ref de])), (pl, .inl (kpl, 6, .inr (.inr (.inr (.inr (fun i => some (pa i))))))), (re, .inl (kre, 24, .inr (.inr (.inr (.inr (fun i => some (ra i)))))))]) (hF0 : va_P (dC, dI) vwCl (gz_fam 6 pa 5 (fun i => [.int (p_name i), .int (p_trust i)])) s.heap) (hFA0 : gz_ap A (gz_fam 6 pa 5 (fun i => [.int (p_name i), .int (p_trust i)]))) (hF1 : va_P (dC, dI) vwCl (gz_fam 24 ra 7 (fun i => [.int (r_place i), .int (r_kind i), .int (r_month i), .int (r_day i), .int (r_known i), .int (r_struck i)])) s.heap) (hFA1 : gz_ap A (gz_fam 24 ra 7 (fun i => [.int (r_place i), .int (r_kind i), .int (r_month i), .int (r_day i), .int (r_known i), .int (r_struck i)]))) (hA : ∀ q : Nat, s.heap.size ≤ q → A q) (hRf : 3 ≤ R.frames) (hRl : 71 ≤ R.locals) (hRc : cells ≤ R.cells) (hRs : slots ≤ R.slots) (kr104 : ∀ (w0_5 : Int32) (w0_6 : Int32) (w5_0 : Int32) (w5_1 : Int32) (w5_2 : Int32) (z1 : Nat → Int32) (z2 : Nat → Int32) (z3 : Nat → Int64) (z4 : Nat → Int32) (z6 : Nat → Int32) (z7 : Nat → Int32) (H : Heap) (locs : List Loc) (ls : Array Slot), gi w0_5 0 24 → gi w5_0 0 24 → gi w5_1 0 5 → gi w5_2 0 5 → ga z2 24 0 23 → (w0_5, w0_6, w5_0, w5_1, w5_2, z1, z2, z3, z4, z6, z7) = RES → va_P (dC, dI) vwCl [(h0, .inr (1, [.ref fr, .ref ve, .ref qu, .ref tu, .ref cb, .int w0_5, .int w0_6])), (ve, .inl (kve, 24, .inl z1)), (qu, .inl (kqu, 24, .inl z2)), (tu, .inl (ktu, 24, .inr (.inl z3))), (cb, .inl (kcb, 25, .inl z4)), (fr, .inr (3, [.int w5_0, .int w5_1, .int w5_2, .ref fal, .ref fon])), (fal, .inl (kfal, 25, .inl z6)), (fon, .inl (kfon, 275, .inl z7))] H → va_D A [(h0, .inr (1, [.ref fr, .ref ve, .ref qu, .ref tu, .ref cb, .int w0_5, .int w0_6])), (ve, .inl (kve, 24, .inl z1)), (qu, .inl (kqu, 24, .inl z2)), (tu, .inl (ktu, 24, .inr (.inl z3))), (cb, .inl (kcb, 25, .inl z4)), (fr, .inr (3, [.int w5_0, .int w5_1, .int w5_2, .ref fal, .ref fon])), (fal, .inl (kfal, 25, .inl z6)), (fon, .inl (kfon, 275, .inl z7))] → va_S A s.heap H locs → lv_has ls 5 [] → W p l e R s m args below meth c H locs cells slots Q (F0 m 104 ls [])) : ∀ z : Nat, (∀ (v3 : Int32) (w0_5 : Int32) (w0_6 : Int32) (w5_0 : Int32) (w5_1 : Int32) (w5_2 : Int32) (z1 : Nat → Int32) (z2 : Nat → Int32) (z3 : Nat → Int64) (z6 : Nat → Int32) (z7 : Nat → Int32) (H : Heap) (locs : List Loc) (ls : Array Slot), gi v3 0 24 → gi w0_5 0 24 → gi w5_0 0 24 → gi w5_1 0 5 → gi w5_2 0 5 → ga z2 24 0 23 → (lfX1_judge fve fqu ftu fcb ffal ffon amonths afull alean ahasMoon amoonStart amoonStep areportCount p_name p_trust r_place r_kind r_month r_day r_known r_struck p2 z) v3 w0_5 w0_6 w5_0 w5_1 w5_2 z1 z2 z3 z6 z7 = RES → 49 + (-2) * v3.toInt < (z : Int) → va_P (dC, dI) vwCl [(h0, .inr (1, [.ref fr, .ref ve, .ref qu, .ref tu, .ref cb, .int w0_5, .int w0_6])), (ve, .inl (kve, 24, .inl z1)), (qu, .inl (kqu, 24, .inl z2)), (tu, .inl (ktu, 24, .inr (.inl z3))), (cb, .inl (kcb, 25, .inl fcb)), (fr, .inr (3, [.int w5_0, .int w5_1, .int w5_2, .ref fal, .ref fon])), (fal, .inl (kfal, 25, .inl z6)), (fon, .inl (kfon, 275, .inl z7))] H → va_D A [(h0, .inr (1, [.ref fr, .ref ve, .ref qu, .ref tu, .ref cb, .int w0_5, .int w0_6])), (ve, .inl (kve, 24, .inl z1)), (qu, .inl (kqu, 24, .inl z2)), (tu, .inl (ktu, 24, .inr (.inl z3))), (cb, .inl (kcb, 25, .inl fcb)), (fr, .inr (3, [.int w5_0, .int w5_1, .int w5_2, .ref fal, .ref fon])), (fal, .inl (kfal, 25, .inl z6)), (fon, .inl (kfon, 275, .inl z7))] → va_S A s.heap H locs → lv_has ls 5 [(0, .ref h0), (1, .ref am), (2, .int p2), (3, .int v3)] → W p l e R s m args below meth c H locs cells slots Q (F0 m 21 ls [])) := by
  intro z
  induction z with
  | zero =>
    intro v3 w0_5 w0_6 w5_0 w5_1 w5_2 z1 z2 z3 z6 z7 H locs ls gv3 gw0_5 gw5_0 gw5_1 gw5_2 gz2 hF hmu hP hD hS hl
    exact absurd hmu (by have hv31 := gv3.1; have hv32 := gv3.2; omega)
  | succ z ih =>
      intro v3 w0_5 w0_6 w5_0 w5_1 w5_2 z1 z2 z3 z6 z7 H locs ls gv3 gw0_5 gw5_0 gw5_1 gw5_2 gz2 hF hmu hP hD hS hl
      have hF : dfX1_judge_21 fve fqu ftu fcb ffal ffon amonths afull alean ahasMoon amoonStart amoonStep areportCount p_name p_trust r_place r_kind r_month r_day r_known r_struck p2 (lfX1_judge fve fqu ftu fcb ffal ffon amonths afull alean ahasMoon amoonStart amoonStep areportCount p_name p_trust r_place r_kind r_month r_day r_known r_struck p2 z) v3 w0_5 w0_6 w5_0 w5_1 w5_2 z1 z2 z3 z6 z7 = RES := hF
      refine lv_iload_n hx hb (dk_at dkX1_judge 13 rfl) rfl (lv_at hl 3 rfl) ?_
      refine lv_aload_n hx hb (dk_at dkX1_judge 14 rfl) rfl (lv_at hl 0 rfl) ?_
      refine va_get (D := (dC, dI)) (ci := 1) (v := .int w0_5) (C := RX1) (T := TX1) (N := 7) hx hb hts (fun w h => List.mem_cons_of_mem _ (jnGA_X1 w h)) hown hK hP 0 rfl rfl 5 (by decide) (hts _ (List.mem_cons_of_mem _ mGA_106)) (fun _ h9 => h9) rfl (dk_at dkX1_judge 15 rfl) ?_
      refine lv_icmp_ge (tgt := 85) hx hb (dk_at dkX1_judge 16 rfl) (by decide) (fun c_436 => ?_) (fun c_436 => ?_)
      · have hF := gf_pos c_436 hF
        refine lv_aload_n hx hb (dk_at dkX1_judge 48 rfl) rfl (lv_at hl 0 rfl) ?_
        refine va_get (D := (dC, dI)) (ci := 1) (v := .ref fr) (C := RX1) (T := TX1) (N := 7) hx hb hts (fun w h => List.mem_cons_of_mem _ (jnGA_X1 w h)) hown hK hP 0 rfl rfl 0 (by decide) (hts _ (List.mem_cons_of_mem _ mGA_100)) (fun _ h9 => h9) rfl (dk_at dkX1_judge 49 rfl) ?_
        obtain ⟨hPc, hDc, hFc⟩ := gz_cut (wc := [(fr, .inr (3, [.int w5_0, .int w5_1, .int w5_2, .ref fal, .ref fon])), (fal, .inl (kfal, 25, .inl z6)), (fon, .inl (kfon, 275, .inl z7))]) hP hD hS hA [5, 6, 7] (by decide) rfl
        have hKc := hK.sub (tys' := [(kfal, .int), (kfon, .int)]) [4, 5] rfl
        refine va_calli (va_runV (As := []) (rest := []) ⟨hx, hb, hml, hown, hts⟩ (sX3_fits l dC dI H.size fr fal fon w5_0 w5_1 w5_2 kfal z6 kfon z7 gw5_0 gw5_1 gw5_2) (cwV 0 hts (gz_gV mGA_499 mGA_500 mGA_501 mGA_18 mGA_502 goodGA) rfl rfl rfl hdV_X3_fits_X3_0 ⟨Nat.le_trans (Nat.le_of_ble_eq_true rfl) hRf, Nat.le_trans (Nat.le_of_ble_eq_true rfl) hRl⟩) ⟨bl_I (bl_a bl_sz (bl_a bl_P (bl_a bl_K (bl_a bl_c bl_nz)))), va_recv hKc hPc (ci := 3) (q0 := 0) rfl rfl, fun U hU hW => ⟨rfl, by rw [hU], by rw [hU]; exact hPc, va_K.moved hW.alike hKc, hDc.weaken (fun _ _ _ _ => trivial), nzA_warm hW hz⟩⟩ rfl rfl hl.1 rfl (lv_room (Nat.le_of_ble_eq_true rfl)) (dk_at dkX1_judge 50 rfl) ⟨hRc, hRs⟩) hS (fun q _ h => hFc q h) hFc (fun r_437 u t H1 locs ht hvm hw hB hz1 hk1 hS => ?_)
        obtain ⟨hu_, hw⟩ := hw
        subst hu_
        obtain ⟨f_438, hB⟩ := hB
        obtain ⟨hE, hP1, hD1⟩ := hB
        rw [ht] at hP1
        obtain ⟨hP, hD⟩ := gz_back hP hD hk1 hFc hP1 hD1 [5, 6, 7] rfl rfl
        obtain ⟨hP, hD⟩ := gz_both (w := [(h0, .inr (1, [.ref fr, .ref ve, .ref qu, .ref tu, .ref cb, .int w0_5, .int w0_6])), (ve, .inl (kve, 24, .inl z1)), (qu, .inl (kqu, 24, .inl z2)), (tu, .inl (ktu, 24, .inr (.inl z3))), (cb, .inl (kcb, 25, .inl fcb)), (fr, .inr (3, [.int w5_0, .int w5_1, .int w5_2, .ref fal, .ref fon])), (fal, .inl (kfal, 25, .inl z6)), (fon, .inl (kfon, 275, .inl f_438))]) hP hD
        have hF := gf_call (a := (r_437, f_438)) hE hF
        generalize H1 = H at hP hS ⊢
        have gr_437 : gi r_437 0 1 := hw
        refine lv_pop hx hb (dk_at dkX1_judge 51 rfl) rfl ?_
        refine lv_aload_n hx hb (dk_at dkX1_judge 52 rfl) rfl (lv_at hl 0 rfl) ?_
        refine va_get (D := (dC, dI)) (ci := 1) (v := .ref fr) (C := RX1) (T := TX1) (N := 7) hx hb hts (fun w h => List.mem_cons_of_mem _ (jnGA_X1 w h)) hown hK hP 0 rfl rfl 0 (by decide) (hts _ (List.mem_cons_of_mem _ mGA_100)) (fun _ h9 => h9) rfl (dk_at dkX1_judge 53 rfl) ?_
        refine lv_aload_n hx hb (dk_at dkX1_judge 54 rfl) rfl (lv_at hl 0 rfl) ?_
        refine va_get (D := (dC, dI)) (ci := 1) (v := .ref cb) (C := RX1) (T := TX1) (N := 7) hx hb hts (fun w h => List.mem_cons_of_mem _ (jnGA_X1 w h)) hown hK hP 0 rfl rfl 4 (by decide) (hts _ (List.mem_cons_of_mem _ mGA_105)) (fun _ h9 => h9) rfl (dk_at dkX1_judge 55 rfl) ?_
        obtain ⟨hPc, hDc, hFc⟩ := gz_cut (wc := [(fr, .inr (3, [.int w5_0, .int w5_1, .int w5_2, .ref fal, .ref fon])), (fal, .inl (kfal, 25, .inl z6)), (fon, .inl (kfon, 275, .inl f_438)), (cb, .inl (kcb, 25, .inl fcb))]) hP hD hS hA [5, 6, 7, 4] (by decide) rfl
        have hKc := hK.sub (tys' := [(kfal, .int), (kfon, .int), (kcb, .int)]) [4, 5, 3] rfl
        refine va_callv (va_runV (As := [.ref cb]) (rest := []) ⟨hx, hb, hml, hown, hts⟩ (sX3_beginsInto l dC dI H.size fr fal fon cb w5_0 w5_1 w5_2 kfal z6 kfon f_438 kcb fcb gw5_0 gw5_1 gw5_2) (cwV 1 hts (gz_gV mGA_511 mGA_512 mGA_513 mGA_18 mGA_514 goodGA) rfl rfl rfl hdV_X3_beginsInto_X3_1 ⟨Nat.le_trans (Nat.le_of_ble_eq_true rfl) hRf, Nat.le_trans (Nat.le_of_ble_eq_true rfl) hRl⟩) ⟨bl_I (bl_a bl_sz (bl_a bl_P (bl_a bl_K (bl_a bl_c bl_nz)))), va_recv hKc hPc (ci := 3) (q0 := 0) rfl rfl, fun U hU hW => ⟨rfl, by rw [hU], by rw [hU]; exact hPc, va_K.moved hW.alike hKc, hDc.weaken (fun _ _ _ _ => trivial), nzA_warm hW hz⟩⟩ rfl rfl hl.1 rfl (lv_room (Nat.le_of_ble_eq_true rfl)) (dk_at dkX1_judge 56 rfl) ⟨hRc, hRs⟩) hS (fun q _ h => hFc q h) hFc (fun u t H1 locs ht hvm hw hB hz1 hk1 hS => ?_)
        obtain ⟨f_440, hB⟩ := hB
        obtain ⟨hE, hP1, hD1⟩ := hB
        rw [ht] at hP1
        obtain ⟨hP, hD⟩ := gz_back hP hD hk1 hFc hP1 hD1 [5, 6, 7, 4] rfl rfl
        obtain ⟨hP, hD⟩ := gz_both (w := [(h0, .inr (1, [.ref fr, .ref ve, .ref qu, .ref tu, .ref cb, .int w0_5, .int w0_6])), (ve, .inl (kve, 24, .inl z1)), (qu, .inl (kqu, 24, .inl z2)), (tu, .inl (ktu, 24, .inr (.inl z3))), (cb, .inl (kcb, 25, .inl f_440)), (fr, .inr (3, [.int w5_0, .int w5_1, .int w5_2, .ref fal, .ref fon])), (fal, .inl (kfal, 25, .inl z6)), (fon, .inl (kfon, 275, .inl f_438))]) hP hD
        have hF := gf_call (a := f_440) hE hF
        generalize H1 = H at hP hS ⊢
        exact kr104 w0_5 w0_6 w5_0 w5_1 w5_2 z1 z2 z3 f_440 z6 f_438 _ _ _ gw0_5 gw5_0 gw5_1 gw5_2 gz2 hF hP hD hS (lv_sub hl [] rfl)
      · have hF := gf_neg c_436 hF
        have g_441 : gi v3 0 23 := gi_lt_l (Int32.not_le.mp c_436) gv3 gw0_5 (by decide)
        have g_442 : gi w0_5 1 24 := gi_lt_r (Int32.not_le.mp c_436) gv3 gw0_5 (by decide)
        refine lv_aload_n hx hb (dk_at dkX1_judge 17 rfl) rfl (lv_at hl 0 rfl) ?_
        refine va_get (D := (dC, dI)) (ci := 1) (v := .ref qu) (C := RX1) (T := TX1) (N := 7) hx hb hts (fun w h => List.mem_cons_of_mem _ (jnGA_X1 w h)) hown hK hP 0 rfl rfl 2 (by decide) (hts _ (List.mem_cons_of_mem _ mGA_102)) (fun _ h9 => h9) rfl (dk_at dkX1_judge 18 rfl) ?_
        refine lv_iload_n hx hb (dk_at dkX1_judge 19 rfl) rfl (lv_at hl 3 rfl) ?_
        refine va_iald hx hb hK hP 2 1 rfl rfl (gi_in g_441 (by decide)) (dk_at dkX1_judge 20 rfl) ?_
        refine lv_topi (fun x_443 ex_443 => ?_)
        have gx_443 : gi x_443 0 23 := ga_at gz2 (gi_in g_441 (by decide)) ex_443
        refine lv_istore (lv' := [(4, .int x_443), (0, .ref h0), (1, .ref am), (2, .int p2), (3, .int v3)]) hx hb (dk_at dkX1_judge 21 rfl) hl (by decide) rfl (fun ls hl => ?_)
        refine lv_aload_n hx hb (dk_at dkX1_judge 22 rfl) rfl (lv_at hl 1 rfl) ?_
        refine va_get (D := (dC, dI)) (ci := 1) (v := .ref ve) (C := RX1) (T := TX1) (N := 7) hx hb hts (fun w h => List.mem_cons_of_mem _ (jnGA_X1 w h)) hown hK hP 0 rfl rfl 1 (by decide) (hts _ (List.mem_cons_of_mem _ mGA_101)) (fun _ h9 => h9) rfl (dk_at dkX1_judge 23 rfl) ?_
        refine lv_iload hx hb (dk_at dkX1_judge 24 rfl) (lv_at hl 0 rfl) ?_
        refine lv_aload_n hx hb (dk_at dkX1_judge 25 rfl) rfl (lv_at hl 1 rfl) ?_
        refine lv_aload_n hx hb (dk_at dkX1_judge 26 rfl) rfl (lv_at hl 2 rfl) ?_
        refine lv_aload_n hx hb (dk_at dkX1_judge 27 rfl) rfl (lv_at hl 2 rfl) ?_
        refine va_get (D := (dC, dI)) (ci := 0) (v := .ref re) (C := RX0) (T := TX0) (N := 13) hx hb hts (fun w h => List.mem_cons_of_mem _ (jnGA_X0 w h)) hown hK (gz_ro hR hRA hS) 0 rfl rfl 11 (by decide) (hts _ (List.mem_cons_of_mem _ mGA_447)) (fun _ h9 => h9) rfl (dk_at dkX1_judge 28 rfl) ?_
        refine lv_iload hx hb (dk_at dkX1_judge 29 rfl) (lv_at hl 0 rfl) ?_
        refine va_aldq hx hb hK (gz_ro hR hRA hS) 2 7 rfl rfl (gi_in gx_443 (by decide)) (dk_at dkX1_judge 30 rfl) ?_
        refine W.eq (g2 := F0 m 52 ls [.ref (ra x_443.toNatClampNeg), .ref am, .ref h0, .int x_443, .ref ve]) rfl ?_
        obtain ⟨hPc, hDc, hFc⟩ := gz_cut (wc := [(h0, .inr (1, [.ref fr, .ref ve, .ref qu, .ref tu, .ref cb, .int w0_5, .int w0_6])), (fr, .inr (3, [.int w5_0, .int w5_1, .int w5_2, .ref fal, .ref fon])), (fal, .inl (kfal, 25, .inl z6)), (fon, .inl (kfon, 275, .inl z7))]) hP hD hS hA [0, 5, 6, 7] (by decide) rfl
        have hKc := hK.sub (tys' := [(kfal, .int), (kfon, .int)]) [4, 5] rfl
        have hRc_ : va_P (dC, dI) vwCl [(am, .inr (0, [.int amonths, .int afull, .int alean, .int alines, .int ahasMoon, .int amoonStart, .int amoonStep, .int aplaceCount, .int areportCount, .int adeedCount, .ref pl, .ref re, .ref de])), ((ra x_443.toNatClampNeg), .inr (7, [.int (r_place x_443.toNatClampNeg), .int (r_kind x_443.toNatClampNeg), .int (r_month x_443.toNatClampNeg), .int (r_day x_443.toNatClampNeg), .int (r_known x_443.toNatClampNeg), .int (r_struck x_443.toNatClampNeg)]))] H := (gz_cat ((gz_ro hR hRA hS).sub [0] rfl) (gz_fam1 (gz_ro hF1 hFA1 hS) (gz_clt (gi_in (n := 24) gx_443 (by decide)))))
        have hRa_ : gz_ap (va_A [(h0, .inr (1, [.ref fr, .ref ve, .ref qu, .ref tu, .ref cb, .int w0_5, .int w0_6])), (fr, .inr (3, [.int w5_0, .int w5_1, .int w5_2, .ref fal, .ref fon])), (fal, .inl (kfal, 25, .inl z6)), (fon, .inl (kfon, 275, .inl z7))] H.size) [(am, .inr (0, [.int amonths, .int afull, .int alean, .int alines, .int ahasMoon, .int amoonStart, .int amoonStep, .int aplaceCount, .int areportCount, .int adeedCount, .ref pl, .ref re, .ref de])), ((ra x_443.toNatClampNeg), .inr (7, [.int (r_place x_443.toNatClampNeg), .int (r_kind x_443.toNatClampNeg), .int (r_month x_443.toNatClampNeg), .int (r_day x_443.toNatClampNeg), .int (r_known x_443.toNatClampNeg), .int (r_struck x_443.toNatClampNeg)]))] := (gz_apc (gz_apR (gz_ap1 hRA 0 rfl) hFc) (gz_apR (gz_ap1 hFA1 _ (gz_fam_at (gz_clt (gi_in (n := 24) gx_443 (by decide))))) hFc))
        refine va_calli (va_runV (As := [.ref am, .ref (ra x_443.toNatClampNeg)]) (rest := [.int x_443, .ref ve]) ⟨hx, hb, hml, hown, hts⟩ (sX1_verdictOn l dC dI H.size h0 fr fal fon am (ra x_443.toNatClampNeg) ve qu tu cb w0_5 w0_6 w5_0 w5_1 w5_2 kfal z6 kfon z7 amonths afull alean alines ahasMoon amoonStart amoonStep aplaceCount areportCount adeedCount pl re de (r_place x_443.toNatClampNeg) (r_kind x_443.toNatClampNeg) (r_month x_443.toNatClampNeg) (r_day x_443.toNatClampNeg) (r_known x_443.toNatClampNeg) (r_struck x_443.toNatClampNeg) (gi_w g_442 (by decide)) gw5_0 gw5_1 gw5_2 gamonths gafull galean gahasMoon gaplaceCount gareportCount gadeedCount (ga_ix gr_place (gi_in (n := 24) gx_443 (by decide))) (ga_ix gr_month (gi_in (n := 24) gx_443 (by decide))) (ga_ix gr_struck (gi_in (n := 24) gx_443 (by decide)))) (cwV 2 hts (gz_gV mGA_482 mGA_483 mGA_484 mGA_22 mGA_485 goodGA) rfl rfl rfl hdV_X1_verdictOn_X1_2 ⟨Nat.le_trans (Nat.le_of_ble_eq_true rfl) hRf, Nat.le_trans (Nat.le_of_ble_eq_true rfl) hRl⟩) ⟨bl_I (bl_a bl_sz (bl_a bl_P (bl_a bl_K (bl_a bl_c (bl_a bl_nz (bl_a bl_P bl_c)))))), va_recv hKc hPc (ci := 1) (q0 := 0) rfl rfl, fun U hU hW => ⟨rfl, by rw [hU], by rw [hU]; exact hPc, va_K.moved hW.alike hKc, hDc.weaken (fun _ _ _ _ => trivial), nzA_warm hW hz, by rw [hU]; exact hRc_, hRa_⟩⟩ rfl rfl hl.1 rfl (lv_room (Nat.le_of_ble_eq_true rfl)) (dk_at dkX1_judge 31 rfl) ⟨hRc, hRs⟩) hS (fun q _ h => hFc q h) hFc (fun r_444 u t H1 locs ht hvm hw hB hz1 hk1 hS => ?_)
        obtain ⟨hu_, hw⟩ := hw
        subst hu_
        obtain ⟨f_445, f_446, hB⟩ := hB
        obtain ⟨hE, hP1, hD1⟩ := hB
        rw [ht] at hP1
        obtain ⟨hP, hD⟩ := gz_back hP hD hk1 hFc hP1 hD1 [0, 5, 6, 7] rfl rfl
        obtain ⟨hP, hD⟩ := gz_both (w := [(h0, .inr (1, [.ref fr, .ref ve, .ref qu, .ref tu, .ref cb, .int w0_5, .int w0_6])), (ve, .inl (kve, 24, .inl z1)), (qu, .inl (kqu, 24, .inl z2)), (tu, .inl (ktu, 24, .inr (.inl z3))), (cb, .inl (kcb, 25, .inl fcb)), (fr, .inr (3, [.int w5_0, .int w5_1, .int w5_2, .ref fal, .ref fon])), (fal, .inl (kfal, 25, .inl f_445)), (fon, .inl (kfon, 275, .inl f_446))]) hP hD
        have hF := gf_call (a := (r_444, f_445, f_446)) (by rw [ex_443] at hE; exact hE) hF
        generalize H1 = H at hP hS ⊢
        have gr_444 : gi r_444 0 2 := hw
        refine va_iast hx hb hK hP hD hS 1 0 rfl rfl (gi_in gx_443 (by decide)) (dk_at dkX1_judge 32 rfl) (fun H locs hP hD hS => ?_)
        obtain ⟨hP, hD⟩ := gz_both (w := [(h0, .inr (1, [.ref fr, .ref ve, .ref qu, .ref tu, .ref cb, .int w0_5, .int w0_6])), (ve, .inl (kve, 24, .inl (upd z1 (x_443 : Int32).toNatClampNeg r_444))), (qu, .inl (kqu, 24, .inl z2)), (tu, .inl (ktu, 24, .inr (.inl z3))), (cb, .inl (kcb, 25, .inl fcb)), (fr, .inr (3, [.int w5_0, .int w5_1, .int w5_2, .ref fal, .ref fon])), (fal, .inl (kfal, 25, .inl f_445)), (fon, .inl (kfon, 275, .inl f_446))]) hP hD
        generalize ef_447 : upd z1 (x_443 : Int32).toNatClampNeg r_444 = f_447 at hP hD
        refine lv_aload_n hx hb (dk_at dkX1_judge 33 rfl) rfl (lv_at hl 1 rfl) ?_
        refine va_get (D := (dC, dI)) (ci := 1) (v := .ref ve) (C := RX1) (T := TX1) (N := 7) hx hb hts (fun w h => List.mem_cons_of_mem _ (jnGA_X1 w h)) hown hK hP 0 rfl rfl 1 (by decide) (hts _ (List.mem_cons_of_mem _ mGA_101)) (fun _ h9 => h9) rfl (dk_at dkX1_judge 34 rfl) ?_
        refine lv_iload hx hb (dk_at dkX1_judge 35 rfl) (lv_at hl 0 rfl) ?_
        refine va_iald hx hb hK hP 1 0 rfl rfl (gi_in gx_443 (by decide)) (dk_at dkX1_judge 36 rfl) ?_
        refine lv_topi (fun x_448 ex_448 => ?_)
        refine lv_if_ne (tgt := 79) hx hb (dk_at dkX1_judge 37 rfl) (by decide) (fun c_449 => ?_) (fun c_449 => ?_)
        · have hF := gf_neg (by rw [ex_448, ← ef_447, ex_443] at c_449; exact c_449) hF
          obtain ⟨x_450, ex_450⟩ : ∃ y : Int32, y = v3 + 1 := ⟨_, rfl⟩
          have gx_450 : gi x_450 1 24 := gi_add ex_450 g_441 (gi_c 1 1 (by decide)) (by decide)
          refine lv_iinc (v := x_450) (lv' := [(3, .int x_450), (4, .int x_443), (0, .ref h0), (1, .ref am), (2, .int p2)]) hx hb (dk_at dkX1_judge 46 rfl) hl (k := 4) rfl (by rw [ex_450]; rfl) (by decide) rfl (fun ls hl => ?_)
          refine lv_goto (tgt := 21) hx hb (dk_at dkX1_judge 47 rfl) (by decide) ?_
          exact ih x_450 w0_5 w0_6 w5_0 w5_1 w5_2 f_447 z2 z3 f_445 f_446 _ _ _ (gi_w gx_450 (by decide)) (gi_w g_442 (by decide)) gw5_0 gw5_1 gw5_2 gz2 (by first | (rw [ex_450, ← ef_447, ex_443]; exact hF) | ((try rw [ex_450]); (try rw [← ef_447]); (try rw [ex_443]); exact hF)) (by have av3 := gv3.1; have bv3 := gv3.2; have qgx_450 := gx_450.1; have rgx_450 := gx_450.2; have igx_450 : x_450.toInt = v3.toInt + 1 := (by have hc1 : (1 : Int32).toInt = 1 := (by decide); have h9 := gi_addE ex_450 g_441 (gi_c 1 1 (by decide)) (by decide); rw [hc1] at h9; exact h9); have qgv3 := g_441.1; have rgv3 := g_441.2; omega) hP hD hS (lv_sub hl [2, 3, 4, 0] rfl)
        · have hF := gf_pos (by rw [ex_448, ← ef_447, ex_443] at c_449; exact c_449) hF
          have g_451 : gi x_448 0 0 := gi_eq c_449 (gi_c 0 0 (by decide))
          refine lv_aload_n hx hb (dk_at dkX1_judge 38 rfl) rfl (lv_at hl 1 rfl) ?_
          refine lv_dup hx hb (dk_at dkX1_judge 39 rfl) rfl ?_
          refine va_get (D := (dC, dI)) (ci := 1) (v := .int w0_6) (C := RX1) (T := TX1) (N := 7) hx hb hts (fun w h => List.mem_cons_of_mem _ (jnGA_X1 w h)) hown hK hP 0 rfl rfl 6 (by decide) (hts _ (List.mem_cons_of_mem _ mGA_107)) (fun _ h9 => h9) rfl (dk_at dkX1_judge 40 rfl) ?_
          refine lv_iconst (v := 1) hx hb (dk_at dkX1_judge 41 rfl) (by decide) ?_
          refine lv_iload hx hb (dk_at dkX1_judge 42 rfl) (lv_at hl 0 rfl) ?_
          refine lv_ishl hx hb (dk_at dkX1_judge 43 rfl) ?_
          refine lv_topi (fun x_452 ex_452 => ?_)
          refine lv_ior hx hb (dk_at dkX1_judge 44 rfl) ?_
          refine lv_topi (fun x_453 ex_453 => ?_)
          refine va_put (D := (dC, dI)) (ci := 1) (v := .int x_453) (ty := .int) (C := RX1) (T := TX1) (N := 7) hx hb hts (fun w h => List.mem_cons_of_mem _ (jnGA_X1 w h)) tyX1 tyX1_ok nmX1 hown hK hP hD hS 0 rfl rfl 6 (by decide) (hts _ (List.mem_cons_of_mem _ mGA_107)) (fun _ h9 => h9) rfl fdX1_6 rfl rfl (Nat.le_of_ble_eq_true rfl) (dk_at dkX1_judge 45 rfl) (fun H locs hP hD hS => ?_)
          obtain ⟨hP, hD⟩ := gz_both (w := [(h0, .inr (1, [.ref fr, .ref ve, .ref qu, .ref tu, .ref cb, .int w0_5, .int x_453])), (ve, .inl (kve, 24, .inl f_447)), (qu, .inl (kqu, 24, .inl z2)), (tu, .inl (ktu, 24, .inr (.inl z3))), (cb, .inl (kcb, 25, .inl fcb)), (fr, .inr (3, [.int w5_0, .int w5_1, .int w5_2, .ref fal, .ref fon])), (fal, .inl (kfal, 25, .inl f_445)), (fon, .inl (kfon, 275, .inl f_446))]) hP hD
          obtain ⟨x_454, ex_454⟩ : ∃ y : Int32, y = v3 + 1 := ⟨_, rfl⟩
          have gx_454 : gi x_454 1 24 := gi_add ex_454 g_441 (gi_c 1 1 (by decide)) (by decide)
          refine lv_iinc (v := x_454) (lv' := [(3, .int x_454), (4, .int x_443), (0, .ref h0), (1, .ref am), (2, .int p2)]) hx hb (dk_at dkX1_judge 46 rfl) hl (k := 4) rfl (by rw [ex_454]; rfl) (by decide) rfl (fun ls hl => ?_)
          refine lv_goto (tgt := 21) hx hb (dk_at dkX1_judge 47 rfl) (by decide) ?_
          exact ih x_454 w0_5 x_453 w5_0 w5_1 w5_2 f_447 z2 z3 f_445 f_446 _ _ _ (gi_w gx_454 (by decide)) (gi_w g_442 (by decide)) gw5_0 gw5_1 gw5_2 gz2 (by first | (rw [ex_454, ex_453, ex_452, ← ef_447, ex_443]; exact hF) | ((try rw [ex_454]); (try rw [ex_453]); (try rw [ex_452]); (try rw [← ef_447]); (try rw [ex_443]); exact hF)) (by have av3 := gv3.1; have bv3 := gv3.2; have qgx_454 := gx_454.1; have rgx_454 := gx_454.2; have igx_454 : x_454.toInt = v3.toInt + 1 := (by have hc1 : (1 : Int32).toInt = 1 := (by decide); have h9 := gi_addE ex_454 g_441 (gi_c 1 1 (by decide)) (by decide); rw [hc1] at h9; exact h9); have qgv3 := g_441.1; have rgv3 := g_441.2; omega) hP hD hS (lv_sub hl [2, 3, 4, 0] rfl)
abbrev pb_sX1_judge (dC : Nat → ClassId) (dI : Nat → Nat → Nat) (A9 : Nat → Prop) (h0 : Nat) (ve : Nat) (qu : Nat) (tu : Nat) (cb : Nat) (fr : Nat) (fal : Nat) (fon : Nat) (am : Nat) (pl : Nat) (re : Nat) (queueLength : Int32) (takenBits : Int32) (kve : ClassId) (fve : Nat → Int32) (kqu : ClassId) (fqu : Nat → Int32) (ktu : ClassId) (ftu : Nat → Int64) (kcb : ClassId) (fcb : Nat → Int32) (fmonths : Int32) (ffull : Int32) (flean : Int32) (kfal : ClassId) (ffal : Nat → Int32) (kfon : ClassId) (ffon : Nat → Int32) (amonths : Int32) (afull : Int32) (alean : Int32) (alines : Int32) (ahasMoon : Int32) (amoonStart : Int32) (amoonStep : Int32) (aplaceCount : Int32) (areportCount : Int32) (adeedCount : Int32) (de : Nat) (kpl : ClassId) (kre : ClassId) (pa : Nat → Nat) (p_name : Nat → Int32) (p_trust : Nat → Int32) (ra : Nat → Nat) (r_place : Nat → Int32) (r_kind : Nat → Int32) (r_month : Nat → Int32) (r_day : Nat → Int32) (r_known : Nat → Int32) (r_struck : Nat → Int32) (p2 : Int32) (w0_5 : Int32) (w0_6 : Int32) (w5_0 : Int32) (w5_1 : Int32) (w5_2 : Int32) (z1 : Nat → Int32) (z2 : Nat → Int32) (z3 : Nat → Int64) (z4 : Nat → Int32) (z6 : Nat → Int32) (z7 : Nat → Int32) (t : State) : Prop := gi w0_5 0 24 ∧ gi w5_0 0 24 ∧ gi w5_1 0 5 ∧ gi w5_2 0 5 ∧ ga z2 24 0 23 ∧ (w0_5, w0_6, w5_0, w5_1, w5_2, z1, z2, z3, z4, z6, z7) = fX1_judge fve fqu ftu fcb ffal ffon amonths afull alean ahasMoon amoonStart amoonStep areportCount p_name p_trust r_place r_kind r_month r_day r_known r_struck p2 ∧ va_P (dC, dI) vwCl [(h0, .inr (1, [.ref fr, .ref ve, .ref qu, .ref tu, .ref cb, .int w0_5, .int w0_6])), (ve, .inl (kve, 24, .inl z1)), (qu, .inl (kqu, 24, .inl z2)), (tu, .inl (ktu, 24, .inr (.inl z3))), (cb, .inl (kcb, 25, .inl z4)), (fr, .inr (3, [.int w5_0, .int w5_1, .int w5_2, .ref fal, .ref fon])), (fal, .inl (kfal, 25, .inl z6)), (fon, .inl (kfon, 275, .inl z7))] t.heap ∧ va_D A9 [(h0, .inr (1, [.ref fr, .ref ve, .ref qu, .ref tu, .ref cb, .int w0_5, .int w0_6])), (ve, .inl (kve, 24, .inl z1)), (qu, .inl (kqu, 24, .inl z2)), (tu, .inl (ktu, 24, .inr (.inl z3))), (cb, .inl (kcb, 25, .inl z4)), (fr, .inr (3, [.int w5_0, .int w5_1, .int w5_2, .ref fal, .ref fon])), (fal, .inl (kfal, 25, .inl z6)), (fon, .inl (kfon, 275, .inl z7))]
set_option maxHeartbeats 4000000 in
set_option maxRecDepth 100000 in
theorem sX1_judge (l : Launch) (dC : Nat → ClassId) (dI : Nat → Nat → Nat) (sz : Nat) (h0 : Nat) (ve : Nat) (qu : Nat) (tu : Nat) (cb : Nat) (fr : Nat) (fal : Nat) (fon : Nat) (am : Nat) (pl : Nat) (re : Nat) (queueLength : Int32) (takenBits : Int32) (kve : ClassId) (fve : Nat → Int32) (kqu : ClassId) (fqu : Nat → Int32) (ktu : ClassId) (ftu : Nat → Int64) (kcb : ClassId) (fcb : Nat → Int32) (fmonths : Int32) (ffull : Int32) (flean : Int32) (kfal : ClassId) (ffal : Nat → Int32) (kfon : ClassId) (ffon : Nat → Int32) (amonths : Int32) (afull : Int32) (alean : Int32) (alines : Int32) (ahasMoon : Int32) (amoonStart : Int32) (amoonStep : Int32) (aplaceCount : Int32) (areportCount : Int32) (adeedCount : Int32) (de : Nat) (kpl : ClassId) (kre : ClassId) (pa : Nat → Nat) (p_name : Nat → Int32) (p_trust : Nat → Int32) (ra : Nat → Nat) (r_place : Nat → Int32) (r_kind : Nat → Int32) (r_month : Nat → Int32) (r_day : Nat → Int32) (r_known : Nat → Int32) (r_struck : Nat → Int32) (p2 : Int32) (gqueueLength : gi queueLength 0 24) (gfqu : ga fqu 24 0 23) (gfmonths : gi fmonths 0 24) (gffull : gi ffull 0 5) (gflean : gi flean 0 5) (gamonths : gi amonths 0 24) (gafull : gi afull 0 5) (galean : gi alean 0 5) (gahasMoon : gi ahasMoon 0 1) (gaplaceCount : gi aplaceCount 0 6) (gareportCount : gi areportCount 0 24) (gadeedCount : gi adeedCount 0 8) (gr_place : ga r_place 24 0 5) (gr_month : ga r_month 24 0 23) (gr_struck : ga r_struck 24 0 1) : Met l yX1_judge (.code yX1_judge cX1_judge 5 none :: wsGA) ({ frames := 3, cells := 0, slots := 0, locals := 71 }) (va_Pc [.ref h0, .ref am, .int p2] (fun U => U.heap.size = sz ∧ va_P (dC, dI) vwCl [(h0, .inr (1, [.ref fr, .ref ve, .ref qu, .ref tu, .ref cb, .int queueLength, .int takenBits])), (ve, .inl (kve, 24, .inl fve)), (qu, .inl (kqu, 24, .inl fqu)), (tu, .inl (ktu, 24, .inr (.inl ftu))), (cb, .inl (kcb, 25, .inl fcb)), (fr, .inr (3, [.int fmonths, .int ffull, .int flean, .ref fal, .ref fon])), (fal, .inl (kfal, 25, .inl ffal)), (fon, .inl (kfon, 275, .inl ffon))] U.heap ∧ va_K (dC, dI) vwCl [(kve, .int), (kqu, .int), (ktu, .long), (kcb, .int), (kfal, .int), (kfon, .int), (kpl, .object RX5), (kre, .object RX7)] U ∧ va_D (fun _ => True) [(h0, .inr (1, [.ref fr, .ref ve, .ref qu, .ref tu, .ref cb, .int queueLength, .int takenBits])), (ve, .inl (kve, 24, .inl fve)), (qu, .inl (kqu, 24, .inl fqu)), (tu, .inl (ktu, 24, .inr (.inl ftu))), (cb, .inl (kcb, 25, .inl fcb)), (fr, .inr (3, [.int fmonths, .int ffull, .int flean, .ref fal, .ref fon])), (fal, .inl (kfal, 25, .inl ffal)), (fon, .inl (kfon, 275, .inl ffon))] ∧ nzA U ∧ va_P (dC, dI) vwCl [(am, .inr (0, [.int amonths, .int afull, .int alean, .int alines, .int ahasMoon, .int amoonStart, .int amoonStep, .int aplaceCount, .int areportCount, .int adeedCount, .ref pl, .ref re, .ref de])), (pl, .inl (kpl, 6, .inr (.inr (.inr (.inr (fun i => some (pa i))))))), (re, .inl (kre, 24, .inr (.inr (.inr (.inr (fun i => some (ra i)))))))] U.heap ∧ gz_ap (va_A [(h0, .inr (1, [.ref fr, .ref ve, .ref qu, .ref tu, .ref cb, .int queueLength, .int takenBits])), (ve, .inl (kve, 24, .inl fve)), (qu, .inl (kqu, 24, .inl fqu)), (tu, .inl (ktu, 24, .inr (.inl ftu))), (cb, .inl (kcb, 25, .inl fcb)), (fr, .inr (3, [.int fmonths, .int ffull, .int flean, .ref fal, .ref fon])), (fal, .inl (kfal, 25, .inl ffal)), (fon, .inl (kfon, 275, .inl ffon))] sz) [(am, .inr (0, [.int amonths, .int afull, .int alean, .int alines, .int ahasMoon, .int amoonStart, .int amoonStep, .int aplaceCount, .int areportCount, .int adeedCount, .ref pl, .ref re, .ref de])), (pl, .inl (kpl, 6, .inr (.inr (.inr (.inr (fun i => some (pa i))))))), (re, .inl (kre, 24, .inr (.inr (.inr (.inr (fun i => some (ra i)))))))] ∧ va_P (dC, dI) vwCl (gz_fam 6 pa 5 (fun i => [.int (p_name i), .int (p_trust i)])) U.heap ∧ gz_ap (va_A [(h0, .inr (1, [.ref fr, .ref ve, .ref qu, .ref tu, .ref cb, .int queueLength, .int takenBits])), (ve, .inl (kve, 24, .inl fve)), (qu, .inl (kqu, 24, .inl fqu)), (tu, .inl (ktu, 24, .inr (.inl ftu))), (cb, .inl (kcb, 25, .inl fcb)), (fr, .inr (3, [.int fmonths, .int ffull, .int flean, .ref fal, .ref fon])), (fal, .inl (kfal, 25, .inl ffal)), (fon, .inl (kfon, 275, .inl ffon))] sz) (gz_fam 6 pa 5 (fun i => [.int (p_name i), .int (p_trust i)])) ∧ va_P (dC, dI) vwCl (gz_fam 24 ra 7 (fun i => [.int (r_place i), .int (r_kind i), .int (r_month i), .int (r_day i), .int (r_known i), .int (r_struck i)])) U.heap ∧ gz_ap (va_A [(h0, .inr (1, [.ref fr, .ref ve, .ref qu, .ref tu, .ref cb, .int queueLength, .int takenBits])), (ve, .inl (kve, 24, .inl fve)), (qu, .inl (kqu, 24, .inl fqu)), (tu, .inl (ktu, 24, .inr (.inl ftu))), (cb, .inl (kcb, 25, .inl fcb)), (fr, .inr (3, [.int fmonths, .int ffull, .int flean, .ref fal, .ref fon])), (fal, .inl (kfal, 25, .inl ffal)), (fon, .inl (kfon, 275, .inl ffon))] sz) (gz_fam 24 ra 7 (fun i => [.int (r_place i), .int (r_kind i), .int (r_month i), .int (r_day i), .int (r_known i), .int (r_struck i)])))) (va_Qv (fun (u : Unit) => True) (fun _ t => ∃ (w0_5 : Int32) (w0_6 : Int32) (w5_0 : Int32) (w5_1 : Int32) (w5_2 : Int32) (z1 : Nat → Int32) (z2 : Nat → Int32) (z3 : Nat → Int64) (z4 : Nat → Int32) (z6 : Nat → Int32) (z7 : Nat → Int32), pb_sX1_judge dC dI (va_A [(h0, .inr (1, [.ref fr, .ref ve, .ref qu, .ref tu, .ref cb, .int queueLength, .int takenBits])), (ve, .inl (kve, 24, .inl fve)), (qu, .inl (kqu, 24, .inl fqu)), (tu, .inl (ktu, 24, .inr (.inl ftu))), (cb, .inl (kcb, 25, .inl fcb)), (fr, .inr (3, [.int fmonths, .int ffull, .int flean, .ref fal, .ref fon])), (fal, .inl (kfal, 25, .inl ffal)), (fon, .inl (kfon, 275, .inl ffon))] sz) h0 ve qu tu cb fr fal fon am pl re queueLength takenBits kve fve kqu fqu ktu ftu kcb fcb fmonths ffull flean kfal ffal kfon ffon amonths afull alean alines ahasMoon amoonStart amoonStep aplaceCount areportCount adeedCount de kpl kre pa p_name p_trust ra r_place r_kind r_month r_day r_known r_struck p2 w0_5 w0_6 w5_0 w5_1 w5_2 z1 z2 z3 z4 z6 z7 t) (va_A [(h0, .inr (1, [.ref fr, .ref ve, .ref qu, .ref tu, .ref cb, .int queueLength, .int takenBits])), (ve, .inl (kve, 24, .inl fve)), (qu, .inl (kqu, 24, .inl fqu)), (tu, .inl (ktu, 24, .inr (.inl ftu))), (cb, .inl (kcb, 25, .inl fcb)), (fr, .inr (3, [.int fmonths, .int ffull, .int flean, .ref fal, .ref fon])), (fal, .inl (kfal, 25, .inl ffal)), (fon, .inl (kfon, 275, .inl ffon))] sz)) 0 0 (va_A [(h0, .inr (1, [.ref fr, .ref ve, .ref qu, .ref tu, .ref cb, .int queueLength, .int takenBits])), (ve, .inl (kve, 24, .inl fve)), (qu, .inl (kqu, 24, .inl fqu)), (tu, .inl (ktu, 24, .inr (.inl ftu))), (cb, .inl (kcb, 25, .inl fcb)), (fr, .inr (3, [.int fmonths, .int ffull, .int flean, .ref fal, .ref fon])), (fal, .inl (kfal, 25, .inl ffal)), (fon, .inl (kfon, 275, .inl ffon))] sz) := by
  refine Met.ofW (cc := cX1_judge) (maxL := 5) (ret := none) (by decide) rfl ?_
  intro p e s m args below meth c s₁ B hml hv
  obtain ⟨rfl, hsz, hP, hK, hD0, hz, hR, hRA, hF0, hFA0, hF1, hFA1⟩ := hv
  have hx := B.exec
  have hb := B.bytes
  have hr := B.returns
  have hts := atoms_spec (ws := (.code yX1_judge cX1_judge 5 none :: wsGA)) B.pre
  have hown : s.vm.findClass RX1 = some m.cls := findClass_of_methodNamed B.named
  have hlocks := B.notSynchronized
  subst hsz
  have hD := hD0.self (sz := s.heap.size)
  generalize hAe : va_A [(h0, .inr (1, [.ref fr, .ref ve, .ref qu, .ref tu, .ref cb, .int queueLength, .int takenBits])), (ve, .inl (kve, 24, .inl fve)), (qu, .inl (kqu, 24, .inl fqu)), (tu, .inl (ktu, 24, .inr (.inl ftu))), (cb, .inl (kcb, 25, .inl fcb)), (fr, .inr (3, [.int fmonths, .int ffull, .int flean, .ref fal, .ref fon])), (fal, .inl (kfal, 25, .inl ffal)), (fon, .inl (kfon, 275, .inl ffon))] s.heap.size = A at hD hRA hFA0 hFA1 ⊢
  have hA : ∀ q : Nat, s.heap.size ≤ q → A q := fun q h => by rw [← hAe]; exact Or.inr h
  have hS : va_S A s.heap s.heap [] := va_S.rf
  have hl := lv_entry ([.ref h0, .ref am, .int p2]) (n := 5) (Nat.le_of_ble_eq_true rfl)
  rw [lg_entry_eq]
  generalize (lg_sl ([.ref h0, .ref am, .int p2]) ++ List.replicate (5 - (lg_sl ([.ref h0, .ref am, .int p2])).length) Slot.unset).toArray = ls at hl ⊢
  have hl : lv_has ls 5 [(0, .ref h0), (1, .ref am), (2, .int p2)] := hl
  obtain ⟨RES, hF⟩ : ∃ R9, fX1_judge fve fqu ftu fcb ffal ffon amonths afull alean ahasMoon amoonStart amoonStep areportCount p_name p_trust r_place r_kind r_month r_day r_known r_struck p2 = R9 := ⟨_, rfl⟩
  have hR9 := hF
  refine lv_aload_n hx hb (dk_at dkX1_judge 0 rfl) rfl (lv_at hl 0 rfl) ?_
  refine lv_aload_n hx hb (dk_at dkX1_judge 1 rfl) rfl (lv_at hl 1 rfl) ?_
  refine lv_iload_n hx hb (dk_at dkX1_judge 2 rfl) rfl (lv_at hl 2 rfl) ?_
  obtain ⟨hPc, hDc, hFc⟩ := gz_cut (wc := [(h0, .inr (1, [.ref fr, .ref ve, .ref qu, .ref tu, .ref cb, .int queueLength, .int takenBits])), (ve, .inl (kve, 24, .inl fve)), (qu, .inl (kqu, 24, .inl fqu)), (tu, .inl (ktu, 24, .inr (.inl ftu)))]) hP hD hS hA [0, 1, 2, 3] (by decide) rfl
  have hKc := hK.sub (tys' := [(kve, .int), (kqu, .int), (ktu, .long), (kpl, .object RX5), (kre, .object RX7)]) [0, 1, 2, 6, 7] rfl
  refine va_callv (va_runV (As := [.ref am, .int p2]) (rest := []) ⟨hx, hb, hml, hown, hts⟩ (sX1_lineUp l dC dI s.heap.size h0 ve qu tu am pl re fr cb queueLength takenBits kve fve kqu fqu ktu ftu amonths afull alean alines ahasMoon amoonStart amoonStep aplaceCount areportCount adeedCount de kpl kre pa p_name p_trust ra r_place r_kind r_month r_day r_known r_struck p2 gqueueLength gfqu gamonths gafull galean gahasMoon gaplaceCount gareportCount gadeedCount gr_place gr_month gr_struck) (cwV 2 hts (gz_gV mGA_448 mGA_449 mGA_450 mGA_22 mGA_451 goodGA) rfl rfl rfl hdV_X1_lineUp_X1_2 ⟨Nat.le_of_ble_eq_true rfl, Nat.le_of_ble_eq_true rfl⟩) ⟨bl_I (bl_a bl_sz (bl_a bl_P (bl_a bl_K (bl_a bl_c (bl_a bl_nz (bl_a bl_P (bl_a bl_c (bl_a bl_P (bl_a bl_c (bl_a bl_P bl_c)))))))))), va_recv hKc hPc (ci := 1) (q0 := 0) rfl rfl, fun U hU hW => ⟨rfl, by rw [hU], by rw [hU]; exact hPc, va_K.moved hW.alike hKc, hDc.weaken (fun _ _ _ _ => trivial), nzA_warm hW hz, by rw [hU]; exact gz_ro hR hRA hS, gz_apR hRA hFc, by rw [hU]; exact gz_ro hF0 hFA0 hS, gz_apR hFA0 hFc, by rw [hU]; exact gz_ro hF1 hFA1 hS, gz_apR hFA1 hFc⟩⟩ rfl rfl hl.1 rfl (lv_room (Nat.le_of_ble_eq_true rfl)) (dk_at dkX1_judge 3 rfl) ⟨Nat.zero_le _, Nat.zero_le _⟩) hS (fun q _ h => hFc q h) hFc (fun u t H1 locs ht hvm hw hB hz1 hk1 hS => ?_)
  obtain ⟨y_456, f_457, f_458, f_459, hB⟩ := hB
  obtain ⟨gy_456, gf_458, hE, hP1, hD1⟩ := hB
  rw [ht] at hP1
  obtain ⟨hP, hD⟩ := gz_back hP hD hk1 hFc hP1 hD1 [0, 1, 2, 3] rfl rfl
  obtain ⟨hP, hD⟩ := gz_both (w := [(h0, .inr (1, [.ref fr, .ref ve, .ref qu, .ref tu, .ref cb, .int y_456, .int takenBits])), (ve, .inl (kve, 24, .inl f_457)), (qu, .inl (kqu, 24, .inl f_458)), (tu, .inl (ktu, 24, .inr (.inl f_459))), (cb, .inl (kcb, 25, .inl fcb)), (fr, .inr (3, [.int fmonths, .int ffull, .int flean, .ref fal, .ref fon])), (fal, .inl (kfal, 25, .inl ffal)), (fon, .inl (kfon, 275, .inl ffon))]) hP hD
  have hF := gf_call (a := (y_456, f_457, f_458, f_459)) hE hF
  generalize H1 = H at hP hS ⊢
  refine lv_aload_n hx hb (dk_at dkX1_judge 4 rfl) rfl (lv_at hl 0 rfl) ?_
  refine va_get (D := (dC, dI)) (ci := 1) (v := .ref fr) (C := RX1) (T := TX1) (N := 7) hx hb hts (fun w h => List.mem_cons_of_mem _ (jnGA_X1 w h)) hown hK hP 0 rfl rfl 0 (by decide) (hts _ (List.mem_cons_of_mem _ mGA_100)) (fun _ h9 => h9) rfl (dk_at dkX1_judge 5 rfl) ?_
  refine lv_aload_n hx hb (dk_at dkX1_judge 6 rfl) rfl (lv_at hl 1 rfl) ?_
  obtain ⟨hPc, hDc, hFc⟩ := gz_cut (wc := [(fr, .inr (3, [.int fmonths, .int ffull, .int flean, .ref fal, .ref fon])), (fal, .inl (kfal, 25, .inl ffal))]) hP hD hS hA [5, 6] (by decide) rfl
  have hKc := hK.sub (tys' := [(kfal, .int)]) [4] rfl
  have hRc_ : va_P (dC, dI) vwCl [(am, .inr (0, [.int amonths, .int afull, .int alean, .int alines, .int ahasMoon, .int amoonStart, .int amoonStep, .int aplaceCount, .int areportCount, .int adeedCount, .ref pl, .ref re, .ref de]))] H := ((gz_ro hR hRA hS).sub [0] rfl)
  have hRa_ : gz_ap (va_A [(fr, .inr (3, [.int fmonths, .int ffull, .int flean, .ref fal, .ref fon])), (fal, .inl (kfal, 25, .inl ffal))] H.size) [(am, .inr (0, [.int amonths, .int afull, .int alean, .int alines, .int ahasMoon, .int amoonStart, .int amoonStep, .int aplaceCount, .int areportCount, .int adeedCount, .ref pl, .ref re, .ref de]))] := (gz_apR (gz_ap1 hRA 0 rfl) hFc)
  refine va_callv (va_runV (As := [.ref am]) (rest := []) ⟨hx, hb, hml, hown, hts⟩ (sX3_open l dC dI H.size fr fal am fmonths ffull flean fon kfal ffal amonths afull alean alines ahasMoon amoonStart amoonStep aplaceCount areportCount adeedCount pl re de gfmonths gffull gflean gamonths gafull galean gahasMoon gaplaceCount gareportCount gadeedCount) (cwV 1 hts (gz_gV mGA_472 mGA_473 mGA_474 mGA_18 mGA_475 goodGA) rfl rfl rfl hdV_X3_open_X3_1 ⟨Nat.le_of_ble_eq_true rfl, Nat.le_of_ble_eq_true rfl⟩) ⟨bl_I (bl_a bl_sz (bl_a bl_P (bl_a bl_K (bl_a bl_c (bl_a bl_nz (bl_a bl_P bl_c)))))), va_recv hKc hPc (ci := 3) (q0 := 0) rfl rfl, fun U hU hW => ⟨rfl, by rw [hU], by rw [hU]; exact hPc, va_K.moved hW.alike hKc, hDc.weaken (fun _ _ _ _ => trivial), nzA_warm hW hz, by rw [hU]; exact hRc_, hRa_⟩⟩ rfl rfl hl.1 rfl (lv_room (Nat.le_of_ble_eq_true rfl)) (dk_at dkX1_judge 7 rfl) ⟨Nat.zero_le _, Nat.zero_le _⟩) hS (fun q _ h => hFc q h) hFc (fun u t H1 locs ht hvm hw hB hz1 hk1 hS => ?_)
  obtain ⟨y_461, y_462, y_463, f_464, hB⟩ := hB
  obtain ⟨gy_461, gy_462, gy_463, hE, hP1, hD1⟩ := hB
  rw [ht] at hP1
  obtain ⟨hP, hD⟩ := gz_back hP hD hk1 hFc hP1 hD1 [5, 6] rfl rfl
  obtain ⟨hP, hD⟩ := gz_both (w := [(h0, .inr (1, [.ref fr, .ref ve, .ref qu, .ref tu, .ref cb, .int y_456, .int takenBits])), (ve, .inl (kve, 24, .inl f_457)), (qu, .inl (kqu, 24, .inl f_458)), (tu, .inl (ktu, 24, .inr (.inl f_459))), (cb, .inl (kcb, 25, .inl fcb)), (fr, .inr (3, [.int y_461, .int y_462, .int y_463, .ref fal, .ref fon])), (fal, .inl (kfal, 25, .inl f_464)), (fon, .inl (kfon, 275, .inl ffon))]) hP hD
  have hF := gf_call (a := (y_461, y_462, y_463, f_464)) hE hF
  generalize H1 = H at hP hS ⊢
  refine lv_aload_n hx hb (dk_at dkX1_judge 8 rfl) rfl (lv_at hl 0 rfl) ?_
  refine lv_iconst (v := 0) hx hb (dk_at dkX1_judge 9 rfl) (by decide) ?_
  refine va_put (D := (dC, dI)) (ci := 1) (v := .int 0) (ty := .int) (C := RX1) (T := TX1) (N := 7) hx hb hts (fun w h => List.mem_cons_of_mem _ (jnGA_X1 w h)) tyX1 tyX1_ok nmX1 hown hK hP hD hS 0 rfl rfl 6 (by decide) (hts _ (List.mem_cons_of_mem _ mGA_107)) (fun _ h9 => h9) rfl fdX1_6 rfl rfl (Nat.le_of_ble_eq_true rfl) (dk_at dkX1_judge 10 rfl) (fun H locs hP hD hS => ?_)
  obtain ⟨hP, hD⟩ := gz_both (w := [(h0, .inr (1, [.ref fr, .ref ve, .ref qu, .ref tu, .ref cb, .int y_456, .int 0])), (ve, .inl (kve, 24, .inl f_457)), (qu, .inl (kqu, 24, .inl f_458)), (tu, .inl (ktu, 24, .inr (.inl f_459))), (cb, .inl (kcb, 25, .inl fcb)), (fr, .inr (3, [.int y_461, .int y_462, .int y_463, .ref fal, .ref fon])), (fal, .inl (kfal, 25, .inl f_464)), (fon, .inl (kfon, 275, .inl ffon))]) hP hD
  refine lv_iconst (v := 0) hx hb (dk_at dkX1_judge 11 rfl) (by decide) ?_
  refine lv_istore_n (lv' := [(3, .int 0), (0, .ref h0), (1, .ref am), (2, .int p2)]) hx hb (dk_at dkX1_judge 12 rfl) rfl hl (by decide) rfl (fun ls hl => ?_)
  refine (lp_sX1_judge h0 ve qu tu cb fr fal fon am pl re queueLength takenBits kve fve kqu fqu ktu ftu kcb fcb fmonths ffull flean kfal ffal kfon ffon amonths afull alean alines ahasMoon amoonStart amoonStep aplaceCount areportCount adeedCount de kpl kre pa p_name p_trust ra r_place r_kind r_month r_day r_known r_struck p2 gqueueLength gfqu gfmonths gffull gflean gamonths gafull galean gahasMoon gaplaceCount gareportCount gadeedCount gr_place gr_month gr_struck hx hb hml hown hts hK hz hR hRA hF0 hFA0 hF1 hFA1 hA (Nat.le_of_ble_eq_true rfl) (Nat.le_of_ble_eq_true rfl) (Nat.zero_le _) (Nat.zero_le _) (fun w0_5 w0_6 w5_0 w5_1 w5_2 z1 z2 z3 z4 z6 z7 H locs ls gw0_5 gw5_0 gw5_1 gw5_2 gz2 hF hP hD hS hl => ?_) 1000000000) 0 y_456 0 y_461 y_462 y_463 f_457 f_458 f_459 f_464 ffon _ _ _ (gi_w (gi_c 0 0 (by decide)) (by decide)) gy_456 gy_461 gy_462 gy_463 gf_458 hF (by have k0 : (0 : Int32).toInt = 0 := (by decide); omega) hP hD hS (lv_sub hl [1, 2, 3, 0] rfl)
  · skip
    exact W.vret hx hb hr (fun t ht hW => ⟨⟨(), rfl, trivial, w0_5, w0_6, w5_0, w5_1, w5_2, z1, z2, z3, z4, z6, z7, gw0_5, gw5_0, gw5_1, gw5_2, gz2, hF.trans hR9.symm, by rw [ht]; exact hP, hD⟩, hS.F ht⟩) hS.2.2 (dk_at dkX1_judge 57 rfl)
abbrev fsMM (mi : Nat → Int32) (mr : Nat → Nat) : List Value := [.int (mi 0), .int (mi 1), .int (mi 2), .int (mi 3), .int (mi 4), .int (mi 5), .int (mi 6), .int (mi 7), .ref (mr 0), .ref (mr 1), .int (mi 10), .ref (mr 2), .ref (mr 3), .ref (mr 4), .ref (mr 5), .ref (mr 6), .ref (mr 7), .int (mi 17), .ref (mr 8), .ref (mr 9), .ref (mr 10), .ref (mr 11), .ref (mr 12), .int (mi 23), .int (mi 24), .ref (mr 13), .int (mi 26), .int (mi 27), .int (mi 28), .int (mi 29), .int (mi 30), .int (mi 31), .int (mi 32), .int (mi 33), .ref (mr 14), .ref (mr 15), .ref (mr 16), .int (mi 37), .ref (mr 17), .ref (mr 18), .ref (mr 19), .int (mi 41), .int (mi 42), .int (mi 43), .int (mi 44), .int (mi 45), .ref (mr 20), .int (mi 47), .int (mi 48), .int (mi 49), .int (mi 50), .int (mi 51), .ref (mr 21), .ref (mr 22), .int (mi 54), .ref (mr 23), .int (mi 56)]
abbrev MWn (hm : Nat) (mr : Nat → Nat) (km : Nat → ClassId) (i0 i1 i2 i3 i4 i5 i6 i7 i10 i17 i23 i24 i26 i27 i28 i29 i30 i31 i32 i33 i37 i41 i42 i43 i44 i45 i47 i48 i49 i50 i51 i54 i56 : Int32) (fm_trust fm_letter fm_reportPlace fm_reportKind fm_struck fm_reportMonth fm_reportDay fm_reportKnown fm_deedMonth fm_deedDay fm_deedLong fm_deedKind fm_kept fm_tape fm_must fm_least fm_pin fm_ways fm_verdict fm_row fm_official fm_aside fm_worth fm_out : Nat → Int32) : va_W := [(hm, .inr (12, [.int i0, .int i1, .int i2, .int i3, .int i4, .int i5, .int i6, .int i7, .ref (mr 0), .ref (mr 1), .int i10, .ref (mr 2), .ref (mr 3), .ref (mr 4), .ref (mr 5), .ref (mr 6), .ref (mr 7), .int i17, .ref (mr 8), .ref (mr 9), .ref (mr 10), .ref (mr 11), .ref (mr 12), .int i23, .int i24, .ref (mr 13), .int i26, .int i27, .int i28, .int i29, .int i30, .int i31, .int i32, .int i33, .ref (mr 14), .ref (mr 15), .ref (mr 16), .int i37, .ref (mr 17), .ref (mr 18), .ref (mr 19), .int i41, .int i42, .int i43, .int i44, .int i45, .ref (mr 20), .int i47, .int i48, .int i49, .int i50, .int i51, .ref (mr 21), .ref (mr 22), .int i54, .ref (mr 23), .int i56])), ((mr 0), .inl ((km 0), 6, .inl fm_trust)), ((mr 1), .inl ((km 1), 36, .inl fm_letter)), ((mr 2), .inl ((km 2), 24, .inl fm_reportPlace)), ((mr 3), .inl ((km 3), 24, .inl fm_reportKind)), ((mr 4), .inl ((km 4), 24, .inl fm_struck)), ((mr 5), .inl ((km 5), 24, .inl fm_reportMonth)), ((mr 6), .inl ((km 6), 24, .inl fm_reportDay)), ((mr 7), .inl ((km 7), 24, .inl fm_reportKnown)), ((mr 8), .inl ((km 8), 8, .inl fm_deedMonth)), ((mr 9), .inl ((km 9), 8, .inl fm_deedDay)), ((mr 10), .inl ((km 10), 8, .inl fm_deedLong)), ((mr 11), .inl ((km 11), 8, .inl fm_deedKind)), ((mr 12), .inl ((km 12), 300, .inl fm_kept)), ((mr 13), .inl ((km 13), 1600, .inl fm_tape)), ((mr 14), .inl ((km 14), 25, .inl fm_must)), ((mr 15), .inl ((km 15), 25, .inl fm_least)), ((mr 16), .inl ((km 16), 25, .inl fm_pin)), ((mr 17), .inl ((km 17), 6875, .inl fm_ways)), ((mr 18), .inl ((km 18), 24, .inl fm_verdict)), ((mr 19), .inl ((km 19), 24, .inl fm_row)), ((mr 20), .inl ((km 20), 25, .inl fm_official)), ((mr 21), .inl ((km 21), 25, .inl fm_aside)), ((mr 22), .inl ((km 22), 6875, .inl fm_worth)), ((mr 23), .inl ((km 23), 80, .inl fm_out))]
abbrev MT (km : Nat → ClassId) : List (ClassId × FieldType) := [((km 0), .int), ((km 1), .int), ((km 2), .int), ((km 3), .int), ((km 4), .boolean), ((km 5), .int), ((km 6), .int), ((km 7), .int), ((km 8), .int), ((km 9), .int), ((km 10), .int), ((km 11), .int), ((km 12), .int), ((km 13), .int), ((km 14), .int), ((km 15), .int), ((km 16), .int), ((km 17), .int), ((km 18), .int), ((km 19), .int), ((km 20), .int), ((km 21), .int), ((km 22), .int), ((km 23), .int)]
theorem mw_recv {s : State} {H : Heap} {dC : Nat → ClassId} {dI : Nat → Nat → Nat} {tys : List (ClassId × FieldType)} {hm : Nat} {mr : Nat → Nat} {km : Nat → ClassId} {i0 i1 i2 i3 i4 i5 i6 i7 i10 i17 i23 i24 i26 i27 i28 i29 i30 i31 i32 i33 i37 i41 i42 i43 i44 i45 i47 i48 i49 i50 i51 i54 i56 : Int32} {fm_trust fm_letter fm_reportPlace fm_reportKind fm_struck fm_reportMonth fm_reportDay fm_reportKnown fm_deedMonth fm_deedDay fm_deedLong fm_deedKind fm_kept fm_tape fm_must fm_least fm_pin fm_ways fm_verdict fm_row fm_official fm_aside fm_worth fm_out : Nat → Int32} (hK : va_K (dC, dI) vwCl tys s) (hP : va_P (dC, dI) vwCl (MWn hm mr km i0 i1 i2 i3 i4 i5 i6 i7 i10 i17 i23 i24 i26 i27 i28 i29 i30 i31 i32 i33 i37 i41 i42 i43 i44 i45 i47 i48 i49 i50 i51 i54 i56 fm_trust fm_letter fm_reportPlace fm_reportKind fm_struck fm_reportMonth fm_reportDay fm_reportKnown fm_deedMonth fm_deedDay fm_deedLong fm_deedKind fm_kept fm_tape fm_must fm_least fm_pin fm_ways fm_verdict fm_row fm_official fm_aside fm_worth fm_out) H) : ∃ cell : Cell, H[hm]? = some cell ∧ cell.vm.isStatics = false ∧ s.vm.findClass RX12 = some cell.cls := va_recv hK hP (ci := 12) (q0 := 0) rfl rfl
noncomputable def lsX12_in : List (Nat × Instr × Nat) := [(0, .lload_n 0, 1), (1, .lload_n 2, 1), (2, .lcmp, 1), (3, .ifCond .lt 14, 3), (6, .lload_n 0, 1), (7, .lload 4, 2), (9, .lcmp, 1), (10, .ifCond .gt 7, 3), (13, .iconst 1, 1), (14, .goto 4, 3), (17, .iconst 0, 1), (18, .ireturn, 1)]
theorem dkX12_in : dkAll cX12_in lsX12_in = true := dk_fast (by decide +kernel)
noncomputable def bfX12_in_18 (p0 : Int64) (p1 : Int64) (p2 : Int64) (s0 : Int32) : Int32 := s0
noncomputable def bfX12_in_17 (p0 : Int64) (p1 : Int64) (p2 : Int64) : Int32 := bfX12_in_18 p0 p1 p2 (0 : Int32)
noncomputable def fX12_in (p0 : Int64) (p1 : Int64) (p2 : Int64) : Int32 := if (lg_cmp p0 p1) < (0 : Int32) then (bfX12_in_17 p0 p1 p2) else (if (0 : Int32) < (lg_cmp p0 p2) then (bfX12_in_17 p0 p1 p2) else (bfX12_in_18 p0 p1 p2 (1 : Int32)))
set_option maxHeartbeats 4000000 in
set_option maxRecDepth 100000 in
theorem sX12_in (l : Launch) (dC : Nat → ClassId) (dI : Nat → Nat → Nat) (p0 : Int64) (p1 : Int64) (p2 : Int64)  : Met l yX12_in (.code yX12_in cX12_in 6 (some .boolean) :: wsGB) ({ frames := 0, cells := 0, slots := 0, locals := 0 }) (va_Pc [.long p0, .long p1, .long p2] (fun U => va_P (dC, dI) vwCl [] U.heap ∧ va_K (dC, dI) vwCl [] U)) (va_Qi (fun (r : Int32) (u : Unit) => (gi r 0 1 ∧ (r.toInt = 1 → p1.toInt ≤ p0.toInt ∧ p0.toInt ≤ p2.toInt) ∧ (r.toInt = 0 → p0.toInt < p1.toInt ∨ p2.toInt < p0.toInt)) ∧ r = fX12_in p0 p1 p2) (fun _ _ => True) (fun _ => False)) 0 0 (fun _ => False) := by
  refine Met.ofW (cc := cX12_in) (maxL := 6) (ret := (some .boolean)) (by decide) rfl ?_
  intro p e s m args below meth c s₁ B hml hv
  obtain ⟨rfl, hP, hK⟩ := hv
  have hx := B.exec
  have hb := B.bytes
  have hr := B.returns
  have hts := atoms_spec (ws := (.code yX12_in cX12_in 6 (some .boolean) :: wsGB)) B.pre
  have hown : s.vm.findClass RX12 = some m.cls := findClass_of_methodNamed B.named
  have hlocks := B.notSynchronized
  have hS : va_S (fun _ => False) s.heap s.heap [] := va_S.rf
  have hl := lv_entry ([.long p0, .long p1, .long p2]) (n := 6) (Nat.le_of_ble_eq_true rfl)
  rw [lg_entry_eq]
  generalize (lg_sl ([.long p0, .long p1, .long p2]) ++ List.replicate (6 - (lg_sl ([.long p0, .long p1, .long p2])).length) Slot.unset).toArray = ls at hl ⊢
  have hl : lv_has ls 6 [(0, .long p0), (2, .long p1), (4, .long p2)] := hl
  obtain ⟨RES, hF⟩ : ∃ R9, fX12_in p0 p1 p2 = R9 := ⟨_, rfl⟩
  have hR9 := hF
  refine lv_lload_n hx hb (dk_at dkX12_in 0 rfl) rfl (lv_at hl 0 rfl) ?_
  refine lv_lload_n hx hb (dk_at dkX12_in 1 rfl) rfl (lv_at hl 1 rfl) ?_
  refine W.lcmp hx hb (dk_at dkX12_in 2 rfl) ?_
  refine lv_topi (fun x_9 ex_9 => ?_)
  refine lv_if_lt (tgt := 17) hx hb (dk_at dkX12_in 3 rfl) (by decide) (fun c_10 => ?_) (fun c_10 => ?_)
  · have hF := gf_pos (by rw [ex_9] at c_10; exact c_10) hF
    have g_11 : gi x_9 (-2147483648) (-1) := gi_lt_l c_10 (gi_any x_9) (gi_c 0 0 (by decide)) (by decide)
    refine lv_iconst (v := 0) hx hb (dk_at dkX12_in 10 rfl) (by decide) ?_
    exact W.zret (v := 0) hx hb hr (by decide) (fun t ht hW => ⟨⟨0, (), rfl, ⟨⟨(gi_w (gi_c 0 0 (by decide)) (by decide)), ⟨fun h => absurd h (by decide), fun _ => Or.inl (gz_llt (ex_9 ▸ c_10))⟩⟩, hF.trans hR9.symm⟩, trivial⟩, hS.F ht⟩) hS.2.2 (dk_at dkX12_in 11 rfl)
  · have hF := gf_neg (by rw [ex_9] at c_10; exact c_10) hF
    have g_12 : gi x_9 0 2147483647 := gi_le_r (Int32.not_lt.mp c_10) (gi_c 0 0 (by decide)) (gi_any x_9)
    refine lv_lload_n hx hb (dk_at dkX12_in 4 rfl) rfl (lv_at hl 0 rfl) ?_
    refine lv_lload hx hb (dk_at dkX12_in 5 rfl) (lv_at hl 2 rfl) ?_
    refine W.lcmp hx hb (dk_at dkX12_in 6 rfl) ?_
    refine lv_topi (fun x_13 ex_13 => ?_)
    refine lv_if_gt (tgt := 17) hx hb (dk_at dkX12_in 7 rfl) (by decide) (fun c_14 => ?_) (fun c_14 => ?_)
    · have hF := gf_pos (by rw [ex_13] at c_14; exact c_14) hF
      have g_15 : gi x_13 1 2147483647 := gi_lt_r c_14 (gi_c 0 0 (by decide)) (gi_any x_13) (by decide)
      refine lv_iconst (v := 0) hx hb (dk_at dkX12_in 10 rfl) (by decide) ?_
      exact W.zret (v := 0) hx hb hr (by decide) (fun t ht hW => ⟨⟨0, (), rfl, ⟨⟨(gi_w (gi_c 0 0 (by decide)) (by decide)), ⟨fun h => absurd h (by decide), fun _ => Or.inr (gz_lgt (ex_13 ▸ c_14))⟩⟩, hF.trans hR9.symm⟩, trivial⟩, hS.F ht⟩) hS.2.2 (dk_at dkX12_in 11 rfl)
    · have hF := gf_neg (by rw [ex_13] at c_14; exact c_14) hF
      have g_16 : gi x_13 (-2147483648) 0 := gi_le_l (Int32.not_lt.mp c_14) (gi_any x_13) (gi_c 0 0 (by decide))
      refine lv_iconst (v := 1) hx hb (dk_at dkX12_in 8 rfl) (by decide) ?_
      refine lv_goto (tgt := 18) hx hb (dk_at dkX12_in 9 rfl) (by decide) ?_
      exact W.zret (v := 1) hx hb hr (by decide) (fun t ht hW => ⟨⟨1, (), rfl, ⟨⟨(gi_w (gi_c 1 1 (by decide)) (by decide)), ⟨fun _ => ⟨(gz_lge (ex_9 ▸ c_10)), (gz_lle (ex_13 ▸ c_14))⟩, fun h => absurd h (by decide)⟩⟩, hF.trans hR9.symm⟩, trivial⟩, hS.F ht⟩) hS.2.2 (dk_at dkX12_in 11 rfl)
noncomputable def lsX12_isPlace : List (Nat × Instr × Nat) := [(0, .iload_n 1, 1), (1, .i2l, 1), (2, .lconst 0, 1), (3, .aload_n 0, 1), (4, .getfield 138, 3), (7, .iconst 1, 1), (8, .isub, 1), (9, .i2l, 1), (10, .invokestatic 102, 3), (13, .ireturn, 1)]
theorem dkX12_isPlace : dkAll cX12_isPlace lsX12_isPlace = true := dk_fast (by decide +kernel)
noncomputable def fX12_isPlace (mi : Nat → Int32) (p1 : Int32) : Int32 := cal (fun o1 => o1) (fX12_in (p1.toInt64) (0 : Int64) (((mi 7) - (1 : Int32)).toInt64))
set_option maxHeartbeats 4000000 in
set_option maxRecDepth 100000 in
theorem sX12_isPlace (l : Launch) (dC : Nat → ClassId) (dI : Nat → Nat → Nat) (h0 : Nat) (mi : Nat → Int32) (mr : Nat → Nat) (km : Nat → ClassId) (fm_trust : Nat → Int32) (fm_letter : Nat → Int32) (fm_reportPlace : Nat → Int32) (fm_reportKind : Nat → Int32) (fm_struck : Nat → Int32) (fm_reportMonth : Nat → Int32) (fm_reportDay : Nat → Int32) (fm_reportKnown : Nat → Int32) (fm_deedMonth : Nat → Int32) (fm_deedDay : Nat → Int32) (fm_deedLong : Nat → Int32) (fm_deedKind : Nat → Int32) (fm_kept : Nat → Int32) (fm_tape : Nat → Int32) (fm_must : Nat → Int32) (fm_least : Nat → Int32) (fm_pin : Nat → Int32) (fm_ways : Nat → Int32) (fm_verdict : Nat → Int32) (fm_row : Nat → Int32) (fm_official : Nat → Int32) (fm_aside : Nat → Int32) (fm_worth : Nat → Int32) (fm_out : Nat → Int32) (p1 : Int32) (gmi_0 : gi (mi 0) 0 24) (gmi_1 : gi (mi 1) 0 5) (gmi_2 : gi (mi 2) 0 5) (gmi_4 : gi (mi 4) 0 1) (gmi_7 : gi (mi 7) 0 6) (gmi_10 : gi (mi 10) 0 24) (gmi_17 : gi (mi 17) 0 8) (gmi_23 : gi (mi 23) 0 300) (gmi_24 : gi (mi 24) 0 1) (gmi_26 : gi (mi 26) 0 1600) (gmi_29 : gi (mi 29) 0 1600) (gmi_30 : gi (mi 30) 0 1600) (gmi_33 : gi (mi 33) 0 1) (gmi_37 : gi (mi 37) 0 1) (gmi_41 : gi (mi 41) 0 24) (gmi_50 : gi (mi 50) 0 1) (gmi_51 : gi (mi 51) 0 1) (gmi_56 : gi (mi 56) 0 80) : Met l yX12_isPlace (.code yX12_isPlace cX12_isPlace 2 (some .boolean) :: wsGB) ({ frames := 1, cells := 0, slots := 0, locals := 25 }) (va_Pc [.ref h0, .int p1] (fun U => va_P (dC, dI) vwCl (MWn h0 mr km (mi 0) (mi 1) (mi 2) (mi 3) (mi 4) (mi 5) (mi 6) (mi 7) (mi 10) (mi 17) (mi 23) (mi 24) (mi 26) (mi 27) (mi 28) (mi 29) (mi 30) (mi 31) (mi 32) (mi 33) (mi 37) (mi 41) (mi 42) (mi 43) (mi 44) (mi 45) (mi 47) (mi 48) (mi 49) (mi 50) (mi 51) (mi 54) (mi 56) fm_trust fm_letter fm_reportPlace fm_reportKind fm_struck fm_reportMonth fm_reportDay fm_reportKnown fm_deedMonth fm_deedDay fm_deedLong fm_deedKind fm_kept fm_tape fm_must fm_least fm_pin fm_ways fm_verdict fm_row fm_official fm_aside fm_worth fm_out) U.heap ∧ va_K (dC, dI) vwCl (MT km) U)) (va_Qi (fun (r : Int32) (u : Unit) => (gi r 0 1 ∧ (r.toInt = 1 → gi p1 0 5)) ∧ r = fX12_isPlace mi p1) (fun _ _ => True) (fun _ => False)) 0 0 (fun _ => False) := by
  refine Met.ofW (cc := cX12_isPlace) (maxL := 2) (ret := (some .boolean)) (by decide) rfl ?_
  intro p e s m args below meth c s₁ B hml hv
  obtain ⟨rfl, hP, hK⟩ := hv
  have hx := B.exec
  have hb := B.bytes
  have hr := B.returns
  have hts := atoms_spec (ws := (.code yX12_isPlace cX12_isPlace 2 (some .boolean) :: wsGB)) B.pre
  have hown : s.vm.findClass RX12 = some m.cls := findClass_of_methodNamed B.named
  have hlocks := B.notSynchronized
  have hS : va_S (fun _ => False) s.heap s.heap [] := va_S.rf
  have hl := lv_entry ([.ref h0, .int p1]) (n := 2) (Nat.le_of_ble_eq_true rfl)
  rw [lg_entry_eq]
  generalize (lg_sl ([.ref h0, .int p1]) ++ List.replicate (2 - (lg_sl ([.ref h0, .int p1])).length) Slot.unset).toArray = ls at hl ⊢
  have hl : lv_has ls 2 [(0, .ref h0), (1, .int p1)] := hl
  obtain ⟨RES, hF⟩ : ∃ R9, fX12_isPlace mi p1 = R9 := ⟨_, rfl⟩
  have hR9 := hF
  refine lv_iload_n hx hb (dk_at dkX12_isPlace 0 rfl) rfl (lv_at hl 1 rfl) ?_
  refine lv_i2l (v := (p1).toInt64) hx hb (dk_at dkX12_isPlace 1 rfl) rfl ?_
  refine lv_topl (fun l_5 el_5 => ?_)
  refine lv_lconst (v := 0) hx hb (dk_at dkX12_isPlace 2 rfl) (by decide) ?_
  refine lv_aload_n hx hb (dk_at dkX12_isPlace 3 rfl) rfl (lv_at hl 0 rfl) ?_
  refine va_get (D := (dC, dI)) (ci := 12) (v := .int (mi 7)) (C := RX12) (T := TX12) (N := 57) hx hb hts (fun w h => List.mem_cons_of_mem _ (jnGB_X12 w h)) hown hK hP 0 rfl rfl 7 (by decide) (hts _ (List.mem_cons_of_mem _ mGB_110)) (fun _ h9 => h9) rfl (dk_at dkX12_isPlace 4 rfl) ?_
  refine lv_iconst (v := 1) hx hb (dk_at dkX12_isPlace 5 rfl) (by decide) ?_
  refine lv_isub hx hb (dk_at dkX12_isPlace 6 rfl) ?_
  refine lv_topi (fun x_6 ex_6 => ?_)
  have gx_6 : gi x_6 (-1) 5 := gi_sub ex_6 gmi_7 (gi_c 1 1 (by decide)) (by decide)
  refine lv_i2l (v := (x_6).toInt64) hx hb (dk_at dkX12_isPlace 7 rfl) rfl ?_
  refine lv_topl (fun l_7 el_7 => ?_)
  have hPc := hP.sub (ws' := []) [] rfl
  have hKc := hK.sub (tys' := []) [] rfl
  refine va_calli (va_runS (As := [.long l_5, .long 0, .long l_7]) (rest := []) ⟨hx, hb, hml, hown, hts⟩ (sX12_in l dC dI l_5 0 l_7) (cwS 3 hts (gz_gS mGB_47 mGB_48 mGB_1 mGB_49 goodGB) rfl rfl rfl hdS_X12_in_X12_3 ⟨Nat.le_of_ble_eq_true rfl, Nat.le_of_ble_eq_true rfl⟩) ⟨bl_R, fun U hU hW => ⟨rfl, by rw [hU]; exact hPc, va_K.moved hW.alike hKc⟩⟩ rfl rfl hl.1 rfl (lv_room (Nat.le_of_ble_eq_true rfl)) (dk_at dkX12_isPlace 8 rfl) ⟨Nat.zero_le _, Nat.zero_le _⟩) hS (fun q _ h => h.elim) (fun q h => h.elim) (fun r_8 u t H1 locs ht hvm hw hB hz1 hk1 hS => ?_)
  obtain ⟨hw, hE⟩ := hw
  have hP := gz_keep hP hk1
  have hF := gf_call (a := r_8) (by rw [el_7, ex_6, el_5] at hE; exact hE) hF
  generalize H1 = H at hP hS ⊢
  have gr_8 : gi r_8 0 1 := hw.1
  have hqr_8 := hw.2
  exact W.zret (v := r_8) hx hb hr (gz_nb gr_8) (fun t ht hW => ⟨⟨r_8, (), rfl, ⟨⟨gr_8, (fun h1 => (gi_w (gz_inr (hqr_8.1 h1) el_5 (A := 0) (B := 5) (by decide) (gz_l2u el_7 gx_6)) (by decide)))⟩, hF.trans hR9.symm⟩, trivial⟩, hS.F ht⟩) hS.2.2 (dk_at dkX12_isPlace 9 rfl)
noncomputable def lsX12_isReport : List (Nat × Instr × Nat) := [(0, .iload_n 1, 1), (1, .i2l, 1), (2, .lconst 0, 1), (3, .aload_n 0, 1), (4, .getfield 141, 3), (7, .iconst 1, 1), (8, .isub, 1), (9, .i2l, 1), (10, .invokestatic 102, 3), (13, .ireturn, 1)]
theorem dkX12_isReport : dkAll cX12_isReport lsX12_isReport = true := dk_fast (by decide +kernel)
noncomputable def fX12_isReport (mi : Nat → Int32) (p1 : Int32) : Int32 := cal (fun o1 => o1) (fX12_in (p1.toInt64) (0 : Int64) (((mi 10) - (1 : Int32)).toInt64))
set_option maxHeartbeats 4000000 in
set_option maxRecDepth 100000 in
theorem sX12_isReport (l : Launch) (dC : Nat → ClassId) (dI : Nat → Nat → Nat) (h0 : Nat) (mi : Nat → Int32) (mr : Nat → Nat) (km : Nat → ClassId) (fm_trust : Nat → Int32) (fm_letter : Nat → Int32) (fm_reportPlace : Nat → Int32) (fm_reportKind : Nat → Int32) (fm_struck : Nat → Int32) (fm_reportMonth : Nat → Int32) (fm_reportDay : Nat → Int32) (fm_reportKnown : Nat → Int32) (fm_deedMonth : Nat → Int32) (fm_deedDay : Nat → Int32) (fm_deedLong : Nat → Int32) (fm_deedKind : Nat → Int32) (fm_kept : Nat → Int32) (fm_tape : Nat → Int32) (fm_must : Nat → Int32) (fm_least : Nat → Int32) (fm_pin : Nat → Int32) (fm_ways : Nat → Int32) (fm_verdict : Nat → Int32) (fm_row : Nat → Int32) (fm_official : Nat → Int32) (fm_aside : Nat → Int32) (fm_worth : Nat → Int32) (fm_out : Nat → Int32) (p1 : Int32) (gmi_0 : gi (mi 0) 0 24) (gmi_1 : gi (mi 1) 0 5) (gmi_2 : gi (mi 2) 0 5) (gmi_4 : gi (mi 4) 0 1) (gmi_7 : gi (mi 7) 0 6) (gmi_10 : gi (mi 10) 0 24) (gmi_17 : gi (mi 17) 0 8) (gmi_23 : gi (mi 23) 0 300) (gmi_24 : gi (mi 24) 0 1) (gmi_26 : gi (mi 26) 0 1600) (gmi_29 : gi (mi 29) 0 1600) (gmi_30 : gi (mi 30) 0 1600) (gmi_33 : gi (mi 33) 0 1) (gmi_37 : gi (mi 37) 0 1) (gmi_41 : gi (mi 41) 0 24) (gmi_50 : gi (mi 50) 0 1) (gmi_51 : gi (mi 51) 0 1) (gmi_56 : gi (mi 56) 0 80) : Met l yX12_isReport (.code yX12_isReport cX12_isReport 2 (some .boolean) :: wsGB) ({ frames := 1, cells := 0, slots := 0, locals := 25 }) (va_Pc [.ref h0, .int p1] (fun U => va_P (dC, dI) vwCl (MWn h0 mr km (mi 0) (mi 1) (mi 2) (mi 3) (mi 4) (mi 5) (mi 6) (mi 7) (mi 10) (mi 17) (mi 23) (mi 24) (mi 26) (mi 27) (mi 28) (mi 29) (mi 30) (mi 31) (mi 32) (mi 33) (mi 37) (mi 41) (mi 42) (mi 43) (mi 44) (mi 45) (mi 47) (mi 48) (mi 49) (mi 50) (mi 51) (mi 54) (mi 56) fm_trust fm_letter fm_reportPlace fm_reportKind fm_struck fm_reportMonth fm_reportDay fm_reportKnown fm_deedMonth fm_deedDay fm_deedLong fm_deedKind fm_kept fm_tape fm_must fm_least fm_pin fm_ways fm_verdict fm_row fm_official fm_aside fm_worth fm_out) U.heap ∧ va_K (dC, dI) vwCl (MT km) U)) (va_Qi (fun (r : Int32) (u : Unit) => (gi r 0 1 ∧ (r.toInt = 1 → gi p1 0 23)) ∧ r = fX12_isReport mi p1) (fun _ _ => True) (fun _ => False)) 0 0 (fun _ => False) := by
  refine Met.ofW (cc := cX12_isReport) (maxL := 2) (ret := (some .boolean)) (by decide) rfl ?_
  intro p e s m args below meth c s₁ B hml hv
  obtain ⟨rfl, hP, hK⟩ := hv
  have hx := B.exec
  have hb := B.bytes
  have hr := B.returns
  have hts := atoms_spec (ws := (.code yX12_isReport cX12_isReport 2 (some .boolean) :: wsGB)) B.pre
  have hown : s.vm.findClass RX12 = some m.cls := findClass_of_methodNamed B.named
  have hlocks := B.notSynchronized
  have hS : va_S (fun _ => False) s.heap s.heap [] := va_S.rf
  have hl := lv_entry ([.ref h0, .int p1]) (n := 2) (Nat.le_of_ble_eq_true rfl)
  rw [lg_entry_eq]
  generalize (lg_sl ([.ref h0, .int p1]) ++ List.replicate (2 - (lg_sl ([.ref h0, .int p1])).length) Slot.unset).toArray = ls at hl ⊢
  have hl : lv_has ls 2 [(0, .ref h0), (1, .int p1)] := hl
  obtain ⟨RES, hF⟩ : ∃ R9, fX12_isReport mi p1 = R9 := ⟨_, rfl⟩
  have hR9 := hF
  refine lv_iload_n hx hb (dk_at dkX12_isReport 0 rfl) rfl (lv_at hl 1 rfl) ?_
  refine lv_i2l (v := (p1).toInt64) hx hb (dk_at dkX12_isReport 1 rfl) rfl ?_
  refine lv_topl (fun l_5 el_5 => ?_)
  refine lv_lconst (v := 0) hx hb (dk_at dkX12_isReport 2 rfl) (by decide) ?_
  refine lv_aload_n hx hb (dk_at dkX12_isReport 3 rfl) rfl (lv_at hl 0 rfl) ?_
  refine va_get (D := (dC, dI)) (ci := 12) (v := .int (mi 10)) (C := RX12) (T := TX12) (N := 57) hx hb hts (fun w h => List.mem_cons_of_mem _ (jnGB_X12 w h)) hown hK hP 0 rfl rfl 10 (by decide) (hts _ (List.mem_cons_of_mem _ mGB_111)) (fun _ h9 => h9) rfl (dk_at dkX12_isReport 4 rfl) ?_
  refine lv_iconst (v := 1) hx hb (dk_at dkX12_isReport 5 rfl) (by decide) ?_
  refine lv_isub hx hb (dk_at dkX12_isReport 6 rfl) ?_
  refine lv_topi (fun x_6 ex_6 => ?_)
  have gx_6 : gi x_6 (-1) 23 := gi_sub ex_6 gmi_10 (gi_c 1 1 (by decide)) (by decide)
  refine lv_i2l (v := (x_6).toInt64) hx hb (dk_at dkX12_isReport 7 rfl) rfl ?_
  refine lv_topl (fun l_7 el_7 => ?_)
  have hPc := hP.sub (ws' := []) [] rfl
  have hKc := hK.sub (tys' := []) [] rfl
  refine va_calli (va_runS (As := [.long l_5, .long 0, .long l_7]) (rest := []) ⟨hx, hb, hml, hown, hts⟩ (sX12_in l dC dI l_5 0 l_7) (cwS 3 hts (gz_gS mGB_47 mGB_48 mGB_1 mGB_49 goodGB) rfl rfl rfl hdS_X12_in_X12_3 ⟨Nat.le_of_ble_eq_true rfl, Nat.le_of_ble_eq_true rfl⟩) ⟨bl_R, fun U hU hW => ⟨rfl, by rw [hU]; exact hPc, va_K.moved hW.alike hKc⟩⟩ rfl rfl hl.1 rfl (lv_room (Nat.le_of_ble_eq_true rfl)) (dk_at dkX12_isReport 8 rfl) ⟨Nat.zero_le _, Nat.zero_le _⟩) hS (fun q _ h => h.elim) (fun q h => h.elim) (fun r_8 u t H1 locs ht hvm hw hB hz1 hk1 hS => ?_)
  obtain ⟨hw, hE⟩ := hw
  have hP := gz_keep hP hk1
  have hF := gf_call (a := r_8) (by rw [el_7, ex_6, el_5] at hE; exact hE) hF
  generalize H1 = H at hP hS ⊢
  have gr_8 : gi r_8 0 1 := hw.1
  have hqr_8 := hw.2
  exact W.zret (v := r_8) hx hb hr (gz_nb gr_8) (fun t ht hW => ⟨⟨r_8, (), rfl, ⟨⟨gr_8, (fun h1 => (gi_w (gz_inr (hqr_8.1 h1) el_5 (A := 0) (B := 23) (by decide) (gz_l2u el_7 gx_6)) (by decide)))⟩, hF.trans hR9.symm⟩, trivial⟩, hS.F ht⟩) hS.2.2 (dk_at dkX12_isReport 9 rfl)
noncomputable def lsX12_isDeed : List (Nat × Instr × Nat) := [(0, .iload_n 1, 1), (1, .i2l, 1), (2, .lconst 0, 1), (3, .aload_n 0, 1), (4, .getfield 144, 3), (7, .iconst 1, 1), (8, .isub, 1), (9, .i2l, 1), (10, .invokestatic 102, 3), (13, .ireturn, 1)]
theorem dkX12_isDeed : dkAll cX12_isDeed lsX12_isDeed = true := dk_fast (by decide +kernel)
noncomputable def fX12_isDeed (mi : Nat → Int32) (p1 : Int32) : Int32 := cal (fun o1 => o1) (fX12_in (p1.toInt64) (0 : Int64) (((mi 17) - (1 : Int32)).toInt64))
set_option maxHeartbeats 4000000 in
set_option maxRecDepth 100000 in
theorem sX12_isDeed (l : Launch) (dC : Nat → ClassId) (dI : Nat → Nat → Nat) (h0 : Nat) (mi : Nat → Int32) (mr : Nat → Nat) (km : Nat → ClassId) (fm_trust : Nat → Int32) (fm_letter : Nat → Int32) (fm_reportPlace : Nat → Int32) (fm_reportKind : Nat → Int32) (fm_struck : Nat → Int32) (fm_reportMonth : Nat → Int32) (fm_reportDay : Nat → Int32) (fm_reportKnown : Nat → Int32) (fm_deedMonth : Nat → Int32) (fm_deedDay : Nat → Int32) (fm_deedLong : Nat → Int32) (fm_deedKind : Nat → Int32) (fm_kept : Nat → Int32) (fm_tape : Nat → Int32) (fm_must : Nat → Int32) (fm_least : Nat → Int32) (fm_pin : Nat → Int32) (fm_ways : Nat → Int32) (fm_verdict : Nat → Int32) (fm_row : Nat → Int32) (fm_official : Nat → Int32) (fm_aside : Nat → Int32) (fm_worth : Nat → Int32) (fm_out : Nat → Int32) (p1 : Int32) (gmi_0 : gi (mi 0) 0 24) (gmi_1 : gi (mi 1) 0 5) (gmi_2 : gi (mi 2) 0 5) (gmi_4 : gi (mi 4) 0 1) (gmi_7 : gi (mi 7) 0 6) (gmi_10 : gi (mi 10) 0 24) (gmi_17 : gi (mi 17) 0 8) (gmi_23 : gi (mi 23) 0 300) (gmi_24 : gi (mi 24) 0 1) (gmi_26 : gi (mi 26) 0 1600) (gmi_29 : gi (mi 29) 0 1600) (gmi_30 : gi (mi 30) 0 1600) (gmi_33 : gi (mi 33) 0 1) (gmi_37 : gi (mi 37) 0 1) (gmi_41 : gi (mi 41) 0 24) (gmi_50 : gi (mi 50) 0 1) (gmi_51 : gi (mi 51) 0 1) (gmi_56 : gi (mi 56) 0 80) : Met l yX12_isDeed (.code yX12_isDeed cX12_isDeed 2 (some .boolean) :: wsGB) ({ frames := 1, cells := 0, slots := 0, locals := 25 }) (va_Pc [.ref h0, .int p1] (fun U => va_P (dC, dI) vwCl (MWn h0 mr km (mi 0) (mi 1) (mi 2) (mi 3) (mi 4) (mi 5) (mi 6) (mi 7) (mi 10) (mi 17) (mi 23) (mi 24) (mi 26) (mi 27) (mi 28) (mi 29) (mi 30) (mi 31) (mi 32) (mi 33) (mi 37) (mi 41) (mi 42) (mi 43) (mi 44) (mi 45) (mi 47) (mi 48) (mi 49) (mi 50) (mi 51) (mi 54) (mi 56) fm_trust fm_letter fm_reportPlace fm_reportKind fm_struck fm_reportMonth fm_reportDay fm_reportKnown fm_deedMonth fm_deedDay fm_deedLong fm_deedKind fm_kept fm_tape fm_must fm_least fm_pin fm_ways fm_verdict fm_row fm_official fm_aside fm_worth fm_out) U.heap ∧ va_K (dC, dI) vwCl (MT km) U)) (va_Qi (fun (r : Int32) (u : Unit) => (gi r 0 1 ∧ (r.toInt = 1 → gi p1 0 7)) ∧ r = fX12_isDeed mi p1) (fun _ _ => True) (fun _ => False)) 0 0 (fun _ => False) := by
  refine Met.ofW (cc := cX12_isDeed) (maxL := 2) (ret := (some .boolean)) (by decide) rfl ?_
  intro p e s m args below meth c s₁ B hml hv
  obtain ⟨rfl, hP, hK⟩ := hv
  have hx := B.exec
  have hb := B.bytes
  have hr := B.returns
  have hts := atoms_spec (ws := (.code yX12_isDeed cX12_isDeed 2 (some .boolean) :: wsGB)) B.pre
  have hown : s.vm.findClass RX12 = some m.cls := findClass_of_methodNamed B.named
  have hlocks := B.notSynchronized
  have hS : va_S (fun _ => False) s.heap s.heap [] := va_S.rf
  have hl := lv_entry ([.ref h0, .int p1]) (n := 2) (Nat.le_of_ble_eq_true rfl)
  rw [lg_entry_eq]
  generalize (lg_sl ([.ref h0, .int p1]) ++ List.replicate (2 - (lg_sl ([.ref h0, .int p1])).length) Slot.unset).toArray = ls at hl ⊢
  have hl : lv_has ls 2 [(0, .ref h0), (1, .int p1)] := hl
  obtain ⟨RES, hF⟩ : ∃ R9, fX12_isDeed mi p1 = R9 := ⟨_, rfl⟩
  have hR9 := hF
  refine lv_iload_n hx hb (dk_at dkX12_isDeed 0 rfl) rfl (lv_at hl 1 rfl) ?_
  refine lv_i2l (v := (p1).toInt64) hx hb (dk_at dkX12_isDeed 1 rfl) rfl ?_
  refine lv_topl (fun l_5 el_5 => ?_)
  refine lv_lconst (v := 0) hx hb (dk_at dkX12_isDeed 2 rfl) (by decide) ?_
  refine lv_aload_n hx hb (dk_at dkX12_isDeed 3 rfl) rfl (lv_at hl 0 rfl) ?_
  refine va_get (D := (dC, dI)) (ci := 12) (v := .int (mi 17)) (C := RX12) (T := TX12) (N := 57) hx hb hts (fun w h => List.mem_cons_of_mem _ (jnGB_X12 w h)) hown hK hP 0 rfl rfl 17 (by decide) (hts _ (List.mem_cons_of_mem _ mGB_112)) (fun _ h9 => h9) rfl (dk_at dkX12_isDeed 4 rfl) ?_
  refine lv_iconst (v := 1) hx hb (dk_at dkX12_isDeed 5 rfl) (by decide) ?_
  refine lv_isub hx hb (dk_at dkX12_isDeed 6 rfl) ?_
  refine lv_topi (fun x_6 ex_6 => ?_)
  have gx_6 : gi x_6 (-1) 7 := gi_sub ex_6 gmi_17 (gi_c 1 1 (by decide)) (by decide)
  refine lv_i2l (v := (x_6).toInt64) hx hb (dk_at dkX12_isDeed 7 rfl) rfl ?_
  refine lv_topl (fun l_7 el_7 => ?_)
  have hPc := hP.sub (ws' := []) [] rfl
  have hKc := hK.sub (tys' := []) [] rfl
  refine va_calli (va_runS (As := [.long l_5, .long 0, .long l_7]) (rest := []) ⟨hx, hb, hml, hown, hts⟩ (sX12_in l dC dI l_5 0 l_7) (cwS 3 hts (gz_gS mGB_47 mGB_48 mGB_1 mGB_49 goodGB) rfl rfl rfl hdS_X12_in_X12_3 ⟨Nat.le_of_ble_eq_true rfl, Nat.le_of_ble_eq_true rfl⟩) ⟨bl_R, fun U hU hW => ⟨rfl, by rw [hU]; exact hPc, va_K.moved hW.alike hKc⟩⟩ rfl rfl hl.1 rfl (lv_room (Nat.le_of_ble_eq_true rfl)) (dk_at dkX12_isDeed 8 rfl) ⟨Nat.zero_le _, Nat.zero_le _⟩) hS (fun q _ h => h.elim) (fun q h => h.elim) (fun r_8 u t H1 locs ht hvm hw hB hz1 hk1 hS => ?_)
  obtain ⟨hw, hE⟩ := hw
  have hP := gz_keep hP hk1
  have hF := gf_call (a := r_8) (by rw [el_7, ex_6, el_5] at hE; exact hE) hF
  generalize H1 = H at hP hS ⊢
  have gr_8 : gi r_8 0 1 := hw.1
  have hqr_8 := hw.2
  exact W.zret (v := r_8) hx hb hr (gz_nb gr_8) (fun t ht hW => ⟨⟨r_8, (), rfl, ⟨⟨gr_8, (fun h1 => (gi_w (gz_inr (hqr_8.1 h1) el_5 (A := 0) (B := 7) (by decide) (gz_l2u el_7 gx_6)) (by decide)))⟩, hF.trans hR9.symm⟩, trivial⟩, hS.F ht⟩) hS.2.2 (dk_at dkX12_isDeed 9 rfl)
noncomputable def lsX12_isTime : List (Nat × Instr × Nat) := [(0, .aload_n 0, 1), (1, .getfield 126, 3), (4, .ifCond .le 19, 3), (7, .iload_n 1, 1), (8, .i2l, 1), (9, .lconst 0, 1), (10, .ldc2_w 292, 3), (13, .invokestatic 102, 3), (16, .ifCond .eq 7, 3), (19, .iconst 1, 1), (20, .goto 4, 3), (23, .iconst 0, 1), (24, .ireturn, 1)]
theorem dkX12_isTime : dkAll cX12_isTime lsX12_isTime = true := dk_fast (by decide +kernel)
noncomputable def bfX12_isTime_24 (mi : Nat → Int32) (p1 : Int32) (s0 : Int32) : Int32 := s0
noncomputable def bfX12_isTime_23 (mi : Nat → Int32) (p1 : Int32) : Int32 := bfX12_isTime_24 mi p1 (0 : Int32)
noncomputable def fX12_isTime (mi : Nat → Int32) (p1 : Int32) : Int32 := if (mi 3) ≤ (0 : Int32) then (bfX12_isTime_23 mi p1) else (cal (fun o1 => if o1 = (0 : Int32) then (bfX12_isTime_23 mi p1) else (bfX12_isTime_24 mi p1 (1 : Int32))) (fX12_in (p1.toInt64) (0 : Int64) (999 : Int64)))
set_option maxHeartbeats 4000000 in
set_option maxRecDepth 100000 in
theorem sX12_isTime (l : Launch) (dC : Nat → ClassId) (dI : Nat → Nat → Nat) (h0 : Nat) (mi : Nat → Int32) (mr : Nat → Nat) (km : Nat → ClassId) (fm_trust : Nat → Int32) (fm_letter : Nat → Int32) (fm_reportPlace : Nat → Int32) (fm_reportKind : Nat → Int32) (fm_struck : Nat → Int32) (fm_reportMonth : Nat → Int32) (fm_reportDay : Nat → Int32) (fm_reportKnown : Nat → Int32) (fm_deedMonth : Nat → Int32) (fm_deedDay : Nat → Int32) (fm_deedLong : Nat → Int32) (fm_deedKind : Nat → Int32) (fm_kept : Nat → Int32) (fm_tape : Nat → Int32) (fm_must : Nat → Int32) (fm_least : Nat → Int32) (fm_pin : Nat → Int32) (fm_ways : Nat → Int32) (fm_verdict : Nat → Int32) (fm_row : Nat → Int32) (fm_official : Nat → Int32) (fm_aside : Nat → Int32) (fm_worth : Nat → Int32) (fm_out : Nat → Int32) (p1 : Int32) (gmi_0 : gi (mi 0) 0 24) (gmi_1 : gi (mi 1) 0 5) (gmi_2 : gi (mi 2) 0 5) (gmi_4 : gi (mi 4) 0 1) (gmi_7 : gi (mi 7) 0 6) (gmi_10 : gi (mi 10) 0 24) (gmi_17 : gi (mi 17) 0 8) (gmi_23 : gi (mi 23) 0 300) (gmi_24 : gi (mi 24) 0 1) (gmi_26 : gi (mi 26) 0 1600) (gmi_29 : gi (mi 29) 0 1600) (gmi_30 : gi (mi 30) 0 1600) (gmi_33 : gi (mi 33) 0 1) (gmi_37 : gi (mi 37) 0 1) (gmi_41 : gi (mi 41) 0 24) (gmi_50 : gi (mi 50) 0 1) (gmi_51 : gi (mi 51) 0 1) (gmi_56 : gi (mi 56) 0 80) : Met l yX12_isTime (.code yX12_isTime cX12_isTime 2 (some .boolean) :: wsGB) ({ frames := 1, cells := 0, slots := 0, locals := 25 }) (va_Pc [.ref h0, .int p1] (fun U => va_P (dC, dI) vwCl (MWn h0 mr km (mi 0) (mi 1) (mi 2) (mi 3) (mi 4) (mi 5) (mi 6) (mi 7) (mi 10) (mi 17) (mi 23) (mi 24) (mi 26) (mi 27) (mi 28) (mi 29) (mi 30) (mi 31) (mi 32) (mi 33) (mi 37) (mi 41) (mi 42) (mi 43) (mi 44) (mi 45) (mi 47) (mi 48) (mi 49) (mi 50) (mi 51) (mi 54) (mi 56) fm_trust fm_letter fm_reportPlace fm_reportKind fm_struck fm_reportMonth fm_reportDay fm_reportKnown fm_deedMonth fm_deedDay fm_deedLong fm_deedKind fm_kept fm_tape fm_must fm_least fm_pin fm_ways fm_verdict fm_row fm_official fm_aside fm_worth fm_out) U.heap ∧ va_K (dC, dI) vwCl (MT km) U)) (va_Qi (fun (r : Int32) (u : Unit) => (gi r 0 1 ∧ (r.toInt = 1 → gi p1 0 999)) ∧ r = fX12_isTime mi p1) (fun _ _ => True) (fun _ => False)) 0 0 (fun _ => False) := by
  refine Met.ofW (cc := cX12_isTime) (maxL := 2) (ret := (some .boolean)) (by decide) rfl ?_
  intro p e s m args below meth c s₁ B hml hv
  obtain ⟨rfl, hP, hK⟩ := hv
  have hx := B.exec
  have hb := B.bytes
  have hr := B.returns
  have hts := atoms_spec (ws := (.code yX12_isTime cX12_isTime 2 (some .boolean) :: wsGB)) B.pre
  have hown : s.vm.findClass RX12 = some m.cls := findClass_of_methodNamed B.named
  have hlocks := B.notSynchronized
  have hS : va_S (fun _ => False) s.heap s.heap [] := va_S.rf
  have hl := lv_entry ([.ref h0, .int p1]) (n := 2) (Nat.le_of_ble_eq_true rfl)
  rw [lg_entry_eq]
  generalize (lg_sl ([.ref h0, .int p1]) ++ List.replicate (2 - (lg_sl ([.ref h0, .int p1])).length) Slot.unset).toArray = ls at hl ⊢
  have hl : lv_has ls 2 [(0, .ref h0), (1, .int p1)] := hl
  obtain ⟨RES, hF⟩ : ∃ R9, fX12_isTime mi p1 = R9 := ⟨_, rfl⟩
  have hR9 := hF
  refine lv_aload_n hx hb (dk_at dkX12_isTime 0 rfl) rfl (lv_at hl 0 rfl) ?_
  refine va_get (D := (dC, dI)) (ci := 12) (v := .int (mi 3)) (C := RX12) (T := TX12) (N := 57) hx hb hts (fun w h => List.mem_cons_of_mem _ (jnGB_X12 w h)) hown hK hP 0 rfl rfl 3 (by decide) (hts _ (List.mem_cons_of_mem _ mGB_106)) (fun _ h9 => h9) rfl (dk_at dkX12_isTime 1 rfl) ?_
  refine lv_if_le (tgt := 23) hx hb (dk_at dkX12_isTime 2 rfl) (by decide) (fun c_10 => ?_) (fun c_10 => ?_)
  · have hF := gf_pos c_10 hF
    have g_11 : gi (mi 3) (-2147483648) 0 := gi_le_l c_10 (gi_any (mi 3)) (gi_c 0 0 (by decide))
    refine lv_iconst (v := 0) hx hb (dk_at dkX12_isTime 11 rfl) (by decide) ?_
    exact W.zret (v := 0) hx hb hr (by decide) (fun t ht hW => ⟨⟨0, (), rfl, ⟨⟨(gi_w (gi_c 0 0 (by decide)) (by decide)), (fun h => absurd h (by decide))⟩, hF.trans hR9.symm⟩, trivial⟩, hS.F ht⟩) hS.2.2 (dk_at dkX12_isTime 12 rfl)
  · have hF := gf_neg c_10 hF
    have g_12 : gi (mi 3) 1 2147483647 := gi_lt_r (Int32.not_le.mp c_10) (gi_c 0 0 (by decide)) (gi_any (mi 3)) (by decide)
    refine lv_iload_n hx hb (dk_at dkX12_isTime 3 rfl) rfl (lv_at hl 1 rfl) ?_
    refine lv_i2l (v := (p1).toInt64) hx hb (dk_at dkX12_isTime 4 rfl) rfl ?_
    refine lv_topl (fun l_13 el_13 => ?_)
    refine lv_lconst (v := 0) hx hb (dk_at dkX12_isTime 5 rfl) (by decide) ?_
    refine lv_ldc2 (own := RX12) (v := 999) hx hb hown (hts _ (List.mem_cons_of_mem _ mGB_260)) (dk_at dkX12_isTime 6 rfl) ?_
    have hPc := hP.sub (ws' := []) [] rfl
    have hKc := hK.sub (tys' := []) [] rfl
    refine va_calli (va_runS (As := [.long l_13, .long 0, .long 999]) (rest := []) ⟨hx, hb, hml, hown, hts⟩ (sX12_in l dC dI l_13 0 999) (cwS 3 hts (gz_gS mGB_47 mGB_48 mGB_1 mGB_49 goodGB) rfl rfl rfl hdS_X12_in_X12_3 ⟨Nat.le_of_ble_eq_true rfl, Nat.le_of_ble_eq_true rfl⟩) ⟨bl_R, fun U hU hW => ⟨rfl, by rw [hU]; exact hPc, va_K.moved hW.alike hKc⟩⟩ rfl rfl hl.1 rfl (lv_room (Nat.le_of_ble_eq_true rfl)) (dk_at dkX12_isTime 7 rfl) ⟨Nat.zero_le _, Nat.zero_le _⟩) hS (fun q _ h => h.elim) (fun q h => h.elim) (fun r_14 u t H1 locs ht hvm hw hB hz1 hk1 hS => ?_)
    obtain ⟨hw, hE⟩ := hw
    have hP := gz_keep hP hk1
    have hF := gf_call (a := r_14) (by rw [el_13] at hE; exact hE) hF
    generalize H1 = H at hP hS ⊢
    have gr_14 : gi r_14 0 1 := hw.1
    have hqr_14 := hw.2
    refine lv_if_eq (tgt := 23) hx hb (dk_at dkX12_isTime 8 rfl) (by decide) (fun c_15 => ?_) (fun c_15 => ?_)
    · have hF := gf_pos c_15 hF
      have g_16 : gi r_14 0 0 := gi_eq c_15 (gi_c 0 0 (by decide))
      refine lv_iconst (v := 0) hx hb (dk_at dkX12_isTime 11 rfl) (by decide) ?_
      exact W.zret (v := 0) hx hb hr (by decide) (fun t ht hW => ⟨⟨0, (), rfl, ⟨⟨(gi_w (gi_c 0 0 (by decide)) (by decide)), (fun h => absurd h (by decide))⟩, hF.trans hR9.symm⟩, trivial⟩, hS.F ht⟩) hS.2.2 (dk_at dkX12_isTime 12 rfl)
    · have hF := gf_neg c_15 hF
      have g_17 : gi r_14 1 1 := gi_ne_lo c_15 gr_14 (gi_c 0 0 (by decide)) (by decide)
      have g_18 : gi p1 0 999 := gi_cap (gi_any p1) (gz_inr (hqr_14.1 (gz_one g_17)) el_13 (A := 0) (B := 999) (by decide) (by decide)) (by decide)
      refine lv_iconst (v := 1) hx hb (dk_at dkX12_isTime 9 rfl) (by decide) ?_
      refine lv_goto (tgt := 24) hx hb (dk_at dkX12_isTime 10 rfl) (by decide) ?_
      exact W.zret (v := 1) hx hb hr (by decide) (fun t ht hW => ⟨⟨1, (), rfl, ⟨⟨(gi_w (gi_c 1 1 (by decide)) (by decide)), (fun _ => g_18)⟩, hF.trans hR9.symm⟩, trivial⟩, hS.F ht⟩) hS.2.2 (dk_at dkX12_isTime 12 rfl)
noncomputable def lsX12_earlyOf : List (Nat × Instr × Nat) := [(0, .aload_n 0, 1), (1, .getfield 132, 3), (4, .iload_n 1, 1), (5, .aload_n 0, 1), (6, .getfield 135, 3), (9, .imul, 1), (10, .iadd, 1), (11, .sipush 1000, 3), (14, .idiv, 1), (15, .ireturn, 1)]
theorem dkX12_earlyOf : dkAll cX12_earlyOf lsX12_earlyOf = true := dk_fast (by decide +kernel)
noncomputable def fX12_earlyOf (mi : Nat → Int32) (p1 : Int32) : Int32 := (((mi 5) + (p1 * (mi 6))) / (1000 : Int32))
set_option maxHeartbeats 4000000 in
set_option maxRecDepth 100000 in
theorem sX12_earlyOf (l : Launch) (dC : Nat → ClassId) (dI : Nat → Nat → Nat) (h0 : Nat) (mi : Nat → Int32) (mr : Nat → Nat) (km : Nat → ClassId) (fm_trust : Nat → Int32) (fm_letter : Nat → Int32) (fm_reportPlace : Nat → Int32) (fm_reportKind : Nat → Int32) (fm_struck : Nat → Int32) (fm_reportMonth : Nat → Int32) (fm_reportDay : Nat → Int32) (fm_reportKnown : Nat → Int32) (fm_deedMonth : Nat → Int32) (fm_deedDay : Nat → Int32) (fm_deedLong : Nat → Int32) (fm_deedKind : Nat → Int32) (fm_kept : Nat → Int32) (fm_tape : Nat → Int32) (fm_must : Nat → Int32) (fm_least : Nat → Int32) (fm_pin : Nat → Int32) (fm_ways : Nat → Int32) (fm_verdict : Nat → Int32) (fm_row : Nat → Int32) (fm_official : Nat → Int32) (fm_aside : Nat → Int32) (fm_worth : Nat → Int32) (fm_out : Nat → Int32) (p1 : Int32) (gmi_0 : gi (mi 0) 0 24) (gmi_1 : gi (mi 1) 0 5) (gmi_2 : gi (mi 2) 0 5) (gmi_4 : gi (mi 4) 0 1) (gmi_7 : gi (mi 7) 0 6) (gmi_10 : gi (mi 10) 0 24) (gmi_17 : gi (mi 17) 0 8) (gmi_23 : gi (mi 23) 0 300) (gmi_24 : gi (mi 24) 0 1) (gmi_26 : gi (mi 26) 0 1600) (gmi_29 : gi (mi 29) 0 1600) (gmi_30 : gi (mi 30) 0 1600) (gmi_33 : gi (mi 33) 0 1) (gmi_37 : gi (mi 37) 0 1) (gmi_41 : gi (mi 41) 0 24) (gmi_50 : gi (mi 50) 0 1) (gmi_51 : gi (mi 51) 0 1) (gmi_56 : gi (mi 56) 0 80) : Met l yX12_earlyOf (.code yX12_earlyOf cX12_earlyOf 2 (some .int) :: wsGB) ({ frames := 0, cells := 0, slots := 0, locals := 0 }) (va_Pc [.ref h0, .int p1] (fun U => va_P (dC, dI) vwCl (MWn h0 mr km (mi 0) (mi 1) (mi 2) (mi 3) (mi 4) (mi 5) (mi 6) (mi 7) (mi 10) (mi 17) (mi 23) (mi 24) (mi 26) (mi 27) (mi 28) (mi 29) (mi 30) (mi 31) (mi 32) (mi 33) (mi 37) (mi 41) (mi 42) (mi 43) (mi 44) (mi 45) (mi 47) (mi 48) (mi 49) (mi 50) (mi 51) (mi 54) (mi 56) fm_trust fm_letter fm_reportPlace fm_reportKind fm_struck fm_reportMonth fm_reportDay fm_reportKnown fm_deedMonth fm_deedDay fm_deedLong fm_deedKind fm_kept fm_tape fm_must fm_least fm_pin fm_ways fm_verdict fm_row fm_official fm_aside fm_worth fm_out) U.heap ∧ va_K (dC, dI) vwCl (MT km) U)) (va_Qi (fun (r : Int32) (u : Unit) => (gi r (-2147483648) 2147483647) ∧ r = fX12_earlyOf mi p1) (fun _ _ => True) (fun _ => False)) 0 0 (fun _ => False) := by
  refine Met.ofW (cc := cX12_earlyOf) (maxL := 2) (ret := (some .int)) (by decide) rfl ?_
  intro p e s m args below meth c s₁ B hml hv
  obtain ⟨rfl, hP, hK⟩ := hv
  have hx := B.exec
  have hb := B.bytes
  have hr := B.returns
  have hts := atoms_spec (ws := (.code yX12_earlyOf cX12_earlyOf 2 (some .int) :: wsGB)) B.pre
  have hown : s.vm.findClass RX12 = some m.cls := findClass_of_methodNamed B.named
  have hlocks := B.notSynchronized
  have hS : va_S (fun _ => False) s.heap s.heap [] := va_S.rf
  have hl := lv_entry ([.ref h0, .int p1]) (n := 2) (Nat.le_of_ble_eq_true rfl)
  rw [lg_entry_eq]
  generalize (lg_sl ([.ref h0, .int p1]) ++ List.replicate (2 - (lg_sl ([.ref h0, .int p1])).length) Slot.unset).toArray = ls at hl ⊢
  have hl : lv_has ls 2 [(0, .ref h0), (1, .int p1)] := hl
  obtain ⟨RES, hF⟩ : ∃ R9, fX12_earlyOf mi p1 = R9 := ⟨_, rfl⟩
  have hR9 := hF
  refine lv_aload_n hx hb (dk_at dkX12_earlyOf 0 rfl) rfl (lv_at hl 0 rfl) ?_
  refine va_get (D := (dC, dI)) (ci := 12) (v := .int (mi 5)) (C := RX12) (T := TX12) (N := 57) hx hb hts (fun w h => List.mem_cons_of_mem _ (jnGB_X12 w h)) hown hK hP 0 rfl rfl 5 (by decide) (hts _ (List.mem_cons_of_mem _ mGB_108)) (fun _ h9 => h9) rfl (dk_at dkX12_earlyOf 1 rfl) ?_
  refine lv_iload_n hx hb (dk_at dkX12_earlyOf 2 rfl) rfl (lv_at hl 1 rfl) ?_
  refine lv_aload_n hx hb (dk_at dkX12_earlyOf 3 rfl) rfl (lv_at hl 0 rfl) ?_
  refine va_get (D := (dC, dI)) (ci := 12) (v := .int (mi 6)) (C := RX12) (T := TX12) (N := 57) hx hb hts (fun w h => List.mem_cons_of_mem _ (jnGB_X12 w h)) hown hK hP 0 rfl rfl 6 (by decide) (hts _ (List.mem_cons_of_mem _ mGB_109)) (fun _ h9 => h9) rfl (dk_at dkX12_earlyOf 4 rfl) ?_
  refine lv_imul hx hb (dk_at dkX12_earlyOf 5 rfl) ?_
  refine lv_topi (fun x_4 ex_4 => ?_)
  refine lv_iadd hx hb (dk_at dkX12_earlyOf 6 rfl) ?_
  refine lv_topi (fun x_5 ex_5 => ?_)
  refine lv_sipush (v := 1000) hx hb (dk_at dkX12_earlyOf 7 rfl) (by decide) ?_
  refine lv_idiv hx hb (dk_at dkX12_earlyOf 8 rfl) (by decide) ?_
  refine lv_topi (fun x_6 ex_6 => ?_)
  exact W.iret (v := x_6) hx hb hr (fun t ht hW => ⟨⟨x_6, (), rfl, ⟨(gi_any x_6), by first | (rw [ex_6, ex_5, ex_4]; exact hF.trans hR9.symm) | ((try rw [ex_6]); (try rw [ex_5]); (try rw [ex_4]); exact hF.trans hR9.symm)⟩, trivial⟩, hS.F ht⟩) hS.2.2 (dk_at dkX12_earlyOf 9 rfl)
noncomputable def lsX12_unpins : List (Nat × Instr × Nat) := [(0, .iconst 0, 1), (1, .istore_n 1, 1), (2, .iload_n 1, 1), (3, .bipush 24, 2), (5, .if_icmp .gt 16, 3), (8, .aload_n 0, 1), (9, .getfield 63, 3), (12, .iload_n 1, 1), (13, .iconst (-1), 1), (14, .iastore, 1), (15, .iinc 1 1, 3), (18, .goto (-16), 3), (21, .return_, 1)]
theorem dkX12_unpins : dkAll cX12_unpins lsX12_unpins = true := dk_fast (by decide +kernel)
noncomputable def dfX12_unpins_2 (fm_pin : Nat → Int32) (K : (Int32 → (Nat → Int32) → ((Nat → Int32)))) (v1 : Int32) (z1 : Nat → Int32) : (Nat → Int32) := if (24 : Int32) < v1 then z1 else (K (v1 + (1 : Int32)) (upd z1 v1.toNatClampNeg (-1 : Int32)))
noncomputable def lfX12_unpins (fm_pin : Nat → Int32) (z : Nat) : (Int32 → (Nat → Int32) → ((Nat → Int32))) := Nat.rec (motive := fun _ => (Int32 → (Nat → Int32) → ((Nat → Int32)))) (fun _ z1 => (z1)) (fun _ K => dfX12_unpins_2 fm_pin K) z
noncomputable def fX12_unpins (fm_pin : Nat → Int32) : (Nat → Int32) := (lfX12_unpins fm_pin 1000000000) (0 : Int32) fm_pin
set_option maxHeartbeats 4000000 in
set_option maxRecDepth 100000 in
theorem lp_sX12_unpins {p : Program} {l : Launch} {e : Env} {R : Room} {s : State} {m : MethodId} {args : Array Value} {below : List Frame} {meth : Method} {c : Code} {Q : State → Prop} {A : Nat → Prop} {cells slots : Nat} {dC : Nat → ClassId} {dI : Nat → Nat → Nat} {RES : (Nat → Int32)} (h0 : Nat) (mi : Nat → Int32) (mr : Nat → Nat) (km : Nat → ClassId) (fm_pin : Nat → Int32) (fm_trust : Nat → Int32) (fm_letter : Nat → Int32) (fm_reportPlace : Nat → Int32) (fm_reportKind : Nat → Int32) (fm_struck : Nat → Int32) (fm_reportMonth : Nat → Int32) (fm_reportDay : Nat → Int32) (fm_reportKnown : Nat → Int32) (fm_deedMonth : Nat → Int32) (fm_deedDay : Nat → Int32) (fm_deedLong : Nat → Int32) (fm_deedKind : Nat → Int32) (fm_kept : Nat → Int32) (fm_tape : Nat → Int32) (fm_must : Nat → Int32) (fm_least : Nat → Int32) (fm_ways : Nat → Int32) (fm_verdict : Nat → Int32) (fm_row : Nat → Int32) (fm_official : Nat → Int32) (fm_aside : Nat → Int32) (fm_worth : Nat → Int32) (fm_out : Nat → Int32) (gmi_0 : gi (mi 0) 0 24) (gmi_1 : gi (mi 1) 0 5) (gmi_2 : gi (mi 2) 0 5) (gmi_4 : gi (mi 4) 0 1) (gmi_7 : gi (mi 7) 0 6) (gmi_10 : gi (mi 10) 0 24) (gmi_17 : gi (mi 17) 0 8) (gmi_23 : gi (mi 23) 0 300) (gmi_24 : gi (mi 24) 0 1) (gmi_26 : gi (mi 26) 0 1600) (gmi_29 : gi (mi 29) 0 1600) (gmi_30 : gi (mi 30) 0 1600) (gmi_33 : gi (mi 33) 0 1) (gmi_37 : gi (mi 37) 0 1) (gmi_41 : gi (mi 41) 0 24) (gmi_50 : gi (mi 50) 0 1) (gmi_51 : gi (mi 51) 0 1) (gmi_56 : gi (mi 56) 0 80) (hx : p.tables.exec = Jvm.exec) (hb : c.code = cX12_unpins) (hml : c.maxLocals = 2) (hown : s.vm.findClass RX12 = some m.cls) (hts : ∀ w ∈ ((.code yX12_unpins cX12_unpins 2 none :: wsGB) : List Cond), w.before args s = true) (hK : va_K (dC, dI) vwCl (MT km) s) (hA : ∀ q : Nat, s.heap.size ≤ q → A q) (hRf : 0 ≤ R.frames) (hRl : 0 ≤ R.locals) (hRc : cells ≤ R.cells) (hRs : slots ≤ R.slots) (kr21 : ∀ (z1 : Nat → Int32) (H : Heap) (locs : List Loc) (ls : Array Slot), z1 = RES → va_P (dC, dI) vwCl (MWn h0 mr km (mi 0) (mi 1) (mi 2) (mi 3) (mi 4) (mi 5) (mi 6) (mi 7) (mi 10) (mi 17) (mi 23) (mi 24) (mi 26) (mi 27) (mi 28) (mi 29) (mi 30) (mi 31) (mi 32) (mi 33) (mi 37) (mi 41) (mi 42) (mi 43) (mi 44) (mi 45) (mi 47) (mi 48) (mi 49) (mi 50) (mi 51) (mi 54) (mi 56) fm_trust fm_letter fm_reportPlace fm_reportKind fm_struck fm_reportMonth fm_reportDay fm_reportKnown fm_deedMonth fm_deedDay fm_deedLong fm_deedKind fm_kept fm_tape fm_must fm_least z1 fm_ways fm_verdict fm_row fm_official fm_aside fm_worth fm_out) H → va_D A (MWn h0 mr km (mi 0) (mi 1) (mi 2) (mi 3) (mi 4) (mi 5) (mi 6) (mi 7) (mi 10) (mi 17) (mi 23) (mi 24) (mi 26) (mi 27) (mi 28) (mi 29) (mi 30) (mi 31) (mi 32) (mi 33) (mi 37) (mi 41) (mi 42) (mi 43) (mi 44) (mi 45) (mi 47) (mi 48) (mi 49) (mi 50) (mi 51) (mi 54) (mi 56) fm_trust fm_letter fm_reportPlace fm_reportKind fm_struck fm_reportMonth fm_reportDay fm_reportKnown fm_deedMonth fm_deedDay fm_deedLong fm_deedKind fm_kept fm_tape fm_must fm_least z1 fm_ways fm_verdict fm_row fm_official fm_aside fm_worth fm_out) → va_S A s.heap H locs → lv_has ls 2 [] → W p l e R s m args below meth c H locs cells slots Q (F0 m 21 ls [])) : ∀ z : Nat, (∀ (v1 : Int32) (z1 : Nat → Int32) (H : Heap) (locs : List Loc) (ls : Array Slot), gi v1 0 25 → (lfX12_unpins fm_pin z) v1 z1 = RES → 51 + (-2) * v1.toInt < (z : Int) → va_P (dC, dI) vwCl (MWn h0 mr km (mi 0) (mi 1) (mi 2) (mi 3) (mi 4) (mi 5) (mi 6) (mi 7) (mi 10) (mi 17) (mi 23) (mi 24) (mi 26) (mi 27) (mi 28) (mi 29) (mi 30) (mi 31) (mi 32) (mi 33) (mi 37) (mi 41) (mi 42) (mi 43) (mi 44) (mi 45) (mi 47) (mi 48) (mi 49) (mi 50) (mi 51) (mi 54) (mi 56) fm_trust fm_letter fm_reportPlace fm_reportKind fm_struck fm_reportMonth fm_reportDay fm_reportKnown fm_deedMonth fm_deedDay fm_deedLong fm_deedKind fm_kept fm_tape fm_must fm_least z1 fm_ways fm_verdict fm_row fm_official fm_aside fm_worth fm_out) H → va_D A (MWn h0 mr km (mi 0) (mi 1) (mi 2) (mi 3) (mi 4) (mi 5) (mi 6) (mi 7) (mi 10) (mi 17) (mi 23) (mi 24) (mi 26) (mi 27) (mi 28) (mi 29) (mi 30) (mi 31) (mi 32) (mi 33) (mi 37) (mi 41) (mi 42) (mi 43) (mi 44) (mi 45) (mi 47) (mi 48) (mi 49) (mi 50) (mi 51) (mi 54) (mi 56) fm_trust fm_letter fm_reportPlace fm_reportKind fm_struck fm_reportMonth fm_reportDay fm_reportKnown fm_deedMonth fm_deedDay fm_deedLong fm_deedKind fm_kept fm_tape fm_must fm_least z1 fm_ways fm_verdict fm_row fm_official fm_aside fm_worth fm_out) → va_S A s.heap H locs → lv_has ls 2 [(0, .ref h0), (1, .int v1)] → W p l e R s m args below meth c H locs cells slots Q (F0 m 2 ls [])) := by
  intro z
  induction z with
  | zero =>
    intro v1 z1 H locs ls gv1 hF hmu hP hD hS hl
    exact absurd hmu (by have hv11 := gv1.1; have hv12 := gv1.2; omega)
  | succ z ih =>
      intro v1 z1 H locs ls gv1 hF hmu hP hD hS hl
      have hF : dfX12_unpins_2 fm_pin (lfX12_unpins fm_pin z) v1 z1 = RES := hF
      refine lv_iload_n hx hb (dk_at dkX12_unpins 2 rfl) rfl (lv_at hl 1 rfl) ?_
      refine lv_bipush (v := 24) hx hb (dk_at dkX12_unpins 3 rfl) (by decide) ?_
      refine lv_icmp_gt (tgt := 21) hx hb (dk_at dkX12_unpins 4 rfl) (by decide) (fun c_51 => ?_) (fun c_51 => ?_)
      · have hF := gf_pos c_51 hF
        have g_52 : gi v1 25 25 := gi_lt_r c_51 (gi_c 24 24 (by decide)) gv1 (by decide)
        exact kr21 z1 _ _ _ hF hP hD hS (lv_sub hl [] rfl)
      · have hF := gf_neg c_51 hF
        have g_53 : gi v1 0 24 := gi_le_l (Int32.not_lt.mp c_51) gv1 (gi_c 24 24 (by decide))
        refine lv_aload_n hx hb (dk_at dkX12_unpins 5 rfl) rfl (lv_at hl 0 rfl) ?_
        refine va_get (D := (dC, dI)) (ci := 12) (v := .ref (mr 16)) (C := RX12) (T := TX12) (N := 57) hx hb hts (fun w h => List.mem_cons_of_mem _ (jnGB_X12 w h)) hown hK hP 0 rfl rfl 36 (by decide) (hts _ (List.mem_cons_of_mem _ mGB_28)) (fun _ h9 => h9) rfl (dk_at dkX12_unpins 6 rfl) ?_
        refine lv_iload_n hx hb (dk_at dkX12_unpins 7 rfl) rfl (lv_at hl 1 rfl) ?_
        refine lv_iconst (v := (-1)) hx hb (dk_at dkX12_unpins 8 rfl) (by decide) ?_
        refine va_iast hx hb hK hP hD hS 17 16 rfl rfl (gi_in g_53 (by decide)) (dk_at dkX12_unpins 9 rfl) (fun H locs hP hD hS => ?_)
        obtain ⟨hP, hD⟩ := gz_both (w := (MWn h0 mr km (mi 0) (mi 1) (mi 2) (mi 3) (mi 4) (mi 5) (mi 6) (mi 7) (mi 10) (mi 17) (mi 23) (mi 24) (mi 26) (mi 27) (mi 28) (mi 29) (mi 30) (mi 31) (mi 32) (mi 33) (mi 37) (mi 41) (mi 42) (mi 43) (mi 44) (mi 45) (mi 47) (mi 48) (mi 49) (mi 50) (mi 51) (mi 54) (mi 56) fm_trust fm_letter fm_reportPlace fm_reportKind fm_struck fm_reportMonth fm_reportDay fm_reportKnown fm_deedMonth fm_deedDay fm_deedLong fm_deedKind fm_kept fm_tape fm_must fm_least (upd z1 (v1 : Int32).toNatClampNeg (-1)) fm_ways fm_verdict fm_row fm_official fm_aside fm_worth fm_out)) hP hD
        generalize ef_54 : upd z1 (v1 : Int32).toNatClampNeg (-1) = f_54 at hP hD
        obtain ⟨x_55, ex_55⟩ : ∃ y : Int32, y = v1 + 1 := ⟨_, rfl⟩
        have gx_55 : gi x_55 1 25 := gi_add ex_55 g_53 (gi_c 1 1 (by decide)) (by decide)
        refine lv_iinc (v := x_55) (lv' := [(1, .int x_55), (0, .ref h0)]) hx hb (dk_at dkX12_unpins 10 rfl) hl (k := 1) rfl (by rw [ex_55]; rfl) (by decide) rfl (fun ls hl => ?_)
        refine lv_goto (tgt := 2) hx hb (dk_at dkX12_unpins 11 rfl) (by decide) ?_
        exact ih x_55 f_54 _ _ _ (gi_w gx_55 (by decide)) (by first | (rw [ex_55, ← ef_54]; exact hF) | ((try rw [ex_55]); (try rw [← ef_54]); exact hF)) (by have av1 := gv1.1; have bv1 := gv1.2; have qgx_55 := gx_55.1; have rgx_55 := gx_55.2; have igx_55 : x_55.toInt = v1.toInt + 1 := (by have hc1 : (1 : Int32).toInt = 1 := (by decide); have h9 := gi_addE ex_55 g_53 (gi_c 1 1 (by decide)) (by decide); rw [hc1] at h9; exact h9); have qgv1 := g_53.1; have rgv1 := g_53.2; omega) hP hD hS (lv_sub hl [1, 0] rfl)
abbrev pb_sX12_unpins (dC : Nat → ClassId) (dI : Nat → Nat → Nat) (A9 : Nat → Prop) (h0 : Nat) (mi : Nat → Int32) (mr : Nat → Nat) (km : Nat → ClassId) (fm_pin : Nat → Int32) (fm_trust : Nat → Int32) (fm_letter : Nat → Int32) (fm_reportPlace : Nat → Int32) (fm_reportKind : Nat → Int32) (fm_struck : Nat → Int32) (fm_reportMonth : Nat → Int32) (fm_reportDay : Nat → Int32) (fm_reportKnown : Nat → Int32) (fm_deedMonth : Nat → Int32) (fm_deedDay : Nat → Int32) (fm_deedLong : Nat → Int32) (fm_deedKind : Nat → Int32) (fm_kept : Nat → Int32) (fm_tape : Nat → Int32) (fm_must : Nat → Int32) (fm_least : Nat → Int32) (fm_ways : Nat → Int32) (fm_verdict : Nat → Int32) (fm_row : Nat → Int32) (fm_official : Nat → Int32) (fm_aside : Nat → Int32) (fm_worth : Nat → Int32) (fm_out : Nat → Int32) (z1 : Nat → Int32) (t : State) : Prop := z1 = fX12_unpins fm_pin ∧ va_P (dC, dI) vwCl (MWn h0 mr km (mi 0) (mi 1) (mi 2) (mi 3) (mi 4) (mi 5) (mi 6) (mi 7) (mi 10) (mi 17) (mi 23) (mi 24) (mi 26) (mi 27) (mi 28) (mi 29) (mi 30) (mi 31) (mi 32) (mi 33) (mi 37) (mi 41) (mi 42) (mi 43) (mi 44) (mi 45) (mi 47) (mi 48) (mi 49) (mi 50) (mi 51) (mi 54) (mi 56) fm_trust fm_letter fm_reportPlace fm_reportKind fm_struck fm_reportMonth fm_reportDay fm_reportKnown fm_deedMonth fm_deedDay fm_deedLong fm_deedKind fm_kept fm_tape fm_must fm_least z1 fm_ways fm_verdict fm_row fm_official fm_aside fm_worth fm_out) t.heap ∧ va_D A9 (MWn h0 mr km (mi 0) (mi 1) (mi 2) (mi 3) (mi 4) (mi 5) (mi 6) (mi 7) (mi 10) (mi 17) (mi 23) (mi 24) (mi 26) (mi 27) (mi 28) (mi 29) (mi 30) (mi 31) (mi 32) (mi 33) (mi 37) (mi 41) (mi 42) (mi 43) (mi 44) (mi 45) (mi 47) (mi 48) (mi 49) (mi 50) (mi 51) (mi 54) (mi 56) fm_trust fm_letter fm_reportPlace fm_reportKind fm_struck fm_reportMonth fm_reportDay fm_reportKnown fm_deedMonth fm_deedDay fm_deedLong fm_deedKind fm_kept fm_tape fm_must fm_least z1 fm_ways fm_verdict fm_row fm_official fm_aside fm_worth fm_out)
set_option maxHeartbeats 4000000 in
set_option maxRecDepth 100000 in
theorem sX12_unpins (l : Launch) (dC : Nat → ClassId) (dI : Nat → Nat → Nat) (sz : Nat) (h0 : Nat) (mi : Nat → Int32) (mr : Nat → Nat) (km : Nat → ClassId) (fm_pin : Nat → Int32) (fm_trust : Nat → Int32) (fm_letter : Nat → Int32) (fm_reportPlace : Nat → Int32) (fm_reportKind : Nat → Int32) (fm_struck : Nat → Int32) (fm_reportMonth : Nat → Int32) (fm_reportDay : Nat → Int32) (fm_reportKnown : Nat → Int32) (fm_deedMonth : Nat → Int32) (fm_deedDay : Nat → Int32) (fm_deedLong : Nat → Int32) (fm_deedKind : Nat → Int32) (fm_kept : Nat → Int32) (fm_tape : Nat → Int32) (fm_must : Nat → Int32) (fm_least : Nat → Int32) (fm_ways : Nat → Int32) (fm_verdict : Nat → Int32) (fm_row : Nat → Int32) (fm_official : Nat → Int32) (fm_aside : Nat → Int32) (fm_worth : Nat → Int32) (fm_out : Nat → Int32) (gmi_0 : gi (mi 0) 0 24) (gmi_1 : gi (mi 1) 0 5) (gmi_2 : gi (mi 2) 0 5) (gmi_4 : gi (mi 4) 0 1) (gmi_7 : gi (mi 7) 0 6) (gmi_10 : gi (mi 10) 0 24) (gmi_17 : gi (mi 17) 0 8) (gmi_23 : gi (mi 23) 0 300) (gmi_24 : gi (mi 24) 0 1) (gmi_26 : gi (mi 26) 0 1600) (gmi_29 : gi (mi 29) 0 1600) (gmi_30 : gi (mi 30) 0 1600) (gmi_33 : gi (mi 33) 0 1) (gmi_37 : gi (mi 37) 0 1) (gmi_41 : gi (mi 41) 0 24) (gmi_50 : gi (mi 50) 0 1) (gmi_51 : gi (mi 51) 0 1) (gmi_56 : gi (mi 56) 0 80) : Met l yX12_unpins (.code yX12_unpins cX12_unpins 2 none :: wsGB) ({ frames := 0, cells := 0, slots := 0, locals := 0 }) (va_Pc [.ref h0] (fun U => U.heap.size = sz ∧ va_P (dC, dI) vwCl (MWn h0 mr km (mi 0) (mi 1) (mi 2) (mi 3) (mi 4) (mi 5) (mi 6) (mi 7) (mi 10) (mi 17) (mi 23) (mi 24) (mi 26) (mi 27) (mi 28) (mi 29) (mi 30) (mi 31) (mi 32) (mi 33) (mi 37) (mi 41) (mi 42) (mi 43) (mi 44) (mi 45) (mi 47) (mi 48) (mi 49) (mi 50) (mi 51) (mi 54) (mi 56) fm_trust fm_letter fm_reportPlace fm_reportKind fm_struck fm_reportMonth fm_reportDay fm_reportKnown fm_deedMonth fm_deedDay fm_deedLong fm_deedKind fm_kept fm_tape fm_must fm_least fm_pin fm_ways fm_verdict fm_row fm_official fm_aside fm_worth fm_out) U.heap ∧ va_K (dC, dI) vwCl (MT km) U ∧ va_D (fun _ => True) (MWn h0 mr km (mi 0) (mi 1) (mi 2) (mi 3) (mi 4) (mi 5) (mi 6) (mi 7) (mi 10) (mi 17) (mi 23) (mi 24) (mi 26) (mi 27) (mi 28) (mi 29) (mi 30) (mi 31) (mi 32) (mi 33) (mi 37) (mi 41) (mi 42) (mi 43) (mi 44) (mi 45) (mi 47) (mi 48) (mi 49) (mi 50) (mi 51) (mi 54) (mi 56) fm_trust fm_letter fm_reportPlace fm_reportKind fm_struck fm_reportMonth fm_reportDay fm_reportKnown fm_deedMonth fm_deedDay fm_deedLong fm_deedKind fm_kept fm_tape fm_must fm_least fm_pin fm_ways fm_verdict fm_row fm_official fm_aside fm_worth fm_out))) (va_Qv (fun (u : Unit) => True) (fun _ t => ∃ (z1 : Nat → Int32), pb_sX12_unpins dC dI (va_A (MWn h0 mr km (mi 0) (mi 1) (mi 2) (mi 3) (mi 4) (mi 5) (mi 6) (mi 7) (mi 10) (mi 17) (mi 23) (mi 24) (mi 26) (mi 27) (mi 28) (mi 29) (mi 30) (mi 31) (mi 32) (mi 33) (mi 37) (mi 41) (mi 42) (mi 43) (mi 44) (mi 45) (mi 47) (mi 48) (mi 49) (mi 50) (mi 51) (mi 54) (mi 56) fm_trust fm_letter fm_reportPlace fm_reportKind fm_struck fm_reportMonth fm_reportDay fm_reportKnown fm_deedMonth fm_deedDay fm_deedLong fm_deedKind fm_kept fm_tape fm_must fm_least fm_pin fm_ways fm_verdict fm_row fm_official fm_aside fm_worth fm_out) sz) h0 mi mr km fm_pin fm_trust fm_letter fm_reportPlace fm_reportKind fm_struck fm_reportMonth fm_reportDay fm_reportKnown fm_deedMonth fm_deedDay fm_deedLong fm_deedKind fm_kept fm_tape fm_must fm_least fm_ways fm_verdict fm_row fm_official fm_aside fm_worth fm_out z1 t) (va_A (MWn h0 mr km (mi 0) (mi 1) (mi 2) (mi 3) (mi 4) (mi 5) (mi 6) (mi 7) (mi 10) (mi 17) (mi 23) (mi 24) (mi 26) (mi 27) (mi 28) (mi 29) (mi 30) (mi 31) (mi 32) (mi 33) (mi 37) (mi 41) (mi 42) (mi 43) (mi 44) (mi 45) (mi 47) (mi 48) (mi 49) (mi 50) (mi 51) (mi 54) (mi 56) fm_trust fm_letter fm_reportPlace fm_reportKind fm_struck fm_reportMonth fm_reportDay fm_reportKnown fm_deedMonth fm_deedDay fm_deedLong fm_deedKind fm_kept fm_tape fm_must fm_least fm_pin fm_ways fm_verdict fm_row fm_official fm_aside fm_worth fm_out) sz)) 0 0 (va_A (MWn h0 mr km (mi 0) (mi 1) (mi 2) (mi 3) (mi 4) (mi 5) (mi 6) (mi 7) (mi 10) (mi 17) (mi 23) (mi 24) (mi 26) (mi 27) (mi 28) (mi 29) (mi 30) (mi 31) (mi 32) (mi 33) (mi 37) (mi 41) (mi 42) (mi 43) (mi 44) (mi 45) (mi 47) (mi 48) (mi 49) (mi 50) (mi 51) (mi 54) (mi 56) fm_trust fm_letter fm_reportPlace fm_reportKind fm_struck fm_reportMonth fm_reportDay fm_reportKnown fm_deedMonth fm_deedDay fm_deedLong fm_deedKind fm_kept fm_tape fm_must fm_least fm_pin fm_ways fm_verdict fm_row fm_official fm_aside fm_worth fm_out) sz) := by
  refine Met.ofW (cc := cX12_unpins) (maxL := 2) (ret := none) (by decide) rfl ?_
  intro p e s m args below meth c s₁ B hml hv
  obtain ⟨rfl, hsz, hP, hK, hD0⟩ := hv
  have hx := B.exec
  have hb := B.bytes
  have hr := B.returns
  have hts := atoms_spec (ws := (.code yX12_unpins cX12_unpins 2 none :: wsGB)) B.pre
  have hown : s.vm.findClass RX12 = some m.cls := findClass_of_methodNamed B.named
  have hlocks := B.notSynchronized
  subst hsz
  have hD := hD0.self (sz := s.heap.size)
  generalize hAe : va_A (MWn h0 mr km (mi 0) (mi 1) (mi 2) (mi 3) (mi 4) (mi 5) (mi 6) (mi 7) (mi 10) (mi 17) (mi 23) (mi 24) (mi 26) (mi 27) (mi 28) (mi 29) (mi 30) (mi 31) (mi 32) (mi 33) (mi 37) (mi 41) (mi 42) (mi 43) (mi 44) (mi 45) (mi 47) (mi 48) (mi 49) (mi 50) (mi 51) (mi 54) (mi 56) fm_trust fm_letter fm_reportPlace fm_reportKind fm_struck fm_reportMonth fm_reportDay fm_reportKnown fm_deedMonth fm_deedDay fm_deedLong fm_deedKind fm_kept fm_tape fm_must fm_least fm_pin fm_ways fm_verdict fm_row fm_official fm_aside fm_worth fm_out) s.heap.size = A at hD ⊢
  have hA : ∀ q : Nat, s.heap.size ≤ q → A q := fun q h => by rw [← hAe]; exact Or.inr h
  have hS : va_S A s.heap s.heap [] := va_S.rf
  have hl := lv_entry ([.ref h0]) (n := 2) (Nat.le_of_ble_eq_true rfl)
  rw [lg_entry_eq]
  generalize (lg_sl ([.ref h0]) ++ List.replicate (2 - (lg_sl ([.ref h0])).length) Slot.unset).toArray = ls at hl ⊢
  have hl : lv_has ls 2 [(0, .ref h0)] := hl
  obtain ⟨RES, hF⟩ : ∃ R9, fX12_unpins fm_pin = R9 := ⟨_, rfl⟩
  have hR9 := hF
  refine lv_iconst (v := 0) hx hb (dk_at dkX12_unpins 0 rfl) (by decide) ?_
  refine lv_istore_n (lv' := [(1, .int 0), (0, .ref h0)]) hx hb (dk_at dkX12_unpins 1 rfl) rfl hl (by decide) rfl (fun ls hl => ?_)
  refine (lp_sX12_unpins h0 mi mr km fm_pin fm_trust fm_letter fm_reportPlace fm_reportKind fm_struck fm_reportMonth fm_reportDay fm_reportKnown fm_deedMonth fm_deedDay fm_deedLong fm_deedKind fm_kept fm_tape fm_must fm_least fm_ways fm_verdict fm_row fm_official fm_aside fm_worth fm_out gmi_0 gmi_1 gmi_2 gmi_4 gmi_7 gmi_10 gmi_17 gmi_23 gmi_24 gmi_26 gmi_29 gmi_30 gmi_33 gmi_37 gmi_41 gmi_50 gmi_51 gmi_56 hx hb hml hown hts hK hA (Nat.le_of_ble_eq_true rfl) (Nat.le_of_ble_eq_true rfl) (Nat.zero_le _) (Nat.zero_le _) (fun z1 H locs ls hF hP hD hS hl => ?_) 1000000000) 0 fm_pin _ _ _ (gi_w (gi_c 0 0 (by decide)) (by decide)) hF (by have k0 : (0 : Int32).toInt = 0 := (by decide); omega) hP hD hS (lv_sub hl [1, 0] rfl)
  · skip
    exact W.vret hx hb hr (fun t ht hW => ⟨⟨(), rfl, trivial, z1, hF.trans hR9.symm, by rw [ht]; exact hP, hD⟩, hS.F ht⟩) hS.2.2 (dk_at dkX12_unpins 12 rfl)
noncomputable def lsX12_frees : List (Nat × Instr × Nat) := [(0, .aload_n 0, 1), (1, .iconst 0, 1), (2, .putfield 312, 3), (5, .iconst 0, 1), (6, .istore_n 1, 1), (7, .iload_n 1, 1), (8, .bipush 24, 2), (10, .if_icmp .gt 23, 3), (13, .aload_n 0, 1), (14, .getfield 57, 3), (17, .iload_n 1, 1), (18, .iconst (-1), 1), (19, .iastore, 1), (20, .aload_n 0, 1), (21, .getfield 60, 3), (24, .iload_n 1, 1), (25, .iconst 0, 1), (26, .iastore, 1), (27, .iinc 1 1, 3), (30, .goto (-23), 3), (33, .aload_n 0, 1), (34, .invokevirtual 315, 3), (37, .return_, 1)]
theorem dkX12_frees : dkAll cX12_frees lsX12_frees = true := dk_fast (by decide +kernel)
noncomputable def dfX12_frees_7 (fm_must : Nat → Int32) (fm_least : Nat → Int32) (fm_pin : Nat → Int32) (K : (Int32 → Int32 → (Nat → Int32) → (Nat → Int32) → (Int32 × (Nat → Int32) × (Nat → Int32) × (Nat → Int32)))) (v1 : Int32) (w0_37 : Int32) (z1 : Nat → Int32) (z2 : Nat → Int32) : Int32 × (Nat → Int32) × (Nat → Int32) × (Nat → Int32) := if (24 : Int32) < v1 then (cal (fun o1 => (w0_37, z1, z2, o1)) (fX12_unpins fm_pin)) else (K (v1 + (1 : Int32)) w0_37 (upd z1 v1.toNatClampNeg (-1 : Int32)) (upd z2 v1.toNatClampNeg (0 : Int32)))
noncomputable def lfX12_frees (fm_must : Nat → Int32) (fm_least : Nat → Int32) (fm_pin : Nat → Int32) (z : Nat) : (Int32 → Int32 → (Nat → Int32) → (Nat → Int32) → (Int32 × (Nat → Int32) × (Nat → Int32) × (Nat → Int32))) := Nat.rec (motive := fun _ => (Int32 → Int32 → (Nat → Int32) → (Nat → Int32) → (Int32 × (Nat → Int32) × (Nat → Int32) × (Nat → Int32)))) (fun _ w0_37 z1 z2 => (w0_37, z1, z2, fun _ => 0)) (fun _ K => dfX12_frees_7 fm_must fm_least fm_pin K) z
noncomputable def fX12_frees (fm_must : Nat → Int32) (fm_least : Nat → Int32) (fm_pin : Nat → Int32) : Int32 × (Nat → Int32) × (Nat → Int32) × (Nat → Int32) := (lfX12_frees fm_must fm_least fm_pin 1000000000) (0 : Int32) (0 : Int32) fm_must fm_least
set_option maxHeartbeats 4000000 in
set_option maxRecDepth 100000 in
theorem lp_sX12_frees {p : Program} {l : Launch} {e : Env} {R : Room} {s : State} {m : MethodId} {args : Array Value} {below : List Frame} {meth : Method} {c : Code} {Q : State → Prop} {A : Nat → Prop} {cells slots : Nat} {dC : Nat → ClassId} {dI : Nat → Nat → Nat} {RES : Int32 × (Nat → Int32) × (Nat → Int32) × (Nat → Int32)} (h0 : Nat) (mi : Nat → Int32) (mr : Nat → Nat) (km : Nat → ClassId) (fm_must : Nat → Int32) (fm_least : Nat → Int32) (fm_pin : Nat → Int32) (fm_trust : Nat → Int32) (fm_letter : Nat → Int32) (fm_reportPlace : Nat → Int32) (fm_reportKind : Nat → Int32) (fm_struck : Nat → Int32) (fm_reportMonth : Nat → Int32) (fm_reportDay : Nat → Int32) (fm_reportKnown : Nat → Int32) (fm_deedMonth : Nat → Int32) (fm_deedDay : Nat → Int32) (fm_deedLong : Nat → Int32) (fm_deedKind : Nat → Int32) (fm_kept : Nat → Int32) (fm_tape : Nat → Int32) (fm_ways : Nat → Int32) (fm_verdict : Nat → Int32) (fm_row : Nat → Int32) (fm_official : Nat → Int32) (fm_aside : Nat → Int32) (fm_worth : Nat → Int32) (fm_out : Nat → Int32) (gmi_0 : gi (mi 0) 0 24) (gmi_1 : gi (mi 1) 0 5) (gmi_2 : gi (mi 2) 0 5) (gmi_4 : gi (mi 4) 0 1) (gmi_7 : gi (mi 7) 0 6) (gmi_10 : gi (mi 10) 0 24) (gmi_17 : gi (mi 17) 0 8) (gmi_23 : gi (mi 23) 0 300) (gmi_24 : gi (mi 24) 0 1) (gmi_26 : gi (mi 26) 0 1600) (gmi_29 : gi (mi 29) 0 1600) (gmi_30 : gi (mi 30) 0 1600) (gmi_33 : gi (mi 33) 0 1) (gmi_37 : gi (mi 37) 0 1) (gmi_41 : gi (mi 41) 0 24) (gmi_50 : gi (mi 50) 0 1) (gmi_51 : gi (mi 51) 0 1) (gmi_56 : gi (mi 56) 0 80) (hx : p.tables.exec = Jvm.exec) (hb : c.code = cX12_frees) (hml : c.maxLocals = 2) (hown : s.vm.findClass RX12 = some m.cls) (hts : ∀ w ∈ ((.code yX12_frees cX12_frees 2 none :: wsGB) : List Cond), w.before args s = true) (hK : va_K (dC, dI) vwCl (MT km) s) (hA : ∀ q : Nat, s.heap.size ≤ q → A q) (hRf : 1 ≤ R.frames) (hRl : 21 ≤ R.locals) (hRc : cells ≤ R.cells) (hRs : slots ≤ R.slots) (kr37 : ∀ (w0_37 : Int32) (z1 : Nat → Int32) (z2 : Nat → Int32) (z3 : Nat → Int32) (H : Heap) (locs : List Loc) (ls : Array Slot), gi w0_37 0 1 → (w0_37, z1, z2, z3) = RES → va_P (dC, dI) vwCl (MWn h0 mr km (mi 0) (mi 1) (mi 2) (mi 3) (mi 4) (mi 5) (mi 6) (mi 7) (mi 10) (mi 17) (mi 23) (mi 24) (mi 26) (mi 27) (mi 28) (mi 29) (mi 30) (mi 31) (mi 32) (mi 33) w0_37 (mi 41) (mi 42) (mi 43) (mi 44) (mi 45) (mi 47) (mi 48) (mi 49) (mi 50) (mi 51) (mi 54) (mi 56) fm_trust fm_letter fm_reportPlace fm_reportKind fm_struck fm_reportMonth fm_reportDay fm_reportKnown fm_deedMonth fm_deedDay fm_deedLong fm_deedKind fm_kept fm_tape z1 z2 z3 fm_ways fm_verdict fm_row fm_official fm_aside fm_worth fm_out) H → va_D A (MWn h0 mr km (mi 0) (mi 1) (mi 2) (mi 3) (mi 4) (mi 5) (mi 6) (mi 7) (mi 10) (mi 17) (mi 23) (mi 24) (mi 26) (mi 27) (mi 28) (mi 29) (mi 30) (mi 31) (mi 32) (mi 33) w0_37 (mi 41) (mi 42) (mi 43) (mi 44) (mi 45) (mi 47) (mi 48) (mi 49) (mi 50) (mi 51) (mi 54) (mi 56) fm_trust fm_letter fm_reportPlace fm_reportKind fm_struck fm_reportMonth fm_reportDay fm_reportKnown fm_deedMonth fm_deedDay fm_deedLong fm_deedKind fm_kept fm_tape z1 z2 z3 fm_ways fm_verdict fm_row fm_official fm_aside fm_worth fm_out) → va_S A s.heap H locs → lv_has ls 2 [] → W p l e R s m args below meth c H locs cells slots Q (F0 m 37 ls [])) : ∀ z : Nat, (∀ (v1 : Int32) (w0_37 : Int32) (z1 : Nat → Int32) (z2 : Nat → Int32) (H : Heap) (locs : List Loc) (ls : Array Slot), gi v1 0 25 → gi w0_37 0 1 → (lfX12_frees fm_must fm_least fm_pin z) v1 w0_37 z1 z2 = RES → 51 + (-2) * v1.toInt < (z : Int) → va_P (dC, dI) vwCl (MWn h0 mr km (mi 0) (mi 1) (mi 2) (mi 3) (mi 4) (mi 5) (mi 6) (mi 7) (mi 10) (mi 17) (mi 23) (mi 24) (mi 26) (mi 27) (mi 28) (mi 29) (mi 30) (mi 31) (mi 32) (mi 33) w0_37 (mi 41) (mi 42) (mi 43) (mi 44) (mi 45) (mi 47) (mi 48) (mi 49) (mi 50) (mi 51) (mi 54) (mi 56) fm_trust fm_letter fm_reportPlace fm_reportKind fm_struck fm_reportMonth fm_reportDay fm_reportKnown fm_deedMonth fm_deedDay fm_deedLong fm_deedKind fm_kept fm_tape z1 z2 fm_pin fm_ways fm_verdict fm_row fm_official fm_aside fm_worth fm_out) H → va_D A (MWn h0 mr km (mi 0) (mi 1) (mi 2) (mi 3) (mi 4) (mi 5) (mi 6) (mi 7) (mi 10) (mi 17) (mi 23) (mi 24) (mi 26) (mi 27) (mi 28) (mi 29) (mi 30) (mi 31) (mi 32) (mi 33) w0_37 (mi 41) (mi 42) (mi 43) (mi 44) (mi 45) (mi 47) (mi 48) (mi 49) (mi 50) (mi 51) (mi 54) (mi 56) fm_trust fm_letter fm_reportPlace fm_reportKind fm_struck fm_reportMonth fm_reportDay fm_reportKnown fm_deedMonth fm_deedDay fm_deedLong fm_deedKind fm_kept fm_tape z1 z2 fm_pin fm_ways fm_verdict fm_row fm_official fm_aside fm_worth fm_out) → va_S A s.heap H locs → lv_has ls 2 [(0, .ref h0), (1, .int v1)] → W p l e R s m args below meth c H locs cells slots Q (F0 m 7 ls [])) := by
  intro z
  induction z with
  | zero =>
    intro v1 w0_37 z1 z2 H locs ls gv1 gw0_37 hF hmu hP hD hS hl
    exact absurd hmu (by have hv11 := gv1.1; have hv12 := gv1.2; omega)
  | succ z ih =>
      intro v1 w0_37 z1 z2 H locs ls gv1 gw0_37 hF hmu hP hD hS hl
      have hF : dfX12_frees_7 fm_must fm_least fm_pin (lfX12_frees fm_must fm_least fm_pin z) v1 w0_37 z1 z2 = RES := hF
      refine lv_iload_n hx hb (dk_at dkX12_frees 5 rfl) rfl (lv_at hl 1 rfl) ?_
      refine lv_bipush (v := 24) hx hb (dk_at dkX12_frees 6 rfl) (by decide) ?_
      refine lv_icmp_gt (tgt := 33) hx hb (dk_at dkX12_frees 7 rfl) (by decide) (fun c_77 => ?_) (fun c_77 => ?_)
      · have hF := gf_pos c_77 hF
        have g_78 : gi v1 25 25 := gi_lt_r c_77 (gi_c 24 24 (by decide)) gv1 (by decide)
        refine lv_aload_n hx hb (dk_at dkX12_frees 20 rfl) rfl (lv_at hl 0 rfl) ?_
        have hFc := gz_fullF hD hS hA
        refine va_callv (va_runV (As := []) (rest := []) ⟨hx, hb, hml, hown, hts⟩ (sX12_unpins l dC dI H.size h0 (upd mi 37 w0_37) mr km fm_pin fm_trust fm_letter fm_reportPlace fm_reportKind fm_struck fm_reportMonth fm_reportDay fm_reportKnown fm_deedMonth fm_deedDay fm_deedLong fm_deedKind fm_kept fm_tape z1 z2 fm_ways fm_verdict fm_row fm_official fm_aside fm_worth fm_out gmi_0 gmi_1 gmi_2 gmi_4 gmi_7 gmi_10 gmi_17 gmi_23 gmi_24 gmi_26 gmi_29 gmi_30 gmi_33 gw0_37 gmi_41 gmi_50 gmi_51 gmi_56) (cwV 0 hts (gz_gV mGB_271 mGB_272 mGB_273 mGB_1 mGB_274 goodGB) rfl rfl rfl hdV_X12_unpins_X12_0 ⟨Nat.le_trans (Nat.le_of_ble_eq_true rfl) hRf, Nat.le_trans (Nat.le_of_ble_eq_true rfl) hRl⟩) ⟨bl_W, mw_recv hK hP, fun U hU hW => ⟨rfl, by rw [hU], by rw [hU]; exact hP, va_K.moved hW.alike hK, hD.weaken (fun _ _ _ _ => trivial)⟩⟩ rfl rfl hl.1 rfl (lv_room (Nat.le_of_ble_eq_true rfl)) (dk_at dkX12_frees 21 rfl) ⟨hRc, hRs⟩) hS (fun q _ h => hFc q h) hFc (fun u t H1 locs ht hvm hw hB hz1 hk1 hS => ?_)
        obtain ⟨f_80, hB⟩ := hB
        obtain ⟨hE, hP1, hD1⟩ := hB
        rw [ht] at hP1
        have hD : va_D A (MWn h0 mr km (mi 0) (mi 1) (mi 2) (mi 3) (mi 4) (mi 5) (mi 6) (mi 7) (mi 10) (mi 17) (mi 23) (mi 24) (mi 26) (mi 27) (mi 28) (mi 29) (mi 30) (mi 31) (mi 32) (mi 33) w0_37 (mi 41) (mi 42) (mi 43) (mi 44) (mi 45) (mi 47) (mi 48) (mi 49) (mi 50) (mi 51) (mi 54) (mi 56) fm_trust fm_letter fm_reportPlace fm_reportKind fm_struck fm_reportMonth fm_reportDay fm_reportKnown fm_deedMonth fm_deedDay fm_deedLong fm_deedKind fm_kept fm_tape z1 z2 f_80 fm_ways fm_verdict fm_row fm_official fm_aside fm_worth fm_out) := gz_fullD hFc hD1
        have hP : va_P (dC, dI) vwCl (MWn h0 mr km (mi 0) (mi 1) (mi 2) (mi 3) (mi 4) (mi 5) (mi 6) (mi 7) (mi 10) (mi 17) (mi 23) (mi 24) (mi 26) (mi 27) (mi 28) (mi 29) (mi 30) (mi 31) (mi 32) (mi 33) w0_37 (mi 41) (mi 42) (mi 43) (mi 44) (mi 45) (mi 47) (mi 48) (mi 49) (mi 50) (mi 51) (mi 54) (mi 56) fm_trust fm_letter fm_reportPlace fm_reportKind fm_struck fm_reportMonth fm_reportDay fm_reportKnown fm_deedMonth fm_deedDay fm_deedLong fm_deedKind fm_kept fm_tape z1 z2 f_80 fm_ways fm_verdict fm_row fm_official fm_aside fm_worth fm_out) H1 := hP1
        have hF := gf_call (a := f_80) hE hF
        generalize H1 = H at hP hS ⊢
        exact kr37 w0_37 z1 z2 f_80 _ _ _ gw0_37 hF hP hD hS (lv_sub hl [] rfl)
      · have hF := gf_neg c_77 hF
        have g_81 : gi v1 0 24 := gi_le_l (Int32.not_lt.mp c_77) gv1 (gi_c 24 24 (by decide))
        refine lv_aload_n hx hb (dk_at dkX12_frees 8 rfl) rfl (lv_at hl 0 rfl) ?_
        refine va_get (D := (dC, dI)) (ci := 12) (v := .ref (mr 14)) (C := RX12) (T := TX12) (N := 57) hx hb hts (fun w h => List.mem_cons_of_mem _ (jnGB_X12 w h)) hown hK hP 0 rfl rfl 34 (by decide) (hts _ (List.mem_cons_of_mem _ mGB_26)) (fun _ h9 => h9) rfl (dk_at dkX12_frees 9 rfl) ?_
        refine lv_iload_n hx hb (dk_at dkX12_frees 10 rfl) rfl (lv_at hl 1 rfl) ?_
        refine lv_iconst (v := (-1)) hx hb (dk_at dkX12_frees 11 rfl) (by decide) ?_
        refine va_iast hx hb hK hP hD hS 15 14 rfl rfl (gi_in g_81 (by decide)) (dk_at dkX12_frees 12 rfl) (fun H locs hP hD hS => ?_)
        obtain ⟨hP, hD⟩ := gz_both (w := (MWn h0 mr km (mi 0) (mi 1) (mi 2) (mi 3) (mi 4) (mi 5) (mi 6) (mi 7) (mi 10) (mi 17) (mi 23) (mi 24) (mi 26) (mi 27) (mi 28) (mi 29) (mi 30) (mi 31) (mi 32) (mi 33) w0_37 (mi 41) (mi 42) (mi 43) (mi 44) (mi 45) (mi 47) (mi 48) (mi 49) (mi 50) (mi 51) (mi 54) (mi 56) fm_trust fm_letter fm_reportPlace fm_reportKind fm_struck fm_reportMonth fm_reportDay fm_reportKnown fm_deedMonth fm_deedDay fm_deedLong fm_deedKind fm_kept fm_tape (upd z1 (v1 : Int32).toNatClampNeg (-1)) z2 fm_pin fm_ways fm_verdict fm_row fm_official fm_aside fm_worth fm_out)) hP hD
        generalize ef_82 : upd z1 (v1 : Int32).toNatClampNeg (-1) = f_82 at hP hD
        refine lv_aload_n hx hb (dk_at dkX12_frees 13 rfl) rfl (lv_at hl 0 rfl) ?_
        refine va_get (D := (dC, dI)) (ci := 12) (v := .ref (mr 15)) (C := RX12) (T := TX12) (N := 57) hx hb hts (fun w h => List.mem_cons_of_mem _ (jnGB_X12 w h)) hown hK hP 0 rfl rfl 35 (by decide) (hts _ (List.mem_cons_of_mem _ mGB_27)) (fun _ h9 => h9) rfl (dk_at dkX12_frees 14 rfl) ?_
        refine lv_iload_n hx hb (dk_at dkX12_frees 15 rfl) rfl (lv_at hl 1 rfl) ?_
        refine lv_iconst (v := 0) hx hb (dk_at dkX12_frees 16 rfl) (by decide) ?_
        refine va_iast hx hb hK hP hD hS 16 15 rfl rfl (gi_in g_81 (by decide)) (dk_at dkX12_frees 17 rfl) (fun H locs hP hD hS => ?_)
        obtain ⟨hP, hD⟩ := gz_both (w := (MWn h0 mr km (mi 0) (mi 1) (mi 2) (mi 3) (mi 4) (mi 5) (mi 6) (mi 7) (mi 10) (mi 17) (mi 23) (mi 24) (mi 26) (mi 27) (mi 28) (mi 29) (mi 30) (mi 31) (mi 32) (mi 33) w0_37 (mi 41) (mi 42) (mi 43) (mi 44) (mi 45) (mi 47) (mi 48) (mi 49) (mi 50) (mi 51) (mi 54) (mi 56) fm_trust fm_letter fm_reportPlace fm_reportKind fm_struck fm_reportMonth fm_reportDay fm_reportKnown fm_deedMonth fm_deedDay fm_deedLong fm_deedKind fm_kept fm_tape f_82 (upd z2 (v1 : Int32).toNatClampNeg 0) fm_pin fm_ways fm_verdict fm_row fm_official fm_aside fm_worth fm_out)) hP hD
        generalize ef_83 : upd z2 (v1 : Int32).toNatClampNeg 0 = f_83 at hP hD
        obtain ⟨x_84, ex_84⟩ : ∃ y : Int32, y = v1 + 1 := ⟨_, rfl⟩
        have gx_84 : gi x_84 1 25 := gi_add ex_84 g_81 (gi_c 1 1 (by decide)) (by decide)
        refine lv_iinc (v := x_84) (lv' := [(1, .int x_84), (0, .ref h0)]) hx hb (dk_at dkX12_frees 18 rfl) hl (k := 1) rfl (by rw [ex_84]; rfl) (by decide) rfl (fun ls hl => ?_)
        refine lv_goto (tgt := 7) hx hb (dk_at dkX12_frees 19 rfl) (by decide) ?_
        exact ih x_84 w0_37 f_82 f_83 _ _ _ (gi_w gx_84 (by decide)) gw0_37 (by first | (rw [ex_84, ← ef_83, ← ef_82]; exact hF) | ((try rw [ex_84]); (try rw [← ef_83]); (try rw [← ef_82]); exact hF)) (by have av1 := gv1.1; have bv1 := gv1.2; have qgx_84 := gx_84.1; have rgx_84 := gx_84.2; have igx_84 : x_84.toInt = v1.toInt + 1 := (by have hc1 : (1 : Int32).toInt = 1 := (by decide); have h9 := gi_addE ex_84 g_81 (gi_c 1 1 (by decide)) (by decide); rw [hc1] at h9; exact h9); have qgv1 := g_81.1; have rgv1 := g_81.2; omega) hP hD hS (lv_sub hl [1, 0] rfl)
abbrev pb_sX12_frees (dC : Nat → ClassId) (dI : Nat → Nat → Nat) (A9 : Nat → Prop) (h0 : Nat) (mi : Nat → Int32) (mr : Nat → Nat) (km : Nat → ClassId) (fm_must : Nat → Int32) (fm_least : Nat → Int32) (fm_pin : Nat → Int32) (fm_trust : Nat → Int32) (fm_letter : Nat → Int32) (fm_reportPlace : Nat → Int32) (fm_reportKind : Nat → Int32) (fm_struck : Nat → Int32) (fm_reportMonth : Nat → Int32) (fm_reportDay : Nat → Int32) (fm_reportKnown : Nat → Int32) (fm_deedMonth : Nat → Int32) (fm_deedDay : Nat → Int32) (fm_deedLong : Nat → Int32) (fm_deedKind : Nat → Int32) (fm_kept : Nat → Int32) (fm_tape : Nat → Int32) (fm_ways : Nat → Int32) (fm_verdict : Nat → Int32) (fm_row : Nat → Int32) (fm_official : Nat → Int32) (fm_aside : Nat → Int32) (fm_worth : Nat → Int32) (fm_out : Nat → Int32) (w0_37 : Int32) (z1 : Nat → Int32) (z2 : Nat → Int32) (z3 : Nat → Int32) (t : State) : Prop := gi w0_37 0 1 ∧ (w0_37, z1, z2, z3) = fX12_frees fm_must fm_least fm_pin ∧ va_P (dC, dI) vwCl (MWn h0 mr km (mi 0) (mi 1) (mi 2) (mi 3) (mi 4) (mi 5) (mi 6) (mi 7) (mi 10) (mi 17) (mi 23) (mi 24) (mi 26) (mi 27) (mi 28) (mi 29) (mi 30) (mi 31) (mi 32) (mi 33) w0_37 (mi 41) (mi 42) (mi 43) (mi 44) (mi 45) (mi 47) (mi 48) (mi 49) (mi 50) (mi 51) (mi 54) (mi 56) fm_trust fm_letter fm_reportPlace fm_reportKind fm_struck fm_reportMonth fm_reportDay fm_reportKnown fm_deedMonth fm_deedDay fm_deedLong fm_deedKind fm_kept fm_tape z1 z2 z3 fm_ways fm_verdict fm_row fm_official fm_aside fm_worth fm_out) t.heap ∧ va_D A9 (MWn h0 mr km (mi 0) (mi 1) (mi 2) (mi 3) (mi 4) (mi 5) (mi 6) (mi 7) (mi 10) (mi 17) (mi 23) (mi 24) (mi 26) (mi 27) (mi 28) (mi 29) (mi 30) (mi 31) (mi 32) (mi 33) w0_37 (mi 41) (mi 42) (mi 43) (mi 44) (mi 45) (mi 47) (mi 48) (mi 49) (mi 50) (mi 51) (mi 54) (mi 56) fm_trust fm_letter fm_reportPlace fm_reportKind fm_struck fm_reportMonth fm_reportDay fm_reportKnown fm_deedMonth fm_deedDay fm_deedLong fm_deedKind fm_kept fm_tape z1 z2 z3 fm_ways fm_verdict fm_row fm_official fm_aside fm_worth fm_out)
set_option maxHeartbeats 4000000 in
set_option maxRecDepth 100000 in
theorem sX12_frees (l : Launch) (dC : Nat → ClassId) (dI : Nat → Nat → Nat) (sz : Nat) (h0 : Nat) (mi : Nat → Int32) (mr : Nat → Nat) (km : Nat → ClassId) (fm_must : Nat → Int32) (fm_least : Nat → Int32) (fm_pin : Nat → Int32) (fm_trust : Nat → Int32) (fm_letter : Nat → Int32) (fm_reportPlace : Nat → Int32) (fm_reportKind : Nat → Int32) (fm_struck : Nat → Int32) (fm_reportMonth : Nat → Int32) (fm_reportDay : Nat → Int32) (fm_reportKnown : Nat → Int32) (fm_deedMonth : Nat → Int32) (fm_deedDay : Nat → Int32) (fm_deedLong : Nat → Int32) (fm_deedKind : Nat → Int32) (fm_kept : Nat → Int32) (fm_tape : Nat → Int32) (fm_ways : Nat → Int32) (fm_verdict : Nat → Int32) (fm_row : Nat → Int32) (fm_official : Nat → Int32) (fm_aside : Nat → Int32) (fm_worth : Nat → Int32) (fm_out : Nat → Int32) (gmi_0 : gi (mi 0) 0 24) (gmi_1 : gi (mi 1) 0 5) (gmi_2 : gi (mi 2) 0 5) (gmi_4 : gi (mi 4) 0 1) (gmi_7 : gi (mi 7) 0 6) (gmi_10 : gi (mi 10) 0 24) (gmi_17 : gi (mi 17) 0 8) (gmi_23 : gi (mi 23) 0 300) (gmi_24 : gi (mi 24) 0 1) (gmi_26 : gi (mi 26) 0 1600) (gmi_29 : gi (mi 29) 0 1600) (gmi_30 : gi (mi 30) 0 1600) (gmi_33 : gi (mi 33) 0 1) (gmi_37 : gi (mi 37) 0 1) (gmi_41 : gi (mi 41) 0 24) (gmi_50 : gi (mi 50) 0 1) (gmi_51 : gi (mi 51) 0 1) (gmi_56 : gi (mi 56) 0 80) : Met l yX12_frees (.code yX12_frees cX12_frees 2 none :: wsGB) ({ frames := 1, cells := 0, slots := 0, locals := 21 }) (va_Pc [.ref h0] (fun U => U.heap.size = sz ∧ va_P (dC, dI) vwCl (MWn h0 mr km (mi 0) (mi 1) (mi 2) (mi 3) (mi 4) (mi 5) (mi 6) (mi 7) (mi 10) (mi 17) (mi 23) (mi 24) (mi 26) (mi 27) (mi 28) (mi 29) (mi 30) (mi 31) (mi 32) (mi 33) (mi 37) (mi 41) (mi 42) (mi 43) (mi 44) (mi 45) (mi 47) (mi 48) (mi 49) (mi 50) (mi 51) (mi 54) (mi 56) fm_trust fm_letter fm_reportPlace fm_reportKind fm_struck fm_reportMonth fm_reportDay fm_reportKnown fm_deedMonth fm_deedDay fm_deedLong fm_deedKind fm_kept fm_tape fm_must fm_least fm_pin fm_ways fm_verdict fm_row fm_official fm_aside fm_worth fm_out) U.heap ∧ va_K (dC, dI) vwCl (MT km) U ∧ va_D (fun _ => True) (MWn h0 mr km (mi 0) (mi 1) (mi 2) (mi 3) (mi 4) (mi 5) (mi 6) (mi 7) (mi 10) (mi 17) (mi 23) (mi 24) (mi 26) (mi 27) (mi 28) (mi 29) (mi 30) (mi 31) (mi 32) (mi 33) (mi 37) (mi 41) (mi 42) (mi 43) (mi 44) (mi 45) (mi 47) (mi 48) (mi 49) (mi 50) (mi 51) (mi 54) (mi 56) fm_trust fm_letter fm_reportPlace fm_reportKind fm_struck fm_reportMonth fm_reportDay fm_reportKnown fm_deedMonth fm_deedDay fm_deedLong fm_deedKind fm_kept fm_tape fm_must fm_least fm_pin fm_ways fm_verdict fm_row fm_official fm_aside fm_worth fm_out))) (va_Qv (fun (u : Unit) => True) (fun _ t => ∃ (w0_37 : Int32) (z1 : Nat → Int32) (z2 : Nat → Int32) (z3 : Nat → Int32), pb_sX12_frees dC dI (va_A (MWn h0 mr km (mi 0) (mi 1) (mi 2) (mi 3) (mi 4) (mi 5) (mi 6) (mi 7) (mi 10) (mi 17) (mi 23) (mi 24) (mi 26) (mi 27) (mi 28) (mi 29) (mi 30) (mi 31) (mi 32) (mi 33) (mi 37) (mi 41) (mi 42) (mi 43) (mi 44) (mi 45) (mi 47) (mi 48) (mi 49) (mi 50) (mi 51) (mi 54) (mi 56) fm_trust fm_letter fm_reportPlace fm_reportKind fm_struck fm_reportMonth fm_reportDay fm_reportKnown fm_deedMonth fm_deedDay fm_deedLong fm_deedKind fm_kept fm_tape fm_must fm_least fm_pin fm_ways fm_verdict fm_row fm_official fm_aside fm_worth fm_out) sz) h0 mi mr km fm_must fm_least fm_pin fm_trust fm_letter fm_reportPlace fm_reportKind fm_struck fm_reportMonth fm_reportDay fm_reportKnown fm_deedMonth fm_deedDay fm_deedLong fm_deedKind fm_kept fm_tape fm_ways fm_verdict fm_row fm_official fm_aside fm_worth fm_out w0_37 z1 z2 z3 t) (va_A (MWn h0 mr km (mi 0) (mi 1) (mi 2) (mi 3) (mi 4) (mi 5) (mi 6) (mi 7) (mi 10) (mi 17) (mi 23) (mi 24) (mi 26) (mi 27) (mi 28) (mi 29) (mi 30) (mi 31) (mi 32) (mi 33) (mi 37) (mi 41) (mi 42) (mi 43) (mi 44) (mi 45) (mi 47) (mi 48) (mi 49) (mi 50) (mi 51) (mi 54) (mi 56) fm_trust fm_letter fm_reportPlace fm_reportKind fm_struck fm_reportMonth fm_reportDay fm_reportKnown fm_deedMonth fm_deedDay fm_deedLong fm_deedKind fm_kept fm_tape fm_must fm_least fm_pin fm_ways fm_verdict fm_row fm_official fm_aside fm_worth fm_out) sz)) 0 0 (va_A (MWn h0 mr km (mi 0) (mi 1) (mi 2) (mi 3) (mi 4) (mi 5) (mi 6) (mi 7) (mi 10) (mi 17) (mi 23) (mi 24) (mi 26) (mi 27) (mi 28) (mi 29) (mi 30) (mi 31) (mi 32) (mi 33) (mi 37) (mi 41) (mi 42) (mi 43) (mi 44) (mi 45) (mi 47) (mi 48) (mi 49) (mi 50) (mi 51) (mi 54) (mi 56) fm_trust fm_letter fm_reportPlace fm_reportKind fm_struck fm_reportMonth fm_reportDay fm_reportKnown fm_deedMonth fm_deedDay fm_deedLong fm_deedKind fm_kept fm_tape fm_must fm_least fm_pin fm_ways fm_verdict fm_row fm_official fm_aside fm_worth fm_out) sz) := by
  refine Met.ofW (cc := cX12_frees) (maxL := 2) (ret := none) (by decide) rfl ?_
  intro p e s m args below meth c s₁ B hml hv
  obtain ⟨rfl, hsz, hP, hK, hD0⟩ := hv
  have hx := B.exec
  have hb := B.bytes
  have hr := B.returns
  have hts := atoms_spec (ws := (.code yX12_frees cX12_frees 2 none :: wsGB)) B.pre
  have hown : s.vm.findClass RX12 = some m.cls := findClass_of_methodNamed B.named
  have hlocks := B.notSynchronized
  subst hsz
  have hD := hD0.self (sz := s.heap.size)
  generalize hAe : va_A (MWn h0 mr km (mi 0) (mi 1) (mi 2) (mi 3) (mi 4) (mi 5) (mi 6) (mi 7) (mi 10) (mi 17) (mi 23) (mi 24) (mi 26) (mi 27) (mi 28) (mi 29) (mi 30) (mi 31) (mi 32) (mi 33) (mi 37) (mi 41) (mi 42) (mi 43) (mi 44) (mi 45) (mi 47) (mi 48) (mi 49) (mi 50) (mi 51) (mi 54) (mi 56) fm_trust fm_letter fm_reportPlace fm_reportKind fm_struck fm_reportMonth fm_reportDay fm_reportKnown fm_deedMonth fm_deedDay fm_deedLong fm_deedKind fm_kept fm_tape fm_must fm_least fm_pin fm_ways fm_verdict fm_row fm_official fm_aside fm_worth fm_out) s.heap.size = A at hD ⊢
  have hA : ∀ q : Nat, s.heap.size ≤ q → A q := fun q h => by rw [← hAe]; exact Or.inr h
  have hS : va_S A s.heap s.heap [] := va_S.rf
  have hl := lv_entry ([.ref h0]) (n := 2) (Nat.le_of_ble_eq_true rfl)
  rw [lg_entry_eq]
  generalize (lg_sl ([.ref h0]) ++ List.replicate (2 - (lg_sl ([.ref h0])).length) Slot.unset).toArray = ls at hl ⊢
  have hl : lv_has ls 2 [(0, .ref h0)] := hl
  obtain ⟨RES, hF⟩ : ∃ R9, fX12_frees fm_must fm_least fm_pin = R9 := ⟨_, rfl⟩
  have hR9 := hF
  refine lv_aload_n hx hb (dk_at dkX12_frees 0 rfl) rfl (lv_at hl 0 rfl) ?_
  refine lv_iconst (v := 0) hx hb (dk_at dkX12_frees 1 rfl) (by decide) ?_
  refine va_put (D := (dC, dI)) (ci := 12) (v := .int 0) (ty := .boolean) (C := RX12) (T := TX12) (N := 57) hx hb hts (fun w h => List.mem_cons_of_mem _ (jnGB_X12 w h)) tyX12 tyX12_ok nmX12 hown hK hP hD hS 0 rfl rfl 37 (by decide) (hts _ (List.mem_cons_of_mem _ mGB_270)) (fun _ h9 => h9) rfl fdX12_37 rfl rfl (Nat.le_of_ble_eq_true rfl) (dk_at dkX12_frees 2 rfl) (fun H locs hP hD hS => ?_)
  obtain ⟨hP, hD⟩ := gz_both (w := (MWn h0 mr km (mi 0) (mi 1) (mi 2) (mi 3) (mi 4) (mi 5) (mi 6) (mi 7) (mi 10) (mi 17) (mi 23) (mi 24) (mi 26) (mi 27) (mi 28) (mi 29) (mi 30) (mi 31) (mi 32) (mi 33) 0 (mi 41) (mi 42) (mi 43) (mi 44) (mi 45) (mi 47) (mi 48) (mi 49) (mi 50) (mi 51) (mi 54) (mi 56) fm_trust fm_letter fm_reportPlace fm_reportKind fm_struck fm_reportMonth fm_reportDay fm_reportKnown fm_deedMonth fm_deedDay fm_deedLong fm_deedKind fm_kept fm_tape fm_must fm_least fm_pin fm_ways fm_verdict fm_row fm_official fm_aside fm_worth fm_out)) hP hD
  refine lv_iconst (v := 0) hx hb (dk_at dkX12_frees 3 rfl) (by decide) ?_
  refine lv_istore_n (lv' := [(1, .int 0), (0, .ref h0)]) hx hb (dk_at dkX12_frees 4 rfl) rfl hl (by decide) rfl (fun ls hl => ?_)
  refine (lp_sX12_frees h0 mi mr km fm_must fm_least fm_pin fm_trust fm_letter fm_reportPlace fm_reportKind fm_struck fm_reportMonth fm_reportDay fm_reportKnown fm_deedMonth fm_deedDay fm_deedLong fm_deedKind fm_kept fm_tape fm_ways fm_verdict fm_row fm_official fm_aside fm_worth fm_out gmi_0 gmi_1 gmi_2 gmi_4 gmi_7 gmi_10 gmi_17 gmi_23 gmi_24 gmi_26 gmi_29 gmi_30 gmi_33 gmi_37 gmi_41 gmi_50 gmi_51 gmi_56 hx hb hml hown hts hK hA (Nat.le_of_ble_eq_true rfl) (Nat.le_of_ble_eq_true rfl) (Nat.zero_le _) (Nat.zero_le _) (fun w0_37 z1 z2 z3 H locs ls gw0_37 hF hP hD hS hl => ?_) 1000000000) 0 0 fm_must fm_least _ _ _ (gi_w (gi_c 0 0 (by decide)) (by decide)) (gi_w (gi_c 0 0 (by decide)) (by decide)) hF (by have k0 : (0 : Int32).toInt = 0 := (by decide); omega) hP hD hS (lv_sub hl [1, 0] rfl)
  · skip
    exact W.vret hx hb hr (fun t ht hW => ⟨⟨(), rfl, trivial, w0_37, z1, z2, z3, gw0_37, hF.trans hR9.symm, by rw [ht]; exact hP, hD⟩, hS.F ht⟩) hS.2.2 (dk_at dkX12_frees 22 rfl)
noncomputable def lsX12_isOpen : List (Nat × Instr × Nat) := [(0, .aload_n 0, 1), (1, .getfield 57, 3), (4, .iload_n 1, 1), (5, .iaload, 1), (6, .iconst (-1), 1), (7, .if_icmp .eq 13, 3), (10, .aload_n 0, 1), (11, .getfield 57, 3), (14, .iload_n 1, 1), (15, .iaload, 1), (16, .iload_n 2, 1), (17, .if_icmp .ne 37, 3), (20, .iload_n 2, 1), (21, .aload_n 0, 1), (22, .getfield 60, 3), (25, .iload_n 1, 1), (26, .iaload, 1), (27, .if_icmp .lt 27, 3), (30, .aload_n 0, 1), (31, .getfield 63, 3), (34, .iload_n 1, 1), (35, .iaload, 1), (36, .iconst (-1), 1), (37, .if_icmp .eq 13, 3), (40, .aload_n 0, 1), (41, .getfield 63, 3), (44, .iload_n 1, 1), (45, .iaload, 1), (46, .iload_n 2, 1), (47, .if_icmp .ne 7, 3), (50, .iconst 1, 1), (51, .goto 4, 3), (54, .iconst 0, 1), (55, .ireturn, 1)]
theorem dkX12_isOpen : dkAll cX12_isOpen lsX12_isOpen = true := dk_fast (by decide +kernel)
noncomputable def bfX12_isOpen_55 (fm_must : Nat → Int32) (fm_least : Nat → Int32) (fm_pin : Nat → Int32) (p1 : Int32) (p2 : Int32) (s0 : Int32) : Int32 := s0
noncomputable def bfX12_isOpen_50 (fm_must : Nat → Int32) (fm_least : Nat → Int32) (fm_pin : Nat → Int32) (p1 : Int32) (p2 : Int32) : Int32 := bfX12_isOpen_55 fm_must fm_least fm_pin p1 p2 (1 : Int32)
noncomputable def bfX12_isOpen_54 (fm_must : Nat → Int32) (fm_least : Nat → Int32) (fm_pin : Nat → Int32) (p1 : Int32) (p2 : Int32) : Int32 := bfX12_isOpen_55 fm_must fm_least fm_pin p1 p2 (0 : Int32)
noncomputable def bfX12_isOpen_20 (fm_must : Nat → Int32) (fm_least : Nat → Int32) (fm_pin : Nat → Int32) (p1 : Int32) (p2 : Int32) : Int32 := if p2 < (fm_least p1.toNatClampNeg) then (bfX12_isOpen_54 fm_must fm_least fm_pin p1 p2) else (if (fm_pin p1.toNatClampNeg) = (-1 : Int32) then (bfX12_isOpen_50 fm_must fm_least fm_pin p1 p2) else (if (fm_pin p1.toNatClampNeg) = p2 then (bfX12_isOpen_50 fm_must fm_least fm_pin p1 p2) else (bfX12_isOpen_54 fm_must fm_least fm_pin p1 p2)))
noncomputable def fX12_isOpen (fm_must : Nat → Int32) (fm_least : Nat → Int32) (fm_pin : Nat → Int32) (p1 : Int32) (p2 : Int32) : Int32 := if (fm_must p1.toNatClampNeg) = (-1 : Int32) then (bfX12_isOpen_20 fm_must fm_least fm_pin p1 p2) else (if (fm_must p1.toNatClampNeg) = p2 then (bfX12_isOpen_20 fm_must fm_least fm_pin p1 p2) else (bfX12_isOpen_54 fm_must fm_least fm_pin p1 p2))
set_option maxHeartbeats 4000000 in
set_option maxRecDepth 100000 in
theorem sX12_isOpen (l : Launch) (dC : Nat → ClassId) (dI : Nat → Nat → Nat) (h0 : Nat) (mi : Nat → Int32) (mr : Nat → Nat) (km : Nat → ClassId) (fm_must : Nat → Int32) (fm_least : Nat → Int32) (fm_pin : Nat → Int32) (fm_trust : Nat → Int32) (fm_letter : Nat → Int32) (fm_reportPlace : Nat → Int32) (fm_reportKind : Nat → Int32) (fm_struck : Nat → Int32) (fm_reportMonth : Nat → Int32) (fm_reportDay : Nat → Int32) (fm_reportKnown : Nat → Int32) (fm_deedMonth : Nat → Int32) (fm_deedDay : Nat → Int32) (fm_deedLong : Nat → Int32) (fm_deedKind : Nat → Int32) (fm_kept : Nat → Int32) (fm_tape : Nat → Int32) (fm_ways : Nat → Int32) (fm_verdict : Nat → Int32) (fm_row : Nat → Int32) (fm_official : Nat → Int32) (fm_aside : Nat → Int32) (fm_worth : Nat → Int32) (fm_out : Nat → Int32) (p1 : Int32) (p2 : Int32) (gmi_0 : gi (mi 0) 0 24) (gmi_1 : gi (mi 1) 0 5) (gmi_2 : gi (mi 2) 0 5) (gmi_4 : gi (mi 4) 0 1) (gmi_7 : gi (mi 7) 0 6) (gmi_10 : gi (mi 10) 0 24) (gmi_17 : gi (mi 17) 0 8) (gmi_23 : gi (mi 23) 0 300) (gmi_24 : gi (mi 24) 0 1) (gmi_26 : gi (mi 26) 0 1600) (gmi_29 : gi (mi 29) 0 1600) (gmi_30 : gi (mi 30) 0 1600) (gmi_33 : gi (mi 33) 0 1) (gmi_37 : gi (mi 37) 0 1) (gmi_41 : gi (mi 41) 0 24) (gmi_50 : gi (mi 50) 0 1) (gmi_51 : gi (mi 51) 0 1) (gmi_56 : gi (mi 56) 0 80) (gp1 : gi p1 0 24) : Met l yX12_isOpen (.code yX12_isOpen cX12_isOpen 3 (some .boolean) :: wsGB) ({ frames := 0, cells := 0, slots := 0, locals := 0 }) (va_Pc [.ref h0, .int p1, .int p2] (fun U => va_P (dC, dI) vwCl (MWn h0 mr km (mi 0) (mi 1) (mi 2) (mi 3) (mi 4) (mi 5) (mi 6) (mi 7) (mi 10) (mi 17) (mi 23) (mi 24) (mi 26) (mi 27) (mi 28) (mi 29) (mi 30) (mi 31) (mi 32) (mi 33) (mi 37) (mi 41) (mi 42) (mi 43) (mi 44) (mi 45) (mi 47) (mi 48) (mi 49) (mi 50) (mi 51) (mi 54) (mi 56) fm_trust fm_letter fm_reportPlace fm_reportKind fm_struck fm_reportMonth fm_reportDay fm_reportKnown fm_deedMonth fm_deedDay fm_deedLong fm_deedKind fm_kept fm_tape fm_must fm_least fm_pin fm_ways fm_verdict fm_row fm_official fm_aside fm_worth fm_out) U.heap ∧ va_K (dC, dI) vwCl (MT km) U)) (va_Qi (fun (r : Int32) (u : Unit) => (gi r 0 1) ∧ r = fX12_isOpen fm_must fm_least fm_pin p1 p2) (fun _ _ => True) (fun _ => False)) 0 0 (fun _ => False) := by
  refine Met.ofW (cc := cX12_isOpen) (maxL := 3) (ret := (some .boolean)) (by decide) rfl ?_
  intro p e s m args below meth c s₁ B hml hv
  obtain ⟨rfl, hP, hK⟩ := hv
  have hx := B.exec
  have hb := B.bytes
  have hr := B.returns
  have hts := atoms_spec (ws := (.code yX12_isOpen cX12_isOpen 3 (some .boolean) :: wsGB)) B.pre
  have hown : s.vm.findClass RX12 = some m.cls := findClass_of_methodNamed B.named
  have hlocks := B.notSynchronized
  have hS : va_S (fun _ => False) s.heap s.heap [] := va_S.rf
  have hl := lv_entry ([.ref h0, .int p1, .int p2]) (n := 3) (Nat.le_of_ble_eq_true rfl)
  rw [lg_entry_eq]
  generalize (lg_sl ([.ref h0, .int p1, .int p2]) ++ List.replicate (3 - (lg_sl ([.ref h0, .int p1, .int p2])).length) Slot.unset).toArray = ls at hl ⊢
  have hl : lv_has ls 3 [(0, .ref h0), (1, .int p1), (2, .int p2)] := hl
  obtain ⟨RES, hF⟩ : ∃ R9, fX12_isOpen fm_must fm_least fm_pin p1 p2 = R9 := ⟨_, rfl⟩
  have hR9 := hF
  refine lv_aload_n hx hb (dk_at dkX12_isOpen 0 rfl) rfl (lv_at hl 0 rfl) ?_
  refine va_get (D := (dC, dI)) (ci := 12) (v := .ref (mr 14)) (C := RX12) (T := TX12) (N := 57) hx hb hts (fun w h => List.mem_cons_of_mem _ (jnGB_X12 w h)) hown hK hP 0 rfl rfl 34 (by decide) (hts _ (List.mem_cons_of_mem _ mGB_26)) (fun _ h9 => h9) rfl (dk_at dkX12_isOpen 1 rfl) ?_
  refine lv_iload_n hx hb (dk_at dkX12_isOpen 2 rfl) rfl (lv_at hl 1 rfl) ?_
  refine va_iald hx hb hK hP 15 14 rfl rfl (gi_in gp1 (by decide)) (dk_at dkX12_isOpen 3 rfl) ?_
  refine lv_topi (fun x_24 ex_24 => ?_)
  refine lv_iconst (v := (-1)) hx hb (dk_at dkX12_isOpen 4 rfl) (by decide) ?_
  refine lv_icmp_eq (tgt := 20) hx hb (dk_at dkX12_isOpen 5 rfl) (by decide) (fun c_25 => ?_) (fun c_25 => ?_)
  · have hF := gf_pos (by rw [ex_24] at c_25; exact c_25) hF
    have g_26 : gi x_24 (-1) (-1) := gi_eq c_25 (gi_c (-1) (-1) (by decide))
    refine lv_iload_n hx hb (dk_at dkX12_isOpen 12 rfl) rfl (lv_at hl 2 rfl) ?_
    refine lv_aload_n hx hb (dk_at dkX12_isOpen 13 rfl) rfl (lv_at hl 0 rfl) ?_
    refine va_get (D := (dC, dI)) (ci := 12) (v := .ref (mr 15)) (C := RX12) (T := TX12) (N := 57) hx hb hts (fun w h => List.mem_cons_of_mem _ (jnGB_X12 w h)) hown hK hP 0 rfl rfl 35 (by decide) (hts _ (List.mem_cons_of_mem _ mGB_27)) (fun _ h9 => h9) rfl (dk_at dkX12_isOpen 14 rfl) ?_
    refine lv_iload_n hx hb (dk_at dkX12_isOpen 15 rfl) rfl (lv_at hl 1 rfl) ?_
    refine va_iald hx hb hK hP 16 15 rfl rfl (gi_in gp1 (by decide)) (dk_at dkX12_isOpen 16 rfl) ?_
    refine lv_topi (fun x_27 ex_27 => ?_)
    refine lv_icmp_lt (tgt := 54) hx hb (dk_at dkX12_isOpen 17 rfl) (by decide) (fun c_28 => ?_) (fun c_28 => ?_)
    · have hF := gf_pos (by rw [ex_27] at c_28; exact c_28) hF
      have g_29 : gi p2 (-2147483648) 2147483646 := gi_lt_l c_28 (gi_any p2) (gi_any x_27) (by decide)
      have g_30 : gi x_27 (-2147483647) 2147483647 := gi_lt_r c_28 (gi_any p2) (gi_any x_27) (by decide)
      refine lv_iconst (v := 0) hx hb (dk_at dkX12_isOpen 32 rfl) (by decide) ?_
      exact W.zret (v := 0) hx hb hr (by decide) (fun t ht hW => ⟨⟨0, (), rfl, ⟨(gi_w (gi_c 0 0 (by decide)) (by decide)), hF.trans hR9.symm⟩, trivial⟩, hS.F ht⟩) hS.2.2 (dk_at dkX12_isOpen 33 rfl)
    · have hF := gf_neg (by rw [ex_27] at c_28; exact c_28) hF
      refine lv_aload_n hx hb (dk_at dkX12_isOpen 18 rfl) rfl (lv_at hl 0 rfl) ?_
      refine va_get (D := (dC, dI)) (ci := 12) (v := .ref (mr 16)) (C := RX12) (T := TX12) (N := 57) hx hb hts (fun w h => List.mem_cons_of_mem _ (jnGB_X12 w h)) hown hK hP 0 rfl rfl 36 (by decide) (hts _ (List.mem_cons_of_mem _ mGB_28)) (fun _ h9 => h9) rfl (dk_at dkX12_isOpen 19 rfl) ?_
      refine lv_iload_n hx hb (dk_at dkX12_isOpen 20 rfl) rfl (lv_at hl 1 rfl) ?_
      refine va_iald hx hb hK hP 17 16 rfl rfl (gi_in gp1 (by decide)) (dk_at dkX12_isOpen 21 rfl) ?_
      refine lv_topi (fun x_31 ex_31 => ?_)
      refine lv_iconst (v := (-1)) hx hb (dk_at dkX12_isOpen 22 rfl) (by decide) ?_
      refine lv_icmp_eq (tgt := 50) hx hb (dk_at dkX12_isOpen 23 rfl) (by decide) (fun c_32 => ?_) (fun c_32 => ?_)
      · have hF := gf_pos (by rw [ex_31] at c_32; exact c_32) hF
        have g_33 : gi x_31 (-1) (-1) := gi_eq c_32 (gi_c (-1) (-1) (by decide))
        refine lv_iconst (v := 1) hx hb (dk_at dkX12_isOpen 30 rfl) (by decide) ?_
        refine lv_goto (tgt := 55) hx hb (dk_at dkX12_isOpen 31 rfl) (by decide) ?_
        exact W.zret (v := 1) hx hb hr (by decide) (fun t ht hW => ⟨⟨1, (), rfl, ⟨(gi_w (gi_c 1 1 (by decide)) (by decide)), hF.trans hR9.symm⟩, trivial⟩, hS.F ht⟩) hS.2.2 (dk_at dkX12_isOpen 33 rfl)
      · have hF := gf_neg (by rw [ex_31] at c_32; exact c_32) hF
        refine lv_aload_n hx hb (dk_at dkX12_isOpen 24 rfl) rfl (lv_at hl 0 rfl) ?_
        refine va_get (D := (dC, dI)) (ci := 12) (v := .ref (mr 16)) (C := RX12) (T := TX12) (N := 57) hx hb hts (fun w h => List.mem_cons_of_mem _ (jnGB_X12 w h)) hown hK hP 0 rfl rfl 36 (by decide) (hts _ (List.mem_cons_of_mem _ mGB_28)) (fun _ h9 => h9) rfl (dk_at dkX12_isOpen 25 rfl) ?_
        refine lv_iload_n hx hb (dk_at dkX12_isOpen 26 rfl) rfl (lv_at hl 1 rfl) ?_
        refine va_iald hx hb hK hP 17 16 rfl rfl (gi_in gp1 (by decide)) (dk_at dkX12_isOpen 27 rfl) ?_
        refine lv_topi (fun x_34 ex_34 => ?_)
        refine lv_iload_n hx hb (dk_at dkX12_isOpen 28 rfl) rfl (lv_at hl 2 rfl) ?_
        refine lv_icmp_ne (tgt := 54) hx hb (dk_at dkX12_isOpen 29 rfl) (by decide) (fun c_35 => ?_) (fun c_35 => ?_)
        · have hF := gf_neg (by rw [ex_34] at c_35; exact c_35) hF
          refine lv_iconst (v := 0) hx hb (dk_at dkX12_isOpen 32 rfl) (by decide) ?_
          exact W.zret (v := 0) hx hb hr (by decide) (fun t ht hW => ⟨⟨0, (), rfl, ⟨(gi_w (gi_c 0 0 (by decide)) (by decide)), hF.trans hR9.symm⟩, trivial⟩, hS.F ht⟩) hS.2.2 (dk_at dkX12_isOpen 33 rfl)
        · have hF := gf_pos (by rw [ex_34] at c_35; exact c_35) hF
          refine lv_iconst (v := 1) hx hb (dk_at dkX12_isOpen 30 rfl) (by decide) ?_
          refine lv_goto (tgt := 55) hx hb (dk_at dkX12_isOpen 31 rfl) (by decide) ?_
          exact W.zret (v := 1) hx hb hr (by decide) (fun t ht hW => ⟨⟨1, (), rfl, ⟨(gi_w (gi_c 1 1 (by decide)) (by decide)), hF.trans hR9.symm⟩, trivial⟩, hS.F ht⟩) hS.2.2 (dk_at dkX12_isOpen 33 rfl)
  · have hF := gf_neg (by rw [ex_24] at c_25; exact c_25) hF
    refine lv_aload_n hx hb (dk_at dkX12_isOpen 6 rfl) rfl (lv_at hl 0 rfl) ?_
    refine va_get (D := (dC, dI)) (ci := 12) (v := .ref (mr 14)) (C := RX12) (T := TX12) (N := 57) hx hb hts (fun w h => List.mem_cons_of_mem _ (jnGB_X12 w h)) hown hK hP 0 rfl rfl 34 (by decide) (hts _ (List.mem_cons_of_mem _ mGB_26)) (fun _ h9 => h9) rfl (dk_at dkX12_isOpen 7 rfl) ?_
    refine lv_iload_n hx hb (dk_at dkX12_isOpen 8 rfl) rfl (lv_at hl 1 rfl) ?_
    refine va_iald hx hb hK hP 15 14 rfl rfl (gi_in gp1 (by decide)) (dk_at dkX12_isOpen 9 rfl) ?_
    refine lv_topi (fun x_36 ex_36 => ?_)
    refine lv_iload_n hx hb (dk_at dkX12_isOpen 10 rfl) rfl (lv_at hl 2 rfl) ?_
    refine lv_icmp_ne (tgt := 54) hx hb (dk_at dkX12_isOpen 11 rfl) (by decide) (fun c_37 => ?_) (fun c_37 => ?_)
    · have hF := gf_neg (by rw [ex_36] at c_37; exact c_37) hF
      refine lv_iconst (v := 0) hx hb (dk_at dkX12_isOpen 32 rfl) (by decide) ?_
      exact W.zret (v := 0) hx hb hr (by decide) (fun t ht hW => ⟨⟨0, (), rfl, ⟨(gi_w (gi_c 0 0 (by decide)) (by decide)), hF.trans hR9.symm⟩, trivial⟩, hS.F ht⟩) hS.2.2 (dk_at dkX12_isOpen 33 rfl)
    · have hF := gf_pos (by rw [ex_36] at c_37; exact c_37) hF
      refine lv_iload_n hx hb (dk_at dkX12_isOpen 12 rfl) rfl (lv_at hl 2 rfl) ?_
      refine lv_aload_n hx hb (dk_at dkX12_isOpen 13 rfl) rfl (lv_at hl 0 rfl) ?_
      refine va_get (D := (dC, dI)) (ci := 12) (v := .ref (mr 15)) (C := RX12) (T := TX12) (N := 57) hx hb hts (fun w h => List.mem_cons_of_mem _ (jnGB_X12 w h)) hown hK hP 0 rfl rfl 35 (by decide) (hts _ (List.mem_cons_of_mem _ mGB_27)) (fun _ h9 => h9) rfl (dk_at dkX12_isOpen 14 rfl) ?_
      refine lv_iload_n hx hb (dk_at dkX12_isOpen 15 rfl) rfl (lv_at hl 1 rfl) ?_
      refine va_iald hx hb hK hP 16 15 rfl rfl (gi_in gp1 (by decide)) (dk_at dkX12_isOpen 16 rfl) ?_
      refine lv_topi (fun x_38 ex_38 => ?_)
      refine lv_icmp_lt (tgt := 54) hx hb (dk_at dkX12_isOpen 17 rfl) (by decide) (fun c_39 => ?_) (fun c_39 => ?_)
      · have hF := gf_pos (by rw [ex_38] at c_39; exact c_39) hF
        have g_40 : gi p2 (-2147483648) 2147483646 := gi_lt_l c_39 (gi_any p2) (gi_any x_38) (by decide)
        have g_41 : gi x_38 (-2147483647) 2147483647 := gi_lt_r c_39 (gi_any p2) (gi_any x_38) (by decide)
        refine lv_iconst (v := 0) hx hb (dk_at dkX12_isOpen 32 rfl) (by decide) ?_
        exact W.zret (v := 0) hx hb hr (by decide) (fun t ht hW => ⟨⟨0, (), rfl, ⟨(gi_w (gi_c 0 0 (by decide)) (by decide)), hF.trans hR9.symm⟩, trivial⟩, hS.F ht⟩) hS.2.2 (dk_at dkX12_isOpen 33 rfl)
      · have hF := gf_neg (by rw [ex_38] at c_39; exact c_39) hF
        refine lv_aload_n hx hb (dk_at dkX12_isOpen 18 rfl) rfl (lv_at hl 0 rfl) ?_
        refine va_get (D := (dC, dI)) (ci := 12) (v := .ref (mr 16)) (C := RX12) (T := TX12) (N := 57) hx hb hts (fun w h => List.mem_cons_of_mem _ (jnGB_X12 w h)) hown hK hP 0 rfl rfl 36 (by decide) (hts _ (List.mem_cons_of_mem _ mGB_28)) (fun _ h9 => h9) rfl (dk_at dkX12_isOpen 19 rfl) ?_
        refine lv_iload_n hx hb (dk_at dkX12_isOpen 20 rfl) rfl (lv_at hl 1 rfl) ?_
        refine va_iald hx hb hK hP 17 16 rfl rfl (gi_in gp1 (by decide)) (dk_at dkX12_isOpen 21 rfl) ?_
        refine lv_topi (fun x_42 ex_42 => ?_)
        refine lv_iconst (v := (-1)) hx hb (dk_at dkX12_isOpen 22 rfl) (by decide) ?_
        refine lv_icmp_eq (tgt := 50) hx hb (dk_at dkX12_isOpen 23 rfl) (by decide) (fun c_43 => ?_) (fun c_43 => ?_)
        · have hF := gf_pos (by rw [ex_42] at c_43; exact c_43) hF
          have g_44 : gi x_42 (-1) (-1) := gi_eq c_43 (gi_c (-1) (-1) (by decide))
          refine lv_iconst (v := 1) hx hb (dk_at dkX12_isOpen 30 rfl) (by decide) ?_
          refine lv_goto (tgt := 55) hx hb (dk_at dkX12_isOpen 31 rfl) (by decide) ?_
          exact W.zret (v := 1) hx hb hr (by decide) (fun t ht hW => ⟨⟨1, (), rfl, ⟨(gi_w (gi_c 1 1 (by decide)) (by decide)), hF.trans hR9.symm⟩, trivial⟩, hS.F ht⟩) hS.2.2 (dk_at dkX12_isOpen 33 rfl)
        · have hF := gf_neg (by rw [ex_42] at c_43; exact c_43) hF
          refine lv_aload_n hx hb (dk_at dkX12_isOpen 24 rfl) rfl (lv_at hl 0 rfl) ?_
          refine va_get (D := (dC, dI)) (ci := 12) (v := .ref (mr 16)) (C := RX12) (T := TX12) (N := 57) hx hb hts (fun w h => List.mem_cons_of_mem _ (jnGB_X12 w h)) hown hK hP 0 rfl rfl 36 (by decide) (hts _ (List.mem_cons_of_mem _ mGB_28)) (fun _ h9 => h9) rfl (dk_at dkX12_isOpen 25 rfl) ?_
          refine lv_iload_n hx hb (dk_at dkX12_isOpen 26 rfl) rfl (lv_at hl 1 rfl) ?_
          refine va_iald hx hb hK hP 17 16 rfl rfl (gi_in gp1 (by decide)) (dk_at dkX12_isOpen 27 rfl) ?_
          refine lv_topi (fun x_45 ex_45 => ?_)
          refine lv_iload_n hx hb (dk_at dkX12_isOpen 28 rfl) rfl (lv_at hl 2 rfl) ?_
          refine lv_icmp_ne (tgt := 54) hx hb (dk_at dkX12_isOpen 29 rfl) (by decide) (fun c_46 => ?_) (fun c_46 => ?_)
          · have hF := gf_neg (by rw [ex_45] at c_46; exact c_46) hF
            refine lv_iconst (v := 0) hx hb (dk_at dkX12_isOpen 32 rfl) (by decide) ?_
            exact W.zret (v := 0) hx hb hr (by decide) (fun t ht hW => ⟨⟨0, (), rfl, ⟨(gi_w (gi_c 0 0 (by decide)) (by decide)), hF.trans hR9.symm⟩, trivial⟩, hS.F ht⟩) hS.2.2 (dk_at dkX12_isOpen 33 rfl)
          · have hF := gf_pos (by rw [ex_45] at c_46; exact c_46) hF
            refine lv_iconst (v := 1) hx hb (dk_at dkX12_isOpen 30 rfl) (by decide) ?_
            refine lv_goto (tgt := 55) hx hb (dk_at dkX12_isOpen 31 rfl) (by decide) ?_
            exact W.zret (v := 1) hx hb hr (by decide) (fun t ht hW => ⟨⟨1, (), rfl, ⟨(gi_w (gi_c 1 1 (by decide)) (by decide)), hF.trans hR9.symm⟩, trivial⟩, hS.F ht⟩) hS.2.2 (dk_at dkX12_isOpen 33 rfl)
noncomputable def lsX12_runBehind : List (Nat × Instr × Nat) := [(0, .iload_n 2, 1), (1, .iconst 1, 1), (2, .if_icmp .ne 18, 3), (5, .iload_n 1, 1), (6, .iconst 5, 1), (7, .if_icmp .gt 9, 3), (10, .iload_n 1, 1), (11, .iconst 1, 1), (12, .iadd, 1), (13, .goto 21, 3), (16, .iconst 1, 1), (17, .goto 17, 3), (20, .iload_n 1, 1), (21, .iconst 5, 1), (22, .if_icmp .le 11, 3), (25, .iload_n 1, 1), (26, .iconst 5, 1), (27, .isub, 1), (28, .iconst 1, 1), (29, .iadd, 1), (30, .goto 4, 3), (33, .iconst 1, 1), (34, .istore_n 3, 1), (35, .iload_n 3, 1), (36, .iload_n 2, 1), (37, .iconst 1, 1), (38, .if_icmp .ne 10, 3), (41, .aload_n 0, 1), (42, .getfield 120, 3), (45, .goto 7, 3), (48, .aload_n 0, 1), (49, .getfield 123, 3), (52, .if_icmp .le 5, 3), (55, .iconst (-1), 1), (56, .ireturn, 1), (57, .iload_n 2, 1), (58, .iconst 1, 1), (59, .if_icmp .ne 7, 3), (62, .iload_n 3, 1), (63, .goto 6, 3), (66, .iload_n 3, 1), (67, .iconst 5, 1), (68, .iadd, 1), (69, .ireturn, 1)]
theorem dkX12_runBehind : dkAll cX12_runBehind lsX12_runBehind = true := dk_fast (by decide +kernel)
noncomputable def bfX12_runBehind_69 (mi : Nat → Int32) (p1 : Int32) (p2 : Int32) (s0 : Int32) : Int32 := s0
noncomputable def bfX12_runBehind_52 (mi : Nat → Int32) (p1 : Int32) (p2 : Int32) (v3 : Int32) (s0 : Int32) (s1 : Int32) : Int32 := if s1 ≤ s0 then (if p2 = (1 : Int32) then (bfX12_runBehind_69 mi p1 p2 v3) else (bfX12_runBehind_69 mi p1 p2 (v3 + (5 : Int32)))) else (-1 : Int32)
noncomputable def bfX12_runBehind_34 (mi : Nat → Int32) (p1 : Int32) (p2 : Int32) (s0 : Int32) : Int32 := if p2 = (1 : Int32) then (bfX12_runBehind_52 mi p1 p2 s0 (mi 1) s0) else (bfX12_runBehind_52 mi p1 p2 s0 (mi 2) s0)
noncomputable def fX12_runBehind (mi : Nat → Int32) (p1 : Int32) (p2 : Int32) : Int32 := if p2 = (1 : Int32) then (if (5 : Int32) < p1 then (bfX12_runBehind_34 mi p1 p2 (1 : Int32)) else (bfX12_runBehind_34 mi p1 p2 (p1 + (1 : Int32)))) else (if p1 ≤ (5 : Int32) then (bfX12_runBehind_34 mi p1 p2 (1 : Int32)) else (bfX12_runBehind_34 mi p1 p2 ((p1 - (5 : Int32)) + (1 : Int32))))
set_option maxHeartbeats 4000000 in
set_option maxRecDepth 100000 in
theorem sX12_runBehind (l : Launch) (dC : Nat → ClassId) (dI : Nat → Nat → Nat) (h0 : Nat) (mi : Nat → Int32) (mr : Nat → Nat) (km : Nat → ClassId) (fm_trust : Nat → Int32) (fm_letter : Nat → Int32) (fm_reportPlace : Nat → Int32) (fm_reportKind : Nat → Int32) (fm_struck : Nat → Int32) (fm_reportMonth : Nat → Int32) (fm_reportDay : Nat → Int32) (fm_reportKnown : Nat → Int32) (fm_deedMonth : Nat → Int32) (fm_deedDay : Nat → Int32) (fm_deedLong : Nat → Int32) (fm_deedKind : Nat → Int32) (fm_kept : Nat → Int32) (fm_tape : Nat → Int32) (fm_must : Nat → Int32) (fm_least : Nat → Int32) (fm_pin : Nat → Int32) (fm_ways : Nat → Int32) (fm_verdict : Nat → Int32) (fm_row : Nat → Int32) (fm_official : Nat → Int32) (fm_aside : Nat → Int32) (fm_worth : Nat → Int32) (fm_out : Nat → Int32) (p1 : Int32) (p2 : Int32) (gmi_0 : gi (mi 0) 0 24) (gmi_1 : gi (mi 1) 0 5) (gmi_2 : gi (mi 2) 0 5) (gmi_4 : gi (mi 4) 0 1) (gmi_7 : gi (mi 7) 0 6) (gmi_10 : gi (mi 10) 0 24) (gmi_17 : gi (mi 17) 0 8) (gmi_23 : gi (mi 23) 0 300) (gmi_24 : gi (mi 24) 0 1) (gmi_26 : gi (mi 26) 0 1600) (gmi_29 : gi (mi 29) 0 1600) (gmi_30 : gi (mi 30) 0 1600) (gmi_33 : gi (mi 33) 0 1) (gmi_37 : gi (mi 37) 0 1) (gmi_41 : gi (mi 41) 0 24) (gmi_50 : gi (mi 50) 0 1) (gmi_51 : gi (mi 51) 0 1) (gmi_56 : gi (mi 56) 0 80) (gp1 : gi p1 (-1) 10) (gp2 : gi p2 0 1) : Met l yX12_runBehind (.code yX12_runBehind cX12_runBehind 4 (some .int) :: wsGB) ({ frames := 0, cells := 0, slots := 0, locals := 0 }) (va_Pc [.ref h0, .int p1, .int p2] (fun U => va_P (dC, dI) vwCl (MWn h0 mr km (mi 0) (mi 1) (mi 2) (mi 3) (mi 4) (mi 5) (mi 6) (mi 7) (mi 10) (mi 17) (mi 23) (mi 24) (mi 26) (mi 27) (mi 28) (mi 29) (mi 30) (mi 31) (mi 32) (mi 33) (mi 37) (mi 41) (mi 42) (mi 43) (mi 44) (mi 45) (mi 47) (mi 48) (mi 49) (mi 50) (mi 51) (mi 54) (mi 56) fm_trust fm_letter fm_reportPlace fm_reportKind fm_struck fm_reportMonth fm_reportDay fm_reportKnown fm_deedMonth fm_deedDay fm_deedLong fm_deedKind fm_kept fm_tape fm_must fm_least fm_pin fm_ways fm_verdict fm_row fm_official fm_aside fm_worth fm_out) U.heap ∧ va_K (dC, dI) vwCl (MT km) U)) (va_Qi (fun (r : Int32) (u : Unit) => (gi r (-1) 10) ∧ r = fX12_runBehind mi p1 p2) (fun _ _ => True) (fun _ => False)) 0 0 (fun _ => False) := by
  refine Met.ofW (cc := cX12_runBehind) (maxL := 4) (ret := (some .int)) (by decide) rfl ?_
  intro p e s m args below meth c s₁ B hml hv
  obtain ⟨rfl, hP, hK⟩ := hv
  have hx := B.exec
  have hb := B.bytes
  have hr := B.returns
  have hts := atoms_spec (ws := (.code yX12_runBehind cX12_runBehind 4 (some .int) :: wsGB)) B.pre
  have hown : s.vm.findClass RX12 = some m.cls := findClass_of_methodNamed B.named
  have hlocks := B.notSynchronized
  have hS : va_S (fun _ => False) s.heap s.heap [] := va_S.rf
  have hl := lv_entry ([.ref h0, .int p1, .int p2]) (n := 4) (Nat.le_of_ble_eq_true rfl)
  rw [lg_entry_eq]
  generalize (lg_sl ([.ref h0, .int p1, .int p2]) ++ List.replicate (4 - (lg_sl ([.ref h0, .int p1, .int p2])).length) Slot.unset).toArray = ls at hl ⊢
  have hl : lv_has ls 4 [(0, .ref h0), (1, .int p1), (2, .int p2)] := hl
  obtain ⟨RES, hF⟩ : ∃ R9, fX12_runBehind mi p1 p2 = R9 := ⟨_, rfl⟩
  have hR9 := hF
  refine lv_iload_n hx hb (dk_at dkX12_runBehind 0 rfl) rfl (lv_at hl 2 rfl) ?_
  refine lv_iconst (v := 1) hx hb (dk_at dkX12_runBehind 1 rfl) (by decide) ?_
  refine lv_icmp_ne (tgt := 20) hx hb (dk_at dkX12_runBehind 2 rfl) (by decide) (fun c_34 => ?_) (fun c_34 => ?_)
  · have hF := gf_neg c_34 hF
    have g_35 : gi p2 0 0 := gi_ne_hi c_34 gp2 (gi_c 1 1 (by decide)) (by decide)
    refine lv_iload_n hx hb (dk_at dkX12_runBehind 12 rfl) rfl (lv_at hl 1 rfl) ?_
    refine lv_iconst (v := 5) hx hb (dk_at dkX12_runBehind 13 rfl) (by decide) ?_
    refine lv_icmp_le (tgt := 33) hx hb (dk_at dkX12_runBehind 14 rfl) (by decide) (fun c_36 => ?_) (fun c_36 => ?_)
    · have hF := gf_pos c_36 hF
      have g_37 : gi p1 (-1) 5 := gi_le_l c_36 gp1 (gi_c 5 5 (by decide))
      refine lv_iconst (v := 1) hx hb (dk_at dkX12_runBehind 21 rfl) (by decide) ?_
      refine lv_istore_n (lv' := [(3, .int 1), (0, .ref h0), (1, .int p1), (2, .int p2)]) hx hb (dk_at dkX12_runBehind 22 rfl) rfl hl (by decide) rfl (fun ls hl => ?_)
      refine lv_iload_n hx hb (dk_at dkX12_runBehind 23 rfl) rfl (lv_at hl 0 rfl) ?_
      refine lv_iload_n hx hb (dk_at dkX12_runBehind 24 rfl) rfl (lv_at hl 3 rfl) ?_
      refine lv_iconst (v := 1) hx hb (dk_at dkX12_runBehind 25 rfl) (by decide) ?_
      refine lv_icmp_ne (tgt := 48) hx hb (dk_at dkX12_runBehind 26 rfl) (by decide) (fun c_38 => ?_) (fun c_38 => absurd c_38 (gi_no_eq g_35 (gi_c 1 1 (by decide)) (by decide)))
      have hF := gf_neg c_38 hF
      refine lv_aload_n hx hb (dk_at dkX12_runBehind 30 rfl) rfl (lv_at hl 1 rfl) ?_
      refine va_get (D := (dC, dI)) (ci := 12) (v := .int (mi 2)) (C := RX12) (T := TX12) (N := 57) hx hb hts (fun w h => List.mem_cons_of_mem _ (jnGB_X12 w h)) hown hK hP 0 rfl rfl 2 (by decide) (hts _ (List.mem_cons_of_mem _ mGB_105)) (fun _ h9 => h9) rfl (dk_at dkX12_runBehind 31 rfl) ?_
      refine lv_icmp_le (tgt := 57) hx hb (dk_at dkX12_runBehind 32 rfl) (by decide) (fun c_39 => ?_) (fun c_39 => ?_)
      · have hF := gf_pos c_39 hF
        have g_40 : gi (mi 2) 1 5 := gi_le_r c_39 (gi_c 1 1 (by decide)) gmi_2
        refine lv_iload_n hx hb (dk_at dkX12_runBehind 35 rfl) rfl (lv_at hl 3 rfl) ?_
        refine lv_iconst (v := 1) hx hb (dk_at dkX12_runBehind 36 rfl) (by decide) ?_
        refine lv_icmp_ne (tgt := 66) hx hb (dk_at dkX12_runBehind 37 rfl) (by decide) (fun c_41 => ?_) (fun c_41 => absurd c_41 (gi_no_eq g_35 (gi_c 1 1 (by decide)) (by decide)))
        have hF := gf_neg c_41 hF
        refine lv_iload_n hx hb (dk_at dkX12_runBehind 40 rfl) rfl (lv_at hl 0 rfl) ?_
        refine lv_iconst (v := 5) hx hb (dk_at dkX12_runBehind 41 rfl) (by decide) ?_
        refine lv_iadd hx hb (dk_at dkX12_runBehind 42 rfl) ?_
        refine gz_topi (y := 6) (by decide) ?_
        exact W.iret (v := 6) hx hb hr (fun t ht hW => ⟨⟨6, (), rfl, ⟨(gi_w (gi_c 6 6 (by decide)) (by decide)), hF.trans hR9.symm⟩, trivial⟩, hS.F ht⟩) hS.2.2 (dk_at dkX12_runBehind 43 rfl)
      · have hF := gf_neg c_39 hF
        have g_42 : gi (mi 2) 0 0 := gi_lt_l (Int32.not_le.mp c_39) gmi_2 (gi_c 1 1 (by decide)) (by decide)
        refine lv_iconst (v := (-1)) hx hb (dk_at dkX12_runBehind 33 rfl) (by decide) ?_
        exact W.iret (v := (-1)) hx hb hr (fun t ht hW => ⟨⟨(-1), (), rfl, ⟨(gi_w (gi_c (-1) (-1) (by decide)) (by decide)), hF.trans hR9.symm⟩, trivial⟩, hS.F ht⟩) hS.2.2 (dk_at dkX12_runBehind 34 rfl)
    · have hF := gf_neg c_36 hF
      have g_43 : gi p1 6 10 := gi_lt_r (Int32.not_le.mp c_36) (gi_c 5 5 (by decide)) gp1 (by decide)
      refine lv_iload_n hx hb (dk_at dkX12_runBehind 15 rfl) rfl (lv_at hl 1 rfl) ?_
      refine lv_iconst (v := 5) hx hb (dk_at dkX12_runBehind 16 rfl) (by decide) ?_
      refine lv_isub hx hb (dk_at dkX12_runBehind 17 rfl) ?_
      refine lv_topi (fun x_44 ex_44 => ?_)
      have gx_44 : gi x_44 1 5 := gi_sub ex_44 g_43 (gi_c 5 5 (by decide)) (by decide)
      refine lv_iconst (v := 1) hx hb (dk_at dkX12_runBehind 18 rfl) (by decide) ?_
      refine lv_iadd hx hb (dk_at dkX12_runBehind 19 rfl) ?_
      refine lv_topi (fun x_45 ex_45 => ?_)
      have gx_45 : gi x_45 2 6 := gi_add ex_45 gx_44 (gi_c 1 1 (by decide)) (by decide)
      refine lv_goto (tgt := 34) hx hb (dk_at dkX12_runBehind 20 rfl) (by decide) ?_
      refine lv_istore_n (lv' := [(3, .int x_45), (0, .ref h0), (1, .int p1), (2, .int p2)]) hx hb (dk_at dkX12_runBehind 22 rfl) rfl hl (by decide) rfl (fun ls hl => ?_)
      refine lv_iload_n hx hb (dk_at dkX12_runBehind 23 rfl) rfl (lv_at hl 0 rfl) ?_
      refine lv_iload_n hx hb (dk_at dkX12_runBehind 24 rfl) rfl (lv_at hl 3 rfl) ?_
      refine lv_iconst (v := 1) hx hb (dk_at dkX12_runBehind 25 rfl) (by decide) ?_
      refine lv_icmp_ne (tgt := 48) hx hb (dk_at dkX12_runBehind 26 rfl) (by decide) (fun c_46 => ?_) (fun c_46 => absurd c_46 (gi_no_eq g_35 (gi_c 1 1 (by decide)) (by decide)))
      have hF := gf_neg c_46 hF
      refine lv_aload_n hx hb (dk_at dkX12_runBehind 30 rfl) rfl (lv_at hl 1 rfl) ?_
      refine va_get (D := (dC, dI)) (ci := 12) (v := .int (mi 2)) (C := RX12) (T := TX12) (N := 57) hx hb hts (fun w h => List.mem_cons_of_mem _ (jnGB_X12 w h)) hown hK hP 0 rfl rfl 2 (by decide) (hts _ (List.mem_cons_of_mem _ mGB_105)) (fun _ h9 => h9) rfl (dk_at dkX12_runBehind 31 rfl) ?_
      refine lv_icmp_le (tgt := 57) hx hb (dk_at dkX12_runBehind 32 rfl) (by decide) (fun c_47 => ?_) (fun c_47 => ?_)
      · have hF := gf_pos (by rw [ex_45, ex_44] at c_47; exact c_47) hF
        have g_48 : gi x_45 2 5 := gi_le_l c_47 gx_45 gmi_2
        have g_49 : gi (mi 2) 2 5 := gi_le_r c_47 gx_45 gmi_2
        refine lv_iload_n hx hb (dk_at dkX12_runBehind 35 rfl) rfl (lv_at hl 3 rfl) ?_
        refine lv_iconst (v := 1) hx hb (dk_at dkX12_runBehind 36 rfl) (by decide) ?_
        refine lv_icmp_ne (tgt := 66) hx hb (dk_at dkX12_runBehind 37 rfl) (by decide) (fun c_50 => ?_) (fun c_50 => absurd c_50 (gi_no_eq g_35 (gi_c 1 1 (by decide)) (by decide)))
        have hF := gf_neg c_50 hF
        refine lv_iload_n hx hb (dk_at dkX12_runBehind 40 rfl) rfl (lv_at hl 0 rfl) ?_
        refine lv_iconst (v := 5) hx hb (dk_at dkX12_runBehind 41 rfl) (by decide) ?_
        refine lv_iadd hx hb (dk_at dkX12_runBehind 42 rfl) ?_
        refine lv_topi (fun x_51 ex_51 => ?_)
        have gx_51 : gi x_51 7 10 := gi_add ex_51 g_48 (gi_c 5 5 (by decide)) (by decide)
        exact W.iret (v := x_51) hx hb hr (fun t ht hW => ⟨⟨x_51, (), rfl, ⟨(gi_w gx_51 (by decide)), by first | (rw [ex_51, ex_45, ex_44]; exact hF.trans hR9.symm) | ((try rw [ex_51]); (try rw [ex_45]); (try rw [ex_44]); exact hF.trans hR9.symm)⟩, trivial⟩, hS.F ht⟩) hS.2.2 (dk_at dkX12_runBehind 43 rfl)
      · have hF := gf_neg (by rw [ex_45, ex_44] at c_47; exact c_47) hF
        refine lv_iconst (v := (-1)) hx hb (dk_at dkX12_runBehind 33 rfl) (by decide) ?_
        exact W.iret (v := (-1)) hx hb hr (fun t ht hW => ⟨⟨(-1), (), rfl, ⟨(gi_w (gi_c (-1) (-1) (by decide)) (by decide)), hF.trans hR9.symm⟩, trivial⟩, hS.F ht⟩) hS.2.2 (dk_at dkX12_runBehind 34 rfl)
  · have hF := gf_pos c_34 hF
    have g_52 : gi p2 1 1 := gi_eq c_34 (gi_c 1 1 (by decide))
    refine lv_iload_n hx hb (dk_at dkX12_runBehind 3 rfl) rfl (lv_at hl 1 rfl) ?_
    refine lv_iconst (v := 5) hx hb (dk_at dkX12_runBehind 4 rfl) (by decide) ?_
    refine lv_icmp_gt (tgt := 16) hx hb (dk_at dkX12_runBehind 5 rfl) (by decide) (fun c_53 => ?_) (fun c_53 => ?_)
    · have hF := gf_pos c_53 hF
      have g_54 : gi p1 6 10 := gi_lt_r c_53 (gi_c 5 5 (by decide)) gp1 (by decide)
      refine lv_iconst (v := 1) hx hb (dk_at dkX12_runBehind 10 rfl) (by decide) ?_
      refine lv_goto (tgt := 34) hx hb (dk_at dkX12_runBehind 11 rfl) (by decide) ?_
      refine lv_istore_n (lv' := [(3, .int 1), (0, .ref h0), (1, .int p1), (2, .int p2)]) hx hb (dk_at dkX12_runBehind 22 rfl) rfl hl (by decide) rfl (fun ls hl => ?_)
      refine lv_iload_n hx hb (dk_at dkX12_runBehind 23 rfl) rfl (lv_at hl 0 rfl) ?_
      refine lv_iload_n hx hb (dk_at dkX12_runBehind 24 rfl) rfl (lv_at hl 3 rfl) ?_
      refine lv_iconst (v := 1) hx hb (dk_at dkX12_runBehind 25 rfl) (by decide) ?_
      refine lv_icmp_ne (tgt := 48) hx hb (dk_at dkX12_runBehind 26 rfl) (by decide) (fun c_55 => absurd (gi_is_eq g_52 (gi_c 1 1 (by decide))) c_55) (fun c_55 => ?_)
      have hF := gf_pos c_55 hF
      refine lv_aload_n hx hb (dk_at dkX12_runBehind 27 rfl) rfl (lv_at hl 1 rfl) ?_
      refine va_get (D := (dC, dI)) (ci := 12) (v := .int (mi 1)) (C := RX12) (T := TX12) (N := 57) hx hb hts (fun w h => List.mem_cons_of_mem _ (jnGB_X12 w h)) hown hK hP 0 rfl rfl 1 (by decide) (hts _ (List.mem_cons_of_mem _ mGB_104)) (fun _ h9 => h9) rfl (dk_at dkX12_runBehind 28 rfl) ?_
      refine lv_goto (tgt := 52) hx hb (dk_at dkX12_runBehind 29 rfl) (by decide) ?_
      refine lv_icmp_le (tgt := 57) hx hb (dk_at dkX12_runBehind 32 rfl) (by decide) (fun c_56 => ?_) (fun c_56 => ?_)
      · have hF := gf_pos c_56 hF
        have g_57 : gi (mi 1) 1 5 := gi_le_r c_56 (gi_c 1 1 (by decide)) gmi_1
        refine lv_iload_n hx hb (dk_at dkX12_runBehind 35 rfl) rfl (lv_at hl 3 rfl) ?_
        refine lv_iconst (v := 1) hx hb (dk_at dkX12_runBehind 36 rfl) (by decide) ?_
        refine lv_icmp_ne (tgt := 66) hx hb (dk_at dkX12_runBehind 37 rfl) (by decide) (fun c_58 => absurd (gi_is_eq g_52 (gi_c 1 1 (by decide))) c_58) (fun c_58 => ?_)
        have hF := gf_pos c_58 hF
        refine lv_iload_n hx hb (dk_at dkX12_runBehind 38 rfl) rfl (lv_at hl 0 rfl) ?_
        refine lv_goto (tgt := 69) hx hb (dk_at dkX12_runBehind 39 rfl) (by decide) ?_
        exact W.iret (v := 1) hx hb hr (fun t ht hW => ⟨⟨1, (), rfl, ⟨(gi_w (gi_c 1 1 (by decide)) (by decide)), hF.trans hR9.symm⟩, trivial⟩, hS.F ht⟩) hS.2.2 (dk_at dkX12_runBehind 43 rfl)
      · have hF := gf_neg c_56 hF
        have g_59 : gi (mi 1) 0 0 := gi_lt_l (Int32.not_le.mp c_56) gmi_1 (gi_c 1 1 (by decide)) (by decide)
        refine lv_iconst (v := (-1)) hx hb (dk_at dkX12_runBehind 33 rfl) (by decide) ?_
        exact W.iret (v := (-1)) hx hb hr (fun t ht hW => ⟨⟨(-1), (), rfl, ⟨(gi_w (gi_c (-1) (-1) (by decide)) (by decide)), hF.trans hR9.symm⟩, trivial⟩, hS.F ht⟩) hS.2.2 (dk_at dkX12_runBehind 34 rfl)
    · have hF := gf_neg c_53 hF
      have g_60 : gi p1 (-1) 5 := gi_le_l (Int32.not_lt.mp c_53) gp1 (gi_c 5 5 (by decide))
      refine lv_iload_n hx hb (dk_at dkX12_runBehind 6 rfl) rfl (lv_at hl 1 rfl) ?_
      refine lv_iconst (v := 1) hx hb (dk_at dkX12_runBehind 7 rfl) (by decide) ?_
      refine lv_iadd hx hb (dk_at dkX12_runBehind 8 rfl) ?_
      refine lv_topi (fun x_61 ex_61 => ?_)
      have gx_61 : gi x_61 0 6 := gi_add ex_61 g_60 (gi_c 1 1 (by decide)) (by decide)
      refine lv_goto (tgt := 34) hx hb (dk_at dkX12_runBehind 9 rfl) (by decide) ?_
      refine lv_istore_n (lv' := [(3, .int x_61), (0, .ref h0), (1, .int p1), (2, .int p2)]) hx hb (dk_at dkX12_runBehind 22 rfl) rfl hl (by decide) rfl (fun ls hl => ?_)
      refine lv_iload_n hx hb (dk_at dkX12_runBehind 23 rfl) rfl (lv_at hl 0 rfl) ?_
      refine lv_iload_n hx hb (dk_at dkX12_runBehind 24 rfl) rfl (lv_at hl 3 rfl) ?_
      refine lv_iconst (v := 1) hx hb (dk_at dkX12_runBehind 25 rfl) (by decide) ?_
      refine lv_icmp_ne (tgt := 48) hx hb (dk_at dkX12_runBehind 26 rfl) (by decide) (fun c_62 => absurd (gi_is_eq g_52 (gi_c 1 1 (by decide))) c_62) (fun c_62 => ?_)
      have hF := gf_pos c_62 hF
      refine lv_aload_n hx hb (dk_at dkX12_runBehind 27 rfl) rfl (lv_at hl 1 rfl) ?_
      refine va_get (D := (dC, dI)) (ci := 12) (v := .int (mi 1)) (C := RX12) (T := TX12) (N := 57) hx hb hts (fun w h => List.mem_cons_of_mem _ (jnGB_X12 w h)) hown hK hP 0 rfl rfl 1 (by decide) (hts _ (List.mem_cons_of_mem _ mGB_104)) (fun _ h9 => h9) rfl (dk_at dkX12_runBehind 28 rfl) ?_
      refine lv_goto (tgt := 52) hx hb (dk_at dkX12_runBehind 29 rfl) (by decide) ?_
      refine lv_icmp_le (tgt := 57) hx hb (dk_at dkX12_runBehind 32 rfl) (by decide) (fun c_63 => ?_) (fun c_63 => ?_)
      · have hF := gf_pos (by rw [ex_61] at c_63; exact c_63) hF
        have g_64 : gi x_61 0 5 := gi_le_l c_63 gx_61 gmi_1
        refine lv_iload_n hx hb (dk_at dkX12_runBehind 35 rfl) rfl (lv_at hl 3 rfl) ?_
        refine lv_iconst (v := 1) hx hb (dk_at dkX12_runBehind 36 rfl) (by decide) ?_
        refine lv_icmp_ne (tgt := 66) hx hb (dk_at dkX12_runBehind 37 rfl) (by decide) (fun c_65 => absurd (gi_is_eq g_52 (gi_c 1 1 (by decide))) c_65) (fun c_65 => ?_)
        have hF := gf_pos c_65 hF
        refine lv_iload_n hx hb (dk_at dkX12_runBehind 38 rfl) rfl (lv_at hl 0 rfl) ?_
        refine lv_goto (tgt := 69) hx hb (dk_at dkX12_runBehind 39 rfl) (by decide) ?_
        exact W.iret (v := x_61) hx hb hr (fun t ht hW => ⟨⟨x_61, (), rfl, ⟨(gi_w g_64 (by decide)), by first | (rw [ex_61]; exact hF.trans hR9.symm) | ((try rw [ex_61]); exact hF.trans hR9.symm)⟩, trivial⟩, hS.F ht⟩) hS.2.2 (dk_at dkX12_runBehind 43 rfl)
      · have hF := gf_neg (by rw [ex_61] at c_63; exact c_63) hF
        have g_66 : gi x_61 1 6 := gi_lt_r (Int32.not_le.mp c_63) gmi_1 gx_61 (by decide)
        refine lv_iconst (v := (-1)) hx hb (dk_at dkX12_runBehind 33 rfl) (by decide) ?_
        exact W.iret (v := (-1)) hx hb hr (fun t ht hW => ⟨⟨(-1), (), rfl, ⟨(gi_w (gi_c (-1) (-1) (by decide)) (by decide)), hF.trans hR9.symm⟩, trivial⟩, hS.F ht⟩) hS.2.2 (dk_at dkX12_runBehind 34 rfl)
noncomputable def lsX12_placeOf : List (Nat × Instr × Nat) := [(0, .sipush 275, 3), (3, .iload_n 0, 1), (4, .imul, 1), (5, .bipush 11, 2), (7, .iload_n 1, 1), (8, .imul, 1), (9, .iadd, 1), (10, .iload_n 2, 1), (11, .iadd, 1), (12, .ireturn, 1)]
theorem dkX12_placeOf : dkAll cX12_placeOf lsX12_placeOf = true := dk_fast (by decide +kernel)
noncomputable def fX12_placeOf (p0 : Int32) (p1 : Int32) (p2 : Int32) : Int32 := ((((275 : Int32) * p0) + ((11 : Int32) * p1)) + p2)
set_option maxHeartbeats 4000000 in
set_option maxRecDepth 100000 in
theorem sX12_placeOf (l : Launch) (dC : Nat → ClassId) (dI : Nat → Nat → Nat) (p0 : Int32) (p1 : Int32) (p2 : Int32) (gp0 : gi p0 0 24) (gp1 : gi p1 0 24) (gp2 : gi p2 0 10) : Met l yX12_placeOf (.code yX12_placeOf cX12_placeOf 3 (some .int) :: wsGB) ({ frames := 0, cells := 0, slots := 0, locals := 0 }) (va_Pc [.int p0, .int p1, .int p2] (fun U => va_P (dC, dI) vwCl [] U.heap ∧ va_K (dC, dI) vwCl [] U)) (va_Qi (fun (r : Int32) (u : Unit) => (gi r 0 6874) ∧ r = fX12_placeOf p0 p1 p2) (fun _ _ => True) (fun _ => False)) 0 0 (fun _ => False) := by
  refine Met.ofW (cc := cX12_placeOf) (maxL := 3) (ret := (some .int)) (by decide) rfl ?_
  intro p e s m args below meth c s₁ B hml hv
  obtain ⟨rfl, hP, hK⟩ := hv
  have hx := B.exec
  have hb := B.bytes
  have hr := B.returns
  have hts := atoms_spec (ws := (.code yX12_placeOf cX12_placeOf 3 (some .int) :: wsGB)) B.pre
  have hown : s.vm.findClass RX12 = some m.cls := findClass_of_methodNamed B.named
  have hlocks := B.notSynchronized
  have hS : va_S (fun _ => False) s.heap s.heap [] := va_S.rf
  have hl := lv_entry ([.int p0, .int p1, .int p2]) (n := 3) (Nat.le_of_ble_eq_true rfl)
  rw [lg_entry_eq]
  generalize (lg_sl ([.int p0, .int p1, .int p2]) ++ List.replicate (3 - (lg_sl ([.int p0, .int p1, .int p2])).length) Slot.unset).toArray = ls at hl ⊢
  have hl : lv_has ls 3 [(0, .int p0), (1, .int p1), (2, .int p2)] := hl
  obtain ⟨RES, hF⟩ : ∃ R9, fX12_placeOf p0 p1 p2 = R9 := ⟨_, rfl⟩
  have hR9 := hF
  refine lv_sipush (v := 275) hx hb (dk_at dkX12_placeOf 0 rfl) (by decide) ?_
  refine lv_iload_n hx hb (dk_at dkX12_placeOf 1 rfl) rfl (lv_at hl 0 rfl) ?_
  refine lv_imul hx hb (dk_at dkX12_placeOf 2 rfl) ?_
  refine lv_topi (fun x_5 ex_5 => ?_)
  have gx_5 : gi x_5 0 6600 := gi_mul ex_5 (gi_c 275 275 (by decide)) gp0 (by decide)
  refine lv_bipush (v := 11) hx hb (dk_at dkX12_placeOf 3 rfl) (by decide) ?_
  refine lv_iload_n hx hb (dk_at dkX12_placeOf 4 rfl) rfl (lv_at hl 1 rfl) ?_
  refine lv_imul hx hb (dk_at dkX12_placeOf 5 rfl) ?_
  refine lv_topi (fun x_6 ex_6 => ?_)
  have gx_6 : gi x_6 0 264 := gi_mul ex_6 (gi_c 11 11 (by decide)) gp1 (by decide)
  refine lv_iadd hx hb (dk_at dkX12_placeOf 6 rfl) ?_
  refine lv_topi (fun x_7 ex_7 => ?_)
  have gx_7 : gi x_7 0 6864 := gi_add ex_7 gx_5 gx_6 (by decide)
  refine lv_iload_n hx hb (dk_at dkX12_placeOf 7 rfl) rfl (lv_at hl 2 rfl) ?_
  refine lv_iadd hx hb (dk_at dkX12_placeOf 8 rfl) ?_
  refine lv_topi (fun x_8 ex_8 => ?_)
  have gx_8 : gi x_8 0 6874 := gi_add ex_8 gx_7 gp2 (by decide)
  exact W.iret (v := x_8) hx hb hr (fun t ht hW => ⟨⟨x_8, (), rfl, ⟨gx_8, by first | (rw [ex_8, ex_7, ex_6, ex_5]; exact hF.trans hR9.symm) | ((try rw [ex_8]); (try rw [ex_7]); (try rw [ex_6]); (try rw [ex_5]); exact hF.trans hR9.symm)⟩, trivial⟩, hS.F ht⟩) hS.2.2 (dk_at dkX12_placeOf 9 rfl)
noncomputable def lsX12_waysBy : List (Nat × Instr × Nat) := [(0, .aload_n 0, 1), (1, .iload_n 3, 1), (2, .iload 4, 2), (4, .invokevirtual 318, 3), (7, .istore 5, 2), (9, .iload 5, 2), (11, .iconst (-1), 1), (12, .if_icmp .ne 7, 3), (15, .iconst 0, 1), (16, .goto 20, 3), (19, .aload_n 0, 1), (20, .getfield 66, 3), (23, .iload_n 1, 1), (24, .iconst 1, 1), (25, .iadd, 1), (26, .iload_n 2, 1), (27, .iload 4, 2), (29, .iadd, 1), (30, .iload 5, 2), (32, .invokestatic 321, 3), (35, .iaload, 1), (36, .ireturn, 1)]
theorem dkX12_waysBy : dkAll cX12_waysBy lsX12_waysBy = true := dk_fast (by decide +kernel)
noncomputable def bfX12_waysBy_36 (mi : Nat → Int32) (fm_ways : Nat → Int32) (p1 : Int32) (p2 : Int32) (p3 : Int32) (p4 : Int32) (s0 : Int32) : Int32 := s0
noncomputable def fX12_waysBy (mi : Nat → Int32) (fm_ways : Nat → Int32) (p1 : Int32) (p2 : Int32) (p3 : Int32) (p4 : Int32) : Int32 := cal (fun o1 => if o1 = (-1 : Int32) then (bfX12_waysBy_36 mi fm_ways p1 p2 p3 p4 (0 : Int32)) else (cal (fun o2 => bfX12_waysBy_36 mi fm_ways p1 p2 p3 p4 (fm_ways o2.toNatClampNeg)) (fX12_placeOf (p1 + (1 : Int32)) (p2 + p4) o1))) (fX12_runBehind mi p3 p4)
set_option maxHeartbeats 4000000 in
set_option maxRecDepth 100000 in
theorem sX12_waysBy (l : Launch) (dC : Nat → ClassId) (dI : Nat → Nat → Nat) (h0 : Nat) (mi : Nat → Int32) (mr : Nat → Nat) (km : Nat → ClassId) (fm_ways : Nat → Int32) (fm_trust : Nat → Int32) (fm_letter : Nat → Int32) (fm_reportPlace : Nat → Int32) (fm_reportKind : Nat → Int32) (fm_struck : Nat → Int32) (fm_reportMonth : Nat → Int32) (fm_reportDay : Nat → Int32) (fm_reportKnown : Nat → Int32) (fm_deedMonth : Nat → Int32) (fm_deedDay : Nat → Int32) (fm_deedLong : Nat → Int32) (fm_deedKind : Nat → Int32) (fm_kept : Nat → Int32) (fm_tape : Nat → Int32) (fm_must : Nat → Int32) (fm_least : Nat → Int32) (fm_pin : Nat → Int32) (fm_verdict : Nat → Int32) (fm_row : Nat → Int32) (fm_official : Nat → Int32) (fm_aside : Nat → Int32) (fm_worth : Nat → Int32) (fm_out : Nat → Int32) (p1 : Int32) (p2 : Int32) (p3 : Int32) (p4 : Int32) (gmi_0 : gi (mi 0) 0 24) (gmi_1 : gi (mi 1) 0 5) (gmi_2 : gi (mi 2) 0 5) (gmi_4 : gi (mi 4) 0 1) (gmi_7 : gi (mi 7) 0 6) (gmi_10 : gi (mi 10) 0 24) (gmi_17 : gi (mi 17) 0 8) (gmi_23 : gi (mi 23) 0 300) (gmi_24 : gi (mi 24) 0 1) (gmi_26 : gi (mi 26) 0 1600) (gmi_29 : gi (mi 29) 0 1600) (gmi_30 : gi (mi 30) 0 1600) (gmi_33 : gi (mi 33) 0 1) (gmi_37 : gi (mi 37) 0 1) (gmi_41 : gi (mi 41) 0 24) (gmi_50 : gi (mi 50) 0 1) (gmi_51 : gi (mi 51) 0 1) (gmi_56 : gi (mi 56) 0 80) (gp1 : gi p1 0 23) (gp2 : gi p2 0 23) (gp3 : gi p3 (-1) 10) (gp4 : gi p4 0 1) : Met l yX12_waysBy (.code yX12_waysBy cX12_waysBy 6 (some .int) :: wsGB) ({ frames := 1, cells := 0, slots := 0, locals := 23 }) (va_Pc [.ref h0, .int p1, .int p2, .int p3, .int p4] (fun U => va_P (dC, dI) vwCl (MWn h0 mr km (mi 0) (mi 1) (mi 2) (mi 3) (mi 4) (mi 5) (mi 6) (mi 7) (mi 10) (mi 17) (mi 23) (mi 24) (mi 26) (mi 27) (mi 28) (mi 29) (mi 30) (mi 31) (mi 32) (mi 33) (mi 37) (mi 41) (mi 42) (mi 43) (mi 44) (mi 45) (mi 47) (mi 48) (mi 49) (mi 50) (mi 51) (mi 54) (mi 56) fm_trust fm_letter fm_reportPlace fm_reportKind fm_struck fm_reportMonth fm_reportDay fm_reportKnown fm_deedMonth fm_deedDay fm_deedLong fm_deedKind fm_kept fm_tape fm_must fm_least fm_pin fm_ways fm_verdict fm_row fm_official fm_aside fm_worth fm_out) U.heap ∧ va_K (dC, dI) vwCl (MT km) U)) (va_Qi (fun (r : Int32) (u : Unit) => (gi r (-2147483648) 2147483647) ∧ r = fX12_waysBy mi fm_ways p1 p2 p3 p4) (fun _ _ => True) (fun _ => False)) 0 0 (fun _ => False) := by
  refine Met.ofW (cc := cX12_waysBy) (maxL := 6) (ret := (some .int)) (by decide) rfl ?_
  intro p e s m args below meth c s₁ B hml hv
  obtain ⟨rfl, hP, hK⟩ := hv
  have hx := B.exec
  have hb := B.bytes
  have hr := B.returns
  have hts := atoms_spec (ws := (.code yX12_waysBy cX12_waysBy 6 (some .int) :: wsGB)) B.pre
  have hown : s.vm.findClass RX12 = some m.cls := findClass_of_methodNamed B.named
  have hlocks := B.notSynchronized
  have hS : va_S (fun _ => False) s.heap s.heap [] := va_S.rf
  have hl := lv_entry ([.ref h0, .int p1, .int p2, .int p3, .int p4]) (n := 6) (Nat.le_of_ble_eq_true rfl)
  rw [lg_entry_eq]
  generalize (lg_sl ([.ref h0, .int p1, .int p2, .int p3, .int p4]) ++ List.replicate (6 - (lg_sl ([.ref h0, .int p1, .int p2, .int p3, .int p4])).length) Slot.unset).toArray = ls at hl ⊢
  have hl : lv_has ls 6 [(0, .ref h0), (1, .int p1), (2, .int p2), (3, .int p3), (4, .int p4)] := hl
  obtain ⟨RES, hF⟩ : ∃ R9, fX12_waysBy mi fm_ways p1 p2 p3 p4 = R9 := ⟨_, rfl⟩
  have hR9 := hF
  refine lv_aload_n hx hb (dk_at dkX12_waysBy 0 rfl) rfl (lv_at hl 0 rfl) ?_
  refine lv_iload_n hx hb (dk_at dkX12_waysBy 1 rfl) rfl (lv_at hl 3 rfl) ?_
  refine lv_iload hx hb (dk_at dkX12_waysBy 2 rfl) (lv_at hl 4 rfl) ?_
  refine va_calli (va_runV (As := [.int p3, .int p4]) (rest := []) ⟨hx, hb, hml, hown, hts⟩ (sX12_runBehind l dC dI h0 mi mr km fm_trust fm_letter fm_reportPlace fm_reportKind fm_struck fm_reportMonth fm_reportDay fm_reportKnown fm_deedMonth fm_deedDay fm_deedLong fm_deedKind fm_kept fm_tape fm_must fm_least fm_pin fm_ways fm_verdict fm_row fm_official fm_aside fm_worth fm_out p3 p4 gmi_0 gmi_1 gmi_2 gmi_4 gmi_7 gmi_10 gmi_17 gmi_23 gmi_24 gmi_26 gmi_29 gmi_30 gmi_33 gmi_37 gmi_41 gmi_50 gmi_51 gmi_56 gp3 gp4) (cwV 2 hts (gz_gV mGB_311 mGB_312 mGB_313 mGB_1 mGB_314 goodGB) rfl rfl rfl hdV_X12_runBehind_X12_2 ⟨Nat.le_of_ble_eq_true rfl, Nat.le_of_ble_eq_true rfl⟩) ⟨bl_R, mw_recv hK hP, fun U hU hW => ⟨rfl, by rw [hU]; exact hP, va_K.moved hW.alike hK⟩⟩ rfl rfl hl.1 rfl (lv_room (Nat.le_of_ble_eq_true rfl)) (dk_at dkX12_waysBy 3 rfl) ⟨Nat.zero_le _, Nat.zero_le _⟩) hS (fun q _ h => h.elim) (fun q h => h.elim) (fun r_9 u t H1 locs ht hvm hw hB hz1 hk1 hS => ?_)
  obtain ⟨hw, hE⟩ := hw
  have hP := gz_keep hP hk1
  have hF := gf_callm (a := r_9) hE hF (by first | with_reducible rfl | simp only [upd_same, upd_app, ↓reduceIte, Nat.reduceEqDiff])
  generalize H1 = H at hP hS ⊢
  have gr_9 : gi r_9 (-1) 10 := hw
  refine lv_istore (lv' := [(5, .int r_9), (0, .ref h0), (1, .int p1), (2, .int p2), (3, .int p3), (4, .int p4)]) hx hb (dk_at dkX12_waysBy 4 rfl) hl (by decide) rfl (fun ls hl => ?_)
  refine lv_iload hx hb (dk_at dkX12_waysBy 5 rfl) (lv_at hl 0 rfl) ?_
  refine lv_iconst (v := (-1)) hx hb (dk_at dkX12_waysBy 6 rfl) (by decide) ?_
  refine lv_icmp_ne (tgt := 19) hx hb (dk_at dkX12_waysBy 7 rfl) (by decide) (fun c_10 => ?_) (fun c_10 => ?_)
  · have hF := gf_neg c_10 hF
    have g_11 : gi r_9 0 10 := gi_ne_lo c_10 gr_9 (gi_c (-1) (-1) (by decide)) (by decide)
    refine lv_aload_n hx hb (dk_at dkX12_waysBy 10 rfl) rfl (lv_at hl 1 rfl) ?_
    refine va_get (D := (dC, dI)) (ci := 12) (v := .ref (mr 17)) (C := RX12) (T := TX12) (N := 57) hx hb hts (fun w h => List.mem_cons_of_mem _ (jnGB_X12 w h)) hown hK hP 0 rfl rfl 38 (by decide) (hts _ (List.mem_cons_of_mem _ mGB_29)) (fun _ h9 => h9) rfl (dk_at dkX12_waysBy 11 rfl) ?_
    refine lv_iload_n hx hb (dk_at dkX12_waysBy 12 rfl) rfl (lv_at hl 2 rfl) ?_
    refine lv_iconst (v := 1) hx hb (dk_at dkX12_waysBy 13 rfl) (by decide) ?_
    refine lv_iadd hx hb (dk_at dkX12_waysBy 14 rfl) ?_
    refine lv_topi (fun x_12 ex_12 => ?_)
    have gx_12 : gi x_12 1 24 := gi_add ex_12 gp1 (gi_c 1 1 (by decide)) (by decide)
    refine lv_iload_n hx hb (dk_at dkX12_waysBy 15 rfl) rfl (lv_at hl 3 rfl) ?_
    refine lv_iload hx hb (dk_at dkX12_waysBy 16 rfl) (lv_at hl 5 rfl) ?_
    refine lv_iadd hx hb (dk_at dkX12_waysBy 17 rfl) ?_
    refine lv_topi (fun x_13 ex_13 => ?_)
    have gx_13 : gi x_13 0 24 := gi_add ex_13 gp2 gp4 (by decide)
    refine lv_iload hx hb (dk_at dkX12_waysBy 18 rfl) (lv_at hl 0 rfl) ?_
    have hPc := hP.sub (ws' := []) [] rfl
    have hKc := hK.sub (tys' := []) [] rfl
    refine va_calli (va_runS (As := [.int x_12, .int x_13, .int r_9]) (rest := [.ref (mr 17)]) ⟨hx, hb, hml, hown, hts⟩ (sX12_placeOf l dC dI x_12 x_13 r_9 (gi_w gx_12 (by decide)) gx_13 g_11) (cwS 3 hts (gz_gS mGB_315 mGB_316 mGB_1 mGB_317 goodGB) rfl rfl rfl hdS_X12_placeOf_X12_3 ⟨Nat.le_of_ble_eq_true rfl, Nat.le_of_ble_eq_true rfl⟩) ⟨bl_R, fun U hU hW => ⟨rfl, by rw [hU]; exact hPc, va_K.moved hW.alike hKc⟩⟩ rfl rfl hl.1 rfl (lv_room (Nat.le_of_ble_eq_true rfl)) (dk_at dkX12_waysBy 19 rfl) ⟨Nat.zero_le _, Nat.zero_le _⟩) hS (fun q _ h => h.elim) (fun q h => h.elim) (fun r_14 u t H1 locs ht hvm hw hB hz1 hk1 hS => ?_)
    obtain ⟨hw, hE⟩ := hw
    have hP := gz_keep hP hk1
    have hF := gf_call (a := r_14) (by rw [ex_13, ex_12] at hE; exact hE) hF
    generalize H1 = H at hP hS ⊢
    have gr_14 : gi r_14 0 6874 := hw
    refine va_iald hx hb hK hP 18 17 rfl rfl (gi_in gr_14 (by decide)) (dk_at dkX12_waysBy 20 rfl) ?_
    refine lv_topi (fun x_15 ex_15 => ?_)
    exact W.iret (v := x_15) hx hb hr (fun t ht hW => ⟨⟨x_15, (), rfl, ⟨(gi_any x_15), by first | (rw [ex_15]; exact hF.trans hR9.symm) | ((try rw [ex_15]); exact hF.trans hR9.symm)⟩, trivial⟩, hS.F ht⟩) hS.2.2 (dk_at dkX12_waysBy 21 rfl)
  · have hF := gf_pos c_10 hF
    have g_16 : gi r_9 (-1) (-1) := gi_eq c_10 (gi_c (-1) (-1) (by decide))
    refine lv_iconst (v := 0) hx hb (dk_at dkX12_waysBy 8 rfl) (by decide) ?_
    refine lv_goto (tgt := 36) hx hb (dk_at dkX12_waysBy 9 rfl) (by decide) ?_
    exact W.iret (v := 0) hx hb hr (fun t ht hW => ⟨⟨0, (), rfl, ⟨(gi_any 0), hF.trans hR9.symm⟩, trivial⟩, hS.F ht⟩) hS.2.2 (dk_at dkX12_waysBy 21 rfl)
noncomputable def lsX12_counts : List (Nat × Instr × Nat) := [(0, .aload_n 0, 1), (1, .getfield 117, 3), (4, .istore_n 1, 1), (5, .iload_n 1, 1), (6, .ifCond .lt 120, 3), (9, .iconst 0, 1), (10, .istore_n 2, 1), (11, .iload_n 2, 1), (12, .iload_n 1, 1), (13, .if_icmp .gt 107, 3), (16, .aload_n 0, 1), (17, .getfield 312, 3), (20, .ifCond .ne 21, 3), (23, .aload_n 0, 1), (24, .iload_n 1, 1), (25, .bipush 29, 2), (27, .iload_n 1, 1), (28, .imul, 1), (29, .iload_n 2, 1), (30, .iadd, 1), (31, .invokevirtual 325, 3), (34, .ifCond .eq 7, 3), (37, .iconst 1, 1), (38, .goto 4, 3), (41, .iconst 0, 1), (42, .istore_n 3, 1), (43, .iconst 0, 1), (44, .istore 4, 2), (46, .iload 4, 2), (48, .bipush 10, 2), (50, .if_icmp .gt 64, 3), (53, .iload_n 3, 1), (54, .ifCond .ne 7, 3), (57, .iconst 0, 1), (58, .goto 34, 3), (61, .iload_n 1, 1), (62, .aload_n 0, 1), (63, .getfield 117, 3), (66, .if_icmp .ne 7, 3), (69, .iconst 1, 1), (70, .goto 22, 3), (73, .aload_n 0, 1), (74, .iload_n 1, 1), (75, .iload_n 2, 1), (76, .iload 4, 2), (78, .iconst 0, 1), (79, .invokevirtual 328, 3), (82, .aload_n 0, 1), (83, .iload_n 1, 1), (84, .iload_n 2, 1), (85, .iload 4, 2), (87, .iconst 1, 1), (88, .invokevirtual 328, 3), (91, .iadd, 1), (92, .istore 5, 2), (94, .aload_n 0, 1), (95, .getfield 66, 3), (98, .iload_n 1, 1), (99, .iload_n 2, 1), (100, .iload 4, 2), (102, .invokestatic 321, 3), (105, .iload 5, 2), (107, .iastore, 1), (108, .iinc 4 1, 3), (111, .goto (-65), 3), (114, .iinc 2 1, 3), (117, .goto (-106), 3), (120, .iinc 1 (-1), 3), (123, .goto (-118), 3), (126, .aload_n 0, 1), (127, .getfield 66, 3), (130, .iconst 0, 1), (131, .iaload, 1), (132, .ireturn, 1)]
theorem dkX12_counts : dkAll cX12_counts lsX12_counts = true := dk_fast (by decide +kernel)
noncomputable def bfX12_counts_42 (mi : Nat → Int32) (fm_must : Nat → Int32) (fm_least : Nat → Int32) (fm_pin : Nat → Int32) (fm_ways : Nat → Int32) (K : (Int32 → (Nat → Int32) → (Int32 × (Nat → Int32))) × (Int32 → Int32 → (Nat → Int32) → (Int32 × (Nat → Int32))) × (Int32 → Int32 → Int32 → Int32 → (Nat → Int32) → (Int32 × (Nat → Int32)))) (v1 : Int32) (v2 : Int32) (s0 : Int32) (z4 : Nat → Int32) : Int32 × (Nat → Int32) := K.2.2 v1 v2 s0 (0 : Int32) z4
noncomputable def bfX12_counts_41 (mi : Nat → Int32) (fm_must : Nat → Int32) (fm_least : Nat → Int32) (fm_pin : Nat → Int32) (fm_ways : Nat → Int32) (K : (Int32 → (Nat → Int32) → (Int32 × (Nat → Int32))) × (Int32 → Int32 → (Nat → Int32) → (Int32 × (Nat → Int32))) × (Int32 → Int32 → Int32 → Int32 → (Nat → Int32) → (Int32 × (Nat → Int32)))) (v1 : Int32) (v2 : Int32) (z4 : Nat → Int32) : Int32 × (Nat → Int32) := bfX12_counts_42 mi fm_must fm_least fm_pin fm_ways K v1 v2 (0 : Int32) z4
noncomputable def bfX12_counts_92 (mi : Nat → Int32) (fm_must : Nat → Int32) (fm_least : Nat → Int32) (fm_pin : Nat → Int32) (fm_ways : Nat → Int32) (K : (Int32 → (Nat → Int32) → (Int32 × (Nat → Int32))) × (Int32 → Int32 → (Nat → Int32) → (Int32 × (Nat → Int32))) × (Int32 → Int32 → Int32 → Int32 → (Nat → Int32) → (Int32 × (Nat → Int32)))) (v1 : Int32) (v2 : Int32) (v3 : Int32) (v4 : Int32) (s0 : Int32) (z4 : Nat → Int32) : Int32 × (Nat → Int32) := cal (fun o4 => K.2.2 v1 v2 v3 (v4 + (1 : Int32)) (upd z4 o4.toNatClampNeg s0)) (fX12_placeOf v1 v2 v4)
noncomputable def dfX12_counts_5 (mi : Nat → Int32) (fm_must : Nat → Int32) (fm_least : Nat → Int32) (fm_pin : Nat → Int32) (fm_ways : Nat → Int32) (K : (Int32 → (Nat → Int32) → (Int32 × (Nat → Int32))) × (Int32 → Int32 → (Nat → Int32) → (Int32 × (Nat → Int32))) × (Int32 → Int32 → Int32 → Int32 → (Nat → Int32) → (Int32 × (Nat → Int32)))) (v1 : Int32) (z4 : Nat → Int32) : Int32 × (Nat → Int32) := if v1 < (0 : Int32) then ((z4 (0 : Int32).toNatClampNeg), z4) else (K.2.1 v1 (0 : Int32) z4)
noncomputable def dfX12_counts_11 (mi : Nat → Int32) (fm_must : Nat → Int32) (fm_least : Nat → Int32) (fm_pin : Nat → Int32) (fm_ways : Nat → Int32) (K : (Int32 → (Nat → Int32) → (Int32 × (Nat → Int32))) × (Int32 → Int32 → (Nat → Int32) → (Int32 × (Nat → Int32))) × (Int32 → Int32 → Int32 → Int32 → (Nat → Int32) → (Int32 × (Nat → Int32)))) (v1 : Int32) (v2 : Int32) (z4 : Nat → Int32) : Int32 × (Nat → Int32) := if v1 < v2 then (K.1 (v1 + (-1 : Int32)) z4) else (if (mi 37) = (0 : Int32) then (cal (fun o1 => if o1 = (0 : Int32) then (bfX12_counts_41 mi fm_must fm_least fm_pin fm_ways K v1 v2 z4) else (bfX12_counts_42 mi fm_must fm_least fm_pin fm_ways K v1 v2 (1 : Int32) z4)) (fX12_isOpen fm_must fm_least fm_pin v1 (((29 : Int32) * v1) + v2))) else (bfX12_counts_41 mi fm_must fm_least fm_pin fm_ways K v1 v2 z4))
noncomputable def dfX12_counts_46 (mi : Nat → Int32) (fm_must : Nat → Int32) (fm_least : Nat → Int32) (fm_pin : Nat → Int32) (fm_ways : Nat → Int32) (K : (Int32 → (Nat → Int32) → (Int32 × (Nat → Int32))) × (Int32 → Int32 → (Nat → Int32) → (Int32 × (Nat → Int32))) × (Int32 → Int32 → Int32 → Int32 → (Nat → Int32) → (Int32 × (Nat → Int32)))) (v1 : Int32) (v2 : Int32) (v3 : Int32) (v4 : Int32) (z4 : Nat → Int32) : Int32 × (Nat → Int32) := if (10 : Int32) < v4 then (K.2.1 v1 (v2 + (1 : Int32)) z4) else (if v3 = (0 : Int32) then (bfX12_counts_92 mi fm_must fm_least fm_pin fm_ways K v1 v2 v3 v4 (0 : Int32) z4) else (if v1 = (mi 0) then (bfX12_counts_92 mi fm_must fm_least fm_pin fm_ways K v1 v2 v3 v4 (1 : Int32) z4) else (cal (fun o2 => cal (fun o3 => bfX12_counts_92 mi fm_must fm_least fm_pin fm_ways K v1 v2 v3 v4 (o2 + o3) z4) (fX12_waysBy mi z4 v1 v2 v4 (1 : Int32))) (fX12_waysBy mi z4 v1 v2 v4 (0 : Int32)))))
noncomputable def lfX12_counts (mi : Nat → Int32) (fm_must : Nat → Int32) (fm_least : Nat → Int32) (fm_pin : Nat → Int32) (fm_ways : Nat → Int32) (z : Nat) : (Int32 → (Nat → Int32) → (Int32 × (Nat → Int32))) × (Int32 → Int32 → (Nat → Int32) → (Int32 × (Nat → Int32))) × (Int32 → Int32 → Int32 → Int32 → (Nat → Int32) → (Int32 × (Nat → Int32))) := Nat.rec (motive := fun _ => (Int32 → (Nat → Int32) → (Int32 × (Nat → Int32))) × (Int32 → Int32 → (Nat → Int32) → (Int32 × (Nat → Int32))) × (Int32 → Int32 → Int32 → Int32 → (Nat → Int32) → (Int32 × (Nat → Int32)))) ((fun _ z4 => (0, z4), fun _ _ z4 => (0, z4), fun _ _ _ _ z4 => (0, z4))) (fun _ K => (dfX12_counts_5 mi fm_must fm_least fm_pin fm_ways K, dfX12_counts_11 mi fm_must fm_least fm_pin fm_ways K, dfX12_counts_46 mi fm_must fm_least fm_pin fm_ways K)) z
noncomputable def fX12_counts (mi : Nat → Int32) (fm_must : Nat → Int32) (fm_least : Nat → Int32) (fm_pin : Nat → Int32) (fm_ways : Nat → Int32) : Int32 × (Nat → Int32) := (lfX12_counts mi fm_must fm_least fm_pin fm_ways 1000000000).1 (mi 0) fm_ways
set_option maxHeartbeats 4000000 in
set_option maxRecDepth 100000 in
theorem lp_sX12_counts {p : Program} {l : Launch} {e : Env} {R : Room} {s : State} {m : MethodId} {args : Array Value} {below : List Frame} {meth : Method} {c : Code} {Q : State → Prop} {A : Nat → Prop} {cells slots : Nat} {dC : Nat → ClassId} {dI : Nat → Nat → Nat} {RES : Int32 × (Nat → Int32)} (h0 : Nat) (mi : Nat → Int32) (mr : Nat → Nat) (km : Nat → ClassId) (fm_must : Nat → Int32) (fm_least : Nat → Int32) (fm_pin : Nat → Int32) (fm_ways : Nat → Int32) (fm_trust : Nat → Int32) (fm_letter : Nat → Int32) (fm_reportPlace : Nat → Int32) (fm_reportKind : Nat → Int32) (fm_struck : Nat → Int32) (fm_reportMonth : Nat → Int32) (fm_reportDay : Nat → Int32) (fm_reportKnown : Nat → Int32) (fm_deedMonth : Nat → Int32) (fm_deedDay : Nat → Int32) (fm_deedLong : Nat → Int32) (fm_deedKind : Nat → Int32) (fm_kept : Nat → Int32) (fm_tape : Nat → Int32) (fm_verdict : Nat → Int32) (fm_row : Nat → Int32) (fm_official : Nat → Int32) (fm_aside : Nat → Int32) (fm_worth : Nat → Int32) (fm_out : Nat → Int32) (gmi_0 : gi (mi 0) 0 24) (gmi_1 : gi (mi 1) 0 5) (gmi_2 : gi (mi 2) 0 5) (gmi_4 : gi (mi 4) 0 1) (gmi_7 : gi (mi 7) 0 6) (gmi_10 : gi (mi 10) 0 24) (gmi_17 : gi (mi 17) 0 8) (gmi_23 : gi (mi 23) 0 300) (gmi_24 : gi (mi 24) 0 1) (gmi_26 : gi (mi 26) 0 1600) (gmi_29 : gi (mi 29) 0 1600) (gmi_30 : gi (mi 30) 0 1600) (gmi_33 : gi (mi 33) 0 1) (gmi_37 : gi (mi 37) 0 1) (gmi_41 : gi (mi 41) 0 24) (gmi_50 : gi (mi 50) 0 1) (gmi_51 : gi (mi 51) 0 1) (gmi_56 : gi (mi 56) 0 80) (hx : p.tables.exec = Jvm.exec) (hb : c.code = cX12_counts) (hml : c.maxLocals = 6) (hown : s.vm.findClass RX12 = some m.cls) (hts : ∀ w ∈ ((.code yX12_counts cX12_counts 6 (some .int) :: wsGB) : List Cond), w.before args s = true) (hK : va_K (dC, dI) vwCl (MT km) s) (hA : ∀ q : Nat, s.heap.size ≤ q → A q) (hRf : 2 ≤ R.frames) (hRl : 48 ≤ R.locals) (hRc : cells ≤ R.cells) (hRs : slots ≤ R.slots) (kr132 : ∀ (v : Int32) (z4 : Nat → Int32) (H : Heap) (locs : List Loc) (ls : Array Slot), (v, z4) = RES → va_P (dC, dI) vwCl (MWn h0 mr km (mi 0) (mi 1) (mi 2) (mi 3) (mi 4) (mi 5) (mi 6) (mi 7) (mi 10) (mi 17) (mi 23) (mi 24) (mi 26) (mi 27) (mi 28) (mi 29) (mi 30) (mi 31) (mi 32) (mi 33) (mi 37) (mi 41) (mi 42) (mi 43) (mi 44) (mi 45) (mi 47) (mi 48) (mi 49) (mi 50) (mi 51) (mi 54) (mi 56) fm_trust fm_letter fm_reportPlace fm_reportKind fm_struck fm_reportMonth fm_reportDay fm_reportKnown fm_deedMonth fm_deedDay fm_deedLong fm_deedKind fm_kept fm_tape fm_must fm_least fm_pin z4 fm_verdict fm_row fm_official fm_aside fm_worth fm_out) H → va_D A (MWn h0 mr km (mi 0) (mi 1) (mi 2) (mi 3) (mi 4) (mi 5) (mi 6) (mi 7) (mi 10) (mi 17) (mi 23) (mi 24) (mi 26) (mi 27) (mi 28) (mi 29) (mi 30) (mi 31) (mi 32) (mi 33) (mi 37) (mi 41) (mi 42) (mi 43) (mi 44) (mi 45) (mi 47) (mi 48) (mi 49) (mi 50) (mi 51) (mi 54) (mi 56) fm_trust fm_letter fm_reportPlace fm_reportKind fm_struck fm_reportMonth fm_reportDay fm_reportKnown fm_deedMonth fm_deedDay fm_deedLong fm_deedKind fm_kept fm_tape fm_must fm_least fm_pin z4 fm_verdict fm_row fm_official fm_aside fm_worth fm_out) → va_S A s.heap H locs → lv_has ls 6 [] → W p l e R s m args below meth c H locs cells slots Q (F0 m 132 ls [.int v])) : ∀ z : Nat, (∀ (v1 : Int32) (z4 : Nat → Int32) (H : Heap) (locs : List Loc) (ls : Array Slot), gi v1 (-1) 24 → v1.toInt ≤ (mi 0).toInt → (lfX12_counts mi fm_must fm_least fm_pin fm_ways z).1 v1 z4 = RES → 759 + 758 * v1.toInt < (z : Int) → va_P (dC, dI) vwCl (MWn h0 mr km (mi 0) (mi 1) (mi 2) (mi 3) (mi 4) (mi 5) (mi 6) (mi 7) (mi 10) (mi 17) (mi 23) (mi 24) (mi 26) (mi 27) (mi 28) (mi 29) (mi 30) (mi 31) (mi 32) (mi 33) (mi 37) (mi 41) (mi 42) (mi 43) (mi 44) (mi 45) (mi 47) (mi 48) (mi 49) (mi 50) (mi 51) (mi 54) (mi 56) fm_trust fm_letter fm_reportPlace fm_reportKind fm_struck fm_reportMonth fm_reportDay fm_reportKnown fm_deedMonth fm_deedDay fm_deedLong fm_deedKind fm_kept fm_tape fm_must fm_least fm_pin z4 fm_verdict fm_row fm_official fm_aside fm_worth fm_out) H → va_D A (MWn h0 mr km (mi 0) (mi 1) (mi 2) (mi 3) (mi 4) (mi 5) (mi 6) (mi 7) (mi 10) (mi 17) (mi 23) (mi 24) (mi 26) (mi 27) (mi 28) (mi 29) (mi 30) (mi 31) (mi 32) (mi 33) (mi 37) (mi 41) (mi 42) (mi 43) (mi 44) (mi 45) (mi 47) (mi 48) (mi 49) (mi 50) (mi 51) (mi 54) (mi 56) fm_trust fm_letter fm_reportPlace fm_reportKind fm_struck fm_reportMonth fm_reportDay fm_reportKnown fm_deedMonth fm_deedDay fm_deedLong fm_deedKind fm_kept fm_tape fm_must fm_least fm_pin z4 fm_verdict fm_row fm_official fm_aside fm_worth fm_out) → va_S A s.heap H locs → lv_has ls 6 [(0, .ref h0), (1, .int v1)] → W p l e R s m args below meth c H locs cells slots Q (F0 m 5 ls [])) ∧ (∀ (v1 : Int32) (v2 : Int32) (z4 : Nat → Int32) (H : Heap) (locs : List Loc) (ls : Array Slot), gi v1 0 24 → gi v2 0 25 → v1.toInt ≤ (mi 0).toInt → (lfX12_counts mi fm_must fm_least fm_pin fm_ways z).2.1 v1 v2 z4 = RES → 702 + 758 * v1.toInt + (-28) * v2.toInt < (z : Int) → va_P (dC, dI) vwCl (MWn h0 mr km (mi 0) (mi 1) (mi 2) (mi 3) (mi 4) (mi 5) (mi 6) (mi 7) (mi 10) (mi 17) (mi 23) (mi 24) (mi 26) (mi 27) (mi 28) (mi 29) (mi 30) (mi 31) (mi 32) (mi 33) (mi 37) (mi 41) (mi 42) (mi 43) (mi 44) (mi 45) (mi 47) (mi 48) (mi 49) (mi 50) (mi 51) (mi 54) (mi 56) fm_trust fm_letter fm_reportPlace fm_reportKind fm_struck fm_reportMonth fm_reportDay fm_reportKnown fm_deedMonth fm_deedDay fm_deedLong fm_deedKind fm_kept fm_tape fm_must fm_least fm_pin z4 fm_verdict fm_row fm_official fm_aside fm_worth fm_out) H → va_D A (MWn h0 mr km (mi 0) (mi 1) (mi 2) (mi 3) (mi 4) (mi 5) (mi 6) (mi 7) (mi 10) (mi 17) (mi 23) (mi 24) (mi 26) (mi 27) (mi 28) (mi 29) (mi 30) (mi 31) (mi 32) (mi 33) (mi 37) (mi 41) (mi 42) (mi 43) (mi 44) (mi 45) (mi 47) (mi 48) (mi 49) (mi 50) (mi 51) (mi 54) (mi 56) fm_trust fm_letter fm_reportPlace fm_reportKind fm_struck fm_reportMonth fm_reportDay fm_reportKnown fm_deedMonth fm_deedDay fm_deedLong fm_deedKind fm_kept fm_tape fm_must fm_least fm_pin z4 fm_verdict fm_row fm_official fm_aside fm_worth fm_out) → va_S A s.heap H locs → lv_has ls 6 [(0, .ref h0), (1, .int v1), (2, .int v2)] → W p l e R s m args below meth c H locs cells slots Q (F0 m 11 ls [])) ∧ (∀ (v1 : Int32) (v2 : Int32) (v3 : Int32) (v4 : Int32) (z4 : Nat → Int32) (H : Heap) (locs : List Loc) (ls : Array Slot), gi v1 0 24 → gi v2 0 24 → gi v3 0 1 → gi v4 0 11 → v1.toInt ≤ (mi 0).toInt → v2.toInt ≤ v1.toInt → (lfX12_counts mi fm_must fm_least fm_pin fm_ways z).2.2 v1 v2 v3 v4 z4 = RES → 697 + 758 * v1.toInt + (-28) * v2.toInt + (-2) * v4.toInt < (z : Int) → va_P (dC, dI) vwCl (MWn h0 mr km (mi 0) (mi 1) (mi 2) (mi 3) (mi 4) (mi 5) (mi 6) (mi 7) (mi 10) (mi 17) (mi 23) (mi 24) (mi 26) (mi 27) (mi 28) (mi 29) (mi 30) (mi 31) (mi 32) (mi 33) (mi 37) (mi 41) (mi 42) (mi 43) (mi 44) (mi 45) (mi 47) (mi 48) (mi 49) (mi 50) (mi 51) (mi 54) (mi 56) fm_trust fm_letter fm_reportPlace fm_reportKind fm_struck fm_reportMonth fm_reportDay fm_reportKnown fm_deedMonth fm_deedDay fm_deedLong fm_deedKind fm_kept fm_tape fm_must fm_least fm_pin z4 fm_verdict fm_row fm_official fm_aside fm_worth fm_out) H → va_D A (MWn h0 mr km (mi 0) (mi 1) (mi 2) (mi 3) (mi 4) (mi 5) (mi 6) (mi 7) (mi 10) (mi 17) (mi 23) (mi 24) (mi 26) (mi 27) (mi 28) (mi 29) (mi 30) (mi 31) (mi 32) (mi 33) (mi 37) (mi 41) (mi 42) (mi 43) (mi 44) (mi 45) (mi 47) (mi 48) (mi 49) (mi 50) (mi 51) (mi 54) (mi 56) fm_trust fm_letter fm_reportPlace fm_reportKind fm_struck fm_reportMonth fm_reportDay fm_reportKnown fm_deedMonth fm_deedDay fm_deedLong fm_deedKind fm_kept fm_tape fm_must fm_least fm_pin z4 fm_verdict fm_row fm_official fm_aside fm_worth fm_out) → va_S A s.heap H locs → lv_has ls 6 [(0, .ref h0), (1, .int v1), (2, .int v2), (3, .int v3), (4, .int v4)] → W p l e R s m args below meth c H locs cells slots Q (F0 m 46 ls [])) := by
  intro z
  induction z with
  | zero =>
    refine ⟨?_, ?_, ?_⟩
    · intro v1 z4 H locs ls gv1 hle_gv1_gmi_0 hF hmu hP hD hS hl
      exact absurd hmu (by have hv11 := gv1.1; have hv12 := gv1.2; omega)
    · intro v1 v2 z4 H locs ls gv1 gv2 hle_gv1_gmi_0 hF hmu hP hD hS hl
      exact absurd hmu (by have hv11 := gv1.1; have hv12 := gv1.2; have hv21 := gv2.1; have hv22 := gv2.2; omega)
    · intro v1 v2 v3 v4 z4 H locs ls gv1 gv2 gv3 gv4 hle_gv1_gmi_0 hle_gv2_gv1 hF hmu hP hD hS hl
      exact absurd hmu (by have hv11 := gv1.1; have hv12 := gv1.2; have hv21 := gv2.1; have hv22 := gv2.2; have hv41 := gv4.1; have hv42 := gv4.2; omega)
  | succ z ih =>
    refine ⟨?_, ?_, ?_⟩
    · intro v1 z4 H locs ls gv1 hle_gv1_gmi_0 hF hmu hP hD hS hl
      have hF : dfX12_counts_5 mi fm_must fm_least fm_pin fm_ways (lfX12_counts mi fm_must fm_least fm_pin fm_ways z) v1 z4 = RES := hF
      refine lv_iload_n hx hb (dk_at dkX12_counts 3 rfl) rfl (lv_at hl 1 rfl) ?_
      refine lv_if_lt (tgt := 126) hx hb (dk_at dkX12_counts 4 rfl) (by decide) (fun c_892 => ?_) (fun c_892 => ?_)
      · have hF := gf_pos c_892 hF
        have g_893 : gi v1 (-1) (-1) := gi_lt_l c_892 gv1 (gi_c 0 0 (by decide)) (by decide)
        refine lv_aload_n hx hb (dk_at dkX12_counts 69 rfl) rfl (lv_at hl 0 rfl) ?_
        refine va_get (D := (dC, dI)) (ci := 12) (v := .ref (mr 17)) (C := RX12) (T := TX12) (N := 57) hx hb hts (fun w h => List.mem_cons_of_mem _ (jnGB_X12 w h)) hown hK hP 0 rfl rfl 38 (by decide) (hts _ (List.mem_cons_of_mem _ mGB_29)) (fun _ h9 => h9) rfl (dk_at dkX12_counts 70 rfl) ?_
        refine lv_iconst (v := 0) hx hb (dk_at dkX12_counts 71 rfl) (by decide) ?_
        refine va_iald hx hb hK hP 18 17 rfl rfl (gi_in (gi_c 0 0 (by decide)) (by decide)) (dk_at dkX12_counts 72 rfl) ?_
        refine lv_topi (fun x_894 ex_894 => ?_)
        exact kr132 x_894 z4 _ _ _ (by first | (rw [ex_894]; exact hF) | ((try rw [ex_894]); exact hF)) hP hD hS (lv_sub hl [] rfl)
      · have hF := gf_neg c_892 hF
        have g_895 : gi v1 0 24 := gi_le_r (Int32.not_lt.mp c_892) (gi_c 0 0 (by decide)) gv1
        refine lv_iconst (v := 0) hx hb (dk_at dkX12_counts 5 rfl) (by decide) ?_
        refine lv_istore_n (lv' := [(2, .int 0), (0, .ref h0), (1, .int v1)]) hx hb (dk_at dkX12_counts 6 rfl) rfl hl (by decide) rfl (fun ls hl => ?_)
        exact ih.2.1 v1 0 z4 _ _ _ g_895 (gi_w (gi_c 0 0 (by decide)) (by decide)) (by have qgmi_0 := gmi_0.1; have rgmi_0 := gmi_0.2; have qgv1 := g_895.1; have rgv1 := g_895.2; omega) hF (by have k0 : (0 : Int32).toInt = 0 := (by decide); have av1 := gv1.1; have bv1 := gv1.2; have qgv1 := g_895.1; have rgv1 := g_895.2; omega) hP hD hS (lv_sub hl [1, 2, 0] rfl)
    · intro v1 v2 z4 H locs ls gv1 gv2 hle_gv1_gmi_0 hF hmu hP hD hS hl
      have hF : dfX12_counts_11 mi fm_must fm_least fm_pin fm_ways (lfX12_counts mi fm_must fm_least fm_pin fm_ways z) v1 v2 z4 = RES := hF
      refine lv_iload_n hx hb (dk_at dkX12_counts 7 rfl) rfl (lv_at hl 2 rfl) ?_
      refine lv_iload_n hx hb (dk_at dkX12_counts 8 rfl) rfl (lv_at hl 1 rfl) ?_
      refine lv_icmp_gt (tgt := 120) hx hb (dk_at dkX12_counts 9 rfl) (by decide) (fun c_896 => ?_) (fun c_896 => ?_)
      · have hF := gf_pos c_896 hF
        have g_897 : gi v2 1 25 := gi_lt_r c_896 gv1 gv2 (by decide)
        obtain ⟨x_898, ex_898⟩ : ∃ y : Int32, y = v1 + (-1) := ⟨_, rfl⟩
        have gx_898 : gi x_898 (-1) 23 := gi_add ex_898 gv1 (gi_c (-1) (-1) (by decide)) (by decide)
        refine lv_iinc (v := x_898) (lv' := [(1, .int x_898), (0, .ref h0), (2, .int v2)]) hx hb (dk_at dkX12_counts 67 rfl) hl (k := 1) rfl (by rw [ex_898]; rfl) (by decide) rfl (fun ls hl => ?_)
        refine lv_goto (tgt := 5) hx hb (dk_at dkX12_counts 68 rfl) (by decide) ?_
        exact ih.1 x_898 z4 _ _ _ (gi_w gx_898 (by decide)) (by have qgmi_0 := gmi_0.1; have rgmi_0 := gmi_0.2; have qgx_898 := gx_898.1; have rgx_898 := gx_898.2; have igx_898 : x_898.toInt = v1.toInt + (-1) := (by have hcm1 : ((-1) : Int32).toInt = (-1) := (by decide); have h9 := gi_addE ex_898 gv1 (gi_c (-1) (-1) (by decide)) (by decide); rw [hcm1] at h9; exact h9); have qgv1 := gv1.1; have rgv1 := gv1.2; have y1 := (Int32.lt_iff_toInt_lt.mp c_896); omega) (by first | (rw [ex_898]; exact hF) | ((try rw [ex_898]); exact hF)) (by have av1 := gv1.1; have bv1 := gv1.2; have av2 := gv2.1; have bv2 := gv2.2; have qgx_898 := gx_898.1; have rgx_898 := gx_898.2; have igx_898 : x_898.toInt = v1.toInt + (-1) := (by have hcm1 : ((-1) : Int32).toInt = (-1) := (by decide); have h9 := gi_addE ex_898 gv1 (gi_c (-1) (-1) (by decide)) (by decide); rw [hcm1] at h9; exact h9); have qgv1 := gv1.1; have rgv1 := gv1.2; omega) hP hD hS (lv_sub hl [1, 0] rfl)
      · have hF := gf_neg c_896 hF
        have g_899 : gi v2 0 24 := gi_le_l (Int32.not_lt.mp c_896) gv2 gv1
        refine lv_aload_n hx hb (dk_at dkX12_counts 10 rfl) rfl (lv_at hl 0 rfl) ?_
        refine va_get (D := (dC, dI)) (ci := 12) (v := .int (mi 37)) (C := RX12) (T := TX12) (N := 57) hx hb hts (fun w h => List.mem_cons_of_mem _ (jnGB_X12 w h)) hown hK hP 0 rfl rfl 37 (by decide) (hts _ (List.mem_cons_of_mem _ mGB_270)) (fun _ h9 => h9) rfl (dk_at dkX12_counts 11 rfl) ?_
        refine lv_if_ne (tgt := 41) hx hb (dk_at dkX12_counts 12 rfl) (by decide) (fun c_900 => ?_) (fun c_900 => ?_)
        · have hF := gf_neg c_900 hF
          have g_901 : gi (mi 37) 1 1 := gi_ne_lo c_900 gmi_37 (gi_c 0 0 (by decide)) (by decide)
          refine lv_iconst (v := 0) hx hb (dk_at dkX12_counts 24 rfl) (by decide) ?_
          refine lv_istore_n (lv' := [(3, .int 0), (0, .ref h0), (1, .int v1), (2, .int v2)]) hx hb (dk_at dkX12_counts 25 rfl) rfl hl (by decide) rfl (fun ls hl => ?_)
          refine lv_iconst (v := 0) hx hb (dk_at dkX12_counts 26 rfl) (by decide) ?_
          refine lv_istore (lv' := [(4, .int 0), (3, .int 0), (0, .ref h0), (1, .int v1), (2, .int v2)]) hx hb (dk_at dkX12_counts 27 rfl) hl (by decide) rfl (fun ls hl => ?_)
          exact ih.2.2 v1 v2 0 0 z4 _ _ _ gv1 g_899 (gi_w (gi_c 0 0 (by decide)) (by decide)) (gi_w (gi_c 0 0 (by decide)) (by decide)) (by have qgmi_0 := gmi_0.1; have rgmi_0 := gmi_0.2; have qgv1 := gv1.1; have rgv1 := gv1.2; have y1 := (Int32.le_iff_toInt_le.mp (Int32.not_lt.mp c_896)); omega) (by have qgv1 := gv1.1; have rgv1 := gv1.2; have qgv2 := g_899.1; have rgv2 := g_899.2; have y1 := (Int32.le_iff_toInt_le.mp (Int32.not_lt.mp c_896)); omega) hF (by have k0 : (0 : Int32).toInt = 0 := (by decide); have av1 := gv1.1; have bv1 := gv1.2; have av2 := gv2.1; have bv2 := gv2.2; have qgv2 := g_899.1; have rgv2 := g_899.2; have qgv1 := gv1.1; have rgv1 := gv1.2; omega) hP hD hS (lv_sub hl [2, 3, 4, 1, 0] rfl)
        · have hF := gf_pos c_900 hF
          have g_902 : gi (mi 37) 0 0 := gi_eq c_900 (gi_c 0 0 (by decide))
          refine lv_aload_n hx hb (dk_at dkX12_counts 13 rfl) rfl (lv_at hl 0 rfl) ?_
          refine lv_iload_n hx hb (dk_at dkX12_counts 14 rfl) rfl (lv_at hl 1 rfl) ?_
          refine lv_bipush (v := 29) hx hb (dk_at dkX12_counts 15 rfl) (by decide) ?_
          refine lv_iload_n hx hb (dk_at dkX12_counts 16 rfl) rfl (lv_at hl 1 rfl) ?_
          refine lv_imul hx hb (dk_at dkX12_counts 17 rfl) ?_
          refine lv_topi (fun x_903 ex_903 => ?_)
          have gx_903 : gi x_903 0 696 := gi_mul ex_903 (gi_c 29 29 (by decide)) gv1 (by decide)
          refine lv_iload_n hx hb (dk_at dkX12_counts 18 rfl) rfl (lv_at hl 2 rfl) ?_
          refine lv_iadd hx hb (dk_at dkX12_counts 19 rfl) ?_
          refine lv_topi (fun x_904 ex_904 => ?_)
          have gx_904 : gi x_904 0 720 := gi_add ex_904 gx_903 g_899 (by decide)
          refine va_calli (va_runV (As := [.int v1, .int x_904]) (rest := []) ⟨hx, hb, hml, hown, hts⟩ (sX12_isOpen l dC dI h0 mi mr km fm_must fm_least fm_pin fm_trust fm_letter fm_reportPlace fm_reportKind fm_struck fm_reportMonth fm_reportDay fm_reportKnown fm_deedMonth fm_deedDay fm_deedLong fm_deedKind fm_kept fm_tape z4 fm_verdict fm_row fm_official fm_aside fm_worth fm_out v1 x_904 gmi_0 gmi_1 gmi_2 gmi_4 gmi_7 gmi_10 gmi_17 gmi_23 gmi_24 gmi_26 gmi_29 gmi_30 gmi_33 (gi_w g_902 (by decide)) gmi_41 gmi_50 gmi_51 gmi_56 gv1) (cwV 2 hts (gz_gV mGB_303 mGB_304 mGB_305 mGB_1 mGB_306 goodGB) rfl rfl rfl hdV_X12_isOpen_X12_2 ⟨Nat.le_trans (Nat.le_of_ble_eq_true rfl) hRf, Nat.le_trans (Nat.le_of_ble_eq_true rfl) hRl⟩) ⟨bl_R, mw_recv hK hP, fun U hU hW => ⟨rfl, by rw [hU]; exact hP, va_K.moved hW.alike hK⟩⟩ rfl rfl hl.1 rfl (lv_room (Nat.le_of_ble_eq_true rfl)) (dk_at dkX12_counts 20 rfl) ⟨hRc, hRs⟩) hS (fun q _ h => h.elim) (fun q h => h.elim) (fun r_905 u t H1 locs ht hvm hw hB hz1 hk1 hS => ?_)
          obtain ⟨hw, hE⟩ := hw
          have hP := gz_keep hP hk1
          have hF := gf_call (a := r_905) (by rw [ex_904, ex_903] at hE; exact hE) hF
          generalize H1 = H at hP hS ⊢
          have gr_905 : gi r_905 0 1 := hw
          refine lv_if_eq (tgt := 41) hx hb (dk_at dkX12_counts 21 rfl) (by decide) (fun c_906 => ?_) (fun c_906 => ?_)
          · have hF := gf_pos c_906 hF
            have g_907 : gi r_905 0 0 := gi_eq c_906 (gi_c 0 0 (by decide))
            refine lv_iconst (v := 0) hx hb (dk_at dkX12_counts 24 rfl) (by decide) ?_
            refine lv_istore_n (lv' := [(3, .int 0), (0, .ref h0), (1, .int v1), (2, .int v2)]) hx hb (dk_at dkX12_counts 25 rfl) rfl hl (by decide) rfl (fun ls hl => ?_)
            refine lv_iconst (v := 0) hx hb (dk_at dkX12_counts 26 rfl) (by decide) ?_
            refine lv_istore (lv' := [(4, .int 0), (3, .int 0), (0, .ref h0), (1, .int v1), (2, .int v2)]) hx hb (dk_at dkX12_counts 27 rfl) hl (by decide) rfl (fun ls hl => ?_)
            exact ih.2.2 v1 v2 0 0 z4 _ _ _ gv1 g_899 (gi_w (gi_c 0 0 (by decide)) (by decide)) (gi_w (gi_c 0 0 (by decide)) (by decide)) (by have qgmi_0 := gmi_0.1; have rgmi_0 := gmi_0.2; have qgv1 := gv1.1; have rgv1 := gv1.2; have y1 := (Int32.le_iff_toInt_le.mp (Int32.not_lt.mp c_896)); omega) (by have qgv1 := gv1.1; have rgv1 := gv1.2; have qgv2 := g_899.1; have rgv2 := g_899.2; have y1 := (Int32.le_iff_toInt_le.mp (Int32.not_lt.mp c_896)); omega) hF (by have k0 : (0 : Int32).toInt = 0 := (by decide); have av1 := gv1.1; have bv1 := gv1.2; have av2 := gv2.1; have bv2 := gv2.2; have qgv2 := g_899.1; have rgv2 := g_899.2; have qgv1 := gv1.1; have rgv1 := gv1.2; omega) hP hD hS (lv_sub hl [2, 3, 4, 1, 0] rfl)
          · have hF := gf_neg c_906 hF
            have g_908 : gi r_905 1 1 := gi_ne_lo c_906 gr_905 (gi_c 0 0 (by decide)) (by decide)
            refine lv_iconst (v := 1) hx hb (dk_at dkX12_counts 22 rfl) (by decide) ?_
            refine lv_goto (tgt := 42) hx hb (dk_at dkX12_counts 23 rfl) (by decide) ?_
            refine lv_istore_n (lv' := [(3, .int 1), (0, .ref h0), (1, .int v1), (2, .int v2)]) hx hb (dk_at dkX12_counts 25 rfl) rfl hl (by decide) rfl (fun ls hl => ?_)
            refine lv_iconst (v := 0) hx hb (dk_at dkX12_counts 26 rfl) (by decide) ?_
            refine lv_istore (lv' := [(4, .int 0), (3, .int 1), (0, .ref h0), (1, .int v1), (2, .int v2)]) hx hb (dk_at dkX12_counts 27 rfl) hl (by decide) rfl (fun ls hl => ?_)
            exact ih.2.2 v1 v2 1 0 z4 _ _ _ gv1 g_899 (gi_w (gi_c 1 1 (by decide)) (by decide)) (gi_w (gi_c 0 0 (by decide)) (by decide)) (by have qgmi_0 := gmi_0.1; have rgmi_0 := gmi_0.2; have qgv1 := gv1.1; have rgv1 := gv1.2; have y1 := (Int32.le_iff_toInt_le.mp (Int32.not_lt.mp c_896)); omega) (by have qgv1 := gv1.1; have rgv1 := gv1.2; have qgv2 := g_899.1; have rgv2 := g_899.2; have y1 := (Int32.le_iff_toInt_le.mp (Int32.not_lt.mp c_896)); omega) hF (by have k0 : (0 : Int32).toInt = 0 := (by decide); have av1 := gv1.1; have bv1 := gv1.2; have av2 := gv2.1; have bv2 := gv2.2; have qgv2 := g_899.1; have rgv2 := g_899.2; have qgv1 := gv1.1; have rgv1 := gv1.2; omega) hP hD hS (lv_sub hl [2, 3, 4, 1, 0] rfl)
    · intro v1 v2 v3 v4 z4 H locs ls gv1 gv2 gv3 gv4 hle_gv1_gmi_0 hle_gv2_gv1 hF hmu hP hD hS hl
      have hF : dfX12_counts_46 mi fm_must fm_least fm_pin fm_ways (lfX12_counts mi fm_must fm_least fm_pin fm_ways z) v1 v2 v3 v4 z4 = RES := hF
      refine lv_iload hx hb (dk_at dkX12_counts 28 rfl) (lv_at hl 4 rfl) ?_
      refine lv_bipush (v := 10) hx hb (dk_at dkX12_counts 29 rfl) (by decide) ?_
      refine lv_icmp_gt (tgt := 114) hx hb (dk_at dkX12_counts 30 rfl) (by decide) (fun c_909 => ?_) (fun c_909 => ?_)
      · have hF := gf_pos c_909 hF
        have g_910 : gi v4 11 11 := gi_lt_r c_909 (gi_c 10 10 (by decide)) gv4 (by decide)
        obtain ⟨x_911, ex_911⟩ : ∃ y : Int32, y = v2 + 1 := ⟨_, rfl⟩
        have gx_911 : gi x_911 1 25 := gi_add ex_911 gv2 (gi_c 1 1 (by decide)) (by decide)
        refine lv_iinc (v := x_911) (lv' := [(2, .int x_911), (0, .ref h0), (1, .int v1), (3, .int v3), (4, .int v4)]) hx hb (dk_at dkX12_counts 65 rfl) hl (k := 2) rfl (by rw [ex_911]; rfl) (by decide) rfl (fun ls hl => ?_)
        refine lv_goto (tgt := 11) hx hb (dk_at dkX12_counts 66 rfl) (by decide) ?_
        exact ih.2.1 v1 x_911 z4 _ _ _ gv1 (gi_w gx_911 (by decide)) (by have qgmi_0 := gmi_0.1; have rgmi_0 := gmi_0.2; have qgv1 := gv1.1; have rgv1 := gv1.2; omega) (by first | (rw [ex_911]; exact hF) | ((try rw [ex_911]); exact hF)) (by have av1 := gv1.1; have bv1 := gv1.2; have av2 := gv2.1; have bv2 := gv2.2; have av4 := gv4.1; have bv4 := gv4.2; have qgx_911 := gx_911.1; have rgx_911 := gx_911.2; have igx_911 : x_911.toInt = v2.toInt + 1 := (by have hc1 : (1 : Int32).toInt = 1 := (by decide); have h9 := gi_addE ex_911 gv2 (gi_c 1 1 (by decide)) (by decide); rw [hc1] at h9; exact h9); have qgv2 := gv2.1; have rgv2 := gv2.2; have qgv1 := gv1.1; have rgv1 := gv1.2; omega) hP hD hS (lv_sub hl [1, 2, 0] rfl)
      · have hF := gf_neg c_909 hF
        have g_912 : gi v4 0 10 := gi_le_l (Int32.not_lt.mp c_909) gv4 (gi_c 10 10 (by decide))
        refine lv_iload_n hx hb (dk_at dkX12_counts 31 rfl) rfl (lv_at hl 3 rfl) ?_
        refine lv_if_ne (tgt := 61) hx hb (dk_at dkX12_counts 32 rfl) (by decide) (fun c_913 => ?_) (fun c_913 => ?_)
        · have hF := gf_neg c_913 hF
          have g_914 : gi v3 1 1 := gi_ne_lo c_913 gv3 (gi_c 0 0 (by decide)) (by decide)
          refine lv_iload_n hx hb (dk_at dkX12_counts 35 rfl) rfl (lv_at hl 1 rfl) ?_
          refine lv_aload_n hx hb (dk_at dkX12_counts 36 rfl) rfl (lv_at hl 0 rfl) ?_
          refine va_get (D := (dC, dI)) (ci := 12) (v := .int (mi 0)) (C := RX12) (T := TX12) (N := 57) hx hb hts (fun w h => List.mem_cons_of_mem _ (jnGB_X12 w h)) hown hK hP 0 rfl rfl 0 (by decide) (hts _ (List.mem_cons_of_mem _ mGB_103)) (fun _ h9 => h9) rfl (dk_at dkX12_counts 37 rfl) ?_
          refine lv_icmp_ne (tgt := 73) hx hb (dk_at dkX12_counts 38 rfl) (by decide) (fun c_915 => ?_) (fun c_915 => ?_)
          · have hF := gf_neg c_915 hF
            have g_916 : gi v1 0 23 := gi_nele hle_gv1_gmi_0 c_915 gv1 gmi_0 (by decide)
            have g_917 : gi v2 0 23 := gi_rel hle_gv2_gv1 gv2 g_916
            refine lv_aload_n hx hb (dk_at dkX12_counts 41 rfl) rfl (lv_at hl 0 rfl) ?_
            refine lv_iload_n hx hb (dk_at dkX12_counts 42 rfl) rfl (lv_at hl 1 rfl) ?_
            refine lv_iload_n hx hb (dk_at dkX12_counts 43 rfl) rfl (lv_at hl 2 rfl) ?_
            refine lv_iload hx hb (dk_at dkX12_counts 44 rfl) (lv_at hl 4 rfl) ?_
            refine lv_iconst (v := 0) hx hb (dk_at dkX12_counts 45 rfl) (by decide) ?_
            refine va_calli (va_runV (As := [.int v1, .int v2, .int v4, .int 0]) (rest := []) ⟨hx, hb, hml, hown, hts⟩ (sX12_waysBy l dC dI h0 mi mr km z4 fm_trust fm_letter fm_reportPlace fm_reportKind fm_struck fm_reportMonth fm_reportDay fm_reportKnown fm_deedMonth fm_deedDay fm_deedLong fm_deedKind fm_kept fm_tape fm_must fm_least fm_pin fm_verdict fm_row fm_official fm_aside fm_worth fm_out v1 v2 v4 0 gmi_0 gmi_1 gmi_2 gmi_4 gmi_7 gmi_10 gmi_17 gmi_23 gmi_24 gmi_26 gmi_29 gmi_30 gmi_33 gmi_37 gmi_41 gmi_50 gmi_51 gmi_56 g_916 g_917 (gi_w g_912 (by decide)) (gi_w (gi_c 0 0 (by decide)) (by decide))) (cwV 4 hts (gz_gV mGB_307 mGB_308 mGB_309 mGB_1 mGB_310 goodGB) rfl rfl rfl hdV_X12_waysBy_X12_4 ⟨Nat.le_trans (Nat.le_of_ble_eq_true rfl) hRf, Nat.le_trans (Nat.le_of_ble_eq_true rfl) hRl⟩) ⟨bl_R, mw_recv hK hP, fun U hU hW => ⟨rfl, by rw [hU]; exact hP, va_K.moved hW.alike hK⟩⟩ rfl rfl hl.1 rfl (lv_room (Nat.le_of_ble_eq_true rfl)) (dk_at dkX12_counts 46 rfl) ⟨hRc, hRs⟩) hS (fun q _ h => h.elim) (fun q h => h.elim) (fun r_918 u t H1 locs ht hvm hw hB hz1 hk1 hS => ?_)
            obtain ⟨hw, hE⟩ := hw
            have hP := gz_keep hP hk1
            have hF := gf_callm (a := r_918) hE hF (by first | with_reducible rfl | simp only [upd_same, upd_app, ↓reduceIte, Nat.reduceEqDiff])
            generalize H1 = H at hP hS ⊢
            refine lv_aload_n hx hb (dk_at dkX12_counts 47 rfl) rfl (lv_at hl 0 rfl) ?_
            refine lv_iload_n hx hb (dk_at dkX12_counts 48 rfl) rfl (lv_at hl 1 rfl) ?_
            refine lv_iload_n hx hb (dk_at dkX12_counts 49 rfl) rfl (lv_at hl 2 rfl) ?_
            refine lv_iload hx hb (dk_at dkX12_counts 50 rfl) (lv_at hl 4 rfl) ?_
            refine lv_iconst (v := 1) hx hb (dk_at dkX12_counts 51 rfl) (by decide) ?_
            refine va_calli (va_runV (As := [.int v1, .int v2, .int v4, .int 1]) (rest := [.int r_918]) ⟨hx, hb, hml, hown, hts⟩ (sX12_waysBy l dC dI h0 mi mr km z4 fm_trust fm_letter fm_reportPlace fm_reportKind fm_struck fm_reportMonth fm_reportDay fm_reportKnown fm_deedMonth fm_deedDay fm_deedLong fm_deedKind fm_kept fm_tape fm_must fm_least fm_pin fm_verdict fm_row fm_official fm_aside fm_worth fm_out v1 v2 v4 1 gmi_0 gmi_1 gmi_2 gmi_4 gmi_7 gmi_10 gmi_17 gmi_23 gmi_24 gmi_26 gmi_29 gmi_30 gmi_33 gmi_37 gmi_41 gmi_50 gmi_51 gmi_56 g_916 g_917 (gi_w g_912 (by decide)) (gi_w (gi_c 1 1 (by decide)) (by decide))) (cwV 4 hts (gz_gV mGB_307 mGB_308 mGB_309 mGB_1 mGB_310 goodGB) rfl rfl rfl hdV_X12_waysBy_X12_4 ⟨Nat.le_trans (Nat.le_of_ble_eq_true rfl) hRf, Nat.le_trans (Nat.le_of_ble_eq_true rfl) hRl⟩) ⟨bl_R, mw_recv hK hP, fun U hU hW => ⟨rfl, by rw [hU]; exact hP, va_K.moved hW.alike hK⟩⟩ rfl rfl hl.1 rfl (lv_room (Nat.le_of_ble_eq_true rfl)) (dk_at dkX12_counts 52 rfl) ⟨hRc, hRs⟩) hS (fun q _ h => h.elim) (fun q h => h.elim) (fun r_919 u t H1 locs ht hvm hw hB hz1 hk1 hS => ?_)
            obtain ⟨hw, hE⟩ := hw
            have hP := gz_keep hP hk1
            have hF := gf_callm (a := r_919) hE hF (by first | with_reducible rfl | simp only [upd_same, upd_app, ↓reduceIte, Nat.reduceEqDiff])
            generalize H1 = H at hP hS ⊢
            refine lv_iadd hx hb (dk_at dkX12_counts 53 rfl) ?_
            refine lv_topi (fun x_920 ex_920 => ?_)
            refine lv_istore (lv' := [(5, .int x_920), (0, .ref h0), (1, .int v1), (2, .int v2), (3, .int v3), (4, .int v4)]) hx hb (dk_at dkX12_counts 54 rfl) hl (by decide) rfl (fun ls hl => ?_)
            refine lv_aload_n hx hb (dk_at dkX12_counts 55 rfl) rfl (lv_at hl 1 rfl) ?_
            refine va_get (D := (dC, dI)) (ci := 12) (v := .ref (mr 17)) (C := RX12) (T := TX12) (N := 57) hx hb hts (fun w h => List.mem_cons_of_mem _ (jnGB_X12 w h)) hown hK hP 0 rfl rfl 38 (by decide) (hts _ (List.mem_cons_of_mem _ mGB_29)) (fun _ h9 => h9) rfl (dk_at dkX12_counts 56 rfl) ?_
            refine lv_iload_n hx hb (dk_at dkX12_counts 57 rfl) rfl (lv_at hl 2 rfl) ?_
            refine lv_iload_n hx hb (dk_at dkX12_counts 58 rfl) rfl (lv_at hl 3 rfl) ?_
            refine lv_iload hx hb (dk_at dkX12_counts 59 rfl) (lv_at hl 5 rfl) ?_
            have hPc := hP.sub (ws' := []) [] rfl
            have hKc := hK.sub (tys' := []) [] rfl
            refine va_calli (va_runS (As := [.int v1, .int v2, .int v4]) (rest := [.ref (mr 17)]) ⟨hx, hb, hml, hown, hts⟩ (sX12_placeOf l dC dI v1 v2 v4 (gi_w g_916 (by decide)) (gi_w g_917 (by decide)) g_912) (cwS 3 hts (gz_gS mGB_315 mGB_316 mGB_1 mGB_317 goodGB) rfl rfl rfl hdS_X12_placeOf_X12_3 ⟨Nat.le_trans (Nat.le_of_ble_eq_true rfl) hRf, Nat.le_trans (Nat.le_of_ble_eq_true rfl) hRl⟩) ⟨bl_R, fun U hU hW => ⟨rfl, by rw [hU]; exact hPc, va_K.moved hW.alike hKc⟩⟩ rfl rfl hl.1 rfl (lv_room (Nat.le_of_ble_eq_true rfl)) (dk_at dkX12_counts 60 rfl) ⟨hRc, hRs⟩) hS (fun q _ h => h.elim) (fun q h => h.elim) (fun r_921 u t H1 locs ht hvm hw hB hz1 hk1 hS => ?_)
            obtain ⟨hw, hE⟩ := hw
            have hP := gz_keep hP hk1
            have hF := gf_call (a := r_921) hE hF
            generalize H1 = H at hP hS ⊢
            have gr_921 : gi r_921 0 6874 := hw
            refine lv_iload hx hb (dk_at dkX12_counts 61 rfl) (lv_at hl 0 rfl) ?_
            refine va_iast hx hb hK hP hD hS 18 17 rfl rfl (gi_in gr_921 (by decide)) (dk_at dkX12_counts 62 rfl) (fun H locs hP hD hS => ?_)
            obtain ⟨hP, hD⟩ := gz_both (w := (MWn h0 mr km (mi 0) (mi 1) (mi 2) (mi 3) (mi 4) (mi 5) (mi 6) (mi 7) (mi 10) (mi 17) (mi 23) (mi 24) (mi 26) (mi 27) (mi 28) (mi 29) (mi 30) (mi 31) (mi 32) (mi 33) (mi 37) (mi 41) (mi 42) (mi 43) (mi 44) (mi 45) (mi 47) (mi 48) (mi 49) (mi 50) (mi 51) (mi 54) (mi 56) fm_trust fm_letter fm_reportPlace fm_reportKind fm_struck fm_reportMonth fm_reportDay fm_reportKnown fm_deedMonth fm_deedDay fm_deedLong fm_deedKind fm_kept fm_tape fm_must fm_least fm_pin (upd z4 (r_921 : Int32).toNatClampNeg x_920) fm_verdict fm_row fm_official fm_aside fm_worth fm_out)) hP hD
            generalize ef_922 : upd z4 (r_921 : Int32).toNatClampNeg x_920 = f_922 at hP hD
            obtain ⟨x_923, ex_923⟩ : ∃ y : Int32, y = v4 + 1 := ⟨_, rfl⟩
            have gx_923 : gi x_923 1 11 := gi_add ex_923 g_912 (gi_c 1 1 (by decide)) (by decide)
            refine lv_iinc (v := x_923) (lv' := [(4, .int x_923), (5, .int x_920), (0, .ref h0), (1, .int v1), (2, .int v2), (3, .int v3)]) hx hb (dk_at dkX12_counts 63 rfl) hl (k := 5) rfl (by rw [ex_923]; rfl) (by decide) rfl (fun ls hl => ?_)
            refine lv_goto (tgt := 46) hx hb (dk_at dkX12_counts 64 rfl) (by decide) ?_
            exact ih.2.2 v1 v2 v3 x_923 f_922 _ _ _ (gi_w g_916 (by decide)) (gi_w g_917 (by decide)) (gi_w g_914 (by decide)) (gi_w gx_923 (by decide)) (by have qgmi_0 := gmi_0.1; have rgmi_0 := gmi_0.2; have qgv1 := g_916.1; have rgv1 := g_916.2; omega) (by have qgv1 := g_916.1; have rgv1 := g_916.2; have qgv2 := g_917.1; have rgv2 := g_917.2; omega) (by first | (rw [ex_923, ← ef_922, ex_920]; exact hF) | ((try rw [ex_923]); (try rw [← ef_922]); (try rw [ex_920]); exact hF)) (by have av1 := gv1.1; have bv1 := gv1.2; have av2 := gv2.1; have bv2 := gv2.2; have av4 := gv4.1; have bv4 := gv4.2; have qgx_923 := gx_923.1; have rgx_923 := gx_923.2; have igx_923 : x_923.toInt = v4.toInt + 1 := (by have hc1 : (1 : Int32).toInt = 1 := (by decide); have h9 := gi_addE ex_923 g_912 (gi_c 1 1 (by decide)) (by decide); rw [hc1] at h9; exact h9); have qgv4 := g_912.1; have rgv4 := g_912.2; have qgv2 := g_917.1; have rgv2 := g_917.2; have qgv1 := g_916.1; have rgv1 := g_916.2; omega) hP hD hS (lv_sub hl [2, 3, 4, 5, 0] rfl)
          · have hF := gf_pos c_915 hF
            refine lv_iconst (v := 1) hx hb (dk_at dkX12_counts 39 rfl) (by decide) ?_
            refine lv_goto (tgt := 92) hx hb (dk_at dkX12_counts 40 rfl) (by decide) ?_
            refine lv_istore (lv' := [(5, .int 1), (0, .ref h0), (1, .int v1), (2, .int v2), (3, .int v3), (4, .int v4)]) hx hb (dk_at dkX12_counts 54 rfl) hl (by decide) rfl (fun ls hl => ?_)
            refine lv_aload_n hx hb (dk_at dkX12_counts 55 rfl) rfl (lv_at hl 1 rfl) ?_
            refine va_get (D := (dC, dI)) (ci := 12) (v := .ref (mr 17)) (C := RX12) (T := TX12) (N := 57) hx hb hts (fun w h => List.mem_cons_of_mem _ (jnGB_X12 w h)) hown hK hP 0 rfl rfl 38 (by decide) (hts _ (List.mem_cons_of_mem _ mGB_29)) (fun _ h9 => h9) rfl (dk_at dkX12_counts 56 rfl) ?_
            refine lv_iload_n hx hb (dk_at dkX12_counts 57 rfl) rfl (lv_at hl 2 rfl) ?_
            refine lv_iload_n hx hb (dk_at dkX12_counts 58 rfl) rfl (lv_at hl 3 rfl) ?_
            refine lv_iload hx hb (dk_at dkX12_counts 59 rfl) (lv_at hl 5 rfl) ?_
            have hPc := hP.sub (ws' := []) [] rfl
            have hKc := hK.sub (tys' := []) [] rfl
            refine va_calli (va_runS (As := [.int v1, .int v2, .int v4]) (rest := [.ref (mr 17)]) ⟨hx, hb, hml, hown, hts⟩ (sX12_placeOf l dC dI v1 v2 v4 gv1 gv2 g_912) (cwS 3 hts (gz_gS mGB_315 mGB_316 mGB_1 mGB_317 goodGB) rfl rfl rfl hdS_X12_placeOf_X12_3 ⟨Nat.le_trans (Nat.le_of_ble_eq_true rfl) hRf, Nat.le_trans (Nat.le_of_ble_eq_true rfl) hRl⟩) ⟨bl_R, fun U hU hW => ⟨rfl, by rw [hU]; exact hPc, va_K.moved hW.alike hKc⟩⟩ rfl rfl hl.1 rfl (lv_room (Nat.le_of_ble_eq_true rfl)) (dk_at dkX12_counts 60 rfl) ⟨hRc, hRs⟩) hS (fun q _ h => h.elim) (fun q h => h.elim) (fun r_924 u t H1 locs ht hvm hw hB hz1 hk1 hS => ?_)
            obtain ⟨hw, hE⟩ := hw
            have hP := gz_keep hP hk1
            have hF := gf_call (a := r_924) hE hF
            generalize H1 = H at hP hS ⊢
            have gr_924 : gi r_924 0 6874 := hw
            refine lv_iload hx hb (dk_at dkX12_counts 61 rfl) (lv_at hl 0 rfl) ?_
            refine va_iast hx hb hK hP hD hS 18 17 rfl rfl (gi_in gr_924 (by decide)) (dk_at dkX12_counts 62 rfl) (fun H locs hP hD hS => ?_)
            obtain ⟨hP, hD⟩ := gz_both (w := (MWn h0 mr km (mi 0) (mi 1) (mi 2) (mi 3) (mi 4) (mi 5) (mi 6) (mi 7) (mi 10) (mi 17) (mi 23) (mi 24) (mi 26) (mi 27) (mi 28) (mi 29) (mi 30) (mi 31) (mi 32) (mi 33) (mi 37) (mi 41) (mi 42) (mi 43) (mi 44) (mi 45) (mi 47) (mi 48) (mi 49) (mi 50) (mi 51) (mi 54) (mi 56) fm_trust fm_letter fm_reportPlace fm_reportKind fm_struck fm_reportMonth fm_reportDay fm_reportKnown fm_deedMonth fm_deedDay fm_deedLong fm_deedKind fm_kept fm_tape fm_must fm_least fm_pin (upd z4 (r_924 : Int32).toNatClampNeg 1) fm_verdict fm_row fm_official fm_aside fm_worth fm_out)) hP hD
            generalize ef_925 : upd z4 (r_924 : Int32).toNatClampNeg 1 = f_925 at hP hD
            obtain ⟨x_926, ex_926⟩ : ∃ y : Int32, y = v4 + 1 := ⟨_, rfl⟩
            have gx_926 : gi x_926 1 11 := gi_add ex_926 g_912 (gi_c 1 1 (by decide)) (by decide)
            refine lv_iinc (v := x_926) (lv' := [(4, .int x_926), (5, .int 1), (0, .ref h0), (1, .int v1), (2, .int v2), (3, .int v3)]) hx hb (dk_at dkX12_counts 63 rfl) hl (k := 5) rfl (by rw [ex_926]; rfl) (by decide) rfl (fun ls hl => ?_)
            refine lv_goto (tgt := 46) hx hb (dk_at dkX12_counts 64 rfl) (by decide) ?_
            exact ih.2.2 v1 v2 v3 x_926 f_925 _ _ _ gv1 gv2 (gi_w g_914 (by decide)) (gi_w gx_926 (by decide)) (by have qgmi_0 := gmi_0.1; have rgmi_0 := gmi_0.2; have qgv1 := gv1.1; have rgv1 := gv1.2; omega) (by have qgv1 := gv1.1; have rgv1 := gv1.2; have qgv2 := gv2.1; have rgv2 := gv2.2; omega) (by first | (rw [ex_926, ← ef_925]; exact hF) | ((try rw [ex_926]); (try rw [← ef_925]); exact hF)) (by have av1 := gv1.1; have bv1 := gv1.2; have av2 := gv2.1; have bv2 := gv2.2; have av4 := gv4.1; have bv4 := gv4.2; have qgx_926 := gx_926.1; have rgx_926 := gx_926.2; have igx_926 : x_926.toInt = v4.toInt + 1 := (by have hc1 : (1 : Int32).toInt = 1 := (by decide); have h9 := gi_addE ex_926 g_912 (gi_c 1 1 (by decide)) (by decide); rw [hc1] at h9; exact h9); have qgv4 := g_912.1; have rgv4 := g_912.2; have qgv2 := gv2.1; have rgv2 := gv2.2; have qgv1 := gv1.1; have rgv1 := gv1.2; omega) hP hD hS (lv_sub hl [2, 3, 4, 5, 0] rfl)
        · have hF := gf_pos c_913 hF
          have g_927 : gi v3 0 0 := gi_eq c_913 (gi_c 0 0 (by decide))
          refine lv_iconst (v := 0) hx hb (dk_at dkX12_counts 33 rfl) (by decide) ?_
          refine lv_goto (tgt := 92) hx hb (dk_at dkX12_counts 34 rfl) (by decide) ?_
          refine lv_istore (lv' := [(5, .int 0), (0, .ref h0), (1, .int v1), (2, .int v2), (3, .int v3), (4, .int v4)]) hx hb (dk_at dkX12_counts 54 rfl) hl (by decide) rfl (fun ls hl => ?_)
          refine lv_aload_n hx hb (dk_at dkX12_counts 55 rfl) rfl (lv_at hl 1 rfl) ?_
          refine va_get (D := (dC, dI)) (ci := 12) (v := .ref (mr 17)) (C := RX12) (T := TX12) (N := 57) hx hb hts (fun w h => List.mem_cons_of_mem _ (jnGB_X12 w h)) hown hK hP 0 rfl rfl 38 (by decide) (hts _ (List.mem_cons_of_mem _ mGB_29)) (fun _ h9 => h9) rfl (dk_at dkX12_counts 56 rfl) ?_
          refine lv_iload_n hx hb (dk_at dkX12_counts 57 rfl) rfl (lv_at hl 2 rfl) ?_
          refine lv_iload_n hx hb (dk_at dkX12_counts 58 rfl) rfl (lv_at hl 3 rfl) ?_
          refine lv_iload hx hb (dk_at dkX12_counts 59 rfl) (lv_at hl 5 rfl) ?_
          have hPc := hP.sub (ws' := []) [] rfl
          have hKc := hK.sub (tys' := []) [] rfl
          refine va_calli (va_runS (As := [.int v1, .int v2, .int v4]) (rest := [.ref (mr 17)]) ⟨hx, hb, hml, hown, hts⟩ (sX12_placeOf l dC dI v1 v2 v4 gv1 gv2 g_912) (cwS 3 hts (gz_gS mGB_315 mGB_316 mGB_1 mGB_317 goodGB) rfl rfl rfl hdS_X12_placeOf_X12_3 ⟨Nat.le_trans (Nat.le_of_ble_eq_true rfl) hRf, Nat.le_trans (Nat.le_of_ble_eq_true rfl) hRl⟩) ⟨bl_R, fun U hU hW => ⟨rfl, by rw [hU]; exact hPc, va_K.moved hW.alike hKc⟩⟩ rfl rfl hl.1 rfl (lv_room (Nat.le_of_ble_eq_true rfl)) (dk_at dkX12_counts 60 rfl) ⟨hRc, hRs⟩) hS (fun q _ h => h.elim) (fun q h => h.elim) (fun r_928 u t H1 locs ht hvm hw hB hz1 hk1 hS => ?_)
          obtain ⟨hw, hE⟩ := hw
          have hP := gz_keep hP hk1
          have hF := gf_call (a := r_928) hE hF
          generalize H1 = H at hP hS ⊢
          have gr_928 : gi r_928 0 6874 := hw
          refine lv_iload hx hb (dk_at dkX12_counts 61 rfl) (lv_at hl 0 rfl) ?_
          refine va_iast hx hb hK hP hD hS 18 17 rfl rfl (gi_in gr_928 (by decide)) (dk_at dkX12_counts 62 rfl) (fun H locs hP hD hS => ?_)
          obtain ⟨hP, hD⟩ := gz_both (w := (MWn h0 mr km (mi 0) (mi 1) (mi 2) (mi 3) (mi 4) (mi 5) (mi 6) (mi 7) (mi 10) (mi 17) (mi 23) (mi 24) (mi 26) (mi 27) (mi 28) (mi 29) (mi 30) (mi 31) (mi 32) (mi 33) (mi 37) (mi 41) (mi 42) (mi 43) (mi 44) (mi 45) (mi 47) (mi 48) (mi 49) (mi 50) (mi 51) (mi 54) (mi 56) fm_trust fm_letter fm_reportPlace fm_reportKind fm_struck fm_reportMonth fm_reportDay fm_reportKnown fm_deedMonth fm_deedDay fm_deedLong fm_deedKind fm_kept fm_tape fm_must fm_least fm_pin (upd z4 (r_928 : Int32).toNatClampNeg 0) fm_verdict fm_row fm_official fm_aside fm_worth fm_out)) hP hD
          generalize ef_929 : upd z4 (r_928 : Int32).toNatClampNeg 0 = f_929 at hP hD
          obtain ⟨x_930, ex_930⟩ : ∃ y : Int32, y = v4 + 1 := ⟨_, rfl⟩
          have gx_930 : gi x_930 1 11 := gi_add ex_930 g_912 (gi_c 1 1 (by decide)) (by decide)
          refine lv_iinc (v := x_930) (lv' := [(4, .int x_930), (5, .int 0), (0, .ref h0), (1, .int v1), (2, .int v2), (3, .int v3)]) hx hb (dk_at dkX12_counts 63 rfl) hl (k := 5) rfl (by rw [ex_930]; rfl) (by decide) rfl (fun ls hl => ?_)
          refine lv_goto (tgt := 46) hx hb (dk_at dkX12_counts 64 rfl) (by decide) ?_
          exact ih.2.2 v1 v2 v3 x_930 f_929 _ _ _ gv1 gv2 (gi_w g_927 (by decide)) (gi_w gx_930 (by decide)) (by have qgmi_0 := gmi_0.1; have rgmi_0 := gmi_0.2; have qgv1 := gv1.1; have rgv1 := gv1.2; omega) (by have qgv1 := gv1.1; have rgv1 := gv1.2; have qgv2 := gv2.1; have rgv2 := gv2.2; omega) (by first | (rw [ex_930, ← ef_929]; exact hF) | ((try rw [ex_930]); (try rw [← ef_929]); exact hF)) (by have av1 := gv1.1; have bv1 := gv1.2; have av2 := gv2.1; have bv2 := gv2.2; have av4 := gv4.1; have bv4 := gv4.2; have qgx_930 := gx_930.1; have rgx_930 := gx_930.2; have igx_930 : x_930.toInt = v4.toInt + 1 := (by have hc1 : (1 : Int32).toInt = 1 := (by decide); have h9 := gi_addE ex_930 g_912 (gi_c 1 1 (by decide)) (by decide); rw [hc1] at h9; exact h9); have qgv4 := g_912.1; have rgv4 := g_912.2; have qgv2 := gv2.1; have rgv2 := gv2.2; have qgv1 := gv1.1; have rgv1 := gv1.2; omega) hP hD hS (lv_sub hl [2, 3, 4, 5, 0] rfl)
abbrev pb_sX12_counts (dC : Nat → ClassId) (dI : Nat → Nat → Nat) (A9 : Nat → Prop) (h0 : Nat) (mi : Nat → Int32) (mr : Nat → Nat) (km : Nat → ClassId) (fm_must : Nat → Int32) (fm_least : Nat → Int32) (fm_pin : Nat → Int32) (fm_ways : Nat → Int32) (fm_trust : Nat → Int32) (fm_letter : Nat → Int32) (fm_reportPlace : Nat → Int32) (fm_reportKind : Nat → Int32) (fm_struck : Nat → Int32) (fm_reportMonth : Nat → Int32) (fm_reportDay : Nat → Int32) (fm_reportKnown : Nat → Int32) (fm_deedMonth : Nat → Int32) (fm_deedDay : Nat → Int32) (fm_deedLong : Nat → Int32) (fm_deedKind : Nat → Int32) (fm_kept : Nat → Int32) (fm_tape : Nat → Int32) (fm_verdict : Nat → Int32) (fm_row : Nat → Int32) (fm_official : Nat → Int32) (fm_aside : Nat → Int32) (fm_worth : Nat → Int32) (fm_out : Nat → Int32) (r : Int32) (z4 : Nat → Int32) (t : State) : Prop := (r, z4) = fX12_counts mi fm_must fm_least fm_pin fm_ways ∧ va_P (dC, dI) vwCl (MWn h0 mr km (mi 0) (mi 1) (mi 2) (mi 3) (mi 4) (mi 5) (mi 6) (mi 7) (mi 10) (mi 17) (mi 23) (mi 24) (mi 26) (mi 27) (mi 28) (mi 29) (mi 30) (mi 31) (mi 32) (mi 33) (mi 37) (mi 41) (mi 42) (mi 43) (mi 44) (mi 45) (mi 47) (mi 48) (mi 49) (mi 50) (mi 51) (mi 54) (mi 56) fm_trust fm_letter fm_reportPlace fm_reportKind fm_struck fm_reportMonth fm_reportDay fm_reportKnown fm_deedMonth fm_deedDay fm_deedLong fm_deedKind fm_kept fm_tape fm_must fm_least fm_pin z4 fm_verdict fm_row fm_official fm_aside fm_worth fm_out) t.heap ∧ va_D A9 (MWn h0 mr km (mi 0) (mi 1) (mi 2) (mi 3) (mi 4) (mi 5) (mi 6) (mi 7) (mi 10) (mi 17) (mi 23) (mi 24) (mi 26) (mi 27) (mi 28) (mi 29) (mi 30) (mi 31) (mi 32) (mi 33) (mi 37) (mi 41) (mi 42) (mi 43) (mi 44) (mi 45) (mi 47) (mi 48) (mi 49) (mi 50) (mi 51) (mi 54) (mi 56) fm_trust fm_letter fm_reportPlace fm_reportKind fm_struck fm_reportMonth fm_reportDay fm_reportKnown fm_deedMonth fm_deedDay fm_deedLong fm_deedKind fm_kept fm_tape fm_must fm_least fm_pin z4 fm_verdict fm_row fm_official fm_aside fm_worth fm_out)
set_option maxHeartbeats 4000000 in
set_option maxRecDepth 100000 in
theorem sX12_counts (l : Launch) (dC : Nat → ClassId) (dI : Nat → Nat → Nat) (sz : Nat) (h0 : Nat) (mi : Nat → Int32) (mr : Nat → Nat) (km : Nat → ClassId) (fm_must : Nat → Int32) (fm_least : Nat → Int32) (fm_pin : Nat → Int32) (fm_ways : Nat → Int32) (fm_trust : Nat → Int32) (fm_letter : Nat → Int32) (fm_reportPlace : Nat → Int32) (fm_reportKind : Nat → Int32) (fm_struck : Nat → Int32) (fm_reportMonth : Nat → Int32) (fm_reportDay : Nat → Int32) (fm_reportKnown : Nat → Int32) (fm_deedMonth : Nat → Int32) (fm_deedDay : Nat → Int32) (fm_deedLong : Nat → Int32) (fm_deedKind : Nat → Int32) (fm_kept : Nat → Int32) (fm_tape : Nat → Int32) (fm_verdict : Nat → Int32) (fm_row : Nat → Int32) (fm_official : Nat → Int32) (fm_aside : Nat → Int32) (fm_worth : Nat → Int32) (fm_out : Nat → Int32) (gmi_0 : gi (mi 0) 0 24) (gmi_1 : gi (mi 1) 0 5) (gmi_2 : gi (mi 2) 0 5) (gmi_4 : gi (mi 4) 0 1) (gmi_7 : gi (mi 7) 0 6) (gmi_10 : gi (mi 10) 0 24) (gmi_17 : gi (mi 17) 0 8) (gmi_23 : gi (mi 23) 0 300) (gmi_24 : gi (mi 24) 0 1) (gmi_26 : gi (mi 26) 0 1600) (gmi_29 : gi (mi 29) 0 1600) (gmi_30 : gi (mi 30) 0 1600) (gmi_33 : gi (mi 33) 0 1) (gmi_37 : gi (mi 37) 0 1) (gmi_41 : gi (mi 41) 0 24) (gmi_50 : gi (mi 50) 0 1) (gmi_51 : gi (mi 51) 0 1) (gmi_56 : gi (mi 56) 0 80) : Met l yX12_counts (.code yX12_counts cX12_counts 6 (some .int) :: wsGB) ({ frames := 2, cells := 0, slots := 0, locals := 48 }) (va_Pc [.ref h0] (fun U => U.heap.size = sz ∧ va_P (dC, dI) vwCl (MWn h0 mr km (mi 0) (mi 1) (mi 2) (mi 3) (mi 4) (mi 5) (mi 6) (mi 7) (mi 10) (mi 17) (mi 23) (mi 24) (mi 26) (mi 27) (mi 28) (mi 29) (mi 30) (mi 31) (mi 32) (mi 33) (mi 37) (mi 41) (mi 42) (mi 43) (mi 44) (mi 45) (mi 47) (mi 48) (mi 49) (mi 50) (mi 51) (mi 54) (mi 56) fm_trust fm_letter fm_reportPlace fm_reportKind fm_struck fm_reportMonth fm_reportDay fm_reportKnown fm_deedMonth fm_deedDay fm_deedLong fm_deedKind fm_kept fm_tape fm_must fm_least fm_pin fm_ways fm_verdict fm_row fm_official fm_aside fm_worth fm_out) U.heap ∧ va_K (dC, dI) vwCl (MT km) U ∧ va_D (fun _ => True) (MWn h0 mr km (mi 0) (mi 1) (mi 2) (mi 3) (mi 4) (mi 5) (mi 6) (mi 7) (mi 10) (mi 17) (mi 23) (mi 24) (mi 26) (mi 27) (mi 28) (mi 29) (mi 30) (mi 31) (mi 32) (mi 33) (mi 37) (mi 41) (mi 42) (mi 43) (mi 44) (mi 45) (mi 47) (mi 48) (mi 49) (mi 50) (mi 51) (mi 54) (mi 56) fm_trust fm_letter fm_reportPlace fm_reportKind fm_struck fm_reportMonth fm_reportDay fm_reportKnown fm_deedMonth fm_deedDay fm_deedLong fm_deedKind fm_kept fm_tape fm_must fm_least fm_pin fm_ways fm_verdict fm_row fm_official fm_aside fm_worth fm_out))) (va_Qi (fun (r : Int32) (u : Int32) => r = u ∧ gi r (-2147483648) 2147483647) (fun r t => ∃ (z4 : Nat → Int32), pb_sX12_counts dC dI (va_A (MWn h0 mr km (mi 0) (mi 1) (mi 2) (mi 3) (mi 4) (mi 5) (mi 6) (mi 7) (mi 10) (mi 17) (mi 23) (mi 24) (mi 26) (mi 27) (mi 28) (mi 29) (mi 30) (mi 31) (mi 32) (mi 33) (mi 37) (mi 41) (mi 42) (mi 43) (mi 44) (mi 45) (mi 47) (mi 48) (mi 49) (mi 50) (mi 51) (mi 54) (mi 56) fm_trust fm_letter fm_reportPlace fm_reportKind fm_struck fm_reportMonth fm_reportDay fm_reportKnown fm_deedMonth fm_deedDay fm_deedLong fm_deedKind fm_kept fm_tape fm_must fm_least fm_pin fm_ways fm_verdict fm_row fm_official fm_aside fm_worth fm_out) sz) h0 mi mr km fm_must fm_least fm_pin fm_ways fm_trust fm_letter fm_reportPlace fm_reportKind fm_struck fm_reportMonth fm_reportDay fm_reportKnown fm_deedMonth fm_deedDay fm_deedLong fm_deedKind fm_kept fm_tape fm_verdict fm_row fm_official fm_aside fm_worth fm_out r z4 t) (va_A (MWn h0 mr km (mi 0) (mi 1) (mi 2) (mi 3) (mi 4) (mi 5) (mi 6) (mi 7) (mi 10) (mi 17) (mi 23) (mi 24) (mi 26) (mi 27) (mi 28) (mi 29) (mi 30) (mi 31) (mi 32) (mi 33) (mi 37) (mi 41) (mi 42) (mi 43) (mi 44) (mi 45) (mi 47) (mi 48) (mi 49) (mi 50) (mi 51) (mi 54) (mi 56) fm_trust fm_letter fm_reportPlace fm_reportKind fm_struck fm_reportMonth fm_reportDay fm_reportKnown fm_deedMonth fm_deedDay fm_deedLong fm_deedKind fm_kept fm_tape fm_must fm_least fm_pin fm_ways fm_verdict fm_row fm_official fm_aside fm_worth fm_out) sz)) 0 0 (va_A (MWn h0 mr km (mi 0) (mi 1) (mi 2) (mi 3) (mi 4) (mi 5) (mi 6) (mi 7) (mi 10) (mi 17) (mi 23) (mi 24) (mi 26) (mi 27) (mi 28) (mi 29) (mi 30) (mi 31) (mi 32) (mi 33) (mi 37) (mi 41) (mi 42) (mi 43) (mi 44) (mi 45) (mi 47) (mi 48) (mi 49) (mi 50) (mi 51) (mi 54) (mi 56) fm_trust fm_letter fm_reportPlace fm_reportKind fm_struck fm_reportMonth fm_reportDay fm_reportKnown fm_deedMonth fm_deedDay fm_deedLong fm_deedKind fm_kept fm_tape fm_must fm_least fm_pin fm_ways fm_verdict fm_row fm_official fm_aside fm_worth fm_out) sz) := by
  refine Met.ofW (cc := cX12_counts) (maxL := 6) (ret := (some .int)) (by decide) rfl ?_
  intro p e s m args below meth c s₁ B hml hv
  obtain ⟨rfl, hsz, hP, hK, hD0⟩ := hv
  have hx := B.exec
  have hb := B.bytes
  have hr := B.returns
  have hts := atoms_spec (ws := (.code yX12_counts cX12_counts 6 (some .int) :: wsGB)) B.pre
  have hown : s.vm.findClass RX12 = some m.cls := findClass_of_methodNamed B.named
  have hlocks := B.notSynchronized
  subst hsz
  have hD := hD0.self (sz := s.heap.size)
  generalize hAe : va_A (MWn h0 mr km (mi 0) (mi 1) (mi 2) (mi 3) (mi 4) (mi 5) (mi 6) (mi 7) (mi 10) (mi 17) (mi 23) (mi 24) (mi 26) (mi 27) (mi 28) (mi 29) (mi 30) (mi 31) (mi 32) (mi 33) (mi 37) (mi 41) (mi 42) (mi 43) (mi 44) (mi 45) (mi 47) (mi 48) (mi 49) (mi 50) (mi 51) (mi 54) (mi 56) fm_trust fm_letter fm_reportPlace fm_reportKind fm_struck fm_reportMonth fm_reportDay fm_reportKnown fm_deedMonth fm_deedDay fm_deedLong fm_deedKind fm_kept fm_tape fm_must fm_least fm_pin fm_ways fm_verdict fm_row fm_official fm_aside fm_worth fm_out) s.heap.size = A at hD ⊢
  have hA : ∀ q : Nat, s.heap.size ≤ q → A q := fun q h => by rw [← hAe]; exact Or.inr h
  have hS : va_S A s.heap s.heap [] := va_S.rf
  have hl := lv_entry ([.ref h0]) (n := 6) (Nat.le_of_ble_eq_true rfl)
  rw [lg_entry_eq]
  generalize (lg_sl ([.ref h0]) ++ List.replicate (6 - (lg_sl ([.ref h0])).length) Slot.unset).toArray = ls at hl ⊢
  have hl : lv_has ls 6 [(0, .ref h0)] := hl
  obtain ⟨RES, hF⟩ : ∃ R9, fX12_counts mi fm_must fm_least fm_pin fm_ways = R9 := ⟨_, rfl⟩
  have hR9 := hF
  refine lv_aload_n hx hb (dk_at dkX12_counts 0 rfl) rfl (lv_at hl 0 rfl) ?_
  refine va_get (D := (dC, dI)) (ci := 12) (v := .int (mi 0)) (C := RX12) (T := TX12) (N := 57) hx hb hts (fun w h => List.mem_cons_of_mem _ (jnGB_X12 w h)) hown hK hP 0 rfl rfl 0 (by decide) (hts _ (List.mem_cons_of_mem _ mGB_103)) (fun _ h9 => h9) rfl (dk_at dkX12_counts 1 rfl) ?_
  refine lv_istore_n (lv' := [(1, .int (mi 0)), (0, .ref h0)]) hx hb (dk_at dkX12_counts 2 rfl) rfl hl (by decide) rfl (fun ls hl => ?_)
  refine (lp_sX12_counts h0 mi mr km fm_must fm_least fm_pin fm_ways fm_trust fm_letter fm_reportPlace fm_reportKind fm_struck fm_reportMonth fm_reportDay fm_reportKnown fm_deedMonth fm_deedDay fm_deedLong fm_deedKind fm_kept fm_tape fm_verdict fm_row fm_official fm_aside fm_worth fm_out gmi_0 gmi_1 gmi_2 gmi_4 gmi_7 gmi_10 gmi_17 gmi_23 gmi_24 gmi_26 gmi_29 gmi_30 gmi_33 gmi_37 gmi_41 gmi_50 gmi_51 gmi_56 hx hb hml hown hts hK hA (Nat.le_of_ble_eq_true rfl) (Nat.le_of_ble_eq_true rfl) (Nat.zero_le _) (Nat.zero_le _) (fun v z4 H locs ls hF hP hD hS hl => ?_) 1000000000).1 (mi 0) fm_ways _ _ _ (gi_w gmi_0 (by decide)) (by have qgmi_0 := gmi_0.1; have rgmi_0 := gmi_0.2; omega) hF (by have qgmi_0 := gmi_0.1; have rgmi_0 := gmi_0.2; omega) hP hD hS (lv_sub hl [1, 0] rfl)
  · skip
    exact W.iret (v := v) hx hb hr (fun t ht hW => ⟨⟨v, v, rfl, ⟨rfl, (gi_any v)⟩, z4, hF.trans hR9.symm, by rw [ht]; exact hP, hD⟩, hS.F ht⟩) hS.2.2 (dk_at dkX12_counts 73 rfl)
noncomputable def lsX12_countsWith : List (Nat × Instr × Nat) := [(0, .iload_n 2, 1), (1, .i2l, 1), (2, .bipush 29, 2), (4, .iload_n 1, 1), (5, .imul, 1), (6, .i2l, 1), (7, .bipush 30, 2), (9, .iload_n 1, 1), (10, .imul, 1), (11, .i2l, 1), (12, .invokestatic 102, 3), (15, .ifCond .eq 23, 3), (18, .aload_n 0, 1), (19, .getfield 63, 3), (22, .iload_n 1, 1), (23, .iaload, 1), (24, .iconst (-1), 1), (25, .if_icmp .eq 15, 3), (28, .aload_n 0, 1), (29, .getfield 63, 3), (32, .iload_n 1, 1), (33, .iaload, 1), (34, .iload_n 2, 1), (35, .if_icmp .eq 5, 3), (38, .iconst 0, 1), (39, .ireturn, 1), (40, .aload_n 0, 1), (41, .getfield 63, 3), (44, .iload_n 1, 1), (45, .iaload, 1), (46, .istore 5, 2), (48, .aload_n 0, 1), (49, .getfield 63, 3), (52, .iload_n 1, 1), (53, .iload_n 2, 1), (54, .iastore, 1), (55, .iload_n 3, 1), (56, .iconst (-1), 1), (57, .if_icmp .ne 7, 3), (60, .iconst (-1), 1), (61, .goto 9, 3), (64, .aload_n 0, 1), (65, .getfield 63, 3), (68, .iload_n 3, 1), (69, .iaload, 1), (70, .istore 6, 2), (72, .iload_n 3, 1), (73, .iconst (-1), 1), (74, .if_icmp .eq 16, 3), (77, .iload 6, 2), (79, .iconst (-1), 1), (80, .if_icmp .eq 10, 3), (83, .iload 6, 2), (85, .iload 4, 2), (87, .if_icmp .ne 7, 3), (90, .iconst 1, 1), (91, .goto 4, 3), (94, .iconst 0, 1), (95, .istore 7, 2), (97, .iload_n 3, 1), (98, .iconst (-1), 1), (99, .if_icmp .eq 11, 3), (102, .aload_n 0, 1), (103, .getfield 63, 3), (106, .iload_n 3, 1), (107, .iload 4, 2), (109, .iastore, 1), (110, .iload 7, 2), (112, .ifCond .eq 31, 3), (115, .iload_n 3, 1), (116, .iload_n 1, 1), (117, .if_icmp .ne 9, 3), (120, .iload 4, 2), (122, .iload_n 2, 1), (123, .if_icmp .ne 20, 3), (126, .iload_n 2, 1), (127, .ifCond .lt 16, 3), (130, .iload 4, 2), (132, .iconst (-1), 1), (133, .if_icmp .lt 10, 3), (136, .aload_n 0, 1), (137, .invokevirtual 332, 3), (140, .goto 4, 3), (143, .iconst 0, 1), (144, .istore 8, 2), (146, .iload_n 3, 1), (147, .iconst (-1), 1), (148, .if_icmp .eq 11, 3), (151, .aload_n 0, 1), (152, .getfield 63, 3), (155, .iload_n 3, 1), (156, .iload 6, 2), (158, .iastore, 1), (159, .aload_n 0, 1), (160, .getfield 63, 3), (163, .iload_n 1, 1), (164, .iload 5, 2), (166, .iastore, 1), (167, .iload 8, 2), (169, .ireturn, 1)]
theorem dkX12_countsWith : dkAll cX12_countsWith lsX12_countsWith = true := dk_fast (by decide +kernel)
noncomputable def bfX12_countsWith_38 (mi : Nat → Int32) (fm_must : Nat → Int32) (fm_least : Nat → Int32) (fm_pin : Nat → Int32) (fm_ways : Nat → Int32) (p1 : Int32) (p2 : Int32) (p3 : Int32) (p4 : Int32) (K : (Int32 → Int32 → (Nat → Int32) → (Int32 × (Nat → Int32) × (Nat → Int32))) × (Int32 → Int32 → Int32 → (Nat → Int32) → (Int32 × (Nat → Int32) × (Nat → Int32))) × (Int32 → Int32 → Int32 → (Nat → Int32) → (Nat → Int32) → (Int32 × (Nat → Int32) × (Nat → Int32)))) (z3 : Nat → Int32) (z4 : Nat → Int32) : Int32 × (Nat → Int32) × (Nat → Int32) := ((0 : Int32), z3, z4)
noncomputable def bfX12_countsWith_70 (mi : Nat → Int32) (fm_must : Nat → Int32) (fm_least : Nat → Int32) (fm_pin : Nat → Int32) (fm_ways : Nat → Int32) (p1 : Int32) (p2 : Int32) (p3 : Int32) (p4 : Int32) (K : (Int32 → Int32 → (Nat → Int32) → (Int32 × (Nat → Int32) × (Nat → Int32))) × (Int32 → Int32 → Int32 → (Nat → Int32) → (Int32 × (Nat → Int32) × (Nat → Int32))) × (Int32 → Int32 → Int32 → (Nat → Int32) → (Nat → Int32) → (Int32 × (Nat → Int32) × (Nat → Int32)))) (v5 : Int32) (s0 : Int32) (z3 : Nat → Int32) (z4 : Nat → Int32) : Int32 × (Nat → Int32) × (Nat → Int32) := K.1 v5 s0 z3
noncomputable def bfX12_countsWith_40 (mi : Nat → Int32) (fm_must : Nat → Int32) (fm_least : Nat → Int32) (fm_pin : Nat → Int32) (fm_ways : Nat → Int32) (p1 : Int32) (p2 : Int32) (p3 : Int32) (p4 : Int32) (K : (Int32 → Int32 → (Nat → Int32) → (Int32 × (Nat → Int32) × (Nat → Int32))) × (Int32 → Int32 → Int32 → (Nat → Int32) → (Int32 × (Nat → Int32) × (Nat → Int32))) × (Int32 → Int32 → Int32 → (Nat → Int32) → (Nat → Int32) → (Int32 × (Nat → Int32) × (Nat → Int32)))) (z3 : Nat → Int32) (z4 : Nat → Int32) : Int32 × (Nat → Int32) × (Nat → Int32) := if p3 = (-1 : Int32) then (bfX12_countsWith_70 mi fm_must fm_least fm_pin fm_ways p1 p2 p3 p4 K (z3 p1.toNatClampNeg) (-1 : Int32) (upd z3 p1.toNatClampNeg p2) z4) else (bfX12_countsWith_70 mi fm_must fm_least fm_pin fm_ways p1 p2 p3 p4 K (z3 p1.toNatClampNeg) ((upd z3 p1.toNatClampNeg p2) p3.toNatClampNeg) (upd z3 p1.toNatClampNeg p2) z4)
noncomputable def bfX12_countsWith_95 (mi : Nat → Int32) (fm_must : Nat → Int32) (fm_least : Nat → Int32) (fm_pin : Nat → Int32) (fm_ways : Nat → Int32) (p1 : Int32) (p2 : Int32) (p3 : Int32) (p4 : Int32) (K : (Int32 → Int32 → (Nat → Int32) → (Int32 × (Nat → Int32) × (Nat → Int32))) × (Int32 → Int32 → Int32 → (Nat → Int32) → (Int32 × (Nat → Int32) × (Nat → Int32))) × (Int32 → Int32 → Int32 → (Nat → Int32) → (Nat → Int32) → (Int32 × (Nat → Int32) × (Nat → Int32)))) (v5 : Int32) (v6 : Int32) (s0 : Int32) (z3 : Nat → Int32) (z4 : Nat → Int32) : Int32 × (Nat → Int32) × (Nat → Int32) := K.2.1 v5 v6 s0 z3
noncomputable def bfX12_countsWith_90 (mi : Nat → Int32) (fm_must : Nat → Int32) (fm_least : Nat → Int32) (fm_pin : Nat → Int32) (fm_ways : Nat → Int32) (p1 : Int32) (p2 : Int32) (p3 : Int32) (p4 : Int32) (K : (Int32 → Int32 → (Nat → Int32) → (Int32 × (Nat → Int32) × (Nat → Int32))) × (Int32 → Int32 → Int32 → (Nat → Int32) → (Int32 × (Nat → Int32) × (Nat → Int32))) × (Int32 → Int32 → Int32 → (Nat → Int32) → (Nat → Int32) → (Int32 × (Nat → Int32) × (Nat → Int32)))) (v5 : Int32) (v6 : Int32) (z3 : Nat → Int32) (z4 : Nat → Int32) : Int32 × (Nat → Int32) × (Nat → Int32) := bfX12_countsWith_95 mi fm_must fm_least fm_pin fm_ways p1 p2 p3 p4 K v5 v6 (1 : Int32) z3 z4
noncomputable def bfX12_countsWith_144 (mi : Nat → Int32) (fm_must : Nat → Int32) (fm_least : Nat → Int32) (fm_pin : Nat → Int32) (fm_ways : Nat → Int32) (p1 : Int32) (p2 : Int32) (p3 : Int32) (p4 : Int32) (K : (Int32 → Int32 → (Nat → Int32) → (Int32 × (Nat → Int32) × (Nat → Int32))) × (Int32 → Int32 → Int32 → (Nat → Int32) → (Int32 × (Nat → Int32) × (Nat → Int32))) × (Int32 → Int32 → Int32 → (Nat → Int32) → (Nat → Int32) → (Int32 × (Nat → Int32) × (Nat → Int32)))) (v5 : Int32) (v6 : Int32) (s0 : Int32) (z3 : Nat → Int32) (z4 : Nat → Int32) : Int32 × (Nat → Int32) × (Nat → Int32) := K.2.2 v5 v6 s0 z3 z4
noncomputable def bfX12_countsWith_143 (mi : Nat → Int32) (fm_must : Nat → Int32) (fm_least : Nat → Int32) (fm_pin : Nat → Int32) (fm_ways : Nat → Int32) (p1 : Int32) (p2 : Int32) (p3 : Int32) (p4 : Int32) (K : (Int32 → Int32 → (Nat → Int32) → (Int32 × (Nat → Int32) × (Nat → Int32))) × (Int32 → Int32 → Int32 → (Nat → Int32) → (Int32 × (Nat → Int32) × (Nat → Int32))) × (Int32 → Int32 → Int32 → (Nat → Int32) → (Nat → Int32) → (Int32 × (Nat → Int32) × (Nat → Int32)))) (v5 : Int32) (v6 : Int32) (z3 : Nat → Int32) (z4 : Nat → Int32) : Int32 × (Nat → Int32) × (Nat → Int32) := bfX12_countsWith_144 mi fm_must fm_least fm_pin fm_ways p1 p2 p3 p4 K v5 v6 (0 : Int32) z3 z4
noncomputable def bfX12_countsWith_126 (mi : Nat → Int32) (fm_must : Nat → Int32) (fm_least : Nat → Int32) (fm_pin : Nat → Int32) (fm_ways : Nat → Int32) (p1 : Int32) (p2 : Int32) (p3 : Int32) (p4 : Int32) (K : (Int32 → Int32 → (Nat → Int32) → (Int32 × (Nat → Int32) × (Nat → Int32))) × (Int32 → Int32 → Int32 → (Nat → Int32) → (Int32 × (Nat → Int32) × (Nat → Int32))) × (Int32 → Int32 → Int32 → (Nat → Int32) → (Nat → Int32) → (Int32 × (Nat → Int32) × (Nat → Int32)))) (v5 : Int32) (v6 : Int32) (z3 : Nat → Int32) (z4 : Nat → Int32) : Int32 × (Nat → Int32) × (Nat → Int32) := if p2 < (0 : Int32) then (bfX12_countsWith_143 mi fm_must fm_least fm_pin fm_ways p1 p2 p3 p4 K v5 v6 z3 z4) else (if p4 < (-1 : Int32) then (bfX12_countsWith_143 mi fm_must fm_least fm_pin fm_ways p1 p2 p3 p4 K v5 v6 z3 z4) else (cal (fun o2 => bfX12_countsWith_144 mi fm_must fm_least fm_pin fm_ways p1 p2 p3 p4 K v5 v6 o2.1 z3 o2.2) (fX12_counts mi fm_must fm_least z3 z4)))
noncomputable def bfX12_countsWith_110 (mi : Nat → Int32) (fm_must : Nat → Int32) (fm_least : Nat → Int32) (fm_pin : Nat → Int32) (fm_ways : Nat → Int32) (p1 : Int32) (p2 : Int32) (p3 : Int32) (p4 : Int32) (K : (Int32 → Int32 → (Nat → Int32) → (Int32 × (Nat → Int32) × (Nat → Int32))) × (Int32 → Int32 → Int32 → (Nat → Int32) → (Int32 × (Nat → Int32) × (Nat → Int32))) × (Int32 → Int32 → Int32 → (Nat → Int32) → (Nat → Int32) → (Int32 × (Nat → Int32) × (Nat → Int32)))) (v5 : Int32) (v6 : Int32) (v7 : Int32) (z3 : Nat → Int32) (z4 : Nat → Int32) : Int32 × (Nat → Int32) × (Nat → Int32) := if v7 = (0 : Int32) then (bfX12_countsWith_143 mi fm_must fm_least fm_pin fm_ways p1 p2 p3 p4 K v5 v6 z3 z4) else (if p3 = p1 then (if p4 = p2 then (bfX12_countsWith_126 mi fm_must fm_least fm_pin fm_ways p1 p2 p3 p4 K v5 v6 z3 z4) else (bfX12_countsWith_143 mi fm_must fm_least fm_pin fm_ways p1 p2 p3 p4 K v5 v6 z3 z4)) else (bfX12_countsWith_126 mi fm_must fm_least fm_pin fm_ways p1 p2 p3 p4 K v5 v6 z3 z4))
noncomputable def bfX12_countsWith_159 (mi : Nat → Int32) (fm_must : Nat → Int32) (fm_least : Nat → Int32) (fm_pin : Nat → Int32) (fm_ways : Nat → Int32) (p1 : Int32) (p2 : Int32) (p3 : Int32) (p4 : Int32) (K : (Int32 → Int32 → (Nat → Int32) → (Int32 × (Nat → Int32) × (Nat → Int32))) × (Int32 → Int32 → Int32 → (Nat → Int32) → (Int32 × (Nat → Int32) × (Nat → Int32))) × (Int32 → Int32 → Int32 → (Nat → Int32) → (Nat → Int32) → (Int32 × (Nat → Int32) × (Nat → Int32)))) (v5 : Int32) (v8 : Int32) (z3 : Nat → Int32) (z4 : Nat → Int32) : Int32 × (Nat → Int32) × (Nat → Int32) := (v8, (upd z3 p1.toNatClampNeg v5), z4)
noncomputable def dfX12_countsWith_72 (mi : Nat → Int32) (fm_must : Nat → Int32) (fm_least : Nat → Int32) (fm_pin : Nat → Int32) (fm_ways : Nat → Int32) (p1 : Int32) (p2 : Int32) (p3 : Int32) (p4 : Int32) (K : (Int32 → Int32 → (Nat → Int32) → (Int32 × (Nat → Int32) × (Nat → Int32))) × (Int32 → Int32 → Int32 → (Nat → Int32) → (Int32 × (Nat → Int32) × (Nat → Int32))) × (Int32 → Int32 → Int32 → (Nat → Int32) → (Nat → Int32) → (Int32 × (Nat → Int32) × (Nat → Int32)))) (v5 : Int32) (v6 : Int32) (z3 : Nat → Int32) : Int32 × (Nat → Int32) × (Nat → Int32) := if p3 = (-1 : Int32) then (bfX12_countsWith_90 mi fm_must fm_least fm_pin fm_ways p1 p2 p3 p4 K v5 v6 z3 fm_ways) else (if v6 = (-1 : Int32) then (bfX12_countsWith_90 mi fm_must fm_least fm_pin fm_ways p1 p2 p3 p4 K v5 v6 z3 fm_ways) else (if v6 = p4 then (bfX12_countsWith_90 mi fm_must fm_least fm_pin fm_ways p1 p2 p3 p4 K v5 v6 z3 fm_ways) else (bfX12_countsWith_95 mi fm_must fm_least fm_pin fm_ways p1 p2 p3 p4 K v5 v6 (0 : Int32) z3 fm_ways)))
noncomputable def dfX12_countsWith_97 (mi : Nat → Int32) (fm_must : Nat → Int32) (fm_least : Nat → Int32) (fm_pin : Nat → Int32) (fm_ways : Nat → Int32) (p1 : Int32) (p2 : Int32) (p3 : Int32) (p4 : Int32) (K : (Int32 → Int32 → (Nat → Int32) → (Int32 × (Nat → Int32) × (Nat → Int32))) × (Int32 → Int32 → Int32 → (Nat → Int32) → (Int32 × (Nat → Int32) × (Nat → Int32))) × (Int32 → Int32 → Int32 → (Nat → Int32) → (Nat → Int32) → (Int32 × (Nat → Int32) × (Nat → Int32)))) (v5 : Int32) (v6 : Int32) (v7 : Int32) (z3 : Nat → Int32) : Int32 × (Nat → Int32) × (Nat → Int32) := if p3 = (-1 : Int32) then (bfX12_countsWith_110 mi fm_must fm_least fm_pin fm_ways p1 p2 p3 p4 K v5 v6 v7 z3 fm_ways) else (bfX12_countsWith_110 mi fm_must fm_least fm_pin fm_ways p1 p2 p3 p4 K v5 v6 v7 (upd z3 p3.toNatClampNeg p4) fm_ways)
noncomputable def dfX12_countsWith_146 (mi : Nat → Int32) (fm_must : Nat → Int32) (fm_least : Nat → Int32) (fm_pin : Nat → Int32) (fm_ways : Nat → Int32) (p1 : Int32) (p2 : Int32) (p3 : Int32) (p4 : Int32) (K : (Int32 → Int32 → (Nat → Int32) → (Int32 × (Nat → Int32) × (Nat → Int32))) × (Int32 → Int32 → Int32 → (Nat → Int32) → (Int32 × (Nat → Int32) × (Nat → Int32))) × (Int32 → Int32 → Int32 → (Nat → Int32) → (Nat → Int32) → (Int32 × (Nat → Int32) × (Nat → Int32)))) (v5 : Int32) (v6 : Int32) (v8 : Int32) (z3 : Nat → Int32) (z4 : Nat → Int32) : Int32 × (Nat → Int32) × (Nat → Int32) := if p3 = (-1 : Int32) then (bfX12_countsWith_159 mi fm_must fm_least fm_pin fm_ways p1 p2 p3 p4 K v5 v8 z3 z4) else (bfX12_countsWith_159 mi fm_must fm_least fm_pin fm_ways p1 p2 p3 p4 K v5 v8 (upd z3 p3.toNatClampNeg v6) z4)
noncomputable def lfX12_countsWith (mi : Nat → Int32) (fm_must : Nat → Int32) (fm_least : Nat → Int32) (fm_pin : Nat → Int32) (fm_ways : Nat → Int32) (p1 : Int32) (p2 : Int32) (p3 : Int32) (p4 : Int32) (z : Nat) : (Int32 → Int32 → (Nat → Int32) → (Int32 × (Nat → Int32) × (Nat → Int32))) × (Int32 → Int32 → Int32 → (Nat → Int32) → (Int32 × (Nat → Int32) × (Nat → Int32))) × (Int32 → Int32 → Int32 → (Nat → Int32) → (Nat → Int32) → (Int32 × (Nat → Int32) × (Nat → Int32))) := Nat.rec (motive := fun _ => (Int32 → Int32 → (Nat → Int32) → (Int32 × (Nat → Int32) × (Nat → Int32))) × (Int32 → Int32 → Int32 → (Nat → Int32) → (Int32 × (Nat → Int32) × (Nat → Int32))) × (Int32 → Int32 → Int32 → (Nat → Int32) → (Nat → Int32) → (Int32 × (Nat → Int32) × (Nat → Int32)))) ((fun _ _ z3 => (0, z3, fun _ => 0), fun _ _ _ z3 => (0, z3, fun _ => 0), fun _ _ _ z3 z4 => (0, z3, z4))) (fun _ K => (dfX12_countsWith_72 mi fm_must fm_least fm_pin fm_ways p1 p2 p3 p4 K, dfX12_countsWith_97 mi fm_must fm_least fm_pin fm_ways p1 p2 p3 p4 K, dfX12_countsWith_146 mi fm_must fm_least fm_pin fm_ways p1 p2 p3 p4 K)) z
noncomputable def fX12_countsWith (mi : Nat → Int32) (fm_must : Nat → Int32) (fm_least : Nat → Int32) (fm_pin : Nat → Int32) (fm_ways : Nat → Int32) (p1 : Int32) (p2 : Int32) (p3 : Int32) (p4 : Int32) : Int32 × (Nat → Int32) × (Nat → Int32) := cal (fun o1 => if o1 = (0 : Int32) then (bfX12_countsWith_38 mi fm_must fm_least fm_pin fm_ways p1 p2 p3 p4 (lfX12_countsWith mi fm_must fm_least fm_pin fm_ways p1 p2 p3 p4 1000000000) fm_pin fm_ways) else (if (fm_pin p1.toNatClampNeg) = (-1 : Int32) then (bfX12_countsWith_40 mi fm_must fm_least fm_pin fm_ways p1 p2 p3 p4 (lfX12_countsWith mi fm_must fm_least fm_pin fm_ways p1 p2 p3 p4 1000000000) fm_pin fm_ways) else (if (fm_pin p1.toNatClampNeg) = p2 then (bfX12_countsWith_40 mi fm_must fm_least fm_pin fm_ways p1 p2 p3 p4 (lfX12_countsWith mi fm_must fm_least fm_pin fm_ways p1 p2 p3 p4 1000000000) fm_pin fm_ways) else (bfX12_countsWith_38 mi fm_must fm_least fm_pin fm_ways p1 p2 p3 p4 (lfX12_countsWith mi fm_must fm_least fm_pin fm_ways p1 p2 p3 p4 1000000000) fm_pin fm_ways)))) (fX12_in (p2.toInt64) (((29 : Int32) * p1).toInt64) (((30 : Int32) * p1).toInt64))
set_option maxHeartbeats 4000000 in
set_option maxRecDepth 100000 in
theorem lp_sX12_countsWith {p : Program} {l : Launch} {e : Env} {R : Room} {s : State} {m : MethodId} {args : Array Value} {below : List Frame} {meth : Method} {c : Code} {Q : State → Prop} {A : Nat → Prop} {cells slots : Nat} {dC : Nat → ClassId} {dI : Nat → Nat → Nat} {RES : Int32 × (Nat → Int32) × (Nat → Int32)} (h0 : Nat) (mi : Nat → Int32) (mr : Nat → Nat) (km : Nat → ClassId) (fm_must : Nat → Int32) (fm_least : Nat → Int32) (fm_pin : Nat → Int32) (fm_ways : Nat → Int32) (fm_trust : Nat → Int32) (fm_letter : Nat → Int32) (fm_reportPlace : Nat → Int32) (fm_reportKind : Nat → Int32) (fm_struck : Nat → Int32) (fm_reportMonth : Nat → Int32) (fm_reportDay : Nat → Int32) (fm_reportKnown : Nat → Int32) (fm_deedMonth : Nat → Int32) (fm_deedDay : Nat → Int32) (fm_deedLong : Nat → Int32) (fm_deedKind : Nat → Int32) (fm_kept : Nat → Int32) (fm_tape : Nat → Int32) (fm_verdict : Nat → Int32) (fm_row : Nat → Int32) (fm_official : Nat → Int32) (fm_aside : Nat → Int32) (fm_worth : Nat → Int32) (fm_out : Nat → Int32) (p1 : Int32) (p2 : Int32) (p3 : Int32) (p4 : Int32) (gmi_0 : gi (mi 0) 0 24) (gmi_1 : gi (mi 1) 0 5) (gmi_2 : gi (mi 2) 0 5) (gmi_4 : gi (mi 4) 0 1) (gmi_7 : gi (mi 7) 0 6) (gmi_10 : gi (mi 10) 0 24) (gmi_17 : gi (mi 17) 0 8) (gmi_23 : gi (mi 23) 0 300) (gmi_24 : gi (mi 24) 0 1) (gmi_26 : gi (mi 26) 0 1600) (gmi_29 : gi (mi 29) 0 1600) (gmi_30 : gi (mi 30) 0 1600) (gmi_33 : gi (mi 33) 0 1) (gmi_37 : gi (mi 37) 0 1) (gmi_41 : gi (mi 41) 0 24) (gmi_50 : gi (mi 50) 0 1) (gmi_51 : gi (mi 51) 0 1) (gmi_56 : gi (mi 56) 0 80) (gp1 : gi p1 0 24) (gp3 : gi p3 (-1) 24) (hx : p.tables.exec = Jvm.exec) (hb : c.code = cX12_countsWith) (hml : c.maxLocals = 9) (hown : s.vm.findClass RX12 = some m.cls) (hts : ∀ w ∈ ((.code yX12_countsWith cX12_countsWith 9 (some .int) :: wsGB) : List Cond), w.before args s = true) (hK : va_K (dC, dI) vwCl (MT km) s) (hA : ∀ q : Nat, s.heap.size ≤ q → A q) (hRf : 3 ≤ R.frames) (hRl : 73 ≤ R.locals) (hRc : cells ≤ R.cells) (hRs : slots ≤ R.slots) (kr39 : ∀ (v : Int32) (z3 : Nat → Int32) (z4 : Nat → Int32) (H : Heap) (locs : List Loc) (ls : Array Slot), gi v 0 0 → (v, z3, z4) = RES → va_P (dC, dI) vwCl (MWn h0 mr km (mi 0) (mi 1) (mi 2) (mi 3) (mi 4) (mi 5) (mi 6) (mi 7) (mi 10) (mi 17) (mi 23) (mi 24) (mi 26) (mi 27) (mi 28) (mi 29) (mi 30) (mi 31) (mi 32) (mi 33) (mi 37) (mi 41) (mi 42) (mi 43) (mi 44) (mi 45) (mi 47) (mi 48) (mi 49) (mi 50) (mi 51) (mi 54) (mi 56) fm_trust fm_letter fm_reportPlace fm_reportKind fm_struck fm_reportMonth fm_reportDay fm_reportKnown fm_deedMonth fm_deedDay fm_deedLong fm_deedKind fm_kept fm_tape fm_must fm_least z3 z4 fm_verdict fm_row fm_official fm_aside fm_worth fm_out) H → va_D A (MWn h0 mr km (mi 0) (mi 1) (mi 2) (mi 3) (mi 4) (mi 5) (mi 6) (mi 7) (mi 10) (mi 17) (mi 23) (mi 24) (mi 26) (mi 27) (mi 28) (mi 29) (mi 30) (mi 31) (mi 32) (mi 33) (mi 37) (mi 41) (mi 42) (mi 43) (mi 44) (mi 45) (mi 47) (mi 48) (mi 49) (mi 50) (mi 51) (mi 54) (mi 56) fm_trust fm_letter fm_reportPlace fm_reportKind fm_struck fm_reportMonth fm_reportDay fm_reportKnown fm_deedMonth fm_deedDay fm_deedLong fm_deedKind fm_kept fm_tape fm_must fm_least z3 z4 fm_verdict fm_row fm_official fm_aside fm_worth fm_out) → va_S A s.heap H locs → lv_has ls 9 [] → W p l e R s m args below meth c H locs cells slots Q (F0 m 39 ls [.int v])) (kr169 : ∀ (v : Int32) (z3 : Nat → Int32) (z4 : Nat → Int32) (H : Heap) (locs : List Loc) (ls : Array Slot), (v, z3, z4) = RES → va_P (dC, dI) vwCl (MWn h0 mr km (mi 0) (mi 1) (mi 2) (mi 3) (mi 4) (mi 5) (mi 6) (mi 7) (mi 10) (mi 17) (mi 23) (mi 24) (mi 26) (mi 27) (mi 28) (mi 29) (mi 30) (mi 31) (mi 32) (mi 33) (mi 37) (mi 41) (mi 42) (mi 43) (mi 44) (mi 45) (mi 47) (mi 48) (mi 49) (mi 50) (mi 51) (mi 54) (mi 56) fm_trust fm_letter fm_reportPlace fm_reportKind fm_struck fm_reportMonth fm_reportDay fm_reportKnown fm_deedMonth fm_deedDay fm_deedLong fm_deedKind fm_kept fm_tape fm_must fm_least z3 z4 fm_verdict fm_row fm_official fm_aside fm_worth fm_out) H → va_D A (MWn h0 mr km (mi 0) (mi 1) (mi 2) (mi 3) (mi 4) (mi 5) (mi 6) (mi 7) (mi 10) (mi 17) (mi 23) (mi 24) (mi 26) (mi 27) (mi 28) (mi 29) (mi 30) (mi 31) (mi 32) (mi 33) (mi 37) (mi 41) (mi 42) (mi 43) (mi 44) (mi 45) (mi 47) (mi 48) (mi 49) (mi 50) (mi 51) (mi 54) (mi 56) fm_trust fm_letter fm_reportPlace fm_reportKind fm_struck fm_reportMonth fm_reportDay fm_reportKnown fm_deedMonth fm_deedDay fm_deedLong fm_deedKind fm_kept fm_tape fm_must fm_least z3 z4 fm_verdict fm_row fm_official fm_aside fm_worth fm_out) → va_S A s.heap H locs → lv_has ls 9 [] → W p l e R s m args below meth c H locs cells slots Q (F0 m 169 ls [.int v])) : ∀ z : Nat, (∀ (v5 : Int32) (v6 : Int32) (z3 : Nat → Int32) (H : Heap) (locs : List Loc) (ls : Array Slot), gi p2 0 720 → (lfX12_countsWith mi fm_must fm_least fm_pin fm_ways p1 p2 p3 p4 z).1 v5 v6 z3 = RES → 3 < (z : Int) → va_P (dC, dI) vwCl (MWn h0 mr km (mi 0) (mi 1) (mi 2) (mi 3) (mi 4) (mi 5) (mi 6) (mi 7) (mi 10) (mi 17) (mi 23) (mi 24) (mi 26) (mi 27) (mi 28) (mi 29) (mi 30) (mi 31) (mi 32) (mi 33) (mi 37) (mi 41) (mi 42) (mi 43) (mi 44) (mi 45) (mi 47) (mi 48) (mi 49) (mi 50) (mi 51) (mi 54) (mi 56) fm_trust fm_letter fm_reportPlace fm_reportKind fm_struck fm_reportMonth fm_reportDay fm_reportKnown fm_deedMonth fm_deedDay fm_deedLong fm_deedKind fm_kept fm_tape fm_must fm_least z3 fm_ways fm_verdict fm_row fm_official fm_aside fm_worth fm_out) H → va_D A (MWn h0 mr km (mi 0) (mi 1) (mi 2) (mi 3) (mi 4) (mi 5) (mi 6) (mi 7) (mi 10) (mi 17) (mi 23) (mi 24) (mi 26) (mi 27) (mi 28) (mi 29) (mi 30) (mi 31) (mi 32) (mi 33) (mi 37) (mi 41) (mi 42) (mi 43) (mi 44) (mi 45) (mi 47) (mi 48) (mi 49) (mi 50) (mi 51) (mi 54) (mi 56) fm_trust fm_letter fm_reportPlace fm_reportKind fm_struck fm_reportMonth fm_reportDay fm_reportKnown fm_deedMonth fm_deedDay fm_deedLong fm_deedKind fm_kept fm_tape fm_must fm_least z3 fm_ways fm_verdict fm_row fm_official fm_aside fm_worth fm_out) → va_S A s.heap H locs → lv_has ls 9 [(0, .ref h0), (1, .int p1), (2, .int p2), (3, .int p3), (4, .int p4), (5, .int v5), (6, .int v6)] → W p l e R s m args below meth c H locs cells slots Q (F0 m 72 ls [])) ∧ (∀ (v5 : Int32) (v6 : Int32) (v7 : Int32) (z3 : Nat → Int32) (H : Heap) (locs : List Loc) (ls : Array Slot), gi p2 0 720 → gi v7 0 1 → (lfX12_countsWith mi fm_must fm_least fm_pin fm_ways p1 p2 p3 p4 z).2.1 v5 v6 v7 z3 = RES → 2 < (z : Int) → va_P (dC, dI) vwCl (MWn h0 mr km (mi 0) (mi 1) (mi 2) (mi 3) (mi 4) (mi 5) (mi 6) (mi 7) (mi 10) (mi 17) (mi 23) (mi 24) (mi 26) (mi 27) (mi 28) (mi 29) (mi 30) (mi 31) (mi 32) (mi 33) (mi 37) (mi 41) (mi 42) (mi 43) (mi 44) (mi 45) (mi 47) (mi 48) (mi 49) (mi 50) (mi 51) (mi 54) (mi 56) fm_trust fm_letter fm_reportPlace fm_reportKind fm_struck fm_reportMonth fm_reportDay fm_reportKnown fm_deedMonth fm_deedDay fm_deedLong fm_deedKind fm_kept fm_tape fm_must fm_least z3 fm_ways fm_verdict fm_row fm_official fm_aside fm_worth fm_out) H → va_D A (MWn h0 mr km (mi 0) (mi 1) (mi 2) (mi 3) (mi 4) (mi 5) (mi 6) (mi 7) (mi 10) (mi 17) (mi 23) (mi 24) (mi 26) (mi 27) (mi 28) (mi 29) (mi 30) (mi 31) (mi 32) (mi 33) (mi 37) (mi 41) (mi 42) (mi 43) (mi 44) (mi 45) (mi 47) (mi 48) (mi 49) (mi 50) (mi 51) (mi 54) (mi 56) fm_trust fm_letter fm_reportPlace fm_reportKind fm_struck fm_reportMonth fm_reportDay fm_reportKnown fm_deedMonth fm_deedDay fm_deedLong fm_deedKind fm_kept fm_tape fm_must fm_least z3 fm_ways fm_verdict fm_row fm_official fm_aside fm_worth fm_out) → va_S A s.heap H locs → lv_has ls 9 [(0, .ref h0), (1, .int p1), (2, .int p2), (3, .int p3), (4, .int p4), (5, .int v5), (6, .int v6), (7, .int v7)] → W p l e R s m args below meth c H locs cells slots Q (F0 m 97 ls [])) ∧ (∀ (v5 : Int32) (v6 : Int32) (v7 : Int32) (v8 : Int32) (z3 : Nat → Int32) (z4 : Nat → Int32) (H : Heap) (locs : List Loc) (ls : Array Slot), gi p2 0 720 → gi v7 0 1 → (lfX12_countsWith mi fm_must fm_least fm_pin fm_ways p1 p2 p3 p4 z).2.2 v5 v6 v8 z3 z4 = RES → 1 < (z : Int) → va_P (dC, dI) vwCl (MWn h0 mr km (mi 0) (mi 1) (mi 2) (mi 3) (mi 4) (mi 5) (mi 6) (mi 7) (mi 10) (mi 17) (mi 23) (mi 24) (mi 26) (mi 27) (mi 28) (mi 29) (mi 30) (mi 31) (mi 32) (mi 33) (mi 37) (mi 41) (mi 42) (mi 43) (mi 44) (mi 45) (mi 47) (mi 48) (mi 49) (mi 50) (mi 51) (mi 54) (mi 56) fm_trust fm_letter fm_reportPlace fm_reportKind fm_struck fm_reportMonth fm_reportDay fm_reportKnown fm_deedMonth fm_deedDay fm_deedLong fm_deedKind fm_kept fm_tape fm_must fm_least z3 z4 fm_verdict fm_row fm_official fm_aside fm_worth fm_out) H → va_D A (MWn h0 mr km (mi 0) (mi 1) (mi 2) (mi 3) (mi 4) (mi 5) (mi 6) (mi 7) (mi 10) (mi 17) (mi 23) (mi 24) (mi 26) (mi 27) (mi 28) (mi 29) (mi 30) (mi 31) (mi 32) (mi 33) (mi 37) (mi 41) (mi 42) (mi 43) (mi 44) (mi 45) (mi 47) (mi 48) (mi 49) (mi 50) (mi 51) (mi 54) (mi 56) fm_trust fm_letter fm_reportPlace fm_reportKind fm_struck fm_reportMonth fm_reportDay fm_reportKnown fm_deedMonth fm_deedDay fm_deedLong fm_deedKind fm_kept fm_tape fm_must fm_least z3 z4 fm_verdict fm_row fm_official fm_aside fm_worth fm_out) → va_S A s.heap H locs → lv_has ls 9 [(0, .ref h0), (1, .int p1), (2, .int p2), (3, .int p3), (4, .int p4), (5, .int v5), (6, .int v6), (7, .int v7), (8, .int v8)] → W p l e R s m args below meth c H locs cells slots Q (F0 m 146 ls [])) := by
  intro z
  induction z with
  | zero =>
    refine ⟨?_, ?_, ?_⟩
    · intro v5 v6 z3 H locs ls gf_p2 hF hmu hP hD hS hl
      exact absurd hmu (by omega)
    · intro v5 v6 v7 z3 H locs ls gf_p2 gv7 hF hmu hP hD hS hl
      exact absurd hmu (by omega)
    · intro v5 v6 v7 v8 z3 z4 H locs ls gf_p2 gv7 hF hmu hP hD hS hl
      exact absurd hmu (by omega)
  | succ z ih =>
    refine ⟨?_, ?_, ?_⟩
    · intro v5 v6 z3 H locs ls gf_p2 hF hmu hP hD hS hl
      have hF : dfX12_countsWith_72 mi fm_must fm_least fm_pin fm_ways p1 p2 p3 p4 (lfX12_countsWith mi fm_must fm_least fm_pin fm_ways p1 p2 p3 p4 z) v5 v6 z3 = RES := hF
      refine lv_iload_n hx hb (dk_at dkX12_countsWith 46 rfl) rfl (lv_at hl 3 rfl) ?_
      refine lv_iconst (v := (-1)) hx hb (dk_at dkX12_countsWith 47 rfl) (by decide) ?_
      refine lv_icmp_eq (tgt := 90) hx hb (dk_at dkX12_countsWith 48 rfl) (by decide) (fun c_141 => ?_) (fun c_141 => ?_)
      · have hF := gf_pos c_141 hF
        have g_142 : gi p3 (-1) (-1) := gi_eq c_141 (gi_c (-1) (-1) (by decide))
        refine lv_iconst (v := 1) hx hb (dk_at dkX12_countsWith 55 rfl) (by decide) ?_
        refine lv_goto (tgt := 95) hx hb (dk_at dkX12_countsWith 56 rfl) (by decide) ?_
        refine lv_istore (lv' := [(7, .int 1), (0, .ref h0), (1, .int p1), (2, .int p2), (3, .int p3), (4, .int p4), (5, .int v5), (6, .int v6)]) hx hb (dk_at dkX12_countsWith 58 rfl) hl (by decide) rfl (fun ls hl => ?_)
        exact ih.2.1 v5 v6 1 z3 _ _ _ gf_p2 (gi_w (gi_c 1 1 (by decide)) (by decide)) hF (by omega) hP hD hS (lv_sub hl [1, 2, 3, 4, 5, 6, 7, 0] rfl)
      · have hF := gf_neg c_141 hF
        have g_143 : gi p3 0 24 := gi_ne_lo c_141 gp3 (gi_c (-1) (-1) (by decide)) (by decide)
        refine lv_iload hx hb (dk_at dkX12_countsWith 49 rfl) (lv_at hl 6 rfl) ?_
        refine lv_iconst (v := (-1)) hx hb (dk_at dkX12_countsWith 50 rfl) (by decide) ?_
        refine lv_icmp_eq (tgt := 90) hx hb (dk_at dkX12_countsWith 51 rfl) (by decide) (fun c_144 => ?_) (fun c_144 => ?_)
        · have hF := gf_pos c_144 hF
          have g_145 : gi v6 (-1) (-1) := gi_eq c_144 (gi_c (-1) (-1) (by decide))
          refine lv_iconst (v := 1) hx hb (dk_at dkX12_countsWith 55 rfl) (by decide) ?_
          refine lv_goto (tgt := 95) hx hb (dk_at dkX12_countsWith 56 rfl) (by decide) ?_
          refine lv_istore (lv' := [(7, .int 1), (0, .ref h0), (1, .int p1), (2, .int p2), (3, .int p3), (4, .int p4), (5, .int v5), (6, .int v6)]) hx hb (dk_at dkX12_countsWith 58 rfl) hl (by decide) rfl (fun ls hl => ?_)
          exact ih.2.1 v5 v6 1 z3 _ _ _ gf_p2 (gi_w (gi_c 1 1 (by decide)) (by decide)) hF (by omega) hP hD hS (lv_sub hl [1, 2, 3, 4, 5, 6, 7, 0] rfl)
        · have hF := gf_neg c_144 hF
          refine lv_iload hx hb (dk_at dkX12_countsWith 52 rfl) (lv_at hl 6 rfl) ?_
          refine lv_iload hx hb (dk_at dkX12_countsWith 53 rfl) (lv_at hl 4 rfl) ?_
          refine lv_icmp_ne (tgt := 94) hx hb (dk_at dkX12_countsWith 54 rfl) (by decide) (fun c_146 => ?_) (fun c_146 => ?_)
          · have hF := gf_neg c_146 hF
            refine lv_iconst (v := 0) hx hb (dk_at dkX12_countsWith 57 rfl) (by decide) ?_
            refine lv_istore (lv' := [(7, .int 0), (0, .ref h0), (1, .int p1), (2, .int p2), (3, .int p3), (4, .int p4), (5, .int v5), (6, .int v6)]) hx hb (dk_at dkX12_countsWith 58 rfl) hl (by decide) rfl (fun ls hl => ?_)
            exact ih.2.1 v5 v6 0 z3 _ _ _ gf_p2 (gi_w (gi_c 0 0 (by decide)) (by decide)) hF (by omega) hP hD hS (lv_sub hl [1, 2, 3, 4, 5, 6, 7, 0] rfl)
          · have hF := gf_pos c_146 hF
            refine lv_iconst (v := 1) hx hb (dk_at dkX12_countsWith 55 rfl) (by decide) ?_
            refine lv_goto (tgt := 95) hx hb (dk_at dkX12_countsWith 56 rfl) (by decide) ?_
            refine lv_istore (lv' := [(7, .int 1), (0, .ref h0), (1, .int p1), (2, .int p2), (3, .int p3), (4, .int p4), (5, .int v5), (6, .int v6)]) hx hb (dk_at dkX12_countsWith 58 rfl) hl (by decide) rfl (fun ls hl => ?_)
            exact ih.2.1 v5 v6 1 z3 _ _ _ gf_p2 (gi_w (gi_c 1 1 (by decide)) (by decide)) hF (by omega) hP hD hS (lv_sub hl [1, 2, 3, 4, 5, 6, 7, 0] rfl)
    · intro v5 v6 v7 z3 H locs ls gf_p2 gv7 hF hmu hP hD hS hl
      have hF : dfX12_countsWith_97 mi fm_must fm_least fm_pin fm_ways p1 p2 p3 p4 (lfX12_countsWith mi fm_must fm_least fm_pin fm_ways p1 p2 p3 p4 z) v5 v6 v7 z3 = RES := hF
      refine lv_iload_n hx hb (dk_at dkX12_countsWith 59 rfl) rfl (lv_at hl 3 rfl) ?_
      refine lv_iconst (v := (-1)) hx hb (dk_at dkX12_countsWith 60 rfl) (by decide) ?_
      refine lv_icmp_eq (tgt := 110) hx hb (dk_at dkX12_countsWith 61 rfl) (by decide) (fun c_147 => ?_) (fun c_147 => ?_)
      · have hF := gf_pos c_147 hF
        have g_148 : gi p3 (-1) (-1) := gi_eq c_147 (gi_c (-1) (-1) (by decide))
        refine lv_iload hx hb (dk_at dkX12_countsWith 67 rfl) (lv_at hl 7 rfl) ?_
        refine lv_if_eq (tgt := 143) hx hb (dk_at dkX12_countsWith 68 rfl) (by decide) (fun c_149 => ?_) (fun c_149 => ?_)
        · have hF := gf_pos c_149 hF
          have g_150 : gi v7 0 0 := gi_eq c_149 (gi_c 0 0 (by decide))
          refine lv_iconst (v := 0) hx hb (dk_at dkX12_countsWith 83 rfl) (by decide) ?_
          refine lv_istore (lv' := [(8, .int 0), (0, .ref h0), (1, .int p1), (2, .int p2), (3, .int p3), (4, .int p4), (5, .int v5), (6, .int v6), (7, .int v7)]) hx hb (dk_at dkX12_countsWith 84 rfl) hl (by decide) rfl (fun ls hl => ?_)
          exact ih.2.2 v5 v6 v7 0 z3 fm_ways _ _ _ gf_p2 (gi_w g_150 (by decide)) hF (by omega) hP hD hS (lv_sub hl [1, 2, 3, 4, 5, 6, 7, 8, 0] rfl)
        · have hF := gf_neg c_149 hF
          have g_151 : gi v7 1 1 := gi_ne_lo c_149 gv7 (gi_c 0 0 (by decide)) (by decide)
          refine lv_iload_n hx hb (dk_at dkX12_countsWith 69 rfl) rfl (lv_at hl 3 rfl) ?_
          refine lv_iload_n hx hb (dk_at dkX12_countsWith 70 rfl) rfl (lv_at hl 1 rfl) ?_
          refine lv_icmp_ne (tgt := 126) hx hb (dk_at dkX12_countsWith 71 rfl) (by decide) (fun c_152 => ?_) (fun c_152 => absurd c_152 (gi_no_eq g_148 gp1 (by decide)))
          have hF := gf_neg c_152 hF
          refine lv_iload_n hx hb (dk_at dkX12_countsWith 75 rfl) rfl (lv_at hl 2 rfl) ?_
          refine lv_if_lt (tgt := 143) hx hb (dk_at dkX12_countsWith 76 rfl) (by decide) (fun c_153 => absurd c_153 (gi_no_lt gf_p2 (gi_c 0 0 (by decide)) (by decide))) (fun c_153 => ?_)
          have hF := gf_neg c_153 hF
          refine lv_iload hx hb (dk_at dkX12_countsWith 77 rfl) (lv_at hl 4 rfl) ?_
          refine lv_iconst (v := (-1)) hx hb (dk_at dkX12_countsWith 78 rfl) (by decide) ?_
          refine lv_icmp_lt (tgt := 143) hx hb (dk_at dkX12_countsWith 79 rfl) (by decide) (fun c_154 => ?_) (fun c_154 => ?_)
          · have hF := gf_pos c_154 hF
            have g_155 : gi p4 (-2147483648) (-2) := gi_lt_l c_154 (gi_any p4) (gi_c (-1) (-1) (by decide)) (by decide)
            refine lv_iconst (v := 0) hx hb (dk_at dkX12_countsWith 83 rfl) (by decide) ?_
            refine lv_istore (lv' := [(8, .int 0), (0, .ref h0), (1, .int p1), (2, .int p2), (3, .int p3), (4, .int p4), (5, .int v5), (6, .int v6), (7, .int v7)]) hx hb (dk_at dkX12_countsWith 84 rfl) hl (by decide) rfl (fun ls hl => ?_)
            exact ih.2.2 v5 v6 v7 0 z3 fm_ways _ _ _ gf_p2 (gi_w g_151 (by decide)) hF (by omega) hP hD hS (lv_sub hl [1, 2, 3, 4, 5, 6, 7, 8, 0] rfl)
          · have hF := gf_neg c_154 hF
            have g_156 : gi p4 (-1) 2147483647 := gi_le_r (Int32.not_lt.mp c_154) (gi_c (-1) (-1) (by decide)) (gi_any p4)
            refine lv_aload_n hx hb (dk_at dkX12_countsWith 80 rfl) rfl (lv_at hl 0 rfl) ?_
            have hFc := gz_fullF hD hS hA
            refine va_calli (va_runV (As := []) (rest := []) ⟨hx, hb, hml, hown, hts⟩ (sX12_counts l dC dI H.size h0 mi mr km fm_must fm_least z3 fm_ways fm_trust fm_letter fm_reportPlace fm_reportKind fm_struck fm_reportMonth fm_reportDay fm_reportKnown fm_deedMonth fm_deedDay fm_deedLong fm_deedKind fm_kept fm_tape fm_verdict fm_row fm_official fm_aside fm_worth fm_out gmi_0 gmi_1 gmi_2 gmi_4 gmi_7 gmi_10 gmi_17 gmi_23 gmi_24 gmi_26 gmi_29 gmi_30 gmi_33 gmi_37 gmi_41 gmi_50 gmi_51 gmi_56) (cwV 0 hts (gz_gV mGB_299 mGB_300 mGB_301 mGB_1 mGB_302 goodGB) rfl rfl rfl hdV_X12_counts_X12_0 ⟨Nat.le_trans (Nat.le_of_ble_eq_true rfl) hRf, Nat.le_trans (Nat.le_of_ble_eq_true rfl) hRl⟩) ⟨bl_W, mw_recv hK hP, fun U hU hW => ⟨rfl, by rw [hU], by rw [hU]; exact hP, va_K.moved hW.alike hK, hD.weaken (fun _ _ _ _ => trivial)⟩⟩ rfl rfl hl.1 rfl (lv_room (Nat.le_of_ble_eq_true rfl)) (dk_at dkX12_countsWith 81 rfl) ⟨hRc, hRs⟩) hS (fun q _ h => hFc q h) hFc (fun r_157 u t H1 locs ht hvm hw hB hz1 hk1 hS => ?_)
            obtain ⟨hu_, hw⟩ := hw
            subst hu_
            obtain ⟨f_158, hB⟩ := hB
            obtain ⟨hE, hP1, hD1⟩ := hB
            rw [ht] at hP1
            have hD : va_D A (MWn h0 mr km (mi 0) (mi 1) (mi 2) (mi 3) (mi 4) (mi 5) (mi 6) (mi 7) (mi 10) (mi 17) (mi 23) (mi 24) (mi 26) (mi 27) (mi 28) (mi 29) (mi 30) (mi 31) (mi 32) (mi 33) (mi 37) (mi 41) (mi 42) (mi 43) (mi 44) (mi 45) (mi 47) (mi 48) (mi 49) (mi 50) (mi 51) (mi 54) (mi 56) fm_trust fm_letter fm_reportPlace fm_reportKind fm_struck fm_reportMonth fm_reportDay fm_reportKnown fm_deedMonth fm_deedDay fm_deedLong fm_deedKind fm_kept fm_tape fm_must fm_least z3 f_158 fm_verdict fm_row fm_official fm_aside fm_worth fm_out) := gz_fullD hFc hD1
            have hP : va_P (dC, dI) vwCl (MWn h0 mr km (mi 0) (mi 1) (mi 2) (mi 3) (mi 4) (mi 5) (mi 6) (mi 7) (mi 10) (mi 17) (mi 23) (mi 24) (mi 26) (mi 27) (mi 28) (mi 29) (mi 30) (mi 31) (mi 32) (mi 33) (mi 37) (mi 41) (mi 42) (mi 43) (mi 44) (mi 45) (mi 47) (mi 48) (mi 49) (mi 50) (mi 51) (mi 54) (mi 56) fm_trust fm_letter fm_reportPlace fm_reportKind fm_struck fm_reportMonth fm_reportDay fm_reportKnown fm_deedMonth fm_deedDay fm_deedLong fm_deedKind fm_kept fm_tape fm_must fm_least z3 f_158 fm_verdict fm_row fm_official fm_aside fm_worth fm_out) H1 := hP1
            have hF := gf_callm (a := (r_157, f_158)) hE hF (by first | with_reducible rfl | simp only [upd_same, upd_app, ↓reduceIte, Nat.reduceEqDiff])
            generalize H1 = H at hP hS ⊢
            refine lv_goto (tgt := 144) hx hb (dk_at dkX12_countsWith 82 rfl) (by decide) ?_
            refine lv_istore (lv' := [(8, .int r_157), (0, .ref h0), (1, .int p1), (2, .int p2), (3, .int p3), (4, .int p4), (5, .int v5), (6, .int v6), (7, .int v7)]) hx hb (dk_at dkX12_countsWith 84 rfl) hl (by decide) rfl (fun ls hl => ?_)
            exact ih.2.2 v5 v6 v7 r_157 z3 f_158 _ _ _ gf_p2 (gi_w g_151 (by decide)) hF (by omega) hP hD hS (lv_sub hl [1, 2, 3, 4, 5, 6, 7, 8, 0] rfl)
      · have hF := gf_neg c_147 hF
        have g_159 : gi p3 0 24 := gi_ne_lo c_147 gp3 (gi_c (-1) (-1) (by decide)) (by decide)
        refine lv_aload_n hx hb (dk_at dkX12_countsWith 62 rfl) rfl (lv_at hl 0 rfl) ?_
        refine va_get (D := (dC, dI)) (ci := 12) (v := .ref (mr 16)) (C := RX12) (T := TX12) (N := 57) hx hb hts (fun w h => List.mem_cons_of_mem _ (jnGB_X12 w h)) hown hK hP 0 rfl rfl 36 (by decide) (hts _ (List.mem_cons_of_mem _ mGB_28)) (fun _ h9 => h9) rfl (dk_at dkX12_countsWith 63 rfl) ?_
        refine lv_iload_n hx hb (dk_at dkX12_countsWith 64 rfl) rfl (lv_at hl 3 rfl) ?_
        refine lv_iload hx hb (dk_at dkX12_countsWith 65 rfl) (lv_at hl 4 rfl) ?_
        refine va_iast hx hb hK hP hD hS 17 16 rfl rfl (gi_in g_159 (by decide)) (dk_at dkX12_countsWith 66 rfl) (fun H locs hP hD hS => ?_)
        obtain ⟨hP, hD⟩ := gz_both (w := (MWn h0 mr km (mi 0) (mi 1) (mi 2) (mi 3) (mi 4) (mi 5) (mi 6) (mi 7) (mi 10) (mi 17) (mi 23) (mi 24) (mi 26) (mi 27) (mi 28) (mi 29) (mi 30) (mi 31) (mi 32) (mi 33) (mi 37) (mi 41) (mi 42) (mi 43) (mi 44) (mi 45) (mi 47) (mi 48) (mi 49) (mi 50) (mi 51) (mi 54) (mi 56) fm_trust fm_letter fm_reportPlace fm_reportKind fm_struck fm_reportMonth fm_reportDay fm_reportKnown fm_deedMonth fm_deedDay fm_deedLong fm_deedKind fm_kept fm_tape fm_must fm_least (upd z3 (p3 : Int32).toNatClampNeg p4) fm_ways fm_verdict fm_row fm_official fm_aside fm_worth fm_out)) hP hD
        generalize ef_160 : upd z3 (p3 : Int32).toNatClampNeg p4 = f_160 at hP hD
        refine lv_iload hx hb (dk_at dkX12_countsWith 67 rfl) (lv_at hl 7 rfl) ?_
        refine lv_if_eq (tgt := 143) hx hb (dk_at dkX12_countsWith 68 rfl) (by decide) (fun c_161 => ?_) (fun c_161 => ?_)
        · have hF := gf_pos c_161 hF
          have g_162 : gi v7 0 0 := gi_eq c_161 (gi_c 0 0 (by decide))
          refine lv_iconst (v := 0) hx hb (dk_at dkX12_countsWith 83 rfl) (by decide) ?_
          refine lv_istore (lv' := [(8, .int 0), (0, .ref h0), (1, .int p1), (2, .int p2), (3, .int p3), (4, .int p4), (5, .int v5), (6, .int v6), (7, .int v7)]) hx hb (dk_at dkX12_countsWith 84 rfl) hl (by decide) rfl (fun ls hl => ?_)
          exact ih.2.2 v5 v6 v7 0 f_160 fm_ways _ _ _ gf_p2 (gi_w g_162 (by decide)) (by first | (rw [← ef_160]; exact hF) | ((try rw [← ef_160]); exact hF)) (by omega) hP hD hS (lv_sub hl [1, 2, 3, 4, 5, 6, 7, 8, 0] rfl)
        · have hF := gf_neg c_161 hF
          have g_163 : gi v7 1 1 := gi_ne_lo c_161 gv7 (gi_c 0 0 (by decide)) (by decide)
          refine lv_iload_n hx hb (dk_at dkX12_countsWith 69 rfl) rfl (lv_at hl 3 rfl) ?_
          refine lv_iload_n hx hb (dk_at dkX12_countsWith 70 rfl) rfl (lv_at hl 1 rfl) ?_
          refine lv_icmp_ne (tgt := 126) hx hb (dk_at dkX12_countsWith 71 rfl) (by decide) (fun c_164 => ?_) (fun c_164 => ?_)
          · have hF := gf_neg c_164 hF
            refine lv_iload_n hx hb (dk_at dkX12_countsWith 75 rfl) rfl (lv_at hl 2 rfl) ?_
            refine lv_if_lt (tgt := 143) hx hb (dk_at dkX12_countsWith 76 rfl) (by decide) (fun c_165 => absurd c_165 (gi_no_lt gf_p2 (gi_c 0 0 (by decide)) (by decide))) (fun c_165 => ?_)
            have hF := gf_neg c_165 hF
            refine lv_iload hx hb (dk_at dkX12_countsWith 77 rfl) (lv_at hl 4 rfl) ?_
            refine lv_iconst (v := (-1)) hx hb (dk_at dkX12_countsWith 78 rfl) (by decide) ?_
            refine lv_icmp_lt (tgt := 143) hx hb (dk_at dkX12_countsWith 79 rfl) (by decide) (fun c_166 => ?_) (fun c_166 => ?_)
            · have hF := gf_pos c_166 hF
              have g_167 : gi p4 (-2147483648) (-2) := gi_lt_l c_166 (gi_any p4) (gi_c (-1) (-1) (by decide)) (by decide)
              refine lv_iconst (v := 0) hx hb (dk_at dkX12_countsWith 83 rfl) (by decide) ?_
              refine lv_istore (lv' := [(8, .int 0), (0, .ref h0), (1, .int p1), (2, .int p2), (3, .int p3), (4, .int p4), (5, .int v5), (6, .int v6), (7, .int v7)]) hx hb (dk_at dkX12_countsWith 84 rfl) hl (by decide) rfl (fun ls hl => ?_)
              exact ih.2.2 v5 v6 v7 0 f_160 fm_ways _ _ _ gf_p2 (gi_w g_163 (by decide)) (by first | (rw [← ef_160]; exact hF) | ((try rw [← ef_160]); exact hF)) (by omega) hP hD hS (lv_sub hl [1, 2, 3, 4, 5, 6, 7, 8, 0] rfl)
            · have hF := gf_neg c_166 hF
              have g_168 : gi p4 (-1) 2147483647 := gi_le_r (Int32.not_lt.mp c_166) (gi_c (-1) (-1) (by decide)) (gi_any p4)
              refine lv_aload_n hx hb (dk_at dkX12_countsWith 80 rfl) rfl (lv_at hl 0 rfl) ?_
              have hFc := gz_fullF hD hS hA
              refine va_calli (va_runV (As := []) (rest := []) ⟨hx, hb, hml, hown, hts⟩ (sX12_counts l dC dI H.size h0 mi mr km fm_must fm_least f_160 fm_ways fm_trust fm_letter fm_reportPlace fm_reportKind fm_struck fm_reportMonth fm_reportDay fm_reportKnown fm_deedMonth fm_deedDay fm_deedLong fm_deedKind fm_kept fm_tape fm_verdict fm_row fm_official fm_aside fm_worth fm_out gmi_0 gmi_1 gmi_2 gmi_4 gmi_7 gmi_10 gmi_17 gmi_23 gmi_24 gmi_26 gmi_29 gmi_30 gmi_33 gmi_37 gmi_41 gmi_50 gmi_51 gmi_56) (cwV 0 hts (gz_gV mGB_299 mGB_300 mGB_301 mGB_1 mGB_302 goodGB) rfl rfl rfl hdV_X12_counts_X12_0 ⟨Nat.le_trans (Nat.le_of_ble_eq_true rfl) hRf, Nat.le_trans (Nat.le_of_ble_eq_true rfl) hRl⟩) ⟨bl_W, mw_recv hK hP, fun U hU hW => ⟨rfl, by rw [hU], by rw [hU]; exact hP, va_K.moved hW.alike hK, hD.weaken (fun _ _ _ _ => trivial)⟩⟩ rfl rfl hl.1 rfl (lv_room (Nat.le_of_ble_eq_true rfl)) (dk_at dkX12_countsWith 81 rfl) ⟨hRc, hRs⟩) hS (fun q _ h => hFc q h) hFc (fun r_169 u t H1 locs ht hvm hw hB hz1 hk1 hS => ?_)
              obtain ⟨hu_, hw⟩ := hw
              subst hu_
              obtain ⟨f_170, hB⟩ := hB
              obtain ⟨hE, hP1, hD1⟩ := hB
              rw [ht] at hP1
              have hD : va_D A (MWn h0 mr km (mi 0) (mi 1) (mi 2) (mi 3) (mi 4) (mi 5) (mi 6) (mi 7) (mi 10) (mi 17) (mi 23) (mi 24) (mi 26) (mi 27) (mi 28) (mi 29) (mi 30) (mi 31) (mi 32) (mi 33) (mi 37) (mi 41) (mi 42) (mi 43) (mi 44) (mi 45) (mi 47) (mi 48) (mi 49) (mi 50) (mi 51) (mi 54) (mi 56) fm_trust fm_letter fm_reportPlace fm_reportKind fm_struck fm_reportMonth fm_reportDay fm_reportKnown fm_deedMonth fm_deedDay fm_deedLong fm_deedKind fm_kept fm_tape fm_must fm_least f_160 f_170 fm_verdict fm_row fm_official fm_aside fm_worth fm_out) := gz_fullD hFc hD1
              have hP : va_P (dC, dI) vwCl (MWn h0 mr km (mi 0) (mi 1) (mi 2) (mi 3) (mi 4) (mi 5) (mi 6) (mi 7) (mi 10) (mi 17) (mi 23) (mi 24) (mi 26) (mi 27) (mi 28) (mi 29) (mi 30) (mi 31) (mi 32) (mi 33) (mi 37) (mi 41) (mi 42) (mi 43) (mi 44) (mi 45) (mi 47) (mi 48) (mi 49) (mi 50) (mi 51) (mi 54) (mi 56) fm_trust fm_letter fm_reportPlace fm_reportKind fm_struck fm_reportMonth fm_reportDay fm_reportKnown fm_deedMonth fm_deedDay fm_deedLong fm_deedKind fm_kept fm_tape fm_must fm_least f_160 f_170 fm_verdict fm_row fm_official fm_aside fm_worth fm_out) H1 := hP1
              rw [← ef_160] at hE
              have hF := gf_callm (a := (r_169, f_170)) hE hF (by first | with_reducible rfl | simp only [upd_same, upd_app, ↓reduceIte, Nat.reduceEqDiff])
              generalize H1 = H at hP hS ⊢
              refine lv_goto (tgt := 144) hx hb (dk_at dkX12_countsWith 82 rfl) (by decide) ?_
              refine lv_istore (lv' := [(8, .int r_169), (0, .ref h0), (1, .int p1), (2, .int p2), (3, .int p3), (4, .int p4), (5, .int v5), (6, .int v6), (7, .int v7)]) hx hb (dk_at dkX12_countsWith 84 rfl) hl (by decide) rfl (fun ls hl => ?_)
              exact ih.2.2 v5 v6 v7 r_169 f_160 f_170 _ _ _ gf_p2 (gi_w g_163 (by decide)) (by first | (rw [← ef_160]; exact hF) | ((try rw [← ef_160]); exact hF)) (by omega) hP hD hS (lv_sub hl [1, 2, 3, 4, 5, 6, 7, 8, 0] rfl)
          · have hF := gf_pos c_164 hF
            refine lv_iload hx hb (dk_at dkX12_countsWith 72 rfl) (lv_at hl 4 rfl) ?_
            refine lv_iload_n hx hb (dk_at dkX12_countsWith 73 rfl) rfl (lv_at hl 2 rfl) ?_
            refine lv_icmp_ne (tgt := 143) hx hb (dk_at dkX12_countsWith 74 rfl) (by decide) (fun c_171 => ?_) (fun c_171 => ?_)
            · have hF := gf_neg c_171 hF
              refine lv_iconst (v := 0) hx hb (dk_at dkX12_countsWith 83 rfl) (by decide) ?_
              refine lv_istore (lv' := [(8, .int 0), (0, .ref h0), (1, .int p1), (2, .int p2), (3, .int p3), (4, .int p4), (5, .int v5), (6, .int v6), (7, .int v7)]) hx hb (dk_at dkX12_countsWith 84 rfl) hl (by decide) rfl (fun ls hl => ?_)
              exact ih.2.2 v5 v6 v7 0 f_160 fm_ways _ _ _ gf_p2 (gi_w g_163 (by decide)) (by first | (rw [← ef_160]; exact hF) | ((try rw [← ef_160]); exact hF)) (by omega) hP hD hS (lv_sub hl [1, 2, 3, 4, 5, 6, 7, 8, 0] rfl)
            · have hF := gf_pos c_171 hF
              have g_172 : gi p4 0 720 := gi_eq c_171 gf_p2
              refine lv_iload_n hx hb (dk_at dkX12_countsWith 75 rfl) rfl (lv_at hl 2 rfl) ?_
              refine lv_if_lt (tgt := 143) hx hb (dk_at dkX12_countsWith 76 rfl) (by decide) (fun c_173 => absurd c_173 (gi_no_lt gf_p2 (gi_c 0 0 (by decide)) (by decide))) (fun c_173 => ?_)
              have hF := gf_neg c_173 hF
              refine lv_iload hx hb (dk_at dkX12_countsWith 77 rfl) (lv_at hl 4 rfl) ?_
              refine lv_iconst (v := (-1)) hx hb (dk_at dkX12_countsWith 78 rfl) (by decide) ?_
              refine lv_icmp_lt (tgt := 143) hx hb (dk_at dkX12_countsWith 79 rfl) (by decide) (fun c_174 => absurd c_174 (gi_no_lt g_172 (gi_c (-1) (-1) (by decide)) (by decide))) (fun c_174 => ?_)
              have hF := gf_neg c_174 hF
              refine lv_aload_n hx hb (dk_at dkX12_countsWith 80 rfl) rfl (lv_at hl 0 rfl) ?_
              have hFc := gz_fullF hD hS hA
              refine va_calli (va_runV (As := []) (rest := []) ⟨hx, hb, hml, hown, hts⟩ (sX12_counts l dC dI H.size h0 mi mr km fm_must fm_least f_160 fm_ways fm_trust fm_letter fm_reportPlace fm_reportKind fm_struck fm_reportMonth fm_reportDay fm_reportKnown fm_deedMonth fm_deedDay fm_deedLong fm_deedKind fm_kept fm_tape fm_verdict fm_row fm_official fm_aside fm_worth fm_out gmi_0 gmi_1 gmi_2 gmi_4 gmi_7 gmi_10 gmi_17 gmi_23 gmi_24 gmi_26 gmi_29 gmi_30 gmi_33 gmi_37 gmi_41 gmi_50 gmi_51 gmi_56) (cwV 0 hts (gz_gV mGB_299 mGB_300 mGB_301 mGB_1 mGB_302 goodGB) rfl rfl rfl hdV_X12_counts_X12_0 ⟨Nat.le_trans (Nat.le_of_ble_eq_true rfl) hRf, Nat.le_trans (Nat.le_of_ble_eq_true rfl) hRl⟩) ⟨bl_W, mw_recv hK hP, fun U hU hW => ⟨rfl, by rw [hU], by rw [hU]; exact hP, va_K.moved hW.alike hK, hD.weaken (fun _ _ _ _ => trivial)⟩⟩ rfl rfl hl.1 rfl (lv_room (Nat.le_of_ble_eq_true rfl)) (dk_at dkX12_countsWith 81 rfl) ⟨hRc, hRs⟩) hS (fun q _ h => hFc q h) hFc (fun r_175 u t H1 locs ht hvm hw hB hz1 hk1 hS => ?_)
              obtain ⟨hu_, hw⟩ := hw
              subst hu_
              obtain ⟨f_176, hB⟩ := hB
              obtain ⟨hE, hP1, hD1⟩ := hB
              rw [ht] at hP1
              have hD : va_D A (MWn h0 mr km (mi 0) (mi 1) (mi 2) (mi 3) (mi 4) (mi 5) (mi 6) (mi 7) (mi 10) (mi 17) (mi 23) (mi 24) (mi 26) (mi 27) (mi 28) (mi 29) (mi 30) (mi 31) (mi 32) (mi 33) (mi 37) (mi 41) (mi 42) (mi 43) (mi 44) (mi 45) (mi 47) (mi 48) (mi 49) (mi 50) (mi 51) (mi 54) (mi 56) fm_trust fm_letter fm_reportPlace fm_reportKind fm_struck fm_reportMonth fm_reportDay fm_reportKnown fm_deedMonth fm_deedDay fm_deedLong fm_deedKind fm_kept fm_tape fm_must fm_least f_160 f_176 fm_verdict fm_row fm_official fm_aside fm_worth fm_out) := gz_fullD hFc hD1
              have hP : va_P (dC, dI) vwCl (MWn h0 mr km (mi 0) (mi 1) (mi 2) (mi 3) (mi 4) (mi 5) (mi 6) (mi 7) (mi 10) (mi 17) (mi 23) (mi 24) (mi 26) (mi 27) (mi 28) (mi 29) (mi 30) (mi 31) (mi 32) (mi 33) (mi 37) (mi 41) (mi 42) (mi 43) (mi 44) (mi 45) (mi 47) (mi 48) (mi 49) (mi 50) (mi 51) (mi 54) (mi 56) fm_trust fm_letter fm_reportPlace fm_reportKind fm_struck fm_reportMonth fm_reportDay fm_reportKnown fm_deedMonth fm_deedDay fm_deedLong fm_deedKind fm_kept fm_tape fm_must fm_least f_160 f_176 fm_verdict fm_row fm_official fm_aside fm_worth fm_out) H1 := hP1
              rw [← ef_160] at hE
              have hF := gf_callm (a := (r_175, f_176)) hE hF (by first | with_reducible rfl | simp only [upd_same, upd_app, ↓reduceIte, Nat.reduceEqDiff])
              generalize H1 = H at hP hS ⊢
              refine lv_goto (tgt := 144) hx hb (dk_at dkX12_countsWith 82 rfl) (by decide) ?_
              refine lv_istore (lv' := [(8, .int r_175), (0, .ref h0), (1, .int p1), (2, .int p2), (3, .int p3), (4, .int p4), (5, .int v5), (6, .int v6), (7, .int v7)]) hx hb (dk_at dkX12_countsWith 84 rfl) hl (by decide) rfl (fun ls hl => ?_)
              exact ih.2.2 v5 v6 v7 r_175 f_160 f_176 _ _ _ gf_p2 (gi_w g_163 (by decide)) (by first | (rw [← ef_160]; exact hF) | ((try rw [← ef_160]); exact hF)) (by omega) hP hD hS (lv_sub hl [1, 2, 3, 4, 5, 6, 7, 8, 0] rfl)
    · intro v5 v6 v7 v8 z3 z4 H locs ls gf_p2 gv7 hF hmu hP hD hS hl
      have hF : dfX12_countsWith_146 mi fm_must fm_least fm_pin fm_ways p1 p2 p3 p4 (lfX12_countsWith mi fm_must fm_least fm_pin fm_ways p1 p2 p3 p4 z) v5 v6 v8 z3 z4 = RES := hF
      refine lv_iload_n hx hb (dk_at dkX12_countsWith 85 rfl) rfl (lv_at hl 3 rfl) ?_
      refine lv_iconst (v := (-1)) hx hb (dk_at dkX12_countsWith 86 rfl) (by decide) ?_
      refine lv_icmp_eq (tgt := 159) hx hb (dk_at dkX12_countsWith 87 rfl) (by decide) (fun c_177 => ?_) (fun c_177 => ?_)
      · have hF := gf_pos c_177 hF
        have g_178 : gi p3 (-1) (-1) := gi_eq c_177 (gi_c (-1) (-1) (by decide))
        refine lv_aload_n hx hb (dk_at dkX12_countsWith 93 rfl) rfl (lv_at hl 0 rfl) ?_
        refine va_get (D := (dC, dI)) (ci := 12) (v := .ref (mr 16)) (C := RX12) (T := TX12) (N := 57) hx hb hts (fun w h => List.mem_cons_of_mem _ (jnGB_X12 w h)) hown hK hP 0 rfl rfl 36 (by decide) (hts _ (List.mem_cons_of_mem _ mGB_28)) (fun _ h9 => h9) rfl (dk_at dkX12_countsWith 94 rfl) ?_
        refine lv_iload_n hx hb (dk_at dkX12_countsWith 95 rfl) rfl (lv_at hl 1 rfl) ?_
        refine lv_iload hx hb (dk_at dkX12_countsWith 96 rfl) (lv_at hl 5 rfl) ?_
        refine va_iast hx hb hK hP hD hS 17 16 rfl rfl (gi_in gp1 (by decide)) (dk_at dkX12_countsWith 97 rfl) (fun H locs hP hD hS => ?_)
        obtain ⟨hP, hD⟩ := gz_both (w := (MWn h0 mr km (mi 0) (mi 1) (mi 2) (mi 3) (mi 4) (mi 5) (mi 6) (mi 7) (mi 10) (mi 17) (mi 23) (mi 24) (mi 26) (mi 27) (mi 28) (mi 29) (mi 30) (mi 31) (mi 32) (mi 33) (mi 37) (mi 41) (mi 42) (mi 43) (mi 44) (mi 45) (mi 47) (mi 48) (mi 49) (mi 50) (mi 51) (mi 54) (mi 56) fm_trust fm_letter fm_reportPlace fm_reportKind fm_struck fm_reportMonth fm_reportDay fm_reportKnown fm_deedMonth fm_deedDay fm_deedLong fm_deedKind fm_kept fm_tape fm_must fm_least (upd z3 (p1 : Int32).toNatClampNeg v5) z4 fm_verdict fm_row fm_official fm_aside fm_worth fm_out)) hP hD
        generalize ef_179 : upd z3 (p1 : Int32).toNatClampNeg v5 = f_179 at hP hD
        refine lv_iload hx hb (dk_at dkX12_countsWith 98 rfl) (lv_at hl 8 rfl) ?_
        exact kr169 v8 f_179 z4 _ _ _ (by first | (rw [← ef_179]; exact hF) | ((try rw [← ef_179]); exact hF)) hP hD hS (lv_sub hl [] rfl)
      · have hF := gf_neg c_177 hF
        have g_180 : gi p3 0 24 := gi_ne_lo c_177 gp3 (gi_c (-1) (-1) (by decide)) (by decide)
        refine lv_aload_n hx hb (dk_at dkX12_countsWith 88 rfl) rfl (lv_at hl 0 rfl) ?_
        refine va_get (D := (dC, dI)) (ci := 12) (v := .ref (mr 16)) (C := RX12) (T := TX12) (N := 57) hx hb hts (fun w h => List.mem_cons_of_mem _ (jnGB_X12 w h)) hown hK hP 0 rfl rfl 36 (by decide) (hts _ (List.mem_cons_of_mem _ mGB_28)) (fun _ h9 => h9) rfl (dk_at dkX12_countsWith 89 rfl) ?_
        refine lv_iload_n hx hb (dk_at dkX12_countsWith 90 rfl) rfl (lv_at hl 3 rfl) ?_
        refine lv_iload hx hb (dk_at dkX12_countsWith 91 rfl) (lv_at hl 6 rfl) ?_
        refine va_iast hx hb hK hP hD hS 17 16 rfl rfl (gi_in g_180 (by decide)) (dk_at dkX12_countsWith 92 rfl) (fun H locs hP hD hS => ?_)
        obtain ⟨hP, hD⟩ := gz_both (w := (MWn h0 mr km (mi 0) (mi 1) (mi 2) (mi 3) (mi 4) (mi 5) (mi 6) (mi 7) (mi 10) (mi 17) (mi 23) (mi 24) (mi 26) (mi 27) (mi 28) (mi 29) (mi 30) (mi 31) (mi 32) (mi 33) (mi 37) (mi 41) (mi 42) (mi 43) (mi 44) (mi 45) (mi 47) (mi 48) (mi 49) (mi 50) (mi 51) (mi 54) (mi 56) fm_trust fm_letter fm_reportPlace fm_reportKind fm_struck fm_reportMonth fm_reportDay fm_reportKnown fm_deedMonth fm_deedDay fm_deedLong fm_deedKind fm_kept fm_tape fm_must fm_least (upd z3 (p3 : Int32).toNatClampNeg v6) z4 fm_verdict fm_row fm_official fm_aside fm_worth fm_out)) hP hD
        generalize ef_181 : upd z3 (p3 : Int32).toNatClampNeg v6 = f_181 at hP hD
        refine lv_aload_n hx hb (dk_at dkX12_countsWith 93 rfl) rfl (lv_at hl 0 rfl) ?_
        refine va_get (D := (dC, dI)) (ci := 12) (v := .ref (mr 16)) (C := RX12) (T := TX12) (N := 57) hx hb hts (fun w h => List.mem_cons_of_mem _ (jnGB_X12 w h)) hown hK hP 0 rfl rfl 36 (by decide) (hts _ (List.mem_cons_of_mem _ mGB_28)) (fun _ h9 => h9) rfl (dk_at dkX12_countsWith 94 rfl) ?_
        refine lv_iload_n hx hb (dk_at dkX12_countsWith 95 rfl) rfl (lv_at hl 1 rfl) ?_
        refine lv_iload hx hb (dk_at dkX12_countsWith 96 rfl) (lv_at hl 5 rfl) ?_
        refine va_iast hx hb hK hP hD hS 17 16 rfl rfl (gi_in gp1 (by decide)) (dk_at dkX12_countsWith 97 rfl) (fun H locs hP hD hS => ?_)
        obtain ⟨hP, hD⟩ := gz_both (w := (MWn h0 mr km (mi 0) (mi 1) (mi 2) (mi 3) (mi 4) (mi 5) (mi 6) (mi 7) (mi 10) (mi 17) (mi 23) (mi 24) (mi 26) (mi 27) (mi 28) (mi 29) (mi 30) (mi 31) (mi 32) (mi 33) (mi 37) (mi 41) (mi 42) (mi 43) (mi 44) (mi 45) (mi 47) (mi 48) (mi 49) (mi 50) (mi 51) (mi 54) (mi 56) fm_trust fm_letter fm_reportPlace fm_reportKind fm_struck fm_reportMonth fm_reportDay fm_reportKnown fm_deedMonth fm_deedDay fm_deedLong fm_deedKind fm_kept fm_tape fm_must fm_least (upd f_181 (p1 : Int32).toNatClampNeg v5) z4 fm_verdict fm_row fm_official fm_aside fm_worth fm_out)) hP hD
        generalize ef_182 : upd f_181 (p1 : Int32).toNatClampNeg v5 = f_182 at hP hD
        refine lv_iload hx hb (dk_at dkX12_countsWith 98 rfl) (lv_at hl 8 rfl) ?_
        exact kr169 v8 f_182 z4 _ _ _ (by first | (rw [← ef_182, ← ef_181]; exact hF) | ((try rw [← ef_182]); (try rw [← ef_181]); exact hF)) hP hD hS (lv_sub hl [] rfl)
abbrev pb_sX12_countsWith (dC : Nat → ClassId) (dI : Nat → Nat → Nat) (A9 : Nat → Prop) (h0 : Nat) (mi : Nat → Int32) (mr : Nat → Nat) (km : Nat → ClassId) (fm_must : Nat → Int32) (fm_least : Nat → Int32) (fm_pin : Nat → Int32) (fm_ways : Nat → Int32) (fm_trust : Nat → Int32) (fm_letter : Nat → Int32) (fm_reportPlace : Nat → Int32) (fm_reportKind : Nat → Int32) (fm_struck : Nat → Int32) (fm_reportMonth : Nat → Int32) (fm_reportDay : Nat → Int32) (fm_reportKnown : Nat → Int32) (fm_deedMonth : Nat → Int32) (fm_deedDay : Nat → Int32) (fm_deedLong : Nat → Int32) (fm_deedKind : Nat → Int32) (fm_kept : Nat → Int32) (fm_tape : Nat → Int32) (fm_verdict : Nat → Int32) (fm_row : Nat → Int32) (fm_official : Nat → Int32) (fm_aside : Nat → Int32) (fm_worth : Nat → Int32) (fm_out : Nat → Int32) (p1 : Int32) (p2 : Int32) (p3 : Int32) (p4 : Int32) (r : Int32) (z3 : Nat → Int32) (z4 : Nat → Int32) (t : State) : Prop := (r, z3, z4) = fX12_countsWith mi fm_must fm_least fm_pin fm_ways p1 p2 p3 p4 ∧ va_P (dC, dI) vwCl (MWn h0 mr km (mi 0) (mi 1) (mi 2) (mi 3) (mi 4) (mi 5) (mi 6) (mi 7) (mi 10) (mi 17) (mi 23) (mi 24) (mi 26) (mi 27) (mi 28) (mi 29) (mi 30) (mi 31) (mi 32) (mi 33) (mi 37) (mi 41) (mi 42) (mi 43) (mi 44) (mi 45) (mi 47) (mi 48) (mi 49) (mi 50) (mi 51) (mi 54) (mi 56) fm_trust fm_letter fm_reportPlace fm_reportKind fm_struck fm_reportMonth fm_reportDay fm_reportKnown fm_deedMonth fm_deedDay fm_deedLong fm_deedKind fm_kept fm_tape fm_must fm_least z3 z4 fm_verdict fm_row fm_official fm_aside fm_worth fm_out) t.heap ∧ va_D A9 (MWn h0 mr km (mi 0) (mi 1) (mi 2) (mi 3) (mi 4) (mi 5) (mi 6) (mi 7) (mi 10) (mi 17) (mi 23) (mi 24) (mi 26) (mi 27) (mi 28) (mi 29) (mi 30) (mi 31) (mi 32) (mi 33) (mi 37) (mi 41) (mi 42) (mi 43) (mi 44) (mi 45) (mi 47) (mi 48) (mi 49) (mi 50) (mi 51) (mi 54) (mi 56) fm_trust fm_letter fm_reportPlace fm_reportKind fm_struck fm_reportMonth fm_reportDay fm_reportKnown fm_deedMonth fm_deedDay fm_deedLong fm_deedKind fm_kept fm_tape fm_must fm_least z3 z4 fm_verdict fm_row fm_official fm_aside fm_worth fm_out)
set_option maxHeartbeats 4000000 in
set_option maxRecDepth 100000 in
theorem sX12_countsWith (l : Launch) (dC : Nat → ClassId) (dI : Nat → Nat → Nat) (sz : Nat) (h0 : Nat) (mi : Nat → Int32) (mr : Nat → Nat) (km : Nat → ClassId) (fm_must : Nat → Int32) (fm_least : Nat → Int32) (fm_pin : Nat → Int32) (fm_ways : Nat → Int32) (fm_trust : Nat → Int32) (fm_letter : Nat → Int32) (fm_reportPlace : Nat → Int32) (fm_reportKind : Nat → Int32) (fm_struck : Nat → Int32) (fm_reportMonth : Nat → Int32) (fm_reportDay : Nat → Int32) (fm_reportKnown : Nat → Int32) (fm_deedMonth : Nat → Int32) (fm_deedDay : Nat → Int32) (fm_deedLong : Nat → Int32) (fm_deedKind : Nat → Int32) (fm_kept : Nat → Int32) (fm_tape : Nat → Int32) (fm_verdict : Nat → Int32) (fm_row : Nat → Int32) (fm_official : Nat → Int32) (fm_aside : Nat → Int32) (fm_worth : Nat → Int32) (fm_out : Nat → Int32) (p1 : Int32) (p2 : Int32) (p3 : Int32) (p4 : Int32) (gmi_0 : gi (mi 0) 0 24) (gmi_1 : gi (mi 1) 0 5) (gmi_2 : gi (mi 2) 0 5) (gmi_4 : gi (mi 4) 0 1) (gmi_7 : gi (mi 7) 0 6) (gmi_10 : gi (mi 10) 0 24) (gmi_17 : gi (mi 17) 0 8) (gmi_23 : gi (mi 23) 0 300) (gmi_24 : gi (mi 24) 0 1) (gmi_26 : gi (mi 26) 0 1600) (gmi_29 : gi (mi 29) 0 1600) (gmi_30 : gi (mi 30) 0 1600) (gmi_33 : gi (mi 33) 0 1) (gmi_37 : gi (mi 37) 0 1) (gmi_41 : gi (mi 41) 0 24) (gmi_50 : gi (mi 50) 0 1) (gmi_51 : gi (mi 51) 0 1) (gmi_56 : gi (mi 56) 0 80) (gp1 : gi p1 0 24) (gp3 : gi p3 (-1) 24) : Met l yX12_countsWith (.code yX12_countsWith cX12_countsWith 9 (some .int) :: wsGB) ({ frames := 3, cells := 0, slots := 0, locals := 73 }) (va_Pc [.ref h0, .int p1, .int p2, .int p3, .int p4] (fun U => U.heap.size = sz ∧ va_P (dC, dI) vwCl (MWn h0 mr km (mi 0) (mi 1) (mi 2) (mi 3) (mi 4) (mi 5) (mi 6) (mi 7) (mi 10) (mi 17) (mi 23) (mi 24) (mi 26) (mi 27) (mi 28) (mi 29) (mi 30) (mi 31) (mi 32) (mi 33) (mi 37) (mi 41) (mi 42) (mi 43) (mi 44) (mi 45) (mi 47) (mi 48) (mi 49) (mi 50) (mi 51) (mi 54) (mi 56) fm_trust fm_letter fm_reportPlace fm_reportKind fm_struck fm_reportMonth fm_reportDay fm_reportKnown fm_deedMonth fm_deedDay fm_deedLong fm_deedKind fm_kept fm_tape fm_must fm_least fm_pin fm_ways fm_verdict fm_row fm_official fm_aside fm_worth fm_out) U.heap ∧ va_K (dC, dI) vwCl (MT km) U ∧ va_D (fun _ => True) (MWn h0 mr km (mi 0) (mi 1) (mi 2) (mi 3) (mi 4) (mi 5) (mi 6) (mi 7) (mi 10) (mi 17) (mi 23) (mi 24) (mi 26) (mi 27) (mi 28) (mi 29) (mi 30) (mi 31) (mi 32) (mi 33) (mi 37) (mi 41) (mi 42) (mi 43) (mi 44) (mi 45) (mi 47) (mi 48) (mi 49) (mi 50) (mi 51) (mi 54) (mi 56) fm_trust fm_letter fm_reportPlace fm_reportKind fm_struck fm_reportMonth fm_reportDay fm_reportKnown fm_deedMonth fm_deedDay fm_deedLong fm_deedKind fm_kept fm_tape fm_must fm_least fm_pin fm_ways fm_verdict fm_row fm_official fm_aside fm_worth fm_out))) (va_Qi (fun (r : Int32) (u : Int32) => r = u ∧ gi r (-2147483648) 2147483647) (fun r t => ∃ (z3 : Nat → Int32) (z4 : Nat → Int32), pb_sX12_countsWith dC dI (va_A (MWn h0 mr km (mi 0) (mi 1) (mi 2) (mi 3) (mi 4) (mi 5) (mi 6) (mi 7) (mi 10) (mi 17) (mi 23) (mi 24) (mi 26) (mi 27) (mi 28) (mi 29) (mi 30) (mi 31) (mi 32) (mi 33) (mi 37) (mi 41) (mi 42) (mi 43) (mi 44) (mi 45) (mi 47) (mi 48) (mi 49) (mi 50) (mi 51) (mi 54) (mi 56) fm_trust fm_letter fm_reportPlace fm_reportKind fm_struck fm_reportMonth fm_reportDay fm_reportKnown fm_deedMonth fm_deedDay fm_deedLong fm_deedKind fm_kept fm_tape fm_must fm_least fm_pin fm_ways fm_verdict fm_row fm_official fm_aside fm_worth fm_out) sz) h0 mi mr km fm_must fm_least fm_pin fm_ways fm_trust fm_letter fm_reportPlace fm_reportKind fm_struck fm_reportMonth fm_reportDay fm_reportKnown fm_deedMonth fm_deedDay fm_deedLong fm_deedKind fm_kept fm_tape fm_verdict fm_row fm_official fm_aside fm_worth fm_out p1 p2 p3 p4 r z3 z4 t) (va_A (MWn h0 mr km (mi 0) (mi 1) (mi 2) (mi 3) (mi 4) (mi 5) (mi 6) (mi 7) (mi 10) (mi 17) (mi 23) (mi 24) (mi 26) (mi 27) (mi 28) (mi 29) (mi 30) (mi 31) (mi 32) (mi 33) (mi 37) (mi 41) (mi 42) (mi 43) (mi 44) (mi 45) (mi 47) (mi 48) (mi 49) (mi 50) (mi 51) (mi 54) (mi 56) fm_trust fm_letter fm_reportPlace fm_reportKind fm_struck fm_reportMonth fm_reportDay fm_reportKnown fm_deedMonth fm_deedDay fm_deedLong fm_deedKind fm_kept fm_tape fm_must fm_least fm_pin fm_ways fm_verdict fm_row fm_official fm_aside fm_worth fm_out) sz)) 0 0 (va_A (MWn h0 mr km (mi 0) (mi 1) (mi 2) (mi 3) (mi 4) (mi 5) (mi 6) (mi 7) (mi 10) (mi 17) (mi 23) (mi 24) (mi 26) (mi 27) (mi 28) (mi 29) (mi 30) (mi 31) (mi 32) (mi 33) (mi 37) (mi 41) (mi 42) (mi 43) (mi 44) (mi 45) (mi 47) (mi 48) (mi 49) (mi 50) (mi 51) (mi 54) (mi 56) fm_trust fm_letter fm_reportPlace fm_reportKind fm_struck fm_reportMonth fm_reportDay fm_reportKnown fm_deedMonth fm_deedDay fm_deedLong fm_deedKind fm_kept fm_tape fm_must fm_least fm_pin fm_ways fm_verdict fm_row fm_official fm_aside fm_worth fm_out) sz) := by
  refine Met.ofW (cc := cX12_countsWith) (maxL := 9) (ret := (some .int)) (by decide) rfl ?_
  intro p e s m args below meth c s₁ B hml hv
  obtain ⟨rfl, hsz, hP, hK, hD0⟩ := hv
  have hx := B.exec
  have hb := B.bytes
  have hr := B.returns
  have hts := atoms_spec (ws := (.code yX12_countsWith cX12_countsWith 9 (some .int) :: wsGB)) B.pre
  have hown : s.vm.findClass RX12 = some m.cls := findClass_of_methodNamed B.named
  have hlocks := B.notSynchronized
  subst hsz
  have hD := hD0.self (sz := s.heap.size)
  generalize hAe : va_A (MWn h0 mr km (mi 0) (mi 1) (mi 2) (mi 3) (mi 4) (mi 5) (mi 6) (mi 7) (mi 10) (mi 17) (mi 23) (mi 24) (mi 26) (mi 27) (mi 28) (mi 29) (mi 30) (mi 31) (mi 32) (mi 33) (mi 37) (mi 41) (mi 42) (mi 43) (mi 44) (mi 45) (mi 47) (mi 48) (mi 49) (mi 50) (mi 51) (mi 54) (mi 56) fm_trust fm_letter fm_reportPlace fm_reportKind fm_struck fm_reportMonth fm_reportDay fm_reportKnown fm_deedMonth fm_deedDay fm_deedLong fm_deedKind fm_kept fm_tape fm_must fm_least fm_pin fm_ways fm_verdict fm_row fm_official fm_aside fm_worth fm_out) s.heap.size = A at hD ⊢
  have hA : ∀ q : Nat, s.heap.size ≤ q → A q := fun q h => by rw [← hAe]; exact Or.inr h
  have hS : va_S A s.heap s.heap [] := va_S.rf
  have hl := lv_entry ([.ref h0, .int p1, .int p2, .int p3, .int p4]) (n := 9) (Nat.le_of_ble_eq_true rfl)
  rw [lg_entry_eq]
  generalize (lg_sl ([.ref h0, .int p1, .int p2, .int p3, .int p4]) ++ List.replicate (9 - (lg_sl ([.ref h0, .int p1, .int p2, .int p3, .int p4])).length) Slot.unset).toArray = ls at hl ⊢
  have hl : lv_has ls 9 [(0, .ref h0), (1, .int p1), (2, .int p2), (3, .int p3), (4, .int p4)] := hl
  obtain ⟨RES, hF⟩ : ∃ R9, fX12_countsWith mi fm_must fm_least fm_pin fm_ways p1 p2 p3 p4 = R9 := ⟨_, rfl⟩
  have hR9 := hF
  refine lv_iload_n hx hb (dk_at dkX12_countsWith 0 rfl) rfl (lv_at hl 2 rfl) ?_
  refine lv_i2l (v := (p2).toInt64) hx hb (dk_at dkX12_countsWith 1 rfl) rfl ?_
  refine lv_topl (fun l_183 el_183 => ?_)
  refine lv_bipush (v := 29) hx hb (dk_at dkX12_countsWith 2 rfl) (by decide) ?_
  refine lv_iload_n hx hb (dk_at dkX12_countsWith 3 rfl) rfl (lv_at hl 1 rfl) ?_
  refine lv_imul hx hb (dk_at dkX12_countsWith 4 rfl) ?_
  refine lv_topi (fun x_184 ex_184 => ?_)
  have gx_184 : gi x_184 0 696 := gi_mul ex_184 (gi_c 29 29 (by decide)) gp1 (by decide)
  refine lv_i2l (v := (x_184).toInt64) hx hb (dk_at dkX12_countsWith 5 rfl) rfl ?_
  refine lv_topl (fun l_185 el_185 => ?_)
  refine lv_bipush (v := 30) hx hb (dk_at dkX12_countsWith 6 rfl) (by decide) ?_
  refine lv_iload_n hx hb (dk_at dkX12_countsWith 7 rfl) rfl (lv_at hl 1 rfl) ?_
  refine lv_imul hx hb (dk_at dkX12_countsWith 8 rfl) ?_
  refine lv_topi (fun x_186 ex_186 => ?_)
  have gx_186 : gi x_186 0 720 := gi_mul ex_186 (gi_c 30 30 (by decide)) gp1 (by decide)
  refine lv_i2l (v := (x_186).toInt64) hx hb (dk_at dkX12_countsWith 9 rfl) rfl ?_
  refine lv_topl (fun l_187 el_187 => ?_)
  have hPc := hP.sub (ws' := []) [] rfl
  have hKc := hK.sub (tys' := []) [] rfl
  refine va_calli (va_runS (As := [.long l_183, .long l_185, .long l_187]) (rest := []) ⟨hx, hb, hml, hown, hts⟩ (sX12_in l dC dI l_183 l_185 l_187) (cwS 3 hts (gz_gS mGB_47 mGB_48 mGB_1 mGB_49 goodGB) rfl rfl rfl hdS_X12_in_X12_3 ⟨Nat.le_of_ble_eq_true rfl, Nat.le_of_ble_eq_true rfl⟩) ⟨bl_R, fun U hU hW => ⟨rfl, by rw [hU]; exact hPc, va_K.moved hW.alike hKc⟩⟩ rfl rfl hl.1 rfl (lv_room (Nat.le_of_ble_eq_true rfl)) (dk_at dkX12_countsWith 10 rfl) ⟨Nat.zero_le _, Nat.zero_le _⟩) hS (fun q _ h => h.elim) (fun q h => h.elim) (fun r_188 u t H1 locs ht hvm hw hB hz1 hk1 hS => ?_)
  obtain ⟨hw, hE⟩ := hw
  have hP := gz_keep hP hk1
  have hF := gf_call (a := r_188) (by rw [el_187, ex_186, el_185, ex_184, el_183] at hE; exact hE) hF
  generalize H1 = H at hP hS ⊢
  have gr_188 : gi r_188 0 1 := hw.1
  have hqr_188 := hw.2
  refine lv_if_eq (tgt := 38) hx hb (dk_at dkX12_countsWith 11 rfl) (by decide) (fun c_189 => ?_) (fun c_189 => ?_)
  · have hF := gf_pos c_189 hF
    have g_190 : gi r_188 0 0 := gi_eq c_189 (gi_c 0 0 (by decide))
    refine lv_iconst (v := 0) hx hb (dk_at dkX12_countsWith 24 rfl) (by decide) ?_
    exact W.iret (v := 0) hx hb hr (fun t ht hW => ⟨⟨0, 0, rfl, ⟨rfl, (gi_any 0)⟩, fm_pin, fm_ways, hF.trans hR9.symm, by rw [ht]; exact hP, hD⟩, hS.F ht⟩) hS.2.2 (dk_at dkX12_countsWith 25 rfl)
  · have hF := gf_neg c_189 hF
    have g_191 : gi r_188 1 1 := gi_ne_lo c_189 gr_188 (gi_c 0 0 (by decide)) (by decide)
    have g_192 : gi p2 0 720 := gi_cap (gi_any p2) (gz_inr (hqr_188.1 (gz_one g_191)) el_183 (A := 0) (B := 720) (gz_l2l el_185 gx_184) (gz_l2u el_187 gx_186)) (by decide)
    refine lv_aload_n hx hb (dk_at dkX12_countsWith 12 rfl) rfl (lv_at hl 0 rfl) ?_
    refine va_get (D := (dC, dI)) (ci := 12) (v := .ref (mr 16)) (C := RX12) (T := TX12) (N := 57) hx hb hts (fun w h => List.mem_cons_of_mem _ (jnGB_X12 w h)) hown hK hP 0 rfl rfl 36 (by decide) (hts _ (List.mem_cons_of_mem _ mGB_28)) (fun _ h9 => h9) rfl (dk_at dkX12_countsWith 13 rfl) ?_
    refine lv_iload_n hx hb (dk_at dkX12_countsWith 14 rfl) rfl (lv_at hl 1 rfl) ?_
    refine va_iald hx hb hK hP 17 16 rfl rfl (gi_in gp1 (by decide)) (dk_at dkX12_countsWith 15 rfl) ?_
    refine lv_topi (fun x_193 ex_193 => ?_)
    refine lv_iconst (v := (-1)) hx hb (dk_at dkX12_countsWith 16 rfl) (by decide) ?_
    refine lv_icmp_eq (tgt := 40) hx hb (dk_at dkX12_countsWith 17 rfl) (by decide) (fun c_194 => ?_) (fun c_194 => ?_)
    · have hF := gf_pos (by rw [ex_193] at c_194; exact c_194) hF
      have g_195 : gi x_193 (-1) (-1) := gi_eq c_194 (gi_c (-1) (-1) (by decide))
      refine lv_aload_n hx hb (dk_at dkX12_countsWith 26 rfl) rfl (lv_at hl 0 rfl) ?_
      refine va_get (D := (dC, dI)) (ci := 12) (v := .ref (mr 16)) (C := RX12) (T := TX12) (N := 57) hx hb hts (fun w h => List.mem_cons_of_mem _ (jnGB_X12 w h)) hown hK hP 0 rfl rfl 36 (by decide) (hts _ (List.mem_cons_of_mem _ mGB_28)) (fun _ h9 => h9) rfl (dk_at dkX12_countsWith 27 rfl) ?_
      refine lv_iload_n hx hb (dk_at dkX12_countsWith 28 rfl) rfl (lv_at hl 1 rfl) ?_
      refine va_iald hx hb hK hP 17 16 rfl rfl (gi_in gp1 (by decide)) (dk_at dkX12_countsWith 29 rfl) ?_
      refine lv_topi (fun x_196 ex_196 => ?_)
      refine lv_istore (lv' := [(5, .int x_196), (0, .ref h0), (1, .int p1), (2, .int p2), (3, .int p3), (4, .int p4)]) hx hb (dk_at dkX12_countsWith 30 rfl) hl (by decide) rfl (fun ls hl => ?_)
      refine lv_aload_n hx hb (dk_at dkX12_countsWith 31 rfl) rfl (lv_at hl 1 rfl) ?_
      refine va_get (D := (dC, dI)) (ci := 12) (v := .ref (mr 16)) (C := RX12) (T := TX12) (N := 57) hx hb hts (fun w h => List.mem_cons_of_mem _ (jnGB_X12 w h)) hown hK hP 0 rfl rfl 36 (by decide) (hts _ (List.mem_cons_of_mem _ mGB_28)) (fun _ h9 => h9) rfl (dk_at dkX12_countsWith 32 rfl) ?_
      refine lv_iload_n hx hb (dk_at dkX12_countsWith 33 rfl) rfl (lv_at hl 2 rfl) ?_
      refine lv_iload_n hx hb (dk_at dkX12_countsWith 34 rfl) rfl (lv_at hl 3 rfl) ?_
      refine va_iast hx hb hK hP hD hS 17 16 rfl rfl (gi_in gp1 (by decide)) (dk_at dkX12_countsWith 35 rfl) (fun H locs hP hD hS => ?_)
      obtain ⟨hP, hD⟩ := gz_both (w := (MWn h0 mr km (mi 0) (mi 1) (mi 2) (mi 3) (mi 4) (mi 5) (mi 6) (mi 7) (mi 10) (mi 17) (mi 23) (mi 24) (mi 26) (mi 27) (mi 28) (mi 29) (mi 30) (mi 31) (mi 32) (mi 33) (mi 37) (mi 41) (mi 42) (mi 43) (mi 44) (mi 45) (mi 47) (mi 48) (mi 49) (mi 50) (mi 51) (mi 54) (mi 56) fm_trust fm_letter fm_reportPlace fm_reportKind fm_struck fm_reportMonth fm_reportDay fm_reportKnown fm_deedMonth fm_deedDay fm_deedLong fm_deedKind fm_kept fm_tape fm_must fm_least (upd fm_pin (p1 : Int32).toNatClampNeg p2) fm_ways fm_verdict fm_row fm_official fm_aside fm_worth fm_out)) hP hD
      generalize ef_197 : upd fm_pin (p1 : Int32).toNatClampNeg p2 = f_197 at hP hD
      refine lv_iload_n hx hb (dk_at dkX12_countsWith 36 rfl) rfl (lv_at hl 4 rfl) ?_
      refine lv_iconst (v := (-1)) hx hb (dk_at dkX12_countsWith 37 rfl) (by decide) ?_
      refine lv_icmp_ne (tgt := 64) hx hb (dk_at dkX12_countsWith 38 rfl) (by decide) (fun c_198 => ?_) (fun c_198 => ?_)
      · have hF := gf_neg c_198 hF
        have g_199 : gi p3 0 24 := gi_ne_lo c_198 gp3 (gi_c (-1) (-1) (by decide)) (by decide)
        refine lv_aload_n hx hb (dk_at dkX12_countsWith 41 rfl) rfl (lv_at hl 1 rfl) ?_
        refine va_get (D := (dC, dI)) (ci := 12) (v := .ref (mr 16)) (C := RX12) (T := TX12) (N := 57) hx hb hts (fun w h => List.mem_cons_of_mem _ (jnGB_X12 w h)) hown hK hP 0 rfl rfl 36 (by decide) (hts _ (List.mem_cons_of_mem _ mGB_28)) (fun _ h9 => h9) rfl (dk_at dkX12_countsWith 42 rfl) ?_
        refine lv_iload_n hx hb (dk_at dkX12_countsWith 43 rfl) rfl (lv_at hl 4 rfl) ?_
        refine va_iald hx hb hK hP 17 16 rfl rfl (gi_in g_199 (by decide)) (dk_at dkX12_countsWith 44 rfl) ?_
        refine lv_topi (fun x_200 ex_200 => ?_)
        refine lv_istore (lv' := [(6, .int x_200), (5, .int x_196), (0, .ref h0), (1, .int p1), (2, .int p2), (3, .int p3), (4, .int p4)]) hx hb (dk_at dkX12_countsWith 45 rfl) hl (by decide) rfl (fun ls hl => ?_)
        refine (lp_sX12_countsWith (RES := RES) h0 mi mr km fm_must fm_least fm_pin fm_ways fm_trust fm_letter fm_reportPlace fm_reportKind fm_struck fm_reportMonth fm_reportDay fm_reportKnown fm_deedMonth fm_deedDay fm_deedLong fm_deedKind fm_kept fm_tape fm_verdict fm_row fm_official fm_aside fm_worth fm_out p1 p2 p3 p4 gmi_0 gmi_1 gmi_2 gmi_4 gmi_7 gmi_10 gmi_17 gmi_23 gmi_24 gmi_26 gmi_29 gmi_30 gmi_33 gmi_37 gmi_41 gmi_50 gmi_51 gmi_56 gp1 gp3 hx hb hml hown hts hK hA (Nat.le_of_ble_eq_true rfl) (Nat.le_of_ble_eq_true rfl) (Nat.zero_le _) (Nat.zero_le _) (fun v z3 z4 H locs ls gv hF hP hD hS hl => ?_) (fun v z3 z4 H locs ls hF hP hD hS hl => ?_) 1000000000).1 x_196 x_200 f_197 _ _ _ g_192 (by first | (rw [ex_200, ← ef_197, ex_196]; exact hF) | ((try rw [ex_200]); (try rw [← ef_197]); (try rw [ex_196]); exact hF)) (by omega) hP hD hS (lv_sub hl [2, 3, 4, 5, 6, 1, 0] rfl)
        · skip
          exact W.iret (v := v) hx hb hr (fun t ht hW => ⟨⟨v, v, rfl, ⟨rfl, (gi_any v)⟩, z3, z4, hF.trans hR9.symm, by rw [ht]; exact hP, hD⟩, hS.F ht⟩) hS.2.2 (dk_at dkX12_countsWith 25 rfl)
        · skip
          exact W.iret (v := v) hx hb hr (fun t ht hW => ⟨⟨v, v, rfl, ⟨rfl, (gi_any v)⟩, z3, z4, hF.trans hR9.symm, by rw [ht]; exact hP, hD⟩, hS.F ht⟩) hS.2.2 (dk_at dkX12_countsWith 99 rfl)
      · have hF := gf_pos c_198 hF
        have g_201 : gi p3 (-1) (-1) := gi_eq c_198 (gi_c (-1) (-1) (by decide))
        refine lv_iconst (v := (-1)) hx hb (dk_at dkX12_countsWith 39 rfl) (by decide) ?_
        refine lv_goto (tgt := 70) hx hb (dk_at dkX12_countsWith 40 rfl) (by decide) ?_
        refine lv_istore (lv' := [(6, .int (-1)), (5, .int x_196), (0, .ref h0), (1, .int p1), (2, .int p2), (3, .int p3), (4, .int p4)]) hx hb (dk_at dkX12_countsWith 45 rfl) hl (by decide) rfl (fun ls hl => ?_)
        refine (lp_sX12_countsWith (RES := RES) h0 mi mr km fm_must fm_least fm_pin fm_ways fm_trust fm_letter fm_reportPlace fm_reportKind fm_struck fm_reportMonth fm_reportDay fm_reportKnown fm_deedMonth fm_deedDay fm_deedLong fm_deedKind fm_kept fm_tape fm_verdict fm_row fm_official fm_aside fm_worth fm_out p1 p2 p3 p4 gmi_0 gmi_1 gmi_2 gmi_4 gmi_7 gmi_10 gmi_17 gmi_23 gmi_24 gmi_26 gmi_29 gmi_30 gmi_33 gmi_37 gmi_41 gmi_50 gmi_51 gmi_56 gp1 gp3 hx hb hml hown hts hK hA (Nat.le_of_ble_eq_true rfl) (Nat.le_of_ble_eq_true rfl) (Nat.zero_le _) (Nat.zero_le _) (fun v z3 z4 H locs ls gv hF hP hD hS hl => ?_) (fun v z3 z4 H locs ls hF hP hD hS hl => ?_) 1000000000).1 x_196 (-1) f_197 _ _ _ g_192 (by first | (rw [← ef_197, ex_196]; exact hF) | ((try rw [← ef_197]); (try rw [ex_196]); exact hF)) (by omega) hP hD hS (lv_sub hl [2, 3, 4, 5, 6, 1, 0] rfl)
        · skip
          exact W.iret (v := v) hx hb hr (fun t ht hW => ⟨⟨v, v, rfl, ⟨rfl, (gi_any v)⟩, z3, z4, hF.trans hR9.symm, by rw [ht]; exact hP, hD⟩, hS.F ht⟩) hS.2.2 (dk_at dkX12_countsWith 25 rfl)
        · skip
          exact W.iret (v := v) hx hb hr (fun t ht hW => ⟨⟨v, v, rfl, ⟨rfl, (gi_any v)⟩, z3, z4, hF.trans hR9.symm, by rw [ht]; exact hP, hD⟩, hS.F ht⟩) hS.2.2 (dk_at dkX12_countsWith 99 rfl)
    · have hF := gf_neg (by rw [ex_193] at c_194; exact c_194) hF
      refine lv_aload_n hx hb (dk_at dkX12_countsWith 18 rfl) rfl (lv_at hl 0 rfl) ?_
      refine va_get (D := (dC, dI)) (ci := 12) (v := .ref (mr 16)) (C := RX12) (T := TX12) (N := 57) hx hb hts (fun w h => List.mem_cons_of_mem _ (jnGB_X12 w h)) hown hK hP 0 rfl rfl 36 (by decide) (hts _ (List.mem_cons_of_mem _ mGB_28)) (fun _ h9 => h9) rfl (dk_at dkX12_countsWith 19 rfl) ?_
      refine lv_iload_n hx hb (dk_at dkX12_countsWith 20 rfl) rfl (lv_at hl 1 rfl) ?_
      refine va_iald hx hb hK hP 17 16 rfl rfl (gi_in gp1 (by decide)) (dk_at dkX12_countsWith 21 rfl) ?_
      refine lv_topi (fun x_202 ex_202 => ?_)
      refine lv_iload_n hx hb (dk_at dkX12_countsWith 22 rfl) rfl (lv_at hl 2 rfl) ?_
      refine lv_icmp_eq (tgt := 40) hx hb (dk_at dkX12_countsWith 23 rfl) (by decide) (fun c_203 => ?_) (fun c_203 => ?_)
      · have hF := gf_pos (by rw [ex_202] at c_203; exact c_203) hF
        have g_204 : gi x_202 0 720 := gi_eq c_203 g_192
        refine lv_aload_n hx hb (dk_at dkX12_countsWith 26 rfl) rfl (lv_at hl 0 rfl) ?_
        refine va_get (D := (dC, dI)) (ci := 12) (v := .ref (mr 16)) (C := RX12) (T := TX12) (N := 57) hx hb hts (fun w h => List.mem_cons_of_mem _ (jnGB_X12 w h)) hown hK hP 0 rfl rfl 36 (by decide) (hts _ (List.mem_cons_of_mem _ mGB_28)) (fun _ h9 => h9) rfl (dk_at dkX12_countsWith 27 rfl) ?_
        refine lv_iload_n hx hb (dk_at dkX12_countsWith 28 rfl) rfl (lv_at hl 1 rfl) ?_
        refine va_iald hx hb hK hP 17 16 rfl rfl (gi_in gp1 (by decide)) (dk_at dkX12_countsWith 29 rfl) ?_
        refine lv_topi (fun x_205 ex_205 => ?_)
        refine lv_istore (lv' := [(5, .int x_205), (0, .ref h0), (1, .int p1), (2, .int p2), (3, .int p3), (4, .int p4)]) hx hb (dk_at dkX12_countsWith 30 rfl) hl (by decide) rfl (fun ls hl => ?_)
        refine lv_aload_n hx hb (dk_at dkX12_countsWith 31 rfl) rfl (lv_at hl 1 rfl) ?_
        refine va_get (D := (dC, dI)) (ci := 12) (v := .ref (mr 16)) (C := RX12) (T := TX12) (N := 57) hx hb hts (fun w h => List.mem_cons_of_mem _ (jnGB_X12 w h)) hown hK hP 0 rfl rfl 36 (by decide) (hts _ (List.mem_cons_of_mem _ mGB_28)) (fun _ h9 => h9) rfl (dk_at dkX12_countsWith 32 rfl) ?_
        refine lv_iload_n hx hb (dk_at dkX12_countsWith 33 rfl) rfl (lv_at hl 2 rfl) ?_
        refine lv_iload_n hx hb (dk_at dkX12_countsWith 34 rfl) rfl (lv_at hl 3 rfl) ?_
        refine va_iast hx hb hK hP hD hS 17 16 rfl rfl (gi_in gp1 (by decide)) (dk_at dkX12_countsWith 35 rfl) (fun H locs hP hD hS => ?_)
        obtain ⟨hP, hD⟩ := gz_both (w := (MWn h0 mr km (mi 0) (mi 1) (mi 2) (mi 3) (mi 4) (mi 5) (mi 6) (mi 7) (mi 10) (mi 17) (mi 23) (mi 24) (mi 26) (mi 27) (mi 28) (mi 29) (mi 30) (mi 31) (mi 32) (mi 33) (mi 37) (mi 41) (mi 42) (mi 43) (mi 44) (mi 45) (mi 47) (mi 48) (mi 49) (mi 50) (mi 51) (mi 54) (mi 56) fm_trust fm_letter fm_reportPlace fm_reportKind fm_struck fm_reportMonth fm_reportDay fm_reportKnown fm_deedMonth fm_deedDay fm_deedLong fm_deedKind fm_kept fm_tape fm_must fm_least (upd fm_pin (p1 : Int32).toNatClampNeg p2) fm_ways fm_verdict fm_row fm_official fm_aside fm_worth fm_out)) hP hD
        generalize ef_206 : upd fm_pin (p1 : Int32).toNatClampNeg p2 = f_206 at hP hD
        refine lv_iload_n hx hb (dk_at dkX12_countsWith 36 rfl) rfl (lv_at hl 4 rfl) ?_
        refine lv_iconst (v := (-1)) hx hb (dk_at dkX12_countsWith 37 rfl) (by decide) ?_
        refine lv_icmp_ne (tgt := 64) hx hb (dk_at dkX12_countsWith 38 rfl) (by decide) (fun c_207 => ?_) (fun c_207 => ?_)
        · have hF := gf_neg c_207 hF
          have g_208 : gi p3 0 24 := gi_ne_lo c_207 gp3 (gi_c (-1) (-1) (by decide)) (by decide)
          refine lv_aload_n hx hb (dk_at dkX12_countsWith 41 rfl) rfl (lv_at hl 1 rfl) ?_
          refine va_get (D := (dC, dI)) (ci := 12) (v := .ref (mr 16)) (C := RX12) (T := TX12) (N := 57) hx hb hts (fun w h => List.mem_cons_of_mem _ (jnGB_X12 w h)) hown hK hP 0 rfl rfl 36 (by decide) (hts _ (List.mem_cons_of_mem _ mGB_28)) (fun _ h9 => h9) rfl (dk_at dkX12_countsWith 42 rfl) ?_
          refine lv_iload_n hx hb (dk_at dkX12_countsWith 43 rfl) rfl (lv_at hl 4 rfl) ?_
          refine va_iald hx hb hK hP 17 16 rfl rfl (gi_in g_208 (by decide)) (dk_at dkX12_countsWith 44 rfl) ?_
          refine lv_topi (fun x_209 ex_209 => ?_)
          refine lv_istore (lv' := [(6, .int x_209), (5, .int x_205), (0, .ref h0), (1, .int p1), (2, .int p2), (3, .int p3), (4, .int p4)]) hx hb (dk_at dkX12_countsWith 45 rfl) hl (by decide) rfl (fun ls hl => ?_)
          refine (lp_sX12_countsWith (RES := RES) h0 mi mr km fm_must fm_least fm_pin fm_ways fm_trust fm_letter fm_reportPlace fm_reportKind fm_struck fm_reportMonth fm_reportDay fm_reportKnown fm_deedMonth fm_deedDay fm_deedLong fm_deedKind fm_kept fm_tape fm_verdict fm_row fm_official fm_aside fm_worth fm_out p1 p2 p3 p4 gmi_0 gmi_1 gmi_2 gmi_4 gmi_7 gmi_10 gmi_17 gmi_23 gmi_24 gmi_26 gmi_29 gmi_30 gmi_33 gmi_37 gmi_41 gmi_50 gmi_51 gmi_56 gp1 gp3 hx hb hml hown hts hK hA (Nat.le_of_ble_eq_true rfl) (Nat.le_of_ble_eq_true rfl) (Nat.zero_le _) (Nat.zero_le _) (fun v z3 z4 H locs ls gv hF hP hD hS hl => ?_) (fun v z3 z4 H locs ls hF hP hD hS hl => ?_) 1000000000).1 x_205 x_209 f_206 _ _ _ g_192 (by first | (rw [ex_209, ← ef_206, ex_205]; exact hF) | ((try rw [ex_209]); (try rw [← ef_206]); (try rw [ex_205]); exact hF)) (by omega) hP hD hS (lv_sub hl [2, 3, 4, 5, 6, 1, 0] rfl)
          · skip
            exact W.iret (v := v) hx hb hr (fun t ht hW => ⟨⟨v, v, rfl, ⟨rfl, (gi_any v)⟩, z3, z4, hF.trans hR9.symm, by rw [ht]; exact hP, hD⟩, hS.F ht⟩) hS.2.2 (dk_at dkX12_countsWith 25 rfl)
          · skip
            exact W.iret (v := v) hx hb hr (fun t ht hW => ⟨⟨v, v, rfl, ⟨rfl, (gi_any v)⟩, z3, z4, hF.trans hR9.symm, by rw [ht]; exact hP, hD⟩, hS.F ht⟩) hS.2.2 (dk_at dkX12_countsWith 99 rfl)
        · have hF := gf_pos c_207 hF
          have g_210 : gi p3 (-1) (-1) := gi_eq c_207 (gi_c (-1) (-1) (by decide))
          refine lv_iconst (v := (-1)) hx hb (dk_at dkX12_countsWith 39 rfl) (by decide) ?_
          refine lv_goto (tgt := 70) hx hb (dk_at dkX12_countsWith 40 rfl) (by decide) ?_
          refine lv_istore (lv' := [(6, .int (-1)), (5, .int x_205), (0, .ref h0), (1, .int p1), (2, .int p2), (3, .int p3), (4, .int p4)]) hx hb (dk_at dkX12_countsWith 45 rfl) hl (by decide) rfl (fun ls hl => ?_)
          refine (lp_sX12_countsWith (RES := RES) h0 mi mr km fm_must fm_least fm_pin fm_ways fm_trust fm_letter fm_reportPlace fm_reportKind fm_struck fm_reportMonth fm_reportDay fm_reportKnown fm_deedMonth fm_deedDay fm_deedLong fm_deedKind fm_kept fm_tape fm_verdict fm_row fm_official fm_aside fm_worth fm_out p1 p2 p3 p4 gmi_0 gmi_1 gmi_2 gmi_4 gmi_7 gmi_10 gmi_17 gmi_23 gmi_24 gmi_26 gmi_29 gmi_30 gmi_33 gmi_37 gmi_41 gmi_50 gmi_51 gmi_56 gp1 gp3 hx hb hml hown hts hK hA (Nat.le_of_ble_eq_true rfl) (Nat.le_of_ble_eq_true rfl) (Nat.zero_le _) (Nat.zero_le _) (fun v z3 z4 H locs ls gv hF hP hD hS hl => ?_) (fun v z3 z4 H locs ls hF hP hD hS hl => ?_) 1000000000).1 x_205 (-1) f_206 _ _ _ g_192 (by first | (rw [← ef_206, ex_205]; exact hF) | ((try rw [← ef_206]); (try rw [ex_205]); exact hF)) (by omega) hP hD hS (lv_sub hl [2, 3, 4, 5, 6, 1, 0] rfl)
          · skip
            exact W.iret (v := v) hx hb hr (fun t ht hW => ⟨⟨v, v, rfl, ⟨rfl, (gi_any v)⟩, z3, z4, hF.trans hR9.symm, by rw [ht]; exact hP, hD⟩, hS.F ht⟩) hS.2.2 (dk_at dkX12_countsWith 25 rfl)
          · skip
            exact W.iret (v := v) hx hb hr (fun t ht hW => ⟨⟨v, v, rfl, ⟨rfl, (gi_any v)⟩, z3, z4, hF.trans hR9.symm, by rw [ht]; exact hP, hD⟩, hS.F ht⟩) hS.2.2 (dk_at dkX12_countsWith 99 rfl)
      · have hF := gf_neg (by rw [ex_202] at c_203; exact c_203) hF
        refine lv_iconst (v := 0) hx hb (dk_at dkX12_countsWith 24 rfl) (by decide) ?_
        exact W.iret (v := 0) hx hb hr (fun t ht hW => ⟨⟨0, 0, rfl, ⟨rfl, (gi_any 0)⟩, fm_pin, fm_ways, hF.trans hR9.symm, by rw [ht]; exact hP, hD⟩, hS.F ht⟩) hS.2.2 (dk_at dkX12_countsWith 25 rfl)
noncomputable def lsX12_isNameAhead : List (Nat × Instr × Nat) := [(0, .iconst 0, 1), (1, .istore_n 3, 1), (2, .iload_n 3, 1), (3, .bipush 6, 2), (5, .if_icmp .ge 55, 3), (8, .aload_n 0, 1), (9, .getfield 13, 3), (12, .bipush 6, 2), (14, .iload_n 1, 1), (15, .imul, 1), (16, .iload_n 3, 1), (17, .iadd, 1), (18, .iaload, 1), (19, .istore 4, 2), (21, .aload_n 0, 1), (22, .getfield 13, 3), (25, .bipush 6, 2), (27, .iload_n 2, 1), (28, .imul, 1), (29, .iload_n 3, 1), (30, .iadd, 1), (31, .iaload, 1), (32, .istore 5, 2), (34, .iload 4, 2), (36, .iload 5, 2), (38, .if_icmp .eq 16, 3), (41, .iload 4, 2), (43, .iload 5, 2), (45, .if_icmp .ge 7, 3), (48, .iconst 1, 1), (49, .goto 4, 3), (52, .iconst 0, 1), (53, .ireturn, 1), (54, .iinc 3 1, 3), (57, .goto (-55), 3), (60, .iconst 0, 1), (61, .ireturn, 1)]
theorem dkX12_isNameAhead : dkAll cX12_isNameAhead lsX12_isNameAhead = true := dk_fast (by decide +kernel)
noncomputable def bfX12_isNameAhead_53 (fm_letter : Nat → Int32) (p1 : Int32) (p2 : Int32) (K : (Int32 → Int32)) (s0 : Int32) : Int32 := s0
noncomputable def dfX12_isNameAhead_2 (fm_letter : Nat → Int32) (p1 : Int32) (p2 : Int32) (K : (Int32 → Int32)) (v3 : Int32) : Int32 := if (6 : Int32) ≤ v3 then (0 : Int32) else (if (fm_letter (((6 : Int32) * p1) + v3).toNatClampNeg) = (fm_letter (((6 : Int32) * p2) + v3).toNatClampNeg) then (K (v3 + (1 : Int32))) else (if (fm_letter (((6 : Int32) * p2) + v3).toNatClampNeg) ≤ (fm_letter (((6 : Int32) * p1) + v3).toNatClampNeg) then (bfX12_isNameAhead_53 fm_letter p1 p2 K (0 : Int32)) else (bfX12_isNameAhead_53 fm_letter p1 p2 K (1 : Int32))))
noncomputable def lfX12_isNameAhead (fm_letter : Nat → Int32) (p1 : Int32) (p2 : Int32) (z : Nat) : (Int32 → Int32) := Nat.rec (motive := fun _ => (Int32 → Int32)) (fun _ => (0)) (fun _ K => dfX12_isNameAhead_2 fm_letter p1 p2 K) z
noncomputable def fX12_isNameAhead (fm_letter : Nat → Int32) (p1 : Int32) (p2 : Int32) : Int32 := (lfX12_isNameAhead fm_letter p1 p2 1000000000) (0 : Int32)
set_option maxHeartbeats 4000000 in
set_option maxRecDepth 100000 in
theorem lp_sX12_isNameAhead {p : Program} {l : Launch} {e : Env} {R : Room} {s : State} {m : MethodId} {args : Array Value} {below : List Frame} {meth : Method} {c : Code} {Q : State → Prop} {A : Nat → Prop} {cells slots : Nat} {dC : Nat → ClassId} {dI : Nat → Nat → Nat} {RES : Int32} (h0 : Nat) (mi : Nat → Int32) (mr : Nat → Nat) (km : Nat → ClassId) (fm_letter : Nat → Int32) (fm_trust : Nat → Int32) (fm_reportPlace : Nat → Int32) (fm_reportKind : Nat → Int32) (fm_struck : Nat → Int32) (fm_reportMonth : Nat → Int32) (fm_reportDay : Nat → Int32) (fm_reportKnown : Nat → Int32) (fm_deedMonth : Nat → Int32) (fm_deedDay : Nat → Int32) (fm_deedLong : Nat → Int32) (fm_deedKind : Nat → Int32) (fm_kept : Nat → Int32) (fm_tape : Nat → Int32) (fm_must : Nat → Int32) (fm_least : Nat → Int32) (fm_pin : Nat → Int32) (fm_ways : Nat → Int32) (fm_verdict : Nat → Int32) (fm_row : Nat → Int32) (fm_official : Nat → Int32) (fm_aside : Nat → Int32) (fm_worth : Nat → Int32) (fm_out : Nat → Int32) (p1 : Int32) (p2 : Int32) (gmi_0 : gi (mi 0) 0 24) (gmi_1 : gi (mi 1) 0 5) (gmi_2 : gi (mi 2) 0 5) (gmi_4 : gi (mi 4) 0 1) (gmi_7 : gi (mi 7) 0 6) (gmi_10 : gi (mi 10) 0 24) (gmi_17 : gi (mi 17) 0 8) (gmi_23 : gi (mi 23) 0 300) (gmi_24 : gi (mi 24) 0 1) (gmi_26 : gi (mi 26) 0 1600) (gmi_29 : gi (mi 29) 0 1600) (gmi_30 : gi (mi 30) 0 1600) (gmi_33 : gi (mi 33) 0 1) (gmi_37 : gi (mi 37) 0 1) (gmi_41 : gi (mi 41) 0 24) (gmi_50 : gi (mi 50) 0 1) (gmi_51 : gi (mi 51) 0 1) (gmi_56 : gi (mi 56) 0 80) (gp1 : gi p1 0 5) (gp2 : gi p2 0 5) (hx : p.tables.exec = Jvm.exec) (hb : c.code = cX12_isNameAhead) (hml : c.maxLocals = 6) (hown : s.vm.findClass RX12 = some m.cls) (hts : ∀ w ∈ ((.code yX12_isNameAhead cX12_isNameAhead 6 (some .boolean) :: wsGB) : List Cond), w.before args s = true) (hK : va_K (dC, dI) vwCl (MT km) s) (hRf : 0 ≤ R.frames) (hRl : 0 ≤ R.locals) (hRc : cells ≤ R.cells) (hRs : slots ≤ R.slots) (kr61 : ∀ (v : Int32) (H : Heap) (locs : List Loc) (ls : Array Slot), gi v 0 0 → v = RES → va_P (dC, dI) vwCl (MWn h0 mr km (mi 0) (mi 1) (mi 2) (mi 3) (mi 4) (mi 5) (mi 6) (mi 7) (mi 10) (mi 17) (mi 23) (mi 24) (mi 26) (mi 27) (mi 28) (mi 29) (mi 30) (mi 31) (mi 32) (mi 33) (mi 37) (mi 41) (mi 42) (mi 43) (mi 44) (mi 45) (mi 47) (mi 48) (mi 49) (mi 50) (mi 51) (mi 54) (mi 56) fm_trust fm_letter fm_reportPlace fm_reportKind fm_struck fm_reportMonth fm_reportDay fm_reportKnown fm_deedMonth fm_deedDay fm_deedLong fm_deedKind fm_kept fm_tape fm_must fm_least fm_pin fm_ways fm_verdict fm_row fm_official fm_aside fm_worth fm_out) H → va_S A s.heap H locs → lv_has ls 6 [] → W p l e R s m args below meth c H locs cells slots Q (F0 m 61 ls [.int v])) (kr53 : ∀ (v : Int32) (H : Heap) (locs : List Loc) (ls : Array Slot), gi v 0 1 → v = RES → va_P (dC, dI) vwCl (MWn h0 mr km (mi 0) (mi 1) (mi 2) (mi 3) (mi 4) (mi 5) (mi 6) (mi 7) (mi 10) (mi 17) (mi 23) (mi 24) (mi 26) (mi 27) (mi 28) (mi 29) (mi 30) (mi 31) (mi 32) (mi 33) (mi 37) (mi 41) (mi 42) (mi 43) (mi 44) (mi 45) (mi 47) (mi 48) (mi 49) (mi 50) (mi 51) (mi 54) (mi 56) fm_trust fm_letter fm_reportPlace fm_reportKind fm_struck fm_reportMonth fm_reportDay fm_reportKnown fm_deedMonth fm_deedDay fm_deedLong fm_deedKind fm_kept fm_tape fm_must fm_least fm_pin fm_ways fm_verdict fm_row fm_official fm_aside fm_worth fm_out) H → va_S A s.heap H locs → lv_has ls 6 [] → W p l e R s m args below meth c H locs cells slots Q (F0 m 53 ls [.int v])) : ∀ z : Nat, (∀ (v3 : Int32) (H : Heap) (locs : List Loc) (ls : Array Slot), gi v3 0 6 → (lfX12_isNameAhead fm_letter p1 p2 z) v3 = RES → 13 + (-2) * v3.toInt < (z : Int) → va_P (dC, dI) vwCl (MWn h0 mr km (mi 0) (mi 1) (mi 2) (mi 3) (mi 4) (mi 5) (mi 6) (mi 7) (mi 10) (mi 17) (mi 23) (mi 24) (mi 26) (mi 27) (mi 28) (mi 29) (mi 30) (mi 31) (mi 32) (mi 33) (mi 37) (mi 41) (mi 42) (mi 43) (mi 44) (mi 45) (mi 47) (mi 48) (mi 49) (mi 50) (mi 51) (mi 54) (mi 56) fm_trust fm_letter fm_reportPlace fm_reportKind fm_struck fm_reportMonth fm_reportDay fm_reportKnown fm_deedMonth fm_deedDay fm_deedLong fm_deedKind fm_kept fm_tape fm_must fm_least fm_pin fm_ways fm_verdict fm_row fm_official fm_aside fm_worth fm_out) H → va_S A s.heap H locs → lv_has ls 6 [(0, .ref h0), (1, .int p1), (2, .int p2), (3, .int v3)] → W p l e R s m args below meth c H locs cells slots Q (F0 m 2 ls [])) := by
  intro z
  induction z with
  | zero =>
    intro v3 H locs ls gv3 hF hmu hP hS hl
    exact absurd hmu (by have hv31 := gv3.1; have hv32 := gv3.2; omega)
  | succ z ih =>
      intro v3 H locs ls gv3 hF hmu hP hS hl
      have hF : dfX12_isNameAhead_2 fm_letter p1 p2 (lfX12_isNameAhead fm_letter p1 p2 z) v3 = RES := hF
      refine lv_iload_n hx hb (dk_at dkX12_isNameAhead 2 rfl) rfl (lv_at hl 3 rfl) ?_
      refine lv_bipush (v := 6) hx hb (dk_at dkX12_isNameAhead 3 rfl) (by decide) ?_
      refine lv_icmp_ge (tgt := 60) hx hb (dk_at dkX12_isNameAhead 4 rfl) (by decide) (fun c_87 => ?_) (fun c_87 => ?_)
      · have hF := gf_pos c_87 hF
        have g_88 : gi v3 6 6 := gi_le_r c_87 (gi_c 6 6 (by decide)) gv3
        refine lv_iconst (v := 0) hx hb (dk_at dkX12_isNameAhead 35 rfl) (by decide) ?_
        exact kr61 0 _ _ _ (gi_c 0 0 (by decide)) hF hP hS (lv_sub hl [] rfl)
      · have hF := gf_neg c_87 hF
        have g_89 : gi v3 0 5 := gi_lt_l (Int32.not_le.mp c_87) gv3 (gi_c 6 6 (by decide)) (by decide)
        refine lv_aload_n hx hb (dk_at dkX12_isNameAhead 5 rfl) rfl (lv_at hl 0 rfl) ?_
        refine va_get (D := (dC, dI)) (ci := 12) (v := .ref (mr 1)) (C := RX12) (T := TX12) (N := 57) hx hb hts (fun w h => List.mem_cons_of_mem _ (jnGB_X12 w h)) hown hK hP 0 rfl rfl 9 (by decide) (hts _ (List.mem_cons_of_mem _ mGB_11)) (fun _ h9 => h9) rfl (dk_at dkX12_isNameAhead 6 rfl) ?_
        refine lv_bipush (v := 6) hx hb (dk_at dkX12_isNameAhead 7 rfl) (by decide) ?_
        refine lv_iload_n hx hb (dk_at dkX12_isNameAhead 8 rfl) rfl (lv_at hl 1 rfl) ?_
        refine lv_imul hx hb (dk_at dkX12_isNameAhead 9 rfl) ?_
        refine lv_topi (fun x_90 ex_90 => ?_)
        have gx_90 : gi x_90 0 30 := gi_mul ex_90 (gi_c 6 6 (by decide)) gp1 (by decide)
        refine lv_iload_n hx hb (dk_at dkX12_isNameAhead 10 rfl) rfl (lv_at hl 3 rfl) ?_
        refine lv_iadd hx hb (dk_at dkX12_isNameAhead 11 rfl) ?_
        refine lv_topi (fun x_91 ex_91 => ?_)
        have gx_91 : gi x_91 0 35 := gi_add ex_91 gx_90 g_89 (by decide)
        refine va_iald hx hb hK hP 2 1 rfl rfl (gi_in gx_91 (by decide)) (dk_at dkX12_isNameAhead 12 rfl) ?_
        refine lv_topi (fun x_92 ex_92 => ?_)
        refine lv_istore (lv' := [(4, .int x_92), (0, .ref h0), (1, .int p1), (2, .int p2), (3, .int v3)]) hx hb (dk_at dkX12_isNameAhead 13 rfl) hl (by decide) rfl (fun ls hl => ?_)
        refine lv_aload_n hx hb (dk_at dkX12_isNameAhead 14 rfl) rfl (lv_at hl 1 rfl) ?_
        refine va_get (D := (dC, dI)) (ci := 12) (v := .ref (mr 1)) (C := RX12) (T := TX12) (N := 57) hx hb hts (fun w h => List.mem_cons_of_mem _ (jnGB_X12 w h)) hown hK hP 0 rfl rfl 9 (by decide) (hts _ (List.mem_cons_of_mem _ mGB_11)) (fun _ h9 => h9) rfl (dk_at dkX12_isNameAhead 15 rfl) ?_
        refine lv_bipush (v := 6) hx hb (dk_at dkX12_isNameAhead 16 rfl) (by decide) ?_
        refine lv_iload_n hx hb (dk_at dkX12_isNameAhead 17 rfl) rfl (lv_at hl 3 rfl) ?_
        refine lv_imul hx hb (dk_at dkX12_isNameAhead 18 rfl) ?_
        refine lv_topi (fun x_93 ex_93 => ?_)
        have gx_93 : gi x_93 0 30 := gi_mul ex_93 (gi_c 6 6 (by decide)) gp2 (by decide)
        refine lv_iload_n hx hb (dk_at dkX12_isNameAhead 19 rfl) rfl (lv_at hl 4 rfl) ?_
        refine lv_iadd hx hb (dk_at dkX12_isNameAhead 20 rfl) ?_
        refine lv_topi (fun x_94 ex_94 => ?_)
        have gx_94 : gi x_94 0 35 := gi_add ex_94 gx_93 g_89 (by decide)
        refine va_iald hx hb hK hP 2 1 rfl rfl (gi_in gx_94 (by decide)) (dk_at dkX12_isNameAhead 21 rfl) ?_
        refine lv_topi (fun x_95 ex_95 => ?_)
        refine lv_istore (lv' := [(5, .int x_95), (4, .int x_92), (0, .ref h0), (1, .int p1), (2, .int p2), (3, .int v3)]) hx hb (dk_at dkX12_isNameAhead 22 rfl) hl (by decide) rfl (fun ls hl => ?_)
        refine lv_iload hx hb (dk_at dkX12_isNameAhead 23 rfl) (lv_at hl 1 rfl) ?_
        refine lv_iload hx hb (dk_at dkX12_isNameAhead 24 rfl) (lv_at hl 0 rfl) ?_
        refine lv_icmp_eq (tgt := 54) hx hb (dk_at dkX12_isNameAhead 25 rfl) (by decide) (fun c_96 => ?_) (fun c_96 => ?_)
        · have hF := gf_pos (by rw [ex_95, ex_94, ex_93, ex_92, ex_91, ex_90] at c_96; exact c_96) hF
          obtain ⟨x_97, ex_97⟩ : ∃ y : Int32, y = v3 + 1 := ⟨_, rfl⟩
          have gx_97 : gi x_97 1 6 := gi_add ex_97 g_89 (gi_c 1 1 (by decide)) (by decide)
          refine lv_iinc (v := x_97) (lv' := [(3, .int x_97), (5, .int x_95), (4, .int x_92), (0, .ref h0), (1, .int p1), (2, .int p2)]) hx hb (dk_at dkX12_isNameAhead 33 rfl) hl (k := 5) rfl (by rw [ex_97]; rfl) (by decide) rfl (fun ls hl => ?_)
          refine lv_goto (tgt := 2) hx hb (dk_at dkX12_isNameAhead 34 rfl) (by decide) ?_
          exact ih x_97 _ _ _ (gi_w gx_97 (by decide)) (by first | (rw [ex_97]; exact hF) | ((try rw [ex_97]); exact hF)) (by have av3 := gv3.1; have bv3 := gv3.2; have qgx_97 := gx_97.1; have rgx_97 := gx_97.2; have igx_97 : x_97.toInt = v3.toInt + 1 := (by have hc1 : (1 : Int32).toInt = 1 := (by decide); have h9 := gi_addE ex_97 g_89 (gi_c 1 1 (by decide)) (by decide); rw [hc1] at h9; exact h9); have qgv3 := g_89.1; have rgv3 := g_89.2; omega) hP hS (lv_sub hl [3, 4, 5, 0] rfl)
        · have hF := gf_neg (by rw [ex_95, ex_94, ex_93, ex_92, ex_91, ex_90] at c_96; exact c_96) hF
          refine lv_iload hx hb (dk_at dkX12_isNameAhead 26 rfl) (lv_at hl 1 rfl) ?_
          refine lv_iload hx hb (dk_at dkX12_isNameAhead 27 rfl) (lv_at hl 0 rfl) ?_
          refine lv_icmp_ge (tgt := 52) hx hb (dk_at dkX12_isNameAhead 28 rfl) (by decide) (fun c_98 => ?_) (fun c_98 => ?_)
          · have hF := gf_pos (by rw [ex_95, ex_94, ex_93, ex_92, ex_91, ex_90] at c_98; exact c_98) hF
            refine lv_iconst (v := 0) hx hb (dk_at dkX12_isNameAhead 31 rfl) (by decide) ?_
            exact kr53 0 _ _ _ (gi_w (gi_c 0 0 (by decide)) (by decide)) hF hP hS (lv_sub hl [] rfl)
          · have hF := gf_neg (by rw [ex_95, ex_94, ex_93, ex_92, ex_91, ex_90] at c_98; exact c_98) hF
            have g_99 : gi x_92 (-2147483648) 2147483646 := gi_lt_l (Int32.not_le.mp c_98) (gi_any x_92) (gi_any x_95) (by decide)
            have g_100 : gi x_95 (-2147483647) 2147483647 := gi_lt_r (Int32.not_le.mp c_98) (gi_any x_92) (gi_any x_95) (by decide)
            refine lv_iconst (v := 1) hx hb (dk_at dkX12_isNameAhead 29 rfl) (by decide) ?_
            refine lv_goto (tgt := 53) hx hb (dk_at dkX12_isNameAhead 30 rfl) (by decide) ?_
            exact kr53 1 _ _ _ (gi_w (gi_c 1 1 (by decide)) (by decide)) hF hP hS (lv_sub hl [] rfl)
set_option maxHeartbeats 4000000 in
set_option maxRecDepth 100000 in
theorem sX12_isNameAhead (l : Launch) (dC : Nat → ClassId) (dI : Nat → Nat → Nat) (h0 : Nat) (mi : Nat → Int32) (mr : Nat → Nat) (km : Nat → ClassId) (fm_letter : Nat → Int32) (fm_trust : Nat → Int32) (fm_reportPlace : Nat → Int32) (fm_reportKind : Nat → Int32) (fm_struck : Nat → Int32) (fm_reportMonth : Nat → Int32) (fm_reportDay : Nat → Int32) (fm_reportKnown : Nat → Int32) (fm_deedMonth : Nat → Int32) (fm_deedDay : Nat → Int32) (fm_deedLong : Nat → Int32) (fm_deedKind : Nat → Int32) (fm_kept : Nat → Int32) (fm_tape : Nat → Int32) (fm_must : Nat → Int32) (fm_least : Nat → Int32) (fm_pin : Nat → Int32) (fm_ways : Nat → Int32) (fm_verdict : Nat → Int32) (fm_row : Nat → Int32) (fm_official : Nat → Int32) (fm_aside : Nat → Int32) (fm_worth : Nat → Int32) (fm_out : Nat → Int32) (p1 : Int32) (p2 : Int32) (gmi_0 : gi (mi 0) 0 24) (gmi_1 : gi (mi 1) 0 5) (gmi_2 : gi (mi 2) 0 5) (gmi_4 : gi (mi 4) 0 1) (gmi_7 : gi (mi 7) 0 6) (gmi_10 : gi (mi 10) 0 24) (gmi_17 : gi (mi 17) 0 8) (gmi_23 : gi (mi 23) 0 300) (gmi_24 : gi (mi 24) 0 1) (gmi_26 : gi (mi 26) 0 1600) (gmi_29 : gi (mi 29) 0 1600) (gmi_30 : gi (mi 30) 0 1600) (gmi_33 : gi (mi 33) 0 1) (gmi_37 : gi (mi 37) 0 1) (gmi_41 : gi (mi 41) 0 24) (gmi_50 : gi (mi 50) 0 1) (gmi_51 : gi (mi 51) 0 1) (gmi_56 : gi (mi 56) 0 80) (gp1 : gi p1 0 5) (gp2 : gi p2 0 5) : Met l yX12_isNameAhead (.code yX12_isNameAhead cX12_isNameAhead 6 (some .boolean) :: wsGB) ({ frames := 0, cells := 0, slots := 0, locals := 0 }) (va_Pc [.ref h0, .int p1, .int p2] (fun U => va_P (dC, dI) vwCl (MWn h0 mr km (mi 0) (mi 1) (mi 2) (mi 3) (mi 4) (mi 5) (mi 6) (mi 7) (mi 10) (mi 17) (mi 23) (mi 24) (mi 26) (mi 27) (mi 28) (mi 29) (mi 30) (mi 31) (mi 32) (mi 33) (mi 37) (mi 41) (mi 42) (mi 43) (mi 44) (mi 45) (mi 47) (mi 48) (mi 49) (mi 50) (mi 51) (mi 54) (mi 56) fm_trust fm_letter fm_reportPlace fm_reportKind fm_struck fm_reportMonth fm_reportDay fm_reportKnown fm_deedMonth fm_deedDay fm_deedLong fm_deedKind fm_kept fm_tape fm_must fm_least fm_pin fm_ways fm_verdict fm_row fm_official fm_aside fm_worth fm_out) U.heap ∧ va_K (dC, dI) vwCl (MT km) U)) (va_Qi (fun (r : Int32) (u : Unit) => (gi r 0 1) ∧ r = fX12_isNameAhead fm_letter p1 p2) (fun _ _ => True) (fun _ => False)) 0 0 (fun _ => False) := by
  refine Met.ofW (cc := cX12_isNameAhead) (maxL := 6) (ret := (some .boolean)) (by decide) rfl ?_
  intro p e s m args below meth c s₁ B hml hv
  obtain ⟨rfl, hP, hK⟩ := hv
  have hx := B.exec
  have hb := B.bytes
  have hr := B.returns
  have hts := atoms_spec (ws := (.code yX12_isNameAhead cX12_isNameAhead 6 (some .boolean) :: wsGB)) B.pre
  have hown : s.vm.findClass RX12 = some m.cls := findClass_of_methodNamed B.named
  have hlocks := B.notSynchronized
  have hS : va_S (fun _ => False) s.heap s.heap [] := va_S.rf
  have hl := lv_entry ([.ref h0, .int p1, .int p2]) (n := 6) (Nat.le_of_ble_eq_true rfl)
  rw [lg_entry_eq]
  generalize (lg_sl ([.ref h0, .int p1, .int p2]) ++ List.replicate (6 - (lg_sl ([.ref h0, .int p1, .int p2])).length) Slot.unset).toArray = ls at hl ⊢
  have hl : lv_has ls 6 [(0, .ref h0), (1, .int p1), (2, .int p2)] := hl
  obtain ⟨RES, hF⟩ : ∃ R9, fX12_isNameAhead fm_letter p1 p2 = R9 := ⟨_, rfl⟩
  have hR9 := hF
  refine lv_iconst (v := 0) hx hb (dk_at dkX12_isNameAhead 0 rfl) (by decide) ?_
  refine lv_istore_n (lv' := [(3, .int 0), (0, .ref h0), (1, .int p1), (2, .int p2)]) hx hb (dk_at dkX12_isNameAhead 1 rfl) rfl hl (by decide) rfl (fun ls hl => ?_)
  refine (lp_sX12_isNameAhead h0 mi mr km fm_letter fm_trust fm_reportPlace fm_reportKind fm_struck fm_reportMonth fm_reportDay fm_reportKnown fm_deedMonth fm_deedDay fm_deedLong fm_deedKind fm_kept fm_tape fm_must fm_least fm_pin fm_ways fm_verdict fm_row fm_official fm_aside fm_worth fm_out p1 p2 gmi_0 gmi_1 gmi_2 gmi_4 gmi_7 gmi_10 gmi_17 gmi_23 gmi_24 gmi_26 gmi_29 gmi_30 gmi_33 gmi_37 gmi_41 gmi_50 gmi_51 gmi_56 gp1 gp2 hx hb hml hown hts hK (Nat.le_of_ble_eq_true rfl) (Nat.le_of_ble_eq_true rfl) (Nat.zero_le _) (Nat.zero_le _) (fun v H locs ls gv hF hP hS hl => ?_) (fun v H locs ls gv hF hP hS hl => ?_) 1000000000) 0 _ _ _ (gi_w (gi_c 0 0 (by decide)) (by decide)) hF (by have k0 : (0 : Int32).toInt = 0 := (by decide); omega) hP hS (lv_sub hl [1, 2, 3, 0] rfl)
  · skip
    exact W.zret (v := v) hx hb hr (gz_nb (gi_w gv (by decide))) (fun t ht hW => ⟨⟨v, (), rfl, ⟨(gi_w gv (by decide)), hF.trans hR9.symm⟩, trivial⟩, hS.F ht⟩) hS.2.2 (dk_at dkX12_isNameAhead 36 rfl)
  · skip
    exact W.zret (v := v) hx hb hr (gz_nb gv) (fun t ht hW => ⟨⟨v, (), rfl, ⟨gv, hF.trans hR9.symm⟩, trivial⟩, hS.F ht⟩) hS.2.2 (dk_at dkX12_isNameAhead 32 rfl)
noncomputable def lsX12_trustOf : List (Nat × Instr × Nat) := [(0, .iload_n 1, 1), (1, .aload_n 0, 1), (2, .getfield 84, 3), (5, .if_icmp .ne 10, 3), (8, .aload_n 0, 1), (9, .getfield 81, 3), (12, .goto 9, 3), (15, .aload_n 0, 1), (16, .getfield 7, 3), (19, .iload_n 1, 1), (20, .iaload, 1), (21, .ireturn, 1)]
theorem dkX12_trustOf : dkAll cX12_trustOf lsX12_trustOf = true := dk_fast (by decide +kernel)
noncomputable def bfX12_trustOf_21 (mi : Nat → Int32) (fm_trust : Nat → Int32) (p1 : Int32) (s0 : Int32) : Int32 := s0
noncomputable def fX12_trustOf (mi : Nat → Int32) (fm_trust : Nat → Int32) (p1 : Int32) : Int32 := if p1 = (mi 45) then (bfX12_trustOf_21 mi fm_trust p1 (mi 44)) else (bfX12_trustOf_21 mi fm_trust p1 (fm_trust p1.toNatClampNeg))
set_option maxHeartbeats 4000000 in
set_option maxRecDepth 100000 in
theorem sX12_trustOf (l : Launch) (dC : Nat → ClassId) (dI : Nat → Nat → Nat) (h0 : Nat) (mi : Nat → Int32) (mr : Nat → Nat) (km : Nat → ClassId) (fm_trust : Nat → Int32) (fm_letter : Nat → Int32) (fm_reportPlace : Nat → Int32) (fm_reportKind : Nat → Int32) (fm_struck : Nat → Int32) (fm_reportMonth : Nat → Int32) (fm_reportDay : Nat → Int32) (fm_reportKnown : Nat → Int32) (fm_deedMonth : Nat → Int32) (fm_deedDay : Nat → Int32) (fm_deedLong : Nat → Int32) (fm_deedKind : Nat → Int32) (fm_kept : Nat → Int32) (fm_tape : Nat → Int32) (fm_must : Nat → Int32) (fm_least : Nat → Int32) (fm_pin : Nat → Int32) (fm_ways : Nat → Int32) (fm_verdict : Nat → Int32) (fm_row : Nat → Int32) (fm_official : Nat → Int32) (fm_aside : Nat → Int32) (fm_worth : Nat → Int32) (fm_out : Nat → Int32) (p1 : Int32) (gmi_0 : gi (mi 0) 0 24) (gmi_1 : gi (mi 1) 0 5) (gmi_2 : gi (mi 2) 0 5) (gmi_4 : gi (mi 4) 0 1) (gmi_7 : gi (mi 7) 0 6) (gmi_10 : gi (mi 10) 0 24) (gmi_17 : gi (mi 17) 0 8) (gmi_23 : gi (mi 23) 0 300) (gmi_24 : gi (mi 24) 0 1) (gmi_26 : gi (mi 26) 0 1600) (gmi_29 : gi (mi 29) 0 1600) (gmi_30 : gi (mi 30) 0 1600) (gmi_33 : gi (mi 33) 0 1) (gmi_37 : gi (mi 37) 0 1) (gmi_41 : gi (mi 41) 0 24) (gmi_50 : gi (mi 50) 0 1) (gmi_51 : gi (mi 51) 0 1) (gmi_56 : gi (mi 56) 0 80) (gp1 : gi p1 0 5) : Met l yX12_trustOf (.code yX12_trustOf cX12_trustOf 2 (some .int) :: wsGB) ({ frames := 0, cells := 0, slots := 0, locals := 0 }) (va_Pc [.ref h0, .int p1] (fun U => va_P (dC, dI) vwCl (MWn h0 mr km (mi 0) (mi 1) (mi 2) (mi 3) (mi 4) (mi 5) (mi 6) (mi 7) (mi 10) (mi 17) (mi 23) (mi 24) (mi 26) (mi 27) (mi 28) (mi 29) (mi 30) (mi 31) (mi 32) (mi 33) (mi 37) (mi 41) (mi 42) (mi 43) (mi 44) (mi 45) (mi 47) (mi 48) (mi 49) (mi 50) (mi 51) (mi 54) (mi 56) fm_trust fm_letter fm_reportPlace fm_reportKind fm_struck fm_reportMonth fm_reportDay fm_reportKnown fm_deedMonth fm_deedDay fm_deedLong fm_deedKind fm_kept fm_tape fm_must fm_least fm_pin fm_ways fm_verdict fm_row fm_official fm_aside fm_worth fm_out) U.heap ∧ va_K (dC, dI) vwCl (MT km) U)) (va_Qi (fun (r : Int32) (u : Unit) => (gi r (-2147483648) 2147483647) ∧ r = fX12_trustOf mi fm_trust p1) (fun _ _ => True) (fun _ => False)) 0 0 (fun _ => False) := by
  refine Met.ofW (cc := cX12_trustOf) (maxL := 2) (ret := (some .int)) (by decide) rfl ?_
  intro p e s m args below meth c s₁ B hml hv
  obtain ⟨rfl, hP, hK⟩ := hv
  have hx := B.exec
  have hb := B.bytes
  have hr := B.returns
  have hts := atoms_spec (ws := (.code yX12_trustOf cX12_trustOf 2 (some .int) :: wsGB)) B.pre
  have hown : s.vm.findClass RX12 = some m.cls := findClass_of_methodNamed B.named
  have hlocks := B.notSynchronized
  have hS : va_S (fun _ => False) s.heap s.heap [] := va_S.rf
  have hl := lv_entry ([.ref h0, .int p1]) (n := 2) (Nat.le_of_ble_eq_true rfl)
  rw [lg_entry_eq]
  generalize (lg_sl ([.ref h0, .int p1]) ++ List.replicate (2 - (lg_sl ([.ref h0, .int p1])).length) Slot.unset).toArray = ls at hl ⊢
  have hl : lv_has ls 2 [(0, .ref h0), (1, .int p1)] := hl
  obtain ⟨RES, hF⟩ : ∃ R9, fX12_trustOf mi fm_trust p1 = R9 := ⟨_, rfl⟩
  have hR9 := hF
  refine lv_iload_n hx hb (dk_at dkX12_trustOf 0 rfl) rfl (lv_at hl 1 rfl) ?_
  refine lv_aload_n hx hb (dk_at dkX12_trustOf 1 rfl) rfl (lv_at hl 0 rfl) ?_
  refine va_get (D := (dC, dI)) (ci := 12) (v := .int (mi 45)) (C := RX12) (T := TX12) (N := 57) hx hb hts (fun w h => List.mem_cons_of_mem _ (jnGB_X12 w h)) hown hK hP 0 rfl rfl 45 (by decide) (hts _ (List.mem_cons_of_mem _ mGB_35)) (fun _ h9 => h9) rfl (dk_at dkX12_trustOf 2 rfl) ?_
  refine lv_icmp_ne (tgt := 15) hx hb (dk_at dkX12_trustOf 3 rfl) (by decide) (fun c_4 => ?_) (fun c_4 => ?_)
  · have hF := gf_neg c_4 hF
    refine lv_aload_n hx hb (dk_at dkX12_trustOf 7 rfl) rfl (lv_at hl 0 rfl) ?_
    refine va_get (D := (dC, dI)) (ci := 12) (v := .ref (mr 0)) (C := RX12) (T := TX12) (N := 57) hx hb hts (fun w h => List.mem_cons_of_mem _ (jnGB_X12 w h)) hown hK hP 0 rfl rfl 8 (by decide) (hts _ (List.mem_cons_of_mem _ mGB_10)) (fun _ h9 => h9) rfl (dk_at dkX12_trustOf 8 rfl) ?_
    refine lv_iload_n hx hb (dk_at dkX12_trustOf 9 rfl) rfl (lv_at hl 1 rfl) ?_
    refine va_iald hx hb hK hP 1 0 rfl rfl (gi_in gp1 (by decide)) (dk_at dkX12_trustOf 10 rfl) ?_
    refine lv_topi (fun x_5 ex_5 => ?_)
    exact W.iret (v := x_5) hx hb hr (fun t ht hW => ⟨⟨x_5, (), rfl, ⟨(gi_any x_5), by first | (rw [ex_5]; exact hF.trans hR9.symm) | ((try rw [ex_5]); exact hF.trans hR9.symm)⟩, trivial⟩, hS.F ht⟩) hS.2.2 (dk_at dkX12_trustOf 11 rfl)
  · have hF := gf_pos c_4 hF
    have g_6 : gi (mi 45) 0 5 := gi_eq c_4.symm gp1
    refine lv_aload_n hx hb (dk_at dkX12_trustOf 4 rfl) rfl (lv_at hl 0 rfl) ?_
    refine va_get (D := (dC, dI)) (ci := 12) (v := .int (mi 44)) (C := RX12) (T := TX12) (N := 57) hx hb hts (fun w h => List.mem_cons_of_mem _ (jnGB_X12 w h)) hown hK hP 0 rfl rfl 44 (by decide) (hts _ (List.mem_cons_of_mem _ mGB_34)) (fun _ h9 => h9) rfl (dk_at dkX12_trustOf 5 rfl) ?_
    refine lv_goto (tgt := 21) hx hb (dk_at dkX12_trustOf 6 rfl) (by decide) ?_
    exact W.iret (v := (mi 44)) hx hb hr (fun t ht hW => ⟨⟨(mi 44), (), rfl, ⟨(gi_any (mi 44)), hF.trans hR9.symm⟩, trivial⟩, hS.F ht⟩) hS.2.2 (dk_at dkX12_trustOf 11 rfl)
noncomputable def lsX12_isAhead : List (Nat × Instr × Nat) := [(0, .aload_n 0, 1), (1, .getfield 16, 3), (4, .iload_n 1, 1), (5, .iaload, 1), (6, .istore_n 3, 1), (7, .aload_n 0, 1), (8, .getfield 16, 3), (11, .iload_n 2, 1), (12, .iaload, 1), (13, .istore 4, 2), (15, .aload_n 0, 1), (16, .iload_n 3, 1), (17, .invokevirtual 335, 3), (20, .aload_n 0, 1), (21, .iload 4, 2), (23, .invokevirtual 335, 3), (26, .if_icmp .eq 23, 3), (29, .aload_n 0, 1), (30, .iload_n 3, 1), (31, .invokevirtual 335, 3), (34, .aload_n 0, 1), (35, .iload 4, 2), (37, .invokevirtual 335, 3), (40, .if_icmp .le 7, 3), (43, .iconst 1, 1), (44, .goto 4, 3), (47, .iconst 0, 1), (48, .ireturn, 1), (49, .iload_n 3, 1), (50, .iload 4, 2), (52, .if_icmp .eq 11, 3), (55, .aload_n 0, 1), (56, .iload_n 3, 1), (57, .iload 4, 2), (59, .invokevirtual 300, 3), (62, .ireturn, 1), (63, .aload_n 0, 1), (64, .getfield 26, 3), (67, .iload_n 1, 1), (68, .iaload, 1), (69, .aload_n 0, 1), (70, .getfield 26, 3), (73, .iload_n 2, 1), (74, .iaload, 1), (75, .if_icmp .eq 24, 3), (78, .aload_n 0, 1), (79, .getfield 26, 3), (82, .iload_n 1, 1), (83, .iaload, 1), (84, .aload_n 0, 1), (85, .getfield 26, 3), (88, .iload_n 2, 1), (89, .iaload, 1), (90, .if_icmp .ge 7, 3), (93, .iconst 1, 1), (94, .goto 4, 3), (97, .iconst 0, 1), (98, .ireturn, 1), (99, .aload_n 0, 1), (100, .getfield 29, 3), (103, .iload_n 1, 1), (104, .iaload, 1), (105, .aload_n 0, 1), (106, .getfield 29, 3), (109, .iload_n 2, 1), (110, .iaload, 1), (111, .if_icmp .eq 24, 3), (114, .aload_n 0, 1), (115, .getfield 29, 3), (118, .iload_n 1, 1), (119, .iaload, 1), (120, .aload_n 0, 1), (121, .getfield 29, 3), (124, .iload_n 2, 1), (125, .iaload, 1), (126, .if_icmp .ge 7, 3), (129, .iconst 1, 1), (130, .goto 4, 3), (133, .iconst 0, 1), (134, .ireturn, 1), (135, .aload_n 0, 1), (136, .getfield 19, 3), (139, .iload_n 1, 1), (140, .iaload, 1), (141, .aload_n 0, 1), (142, .getfield 19, 3), (145, .iload_n 2, 1), (146, .iaload, 1), (147, .if_icmp .eq 26, 3), (150, .aload_n 0, 1), (151, .getfield 19, 3), (154, .iload_n 1, 1), (155, .iaload, 1), (156, .aload_n 0, 1), (157, .getfield 19, 3), (160, .iload_n 2, 1), (161, .iaload, 1), (162, .if_icmp .ge 7, 3), (165, .iconst 1, 1), (166, .goto 17, 3), (169, .iconst 0, 1), (170, .goto 13, 3), (173, .iload_n 1, 1), (174, .iload_n 2, 1), (175, .if_icmp .ge 7, 3), (178, .iconst 1, 1), (179, .goto 4, 3), (182, .iconst 0, 1), (183, .ireturn, 1)]
theorem dkX12_isAhead : dkAll cX12_isAhead lsX12_isAhead = true := dk_fast (by decide +kernel)
noncomputable def bfX12_isAhead_48 (mi : Nat → Int32) (fm_reportPlace : Nat → Int32) (fm_reportMonth : Nat → Int32) (fm_reportDay : Nat → Int32) (fm_reportKind : Nat → Int32) (fm_trust : Nat → Int32) (fm_letter : Nat → Int32) (p1 : Int32) (p2 : Int32) (s0 : Int32) : Int32 := s0
noncomputable def bfX12_isAhead_98 (mi : Nat → Int32) (fm_reportPlace : Nat → Int32) (fm_reportMonth : Nat → Int32) (fm_reportDay : Nat → Int32) (fm_reportKind : Nat → Int32) (fm_trust : Nat → Int32) (fm_letter : Nat → Int32) (p1 : Int32) (p2 : Int32) (s0 : Int32) : Int32 := s0
noncomputable def bfX12_isAhead_134 (mi : Nat → Int32) (fm_reportPlace : Nat → Int32) (fm_reportMonth : Nat → Int32) (fm_reportDay : Nat → Int32) (fm_reportKind : Nat → Int32) (fm_trust : Nat → Int32) (fm_letter : Nat → Int32) (p1 : Int32) (p2 : Int32) (s0 : Int32) : Int32 := s0
noncomputable def bfX12_isAhead_183 (mi : Nat → Int32) (fm_reportPlace : Nat → Int32) (fm_reportMonth : Nat → Int32) (fm_reportDay : Nat → Int32) (fm_reportKind : Nat → Int32) (fm_trust : Nat → Int32) (fm_letter : Nat → Int32) (p1 : Int32) (p2 : Int32) (s0 : Int32) : Int32 := s0
noncomputable def fX12_isAhead (mi : Nat → Int32) (fm_reportPlace : Nat → Int32) (fm_reportMonth : Nat → Int32) (fm_reportDay : Nat → Int32) (fm_reportKind : Nat → Int32) (fm_trust : Nat → Int32) (fm_letter : Nat → Int32) (p1 : Int32) (p2 : Int32) : Int32 := cal (fun o1 => cal (fun o2 => if o1 = o2 then (if (fm_reportPlace p1.toNatClampNeg) = (fm_reportPlace p2.toNatClampNeg) then (if (fm_reportMonth p1.toNatClampNeg) = (fm_reportMonth p2.toNatClampNeg) then (if (fm_reportDay p1.toNatClampNeg) = (fm_reportDay p2.toNatClampNeg) then (if (fm_reportKind p1.toNatClampNeg) = (fm_reportKind p2.toNatClampNeg) then (if p2 ≤ p1 then (bfX12_isAhead_183 mi fm_reportPlace fm_reportMonth fm_reportDay fm_reportKind fm_trust fm_letter p1 p2 (0 : Int32)) else (bfX12_isAhead_183 mi fm_reportPlace fm_reportMonth fm_reportDay fm_reportKind fm_trust fm_letter p1 p2 (1 : Int32))) else (if (fm_reportKind p2.toNatClampNeg) ≤ (fm_reportKind p1.toNatClampNeg) then (bfX12_isAhead_183 mi fm_reportPlace fm_reportMonth fm_reportDay fm_reportKind fm_trust fm_letter p1 p2 (0 : Int32)) else (bfX12_isAhead_183 mi fm_reportPlace fm_reportMonth fm_reportDay fm_reportKind fm_trust fm_letter p1 p2 (1 : Int32)))) else (if (fm_reportDay p2.toNatClampNeg) ≤ (fm_reportDay p1.toNatClampNeg) then (bfX12_isAhead_134 mi fm_reportPlace fm_reportMonth fm_reportDay fm_reportKind fm_trust fm_letter p1 p2 (0 : Int32)) else (bfX12_isAhead_134 mi fm_reportPlace fm_reportMonth fm_reportDay fm_reportKind fm_trust fm_letter p1 p2 (1 : Int32)))) else (if (fm_reportMonth p2.toNatClampNeg) ≤ (fm_reportMonth p1.toNatClampNeg) then (bfX12_isAhead_98 mi fm_reportPlace fm_reportMonth fm_reportDay fm_reportKind fm_trust fm_letter p1 p2 (0 : Int32)) else (bfX12_isAhead_98 mi fm_reportPlace fm_reportMonth fm_reportDay fm_reportKind fm_trust fm_letter p1 p2 (1 : Int32)))) else (cal (fun o3 => o3) (fX12_isNameAhead fm_letter (fm_reportPlace p1.toNatClampNeg) (fm_reportPlace p2.toNatClampNeg)))) else (cal (fun o4 => cal (fun o5 => if o4 ≤ o5 then (bfX12_isAhead_48 mi fm_reportPlace fm_reportMonth fm_reportDay fm_reportKind fm_trust fm_letter p1 p2 (0 : Int32)) else (bfX12_isAhead_48 mi fm_reportPlace fm_reportMonth fm_reportDay fm_reportKind fm_trust fm_letter p1 p2 (1 : Int32))) (fX12_trustOf mi fm_trust (fm_reportPlace p2.toNatClampNeg))) (fX12_trustOf mi fm_trust (fm_reportPlace p1.toNatClampNeg)))) (fX12_trustOf mi fm_trust (fm_reportPlace p2.toNatClampNeg))) (fX12_trustOf mi fm_trust (fm_reportPlace p1.toNatClampNeg))
set_option maxHeartbeats 4000000 in
set_option maxRecDepth 100000 in
theorem sX12_isAhead (l : Launch) (dC : Nat → ClassId) (dI : Nat → Nat → Nat) (h0 : Nat) (mi : Nat → Int32) (mr : Nat → Nat) (km : Nat → ClassId) (fm_reportPlace : Nat → Int32) (fm_reportMonth : Nat → Int32) (fm_reportDay : Nat → Int32) (fm_reportKind : Nat → Int32) (fm_trust : Nat → Int32) (fm_letter : Nat → Int32) (fm_struck : Nat → Int32) (fm_reportKnown : Nat → Int32) (fm_deedMonth : Nat → Int32) (fm_deedDay : Nat → Int32) (fm_deedLong : Nat → Int32) (fm_deedKind : Nat → Int32) (fm_kept : Nat → Int32) (fm_tape : Nat → Int32) (fm_must : Nat → Int32) (fm_least : Nat → Int32) (fm_pin : Nat → Int32) (fm_ways : Nat → Int32) (fm_verdict : Nat → Int32) (fm_row : Nat → Int32) (fm_official : Nat → Int32) (fm_aside : Nat → Int32) (fm_worth : Nat → Int32) (fm_out : Nat → Int32) (p1 : Int32) (p2 : Int32) (gmi_0 : gi (mi 0) 0 24) (gmi_1 : gi (mi 1) 0 5) (gmi_2 : gi (mi 2) 0 5) (gmi_4 : gi (mi 4) 0 1) (gmi_7 : gi (mi 7) 0 6) (gmi_10 : gi (mi 10) 0 24) (gmi_17 : gi (mi 17) 0 8) (gmi_23 : gi (mi 23) 0 300) (gmi_24 : gi (mi 24) 0 1) (gmi_26 : gi (mi 26) 0 1600) (gmi_29 : gi (mi 29) 0 1600) (gmi_30 : gi (mi 30) 0 1600) (gmi_33 : gi (mi 33) 0 1) (gmi_37 : gi (mi 37) 0 1) (gmi_41 : gi (mi 41) 0 24) (gmi_50 : gi (mi 50) 0 1) (gmi_51 : gi (mi 51) 0 1) (gmi_56 : gi (mi 56) 0 80) (gfm_reportPlace : ga fm_reportPlace 24 0 5) (gfm_reportMonth : ga fm_reportMonth 24 0 23) (gfm_reportDay : ga fm_reportDay 24 0 999) (gp1 : gi p1 0 23) (gp2 : gi p2 0 23) : Met l yX12_isAhead (.code yX12_isAhead cX12_isAhead 5 (some .boolean) :: wsGB) ({ frames := 1, cells := 0, slots := 0, locals := 25 }) (va_Pc [.ref h0, .int p1, .int p2] (fun U => va_P (dC, dI) vwCl (MWn h0 mr km (mi 0) (mi 1) (mi 2) (mi 3) (mi 4) (mi 5) (mi 6) (mi 7) (mi 10) (mi 17) (mi 23) (mi 24) (mi 26) (mi 27) (mi 28) (mi 29) (mi 30) (mi 31) (mi 32) (mi 33) (mi 37) (mi 41) (mi 42) (mi 43) (mi 44) (mi 45) (mi 47) (mi 48) (mi 49) (mi 50) (mi 51) (mi 54) (mi 56) fm_trust fm_letter fm_reportPlace fm_reportKind fm_struck fm_reportMonth fm_reportDay fm_reportKnown fm_deedMonth fm_deedDay fm_deedLong fm_deedKind fm_kept fm_tape fm_must fm_least fm_pin fm_ways fm_verdict fm_row fm_official fm_aside fm_worth fm_out) U.heap ∧ va_K (dC, dI) vwCl (MT km) U)) (va_Qi (fun (r : Int32) (u : Unit) => (gi r 0 1) ∧ r = fX12_isAhead mi fm_reportPlace fm_reportMonth fm_reportDay fm_reportKind fm_trust fm_letter p1 p2) (fun _ _ => True) (fun _ => False)) 0 0 (fun _ => False) := by
  refine Met.ofW (cc := cX12_isAhead) (maxL := 5) (ret := (some .boolean)) (by decide) rfl ?_
  intro p e s m args below meth c s₁ B hml hv
  obtain ⟨rfl, hP, hK⟩ := hv
  have hx := B.exec
  have hb := B.bytes
  have hr := B.returns
  have hts := atoms_spec (ws := (.code yX12_isAhead cX12_isAhead 5 (some .boolean) :: wsGB)) B.pre
  have hown : s.vm.findClass RX12 = some m.cls := findClass_of_methodNamed B.named
  have hlocks := B.notSynchronized
  have hS : va_S (fun _ => False) s.heap s.heap [] := va_S.rf
  have hl := lv_entry ([.ref h0, .int p1, .int p2]) (n := 5) (Nat.le_of_ble_eq_true rfl)
  rw [lg_entry_eq]
  generalize (lg_sl ([.ref h0, .int p1, .int p2]) ++ List.replicate (5 - (lg_sl ([.ref h0, .int p1, .int p2])).length) Slot.unset).toArray = ls at hl ⊢
  have hl : lv_has ls 5 [(0, .ref h0), (1, .int p1), (2, .int p2)] := hl
  obtain ⟨RES, hF⟩ : ∃ R9, fX12_isAhead mi fm_reportPlace fm_reportMonth fm_reportDay fm_reportKind fm_trust fm_letter p1 p2 = R9 := ⟨_, rfl⟩
  have hR9 := hF
  refine lv_aload_n hx hb (dk_at dkX12_isAhead 0 rfl) rfl (lv_at hl 0 rfl) ?_
  refine va_get (D := (dC, dI)) (ci := 12) (v := .ref (mr 2)) (C := RX12) (T := TX12) (N := 57) hx hb hts (fun w h => List.mem_cons_of_mem _ (jnGB_X12 w h)) hown hK hP 0 rfl rfl 11 (by decide) (hts _ (List.mem_cons_of_mem _ mGB_12)) (fun _ h9 => h9) rfl (dk_at dkX12_isAhead 1 rfl) ?_
  refine lv_iload_n hx hb (dk_at dkX12_isAhead 2 rfl) rfl (lv_at hl 1 rfl) ?_
  refine va_iald hx hb hK hP 3 2 rfl rfl (gi_in gp1 (by decide)) (dk_at dkX12_isAhead 3 rfl) ?_
  refine lv_topi (fun x_40 ex_40 => ?_)
  have gx_40 : gi x_40 0 5 := ga_at gfm_reportPlace (gi_in gp1 (by decide)) ex_40
  refine lv_istore_n (lv' := [(3, .int x_40), (0, .ref h0), (1, .int p1), (2, .int p2)]) hx hb (dk_at dkX12_isAhead 4 rfl) rfl hl (by decide) rfl (fun ls hl => ?_)
  refine lv_aload_n hx hb (dk_at dkX12_isAhead 5 rfl) rfl (lv_at hl 1 rfl) ?_
  refine va_get (D := (dC, dI)) (ci := 12) (v := .ref (mr 2)) (C := RX12) (T := TX12) (N := 57) hx hb hts (fun w h => List.mem_cons_of_mem _ (jnGB_X12 w h)) hown hK hP 0 rfl rfl 11 (by decide) (hts _ (List.mem_cons_of_mem _ mGB_12)) (fun _ h9 => h9) rfl (dk_at dkX12_isAhead 6 rfl) ?_
  refine lv_iload_n hx hb (dk_at dkX12_isAhead 7 rfl) rfl (lv_at hl 3 rfl) ?_
  refine va_iald hx hb hK hP 3 2 rfl rfl (gi_in gp2 (by decide)) (dk_at dkX12_isAhead 8 rfl) ?_
  refine lv_topi (fun x_41 ex_41 => ?_)
  have gx_41 : gi x_41 0 5 := ga_at gfm_reportPlace (gi_in gp2 (by decide)) ex_41
  refine lv_istore (lv' := [(4, .int x_41), (3, .int x_40), (0, .ref h0), (1, .int p1), (2, .int p2)]) hx hb (dk_at dkX12_isAhead 9 rfl) hl (by decide) rfl (fun ls hl => ?_)
  refine lv_aload_n hx hb (dk_at dkX12_isAhead 10 rfl) rfl (lv_at hl 2 rfl) ?_
  refine lv_iload_n hx hb (dk_at dkX12_isAhead 11 rfl) rfl (lv_at hl 1 rfl) ?_
  refine va_calli (va_runV (As := [.int x_40]) (rest := []) ⟨hx, hb, hml, hown, hts⟩ (sX12_trustOf l dC dI h0 mi mr km fm_trust fm_letter fm_reportPlace fm_reportKind fm_struck fm_reportMonth fm_reportDay fm_reportKnown fm_deedMonth fm_deedDay fm_deedLong fm_deedKind fm_kept fm_tape fm_must fm_least fm_pin fm_ways fm_verdict fm_row fm_official fm_aside fm_worth fm_out x_40 gmi_0 gmi_1 gmi_2 gmi_4 gmi_7 gmi_10 gmi_17 gmi_23 gmi_24 gmi_26 gmi_29 gmi_30 gmi_33 gmi_37 gmi_41 gmi_50 gmi_51 gmi_56 gx_40) (cwV 1 hts (gz_gV mGB_287 mGB_288 mGB_289 mGB_1 mGB_290 goodGB) rfl rfl rfl hdV_X12_trustOf_X12_1 ⟨Nat.le_of_ble_eq_true rfl, Nat.le_of_ble_eq_true rfl⟩) ⟨bl_R, mw_recv hK hP, fun U hU hW => ⟨rfl, by rw [hU]; exact hP, va_K.moved hW.alike hK⟩⟩ rfl rfl hl.1 rfl (lv_room (Nat.le_of_ble_eq_true rfl)) (dk_at dkX12_isAhead 12 rfl) ⟨Nat.zero_le _, Nat.zero_le _⟩) hS (fun q _ h => h.elim) (fun q h => h.elim) (fun r_42 u t H1 locs ht hvm hw hB hz1 hk1 hS => ?_)
  obtain ⟨hw, hE⟩ := hw
  have hP := gz_keep hP hk1
  rw [ex_40] at hE
  have hF := gf_callm (a := r_42) hE hF (by first | with_reducible rfl | simp only [upd_same, upd_app, ↓reduceIte, Nat.reduceEqDiff])
  generalize H1 = H at hP hS ⊢
  refine lv_aload_n hx hb (dk_at dkX12_isAhead 13 rfl) rfl (lv_at hl 2 rfl) ?_
  refine lv_iload hx hb (dk_at dkX12_isAhead 14 rfl) (lv_at hl 0 rfl) ?_
  refine va_calli (va_runV (As := [.int x_41]) (rest := [.int r_42]) ⟨hx, hb, hml, hown, hts⟩ (sX12_trustOf l dC dI h0 mi mr km fm_trust fm_letter fm_reportPlace fm_reportKind fm_struck fm_reportMonth fm_reportDay fm_reportKnown fm_deedMonth fm_deedDay fm_deedLong fm_deedKind fm_kept fm_tape fm_must fm_least fm_pin fm_ways fm_verdict fm_row fm_official fm_aside fm_worth fm_out x_41 gmi_0 gmi_1 gmi_2 gmi_4 gmi_7 gmi_10 gmi_17 gmi_23 gmi_24 gmi_26 gmi_29 gmi_30 gmi_33 gmi_37 gmi_41 gmi_50 gmi_51 gmi_56 gx_41) (cwV 1 hts (gz_gV mGB_287 mGB_288 mGB_289 mGB_1 mGB_290 goodGB) rfl rfl rfl hdV_X12_trustOf_X12_1 ⟨Nat.le_of_ble_eq_true rfl, Nat.le_of_ble_eq_true rfl⟩) ⟨bl_R, mw_recv hK hP, fun U hU hW => ⟨rfl, by rw [hU]; exact hP, va_K.moved hW.alike hK⟩⟩ rfl rfl hl.1 rfl (lv_room (Nat.le_of_ble_eq_true rfl)) (dk_at dkX12_isAhead 15 rfl) ⟨Nat.zero_le _, Nat.zero_le _⟩) hS (fun q _ h => h.elim) (fun q h => h.elim) (fun r_43 u t H1 locs ht hvm hw hB hz1 hk1 hS => ?_)
  obtain ⟨hw, hE⟩ := hw
  have hP := gz_keep hP hk1
  rw [ex_41] at hE
  have hF := gf_callm (a := r_43) hE hF (by first | with_reducible rfl | simp only [upd_same, upd_app, ↓reduceIte, Nat.reduceEqDiff])
  generalize H1 = H at hP hS ⊢
  refine lv_icmp_eq (tgt := 49) hx hb (dk_at dkX12_isAhead 16 rfl) (by decide) (fun c_44 => ?_) (fun c_44 => ?_)
  · have hF := gf_pos c_44 hF
    refine lv_iload_n hx hb (dk_at dkX12_isAhead 28 rfl) rfl (lv_at hl 1 rfl) ?_
    refine lv_iload hx hb (dk_at dkX12_isAhead 29 rfl) (lv_at hl 0 rfl) ?_
    refine lv_icmp_eq (tgt := 63) hx hb (dk_at dkX12_isAhead 30 rfl) (by decide) (fun c_45 => ?_) (fun c_45 => ?_)
    · have hF := gf_pos (by rw [ex_41, ex_40] at c_45; exact c_45) hF
      refine lv_aload_n hx hb (dk_at dkX12_isAhead 36 rfl) rfl (lv_at hl 2 rfl) ?_
      refine va_get (D := (dC, dI)) (ci := 12) (v := .ref (mr 5)) (C := RX12) (T := TX12) (N := 57) hx hb hts (fun w h => List.mem_cons_of_mem _ (jnGB_X12 w h)) hown hK hP 0 rfl rfl 14 (by decide) (hts _ (List.mem_cons_of_mem _ mGB_16)) (fun _ h9 => h9) rfl (dk_at dkX12_isAhead 37 rfl) ?_
      refine lv_iload_n hx hb (dk_at dkX12_isAhead 38 rfl) rfl (lv_at hl 3 rfl) ?_
      refine va_iald hx hb hK hP 6 5 rfl rfl (gi_in gp1 (by decide)) (dk_at dkX12_isAhead 39 rfl) ?_
      refine lv_topi (fun x_46 ex_46 => ?_)
      have gx_46 : gi x_46 0 23 := ga_at gfm_reportMonth (gi_in gp1 (by decide)) ex_46
      refine lv_aload_n hx hb (dk_at dkX12_isAhead 40 rfl) rfl (lv_at hl 2 rfl) ?_
      refine va_get (D := (dC, dI)) (ci := 12) (v := .ref (mr 5)) (C := RX12) (T := TX12) (N := 57) hx hb hts (fun w h => List.mem_cons_of_mem _ (jnGB_X12 w h)) hown hK hP 0 rfl rfl 14 (by decide) (hts _ (List.mem_cons_of_mem _ mGB_16)) (fun _ h9 => h9) rfl (dk_at dkX12_isAhead 41 rfl) ?_
      refine lv_iload_n hx hb (dk_at dkX12_isAhead 42 rfl) rfl (lv_at hl 4 rfl) ?_
      refine va_iald hx hb hK hP 6 5 rfl rfl (gi_in gp2 (by decide)) (dk_at dkX12_isAhead 43 rfl) ?_
      refine lv_topi (fun x_47 ex_47 => ?_)
      have gx_47 : gi x_47 0 23 := ga_at gfm_reportMonth (gi_in gp2 (by decide)) ex_47
      refine lv_icmp_eq (tgt := 99) hx hb (dk_at dkX12_isAhead 44 rfl) (by decide) (fun c_48 => ?_) (fun c_48 => ?_)
      · have hF := gf_pos (by rw [ex_47, ex_46] at c_48; exact c_48) hF
        refine lv_aload_n hx hb (dk_at dkX12_isAhead 58 rfl) rfl (lv_at hl 2 rfl) ?_
        refine va_get (D := (dC, dI)) (ci := 12) (v := .ref (mr 6)) (C := RX12) (T := TX12) (N := 57) hx hb hts (fun w h => List.mem_cons_of_mem _ (jnGB_X12 w h)) hown hK hP 0 rfl rfl 15 (by decide) (hts _ (List.mem_cons_of_mem _ mGB_17)) (fun _ h9 => h9) rfl (dk_at dkX12_isAhead 59 rfl) ?_
        refine lv_iload_n hx hb (dk_at dkX12_isAhead 60 rfl) rfl (lv_at hl 3 rfl) ?_
        refine va_iald hx hb hK hP 7 6 rfl rfl (gi_in gp1 (by decide)) (dk_at dkX12_isAhead 61 rfl) ?_
        refine lv_topi (fun x_49 ex_49 => ?_)
        have gx_49 : gi x_49 0 999 := ga_at gfm_reportDay (gi_in gp1 (by decide)) ex_49
        refine lv_aload_n hx hb (dk_at dkX12_isAhead 62 rfl) rfl (lv_at hl 2 rfl) ?_
        refine va_get (D := (dC, dI)) (ci := 12) (v := .ref (mr 6)) (C := RX12) (T := TX12) (N := 57) hx hb hts (fun w h => List.mem_cons_of_mem _ (jnGB_X12 w h)) hown hK hP 0 rfl rfl 15 (by decide) (hts _ (List.mem_cons_of_mem _ mGB_17)) (fun _ h9 => h9) rfl (dk_at dkX12_isAhead 63 rfl) ?_
        refine lv_iload_n hx hb (dk_at dkX12_isAhead 64 rfl) rfl (lv_at hl 4 rfl) ?_
        refine va_iald hx hb hK hP 7 6 rfl rfl (gi_in gp2 (by decide)) (dk_at dkX12_isAhead 65 rfl) ?_
        refine lv_topi (fun x_50 ex_50 => ?_)
        have gx_50 : gi x_50 0 999 := ga_at gfm_reportDay (gi_in gp2 (by decide)) ex_50
        refine lv_icmp_eq (tgt := 135) hx hb (dk_at dkX12_isAhead 66 rfl) (by decide) (fun c_51 => ?_) (fun c_51 => ?_)
        · have hF := gf_pos (by rw [ex_50, ex_49] at c_51; exact c_51) hF
          refine lv_aload_n hx hb (dk_at dkX12_isAhead 80 rfl) rfl (lv_at hl 2 rfl) ?_
          refine va_get (D := (dC, dI)) (ci := 12) (v := .ref (mr 3)) (C := RX12) (T := TX12) (N := 57) hx hb hts (fun w h => List.mem_cons_of_mem _ (jnGB_X12 w h)) hown hK hP 0 rfl rfl 12 (by decide) (hts _ (List.mem_cons_of_mem _ mGB_13)) (fun _ h9 => h9) rfl (dk_at dkX12_isAhead 81 rfl) ?_
          refine lv_iload_n hx hb (dk_at dkX12_isAhead 82 rfl) rfl (lv_at hl 3 rfl) ?_
          refine va_iald hx hb hK hP 4 3 rfl rfl (gi_in gp1 (by decide)) (dk_at dkX12_isAhead 83 rfl) ?_
          refine lv_topi (fun x_52 ex_52 => ?_)
          refine lv_aload_n hx hb (dk_at dkX12_isAhead 84 rfl) rfl (lv_at hl 2 rfl) ?_
          refine va_get (D := (dC, dI)) (ci := 12) (v := .ref (mr 3)) (C := RX12) (T := TX12) (N := 57) hx hb hts (fun w h => List.mem_cons_of_mem _ (jnGB_X12 w h)) hown hK hP 0 rfl rfl 12 (by decide) (hts _ (List.mem_cons_of_mem _ mGB_13)) (fun _ h9 => h9) rfl (dk_at dkX12_isAhead 85 rfl) ?_
          refine lv_iload_n hx hb (dk_at dkX12_isAhead 86 rfl) rfl (lv_at hl 4 rfl) ?_
          refine va_iald hx hb hK hP 4 3 rfl rfl (gi_in gp2 (by decide)) (dk_at dkX12_isAhead 87 rfl) ?_
          refine lv_topi (fun x_53 ex_53 => ?_)
          refine lv_icmp_eq (tgt := 173) hx hb (dk_at dkX12_isAhead 88 rfl) (by decide) (fun c_54 => ?_) (fun c_54 => ?_)
          · have hF := gf_pos (by rw [ex_53, ex_52] at c_54; exact c_54) hF
            refine lv_iload_n hx hb (dk_at dkX12_isAhead 102 rfl) rfl (lv_at hl 3 rfl) ?_
            refine lv_iload_n hx hb (dk_at dkX12_isAhead 103 rfl) rfl (lv_at hl 4 rfl) ?_
            refine lv_icmp_ge (tgt := 182) hx hb (dk_at dkX12_isAhead 104 rfl) (by decide) (fun c_55 => ?_) (fun c_55 => ?_)
            · have hF := gf_pos c_55 hF
              refine lv_iconst (v := 0) hx hb (dk_at dkX12_isAhead 107 rfl) (by decide) ?_
              exact W.zret (v := 0) hx hb hr (by decide) (fun t ht hW => ⟨⟨0, (), rfl, ⟨(gi_w (gi_c 0 0 (by decide)) (by decide)), hF.trans hR9.symm⟩, trivial⟩, hS.F ht⟩) hS.2.2 (dk_at dkX12_isAhead 108 rfl)
            · have hF := gf_neg c_55 hF
              have g_56 : gi p1 0 22 := gi_lt_l (Int32.not_le.mp c_55) gp1 gp2 (by decide)
              have g_57 : gi p2 1 23 := gi_lt_r (Int32.not_le.mp c_55) gp1 gp2 (by decide)
              refine lv_iconst (v := 1) hx hb (dk_at dkX12_isAhead 105 rfl) (by decide) ?_
              refine lv_goto (tgt := 183) hx hb (dk_at dkX12_isAhead 106 rfl) (by decide) ?_
              exact W.zret (v := 1) hx hb hr (by decide) (fun t ht hW => ⟨⟨1, (), rfl, ⟨(gi_w (gi_c 1 1 (by decide)) (by decide)), hF.trans hR9.symm⟩, trivial⟩, hS.F ht⟩) hS.2.2 (dk_at dkX12_isAhead 108 rfl)
          · have hF := gf_neg (by rw [ex_53, ex_52] at c_54; exact c_54) hF
            refine lv_aload_n hx hb (dk_at dkX12_isAhead 89 rfl) rfl (lv_at hl 2 rfl) ?_
            refine va_get (D := (dC, dI)) (ci := 12) (v := .ref (mr 3)) (C := RX12) (T := TX12) (N := 57) hx hb hts (fun w h => List.mem_cons_of_mem _ (jnGB_X12 w h)) hown hK hP 0 rfl rfl 12 (by decide) (hts _ (List.mem_cons_of_mem _ mGB_13)) (fun _ h9 => h9) rfl (dk_at dkX12_isAhead 90 rfl) ?_
            refine lv_iload_n hx hb (dk_at dkX12_isAhead 91 rfl) rfl (lv_at hl 3 rfl) ?_
            refine va_iald hx hb hK hP 4 3 rfl rfl (gi_in gp1 (by decide)) (dk_at dkX12_isAhead 92 rfl) ?_
            refine lv_topi (fun x_58 ex_58 => ?_)
            refine lv_aload_n hx hb (dk_at dkX12_isAhead 93 rfl) rfl (lv_at hl 2 rfl) ?_
            refine va_get (D := (dC, dI)) (ci := 12) (v := .ref (mr 3)) (C := RX12) (T := TX12) (N := 57) hx hb hts (fun w h => List.mem_cons_of_mem _ (jnGB_X12 w h)) hown hK hP 0 rfl rfl 12 (by decide) (hts _ (List.mem_cons_of_mem _ mGB_13)) (fun _ h9 => h9) rfl (dk_at dkX12_isAhead 94 rfl) ?_
            refine lv_iload_n hx hb (dk_at dkX12_isAhead 95 rfl) rfl (lv_at hl 4 rfl) ?_
            refine va_iald hx hb hK hP 4 3 rfl rfl (gi_in gp2 (by decide)) (dk_at dkX12_isAhead 96 rfl) ?_
            refine lv_topi (fun x_59 ex_59 => ?_)
            refine lv_icmp_ge (tgt := 169) hx hb (dk_at dkX12_isAhead 97 rfl) (by decide) (fun c_60 => ?_) (fun c_60 => ?_)
            · have hF := gf_pos (by rw [ex_59, ex_58] at c_60; exact c_60) hF
              refine lv_iconst (v := 0) hx hb (dk_at dkX12_isAhead 100 rfl) (by decide) ?_
              refine lv_goto (tgt := 183) hx hb (dk_at dkX12_isAhead 101 rfl) (by decide) ?_
              exact W.zret (v := 0) hx hb hr (by decide) (fun t ht hW => ⟨⟨0, (), rfl, ⟨(gi_w (gi_c 0 0 (by decide)) (by decide)), hF.trans hR9.symm⟩, trivial⟩, hS.F ht⟩) hS.2.2 (dk_at dkX12_isAhead 108 rfl)
            · have hF := gf_neg (by rw [ex_59, ex_58] at c_60; exact c_60) hF
              have g_61 : gi x_58 (-2147483648) 2147483646 := gi_lt_l (Int32.not_le.mp c_60) (gi_any x_58) (gi_any x_59) (by decide)
              have g_62 : gi x_59 (-2147483647) 2147483647 := gi_lt_r (Int32.not_le.mp c_60) (gi_any x_58) (gi_any x_59) (by decide)
              refine lv_iconst (v := 1) hx hb (dk_at dkX12_isAhead 98 rfl) (by decide) ?_
              refine lv_goto (tgt := 183) hx hb (dk_at dkX12_isAhead 99 rfl) (by decide) ?_
              exact W.zret (v := 1) hx hb hr (by decide) (fun t ht hW => ⟨⟨1, (), rfl, ⟨(gi_w (gi_c 1 1 (by decide)) (by decide)), hF.trans hR9.symm⟩, trivial⟩, hS.F ht⟩) hS.2.2 (dk_at dkX12_isAhead 108 rfl)
        · have hF := gf_neg (by rw [ex_50, ex_49] at c_51; exact c_51) hF
          refine lv_aload_n hx hb (dk_at dkX12_isAhead 67 rfl) rfl (lv_at hl 2 rfl) ?_
          refine va_get (D := (dC, dI)) (ci := 12) (v := .ref (mr 6)) (C := RX12) (T := TX12) (N := 57) hx hb hts (fun w h => List.mem_cons_of_mem _ (jnGB_X12 w h)) hown hK hP 0 rfl rfl 15 (by decide) (hts _ (List.mem_cons_of_mem _ mGB_17)) (fun _ h9 => h9) rfl (dk_at dkX12_isAhead 68 rfl) ?_
          refine lv_iload_n hx hb (dk_at dkX12_isAhead 69 rfl) rfl (lv_at hl 3 rfl) ?_
          refine va_iald hx hb hK hP 7 6 rfl rfl (gi_in gp1 (by decide)) (dk_at dkX12_isAhead 70 rfl) ?_
          refine lv_topi (fun x_63 ex_63 => ?_)
          have gx_63 : gi x_63 0 999 := ga_at gfm_reportDay (gi_in gp1 (by decide)) ex_63
          refine lv_aload_n hx hb (dk_at dkX12_isAhead 71 rfl) rfl (lv_at hl 2 rfl) ?_
          refine va_get (D := (dC, dI)) (ci := 12) (v := .ref (mr 6)) (C := RX12) (T := TX12) (N := 57) hx hb hts (fun w h => List.mem_cons_of_mem _ (jnGB_X12 w h)) hown hK hP 0 rfl rfl 15 (by decide) (hts _ (List.mem_cons_of_mem _ mGB_17)) (fun _ h9 => h9) rfl (dk_at dkX12_isAhead 72 rfl) ?_
          refine lv_iload_n hx hb (dk_at dkX12_isAhead 73 rfl) rfl (lv_at hl 4 rfl) ?_
          refine va_iald hx hb hK hP 7 6 rfl rfl (gi_in gp2 (by decide)) (dk_at dkX12_isAhead 74 rfl) ?_
          refine lv_topi (fun x_64 ex_64 => ?_)
          have gx_64 : gi x_64 0 999 := ga_at gfm_reportDay (gi_in gp2 (by decide)) ex_64
          refine lv_icmp_ge (tgt := 133) hx hb (dk_at dkX12_isAhead 75 rfl) (by decide) (fun c_65 => ?_) (fun c_65 => ?_)
          · have hF := gf_pos (by rw [ex_64, ex_63] at c_65; exact c_65) hF
            refine lv_iconst (v := 0) hx hb (dk_at dkX12_isAhead 78 rfl) (by decide) ?_
            exact W.zret (v := 0) hx hb hr (by decide) (fun t ht hW => ⟨⟨0, (), rfl, ⟨(gi_w (gi_c 0 0 (by decide)) (by decide)), hF.trans hR9.symm⟩, trivial⟩, hS.F ht⟩) hS.2.2 (dk_at dkX12_isAhead 79 rfl)
          · have hF := gf_neg (by rw [ex_64, ex_63] at c_65; exact c_65) hF
            have g_66 : gi x_63 0 998 := gi_lt_l (Int32.not_le.mp c_65) gx_63 gx_64 (by decide)
            have g_67 : gi x_64 1 999 := gi_lt_r (Int32.not_le.mp c_65) gx_63 gx_64 (by decide)
            refine lv_iconst (v := 1) hx hb (dk_at dkX12_isAhead 76 rfl) (by decide) ?_
            refine lv_goto (tgt := 134) hx hb (dk_at dkX12_isAhead 77 rfl) (by decide) ?_
            exact W.zret (v := 1) hx hb hr (by decide) (fun t ht hW => ⟨⟨1, (), rfl, ⟨(gi_w (gi_c 1 1 (by decide)) (by decide)), hF.trans hR9.symm⟩, trivial⟩, hS.F ht⟩) hS.2.2 (dk_at dkX12_isAhead 79 rfl)
      · have hF := gf_neg (by rw [ex_47, ex_46] at c_48; exact c_48) hF
        refine lv_aload_n hx hb (dk_at dkX12_isAhead 45 rfl) rfl (lv_at hl 2 rfl) ?_
        refine va_get (D := (dC, dI)) (ci := 12) (v := .ref (mr 5)) (C := RX12) (T := TX12) (N := 57) hx hb hts (fun w h => List.mem_cons_of_mem _ (jnGB_X12 w h)) hown hK hP 0 rfl rfl 14 (by decide) (hts _ (List.mem_cons_of_mem _ mGB_16)) (fun _ h9 => h9) rfl (dk_at dkX12_isAhead 46 rfl) ?_
        refine lv_iload_n hx hb (dk_at dkX12_isAhead 47 rfl) rfl (lv_at hl 3 rfl) ?_
        refine va_iald hx hb hK hP 6 5 rfl rfl (gi_in gp1 (by decide)) (dk_at dkX12_isAhead 48 rfl) ?_
        refine lv_topi (fun x_68 ex_68 => ?_)
        have gx_68 : gi x_68 0 23 := ga_at gfm_reportMonth (gi_in gp1 (by decide)) ex_68
        refine lv_aload_n hx hb (dk_at dkX12_isAhead 49 rfl) rfl (lv_at hl 2 rfl) ?_
        refine va_get (D := (dC, dI)) (ci := 12) (v := .ref (mr 5)) (C := RX12) (T := TX12) (N := 57) hx hb hts (fun w h => List.mem_cons_of_mem _ (jnGB_X12 w h)) hown hK hP 0 rfl rfl 14 (by decide) (hts _ (List.mem_cons_of_mem _ mGB_16)) (fun _ h9 => h9) rfl (dk_at dkX12_isAhead 50 rfl) ?_
        refine lv_iload_n hx hb (dk_at dkX12_isAhead 51 rfl) rfl (lv_at hl 4 rfl) ?_
        refine va_iald hx hb hK hP 6 5 rfl rfl (gi_in gp2 (by decide)) (dk_at dkX12_isAhead 52 rfl) ?_
        refine lv_topi (fun x_69 ex_69 => ?_)
        have gx_69 : gi x_69 0 23 := ga_at gfm_reportMonth (gi_in gp2 (by decide)) ex_69
        refine lv_icmp_ge (tgt := 97) hx hb (dk_at dkX12_isAhead 53 rfl) (by decide) (fun c_70 => ?_) (fun c_70 => ?_)
        · have hF := gf_pos (by rw [ex_69, ex_68] at c_70; exact c_70) hF
          refine lv_iconst (v := 0) hx hb (dk_at dkX12_isAhead 56 rfl) (by decide) ?_
          exact W.zret (v := 0) hx hb hr (by decide) (fun t ht hW => ⟨⟨0, (), rfl, ⟨(gi_w (gi_c 0 0 (by decide)) (by decide)), hF.trans hR9.symm⟩, trivial⟩, hS.F ht⟩) hS.2.2 (dk_at dkX12_isAhead 57 rfl)
        · have hF := gf_neg (by rw [ex_69, ex_68] at c_70; exact c_70) hF
          have g_71 : gi x_68 0 22 := gi_lt_l (Int32.not_le.mp c_70) gx_68 gx_69 (by decide)
          have g_72 : gi x_69 1 23 := gi_lt_r (Int32.not_le.mp c_70) gx_68 gx_69 (by decide)
          refine lv_iconst (v := 1) hx hb (dk_at dkX12_isAhead 54 rfl) (by decide) ?_
          refine lv_goto (tgt := 98) hx hb (dk_at dkX12_isAhead 55 rfl) (by decide) ?_
          exact W.zret (v := 1) hx hb hr (by decide) (fun t ht hW => ⟨⟨1, (), rfl, ⟨(gi_w (gi_c 1 1 (by decide)) (by decide)), hF.trans hR9.symm⟩, trivial⟩, hS.F ht⟩) hS.2.2 (dk_at dkX12_isAhead 57 rfl)
    · have hF := gf_neg (by rw [ex_41, ex_40] at c_45; exact c_45) hF
      refine lv_aload_n hx hb (dk_at dkX12_isAhead 31 rfl) rfl (lv_at hl 2 rfl) ?_
      refine lv_iload_n hx hb (dk_at dkX12_isAhead 32 rfl) rfl (lv_at hl 1 rfl) ?_
      refine lv_iload hx hb (dk_at dkX12_isAhead 33 rfl) (lv_at hl 0 rfl) ?_
      refine va_calli (va_runV (As := [.int x_40, .int x_41]) (rest := []) ⟨hx, hb, hml, hown, hts⟩ (sX12_isNameAhead l dC dI h0 mi mr km fm_letter fm_trust fm_reportPlace fm_reportKind fm_struck fm_reportMonth fm_reportDay fm_reportKnown fm_deedMonth fm_deedDay fm_deedLong fm_deedKind fm_kept fm_tape fm_must fm_least fm_pin fm_ways fm_verdict fm_row fm_official fm_aside fm_worth fm_out x_40 x_41 gmi_0 gmi_1 gmi_2 gmi_4 gmi_7 gmi_10 gmi_17 gmi_23 gmi_24 gmi_26 gmi_29 gmi_30 gmi_33 gmi_37 gmi_41 gmi_50 gmi_51 gmi_56 gx_40 gx_41) (cwV 2 hts (gz_gV mGB_228 mGB_229 mGB_230 mGB_1 mGB_231 goodGB) rfl rfl rfl hdV_X12_isNameAhead_X12_2 ⟨Nat.le_of_ble_eq_true rfl, Nat.le_of_ble_eq_true rfl⟩) ⟨bl_R, mw_recv hK hP, fun U hU hW => ⟨rfl, by rw [hU]; exact hP, va_K.moved hW.alike hK⟩⟩ rfl rfl hl.1 rfl (lv_room (Nat.le_of_ble_eq_true rfl)) (dk_at dkX12_isAhead 34 rfl) ⟨Nat.zero_le _, Nat.zero_le _⟩) hS (fun q _ h => h.elim) (fun q h => h.elim) (fun r_73 u t H1 locs ht hvm hw hB hz1 hk1 hS => ?_)
      obtain ⟨hw, hE⟩ := hw
      have hP := gz_keep hP hk1
      have hF := gf_call (a := r_73) (by rw [ex_41, ex_40] at hE; exact hE) hF
      generalize H1 = H at hP hS ⊢
      have gr_73 : gi r_73 0 1 := hw
      exact W.zret (v := r_73) hx hb hr (gz_nb gr_73) (fun t ht hW => ⟨⟨r_73, (), rfl, ⟨gr_73, hF.trans hR9.symm⟩, trivial⟩, hS.F ht⟩) hS.2.2 (dk_at dkX12_isAhead 35 rfl)
  · have hF := gf_neg c_44 hF
    refine lv_aload_n hx hb (dk_at dkX12_isAhead 17 rfl) rfl (lv_at hl 2 rfl) ?_
    refine lv_iload_n hx hb (dk_at dkX12_isAhead 18 rfl) rfl (lv_at hl 1 rfl) ?_
    refine va_calli (va_runV (As := [.int x_40]) (rest := []) ⟨hx, hb, hml, hown, hts⟩ (sX12_trustOf l dC dI h0 mi mr km fm_trust fm_letter fm_reportPlace fm_reportKind fm_struck fm_reportMonth fm_reportDay fm_reportKnown fm_deedMonth fm_deedDay fm_deedLong fm_deedKind fm_kept fm_tape fm_must fm_least fm_pin fm_ways fm_verdict fm_row fm_official fm_aside fm_worth fm_out x_40 gmi_0 gmi_1 gmi_2 gmi_4 gmi_7 gmi_10 gmi_17 gmi_23 gmi_24 gmi_26 gmi_29 gmi_30 gmi_33 gmi_37 gmi_41 gmi_50 gmi_51 gmi_56 gx_40) (cwV 1 hts (gz_gV mGB_287 mGB_288 mGB_289 mGB_1 mGB_290 goodGB) rfl rfl rfl hdV_X12_trustOf_X12_1 ⟨Nat.le_of_ble_eq_true rfl, Nat.le_of_ble_eq_true rfl⟩) ⟨bl_R, mw_recv hK hP, fun U hU hW => ⟨rfl, by rw [hU]; exact hP, va_K.moved hW.alike hK⟩⟩ rfl rfl hl.1 rfl (lv_room (Nat.le_of_ble_eq_true rfl)) (dk_at dkX12_isAhead 19 rfl) ⟨Nat.zero_le _, Nat.zero_le _⟩) hS (fun q _ h => h.elim) (fun q h => h.elim) (fun r_74 u t H1 locs ht hvm hw hB hz1 hk1 hS => ?_)
    obtain ⟨hw, hE⟩ := hw
    have hP := gz_keep hP hk1
    rw [ex_40] at hE
    have hF := gf_callm (a := r_74) hE hF (by first | with_reducible rfl | simp only [upd_same, upd_app, ↓reduceIte, Nat.reduceEqDiff])
    generalize H1 = H at hP hS ⊢
    refine lv_aload_n hx hb (dk_at dkX12_isAhead 20 rfl) rfl (lv_at hl 2 rfl) ?_
    refine lv_iload hx hb (dk_at dkX12_isAhead 21 rfl) (lv_at hl 0 rfl) ?_
    refine va_calli (va_runV (As := [.int x_41]) (rest := [.int r_74]) ⟨hx, hb, hml, hown, hts⟩ (sX12_trustOf l dC dI h0 mi mr km fm_trust fm_letter fm_reportPlace fm_reportKind fm_struck fm_reportMonth fm_reportDay fm_reportKnown fm_deedMonth fm_deedDay fm_deedLong fm_deedKind fm_kept fm_tape fm_must fm_least fm_pin fm_ways fm_verdict fm_row fm_official fm_aside fm_worth fm_out x_41 gmi_0 gmi_1 gmi_2 gmi_4 gmi_7 gmi_10 gmi_17 gmi_23 gmi_24 gmi_26 gmi_29 gmi_30 gmi_33 gmi_37 gmi_41 gmi_50 gmi_51 gmi_56 gx_41) (cwV 1 hts (gz_gV mGB_287 mGB_288 mGB_289 mGB_1 mGB_290 goodGB) rfl rfl rfl hdV_X12_trustOf_X12_1 ⟨Nat.le_of_ble_eq_true rfl, Nat.le_of_ble_eq_true rfl⟩) ⟨bl_R, mw_recv hK hP, fun U hU hW => ⟨rfl, by rw [hU]; exact hP, va_K.moved hW.alike hK⟩⟩ rfl rfl hl.1 rfl (lv_room (Nat.le_of_ble_eq_true rfl)) (dk_at dkX12_isAhead 22 rfl) ⟨Nat.zero_le _, Nat.zero_le _⟩) hS (fun q _ h => h.elim) (fun q h => h.elim) (fun r_75 u t H1 locs ht hvm hw hB hz1 hk1 hS => ?_)
    obtain ⟨hw, hE⟩ := hw
    have hP := gz_keep hP hk1
    rw [ex_41] at hE
    have hF := gf_callm (a := r_75) hE hF (by first | with_reducible rfl | simp only [upd_same, upd_app, ↓reduceIte, Nat.reduceEqDiff])
    generalize H1 = H at hP hS ⊢
    refine lv_icmp_le (tgt := 47) hx hb (dk_at dkX12_isAhead 23 rfl) (by decide) (fun c_76 => ?_) (fun c_76 => ?_)
    · have hF := gf_pos c_76 hF
      refine lv_iconst (v := 0) hx hb (dk_at dkX12_isAhead 26 rfl) (by decide) ?_
      exact W.zret (v := 0) hx hb hr (by decide) (fun t ht hW => ⟨⟨0, (), rfl, ⟨(gi_w (gi_c 0 0 (by decide)) (by decide)), hF.trans hR9.symm⟩, trivial⟩, hS.F ht⟩) hS.2.2 (dk_at dkX12_isAhead 27 rfl)
    · have hF := gf_neg c_76 hF
      have g_77 : gi r_75 (-2147483648) 2147483646 := gi_lt_l (Int32.not_le.mp c_76) (gi_any r_75) (gi_any r_74) (by decide)
      have g_78 : gi r_74 (-2147483647) 2147483647 := gi_lt_r (Int32.not_le.mp c_76) (gi_any r_75) (gi_any r_74) (by decide)
      refine lv_iconst (v := 1) hx hb (dk_at dkX12_isAhead 24 rfl) (by decide) ?_
      refine lv_goto (tgt := 48) hx hb (dk_at dkX12_isAhead 25 rfl) (by decide) ?_
      exact W.zret (v := 1) hx hb hr (by decide) (fun t ht hW => ⟨⟨1, (), rfl, ⟨(gi_w (gi_c 1 1 (by decide)) (by decide)), hF.trans hR9.symm⟩, trivial⟩, hS.F ht⟩) hS.2.2 (dk_at dkX12_isAhead 27 rfl)
noncomputable def lsX12_isKnown : List (Nat × Instr × Nat) := [(0, .aload_n 0, 1), (1, .getfield 22, 3), (4, .iload_n 1, 1), (5, .baload, 1), (6, .ifCond .ne 17, 3), (9, .aload_n 0, 1), (10, .getfield 32, 3), (13, .iload_n 1, 1), (14, .iaload, 1), (15, .iload_n 2, 1), (16, .if_icmp .gt 7, 3), (19, .iconst 1, 1), (20, .goto 4, 3), (23, .iconst 0, 1), (24, .ireturn, 1)]
theorem dkX12_isKnown : dkAll cX12_isKnown lsX12_isKnown = true := dk_fast (by decide +kernel)
noncomputable def bfX12_isKnown_24 (fm_struck : Nat → Int32) (fm_reportKnown : Nat → Int32) (p1 : Int32) (p2 : Int32) (s0 : Int32) : Int32 := s0
noncomputable def bfX12_isKnown_23 (fm_struck : Nat → Int32) (fm_reportKnown : Nat → Int32) (p1 : Int32) (p2 : Int32) : Int32 := bfX12_isKnown_24 fm_struck fm_reportKnown p1 p2 (0 : Int32)
noncomputable def fX12_isKnown (fm_struck : Nat → Int32) (fm_reportKnown : Nat → Int32) (p1 : Int32) (p2 : Int32) : Int32 := if (fm_struck p1.toNatClampNeg) = (0 : Int32) then (if p2 < (fm_reportKnown p1.toNatClampNeg) then (bfX12_isKnown_23 fm_struck fm_reportKnown p1 p2) else (bfX12_isKnown_24 fm_struck fm_reportKnown p1 p2 (1 : Int32))) else (bfX12_isKnown_23 fm_struck fm_reportKnown p1 p2)
set_option maxHeartbeats 4000000 in
set_option maxRecDepth 100000 in
theorem sX12_isKnown (l : Launch) (dC : Nat → ClassId) (dI : Nat → Nat → Nat) (h0 : Nat) (mi : Nat → Int32) (mr : Nat → Nat) (km : Nat → ClassId) (fm_struck : Nat → Int32) (fm_reportKnown : Nat → Int32) (fm_trust : Nat → Int32) (fm_letter : Nat → Int32) (fm_reportPlace : Nat → Int32) (fm_reportKind : Nat → Int32) (fm_reportMonth : Nat → Int32) (fm_reportDay : Nat → Int32) (fm_deedMonth : Nat → Int32) (fm_deedDay : Nat → Int32) (fm_deedLong : Nat → Int32) (fm_deedKind : Nat → Int32) (fm_kept : Nat → Int32) (fm_tape : Nat → Int32) (fm_must : Nat → Int32) (fm_least : Nat → Int32) (fm_pin : Nat → Int32) (fm_ways : Nat → Int32) (fm_verdict : Nat → Int32) (fm_row : Nat → Int32) (fm_official : Nat → Int32) (fm_aside : Nat → Int32) (fm_worth : Nat → Int32) (fm_out : Nat → Int32) (p1 : Int32) (p2 : Int32) (gmi_0 : gi (mi 0) 0 24) (gmi_1 : gi (mi 1) 0 5) (gmi_2 : gi (mi 2) 0 5) (gmi_4 : gi (mi 4) 0 1) (gmi_7 : gi (mi 7) 0 6) (gmi_10 : gi (mi 10) 0 24) (gmi_17 : gi (mi 17) 0 8) (gmi_23 : gi (mi 23) 0 300) (gmi_24 : gi (mi 24) 0 1) (gmi_26 : gi (mi 26) 0 1600) (gmi_29 : gi (mi 29) 0 1600) (gmi_30 : gi (mi 30) 0 1600) (gmi_33 : gi (mi 33) 0 1) (gmi_37 : gi (mi 37) 0 1) (gmi_41 : gi (mi 41) 0 24) (gmi_50 : gi (mi 50) 0 1) (gmi_51 : gi (mi 51) 0 1) (gmi_56 : gi (mi 56) 0 80) (gfm_struck : ga fm_struck 24 0 1) (gfm_reportKnown : ga fm_reportKnown 24 0 999) (gp1 : gi p1 0 23) : Met l yX12_isKnown (.code yX12_isKnown cX12_isKnown 3 (some .boolean) :: wsGB) ({ frames := 0, cells := 0, slots := 0, locals := 0 }) (va_Pc [.ref h0, .int p1, .int p2] (fun U => va_P (dC, dI) vwCl (MWn h0 mr km (mi 0) (mi 1) (mi 2) (mi 3) (mi 4) (mi 5) (mi 6) (mi 7) (mi 10) (mi 17) (mi 23) (mi 24) (mi 26) (mi 27) (mi 28) (mi 29) (mi 30) (mi 31) (mi 32) (mi 33) (mi 37) (mi 41) (mi 42) (mi 43) (mi 44) (mi 45) (mi 47) (mi 48) (mi 49) (mi 50) (mi 51) (mi 54) (mi 56) fm_trust fm_letter fm_reportPlace fm_reportKind fm_struck fm_reportMonth fm_reportDay fm_reportKnown fm_deedMonth fm_deedDay fm_deedLong fm_deedKind fm_kept fm_tape fm_must fm_least fm_pin fm_ways fm_verdict fm_row fm_official fm_aside fm_worth fm_out) U.heap ∧ va_K (dC, dI) vwCl (MT km) U)) (va_Qi (fun (r : Int32) (u : Unit) => (gi r 0 1) ∧ r = fX12_isKnown fm_struck fm_reportKnown p1 p2) (fun _ _ => True) (fun _ => False)) 0 0 (fun _ => False) := by
  refine Met.ofW (cc := cX12_isKnown) (maxL := 3) (ret := (some .boolean)) (by decide) rfl ?_
  intro p e s m args below meth c s₁ B hml hv
  obtain ⟨rfl, hP, hK⟩ := hv
  have hx := B.exec
  have hb := B.bytes
  have hr := B.returns
  have hts := atoms_spec (ws := (.code yX12_isKnown cX12_isKnown 3 (some .boolean) :: wsGB)) B.pre
  have hown : s.vm.findClass RX12 = some m.cls := findClass_of_methodNamed B.named
  have hlocks := B.notSynchronized
  have hS : va_S (fun _ => False) s.heap s.heap [] := va_S.rf
  have hl := lv_entry ([.ref h0, .int p1, .int p2]) (n := 3) (Nat.le_of_ble_eq_true rfl)
  rw [lg_entry_eq]
  generalize (lg_sl ([.ref h0, .int p1, .int p2]) ++ List.replicate (3 - (lg_sl ([.ref h0, .int p1, .int p2])).length) Slot.unset).toArray = ls at hl ⊢
  have hl : lv_has ls 3 [(0, .ref h0), (1, .int p1), (2, .int p2)] := hl
  obtain ⟨RES, hF⟩ : ∃ R9, fX12_isKnown fm_struck fm_reportKnown p1 p2 = R9 := ⟨_, rfl⟩
  have hR9 := hF
  refine lv_aload_n hx hb (dk_at dkX12_isKnown 0 rfl) rfl (lv_at hl 0 rfl) ?_
  refine va_get (D := (dC, dI)) (ci := 12) (v := .ref (mr 4)) (C := RX12) (T := TX12) (N := 57) hx hb hts (fun w h => List.mem_cons_of_mem _ (jnGB_X12 w h)) hown hK hP 0 rfl rfl 13 (by decide) (hts _ (List.mem_cons_of_mem _ mGB_15)) (fun _ h9 => h9) rfl (dk_at dkX12_isKnown 1 rfl) ?_
  refine lv_iload_n hx hb (dk_at dkX12_isKnown 2 rfl) rfl (lv_at hl 1 rfl) ?_
  refine va_zald hx hb hK hP 5 4 rfl rfl (gi_in gp1 (by decide)) (dk_at dkX12_isKnown 3 rfl) ?_
  refine lv_topi (fun x_9 ex_9 => ?_)
  have gx_9 : gi x_9 0 1 := ga_at gfm_struck (gi_in gp1 (by decide)) ex_9
  refine lv_if_ne (tgt := 23) hx hb (dk_at dkX12_isKnown 4 rfl) (by decide) (fun c_10 => ?_) (fun c_10 => ?_)
  · have hF := gf_neg (by rw [ex_9] at c_10; exact c_10) hF
    have g_11 : gi x_9 1 1 := gi_ne_lo c_10 gx_9 (gi_c 0 0 (by decide)) (by decide)
    refine lv_iconst (v := 0) hx hb (dk_at dkX12_isKnown 13 rfl) (by decide) ?_
    exact W.zret (v := 0) hx hb hr (by decide) (fun t ht hW => ⟨⟨0, (), rfl, ⟨(gi_w (gi_c 0 0 (by decide)) (by decide)), hF.trans hR9.symm⟩, trivial⟩, hS.F ht⟩) hS.2.2 (dk_at dkX12_isKnown 14 rfl)
  · have hF := gf_pos (by rw [ex_9] at c_10; exact c_10) hF
    have g_12 : gi x_9 0 0 := gi_eq c_10 (gi_c 0 0 (by decide))
    refine lv_aload_n hx hb (dk_at dkX12_isKnown 5 rfl) rfl (lv_at hl 0 rfl) ?_
    refine va_get (D := (dC, dI)) (ci := 12) (v := .ref (mr 7)) (C := RX12) (T := TX12) (N := 57) hx hb hts (fun w h => List.mem_cons_of_mem _ (jnGB_X12 w h)) hown hK hP 0 rfl rfl 16 (by decide) (hts _ (List.mem_cons_of_mem _ mGB_18)) (fun _ h9 => h9) rfl (dk_at dkX12_isKnown 6 rfl) ?_
    refine lv_iload_n hx hb (dk_at dkX12_isKnown 7 rfl) rfl (lv_at hl 1 rfl) ?_
    refine va_iald hx hb hK hP 8 7 rfl rfl (gi_in gp1 (by decide)) (dk_at dkX12_isKnown 8 rfl) ?_
    refine lv_topi (fun x_13 ex_13 => ?_)
    have gx_13 : gi x_13 0 999 := ga_at gfm_reportKnown (gi_in gp1 (by decide)) ex_13
    refine lv_iload_n hx hb (dk_at dkX12_isKnown 9 rfl) rfl (lv_at hl 2 rfl) ?_
    refine lv_icmp_gt (tgt := 23) hx hb (dk_at dkX12_isKnown 10 rfl) (by decide) (fun c_14 => ?_) (fun c_14 => ?_)
    · have hF := gf_pos (by rw [ex_13] at c_14; exact c_14) hF
      have g_15 : gi p2 (-2147483648) 998 := gi_lt_l c_14 (gi_any p2) gx_13 (by decide)
      refine lv_iconst (v := 0) hx hb (dk_at dkX12_isKnown 13 rfl) (by decide) ?_
      exact W.zret (v := 0) hx hb hr (by decide) (fun t ht hW => ⟨⟨0, (), rfl, ⟨(gi_w (gi_c 0 0 (by decide)) (by decide)), hF.trans hR9.symm⟩, trivial⟩, hS.F ht⟩) hS.2.2 (dk_at dkX12_isKnown 14 rfl)
    · have hF := gf_neg (by rw [ex_13] at c_14; exact c_14) hF
      have g_16 : gi p2 0 2147483647 := gi_le_r (Int32.not_lt.mp c_14) gx_13 (gi_any p2)
      refine lv_iconst (v := 1) hx hb (dk_at dkX12_isKnown 11 rfl) (by decide) ?_
      refine lv_goto (tgt := 24) hx hb (dk_at dkX12_isKnown 12 rfl) (by decide) ?_
      exact W.zret (v := 1) hx hb hr (by decide) (fun t ht hW => ⟨⟨1, (), rfl, ⟨(gi_w (gi_c 1 1 (by decide)) (by decide)), hF.trans hR9.symm⟩, trivial⟩, hS.F ht⟩) hS.2.2 (dk_at dkX12_isKnown 14 rfl)
