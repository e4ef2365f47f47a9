noncomputable def lsX9_withFull : List (Nat × Instr × Nat) := [(0, .aload_n 0, 1), (1, .getfield 15, 3), (4, .iload_n 1, 1), (5, .iconst 1, 1), (6, .iadd, 1), (7, .iload_n 2, 1), (8, .iconst 1, 1), (9, .iadd, 1), (10, .iload_n 3, 1), (11, .aload_n 0, 1), (12, .getfield 31, 3), (15, .invokestatic 74, 3), (18, .invokestatic 63, 3), (21, .iaload, 1), (22, .ireturn, 1)]
theorem dkX9_withFull : dkAll cX9_withFull lsX9_withFull = true := by decide +kernel
set_option maxHeartbeats 4000000 in
set_option maxRecDepth 100000 in
theorem sX9_withFull (l : Launch) (dC : Nat → ClassId) (dI : Nat → Nat → Nat) (h0 : Nat) (bh : Nat) (bf : Nat) (sa : Nat) (months : Int32) (full : Int32) (lean : Int32) (kbh : ClassId) (fbh : Nat → Int32) (p0 : Int32) (p1 : Int32) (p2 : Int32) (gmonths : gi months 0 24) (gfull : gi full 0 5) (glean : gi lean 0 5) (gp0 : gi p0 0 23) (gp1 : gi p1 0 23) (gp2 : gi p2 0 10) : Met l yX9_withFull (.code yX9_withFull cX9_withFull 4 (some .int) :: wsGA) ({ frames := 2, cells := 0, slots := 0, locals := 43 }) (va_Pc [.ref h0, .int p0, .int p1, .int p2] (fun U => va_P (dC, dI) vwCl [(h0, .inr (9, [.ref bf, .ref bh, .ref sa, .int months, .int full, .int lean])), (bh, .inl (kbh, 3575, .inl fbh))] U.heap ∧ va_K (dC, dI) vwCl [(kbh, .int)] U ∧ nzA U)) (va_Qi (fun (r : Int32) (u : Unit) => gi r (-2147483648) 2147483647) (fun _ _ => True) (fun _ => False)) 0 0 (fun _ => False) := by
  refine Met.ofW (cc := cX9_withFull) (maxL := 4) (ret := (some .int)) (by decide) rfl ?_
  intro p e s m args below meth c s₁ B hml hv
  obtain ⟨rfl, hP, hK, hz⟩ := hv
  have hx := B.exec
  have hb := B.bytes
  have hr := B.returns
  have hts := atoms_spec (ws := (.code yX9_withFull cX9_withFull 4 (some .int) :: wsGA)) B.pre
  have hown : s.vm.findClass RX9 = some m.cls := findClass_of_methodNamed B.named
  have hlocks := B.notSynchronized
  have hS : va_S (fun _ => False) s.heap s.heap [] := va_S.rf
  have hl := lv_entry ([.ref h0, .int p0, .int p1, .int p2]) (n := 4) (Nat.le_of_ble_eq_true rfl)
  rw [lg_entry_eq]
  generalize (lg_sl ([.ref h0, .int p0, .int p1, .int p2]) ++ List.replicate (4 - (lg_sl ([.ref h0, .int p0, .int p1, .int p2])).length) Slot.unset).toArray = ls at hl ⊢
  have hl : lv_has ls 4 [(0, .ref h0), (1, .int p0), (2, .int p1), (3, .int p2)] := hl
  refine lv_aload_n hx hb (dk_at dkX9_withFull 0 rfl) rfl (lv_at hl 0 rfl) ?_
  refine va_get (D := (dC, dI)) (ci := 9) (v := .ref bh) (C := RX9) (T := TX9) (N := 6) hx hb hts (fun w h => List.mem_cons_of_mem _ (jnGA_X9 w h)) hown hK hP 0 rfl rfl 1 (by decide) (hts _ (List.mem_cons_of_mem _ mGA_112)) (fun _ h9 => h9) rfl (dk_at dkX9_withFull 1 rfl) ?_
  refine lv_iload_n hx hb (dk_at dkX9_withFull 2 rfl) rfl (lv_at hl 1 rfl) ?_
  refine lv_iconst (v := 1) hx hb (dk_at dkX9_withFull 3 rfl) (by decide) ?_
  refine lv_iadd hx hb (dk_at dkX9_withFull 4 rfl) ?_
  refine lv_topi (fun x_6 ex_6 => ?_)
  have gx_6 : gi x_6 1 24 := gi_add ex_6 gp0 (gi_c 1 1 (by decide)) (by decide)
  refine lv_iload_n hx hb (dk_at dkX9_withFull 5 rfl) rfl (lv_at hl 2 rfl) ?_
  refine lv_iconst (v := 1) hx hb (dk_at dkX9_withFull 6 rfl) (by decide) ?_
  refine lv_iadd hx hb (dk_at dkX9_withFull 7 rfl) ?_
  refine lv_topi (fun x_7 ex_7 => ?_)
  have gx_7 : gi x_7 1 24 := gi_add ex_7 gp1 (gi_c 1 1 (by decide)) (by decide)
  refine lv_iload_n hx hb (dk_at dkX9_withFull 8 rfl) rfl (lv_at hl 3 rfl) ?_
  refine lv_aload_n hx hb (dk_at dkX9_withFull 9 rfl) rfl (lv_at hl 0 rfl) ?_
  refine va_get (D := (dC, dI)) (ci := 9) (v := .int full) (C := RX9) (T := TX9) (N := 6) hx hb hts (fun w h => List.mem_cons_of_mem _ (jnGA_X9 w h)) hown hK hP 0 rfl rfl 4 (by decide) (hts _ (List.mem_cons_of_mem _ mGA_562)) (fun _ h9 => h9) rfl (dk_at dkX9_withFull 10 rfl) ?_
  have hPc := hP.sub (ws' := []) [] rfl
  have hKc := hK.sub (tys' := []) [] rfl
  refine va_calli (va_runSN (As := [.int p2, .int full]) (rest := [.int x_7, .int x_6, .ref bh]) ⟨hx, hb, hml, hown, hts⟩ (sX11_runWithFull l dC dI p2 full gp2 gfull) (⟨va_cnB 2 hts (gz_gP mGA_508 goodGA) rfl rfl rfl (nzA_X9_74 hz) (hts _ (List.mem_cons_of_mem _ mGA_1)) (by decide +kernel) ⟨Nat.le_of_ble_eq_true rfl, Nat.le_of_ble_eq_true rfl⟩, (hts _ (List.mem_cons_of_mem _ mGA_507)), trivial⟩) ⟨bl_I (bl_a bl_P (bl_a bl_K bl_nz)), fun U hU hW => ⟨rfl, by rw [hU]; exact hPc, va_K.moved hW.alike hKc, nzA_warm hW hz⟩⟩ rfl rfl hl.1 rfl (lv_room (Nat.le_of_ble_eq_true rfl)) (dk_at dkX9_withFull 11 rfl) ⟨Nat.zero_le _, Nat.zero_le _⟩) hS (fun q _ h => h.elim) (fun q h => h.elim) (fun r_8 u t H1 locs ht hvm hw hB hz1 hk1 hS => ?_)
  have hP := gz_keep hP hk1
  generalize H1 = H at hP hS ⊢
  have gr_8 : gi r_8 0 5 := hw
  have hPc := hP.sub (ws' := []) [] rfl
  have hKc := hK.sub (tys' := []) [] rfl
  refine va_calli (va_runSN (As := [.int x_6, .int x_7, .int r_8]) (rest := [.ref bh]) ⟨hx, hb, hml, hown, hts⟩ (sX11_spot l dC dI x_6 x_7 r_8 (gi_w gx_6 (by decide)) (gi_w gx_7 (by decide)) (gi_w gr_8 (by decide))) (⟨va_cnB 3 hts (gz_gP mGA_582 goodGA) rfl rfl rfl (nzA_X9_63 hz) (hts _ (List.mem_cons_of_mem _ mGA_1)) (by decide +kernel) ⟨Nat.le_of_ble_eq_true rfl, Nat.le_of_ble_eq_true rfl⟩, (hts _ (List.mem_cons_of_mem _ mGA_581)), trivial⟩) ⟨bl_I (bl_a bl_P (bl_a bl_K bl_nz)), fun U hU hW => ⟨rfl, by rw [hU]; exact hPc, va_K.moved hW.alike hKc, nzA_warm hW hz⟩⟩ rfl rfl hl.1 rfl (lv_room (Nat.le_of_ble_eq_true rfl)) (dk_at dkX9_withFull 12 rfl) ⟨Nat.zero_le _, Nat.zero_le _⟩) hS (fun q _ h => h.elim) (fun q h => h.elim) (fun r_9 u t H1 locs ht hvm hw hB hz1 hk1 hS => ?_)
  have hP := gz_keep hP hk1
  generalize H1 = H at hP hS ⊢
  have gr_9 : gi r_9 0 3574 := hw
  refine va_iald hx hb hK hP 1 0 rfl rfl (gi_in gr_9 (by decide)) (dk_at dkX9_withFull 13 rfl) ?_
  refine lv_topi (fun x_10 ex_10 => ?_)
  exact W.iret (v := x_10) hx hb hr (fun t ht hW => ⟨⟨x_10, (), rfl, (gi_any x_10), trivial⟩, hS.F ht⟩) hS.2.2 (dk_at dkX9_withFull 14 rfl)
noncomputable def lsX9_withLean : List (Nat × Instr × Nat) := [(0, .aload_n 0, 1), (1, .getfield 15, 3), (4, .iload_n 1, 1), (5, .iconst 1, 1), (6, .iadd, 1), (7, .iload_n 2, 1), (8, .iload_n 3, 1), (9, .aload_n 0, 1), (10, .getfield 31, 3), (13, .aload_n 0, 1), (14, .getfield 35, 3), (17, .invokestatic 78, 3), (20, .invokestatic 63, 3), (23, .iaload, 1), (24, .ireturn, 1)]
theorem dkX9_withLean : dkAll cX9_withLean lsX9_withLean = true := by decide +kernel
set_option maxHeartbeats 4000000 in
set_option maxRecDepth 100000 in
theorem sX9_withLean (l : Launch) (dC : Nat → ClassId) (dI : Nat → Nat → Nat) (h0 : Nat) (bh : Nat) (bf : Nat) (sa : Nat) (months : Int32) (full : Int32) (lean : Int32) (kbh : ClassId) (fbh : Nat → Int32) (p0 : Int32) (p1 : Int32) (p2 : Int32) (gmonths : gi months 0 24) (gfull : gi full 0 5) (glean : gi lean 0 5) (gp0 : gi p0 0 23) (gp1 : gi p1 0 24) (gp2 : gi p2 0 10) : Met l yX9_withLean (.code yX9_withLean cX9_withLean 4 (some .int) :: wsGA) ({ frames := 2, cells := 0, slots := 0, locals := 43 }) (va_Pc [.ref h0, .int p0, .int p1, .int p2] (fun U => va_P (dC, dI) vwCl [(h0, .inr (9, [.ref bf, .ref bh, .ref sa, .int months, .int full, .int lean])), (bh, .inl (kbh, 3575, .inl fbh))] U.heap ∧ va_K (dC, dI) vwCl [(kbh, .int)] U ∧ nzA U)) (va_Qi (fun (r : Int32) (u : Unit) => gi r (-2147483648) 2147483647) (fun _ _ => True) (fun _ => False)) 0 0 (fun _ => False) := by
  refine Met.ofW (cc := cX9_withLean) (maxL := 4) (ret := (some .int)) (by decide) rfl ?_
  intro p e s m args below meth c s₁ B hml hv
  obtain ⟨rfl, hP, hK, hz⟩ := hv
  have hx := B.exec
  have hb := B.bytes
  have hr := B.returns
  have hts := atoms_spec (ws := (.code yX9_withLean cX9_withLean 4 (some .int) :: wsGA)) B.pre
  have hown : s.vm.findClass RX9 = some m.cls := findClass_of_methodNamed B.named
  have hlocks := B.notSynchronized
  have hS : va_S (fun _ => False) s.heap s.heap [] := va_S.rf
  have hl := lv_entry ([.ref h0, .int p0, .int p1, .int p2]) (n := 4) (Nat.le_of_ble_eq_true rfl)
  rw [lg_entry_eq]
  generalize (lg_sl ([.ref h0, .int p0, .int p1, .int p2]) ++ List.replicate (4 - (lg_sl ([.ref h0, .int p0, .int p1, .int p2])).length) Slot.unset).toArray = ls at hl ⊢
  have hl : lv_has ls 4 [(0, .ref h0), (1, .int p0), (2, .int p1), (3, .int p2)] := hl
  refine lv_aload_n hx hb (dk_at dkX9_withLean 0 rfl) rfl (lv_at hl 0 rfl) ?_
  refine va_get (D := (dC, dI)) (ci := 9) (v := .ref bh) (C := RX9) (T := TX9) (N := 6) hx hb hts (fun w h => List.mem_cons_of_mem _ (jnGA_X9 w h)) hown hK hP 0 rfl rfl 1 (by decide) (hts _ (List.mem_cons_of_mem _ mGA_112)) (fun _ h9 => h9) rfl (dk_at dkX9_withLean 1 rfl) ?_
  refine lv_iload_n hx hb (dk_at dkX9_withLean 2 rfl) rfl (lv_at hl 1 rfl) ?_
  refine lv_iconst (v := 1) hx hb (dk_at dkX9_withLean 3 rfl) (by decide) ?_
  refine lv_iadd hx hb (dk_at dkX9_withLean 4 rfl) ?_
  refine lv_topi (fun x_5 ex_5 => ?_)
  have gx_5 : gi x_5 1 24 := gi_add ex_5 gp0 (gi_c 1 1 (by decide)) (by decide)
  refine lv_iload_n hx hb (dk_at dkX9_withLean 5 rfl) rfl (lv_at hl 2 rfl) ?_
  refine lv_iload_n hx hb (dk_at dkX9_withLean 6 rfl) rfl (lv_at hl 3 rfl) ?_
  refine lv_aload_n hx hb (dk_at dkX9_withLean 7 rfl) rfl (lv_at hl 0 rfl) ?_
  refine va_get (D := (dC, dI)) (ci := 9) (v := .int full) (C := RX9) (T := TX9) (N := 6) hx hb hts (fun w h => List.mem_cons_of_mem _ (jnGA_X9 w h)) hown hK hP 0 rfl rfl 4 (by decide) (hts _ (List.mem_cons_of_mem _ mGA_562)) (fun _ h9 => h9) rfl (dk_at dkX9_withLean 8 rfl) ?_
  refine lv_aload_n hx hb (dk_at dkX9_withLean 9 rfl) rfl (lv_at hl 0 rfl) ?_
  refine va_get (D := (dC, dI)) (ci := 9) (v := .int lean) (C := RX9) (T := TX9) (N := 6) hx hb hts (fun w h => List.mem_cons_of_mem _ (jnGA_X9 w h)) hown hK hP 0 rfl rfl 5 (by decide) (hts _ (List.mem_cons_of_mem _ mGA_564)) (fun _ h9 => h9) rfl (dk_at dkX9_withLean 10 rfl) ?_
  have hPc := hP.sub (ws' := []) [] rfl
  have hKc := hK.sub (tys' := []) [] rfl
  refine va_calli (va_runSN (As := [.int p2, .int full, .int lean]) (rest := [.int p1, .int x_5, .ref bh]) ⟨hx, hb, hml, hown, hts⟩ (sX11_runWithLean l dC dI p2 full lean gp2 gfull glean) (⟨va_cnB 3 hts (gz_gP mGA_510 goodGA) rfl rfl rfl (nzA_X9_78 hz) (hts _ (List.mem_cons_of_mem _ mGA_1)) (by decide +kernel) ⟨Nat.le_of_ble_eq_true rfl, Nat.le_of_ble_eq_true rfl⟩, (hts _ (List.mem_cons_of_mem _ mGA_509)), trivial⟩) ⟨bl_I (bl_a bl_P (bl_a bl_K bl_nz)), fun U hU hW => ⟨rfl, by rw [hU]; exact hPc, va_K.moved hW.alike hKc, nzA_warm hW hz⟩⟩ rfl rfl hl.1 rfl (lv_room (Nat.le_of_ble_eq_true rfl)) (dk_at dkX9_withLean 11 rfl) ⟨Nat.zero_le _, Nat.zero_le _⟩) hS (fun q _ h => h.elim) (fun q h => h.elim) (fun r_6 u t H1 locs ht hvm hw hB hz1 hk1 hS => ?_)
  have hP := gz_keep hP hk1
  generalize H1 = H at hP hS ⊢
  have gr_6 : gi r_6 0 10 := hw
  have hPc := hP.sub (ws' := []) [] rfl
  have hKc := hK.sub (tys' := []) [] rfl
  refine va_calli (va_runSN (As := [.int x_5, .int p1, .int r_6]) (rest := [.ref bh]) ⟨hx, hb, hml, hown, hts⟩ (sX11_spot l dC dI x_5 p1 r_6 (gi_w gx_5 (by decide)) gp1 gr_6) (⟨va_cnB 3 hts (gz_gP mGA_582 goodGA) rfl rfl rfl (nzA_X9_63 hz) (hts _ (List.mem_cons_of_mem _ mGA_1)) (by decide +kernel) ⟨Nat.le_of_ble_eq_true rfl, Nat.le_of_ble_eq_true rfl⟩, (hts _ (List.mem_cons_of_mem _ mGA_581)), trivial⟩) ⟨bl_I (bl_a bl_P (bl_a bl_K bl_nz)), fun U hU hW => ⟨rfl, by rw [hU]; exact hPc, va_K.moved hW.alike hKc, nzA_warm hW hz⟩⟩ rfl rfl hl.1 rfl (lv_room (Nat.le_of_ble_eq_true rfl)) (dk_at dkX9_withLean 12 rfl) ⟨Nat.zero_le _, Nat.zero_le _⟩) hS (fun q _ h => h.elim) (fun q h => h.elim) (fun r_7 u t H1 locs ht hvm hw hB hz1 hk1 hS => ?_)
  have hP := gz_keep hP hk1
  generalize H1 = H at hP hS ⊢
  have gr_7 : gi r_7 0 3574 := hw
  refine va_iald hx hb hK hP 1 0 rfl rfl (gi_in gr_7 (by decide)) (dk_at dkX9_withLean 13 rfl) ?_
  refine lv_topi (fun x_8 ex_8 => ?_)
  exact W.iret (v := x_8) hx hb hr (fun t ht hW => ⟨⟨x_8, (), rfl, (gi_any x_8), trivial⟩, hS.F ht⟩) hS.2.2 (dk_at dkX9_withLean 14 rfl)
noncomputable def lsX9_total : List (Nat × Instr × Nat) := [(0, .aload_n 0, 1), (1, .getfield 15, 3), (4, .iconst 0, 1), (5, .iaload, 1), (6, .ireturn, 1)]
theorem dkX9_total : dkAll cX9_total lsX9_total = true := by decide +kernel
set_option maxHeartbeats 4000000 in
set_option maxRecDepth 100000 in
theorem sX9_total (l : Launch) (dC : Nat → ClassId) (dI : Nat → Nat → Nat) (h0 : Nat) (bh : Nat) (bf : Nat) (sa : Nat) (months : Int32) (full : Int32) (lean : Int32) (kbh : ClassId) (fbh : Nat → Int32) (gmonths : gi months 0 24) (gfull : gi full 0 5) (glean : gi lean 0 5) : Met l yX9_total (.code yX9_total cX9_total 1 (some .int) :: wsGA) ({ frames := 0, cells := 0, slots := 0, locals := 0 }) (va_Pc [.ref h0] (fun U => va_P (dC, dI) vwCl [(h0, .inr (9, [.ref bf, .ref bh, .ref sa, .int months, .int full, .int lean])), (bh, .inl (kbh, 3575, .inl fbh))] U.heap ∧ va_K (dC, dI) vwCl [(kbh, .int)] U ∧ nzA U)) (va_Qi (fun (r : Int32) (u : Unit) => gi r (-2147483648) 2147483647) (fun _ _ => True) (fun _ => False)) 0 0 (fun _ => False) := by
  refine Met.ofW (cc := cX9_total) (maxL := 1) (ret := (some .int)) (by decide) rfl ?_
  intro p e s m args below meth c s₁ B hml hv
  obtain ⟨rfl, hP, hK, hz⟩ := hv
  have hx := B.exec
  have hb := B.bytes
  have hr := B.returns
  have hts := atoms_spec (ws := (.code yX9_total cX9_total 1 (some .int) :: wsGA)) B.pre
  have hown : s.vm.findClass RX9 = some m.cls := findClass_of_methodNamed B.named
  have hlocks := B.notSynchronized
  have hS : va_S (fun _ => False) s.heap s.heap [] := va_S.rf
  have hl := lv_entry ([.ref h0]) (n := 1) (Nat.le_of_ble_eq_true rfl)
  rw [lg_entry_eq]
  generalize (lg_sl ([.ref h0]) ++ List.replicate (1 - (lg_sl ([.ref h0])).length) Slot.unset).toArray = ls at hl ⊢
  have hl : lv_has ls 1 [(0, .ref h0)] := hl
  refine lv_aload_n hx hb (dk_at dkX9_total 0 rfl) rfl (lv_at hl 0 rfl) ?_
  refine va_get (D := (dC, dI)) (ci := 9) (v := .ref bh) (C := RX9) (T := TX9) (N := 6) hx hb hts (fun w h => List.mem_cons_of_mem _ (jnGA_X9 w h)) hown hK hP 0 rfl rfl 1 (by decide) (hts _ (List.mem_cons_of_mem _ mGA_112)) (fun _ h9 => h9) rfl (dk_at dkX9_total 1 rfl) ?_
  refine lv_iconst (v := 0) hx hb (dk_at dkX9_total 2 rfl) (by decide) ?_
  refine va_iald hx hb hK hP 1 0 rfl rfl (gi_in (gi_c 0 0 (by decide)) (by decide)) (dk_at dkX9_total 3 rfl) ?_
  refine lv_topi (fun x_2 ex_2 => ?_)
  exact W.iret (v := x_2) hx hb hr (fun t ht hW => ⟨⟨x_2, (), rfl, (gi_any x_2), trivial⟩, hS.F ht⟩) hS.2.2 (dk_at dkX9_total 4 rfl)
noncomputable def lsX9_onDay : List (Nat × Instr × Nat) := [(0, .iload_n 2, 1), (1, .bipush 29, 2), (3, .iload_n 1, 1), (4, .imul, 1), (5, .isub, 1), (6, .istore_n 3, 1), (7, .iload_n 3, 1), (8, .ifCond .lt 8, 3), (11, .iload_n 3, 1), (12, .iload_n 1, 1), (13, .if_icmp .le 7, 3), (16, .iconst 0, 1), (17, .goto 13, 3), (20, .aload_n 0, 1), (21, .getfield 18, 3), (24, .iload_n 1, 1), (25, .iload_n 3, 1), (26, .invokestatic 92, 3), (29, .iaload, 1), (30, .ireturn, 1)]
theorem dkX9_onDay : dkAll cX9_onDay lsX9_onDay = true := by decide +kernel
set_option maxHeartbeats 4000000 in
set_option maxRecDepth 100000 in
theorem sX9_onDay (l : Launch) (dC : Nat → ClassId) (dI : Nat → Nat → Nat) (h0 : Nat) (sa : Nat) (bf : Nat) (bh : Nat) (months : Int32) (full : Int32) (lean : Int32) (ksa : ClassId) (fsa : Nat → Int32) (p0 : Int32) (p1 : Int32) (gmonths : gi months 0 24) (gfull : gi full 0 5) (glean : gi lean 0 5) (gp0 : gi p0 0 24) : Met l yX9_onDay (.code yX9_onDay cX9_onDay 4 (some .int) :: wsGA) ({ frames := 1, cells := 0, slots := 0, locals := 21 }) (va_Pc [.ref h0, .int p0, .int p1] (fun U => va_P (dC, dI) vwCl [(h0, .inr (9, [.ref bf, .ref bh, .ref sa, .int months, .int full, .int lean])), (sa, .inl (ksa, 325, .inl fsa))] U.heap ∧ va_K (dC, dI) vwCl [(ksa, .int)] U ∧ nzA U)) (va_Qi (fun (r : Int32) (u : Unit) => gi r (-2147483648) 2147483647) (fun _ _ => True) (fun _ => False)) 0 0 (fun _ => False) := by
  refine Met.ofW (cc := cX9_onDay) (maxL := 4) (ret := (some .int)) (by decide) rfl ?_
  intro p e s m args below meth c s₁ B hml hv
  obtain ⟨rfl, hP, hK, hz⟩ := hv
  have hx := B.exec
  have hb := B.bytes
  have hr := B.returns
  have hts := atoms_spec (ws := (.code yX9_onDay cX9_onDay 4 (some .int) :: wsGA)) B.pre
  have hown : s.vm.findClass RX9 = some m.cls := findClass_of_methodNamed B.named
  have hlocks := B.notSynchronized
  have hS : va_S (fun _ => False) s.heap s.heap [] := va_S.rf
  have hl := lv_entry ([.ref h0, .int p0, .int p1]) (n := 4) (Nat.le_of_ble_eq_true rfl)
  rw [lg_entry_eq]
  generalize (lg_sl ([.ref h0, .int p0, .int p1]) ++ List.replicate (4 - (lg_sl ([.ref h0, .int p0, .int p1])).length) Slot.unset).toArray = ls at hl ⊢
  have hl : lv_has ls 4 [(0, .ref h0), (1, .int p0), (2, .int p1)] := hl
  refine lv_iload_n hx hb (dk_at dkX9_onDay 0 rfl) rfl (lv_at hl 2 rfl) ?_
  refine lv_bipush (v := 29) hx hb (dk_at dkX9_onDay 1 rfl) (by decide) ?_
  refine lv_iload_n hx hb (dk_at dkX9_onDay 2 rfl) rfl (lv_at hl 1 rfl) ?_
  refine lv_imul hx hb (dk_at dkX9_onDay 3 rfl) ?_
  refine lv_topi (fun x_11 ex_11 => ?_)
  have gx_11 : gi x_11 0 696 := gi_mul ex_11 (gi_c 29 29 (by decide)) gp0 (by decide)
  refine lv_isub hx hb (dk_at dkX9_onDay 4 rfl) ?_
  refine lv_topi (fun x_12 ex_12 => ?_)
  refine lv_istore_n (lv' := [(3, .int x_12), (0, .ref h0), (1, .int p0), (2, .int p1)]) hx hb (dk_at dkX9_onDay 5 rfl) rfl hl (by decide) rfl (fun ls hl => ?_)
  refine lv_iload_n hx hb (dk_at dkX9_onDay 6 rfl) rfl (lv_at hl 0 rfl) ?_
  refine lv_if_lt (tgt := 16) hx hb (dk_at dkX9_onDay 7 rfl) (by decide) (fun c_13 => ?_) (fun c_13 => ?_)
  · have g_14 : gi x_12 (-2147483648) (-1) := gi_lt_l c_13 (gi_any x_12) (gi_c 0 0 (by decide)) (by decide)
    refine lv_iconst (v := 0) hx hb (dk_at dkX9_onDay 11 rfl) (by decide) ?_
    refine lv_goto (tgt := 30) hx hb (dk_at dkX9_onDay 12 rfl) (by decide) ?_
    exact W.iret (v := 0) hx hb hr (fun t ht hW => ⟨⟨0, (), rfl, (gi_any 0), trivial⟩, hS.F ht⟩) hS.2.2 (dk_at dkX9_onDay 19 rfl)
  · have g_15 : gi x_12 0 2147483647 := gi_le_r (Int32.not_lt.mp c_13) (gi_c 0 0 (by decide)) (gi_any x_12)
    refine lv_iload_n hx hb (dk_at dkX9_onDay 8 rfl) rfl (lv_at hl 0 rfl) ?_
    refine lv_iload_n hx hb (dk_at dkX9_onDay 9 rfl) rfl (lv_at hl 2 rfl) ?_
    refine lv_icmp_le (tgt := 20) hx hb (dk_at dkX9_onDay 10 rfl) (by decide) (fun c_16 => ?_) (fun c_16 => ?_)
    · have g_17 : gi x_12 0 24 := gi_le_l c_16 g_15 gp0
      refine lv_aload_n hx hb (dk_at dkX9_onDay 13 rfl) rfl (lv_at hl 1 rfl) ?_
      refine va_get (D := (dC, dI)) (ci := 9) (v := .ref sa) (C := RX9) (T := TX9) (N := 6) hx hb hts (fun w h => List.mem_cons_of_mem _ (jnGA_X9 w h)) hown hK hP 0 rfl rfl 2 (by decide) (hts _ (List.mem_cons_of_mem _ mGA_113)) (fun _ h9 => h9) rfl (dk_at dkX9_onDay 14 rfl) ?_
      refine lv_iload_n hx hb (dk_at dkX9_onDay 15 rfl) rfl (lv_at hl 2 rfl) ?_
      refine lv_iload_n hx hb (dk_at dkX9_onDay 16 rfl) rfl (lv_at hl 0 rfl) ?_
      have hPc := hP.sub (ws' := []) [] rfl
      have hKc := hK.sub (tys' := []) [] rfl
      refine va_calli (va_runSN (As := [.int p0, .int x_12]) (rest := [.ref sa]) ⟨hx, hb, hml, hown, hts⟩ (sX11_cell l dC dI p0 x_12 gp0 g_17) (⟨va_cnB 2 hts (gz_gP mGA_585 goodGA) rfl rfl rfl (nzA_X9_92 hz) (hts _ (List.mem_cons_of_mem _ mGA_1)) (by decide +kernel) ⟨Nat.le_of_ble_eq_true rfl, Nat.le_of_ble_eq_true rfl⟩, (hts _ (List.mem_cons_of_mem _ mGA_584)), trivial⟩) ⟨bl_I (bl_a bl_P (bl_a bl_K bl_nz)), fun U hU hW => ⟨rfl, by rw [hU]; exact hPc, va_K.moved hW.alike hKc, nzA_warm hW hz⟩⟩ rfl rfl hl.1 rfl (lv_room (Nat.le_of_ble_eq_true rfl)) (dk_at dkX9_onDay 17 rfl) ⟨Nat.zero_le _, Nat.zero_le _⟩) hS (fun q _ h => h.elim) (fun q h => h.elim) (fun r_18 u t H1 locs ht hvm hw hB hz1 hk1 hS => ?_)
      have hP := gz_keep hP hk1
      generalize H1 = H at hP hS ⊢
      have gr_18 : gi r_18 0 324 := hw
      refine va_iald hx hb hK hP 1 0 rfl rfl (gi_in gr_18 (by decide)) (dk_at dkX9_onDay 18 rfl) ?_
      refine lv_topi (fun x_19 ex_19 => ?_)
      exact W.iret (v := x_19) hx hb hr (fun t ht hW => ⟨⟨x_19, (), rfl, (gi_any x_19), trivial⟩, hS.F ht⟩) hS.2.2 (dk_at dkX9_onDay 19 rfl)
    · have g_20 : gi x_12 1 2147483647 := gi_lt_r (Int32.not_le.mp c_16) gp0 g_15 (by decide)
      refine lv_iconst (v := 0) hx hb (dk_at dkX9_onDay 11 rfl) (by decide) ?_
      refine lv_goto (tgt := 30) hx hb (dk_at dkX9_onDay 12 rfl) (by decide) ?_
      exact W.iret (v := 0) hx hb hr (fun t ht hW => ⟨⟨0, (), rfl, (gi_any 0), trivial⟩, hS.F ht⟩) hS.2.2 (dk_at dkX9_onDay 19 rfl)
noncomputable def lsX9_onWeekday : List (Nat × Instr × Nat) := [(0, .iconst 0, 1), (1, .istore 4, 2), (3, .iconst 0, 1), (4, .istore 5, 2), (6, .iload 5, 2), (8, .iload_n 1, 1), (9, .if_icmp .gt 40, 3), (12, .iload_n 1, 1), (13, .iload 5, 2), (15, .invokestatic 95, 3), (18, .iload_n 2, 1), (19, .iadd, 1), (20, .bipush 7, 2), (22, .irem, 1), (23, .iload_n 3, 1), (24, .if_icmp .ne 19, 3), (27, .iload 4, 2), (29, .aload_n 0, 1), (30, .getfield 18, 3), (33, .iload_n 1, 1), (34, .iload 5, 2), (36, .invokestatic 92, 3), (39, .iaload, 1), (40, .iadd, 1), (41, .istore 4, 2), (43, .iinc 5 1, 3), (46, .goto (-40), 3), (49, .iload 4, 2), (51, .ireturn, 1)]
theorem dkX9_onWeekday : dkAll cX9_onWeekday lsX9_onWeekday = true := by decide +kernel
set_option maxHeartbeats 4000000 in
set_option maxRecDepth 100000 in
theorem lp_sX9_onWeekday {p : Program} {l : Launch} {e : Env} {R : Room} {s : State} {m : MethodId} {args : Array Value} {below : List Frame} {meth : Method} {c : Code} {Q : State → Prop} {A : Nat → Prop} {cells slots : Nat} {dC : Nat → ClassId} {dI : Nat → Nat → Nat} (h0 : Nat) (sa : Nat) (bf : Nat) (bh : Nat) (months : Int32) (full : Int32) (lean : Int32) (ksa : ClassId) (fsa : Nat → Int32) (p0 : Int32) (p1 : Int32) (p2 : Int32) (gmonths : gi months 0 24) (gfull : gi full 0 5) (glean : gi lean 0 5) (gp0 : gi p0 0 24) (hx : p.tables.exec = Jvm.exec) (hb : c.code = cX9_onWeekday) (hml : c.maxLocals = 6) (hown : s.vm.findClass RX9 = some m.cls) (hts : ∀ w ∈ ((.code yX9_onWeekday cX9_onWeekday 6 (some .int) :: wsGA) : List Cond), w.before args s = true) (hK : va_K (dC, dI) vwCl [(ksa, .int)] s) (hz : nzA s) (hRf : 1 ≤ R.frames) (hRl : 21 ≤ R.locals) (hRc : cells ≤ R.cells) (hRs : slots ≤ R.slots) (kr51 : ∀ (v : Int32) (H : Heap) (locs : List Loc) (ls : Array Slot), va_P (dC, dI) vwCl [(h0, .inr (9, [.ref bf, .ref bh, .ref sa, .int months, .int full, .int lean])), (sa, .inl (ksa, 325, .inl fsa))] H → va_S A s.heap H locs → lv_has ls 6 [] → W p l e R s m args below meth c H locs cells slots Q (F0 m 51 ls [.int v])) : ∀ z : Nat, (∀ (v4 : Int32) (v5 : Int32) (H : Heap) (locs : List Loc) (ls : Array Slot), gi v5 0 25 → 51 + (-2) * v5.toInt < (z : Int) → va_P (dC, dI) vwCl [(h0, .inr (9, [.ref bf, .ref bh, .ref sa, .int months, .int full, .int lean])), (sa, .inl (ksa, 325, .inl fsa))] H → va_S A s.heap H locs → lv_has ls 6 [(0, .ref h0), (1, .int p0), (2, .int p1), (3, .int p2), (4, .int v4), (5, .int v5)] → W p l e R s m args below meth c H locs cells slots Q (F0 m 6 ls [])) := by
  intro z
  induction z with
  | zero =>
    intro v4 v5 H locs ls gv5 hmu hP hS hl
    exact absurd hmu (by have hv51 := gv5.1; have hv52 := gv5.2; omega)
  | succ z ih =>
      intro v4 v5 H locs ls gv5 hmu hP hS hl
      refine lv_iload hx hb (dk_at dkX9_onWeekday 4 rfl) (lv_at hl 5 rfl) ?_
      refine lv_iload_n hx hb (dk_at dkX9_onWeekday 5 rfl) rfl (lv_at hl 1 rfl) ?_
      refine lv_icmp_gt (tgt := 49) hx hb (dk_at dkX9_onWeekday 6 rfl) (by decide) (fun c_191 => ?_) (fun c_191 => ?_)
      · have g_192 : gi v5 1 25 := gi_lt_r c_191 gp0 gv5 (by decide)
        refine lv_iload hx hb (dk_at dkX9_onWeekday 27 rfl) (lv_at hl 4 rfl) ?_
        exact kr51 v4 _ _ _ hP hS (lv_sub hl [] rfl)
      · have g_193 : gi v5 0 24 := gi_le_l (Int32.not_lt.mp c_191) gv5 gp0
        refine lv_iload_n hx hb (dk_at dkX9_onWeekday 7 rfl) rfl (lv_at hl 1 rfl) ?_
        refine lv_iload hx hb (dk_at dkX9_onWeekday 8 rfl) (lv_at hl 5 rfl) ?_
        have hPc := hP.sub (ws' := []) [] rfl
        have hKc := hK.sub (tys' := []) [] rfl
        refine va_calli (va_runSN (As := [.int p0, .int v5]) (rest := []) ⟨hx, hb, hml, hown, hts⟩ (sX11_dayOf l dC dI p0 v5) (⟨va_cnB 2 hts (gz_gP mGA_516 goodGA) rfl rfl rfl (nzA_X9_95 hz) (hts _ (List.mem_cons_of_mem _ mGA_1)) (by decide +kernel) ⟨Nat.le_trans (Nat.le_of_ble_eq_true rfl) hRf, Nat.le_trans (Nat.le_of_ble_eq_true rfl) hRl⟩, (hts _ (List.mem_cons_of_mem _ mGA_515)), trivial⟩) ⟨bl_I (bl_a bl_P (bl_a bl_K bl_nz)), fun U hU hW => ⟨rfl, by rw [hU]; exact hPc, va_K.moved hW.alike hKc, nzA_warm hW hz⟩⟩ rfl rfl hl.1 rfl (lv_room (Nat.le_of_ble_eq_true rfl)) (dk_at dkX9_onWeekday 9 rfl) ⟨hRc, hRs⟩) hS (fun q _ h => h.elim) (fun q h => h.elim) (fun r_194 u t H1 locs ht hvm hw hB hz1 hk1 hS => ?_)
        have hP := gz_keep hP hk1
        generalize H1 = H at hP hS ⊢
        refine lv_iload_n hx hb (dk_at dkX9_onWeekday 10 rfl) rfl (lv_at hl 2 rfl) ?_
        refine lv_iadd hx hb (dk_at dkX9_onWeekday 11 rfl) ?_
        refine lv_topi (fun x_195 ex_195 => ?_)
        refine lv_bipush (v := 7) hx hb (dk_at dkX9_onWeekday 12 rfl) (by decide) ?_
        refine lv_irem hx hb (dk_at dkX9_onWeekday 13 rfl) (by decide) ?_
        refine lv_topi (fun x_196 ex_196 => ?_)
        refine lv_iload_n hx hb (dk_at dkX9_onWeekday 14 rfl) rfl (lv_at hl 3 rfl) ?_
        refine lv_icmp_ne (tgt := 43) hx hb (dk_at dkX9_onWeekday 15 rfl) (by decide) (fun c_197 => ?_) (fun c_197 => ?_)
        · obtain ⟨x_198, ex_198⟩ : ∃ y : Int32, y = v5 + 1 := ⟨_, rfl⟩
          have gx_198 : gi x_198 1 25 := gi_add ex_198 g_193 (gi_c 1 1 (by decide)) (by decide)
          refine lv_iinc (v := x_198) (lv' := [(5, .int x_198), (0, .ref h0), (1, .int p0), (2, .int p1), (3, .int p2), (4, .int v4)]) hx hb (dk_at dkX9_onWeekday 25 rfl) hl (k := 5) rfl (by rw [ex_198]; rfl) (by decide) rfl (fun ls hl => ?_)
          refine lv_goto (tgt := 6) hx hb (dk_at dkX9_onWeekday 26 rfl) (by decide) ?_
          exact ih v4 x_198 _ _ _ (gi_w gx_198 (by decide)) (by have av5 := gv5.1; have bv5 := gv5.2; have qgx_198 := gx_198.1; have rgx_198 := gx_198.2; have igx_198 : x_198.toInt = v5.toInt + 1 := (by have hc1 : (1 : Int32).toInt = 1 := (by decide); have h9 := gi_addI ex_198 (by have h1 := g_193.1; have h2 := (gi_c 1 1 (by decide)).1; have h3 := g_193.2; have h4 := (gi_c 1 1 (by decide)).2; omega) (by have h1 := g_193.1; have h2 := (gi_c 1 1 (by decide)).1; have h3 := g_193.2; have h4 := (gi_c 1 1 (by decide)).2; omega); rw [hc1] at h9; exact h9); have qgv5 := g_193.1; have rgv5 := g_193.2; omega) hP hS (lv_sub hl [1, 2, 3, 4, 5, 0] rfl)
        · refine lv_iload hx hb (dk_at dkX9_onWeekday 16 rfl) (lv_at hl 4 rfl) ?_
          refine lv_aload_n hx hb (dk_at dkX9_onWeekday 17 rfl) rfl (lv_at hl 0 rfl) ?_
          refine va_get (D := (dC, dI)) (ci := 9) (v := .ref sa) (C := RX9) (T := TX9) (N := 6) hx hb hts (fun w h => List.mem_cons_of_mem _ (jnGA_X9 w h)) hown hK hP 0 rfl rfl 2 (by decide) (hts _ (List.mem_cons_of_mem _ mGA_113)) (fun _ h9 => h9) rfl (dk_at dkX9_onWeekday 18 rfl) ?_
          refine lv_iload_n hx hb (dk_at dkX9_onWeekday 19 rfl) rfl (lv_at hl 1 rfl) ?_
          refine lv_iload hx hb (dk_at dkX9_onWeekday 20 rfl) (lv_at hl 5 rfl) ?_
          have hPc := hP.sub (ws' := []) [] rfl
          have hKc := hK.sub (tys' := []) [] rfl
          refine va_calli (va_runSN (As := [.int p0, .int v5]) (rest := [.ref sa, .int v4]) ⟨hx, hb, hml, hown, hts⟩ (sX11_cell l dC dI p0 v5 gp0 g_193) (⟨va_cnB 2 hts (gz_gP mGA_585 goodGA) rfl rfl rfl (nzA_X9_92 hz) (hts _ (List.mem_cons_of_mem _ mGA_1)) (by decide +kernel) ⟨Nat.le_trans (Nat.le_of_ble_eq_true rfl) hRf, Nat.le_trans (Nat.le_of_ble_eq_true rfl) hRl⟩, (hts _ (List.mem_cons_of_mem _ mGA_584)), trivial⟩) ⟨bl_I (bl_a bl_P (bl_a bl_K bl_nz)), fun U hU hW => ⟨rfl, by rw [hU]; exact hPc, va_K.moved hW.alike hKc, nzA_warm hW hz⟩⟩ rfl rfl hl.1 rfl (lv_room (Nat.le_of_ble_eq_true rfl)) (dk_at dkX9_onWeekday 21 rfl) ⟨hRc, hRs⟩) hS (fun q _ h => h.elim) (fun q h => h.elim) (fun r_199 u t H1 locs ht hvm hw hB hz1 hk1 hS => ?_)
          have hP := gz_keep hP hk1
          generalize H1 = H at hP hS ⊢
          have gr_199 : gi r_199 0 324 := hw
          refine va_iald hx hb hK hP 1 0 rfl rfl (gi_in gr_199 (by decide)) (dk_at dkX9_onWeekday 22 rfl) ?_
          refine lv_topi (fun x_200 ex_200 => ?_)
          refine lv_iadd hx hb (dk_at dkX9_onWeekday 23 rfl) ?_
          refine lv_topi (fun x_201 ex_201 => ?_)
          refine lv_istore (lv' := [(4, .int x_201), (0, .ref h0), (1, .int p0), (2, .int p1), (3, .int p2), (5, .int v5)]) hx hb (dk_at dkX9_onWeekday 24 rfl) hl (by decide) rfl (fun ls hl => ?_)
          obtain ⟨x_202, ex_202⟩ : ∃ y : Int32, y = v5 + 1 := ⟨_, rfl⟩
          have gx_202 : gi x_202 1 25 := gi_add ex_202 g_193 (gi_c 1 1 (by decide)) (by decide)
          refine lv_iinc (v := x_202) (lv' := [(5, .int x_202), (4, .int x_201), (0, .ref h0), (1, .int p0), (2, .int p1), (3, .int p2)]) hx hb (dk_at dkX9_onWeekday 25 rfl) hl (k := 5) rfl (by rw [ex_202]; rfl) (by decide) rfl (fun ls hl => ?_)
          refine lv_goto (tgt := 6) hx hb (dk_at dkX9_onWeekday 26 rfl) (by decide) ?_
          exact ih x_201 x_202 _ _ _ (gi_w gx_202 (by decide)) (by have av5 := gv5.1; have bv5 := gv5.2; have qgx_202 := gx_202.1; have rgx_202 := gx_202.2; have igx_202 : x_202.toInt = v5.toInt + 1 := (by have hc1 : (1 : Int32).toInt = 1 := (by decide); have h9 := gi_addI ex_202 (by have h1 := g_193.1; have h2 := (gi_c 1 1 (by decide)).1; have h3 := g_193.2; have h4 := (gi_c 1 1 (by decide)).2; omega) (by have h1 := g_193.1; have h2 := (gi_c 1 1 (by decide)).1; have h3 := g_193.2; have h4 := (gi_c 1 1 (by decide)).2; omega); rw [hc1] at h9; exact h9); have qgv5 := g_193.1; have rgv5 := g_193.2; omega) hP hS (lv_sub hl [2, 3, 4, 5, 1, 0] rfl)
set_option maxHeartbeats 4000000 in
set_option maxRecDepth 100000 in
theorem sX9_onWeekday (l : Launch) (dC : Nat → ClassId) (dI : Nat → Nat → Nat) (h0 : Nat) (sa : Nat) (bf : Nat) (bh : Nat) (months : Int32) (full : Int32) (lean : Int32) (ksa : ClassId) (fsa : Nat → Int32) (p0 : Int32) (p1 : Int32) (p2 : Int32) (gmonths : gi months 0 24) (gfull : gi full 0 5) (glean : gi lean 0 5) (gp0 : gi p0 0 24) : Met l yX9_onWeekday (.code yX9_onWeekday cX9_onWeekday 6 (some .int) :: wsGA) ({ frames := 1, cells := 0, slots := 0, locals := 21 }) (va_Pc [.ref h0, .int p0, .int p1, .int p2] (fun U => va_P (dC, dI) vwCl [(h0, .inr (9, [.ref bf, .ref bh, .ref sa, .int months, .int full, .int lean])), (sa, .inl (ksa, 325, .inl fsa))] U.heap ∧ va_K (dC, dI) vwCl [(ksa, .int)] U ∧ nzA U)) (va_Qi (fun (r : Int32) (u : Unit) => gi r (-2147483648) 2147483647) (fun _ _ => True) (fun _ => False)) 0 0 (fun _ => False) := by
  refine Met.ofW (cc := cX9_onWeekday) (maxL := 6) (ret := (some .int)) (by decide) rfl ?_
  intro p e s m args below meth c s₁ B hml hv
  obtain ⟨rfl, hP, hK, hz⟩ := hv
  have hx := B.exec
  have hb := B.bytes
  have hr := B.returns
  have hts := atoms_spec (ws := (.code yX9_onWeekday cX9_onWeekday 6 (some .int) :: wsGA)) B.pre
  have hown : s.vm.findClass RX9 = some m.cls := findClass_of_methodNamed B.named
  have hlocks := B.notSynchronized
  have hS : va_S (fun _ => False) s.heap s.heap [] := va_S.rf
  have hl := lv_entry ([.ref h0, .int p0, .int p1, .int p2]) (n := 6) (Nat.le_of_ble_eq_true rfl)
  rw [lg_entry_eq]
  generalize (lg_sl ([.ref h0, .int p0, .int p1, .int p2]) ++ List.replicate (6 - (lg_sl ([.ref h0, .int p0, .int p1, .int p2])).length) Slot.unset).toArray = ls at hl ⊢
  have hl : lv_has ls 6 [(0, .ref h0), (1, .int p0), (2, .int p1), (3, .int p2)] := hl
  refine lv_iconst (v := 0) hx hb (dk_at dkX9_onWeekday 0 rfl) (by decide) ?_
  refine lv_istore (lv' := [(4, .int 0), (0, .ref h0), (1, .int p0), (2, .int p1), (3, .int p2)]) hx hb (dk_at dkX9_onWeekday 1 rfl) hl (by decide) rfl (fun ls hl => ?_)
  refine lv_iconst (v := 0) hx hb (dk_at dkX9_onWeekday 2 rfl) (by decide) ?_
  refine lv_istore (lv' := [(5, .int 0), (4, .int 0), (0, .ref h0), (1, .int p0), (2, .int p1), (3, .int p2)]) hx hb (dk_at dkX9_onWeekday 3 rfl) hl (by decide) rfl (fun ls hl => ?_)
  refine (lp_sX9_onWeekday h0 sa bf bh months full lean ksa fsa p0 p1 p2 gmonths gfull glean gp0 hx hb hml hown hts hK hz (Nat.le_of_ble_eq_true rfl) (Nat.le_of_ble_eq_true rfl) (Nat.zero_le _) (Nat.zero_le _) (fun v H locs ls hP hS hl => ?_) 64) 0 0 _ _ _ (gi_w (gi_c 0 0 (by decide)) (by decide)) (by have k0 : (0 : Int32).toInt = 0 := (by decide); omega) hP hS (lv_sub hl [2, 3, 4, 5, 1, 0] rfl)
  · skip
    exact W.iret (v := v) hx hb hr (fun t ht hW => ⟨⟨v, (), rfl, (gi_any v), trivial⟩, hS.F ht⟩) hS.2.2 (dk_at dkX9_onWeekday 28 rfl)
noncomputable def lsX9_bound : List (Nat × Instr × Nat) := [(0, .iconst 0, 1), (1, .istore_n 3, 1), (2, .iload_n 3, 1), (3, .iload_n 1, 1), (4, .if_icmp .gt 43, 3), (7, .iload_n 2, 1), (8, .ifCond .eq 9, 3), (11, .iload_n 1, 1), (12, .iload_n 3, 1), (13, .isub, 1), (14, .goto 4, 3), (17, .iload_n 3, 1), (18, .istore 4, 2), (20, .aload_n 0, 1), (21, .getfield 18, 3), (24, .iload_n 1, 1), (25, .iload 4, 2), (27, .invokestatic 92, 3), (30, .iaload, 1), (31, .ifCond .le 10, 3), (34, .iload_n 1, 1), (35, .iload 4, 2), (37, .invokestatic 95, 3), (40, .ireturn, 1), (41, .iinc 3 1, 3), (44, .goto (-42), 3), (47, .iconst (-1), 1), (48, .ireturn, 1)]
theorem dkX9_bound : dkAll cX9_bound lsX9_bound = true := by decide +kernel
set_option maxHeartbeats 4000000 in
set_option maxRecDepth 100000 in
theorem lp_sX9_bound {p : Program} {l : Launch} {e : Env} {R : Room} {s : State} {m : MethodId} {args : Array Value} {below : List Frame} {meth : Method} {c : Code} {Q : State → Prop} {A : Nat → Prop} {cells slots : Nat} {dC : Nat → ClassId} {dI : Nat → Nat → Nat} (h0 : Nat) (sa : Nat) (bf : Nat) (bh : Nat) (months : Int32) (full : Int32) (lean : Int32) (ksa : ClassId) (fsa : Nat → Int32) (p0 : Int32) (p1 : Int32) (gmonths : gi months 0 24) (gfull : gi full 0 5) (glean : gi lean 0 5) (gp0 : gi p0 0 24) (gp1 : gi p1 0 1) (hx : p.tables.exec = Jvm.exec) (hb : c.code = cX9_bound) (hml : c.maxLocals = 5) (hown : s.vm.findClass RX9 = some m.cls) (hts : ∀ w ∈ ((.code yX9_bound cX9_bound 5 (some .int) :: wsGA) : List Cond), w.before args s = true) (hK : va_K (dC, dI) vwCl [(ksa, .int)] s) (hz : nzA s) (hRf : 1 ≤ R.frames) (hRl : 21 ≤ R.locals) (hRc : cells ≤ R.cells) (hRs : slots ≤ R.slots) (kr48 : ∀ (v : Int32) (H : Heap) (locs : List Loc) (ls : Array Slot), gi v (-1) (-1) → va_P (dC, dI) vwCl [(h0, .inr (9, [.ref bf, .ref bh, .ref sa, .int months, .int full, .int lean])), (sa, .inl (ksa, 325, .inl fsa))] H → va_S A s.heap H locs → lv_has ls 5 [] → W p l e R s m args below meth c H locs cells slots Q (F0 m 48 ls [.int v])) (kr40 : ∀ (v : Int32) (H : Heap) (locs : List Loc) (ls : Array Slot), va_P (dC, dI) vwCl [(h0, .inr (9, [.ref bf, .ref bh, .ref sa, .int months, .int full, .int lean])), (sa, .inl (ksa, 325, .inl fsa))] H → va_S A s.heap H locs → lv_has ls 5 [] → W p l e R s m args below meth c H locs cells slots Q (F0 m 40 ls [.int v])) : ∀ z : Nat, (∀ (v3 : Int32) (H : Heap) (locs : List Loc) (ls : Array Slot), gi v3 0 25 → 51 + (-2) * v3.toInt < (z : Int) → va_P (dC, dI) vwCl [(h0, .inr (9, [.ref bf, .ref bh, .ref sa, .int months, .int full, .int lean])), (sa, .inl (ksa, 325, .inl fsa))] H → va_S A s.heap H locs → lv_has ls 5 [(0, .ref h0), (1, .int p0), (2, .int p1), (3, .int v3)] → W p l e R s m args below meth c H locs cells slots Q (F0 m 2 ls [])) := by
  intro z
  induction z with
  | zero =>
    intro v3 H locs ls gv3 hmu hP hS hl
    exact absurd hmu (by have hv31 := gv3.1; have hv32 := gv3.2; omega)
  | succ z ih =>
      intro v3 H locs ls gv3 hmu hP hS hl
      refine lv_iload_n hx hb (dk_at dkX9_bound 2 rfl) rfl (lv_at hl 3 rfl) ?_
      refine lv_iload_n hx hb (dk_at dkX9_bound 3 rfl) rfl (lv_at hl 1 rfl) ?_
      refine lv_icmp_gt (tgt := 47) hx hb (dk_at dkX9_bound 4 rfl) (by decide) (fun c_335 => ?_) (fun c_335 => ?_)
      · have g_336 : gi v3 1 25 := gi_lt_r c_335 gp0 gv3 (by decide)
        refine lv_iconst (v := (-1)) hx hb (dk_at dkX9_bound 26 rfl) (by decide) ?_
        exact kr48 (-1) _ _ _ (gi_c (-1) (-1) (by decide)) hP hS (lv_sub hl [] rfl)
      · have g_337 : gi v3 0 24 := gi_le_l (Int32.not_lt.mp c_335) gv3 gp0
        refine lv_iload_n hx hb (dk_at dkX9_bound 5 rfl) rfl (lv_at hl 2 rfl) ?_
        refine lv_if_eq (tgt := 17) hx hb (dk_at dkX9_bound 6 rfl) (by decide) (fun c_338 => ?_) (fun c_338 => ?_)
        · have g_339 : gi p1 0 0 := gi_eq c_338 (gi_c 0 0 (by decide))
          refine lv_iload_n hx hb (dk_at dkX9_bound 11 rfl) rfl (lv_at hl 3 rfl) ?_
          refine lv_istore (lv' := [(4, .int v3), (0, .ref h0), (1, .int p0), (2, .int p1), (3, .int v3)]) hx hb (dk_at dkX9_bound 12 rfl) hl (by decide) rfl (fun ls hl => ?_)
          refine lv_aload_n hx hb (dk_at dkX9_bound 13 rfl) rfl (lv_at hl 1 rfl) ?_
          refine va_get (D := (dC, dI)) (ci := 9) (v := .ref sa) (C := RX9) (T := TX9) (N := 6) hx hb hts (fun w h => List.mem_cons_of_mem _ (jnGA_X9 w h)) hown hK hP 0 rfl rfl 2 (by decide) (hts _ (List.mem_cons_of_mem _ mGA_113)) (fun _ h9 => h9) rfl (dk_at dkX9_bound 14 rfl) ?_
          refine lv_iload_n hx hb (dk_at dkX9_bound 15 rfl) rfl (lv_at hl 2 rfl) ?_
          refine lv_iload hx hb (dk_at dkX9_bound 16 rfl) (lv_at hl 0 rfl) ?_
          have hPc := hP.sub (ws' := []) [] rfl
          have hKc := hK.sub (tys' := []) [] rfl
          refine va_calli (va_runSN (As := [.int p0, .int v3]) (rest := [.ref sa]) ⟨hx, hb, hml, hown, hts⟩ (sX11_cell l dC dI p0 v3 gp0 g_337) (⟨va_cnB 2 hts (gz_gP mGA_585 goodGA) rfl rfl rfl (nzA_X9_92 hz) (hts _ (List.mem_cons_of_mem _ mGA_1)) (by decide +kernel) ⟨Nat.le_trans (Nat.le_of_ble_eq_true rfl) hRf, Nat.le_trans (Nat.le_of_ble_eq_true rfl) hRl⟩, (hts _ (List.mem_cons_of_mem _ mGA_584)), trivial⟩) ⟨bl_I (bl_a bl_P (bl_a bl_K bl_nz)), fun U hU hW => ⟨rfl, by rw [hU]; exact hPc, va_K.moved hW.alike hKc, nzA_warm hW hz⟩⟩ rfl rfl hl.1 rfl (lv_room (Nat.le_of_ble_eq_true rfl)) (dk_at dkX9_bound 17 rfl) ⟨hRc, hRs⟩) hS (fun q _ h => h.elim) (fun q h => h.elim) (fun r_340 u t H1 locs ht hvm hw hB hz1 hk1 hS => ?_)
          have hP := gz_keep hP hk1
          generalize H1 = H at hP hS ⊢
          have gr_340 : gi r_340 0 324 := hw
          refine va_iald hx hb hK hP 1 0 rfl rfl (gi_in gr_340 (by decide)) (dk_at dkX9_bound 18 rfl) ?_
          refine lv_topi (fun x_341 ex_341 => ?_)
          refine lv_if_le (tgt := 41) hx hb (dk_at dkX9_bound 19 rfl) (by decide) (fun c_342 => ?_) (fun c_342 => ?_)
          · have g_343 : gi x_341 (-2147483648) 0 := gi_le_l c_342 (gi_any x_341) (gi_c 0 0 (by decide))
            obtain ⟨x_344, ex_344⟩ : ∃ y : Int32, y = v3 + 1 := ⟨_, rfl⟩
            have gx_344 : gi x_344 1 25 := gi_add ex_344 g_337 (gi_c 1 1 (by decide)) (by decide)
            refine lv_iinc (v := x_344) (lv' := [(3, .int x_344), (4, .int v3), (0, .ref h0), (1, .int p0), (2, .int p1)]) hx hb (dk_at dkX9_bound 24 rfl) hl (k := 4) rfl (by rw [ex_344]; rfl) (by decide) rfl (fun ls hl => ?_)
            refine lv_goto (tgt := 2) hx hb (dk_at dkX9_bound 25 rfl) (by decide) ?_
            exact ih x_344 _ _ _ (gi_w gx_344 (by decide)) (by have av3 := gv3.1; have bv3 := gv3.2; have qgx_344 := gx_344.1; have rgx_344 := gx_344.2; have igx_344 : x_344.toInt = v3.toInt + 1 := (by have hc1 : (1 : Int32).toInt = 1 := (by decide); have h9 := gi_addI ex_344 (by have h1 := g_337.1; have h2 := (gi_c 1 1 (by decide)).1; have h3 := g_337.2; have h4 := (gi_c 1 1 (by decide)).2; omega) (by have h1 := g_337.1; have h2 := (gi_c 1 1 (by decide)).1; have h3 := g_337.2; have h4 := (gi_c 1 1 (by decide)).2; omega); rw [hc1] at h9; exact h9); have qgv3 := g_337.1; have rgv3 := g_337.2; omega) hP hS (lv_sub hl [2, 3, 4, 0] rfl)
          · have g_345 : gi x_341 1 2147483647 := gi_lt_r (Int32.not_le.mp c_342) (gi_c 0 0 (by decide)) (gi_any x_341) (by decide)
            refine lv_iload_n hx hb (dk_at dkX9_bound 20 rfl) rfl (lv_at hl 2 rfl) ?_
            refine lv_iload hx hb (dk_at dkX9_bound 21 rfl) (lv_at hl 0 rfl) ?_
            have hPc := hP.sub (ws' := []) [] rfl
            have hKc := hK.sub (tys' := []) [] rfl
            refine va_calli (va_runSN (As := [.int p0, .int v3]) (rest := []) ⟨hx, hb, hml, hown, hts⟩ (sX11_dayOf l dC dI p0 v3) (⟨va_cnB 2 hts (gz_gP mGA_516 goodGA) rfl rfl rfl (nzA_X9_95 hz) (hts _ (List.mem_cons_of_mem _ mGA_1)) (by decide +kernel) ⟨Nat.le_trans (Nat.le_of_ble_eq_true rfl) hRf, Nat.le_trans (Nat.le_of_ble_eq_true rfl) hRl⟩, (hts _ (List.mem_cons_of_mem _ mGA_515)), trivial⟩) ⟨bl_I (bl_a bl_P (bl_a bl_K bl_nz)), fun U hU hW => ⟨rfl, by rw [hU]; exact hPc, va_K.moved hW.alike hKc, nzA_warm hW hz⟩⟩ rfl rfl hl.1 rfl (lv_room (Nat.le_of_ble_eq_true rfl)) (dk_at dkX9_bound 22 rfl) ⟨hRc, hRs⟩) hS (fun q _ h => h.elim) (fun q h => h.elim) (fun r_346 u t H1 locs ht hvm hw hB hz1 hk1 hS => ?_)
            have hP := gz_keep hP hk1
            generalize H1 = H at hP hS ⊢
            exact kr40 r_346 _ _ _ hP hS (lv_sub hl [] rfl)
        · have g_347 : gi p1 1 1 := gi_ne_lo c_338 gp1 (gi_c 0 0 (by decide)) (by decide)
          refine lv_iload_n hx hb (dk_at dkX9_bound 7 rfl) rfl (lv_at hl 1 rfl) ?_
          refine lv_iload_n hx hb (dk_at dkX9_bound 8 rfl) rfl (lv_at hl 3 rfl) ?_
          refine lv_isub hx hb (dk_at dkX9_bound 9 rfl) ?_
          refine lv_topi (fun x_348 ex_348 => ?_)
          have gx_348 : gi x_348 0 24 := gi_subrel ex_348 (Int32.le_iff_toInt_le.mp (Int32.not_lt.mp c_335)) gp0 g_337 (by decide)
          refine lv_goto (tgt := 18) hx hb (dk_at dkX9_bound 10 rfl) (by decide) ?_
          refine lv_istore (lv' := [(4, .int x_348), (0, .ref h0), (1, .int p0), (2, .int p1), (3, .int v3)]) hx hb (dk_at dkX9_bound 12 rfl) hl (by decide) rfl (fun ls hl => ?_)
          refine lv_aload_n hx hb (dk_at dkX9_bound 13 rfl) rfl (lv_at hl 1 rfl) ?_
          refine va_get (D := (dC, dI)) (ci := 9) (v := .ref sa) (C := RX9) (T := TX9) (N := 6) hx hb hts (fun w h => List.mem_cons_of_mem _ (jnGA_X9 w h)) hown hK hP 0 rfl rfl 2 (by decide) (hts _ (List.mem_cons_of_mem _ mGA_113)) (fun _ h9 => h9) rfl (dk_at dkX9_bound 14 rfl) ?_
          refine lv_iload_n hx hb (dk_at dkX9_bound 15 rfl) rfl (lv_at hl 2 rfl) ?_
          refine lv_iload hx hb (dk_at dkX9_bound 16 rfl) (lv_at hl 0 rfl) ?_
          have hPc := hP.sub (ws' := []) [] rfl
          have hKc := hK.sub (tys' := []) [] rfl
          refine va_calli (va_runSN (As := [.int p0, .int x_348]) (rest := [.ref sa]) ⟨hx, hb, hml, hown, hts⟩ (sX11_cell l dC dI p0 x_348 gp0 gx_348) (⟨va_cnB 2 hts (gz_gP mGA_585 goodGA) rfl rfl rfl (nzA_X9_92 hz) (hts _ (List.mem_cons_of_mem _ mGA_1)) (by decide +kernel) ⟨Nat.le_trans (Nat.le_of_ble_eq_true rfl) hRf, Nat.le_trans (Nat.le_of_ble_eq_true rfl) hRl⟩, (hts _ (List.mem_cons_of_mem _ mGA_584)), trivial⟩) ⟨bl_I (bl_a bl_P (bl_a bl_K bl_nz)), fun U hU hW => ⟨rfl, by rw [hU]; exact hPc, va_K.moved hW.alike hKc, nzA_warm hW hz⟩⟩ rfl rfl hl.1 rfl (lv_room (Nat.le_of_ble_eq_true rfl)) (dk_at dkX9_bound 17 rfl) ⟨hRc, hRs⟩) hS (fun q _ h => h.elim) (fun q h => h.elim) (fun r_349 u t H1 locs ht hvm hw hB hz1 hk1 hS => ?_)
          have hP := gz_keep hP hk1
          generalize H1 = H at hP hS ⊢
          have gr_349 : gi r_349 0 324 := hw
          refine va_iald hx hb hK hP 1 0 rfl rfl (gi_in gr_349 (by decide)) (dk_at dkX9_bound 18 rfl) ?_
          refine lv_topi (fun x_350 ex_350 => ?_)
          refine lv_if_le (tgt := 41) hx hb (dk_at dkX9_bound 19 rfl) (by decide) (fun c_351 => ?_) (fun c_351 => ?_)
          · have g_352 : gi x_350 (-2147483648) 0 := gi_le_l c_351 (gi_any x_350) (gi_c 0 0 (by decide))
            obtain ⟨x_353, ex_353⟩ : ∃ y : Int32, y = v3 + 1 := ⟨_, rfl⟩
            have gx_353 : gi x_353 1 25 := gi_add ex_353 g_337 (gi_c 1 1 (by decide)) (by decide)
            refine lv_iinc (v := x_353) (lv' := [(3, .int x_353), (4, .int x_348), (0, .ref h0), (1, .int p0), (2, .int p1)]) hx hb (dk_at dkX9_bound 24 rfl) hl (k := 4) rfl (by rw [ex_353]; rfl) (by decide) rfl (fun ls hl => ?_)
            refine lv_goto (tgt := 2) hx hb (dk_at dkX9_bound 25 rfl) (by decide) ?_
            exact ih x_353 _ _ _ (gi_w gx_353 (by decide)) (by have av3 := gv3.1; have bv3 := gv3.2; have qgx_353 := gx_353.1; have rgx_353 := gx_353.2; have igx_353 : x_353.toInt = v3.toInt + 1 := (by have hc1 : (1 : Int32).toInt = 1 := (by decide); have h9 := gi_addI ex_353 (by have h1 := g_337.1; have h2 := (gi_c 1 1 (by decide)).1; have h3 := g_337.2; have h4 := (gi_c 1 1 (by decide)).2; omega) (by have h1 := g_337.1; have h2 := (gi_c 1 1 (by decide)).1; have h3 := g_337.2; have h4 := (gi_c 1 1 (by decide)).2; omega); rw [hc1] at h9; exact h9); have qgv3 := g_337.1; have rgv3 := g_337.2; omega) hP hS (lv_sub hl [2, 3, 4, 0] rfl)
          · have g_354 : gi x_350 1 2147483647 := gi_lt_r (Int32.not_le.mp c_351) (gi_c 0 0 (by decide)) (gi_any x_350) (by decide)
            refine lv_iload_n hx hb (dk_at dkX9_bound 20 rfl) rfl (lv_at hl 2 rfl) ?_
            refine lv_iload hx hb (dk_at dkX9_bound 21 rfl) (lv_at hl 0 rfl) ?_
            have hPc := hP.sub (ws' := []) [] rfl
            have hKc := hK.sub (tys' := []) [] rfl
            refine va_calli (va_runSN (As := [.int p0, .int x_348]) (rest := []) ⟨hx, hb, hml, hown, hts⟩ (sX11_dayOf l dC dI p0 x_348) (⟨va_cnB 2 hts (gz_gP mGA_516 goodGA) rfl rfl rfl (nzA_X9_95 hz) (hts _ (List.mem_cons_of_mem _ mGA_1)) (by decide +kernel) ⟨Nat.le_trans (Nat.le_of_ble_eq_true rfl) hRf, Nat.le_trans (Nat.le_of_ble_eq_true rfl) hRl⟩, (hts _ (List.mem_cons_of_mem _ mGA_515)), trivial⟩) ⟨bl_I (bl_a bl_P (bl_a bl_K bl_nz)), fun U hU hW => ⟨rfl, by rw [hU]; exact hPc, va_K.moved hW.alike hKc, nzA_warm hW hz⟩⟩ rfl rfl hl.1 rfl (lv_room (Nat.le_of_ble_eq_true rfl)) (dk_at dkX9_bound 22 rfl) ⟨hRc, hRs⟩) hS (fun q _ h => h.elim) (fun q h => h.elim) (fun r_355 u t H1 locs ht hvm hw hB hz1 hk1 hS => ?_)
            have hP := gz_keep hP hk1
            generalize H1 = H at hP hS ⊢
            exact kr40 r_355 _ _ _ hP hS (lv_sub hl [] rfl)
set_option maxHeartbeats 4000000 in
set_option maxRecDepth 100000 in
theorem sX9_bound (l : Launch) (dC : Nat → ClassId) (dI : Nat → Nat → Nat) (h0 : Nat) (sa : Nat) (bf : Nat) (bh : Nat) (months : Int32) (full : Int32) (lean : Int32) (ksa : ClassId) (fsa : Nat → Int32) (p0 : Int32) (p1 : Int32) (gmonths : gi months 0 24) (gfull : gi full 0 5) (glean : gi lean 0 5) (gp0 : gi p0 0 24) (gp1 : gi p1 0 1) : Met l yX9_bound (.code yX9_bound cX9_bound 5 (some .int) :: wsGA) ({ frames := 1, cells := 0, slots := 0, locals := 21 }) (va_Pc [.ref h0, .int p0, .int p1] (fun U => va_P (dC, dI) vwCl [(h0, .inr (9, [.ref bf, .ref bh, .ref sa, .int months, .int full, .int lean])), (sa, .inl (ksa, 325, .inl fsa))] U.heap ∧ va_K (dC, dI) vwCl [(ksa, .int)] U ∧ nzA U)) (va_Qi (fun (r : Int32) (u : Unit) => gi r (-2147483648) 2147483647) (fun _ _ => True) (fun _ => False)) 0 0 (fun _ => False) := by
  refine Met.ofW (cc := cX9_bound) (maxL := 5) (ret := (some .int)) (by decide) rfl ?_
  intro p e s m args below meth c s₁ B hml hv
  obtain ⟨rfl, hP, hK, hz⟩ := hv
  have hx := B.exec
  have hb := B.bytes
  have hr := B.returns
  have hts := atoms_spec (ws := (.code yX9_bound cX9_bound 5 (some .int) :: wsGA)) B.pre
  have hown : s.vm.findClass RX9 = some m.cls := findClass_of_methodNamed B.named
  have hlocks := B.notSynchronized
  have hS : va_S (fun _ => False) s.heap s.heap [] := va_S.rf
  have hl := lv_entry ([.ref h0, .int p0, .int p1]) (n := 5) (Nat.le_of_ble_eq_true rfl)
  rw [lg_entry_eq]
  generalize (lg_sl ([.ref h0, .int p0, .int p1]) ++ List.replicate (5 - (lg_sl ([.ref h0, .int p0, .int p1])).length) Slot.unset).toArray = ls at hl ⊢
  have hl : lv_has ls 5 [(0, .ref h0), (1, .int p0), (2, .int p1)] := hl
  refine lv_iconst (v := 0) hx hb (dk_at dkX9_bound 0 rfl) (by decide) ?_
  refine lv_istore_n (lv' := [(3, .int 0), (0, .ref h0), (1, .int p0), (2, .int p1)]) hx hb (dk_at dkX9_bound 1 rfl) rfl hl (by decide) rfl (fun ls hl => ?_)
  refine (lp_sX9_bound h0 sa bf bh months full lean ksa fsa p0 p1 gmonths gfull glean gp0 gp1 hx hb hml hown hts hK hz (Nat.le_of_ble_eq_true rfl) (Nat.le_of_ble_eq_true rfl) (Nat.zero_le _) (Nat.zero_le _) (fun v H locs ls gv hP hS hl => ?_) (fun v H locs ls hP hS hl => ?_) 64) 0 _ _ _ (gi_w (gi_c 0 0 (by decide)) (by decide)) (by have k0 : (0 : Int32).toInt = 0 := (by decide); omega) hP hS (lv_sub hl [1, 2, 3, 0] rfl)
  · skip
    exact W.iret (v := v) hx hb hr (fun t ht hW => ⟨⟨v, (), rfl, (gi_any v), trivial⟩, hS.F ht⟩) hS.2.2 (dk_at dkX9_bound 27 rfl)
  · skip
    exact W.iret (v := v) hx hb hr (fun t ht hW => ⟨⟨v, (), rfl, (gi_any v), trivial⟩, hS.F ht⟩) hS.2.2 (dk_at dkX9_bound 23 rfl)
noncomputable def lsX9_mostLeft : List (Nat × Instr × Nat) := [(0, .iconst 0, 1), (1, .istore_n 2, 1), (2, .iconst 0, 1), (3, .istore_n 3, 1), (4, .iload_n 3, 1), (5, .iload_n 1, 1), (6, .if_icmp .gt 24, 3), (9, .iload_n 2, 1), (10, .aload_n 0, 1), (11, .getfield 18, 3), (14, .iload_n 1, 1), (15, .iload_n 3, 1), (16, .invokestatic 92, 3), (19, .iaload, 1), (20, .invokestatic 98, 3), (23, .istore_n 2, 1), (24, .iinc 3 1, 3), (27, .goto (-23), 3), (30, .iload_n 2, 1), (31, .ireturn, 1)]
theorem dkX9_mostLeft : dkAll cX9_mostLeft lsX9_mostLeft = true := by decide +kernel
set_option maxHeartbeats 4000000 in
set_option maxRecDepth 100000 in
theorem lp_sX9_mostLeft {p : Program} {l : Launch} {e : Env} {R : Room} {s : State} {m : MethodId} {args : Array Value} {below : List Frame} {meth : Method} {c : Code} {Q : State → Prop} {A : Nat → Prop} {cells slots : Nat} {dC : Nat → ClassId} {dI : Nat → Nat → Nat} (h0 : Nat) (sa : Nat) (bf : Nat) (bh : Nat) (months : Int32) (full : Int32) (lean : Int32) (ksa : ClassId) (fsa : Nat → Int32) (p0 : Int32) (gmonths : gi months 0 24) (gfull : gi full 0 5) (glean : gi lean 0 5) (gp0 : gi p0 0 24) (hx : p.tables.exec = Jvm.exec) (hb : c.code = cX9_mostLeft) (hml : c.maxLocals = 4) (hown : s.vm.findClass RX9 = some m.cls) (hts : ∀ w ∈ ((.code yX9_mostLeft cX9_mostLeft 4 (some .int) :: wsGA) : List Cond), w.before args s = true) (hK : va_K (dC, dI) vwCl [(ksa, .int)] s) (hz : nzA s) (hRf : 1 ≤ R.frames) (hRl : 21 ≤ R.locals) (hRc : cells ≤ R.cells) (hRs : slots ≤ R.slots) (kr31 : ∀ (v : Int32) (H : Heap) (locs : List Loc) (ls : Array Slot), gi v 0 2147483647 → va_P (dC, dI) vwCl [(h0, .inr (9, [.ref bf, .ref bh, .ref sa, .int months, .int full, .int lean])), (sa, .inl (ksa, 325, .inl fsa))] H → va_S A s.heap H locs → lv_has ls 4 [] → W p l e R s m args below meth c H locs cells slots Q (F0 m 31 ls [.int v])) : ∀ z : Nat, (∀ (v2 : Int32) (v3 : Int32) (H : Heap) (locs : List Loc) (ls : Array Slot), gi v2 0 2147483647 → gi v3 0 25 → 51 + (-2) * v3.toInt < (z : Int) → va_P (dC, dI) vwCl [(h0, .inr (9, [.ref bf, .ref bh, .ref sa, .int months, .int full, .int lean])), (sa, .inl (ksa, 325, .inl fsa))] H → va_S A s.heap H locs → lv_has ls 4 [(0, .ref h0), (1, .int p0), (2, .int v2), (3, .int v3)] → W p l e R s m args below meth c H locs cells slots Q (F0 m 4 ls [])) := by
  intro z
  induction z with
  | zero =>
    intro v2 v3 H locs ls gv2 gv3 hmu hP hS hl
    exact absurd hmu (by have hv31 := gv3.1; have hv32 := gv3.2; omega)
  | succ z ih =>
      intro v2 v3 H locs ls gv2 gv3 hmu hP hS hl
      refine lv_iload_n hx hb (dk_at dkX9_mostLeft 4 rfl) rfl (lv_at hl 3 rfl) ?_
      refine lv_iload_n hx hb (dk_at dkX9_mostLeft 5 rfl) rfl (lv_at hl 1 rfl) ?_
      refine lv_icmp_gt (tgt := 30) hx hb (dk_at dkX9_mostLeft 6 rfl) (by decide) (fun c_111 => ?_) (fun c_111 => ?_)
      · have g_112 : gi v3 1 25 := gi_lt_r c_111 gp0 gv3 (by decide)
        refine lv_iload_n hx hb (dk_at dkX9_mostLeft 18 rfl) rfl (lv_at hl 2 rfl) ?_
        exact kr31 v2 _ _ _ gv2 hP hS (lv_sub hl [] rfl)
      · have g_113 : gi v3 0 24 := gi_le_l (Int32.not_lt.mp c_111) gv3 gp0
        refine lv_iload_n hx hb (dk_at dkX9_mostLeft 7 rfl) rfl (lv_at hl 2 rfl) ?_
        refine lv_aload_n hx hb (dk_at dkX9_mostLeft 8 rfl) rfl (lv_at hl 0 rfl) ?_
        refine va_get (D := (dC, dI)) (ci := 9) (v := .ref sa) (C := RX9) (T := TX9) (N := 6) hx hb hts (fun w h => List.mem_cons_of_mem _ (jnGA_X9 w h)) hown hK hP 0 rfl rfl 2 (by decide) (hts _ (List.mem_cons_of_mem _ mGA_113)) (fun _ h9 => h9) rfl (dk_at dkX9_mostLeft 9 rfl) ?_
        refine lv_iload_n hx hb (dk_at dkX9_mostLeft 10 rfl) rfl (lv_at hl 1 rfl) ?_
        refine lv_iload_n hx hb (dk_at dkX9_mostLeft 11 rfl) rfl (lv_at hl 3 rfl) ?_
        have hPc := hP.sub (ws' := []) [] rfl
        have hKc := hK.sub (tys' := []) [] rfl
        refine va_calli (va_runSN (As := [.int p0, .int v3]) (rest := [.ref sa, .int v2]) ⟨hx, hb, hml, hown, hts⟩ (sX11_cell l dC dI p0 v3 gp0 g_113) (⟨va_cnB 2 hts (gz_gP mGA_585 goodGA) rfl rfl rfl (nzA_X9_92 hz) (hts _ (List.mem_cons_of_mem _ mGA_1)) (by decide +kernel) ⟨Nat.le_trans (Nat.le_of_ble_eq_true rfl) hRf, Nat.le_trans (Nat.le_of_ble_eq_true rfl) hRl⟩, (hts _ (List.mem_cons_of_mem _ mGA_584)), trivial⟩) ⟨bl_I (bl_a bl_P (bl_a bl_K bl_nz)), fun U hU hW => ⟨rfl, by rw [hU]; exact hPc, va_K.moved hW.alike hKc, nzA_warm hW hz⟩⟩ rfl rfl hl.1 rfl (lv_room (Nat.le_of_ble_eq_true rfl)) (dk_at dkX9_mostLeft 12 rfl) ⟨hRc, hRs⟩) hS (fun q _ h => h.elim) (fun q h => h.elim) (fun r_114 u t H1 locs ht hvm hw hB hz1 hk1 hS => ?_)
        have hP := gz_keep hP hk1
        generalize H1 = H at hP hS ⊢
        have gr_114 : gi r_114 0 324 := hw
        refine va_iald hx hb hK hP 1 0 rfl rfl (gi_in gr_114 (by decide)) (dk_at dkX9_mostLeft 13 rfl) ?_
        refine lv_topi (fun x_115 ex_115 => ?_)
        refine va_mmax (own := RX9) hx hb (by rw [hml]; exact hl.1.symm) hown (hts _ (List.mem_cons_of_mem _ mGA_843)) (hts _ (List.mem_cons_of_mem _ mGA_344)) (hts _ (List.mem_cons_of_mem _ mGA_269)) (hts _ (List.mem_cons_of_mem _ mGA_345)) (Nat.le_trans (Nat.le_of_ble_eq_true rfl) hRf) (Nat.le_trans (Nat.le_of_ble_eq_true rfl) hRl) hRc hRs (dk_at dkX9_mostLeft 14 rfl) ?_
        refine lv_topi (fun x_116 ex_116 => ?_)
        have gx_116 : gi x_116 0 2147483647 := gi_max ex_116 gv2 (gi_any x_115) (by decide)
        refine lv_istore_n (lv' := [(2, .int x_116), (0, .ref h0), (1, .int p0), (3, .int v3)]) hx hb (dk_at dkX9_mostLeft 15 rfl) rfl hl (by decide) rfl (fun ls hl => ?_)
        obtain ⟨x_117, ex_117⟩ : ∃ y : Int32, y = v3 + 1 := ⟨_, rfl⟩
        have gx_117 : gi x_117 1 25 := gi_add ex_117 g_113 (gi_c 1 1 (by decide)) (by decide)
        refine lv_iinc (v := x_117) (lv' := [(3, .int x_117), (2, .int x_116), (0, .ref h0), (1, .int p0)]) hx hb (dk_at dkX9_mostLeft 16 rfl) hl (k := 3) rfl (by rw [ex_117]; rfl) (by decide) rfl (fun ls hl => ?_)
        refine lv_goto (tgt := 4) hx hb (dk_at dkX9_mostLeft 17 rfl) (by decide) ?_
        exact ih x_116 x_117 _ _ _ gx_116 (gi_w gx_117 (by decide)) (by have av3 := gv3.1; have bv3 := gv3.2; have qgx_117 := gx_117.1; have rgx_117 := gx_117.2; have igx_117 : x_117.toInt = v3.toInt + 1 := (by have hc1 : (1 : Int32).toInt = 1 := (by decide); have h9 := gi_addI ex_117 (by have h1 := g_113.1; have h2 := (gi_c 1 1 (by decide)).1; have h3 := g_113.2; have h4 := (gi_c 1 1 (by decide)).2; omega) (by have h1 := g_113.1; have h2 := (gi_c 1 1 (by decide)).1; have h3 := g_113.2; have h4 := (gi_c 1 1 (by decide)).2; omega); rw [hc1] at h9; exact h9); have qgv3 := g_113.1; have rgv3 := g_113.2; omega) hP hS (lv_sub hl [2, 3, 1, 0] rfl)
set_option maxHeartbeats 4000000 in
set_option maxRecDepth 100000 in
theorem sX9_mostLeft (l : Launch) (dC : Nat → ClassId) (dI : Nat → Nat → Nat) (h0 : Nat) (sa : Nat) (bf : Nat) (bh : Nat) (months : Int32) (full : Int32) (lean : Int32) (ksa : ClassId) (fsa : Nat → Int32) (p0 : Int32) (gmonths : gi months 0 24) (gfull : gi full 0 5) (glean : gi lean 0 5) (gp0 : gi p0 0 24) : Met l yX9_mostLeft (.code yX9_mostLeft cX9_mostLeft 4 (some .int) :: wsGA) ({ frames := 1, cells := 0, slots := 0, locals := 21 }) (va_Pc [.ref h0, .int p0] (fun U => va_P (dC, dI) vwCl [(h0, .inr (9, [.ref bf, .ref bh, .ref sa, .int months, .int full, .int lean])), (sa, .inl (ksa, 325, .inl fsa))] U.heap ∧ va_K (dC, dI) vwCl [(ksa, .int)] U ∧ nzA U)) (va_Qi (fun (r : Int32) (u : Unit) => gi r 0 2147483647) (fun _ _ => True) (fun _ => False)) 0 0 (fun _ => False) := by
  refine Met.ofW (cc := cX9_mostLeft) (maxL := 4) (ret := (some .int)) (by decide) rfl ?_
  intro p e s m args below meth c s₁ B hml hv
  obtain ⟨rfl, hP, hK, hz⟩ := hv
  have hx := B.exec
  have hb := B.bytes
  have hr := B.returns
  have hts := atoms_spec (ws := (.code yX9_mostLeft cX9_mostLeft 4 (some .int) :: wsGA)) B.pre
  have hown : s.vm.findClass RX9 = some m.cls := findClass_of_methodNamed B.named
  have hlocks := B.notSynchronized
  have hS : va_S (fun _ => False) s.heap s.heap [] := va_S.rf
  have hl := lv_entry ([.ref h0, .int p0]) (n := 4) (Nat.le_of_ble_eq_true rfl)
  rw [lg_entry_eq]
  generalize (lg_sl ([.ref h0, .int p0]) ++ List.replicate (4 - (lg_sl ([.ref h0, .int p0])).length) Slot.unset).toArray = ls at hl ⊢
  have hl : lv_has ls 4 [(0, .ref h0), (1, .int p0)] := hl
  refine lv_iconst (v := 0) hx hb (dk_at dkX9_mostLeft 0 rfl) (by decide) ?_
  refine lv_istore_n (lv' := [(2, .int 0), (0, .ref h0), (1, .int p0)]) hx hb (dk_at dkX9_mostLeft 1 rfl) rfl hl (by decide) rfl (fun ls hl => ?_)
  refine lv_iconst (v := 0) hx hb (dk_at dkX9_mostLeft 2 rfl) (by decide) ?_
  refine lv_istore_n (lv' := [(3, .int 0), (2, .int 0), (0, .ref h0), (1, .int p0)]) hx hb (dk_at dkX9_mostLeft 3 rfl) rfl hl (by decide) rfl (fun ls hl => ?_)
  refine (lp_sX9_mostLeft h0 sa bf bh months full lean ksa fsa p0 gmonths gfull glean gp0 hx hb hml hown hts hK hz (Nat.le_of_ble_eq_true rfl) (Nat.le_of_ble_eq_true rfl) (Nat.zero_le _) (Nat.zero_le _) (fun v H locs ls gv hP hS hl => ?_) 64) 0 0 _ _ _ (gi_w (gi_c 0 0 (by decide)) (by decide)) (gi_w (gi_c 0 0 (by decide)) (by decide)) (by have k0 : (0 : Int32).toInt = 0 := (by decide); omega) hP hS (lv_sub hl [2, 3, 1, 0] rfl)
  · skip
    exact W.iret (v := v) hx hb hr (fun t ht hW => ⟨⟨v, (), rfl, gv, trivial⟩, hS.F ht⟩) hS.2.2 (dk_at dkX9_mostLeft 19 rfl)
noncomputable def lsX9_leanIn : List (Nat × Instr × Nat) := [(0, .iconst 0, 1), (1, .istore_n 2, 1), (2, .iconst 0, 1), (3, .istore_n 3, 1), (4, .iload_n 3, 1), (5, .iload_n 1, 1), (6, .if_icmp .gt 62, 3), (9, .iload_n 1, 1), (10, .invokestatic 67, 3), (13, .istore 4, 2), (15, .iload 4, 2), (17, .iload_n 1, 1), (18, .aload_n 0, 1), (19, .getfield 31, 3), (22, .aload_n 0, 1), (23, .getfield 35, 3), (26, .invokestatic 71, 3), (29, .if_icmp .gt 33, 3), (32, .iload_n 2, 1), (33, .aload_n 0, 1), (34, .getfield 9, 3), (37, .iload_n 1, 1), (38, .iload_n 3, 1), (39, .iload 4, 2), (41, .invokestatic 63, 3), (44, .iaload, 1), (45, .aload_n 0, 1), (46, .iload_n 1, 1), (47, .iload_n 3, 1), (48, .iload 4, 2), (50, .invokevirtual 89, 3), (53, .imul, 1), (54, .iadd, 1), (55, .istore_n 2, 1), (56, .iinc 4 1, 3), (59, .goto (-44), 3), (62, .iinc 3 1, 3), (65, .goto (-61), 3), (68, .iload_n 2, 1), (69, .ireturn, 1)]
theorem dkX9_leanIn : dkAll cX9_leanIn lsX9_leanIn = true := by decide +kernel
set_option maxHeartbeats 4000000 in
set_option maxRecDepth 100000 in
theorem lp_sX9_leanIn {p : Program} {l : Launch} {e : Env} {R : Room} {s : State} {m : MethodId} {args : Array Value} {below : List Frame} {meth : Method} {c : Code} {Q : State → Prop} {A : Nat → Prop} {cells slots : Nat} {dC : Nat → ClassId} {dI : Nat → Nat → Nat} (h0 : Nat) (bf : Nat) (bh : Nat) (sa : Nat) (months : Int32) (full : Int32) (lean : Int32) (kbf : ClassId) (fbf : Nat → Int32) (kbh : ClassId) (fbh : Nat → Int32) (p0 : Int32) (gmonths : gi months 0 24) (gfull : gi full 0 5) (glean : gi lean 0 5) (gp0 : gi p0 0 23) (hx : p.tables.exec = Jvm.exec) (hb : c.code = cX9_leanIn) (hml : c.maxLocals = 5) (hown : s.vm.findClass RX9 = some m.cls) (hts : ∀ w ∈ ((.code yX9_leanIn cX9_leanIn 5 (some .int) :: wsGA) : List Cond), w.before args s = true) (hK : va_K (dC, dI) vwCl [(kbf, .int), (kbh, .int)] s) (hz : nzA s) (hRf : 3 ≤ R.frames) (hRl : 66 ≤ R.locals) (hRc : cells ≤ R.cells) (hRs : slots ≤ R.slots) (kr69 : ∀ (v : Int32) (H : Heap) (locs : List Loc) (ls : Array Slot), va_P (dC, dI) vwCl [(h0, .inr (9, [.ref bf, .ref bh, .ref sa, .int months, .int full, .int lean])), (bf, .inl (kbf, 3575, .inl fbf)), (bh, .inl (kbh, 3575, .inl fbh))] H → va_S A s.heap H locs → lv_has ls 5 [] → W p l e R s m args below meth c H locs cells slots Q (F0 m 69 ls [.int v])) : ∀ z : Nat, (∀ (v2 : Int32) (v3 : Int32) (H : Heap) (locs : List Loc) (ls : Array Slot), gi v3 0 24 → 673 + (-28) * v3.toInt < (z : Int) → va_P (dC, dI) vwCl [(h0, .inr (9, [.ref bf, .ref bh, .ref sa, .int months, .int full, .int lean])), (bf, .inl (kbf, 3575, .inl fbf)), (bh, .inl (kbh, 3575, .inl fbh))] H → va_S A s.heap H locs → lv_has ls 5 [(0, .ref h0), (1, .int p0), (2, .int v2), (3, .int v3)] → W p l e R s m args below meth c H locs cells slots Q (F0 m 4 ls [])) ∧ (∀ (v2 : Int32) (v3 : Int32) (v4 : Int32) (H : Heap) (locs : List Loc) (ls : Array Slot), gi v3 0 23 → gi v4 0 11 → 668 + (-28) * v3.toInt + (-2) * v4.toInt < (z : Int) → va_P (dC, dI) vwCl [(h0, .inr (9, [.ref bf, .ref bh, .ref sa, .int months, .int full, .int lean])), (bf, .inl (kbf, 3575, .inl fbf)), (bh, .inl (kbh, 3575, .inl fbh))] H → va_S A s.heap H locs → lv_has ls 5 [(0, .ref h0), (1, .int p0), (2, .int v2), (3, .int v3), (4, .int v4)] → W p l e R s m args below meth c H locs cells slots Q (F0 m 15 ls [])) := by
  intro z
  induction z with
  | zero =>
    refine ⟨?_, ?_⟩
    · intro v2 v3 H locs ls gv3 hmu hP hS hl
      exact absurd hmu (by have hv31 := gv3.1; have hv32 := gv3.2; omega)
    · intro v2 v3 v4 H locs ls gv3 gv4 hmu hP hS hl
      exact absurd hmu (by have hv31 := gv3.1; have hv32 := gv3.2; have hv41 := gv4.1; have hv42 := gv4.2; omega)
  | succ z ih =>
    refine ⟨?_, ?_⟩
    · intro v2 v3 H locs ls gv3 hmu hP hS hl
      refine lv_iload_n hx hb (dk_at dkX9_leanIn 4 rfl) rfl (lv_at hl 3 rfl) ?_
      refine lv_iload_n hx hb (dk_at dkX9_leanIn 5 rfl) rfl (lv_at hl 1 rfl) ?_
      refine lv_icmp_gt (tgt := 68) hx hb (dk_at dkX9_leanIn 6 rfl) (by decide) (fun c_224 => ?_) (fun c_224 => ?_)
      · have g_225 : gi v3 1 24 := gi_lt_r c_224 gp0 gv3 (by decide)
        refine lv_iload_n hx hb (dk_at dkX9_leanIn 38 rfl) rfl (lv_at hl 2 rfl) ?_
        exact kr69 v2 _ _ _ hP hS (lv_sub hl [] rfl)
      · have g_226 : gi v3 0 23 := gi_le_l (Int32.not_lt.mp c_224) gv3 gp0
        refine lv_iload_n hx hb (dk_at dkX9_leanIn 7 rfl) rfl (lv_at hl 1 rfl) ?_
        have hPc := hP.sub (ws' := []) [] rfl
        have hKc := hK.sub (tys' := []) [] rfl
        refine va_calli (va_runSN (As := [.int p0]) (rest := []) ⟨hx, hb, hml, hown, hts⟩ (sX11_firstRun l dC dI p0 (gi_w gp0 (by decide))) (⟨va_cnB 1 hts (gz_gP mGA_504 goodGA) rfl rfl rfl (nzA_X9_67 hz) (hts _ (List.mem_cons_of_mem _ mGA_1)) (by decide +kernel) ⟨Nat.le_trans (Nat.le_of_ble_eq_true rfl) hRf, Nat.le_trans (Nat.le_of_ble_eq_true rfl) hRl⟩, (hts _ (List.mem_cons_of_mem _ mGA_503)), trivial⟩) ⟨bl_I (bl_a bl_P (bl_a bl_K bl_nz)), fun U hU hW => ⟨rfl, by rw [hU]; exact hPc, va_K.moved hW.alike hKc, nzA_warm hW hz⟩⟩ rfl rfl hl.1 rfl (lv_room (Nat.le_of_ble_eq_true rfl)) (dk_at dkX9_leanIn 8 rfl) ⟨hRc, hRs⟩) hS (fun q _ h => h.elim) (fun q h => h.elim) (fun r_227 u t H1 locs ht hvm hw hB hz1 hk1 hS => ?_)
        have hP := gz_keep hP hk1
        generalize H1 = H at hP hS ⊢
        have gr_227 : gi r_227 0 1 := hw
        refine lv_istore (lv' := [(4, .int r_227), (0, .ref h0), (1, .int p0), (2, .int v2), (3, .int v3)]) hx hb (dk_at dkX9_leanIn 9 rfl) hl (by decide) rfl (fun ls hl => ?_)
        exact ih.2 v2 v3 r_227 _ _ _ g_226 (gi_w gr_227 (by decide)) (by have av3 := gv3.1; have bv3 := gv3.2; have qgv3 := g_226.1; have rgv3 := g_226.2; have qgr_227 := gr_227.1; have rgr_227 := gr_227.2; omega) hP hS (lv_sub hl [1, 2, 3, 4, 0] rfl)
    · intro v2 v3 v4 H locs ls gv3 gv4 hmu hP hS hl
      refine lv_iload hx hb (dk_at dkX9_leanIn 10 rfl) (lv_at hl 4 rfl) ?_
      refine lv_iload_n hx hb (dk_at dkX9_leanIn 11 rfl) rfl (lv_at hl 1 rfl) ?_
      refine lv_aload_n hx hb (dk_at dkX9_leanIn 12 rfl) rfl (lv_at hl 0 rfl) ?_
      refine va_get (D := (dC, dI)) (ci := 9) (v := .int full) (C := RX9) (T := TX9) (N := 6) hx hb hts (fun w h => List.mem_cons_of_mem _ (jnGA_X9 w h)) hown hK hP 0 rfl rfl 4 (by decide) (hts _ (List.mem_cons_of_mem _ mGA_562)) (fun _ h9 => h9) rfl (dk_at dkX9_leanIn 13 rfl) ?_
      refine lv_aload_n hx hb (dk_at dkX9_leanIn 14 rfl) rfl (lv_at hl 0 rfl) ?_
      refine va_get (D := (dC, dI)) (ci := 9) (v := .int lean) (C := RX9) (T := TX9) (N := 6) hx hb hts (fun w h => List.mem_cons_of_mem _ (jnGA_X9 w h)) hown hK hP 0 rfl rfl 5 (by decide) (hts _ (List.mem_cons_of_mem _ mGA_564)) (fun _ h9 => h9) rfl (dk_at dkX9_leanIn 15 rfl) ?_
      have hPc := hP.sub (ws' := []) [] rfl
      have hKc := hK.sub (tys' := []) [] rfl
      refine va_calli (va_runSN (As := [.int p0, .int full, .int lean]) (rest := [.int v4]) ⟨hx, hb, hml, hown, hts⟩ (sX11_lastRun l dC dI p0 full lean (gi_w gp0 (by decide)) gfull glean) (⟨va_cnB 3 hts (gz_gP mGA_506 goodGA) rfl rfl rfl (nzA_X9_71 hz) (hts _ (List.mem_cons_of_mem _ mGA_1)) (by decide +kernel) ⟨Nat.le_trans (Nat.le_of_ble_eq_true rfl) hRf, Nat.le_trans (Nat.le_of_ble_eq_true rfl) hRl⟩, (hts _ (List.mem_cons_of_mem _ mGA_505)), trivial⟩) ⟨bl_I (bl_a bl_P (bl_a bl_K bl_nz)), fun U hU hW => ⟨rfl, by rw [hU]; exact hPc, va_K.moved hW.alike hKc, nzA_warm hW hz⟩⟩ rfl rfl hl.1 rfl (lv_room (Nat.le_of_ble_eq_true rfl)) (dk_at dkX9_leanIn 16 rfl) ⟨hRc, hRs⟩) hS (fun q _ h => h.elim) (fun q h => h.elim) (fun r_228 u t H1 locs ht hvm hw hB hz1 hk1 hS => ?_)
      have hP := gz_keep hP hk1
      generalize H1 = H at hP hS ⊢
      have gr_228 : gi r_228 0 10 := hw
      refine lv_icmp_gt (tgt := 62) hx hb (dk_at dkX9_leanIn 17 rfl) (by decide) (fun c_229 => ?_) (fun c_229 => ?_)
      · have g_230 : gi v4 1 11 := gi_lt_r c_229 gr_228 gv4 (by decide)
        obtain ⟨x_231, ex_231⟩ : ∃ y : Int32, y = v3 + 1 := ⟨_, rfl⟩
        have gx_231 : gi x_231 1 24 := gi_add ex_231 gv3 (gi_c 1 1 (by decide)) (by decide)
        refine lv_iinc (v := x_231) (lv' := [(3, .int x_231), (0, .ref h0), (1, .int p0), (2, .int v2), (4, .int v4)]) hx hb (dk_at dkX9_leanIn 36 rfl) hl (k := 3) rfl (by rw [ex_231]; rfl) (by decide) rfl (fun ls hl => ?_)
        refine lv_goto (tgt := 4) hx hb (dk_at dkX9_leanIn 37 rfl) (by decide) ?_
        exact ih.1 v2 x_231 _ _ _ (gi_w gx_231 (by decide)) (by have av3 := gv3.1; have bv3 := gv3.2; have av4 := gv4.1; have bv4 := gv4.2; have qgx_231 := gx_231.1; have rgx_231 := gx_231.2; have igx_231 : x_231.toInt = v3.toInt + 1 := (by have hc1 : (1 : Int32).toInt = 1 := (by decide); have h9 := gi_addI ex_231 (by have h1 := gv3.1; have h2 := (gi_c 1 1 (by decide)).1; have h3 := gv3.2; have h4 := (gi_c 1 1 (by decide)).2; omega) (by have h1 := gv3.1; have h2 := (gi_c 1 1 (by decide)).1; have h3 := gv3.2; have h4 := (gi_c 1 1 (by decide)).2; omega); rw [hc1] at h9; exact h9); have qgv3 := gv3.1; have rgv3 := gv3.2; omega) hP hS (lv_sub hl [1, 2, 3, 0] rfl)
      · have g_232 : gi v4 0 10 := gi_le_l (Int32.not_lt.mp c_229) gv4 gr_228
        refine lv_iload_n hx hb (dk_at dkX9_leanIn 18 rfl) rfl (lv_at hl 2 rfl) ?_
        refine lv_aload_n hx hb (dk_at dkX9_leanIn 19 rfl) rfl (lv_at hl 0 rfl) ?_
        refine va_get (D := (dC, dI)) (ci := 9) (v := .ref bf) (C := RX9) (T := TX9) (N := 6) hx hb hts (fun w h => List.mem_cons_of_mem _ (jnGA_X9 w h)) hown hK hP 0 rfl rfl 0 (by decide) (hts _ (List.mem_cons_of_mem _ mGA_111)) (fun _ h9 => h9) rfl (dk_at dkX9_leanIn 20 rfl) ?_
        refine lv_iload_n hx hb (dk_at dkX9_leanIn 21 rfl) rfl (lv_at hl 1 rfl) ?_
        refine lv_iload_n hx hb (dk_at dkX9_leanIn 22 rfl) rfl (lv_at hl 3 rfl) ?_
        refine lv_iload hx hb (dk_at dkX9_leanIn 23 rfl) (lv_at hl 4 rfl) ?_
        have hPc := hP.sub (ws' := []) [] rfl
        have hKc := hK.sub (tys' := []) [] rfl
        refine va_calli (va_runSN (As := [.int p0, .int v3, .int v4]) (rest := [.ref bf, .int v2]) ⟨hx, hb, hml, hown, hts⟩ (sX11_spot l dC dI p0 v3 v4 (gi_w gp0 (by decide)) (gi_w gv3 (by decide)) g_232) (⟨va_cnB 3 hts (gz_gP mGA_582 goodGA) rfl rfl rfl (nzA_X9_63 hz) (hts _ (List.mem_cons_of_mem _ mGA_1)) (by decide +kernel) ⟨Nat.le_trans (Nat.le_of_ble_eq_true rfl) hRf, Nat.le_trans (Nat.le_of_ble_eq_true rfl) hRl⟩, (hts _ (List.mem_cons_of_mem _ mGA_581)), trivial⟩) ⟨bl_I (bl_a bl_P (bl_a bl_K bl_nz)), fun U hU hW => ⟨rfl, by rw [hU]; exact hPc, va_K.moved hW.alike hKc, nzA_warm hW hz⟩⟩ rfl rfl hl.1 rfl (lv_room (Nat.le_of_ble_eq_true rfl)) (dk_at dkX9_leanIn 24 rfl) ⟨hRc, hRs⟩) hS (fun q _ h => h.elim) (fun q h => h.elim) (fun r_233 u t H1 locs ht hvm hw hB hz1 hk1 hS => ?_)
        have hP := gz_keep hP hk1
        generalize H1 = H at hP hS ⊢
        have gr_233 : gi r_233 0 3574 := hw
        refine va_iald hx hb hK hP 1 0 rfl rfl (gi_in gr_233 (by decide)) (dk_at dkX9_leanIn 25 rfl) ?_
        refine lv_topi (fun x_234 ex_234 => ?_)
        refine lv_aload_n hx hb (dk_at dkX9_leanIn 26 rfl) rfl (lv_at hl 0 rfl) ?_
        refine lv_iload_n hx hb (dk_at dkX9_leanIn 27 rfl) rfl (lv_at hl 1 rfl) ?_
        refine lv_iload_n hx hb (dk_at dkX9_leanIn 28 rfl) rfl (lv_at hl 3 rfl) ?_
        refine lv_iload hx hb (dk_at dkX9_leanIn 29 rfl) (lv_at hl 4 rfl) ?_
        have hPc := hP.sub (ws' := [(h0, .inr (9, [.ref bf, .ref bh, .ref sa, .int months, .int full, .int lean])), (bh, .inl (kbh, 3575, .inl fbh))]) [0, 2] rfl
        have hKc := hK.sub (tys' := [(kbh, .int)]) [1] rfl
        refine va_calli (va_runV (As := [.int p0, .int v3, .int v4]) (rest := [.int x_234, .int v2]) ⟨hx, hb, hml, hown, hts⟩ (sX9_withLean l dC dI h0 bh bf sa months full lean kbh fbh p0 v3 v4 gmonths gfull glean gp0 (gi_w gv3 (by decide)) g_232) (cwV 3 hts (gz_gV mGA_599 mGA_600 mGA_601 mGA_27 mGA_602 goodGA) rfl rfl rfl (by decide +kernel) ⟨Nat.le_trans (Nat.le_of_ble_eq_true rfl) hRf, Nat.le_trans (Nat.le_of_ble_eq_true rfl) hRl⟩) ⟨bl_I (bl_a bl_P (bl_a bl_K bl_nz)), va_recv hKc hPc (ci := 9) (q0 := 0) rfl rfl, fun U hU hW => ⟨rfl, by rw [hU]; exact hPc, va_K.moved hW.alike hKc, nzA_warm hW hz⟩⟩ rfl rfl hl.1 rfl (lv_room (Nat.le_of_ble_eq_true rfl)) (dk_at dkX9_leanIn 30 rfl) ⟨hRc, hRs⟩) hS (fun q _ h => h.elim) (fun q h => h.elim) (fun r_235 u t H1 locs ht hvm hw hB hz1 hk1 hS => ?_)
        have hP := gz_keep hP hk1
        generalize H1 = H at hP hS ⊢
        refine lv_imul hx hb (dk_at dkX9_leanIn 31 rfl) ?_
        refine lv_topi (fun x_236 ex_236 => ?_)
        refine lv_iadd hx hb (dk_at dkX9_leanIn 32 rfl) ?_
        refine lv_topi (fun x_237 ex_237 => ?_)
        refine lv_istore_n (lv' := [(2, .int x_237), (0, .ref h0), (1, .int p0), (3, .int v3), (4, .int v4)]) hx hb (dk_at dkX9_leanIn 33 rfl) rfl hl (by decide) rfl (fun ls hl => ?_)
        obtain ⟨x_238, ex_238⟩ : ∃ y : Int32, y = v4 + 1 := ⟨_, rfl⟩
        have gx_238 : gi x_238 1 11 := gi_add ex_238 g_232 (gi_c 1 1 (by decide)) (by decide)
        refine lv_iinc (v := x_238) (lv' := [(4, .int x_238), (2, .int x_237), (0, .ref h0), (1, .int p0), (3, .int v3)]) hx hb (dk_at dkX9_leanIn 34 rfl) hl (k := 4) rfl (by rw [ex_238]; rfl) (by decide) rfl (fun ls hl => ?_)
        refine lv_goto (tgt := 15) hx hb (dk_at dkX9_leanIn 35 rfl) (by decide) ?_
        exact ih.2 x_237 v3 x_238 _ _ _ gv3 (gi_w gx_238 (by decide)) (by have av3 := gv3.1; have bv3 := gv3.2; have av4 := gv4.1; have bv4 := gv4.2; have qgx_238 := gx_238.1; have rgx_238 := gx_238.2; have igx_238 : x_238.toInt = v4.toInt + 1 := (by have hc1 : (1 : Int32).toInt = 1 := (by decide); have h9 := gi_addI ex_238 (by have h1 := g_232.1; have h2 := (gi_c 1 1 (by decide)).1; have h3 := g_232.2; have h4 := (gi_c 1 1 (by decide)).2; omega) (by have h1 := g_232.1; have h2 := (gi_c 1 1 (by decide)).1; have h3 := g_232.2; have h4 := (gi_c 1 1 (by decide)).2; omega); rw [hc1] at h9; exact h9); have qgv4 := g_232.1; have rgv4 := g_232.2; have qgv3 := gv3.1; have rgv3 := gv3.2; omega) hP hS (lv_sub hl [2, 3, 1, 4, 0] rfl)
set_option maxHeartbeats 4000000 in
set_option maxRecDepth 100000 in
theorem sX9_leanIn (l : Launch) (dC : Nat → ClassId) (dI : Nat → Nat → Nat) (h0 : Nat) (bf : Nat) (bh : Nat) (sa : Nat) (months : Int32) (full : Int32) (lean : Int32) (kbf : ClassId) (fbf : Nat → Int32) (kbh : ClassId) (fbh : Nat → Int32) (p0 : Int32) (gmonths : gi months 0 24) (gfull : gi full 0 5) (glean : gi lean 0 5) (gp0 : gi p0 0 23) : Met l yX9_leanIn (.code yX9_leanIn cX9_leanIn 5 (some .int) :: wsGA) ({ frames := 3, cells := 0, slots := 0, locals := 66 }) (va_Pc [.ref h0, .int p0] (fun U => va_P (dC, dI) vwCl [(h0, .inr (9, [.ref bf, .ref bh, .ref sa, .int months, .int full, .int lean])), (bf, .inl (kbf, 3575, .inl fbf)), (bh, .inl (kbh, 3575, .inl fbh))] U.heap ∧ va_K (dC, dI) vwCl [(kbf, .int), (kbh, .int)] U ∧ nzA U)) (va_Qi (fun (r : Int32) (u : Unit) => gi r (-2147483648) 2147483647) (fun _ _ => True) (fun _ => False)) 0 0 (fun _ => False) := by
  refine Met.ofW (cc := cX9_leanIn) (maxL := 5) (ret := (some .int)) (by decide) rfl ?_
  intro p e s m args below meth c s₁ B hml hv
  obtain ⟨rfl, hP, hK, hz⟩ := hv
  have hx := B.exec
  have hb := B.bytes
  have hr := B.returns
  have hts := atoms_spec (ws := (.code yX9_leanIn cX9_leanIn 5 (some .int) :: wsGA)) B.pre
  have hown : s.vm.findClass RX9 = some m.cls := findClass_of_methodNamed B.named
  have hlocks := B.notSynchronized
  have hS : va_S (fun _ => False) s.heap s.heap [] := va_S.rf
  have hl := lv_entry ([.ref h0, .int p0]) (n := 5) (Nat.le_of_ble_eq_true rfl)
  rw [lg_entry_eq]
  generalize (lg_sl ([.ref h0, .int p0]) ++ List.replicate (5 - (lg_sl ([.ref h0, .int p0])).length) Slot.unset).toArray = ls at hl ⊢
  have hl : lv_has ls 5 [(0, .ref h0), (1, .int p0)] := hl
  refine lv_iconst (v := 0) hx hb (dk_at dkX9_leanIn 0 rfl) (by decide) ?_
  refine lv_istore_n (lv' := [(2, .int 0), (0, .ref h0), (1, .int p0)]) hx hb (dk_at dkX9_leanIn 1 rfl) rfl hl (by decide) rfl (fun ls hl => ?_)
  refine lv_iconst (v := 0) hx hb (dk_at dkX9_leanIn 2 rfl) (by decide) ?_
  refine lv_istore_n (lv' := [(3, .int 0), (2, .int 0), (0, .ref h0), (1, .int p0)]) hx hb (dk_at dkX9_leanIn 3 rfl) rfl hl (by decide) rfl (fun ls hl => ?_)
  refine (lp_sX9_leanIn h0 bf bh sa months full lean kbf fbf kbh fbh p0 gmonths gfull glean gp0 hx hb hml hown hts hK hz (Nat.le_of_ble_eq_true rfl) (Nat.le_of_ble_eq_true rfl) (Nat.zero_le _) (Nat.zero_le _) (fun v H locs ls hP hS hl => ?_) 738).1 0 0 _ _ _ (gi_w (gi_c 0 0 (by decide)) (by decide)) (by have k0 : (0 : Int32).toInt = 0 := (by decide); omega) hP hS (lv_sub hl [2, 3, 1, 0] rfl)
  · skip
    exact W.iret (v := v) hx hb hr (fun t ht hW => ⟨⟨v, (), rfl, (gi_any v), trivial⟩, hS.F ht⟩) hS.2.2 (dk_at dkX9_leanIn 39 rfl)
noncomputable def lsX9_dated : List (Nat × Instr × Nat) := [(0, .iload_n 3, 1), (1, .iload_n 1, 1), (2, .iload_n 2, 1), (3, .invokestatic 95, 3), (6, .isub, 1), (7, .istore 4, 2), (9, .iload 4, 2), (11, .ifCond .lt 10, 3), (14, .iload 4, 2), (16, .bipush 30, 2), (18, .if_icmp .lt 5, 3), (21, .iconst 0, 1), (22, .ireturn, 1), (23, .iload 4, 2), (25, .bipush 29, 2), (27, .if_icmp .ge 14, 3), (30, .aload_n 0, 1), (31, .getfield 18, 3), (34, .iload_n 1, 1), (35, .iload_n 2, 1), (36, .invokestatic 92, 3), (39, .iaload, 1), (40, .ireturn, 1), (41, .iconst 0, 1), (42, .istore 5, 2), (44, .iload_n 1, 1), (45, .invokestatic 67, 3), (48, .istore 6, 2), (50, .iload 6, 2), (52, .iload_n 1, 1), (53, .aload_n 0, 1), (54, .getfield 31, 3), (57, .aload_n 0, 1), (58, .getfield 35, 3), (61, .invokestatic 71, 3), (64, .if_icmp .gt 35, 3), (67, .iload 5, 2), (69, .aload_n 0, 1), (70, .getfield 9, 3), (73, .iload_n 1, 1), (74, .iload_n 2, 1), (75, .iload 6, 2), (77, .invokestatic 63, 3), (80, .iaload, 1), (81, .aload_n 0, 1), (82, .iload_n 1, 1), (83, .iload_n 2, 1), (84, .iload 6, 2), (86, .invokevirtual 86, 3), (89, .imul, 1), (90, .iadd, 1), (91, .istore 5, 2), (93, .iinc 6 1, 3), (96, .goto (-46), 3), (99, .iload 5, 2), (101, .ireturn, 1)]
theorem dkX9_dated : dkAll cX9_dated lsX9_dated = true := by decide +kernel
set_option maxHeartbeats 4000000 in
set_option maxRecDepth 100000 in
theorem lp_sX9_dated {p : Program} {l : Launch} {e : Env} {R : Room} {s : State} {m : MethodId} {args : Array Value} {below : List Frame} {meth : Method} {c : Code} {Q : State → Prop} {A : Nat → Prop} {cells slots : Nat} {dC : Nat → ClassId} {dI : Nat → Nat → Nat} (h0 : Nat) (bf : Nat) (bh : Nat) (sa : Nat) (months : Int32) (full : Int32) (lean : Int32) (kbf : ClassId) (fbf : Nat → Int32) (kbh : ClassId) (fbh : Nat → Int32) (ksa : ClassId) (fsa : Nat → Int32) (p0 : Int32) (p1 : Int32) (p2 : Int32) (gmonths : gi months 0 24) (gfull : gi full 0 5) (glean : gi lean 0 5) (gp0 : gi p0 0 23) (gp1 : gi p1 0 23) (hx : p.tables.exec = Jvm.exec) (hb : c.code = cX9_dated) (hml : c.maxLocals = 7) (hown : s.vm.findClass RX9 = some m.cls) (hts : ∀ w ∈ ((.code yX9_dated cX9_dated 7 (some .int) :: wsGA) : List Cond), w.before args s = true) (hK : va_K (dC, dI) vwCl [(kbf, .int), (kbh, .int), (ksa, .int)] s) (hz : nzA s) (hRf : 3 ≤ R.frames) (hRl : 66 ≤ R.locals) (hRc : cells ≤ R.cells) (hRs : slots ≤ R.slots) (kr22 : ∀ (v : Int32) (H : Heap) (locs : List Loc) (ls : Array Slot), gi v 0 0 → va_P (dC, dI) vwCl [(h0, .inr (9, [.ref bf, .ref bh, .ref sa, .int months, .int full, .int lean])), (bf, .inl (kbf, 3575, .inl fbf)), (bh, .inl (kbh, 3575, .inl fbh)), (sa, .inl (ksa, 325, .inl fsa))] H → va_S A s.heap H locs → lv_has ls 7 [] → W p l e R s m args below meth c H locs cells slots Q (F0 m 22 ls [.int v])) (kr40 : ∀ (v : Int32) (H : Heap) (locs : List Loc) (ls : Array Slot), va_P (dC, dI) vwCl [(h0, .inr (9, [.ref bf, .ref bh, .ref sa, .int months, .int full, .int lean])), (bf, .inl (kbf, 3575, .inl fbf)), (bh, .inl (kbh, 3575, .inl fbh)), (sa, .inl (ksa, 325, .inl fsa))] H → va_S A s.heap H locs → lv_has ls 7 [] → W p l e R s m args below meth c H locs cells slots Q (F0 m 40 ls [.int v])) (kr101 : ∀ (v : Int32) (H : Heap) (locs : List Loc) (ls : Array Slot), va_P (dC, dI) vwCl [(h0, .inr (9, [.ref bf, .ref bh, .ref sa, .int months, .int full, .int lean])), (bf, .inl (kbf, 3575, .inl fbf)), (bh, .inl (kbh, 3575, .inl fbh)), (sa, .inl (ksa, 325, .inl fsa))] H → va_S A s.heap H locs → lv_has ls 7 [] → W p l e R s m args below meth c H locs cells slots Q (F0 m 101 ls [.int v])) : ∀ z : Nat, (∀ (v4 : Int32) (v5 : Int32) (v6 : Int32) (H : Heap) (locs : List Loc) (ls : Array Slot), gi v4 29 29 → gi v6 0 11 → 23 + (-2) * v6.toInt < (z : Int) → va_P (dC, dI) vwCl [(h0, .inr (9, [.ref bf, .ref bh, .ref sa, .int months, .int full, .int lean])), (bf, .inl (kbf, 3575, .inl fbf)), (bh, .inl (kbh, 3575, .inl fbh)), (sa, .inl (ksa, 325, .inl fsa))] H → va_S A s.heap H locs → lv_has ls 7 [(0, .ref h0), (1, .int p0), (2, .int p1), (3, .int p2), (4, .int v4), (5, .int v5), (6, .int v6)] → W p l e R s m args below meth c H locs cells slots Q (F0 m 50 ls [])) := by
  intro z
  induction z with
  | zero =>
    intro v4 v5 v6 H locs ls gv4 gv6 hmu hP hS hl
    exact absurd hmu (by have hv61 := gv6.1; have hv62 := gv6.2; omega)
  | succ z ih =>
      intro v4 v5 v6 H locs ls gv4 gv6 hmu hP hS hl
      refine lv_iload hx hb (dk_at dkX9_dated 28 rfl) (lv_at hl 6 rfl) ?_
      refine lv_iload_n hx hb (dk_at dkX9_dated 29 rfl) rfl (lv_at hl 1 rfl) ?_
      refine lv_aload_n hx hb (dk_at dkX9_dated 30 rfl) rfl (lv_at hl 0 rfl) ?_
      refine va_get (D := (dC, dI)) (ci := 9) (v := .int full) (C := RX9) (T := TX9) (N := 6) hx hb hts (fun w h => List.mem_cons_of_mem _ (jnGA_X9 w h)) hown hK hP 0 rfl rfl 4 (by decide) (hts _ (List.mem_cons_of_mem _ mGA_562)) (fun _ h9 => h9) rfl (dk_at dkX9_dated 31 rfl) ?_
      refine lv_aload_n hx hb (dk_at dkX9_dated 32 rfl) rfl (lv_at hl 0 rfl) ?_
      refine va_get (D := (dC, dI)) (ci := 9) (v := .int lean) (C := RX9) (T := TX9) (N := 6) hx hb hts (fun w h => List.mem_cons_of_mem _ (jnGA_X9 w h)) hown hK hP 0 rfl rfl 5 (by decide) (hts _ (List.mem_cons_of_mem _ mGA_564)) (fun _ h9 => h9) rfl (dk_at dkX9_dated 33 rfl) ?_
      have hPc := hP.sub (ws' := []) [] rfl
      have hKc := hK.sub (tys' := []) [] rfl
      refine va_calli (va_runSN (As := [.int p0, .int full, .int lean]) (rest := [.int v6]) ⟨hx, hb, hml, hown, hts⟩ (sX11_lastRun l dC dI p0 full lean (gi_w gp0 (by decide)) gfull glean) (⟨va_cnB 3 hts (gz_gP mGA_506 goodGA) rfl rfl rfl (nzA_X9_71 hz) (hts _ (List.mem_cons_of_mem _ mGA_1)) (by decide +kernel) ⟨Nat.le_trans (Nat.le_of_ble_eq_true rfl) hRf, Nat.le_trans (Nat.le_of_ble_eq_true rfl) hRl⟩, (hts _ (List.mem_cons_of_mem _ mGA_505)), trivial⟩) ⟨bl_I (bl_a bl_P (bl_a bl_K bl_nz)), fun U hU hW => ⟨rfl, by rw [hU]; exact hPc, va_K.moved hW.alike hKc, nzA_warm hW hz⟩⟩ rfl rfl hl.1 rfl (lv_room (Nat.le_of_ble_eq_true rfl)) (dk_at dkX9_dated 34 rfl) ⟨hRc, hRs⟩) hS (fun q _ h => h.elim) (fun q h => h.elim) (fun r_241 u t H1 locs ht hvm hw hB hz1 hk1 hS => ?_)
      have hP := gz_keep hP hk1
      generalize H1 = H at hP hS ⊢
      have gr_241 : gi r_241 0 10 := hw
      refine lv_icmp_gt (tgt := 99) hx hb (dk_at dkX9_dated 35 rfl) (by decide) (fun c_242 => ?_) (fun c_242 => ?_)
      · have g_243 : gi v6 1 11 := gi_lt_r c_242 gr_241 gv6 (by decide)
        refine lv_iload hx hb (dk_at dkX9_dated 54 rfl) (lv_at hl 5 rfl) ?_
        exact kr101 v5 _ _ _ hP hS (lv_sub hl [] rfl)
      · have g_244 : gi v6 0 10 := gi_le_l (Int32.not_lt.mp c_242) gv6 gr_241
        refine lv_iload hx hb (dk_at dkX9_dated 36 rfl) (lv_at hl 5 rfl) ?_
        refine lv_aload_n hx hb (dk_at dkX9_dated 37 rfl) rfl (lv_at hl 0 rfl) ?_
        refine va_get (D := (dC, dI)) (ci := 9) (v := .ref bf) (C := RX9) (T := TX9) (N := 6) hx hb hts (fun w h => List.mem_cons_of_mem _ (jnGA_X9 w h)) hown hK hP 0 rfl rfl 0 (by decide) (hts _ (List.mem_cons_of_mem _ mGA_111)) (fun _ h9 => h9) rfl (dk_at dkX9_dated 38 rfl) ?_
        refine lv_iload_n hx hb (dk_at dkX9_dated 39 rfl) rfl (lv_at hl 1 rfl) ?_
        refine lv_iload_n hx hb (dk_at dkX9_dated 40 rfl) rfl (lv_at hl 2 rfl) ?_
        refine lv_iload hx hb (dk_at dkX9_dated 41 rfl) (lv_at hl 6 rfl) ?_
        have hPc := hP.sub (ws' := []) [] rfl
        have hKc := hK.sub (tys' := []) [] rfl
        refine va_calli (va_runSN (As := [.int p0, .int p1, .int v6]) (rest := [.ref bf, .int v5]) ⟨hx, hb, hml, hown, hts⟩ (sX11_spot l dC dI p0 p1 v6 (gi_w gp0 (by decide)) (gi_w gp1 (by decide)) g_244) (⟨va_cnB 3 hts (gz_gP mGA_582 goodGA) rfl rfl rfl (nzA_X9_63 hz) (hts _ (List.mem_cons_of_mem _ mGA_1)) (by decide +kernel) ⟨Nat.le_trans (Nat.le_of_ble_eq_true rfl) hRf, Nat.le_trans (Nat.le_of_ble_eq_true rfl) hRl⟩, (hts _ (List.mem_cons_of_mem _ mGA_581)), trivial⟩) ⟨bl_I (bl_a bl_P (bl_a bl_K bl_nz)), fun U hU hW => ⟨rfl, by rw [hU]; exact hPc, va_K.moved hW.alike hKc, nzA_warm hW hz⟩⟩ rfl rfl hl.1 rfl (lv_room (Nat.le_of_ble_eq_true rfl)) (dk_at dkX9_dated 42 rfl) ⟨hRc, hRs⟩) hS (fun q _ h => h.elim) (fun q h => h.elim) (fun r_245 u t H1 locs ht hvm hw hB hz1 hk1 hS => ?_)
        have hP := gz_keep hP hk1
        generalize H1 = H at hP hS ⊢
        have gr_245 : gi r_245 0 3574 := hw
        refine va_iald hx hb hK hP 1 0 rfl rfl (gi_in gr_245 (by decide)) (dk_at dkX9_dated 43 rfl) ?_
        refine lv_topi (fun x_246 ex_246 => ?_)
        refine lv_aload_n hx hb (dk_at dkX9_dated 44 rfl) rfl (lv_at hl 0 rfl) ?_
        refine lv_iload_n hx hb (dk_at dkX9_dated 45 rfl) rfl (lv_at hl 1 rfl) ?_
        refine lv_iload_n hx hb (dk_at dkX9_dated 46 rfl) rfl (lv_at hl 2 rfl) ?_
        refine lv_iload hx hb (dk_at dkX9_dated 47 rfl) (lv_at hl 6 rfl) ?_
        have hPc := hP.sub (ws' := [(h0, .inr (9, [.ref bf, .ref bh, .ref sa, .int months, .int full, .int lean])), (bh, .inl (kbh, 3575, .inl fbh))]) [0, 2] rfl
        have hKc := hK.sub (tys' := [(kbh, .int)]) [1] rfl
        refine va_calli (va_runV (As := [.int p0, .int p1, .int v6]) (rest := [.int x_246, .int v5]) ⟨hx, hb, hml, hown, hts⟩ (sX9_withFull l dC dI h0 bh bf sa months full lean kbh fbh p0 p1 v6 gmonths gfull glean gp0 gp1 g_244) (cwV 3 hts (gz_gV mGA_595 mGA_596 mGA_597 mGA_27 mGA_598 goodGA) rfl rfl rfl (by decide +kernel) ⟨Nat.le_trans (Nat.le_of_ble_eq_true rfl) hRf, Nat.le_trans (Nat.le_of_ble_eq_true rfl) hRl⟩) ⟨bl_I (bl_a bl_P (bl_a bl_K bl_nz)), va_recv hKc hPc (ci := 9) (q0 := 0) rfl rfl, fun U hU hW => ⟨rfl, by rw [hU]; exact hPc, va_K.moved hW.alike hKc, nzA_warm hW hz⟩⟩ rfl rfl hl.1 rfl (lv_room (Nat.le_of_ble_eq_true rfl)) (dk_at dkX9_dated 48 rfl) ⟨hRc, hRs⟩) hS (fun q _ h => h.elim) (fun q h => h.elim) (fun r_247 u t H1 locs ht hvm hw hB hz1 hk1 hS => ?_)
        have hP := gz_keep hP hk1
        generalize H1 = H at hP hS ⊢
        refine lv_imul hx hb (dk_at dkX9_dated 49 rfl) ?_
        refine lv_topi (fun x_248 ex_248 => ?_)
        refine lv_iadd hx hb (dk_at dkX9_dated 50 rfl) ?_
        refine lv_topi (fun x_249 ex_249 => ?_)
        refine lv_istore (lv' := [(5, .int x_249), (0, .ref h0), (1, .int p0), (2, .int p1), (3, .int p2), (4, .int v4), (6, .int v6)]) hx hb (dk_at dkX9_dated 51 rfl) hl (by decide) rfl (fun ls hl => ?_)
        obtain ⟨x_250, ex_250⟩ : ∃ y : Int32, y = v6 + 1 := ⟨_, rfl⟩
        have gx_250 : gi x_250 1 11 := gi_add ex_250 g_244 (gi_c 1 1 (by decide)) (by decide)
        refine lv_iinc (v := x_250) (lv' := [(6, .int x_250), (5, .int x_249), (0, .ref h0), (1, .int p0), (2, .int p1), (3, .int p2), (4, .int v4)]) hx hb (dk_at dkX9_dated 52 rfl) hl (k := 6) rfl (by rw [ex_250]; rfl) (by decide) rfl (fun ls hl => ?_)
        refine lv_goto (tgt := 50) hx hb (dk_at dkX9_dated 53 rfl) (by decide) ?_
        exact ih v4 x_249 x_250 _ _ _ gv4 (gi_w gx_250 (by decide)) (by have av6 := gv6.1; have bv6 := gv6.2; have qgx_250 := gx_250.1; have rgx_250 := gx_250.2; have igx_250 : x_250.toInt = v6.toInt + 1 := (by have hc1 : (1 : Int32).toInt = 1 := (by decide); have h9 := gi_addI ex_250 (by have h1 := g_244.1; have h2 := (gi_c 1 1 (by decide)).1; have h3 := g_244.2; have h4 := (gi_c 1 1 (by decide)).2; omega) (by have h1 := g_244.1; have h2 := (gi_c 1 1 (by decide)).1; have h3 := g_244.2; have h4 := (gi_c 1 1 (by decide)).2; omega); rw [hc1] at h9; exact h9); have qgv6 := g_244.1; have rgv6 := g_244.2; omega) hP hS (lv_sub hl [2, 3, 4, 5, 6, 1, 0] rfl)
set_option maxHeartbeats 4000000 in
set_option maxRecDepth 100000 in
theorem sX9_dated (l : Launch) (dC : Nat → ClassId) (dI : Nat → Nat → Nat) (h0 : Nat) (bf : Nat) (bh : Nat) (sa : Nat) (months : Int32) (full : Int32) (lean : Int32) (kbf : ClassId) (fbf : Nat → Int32) (kbh : ClassId) (fbh : Nat → Int32) (ksa : ClassId) (fsa : Nat → Int32) (p0 : Int32) (p1 : Int32) (p2 : Int32) (gmonths : gi months 0 24) (gfull : gi full 0 5) (glean : gi lean 0 5) (gp0 : gi p0 0 23) (gp1 : gi p1 0 23) : Met l yX9_dated (.code yX9_dated cX9_dated 7 (some .int) :: wsGA) ({ frames := 3, cells := 0, slots := 0, locals := 66 }) (va_Pc [.ref h0, .int p0, .int p1, .int p2] (fun U => va_P (dC, dI) vwCl [(h0, .inr (9, [.ref bf, .ref bh, .ref sa, .int months, .int full, .int lean])), (bf, .inl (kbf, 3575, .inl fbf)), (bh, .inl (kbh, 3575, .inl fbh)), (sa, .inl (ksa, 325, .inl fsa))] U.heap ∧ va_K (dC, dI) vwCl [(kbf, .int), (kbh, .int), (ksa, .int)] U ∧ nzA U)) (va_Qi (fun (r : Int32) (u : Unit) => gi r (-2147483648) 2147483647) (fun _ _ => True) (fun _ => False)) 0 0 (fun _ => False) := by
  refine Met.ofW (cc := cX9_dated) (maxL := 7) (ret := (some .int)) (by decide) rfl ?_
  intro p e s m args below meth c s₁ B hml hv
  obtain ⟨rfl, hP, hK, hz⟩ := hv
  have hx := B.exec
  have hb := B.bytes
  have hr := B.returns
  have hts := atoms_spec (ws := (.code yX9_dated cX9_dated 7 (some .int) :: wsGA)) B.pre
  have hown : s.vm.findClass RX9 = some m.cls := findClass_of_methodNamed B.named
  have hlocks := B.notSynchronized
  have hS : va_S (fun _ => False) s.heap s.heap [] := va_S.rf
  have hl := lv_entry ([.ref h0, .int p0, .int p1, .int p2]) (n := 7) (Nat.le_of_ble_eq_true rfl)
  rw [lg_entry_eq]
  generalize (lg_sl ([.ref h0, .int p0, .int p1, .int p2]) ++ List.replicate (7 - (lg_sl ([.ref h0, .int p0, .int p1, .int p2])).length) Slot.unset).toArray = ls at hl ⊢
  have hl : lv_has ls 7 [(0, .ref h0), (1, .int p0), (2, .int p1), (3, .int p2)] := hl
  refine lv_iload_n hx hb (dk_at dkX9_dated 0 rfl) rfl (lv_at hl 3 rfl) ?_
  refine lv_iload_n hx hb (dk_at dkX9_dated 1 rfl) rfl (lv_at hl 1 rfl) ?_
  refine lv_iload_n hx hb (dk_at dkX9_dated 2 rfl) rfl (lv_at hl 2 rfl) ?_
  have hPc := hP.sub (ws' := []) [] rfl
  have hKc := hK.sub (tys' := []) [] rfl
  refine va_calli (va_runSN (As := [.int p0, .int p1]) (rest := [.int p2]) ⟨hx, hb, hml, hown, hts⟩ (sX11_dayOf l dC dI p0 p1) (⟨va_cnB 2 hts (gz_gP mGA_516 goodGA) rfl rfl rfl (nzA_X9_95 hz) (hts _ (List.mem_cons_of_mem _ mGA_1)) (by decide +kernel) ⟨Nat.le_of_ble_eq_true rfl, Nat.le_of_ble_eq_true rfl⟩, (hts _ (List.mem_cons_of_mem _ mGA_515)), trivial⟩) ⟨bl_I (bl_a bl_P (bl_a bl_K bl_nz)), fun U hU hW => ⟨rfl, by rw [hU]; exact hPc, va_K.moved hW.alike hKc, nzA_warm hW hz⟩⟩ rfl rfl hl.1 rfl (lv_room (Nat.le_of_ble_eq_true rfl)) (dk_at dkX9_dated 3 rfl) ⟨Nat.zero_le _, Nat.zero_le _⟩) hS (fun q _ h => h.elim) (fun q h => h.elim) (fun r_251 u t H1 locs ht hvm hw hB hz1 hk1 hS => ?_)
  have hP := gz_keep hP hk1
  generalize H1 = H at hP hS ⊢
  refine lv_isub hx hb (dk_at dkX9_dated 4 rfl) ?_
  refine lv_topi (fun x_252 ex_252 => ?_)
  refine lv_istore (lv' := [(4, .int x_252), (0, .ref h0), (1, .int p0), (2, .int p1), (3, .int p2)]) hx hb (dk_at dkX9_dated 5 rfl) hl (by decide) rfl (fun ls hl => ?_)
  refine lv_iload hx hb (dk_at dkX9_dated 6 rfl) (lv_at hl 0 rfl) ?_
  refine lv_if_lt (tgt := 21) hx hb (dk_at dkX9_dated 7 rfl) (by decide) (fun c_253 => ?_) (fun c_253 => ?_)
  · have g_254 : gi x_252 (-2147483648) (-1) := gi_lt_l c_253 (gi_any x_252) (gi_c 0 0 (by decide)) (by decide)
    refine lv_iconst (v := 0) hx hb (dk_at dkX9_dated 11 rfl) (by decide) ?_
    exact W.iret (v := 0) hx hb hr (fun t ht hW => ⟨⟨0, (), rfl, (gi_any 0), trivial⟩, hS.F ht⟩) hS.2.2 (dk_at dkX9_dated 12 rfl)
  · have g_255 : gi x_252 0 2147483647 := gi_le_r (Int32.not_lt.mp c_253) (gi_c 0 0 (by decide)) (gi_any x_252)
    refine lv_iload hx hb (dk_at dkX9_dated 8 rfl) (lv_at hl 0 rfl) ?_
    refine lv_bipush (v := 30) hx hb (dk_at dkX9_dated 9 rfl) (by decide) ?_
    refine lv_icmp_lt (tgt := 23) hx hb (dk_at dkX9_dated 10 rfl) (by decide) (fun c_256 => ?_) (fun c_256 => ?_)
    · have g_257 : gi x_252 0 29 := gi_lt_l c_256 g_255 (gi_c 30 30 (by decide)) (by decide)
      refine lv_iload hx hb (dk_at dkX9_dated 13 rfl) (lv_at hl 0 rfl) ?_
      refine lv_bipush (v := 29) hx hb (dk_at dkX9_dated 14 rfl) (by decide) ?_
      refine lv_icmp_ge (tgt := 41) hx hb (dk_at dkX9_dated 15 rfl) (by decide) (fun c_258 => ?_) (fun c_258 => ?_)
      · have g_259 : gi x_252 29 29 := gi_le_r c_258 (gi_c 29 29 (by decide)) g_257
        refine lv_iconst (v := 0) hx hb (dk_at dkX9_dated 23 rfl) (by decide) ?_
        refine lv_istore (lv' := [(5, .int 0), (4, .int x_252), (0, .ref h0), (1, .int p0), (2, .int p1), (3, .int p2)]) hx hb (dk_at dkX9_dated 24 rfl) hl (by decide) rfl (fun ls hl => ?_)
        refine lv_iload_n hx hb (dk_at dkX9_dated 25 rfl) rfl (lv_at hl 3 rfl) ?_
        have hPc := hP.sub (ws' := []) [] rfl
        have hKc := hK.sub (tys' := []) [] rfl
        refine va_calli (va_runSN (As := [.int p0]) (rest := []) ⟨hx, hb, hml, hown, hts⟩ (sX11_firstRun l dC dI p0 (gi_w gp0 (by decide))) (⟨va_cnB 1 hts (gz_gP mGA_504 goodGA) rfl rfl rfl (nzA_X9_67 hz) (hts _ (List.mem_cons_of_mem _ mGA_1)) (by decide +kernel) ⟨Nat.le_of_ble_eq_true rfl, Nat.le_of_ble_eq_true rfl⟩, (hts _ (List.mem_cons_of_mem _ mGA_503)), trivial⟩) ⟨bl_I (bl_a bl_P (bl_a bl_K bl_nz)), fun U hU hW => ⟨rfl, by rw [hU]; exact hPc, va_K.moved hW.alike hKc, nzA_warm hW hz⟩⟩ rfl rfl hl.1 rfl (lv_room (Nat.le_of_ble_eq_true rfl)) (dk_at dkX9_dated 26 rfl) ⟨Nat.zero_le _, Nat.zero_le _⟩) hS (fun q _ h => h.elim) (fun q h => h.elim) (fun r_260 u t H1 locs ht hvm hw hB hz1 hk1 hS => ?_)
        have hP := gz_keep hP hk1
        generalize H1 = H at hP hS ⊢
        have gr_260 : gi r_260 0 1 := hw
        refine lv_istore (lv' := [(6, .int r_260), (5, .int 0), (4, .int x_252), (0, .ref h0), (1, .int p0), (2, .int p1), (3, .int p2)]) hx hb (dk_at dkX9_dated 27 rfl) hl (by decide) rfl (fun ls hl => ?_)
        refine (lp_sX9_dated h0 bf bh sa months full lean kbf fbf kbh fbh ksa fsa p0 p1 p2 gmonths gfull glean gp0 gp1 hx hb hml hown hts hK hz (Nat.le_of_ble_eq_true rfl) (Nat.le_of_ble_eq_true rfl) (Nat.zero_le _) (Nat.zero_le _) (fun v H locs ls gv hP hS hl => ?_) (fun v H locs ls hP hS hl => ?_) (fun v H locs ls hP hS hl => ?_) 36) x_252 0 r_260 _ _ _ g_259 (gi_w gr_260 (by decide)) (by have qgr_260 := gr_260.1; have rgr_260 := gr_260.2; omega) hP hS (lv_sub hl [3, 4, 5, 6, 2, 1, 0] rfl)
        · skip
          exact W.iret (v := v) hx hb hr (fun t ht hW => ⟨⟨v, (), rfl, (gi_any v), trivial⟩, hS.F ht⟩) hS.2.2 (dk_at dkX9_dated 12 rfl)
        · skip
          exact W.iret (v := v) hx hb hr (fun t ht hW => ⟨⟨v, (), rfl, (gi_any v), trivial⟩, hS.F ht⟩) hS.2.2 (dk_at dkX9_dated 22 rfl)
        · skip
          exact W.iret (v := v) hx hb hr (fun t ht hW => ⟨⟨v, (), rfl, (gi_any v), trivial⟩, hS.F ht⟩) hS.2.2 (dk_at dkX9_dated 55 rfl)
      · have g_261 : gi x_252 0 28 := gi_lt_l (Int32.not_le.mp c_258) g_257 (gi_c 29 29 (by decide)) (by decide)
        refine lv_aload_n hx hb (dk_at dkX9_dated 16 rfl) rfl (lv_at hl 1 rfl) ?_
        refine va_get (D := (dC, dI)) (ci := 9) (v := .ref sa) (C := RX9) (T := TX9) (N := 6) hx hb hts (fun w h => List.mem_cons_of_mem _ (jnGA_X9 w h)) hown hK hP 0 rfl rfl 2 (by decide) (hts _ (List.mem_cons_of_mem _ mGA_113)) (fun _ h9 => h9) rfl (dk_at dkX9_dated 17 rfl) ?_
        refine lv_iload_n hx hb (dk_at dkX9_dated 18 rfl) rfl (lv_at hl 2 rfl) ?_
        refine lv_iload_n hx hb (dk_at dkX9_dated 19 rfl) rfl (lv_at hl 3 rfl) ?_
        have hPc := hP.sub (ws' := []) [] rfl
        have hKc := hK.sub (tys' := []) [] rfl
        refine va_calli (va_runSN (As := [.int p0, .int p1]) (rest := [.ref sa]) ⟨hx, hb, hml, hown, hts⟩ (sX11_cell l dC dI p0 p1 (gi_w gp0 (by decide)) (gi_w gp1 (by decide))) (⟨va_cnB 2 hts (gz_gP mGA_585 goodGA) rfl rfl rfl (nzA_X9_92 hz) (hts _ (List.mem_cons_of_mem _ mGA_1)) (by decide +kernel) ⟨Nat.le_of_ble_eq_true rfl, Nat.le_of_ble_eq_true rfl⟩, (hts _ (List.mem_cons_of_mem _ mGA_584)), trivial⟩) ⟨bl_I (bl_a bl_P (bl_a bl_K bl_nz)), fun U hU hW => ⟨rfl, by rw [hU]; exact hPc, va_K.moved hW.alike hKc, nzA_warm hW hz⟩⟩ rfl rfl hl.1 rfl (lv_room (Nat.le_of_ble_eq_true rfl)) (dk_at dkX9_dated 20 rfl) ⟨Nat.zero_le _, Nat.zero_le _⟩) hS (fun q _ h => h.elim) (fun q h => h.elim) (fun r_262 u t H1 locs ht hvm hw hB hz1 hk1 hS => ?_)
        have hP := gz_keep hP hk1
        generalize H1 = H at hP hS ⊢
        have gr_262 : gi r_262 0 324 := hw
        refine va_iald hx hb hK hP 3 2 rfl rfl (gi_in gr_262 (by decide)) (dk_at dkX9_dated 21 rfl) ?_
        refine lv_topi (fun x_263 ex_263 => ?_)
        exact W.iret (v := x_263) hx hb hr (fun t ht hW => ⟨⟨x_263, (), rfl, (gi_any x_263), trivial⟩, hS.F ht⟩) hS.2.2 (dk_at dkX9_dated 22 rfl)
    · have g_264 : gi x_252 30 2147483647 := gi_le_r (Int32.not_lt.mp c_256) (gi_c 30 30 (by decide)) g_255
      refine lv_iconst (v := 0) hx hb (dk_at dkX9_dated 11 rfl) (by decide) ?_
      exact W.iret (v := 0) hx hb hr (fun t ht hW => ⟨⟨0, (), rfl, (gi_any 0), trivial⟩, hS.F ht⟩) hS.2.2 (dk_at dkX9_dated 12 rfl)
noncomputable def lsX9_takeOnWithFull : List (Nat × Instr × Nat) := [(0, .iload_n 1, 1), (1, .iload_n 2, 1), (2, .iconst 0, 1), (3, .invokestatic 63, 3), (6, .istore_n 3, 1), (7, .iload_n 1, 1), (8, .iconst 1, 1), (9, .iadd, 1), (10, .iload_n 2, 1), (11, .iconst 1, 1), (12, .iadd, 1), (13, .iconst 0, 1), (14, .invokestatic 63, 3), (17, .istore 4, 2), (19, .iload_n 1, 1), (20, .invokestatic 67, 3), (23, .istore 5, 2), (25, .iload 5, 2), (27, .iload_n 1, 1), (28, .aload_n 0, 1), (29, .getfield 31, 3), (32, .aload_n 0, 1), (33, .getfield 35, 3), (36, .invokestatic 71, 3), (39, .if_icmp .gt 47, 3), (42, .iload 5, 2), (44, .aload_n 0, 1), (45, .getfield 31, 3), (48, .invokestatic 74, 3), (51, .istore 6, 2), (53, .iload 6, 2), (55, .ifCond .eq 25, 3), (58, .aload_n 0, 1), (59, .getfield 9, 3), (62, .iload 4, 2), (64, .iload 6, 2), (66, .iadd, 1), (67, .dup2, 1), (68, .iaload, 1), (69, .aload_n 0, 1), (70, .getfield 9, 3), (73, .iload_n 3, 1), (74, .iload 5, 2), (76, .iadd, 1), (77, .iaload, 1), (78, .iadd, 1), (79, .iastore, 1), (80, .iinc 5 1, 3), (83, .goto (-58), 3), (86, .return_, 1)]
theorem dkX9_takeOnWithFull : dkAll cX9_takeOnWithFull lsX9_takeOnWithFull = true := by decide +kernel
set_option maxHeartbeats 4000000 in
set_option maxRecDepth 100000 in
theorem lp_sX9_takeOnWithFull {p : Program} {l : Launch} {e : Env} {R : Room} {s : State} {m : MethodId} {args : Array Value} {below : List Frame} {meth : Method} {c : Code} {Q : State → Prop} {A : Nat → Prop} {cells slots : Nat} {dC : Nat → ClassId} {dI : Nat → Nat → Nat} (h0 : Nat) (bf : Nat) (bh : Nat) (sa : Nat) (months : Int32) (full : Int32) (lean : Int32) (kbf : ClassId) (fbf : Nat → Int32) (p0 : Int32) (p1 : Int32) (gmonths : gi months 0 24) (gfull : gi full 0 5) (glean : gi lean 0 5) (gp0 : gi p0 0 23) (gp1 : gi p1 0 23) (hx : p.tables.exec = Jvm.exec) (hb : c.code = cX9_takeOnWithFull) (hml : c.maxLocals = 7) (hown : s.vm.findClass RX9 = some m.cls) (hts : ∀ w ∈ ((.code yX9_takeOnWithFull cX9_takeOnWithFull 7 none :: wsGA) : List Cond), w.before args s = true) (hK : va_K (dC, dI) vwCl [(kbf, .int)] s) (hz : nzA s) (hA : ∀ q : Nat, s.heap.size ≤ q → A q) (hRf : 2 ≤ R.frames) (hRl : 43 ≤ R.locals) (hRc : cells ≤ R.cells) (hRs : slots ≤ R.slots) (kr86 : ∀ (z1 : Nat → Int32) (H : Heap) (locs : List Loc) (ls : Array Slot), va_P (dC, dI) vwCl [(h0, .inr (9, [.ref bf, .ref bh, .ref sa, .int months, .int full, .int lean])), (bf, .inl (kbf, 3575, .inl z1))] H → va_D A [(h0, .inr (9, [.ref bf, .ref bh, .ref sa, .int months, .int full, .int lean])), (bf, .inl (kbf, 3575, .inl z1))] → va_S A s.heap H locs → lv_has ls 7 [] → W p l e R s m args below meth c H locs cells slots Q (F0 m 86 ls [])) : ∀ z : Nat, (∀ (v3 : Int32) (v4 : Int32) (v5 : Int32) (z1 : Nat → Int32) (H : Heap) (locs : List Loc) (ls : Array Slot), gi v3 0 3564 → gi v4 0 3564 → gi v5 0 11 → 23 + (-2) * v5.toInt < (z : Int) → va_P (dC, dI) vwCl [(h0, .inr (9, [.ref bf, .ref bh, .ref sa, .int months, .int full, .int lean])), (bf, .inl (kbf, 3575, .inl z1))] H → va_D A [(h0, .inr (9, [.ref bf, .ref bh, .ref sa, .int months, .int full, .int lean])), (bf, .inl (kbf, 3575, .inl z1))] → va_S A s.heap H locs → lv_has ls 7 [(0, .ref h0), (1, .int p0), (2, .int p1), (3, .int v3), (4, .int v4), (5, .int v5)] → W p l e R s m args below meth c H locs cells slots Q (F0 m 25 ls [])) := by
  intro z
  induction z with
  | zero =>
    intro v3 v4 v5 z1 H locs ls gv3 gv4 gv5 hmu hP hD hS hl
    exact absurd hmu (by have hv51 := gv5.1; have hv52 := gv5.2; omega)
  | succ z ih =>
      intro v3 v4 v5 z1 H locs ls gv3 gv4 gv5 hmu hP hD hS hl
      refine lv_iload hx hb (dk_at dkX9_takeOnWithFull 17 rfl) (lv_at hl 5 rfl) ?_
      refine lv_iload_n hx hb (dk_at dkX9_takeOnWithFull 18 rfl) rfl (lv_at hl 1 rfl) ?_
      refine lv_aload_n hx hb (dk_at dkX9_takeOnWithFull 19 rfl) rfl (lv_at hl 0 rfl) ?_
      refine va_get (D := (dC, dI)) (ci := 9) (v := .int full) (C := RX9) (T := TX9) (N := 6) hx hb hts (fun w h => List.mem_cons_of_mem _ (jnGA_X9 w h)) hown hK hP 0 rfl rfl 4 (by decide) (hts _ (List.mem_cons_of_mem _ mGA_562)) (fun _ h9 => h9) rfl (dk_at dkX9_takeOnWithFull 20 rfl) ?_
      refine lv_aload_n hx hb (dk_at dkX9_takeOnWithFull 21 rfl) rfl (lv_at hl 0 rfl) ?_
      refine va_get (D := (dC, dI)) (ci := 9) (v := .int lean) (C := RX9) (T := TX9) (N := 6) hx hb hts (fun w h => List.mem_cons_of_mem _ (jnGA_X9 w h)) hown hK hP 0 rfl rfl 5 (by decide) (hts _ (List.mem_cons_of_mem _ mGA_564)) (fun _ h9 => h9) rfl (dk_at dkX9_takeOnWithFull 22 rfl) ?_
      have hPc := hP.sub (ws' := []) [] rfl
      have hKc := hK.sub (tys' := []) [] rfl
      refine va_calli (va_runSN (As := [.int p0, .int full, .int lean]) (rest := [.int v5]) ⟨hx, hb, hml, hown, hts⟩ (sX11_lastRun l dC dI p0 full lean (gi_w gp0 (by decide)) gfull glean) (⟨va_cnB 3 hts (gz_gP mGA_506 goodGA) rfl rfl rfl (nzA_X9_71 hz) (hts _ (List.mem_cons_of_mem _ mGA_1)) (by decide +kernel) ⟨Nat.le_trans (Nat.le_of_ble_eq_true rfl) hRf, Nat.le_trans (Nat.le_of_ble_eq_true rfl) hRl⟩, (hts _ (List.mem_cons_of_mem _ mGA_505)), trivial⟩) ⟨bl_I (bl_a bl_P (bl_a bl_K bl_nz)), fun U hU hW => ⟨rfl, by rw [hU]; exact hPc, va_K.moved hW.alike hKc, nzA_warm hW hz⟩⟩ rfl rfl hl.1 rfl (lv_room (Nat.le_of_ble_eq_true rfl)) (dk_at dkX9_takeOnWithFull 23 rfl) ⟨hRc, hRs⟩) hS (fun q _ h => h.elim) (fun q h => h.elim) (fun r_211 u t H1 locs ht hvm hw hB hz1 hk1 hS => ?_)
      have hP := gz_keep hP hk1
      generalize H1 = H at hP hS ⊢
      have gr_211 : gi r_211 0 10 := hw
      refine lv_icmp_gt (tgt := 86) hx hb (dk_at dkX9_takeOnWithFull 24 rfl) (by decide) (fun c_212 => ?_) (fun c_212 => ?_)
      · have g_213 : gi v5 1 11 := gi_lt_r c_212 gr_211 gv5 (by decide)
        exact kr86 z1 _ _ _ hP hD hS (lv_sub hl [] rfl)
      · have g_214 : gi v5 0 10 := gi_le_l (Int32.not_lt.mp c_212) gv5 gr_211
        refine lv_iload hx hb (dk_at dkX9_takeOnWithFull 25 rfl) (lv_at hl 5 rfl) ?_
        refine lv_aload_n hx hb (dk_at dkX9_takeOnWithFull 26 rfl) rfl (lv_at hl 0 rfl) ?_
        refine va_get (D := (dC, dI)) (ci := 9) (v := .int full) (C := RX9) (T := TX9) (N := 6) hx hb hts (fun w h => List.mem_cons_of_mem _ (jnGA_X9 w h)) hown hK hP 0 rfl rfl 4 (by decide) (hts _ (List.mem_cons_of_mem _ mGA_562)) (fun _ h9 => h9) rfl (dk_at dkX9_takeOnWithFull 27 rfl) ?_
        have hPc := hP.sub (ws' := []) [] rfl
        have hKc := hK.sub (tys' := []) [] rfl
        refine va_calli (va_runSN (As := [.int v5, .int full]) (rest := []) ⟨hx, hb, hml, hown, hts⟩ (sX11_runWithFull l dC dI v5 full g_214 gfull) (⟨va_cnB 2 hts (gz_gP mGA_508 goodGA) rfl rfl rfl (nzA_X9_74 hz) (hts _ (List.mem_cons_of_mem _ mGA_1)) (by decide +kernel) ⟨Nat.le_trans (Nat.le_of_ble_eq_true rfl) hRf, Nat.le_trans (Nat.le_of_ble_eq_true rfl) hRl⟩, (hts _ (List.mem_cons_of_mem _ mGA_507)), trivial⟩) ⟨bl_I (bl_a bl_P (bl_a bl_K bl_nz)), fun U hU hW => ⟨rfl, by rw [hU]; exact hPc, va_K.moved hW.alike hKc, nzA_warm hW hz⟩⟩ rfl rfl hl.1 rfl (lv_room (Nat.le_of_ble_eq_true rfl)) (dk_at dkX9_takeOnWithFull 28 rfl) ⟨hRc, hRs⟩) hS (fun q _ h => h.elim) (fun q h => h.elim) (fun r_215 u t H1 locs ht hvm hw hB hz1 hk1 hS => ?_)
        have hP := gz_keep hP hk1
        generalize H1 = H at hP hS ⊢
        have gr_215 : gi r_215 0 5 := hw
        refine lv_istore (lv' := [(6, .int r_215), (0, .ref h0), (1, .int p0), (2, .int p1), (3, .int v3), (4, .int v4), (5, .int v5)]) hx hb (dk_at dkX9_takeOnWithFull 29 rfl) hl (by decide) rfl (fun ls hl => ?_)
        refine lv_iload hx hb (dk_at dkX9_takeOnWithFull 30 rfl) (lv_at hl 0 rfl) ?_
        refine lv_if_eq (tgt := 80) hx hb (dk_at dkX9_takeOnWithFull 31 rfl) (by decide) (fun c_216 => ?_) (fun c_216 => ?_)
        · have g_217 : gi r_215 0 0 := gi_eq c_216 (gi_c 0 0 (by decide))
          obtain ⟨x_218, ex_218⟩ : ∃ y : Int32, y = v5 + 1 := ⟨_, rfl⟩
          have gx_218 : gi x_218 1 11 := gi_add ex_218 g_214 (gi_c 1 1 (by decide)) (by decide)
          refine lv_iinc (v := x_218) (lv' := [(5, .int x_218), (6, .int r_215), (0, .ref h0), (1, .int p0), (2, .int p1), (3, .int v3), (4, .int v4)]) hx hb (dk_at dkX9_takeOnWithFull 47 rfl) hl (k := 6) rfl (by rw [ex_218]; rfl) (by decide) rfl (fun ls hl => ?_)
          refine lv_goto (tgt := 25) hx hb (dk_at dkX9_takeOnWithFull 48 rfl) (by decide) ?_
          exact ih v3 v4 x_218 z1 _ _ _ gv3 gv4 (gi_w gx_218 (by decide)) (by have av5 := gv5.1; have bv5 := gv5.2; have qgx_218 := gx_218.1; have rgx_218 := gx_218.2; have igx_218 : x_218.toInt = v5.toInt + 1 := (by have hc1 : (1 : Int32).toInt = 1 := (by decide); have h9 := gi_addI ex_218 (by have h1 := g_214.1; have h2 := (gi_c 1 1 (by decide)).1; have h3 := g_214.2; have h4 := (gi_c 1 1 (by decide)).2; omega) (by have h1 := g_214.1; have h2 := (gi_c 1 1 (by decide)).1; have h3 := g_214.2; have h4 := (gi_c 1 1 (by decide)).2; omega); rw [hc1] at h9; exact h9); have qgv5 := g_214.1; have rgv5 := g_214.2; omega) hP hD hS (lv_sub hl [2, 3, 4, 5, 6, 0] rfl)
        · have g_219 : gi r_215 1 5 := gi_ne_lo c_216 gr_215 (gi_c 0 0 (by decide)) (by decide)
          refine lv_aload_n hx hb (dk_at dkX9_takeOnWithFull 32 rfl) rfl (lv_at hl 1 rfl) ?_
          refine va_get (D := (dC, dI)) (ci := 9) (v := .ref bf) (C := RX9) (T := TX9) (N := 6) hx hb hts (fun w h => List.mem_cons_of_mem _ (jnGA_X9 w h)) hown hK hP 0 rfl rfl 0 (by decide) (hts _ (List.mem_cons_of_mem _ mGA_111)) (fun _ h9 => h9) rfl (dk_at dkX9_takeOnWithFull 33 rfl) ?_
          refine lv_iload hx hb (dk_at dkX9_takeOnWithFull 34 rfl) (lv_at hl 5 rfl) ?_
          refine lv_iload hx hb (dk_at dkX9_takeOnWithFull 35 rfl) (lv_at hl 0 rfl) ?_
          refine lv_iadd hx hb (dk_at dkX9_takeOnWithFull 36 rfl) ?_
          refine lv_topi (fun x_220 ex_220 => ?_)
          have gx_220 : gi x_220 1 3569 := gi_add ex_220 gv4 g_219 (by decide)
          refine lv_dup2_11 hx hb (dk_at dkX9_takeOnWithFull 37 rfl) rfl rfl ?_
          refine va_iald hx hb hK hP 1 0 rfl rfl (gi_in gx_220 (by decide)) (dk_at dkX9_takeOnWithFull 38 rfl) ?_
          refine lv_topi (fun x_221 ex_221 => ?_)
          refine lv_aload_n hx hb (dk_at dkX9_takeOnWithFull 39 rfl) rfl (lv_at hl 1 rfl) ?_
          refine va_get (D := (dC, dI)) (ci := 9) (v := .ref bf) (C := RX9) (T := TX9) (N := 6) hx hb hts (fun w h => List.mem_cons_of_mem _ (jnGA_X9 w h)) hown hK hP 0 rfl rfl 0 (by decide) (hts _ (List.mem_cons_of_mem _ mGA_111)) (fun _ h9 => h9) rfl (dk_at dkX9_takeOnWithFull 40 rfl) ?_
          refine lv_iload_n hx hb (dk_at dkX9_takeOnWithFull 41 rfl) rfl (lv_at hl 4 rfl) ?_
          refine lv_iload hx hb (dk_at dkX9_takeOnWithFull 42 rfl) (lv_at hl 6 rfl) ?_
          refine lv_iadd hx hb (dk_at dkX9_takeOnWithFull 43 rfl) ?_
          refine lv_topi (fun x_222 ex_222 => ?_)
          have gx_222 : gi x_222 0 3574 := gi_add ex_222 gv3 g_214 (by decide)
          refine va_iald hx hb hK hP 1 0 rfl rfl (gi_in gx_222 (by decide)) (dk_at dkX9_takeOnWithFull 44 rfl) ?_
          refine lv_topi (fun x_223 ex_223 => ?_)
          refine lv_iadd hx hb (dk_at dkX9_takeOnWithFull 45 rfl) ?_
          refine lv_topi (fun x_224 ex_224 => ?_)
          refine va_iast hx hb hK hP hD hS 1 0 rfl rfl (gi_in gx_220 (by decide)) (dk_at dkX9_takeOnWithFull 46 rfl) (fun H locs hP hD hS => ?_)
          obtain ⟨hP, hD⟩ := gz_both (w := [(h0, .inr (9, [.ref bf, .ref bh, .ref sa, .int months, .int full, .int lean])), (bf, .inl (kbf, 3575, .inl (upd z1 (x_220 : Int32).toNatClampNeg x_224)))]) hP hD
          generalize upd z1 (x_220 : Int32).toNatClampNeg x_224 = f_225 at hP hD
          obtain ⟨x_226, ex_226⟩ : ∃ y : Int32, y = v5 + 1 := ⟨_, rfl⟩
          have gx_226 : gi x_226 1 11 := gi_add ex_226 g_214 (gi_c 1 1 (by decide)) (by decide)
          refine lv_iinc (v := x_226) (lv' := [(5, .int x_226), (6, .int r_215), (0, .ref h0), (1, .int p0), (2, .int p1), (3, .int v3), (4, .int v4)]) hx hb (dk_at dkX9_takeOnWithFull 47 rfl) hl (k := 6) rfl (by rw [ex_226]; rfl) (by decide) rfl (fun ls hl => ?_)
          refine lv_goto (tgt := 25) hx hb (dk_at dkX9_takeOnWithFull 48 rfl) (by decide) ?_
          exact ih v3 v4 x_226 f_225 _ _ _ gv3 gv4 (gi_w gx_226 (by decide)) (by have av5 := gv5.1; have bv5 := gv5.2; have qgx_226 := gx_226.1; have rgx_226 := gx_226.2; have igx_226 : x_226.toInt = v5.toInt + 1 := (by have hc1 : (1 : Int32).toInt = 1 := (by decide); have h9 := gi_addI ex_226 (by have h1 := g_214.1; have h2 := (gi_c 1 1 (by decide)).1; have h3 := g_214.2; have h4 := (gi_c 1 1 (by decide)).2; omega) (by have h1 := g_214.1; have h2 := (gi_c 1 1 (by decide)).1; have h3 := g_214.2; have h4 := (gi_c 1 1 (by decide)).2; omega); rw [hc1] at h9; exact h9); have qgv5 := g_214.1; have rgv5 := g_214.2; omega) hP hD hS (lv_sub hl [2, 3, 4, 5, 6, 0] rfl)
abbrev pb_sX9_takeOnWithFull (dC : Nat → ClassId) (dI : Nat → Nat → Nat) (A9 : Nat → Prop) (h0 : Nat) (bf : Nat) (bh : Nat) (sa : Nat) (months : Int32) (full : Int32) (lean : Int32) (kbf : ClassId) (fbf : Nat → Int32) (p0 : Int32) (p1 : Int32) (z1 : Nat → Int32) (t : State) : Prop := va_P (dC, dI) vwCl [(h0, .inr (9, [.ref bf, .ref bh, .ref sa, .int months, .int full, .int lean])), (bf, .inl (kbf, 3575, .inl z1))] t.heap ∧ va_D A9 [(h0, .inr (9, [.ref bf, .ref bh, .ref sa, .int months, .int full, .int lean])), (bf, .inl (kbf, 3575, .inl z1))]
set_option maxHeartbeats 4000000 in
set_option maxRecDepth 100000 in
theorem sX9_takeOnWithFull (l : Launch) (dC : Nat → ClassId) (dI : Nat → Nat → Nat) (sz : Nat) (h0 : Nat) (bf : Nat) (bh : Nat) (sa : Nat) (months : Int32) (full : Int32) (lean : Int32) (kbf : ClassId) (fbf : Nat → Int32) (p0 : Int32) (p1 : Int32) (gmonths : gi months 0 24) (gfull : gi full 0 5) (glean : gi lean 0 5) (gp0 : gi p0 0 23) (gp1 : gi p1 0 23) : Met l yX9_takeOnWithFull (.code yX9_takeOnWithFull cX9_takeOnWithFull 7 none :: wsGA) ({ frames := 2, cells := 0, slots := 0, locals := 43 }) (va_Pc [.ref h0, .int p0, .int p1] (fun U => U.heap.size = sz ∧ va_P (dC, dI) vwCl [(h0, .inr (9, [.ref bf, .ref bh, .ref sa, .int months, .int full, .int lean])), (bf, .inl (kbf, 3575, .inl fbf))] U.heap ∧ va_K (dC, dI) vwCl [(kbf, .int)] U ∧ va_D (fun _ => True) [(h0, .inr (9, [.ref bf, .ref bh, .ref sa, .int months, .int full, .int lean])), (bf, .inl (kbf, 3575, .inl fbf))] ∧ nzA U)) (va_Qv (fun (u : Unit) => True) (fun _ t => ∃ (z1 : Nat → Int32), pb_sX9_takeOnWithFull dC dI (va_A [(h0, .inr (9, [.ref bf, .ref bh, .ref sa, .int months, .int full, .int lean])), (bf, .inl (kbf, 3575, .inl fbf))] sz) h0 bf bh sa months full lean kbf fbf p0 p1 z1 t) (va_A [(h0, .inr (9, [.ref bf, .ref bh, .ref sa, .int months, .int full, .int lean])), (bf, .inl (kbf, 3575, .inl fbf))] sz)) 0 0 (va_A [(h0, .inr (9, [.ref bf, .ref bh, .ref sa, .int months, .int full, .int lean])), (bf, .inl (kbf, 3575, .inl fbf))] sz) := by
  refine Met.ofW (cc := cX9_takeOnWithFull) (maxL := 7) (ret := none) (by decide) rfl ?_
  intro p e s m args below meth c s₁ B hml hv
  obtain ⟨rfl, hsz, hP, hK, hD0, hz⟩ := hv
  have hx := B.exec
  have hb := B.bytes
  have hr := B.returns
  have hts := atoms_spec (ws := (.code yX9_takeOnWithFull cX9_takeOnWithFull 7 none :: wsGA)) B.pre
  have hown : s.vm.findClass RX9 = some m.cls := findClass_of_methodNamed B.named
  have hlocks := B.notSynchronized
  subst hsz
  have hD := hD0.self (sz := s.heap.size)
  generalize hAe : va_A [(h0, .inr (9, [.ref bf, .ref bh, .ref sa, .int months, .int full, .int lean])), (bf, .inl (kbf, 3575, .inl fbf))] s.heap.size = A at hD ⊢
  have hA : ∀ q : Nat, s.heap.size ≤ q → A q := fun q h => by rw [← hAe]; exact Or.inr h
  have hS : va_S A s.heap s.heap [] := va_S.rf
  have hl := lv_entry ([.ref h0, .int p0, .int p1]) (n := 7) (Nat.le_of_ble_eq_true rfl)
  rw [lg_entry_eq]
  generalize (lg_sl ([.ref h0, .int p0, .int p1]) ++ List.replicate (7 - (lg_sl ([.ref h0, .int p0, .int p1])).length) Slot.unset).toArray = ls at hl ⊢
  have hl : lv_has ls 7 [(0, .ref h0), (1, .int p0), (2, .int p1)] := hl
  refine lv_iload_n hx hb (dk_at dkX9_takeOnWithFull 0 rfl) rfl (lv_at hl 1 rfl) ?_
  refine lv_iload_n hx hb (dk_at dkX9_takeOnWithFull 1 rfl) rfl (lv_at hl 2 rfl) ?_
  refine lv_iconst (v := 0) hx hb (dk_at dkX9_takeOnWithFull 2 rfl) (by decide) ?_
  have hPc := hP.sub (ws' := []) [] rfl
  have hKc := hK.sub (tys' := []) [] rfl
  refine va_calli (va_runSN (As := [.int p0, .int p1, .int 0]) (rest := []) ⟨hx, hb, hml, hown, hts⟩ (sX11_spot0 l dC dI p0 p1 0 (gi_w gp0 (by decide)) (gi_w gp1 (by decide)) (gi_c 0 0 (by decide))) (⟨va_cnB 3 hts (gz_gP mGA_582 goodGA) rfl rfl rfl (nzA_X9_63 hz) (hts _ (List.mem_cons_of_mem _ mGA_1)) (by decide +kernel) ⟨Nat.le_of_ble_eq_true rfl, Nat.le_of_ble_eq_true rfl⟩, (hts _ (List.mem_cons_of_mem _ mGA_581)), trivial⟩) ⟨bl_I (bl_a bl_P (bl_a bl_K bl_nz)), fun U hU hW => ⟨rfl, by rw [hU]; exact hPc, va_K.moved hW.alike hKc, nzA_warm hW hz⟩⟩ rfl rfl hl.1 rfl (lv_room (Nat.le_of_ble_eq_true rfl)) (dk_at dkX9_takeOnWithFull 3 rfl) ⟨Nat.zero_le _, Nat.zero_le _⟩) hS (fun q _ h => h.elim) (fun q h => h.elim) (fun r_227 u t H1 locs ht hvm hw hB hz1 hk1 hS => ?_)
  have hP := gz_keep hP hk1
  generalize H1 = H at hP hS ⊢
  have gr_227 : gi r_227 0 3564 := hw
  refine lv_istore_n (lv' := [(3, .int r_227), (0, .ref h0), (1, .int p0), (2, .int p1)]) hx hb (dk_at dkX9_takeOnWithFull 4 rfl) rfl hl (by decide) rfl (fun ls hl => ?_)
  refine lv_iload_n hx hb (dk_at dkX9_takeOnWithFull 5 rfl) rfl (lv_at hl 2 rfl) ?_
  refine lv_iconst (v := 1) hx hb (dk_at dkX9_takeOnWithFull 6 rfl) (by decide) ?_
  refine lv_iadd hx hb (dk_at dkX9_takeOnWithFull 7 rfl) ?_
  refine lv_topi (fun x_228 ex_228 => ?_)
  have gx_228 : gi x_228 1 24 := gi_add ex_228 gp0 (gi_c 1 1 (by decide)) (by decide)
  refine lv_iload_n hx hb (dk_at dkX9_takeOnWithFull 8 rfl) rfl (lv_at hl 3 rfl) ?_
  refine lv_iconst (v := 1) hx hb (dk_at dkX9_takeOnWithFull 9 rfl) (by decide) ?_
  refine lv_iadd hx hb (dk_at dkX9_takeOnWithFull 10 rfl) ?_
  refine lv_topi (fun x_229 ex_229 => ?_)
  have gx_229 : gi x_229 1 24 := gi_add ex_229 gp1 (gi_c 1 1 (by decide)) (by decide)
  refine lv_iconst (v := 0) hx hb (dk_at dkX9_takeOnWithFull 11 rfl) (by decide) ?_
  have hPc := hP.sub (ws' := []) [] rfl
  have hKc := hK.sub (tys' := []) [] rfl
  refine va_calli (va_runSN (As := [.int x_228, .int x_229, .int 0]) (rest := []) ⟨hx, hb, hml, hown, hts⟩ (sX11_spot0 l dC dI x_228 x_229 0 (gi_w gx_228 (by decide)) (gi_w gx_229 (by decide)) (gi_c 0 0 (by decide))) (⟨va_cnB 3 hts (gz_gP mGA_582 goodGA) rfl rfl rfl (nzA_X9_63 hz) (hts _ (List.mem_cons_of_mem _ mGA_1)) (by decide +kernel) ⟨Nat.le_of_ble_eq_true rfl, Nat.le_of_ble_eq_true rfl⟩, (hts _ (List.mem_cons_of_mem _ mGA_581)), trivial⟩) ⟨bl_I (bl_a bl_P (bl_a bl_K bl_nz)), fun U hU hW => ⟨rfl, by rw [hU]; exact hPc, va_K.moved hW.alike hKc, nzA_warm hW hz⟩⟩ rfl rfl hl.1 rfl (lv_room (Nat.le_of_ble_eq_true rfl)) (dk_at dkX9_takeOnWithFull 12 rfl) ⟨Nat.zero_le _, Nat.zero_le _⟩) hS (fun q _ h => h.elim) (fun q h => h.elim) (fun r_230 u t H1 locs ht hvm hw hB hz1 hk1 hS => ?_)
  have hP := gz_keep hP hk1
  generalize H1 = H at hP hS ⊢
  have gr_230 : gi r_230 0 3564 := hw
  refine lv_istore (lv' := [(4, .int r_230), (3, .int r_227), (0, .ref h0), (1, .int p0), (2, .int p1)]) hx hb (dk_at dkX9_takeOnWithFull 13 rfl) hl (by decide) rfl (fun ls hl => ?_)
  refine lv_iload_n hx hb (dk_at dkX9_takeOnWithFull 14 rfl) rfl (lv_at hl 3 rfl) ?_
  have hPc := hP.sub (ws' := []) [] rfl
  have hKc := hK.sub (tys' := []) [] rfl
  refine va_calli (va_runSN (As := [.int p0]) (rest := []) ⟨hx, hb, hml, hown, hts⟩ (sX11_firstRun l dC dI p0 (gi_w gp0 (by decide))) (⟨va_cnB 1 hts (gz_gP mGA_504 goodGA) rfl rfl rfl (nzA_X9_67 hz) (hts _ (List.mem_cons_of_mem _ mGA_1)) (by decide +kernel) ⟨Nat.le_of_ble_eq_true rfl, Nat.le_of_ble_eq_true rfl⟩, (hts _ (List.mem_cons_of_mem _ mGA_503)), trivial⟩) ⟨bl_I (bl_a bl_P (bl_a bl_K bl_nz)), fun U hU hW => ⟨rfl, by rw [hU]; exact hPc, va_K.moved hW.alike hKc, nzA_warm hW hz⟩⟩ rfl rfl hl.1 rfl (lv_room (Nat.le_of_ble_eq_true rfl)) (dk_at dkX9_takeOnWithFull 15 rfl) ⟨Nat.zero_le _, Nat.zero_le _⟩) hS (fun q _ h => h.elim) (fun q h => h.elim) (fun r_231 u t H1 locs ht hvm hw hB hz1 hk1 hS => ?_)
  have hP := gz_keep hP hk1
  generalize H1 = H at hP hS ⊢
  have gr_231 : gi r_231 0 1 := hw
  refine lv_istore (lv' := [(5, .int r_231), (4, .int r_230), (3, .int r_227), (0, .ref h0), (1, .int p0), (2, .int p1)]) hx hb (dk_at dkX9_takeOnWithFull 16 rfl) hl (by decide) rfl (fun ls hl => ?_)
  refine (lp_sX9_takeOnWithFull h0 bf bh sa months full lean kbf fbf p0 p1 gmonths gfull glean gp0 gp1 hx hb hml hown hts hK hz hA (Nat.le_of_ble_eq_true rfl) (Nat.le_of_ble_eq_true rfl) (Nat.zero_le _) (Nat.zero_le _) (fun z1 H locs ls hP hD hS hl => ?_) 36) r_227 r_230 r_231 fbf _ _ _ gr_227 gr_230 (gi_w gr_231 (by decide)) (by have qgr_231 := gr_231.1; have rgr_231 := gr_231.2; omega) hP hD hS (lv_sub hl [3, 4, 5, 2, 1, 0] rfl)
  · skip
    exact W.vret hx hb hr (fun t ht hW => ⟨⟨(), rfl, trivial, z1, by rw [ht]; exact hP, hD⟩, hS.F ht⟩) hS.2.2 (dk_at dkX9_takeOnWithFull 49 rfl)
noncomputable def lsX9_takeOnWithLean : List (Nat × Instr × Nat) := [(0, .iload_n 1, 1), (1, .iload_n 2, 1), (2, .iconst 0, 1), (3, .invokestatic 63, 3), (6, .istore_n 3, 1), (7, .iload_n 1, 1), (8, .iconst 1, 1), (9, .iadd, 1), (10, .iload_n 2, 1), (11, .iconst 0, 1), (12, .invokestatic 63, 3), (15, .istore 4, 2), (17, .iload_n 1, 1), (18, .invokestatic 67, 3), (21, .istore 5, 2), (23, .iload 5, 2), (25, .iload_n 1, 1), (26, .aload_n 0, 1), (27, .getfield 31, 3), (30, .aload_n 0, 1), (31, .getfield 35, 3), (34, .invokestatic 71, 3), (37, .if_icmp .gt 51, 3), (40, .iload 5, 2), (42, .aload_n 0, 1), (43, .getfield 31, 3), (46, .aload_n 0, 1), (47, .getfield 35, 3), (50, .invokestatic 78, 3), (53, .istore 6, 2), (55, .iload 6, 2), (57, .ifCond .eq 25, 3), (60, .aload_n 0, 1), (61, .getfield 9, 3), (64, .iload 4, 2), (66, .iload 6, 2), (68, .iadd, 1), (69, .dup2, 1), (70, .iaload, 1), (71, .aload_n 0, 1), (72, .getfield 9, 3), (75, .iload_n 3, 1), (76, .iload 5, 2), (78, .iadd, 1), (79, .iaload, 1), (80, .iadd, 1), (81, .iastore, 1), (82, .iinc 5 1, 3), (85, .goto (-62), 3), (88, .return_, 1)]
theorem dkX9_takeOnWithLean : dkAll cX9_takeOnWithLean lsX9_takeOnWithLean = true := by decide +kernel
set_option maxHeartbeats 4000000 in
set_option maxRecDepth 100000 in
theorem lp_sX9_takeOnWithLean {p : Program} {l : Launch} {e : Env} {R : Room} {s : State} {m : MethodId} {args : Array Value} {below : List Frame} {meth : Method} {c : Code} {Q : State → Prop} {A : Nat → Prop} {cells slots : Nat} {dC : Nat → ClassId} {dI : Nat → Nat → Nat} (h0 : Nat) (bf : Nat) (bh : Nat) (sa : Nat) (months : Int32) (full : Int32) (lean : Int32) (kbf : ClassId) (fbf : Nat → Int32) (p0 : Int32) (p1 : Int32) (gmonths : gi months 0 24) (gfull : gi full 0 5) (glean : gi lean 0 5) (gp0 : gi p0 0 23) (gp1 : gi p1 0 23) (hx : p.tables.exec = Jvm.exec) (hb : c.code = cX9_takeOnWithLean) (hml : c.maxLocals = 7) (hown : s.vm.findClass RX9 = some m.cls) (hts : ∀ w ∈ ((.code yX9_takeOnWithLean cX9_takeOnWithLean 7 none :: wsGA) : List Cond), w.before args s = true) (hK : va_K (dC, dI) vwCl [(kbf, .int)] s) (hz : nzA s) (hA : ∀ q : Nat, s.heap.size ≤ q → A q) (hRf : 2 ≤ R.frames) (hRl : 43 ≤ R.locals) (hRc : cells ≤ R.cells) (hRs : slots ≤ R.slots) (kr88 : ∀ (z1 : Nat → Int32) (H : Heap) (locs : List Loc) (ls : Array Slot), va_P (dC, dI) vwCl [(h0, .inr (9, [.ref bf, .ref bh, .ref sa, .int months, .int full, .int lean])), (bf, .inl (kbf, 3575, .inl z1))] H → va_D A [(h0, .inr (9, [.ref bf, .ref bh, .ref sa, .int months, .int full, .int lean])), (bf, .inl (kbf, 3575, .inl z1))] → va_S A s.heap H locs → lv_has ls 7 [] → W p l e R s m args below meth c H locs cells slots Q (F0 m 88 ls [])) : ∀ z : Nat, (∀ (v3 : Int32) (v4 : Int32) (v5 : Int32) (z1 : Nat → Int32) (H : Heap) (locs : List Loc) (ls : Array Slot), gi v3 0 3564 → gi v4 0 3564 → gi v5 0 11 → 23 + (-2) * v5.toInt < (z : Int) → va_P (dC, dI) vwCl [(h0, .inr (9, [.ref bf, .ref bh, .ref sa, .int months, .int full, .int lean])), (bf, .inl (kbf, 3575, .inl z1))] H → va_D A [(h0, .inr (9, [.ref bf, .ref bh, .ref sa, .int months, .int full, .int lean])), (bf, .inl (kbf, 3575, .inl z1))] → va_S A s.heap H locs → lv_has ls 7 [(0, .ref h0), (1, .int p0), (2, .int p1), (3, .int v3), (4, .int v4), (5, .int v5)] → W p l e R s m args below meth c H locs cells slots Q (F0 m 23 ls [])) := by
  intro z
  induction z with
  | zero =>
    intro v3 v4 v5 z1 H locs ls gv3 gv4 gv5 hmu hP hD hS hl
    exact absurd hmu (by have hv51 := gv5.1; have hv52 := gv5.2; omega)
  | succ z ih =>
      intro v3 v4 v5 z1 H locs ls gv3 gv4 gv5 hmu hP hD hS hl
      refine lv_iload hx hb (dk_at dkX9_takeOnWithLean 15 rfl) (lv_at hl 5 rfl) ?_
      refine lv_iload_n hx hb (dk_at dkX9_takeOnWithLean 16 rfl) rfl (lv_at hl 1 rfl) ?_
      refine lv_aload_n hx hb (dk_at dkX9_takeOnWithLean 17 rfl) rfl (lv_at hl 0 rfl) ?_
      refine va_get (D := (dC, dI)) (ci := 9) (v := .int full) (C := RX9) (T := TX9) (N := 6) hx hb hts (fun w h => List.mem_cons_of_mem _ (jnGA_X9 w h)) hown hK hP 0 rfl rfl 4 (by decide) (hts _ (List.mem_cons_of_mem _ mGA_562)) (fun _ h9 => h9) rfl (dk_at dkX9_takeOnWithLean 18 rfl) ?_
      refine lv_aload_n hx hb (dk_at dkX9_takeOnWithLean 19 rfl) rfl (lv_at hl 0 rfl) ?_
      refine va_get (D := (dC, dI)) (ci := 9) (v := .int lean) (C := RX9) (T := TX9) (N := 6) hx hb hts (fun w h => List.mem_cons_of_mem _ (jnGA_X9 w h)) hown hK hP 0 rfl rfl 5 (by decide) (hts _ (List.mem_cons_of_mem _ mGA_564)) (fun _ h9 => h9) rfl (dk_at dkX9_takeOnWithLean 20 rfl) ?_
      have hPc := hP.sub (ws' := []) [] rfl
      have hKc := hK.sub (tys' := []) [] rfl
      refine va_calli (va_runSN (As := [.int p0, .int full, .int lean]) (rest := [.int v5]) ⟨hx, hb, hml, hown, hts⟩ (sX11_lastRun l dC dI p0 full lean (gi_w gp0 (by decide)) gfull glean) (⟨va_cnB 3 hts (gz_gP mGA_506 goodGA) rfl rfl rfl (nzA_X9_71 hz) (hts _ (List.mem_cons_of_mem _ mGA_1)) (by decide +kernel) ⟨Nat.le_trans (Nat.le_of_ble_eq_true rfl) hRf, Nat.le_trans (Nat.le_of_ble_eq_true rfl) hRl⟩, (hts _ (List.mem_cons_of_mem _ mGA_505)), trivial⟩) ⟨bl_I (bl_a bl_P (bl_a bl_K bl_nz)), fun U hU hW => ⟨rfl, by rw [hU]; exact hPc, va_K.moved hW.alike hKc, nzA_warm hW hz⟩⟩ rfl rfl hl.1 rfl (lv_room (Nat.le_of_ble_eq_true rfl)) (dk_at dkX9_takeOnWithLean 21 rfl) ⟨hRc, hRs⟩) hS (fun q _ h => h.elim) (fun q h => h.elim) (fun r_201 u t H1 locs ht hvm hw hB hz1 hk1 hS => ?_)
      have hP := gz_keep hP hk1
      generalize H1 = H at hP hS ⊢
      have gr_201 : gi r_201 0 10 := hw
      refine lv_icmp_gt (tgt := 88) hx hb (dk_at dkX9_takeOnWithLean 22 rfl) (by decide) (fun c_202 => ?_) (fun c_202 => ?_)
      · have g_203 : gi v5 1 11 := gi_lt_r c_202 gr_201 gv5 (by decide)
        exact kr88 z1 _ _ _ hP hD hS (lv_sub hl [] rfl)
      · have g_204 : gi v5 0 10 := gi_le_l (Int32.not_lt.mp c_202) gv5 gr_201
        refine lv_iload hx hb (dk_at dkX9_takeOnWithLean 23 rfl) (lv_at hl 5 rfl) ?_
        refine lv_aload_n hx hb (dk_at dkX9_takeOnWithLean 24 rfl) rfl (lv_at hl 0 rfl) ?_
        refine va_get (D := (dC, dI)) (ci := 9) (v := .int full) (C := RX9) (T := TX9) (N := 6) hx hb hts (fun w h => List.mem_cons_of_mem _ (jnGA_X9 w h)) hown hK hP 0 rfl rfl 4 (by decide) (hts _ (List.mem_cons_of_mem _ mGA_562)) (fun _ h9 => h9) rfl (dk_at dkX9_takeOnWithLean 25 rfl) ?_
        refine lv_aload_n hx hb (dk_at dkX9_takeOnWithLean 26 rfl) rfl (lv_at hl 0 rfl) ?_
        refine va_get (D := (dC, dI)) (ci := 9) (v := .int lean) (C := RX9) (T := TX9) (N := 6) hx hb hts (fun w h => List.mem_cons_of_mem _ (jnGA_X9 w h)) hown hK hP 0 rfl rfl 5 (by decide) (hts _ (List.mem_cons_of_mem _ mGA_564)) (fun _ h9 => h9) rfl (dk_at dkX9_takeOnWithLean 27 rfl) ?_
        have hPc := hP.sub (ws' := []) [] rfl
        have hKc := hK.sub (tys' := []) [] rfl
        refine va_calli (va_runSN (As := [.int v5, .int full, .int lean]) (rest := []) ⟨hx, hb, hml, hown, hts⟩ (sX11_runWithLean l dC dI v5 full lean g_204 gfull glean) (⟨va_cnB 3 hts (gz_gP mGA_510 goodGA) rfl rfl rfl (nzA_X9_78 hz) (hts _ (List.mem_cons_of_mem _ mGA_1)) (by decide +kernel) ⟨Nat.le_trans (Nat.le_of_ble_eq_true rfl) hRf, Nat.le_trans (Nat.le_of_ble_eq_true rfl) hRl⟩, (hts _ (List.mem_cons_of_mem _ mGA_509)), trivial⟩) ⟨bl_I (bl_a bl_P (bl_a bl_K bl_nz)), fun U hU hW => ⟨rfl, by rw [hU]; exact hPc, va_K.moved hW.alike hKc, nzA_warm hW hz⟩⟩ rfl rfl hl.1 rfl (lv_room (Nat.le_of_ble_eq_true rfl)) (dk_at dkX9_takeOnWithLean 28 rfl) ⟨hRc, hRs⟩) hS (fun q _ h => h.elim) (fun q h => h.elim) (fun r_205 u t H1 locs ht hvm hw hB hz1 hk1 hS => ?_)
        have hP := gz_keep hP hk1
        generalize H1 = H at hP hS ⊢
        have gr_205 : gi r_205 0 10 := hw
        refine lv_istore (lv' := [(6, .int r_205), (0, .ref h0), (1, .int p0), (2, .int p1), (3, .int v3), (4, .int v4), (5, .int v5)]) hx hb (dk_at dkX9_takeOnWithLean 29 rfl) hl (by decide) rfl (fun ls hl => ?_)
        refine lv_iload hx hb (dk_at dkX9_takeOnWithLean 30 rfl) (lv_at hl 0 rfl) ?_
        refine lv_if_eq (tgt := 82) hx hb (dk_at dkX9_takeOnWithLean 31 rfl) (by decide) (fun c_206 => ?_) (fun c_206 => ?_)
        · have g_207 : gi r_205 0 0 := gi_eq c_206 (gi_c 0 0 (by decide))
          obtain ⟨x_208, ex_208⟩ : ∃ y : Int32, y = v5 + 1 := ⟨_, rfl⟩
          have gx_208 : gi x_208 1 11 := gi_add ex_208 g_204 (gi_c 1 1 (by decide)) (by decide)
          refine lv_iinc (v := x_208) (lv' := [(5, .int x_208), (6, .int r_205), (0, .ref h0), (1, .int p0), (2, .int p1), (3, .int v3), (4, .int v4)]) hx hb (dk_at dkX9_takeOnWithLean 47 rfl) hl (k := 6) rfl (by rw [ex_208]; rfl) (by decide) rfl (fun ls hl => ?_)
          refine lv_goto (tgt := 23) hx hb (dk_at dkX9_takeOnWithLean 48 rfl) (by decide) ?_
          exact ih v3 v4 x_208 z1 _ _ _ gv3 gv4 (gi_w gx_208 (by decide)) (by have av5 := gv5.1; have bv5 := gv5.2; have qgx_208 := gx_208.1; have rgx_208 := gx_208.2; have igx_208 : x_208.toInt = v5.toInt + 1 := (by have hc1 : (1 : Int32).toInt = 1 := (by decide); have h9 := gi_addI ex_208 (by have h1 := g_204.1; have h2 := (gi_c 1 1 (by decide)).1; have h3 := g_204.2; have h4 := (gi_c 1 1 (by decide)).2; omega) (by have h1 := g_204.1; have h2 := (gi_c 1 1 (by decide)).1; have h3 := g_204.2; have h4 := (gi_c 1 1 (by decide)).2; omega); rw [hc1] at h9; exact h9); have qgv5 := g_204.1; have rgv5 := g_204.2; omega) hP hD hS (lv_sub hl [2, 3, 4, 5, 6, 0] rfl)
        · have g_209 : gi r_205 1 10 := gi_ne_lo c_206 gr_205 (gi_c 0 0 (by decide)) (by decide)
          refine lv_aload_n hx hb (dk_at dkX9_takeOnWithLean 32 rfl) rfl (lv_at hl 1 rfl) ?_
          refine va_get (D := (dC, dI)) (ci := 9) (v := .ref bf) (C := RX9) (T := TX9) (N := 6) hx hb hts (fun w h => List.mem_cons_of_mem _ (jnGA_X9 w h)) hown hK hP 0 rfl rfl 0 (by decide) (hts _ (List.mem_cons_of_mem _ mGA_111)) (fun _ h9 => h9) rfl (dk_at dkX9_takeOnWithLean 33 rfl) ?_
          refine lv_iload hx hb (dk_at dkX9_takeOnWithLean 34 rfl) (lv_at hl 5 rfl) ?_
          refine lv_iload hx hb (dk_at dkX9_takeOnWithLean 35 rfl) (lv_at hl 0 rfl) ?_
          refine lv_iadd hx hb (dk_at dkX9_takeOnWithLean 36 rfl) ?_
          refine lv_topi (fun x_210 ex_210 => ?_)
          have gx_210 : gi x_210 1 3574 := gi_add ex_210 gv4 g_209 (by decide)
          refine lv_dup2_11 hx hb (dk_at dkX9_takeOnWithLean 37 rfl) rfl rfl ?_
          refine va_iald hx hb hK hP 1 0 rfl rfl (gi_in gx_210 (by decide)) (dk_at dkX9_takeOnWithLean 38 rfl) ?_
          refine lv_topi (fun x_211 ex_211 => ?_)
          refine lv_aload_n hx hb (dk_at dkX9_takeOnWithLean 39 rfl) rfl (lv_at hl 1 rfl) ?_
          refine va_get (D := (dC, dI)) (ci := 9) (v := .ref bf) (C := RX9) (T := TX9) (N := 6) hx hb hts (fun w h => List.mem_cons_of_mem _ (jnGA_X9 w h)) hown hK hP 0 rfl rfl 0 (by decide) (hts _ (List.mem_cons_of_mem _ mGA_111)) (fun _ h9 => h9) rfl (dk_at dkX9_takeOnWithLean 40 rfl) ?_
          refine lv_iload_n hx hb (dk_at dkX9_takeOnWithLean 41 rfl) rfl (lv_at hl 4 rfl) ?_
          refine lv_iload hx hb (dk_at dkX9_takeOnWithLean 42 rfl) (lv_at hl 6 rfl) ?_
          refine lv_iadd hx hb (dk_at dkX9_takeOnWithLean 43 rfl) ?_
          refine lv_topi (fun x_212 ex_212 => ?_)
          have gx_212 : gi x_212 0 3574 := gi_add ex_212 gv3 g_204 (by decide)
          refine va_iald hx hb hK hP 1 0 rfl rfl (gi_in gx_212 (by decide)) (dk_at dkX9_takeOnWithLean 44 rfl) ?_
          refine lv_topi (fun x_213 ex_213 => ?_)
          refine lv_iadd hx hb (dk_at dkX9_takeOnWithLean 45 rfl) ?_
          refine lv_topi (fun x_214 ex_214 => ?_)
          refine va_iast hx hb hK hP hD hS 1 0 rfl rfl (gi_in gx_210 (by decide)) (dk_at dkX9_takeOnWithLean 46 rfl) (fun H locs hP hD hS => ?_)
          obtain ⟨hP, hD⟩ := gz_both (w := [(h0, .inr (9, [.ref bf, .ref bh, .ref sa, .int months, .int full, .int lean])), (bf, .inl (kbf, 3575, .inl (upd z1 (x_210 : Int32).toNatClampNeg x_214)))]) hP hD
          generalize upd z1 (x_210 : Int32).toNatClampNeg x_214 = f_215 at hP hD
          obtain ⟨x_216, ex_216⟩ : ∃ y : Int32, y = v5 + 1 := ⟨_, rfl⟩
          have gx_216 : gi x_216 1 11 := gi_add ex_216 g_204 (gi_c 1 1 (by decide)) (by decide)
          refine lv_iinc (v := x_216) (lv' := [(5, .int x_216), (6, .int r_205), (0, .ref h0), (1, .int p0), (2, .int p1), (3, .int v3), (4, .int v4)]) hx hb (dk_at dkX9_takeOnWithLean 47 rfl) hl (k := 6) rfl (by rw [ex_216]; rfl) (by decide) rfl (fun ls hl => ?_)
          refine lv_goto (tgt := 23) hx hb (dk_at dkX9_takeOnWithLean 48 rfl) (by decide) ?_
          exact ih v3 v4 x_216 f_215 _ _ _ gv3 gv4 (gi_w gx_216 (by decide)) (by have av5 := gv5.1; have bv5 := gv5.2; have qgx_216 := gx_216.1; have rgx_216 := gx_216.2; have igx_216 : x_216.toInt = v5.toInt + 1 := (by have hc1 : (1 : Int32).toInt = 1 := (by decide); have h9 := gi_addI ex_216 (by have h1 := g_204.1; have h2 := (gi_c 1 1 (by decide)).1; have h3 := g_204.2; have h4 := (gi_c 1 1 (by decide)).2; omega) (by have h1 := g_204.1; have h2 := (gi_c 1 1 (by decide)).1; have h3 := g_204.2; have h4 := (gi_c 1 1 (by decide)).2; omega); rw [hc1] at h9; exact h9); have qgv5 := g_204.1; have rgv5 := g_204.2; omega) hP hD hS (lv_sub hl [2, 3, 4, 5, 6, 0] rfl)
abbrev pb_sX9_takeOnWithLean (dC : Nat → ClassId) (dI : Nat → Nat → Nat) (A9 : Nat → Prop) (h0 : Nat) (bf : Nat) (bh : Nat) (sa : Nat) (months : Int32) (full : Int32) (lean : Int32) (kbf : ClassId) (fbf : Nat → Int32) (p0 : Int32) (p1 : Int32) (z1 : Nat → Int32) (t : State) : Prop := va_P (dC, dI) vwCl [(h0, .inr (9, [.ref bf, .ref bh, .ref sa, .int months, .int full, .int lean])), (bf, .inl (kbf, 3575, .inl z1))] t.heap ∧ va_D A9 [(h0, .inr (9, [.ref bf, .ref bh, .ref sa, .int months, .int full, .int lean])), (bf, .inl (kbf, 3575, .inl z1))]
set_option maxHeartbeats 4000000 in
set_option maxRecDepth 100000 in
theorem sX9_takeOnWithLean (l : Launch) (dC : Nat → ClassId) (dI : Nat → Nat → Nat) (sz : Nat) (h0 : Nat) (bf : Nat) (bh : Nat) (sa : Nat) (months : Int32) (full : Int32) (lean : Int32) (kbf : ClassId) (fbf : Nat → Int32) (p0 : Int32) (p1 : Int32) (gmonths : gi months 0 24) (gfull : gi full 0 5) (glean : gi lean 0 5) (gp0 : gi p0 0 23) (gp1 : gi p1 0 23) : Met l yX9_takeOnWithLean (.code yX9_takeOnWithLean cX9_takeOnWithLean 7 none :: wsGA) ({ frames := 2, cells := 0, slots := 0, locals := 43 }) (va_Pc [.ref h0, .int p0, .int p1] (fun U => U.heap.size = sz ∧ va_P (dC, dI) vwCl [(h0, .inr (9, [.ref bf, .ref bh, .ref sa, .int months, .int full, .int lean])), (bf, .inl (kbf, 3575, .inl fbf))] U.heap ∧ va_K (dC, dI) vwCl [(kbf, .int)] U ∧ va_D (fun _ => True) [(h0, .inr (9, [.ref bf, .ref bh, .ref sa, .int months, .int full, .int lean])), (bf, .inl (kbf, 3575, .inl fbf))] ∧ nzA U)) (va_Qv (fun (u : Unit) => True) (fun _ t => ∃ (z1 : Nat → Int32), pb_sX9_takeOnWithLean dC dI (va_A [(h0, .inr (9, [.ref bf, .ref bh, .ref sa, .int months, .int full, .int lean])), (bf, .inl (kbf, 3575, .inl fbf))] sz) h0 bf bh sa months full lean kbf fbf p0 p1 z1 t) (va_A [(h0, .inr (9, [.ref bf, .ref bh, .ref sa, .int months, .int full, .int lean])), (bf, .inl (kbf, 3575, .inl fbf))] sz)) 0 0 (va_A [(h0, .inr (9, [.ref bf, .ref bh, .ref sa, .int months, .int full, .int lean])), (bf, .inl (kbf, 3575, .inl fbf))] sz) := by
  refine Met.ofW (cc := cX9_takeOnWithLean) (maxL := 7) (ret := none) (by decide) rfl ?_
  intro p e s m args below meth c s₁ B hml hv
  obtain ⟨rfl, hsz, hP, hK, hD0, hz⟩ := hv
  have hx := B.exec
  have hb := B.bytes
  have hr := B.returns
  have hts := atoms_spec (ws := (.code yX9_takeOnWithLean cX9_takeOnWithLean 7 none :: wsGA)) B.pre
  have hown : s.vm.findClass RX9 = some m.cls := findClass_of_methodNamed B.named
  have hlocks := B.notSynchronized
  subst hsz
  have hD := hD0.self (sz := s.heap.size)
  generalize hAe : va_A [(h0, .inr (9, [.ref bf, .ref bh, .ref sa, .int months, .int full, .int lean])), (bf, .inl (kbf, 3575, .inl fbf))] s.heap.size = A at hD ⊢
  have hA : ∀ q : Nat, s.heap.size ≤ q → A q := fun q h => by rw [← hAe]; exact Or.inr h
  have hS : va_S A s.heap s.heap [] := va_S.rf
  have hl := lv_entry ([.ref h0, .int p0, .int p1]) (n := 7) (Nat.le_of_ble_eq_true rfl)
  rw [lg_entry_eq]
  generalize (lg_sl ([.ref h0, .int p0, .int p1]) ++ List.replicate (7 - (lg_sl ([.ref h0, .int p0, .int p1])).length) Slot.unset).toArray = ls at hl ⊢
  have hl : lv_has ls 7 [(0, .ref h0), (1, .int p0), (2, .int p1)] := hl
  refine lv_iload_n hx hb (dk_at dkX9_takeOnWithLean 0 rfl) rfl (lv_at hl 1 rfl) ?_
  refine lv_iload_n hx hb (dk_at dkX9_takeOnWithLean 1 rfl) rfl (lv_at hl 2 rfl) ?_
  refine lv_iconst (v := 0) hx hb (dk_at dkX9_takeOnWithLean 2 rfl) (by decide) ?_
  have hPc := hP.sub (ws' := []) [] rfl
  have hKc := hK.sub (tys' := []) [] rfl
  refine va_calli (va_runSN (As := [.int p0, .int p1, .int 0]) (rest := []) ⟨hx, hb, hml, hown, hts⟩ (sX11_spot0 l dC dI p0 p1 0 (gi_w gp0 (by decide)) (gi_w gp1 (by decide)) (gi_c 0 0 (by decide))) (⟨va_cnB 3 hts (gz_gP mGA_582 goodGA) rfl rfl rfl (nzA_X9_63 hz) (hts _ (List.mem_cons_of_mem _ mGA_1)) (by decide +kernel) ⟨Nat.le_of_ble_eq_true rfl, Nat.le_of_ble_eq_true rfl⟩, (hts _ (List.mem_cons_of_mem _ mGA_581)), trivial⟩) ⟨bl_I (bl_a bl_P (bl_a bl_K bl_nz)), fun U hU hW => ⟨rfl, by rw [hU]; exact hPc, va_K.moved hW.alike hKc, nzA_warm hW hz⟩⟩ rfl rfl hl.1 rfl (lv_room (Nat.le_of_ble_eq_true rfl)) (dk_at dkX9_takeOnWithLean 3 rfl) ⟨Nat.zero_le _, Nat.zero_le _⟩) hS (fun q _ h => h.elim) (fun q h => h.elim) (fun r_217 u t H1 locs ht hvm hw hB hz1 hk1 hS => ?_)
  have hP := gz_keep hP hk1
  generalize H1 = H at hP hS ⊢
  have gr_217 : gi r_217 0 3564 := hw
  refine lv_istore_n (lv' := [(3, .int r_217), (0, .ref h0), (1, .int p0), (2, .int p1)]) hx hb (dk_at dkX9_takeOnWithLean 4 rfl) rfl hl (by decide) rfl (fun ls hl => ?_)
  refine lv_iload_n hx hb (dk_at dkX9_takeOnWithLean 5 rfl) rfl (lv_at hl 2 rfl) ?_
  refine lv_iconst (v := 1) hx hb (dk_at dkX9_takeOnWithLean 6 rfl) (by decide) ?_
  refine lv_iadd hx hb (dk_at dkX9_takeOnWithLean 7 rfl) ?_
  refine lv_topi (fun x_218 ex_218 => ?_)
  have gx_218 : gi x_218 1 24 := gi_add ex_218 gp0 (gi_c 1 1 (by decide)) (by decide)
  refine lv_iload_n hx hb (dk_at dkX9_takeOnWithLean 8 rfl) rfl (lv_at hl 3 rfl) ?_
  refine lv_iconst (v := 0) hx hb (dk_at dkX9_takeOnWithLean 9 rfl) (by decide) ?_
  have hPc := hP.sub (ws' := []) [] rfl
  have hKc := hK.sub (tys' := []) [] rfl
  refine va_calli (va_runSN (As := [.int x_218, .int p1, .int 0]) (rest := []) ⟨hx, hb, hml, hown, hts⟩ (sX11_spot0 l dC dI x_218 p1 0 (gi_w gx_218 (by decide)) (gi_w gp1 (by decide)) (gi_c 0 0 (by decide))) (⟨va_cnB 3 hts (gz_gP mGA_582 goodGA) rfl rfl rfl (nzA_X9_63 hz) (hts _ (List.mem_cons_of_mem _ mGA_1)) (by decide +kernel) ⟨Nat.le_of_ble_eq_true rfl, Nat.le_of_ble_eq_true rfl⟩, (hts _ (List.mem_cons_of_mem _ mGA_581)), trivial⟩) ⟨bl_I (bl_a bl_P (bl_a bl_K bl_nz)), fun U hU hW => ⟨rfl, by rw [hU]; exact hPc, va_K.moved hW.alike hKc, nzA_warm hW hz⟩⟩ rfl rfl hl.1 rfl (lv_room (Nat.le_of_ble_eq_true rfl)) (dk_at dkX9_takeOnWithLean 10 rfl) ⟨Nat.zero_le _, Nat.zero_le _⟩) hS (fun q _ h => h.elim) (fun q h => h.elim) (fun r_219 u t H1 locs ht hvm hw hB hz1 hk1 hS => ?_)
  have hP := gz_keep hP hk1
  generalize H1 = H at hP hS ⊢
  have gr_219 : gi r_219 0 3564 := hw
  refine lv_istore (lv' := [(4, .int r_219), (3, .int r_217), (0, .ref h0), (1, .int p0), (2, .int p1)]) hx hb (dk_at dkX9_takeOnWithLean 11 rfl) hl (by decide) rfl (fun ls hl => ?_)
  refine lv_iload_n hx hb (dk_at dkX9_takeOnWithLean 12 rfl) rfl (lv_at hl 3 rfl) ?_
  have hPc := hP.sub (ws' := []) [] rfl
  have hKc := hK.sub (tys' := []) [] rfl
  refine va_calli (va_runSN (As := [.int p0]) (rest := []) ⟨hx, hb, hml, hown, hts⟩ (sX11_firstRun l dC dI p0 (gi_w gp0 (by decide))) (⟨va_cnB 1 hts (gz_gP mGA_504 goodGA) rfl rfl rfl (nzA_X9_67 hz) (hts _ (List.mem_cons_of_mem _ mGA_1)) (by decide +kernel) ⟨Nat.le_of_ble_eq_true rfl, Nat.le_of_ble_eq_true rfl⟩, (hts _ (List.mem_cons_of_mem _ mGA_503)), trivial⟩) ⟨bl_I (bl_a bl_P (bl_a bl_K bl_nz)), fun U hU hW => ⟨rfl, by rw [hU]; exact hPc, va_K.moved hW.alike hKc, nzA_warm hW hz⟩⟩ rfl rfl hl.1 rfl (lv_room (Nat.le_of_ble_eq_true rfl)) (dk_at dkX9_takeOnWithLean 13 rfl) ⟨Nat.zero_le _, Nat.zero_le _⟩) hS (fun q _ h => h.elim) (fun q h => h.elim) (fun r_220 u t H1 locs ht hvm hw hB hz1 hk1 hS => ?_)
  have hP := gz_keep hP hk1
  generalize H1 = H at hP hS ⊢
  have gr_220 : gi r_220 0 1 := hw
  refine lv_istore (lv' := [(5, .int r_220), (4, .int r_219), (3, .int r_217), (0, .ref h0), (1, .int p0), (2, .int p1)]) hx hb (dk_at dkX9_takeOnWithLean 14 rfl) hl (by decide) rfl (fun ls hl => ?_)
  refine (lp_sX9_takeOnWithLean h0 bf bh sa months full lean kbf fbf p0 p1 gmonths gfull glean gp0 gp1 hx hb hml hown hts hK hz hA (Nat.le_of_ble_eq_true rfl) (Nat.le_of_ble_eq_true rfl) (Nat.zero_le _) (Nat.zero_le _) (fun z1 H locs ls hP hD hS hl => ?_) 36) r_217 r_219 r_220 fbf _ _ _ gr_217 gr_219 (gi_w gr_220 (by decide)) (by have qgr_220 := gr_220.1; have rgr_220 := gr_220.2; omega) hP hD hS (lv_sub hl [3, 4, 5, 2, 1, 0] rfl)
  · skip
    exact W.vret hx hb hr (fun t ht hW => ⟨⟨(), rfl, trivial, z1, by rw [ht]; exact hP, hD⟩, hS.F ht⟩) hS.2.2 (dk_at dkX9_takeOnWithLean 49 rfl)
noncomputable def lsX9_beginOf : List (Nat × Instr × Nat) := [(0, .iload_n 1, 1), (1, .istore_n 3, 1), (2, .iconst 0, 1), (3, .istore 4, 2), (5, .iconst 0, 1), (6, .istore 5, 2), (8, .iconst 0, 1), (9, .istore 6, 2), (11, .iload 6, 2), (13, .iload_n 2, 1), (14, .if_icmp .ge 64, 3), (17, .aload_n 0, 1), (18, .iload 6, 2), (20, .iload 4, 2), (22, .iload 5, 2), (24, .invokevirtual 89, 3), (27, .istore 7, 2), (29, .iload_n 3, 1), (30, .iload 7, 2), (32, .if_icmp .ge 21, 3), (35, .iload 5, 2), (37, .aload_n 0, 1), (38, .getfield 31, 3), (41, .aload_n 0, 1), (42, .getfield 35, 3), (45, .invokestatic 78, 3), (48, .istore 5, 2), (50, .goto 22, 3), (53, .iload_n 3, 1), (54, .iload 7, 2), (56, .isub, 1), (57, .istore_n 3, 1), (58, .iload 5, 2), (60, .aload_n 0, 1), (61, .getfield 31, 3), (64, .invokestatic 74, 3), (67, .istore 5, 2), (69, .iinc 4 1, 3), (72, .iinc 6 1, 3), (75, .goto (-64), 3), (78, .iload_n 2, 1), (79, .iload 4, 2), (81, .invokestatic 95, 3), (84, .ireturn, 1)]
theorem dkX9_beginOf : dkAll cX9_beginOf lsX9_beginOf = true := by decide +kernel
set_option maxHeartbeats 4000000 in
set_option maxRecDepth 100000 in
theorem lp_sX9_beginOf {p : Program} {l : Launch} {e : Env} {R : Room} {s : State} {m : MethodId} {args : Array Value} {below : List Frame} {meth : Method} {c : Code} {Q : State → Prop} {A : Nat → Prop} {cells slots : Nat} {dC : Nat → ClassId} {dI : Nat → Nat → Nat} (h0 : Nat) (bh : Nat) (bf : Nat) (sa : Nat) (months : Int32) (full : Int32) (lean : Int32) (kbh : ClassId) (fbh : Nat → Int32) (p0 : Int32) (p1 : Int32) (gmonths : gi months 0 24) (gfull : gi full 0 5) (glean : gi lean 0 5) (gp1 : gi p1 0 24) (hx : p.tables.exec = Jvm.exec) (hb : c.code = cX9_beginOf) (hml : c.maxLocals = 8) (hown : s.vm.findClass RX9 = some m.cls) (hts : ∀ w ∈ ((.code yX9_beginOf cX9_beginOf 8 (some .int) :: wsGA) : List Cond), w.before args s = true) (hK : va_K (dC, dI) vwCl [(kbh, .int)] s) (hz : nzA s) (hRf : 3 ≤ R.frames) (hRl : 66 ≤ R.locals) (hRc : cells ≤ R.cells) (hRs : slots ≤ R.slots) (kr84 : ∀ (v : Int32) (H : Heap) (locs : List Loc) (ls : Array Slot), va_P (dC, dI) vwCl [(h0, .inr (9, [.ref bf, .ref bh, .ref sa, .int months, .int full, .int lean])), (bh, .inl (kbh, 3575, .inl fbh))] H → va_S A s.heap H locs → lv_has ls 8 [] → W p l e R s m args below meth c H locs cells slots Q (F0 m 84 ls [.int v])) : ∀ z : Nat, (∀ (v3 : Int32) (v4 : Int32) (v5 : Int32) (v6 : Int32) (H : Heap) (locs : List Loc) (ls : Array Slot), gi v4 0 24 → gi v5 0 10 → gi v6 0 24 → v4.toInt ≤ v6.toInt → 49 + (-2) * v6.toInt < (z : Int) → va_P (dC, dI) vwCl [(h0, .inr (9, [.ref bf, .ref bh, .ref sa, .int months, .int full, .int lean])), (bh, .inl (kbh, 3575, .inl fbh))] H → va_S A s.heap H locs → lv_has ls 8 [(0, .ref h0), (1, .int p0), (2, .int p1), (3, .int v3), (4, .int v4), (5, .int v5), (6, .int v6)] → W p l e R s m args below meth c H locs cells slots Q (F0 m 11 ls [])) := by
  intro z
  induction z with
  | zero =>
    intro v3 v4 v5 v6 H locs ls gv4 gv5 gv6 hle_gv4_gv6 hmu hP hS hl
    exact absurd hmu (by have hv61 := gv6.1; have hv62 := gv6.2; omega)
  | succ z ih =>
      intro v3 v4 v5 v6 H locs ls gv4 gv5 gv6 hle_gv4_gv6 hmu hP hS hl
      refine lv_iload hx hb (dk_at dkX9_beginOf 8 rfl) (lv_at hl 6 rfl) ?_
      refine lv_iload_n hx hb (dk_at dkX9_beginOf 9 rfl) rfl (lv_at hl 2 rfl) ?_
      refine lv_icmp_ge (tgt := 78) hx hb (dk_at dkX9_beginOf 10 rfl) (by decide) (fun c_212 => ?_) (fun c_212 => ?_)
      · refine lv_iload_n hx hb (dk_at dkX9_beginOf 40 rfl) rfl (lv_at hl 2 rfl) ?_
        refine lv_iload hx hb (dk_at dkX9_beginOf 41 rfl) (lv_at hl 4 rfl) ?_
        have hPc := hP.sub (ws' := []) [] rfl
        have hKc := hK.sub (tys' := []) [] rfl
        refine va_calli (va_runSN (As := [.int p1, .int v4]) (rest := []) ⟨hx, hb, hml, hown, hts⟩ (sX11_dayOf l dC dI p1 v4) (⟨va_cnB 2 hts (gz_gP mGA_516 goodGA) rfl rfl rfl (nzA_X9_95 hz) (hts _ (List.mem_cons_of_mem _ mGA_1)) (by decide +kernel) ⟨Nat.le_trans (Nat.le_of_ble_eq_true rfl) hRf, Nat.le_trans (Nat.le_of_ble_eq_true rfl) hRl⟩, (hts _ (List.mem_cons_of_mem _ mGA_515)), trivial⟩) ⟨bl_I (bl_a bl_P (bl_a bl_K bl_nz)), fun U hU hW => ⟨rfl, by rw [hU]; exact hPc, va_K.moved hW.alike hKc, nzA_warm hW hz⟩⟩ rfl rfl hl.1 rfl (lv_room (Nat.le_of_ble_eq_true rfl)) (dk_at dkX9_beginOf 42 rfl) ⟨hRc, hRs⟩) hS (fun q _ h => h.elim) (fun q h => h.elim) (fun r_213 u t H1 locs ht hvm hw hB hz1 hk1 hS => ?_)
        have hP := gz_keep hP hk1
        generalize H1 = H at hP hS ⊢
        exact kr84 r_213 _ _ _ hP hS (lv_sub hl [] rfl)
      · have g_214 : gi v6 0 23 := gi_lt_l (Int32.not_le.mp c_212) gv6 gp1 (by decide)
        have g_215 : gi v4 0 23 := gi_rel hle_gv4_gv6 gv4 g_214
        have g_216 : gi p1 1 24 := gi_lt_r (Int32.not_le.mp c_212) gv6 gp1 (by decide)
        refine lv_aload_n hx hb (dk_at dkX9_beginOf 11 rfl) rfl (lv_at hl 0 rfl) ?_
        refine lv_iload hx hb (dk_at dkX9_beginOf 12 rfl) (lv_at hl 6 rfl) ?_
        refine lv_iload hx hb (dk_at dkX9_beginOf 13 rfl) (lv_at hl 4 rfl) ?_
        refine lv_iload hx hb (dk_at dkX9_beginOf 14 rfl) (lv_at hl 5 rfl) ?_
        have hPc := hP.sub (ws' := [(h0, .inr (9, [.ref bf, .ref bh, .ref sa, .int months, .int full, .int lean])), (bh, .inl (kbh, 3575, .inl fbh))]) [0, 1] rfl
        have hKc := hK.sub (tys' := [(kbh, .int)]) [0] rfl
        refine va_calli (va_runV (As := [.int v6, .int v4, .int v5]) (rest := []) ⟨hx, hb, hml, hown, hts⟩ (sX9_withLean l dC dI h0 bh bf sa months full lean kbh fbh v6 v4 v5 gmonths gfull glean g_214 (gi_w g_215 (by decide)) gv5) (cwV 3 hts (gz_gV mGA_599 mGA_600 mGA_601 mGA_27 mGA_602 goodGA) rfl rfl rfl (by decide +kernel) ⟨Nat.le_trans (Nat.le_of_ble_eq_true rfl) hRf, Nat.le_trans (Nat.le_of_ble_eq_true rfl) hRl⟩) ⟨bl_I (bl_a bl_P (bl_a bl_K bl_nz)), va_recv hKc hPc (ci := 9) (q0 := 0) rfl rfl, fun U hU hW => ⟨rfl, by rw [hU]; exact hPc, va_K.moved hW.alike hKc, nzA_warm hW hz⟩⟩ rfl rfl hl.1 rfl (lv_room (Nat.le_of_ble_eq_true rfl)) (dk_at dkX9_beginOf 15 rfl) ⟨hRc, hRs⟩) hS (fun q _ h => h.elim) (fun q h => h.elim) (fun r_217 u t H1 locs ht hvm hw hB hz1 hk1 hS => ?_)
        have hP := gz_keep hP hk1
        generalize H1 = H at hP hS ⊢
        refine lv_istore (lv' := [(7, .int r_217), (0, .ref h0), (1, .int p0), (2, .int p1), (3, .int v3), (4, .int v4), (5, .int v5), (6, .int v6)]) hx hb (dk_at dkX9_beginOf 16 rfl) hl (by decide) rfl (fun ls hl => ?_)
        refine lv_iload_n hx hb (dk_at dkX9_beginOf 17 rfl) rfl (lv_at hl 4 rfl) ?_
        refine lv_iload hx hb (dk_at dkX9_beginOf 18 rfl) (lv_at hl 0 rfl) ?_
        refine lv_icmp_ge (tgt := 53) hx hb (dk_at dkX9_beginOf 19 rfl) (by decide) (fun c_218 => ?_) (fun c_218 => ?_)
        · refine lv_iload_n hx hb (dk_at dkX9_beginOf 28 rfl) rfl (lv_at hl 4 rfl) ?_
          refine lv_iload hx hb (dk_at dkX9_beginOf 29 rfl) (lv_at hl 0 rfl) ?_
          refine lv_isub hx hb (dk_at dkX9_beginOf 30 rfl) ?_
          refine lv_topi (fun x_219 ex_219 => ?_)
          refine lv_istore_n (lv' := [(3, .int x_219), (7, .int r_217), (0, .ref h0), (1, .int p0), (2, .int p1), (4, .int v4), (5, .int v5), (6, .int v6)]) hx hb (dk_at dkX9_beginOf 31 rfl) rfl hl (by decide) rfl (fun ls hl => ?_)
          refine lv_iload hx hb (dk_at dkX9_beginOf 32 rfl) (lv_at hl 6 rfl) ?_
          refine lv_aload_n hx hb (dk_at dkX9_beginOf 33 rfl) rfl (lv_at hl 2 rfl) ?_
          refine va_get (D := (dC, dI)) (ci := 9) (v := .int full) (C := RX9) (T := TX9) (N := 6) hx hb hts (fun w h => List.mem_cons_of_mem _ (jnGA_X9 w h)) hown hK hP 0 rfl rfl 4 (by decide) (hts _ (List.mem_cons_of_mem _ mGA_562)) (fun _ h9 => h9) rfl (dk_at dkX9_beginOf 34 rfl) ?_
          have hPc := hP.sub (ws' := []) [] rfl
          have hKc := hK.sub (tys' := []) [] rfl
          refine va_calli (va_runSN (As := [.int v5, .int full]) (rest := []) ⟨hx, hb, hml, hown, hts⟩ (sX11_runWithFull l dC dI v5 full gv5 gfull) (⟨va_cnB 2 hts (gz_gP mGA_508 goodGA) rfl rfl rfl (nzA_X9_74 hz) (hts _ (List.mem_cons_of_mem _ mGA_1)) (by decide +kernel) ⟨Nat.le_trans (Nat.le_of_ble_eq_true rfl) hRf, Nat.le_trans (Nat.le_of_ble_eq_true rfl) hRl⟩, (hts _ (List.mem_cons_of_mem _ mGA_507)), trivial⟩) ⟨bl_I (bl_a bl_P (bl_a bl_K bl_nz)), fun U hU hW => ⟨rfl, by rw [hU]; exact hPc, va_K.moved hW.alike hKc, nzA_warm hW hz⟩⟩ rfl rfl hl.1 rfl (lv_room (Nat.le_of_ble_eq_true rfl)) (dk_at dkX9_beginOf 35 rfl) ⟨hRc, hRs⟩) hS (fun q _ h => h.elim) (fun q h => h.elim) (fun r_220 u t H1 locs ht hvm hw hB hz1 hk1 hS => ?_)
          have hP := gz_keep hP hk1
          generalize H1 = H at hP hS ⊢
          have gr_220 : gi r_220 0 5 := hw
          refine lv_istore (lv' := [(5, .int r_220), (3, .int x_219), (7, .int r_217), (0, .ref h0), (1, .int p0), (2, .int p1), (4, .int v4), (6, .int v6)]) hx hb (dk_at dkX9_beginOf 36 rfl) hl (by decide) rfl (fun ls hl => ?_)
          obtain ⟨x_221, ex_221⟩ : ∃ y : Int32, y = v4 + 1 := ⟨_, rfl⟩
          have gx_221 : gi x_221 1 24 := gi_add ex_221 g_215 (gi_c 1 1 (by decide)) (by decide)
          refine lv_iinc (v := x_221) (lv' := [(4, .int x_221), (5, .int r_220), (3, .int x_219), (7, .int r_217), (0, .ref h0), (1, .int p0), (2, .int p1), (6, .int v6)]) hx hb (dk_at dkX9_beginOf 37 rfl) hl (k := 6) rfl (by rw [ex_221]; rfl) (by decide) rfl (fun ls hl => ?_)
          obtain ⟨x_222, ex_222⟩ : ∃ y : Int32, y = v6 + 1 := ⟨_, rfl⟩
          have gx_222 : gi x_222 1 24 := gi_add ex_222 g_214 (gi_c 1 1 (by decide)) (by decide)
          refine lv_iinc (v := x_222) (lv' := [(6, .int x_222), (4, .int x_221), (5, .int r_220), (3, .int x_219), (7, .int r_217), (0, .ref h0), (1, .int p0), (2, .int p1)]) hx hb (dk_at dkX9_beginOf 38 rfl) hl (k := 7) rfl (by rw [ex_222]; rfl) (by decide) rfl (fun ls hl => ?_)
          refine lv_goto (tgt := 11) hx hb (dk_at dkX9_beginOf 39 rfl) (by decide) ?_
          exact ih x_219 x_221 r_220 x_222 _ _ _ (gi_w gx_221 (by decide)) (gi_w gr_220 (by decide)) (gi_w gx_222 (by decide)) (by have qgx_222 := gx_222.1; have rgx_222 := gx_222.2; have igx_222 : x_222.toInt = v6.toInt + 1 := (by have hc1 : (1 : Int32).toInt = 1 := (by decide); have h9 := gi_addI ex_222 (by have h1 := g_214.1; have h2 := (gi_c 1 1 (by decide)).1; have h3 := g_214.2; have h4 := (gi_c 1 1 (by decide)).2; omega) (by have h1 := g_214.1; have h2 := (gi_c 1 1 (by decide)).1; have h3 := g_214.2; have h4 := (gi_c 1 1 (by decide)).2; omega); rw [hc1] at h9; exact h9); have qgv6 := g_214.1; have rgv6 := g_214.2; have qgx_221 := gx_221.1; have rgx_221 := gx_221.2; have igx_221 : x_221.toInt = v4.toInt + 1 := (by have hc1 : (1 : Int32).toInt = 1 := (by decide); have h9 := gi_addI ex_221 (by have h1 := g_215.1; have h2 := (gi_c 1 1 (by decide)).1; have h3 := g_215.2; have h4 := (gi_c 1 1 (by decide)).2; omega) (by have h1 := g_215.1; have h2 := (gi_c 1 1 (by decide)).1; have h3 := g_215.2; have h4 := (gi_c 1 1 (by decide)).2; omega); rw [hc1] at h9; exact h9); have qgv4 := g_215.1; have rgv4 := g_215.2; have y1 := (Int32.lt_iff_toInt_lt.mp (Int32.not_le.mp c_212)); have y2 := (Int32.le_iff_toInt_le.mp c_218); omega) (by have av6 := gv6.1; have bv6 := gv6.2; have qgx_222 := gx_222.1; have rgx_222 := gx_222.2; have igx_222 : x_222.toInt = v6.toInt + 1 := (by have hc1 : (1 : Int32).toInt = 1 := (by decide); have h9 := gi_addI ex_222 (by have h1 := g_214.1; have h2 := (gi_c 1 1 (by decide)).1; have h3 := g_214.2; have h4 := (gi_c 1 1 (by decide)).2; omega) (by have h1 := g_214.1; have h2 := (gi_c 1 1 (by decide)).1; have h3 := g_214.2; have h4 := (gi_c 1 1 (by decide)).2; omega); rw [hc1] at h9; exact h9); have qgv6 := g_214.1; have rgv6 := g_214.2; omega) hP hS (lv_sub hl [5, 6, 7, 3, 1, 2, 0] rfl)
        · have g_223 : gi v3 (-2147483648) 2147483646 := gi_lt_l (Int32.not_le.mp c_218) (gi_any v3) (gi_any r_217) (by decide)
          have g_224 : gi r_217 (-2147483647) 2147483647 := gi_lt_r (Int32.not_le.mp c_218) (gi_any v3) (gi_any r_217) (by decide)
          refine lv_iload hx hb (dk_at dkX9_beginOf 20 rfl) (lv_at hl 6 rfl) ?_
          refine lv_aload_n hx hb (dk_at dkX9_beginOf 21 rfl) rfl (lv_at hl 1 rfl) ?_
          refine va_get (D := (dC, dI)) (ci := 9) (v := .int full) (C := RX9) (T := TX9) (N := 6) hx hb hts (fun w h => List.mem_cons_of_mem _ (jnGA_X9 w h)) hown hK hP 0 rfl rfl 4 (by decide) (hts _ (List.mem_cons_of_mem _ mGA_562)) (fun _ h9 => h9) rfl (dk_at dkX9_beginOf 22 rfl) ?_
          refine lv_aload_n hx hb (dk_at dkX9_beginOf 23 rfl) rfl (lv_at hl 1 rfl) ?_
          refine va_get (D := (dC, dI)) (ci := 9) (v := .int lean) (C := RX9) (T := TX9) (N := 6) hx hb hts (fun w h => List.mem_cons_of_mem _ (jnGA_X9 w h)) hown hK hP 0 rfl rfl 5 (by decide) (hts _ (List.mem_cons_of_mem _ mGA_564)) (fun _ h9 => h9) rfl (dk_at dkX9_beginOf 24 rfl) ?_
          have hPc := hP.sub (ws' := []) [] rfl
          have hKc := hK.sub (tys' := []) [] rfl
          refine va_calli (va_runSN (As := [.int v5, .int full, .int lean]) (rest := []) ⟨hx, hb, hml, hown, hts⟩ (sX11_runWithLean l dC dI v5 full lean gv5 gfull glean) (⟨va_cnB 3 hts (gz_gP mGA_510 goodGA) rfl rfl rfl (nzA_X9_78 hz) (hts _ (List.mem_cons_of_mem _ mGA_1)) (by decide +kernel) ⟨Nat.le_trans (Nat.le_of_ble_eq_true rfl) hRf, Nat.le_trans (Nat.le_of_ble_eq_true rfl) hRl⟩, (hts _ (List.mem_cons_of_mem _ mGA_509)), trivial⟩) ⟨bl_I (bl_a bl_P (bl_a bl_K bl_nz)), fun U hU hW => ⟨rfl, by rw [hU]; exact hPc, va_K.moved hW.alike hKc, nzA_warm hW hz⟩⟩ rfl rfl hl.1 rfl (lv_room (Nat.le_of_ble_eq_true rfl)) (dk_at dkX9_beginOf 25 rfl) ⟨hRc, hRs⟩) hS (fun q _ h => h.elim) (fun q h => h.elim) (fun r_225 u t H1 locs ht hvm hw hB hz1 hk1 hS => ?_)
          have hP := gz_keep hP hk1
          generalize H1 = H at hP hS ⊢
          have gr_225 : gi r_225 0 10 := hw
          refine lv_istore (lv' := [(5, .int r_225), (7, .int r_217), (0, .ref h0), (1, .int p0), (2, .int p1), (3, .int v3), (4, .int v4), (6, .int v6)]) hx hb (dk_at dkX9_beginOf 26 rfl) hl (by decide) rfl (fun ls hl => ?_)
          refine lv_goto (tgt := 72) hx hb (dk_at dkX9_beginOf 27 rfl) (by decide) ?_
          obtain ⟨x_226, ex_226⟩ : ∃ y : Int32, y = v6 + 1 := ⟨_, rfl⟩
          have gx_226 : gi x_226 1 24 := gi_add ex_226 g_214 (gi_c 1 1 (by decide)) (by decide)
          refine lv_iinc (v := x_226) (lv' := [(6, .int x_226), (5, .int r_225), (7, .int r_217), (0, .ref h0), (1, .int p0), (2, .int p1), (3, .int v3), (4, .int v4)]) hx hb (dk_at dkX9_beginOf 38 rfl) hl (k := 7) rfl (by rw [ex_226]; rfl) (by decide) rfl (fun ls hl => ?_)
          refine lv_goto (tgt := 11) hx hb (dk_at dkX9_beginOf 39 rfl) (by decide) ?_
          exact ih v3 v4 r_225 x_226 _ _ _ (gi_w g_215 (by decide)) gr_225 (gi_w gx_226 (by decide)) (by have qgx_226 := gx_226.1; have rgx_226 := gx_226.2; have igx_226 : x_226.toInt = v6.toInt + 1 := (by have hc1 : (1 : Int32).toInt = 1 := (by decide); have h9 := gi_addI ex_226 (by have h1 := g_214.1; have h2 := (gi_c 1 1 (by decide)).1; have h3 := g_214.2; have h4 := (gi_c 1 1 (by decide)).2; omega) (by have h1 := g_214.1; have h2 := (gi_c 1 1 (by decide)).1; have h3 := g_214.2; have h4 := (gi_c 1 1 (by decide)).2; omega); rw [hc1] at h9; exact h9); have qgv6 := g_214.1; have rgv6 := g_214.2; have qgv4 := g_215.1; have rgv4 := g_215.2; have y1 := (Int32.lt_iff_toInt_lt.mp (Int32.not_le.mp c_212)); have y2 := (Int32.lt_iff_toInt_lt.mp (Int32.not_le.mp c_218)); omega) (by have av6 := gv6.1; have bv6 := gv6.2; have qgx_226 := gx_226.1; have rgx_226 := gx_226.2; have igx_226 : x_226.toInt = v6.toInt + 1 := (by have hc1 : (1 : Int32).toInt = 1 := (by decide); have h9 := gi_addI ex_226 (by have h1 := g_214.1; have h2 := (gi_c 1 1 (by decide)).1; have h3 := g_214.2; have h4 := (gi_c 1 1 (by decide)).2; omega) (by have h1 := g_214.1; have h2 := (gi_c 1 1 (by decide)).1; have h3 := g_214.2; have h4 := (gi_c 1 1 (by decide)).2; omega); rw [hc1] at h9; exact h9); have qgv6 := g_214.1; have rgv6 := g_214.2; omega) hP hS (lv_sub hl [3, 4, 5, 6, 7, 1, 0] rfl)
set_option maxHeartbeats 4000000 in
set_option maxRecDepth 100000 in
theorem sX9_beginOf (l : Launch) (dC : Nat → ClassId) (dI : Nat → Nat → Nat) (h0 : Nat) (bh : Nat) (bf : Nat) (sa : Nat) (months : Int32) (full : Int32) (lean : Int32) (kbh : ClassId) (fbh : Nat → Int32) (p0 : Int32) (p1 : Int32) (gmonths : gi months 0 24) (gfull : gi full 0 5) (glean : gi lean 0 5) (gp1 : gi p1 0 24) : Met l yX9_beginOf (.code yX9_beginOf cX9_beginOf 8 (some .int) :: wsGA) ({ frames := 3, cells := 0, slots := 0, locals := 66 }) (va_Pc [.ref h0, .int p0, .int p1] (fun U => va_P (dC, dI) vwCl [(h0, .inr (9, [.ref bf, .ref bh, .ref sa, .int months, .int full, .int lean])), (bh, .inl (kbh, 3575, .inl fbh))] U.heap ∧ va_K (dC, dI) vwCl [(kbh, .int)] U ∧ nzA U)) (va_Qi (fun (r : Int32) (u : Unit) => gi r (-2147483648) 2147483647) (fun _ _ => True) (fun _ => False)) 0 0 (fun _ => False) := by
  refine Met.ofW (cc := cX9_beginOf) (maxL := 8) (ret := (some .int)) (by decide) rfl ?_
  intro p e s m args below meth c s₁ B hml hv
  obtain ⟨rfl, hP, hK, hz⟩ := hv
  have hx := B.exec
  have hb := B.bytes
  have hr := B.returns
  have hts := atoms_spec (ws := (.code yX9_beginOf cX9_beginOf 8 (some .int) :: wsGA)) B.pre
  have hown : s.vm.findClass RX9 = some m.cls := findClass_of_methodNamed B.named
  have hlocks := B.notSynchronized
  have hS : va_S (fun _ => False) s.heap s.heap [] := va_S.rf
  have hl := lv_entry ([.ref h0, .int p0, .int p1]) (n := 8) (Nat.le_of_ble_eq_true rfl)
  rw [lg_entry_eq]
  generalize (lg_sl ([.ref h0, .int p0, .int p1]) ++ List.replicate (8 - (lg_sl ([.ref h0, .int p0, .int p1])).length) Slot.unset).toArray = ls at hl ⊢
  have hl : lv_has ls 8 [(0, .ref h0), (1, .int p0), (2, .int p1)] := hl
  refine lv_iload_n hx hb (dk_at dkX9_beginOf 0 rfl) rfl (lv_at hl 1 rfl) ?_
  refine lv_istore_n (lv' := [(3, .int p0), (0, .ref h0), (1, .int p0), (2, .int p1)]) hx hb (dk_at dkX9_beginOf 1 rfl) rfl hl (by decide) rfl (fun ls hl => ?_)
  refine lv_iconst (v := 0) hx hb (dk_at dkX9_beginOf 2 rfl) (by decide) ?_
  refine lv_istore (lv' := [(4, .int 0), (3, .int p0), (0, .ref h0), (1, .int p0), (2, .int p1)]) hx hb (dk_at dkX9_beginOf 3 rfl) hl (by decide) rfl (fun ls hl => ?_)
  refine lv_iconst (v := 0) hx hb (dk_at dkX9_beginOf 4 rfl) (by decide) ?_
  refine lv_istore (lv' := [(5, .int 0), (4, .int 0), (3, .int p0), (0, .ref h0), (1, .int p0), (2, .int p1)]) hx hb (dk_at dkX9_beginOf 5 rfl) hl (by decide) rfl (fun ls hl => ?_)
  refine lv_iconst (v := 0) hx hb (dk_at dkX9_beginOf 6 rfl) (by decide) ?_
  refine lv_istore (lv' := [(6, .int 0), (5, .int 0), (4, .int 0), (3, .int p0), (0, .ref h0), (1, .int p0), (2, .int p1)]) hx hb (dk_at dkX9_beginOf 7 rfl) hl (by decide) rfl (fun ls hl => ?_)
  refine (lp_sX9_beginOf h0 bh bf sa months full lean kbh fbh p0 p1 gmonths gfull glean gp1 hx hb hml hown hts hK hz (Nat.le_of_ble_eq_true rfl) (Nat.le_of_ble_eq_true rfl) (Nat.zero_le _) (Nat.zero_le _) (fun v H locs ls hP hS hl => ?_) 62) p0 0 0 0 _ _ _ (gi_w (gi_c 0 0 (by decide)) (by decide)) (gi_w (gi_c 0 0 (by decide)) (by decide)) (gi_w (gi_c 0 0 (by decide)) (by decide)) (by have k0 : (0 : Int32).toInt = 0 := (by decide); have k0 : (0 : Int32).toInt = 0 := (by decide); omega) (by have k0 : (0 : Int32).toInt = 0 := (by decide); omega) hP hS (lv_sub hl [4, 5, 6, 3, 2, 1, 0] rfl)
  · skip
    exact W.iret (v := v) hx hb hr (fun t ht hW => ⟨⟨v, (), rfl, (gi_any v), trivial⟩, hS.F ht⟩) hS.2.2 (dk_at dkX9_beginOf 43 rfl)
noncomputable def lsX9_indexOf : List (Nat × Instr × Nat) := [(0, .iconst 0, 1), (1, .istore_n 2, 1), (2, .iconst 0, 1), (3, .istore_n 3, 1), (4, .iconst 0, 1), (5, .istore 4, 2), (7, .iconst 0, 1), (8, .istore 5, 2), (10, .iload 5, 2), (12, .aload_n 0, 1), (13, .getfield 27, 3), (16, .if_icmp .ge 82, 3), (19, .iload_n 1, 1), (20, .iload 5, 2), (22, .ishr, 1), (23, .iconst 1, 1), (24, .iand, 1), (25, .ifCond .eq 32, 3), (28, .iload_n 2, 1), (29, .aload_n 0, 1), (30, .iload 5, 2), (32, .iload_n 3, 1), (33, .iload 4, 2), (35, .invokevirtual 89, 3), (38, .iadd, 1), (39, .istore_n 2, 1), (40, .iload 4, 2), (42, .aload_n 0, 1), (43, .getfield 31, 3), (46, .invokestatic 74, 3), (49, .istore 4, 2), (51, .iinc 3 1, 3), (54, .goto 18, 3), (57, .iload 4, 2), (59, .aload_n 0, 1), (60, .getfield 31, 3), (63, .aload_n 0, 1), (64, .getfield 35, 3), (67, .invokestatic 78, 3), (70, .istore 4, 2), (72, .aload_n 0, 1), (73, .getfield 15, 3), (76, .iload 5, 2), (78, .iconst 1, 1), (79, .iadd, 1), (80, .iload_n 3, 1), (81, .iload 4, 2), (83, .invokestatic 63, 3), (86, .iaload, 1), (87, .ifCond .ne 5, 3), (90, .iconst (-1), 1), (91, .ireturn, 1), (92, .iinc 5 1, 3), (95, .goto (-85), 3), (98, .iload_n 2, 1), (99, .ireturn, 1)]
theorem dkX9_indexOf : dkAll cX9_indexOf lsX9_indexOf = true := by decide +kernel
set_option maxHeartbeats 4000000 in
set_option maxRecDepth 100000 in
theorem lp_sX9_indexOf {p : Program} {l : Launch} {e : Env} {R : Room} {s : State} {m : MethodId} {args : Array Value} {below : List Frame} {meth : Method} {c : Code} {Q : State → Prop} {A : Nat → Prop} {cells slots : Nat} {dC : Nat → ClassId} {dI : Nat → Nat → Nat} (h0 : Nat) (bh : Nat) (bf : Nat) (sa : Nat) (months : Int32) (full : Int32) (lean : Int32) (kbh : ClassId) (fbh : Nat → Int32) (p0 : Int32) (gmonths : gi months 0 24) (gfull : gi full 0 5) (glean : gi lean 0 5) (hx : p.tables.exec = Jvm.exec) (hb : c.code = cX9_indexOf) (hml : c.maxLocals = 6) (hown : s.vm.findClass RX9 = some m.cls) (hts : ∀ w ∈ ((.code yX9_indexOf cX9_indexOf 6 (some .int) :: wsGA) : List Cond), w.before args s = true) (hK : va_K (dC, dI) vwCl [(kbh, .int)] s) (hz : nzA s) (hRf : 3 ≤ R.frames) (hRl : 66 ≤ R.locals) (hRc : cells ≤ R.cells) (hRs : slots ≤ R.slots) (kr99 : ∀ (v : Int32) (H : Heap) (locs : List Loc) (ls : Array Slot), va_P (dC, dI) vwCl [(h0, .inr (9, [.ref bf, .ref bh, .ref sa, .int months, .int full, .int lean])), (bh, .inl (kbh, 3575, .inl fbh))] H → va_S A s.heap H locs → lv_has ls 6 [] → W p l e R s m args below meth c H locs cells slots Q (F0 m 99 ls [.int v])) (kr91 : ∀ (v : Int32) (H : Heap) (locs : List Loc) (ls : Array Slot), gi v (-1) (-1) → va_P (dC, dI) vwCl [(h0, .inr (9, [.ref bf, .ref bh, .ref sa, .int months, .int full, .int lean])), (bh, .inl (kbh, 3575, .inl fbh))] H → va_S A s.heap H locs → lv_has ls 6 [] → W p l e R s m args below meth c H locs cells slots Q (F0 m 91 ls [.int v])) : ∀ z : Nat, (∀ (v2 : Int32) (v3 : Int32) (v4 : Int32) (v5 : Int32) (H : Heap) (locs : List Loc) (ls : Array Slot), gi v3 0 24 → gi v4 0 10 → gi v5 0 24 → v3.toInt ≤ v5.toInt → 49 + (-2) * v5.toInt < (z : Int) → va_P (dC, dI) vwCl [(h0, .inr (9, [.ref bf, .ref bh, .ref sa, .int months, .int full, .int lean])), (bh, .inl (kbh, 3575, .inl fbh))] H → va_S A s.heap H locs → lv_has ls 6 [(0, .ref h0), (1, .int p0), (2, .int v2), (3, .int v3), (4, .int v4), (5, .int v5)] → W p l e R s m args below meth c H locs cells slots Q (F0 m 10 ls [])) := by
  intro z
  induction z with
  | zero =>
    intro v2 v3 v4 v5 H locs ls gv3 gv4 gv5 hle_gv3_gv5 hmu hP hS hl
    exact absurd hmu (by have hv51 := gv5.1; have hv52 := gv5.2; omega)
  | succ z ih =>
      intro v2 v3 v4 v5 H locs ls gv3 gv4 gv5 hle_gv3_gv5 hmu hP hS hl
      refine lv_iload hx hb (dk_at dkX9_indexOf 8 rfl) (lv_at hl 5 rfl) ?_
      refine lv_aload_n hx hb (dk_at dkX9_indexOf 9 rfl) rfl (lv_at hl 0 rfl) ?_
      refine va_get (D := (dC, dI)) (ci := 9) (v := .int months) (C := RX9) (T := TX9) (N := 6) hx hb hts (fun w h => List.mem_cons_of_mem _ (jnGA_X9 w h)) hown hK hP 0 rfl rfl 3 (by decide) (hts _ (List.mem_cons_of_mem _ mGA_560)) (fun _ h9 => h9) rfl (dk_at dkX9_indexOf 10 rfl) ?_
      refine lv_icmp_ge (tgt := 98) hx hb (dk_at dkX9_indexOf 11 rfl) (by decide) (fun c_377 => ?_) (fun c_377 => ?_)
      · refine lv_iload_n hx hb (dk_at dkX9_indexOf 54 rfl) rfl (lv_at hl 2 rfl) ?_
        exact kr99 v2 _ _ _ hP hS (lv_sub hl [] rfl)
      · have g_378 : gi v5 0 23 := gi_lt_l (Int32.not_le.mp c_377) gv5 gmonths (by decide)
        have g_379 : gi v3 0 23 := gi_rel hle_gv3_gv5 gv3 g_378
        have g_380 : gi months 1 24 := gi_lt_r (Int32.not_le.mp c_377) gv5 gmonths (by decide)
        refine lv_iload_n hx hb (dk_at dkX9_indexOf 12 rfl) rfl (lv_at hl 1 rfl) ?_
        refine lv_iload hx hb (dk_at dkX9_indexOf 13 rfl) (lv_at hl 5 rfl) ?_
        refine lv_ishr hx hb (dk_at dkX9_indexOf 14 rfl) ?_
        refine lv_topi (fun x_381 ex_381 => ?_)
        refine lv_iconst (v := 1) hx hb (dk_at dkX9_indexOf 15 rfl) (by decide) ?_
        refine lv_iand hx hb (dk_at dkX9_indexOf 16 rfl) ?_
        refine lv_topi (fun x_382 ex_382 => ?_)
        have gx_382 : gi x_382 0 1 := gi_and1 ex_382
        refine lv_if_eq (tgt := 57) hx hb (dk_at dkX9_indexOf 17 rfl) (by decide) (fun c_383 => ?_) (fun c_383 => ?_)
        · have g_384 : gi x_382 0 0 := gi_eq c_383 (gi_c 0 0 (by decide))
          refine lv_iload hx hb (dk_at dkX9_indexOf 33 rfl) (lv_at hl 4 rfl) ?_
          refine lv_aload_n hx hb (dk_at dkX9_indexOf 34 rfl) rfl (lv_at hl 0 rfl) ?_
          refine va_get (D := (dC, dI)) (ci := 9) (v := .int full) (C := RX9) (T := TX9) (N := 6) hx hb hts (fun w h => List.mem_cons_of_mem _ (jnGA_X9 w h)) hown hK hP 0 rfl rfl 4 (by decide) (hts _ (List.mem_cons_of_mem _ mGA_562)) (fun _ h9 => h9) rfl (dk_at dkX9_indexOf 35 rfl) ?_
          refine lv_aload_n hx hb (dk_at dkX9_indexOf 36 rfl) rfl (lv_at hl 0 rfl) ?_
          refine va_get (D := (dC, dI)) (ci := 9) (v := .int lean) (C := RX9) (T := TX9) (N := 6) hx hb hts (fun w h => List.mem_cons_of_mem _ (jnGA_X9 w h)) hown hK hP 0 rfl rfl 5 (by decide) (hts _ (List.mem_cons_of_mem _ mGA_564)) (fun _ h9 => h9) rfl (dk_at dkX9_indexOf 37 rfl) ?_
          have hPc := hP.sub (ws' := []) [] rfl
          have hKc := hK.sub (tys' := []) [] rfl
          refine va_calli (va_runSN (As := [.int v4, .int full, .int lean]) (rest := []) ⟨hx, hb, hml, hown, hts⟩ (sX11_runWithLean l dC dI v4 full lean gv4 gfull glean) (⟨va_cnB 3 hts (gz_gP mGA_510 goodGA) rfl rfl rfl (nzA_X9_78 hz) (hts _ (List.mem_cons_of_mem _ mGA_1)) (by decide +kernel) ⟨Nat.le_trans (Nat.le_of_ble_eq_true rfl) hRf, Nat.le_trans (Nat.le_of_ble_eq_true rfl) hRl⟩, (hts _ (List.mem_cons_of_mem _ mGA_509)), trivial⟩) ⟨bl_I (bl_a bl_P (bl_a bl_K bl_nz)), fun U hU hW => ⟨rfl, by rw [hU]; exact hPc, va_K.moved hW.alike hKc, nzA_warm hW hz⟩⟩ rfl rfl hl.1 rfl (lv_room (Nat.le_of_ble_eq_true rfl)) (dk_at dkX9_indexOf 38 rfl) ⟨hRc, hRs⟩) hS (fun q _ h => h.elim) (fun q h => h.elim) (fun r_385 u t H1 locs ht hvm hw hB hz1 hk1 hS => ?_)
          have hP := gz_keep hP hk1
          generalize H1 = H at hP hS ⊢
          have gr_385 : gi r_385 0 10 := hw
          refine lv_istore (lv' := [(4, .int r_385), (0, .ref h0), (1, .int p0), (2, .int v2), (3, .int v3), (5, .int v5)]) hx hb (dk_at dkX9_indexOf 39 rfl) hl (by decide) rfl (fun ls hl => ?_)
          refine lv_aload_n hx hb (dk_at dkX9_indexOf 40 rfl) rfl (lv_at hl 1 rfl) ?_
          refine va_get (D := (dC, dI)) (ci := 9) (v := .ref bh) (C := RX9) (T := TX9) (N := 6) hx hb hts (fun w h => List.mem_cons_of_mem _ (jnGA_X9 w h)) hown hK hP 0 rfl rfl 1 (by decide) (hts _ (List.mem_cons_of_mem _ mGA_112)) (fun _ h9 => h9) rfl (dk_at dkX9_indexOf 41 rfl) ?_
          refine lv_iload hx hb (dk_at dkX9_indexOf 42 rfl) (lv_at hl 5 rfl) ?_
          refine lv_iconst (v := 1) hx hb (dk_at dkX9_indexOf 43 rfl) (by decide) ?_
          refine lv_iadd hx hb (dk_at dkX9_indexOf 44 rfl) ?_
          refine lv_topi (fun x_386 ex_386 => ?_)
          have gx_386 : gi x_386 1 24 := gi_add ex_386 g_378 (gi_c 1 1 (by decide)) (by decide)
          refine lv_iload_n hx hb (dk_at dkX9_indexOf 45 rfl) rfl (lv_at hl 4 rfl) ?_
          refine lv_iload hx hb (dk_at dkX9_indexOf 46 rfl) (lv_at hl 0 rfl) ?_
          have hPc := hP.sub (ws' := []) [] rfl
          have hKc := hK.sub (tys' := []) [] rfl
          refine va_calli (va_runSN (As := [.int x_386, .int v3, .int r_385]) (rest := [.ref bh]) ⟨hx, hb, hml, hown, hts⟩ (sX11_spot l dC dI x_386 v3 r_385 (gi_w gx_386 (by decide)) (gi_w g_379 (by decide)) gr_385) (⟨va_cnB 3 hts (gz_gP mGA_582 goodGA) rfl rfl rfl (nzA_X9_63 hz) (hts _ (List.mem_cons_of_mem _ mGA_1)) (by decide +kernel) ⟨Nat.le_trans (Nat.le_of_ble_eq_true rfl) hRf, Nat.le_trans (Nat.le_of_ble_eq_true rfl) hRl⟩, (hts _ (List.mem_cons_of_mem _ mGA_581)), trivial⟩) ⟨bl_I (bl_a bl_P (bl_a bl_K bl_nz)), fun U hU hW => ⟨rfl, by rw [hU]; exact hPc, va_K.moved hW.alike hKc, nzA_warm hW hz⟩⟩ rfl rfl hl.1 rfl (lv_room (Nat.le_of_ble_eq_true rfl)) (dk_at dkX9_indexOf 47 rfl) ⟨hRc, hRs⟩) hS (fun q _ h => h.elim) (fun q h => h.elim) (fun r_387 u t H1 locs ht hvm hw hB hz1 hk1 hS => ?_)
          have hP := gz_keep hP hk1
          generalize H1 = H at hP hS ⊢
          have gr_387 : gi r_387 0 3574 := hw
          refine va_iald hx hb hK hP 1 0 rfl rfl (gi_in gr_387 (by decide)) (dk_at dkX9_indexOf 48 rfl) ?_
          refine lv_topi (fun x_388 ex_388 => ?_)
          refine lv_if_ne (tgt := 92) hx hb (dk_at dkX9_indexOf 49 rfl) (by decide) (fun c_389 => ?_) (fun c_389 => ?_)
          · obtain ⟨x_390, ex_390⟩ : ∃ y : Int32, y = v5 + 1 := ⟨_, rfl⟩
            have gx_390 : gi x_390 1 24 := gi_add ex_390 g_378 (gi_c 1 1 (by decide)) (by decide)
            refine lv_iinc (v := x_390) (lv' := [(5, .int x_390), (4, .int r_385), (0, .ref h0), (1, .int p0), (2, .int v2), (3, .int v3)]) hx hb (dk_at dkX9_indexOf 52 rfl) hl (k := 5) rfl (by rw [ex_390]; rfl) (by decide) rfl (fun ls hl => ?_)
            refine lv_goto (tgt := 10) hx hb (dk_at dkX9_indexOf 53 rfl) (by decide) ?_
            exact ih v2 v3 r_385 x_390 _ _ _ (gi_w g_379 (by decide)) gr_385 (gi_w gx_390 (by decide)) (by have qgx_390 := gx_390.1; have rgx_390 := gx_390.2; have igx_390 : x_390.toInt = v5.toInt + 1 := (by have hc1 : (1 : Int32).toInt = 1 := (by decide); have h9 := gi_addI ex_390 (by have h1 := g_378.1; have h2 := (gi_c 1 1 (by decide)).1; have h3 := g_378.2; have h4 := (gi_c 1 1 (by decide)).2; omega) (by have h1 := g_378.1; have h2 := (gi_c 1 1 (by decide)).1; have h3 := g_378.2; have h4 := (gi_c 1 1 (by decide)).2; omega); rw [hc1] at h9; exact h9); have qgv5 := g_378.1; have rgv5 := g_378.2; have qgv3 := g_379.1; have rgv3 := g_379.2; have y1 := (Int32.lt_iff_toInt_lt.mp (Int32.not_le.mp c_377)); omega) (by have av5 := gv5.1; have bv5 := gv5.2; have qgx_390 := gx_390.1; have rgx_390 := gx_390.2; have igx_390 : x_390.toInt = v5.toInt + 1 := (by have hc1 : (1 : Int32).toInt = 1 := (by decide); have h9 := gi_addI ex_390 (by have h1 := g_378.1; have h2 := (gi_c 1 1 (by decide)).1; have h3 := g_378.2; have h4 := (gi_c 1 1 (by decide)).2; omega) (by have h1 := g_378.1; have h2 := (gi_c 1 1 (by decide)).1; have h3 := g_378.2; have h4 := (gi_c 1 1 (by decide)).2; omega); rw [hc1] at h9; exact h9); have qgv5 := g_378.1; have rgv5 := g_378.2; omega) hP hS (lv_sub hl [2, 3, 4, 5, 1, 0] rfl)
          · have g_391 : gi x_388 0 0 := gi_eq c_389 (gi_c 0 0 (by decide))
            refine lv_iconst (v := (-1)) hx hb (dk_at dkX9_indexOf 50 rfl) (by decide) ?_
            exact kr91 (-1) _ _ _ (gi_c (-1) (-1) (by decide)) hP hS (lv_sub hl [] rfl)
        · have g_392 : gi x_382 1 1 := gi_ne_lo c_383 gx_382 (gi_c 0 0 (by decide)) (by decide)
          refine lv_iload_n hx hb (dk_at dkX9_indexOf 18 rfl) rfl (lv_at hl 2 rfl) ?_
          refine lv_aload_n hx hb (dk_at dkX9_indexOf 19 rfl) rfl (lv_at hl 0 rfl) ?_
          refine lv_iload hx hb (dk_at dkX9_indexOf 20 rfl) (lv_at hl 5 rfl) ?_
          refine lv_iload_n hx hb (dk_at dkX9_indexOf 21 rfl) rfl (lv_at hl 3 rfl) ?_
          refine lv_iload hx hb (dk_at dkX9_indexOf 22 rfl) (lv_at hl 4 rfl) ?_
          have hPc := hP.sub (ws' := [(h0, .inr (9, [.ref bf, .ref bh, .ref sa, .int months, .int full, .int lean])), (bh, .inl (kbh, 3575, .inl fbh))]) [0, 1] rfl
          have hKc := hK.sub (tys' := [(kbh, .int)]) [0] rfl
          refine va_calli (va_runV (As := [.int v5, .int v3, .int v4]) (rest := [.int v2]) ⟨hx, hb, hml, hown, hts⟩ (sX9_withLean l dC dI h0 bh bf sa months full lean kbh fbh v5 v3 v4 (gi_w g_380 (by decide)) gfull glean g_378 (gi_w g_379 (by decide)) gv4) (cwV 3 hts (gz_gV mGA_599 mGA_600 mGA_601 mGA_27 mGA_602 goodGA) rfl rfl rfl (by decide +kernel) ⟨Nat.le_trans (Nat.le_of_ble_eq_true rfl) hRf, Nat.le_trans (Nat.le_of_ble_eq_true rfl) hRl⟩) ⟨bl_I (bl_a bl_P (bl_a bl_K bl_nz)), va_recv hKc hPc (ci := 9) (q0 := 0) rfl rfl, fun U hU hW => ⟨rfl, by rw [hU]; exact hPc, va_K.moved hW.alike hKc, nzA_warm hW hz⟩⟩ rfl rfl hl.1 rfl (lv_room (Nat.le_of_ble_eq_true rfl)) (dk_at dkX9_indexOf 23 rfl) ⟨hRc, hRs⟩) hS (fun q _ h => h.elim) (fun q h => h.elim) (fun r_393 u t H1 locs ht hvm hw hB hz1 hk1 hS => ?_)
          have hP := gz_keep hP hk1
          generalize H1 = H at hP hS ⊢
          refine lv_iadd hx hb (dk_at dkX9_indexOf 24 rfl) ?_
          refine lv_topi (fun x_394 ex_394 => ?_)
          refine lv_istore_n (lv' := [(2, .int x_394), (0, .ref h0), (1, .int p0), (3, .int v3), (4, .int v4), (5, .int v5)]) hx hb (dk_at dkX9_indexOf 25 rfl) rfl hl (by decide) rfl (fun ls hl => ?_)
          refine lv_iload hx hb (dk_at dkX9_indexOf 26 rfl) (lv_at hl 4 rfl) ?_
          refine lv_aload_n hx hb (dk_at dkX9_indexOf 27 rfl) rfl (lv_at hl 1 rfl) ?_
          refine va_get (D := (dC, dI)) (ci := 9) (v := .int full) (C := RX9) (T := TX9) (N := 6) hx hb hts (fun w h => List.mem_cons_of_mem _ (jnGA_X9 w h)) hown hK hP 0 rfl rfl 4 (by decide) (hts _ (List.mem_cons_of_mem _ mGA_562)) (fun _ h9 => h9) rfl (dk_at dkX9_indexOf 28 rfl) ?_
          have hPc := hP.sub (ws' := []) [] rfl
          have hKc := hK.sub (tys' := []) [] rfl
          refine va_calli (va_runSN (As := [.int v4, .int full]) (rest := []) ⟨hx, hb, hml, hown, hts⟩ (sX11_runWithFull l dC dI v4 full gv4 gfull) (⟨va_cnB 2 hts (gz_gP mGA_508 goodGA) rfl rfl rfl (nzA_X9_74 hz) (hts _ (List.mem_cons_of_mem _ mGA_1)) (by decide +kernel) ⟨Nat.le_trans (Nat.le_of_ble_eq_true rfl) hRf, Nat.le_trans (Nat.le_of_ble_eq_true rfl) hRl⟩, (hts _ (List.mem_cons_of_mem _ mGA_507)), trivial⟩) ⟨bl_I (bl_a bl_P (bl_a bl_K bl_nz)), fun U hU hW => ⟨rfl, by rw [hU]; exact hPc, va_K.moved hW.alike hKc, nzA_warm hW hz⟩⟩ rfl rfl hl.1 rfl (lv_room (Nat.le_of_ble_eq_true rfl)) (dk_at dkX9_indexOf 29 rfl) ⟨hRc, hRs⟩) hS (fun q _ h => h.elim) (fun q h => h.elim) (fun r_395 u t H1 locs ht hvm hw hB hz1 hk1 hS => ?_)
          have hP := gz_keep hP hk1
          generalize H1 = H at hP hS ⊢
          have gr_395 : gi r_395 0 5 := hw
          refine lv_istore (lv' := [(4, .int r_395), (2, .int x_394), (0, .ref h0), (1, .int p0), (3, .int v3), (5, .int v5)]) hx hb (dk_at dkX9_indexOf 30 rfl) hl (by decide) rfl (fun ls hl => ?_)
          obtain ⟨x_396, ex_396⟩ : ∃ y : Int32, y = v3 + 1 := ⟨_, rfl⟩
          have gx_396 : gi x_396 1 24 := gi_add ex_396 g_379 (gi_c 1 1 (by decide)) (by decide)
          refine lv_iinc (v := x_396) (lv' := [(3, .int x_396), (4, .int r_395), (2, .int x_394), (0, .ref h0), (1, .int p0), (5, .int v5)]) hx hb (dk_at dkX9_indexOf 31 rfl) hl (k := 4) rfl (by rw [ex_396]; rfl) (by decide) rfl (fun ls hl => ?_)
          refine lv_goto (tgt := 72) hx hb (dk_at dkX9_indexOf 32 rfl) (by decide) ?_
          refine lv_aload_n hx hb (dk_at dkX9_indexOf 40 rfl) rfl (lv_at hl 3 rfl) ?_
          refine va_get (D := (dC, dI)) (ci := 9) (v := .ref bh) (C := RX9) (T := TX9) (N := 6) hx hb hts (fun w h => List.mem_cons_of_mem _ (jnGA_X9 w h)) hown hK hP 0 rfl rfl 1 (by decide) (hts _ (List.mem_cons_of_mem _ mGA_112)) (fun _ h9 => h9) rfl (dk_at dkX9_indexOf 41 rfl) ?_
          refine lv_iload hx hb (dk_at dkX9_indexOf 42 rfl) (lv_at hl 5 rfl) ?_
          refine lv_iconst (v := 1) hx hb (dk_at dkX9_indexOf 43 rfl) (by decide) ?_
          refine lv_iadd hx hb (dk_at dkX9_indexOf 44 rfl) ?_
          refine lv_topi (fun x_397 ex_397 => ?_)
          have gx_397 : gi x_397 1 24 := gi_add ex_397 g_378 (gi_c 1 1 (by decide)) (by decide)
          refine lv_iload_n hx hb (dk_at dkX9_indexOf 45 rfl) rfl (lv_at hl 0 rfl) ?_
          refine lv_iload hx hb (dk_at dkX9_indexOf 46 rfl) (lv_at hl 1 rfl) ?_
          have hPc := hP.sub (ws' := []) [] rfl
          have hKc := hK.sub (tys' := []) [] rfl
          refine va_calli (va_runSN (As := [.int x_397, .int x_396, .int r_395]) (rest := [.ref bh]) ⟨hx, hb, hml, hown, hts⟩ (sX11_spot l dC dI x_397 x_396 r_395 (gi_w gx_397 (by decide)) (gi_w gx_396 (by decide)) (gi_w gr_395 (by decide))) (⟨va_cnB 3 hts (gz_gP mGA_582 goodGA) rfl rfl rfl (nzA_X9_63 hz) (hts _ (List.mem_cons_of_mem _ mGA_1)) (by decide +kernel) ⟨Nat.le_trans (Nat.le_of_ble_eq_true rfl) hRf, Nat.le_trans (Nat.le_of_ble_eq_true rfl) hRl⟩, (hts _ (List.mem_cons_of_mem _ mGA_581)), trivial⟩) ⟨bl_I (bl_a bl_P (bl_a bl_K bl_nz)), fun U hU hW => ⟨rfl, by rw [hU]; exact hPc, va_K.moved hW.alike hKc, nzA_warm hW hz⟩⟩ rfl rfl hl.1 rfl (lv_room (Nat.le_of_ble_eq_true rfl)) (dk_at dkX9_indexOf 47 rfl) ⟨hRc, hRs⟩) hS (fun q _ h => h.elim) (fun q h => h.elim) (fun r_398 u t H1 locs ht hvm hw hB hz1 hk1 hS => ?_)
          have hP := gz_keep hP hk1
          generalize H1 = H at hP hS ⊢
          have gr_398 : gi r_398 0 3574 := hw
          refine va_iald hx hb hK hP 1 0 rfl rfl (gi_in gr_398 (by decide)) (dk_at dkX9_indexOf 48 rfl) ?_
          refine lv_topi (fun x_399 ex_399 => ?_)
          refine lv_if_ne (tgt := 92) hx hb (dk_at dkX9_indexOf 49 rfl) (by decide) (fun c_400 => ?_) (fun c_400 => ?_)
          · obtain ⟨x_401, ex_401⟩ : ∃ y : Int32, y = v5 + 1 := ⟨_, rfl⟩
            have gx_401 : gi x_401 1 24 := gi_add ex_401 g_378 (gi_c 1 1 (by decide)) (by decide)
            refine lv_iinc (v := x_401) (lv' := [(5, .int x_401), (3, .int x_396), (4, .int r_395), (2, .int x_394), (0, .ref h0), (1, .int p0)]) hx hb (dk_at dkX9_indexOf 52 rfl) hl (k := 5) rfl (by rw [ex_401]; rfl) (by decide) rfl (fun ls hl => ?_)
            refine lv_goto (tgt := 10) hx hb (dk_at dkX9_indexOf 53 rfl) (by decide) ?_
            exact ih x_394 x_396 r_395 x_401 _ _ _ (gi_w gx_396 (by decide)) (gi_w gr_395 (by decide)) (gi_w gx_401 (by decide)) (by have qgx_401 := gx_401.1; have rgx_401 := gx_401.2; have igx_401 : x_401.toInt = v5.toInt + 1 := (by have hc1 : (1 : Int32).toInt = 1 := (by decide); have h9 := gi_addI ex_401 (by have h1 := g_378.1; have h2 := (gi_c 1 1 (by decide)).1; have h3 := g_378.2; have h4 := (gi_c 1 1 (by decide)).2; omega) (by have h1 := g_378.1; have h2 := (gi_c 1 1 (by decide)).1; have h3 := g_378.2; have h4 := (gi_c 1 1 (by decide)).2; omega); rw [hc1] at h9; exact h9); have qgv5 := g_378.1; have rgv5 := g_378.2; have qgx_396 := gx_396.1; have rgx_396 := gx_396.2; have igx_396 : x_396.toInt = v3.toInt + 1 := (by have hc1 : (1 : Int32).toInt = 1 := (by decide); have h9 := gi_addI ex_396 (by have h1 := g_379.1; have h2 := (gi_c 1 1 (by decide)).1; have h3 := g_379.2; have h4 := (gi_c 1 1 (by decide)).2; omega) (by have h1 := g_379.1; have h2 := (gi_c 1 1 (by decide)).1; have h3 := g_379.2; have h4 := (gi_c 1 1 (by decide)).2; omega); rw [hc1] at h9; exact h9); have qgv3 := g_379.1; have rgv3 := g_379.2; have y1 := (Int32.lt_iff_toInt_lt.mp (Int32.not_le.mp c_377)); omega) (by have av5 := gv5.1; have bv5 := gv5.2; have qgx_401 := gx_401.1; have rgx_401 := gx_401.2; have igx_401 : x_401.toInt = v5.toInt + 1 := (by have hc1 : (1 : Int32).toInt = 1 := (by decide); have h9 := gi_addI ex_401 (by have h1 := g_378.1; have h2 := (gi_c 1 1 (by decide)).1; have h3 := g_378.2; have h4 := (gi_c 1 1 (by decide)).2; omega) (by have h1 := g_378.1; have h2 := (gi_c 1 1 (by decide)).1; have h3 := g_378.2; have h4 := (gi_c 1 1 (by decide)).2; omega); rw [hc1] at h9; exact h9); have qgv5 := g_378.1; have rgv5 := g_378.2; omega) hP hS (lv_sub hl [4, 5, 3, 1, 2, 0] rfl)
          · have g_402 : gi x_399 0 0 := gi_eq c_400 (gi_c 0 0 (by decide))
            refine lv_iconst (v := (-1)) hx hb (dk_at dkX9_indexOf 50 rfl) (by decide) ?_
            exact kr91 (-1) _ _ _ (gi_c (-1) (-1) (by decide)) hP hS (lv_sub hl [] rfl)
set_option maxHeartbeats 4000000 in
set_option maxRecDepth 100000 in
theorem sX9_indexOf (l : Launch) (dC : Nat → ClassId) (dI : Nat → Nat → Nat) (h0 : Nat) (bh : Nat) (bf : Nat) (sa : Nat) (months : Int32) (full : Int32) (lean : Int32) (kbh : ClassId) (fbh : Nat → Int32) (p0 : Int32) (gmonths : gi months 0 24) (gfull : gi full 0 5) (glean : gi lean 0 5) : Met l yX9_indexOf (.code yX9_indexOf cX9_indexOf 6 (some .int) :: wsGA) ({ frames := 3, cells := 0, slots := 0, locals := 66 }) (va_Pc [.ref h0, .int p0] (fun U => va_P (dC, dI) vwCl [(h0, .inr (9, [.ref bf, .ref bh, .ref sa, .int months, .int full, .int lean])), (bh, .inl (kbh, 3575, .inl fbh))] U.heap ∧ va_K (dC, dI) vwCl [(kbh, .int)] U ∧ nzA U)) (va_Qi (fun (r : Int32) (u : Unit) => gi r (-2147483648) 2147483647) (fun _ _ => True) (fun _ => False)) 0 0 (fun _ => False) := by
  refine Met.ofW (cc := cX9_indexOf) (maxL := 6) (ret := (some .int)) (by decide) rfl ?_
  intro p e s m args below meth c s₁ B hml hv
  obtain ⟨rfl, hP, hK, hz⟩ := hv
  have hx := B.exec
  have hb := B.bytes
  have hr := B.returns
  have hts := atoms_spec (ws := (.code yX9_indexOf cX9_indexOf 6 (some .int) :: wsGA)) B.pre
  have hown : s.vm.findClass RX9 = some m.cls := findClass_of_methodNamed B.named
  have hlocks := B.notSynchronized
  have hS : va_S (fun _ => False) s.heap s.heap [] := va_S.rf
  have hl := lv_entry ([.ref h0, .int p0]) (n := 6) (Nat.le_of_ble_eq_true rfl)
  rw [lg_entry_eq]
  generalize (lg_sl ([.ref h0, .int p0]) ++ List.replicate (6 - (lg_sl ([.ref h0, .int p0])).length) Slot.unset).toArray = ls at hl ⊢
  have hl : lv_has ls 6 [(0, .ref h0), (1, .int p0)] := hl
  refine lv_iconst (v := 0) hx hb (dk_at dkX9_indexOf 0 rfl) (by decide) ?_
  refine lv_istore_n (lv' := [(2, .int 0), (0, .ref h0), (1, .int p0)]) hx hb (dk_at dkX9_indexOf 1 rfl) rfl hl (by decide) rfl (fun ls hl => ?_)
  refine lv_iconst (v := 0) hx hb (dk_at dkX9_indexOf 2 rfl) (by decide) ?_
  refine lv_istore_n (lv' := [(3, .int 0), (2, .int 0), (0, .ref h0), (1, .int p0)]) hx hb (dk_at dkX9_indexOf 3 rfl) rfl hl (by decide) rfl (fun ls hl => ?_)
  refine lv_iconst (v := 0) hx hb (dk_at dkX9_indexOf 4 rfl) (by decide) ?_
  refine lv_istore (lv' := [(4, .int 0), (3, .int 0), (2, .int 0), (0, .ref h0), (1, .int p0)]) hx hb (dk_at dkX9_indexOf 5 rfl) hl (by decide) rfl (fun ls hl => ?_)
  refine lv_iconst (v := 0) hx hb (dk_at dkX9_indexOf 6 rfl) (by decide) ?_
  refine lv_istore (lv' := [(5, .int 0), (4, .int 0), (3, .int 0), (2, .int 0), (0, .ref h0), (1, .int p0)]) hx hb (dk_at dkX9_indexOf 7 rfl) hl (by decide) rfl (fun ls hl => ?_)
  refine (lp_sX9_indexOf h0 bh bf sa months full lean kbh fbh p0 gmonths gfull glean hx hb hml hown hts hK hz (Nat.le_of_ble_eq_true rfl) (Nat.le_of_ble_eq_true rfl) (Nat.zero_le _) (Nat.zero_le _) (fun v H locs ls hP hS hl => ?_) (fun v H locs ls gv hP hS hl => ?_) 62) 0 0 0 0 _ _ _ (gi_w (gi_c 0 0 (by decide)) (by decide)) (gi_w (gi_c 0 0 (by decide)) (by decide)) (gi_w (gi_c 0 0 (by decide)) (by decide)) (by have k0 : (0 : Int32).toInt = 0 := (by decide); have k0 : (0 : Int32).toInt = 0 := (by decide); omega) (by have k0 : (0 : Int32).toInt = 0 := (by decide); omega) hP hS (lv_sub hl [4, 5, 3, 2, 1, 0] rfl)
  · skip
    exact W.iret (v := v) hx hb hr (fun t ht hW => ⟨⟨v, (), rfl, (gi_any v), trivial⟩, hS.F ht⟩) hS.2.2 (dk_at dkX9_indexOf 55 rfl)
  · skip
    exact W.iret (v := v) hx hb hr (fun t ht hW => ⟨⟨v, (), rfl, (gi_any v), trivial⟩, hS.F ht⟩) hS.2.2 (dk_at dkX9_indexOf 51 rfl)
noncomputable def lsX9_countBefore : List (Nat × Instr × Nat) := [(0, .aload_n 0, 1), (1, .getfield 9, 3), (4, .iconst 0, 1), (5, .iconst 1, 1), (6, .iastore, 1), (7, .iconst 0, 1), (8, .istore_n 2, 1), (9, .iload_n 2, 1), (10, .aload_n 0, 1), (11, .getfield 27, 3), (14, .if_icmp .ge 58, 3), (17, .iconst 0, 1), (18, .istore_n 3, 1), (19, .iload_n 3, 1), (20, .iload_n 2, 1), (21, .if_icmp .gt 45, 3), (24, .aload_n 1, 1), (25, .iload_n 2, 1), (26, .iconst 1, 1), (27, .iadd, 1), (28, .iload_n 3, 1), (29, .iconst 1, 1), (30, .iadd, 1), (31, .invokevirtual 52, 3), (34, .ifCond .eq 9, 3), (37, .aload_n 0, 1), (38, .iload_n 2, 1), (39, .iload_n 3, 1), (40, .invokevirtual 56, 3), (43, .aload_n 1, 1), (44, .iload_n 2, 1), (45, .iconst 1, 1), (46, .iadd, 1), (47, .iload_n 3, 1), (48, .invokevirtual 52, 3), (51, .ifCond .eq 9, 3), (54, .aload_n 0, 1), (55, .iload_n 2, 1), (56, .iload_n 3, 1), (57, .invokevirtual 60, 3), (60, .iinc 3 1, 3), (63, .goto (-44), 3), (66, .iinc 2 1, 3), (69, .goto (-60), 3), (72, .return_, 1)]
theorem dkX9_countBefore : dkAll cX9_countBefore lsX9_countBefore = true := by decide +kernel
set_option maxHeartbeats 4000000 in
set_option maxRecDepth 100000 in
theorem lp_sX9_countBefore {p : Program} {l : Launch} {e : Env} {R : Room} {s : State} {m : MethodId} {args : Array Value} {below : List Frame} {meth : Method} {c : Code} {Q : State → Prop} {A : Nat → Prop} {cells slots : Nat} {dC : Nat → ClassId} {dI : Nat → Nat → Nat} (h0 : Nat) (bf : Nat) (fr : Nat) (fral : Nat) (bh : Nat) (sa : Nat) (months : Int32) (full : Int32) (lean : Int32) (kbf : ClassId) (fbf : Nat → Int32) (frmonths : Int32) (frfull : Int32) (frlean : Int32) (fron : Nat) (kfral : ClassId) (ffral : Nat → Int32) (gmonths : gi months 0 24) (gfull : gi full 0 5) (glean : gi lean 0 5) (gfrmonths : gi frmonths 0 24) (gfrfull : gi frfull 0 5) (gfrlean : gi frlean 0 5) (hx : p.tables.exec = Jvm.exec) (hb : c.code = cX9_countBefore) (hml : c.maxLocals = 4) (hown : s.vm.findClass RX9 = some m.cls) (hts : ∀ w ∈ ((.code yX9_countBefore cX9_countBefore 4 none :: wsGA) : List Cond), w.before args s = true) (hK : va_K (dC, dI) vwCl [(kbf, .int), (kfral, .int)] s) (hz : nzA s) (hA : ∀ q : Nat, s.heap.size ≤ q → A q) (hRf : 3 ≤ R.frames) (hRl : 69 ≤ R.locals) (hRc : cells ≤ R.cells) (hRs : slots ≤ R.slots) (kr72 : ∀ (z1 : Nat → Int32) (H : Heap) (locs : List Loc) (ls : Array Slot), va_P (dC, dI) vwCl [(h0, .inr (9, [.ref bf, .ref bh, .ref sa, .int months, .int full, .int lean])), (bf, .inl (kbf, 3575, .inl z1)), (fr, .inr (3, [.int frmonths, .int frfull, .int frlean, .ref fral, .ref fron])), (fral, .inl (kfral, 25, .inl ffral))] H → va_D A [(h0, .inr (9, [.ref bf, .ref bh, .ref sa, .int months, .int full, .int lean])), (bf, .inl (kbf, 3575, .inl z1)), (fr, .inr (3, [.int frmonths, .int frfull, .int frlean, .ref fral, .ref fron])), (fral, .inl (kfral, 25, .inl ffral))] → va_S A s.heap H locs → lv_has ls 4 [] → W p l e R s m args below meth c H locs cells slots Q (F0 m 72 ls [])) : ∀ z : Nat, (∀ (v2 : Int32) (z1 : Nat → Int32) (H : Heap) (locs : List Loc) (ls : Array Slot), gi v2 0 24 → 1297 + (-54) * v2.toInt < (z : Int) → va_P (dC, dI) vwCl [(h0, .inr (9, [.ref bf, .ref bh, .ref sa, .int months, .int full, .int lean])), (bf, .inl (kbf, 3575, .inl z1)), (fr, .inr (3, [.int frmonths, .int frfull, .int frlean, .ref fral, .ref fron])), (fral, .inl (kfral, 25, .inl ffral))] H → va_D A [(h0, .inr (9, [.ref bf, .ref bh, .ref sa, .int months, .int full, .int lean])), (bf, .inl (kbf, 3575, .inl z1)), (fr, .inr (3, [.int frmonths, .int frfull, .int frlean, .ref fral, .ref fron])), (fral, .inl (kfral, 25, .inl ffral))] → va_S A s.heap H locs → lv_has ls 4 [(0, .ref h0), (1, .ref fr), (2, .int v2)] → W p l e R s m args below meth c H locs cells slots Q (F0 m 9 ls [])) ∧ (∀ (v2 : Int32) (v3 : Int32) (z1 : Nat → Int32) (H : Heap) (locs : List Loc) (ls : Array Slot), gi v2 0 23 → gi v3 0 24 → 1292 + (-54) * v2.toInt + (-2) * v3.toInt < (z : Int) → va_P (dC, dI) vwCl [(h0, .inr (9, [.ref bf, .ref bh, .ref sa, .int months, .int full, .int lean])), (bf, .inl (kbf, 3575, .inl z1)), (fr, .inr (3, [.int frmonths, .int frfull, .int frlean, .ref fral, .ref fron])), (fral, .inl (kfral, 25, .inl ffral))] H → va_D A [(h0, .inr (9, [.ref bf, .ref bh, .ref sa, .int months, .int full, .int lean])), (bf, .inl (kbf, 3575, .inl z1)), (fr, .inr (3, [.int frmonths, .int frfull, .int frlean, .ref fral, .ref fron])), (fral, .inl (kfral, 25, .inl ffral))] → va_S A s.heap H locs → lv_has ls 4 [(0, .ref h0), (1, .ref fr), (2, .int v2), (3, .int v3)] → W p l e R s m args below meth c H locs cells slots Q (F0 m 19 ls [])) := by
  intro z
  induction z with
  | zero =>
    refine ⟨?_, ?_⟩
    · intro v2 z1 H locs ls gv2 hmu hP hD hS hl
      exact absurd hmu (by have hv21 := gv2.1; have hv22 := gv2.2; omega)
    · intro v2 v3 z1 H locs ls gv2 gv3 hmu hP hD hS hl
      exact absurd hmu (by have hv21 := gv2.1; have hv22 := gv2.2; have hv31 := gv3.1; have hv32 := gv3.2; omega)
  | succ z ih =>
    refine ⟨?_, ?_⟩
    · intro v2 z1 H locs ls gv2 hmu hP hD hS hl
      refine lv_iload_n hx hb (dk_at dkX9_countBefore 7 rfl) rfl (lv_at hl 2 rfl) ?_
      refine lv_aload_n hx hb (dk_at dkX9_countBefore 8 rfl) rfl (lv_at hl 0 rfl) ?_
      refine va_get (D := (dC, dI)) (ci := 9) (v := .int months) (C := RX9) (T := TX9) (N := 6) hx hb hts (fun w h => List.mem_cons_of_mem _ (jnGA_X9 w h)) hown hK hP 0 rfl rfl 3 (by decide) (hts _ (List.mem_cons_of_mem _ mGA_560)) (fun _ h9 => h9) rfl (dk_at dkX9_countBefore 9 rfl) ?_
      refine lv_icmp_ge (tgt := 72) hx hb (dk_at dkX9_countBefore 10 rfl) (by decide) (fun c_984 => ?_) (fun c_984 => ?_)
      · exact kr72 z1 _ _ _ hP hD hS (lv_sub hl [] rfl)
      · have g_985 : gi v2 0 23 := gi_lt_l (Int32.not_le.mp c_984) gv2 gmonths (by decide)
        have g_986 : gi months 1 24 := gi_lt_r (Int32.not_le.mp c_984) gv2 gmonths (by decide)
        refine lv_iconst (v := 0) hx hb (dk_at dkX9_countBefore 11 rfl) (by decide) ?_
        refine lv_istore_n (lv' := [(3, .int 0), (0, .ref h0), (1, .ref fr), (2, .int v2)]) hx hb (dk_at dkX9_countBefore 12 rfl) rfl hl (by decide) rfl (fun ls hl => ?_)
        exact ih.2 v2 0 z1 _ _ _ g_985 (gi_w (gi_c 0 0 (by decide)) (by decide)) (by have k0 : (0 : Int32).toInt = 0 := (by decide); have av2 := gv2.1; have bv2 := gv2.2; have qgv2 := g_985.1; have rgv2 := g_985.2; omega) hP hD hS (lv_sub hl [1, 2, 3, 0] rfl)
    · intro v2 v3 z1 H locs ls gv2 gv3 hmu hP hD hS hl
      refine lv_iload_n hx hb (dk_at dkX9_countBefore 13 rfl) rfl (lv_at hl 3 rfl) ?_
      refine lv_iload_n hx hb (dk_at dkX9_countBefore 14 rfl) rfl (lv_at hl 2 rfl) ?_
      refine lv_icmp_gt (tgt := 66) hx hb (dk_at dkX9_countBefore 15 rfl) (by decide) (fun c_987 => ?_) (fun c_987 => ?_)
      · have g_988 : gi v3 1 24 := gi_lt_r c_987 gv2 gv3 (by decide)
        obtain ⟨x_989, ex_989⟩ : ∃ y : Int32, y = v2 + 1 := ⟨_, rfl⟩
        have gx_989 : gi x_989 1 24 := gi_add ex_989 gv2 (gi_c 1 1 (by decide)) (by decide)
        refine lv_iinc (v := x_989) (lv' := [(2, .int x_989), (0, .ref h0), (1, .ref fr), (3, .int v3)]) hx hb (dk_at dkX9_countBefore 42 rfl) hl (k := 2) rfl (by rw [ex_989]; rfl) (by decide) rfl (fun ls hl => ?_)
        refine lv_goto (tgt := 9) hx hb (dk_at dkX9_countBefore 43 rfl) (by decide) ?_
        exact ih.1 x_989 z1 _ _ _ (gi_w gx_989 (by decide)) (by have av2 := gv2.1; have bv2 := gv2.2; have av3 := gv3.1; have bv3 := gv3.2; have qgx_989 := gx_989.1; have rgx_989 := gx_989.2; have igx_989 : x_989.toInt = v2.toInt + 1 := (by have hc1 : (1 : Int32).toInt = 1 := (by decide); have h9 := gi_addI ex_989 (by have h1 := gv2.1; have h2 := (gi_c 1 1 (by decide)).1; have h3 := gv2.2; have h4 := (gi_c 1 1 (by decide)).2; omega) (by have h1 := gv2.1; have h2 := (gi_c 1 1 (by decide)).1; have h3 := gv2.2; have h4 := (gi_c 1 1 (by decide)).2; omega); rw [hc1] at h9; exact h9); have qgv2 := gv2.1; have rgv2 := gv2.2; omega) hP hD hS (lv_sub hl [1, 2, 0] rfl)
      · have g_990 : gi v3 0 23 := gi_le_l (Int32.not_lt.mp c_987) gv3 gv2
        refine lv_aload_n hx hb (dk_at dkX9_countBefore 16 rfl) rfl (lv_at hl 1 rfl) ?_
        refine lv_iload_n hx hb (dk_at dkX9_countBefore 17 rfl) rfl (lv_at hl 2 rfl) ?_
        refine lv_iconst (v := 1) hx hb (dk_at dkX9_countBefore 18 rfl) (by decide) ?_
        refine lv_iadd hx hb (dk_at dkX9_countBefore 19 rfl) ?_
        refine lv_topi (fun x_991 ex_991 => ?_)
        have gx_991 : gi x_991 1 24 := gi_add ex_991 gv2 (gi_c 1 1 (by decide)) (by decide)
        refine lv_iload_n hx hb (dk_at dkX9_countBefore 20 rfl) rfl (lv_at hl 3 rfl) ?_
        refine lv_iconst (v := 1) hx hb (dk_at dkX9_countBefore 21 rfl) (by decide) ?_
        refine lv_iadd hx hb (dk_at dkX9_countBefore 22 rfl) ?_
        refine lv_topi (fun x_992 ex_992 => ?_)
        have gx_992 : gi x_992 1 24 := gi_add ex_992 g_990 (gi_c 1 1 (by decide)) (by decide)
        have hPc := hP.sub (ws' := [(fr, .inr (3, [.int frmonths, .int frfull, .int frlean, .ref fral, .ref fron])), (fral, .inl (kfral, 25, .inl ffral))]) [2, 3] rfl
        have hKc := hK.sub (tys' := [(kfral, .int)]) [1] rfl
        refine va_calli (va_runV (As := [.int x_991, .int x_992]) (rest := []) ⟨hx, hb, hml, hown, hts⟩ (sX3_allows l dC dI fr fral frmonths frfull frlean fron kfral ffral x_991 x_992 gfrmonths gfrfull gfrlean (gi_w gx_991 (by decide))) (cwV 2 hts (gz_gV mGA_573 mGA_574 mGA_575 mGA_18 mGA_576 goodGA) rfl rfl rfl (by decide +kernel) ⟨Nat.le_trans (Nat.le_of_ble_eq_true rfl) hRf, Nat.le_trans (Nat.le_of_ble_eq_true rfl) hRl⟩) ⟨bl_I (bl_a bl_P (bl_a bl_K bl_nz)), va_recv hKc hPc (ci := 3) (q0 := 0) rfl rfl, fun U hU hW => ⟨rfl, by rw [hU]; exact hPc, va_K.moved hW.alike hKc, nzA_warm hW hz⟩⟩ rfl rfl hl.1 rfl (lv_room (Nat.le_of_ble_eq_true rfl)) (dk_at dkX9_countBefore 23 rfl) ⟨hRc, hRs⟩) hS (fun q _ h => h.elim) (fun q h => h.elim) (fun r_993 u t H1 locs ht hvm hw hB hz1 hk1 hS => ?_)
        have hP := gz_keep hP hk1
        generalize H1 = H at hP hS ⊢
        have gr_993 : gi r_993 0 1 := hw
        refine lv_if_eq (tgt := 43) hx hb (dk_at dkX9_countBefore 24 rfl) (by decide) (fun c_994 => ?_) (fun c_994 => ?_)
        · have g_995 : gi r_993 0 0 := gi_eq c_994 (gi_c 0 0 (by decide))
          refine lv_aload_n hx hb (dk_at dkX9_countBefore 29 rfl) rfl (lv_at hl 1 rfl) ?_
          refine lv_iload_n hx hb (dk_at dkX9_countBefore 30 rfl) rfl (lv_at hl 2 rfl) ?_
          refine lv_iconst (v := 1) hx hb (dk_at dkX9_countBefore 31 rfl) (by decide) ?_
          refine lv_iadd hx hb (dk_at dkX9_countBefore 32 rfl) ?_
          refine lv_topi (fun x_996 ex_996 => ?_)
          have gx_996 : gi x_996 1 24 := gi_add ex_996 gv2 (gi_c 1 1 (by decide)) (by decide)
          refine lv_iload_n hx hb (dk_at dkX9_countBefore 33 rfl) rfl (lv_at hl 3 rfl) ?_
          have hPc := hP.sub (ws' := [(fr, .inr (3, [.int frmonths, .int frfull, .int frlean, .ref fral, .ref fron])), (fral, .inl (kfral, 25, .inl ffral))]) [2, 3] rfl
          have hKc := hK.sub (tys' := [(kfral, .int)]) [1] rfl
          refine va_calli (va_runV (As := [.int x_996, .int v3]) (rest := []) ⟨hx, hb, hml, hown, hts⟩ (sX3_allows l dC dI fr fral frmonths frfull frlean fron kfral ffral x_996 v3 gfrmonths gfrfull gfrlean (gi_w gx_996 (by decide))) (cwV 2 hts (gz_gV mGA_573 mGA_574 mGA_575 mGA_18 mGA_576 goodGA) rfl rfl rfl (by decide +kernel) ⟨Nat.le_trans (Nat.le_of_ble_eq_true rfl) hRf, Nat.le_trans (Nat.le_of_ble_eq_true rfl) hRl⟩) ⟨bl_I (bl_a bl_P (bl_a bl_K bl_nz)), va_recv hKc hPc (ci := 3) (q0 := 0) rfl rfl, fun U hU hW => ⟨rfl, by rw [hU]; exact hPc, va_K.moved hW.alike hKc, nzA_warm hW hz⟩⟩ rfl rfl hl.1 rfl (lv_room (Nat.le_of_ble_eq_true rfl)) (dk_at dkX9_countBefore 34 rfl) ⟨hRc, hRs⟩) hS (fun q _ h => h.elim) (fun q h => h.elim) (fun r_997 u t H1 locs ht hvm hw hB hz1 hk1 hS => ?_)
          have hP := gz_keep hP hk1
          generalize H1 = H at hP hS ⊢
          have gr_997 : gi r_997 0 1 := hw
          refine lv_if_eq (tgt := 60) hx hb (dk_at dkX9_countBefore 35 rfl) (by decide) (fun c_998 => ?_) (fun c_998 => ?_)
          · have g_999 : gi r_997 0 0 := gi_eq c_998 (gi_c 0 0 (by decide))
            obtain ⟨x_1000, ex_1000⟩ : ∃ y : Int32, y = v3 + 1 := ⟨_, rfl⟩
            have gx_1000 : gi x_1000 1 24 := gi_add ex_1000 g_990 (gi_c 1 1 (by decide)) (by decide)
            refine lv_iinc (v := x_1000) (lv' := [(3, .int x_1000), (0, .ref h0), (1, .ref fr), (2, .int v2)]) hx hb (dk_at dkX9_countBefore 40 rfl) hl (k := 3) rfl (by rw [ex_1000]; rfl) (by decide) rfl (fun ls hl => ?_)
            refine lv_goto (tgt := 19) hx hb (dk_at dkX9_countBefore 41 rfl) (by decide) ?_
            exact ih.2 v2 x_1000 z1 _ _ _ gv2 (gi_w gx_1000 (by decide)) (by have av2 := gv2.1; have bv2 := gv2.2; have av3 := gv3.1; have bv3 := gv3.2; have qgx_1000 := gx_1000.1; have rgx_1000 := gx_1000.2; have igx_1000 : x_1000.toInt = v3.toInt + 1 := (by have hc1 : (1 : Int32).toInt = 1 := (by decide); have h9 := gi_addI ex_1000 (by have h1 := g_990.1; have h2 := (gi_c 1 1 (by decide)).1; have h3 := g_990.2; have h4 := (gi_c 1 1 (by decide)).2; omega) (by have h1 := g_990.1; have h2 := (gi_c 1 1 (by decide)).1; have h3 := g_990.2; have h4 := (gi_c 1 1 (by decide)).2; omega); rw [hc1] at h9; exact h9); have qgv3 := g_990.1; have rgv3 := g_990.2; have qgv2 := gv2.1; have rgv2 := gv2.2; omega) hP hD hS (lv_sub hl [1, 2, 3, 0] rfl)
          · have g_1001 : gi r_997 1 1 := gi_ne_lo c_998 gr_997 (gi_c 0 0 (by decide)) (by decide)
            refine lv_aload_n hx hb (dk_at dkX9_countBefore 36 rfl) rfl (lv_at hl 0 rfl) ?_
            refine lv_iload_n hx hb (dk_at dkX9_countBefore 37 rfl) rfl (lv_at hl 2 rfl) ?_
            refine lv_iload_n hx hb (dk_at dkX9_countBefore 38 rfl) rfl (lv_at hl 3 rfl) ?_
            obtain ⟨hPc, hDc, hFc⟩ := gz_cut (wc := [(h0, .inr (9, [.ref bf, .ref bh, .ref sa, .int months, .int full, .int lean])), (bf, .inl (kbf, 3575, .inl z1))]) hP hD hS hA [0, 1] (by decide) rfl
            have hKc := hK.sub (tys' := [(kbf, .int)]) [0] rfl
            refine va_callv (va_runV (As := [.int v2, .int v3]) (rest := []) ⟨hx, hb, hml, hown, hts⟩ (sX9_takeOnWithLean l dC dI H.size h0 bf bh sa months full lean kbf z1 v2 v3 gmonths gfull glean gv2 g_990) (cwV 2 hts (gz_gV mGA_586 mGA_587 mGA_588 mGA_27 mGA_589 goodGA) rfl rfl rfl (by decide +kernel) ⟨Nat.le_trans (Nat.le_of_ble_eq_true rfl) hRf, Nat.le_trans (Nat.le_of_ble_eq_true rfl) hRl⟩) ⟨bl_I (bl_a bl_sz (bl_a bl_P (bl_a bl_K (bl_a bl_c bl_nz)))), va_recv hKc hPc (ci := 9) (q0 := 0) rfl rfl, fun U hU hW => ⟨rfl, by rw [hU], by rw [hU]; exact hPc, va_K.moved hW.alike hKc, hDc.weaken (fun _ _ _ _ => trivial), nzA_warm hW hz⟩⟩ rfl rfl hl.1 rfl (lv_room (Nat.le_of_ble_eq_true rfl)) (dk_at dkX9_countBefore 39 rfl) ⟨hRc, hRs⟩) hS (fun q _ h => hFc q h) hFc (fun u t H1 locs ht hvm hw hB hz1 hk1 hS => ?_)
            obtain ⟨f_1003, hB⟩ := hB
            obtain ⟨hP1, hD1⟩ := hB
            rw [ht] at hP1
            obtain ⟨hP, hD⟩ := gz_back hP hD hk1 hFc hP1 hD1 [0, 1] rfl rfl
            obtain ⟨hP, hD⟩ := gz_both (w := [(h0, .inr (9, [.ref bf, .ref bh, .ref sa, .int months, .int full, .int lean])), (bf, .inl (kbf, 3575, .inl f_1003)), (fr, .inr (3, [.int frmonths, .int frfull, .int frlean, .ref fral, .ref fron])), (fral, .inl (kfral, 25, .inl ffral))]) hP hD
            generalize H1 = H at hP hS ⊢
            obtain ⟨x_1004, ex_1004⟩ : ∃ y : Int32, y = v3 + 1 := ⟨_, rfl⟩
            have gx_1004 : gi x_1004 1 24 := gi_add ex_1004 g_990 (gi_c 1 1 (by decide)) (by decide)
            refine lv_iinc (v := x_1004) (lv' := [(3, .int x_1004), (0, .ref h0), (1, .ref fr), (2, .int v2)]) hx hb (dk_at dkX9_countBefore 40 rfl) hl (k := 3) rfl (by rw [ex_1004]; rfl) (by decide) rfl (fun ls hl => ?_)
            refine lv_goto (tgt := 19) hx hb (dk_at dkX9_countBefore 41 rfl) (by decide) ?_
            exact ih.2 v2 x_1004 f_1003 _ _ _ gv2 (gi_w gx_1004 (by decide)) (by have av2 := gv2.1; have bv2 := gv2.2; have av3 := gv3.1; have bv3 := gv3.2; have qgx_1004 := gx_1004.1; have rgx_1004 := gx_1004.2; have igx_1004 : x_1004.toInt = v3.toInt + 1 := (by have hc1 : (1 : Int32).toInt = 1 := (by decide); have h9 := gi_addI ex_1004 (by have h1 := g_990.1; have h2 := (gi_c 1 1 (by decide)).1; have h3 := g_990.2; have h4 := (gi_c 1 1 (by decide)).2; omega) (by have h1 := g_990.1; have h2 := (gi_c 1 1 (by decide)).1; have h3 := g_990.2; have h4 := (gi_c 1 1 (by decide)).2; omega); rw [hc1] at h9; exact h9); have qgv3 := g_990.1; have rgv3 := g_990.2; have qgv2 := gv2.1; have rgv2 := gv2.2; omega) hP hD hS (lv_sub hl [1, 2, 3, 0] rfl)
        · have g_1005 : gi r_993 1 1 := gi_ne_lo c_994 gr_993 (gi_c 0 0 (by decide)) (by decide)
          refine lv_aload_n hx hb (dk_at dkX9_countBefore 25 rfl) rfl (lv_at hl 0 rfl) ?_
          refine lv_iload_n hx hb (dk_at dkX9_countBefore 26 rfl) rfl (lv_at hl 2 rfl) ?_
          refine lv_iload_n hx hb (dk_at dkX9_countBefore 27 rfl) rfl (lv_at hl 3 rfl) ?_
          obtain ⟨hPc, hDc, hFc⟩ := gz_cut (wc := [(h0, .inr (9, [.ref bf, .ref bh, .ref sa, .int months, .int full, .int lean])), (bf, .inl (kbf, 3575, .inl z1))]) hP hD hS hA [0, 1] (by decide) rfl
          have hKc := hK.sub (tys' := [(kbf, .int)]) [0] rfl
          refine va_callv (va_runV (As := [.int v2, .int v3]) (rest := []) ⟨hx, hb, hml, hown, hts⟩ (sX9_takeOnWithFull l dC dI H.size h0 bf bh sa months full lean kbf z1 v2 v3 gmonths gfull glean gv2 g_990) (cwV 2 hts (gz_gV mGA_577 mGA_578 mGA_579 mGA_27 mGA_580 goodGA) rfl rfl rfl (by decide +kernel) ⟨Nat.le_trans (Nat.le_of_ble_eq_true rfl) hRf, Nat.le_trans (Nat.le_of_ble_eq_true rfl) hRl⟩) ⟨bl_I (bl_a bl_sz (bl_a bl_P (bl_a bl_K (bl_a bl_c bl_nz)))), va_recv hKc hPc (ci := 9) (q0 := 0) rfl rfl, fun U hU hW => ⟨rfl, by rw [hU], by rw [hU]; exact hPc, va_K.moved hW.alike hKc, hDc.weaken (fun _ _ _ _ => trivial), nzA_warm hW hz⟩⟩ rfl rfl hl.1 rfl (lv_room (Nat.le_of_ble_eq_true rfl)) (dk_at dkX9_countBefore 28 rfl) ⟨hRc, hRs⟩) hS (fun q _ h => hFc q h) hFc (fun u t H1 locs ht hvm hw hB hz1 hk1 hS => ?_)
          obtain ⟨f_1007, hB⟩ := hB
          obtain ⟨hP1, hD1⟩ := hB
          rw [ht] at hP1
          obtain ⟨hP, hD⟩ := gz_back hP hD hk1 hFc hP1 hD1 [0, 1] rfl rfl
          obtain ⟨hP, hD⟩ := gz_both (w := [(h0, .inr (9, [.ref bf, .ref bh, .ref sa, .int months, .int full, .int lean])), (bf, .inl (kbf, 3575, .inl f_1007)), (fr, .inr (3, [.int frmonths, .int frfull, .int frlean, .ref fral, .ref fron])), (fral, .inl (kfral, 25, .inl ffral))]) hP hD
          generalize H1 = H at hP hS ⊢
          refine lv_aload_n hx hb (dk_at dkX9_countBefore 29 rfl) rfl (lv_at hl 1 rfl) ?_
          refine lv_iload_n hx hb (dk_at dkX9_countBefore 30 rfl) rfl (lv_at hl 2 rfl) ?_
          refine lv_iconst (v := 1) hx hb (dk_at dkX9_countBefore 31 rfl) (by decide) ?_
          refine lv_iadd hx hb (dk_at dkX9_countBefore 32 rfl) ?_
          refine lv_topi (fun x_1008 ex_1008 => ?_)
          have gx_1008 : gi x_1008 1 24 := gi_add ex_1008 gv2 (gi_c 1 1 (by decide)) (by decide)
          refine lv_iload_n hx hb (dk_at dkX9_countBefore 33 rfl) rfl (lv_at hl 3 rfl) ?_
          have hPc := hP.sub (ws' := [(fr, .inr (3, [.int frmonths, .int frfull, .int frlean, .ref fral, .ref fron])), (fral, .inl (kfral, 25, .inl ffral))]) [2, 3] rfl
          have hKc := hK.sub (tys' := [(kfral, .int)]) [1] rfl
          refine va_calli (va_runV (As := [.int x_1008, .int v3]) (rest := []) ⟨hx, hb, hml, hown, hts⟩ (sX3_allows l dC dI fr fral frmonths frfull frlean fron kfral ffral x_1008 v3 gfrmonths gfrfull gfrlean (gi_w gx_1008 (by decide))) (cwV 2 hts (gz_gV mGA_573 mGA_574 mGA_575 mGA_18 mGA_576 goodGA) rfl rfl rfl (by decide +kernel) ⟨Nat.le_trans (Nat.le_of_ble_eq_true rfl) hRf, Nat.le_trans (Nat.le_of_ble_eq_true rfl) hRl⟩) ⟨bl_I (bl_a bl_P (bl_a bl_K bl_nz)), va_recv hKc hPc (ci := 3) (q0 := 0) rfl rfl, fun U hU hW => ⟨rfl, by rw [hU]; exact hPc, va_K.moved hW.alike hKc, nzA_warm hW hz⟩⟩ rfl rfl hl.1 rfl (lv_room (Nat.le_of_ble_eq_true rfl)) (dk_at dkX9_countBefore 34 rfl) ⟨hRc, hRs⟩) hS (fun q _ h => h.elim) (fun q h => h.elim) (fun r_1009 u t H1 locs ht hvm hw hB hz1 hk1 hS => ?_)
          have hP := gz_keep hP hk1
          generalize H1 = H at hP hS ⊢
          have gr_1009 : gi r_1009 0 1 := hw
          refine lv_if_eq (tgt := 60) hx hb (dk_at dkX9_countBefore 35 rfl) (by decide) (fun c_1010 => ?_) (fun c_1010 => ?_)
          · have g_1011 : gi r_1009 0 0 := gi_eq c_1010 (gi_c 0 0 (by decide))
            obtain ⟨x_1012, ex_1012⟩ : ∃ y : Int32, y = v3 + 1 := ⟨_, rfl⟩
            have gx_1012 : gi x_1012 1 24 := gi_add ex_1012 g_990 (gi_c 1 1 (by decide)) (by decide)
            refine lv_iinc (v := x_1012) (lv' := [(3, .int x_1012), (0, .ref h0), (1, .ref fr), (2, .int v2)]) hx hb (dk_at dkX9_countBefore 40 rfl) hl (k := 3) rfl (by rw [ex_1012]; rfl) (by decide) rfl (fun ls hl => ?_)
            refine lv_goto (tgt := 19) hx hb (dk_at dkX9_countBefore 41 rfl) (by decide) ?_
            exact ih.2 v2 x_1012 f_1007 _ _ _ gv2 (gi_w gx_1012 (by decide)) (by have av2 := gv2.1; have bv2 := gv2.2; have av3 := gv3.1; have bv3 := gv3.2; have qgx_1012 := gx_1012.1; have rgx_1012 := gx_1012.2; have igx_1012 : x_1012.toInt = v3.toInt + 1 := (by have hc1 : (1 : Int32).toInt = 1 := (by decide); have h9 := gi_addI ex_1012 (by have h1 := g_990.1; have h2 := (gi_c 1 1 (by decide)).1; have h3 := g_990.2; have h4 := (gi_c 1 1 (by decide)).2; omega) (by have h1 := g_990.1; have h2 := (gi_c 1 1 (by decide)).1; have h3 := g_990.2; have h4 := (gi_c 1 1 (by decide)).2; omega); rw [hc1] at h9; exact h9); have qgv3 := g_990.1; have rgv3 := g_990.2; have qgv2 := gv2.1; have rgv2 := gv2.2; omega) hP hD hS (lv_sub hl [1, 2, 3, 0] rfl)
          · have g_1013 : gi r_1009 1 1 := gi_ne_lo c_1010 gr_1009 (gi_c 0 0 (by decide)) (by decide)
            refine lv_aload_n hx hb (dk_at dkX9_countBefore 36 rfl) rfl (lv_at hl 0 rfl) ?_
            refine lv_iload_n hx hb (dk_at dkX9_countBefore 37 rfl) rfl (lv_at hl 2 rfl) ?_
            refine lv_iload_n hx hb (dk_at dkX9_countBefore 38 rfl) rfl (lv_at hl 3 rfl) ?_
            obtain ⟨hPc, hDc, hFc⟩ := gz_cut (wc := [(h0, .inr (9, [.ref bf, .ref bh, .ref sa, .int months, .int full, .int lean])), (bf, .inl (kbf, 3575, .inl f_1007))]) hP hD hS hA [0, 1] (by decide) rfl
            have hKc := hK.sub (tys' := [(kbf, .int)]) [0] rfl
            refine va_callv (va_runV (As := [.int v2, .int v3]) (rest := []) ⟨hx, hb, hml, hown, hts⟩ (sX9_takeOnWithLean l dC dI H.size h0 bf bh sa months full lean kbf f_1007 v2 v3 gmonths gfull glean gv2 g_990) (cwV 2 hts (gz_gV mGA_586 mGA_587 mGA_588 mGA_27 mGA_589 goodGA) rfl rfl rfl (by decide +kernel) ⟨Nat.le_trans (Nat.le_of_ble_eq_true rfl) hRf, Nat.le_trans (Nat.le_of_ble_eq_true rfl) hRl⟩) ⟨bl_I (bl_a bl_sz (bl_a bl_P (bl_a bl_K (bl_a bl_c bl_nz)))), va_recv hKc hPc (ci := 9) (q0 := 0) rfl rfl, fun U hU hW => ⟨rfl, by rw [hU], by rw [hU]; exact hPc, va_K.moved hW.alike hKc, hDc.weaken (fun _ _ _ _ => trivial), nzA_warm hW hz⟩⟩ rfl rfl hl.1 rfl (lv_room (Nat.le_of_ble_eq_true rfl)) (dk_at dkX9_countBefore 39 rfl) ⟨hRc, hRs⟩) hS (fun q _ h => hFc q h) hFc (fun u t H1 locs ht hvm hw hB hz1 hk1 hS => ?_)
            obtain ⟨f_1015, hB⟩ := hB
            obtain ⟨hP1, hD1⟩ := hB
            rw [ht] at hP1
            obtain ⟨hP, hD⟩ := gz_back hP hD hk1 hFc hP1 hD1 [0, 1] rfl rfl
            obtain ⟨hP, hD⟩ := gz_both (w := [(h0, .inr (9, [.ref bf, .ref bh, .ref sa, .int months, .int full, .int lean])), (bf, .inl (kbf, 3575, .inl f_1015)), (fr, .inr (3, [.int frmonths, .int frfull, .int frlean, .ref fral, .ref fron])), (fral, .inl (kfral, 25, .inl ffral))]) hP hD
            generalize H1 = H at hP hS ⊢
            obtain ⟨x_1016, ex_1016⟩ : ∃ y : Int32, y = v3 + 1 := ⟨_, rfl⟩
            have gx_1016 : gi x_1016 1 24 := gi_add ex_1016 g_990 (gi_c 1 1 (by decide)) (by decide)
            refine lv_iinc (v := x_1016) (lv' := [(3, .int x_1016), (0, .ref h0), (1, .ref fr), (2, .int v2)]) hx hb (dk_at dkX9_countBefore 40 rfl) hl (k := 3) rfl (by rw [ex_1016]; rfl) (by decide) rfl (fun ls hl => ?_)
            refine lv_goto (tgt := 19) hx hb (dk_at dkX9_countBefore 41 rfl) (by decide) ?_
            exact ih.2 v2 x_1016 f_1015 _ _ _ gv2 (gi_w gx_1016 (by decide)) (by have av2 := gv2.1; have bv2 := gv2.2; have av3 := gv3.1; have bv3 := gv3.2; have qgx_1016 := gx_1016.1; have rgx_1016 := gx_1016.2; have igx_1016 : x_1016.toInt = v3.toInt + 1 := (by have hc1 : (1 : Int32).toInt = 1 := (by decide); have h9 := gi_addI ex_1016 (by have h1 := g_990.1; have h2 := (gi_c 1 1 (by decide)).1; have h3 := g_990.2; have h4 := (gi_c 1 1 (by decide)).2; omega) (by have h1 := g_990.1; have h2 := (gi_c 1 1 (by decide)).1; have h3 := g_990.2; have h4 := (gi_c 1 1 (by decide)).2; omega); rw [hc1] at h9; exact h9); have qgv3 := g_990.1; have rgv3 := g_990.2; have qgv2 := gv2.1; have rgv2 := gv2.2; omega) hP hD hS (lv_sub hl [1, 2, 3, 0] rfl)
abbrev pb_sX9_countBefore (dC : Nat → ClassId) (dI : Nat → Nat → Nat) (A9 : Nat → Prop) (h0 : Nat) (bf : Nat) (fr : Nat) (fral : Nat) (bh : Nat) (sa : Nat) (months : Int32) (full : Int32) (lean : Int32) (kbf : ClassId) (fbf : Nat → Int32) (frmonths : Int32) (frfull : Int32) (frlean : Int32) (fron : Nat) (kfral : ClassId) (ffral : Nat → Int32) (z1 : Nat → Int32) (t : State) : Prop := va_P (dC, dI) vwCl [(h0, .inr (9, [.ref bf, .ref bh, .ref sa, .int months, .int full, .int lean])), (bf, .inl (kbf, 3575, .inl z1)), (fr, .inr (3, [.int frmonths, .int frfull, .int frlean, .ref fral, .ref fron])), (fral, .inl (kfral, 25, .inl ffral))] t.heap ∧ va_D A9 [(h0, .inr (9, [.ref bf, .ref bh, .ref sa, .int months, .int full, .int lean])), (bf, .inl (kbf, 3575, .inl z1)), (fr, .inr (3, [.int frmonths, .int frfull, .int frlean, .ref fral, .ref fron])), (fral, .inl (kfral, 25, .inl ffral))]
set_option maxHeartbeats 4000000 in
set_option maxRecDepth 100000 in
theorem sX9_countBefore (l : Launch) (dC : Nat → ClassId) (dI : Nat → Nat → Nat) (sz : Nat) (h0 : Nat) (bf : Nat) (fr : Nat) (fral : Nat) (bh : Nat) (sa : Nat) (months : Int32) (full : Int32) (lean : Int32) (kbf : ClassId) (fbf : Nat → Int32) (frmonths : Int32) (frfull : Int32) (frlean : Int32) (fron : Nat) (kfral : ClassId) (ffral : Nat → Int32) (gmonths : gi months 0 24) (gfull : gi full 0 5) (glean : gi lean 0 5) (gfrmonths : gi frmonths 0 24) (gfrfull : gi frfull 0 5) (gfrlean : gi frlean 0 5) : Met l yX9_countBefore (.code yX9_countBefore cX9_countBefore 4 none :: wsGA) ({ frames := 3, cells := 0, slots := 0, locals := 69 }) (va_Pc [.ref h0, .ref fr] (fun U => U.heap.size = sz ∧ va_P (dC, dI) vwCl [(h0, .inr (9, [.ref bf, .ref bh, .ref sa, .int months, .int full, .int lean])), (bf, .inl (kbf, 3575, .inl fbf)), (fr, .inr (3, [.int frmonths, .int frfull, .int frlean, .ref fral, .ref fron])), (fral, .inl (kfral, 25, .inl ffral))] U.heap ∧ va_K (dC, dI) vwCl [(kbf, .int), (kfral, .int)] U ∧ va_D (fun _ => True) [(h0, .inr (9, [.ref bf, .ref bh, .ref sa, .int months, .int full, .int lean])), (bf, .inl (kbf, 3575, .inl fbf)), (fr, .inr (3, [.int frmonths, .int frfull, .int frlean, .ref fral, .ref fron])), (fral, .inl (kfral, 25, .inl ffral))] ∧ nzA U)) (va_Qv (fun (u : Unit) => True) (fun _ t => ∃ (z1 : Nat → Int32), pb_sX9_countBefore dC dI (va_A [(h0, .inr (9, [.ref bf, .ref bh, .ref sa, .int months, .int full, .int lean])), (bf, .inl (kbf, 3575, .inl fbf)), (fr, .inr (3, [.int frmonths, .int frfull, .int frlean, .ref fral, .ref fron])), (fral, .inl (kfral, 25, .inl ffral))] sz) h0 bf fr fral bh sa months full lean kbf fbf frmonths frfull frlean fron kfral ffral z1 t) (va_A [(h0, .inr (9, [.ref bf, .ref bh, .ref sa, .int months, .int full, .int lean])), (bf, .inl (kbf, 3575, .inl fbf)), (fr, .inr (3, [.int frmonths, .int frfull, .int frlean, .ref fral, .ref fron])), (fral, .inl (kfral, 25, .inl ffral))] sz)) 0 0 (va_A [(h0, .inr (9, [.ref bf, .ref bh, .ref sa, .int months, .int full, .int lean])), (bf, .inl (kbf, 3575, .inl fbf)), (fr, .inr (3, [.int frmonths, .int frfull, .int frlean, .ref fral, .ref fron])), (fral, .inl (kfral, 25, .inl ffral))] sz) := by
  refine Met.ofW (cc := cX9_countBefore) (maxL := 4) (ret := none) (by decide) rfl ?_
  intro p e s m args below meth c s₁ B hml hv
  obtain ⟨rfl, hsz, hP, hK, hD0, hz⟩ := hv
  have hx := B.exec
  have hb := B.bytes
  have hr := B.returns
  have hts := atoms_spec (ws := (.code yX9_countBefore cX9_countBefore 4 none :: wsGA)) B.pre
  have hown : s.vm.findClass RX9 = some m.cls := findClass_of_methodNamed B.named
  have hlocks := B.notSynchronized
  subst hsz
  have hD := hD0.self (sz := s.heap.size)
  generalize hAe : va_A [(h0, .inr (9, [.ref bf, .ref bh, .ref sa, .int months, .int full, .int lean])), (bf, .inl (kbf, 3575, .inl fbf)), (fr, .inr (3, [.int frmonths, .int frfull, .int frlean, .ref fral, .ref fron])), (fral, .inl (kfral, 25, .inl ffral))] s.heap.size = A at hD ⊢
  have hA : ∀ q : Nat, s.heap.size ≤ q → A q := fun q h => by rw [← hAe]; exact Or.inr h
  have hS : va_S A s.heap s.heap [] := va_S.rf
  have hl := lv_entry ([.ref h0, .ref fr]) (n := 4) (Nat.le_of_ble_eq_true rfl)
  rw [lg_entry_eq]
  generalize (lg_sl ([.ref h0, .ref fr]) ++ List.replicate (4 - (lg_sl ([.ref h0, .ref fr])).length) Slot.unset).toArray = ls at hl ⊢
  have hl : lv_has ls 4 [(0, .ref h0), (1, .ref fr)] := hl
  refine lv_aload_n hx hb (dk_at dkX9_countBefore 0 rfl) rfl (lv_at hl 0 rfl) ?_
  refine va_get (D := (dC, dI)) (ci := 9) (v := .ref bf) (C := RX9) (T := TX9) (N := 6) hx hb hts (fun w h => List.mem_cons_of_mem _ (jnGA_X9 w h)) hown hK hP 0 rfl rfl 0 (by decide) (hts _ (List.mem_cons_of_mem _ mGA_111)) (fun _ h9 => h9) rfl (dk_at dkX9_countBefore 1 rfl) ?_
  refine lv_iconst (v := 0) hx hb (dk_at dkX9_countBefore 2 rfl) (by decide) ?_
  refine lv_iconst (v := 1) hx hb (dk_at dkX9_countBefore 3 rfl) (by decide) ?_
  refine va_iast hx hb hK hP hD hS 1 0 rfl rfl (gi_in (gi_c 0 0 (by decide)) (by decide)) (dk_at dkX9_countBefore 4 rfl) (fun H locs hP hD hS => ?_)
  obtain ⟨hP, hD⟩ := gz_both (w := [(h0, .inr (9, [.ref bf, .ref bh, .ref sa, .int months, .int full, .int lean])), (bf, .inl (kbf, 3575, .inl (upd fbf (0 : Int32).toNatClampNeg 1))), (fr, .inr (3, [.int frmonths, .int frfull, .int frlean, .ref fral, .ref fron])), (fral, .inl (kfral, 25, .inl ffral))]) hP hD
  generalize upd fbf (0 : Int32).toNatClampNeg 1 = f_1017 at hP hD
  refine lv_iconst (v := 0) hx hb (dk_at dkX9_countBefore 5 rfl) (by decide) ?_
  refine lv_istore_n (lv' := [(2, .int 0), (0, .ref h0), (1, .ref fr)]) hx hb (dk_at dkX9_countBefore 6 rfl) rfl hl (by decide) rfl (fun ls hl => ?_)
  refine (lp_sX9_countBefore h0 bf fr fral bh sa months full lean kbf fbf frmonths frfull frlean fron kfral ffral gmonths gfull glean gfrmonths gfrfull gfrlean hx hb hml hown hts hK hz hA (Nat.le_of_ble_eq_true rfl) (Nat.le_of_ble_eq_true rfl) (Nat.zero_le _) (Nat.zero_le _) (fun z1 H locs ls hP hD hS hl => ?_) 1414).1 0 f_1017 _ _ _ (gi_w (gi_c 0 0 (by decide)) (by decide)) (by have k0 : (0 : Int32).toInt = 0 := (by decide); omega) hP hD hS (lv_sub hl [1, 2, 0] rfl)
  · skip
    exact W.vret hx hb hr (fun t ht hW => ⟨⟨(), rfl, trivial, z1, by rw [ht]; exact hP, hD⟩, hS.F ht⟩) hS.2.2 (dk_at dkX9_countBefore 44 rfl)
noncomputable def lsX9_countStarts : List (Nat × Instr × Nat) := [(0, .iconst 0, 1), (1, .istore_n 1, 1), (2, .iload_n 1, 1), (3, .aload_n 0, 1), (4, .getfield 27, 3), (7, .if_icmp .gt 97, 3), (10, .iconst 0, 1), (11, .istore_n 2, 1), (12, .iload_n 2, 1), (13, .iload_n 1, 1), (14, .if_icmp .gt 84, 3), (17, .iload_n 1, 1), (18, .iload_n 2, 1), (19, .iconst 0, 1), (20, .invokestatic 63, 3), (23, .istore_n 3, 1), (24, .iconst 0, 1), (25, .istore 4, 2), (27, .iload_n 1, 1), (28, .invokestatic 67, 3), (31, .istore 5, 2), (33, .iload 5, 2), (35, .iload_n 1, 1), (36, .aload_n 0, 1), (37, .getfield 31, 3), (40, .aload_n 0, 1), (41, .getfield 35, 3), (44, .invokestatic 71, 3), (47, .if_icmp .gt 33, 3), (50, .iload 4, 2), (52, .aload_n 0, 1), (53, .getfield 9, 3), (56, .iload_n 3, 1), (57, .iload 5, 2), (59, .iadd, 1), (60, .iaload, 1), (61, .aload_n 0, 1), (62, .getfield 15, 3), (65, .iload_n 3, 1), (66, .iload 5, 2), (68, .iadd, 1), (69, .iaload, 1), (70, .imul, 1), (71, .iadd, 1), (72, .istore 4, 2), (74, .iinc 5 1, 3), (77, .goto (-44), 3), (80, .aload_n 0, 1), (81, .getfield 18, 3), (84, .iload_n 1, 1), (85, .iload_n 2, 1), (86, .invokestatic 92, 3), (89, .iload 4, 2), (91, .iastore, 1), (92, .iinc 2 1, 3), (95, .goto (-83), 3), (98, .iinc 1 1, 3), (101, .goto (-99), 3), (104, .return_, 1)]
theorem dkX9_countStarts : dkAll cX9_countStarts lsX9_countStarts = true := by decide +kernel
set_option maxHeartbeats 4000000 in
set_option maxRecDepth 100000 in
theorem lp_sX9_countStarts {p : Program} {l : Launch} {e : Env} {R : Room} {s : State} {m : MethodId} {args : Array Value} {below : List Frame} {meth : Method} {c : Code} {Q : State → Prop} {A : Nat → Prop} {cells slots : Nat} {dC : Nat → ClassId} {dI : Nat → Nat → Nat} (h0 : Nat) (bf : Nat) (bh : Nat) (sa : Nat) (months : Int32) (full : Int32) (lean : Int32) (kbf : ClassId) (fbf : Nat → Int32) (kbh : ClassId) (fbh : Nat → Int32) (ksa : ClassId) (fsa : Nat → Int32) (gmonths : gi months 0 24) (gfull : gi full 0 5) (glean : gi lean 0 5) (hx : p.tables.exec = Jvm.exec) (hb : c.code = cX9_countStarts) (hml : c.maxLocals = 6) (hown : s.vm.findClass RX9 = some m.cls) (hts : ∀ w ∈ ((.code yX9_countStarts cX9_countStarts 6 none :: wsGA) : List Cond), w.before args s = true) (hK : va_K (dC, dI) vwCl [(kbf, .int), (kbh, .int), (ksa, .int)] s) (hz : nzA s) (hA : ∀ q : Nat, s.heap.size ≤ q → A q) (hRf : 2 ≤ R.frames) (hRl : 43 ≤ R.locals) (hRc : cells ≤ R.cells) (hRs : slots ≤ R.slots) (kr104 : ∀ (z3 : Nat → Int32) (H : Heap) (locs : List Loc) (ls : Array Slot), va_P (dC, dI) vwCl [(h0, .inr (9, [.ref bf, .ref bh, .ref sa, .int months, .int full, .int lean])), (bf, .inl (kbf, 3575, .inl fbf)), (bh, .inl (kbh, 3575, .inl fbh)), (sa, .inl (ksa, 325, .inl z3))] H → va_D A [(h0, .inr (9, [.ref bf, .ref bh, .ref sa, .int months, .int full, .int lean])), (bf, .inl (kbf, 3575, .inl fbf)), (bh, .inl (kbh, 3575, .inl fbh)), (sa, .inl (ksa, 325, .inl z3))] → va_S A s.heap H locs → lv_has ls 6 [] → W p l e R s m args below meth c H locs cells slots Q (F0 m 104 ls [])) : ∀ z : Nat, (∀ (v1 : Int32) (z3 : Nat → Int32) (H : Heap) (locs : List Loc) (ls : Array Slot), gi v1 0 25 → 18951 + (-758) * v1.toInt < (z : Int) → va_P (dC, dI) vwCl [(h0, .inr (9, [.ref bf, .ref bh, .ref sa, .int months, .int full, .int lean])), (bf, .inl (kbf, 3575, .inl fbf)), (bh, .inl (kbh, 3575, .inl fbh)), (sa, .inl (ksa, 325, .inl z3))] H → va_D A [(h0, .inr (9, [.ref bf, .ref bh, .ref sa, .int months, .int full, .int lean])), (bf, .inl (kbf, 3575, .inl fbf)), (bh, .inl (kbh, 3575, .inl fbh)), (sa, .inl (ksa, 325, .inl z3))] → va_S A s.heap H locs → lv_has ls 6 [(0, .ref h0), (1, .int v1)] → W p l e R s m args below meth c H locs cells slots Q (F0 m 2 ls [])) ∧ (∀ (v1 : Int32) (v2 : Int32) (z3 : Nat → Int32) (H : Heap) (locs : List Loc) (ls : Array Slot), gi v1 0 24 → gi v2 0 25 → 18894 + (-758) * v1.toInt + (-28) * v2.toInt < (z : Int) → va_P (dC, dI) vwCl [(h0, .inr (9, [.ref bf, .ref bh, .ref sa, .int months, .int full, .int lean])), (bf, .inl (kbf, 3575, .inl fbf)), (bh, .inl (kbh, 3575, .inl fbh)), (sa, .inl (ksa, 325, .inl z3))] H → va_D A [(h0, .inr (9, [.ref bf, .ref bh, .ref sa, .int months, .int full, .int lean])), (bf, .inl (kbf, 3575, .inl fbf)), (bh, .inl (kbh, 3575, .inl fbh)), (sa, .inl (ksa, 325, .inl z3))] → va_S A s.heap H locs → lv_has ls 6 [(0, .ref h0), (1, .int v1), (2, .int v2)] → W p l e R s m args below meth c H locs cells slots Q (F0 m 12 ls [])) ∧ (∀ (v1 : Int32) (v2 : Int32) (v3 : Int32) (v4 : Int32) (v5 : Int32) (z3 : Nat → Int32) (H : Heap) (locs : List Loc) (ls : Array Slot), gi v1 0 24 → gi v2 0 24 → gi v3 0 3564 → gi v5 0 11 → 18889 + (-758) * v1.toInt + (-28) * v2.toInt + (-2) * v5.toInt < (z : Int) → va_P (dC, dI) vwCl [(h0, .inr (9, [.ref bf, .ref bh, .ref sa, .int months, .int full, .int lean])), (bf, .inl (kbf, 3575, .inl fbf)), (bh, .inl (kbh, 3575, .inl fbh)), (sa, .inl (ksa, 325, .inl z3))] H → va_D A [(h0, .inr (9, [.ref bf, .ref bh, .ref sa, .int months, .int full, .int lean])), (bf, .inl (kbf, 3575, .inl fbf)), (bh, .inl (kbh, 3575, .inl fbh)), (sa, .inl (ksa, 325, .inl z3))] → va_S A s.heap H locs → lv_has ls 6 [(0, .ref h0), (1, .int v1), (2, .int v2), (3, .int v3), (4, .int v4), (5, .int v5)] → W p l e R s m args below meth c H locs cells slots Q (F0 m 33 ls [])) := by
  intro z
  induction z with
  | zero =>
    refine ⟨?_, ?_, ?_⟩
    · intro v1 z3 H locs ls gv1 hmu hP hD hS hl
      exact absurd hmu (by have hv11 := gv1.1; have hv12 := gv1.2; omega)
    · intro v1 v2 z3 H locs ls gv1 gv2 hmu hP hD hS hl
      exact absurd hmu (by have hv11 := gv1.1; have hv12 := gv1.2; have hv21 := gv2.1; have hv22 := gv2.2; omega)
    · intro v1 v2 v3 v4 v5 z3 H locs ls gv1 gv2 gv3 gv5 hmu hP hD hS hl
      exact absurd hmu (by have hv11 := gv1.1; have hv12 := gv1.2; have hv21 := gv2.1; have hv22 := gv2.2; have hv51 := gv5.1; have hv52 := gv5.2; omega)
  | succ z ih =>
    refine ⟨?_, ?_, ?_⟩
    · intro v1 z3 H locs ls gv1 hmu hP hD hS hl
      refine lv_iload_n hx hb (dk_at dkX9_countStarts 2 rfl) rfl (lv_at hl 1 rfl) ?_
      refine lv_aload_n hx hb (dk_at dkX9_countStarts 3 rfl) rfl (lv_at hl 0 rfl) ?_
      refine va_get (D := (dC, dI)) (ci := 9) (v := .int months) (C := RX9) (T := TX9) (N := 6) hx hb hts (fun w h => List.mem_cons_of_mem _ (jnGA_X9 w h)) hown hK hP 0 rfl rfl 3 (by decide) (hts _ (List.mem_cons_of_mem _ mGA_560)) (fun _ h9 => h9) rfl (dk_at dkX9_countStarts 4 rfl) ?_
      refine lv_icmp_gt (tgt := 104) hx hb (dk_at dkX9_countStarts 5 rfl) (by decide) (fun c_707 => ?_) (fun c_707 => ?_)
      · have g_708 : gi v1 1 25 := gi_lt_r c_707 gmonths gv1 (by decide)
        exact kr104 z3 _ _ _ hP hD hS (lv_sub hl [] rfl)
      · have g_709 : gi v1 0 24 := gi_le_l (Int32.not_lt.mp c_707) gv1 gmonths
        refine lv_iconst (v := 0) hx hb (dk_at dkX9_countStarts 6 rfl) (by decide) ?_
        refine lv_istore_n (lv' := [(2, .int 0), (0, .ref h0), (1, .int v1)]) hx hb (dk_at dkX9_countStarts 7 rfl) rfl hl (by decide) rfl (fun ls hl => ?_)
        exact ih.2.1 v1 0 z3 _ _ _ g_709 (gi_w (gi_c 0 0 (by decide)) (by decide)) (by have k0 : (0 : Int32).toInt = 0 := (by decide); have av1 := gv1.1; have bv1 := gv1.2; have qgv1 := g_709.1; have rgv1 := g_709.2; omega) hP hD hS (lv_sub hl [1, 2, 0] rfl)
    · intro v1 v2 z3 H locs ls gv1 gv2 hmu hP hD hS hl
      refine lv_iload_n hx hb (dk_at dkX9_countStarts 8 rfl) rfl (lv_at hl 2 rfl) ?_
      refine lv_iload_n hx hb (dk_at dkX9_countStarts 9 rfl) rfl (lv_at hl 1 rfl) ?_
      refine lv_icmp_gt (tgt := 98) hx hb (dk_at dkX9_countStarts 10 rfl) (by decide) (fun c_710 => ?_) (fun c_710 => ?_)
      · have g_711 : gi v2 1 25 := gi_lt_r c_710 gv1 gv2 (by decide)
        obtain ⟨x_712, ex_712⟩ : ∃ y : Int32, y = v1 + 1 := ⟨_, rfl⟩
        have gx_712 : gi x_712 1 25 := gi_add ex_712 gv1 (gi_c 1 1 (by decide)) (by decide)
        refine lv_iinc (v := x_712) (lv' := [(1, .int x_712), (0, .ref h0), (2, .int v2)]) hx hb (dk_at dkX9_countStarts 56 rfl) hl (k := 1) rfl (by rw [ex_712]; rfl) (by decide) rfl (fun ls hl => ?_)
        refine lv_goto (tgt := 2) hx hb (dk_at dkX9_countStarts 57 rfl) (by decide) ?_
        exact ih.1 x_712 z3 _ _ _ (gi_w gx_712 (by decide)) (by have av1 := gv1.1; have bv1 := gv1.2; have av2 := gv2.1; have bv2 := gv2.2; have qgx_712 := gx_712.1; have rgx_712 := gx_712.2; have igx_712 : x_712.toInt = v1.toInt + 1 := (by have hc1 : (1 : Int32).toInt = 1 := (by decide); have h9 := gi_addI ex_712 (by have h1 := gv1.1; have h2 := (gi_c 1 1 (by decide)).1; have h3 := gv1.2; have h4 := (gi_c 1 1 (by decide)).2; omega) (by have h1 := gv1.1; have h2 := (gi_c 1 1 (by decide)).1; have h3 := gv1.2; have h4 := (gi_c 1 1 (by decide)).2; omega); rw [hc1] at h9; exact h9); have qgv1 := gv1.1; have rgv1 := gv1.2; omega) hP hD hS (lv_sub hl [1, 0] rfl)
      · have g_713 : gi v2 0 24 := gi_le_l (Int32.not_lt.mp c_710) gv2 gv1
        refine lv_iload_n hx hb (dk_at dkX9_countStarts 11 rfl) rfl (lv_at hl 1 rfl) ?_
        refine lv_iload_n hx hb (dk_at dkX9_countStarts 12 rfl) rfl (lv_at hl 2 rfl) ?_
        refine lv_iconst (v := 0) hx hb (dk_at dkX9_countStarts 13 rfl) (by decide) ?_
        have hPc := hP.sub (ws' := []) [] rfl
        have hKc := hK.sub (tys' := []) [] rfl
        refine va_calli (va_runSN (As := [.int v1, .int v2, .int 0]) (rest := []) ⟨hx, hb, hml, hown, hts⟩ (sX11_spot0 l dC dI v1 v2 0 gv1 g_713 (gi_c 0 0 (by decide))) (⟨va_cnB 3 hts (gz_gP mGA_582 goodGA) rfl rfl rfl (nzA_X9_63 hz) (hts _ (List.mem_cons_of_mem _ mGA_1)) (by decide +kernel) ⟨Nat.le_trans (Nat.le_of_ble_eq_true rfl) hRf, Nat.le_trans (Nat.le_of_ble_eq_true rfl) hRl⟩, (hts _ (List.mem_cons_of_mem _ mGA_581)), trivial⟩) ⟨bl_I (bl_a bl_P (bl_a bl_K bl_nz)), fun U hU hW => ⟨rfl, by rw [hU]; exact hPc, va_K.moved hW.alike hKc, nzA_warm hW hz⟩⟩ rfl rfl hl.1 rfl (lv_room (Nat.le_of_ble_eq_true rfl)) (dk_at dkX9_countStarts 14 rfl) ⟨hRc, hRs⟩) hS (fun q _ h => h.elim) (fun q h => h.elim) (fun r_714 u t H1 locs ht hvm hw hB hz1 hk1 hS => ?_)
        have hP := gz_keep hP hk1
        generalize H1 = H at hP hS ⊢
        have gr_714 : gi r_714 0 3564 := hw
        refine lv_istore_n (lv' := [(3, .int r_714), (0, .ref h0), (1, .int v1), (2, .int v2)]) hx hb (dk_at dkX9_countStarts 15 rfl) rfl hl (by decide) rfl (fun ls hl => ?_)
        refine lv_iconst (v := 0) hx hb (dk_at dkX9_countStarts 16 rfl) (by decide) ?_
        refine lv_istore (lv' := [(4, .int 0), (3, .int r_714), (0, .ref h0), (1, .int v1), (2, .int v2)]) hx hb (dk_at dkX9_countStarts 17 rfl) hl (by decide) rfl (fun ls hl => ?_)
        refine lv_iload_n hx hb (dk_at dkX9_countStarts 18 rfl) rfl (lv_at hl 3 rfl) ?_
        have hPc := hP.sub (ws' := []) [] rfl
        have hKc := hK.sub (tys' := []) [] rfl
        refine va_calli (va_runSN (As := [.int v1]) (rest := []) ⟨hx, hb, hml, hown, hts⟩ (sX11_firstRun l dC dI v1 gv1) (⟨va_cnB 1 hts (gz_gP mGA_504 goodGA) rfl rfl rfl (nzA_X9_67 hz) (hts _ (List.mem_cons_of_mem _ mGA_1)) (by decide +kernel) ⟨Nat.le_trans (Nat.le_of_ble_eq_true rfl) hRf, Nat.le_trans (Nat.le_of_ble_eq_true rfl) hRl⟩, (hts _ (List.mem_cons_of_mem _ mGA_503)), trivial⟩) ⟨bl_I (bl_a bl_P (bl_a bl_K bl_nz)), fun U hU hW => ⟨rfl, by rw [hU]; exact hPc, va_K.moved hW.alike hKc, nzA_warm hW hz⟩⟩ rfl rfl hl.1 rfl (lv_room (Nat.le_of_ble_eq_true rfl)) (dk_at dkX9_countStarts 19 rfl) ⟨hRc, hRs⟩) hS (fun q _ h => h.elim) (fun q h => h.elim) (fun r_715 u t H1 locs ht hvm hw hB hz1 hk1 hS => ?_)
        have hP := gz_keep hP hk1
        generalize H1 = H at hP hS ⊢
        have gr_715 : gi r_715 0 1 := hw
        refine lv_istore (lv' := [(5, .int r_715), (4, .int 0), (3, .int r_714), (0, .ref h0), (1, .int v1), (2, .int v2)]) hx hb (dk_at dkX9_countStarts 20 rfl) hl (by decide) rfl (fun ls hl => ?_)
        exact ih.2.2 v1 v2 r_714 0 r_715 z3 _ _ _ gv1 g_713 gr_714 (gi_w gr_715 (by decide)) (by have av1 := gv1.1; have bv1 := gv1.2; have av2 := gv2.1; have bv2 := gv2.2; have qgv2 := g_713.1; have rgv2 := g_713.2; have qgv1 := gv1.1; have rgv1 := gv1.2; have qgr_715 := gr_715.1; have rgr_715 := gr_715.2; omega) hP hD hS (lv_sub hl [3, 4, 5, 2, 1, 0] rfl)
    · intro v1 v2 v3 v4 v5 z3 H locs ls gv1 gv2 gv3 gv5 hmu hP hD hS hl
      refine lv_iload hx hb (dk_at dkX9_countStarts 21 rfl) (lv_at hl 5 rfl) ?_
      refine lv_iload_n hx hb (dk_at dkX9_countStarts 22 rfl) rfl (lv_at hl 1 rfl) ?_
      refine lv_aload_n hx hb (dk_at dkX9_countStarts 23 rfl) rfl (lv_at hl 0 rfl) ?_
      refine va_get (D := (dC, dI)) (ci := 9) (v := .int full) (C := RX9) (T := TX9) (N := 6) hx hb hts (fun w h => List.mem_cons_of_mem _ (jnGA_X9 w h)) hown hK hP 0 rfl rfl 4 (by decide) (hts _ (List.mem_cons_of_mem _ mGA_562)) (fun _ h9 => h9) rfl (dk_at dkX9_countStarts 24 rfl) ?_
      refine lv_aload_n hx hb (dk_at dkX9_countStarts 25 rfl) rfl (lv_at hl 0 rfl) ?_
      refine va_get (D := (dC, dI)) (ci := 9) (v := .int lean) (C := RX9) (T := TX9) (N := 6) hx hb hts (fun w h => List.mem_cons_of_mem _ (jnGA_X9 w h)) hown hK hP 0 rfl rfl 5 (by decide) (hts _ (List.mem_cons_of_mem _ mGA_564)) (fun _ h9 => h9) rfl (dk_at dkX9_countStarts 26 rfl) ?_
      have hPc := hP.sub (ws' := []) [] rfl
      have hKc := hK.sub (tys' := []) [] rfl
      refine va_calli (va_runSN (As := [.int v1, .int full, .int lean]) (rest := [.int v5]) ⟨hx, hb, hml, hown, hts⟩ (sX11_lastRun l dC dI v1 full lean gv1 gfull glean) (⟨va_cnB 3 hts (gz_gP mGA_506 goodGA) rfl rfl rfl (nzA_X9_71 hz) (hts _ (List.mem_cons_of_mem _ mGA_1)) (by decide +kernel) ⟨Nat.le_trans (Nat.le_of_ble_eq_true rfl) hRf, Nat.le_trans (Nat.le_of_ble_eq_true rfl) hRl⟩, (hts _ (List.mem_cons_of_mem _ mGA_505)), trivial⟩) ⟨bl_I (bl_a bl_P (bl_a bl_K bl_nz)), fun U hU hW => ⟨rfl, by rw [hU]; exact hPc, va_K.moved hW.alike hKc, nzA_warm hW hz⟩⟩ rfl rfl hl.1 rfl (lv_room (Nat.le_of_ble_eq_true rfl)) (dk_at dkX9_countStarts 27 rfl) ⟨hRc, hRs⟩) hS (fun q _ h => h.elim) (fun q h => h.elim) (fun r_716 u t H1 locs ht hvm hw hB hz1 hk1 hS => ?_)
      have hP := gz_keep hP hk1
      generalize H1 = H at hP hS ⊢
      have gr_716 : gi r_716 0 10 := hw
      refine lv_icmp_gt (tgt := 80) hx hb (dk_at dkX9_countStarts 28 rfl) (by decide) (fun c_717 => ?_) (fun c_717 => ?_)
      · have g_718 : gi v5 1 11 := gi_lt_r c_717 gr_716 gv5 (by decide)
        refine lv_aload_n hx hb (dk_at dkX9_countStarts 47 rfl) rfl (lv_at hl 0 rfl) ?_
        refine va_get (D := (dC, dI)) (ci := 9) (v := .ref sa) (C := RX9) (T := TX9) (N := 6) hx hb hts (fun w h => List.mem_cons_of_mem _ (jnGA_X9 w h)) hown hK hP 0 rfl rfl 2 (by decide) (hts _ (List.mem_cons_of_mem _ mGA_113)) (fun _ h9 => h9) rfl (dk_at dkX9_countStarts 48 rfl) ?_
        refine lv_iload_n hx hb (dk_at dkX9_countStarts 49 rfl) rfl (lv_at hl 1 rfl) ?_
        refine lv_iload_n hx hb (dk_at dkX9_countStarts 50 rfl) rfl (lv_at hl 2 rfl) ?_
        have hPc := hP.sub (ws' := []) [] rfl
        have hKc := hK.sub (tys' := []) [] rfl
        refine va_calli (va_runSN (As := [.int v1, .int v2]) (rest := [.ref sa]) ⟨hx, hb, hml, hown, hts⟩ (sX11_cell l dC dI v1 v2 gv1 gv2) (⟨va_cnB 2 hts (gz_gP mGA_585 goodGA) rfl rfl rfl (nzA_X9_92 hz) (hts _ (List.mem_cons_of_mem _ mGA_1)) (by decide +kernel) ⟨Nat.le_trans (Nat.le_of_ble_eq_true rfl) hRf, Nat.le_trans (Nat.le_of_ble_eq_true rfl) hRl⟩, (hts _ (List.mem_cons_of_mem _ mGA_584)), trivial⟩) ⟨bl_I (bl_a bl_P (bl_a bl_K bl_nz)), fun U hU hW => ⟨rfl, by rw [hU]; exact hPc, va_K.moved hW.alike hKc, nzA_warm hW hz⟩⟩ rfl rfl hl.1 rfl (lv_room (Nat.le_of_ble_eq_true rfl)) (dk_at dkX9_countStarts 51 rfl) ⟨hRc, hRs⟩) hS (fun q _ h => h.elim) (fun q h => h.elim) (fun r_719 u t H1 locs ht hvm hw hB hz1 hk1 hS => ?_)
        have hP := gz_keep hP hk1
        generalize H1 = H at hP hS ⊢
        have gr_719 : gi r_719 0 324 := hw
        refine lv_iload hx hb (dk_at dkX9_countStarts 52 rfl) (lv_at hl 4 rfl) ?_
        refine va_iast hx hb hK hP hD hS 3 2 rfl rfl (gi_in gr_719 (by decide)) (dk_at dkX9_countStarts 53 rfl) (fun H locs hP hD hS => ?_)
        obtain ⟨hP, hD⟩ := gz_both (w := [(h0, .inr (9, [.ref bf, .ref bh, .ref sa, .int months, .int full, .int lean])), (bf, .inl (kbf, 3575, .inl fbf)), (bh, .inl (kbh, 3575, .inl fbh)), (sa, .inl (ksa, 325, .inl (upd z3 (r_719 : Int32).toNatClampNeg v4)))]) hP hD
        generalize upd z3 (r_719 : Int32).toNatClampNeg v4 = f_720 at hP hD
        obtain ⟨x_721, ex_721⟩ : ∃ y : Int32, y = v2 + 1 := ⟨_, rfl⟩
        have gx_721 : gi x_721 1 25 := gi_add ex_721 gv2 (gi_c 1 1 (by decide)) (by decide)
        refine lv_iinc (v := x_721) (lv' := [(2, .int x_721), (0, .ref h0), (1, .int v1), (3, .int v3), (4, .int v4), (5, .int v5)]) hx hb (dk_at dkX9_countStarts 54 rfl) hl (k := 2) rfl (by rw [ex_721]; rfl) (by decide) rfl (fun ls hl => ?_)
        refine lv_goto (tgt := 12) hx hb (dk_at dkX9_countStarts 55 rfl) (by decide) ?_
        exact ih.2.1 v1 x_721 f_720 _ _ _ gv1 (gi_w gx_721 (by decide)) (by have av1 := gv1.1; have bv1 := gv1.2; have av2 := gv2.1; have bv2 := gv2.2; have av5 := gv5.1; have bv5 := gv5.2; have qgx_721 := gx_721.1; have rgx_721 := gx_721.2; have igx_721 : x_721.toInt = v2.toInt + 1 := (by have hc1 : (1 : Int32).toInt = 1 := (by decide); have h9 := gi_addI ex_721 (by have h1 := gv2.1; have h2 := (gi_c 1 1 (by decide)).1; have h3 := gv2.2; have h4 := (gi_c 1 1 (by decide)).2; omega) (by have h1 := gv2.1; have h2 := (gi_c 1 1 (by decide)).1; have h3 := gv2.2; have h4 := (gi_c 1 1 (by decide)).2; omega); rw [hc1] at h9; exact h9); have qgv2 := gv2.1; have rgv2 := gv2.2; have qgv1 := gv1.1; have rgv1 := gv1.2; omega) hP hD hS (lv_sub hl [1, 2, 0] rfl)
      · have g_722 : gi v5 0 10 := gi_le_l (Int32.not_lt.mp c_717) gv5 gr_716
        refine lv_iload hx hb (dk_at dkX9_countStarts 29 rfl) (lv_at hl 4 rfl) ?_
        refine lv_aload_n hx hb (dk_at dkX9_countStarts 30 rfl) rfl (lv_at hl 0 rfl) ?_
        refine va_get (D := (dC, dI)) (ci := 9) (v := .ref bf) (C := RX9) (T := TX9) (N := 6) hx hb hts (fun w h => List.mem_cons_of_mem _ (jnGA_X9 w h)) hown hK hP 0 rfl rfl 0 (by decide) (hts _ (List.mem_cons_of_mem _ mGA_111)) (fun _ h9 => h9) rfl (dk_at dkX9_countStarts 31 rfl) ?_
        refine lv_iload_n hx hb (dk_at dkX9_countStarts 32 rfl) rfl (lv_at hl 3 rfl) ?_
        refine lv_iload hx hb (dk_at dkX9_countStarts 33 rfl) (lv_at hl 5 rfl) ?_
        refine lv_iadd hx hb (dk_at dkX9_countStarts 34 rfl) ?_
        refine lv_topi (fun x_723 ex_723 => ?_)
        have gx_723 : gi x_723 0 3574 := gi_add ex_723 gv3 g_722 (by decide)
        refine va_iald hx hb hK hP 1 0 rfl rfl (gi_in gx_723 (by decide)) (dk_at dkX9_countStarts 35 rfl) ?_
        refine lv_topi (fun x_724 ex_724 => ?_)
        refine lv_aload_n hx hb (dk_at dkX9_countStarts 36 rfl) rfl (lv_at hl 0 rfl) ?_
        refine va_get (D := (dC, dI)) (ci := 9) (v := .ref bh) (C := RX9) (T := TX9) (N := 6) hx hb hts (fun w h => List.mem_cons_of_mem _ (jnGA_X9 w h)) hown hK hP 0 rfl rfl 1 (by decide) (hts _ (List.mem_cons_of_mem _ mGA_112)) (fun _ h9 => h9) rfl (dk_at dkX9_countStarts 37 rfl) ?_
        refine lv_iload_n hx hb (dk_at dkX9_countStarts 38 rfl) rfl (lv_at hl 3 rfl) ?_
        refine lv_iload hx hb (dk_at dkX9_countStarts 39 rfl) (lv_at hl 5 rfl) ?_
        refine lv_iadd hx hb (dk_at dkX9_countStarts 40 rfl) ?_
        refine lv_topi (fun x_725 ex_725 => ?_)
        have gx_725 : gi x_725 0 3574 := gi_add ex_725 gv3 g_722 (by decide)
        refine va_iald hx hb hK hP 2 1 rfl rfl (gi_in gx_725 (by decide)) (dk_at dkX9_countStarts 41 rfl) ?_
        refine lv_topi (fun x_726 ex_726 => ?_)
        refine lv_imul hx hb (dk_at dkX9_countStarts 42 rfl) ?_
        refine lv_topi (fun x_727 ex_727 => ?_)
        refine lv_iadd hx hb (dk_at dkX9_countStarts 43 rfl) ?_
        refine lv_topi (fun x_728 ex_728 => ?_)
        refine lv_istore (lv' := [(4, .int x_728), (0, .ref h0), (1, .int v1), (2, .int v2), (3, .int v3), (5, .int v5)]) hx hb (dk_at dkX9_countStarts 44 rfl) hl (by decide) rfl (fun ls hl => ?_)
        obtain ⟨x_729, ex_729⟩ : ∃ y : Int32, y = v5 + 1 := ⟨_, rfl⟩
        have gx_729 : gi x_729 1 11 := gi_add ex_729 g_722 (gi_c 1 1 (by decide)) (by decide)
        refine lv_iinc (v := x_729) (lv' := [(5, .int x_729), (4, .int x_728), (0, .ref h0), (1, .int v1), (2, .int v2), (3, .int v3)]) hx hb (dk_at dkX9_countStarts 45 rfl) hl (k := 5) rfl (by rw [ex_729]; rfl) (by decide) rfl (fun ls hl => ?_)
        refine lv_goto (tgt := 33) hx hb (dk_at dkX9_countStarts 46 rfl) (by decide) ?_
        exact ih.2.2 v1 v2 v3 x_728 x_729 z3 _ _ _ gv1 gv2 gv3 (gi_w gx_729 (by decide)) (by have av1 := gv1.1; have bv1 := gv1.2; have av2 := gv2.1; have bv2 := gv2.2; have av5 := gv5.1; have bv5 := gv5.2; have qgx_729 := gx_729.1; have rgx_729 := gx_729.2; have igx_729 : x_729.toInt = v5.toInt + 1 := (by have hc1 : (1 : Int32).toInt = 1 := (by decide); have h9 := gi_addI ex_729 (by have h1 := g_722.1; have h2 := (gi_c 1 1 (by decide)).1; have h3 := g_722.2; have h4 := (gi_c 1 1 (by decide)).2; omega) (by have h1 := g_722.1; have h2 := (gi_c 1 1 (by decide)).1; have h3 := g_722.2; have h4 := (gi_c 1 1 (by decide)).2; omega); rw [hc1] at h9; exact h9); have qgv5 := g_722.1; have rgv5 := g_722.2; have qgv2 := gv2.1; have rgv2 := gv2.2; have qgv1 := gv1.1; have rgv1 := gv1.2; omega) hP hD hS (lv_sub hl [2, 3, 4, 5, 1, 0] rfl)
abbrev pb_sX9_countStarts (dC : Nat → ClassId) (dI : Nat → Nat → Nat) (A9 : Nat → Prop) (h0 : Nat) (bf : Nat) (bh : Nat) (sa : Nat) (months : Int32) (full : Int32) (lean : Int32) (kbf : ClassId) (fbf : Nat → Int32) (kbh : ClassId) (fbh : Nat → Int32) (ksa : ClassId) (fsa : Nat → Int32) (z3 : Nat → Int32) (t : State) : Prop := va_P (dC, dI) vwCl [(h0, .inr (9, [.ref bf, .ref bh, .ref sa, .int months, .int full, .int lean])), (bf, .inl (kbf, 3575, .inl fbf)), (bh, .inl (kbh, 3575, .inl fbh)), (sa, .inl (ksa, 325, .inl z3))] t.heap ∧ va_D A9 [(h0, .inr (9, [.ref bf, .ref bh, .ref sa, .int months, .int full, .int lean])), (bf, .inl (kbf, 3575, .inl fbf)), (bh, .inl (kbh, 3575, .inl fbh)), (sa, .inl (ksa, 325, .inl z3))]
set_option maxHeartbeats 4000000 in
set_option maxRecDepth 100000 in
theorem sX9_countStarts (l : Launch) (dC : Nat → ClassId) (dI : Nat → Nat → Nat) (sz : Nat) (h0 : Nat) (bf : Nat) (bh : Nat) (sa : Nat) (months : Int32) (full : Int32) (lean : Int32) (kbf : ClassId) (fbf : Nat → Int32) (kbh : ClassId) (fbh : Nat → Int32) (ksa : ClassId) (fsa : Nat → Int32) (gmonths : gi months 0 24) (gfull : gi full 0 5) (glean : gi lean 0 5) : Met l yX9_countStarts (.code yX9_countStarts cX9_countStarts 6 none :: wsGA) ({ frames := 2, cells := 0, slots := 0, locals := 43 }) (va_Pc [.ref h0] (fun U => U.heap.size = sz ∧ va_P (dC, dI) vwCl [(h0, .inr (9, [.ref bf, .ref bh, .ref sa, .int months, .int full, .int lean])), (bf, .inl (kbf, 3575, .inl fbf)), (bh, .inl (kbh, 3575, .inl fbh)), (sa, .inl (ksa, 325, .inl fsa))] U.heap ∧ va_K (dC, dI) vwCl [(kbf, .int), (kbh, .int), (ksa, .int)] U ∧ va_D (fun _ => True) [(h0, .inr (9, [.ref bf, .ref bh, .ref sa, .int months, .int full, .int lean])), (bf, .inl (kbf, 3575, .inl fbf)), (bh, .inl (kbh, 3575, .inl fbh)), (sa, .inl (ksa, 325, .inl fsa))] ∧ nzA U)) (va_Qv (fun (u : Unit) => True) (fun _ t => ∃ (z3 : Nat → Int32), pb_sX9_countStarts dC dI (va_A [(h0, .inr (9, [.ref bf, .ref bh, .ref sa, .int months, .int full, .int lean])), (bf, .inl (kbf, 3575, .inl fbf)), (bh, .inl (kbh, 3575, .inl fbh)), (sa, .inl (ksa, 325, .inl fsa))] sz) h0 bf bh sa months full lean kbf fbf kbh fbh ksa fsa z3 t) (va_A [(h0, .inr (9, [.ref bf, .ref bh, .ref sa, .int months, .int full, .int lean])), (bf, .inl (kbf, 3575, .inl fbf)), (bh, .inl (kbh, 3575, .inl fbh)), (sa, .inl (ksa, 325, .inl fsa))] sz)) 0 0 (va_A [(h0, .inr (9, [.ref bf, .ref bh, .ref sa, .int months, .int full, .int lean])), (bf, .inl (kbf, 3575, .inl fbf)), (bh, .inl (kbh, 3575, .inl fbh)), (sa, .inl (ksa, 325, .inl fsa))] sz) := by
  refine Met.ofW (cc := cX9_countStarts) (maxL := 6) (ret := none) (by decide) rfl ?_
  intro p e s m args below meth c s₁ B hml hv
  obtain ⟨rfl, hsz, hP, hK, hD0, hz⟩ := hv
  have hx := B.exec
  have hb := B.bytes
  have hr := B.returns
  have hts := atoms_spec (ws := (.code yX9_countStarts cX9_countStarts 6 none :: wsGA)) B.pre
  have hown : s.vm.findClass RX9 = some m.cls := findClass_of_methodNamed B.named
  have hlocks := B.notSynchronized
  subst hsz
  have hD := hD0.self (sz := s.heap.size)
  generalize hAe : va_A [(h0, .inr (9, [.ref bf, .ref bh, .ref sa, .int months, .int full, .int lean])), (bf, .inl (kbf, 3575, .inl fbf)), (bh, .inl (kbh, 3575, .inl fbh)), (sa, .inl (ksa, 325, .inl fsa))] s.heap.size = A at hD ⊢
  have hA : ∀ q : Nat, s.heap.size ≤ q → A q := fun q h => by rw [← hAe]; exact Or.inr h
  have hS : va_S A s.heap s.heap [] := va_S.rf
  have hl := lv_entry ([.ref h0]) (n := 6) (Nat.le_of_ble_eq_true rfl)
  rw [lg_entry_eq]
  generalize (lg_sl ([.ref h0]) ++ List.replicate (6 - (lg_sl ([.ref h0])).length) Slot.unset).toArray = ls at hl ⊢
  have hl : lv_has ls 6 [(0, .ref h0)] := hl
  refine lv_iconst (v := 0) hx hb (dk_at dkX9_countStarts 0 rfl) (by decide) ?_
  refine lv_istore_n (lv' := [(1, .int 0), (0, .ref h0)]) hx hb (dk_at dkX9_countStarts 1 rfl) rfl hl (by decide) rfl (fun ls hl => ?_)
  refine (lp_sX9_countStarts h0 bf bh sa months full lean kbf fbf kbh fbh ksa fsa gmonths gfull glean hx hb hml hown hts hK hz hA (Nat.le_of_ble_eq_true rfl) (Nat.le_of_ble_eq_true rfl) (Nat.zero_le _) (Nat.zero_le _) (fun z3 H locs ls hP hD hS hl => ?_) 20476).1 0 fsa _ _ _ (gi_w (gi_c 0 0 (by decide)) (by decide)) (by have k0 : (0 : Int32).toInt = 0 := (by decide); omega) hP hD hS (lv_sub hl [1, 0] rfl)
  · skip
    exact W.vret hx hb hr (fun t ht hW => ⟨⟨(), rfl, trivial, z3, by rw [ht]; exact hP, hD⟩, hS.F ht⟩) hS.2.2 (dk_at dkX9_countStarts 58 rfl)
noncomputable def lsX9_countBehind : List (Nat × Instr × Nat) := [(0, .aload_n 0, 1), (1, .getfield 27, 3), (4, .iconst 0, 1), (5, .iconst 0, 1), (6, .invokestatic 63, 3), (9, .istore_n 1, 1), (10, .iload_n 1, 1), (11, .istore_n 2, 1), (12, .iload_n 2, 1), (13, .iload_n 1, 1), (14, .aload_n 0, 1), (15, .getfield 27, 3), (18, .iconst 1, 1), (19, .iadd, 1), (20, .bipush 11, 2), (22, .imul, 1), (23, .iadd, 1), (24, .if_icmp .ge 25, 3), (27, .aload_n 0, 1), (28, .getfield 15, 3), (31, .iload_n 2, 1), (32, .aload_n 0, 1), (33, .getfield 9, 3), (36, .iload_n 2, 1), (37, .iaload, 1), (38, .iconst 1, 1), (39, .invokestatic 81, 3), (42, .iastore, 1), (43, .iinc 2 1, 3), (46, .goto (-34), 3), (49, .aload_n 0, 1), (50, .getfield 27, 3), (53, .iconst 1, 1), (54, .isub, 1), (55, .istore_n 2, 1), (56, .iload_n 2, 1), (57, .ifCond .lt 99, 3), (60, .iconst 0, 1), (61, .istore_n 3, 1), (62, .iload_n 3, 1), (63, .iload_n 2, 1), (64, .if_icmp .gt 86, 3), (67, .iload_n 2, 1), (68, .iload_n 3, 1), (69, .iconst 0, 1), (70, .invokestatic 63, 3), (73, .istore 4, 2), (75, .iload_n 2, 1), (76, .invokestatic 67, 3), (79, .istore 5, 2), (81, .iload 5, 2), (83, .iload_n 2, 1), (84, .aload_n 0, 1), (85, .getfield 31, 3), (88, .aload_n 0, 1), (89, .getfield 35, 3), (92, .invokestatic 71, 3), (95, .if_icmp .gt 49, 3), (98, .aload_n 0, 1), (99, .getfield 9, 3), (102, .iload 4, 2), (104, .iload 5, 2), (106, .iadd, 1), (107, .iaload, 1), (108, .ifCond .le 30, 3), (111, .aload_n 0, 1), (112, .getfield 15, 3), (115, .iload 4, 2), (117, .iload 5, 2), (119, .iadd, 1), (120, .aload_n 0, 1), (121, .iload_n 2, 1), (122, .iload_n 3, 1), (123, .iload 5, 2), (125, .invokevirtual 86, 3), (128, .aload_n 0, 1), (129, .iload_n 2, 1), (130, .iload_n 3, 1), (131, .iload 5, 2), (133, .invokevirtual 89, 3), (136, .iadd, 1), (137, .iastore, 1), (138, .iinc 5 1, 3), (141, .goto (-60), 3), (144, .iinc 3 1, 3), (147, .goto (-85), 3), (150, .iinc 2 (-1), 3), (153, .goto (-97), 3), (156, .return_, 1)]
theorem dkX9_countBehind : dkAll cX9_countBehind lsX9_countBehind = true := by decide +kernel
set_option maxHeartbeats 4000000 in
set_option maxRecDepth 100000 in
theorem lp_sX9_countBehind {p : Program} {l : Launch} {e : Env} {R : Room} {s : State} {m : MethodId} {args : Array Value} {below : List Frame} {meth : Method} {c : Code} {Q : State → Prop} {A : Nat → Prop} {cells slots : Nat} {dC : Nat → ClassId} {dI : Nat → Nat → Nat} (h0 : Nat) (bf : Nat) (bh : Nat) (sa : Nat) (months : Int32) (full : Int32) (lean : Int32) (kbf : ClassId) (fbf : Nat → Int32) (kbh : ClassId) (fbh : Nat → Int32) (gmonths : gi months 0 24) (gfull : gi full 0 5) (glean : gi lean 0 5) (hx : p.tables.exec = Jvm.exec) (hb : c.code = cX9_countBehind) (hml : c.maxLocals = 6) (hown : s.vm.findClass RX9 = some m.cls) (hts : ∀ w ∈ ((.code yX9_countBehind cX9_countBehind 6 none :: wsGA) : List Cond), w.before args s = true) (hK : va_K (dC, dI) vwCl [(kbf, .int), (kbh, .int)] s) (hz : nzA s) (hA : ∀ q : Nat, s.heap.size ≤ q → A q) (hRf : 3 ≤ R.frames) (hRl : 66 ≤ R.locals) (hRc : cells ≤ R.cells) (hRs : slots ≤ R.slots) (kr156 : ∀ (z2 : Nat → Int32) (H : Heap) (locs : List Loc) (ls : Array Slot), va_P (dC, dI) vwCl [(h0, .inr (9, [.ref bf, .ref bh, .ref sa, .int months, .int full, .int lean])), (bf, .inl (kbf, 3575, .inl fbf)), (bh, .inl (kbh, 3575, .inl z2))] H → va_D A [(h0, .inr (9, [.ref bf, .ref bh, .ref sa, .int months, .int full, .int lean])), (bf, .inl (kbf, 3575, .inl fbf)), (bh, .inl (kbh, 3575, .inl z2))] → va_S A s.heap H locs → lv_has ls 6 [] → W p l e R s m args below meth c H locs cells slots Q (F0 m 156 ls [])) : ∀ z : Nat, (∀ (v1 : Int32) (v2 : Int32) (z2 : Nat → Int32) (H : Heap) (locs : List Loc) (ls : Array Slot), gi v1 0 3300 → gi v2 0 3575 → 26131 + (-2) * v2.toInt < (z : Int) → va_P (dC, dI) vwCl [(h0, .inr (9, [.ref bf, .ref bh, .ref sa, .int months, .int full, .int lean])), (bf, .inl (kbf, 3575, .inl fbf)), (bh, .inl (kbh, 3575, .inl z2))] H → va_D A [(h0, .inr (9, [.ref bf, .ref bh, .ref sa, .int months, .int full, .int lean])), (bf, .inl (kbf, 3575, .inl fbf)), (bh, .inl (kbh, 3575, .inl z2))] → va_S A s.heap H locs → lv_has ls 6 [(0, .ref h0), (1, .int v1), (2, .int v2)] → W p l e R s m args below meth c H locs cells slots Q (F0 m 12 ls [])) ∧ (∀ (v1 : Int32) (v2 : Int32) (z2 : Nat → Int32) (H : Heap) (locs : List Loc) (ls : Array Slot), gi v1 0 3300 → gi v2 (-1) 23 → 731 + 730 * v2.toInt < (z : Int) → va_P (dC, dI) vwCl [(h0, .inr (9, [.ref bf, .ref bh, .ref sa, .int months, .int full, .int lean])), (bf, .inl (kbf, 3575, .inl fbf)), (bh, .inl (kbh, 3575, .inl z2))] H → va_D A [(h0, .inr (9, [.ref bf, .ref bh, .ref sa, .int months, .int full, .int lean])), (bf, .inl (kbf, 3575, .inl fbf)), (bh, .inl (kbh, 3575, .inl z2))] → va_S A s.heap H locs → lv_has ls 6 [(0, .ref h0), (1, .int v1), (2, .int v2)] → W p l e R s m args below meth c H locs cells slots Q (F0 m 56 ls [])) ∧ (∀ (v1 : Int32) (v2 : Int32) (v3 : Int32) (z2 : Nat → Int32) (H : Heap) (locs : List Loc) (ls : Array Slot), gi v1 0 3300 → gi v2 0 23 → gi v3 0 24 → 674 + 730 * v2.toInt + (-28) * v3.toInt < (z : Int) → va_P (dC, dI) vwCl [(h0, .inr (9, [.ref bf, .ref bh, .ref sa, .int months, .int full, .int lean])), (bf, .inl (kbf, 3575, .inl fbf)), (bh, .inl (kbh, 3575, .inl z2))] H → va_D A [(h0, .inr (9, [.ref bf, .ref bh, .ref sa, .int months, .int full, .int lean])), (bf, .inl (kbf, 3575, .inl fbf)), (bh, .inl (kbh, 3575, .inl z2))] → va_S A s.heap H locs → lv_has ls 6 [(0, .ref h0), (1, .int v1), (2, .int v2), (3, .int v3)] → W p l e R s m args below meth c H locs cells slots Q (F0 m 62 ls [])) ∧ (∀ (v1 : Int32) (v2 : Int32) (v3 : Int32) (v4 : Int32) (v5 : Int32) (z2 : Nat → Int32) (H : Heap) (locs : List Loc) (ls : Array Slot), gi v1 0 3300 → gi v2 0 23 → gi v3 0 23 → gi v4 0 3564 → gi v5 0 11 → 669 + 730 * v2.toInt + (-28) * v3.toInt + (-2) * v5.toInt < (z : Int) → va_P (dC, dI) vwCl [(h0, .inr (9, [.ref bf, .ref bh, .ref sa, .int months, .int full, .int lean])), (bf, .inl (kbf, 3575, .inl fbf)), (bh, .inl (kbh, 3575, .inl z2))] H → va_D A [(h0, .inr (9, [.ref bf, .ref bh, .ref sa, .int months, .int full, .int lean])), (bf, .inl (kbf, 3575, .inl fbf)), (bh, .inl (kbh, 3575, .inl z2))] → va_S A s.heap H locs → lv_has ls 6 [(0, .ref h0), (1, .int v1), (2, .int v2), (3, .int v3), (4, .int v4), (5, .int v5)] → W p l e R s m args below meth c H locs cells slots Q (F0 m 81 ls [])) := by
  intro z
  induction z with
  | zero =>
    refine ⟨?_, ?_, ?_, ?_⟩
    · intro v1 v2 z2 H locs ls gv1 gv2 hmu hP hD hS hl
      exact absurd hmu (by have hv21 := gv2.1; have hv22 := gv2.2; omega)
    · intro v1 v2 z2 H locs ls gv1 gv2 hmu hP hD hS hl
      exact absurd hmu (by have hv21 := gv2.1; have hv22 := gv2.2; omega)
    · intro v1 v2 v3 z2 H locs ls gv1 gv2 gv3 hmu hP hD hS hl
      exact absurd hmu (by have hv21 := gv2.1; have hv22 := gv2.2; have hv31 := gv3.1; have hv32 := gv3.2; omega)
    · intro v1 v2 v3 v4 v5 z2 H locs ls gv1 gv2 gv3 gv4 gv5 hmu hP hD hS hl
      exact absurd hmu (by have hv21 := gv2.1; have hv22 := gv2.2; have hv31 := gv3.1; have hv32 := gv3.2; have hv51 := gv5.1; have hv52 := gv5.2; omega)
  | succ z ih =>
    refine ⟨?_, ?_, ?_, ?_⟩
    · intro v1 v2 z2 H locs ls gv1 gv2 hmu hP hD hS hl
      refine lv_iload_n hx hb (dk_at dkX9_countBehind 8 rfl) rfl (lv_at hl 2 rfl) ?_
      refine lv_iload_n hx hb (dk_at dkX9_countBehind 9 rfl) rfl (lv_at hl 1 rfl) ?_
      refine lv_aload_n hx hb (dk_at dkX9_countBehind 10 rfl) rfl (lv_at hl 0 rfl) ?_
      refine va_get (D := (dC, dI)) (ci := 9) (v := .int months) (C := RX9) (T := TX9) (N := 6) hx hb hts (fun w h => List.mem_cons_of_mem _ (jnGA_X9 w h)) hown hK hP 0 rfl rfl 3 (by decide) (hts _ (List.mem_cons_of_mem _ mGA_560)) (fun _ h9 => h9) rfl (dk_at dkX9_countBehind 11 rfl) ?_
      refine lv_iconst (v := 1) hx hb (dk_at dkX9_countBehind 12 rfl) (by decide) ?_
      refine lv_iadd hx hb (dk_at dkX9_countBehind 13 rfl) ?_
      refine lv_topi (fun x_568 ex_568 => ?_)
      have gx_568 : gi x_568 1 25 := gi_add ex_568 gmonths (gi_c 1 1 (by decide)) (by decide)
      refine lv_bipush (v := 11) hx hb (dk_at dkX9_countBehind 14 rfl) (by decide) ?_
      refine lv_imul hx hb (dk_at dkX9_countBehind 15 rfl) ?_
      refine lv_topi (fun x_569 ex_569 => ?_)
      have gx_569 : gi x_569 11 275 := gi_mul ex_569 gx_568 (gi_c 11 11 (by decide)) (by decide)
      refine lv_iadd hx hb (dk_at dkX9_countBehind 16 rfl) ?_
      refine lv_topi (fun x_570 ex_570 => ?_)
      have gx_570 : gi x_570 11 3575 := gi_add ex_570 gv1 gx_569 (by decide)
      refine lv_icmp_ge (tgt := 49) hx hb (dk_at dkX9_countBehind 17 rfl) (by decide) (fun c_571 => ?_) (fun c_571 => ?_)
      · have g_572 : gi v2 11 3575 := gi_le_r c_571 gx_570 gv2
        refine lv_aload_n hx hb (dk_at dkX9_countBehind 30 rfl) rfl (lv_at hl 0 rfl) ?_
        refine va_get (D := (dC, dI)) (ci := 9) (v := .int months) (C := RX9) (T := TX9) (N := 6) hx hb hts (fun w h => List.mem_cons_of_mem _ (jnGA_X9 w h)) hown hK hP 0 rfl rfl 3 (by decide) (hts _ (List.mem_cons_of_mem _ mGA_560)) (fun _ h9 => h9) rfl (dk_at dkX9_countBehind 31 rfl) ?_
        refine lv_iconst (v := 1) hx hb (dk_at dkX9_countBehind 32 rfl) (by decide) ?_
        refine lv_isub hx hb (dk_at dkX9_countBehind 33 rfl) ?_
        refine lv_topi (fun x_573 ex_573 => ?_)
        have gx_573 : gi x_573 (-1) 23 := gi_sub ex_573 gmonths (gi_c 1 1 (by decide)) (by decide)
        refine lv_istore_n (lv' := [(2, .int x_573), (0, .ref h0), (1, .int v1)]) hx hb (dk_at dkX9_countBehind 34 rfl) rfl hl (by decide) rfl (fun ls hl => ?_)
        exact ih.2.1 v1 x_573 z2 _ _ _ gv1 gx_573 (by have av2 := gv2.1; have bv2 := gv2.2; have qgx_573 := gx_573.1; have rgx_573 := gx_573.2; have igx_573 : x_573.toInt = months.toInt - 1 := (by have hc1 : (1 : Int32).toInt = 1 := (by decide); have h9 := gi_subI ex_573 (by have h1 := gmonths.1; have h2 := (gi_c 1 1 (by decide)).1; have h3 := gmonths.2; have h4 := (gi_c 1 1 (by decide)).2; omega) (by have h1 := gmonths.1; have h2 := (gi_c 1 1 (by decide)).1; have h3 := gmonths.2; have h4 := (gi_c 1 1 (by decide)).2; omega); rw [hc1] at h9; exact h9); have qgmonths := gmonths.1; have rgmonths := gmonths.2; omega) hP hD hS (lv_sub hl [1, 2, 0] rfl)
      · have g_574 : gi v2 0 3574 := gi_lt_l (Int32.not_le.mp c_571) gv2 gx_570 (by decide)
        refine lv_aload_n hx hb (dk_at dkX9_countBehind 18 rfl) rfl (lv_at hl 0 rfl) ?_
        refine va_get (D := (dC, dI)) (ci := 9) (v := .ref bh) (C := RX9) (T := TX9) (N := 6) hx hb hts (fun w h => List.mem_cons_of_mem _ (jnGA_X9 w h)) hown hK hP 0 rfl rfl 1 (by decide) (hts _ (List.mem_cons_of_mem _ mGA_112)) (fun _ h9 => h9) rfl (dk_at dkX9_countBehind 19 rfl) ?_
        refine lv_iload_n hx hb (dk_at dkX9_countBehind 20 rfl) rfl (lv_at hl 2 rfl) ?_
        refine lv_aload_n hx hb (dk_at dkX9_countBehind 21 rfl) rfl (lv_at hl 0 rfl) ?_
        refine va_get (D := (dC, dI)) (ci := 9) (v := .ref bf) (C := RX9) (T := TX9) (N := 6) hx hb hts (fun w h => List.mem_cons_of_mem _ (jnGA_X9 w h)) hown hK hP 0 rfl rfl 0 (by decide) (hts _ (List.mem_cons_of_mem _ mGA_111)) (fun _ h9 => h9) rfl (dk_at dkX9_countBehind 22 rfl) ?_
        refine lv_iload_n hx hb (dk_at dkX9_countBehind 23 rfl) rfl (lv_at hl 2 rfl) ?_
        refine va_iald hx hb hK hP 1 0 rfl rfl (gi_in g_574 (by decide)) (dk_at dkX9_countBehind 24 rfl) ?_
        refine lv_topi (fun x_575 ex_575 => ?_)
        refine lv_iconst (v := 1) hx hb (dk_at dkX9_countBehind 25 rfl) (by decide) ?_
        refine va_mmin (own := RX9) hx hb (by rw [hml]; exact hl.1.symm) hown (hts _ (List.mem_cons_of_mem _ mGA_594)) (hts _ (List.mem_cons_of_mem _ mGA_268)) (hts _ (List.mem_cons_of_mem _ mGA_269)) (hts _ (List.mem_cons_of_mem _ mGA_270)) (Nat.le_trans (Nat.le_of_ble_eq_true rfl) hRf) (Nat.le_trans (Nat.le_of_ble_eq_true rfl) hRl) hRc hRs (dk_at dkX9_countBehind 26 rfl) ?_
        refine lv_topi (fun x_576 ex_576 => ?_)
        have gx_576 : gi x_576 (-2147483648) 1 := gi_min ex_576 (gi_any x_575) (gi_c 1 1 (by decide)) (by decide)
        refine va_iast hx hb hK hP hD hS 2 1 rfl rfl (gi_in g_574 (by decide)) (dk_at dkX9_countBehind 27 rfl) (fun H locs hP hD hS => ?_)
        obtain ⟨hP, hD⟩ := gz_both (w := [(h0, .inr (9, [.ref bf, .ref bh, .ref sa, .int months, .int full, .int lean])), (bf, .inl (kbf, 3575, .inl fbf)), (bh, .inl (kbh, 3575, .inl (upd z2 (v2 : Int32).toNatClampNeg x_576)))]) hP hD
        generalize upd z2 (v2 : Int32).toNatClampNeg x_576 = f_577 at hP hD
        obtain ⟨x_578, ex_578⟩ : ∃ y : Int32, y = v2 + 1 := ⟨_, rfl⟩
        have gx_578 : gi x_578 1 3575 := gi_add ex_578 g_574 (gi_c 1 1 (by decide)) (by decide)
        refine lv_iinc (v := x_578) (lv' := [(2, .int x_578), (0, .ref h0), (1, .int v1)]) hx hb (dk_at dkX9_countBehind 28 rfl) hl (k := 2) rfl (by rw [ex_578]; rfl) (by decide) rfl (fun ls hl => ?_)
        refine lv_goto (tgt := 12) hx hb (dk_at dkX9_countBehind 29 rfl) (by decide) ?_
        exact ih.1 v1 x_578 f_577 _ _ _ gv1 (gi_w gx_578 (by decide)) (by have av2 := gv2.1; have bv2 := gv2.2; have qgx_578 := gx_578.1; have rgx_578 := gx_578.2; have igx_578 : x_578.toInt = v2.toInt + 1 := (by have hc1 : (1 : Int32).toInt = 1 := (by decide); have h9 := gi_addI ex_578 (by have h1 := g_574.1; have h2 := (gi_c 1 1 (by decide)).1; have h3 := g_574.2; have h4 := (gi_c 1 1 (by decide)).2; omega) (by have h1 := g_574.1; have h2 := (gi_c 1 1 (by decide)).1; have h3 := g_574.2; have h4 := (gi_c 1 1 (by decide)).2; omega); rw [hc1] at h9; exact h9); have qgv2 := g_574.1; have rgv2 := g_574.2; omega) hP hD hS (lv_sub hl [1, 2, 0] rfl)
    · intro v1 v2 z2 H locs ls gv1 gv2 hmu hP hD hS hl
      refine lv_iload_n hx hb (dk_at dkX9_countBehind 35 rfl) rfl (lv_at hl 2 rfl) ?_
      refine lv_if_lt (tgt := 156) hx hb (dk_at dkX9_countBehind 36 rfl) (by decide) (fun c_579 => ?_) (fun c_579 => ?_)
      · have g_580 : gi v2 (-1) (-1) := gi_lt_l c_579 gv2 (gi_c 0 0 (by decide)) (by decide)
        exact kr156 z2 _ _ _ hP hD hS (lv_sub hl [] rfl)
      · have g_581 : gi v2 0 23 := gi_le_r (Int32.not_lt.mp c_579) (gi_c 0 0 (by decide)) gv2
        refine lv_iconst (v := 0) hx hb (dk_at dkX9_countBehind 37 rfl) (by decide) ?_
        refine lv_istore_n (lv' := [(3, .int 0), (0, .ref h0), (1, .int v1), (2, .int v2)]) hx hb (dk_at dkX9_countBehind 38 rfl) rfl hl (by decide) rfl (fun ls hl => ?_)
        exact ih.2.2.1 v1 v2 0 z2 _ _ _ gv1 g_581 (gi_w (gi_c 0 0 (by decide)) (by decide)) (by have k0 : (0 : Int32).toInt = 0 := (by decide); have av2 := gv2.1; have bv2 := gv2.2; have qgv2 := g_581.1; have rgv2 := g_581.2; omega) hP hD hS (lv_sub hl [1, 2, 3, 0] rfl)
    · intro v1 v2 v3 z2 H locs ls gv1 gv2 gv3 hmu hP hD hS hl
      refine lv_iload_n hx hb (dk_at dkX9_countBehind 39 rfl) rfl (lv_at hl 3 rfl) ?_
      refine lv_iload_n hx hb (dk_at dkX9_countBehind 40 rfl) rfl (lv_at hl 2 rfl) ?_
      refine lv_icmp_gt (tgt := 150) hx hb (dk_at dkX9_countBehind 41 rfl) (by decide) (fun c_582 => ?_) (fun c_582 => ?_)
      · have g_583 : gi v3 1 24 := gi_lt_r c_582 gv2 gv3 (by decide)
        obtain ⟨x_584, ex_584⟩ : ∃ y : Int32, y = v2 + (-1) := ⟨_, rfl⟩
        have gx_584 : gi x_584 (-1) 22 := gi_add ex_584 gv2 (gi_c (-1) (-1) (by decide)) (by decide)
        refine lv_iinc (v := x_584) (lv' := [(2, .int x_584), (0, .ref h0), (1, .int v1), (3, .int v3)]) hx hb (dk_at dkX9_countBehind 86 rfl) hl (k := 2) rfl (by rw [ex_584]; rfl) (by decide) rfl (fun ls hl => ?_)
        refine lv_goto (tgt := 56) hx hb (dk_at dkX9_countBehind 87 rfl) (by decide) ?_
        exact ih.2.1 v1 x_584 z2 _ _ _ gv1 (gi_w gx_584 (by decide)) (by have av2 := gv2.1; have bv2 := gv2.2; have av3 := gv3.1; have bv3 := gv3.2; have qgx_584 := gx_584.1; have rgx_584 := gx_584.2; have igx_584 : x_584.toInt = v2.toInt + (-1) := (by have hcm1 : ((-1) : Int32).toInt = (-1) := (by decide); have h9 := gi_addI ex_584 (by have h1 := gv2.1; have h2 := (gi_c (-1) (-1) (by decide)).1; have h3 := gv2.2; have h4 := (gi_c (-1) (-1) (by decide)).2; omega) (by have h1 := gv2.1; have h2 := (gi_c (-1) (-1) (by decide)).1; have h3 := gv2.2; have h4 := (gi_c (-1) (-1) (by decide)).2; omega); rw [hcm1] at h9; exact h9); have qgv2 := gv2.1; have rgv2 := gv2.2; omega) hP hD hS (lv_sub hl [1, 2, 0] rfl)
      · have g_585 : gi v3 0 23 := gi_le_l (Int32.not_lt.mp c_582) gv3 gv2
        refine lv_iload_n hx hb (dk_at dkX9_countBehind 42 rfl) rfl (lv_at hl 2 rfl) ?_
        refine lv_iload_n hx hb (dk_at dkX9_countBehind 43 rfl) rfl (lv_at hl 3 rfl) ?_
        refine lv_iconst (v := 0) hx hb (dk_at dkX9_countBehind 44 rfl) (by decide) ?_
        have hPc := hP.sub (ws' := []) [] rfl
        have hKc := hK.sub (tys' := []) [] rfl
        refine va_calli (va_runSN (As := [.int v2, .int v3, .int 0]) (rest := []) ⟨hx, hb, hml, hown, hts⟩ (sX11_spot0 l dC dI v2 v3 0 (gi_w gv2 (by decide)) (gi_w g_585 (by decide)) (gi_c 0 0 (by decide))) (⟨va_cnB 3 hts (gz_gP mGA_582 goodGA) rfl rfl rfl (nzA_X9_63 hz) (hts _ (List.mem_cons_of_mem _ mGA_1)) (by decide +kernel) ⟨Nat.le_trans (Nat.le_of_ble_eq_true rfl) hRf, Nat.le_trans (Nat.le_of_ble_eq_true rfl) hRl⟩, (hts _ (List.mem_cons_of_mem _ mGA_581)), trivial⟩) ⟨bl_I (bl_a bl_P (bl_a bl_K bl_nz)), fun U hU hW => ⟨rfl, by rw [hU]; exact hPc, va_K.moved hW.alike hKc, nzA_warm hW hz⟩⟩ rfl rfl hl.1 rfl (lv_room (Nat.le_of_ble_eq_true rfl)) (dk_at dkX9_countBehind 45 rfl) ⟨hRc, hRs⟩) hS (fun q _ h => h.elim) (fun q h => h.elim) (fun r_586 u t H1 locs ht hvm hw hB hz1 hk1 hS => ?_)
        have hP := gz_keep hP hk1
        generalize H1 = H at hP hS ⊢
        have gr_586 : gi r_586 0 3564 := hw
        refine lv_istore (lv' := [(4, .int r_586), (0, .ref h0), (1, .int v1), (2, .int v2), (3, .int v3)]) hx hb (dk_at dkX9_countBehind 46 rfl) hl (by decide) rfl (fun ls hl => ?_)
        refine lv_iload_n hx hb (dk_at dkX9_countBehind 47 rfl) rfl (lv_at hl 3 rfl) ?_
        have hPc := hP.sub (ws' := []) [] rfl
        have hKc := hK.sub (tys' := []) [] rfl
        refine va_calli (va_runSN (As := [.int v2]) (rest := []) ⟨hx, hb, hml, hown, hts⟩ (sX11_firstRun l dC dI v2 (gi_w gv2 (by decide))) (⟨va_cnB 1 hts (gz_gP mGA_504 goodGA) rfl rfl rfl (nzA_X9_67 hz) (hts _ (List.mem_cons_of_mem _ mGA_1)) (by decide +kernel) ⟨Nat.le_trans (Nat.le_of_ble_eq_true rfl) hRf, Nat.le_trans (Nat.le_of_ble_eq_true rfl) hRl⟩, (hts _ (List.mem_cons_of_mem _ mGA_503)), trivial⟩) ⟨bl_I (bl_a bl_P (bl_a bl_K bl_nz)), fun U hU hW => ⟨rfl, by rw [hU]; exact hPc, va_K.moved hW.alike hKc, nzA_warm hW hz⟩⟩ rfl rfl hl.1 rfl (lv_room (Nat.le_of_ble_eq_true rfl)) (dk_at dkX9_countBehind 48 rfl) ⟨hRc, hRs⟩) hS (fun q _ h => h.elim) (fun q h => h.elim) (fun r_587 u t H1 locs ht hvm hw hB hz1 hk1 hS => ?_)
        have hP := gz_keep hP hk1
        generalize H1 = H at hP hS ⊢
        have gr_587 : gi r_587 0 1 := hw
        refine lv_istore (lv' := [(5, .int r_587), (4, .int r_586), (0, .ref h0), (1, .int v1), (2, .int v2), (3, .int v3)]) hx hb (dk_at dkX9_countBehind 49 rfl) hl (by decide) rfl (fun ls hl => ?_)
        exact ih.2.2.2 v1 v2 v3 r_586 r_587 z2 _ _ _ gv1 gv2 g_585 gr_586 (gi_w gr_587 (by decide)) (by have av2 := gv2.1; have bv2 := gv2.2; have av3 := gv3.1; have bv3 := gv3.2; have qgv3 := g_585.1; have rgv3 := g_585.2; have qgv2 := gv2.1; have rgv2 := gv2.2; have qgr_587 := gr_587.1; have rgr_587 := gr_587.2; omega) hP hD hS (lv_sub hl [2, 3, 4, 5, 1, 0] rfl)
    · intro v1 v2 v3 v4 v5 z2 H locs ls gv1 gv2 gv3 gv4 gv5 hmu hP hD hS hl
      refine lv_iload hx hb (dk_at dkX9_countBehind 50 rfl) (lv_at hl 5 rfl) ?_
      refine lv_iload_n hx hb (dk_at dkX9_countBehind 51 rfl) rfl (lv_at hl 2 rfl) ?_
      refine lv_aload_n hx hb (dk_at dkX9_countBehind 52 rfl) rfl (lv_at hl 0 rfl) ?_
      refine va_get (D := (dC, dI)) (ci := 9) (v := .int full) (C := RX9) (T := TX9) (N := 6) hx hb hts (fun w h => List.mem_cons_of_mem _ (jnGA_X9 w h)) hown hK hP 0 rfl rfl 4 (by decide) (hts _ (List.mem_cons_of_mem _ mGA_562)) (fun _ h9 => h9) rfl (dk_at dkX9_countBehind 53 rfl) ?_
      refine lv_aload_n hx hb (dk_at dkX9_countBehind 54 rfl) rfl (lv_at hl 0 rfl) ?_
      refine va_get (D := (dC, dI)) (ci := 9) (v := .int lean) (C := RX9) (T := TX9) (N := 6) hx hb hts (fun w h => List.mem_cons_of_mem _ (jnGA_X9 w h)) hown hK hP 0 rfl rfl 5 (by decide) (hts _ (List.mem_cons_of_mem _ mGA_564)) (fun _ h9 => h9) rfl (dk_at dkX9_countBehind 55 rfl) ?_
      have hPc := hP.sub (ws' := []) [] rfl
      have hKc := hK.sub (tys' := []) [] rfl
      refine va_calli (va_runSN (As := [.int v2, .int full, .int lean]) (rest := [.int v5]) ⟨hx, hb, hml, hown, hts⟩ (sX11_lastRun l dC dI v2 full lean (gi_w gv2 (by decide)) gfull glean) (⟨va_cnB 3 hts (gz_gP mGA_506 goodGA) rfl rfl rfl (nzA_X9_71 hz) (hts _ (List.mem_cons_of_mem _ mGA_1)) (by decide +kernel) ⟨Nat.le_trans (Nat.le_of_ble_eq_true rfl) hRf, Nat.le_trans (Nat.le_of_ble_eq_true rfl) hRl⟩, (hts _ (List.mem_cons_of_mem _ mGA_505)), trivial⟩) ⟨bl_I (bl_a bl_P (bl_a bl_K bl_nz)), fun U hU hW => ⟨rfl, by rw [hU]; exact hPc, va_K.moved hW.alike hKc, nzA_warm hW hz⟩⟩ rfl rfl hl.1 rfl (lv_room (Nat.le_of_ble_eq_true rfl)) (dk_at dkX9_countBehind 56 rfl) ⟨hRc, hRs⟩) hS (fun q _ h => h.elim) (fun q h => h.elim) (fun r_588 u t H1 locs ht hvm hw hB hz1 hk1 hS => ?_)
      have hP := gz_keep hP hk1
      generalize H1 = H at hP hS ⊢
      have gr_588 : gi r_588 0 10 := hw
      refine lv_icmp_gt (tgt := 144) hx hb (dk_at dkX9_countBehind 57 rfl) (by decide) (fun c_589 => ?_) (fun c_589 => ?_)
      · have g_590 : gi v5 1 11 := gi_lt_r c_589 gr_588 gv5 (by decide)
        obtain ⟨x_591, ex_591⟩ : ∃ y : Int32, y = v3 + 1 := ⟨_, rfl⟩
        have gx_591 : gi x_591 1 24 := gi_add ex_591 gv3 (gi_c 1 1 (by decide)) (by decide)
        refine lv_iinc (v := x_591) (lv' := [(3, .int x_591), (0, .ref h0), (1, .int v1), (2, .int v2), (4, .int v4), (5, .int v5)]) hx hb (dk_at dkX9_countBehind 84 rfl) hl (k := 3) rfl (by rw [ex_591]; rfl) (by decide) rfl (fun ls hl => ?_)
        refine lv_goto (tgt := 62) hx hb (dk_at dkX9_countBehind 85 rfl) (by decide) ?_
        exact ih.2.2.1 v1 v2 x_591 z2 _ _ _ gv1 gv2 (gi_w gx_591 (by decide)) (by have av2 := gv2.1; have bv2 := gv2.2; have av3 := gv3.1; have bv3 := gv3.2; have av5 := gv5.1; have bv5 := gv5.2; have qgx_591 := gx_591.1; have rgx_591 := gx_591.2; have igx_591 : x_591.toInt = v3.toInt + 1 := (by have hc1 : (1 : Int32).toInt = 1 := (by decide); have h9 := gi_addI ex_591 (by have h1 := gv3.1; have h2 := (gi_c 1 1 (by decide)).1; have h3 := gv3.2; have h4 := (gi_c 1 1 (by decide)).2; omega) (by have h1 := gv3.1; have h2 := (gi_c 1 1 (by decide)).1; have h3 := gv3.2; have h4 := (gi_c 1 1 (by decide)).2; omega); rw [hc1] at h9; exact h9); have qgv3 := gv3.1; have rgv3 := gv3.2; have qgv2 := gv2.1; have rgv2 := gv2.2; omega) hP hD hS (lv_sub hl [1, 2, 3, 0] rfl)
      · have g_592 : gi v5 0 10 := gi_le_l (Int32.not_lt.mp c_589) gv5 gr_588
        refine lv_aload_n hx hb (dk_at dkX9_countBehind 58 rfl) rfl (lv_at hl 0 rfl) ?_
        refine va_get (D := (dC, dI)) (ci := 9) (v := .ref bf) (C := RX9) (T := TX9) (N := 6) hx hb hts (fun w h => List.mem_cons_of_mem _ (jnGA_X9 w h)) hown hK hP 0 rfl rfl 0 (by decide) (hts _ (List.mem_cons_of_mem _ mGA_111)) (fun _ h9 => h9) rfl (dk_at dkX9_countBehind 59 rfl) ?_
        refine lv_iload hx hb (dk_at dkX9_countBehind 60 rfl) (lv_at hl 4 rfl) ?_
        refine lv_iload hx hb (dk_at dkX9_countBehind 61 rfl) (lv_at hl 5 rfl) ?_
        refine lv_iadd hx hb (dk_at dkX9_countBehind 62 rfl) ?_
        refine lv_topi (fun x_593 ex_593 => ?_)
        have gx_593 : gi x_593 0 3574 := gi_add ex_593 gv4 g_592 (by decide)
        refine va_iald hx hb hK hP 1 0 rfl rfl (gi_in gx_593 (by decide)) (dk_at dkX9_countBehind 63 rfl) ?_
        refine lv_topi (fun x_594 ex_594 => ?_)
        refine lv_if_le (tgt := 138) hx hb (dk_at dkX9_countBehind 64 rfl) (by decide) (fun c_595 => ?_) (fun c_595 => ?_)
        · have g_596 : gi x_594 (-2147483648) 0 := gi_le_l c_595 (gi_any x_594) (gi_c 0 0 (by decide))
          obtain ⟨x_597, ex_597⟩ : ∃ y : Int32, y = v5 + 1 := ⟨_, rfl⟩
          have gx_597 : gi x_597 1 11 := gi_add ex_597 g_592 (gi_c 1 1 (by decide)) (by decide)
          refine lv_iinc (v := x_597) (lv' := [(5, .int x_597), (0, .ref h0), (1, .int v1), (2, .int v2), (3, .int v3), (4, .int v4)]) hx hb (dk_at dkX9_countBehind 82 rfl) hl (k := 5) rfl (by rw [ex_597]; rfl) (by decide) rfl (fun ls hl => ?_)
          refine lv_goto (tgt := 81) hx hb (dk_at dkX9_countBehind 83 rfl) (by decide) ?_
          exact ih.2.2.2 v1 v2 v3 v4 x_597 z2 _ _ _ gv1 gv2 gv3 gv4 (gi_w gx_597 (by decide)) (by have av2 := gv2.1; have bv2 := gv2.2; have av3 := gv3.1; have bv3 := gv3.2; have av5 := gv5.1; have bv5 := gv5.2; have qgx_597 := gx_597.1; have rgx_597 := gx_597.2; have igx_597 : x_597.toInt = v5.toInt + 1 := (by have hc1 : (1 : Int32).toInt = 1 := (by decide); have h9 := gi_addI ex_597 (by have h1 := g_592.1; have h2 := (gi_c 1 1 (by decide)).1; have h3 := g_592.2; have h4 := (gi_c 1 1 (by decide)).2; omega) (by have h1 := g_592.1; have h2 := (gi_c 1 1 (by decide)).1; have h3 := g_592.2; have h4 := (gi_c 1 1 (by decide)).2; omega); rw [hc1] at h9; exact h9); have qgv5 := g_592.1; have rgv5 := g_592.2; have qgv3 := gv3.1; have rgv3 := gv3.2; have qgv2 := gv2.1; have rgv2 := gv2.2; omega) hP hD hS (lv_sub hl [1, 2, 3, 4, 5, 0] rfl)
        · have g_598 : gi x_594 1 2147483647 := gi_lt_r (Int32.not_le.mp c_595) (gi_c 0 0 (by decide)) (gi_any x_594) (by decide)
          refine lv_aload_n hx hb (dk_at dkX9_countBehind 65 rfl) rfl (lv_at hl 0 rfl) ?_
          refine va_get (D := (dC, dI)) (ci := 9) (v := .ref bh) (C := RX9) (T := TX9) (N := 6) hx hb hts (fun w h => List.mem_cons_of_mem _ (jnGA_X9 w h)) hown hK hP 0 rfl rfl 1 (by decide) (hts _ (List.mem_cons_of_mem _ mGA_112)) (fun _ h9 => h9) rfl (dk_at dkX9_countBehind 66 rfl) ?_
          refine lv_iload hx hb (dk_at dkX9_countBehind 67 rfl) (lv_at hl 4 rfl) ?_
          refine lv_iload hx hb (dk_at dkX9_countBehind 68 rfl) (lv_at hl 5 rfl) ?_
          refine lv_iadd hx hb (dk_at dkX9_countBehind 69 rfl) ?_
          refine lv_topi (fun x_599 ex_599 => ?_)
          have gx_599 : gi x_599 0 3574 := gi_add ex_599 gv4 g_592 (by decide)
          refine lv_aload_n hx hb (dk_at dkX9_countBehind 70 rfl) rfl (lv_at hl 0 rfl) ?_
          refine lv_iload_n hx hb (dk_at dkX9_countBehind 71 rfl) rfl (lv_at hl 2 rfl) ?_
          refine lv_iload_n hx hb (dk_at dkX9_countBehind 72 rfl) rfl (lv_at hl 3 rfl) ?_
          refine lv_iload hx hb (dk_at dkX9_countBehind 73 rfl) (lv_at hl 5 rfl) ?_
          have hPc := hP.sub (ws' := [(h0, .inr (9, [.ref bf, .ref bh, .ref sa, .int months, .int full, .int lean])), (bh, .inl (kbh, 3575, .inl z2))]) [0, 2] rfl
          have hKc := hK.sub (tys' := [(kbh, .int)]) [1] rfl
          refine va_calli (va_runV (As := [.int v2, .int v3, .int v5]) (rest := [.int x_599, .ref bh]) ⟨hx, hb, hml, hown, hts⟩ (sX9_withFull l dC dI h0 bh bf sa months full lean kbh z2 v2 v3 v5 gmonths gfull glean gv2 gv3 g_592) (cwV 3 hts (gz_gV mGA_595 mGA_596 mGA_597 mGA_27 mGA_598 goodGA) rfl rfl rfl (by decide +kernel) ⟨Nat.le_trans (Nat.le_of_ble_eq_true rfl) hRf, Nat.le_trans (Nat.le_of_ble_eq_true rfl) hRl⟩) ⟨bl_I (bl_a bl_P (bl_a bl_K bl_nz)), va_recv hKc hPc (ci := 9) (q0 := 0) rfl rfl, fun U hU hW => ⟨rfl, by rw [hU]; exact hPc, va_K.moved hW.alike hKc, nzA_warm hW hz⟩⟩ rfl rfl hl.1 rfl (lv_room (Nat.le_of_ble_eq_true rfl)) (dk_at dkX9_countBehind 74 rfl) ⟨hRc, hRs⟩) hS (fun q _ h => h.elim) (fun q h => h.elim) (fun r_600 u t H1 locs ht hvm hw hB hz1 hk1 hS => ?_)
          have hP := gz_keep hP hk1
          generalize H1 = H at hP hS ⊢
          refine lv_aload_n hx hb (dk_at dkX9_countBehind 75 rfl) rfl (lv_at hl 0 rfl) ?_
          refine lv_iload_n hx hb (dk_at dkX9_countBehind 76 rfl) rfl (lv_at hl 2 rfl) ?_
          refine lv_iload_n hx hb (dk_at dkX9_countBehind 77 rfl) rfl (lv_at hl 3 rfl) ?_
          refine lv_iload hx hb (dk_at dkX9_countBehind 78 rfl) (lv_at hl 5 rfl) ?_
          have hPc := hP.sub (ws' := [(h0, .inr (9, [.ref bf, .ref bh, .ref sa, .int months, .int full, .int lean])), (bh, .inl (kbh, 3575, .inl z2))]) [0, 2] rfl
          have hKc := hK.sub (tys' := [(kbh, .int)]) [1] rfl
          refine va_calli (va_runV (As := [.int v2, .int v3, .int v5]) (rest := [.int r_600, .int x_599, .ref bh]) ⟨hx, hb, hml, hown, hts⟩ (sX9_withLean l dC dI h0 bh bf sa months full lean kbh z2 v2 v3 v5 gmonths gfull glean gv2 (gi_w gv3 (by decide)) g_592) (cwV 3 hts (gz_gV mGA_599 mGA_600 mGA_601 mGA_27 mGA_602 goodGA) rfl rfl rfl (by decide +kernel) ⟨Nat.le_trans (Nat.le_of_ble_eq_true rfl) hRf, Nat.le_trans (Nat.le_of_ble_eq_true rfl) hRl⟩) ⟨bl_I (bl_a bl_P (bl_a bl_K bl_nz)), va_recv hKc hPc (ci := 9) (q0 := 0) rfl rfl, fun U hU hW => ⟨rfl, by rw [hU]; exact hPc, va_K.moved hW.alike hKc, nzA_warm hW hz⟩⟩ rfl rfl hl.1 rfl (lv_room (Nat.le_of_ble_eq_true rfl)) (dk_at dkX9_countBehind 79 rfl) ⟨hRc, hRs⟩) hS (fun q _ h => h.elim) (fun q h => h.elim) (fun r_601 u t H1 locs ht hvm hw hB hz1 hk1 hS => ?_)
          have hP := gz_keep hP hk1
          generalize H1 = H at hP hS ⊢
          refine lv_iadd hx hb (dk_at dkX9_countBehind 80 rfl) ?_
          refine lv_topi (fun x_602 ex_602 => ?_)
          refine va_iast hx hb hK hP hD hS 2 1 rfl rfl (gi_in gx_599 (by decide)) (dk_at dkX9_countBehind 81 rfl) (fun H locs hP hD hS => ?_)
          obtain ⟨hP, hD⟩ := gz_both (w := [(h0, .inr (9, [.ref bf, .ref bh, .ref sa, .int months, .int full, .int lean])), (bf, .inl (kbf, 3575, .inl fbf)), (bh, .inl (kbh, 3575, .inl (upd z2 (x_599 : Int32).toNatClampNeg x_602)))]) hP hD
          generalize upd z2 (x_599 : Int32).toNatClampNeg x_602 = f_603 at hP hD
          obtain ⟨x_604, ex_604⟩ : ∃ y : Int32, y = v5 + 1 := ⟨_, rfl⟩
          have gx_604 : gi x_604 1 11 := gi_add ex_604 g_592 (gi_c 1 1 (by decide)) (by decide)
          refine lv_iinc (v := x_604) (lv' := [(5, .int x_604), (0, .ref h0), (1, .int v1), (2, .int v2), (3, .int v3), (4, .int v4)]) hx hb (dk_at dkX9_countBehind 82 rfl) hl (k := 5) rfl (by rw [ex_604]; rfl) (by decide) rfl (fun ls hl => ?_)
          refine lv_goto (tgt := 81) hx hb (dk_at dkX9_countBehind 83 rfl) (by decide) ?_
          exact ih.2.2.2 v1 v2 v3 v4 x_604 f_603 _ _ _ gv1 gv2 gv3 gv4 (gi_w gx_604 (by decide)) (by have av2 := gv2.1; have bv2 := gv2.2; have av3 := gv3.1; have bv3 := gv3.2; have av5 := gv5.1; have bv5 := gv5.2; have qgx_604 := gx_604.1; have rgx_604 := gx_604.2; have igx_604 : x_604.toInt = v5.toInt + 1 := (by have hc1 : (1 : Int32).toInt = 1 := (by decide); have h9 := gi_addI ex_604 (by have h1 := g_592.1; have h2 := (gi_c 1 1 (by decide)).1; have h3 := g_592.2; have h4 := (gi_c 1 1 (by decide)).2; omega) (by have h1 := g_592.1; have h2 := (gi_c 1 1 (by decide)).1; have h3 := g_592.2; have h4 := (gi_c 1 1 (by decide)).2; omega); rw [hc1] at h9; exact h9); have qgv5 := g_592.1; have rgv5 := g_592.2; have qgv3 := gv3.1; have rgv3 := gv3.2; have qgv2 := gv2.1; have rgv2 := gv2.2; omega) hP hD hS (lv_sub hl [1, 2, 3, 4, 5, 0] rfl)
abbrev pb_sX9_countBehind (dC : Nat → ClassId) (dI : Nat → Nat → Nat) (A9 : Nat → Prop) (h0 : Nat) (bf : Nat) (bh : Nat) (sa : Nat) (months : Int32) (full : Int32) (lean : Int32) (kbf : ClassId) (fbf : Nat → Int32) (kbh : ClassId) (fbh : Nat → Int32) (z2 : Nat → Int32) (t : State) : Prop := va_P (dC, dI) vwCl [(h0, .inr (9, [.ref bf, .ref bh, .ref sa, .int months, .int full, .int lean])), (bf, .inl (kbf, 3575, .inl fbf)), (bh, .inl (kbh, 3575, .inl z2))] t.heap ∧ va_D A9 [(h0, .inr (9, [.ref bf, .ref bh, .ref sa, .int months, .int full, .int lean])), (bf, .inl (kbf, 3575, .inl fbf)), (bh, .inl (kbh, 3575, .inl z2))]
set_option maxHeartbeats 4000000 in
set_option maxRecDepth 100000 in
theorem sX9_countBehind (l : Launch) (dC : Nat → ClassId) (dI : Nat → Nat → Nat) (sz : Nat) (h0 : Nat) (bf : Nat) (bh : Nat) (sa : Nat) (months : Int32) (full : Int32) (lean : Int32) (kbf : ClassId) (fbf : Nat → Int32) (kbh : ClassId) (fbh : Nat → Int32) (gmonths : gi months 0 24) (gfull : gi full 0 5) (glean : gi lean 0 5) : Met l yX9_countBehind (.code yX9_countBehind cX9_countBehind 6 none :: wsGA) ({ frames := 3, cells := 0, slots := 0, locals := 66 }) (va_Pc [.ref h0] (fun U => U.heap.size = sz ∧ va_P (dC, dI) vwCl [(h0, .inr (9, [.ref bf, .ref bh, .ref sa, .int months, .int full, .int lean])), (bf, .inl (kbf, 3575, .inl fbf)), (bh, .inl (kbh, 3575, .inl fbh))] U.heap ∧ va_K (dC, dI) vwCl [(kbf, .int), (kbh, .int)] U ∧ va_D (fun _ => True) [(h0, .inr (9, [.ref bf, .ref bh, .ref sa, .int months, .int full, .int lean])), (bf, .inl (kbf, 3575, .inl fbf)), (bh, .inl (kbh, 3575, .inl fbh))] ∧ nzA U)) (va_Qv (fun (u : Unit) => True) (fun _ t => ∃ (z2 : Nat → Int32), pb_sX9_countBehind dC dI (va_A [(h0, .inr (9, [.ref bf, .ref bh, .ref sa, .int months, .int full, .int lean])), (bf, .inl (kbf, 3575, .inl fbf)), (bh, .inl (kbh, 3575, .inl fbh))] sz) h0 bf bh sa months full lean kbf fbf kbh fbh z2 t) (va_A [(h0, .inr (9, [.ref bf, .ref bh, .ref sa, .int months, .int full, .int lean])), (bf, .inl (kbf, 3575, .inl fbf)), (bh, .inl (kbh, 3575, .inl fbh))] sz)) 0 0 (va_A [(h0, .inr (9, [.ref bf, .ref bh, .ref sa, .int months, .int full, .int lean])), (bf, .inl (kbf, 3575, .inl fbf)), (bh, .inl (kbh, 3575, .inl fbh))] sz) := by
  refine Met.ofW (cc := cX9_countBehind) (maxL := 6) (ret := none) (by decide) rfl ?_
  intro p e s m args below meth c s₁ B hml hv
  obtain ⟨rfl, hsz, hP, hK, hD0, hz⟩ := hv
  have hx := B.exec
  have hb := B.bytes
  have hr := B.returns
  have hts := atoms_spec (ws := (.code yX9_countBehind cX9_countBehind 6 none :: wsGA)) B.pre
  have hown : s.vm.findClass RX9 = some m.cls := findClass_of_methodNamed B.named
  have hlocks := B.notSynchronized
  subst hsz
  have hD := hD0.self (sz := s.heap.size)
  generalize hAe : va_A [(h0, .inr (9, [.ref bf, .ref bh, .ref sa, .int months, .int full, .int lean])), (bf, .inl (kbf, 3575, .inl fbf)), (bh, .inl (kbh, 3575, .inl fbh))] s.heap.size = A at hD ⊢
  have hA : ∀ q : Nat, s.heap.size ≤ q → A q := fun q h => by rw [← hAe]; exact Or.inr h
  have hS : va_S A s.heap s.heap [] := va_S.rf
  have hl := lv_entry ([.ref h0]) (n := 6) (Nat.le_of_ble_eq_true rfl)
  rw [lg_entry_eq]
  generalize (lg_sl ([.ref h0]) ++ List.replicate (6 - (lg_sl ([.ref h0])).length) Slot.unset).toArray = ls at hl ⊢
  have hl : lv_has ls 6 [(0, .ref h0)] := hl
  refine lv_aload_n hx hb (dk_at dkX9_countBehind 0 rfl) rfl (lv_at hl 0 rfl) ?_
  refine va_get (D := (dC, dI)) (ci := 9) (v := .int months) (C := RX9) (T := TX9) (N := 6) hx hb hts (fun w h => List.mem_cons_of_mem _ (jnGA_X9 w h)) hown hK hP 0 rfl rfl 3 (by decide) (hts _ (List.mem_cons_of_mem _ mGA_560)) (fun _ h9 => h9) rfl (dk_at dkX9_countBehind 1 rfl) ?_
  refine lv_iconst (v := 0) hx hb (dk_at dkX9_countBehind 2 rfl) (by decide) ?_
  refine lv_iconst (v := 0) hx hb (dk_at dkX9_countBehind 3 rfl) (by decide) ?_
  have hPc := hP.sub (ws' := []) [] rfl
  have hKc := hK.sub (tys' := []) [] rfl
  refine va_calli (va_runSN (As := [.int months, .int 0, .int 0]) (rest := []) ⟨hx, hb, hml, hown, hts⟩ (sX11_spot00 l dC dI months 0 0 gmonths (gi_c 0 0 (by decide)) (gi_c 0 0 (by decide))) (⟨va_cnB 3 hts (gz_gP mGA_582 goodGA) rfl rfl rfl (nzA_X9_63 hz) (hts _ (List.mem_cons_of_mem _ mGA_1)) (by decide +kernel) ⟨Nat.le_of_ble_eq_true rfl, Nat.le_of_ble_eq_true rfl⟩, (hts _ (List.mem_cons_of_mem _ mGA_581)), trivial⟩) ⟨bl_I (bl_a bl_P (bl_a bl_K bl_nz)), fun U hU hW => ⟨rfl, by rw [hU]; exact hPc, va_K.moved hW.alike hKc, nzA_warm hW hz⟩⟩ rfl rfl hl.1 rfl (lv_room (Nat.le_of_ble_eq_true rfl)) (dk_at dkX9_countBehind 4 rfl) ⟨Nat.zero_le _, Nat.zero_le _⟩) hS (fun q _ h => h.elim) (fun q h => h.elim) (fun r_605 u t H1 locs ht hvm hw hB hz1 hk1 hS => ?_)
  have hP := gz_keep hP hk1
  generalize H1 = H at hP hS ⊢
  have gr_605 : gi r_605 0 3300 := hw
  refine lv_istore_n (lv' := [(1, .int r_605), (0, .ref h0)]) hx hb (dk_at dkX9_countBehind 5 rfl) rfl hl (by decide) rfl (fun ls hl => ?_)
  refine lv_iload_n hx hb (dk_at dkX9_countBehind 6 rfl) rfl (lv_at hl 0 rfl) ?_
  refine lv_istore_n (lv' := [(2, .int r_605), (1, .int r_605), (0, .ref h0)]) hx hb (dk_at dkX9_countBehind 7 rfl) rfl hl (by decide) rfl (fun ls hl => ?_)
  refine (lp_sX9_countBehind h0 bf bh sa months full lean kbf fbf kbh fbh gmonths gfull glean hx hb hml hown hts hK hz hA (Nat.le_of_ble_eq_true rfl) (Nat.le_of_ble_eq_true rfl) (Nat.zero_le _) (Nat.zero_le _) (fun z2 H locs ls hP hD hS hl => ?_) 26144).1 r_605 r_605 fbh _ _ _ gr_605 (gi_w gr_605 (by decide)) (by have qgr_605 := gr_605.1; have rgr_605 := gr_605.2; omega) hP hD hS (lv_sub hl [2, 1, 0] rfl)
  · skip
    exact W.vret hx hb hr (fun t ht hW => ⟨⟨(), rfl, trivial, z2, by rw [ht]; exact hP, hD⟩, hS.F ht⟩) hS.2.2 (dk_at dkX9_countBehind 88 rfl)
noncomputable def lsX9_fill : List (Nat × Instr × Nat) := [(0, .aload_n 0, 1), (1, .aload_n 1, 1), (2, .getfield 21, 3), (5, .putfield 27, 3), (8, .aload_n 0, 1), (9, .aload_n 1, 1), (10, .getfield 28, 3), (13, .putfield 31, 3), (16, .aload_n 0, 1), (17, .aload_n 1, 1), (18, .getfield 32, 3), (21, .putfield 35, 3), (24, .aload_n 0, 1), (25, .getfield 9, 3), (28, .iconst 0, 1), (29, .invokestatic 36, 3), (32, .aload_n 0, 1), (33, .getfield 15, 3), (36, .iconst 0, 1), (37, .invokestatic 36, 3), (40, .aload_n 0, 1), (41, .aload_n 1, 1), (42, .invokevirtual 42, 3), (45, .aload_n 0, 1), (46, .invokevirtual 46, 3), (49, .aload_n 0, 1), (50, .invokevirtual 49, 3), (53, .return_, 1)]
theorem dkX9_fill : dkAll cX9_fill lsX9_fill = true := by decide +kernel
abbrev pb_sX9_fill (dC : Nat → ClassId) (dI : Nat → Nat → Nat) (A9 : Nat → Prop) (h0 : Nat) (bf : Nat) (bh : Nat) (sa : Nat) (fr : Nat) (fral : Nat) (months : Int32) (full : Int32) (lean : Int32) (kbf : ClassId) (fbf : Nat → Int32) (kbh : ClassId) (fbh : Nat → Int32) (ksa : ClassId) (fsa : Nat → Int32) (frmonths : Int32) (frfull : Int32) (frlean : Int32) (fron : Nat) (kfral : ClassId) (ffral : Nat → Int32) (w0_3 : Int32) (w0_4 : Int32) (w0_5 : Int32) (z1 : Nat → Int32) (z2 : Nat → Int32) (z3 : Nat → Int32) (t : State) : Prop := gi w0_3 0 24 ∧ gi w0_4 0 5 ∧ gi w0_5 0 5 ∧ va_P (dC, dI) vwCl [(h0, .inr (9, [.ref bf, .ref bh, .ref sa, .int w0_3, .int w0_4, .int w0_5])), (bf, .inl (kbf, 3575, .inl z1)), (bh, .inl (kbh, 3575, .inl z2)), (sa, .inl (ksa, 325, .inl z3)), (fr, .inr (3, [.int frmonths, .int frfull, .int frlean, .ref fral, .ref fron])), (fral, .inl (kfral, 25, .inl ffral))] t.heap ∧ va_D A9 [(h0, .inr (9, [.ref bf, .ref bh, .ref sa, .int w0_3, .int w0_4, .int w0_5])), (bf, .inl (kbf, 3575, .inl z1)), (bh, .inl (kbh, 3575, .inl z2)), (sa, .inl (ksa, 325, .inl z3)), (fr, .inr (3, [.int frmonths, .int frfull, .int frlean, .ref fral, .ref fron])), (fral, .inl (kfral, 25, .inl ffral))]
set_option maxHeartbeats 4000000 in
set_option maxRecDepth 100000 in
theorem sX9_fill (l : Launch) (dC : Nat → ClassId) (dI : Nat → Nat → Nat) (sz : Nat) (h0 : Nat) (bf : Nat) (bh : Nat) (sa : Nat) (fr : Nat) (fral : Nat) (months : Int32) (full : Int32) (lean : Int32) (kbf : ClassId) (fbf : Nat → Int32) (kbh : ClassId) (fbh : Nat → Int32) (ksa : ClassId) (fsa : Nat → Int32) (frmonths : Int32) (frfull : Int32) (frlean : Int32) (fron : Nat) (kfral : ClassId) (ffral : Nat → Int32) (gmonths : gi months 0 24) (gfull : gi full 0 5) (glean : gi lean 0 5) (gfrmonths : gi frmonths 0 24) (gfrfull : gi frfull 0 5) (gfrlean : gi frlean 0 5) : Met l yX9_fill (.code yX9_fill cX9_fill 2 none :: wsGA) ({ frames := 4, cells := 0, slots := 0, locals := 92 }) (va_Pc [.ref h0, .ref fr] (fun U => U.heap.size = sz ∧ va_P (dC, dI) vwCl [(h0, .inr (9, [.ref bf, .ref bh, .ref sa, .int months, .int full, .int lean])), (bf, .inl (kbf, 3575, .inl fbf)), (bh, .inl (kbh, 3575, .inl fbh)), (sa, .inl (ksa, 325, .inl fsa)), (fr, .inr (3, [.int frmonths, .int frfull, .int frlean, .ref fral, .ref fron])), (fral, .inl (kfral, 25, .inl ffral))] U.heap ∧ va_K (dC, dI) vwCl [(kbf, .int), (kbh, .int), (ksa, .int), (kfral, .int)] U ∧ va_D (fun _ => True) [(h0, .inr (9, [.ref bf, .ref bh, .ref sa, .int months, .int full, .int lean])), (bf, .inl (kbf, 3575, .inl fbf)), (bh, .inl (kbh, 3575, .inl fbh)), (sa, .inl (ksa, 325, .inl fsa)), (fr, .inr (3, [.int frmonths, .int frfull, .int frlean, .ref fral, .ref fron])), (fral, .inl (kfral, 25, .inl ffral))] ∧ nzA U)) (va_Qv (fun (u : Unit) => True) (fun _ t => ∃ (w0_3 : Int32) (w0_4 : Int32) (w0_5 : Int32) (z1 : Nat → Int32) (z2 : Nat → Int32) (z3 : Nat → Int32), pb_sX9_fill dC dI (va_A [(h0, .inr (9, [.ref bf, .ref bh, .ref sa, .int months, .int full, .int lean])), (bf, .inl (kbf, 3575, .inl fbf)), (bh, .inl (kbh, 3575, .inl fbh)), (sa, .inl (ksa, 325, .inl fsa)), (fr, .inr (3, [.int frmonths, .int frfull, .int frlean, .ref fral, .ref fron])), (fral, .inl (kfral, 25, .inl ffral))] sz) h0 bf bh sa fr fral months full lean kbf fbf kbh fbh ksa fsa frmonths frfull frlean fron kfral ffral w0_3 w0_4 w0_5 z1 z2 z3 t) (va_A [(h0, .inr (9, [.ref bf, .ref bh, .ref sa, .int months, .int full, .int lean])), (bf, .inl (kbf, 3575, .inl fbf)), (bh, .inl (kbh, 3575, .inl fbh)), (sa, .inl (ksa, 325, .inl fsa)), (fr, .inr (3, [.int frmonths, .int frfull, .int frlean, .ref fral, .ref fron])), (fral, .inl (kfral, 25, .inl ffral))] sz)) 0 0 (va_A [(h0, .inr (9, [.ref bf, .ref bh, .ref sa, .int months, .int full, .int lean])), (bf, .inl (kbf, 3575, .inl fbf)), (bh, .inl (kbh, 3575, .inl fbh)), (sa, .inl (ksa, 325, .inl fsa)), (fr, .inr (3, [.int frmonths, .int frfull, .int frlean, .ref fral, .ref fron])), (fral, .inl (kfral, 25, .inl ffral))] sz) := by
  refine Met.ofW (cc := cX9_fill) (maxL := 2) (ret := none) (by decide) rfl ?_
  intro p e s m args below meth c s₁ B hml hv
  obtain ⟨rfl, hsz, hP, hK, hD0, hz⟩ := hv
  have hx := B.exec
  have hb := B.bytes
  have hr := B.returns
  have hts := atoms_spec (ws := (.code yX9_fill cX9_fill 2 none :: wsGA)) B.pre
  have hown : s.vm.findClass RX9 = some m.cls := findClass_of_methodNamed B.named
  have hlocks := B.notSynchronized
  subst hsz
  have hD := hD0.self (sz := s.heap.size)
  generalize hAe : va_A [(h0, .inr (9, [.ref bf, .ref bh, .ref sa, .int months, .int full, .int lean])), (bf, .inl (kbf, 3575, .inl fbf)), (bh, .inl (kbh, 3575, .inl fbh)), (sa, .inl (ksa, 325, .inl fsa)), (fr, .inr (3, [.int frmonths, .int frfull, .int frlean, .ref fral, .ref fron])), (fral, .inl (kfral, 25, .inl ffral))] s.heap.size = A at hD ⊢
  have hA : ∀ q : Nat, s.heap.size ≤ q → A q := fun q h => by rw [← hAe]; exact Or.inr h
  have hS : va_S A s.heap s.heap [] := va_S.rf
  have hl := lv_entry ([.ref h0, .ref fr]) (n := 2) (Nat.le_of_ble_eq_true rfl)
  rw [lg_entry_eq]
  generalize (lg_sl ([.ref h0, .ref fr]) ++ List.replicate (2 - (lg_sl ([.ref h0, .ref fr])).length) Slot.unset).toArray = ls at hl ⊢
  have hl : lv_has ls 2 [(0, .ref h0), (1, .ref fr)] := hl
  refine lv_aload_n hx hb (dk_at dkX9_fill 0 rfl) rfl (lv_at hl 0 rfl) ?_
  refine lv_aload_n hx hb (dk_at dkX9_fill 1 rfl) rfl (lv_at hl 1 rfl) ?_
  refine va_get (D := (dC, dI)) (ci := 3) (v := .int frmonths) (C := RX3) (T := TX3) (N := 5) hx hb hts (fun w h => List.mem_cons_of_mem _ (jnGA_X3 w h)) hown hK hP 4 rfl rfl 0 (by decide) (hts _ (List.mem_cons_of_mem _ mGA_559)) (fun _ h9 => h9) rfl (dk_at dkX9_fill 2 rfl) ?_
  refine va_put (D := (dC, dI)) (ci := 9) (v := .int frmonths) (ty := .int) (C := RX9) (T := TX9) (N := 6) hx hb hts (fun w h => List.mem_cons_of_mem _ (jnGA_X9 w h)) tyX9 tyX9_ok nmX9 hown hK hP hD hS 0 rfl rfl 3 (by decide) (hts _ (List.mem_cons_of_mem _ mGA_560)) (fun _ h9 => h9) rfl (by decide +kernel) rfl rfl (Nat.le_of_ble_eq_true rfl) (dk_at dkX9_fill 3 rfl) (fun H locs hP hD hS => ?_)
  obtain ⟨hP, hD⟩ := gz_both (w := [(h0, .inr (9, [.ref bf, .ref bh, .ref sa, .int frmonths, .int full, .int lean])), (bf, .inl (kbf, 3575, .inl fbf)), (bh, .inl (kbh, 3575, .inl fbh)), (sa, .inl (ksa, 325, .inl fsa)), (fr, .inr (3, [.int frmonths, .int frfull, .int frlean, .ref fral, .ref fron])), (fral, .inl (kfral, 25, .inl ffral))]) hP hD
  refine lv_aload_n hx hb (dk_at dkX9_fill 4 rfl) rfl (lv_at hl 0 rfl) ?_
  refine lv_aload_n hx hb (dk_at dkX9_fill 5 rfl) rfl (lv_at hl 1 rfl) ?_
  refine va_get (D := (dC, dI)) (ci := 3) (v := .int frfull) (C := RX3) (T := TX3) (N := 5) hx hb hts (fun w h => List.mem_cons_of_mem _ (jnGA_X3 w h)) hown hK hP 4 rfl rfl 1 (by decide) (hts _ (List.mem_cons_of_mem _ mGA_561)) (fun _ h9 => h9) rfl (dk_at dkX9_fill 6 rfl) ?_
  refine va_put (D := (dC, dI)) (ci := 9) (v := .int frfull) (ty := .int) (C := RX9) (T := TX9) (N := 6) hx hb hts (fun w h => List.mem_cons_of_mem _ (jnGA_X9 w h)) tyX9 tyX9_ok nmX9 hown hK hP hD hS 0 rfl rfl 4 (by decide) (hts _ (List.mem_cons_of_mem _ mGA_562)) (fun _ h9 => h9) rfl (by decide +kernel) rfl rfl (Nat.le_of_ble_eq_true rfl) (dk_at dkX9_fill 7 rfl) (fun H locs hP hD hS => ?_)
  obtain ⟨hP, hD⟩ := gz_both (w := [(h0, .inr (9, [.ref bf, .ref bh, .ref sa, .int frmonths, .int frfull, .int lean])), (bf, .inl (kbf, 3575, .inl fbf)), (bh, .inl (kbh, 3575, .inl fbh)), (sa, .inl (ksa, 325, .inl fsa)), (fr, .inr (3, [.int frmonths, .int frfull, .int frlean, .ref fral, .ref fron])), (fral, .inl (kfral, 25, .inl ffral))]) hP hD
  refine lv_aload_n hx hb (dk_at dkX9_fill 8 rfl) rfl (lv_at hl 0 rfl) ?_
  refine lv_aload_n hx hb (dk_at dkX9_fill 9 rfl) rfl (lv_at hl 1 rfl) ?_
  refine va_get (D := (dC, dI)) (ci := 3) (v := .int frlean) (C := RX3) (T := TX3) (N := 5) hx hb hts (fun w h => List.mem_cons_of_mem _ (jnGA_X3 w h)) hown hK hP 4 rfl rfl 2 (by decide) (hts _ (List.mem_cons_of_mem _ mGA_563)) (fun _ h9 => h9) rfl (dk_at dkX9_fill 10 rfl) ?_
  refine va_put (D := (dC, dI)) (ci := 9) (v := .int frlean) (ty := .int) (C := RX9) (T := TX9) (N := 6) hx hb hts (fun w h => List.mem_cons_of_mem _ (jnGA_X9 w h)) tyX9 tyX9_ok nmX9 hown hK hP hD hS 0 rfl rfl 5 (by decide) (hts _ (List.mem_cons_of_mem _ mGA_564)) (fun _ h9 => h9) rfl (by decide +kernel) rfl rfl (Nat.le_of_ble_eq_true rfl) (dk_at dkX9_fill 11 rfl) (fun H locs hP hD hS => ?_)
  obtain ⟨hP, hD⟩ := gz_both (w := [(h0, .inr (9, [.ref bf, .ref bh, .ref sa, .int frmonths, .int frfull, .int frlean])), (bf, .inl (kbf, 3575, .inl fbf)), (bh, .inl (kbh, 3575, .inl fbh)), (sa, .inl (ksa, 325, .inl fsa)), (fr, .inr (3, [.int frmonths, .int frfull, .int frlean, .ref fral, .ref fron])), (fral, .inl (kfral, 25, .inl ffral))]) hP hD
  refine lv_aload_n hx hb (dk_at dkX9_fill 12 rfl) rfl (lv_at hl 0 rfl) ?_
  refine va_get (D := (dC, dI)) (ci := 9) (v := .ref bf) (C := RX9) (T := TX9) (N := 6) hx hb hts (fun w h => List.mem_cons_of_mem _ (jnGA_X9 w h)) hown hK hP 0 rfl rfl 0 (by decide) (hts _ (List.mem_cons_of_mem _ mGA_111)) (fun _ h9 => h9) rfl (dk_at dkX9_fill 13 rfl) ?_
  refine lv_iconst (v := 0) hx hb (dk_at dkX9_fill 14 rfl) (by decide) ?_
  obtain ⟨hPc, hDc, hFc⟩ := gz_cut (wc := [(bf, .inl (kbf, 3575, .inl fbf))]) hP hD hS hA [1] (by decide) rfl
  have hKc := hK.sub (tys' := [(kbf, .int)]) [0] rfl
  refine va_callv (va_runS (As := [.ref bf, .int 0]) (rest := []) ⟨hx, hb, hml, hown, hts⟩ (sJ7_fill3575 l dC dI H.size bf kbf fbf 0) (⟨callB_of 2 hts (gz_gP mGA_568 goodGA) rfl rfl rfl (hts _ (List.mem_cons_of_mem _ mGA_567)) (hts _ (List.mem_cons_of_mem _ mGA_565)) (by decide +kernel) ⟨Nat.le_of_ble_eq_true rfl, Nat.le_of_ble_eq_true rfl⟩, (hts _ (List.mem_cons_of_mem _ mGA_566))⟩) ⟨bl_I (bl_a bl_sz (bl_a bl_P (bl_a bl_K (bl_a bl_c bl_nz)))), fun U hU hW => ⟨rfl, by rw [hU], by rw [hU]; exact hPc, va_K.moved hW.alike hKc, hDc.weaken (fun _ _ _ _ => trivial), nzA_warm hW hz⟩⟩ rfl rfl hl.1 rfl (lv_room (Nat.le_of_ble_eq_true rfl)) (dk_at dkX9_fill 15 rfl) ⟨Nat.zero_le _, Nat.zero_le _⟩) hS (fun q _ h => hFc q h) hFc (fun u t H1 locs ht hvm hw hB hz1 hk1 hS => ?_)
  obtain ⟨f_22, hB⟩ := hB
  obtain ⟨hP1, hD1⟩ := hB
  rw [ht] at hP1
  obtain ⟨hP, hD⟩ := gz_back hP hD hk1 hFc hP1 hD1 [1] rfl rfl
  obtain ⟨hP, hD⟩ := gz_both (w := [(h0, .inr (9, [.ref bf, .ref bh, .ref sa, .int frmonths, .int frfull, .int frlean])), (bf, .inl (kbf, 3575, .inl f_22)), (bh, .inl (kbh, 3575, .inl fbh)), (sa, .inl (ksa, 325, .inl fsa)), (fr, .inr (3, [.int frmonths, .int frfull, .int frlean, .ref fral, .ref fron])), (fral, .inl (kfral, 25, .inl ffral))]) hP hD
  generalize H1 = H at hP hS ⊢
  refine lv_aload_n hx hb (dk_at dkX9_fill 16 rfl) rfl (lv_at hl 0 rfl) ?_
  refine va_get (D := (dC, dI)) (ci := 9) (v := .ref bh) (C := RX9) (T := TX9) (N := 6) hx hb hts (fun w h => List.mem_cons_of_mem _ (jnGA_X9 w h)) hown hK hP 0 rfl rfl 1 (by decide) (hts _ (List.mem_cons_of_mem _ mGA_112)) (fun _ h9 => h9) rfl (dk_at dkX9_fill 17 rfl) ?_
  refine lv_iconst (v := 0) hx hb (dk_at dkX9_fill 18 rfl) (by decide) ?_
  obtain ⟨hPc, hDc, hFc⟩ := gz_cut (wc := [(bh, .inl (kbh, 3575, .inl fbh))]) hP hD hS hA [2] (by decide) rfl
  have hKc := hK.sub (tys' := [(kbh, .int)]) [1] rfl
  refine va_callv (va_runS (As := [.ref bh, .int 0]) (rest := []) ⟨hx, hb, hml, hown, hts⟩ (sJ7_fill3575 l dC dI H.size bh kbh fbh 0) (⟨callB_of 2 hts (gz_gP mGA_568 goodGA) rfl rfl rfl (hts _ (List.mem_cons_of_mem _ mGA_567)) (hts _ (List.mem_cons_of_mem _ mGA_565)) (by decide +kernel) ⟨Nat.le_of_ble_eq_true rfl, Nat.le_of_ble_eq_true rfl⟩, (hts _ (List.mem_cons_of_mem _ mGA_566))⟩) ⟨bl_I (bl_a bl_sz (bl_a bl_P (bl_a bl_K (bl_a bl_c bl_nz)))), fun U hU hW => ⟨rfl, by rw [hU], by rw [hU]; exact hPc, va_K.moved hW.alike hKc, hDc.weaken (fun _ _ _ _ => trivial), nzA_warm hW hz⟩⟩ rfl rfl hl.1 rfl (lv_room (Nat.le_of_ble_eq_true rfl)) (dk_at dkX9_fill 19 rfl) ⟨Nat.zero_le _, Nat.zero_le _⟩) hS (fun q _ h => hFc q h) hFc (fun u t H1 locs ht hvm hw hB hz1 hk1 hS => ?_)
  obtain ⟨f_24, hB⟩ := hB
  obtain ⟨hP1, hD1⟩ := hB
  rw [ht] at hP1
  obtain ⟨hP, hD⟩ := gz_back hP hD hk1 hFc hP1 hD1 [2] rfl rfl
  obtain ⟨hP, hD⟩ := gz_both (w := [(h0, .inr (9, [.ref bf, .ref bh, .ref sa, .int frmonths, .int frfull, .int frlean])), (bf, .inl (kbf, 3575, .inl f_22)), (bh, .inl (kbh, 3575, .inl f_24)), (sa, .inl (ksa, 325, .inl fsa)), (fr, .inr (3, [.int frmonths, .int frfull, .int frlean, .ref fral, .ref fron])), (fral, .inl (kfral, 25, .inl ffral))]) hP hD
  generalize H1 = H at hP hS ⊢
  refine lv_aload_n hx hb (dk_at dkX9_fill 20 rfl) rfl (lv_at hl 0 rfl) ?_
  refine lv_aload_n hx hb (dk_at dkX9_fill 21 rfl) rfl (lv_at hl 1 rfl) ?_
  obtain ⟨hPc, hDc, hFc⟩ := gz_cut (wc := [(h0, .inr (9, [.ref bf, .ref bh, .ref sa, .int frmonths, .int frfull, .int frlean])), (bf, .inl (kbf, 3575, .inl f_22)), (fr, .inr (3, [.int frmonths, .int frfull, .int frlean, .ref fral, .ref fron])), (fral, .inl (kfral, 25, .inl ffral))]) hP hD hS hA [0, 1, 4, 5] (by decide) rfl
  have hKc := hK.sub (tys' := [(kbf, .int), (kfral, .int)]) [0, 3] rfl
  refine va_callv (va_runV (As := [.ref fr]) (rest := []) ⟨hx, hb, hml, hown, hts⟩ (sX9_countBefore l dC dI H.size h0 bf fr fral bh sa frmonths frfull frlean kbf f_22 frmonths frfull frlean fron kfral ffral gfrmonths gfrfull gfrlean gfrmonths gfrfull gfrlean) (cwV 1 hts (gz_gV mGA_569 mGA_570 mGA_571 mGA_27 mGA_572 goodGA) rfl rfl rfl (by decide +kernel) ⟨Nat.le_of_ble_eq_true rfl, Nat.le_of_ble_eq_true rfl⟩) ⟨bl_I (bl_a bl_sz (bl_a bl_P (bl_a bl_K (bl_a bl_c bl_nz)))), va_recv hKc hPc (ci := 9) (q0 := 0) rfl rfl, fun U hU hW => ⟨rfl, by rw [hU], by rw [hU]; exact hPc, va_K.moved hW.alike hKc, hDc.weaken (fun _ _ _ _ => trivial), nzA_warm hW hz⟩⟩ rfl rfl hl.1 rfl (lv_room (Nat.le_of_ble_eq_true rfl)) (dk_at dkX9_fill 22 rfl) ⟨Nat.zero_le _, Nat.zero_le _⟩) hS (fun q _ h => hFc q h) hFc (fun u t H1 locs ht hvm hw hB hz1 hk1 hS => ?_)
  obtain ⟨f_26, hB⟩ := hB
  obtain ⟨hP1, hD1⟩ := hB
  rw [ht] at hP1
  obtain ⟨hP, hD⟩ := gz_back hP hD hk1 hFc hP1 hD1 [0, 1, 4, 5] rfl rfl
  obtain ⟨hP, hD⟩ := gz_both (w := [(h0, .inr (9, [.ref bf, .ref bh, .ref sa, .int frmonths, .int frfull, .int frlean])), (bf, .inl (kbf, 3575, .inl f_26)), (bh, .inl (kbh, 3575, .inl f_24)), (sa, .inl (ksa, 325, .inl fsa)), (fr, .inr (3, [.int frmonths, .int frfull, .int frlean, .ref fral, .ref fron])), (fral, .inl (kfral, 25, .inl ffral))]) hP hD
  generalize H1 = H at hP hS ⊢
  refine lv_aload_n hx hb (dk_at dkX9_fill 23 rfl) rfl (lv_at hl 0 rfl) ?_
  obtain ⟨hPc, hDc, hFc⟩ := gz_cut (wc := [(h0, .inr (9, [.ref bf, .ref bh, .ref sa, .int frmonths, .int frfull, .int frlean])), (bf, .inl (kbf, 3575, .inl f_26)), (bh, .inl (kbh, 3575, .inl f_24))]) hP hD hS hA [0, 1, 2] (by decide) rfl
  have hKc := hK.sub (tys' := [(kbf, .int), (kbh, .int)]) [0, 1] rfl
  refine va_callv (va_runV (As := []) (rest := []) ⟨hx, hb, hml, hown, hts⟩ (sX9_countBehind l dC dI H.size h0 bf bh sa frmonths frfull frlean kbf f_26 kbh f_24 gfrmonths gfrfull gfrlean) (cwV 0 hts (gz_gV mGA_590 mGA_591 mGA_592 mGA_27 mGA_593 goodGA) rfl rfl rfl (by decide +kernel) ⟨Nat.le_of_ble_eq_true rfl, Nat.le_of_ble_eq_true rfl⟩) ⟨bl_I (bl_a bl_sz (bl_a bl_P (bl_a bl_K (bl_a bl_c bl_nz)))), va_recv hKc hPc (ci := 9) (q0 := 0) rfl rfl, fun U hU hW => ⟨rfl, by rw [hU], by rw [hU]; exact hPc, va_K.moved hW.alike hKc, hDc.weaken (fun _ _ _ _ => trivial), nzA_warm hW hz⟩⟩ rfl rfl hl.1 rfl (lv_room (Nat.le_of_ble_eq_true rfl)) (dk_at dkX9_fill 24 rfl) ⟨Nat.zero_le _, Nat.zero_le _⟩) hS (fun q _ h => hFc q h) hFc (fun u t H1 locs ht hvm hw hB hz1 hk1 hS => ?_)
  obtain ⟨f_28, hB⟩ := hB
  obtain ⟨hP1, hD1⟩ := hB
  rw [ht] at hP1
  obtain ⟨hP, hD⟩ := gz_back hP hD hk1 hFc hP1 hD1 [0, 1, 2] rfl rfl
  obtain ⟨hP, hD⟩ := gz_both (w := [(h0, .inr (9, [.ref bf, .ref bh, .ref sa, .int frmonths, .int frfull, .int frlean])), (bf, .inl (kbf, 3575, .inl f_26)), (bh, .inl (kbh, 3575, .inl f_28)), (sa, .inl (ksa, 325, .inl fsa)), (fr, .inr (3, [.int frmonths, .int frfull, .int frlean, .ref fral, .ref fron])), (fral, .inl (kfral, 25, .inl ffral))]) hP hD
  generalize H1 = H at hP hS ⊢
  refine lv_aload_n hx hb (dk_at dkX9_fill 25 rfl) rfl (lv_at hl 0 rfl) ?_
  obtain ⟨hPc, hDc, hFc⟩ := gz_cut (wc := [(h0, .inr (9, [.ref bf, .ref bh, .ref sa, .int frmonths, .int frfull, .int frlean])), (bf, .inl (kbf, 3575, .inl f_26)), (bh, .inl (kbh, 3575, .inl f_28)), (sa, .inl (ksa, 325, .inl fsa))]) hP hD hS hA [0, 1, 2, 3] (by decide) rfl
  have hKc := hK.sub (tys' := [(kbf, .int), (kbh, .int), (ksa, .int)]) [0, 1, 2] rfl
  refine va_callv (va_runV (As := []) (rest := []) ⟨hx, hb, hml, hown, hts⟩ (sX9_countStarts l dC dI H.size h0 bf bh sa frmonths frfull frlean kbf f_26 kbh f_28 ksa fsa gfrmonths gfrfull gfrlean) (cwV 0 hts (gz_gV mGA_603 mGA_604 mGA_605 mGA_27 mGA_606 goodGA) rfl rfl rfl (by decide +kernel) ⟨Nat.le_of_ble_eq_true rfl, Nat.le_of_ble_eq_true rfl⟩) ⟨bl_I (bl_a bl_sz (bl_a bl_P (bl_a bl_K (bl_a bl_c bl_nz)))), va_recv hKc hPc (ci := 9) (q0 := 0) rfl rfl, fun U hU hW => ⟨rfl, by rw [hU], by rw [hU]; exact hPc, va_K.moved hW.alike hKc, hDc.weaken (fun _ _ _ _ => trivial), nzA_warm hW hz⟩⟩ rfl rfl hl.1 rfl (lv_room (Nat.le_of_ble_eq_true rfl)) (dk_at dkX9_fill 26 rfl) ⟨Nat.zero_le _, Nat.zero_le _⟩) hS (fun q _ h => hFc q h) hFc (fun u t H1 locs ht hvm hw hB hz1 hk1 hS => ?_)
  obtain ⟨f_30, hB⟩ := hB
  obtain ⟨hP1, hD1⟩ := hB
  rw [ht] at hP1
  obtain ⟨hP, hD⟩ := gz_back hP hD hk1 hFc hP1 hD1 [0, 1, 2, 3] rfl rfl
  obtain ⟨hP, hD⟩ := gz_both (w := [(h0, .inr (9, [.ref bf, .ref bh, .ref sa, .int frmonths, .int frfull, .int frlean])), (bf, .inl (kbf, 3575, .inl f_26)), (bh, .inl (kbh, 3575, .inl f_28)), (sa, .inl (ksa, 325, .inl f_30)), (fr, .inr (3, [.int frmonths, .int frfull, .int frlean, .ref fral, .ref fron])), (fral, .inl (kfral, 25, .inl ffral))]) hP hD
  generalize H1 = H at hP hS ⊢
  exact W.vret hx hb hr (fun t ht hW => ⟨⟨(), rfl, trivial, frmonths, frfull, frlean, f_26, f_28, f_30, gfrmonths, gfrfull, gfrlean, by rw [ht]; exact hP, hD⟩, hS.F ht⟩) hS.2.2 (dk_at dkX9_fill 27 rfl)
