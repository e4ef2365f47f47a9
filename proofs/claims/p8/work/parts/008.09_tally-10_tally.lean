theorem dX9_withFull_0 : decode cX9_withFull 0 = .ok (.aload_n 0, 1) := by decide +kernel
theorem dX9_withFull_1 : decode cX9_withFull 1 = .ok (.getfield 15, 3) := by decide +kernel
theorem dX9_withFull_4 : decode cX9_withFull 4 = .ok (.iload_n 1, 1) := by decide +kernel
theorem dX9_withFull_5 : decode cX9_withFull 5 = .ok (.iconst 1, 1) := by decide +kernel
theorem dX9_withFull_6 : decode cX9_withFull 6 = .ok (.iadd, 1) := by decide +kernel
theorem dX9_withFull_7 : decode cX9_withFull 7 = .ok (.iload_n 2, 1) := by decide +kernel
theorem dX9_withFull_8 : decode cX9_withFull 8 = .ok (.iconst 1, 1) := by decide +kernel
theorem dX9_withFull_9 : decode cX9_withFull 9 = .ok (.iadd, 1) := by decide +kernel
theorem dX9_withFull_10 : decode cX9_withFull 10 = .ok (.iload_n 3, 1) := by decide +kernel
theorem dX9_withFull_11 : decode cX9_withFull 11 = .ok (.aload_n 0, 1) := by decide +kernel
theorem dX9_withFull_12 : decode cX9_withFull 12 = .ok (.getfield 31, 3) := by decide +kernel
theorem dX9_withFull_15 : decode cX9_withFull 15 = .ok (.invokestatic 74, 3) := by decide +kernel
theorem dX9_withFull_18 : decode cX9_withFull 18 = .ok (.invokestatic 63, 3) := by decide +kernel
theorem dX9_withFull_21 : decode cX9_withFull 21 = .ok (.iaload, 1) := by decide +kernel
theorem dX9_withFull_22 : decode cX9_withFull 22 = .ok (.ireturn, 1) := by decide +kernel
set_option maxHeartbeats 4000000 in
set_option maxRecDepth 100000 in
theorem sX9_withFull (l : Launch) (dC : Nat → ClassId) (dI : Nat → Nat → Nat) (h0 : Nat) (bh : Nat) (bf : Nat) (sa : Nat) (months : Int32) (full : Int32) (lean : Int32) (kbh : ClassId) (fbh : Nat → Int32) (p0 : Int32) (p1 : Int32) (p2 : Int32) (gmonths : gi months 0 24) (gfull : gi full 0 5) (glean : gi lean 0 5) (gp0 : gi p0 0 23) (gp1 : gi p1 0 23) (gp2 : gi p2 0 10) : Met l yX9_withFull (.code yX9_withFull cX9_withFull 4 (some .int) :: wsGA) ({ frames := 2, cells := 0, slots := 0, locals := 43 }) (va_Pc [.ref h0, .int p0, .int p1, .int p2] (fun U => va_P (dC, dI) vwCl [(h0, .inr (9, [.ref bf, .ref bh, .ref sa, .int months, .int full, .int lean])), (bh, .inl (kbh, 3575, .inl fbh))] U.heap ∧ va_K (dC, dI) vwCl [(kbh, .int)] U ∧ nzA U)) (va_Qi (fun (r : Int32) (u : Unit) => gi r (-2147483648) 2147483647) (fun _ _ => True) (fun _ => False)) 0 0 (fun _ => False) := by
  refine Met.ofW (cc := cX9_withFull) (maxL := 4) (ret := (some .int)) (by decide) rfl ?_
  intro p e s m args below meth c s₁ B hml hv
  obtain ⟨rfl, hP, hK, hz⟩ := hv
  have hx := B.exec
  have hb := B.bytes
  have hr := B.returns
  have hts := atoms_spec (ws := (.code yX9_withFull cX9_withFull 4 (some .int) :: wsGA)) B.pre
  have hown : s.vm.findClass RX9 = some m.cls := findClass_of_methodNamed B.named
  have hlocks := B.notSynchronized
  have hS : va_S (fun _ => False) s.heap s.heap [] := va_S.rf
  have hl := lv_entry ([.ref h0, .int p0, .int p1, .int p2]) (n := 4) (Nat.le_of_ble_eq_true rfl)
  rw [lg_entry_eq]
  generalize (lg_sl ([.ref h0, .int p0, .int p1, .int p2]) ++ List.replicate (4 - (lg_sl ([.ref h0, .int p0, .int p1, .int p2])).length) Slot.unset).toArray = ls at hl ⊢
  have hl : lv_has ls 4 [(0, .ref h0), (1, .int p0), (2, .int p1), (3, .int p2)] := hl
  refine lv_aload_n hx hb dX9_withFull_0 rfl (lv_at hl 0 rfl) ?_
  refine va_get (D := (dC, dI)) (ci := 9) (v := .ref bh) (C := RX9) (T := TX9) (N := 6) hx hb hts (fun w h => List.mem_cons_of_mem _ (jnGA_X9 w h)) hown hK hP 0 rfl rfl 1 (by decide) (hts _ (List.mem_cons_of_mem _ mGA_112)) (fun _ h9 => h9) rfl dX9_withFull_1 ?_
  refine lv_iload_n hx hb dX9_withFull_4 rfl (lv_at hl 1 rfl) ?_
  refine lv_iconst (v := 1) hx hb dX9_withFull_5 (by decide) ?_
  refine lv_iadd hx hb dX9_withFull_6 ?_
  refine lv_topi (fun x_6 ex_6 => ?_)
  have gx_6 : gi x_6 1 24 := gi_add ex_6 gp0 (gi_c 1 1 (by decide)) (by decide)
  refine lv_iload_n hx hb dX9_withFull_7 rfl (lv_at hl 2 rfl) ?_
  refine lv_iconst (v := 1) hx hb dX9_withFull_8 (by decide) ?_
  refine lv_iadd hx hb dX9_withFull_9 ?_
  refine lv_topi (fun x_7 ex_7 => ?_)
  have gx_7 : gi x_7 1 24 := gi_add ex_7 gp1 (gi_c 1 1 (by decide)) (by decide)
  refine lv_iload_n hx hb dX9_withFull_10 rfl (lv_at hl 3 rfl) ?_
  refine lv_aload_n hx hb dX9_withFull_11 rfl (lv_at hl 0 rfl) ?_
  refine va_get (D := (dC, dI)) (ci := 9) (v := .int full) (C := RX9) (T := TX9) (N := 6) hx hb hts (fun w h => List.mem_cons_of_mem _ (jnGA_X9 w h)) hown hK hP 0 rfl rfl 4 (by decide) (hts _ (List.mem_cons_of_mem _ mGA_562)) (fun _ h9 => h9) rfl dX9_withFull_12 ?_
  have hPc := hP.sub (ws' := []) [] rfl
  have hKc := hK.sub (tys' := []) [] rfl
  refine va_calli (va_runSN (As := [.int p2, .int full]) (rest := [.int x_7, .int x_6, .ref bh]) ⟨hx, hb, hml, hown, hts⟩ (sX11_runWithFull l dC dI p2 full gp2 gfull) (⟨va_cnB 2 hts (gz_gP mGA_508 goodGA) rfl rfl rfl (nzA_X9_74 hz) (hts _ (List.mem_cons_of_mem _ mGA_1)) (by decide +kernel) ⟨Nat.le_of_ble_eq_true rfl, Nat.le_of_ble_eq_true rfl⟩, (hts _ (List.mem_cons_of_mem _ mGA_507)), trivial⟩) ⟨bl_I (bl_a bl_P (bl_a bl_K bl_nz)), fun U hU hW => ⟨rfl, by rw [hU]; exact hPc, va_K.moved hW.alike hKc, nzA_warm hW hz⟩⟩ rfl rfl hl.1 rfl (lv_room (Nat.le_of_ble_eq_true rfl)) dX9_withFull_15 ⟨Nat.zero_le _, Nat.zero_le _⟩) hS (fun q _ h => h.elim) (fun q h => h.elim) (fun r_8 u t H1 locs ht hvm hw hB hz1 hk1 hS => ?_)
  have hP := gz_keep hP hk1
  generalize H1 = H at hP hS ⊢
  have gr_8 : gi r_8 0 5 := hw
  have hPc := hP.sub (ws' := []) [] rfl
  have hKc := hK.sub (tys' := []) [] rfl
  refine va_calli (va_runSN (As := [.int x_6, .int x_7, .int r_8]) (rest := [.ref bh]) ⟨hx, hb, hml, hown, hts⟩ (sX11_spot l dC dI x_6 x_7 r_8 (gi_w gx_6 (by decide)) (gi_w gx_7 (by decide)) (gi_w gr_8 (by decide))) (⟨va_cnB 3 hts (gz_gP mGA_582 goodGA) rfl rfl rfl (nzA_X9_63 hz) (hts _ (List.mem_cons_of_mem _ mGA_1)) (by decide +kernel) ⟨Nat.le_of_ble_eq_true rfl, Nat.le_of_ble_eq_true rfl⟩, (hts _ (List.mem_cons_of_mem _ mGA_581)), trivial⟩) ⟨bl_I (bl_a bl_P (bl_a bl_K bl_nz)), fun U hU hW => ⟨rfl, by rw [hU]; exact hPc, va_K.moved hW.alike hKc, nzA_warm hW hz⟩⟩ rfl rfl hl.1 rfl (lv_room (Nat.le_of_ble_eq_true rfl)) dX9_withFull_18 ⟨Nat.zero_le _, Nat.zero_le _⟩) hS (fun q _ h => h.elim) (fun q h => h.elim) (fun r_9 u t H1 locs ht hvm hw hB hz1 hk1 hS => ?_)
  have hP := gz_keep hP hk1
  generalize H1 = H at hP hS ⊢
  have gr_9 : gi r_9 0 3574 := hw
  refine va_iald hx hb hK hP 1 0 rfl rfl (gi_in gr_9 (by decide)) dX9_withFull_21 ?_
  refine lv_topi (fun x_10 ex_10 => ?_)
  exact W.iret (v := x_10) hx hb hr (fun t ht hW => ⟨⟨x_10, (), rfl, (gi_any x_10), trivial⟩, hS.F ht⟩) hS.2.2 dX9_withFull_22
theorem dX9_withLean_0 : decode cX9_withLean 0 = .ok (.aload_n 0, 1) := by decide +kernel
theorem dX9_withLean_1 : decode cX9_withLean 1 = .ok (.getfield 15, 3) := by decide +kernel
theorem dX9_withLean_4 : decode cX9_withLean 4 = .ok (.iload_n 1, 1) := by decide +kernel
theorem dX9_withLean_5 : decode cX9_withLean 5 = .ok (.iconst 1, 1) := by decide +kernel
theorem dX9_withLean_6 : decode cX9_withLean 6 = .ok (.iadd, 1) := by decide +kernel
theorem dX9_withLean_7 : decode cX9_withLean 7 = .ok (.iload_n 2, 1) := by decide +kernel
theorem dX9_withLean_8 : decode cX9_withLean 8 = .ok (.iload_n 3, 1) := by decide +kernel
theorem dX9_withLean_9 : decode cX9_withLean 9 = .ok (.aload_n 0, 1) := by decide +kernel
theorem dX9_withLean_10 : decode cX9_withLean 10 = .ok (.getfield 31, 3) := by decide +kernel
theorem dX9_withLean_13 : decode cX9_withLean 13 = .ok (.aload_n 0, 1) := by decide +kernel
theorem dX9_withLean_14 : decode cX9_withLean 14 = .ok (.getfield 35, 3) := by decide +kernel
theorem dX9_withLean_17 : decode cX9_withLean 17 = .ok (.invokestatic 78, 3) := by decide +kernel
theorem dX9_withLean_20 : decode cX9_withLean 20 = .ok (.invokestatic 63, 3) := by decide +kernel
theorem dX9_withLean_23 : decode cX9_withLean 23 = .ok (.iaload, 1) := by decide +kernel
theorem dX9_withLean_24 : decode cX9_withLean 24 = .ok (.ireturn, 1) := by decide +kernel
set_option maxHeartbeats 4000000 in
set_option maxRecDepth 100000 in
theorem sX9_withLean (l : Launch) (dC : Nat → ClassId) (dI : Nat → Nat → Nat) (h0 : Nat) (bh : Nat) (bf : Nat) (sa : Nat) (months : Int32) (full : Int32) (lean : Int32) (kbh : ClassId) (fbh : Nat → Int32) (p0 : Int32) (p1 : Int32) (p2 : Int32) (gmonths : gi months 0 24) (gfull : gi full 0 5) (glean : gi lean 0 5) (gp0 : gi p0 0 23) (gp1 : gi p1 0 24) (gp2 : gi p2 0 10) : Met l yX9_withLean (.code yX9_withLean cX9_withLean 4 (some .int) :: wsGA) ({ frames := 2, cells := 0, slots := 0, locals := 43 }) (va_Pc [.ref h0, .int p0, .int p1, .int p2] (fun U => va_P (dC, dI) vwCl [(h0, .inr (9, [.ref bf, .ref bh, .ref sa, .int months, .int full, .int lean])), (bh, .inl (kbh, 3575, .inl fbh))] U.heap ∧ va_K (dC, dI) vwCl [(kbh, .int)] U ∧ nzA U)) (va_Qi (fun (r : Int32) (u : Unit) => gi r (-2147483648) 2147483647) (fun _ _ => True) (fun _ => False)) 0 0 (fun _ => False) := by
  refine Met.ofW (cc := cX9_withLean) (maxL := 4) (ret := (some .int)) (by decide) rfl ?_
  intro p e s m args below meth c s₁ B hml hv
  obtain ⟨rfl, hP, hK, hz⟩ := hv
  have hx := B.exec
  have hb := B.bytes
  have hr := B.returns
  have hts := atoms_spec (ws := (.code yX9_withLean cX9_withLean 4 (some .int) :: wsGA)) B.pre
  have hown : s.vm.findClass RX9 = some m.cls := findClass_of_methodNamed B.named
  have hlocks := B.notSynchronized
  have hS : va_S (fun _ => False) s.heap s.heap [] := va_S.rf
  have hl := lv_entry ([.ref h0, .int p0, .int p1, .int p2]) (n := 4) (Nat.le_of_ble_eq_true rfl)
  rw [lg_entry_eq]
  generalize (lg_sl ([.ref h0, .int p0, .int p1, .int p2]) ++ List.replicate (4 - (lg_sl ([.ref h0, .int p0, .int p1, .int p2])).length) Slot.unset).toArray = ls at hl ⊢
  have hl : lv_has ls 4 [(0, .ref h0), (1, .int p0), (2, .int p1), (3, .int p2)] := hl
  refine lv_aload_n hx hb dX9_withLean_0 rfl (lv_at hl 0 rfl) ?_
  refine va_get (D := (dC, dI)) (ci := 9) (v := .ref bh) (C := RX9) (T := TX9) (N := 6) hx hb hts (fun w h => List.mem_cons_of_mem _ (jnGA_X9 w h)) hown hK hP 0 rfl rfl 1 (by decide) (hts _ (List.mem_cons_of_mem _ mGA_112)) (fun _ h9 => h9) rfl dX9_withLean_1 ?_
  refine lv_iload_n hx hb dX9_withLean_4 rfl (lv_at hl 1 rfl) ?_
  refine lv_iconst (v := 1) hx hb dX9_withLean_5 (by decide) ?_
  refine lv_iadd hx hb dX9_withLean_6 ?_
  refine lv_topi (fun x_5 ex_5 => ?_)
  have gx_5 : gi x_5 1 24 := gi_add ex_5 gp0 (gi_c 1 1 (by decide)) (by decide)
  refine lv_iload_n hx hb dX9_withLean_7 rfl (lv_at hl 2 rfl) ?_
  refine lv_iload_n hx hb dX9_withLean_8 rfl (lv_at hl 3 rfl) ?_
  refine lv_aload_n hx hb dX9_withLean_9 rfl (lv_at hl 0 rfl) ?_
  refine va_get (D := (dC, dI)) (ci := 9) (v := .int full) (C := RX9) (T := TX9) (N := 6) hx hb hts (fun w h => List.mem_cons_of_mem _ (jnGA_X9 w h)) hown hK hP 0 rfl rfl 4 (by decide) (hts _ (List.mem_cons_of_mem _ mGA_562)) (fun _ h9 => h9) rfl dX9_withLean_10 ?_
  refine lv_aload_n hx hb dX9_withLean_13 rfl (lv_at hl 0 rfl) ?_
  refine va_get (D := (dC, dI)) (ci := 9) (v := .int lean) (C := RX9) (T := TX9) (N := 6) hx hb hts (fun w h => List.mem_cons_of_mem _ (jnGA_X9 w h)) hown hK hP 0 rfl rfl 5 (by decide) (hts _ (List.mem_cons_of_mem _ mGA_564)) (fun _ h9 => h9) rfl dX9_withLean_14 ?_
  have hPc := hP.sub (ws' := []) [] rfl
  have hKc := hK.sub (tys' := []) [] rfl
  refine va_calli (va_runSN (As := [.int p2, .int full, .int lean]) (rest := [.int p1, .int x_5, .ref bh]) ⟨hx, hb, hml, hown, hts⟩ (sX11_runWithLean l dC dI p2 full lean gp2 gfull glean) (⟨va_cnB 3 hts (gz_gP mGA_510 goodGA) rfl rfl rfl (nzA_X9_78 hz) (hts _ (List.mem_cons_of_mem _ mGA_1)) (by decide +kernel) ⟨Nat.le_of_ble_eq_true rfl, Nat.le_of_ble_eq_true rfl⟩, (hts _ (List.mem_cons_of_mem _ mGA_509)), trivial⟩) ⟨bl_I (bl_a bl_P (bl_a bl_K bl_nz)), fun U hU hW => ⟨rfl, by rw [hU]; exact hPc, va_K.moved hW.alike hKc, nzA_warm hW hz⟩⟩ rfl rfl hl.1 rfl (lv_room (Nat.le_of_ble_eq_true rfl)) dX9_withLean_17 ⟨Nat.zero_le _, Nat.zero_le _⟩) hS (fun q _ h => h.elim) (fun q h => h.elim) (fun r_6 u t H1 locs ht hvm hw hB hz1 hk1 hS => ?_)
  have hP := gz_keep hP hk1
  generalize H1 = H at hP hS ⊢
  have gr_6 : gi r_6 0 10 := hw
  have hPc := hP.sub (ws' := []) [] rfl
  have hKc := hK.sub (tys' := []) [] rfl
  refine va_calli (va_runSN (As := [.int x_5, .int p1, .int r_6]) (rest := [.ref bh]) ⟨hx, hb, hml, hown, hts⟩ (sX11_spot l dC dI x_5 p1 r_6 (gi_w gx_5 (by decide)) gp1 gr_6) (⟨va_cnB 3 hts (gz_gP mGA_582 goodGA) rfl rfl rfl (nzA_X9_63 hz) (hts _ (List.mem_cons_of_mem _ mGA_1)) (by decide +kernel) ⟨Nat.le_of_ble_eq_true rfl, Nat.le_of_ble_eq_true rfl⟩, (hts _ (List.mem_cons_of_mem _ mGA_581)), trivial⟩) ⟨bl_I (bl_a bl_P (bl_a bl_K bl_nz)), fun U hU hW => ⟨rfl, by rw [hU]; exact hPc, va_K.moved hW.alike hKc, nzA_warm hW hz⟩⟩ rfl rfl hl.1 rfl (lv_room (Nat.le_of_ble_eq_true rfl)) dX9_withLean_20 ⟨Nat.zero_le _, Nat.zero_le _⟩) hS (fun q _ h => h.elim) (fun q h => h.elim) (fun r_7 u t H1 locs ht hvm hw hB hz1 hk1 hS => ?_)
  have hP := gz_keep hP hk1
  generalize H1 = H at hP hS ⊢
  have gr_7 : gi r_7 0 3574 := hw
  refine va_iald hx hb hK hP 1 0 rfl rfl (gi_in gr_7 (by decide)) dX9_withLean_23 ?_
  refine lv_topi (fun x_8 ex_8 => ?_)
  exact W.iret (v := x_8) hx hb hr (fun t ht hW => ⟨⟨x_8, (), rfl, (gi_any x_8), trivial⟩, hS.F ht⟩) hS.2.2 dX9_withLean_24
theorem dX9_total_0 : decode cX9_total 0 = .ok (.aload_n 0, 1) := by decide +kernel
theorem dX9_total_1 : decode cX9_total 1 = .ok (.getfield 15, 3) := by decide +kernel
theorem dX9_total_4 : decode cX9_total 4 = .ok (.iconst 0, 1) := by decide +kernel
theorem dX9_total_5 : decode cX9_total 5 = .ok (.iaload, 1) := by decide +kernel
theorem dX9_total_6 : decode cX9_total 6 = .ok (.ireturn, 1) := by decide +kernel
set_option maxHeartbeats 4000000 in
set_option maxRecDepth 100000 in
theorem sX9_total (l : Launch) (dC : Nat → ClassId) (dI : Nat → Nat → Nat) (h0 : Nat) (bh : Nat) (bf : Nat) (sa : Nat) (months : Int32) (full : Int32) (lean : Int32) (kbh : ClassId) (fbh : Nat → Int32) (gmonths : gi months 0 24) (gfull : gi full 0 5) (glean : gi lean 0 5) : Met l yX9_total (.code yX9_total cX9_total 1 (some .int) :: wsGA) ({ frames := 0, cells := 0, slots := 0, locals := 0 }) (va_Pc [.ref h0] (fun U => va_P (dC, dI) vwCl [(h0, .inr (9, [.ref bf, .ref bh, .ref sa, .int months, .int full, .int lean])), (bh, .inl (kbh, 3575, .inl fbh))] U.heap ∧ va_K (dC, dI) vwCl [(kbh, .int)] U ∧ nzA U)) (va_Qi (fun (r : Int32) (u : Unit) => gi r (-2147483648) 2147483647) (fun _ _ => True) (fun _ => False)) 0 0 (fun _ => False) := by
  refine Met.ofW (cc := cX9_total) (maxL := 1) (ret := (some .int)) (by decide) rfl ?_
  intro p e s m args below meth c s₁ B hml hv
  obtain ⟨rfl, hP, hK, hz⟩ := hv
  have hx := B.exec
  have hb := B.bytes
  have hr := B.returns
  have hts := atoms_spec (ws := (.code yX9_total cX9_total 1 (some .int) :: wsGA)) B.pre
  have hown : s.vm.findClass RX9 = some m.cls := findClass_of_methodNamed B.named
  have hlocks := B.notSynchronized
  have hS : va_S (fun _ => False) s.heap s.heap [] := va_S.rf
  have hl := lv_entry ([.ref h0]) (n := 1) (Nat.le_of_ble_eq_true rfl)
  rw [lg_entry_eq]
  generalize (lg_sl ([.ref h0]) ++ List.replicate (1 - (lg_sl ([.ref h0])).length) Slot.unset).toArray = ls at hl ⊢
  have hl : lv_has ls 1 [(0, .ref h0)] := hl
  refine lv_aload_n hx hb dX9_total_0 rfl (lv_at hl 0 rfl) ?_
  refine va_get (D := (dC, dI)) (ci := 9) (v := .ref bh) (C := RX9) (T := TX9) (N := 6) hx hb hts (fun w h => List.mem_cons_of_mem _ (jnGA_X9 w h)) hown hK hP 0 rfl rfl 1 (by decide) (hts _ (List.mem_cons_of_mem _ mGA_112)) (fun _ h9 => h9) rfl dX9_total_1 ?_
  refine lv_iconst (v := 0) hx hb dX9_total_4 (by decide) ?_
  refine va_iald hx hb hK hP 1 0 rfl rfl (gi_in (gi_c 0 0 (by decide)) (by decide)) dX9_total_5 ?_
  refine lv_topi (fun x_2 ex_2 => ?_)
  exact W.iret (v := x_2) hx hb hr (fun t ht hW => ⟨⟨x_2, (), rfl, (gi_any x_2), trivial⟩, hS.F ht⟩) hS.2.2 dX9_total_6
theorem dX9_onDay_0 : decode cX9_onDay 0 = .ok (.iload_n 2, 1) := by decide +kernel
theorem dX9_onDay_1 : decode cX9_onDay 1 = .ok (.bipush 29, 2) := by decide +kernel
theorem dX9_onDay_3 : decode cX9_onDay 3 = .ok (.iload_n 1, 1) := by decide +kernel
theorem dX9_onDay_4 : decode cX9_onDay 4 = .ok (.imul, 1) := by decide +kernel
theorem dX9_onDay_5 : decode cX9_onDay 5 = .ok (.isub, 1) := by decide +kernel
theorem dX9_onDay_6 : decode cX9_onDay 6 = .ok (.istore_n 3, 1) := by decide +kernel
theorem dX9_onDay_7 : decode cX9_onDay 7 = .ok (.iload_n 3, 1) := by decide +kernel
theorem dX9_onDay_8 : decode cX9_onDay 8 = .ok (.ifCond .lt 8, 3) := by decide +kernel
theorem dX9_onDay_11 : decode cX9_onDay 11 = .ok (.iload_n 3, 1) := by decide +kernel
theorem dX9_onDay_12 : decode cX9_onDay 12 = .ok (.iload_n 1, 1) := by decide +kernel
theorem dX9_onDay_13 : decode cX9_onDay 13 = .ok (.if_icmp .le 7, 3) := by decide +kernel
theorem dX9_onDay_16 : decode cX9_onDay 16 = .ok (.iconst 0, 1) := by decide +kernel
theorem dX9_onDay_17 : decode cX9_onDay 17 = .ok (.goto 13, 3) := by decide +kernel
theorem dX9_onDay_20 : decode cX9_onDay 20 = .ok (.aload_n 0, 1) := by decide +kernel
theorem dX9_onDay_21 : decode cX9_onDay 21 = .ok (.getfield 18, 3) := by decide +kernel
theorem dX9_onDay_24 : decode cX9_onDay 24 = .ok (.iload_n 1, 1) := by decide +kernel
theorem dX9_onDay_25 : decode cX9_onDay 25 = .ok (.iload_n 3, 1) := by decide +kernel
theorem dX9_onDay_26 : decode cX9_onDay 26 = .ok (.invokestatic 92, 3) := by decide +kernel
theorem dX9_onDay_29 : decode cX9_onDay 29 = .ok (.iaload, 1) := by decide +kernel
theorem dX9_onDay_30 : decode cX9_onDay 30 = .ok (.ireturn, 1) := by decide +kernel
set_option maxHeartbeats 4000000 in
set_option maxRecDepth 100000 in
theorem sX9_onDay (l : Launch) (dC : Nat → ClassId) (dI : Nat → Nat → Nat) (h0 : Nat) (sa : Nat) (bf : Nat) (bh : Nat) (months : Int32) (full : Int32) (lean : Int32) (ksa : ClassId) (fsa : Nat → Int32) (p0 : Int32) (p1 : Int32) (gmonths : gi months 0 24) (gfull : gi full 0 5) (glean : gi lean 0 5) (gp0 : gi p0 0 24) : Met l yX9_onDay (.code yX9_onDay cX9_onDay 4 (some .int) :: wsGA) ({ frames := 1, cells := 0, slots := 0, locals := 21 }) (va_Pc [.ref h0, .int p0, .int p1] (fun U => va_P (dC, dI) vwCl [(h0, .inr (9, [.ref bf, .ref bh, .ref sa, .int months, .int full, .int lean])), (sa, .inl (ksa, 325, .inl fsa))] U.heap ∧ va_K (dC, dI) vwCl [(ksa, .int)] U ∧ nzA U)) (va_Qi (fun (r : Int32) (u : Unit) => gi r (-2147483648) 2147483647) (fun _ _ => True) (fun _ => False)) 0 0 (fun _ => False) := by
  refine Met.ofW (cc := cX9_onDay) (maxL := 4) (ret := (some .int)) (by decide) rfl ?_
  intro p e s m args below meth c s₁ B hml hv
  obtain ⟨rfl, hP, hK, hz⟩ := hv
  have hx := B.exec
  have hb := B.bytes
  have hr := B.returns
  have hts := atoms_spec (ws := (.code yX9_onDay cX9_onDay 4 (some .int) :: wsGA)) B.pre
  have hown : s.vm.findClass RX9 = some m.cls := findClass_of_methodNamed B.named
  have hlocks := B.notSynchronized
  have hS : va_S (fun _ => False) s.heap s.heap [] := va_S.rf
  have hl := lv_entry ([.ref h0, .int p0, .int p1]) (n := 4) (Nat.le_of_ble_eq_true rfl)
  rw [lg_entry_eq]
  generalize (lg_sl ([.ref h0, .int p0, .int p1]) ++ List.replicate (4 - (lg_sl ([.ref h0, .int p0, .int p1])).length) Slot.unset).toArray = ls at hl ⊢
  have hl : lv_has ls 4 [(0, .ref h0), (1, .int p0), (2, .int p1)] := hl
  refine lv_iload_n hx hb dX9_onDay_0 rfl (lv_at hl 2 rfl) ?_
  refine lv_bipush (v := 29) hx hb dX9_onDay_1 (by decide) ?_
  refine lv_iload_n hx hb dX9_onDay_3 rfl (lv_at hl 1 rfl) ?_
  refine lv_imul hx hb dX9_onDay_4 ?_
  refine lv_topi (fun x_11 ex_11 => ?_)
  have gx_11 : gi x_11 0 696 := gi_mul ex_11 (gi_c 29 29 (by decide)) gp0 (by decide)
  refine lv_isub hx hb dX9_onDay_5 ?_
  refine lv_topi (fun x_12 ex_12 => ?_)
  refine lv_istore_n (lv' := [(3, .int x_12), (0, .ref h0), (1, .int p0), (2, .int p1)]) hx hb dX9_onDay_6 rfl hl (by decide) rfl (fun ls hl => ?_)
  refine lv_iload_n hx hb dX9_onDay_7 rfl (lv_at hl 0 rfl) ?_
  refine lv_if_lt (tgt := 16) hx hb dX9_onDay_8 (by decide) (fun c_13 => ?_) (fun c_13 => ?_)
  · have g_14 : gi x_12 (-2147483648) (-1) := gi_lt_l c_13 (gi_any x_12) (gi_c 0 0 (by decide)) (by decide)
    refine lv_iconst (v := 0) hx hb dX9_onDay_16 (by decide) ?_
    refine lv_goto (tgt := 30) hx hb dX9_onDay_17 (by decide) ?_
    exact W.iret (v := 0) hx hb hr (fun t ht hW => ⟨⟨0, (), rfl, (gi_any 0), trivial⟩, hS.F ht⟩) hS.2.2 dX9_onDay_30
  · have g_15 : gi x_12 0 2147483647 := gi_le_r (Int32.not_lt.mp c_13) (gi_c 0 0 (by decide)) (gi_any x_12)
    refine lv_iload_n hx hb dX9_onDay_11 rfl (lv_at hl 0 rfl) ?_
    refine lv_iload_n hx hb dX9_onDay_12 rfl (lv_at hl 2 rfl) ?_
    refine lv_icmp_le (tgt := 20) hx hb dX9_onDay_13 (by decide) (fun c_16 => ?_) (fun c_16 => ?_)
    · have g_17 : gi x_12 0 24 := gi_le_l c_16 g_15 gp0
      refine lv_aload_n hx hb dX9_onDay_20 rfl (lv_at hl 1 rfl) ?_
      refine va_get (D := (dC, dI)) (ci := 9) (v := .ref sa) (C := RX9) (T := TX9) (N := 6) hx hb hts (fun w h => List.mem_cons_of_mem _ (jnGA_X9 w h)) hown hK hP 0 rfl rfl 2 (by decide) (hts _ (List.mem_cons_of_mem _ mGA_113)) (fun _ h9 => h9) rfl dX9_onDay_21 ?_
      refine lv_iload_n hx hb dX9_onDay_24 rfl (lv_at hl 2 rfl) ?_
      refine lv_iload_n hx hb dX9_onDay_25 rfl (lv_at hl 0 rfl) ?_
      have hPc := hP.sub (ws' := []) [] rfl
      have hKc := hK.sub (tys' := []) [] rfl
      refine va_calli (va_runSN (As := [.int p0, .int x_12]) (rest := [.ref sa]) ⟨hx, hb, hml, hown, hts⟩ (sX11_cell l dC dI p0 x_12 gp0 g_17) (⟨va_cnB 2 hts (gz_gP mGA_585 goodGA) rfl rfl rfl (nzA_X9_92 hz) (hts _ (List.mem_cons_of_mem _ mGA_1)) (by decide +kernel) ⟨Nat.le_of_ble_eq_true rfl, Nat.le_of_ble_eq_true rfl⟩, (hts _ (List.mem_cons_of_mem _ mGA_584)), trivial⟩) ⟨bl_I (bl_a bl_P (bl_a bl_K bl_nz)), fun U hU hW => ⟨rfl, by rw [hU]; exact hPc, va_K.moved hW.alike hKc, nzA_warm hW hz⟩⟩ rfl rfl hl.1 rfl (lv_room (Nat.le_of_ble_eq_true rfl)) dX9_onDay_26 ⟨Nat.zero_le _, Nat.zero_le _⟩) hS (fun q _ h => h.elim) (fun q h => h.elim) (fun r_18 u t H1 locs ht hvm hw hB hz1 hk1 hS => ?_)
      have hP := gz_keep hP hk1
      generalize H1 = H at hP hS ⊢
      have gr_18 : gi r_18 0 324 := hw
      refine va_iald hx hb hK hP 1 0 rfl rfl (gi_in gr_18 (by decide)) dX9_onDay_29 ?_
      refine lv_topi (fun x_19 ex_19 => ?_)
      exact W.iret (v := x_19) hx hb hr (fun t ht hW => ⟨⟨x_19, (), rfl, (gi_any x_19), trivial⟩, hS.F ht⟩) hS.2.2 dX9_onDay_30
    · have g_20 : gi x_12 1 2147483647 := gi_lt_r (Int32.not_le.mp c_16) gp0 g_15 (by decide)
      refine lv_iconst (v := 0) hx hb dX9_onDay_16 (by decide) ?_
      refine lv_goto (tgt := 30) hx hb dX9_onDay_17 (by decide) ?_
      exact W.iret (v := 0) hx hb hr (fun t ht hW => ⟨⟨0, (), rfl, (gi_any 0), trivial⟩, hS.F ht⟩) hS.2.2 dX9_onDay_30
theorem dX9_onWeekday_0 : decode cX9_onWeekday 0 = .ok (.iconst 0, 1) := by decide +kernel
theorem dX9_onWeekday_1 : decode cX9_onWeekday 1 = .ok (.istore 4, 2) := by decide +kernel
theorem dX9_onWeekday_3 : decode cX9_onWeekday 3 = .ok (.iconst 0, 1) := by decide +kernel
theorem dX9_onWeekday_4 : decode cX9_onWeekday 4 = .ok (.istore 5, 2) := by decide +kernel
theorem dX9_onWeekday_6 : decode cX9_onWeekday 6 = .ok (.iload 5, 2) := by decide +kernel
theorem dX9_onWeekday_8 : decode cX9_onWeekday 8 = .ok (.iload_n 1, 1) := by decide +kernel
theorem dX9_onWeekday_9 : decode cX9_onWeekday 9 = .ok (.if_icmp .gt 40, 3) := by decide +kernel
theorem dX9_onWeekday_12 : decode cX9_onWeekday 12 = .ok (.iload_n 1, 1) := by decide +kernel
theorem dX9_onWeekday_13 : decode cX9_onWeekday 13 = .ok (.iload 5, 2) := by decide +kernel
theorem dX9_onWeekday_15 : decode cX9_onWeekday 15 = .ok (.invokestatic 95, 3) := by decide +kernel
theorem dX9_onWeekday_18 : decode cX9_onWeekday 18 = .ok (.iload_n 2, 1) := by decide +kernel
theorem dX9_onWeekday_19 : decode cX9_onWeekday 19 = .ok (.iadd, 1) := by decide +kernel
theorem dX9_onWeekday_20 : decode cX9_onWeekday 20 = .ok (.bipush 7, 2) := by decide +kernel
theorem dX9_onWeekday_22 : decode cX9_onWeekday 22 = .ok (.irem, 1) := by decide +kernel
theorem dX9_onWeekday_23 : decode cX9_onWeekday 23 = .ok (.iload_n 3, 1) := by decide +kernel
theorem dX9_onWeekday_24 : decode cX9_onWeekday 24 = .ok (.if_icmp .ne 19, 3) := by decide +kernel
theorem dX9_onWeekday_27 : decode cX9_onWeekday 27 = .ok (.iload 4, 2) := by decide +kernel
theorem dX9_onWeekday_29 : decode cX9_onWeekday 29 = .ok (.aload_n 0, 1) := by decide +kernel
theorem dX9_onWeekday_30 : decode cX9_onWeekday 30 = .ok (.getfield 18, 3) := by decide +kernel
theorem dX9_onWeekday_33 : decode cX9_onWeekday 33 = .ok (.iload_n 1, 1) := by decide +kernel
theorem dX9_onWeekday_34 : decode cX9_onWeekday 34 = .ok (.iload 5, 2) := by decide +kernel
theorem dX9_onWeekday_36 : decode cX9_onWeekday 36 = .ok (.invokestatic 92, 3) := by decide +kernel
theorem dX9_onWeekday_39 : decode cX9_onWeekday 39 = .ok (.iaload, 1) := by decide +kernel
theorem dX9_onWeekday_40 : decode cX9_onWeekday 40 = .ok (.iadd, 1) := by decide +kernel
theorem dX9_onWeekday_41 : decode cX9_onWeekday 41 = .ok (.istore 4, 2) := by decide +kernel
theorem dX9_onWeekday_43 : decode cX9_onWeekday 43 = .ok (.iinc 5 1, 3) := by decide +kernel
theorem dX9_onWeekday_46 : decode cX9_onWeekday 46 = .ok (.goto (-40), 3) := by decide +kernel
theorem dX9_onWeekday_49 : decode cX9_onWeekday 49 = .ok (.iload 4, 2) := by decide +kernel
theorem dX9_onWeekday_51 : decode cX9_onWeekday 51 = .ok (.ireturn, 1) := by decide +kernel
set_option maxHeartbeats 4000000 in
set_option maxRecDepth 100000 in
theorem lp_sX9_onWeekday {p : Program} {l : Launch} {e : Env} {R : Room} {s : State} {m : MethodId} {args : Array Value} {below : List Frame} {meth : Method} {c : Code} {Q : State → Prop} {A : Nat → Prop} {cells slots : Nat} {dC : Nat → ClassId} {dI : Nat → Nat → Nat} (h0 : Nat) (sa : Nat) (bf : Nat) (bh : Nat) (months : Int32) (full : Int32) (lean : Int32) (ksa : ClassId) (fsa : Nat → Int32) (p0 : Int32) (p1 : Int32) (p2 : Int32) (gmonths : gi months 0 24) (gfull : gi full 0 5) (glean : gi lean 0 5) (gp0 : gi p0 0 24) (hx : p.tables.exec = Jvm.exec) (hb : c.code = cX9_onWeekday) (hml : c.maxLocals = 6) (hown : s.vm.findClass RX9 = some m.cls) (hts : ∀ w ∈ ((.code yX9_onWeekday cX9_onWeekday 6 (some .int) :: wsGA) : List Cond), w.before args s = true) (hK : va_K (dC, dI) vwCl [(ksa, .int)] s) (hz : nzA s) (hRf : 1 ≤ R.frames) (hRl : 21 ≤ R.locals) (hRc : cells ≤ R.cells) (hRs : slots ≤ R.slots) (kr51 : ∀ (v : Int32) (H : Heap) (locs : List Loc) (ls : Array Slot), va_P (dC, dI) vwCl [(h0, .inr (9, [.ref bf, .ref bh, .ref sa, .int months, .int full, .int lean])), (sa, .inl (ksa, 325, .inl fsa))] H → va_S A s.heap H locs → lv_has ls 6 [] → W p l e R s m args below meth c H locs cells slots Q (F0 m 51 ls [.int v])) : ∀ z : Nat, (∀ (v4 : Int32) (v5 : Int32) (H : Heap) (locs : List Loc) (ls : Array Slot), gi v5 0 25 → 51 + (-2) * v5.toInt < (z : Int) → va_P (dC, dI) vwCl [(h0, .inr (9, [.ref bf, .ref bh, .ref sa, .int months, .int full, .int lean])), (sa, .inl (ksa, 325, .inl fsa))] H → va_S A s.heap H locs → lv_has ls 6 [(0, .ref h0), (1, .int p0), (2, .int p1), (3, .int p2), (4, .int v4), (5, .int v5)] → W p l e R s m args below meth c H locs cells slots Q (F0 m 6 ls [])) := by
  intro z
  induction z with
  | zero =>
    intro v4 v5 H locs ls gv5 hmu hP hS hl
    exact absurd hmu (by have hv51 := gv5.1; have hv52 := gv5.2; omega)
  | succ z ih =>
      intro v4 v5 H locs ls gv5 hmu hP hS hl
      refine lv_iload hx hb dX9_onWeekday_6 (lv_at hl 5 rfl) ?_
      refine lv_iload_n hx hb dX9_onWeekday_8 rfl (lv_at hl 1 rfl) ?_
      refine lv_icmp_gt (tgt := 49) hx hb dX9_onWeekday_9 (by decide) (fun c_191 => ?_) (fun c_191 => ?_)
      · have g_192 : gi v5 1 25 := gi_lt_r c_191 gp0 gv5 (by decide)
        refine lv_iload hx hb dX9_onWeekday_49 (lv_at hl 4 rfl) ?_
        exact kr51 v4 _ _ _ hP hS (lv_sub hl [] rfl)
      · have g_193 : gi v5 0 24 := gi_le_l (Int32.not_lt.mp c_191) gv5 gp0
        refine lv_iload_n hx hb dX9_onWeekday_12 rfl (lv_at hl 1 rfl) ?_
        refine lv_iload hx hb dX9_onWeekday_13 (lv_at hl 5 rfl) ?_
        have hPc := hP.sub (ws' := []) [] rfl
        have hKc := hK.sub (tys' := []) [] rfl
        refine va_calli (va_runSN (As := [.int p0, .int v5]) (rest := []) ⟨hx, hb, hml, hown, hts⟩ (sX11_dayOf l dC dI p0 v5) (⟨va_cnB 2 hts (gz_gP mGA_516 goodGA) rfl rfl rfl (nzA_X9_95 hz) (hts _ (List.mem_cons_of_mem _ mGA_1)) (by decide +kernel) ⟨Nat.le_trans (Nat.le_of_ble_eq_true rfl) hRf, Nat.le_trans (Nat.le_of_ble_eq_true rfl) hRl⟩, (hts _ (List.mem_cons_of_mem _ mGA_515)), trivial⟩) ⟨bl_I (bl_a bl_P (bl_a bl_K bl_nz)), fun U hU hW => ⟨rfl, by rw [hU]; exact hPc, va_K.moved hW.alike hKc, nzA_warm hW hz⟩⟩ rfl rfl hl.1 rfl (lv_room (Nat.le_of_ble_eq_true rfl)) dX9_onWeekday_15 ⟨hRc, hRs⟩) hS (fun q _ h => h.elim) (fun q h => h.elim) (fun r_194 u t H1 locs ht hvm hw hB hz1 hk1 hS => ?_)
        have hP := gz_keep hP hk1
        generalize H1 = H at hP hS ⊢
        refine lv_iload_n hx hb dX9_onWeekday_18 rfl (lv_at hl 2 rfl) ?_
        refine lv_iadd hx hb dX9_onWeekday_19 ?_
        refine lv_topi (fun x_195 ex_195 => ?_)
        refine lv_bipush (v := 7) hx hb dX9_onWeekday_20 (by decide) ?_
        refine lv_irem hx hb dX9_onWeekday_22 (by decide) ?_
        refine lv_topi (fun x_196 ex_196 => ?_)
        refine lv_iload_n hx hb dX9_onWeekday_23 rfl (lv_at hl 3 rfl) ?_
        refine lv_icmp_ne (tgt := 43) hx hb dX9_onWeekday_24 (by decide) (fun c_197 => ?_) (fun c_197 => ?_)
        · obtain ⟨x_198, ex_198⟩ : ∃ y : Int32, y = v5 + 1 := ⟨_, rfl⟩
          have gx_198 : gi x_198 1 25 := gi_add ex_198 g_193 (gi_c 1 1 (by decide)) (by decide)
          refine lv_iinc (v := x_198) (lv' := [(5, .int x_198), (0, .ref h0), (1, .int p0), (2, .int p1), (3, .int p2), (4, .int v4)]) hx hb dX9_onWeekday_43 hl (k := 5) rfl (by rw [ex_198]; rfl) (by decide) rfl (fun ls hl => ?_)
          refine lv_goto (tgt := 6) hx hb dX9_onWeekday_46 (by decide) ?_
          exact ih v4 x_198 _ _ _ (gi_w gx_198 (by decide)) (by have av5 := gv5.1; have bv5 := gv5.2; have qgx_198 := gx_198.1; have rgx_198 := gx_198.2; have igx_198 : x_198.toInt = v5.toInt + 1 := (by have hc1 : (1 : Int32).toInt = 1 := (by decide); have h9 := gi_addI ex_198 (by have h1 := g_193.1; have h2 := (gi_c 1 1 (by decide)).1; have h3 := g_193.2; have h4 := (gi_c 1 1 (by decide)).2; omega) (by have h1 := g_193.1; have h2 := (gi_c 1 1 (by decide)).1; have h3 := g_193.2; have h4 := (gi_c 1 1 (by decide)).2; omega); rw [hc1] at h9; exact h9); have qgv5 := g_193.1; have rgv5 := g_193.2; omega) hP hS (lv_sub hl [1, 2, 3, 4, 5, 0] rfl)
        · refine lv_iload hx hb dX9_onWeekday_27 (lv_at hl 4 rfl) ?_
          refine lv_aload_n hx hb dX9_onWeekday_29 rfl (lv_at hl 0 rfl) ?_
          refine va_get (D := (dC, dI)) (ci := 9) (v := .ref sa) (C := RX9) (T := TX9) (N := 6) hx hb hts (fun w h => List.mem_cons_of_mem _ (jnGA_X9 w h)) hown hK hP 0 rfl rfl 2 (by decide) (hts _ (List.mem_cons_of_mem _ mGA_113)) (fun _ h9 => h9) rfl dX9_onWeekday_30 ?_
          refine lv_iload_n hx hb dX9_onWeekday_33 rfl (lv_at hl 1 rfl) ?_
          refine lv_iload hx hb dX9_onWeekday_34 (lv_at hl 5 rfl) ?_
          have hPc := hP.sub (ws' := []) [] rfl
          have hKc := hK.sub (tys' := []) [] rfl
          refine va_calli (va_runSN (As := [.int p0, .int v5]) (rest := [.ref sa, .int v4]) ⟨hx, hb, hml, hown, hts⟩ (sX11_cell l dC dI p0 v5 gp0 g_193) (⟨va_cnB 2 hts (gz_gP mGA_585 goodGA) rfl rfl rfl (nzA_X9_92 hz) (hts _ (List.mem_cons_of_mem _ mGA_1)) (by decide +kernel) ⟨Nat.le_trans (Nat.le_of_ble_eq_true rfl) hRf, Nat.le_trans (Nat.le_of_ble_eq_true rfl) hRl⟩, (hts _ (List.mem_cons_of_mem _ mGA_584)), trivial⟩) ⟨bl_I (bl_a bl_P (bl_a bl_K bl_nz)), fun U hU hW => ⟨rfl, by rw [hU]; exact hPc, va_K.moved hW.alike hKc, nzA_warm hW hz⟩⟩ rfl rfl hl.1 rfl (lv_room (Nat.le_of_ble_eq_true rfl)) dX9_onWeekday_36 ⟨hRc, hRs⟩) hS (fun q _ h => h.elim) (fun q h => h.elim) (fun r_199 u t H1 locs ht hvm hw hB hz1 hk1 hS => ?_)
          have hP := gz_keep hP hk1
          generalize H1 = H at hP hS ⊢
          have gr_199 : gi r_199 0 324 := hw
          refine va_iald hx hb hK hP 1 0 rfl rfl (gi_in gr_199 (by decide)) dX9_onWeekday_39 ?_
          refine lv_topi (fun x_200 ex_200 => ?_)
          refine lv_iadd hx hb dX9_onWeekday_40 ?_
          refine lv_topi (fun x_201 ex_201 => ?_)
          refine lv_istore (lv' := [(4, .int x_201), (0, .ref h0), (1, .int p0), (2, .int p1), (3, .int p2), (5, .int v5)]) hx hb dX9_onWeekday_41 hl (by decide) rfl (fun ls hl => ?_)
          obtain ⟨x_202, ex_202⟩ : ∃ y : Int32, y = v5 + 1 := ⟨_, rfl⟩
          have gx_202 : gi x_202 1 25 := gi_add ex_202 g_193 (gi_c 1 1 (by decide)) (by decide)
          refine lv_iinc (v := x_202) (lv' := [(5, .int x_202), (4, .int x_201), (0, .ref h0), (1, .int p0), (2, .int p1), (3, .int p2)]) hx hb dX9_onWeekday_43 hl (k := 5) rfl (by rw [ex_202]; rfl) (by decide) rfl (fun ls hl => ?_)
          refine lv_goto (tgt := 6) hx hb dX9_onWeekday_46 (by decide) ?_
          exact ih x_201 x_202 _ _ _ (gi_w gx_202 (by decide)) (by have av5 := gv5.1; have bv5 := gv5.2; have qgx_202 := gx_202.1; have rgx_202 := gx_202.2; have igx_202 : x_202.toInt = v5.toInt + 1 := (by have hc1 : (1 : Int32).toInt = 1 := (by decide); have h9 := gi_addI ex_202 (by have h1 := g_193.1; have h2 := (gi_c 1 1 (by decide)).1; have h3 := g_193.2; have h4 := (gi_c 1 1 (by decide)).2; omega) (by have h1 := g_193.1; have h2 := (gi_c 1 1 (by decide)).1; have h3 := g_193.2; have h4 := (gi_c 1 1 (by decide)).2; omega); rw [hc1] at h9; exact h9); have qgv5 := g_193.1; have rgv5 := g_193.2; omega) hP hS (lv_sub hl [2, 3, 4, 5, 1, 0] rfl)
set_option maxHeartbeats 4000000 in
set_option maxRecDepth 100000 in
theorem sX9_onWeekday (l : Launch) (dC : Nat → ClassId) (dI : Nat → Nat → Nat) (h0 : Nat) (sa : Nat) (bf : Nat) (bh : Nat) (months : Int32) (full : Int32) (lean : Int32) (ksa : ClassId) (fsa : Nat → Int32) (p0 : Int32) (p1 : Int32) (p2 : Int32) (gmonths : gi months 0 24) (gfull : gi full 0 5) (glean : gi lean 0 5) (gp0 : gi p0 0 24) : Met l yX9_onWeekday (.code yX9_onWeekday cX9_onWeekday 6 (some .int) :: wsGA) ({ frames := 1, cells := 0, slots := 0, locals := 21 }) (va_Pc [.ref h0, .int p0, .int p1, .int p2] (fun U => va_P (dC, dI) vwCl [(h0, .inr (9, [.ref bf, .ref bh, .ref sa, .int months, .int full, .int lean])), (sa, .inl (ksa, 325, .inl fsa))] U.heap ∧ va_K (dC, dI) vwCl [(ksa, .int)] U ∧ nzA U)) (va_Qi (fun (r : Int32) (u : Unit) => gi r (-2147483648) 2147483647) (fun _ _ => True) (fun _ => False)) 0 0 (fun _ => False) := by
  refine Met.ofW (cc := cX9_onWeekday) (maxL := 6) (ret := (some .int)) (by decide) rfl ?_
  intro p e s m args below meth c s₁ B hml hv
  obtain ⟨rfl, hP, hK, hz⟩ := hv
  have hx := B.exec
  have hb := B.bytes
  have hr := B.returns
  have hts := atoms_spec (ws := (.code yX9_onWeekday cX9_onWeekday 6 (some .int) :: wsGA)) B.pre
  have hown : s.vm.findClass RX9 = some m.cls := findClass_of_methodNamed B.named
  have hlocks := B.notSynchronized
  have hS : va_S (fun _ => False) s.heap s.heap [] := va_S.rf
  have hl := lv_entry ([.ref h0, .int p0, .int p1, .int p2]) (n := 6) (Nat.le_of_ble_eq_true rfl)
  rw [lg_entry_eq]
  generalize (lg_sl ([.ref h0, .int p0, .int p1, .int p2]) ++ List.replicate (6 - (lg_sl ([.ref h0, .int p0, .int p1, .int p2])).length) Slot.unset).toArray = ls at hl ⊢
  have hl : lv_has ls 6 [(0, .ref h0), (1, .int p0), (2, .int p1), (3, .int p2)] := hl
  refine lv_iconst (v := 0) hx hb dX9_onWeekday_0 (by decide) ?_
  refine lv_istore (lv' := [(4, .int 0), (0, .ref h0), (1, .int p0), (2, .int p1), (3, .int p2)]) hx hb dX9_onWeekday_1 hl (by decide) rfl (fun ls hl => ?_)
  refine lv_iconst (v := 0) hx hb dX9_onWeekday_3 (by decide) ?_
  refine lv_istore (lv' := [(5, .int 0), (4, .int 0), (0, .ref h0), (1, .int p0), (2, .int p1), (3, .int p2)]) hx hb dX9_onWeekday_4 hl (by decide) rfl (fun ls hl => ?_)
  refine (lp_sX9_onWeekday h0 sa bf bh months full lean ksa fsa p0 p1 p2 gmonths gfull glean gp0 hx hb hml hown hts hK hz (Nat.le_of_ble_eq_true rfl) (Nat.le_of_ble_eq_true rfl) (Nat.zero_le _) (Nat.zero_le _) (fun v H locs ls hP hS hl => ?_) 64) 0 0 _ _ _ (gi_w (gi_c 0 0 (by decide)) (by decide)) (by have k0 : (0 : Int32).toInt = 0 := (by decide); omega) hP hS (lv_sub hl [2, 3, 4, 5, 1, 0] rfl)
  · skip
    exact W.iret (v := v) hx hb hr (fun t ht hW => ⟨⟨v, (), rfl, (gi_any v), trivial⟩, hS.F ht⟩) hS.2.2 dX9_onWeekday_51
theorem dX9_bound_0 : decode cX9_bound 0 = .ok (.iconst 0, 1) := by decide +kernel
theorem dX9_bound_1 : decode cX9_bound 1 = .ok (.istore_n 3, 1) := by decide +kernel
theorem dX9_bound_2 : decode cX9_bound 2 = .ok (.iload_n 3, 1) := by decide +kernel
theorem dX9_bound_3 : decode cX9_bound 3 = .ok (.iload_n 1, 1) := by decide +kernel
theorem dX9_bound_4 : decode cX9_bound 4 = .ok (.if_icmp .gt 43, 3) := by decide +kernel
theorem dX9_bound_7 : decode cX9_bound 7 = .ok (.iload_n 2, 1) := by decide +kernel
theorem dX9_bound_8 : decode cX9_bound 8 = .ok (.ifCond .eq 9, 3) := by decide +kernel
theorem dX9_bound_11 : decode cX9_bound 11 = .ok (.iload_n 1, 1) := by decide +kernel
theorem dX9_bound_12 : decode cX9_bound 12 = .ok (.iload_n 3, 1) := by decide +kernel
theorem dX9_bound_13 : decode cX9_bound 13 = .ok (.isub, 1) := by decide +kernel
theorem dX9_bound_14 : decode cX9_bound 14 = .ok (.goto 4, 3) := by decide +kernel
theorem dX9_bound_17 : decode cX9_bound 17 = .ok (.iload_n 3, 1) := by decide +kernel
theorem dX9_bound_18 : decode cX9_bound 18 = .ok (.istore 4, 2) := by decide +kernel
theorem dX9_bound_20 : decode cX9_bound 20 = .ok (.aload_n 0, 1) := by decide +kernel
theorem dX9_bound_21 : decode cX9_bound 21 = .ok (.getfield 18, 3) := by decide +kernel
theorem dX9_bound_24 : decode cX9_bound 24 = .ok (.iload_n 1, 1) := by decide +kernel
theorem dX9_bound_25 : decode cX9_bound 25 = .ok (.iload 4, 2) := by decide +kernel
theorem dX9_bound_27 : decode cX9_bound 27 = .ok (.invokestatic 92, 3) := by decide +kernel
theorem dX9_bound_30 : decode cX9_bound 30 = .ok (.iaload, 1) := by decide +kernel
theorem dX9_bound_31 : decode cX9_bound 31 = .ok (.ifCond .le 10, 3) := by decide +kernel
theorem dX9_bound_34 : decode cX9_bound 34 = .ok (.iload_n 1, 1) := by decide +kernel
theorem dX9_bound_35 : decode cX9_bound 35 = .ok (.iload 4, 2) := by decide +kernel
theorem dX9_bound_37 : decode cX9_bound 37 = .ok (.invokestatic 95, 3) := by decide +kernel
theorem dX9_bound_40 : decode cX9_bound 40 = .ok (.ireturn, 1) := by decide +kernel
theorem dX9_bound_41 : decode cX9_bound 41 = .ok (.iinc 3 1, 3) := by decide +kernel
theorem dX9_bound_44 : decode cX9_bound 44 = .ok (.goto (-42), 3) := by decide +kernel
theorem dX9_bound_47 : decode cX9_bound 47 = .ok (.iconst (-1), 1) := by decide +kernel
theorem dX9_bound_48 : decode cX9_bound 48 = .ok (.ireturn, 1) := by decide +kernel
set_option maxHeartbeats 4000000 in
set_option maxRecDepth 100000 in
theorem lp_sX9_bound {p : Program} {l : Launch} {e : Env} {R : Room} {s : State} {m : MethodId} {args : Array Value} {below : List Frame} {meth : Method} {c : Code} {Q : State → Prop} {A : Nat → Prop} {cells slots : Nat} {dC : Nat → ClassId} {dI : Nat → Nat → Nat} (h0 : Nat) (sa : Nat) (bf : Nat) (bh : Nat) (months : Int32) (full : Int32) (lean : Int32) (ksa : ClassId) (fsa : Nat → Int32) (p0 : Int32) (p1 : Int32) (gmonths : gi months 0 24) (gfull : gi full 0 5) (glean : gi lean 0 5) (gp0 : gi p0 0 24) (gp1 : gi p1 0 1) (hx : p.tables.exec = Jvm.exec) (hb : c.code = cX9_bound) (hml : c.maxLocals = 5) (hown : s.vm.findClass RX9 = some m.cls) (hts : ∀ w ∈ ((.code yX9_bound cX9_bound 5 (some .int) :: wsGA) : List Cond), w.before args s = true) (hK : va_K (dC, dI) vwCl [(ksa, .int)] s) (hz : nzA s) (hRf : 1 ≤ R.frames) (hRl : 21 ≤ R.locals) (hRc : cells ≤ R.cells) (hRs : slots ≤ R.slots) (kr48 : ∀ (v : Int32) (H : Heap) (locs : List Loc) (ls : Array Slot), gi v (-1) (-1) → va_P (dC, dI) vwCl [(h0, .inr (9, [.ref bf, .ref bh, .ref sa, .int months, .int full, .int lean])), (sa, .inl (ksa, 325, .inl fsa))] H → va_S A s.heap H locs → lv_has ls 5 [] → W p l e R s m args below meth c H locs cells slots Q (F0 m 48 ls [.int v])) (kr40 : ∀ (v : Int32) (H : Heap) (locs : List Loc) (ls : Array Slot), va_P (dC, dI) vwCl [(h0, .inr (9, [.ref bf, .ref bh, .ref sa, .int months, .int full, .int lean])), (sa, .inl (ksa, 325, .inl fsa))] H → va_S A s.heap H locs → lv_has ls 5 [] → W p l e R s m args below meth c H locs cells slots Q (F0 m 40 ls [.int v])) : ∀ z : Nat, (∀ (v3 : Int32) (H : Heap) (locs : List Loc) (ls : Array Slot), gi v3 0 25 → 51 + (-2) * v3.toInt < (z : Int) → va_P (dC, dI) vwCl [(h0, .inr (9, [.ref bf, .ref bh, .ref sa, .int months, .int full, .int lean])), (sa, .inl (ksa, 325, .inl fsa))] H → va_S A s.heap H locs → lv_has ls 5 [(0, .ref h0), (1, .int p0), (2, .int p1), (3, .int v3)] → W p l e R s m args below meth c H locs cells slots Q (F0 m 2 ls [])) := by
  intro z
  induction z with
  | zero =>
    intro v3 H locs ls gv3 hmu hP hS hl
    exact absurd hmu (by have hv31 := gv3.1; have hv32 := gv3.2; omega)
  | succ z ih =>
      intro v3 H locs ls gv3 hmu hP hS hl
      refine lv_iload_n hx hb dX9_bound_2 rfl (lv_at hl 3 rfl) ?_
      refine lv_iload_n hx hb dX9_bound_3 rfl (lv_at hl 1 rfl) ?_
      refine lv_icmp_gt (tgt := 47) hx hb dX9_bound_4 (by decide) (fun c_335 => ?_) (fun c_335 => ?_)
      · have g_336 : gi v3 1 25 := gi_lt_r c_335 gp0 gv3 (by decide)
        refine lv_iconst (v := (-1)) hx hb dX9_bound_47 (by decide) ?_
        exact kr48 (-1) _ _ _ (gi_c (-1) (-1) (by decide)) hP hS (lv_sub hl [] rfl)
      · have g_337 : gi v3 0 24 := gi_le_l (Int32.not_lt.mp c_335) gv3 gp0
        refine lv_iload_n hx hb dX9_bound_7 rfl (lv_at hl 2 rfl) ?_
        refine lv_if_eq (tgt := 17) hx hb dX9_bound_8 (by decide) (fun c_338 => ?_) (fun c_338 => ?_)
        · have g_339 : gi p1 0 0 := gi_eq c_338 (gi_c 0 0 (by decide))
          refine lv_iload_n hx hb dX9_bound_17 rfl (lv_at hl 3 rfl) ?_
          refine lv_istore (lv' := [(4, .int v3), (0, .ref h0), (1, .int p0), (2, .int p1), (3, .int v3)]) hx hb dX9_bound_18 hl (by decide) rfl (fun ls hl => ?_)
          refine lv_aload_n hx hb dX9_bound_20 rfl (lv_at hl 1 rfl) ?_
          refine va_get (D := (dC, dI)) (ci := 9) (v := .ref sa) (C := RX9) (T := TX9) (N := 6) hx hb hts (fun w h => List.mem_cons_of_mem _ (jnGA_X9 w h)) hown hK hP 0 rfl rfl 2 (by decide) (hts _ (List.mem_cons_of_mem _ mGA_113)) (fun _ h9 => h9) rfl dX9_bound_21 ?_
          refine lv_iload_n hx hb dX9_bound_24 rfl (lv_at hl 2 rfl) ?_
          refine lv_iload hx hb dX9_bound_25 (lv_at hl 0 rfl) ?_
          have hPc := hP.sub (ws' := []) [] rfl
          have hKc := hK.sub (tys' := []) [] rfl
          refine va_calli (va_runSN (As := [.int p0, .int v3]) (rest := [.ref sa]) ⟨hx, hb, hml, hown, hts⟩ (sX11_cell l dC dI p0 v3 gp0 g_337) (⟨va_cnB 2 hts (gz_gP mGA_585 goodGA) rfl rfl rfl (nzA_X9_92 hz) (hts _ (List.mem_cons_of_mem _ mGA_1)) (by decide +kernel) ⟨Nat.le_trans (Nat.le_of_ble_eq_true rfl) hRf, Nat.le_trans (Nat.le_of_ble_eq_true rfl) hRl⟩, (hts _ (List.mem_cons_of_mem _ mGA_584)), trivial⟩) ⟨bl_I (bl_a bl_P (bl_a bl_K bl_nz)), fun U hU hW => ⟨rfl, by rw [hU]; exact hPc, va_K.moved hW.alike hKc, nzA_warm hW hz⟩⟩ rfl rfl hl.1 rfl (lv_room (Nat.le_of_ble_eq_true rfl)) dX9_bound_27 ⟨hRc, hRs⟩) hS (fun q _ h => h.elim) (fun q h => h.elim) (fun r_340 u t H1 locs ht hvm hw hB hz1 hk1 hS => ?_)
          have hP := gz_keep hP hk1
          generalize H1 = H at hP hS ⊢
          have gr_340 : gi r_340 0 324 := hw
          refine va_iald hx hb hK hP 1 0 rfl rfl (gi_in gr_340 (by decide)) dX9_bound_30 ?_
          refine lv_topi (fun x_341 ex_341 => ?_)
          refine lv_if_le (tgt := 41) hx hb dX9_bound_31 (by decide) (fun c_342 => ?_) (fun c_342 => ?_)
          · have g_343 : gi x_341 (-2147483648) 0 := gi_le_l c_342 (gi_any x_341) (gi_c 0 0 (by decide))
            obtain ⟨x_344, ex_344⟩ : ∃ y : Int32, y = v3 + 1 := ⟨_, rfl⟩
            have gx_344 : gi x_344 1 25 := gi_add ex_344 g_337 (gi_c 1 1 (by decide)) (by decide)
            refine lv_iinc (v := x_344) (lv' := [(3, .int x_344), (4, .int v3), (0, .ref h0), (1, .int p0), (2, .int p1)]) hx hb dX9_bound_41 hl (k := 4) rfl (by rw [ex_344]; rfl) (by decide) rfl (fun ls hl => ?_)
            refine lv_goto (tgt := 2) hx hb dX9_bound_44 (by decide) ?_
            exact ih x_344 _ _ _ (gi_w gx_344 (by decide)) (by have av3 := gv3.1; have bv3 := gv3.2; have qgx_344 := gx_344.1; have rgx_344 := gx_344.2; have igx_344 : x_344.toInt = v3.toInt + 1 := (by have hc1 : (1 : Int32).toInt = 1 := (by decide); have h9 := gi_addI ex_344 (by have h1 := g_337.1; have h2 := (gi_c 1 1 (by decide)).1; have h3 := g_337.2; have h4 := (gi_c 1 1 (by decide)).2; omega) (by have h1 := g_337.1; have h2 := (gi_c 1 1 (by decide)).1; have h3 := g_337.2; have h4 := (gi_c 1 1 (by decide)).2; omega); rw [hc1] at h9; exact h9); have qgv3 := g_337.1; have rgv3 := g_337.2; omega) hP hS (lv_sub hl [2, 3, 4, 0] rfl)
          · have g_345 : gi x_341 1 2147483647 := gi_lt_r (Int32.not_le.mp c_342) (gi_c 0 0 (by decide)) (gi_any x_341) (by decide)
            refine lv_iload_n hx hb dX9_bound_34 rfl (lv_at hl 2 rfl) ?_
            refine lv_iload hx hb dX9_bound_35 (lv_at hl 0 rfl) ?_
            have hPc := hP.sub (ws' := []) [] rfl
            have hKc := hK.sub (tys' := []) [] rfl
            refine va_calli (va_runSN (As := [.int p0, .int v3]) (rest := []) ⟨hx, hb, hml, hown, hts⟩ (sX11_dayOf l dC dI p0 v3) (⟨va_cnB 2 hts (gz_gP mGA_516 goodGA) rfl rfl rfl (nzA_X9_95 hz) (hts _ (List.mem_cons_of_mem _ mGA_1)) (by decide +kernel) ⟨Nat.le_trans (Nat.le_of_ble_eq_true rfl) hRf, Nat.le_trans (Nat.le_of_ble_eq_true rfl) hRl⟩, (hts _ (List.mem_cons_of_mem _ mGA_515)), trivial⟩) ⟨bl_I (bl_a bl_P (bl_a bl_K bl_nz)), fun U hU hW => ⟨rfl, by rw [hU]; exact hPc, va_K.moved hW.alike hKc, nzA_warm hW hz⟩⟩ rfl rfl hl.1 rfl (lv_room (Nat.le_of_ble_eq_true rfl)) dX9_bound_37 ⟨hRc, hRs⟩) hS (fun q _ h => h.elim) (fun q h => h.elim) (fun r_346 u t H1 locs ht hvm hw hB hz1 hk1 hS => ?_)
            have hP := gz_keep hP hk1
            generalize H1 = H at hP hS ⊢
            exact kr40 r_346 _ _ _ hP hS (lv_sub hl [] rfl)
        · have g_347 : gi p1 1 1 := gi_ne_lo c_338 gp1 (gi_c 0 0 (by decide)) (by decide)
          refine lv_iload_n hx hb dX9_bound_11 rfl (lv_at hl 1 rfl) ?_
          refine lv_iload_n hx hb dX9_bound_12 rfl (lv_at hl 3 rfl) ?_
          refine lv_isub hx hb dX9_bound_13 ?_
          refine lv_topi (fun x_348 ex_348 => ?_)
          have gx_348 : gi x_348 0 24 := gi_subrel ex_348 (Int32.le_iff_toInt_le.mp (Int32.not_lt.mp c_335)) gp0 g_337 (by decide)
          refine lv_goto (tgt := 18) hx hb dX9_bound_14 (by decide) ?_
          refine lv_istore (lv' := [(4, .int x_348), (0, .ref h0), (1, .int p0), (2, .int p1), (3, .int v3)]) hx hb dX9_bound_18 hl (by decide) rfl (fun ls hl => ?_)
          refine lv_aload_n hx hb dX9_bound_20 rfl (lv_at hl 1 rfl) ?_
          refine va_get (D := (dC, dI)) (ci := 9) (v := .ref sa) (C := RX9) (T := TX9) (N := 6) hx hb hts (fun w h => List.mem_cons_of_mem _ (jnGA_X9 w h)) hown hK hP 0 rfl rfl 2 (by decide) (hts _ (List.mem_cons_of_mem _ mGA_113)) (fun _ h9 => h9) rfl dX9_bound_21 ?_
          refine lv_iload_n hx hb dX9_bound_24 rfl (lv_at hl 2 rfl) ?_
          refine lv_iload hx hb dX9_bound_25 (lv_at hl 0 rfl) ?_
          have hPc := hP.sub (ws' := []) [] rfl
          have hKc := hK.sub (tys' := []) [] rfl
          refine va_calli (va_runSN (As := [.int p0, .int x_348]) (rest := [.ref sa]) ⟨hx, hb, hml, hown, hts⟩ (sX11_cell l dC dI p0 x_348 gp0 gx_348) (⟨va_cnB 2 hts (gz_gP mGA_585 goodGA) rfl rfl rfl (nzA_X9_92 hz) (hts _ (List.mem_cons_of_mem _ mGA_1)) (by decide +kernel) ⟨Nat.le_trans (Nat.le_of_ble_eq_true rfl) hRf, Nat.le_trans (Nat.le_of_ble_eq_true rfl) hRl⟩, (hts _ (List.mem_cons_of_mem _ mGA_584)), trivial⟩) ⟨bl_I (bl_a bl_P (bl_a bl_K bl_nz)), fun U hU hW => ⟨rfl, by rw [hU]; exact hPc, va_K.moved hW.alike hKc, nzA_warm hW hz⟩⟩ rfl rfl hl.1 rfl (lv_room (Nat.le_of_ble_eq_true rfl)) dX9_bound_27 ⟨hRc, hRs⟩) hS (fun q _ h => h.elim) (fun q h => h.elim) (fun r_349 u t H1 locs ht hvm hw hB hz1 hk1 hS => ?_)
          have hP := gz_keep hP hk1
          generalize H1 = H at hP hS ⊢
          have gr_349 : gi r_349 0 324 := hw
          refine va_iald hx hb hK hP 1 0 rfl rfl (gi_in gr_349 (by decide)) dX9_bound_30 ?_
          refine lv_topi (fun x_350 ex_350 => ?_)
          refine lv_if_le (tgt := 41) hx hb dX9_bound_31 (by decide) (fun c_351 => ?_) (fun c_351 => ?_)
          · have g_352 : gi x_350 (-2147483648) 0 := gi_le_l c_351 (gi_any x_350) (gi_c 0 0 (by decide))
            obtain ⟨x_353, ex_353⟩ : ∃ y : Int32, y = v3 + 1 := ⟨_, rfl⟩
            have gx_353 : gi x_353 1 25 := gi_add ex_353 g_337 (gi_c 1 1 (by decide)) (by decide)
            refine lv_iinc (v := x_353) (lv' := [(3, .int x_353), (4, .int x_348), (0, .ref h0), (1, .int p0), (2, .int p1)]) hx hb dX9_bound_41 hl (k := 4) rfl (by rw [ex_353]; rfl) (by decide) rfl (fun ls hl => ?_)
            refine lv_goto (tgt := 2) hx hb dX9_bound_44 (by decide) ?_
            exact ih x_353 _ _ _ (gi_w gx_353 (by decide)) (by have av3 := gv3.1; have bv3 := gv3.2; have qgx_353 := gx_353.1; have rgx_353 := gx_353.2; have igx_353 : x_353.toInt = v3.toInt + 1 := (by have hc1 : (1 : Int32).toInt = 1 := (by decide); have h9 := gi_addI ex_353 (by have h1 := g_337.1; have h2 := (gi_c 1 1 (by decide)).1; have h3 := g_337.2; have h4 := (gi_c 1 1 (by decide)).2; omega) (by have h1 := g_337.1; have h2 := (gi_c 1 1 (by decide)).1; have h3 := g_337.2; have h4 := (gi_c 1 1 (by decide)).2; omega); rw [hc1] at h9; exact h9); have qgv3 := g_337.1; have rgv3 := g_337.2; omega) hP hS (lv_sub hl [2, 3, 4, 0] rfl)
          · have g_354 : gi x_350 1 2147483647 := gi_lt_r (Int32.not_le.mp c_351) (gi_c 0 0 (by decide)) (gi_any x_350) (by decide)
            refine lv_iload_n hx hb dX9_bound_34 rfl (lv_at hl 2 rfl) ?_
            refine lv_iload hx hb dX9_bound_35 (lv_at hl 0 rfl) ?_
            have hPc := hP.sub (ws' := []) [] rfl
            have hKc := hK.sub (tys' := []) [] rfl
            refine va_calli (va_runSN (As := [.int p0, .int x_348]) (rest := []) ⟨hx, hb, hml, hown, hts⟩ (sX11_dayOf l dC dI p0 x_348) (⟨va_cnB 2 hts (gz_gP mGA_516 goodGA) rfl rfl rfl (nzA_X9_95 hz) (hts _ (List.mem_cons_of_mem _ mGA_1)) (by decide +kernel) ⟨Nat.le_trans (Nat.le_of_ble_eq_true rfl) hRf, Nat.le_trans (Nat.le_of_ble_eq_true rfl) hRl⟩, (hts _ (List.mem_cons_of_mem _ mGA_515)), trivial⟩) ⟨bl_I (bl_a bl_P (bl_a bl_K bl_nz)), fun U hU hW => ⟨rfl, by rw [hU]; exact hPc, va_K.moved hW.alike hKc, nzA_warm hW hz⟩⟩ rfl rfl hl.1 rfl (lv_room (Nat.le_of_ble_eq_true rfl)) dX9_bound_37 ⟨hRc, hRs⟩) hS (fun q _ h => h.elim) (fun q h => h.elim) (fun r_355 u t H1 locs ht hvm hw hB hz1 hk1 hS => ?_)
            have hP := gz_keep hP hk1
            generalize H1 = H at hP hS ⊢
            exact kr40 r_355 _ _ _ hP hS (lv_sub hl [] rfl)
set_option maxHeartbeats 4000000 in
set_option maxRecDepth 100000 in
theorem sX9_bound (l : Launch) (dC : Nat → ClassId) (dI : Nat → Nat → Nat) (h0 : Nat) (sa : Nat) (bf : Nat) (bh : Nat) (months : Int32) (full : Int32) (lean : Int32) (ksa : ClassId) (fsa : Nat → Int32) (p0 : Int32) (p1 : Int32) (gmonths : gi months 0 24) (gfull : gi full 0 5) (glean : gi lean 0 5) (gp0 : gi p0 0 24) (gp1 : gi p1 0 1) : Met l yX9_bound (.code yX9_bound cX9_bound 5 (some .int) :: wsGA) ({ frames := 1, cells := 0, slots := 0, locals := 21 }) (va_Pc [.ref h0, .int p0, .int p1] (fun U => va_P (dC, dI) vwCl [(h0, .inr (9, [.ref bf, .ref bh, .ref sa, .int months, .int full, .int lean])), (sa, .inl (ksa, 325, .inl fsa))] U.heap ∧ va_K (dC, dI) vwCl [(ksa, .int)] U ∧ nzA U)) (va_Qi (fun (r : Int32) (u : Unit) => gi r (-2147483648) 2147483647) (fun _ _ => True) (fun _ => False)) 0 0 (fun _ => False) := by
  refine Met.ofW (cc := cX9_bound) (maxL := 5) (ret := (some .int)) (by decide) rfl ?_
  intro p e s m args below meth c s₁ B hml hv
  obtain ⟨rfl, hP, hK, hz⟩ := hv
  have hx := B.exec
  have hb := B.bytes
  have hr := B.returns
  have hts := atoms_spec (ws := (.code yX9_bound cX9_bound 5 (some .int) :: wsGA)) B.pre
  have hown : s.vm.findClass RX9 = some m.cls := findClass_of_methodNamed B.named
  have hlocks := B.notSynchronized
  have hS : va_S (fun _ => False) s.heap s.heap [] := va_S.rf
  have hl := lv_entry ([.ref h0, .int p0, .int p1]) (n := 5) (Nat.le_of_ble_eq_true rfl)
  rw [lg_entry_eq]
  generalize (lg_sl ([.ref h0, .int p0, .int p1]) ++ List.replicate (5 - (lg_sl ([.ref h0, .int p0, .int p1])).length) Slot.unset).toArray = ls at hl ⊢
  have hl : lv_has ls 5 [(0, .ref h0), (1, .int p0), (2, .int p1)] := hl
  refine lv_iconst (v := 0) hx hb dX9_bound_0 (by decide) ?_
  refine lv_istore_n (lv' := [(3, .int 0), (0, .ref h0), (1, .int p0), (2, .int p1)]) hx hb dX9_bound_1 rfl hl (by decide) rfl (fun ls hl => ?_)
  refine (lp_sX9_bound h0 sa bf bh months full lean ksa fsa p0 p1 gmonths gfull glean gp0 gp1 hx hb hml hown hts hK hz (Nat.le_of_ble_eq_true rfl) (Nat.le_of_ble_eq_true rfl) (Nat.zero_le _) (Nat.zero_le _) (fun v H locs ls gv hP hS hl => ?_) (fun v H locs ls hP hS hl => ?_) 64) 0 _ _ _ (gi_w (gi_c 0 0 (by decide)) (by decide)) (by have k0 : (0 : Int32).toInt = 0 := (by decide); omega) hP hS (lv_sub hl [1, 2, 3, 0] rfl)
  · skip
    exact W.iret (v := v) hx hb hr (fun t ht hW => ⟨⟨v, (), rfl, (gi_any v), trivial⟩, hS.F ht⟩) hS.2.2 dX9_bound_48
  · skip
    exact W.iret (v := v) hx hb hr (fun t ht hW => ⟨⟨v, (), rfl, (gi_any v), trivial⟩, hS.F ht⟩) hS.2.2 dX9_bound_40
theorem dX9_mostLeft_0 : decode cX9_mostLeft 0 = .ok (.iconst 0, 1) := by decide +kernel
theorem dX9_mostLeft_1 : decode cX9_mostLeft 1 = .ok (.istore_n 2, 1) := by decide +kernel
theorem dX9_mostLeft_2 : decode cX9_mostLeft 2 = .ok (.iconst 0, 1) := by decide +kernel
theorem dX9_mostLeft_3 : decode cX9_mostLeft 3 = .ok (.istore_n 3, 1) := by decide +kernel
theorem dX9_mostLeft_4 : decode cX9_mostLeft 4 = .ok (.iload_n 3, 1) := by decide +kernel
theorem dX9_mostLeft_5 : decode cX9_mostLeft 5 = .ok (.iload_n 1, 1) := by decide +kernel
theorem dX9_mostLeft_6 : decode cX9_mostLeft 6 = .ok (.if_icmp .gt 24, 3) := by decide +kernel
theorem dX9_mostLeft_9 : decode cX9_mostLeft 9 = .ok (.iload_n 2, 1) := by decide +kernel
theorem dX9_mostLeft_10 : decode cX9_mostLeft 10 = .ok (.aload_n 0, 1) := by decide +kernel
theorem dX9_mostLeft_11 : decode cX9_mostLeft 11 = .ok (.getfield 18, 3) := by decide +kernel
theorem dX9_mostLeft_14 : decode cX9_mostLeft 14 = .ok (.iload_n 1, 1) := by decide +kernel
theorem dX9_mostLeft_15 : decode cX9_mostLeft 15 = .ok (.iload_n 3, 1) := by decide +kernel
theorem dX9_mostLeft_16 : decode cX9_mostLeft 16 = .ok (.invokestatic 92, 3) := by decide +kernel
theorem dX9_mostLeft_19 : decode cX9_mostLeft 19 = .ok (.iaload, 1) := by decide +kernel
theorem dX9_mostLeft_20 : decode cX9_mostLeft 20 = .ok (.invokestatic 98, 3) := by decide +kernel
theorem dX9_mostLeft_23 : decode cX9_mostLeft 23 = .ok (.istore_n 2, 1) := by decide +kernel
theorem dX9_mostLeft_24 : decode cX9_mostLeft 24 = .ok (.iinc 3 1, 3) := by decide +kernel
theorem dX9_mostLeft_27 : decode cX9_mostLeft 27 = .ok (.goto (-23), 3) := by decide +kernel
theorem dX9_mostLeft_30 : decode cX9_mostLeft 30 = .ok (.iload_n 2, 1) := by decide +kernel
theorem dX9_mostLeft_31 : decode cX9_mostLeft 31 = .ok (.ireturn, 1) := by decide +kernel
set_option maxHeartbeats 4000000 in
set_option maxRecDepth 100000 in
theorem lp_sX9_mostLeft {p : Program} {l : Launch} {e : Env} {R : Room} {s : State} {m : MethodId} {args : Array Value} {below : List Frame} {meth : Method} {c : Code} {Q : State → Prop} {A : Nat → Prop} {cells slots : Nat} {dC : Nat → ClassId} {dI : Nat → Nat → Nat} (h0 : Nat) (sa : Nat) (bf : Nat) (bh : Nat) (months : Int32) (full : Int32) (lean : Int32) (ksa : ClassId) (fsa : Nat → Int32) (p0 : Int32) (gmonths : gi months 0 24) (gfull : gi full 0 5) (glean : gi lean 0 5) (gp0 : gi p0 0 24) (hx : p.tables.exec = Jvm.exec) (hb : c.code = cX9_mostLeft) (hml : c.maxLocals = 4) (hown : s.vm.findClass RX9 = some m.cls) (hts : ∀ w ∈ ((.code yX9_mostLeft cX9_mostLeft 4 (some .int) :: wsGA) : List Cond), w.before args s = true) (hK : va_K (dC, dI) vwCl [(ksa, .int)] s) (hz : nzA s) (hRf : 1 ≤ R.frames) (hRl : 21 ≤ R.locals) (hRc : cells ≤ R.cells) (hRs : slots ≤ R.slots) (kr31 : ∀ (v : Int32) (H : Heap) (locs : List Loc) (ls : Array Slot), gi v 0 2147483647 → va_P (dC, dI) vwCl [(h0, .inr (9, [.ref bf, .ref bh, .ref sa, .int months, .int full, .int lean])), (sa, .inl (ksa, 325, .inl fsa))] H → va_S A s.heap H locs → lv_has ls 4 [] → W p l e R s m args below meth c H locs cells slots Q (F0 m 31 ls [.int v])) : ∀ z : Nat, (∀ (v2 : Int32) (v3 : Int32) (H : Heap) (locs : List Loc) (ls : Array Slot), gi v2 0 2147483647 → gi v3 0 25 → 51 + (-2) * v3.toInt < (z : Int) → va_P (dC, dI) vwCl [(h0, .inr (9, [.ref bf, .ref bh, .ref sa, .int months, .int full, .int lean])), (sa, .inl (ksa, 325, .inl fsa))] H → va_S A s.heap H locs → lv_has ls 4 [(0, .ref h0), (1, .int p0), (2, .int v2), (3, .int v3)] → W p l e R s m args below meth c H locs cells slots Q (F0 m 4 ls [])) := by
  intro z
  induction z with
  | zero =>
    intro v2 v3 H locs ls gv2 gv3 hmu hP hS hl
    exact absurd hmu (by have hv31 := gv3.1; have hv32 := gv3.2; omega)
  | succ z ih =>
      intro v2 v3 H locs ls gv2 gv3 hmu hP hS hl
      refine lv_iload_n hx hb dX9_mostLeft_4 rfl (lv_at hl 3 rfl) ?_
      refine lv_iload_n hx hb dX9_mostLeft_5 rfl (lv_at hl 1 rfl) ?_
      refine lv_icmp_gt (tgt := 30) hx hb dX9_mostLeft_6 (by decide) (fun c_111 => ?_) (fun c_111 => ?_)
      · have g_112 : gi v3 1 25 := gi_lt_r c_111 gp0 gv3 (by decide)
        refine lv_iload_n hx hb dX9_mostLeft_30 rfl (lv_at hl 2 rfl) ?_
        exact kr31 v2 _ _ _ gv2 hP hS (lv_sub hl [] rfl)
      · have g_113 : gi v3 0 24 := gi_le_l (Int32.not_lt.mp c_111) gv3 gp0
        refine lv_iload_n hx hb dX9_mostLeft_9 rfl (lv_at hl 2 rfl) ?_
        refine lv_aload_n hx hb dX9_mostLeft_10 rfl (lv_at hl 0 rfl) ?_
        refine va_get (D := (dC, dI)) (ci := 9) (v := .ref sa) (C := RX9) (T := TX9) (N := 6) hx hb hts (fun w h => List.mem_cons_of_mem _ (jnGA_X9 w h)) hown hK hP 0 rfl rfl 2 (by decide) (hts _ (List.mem_cons_of_mem _ mGA_113)) (fun _ h9 => h9) rfl dX9_mostLeft_11 ?_
        refine lv_iload_n hx hb dX9_mostLeft_14 rfl (lv_at hl 1 rfl) ?_
        refine lv_iload_n hx hb dX9_mostLeft_15 rfl (lv_at hl 3 rfl) ?_
        have hPc := hP.sub (ws' := []) [] rfl
        have hKc := hK.sub (tys' := []) [] rfl
        refine va_calli (va_runSN (As := [.int p0, .int v3]) (rest := [.ref sa, .int v2]) ⟨hx, hb, hml, hown, hts⟩ (sX11_cell l dC dI p0 v3 gp0 g_113) (⟨va_cnB 2 hts (gz_gP mGA_585 goodGA) rfl rfl rfl (nzA_X9_92 hz) (hts _ (List.mem_cons_of_mem _ mGA_1)) (by decide +kernel) ⟨Nat.le_trans (Nat.le_of_ble_eq_true rfl) hRf, Nat.le_trans (Nat.le_of_ble_eq_true rfl) hRl⟩, (hts _ (List.mem_cons_of_mem _ mGA_584)), trivial⟩) ⟨bl_I (bl_a bl_P (bl_a bl_K bl_nz)), fun U hU hW => ⟨rfl, by rw [hU]; exact hPc, va_K.moved hW.alike hKc, nzA_warm hW hz⟩⟩ rfl rfl hl.1 rfl (lv_room (Nat.le_of_ble_eq_true rfl)) dX9_mostLeft_16 ⟨hRc, hRs⟩) hS (fun q _ h => h.elim) (fun q h => h.elim) (fun r_114 u t H1 locs ht hvm hw hB hz1 hk1 hS => ?_)
        have hP := gz_keep hP hk1
        generalize H1 = H at hP hS ⊢
        have gr_114 : gi r_114 0 324 := hw
        refine va_iald hx hb hK hP 1 0 rfl rfl (gi_in gr_114 (by decide)) dX9_mostLeft_19 ?_
        refine lv_topi (fun x_115 ex_115 => ?_)
        refine va_mmax (own := RX9) hx hb (by rw [hml]; exact hl.1.symm) hown (hts _ (List.mem_cons_of_mem _ mGA_843)) (hts _ (List.mem_cons_of_mem _ mGA_344)) (hts _ (List.mem_cons_of_mem _ mGA_269)) (hts _ (List.mem_cons_of_mem _ mGA_345)) (Nat.le_trans (Nat.le_of_ble_eq_true rfl) hRf) (Nat.le_trans (Nat.le_of_ble_eq_true rfl) hRl) hRc hRs dX9_mostLeft_20 ?_
        refine lv_topi (fun x_116 ex_116 => ?_)
        have gx_116 : gi x_116 0 2147483647 := gi_max ex_116 gv2 (gi_any x_115) (by decide)
        refine lv_istore_n (lv' := [(2, .int x_116), (0, .ref h0), (1, .int p0), (3, .int v3)]) hx hb dX9_mostLeft_23 rfl hl (by decide) rfl (fun ls hl => ?_)
        obtain ⟨x_117, ex_117⟩ : ∃ y : Int32, y = v3 + 1 := ⟨_, rfl⟩
        have gx_117 : gi x_117 1 25 := gi_add ex_117 g_113 (gi_c 1 1 (by decide)) (by decide)
        refine lv_iinc (v := x_117) (lv' := [(3, .int x_117), (2, .int x_116), (0, .ref h0), (1, .int p0)]) hx hb dX9_mostLeft_24 hl (k := 3) rfl (by rw [ex_117]; rfl) (by decide) rfl (fun ls hl => ?_)
        refine lv_goto (tgt := 4) hx hb dX9_mostLeft_27 (by decide) ?_
        exact ih x_116 x_117 _ _ _ gx_116 (gi_w gx_117 (by decide)) (by have av3 := gv3.1; have bv3 := gv3.2; have qgx_117 := gx_117.1; have rgx_117 := gx_117.2; have igx_117 : x_117.toInt = v3.toInt + 1 := (by have hc1 : (1 : Int32).toInt = 1 := (by decide); have h9 := gi_addI ex_117 (by have h1 := g_113.1; have h2 := (gi_c 1 1 (by decide)).1; have h3 := g_113.2; have h4 := (gi_c 1 1 (by decide)).2; omega) (by have h1 := g_113.1; have h2 := (gi_c 1 1 (by decide)).1; have h3 := g_113.2; have h4 := (gi_c 1 1 (by decide)).2; omega); rw [hc1] at h9; exact h9); have qgv3 := g_113.1; have rgv3 := g_113.2; omega) hP hS (lv_sub hl [2, 3, 1, 0] rfl)
set_option maxHeartbeats 4000000 in
set_option maxRecDepth 100000 in
theorem sX9_mostLeft (l : Launch) (dC : Nat → ClassId) (dI : Nat → Nat → Nat) (h0 : Nat) (sa : Nat) (bf : Nat) (bh : Nat) (months : Int32) (full : Int32) (lean : Int32) (ksa : ClassId) (fsa : Nat → Int32) (p0 : Int32) (gmonths : gi months 0 24) (gfull : gi full 0 5) (glean : gi lean 0 5) (gp0 : gi p0 0 24) : Met l yX9_mostLeft (.code yX9_mostLeft cX9_mostLeft 4 (some .int) :: wsGA) ({ frames := 1, cells := 0, slots := 0, locals := 21 }) (va_Pc [.ref h0, .int p0] (fun U => va_P (dC, dI) vwCl [(h0, .inr (9, [.ref bf, .ref bh, .ref sa, .int months, .int full, .int lean])), (sa, .inl (ksa, 325, .inl fsa))] U.heap ∧ va_K (dC, dI) vwCl [(ksa, .int)] U ∧ nzA U)) (va_Qi (fun (r : Int32) (u : Unit) => gi r 0 2147483647) (fun _ _ => True) (fun _ => False)) 0 0 (fun _ => False) := by
  refine Met.ofW (cc := cX9_mostLeft) (maxL := 4) (ret := (some .int)) (by decide) rfl ?_
  intro p e s m args below meth c s₁ B hml hv
  obtain ⟨rfl, hP, hK, hz⟩ := hv
  have hx := B.exec
  have hb := B.bytes
  have hr := B.returns
  have hts := atoms_spec (ws := (.code yX9_mostLeft cX9_mostLeft 4 (some .int) :: wsGA)) B.pre
  have hown : s.vm.findClass RX9 = some m.cls := findClass_of_methodNamed B.named
  have hlocks := B.notSynchronized
  have hS : va_S (fun _ => False) s.heap s.heap [] := va_S.rf
  have hl := lv_entry ([.ref h0, .int p0]) (n := 4) (Nat.le_of_ble_eq_true rfl)
  rw [lg_entry_eq]
  generalize (lg_sl ([.ref h0, .int p0]) ++ List.replicate (4 - (lg_sl ([.ref h0, .int p0])).length) Slot.unset).toArray = ls at hl ⊢
  have hl : lv_has ls 4 [(0, .ref h0), (1, .int p0)] := hl
  refine lv_iconst (v := 0) hx hb dX9_mostLeft_0 (by decide) ?_
  refine lv_istore_n (lv' := [(2, .int 0), (0, .ref h0), (1, .int p0)]) hx hb dX9_mostLeft_1 rfl hl (by decide) rfl (fun ls hl => ?_)
  refine lv_iconst (v := 0) hx hb dX9_mostLeft_2 (by decide) ?_
  refine lv_istore_n (lv' := [(3, .int 0), (2, .int 0), (0, .ref h0), (1, .int p0)]) hx hb dX9_mostLeft_3 rfl hl (by decide) rfl (fun ls hl => ?_)
  refine (lp_sX9_mostLeft h0 sa bf bh months full lean ksa fsa p0 gmonths gfull glean gp0 hx hb hml hown hts hK hz (Nat.le_of_ble_eq_true rfl) (Nat.le_of_ble_eq_true rfl) (Nat.zero_le _) (Nat.zero_le _) (fun v H locs ls gv hP hS hl => ?_) 64) 0 0 _ _ _ (gi_w (gi_c 0 0 (by decide)) (by decide)) (gi_w (gi_c 0 0 (by decide)) (by decide)) (by have k0 : (0 : Int32).toInt = 0 := (by decide); omega) hP hS (lv_sub hl [2, 3, 1, 0] rfl)
  · skip
    exact W.iret (v := v) hx hb hr (fun t ht hW => ⟨⟨v, (), rfl, gv, trivial⟩, hS.F ht⟩) hS.2.2 dX9_mostLeft_31
theorem dX9_leanIn_0 : decode cX9_leanIn 0 = .ok (.iconst 0, 1) := by decide +kernel
theorem dX9_leanIn_1 : decode cX9_leanIn 1 = .ok (.istore_n 2, 1) := by decide +kernel
theorem dX9_leanIn_2 : decode cX9_leanIn 2 = .ok (.iconst 0, 1) := by decide +kernel
theorem dX9_leanIn_3 : decode cX9_leanIn 3 = .ok (.istore_n 3, 1) := by decide +kernel
theorem dX9_leanIn_4 : decode cX9_leanIn 4 = .ok (.iload_n 3, 1) := by decide +kernel
theorem dX9_leanIn_5 : decode cX9_leanIn 5 = .ok (.iload_n 1, 1) := by decide +kernel
theorem dX9_leanIn_6 : decode cX9_leanIn 6 = .ok (.if_icmp .gt 62, 3) := by decide +kernel
theorem dX9_leanIn_9 : decode cX9_leanIn 9 = .ok (.iload_n 1, 1) := by decide +kernel
theorem dX9_leanIn_10 : decode cX9_leanIn 10 = .ok (.invokestatic 67, 3) := by decide +kernel
theorem dX9_leanIn_13 : decode cX9_leanIn 13 = .ok (.istore 4, 2) := by decide +kernel
theorem dX9_leanIn_15 : decode cX9_leanIn 15 = .ok (.iload 4, 2) := by decide +kernel
theorem dX9_leanIn_17 : decode cX9_leanIn 17 = .ok (.iload_n 1, 1) := by decide +kernel
theorem dX9_leanIn_18 : decode cX9_leanIn 18 = .ok (.aload_n 0, 1) := by decide +kernel
theorem dX9_leanIn_19 : decode cX9_leanIn 19 = .ok (.getfield 31, 3) := by decide +kernel
theorem dX9_leanIn_22 : decode cX9_leanIn 22 = .ok (.aload_n 0, 1) := by decide +kernel
theorem dX9_leanIn_23 : decode cX9_leanIn 23 = .ok (.getfield 35, 3) := by decide +kernel
theorem dX9_leanIn_26 : decode cX9_leanIn 26 = .ok (.invokestatic 71, 3) := by decide +kernel
theorem dX9_leanIn_29 : decode cX9_leanIn 29 = .ok (.if_icmp .gt 33, 3) := by decide +kernel
theorem dX9_leanIn_32 : decode cX9_leanIn 32 = .ok (.iload_n 2, 1) := by decide +kernel
theorem dX9_leanIn_33 : decode cX9_leanIn 33 = .ok (.aload_n 0, 1) := by decide +kernel
theorem dX9_leanIn_34 : decode cX9_leanIn 34 = .ok (.getfield 9, 3) := by decide +kernel
theorem dX9_leanIn_37 : decode cX9_leanIn 37 = .ok (.iload_n 1, 1) := by decide +kernel
theorem dX9_leanIn_38 : decode cX9_leanIn 38 = .ok (.iload_n 3, 1) := by decide +kernel
theorem dX9_leanIn_39 : decode cX9_leanIn 39 = .ok (.iload 4, 2) := by decide +kernel
theorem dX9_leanIn_41 : decode cX9_leanIn 41 = .ok (.invokestatic 63, 3) := by decide +kernel
theorem dX9_leanIn_44 : decode cX9_leanIn 44 = .ok (.iaload, 1) := by decide +kernel
theorem dX9_leanIn_45 : decode cX9_leanIn 45 = .ok (.aload_n 0, 1) := by decide +kernel
theorem dX9_leanIn_46 : decode cX9_leanIn 46 = .ok (.iload_n 1, 1) := by decide +kernel
theorem dX9_leanIn_47 : decode cX9_leanIn 47 = .ok (.iload_n 3, 1) := by decide +kernel
theorem dX9_leanIn_48 : decode cX9_leanIn 48 = .ok (.iload 4, 2) := by decide +kernel
theorem dX9_leanIn_50 : decode cX9_leanIn 50 = .ok (.invokevirtual 89, 3) := by decide +kernel
theorem dX9_leanIn_53 : decode cX9_leanIn 53 = .ok (.imul, 1) := by decide +kernel
theorem dX9_leanIn_54 : decode cX9_leanIn 54 = .ok (.iadd, 1) := by decide +kernel
theorem dX9_leanIn_55 : decode cX9_leanIn 55 = .ok (.istore_n 2, 1) := by decide +kernel
theorem dX9_leanIn_56 : decode cX9_leanIn 56 = .ok (.iinc 4 1, 3) := by decide +kernel
theorem dX9_leanIn_59 : decode cX9_leanIn 59 = .ok (.goto (-44), 3) := by decide +kernel
theorem dX9_leanIn_62 : decode cX9_leanIn 62 = .ok (.iinc 3 1, 3) := by decide +kernel
theorem dX9_leanIn_65 : decode cX9_leanIn 65 = .ok (.goto (-61), 3) := by decide +kernel
theorem dX9_leanIn_68 : decode cX9_leanIn 68 = .ok (.iload_n 2, 1) := by decide +kernel
theorem dX9_leanIn_69 : decode cX9_leanIn 69 = .ok (.ireturn, 1) := by decide +kernel
set_option maxHeartbeats 4000000 in
set_option maxRecDepth 100000 in
theorem lp_sX9_leanIn {p : Program} {l : Launch} {e : Env} {R : Room} {s : State} {m : MethodId} {args : Array Value} {below : List Frame} {meth : Method} {c : Code} {Q : State → Prop} {A : Nat → Prop} {cells slots : Nat} {dC : Nat → ClassId} {dI : Nat → Nat → Nat} (h0 : Nat) (bf : Nat) (bh : Nat) (sa : Nat) (months : Int32) (full : Int32) (lean : Int32) (kbf : ClassId) (fbf : Nat → Int32) (kbh : ClassId) (fbh : Nat → Int32) (p0 : Int32) (gmonths : gi months 0 24) (gfull : gi full 0 5) (glean : gi lean 0 5) (gp0 : gi p0 0 23) (hx : p.tables.exec = Jvm.exec) (hb : c.code = cX9_leanIn) (hml : c.maxLocals = 5) (hown : s.vm.findClass RX9 = some m.cls) (hts : ∀ w ∈ ((.code yX9_leanIn cX9_leanIn 5 (some .int) :: wsGA) : List Cond), w.before args s = true) (hK : va_K (dC, dI) vwCl [(kbf, .int), (kbh, .int)] s) (hz : nzA s) (hRf : 3 ≤ R.frames) (hRl : 66 ≤ R.locals) (hRc : cells ≤ R.cells) (hRs : slots ≤ R.slots) (kr69 : ∀ (v : Int32) (H : Heap) (locs : List Loc) (ls : Array Slot), va_P (dC, dI) vwCl [(h0, .inr (9, [.ref bf, .ref bh, .ref sa, .int months, .int full, .int lean])), (bf, .inl (kbf, 3575, .inl fbf)), (bh, .inl (kbh, 3575, .inl fbh))] H → va_S A s.heap H locs → lv_has ls 5 [] → W p l e R s m args below meth c H locs cells slots Q (F0 m 69 ls [.int v])) : ∀ z : Nat, (∀ (v2 : Int32) (v3 : Int32) (H : Heap) (locs : List Loc) (ls : Array Slot), gi v3 0 24 → 673 + (-28) * v3.toInt < (z : Int) → va_P (dC, dI) vwCl [(h0, .inr (9, [.ref bf, .ref bh, .ref sa, .int months, .int full, .int lean])), (bf, .inl (kbf, 3575, .inl fbf)), (bh, .inl (kbh, 3575, .inl fbh))] H → va_S A s.heap H locs → lv_has ls 5 [(0, .ref h0), (1, .int p0), (2, .int v2), (3, .int v3)] → W p l e R s m args below meth c H locs cells slots Q (F0 m 4 ls [])) ∧ (∀ (v2 : Int32) (v3 : Int32) (v4 : Int32) (H : Heap) (locs : List Loc) (ls : Array Slot), gi v3 0 23 → gi v4 0 11 → 668 + (-28) * v3.toInt + (-2) * v4.toInt < (z : Int) → va_P (dC, dI) vwCl [(h0, .inr (9, [.ref bf, .ref bh, .ref sa, .int months, .int full, .int lean])), (bf, .inl (kbf, 3575, .inl fbf)), (bh, .inl (kbh, 3575, .inl fbh))] H → va_S A s.heap H locs → lv_has ls 5 [(0, .ref h0), (1, .int p0), (2, .int v2), (3, .int v3), (4, .int v4)] → W p l e R s m args below meth c H locs cells slots Q (F0 m 15 ls [])) := by
  intro z
  induction z with
  | zero =>
    refine ⟨?_, ?_⟩
    · intro v2 v3 H locs ls gv3 hmu hP hS hl
      exact absurd hmu (by have hv31 := gv3.1; have hv32 := gv3.2; omega)
    · intro v2 v3 v4 H locs ls gv3 gv4 hmu hP hS hl
      exact absurd hmu (by have hv31 := gv3.1; have hv32 := gv3.2; have hv41 := gv4.1; have hv42 := gv4.2; omega)
  | succ z ih =>
    refine ⟨?_, ?_⟩
    · intro v2 v3 H locs ls gv3 hmu hP hS hl
      refine lv_iload_n hx hb dX9_leanIn_4 rfl (lv_at hl 3 rfl) ?_
      refine lv_iload_n hx hb dX9_leanIn_5 rfl (lv_at hl 1 rfl) ?_
      refine lv_icmp_gt (tgt := 68) hx hb dX9_leanIn_6 (by decide) (fun c_224 => ?_) (fun c_224 => ?_)
      · have g_225 : gi v3 1 24 := gi_lt_r c_224 gp0 gv3 (by decide)
        refine lv_iload_n hx hb dX9_leanIn_68 rfl (lv_at hl 2 rfl) ?_
        exact kr69 v2 _ _ _ hP hS (lv_sub hl [] rfl)
      · have g_226 : gi v3 0 23 := gi_le_l (Int32.not_lt.mp c_224) gv3 gp0
        refine lv_iload_n hx hb dX9_leanIn_9 rfl (lv_at hl 1 rfl) ?_
        have hPc := hP.sub (ws' := []) [] rfl
        have hKc := hK.sub (tys' := []) [] rfl
        refine va_calli (va_runSN (As := [.int p0]) (rest := []) ⟨hx, hb, hml, hown, hts⟩ (sX11_firstRun l dC dI p0 (gi_w gp0 (by decide))) (⟨va_cnB 1 hts (gz_gP mGA_504 goodGA) rfl rfl rfl (nzA_X9_67 hz) (hts _ (List.mem_cons_of_mem _ mGA_1)) (by decide +kernel) ⟨Nat.le_trans (Nat.le_of_ble_eq_true rfl) hRf, Nat.le_trans (Nat.le_of_ble_eq_true rfl) hRl⟩, (hts _ (List.mem_cons_of_mem _ mGA_503)), trivial⟩) ⟨bl_I (bl_a bl_P (bl_a bl_K bl_nz)), fun U hU hW => ⟨rfl, by rw [hU]; exact hPc, va_K.moved hW.alike hKc, nzA_warm hW hz⟩⟩ rfl rfl hl.1 rfl (lv_room (Nat.le_of_ble_eq_true rfl)) dX9_leanIn_10 ⟨hRc, hRs⟩) hS (fun q _ h => h.elim) (fun q h => h.elim) (fun r_227 u t H1 locs ht hvm hw hB hz1 hk1 hS => ?_)
        have hP := gz_keep hP hk1
        generalize H1 = H at hP hS ⊢
        have gr_227 : gi r_227 0 1 := hw
        refine lv_istore (lv' := [(4, .int r_227), (0, .ref h0), (1, .int p0), (2, .int v2), (3, .int v3)]) hx hb dX9_leanIn_13 hl (by decide) rfl (fun ls hl => ?_)
        exact ih.2 v2 v3 r_227 _ _ _ g_226 (gi_w gr_227 (by decide)) (by have av3 := gv3.1; have bv3 := gv3.2; have qgv3 := g_226.1; have rgv3 := g_226.2; have qgr_227 := gr_227.1; have rgr_227 := gr_227.2; omega) hP hS (lv_sub hl [1, 2, 3, 4, 0] rfl)
    · intro v2 v3 v4 H locs ls gv3 gv4 hmu hP hS hl
      refine lv_iload hx hb dX9_leanIn_15 (lv_at hl 4 rfl) ?_
      refine lv_iload_n hx hb dX9_leanIn_17 rfl (lv_at hl 1 rfl) ?_
      refine lv_aload_n hx hb dX9_leanIn_18 rfl (lv_at hl 0 rfl) ?_
      refine va_get (D := (dC, dI)) (ci := 9) (v := .int full) (C := RX9) (T := TX9) (N := 6) hx hb hts (fun w h => List.mem_cons_of_mem _ (jnGA_X9 w h)) hown hK hP 0 rfl rfl 4 (by decide) (hts _ (List.mem_cons_of_mem _ mGA_562)) (fun _ h9 => h9) rfl dX9_leanIn_19 ?_
      refine lv_aload_n hx hb dX9_leanIn_22 rfl (lv_at hl 0 rfl) ?_
      refine va_get (D := (dC, dI)) (ci := 9) (v := .int lean) (C := RX9) (T := TX9) (N := 6) hx hb hts (fun w h => List.mem_cons_of_mem _ (jnGA_X9 w h)) hown hK hP 0 rfl rfl 5 (by decide) (hts _ (List.mem_cons_of_mem _ mGA_564)) (fun _ h9 => h9) rfl dX9_leanIn_23 ?_
      have hPc := hP.sub (ws' := []) [] rfl
      have hKc := hK.sub (tys' := []) [] rfl
      refine va_calli (va_runSN (As := [.int p0, .int full, .int lean]) (rest := [.int v4]) ⟨hx, hb, hml, hown, hts⟩ (sX11_lastRun l dC dI p0 full lean (gi_w gp0 (by decide)) gfull glean) (⟨va_cnB 3 hts (gz_gP mGA_506 goodGA) rfl rfl rfl (nzA_X9_71 hz) (hts _ (List.mem_cons_of_mem _ mGA_1)) (by decide +kernel) ⟨Nat.le_trans (Nat.le_of_ble_eq_true rfl) hRf, Nat.le_trans (Nat.le_of_ble_eq_true rfl) hRl⟩, (hts _ (List.mem_cons_of_mem _ mGA_505)), trivial⟩) ⟨bl_I (bl_a bl_P (bl_a bl_K bl_nz)), fun U hU hW => ⟨rfl, by rw [hU]; exact hPc, va_K.moved hW.alike hKc, nzA_warm hW hz⟩⟩ rfl rfl hl.1 rfl (lv_room (Nat.le_of_ble_eq_true rfl)) dX9_leanIn_26 ⟨hRc, hRs⟩) hS (fun q _ h => h.elim) (fun q h => h.elim) (fun r_228 u t H1 locs ht hvm hw hB hz1 hk1 hS => ?_)
      have hP := gz_keep hP hk1
      generalize H1 = H at hP hS ⊢
      have gr_228 : gi r_228 0 10 := hw
      refine lv_icmp_gt (tgt := 62) hx hb dX9_leanIn_29 (by decide) (fun c_229 => ?_) (fun c_229 => ?_)
      · have g_230 : gi v4 1 11 := gi_lt_r c_229 gr_228 gv4 (by decide)
        obtain ⟨x_231, ex_231⟩ : ∃ y : Int32, y = v3 + 1 := ⟨_, rfl⟩
        have gx_231 : gi x_231 1 24 := gi_add ex_231 gv3 (gi_c 1 1 (by decide)) (by decide)
        refine lv_iinc (v := x_231) (lv' := [(3, .int x_231), (0, .ref h0), (1, .int p0), (2, .int v2), (4, .int v4)]) hx hb dX9_leanIn_62 hl (k := 3) rfl (by rw [ex_231]; rfl) (by decide) rfl (fun ls hl => ?_)
        refine lv_goto (tgt := 4) hx hb dX9_leanIn_65 (by decide) ?_
        exact ih.1 v2 x_231 _ _ _ (gi_w gx_231 (by decide)) (by have av3 := gv3.1; have bv3 := gv3.2; have av4 := gv4.1; have bv4 := gv4.2; have qgx_231 := gx_231.1; have rgx_231 := gx_231.2; have igx_231 : x_231.toInt = v3.toInt + 1 := (by have hc1 : (1 : Int32).toInt = 1 := (by decide); have h9 := gi_addI ex_231 (by have h1 := gv3.1; have h2 := (gi_c 1 1 (by decide)).1; have h3 := gv3.2; have h4 := (gi_c 1 1 (by decide)).2; omega) (by have h1 := gv3.1; have h2 := (gi_c 1 1 (by decide)).1; have h3 := gv3.2; have h4 := (gi_c 1 1 (by decide)).2; omega); rw [hc1] at h9; exact h9); have qgv3 := gv3.1; have rgv3 := gv3.2; omega) hP hS (lv_sub hl [1, 2, 3, 0] rfl)
      · have g_232 : gi v4 0 10 := gi_le_l (Int32.not_lt.mp c_229) gv4 gr_228
        refine lv_iload_n hx hb dX9_leanIn_32 rfl (lv_at hl 2 rfl) ?_
        refine lv_aload_n hx hb dX9_leanIn_33 rfl (lv_at hl 0 rfl) ?_
        refine va_get (D := (dC, dI)) (ci := 9) (v := .ref bf) (C := RX9) (T := TX9) (N := 6) hx hb hts (fun w h => List.mem_cons_of_mem _ (jnGA_X9 w h)) hown hK hP 0 rfl rfl 0 (by decide) (hts _ (List.mem_cons_of_mem _ mGA_111)) (fun _ h9 => h9) rfl dX9_leanIn_34 ?_
        refine lv_iload_n hx hb dX9_leanIn_37 rfl (lv_at hl 1 rfl) ?_
        refine lv_iload_n hx hb dX9_leanIn_38 rfl (lv_at hl 3 rfl) ?_
        refine lv_iload hx hb dX9_leanIn_39 (lv_at hl 4 rfl) ?_
        have hPc := hP.sub (ws' := []) [] rfl
        have hKc := hK.sub (tys' := []) [] rfl
        refine va_calli (va_runSN (As := [.int p0, .int v3, .int v4]) (rest := [.ref bf, .int v2]) ⟨hx, hb, hml, hown, hts⟩ (sX11_spot l dC dI p0 v3 v4 (gi_w gp0 (by decide)) (gi_w gv3 (by decide)) g_232) (⟨va_cnB 3 hts (gz_gP mGA_582 goodGA) rfl rfl rfl (nzA_X9_63 hz) (hts _ (List.mem_cons_of_mem _ mGA_1)) (by decide +kernel) ⟨Nat.le_trans (Nat.le_of_ble_eq_true rfl) hRf, Nat.le_trans (Nat.le_of_ble_eq_true rfl) hRl⟩, (hts _ (List.mem_cons_of_mem _ mGA_581)), trivial⟩) ⟨bl_I (bl_a bl_P (bl_a bl_K bl_nz)), fun U hU hW => ⟨rfl, by rw [hU]; exact hPc, va_K.moved hW.alike hKc, nzA_warm hW hz⟩⟩ rfl rfl hl.1 rfl (lv_room (Nat.le_of_ble_eq_true rfl)) dX9_leanIn_41 ⟨hRc, hRs⟩) hS (fun q _ h => h.elim) (fun q h => h.elim) (fun r_233 u t H1 locs ht hvm hw hB hz1 hk1 hS => ?_)
        have hP := gz_keep hP hk1
        generalize H1 = H at hP hS ⊢
        have gr_233 : gi r_233 0 3574 := hw
        refine va_iald hx hb hK hP 1 0 rfl rfl (gi_in gr_233 (by decide)) dX9_leanIn_44 ?_
        refine lv_topi (fun x_234 ex_234 => ?_)
        refine lv_aload_n hx hb dX9_leanIn_45 rfl (lv_at hl 0 rfl) ?_
        refine lv_iload_n hx hb dX9_leanIn_46 rfl (lv_at hl 1 rfl) ?_
        refine lv_iload_n hx hb dX9_leanIn_47 rfl (lv_at hl 3 rfl) ?_
        refine lv_iload hx hb dX9_leanIn_48 (lv_at hl 4 rfl) ?_
        have hPc := hP.sub (ws' := [(h0, .inr (9, [.ref bf, .ref bh, .ref sa, .int months, .int full, .int lean])), (bh, .inl (kbh, 3575, .inl fbh))]) [0, 2] rfl
        have hKc := hK.sub (tys' := [(kbh, .int)]) [1] rfl
        refine va_calli (va_runV (As := [.int p0, .int v3, .int v4]) (rest := [.int x_234, .int v2]) ⟨hx, hb, hml, hown, hts⟩ (sX9_withLean l dC dI h0 bh bf sa months full lean kbh fbh p0 v3 v4 gmonths gfull glean gp0 (gi_w gv3 (by decide)) g_232) (cwV 3 hts (gz_gV mGA_599 mGA_600 mGA_601 mGA_27 mGA_602 goodGA) rfl rfl rfl (by decide +kernel) ⟨Nat.le_trans (Nat.le_of_ble_eq_true rfl) hRf, Nat.le_trans (Nat.le_of_ble_eq_true rfl) hRl⟩) ⟨bl_I (bl_a bl_P (bl_a bl_K bl_nz)), va_recv hKc hPc (ci := 9) (q0 := 0) rfl rfl, fun U hU hW => ⟨rfl, by rw [hU]; exact hPc, va_K.moved hW.alike hKc, nzA_warm hW hz⟩⟩ rfl rfl hl.1 rfl (lv_room (Nat.le_of_ble_eq_true rfl)) dX9_leanIn_50 ⟨hRc, hRs⟩) hS (fun q _ h => h.elim) (fun q h => h.elim) (fun r_235 u t H1 locs ht hvm hw hB hz1 hk1 hS => ?_)
        have hP := gz_keep hP hk1
        generalize H1 = H at hP hS ⊢
        refine lv_imul hx hb dX9_leanIn_53 ?_
        refine lv_topi (fun x_236 ex_236 => ?_)
        refine lv_iadd hx hb dX9_leanIn_54 ?_
        refine lv_topi (fun x_237 ex_237 => ?_)
        refine lv_istore_n (lv' := [(2, .int x_237), (0, .ref h0), (1, .int p0), (3, .int v3), (4, .int v4)]) hx hb dX9_leanIn_55 rfl hl (by decide) rfl (fun ls hl => ?_)
        obtain ⟨x_238, ex_238⟩ : ∃ y : Int32, y = v4 + 1 := ⟨_, rfl⟩
        have gx_238 : gi x_238 1 11 := gi_add ex_238 g_232 (gi_c 1 1 (by decide)) (by decide)
        refine lv_iinc (v := x_238) (lv' := [(4, .int x_238), (2, .int x_237), (0, .ref h0), (1, .int p0), (3, .int v3)]) hx hb dX9_leanIn_56 hl (k := 4) rfl (by rw [ex_238]; rfl) (by decide) rfl (fun ls hl => ?_)
        refine lv_goto (tgt := 15) hx hb dX9_leanIn_59 (by decide) ?_
        exact ih.2 x_237 v3 x_238 _ _ _ gv3 (gi_w gx_238 (by decide)) (by have av3 := gv3.1; have bv3 := gv3.2; have av4 := gv4.1; have bv4 := gv4.2; have qgx_238 := gx_238.1; have rgx_238 := gx_238.2; have igx_238 : x_238.toInt = v4.toInt + 1 := (by have hc1 : (1 : Int32).toInt = 1 := (by decide); have h9 := gi_addI ex_238 (by have h1 := g_232.1; have h2 := (gi_c 1 1 (by decide)).1; have h3 := g_232.2; have h4 := (gi_c 1 1 (by decide)).2; omega) (by have h1 := g_232.1; have h2 := (gi_c 1 1 (by decide)).1; have h3 := g_232.2; have h4 := (gi_c 1 1 (by decide)).2; omega); rw [hc1] at h9; exact h9); have qgv4 := g_232.1; have rgv4 := g_232.2; have qgv3 := gv3.1; have rgv3 := gv3.2; omega) hP hS (lv_sub hl [2, 3, 1, 4, 0] rfl)
set_option maxHeartbeats 4000000 in
set_option maxRecDepth 100000 in
theorem sX9_leanIn (l : Launch) (dC : Nat → ClassId) (dI : Nat → Nat → Nat) (h0 : Nat) (bf : Nat) (bh : Nat) (sa : Nat) (months : Int32) (full : Int32) (lean : Int32) (kbf : ClassId) (fbf : Nat → Int32) (kbh : ClassId) (fbh : Nat → Int32) (p0 : Int32) (gmonths : gi months 0 24) (gfull : gi full 0 5) (glean : gi lean 0 5) (gp0 : gi p0 0 23) : Met l yX9_leanIn (.code yX9_leanIn cX9_leanIn 5 (some .int) :: wsGA) ({ frames := 3, cells := 0, slots := 0, locals := 66 }) (va_Pc [.ref h0, .int p0] (fun U => va_P (dC, dI) vwCl [(h0, .inr (9, [.ref bf, .ref bh, .ref sa, .int months, .int full, .int lean])), (bf, .inl (kbf, 3575, .inl fbf)), (bh, .inl (kbh, 3575, .inl fbh))] U.heap ∧ va_K (dC, dI) vwCl [(kbf, .int), (kbh, .int)] U ∧ nzA U)) (va_Qi (fun (r : Int32) (u : Unit) => gi r (-2147483648) 2147483647) (fun _ _ => True) (fun _ => False)) 0 0 (fun _ => False) := by
  refine Met.ofW (cc := cX9_leanIn) (maxL := 5) (ret := (some .int)) (by decide) rfl ?_
  intro p e s m args below meth c s₁ B hml hv
  obtain ⟨rfl, hP, hK, hz⟩ := hv
  have hx := B.exec
  have hb := B.bytes
  have hr := B.returns
  have hts := atoms_spec (ws := (.code yX9_leanIn cX9_leanIn 5 (some .int) :: wsGA)) B.pre
  have hown : s.vm.findClass RX9 = some m.cls := findClass_of_methodNamed B.named
  have hlocks := B.notSynchronized
  have hS : va_S (fun _ => False) s.heap s.heap [] := va_S.rf
  have hl := lv_entry ([.ref h0, .int p0]) (n := 5) (Nat.le_of_ble_eq_true rfl)
  rw [lg_entry_eq]
  generalize (lg_sl ([.ref h0, .int p0]) ++ List.replicate (5 - (lg_sl ([.ref h0, .int p0])).length) Slot.unset).toArray = ls at hl ⊢
  have hl : lv_has ls 5 [(0, .ref h0), (1, .int p0)] := hl
  refine lv_iconst (v := 0) hx hb dX9_leanIn_0 (by decide) ?_
  refine lv_istore_n (lv' := [(2, .int 0), (0, .ref h0), (1, .int p0)]) hx hb dX9_leanIn_1 rfl hl (by decide) rfl (fun ls hl => ?_)
  refine lv_iconst (v := 0) hx hb dX9_leanIn_2 (by decide) ?_
  refine lv_istore_n (lv' := [(3, .int 0), (2, .int 0), (0, .ref h0), (1, .int p0)]) hx hb dX9_leanIn_3 rfl hl (by decide) rfl (fun ls hl => ?_)
  refine (lp_sX9_leanIn h0 bf bh sa months full lean kbf fbf kbh fbh p0 gmonths gfull glean gp0 hx hb hml hown hts hK hz (Nat.le_of_ble_eq_true rfl) (Nat.le_of_ble_eq_true rfl) (Nat.zero_le _) (Nat.zero_le _) (fun v H locs ls hP hS hl => ?_) 738).1 0 0 _ _ _ (gi_w (gi_c 0 0 (by decide)) (by decide)) (by have k0 : (0 : Int32).toInt = 0 := (by decide); omega) hP hS (lv_sub hl [2, 3, 1, 0] rfl)
  · skip
    exact W.iret (v := v) hx hb hr (fun t ht hW => ⟨⟨v, (), rfl, (gi_any v), trivial⟩, hS.F ht⟩) hS.2.2 dX9_leanIn_69
theorem dX9_dated_0 : decode cX9_dated 0 = .ok (.iload_n 3, 1) := by decide +kernel
theorem dX9_dated_1 : decode cX9_dated 1 = .ok (.iload_n 1, 1) := by decide +kernel
theorem dX9_dated_2 : decode cX9_dated 2 = .ok (.iload_n 2, 1) := by decide +kernel
theorem dX9_dated_3 : decode cX9_dated 3 = .ok (.invokestatic 95, 3) := by decide +kernel
theorem dX9_dated_6 : decode cX9_dated 6 = .ok (.isub, 1) := by decide +kernel
theorem dX9_dated_7 : decode cX9_dated 7 = .ok (.istore 4, 2) := by decide +kernel
theorem dX9_dated_9 : decode cX9_dated 9 = .ok (.iload 4, 2) := by decide +kernel
theorem dX9_dated_11 : decode cX9_dated 11 = .ok (.ifCond .lt 10, 3) := by decide +kernel
theorem dX9_dated_14 : decode cX9_dated 14 = .ok (.iload 4, 2) := by decide +kernel
theorem dX9_dated_16 : decode cX9_dated 16 = .ok (.bipush 30, 2) := by decide +kernel
theorem dX9_dated_18 : decode cX9_dated 18 = .ok (.if_icmp .lt 5, 3) := by decide +kernel
theorem dX9_dated_21 : decode cX9_dated 21 = .ok (.iconst 0, 1) := by decide +kernel
theorem dX9_dated_22 : decode cX9_dated 22 = .ok (.ireturn, 1) := by decide +kernel
theorem dX9_dated_23 : decode cX9_dated 23 = .ok (.iload 4, 2) := by decide +kernel
theorem dX9_dated_25 : decode cX9_dated 25 = .ok (.bipush 29, 2) := by decide +kernel
theorem dX9_dated_27 : decode cX9_dated 27 = .ok (.if_icmp .ge 14, 3) := by decide +kernel
theorem dX9_dated_30 : decode cX9_dated 30 = .ok (.aload_n 0, 1) := by decide +kernel
theorem dX9_dated_31 : decode cX9_dated 31 = .ok (.getfield 18, 3) := by decide +kernel
theorem dX9_dated_34 : decode cX9_dated 34 = .ok (.iload_n 1, 1) := by decide +kernel
theorem dX9_dated_35 : decode cX9_dated 35 = .ok (.iload_n 2, 1) := by decide +kernel
theorem dX9_dated_36 : decode cX9_dated 36 = .ok (.invokestatic 92, 3) := by decide +kernel
theorem dX9_dated_39 : decode cX9_dated 39 = .ok (.iaload, 1) := by decide +kernel
theorem dX9_dated_40 : decode cX9_dated 40 = .ok (.ireturn, 1) := by decide +kernel
theorem dX9_dated_41 : decode cX9_dated 41 = .ok (.iconst 0, 1) := by decide +kernel
theorem dX9_dated_42 : decode cX9_dated 42 = .ok (.istore 5, 2) := by decide +kernel
theorem dX9_dated_44 : decode cX9_dated 44 = .ok (.iload_n 1, 1) := by decide +kernel
theorem dX9_dated_45 : decode cX9_dated 45 = .ok (.invokestatic 67, 3) := by decide +kernel
theorem dX9_dated_48 : decode cX9_dated 48 = .ok (.istore 6, 2) := by decide +kernel
theorem dX9_dated_50 : decode cX9_dated 50 = .ok (.iload 6, 2) := by decide +kernel
theorem dX9_dated_52 : decode cX9_dated 52 = .ok (.iload_n 1, 1) := by decide +kernel
theorem dX9_dated_53 : decode cX9_dated 53 = .ok (.aload_n 0, 1) := by decide +kernel
theorem dX9_dated_54 : decode cX9_dated 54 = .ok (.getfield 31, 3) := by decide +kernel
theorem dX9_dated_57 : decode cX9_dated 57 = .ok (.aload_n 0, 1) := by decide +kernel
theorem dX9_dated_58 : decode cX9_dated 58 = .ok (.getfield 35, 3) := by decide +kernel
theorem dX9_dated_61 : decode cX9_dated 61 = .ok (.invokestatic 71, 3) := by decide +kernel
theorem dX9_dated_64 : decode cX9_dated 64 = .ok (.if_icmp .gt 35, 3) := by decide +kernel
theorem dX9_dated_67 : decode cX9_dated 67 = .ok (.iload 5, 2) := by decide +kernel
theorem dX9_dated_69 : decode cX9_dated 69 = .ok (.aload_n 0, 1) := by decide +kernel
theorem dX9_dated_70 : decode cX9_dated 70 = .ok (.getfield 9, 3) := by decide +kernel
theorem dX9_dated_73 : decode cX9_dated 73 = .ok (.iload_n 1, 1) := by decide +kernel
theorem dX9_dated_74 : decode cX9_dated 74 = .ok (.iload_n 2, 1) := by decide +kernel
theorem dX9_dated_75 : decode cX9_dated 75 = .ok (.iload 6, 2) := by decide +kernel
theorem dX9_dated_77 : decode cX9_dated 77 = .ok (.invokestatic 63, 3) := by decide +kernel
theorem dX9_dated_80 : decode cX9_dated 80 = .ok (.iaload, 1) := by decide +kernel
theorem dX9_dated_81 : decode cX9_dated 81 = .ok (.aload_n 0, 1) := by decide +kernel
theorem dX9_dated_82 : decode cX9_dated 82 = .ok (.iload_n 1, 1) := by decide +kernel
theorem dX9_dated_83 : decode cX9_dated 83 = .ok (.iload_n 2, 1) := by decide +kernel
theorem dX9_dated_84 : decode cX9_dated 84 = .ok (.iload 6, 2) := by decide +kernel
theorem dX9_dated_86 : decode cX9_dated 86 = .ok (.invokevirtual 86, 3) := by decide +kernel
theorem dX9_dated_89 : decode cX9_dated 89 = .ok (.imul, 1) := by decide +kernel
theorem dX9_dated_90 : decode cX9_dated 90 = .ok (.iadd, 1) := by decide +kernel
theorem dX9_dated_91 : decode cX9_dated 91 = .ok (.istore 5, 2) := by decide +kernel
theorem dX9_dated_93 : decode cX9_dated 93 = .ok (.iinc 6 1, 3) := by decide +kernel
theorem dX9_dated_96 : decode cX9_dated 96 = .ok (.goto (-46), 3) := by decide +kernel
theorem dX9_dated_99 : decode cX9_dated 99 = .ok (.iload 5, 2) := by decide +kernel
theorem dX9_dated_101 : decode cX9_dated 101 = .ok (.ireturn, 1) := by decide +kernel
set_option maxHeartbeats 4000000 in
set_option maxRecDepth 100000 in
theorem lp_sX9_dated {p : Program} {l : Launch} {e : Env} {R : Room} {s : State} {m : MethodId} {args : Array Value} {below : List Frame} {meth : Method} {c : Code} {Q : State → Prop} {A : Nat → Prop} {cells slots : Nat} {dC : Nat → ClassId} {dI : Nat → Nat → Nat} (h0 : Nat) (bf : Nat) (bh : Nat) (sa : Nat) (months : Int32) (full : Int32) (lean : Int32) (kbf : ClassId) (fbf : Nat → Int32) (kbh : ClassId) (fbh : Nat → Int32) (ksa : ClassId) (fsa : Nat → Int32) (p0 : Int32) (p1 : Int32) (p2 : Int32) (gmonths : gi months 0 24) (gfull : gi full 0 5) (glean : gi lean 0 5) (gp0 : gi p0 0 23) (gp1 : gi p1 0 23) (hx : p.tables.exec = Jvm.exec) (hb : c.code = cX9_dated) (hml : c.maxLocals = 7) (hown : s.vm.findClass RX9 = some m.cls) (hts : ∀ w ∈ ((.code yX9_dated cX9_dated 7 (some .int) :: wsGA) : List Cond), w.before args s = true) (hK : va_K (dC, dI) vwCl [(kbf, .int), (kbh, .int), (ksa, .int)] s) (hz : nzA s) (hRf : 3 ≤ R.frames) (hRl : 66 ≤ R.locals) (hRc : cells ≤ R.cells) (hRs : slots ≤ R.slots) (kr22 : ∀ (v : Int32) (H : Heap) (locs : List Loc) (ls : Array Slot), gi v 0 0 → va_P (dC, dI) vwCl [(h0, .inr (9, [.ref bf, .ref bh, .ref sa, .int months, .int full, .int lean])), (bf, .inl (kbf, 3575, .inl fbf)), (bh, .inl (kbh, 3575, .inl fbh)), (sa, .inl (ksa, 325, .inl fsa))] H → va_S A s.heap H locs → lv_has ls 7 [] → W p l e R s m args below meth c H locs cells slots Q (F0 m 22 ls [.int v])) (kr40 : ∀ (v : Int32) (H : Heap) (locs : List Loc) (ls : Array Slot), va_P (dC, dI) vwCl [(h0, .inr (9, [.ref bf, .ref bh, .ref sa, .int months, .int full, .int lean])), (bf, .inl (kbf, 3575, .inl fbf)), (bh, .inl (kbh, 3575, .inl fbh)), (sa, .inl (ksa, 325, .inl fsa))] H → va_S A s.heap H locs → lv_has ls 7 [] → W p l e R s m args below meth c H locs cells slots Q (F0 m 40 ls [.int v])) (kr101 : ∀ (v : Int32) (H : Heap) (locs : List Loc) (ls : Array Slot), va_P (dC, dI) vwCl [(h0, .inr (9, [.ref bf, .ref bh, .ref sa, .int months, .int full, .int lean])), (bf, .inl (kbf, 3575, .inl fbf)), (bh, .inl (kbh, 3575, .inl fbh)), (sa, .inl (ksa, 325, .inl fsa))] H → va_S A s.heap H locs → lv_has ls 7 [] → W p l e R s m args below meth c H locs cells slots Q (F0 m 101 ls [.int v])) : ∀ z : Nat, (∀ (v4 : Int32) (v5 : Int32) (v6 : Int32) (H : Heap) (locs : List Loc) (ls : Array Slot), gi v4 29 29 → gi v6 0 11 → 23 + (-2) * v6.toInt < (z : Int) → va_P (dC, dI) vwCl [(h0, .inr (9, [.ref bf, .ref bh, .ref sa, .int months, .int full, .int lean])), (bf, .inl (kbf, 3575, .inl fbf)), (bh, .inl (kbh, 3575, .inl fbh)), (sa, .inl (ksa, 325, .inl fsa))] H → va_S A s.heap H locs → lv_has ls 7 [(0, .ref h0), (1, .int p0), (2, .int p1), (3, .int p2), (4, .int v4), (5, .int v5), (6, .int v6)] → W p l e R s m args below meth c H locs cells slots Q (F0 m 50 ls [])) := by
  intro z
  induction z with
  | zero =>
    intro v4 v5 v6 H locs ls gv4 gv6 hmu hP hS hl
    exact absurd hmu (by have hv61 := gv6.1; have hv62 := gv6.2; omega)
  | succ z ih =>
      intro v4 v5 v6 H locs ls gv4 gv6 hmu hP hS hl
      refine lv_iload hx hb dX9_dated_50 (lv_at hl 6 rfl) ?_
      refine lv_iload_n hx hb dX9_dated_52 rfl (lv_at hl 1 rfl) ?_
      refine lv_aload_n hx hb dX9_dated_53 rfl (lv_at hl 0 rfl) ?_
      refine va_get (D := (dC, dI)) (ci := 9) (v := .int full) (C := RX9) (T := TX9) (N := 6) hx hb hts (fun w h => List.mem_cons_of_mem _ (jnGA_X9 w h)) hown hK hP 0 rfl rfl 4 (by decide) (hts _ (List.mem_cons_of_mem _ mGA_562)) (fun _ h9 => h9) rfl dX9_dated_54 ?_
      refine lv_aload_n hx hb dX9_dated_57 rfl (lv_at hl 0 rfl) ?_
      refine va_get (D := (dC, dI)) (ci := 9) (v := .int lean) (C := RX9) (T := TX9) (N := 6) hx hb hts (fun w h => List.mem_cons_of_mem _ (jnGA_X9 w h)) hown hK hP 0 rfl rfl 5 (by decide) (hts _ (List.mem_cons_of_mem _ mGA_564)) (fun _ h9 => h9) rfl dX9_dated_58 ?_
      have hPc := hP.sub (ws' := []) [] rfl
      have hKc := hK.sub (tys' := []) [] rfl
      refine va_calli (va_runSN (As := [.int p0, .int full, .int lean]) (rest := [.int v6]) ⟨hx, hb, hml, hown, hts⟩ (sX11_lastRun l dC dI p0 full lean (gi_w gp0 (by decide)) gfull glean) (⟨va_cnB 3 hts (gz_gP mGA_506 goodGA) rfl rfl rfl (nzA_X9_71 hz) (hts _ (List.mem_cons_of_mem _ mGA_1)) (by decide +kernel) ⟨Nat.le_trans (Nat.le_of_ble_eq_true rfl) hRf, Nat.le_trans (Nat.le_of_ble_eq_true rfl) hRl⟩, (hts _ (List.mem_cons_of_mem _ mGA_505)), trivial⟩) ⟨bl_I (bl_a bl_P (bl_a bl_K bl_nz)), fun U hU hW => ⟨rfl, by rw [hU]; exact hPc, va_K.moved hW.alike hKc, nzA_warm hW hz⟩⟩ rfl rfl hl.1 rfl (lv_room (Nat.le_of_ble_eq_true rfl)) dX9_dated_61 ⟨hRc, hRs⟩) hS (fun q _ h => h.elim) (fun q h => h.elim) (fun r_241 u t H1 locs ht hvm hw hB hz1 hk1 hS => ?_)
      have hP := gz_keep hP hk1
      generalize H1 = H at hP hS ⊢
      have gr_241 : gi r_241 0 10 := hw
      refine lv_icmp_gt (tgt := 99) hx hb dX9_dated_64 (by decide) (fun c_242 => ?_) (fun c_242 => ?_)
      · have g_243 : gi v6 1 11 := gi_lt_r c_242 gr_241 gv6 (by decide)
        refine lv_iload hx hb dX9_dated_99 (lv_at hl 5 rfl) ?_
        exact kr101 v5 _ _ _ hP hS (lv_sub hl [] rfl)
      · have g_244 : gi v6 0 10 := gi_le_l (Int32.not_lt.mp c_242) gv6 gr_241
        refine lv_iload hx hb dX9_dated_67 (lv_at hl 5 rfl) ?_
        refine lv_aload_n hx hb dX9_dated_69 rfl (lv_at hl 0 rfl) ?_
        refine va_get (D := (dC, dI)) (ci := 9) (v := .ref bf) (C := RX9) (T := TX9) (N := 6) hx hb hts (fun w h => List.mem_cons_of_mem _ (jnGA_X9 w h)) hown hK hP 0 rfl rfl 0 (by decide) (hts _ (List.mem_cons_of_mem _ mGA_111)) (fun _ h9 => h9) rfl dX9_dated_70 ?_
        refine lv_iload_n hx hb dX9_dated_73 rfl (lv_at hl 1 rfl) ?_
        refine lv_iload_n hx hb dX9_dated_74 rfl (lv_at hl 2 rfl) ?_
        refine lv_iload hx hb dX9_dated_75 (lv_at hl 6 rfl) ?_
        have hPc := hP.sub (ws' := []) [] rfl
        have hKc := hK.sub (tys' := []) [] rfl
        refine va_calli (va_runSN (As := [.int p0, .int p1, .int v6]) (rest := [.ref bf, .int v5]) ⟨hx, hb, hml, hown, hts⟩ (sX11_spot l dC dI p0 p1 v6 (gi_w gp0 (by decide)) (gi_w gp1 (by decide)) g_244) (⟨va_cnB 3 hts (gz_gP mGA_582 goodGA) rfl rfl rfl (nzA_X9_63 hz) (hts _ (List.mem_cons_of_mem _ mGA_1)) (by decide +kernel) ⟨Nat.le_trans (Nat.le_of_ble_eq_true rfl) hRf, Nat.le_trans (Nat.le_of_ble_eq_true rfl) hRl⟩, (hts _ (List.mem_cons_of_mem _ mGA_581)), trivial⟩) ⟨bl_I (bl_a bl_P (bl_a bl_K bl_nz)), fun U hU hW => ⟨rfl, by rw [hU]; exact hPc, va_K.moved hW.alike hKc, nzA_warm hW hz⟩⟩ rfl rfl hl.1 rfl (lv_room (Nat.le_of_ble_eq_true rfl)) dX9_dated_77 ⟨hRc, hRs⟩) hS (fun q _ h => h.elim) (fun q h => h.elim) (fun r_245 u t H1 locs ht hvm hw hB hz1 hk1 hS => ?_)
        have hP := gz_keep hP hk1
        generalize H1 = H at hP hS ⊢
        have gr_245 : gi r_245 0 3574 := hw
        refine va_iald hx hb hK hP 1 0 rfl rfl (gi_in gr_245 (by decide)) dX9_dated_80 ?_
        refine lv_topi (fun x_246 ex_246 => ?_)
        refine lv_aload_n hx hb dX9_dated_81 rfl (lv_at hl 0 rfl) ?_
        refine lv_iload_n hx hb dX9_dated_82 rfl (lv_at hl 1 rfl) ?_
        refine lv_iload_n hx hb dX9_dated_83 rfl (lv_at hl 2 rfl) ?_
        refine lv_iload hx hb dX9_dated_84 (lv_at hl 6 rfl) ?_
        have hPc := hP.sub (ws' := [(h0, .inr (9, [.ref bf, .ref bh, .ref sa, .int months, .int full, .int lean])), (bh, .inl (kbh, 3575, .inl fbh))]) [0, 2] rfl
        have hKc := hK.sub (tys' := [(kbh, .int)]) [1] rfl
        refine va_calli (va_runV (As := [.int p0, .int p1, .int v6]) (rest := [.int x_246, .int v5]) ⟨hx, hb, hml, hown, hts⟩ (sX9_withFull l dC dI h0 bh bf sa months full lean kbh fbh p0 p1 v6 gmonths gfull glean gp0 gp1 g_244) (cwV 3 hts (gz_gV mGA_595 mGA_596 mGA_597 mGA_27 mGA_598 goodGA) rfl rfl rfl (by decide +kernel) ⟨Nat.le_trans (Nat.le_of_ble_eq_true rfl) hRf, Nat.le_trans (Nat.le_of_ble_eq_true rfl) hRl⟩) ⟨bl_I (bl_a bl_P (bl_a bl_K bl_nz)), va_recv hKc hPc (ci := 9) (q0 := 0) rfl rfl, fun U hU hW => ⟨rfl, by rw [hU]; exact hPc, va_K.moved hW.alike hKc, nzA_warm hW hz⟩⟩ rfl rfl hl.1 rfl (lv_room (Nat.le_of_ble_eq_true rfl)) dX9_dated_86 ⟨hRc, hRs⟩) hS (fun q _ h => h.elim) (fun q h => h.elim) (fun r_247 u t H1 locs ht hvm hw hB hz1 hk1 hS => ?_)
        have hP := gz_keep hP hk1
        generalize H1 = H at hP hS ⊢
        refine lv_imul hx hb dX9_dated_89 ?_
        refine lv_topi (fun x_248 ex_248 => ?_)
        refine lv_iadd hx hb dX9_dated_90 ?_
        refine lv_topi (fun x_249 ex_249 => ?_)
        refine lv_istore (lv' := [(5, .int x_249), (0, .ref h0), (1, .int p0), (2, .int p1), (3, .int p2), (4, .int v4), (6, .int v6)]) hx hb dX9_dated_91 hl (by decide) rfl (fun ls hl => ?_)
        obtain ⟨x_250, ex_250⟩ : ∃ y : Int32, y = v6 + 1 := ⟨_, rfl⟩
        have gx_250 : gi x_250 1 11 := gi_add ex_250 g_244 (gi_c 1 1 (by decide)) (by decide)
        refine lv_iinc (v := x_250) (lv' := [(6, .int x_250), (5, .int x_249), (0, .ref h0), (1, .int p0), (2, .int p1), (3, .int p2), (4, .int v4)]) hx hb dX9_dated_93 hl (k := 6) rfl (by rw [ex_250]; rfl) (by decide) rfl (fun ls hl => ?_)
        refine lv_goto (tgt := 50) hx hb dX9_dated_96 (by decide) ?_
        exact ih v4 x_249 x_250 _ _ _ gv4 (gi_w gx_250 (by decide)) (by have av6 := gv6.1; have bv6 := gv6.2; have qgx_250 := gx_250.1; have rgx_250 := gx_250.2; have igx_250 : x_250.toInt = v6.toInt + 1 := (by have hc1 : (1 : Int32).toInt = 1 := (by decide); have h9 := gi_addI ex_250 (by have h1 := g_244.1; have h2 := (gi_c 1 1 (by decide)).1; have h3 := g_244.2; have h4 := (gi_c 1 1 (by decide)).2; omega) (by have h1 := g_244.1; have h2 := (gi_c 1 1 (by decide)).1; have h3 := g_244.2; have h4 := (gi_c 1 1 (by decide)).2; omega); rw [hc1] at h9; exact h9); have qgv6 := g_244.1; have rgv6 := g_244.2; omega) hP hS (lv_sub hl [2, 3, 4, 5, 6, 1, 0] rfl)
set_option maxHeartbeats 4000000 in
set_option maxRecDepth 100000 in
theorem sX9_dated (l : Launch) (dC : Nat → ClassId) (dI : Nat → Nat → Nat) (h0 : Nat) (bf : Nat) (bh : Nat) (sa : Nat) (months : Int32) (full : Int32) (lean : Int32) (kbf : ClassId) (fbf : Nat → Int32) (kbh : ClassId) (fbh : Nat → Int32) (ksa : ClassId) (fsa : Nat → Int32) (p0 : Int32) (p1 : Int32) (p2 : Int32) (gmonths : gi months 0 24) (gfull : gi full 0 5) (glean : gi lean 0 5) (gp0 : gi p0 0 23) (gp1 : gi p1 0 23) : Met l yX9_dated (.code yX9_dated cX9_dated 7 (some .int) :: wsGA) ({ frames := 3, cells := 0, slots := 0, locals := 66 }) (va_Pc [.ref h0, .int p0, .int p1, .int p2] (fun U => va_P (dC, dI) vwCl [(h0, .inr (9, [.ref bf, .ref bh, .ref sa, .int months, .int full, .int lean])), (bf, .inl (kbf, 3575, .inl fbf)), (bh, .inl (kbh, 3575, .inl fbh)), (sa, .inl (ksa, 325, .inl fsa))] U.heap ∧ va_K (dC, dI) vwCl [(kbf, .int), (kbh, .int), (ksa, .int)] U ∧ nzA U)) (va_Qi (fun (r : Int32) (u : Unit) => gi r (-2147483648) 2147483647) (fun _ _ => True) (fun _ => False)) 0 0 (fun _ => False) := by
  refine Met.ofW (cc := cX9_dated) (maxL := 7) (ret := (some .int)) (by decide) rfl ?_
  intro p e s m args below meth c s₁ B hml hv
  obtain ⟨rfl, hP, hK, hz⟩ := hv
  have hx := B.exec
  have hb := B.bytes
  have hr := B.returns
  have hts := atoms_spec (ws := (.code yX9_dated cX9_dated 7 (some .int) :: wsGA)) B.pre
  have hown : s.vm.findClass RX9 = some m.cls := findClass_of_methodNamed B.named
  have hlocks := B.notSynchronized
  have hS : va_S (fun _ => False) s.heap s.heap [] := va_S.rf
  have hl := lv_entry ([.ref h0, .int p0, .int p1, .int p2]) (n := 7) (Nat.le_of_ble_eq_true rfl)
  rw [lg_entry_eq]
  generalize (lg_sl ([.ref h0, .int p0, .int p1, .int p2]) ++ List.replicate (7 - (lg_sl ([.ref h0, .int p0, .int p1, .int p2])).length) Slot.unset).toArray = ls at hl ⊢
  have hl : lv_has ls 7 [(0, .ref h0), (1, .int p0), (2, .int p1), (3, .int p2)] := hl
  refine lv_iload_n hx hb dX9_dated_0 rfl (lv_at hl 3 rfl) ?_
  refine lv_iload_n hx hb dX9_dated_1 rfl (lv_at hl 1 rfl) ?_
  refine lv_iload_n hx hb dX9_dated_2 rfl (lv_at hl 2 rfl) ?_
  have hPc := hP.sub (ws' := []) [] rfl
  have hKc := hK.sub (tys' := []) [] rfl
  refine va_calli (va_runSN (As := [.int p0, .int p1]) (rest := [.int p2]) ⟨hx, hb, hml, hown, hts⟩ (sX11_dayOf l dC dI p0 p1) (⟨va_cnB 2 hts (gz_gP mGA_516 goodGA) rfl rfl rfl (nzA_X9_95 hz) (hts _ (List.mem_cons_of_mem _ mGA_1)) (by decide +kernel) ⟨Nat.le_of_ble_eq_true rfl, Nat.le_of_ble_eq_true rfl⟩, (hts _ (List.mem_cons_of_mem _ mGA_515)), trivial⟩) ⟨bl_I (bl_a bl_P (bl_a bl_K bl_nz)), fun U hU hW => ⟨rfl, by rw [hU]; exact hPc, va_K.moved hW.alike hKc, nzA_warm hW hz⟩⟩ rfl rfl hl.1 rfl (lv_room (Nat.le_of_ble_eq_true rfl)) dX9_dated_3 ⟨Nat.zero_le _, Nat.zero_le _⟩) hS (fun q _ h => h.elim) (fun q h => h.elim) (fun r_251 u t H1 locs ht hvm hw hB hz1 hk1 hS => ?_)
  have hP := gz_keep hP hk1
  generalize H1 = H at hP hS ⊢
  refine lv_isub hx hb dX9_dated_6 ?_
  refine lv_topi (fun x_252 ex_252 => ?_)
  refine lv_istore (lv' := [(4, .int x_252), (0, .ref h0), (1, .int p0), (2, .int p1), (3, .int p2)]) hx hb dX9_dated_7 hl (by decide) rfl (fun ls hl => ?_)
  refine lv_iload hx hb dX9_dated_9 (lv_at hl 0 rfl) ?_
  refine lv_if_lt (tgt := 21) hx hb dX9_dated_11 (by decide) (fun c_253 => ?_) (fun c_253 => ?_)
  · have g_254 : gi x_252 (-2147483648) (-1) := gi_lt_l c_253 (gi_any x_252) (gi_c 0 0 (by decide)) (by decide)
    refine lv_iconst (v := 0) hx hb dX9_dated_21 (by decide) ?_
    exact W.iret (v := 0) hx hb hr (fun t ht hW => ⟨⟨0, (), rfl, (gi_any 0), trivial⟩, hS.F ht⟩) hS.2.2 dX9_dated_22
  · have g_255 : gi x_252 0 2147483647 := gi_le_r (Int32.not_lt.mp c_253) (gi_c 0 0 (by decide)) (gi_any x_252)
    refine lv_iload hx hb dX9_dated_14 (lv_at hl 0 rfl) ?_
    refine lv_bipush (v := 30) hx hb dX9_dated_16 (by decide) ?_
    refine lv_icmp_lt (tgt := 23) hx hb dX9_dated_18 (by decide) (fun c_256 => ?_) (fun c_256 => ?_)
    · have g_257 : gi x_252 0 29 := gi_lt_l c_256 g_255 (gi_c 30 30 (by decide)) (by decide)
      refine lv_iload hx hb dX9_dated_23 (lv_at hl 0 rfl) ?_
      refine lv_bipush (v := 29) hx hb dX9_dated_25 (by decide) ?_
      refine lv_icmp_ge (tgt := 41) hx hb dX9_dated_27 (by decide) (fun c_258 => ?_) (fun c_258 => ?_)
      · have g_259 : gi x_252 29 29 := gi_le_r c_258 (gi_c 29 29 (by decide)) g_257
        refine lv_iconst (v := 0) hx hb dX9_dated_41 (by decide) ?_
        refine lv_istore (lv' := [(5, .int 0), (4, .int x_252), (0, .ref h0), (1, .int p0), (2, .int p1), (3, .int p2)]) hx hb dX9_dated_42 hl (by decide) rfl (fun ls hl => ?_)
        refine lv_iload_n hx hb dX9_dated_44 rfl (lv_at hl 3 rfl) ?_
        have hPc := hP.sub (ws' := []) [] rfl
        have hKc := hK.sub (tys' := []) [] rfl
        refine va_calli (va_runSN (As := [.int p0]) (rest := []) ⟨hx, hb, hml, hown, hts⟩ (sX11_firstRun l dC dI p0 (gi_w gp0 (by decide))) (⟨va_cnB 1 hts (gz_gP mGA_504 goodGA) rfl rfl rfl (nzA_X9_67 hz) (hts _ (List.mem_cons_of_mem _ mGA_1)) (by decide +kernel) ⟨Nat.le_of_ble_eq_true rfl, Nat.le_of_ble_eq_true rfl⟩, (hts _ (List.mem_cons_of_mem _ mGA_503)), trivial⟩) ⟨bl_I (bl_a bl_P (bl_a bl_K bl_nz)), fun U hU hW => ⟨rfl, by rw [hU]; exact hPc, va_K.moved hW.alike hKc, nzA_warm hW hz⟩⟩ rfl rfl hl.1 rfl (lv_room (Nat.le_of_ble_eq_true rfl)) dX9_dated_45 ⟨Nat.zero_le _, Nat.zero_le _⟩) hS (fun q _ h => h.elim) (fun q h => h.elim) (fun r_260 u t H1 locs ht hvm hw hB hz1 hk1 hS => ?_)
        have hP := gz_keep hP hk1
        generalize H1 = H at hP hS ⊢
        have gr_260 : gi r_260 0 1 := hw
        refine lv_istore (lv' := [(6, .int r_260), (5, .int 0), (4, .int x_252), (0, .ref h0), (1, .int p0), (2, .int p1), (3, .int p2)]) hx hb dX9_dated_48 hl (by decide) rfl (fun ls hl => ?_)
        refine (lp_sX9_dated h0 bf bh sa months full lean kbf fbf kbh fbh ksa fsa p0 p1 p2 gmonths gfull glean gp0 gp1 hx hb hml hown hts hK hz (Nat.le_of_ble_eq_true rfl) (Nat.le_of_ble_eq_true rfl) (Nat.zero_le _) (Nat.zero_le _) (fun v H locs ls gv hP hS hl => ?_) (fun v H locs ls hP hS hl => ?_) (fun v H locs ls hP hS hl => ?_) 36) x_252 0 r_260 _ _ _ g_259 (gi_w gr_260 (by decide)) (by have qgr_260 := gr_260.1; have rgr_260 := gr_260.2; omega) hP hS (lv_sub hl [3, 4, 5, 6, 2, 1, 0] rfl)
        · skip
          exact W.iret (v := v) hx hb hr (fun t ht hW => ⟨⟨v, (), rfl, (gi_any v), trivial⟩, hS.F ht⟩) hS.2.2 dX9_dated_22
        · skip
          exact W.iret (v := v) hx hb hr (fun t ht hW => ⟨⟨v, (), rfl, (gi_any v), trivial⟩, hS.F ht⟩) hS.2.2 dX9_dated_40
        · skip
          exact W.iret (v := v) hx hb hr (fun t ht hW => ⟨⟨v, (), rfl, (gi_any v), trivial⟩, hS.F ht⟩) hS.2.2 dX9_dated_101
      · have g_261 : gi x_252 0 28 := gi_lt_l (Int32.not_le.mp c_258) g_257 (gi_c 29 29 (by decide)) (by decide)
        refine lv_aload_n hx hb dX9_dated_30 rfl (lv_at hl 1 rfl) ?_
        refine va_get (D := (dC, dI)) (ci := 9) (v := .ref sa) (C := RX9) (T := TX9) (N := 6) hx hb hts (fun w h => List.mem_cons_of_mem _ (jnGA_X9 w h)) hown hK hP 0 rfl rfl 2 (by decide) (hts _ (List.mem_cons_of_mem _ mGA_113)) (fun _ h9 => h9) rfl dX9_dated_31 ?_
        refine lv_iload_n hx hb dX9_dated_34 rfl (lv_at hl 2 rfl) ?_
        refine lv_iload_n hx hb dX9_dated_35 rfl (lv_at hl 3 rfl) ?_
        have hPc := hP.sub (ws' := []) [] rfl
        have hKc := hK.sub (tys' := []) [] rfl
        refine va_calli (va_runSN (As := [.int p0, .int p1]) (rest := [.ref sa]) ⟨hx, hb, hml, hown, hts⟩ (sX11_cell l dC dI p0 p1 (gi_w gp0 (by decide)) (gi_w gp1 (by decide))) (⟨va_cnB 2 hts (gz_gP mGA_585 goodGA) rfl rfl rfl (nzA_X9_92 hz) (hts _ (List.mem_cons_of_mem _ mGA_1)) (by decide +kernel) ⟨Nat.le_of_ble_eq_true rfl, Nat.le_of_ble_eq_true rfl⟩, (hts _ (List.mem_cons_of_mem _ mGA_584)), trivial⟩) ⟨bl_I (bl_a bl_P (bl_a bl_K bl_nz)), fun U hU hW => ⟨rfl, by rw [hU]; exact hPc, va_K.moved hW.alike hKc, nzA_warm hW hz⟩⟩ rfl rfl hl.1 rfl (lv_room (Nat.le_of_ble_eq_true rfl)) dX9_dated_36 ⟨Nat.zero_le _, Nat.zero_le _⟩) hS (fun q _ h => h.elim) (fun q h => h.elim) (fun r_262 u t H1 locs ht hvm hw hB hz1 hk1 hS => ?_)
        have hP := gz_keep hP hk1
        generalize H1 = H at hP hS ⊢
        have gr_262 : gi r_262 0 324 := hw
        refine va_iald hx hb hK hP 3 2 rfl rfl (gi_in gr_262 (by decide)) dX9_dated_39 ?_
        refine lv_topi (fun x_263 ex_263 => ?_)
        exact W.iret (v := x_263) hx hb hr (fun t ht hW => ⟨⟨x_263, (), rfl, (gi_any x_263), trivial⟩, hS.F ht⟩) hS.2.2 dX9_dated_40
    · have g_264 : gi x_252 30 2147483647 := gi_le_r (Int32.not_lt.mp c_256) (gi_c 30 30 (by decide)) g_255
      refine lv_iconst (v := 0) hx hb dX9_dated_21 (by decide) ?_
      exact W.iret (v := 0) hx hb hr (fun t ht hW => ⟨⟨0, (), rfl, (gi_any 0), trivial⟩, hS.F ht⟩) hS.2.2 dX9_dated_22
theorem dX9_takeOnWithFull_0 : decode cX9_takeOnWithFull 0 = .ok (.iload_n 1, 1) := by decide +kernel
theorem dX9_takeOnWithFull_1 : decode cX9_takeOnWithFull 1 = .ok (.iload_n 2, 1) := by decide +kernel
theorem dX9_takeOnWithFull_2 : decode cX9_takeOnWithFull 2 = .ok (.iconst 0, 1) := by decide +kernel
theorem dX9_takeOnWithFull_3 : decode cX9_takeOnWithFull 3 = .ok (.invokestatic 63, 3) := by decide +kernel
theorem dX9_takeOnWithFull_6 : decode cX9_takeOnWithFull 6 = .ok (.istore_n 3, 1) := by decide +kernel
theorem dX9_takeOnWithFull_7 : decode cX9_takeOnWithFull 7 = .ok (.iload_n 1, 1) := by decide +kernel
theorem dX9_takeOnWithFull_8 : decode cX9_takeOnWithFull 8 = .ok (.iconst 1, 1) := by decide +kernel
theorem dX9_takeOnWithFull_9 : decode cX9_takeOnWithFull 9 = .ok (.iadd, 1) := by decide +kernel
theorem dX9_takeOnWithFull_10 : decode cX9_takeOnWithFull 10 = .ok (.iload_n 2, 1) := by decide +kernel
theorem dX9_takeOnWithFull_11 : decode cX9_takeOnWithFull 11 = .ok (.iconst 1, 1) := by decide +kernel
theorem dX9_takeOnWithFull_12 : decode cX9_takeOnWithFull 12 = .ok (.iadd, 1) := by decide +kernel
theorem dX9_takeOnWithFull_13 : decode cX9_takeOnWithFull 13 = .ok (.iconst 0, 1) := by decide +kernel
theorem dX9_takeOnWithFull_14 : decode cX9_takeOnWithFull 14 = .ok (.invokestatic 63, 3) := by decide +kernel
theorem dX9_takeOnWithFull_17 : decode cX9_takeOnWithFull 17 = .ok (.istore 4, 2) := by decide +kernel
theorem dX9_takeOnWithFull_19 : decode cX9_takeOnWithFull 19 = .ok (.iload_n 1, 1) := by decide +kernel
theorem dX9_takeOnWithFull_20 : decode cX9_takeOnWithFull 20 = .ok (.invokestatic 67, 3) := by decide +kernel
theorem dX9_takeOnWithFull_23 : decode cX9_takeOnWithFull 23 = .ok (.istore 5, 2) := by decide +kernel
theorem dX9_takeOnWithFull_25 : decode cX9_takeOnWithFull 25 = .ok (.iload 5, 2) := by decide +kernel
theorem dX9_takeOnWithFull_27 : decode cX9_takeOnWithFull 27 = .ok (.iload_n 1, 1) := by decide +kernel
theorem dX9_takeOnWithFull_28 : decode cX9_takeOnWithFull 28 = .ok (.aload_n 0, 1) := by decide +kernel
theorem dX9_takeOnWithFull_29 : decode cX9_takeOnWithFull 29 = .ok (.getfield 31, 3) := by decide +kernel
theorem dX9_takeOnWithFull_32 : decode cX9_takeOnWithFull 32 = .ok (.aload_n 0, 1) := by decide +kernel
theorem dX9_takeOnWithFull_33 : decode cX9_takeOnWithFull 33 = .ok (.getfield 35, 3) := by decide +kernel
theorem dX9_takeOnWithFull_36 : decode cX9_takeOnWithFull 36 = .ok (.invokestatic 71, 3) := by decide +kernel
theorem dX9_takeOnWithFull_39 : decode cX9_takeOnWithFull 39 = .ok (.if_icmp .gt 47, 3) := by decide +kernel
theorem dX9_takeOnWithFull_42 : decode cX9_takeOnWithFull 42 = .ok (.iload 5, 2) := by decide +kernel
theorem dX9_takeOnWithFull_44 : decode cX9_takeOnWithFull 44 = .ok (.aload_n 0, 1) := by decide +kernel
theorem dX9_takeOnWithFull_45 : decode cX9_takeOnWithFull 45 = .ok (.getfield 31, 3) := by decide +kernel
theorem dX9_takeOnWithFull_48 : decode cX9_takeOnWithFull 48 = .ok (.invokestatic 74, 3) := by decide +kernel
theorem dX9_takeOnWithFull_51 : decode cX9_takeOnWithFull 51 = .ok (.istore 6, 2) := by decide +kernel
theorem dX9_takeOnWithFull_53 : decode cX9_takeOnWithFull 53 = .ok (.iload 6, 2) := by decide +kernel
theorem dX9_takeOnWithFull_55 : decode cX9_takeOnWithFull 55 = .ok (.ifCond .eq 25, 3) := by decide +kernel
theorem dX9_takeOnWithFull_58 : decode cX9_takeOnWithFull 58 = .ok (.aload_n 0, 1) := by decide +kernel
theorem dX9_takeOnWithFull_59 : decode cX9_takeOnWithFull 59 = .ok (.getfield 9, 3) := by decide +kernel
theorem dX9_takeOnWithFull_62 : decode cX9_takeOnWithFull 62 = .ok (.iload 4, 2) := by decide +kernel
theorem dX9_takeOnWithFull_64 : decode cX9_takeOnWithFull 64 = .ok (.iload 6, 2) := by decide +kernel
theorem dX9_takeOnWithFull_66 : decode cX9_takeOnWithFull 66 = .ok (.iadd, 1) := by decide +kernel
theorem dX9_takeOnWithFull_67 : decode cX9_takeOnWithFull 67 = .ok (.dup2, 1) := by decide +kernel
theorem dX9_takeOnWithFull_68 : decode cX9_takeOnWithFull 68 = .ok (.iaload, 1) := by decide +kernel
theorem dX9_takeOnWithFull_69 : decode cX9_takeOnWithFull 69 = .ok (.aload_n 0, 1) := by decide +kernel
theorem dX9_takeOnWithFull_70 : decode cX9_takeOnWithFull 70 = .ok (.getfield 9, 3) := by decide +kernel
theorem dX9_takeOnWithFull_73 : decode cX9_takeOnWithFull 73 = .ok (.iload_n 3, 1) := by decide +kernel
theorem dX9_takeOnWithFull_74 : decode cX9_takeOnWithFull 74 = .ok (.iload 5, 2) := by decide +kernel
theorem dX9_takeOnWithFull_76 : decode cX9_takeOnWithFull 76 = .ok (.iadd, 1) := by decide +kernel
theorem dX9_takeOnWithFull_77 : decode cX9_takeOnWithFull 77 = .ok (.iaload, 1) := by decide +kernel
theorem dX9_takeOnWithFull_78 : decode cX9_takeOnWithFull 78 = .ok (.iadd, 1) := by decide +kernel
theorem dX9_takeOnWithFull_79 : decode cX9_takeOnWithFull 79 = .ok (.iastore, 1) := by decide +kernel
theorem dX9_takeOnWithFull_80 : decode cX9_takeOnWithFull 80 = .ok (.iinc 5 1, 3) := by decide +kernel
theorem dX9_takeOnWithFull_83 : decode cX9_takeOnWithFull 83 = .ok (.goto (-58), 3) := by decide +kernel
theorem dX9_takeOnWithFull_86 : decode cX9_takeOnWithFull 86 = .ok (.return_, 1) := by decide +kernel
set_option maxHeartbeats 4000000 in
set_option maxRecDepth 100000 in
theorem lp_sX9_takeOnWithFull {p : Program} {l : Launch} {e : Env} {R : Room} {s : State} {m : MethodId} {args : Array Value} {below : List Frame} {meth : Method} {c : Code} {Q : State → Prop} {A : Nat → Prop} {cells slots : Nat} {dC : Nat → ClassId} {dI : Nat → Nat → Nat} (h0 : Nat) (bf : Nat) (bh : Nat) (sa : Nat) (months : Int32) (full : Int32) (lean : Int32) (kbf : ClassId) (fbf : Nat → Int32) (p0 : Int32) (p1 : Int32) (gmonths : gi months 0 24) (gfull : gi full 0 5) (glean : gi lean 0 5) (gp0 : gi p0 0 23) (gp1 : gi p1 0 23) (hx : p.tables.exec = Jvm.exec) (hb : c.code = cX9_takeOnWithFull) (hml : c.maxLocals = 7) (hown : s.vm.findClass RX9 = some m.cls) (hts : ∀ w ∈ ((.code yX9_takeOnWithFull cX9_takeOnWithFull 7 none :: wsGA) : List Cond), w.before args s = true) (hK : va_K (dC, dI) vwCl [(kbf, .int)] s) (hz : nzA s) (hA : ∀ q : Nat, s.heap.size ≤ q → A q) (hRf : 2 ≤ R.frames) (hRl : 43 ≤ R.locals) (hRc : cells ≤ R.cells) (hRs : slots ≤ R.slots) (kr86 : ∀ (z1 : Nat → Int32) (H : Heap) (locs : List Loc) (ls : Array Slot), va_P (dC, dI) vwCl [(h0, .inr (9, [.ref bf, .ref bh, .ref sa, .int months, .int full, .int lean])), (bf, .inl (kbf, 3575, .inl z1))] H → va_D A [(h0, .inr (9, [.ref bf, .ref bh, .ref sa, .int months, .int full, .int lean])), (bf, .inl (kbf, 3575, .inl z1))] → va_S A s.heap H locs → lv_has ls 7 [] → W p l e R s m args below meth c H locs cells slots Q (F0 m 86 ls [])) : ∀ z : Nat, (∀ (v3 : Int32) (v4 : Int32) (v5 : Int32) (z1 : Nat → Int32) (H : Heap) (locs : List Loc) (ls : Array Slot), gi v3 0 3564 → gi v4 0 3564 → gi v5 0 11 → 23 + (-2) * v5.toInt < (z : Int) → va_P (dC, dI) vwCl [(h0, .inr (9, [.ref bf, .ref bh, .ref sa, .int months, .int full, .int lean])), (bf, .inl (kbf, 3575, .inl z1))] H → va_D A [(h0, .inr (9, [.ref bf, .ref bh, .ref sa, .int months, .int full, .int lean])), (bf, .inl (kbf, 3575, .inl z1))] → va_S A s.heap H locs → lv_has ls 7 [(0, .ref h0), (1, .int p0), (2, .int p1), (3, .int v3), (4, .int v4), (5, .int v5)] → W p l e R s m args below meth c H locs cells slots Q (F0 m 25 ls [])) := by
  intro z
  induction z with
  | zero =>
    intro v3 v4 v5 z1 H locs ls gv3 gv4 gv5 hmu hP hD hS hl
    exact absurd hmu (by have hv51 := gv5.1; have hv52 := gv5.2; omega)
  | succ z ih =>
      intro v3 v4 v5 z1 H locs ls gv3 gv4 gv5 hmu hP hD hS hl
      refine lv_iload hx hb dX9_takeOnWithFull_25 (lv_at hl 5 rfl) ?_
      refine lv_iload_n hx hb dX9_takeOnWithFull_27 rfl (lv_at hl 1 rfl) ?_
      refine lv_aload_n hx hb dX9_takeOnWithFull_28 rfl (lv_at hl 0 rfl) ?_
      refine va_get (D := (dC, dI)) (ci := 9) (v := .int full) (C := RX9) (T := TX9) (N := 6) hx hb hts (fun w h => List.mem_cons_of_mem _ (jnGA_X9 w h)) hown hK hP 0 rfl rfl 4 (by decide) (hts _ (List.mem_cons_of_mem _ mGA_562)) (fun _ h9 => h9) rfl dX9_takeOnWithFull_29 ?_
      refine lv_aload_n hx hb dX9_takeOnWithFull_32 rfl (lv_at hl 0 rfl) ?_
      refine va_get (D := (dC, dI)) (ci := 9) (v := .int lean) (C := RX9) (T := TX9) (N := 6) hx hb hts (fun w h => List.mem_cons_of_mem _ (jnGA_X9 w h)) hown hK hP 0 rfl rfl 5 (by decide) (hts _ (List.mem_cons_of_mem _ mGA_564)) (fun _ h9 => h9) rfl dX9_takeOnWithFull_33 ?_
      have hPc := hP.sub (ws' := []) [] rfl
      have hKc := hK.sub (tys' := []) [] rfl
      refine va_calli (va_runSN (As := [.int p0, .int full, .int lean]) (rest := [.int v5]) ⟨hx, hb, hml, hown, hts⟩ (sX11_lastRun l dC dI p0 full lean (gi_w gp0 (by decide)) gfull glean) (⟨va_cnB 3 hts (gz_gP mGA_506 goodGA) rfl rfl rfl (nzA_X9_71 hz) (hts _ (List.mem_cons_of_mem _ mGA_1)) (by decide +kernel) ⟨Nat.le_trans (Nat.le_of_ble_eq_true rfl) hRf, Nat.le_trans (Nat.le_of_ble_eq_true rfl) hRl⟩, (hts _ (List.mem_cons_of_mem _ mGA_505)), trivial⟩) ⟨bl_I (bl_a bl_P (bl_a bl_K bl_nz)), fun U hU hW => ⟨rfl, by rw [hU]; exact hPc, va_K.moved hW.alike hKc, nzA_warm hW hz⟩⟩ rfl rfl hl.1 rfl (lv_room (Nat.le_of_ble_eq_true rfl)) dX9_takeOnWithFull_36 ⟨hRc, hRs⟩) hS (fun q _ h => h.elim) (fun q h => h.elim) (fun r_211 u t H1 locs ht hvm hw hB hz1 hk1 hS => ?_)
      have hP := gz_keep hP hk1
      generalize H1 = H at hP hS ⊢
      have gr_211 : gi r_211 0 10 := hw
      refine lv_icmp_gt (tgt := 86) hx hb dX9_takeOnWithFull_39 (by decide) (fun c_212 => ?_) (fun c_212 => ?_)
      · have g_213 : gi v5 1 11 := gi_lt_r c_212 gr_211 gv5 (by decide)
        exact kr86 z1 _ _ _ hP hD hS (lv_sub hl [] rfl)
      · have g_214 : gi v5 0 10 := gi_le_l (Int32.not_lt.mp c_212) gv5 gr_211
        refine lv_iload hx hb dX9_takeOnWithFull_42 (lv_at hl 5 rfl) ?_
        refine lv_aload_n hx hb dX9_takeOnWithFull_44 rfl (lv_at hl 0 rfl) ?_
        refine va_get (D := (dC, dI)) (ci := 9) (v := .int full) (C := RX9) (T := TX9) (N := 6) hx hb hts (fun w h => List.mem_cons_of_mem _ (jnGA_X9 w h)) hown hK hP 0 rfl rfl 4 (by decide) (hts _ (List.mem_cons_of_mem _ mGA_562)) (fun _ h9 => h9) rfl dX9_takeOnWithFull_45 ?_
        have hPc := hP.sub (ws' := []) [] rfl
        have hKc := hK.sub (tys' := []) [] rfl
        refine va_calli (va_runSN (As := [.int v5, .int full]) (rest := []) ⟨hx, hb, hml, hown, hts⟩ (sX11_runWithFull l dC dI v5 full g_214 gfull) (⟨va_cnB 2 hts (gz_gP mGA_508 goodGA) rfl rfl rfl (nzA_X9_74 hz) (hts _ (List.mem_cons_of_mem _ mGA_1)) (by decide +kernel) ⟨Nat.le_trans (Nat.le_of_ble_eq_true rfl) hRf, Nat.le_trans (Nat.le_of_ble_eq_true rfl) hRl⟩, (hts _ (List.mem_cons_of_mem _ mGA_507)), trivial⟩) ⟨bl_I (bl_a bl_P (bl_a bl_K bl_nz)), fun U hU hW => ⟨rfl, by rw [hU]; exact hPc, va_K.moved hW.alike hKc, nzA_warm hW hz⟩⟩ rfl rfl hl.1 rfl (lv_room (Nat.le_of_ble_eq_true rfl)) dX9_takeOnWithFull_48 ⟨hRc, hRs⟩) hS (fun q _ h => h.elim) (fun q h => h.elim) (fun r_215 u t H1 locs ht hvm hw hB hz1 hk1 hS => ?_)
        have hP := gz_keep hP hk1
        generalize H1 = H at hP hS ⊢
        have gr_215 : gi r_215 0 5 := hw
        refine lv_istore (lv' := [(6, .int r_215), (0, .ref h0), (1, .int p0), (2, .int p1), (3, .int v3), (4, .int v4), (5, .int v5)]) hx hb dX9_takeOnWithFull_51 hl (by decide) rfl (fun ls hl => ?_)
        refine lv_iload hx hb dX9_takeOnWithFull_53 (lv_at hl 0 rfl) ?_
        refine lv_if_eq (tgt := 80) hx hb dX9_takeOnWithFull_55 (by decide) (fun c_216 => ?_) (fun c_216 => ?_)
        · have g_217 : gi r_215 0 0 := gi_eq c_216 (gi_c 0 0 (by decide))
          obtain ⟨x_218, ex_218⟩ : ∃ y : Int32, y = v5 + 1 := ⟨_, rfl⟩
          have gx_218 : gi x_218 1 11 := gi_add ex_218 g_214 (gi_c 1 1 (by decide)) (by decide)
          refine lv_iinc (v := x_218) (lv' := [(5, .int x_218), (6, .int r_215), (0, .ref h0), (1, .int p0), (2, .int p1), (3, .int v3), (4, .int v4)]) hx hb dX9_takeOnWithFull_80 hl (k := 6) rfl (by rw [ex_218]; rfl) (by decide) rfl (fun ls hl => ?_)
          refine lv_goto (tgt := 25) hx hb dX9_takeOnWithFull_83 (by decide) ?_
          exact ih v3 v4 x_218 z1 _ _ _ gv3 gv4 (gi_w gx_218 (by decide)) (by have av5 := gv5.1; have bv5 := gv5.2; have qgx_218 := gx_218.1; have rgx_218 := gx_218.2; have igx_218 : x_218.toInt = v5.toInt + 1 := (by have hc1 : (1 : Int32).toInt = 1 := (by decide); have h9 := gi_addI ex_218 (by have h1 := g_214.1; have h2 := (gi_c 1 1 (by decide)).1; have h3 := g_214.2; have h4 := (gi_c 1 1 (by decide)).2; omega) (by have h1 := g_214.1; have h2 := (gi_c 1 1 (by decide)).1; have h3 := g_214.2; have h4 := (gi_c 1 1 (by decide)).2; omega); rw [hc1] at h9; exact h9); have qgv5 := g_214.1; have rgv5 := g_214.2; omega) hP hD hS (lv_sub hl [2, 3, 4, 5, 6, 0] rfl)
        · have g_219 : gi r_215 1 5 := gi_ne_lo c_216 gr_215 (gi_c 0 0 (by decide)) (by decide)
          refine lv_aload_n hx hb dX9_takeOnWithFull_58 rfl (lv_at hl 1 rfl) ?_
          refine va_get (D := (dC, dI)) (ci := 9) (v := .ref bf) (C := RX9) (T := TX9) (N := 6) hx hb hts (fun w h => List.mem_cons_of_mem _ (jnGA_X9 w h)) hown hK hP 0 rfl rfl 0 (by decide) (hts _ (List.mem_cons_of_mem _ mGA_111)) (fun _ h9 => h9) rfl dX9_takeOnWithFull_59 ?_
          refine lv_iload hx hb dX9_takeOnWithFull_62 (lv_at hl 5 rfl) ?_
          refine lv_iload hx hb dX9_takeOnWithFull_64 (lv_at hl 0 rfl) ?_
          refine lv_iadd hx hb dX9_takeOnWithFull_66 ?_
          refine lv_topi (fun x_220 ex_220 => ?_)
          have gx_220 : gi x_220 1 3569 := gi_add ex_220 gv4 g_219 (by decide)
          refine lv_dup2_11 hx hb dX9_takeOnWithFull_67 rfl rfl ?_
          refine va_iald hx hb hK hP 1 0 rfl rfl (gi_in gx_220 (by decide)) dX9_takeOnWithFull_68 ?_
          refine lv_topi (fun x_221 ex_221 => ?_)
          refine lv_aload_n hx hb dX9_takeOnWithFull_69 rfl (lv_at hl 1 rfl) ?_
          refine va_get (D := (dC, dI)) (ci := 9) (v := .ref bf) (C := RX9) (T := TX9) (N := 6) hx hb hts (fun w h => List.mem_cons_of_mem _ (jnGA_X9 w h)) hown hK hP 0 rfl rfl 0 (by decide) (hts _ (List.mem_cons_of_mem _ mGA_111)) (fun _ h9 => h9) rfl dX9_takeOnWithFull_70 ?_
          refine lv_iload_n hx hb dX9_takeOnWithFull_73 rfl (lv_at hl 4 rfl) ?_
          refine lv_iload hx hb dX9_takeOnWithFull_74 (lv_at hl 6 rfl) ?_
          refine lv_iadd hx hb dX9_takeOnWithFull_76 ?_
          refine lv_topi (fun x_222 ex_222 => ?_)
          have gx_222 : gi x_222 0 3574 := gi_add ex_222 gv3 g_214 (by decide)
          refine va_iald hx hb hK hP 1 0 rfl rfl (gi_in gx_222 (by decide)) dX9_takeOnWithFull_77 ?_
          refine lv_topi (fun x_223 ex_223 => ?_)
          refine lv_iadd hx hb dX9_takeOnWithFull_78 ?_
          refine lv_topi (fun x_224 ex_224 => ?_)
          refine va_iast hx hb hK hP hD hS 1 0 rfl rfl (gi_in gx_220 (by decide)) dX9_takeOnWithFull_79 (fun H locs hP hD hS => ?_)
          have hP : va_P (dC, dI) vwCl [(h0, .inr (9, [.ref bf, .ref bh, .ref sa, .int months, .int full, .int lean])), (bf, .inl (kbf, 3575, .inl (upd z1 (x_220 : Int32).toNatClampNeg x_224)))] H := hP
          have hD : va_D A [(h0, .inr (9, [.ref bf, .ref bh, .ref sa, .int months, .int full, .int lean])), (bf, .inl (kbf, 3575, .inl (upd z1 (x_220 : Int32).toNatClampNeg x_224)))] := hD
          generalize upd z1 (x_220 : Int32).toNatClampNeg x_224 = f_225 at hP hD
          obtain ⟨x_226, ex_226⟩ : ∃ y : Int32, y = v5 + 1 := ⟨_, rfl⟩
          have gx_226 : gi x_226 1 11 := gi_add ex_226 g_214 (gi_c 1 1 (by decide)) (by decide)
          refine lv_iinc (v := x_226) (lv' := [(5, .int x_226), (6, .int r_215), (0, .ref h0), (1, .int p0), (2, .int p1), (3, .int v3), (4, .int v4)]) hx hb dX9_takeOnWithFull_80 hl (k := 6) rfl (by rw [ex_226]; rfl) (by decide) rfl (fun ls hl => ?_)
          refine lv_goto (tgt := 25) hx hb dX9_takeOnWithFull_83 (by decide) ?_
          exact ih v3 v4 x_226 f_225 _ _ _ gv3 gv4 (gi_w gx_226 (by decide)) (by have av5 := gv5.1; have bv5 := gv5.2; have qgx_226 := gx_226.1; have rgx_226 := gx_226.2; have igx_226 : x_226.toInt = v5.toInt + 1 := (by have hc1 : (1 : Int32).toInt = 1 := (by decide); have h9 := gi_addI ex_226 (by have h1 := g_214.1; have h2 := (gi_c 1 1 (by decide)).1; have h3 := g_214.2; have h4 := (gi_c 1 1 (by decide)).2; omega) (by have h1 := g_214.1; have h2 := (gi_c 1 1 (by decide)).1; have h3 := g_214.2; have h4 := (gi_c 1 1 (by decide)).2; omega); rw [hc1] at h9; exact h9); have qgv5 := g_214.1; have rgv5 := g_214.2; omega) hP hD hS (lv_sub hl [2, 3, 4, 5, 6, 0] rfl)
abbrev pb_sX9_takeOnWithFull (dC : Nat → ClassId) (dI : Nat → Nat → Nat) (A9 : Nat → Prop) (h0 : Nat) (bf : Nat) (bh : Nat) (sa : Nat) (months : Int32) (full : Int32) (lean : Int32) (kbf : ClassId) (fbf : Nat → Int32) (p0 : Int32) (p1 : Int32) (z1 : Nat → Int32) (t : State) : Prop := va_P (dC, dI) vwCl [(h0, .inr (9, [.ref bf, .ref bh, .ref sa, .int months, .int full, .int lean])), (bf, .inl (kbf, 3575, .inl z1))] t.heap ∧ va_D A9 [(h0, .inr (9, [.ref bf, .ref bh, .ref sa, .int months, .int full, .int lean])), (bf, .inl (kbf, 3575, .inl z1))]
set_option maxHeartbeats 4000000 in
set_option maxRecDepth 100000 in
theorem sX9_takeOnWithFull (l : Launch) (dC : Nat → ClassId) (dI : Nat → Nat → Nat) (sz : Nat) (h0 : Nat) (bf : Nat) (bh : Nat) (sa : Nat) (months : Int32) (full : Int32) (lean : Int32) (kbf : ClassId) (fbf : Nat → Int32) (p0 : Int32) (p1 : Int32) (gmonths : gi months 0 24) (gfull : gi full 0 5) (glean : gi lean 0 5) (gp0 : gi p0 0 23) (gp1 : gi p1 0 23) : Met l yX9_takeOnWithFull (.code yX9_takeOnWithFull cX9_takeOnWithFull 7 none :: wsGA) ({ frames := 2, cells := 0, slots := 0, locals := 43 }) (va_Pc [.ref h0, .int p0, .int p1] (fun U => U.heap.size = sz ∧ va_P (dC, dI) vwCl [(h0, .inr (9, [.ref bf, .ref bh, .ref sa, .int months, .int full, .int lean])), (bf, .inl (kbf, 3575, .inl fbf))] U.heap ∧ va_K (dC, dI) vwCl [(kbf, .int)] U ∧ va_D (fun _ => True) [(h0, .inr (9, [.ref bf, .ref bh, .ref sa, .int months, .int full, .int lean])), (bf, .inl (kbf, 3575, .inl fbf))] ∧ nzA U)) (va_Qv (fun (u : Unit) => True) (fun _ t => ∃ (z1 : Nat → Int32), pb_sX9_takeOnWithFull dC dI (va_A [(h0, .inr (9, [.ref bf, .ref bh, .ref sa, .int months, .int full, .int lean])), (bf, .inl (kbf, 3575, .inl fbf))] sz) h0 bf bh sa months full lean kbf fbf p0 p1 z1 t) (va_A [(h0, .inr (9, [.ref bf, .ref bh, .ref sa, .int months, .int full, .int lean])), (bf, .inl (kbf, 3575, .inl fbf))] sz)) 0 0 (va_A [(h0, .inr (9, [.ref bf, .ref bh, .ref sa, .int months, .int full, .int lean])), (bf, .inl (kbf, 3575, .inl fbf))] sz) := by
  refine Met.ofW (cc := cX9_takeOnWithFull) (maxL := 7) (ret := none) (by decide) rfl ?_
  intro p e s m args below meth c s₁ B hml hv
  obtain ⟨rfl, hsz, hP, hK, hD0, hz⟩ := hv
  have hx := B.exec
  have hb := B.bytes
  have hr := B.returns
  have hts := atoms_spec (ws := (.code yX9_takeOnWithFull cX9_takeOnWithFull 7 none :: wsGA)) B.pre
  have hown : s.vm.findClass RX9 = some m.cls := findClass_of_methodNamed B.named
  have hlocks := B.notSynchronized
  subst hsz
  have hD := hD0.self (sz := s.heap.size)
  generalize hAe : va_A [(h0, .inr (9, [.ref bf, .ref bh, .ref sa, .int months, .int full, .int lean])), (bf, .inl (kbf, 3575, .inl fbf))] s.heap.size = A at hD ⊢
  have hA : ∀ q : Nat, s.heap.size ≤ q → A q := fun q h => by rw [← hAe]; exact Or.inr h
  have hS : va_S A s.heap s.heap [] := va_S.rf
  have hl := lv_entry ([.ref h0, .int p0, .int p1]) (n := 7) (Nat.le_of_ble_eq_true rfl)
  rw [lg_entry_eq]
  generalize (lg_sl ([.ref h0, .int p0, .int p1]) ++ List.replicate (7 - (lg_sl ([.ref h0, .int p0, .int p1])).length) Slot.unset).toArray = ls at hl ⊢
  have hl : lv_has ls 7 [(0, .ref h0), (1, .int p0), (2, .int p1)] := hl
  refine lv_iload_n hx hb dX9_takeOnWithFull_0 rfl (lv_at hl 1 rfl) ?_
  refine lv_iload_n hx hb dX9_takeOnWithFull_1 rfl (lv_at hl 2 rfl) ?_
  refine lv_iconst (v := 0) hx hb dX9_takeOnWithFull_2 (by decide) ?_
  have hPc := hP.sub (ws' := []) [] rfl
  have hKc := hK.sub (tys' := []) [] rfl
  refine va_calli (va_runSN (As := [.int p0, .int p1, .int 0]) (rest := []) ⟨hx, hb, hml, hown, hts⟩ (sX11_spot0 l dC dI p0 p1 0 (gi_w gp0 (by decide)) (gi_w gp1 (by decide)) (gi_c 0 0 (by decide))) (⟨va_cnB 3 hts (gz_gP mGA_582 goodGA) rfl rfl rfl (nzA_X9_63 hz) (hts _ (List.mem_cons_of_mem _ mGA_1)) (by decide +kernel) ⟨Nat.le_of_ble_eq_true rfl, Nat.le_of_ble_eq_true rfl⟩, (hts _ (List.mem_cons_of_mem _ mGA_581)), trivial⟩) ⟨bl_I (bl_a bl_P (bl_a bl_K bl_nz)), fun U hU hW => ⟨rfl, by rw [hU]; exact hPc, va_K.moved hW.alike hKc, nzA_warm hW hz⟩⟩ rfl rfl hl.1 rfl (lv_room (Nat.le_of_ble_eq_true rfl)) dX9_takeOnWithFull_3 ⟨Nat.zero_le _, Nat.zero_le _⟩) hS (fun q _ h => h.elim) (fun q h => h.elim) (fun r_227 u t H1 locs ht hvm hw hB hz1 hk1 hS => ?_)
  have hP := gz_keep hP hk1
  generalize H1 = H at hP hS ⊢
  have gr_227 : gi r_227 0 3564 := hw
  refine lv_istore_n (lv' := [(3, .int r_227), (0, .ref h0), (1, .int p0), (2, .int p1)]) hx hb dX9_takeOnWithFull_6 rfl hl (by decide) rfl (fun ls hl => ?_)
  refine lv_iload_n hx hb dX9_takeOnWithFull_7 rfl (lv_at hl 2 rfl) ?_
  refine lv_iconst (v := 1) hx hb dX9_takeOnWithFull_8 (by decide) ?_
  refine lv_iadd hx hb dX9_takeOnWithFull_9 ?_
  refine lv_topi (fun x_228 ex_228 => ?_)
  have gx_228 : gi x_228 1 24 := gi_add ex_228 gp0 (gi_c 1 1 (by decide)) (by decide)
  refine lv_iload_n hx hb dX9_takeOnWithFull_10 rfl (lv_at hl 3 rfl) ?_
  refine lv_iconst (v := 1) hx hb dX9_takeOnWithFull_11 (by decide) ?_
  refine lv_iadd hx hb dX9_takeOnWithFull_12 ?_
  refine lv_topi (fun x_229 ex_229 => ?_)
  have gx_229 : gi x_229 1 24 := gi_add ex_229 gp1 (gi_c 1 1 (by decide)) (by decide)
  refine lv_iconst (v := 0) hx hb dX9_takeOnWithFull_13 (by decide) ?_
  have hPc := hP.sub (ws' := []) [] rfl
  have hKc := hK.sub (tys' := []) [] rfl
  refine va_calli (va_runSN (As := [.int x_228, .int x_229, .int 0]) (rest := []) ⟨hx, hb, hml, hown, hts⟩ (sX11_spot0 l dC dI x_228 x_229 0 (gi_w gx_228 (by decide)) (gi_w gx_229 (by decide)) (gi_c 0 0 (by decide))) (⟨va_cnB 3 hts (gz_gP mGA_582 goodGA) rfl rfl rfl (nzA_X9_63 hz) (hts _ (List.mem_cons_of_mem _ mGA_1)) (by decide +kernel) ⟨Nat.le_of_ble_eq_true rfl, Nat.le_of_ble_eq_true rfl⟩, (hts _ (List.mem_cons_of_mem _ mGA_581)), trivial⟩) ⟨bl_I (bl_a bl_P (bl_a bl_K bl_nz)), fun U hU hW => ⟨rfl, by rw [hU]; exact hPc, va_K.moved hW.alike hKc, nzA_warm hW hz⟩⟩ rfl rfl hl.1 rfl (lv_room (Nat.le_of_ble_eq_true rfl)) dX9_takeOnWithFull_14 ⟨Nat.zero_le _, Nat.zero_le _⟩) hS (fun q _ h => h.elim) (fun q h => h.elim) (fun r_230 u t H1 locs ht hvm hw hB hz1 hk1 hS => ?_)
  have hP := gz_keep hP hk1
  generalize H1 = H at hP hS ⊢
  have gr_230 : gi r_230 0 3564 := hw
  refine lv_istore (lv' := [(4, .int r_230), (3, .int r_227), (0, .ref h0), (1, .int p0), (2, .int p1)]) hx hb dX9_takeOnWithFull_17 hl (by decide) rfl (fun ls hl => ?_)
  refine lv_iload_n hx hb dX9_takeOnWithFull_19 rfl (lv_at hl 3 rfl) ?_
  have hPc := hP.sub (ws' := []) [] rfl
  have hKc := hK.sub (tys' := []) [] rfl
  refine va_calli (va_runSN (As := [.int p0]) (rest := []) ⟨hx, hb, hml, hown, hts⟩ (sX11_firstRun l dC dI p0 (gi_w gp0 (by decide))) (⟨va_cnB 1 hts (gz_gP mGA_504 goodGA) rfl rfl rfl (nzA_X9_67 hz) (hts _ (List.mem_cons_of_mem _ mGA_1)) (by decide +kernel) ⟨Nat.le_of_ble_eq_true rfl, Nat.le_of_ble_eq_true rfl⟩, (hts _ (List.mem_cons_of_mem _ mGA_503)), trivial⟩) ⟨bl_I (bl_a bl_P (bl_a bl_K bl_nz)), fun U hU hW => ⟨rfl, by rw [hU]; exact hPc, va_K.moved hW.alike hKc, nzA_warm hW hz⟩⟩ rfl rfl hl.1 rfl (lv_room (Nat.le_of_ble_eq_true rfl)) dX9_takeOnWithFull_20 ⟨Nat.zero_le _, Nat.zero_le _⟩) hS (fun q _ h => h.elim) (fun q h => h.elim) (fun r_231 u t H1 locs ht hvm hw hB hz1 hk1 hS => ?_)
  have hP := gz_keep hP hk1
  generalize H1 = H at hP hS ⊢
  have gr_231 : gi r_231 0 1 := hw
  refine lv_istore (lv' := [(5, .int r_231), (4, .int r_230), (3, .int r_227), (0, .ref h0), (1, .int p0), (2, .int p1)]) hx hb dX9_takeOnWithFull_23 hl (by decide) rfl (fun ls hl => ?_)
  refine (lp_sX9_takeOnWithFull h0 bf bh sa months full lean kbf fbf p0 p1 gmonths gfull glean gp0 gp1 hx hb hml hown hts hK hz hA (Nat.le_of_ble_eq_true rfl) (Nat.le_of_ble_eq_true rfl) (Nat.zero_le _) (Nat.zero_le _) (fun z1 H locs ls hP hD hS hl => ?_) 36) r_227 r_230 r_231 fbf _ _ _ gr_227 gr_230 (gi_w gr_231 (by decide)) (by have qgr_231 := gr_231.1; have rgr_231 := gr_231.2; omega) hP hD hS (lv_sub hl [3, 4, 5, 2, 1, 0] rfl)
  · skip
    exact W.vret hx hb hr (fun t ht hW => ⟨⟨(), rfl, trivial, z1, by rw [ht]; exact hP, hD⟩, hS.F ht⟩) hS.2.2 dX9_takeOnWithFull_86
theorem dX9_takeOnWithLean_0 : decode cX9_takeOnWithLean 0 = .ok (.iload_n 1, 1) := by decide +kernel
theorem dX9_takeOnWithLean_1 : decode cX9_takeOnWithLean 1 = .ok (.iload_n 2, 1) := by decide +kernel
theorem dX9_takeOnWithLean_2 : decode cX9_takeOnWithLean 2 = .ok (.iconst 0, 1) := by decide +kernel
theorem dX9_takeOnWithLean_3 : decode cX9_takeOnWithLean 3 = .ok (.invokestatic 63, 3) := by decide +kernel
theorem dX9_takeOnWithLean_6 : decode cX9_takeOnWithLean 6 = .ok (.istore_n 3, 1) := by decide +kernel
theorem dX9_takeOnWithLean_7 : decode cX9_takeOnWithLean 7 = .ok (.iload_n 1, 1) := by decide +kernel
theorem dX9_takeOnWithLean_8 : decode cX9_takeOnWithLean 8 = .ok (.iconst 1, 1) := by decide +kernel
theorem dX9_takeOnWithLean_9 : decode cX9_takeOnWithLean 9 = .ok (.iadd, 1) := by decide +kernel
theorem dX9_takeOnWithLean_10 : decode cX9_takeOnWithLean 10 = .ok (.iload_n 2, 1) := by decide +kernel
theorem dX9_takeOnWithLean_11 : decode cX9_takeOnWithLean 11 = .ok (.iconst 0, 1) := by decide +kernel
theorem dX9_takeOnWithLean_12 : decode cX9_takeOnWithLean 12 = .ok (.invokestatic 63, 3) := by decide +kernel
theorem dX9_takeOnWithLean_15 : decode cX9_takeOnWithLean 15 = .ok (.istore 4, 2) := by decide +kernel
theorem dX9_takeOnWithLean_17 : decode cX9_takeOnWithLean 17 = .ok (.iload_n 1, 1) := by decide +kernel
theorem dX9_takeOnWithLean_18 : decode cX9_takeOnWithLean 18 = .ok (.invokestatic 67, 3) := by decide +kernel
theorem dX9_takeOnWithLean_21 : decode cX9_takeOnWithLean 21 = .ok (.istore 5, 2) := by decide +kernel
theorem dX9_takeOnWithLean_23 : decode cX9_takeOnWithLean 23 = .ok (.iload 5, 2) := by decide +kernel
theorem dX9_takeOnWithLean_25 : decode cX9_takeOnWithLean 25 = .ok (.iload_n 1, 1) := by decide +kernel
theorem dX9_takeOnWithLean_26 : decode cX9_takeOnWithLean 26 = .ok (.aload_n 0, 1) := by decide +kernel
theorem dX9_takeOnWithLean_27 : decode cX9_takeOnWithLean 27 = .ok (.getfield 31, 3) := by decide +kernel
theorem dX9_takeOnWithLean_30 : decode cX9_takeOnWithLean 30 = .ok (.aload_n 0, 1) := by decide +kernel
theorem dX9_takeOnWithLean_31 : decode cX9_takeOnWithLean 31 = .ok (.getfield 35, 3) := by decide +kernel
theorem dX9_takeOnWithLean_34 : decode cX9_takeOnWithLean 34 = .ok (.invokestatic 71, 3) := by decide +kernel
theorem dX9_takeOnWithLean_37 : decode cX9_takeOnWithLean 37 = .ok (.if_icmp .gt 51, 3) := by decide +kernel
theorem dX9_takeOnWithLean_40 : decode cX9_takeOnWithLean 40 = .ok (.iload 5, 2) := by decide +kernel
theorem dX9_takeOnWithLean_42 : decode cX9_takeOnWithLean 42 = .ok (.aload_n 0, 1) := by decide +kernel
theorem dX9_takeOnWithLean_43 : decode cX9_takeOnWithLean 43 = .ok (.getfield 31, 3) := by decide +kernel
theorem dX9_takeOnWithLean_46 : decode cX9_takeOnWithLean 46 = .ok (.aload_n 0, 1) := by decide +kernel
theorem dX9_takeOnWithLean_47 : decode cX9_takeOnWithLean 47 = .ok (.getfield 35, 3) := by decide +kernel
theorem dX9_takeOnWithLean_50 : decode cX9_takeOnWithLean 50 = .ok (.invokestatic 78, 3) := by decide +kernel
theorem dX9_takeOnWithLean_53 : decode cX9_takeOnWithLean 53 = .ok (.istore 6, 2) := by decide +kernel
theorem dX9_takeOnWithLean_55 : decode cX9_takeOnWithLean 55 = .ok (.iload 6, 2) := by decide +kernel
theorem dX9_takeOnWithLean_57 : decode cX9_takeOnWithLean 57 = .ok (.ifCond .eq 25, 3) := by decide +kernel
theorem dX9_takeOnWithLean_60 : decode cX9_takeOnWithLean 60 = .ok (.aload_n 0, 1) := by decide +kernel
theorem dX9_takeOnWithLean_61 : decode cX9_takeOnWithLean 61 = .ok (.getfield 9, 3) := by decide +kernel
theorem dX9_takeOnWithLean_64 : decode cX9_takeOnWithLean 64 = .ok (.iload 4, 2) := by decide +kernel
theorem dX9_takeOnWithLean_66 : decode cX9_takeOnWithLean 66 = .ok (.iload 6, 2) := by decide +kernel
theorem dX9_takeOnWithLean_68 : decode cX9_takeOnWithLean 68 = .ok (.iadd, 1) := by decide +kernel
theorem dX9_takeOnWithLean_69 : decode cX9_takeOnWithLean 69 = .ok (.dup2, 1) := by decide +kernel
theorem dX9_takeOnWithLean_70 : decode cX9_takeOnWithLean 70 = .ok (.iaload, 1) := by decide +kernel
theorem dX9_takeOnWithLean_71 : decode cX9_takeOnWithLean 71 = .ok (.aload_n 0, 1) := by decide +kernel
theorem dX9_takeOnWithLean_72 : decode cX9_takeOnWithLean 72 = .ok (.getfield 9, 3) := by decide +kernel
theorem dX9_takeOnWithLean_75 : decode cX9_takeOnWithLean 75 = .ok (.iload_n 3, 1) := by decide +kernel
theorem dX9_takeOnWithLean_76 : decode cX9_takeOnWithLean 76 = .ok (.iload 5, 2) := by decide +kernel
theorem dX9_takeOnWithLean_78 : decode cX9_takeOnWithLean 78 = .ok (.iadd, 1) := by decide +kernel
theorem dX9_takeOnWithLean_79 : decode cX9_takeOnWithLean 79 = .ok (.iaload, 1) := by decide +kernel
theorem dX9_takeOnWithLean_80 : decode cX9_takeOnWithLean 80 = .ok (.iadd, 1) := by decide +kernel
theorem dX9_takeOnWithLean_81 : decode cX9_takeOnWithLean 81 = .ok (.iastore, 1) := by decide +kernel
theorem dX9_takeOnWithLean_82 : decode cX9_takeOnWithLean 82 = .ok (.iinc 5 1, 3) := by decide +kernel
theorem dX9_takeOnWithLean_85 : decode cX9_takeOnWithLean 85 = .ok (.goto (-62), 3) := by decide +kernel
theorem dX9_takeOnWithLean_88 : decode cX9_takeOnWithLean 88 = .ok (.return_, 1) := by decide +kernel
set_option maxHeartbeats 4000000 in
set_option maxRecDepth 100000 in
theorem lp_sX9_takeOnWithLean {p : Program} {l : Launch} {e : Env} {R : Room} {s : State} {m : MethodId} {args : Array Value} {below : List Frame} {meth : Method} {c : Code} {Q : State → Prop} {A : Nat → Prop} {cells slots : Nat} {dC : Nat → ClassId} {dI : Nat → Nat → Nat} (h0 : Nat) (bf : Nat) (bh : Nat) (sa : Nat) (months : Int32) (full : Int32) (lean : Int32) (kbf : ClassId) (fbf : Nat → Int32) (p0 : Int32) (p1 : Int32) (gmonths : gi months 0 24) (gfull : gi full 0 5) (glean : gi lean 0 5) (gp0 : gi p0 0 23) (gp1 : gi p1 0 23) (hx : p.tables.exec = Jvm.exec) (hb : c.code = cX9_takeOnWithLean) (hml : c.maxLocals = 7) (hown : s.vm.findClass RX9 = some m.cls) (hts : ∀ w ∈ ((.code yX9_takeOnWithLean cX9_takeOnWithLean 7 none :: wsGA) : List Cond), w.before args s = true) (hK : va_K (dC, dI) vwCl [(kbf, .int)] s) (hz : nzA s) (hA : ∀ q : Nat, s.heap.size ≤ q → A q) (hRf : 2 ≤ R.frames) (hRl : 43 ≤ R.locals) (hRc : cells ≤ R.cells) (hRs : slots ≤ R.slots) (kr88 : ∀ (z1 : Nat → Int32) (H : Heap) (locs : List Loc) (ls : Array Slot), va_P (dC, dI) vwCl [(h0, .inr (9, [.ref bf, .ref bh, .ref sa, .int months, .int full, .int lean])), (bf, .inl (kbf, 3575, .inl z1))] H → va_D A [(h0, .inr (9, [.ref bf, .ref bh, .ref sa, .int months, .int full, .int lean])), (bf, .inl (kbf, 3575, .inl z1))] → va_S A s.heap H locs → lv_has ls 7 [] → W p l e R s m args below meth c H locs cells slots Q (F0 m 88 ls [])) : ∀ z : Nat, (∀ (v3 : Int32) (v4 : Int32) (v5 : Int32) (z1 : Nat → Int32) (H : Heap) (locs : List Loc) (ls : Array Slot), gi v3 0 3564 → gi v4 0 3564 → gi v5 0 11 → 23 + (-2) * v5.toInt < (z : Int) → va_P (dC, dI) vwCl [(h0, .inr (9, [.ref bf, .ref bh, .ref sa, .int months, .int full, .int lean])), (bf, .inl (kbf, 3575, .inl z1))] H → va_D A [(h0, .inr (9, [.ref bf, .ref bh, .ref sa, .int months, .int full, .int lean])), (bf, .inl (kbf, 3575, .inl z1))] → va_S A s.heap H locs → lv_has ls 7 [(0, .ref h0), (1, .int p0), (2, .int p1), (3, .int v3), (4, .int v4), (5, .int v5)] → W p l e R s m args below meth c H locs cells slots Q (F0 m 23 ls [])) := by
  intro z
  induction z with
  | zero =>
    intro v3 v4 v5 z1 H locs ls gv3 gv4 gv5 hmu hP hD hS hl
    exact absurd hmu (by have hv51 := gv5.1; have hv52 := gv5.2; omega)
  | succ z ih =>
      intro v3 v4 v5 z1 H locs ls gv3 gv4 gv5 hmu hP hD hS hl
      refine lv_iload hx hb dX9_takeOnWithLean_23 (lv_at hl 5 rfl) ?_
      refine lv_iload_n hx hb dX9_takeOnWithLean_25 rfl (lv_at hl 1 rfl) ?_
      refine lv_aload_n hx hb dX9_takeOnWithLean_26 rfl (lv_at hl 0 rfl) ?_
      refine va_get (D := (dC, dI)) (ci := 9) (v := .int full) (C := RX9) (T := TX9) (N := 6) hx hb hts (fun w h => List.mem_cons_of_mem _ (jnGA_X9 w h)) hown hK hP 0 rfl rfl 4 (by decide) (hts _ (List.mem_cons_of_mem _ mGA_562)) (fun _ h9 => h9) rfl dX9_takeOnWithLean_27 ?_
      refine lv_aload_n hx hb dX9_takeOnWithLean_30 rfl (lv_at hl 0 rfl) ?_
      refine va_get (D := (dC, dI)) (ci := 9) (v := .int lean) (C := RX9) (T := TX9) (N := 6) hx hb hts (fun w h => List.mem_cons_of_mem _ (jnGA_X9 w h)) hown hK hP 0 rfl rfl 5 (by decide) (hts _ (List.mem_cons_of_mem _ mGA_564)) (fun _ h9 => h9) rfl dX9_takeOnWithLean_31 ?_
      have hPc := hP.sub (ws' := []) [] rfl
      have hKc := hK.sub (tys' := []) [] rfl
      refine va_calli (va_runSN (As := [.int p0, .int full, .int lean]) (rest := [.int v5]) ⟨hx, hb, hml, hown, hts⟩ (sX11_lastRun l dC dI p0 full lean (gi_w gp0 (by decide)) gfull glean) (⟨va_cnB 3 hts (gz_gP mGA_506 goodGA) rfl rfl rfl (nzA_X9_71 hz) (hts _ (List.mem_cons_of_mem _ mGA_1)) (by decide +kernel) ⟨Nat.le_trans (Nat.le_of_ble_eq_true rfl) hRf, Nat.le_trans (Nat.le_of_ble_eq_true rfl) hRl⟩, (hts _ (List.mem_cons_of_mem _ mGA_505)), trivial⟩) ⟨bl_I (bl_a bl_P (bl_a bl_K bl_nz)), fun U hU hW => ⟨rfl, by rw [hU]; exact hPc, va_K.moved hW.alike hKc, nzA_warm hW hz⟩⟩ rfl rfl hl.1 rfl (lv_room (Nat.le_of_ble_eq_true rfl)) dX9_takeOnWithLean_34 ⟨hRc, hRs⟩) hS (fun q _ h => h.elim) (fun q h => h.elim) (fun r_201 u t H1 locs ht hvm hw hB hz1 hk1 hS => ?_)
      have hP := gz_keep hP hk1
      generalize H1 = H at hP hS ⊢
      have gr_201 : gi r_201 0 10 := hw
      refine lv_icmp_gt (tgt := 88) hx hb dX9_takeOnWithLean_37 (by decide) (fun c_202 => ?_) (fun c_202 => ?_)
      · have g_203 : gi v5 1 11 := gi_lt_r c_202 gr_201 gv5 (by decide)
        exact kr88 z1 _ _ _ hP hD hS (lv_sub hl [] rfl)
      · have g_204 : gi v5 0 10 := gi_le_l (Int32.not_lt.mp c_202) gv5 gr_201
        refine lv_iload hx hb dX9_takeOnWithLean_40 (lv_at hl 5 rfl) ?_
        refine lv_aload_n hx hb dX9_takeOnWithLean_42 rfl (lv_at hl 0 rfl) ?_
        refine va_get (D := (dC, dI)) (ci := 9) (v := .int full) (C := RX9) (T := TX9) (N := 6) hx hb hts (fun w h => List.mem_cons_of_mem _ (jnGA_X9 w h)) hown hK hP 0 rfl rfl 4 (by decide) (hts _ (List.mem_cons_of_mem _ mGA_562)) (fun _ h9 => h9) rfl dX9_takeOnWithLean_43 ?_
        refine lv_aload_n hx hb dX9_takeOnWithLean_46 rfl (lv_at hl 0 rfl) ?_
        refine va_get (D := (dC, dI)) (ci := 9) (v := .int lean) (C := RX9) (T := TX9) (N := 6) hx hb hts (fun w h => List.mem_cons_of_mem _ (jnGA_X9 w h)) hown hK hP 0 rfl rfl 5 (by decide) (hts _ (List.mem_cons_of_mem _ mGA_564)) (fun _ h9 => h9) rfl dX9_takeOnWithLean_47 ?_
        have hPc := hP.sub (ws' := []) [] rfl
        have hKc := hK.sub (tys' := []) [] rfl
        refine va_calli (va_runSN (As := [.int v5, .int full, .int lean]) (rest := []) ⟨hx, hb, hml, hown, hts⟩ (sX11_runWithLean l dC dI v5 full lean g_204 gfull glean) (⟨va_cnB 3 hts (gz_gP mGA_510 goodGA) rfl rfl rfl (nzA_X9_78 hz) (hts _ (List.mem_cons_of_mem _ mGA_1)) (by decide +kernel) ⟨Nat.le_trans (Nat.le_of_ble_eq_true rfl) hRf, Nat.le_trans (Nat.le_of_ble_eq_true rfl) hRl⟩, (hts _ (List.mem_cons_of_mem _ mGA_509)), trivial⟩) ⟨bl_I (bl_a bl_P (bl_a bl_K bl_nz)), fun U hU hW => ⟨rfl, by rw [hU]; exact hPc, va_K.moved hW.alike hKc, nzA_warm hW hz⟩⟩ rfl rfl hl.1 rfl (lv_room (Nat.le_of_ble_eq_true rfl)) dX9_takeOnWithLean_50 ⟨hRc, hRs⟩) hS (fun q _ h => h.elim) (fun q h => h.elim) (fun r_205 u t H1 locs ht hvm hw hB hz1 hk1 hS => ?_)
        have hP := gz_keep hP hk1
        generalize H1 = H at hP hS ⊢
        have gr_205 : gi r_205 0 10 := hw
        refine lv_istore (lv' := [(6, .int r_205), (0, .ref h0), (1, .int p0), (2, .int p1), (3, .int v3), (4, .int v4), (5, .int v5)]) hx hb dX9_takeOnWithLean_53 hl (by decide) rfl (fun ls hl => ?_)
        refine lv_iload hx hb dX9_takeOnWithLean_55 (lv_at hl 0 rfl) ?_
        refine lv_if_eq (tgt := 82) hx hb dX9_takeOnWithLean_57 (by decide) (fun c_206 => ?_) (fun c_206 => ?_)
        · have g_207 : gi r_205 0 0 := gi_eq c_206 (gi_c 0 0 (by decide))
          obtain ⟨x_208, ex_208⟩ : ∃ y : Int32, y = v5 + 1 := ⟨_, rfl⟩
          have gx_208 : gi x_208 1 11 := gi_add ex_208 g_204 (gi_c 1 1 (by decide)) (by decide)
          refine lv_iinc (v := x_208) (lv' := [(5, .int x_208), (6, .int r_205), (0, .ref h0), (1, .int p0), (2, .int p1), (3, .int v3), (4, .int v4)]) hx hb dX9_takeOnWithLean_82 hl (k := 6) rfl (by rw [ex_208]; rfl) (by decide) rfl (fun ls hl => ?_)
          refine lv_goto (tgt := 23) hx hb dX9_takeOnWithLean_85 (by decide) ?_
          exact ih v3 v4 x_208 z1 _ _ _ gv3 gv4 (gi_w gx_208 (by decide)) (by have av5 := gv5.1; have bv5 := gv5.2; have qgx_208 := gx_208.1; have rgx_208 := gx_208.2; have igx_208 : x_208.toInt = v5.toInt + 1 := (by have hc1 : (1 : Int32).toInt = 1 := (by decide); have h9 := gi_addI ex_208 (by have h1 := g_204.1; have h2 := (gi_c 1 1 (by decide)).1; have h3 := g_204.2; have h4 := (gi_c 1 1 (by decide)).2; omega) (by have h1 := g_204.1; have h2 := (gi_c 1 1 (by decide)).1; have h3 := g_204.2; have h4 := (gi_c 1 1 (by decide)).2; omega); rw [hc1] at h9; exact h9); have qgv5 := g_204.1; have rgv5 := g_204.2; omega) hP hD hS (lv_sub hl [2, 3, 4, 5, 6, 0] rfl)
        · have g_209 : gi r_205 1 10 := gi_ne_lo c_206 gr_205 (gi_c 0 0 (by decide)) (by decide)
          refine lv_aload_n hx hb dX9_takeOnWithLean_60 rfl (lv_at hl 1 rfl) ?_
          refine va_get (D := (dC, dI)) (ci := 9) (v := .ref bf) (C := RX9) (T := TX9) (N := 6) hx hb hts (fun w h => List.mem_cons_of_mem _ (jnGA_X9 w h)) hown hK hP 0 rfl rfl 0 (by decide) (hts _ (List.mem_cons_of_mem _ mGA_111)) (fun _ h9 => h9) rfl dX9_takeOnWithLean_61 ?_
          refine lv_iload hx hb dX9_takeOnWithLean_64 (lv_at hl 5 rfl) ?_
          refine lv_iload hx hb dX9_takeOnWithLean_66 (lv_at hl 0 rfl) ?_
          refine lv_iadd hx hb dX9_takeOnWithLean_68 ?_
          refine lv_topi (fun x_210 ex_210 => ?_)
          have gx_210 : gi x_210 1 3574 := gi_add ex_210 gv4 g_209 (by decide)
          refine lv_dup2_11 hx hb dX9_takeOnWithLean_69 rfl rfl ?_
          refine va_iald hx hb hK hP 1 0 rfl rfl (gi_in gx_210 (by decide)) dX9_takeOnWithLean_70 ?_
          refine lv_topi (fun x_211 ex_211 => ?_)
          refine lv_aload_n hx hb dX9_takeOnWithLean_71 rfl (lv_at hl 1 rfl) ?_
          refine va_get (D := (dC, dI)) (ci := 9) (v := .ref bf) (C := RX9) (T := TX9) (N := 6) hx hb hts (fun w h => List.mem_cons_of_mem _ (jnGA_X9 w h)) hown hK hP 0 rfl rfl 0 (by decide) (hts _ (List.mem_cons_of_mem _ mGA_111)) (fun _ h9 => h9) rfl dX9_takeOnWithLean_72 ?_
          refine lv_iload_n hx hb dX9_takeOnWithLean_75 rfl (lv_at hl 4 rfl) ?_
          refine lv_iload hx hb dX9_takeOnWithLean_76 (lv_at hl 6 rfl) ?_
          refine lv_iadd hx hb dX9_takeOnWithLean_78 ?_
          refine lv_topi (fun x_212 ex_212 => ?_)
          have gx_212 : gi x_212 0 3574 := gi_add ex_212 gv3 g_204 (by decide)
          refine va_iald hx hb hK hP 1 0 rfl rfl (gi_in gx_212 (by decide)) dX9_takeOnWithLean_79 ?_
          refine lv_topi (fun x_213 ex_213 => ?_)
          refine lv_iadd hx hb dX9_takeOnWithLean_80 ?_
          refine lv_topi (fun x_214 ex_214 => ?_)
          refine va_iast hx hb hK hP hD hS 1 0 rfl rfl (gi_in gx_210 (by decide)) dX9_takeOnWithLean_81 (fun H locs hP hD hS => ?_)
          have hP : va_P (dC, dI) vwCl [(h0, .inr (9, [.ref bf, .ref bh, .ref sa, .int months, .int full, .int lean])), (bf, .inl (kbf, 3575, .inl (upd z1 (x_210 : Int32).toNatClampNeg x_214)))] H := hP
          have hD : va_D A [(h0, .inr (9, [.ref bf, .ref bh, .ref sa, .int months, .int full, .int lean])), (bf, .inl (kbf, 3575, .inl (upd z1 (x_210 : Int32).toNatClampNeg x_214)))] := hD
          generalize upd z1 (x_210 : Int32).toNatClampNeg x_214 = f_215 at hP hD
          obtain ⟨x_216, ex_216⟩ : ∃ y : Int32, y = v5 + 1 := ⟨_, rfl⟩
          have gx_216 : gi x_216 1 11 := gi_add ex_216 g_204 (gi_c 1 1 (by decide)) (by decide)
          refine lv_iinc (v := x_216) (lv' := [(5, .int x_216), (6, .int r_205), (0, .ref h0), (1, .int p0), (2, .int p1), (3, .int v3), (4, .int v4)]) hx hb dX9_takeOnWithLean_82 hl (k := 6) rfl (by rw [ex_216]; rfl) (by decide) rfl (fun ls hl => ?_)
          refine lv_goto (tgt := 23) hx hb dX9_takeOnWithLean_85 (by decide) ?_
          exact ih v3 v4 x_216 f_215 _ _ _ gv3 gv4 (gi_w gx_216 (by decide)) (by have av5 := gv5.1; have bv5 := gv5.2; have qgx_216 := gx_216.1; have rgx_216 := gx_216.2; have igx_216 : x_216.toInt = v5.toInt + 1 := (by have hc1 : (1 : Int32).toInt = 1 := (by decide); have h9 := gi_addI ex_216 (by have h1 := g_204.1; have h2 := (gi_c 1 1 (by decide)).1; have h3 := g_204.2; have h4 := (gi_c 1 1 (by decide)).2; omega) (by have h1 := g_204.1; have h2 := (gi_c 1 1 (by decide)).1; have h3 := g_204.2; have h4 := (gi_c 1 1 (by decide)).2; omega); rw [hc1] at h9; exact h9); have qgv5 := g_204.1; have rgv5 := g_204.2; omega) hP hD hS (lv_sub hl [2, 3, 4, 5, 6, 0] rfl)
abbrev pb_sX9_takeOnWithLean (dC : Nat → ClassId) (dI : Nat → Nat → Nat) (A9 : Nat → Prop) (h0 : Nat) (bf : Nat) (bh : Nat) (sa : Nat) (months : Int32) (full : Int32) (lean : Int32) (kbf : ClassId) (fbf : Nat → Int32) (p0 : Int32) (p1 : Int32) (z1 : Nat → Int32) (t : State) : Prop := va_P (dC, dI) vwCl [(h0, .inr (9, [.ref bf, .ref bh, .ref sa, .int months, .int full, .int lean])), (bf, .inl (kbf, 3575, .inl z1))] t.heap ∧ va_D A9 [(h0, .inr (9, [.ref bf, .ref bh, .ref sa, .int months, .int full, .int lean])), (bf, .inl (kbf, 3575, .inl z1))]
set_option maxHeartbeats 4000000 in
set_option maxRecDepth 100000 in
theorem sX9_takeOnWithLean (l : Launch) (dC : Nat → ClassId) (dI : Nat → Nat → Nat) (sz : Nat) (h0 : Nat) (bf : Nat) (bh : Nat) (sa : Nat) (months : Int32) (full : Int32) (lean : Int32) (kbf : ClassId) (fbf : Nat → Int32) (p0 : Int32) (p1 : Int32) (gmonths : gi months 0 24) (gfull : gi full 0 5) (glean : gi lean 0 5) (gp0 : gi p0 0 23) (gp1 : gi p1 0 23) : Met l yX9_takeOnWithLean (.code yX9_takeOnWithLean cX9_takeOnWithLean 7 none :: wsGA) ({ frames := 2, cells := 0, slots := 0, locals := 43 }) (va_Pc [.ref h0, .int p0, .int p1] (fun U => U.heap.size = sz ∧ va_P (dC, dI) vwCl [(h0, .inr (9, [.ref bf, .ref bh, .ref sa, .int months, .int full, .int lean])), (bf, .inl (kbf, 3575, .inl fbf))] U.heap ∧ va_K (dC, dI) vwCl [(kbf, .int)] U ∧ va_D (fun _ => True) [(h0, .inr (9, [.ref bf, .ref bh, .ref sa, .int months, .int full, .int lean])), (bf, .inl (kbf, 3575, .inl fbf))] ∧ nzA U)) (va_Qv (fun (u : Unit) => True) (fun _ t => ∃ (z1 : Nat → Int32), pb_sX9_takeOnWithLean dC dI (va_A [(h0, .inr (9, [.ref bf, .ref bh, .ref sa, .int months, .int full, .int lean])), (bf, .inl (kbf, 3575, .inl fbf))] sz) h0 bf bh sa months full lean kbf fbf p0 p1 z1 t) (va_A [(h0, .inr (9, [.ref bf, .ref bh, .ref sa, .int months, .int full, .int lean])), (bf, .inl (kbf, 3575, .inl fbf))] sz)) 0 0 (va_A [(h0, .inr (9, [.ref bf, .ref bh, .ref sa, .int months, .int full, .int lean])), (bf, .inl (kbf, 3575, .inl fbf))] sz) := by
  refine Met.ofW (cc := cX9_takeOnWithLean) (maxL := 7) (ret := none) (by decide) rfl ?_
  intro p e s m args below meth c s₁ B hml hv
  obtain ⟨rfl, hsz, hP, hK, hD0, hz⟩ := hv
  have hx := B.exec
  have hb := B.bytes
  have hr := B.returns
  have hts := atoms_spec (ws := (.code yX9_takeOnWithLean cX9_takeOnWithLean 7 none :: wsGA)) B.pre
  have hown : s.vm.findClass RX9 = some m.cls := findClass_of_methodNamed B.named
  have hlocks := B.notSynchronized
  subst hsz
  have hD := hD0.self (sz := s.heap.size)
  generalize hAe : va_A [(h0, .inr (9, [.ref bf, .ref bh, .ref sa, .int months, .int full, .int lean])), (bf, .inl (kbf, 3575, .inl fbf))] s.heap.size = A at hD ⊢
  have hA : ∀ q : Nat, s.heap.size ≤ q → A q := fun q h => by rw [← hAe]; exact Or.inr h
  have hS : va_S A s.heap s.heap [] := va_S.rf
  have hl := lv_entry ([.ref h0, .int p0, .int p1]) (n := 7) (Nat.le_of_ble_eq_true rfl)
  rw [lg_entry_eq]
  generalize (lg_sl ([.ref h0, .int p0, .int p1]) ++ List.replicate (7 - (lg_sl ([.ref h0, .int p0, .int p1])).length) Slot.unset).toArray = ls at hl ⊢
  have hl : lv_has ls 7 [(0, .ref h0), (1, .int p0), (2, .int p1)] := hl
  refine lv_iload_n hx hb dX9_takeOnWithLean_0 rfl (lv_at hl 1 rfl) ?_
  refine lv_iload_n hx hb dX9_takeOnWithLean_1 rfl (lv_at hl 2 rfl) ?_
  refine lv_iconst (v := 0) hx hb dX9_takeOnWithLean_2 (by decide) ?_
  have hPc := hP.sub (ws' := []) [] rfl
  have hKc := hK.sub (tys' := []) [] rfl
  refine va_calli (va_runSN (As := [.int p0, .int p1, .int 0]) (rest := []) ⟨hx, hb, hml, hown, hts⟩ (sX11_spot0 l dC dI p0 p1 0 (gi_w gp0 (by decide)) (gi_w gp1 (by decide)) (gi_c 0 0 (by decide))) (⟨va_cnB 3 hts (gz_gP mGA_582 goodGA) rfl rfl rfl (nzA_X9_63 hz) (hts _ (List.mem_cons_of_mem _ mGA_1)) (by decide +kernel) ⟨Nat.le_of_ble_eq_true rfl, Nat.le_of_ble_eq_true rfl⟩, (hts _ (List.mem_cons_of_mem _ mGA_581)), trivial⟩) ⟨bl_I (bl_a bl_P (bl_a bl_K bl_nz)), fun U hU hW => ⟨rfl, by rw [hU]; exact hPc, va_K.moved hW.alike hKc, nzA_warm hW hz⟩⟩ rfl rfl hl.1 rfl (lv_room (Nat.le_of_ble_eq_true rfl)) dX9_takeOnWithLean_3 ⟨Nat.zero_le _, Nat.zero_le _⟩) hS (fun q _ h => h.elim) (fun q h => h.elim) (fun r_217 u t H1 locs ht hvm hw hB hz1 hk1 hS => ?_)
  have hP := gz_keep hP hk1
  generalize H1 = H at hP hS ⊢
  have gr_217 : gi r_217 0 3564 := hw
  refine lv_istore_n (lv' := [(3, .int r_217), (0, .ref h0), (1, .int p0), (2, .int p1)]) hx hb dX9_takeOnWithLean_6 rfl hl (by decide) rfl (fun ls hl => ?_)
  refine lv_iload_n hx hb dX9_takeOnWithLean_7 rfl (lv_at hl 2 rfl) ?_
  refine lv_iconst (v := 1) hx hb dX9_takeOnWithLean_8 (by decide) ?_
  refine lv_iadd hx hb dX9_takeOnWithLean_9 ?_
  refine lv_topi (fun x_218 ex_218 => ?_)
  have gx_218 : gi x_218 1 24 := gi_add ex_218 gp0 (gi_c 1 1 (by decide)) (by decide)
  refine lv_iload_n hx hb dX9_takeOnWithLean_10 rfl (lv_at hl 3 rfl) ?_
  refine lv_iconst (v := 0) hx hb dX9_takeOnWithLean_11 (by decide) ?_
  have hPc := hP.sub (ws' := []) [] rfl
  have hKc := hK.sub (tys' := []) [] rfl
  refine va_calli (va_runSN (As := [.int x_218, .int p1, .int 0]) (rest := []) ⟨hx, hb, hml, hown, hts⟩ (sX11_spot0 l dC dI x_218 p1 0 (gi_w gx_218 (by decide)) (gi_w gp1 (by decide)) (gi_c 0 0 (by decide))) (⟨va_cnB 3 hts (gz_gP mGA_582 goodGA) rfl rfl rfl (nzA_X9_63 hz) (hts _ (List.mem_cons_of_mem _ mGA_1)) (by decide +kernel) ⟨Nat.le_of_ble_eq_true rfl, Nat.le_of_ble_eq_true rfl⟩, (hts _ (List.mem_cons_of_mem _ mGA_581)), trivial⟩) ⟨bl_I (bl_a bl_P (bl_a bl_K bl_nz)), fun U hU hW => ⟨rfl, by rw [hU]; exact hPc, va_K.moved hW.alike hKc, nzA_warm hW hz⟩⟩ rfl rfl hl.1 rfl (lv_room (Nat.le_of_ble_eq_true rfl)) dX9_takeOnWithLean_12 ⟨Nat.zero_le _, Nat.zero_le _⟩) hS (fun q _ h => h.elim) (fun q h => h.elim) (fun r_219 u t H1 locs ht hvm hw hB hz1 hk1 hS => ?_)
  have hP := gz_keep hP hk1
  generalize H1 = H at hP hS ⊢
  have gr_219 : gi r_219 0 3564 := hw
  refine lv_istore (lv' := [(4, .int r_219), (3, .int r_217), (0, .ref h0), (1, .int p0), (2, .int p1)]) hx hb dX9_takeOnWithLean_15 hl (by decide) rfl (fun ls hl => ?_)
  refine lv_iload_n hx hb dX9_takeOnWithLean_17 rfl (lv_at hl 3 rfl) ?_
  have hPc := hP.sub (ws' := []) [] rfl
  have hKc := hK.sub (tys' := []) [] rfl
  refine va_calli (va_runSN (As := [.int p0]) (rest := []) ⟨hx, hb, hml, hown, hts⟩ (sX11_firstRun l dC dI p0 (gi_w gp0 (by decide))) (⟨va_cnB 1 hts (gz_gP mGA_504 goodGA) rfl rfl rfl (nzA_X9_67 hz) (hts _ (List.mem_cons_of_mem _ mGA_1)) (by decide +kernel) ⟨Nat.le_of_ble_eq_true rfl, Nat.le_of_ble_eq_true rfl⟩, (hts _ (List.mem_cons_of_mem _ mGA_503)), trivial⟩) ⟨bl_I (bl_a bl_P (bl_a bl_K bl_nz)), fun U hU hW => ⟨rfl, by rw [hU]; exact hPc, va_K.moved hW.alike hKc, nzA_warm hW hz⟩⟩ rfl rfl hl.1 rfl (lv_room (Nat.le_of_ble_eq_true rfl)) dX9_takeOnWithLean_18 ⟨Nat.zero_le _, Nat.zero_le _⟩) hS (fun q _ h => h.elim) (fun q h => h.elim) (fun r_220 u t H1 locs ht hvm hw hB hz1 hk1 hS => ?_)
  have hP := gz_keep hP hk1
  generalize H1 = H at hP hS ⊢
  have gr_220 : gi r_220 0 1 := hw
  refine lv_istore (lv' := [(5, .int r_220), (4, .int r_219), (3, .int r_217), (0, .ref h0), (1, .int p0), (2, .int p1)]) hx hb dX9_takeOnWithLean_21 hl (by decide) rfl (fun ls hl => ?_)
  refine (lp_sX9_takeOnWithLean h0 bf bh sa months full lean kbf fbf p0 p1 gmonths gfull glean gp0 gp1 hx hb hml hown hts hK hz hA (Nat.le_of_ble_eq_true rfl) (Nat.le_of_ble_eq_true rfl) (Nat.zero_le _) (Nat.zero_le _) (fun z1 H locs ls hP hD hS hl => ?_) 36) r_217 r_219 r_220 fbf _ _ _ gr_217 gr_219 (gi_w gr_220 (by decide)) (by have qgr_220 := gr_220.1; have rgr_220 := gr_220.2; omega) hP hD hS (lv_sub hl [3, 4, 5, 2, 1, 0] rfl)
  · skip
    exact W.vret hx hb hr (fun t ht hW => ⟨⟨(), rfl, trivial, z1, by rw [ht]; exact hP, hD⟩, hS.F ht⟩) hS.2.2 dX9_takeOnWithLean_88
theorem dX9_beginOf_0 : decode cX9_beginOf 0 = .ok (.iload_n 1, 1) := by decide +kernel
theorem dX9_beginOf_1 : decode cX9_beginOf 1 = .ok (.istore_n 3, 1) := by decide +kernel
theorem dX9_beginOf_2 : decode cX9_beginOf 2 = .ok (.iconst 0, 1) := by decide +kernel
theorem dX9_beginOf_3 : decode cX9_beginOf 3 = .ok (.istore 4, 2) := by decide +kernel
theorem dX9_beginOf_5 : decode cX9_beginOf 5 = .ok (.iconst 0, 1) := by decide +kernel
theorem dX9_beginOf_6 : decode cX9_beginOf 6 = .ok (.istore 5, 2) := by decide +kernel
theorem dX9_beginOf_8 : decode cX9_beginOf 8 = .ok (.iconst 0, 1) := by decide +kernel
theorem dX9_beginOf_9 : decode cX9_beginOf 9 = .ok (.istore 6, 2) := by decide +kernel
theorem dX9_beginOf_11 : decode cX9_beginOf 11 = .ok (.iload 6, 2) := by decide +kernel
theorem dX9_beginOf_13 : decode cX9_beginOf 13 = .ok (.iload_n 2, 1) := by decide +kernel
theorem dX9_beginOf_14 : decode cX9_beginOf 14 = .ok (.if_icmp .ge 64, 3) := by decide +kernel
theorem dX9_beginOf_17 : decode cX9_beginOf 17 = .ok (.aload_n 0, 1) := by decide +kernel
theorem dX9_beginOf_18 : decode cX9_beginOf 18 = .ok (.iload 6, 2) := by decide +kernel
theorem dX9_beginOf_20 : decode cX9_beginOf 20 = .ok (.iload 4, 2) := by decide +kernel
theorem dX9_beginOf_22 : decode cX9_beginOf 22 = .ok (.iload 5, 2) := by decide +kernel
theorem dX9_beginOf_24 : decode cX9_beginOf 24 = .ok (.invokevirtual 89, 3) := by decide +kernel
theorem dX9_beginOf_27 : decode cX9_beginOf 27 = .ok (.istore 7, 2) := by decide +kernel
theorem dX9_beginOf_29 : decode cX9_beginOf 29 = .ok (.iload_n 3, 1) := by decide +kernel
theorem dX9_beginOf_30 : decode cX9_beginOf 30 = .ok (.iload 7, 2) := by decide +kernel
theorem dX9_beginOf_32 : decode cX9_beginOf 32 = .ok (.if_icmp .ge 21, 3) := by decide +kernel
theorem dX9_beginOf_35 : decode cX9_beginOf 35 = .ok (.iload 5, 2) := by decide +kernel
theorem dX9_beginOf_37 : decode cX9_beginOf 37 = .ok (.aload_n 0, 1) := by decide +kernel
theorem dX9_beginOf_38 : decode cX9_beginOf 38 = .ok (.getfield 31, 3) := by decide +kernel
theorem dX9_beginOf_41 : decode cX9_beginOf 41 = .ok (.aload_n 0, 1) := by decide +kernel
theorem dX9_beginOf_42 : decode cX9_beginOf 42 = .ok (.getfield 35, 3) := by decide +kernel
theorem dX9_beginOf_45 : decode cX9_beginOf 45 = .ok (.invokestatic 78, 3) := by decide +kernel
theorem dX9_beginOf_48 : decode cX9_beginOf 48 = .ok (.istore 5, 2) := by decide +kernel
theorem dX9_beginOf_50 : decode cX9_beginOf 50 = .ok (.goto 22, 3) := by decide +kernel
theorem dX9_beginOf_53 : decode cX9_beginOf 53 = .ok (.iload_n 3, 1) := by decide +kernel
theorem dX9_beginOf_54 : decode cX9_beginOf 54 = .ok (.iload 7, 2) := by decide +kernel
theorem dX9_beginOf_56 : decode cX9_beginOf 56 = .ok (.isub, 1) := by decide +kernel
theorem dX9_beginOf_57 : decode cX9_beginOf 57 = .ok (.istore_n 3, 1) := by decide +kernel
theorem dX9_beginOf_58 : decode cX9_beginOf 58 = .ok (.iload 5, 2) := by decide +kernel
theorem dX9_beginOf_60 : decode cX9_beginOf 60 = .ok (.aload_n 0, 1) := by decide +kernel
theorem dX9_beginOf_61 : decode cX9_beginOf 61 = .ok (.getfield 31, 3) := by decide +kernel
theorem dX9_beginOf_64 : decode cX9_beginOf 64 = .ok (.invokestatic 74, 3) := by decide +kernel
theorem dX9_beginOf_67 : decode cX9_beginOf 67 = .ok (.istore 5, 2) := by decide +kernel
theorem dX9_beginOf_69 : decode cX9_beginOf 69 = .ok (.iinc 4 1, 3) := by decide +kernel
theorem dX9_beginOf_72 : decode cX9_beginOf 72 = .ok (.iinc 6 1, 3) := by decide +kernel
theorem dX9_beginOf_75 : decode cX9_beginOf 75 = .ok (.goto (-64), 3) := by decide +kernel
theorem dX9_beginOf_78 : decode cX9_beginOf 78 = .ok (.iload_n 2, 1) := by decide +kernel
theorem dX9_beginOf_79 : decode cX9_beginOf 79 = .ok (.iload 4, 2) := by decide +kernel
theorem dX9_beginOf_81 : decode cX9_beginOf 81 = .ok (.invokestatic 95, 3) := by decide +kernel
theorem dX9_beginOf_84 : decode cX9_beginOf 84 = .ok (.ireturn, 1) := by decide +kernel
set_option maxHeartbeats 4000000 in
set_option maxRecDepth 100000 in
theorem lp_sX9_beginOf {p : Program} {l : Launch} {e : Env} {R : Room} {s : State} {m : MethodId} {args : Array Value} {below : List Frame} {meth : Method} {c : Code} {Q : State → Prop} {A : Nat → Prop} {cells slots : Nat} {dC : Nat → ClassId} {dI : Nat → Nat → Nat} (h0 : Nat) (bh : Nat) (bf : Nat) (sa : Nat) (months : Int32) (full : Int32) (lean : Int32) (kbh : ClassId) (fbh : Nat → Int32) (p0 : Int32) (p1 : Int32) (gmonths : gi months 0 24) (gfull : gi full 0 5) (glean : gi lean 0 5) (gp1 : gi p1 0 24) (hx : p.tables.exec = Jvm.exec) (hb : c.code = cX9_beginOf) (hml : c.maxLocals = 8) (hown : s.vm.findClass RX9 = some m.cls) (hts : ∀ w ∈ ((.code yX9_beginOf cX9_beginOf 8 (some .int) :: wsGA) : List Cond), w.before args s = true) (hK : va_K (dC, dI) vwCl [(kbh, .int)] s) (hz : nzA s) (hRf : 3 ≤ R.frames) (hRl : 66 ≤ R.locals) (hRc : cells ≤ R.cells) (hRs : slots ≤ R.slots) (kr84 : ∀ (v : Int32) (H : Heap) (locs : List Loc) (ls : Array Slot), va_P (dC, dI) vwCl [(h0, .inr (9, [.ref bf, .ref bh, .ref sa, .int months, .int full, .int lean])), (bh, .inl (kbh, 3575, .inl fbh))] H → va_S A s.heap H locs → lv_has ls 8 [] → W p l e R s m args below meth c H locs cells slots Q (F0 m 84 ls [.int v])) : ∀ z : Nat, (∀ (v3 : Int32) (v4 : Int32) (v5 : Int32) (v6 : Int32) (H : Heap) (locs : List Loc) (ls : Array Slot), gi v4 0 24 → gi v5 0 10 → gi v6 0 24 → v4.toInt ≤ v6.toInt → 49 + (-2) * v6.toInt < (z : Int) → va_P (dC, dI) vwCl [(h0, .inr (9, [.ref bf, .ref bh, .ref sa, .int months, .int full, .int lean])), (bh, .inl (kbh, 3575, .inl fbh))] H → va_S A s.heap H locs → lv_has ls 8 [(0, .ref h0), (1, .int p0), (2, .int p1), (3, .int v3), (4, .int v4), (5, .int v5), (6, .int v6)] → W p l e R s m args below meth c H locs cells slots Q (F0 m 11 ls [])) := by
  intro z
  induction z with
  | zero =>
    intro v3 v4 v5 v6 H locs ls gv4 gv5 gv6 hle_gv4_gv6 hmu hP hS hl
    exact absurd hmu (by have hv61 := gv6.1; have hv62 := gv6.2; omega)
  | succ z ih =>
      intro v3 v4 v5 v6 H locs ls gv4 gv5 gv6 hle_gv4_gv6 hmu hP hS hl
      refine lv_iload hx hb dX9_beginOf_11 (lv_at hl 6 rfl) ?_
      refine lv_iload_n hx hb dX9_beginOf_13 rfl (lv_at hl 2 rfl) ?_
      refine lv_icmp_ge (tgt := 78) hx hb dX9_beginOf_14 (by decide) (fun c_212 => ?_) (fun c_212 => ?_)
      · refine lv_iload_n hx hb dX9_beginOf_78 rfl (lv_at hl 2 rfl) ?_
        refine lv_iload hx hb dX9_beginOf_79 (lv_at hl 4 rfl) ?_
        have hPc := hP.sub (ws' := []) [] rfl
        have hKc := hK.sub (tys' := []) [] rfl
        refine va_calli (va_runSN (As := [.int p1, .int v4]) (rest := []) ⟨hx, hb, hml, hown, hts⟩ (sX11_dayOf l dC dI p1 v4) (⟨va_cnB 2 hts (gz_gP mGA_516 goodGA) rfl rfl rfl (nzA_X9_95 hz) (hts _ (List.mem_cons_of_mem _ mGA_1)) (by decide +kernel) ⟨Nat.le_trans (Nat.le_of_ble_eq_true rfl) hRf, Nat.le_trans (Nat.le_of_ble_eq_true rfl) hRl⟩, (hts _ (List.mem_cons_of_mem _ mGA_515)), trivial⟩) ⟨bl_I (bl_a bl_P (bl_a bl_K bl_nz)), fun U hU hW => ⟨rfl, by rw [hU]; exact hPc, va_K.moved hW.alike hKc, nzA_warm hW hz⟩⟩ rfl rfl hl.1 rfl (lv_room (Nat.le_of_ble_eq_true rfl)) dX9_beginOf_81 ⟨hRc, hRs⟩) hS (fun q _ h => h.elim) (fun q h => h.elim) (fun r_213 u t H1 locs ht hvm hw hB hz1 hk1 hS => ?_)
        have hP := gz_keep hP hk1
        generalize H1 = H at hP hS ⊢
        exact kr84 r_213 _ _ _ hP hS (lv_sub hl [] rfl)
      · have g_214 : gi v6 0 23 := gi_lt_l (Int32.not_le.mp c_212) gv6 gp1 (by decide)
        have g_215 : gi v4 0 23 := gi_rel hle_gv4_gv6 gv4 g_214
        have g_216 : gi p1 1 24 := gi_lt_r (Int32.not_le.mp c_212) gv6 gp1 (by decide)
        refine lv_aload_n hx hb dX9_beginOf_17 rfl (lv_at hl 0 rfl) ?_
        refine lv_iload hx hb dX9_beginOf_18 (lv_at hl 6 rfl) ?_
        refine lv_iload hx hb dX9_beginOf_20 (lv_at hl 4 rfl) ?_
        refine lv_iload hx hb dX9_beginOf_22 (lv_at hl 5 rfl) ?_
        have hPc := hP.sub (ws' := [(h0, .inr (9, [.ref bf, .ref bh, .ref sa, .int months, .int full, .int lean])), (bh, .inl (kbh, 3575, .inl fbh))]) [0, 1] rfl
        have hKc := hK.sub (tys' := [(kbh, .int)]) [0] rfl
        refine va_calli (va_runV (As := [.int v6, .int v4, .int v5]) (rest := []) ⟨hx, hb, hml, hown, hts⟩ (sX9_withLean l dC dI h0 bh bf sa months full lean kbh fbh v6 v4 v5 gmonths gfull glean g_214 (gi_w g_215 (by decide)) gv5) (cwV 3 hts (gz_gV mGA_599 mGA_600 mGA_601 mGA_27 mGA_602 goodGA) rfl rfl rfl (by decide +kernel) ⟨Nat.le_trans (Nat.le_of_ble_eq_true rfl) hRf, Nat.le_trans (Nat.le_of_ble_eq_true rfl) hRl⟩) ⟨bl_I (bl_a bl_P (bl_a bl_K bl_nz)), va_recv hKc hPc (ci := 9) (q0 := 0) rfl rfl, fun U hU hW => ⟨rfl, by rw [hU]; exact hPc, va_K.moved hW.alike hKc, nzA_warm hW hz⟩⟩ rfl rfl hl.1 rfl (lv_room (Nat.le_of_ble_eq_true rfl)) dX9_beginOf_24 ⟨hRc, hRs⟩) hS (fun q _ h => h.elim) (fun q h => h.elim) (fun r_217 u t H1 locs ht hvm hw hB hz1 hk1 hS => ?_)
        have hP := gz_keep hP hk1
        generalize H1 = H at hP hS ⊢
        refine lv_istore (lv' := [(7, .int r_217), (0, .ref h0), (1, .int p0), (2, .int p1), (3, .int v3), (4, .int v4), (5, .int v5), (6, .int v6)]) hx hb dX9_beginOf_27 hl (by decide) rfl (fun ls hl => ?_)
        refine lv_iload_n hx hb dX9_beginOf_29 rfl (lv_at hl 4 rfl) ?_
        refine lv_iload hx hb dX9_beginOf_30 (lv_at hl 0 rfl) ?_
        refine lv_icmp_ge (tgt := 53) hx hb dX9_beginOf_32 (by decide) (fun c_218 => ?_) (fun c_218 => ?_)
        · refine lv_iload_n hx hb dX9_beginOf_53 rfl (lv_at hl 4 rfl) ?_
          refine lv_iload hx hb dX9_beginOf_54 (lv_at hl 0 rfl) ?_
          refine lv_isub hx hb dX9_beginOf_56 ?_
          refine lv_topi (fun x_219 ex_219 => ?_)
          refine lv_istore_n (lv' := [(3, .int x_219), (7, .int r_217), (0, .ref h0), (1, .int p0), (2, .int p1), (4, .int v4), (5, .int v5), (6, .int v6)]) hx hb dX9_beginOf_57 rfl hl (by decide) rfl (fun ls hl => ?_)
          refine lv_iload hx hb dX9_beginOf_58 (lv_at hl 6 rfl) ?_
          refine lv_aload_n hx hb dX9_beginOf_60 rfl (lv_at hl 2 rfl) ?_
          refine va_get (D := (dC, dI)) (ci := 9) (v := .int full) (C := RX9) (T := TX9) (N := 6) hx hb hts (fun w h => List.mem_cons_of_mem _ (jnGA_X9 w h)) hown hK hP 0 rfl rfl 4 (by decide) (hts _ (List.mem_cons_of_mem _ mGA_562)) (fun _ h9 => h9) rfl dX9_beginOf_61 ?_
          have hPc := hP.sub (ws' := []) [] rfl
          have hKc := hK.sub (tys' := []) [] rfl
          refine va_calli (va_runSN (As := [.int v5, .int full]) (rest := []) ⟨hx, hb, hml, hown, hts⟩ (sX11_runWithFull l dC dI v5 full gv5 gfull) (⟨va_cnB 2 hts (gz_gP mGA_508 goodGA) rfl rfl rfl (nzA_X9_74 hz) (hts _ (List.mem_cons_of_mem _ mGA_1)) (by decide +kernel) ⟨Nat.le_trans (Nat.le_of_ble_eq_true rfl) hRf, Nat.le_trans (Nat.le_of_ble_eq_true rfl) hRl⟩, (hts _ (List.mem_cons_of_mem _ mGA_507)), trivial⟩) ⟨bl_I (bl_a bl_P (bl_a bl_K bl_nz)), fun U hU hW => ⟨rfl, by rw [hU]; exact hPc, va_K.moved hW.alike hKc, nzA_warm hW hz⟩⟩ rfl rfl hl.1 rfl (lv_room (Nat.le_of_ble_eq_true rfl)) dX9_beginOf_64 ⟨hRc, hRs⟩) hS (fun q _ h => h.elim) (fun q h => h.elim) (fun r_220 u t H1 locs ht hvm hw hB hz1 hk1 hS => ?_)
          have hP := gz_keep hP hk1
          generalize H1 = H at hP hS ⊢
          have gr_220 : gi r_220 0 5 := hw
          refine lv_istore (lv' := [(5, .int r_220), (3, .int x_219), (7, .int r_217), (0, .ref h0), (1, .int p0), (2, .int p1), (4, .int v4), (6, .int v6)]) hx hb dX9_beginOf_67 hl (by decide) rfl (fun ls hl => ?_)
          obtain ⟨x_221, ex_221⟩ : ∃ y : Int32, y = v4 + 1 := ⟨_, rfl⟩
          have gx_221 : gi x_221 1 24 := gi_add ex_221 g_215 (gi_c 1 1 (by decide)) (by decide)
          refine lv_iinc (v := x_221) (lv' := [(4, .int x_221), (5, .int r_220), (3, .int x_219), (7, .int r_217), (0, .ref h0), (1, .int p0), (2, .int p1), (6, .int v6)]) hx hb dX9_beginOf_69 hl (k := 6) rfl (by rw [ex_221]; rfl) (by decide) rfl (fun ls hl => ?_)
          obtain ⟨x_222, ex_222⟩ : ∃ y : Int32, y = v6 + 1 := ⟨_, rfl⟩
          have gx_222 : gi x_222 1 24 := gi_add ex_222 g_214 (gi_c 1 1 (by decide)) (by decide)
          refine lv_iinc (v := x_222) (lv' := [(6, .int x_222), (4, .int x_221), (5, .int r_220), (3, .int x_219), (7, .int r_217), (0, .ref h0), (1, .int p0), (2, .int p1)]) hx hb dX9_beginOf_72 hl (k := 7) rfl (by rw [ex_222]; rfl) (by decide) rfl (fun ls hl => ?_)
          refine lv_goto (tgt := 11) hx hb dX9_beginOf_75 (by decide) ?_
          exact ih x_219 x_221 r_220 x_222 _ _ _ (gi_w gx_221 (by decide)) (gi_w gr_220 (by decide)) (gi_w gx_222 (by decide)) (by have qgx_222 := gx_222.1; have rgx_222 := gx_222.2; have igx_222 : x_222.toInt = v6.toInt + 1 := (by have hc1 : (1 : Int32).toInt = 1 := (by decide); have h9 := gi_addI ex_222 (by have h1 := g_214.1; have h2 := (gi_c 1 1 (by decide)).1; have h3 := g_214.2; have h4 := (gi_c 1 1 (by decide)).2; omega) (by have h1 := g_214.1; have h2 := (gi_c 1 1 (by decide)).1; have h3 := g_214.2; have h4 := (gi_c 1 1 (by decide)).2; omega); rw [hc1] at h9; exact h9); have qgv6 := g_214.1; have rgv6 := g_214.2; have qgx_221 := gx_221.1; have rgx_221 := gx_221.2; have igx_221 : x_221.toInt = v4.toInt + 1 := (by have hc1 : (1 : Int32).toInt = 1 := (by decide); have h9 := gi_addI ex_221 (by have h1 := g_215.1; have h2 := (gi_c 1 1 (by decide)).1; have h3 := g_215.2; have h4 := (gi_c 1 1 (by decide)).2; omega) (by have h1 := g_215.1; have h2 := (gi_c 1 1 (by decide)).1; have h3 := g_215.2; have h4 := (gi_c 1 1 (by decide)).2; omega); rw [hc1] at h9; exact h9); have qgv4 := g_215.1; have rgv4 := g_215.2; have y1 := (Int32.lt_iff_toInt_lt.mp (Int32.not_le.mp c_212)); have y2 := (Int32.le_iff_toInt_le.mp c_218); omega) (by have av6 := gv6.1; have bv6 := gv6.2; have qgx_222 := gx_222.1; have rgx_222 := gx_222.2; have igx_222 : x_222.toInt = v6.toInt + 1 := (by have hc1 : (1 : Int32).toInt = 1 := (by decide); have h9 := gi_addI ex_222 (by have h1 := g_214.1; have h2 := (gi_c 1 1 (by decide)).1; have h3 := g_214.2; have h4 := (gi_c 1 1 (by decide)).2; omega) (by have h1 := g_214.1; have h2 := (gi_c 1 1 (by decide)).1; have h3 := g_214.2; have h4 := (gi_c 1 1 (by decide)).2; omega); rw [hc1] at h9; exact h9); have qgv6 := g_214.1; have rgv6 := g_214.2; omega) hP hS (lv_sub hl [5, 6, 7, 3, 1, 2, 0] rfl)
        · have g_223 : gi v3 (-2147483648) 2147483646 := gi_lt_l (Int32.not_le.mp c_218) (gi_any v3) (gi_any r_217) (by decide)
          have g_224 : gi r_217 (-2147483647) 2147483647 := gi_lt_r (Int32.not_le.mp c_218) (gi_any v3) (gi_any r_217) (by decide)
          refine lv_iload hx hb dX9_beginOf_35 (lv_at hl 6 rfl) ?_
          refine lv_aload_n hx hb dX9_beginOf_37 rfl (lv_at hl 1 rfl) ?_
          refine va_get (D := (dC, dI)) (ci := 9) (v := .int full) (C := RX9) (T := TX9) (N := 6) hx hb hts (fun w h => List.mem_cons_of_mem _ (jnGA_X9 w h)) hown hK hP 0 rfl rfl 4 (by decide) (hts _ (List.mem_cons_of_mem _ mGA_562)) (fun _ h9 => h9) rfl dX9_beginOf_38 ?_
          refine lv_aload_n hx hb dX9_beginOf_41 rfl (lv_at hl 1 rfl) ?_
          refine va_get (D := (dC, dI)) (ci := 9) (v := .int lean) (C := RX9) (T := TX9) (N := 6) hx hb hts (fun w h => List.mem_cons_of_mem _ (jnGA_X9 w h)) hown hK hP 0 rfl rfl 5 (by decide) (hts _ (List.mem_cons_of_mem _ mGA_564)) (fun _ h9 => h9) rfl dX9_beginOf_42 ?_
          have hPc := hP.sub (ws' := []) [] rfl
          have hKc := hK.sub (tys' := []) [] rfl
          refine va_calli (va_runSN (As := [.int v5, .int full, .int lean]) (rest := []) ⟨hx, hb, hml, hown, hts⟩ (sX11_runWithLean l dC dI v5 full lean gv5 gfull glean) (⟨va_cnB 3 hts (gz_gP mGA_510 goodGA) rfl rfl rfl (nzA_X9_78 hz) (hts _ (List.mem_cons_of_mem _ mGA_1)) (by decide +kernel) ⟨Nat.le_trans (Nat.le_of_ble_eq_true rfl) hRf, Nat.le_trans (Nat.le_of_ble_eq_true rfl) hRl⟩, (hts _ (List.mem_cons_of_mem _ mGA_509)), trivial⟩) ⟨bl_I (bl_a bl_P (bl_a bl_K bl_nz)), fun U hU hW => ⟨rfl, by rw [hU]; exact hPc, va_K.moved hW.alike hKc, nzA_warm hW hz⟩⟩ rfl rfl hl.1 rfl (lv_room (Nat.le_of_ble_eq_true rfl)) dX9_beginOf_45 ⟨hRc, hRs⟩) hS (fun q _ h => h.elim) (fun q h => h.elim) (fun r_225 u t H1 locs ht hvm hw hB hz1 hk1 hS => ?_)
          have hP := gz_keep hP hk1
          generalize H1 = H at hP hS ⊢
          have gr_225 : gi r_225 0 10 := hw
          refine lv_istore (lv' := [(5, .int r_225), (7, .int r_217), (0, .ref h0), (1, .int p0), (2, .int p1), (3, .int v3), (4, .int v4), (6, .int v6)]) hx hb dX9_beginOf_48 hl (by decide) rfl (fun ls hl => ?_)
          refine lv_goto (tgt := 72) hx hb dX9_beginOf_50 (by decide) ?_
          obtain ⟨x_226, ex_226⟩ : ∃ y : Int32, y = v6 + 1 := ⟨_, rfl⟩
          have gx_226 : gi x_226 1 24 := gi_add ex_226 g_214 (gi_c 1 1 (by decide)) (by decide)
          refine lv_iinc (v := x_226) (lv' := [(6, .int x_226), (5, .int r_225), (7, .int r_217), (0, .ref h0), (1, .int p0), (2, .int p1), (3, .int v3), (4, .int v4)]) hx hb dX9_beginOf_72 hl (k := 7) rfl (by rw [ex_226]; rfl) (by decide) rfl (fun ls hl => ?_)
          refine lv_goto (tgt := 11) hx hb dX9_beginOf_75 (by decide) ?_
          exact ih v3 v4 r_225 x_226 _ _ _ (gi_w g_215 (by decide)) gr_225 (gi_w gx_226 (by decide)) (by have qgx_226 := gx_226.1; have rgx_226 := gx_226.2; have igx_226 : x_226.toInt = v6.toInt + 1 := (by have hc1 : (1 : Int32).toInt = 1 := (by decide); have h9 := gi_addI ex_226 (by have h1 := g_214.1; have h2 := (gi_c 1 1 (by decide)).1; have h3 := g_214.2; have h4 := (gi_c 1 1 (by decide)).2; omega) (by have h1 := g_214.1; have h2 := (gi_c 1 1 (by decide)).1; have h3 := g_214.2; have h4 := (gi_c 1 1 (by decide)).2; omega); rw [hc1] at h9; exact h9); have qgv6 := g_214.1; have rgv6 := g_214.2; have qgv4 := g_215.1; have rgv4 := g_215.2; have y1 := (Int32.lt_iff_toInt_lt.mp (Int32.not_le.mp c_212)); have y2 := (Int32.lt_iff_toInt_lt.mp (Int32.not_le.mp c_218)); omega) (by have av6 := gv6.1; have bv6 := gv6.2; have qgx_226 := gx_226.1; have rgx_226 := gx_226.2; have igx_226 : x_226.toInt = v6.toInt + 1 := (by have hc1 : (1 : Int32).toInt = 1 := (by decide); have h9 := gi_addI ex_226 (by have h1 := g_214.1; have h2 := (gi_c 1 1 (by decide)).1; have h3 := g_214.2; have h4 := (gi_c 1 1 (by decide)).2; omega) (by have h1 := g_214.1; have h2 := (gi_c 1 1 (by decide)).1; have h3 := g_214.2; have h4 := (gi_c 1 1 (by decide)).2; omega); rw [hc1] at h9; exact h9); have qgv6 := g_214.1; have rgv6 := g_214.2; omega) hP hS (lv_sub hl [3, 4, 5, 6, 7, 1, 0] rfl)
set_option maxHeartbeats 4000000 in
set_option maxRecDepth 100000 in
theorem sX9_beginOf (l : Launch) (dC : Nat → ClassId) (dI : Nat → Nat → Nat) (h0 : Nat) (bh : Nat) (bf : Nat) (sa : Nat) (months : Int32) (full : Int32) (lean : Int32) (kbh : ClassId) (fbh : Nat → Int32) (p0 : Int32) (p1 : Int32) (gmonths : gi months 0 24) (gfull : gi full 0 5) (glean : gi lean 0 5) (gp1 : gi p1 0 24) : Met l yX9_beginOf (.code yX9_beginOf cX9_beginOf 8 (some .int) :: wsGA) ({ frames := 3, cells := 0, slots := 0, locals := 66 }) (va_Pc [.ref h0, .int p0, .int p1] (fun U => va_P (dC, dI) vwCl [(h0, .inr (9, [.ref bf, .ref bh, .ref sa, .int months, .int full, .int lean])), (bh, .inl (kbh, 3575, .inl fbh))] U.heap ∧ va_K (dC, dI) vwCl [(kbh, .int)] U ∧ nzA U)) (va_Qi (fun (r : Int32) (u : Unit) => gi r (-2147483648) 2147483647) (fun _ _ => True) (fun _ => False)) 0 0 (fun _ => False) := by
  refine Met.ofW (cc := cX9_beginOf) (maxL := 8) (ret := (some .int)) (by decide) rfl ?_
  intro p e s m args below meth c s₁ B hml hv
  obtain ⟨rfl, hP, hK, hz⟩ := hv
  have hx := B.exec
  have hb := B.bytes
  have hr := B.returns
  have hts := atoms_spec (ws := (.code yX9_beginOf cX9_beginOf 8 (some .int) :: wsGA)) B.pre
  have hown : s.vm.findClass RX9 = some m.cls := findClass_of_methodNamed B.named
  have hlocks := B.notSynchronized
  have hS : va_S (fun _ => False) s.heap s.heap [] := va_S.rf
  have hl := lv_entry ([.ref h0, .int p0, .int p1]) (n := 8) (Nat.le_of_ble_eq_true rfl)
  rw [lg_entry_eq]
  generalize (lg_sl ([.ref h0, .int p0, .int p1]) ++ List.replicate (8 - (lg_sl ([.ref h0, .int p0, .int p1])).length) Slot.unset).toArray = ls at hl ⊢
  have hl : lv_has ls 8 [(0, .ref h0), (1, .int p0), (2, .int p1)] := hl
  refine lv_iload_n hx hb dX9_beginOf_0 rfl (lv_at hl 1 rfl) ?_
  refine lv_istore_n (lv' := [(3, .int p0), (0, .ref h0), (1, .int p0), (2, .int p1)]) hx hb dX9_beginOf_1 rfl hl (by decide) rfl (fun ls hl => ?_)
  refine lv_iconst (v := 0) hx hb dX9_beginOf_2 (by decide) ?_
  refine lv_istore (lv' := [(4, .int 0), (3, .int p0), (0, .ref h0), (1, .int p0), (2, .int p1)]) hx hb dX9_beginOf_3 hl (by decide) rfl (fun ls hl => ?_)
  refine lv_iconst (v := 0) hx hb dX9_beginOf_5 (by decide) ?_
  refine lv_istore (lv' := [(5, .int 0), (4, .int 0), (3, .int p0), (0, .ref h0), (1, .int p0), (2, .int p1)]) hx hb dX9_beginOf_6 hl (by decide) rfl (fun ls hl => ?_)
  refine lv_iconst (v := 0) hx hb dX9_beginOf_8 (by decide) ?_
  refine lv_istore (lv' := [(6, .int 0), (5, .int 0), (4, .int 0), (3, .int p0), (0, .ref h0), (1, .int p0), (2, .int p1)]) hx hb dX9_beginOf_9 hl (by decide) rfl (fun ls hl => ?_)
  refine (lp_sX9_beginOf h0 bh bf sa months full lean kbh fbh p0 p1 gmonths gfull glean gp1 hx hb hml hown hts hK hz (Nat.le_of_ble_eq_true rfl) (Nat.le_of_ble_eq_true rfl) (Nat.zero_le _) (Nat.zero_le _) (fun v H locs ls hP hS hl => ?_) 62) p0 0 0 0 _ _ _ (gi_w (gi_c 0 0 (by decide)) (by decide)) (gi_w (gi_c 0 0 (by decide)) (by decide)) (gi_w (gi_c 0 0 (by decide)) (by decide)) (by have k0 : (0 : Int32).toInt = 0 := (by decide); have k0 : (0 : Int32).toInt = 0 := (by decide); omega) (by have k0 : (0 : Int32).toInt = 0 := (by decide); omega) hP hS (lv_sub hl [4, 5, 6, 3, 2, 1, 0] rfl)
  · skip
    exact W.iret (v := v) hx hb hr (fun t ht hW => ⟨⟨v, (), rfl, (gi_any v), trivial⟩, hS.F ht⟩) hS.2.2 dX9_beginOf_84
theorem dX9_indexOf_0 : decode cX9_indexOf 0 = .ok (.iconst 0, 1) := by decide +kernel
theorem dX9_indexOf_1 : decode cX9_indexOf 1 = .ok (.istore_n 2, 1) := by decide +kernel
theorem dX9_indexOf_2 : decode cX9_indexOf 2 = .ok (.iconst 0, 1) := by decide +kernel
theorem dX9_indexOf_3 : decode cX9_indexOf 3 = .ok (.istore_n 3, 1) := by decide +kernel
theorem dX9_indexOf_4 : decode cX9_indexOf 4 = .ok (.iconst 0, 1) := by decide +kernel
theorem dX9_indexOf_5 : decode cX9_indexOf 5 = .ok (.istore 4, 2) := by decide +kernel
theorem dX9_indexOf_7 : decode cX9_indexOf 7 = .ok (.iconst 0, 1) := by decide +kernel
theorem dX9_indexOf_8 : decode cX9_indexOf 8 = .ok (.istore 5, 2) := by decide +kernel
theorem dX9_indexOf_10 : decode cX9_indexOf 10 = .ok (.iload 5, 2) := by decide +kernel
theorem dX9_indexOf_12 : decode cX9_indexOf 12 = .ok (.aload_n 0, 1) := by decide +kernel
theorem dX9_indexOf_13 : decode cX9_indexOf 13 = .ok (.getfield 27, 3) := by decide +kernel
theorem dX9_indexOf_16 : decode cX9_indexOf 16 = .ok (.if_icmp .ge 82, 3) := by decide +kernel
theorem dX9_indexOf_19 : decode cX9_indexOf 19 = .ok (.iload_n 1, 1) := by decide +kernel
theorem dX9_indexOf_20 : decode cX9_indexOf 20 = .ok (.iload 5, 2) := by decide +kernel
theorem dX9_indexOf_22 : decode cX9_indexOf 22 = .ok (.ishr, 1) := by decide +kernel
theorem dX9_indexOf_23 : decode cX9_indexOf 23 = .ok (.iconst 1, 1) := by decide +kernel
theorem dX9_indexOf_24 : decode cX9_indexOf 24 = .ok (.iand, 1) := by decide +kernel
theorem dX9_indexOf_25 : decode cX9_indexOf 25 = .ok (.ifCond .eq 32, 3) := by decide +kernel
theorem dX9_indexOf_28 : decode cX9_indexOf 28 = .ok (.iload_n 2, 1) := by decide +kernel
theorem dX9_indexOf_29 : decode cX9_indexOf 29 = .ok (.aload_n 0, 1) := by decide +kernel
theorem dX9_indexOf_30 : decode cX9_indexOf 30 = .ok (.iload 5, 2) := by decide +kernel
theorem dX9_indexOf_32 : decode cX9_indexOf 32 = .ok (.iload_n 3, 1) := by decide +kernel
theorem dX9_indexOf_33 : decode cX9_indexOf 33 = .ok (.iload 4, 2) := by decide +kernel
theorem dX9_indexOf_35 : decode cX9_indexOf 35 = .ok (.invokevirtual 89, 3) := by decide +kernel
theorem dX9_indexOf_38 : decode cX9_indexOf 38 = .ok (.iadd, 1) := by decide +kernel
theorem dX9_indexOf_39 : decode cX9_indexOf 39 = .ok (.istore_n 2, 1) := by decide +kernel
theorem dX9_indexOf_40 : decode cX9_indexOf 40 = .ok (.iload 4, 2) := by decide +kernel
theorem dX9_indexOf_42 : decode cX9_indexOf 42 = .ok (.aload_n 0, 1) := by decide +kernel
theorem dX9_indexOf_43 : decode cX9_indexOf 43 = .ok (.getfield 31, 3) := by decide +kernel
theorem dX9_indexOf_46 : decode cX9_indexOf 46 = .ok (.invokestatic 74, 3) := by decide +kernel
theorem dX9_indexOf_49 : decode cX9_indexOf 49 = .ok (.istore 4, 2) := by decide +kernel
theorem dX9_indexOf_51 : decode cX9_indexOf 51 = .ok (.iinc 3 1, 3) := by decide +kernel
theorem dX9_indexOf_54 : decode cX9_indexOf 54 = .ok (.goto 18, 3) := by decide +kernel
theorem dX9_indexOf_57 : decode cX9_indexOf 57 = .ok (.iload 4, 2) := by decide +kernel
theorem dX9_indexOf_59 : decode cX9_indexOf 59 = .ok (.aload_n 0, 1) := by decide +kernel
theorem dX9_indexOf_60 : decode cX9_indexOf 60 = .ok (.getfield 31, 3) := by decide +kernel
theorem dX9_indexOf_63 : decode cX9_indexOf 63 = .ok (.aload_n 0, 1) := by decide +kernel
theorem dX9_indexOf_64 : decode cX9_indexOf 64 = .ok (.getfield 35, 3) := by decide +kernel
theorem dX9_indexOf_67 : decode cX9_indexOf 67 = .ok (.invokestatic 78, 3) := by decide +kernel
theorem dX9_indexOf_70 : decode cX9_indexOf 70 = .ok (.istore 4, 2) := by decide +kernel
theorem dX9_indexOf_72 : decode cX9_indexOf 72 = .ok (.aload_n 0, 1) := by decide +kernel
theorem dX9_indexOf_73 : decode cX9_indexOf 73 = .ok (.getfield 15, 3) := by decide +kernel
theorem dX9_indexOf_76 : decode cX9_indexOf 76 = .ok (.iload 5, 2) := by decide +kernel
theorem dX9_indexOf_78 : decode cX9_indexOf 78 = .ok (.iconst 1, 1) := by decide +kernel
theorem dX9_indexOf_79 : decode cX9_indexOf 79 = .ok (.iadd, 1) := by decide +kernel
theorem dX9_indexOf_80 : decode cX9_indexOf 80 = .ok (.iload_n 3, 1) := by decide +kernel
theorem dX9_indexOf_81 : decode cX9_indexOf 81 = .ok (.iload 4, 2) := by decide +kernel
theorem dX9_indexOf_83 : decode cX9_indexOf 83 = .ok (.invokestatic 63, 3) := by decide +kernel
theorem dX9_indexOf_86 : decode cX9_indexOf 86 = .ok (.iaload, 1) := by decide +kernel
theorem dX9_indexOf_87 : decode cX9_indexOf 87 = .ok (.ifCond .ne 5, 3) := by decide +kernel
theorem dX9_indexOf_90 : decode cX9_indexOf 90 = .ok (.iconst (-1), 1) := by decide +kernel
theorem dX9_indexOf_91 : decode cX9_indexOf 91 = .ok (.ireturn, 1) := by decide +kernel
theorem dX9_indexOf_92 : decode cX9_indexOf 92 = .ok (.iinc 5 1, 3) := by decide +kernel
theorem dX9_indexOf_95 : decode cX9_indexOf 95 = .ok (.goto (-85), 3) := by decide +kernel
theorem dX9_indexOf_98 : decode cX9_indexOf 98 = .ok (.iload_n 2, 1) := by decide +kernel
theorem dX9_indexOf_99 : decode cX9_indexOf 99 = .ok (.ireturn, 1) := by decide +kernel
set_option maxHeartbeats 4000000 in
set_option maxRecDepth 100000 in
theorem lp_sX9_indexOf {p : Program} {l : Launch} {e : Env} {R : Room} {s : State} {m : MethodId} {args : Array Value} {below : List Frame} {meth : Method} {c : Code} {Q : State → Prop} {A : Nat → Prop} {cells slots : Nat} {dC : Nat → ClassId} {dI : Nat → Nat → Nat} (h0 : Nat) (bh : Nat) (bf : Nat) (sa : Nat) (months : Int32) (full : Int32) (lean : Int32) (kbh : ClassId) (fbh : Nat → Int32) (p0 : Int32) (gmonths : gi months 0 24) (gfull : gi full 0 5) (glean : gi lean 0 5) (hx : p.tables.exec = Jvm.exec) (hb : c.code = cX9_indexOf) (hml : c.maxLocals = 6) (hown : s.vm.findClass RX9 = some m.cls) (hts : ∀ w ∈ ((.code yX9_indexOf cX9_indexOf 6 (some .int) :: wsGA) : List Cond), w.before args s = true) (hK : va_K (dC, dI) vwCl [(kbh, .int)] s) (hz : nzA s) (hRf : 3 ≤ R.frames) (hRl : 66 ≤ R.locals) (hRc : cells ≤ R.cells) (hRs : slots ≤ R.slots) (kr99 : ∀ (v : Int32) (H : Heap) (locs : List Loc) (ls : Array Slot), va_P (dC, dI) vwCl [(h0, .inr (9, [.ref bf, .ref bh, .ref sa, .int months, .int full, .int lean])), (bh, .inl (kbh, 3575, .inl fbh))] H → va_S A s.heap H locs → lv_has ls 6 [] → W p l e R s m args below meth c H locs cells slots Q (F0 m 99 ls [.int v])) (kr91 : ∀ (v : Int32) (H : Heap) (locs : List Loc) (ls : Array Slot), gi v (-1) (-1) → va_P (dC, dI) vwCl [(h0, .inr (9, [.ref bf, .ref bh, .ref sa, .int months, .int full, .int lean])), (bh, .inl (kbh, 3575, .inl fbh))] H → va_S A s.heap H locs → lv_has ls 6 [] → W p l e R s m args below meth c H locs cells slots Q (F0 m 91 ls [.int v])) : ∀ z : Nat, (∀ (v2 : Int32) (v3 : Int32) (v4 : Int32) (v5 : Int32) (H : Heap) (locs : List Loc) (ls : Array Slot), gi v3 0 24 → gi v4 0 10 → gi v5 0 24 → v3.toInt ≤ v5.toInt → 49 + (-2) * v5.toInt < (z : Int) → va_P (dC, dI) vwCl [(h0, .inr (9, [.ref bf, .ref bh, .ref sa, .int months, .int full, .int lean])), (bh, .inl (kbh, 3575, .inl fbh))] H → va_S A s.heap H locs → lv_has ls 6 [(0, .ref h0), (1, .int p0), (2, .int v2), (3, .int v3), (4, .int v4), (5, .int v5)] → W p l e R s m args below meth c H locs cells slots Q (F0 m 10 ls [])) := by
  intro z
  induction z with
  | zero =>
    intro v2 v3 v4 v5 H locs ls gv3 gv4 gv5 hle_gv3_gv5 hmu hP hS hl
    exact absurd hmu (by have hv51 := gv5.1; have hv52 := gv5.2; omega)
  | succ z ih =>
      intro v2 v3 v4 v5 H locs ls gv3 gv4 gv5 hle_gv3_gv5 hmu hP hS hl
      refine lv_iload hx hb dX9_indexOf_10 (lv_at hl 5 rfl) ?_
      refine lv_aload_n hx hb dX9_indexOf_12 rfl (lv_at hl 0 rfl) ?_
      refine va_get (D := (dC, dI)) (ci := 9) (v := .int months) (C := RX9) (T := TX9) (N := 6) hx hb hts (fun w h => List.mem_cons_of_mem _ (jnGA_X9 w h)) hown hK hP 0 rfl rfl 3 (by decide) (hts _ (List.mem_cons_of_mem _ mGA_560)) (fun _ h9 => h9) rfl dX9_indexOf_13 ?_
      refine lv_icmp_ge (tgt := 98) hx hb dX9_indexOf_16 (by decide) (fun c_377 => ?_) (fun c_377 => ?_)
      · refine lv_iload_n hx hb dX9_indexOf_98 rfl (lv_at hl 2 rfl) ?_
        exact kr99 v2 _ _ _ hP hS (lv_sub hl [] rfl)
      · have g_378 : gi v5 0 23 := gi_lt_l (Int32.not_le.mp c_377) gv5 gmonths (by decide)
        have g_379 : gi v3 0 23 := gi_rel hle_gv3_gv5 gv3 g_378
        have g_380 : gi months 1 24 := gi_lt_r (Int32.not_le.mp c_377) gv5 gmonths (by decide)
        refine lv_iload_n hx hb dX9_indexOf_19 rfl (lv_at hl 1 rfl) ?_
        refine lv_iload hx hb dX9_indexOf_20 (lv_at hl 5 rfl) ?_
        refine lv_ishr hx hb dX9_indexOf_22 ?_
        refine lv_topi (fun x_381 ex_381 => ?_)
        refine lv_iconst (v := 1) hx hb dX9_indexOf_23 (by decide) ?_
        refine lv_iand hx hb dX9_indexOf_24 ?_
        refine lv_topi (fun x_382 ex_382 => ?_)
        have gx_382 : gi x_382 0 1 := gi_and1 ex_382
        refine lv_if_eq (tgt := 57) hx hb dX9_indexOf_25 (by decide) (fun c_383 => ?_) (fun c_383 => ?_)
        · have g_384 : gi x_382 0 0 := gi_eq c_383 (gi_c 0 0 (by decide))
          refine lv_iload hx hb dX9_indexOf_57 (lv_at hl 4 rfl) ?_
          refine lv_aload_n hx hb dX9_indexOf_59 rfl (lv_at hl 0 rfl) ?_
          refine va_get (D := (dC, dI)) (ci := 9) (v := .int full) (C := RX9) (T := TX9) (N := 6) hx hb hts (fun w h => List.mem_cons_of_mem _ (jnGA_X9 w h)) hown hK hP 0 rfl rfl 4 (by decide) (hts _ (List.mem_cons_of_mem _ mGA_562)) (fun _ h9 => h9) rfl dX9_indexOf_60 ?_
          refine lv_aload_n hx hb dX9_indexOf_63 rfl (lv_at hl 0 rfl) ?_
          refine va_get (D := (dC, dI)) (ci := 9) (v := .int lean) (C := RX9) (T := TX9) (N := 6) hx hb hts (fun w h => List.mem_cons_of_mem _ (jnGA_X9 w h)) hown hK hP 0 rfl rfl 5 (by decide) (hts _ (List.mem_cons_of_mem _ mGA_564)) (fun _ h9 => h9) rfl dX9_indexOf_64 ?_
          have hPc := hP.sub (ws' := []) [] rfl
          have hKc := hK.sub (tys' := []) [] rfl
          refine va_calli (va_runSN (As := [.int v4, .int full, .int lean]) (rest := []) ⟨hx, hb, hml, hown, hts⟩ (sX11_runWithLean l dC dI v4 full lean gv4 gfull glean) (⟨va_cnB 3 hts (gz_gP mGA_510 goodGA) rfl rfl rfl (nzA_X9_78 hz) (hts _ (List.mem_cons_of_mem _ mGA_1)) (by decide +kernel) ⟨Nat.le_trans (Nat.le_of_ble_eq_true rfl) hRf, Nat.le_trans (Nat.le_of_ble_eq_true rfl) hRl⟩, (hts _ (List.mem_cons_of_mem _ mGA_509)), trivial⟩) ⟨bl_I (bl_a bl_P (bl_a bl_K bl_nz)), fun U hU hW => ⟨rfl, by rw [hU]; exact hPc, va_K.moved hW.alike hKc, nzA_warm hW hz⟩⟩ rfl rfl hl.1 rfl (lv_room (Nat.le_of_ble_eq_true rfl)) dX9_indexOf_67 ⟨hRc, hRs⟩) hS (fun q _ h => h.elim) (fun q h => h.elim) (fun r_385 u t H1 locs ht hvm hw hB hz1 hk1 hS => ?_)
          have hP := gz_keep hP hk1
          generalize H1 = H at hP hS ⊢
          have gr_385 : gi r_385 0 10 := hw
          refine lv_istore (lv' := [(4, .int r_385), (0, .ref h0), (1, .int p0), (2, .int v2), (3, .int v3), (5, .int v5)]) hx hb dX9_indexOf_70 hl (by decide) rfl (fun ls hl => ?_)
          refine lv_aload_n hx hb dX9_indexOf_72 rfl (lv_at hl 1 rfl) ?_
          refine va_get (D := (dC, dI)) (ci := 9) (v := .ref bh) (C := RX9) (T := TX9) (N := 6) hx hb hts (fun w h => List.mem_cons_of_mem _ (jnGA_X9 w h)) hown hK hP 0 rfl rfl 1 (by decide) (hts _ (List.mem_cons_of_mem _ mGA_112)) (fun _ h9 => h9) rfl dX9_indexOf_73 ?_
          refine lv_iload hx hb dX9_indexOf_76 (lv_at hl 5 rfl) ?_
          refine lv_iconst (v := 1) hx hb dX9_indexOf_78 (by decide) ?_
          refine lv_iadd hx hb dX9_indexOf_79 ?_
          refine lv_topi (fun x_386 ex_386 => ?_)
          have gx_386 : gi x_386 1 24 := gi_add ex_386 g_378 (gi_c 1 1 (by decide)) (by decide)
          refine lv_iload_n hx hb dX9_indexOf_80 rfl (lv_at hl 4 rfl) ?_
          refine lv_iload hx hb dX9_indexOf_81 (lv_at hl 0 rfl) ?_
          have hPc := hP.sub (ws' := []) [] rfl
          have hKc := hK.sub (tys' := []) [] rfl
          refine va_calli (va_runSN (As := [.int x_386, .int v3, .int r_385]) (rest := [.ref bh]) ⟨hx, hb, hml, hown, hts⟩ (sX11_spot l dC dI x_386 v3 r_385 (gi_w gx_386 (by decide)) (gi_w g_379 (by decide)) gr_385) (⟨va_cnB 3 hts (gz_gP mGA_582 goodGA) rfl rfl rfl (nzA_X9_63 hz) (hts _ (List.mem_cons_of_mem _ mGA_1)) (by decide +kernel) ⟨Nat.le_trans (Nat.le_of_ble_eq_true rfl) hRf, Nat.le_trans (Nat.le_of_ble_eq_true rfl) hRl⟩, (hts _ (List.mem_cons_of_mem _ mGA_581)), trivial⟩) ⟨bl_I (bl_a bl_P (bl_a bl_K bl_nz)), fun U hU hW => ⟨rfl, by rw [hU]; exact hPc, va_K.moved hW.alike hKc, nzA_warm hW hz⟩⟩ rfl rfl hl.1 rfl (lv_room (Nat.le_of_ble_eq_true rfl)) dX9_indexOf_83 ⟨hRc, hRs⟩) hS (fun q _ h => h.elim) (fun q h => h.elim) (fun r_387 u t H1 locs ht hvm hw hB hz1 hk1 hS => ?_)
          have hP := gz_keep hP hk1
          generalize H1 = H at hP hS ⊢
          have gr_387 : gi r_387 0 3574 := hw
          refine va_iald hx hb hK hP 1 0 rfl rfl (gi_in gr_387 (by decide)) dX9_indexOf_86 ?_
          refine lv_topi (fun x_388 ex_388 => ?_)
          refine lv_if_ne (tgt := 92) hx hb dX9_indexOf_87 (by decide) (fun c_389 => ?_) (fun c_389 => ?_)
          · obtain ⟨x_390, ex_390⟩ : ∃ y : Int32, y = v5 + 1 := ⟨_, rfl⟩
            have gx_390 : gi x_390 1 24 := gi_add ex_390 g_378 (gi_c 1 1 (by decide)) (by decide)
            refine lv_iinc (v := x_390) (lv' := [(5, .int x_390), (4, .int r_385), (0, .ref h0), (1, .int p0), (2, .int v2), (3, .int v3)]) hx hb dX9_indexOf_92 hl (k := 5) rfl (by rw [ex_390]; rfl) (by decide) rfl (fun ls hl => ?_)
            refine lv_goto (tgt := 10) hx hb dX9_indexOf_95 (by decide) ?_
            exact ih v2 v3 r_385 x_390 _ _ _ (gi_w g_379 (by decide)) gr_385 (gi_w gx_390 (by decide)) (by have qgx_390 := gx_390.1; have rgx_390 := gx_390.2; have igx_390 : x_390.toInt = v5.toInt + 1 := (by have hc1 : (1 : Int32).toInt = 1 := (by decide); have h9 := gi_addI ex_390 (by have h1 := g_378.1; have h2 := (gi_c 1 1 (by decide)).1; have h3 := g_378.2; have h4 := (gi_c 1 1 (by decide)).2; omega) (by have h1 := g_378.1; have h2 := (gi_c 1 1 (by decide)).1; have h3 := g_378.2; have h4 := (gi_c 1 1 (by decide)).2; omega); rw [hc1] at h9; exact h9); have qgv5 := g_378.1; have rgv5 := g_378.2; have qgv3 := g_379.1; have rgv3 := g_379.2; have y1 := (Int32.lt_iff_toInt_lt.mp (Int32.not_le.mp c_377)); omega) (by have av5 := gv5.1; have bv5 := gv5.2; have qgx_390 := gx_390.1; have rgx_390 := gx_390.2; have igx_390 : x_390.toInt = v5.toInt + 1 := (by have hc1 : (1 : Int32).toInt = 1 := (by decide); have h9 := gi_addI ex_390 (by have h1 := g_378.1; have h2 := (gi_c 1 1 (by decide)).1; have h3 := g_378.2; have h4 := (gi_c 1 1 (by decide)).2; omega) (by have h1 := g_378.1; have h2 := (gi_c 1 1 (by decide)).1; have h3 := g_378.2; have h4 := (gi_c 1 1 (by decide)).2; omega); rw [hc1] at h9; exact h9); have qgv5 := g_378.1; have rgv5 := g_378.2; omega) hP hS (lv_sub hl [2, 3, 4, 5, 1, 0] rfl)
          · have g_391 : gi x_388 0 0 := gi_eq c_389 (gi_c 0 0 (by decide))
            refine lv_iconst (v := (-1)) hx hb dX9_indexOf_90 (by decide) ?_
            exact kr91 (-1) _ _ _ (gi_c (-1) (-1) (by decide)) hP hS (lv_sub hl [] rfl)
        · have g_392 : gi x_382 1 1 := gi_ne_lo c_383 gx_382 (gi_c 0 0 (by decide)) (by decide)
          refine lv_iload_n hx hb dX9_indexOf_28 rfl (lv_at hl 2 rfl) ?_
          refine lv_aload_n hx hb dX9_indexOf_29 rfl (lv_at hl 0 rfl) ?_
          refine lv_iload hx hb dX9_indexOf_30 (lv_at hl 5 rfl) ?_
          refine lv_iload_n hx hb dX9_indexOf_32 rfl (lv_at hl 3 rfl) ?_
          refine lv_iload hx hb dX9_indexOf_33 (lv_at hl 4 rfl) ?_
          have hPc := hP.sub (ws' := [(h0, .inr (9, [.ref bf, .ref bh, .ref sa, .int months, .int full, .int lean])), (bh, .inl (kbh, 3575, .inl fbh))]) [0, 1] rfl
          have hKc := hK.sub (tys' := [(kbh, .int)]) [0] rfl
          refine va_calli (va_runV (As := [.int v5, .int v3, .int v4]) (rest := [.int v2]) ⟨hx, hb, hml, hown, hts⟩ (sX9_withLean l dC dI h0 bh bf sa months full lean kbh fbh v5 v3 v4 (gi_w g_380 (by decide)) gfull glean g_378 (gi_w g_379 (by decide)) gv4) (cwV 3 hts (gz_gV mGA_599 mGA_600 mGA_601 mGA_27 mGA_602 goodGA) rfl rfl rfl (by decide +kernel) ⟨Nat.le_trans (Nat.le_of_ble_eq_true rfl) hRf, Nat.le_trans (Nat.le_of_ble_eq_true rfl) hRl⟩) ⟨bl_I (bl_a bl_P (bl_a bl_K bl_nz)), va_recv hKc hPc (ci := 9) (q0 := 0) rfl rfl, fun U hU hW => ⟨rfl, by rw [hU]; exact hPc, va_K.moved hW.alike hKc, nzA_warm hW hz⟩⟩ rfl rfl hl.1 rfl (lv_room (Nat.le_of_ble_eq_true rfl)) dX9_indexOf_35 ⟨hRc, hRs⟩) hS (fun q _ h => h.elim) (fun q h => h.elim) (fun r_393 u t H1 locs ht hvm hw hB hz1 hk1 hS => ?_)
          have hP := gz_keep hP hk1
          generalize H1 = H at hP hS ⊢
          refine lv_iadd hx hb dX9_indexOf_38 ?_
          refine lv_topi (fun x_394 ex_394 => ?_)
          refine lv_istore_n (lv' := [(2, .int x_394), (0, .ref h0), (1, .int p0), (3, .int v3), (4, .int v4), (5, .int v5)]) hx hb dX9_indexOf_39 rfl hl (by decide) rfl (fun ls hl => ?_)
          refine lv_iload hx hb dX9_indexOf_40 (lv_at hl 4 rfl) ?_
          refine lv_aload_n hx hb dX9_indexOf_42 rfl (lv_at hl 1 rfl) ?_
          refine va_get (D := (dC, dI)) (ci := 9) (v := .int full) (C := RX9) (T := TX9) (N := 6) hx hb hts (fun w h => List.mem_cons_of_mem _ (jnGA_X9 w h)) hown hK hP 0 rfl rfl 4 (by decide) (hts _ (List.mem_cons_of_mem _ mGA_562)) (fun _ h9 => h9) rfl dX9_indexOf_43 ?_
          have hPc := hP.sub (ws' := []) [] rfl
          have hKc := hK.sub (tys' := []) [] rfl
          refine va_calli (va_runSN (As := [.int v4, .int full]) (rest := []) ⟨hx, hb, hml, hown, hts⟩ (sX11_runWithFull l dC dI v4 full gv4 gfull) (⟨va_cnB 2 hts (gz_gP mGA_508 goodGA) rfl rfl rfl (nzA_X9_74 hz) (hts _ (List.mem_cons_of_mem _ mGA_1)) (by decide +kernel) ⟨Nat.le_trans (Nat.le_of_ble_eq_true rfl) hRf, Nat.le_trans (Nat.le_of_ble_eq_true rfl) hRl⟩, (hts _ (List.mem_cons_of_mem _ mGA_507)), trivial⟩) ⟨bl_I (bl_a bl_P (bl_a bl_K bl_nz)), fun U hU hW => ⟨rfl, by rw [hU]; exact hPc, va_K.moved hW.alike hKc, nzA_warm hW hz⟩⟩ rfl rfl hl.1 rfl (lv_room (Nat.le_of_ble_eq_true rfl)) dX9_indexOf_46 ⟨hRc, hRs⟩) hS (fun q _ h => h.elim) (fun q h => h.elim) (fun r_395 u t H1 locs ht hvm hw hB hz1 hk1 hS => ?_)
          have hP := gz_keep hP hk1
          generalize H1 = H at hP hS ⊢
          have gr_395 : gi r_395 0 5 := hw
          refine lv_istore (lv' := [(4, .int r_395), (2, .int x_394), (0, .ref h0), (1, .int p0), (3, .int v3), (5, .int v5)]) hx hb dX9_indexOf_49 hl (by decide) rfl (fun ls hl => ?_)
          obtain ⟨x_396, ex_396⟩ : ∃ y : Int32, y = v3 + 1 := ⟨_, rfl⟩
          have gx_396 : gi x_396 1 24 := gi_add ex_396 g_379 (gi_c 1 1 (by decide)) (by decide)
          refine lv_iinc (v := x_396) (lv' := [(3, .int x_396), (4, .int r_395), (2, .int x_394), (0, .ref h0), (1, .int p0), (5, .int v5)]) hx hb dX9_indexOf_51 hl (k := 4) rfl (by rw [ex_396]; rfl) (by decide) rfl (fun ls hl => ?_)
          refine lv_goto (tgt := 72) hx hb dX9_indexOf_54 (by decide) ?_
          refine lv_aload_n hx hb dX9_indexOf_72 rfl (lv_at hl 3 rfl) ?_
          refine va_get (D := (dC, dI)) (ci := 9) (v := .ref bh) (C := RX9) (T := TX9) (N := 6) hx hb hts (fun w h => List.mem_cons_of_mem _ (jnGA_X9 w h)) hown hK hP 0 rfl rfl 1 (by decide) (hts _ (List.mem_cons_of_mem _ mGA_112)) (fun _ h9 => h9) rfl dX9_indexOf_73 ?_
          refine lv_iload hx hb dX9_indexOf_76 (lv_at hl 5 rfl) ?_
          refine lv_iconst (v := 1) hx hb dX9_indexOf_78 (by decide) ?_
          refine lv_iadd hx hb dX9_indexOf_79 ?_
          refine lv_topi (fun x_397 ex_397 => ?_)
          have gx_397 : gi x_397 1 24 := gi_add ex_397 g_378 (gi_c 1 1 (by decide)) (by decide)
          refine lv_iload_n hx hb dX9_indexOf_80 rfl (lv_at hl 0 rfl) ?_
          refine lv_iload hx hb dX9_indexOf_81 (lv_at hl 1 rfl) ?_
          have hPc := hP.sub (ws' := []) [] rfl
          have hKc := hK.sub (tys' := []) [] rfl
          refine va_calli (va_runSN (As := [.int x_397, .int x_396, .int r_395]) (rest := [.ref bh]) ⟨hx, hb, hml, hown, hts⟩ (sX11_spot l dC dI x_397 x_396 r_395 (gi_w gx_397 (by decide)) (gi_w gx_396 (by decide)) (gi_w gr_395 (by decide))) (⟨va_cnB 3 hts (gz_gP mGA_582 goodGA) rfl rfl rfl (nzA_X9_63 hz) (hts _ (List.mem_cons_of_mem _ mGA_1)) (by decide +kernel) ⟨Nat.le_trans (Nat.le_of_ble_eq_true rfl) hRf, Nat.le_trans (Nat.le_of_ble_eq_true rfl) hRl⟩, (hts _ (List.mem_cons_of_mem _ mGA_581)), trivial⟩) ⟨bl_I (bl_a bl_P (bl_a bl_K bl_nz)), fun U hU hW => ⟨rfl, by rw [hU]; exact hPc, va_K.moved hW.alike hKc, nzA_warm hW hz⟩⟩ rfl rfl hl.1 rfl (lv_room (Nat.le_of_ble_eq_true rfl)) dX9_indexOf_83 ⟨hRc, hRs⟩) hS (fun q _ h => h.elim) (fun q h => h.elim) (fun r_398 u t H1 locs ht hvm hw hB hz1 hk1 hS => ?_)
          have hP := gz_keep hP hk1
          generalize H1 = H at hP hS ⊢
          have gr_398 : gi r_398 0 3574 := hw
          refine va_iald hx hb hK hP 1 0 rfl rfl (gi_in gr_398 (by decide)) dX9_indexOf_86 ?_
          refine lv_topi (fun x_399 ex_399 => ?_)
          refine lv_if_ne (tgt := 92) hx hb dX9_indexOf_87 (by decide) (fun c_400 => ?_) (fun c_400 => ?_)
          · obtain ⟨x_401, ex_401⟩ : ∃ y : Int32, y = v5 + 1 := ⟨_, rfl⟩
            have gx_401 : gi x_401 1 24 := gi_add ex_401 g_378 (gi_c 1 1 (by decide)) (by decide)
            refine lv_iinc (v := x_401) (lv' := [(5, .int x_401), (3, .int x_396), (4, .int r_395), (2, .int x_394), (0, .ref h0), (1, .int p0)]) hx hb dX9_indexOf_92 hl (k := 5) rfl (by rw [ex_401]; rfl) (by decide) rfl (fun ls hl => ?_)
            refine lv_goto (tgt := 10) hx hb dX9_indexOf_95 (by decide) ?_
            exact ih x_394 x_396 r_395 x_401 _ _ _ (gi_w gx_396 (by decide)) (gi_w gr_395 (by decide)) (gi_w gx_401 (by decide)) (by have qgx_401 := gx_401.1; have rgx_401 := gx_401.2; have igx_401 : x_401.toInt = v5.toInt + 1 := (by have hc1 : (1 : Int32).toInt = 1 := (by decide); have h9 := gi_addI ex_401 (by have h1 := g_378.1; have h2 := (gi_c 1 1 (by decide)).1; have h3 := g_378.2; have h4 := (gi_c 1 1 (by decide)).2; omega) (by have h1 := g_378.1; have h2 := (gi_c 1 1 (by decide)).1; have h3 := g_378.2; have h4 := (gi_c 1 1 (by decide)).2; omega); rw [hc1] at h9; exact h9); have qgv5 := g_378.1; have rgv5 := g_378.2; have qgx_396 := gx_396.1; have rgx_396 := gx_396.2; have igx_396 : x_396.toInt = v3.toInt + 1 := (by have hc1 : (1 : Int32).toInt = 1 := (by decide); have h9 := gi_addI ex_396 (by have h1 := g_379.1; have h2 := (gi_c 1 1 (by decide)).1; have h3 := g_379.2; have h4 := (gi_c 1 1 (by decide)).2; omega) (by have h1 := g_379.1; have h2 := (gi_c 1 1 (by decide)).1; have h3 := g_379.2; have h4 := (gi_c 1 1 (by decide)).2; omega); rw [hc1] at h9; exact h9); have qgv3 := g_379.1; have rgv3 := g_379.2; have y1 := (Int32.lt_iff_toInt_lt.mp (Int32.not_le.mp c_377)); omega) (by have av5 := gv5.1; have bv5 := gv5.2; have qgx_401 := gx_401.1; have rgx_401 := gx_401.2; have igx_401 : x_401.toInt = v5.toInt + 1 := (by have hc1 : (1 : Int32).toInt = 1 := (by decide); have h9 := gi_addI ex_401 (by have h1 := g_378.1; have h2 := (gi_c 1 1 (by decide)).1; have h3 := g_378.2; have h4 := (gi_c 1 1 (by decide)).2; omega) (by have h1 := g_378.1; have h2 := (gi_c 1 1 (by decide)).1; have h3 := g_378.2; have h4 := (gi_c 1 1 (by decide)).2; omega); rw [hc1] at h9; exact h9); have qgv5 := g_378.1; have rgv5 := g_378.2; omega) hP hS (lv_sub hl [4, 5, 3, 1, 2, 0] rfl)
          · have g_402 : gi x_399 0 0 := gi_eq c_400 (gi_c 0 0 (by decide))
            refine lv_iconst (v := (-1)) hx hb dX9_indexOf_90 (by decide) ?_
            exact kr91 (-1) _ _ _ (gi_c (-1) (-1) (by decide)) hP hS (lv_sub hl [] rfl)
set_option maxHeartbeats 4000000 in
set_option maxRecDepth 100000 in
theorem sX9_indexOf (l : Launch) (dC : Nat → ClassId) (dI : Nat → Nat → Nat) (h0 : Nat) (bh : Nat) (bf : Nat) (sa : Nat) (months : Int32) (full : Int32) (lean : Int32) (kbh : ClassId) (fbh : Nat → Int32) (p0 : Int32) (gmonths : gi months 0 24) (gfull : gi full 0 5) (glean : gi lean 0 5) : Met l yX9_indexOf (.code yX9_indexOf cX9_indexOf 6 (some .int) :: wsGA) ({ frames := 3, cells := 0, slots := 0, locals := 66 }) (va_Pc [.ref h0, .int p0] (fun U => va_P (dC, dI) vwCl [(h0, .inr (9, [.ref bf, .ref bh, .ref sa, .int months, .int full, .int lean])), (bh, .inl (kbh, 3575, .inl fbh))] U.heap ∧ va_K (dC, dI) vwCl [(kbh, .int)] U ∧ nzA U)) (va_Qi (fun (r : Int32) (u : Unit) => gi r (-2147483648) 2147483647) (fun _ _ => True) (fun _ => False)) 0 0 (fun _ => False) := by
  refine Met.ofW (cc := cX9_indexOf) (maxL := 6) (ret := (some .int)) (by decide) rfl ?_
  intro p e s m args below meth c s₁ B hml hv
  obtain ⟨rfl, hP, hK, hz⟩ := hv
  have hx := B.exec
  have hb := B.bytes
  have hr := B.returns
  have hts := atoms_spec (ws := (.code yX9_indexOf cX9_indexOf 6 (some .int) :: wsGA)) B.pre
  have hown : s.vm.findClass RX9 = some m.cls := findClass_of_methodNamed B.named
  have hlocks := B.notSynchronized
  have hS : va_S (fun _ => False) s.heap s.heap [] := va_S.rf
  have hl := lv_entry ([.ref h0, .int p0]) (n := 6) (Nat.le_of_ble_eq_true rfl)
  rw [lg_entry_eq]
  generalize (lg_sl ([.ref h0, .int p0]) ++ List.replicate (6 - (lg_sl ([.ref h0, .int p0])).length) Slot.unset).toArray = ls at hl ⊢
  have hl : lv_has ls 6 [(0, .ref h0), (1, .int p0)] := hl
  refine lv_iconst (v := 0) hx hb dX9_indexOf_0 (by decide) ?_
  refine lv_istore_n (lv' := [(2, .int 0), (0, .ref h0), (1, .int p0)]) hx hb dX9_indexOf_1 rfl hl (by decide) rfl (fun ls hl => ?_)
  refine lv_iconst (v := 0) hx hb dX9_indexOf_2 (by decide) ?_
  refine lv_istore_n (lv' := [(3, .int 0), (2, .int 0), (0, .ref h0), (1, .int p0)]) hx hb dX9_indexOf_3 rfl hl (by decide) rfl (fun ls hl => ?_)
  refine lv_iconst (v := 0) hx hb dX9_indexOf_4 (by decide) ?_
  refine lv_istore (lv' := [(4, .int 0), (3, .int 0), (2, .int 0), (0, .ref h0), (1, .int p0)]) hx hb dX9_indexOf_5 hl (by decide) rfl (fun ls hl => ?_)
  refine lv_iconst (v := 0) hx hb dX9_indexOf_7 (by decide) ?_
  refine lv_istore (lv' := [(5, .int 0), (4, .int 0), (3, .int 0), (2, .int 0), (0, .ref h0), (1, .int p0)]) hx hb dX9_indexOf_8 hl (by decide) rfl (fun ls hl => ?_)
  refine (lp_sX9_indexOf h0 bh bf sa months full lean kbh fbh p0 gmonths gfull glean hx hb hml hown hts hK hz (Nat.le_of_ble_eq_true rfl) (Nat.le_of_ble_eq_true rfl) (Nat.zero_le _) (Nat.zero_le _) (fun v H locs ls hP hS hl => ?_) (fun v H locs ls gv hP hS hl => ?_) 62) 0 0 0 0 _ _ _ (gi_w (gi_c 0 0 (by decide)) (by decide)) (gi_w (gi_c 0 0 (by decide)) (by decide)) (gi_w (gi_c 0 0 (by decide)) (by decide)) (by have k0 : (0 : Int32).toInt = 0 := (by decide); have k0 : (0 : Int32).toInt = 0 := (by decide); omega) (by have k0 : (0 : Int32).toInt = 0 := (by decide); omega) hP hS (lv_sub hl [4, 5, 3, 2, 1, 0] rfl)
  · skip
    exact W.iret (v := v) hx hb hr (fun t ht hW => ⟨⟨v, (), rfl, (gi_any v), trivial⟩, hS.F ht⟩) hS.2.2 dX9_indexOf_99
  · skip
    exact W.iret (v := v) hx hb hr (fun t ht hW => ⟨⟨v, (), rfl, (gi_any v), trivial⟩, hS.F ht⟩) hS.2.2 dX9_indexOf_91
theorem dX9_countBefore_0 : decode cX9_countBefore 0 = .ok (.aload_n 0, 1) := by decide +kernel
theorem dX9_countBefore_1 : decode cX9_countBefore 1 = .ok (.getfield 9, 3) := by decide +kernel
theorem dX9_countBefore_4 : decode cX9_countBefore 4 = .ok (.iconst 0, 1) := by decide +kernel
theorem dX9_countBefore_5 : decode cX9_countBefore 5 = .ok (.iconst 1, 1) := by decide +kernel
theorem dX9_countBefore_6 : decode cX9_countBefore 6 = .ok (.iastore, 1) := by decide +kernel
theorem dX9_countBefore_7 : decode cX9_countBefore 7 = .ok (.iconst 0, 1) := by decide +kernel
theorem dX9_countBefore_8 : decode cX9_countBefore 8 = .ok (.istore_n 2, 1) := by decide +kernel
theorem dX9_countBefore_9 : decode cX9_countBefore 9 = .ok (.iload_n 2, 1) := by decide +kernel
theorem dX9_countBefore_10 : decode cX9_countBefore 10 = .ok (.aload_n 0, 1) := by decide +kernel
theorem dX9_countBefore_11 : decode cX9_countBefore 11 = .ok (.getfield 27, 3) := by decide +kernel
theorem dX9_countBefore_14 : decode cX9_countBefore 14 = .ok (.if_icmp .ge 58, 3) := by decide +kernel
theorem dX9_countBefore_17 : decode cX9_countBefore 17 = .ok (.iconst 0, 1) := by decide +kernel
theorem dX9_countBefore_18 : decode cX9_countBefore 18 = .ok (.istore_n 3, 1) := by decide +kernel
theorem dX9_countBefore_19 : decode cX9_countBefore 19 = .ok (.iload_n 3, 1) := by decide +kernel
theorem dX9_countBefore_20 : decode cX9_countBefore 20 = .ok (.iload_n 2, 1) := by decide +kernel
theorem dX9_countBefore_21 : decode cX9_countBefore 21 = .ok (.if_icmp .gt 45, 3) := by decide +kernel
theorem dX9_countBefore_24 : decode cX9_countBefore 24 = .ok (.aload_n 1, 1) := by decide +kernel
theorem dX9_countBefore_25 : decode cX9_countBefore 25 = .ok (.iload_n 2, 1) := by decide +kernel
theorem dX9_countBefore_26 : decode cX9_countBefore 26 = .ok (.iconst 1, 1) := by decide +kernel
theorem dX9_countBefore_27 : decode cX9_countBefore 27 = .ok (.iadd, 1) := by decide +kernel
theorem dX9_countBefore_28 : decode cX9_countBefore 28 = .ok (.iload_n 3, 1) := by decide +kernel
theorem dX9_countBefore_29 : decode cX9_countBefore 29 = .ok (.iconst 1, 1) := by decide +kernel
theorem dX9_countBefore_30 : decode cX9_countBefore 30 = .ok (.iadd, 1) := by decide +kernel
theorem dX9_countBefore_31 : decode cX9_countBefore 31 = .ok (.invokevirtual 52, 3) := by decide +kernel
theorem dX9_countBefore_34 : decode cX9_countBefore 34 = .ok (.ifCond .eq 9, 3) := by decide +kernel
theorem dX9_countBefore_37 : decode cX9_countBefore 37 = .ok (.aload_n 0, 1) := by decide +kernel
theorem dX9_countBefore_38 : decode cX9_countBefore 38 = .ok (.iload_n 2, 1) := by decide +kernel
theorem dX9_countBefore_39 : decode cX9_countBefore 39 = .ok (.iload_n 3, 1) := by decide +kernel
theorem dX9_countBefore_40 : decode cX9_countBefore 40 = .ok (.invokevirtual 56, 3) := by decide +kernel
theorem dX9_countBefore_43 : decode cX9_countBefore 43 = .ok (.aload_n 1, 1) := by decide +kernel
theorem dX9_countBefore_44 : decode cX9_countBefore 44 = .ok (.iload_n 2, 1) := by decide +kernel
theorem dX9_countBefore_45 : decode cX9_countBefore 45 = .ok (.iconst 1, 1) := by decide +kernel
theorem dX9_countBefore_46 : decode cX9_countBefore 46 = .ok (.iadd, 1) := by decide +kernel
theorem dX9_countBefore_47 : decode cX9_countBefore 47 = .ok (.iload_n 3, 1) := by decide +kernel
theorem dX9_countBefore_48 : decode cX9_countBefore 48 = .ok (.invokevirtual 52, 3) := by decide +kernel
theorem dX9_countBefore_51 : decode cX9_countBefore 51 = .ok (.ifCond .eq 9, 3) := by decide +kernel
theorem dX9_countBefore_54 : decode cX9_countBefore 54 = .ok (.aload_n 0, 1) := by decide +kernel
theorem dX9_countBefore_55 : decode cX9_countBefore 55 = .ok (.iload_n 2, 1) := by decide +kernel
theorem dX9_countBefore_56 : decode cX9_countBefore 56 = .ok (.iload_n 3, 1) := by decide +kernel
theorem dX9_countBefore_57 : decode cX9_countBefore 57 = .ok (.invokevirtual 60, 3) := by decide +kernel
theorem dX9_countBefore_60 : decode cX9_countBefore 60 = .ok (.iinc 3 1, 3) := by decide +kernel
theorem dX9_countBefore_63 : decode cX9_countBefore 63 = .ok (.goto (-44), 3) := by decide +kernel
theorem dX9_countBefore_66 : decode cX9_countBefore 66 = .ok (.iinc 2 1, 3) := by decide +kernel
theorem dX9_countBefore_69 : decode cX9_countBefore 69 = .ok (.goto (-60), 3) := by decide +kernel
theorem dX9_countBefore_72 : decode cX9_countBefore 72 = .ok (.return_, 1) := by decide +kernel
set_option maxHeartbeats 4000000 in
set_option maxRecDepth 100000 in
theorem lp_sX9_countBefore {p : Program} {l : Launch} {e : Env} {R : Room} {s : State} {m : MethodId} {args : Array Value} {below : List Frame} {meth : Method} {c : Code} {Q : State → Prop} {A : Nat → Prop} {cells slots : Nat} {dC : Nat → ClassId} {dI : Nat → Nat → Nat} (h0 : Nat) (bf : Nat) (fr : Nat) (fral : Nat) (bh : Nat) (sa : Nat) (months : Int32) (full : Int32) (lean : Int32) (kbf : ClassId) (fbf : Nat → Int32) (frmonths : Int32) (frfull : Int32) (frlean : Int32) (fron : Nat) (kfral : ClassId) (ffral : Nat → Int32) (gmonths : gi months 0 24) (gfull : gi full 0 5) (glean : gi lean 0 5) (gfrmonths : gi frmonths 0 24) (gfrfull : gi frfull 0 5) (gfrlean : gi frlean 0 5) (hx : p.tables.exec = Jvm.exec) (hb : c.code = cX9_countBefore) (hml : c.maxLocals = 4) (hown : s.vm.findClass RX9 = some m.cls) (hts : ∀ w ∈ ((.code yX9_countBefore cX9_countBefore 4 none :: wsGA) : List Cond), w.before args s = true) (hK : va_K (dC, dI) vwCl [(kbf, .int), (kfral, .int)] s) (hz : nzA s) (hA : ∀ q : Nat, s.heap.size ≤ q → A q) (hRf : 3 ≤ R.frames) (hRl : 69 ≤ R.locals) (hRc : cells ≤ R.cells) (hRs : slots ≤ R.slots) (kr72 : ∀ (z1 : Nat → Int32) (H : Heap) (locs : List Loc) (ls : Array Slot), va_P (dC, dI) vwCl [(h0, .inr (9, [.ref bf, .ref bh, .ref sa, .int months, .int full, .int lean])), (bf, .inl (kbf, 3575, .inl z1)), (fr, .inr (3, [.int frmonths, .int frfull, .int frlean, .ref fral, .ref fron])), (fral, .inl (kfral, 25, .inl ffral))] H → va_D A [(h0, .inr (9, [.ref bf, .ref bh, .ref sa, .int months, .int full, .int lean])), (bf, .inl (kbf, 3575, .inl z1)), (fr, .inr (3, [.int frmonths, .int frfull, .int frlean, .ref fral, .ref fron])), (fral, .inl (kfral, 25, .inl ffral))] → va_S A s.heap H locs → lv_has ls 4 [] → W p l e R s m args below meth c H locs cells slots Q (F0 m 72 ls [])) : ∀ z : Nat, (∀ (v2 : Int32) (z1 : Nat → Int32) (H : Heap) (locs : List Loc) (ls : Array Slot), gi v2 0 24 → 1297 + (-54) * v2.toInt < (z : Int) → va_P (dC, dI) vwCl [(h0, .inr (9, [.ref bf, .ref bh, .ref sa, .int months, .int full, .int lean])), (bf, .inl (kbf, 3575, .inl z1)), (fr, .inr (3, [.int frmonths, .int frfull, .int frlean, .ref fral, .ref fron])), (fral, .inl (kfral, 25, .inl ffral))] H → va_D A [(h0, .inr (9, [.ref bf, .ref bh, .ref sa, .int months, .int full, .int lean])), (bf, .inl (kbf, 3575, .inl z1)), (fr, .inr (3, [.int frmonths, .int frfull, .int frlean, .ref fral, .ref fron])), (fral, .inl (kfral, 25, .inl ffral))] → va_S A s.heap H locs → lv_has ls 4 [(0, .ref h0), (1, .ref fr), (2, .int v2)] → W p l e R s m args below meth c H locs cells slots Q (F0 m 9 ls [])) ∧ (∀ (v2 : Int32) (v3 : Int32) (z1 : Nat → Int32) (H : Heap) (locs : List Loc) (ls : Array Slot), gi v2 0 23 → gi v3 0 24 → 1292 + (-54) * v2.toInt + (-2) * v3.toInt < (z : Int) → va_P (dC, dI) vwCl [(h0, .inr (9, [.ref bf, .ref bh, .ref sa, .int months, .int full, .int lean])), (bf, .inl (kbf, 3575, .inl z1)), (fr, .inr (3, [.int frmonths, .int frfull, .int frlean, .ref fral, .ref fron])), (fral, .inl (kfral, 25, .inl ffral))] H → va_D A [(h0, .inr (9, [.ref bf, .ref bh, .ref sa, .int months, .int full, .int lean])), (bf, .inl (kbf, 3575, .inl z1)), (fr, .inr (3, [.int frmonths, .int frfull, .int frlean, .ref fral, .ref fron])), (fral, .inl (kfral, 25, .inl ffral))] → va_S A s.heap H locs → lv_has ls 4 [(0, .ref h0), (1, .ref fr), (2, .int v2), (3, .int v3)] → W p l e R s m args below meth c H locs cells slots Q (F0 m 19 ls [])) := by
  intro z
  induction z with
  | zero =>
    refine ⟨?_, ?_⟩
    · intro v2 z1 H locs ls gv2 hmu hP hD hS hl
      exact absurd hmu (by have hv21 := gv2.1; have hv22 := gv2.2; omega)
    · intro v2 v3 z1 H locs ls gv2 gv3 hmu hP hD hS hl
      exact absurd hmu (by have hv21 := gv2.1; have hv22 := gv2.2; have hv31 := gv3.1; have hv32 := gv3.2; omega)
  | succ z ih =>
    refine ⟨?_, ?_⟩
    · intro v2 z1 H locs ls gv2 hmu hP hD hS hl
      refine lv_iload_n hx hb dX9_countBefore_9 rfl (lv_at hl 2 rfl) ?_
      refine lv_aload_n hx hb dX9_countBefore_10 rfl (lv_at hl 0 rfl) ?_
      refine va_get (D := (dC, dI)) (ci := 9) (v := .int months) (C := RX9) (T := TX9) (N := 6) hx hb hts (fun w h => List.mem_cons_of_mem _ (jnGA_X9 w h)) hown hK hP 0 rfl rfl 3 (by decide) (hts _ (List.mem_cons_of_mem _ mGA_560)) (fun _ h9 => h9) rfl dX9_countBefore_11 ?_
      refine lv_icmp_ge (tgt := 72) hx hb dX9_countBefore_14 (by decide) (fun c_984 => ?_) (fun c_984 => ?_)
      · exact kr72 z1 _ _ _ hP hD hS (lv_sub hl [] rfl)
      · have g_985 : gi v2 0 23 := gi_lt_l (Int32.not_le.mp c_984) gv2 gmonths (by decide)
        have g_986 : gi months 1 24 := gi_lt_r (Int32.not_le.mp c_984) gv2 gmonths (by decide)
        refine lv_iconst (v := 0) hx hb dX9_countBefore_17 (by decide) ?_
        refine lv_istore_n (lv' := [(3, .int 0), (0, .ref h0), (1, .ref fr), (2, .int v2)]) hx hb dX9_countBefore_18 rfl hl (by decide) rfl (fun ls hl => ?_)
        exact ih.2 v2 0 z1 _ _ _ g_985 (gi_w (gi_c 0 0 (by decide)) (by decide)) (by have k0 : (0 : Int32).toInt = 0 := (by decide); have av2 := gv2.1; have bv2 := gv2.2; have qgv2 := g_985.1; have rgv2 := g_985.2; omega) hP hD hS (lv_sub hl [1, 2, 3, 0] rfl)
    · intro v2 v3 z1 H locs ls gv2 gv3 hmu hP hD hS hl
      refine lv_iload_n hx hb dX9_countBefore_19 rfl (lv_at hl 3 rfl) ?_
      refine lv_iload_n hx hb dX9_countBefore_20 rfl (lv_at hl 2 rfl) ?_
      refine lv_icmp_gt (tgt := 66) hx hb dX9_countBefore_21 (by decide) (fun c_987 => ?_) (fun c_987 => ?_)
      · have g_988 : gi v3 1 24 := gi_lt_r c_987 gv2 gv3 (by decide)
        obtain ⟨x_989, ex_989⟩ : ∃ y : Int32, y = v2 + 1 := ⟨_, rfl⟩
        have gx_989 : gi x_989 1 24 := gi_add ex_989 gv2 (gi_c 1 1 (by decide)) (by decide)
        refine lv_iinc (v := x_989) (lv' := [(2, .int x_989), (0, .ref h0), (1, .ref fr), (3, .int v3)]) hx hb dX9_countBefore_66 hl (k := 2) rfl (by rw [ex_989]; rfl) (by decide) rfl (fun ls hl => ?_)
        refine lv_goto (tgt := 9) hx hb dX9_countBefore_69 (by decide) ?_
        exact ih.1 x_989 z1 _ _ _ (gi_w gx_989 (by decide)) (by have av2 := gv2.1; have bv2 := gv2.2; have av3 := gv3.1; have bv3 := gv3.2; have qgx_989 := gx_989.1; have rgx_989 := gx_989.2; have igx_989 : x_989.toInt = v2.toInt + 1 := (by have hc1 : (1 : Int32).toInt = 1 := (by decide); have h9 := gi_addI ex_989 (by have h1 := gv2.1; have h2 := (gi_c 1 1 (by decide)).1; have h3 := gv2.2; have h4 := (gi_c 1 1 (by decide)).2; omega) (by have h1 := gv2.1; have h2 := (gi_c 1 1 (by decide)).1; have h3 := gv2.2; have h4 := (gi_c 1 1 (by decide)).2; omega); rw [hc1] at h9; exact h9); have qgv2 := gv2.1; have rgv2 := gv2.2; omega) hP hD hS (lv_sub hl [1, 2, 0] rfl)
      · have g_990 : gi v3 0 23 := gi_le_l (Int32.not_lt.mp c_987) gv3 gv2
        refine lv_aload_n hx hb dX9_countBefore_24 rfl (lv_at hl 1 rfl) ?_
        refine lv_iload_n hx hb dX9_countBefore_25 rfl (lv_at hl 2 rfl) ?_
        refine lv_iconst (v := 1) hx hb dX9_countBefore_26 (by decide) ?_
        refine lv_iadd hx hb dX9_countBefore_27 ?_
        refine lv_topi (fun x_991 ex_991 => ?_)
        have gx_991 : gi x_991 1 24 := gi_add ex_991 gv2 (gi_c 1 1 (by decide)) (by decide)
        refine lv_iload_n hx hb dX9_countBefore_28 rfl (lv_at hl 3 rfl) ?_
        refine lv_iconst (v := 1) hx hb dX9_countBefore_29 (by decide) ?_
        refine lv_iadd hx hb dX9_countBefore_30 ?_
        refine lv_topi (fun x_992 ex_992 => ?_)
        have gx_992 : gi x_992 1 24 := gi_add ex_992 g_990 (gi_c 1 1 (by decide)) (by decide)
        have hPc := hP.sub (ws' := [(fr, .inr (3, [.int frmonths, .int frfull, .int frlean, .ref fral, .ref fron])), (fral, .inl (kfral, 25, .inl ffral))]) [2, 3] rfl
        have hKc := hK.sub (tys' := [(kfral, .int)]) [1] rfl
        refine va_calli (va_runV (As := [.int x_991, .int x_992]) (rest := []) ⟨hx, hb, hml, hown, hts⟩ (sX3_allows l dC dI fr fral frmonths frfull frlean fron kfral ffral x_991 x_992 gfrmonths gfrfull gfrlean (gi_w gx_991 (by decide))) (cwV 2 hts (gz_gV mGA_573 mGA_574 mGA_575 mGA_18 mGA_576 goodGA) rfl rfl rfl (by decide +kernel) ⟨Nat.le_trans (Nat.le_of_ble_eq_true rfl) hRf, Nat.le_trans (Nat.le_of_ble_eq_true rfl) hRl⟩) ⟨bl_I (bl_a bl_P (bl_a bl_K bl_nz)), va_recv hKc hPc (ci := 3) (q0 := 0) rfl rfl, fun U hU hW => ⟨rfl, by rw [hU]; exact hPc, va_K.moved hW.alike hKc, nzA_warm hW hz⟩⟩ rfl rfl hl.1 rfl (lv_room (Nat.le_of_ble_eq_true rfl)) dX9_countBefore_31 ⟨hRc, hRs⟩) hS (fun q _ h => h.elim) (fun q h => h.elim) (fun r_993 u t H1 locs ht hvm hw hB hz1 hk1 hS => ?_)
        have hP := gz_keep hP hk1
        generalize H1 = H at hP hS ⊢
        have gr_993 : gi r_993 0 1 := hw
        refine lv_if_eq (tgt := 43) hx hb dX9_countBefore_34 (by decide) (fun c_994 => ?_) (fun c_994 => ?_)
        · have g_995 : gi r_993 0 0 := gi_eq c_994 (gi_c 0 0 (by decide))
          refine lv_aload_n hx hb dX9_countBefore_43 rfl (lv_at hl 1 rfl) ?_
          refine lv_iload_n hx hb dX9_countBefore_44 rfl (lv_at hl 2 rfl) ?_
          refine lv_iconst (v := 1) hx hb dX9_countBefore_45 (by decide) ?_
          refine lv_iadd hx hb dX9_countBefore_46 ?_
          refine lv_topi (fun x_996 ex_996 => ?_)
          have gx_996 : gi x_996 1 24 := gi_add ex_996 gv2 (gi_c 1 1 (by decide)) (by decide)
          refine lv_iload_n hx hb dX9_countBefore_47 rfl (lv_at hl 3 rfl) ?_
          have hPc := hP.sub (ws' := [(fr, .inr (3, [.int frmonths, .int frfull, .int frlean, .ref fral, .ref fron])), (fral, .inl (kfral, 25, .inl ffral))]) [2, 3] rfl
          have hKc := hK.sub (tys' := [(kfral, .int)]) [1] rfl
          refine va_calli (va_runV (As := [.int x_996, .int v3]) (rest := []) ⟨hx, hb, hml, hown, hts⟩ (sX3_allows l dC dI fr fral frmonths frfull frlean fron kfral ffral x_996 v3 gfrmonths gfrfull gfrlean (gi_w gx_996 (by decide))) (cwV 2 hts (gz_gV mGA_573 mGA_574 mGA_575 mGA_18 mGA_576 goodGA) rfl rfl rfl (by decide +kernel) ⟨Nat.le_trans (Nat.le_of_ble_eq_true rfl) hRf, Nat.le_trans (Nat.le_of_ble_eq_true rfl) hRl⟩) ⟨bl_I (bl_a bl_P (bl_a bl_K bl_nz)), va_recv hKc hPc (ci := 3) (q0 := 0) rfl rfl, fun U hU hW => ⟨rfl, by rw [hU]; exact hPc, va_K.moved hW.alike hKc, nzA_warm hW hz⟩⟩ rfl rfl hl.1 rfl (lv_room (Nat.le_of_ble_eq_true rfl)) dX9_countBefore_48 ⟨hRc, hRs⟩) hS (fun q _ h => h.elim) (fun q h => h.elim) (fun r_997 u t H1 locs ht hvm hw hB hz1 hk1 hS => ?_)
          have hP := gz_keep hP hk1
          generalize H1 = H at hP hS ⊢
          have gr_997 : gi r_997 0 1 := hw
          refine lv_if_eq (tgt := 60) hx hb dX9_countBefore_51 (by decide) (fun c_998 => ?_) (fun c_998 => ?_)
          · have g_999 : gi r_997 0 0 := gi_eq c_998 (gi_c 0 0 (by decide))
            obtain ⟨x_1000, ex_1000⟩ : ∃ y : Int32, y = v3 + 1 := ⟨_, rfl⟩
            have gx_1000 : gi x_1000 1 24 := gi_add ex_1000 g_990 (gi_c 1 1 (by decide)) (by decide)
            refine lv_iinc (v := x_1000) (lv' := [(3, .int x_1000), (0, .ref h0), (1, .ref fr), (2, .int v2)]) hx hb dX9_countBefore_60 hl (k := 3) rfl (by rw [ex_1000]; rfl) (by decide) rfl (fun ls hl => ?_)
            refine lv_goto (tgt := 19) hx hb dX9_countBefore_63 (by decide) ?_
            exact ih.2 v2 x_1000 z1 _ _ _ gv2 (gi_w gx_1000 (by decide)) (by have av2 := gv2.1; have bv2 := gv2.2; have av3 := gv3.1; have bv3 := gv3.2; have qgx_1000 := gx_1000.1; have rgx_1000 := gx_1000.2; have igx_1000 : x_1000.toInt = v3.toInt + 1 := (by have hc1 : (1 : Int32).toInt = 1 := (by decide); have h9 := gi_addI ex_1000 (by have h1 := g_990.1; have h2 := (gi_c 1 1 (by decide)).1; have h3 := g_990.2; have h4 := (gi_c 1 1 (by decide)).2; omega) (by have h1 := g_990.1; have h2 := (gi_c 1 1 (by decide)).1; have h3 := g_990.2; have h4 := (gi_c 1 1 (by decide)).2; omega); rw [hc1] at h9; exact h9); have qgv3 := g_990.1; have rgv3 := g_990.2; have qgv2 := gv2.1; have rgv2 := gv2.2; omega) hP hD hS (lv_sub hl [1, 2, 3, 0] rfl)
          · have g_1001 : gi r_997 1 1 := gi_ne_lo c_998 gr_997 (gi_c 0 0 (by decide)) (by decide)
            refine lv_aload_n hx hb dX9_countBefore_54 rfl (lv_at hl 0 rfl) ?_
            refine lv_iload_n hx hb dX9_countBefore_55 rfl (lv_at hl 2 rfl) ?_
            refine lv_iload_n hx hb dX9_countBefore_56 rfl (lv_at hl 3 rfl) ?_
            have hPc := hP.sub (ws' := [(h0, .inr (9, [.ref bf, .ref bh, .ref sa, .int months, .int full, .int lean])), (bf, .inl (kbf, 3575, .inl z1))]) [0, 1] rfl
            have hKc := hK.sub (tys' := [(kbf, .int)]) [0] rfl
            have hDc := hD.sub (ws' := [(h0, .inr (9, [.ref bf, .ref bh, .ref sa, .int months, .int full, .int lean])), (bf, .inl (kbf, 3575, .inl z1))]) [0, 1] (by decide) rfl
            have hFc := va_free (wc := [(h0, .inr (9, [.ref bf, .ref bh, .ref sa, .int months, .int full, .int lean])), (bf, .inl (kbf, 3575, .inl z1))]) hD hS hA [0, 1] rfl
            refine va_callv (va_runV (As := [.int v2, .int v3]) (rest := []) ⟨hx, hb, hml, hown, hts⟩ (sX9_takeOnWithLean l dC dI H.size h0 bf bh sa months full lean kbf z1 v2 v3 gmonths gfull glean gv2 g_990) (cwV 2 hts (gz_gV mGA_586 mGA_587 mGA_588 mGA_27 mGA_589 goodGA) rfl rfl rfl (by decide +kernel) ⟨Nat.le_trans (Nat.le_of_ble_eq_true rfl) hRf, Nat.le_trans (Nat.le_of_ble_eq_true rfl) hRl⟩) ⟨bl_I (bl_a bl_sz (bl_a bl_P (bl_a bl_K (bl_a bl_c bl_nz)))), va_recv hKc hPc (ci := 9) (q0 := 0) rfl rfl, fun U hU hW => ⟨rfl, by rw [hU], by rw [hU]; exact hPc, va_K.moved hW.alike hKc, hDc.weaken (fun _ _ _ _ => trivial), nzA_warm hW hz⟩⟩ rfl rfl hl.1 rfl (lv_room (Nat.le_of_ble_eq_true rfl)) dX9_countBefore_57 ⟨hRc, hRs⟩) hS (fun q _ h => hFc q h) hFc (fun u t H1 locs ht hvm hw hB hz1 hk1 hS => ?_)
            obtain ⟨f_1003, hB⟩ := hB
            obtain ⟨hP1, hD1⟩ := hB
            rw [ht] at hP1
            obtain ⟨hP, hD⟩ := va_join (wr := [(fr, .inr (3, [.int frmonths, .int frfull, .int frlean, .ref fral, .ref fron])), (fral, .inl (kfral, 25, .inl ffral))]) (w1 := [(h0, .inr (9, [.ref bf, .ref bh, .ref sa, .int months, .int full, .int lean])), (bf, .inl (kbf, 3575, .inl f_1003))]) hP hD [0, 1] [2, 3] rfl rfl (by decide) (by decide) hk1 hFc hP1 hD1
            have hP := hP.sub (ws' := [(h0, .inr (9, [.ref bf, .ref bh, .ref sa, .int months, .int full, .int lean])), (bf, .inl (kbf, 3575, .inl f_1003)), (fr, .inr (3, [.int frmonths, .int frfull, .int frlean, .ref fral, .ref fron])), (fral, .inl (kfral, 25, .inl ffral))]) [2, 3, 0, 1] rfl
            have hD := hD.sub (ws' := [(h0, .inr (9, [.ref bf, .ref bh, .ref sa, .int months, .int full, .int lean])), (bf, .inl (kbf, 3575, .inl f_1003)), (fr, .inr (3, [.int frmonths, .int frfull, .int frlean, .ref fral, .ref fron])), (fral, .inl (kfral, 25, .inl ffral))]) [2, 3, 0, 1] (by decide) rfl
            generalize H1 = H at hP hS ⊢
            obtain ⟨x_1004, ex_1004⟩ : ∃ y : Int32, y = v3 + 1 := ⟨_, rfl⟩
            have gx_1004 : gi x_1004 1 24 := gi_add ex_1004 g_990 (gi_c 1 1 (by decide)) (by decide)
            refine lv_iinc (v := x_1004) (lv' := [(3, .int x_1004), (0, .ref h0), (1, .ref fr), (2, .int v2)]) hx hb dX9_countBefore_60 hl (k := 3) rfl (by rw [ex_1004]; rfl) (by decide) rfl (fun ls hl => ?_)
            refine lv_goto (tgt := 19) hx hb dX9_countBefore_63 (by decide) ?_
            exact ih.2 v2 x_1004 f_1003 _ _ _ gv2 (gi_w gx_1004 (by decide)) (by have av2 := gv2.1; have bv2 := gv2.2; have av3 := gv3.1; have bv3 := gv3.2; have qgx_1004 := gx_1004.1; have rgx_1004 := gx_1004.2; have igx_1004 : x_1004.toInt = v3.toInt + 1 := (by have hc1 : (1 : Int32).toInt = 1 := (by decide); have h9 := gi_addI ex_1004 (by have h1 := g_990.1; have h2 := (gi_c 1 1 (by decide)).1; have h3 := g_990.2; have h4 := (gi_c 1 1 (by decide)).2; omega) (by have h1 := g_990.1; have h2 := (gi_c 1 1 (by decide)).1; have h3 := g_990.2; have h4 := (gi_c 1 1 (by decide)).2; omega); rw [hc1] at h9; exact h9); have qgv3 := g_990.1; have rgv3 := g_990.2; have qgv2 := gv2.1; have rgv2 := gv2.2; omega) hP hD hS (lv_sub hl [1, 2, 3, 0] rfl)
        · have g_1005 : gi r_993 1 1 := gi_ne_lo c_994 gr_993 (gi_c 0 0 (by decide)) (by decide)
          refine lv_aload_n hx hb dX9_countBefore_37 rfl (lv_at hl 0 rfl) ?_
          refine lv_iload_n hx hb dX9_countBefore_38 rfl (lv_at hl 2 rfl) ?_
          refine lv_iload_n hx hb dX9_countBefore_39 rfl (lv_at hl 3 rfl) ?_
          have hPc := hP.sub (ws' := [(h0, .inr (9, [.ref bf, .ref bh, .ref sa, .int months, .int full, .int lean])), (bf, .inl (kbf, 3575, .inl z1))]) [0, 1] rfl
          have hKc := hK.sub (tys' := [(kbf, .int)]) [0] rfl
          have hDc := hD.sub (ws' := [(h0, .inr (9, [.ref bf, .ref bh, .ref sa, .int months, .int full, .int lean])), (bf, .inl (kbf, 3575, .inl z1))]) [0, 1] (by decide) rfl
          have hFc := va_free (wc := [(h0, .inr (9, [.ref bf, .ref bh, .ref sa, .int months, .int full, .int lean])), (bf, .inl (kbf, 3575, .inl z1))]) hD hS hA [0, 1] rfl
          refine va_callv (va_runV (As := [.int v2, .int v3]) (rest := []) ⟨hx, hb, hml, hown, hts⟩ (sX9_takeOnWithFull l dC dI H.size h0 bf bh sa months full lean kbf z1 v2 v3 gmonths gfull glean gv2 g_990) (cwV 2 hts (gz_gV mGA_577 mGA_578 mGA_579 mGA_27 mGA_580 goodGA) rfl rfl rfl (by decide +kernel) ⟨Nat.le_trans (Nat.le_of_ble_eq_true rfl) hRf, Nat.le_trans (Nat.le_of_ble_eq_true rfl) hRl⟩) ⟨bl_I (bl_a bl_sz (bl_a bl_P (bl_a bl_K (bl_a bl_c bl_nz)))), va_recv hKc hPc (ci := 9) (q0 := 0) rfl rfl, fun U hU hW => ⟨rfl, by rw [hU], by rw [hU]; exact hPc, va_K.moved hW.alike hKc, hDc.weaken (fun _ _ _ _ => trivial), nzA_warm hW hz⟩⟩ rfl rfl hl.1 rfl (lv_room (Nat.le_of_ble_eq_true rfl)) dX9_countBefore_40 ⟨hRc, hRs⟩) hS (fun q _ h => hFc q h) hFc (fun u t H1 locs ht hvm hw hB hz1 hk1 hS => ?_)
          obtain ⟨f_1007, hB⟩ := hB
          obtain ⟨hP1, hD1⟩ := hB
          rw [ht] at hP1
          obtain ⟨hP, hD⟩ := va_join (wr := [(fr, .inr (3, [.int frmonths, .int frfull, .int frlean, .ref fral, .ref fron])), (fral, .inl (kfral, 25, .inl ffral))]) (w1 := [(h0, .inr (9, [.ref bf, .ref bh, .ref sa, .int months, .int full, .int lean])), (bf, .inl (kbf, 3575, .inl f_1007))]) hP hD [0, 1] [2, 3] rfl rfl (by decide) (by decide) hk1 hFc hP1 hD1
          have hP := hP.sub (ws' := [(h0, .inr (9, [.ref bf, .ref bh, .ref sa, .int months, .int full, .int lean])), (bf, .inl (kbf, 3575, .inl f_1007)), (fr, .inr (3, [.int frmonths, .int frfull, .int frlean, .ref fral, .ref fron])), (fral, .inl (kfral, 25, .inl ffral))]) [2, 3, 0, 1] rfl
          have hD := hD.sub (ws' := [(h0, .inr (9, [.ref bf, .ref bh, .ref sa, .int months, .int full, .int lean])), (bf, .inl (kbf, 3575, .inl f_1007)), (fr, .inr (3, [.int frmonths, .int frfull, .int frlean, .ref fral, .ref fron])), (fral, .inl (kfral, 25, .inl ffral))]) [2, 3, 0, 1] (by decide) rfl
          generalize H1 = H at hP hS ⊢
          refine lv_aload_n hx hb dX9_countBefore_43 rfl (lv_at hl 1 rfl) ?_
          refine lv_iload_n hx hb dX9_countBefore_44 rfl (lv_at hl 2 rfl) ?_
          refine lv_iconst (v := 1) hx hb dX9_countBefore_45 (by decide) ?_
          refine lv_iadd hx hb dX9_countBefore_46 ?_
          refine lv_topi (fun x_1008 ex_1008 => ?_)
          have gx_1008 : gi x_1008 1 24 := gi_add ex_1008 gv2 (gi_c 1 1 (by decide)) (by decide)
          refine lv_iload_n hx hb dX9_countBefore_47 rfl (lv_at hl 3 rfl) ?_
          have hPc := hP.sub (ws' := [(fr, .inr (3, [.int frmonths, .int frfull, .int frlean, .ref fral, .ref fron])), (fral, .inl (kfral, 25, .inl ffral))]) [2, 3] rfl
          have hKc := hK.sub (tys' := [(kfral, .int)]) [1] rfl
          refine va_calli (va_runV (As := [.int x_1008, .int v3]) (rest := []) ⟨hx, hb, hml, hown, hts⟩ (sX3_allows l dC dI fr fral frmonths frfull frlean fron kfral ffral x_1008 v3 gfrmonths gfrfull gfrlean (gi_w gx_1008 (by decide))) (cwV 2 hts (gz_gV mGA_573 mGA_574 mGA_575 mGA_18 mGA_576 goodGA) rfl rfl rfl (by decide +kernel) ⟨Nat.le_trans (Nat.le_of_ble_eq_true rfl) hRf, Nat.le_trans (Nat.le_of_ble_eq_true rfl) hRl⟩) ⟨bl_I (bl_a bl_P (bl_a bl_K bl_nz)), va_recv hKc hPc (ci := 3) (q0 := 0) rfl rfl, fun U hU hW => ⟨rfl, by rw [hU]; exact hPc, va_K.moved hW.alike hKc, nzA_warm hW hz⟩⟩ rfl rfl hl.1 rfl (lv_room (Nat.le_of_ble_eq_true rfl)) dX9_countBefore_48 ⟨hRc, hRs⟩) hS (fun q _ h => h.elim) (fun q h => h.elim) (fun r_1009 u t H1 locs ht hvm hw hB hz1 hk1 hS => ?_)
          have hP := gz_keep hP hk1
          generalize H1 = H at hP hS ⊢
          have gr_1009 : gi r_1009 0 1 := hw
          refine lv_if_eq (tgt := 60) hx hb dX9_countBefore_51 (by decide) (fun c_1010 => ?_) (fun c_1010 => ?_)
          · have g_1011 : gi r_1009 0 0 := gi_eq c_1010 (gi_c 0 0 (by decide))
            obtain ⟨x_1012, ex_1012⟩ : ∃ y : Int32, y = v3 + 1 := ⟨_, rfl⟩
            have gx_1012 : gi x_1012 1 24 := gi_add ex_1012 g_990 (gi_c 1 1 (by decide)) (by decide)
            refine lv_iinc (v := x_1012) (lv' := [(3, .int x_1012), (0, .ref h0), (1, .ref fr), (2, .int v2)]) hx hb dX9_countBefore_60 hl (k := 3) rfl (by rw [ex_1012]; rfl) (by decide) rfl (fun ls hl => ?_)
            refine lv_goto (tgt := 19) hx hb dX9_countBefore_63 (by decide) ?_
            exact ih.2 v2 x_1012 f_1007 _ _ _ gv2 (gi_w gx_1012 (by decide)) (by have av2 := gv2.1; have bv2 := gv2.2; have av3 := gv3.1; have bv3 := gv3.2; have qgx_1012 := gx_1012.1; have rgx_1012 := gx_1012.2; have igx_1012 : x_1012.toInt = v3.toInt + 1 := (by have hc1 : (1 : Int32).toInt = 1 := (by decide); have h9 := gi_addI ex_1012 (by have h1 := g_990.1; have h2 := (gi_c 1 1 (by decide)).1; have h3 := g_990.2; have h4 := (gi_c 1 1 (by decide)).2; omega) (by have h1 := g_990.1; have h2 := (gi_c 1 1 (by decide)).1; have h3 := g_990.2; have h4 := (gi_c 1 1 (by decide)).2; omega); rw [hc1] at h9; exact h9); have qgv3 := g_990.1; have rgv3 := g_990.2; have qgv2 := gv2.1; have rgv2 := gv2.2; omega) hP hD hS (lv_sub hl [1, 2, 3, 0] rfl)
          · have g_1013 : gi r_1009 1 1 := gi_ne_lo c_1010 gr_1009 (gi_c 0 0 (by decide)) (by decide)
            refine lv_aload_n hx hb dX9_countBefore_54 rfl (lv_at hl 0 rfl) ?_
            refine lv_iload_n hx hb dX9_countBefore_55 rfl (lv_at hl 2 rfl) ?_
            refine lv_iload_n hx hb dX9_countBefore_56 rfl (lv_at hl 3 rfl) ?_
            have hPc := hP.sub (ws' := [(h0, .inr (9, [.ref bf, .ref bh, .ref sa, .int months, .int full, .int lean])), (bf, .inl (kbf, 3575, .inl f_1007))]) [0, 1] rfl
            have hKc := hK.sub (tys' := [(kbf, .int)]) [0] rfl
            have hDc := hD.sub (ws' := [(h0, .inr (9, [.ref bf, .ref bh, .ref sa, .int months, .int full, .int lean])), (bf, .inl (kbf, 3575, .inl f_1007))]) [0, 1] (by decide) rfl
            have hFc := va_free (wc := [(h0, .inr (9, [.ref bf, .ref bh, .ref sa, .int months, .int full, .int lean])), (bf, .inl (kbf, 3575, .inl f_1007))]) hD hS hA [0, 1] rfl
            refine va_callv (va_runV (As := [.int v2, .int v3]) (rest := []) ⟨hx, hb, hml, hown, hts⟩ (sX9_takeOnWithLean l dC dI H.size h0 bf bh sa months full lean kbf f_1007 v2 v3 gmonths gfull glean gv2 g_990) (cwV 2 hts (gz_gV mGA_586 mGA_587 mGA_588 mGA_27 mGA_589 goodGA) rfl rfl rfl (by decide +kernel) ⟨Nat.le_trans (Nat.le_of_ble_eq_true rfl) hRf, Nat.le_trans (Nat.le_of_ble_eq_true rfl) hRl⟩) ⟨bl_I (bl_a bl_sz (bl_a bl_P (bl_a bl_K (bl_a bl_c bl_nz)))), va_recv hKc hPc (ci := 9) (q0 := 0) rfl rfl, fun U hU hW => ⟨rfl, by rw [hU], by rw [hU]; exact hPc, va_K.moved hW.alike hKc, hDc.weaken (fun _ _ _ _ => trivial), nzA_warm hW hz⟩⟩ rfl rfl hl.1 rfl (lv_room (Nat.le_of_ble_eq_true rfl)) dX9_countBefore_57 ⟨hRc, hRs⟩) hS (fun q _ h => hFc q h) hFc (fun u t H1 locs ht hvm hw hB hz1 hk1 hS => ?_)
            obtain ⟨f_1015, hB⟩ := hB
            obtain ⟨hP1, hD1⟩ := hB
            rw [ht] at hP1
            obtain ⟨hP, hD⟩ := va_join (wr := [(fr, .inr (3, [.int frmonths, .int frfull, .int frlean, .ref fral, .ref fron])), (fral, .inl (kfral, 25, .inl ffral))]) (w1 := [(h0, .inr (9, [.ref bf, .ref bh, .ref sa, .int months, .int full, .int lean])), (bf, .inl (kbf, 3575, .inl f_1015))]) hP hD [0, 1] [2, 3] rfl rfl (by decide) (by decide) hk1 hFc hP1 hD1
            have hP := hP.sub (ws' := [(h0, .inr (9, [.ref bf, .ref bh, .ref sa, .int months, .int full, .int lean])), (bf, .inl (kbf, 3575, .inl f_1015)), (fr, .inr (3, [.int frmonths, .int frfull, .int frlean, .ref fral, .ref fron])), (fral, .inl (kfral, 25, .inl ffral))]) [2, 3, 0, 1] rfl
            have hD := hD.sub (ws' := [(h0, .inr (9, [.ref bf, .ref bh, .ref sa, .int months, .int full, .int lean])), (bf, .inl (kbf, 3575, .inl f_1015)), (fr, .inr (3, [.int frmonths, .int frfull, .int frlean, .ref fral, .ref fron])), (fral, .inl (kfral, 25, .inl ffral))]) [2, 3, 0, 1] (by decide) rfl
            generalize H1 = H at hP hS ⊢
            obtain ⟨x_1016, ex_1016⟩ : ∃ y : Int32, y = v3 + 1 := ⟨_, rfl⟩
            have gx_1016 : gi x_1016 1 24 := gi_add ex_1016 g_990 (gi_c 1 1 (by decide)) (by decide)
            refine lv_iinc (v := x_1016) (lv' := [(3, .int x_1016), (0, .ref h0), (1, .ref fr), (2, .int v2)]) hx hb dX9_countBefore_60 hl (k := 3) rfl (by rw [ex_1016]; rfl) (by decide) rfl (fun ls hl => ?_)
            refine lv_goto (tgt := 19) hx hb dX9_countBefore_63 (by decide) ?_
            exact ih.2 v2 x_1016 f_1015 _ _ _ gv2 (gi_w gx_1016 (by decide)) (by have av2 := gv2.1; have bv2 := gv2.2; have av3 := gv3.1; have bv3 := gv3.2; have qgx_1016 := gx_1016.1; have rgx_1016 := gx_1016.2; have igx_1016 : x_1016.toInt = v3.toInt + 1 := (by have hc1 : (1 : Int32).toInt = 1 := (by decide); have h9 := gi_addI ex_1016 (by have h1 := g_990.1; have h2 := (gi_c 1 1 (by decide)).1; have h3 := g_990.2; have h4 := (gi_c 1 1 (by decide)).2; omega) (by have h1 := g_990.1; have h2 := (gi_c 1 1 (by decide)).1; have h3 := g_990.2; have h4 := (gi_c 1 1 (by decide)).2; omega); rw [hc1] at h9; exact h9); have qgv3 := g_990.1; have rgv3 := g_990.2; have qgv2 := gv2.1; have rgv2 := gv2.2; omega) hP hD hS (lv_sub hl [1, 2, 3, 0] rfl)
abbrev pb_sX9_countBefore (dC : Nat → ClassId) (dI : Nat → Nat → Nat) (A9 : Nat → Prop) (h0 : Nat) (bf : Nat) (fr : Nat) (fral : Nat) (bh : Nat) (sa : Nat) (months : Int32) (full : Int32) (lean : Int32) (kbf : ClassId) (fbf : Nat → Int32) (frmonths : Int32) (frfull : Int32) (frlean : Int32) (fron : Nat) (kfral : ClassId) (ffral : Nat → Int32) (z1 : Nat → Int32) (t : State) : Prop := va_P (dC, dI) vwCl [(h0, .inr (9, [.ref bf, .ref bh, .ref sa, .int months, .int full, .int lean])), (bf, .inl (kbf, 3575, .inl z1)), (fr, .inr (3, [.int frmonths, .int frfull, .int frlean, .ref fral, .ref fron])), (fral, .inl (kfral, 25, .inl ffral))] t.heap ∧ va_D A9 [(h0, .inr (9, [.ref bf, .ref bh, .ref sa, .int months, .int full, .int lean])), (bf, .inl (kbf, 3575, .inl z1)), (fr, .inr (3, [.int frmonths, .int frfull, .int frlean, .ref fral, .ref fron])), (fral, .inl (kfral, 25, .inl ffral))]
set_option maxHeartbeats 4000000 in
set_option maxRecDepth 100000 in
theorem sX9_countBefore (l : Launch) (dC : Nat → ClassId) (dI : Nat → Nat → Nat) (sz : Nat) (h0 : Nat) (bf : Nat) (fr : Nat) (fral : Nat) (bh : Nat) (sa : Nat) (months : Int32) (full : Int32) (lean : Int32) (kbf : ClassId) (fbf : Nat → Int32) (frmonths : Int32) (frfull : Int32) (frlean : Int32) (fron : Nat) (kfral : ClassId) (ffral : Nat → Int32) (gmonths : gi months 0 24) (gfull : gi full 0 5) (glean : gi lean 0 5) (gfrmonths : gi frmonths 0 24) (gfrfull : gi frfull 0 5) (gfrlean : gi frlean 0 5) : Met l yX9_countBefore (.code yX9_countBefore cX9_countBefore 4 none :: wsGA) ({ frames := 3, cells := 0, slots := 0, locals := 69 }) (va_Pc [.ref h0, .ref fr] (fun U => U.heap.size = sz ∧ va_P (dC, dI) vwCl [(h0, .inr (9, [.ref bf, .ref bh, .ref sa, .int months, .int full, .int lean])), (bf, .inl (kbf, 3575, .inl fbf)), (fr, .inr (3, [.int frmonths, .int frfull, .int frlean, .ref fral, .ref fron])), (fral, .inl (kfral, 25, .inl ffral))] U.heap ∧ va_K (dC, dI) vwCl [(kbf, .int), (kfral, .int)] U ∧ va_D (fun _ => True) [(h0, .inr (9, [.ref bf, .ref bh, .ref sa, .int months, .int full, .int lean])), (bf, .inl (kbf, 3575, .inl fbf)), (fr, .inr (3, [.int frmonths, .int frfull, .int frlean, .ref fral, .ref fron])), (fral, .inl (kfral, 25, .inl ffral))] ∧ nzA U)) (va_Qv (fun (u : Unit) => True) (fun _ t => ∃ (z1 : Nat → Int32), pb_sX9_countBefore dC dI (va_A [(h0, .inr (9, [.ref bf, .ref bh, .ref sa, .int months, .int full, .int lean])), (bf, .inl (kbf, 3575, .inl fbf)), (fr, .inr (3, [.int frmonths, .int frfull, .int frlean, .ref fral, .ref fron])), (fral, .inl (kfral, 25, .inl ffral))] sz) h0 bf fr fral bh sa months full lean kbf fbf frmonths frfull frlean fron kfral ffral z1 t) (va_A [(h0, .inr (9, [.ref bf, .ref bh, .ref sa, .int months, .int full, .int lean])), (bf, .inl (kbf, 3575, .inl fbf)), (fr, .inr (3, [.int frmonths, .int frfull, .int frlean, .ref fral, .ref fron])), (fral, .inl (kfral, 25, .inl ffral))] sz)) 0 0 (va_A [(h0, .inr (9, [.ref bf, .ref bh, .ref sa, .int months, .int full, .int lean])), (bf, .inl (kbf, 3575, .inl fbf)), (fr, .inr (3, [.int frmonths, .int frfull, .int frlean, .ref fral, .ref fron])), (fral, .inl (kfral, 25, .inl ffral))] sz) := by
  refine Met.ofW (cc := cX9_countBefore) (maxL := 4) (ret := none) (by decide) rfl ?_
  intro p e s m args below meth c s₁ B hml hv
  obtain ⟨rfl, hsz, hP, hK, hD0, hz⟩ := hv
  have hx := B.exec
  have hb := B.bytes
  have hr := B.returns
  have hts := atoms_spec (ws := (.code yX9_countBefore cX9_countBefore 4 none :: wsGA)) B.pre
  have hown : s.vm.findClass RX9 = some m.cls := findClass_of_methodNamed B.named
  have hlocks := B.notSynchronized
  subst hsz
  have hD := hD0.self (sz := s.heap.size)
  generalize hAe : va_A [(h0, .inr (9, [.ref bf, .ref bh, .ref sa, .int months, .int full, .int lean])), (bf, .inl (kbf, 3575, .inl fbf)), (fr, .inr (3, [.int frmonths, .int frfull, .int frlean, .ref fral, .ref fron])), (fral, .inl (kfral, 25, .inl ffral))] s.heap.size = A at hD ⊢
  have hA : ∀ q : Nat, s.heap.size ≤ q → A q := fun q h => by rw [← hAe]; exact Or.inr h
  have hS : va_S A s.heap s.heap [] := va_S.rf
  have hl := lv_entry ([.ref h0, .ref fr]) (n := 4) (Nat.le_of_ble_eq_true rfl)
  rw [lg_entry_eq]
  generalize (lg_sl ([.ref h0, .ref fr]) ++ List.replicate (4 - (lg_sl ([.ref h0, .ref fr])).length) Slot.unset).toArray = ls at hl ⊢
  have hl : lv_has ls 4 [(0, .ref h0), (1, .ref fr)] := hl
  refine lv_aload_n hx hb dX9_countBefore_0 rfl (lv_at hl 0 rfl) ?_
  refine va_get (D := (dC, dI)) (ci := 9) (v := .ref bf) (C := RX9) (T := TX9) (N := 6) hx hb hts (fun w h => List.mem_cons_of_mem _ (jnGA_X9 w h)) hown hK hP 0 rfl rfl 0 (by decide) (hts _ (List.mem_cons_of_mem _ mGA_111)) (fun _ h9 => h9) rfl dX9_countBefore_1 ?_
  refine lv_iconst (v := 0) hx hb dX9_countBefore_4 (by decide) ?_
  refine lv_iconst (v := 1) hx hb dX9_countBefore_5 (by decide) ?_
  refine va_iast hx hb hK hP hD hS 1 0 rfl rfl (gi_in (gi_c 0 0 (by decide)) (by decide)) dX9_countBefore_6 (fun H locs hP hD hS => ?_)
  have hP : va_P (dC, dI) vwCl [(h0, .inr (9, [.ref bf, .ref bh, .ref sa, .int months, .int full, .int lean])), (bf, .inl (kbf, 3575, .inl (upd fbf (0 : Int32).toNatClampNeg 1))), (fr, .inr (3, [.int frmonths, .int frfull, .int frlean, .ref fral, .ref fron])), (fral, .inl (kfral, 25, .inl ffral))] H := hP
  have hD : va_D A [(h0, .inr (9, [.ref bf, .ref bh, .ref sa, .int months, .int full, .int lean])), (bf, .inl (kbf, 3575, .inl (upd fbf (0 : Int32).toNatClampNeg 1))), (fr, .inr (3, [.int frmonths, .int frfull, .int frlean, .ref fral, .ref fron])), (fral, .inl (kfral, 25, .inl ffral))] := hD
  generalize upd fbf (0 : Int32).toNatClampNeg 1 = f_1017 at hP hD
  refine lv_iconst (v := 0) hx hb dX9_countBefore_7 (by decide) ?_
  refine lv_istore_n (lv' := [(2, .int 0), (0, .ref h0), (1, .ref fr)]) hx hb dX9_countBefore_8 rfl hl (by decide) rfl (fun ls hl => ?_)
  refine (lp_sX9_countBefore h0 bf fr fral bh sa months full lean kbf fbf frmonths frfull frlean fron kfral ffral gmonths gfull glean gfrmonths gfrfull gfrlean hx hb hml hown hts hK hz hA (Nat.le_of_ble_eq_true rfl) (Nat.le_of_ble_eq_true rfl) (Nat.zero_le _) (Nat.zero_le _) (fun z1 H locs ls hP hD hS hl => ?_) 1414).1 0 f_1017 _ _ _ (gi_w (gi_c 0 0 (by decide)) (by decide)) (by have k0 : (0 : Int32).toInt = 0 := (by decide); omega) hP hD hS (lv_sub hl [1, 2, 0] rfl)
  · skip
    exact W.vret hx hb hr (fun t ht hW => ⟨⟨(), rfl, trivial, z1, by rw [ht]; exact hP, hD⟩, hS.F ht⟩) hS.2.2 dX9_countBefore_72
theorem dX9_countStarts_0 : decode cX9_countStarts 0 = .ok (.iconst 0, 1) := by decide +kernel
theorem dX9_countStarts_1 : decode cX9_countStarts 1 = .ok (.istore_n 1, 1) := by decide +kernel
theorem dX9_countStarts_2 : decode cX9_countStarts 2 = .ok (.iload_n 1, 1) := by decide +kernel
theorem dX9_countStarts_3 : decode cX9_countStarts 3 = .ok (.aload_n 0, 1) := by decide +kernel
theorem dX9_countStarts_4 : decode cX9_countStarts 4 = .ok (.getfield 27, 3) := by decide +kernel
theorem dX9_countStarts_7 : decode cX9_countStarts 7 = .ok (.if_icmp .gt 97, 3) := by decide +kernel
theorem dX9_countStarts_10 : decode cX9_countStarts 10 = .ok (.iconst 0, 1) := by decide +kernel
theorem dX9_countStarts_11 : decode cX9_countStarts 11 = .ok (.istore_n 2, 1) := by decide +kernel
theorem dX9_countStarts_12 : decode cX9_countStarts 12 = .ok (.iload_n 2, 1) := by decide +kernel
theorem dX9_countStarts_13 : decode cX9_countStarts 13 = .ok (.iload_n 1, 1) := by decide +kernel
theorem dX9_countStarts_14 : decode cX9_countStarts 14 = .ok (.if_icmp .gt 84, 3) := by decide +kernel
theorem dX9_countStarts_17 : decode cX9_countStarts 17 = .ok (.iload_n 1, 1) := by decide +kernel
theorem dX9_countStarts_18 : decode cX9_countStarts 18 = .ok (.iload_n 2, 1) := by decide +kernel
theorem dX9_countStarts_19 : decode cX9_countStarts 19 = .ok (.iconst 0, 1) := by decide +kernel
theorem dX9_countStarts_20 : decode cX9_countStarts 20 = .ok (.invokestatic 63, 3) := by decide +kernel
theorem dX9_countStarts_23 : decode cX9_countStarts 23 = .ok (.istore_n 3, 1) := by decide +kernel
theorem dX9_countStarts_24 : decode cX9_countStarts 24 = .ok (.iconst 0, 1) := by decide +kernel
theorem dX9_countStarts_25 : decode cX9_countStarts 25 = .ok (.istore 4, 2) := by decide +kernel
theorem dX9_countStarts_27 : decode cX9_countStarts 27 = .ok (.iload_n 1, 1) := by decide +kernel
theorem dX9_countStarts_28 : decode cX9_countStarts 28 = .ok (.invokestatic 67, 3) := by decide +kernel
theorem dX9_countStarts_31 : decode cX9_countStarts 31 = .ok (.istore 5, 2) := by decide +kernel
theorem dX9_countStarts_33 : decode cX9_countStarts 33 = .ok (.iload 5, 2) := by decide +kernel
theorem dX9_countStarts_35 : decode cX9_countStarts 35 = .ok (.iload_n 1, 1) := by decide +kernel
theorem dX9_countStarts_36 : decode cX9_countStarts 36 = .ok (.aload_n 0, 1) := by decide +kernel
theorem dX9_countStarts_37 : decode cX9_countStarts 37 = .ok (.getfield 31, 3) := by decide +kernel
theorem dX9_countStarts_40 : decode cX9_countStarts 40 = .ok (.aload_n 0, 1) := by decide +kernel
theorem dX9_countStarts_41 : decode cX9_countStarts 41 = .ok (.getfield 35, 3) := by decide +kernel
theorem dX9_countStarts_44 : decode cX9_countStarts 44 = .ok (.invokestatic 71, 3) := by decide +kernel
theorem dX9_countStarts_47 : decode cX9_countStarts 47 = .ok (.if_icmp .gt 33, 3) := by decide +kernel
theorem dX9_countStarts_50 : decode cX9_countStarts 50 = .ok (.iload 4, 2) := by decide +kernel
theorem dX9_countStarts_52 : decode cX9_countStarts 52 = .ok (.aload_n 0, 1) := by decide +kernel
theorem dX9_countStarts_53 : decode cX9_countStarts 53 = .ok (.getfield 9, 3) := by decide +kernel
theorem dX9_countStarts_56 : decode cX9_countStarts 56 = .ok (.iload_n 3, 1) := by decide +kernel
theorem dX9_countStarts_57 : decode cX9_countStarts 57 = .ok (.iload 5, 2) := by decide +kernel
theorem dX9_countStarts_59 : decode cX9_countStarts 59 = .ok (.iadd, 1) := by decide +kernel
theorem dX9_countStarts_60 : decode cX9_countStarts 60 = .ok (.iaload, 1) := by decide +kernel
theorem dX9_countStarts_61 : decode cX9_countStarts 61 = .ok (.aload_n 0, 1) := by decide +kernel
theorem dX9_countStarts_62 : decode cX9_countStarts 62 = .ok (.getfield 15, 3) := by decide +kernel
theorem dX9_countStarts_65 : decode cX9_countStarts 65 = .ok (.iload_n 3, 1) := by decide +kernel
theorem dX9_countStarts_66 : decode cX9_countStarts 66 = .ok (.iload 5, 2) := by decide +kernel
theorem dX9_countStarts_68 : decode cX9_countStarts 68 = .ok (.iadd, 1) := by decide +kernel
theorem dX9_countStarts_69 : decode cX9_countStarts 69 = .ok (.iaload, 1) := by decide +kernel
theorem dX9_countStarts_70 : decode cX9_countStarts 70 = .ok (.imul, 1) := by decide +kernel
theorem dX9_countStarts_71 : decode cX9_countStarts 71 = .ok (.iadd, 1) := by decide +kernel
theorem dX9_countStarts_72 : decode cX9_countStarts 72 = .ok (.istore 4, 2) := by decide +kernel
theorem dX9_countStarts_74 : decode cX9_countStarts 74 = .ok (.iinc 5 1, 3) := by decide +kernel
theorem dX9_countStarts_77 : decode cX9_countStarts 77 = .ok (.goto (-44), 3) := by decide +kernel
theorem dX9_countStarts_80 : decode cX9_countStarts 80 = .ok (.aload_n 0, 1) := by decide +kernel
theorem dX9_countStarts_81 : decode cX9_countStarts 81 = .ok (.getfield 18, 3) := by decide +kernel
theorem dX9_countStarts_84 : decode cX9_countStarts 84 = .ok (.iload_n 1, 1) := by decide +kernel
theorem dX9_countStarts_85 : decode cX9_countStarts 85 = .ok (.iload_n 2, 1) := by decide +kernel
theorem dX9_countStarts_86 : decode cX9_countStarts 86 = .ok (.invokestatic 92, 3) := by decide +kernel
theorem dX9_countStarts_89 : decode cX9_countStarts 89 = .ok (.iload 4, 2) := by decide +kernel
theorem dX9_countStarts_91 : decode cX9_countStarts 91 = .ok (.iastore, 1) := by decide +kernel
theorem dX9_countStarts_92 : decode cX9_countStarts 92 = .ok (.iinc 2 1, 3) := by decide +kernel
theorem dX9_countStarts_95 : decode cX9_countStarts 95 = .ok (.goto (-83), 3) := by decide +kernel
theorem dX9_countStarts_98 : decode cX9_countStarts 98 = .ok (.iinc 1 1, 3) := by decide +kernel
theorem dX9_countStarts_101 : decode cX9_countStarts 101 = .ok (.goto (-99), 3) := by decide +kernel
theorem dX9_countStarts_104 : decode cX9_countStarts 104 = .ok (.return_, 1) := by decide +kernel
set_option maxHeartbeats 4000000 in
set_option maxRecDepth 100000 in
theorem lp_sX9_countStarts {p : Program} {l : Launch} {e : Env} {R : Room} {s : State} {m : MethodId} {args : Array Value} {below : List Frame} {meth : Method} {c : Code} {Q : State → Prop} {A : Nat → Prop} {cells slots : Nat} {dC : Nat → ClassId} {dI : Nat → Nat → Nat} (h0 : Nat) (bf : Nat) (bh : Nat) (sa : Nat) (months : Int32) (full : Int32) (lean : Int32) (kbf : ClassId) (fbf : Nat → Int32) (kbh : ClassId) (fbh : Nat → Int32) (ksa : ClassId) (fsa : Nat → Int32) (gmonths : gi months 0 24) (gfull : gi full 0 5) (glean : gi lean 0 5) (hx : p.tables.exec = Jvm.exec) (hb : c.code = cX9_countStarts) (hml : c.maxLocals = 6) (hown : s.vm.findClass RX9 = some m.cls) (hts : ∀ w ∈ ((.code yX9_countStarts cX9_countStarts 6 none :: wsGA) : List Cond), w.before args s = true) (hK : va_K (dC, dI) vwCl [(kbf, .int), (kbh, .int), (ksa, .int)] s) (hz : nzA s) (hA : ∀ q : Nat, s.heap.size ≤ q → A q) (hRf : 2 ≤ R.frames) (hRl : 43 ≤ R.locals) (hRc : cells ≤ R.cells) (hRs : slots ≤ R.slots) (kr104 : ∀ (z3 : Nat → Int32) (H : Heap) (locs : List Loc) (ls : Array Slot), va_P (dC, dI) vwCl [(h0, .inr (9, [.ref bf, .ref bh, .ref sa, .int months, .int full, .int lean])), (bf, .inl (kbf, 3575, .inl fbf)), (bh, .inl (kbh, 3575, .inl fbh)), (sa, .inl (ksa, 325, .inl z3))] H → va_D A [(h0, .inr (9, [.ref bf, .ref bh, .ref sa, .int months, .int full, .int lean])), (bf, .inl (kbf, 3575, .inl fbf)), (bh, .inl (kbh, 3575, .inl fbh)), (sa, .inl (ksa, 325, .inl z3))] → va_S A s.heap H locs → lv_has ls 6 [] → W p l e R s m args below meth c H locs cells slots Q (F0 m 104 ls [])) : ∀ z : Nat, (∀ (v1 : Int32) (z3 : Nat → Int32) (H : Heap) (locs : List Loc) (ls : Array Slot), gi v1 0 25 → 18951 + (-758) * v1.toInt < (z : Int) → va_P (dC, dI) vwCl [(h0, .inr (9, [.ref bf, .ref bh, .ref sa, .int months, .int full, .int lean])), (bf, .inl (kbf, 3575, .inl fbf)), (bh, .inl (kbh, 3575, .inl fbh)), (sa, .inl (ksa, 325, .inl z3))] H → va_D A [(h0, .inr (9, [.ref bf, .ref bh, .ref sa, .int months, .int full, .int lean])), (bf, .inl (kbf, 3575, .inl fbf)), (bh, .inl (kbh, 3575, .inl fbh)), (sa, .inl (ksa, 325, .inl z3))] → va_S A s.heap H locs → lv_has ls 6 [(0, .ref h0), (1, .int v1)] → W p l e R s m args below meth c H locs cells slots Q (F0 m 2 ls [])) ∧ (∀ (v1 : Int32) (v2 : Int32) (z3 : Nat → Int32) (H : Heap) (locs : List Loc) (ls : Array Slot), gi v1 0 24 → gi v2 0 25 → 18894 + (-758) * v1.toInt + (-28) * v2.toInt < (z : Int) → va_P (dC, dI) vwCl [(h0, .inr (9, [.ref bf, .ref bh, .ref sa, .int months, .int full, .int lean])), (bf, .inl (kbf, 3575, .inl fbf)), (bh, .inl (kbh, 3575, .inl fbh)), (sa, .inl (ksa, 325, .inl z3))] H → va_D A [(h0, .inr (9, [.ref bf, .ref bh, .ref sa, .int months, .int full, .int lean])), (bf, .inl (kbf, 3575, .inl fbf)), (bh, .inl (kbh, 3575, .inl fbh)), (sa, .inl (ksa, 325, .inl z3))] → va_S A s.heap H locs → lv_has ls 6 [(0, .ref h0), (1, .int v1), (2, .int v2)] → W p l e R s m args below meth c H locs cells slots Q (F0 m 12 ls [])) ∧ (∀ (v1 : Int32) (v2 : Int32) (v3 : Int32) (v4 : Int32) (v5 : Int32) (z3 : Nat → Int32) (H : Heap) (locs : List Loc) (ls : Array Slot), gi v1 0 24 → gi v2 0 24 → gi v3 0 3564 → gi v5 0 11 → 18889 + (-758) * v1.toInt + (-28) * v2.toInt + (-2) * v5.toInt < (z : Int) → va_P (dC, dI) vwCl [(h0, .inr (9, [.ref bf, .ref bh, .ref sa, .int months, .int full, .int lean])), (bf, .inl (kbf, 3575, .inl fbf)), (bh, .inl (kbh, 3575, .inl fbh)), (sa, .inl (ksa, 325, .inl z3))] H → va_D A [(h0, .inr (9, [.ref bf, .ref bh, .ref sa, .int months, .int full, .int lean])), (bf, .inl (kbf, 3575, .inl fbf)), (bh, .inl (kbh, 3575, .inl fbh)), (sa, .inl (ksa, 325, .inl z3))] → va_S A s.heap H locs → lv_has ls 6 [(0, .ref h0), (1, .int v1), (2, .int v2), (3, .int v3), (4, .int v4), (5, .int v5)] → W p l e R s m args below meth c H locs cells slots Q (F0 m 33 ls [])) := by
  intro z
  induction z with
  | zero =>
    refine ⟨?_, ?_, ?_⟩
    · intro v1 z3 H locs ls gv1 hmu hP hD hS hl
      exact absurd hmu (by have hv11 := gv1.1; have hv12 := gv1.2; omega)
    · intro v1 v2 z3 H locs ls gv1 gv2 hmu hP hD hS hl
      exact absurd hmu (by have hv11 := gv1.1; have hv12 := gv1.2; have hv21 := gv2.1; have hv22 := gv2.2; omega)
    · intro v1 v2 v3 v4 v5 z3 H locs ls gv1 gv2 gv3 gv5 hmu hP hD hS hl
      exact absurd hmu (by have hv11 := gv1.1; have hv12 := gv1.2; have hv21 := gv2.1; have hv22 := gv2.2; have hv51 := gv5.1; have hv52 := gv5.2; omega)
  | succ z ih =>
    refine ⟨?_, ?_, ?_⟩
    · intro v1 z3 H locs ls gv1 hmu hP hD hS hl
      refine lv_iload_n hx hb dX9_countStarts_2 rfl (lv_at hl 1 rfl) ?_
      refine lv_aload_n hx hb dX9_countStarts_3 rfl (lv_at hl 0 rfl) ?_
      refine va_get (D := (dC, dI)) (ci := 9) (v := .int months) (C := RX9) (T := TX9) (N := 6) hx hb hts (fun w h => List.mem_cons_of_mem _ (jnGA_X9 w h)) hown hK hP 0 rfl rfl 3 (by decide) (hts _ (List.mem_cons_of_mem _ mGA_560)) (fun _ h9 => h9) rfl dX9_countStarts_4 ?_
      refine lv_icmp_gt (tgt := 104) hx hb dX9_countStarts_7 (by decide) (fun c_707 => ?_) (fun c_707 => ?_)
      · have g_708 : gi v1 1 25 := gi_lt_r c_707 gmonths gv1 (by decide)
        exact kr104 z3 _ _ _ hP hD hS (lv_sub hl [] rfl)
      · have g_709 : gi v1 0 24 := gi_le_l (Int32.not_lt.mp c_707) gv1 gmonths
        refine lv_iconst (v := 0) hx hb dX9_countStarts_10 (by decide) ?_
        refine lv_istore_n (lv' := [(2, .int 0), (0, .ref h0), (1, .int v1)]) hx hb dX9_countStarts_11 rfl hl (by decide) rfl (fun ls hl => ?_)
        exact ih.2.1 v1 0 z3 _ _ _ g_709 (gi_w (gi_c 0 0 (by decide)) (by decide)) (by have k0 : (0 : Int32).toInt = 0 := (by decide); have av1 := gv1.1; have bv1 := gv1.2; have qgv1 := g_709.1; have rgv1 := g_709.2; omega) hP hD hS (lv_sub hl [1, 2, 0] rfl)
    · intro v1 v2 z3 H locs ls gv1 gv2 hmu hP hD hS hl
      refine lv_iload_n hx hb dX9_countStarts_12 rfl (lv_at hl 2 rfl) ?_
      refine lv_iload_n hx hb dX9_countStarts_13 rfl (lv_at hl 1 rfl) ?_
      refine lv_icmp_gt (tgt := 98) hx hb dX9_countStarts_14 (by decide) (fun c_710 => ?_) (fun c_710 => ?_)
      · have g_711 : gi v2 1 25 := gi_lt_r c_710 gv1 gv2 (by decide)
        obtain ⟨x_712, ex_712⟩ : ∃ y : Int32, y = v1 + 1 := ⟨_, rfl⟩
        have gx_712 : gi x_712 1 25 := gi_add ex_712 gv1 (gi_c 1 1 (by decide)) (by decide)
        refine lv_iinc (v := x_712) (lv' := [(1, .int x_712), (0, .ref h0), (2, .int v2)]) hx hb dX9_countStarts_98 hl (k := 1) rfl (by rw [ex_712]; rfl) (by decide) rfl (fun ls hl => ?_)
        refine lv_goto (tgt := 2) hx hb dX9_countStarts_101 (by decide) ?_
        exact ih.1 x_712 z3 _ _ _ (gi_w gx_712 (by decide)) (by have av1 := gv1.1; have bv1 := gv1.2; have av2 := gv2.1; have bv2 := gv2.2; have qgx_712 := gx_712.1; have rgx_712 := gx_712.2; have igx_712 : x_712.toInt = v1.toInt + 1 := (by have hc1 : (1 : Int32).toInt = 1 := (by decide); have h9 := gi_addI ex_712 (by have h1 := gv1.1; have h2 := (gi_c 1 1 (by decide)).1; have h3 := gv1.2; have h4 := (gi_c 1 1 (by decide)).2; omega) (by have h1 := gv1.1; have h2 := (gi_c 1 1 (by decide)).1; have h3 := gv1.2; have h4 := (gi_c 1 1 (by decide)).2; omega); rw [hc1] at h9; exact h9); have qgv1 := gv1.1; have rgv1 := gv1.2; omega) hP hD hS (lv_sub hl [1, 0] rfl)
      · have g_713 : gi v2 0 24 := gi_le_l (Int32.not_lt.mp c_710) gv2 gv1
        refine lv_iload_n hx hb dX9_countStarts_17 rfl (lv_at hl 1 rfl) ?_
        refine lv_iload_n hx hb dX9_countStarts_18 rfl (lv_at hl 2 rfl) ?_
        refine lv_iconst (v := 0) hx hb dX9_countStarts_19 (by decide) ?_
        have hPc := hP.sub (ws' := []) [] rfl
        have hKc := hK.sub (tys' := []) [] rfl
        refine va_calli (va_runSN (As := [.int v1, .int v2, .int 0]) (rest := []) ⟨hx, hb, hml, hown, hts⟩ (sX11_spot0 l dC dI v1 v2 0 gv1 g_713 (gi_c 0 0 (by decide))) (⟨va_cnB 3 hts (gz_gP mGA_582 goodGA) rfl rfl rfl (nzA_X9_63 hz) (hts _ (List.mem_cons_of_mem _ mGA_1)) (by decide +kernel) ⟨Nat.le_trans (Nat.le_of_ble_eq_true rfl) hRf, Nat.le_trans (Nat.le_of_ble_eq_true rfl) hRl⟩, (hts _ (List.mem_cons_of_mem _ mGA_581)), trivial⟩) ⟨bl_I (bl_a bl_P (bl_a bl_K bl_nz)), fun U hU hW => ⟨rfl, by rw [hU]; exact hPc, va_K.moved hW.alike hKc, nzA_warm hW hz⟩⟩ rfl rfl hl.1 rfl (lv_room (Nat.le_of_ble_eq_true rfl)) dX9_countStarts_20 ⟨hRc, hRs⟩) hS (fun q _ h => h.elim) (fun q h => h.elim) (fun r_714 u t H1 locs ht hvm hw hB hz1 hk1 hS => ?_)
        have hP := gz_keep hP hk1
        generalize H1 = H at hP hS ⊢
        have gr_714 : gi r_714 0 3564 := hw
        refine lv_istore_n (lv' := [(3, .int r_714), (0, .ref h0), (1, .int v1), (2, .int v2)]) hx hb dX9_countStarts_23 rfl hl (by decide) rfl (fun ls hl => ?_)
        refine lv_iconst (v := 0) hx hb dX9_countStarts_24 (by decide) ?_
        refine lv_istore (lv' := [(4, .int 0), (3, .int r_714), (0, .ref h0), (1, .int v1), (2, .int v2)]) hx hb dX9_countStarts_25 hl (by decide) rfl (fun ls hl => ?_)
        refine lv_iload_n hx hb dX9_countStarts_27 rfl (lv_at hl 3 rfl) ?_
        have hPc := hP.sub (ws' := []) [] rfl
        have hKc := hK.sub (tys' := []) [] rfl
        refine va_calli (va_runSN (As := [.int v1]) (rest := []) ⟨hx, hb, hml, hown, hts⟩ (sX11_firstRun l dC dI v1 gv1) (⟨va_cnB 1 hts (gz_gP mGA_504 goodGA) rfl rfl rfl (nzA_X9_67 hz) (hts _ (List.mem_cons_of_mem _ mGA_1)) (by decide +kernel) ⟨Nat.le_trans (Nat.le_of_ble_eq_true rfl) hRf, Nat.le_trans (Nat.le_of_ble_eq_true rfl) hRl⟩, (hts _ (List.mem_cons_of_mem _ mGA_503)), trivial⟩) ⟨bl_I (bl_a bl_P (bl_a bl_K bl_nz)), fun U hU hW => ⟨rfl, by rw [hU]; exact hPc, va_K.moved hW.alike hKc, nzA_warm hW hz⟩⟩ rfl rfl hl.1 rfl (lv_room (Nat.le_of_ble_eq_true rfl)) dX9_countStarts_28 ⟨hRc, hRs⟩) hS (fun q _ h => h.elim) (fun q h => h.elim) (fun r_715 u t H1 locs ht hvm hw hB hz1 hk1 hS => ?_)
        have hP := gz_keep hP hk1
        generalize H1 = H at hP hS ⊢
        have gr_715 : gi r_715 0 1 := hw
        refine lv_istore (lv' := [(5, .int r_715), (4, .int 0), (3, .int r_714), (0, .ref h0), (1, .int v1), (2, .int v2)]) hx hb dX9_countStarts_31 hl (by decide) rfl (fun ls hl => ?_)
        exact ih.2.2 v1 v2 r_714 0 r_715 z3 _ _ _ gv1 g_713 gr_714 (gi_w gr_715 (by decide)) (by have av1 := gv1.1; have bv1 := gv1.2; have av2 := gv2.1; have bv2 := gv2.2; have qgv2 := g_713.1; have rgv2 := g_713.2; have qgv1 := gv1.1; have rgv1 := gv1.2; have qgr_715 := gr_715.1; have rgr_715 := gr_715.2; omega) hP hD hS (lv_sub hl [3, 4, 5, 2, 1, 0] rfl)
    · intro v1 v2 v3 v4 v5 z3 H locs ls gv1 gv2 gv3 gv5 hmu hP hD hS hl
      refine lv_iload hx hb dX9_countStarts_33 (lv_at hl 5 rfl) ?_
      refine lv_iload_n hx hb dX9_countStarts_35 rfl (lv_at hl 1 rfl) ?_
      refine lv_aload_n hx hb dX9_countStarts_36 rfl (lv_at hl 0 rfl) ?_
      refine va_get (D := (dC, dI)) (ci := 9) (v := .int full) (C := RX9) (T := TX9) (N := 6) hx hb hts (fun w h => List.mem_cons_of_mem _ (jnGA_X9 w h)) hown hK hP 0 rfl rfl 4 (by decide) (hts _ (List.mem_cons_of_mem _ mGA_562)) (fun _ h9 => h9) rfl dX9_countStarts_37 ?_
      refine lv_aload_n hx hb dX9_countStarts_40 rfl (lv_at hl 0 rfl) ?_
      refine va_get (D := (dC, dI)) (ci := 9) (v := .int lean) (C := RX9) (T := TX9) (N := 6) hx hb hts (fun w h => List.mem_cons_of_mem _ (jnGA_X9 w h)) hown hK hP 0 rfl rfl 5 (by decide) (hts _ (List.mem_cons_of_mem _ mGA_564)) (fun _ h9 => h9) rfl dX9_countStarts_41 ?_
      have hPc := hP.sub (ws' := []) [] rfl
      have hKc := hK.sub (tys' := []) [] rfl
      refine va_calli (va_runSN (As := [.int v1, .int full, .int lean]) (rest := [.int v5]) ⟨hx, hb, hml, hown, hts⟩ (sX11_lastRun l dC dI v1 full lean gv1 gfull glean) (⟨va_cnB 3 hts (gz_gP mGA_506 goodGA) rfl rfl rfl (nzA_X9_71 hz) (hts _ (List.mem_cons_of_mem _ mGA_1)) (by decide +kernel) ⟨Nat.le_trans (Nat.le_of_ble_eq_true rfl) hRf, Nat.le_trans (Nat.le_of_ble_eq_true rfl) hRl⟩, (hts _ (List.mem_cons_of_mem _ mGA_505)), trivial⟩) ⟨bl_I (bl_a bl_P (bl_a bl_K bl_nz)), fun U hU hW => ⟨rfl, by rw [hU]; exact hPc, va_K.moved hW.alike hKc, nzA_warm hW hz⟩⟩ rfl rfl hl.1 rfl (lv_room (Nat.le_of_ble_eq_true rfl)) dX9_countStarts_44 ⟨hRc, hRs⟩) hS (fun q _ h => h.elim) (fun q h => h.elim) (fun r_716 u t H1 locs ht hvm hw hB hz1 hk1 hS => ?_)
      have hP := gz_keep hP hk1
      generalize H1 = H at hP hS ⊢
      have gr_716 : gi r_716 0 10 := hw
      refine lv_icmp_gt (tgt := 80) hx hb dX9_countStarts_47 (by decide) (fun c_717 => ?_) (fun c_717 => ?_)
      · have g_718 : gi v5 1 11 := gi_lt_r c_717 gr_716 gv5 (by decide)
        refine lv_aload_n hx hb dX9_countStarts_80 rfl (lv_at hl 0 rfl) ?_
        refine va_get (D := (dC, dI)) (ci := 9) (v := .ref sa) (C := RX9) (T := TX9) (N := 6) hx hb hts (fun w h => List.mem_cons_of_mem _ (jnGA_X9 w h)) hown hK hP 0 rfl rfl 2 (by decide) (hts _ (List.mem_cons_of_mem _ mGA_113)) (fun _ h9 => h9) rfl dX9_countStarts_81 ?_
        refine lv_iload_n hx hb dX9_countStarts_84 rfl (lv_at hl 1 rfl) ?_
        refine lv_iload_n hx hb dX9_countStarts_85 rfl (lv_at hl 2 rfl) ?_
        have hPc := hP.sub (ws' := []) [] rfl
        have hKc := hK.sub (tys' := []) [] rfl
        refine va_calli (va_runSN (As := [.int v1, .int v2]) (rest := [.ref sa]) ⟨hx, hb, hml, hown, hts⟩ (sX11_cell l dC dI v1 v2 gv1 gv2) (⟨va_cnB 2 hts (gz_gP mGA_585 goodGA) rfl rfl rfl (nzA_X9_92 hz) (hts _ (List.mem_cons_of_mem _ mGA_1)) (by decide +kernel) ⟨Nat.le_trans (Nat.le_of_ble_eq_true rfl) hRf, Nat.le_trans (Nat.le_of_ble_eq_true rfl) hRl⟩, (hts _ (List.mem_cons_of_mem _ mGA_584)), trivial⟩) ⟨bl_I (bl_a bl_P (bl_a bl_K bl_nz)), fun U hU hW => ⟨rfl, by rw [hU]; exact hPc, va_K.moved hW.alike hKc, nzA_warm hW hz⟩⟩ rfl rfl hl.1 rfl (lv_room (Nat.le_of_ble_eq_true rfl)) dX9_countStarts_86 ⟨hRc, hRs⟩) hS (fun q _ h => h.elim) (fun q h => h.elim) (fun r_719 u t H1 locs ht hvm hw hB hz1 hk1 hS => ?_)
        have hP := gz_keep hP hk1
        generalize H1 = H at hP hS ⊢
        have gr_719 : gi r_719 0 324 := hw
        refine lv_iload hx hb dX9_countStarts_89 (lv_at hl 4 rfl) ?_
        refine va_iast hx hb hK hP hD hS 3 2 rfl rfl (gi_in gr_719 (by decide)) dX9_countStarts_91 (fun H locs hP hD hS => ?_)
        have hP : va_P (dC, dI) vwCl [(h0, .inr (9, [.ref bf, .ref bh, .ref sa, .int months, .int full, .int lean])), (bf, .inl (kbf, 3575, .inl fbf)), (bh, .inl (kbh, 3575, .inl fbh)), (sa, .inl (ksa, 325, .inl (upd z3 (r_719 : Int32).toNatClampNeg v4)))] H := hP
        have hD : va_D A [(h0, .inr (9, [.ref bf, .ref bh, .ref sa, .int months, .int full, .int lean])), (bf, .inl (kbf, 3575, .inl fbf)), (bh, .inl (kbh, 3575, .inl fbh)), (sa, .inl (ksa, 325, .inl (upd z3 (r_719 : Int32).toNatClampNeg v4)))] := hD
        generalize upd z3 (r_719 : Int32).toNatClampNeg v4 = f_720 at hP hD
        obtain ⟨x_721, ex_721⟩ : ∃ y : Int32, y = v2 + 1 := ⟨_, rfl⟩
        have gx_721 : gi x_721 1 25 := gi_add ex_721 gv2 (gi_c 1 1 (by decide)) (by decide)
        refine lv_iinc (v := x_721) (lv' := [(2, .int x_721), (0, .ref h0), (1, .int v1), (3, .int v3), (4, .int v4), (5, .int v5)]) hx hb dX9_countStarts_92 hl (k := 2) rfl (by rw [ex_721]; rfl) (by decide) rfl (fun ls hl => ?_)
        refine lv_goto (tgt := 12) hx hb dX9_countStarts_95 (by decide) ?_
        exact ih.2.1 v1 x_721 f_720 _ _ _ gv1 (gi_w gx_721 (by decide)) (by have av1 := gv1.1; have bv1 := gv1.2; have av2 := gv2.1; have bv2 := gv2.2; have av5 := gv5.1; have bv5 := gv5.2; have qgx_721 := gx_721.1; have rgx_721 := gx_721.2; have igx_721 : x_721.toInt = v2.toInt + 1 := (by have hc1 : (1 : Int32).toInt = 1 := (by decide); have h9 := gi_addI ex_721 (by have h1 := gv2.1; have h2 := (gi_c 1 1 (by decide)).1; have h3 := gv2.2; have h4 := (gi_c 1 1 (by decide)).2; omega) (by have h1 := gv2.1; have h2 := (gi_c 1 1 (by decide)).1; have h3 := gv2.2; have h4 := (gi_c 1 1 (by decide)).2; omega); rw [hc1] at h9; exact h9); have qgv2 := gv2.1; have rgv2 := gv2.2; have qgv1 := gv1.1; have rgv1 := gv1.2; omega) hP hD hS (lv_sub hl [1, 2, 0] rfl)
      · have g_722 : gi v5 0 10 := gi_le_l (Int32.not_lt.mp c_717) gv5 gr_716
        refine lv_iload hx hb dX9_countStarts_50 (lv_at hl 4 rfl) ?_
        refine lv_aload_n hx hb dX9_countStarts_52 rfl (lv_at hl 0 rfl) ?_
        refine va_get (D := (dC, dI)) (ci := 9) (v := .ref bf) (C := RX9) (T := TX9) (N := 6) hx hb hts (fun w h => List.mem_cons_of_mem _ (jnGA_X9 w h)) hown hK hP 0 rfl rfl 0 (by decide) (hts _ (List.mem_cons_of_mem _ mGA_111)) (fun _ h9 => h9) rfl dX9_countStarts_53 ?_
        refine lv_iload_n hx hb dX9_countStarts_56 rfl (lv_at hl 3 rfl) ?_
        refine lv_iload hx hb dX9_countStarts_57 (lv_at hl 5 rfl) ?_
        refine lv_iadd hx hb dX9_countStarts_59 ?_
        refine lv_topi (fun x_723 ex_723 => ?_)
        have gx_723 : gi x_723 0 3574 := gi_add ex_723 gv3 g_722 (by decide)
        refine va_iald hx hb hK hP 1 0 rfl rfl (gi_in gx_723 (by decide)) dX9_countStarts_60 ?_
        refine lv_topi (fun x_724 ex_724 => ?_)
        refine lv_aload_n hx hb dX9_countStarts_61 rfl (lv_at hl 0 rfl) ?_
        refine va_get (D := (dC, dI)) (ci := 9) (v := .ref bh) (C := RX9) (T := TX9) (N := 6) hx hb hts (fun w h => List.mem_cons_of_mem _ (jnGA_X9 w h)) hown hK hP 0 rfl rfl 1 (by decide) (hts _ (List.mem_cons_of_mem _ mGA_112)) (fun _ h9 => h9) rfl dX9_countStarts_62 ?_
        refine lv_iload_n hx hb dX9_countStarts_65 rfl (lv_at hl 3 rfl) ?_
        refine lv_iload hx hb dX9_countStarts_66 (lv_at hl 5 rfl) ?_
        refine lv_iadd hx hb dX9_countStarts_68 ?_
        refine lv_topi (fun x_725 ex_725 => ?_)
        have gx_725 : gi x_725 0 3574 := gi_add ex_725 gv3 g_722 (by decide)
        refine va_iald hx hb hK hP 2 1 rfl rfl (gi_in gx_725 (by decide)) dX9_countStarts_69 ?_
        refine lv_topi (fun x_726 ex_726 => ?_)
        refine lv_imul hx hb dX9_countStarts_70 ?_
        refine lv_topi (fun x_727 ex_727 => ?_)
        refine lv_iadd hx hb dX9_countStarts_71 ?_
        refine lv_topi (fun x_728 ex_728 => ?_)
        refine lv_istore (lv' := [(4, .int x_728), (0, .ref h0), (1, .int v1), (2, .int v2), (3, .int v3), (5, .int v5)]) hx hb dX9_countStarts_72 hl (by decide) rfl (fun ls hl => ?_)
        obtain ⟨x_729, ex_729⟩ : ∃ y : Int32, y = v5 + 1 := ⟨_, rfl⟩
        have gx_729 : gi x_729 1 11 := gi_add ex_729 g_722 (gi_c 1 1 (by decide)) (by decide)
        refine lv_iinc (v := x_729) (lv' := [(5, .int x_729), (4, .int x_728), (0, .ref h0), (1, .int v1), (2, .int v2), (3, .int v3)]) hx hb dX9_countStarts_74 hl (k := 5) rfl (by rw [ex_729]; rfl) (by decide) rfl (fun ls hl => ?_)
        refine lv_goto (tgt := 33) hx hb dX9_countStarts_77 (by decide) ?_
        exact ih.2.2 v1 v2 v3 x_728 x_729 z3 _ _ _ gv1 gv2 gv3 (gi_w gx_729 (by decide)) (by have av1 := gv1.1; have bv1 := gv1.2; have av2 := gv2.1; have bv2 := gv2.2; have av5 := gv5.1; have bv5 := gv5.2; have qgx_729 := gx_729.1; have rgx_729 := gx_729.2; have igx_729 : x_729.toInt = v5.toInt + 1 := (by have hc1 : (1 : Int32).toInt = 1 := (by decide); have h9 := gi_addI ex_729 (by have h1 := g_722.1; have h2 := (gi_c 1 1 (by decide)).1; have h3 := g_722.2; have h4 := (gi_c 1 1 (by decide)).2; omega) (by have h1 := g_722.1; have h2 := (gi_c 1 1 (by decide)).1; have h3 := g_722.2; have h4 := (gi_c 1 1 (by decide)).2; omega); rw [hc1] at h9; exact h9); have qgv5 := g_722.1; have rgv5 := g_722.2; have qgv2 := gv2.1; have rgv2 := gv2.2; have qgv1 := gv1.1; have rgv1 := gv1.2; omega) hP hD hS (lv_sub hl [2, 3, 4, 5, 1, 0] rfl)
abbrev pb_sX9_countStarts (dC : Nat → ClassId) (dI : Nat → Nat → Nat) (A9 : Nat → Prop) (h0 : Nat) (bf : Nat) (bh : Nat) (sa : Nat) (months : Int32) (full : Int32) (lean : Int32) (kbf : ClassId) (fbf : Nat → Int32) (kbh : ClassId) (fbh : Nat → Int32) (ksa : ClassId) (fsa : Nat → Int32) (z3 : Nat → Int32) (t : State) : Prop := va_P (dC, dI) vwCl [(h0, .inr (9, [.ref bf, .ref bh, .ref sa, .int months, .int full, .int lean])), (bf, .inl (kbf, 3575, .inl fbf)), (bh, .inl (kbh, 3575, .inl fbh)), (sa, .inl (ksa, 325, .inl z3))] t.heap ∧ va_D A9 [(h0, .inr (9, [.ref bf, .ref bh, .ref sa, .int months, .int full, .int lean])), (bf, .inl (kbf, 3575, .inl fbf)), (bh, .inl (kbh, 3575, .inl fbh)), (sa, .inl (ksa, 325, .inl z3))]
set_option maxHeartbeats 4000000 in
set_option maxRecDepth 100000 in
theorem sX9_countStarts (l : Launch) (dC : Nat → ClassId) (dI : Nat → Nat → Nat) (sz : Nat) (h0 : Nat) (bf : Nat) (bh : Nat) (sa : Nat) (months : Int32) (full : Int32) (lean : Int32) (kbf : ClassId) (fbf : Nat → Int32) (kbh : ClassId) (fbh : Nat → Int32) (ksa : ClassId) (fsa : Nat → Int32) (gmonths : gi months 0 24) (gfull : gi full 0 5) (glean : gi lean 0 5) : Met l yX9_countStarts (.code yX9_countStarts cX9_countStarts 6 none :: wsGA) ({ frames := 2, cells := 0, slots := 0, locals := 43 }) (va_Pc [.ref h0] (fun U => U.heap.size = sz ∧ va_P (dC, dI) vwCl [(h0, .inr (9, [.ref bf, .ref bh, .ref sa, .int months, .int full, .int lean])), (bf, .inl (kbf, 3575, .inl fbf)), (bh, .inl (kbh, 3575, .inl fbh)), (sa, .inl (ksa, 325, .inl fsa))] U.heap ∧ va_K (dC, dI) vwCl [(kbf, .int), (kbh, .int), (ksa, .int)] U ∧ va_D (fun _ => True) [(h0, .inr (9, [.ref bf, .ref bh, .ref sa, .int months, .int full, .int lean])), (bf, .inl (kbf, 3575, .inl fbf)), (bh, .inl (kbh, 3575, .inl fbh)), (sa, .inl (ksa, 325, .inl fsa))] ∧ nzA U)) (va_Qv (fun (u : Unit) => True) (fun _ t => ∃ (z3 : Nat → Int32), pb_sX9_countStarts dC dI (va_A [(h0, .inr (9, [.ref bf, .ref bh, .ref sa, .int months, .int full, .int lean])), (bf, .inl (kbf, 3575, .inl fbf)), (bh, .inl (kbh, 3575, .inl fbh)), (sa, .inl (ksa, 325, .inl fsa))] sz) h0 bf bh sa months full lean kbf fbf kbh fbh ksa fsa z3 t) (va_A [(h0, .inr (9, [.ref bf, .ref bh, .ref sa, .int months, .int full, .int lean])), (bf, .inl (kbf, 3575, .inl fbf)), (bh, .inl (kbh, 3575, .inl fbh)), (sa, .inl (ksa, 325, .inl fsa))] sz)) 0 0 (va_A [(h0, .inr (9, [.ref bf, .ref bh, .ref sa, .int months, .int full, .int lean])), (bf, .inl (kbf, 3575, .inl fbf)), (bh, .inl (kbh, 3575, .inl fbh)), (sa, .inl (ksa, 325, .inl fsa))] sz) := by
  refine Met.ofW (cc := cX9_countStarts) (maxL := 6) (ret := none) (by decide) rfl ?_
  intro p e s m args below meth c s₁ B hml hv
  obtain ⟨rfl, hsz, hP, hK, hD0, hz⟩ := hv
  have hx := B.exec
  have hb := B.bytes
  have hr := B.returns
  have hts := atoms_spec (ws := (.code yX9_countStarts cX9_countStarts 6 none :: wsGA)) B.pre
  have hown : s.vm.findClass RX9 = some m.cls := findClass_of_methodNamed B.named
  have hlocks := B.notSynchronized
  subst hsz
  have hD := hD0.self (sz := s.heap.size)
  generalize hAe : va_A [(h0, .inr (9, [.ref bf, .ref bh, .ref sa, .int months, .int full, .int lean])), (bf, .inl (kbf, 3575, .inl fbf)), (bh, .inl (kbh, 3575, .inl fbh)), (sa, .inl (ksa, 325, .inl fsa))] s.heap.size = A at hD ⊢
  have hA : ∀ q : Nat, s.heap.size ≤ q → A q := fun q h => by rw [← hAe]; exact Or.inr h
  have hS : va_S A s.heap s.heap [] := va_S.rf
  have hl := lv_entry ([.ref h0]) (n := 6) (Nat.le_of_ble_eq_true rfl)
  rw [lg_entry_eq]
  generalize (lg_sl ([.ref h0]) ++ List.replicate (6 - (lg_sl ([.ref h0])).length) Slot.unset).toArray = ls at hl ⊢
  have hl : lv_has ls 6 [(0, .ref h0)] := hl
  refine lv_iconst (v := 0) hx hb dX9_countStarts_0 (by decide) ?_
  refine lv_istore_n (lv' := [(1, .int 0), (0, .ref h0)]) hx hb dX9_countStarts_1 rfl hl (by decide) rfl (fun ls hl => ?_)
  refine (lp_sX9_countStarts h0 bf bh sa months full lean kbf fbf kbh fbh ksa fsa gmonths gfull glean hx hb hml hown hts hK hz hA (Nat.le_of_ble_eq_true rfl) (Nat.le_of_ble_eq_true rfl) (Nat.zero_le _) (Nat.zero_le _) (fun z3 H locs ls hP hD hS hl => ?_) 20476).1 0 fsa _ _ _ (gi_w (gi_c 0 0 (by decide)) (by decide)) (by have k0 : (0 : Int32).toInt = 0 := (by decide); omega) hP hD hS (lv_sub hl [1, 0] rfl)
  · skip
    exact W.vret hx hb hr (fun t ht hW => ⟨⟨(), rfl, trivial, z3, by rw [ht]; exact hP, hD⟩, hS.F ht⟩) hS.2.2 dX9_countStarts_104
theorem dX9_countBehind_0 : decode cX9_countBehind 0 = .ok (.aload_n 0, 1) := by decide +kernel
theorem dX9_countBehind_1 : decode cX9_countBehind 1 = .ok (.getfield 27, 3) := by decide +kernel
theorem dX9_countBehind_4 : decode cX9_countBehind 4 = .ok (.iconst 0, 1) := by decide +kernel
theorem dX9_countBehind_5 : decode cX9_countBehind 5 = .ok (.iconst 0, 1) := by decide +kernel
theorem dX9_countBehind_6 : decode cX9_countBehind 6 = .ok (.invokestatic 63, 3) := by decide +kernel
theorem dX9_countBehind_9 : decode cX9_countBehind 9 = .ok (.istore_n 1, 1) := by decide +kernel
theorem dX9_countBehind_10 : decode cX9_countBehind 10 = .ok (.iload_n 1, 1) := by decide +kernel
theorem dX9_countBehind_11 : decode cX9_countBehind 11 = .ok (.istore_n 2, 1) := by decide +kernel
theorem dX9_countBehind_12 : decode cX9_countBehind 12 = .ok (.iload_n 2, 1) := by decide +kernel
theorem dX9_countBehind_13 : decode cX9_countBehind 13 = .ok (.iload_n 1, 1) := by decide +kernel
theorem dX9_countBehind_14 : decode cX9_countBehind 14 = .ok (.aload_n 0, 1) := by decide +kernel
theorem dX9_countBehind_15 : decode cX9_countBehind 15 = .ok (.getfield 27, 3) := by decide +kernel
theorem dX9_countBehind_18 : decode cX9_countBehind 18 = .ok (.iconst 1, 1) := by decide +kernel
theorem dX9_countBehind_19 : decode cX9_countBehind 19 = .ok (.iadd, 1) := by decide +kernel
theorem dX9_countBehind_20 : decode cX9_countBehind 20 = .ok (.bipush 11, 2) := by decide +kernel
theorem dX9_countBehind_22 : decode cX9_countBehind 22 = .ok (.imul, 1) := by decide +kernel
theorem dX9_countBehind_23 : decode cX9_countBehind 23 = .ok (.iadd, 1) := by decide +kernel
theorem dX9_countBehind_24 : decode cX9_countBehind 24 = .ok (.if_icmp .ge 25, 3) := by decide +kernel
theorem dX9_countBehind_27 : decode cX9_countBehind 27 = .ok (.aload_n 0, 1) := by decide +kernel
theorem dX9_countBehind_28 : decode cX9_countBehind 28 = .ok (.getfield 15, 3) := by decide +kernel
theorem dX9_countBehind_31 : decode cX9_countBehind 31 = .ok (.iload_n 2, 1) := by decide +kernel
theorem dX9_countBehind_32 : decode cX9_countBehind 32 = .ok (.aload_n 0, 1) := by decide +kernel
theorem dX9_countBehind_33 : decode cX9_countBehind 33 = .ok (.getfield 9, 3) := by decide +kernel
theorem dX9_countBehind_36 : decode cX9_countBehind 36 = .ok (.iload_n 2, 1) := by decide +kernel
theorem dX9_countBehind_37 : decode cX9_countBehind 37 = .ok (.iaload, 1) := by decide +kernel
theorem dX9_countBehind_38 : decode cX9_countBehind 38 = .ok (.iconst 1, 1) := by decide +kernel
theorem dX9_countBehind_39 : decode cX9_countBehind 39 = .ok (.invokestatic 81, 3) := by decide +kernel
theorem dX9_countBehind_42 : decode cX9_countBehind 42 = .ok (.iastore, 1) := by decide +kernel
theorem dX9_countBehind_43 : decode cX9_countBehind 43 = .ok (.iinc 2 1, 3) := by decide +kernel
theorem dX9_countBehind_46 : decode cX9_countBehind 46 = .ok (.goto (-34), 3) := by decide +kernel
theorem dX9_countBehind_49 : decode cX9_countBehind 49 = .ok (.aload_n 0, 1) := by decide +kernel
theorem dX9_countBehind_50 : decode cX9_countBehind 50 = .ok (.getfield 27, 3) := by decide +kernel
theorem dX9_countBehind_53 : decode cX9_countBehind 53 = .ok (.iconst 1, 1) := by decide +kernel
theorem dX9_countBehind_54 : decode cX9_countBehind 54 = .ok (.isub, 1) := by decide +kernel
theorem dX9_countBehind_55 : decode cX9_countBehind 55 = .ok (.istore_n 2, 1) := by decide +kernel
theorem dX9_countBehind_56 : decode cX9_countBehind 56 = .ok (.iload_n 2, 1) := by decide +kernel
theorem dX9_countBehind_57 : decode cX9_countBehind 57 = .ok (.ifCond .lt 99, 3) := by decide +kernel
theorem dX9_countBehind_60 : decode cX9_countBehind 60 = .ok (.iconst 0, 1) := by decide +kernel
theorem dX9_countBehind_61 : decode cX9_countBehind 61 = .ok (.istore_n 3, 1) := by decide +kernel
theorem dX9_countBehind_62 : decode cX9_countBehind 62 = .ok (.iload_n 3, 1) := by decide +kernel
theorem dX9_countBehind_63 : decode cX9_countBehind 63 = .ok (.iload_n 2, 1) := by decide +kernel
theorem dX9_countBehind_64 : decode cX9_countBehind 64 = .ok (.if_icmp .gt 86, 3) := by decide +kernel
theorem dX9_countBehind_67 : decode cX9_countBehind 67 = .ok (.iload_n 2, 1) := by decide +kernel
theorem dX9_countBehind_68 : decode cX9_countBehind 68 = .ok (.iload_n 3, 1) := by decide +kernel
theorem dX9_countBehind_69 : decode cX9_countBehind 69 = .ok (.iconst 0, 1) := by decide +kernel
theorem dX9_countBehind_70 : decode cX9_countBehind 70 = .ok (.invokestatic 63, 3) := by decide +kernel
theorem dX9_countBehind_73 : decode cX9_countBehind 73 = .ok (.istore 4, 2) := by decide +kernel
theorem dX9_countBehind_75 : decode cX9_countBehind 75 = .ok (.iload_n 2, 1) := by decide +kernel
theorem dX9_countBehind_76 : decode cX9_countBehind 76 = .ok (.invokestatic 67, 3) := by decide +kernel
theorem dX9_countBehind_79 : decode cX9_countBehind 79 = .ok (.istore 5, 2) := by decide +kernel
theorem dX9_countBehind_81 : decode cX9_countBehind 81 = .ok (.iload 5, 2) := by decide +kernel
theorem dX9_countBehind_83 : decode cX9_countBehind 83 = .ok (.iload_n 2, 1) := by decide +kernel
theorem dX9_countBehind_84 : decode cX9_countBehind 84 = .ok (.aload_n 0, 1) := by decide +kernel
theorem dX9_countBehind_85 : decode cX9_countBehind 85 = .ok (.getfield 31, 3) := by decide +kernel
theorem dX9_countBehind_88 : decode cX9_countBehind 88 = .ok (.aload_n 0, 1) := by decide +kernel
theorem dX9_countBehind_89 : decode cX9_countBehind 89 = .ok (.getfield 35, 3) := by decide +kernel
theorem dX9_countBehind_92 : decode cX9_countBehind 92 = .ok (.invokestatic 71, 3) := by decide +kernel
theorem dX9_countBehind_95 : decode cX9_countBehind 95 = .ok (.if_icmp .gt 49, 3) := by decide +kernel
theorem dX9_countBehind_98 : decode cX9_countBehind 98 = .ok (.aload_n 0, 1) := by decide +kernel
theorem dX9_countBehind_99 : decode cX9_countBehind 99 = .ok (.getfield 9, 3) := by decide +kernel
theorem dX9_countBehind_102 : decode cX9_countBehind 102 = .ok (.iload 4, 2) := by decide +kernel
theorem dX9_countBehind_104 : decode cX9_countBehind 104 = .ok (.iload 5, 2) := by decide +kernel
theorem dX9_countBehind_106 : decode cX9_countBehind 106 = .ok (.iadd, 1) := by decide +kernel
theorem dX9_countBehind_107 : decode cX9_countBehind 107 = .ok (.iaload, 1) := by decide +kernel
theorem dX9_countBehind_108 : decode cX9_countBehind 108 = .ok (.ifCond .le 30, 3) := by decide +kernel
theorem dX9_countBehind_111 : decode cX9_countBehind 111 = .ok (.aload_n 0, 1) := by decide +kernel
theorem dX9_countBehind_112 : decode cX9_countBehind 112 = .ok (.getfield 15, 3) := by decide +kernel
theorem dX9_countBehind_115 : decode cX9_countBehind 115 = .ok (.iload 4, 2) := by decide +kernel
theorem dX9_countBehind_117 : decode cX9_countBehind 117 = .ok (.iload 5, 2) := by decide +kernel
theorem dX9_countBehind_119 : decode cX9_countBehind 119 = .ok (.iadd, 1) := by decide +kernel
theorem dX9_countBehind_120 : decode cX9_countBehind 120 = .ok (.aload_n 0, 1) := by decide +kernel
theorem dX9_countBehind_121 : decode cX9_countBehind 121 = .ok (.iload_n 2, 1) := by decide +kernel
theorem dX9_countBehind_122 : decode cX9_countBehind 122 = .ok (.iload_n 3, 1) := by decide +kernel
theorem dX9_countBehind_123 : decode cX9_countBehind 123 = .ok (.iload 5, 2) := by decide +kernel
theorem dX9_countBehind_125 : decode cX9_countBehind 125 = .ok (.invokevirtual 86, 3) := by decide +kernel
theorem dX9_countBehind_128 : decode cX9_countBehind 128 = .ok (.aload_n 0, 1) := by decide +kernel
theorem dX9_countBehind_129 : decode cX9_countBehind 129 = .ok (.iload_n 2, 1) := by decide +kernel
theorem dX9_countBehind_130 : decode cX9_countBehind 130 = .ok (.iload_n 3, 1) := by decide +kernel
theorem dX9_countBehind_131 : decode cX9_countBehind 131 = .ok (.iload 5, 2) := by decide +kernel
theorem dX9_countBehind_133 : decode cX9_countBehind 133 = .ok (.invokevirtual 89, 3) := by decide +kernel
theorem dX9_countBehind_136 : decode cX9_countBehind 136 = .ok (.iadd, 1) := by decide +kernel
theorem dX9_countBehind_137 : decode cX9_countBehind 137 = .ok (.iastore, 1) := by decide +kernel
theorem dX9_countBehind_138 : decode cX9_countBehind 138 = .ok (.iinc 5 1, 3) := by decide +kernel
theorem dX9_countBehind_141 : decode cX9_countBehind 141 = .ok (.goto (-60), 3) := by decide +kernel
theorem dX9_countBehind_144 : decode cX9_countBehind 144 = .ok (.iinc 3 1, 3) := by decide +kernel
theorem dX9_countBehind_147 : decode cX9_countBehind 147 = .ok (.goto (-85), 3) := by decide +kernel
theorem dX9_countBehind_150 : decode cX9_countBehind 150 = .ok (.iinc 2 (-1), 3) := by decide +kernel
theorem dX9_countBehind_153 : decode cX9_countBehind 153 = .ok (.goto (-97), 3) := by decide +kernel
theorem dX9_countBehind_156 : decode cX9_countBehind 156 = .ok (.return_, 1) := by decide +kernel
set_option maxHeartbeats 4000000 in
set_option maxRecDepth 100000 in
theorem lp_sX9_countBehind {p : Program} {l : Launch} {e : Env} {R : Room} {s : State} {m : MethodId} {args : Array Value} {below : List Frame} {meth : Method} {c : Code} {Q : State → Prop} {A : Nat → Prop} {cells slots : Nat} {dC : Nat → ClassId} {dI : Nat → Nat → Nat} (h0 : Nat) (bf : Nat) (bh : Nat) (sa : Nat) (months : Int32) (full : Int32) (lean : Int32) (kbf : ClassId) (fbf : Nat → Int32) (kbh : ClassId) (fbh : Nat → Int32) (gmonths : gi months 0 24) (gfull : gi full 0 5) (glean : gi lean 0 5) (hx : p.tables.exec = Jvm.exec) (hb : c.code = cX9_countBehind) (hml : c.maxLocals = 6) (hown : s.vm.findClass RX9 = some m.cls) (hts : ∀ w ∈ ((.code yX9_countBehind cX9_countBehind 6 none :: wsGA) : List Cond), w.before args s = true) (hK : va_K (dC, dI) vwCl [(kbf, .int), (kbh, .int)] s) (hz : nzA s) (hA : ∀ q : Nat, s.heap.size ≤ q → A q) (hRf : 3 ≤ R.frames) (hRl : 66 ≤ R.locals) (hRc : cells ≤ R.cells) (hRs : slots ≤ R.slots) (kr156 : ∀ (z2 : Nat → Int32) (H : Heap) (locs : List Loc) (ls : Array Slot), va_P (dC, dI) vwCl [(h0, .inr (9, [.ref bf, .ref bh, .ref sa, .int months, .int full, .int lean])), (bf, .inl (kbf, 3575, .inl fbf)), (bh, .inl (kbh, 3575, .inl z2))] H → va_D A [(h0, .inr (9, [.ref bf, .ref bh, .ref sa, .int months, .int full, .int lean])), (bf, .inl (kbf, 3575, .inl fbf)), (bh, .inl (kbh, 3575, .inl z2))] → va_S A s.heap H locs → lv_has ls 6 [] → W p l e R s m args below meth c H locs cells slots Q (F0 m 156 ls [])) : ∀ z : Nat, (∀ (v1 : Int32) (v2 : Int32) (z2 : Nat → Int32) (H : Heap) (locs : List Loc) (ls : Array Slot), gi v1 0 3300 → gi v2 0 3575 → 26131 + (-2) * v2.toInt < (z : Int) → va_P (dC, dI) vwCl [(h0, .inr (9, [.ref bf, .ref bh, .ref sa, .int months, .int full, .int lean])), (bf, .inl (kbf, 3575, .inl fbf)), (bh, .inl (kbh, 3575, .inl z2))] H → va_D A [(h0, .inr (9, [.ref bf, .ref bh, .ref sa, .int months, .int full, .int lean])), (bf, .inl (kbf, 3575, .inl fbf)), (bh, .inl (kbh, 3575, .inl z2))] → va_S A s.heap H locs → lv_has ls 6 [(0, .ref h0), (1, .int v1), (2, .int v2)] → W p l e R s m args below meth c H locs cells slots Q (F0 m 12 ls [])) ∧ (∀ (v1 : Int32) (v2 : Int32) (z2 : Nat → Int32) (H : Heap) (locs : List Loc) (ls : Array Slot), gi v1 0 3300 → gi v2 (-1) 23 → 731 + 730 * v2.toInt < (z : Int) → va_P (dC, dI) vwCl [(h0, .inr (9, [.ref bf, .ref bh, .ref sa, .int months, .int full, .int lean])), (bf, .inl (kbf, 3575, .inl fbf)), (bh, .inl (kbh, 3575, .inl z2))] H → va_D A [(h0, .inr (9, [.ref bf, .ref bh, .ref sa, .int months, .int full, .int lean])), (bf, .inl (kbf, 3575, .inl fbf)), (bh, .inl (kbh, 3575, .inl z2))] → va_S A s.heap H locs → lv_has ls 6 [(0, .ref h0), (1, .int v1), (2, .int v2)] → W p l e R s m args below meth c H locs cells slots Q (F0 m 56 ls [])) ∧ (∀ (v1 : Int32) (v2 : Int32) (v3 : Int32) (z2 : Nat → Int32) (H : Heap) (locs : List Loc) (ls : Array Slot), gi v1 0 3300 → gi v2 0 23 → gi v3 0 24 → 674 + 730 * v2.toInt + (-28) * v3.toInt < (z : Int) → va_P (dC, dI) vwCl [(h0, .inr (9, [.ref bf, .ref bh, .ref sa, .int months, .int full, .int lean])), (bf, .inl (kbf, 3575, .inl fbf)), (bh, .inl (kbh, 3575, .inl z2))] H → va_D A [(h0, .inr (9, [.ref bf, .ref bh, .ref sa, .int months, .int full, .int lean])), (bf, .inl (kbf, 3575, .inl fbf)), (bh, .inl (kbh, 3575, .inl z2))] → va_S A s.heap H locs → lv_has ls 6 [(0, .ref h0), (1, .int v1), (2, .int v2), (3, .int v3)] → W p l e R s m args below meth c H locs cells slots Q (F0 m 62 ls [])) ∧ (∀ (v1 : Int32) (v2 : Int32) (v3 : Int32) (v4 : Int32) (v5 : Int32) (z2 : Nat → Int32) (H : Heap) (locs : List Loc) (ls : Array Slot), gi v1 0 3300 → gi v2 0 23 → gi v3 0 23 → gi v4 0 3564 → gi v5 0 11 → 669 + 730 * v2.toInt + (-28) * v3.toInt + (-2) * v5.toInt < (z : Int) → va_P (dC, dI) vwCl [(h0, .inr (9, [.ref bf, .ref bh, .ref sa, .int months, .int full, .int lean])), (bf, .inl (kbf, 3575, .inl fbf)), (bh, .inl (kbh, 3575, .inl z2))] H → va_D A [(h0, .inr (9, [.ref bf, .ref bh, .ref sa, .int months, .int full, .int lean])), (bf, .inl (kbf, 3575, .inl fbf)), (bh, .inl (kbh, 3575, .inl z2))] → va_S A s.heap H locs → lv_has ls 6 [(0, .ref h0), (1, .int v1), (2, .int v2), (3, .int v3), (4, .int v4), (5, .int v5)] → W p l e R s m args below meth c H locs cells slots Q (F0 m 81 ls [])) := by
  intro z
  induction z with
  | zero =>
    refine ⟨?_, ?_, ?_, ?_⟩
    · intro v1 v2 z2 H locs ls gv1 gv2 hmu hP hD hS hl
      exact absurd hmu (by have hv21 := gv2.1; have hv22 := gv2.2; omega)
    · intro v1 v2 z2 H locs ls gv1 gv2 hmu hP hD hS hl
      exact absurd hmu (by have hv21 := gv2.1; have hv22 := gv2.2; omega)
    · intro v1 v2 v3 z2 H locs ls gv1 gv2 gv3 hmu hP hD hS hl
      exact absurd hmu (by have hv21 := gv2.1; have hv22 := gv2.2; have hv31 := gv3.1; have hv32 := gv3.2; omega)
    · intro v1 v2 v3 v4 v5 z2 H locs ls gv1 gv2 gv3 gv4 gv5 hmu hP hD hS hl
      exact absurd hmu (by have hv21 := gv2.1; have hv22 := gv2.2; have hv31 := gv3.1; have hv32 := gv3.2; have hv51 := gv5.1; have hv52 := gv5.2; omega)
  | succ z ih =>
    refine ⟨?_, ?_, ?_, ?_⟩
    · intro v1 v2 z2 H locs ls gv1 gv2 hmu hP hD hS hl
      refine lv_iload_n hx hb dX9_countBehind_12 rfl (lv_at hl 2 rfl) ?_
      refine lv_iload_n hx hb dX9_countBehind_13 rfl (lv_at hl 1 rfl) ?_
      refine lv_aload_n hx hb dX9_countBehind_14 rfl (lv_at hl 0 rfl) ?_
      refine va_get (D := (dC, dI)) (ci := 9) (v := .int months) (C := RX9) (T := TX9) (N := 6) hx hb hts (fun w h => List.mem_cons_of_mem _ (jnGA_X9 w h)) hown hK hP 0 rfl rfl 3 (by decide) (hts _ (List.mem_cons_of_mem _ mGA_560)) (fun _ h9 => h9) rfl dX9_countBehind_15 ?_
      refine lv_iconst (v := 1) hx hb dX9_countBehind_18 (by decide) ?_
      refine lv_iadd hx hb dX9_countBehind_19 ?_
      refine lv_topi (fun x_568 ex_568 => ?_)
      have gx_568 : gi x_568 1 25 := gi_add ex_568 gmonths (gi_c 1 1 (by decide)) (by decide)
      refine lv_bipush (v := 11) hx hb dX9_countBehind_20 (by decide) ?_
      refine lv_imul hx hb dX9_countBehind_22 ?_
      refine lv_topi (fun x_569 ex_569 => ?_)
      have gx_569 : gi x_569 11 275 := gi_mul ex_569 gx_568 (gi_c 11 11 (by decide)) (by decide)
      refine lv_iadd hx hb dX9_countBehind_23 ?_
      refine lv_topi (fun x_570 ex_570 => ?_)
      have gx_570 : gi x_570 11 3575 := gi_add ex_570 gv1 gx_569 (by decide)
      refine lv_icmp_ge (tgt := 49) hx hb dX9_countBehind_24 (by decide) (fun c_571 => ?_) (fun c_571 => ?_)
      · have g_572 : gi v2 11 3575 := gi_le_r c_571 gx_570 gv2
        refine lv_aload_n hx hb dX9_countBehind_49 rfl (lv_at hl 0 rfl) ?_
        refine va_get (D := (dC, dI)) (ci := 9) (v := .int months) (C := RX9) (T := TX9) (N := 6) hx hb hts (fun w h => List.mem_cons_of_mem _ (jnGA_X9 w h)) hown hK hP 0 rfl rfl 3 (by decide) (hts _ (List.mem_cons_of_mem _ mGA_560)) (fun _ h9 => h9) rfl dX9_countBehind_50 ?_
        refine lv_iconst (v := 1) hx hb dX9_countBehind_53 (by decide) ?_
        refine lv_isub hx hb dX9_countBehind_54 ?_
        refine lv_topi (fun x_573 ex_573 => ?_)
        have gx_573 : gi x_573 (-1) 23 := gi_sub ex_573 gmonths (gi_c 1 1 (by decide)) (by decide)
        refine lv_istore_n (lv' := [(2, .int x_573), (0, .ref h0), (1, .int v1)]) hx hb dX9_countBehind_55 rfl hl (by decide) rfl (fun ls hl => ?_)
        exact ih.2.1 v1 x_573 z2 _ _ _ gv1 gx_573 (by have av2 := gv2.1; have bv2 := gv2.2; have qgx_573 := gx_573.1; have rgx_573 := gx_573.2; have igx_573 : x_573.toInt = months.toInt - 1 := (by have hc1 : (1 : Int32).toInt = 1 := (by decide); have h9 := gi_subI ex_573 (by have h1 := gmonths.1; have h2 := (gi_c 1 1 (by decide)).1; have h3 := gmonths.2; have h4 := (gi_c 1 1 (by decide)).2; omega) (by have h1 := gmonths.1; have h2 := (gi_c 1 1 (by decide)).1; have h3 := gmonths.2; have h4 := (gi_c 1 1 (by decide)).2; omega); rw [hc1] at h9; exact h9); have qgmonths := gmonths.1; have rgmonths := gmonths.2; omega) hP hD hS (lv_sub hl [1, 2, 0] rfl)
      · have g_574 : gi v2 0 3574 := gi_lt_l (Int32.not_le.mp c_571) gv2 gx_570 (by decide)
        refine lv_aload_n hx hb dX9_countBehind_27 rfl (lv_at hl 0 rfl) ?_
        refine va_get (D := (dC, dI)) (ci := 9) (v := .ref bh) (C := RX9) (T := TX9) (N := 6) hx hb hts (fun w h => List.mem_cons_of_mem _ (jnGA_X9 w h)) hown hK hP 0 rfl rfl 1 (by decide) (hts _ (List.mem_cons_of_mem _ mGA_112)) (fun _ h9 => h9) rfl dX9_countBehind_28 ?_
        refine lv_iload_n hx hb dX9_countBehind_31 rfl (lv_at hl 2 rfl) ?_
        refine lv_aload_n hx hb dX9_countBehind_32 rfl (lv_at hl 0 rfl) ?_
        refine va_get (D := (dC, dI)) (ci := 9) (v := .ref bf) (C := RX9) (T := TX9) (N := 6) hx hb hts (fun w h => List.mem_cons_of_mem _ (jnGA_X9 w h)) hown hK hP 0 rfl rfl 0 (by decide) (hts _ (List.mem_cons_of_mem _ mGA_111)) (fun _ h9 => h9) rfl dX9_countBehind_33 ?_
        refine lv_iload_n hx hb dX9_countBehind_36 rfl (lv_at hl 2 rfl) ?_
        refine va_iald hx hb hK hP 1 0 rfl rfl (gi_in g_574 (by decide)) dX9_countBehind_37 ?_
        refine lv_topi (fun x_575 ex_575 => ?_)
        refine lv_iconst (v := 1) hx hb dX9_countBehind_38 (by decide) ?_
        refine va_mmin (own := RX9) hx hb (by rw [hml]; exact hl.1.symm) hown (hts _ (List.mem_cons_of_mem _ mGA_594)) (hts _ (List.mem_cons_of_mem _ mGA_268)) (hts _ (List.mem_cons_of_mem _ mGA_269)) (hts _ (List.mem_cons_of_mem _ mGA_270)) (Nat.le_trans (Nat.le_of_ble_eq_true rfl) hRf) (Nat.le_trans (Nat.le_of_ble_eq_true rfl) hRl) hRc hRs dX9_countBehind_39 ?_
        refine lv_topi (fun x_576 ex_576 => ?_)
        have gx_576 : gi x_576 (-2147483648) 1 := gi_min ex_576 (gi_any x_575) (gi_c 1 1 (by decide)) (by decide)
        refine va_iast hx hb hK hP hD hS 2 1 rfl rfl (gi_in g_574 (by decide)) dX9_countBehind_42 (fun H locs hP hD hS => ?_)
        have hP : va_P (dC, dI) vwCl [(h0, .inr (9, [.ref bf, .ref bh, .ref sa, .int months, .int full, .int lean])), (bf, .inl (kbf, 3575, .inl fbf)), (bh, .inl (kbh, 3575, .inl (upd z2 (v2 : Int32).toNatClampNeg x_576)))] H := hP
        have hD : va_D A [(h0, .inr (9, [.ref bf, .ref bh, .ref sa, .int months, .int full, .int lean])), (bf, .inl (kbf, 3575, .inl fbf)), (bh, .inl (kbh, 3575, .inl (upd z2 (v2 : Int32).toNatClampNeg x_576)))] := hD
        generalize upd z2 (v2 : Int32).toNatClampNeg x_576 = f_577 at hP hD
        obtain ⟨x_578, ex_578⟩ : ∃ y : Int32, y = v2 + 1 := ⟨_, rfl⟩
        have gx_578 : gi x_578 1 3575 := gi_add ex_578 g_574 (gi_c 1 1 (by decide)) (by decide)
        refine lv_iinc (v := x_578) (lv' := [(2, .int x_578), (0, .ref h0), (1, .int v1)]) hx hb dX9_countBehind_43 hl (k := 2) rfl (by rw [ex_578]; rfl) (by decide) rfl (fun ls hl => ?_)
        refine lv_goto (tgt := 12) hx hb dX9_countBehind_46 (by decide) ?_
        exact ih.1 v1 x_578 f_577 _ _ _ gv1 (gi_w gx_578 (by decide)) (by have av2 := gv2.1; have bv2 := gv2.2; have qgx_578 := gx_578.1; have rgx_578 := gx_578.2; have igx_578 : x_578.toInt = v2.toInt + 1 := (by have hc1 : (1 : Int32).toInt = 1 := (by decide); have h9 := gi_addI ex_578 (by have h1 := g_574.1; have h2 := (gi_c 1 1 (by decide)).1; have h3 := g_574.2; have h4 := (gi_c 1 1 (by decide)).2; omega) (by have h1 := g_574.1; have h2 := (gi_c 1 1 (by decide)).1; have h3 := g_574.2; have h4 := (gi_c 1 1 (by decide)).2; omega); rw [hc1] at h9; exact h9); have qgv2 := g_574.1; have rgv2 := g_574.2; omega) hP hD hS (lv_sub hl [1, 2, 0] rfl)
    · intro v1 v2 z2 H locs ls gv1 gv2 hmu hP hD hS hl
      refine lv_iload_n hx hb dX9_countBehind_56 rfl (lv_at hl 2 rfl) ?_
      refine lv_if_lt (tgt := 156) hx hb dX9_countBehind_57 (by decide) (fun c_579 => ?_) (fun c_579 => ?_)
      · have g_580 : gi v2 (-1) (-1) := gi_lt_l c_579 gv2 (gi_c 0 0 (by decide)) (by decide)
        exact kr156 z2 _ _ _ hP hD hS (lv_sub hl [] rfl)
      · have g_581 : gi v2 0 23 := gi_le_r (Int32.not_lt.mp c_579) (gi_c 0 0 (by decide)) gv2
        refine lv_iconst (v := 0) hx hb dX9_countBehind_60 (by decide) ?_
        refine lv_istore_n (lv' := [(3, .int 0), (0, .ref h0), (1, .int v1), (2, .int v2)]) hx hb dX9_countBehind_61 rfl hl (by decide) rfl (fun ls hl => ?_)
        exact ih.2.2.1 v1 v2 0 z2 _ _ _ gv1 g_581 (gi_w (gi_c 0 0 (by decide)) (by decide)) (by have k0 : (0 : Int32).toInt = 0 := (by decide); have av2 := gv2.1; have bv2 := gv2.2; have qgv2 := g_581.1; have rgv2 := g_581.2; omega) hP hD hS (lv_sub hl [1, 2, 3, 0] rfl)
    · intro v1 v2 v3 z2 H locs ls gv1 gv2 gv3 hmu hP hD hS hl
      refine lv_iload_n hx hb dX9_countBehind_62 rfl (lv_at hl 3 rfl) ?_
      refine lv_iload_n hx hb dX9_countBehind_63 rfl (lv_at hl 2 rfl) ?_
      refine lv_icmp_gt (tgt := 150) hx hb dX9_countBehind_64 (by decide) (fun c_582 => ?_) (fun c_582 => ?_)
      · have g_583 : gi v3 1 24 := gi_lt_r c_582 gv2 gv3 (by decide)
        obtain ⟨x_584, ex_584⟩ : ∃ y : Int32, y = v2 + (-1) := ⟨_, rfl⟩
        have gx_584 : gi x_584 (-1) 22 := gi_add ex_584 gv2 (gi_c (-1) (-1) (by decide)) (by decide)
        refine lv_iinc (v := x_584) (lv' := [(2, .int x_584), (0, .ref h0), (1, .int v1), (3, .int v3)]) hx hb dX9_countBehind_150 hl (k := 2) rfl (by rw [ex_584]; rfl) (by decide) rfl (fun ls hl => ?_)
        refine lv_goto (tgt := 56) hx hb dX9_countBehind_153 (by decide) ?_
        exact ih.2.1 v1 x_584 z2 _ _ _ gv1 (gi_w gx_584 (by decide)) (by have av2 := gv2.1; have bv2 := gv2.2; have av3 := gv3.1; have bv3 := gv3.2; have qgx_584 := gx_584.1; have rgx_584 := gx_584.2; have igx_584 : x_584.toInt = v2.toInt + (-1) := (by have hcm1 : ((-1) : Int32).toInt = (-1) := (by decide); have h9 := gi_addI ex_584 (by have h1 := gv2.1; have h2 := (gi_c (-1) (-1) (by decide)).1; have h3 := gv2.2; have h4 := (gi_c (-1) (-1) (by decide)).2; omega) (by have h1 := gv2.1; have h2 := (gi_c (-1) (-1) (by decide)).1; have h3 := gv2.2; have h4 := (gi_c (-1) (-1) (by decide)).2; omega); rw [hcm1] at h9; exact h9); have qgv2 := gv2.1; have rgv2 := gv2.2; omega) hP hD hS (lv_sub hl [1, 2, 0] rfl)
      · have g_585 : gi v3 0 23 := gi_le_l (Int32.not_lt.mp c_582) gv3 gv2
        refine lv_iload_n hx hb dX9_countBehind_67 rfl (lv_at hl 2 rfl) ?_
        refine lv_iload_n hx hb dX9_countBehind_68 rfl (lv_at hl 3 rfl) ?_
        refine lv_iconst (v := 0) hx hb dX9_countBehind_69 (by decide) ?_
        have hPc := hP.sub (ws' := []) [] rfl
        have hKc := hK.sub (tys' := []) [] rfl
        refine va_calli (va_runSN (As := [.int v2, .int v3, .int 0]) (rest := []) ⟨hx, hb, hml, hown, hts⟩ (sX11_spot0 l dC dI v2 v3 0 (gi_w gv2 (by decide)) (gi_w g_585 (by decide)) (gi_c 0 0 (by decide))) (⟨va_cnB 3 hts (gz_gP mGA_582 goodGA) rfl rfl rfl (nzA_X9_63 hz) (hts _ (List.mem_cons_of_mem _ mGA_1)) (by decide +kernel) ⟨Nat.le_trans (Nat.le_of_ble_eq_true rfl) hRf, Nat.le_trans (Nat.le_of_ble_eq_true rfl) hRl⟩, (hts _ (List.mem_cons_of_mem _ mGA_581)), trivial⟩) ⟨bl_I (bl_a bl_P (bl_a bl_K bl_nz)), fun U hU hW => ⟨rfl, by rw [hU]; exact hPc, va_K.moved hW.alike hKc, nzA_warm hW hz⟩⟩ rfl rfl hl.1 rfl (lv_room (Nat.le_of_ble_eq_true rfl)) dX9_countBehind_70 ⟨hRc, hRs⟩) hS (fun q _ h => h.elim) (fun q h => h.elim) (fun r_586 u t H1 locs ht hvm hw hB hz1 hk1 hS => ?_)
        have hP := gz_keep hP hk1
        generalize H1 = H at hP hS ⊢
        have gr_586 : gi r_586 0 3564 := hw
        refine lv_istore (lv' := [(4, .int r_586), (0, .ref h0), (1, .int v1), (2, .int v2), (3, .int v3)]) hx hb dX9_countBehind_73 hl (by decide) rfl (fun ls hl => ?_)
        refine lv_iload_n hx hb dX9_countBehind_75 rfl (lv_at hl 3 rfl) ?_
        have hPc := hP.sub (ws' := []) [] rfl
        have hKc := hK.sub (tys' := []) [] rfl
        refine va_calli (va_runSN (As := [.int v2]) (rest := []) ⟨hx, hb, hml, hown, hts⟩ (sX11_firstRun l dC dI v2 (gi_w gv2 (by decide))) (⟨va_cnB 1 hts (gz_gP mGA_504 goodGA) rfl rfl rfl (nzA_X9_67 hz) (hts _ (List.mem_cons_of_mem _ mGA_1)) (by decide +kernel) ⟨Nat.le_trans (Nat.le_of_ble_eq_true rfl) hRf, Nat.le_trans (Nat.le_of_ble_eq_true rfl) hRl⟩, (hts _ (List.mem_cons_of_mem _ mGA_503)), trivial⟩) ⟨bl_I (bl_a bl_P (bl_a bl_K bl_nz)), fun U hU hW => ⟨rfl, by rw [hU]; exact hPc, va_K.moved hW.alike hKc, nzA_warm hW hz⟩⟩ rfl rfl hl.1 rfl (lv_room (Nat.le_of_ble_eq_true rfl)) dX9_countBehind_76 ⟨hRc, hRs⟩) hS (fun q _ h => h.elim) (fun q h => h.elim) (fun r_587 u t H1 locs ht hvm hw hB hz1 hk1 hS => ?_)
        have hP := gz_keep hP hk1
        generalize H1 = H at hP hS ⊢
        have gr_587 : gi r_587 0 1 := hw
        refine lv_istore (lv' := [(5, .int r_587), (4, .int r_586), (0, .ref h0), (1, .int v1), (2, .int v2), (3, .int v3)]) hx hb dX9_countBehind_79 hl (by decide) rfl (fun ls hl => ?_)
        exact ih.2.2.2 v1 v2 v3 r_586 r_587 z2 _ _ _ gv1 gv2 g_585 gr_586 (gi_w gr_587 (by decide)) (by have av2 := gv2.1; have bv2 := gv2.2; have av3 := gv3.1; have bv3 := gv3.2; have qgv3 := g_585.1; have rgv3 := g_585.2; have qgv2 := gv2.1; have rgv2 := gv2.2; have qgr_587 := gr_587.1; have rgr_587 := gr_587.2; omega) hP hD hS (lv_sub hl [2, 3, 4, 5, 1, 0] rfl)
    · intro v1 v2 v3 v4 v5 z2 H locs ls gv1 gv2 gv3 gv4 gv5 hmu hP hD hS hl
      refine lv_iload hx hb dX9_countBehind_81 (lv_at hl 5 rfl) ?_
      refine lv_iload_n hx hb dX9_countBehind_83 rfl (lv_at hl 2 rfl) ?_
      refine lv_aload_n hx hb dX9_countBehind_84 rfl (lv_at hl 0 rfl) ?_
      refine va_get (D := (dC, dI)) (ci := 9) (v := .int full) (C := RX9) (T := TX9) (N := 6) hx hb hts (fun w h => List.mem_cons_of_mem _ (jnGA_X9 w h)) hown hK hP 0 rfl rfl 4 (by decide) (hts _ (List.mem_cons_of_mem _ mGA_562)) (fun _ h9 => h9) rfl dX9_countBehind_85 ?_
      refine lv_aload_n hx hb dX9_countBehind_88 rfl (lv_at hl 0 rfl) ?_
      refine va_get (D := (dC, dI)) (ci := 9) (v := .int lean) (C := RX9) (T := TX9) (N := 6) hx hb hts (fun w h => List.mem_cons_of_mem _ (jnGA_X9 w h)) hown hK hP 0 rfl rfl 5 (by decide) (hts _ (List.mem_cons_of_mem _ mGA_564)) (fun _ h9 => h9) rfl dX9_countBehind_89 ?_
      have hPc := hP.sub (ws' := []) [] rfl
      have hKc := hK.sub (tys' := []) [] rfl
      refine va_calli (va_runSN (As := [.int v2, .int full, .int lean]) (rest := [.int v5]) ⟨hx, hb, hml, hown, hts⟩ (sX11_lastRun l dC dI v2 full lean (gi_w gv2 (by decide)) gfull glean) (⟨va_cnB 3 hts (gz_gP mGA_506 goodGA) rfl rfl rfl (nzA_X9_71 hz) (hts _ (List.mem_cons_of_mem _ mGA_1)) (by decide +kernel) ⟨Nat.le_trans (Nat.le_of_ble_eq_true rfl) hRf, Nat.le_trans (Nat.le_of_ble_eq_true rfl) hRl⟩, (hts _ (List.mem_cons_of_mem _ mGA_505)), trivial⟩) ⟨bl_I (bl_a bl_P (bl_a bl_K bl_nz)), fun U hU hW => ⟨rfl, by rw [hU]; exact hPc, va_K.moved hW.alike hKc, nzA_warm hW hz⟩⟩ rfl rfl hl.1 rfl (lv_room (Nat.le_of_ble_eq_true rfl)) dX9_countBehind_92 ⟨hRc, hRs⟩) hS (fun q _ h => h.elim) (fun q h => h.elim) (fun r_588 u t H1 locs ht hvm hw hB hz1 hk1 hS => ?_)
      have hP := gz_keep hP hk1
      generalize H1 = H at hP hS ⊢
      have gr_588 : gi r_588 0 10 := hw
      refine lv_icmp_gt (tgt := 144) hx hb dX9_countBehind_95 (by decide) (fun c_589 => ?_) (fun c_589 => ?_)
      · have g_590 : gi v5 1 11 := gi_lt_r c_589 gr_588 gv5 (by decide)
        obtain ⟨x_591, ex_591⟩ : ∃ y : Int32, y = v3 + 1 := ⟨_, rfl⟩
        have gx_591 : gi x_591 1 24 := gi_add ex_591 gv3 (gi_c 1 1 (by decide)) (by decide)
        refine lv_iinc (v := x_591) (lv' := [(3, .int x_591), (0, .ref h0), (1, .int v1), (2, .int v2), (4, .int v4), (5, .int v5)]) hx hb dX9_countBehind_144 hl (k := 3) rfl (by rw [ex_591]; rfl) (by decide) rfl (fun ls hl => ?_)
        refine lv_goto (tgt := 62) hx hb dX9_countBehind_147 (by decide) ?_
        exact ih.2.2.1 v1 v2 x_591 z2 _ _ _ gv1 gv2 (gi_w gx_591 (by decide)) (by have av2 := gv2.1; have bv2 := gv2.2; have av3 := gv3.1; have bv3 := gv3.2; have av5 := gv5.1; have bv5 := gv5.2; have qgx_591 := gx_591.1; have rgx_591 := gx_591.2; have igx_591 : x_591.toInt = v3.toInt + 1 := (by have hc1 : (1 : Int32).toInt = 1 := (by decide); have h9 := gi_addI ex_591 (by have h1 := gv3.1; have h2 := (gi_c 1 1 (by decide)).1; have h3 := gv3.2; have h4 := (gi_c 1 1 (by decide)).2; omega) (by have h1 := gv3.1; have h2 := (gi_c 1 1 (by decide)).1; have h3 := gv3.2; have h4 := (gi_c 1 1 (by decide)).2; omega); rw [hc1] at h9; exact h9); have qgv3 := gv3.1; have rgv3 := gv3.2; have qgv2 := gv2.1; have rgv2 := gv2.2; omega) hP hD hS (lv_sub hl [1, 2, 3, 0] rfl)
      · have g_592 : gi v5 0 10 := gi_le_l (Int32.not_lt.mp c_589) gv5 gr_588
        refine lv_aload_n hx hb dX9_countBehind_98 rfl (lv_at hl 0 rfl) ?_
        refine va_get (D := (dC, dI)) (ci := 9) (v := .ref bf) (C := RX9) (T := TX9) (N := 6) hx hb hts (fun w h => List.mem_cons_of_mem _ (jnGA_X9 w h)) hown hK hP 0 rfl rfl 0 (by decide) (hts _ (List.mem_cons_of_mem _ mGA_111)) (fun _ h9 => h9) rfl dX9_countBehind_99 ?_
        refine lv_iload hx hb dX9_countBehind_102 (lv_at hl 4 rfl) ?_
        refine lv_iload hx hb dX9_countBehind_104 (lv_at hl 5 rfl) ?_
        refine lv_iadd hx hb dX9_countBehind_106 ?_
        refine lv_topi (fun x_593 ex_593 => ?_)
        have gx_593 : gi x_593 0 3574 := gi_add ex_593 gv4 g_592 (by decide)
        refine va_iald hx hb hK hP 1 0 rfl rfl (gi_in gx_593 (by decide)) dX9_countBehind_107 ?_
        refine lv_topi (fun x_594 ex_594 => ?_)
        refine lv_if_le (tgt := 138) hx hb dX9_countBehind_108 (by decide) (fun c_595 => ?_) (fun c_595 => ?_)
        · have g_596 : gi x_594 (-2147483648) 0 := gi_le_l c_595 (gi_any x_594) (gi_c 0 0 (by decide))
          obtain ⟨x_597, ex_597⟩ : ∃ y : Int32, y = v5 + 1 := ⟨_, rfl⟩
          have gx_597 : gi x_597 1 11 := gi_add ex_597 g_592 (gi_c 1 1 (by decide)) (by decide)
          refine lv_iinc (v := x_597) (lv' := [(5, .int x_597), (0, .ref h0), (1, .int v1), (2, .int v2), (3, .int v3), (4, .int v4)]) hx hb dX9_countBehind_138 hl (k := 5) rfl (by rw [ex_597]; rfl) (by decide) rfl (fun ls hl => ?_)
          refine lv_goto (tgt := 81) hx hb dX9_countBehind_141 (by decide) ?_
          exact ih.2.2.2 v1 v2 v3 v4 x_597 z2 _ _ _ gv1 gv2 gv3 gv4 (gi_w gx_597 (by decide)) (by have av2 := gv2.1; have bv2 := gv2.2; have av3 := gv3.1; have bv3 := gv3.2; have av5 := gv5.1; have bv5 := gv5.2; have qgx_597 := gx_597.1; have rgx_597 := gx_597.2; have igx_597 : x_597.toInt = v5.toInt + 1 := (by have hc1 : (1 : Int32).toInt = 1 := (by decide); have h9 := gi_addI ex_597 (by have h1 := g_592.1; have h2 := (gi_c 1 1 (by decide)).1; have h3 := g_592.2; have h4 := (gi_c 1 1 (by decide)).2; omega) (by have h1 := g_592.1; have h2 := (gi_c 1 1 (by decide)).1; have h3 := g_592.2; have h4 := (gi_c 1 1 (by decide)).2; omega); rw [hc1] at h9; exact h9); have qgv5 := g_592.1; have rgv5 := g_592.2; have qgv3 := gv3.1; have rgv3 := gv3.2; have qgv2 := gv2.1; have rgv2 := gv2.2; omega) hP hD hS (lv_sub hl [1, 2, 3, 4, 5, 0] rfl)
        · have g_598 : gi x_594 1 2147483647 := gi_lt_r (Int32.not_le.mp c_595) (gi_c 0 0 (by decide)) (gi_any x_594) (by decide)
          refine lv_aload_n hx hb dX9_countBehind_111 rfl (lv_at hl 0 rfl) ?_
          refine va_get (D := (dC, dI)) (ci := 9) (v := .ref bh) (C := RX9) (T := TX9) (N := 6) hx hb hts (fun w h => List.mem_cons_of_mem _ (jnGA_X9 w h)) hown hK hP 0 rfl rfl 1 (by decide) (hts _ (List.mem_cons_of_mem _ mGA_112)) (fun _ h9 => h9) rfl dX9_countBehind_112 ?_
          refine lv_iload hx hb dX9_countBehind_115 (lv_at hl 4 rfl) ?_
          refine lv_iload hx hb dX9_countBehind_117 (lv_at hl 5 rfl) ?_
          refine lv_iadd hx hb dX9_countBehind_119 ?_
          refine lv_topi (fun x_599 ex_599 => ?_)
          have gx_599 : gi x_599 0 3574 := gi_add ex_599 gv4 g_592 (by decide)
          refine lv_aload_n hx hb dX9_countBehind_120 rfl (lv_at hl 0 rfl) ?_
          refine lv_iload_n hx hb dX9_countBehind_121 rfl (lv_at hl 2 rfl) ?_
          refine lv_iload_n hx hb dX9_countBehind_122 rfl (lv_at hl 3 rfl) ?_
          refine lv_iload hx hb dX9_countBehind_123 (lv_at hl 5 rfl) ?_
          have hPc := hP.sub (ws' := [(h0, .inr (9, [.ref bf, .ref bh, .ref sa, .int months, .int full, .int lean])), (bh, .inl (kbh, 3575, .inl z2))]) [0, 2] rfl
          have hKc := hK.sub (tys' := [(kbh, .int)]) [1] rfl
          refine va_calli (va_runV (As := [.int v2, .int v3, .int v5]) (rest := [.int x_599, .ref bh]) ⟨hx, hb, hml, hown, hts⟩ (sX9_withFull l dC dI h0 bh bf sa months full lean kbh z2 v2 v3 v5 gmonths gfull glean gv2 gv3 g_592) (cwV 3 hts (gz_gV mGA_595 mGA_596 mGA_597 mGA_27 mGA_598 goodGA) rfl rfl rfl (by decide +kernel) ⟨Nat.le_trans (Nat.le_of_ble_eq_true rfl) hRf, Nat.le_trans (Nat.le_of_ble_eq_true rfl) hRl⟩) ⟨bl_I (bl_a bl_P (bl_a bl_K bl_nz)), va_recv hKc hPc (ci := 9) (q0 := 0) rfl rfl, fun U hU hW => ⟨rfl, by rw [hU]; exact hPc, va_K.moved hW.alike hKc, nzA_warm hW hz⟩⟩ rfl rfl hl.1 rfl (lv_room (Nat.le_of_ble_eq_true rfl)) dX9_countBehind_125 ⟨hRc, hRs⟩) hS (fun q _ h => h.elim) (fun q h => h.elim) (fun r_600 u t H1 locs ht hvm hw hB hz1 hk1 hS => ?_)
          have hP := gz_keep hP hk1
          generalize H1 = H at hP hS ⊢
          refine lv_aload_n hx hb dX9_countBehind_128 rfl (lv_at hl 0 rfl) ?_
          refine lv_iload_n hx hb dX9_countBehind_129 rfl (lv_at hl 2 rfl) ?_
          refine lv_iload_n hx hb dX9_countBehind_130 rfl (lv_at hl 3 rfl) ?_
          refine lv_iload hx hb dX9_countBehind_131 (lv_at hl 5 rfl) ?_
          have hPc := hP.sub (ws' := [(h0, .inr (9, [.ref bf, .ref bh, .ref sa, .int months, .int full, .int lean])), (bh, .inl (kbh, 3575, .inl z2))]) [0, 2] rfl
          have hKc := hK.sub (tys' := [(kbh, .int)]) [1] rfl
          refine va_calli (va_runV (As := [.int v2, .int v3, .int v5]) (rest := [.int r_600, .int x_599, .ref bh]) ⟨hx, hb, hml, hown, hts⟩ (sX9_withLean l dC dI h0 bh bf sa months full lean kbh z2 v2 v3 v5 gmonths gfull glean gv2 (gi_w gv3 (by decide)) g_592) (cwV 3 hts (gz_gV mGA_599 mGA_600 mGA_601 mGA_27 mGA_602 goodGA) rfl rfl rfl (by decide +kernel) ⟨Nat.le_trans (Nat.le_of_ble_eq_true rfl) hRf, Nat.le_trans (Nat.le_of_ble_eq_true rfl) hRl⟩) ⟨bl_I (bl_a bl_P (bl_a bl_K bl_nz)), va_recv hKc hPc (ci := 9) (q0 := 0) rfl rfl, fun U hU hW => ⟨rfl, by rw [hU]; exact hPc, va_K.moved hW.alike hKc, nzA_warm hW hz⟩⟩ rfl rfl hl.1 rfl (lv_room (Nat.le_of_ble_eq_true rfl)) dX9_countBehind_133 ⟨hRc, hRs⟩) hS (fun q _ h => h.elim) (fun q h => h.elim) (fun r_601 u t H1 locs ht hvm hw hB hz1 hk1 hS => ?_)
          have hP := gz_keep hP hk1
          generalize H1 = H at hP hS ⊢
          refine lv_iadd hx hb dX9_countBehind_136 ?_
          refine lv_topi (fun x_602 ex_602 => ?_)
          refine va_iast hx hb hK hP hD hS 2 1 rfl rfl (gi_in gx_599 (by decide)) dX9_countBehind_137 (fun H locs hP hD hS => ?_)
          have hP : va_P (dC, dI) vwCl [(h0, .inr (9, [.ref bf, .ref bh, .ref sa, .int months, .int full, .int lean])), (bf, .inl (kbf, 3575, .inl fbf)), (bh, .inl (kbh, 3575, .inl (upd z2 (x_599 : Int32).toNatClampNeg x_602)))] H := hP
          have hD : va_D A [(h0, .inr (9, [.ref bf, .ref bh, .ref sa, .int months, .int full, .int lean])), (bf, .inl (kbf, 3575, .inl fbf)), (bh, .inl (kbh, 3575, .inl (upd z2 (x_599 : Int32).toNatClampNeg x_602)))] := hD
          generalize upd z2 (x_599 : Int32).toNatClampNeg x_602 = f_603 at hP hD
          obtain ⟨x_604, ex_604⟩ : ∃ y : Int32, y = v5 + 1 := ⟨_, rfl⟩
          have gx_604 : gi x_604 1 11 := gi_add ex_604 g_592 (gi_c 1 1 (by decide)) (by decide)
          refine lv_iinc (v := x_604) (lv' := [(5, .int x_604), (0, .ref h0), (1, .int v1), (2, .int v2), (3, .int v3), (4, .int v4)]) hx hb dX9_countBehind_138 hl (k := 5) rfl (by rw [ex_604]; rfl) (by decide) rfl (fun ls hl => ?_)
          refine lv_goto (tgt := 81) hx hb dX9_countBehind_141 (by decide) ?_
          exact ih.2.2.2 v1 v2 v3 v4 x_604 f_603 _ _ _ gv1 gv2 gv3 gv4 (gi_w gx_604 (by decide)) (by have av2 := gv2.1; have bv2 := gv2.2; have av3 := gv3.1; have bv3 := gv3.2; have av5 := gv5.1; have bv5 := gv5.2; have qgx_604 := gx_604.1; have rgx_604 := gx_604.2; have igx_604 : x_604.toInt = v5.toInt + 1 := (by have hc1 : (1 : Int32).toInt = 1 := (by decide); have h9 := gi_addI ex_604 (by have h1 := g_592.1; have h2 := (gi_c 1 1 (by decide)).1; have h3 := g_592.2; have h4 := (gi_c 1 1 (by decide)).2; omega) (by have h1 := g_592.1; have h2 := (gi_c 1 1 (by decide)).1; have h3 := g_592.2; have h4 := (gi_c 1 1 (by decide)).2; omega); rw [hc1] at h9; exact h9); have qgv5 := g_592.1; have rgv5 := g_592.2; have qgv3 := gv3.1; have rgv3 := gv3.2; have qgv2 := gv2.1; have rgv2 := gv2.2; omega) hP hD hS (lv_sub hl [1, 2, 3, 4, 5, 0] rfl)
abbrev pb_sX9_countBehind (dC : Nat → ClassId) (dI : Nat → Nat → Nat) (A9 : Nat → Prop) (h0 : Nat) (bf : Nat) (bh : Nat) (sa : Nat) (months : Int32) (full : Int32) (lean : Int32) (kbf : ClassId) (fbf : Nat → Int32) (kbh : ClassId) (fbh : Nat → Int32) (z2 : Nat → Int32) (t : State) : Prop := va_P (dC, dI) vwCl [(h0, .inr (9, [.ref bf, .ref bh, .ref sa, .int months, .int full, .int lean])), (bf, .inl (kbf, 3575, .inl fbf)), (bh, .inl (kbh, 3575, .inl z2))] t.heap ∧ va_D A9 [(h0, .inr (9, [.ref bf, .ref bh, .ref sa, .int months, .int full, .int lean])), (bf, .inl (kbf, 3575, .inl fbf)), (bh, .inl (kbh, 3575, .inl z2))]
set_option maxHeartbeats 4000000 in
set_option maxRecDepth 100000 in
theorem sX9_countBehind (l : Launch) (dC : Nat → ClassId) (dI : Nat → Nat → Nat) (sz : Nat) (h0 : Nat) (bf : Nat) (bh : Nat) (sa : Nat) (months : Int32) (full : Int32) (lean : Int32) (kbf : ClassId) (fbf : Nat → Int32) (kbh : ClassId) (fbh : Nat → Int32) (gmonths : gi months 0 24) (gfull : gi full 0 5) (glean : gi lean 0 5) : Met l yX9_countBehind (.code yX9_countBehind cX9_countBehind 6 none :: wsGA) ({ frames := 3, cells := 0, slots := 0, locals := 66 }) (va_Pc [.ref h0] (fun U => U.heap.size = sz ∧ va_P (dC, dI) vwCl [(h0, .inr (9, [.ref bf, .ref bh, .ref sa, .int months, .int full, .int lean])), (bf, .inl (kbf, 3575, .inl fbf)), (bh, .inl (kbh, 3575, .inl fbh))] U.heap ∧ va_K (dC, dI) vwCl [(kbf, .int), (kbh, .int)] U ∧ va_D (fun _ => True) [(h0, .inr (9, [.ref bf, .ref bh, .ref sa, .int months, .int full, .int lean])), (bf, .inl (kbf, 3575, .inl fbf)), (bh, .inl (kbh, 3575, .inl fbh))] ∧ nzA U)) (va_Qv (fun (u : Unit) => True) (fun _ t => ∃ (z2 : Nat → Int32), pb_sX9_countBehind dC dI (va_A [(h0, .inr (9, [.ref bf, .ref bh, .ref sa, .int months, .int full, .int lean])), (bf, .inl (kbf, 3575, .inl fbf)), (bh, .inl (kbh, 3575, .inl fbh))] sz) h0 bf bh sa months full lean kbf fbf kbh fbh z2 t) (va_A [(h0, .inr (9, [.ref bf, .ref bh, .ref sa, .int months, .int full, .int lean])), (bf, .inl (kbf, 3575, .inl fbf)), (bh, .inl (kbh, 3575, .inl fbh))] sz)) 0 0 (va_A [(h0, .inr (9, [.ref bf, .ref bh, .ref sa, .int months, .int full, .int lean])), (bf, .inl (kbf, 3575, .inl fbf)), (bh, .inl (kbh, 3575, .inl fbh))] sz) := by
  refine Met.ofW (cc := cX9_countBehind) (maxL := 6) (ret := none) (by decide) rfl ?_
  intro p e s m args below meth c s₁ B hml hv
  obtain ⟨rfl, hsz, hP, hK, hD0, hz⟩ := hv
  have hx := B.exec
  have hb := B.bytes
  have hr := B.returns
  have hts := atoms_spec (ws := (.code yX9_countBehind cX9_countBehind 6 none :: wsGA)) B.pre
  have hown : s.vm.findClass RX9 = some m.cls := findClass_of_methodNamed B.named
  have hlocks := B.notSynchronized
  subst hsz
  have hD := hD0.self (sz := s.heap.size)
  generalize hAe : va_A [(h0, .inr (9, [.ref bf, .ref bh, .ref sa, .int months, .int full, .int lean])), (bf, .inl (kbf, 3575, .inl fbf)), (bh, .inl (kbh, 3575, .inl fbh))] s.heap.size = A at hD ⊢
  have hA : ∀ q : Nat, s.heap.size ≤ q → A q := fun q h => by rw [← hAe]; exact Or.inr h
  have hS : va_S A s.heap s.heap [] := va_S.rf
  have hl := lv_entry ([.ref h0]) (n := 6) (Nat.le_of_ble_eq_true rfl)
  rw [lg_entry_eq]
  generalize (lg_sl ([.ref h0]) ++ List.replicate (6 - (lg_sl ([.ref h0])).length) Slot.unset).toArray = ls at hl ⊢
  have hl : lv_has ls 6 [(0, .ref h0)] := hl
  refine lv_aload_n hx hb dX9_countBehind_0 rfl (lv_at hl 0 rfl) ?_
  refine va_get (D := (dC, dI)) (ci := 9) (v := .int months) (C := RX9) (T := TX9) (N := 6) hx hb hts (fun w h => List.mem_cons_of_mem _ (jnGA_X9 w h)) hown hK hP 0 rfl rfl 3 (by decide) (hts _ (List.mem_cons_of_mem _ mGA_560)) (fun _ h9 => h9) rfl dX9_countBehind_1 ?_
  refine lv_iconst (v := 0) hx hb dX9_countBehind_4 (by decide) ?_
  refine lv_iconst (v := 0) hx hb dX9_countBehind_5 (by decide) ?_
  have hPc := hP.sub (ws' := []) [] rfl
  have hKc := hK.sub (tys' := []) [] rfl
  refine va_calli (va_runSN (As := [.int months, .int 0, .int 0]) (rest := []) ⟨hx, hb, hml, hown, hts⟩ (sX11_spot00 l dC dI months 0 0 gmonths (gi_c 0 0 (by decide)) (gi_c 0 0 (by decide))) (⟨va_cnB 3 hts (gz_gP mGA_582 goodGA) rfl rfl rfl (nzA_X9_63 hz) (hts _ (List.mem_cons_of_mem _ mGA_1)) (by decide +kernel) ⟨Nat.le_of_ble_eq_true rfl, Nat.le_of_ble_eq_true rfl⟩, (hts _ (List.mem_cons_of_mem _ mGA_581)), trivial⟩) ⟨bl_I (bl_a bl_P (bl_a bl_K bl_nz)), fun U hU hW => ⟨rfl, by rw [hU]; exact hPc, va_K.moved hW.alike hKc, nzA_warm hW hz⟩⟩ rfl rfl hl.1 rfl (lv_room (Nat.le_of_ble_eq_true rfl)) dX9_countBehind_6 ⟨Nat.zero_le _, Nat.zero_le _⟩) hS (fun q _ h => h.elim) (fun q h => h.elim) (fun r_605 u t H1 locs ht hvm hw hB hz1 hk1 hS => ?_)
  have hP := gz_keep hP hk1
  generalize H1 = H at hP hS ⊢
  have gr_605 : gi r_605 0 3300 := hw
  refine lv_istore_n (lv' := [(1, .int r_605), (0, .ref h0)]) hx hb dX9_countBehind_9 rfl hl (by decide) rfl (fun ls hl => ?_)
  refine lv_iload_n hx hb dX9_countBehind_10 rfl (lv_at hl 0 rfl) ?_
  refine lv_istore_n (lv' := [(2, .int r_605), (1, .int r_605), (0, .ref h0)]) hx hb dX9_countBehind_11 rfl hl (by decide) rfl (fun ls hl => ?_)
  refine (lp_sX9_countBehind h0 bf bh sa months full lean kbf fbf kbh fbh gmonths gfull glean hx hb hml hown hts hK hz hA (Nat.le_of_ble_eq_true rfl) (Nat.le_of_ble_eq_true rfl) (Nat.zero_le _) (Nat.zero_le _) (fun z2 H locs ls hP hD hS hl => ?_) 26144).1 r_605 r_605 fbh _ _ _ gr_605 (gi_w gr_605 (by decide)) (by have qgr_605 := gr_605.1; have rgr_605 := gr_605.2; omega) hP hD hS (lv_sub hl [2, 1, 0] rfl)
  · skip
    exact W.vret hx hb hr (fun t ht hW => ⟨⟨(), rfl, trivial, z2, by rw [ht]; exact hP, hD⟩, hS.F ht⟩) hS.2.2 dX9_countBehind_156
theorem dX9_fill_0 : decode cX9_fill 0 = .ok (.aload_n 0, 1) := by decide +kernel
theorem dX9_fill_1 : decode cX9_fill 1 = .ok (.aload_n 1, 1) := by decide +kernel
theorem dX9_fill_2 : decode cX9_fill 2 = .ok (.getfield 21, 3) := by decide +kernel
theorem dX9_fill_5 : decode cX9_fill 5 = .ok (.putfield 27, 3) := by decide +kernel
theorem dX9_fill_8 : decode cX9_fill 8 = .ok (.aload_n 0, 1) := by decide +kernel
theorem dX9_fill_9 : decode cX9_fill 9 = .ok (.aload_n 1, 1) := by decide +kernel
theorem dX9_fill_10 : decode cX9_fill 10 = .ok (.getfield 28, 3) := by decide +kernel
theorem dX9_fill_13 : decode cX9_fill 13 = .ok (.putfield 31, 3) := by decide +kernel
theorem dX9_fill_16 : decode cX9_fill 16 = .ok (.aload_n 0, 1) := by decide +kernel
theorem dX9_fill_17 : decode cX9_fill 17 = .ok (.aload_n 1, 1) := by decide +kernel
theorem dX9_fill_18 : decode cX9_fill 18 = .ok (.getfield 32, 3) := by decide +kernel
theorem dX9_fill_21 : decode cX9_fill 21 = .ok (.putfield 35, 3) := by decide +kernel
theorem dX9_fill_24 : decode cX9_fill 24 = .ok (.aload_n 0, 1) := by decide +kernel
theorem dX9_fill_25 : decode cX9_fill 25 = .ok (.getfield 9, 3) := by decide +kernel
theorem dX9_fill_28 : decode cX9_fill 28 = .ok (.iconst 0, 1) := by decide +kernel
theorem dX9_fill_29 : decode cX9_fill 29 = .ok (.invokestatic 36, 3) := by decide +kernel
theorem dX9_fill_32 : decode cX9_fill 32 = .ok (.aload_n 0, 1) := by decide +kernel
theorem dX9_fill_33 : decode cX9_fill 33 = .ok (.getfield 15, 3) := by decide +kernel
theorem dX9_fill_36 : decode cX9_fill 36 = .ok (.iconst 0, 1) := by decide +kernel
theorem dX9_fill_37 : decode cX9_fill 37 = .ok (.invokestatic 36, 3) := by decide +kernel
theorem dX9_fill_40 : decode cX9_fill 40 = .ok (.aload_n 0, 1) := by decide +kernel
theorem dX9_fill_41 : decode cX9_fill 41 = .ok (.aload_n 1, 1) := by decide +kernel
theorem dX9_fill_42 : decode cX9_fill 42 = .ok (.invokevirtual 42, 3) := by decide +kernel
theorem dX9_fill_45 : decode cX9_fill 45 = .ok (.aload_n 0, 1) := by decide +kernel
theorem dX9_fill_46 : decode cX9_fill 46 = .ok (.invokevirtual 46, 3) := by decide +kernel
theorem dX9_fill_49 : decode cX9_fill 49 = .ok (.aload_n 0, 1) := by decide +kernel
theorem dX9_fill_50 : decode cX9_fill 50 = .ok (.invokevirtual 49, 3) := by decide +kernel
theorem dX9_fill_53 : decode cX9_fill 53 = .ok (.return_, 1) := by decide +kernel
abbrev pb_sX9_fill (dC : Nat → ClassId) (dI : Nat → Nat → Nat) (A9 : Nat → Prop) (h0 : Nat) (bf : Nat) (bh : Nat) (sa : Nat) (fr : Nat) (fral : Nat) (months : Int32) (full : Int32) (lean : Int32) (kbf : ClassId) (fbf : Nat → Int32) (kbh : ClassId) (fbh : Nat → Int32) (ksa : ClassId) (fsa : Nat → Int32) (frmonths : Int32) (frfull : Int32) (frlean : Int32) (fron : Nat) (kfral : ClassId) (ffral : Nat → Int32) (w0_3 : Int32) (w0_4 : Int32) (w0_5 : Int32) (z1 : Nat → Int32) (z2 : Nat → Int32) (z3 : Nat → Int32) (t : State) : Prop := gi w0_3 0 24 ∧ gi w0_4 0 5 ∧ gi w0_5 0 5 ∧ va_P (dC, dI) vwCl [(h0, .inr (9, [.ref bf, .ref bh, .ref sa, .int w0_3, .int w0_4, .int w0_5])), (bf, .inl (kbf, 3575, .inl z1)), (bh, .inl (kbh, 3575, .inl z2)), (sa, .inl (ksa, 325, .inl z3)), (fr, .inr (3, [.int frmonths, .int frfull, .int frlean, .ref fral, .ref fron])), (fral, .inl (kfral, 25, .inl ffral))] t.heap ∧ va_D A9 [(h0, .inr (9, [.ref bf, .ref bh, .ref sa, .int w0_3, .int w0_4, .int w0_5])), (bf, .inl (kbf, 3575, .inl z1)), (bh, .inl (kbh, 3575, .inl z2)), (sa, .inl (ksa, 325, .inl z3)), (fr, .inr (3, [.int frmonths, .int frfull, .int frlean, .ref fral, .ref fron])), (fral, .inl (kfral, 25, .inl ffral))]
set_option maxHeartbeats 4000000 in
set_option maxRecDepth 100000 in
theorem sX9_fill (l : Launch) (dC : Nat → ClassId) (dI : Nat → Nat → Nat) (sz : Nat) (h0 : Nat) (bf : Nat) (bh : Nat) (sa : Nat) (fr : Nat) (fral : Nat) (months : Int32) (full : Int32) (lean : Int32) (kbf : ClassId) (fbf : Nat → Int32) (kbh : ClassId) (fbh : Nat → Int32) (ksa : ClassId) (fsa : Nat → Int32) (frmonths : Int32) (frfull : Int32) (frlean : Int32) (fron : Nat) (kfral : ClassId) (ffral : Nat → Int32) (gmonths : gi months 0 24) (gfull : gi full 0 5) (glean : gi lean 0 5) (gfrmonths : gi frmonths 0 24) (gfrfull : gi frfull 0 5) (gfrlean : gi frlean 0 5) : Met l yX9_fill (.code yX9_fill cX9_fill 2 none :: wsGA) ({ frames := 4, cells := 0, slots := 0, locals := 92 }) (va_Pc [.ref h0, .ref fr] (fun U => U.heap.size = sz ∧ va_P (dC, dI) vwCl [(h0, .inr (9, [.ref bf, .ref bh, .ref sa, .int months, .int full, .int lean])), (bf, .inl (kbf, 3575, .inl fbf)), (bh, .inl (kbh, 3575, .inl fbh)), (sa, .inl (ksa, 325, .inl fsa)), (fr, .inr (3, [.int frmonths, .int frfull, .int frlean, .ref fral, .ref fron])), (fral, .inl (kfral, 25, .inl ffral))] U.heap ∧ va_K (dC, dI) vwCl [(kbf, .int), (kbh, .int), (ksa, .int), (kfral, .int)] U ∧ va_D (fun _ => True) [(h0, .inr (9, [.ref bf, .ref bh, .ref sa, .int months, .int full, .int lean])), (bf, .inl (kbf, 3575, .inl fbf)), (bh, .inl (kbh, 3575, .inl fbh)), (sa, .inl (ksa, 325, .inl fsa)), (fr, .inr (3, [.int frmonths, .int frfull, .int frlean, .ref fral, .ref fron])), (fral, .inl (kfral, 25, .inl ffral))] ∧ nzA U)) (va_Qv (fun (u : Unit) => True) (fun _ t => ∃ (w0_3 : Int32) (w0_4 : Int32) (w0_5 : Int32) (z1 : Nat → Int32) (z2 : Nat → Int32) (z3 : Nat → Int32), pb_sX9_fill dC dI (va_A [(h0, .inr (9, [.ref bf, .ref bh, .ref sa, .int months, .int full, .int lean])), (bf, .inl (kbf, 3575, .inl fbf)), (bh, .inl (kbh, 3575, .inl fbh)), (sa, .inl (ksa, 325, .inl fsa)), (fr, .inr (3, [.int frmonths, .int frfull, .int frlean, .ref fral, .ref fron])), (fral, .inl (kfral, 25, .inl ffral))] sz) h0 bf bh sa fr fral months full lean kbf fbf kbh fbh ksa fsa frmonths frfull frlean fron kfral ffral w0_3 w0_4 w0_5 z1 z2 z3 t) (va_A [(h0, .inr (9, [.ref bf, .ref bh, .ref sa, .int months, .int full, .int lean])), (bf, .inl (kbf, 3575, .inl fbf)), (bh, .inl (kbh, 3575, .inl fbh)), (sa, .inl (ksa, 325, .inl fsa)), (fr, .inr (3, [.int frmonths, .int frfull, .int frlean, .ref fral, .ref fron])), (fral, .inl (kfral, 25, .inl ffral))] sz)) 0 0 (va_A [(h0, .inr (9, [.ref bf, .ref bh, .ref sa, .int months, .int full, .int lean])), (bf, .inl (kbf, 3575, .inl fbf)), (bh, .inl (kbh, 3575, .inl fbh)), (sa, .inl (ksa, 325, .inl fsa)), (fr, .inr (3, [.int frmonths, .int frfull, .int frlean, .ref fral, .ref fron])), (fral, .inl (kfral, 25, .inl ffral))] sz) := by
  refine Met.ofW (cc := cX9_fill) (maxL := 2) (ret := none) (by decide) rfl ?_
  intro p e s m args below meth c s₁ B hml hv
  obtain ⟨rfl, hsz, hP, hK, hD0, hz⟩ := hv
  have hx := B.exec
  have hb := B.bytes
  have hr := B.returns
  have hts := atoms_spec (ws := (.code yX9_fill cX9_fill 2 none :: wsGA)) B.pre
  have hown : s.vm.findClass RX9 = some m.cls := findClass_of_methodNamed B.named
  have hlocks := B.notSynchronized
  subst hsz
  have hD := hD0.self (sz := s.heap.size)
  generalize hAe : va_A [(h0, .inr (9, [.ref bf, .ref bh, .ref sa, .int months, .int full, .int lean])), (bf, .inl (kbf, 3575, .inl fbf)), (bh, .inl (kbh, 3575, .inl fbh)), (sa, .inl (ksa, 325, .inl fsa)), (fr, .inr (3, [.int frmonths, .int frfull, .int frlean, .ref fral, .ref fron])), (fral, .inl (kfral, 25, .inl ffral))] s.heap.size = A at hD ⊢
  have hA : ∀ q : Nat, s.heap.size ≤ q → A q := fun q h => by rw [← hAe]; exact Or.inr h
  have hS : va_S A s.heap s.heap [] := va_S.rf
  have hl := lv_entry ([.ref h0, .ref fr]) (n := 2) (Nat.le_of_ble_eq_true rfl)
  rw [lg_entry_eq]
  generalize (lg_sl ([.ref h0, .ref fr]) ++ List.replicate (2 - (lg_sl ([.ref h0, .ref fr])).length) Slot.unset).toArray = ls at hl ⊢
  have hl : lv_has ls 2 [(0, .ref h0), (1, .ref fr)] := hl
  refine lv_aload_n hx hb dX9_fill_0 rfl (lv_at hl 0 rfl) ?_
  refine lv_aload_n hx hb dX9_fill_1 rfl (lv_at hl 1 rfl) ?_
  refine va_get (D := (dC, dI)) (ci := 3) (v := .int frmonths) (C := RX3) (T := TX3) (N := 5) hx hb hts (fun w h => List.mem_cons_of_mem _ (jnGA_X3 w h)) hown hK hP 4 rfl rfl 0 (by decide) (hts _ (List.mem_cons_of_mem _ mGA_559)) (fun _ h9 => h9) rfl dX9_fill_2 ?_
  refine va_put (D := (dC, dI)) (ci := 9) (v := .int frmonths) (ty := .int) (C := RX9) (T := TX9) (N := 6) hx hb hts (fun w h => List.mem_cons_of_mem _ (jnGA_X9 w h)) tyX9 tyX9_ok nmX9 hown hK hP hD hS 0 rfl rfl 3 (by decide) (hts _ (List.mem_cons_of_mem _ mGA_560)) (fun _ h9 => h9) rfl (by decide +kernel) rfl rfl (Nat.le_of_ble_eq_true rfl) dX9_fill_5 (fun H locs hP hD hS => ?_)
  have hP : va_P (dC, dI) vwCl [(h0, .inr (9, [.ref bf, .ref bh, .ref sa, .int frmonths, .int full, .int lean])), (bf, .inl (kbf, 3575, .inl fbf)), (bh, .inl (kbh, 3575, .inl fbh)), (sa, .inl (ksa, 325, .inl fsa)), (fr, .inr (3, [.int frmonths, .int frfull, .int frlean, .ref fral, .ref fron])), (fral, .inl (kfral, 25, .inl ffral))] H := hP
  have hD : va_D A [(h0, .inr (9, [.ref bf, .ref bh, .ref sa, .int frmonths, .int full, .int lean])), (bf, .inl (kbf, 3575, .inl fbf)), (bh, .inl (kbh, 3575, .inl fbh)), (sa, .inl (ksa, 325, .inl fsa)), (fr, .inr (3, [.int frmonths, .int frfull, .int frlean, .ref fral, .ref fron])), (fral, .inl (kfral, 25, .inl ffral))] := hD
  refine lv_aload_n hx hb dX9_fill_8 rfl (lv_at hl 0 rfl) ?_
  refine lv_aload_n hx hb dX9_fill_9 rfl (lv_at hl 1 rfl) ?_
  refine va_get (D := (dC, dI)) (ci := 3) (v := .int frfull) (C := RX3) (T := TX3) (N := 5) hx hb hts (fun w h => List.mem_cons_of_mem _ (jnGA_X3 w h)) hown hK hP 4 rfl rfl 1 (by decide) (hts _ (List.mem_cons_of_mem _ mGA_561)) (fun _ h9 => h9) rfl dX9_fill_10 ?_
  refine va_put (D := (dC, dI)) (ci := 9) (v := .int frfull) (ty := .int) (C := RX9) (T := TX9) (N := 6) hx hb hts (fun w h => List.mem_cons_of_mem _ (jnGA_X9 w h)) tyX9 tyX9_ok nmX9 hown hK hP hD hS 0 rfl rfl 4 (by decide) (hts _ (List.mem_cons_of_mem _ mGA_562)) (fun _ h9 => h9) rfl (by decide +kernel) rfl rfl (Nat.le_of_ble_eq_true rfl) dX9_fill_13 (fun H locs hP hD hS => ?_)
  have hP : va_P (dC, dI) vwCl [(h0, .inr (9, [.ref bf, .ref bh, .ref sa, .int frmonths, .int frfull, .int lean])), (bf, .inl (kbf, 3575, .inl fbf)), (bh, .inl (kbh, 3575, .inl fbh)), (sa, .inl (ksa, 325, .inl fsa)), (fr, .inr (3, [.int frmonths, .int frfull, .int frlean, .ref fral, .ref fron])), (fral, .inl (kfral, 25, .inl ffral))] H := hP
  have hD : va_D A [(h0, .inr (9, [.ref bf, .ref bh, .ref sa, .int frmonths, .int frfull, .int lean])), (bf, .inl (kbf, 3575, .inl fbf)), (bh, .inl (kbh, 3575, .inl fbh)), (sa, .inl (ksa, 325, .inl fsa)), (fr, .inr (3, [.int frmonths, .int frfull, .int frlean, .ref fral, .ref fron])), (fral, .inl (kfral, 25, .inl ffral))] := hD
  refine lv_aload_n hx hb dX9_fill_16 rfl (lv_at hl 0 rfl) ?_
  refine lv_aload_n hx hb dX9_fill_17 rfl (lv_at hl 1 rfl) ?_
  refine va_get (D := (dC, dI)) (ci := 3) (v := .int frlean) (C := RX3) (T := TX3) (N := 5) hx hb hts (fun w h => List.mem_cons_of_mem _ (jnGA_X3 w h)) hown hK hP 4 rfl rfl 2 (by decide) (hts _ (List.mem_cons_of_mem _ mGA_563)) (fun _ h9 => h9) rfl dX9_fill_18 ?_
  refine va_put (D := (dC, dI)) (ci := 9) (v := .int frlean) (ty := .int) (C := RX9) (T := TX9) (N := 6) hx hb hts (fun w h => List.mem_cons_of_mem _ (jnGA_X9 w h)) tyX9 tyX9_ok nmX9 hown hK hP hD hS 0 rfl rfl 5 (by decide) (hts _ (List.mem_cons_of_mem _ mGA_564)) (fun _ h9 => h9) rfl (by decide +kernel) rfl rfl (Nat.le_of_ble_eq_true rfl) dX9_fill_21 (fun H locs hP hD hS => ?_)
  have hP : va_P (dC, dI) vwCl [(h0, .inr (9, [.ref bf, .ref bh, .ref sa, .int frmonths, .int frfull, .int frlean])), (bf, .inl (kbf, 3575, .inl fbf)), (bh, .inl (kbh, 3575, .inl fbh)), (sa, .inl (ksa, 325, .inl fsa)), (fr, .inr (3, [.int frmonths, .int frfull, .int frlean, .ref fral, .ref fron])), (fral, .inl (kfral, 25, .inl ffral))] H := hP
  have hD : va_D A [(h0, .inr (9, [.ref bf, .ref bh, .ref sa, .int frmonths, .int frfull, .int frlean])), (bf, .inl (kbf, 3575, .inl fbf)), (bh, .inl (kbh, 3575, .inl fbh)), (sa, .inl (ksa, 325, .inl fsa)), (fr, .inr (3, [.int frmonths, .int frfull, .int frlean, .ref fral, .ref fron])), (fral, .inl (kfral, 25, .inl ffral))] := hD
  refine lv_aload_n hx hb dX9_fill_24 rfl (lv_at hl 0 rfl) ?_
  refine va_get (D := (dC, dI)) (ci := 9) (v := .ref bf) (C := RX9) (T := TX9) (N := 6) hx hb hts (fun w h => List.mem_cons_of_mem _ (jnGA_X9 w h)) hown hK hP 0 rfl rfl 0 (by decide) (hts _ (List.mem_cons_of_mem _ mGA_111)) (fun _ h9 => h9) rfl dX9_fill_25 ?_
  refine lv_iconst (v := 0) hx hb dX9_fill_28 (by decide) ?_
  have hPc := hP.sub (ws' := [(bf, .inl (kbf, 3575, .inl fbf))]) [1] rfl
  have hKc := hK.sub (tys' := [(kbf, .int)]) [0] rfl
  have hDc := hD.sub (ws' := [(bf, .inl (kbf, 3575, .inl fbf))]) [1] (by decide) rfl
  have hFc := va_free (wc := [(bf, .inl (kbf, 3575, .inl fbf))]) hD hS hA [1] rfl
  refine va_callv (va_runS (As := [.ref bf, .int 0]) (rest := []) ⟨hx, hb, hml, hown, hts⟩ (sJ7_fill3575 l dC dI H.size bf kbf fbf 0) (⟨callB_of 2 hts (gz_gP mGA_568 goodGA) rfl rfl rfl (hts _ (List.mem_cons_of_mem _ mGA_567)) (hts _ (List.mem_cons_of_mem _ mGA_565)) (by decide +kernel) ⟨Nat.le_of_ble_eq_true rfl, Nat.le_of_ble_eq_true rfl⟩, (hts _ (List.mem_cons_of_mem _ mGA_566))⟩) ⟨bl_I (bl_a bl_sz (bl_a bl_P (bl_a bl_K (bl_a bl_c bl_nz)))), fun U hU hW => ⟨rfl, by rw [hU], by rw [hU]; exact hPc, va_K.moved hW.alike hKc, hDc.weaken (fun _ _ _ _ => trivial), nzA_warm hW hz⟩⟩ rfl rfl hl.1 rfl (lv_room (Nat.le_of_ble_eq_true rfl)) dX9_fill_29 ⟨Nat.zero_le _, Nat.zero_le _⟩) hS (fun q _ h => hFc q h) hFc (fun u t H1 locs ht hvm hw hB hz1 hk1 hS => ?_)
  obtain ⟨f_22, hB⟩ := hB
  obtain ⟨hP1, hD1⟩ := hB
  rw [ht] at hP1
  obtain ⟨hP, hD⟩ := va_join (wr := [(h0, .inr (9, [.ref bf, .ref bh, .ref sa, .int frmonths, .int frfull, .int frlean])), (bh, .inl (kbh, 3575, .inl fbh)), (sa, .inl (ksa, 325, .inl fsa)), (fr, .inr (3, [.int frmonths, .int frfull, .int frlean, .ref fral, .ref fron])), (fral, .inl (kfral, 25, .inl ffral))]) (w1 := [(bf, .inl (kbf, 3575, .inl f_22))]) hP hD [1] [0, 2, 3, 4, 5] rfl rfl (by decide) (by decide) hk1 hFc hP1 hD1
  have hP := hP.sub (ws' := [(h0, .inr (9, [.ref bf, .ref bh, .ref sa, .int frmonths, .int frfull, .int frlean])), (bf, .inl (kbf, 3575, .inl f_22)), (bh, .inl (kbh, 3575, .inl fbh)), (sa, .inl (ksa, 325, .inl fsa)), (fr, .inr (3, [.int frmonths, .int frfull, .int frlean, .ref fral, .ref fron])), (fral, .inl (kfral, 25, .inl ffral))]) [0, 5, 1, 2, 3, 4] rfl
  have hD := hD.sub (ws' := [(h0, .inr (9, [.ref bf, .ref bh, .ref sa, .int frmonths, .int frfull, .int frlean])), (bf, .inl (kbf, 3575, .inl f_22)), (bh, .inl (kbh, 3575, .inl fbh)), (sa, .inl (ksa, 325, .inl fsa)), (fr, .inr (3, [.int frmonths, .int frfull, .int frlean, .ref fral, .ref fron])), (fral, .inl (kfral, 25, .inl ffral))]) [0, 5, 1, 2, 3, 4] (by decide) rfl
  generalize H1 = H at hP hS ⊢
  refine lv_aload_n hx hb dX9_fill_32 rfl (lv_at hl 0 rfl) ?_
  refine va_get (D := (dC, dI)) (ci := 9) (v := .ref bh) (C := RX9) (T := TX9) (N := 6) hx hb hts (fun w h => List.mem_cons_of_mem _ (jnGA_X9 w h)) hown hK hP 0 rfl rfl 1 (by decide) (hts _ (List.mem_cons_of_mem _ mGA_112)) (fun _ h9 => h9) rfl dX9_fill_33 ?_
  refine lv_iconst (v := 0) hx hb dX9_fill_36 (by decide) ?_
  have hPc := hP.sub (ws' := [(bh, .inl (kbh, 3575, .inl fbh))]) [2] rfl
  have hKc := hK.sub (tys' := [(kbh, .int)]) [1] rfl
  have hDc := hD.sub (ws' := [(bh, .inl (kbh, 3575, .inl fbh))]) [2] (by decide) rfl
  have hFc := va_free (wc := [(bh, .inl (kbh, 3575, .inl fbh))]) hD hS hA [2] rfl
  refine va_callv (va_runS (As := [.ref bh, .int 0]) (rest := []) ⟨hx, hb, hml, hown, hts⟩ (sJ7_fill3575 l dC dI H.size bh kbh fbh 0) (⟨callB_of 2 hts (gz_gP mGA_568 goodGA) rfl rfl rfl (hts _ (List.mem_cons_of_mem _ mGA_567)) (hts _ (List.mem_cons_of_mem _ mGA_565)) (by decide +kernel) ⟨Nat.le_of_ble_eq_true rfl, Nat.le_of_ble_eq_true rfl⟩, (hts _ (List.mem_cons_of_mem _ mGA_566))⟩) ⟨bl_I (bl_a bl_sz (bl_a bl_P (bl_a bl_K (bl_a bl_c bl_nz)))), fun U hU hW => ⟨rfl, by rw [hU], by rw [hU]; exact hPc, va_K.moved hW.alike hKc, hDc.weaken (fun _ _ _ _ => trivial), nzA_warm hW hz⟩⟩ rfl rfl hl.1 rfl (lv_room (Nat.le_of_ble_eq_true rfl)) dX9_fill_37 ⟨Nat.zero_le _, Nat.zero_le _⟩) hS (fun q _ h => hFc q h) hFc (fun u t H1 locs ht hvm hw hB hz1 hk1 hS => ?_)
  obtain ⟨f_24, hB⟩ := hB
  obtain ⟨hP1, hD1⟩ := hB
  rw [ht] at hP1
  obtain ⟨hP, hD⟩ := va_join (wr := [(h0, .inr (9, [.ref bf, .ref bh, .ref sa, .int frmonths, .int frfull, .int frlean])), (bf, .inl (kbf, 3575, .inl f_22)), (sa, .inl (ksa, 325, .inl fsa)), (fr, .inr (3, [.int frmonths, .int frfull, .int frlean, .ref fral, .ref fron])), (fral, .inl (kfral, 25, .inl ffral))]) (w1 := [(bh, .inl (kbh, 3575, .inl f_24))]) hP hD [2] [0, 1, 3, 4, 5] rfl rfl (by decide) (by decide) hk1 hFc hP1 hD1
  have hP := hP.sub (ws' := [(h0, .inr (9, [.ref bf, .ref bh, .ref sa, .int frmonths, .int frfull, .int frlean])), (bf, .inl (kbf, 3575, .inl f_22)), (bh, .inl (kbh, 3575, .inl f_24)), (sa, .inl (ksa, 325, .inl fsa)), (fr, .inr (3, [.int frmonths, .int frfull, .int frlean, .ref fral, .ref fron])), (fral, .inl (kfral, 25, .inl ffral))]) [0, 1, 5, 2, 3, 4] rfl
  have hD := hD.sub (ws' := [(h0, .inr (9, [.ref bf, .ref bh, .ref sa, .int frmonths, .int frfull, .int frlean])), (bf, .inl (kbf, 3575, .inl f_22)), (bh, .inl (kbh, 3575, .inl f_24)), (sa, .inl (ksa, 325, .inl fsa)), (fr, .inr (3, [.int frmonths, .int frfull, .int frlean, .ref fral, .ref fron])), (fral, .inl (kfral, 25, .inl ffral))]) [0, 1, 5, 2, 3, 4] (by decide) rfl
  generalize H1 = H at hP hS ⊢
  refine lv_aload_n hx hb dX9_fill_40 rfl (lv_at hl 0 rfl) ?_
  refine lv_aload_n hx hb dX9_fill_41 rfl (lv_at hl 1 rfl) ?_
  have hPc := hP.sub (ws' := [(h0, .inr (9, [.ref bf, .ref bh, .ref sa, .int frmonths, .int frfull, .int frlean])), (bf, .inl (kbf, 3575, .inl f_22)), (fr, .inr (3, [.int frmonths, .int frfull, .int frlean, .ref fral, .ref fron])), (fral, .inl (kfral, 25, .inl ffral))]) [0, 1, 4, 5] rfl
  have hKc := hK.sub (tys' := [(kbf, .int), (kfral, .int)]) [0, 3] rfl
  have hDc := hD.sub (ws' := [(h0, .inr (9, [.ref bf, .ref bh, .ref sa, .int frmonths, .int frfull, .int frlean])), (bf, .inl (kbf, 3575, .inl f_22)), (fr, .inr (3, [.int frmonths, .int frfull, .int frlean, .ref fral, .ref fron])), (fral, .inl (kfral, 25, .inl ffral))]) [0, 1, 4, 5] (by decide) rfl
  have hFc := va_free (wc := [(h0, .inr (9, [.ref bf, .ref bh, .ref sa, .int frmonths, .int frfull, .int frlean])), (bf, .inl (kbf, 3575, .inl f_22)), (fr, .inr (3, [.int frmonths, .int frfull, .int frlean, .ref fral, .ref fron])), (fral, .inl (kfral, 25, .inl ffral))]) hD hS hA [0, 1, 4, 5] rfl
  refine va_callv (va_runV (As := [.ref fr]) (rest := []) ⟨hx, hb, hml, hown, hts⟩ (sX9_countBefore l dC dI H.size h0 bf fr fral bh sa frmonths frfull frlean kbf f_22 frmonths frfull frlean fron kfral ffral gfrmonths gfrfull gfrlean gfrmonths gfrfull gfrlean) (cwV 1 hts (gz_gV mGA_569 mGA_570 mGA_571 mGA_27 mGA_572 goodGA) rfl rfl rfl (by decide +kernel) ⟨Nat.le_of_ble_eq_true rfl, Nat.le_of_ble_eq_true rfl⟩) ⟨bl_I (bl_a bl_sz (bl_a bl_P (bl_a bl_K (bl_a bl_c bl_nz)))), va_recv hKc hPc (ci := 9) (q0 := 0) rfl rfl, fun U hU hW => ⟨rfl, by rw [hU], by rw [hU]; exact hPc, va_K.moved hW.alike hKc, hDc.weaken (fun _ _ _ _ => trivial), nzA_warm hW hz⟩⟩ rfl rfl hl.1 rfl (lv_room (Nat.le_of_ble_eq_true rfl)) dX9_fill_42 ⟨Nat.zero_le _, Nat.zero_le _⟩) hS (fun q _ h => hFc q h) hFc (fun u t H1 locs ht hvm hw hB hz1 hk1 hS => ?_)
  obtain ⟨f_26, hB⟩ := hB
  obtain ⟨hP1, hD1⟩ := hB
  rw [ht] at hP1
  obtain ⟨hP, hD⟩ := va_join (wr := [(bh, .inl (kbh, 3575, .inl f_24)), (sa, .inl (ksa, 325, .inl fsa))]) (w1 := [(h0, .inr (9, [.ref bf, .ref bh, .ref sa, .int frmonths, .int frfull, .int frlean])), (bf, .inl (kbf, 3575, .inl f_26)), (fr, .inr (3, [.int frmonths, .int frfull, .int frlean, .ref fral, .ref fron])), (fral, .inl (kfral, 25, .inl ffral))]) hP hD [0, 1, 4, 5] [2, 3] rfl rfl (by decide) (by decide) hk1 hFc hP1 hD1
  have hP := hP.sub (ws' := [(h0, .inr (9, [.ref bf, .ref bh, .ref sa, .int frmonths, .int frfull, .int frlean])), (bf, .inl (kbf, 3575, .inl f_26)), (bh, .inl (kbh, 3575, .inl f_24)), (sa, .inl (ksa, 325, .inl fsa)), (fr, .inr (3, [.int frmonths, .int frfull, .int frlean, .ref fral, .ref fron])), (fral, .inl (kfral, 25, .inl ffral))]) [2, 3, 0, 1, 4, 5] rfl
  have hD := hD.sub (ws' := [(h0, .inr (9, [.ref bf, .ref bh, .ref sa, .int frmonths, .int frfull, .int frlean])), (bf, .inl (kbf, 3575, .inl f_26)), (bh, .inl (kbh, 3575, .inl f_24)), (sa, .inl (ksa, 325, .inl fsa)), (fr, .inr (3, [.int frmonths, .int frfull, .int frlean, .ref fral, .ref fron])), (fral, .inl (kfral, 25, .inl ffral))]) [2, 3, 0, 1, 4, 5] (by decide) rfl
  generalize H1 = H at hP hS ⊢
  refine lv_aload_n hx hb dX9_fill_45 rfl (lv_at hl 0 rfl) ?_
  have hPc := hP.sub (ws' := [(h0, .inr (9, [.ref bf, .ref bh, .ref sa, .int frmonths, .int frfull, .int frlean])), (bf, .inl (kbf, 3575, .inl f_26)), (bh, .inl (kbh, 3575, .inl f_24))]) [0, 1, 2] rfl
  have hKc := hK.sub (tys' := [(kbf, .int), (kbh, .int)]) [0, 1] rfl
  have hDc := hD.sub (ws' := [(h0, .inr (9, [.ref bf, .ref bh, .ref sa, .int frmonths, .int frfull, .int frlean])), (bf, .inl (kbf, 3575, .inl f_26)), (bh, .inl (kbh, 3575, .inl f_24))]) [0, 1, 2] (by decide) rfl
  have hFc := va_free (wc := [(h0, .inr (9, [.ref bf, .ref bh, .ref sa, .int frmonths, .int frfull, .int frlean])), (bf, .inl (kbf, 3575, .inl f_26)), (bh, .inl (kbh, 3575, .inl f_24))]) hD hS hA [0, 1, 2] rfl
  refine va_callv (va_runV (As := []) (rest := []) ⟨hx, hb, hml, hown, hts⟩ (sX9_countBehind l dC dI H.size h0 bf bh sa frmonths frfull frlean kbf f_26 kbh f_24 gfrmonths gfrfull gfrlean) (cwV 0 hts (gz_gV mGA_590 mGA_591 mGA_592 mGA_27 mGA_593 goodGA) rfl rfl rfl (by decide +kernel) ⟨Nat.le_of_ble_eq_true rfl, Nat.le_of_ble_eq_true rfl⟩) ⟨bl_I (bl_a bl_sz (bl_a bl_P (bl_a bl_K (bl_a bl_c bl_nz)))), va_recv hKc hPc (ci := 9) (q0 := 0) rfl rfl, fun U hU hW => ⟨rfl, by rw [hU], by rw [hU]; exact hPc, va_K.moved hW.alike hKc, hDc.weaken (fun _ _ _ _ => trivial), nzA_warm hW hz⟩⟩ rfl rfl hl.1 rfl (lv_room (Nat.le_of_ble_eq_true rfl)) dX9_fill_46 ⟨Nat.zero_le _, Nat.zero_le _⟩) hS (fun q _ h => hFc q h) hFc (fun u t H1 locs ht hvm hw hB hz1 hk1 hS => ?_)
  obtain ⟨f_28, hB⟩ := hB
  obtain ⟨hP1, hD1⟩ := hB
  rw [ht] at hP1
  obtain ⟨hP, hD⟩ := va_join (wr := [(sa, .inl (ksa, 325, .inl fsa)), (fr, .inr (3, [.int frmonths, .int frfull, .int frlean, .ref fral, .ref fron])), (fral, .inl (kfral, 25, .inl ffral))]) (w1 := [(h0, .inr (9, [.ref bf, .ref bh, .ref sa, .int frmonths, .int frfull, .int frlean])), (bf, .inl (kbf, 3575, .inl f_26)), (bh, .inl (kbh, 3575, .inl f_28))]) hP hD [0, 1, 2] [3, 4, 5] rfl rfl (by decide) (by decide) hk1 hFc hP1 hD1
  have hP := hP.sub (ws' := [(h0, .inr (9, [.ref bf, .ref bh, .ref sa, .int frmonths, .int frfull, .int frlean])), (bf, .inl (kbf, 3575, .inl f_26)), (bh, .inl (kbh, 3575, .inl f_28)), (sa, .inl (ksa, 325, .inl fsa)), (fr, .inr (3, [.int frmonths, .int frfull, .int frlean, .ref fral, .ref fron])), (fral, .inl (kfral, 25, .inl ffral))]) [3, 4, 5, 0, 1, 2] rfl
  have hD := hD.sub (ws' := [(h0, .inr (9, [.ref bf, .ref bh, .ref sa, .int frmonths, .int frfull, .int frlean])), (bf, .inl (kbf, 3575, .inl f_26)), (bh, .inl (kbh, 3575, .inl f_28)), (sa, .inl (ksa, 325, .inl fsa)), (fr, .inr (3, [.int frmonths, .int frfull, .int frlean, .ref fral, .ref fron])), (fral, .inl (kfral, 25, .inl ffral))]) [3, 4, 5, 0, 1, 2] (by decide) rfl
  generalize H1 = H at hP hS ⊢
  refine lv_aload_n hx hb dX9_fill_49 rfl (lv_at hl 0 rfl) ?_
  have hPc := hP.sub (ws' := [(h0, .inr (9, [.ref bf, .ref bh, .ref sa, .int frmonths, .int frfull, .int frlean])), (bf, .inl (kbf, 3575, .inl f_26)), (bh, .inl (kbh, 3575, .inl f_28)), (sa, .inl (ksa, 325, .inl fsa))]) [0, 1, 2, 3] rfl
  have hKc := hK.sub (tys' := [(kbf, .int), (kbh, .int), (ksa, .int)]) [0, 1, 2] rfl
  have hDc := hD.sub (ws' := [(h0, .inr (9, [.ref bf, .ref bh, .ref sa, .int frmonths, .int frfull, .int frlean])), (bf, .inl (kbf, 3575, .inl f_26)), (bh, .inl (kbh, 3575, .inl f_28)), (sa, .inl (ksa, 325, .inl fsa))]) [0, 1, 2, 3] (by decide) rfl
  have hFc := va_free (wc := [(h0, .inr (9, [.ref bf, .ref bh, .ref sa, .int frmonths, .int frfull, .int frlean])), (bf, .inl (kbf, 3575, .inl f_26)), (bh, .inl (kbh, 3575, .inl f_28)), (sa, .inl (ksa, 325, .inl fsa))]) hD hS hA [0, 1, 2, 3] rfl
  refine va_callv (va_runV (As := []) (rest := []) ⟨hx, hb, hml, hown, hts⟩ (sX9_countStarts l dC dI H.size h0 bf bh sa frmonths frfull frlean kbf f_26 kbh f_28 ksa fsa gfrmonths gfrfull gfrlean) (cwV 0 hts (gz_gV mGA_603 mGA_604 mGA_605 mGA_27 mGA_606 goodGA) rfl rfl rfl (by decide +kernel) ⟨Nat.le_of_ble_eq_true rfl, Nat.le_of_ble_eq_true rfl⟩) ⟨bl_I (bl_a bl_sz (bl_a bl_P (bl_a bl_K (bl_a bl_c bl_nz)))), va_recv hKc hPc (ci := 9) (q0 := 0) rfl rfl, fun U hU hW => ⟨rfl, by rw [hU], by rw [hU]; exact hPc, va_K.moved hW.alike hKc, hDc.weaken (fun _ _ _ _ => trivial), nzA_warm hW hz⟩⟩ rfl rfl hl.1 rfl (lv_room (Nat.le_of_ble_eq_true rfl)) dX9_fill_50 ⟨Nat.zero_le _, Nat.zero_le _⟩) hS (fun q _ h => hFc q h) hFc (fun u t H1 locs ht hvm hw hB hz1 hk1 hS => ?_)
  obtain ⟨f_30, hB⟩ := hB
  obtain ⟨hP1, hD1⟩ := hB
  rw [ht] at hP1
  obtain ⟨hP, hD⟩ := va_join (wr := [(fr, .inr (3, [.int frmonths, .int frfull, .int frlean, .ref fral, .ref fron])), (fral, .inl (kfral, 25, .inl ffral))]) (w1 := [(h0, .inr (9, [.ref bf, .ref bh, .ref sa, .int frmonths, .int frfull, .int frlean])), (bf, .inl (kbf, 3575, .inl f_26)), (bh, .inl (kbh, 3575, .inl f_28)), (sa, .inl (ksa, 325, .inl f_30))]) hP hD [0, 1, 2, 3] [4, 5] rfl rfl (by decide) (by decide) hk1 hFc hP1 hD1
  have hP := hP.sub (ws' := [(h0, .inr (9, [.ref bf, .ref bh, .ref sa, .int frmonths, .int frfull, .int frlean])), (bf, .inl (kbf, 3575, .inl f_26)), (bh, .inl (kbh, 3575, .inl f_28)), (sa, .inl (ksa, 325, .inl f_30)), (fr, .inr (3, [.int frmonths, .int frfull, .int frlean, .ref fral, .ref fron])), (fral, .inl (kfral, 25, .inl ffral))]) [2, 3, 4, 5, 0, 1] rfl
  have hD := hD.sub (ws' := [(h0, .inr (9, [.ref bf, .ref bh, .ref sa, .int frmonths, .int frfull, .int frlean])), (bf, .inl (kbf, 3575, .inl f_26)), (bh, .inl (kbh, 3575, .inl f_28)), (sa, .inl (ksa, 325, .inl f_30)), (fr, .inr (3, [.int frmonths, .int frfull, .int frlean, .ref fral, .ref fron])), (fral, .inl (kfral, 25, .inl ffral))]) [2, 3, 4, 5, 0, 1] (by decide) rfl
  generalize H1 = H at hP hS ⊢
  exact W.vret hx hb hr (fun t ht hW => ⟨⟨(), rfl, trivial, frmonths, frfull, frlean, f_26, f_28, f_30, gfrmonths, gfrfull, gfrlean, by rw [ht]; exact hP, hD⟩, hS.F ht⟩) hS.2.2 dX9_fill_53
