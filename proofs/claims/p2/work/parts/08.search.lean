theorem dX8_wipe_0 : decode cX8_wipe 0 = .ok (.aload_n 0, 1) := by decide +kernel
theorem dX8_wipe_1 : decode cX8_wipe 1 = .ok (.getfield 9, 3) := by decide +kernel
theorem dX8_wipe_4 : decode cX8_wipe 4 = .ok (.iconst 0, 1) := by decide +kernel
theorem dX8_wipe_5 : decode cX8_wipe 5 = .ok (.invokestatic 18, 3) := by decide +kernel
theorem dX8_wipe_8 : decode cX8_wipe 8 = .ok (.return_, 1) := by decide +kernel
set_option maxHeartbeats 4000000 in
set_option maxRecDepth 100000 in
theorem sX8_wipe (l : Launch) (dC : Nat → ClassId) (dI : Nat → Nat → Nat) (sz : Nat) (h0 : Nat) (co : Nat) (le : Nat) (months : Int32) (full : Int32) (lean : Int32) (kco : ClassId) (fco : Nat → Int32) (gmonths : gi months 0 24) (gfull : gi full 0 5) (glean : gi lean 0 5) : Met l yX8_wipe (.code yX8_wipe cX8_wipe 1 none :: wsGA) ({ frames := 1, cells := 0, slots := 0, locals := 23 }) (va_Pc [.ref h0] (fun U => U.heap.size = sz ∧ va_P (dC, dI) vwCl [(h0, .inr (8, [.ref co, .ref le, .int months, .int full, .int lean])), (co, .inl (kco, 325, .inl fco))] U.heap ∧ va_K (dC, dI) vwCl [(kco, .int)] U ∧ va_D (fun _ => True) [(h0, .inr (8, [.ref co, .ref le, .int months, .int full, .int lean])), (co, .inl (kco, 325, .inl fco))] ∧ nzA U)) (va_Qv (fun (u : Unit) => True) (fun _ t => ∃ (z1 : Nat → Int32), va_P (dC, dI) vwCl [(h0, .inr (8, [.ref co, .ref le, .int months, .int full, .int lean])), (co, .inl (kco, 325, .inl z1))] t.heap ∧ va_D (va_A [(h0, .inr (8, [.ref co, .ref le, .int months, .int full, .int lean])), (co, .inl (kco, 325, .inl fco))] sz) [(h0, .inr (8, [.ref co, .ref le, .int months, .int full, .int lean])), (co, .inl (kco, 325, .inl z1))]) (va_A [(h0, .inr (8, [.ref co, .ref le, .int months, .int full, .int lean])), (co, .inl (kco, 325, .inl fco))] sz)) 0 0 (va_A [(h0, .inr (8, [.ref co, .ref le, .int months, .int full, .int lean])), (co, .inl (kco, 325, .inl fco))] sz) := by
  refine Met.ofW (cc := cX8_wipe) (maxL := 1) (ret := none) (by decide) rfl ?_
  intro p e s m args below meth c s₁ B hml hv
  obtain ⟨rfl, hsz, hP, hK, hD0, hz⟩ := hv
  have hx := B.exec
  have hb := B.bytes
  have hr := B.returns
  have hts := atoms_spec (ws := (.code yX8_wipe cX8_wipe 1 none :: wsGA)) B.pre
  have hown : s.vm.findClass RX8 = some m.cls := findClass_of_methodNamed B.named
  have hlocks := B.notSynchronized
  subst hsz
  have hD := hD0.self (sz := s.heap.size)
  generalize hAe : va_A [(h0, .inr (8, [.ref co, .ref le, .int months, .int full, .int lean])), (co, .inl (kco, 325, .inl fco))] s.heap.size = A at hD ⊢
  have hA : ∀ q : Nat, s.heap.size ≤ q → A q := fun q h => by rw [← hAe]; exact Or.inr h
  have hS : va_S A s.heap s.heap [] := va_S.rf
  have hl := lv_entry ([.ref h0]) (n := 1) (Nat.le_of_ble_eq_true rfl)
  rw [lg_entry_eq]
  generalize (lg_sl ([.ref h0]) ++ List.replicate (1 - (lg_sl ([.ref h0])).length) Slot.unset).toArray = ls at hl ⊢
  have hl : lv_has ls 1 [(0, .ref h0)] := hl
  refine lv_aload_n hx hb dX8_wipe_0 rfl (lv_at hl 0 rfl) ?_
  refine va_get (D := (dC, dI)) (ci := 8) (v := .ref co) (C := RX8) (T := TX8) (N := 5) hx hb hts (fun w h => List.mem_cons_of_mem _ (jnGA_X8 w h)) hown hK hP 0 rfl rfl 0 (by decide) (hts _ (List.mem_cons_of_mem _ mGA_117)) (fun _ h9 => h9) rfl dX8_wipe_1 ?_
  refine lv_iconst (v := 0) hx hb dX8_wipe_4 (by decide) ?_
  have hPc := hP.sub (ws' := [(co, .inl (kco, 325, .inl fco))]) [1] rfl
  have hKc := hK.sub (tys' := [(kco, .int)]) [0] rfl
  have hDc := hD.sub (ws' := [(co, .inl (kco, 325, .inl fco))]) [1] (by decide) rfl
  have hFc := va_free (wc := [(co, .inl (kco, 325, .inl fco))]) hD hS hA [1] rfl
  refine va_callv (va_runS (As := [.ref co, .int 0]) (rest := []) ⟨hx, hb, hml, hown, hts⟩ (sJ7_fill325 l dC dI s.heap.size co kco fco 0) (⟨callB_of 2 hts (gz_gP mGA_568 goodGA) rfl rfl rfl (hts _ (List.mem_cons_of_mem _ mGA_567)) (hts _ (List.mem_cons_of_mem _ mGA_773)) (by decide +kernel) ⟨Nat.le_of_ble_eq_true rfl, Nat.le_of_ble_eq_true rfl⟩, (hts _ (List.mem_cons_of_mem _ mGA_566))⟩) ⟨fun a U g mk q => by obtain ⟨q0, q1, qP, qK, qD, qZ⟩ := q; exact ⟨q0, q1, qP, va_K.moved (u := U) (U := U.calling g mk a) (Vm.Alike.refl U.vm) qK, qD, nzA_same (u := U) (U := U.calling g mk a) rfl qZ⟩, fun U hU hW => ⟨rfl, by rw [hU], by rw [hU]; exact hPc, va_K.moved hW.alike hKc, hDc.weaken (fun _ _ _ _ => trivial), nzA_warm hW hz⟩⟩ rfl rfl hl.1 rfl (lv_room (Nat.le_of_ble_eq_true rfl)) dX8_wipe_5 ⟨Nat.zero_le _, Nat.zero_le _⟩) hS (fun q _ h => hFc q h) hFc (fun u t H1 locs ht hvm hw hB hz1 hk1 hS => ?_)
  obtain ⟨f_6, hP1, hD1⟩ := hB
  rw [ht] at hP1
  obtain ⟨hP, hD⟩ := va_join (wr := [(h0, .inr (8, [.ref co, .ref le, .int months, .int full, .int lean]))]) (w1 := [(co, .inl (kco, 325, .inl f_6))]) hP hD [1] [0] rfl rfl (by decide) (by decide) hk1 hFc hP1 hD1
  have hP := hP.sub (ws' := [(h0, .inr (8, [.ref co, .ref le, .int months, .int full, .int lean])), (co, .inl (kco, 325, .inl f_6))]) [0, 1] rfl
  have hD := hD.sub (ws' := [(h0, .inr (8, [.ref co, .ref le, .int months, .int full, .int lean])), (co, .inl (kco, 325, .inl f_6))]) [0, 1] (by decide) rfl
  generalize H1 = H at hP hS ⊢
  exact W.vret hx hb hr (fun t ht hW => ⟨⟨(), rfl, trivial, f_6, by rw [ht]; exact hP, hD⟩, hS.F ht⟩) hS.2.2 dX8_wipe_8
theorem dX8_charge_0 : decode cX8_charge 0 = .ok (.aload_n 0, 1) := by decide +kernel
theorem dX8_charge_1 : decode cX8_charge 1 = .ok (.getfield 9, 3) := by decide +kernel
theorem dX8_charge_4 : decode cX8_charge 4 = .ok (.iload_n 1, 1) := by decide +kernel
theorem dX8_charge_5 : decode cX8_charge 5 = .ok (.iload_n 2, 1) := by decide +kernel
theorem dX8_charge_6 : decode cX8_charge 6 = .ok (.invokestatic 24, 3) := by decide +kernel
theorem dX8_charge_9 : decode cX8_charge 9 = .ok (.dup2, 1) := by decide +kernel
theorem dX8_charge_10 : decode cX8_charge 10 = .ok (.iaload, 1) := by decide +kernel
theorem dX8_charge_11 : decode cX8_charge 11 = .ok (.iload_n 3, 1) := by decide +kernel
theorem dX8_charge_12 : decode cX8_charge 12 = .ok (.iadd, 1) := by decide +kernel
theorem dX8_charge_13 : decode cX8_charge 13 = .ok (.iastore, 1) := by decide +kernel
theorem dX8_charge_14 : decode cX8_charge 14 = .ok (.return_, 1) := by decide +kernel
set_option maxHeartbeats 4000000 in
set_option maxRecDepth 100000 in
theorem sX8_charge (l : Launch) (dC : Nat → ClassId) (dI : Nat → Nat → Nat) (sz : Nat) (h0 : Nat) (co : Nat) (le : Nat) (months : Int32) (full : Int32) (lean : Int32) (kco : ClassId) (fco : Nat → Int32) (p0 : Int32) (p1 : Int32) (p2 : Int32) (gmonths : gi months 0 24) (gfull : gi full 0 5) (glean : gi lean 0 5) (gp0 : gi p0 0 24) (gp1 : gi p1 0 24) : Met l yX8_charge (.code yX8_charge cX8_charge 4 none :: wsGA) ({ frames := 1, cells := 0, slots := 0, locals := 21 }) (va_Pc [.ref h0, .int p0, .int p1, .int p2] (fun U => U.heap.size = sz ∧ va_P (dC, dI) vwCl [(h0, .inr (8, [.ref co, .ref le, .int months, .int full, .int lean])), (co, .inl (kco, 325, .inl fco))] U.heap ∧ va_K (dC, dI) vwCl [(kco, .int)] U ∧ va_D (fun _ => True) [(h0, .inr (8, [.ref co, .ref le, .int months, .int full, .int lean])), (co, .inl (kco, 325, .inl fco))] ∧ nzA U)) (va_Qv (fun (u : Unit) => True) (fun _ t => ∃ (z1 : Nat → Int32), va_P (dC, dI) vwCl [(h0, .inr (8, [.ref co, .ref le, .int months, .int full, .int lean])), (co, .inl (kco, 325, .inl z1))] t.heap ∧ va_D (va_A [(h0, .inr (8, [.ref co, .ref le, .int months, .int full, .int lean])), (co, .inl (kco, 325, .inl fco))] sz) [(h0, .inr (8, [.ref co, .ref le, .int months, .int full, .int lean])), (co, .inl (kco, 325, .inl z1))]) (va_A [(h0, .inr (8, [.ref co, .ref le, .int months, .int full, .int lean])), (co, .inl (kco, 325, .inl fco))] sz)) 0 0 (va_A [(h0, .inr (8, [.ref co, .ref le, .int months, .int full, .int lean])), (co, .inl (kco, 325, .inl fco))] sz) := by
  refine Met.ofW (cc := cX8_charge) (maxL := 4) (ret := none) (by decide) rfl ?_
  intro p e s m args below meth c s₁ B hml hv
  obtain ⟨rfl, hsz, hP, hK, hD0, hz⟩ := hv
  have hx := B.exec
  have hb := B.bytes
  have hr := B.returns
  have hts := atoms_spec (ws := (.code yX8_charge cX8_charge 4 none :: wsGA)) B.pre
  have hown : s.vm.findClass RX8 = some m.cls := findClass_of_methodNamed B.named
  have hlocks := B.notSynchronized
  subst hsz
  have hD := hD0.self (sz := s.heap.size)
  generalize hAe : va_A [(h0, .inr (8, [.ref co, .ref le, .int months, .int full, .int lean])), (co, .inl (kco, 325, .inl fco))] s.heap.size = A at hD ⊢
  have hA : ∀ q : Nat, s.heap.size ≤ q → A q := fun q h => by rw [← hAe]; exact Or.inr h
  have hS : va_S A s.heap s.heap [] := va_S.rf
  have hl := lv_entry ([.ref h0, .int p0, .int p1, .int p2]) (n := 4) (Nat.le_of_ble_eq_true rfl)
  rw [lg_entry_eq]
  generalize (lg_sl ([.ref h0, .int p0, .int p1, .int p2]) ++ List.replicate (4 - (lg_sl ([.ref h0, .int p0, .int p1, .int p2])).length) Slot.unset).toArray = ls at hl ⊢
  have hl : lv_has ls 4 [(0, .ref h0), (1, .int p0), (2, .int p1), (3, .int p2)] := hl
  refine lv_aload_n hx hb dX8_charge_0 rfl (lv_at hl 0 rfl) ?_
  refine va_get (D := (dC, dI)) (ci := 8) (v := .ref co) (C := RX8) (T := TX8) (N := 5) hx hb hts (fun w h => List.mem_cons_of_mem _ (jnGA_X8 w h)) hown hK hP 0 rfl rfl 0 (by decide) (hts _ (List.mem_cons_of_mem _ mGA_117)) (fun _ h9 => h9) rfl dX8_charge_1 ?_
  refine lv_iload_n hx hb dX8_charge_4 rfl (lv_at hl 1 rfl) ?_
  refine lv_iload_n hx hb dX8_charge_5 rfl (lv_at hl 2 rfl) ?_
  have hPc := hP.sub (ws' := []) [] rfl
  have hKc := hK.sub (tys' := []) [] rfl
  refine va_calli (va_runSN (As := [.int p0, .int p1]) (rest := [.ref co]) ⟨hx, hb, hml, hown, hts⟩ (sX11_cell l dC dI p0 p1 gp0 gp1) (⟨va_cnB 2 hts (gz_gP mGA_585 goodGA) rfl rfl rfl (nzA_X8_24 hz) (hts _ (List.mem_cons_of_mem _ mGA_1)) (by decide +kernel) ⟨Nat.le_of_ble_eq_true rfl, Nat.le_of_ble_eq_true rfl⟩, (hts _ (List.mem_cons_of_mem _ mGA_584)), trivial⟩) ⟨fun a U g mk q => by obtain ⟨q0, qP, qK, qZ⟩ := q; exact ⟨q0, qP, va_K.moved (u := U) (U := U.calling g mk a) (Vm.Alike.refl U.vm) qK, nzA_same (u := U) (U := U.calling g mk a) rfl qZ⟩, fun U hU hW => ⟨rfl, by rw [hU]; exact hPc, va_K.moved hW.alike hKc, nzA_warm hW hz⟩⟩ rfl rfl hl.1 rfl (lv_room (Nat.le_of_ble_eq_true rfl)) dX8_charge_6 ⟨Nat.zero_le _, Nat.zero_le _⟩) hS (fun q _ h => h.elim) (fun q h => h.elim) (fun r_9 u t H1 locs ht hvm hw hB hz1 hk1 hS => ?_)
  have hP := gz_keep hP hk1
  generalize H1 = H at hP hS ⊢
  have gr_9 : gi r_9 0 324 := hw
  refine lv_dup2_11 hx hb dX8_charge_9 rfl rfl ?_
  refine va_iald hx hb hK hP 1 0 rfl rfl (gi_in gr_9 (by decide)) dX8_charge_10 ?_
  refine lv_topi (fun x_10 ex_10 => ?_)
  refine lv_iload_n hx hb dX8_charge_11 rfl (lv_at hl 3 rfl) ?_
  refine lv_iadd hx hb dX8_charge_12 ?_
  refine lv_topi (fun x_11 ex_11 => ?_)
  refine va_iast hx hb hK hP hD hS 1 0 rfl rfl (gi_in gr_9 (by decide)) dX8_charge_13 (fun H locs hP hD hS => ?_)
  have hP : va_P (dC, dI) vwCl [(h0, .inr (8, [.ref co, .ref le, .int months, .int full, .int lean])), (co, .inl (kco, 325, .inl (upd fco (r_9 : Int32).toNatClampNeg x_11)))] H := hP
  have hD : va_D A [(h0, .inr (8, [.ref co, .ref le, .int months, .int full, .int lean])), (co, .inl (kco, 325, .inl (upd fco (r_9 : Int32).toNatClampNeg x_11)))] := hD
  generalize upd fco (r_9 : Int32).toNatClampNeg x_11 = f_12 at hP hD
  exact W.vret hx hb hr (fun t ht hW => ⟨⟨(), rfl, trivial, f_12, by rw [ht]; exact hP, hD⟩, hS.F ht⟩) hS.2.2 dX8_charge_14
theorem dX8_withFull_0 : decode cX8_withFull 0 = .ok (.aload_n 0, 1) := by decide +kernel
theorem dX8_withFull_1 : decode cX8_withFull 1 = .ok (.getfield 15, 3) := by decide +kernel
theorem dX8_withFull_4 : decode cX8_withFull 4 = .ok (.iload_n 1, 1) := by decide +kernel
theorem dX8_withFull_5 : decode cX8_withFull 5 = .ok (.iconst 1, 1) := by decide +kernel
theorem dX8_withFull_6 : decode cX8_withFull 6 = .ok (.iadd, 1) := by decide +kernel
theorem dX8_withFull_7 : decode cX8_withFull 7 = .ok (.iload_n 2, 1) := by decide +kernel
theorem dX8_withFull_8 : decode cX8_withFull 8 = .ok (.iconst 1, 1) := by decide +kernel
theorem dX8_withFull_9 : decode cX8_withFull 9 = .ok (.iadd, 1) := by decide +kernel
theorem dX8_withFull_10 : decode cX8_withFull 10 = .ok (.iload_n 3, 1) := by decide +kernel
theorem dX8_withFull_11 : decode cX8_withFull 11 = .ok (.aload_n 0, 1) := by decide +kernel
theorem dX8_withFull_12 : decode cX8_withFull 12 = .ok (.getfield 38, 3) := by decide +kernel
theorem dX8_withFull_15 : decode cX8_withFull 15 = .ok (.invokestatic 74, 3) := by decide +kernel
theorem dX8_withFull_18 : decode cX8_withFull 18 = .ok (.invokestatic 71, 3) := by decide +kernel
theorem dX8_withFull_21 : decode cX8_withFull 21 = .ok (.iaload, 1) := by decide +kernel
theorem dX8_withFull_22 : decode cX8_withFull 22 = .ok (.ireturn, 1) := by decide +kernel
set_option maxHeartbeats 4000000 in
set_option maxRecDepth 100000 in
theorem sX8_withFull (l : Launch) (dC : Nat → ClassId) (dI : Nat → Nat → Nat) (h0 : Nat) (le : Nat) (co : Nat) (months : Int32) (full : Int32) (lean : Int32) (kle : ClassId) (fle : Nat → Int32) (p0 : Int32) (p1 : Int32) (p2 : Int32) (gmonths : gi months 0 24) (gfull : gi full 0 5) (glean : gi lean 0 5) (gp0 : gi p0 0 23) (gp1 : gi p1 0 23) (gp2 : gi p2 0 10) : Met l yX8_withFull (.code yX8_withFull cX8_withFull 4 (some .int) :: wsGA) ({ frames := 2, cells := 0, slots := 0, locals := 43 }) (va_Pc [.ref h0, .int p0, .int p1, .int p2] (fun U => va_P (dC, dI) vwCl [(h0, .inr (8, [.ref co, .ref le, .int months, .int full, .int lean])), (le, .inl (kle, 3575, .inl fle))] U.heap ∧ va_K (dC, dI) vwCl [(kle, .int)] U ∧ nzA U)) (va_Qi (fun (r : Int32) (u : Unit) => gi r (-2147483648) 2147483647) (fun _ _ => True) (fun _ => False)) 0 0 (fun _ => False) := by
  refine Met.ofW (cc := cX8_withFull) (maxL := 4) (ret := (some .int)) (by decide) rfl ?_
  intro p e s m args below meth c s₁ B hml hv
  obtain ⟨rfl, hP, hK, hz⟩ := hv
  have hx := B.exec
  have hb := B.bytes
  have hr := B.returns
  have hts := atoms_spec (ws := (.code yX8_withFull cX8_withFull 4 (some .int) :: wsGA)) B.pre
  have hown : s.vm.findClass RX8 = some m.cls := findClass_of_methodNamed B.named
  have hlocks := B.notSynchronized
  have hS : va_S (fun _ => False) s.heap s.heap [] := va_S.rf
  have hl := lv_entry ([.ref h0, .int p0, .int p1, .int p2]) (n := 4) (Nat.le_of_ble_eq_true rfl)
  rw [lg_entry_eq]
  generalize (lg_sl ([.ref h0, .int p0, .int p1, .int p2]) ++ List.replicate (4 - (lg_sl ([.ref h0, .int p0, .int p1, .int p2])).length) Slot.unset).toArray = ls at hl ⊢
  have hl : lv_has ls 4 [(0, .ref h0), (1, .int p0), (2, .int p1), (3, .int p2)] := hl
  refine lv_aload_n hx hb dX8_withFull_0 rfl (lv_at hl 0 rfl) ?_
  refine va_get (D := (dC, dI)) (ci := 8) (v := .ref le) (C := RX8) (T := TX8) (N := 5) hx hb hts (fun w h => List.mem_cons_of_mem _ (jnGA_X8 w h)) hown hK hP 0 rfl rfl 1 (by decide) (hts _ (List.mem_cons_of_mem _ mGA_118)) (fun _ h9 => h9) rfl dX8_withFull_1 ?_
  refine lv_iload_n hx hb dX8_withFull_4 rfl (lv_at hl 1 rfl) ?_
  refine lv_iconst (v := 1) hx hb dX8_withFull_5 (by decide) ?_
  refine lv_iadd hx hb dX8_withFull_6 ?_
  refine lv_topi (fun x_6 ex_6 => ?_)
  have gx_6 : gi x_6 1 24 := gi_add ex_6 gp0 (gi_c 1 1 (by decide)) (by decide)
  refine lv_iload_n hx hb dX8_withFull_7 rfl (lv_at hl 2 rfl) ?_
  refine lv_iconst (v := 1) hx hb dX8_withFull_8 (by decide) ?_
  refine lv_iadd hx hb dX8_withFull_9 ?_
  refine lv_topi (fun x_7 ex_7 => ?_)
  have gx_7 : gi x_7 1 24 := gi_add ex_7 gp1 (gi_c 1 1 (by decide)) (by decide)
  refine lv_iload_n hx hb dX8_withFull_10 rfl (lv_at hl 3 rfl) ?_
  refine lv_aload_n hx hb dX8_withFull_11 rfl (lv_at hl 0 rfl) ?_
  refine va_get (D := (dC, dI)) (ci := 8) (v := .int full) (C := RX8) (T := TX8) (N := 5) hx hb hts (fun w h => List.mem_cons_of_mem _ (jnGA_X8 w h)) hown hK hP 0 rfl rfl 3 (by decide) (hts _ (List.mem_cons_of_mem _ mGA_785)) (fun _ h9 => h9) rfl dX8_withFull_12 ?_
  have hPc := hP.sub (ws' := []) [] rfl
  have hKc := hK.sub (tys' := []) [] rfl
  refine va_calli (va_runSN (As := [.int p2, .int full]) (rest := [.int x_7, .int x_6, .ref le]) ⟨hx, hb, hml, hown, hts⟩ (sX11_runWithFull l dC dI p2 full gp2 gfull) (⟨va_cnB 2 hts (gz_gP mGA_508 goodGA) rfl rfl rfl (nzA_X8_74 hz) (hts _ (List.mem_cons_of_mem _ mGA_1)) (by decide +kernel) ⟨Nat.le_of_ble_eq_true rfl, Nat.le_of_ble_eq_true rfl⟩, (hts _ (List.mem_cons_of_mem _ mGA_507)), trivial⟩) ⟨fun a U g mk q => by obtain ⟨q0, qP, qK, qZ⟩ := q; exact ⟨q0, qP, va_K.moved (u := U) (U := U.calling g mk a) (Vm.Alike.refl U.vm) qK, nzA_same (u := U) (U := U.calling g mk a) rfl qZ⟩, fun U hU hW => ⟨rfl, by rw [hU]; exact hPc, va_K.moved hW.alike hKc, nzA_warm hW hz⟩⟩ rfl rfl hl.1 rfl (lv_room (Nat.le_of_ble_eq_true rfl)) dX8_withFull_15 ⟨Nat.zero_le _, Nat.zero_le _⟩) hS (fun q _ h => h.elim) (fun q h => h.elim) (fun r_8 u t H1 locs ht hvm hw hB hz1 hk1 hS => ?_)
  have hP := gz_keep hP hk1
  generalize H1 = H at hP hS ⊢
  have gr_8 : gi r_8 0 5 := hw
  have hPc := hP.sub (ws' := []) [] rfl
  have hKc := hK.sub (tys' := []) [] rfl
  refine va_calli (va_runSN (As := [.int x_6, .int x_7, .int r_8]) (rest := [.ref le]) ⟨hx, hb, hml, hown, hts⟩ (sX11_spot l dC dI x_6 x_7 r_8 (gi_w gx_6 (by decide)) (gi_w gx_7 (by decide)) (gi_w gr_8 (by decide))) (⟨va_cnB 3 hts (gz_gP mGA_582 goodGA) rfl rfl rfl (nzA_X8_71 hz) (hts _ (List.mem_cons_of_mem _ mGA_1)) (by decide +kernel) ⟨Nat.le_of_ble_eq_true rfl, Nat.le_of_ble_eq_true rfl⟩, (hts _ (List.mem_cons_of_mem _ mGA_581)), trivial⟩) ⟨fun a U g mk q => by obtain ⟨q0, qP, qK, qZ⟩ := q; exact ⟨q0, qP, va_K.moved (u := U) (U := U.calling g mk a) (Vm.Alike.refl U.vm) qK, nzA_same (u := U) (U := U.calling g mk a) rfl qZ⟩, fun U hU hW => ⟨rfl, by rw [hU]; exact hPc, va_K.moved hW.alike hKc, nzA_warm hW hz⟩⟩ rfl rfl hl.1 rfl (lv_room (Nat.le_of_ble_eq_true rfl)) dX8_withFull_18 ⟨Nat.zero_le _, Nat.zero_le _⟩) hS (fun q _ h => h.elim) (fun q h => h.elim) (fun r_9 u t H1 locs ht hvm hw hB hz1 hk1 hS => ?_)
  have hP := gz_keep hP hk1
  generalize H1 = H at hP hS ⊢
  have gr_9 : gi r_9 0 3574 := hw
  refine va_iald hx hb hK hP 1 0 rfl rfl (gi_in gr_9 (by decide)) dX8_withFull_21 ?_
  refine lv_topi (fun x_10 ex_10 => ?_)
  exact W.iret (v := x_10) hx hb hr (fun t ht hW => ⟨⟨x_10, (), rfl, (gi_any x_10), trivial⟩, hS.F ht⟩) hS.2.2 dX8_withFull_22
theorem dX8_withLean_0 : decode cX8_withLean 0 = .ok (.aload_n 0, 1) := by decide +kernel
theorem dX8_withLean_1 : decode cX8_withLean 1 = .ok (.getfield 15, 3) := by decide +kernel
theorem dX8_withLean_4 : decode cX8_withLean 4 = .ok (.iload_n 1, 1) := by decide +kernel
theorem dX8_withLean_5 : decode cX8_withLean 5 = .ok (.iconst 1, 1) := by decide +kernel
theorem dX8_withLean_6 : decode cX8_withLean 6 = .ok (.iadd, 1) := by decide +kernel
theorem dX8_withLean_7 : decode cX8_withLean 7 = .ok (.iload_n 2, 1) := by decide +kernel
theorem dX8_withLean_8 : decode cX8_withLean 8 = .ok (.iload_n 3, 1) := by decide +kernel
theorem dX8_withLean_9 : decode cX8_withLean 9 = .ok (.aload_n 0, 1) := by decide +kernel
theorem dX8_withLean_10 : decode cX8_withLean 10 = .ok (.getfield 38, 3) := by decide +kernel
theorem dX8_withLean_13 : decode cX8_withLean 13 = .ok (.aload_n 0, 1) := by decide +kernel
theorem dX8_withLean_14 : decode cX8_withLean 14 = .ok (.getfield 42, 3) := by decide +kernel
theorem dX8_withLean_17 : decode cX8_withLean 17 = .ok (.invokestatic 77, 3) := by decide +kernel
theorem dX8_withLean_20 : decode cX8_withLean 20 = .ok (.invokestatic 71, 3) := by decide +kernel
theorem dX8_withLean_23 : decode cX8_withLean 23 = .ok (.iaload, 1) := by decide +kernel
theorem dX8_withLean_24 : decode cX8_withLean 24 = .ok (.ireturn, 1) := by decide +kernel
set_option maxHeartbeats 4000000 in
set_option maxRecDepth 100000 in
theorem sX8_withLean (l : Launch) (dC : Nat → ClassId) (dI : Nat → Nat → Nat) (h0 : Nat) (le : Nat) (co : Nat) (months : Int32) (full : Int32) (lean : Int32) (kle : ClassId) (fle : Nat → Int32) (p0 : Int32) (p1 : Int32) (p2 : Int32) (gmonths : gi months 0 24) (gfull : gi full 0 5) (glean : gi lean 0 5) (gp0 : gi p0 0 23) (gp1 : gi p1 0 24) (gp2 : gi p2 0 10) : Met l yX8_withLean (.code yX8_withLean cX8_withLean 4 (some .int) :: wsGA) ({ frames := 2, cells := 0, slots := 0, locals := 43 }) (va_Pc [.ref h0, .int p0, .int p1, .int p2] (fun U => va_P (dC, dI) vwCl [(h0, .inr (8, [.ref co, .ref le, .int months, .int full, .int lean])), (le, .inl (kle, 3575, .inl fle))] U.heap ∧ va_K (dC, dI) vwCl [(kle, .int)] U ∧ nzA U)) (va_Qi (fun (r : Int32) (u : Unit) => gi r (-2147483648) 2147483647) (fun _ _ => True) (fun _ => False)) 0 0 (fun _ => False) := by
  refine Met.ofW (cc := cX8_withLean) (maxL := 4) (ret := (some .int)) (by decide) rfl ?_
  intro p e s m args below meth c s₁ B hml hv
  obtain ⟨rfl, hP, hK, hz⟩ := hv
  have hx := B.exec
  have hb := B.bytes
  have hr := B.returns
  have hts := atoms_spec (ws := (.code yX8_withLean cX8_withLean 4 (some .int) :: wsGA)) B.pre
  have hown : s.vm.findClass RX8 = some m.cls := findClass_of_methodNamed B.named
  have hlocks := B.notSynchronized
  have hS : va_S (fun _ => False) s.heap s.heap [] := va_S.rf
  have hl := lv_entry ([.ref h0, .int p0, .int p1, .int p2]) (n := 4) (Nat.le_of_ble_eq_true rfl)
  rw [lg_entry_eq]
  generalize (lg_sl ([.ref h0, .int p0, .int p1, .int p2]) ++ List.replicate (4 - (lg_sl ([.ref h0, .int p0, .int p1, .int p2])).length) Slot.unset).toArray = ls at hl ⊢
  have hl : lv_has ls 4 [(0, .ref h0), (1, .int p0), (2, .int p1), (3, .int p2)] := hl
  refine lv_aload_n hx hb dX8_withLean_0 rfl (lv_at hl 0 rfl) ?_
  refine va_get (D := (dC, dI)) (ci := 8) (v := .ref le) (C := RX8) (T := TX8) (N := 5) hx hb hts (fun w h => List.mem_cons_of_mem _ (jnGA_X8 w h)) hown hK hP 0 rfl rfl 1 (by decide) (hts _ (List.mem_cons_of_mem _ mGA_118)) (fun _ h9 => h9) rfl dX8_withLean_1 ?_
  refine lv_iload_n hx hb dX8_withLean_4 rfl (lv_at hl 1 rfl) ?_
  refine lv_iconst (v := 1) hx hb dX8_withLean_5 (by decide) ?_
  refine lv_iadd hx hb dX8_withLean_6 ?_
  refine lv_topi (fun x_5 ex_5 => ?_)
  have gx_5 : gi x_5 1 24 := gi_add ex_5 gp0 (gi_c 1 1 (by decide)) (by decide)
  refine lv_iload_n hx hb dX8_withLean_7 rfl (lv_at hl 2 rfl) ?_
  refine lv_iload_n hx hb dX8_withLean_8 rfl (lv_at hl 3 rfl) ?_
  refine lv_aload_n hx hb dX8_withLean_9 rfl (lv_at hl 0 rfl) ?_
  refine va_get (D := (dC, dI)) (ci := 8) (v := .int full) (C := RX8) (T := TX8) (N := 5) hx hb hts (fun w h => List.mem_cons_of_mem _ (jnGA_X8 w h)) hown hK hP 0 rfl rfl 3 (by decide) (hts _ (List.mem_cons_of_mem _ mGA_785)) (fun _ h9 => h9) rfl dX8_withLean_10 ?_
  refine lv_aload_n hx hb dX8_withLean_13 rfl (lv_at hl 0 rfl) ?_
  refine va_get (D := (dC, dI)) (ci := 8) (v := .int lean) (C := RX8) (T := TX8) (N := 5) hx hb hts (fun w h => List.mem_cons_of_mem _ (jnGA_X8 w h)) hown hK hP 0 rfl rfl 4 (by decide) (hts _ (List.mem_cons_of_mem _ mGA_787)) (fun _ h9 => h9) rfl dX8_withLean_14 ?_
  have hPc := hP.sub (ws' := []) [] rfl
  have hKc := hK.sub (tys' := []) [] rfl
  refine va_calli (va_runSN (As := [.int p2, .int full, .int lean]) (rest := [.int p1, .int x_5, .ref le]) ⟨hx, hb, hml, hown, hts⟩ (sX11_runWithLean l dC dI p2 full lean gp2 gfull glean) (⟨va_cnB 3 hts (gz_gP mGA_510 goodGA) rfl rfl rfl (nzA_X8_77 hz) (hts _ (List.mem_cons_of_mem _ mGA_1)) (by decide +kernel) ⟨Nat.le_of_ble_eq_true rfl, Nat.le_of_ble_eq_true rfl⟩, (hts _ (List.mem_cons_of_mem _ mGA_509)), trivial⟩) ⟨fun a U g mk q => by obtain ⟨q0, qP, qK, qZ⟩ := q; exact ⟨q0, qP, va_K.moved (u := U) (U := U.calling g mk a) (Vm.Alike.refl U.vm) qK, nzA_same (u := U) (U := U.calling g mk a) rfl qZ⟩, fun U hU hW => ⟨rfl, by rw [hU]; exact hPc, va_K.moved hW.alike hKc, nzA_warm hW hz⟩⟩ rfl rfl hl.1 rfl (lv_room (Nat.le_of_ble_eq_true rfl)) dX8_withLean_17 ⟨Nat.zero_le _, Nat.zero_le _⟩) hS (fun q _ h => h.elim) (fun q h => h.elim) (fun r_6 u t H1 locs ht hvm hw hB hz1 hk1 hS => ?_)
  have hP := gz_keep hP hk1
  generalize H1 = H at hP hS ⊢
  have gr_6 : gi r_6 0 10 := hw
  have hPc := hP.sub (ws' := []) [] rfl
  have hKc := hK.sub (tys' := []) [] rfl
  refine va_calli (va_runSN (As := [.int x_5, .int p1, .int r_6]) (rest := [.ref le]) ⟨hx, hb, hml, hown, hts⟩ (sX11_spot l dC dI x_5 p1 r_6 (gi_w gx_5 (by decide)) gp1 gr_6) (⟨va_cnB 3 hts (gz_gP mGA_582 goodGA) rfl rfl rfl (nzA_X8_71 hz) (hts _ (List.mem_cons_of_mem _ mGA_1)) (by decide +kernel) ⟨Nat.le_of_ble_eq_true rfl, Nat.le_of_ble_eq_true rfl⟩, (hts _ (List.mem_cons_of_mem _ mGA_581)), trivial⟩) ⟨fun a U g mk q => by obtain ⟨q0, qP, qK, qZ⟩ := q; exact ⟨q0, qP, va_K.moved (u := U) (U := U.calling g mk a) (Vm.Alike.refl U.vm) qK, nzA_same (u := U) (U := U.calling g mk a) rfl qZ⟩, fun U hU hW => ⟨rfl, by rw [hU]; exact hPc, va_K.moved hW.alike hKc, nzA_warm hW hz⟩⟩ rfl rfl hl.1 rfl (lv_room (Nat.le_of_ble_eq_true rfl)) dX8_withLean_20 ⟨Nat.zero_le _, Nat.zero_le _⟩) hS (fun q _ h => h.elim) (fun q h => h.elim) (fun r_7 u t H1 locs ht hvm hw hB hz1 hk1 hS => ?_)
  have hP := gz_keep hP hk1
  generalize H1 = H at hP hS ⊢
  have gr_7 : gi r_7 0 3574 := hw
  refine va_iald hx hb hK hP 1 0 rfl rfl (gi_in gr_7 (by decide)) dX8_withLean_23 ?_
  refine lv_topi (fun x_8 ex_8 => ?_)
  exact W.iret (v := x_8) hx hb hr (fun t ht hW => ⟨⟨x_8, (), rfl, (gi_any x_8), trivial⟩, hS.F ht⟩) hS.2.2 dX8_withLean_24
theorem dX8_least_0 : decode cX8_least 0 = .ok (.aload_n 0, 1) := by decide +kernel
theorem dX8_least_1 : decode cX8_least 1 = .ok (.getfield 15, 3) := by decide +kernel
theorem dX8_least_4 : decode cX8_least 4 = .ok (.iconst 0, 1) := by decide +kernel
theorem dX8_least_5 : decode cX8_least 5 = .ok (.iaload, 1) := by decide +kernel
theorem dX8_least_6 : decode cX8_least 6 = .ok (.ireturn, 1) := by decide +kernel
set_option maxHeartbeats 4000000 in
set_option maxRecDepth 100000 in
theorem sX8_least (l : Launch) (dC : Nat → ClassId) (dI : Nat → Nat → Nat) (h0 : Nat) (le : Nat) (co : Nat) (months : Int32) (full : Int32) (lean : Int32) (kle : ClassId) (fle : Nat → Int32) (gmonths : gi months 0 24) (gfull : gi full 0 5) (glean : gi lean 0 5) : Met l yX8_least (.code yX8_least cX8_least 1 (some .int) :: wsGA) ({ frames := 0, cells := 0, slots := 0, locals := 0 }) (va_Pc [.ref h0] (fun U => va_P (dC, dI) vwCl [(h0, .inr (8, [.ref co, .ref le, .int months, .int full, .int lean])), (le, .inl (kle, 3575, .inl fle))] U.heap ∧ va_K (dC, dI) vwCl [(kle, .int)] U ∧ nzA U)) (va_Qi (fun (r : Int32) (u : Unit) => gi r (-2147483648) 2147483647) (fun _ _ => True) (fun _ => False)) 0 0 (fun _ => False) := by
  refine Met.ofW (cc := cX8_least) (maxL := 1) (ret := (some .int)) (by decide) rfl ?_
  intro p e s m args below meth c s₁ B hml hv
  obtain ⟨rfl, hP, hK, hz⟩ := hv
  have hx := B.exec
  have hb := B.bytes
  have hr := B.returns
  have hts := atoms_spec (ws := (.code yX8_least cX8_least 1 (some .int) :: wsGA)) B.pre
  have hown : s.vm.findClass RX8 = some m.cls := findClass_of_methodNamed B.named
  have hlocks := B.notSynchronized
  have hS : va_S (fun _ => False) s.heap s.heap [] := va_S.rf
  have hl := lv_entry ([.ref h0]) (n := 1) (Nat.le_of_ble_eq_true rfl)
  rw [lg_entry_eq]
  generalize (lg_sl ([.ref h0]) ++ List.replicate (1 - (lg_sl ([.ref h0])).length) Slot.unset).toArray = ls at hl ⊢
  have hl : lv_has ls 1 [(0, .ref h0)] := hl
  refine lv_aload_n hx hb dX8_least_0 rfl (lv_at hl 0 rfl) ?_
  refine va_get (D := (dC, dI)) (ci := 8) (v := .ref le) (C := RX8) (T := TX8) (N := 5) hx hb hts (fun w h => List.mem_cons_of_mem _ (jnGA_X8 w h)) hown hK hP 0 rfl rfl 1 (by decide) (hts _ (List.mem_cons_of_mem _ mGA_118)) (fun _ h9 => h9) rfl dX8_least_1 ?_
  refine lv_iconst (v := 0) hx hb dX8_least_4 (by decide) ?_
  refine va_iald hx hb hK hP 1 0 rfl rfl (gi_in (gi_c 0 0 (by decide)) (by decide)) dX8_least_5 ?_
  refine lv_topi (fun x_2 ex_2 => ?_)
  exact W.iret (v := x_2) hx hb hr (fun t ht hW => ⟨⟨x_2, (), rfl, (gi_any x_2), trivial⟩, hS.F ht⟩) hS.2.2 dX8_least_6
theorem dX8_fillCell_0 : decode cX8_fillCell 0 = .ok (.iload_n 1, 1) := by decide +kernel
theorem dX8_fillCell_1 : decode cX8_fillCell 1 = .ok (.invokestatic 52, 3) := by decide +kernel
theorem dX8_fillCell_4 : decode cX8_fillCell 4 = .ok (.istore_n 3, 1) := by decide +kernel
theorem dX8_fillCell_5 : decode cX8_fillCell 5 = .ok (.iload_n 3, 1) := by decide +kernel
theorem dX8_fillCell_6 : decode cX8_fillCell 6 = .ok (.iload_n 1, 1) := by decide +kernel
theorem dX8_fillCell_7 : decode cX8_fillCell 7 = .ok (.aload_n 0, 1) := by decide +kernel
theorem dX8_fillCell_8 : decode cX8_fillCell 8 = .ok (.getfield 38, 3) := by decide +kernel
theorem dX8_fillCell_11 : decode cX8_fillCell 11 = .ok (.aload_n 0, 1) := by decide +kernel
theorem dX8_fillCell_12 : decode cX8_fillCell 12 = .ok (.getfield 42, 3) := by decide +kernel
theorem dX8_fillCell_15 : decode cX8_fillCell 15 = .ok (.invokestatic 56, 3) := by decide +kernel
theorem dX8_fillCell_18 : decode cX8_fillCell 18 = .ok (.if_icmp .gt 71, 3) := by decide +kernel
theorem dX8_fillCell_21 : decode cX8_fillCell 21 = .ok (.iload_n 1, 1) := by decide +kernel
theorem dX8_fillCell_22 : decode cX8_fillCell 22 = .ok (.aload_n 0, 1) := by decide +kernel
theorem dX8_fillCell_23 : decode cX8_fillCell 23 = .ok (.getfield 34, 3) := by decide +kernel
theorem dX8_fillCell_26 : decode cX8_fillCell 26 = .ok (.if_icmp .ne 7, 3) := by decide +kernel
theorem dX8_fillCell_29 : decode cX8_fillCell 29 = .ok (.iconst 0, 1) := by decide +kernel
theorem dX8_fillCell_30 : decode cX8_fillCell 30 = .ok (.goto 20, 3) := by decide +kernel
theorem dX8_fillCell_33 : decode cX8_fillCell 33 = .ok (.aload_n 0, 1) := by decide +kernel
theorem dX8_fillCell_34 : decode cX8_fillCell 34 = .ok (.iload_n 1, 1) := by decide +kernel
theorem dX8_fillCell_35 : decode cX8_fillCell 35 = .ok (.iload_n 2, 1) := by decide +kernel
theorem dX8_fillCell_36 : decode cX8_fillCell 36 = .ok (.iload_n 3, 1) := by decide +kernel
theorem dX8_fillCell_37 : decode cX8_fillCell 37 = .ok (.invokevirtual 60, 3) := by decide +kernel
theorem dX8_fillCell_40 : decode cX8_fillCell 40 = .ok (.aload_n 0, 1) := by decide +kernel
theorem dX8_fillCell_41 : decode cX8_fillCell 41 = .ok (.iload_n 1, 1) := by decide +kernel
theorem dX8_fillCell_42 : decode cX8_fillCell 42 = .ok (.iload_n 2, 1) := by decide +kernel
theorem dX8_fillCell_43 : decode cX8_fillCell 43 = .ok (.iload_n 3, 1) := by decide +kernel
theorem dX8_fillCell_44 : decode cX8_fillCell 44 = .ok (.invokevirtual 63, 3) := by decide +kernel
theorem dX8_fillCell_47 : decode cX8_fillCell 47 = .ok (.invokestatic 66, 3) := by decide +kernel
theorem dX8_fillCell_50 : decode cX8_fillCell 50 = .ok (.istore 4, 2) := by decide +kernel
theorem dX8_fillCell_52 : decode cX8_fillCell 52 = .ok (.iload 4, 2) := by decide +kernel
theorem dX8_fillCell_54 : decode cX8_fillCell 54 = .ok (.ldc 43, 2) := by decide +kernel
theorem dX8_fillCell_56 : decode cX8_fillCell 56 = .ok (.if_icmp .ge 27, 3) := by decide +kernel
theorem dX8_fillCell_59 : decode cX8_fillCell 59 = .ok (.aload_n 0, 1) := by decide +kernel
theorem dX8_fillCell_60 : decode cX8_fillCell 60 = .ok (.getfield 15, 3) := by decide +kernel
theorem dX8_fillCell_63 : decode cX8_fillCell 63 = .ok (.iload_n 1, 1) := by decide +kernel
theorem dX8_fillCell_64 : decode cX8_fillCell 64 = .ok (.iload_n 2, 1) := by decide +kernel
theorem dX8_fillCell_65 : decode cX8_fillCell 65 = .ok (.iload_n 3, 1) := by decide +kernel
theorem dX8_fillCell_66 : decode cX8_fillCell 66 = .ok (.invokestatic 71, 3) := by decide +kernel
theorem dX8_fillCell_69 : decode cX8_fillCell 69 = .ok (.iload 4, 2) := by decide +kernel
theorem dX8_fillCell_71 : decode cX8_fillCell 71 = .ok (.aload_n 0, 1) := by decide +kernel
theorem dX8_fillCell_72 : decode cX8_fillCell 72 = .ok (.getfield 9, 3) := by decide +kernel
theorem dX8_fillCell_75 : decode cX8_fillCell 75 = .ok (.iload_n 1, 1) := by decide +kernel
theorem dX8_fillCell_76 : decode cX8_fillCell 76 = .ok (.iload_n 2, 1) := by decide +kernel
theorem dX8_fillCell_77 : decode cX8_fillCell 77 = .ok (.invokestatic 24, 3) := by decide +kernel
theorem dX8_fillCell_80 : decode cX8_fillCell 80 = .ok (.iaload, 1) := by decide +kernel
theorem dX8_fillCell_81 : decode cX8_fillCell 81 = .ok (.iadd, 1) := by decide +kernel
theorem dX8_fillCell_82 : decode cX8_fillCell 82 = .ok (.iastore, 1) := by decide +kernel
theorem dX8_fillCell_83 : decode cX8_fillCell 83 = .ok (.iinc 3 1, 3) := by decide +kernel
theorem dX8_fillCell_86 : decode cX8_fillCell 86 = .ok (.goto (-81), 3) := by decide +kernel
theorem dX8_fillCell_89 : decode cX8_fillCell 89 = .ok (.return_, 1) := by decide +kernel
set_option maxHeartbeats 4000000 in
set_option maxRecDepth 100000 in
theorem lp_sX8_fillCell {p : Program} {l : Launch} {e : Env} {R : Room} {s : State} {m : MethodId} {args : Array Value} {below : List Frame} {meth : Method} {c : Code} {Q : State → Prop} {A : Nat → Prop} {cells slots : Nat} {dC : Nat → ClassId} {dI : Nat → Nat → Nat} (h0 : Nat) (co : Nat) (le : Nat) (months : Int32) (full : Int32) (lean : Int32) (kco : ClassId) (fco : Nat → Int32) (kle : ClassId) (fle : Nat → Int32) (p0 : Int32) (p1 : Int32) (gmonths : gi months 0 24) (gfull : gi full 0 5) (glean : gi lean 0 5) (gp0 : gi p0 0 24) (gp1 : gi p1 0 24) (hle_gp0_gmonths : p0.toInt ≤ months.toInt) (hle_gp1_gp0 : p1.toInt ≤ p0.toInt) (hx : p.tables.exec = Jvm.exec) (hb : c.code = cX8_fillCell) (hml : c.maxLocals = 5) (hown : s.vm.findClass RX8 = some m.cls) (hts : ∀ w ∈ ((.code yX8_fillCell cX8_fillCell 5 none :: wsGA) : List Cond), w.before args s = true) (hK : va_K (dC, dI) vwCl [(kco, .int), (kle, .int)] s) (hz : nzA s) (hA : ∀ q : Nat, s.heap.size ≤ q → A q) (hRf : 3 ≤ R.frames) (hRl : 66 ≤ R.locals) (hRc : cells ≤ R.cells) (hRs : slots ≤ R.slots) (kr89 : ∀ (z2 : Nat → Int32) (H : Heap) (locs : List Loc) (ls : Array Slot), va_P (dC, dI) vwCl [(h0, .inr (8, [.ref co, .ref le, .int months, .int full, .int lean])), (co, .inl (kco, 325, .inl fco)), (le, .inl (kle, 3575, .inl z2))] H → va_D A [(h0, .inr (8, [.ref co, .ref le, .int months, .int full, .int lean])), (co, .inl (kco, 325, .inl fco)), (le, .inl (kle, 3575, .inl z2))] → va_S A s.heap H locs → lv_has ls 5 [] → W p l e R s m args below meth c H locs cells slots Q (F0 m 89 ls [])) : ∀ z : Nat, (∀ (v3 : Int32) (z2 : Nat → Int32) (H : Heap) (locs : List Loc) (ls : Array Slot), gi v3 0 11 → 23 + (-2) * v3.toInt < (z : Int) → va_P (dC, dI) vwCl [(h0, .inr (8, [.ref co, .ref le, .int months, .int full, .int lean])), (co, .inl (kco, 325, .inl fco)), (le, .inl (kle, 3575, .inl z2))] H → va_D A [(h0, .inr (8, [.ref co, .ref le, .int months, .int full, .int lean])), (co, .inl (kco, 325, .inl fco)), (le, .inl (kle, 3575, .inl z2))] → va_S A s.heap H locs → lv_has ls 5 [(0, .ref h0), (1, .int p0), (2, .int p1), (3, .int v3)] → W p l e R s m args below meth c H locs cells slots Q (F0 m 5 ls [])) := by
  intro z
  induction z with
  | zero =>
    intro v3 z2 H locs ls gv3 hmu hP hD hS hl
    exact absurd hmu (by have hv31 := gv3.1; have hv32 := gv3.2; omega)
  | succ z ih =>
      intro v3 z2 H locs ls gv3 hmu hP hD hS hl
      refine lv_iload_n hx hb dX8_fillCell_5 rfl (lv_at hl 3 rfl) ?_
      refine lv_iload_n hx hb dX8_fillCell_6 rfl (lv_at hl 1 rfl) ?_
      refine lv_aload_n hx hb dX8_fillCell_7 rfl (lv_at hl 0 rfl) ?_
      refine va_get (D := (dC, dI)) (ci := 8) (v := .int full) (C := RX8) (T := TX8) (N := 5) hx hb hts (fun w h => List.mem_cons_of_mem _ (jnGA_X8 w h)) hown hK hP 0 rfl rfl 3 (by decide) (hts _ (List.mem_cons_of_mem _ mGA_785)) (fun _ h9 => h9) rfl dX8_fillCell_8 ?_
      refine lv_aload_n hx hb dX8_fillCell_11 rfl (lv_at hl 0 rfl) ?_
      refine va_get (D := (dC, dI)) (ci := 8) (v := .int lean) (C := RX8) (T := TX8) (N := 5) hx hb hts (fun w h => List.mem_cons_of_mem _ (jnGA_X8 w h)) hown hK hP 0 rfl rfl 4 (by decide) (hts _ (List.mem_cons_of_mem _ mGA_787)) (fun _ h9 => h9) rfl dX8_fillCell_12 ?_
      have hPc := hP.sub (ws' := []) [] rfl
      have hKc := hK.sub (tys' := []) [] rfl
      refine va_calli (va_runSN (As := [.int p0, .int full, .int lean]) (rest := [.int v3]) ⟨hx, hb, hml, hown, hts⟩ (sX11_lastRun l dC dI p0 full lean gp0 gfull glean) (⟨va_cnB 3 hts (gz_gP mGA_506 goodGA) rfl rfl rfl (nzA_X8_56 hz) (hts _ (List.mem_cons_of_mem _ mGA_1)) (by decide +kernel) ⟨Nat.le_trans (Nat.le_of_ble_eq_true rfl) hRf, Nat.le_trans (Nat.le_of_ble_eq_true rfl) hRl⟩, (hts _ (List.mem_cons_of_mem _ mGA_505)), trivial⟩) ⟨fun a U g mk q => by obtain ⟨q0, qP, qK, qZ⟩ := q; exact ⟨q0, qP, va_K.moved (u := U) (U := U.calling g mk a) (Vm.Alike.refl U.vm) qK, nzA_same (u := U) (U := U.calling g mk a) rfl qZ⟩, fun U hU hW => ⟨rfl, by rw [hU]; exact hPc, va_K.moved hW.alike hKc, nzA_warm hW hz⟩⟩ rfl rfl hl.1 rfl (lv_room (Nat.le_of_ble_eq_true rfl)) dX8_fillCell_15 ⟨hRc, hRs⟩) hS (fun q _ h => h.elim) (fun q h => h.elim) (fun r_281 u t H1 locs ht hvm hw hB hz1 hk1 hS => ?_)
      have hP := gz_keep hP hk1
      generalize H1 = H at hP hS ⊢
      have gr_281 : gi r_281 0 10 := hw
      refine lv_icmp_gt (tgt := 89) hx hb dX8_fillCell_18 (by decide) (fun c_282 => ?_) (fun c_282 => ?_)
      · have g_283 : gi v3 1 11 := gi_lt_r c_282 gr_281 gv3 (by decide)
        exact kr89 z2 _ _ _ hP hD hS (lv_sub hl [] rfl)
      · have g_284 : gi v3 0 10 := gi_le_l (Int32.not_lt.mp c_282) gv3 gr_281
        refine lv_iload_n hx hb dX8_fillCell_21 rfl (lv_at hl 1 rfl) ?_
        refine lv_aload_n hx hb dX8_fillCell_22 rfl (lv_at hl 0 rfl) ?_
        refine va_get (D := (dC, dI)) (ci := 8) (v := .int months) (C := RX8) (T := TX8) (N := 5) hx hb hts (fun w h => List.mem_cons_of_mem _ (jnGA_X8 w h)) hown hK hP 0 rfl rfl 2 (by decide) (hts _ (List.mem_cons_of_mem _ mGA_783)) (fun _ h9 => h9) rfl dX8_fillCell_23 ?_
        refine lv_icmp_ne (tgt := 33) hx hb dX8_fillCell_26 (by decide) (fun c_285 => ?_) (fun c_285 => ?_)
        · have g_286 : gi p0 0 23 := gi_nele hle_gp0_gmonths c_285 gp0 gmonths (by decide)
          have g_287 : gi p1 0 23 := gi_rel hle_gp1_gp0 gp1 g_286
          refine lv_aload_n hx hb dX8_fillCell_33 rfl (lv_at hl 0 rfl) ?_
          refine lv_iload_n hx hb dX8_fillCell_34 rfl (lv_at hl 1 rfl) ?_
          refine lv_iload_n hx hb dX8_fillCell_35 rfl (lv_at hl 2 rfl) ?_
          refine lv_iload_n hx hb dX8_fillCell_36 rfl (lv_at hl 3 rfl) ?_
          have hPc := hP.sub (ws' := [(h0, .inr (8, [.ref co, .ref le, .int months, .int full, .int lean])), (le, .inl (kle, 3575, .inl z2))]) [0, 2] rfl
          have hKc := hK.sub (tys' := [(kle, .int)]) [1] rfl
          refine va_calli (va_runV (As := [.int p0, .int p1, .int v3]) (rest := []) ⟨hx, hb, hml, hown, hts⟩ (sX8_withFull l dC dI h0 le co months full lean kle z2 p0 p1 v3 gmonths gfull glean g_286 g_287 g_284) (cwV 3 hts (gz_gV mGA_795 mGA_796 mGA_797 mGA_31 mGA_798 goodGA) rfl rfl rfl (by decide +kernel) ⟨Nat.le_trans (Nat.le_of_ble_eq_true rfl) hRf, Nat.le_trans (Nat.le_of_ble_eq_true rfl) hRl⟩) ⟨fun a U g mk q => by obtain ⟨q0, qP, qK, qZ⟩ := q; exact ⟨q0, qP, va_K.moved (u := U) (U := U.calling g mk a) (Vm.Alike.refl U.vm) qK, nzA_same (u := U) (U := U.calling g mk a) rfl qZ⟩, va_recv hKc hPc (ci := 8) (q0 := 0) rfl rfl, fun U hU hW => ⟨rfl, by rw [hU]; exact hPc, va_K.moved hW.alike hKc, nzA_warm hW hz⟩⟩ rfl rfl hl.1 rfl (lv_room (Nat.le_of_ble_eq_true rfl)) dX8_fillCell_37 ⟨hRc, hRs⟩) hS (fun q _ h => h.elim) (fun q h => h.elim) (fun r_288 u t H1 locs ht hvm hw hB hz1 hk1 hS => ?_)
          have hP := gz_keep hP hk1
          generalize H1 = H at hP hS ⊢
          refine lv_aload_n hx hb dX8_fillCell_40 rfl (lv_at hl 0 rfl) ?_
          refine lv_iload_n hx hb dX8_fillCell_41 rfl (lv_at hl 1 rfl) ?_
          refine lv_iload_n hx hb dX8_fillCell_42 rfl (lv_at hl 2 rfl) ?_
          refine lv_iload_n hx hb dX8_fillCell_43 rfl (lv_at hl 3 rfl) ?_
          have hPc := hP.sub (ws' := [(h0, .inr (8, [.ref co, .ref le, .int months, .int full, .int lean])), (le, .inl (kle, 3575, .inl z2))]) [0, 2] rfl
          have hKc := hK.sub (tys' := [(kle, .int)]) [1] rfl
          refine va_calli (va_runV (As := [.int p0, .int p1, .int v3]) (rest := [.int r_288]) ⟨hx, hb, hml, hown, hts⟩ (sX8_withLean l dC dI h0 le co months full lean kle z2 p0 p1 v3 gmonths gfull glean g_286 (gi_w g_287 (by decide)) g_284) (cwV 3 hts (gz_gV mGA_799 mGA_800 mGA_801 mGA_31 mGA_802 goodGA) rfl rfl rfl (by decide +kernel) ⟨Nat.le_trans (Nat.le_of_ble_eq_true rfl) hRf, Nat.le_trans (Nat.le_of_ble_eq_true rfl) hRl⟩) ⟨fun a U g mk q => by obtain ⟨q0, qP, qK, qZ⟩ := q; exact ⟨q0, qP, va_K.moved (u := U) (U := U.calling g mk a) (Vm.Alike.refl U.vm) qK, nzA_same (u := U) (U := U.calling g mk a) rfl qZ⟩, va_recv hKc hPc (ci := 8) (q0 := 0) rfl rfl, fun U hU hW => ⟨rfl, by rw [hU]; exact hPc, va_K.moved hW.alike hKc, nzA_warm hW hz⟩⟩ rfl rfl hl.1 rfl (lv_room (Nat.le_of_ble_eq_true rfl)) dX8_fillCell_44 ⟨hRc, hRs⟩) hS (fun q _ h => h.elim) (fun q h => h.elim) (fun r_289 u t H1 locs ht hvm hw hB hz1 hk1 hS => ?_)
          have hP := gz_keep hP hk1
          generalize H1 = H at hP hS ⊢
          refine va_mmin (own := RX8) hx hb (by rw [hml]; exact hl.1.symm) hown (hts _ (List.mem_cons_of_mem _ mGA_794)) (hts _ (List.mem_cons_of_mem _ mGA_268)) (hts _ (List.mem_cons_of_mem _ mGA_269)) (hts _ (List.mem_cons_of_mem _ mGA_270)) (Nat.le_trans (Nat.le_of_ble_eq_true rfl) hRf) (Nat.le_trans (Nat.le_of_ble_eq_true rfl) hRl) hRc hRs dX8_fillCell_47 ?_
          refine lv_topi (fun x_290 ex_290 => ?_)
          refine lv_istore (lv' := [(4, .int x_290), (0, .ref h0), (1, .int p0), (2, .int p1), (3, .int v3)]) hx hb dX8_fillCell_50 hl (by decide) rfl (fun ls hl => ?_)
          refine lv_iload hx hb dX8_fillCell_52 (lv_at hl 0 rfl) ?_
          refine lv_ldc (own := RX8) (v := 1000000) hx hb hown (hts _ (List.mem_cons_of_mem _ mGA_788)) dX8_fillCell_54 ?_
          refine lv_icmp_ge (tgt := 83) hx hb dX8_fillCell_56 (by decide) (fun c_291 => ?_) (fun c_291 => ?_)
          · have g_292 : gi x_290 1000000 2147483647 := gi_le_r c_291 (gi_c 1000000 1000000 (by decide)) (gi_any x_290)
            obtain ⟨x_293, ex_293⟩ : ∃ y : Int32, y = v3 + 1 := ⟨_, rfl⟩
            have gx_293 : gi x_293 1 11 := gi_add ex_293 g_284 (gi_c 1 1 (by decide)) (by decide)
            refine lv_iinc (v := x_293) (lv' := [(3, .int x_293), (4, .int x_290), (0, .ref h0), (1, .int p0), (2, .int p1)]) hx hb dX8_fillCell_83 hl (k := 4) rfl (by rw [ex_293]; rfl) (by decide) rfl (fun ls hl => ?_)
            refine lv_goto (tgt := 5) hx hb dX8_fillCell_86 (by decide) ?_
            exact ih x_293 z2 _ _ _ (gi_w gx_293 (by decide)) (by have av3 := gv3.1; have bv3 := gv3.2; have qgx_293 := gx_293.1; have rgx_293 := gx_293.2; have igx_293 : x_293.toInt = v3.toInt + 1 := (by have hc1 : (1 : Int32).toInt = 1 := (by decide); have h9 := gi_addI ex_293 (by have h1 := g_284.1; have h2 := (gi_c 1 1 (by decide)).1; have h3 := g_284.2; have h4 := (gi_c 1 1 (by decide)).2; omega) (by have h1 := g_284.1; have h2 := (gi_c 1 1 (by decide)).1; have h3 := g_284.2; have h4 := (gi_c 1 1 (by decide)).2; omega); rw [hc1] at h9; exact h9); have qgv3 := g_284.1; have rgv3 := g_284.2; omega) hP hD hS (lv_sub hl [2, 3, 4, 0] rfl)
          · have g_294 : gi x_290 (-2147483648) 999999 := gi_lt_l (Int32.not_le.mp c_291) (gi_any x_290) (gi_c 1000000 1000000 (by decide)) (by decide)
            refine lv_aload_n hx hb dX8_fillCell_59 rfl (lv_at hl 1 rfl) ?_
            refine va_get (D := (dC, dI)) (ci := 8) (v := .ref le) (C := RX8) (T := TX8) (N := 5) hx hb hts (fun w h => List.mem_cons_of_mem _ (jnGA_X8 w h)) hown hK hP 0 rfl rfl 1 (by decide) (hts _ (List.mem_cons_of_mem _ mGA_118)) (fun _ h9 => h9) rfl dX8_fillCell_60 ?_
            refine lv_iload_n hx hb dX8_fillCell_63 rfl (lv_at hl 2 rfl) ?_
            refine lv_iload_n hx hb dX8_fillCell_64 rfl (lv_at hl 3 rfl) ?_
            refine lv_iload_n hx hb dX8_fillCell_65 rfl (lv_at hl 4 rfl) ?_
            have hPc := hP.sub (ws' := []) [] rfl
            have hKc := hK.sub (tys' := []) [] rfl
            refine va_calli (va_runSN (As := [.int p0, .int p1, .int v3]) (rest := [.ref le]) ⟨hx, hb, hml, hown, hts⟩ (sX11_spot l dC dI p0 p1 v3 (gi_w g_286 (by decide)) (gi_w g_287 (by decide)) g_284) (⟨va_cnB 3 hts (gz_gP mGA_582 goodGA) rfl rfl rfl (nzA_X8_71 hz) (hts _ (List.mem_cons_of_mem _ mGA_1)) (by decide +kernel) ⟨Nat.le_trans (Nat.le_of_ble_eq_true rfl) hRf, Nat.le_trans (Nat.le_of_ble_eq_true rfl) hRl⟩, (hts _ (List.mem_cons_of_mem _ mGA_581)), trivial⟩) ⟨fun a U g mk q => by obtain ⟨q0, qP, qK, qZ⟩ := q; exact ⟨q0, qP, va_K.moved (u := U) (U := U.calling g mk a) (Vm.Alike.refl U.vm) qK, nzA_same (u := U) (U := U.calling g mk a) rfl qZ⟩, fun U hU hW => ⟨rfl, by rw [hU]; exact hPc, va_K.moved hW.alike hKc, nzA_warm hW hz⟩⟩ rfl rfl hl.1 rfl (lv_room (Nat.le_of_ble_eq_true rfl)) dX8_fillCell_66 ⟨hRc, hRs⟩) hS (fun q _ h => h.elim) (fun q h => h.elim) (fun r_295 u t H1 locs ht hvm hw hB hz1 hk1 hS => ?_)
            have hP := gz_keep hP hk1
            generalize H1 = H at hP hS ⊢
            have gr_295 : gi r_295 0 3574 := hw
            refine lv_iload hx hb dX8_fillCell_69 (lv_at hl 0 rfl) ?_
            refine lv_aload_n hx hb dX8_fillCell_71 rfl (lv_at hl 1 rfl) ?_
            refine va_get (D := (dC, dI)) (ci := 8) (v := .ref co) (C := RX8) (T := TX8) (N := 5) hx hb hts (fun w h => List.mem_cons_of_mem _ (jnGA_X8 w h)) hown hK hP 0 rfl rfl 0 (by decide) (hts _ (List.mem_cons_of_mem _ mGA_117)) (fun _ h9 => h9) rfl dX8_fillCell_72 ?_
            refine lv_iload_n hx hb dX8_fillCell_75 rfl (lv_at hl 2 rfl) ?_
            refine lv_iload_n hx hb dX8_fillCell_76 rfl (lv_at hl 3 rfl) ?_
            have hPc := hP.sub (ws' := []) [] rfl
            have hKc := hK.sub (tys' := []) [] rfl
            refine va_calli (va_runSN (As := [.int p0, .int p1]) (rest := [.ref co, .int x_290, .int r_295, .ref le]) ⟨hx, hb, hml, hown, hts⟩ (sX11_cell l dC dI p0 p1 (gi_w g_286 (by decide)) (gi_w g_287 (by decide))) (⟨va_cnB 2 hts (gz_gP mGA_585 goodGA) rfl rfl rfl (nzA_X8_24 hz) (hts _ (List.mem_cons_of_mem _ mGA_1)) (by decide +kernel) ⟨Nat.le_trans (Nat.le_of_ble_eq_true rfl) hRf, Nat.le_trans (Nat.le_of_ble_eq_true rfl) hRl⟩, (hts _ (List.mem_cons_of_mem _ mGA_584)), trivial⟩) ⟨fun a U g mk q => by obtain ⟨q0, qP, qK, qZ⟩ := q; exact ⟨q0, qP, va_K.moved (u := U) (U := U.calling g mk a) (Vm.Alike.refl U.vm) qK, nzA_same (u := U) (U := U.calling g mk a) rfl qZ⟩, fun U hU hW => ⟨rfl, by rw [hU]; exact hPc, va_K.moved hW.alike hKc, nzA_warm hW hz⟩⟩ rfl rfl hl.1 rfl (lv_room (Nat.le_of_ble_eq_true rfl)) dX8_fillCell_77 ⟨hRc, hRs⟩) hS (fun q _ h => h.elim) (fun q h => h.elim) (fun r_296 u t H1 locs ht hvm hw hB hz1 hk1 hS => ?_)
            have hP := gz_keep hP hk1
            generalize H1 = H at hP hS ⊢
            have gr_296 : gi r_296 0 324 := hw
            refine va_iald hx hb hK hP 1 0 rfl rfl (gi_in gr_296 (by decide)) dX8_fillCell_80 ?_
            refine lv_topi (fun x_297 ex_297 => ?_)
            refine lv_iadd hx hb dX8_fillCell_81 ?_
            refine lv_topi (fun x_298 ex_298 => ?_)
            refine va_iast hx hb hK hP hD hS 2 1 rfl rfl (gi_in gr_295 (by decide)) dX8_fillCell_82 (fun H locs hP hD hS => ?_)
            have hP : va_P (dC, dI) vwCl [(h0, .inr (8, [.ref co, .ref le, .int months, .int full, .int lean])), (co, .inl (kco, 325, .inl fco)), (le, .inl (kle, 3575, .inl (upd z2 (r_295 : Int32).toNatClampNeg x_298)))] H := hP
            have hD : va_D A [(h0, .inr (8, [.ref co, .ref le, .int months, .int full, .int lean])), (co, .inl (kco, 325, .inl fco)), (le, .inl (kle, 3575, .inl (upd z2 (r_295 : Int32).toNatClampNeg x_298)))] := hD
            generalize upd z2 (r_295 : Int32).toNatClampNeg x_298 = f_299 at hP hD
            obtain ⟨x_300, ex_300⟩ : ∃ y : Int32, y = v3 + 1 := ⟨_, rfl⟩
            have gx_300 : gi x_300 1 11 := gi_add ex_300 g_284 (gi_c 1 1 (by decide)) (by decide)
            refine lv_iinc (v := x_300) (lv' := [(3, .int x_300), (4, .int x_290), (0, .ref h0), (1, .int p0), (2, .int p1)]) hx hb dX8_fillCell_83 hl (k := 4) rfl (by rw [ex_300]; rfl) (by decide) rfl (fun ls hl => ?_)
            refine lv_goto (tgt := 5) hx hb dX8_fillCell_86 (by decide) ?_
            exact ih x_300 f_299 _ _ _ (gi_w gx_300 (by decide)) (by have av3 := gv3.1; have bv3 := gv3.2; have qgx_300 := gx_300.1; have rgx_300 := gx_300.2; have igx_300 : x_300.toInt = v3.toInt + 1 := (by have hc1 : (1 : Int32).toInt = 1 := (by decide); have h9 := gi_addI ex_300 (by have h1 := g_284.1; have h2 := (gi_c 1 1 (by decide)).1; have h3 := g_284.2; have h4 := (gi_c 1 1 (by decide)).2; omega) (by have h1 := g_284.1; have h2 := (gi_c 1 1 (by decide)).1; have h3 := g_284.2; have h4 := (gi_c 1 1 (by decide)).2; omega); rw [hc1] at h9; exact h9); have qgv3 := g_284.1; have rgv3 := g_284.2; omega) hP hD hS (lv_sub hl [2, 3, 4, 0] rfl)
        · refine lv_iconst (v := 0) hx hb dX8_fillCell_29 (by decide) ?_
          refine lv_goto (tgt := 50) hx hb dX8_fillCell_30 (by decide) ?_
          refine lv_istore (lv' := [(4, .int 0), (0, .ref h0), (1, .int p0), (2, .int p1), (3, .int v3)]) hx hb dX8_fillCell_50 hl (by decide) rfl (fun ls hl => ?_)
          refine lv_iload hx hb dX8_fillCell_52 (lv_at hl 0 rfl) ?_
          refine lv_ldc (own := RX8) (v := 1000000) hx hb hown (hts _ (List.mem_cons_of_mem _ mGA_788)) dX8_fillCell_54 ?_
          refine lv_icmp_ge (tgt := 83) hx hb dX8_fillCell_56 (by decide) (fun c_301 => absurd c_301 (gi_no_le (gi_c 1000000 1000000 (by decide)) (gi_c 0 0 (by decide)) (by decide))) (fun c_301 => ?_)
          refine lv_aload_n hx hb dX8_fillCell_59 rfl (lv_at hl 1 rfl) ?_
          refine va_get (D := (dC, dI)) (ci := 8) (v := .ref le) (C := RX8) (T := TX8) (N := 5) hx hb hts (fun w h => List.mem_cons_of_mem _ (jnGA_X8 w h)) hown hK hP 0 rfl rfl 1 (by decide) (hts _ (List.mem_cons_of_mem _ mGA_118)) (fun _ h9 => h9) rfl dX8_fillCell_60 ?_
          refine lv_iload_n hx hb dX8_fillCell_63 rfl (lv_at hl 2 rfl) ?_
          refine lv_iload_n hx hb dX8_fillCell_64 rfl (lv_at hl 3 rfl) ?_
          refine lv_iload_n hx hb dX8_fillCell_65 rfl (lv_at hl 4 rfl) ?_
          have hPc := hP.sub (ws' := []) [] rfl
          have hKc := hK.sub (tys' := []) [] rfl
          refine va_calli (va_runSN (As := [.int p0, .int p1, .int v3]) (rest := [.ref le]) ⟨hx, hb, hml, hown, hts⟩ (sX11_spot l dC dI p0 p1 v3 gp0 gp1 g_284) (⟨va_cnB 3 hts (gz_gP mGA_582 goodGA) rfl rfl rfl (nzA_X8_71 hz) (hts _ (List.mem_cons_of_mem _ mGA_1)) (by decide +kernel) ⟨Nat.le_trans (Nat.le_of_ble_eq_true rfl) hRf, Nat.le_trans (Nat.le_of_ble_eq_true rfl) hRl⟩, (hts _ (List.mem_cons_of_mem _ mGA_581)), trivial⟩) ⟨fun a U g mk q => by obtain ⟨q0, qP, qK, qZ⟩ := q; exact ⟨q0, qP, va_K.moved (u := U) (U := U.calling g mk a) (Vm.Alike.refl U.vm) qK, nzA_same (u := U) (U := U.calling g mk a) rfl qZ⟩, fun U hU hW => ⟨rfl, by rw [hU]; exact hPc, va_K.moved hW.alike hKc, nzA_warm hW hz⟩⟩ rfl rfl hl.1 rfl (lv_room (Nat.le_of_ble_eq_true rfl)) dX8_fillCell_66 ⟨hRc, hRs⟩) hS (fun q _ h => h.elim) (fun q h => h.elim) (fun r_302 u t H1 locs ht hvm hw hB hz1 hk1 hS => ?_)
          have hP := gz_keep hP hk1
          generalize H1 = H at hP hS ⊢
          have gr_302 : gi r_302 0 3574 := hw
          refine lv_iload hx hb dX8_fillCell_69 (lv_at hl 0 rfl) ?_
          refine lv_aload_n hx hb dX8_fillCell_71 rfl (lv_at hl 1 rfl) ?_
          refine va_get (D := (dC, dI)) (ci := 8) (v := .ref co) (C := RX8) (T := TX8) (N := 5) hx hb hts (fun w h => List.mem_cons_of_mem _ (jnGA_X8 w h)) hown hK hP 0 rfl rfl 0 (by decide) (hts _ (List.mem_cons_of_mem _ mGA_117)) (fun _ h9 => h9) rfl dX8_fillCell_72 ?_
          refine lv_iload_n hx hb dX8_fillCell_75 rfl (lv_at hl 2 rfl) ?_
          refine lv_iload_n hx hb dX8_fillCell_76 rfl (lv_at hl 3 rfl) ?_
          have hPc := hP.sub (ws' := []) [] rfl
          have hKc := hK.sub (tys' := []) [] rfl
          refine va_calli (va_runSN (As := [.int p0, .int p1]) (rest := [.ref co, .int 0, .int r_302, .ref le]) ⟨hx, hb, hml, hown, hts⟩ (sX11_cell l dC dI p0 p1 gp0 gp1) (⟨va_cnB 2 hts (gz_gP mGA_585 goodGA) rfl rfl rfl (nzA_X8_24 hz) (hts _ (List.mem_cons_of_mem _ mGA_1)) (by decide +kernel) ⟨Nat.le_trans (Nat.le_of_ble_eq_true rfl) hRf, Nat.le_trans (Nat.le_of_ble_eq_true rfl) hRl⟩, (hts _ (List.mem_cons_of_mem _ mGA_584)), trivial⟩) ⟨fun a U g mk q => by obtain ⟨q0, qP, qK, qZ⟩ := q; exact ⟨q0, qP, va_K.moved (u := U) (U := U.calling g mk a) (Vm.Alike.refl U.vm) qK, nzA_same (u := U) (U := U.calling g mk a) rfl qZ⟩, fun U hU hW => ⟨rfl, by rw [hU]; exact hPc, va_K.moved hW.alike hKc, nzA_warm hW hz⟩⟩ rfl rfl hl.1 rfl (lv_room (Nat.le_of_ble_eq_true rfl)) dX8_fillCell_77 ⟨hRc, hRs⟩) hS (fun q _ h => h.elim) (fun q h => h.elim) (fun r_303 u t H1 locs ht hvm hw hB hz1 hk1 hS => ?_)
          have hP := gz_keep hP hk1
          generalize H1 = H at hP hS ⊢
          have gr_303 : gi r_303 0 324 := hw
          refine va_iald hx hb hK hP 1 0 rfl rfl (gi_in gr_303 (by decide)) dX8_fillCell_80 ?_
          refine lv_topi (fun x_304 ex_304 => ?_)
          refine lv_iadd hx hb dX8_fillCell_81 ?_
          refine lv_topi (fun x_305 ex_305 => ?_)
          refine va_iast hx hb hK hP hD hS 2 1 rfl rfl (gi_in gr_302 (by decide)) dX8_fillCell_82 (fun H locs hP hD hS => ?_)
          have hP : va_P (dC, dI) vwCl [(h0, .inr (8, [.ref co, .ref le, .int months, .int full, .int lean])), (co, .inl (kco, 325, .inl fco)), (le, .inl (kle, 3575, .inl (upd z2 (r_302 : Int32).toNatClampNeg x_305)))] H := hP
          have hD : va_D A [(h0, .inr (8, [.ref co, .ref le, .int months, .int full, .int lean])), (co, .inl (kco, 325, .inl fco)), (le, .inl (kle, 3575, .inl (upd z2 (r_302 : Int32).toNatClampNeg x_305)))] := hD
          generalize upd z2 (r_302 : Int32).toNatClampNeg x_305 = f_306 at hP hD
          obtain ⟨x_307, ex_307⟩ : ∃ y : Int32, y = v3 + 1 := ⟨_, rfl⟩
          have gx_307 : gi x_307 1 11 := gi_add ex_307 g_284 (gi_c 1 1 (by decide)) (by decide)
          refine lv_iinc (v := x_307) (lv' := [(3, .int x_307), (4, .int 0), (0, .ref h0), (1, .int p0), (2, .int p1)]) hx hb dX8_fillCell_83 hl (k := 4) rfl (by rw [ex_307]; rfl) (by decide) rfl (fun ls hl => ?_)
          refine lv_goto (tgt := 5) hx hb dX8_fillCell_86 (by decide) ?_
          exact ih x_307 f_306 _ _ _ (gi_w gx_307 (by decide)) (by have av3 := gv3.1; have bv3 := gv3.2; have qgx_307 := gx_307.1; have rgx_307 := gx_307.2; have igx_307 : x_307.toInt = v3.toInt + 1 := (by have hc1 : (1 : Int32).toInt = 1 := (by decide); have h9 := gi_addI ex_307 (by have h1 := g_284.1; have h2 := (gi_c 1 1 (by decide)).1; have h3 := g_284.2; have h4 := (gi_c 1 1 (by decide)).2; omega) (by have h1 := g_284.1; have h2 := (gi_c 1 1 (by decide)).1; have h3 := g_284.2; have h4 := (gi_c 1 1 (by decide)).2; omega); rw [hc1] at h9; exact h9); have qgv3 := g_284.1; have rgv3 := g_284.2; omega) hP hD hS (lv_sub hl [2, 3, 4, 0] rfl)
set_option maxHeartbeats 4000000 in
set_option maxRecDepth 100000 in
theorem sX8_fillCell (l : Launch) (dC : Nat → ClassId) (dI : Nat → Nat → Nat) (sz : Nat) (h0 : Nat) (co : Nat) (le : Nat) (months : Int32) (full : Int32) (lean : Int32) (kco : ClassId) (fco : Nat → Int32) (kle : ClassId) (fle : Nat → Int32) (p0 : Int32) (p1 : Int32) (gmonths : gi months 0 24) (gfull : gi full 0 5) (glean : gi lean 0 5) (gp0 : gi p0 0 24) (gp1 : gi p1 0 24) (hle_gp0_gmonths : p0.toInt ≤ months.toInt) (hle_gp1_gp0 : p1.toInt ≤ p0.toInt) : Met l yX8_fillCell (.code yX8_fillCell cX8_fillCell 5 none :: wsGA) ({ frames := 3, cells := 0, slots := 0, locals := 66 }) (va_Pc [.ref h0, .int p0, .int p1] (fun U => U.heap.size = sz ∧ va_P (dC, dI) vwCl [(h0, .inr (8, [.ref co, .ref le, .int months, .int full, .int lean])), (co, .inl (kco, 325, .inl fco)), (le, .inl (kle, 3575, .inl fle))] U.heap ∧ va_K (dC, dI) vwCl [(kco, .int), (kle, .int)] U ∧ va_D (fun _ => True) [(h0, .inr (8, [.ref co, .ref le, .int months, .int full, .int lean])), (co, .inl (kco, 325, .inl fco)), (le, .inl (kle, 3575, .inl fle))] ∧ nzA U)) (va_Qv (fun (u : Unit) => True) (fun _ t => ∃ (z2 : Nat → Int32), va_P (dC, dI) vwCl [(h0, .inr (8, [.ref co, .ref le, .int months, .int full, .int lean])), (co, .inl (kco, 325, .inl fco)), (le, .inl (kle, 3575, .inl z2))] t.heap ∧ va_D (va_A [(h0, .inr (8, [.ref co, .ref le, .int months, .int full, .int lean])), (co, .inl (kco, 325, .inl fco)), (le, .inl (kle, 3575, .inl fle))] sz) [(h0, .inr (8, [.ref co, .ref le, .int months, .int full, .int lean])), (co, .inl (kco, 325, .inl fco)), (le, .inl (kle, 3575, .inl z2))]) (va_A [(h0, .inr (8, [.ref co, .ref le, .int months, .int full, .int lean])), (co, .inl (kco, 325, .inl fco)), (le, .inl (kle, 3575, .inl fle))] sz)) 0 0 (va_A [(h0, .inr (8, [.ref co, .ref le, .int months, .int full, .int lean])), (co, .inl (kco, 325, .inl fco)), (le, .inl (kle, 3575, .inl fle))] sz) := by
  refine Met.ofW (cc := cX8_fillCell) (maxL := 5) (ret := none) (by decide) rfl ?_
  intro p e s m args below meth c s₁ B hml hv
  obtain ⟨rfl, hsz, hP, hK, hD0, hz⟩ := hv
  have hx := B.exec
  have hb := B.bytes
  have hr := B.returns
  have hts := atoms_spec (ws := (.code yX8_fillCell cX8_fillCell 5 none :: wsGA)) B.pre
  have hown : s.vm.findClass RX8 = some m.cls := findClass_of_methodNamed B.named
  have hlocks := B.notSynchronized
  subst hsz
  have hD := hD0.self (sz := s.heap.size)
  generalize hAe : va_A [(h0, .inr (8, [.ref co, .ref le, .int months, .int full, .int lean])), (co, .inl (kco, 325, .inl fco)), (le, .inl (kle, 3575, .inl fle))] s.heap.size = A at hD ⊢
  have hA : ∀ q : Nat, s.heap.size ≤ q → A q := fun q h => by rw [← hAe]; exact Or.inr h
  have hS : va_S A s.heap s.heap [] := va_S.rf
  have hl := lv_entry ([.ref h0, .int p0, .int p1]) (n := 5) (Nat.le_of_ble_eq_true rfl)
  rw [lg_entry_eq]
  generalize (lg_sl ([.ref h0, .int p0, .int p1]) ++ List.replicate (5 - (lg_sl ([.ref h0, .int p0, .int p1])).length) Slot.unset).toArray = ls at hl ⊢
  have hl : lv_has ls 5 [(0, .ref h0), (1, .int p0), (2, .int p1)] := hl
  refine lv_iload_n hx hb dX8_fillCell_0 rfl (lv_at hl 1 rfl) ?_
  have hPc := hP.sub (ws' := []) [] rfl
  have hKc := hK.sub (tys' := []) [] rfl
  refine va_calli (va_runSN (As := [.int p0]) (rest := []) ⟨hx, hb, hml, hown, hts⟩ (sX11_firstRun l dC dI p0 gp0) (⟨va_cnB 1 hts (gz_gP mGA_504 goodGA) rfl rfl rfl (nzA_X8_52 hz) (hts _ (List.mem_cons_of_mem _ mGA_1)) (by decide +kernel) ⟨Nat.le_of_ble_eq_true rfl, Nat.le_of_ble_eq_true rfl⟩, (hts _ (List.mem_cons_of_mem _ mGA_503)), trivial⟩) ⟨fun a U g mk q => by obtain ⟨q0, qP, qK, qZ⟩ := q; exact ⟨q0, qP, va_K.moved (u := U) (U := U.calling g mk a) (Vm.Alike.refl U.vm) qK, nzA_same (u := U) (U := U.calling g mk a) rfl qZ⟩, fun U hU hW => ⟨rfl, by rw [hU]; exact hPc, va_K.moved hW.alike hKc, nzA_warm hW hz⟩⟩ rfl rfl hl.1 rfl (lv_room (Nat.le_of_ble_eq_true rfl)) dX8_fillCell_1 ⟨Nat.zero_le _, Nat.zero_le _⟩) hS (fun q _ h => h.elim) (fun q h => h.elim) (fun r_308 u t H1 locs ht hvm hw hB hz1 hk1 hS => ?_)
  have hP := gz_keep hP hk1
  generalize H1 = H at hP hS ⊢
  have gr_308 : gi r_308 0 1 := hw
  refine lv_istore_n (lv' := [(3, .int r_308), (0, .ref h0), (1, .int p0), (2, .int p1)]) hx hb dX8_fillCell_4 rfl hl (by decide) rfl (fun ls hl => ?_)
  refine (lp_sX8_fillCell h0 co le months full lean kco fco kle fle p0 p1 gmonths gfull glean gp0 gp1 hle_gp0_gmonths hle_gp1_gp0 hx hb hml hown hts hK hz hA (Nat.le_of_ble_eq_true rfl) (Nat.le_of_ble_eq_true rfl) (Nat.zero_le _) (Nat.zero_le _) (fun z2 H locs ls hP hD hS hl => ?_) 36) r_308 fle _ _ _ (gi_w gr_308 (by decide)) (by have qgr_308 := gr_308.1; have rgr_308 := gr_308.2; omega) hP hD hS (lv_sub hl [1, 2, 3, 0] rfl)
  · skip
    exact W.vret hx hb hr (fun t ht hW => ⟨⟨(), rfl, trivial, z2, by rw [ht]; exact hP, hD⟩, hS.F ht⟩) hS.2.2 dX8_fillCell_89
theorem dX8_run_0 : decode cX8_run 0 = .ok (.aload_n 0, 1) := by decide +kernel
theorem dX8_run_1 : decode cX8_run 1 = .ok (.aload_n 1, 1) := by decide +kernel
theorem dX8_run_2 : decode cX8_run 2 = .ok (.getfield 28, 3) := by decide +kernel
theorem dX8_run_5 : decode cX8_run 5 = .ok (.putfield 34, 3) := by decide +kernel
theorem dX8_run_8 : decode cX8_run 8 = .ok (.aload_n 0, 1) := by decide +kernel
theorem dX8_run_9 : decode cX8_run 9 = .ok (.aload_n 1, 1) := by decide +kernel
theorem dX8_run_10 : decode cX8_run 10 = .ok (.getfield 35, 3) := by decide +kernel
theorem dX8_run_13 : decode cX8_run 13 = .ok (.putfield 38, 3) := by decide +kernel
theorem dX8_run_16 : decode cX8_run 16 = .ok (.aload_n 0, 1) := by decide +kernel
theorem dX8_run_17 : decode cX8_run 17 = .ok (.aload_n 1, 1) := by decide +kernel
theorem dX8_run_18 : decode cX8_run 18 = .ok (.getfield 39, 3) := by decide +kernel
theorem dX8_run_21 : decode cX8_run 21 = .ok (.putfield 42, 3) := by decide +kernel
theorem dX8_run_24 : decode cX8_run 24 = .ok (.aload_n 0, 1) := by decide +kernel
theorem dX8_run_25 : decode cX8_run 25 = .ok (.getfield 15, 3) := by decide +kernel
theorem dX8_run_28 : decode cX8_run 28 = .ok (.ldc 43, 2) := by decide +kernel
theorem dX8_run_30 : decode cX8_run 30 = .ok (.invokestatic 18, 3) := by decide +kernel
theorem dX8_run_33 : decode cX8_run 33 = .ok (.aload_n 0, 1) := by decide +kernel
theorem dX8_run_34 : decode cX8_run 34 = .ok (.getfield 34, 3) := by decide +kernel
theorem dX8_run_37 : decode cX8_run 37 = .ok (.istore_n 2, 1) := by decide +kernel
theorem dX8_run_38 : decode cX8_run 38 = .ok (.iload_n 2, 1) := by decide +kernel
theorem dX8_run_39 : decode cX8_run 39 = .ok (.ifCond .lt 37, 3) := by decide +kernel
theorem dX8_run_42 : decode cX8_run 42 = .ok (.iconst 0, 1) := by decide +kernel
theorem dX8_run_43 : decode cX8_run 43 = .ok (.istore_n 3, 1) := by decide +kernel
theorem dX8_run_44 : decode cX8_run 44 = .ok (.iload_n 3, 1) := by decide +kernel
theorem dX8_run_45 : decode cX8_run 45 = .ok (.iload_n 2, 1) := by decide +kernel
theorem dX8_run_46 : decode cX8_run 46 = .ok (.if_icmp .gt 24, 3) := by decide +kernel
theorem dX8_run_49 : decode cX8_run 49 = .ok (.aload_n 1, 1) := by decide +kernel
theorem dX8_run_50 : decode cX8_run 50 = .ok (.iload_n 2, 1) := by decide +kernel
theorem dX8_run_51 : decode cX8_run 51 = .ok (.iload_n 3, 1) := by decide +kernel
theorem dX8_run_52 : decode cX8_run 52 = .ok (.invokevirtual 44, 3) := by decide +kernel
theorem dX8_run_55 : decode cX8_run 55 = .ok (.ifCond .eq 9, 3) := by decide +kernel
theorem dX8_run_58 : decode cX8_run 58 = .ok (.aload_n 0, 1) := by decide +kernel
theorem dX8_run_59 : decode cX8_run 59 = .ok (.iload_n 2, 1) := by decide +kernel
theorem dX8_run_60 : decode cX8_run 60 = .ok (.iload_n 3, 1) := by decide +kernel
theorem dX8_run_61 : decode cX8_run 61 = .ok (.invokevirtual 48, 3) := by decide +kernel
theorem dX8_run_64 : decode cX8_run 64 = .ok (.iinc 3 1, 3) := by decide +kernel
theorem dX8_run_67 : decode cX8_run 67 = .ok (.goto (-23), 3) := by decide +kernel
theorem dX8_run_70 : decode cX8_run 70 = .ok (.iinc 2 (-1), 3) := by decide +kernel
theorem dX8_run_73 : decode cX8_run 73 = .ok (.goto (-35), 3) := by decide +kernel
theorem dX8_run_76 : decode cX8_run 76 = .ok (.return_, 1) := by decide +kernel
set_option maxHeartbeats 4000000 in
set_option maxRecDepth 100000 in
theorem lp_sX8_run {p : Program} {l : Launch} {e : Env} {R : Room} {s : State} {m : MethodId} {args : Array Value} {below : List Frame} {meth : Method} {c : Code} {Q : State → Prop} {A : Nat → Prop} {cells slots : Nat} {dC : Nat → ClassId} {dI : Nat → Nat → Nat} (h0 : Nat) (co : Nat) (le : Nat) (fr : Nat) (fral : Nat) (months : Int32) (full : Int32) (lean : Int32) (kco : ClassId) (fco : Nat → Int32) (kle : ClassId) (fle : Nat → Int32) (frmonths : Int32) (frfull : Int32) (frlean : Int32) (fron : Nat) (kfral : ClassId) (ffral : Nat → Int32) (gmonths : gi months 0 24) (gfull : gi full 0 5) (glean : gi lean 0 5) (gfrmonths : gi frmonths 0 24) (gfrfull : gi frfull 0 5) (gfrlean : gi frlean 0 5) (hx : p.tables.exec = Jvm.exec) (hb : c.code = cX8_run) (hml : c.maxLocals = 4) (hown : s.vm.findClass RX8 = some m.cls) (hts : ∀ w ∈ ((.code yX8_run cX8_run 4 none :: wsGA) : List Cond), w.before args s = true) (hK : va_K (dC, dI) vwCl [(kco, .int), (kle, .int), (kfral, .int)] s) (hz : nzA s) (hA : ∀ q : Nat, s.heap.size ≤ q → A q) (hRf : 4 ≤ R.frames) (hRl : 90 ≤ R.locals) (hRc : cells ≤ R.cells) (hRs : slots ≤ R.slots) (kr76 : ∀ (w0_2 : Int32) (w0_3 : Int32) (w0_4 : Int32) (z2 : Nat → Int32) (H : Heap) (locs : List Loc) (ls : Array Slot), gi w0_2 0 24 → gi w0_3 0 5 → gi w0_4 0 5 → va_P (dC, dI) vwCl [(h0, .inr (8, [.ref co, .ref le, .int w0_2, .int w0_3, .int w0_4])), (co, .inl (kco, 325, .inl fco)), (le, .inl (kle, 3575, .inl z2)), (fr, .inr (3, [.int frmonths, .int frfull, .int frlean, .ref fral, .ref fron])), (fral, .inl (kfral, 25, .inl ffral))] H → va_D A [(h0, .inr (8, [.ref co, .ref le, .int w0_2, .int w0_3, .int w0_4])), (co, .inl (kco, 325, .inl fco)), (le, .inl (kle, 3575, .inl z2)), (fr, .inr (3, [.int frmonths, .int frfull, .int frlean, .ref fral, .ref fron])), (fral, .inl (kfral, 25, .inl ffral))] → va_S A s.heap H locs → lv_has ls 4 [] → W p l e R s m args below meth c H locs cells slots Q (F0 m 76 ls [])) : ∀ z : Nat, (∀ (v2 : Int32) (w0_2 : Int32) (w0_3 : Int32) (w0_4 : Int32) (z2 : Nat → Int32) (H : Heap) (locs : List Loc) (ls : Array Slot), gi v2 (-1) 24 → gi w0_2 0 24 → gi w0_3 0 5 → gi w0_4 0 5 → v2.toInt ≤ w0_2.toInt → 57 + 56 * v2.toInt < (z : Int) → va_P (dC, dI) vwCl [(h0, .inr (8, [.ref co, .ref le, .int w0_2, .int w0_3, .int w0_4])), (co, .inl (kco, 325, .inl fco)), (le, .inl (kle, 3575, .inl z2)), (fr, .inr (3, [.int frmonths, .int frfull, .int frlean, .ref fral, .ref fron])), (fral, .inl (kfral, 25, .inl ffral))] H → va_D A [(h0, .inr (8, [.ref co, .ref le, .int w0_2, .int w0_3, .int w0_4])), (co, .inl (kco, 325, .inl fco)), (le, .inl (kle, 3575, .inl z2)), (fr, .inr (3, [.int frmonths, .int frfull, .int frlean, .ref fral, .ref fron])), (fral, .inl (kfral, 25, .inl ffral))] → va_S A s.heap H locs → lv_has ls 4 [(0, .ref h0), (1, .ref fr), (2, .int v2)] → W p l e R s m args below meth c H locs cells slots Q (F0 m 38 ls [])) ∧ (∀ (v2 : Int32) (v3 : Int32) (w0_2 : Int32) (w0_3 : Int32) (w0_4 : Int32) (z2 : Nat → Int32) (H : Heap) (locs : List Loc) (ls : Array Slot), gi v2 0 24 → gi v3 0 25 → gi w0_2 0 24 → gi w0_3 0 5 → gi w0_4 0 5 → v2.toInt ≤ w0_2.toInt → 52 + 56 * v2.toInt + (-2) * v3.toInt < (z : Int) → va_P (dC, dI) vwCl [(h0, .inr (8, [.ref co, .ref le, .int w0_2, .int w0_3, .int w0_4])), (co, .inl (kco, 325, .inl fco)), (le, .inl (kle, 3575, .inl z2)), (fr, .inr (3, [.int frmonths, .int frfull, .int frlean, .ref fral, .ref fron])), (fral, .inl (kfral, 25, .inl ffral))] H → va_D A [(h0, .inr (8, [.ref co, .ref le, .int w0_2, .int w0_3, .int w0_4])), (co, .inl (kco, 325, .inl fco)), (le, .inl (kle, 3575, .inl z2)), (fr, .inr (3, [.int frmonths, .int frfull, .int frlean, .ref fral, .ref fron])), (fral, .inl (kfral, 25, .inl ffral))] → va_S A s.heap H locs → lv_has ls 4 [(0, .ref h0), (1, .ref fr), (2, .int v2), (3, .int v3)] → W p l e R s m args below meth c H locs cells slots Q (F0 m 44 ls [])) := by
  intro z
  induction z with
  | zero =>
    refine ⟨?_, ?_⟩
    · intro v2 w0_2 w0_3 w0_4 z2 H locs ls gv2 gw0_2 gw0_3 gw0_4 hle_gv2_gw0_2 hmu hP hD hS hl
      exact absurd hmu (by have hv21 := gv2.1; have hv22 := gv2.2; omega)
    · intro v2 v3 w0_2 w0_3 w0_4 z2 H locs ls gv2 gv3 gw0_2 gw0_3 gw0_4 hle_gv2_gw0_2 hmu hP hD hS hl
      exact absurd hmu (by have hv21 := gv2.1; have hv22 := gv2.2; have hv31 := gv3.1; have hv32 := gv3.2; omega)
  | succ z ih =>
    refine ⟨?_, ?_⟩
    · intro v2 w0_2 w0_3 w0_4 z2 H locs ls gv2 gw0_2 gw0_3 gw0_4 hle_gv2_gw0_2 hmu hP hD hS hl
      refine lv_iload_n hx hb dX8_run_38 rfl (lv_at hl 2 rfl) ?_
      refine lv_if_lt (tgt := 76) hx hb dX8_run_39 (by decide) (fun c_266 => ?_) (fun c_266 => ?_)
      · have g_267 : gi v2 (-1) (-1) := gi_lt_l c_266 gv2 (gi_c 0 0 (by decide)) (by decide)
        exact kr76 w0_2 w0_3 w0_4 z2 _ _ _ gw0_2 gw0_3 gw0_4 hP hD hS (lv_sub hl [] rfl)
      · have g_268 : gi v2 0 24 := gi_le_r (Int32.not_lt.mp c_266) (gi_c 0 0 (by decide)) gv2
        refine lv_iconst (v := 0) hx hb dX8_run_42 (by decide) ?_
        refine lv_istore_n (lv' := [(3, .int 0), (0, .ref h0), (1, .ref fr), (2, .int v2)]) hx hb dX8_run_43 rfl hl (by decide) rfl (fun ls hl => ?_)
        exact ih.2 v2 0 w0_2 w0_3 w0_4 z2 _ _ _ g_268 (gi_w (gi_c 0 0 (by decide)) (by decide)) gw0_2 gw0_3 gw0_4 (by have qgw0_2 := gw0_2.1; have rgw0_2 := gw0_2.2; have qgv2 := g_268.1; have rgv2 := g_268.2; omega) (by have k0 : (0 : Int32).toInt = 0 := (by decide); have av2 := gv2.1; have bv2 := gv2.2; have qgv2 := g_268.1; have rgv2 := g_268.2; omega) hP hD hS (lv_sub hl [1, 2, 3, 0] rfl)
    · intro v2 v3 w0_2 w0_3 w0_4 z2 H locs ls gv2 gv3 gw0_2 gw0_3 gw0_4 hle_gv2_gw0_2 hmu hP hD hS hl
      refine lv_iload_n hx hb dX8_run_44 rfl (lv_at hl 3 rfl) ?_
      refine lv_iload_n hx hb dX8_run_45 rfl (lv_at hl 2 rfl) ?_
      refine lv_icmp_gt (tgt := 70) hx hb dX8_run_46 (by decide) (fun c_269 => ?_) (fun c_269 => ?_)
      · have g_270 : gi v3 1 25 := gi_lt_r c_269 gv2 gv3 (by decide)
        obtain ⟨x_271, ex_271⟩ : ∃ y : Int32, y = v2 + (-1) := ⟨_, rfl⟩
        have gx_271 : gi x_271 (-1) 23 := gi_add ex_271 gv2 (gi_c (-1) (-1) (by decide)) (by decide)
        refine lv_iinc (v := x_271) (lv' := [(2, .int x_271), (0, .ref h0), (1, .ref fr), (3, .int v3)]) hx hb dX8_run_70 hl (k := 2) rfl (by rw [ex_271]; rfl) (by decide) rfl (fun ls hl => ?_)
        refine lv_goto (tgt := 38) hx hb dX8_run_73 (by decide) ?_
        exact ih.1 x_271 w0_2 w0_3 w0_4 z2 _ _ _ (gi_w gx_271 (by decide)) gw0_2 gw0_3 gw0_4 (by have qgw0_2 := gw0_2.1; have rgw0_2 := gw0_2.2; have qgx_271 := gx_271.1; have rgx_271 := gx_271.2; have igx_271 : x_271.toInt = v2.toInt + (-1) := (by have hcm1 : ((-1) : Int32).toInt = (-1) := (by decide); have h9 := gi_addI ex_271 (by have h1 := gv2.1; have h2 := (gi_c (-1) (-1) (by decide)).1; have h3 := gv2.2; have h4 := (gi_c (-1) (-1) (by decide)).2; omega) (by have h1 := gv2.1; have h2 := (gi_c (-1) (-1) (by decide)).1; have h3 := gv2.2; have h4 := (gi_c (-1) (-1) (by decide)).2; omega); rw [hcm1] at h9; exact h9); have qgv2 := gv2.1; have rgv2 := gv2.2; have y1 := (Int32.lt_iff_toInt_lt.mp c_269); omega) (by have av2 := gv2.1; have bv2 := gv2.2; have av3 := gv3.1; have bv3 := gv3.2; have qgx_271 := gx_271.1; have rgx_271 := gx_271.2; have igx_271 : x_271.toInt = v2.toInt + (-1) := (by have hcm1 : ((-1) : Int32).toInt = (-1) := (by decide); have h9 := gi_addI ex_271 (by have h1 := gv2.1; have h2 := (gi_c (-1) (-1) (by decide)).1; have h3 := gv2.2; have h4 := (gi_c (-1) (-1) (by decide)).2; omega) (by have h1 := gv2.1; have h2 := (gi_c (-1) (-1) (by decide)).1; have h3 := gv2.2; have h4 := (gi_c (-1) (-1) (by decide)).2; omega); rw [hcm1] at h9; exact h9); have qgv2 := gv2.1; have rgv2 := gv2.2; omega) hP hD hS (lv_sub hl [1, 2, 0] rfl)
      · have g_272 : gi v3 0 24 := gi_le_l (Int32.not_lt.mp c_269) gv3 gv2
        refine lv_aload_n hx hb dX8_run_49 rfl (lv_at hl 1 rfl) ?_
        refine lv_iload_n hx hb dX8_run_50 rfl (lv_at hl 2 rfl) ?_
        refine lv_iload_n hx hb dX8_run_51 rfl (lv_at hl 3 rfl) ?_
        have hPc := hP.sub (ws' := [(fr, .inr (3, [.int frmonths, .int frfull, .int frlean, .ref fral, .ref fron])), (fral, .inl (kfral, 25, .inl ffral))]) [3, 4] rfl
        have hKc := hK.sub (tys' := [(kfral, .int)]) [2] rfl
        refine va_calli (va_runV (As := [.int v2, .int v3]) (rest := []) ⟨hx, hb, hml, hown, hts⟩ (sX3_allows l dC dI fr fral frmonths frfull frlean fron kfral ffral v2 v3 gfrmonths gfrfull gfrlean gv2) (cwV 2 hts (gz_gV mGA_789 mGA_574 mGA_575 mGA_18 mGA_576 goodGA) rfl rfl rfl (by decide +kernel) ⟨Nat.le_trans (Nat.le_of_ble_eq_true rfl) hRf, Nat.le_trans (Nat.le_of_ble_eq_true rfl) hRl⟩) ⟨fun a U g mk q => by obtain ⟨q0, qP, qK, qZ⟩ := q; exact ⟨q0, qP, va_K.moved (u := U) (U := U.calling g mk a) (Vm.Alike.refl U.vm) qK, nzA_same (u := U) (U := U.calling g mk a) rfl qZ⟩, va_recv hKc hPc (ci := 3) (q0 := 0) rfl rfl, fun U hU hW => ⟨rfl, by rw [hU]; exact hPc, va_K.moved hW.alike hKc, nzA_warm hW hz⟩⟩ rfl rfl hl.1 rfl (lv_room (Nat.le_of_ble_eq_true rfl)) dX8_run_52 ⟨hRc, hRs⟩) hS (fun q _ h => h.elim) (fun q h => h.elim) (fun r_273 u t H1 locs ht hvm hw hB hz1 hk1 hS => ?_)
        have hP := gz_keep hP hk1
        generalize H1 = H at hP hS ⊢
        have gr_273 : gi r_273 0 1 := hw
        refine lv_if_eq (tgt := 64) hx hb dX8_run_55 (by decide) (fun c_274 => ?_) (fun c_274 => ?_)
        · have g_275 : gi r_273 0 0 := gi_eq c_274 (gi_c 0 0 (by decide))
          obtain ⟨x_276, ex_276⟩ : ∃ y : Int32, y = v3 + 1 := ⟨_, rfl⟩
          have gx_276 : gi x_276 1 25 := gi_add ex_276 g_272 (gi_c 1 1 (by decide)) (by decide)
          refine lv_iinc (v := x_276) (lv' := [(3, .int x_276), (0, .ref h0), (1, .ref fr), (2, .int v2)]) hx hb dX8_run_64 hl (k := 3) rfl (by rw [ex_276]; rfl) (by decide) rfl (fun ls hl => ?_)
          refine lv_goto (tgt := 44) hx hb dX8_run_67 (by decide) ?_
          exact ih.2 v2 x_276 w0_2 w0_3 w0_4 z2 _ _ _ gv2 (gi_w gx_276 (by decide)) gw0_2 gw0_3 gw0_4 (by have qgw0_2 := gw0_2.1; have rgw0_2 := gw0_2.2; have qgv2 := gv2.1; have rgv2 := gv2.2; have y1 := (Int32.le_iff_toInt_le.mp (Int32.not_lt.mp c_269)); omega) (by have av2 := gv2.1; have bv2 := gv2.2; have av3 := gv3.1; have bv3 := gv3.2; have qgx_276 := gx_276.1; have rgx_276 := gx_276.2; have igx_276 : x_276.toInt = v3.toInt + 1 := (by have hc1 : (1 : Int32).toInt = 1 := (by decide); have h9 := gi_addI ex_276 (by have h1 := g_272.1; have h2 := (gi_c 1 1 (by decide)).1; have h3 := g_272.2; have h4 := (gi_c 1 1 (by decide)).2; omega) (by have h1 := g_272.1; have h2 := (gi_c 1 1 (by decide)).1; have h3 := g_272.2; have h4 := (gi_c 1 1 (by decide)).2; omega); rw [hc1] at h9; exact h9); have qgv3 := g_272.1; have rgv3 := g_272.2; have qgv2 := gv2.1; have rgv2 := gv2.2; omega) hP hD hS (lv_sub hl [1, 2, 3, 0] rfl)
        · have g_277 : gi r_273 1 1 := gi_ne_lo c_274 gr_273 (gi_c 0 0 (by decide)) (by decide)
          refine lv_aload_n hx hb dX8_run_58 rfl (lv_at hl 0 rfl) ?_
          refine lv_iload_n hx hb dX8_run_59 rfl (lv_at hl 2 rfl) ?_
          refine lv_iload_n hx hb dX8_run_60 rfl (lv_at hl 3 rfl) ?_
          have hPc := hP.sub (ws' := [(h0, .inr (8, [.ref co, .ref le, .int w0_2, .int w0_3, .int w0_4])), (co, .inl (kco, 325, .inl fco)), (le, .inl (kle, 3575, .inl z2))]) [0, 1, 2] rfl
          have hKc := hK.sub (tys' := [(kco, .int), (kle, .int)]) [0, 1] rfl
          have hDc := hD.sub (ws' := [(h0, .inr (8, [.ref co, .ref le, .int w0_2, .int w0_3, .int w0_4])), (co, .inl (kco, 325, .inl fco)), (le, .inl (kle, 3575, .inl z2))]) [0, 1, 2] (by decide) rfl
          have hFc := va_free (wc := [(h0, .inr (8, [.ref co, .ref le, .int w0_2, .int w0_3, .int w0_4])), (co, .inl (kco, 325, .inl fco)), (le, .inl (kle, 3575, .inl z2))]) hD hS hA [0, 1, 2] rfl
          refine va_callv (va_runV (As := [.int v2, .int v3]) (rest := []) ⟨hx, hb, hml, hown, hts⟩ (sX8_fillCell l dC dI H.size h0 co le w0_2 w0_3 w0_4 kco fco kle z2 v2 v3 gw0_2 gw0_3 gw0_4 gv2 g_272 (by have qgw0_2 := gw0_2.1; have rgw0_2 := gw0_2.2; have qgv2 := gv2.1; have rgv2 := gv2.2; have y1 := (Int32.le_iff_toInt_le.mp (Int32.not_lt.mp c_269)); omega) (by have qgv2 := gv2.1; have rgv2 := gv2.2; have qgv3 := g_272.1; have rgv3 := g_272.2; have y1 := (Int32.le_iff_toInt_le.mp (Int32.not_lt.mp c_269)); omega)) (cwV 2 hts (gz_gV mGA_790 mGA_791 mGA_792 mGA_31 mGA_793 goodGA) rfl rfl rfl (by decide +kernel) ⟨Nat.le_trans (Nat.le_of_ble_eq_true rfl) hRf, Nat.le_trans (Nat.le_of_ble_eq_true rfl) hRl⟩) ⟨fun a U g mk q => by obtain ⟨q0, q1, qP, qK, qD, qZ⟩ := q; exact ⟨q0, q1, qP, va_K.moved (u := U) (U := U.calling g mk a) (Vm.Alike.refl U.vm) qK, qD, nzA_same (u := U) (U := U.calling g mk a) rfl qZ⟩, va_recv hKc hPc (ci := 8) (q0 := 0) rfl rfl, fun U hU hW => ⟨rfl, by rw [hU], by rw [hU]; exact hPc, va_K.moved hW.alike hKc, hDc.weaken (fun _ _ _ _ => trivial), nzA_warm hW hz⟩⟩ rfl rfl hl.1 rfl (lv_room (Nat.le_of_ble_eq_true rfl)) dX8_run_61 ⟨hRc, hRs⟩) hS (fun q _ h => hFc q h) hFc (fun u t H1 locs ht hvm hw hB hz1 hk1 hS => ?_)
          obtain ⟨f_279, hP1, hD1⟩ := hB
          rw [ht] at hP1
          obtain ⟨hP, hD⟩ := va_join (wr := [(fr, .inr (3, [.int frmonths, .int frfull, .int frlean, .ref fral, .ref fron])), (fral, .inl (kfral, 25, .inl ffral))]) (w1 := [(h0, .inr (8, [.ref co, .ref le, .int w0_2, .int w0_3, .int w0_4])), (co, .inl (kco, 325, .inl fco)), (le, .inl (kle, 3575, .inl f_279))]) hP hD [0, 1, 2] [3, 4] rfl rfl (by decide) (by decide) hk1 hFc hP1 hD1
          have hP := hP.sub (ws' := [(h0, .inr (8, [.ref co, .ref le, .int w0_2, .int w0_3, .int w0_4])), (co, .inl (kco, 325, .inl fco)), (le, .inl (kle, 3575, .inl f_279)), (fr, .inr (3, [.int frmonths, .int frfull, .int frlean, .ref fral, .ref fron])), (fral, .inl (kfral, 25, .inl ffral))]) [2, 3, 4, 0, 1] rfl
          have hD := hD.sub (ws' := [(h0, .inr (8, [.ref co, .ref le, .int w0_2, .int w0_3, .int w0_4])), (co, .inl (kco, 325, .inl fco)), (le, .inl (kle, 3575, .inl f_279)), (fr, .inr (3, [.int frmonths, .int frfull, .int frlean, .ref fral, .ref fron])), (fral, .inl (kfral, 25, .inl ffral))]) [2, 3, 4, 0, 1] (by decide) rfl
          generalize H1 = H at hP hS ⊢
          obtain ⟨x_280, ex_280⟩ : ∃ y : Int32, y = v3 + 1 := ⟨_, rfl⟩
          have gx_280 : gi x_280 1 25 := gi_add ex_280 g_272 (gi_c 1 1 (by decide)) (by decide)
          refine lv_iinc (v := x_280) (lv' := [(3, .int x_280), (0, .ref h0), (1, .ref fr), (2, .int v2)]) hx hb dX8_run_64 hl (k := 3) rfl (by rw [ex_280]; rfl) (by decide) rfl (fun ls hl => ?_)
          refine lv_goto (tgt := 44) hx hb dX8_run_67 (by decide) ?_
          exact ih.2 v2 x_280 w0_2 w0_3 w0_4 f_279 _ _ _ gv2 (gi_w gx_280 (by decide)) gw0_2 gw0_3 gw0_4 (by have qgw0_2 := gw0_2.1; have rgw0_2 := gw0_2.2; have qgv2 := gv2.1; have rgv2 := gv2.2; have y1 := (Int32.le_iff_toInt_le.mp (Int32.not_lt.mp c_269)); omega) (by have av2 := gv2.1; have bv2 := gv2.2; have av3 := gv3.1; have bv3 := gv3.2; have qgx_280 := gx_280.1; have rgx_280 := gx_280.2; have igx_280 : x_280.toInt = v3.toInt + 1 := (by have hc1 : (1 : Int32).toInt = 1 := (by decide); have h9 := gi_addI ex_280 (by have h1 := g_272.1; have h2 := (gi_c 1 1 (by decide)).1; have h3 := g_272.2; have h4 := (gi_c 1 1 (by decide)).2; omega) (by have h1 := g_272.1; have h2 := (gi_c 1 1 (by decide)).1; have h3 := g_272.2; have h4 := (gi_c 1 1 (by decide)).2; omega); rw [hc1] at h9; exact h9); have qgv3 := g_272.1; have rgv3 := g_272.2; have qgv2 := gv2.1; have rgv2 := gv2.2; omega) hP hD hS (lv_sub hl [1, 2, 3, 0] rfl)
set_option maxHeartbeats 4000000 in
set_option maxRecDepth 100000 in
theorem sX8_run (l : Launch) (dC : Nat → ClassId) (dI : Nat → Nat → Nat) (sz : Nat) (h0 : Nat) (co : Nat) (le : Nat) (fr : Nat) (fral : Nat) (months : Int32) (full : Int32) (lean : Int32) (kco : ClassId) (fco : Nat → Int32) (kle : ClassId) (fle : Nat → Int32) (frmonths : Int32) (frfull : Int32) (frlean : Int32) (fron : Nat) (kfral : ClassId) (ffral : Nat → Int32) (gmonths : gi months 0 24) (gfull : gi full 0 5) (glean : gi lean 0 5) (gfrmonths : gi frmonths 0 24) (gfrfull : gi frfull 0 5) (gfrlean : gi frlean 0 5) : Met l yX8_run (.code yX8_run cX8_run 4 none :: wsGA) ({ frames := 4, cells := 0, slots := 0, locals := 90 }) (va_Pc [.ref h0, .ref fr] (fun U => U.heap.size = sz ∧ va_P (dC, dI) vwCl [(h0, .inr (8, [.ref co, .ref le, .int months, .int full, .int lean])), (co, .inl (kco, 325, .inl fco)), (le, .inl (kle, 3575, .inl fle)), (fr, .inr (3, [.int frmonths, .int frfull, .int frlean, .ref fral, .ref fron])), (fral, .inl (kfral, 25, .inl ffral))] U.heap ∧ va_K (dC, dI) vwCl [(kco, .int), (kle, .int), (kfral, .int)] U ∧ va_D (fun _ => True) [(h0, .inr (8, [.ref co, .ref le, .int months, .int full, .int lean])), (co, .inl (kco, 325, .inl fco)), (le, .inl (kle, 3575, .inl fle)), (fr, .inr (3, [.int frmonths, .int frfull, .int frlean, .ref fral, .ref fron])), (fral, .inl (kfral, 25, .inl ffral))] ∧ nzA U)) (va_Qv (fun (u : Unit) => True) (fun _ t => ∃ (w0_2 : Int32) (w0_3 : Int32) (w0_4 : Int32) (z2 : Nat → Int32), gi w0_2 0 24 ∧ gi w0_3 0 5 ∧ gi w0_4 0 5 ∧ va_P (dC, dI) vwCl [(h0, .inr (8, [.ref co, .ref le, .int w0_2, .int w0_3, .int w0_4])), (co, .inl (kco, 325, .inl fco)), (le, .inl (kle, 3575, .inl z2)), (fr, .inr (3, [.int frmonths, .int frfull, .int frlean, .ref fral, .ref fron])), (fral, .inl (kfral, 25, .inl ffral))] t.heap ∧ va_D (va_A [(h0, .inr (8, [.ref co, .ref le, .int months, .int full, .int lean])), (co, .inl (kco, 325, .inl fco)), (le, .inl (kle, 3575, .inl fle)), (fr, .inr (3, [.int frmonths, .int frfull, .int frlean, .ref fral, .ref fron])), (fral, .inl (kfral, 25, .inl ffral))] sz) [(h0, .inr (8, [.ref co, .ref le, .int w0_2, .int w0_3, .int w0_4])), (co, .inl (kco, 325, .inl fco)), (le, .inl (kle, 3575, .inl z2)), (fr, .inr (3, [.int frmonths, .int frfull, .int frlean, .ref fral, .ref fron])), (fral, .inl (kfral, 25, .inl ffral))]) (va_A [(h0, .inr (8, [.ref co, .ref le, .int months, .int full, .int lean])), (co, .inl (kco, 325, .inl fco)), (le, .inl (kle, 3575, .inl fle)), (fr, .inr (3, [.int frmonths, .int frfull, .int frlean, .ref fral, .ref fron])), (fral, .inl (kfral, 25, .inl ffral))] sz)) 0 0 (va_A [(h0, .inr (8, [.ref co, .ref le, .int months, .int full, .int lean])), (co, .inl (kco, 325, .inl fco)), (le, .inl (kle, 3575, .inl fle)), (fr, .inr (3, [.int frmonths, .int frfull, .int frlean, .ref fral, .ref fron])), (fral, .inl (kfral, 25, .inl ffral))] sz) := by
  refine Met.ofW (cc := cX8_run) (maxL := 4) (ret := none) (by decide) rfl ?_
  intro p e s m args below meth c s₁ B hml hv
  obtain ⟨rfl, hsz, hP, hK, hD0, hz⟩ := hv
  have hx := B.exec
  have hb := B.bytes
  have hr := B.returns
  have hts := atoms_spec (ws := (.code yX8_run cX8_run 4 none :: wsGA)) B.pre
  have hown : s.vm.findClass RX8 = some m.cls := findClass_of_methodNamed B.named
  have hlocks := B.notSynchronized
  subst hsz
  have hD := hD0.self (sz := s.heap.size)
  generalize hAe : va_A [(h0, .inr (8, [.ref co, .ref le, .int months, .int full, .int lean])), (co, .inl (kco, 325, .inl fco)), (le, .inl (kle, 3575, .inl fle)), (fr, .inr (3, [.int frmonths, .int frfull, .int frlean, .ref fral, .ref fron])), (fral, .inl (kfral, 25, .inl ffral))] s.heap.size = A at hD ⊢
  have hA : ∀ q : Nat, s.heap.size ≤ q → A q := fun q h => by rw [← hAe]; exact Or.inr h
  have hS : va_S A s.heap s.heap [] := va_S.rf
  have hl := lv_entry ([.ref h0, .ref fr]) (n := 4) (Nat.le_of_ble_eq_true rfl)
  rw [lg_entry_eq]
  generalize (lg_sl ([.ref h0, .ref fr]) ++ List.replicate (4 - (lg_sl ([.ref h0, .ref fr])).length) Slot.unset).toArray = ls at hl ⊢
  have hl : lv_has ls 4 [(0, .ref h0), (1, .ref fr)] := hl
  refine lv_aload_n hx hb dX8_run_0 rfl (lv_at hl 0 rfl) ?_
  refine lv_aload_n hx hb dX8_run_1 rfl (lv_at hl 1 rfl) ?_
  refine va_get (D := (dC, dI)) (ci := 3) (v := .int frmonths) (C := RX3) (T := TX3) (N := 5) hx hb hts (fun w h => List.mem_cons_of_mem _ (jnGA_X3 w h)) hown hK hP 3 rfl rfl 0 (by decide) (hts _ (List.mem_cons_of_mem _ mGA_782)) (fun _ h9 => h9) rfl dX8_run_2 ?_
  refine va_put (D := (dC, dI)) (ci := 8) (v := .int frmonths) (ty := .int) (C := RX8) (T := TX8) (N := 5) hx hb hts (fun w h => List.mem_cons_of_mem _ (jnGA_X8 w h)) tyX8 tyX8_ok nmX8 hown hK hP hD hS 0 rfl rfl 2 (by decide) (hts _ (List.mem_cons_of_mem _ mGA_783)) (fun _ h9 => h9) rfl (by decide +kernel) rfl rfl (Nat.le_of_ble_eq_true rfl) dX8_run_5 (fun H locs hP hD hS => ?_)
  have hP : va_P (dC, dI) vwCl [(h0, .inr (8, [.ref co, .ref le, .int frmonths, .int full, .int lean])), (co, .inl (kco, 325, .inl fco)), (le, .inl (kle, 3575, .inl fle)), (fr, .inr (3, [.int frmonths, .int frfull, .int frlean, .ref fral, .ref fron])), (fral, .inl (kfral, 25, .inl ffral))] H := hP
  have hD : va_D A [(h0, .inr (8, [.ref co, .ref le, .int frmonths, .int full, .int lean])), (co, .inl (kco, 325, .inl fco)), (le, .inl (kle, 3575, .inl fle)), (fr, .inr (3, [.int frmonths, .int frfull, .int frlean, .ref fral, .ref fron])), (fral, .inl (kfral, 25, .inl ffral))] := hD
  refine lv_aload_n hx hb dX8_run_8 rfl (lv_at hl 0 rfl) ?_
  refine lv_aload_n hx hb dX8_run_9 rfl (lv_at hl 1 rfl) ?_
  refine va_get (D := (dC, dI)) (ci := 3) (v := .int frfull) (C := RX3) (T := TX3) (N := 5) hx hb hts (fun w h => List.mem_cons_of_mem _ (jnGA_X3 w h)) hown hK hP 3 rfl rfl 1 (by decide) (hts _ (List.mem_cons_of_mem _ mGA_784)) (fun _ h9 => h9) rfl dX8_run_10 ?_
  refine va_put (D := (dC, dI)) (ci := 8) (v := .int frfull) (ty := .int) (C := RX8) (T := TX8) (N := 5) hx hb hts (fun w h => List.mem_cons_of_mem _ (jnGA_X8 w h)) tyX8 tyX8_ok nmX8 hown hK hP hD hS 0 rfl rfl 3 (by decide) (hts _ (List.mem_cons_of_mem _ mGA_785)) (fun _ h9 => h9) rfl (by decide +kernel) rfl rfl (Nat.le_of_ble_eq_true rfl) dX8_run_13 (fun H locs hP hD hS => ?_)
  have hP : va_P (dC, dI) vwCl [(h0, .inr (8, [.ref co, .ref le, .int frmonths, .int frfull, .int lean])), (co, .inl (kco, 325, .inl fco)), (le, .inl (kle, 3575, .inl fle)), (fr, .inr (3, [.int frmonths, .int frfull, .int frlean, .ref fral, .ref fron])), (fral, .inl (kfral, 25, .inl ffral))] H := hP
  have hD : va_D A [(h0, .inr (8, [.ref co, .ref le, .int frmonths, .int frfull, .int lean])), (co, .inl (kco, 325, .inl fco)), (le, .inl (kle, 3575, .inl fle)), (fr, .inr (3, [.int frmonths, .int frfull, .int frlean, .ref fral, .ref fron])), (fral, .inl (kfral, 25, .inl ffral))] := hD
  refine lv_aload_n hx hb dX8_run_16 rfl (lv_at hl 0 rfl) ?_
  refine lv_aload_n hx hb dX8_run_17 rfl (lv_at hl 1 rfl) ?_
  refine va_get (D := (dC, dI)) (ci := 3) (v := .int frlean) (C := RX3) (T := TX3) (N := 5) hx hb hts (fun w h => List.mem_cons_of_mem _ (jnGA_X3 w h)) hown hK hP 3 rfl rfl 2 (by decide) (hts _ (List.mem_cons_of_mem _ mGA_786)) (fun _ h9 => h9) rfl dX8_run_18 ?_
  refine va_put (D := (dC, dI)) (ci := 8) (v := .int frlean) (ty := .int) (C := RX8) (T := TX8) (N := 5) hx hb hts (fun w h => List.mem_cons_of_mem _ (jnGA_X8 w h)) tyX8 tyX8_ok nmX8 hown hK hP hD hS 0 rfl rfl 4 (by decide) (hts _ (List.mem_cons_of_mem _ mGA_787)) (fun _ h9 => h9) rfl (by decide +kernel) rfl rfl (Nat.le_of_ble_eq_true rfl) dX8_run_21 (fun H locs hP hD hS => ?_)
  have hP : va_P (dC, dI) vwCl [(h0, .inr (8, [.ref co, .ref le, .int frmonths, .int frfull, .int frlean])), (co, .inl (kco, 325, .inl fco)), (le, .inl (kle, 3575, .inl fle)), (fr, .inr (3, [.int frmonths, .int frfull, .int frlean, .ref fral, .ref fron])), (fral, .inl (kfral, 25, .inl ffral))] H := hP
  have hD : va_D A [(h0, .inr (8, [.ref co, .ref le, .int frmonths, .int frfull, .int frlean])), (co, .inl (kco, 325, .inl fco)), (le, .inl (kle, 3575, .inl fle)), (fr, .inr (3, [.int frmonths, .int frfull, .int frlean, .ref fral, .ref fron])), (fral, .inl (kfral, 25, .inl ffral))] := hD
  refine lv_aload_n hx hb dX8_run_24 rfl (lv_at hl 0 rfl) ?_
  refine va_get (D := (dC, dI)) (ci := 8) (v := .ref le) (C := RX8) (T := TX8) (N := 5) hx hb hts (fun w h => List.mem_cons_of_mem _ (jnGA_X8 w h)) hown hK hP 0 rfl rfl 1 (by decide) (hts _ (List.mem_cons_of_mem _ mGA_118)) (fun _ h9 => h9) rfl dX8_run_25 ?_
  refine lv_ldc (own := RX8) (v := 1000000) hx hb hown (hts _ (List.mem_cons_of_mem _ mGA_788)) dX8_run_28 ?_
  have hPc := hP.sub (ws' := [(le, .inl (kle, 3575, .inl fle))]) [2] rfl
  have hKc := hK.sub (tys' := [(kle, .int)]) [1] rfl
  have hDc := hD.sub (ws' := [(le, .inl (kle, 3575, .inl fle))]) [2] (by decide) rfl
  have hFc := va_free (wc := [(le, .inl (kle, 3575, .inl fle))]) hD hS hA [2] rfl
  refine va_callv (va_runS (As := [.ref le, .int 1000000]) (rest := []) ⟨hx, hb, hml, hown, hts⟩ (sJ7_fill3575 l dC dI H.size le kle fle 1000000) (⟨callB_of 2 hts (gz_gP mGA_568 goodGA) rfl rfl rfl (hts _ (List.mem_cons_of_mem _ mGA_567)) (hts _ (List.mem_cons_of_mem _ mGA_773)) (by decide +kernel) ⟨Nat.le_of_ble_eq_true rfl, Nat.le_of_ble_eq_true rfl⟩, (hts _ (List.mem_cons_of_mem _ mGA_566))⟩) ⟨fun a U g mk q => by obtain ⟨q0, q1, qP, qK, qD, qZ⟩ := q; exact ⟨q0, q1, qP, va_K.moved (u := U) (U := U.calling g mk a) (Vm.Alike.refl U.vm) qK, qD, nzA_same (u := U) (U := U.calling g mk a) rfl qZ⟩, fun U hU hW => ⟨rfl, by rw [hU], by rw [hU]; exact hPc, va_K.moved hW.alike hKc, hDc.weaken (fun _ _ _ _ => trivial), nzA_warm hW hz⟩⟩ rfl rfl hl.1 rfl (lv_room (Nat.le_of_ble_eq_true rfl)) dX8_run_30 ⟨Nat.zero_le _, Nat.zero_le _⟩) hS (fun q _ h => hFc q h) hFc (fun u t H1 locs ht hvm hw hB hz1 hk1 hS => ?_)
  obtain ⟨f_282, hP1, hD1⟩ := hB
  rw [ht] at hP1
  obtain ⟨hP, hD⟩ := va_join (wr := [(h0, .inr (8, [.ref co, .ref le, .int frmonths, .int frfull, .int frlean])), (co, .inl (kco, 325, .inl fco)), (fr, .inr (3, [.int frmonths, .int frfull, .int frlean, .ref fral, .ref fron])), (fral, .inl (kfral, 25, .inl ffral))]) (w1 := [(le, .inl (kle, 3575, .inl f_282))]) hP hD [2] [0, 1, 3, 4] rfl rfl (by decide) (by decide) hk1 hFc hP1 hD1
  have hP := hP.sub (ws' := [(h0, .inr (8, [.ref co, .ref le, .int frmonths, .int frfull, .int frlean])), (co, .inl (kco, 325, .inl fco)), (le, .inl (kle, 3575, .inl f_282)), (fr, .inr (3, [.int frmonths, .int frfull, .int frlean, .ref fral, .ref fron])), (fral, .inl (kfral, 25, .inl ffral))]) [0, 1, 4, 2, 3] rfl
  have hD := hD.sub (ws' := [(h0, .inr (8, [.ref co, .ref le, .int frmonths, .int frfull, .int frlean])), (co, .inl (kco, 325, .inl fco)), (le, .inl (kle, 3575, .inl f_282)), (fr, .inr (3, [.int frmonths, .int frfull, .int frlean, .ref fral, .ref fron])), (fral, .inl (kfral, 25, .inl ffral))]) [0, 1, 4, 2, 3] (by decide) rfl
  generalize H1 = H at hP hS ⊢
  refine lv_aload_n hx hb dX8_run_33 rfl (lv_at hl 0 rfl) ?_
  refine va_get (D := (dC, dI)) (ci := 8) (v := .int frmonths) (C := RX8) (T := TX8) (N := 5) hx hb hts (fun w h => List.mem_cons_of_mem _ (jnGA_X8 w h)) hown hK hP 0 rfl rfl 2 (by decide) (hts _ (List.mem_cons_of_mem _ mGA_783)) (fun _ h9 => h9) rfl dX8_run_34 ?_
  refine lv_istore_n (lv' := [(2, .int frmonths), (0, .ref h0), (1, .ref fr)]) hx hb dX8_run_37 rfl hl (by decide) rfl (fun ls hl => ?_)
  refine (lp_sX8_run h0 co le fr fral months full lean kco fco kle fle frmonths frfull frlean fron kfral ffral gmonths gfull glean gfrmonths gfrfull gfrlean hx hb hml hown hts hK hz hA (Nat.le_of_ble_eq_true rfl) (Nat.le_of_ble_eq_true rfl) (Nat.zero_le _) (Nat.zero_le _) (fun w0_2 w0_3 w0_4 z2 H locs ls gw0_2 gw0_3 gw0_4 hP hD hS hl => ?_) 1522).1 frmonths frmonths frfull frlean f_282 _ _ _ (gi_w gfrmonths (by decide)) gfrmonths gfrfull gfrlean (by have qgfrmonths := gfrmonths.1; have rgfrmonths := gfrmonths.2; omega) (by have qgfrmonths := gfrmonths.1; have rgfrmonths := gfrmonths.2; omega) hP hD hS (lv_sub hl [1, 2, 0] rfl)
  · skip
    exact W.vret hx hb hr (fun t ht hW => ⟨⟨(), rfl, trivial, w0_2, w0_3, w0_4, z2, gw0_2, gw0_3, gw0_4, by rw [ht]; exact hP, hD⟩, hS.F ht⟩) hS.2.2 dX8_run_76
theorem dX8_fullBits_0 : decode cX8_fullBits 0 = .ok (.iconst 0, 1) := by decide +kernel
theorem dX8_fullBits_1 : decode cX8_fullBits 1 = .ok (.istore_n 1, 1) := by decide +kernel
theorem dX8_fullBits_2 : decode cX8_fullBits 2 = .ok (.iconst 0, 1) := by decide +kernel
theorem dX8_fullBits_3 : decode cX8_fullBits 3 = .ok (.istore_n 2, 1) := by decide +kernel
theorem dX8_fullBits_4 : decode cX8_fullBits 4 = .ok (.iconst 0, 1) := by decide +kernel
theorem dX8_fullBits_5 : decode cX8_fullBits 5 = .ok (.istore_n 3, 1) := by decide +kernel
theorem dX8_fullBits_6 : decode cX8_fullBits 6 = .ok (.iconst 0, 1) := by decide +kernel
theorem dX8_fullBits_7 : decode cX8_fullBits 7 = .ok (.istore 4, 2) := by decide +kernel
theorem dX8_fullBits_9 : decode cX8_fullBits 9 = .ok (.iload 4, 2) := by decide +kernel
theorem dX8_fullBits_11 : decode cX8_fullBits 11 = .ok (.aload_n 0, 1) := by decide +kernel
theorem dX8_fullBits_12 : decode cX8_fullBits 12 = .ok (.getfield 34, 3) := by decide +kernel
theorem dX8_fullBits_15 : decode cX8_fullBits 15 = .ok (.if_icmp .ge 63, 3) := by decide +kernel
theorem dX8_fullBits_18 : decode cX8_fullBits 18 = .ok (.aload_n 0, 1) := by decide +kernel
theorem dX8_fullBits_19 : decode cX8_fullBits 19 = .ok (.iload 4, 2) := by decide +kernel
theorem dX8_fullBits_21 : decode cX8_fullBits 21 = .ok (.iload_n 2, 1) := by decide +kernel
theorem dX8_fullBits_22 : decode cX8_fullBits 22 = .ok (.iload_n 3, 1) := by decide +kernel
theorem dX8_fullBits_23 : decode cX8_fullBits 23 = .ok (.invokevirtual 63, 3) := by decide +kernel
theorem dX8_fullBits_26 : decode cX8_fullBits 26 = .ok (.aload_n 0, 1) := by decide +kernel
theorem dX8_fullBits_27 : decode cX8_fullBits 27 = .ok (.iload 4, 2) := by decide +kernel
theorem dX8_fullBits_29 : decode cX8_fullBits 29 = .ok (.iload_n 2, 1) := by decide +kernel
theorem dX8_fullBits_30 : decode cX8_fullBits 30 = .ok (.iload_n 3, 1) := by decide +kernel
theorem dX8_fullBits_31 : decode cX8_fullBits 31 = .ok (.invokevirtual 60, 3) := by decide +kernel
theorem dX8_fullBits_34 : decode cX8_fullBits 34 = .ok (.if_icmp .gt 19, 3) := by decide +kernel
theorem dX8_fullBits_37 : decode cX8_fullBits 37 = .ok (.iload_n 3, 1) := by decide +kernel
theorem dX8_fullBits_38 : decode cX8_fullBits 38 = .ok (.aload_n 0, 1) := by decide +kernel
theorem dX8_fullBits_39 : decode cX8_fullBits 39 = .ok (.getfield 38, 3) := by decide +kernel
theorem dX8_fullBits_42 : decode cX8_fullBits 42 = .ok (.aload_n 0, 1) := by decide +kernel
theorem dX8_fullBits_43 : decode cX8_fullBits 43 = .ok (.getfield 42, 3) := by decide +kernel
theorem dX8_fullBits_46 : decode cX8_fullBits 46 = .ok (.invokestatic 77, 3) := by decide +kernel
theorem dX8_fullBits_49 : decode cX8_fullBits 49 = .ok (.istore_n 3, 1) := by decide +kernel
theorem dX8_fullBits_50 : decode cX8_fullBits 50 = .ok (.goto 22, 3) := by decide +kernel
theorem dX8_fullBits_53 : decode cX8_fullBits 53 = .ok (.iload_n 1, 1) := by decide +kernel
theorem dX8_fullBits_54 : decode cX8_fullBits 54 = .ok (.iconst 1, 1) := by decide +kernel
theorem dX8_fullBits_55 : decode cX8_fullBits 55 = .ok (.iload 4, 2) := by decide +kernel
theorem dX8_fullBits_57 : decode cX8_fullBits 57 = .ok (.ishl, 1) := by decide +kernel
theorem dX8_fullBits_58 : decode cX8_fullBits 58 = .ok (.ior, 1) := by decide +kernel
theorem dX8_fullBits_59 : decode cX8_fullBits 59 = .ok (.istore_n 1, 1) := by decide +kernel
theorem dX8_fullBits_60 : decode cX8_fullBits 60 = .ok (.iload_n 3, 1) := by decide +kernel
theorem dX8_fullBits_61 : decode cX8_fullBits 61 = .ok (.aload_n 0, 1) := by decide +kernel
theorem dX8_fullBits_62 : decode cX8_fullBits 62 = .ok (.getfield 38, 3) := by decide +kernel
theorem dX8_fullBits_65 : decode cX8_fullBits 65 = .ok (.invokestatic 74, 3) := by decide +kernel
theorem dX8_fullBits_68 : decode cX8_fullBits 68 = .ok (.istore_n 3, 1) := by decide +kernel
theorem dX8_fullBits_69 : decode cX8_fullBits 69 = .ok (.iinc 2 1, 3) := by decide +kernel
theorem dX8_fullBits_72 : decode cX8_fullBits 72 = .ok (.iinc 4 1, 3) := by decide +kernel
theorem dX8_fullBits_75 : decode cX8_fullBits 75 = .ok (.goto (-66), 3) := by decide +kernel
theorem dX8_fullBits_78 : decode cX8_fullBits 78 = .ok (.iload_n 1, 1) := by decide +kernel
theorem dX8_fullBits_79 : decode cX8_fullBits 79 = .ok (.ireturn, 1) := by decide +kernel
set_option maxHeartbeats 4000000 in
set_option maxRecDepth 100000 in
theorem lp_sX8_fullBits {p : Program} {l : Launch} {e : Env} {R : Room} {s : State} {m : MethodId} {args : Array Value} {below : List Frame} {meth : Method} {c : Code} {Q : State → Prop} {A : Nat → Prop} {cells slots : Nat} {dC : Nat → ClassId} {dI : Nat → Nat → Nat} (h0 : Nat) (le : Nat) (co : Nat) (months : Int32) (full : Int32) (lean : Int32) (kle : ClassId) (fle : Nat → Int32) (gmonths : gi months 0 24) (gfull : gi full 0 5) (glean : gi lean 0 5) (hx : p.tables.exec = Jvm.exec) (hb : c.code = cX8_fullBits) (hml : c.maxLocals = 5) (hown : s.vm.findClass RX8 = some m.cls) (hts : ∀ w ∈ ((.code yX8_fullBits cX8_fullBits 5 (some .int) :: wsGA) : List Cond), w.before args s = true) (hK : va_K (dC, dI) vwCl [(kle, .int)] s) (hz : nzA s) (hRf : 3 ≤ R.frames) (hRl : 66 ≤ R.locals) (hRc : cells ≤ R.cells) (hRs : slots ≤ R.slots) (kr79 : ∀ (v : Int32) (H : Heap) (locs : List Loc) (ls : Array Slot), va_P (dC, dI) vwCl [(h0, .inr (8, [.ref co, .ref le, .int months, .int full, .int lean])), (le, .inl (kle, 3575, .inl fle))] H → va_S A s.heap H locs → lv_has ls 5 [] → W p l e R s m args below meth c H locs cells slots Q (F0 m 79 ls [.int v])) : ∀ z : Nat, (∀ (v1 : Int32) (v2 : Int32) (v3 : Int32) (v4 : Int32) (H : Heap) (locs : List Loc) (ls : Array Slot), gi v2 0 24 → gi v3 0 10 → gi v4 0 24 → v2.toInt ≤ v4.toInt → 49 + (-2) * v4.toInt < (z : Int) → va_P (dC, dI) vwCl [(h0, .inr (8, [.ref co, .ref le, .int months, .int full, .int lean])), (le, .inl (kle, 3575, .inl fle))] H → va_S A s.heap H locs → lv_has ls 5 [(0, .ref h0), (1, .int v1), (2, .int v2), (3, .int v3), (4, .int v4)] → W p l e R s m args below meth c H locs cells slots Q (F0 m 9 ls [])) := by
  intro z
  induction z with
  | zero =>
    intro v1 v2 v3 v4 H locs ls gv2 gv3 gv4 hle_gv2_gv4 hmu hP hS hl
    exact absurd hmu (by have hv41 := gv4.1; have hv42 := gv4.2; omega)
  | succ z ih =>
      intro v1 v2 v3 v4 H locs ls gv2 gv3 gv4 hle_gv2_gv4 hmu hP hS hl
      refine lv_iload hx hb dX8_fullBits_9 (lv_at hl 4 rfl) ?_
      refine lv_aload_n hx hb dX8_fullBits_11 rfl (lv_at hl 0 rfl) ?_
      refine va_get (D := (dC, dI)) (ci := 8) (v := .int months) (C := RX8) (T := TX8) (N := 5) hx hb hts (fun w h => List.mem_cons_of_mem _ (jnGA_X8 w h)) hown hK hP 0 rfl rfl 2 (by decide) (hts _ (List.mem_cons_of_mem _ mGA_783)) (fun _ h9 => h9) rfl dX8_fullBits_12 ?_
      refine lv_icmp_ge (tgt := 78) hx hb dX8_fullBits_15 (by decide) (fun c_227 => ?_) (fun c_227 => ?_)
      · refine lv_iload_n hx hb dX8_fullBits_78 rfl (lv_at hl 1 rfl) ?_
        exact kr79 v1 _ _ _ hP hS (lv_sub hl [] rfl)
      · have g_228 : gi v4 0 23 := gi_lt_l (Int32.not_le.mp c_227) gv4 gmonths (by decide)
        have g_229 : gi v2 0 23 := gi_rel hle_gv2_gv4 gv2 g_228
        have g_230 : gi months 1 24 := gi_lt_r (Int32.not_le.mp c_227) gv4 gmonths (by decide)
        refine lv_aload_n hx hb dX8_fullBits_18 rfl (lv_at hl 0 rfl) ?_
        refine lv_iload hx hb dX8_fullBits_19 (lv_at hl 4 rfl) ?_
        refine lv_iload_n hx hb dX8_fullBits_21 rfl (lv_at hl 2 rfl) ?_
        refine lv_iload_n hx hb dX8_fullBits_22 rfl (lv_at hl 3 rfl) ?_
        have hPc := hP.sub (ws' := [(h0, .inr (8, [.ref co, .ref le, .int months, .int full, .int lean])), (le, .inl (kle, 3575, .inl fle))]) [0, 1] rfl
        have hKc := hK.sub (tys' := [(kle, .int)]) [0] rfl
        refine va_calli (va_runV (As := [.int v4, .int v2, .int v3]) (rest := []) ⟨hx, hb, hml, hown, hts⟩ (sX8_withLean l dC dI h0 le co months full lean kle fle v4 v2 v3 (gi_w g_230 (by decide)) gfull glean g_228 (gi_w g_229 (by decide)) gv3) (cwV 3 hts (gz_gV mGA_799 mGA_800 mGA_801 mGA_31 mGA_802 goodGA) rfl rfl rfl (by decide +kernel) ⟨Nat.le_trans (Nat.le_of_ble_eq_true rfl) hRf, Nat.le_trans (Nat.le_of_ble_eq_true rfl) hRl⟩) ⟨fun a U g mk q => by obtain ⟨q0, qP, qK, qZ⟩ := q; exact ⟨q0, qP, va_K.moved (u := U) (U := U.calling g mk a) (Vm.Alike.refl U.vm) qK, nzA_same (u := U) (U := U.calling g mk a) rfl qZ⟩, va_recv hKc hPc (ci := 8) (q0 := 0) rfl rfl, fun U hU hW => ⟨rfl, by rw [hU]; exact hPc, va_K.moved hW.alike hKc, nzA_warm hW hz⟩⟩ rfl rfl hl.1 rfl (lv_room (Nat.le_of_ble_eq_true rfl)) dX8_fullBits_23 ⟨hRc, hRs⟩) hS (fun q _ h => h.elim) (fun q h => h.elim) (fun r_231 u t H1 locs ht hvm hw hB hz1 hk1 hS => ?_)
        have hP := gz_keep hP hk1
        generalize H1 = H at hP hS ⊢
        refine lv_aload_n hx hb dX8_fullBits_26 rfl (lv_at hl 0 rfl) ?_
        refine lv_iload hx hb dX8_fullBits_27 (lv_at hl 4 rfl) ?_
        refine lv_iload_n hx hb dX8_fullBits_29 rfl (lv_at hl 2 rfl) ?_
        refine lv_iload_n hx hb dX8_fullBits_30 rfl (lv_at hl 3 rfl) ?_
        have hPc := hP.sub (ws' := [(h0, .inr (8, [.ref co, .ref le, .int months, .int full, .int lean])), (le, .inl (kle, 3575, .inl fle))]) [0, 1] rfl
        have hKc := hK.sub (tys' := [(kle, .int)]) [0] rfl
        refine va_calli (va_runV (As := [.int v4, .int v2, .int v3]) (rest := [.int r_231]) ⟨hx, hb, hml, hown, hts⟩ (sX8_withFull l dC dI h0 le co months full lean kle fle v4 v2 v3 (gi_w g_230 (by decide)) gfull glean g_228 g_229 gv3) (cwV 3 hts (gz_gV mGA_795 mGA_796 mGA_797 mGA_31 mGA_798 goodGA) rfl rfl rfl (by decide +kernel) ⟨Nat.le_trans (Nat.le_of_ble_eq_true rfl) hRf, Nat.le_trans (Nat.le_of_ble_eq_true rfl) hRl⟩) ⟨fun a U g mk q => by obtain ⟨q0, qP, qK, qZ⟩ := q; exact ⟨q0, qP, va_K.moved (u := U) (U := U.calling g mk a) (Vm.Alike.refl U.vm) qK, nzA_same (u := U) (U := U.calling g mk a) rfl qZ⟩, va_recv hKc hPc (ci := 8) (q0 := 0) rfl rfl, fun U hU hW => ⟨rfl, by rw [hU]; exact hPc, va_K.moved hW.alike hKc, nzA_warm hW hz⟩⟩ rfl rfl hl.1 rfl (lv_room (Nat.le_of_ble_eq_true rfl)) dX8_fullBits_31 ⟨hRc, hRs⟩) hS (fun q _ h => h.elim) (fun q h => h.elim) (fun r_232 u t H1 locs ht hvm hw hB hz1 hk1 hS => ?_)
        have hP := gz_keep hP hk1
        generalize H1 = H at hP hS ⊢
        refine lv_icmp_gt (tgt := 53) hx hb dX8_fullBits_34 (by decide) (fun c_233 => ?_) (fun c_233 => ?_)
        · have g_234 : gi r_232 (-2147483648) 2147483646 := gi_lt_l c_233 (gi_any r_232) (gi_any r_231) (by decide)
          have g_235 : gi r_231 (-2147483647) 2147483647 := gi_lt_r c_233 (gi_any r_232) (gi_any r_231) (by decide)
          refine lv_iload_n hx hb dX8_fullBits_53 rfl (lv_at hl 1 rfl) ?_
          refine lv_iconst (v := 1) hx hb dX8_fullBits_54 (by decide) ?_
          refine lv_iload hx hb dX8_fullBits_55 (lv_at hl 4 rfl) ?_
          refine lv_ishl hx hb dX8_fullBits_57 ?_
          refine lv_topi (fun x_236 ex_236 => ?_)
          refine lv_ior hx hb dX8_fullBits_58 ?_
          refine lv_topi (fun x_237 ex_237 => ?_)
          refine lv_istore_n (lv' := [(1, .int x_237), (0, .ref h0), (2, .int v2), (3, .int v3), (4, .int v4)]) hx hb dX8_fullBits_59 rfl hl (by decide) rfl (fun ls hl => ?_)
          refine lv_iload_n hx hb dX8_fullBits_60 rfl (lv_at hl 3 rfl) ?_
          refine lv_aload_n hx hb dX8_fullBits_61 rfl (lv_at hl 1 rfl) ?_
          refine va_get (D := (dC, dI)) (ci := 8) (v := .int full) (C := RX8) (T := TX8) (N := 5) hx hb hts (fun w h => List.mem_cons_of_mem _ (jnGA_X8 w h)) hown hK hP 0 rfl rfl 3 (by decide) (hts _ (List.mem_cons_of_mem _ mGA_785)) (fun _ h9 => h9) rfl dX8_fullBits_62 ?_
          have hPc := hP.sub (ws' := []) [] rfl
          have hKc := hK.sub (tys' := []) [] rfl
          refine va_calli (va_runSN (As := [.int v3, .int full]) (rest := []) ⟨hx, hb, hml, hown, hts⟩ (sX11_runWithFull l dC dI v3 full gv3 gfull) (⟨va_cnB 2 hts (gz_gP mGA_508 goodGA) rfl rfl rfl (nzA_X8_74 hz) (hts _ (List.mem_cons_of_mem _ mGA_1)) (by decide +kernel) ⟨Nat.le_trans (Nat.le_of_ble_eq_true rfl) hRf, Nat.le_trans (Nat.le_of_ble_eq_true rfl) hRl⟩, (hts _ (List.mem_cons_of_mem _ mGA_507)), trivial⟩) ⟨fun a U g mk q => by obtain ⟨q0, qP, qK, qZ⟩ := q; exact ⟨q0, qP, va_K.moved (u := U) (U := U.calling g mk a) (Vm.Alike.refl U.vm) qK, nzA_same (u := U) (U := U.calling g mk a) rfl qZ⟩, fun U hU hW => ⟨rfl, by rw [hU]; exact hPc, va_K.moved hW.alike hKc, nzA_warm hW hz⟩⟩ rfl rfl hl.1 rfl (lv_room (Nat.le_of_ble_eq_true rfl)) dX8_fullBits_65 ⟨hRc, hRs⟩) hS (fun q _ h => h.elim) (fun q h => h.elim) (fun r_238 u t H1 locs ht hvm hw hB hz1 hk1 hS => ?_)
          have hP := gz_keep hP hk1
          generalize H1 = H at hP hS ⊢
          have gr_238 : gi r_238 0 5 := hw
          refine lv_istore_n (lv' := [(3, .int r_238), (1, .int x_237), (0, .ref h0), (2, .int v2), (4, .int v4)]) hx hb dX8_fullBits_68 rfl hl (by decide) rfl (fun ls hl => ?_)
          obtain ⟨x_239, ex_239⟩ : ∃ y : Int32, y = v2 + 1 := ⟨_, rfl⟩
          have gx_239 : gi x_239 1 24 := gi_add ex_239 g_229 (gi_c 1 1 (by decide)) (by decide)
          refine lv_iinc (v := x_239) (lv' := [(2, .int x_239), (3, .int r_238), (1, .int x_237), (0, .ref h0), (4, .int v4)]) hx hb dX8_fullBits_69 hl (k := 3) rfl (by rw [ex_239]; rfl) (by decide) rfl (fun ls hl => ?_)
          obtain ⟨x_240, ex_240⟩ : ∃ y : Int32, y = v4 + 1 := ⟨_, rfl⟩
          have gx_240 : gi x_240 1 24 := gi_add ex_240 g_228 (gi_c 1 1 (by decide)) (by decide)
          refine lv_iinc (v := x_240) (lv' := [(4, .int x_240), (2, .int x_239), (3, .int r_238), (1, .int x_237), (0, .ref h0)]) hx hb dX8_fullBits_72 hl (k := 4) rfl (by rw [ex_240]; rfl) (by decide) rfl (fun ls hl => ?_)
          refine lv_goto (tgt := 9) hx hb dX8_fullBits_75 (by decide) ?_
          exact ih x_237 x_239 r_238 x_240 _ _ _ (gi_w gx_239 (by decide)) (gi_w gr_238 (by decide)) (gi_w gx_240 (by decide)) (by have qgx_240 := gx_240.1; have rgx_240 := gx_240.2; have igx_240 : x_240.toInt = v4.toInt + 1 := (by have hc1 : (1 : Int32).toInt = 1 := (by decide); have h9 := gi_addI ex_240 (by have h1 := g_228.1; have h2 := (gi_c 1 1 (by decide)).1; have h3 := g_228.2; have h4 := (gi_c 1 1 (by decide)).2; omega) (by have h1 := g_228.1; have h2 := (gi_c 1 1 (by decide)).1; have h3 := g_228.2; have h4 := (gi_c 1 1 (by decide)).2; omega); rw [hc1] at h9; exact h9); have qgv4 := g_228.1; have rgv4 := g_228.2; have qgx_239 := gx_239.1; have rgx_239 := gx_239.2; have igx_239 : x_239.toInt = v2.toInt + 1 := (by have hc1 : (1 : Int32).toInt = 1 := (by decide); have h9 := gi_addI ex_239 (by have h1 := g_229.1; have h2 := (gi_c 1 1 (by decide)).1; have h3 := g_229.2; have h4 := (gi_c 1 1 (by decide)).2; omega) (by have h1 := g_229.1; have h2 := (gi_c 1 1 (by decide)).1; have h3 := g_229.2; have h4 := (gi_c 1 1 (by decide)).2; omega); rw [hc1] at h9; exact h9); have qgv2 := g_229.1; have rgv2 := g_229.2; have y1 := (Int32.lt_iff_toInt_lt.mp (Int32.not_le.mp c_227)); have y2 := (Int32.lt_iff_toInt_lt.mp c_233); omega) (by have av4 := gv4.1; have bv4 := gv4.2; have qgx_240 := gx_240.1; have rgx_240 := gx_240.2; have igx_240 : x_240.toInt = v4.toInt + 1 := (by have hc1 : (1 : Int32).toInt = 1 := (by decide); have h9 := gi_addI ex_240 (by have h1 := g_228.1; have h2 := (gi_c 1 1 (by decide)).1; have h3 := g_228.2; have h4 := (gi_c 1 1 (by decide)).2; omega) (by have h1 := g_228.1; have h2 := (gi_c 1 1 (by decide)).1; have h3 := g_228.2; have h4 := (gi_c 1 1 (by decide)).2; omega); rw [hc1] at h9; exact h9); have qgv4 := g_228.1; have rgv4 := g_228.2; omega) hP hS (lv_sub hl [4, 3, 1, 2, 0] rfl)
        · refine lv_iload_n hx hb dX8_fullBits_37 rfl (lv_at hl 3 rfl) ?_
          refine lv_aload_n hx hb dX8_fullBits_38 rfl (lv_at hl 0 rfl) ?_
          refine va_get (D := (dC, dI)) (ci := 8) (v := .int full) (C := RX8) (T := TX8) (N := 5) hx hb hts (fun w h => List.mem_cons_of_mem _ (jnGA_X8 w h)) hown hK hP 0 rfl rfl 3 (by decide) (hts _ (List.mem_cons_of_mem _ mGA_785)) (fun _ h9 => h9) rfl dX8_fullBits_39 ?_
          refine lv_aload_n hx hb dX8_fullBits_42 rfl (lv_at hl 0 rfl) ?_
          refine va_get (D := (dC, dI)) (ci := 8) (v := .int lean) (C := RX8) (T := TX8) (N := 5) hx hb hts (fun w h => List.mem_cons_of_mem _ (jnGA_X8 w h)) hown hK hP 0 rfl rfl 4 (by decide) (hts _ (List.mem_cons_of_mem _ mGA_787)) (fun _ h9 => h9) rfl dX8_fullBits_43 ?_
          have hPc := hP.sub (ws' := []) [] rfl
          have hKc := hK.sub (tys' := []) [] rfl
          refine va_calli (va_runSN (As := [.int v3, .int full, .int lean]) (rest := []) ⟨hx, hb, hml, hown, hts⟩ (sX11_runWithLean l dC dI v3 full lean gv3 gfull glean) (⟨va_cnB 3 hts (gz_gP mGA_510 goodGA) rfl rfl rfl (nzA_X8_77 hz) (hts _ (List.mem_cons_of_mem _ mGA_1)) (by decide +kernel) ⟨Nat.le_trans (Nat.le_of_ble_eq_true rfl) hRf, Nat.le_trans (Nat.le_of_ble_eq_true rfl) hRl⟩, (hts _ (List.mem_cons_of_mem _ mGA_509)), trivial⟩) ⟨fun a U g mk q => by obtain ⟨q0, qP, qK, qZ⟩ := q; exact ⟨q0, qP, va_K.moved (u := U) (U := U.calling g mk a) (Vm.Alike.refl U.vm) qK, nzA_same (u := U) (U := U.calling g mk a) rfl qZ⟩, fun U hU hW => ⟨rfl, by rw [hU]; exact hPc, va_K.moved hW.alike hKc, nzA_warm hW hz⟩⟩ rfl rfl hl.1 rfl (lv_room (Nat.le_of_ble_eq_true rfl)) dX8_fullBits_46 ⟨hRc, hRs⟩) hS (fun q _ h => h.elim) (fun q h => h.elim) (fun r_241 u t H1 locs ht hvm hw hB hz1 hk1 hS => ?_)
          have hP := gz_keep hP hk1
          generalize H1 = H at hP hS ⊢
          have gr_241 : gi r_241 0 10 := hw
          refine lv_istore_n (lv' := [(3, .int r_241), (0, .ref h0), (1, .int v1), (2, .int v2), (4, .int v4)]) hx hb dX8_fullBits_49 rfl hl (by decide) rfl (fun ls hl => ?_)
          refine lv_goto (tgt := 72) hx hb dX8_fullBits_50 (by decide) ?_
          obtain ⟨x_242, ex_242⟩ : ∃ y : Int32, y = v4 + 1 := ⟨_, rfl⟩
          have gx_242 : gi x_242 1 24 := gi_add ex_242 g_228 (gi_c 1 1 (by decide)) (by decide)
          refine lv_iinc (v := x_242) (lv' := [(4, .int x_242), (3, .int r_241), (0, .ref h0), (1, .int v1), (2, .int v2)]) hx hb dX8_fullBits_72 hl (k := 4) rfl (by rw [ex_242]; rfl) (by decide) rfl (fun ls hl => ?_)
          refine lv_goto (tgt := 9) hx hb dX8_fullBits_75 (by decide) ?_
          exact ih v1 v2 r_241 x_242 _ _ _ (gi_w g_229 (by decide)) gr_241 (gi_w gx_242 (by decide)) (by have qgx_242 := gx_242.1; have rgx_242 := gx_242.2; have igx_242 : x_242.toInt = v4.toInt + 1 := (by have hc1 : (1 : Int32).toInt = 1 := (by decide); have h9 := gi_addI ex_242 (by have h1 := g_228.1; have h2 := (gi_c 1 1 (by decide)).1; have h3 := g_228.2; have h4 := (gi_c 1 1 (by decide)).2; omega) (by have h1 := g_228.1; have h2 := (gi_c 1 1 (by decide)).1; have h3 := g_228.2; have h4 := (gi_c 1 1 (by decide)).2; omega); rw [hc1] at h9; exact h9); have qgv4 := g_228.1; have rgv4 := g_228.2; have qgv2 := g_229.1; have rgv2 := g_229.2; have y1 := (Int32.lt_iff_toInt_lt.mp (Int32.not_le.mp c_227)); have y2 := (Int32.le_iff_toInt_le.mp (Int32.not_lt.mp c_233)); omega) (by have av4 := gv4.1; have bv4 := gv4.2; have qgx_242 := gx_242.1; have rgx_242 := gx_242.2; have igx_242 : x_242.toInt = v4.toInt + 1 := (by have hc1 : (1 : Int32).toInt = 1 := (by decide); have h9 := gi_addI ex_242 (by have h1 := g_228.1; have h2 := (gi_c 1 1 (by decide)).1; have h3 := g_228.2; have h4 := (gi_c 1 1 (by decide)).2; omega) (by have h1 := g_228.1; have h2 := (gi_c 1 1 (by decide)).1; have h3 := g_228.2; have h4 := (gi_c 1 1 (by decide)).2; omega); rw [hc1] at h9; exact h9); have qgv4 := g_228.1; have rgv4 := g_228.2; omega) hP hS (lv_sub hl [2, 3, 4, 1, 0] rfl)
set_option maxHeartbeats 4000000 in
set_option maxRecDepth 100000 in
theorem sX8_fullBits (l : Launch) (dC : Nat → ClassId) (dI : Nat → Nat → Nat) (h0 : Nat) (le : Nat) (co : Nat) (months : Int32) (full : Int32) (lean : Int32) (kle : ClassId) (fle : Nat → Int32) (gmonths : gi months 0 24) (gfull : gi full 0 5) (glean : gi lean 0 5) : Met l yX8_fullBits (.code yX8_fullBits cX8_fullBits 5 (some .int) :: wsGA) ({ frames := 3, cells := 0, slots := 0, locals := 66 }) (va_Pc [.ref h0] (fun U => va_P (dC, dI) vwCl [(h0, .inr (8, [.ref co, .ref le, .int months, .int full, .int lean])), (le, .inl (kle, 3575, .inl fle))] U.heap ∧ va_K (dC, dI) vwCl [(kle, .int)] U ∧ nzA U)) (va_Qi (fun (r : Int32) (u : Unit) => gi r (-2147483648) 2147483647) (fun _ _ => True) (fun _ => False)) 0 0 (fun _ => False) := by
  refine Met.ofW (cc := cX8_fullBits) (maxL := 5) (ret := (some .int)) (by decide) rfl ?_
  intro p e s m args below meth c s₁ B hml hv
  obtain ⟨rfl, hP, hK, hz⟩ := hv
  have hx := B.exec
  have hb := B.bytes
  have hr := B.returns
  have hts := atoms_spec (ws := (.code yX8_fullBits cX8_fullBits 5 (some .int) :: wsGA)) B.pre
  have hown : s.vm.findClass RX8 = some m.cls := findClass_of_methodNamed B.named
  have hlocks := B.notSynchronized
  have hS : va_S (fun _ => False) s.heap s.heap [] := va_S.rf
  have hl := lv_entry ([.ref h0]) (n := 5) (Nat.le_of_ble_eq_true rfl)
  rw [lg_entry_eq]
  generalize (lg_sl ([.ref h0]) ++ List.replicate (5 - (lg_sl ([.ref h0])).length) Slot.unset).toArray = ls at hl ⊢
  have hl : lv_has ls 5 [(0, .ref h0)] := hl
  refine lv_iconst (v := 0) hx hb dX8_fullBits_0 (by decide) ?_
  refine lv_istore_n (lv' := [(1, .int 0), (0, .ref h0)]) hx hb dX8_fullBits_1 rfl hl (by decide) rfl (fun ls hl => ?_)
  refine lv_iconst (v := 0) hx hb dX8_fullBits_2 (by decide) ?_
  refine lv_istore_n (lv' := [(2, .int 0), (1, .int 0), (0, .ref h0)]) hx hb dX8_fullBits_3 rfl hl (by decide) rfl (fun ls hl => ?_)
  refine lv_iconst (v := 0) hx hb dX8_fullBits_4 (by decide) ?_
  refine lv_istore_n (lv' := [(3, .int 0), (2, .int 0), (1, .int 0), (0, .ref h0)]) hx hb dX8_fullBits_5 rfl hl (by decide) rfl (fun ls hl => ?_)
  refine lv_iconst (v := 0) hx hb dX8_fullBits_6 (by decide) ?_
  refine lv_istore (lv' := [(4, .int 0), (3, .int 0), (2, .int 0), (1, .int 0), (0, .ref h0)]) hx hb dX8_fullBits_7 hl (by decide) rfl (fun ls hl => ?_)
  refine (lp_sX8_fullBits h0 le co months full lean kle fle gmonths gfull glean hx hb hml hown hts hK hz (Nat.le_of_ble_eq_true rfl) (Nat.le_of_ble_eq_true rfl) (Nat.zero_le _) (Nat.zero_le _) (fun v H locs ls hP hS hl => ?_) 62) 0 0 0 0 _ _ _ (gi_w (gi_c 0 0 (by decide)) (by decide)) (gi_w (gi_c 0 0 (by decide)) (by decide)) (gi_w (gi_c 0 0 (by decide)) (by decide)) (by have k0 : (0 : Int32).toInt = 0 := (by decide); have k0 : (0 : Int32).toInt = 0 := (by decide); omega) (by have k0 : (0 : Int32).toInt = 0 := (by decide); omega) hP hS (lv_sub hl [4, 3, 2, 1, 0] rfl)
  · skip
    exact W.iret (v := v) hx hb hr (fun t ht hW => ⟨⟨v, (), rfl, (gi_any v), trivial⟩, hS.F ht⟩) hS.2.2 dX8_fullBits_79
