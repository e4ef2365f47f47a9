def VX0 : Nat → Int32 := (fun n => ([0, 0, (-1), 0, 0, 0, (-1), 0, 0, 0, 0, 0, 0, 0, 0, 0, 0, 0, 0, 0, 0, 0, 0, 0, 0, 0, 0, 0, 0, 0, 0, 0, 0, 0, 0, 0, 0, 0, 0, 0, 0, 0, 0, 0, 0, 0, 0, 0, 0, 0, 0, 0, 0, 0, 0, 0, 0, 0, 0, 0, 0] : List Int32).getD n 0)
def MI0 : Nat → Int32 := (fun n => ([0, 0, 0, 0, 0, 0, 0, 0, 0, 0, 0, 0, 0, 0, 0, 0, 0, 0, 0, 0, 0, 0, 0, 0, 0, 0, 0, 0, (-1), 0, 0, 0, 0, 0, 0, 0, 0, 0, 0, 0, 0, 0, (-1), (-1), (-1), (-1), 0, 0, 0, 0, 0, 0, 0, 0, 0, 0, 0] : List Int32).getD n 0)
theorem rel_start {vx : Nat → Int32} {fx : Nat → Nat → Int32} {gx : Nat → Nat → Int64} {mi : Nat → Int32} {fm : Nat → Nat → Int32} (hx : vx = VX0 ∧ fx = (fun _ _ => 0) ∧ gx = (fun _ _ => 0)) (hm : mi = MI0 ∧ fm = (fun _ _ => 0)) : REL vx fx gx mi fm := by
  obtain ⟨rfl, rfl, rfl⟩ := hx
  obtain ⟨rfl, rfl⟩ := hm
  refine ⟨⟨⟨0, by omega, rfl, rfl, fun j hj => absurd hj (by omega)⟩, rfl, rfl⟩, ⟨⟨rfl, rfl, rfl, rfl, rfl, rfl, rfl⟩, ⟨0, 0, 0, by omega, by omega, by omega, rfl, rfl, rfl, rfl, rfl, rfl, fun p hp => absurd hp (by omega), fun j hj => absurd hj (by omega), fun j hj => absurd hj (by omega), fun j hj => absurd hj (by omega), fun _ => ⟨rfl, rfl⟩, fun p hp => absurd hp (by omega), fun p q hp => absurd hp (by omega), fun j hj => absurd hj (by omega), fun j hj => absurd hj (by omega)⟩, by decide, by decide⟩, fun q => absurd rfl q, fun _ => rfl⟩
noncomputable def lsX8_wipe : List (Nat × Instr × Nat) := [(0, .aload_n 0, 1), (1, .getfield 9, 3), (4, .iconst 0, 1), (5, .invokestatic 18, 3), (8, .return_, 1)]
theorem dkX8_wipe : dkAll cX8_wipe lsX8_wipe = true := by decide +kernel
abbrev pb_sX8_wipe (dC : Nat → ClassId) (dI : Nat → Nat → Nat) (A9 : Nat → Prop) (h0 : Nat) (co : Nat) (le : Nat) (months : Int32) (full : Int32) (lean : Int32) (kco : ClassId) (fco : Nat → Int32) (z1 : Nat → Int32) (t : State) : Prop := va_P (dC, dI) vwCl [(h0, .inr (8, [.ref co, .ref le, .int months, .int full, .int lean])), (co, .inl (kco, 325, .inl z1))] t.heap ∧ va_D A9 [(h0, .inr (8, [.ref co, .ref le, .int months, .int full, .int lean])), (co, .inl (kco, 325, .inl z1))]
set_option maxHeartbeats 4000000 in
set_option maxRecDepth 100000 in
theorem sX8_wipe (l : Launch) (dC : Nat → ClassId) (dI : Nat → Nat → Nat) (sz : Nat) (h0 : Nat) (co : Nat) (le : Nat) (months : Int32) (full : Int32) (lean : Int32) (kco : ClassId) (fco : Nat → Int32) (gmonths : gi months 0 24) (gfull : gi full 0 5) (glean : gi lean 0 5) : Met l yX8_wipe (.code yX8_wipe cX8_wipe 1 none :: wsGA) ({ frames := 1, cells := 0, slots := 0, locals := 23 }) (va_Pc [.ref h0] (fun U => U.heap.size = sz ∧ va_P (dC, dI) vwCl [(h0, .inr (8, [.ref co, .ref le, .int months, .int full, .int lean])), (co, .inl (kco, 325, .inl fco))] U.heap ∧ va_K (dC, dI) vwCl [(kco, .int)] U ∧ va_D (fun _ => True) [(h0, .inr (8, [.ref co, .ref le, .int months, .int full, .int lean])), (co, .inl (kco, 325, .inl fco))] ∧ nzA U)) (va_Qv (fun (u : Unit) => True) (fun _ t => ∃ (z1 : Nat → Int32), pb_sX8_wipe dC dI (va_A [(h0, .inr (8, [.ref co, .ref le, .int months, .int full, .int lean])), (co, .inl (kco, 325, .inl fco))] sz) h0 co le months full lean kco fco z1 t) (va_A [(h0, .inr (8, [.ref co, .ref le, .int months, .int full, .int lean])), (co, .inl (kco, 325, .inl fco))] sz)) 0 0 (va_A [(h0, .inr (8, [.ref co, .ref le, .int months, .int full, .int lean])), (co, .inl (kco, 325, .inl fco))] sz) := by
  refine Met.ofW (cc := cX8_wipe) (maxL := 1) (ret := none) (by decide) rfl ?_
  intro p e s m args below meth c s₁ B hml hv
  obtain ⟨rfl, hsz, hP, hK, hD0, hz⟩ := hv
  have hx := B.exec
  have hb := B.bytes
  have hr := B.returns
  have hts := atoms_spec (ws := (.code yX8_wipe cX8_wipe 1 none :: wsGA)) B.pre
  have hown : s.vm.findClass RX8 = some m.cls := findClass_of_methodNamed B.named
  have hlocks := B.notSynchronized
  subst hsz
  have hD := hD0.self (sz := s.heap.size)
  generalize hAe : va_A [(h0, .inr (8, [.ref co, .ref le, .int months, .int full, .int lean])), (co, .inl (kco, 325, .inl fco))] s.heap.size = A at hD ⊢
  have hA : ∀ q : Nat, s.heap.size ≤ q → A q := fun q h => by rw [← hAe]; exact Or.inr h
  have hS : va_S A s.heap s.heap [] := va_S.rf
  have hl := lv_entry ([.ref h0]) (n := 1) (Nat.le_of_ble_eq_true rfl)
  rw [lg_entry_eq]
  generalize (lg_sl ([.ref h0]) ++ List.replicate (1 - (lg_sl ([.ref h0])).length) Slot.unset).toArray = ls at hl ⊢
  have hl : lv_has ls 1 [(0, .ref h0)] := hl
  refine lv_aload_n hx hb (dk_at dkX8_wipe 0 rfl) rfl (lv_at hl 0 rfl) ?_
  refine va_get (D := (dC, dI)) (ci := 8) (v := .ref co) (C := RX8) (T := TX8) (N := 5) hx hb hts (fun w h => List.mem_cons_of_mem _ (jnGA_X8 w h)) hown hK hP 0 rfl rfl 0 (by decide) (hts _ (List.mem_cons_of_mem _ mGA_117)) (fun _ h9 => h9) rfl (dk_at dkX8_wipe 1 rfl) ?_
  refine lv_iconst (v := 0) hx hb (dk_at dkX8_wipe 2 rfl) (by decide) ?_
  obtain ⟨hPc, hDc, hFc⟩ := gz_cut (wc := [(co, .inl (kco, 325, .inl fco))]) hP hD hS hA [1] (by decide) rfl
  have hKc := hK.sub (tys' := [(kco, .int)]) [0] rfl
  refine va_callv (va_runS (As := [.ref co, .int 0]) (rest := []) ⟨hx, hb, hml, hown, hts⟩ (sJ7_fill325 l dC dI s.heap.size co kco fco 0) (⟨callB_of 2 hts (gz_gP mGA_568 goodGA) rfl rfl rfl (hts _ (List.mem_cons_of_mem _ mGA_567)) (hts _ (List.mem_cons_of_mem _ mGA_773)) (by decide +kernel) ⟨Nat.le_of_ble_eq_true rfl, Nat.le_of_ble_eq_true rfl⟩, (hts _ (List.mem_cons_of_mem _ mGA_566))⟩) ⟨bl_I (bl_a bl_sz (bl_a bl_P (bl_a bl_K (bl_a bl_c bl_nz)))), fun U hU hW => ⟨rfl, by rw [hU], by rw [hU]; exact hPc, va_K.moved hW.alike hKc, hDc.weaken (fun _ _ _ _ => trivial), nzA_warm hW hz⟩⟩ rfl rfl hl.1 rfl (lv_room (Nat.le_of_ble_eq_true rfl)) (dk_at dkX8_wipe 3 rfl) ⟨Nat.zero_le _, Nat.zero_le _⟩) hS (fun q _ h => hFc q h) hFc (fun u t H1 locs ht hvm hw hB hz1 hk1 hS => ?_)
  obtain ⟨f_6, hB⟩ := hB
  obtain ⟨hP1, hD1⟩ := hB
  rw [ht] at hP1
  obtain ⟨hP, hD⟩ := gz_back hP hD hk1 hFc hP1 hD1 [1] rfl rfl
  obtain ⟨hP, hD⟩ := gz_both (w := [(h0, .inr (8, [.ref co, .ref le, .int months, .int full, .int lean])), (co, .inl (kco, 325, .inl f_6))]) hP hD
  generalize H1 = H at hP hS ⊢
  exact W.vret hx hb hr (fun t ht hW => ⟨⟨(), rfl, trivial, f_6, by rw [ht]; exact hP, hD⟩, hS.F ht⟩) hS.2.2 (dk_at dkX8_wipe 4 rfl)
noncomputable def lsX8_charge : List (Nat × Instr × Nat) := [(0, .aload_n 0, 1), (1, .getfield 9, 3), (4, .iload_n 1, 1), (5, .iload_n 2, 1), (6, .invokestatic 24, 3), (9, .dup2, 1), (10, .iaload, 1), (11, .iload_n 3, 1), (12, .iadd, 1), (13, .iastore, 1), (14, .return_, 1)]
theorem dkX8_charge : dkAll cX8_charge lsX8_charge = true := by decide +kernel
abbrev pb_sX8_charge (dC : Nat → ClassId) (dI : Nat → Nat → Nat) (A9 : Nat → Prop) (h0 : Nat) (co : Nat) (le : Nat) (months : Int32) (full : Int32) (lean : Int32) (kco : ClassId) (fco : Nat → Int32) (p0 : Int32) (p1 : Int32) (p2 : Int32) (z1 : Nat → Int32) (t : State) : Prop := va_P (dC, dI) vwCl [(h0, .inr (8, [.ref co, .ref le, .int months, .int full, .int lean])), (co, .inl (kco, 325, .inl z1))] t.heap ∧ va_D A9 [(h0, .inr (8, [.ref co, .ref le, .int months, .int full, .int lean])), (co, .inl (kco, 325, .inl z1))]
set_option maxHeartbeats 4000000 in
set_option maxRecDepth 100000 in
theorem sX8_charge (l : Launch) (dC : Nat → ClassId) (dI : Nat → Nat → Nat) (sz : Nat) (h0 : Nat) (co : Nat) (le : Nat) (months : Int32) (full : Int32) (lean : Int32) (kco : ClassId) (fco : Nat → Int32) (p0 : Int32) (p1 : Int32) (p2 : Int32) (gmonths : gi months 0 24) (gfull : gi full 0 5) (glean : gi lean 0 5) (gp0 : gi p0 0 24) (gp1 : gi p1 0 24) : Met l yX8_charge (.code yX8_charge cX8_charge 4 none :: wsGA) ({ frames := 1, cells := 0, slots := 0, locals := 21 }) (va_Pc [.ref h0, .int p0, .int p1, .int p2] (fun U => U.heap.size = sz ∧ va_P (dC, dI) vwCl [(h0, .inr (8, [.ref co, .ref le, .int months, .int full, .int lean])), (co, .inl (kco, 325, .inl fco))] U.heap ∧ va_K (dC, dI) vwCl [(kco, .int)] U ∧ va_D (fun _ => True) [(h0, .inr (8, [.ref co, .ref le, .int months, .int full, .int lean])), (co, .inl (kco, 325, .inl fco))] ∧ nzA U)) (va_Qv (fun (u : Unit) => True) (fun _ t => ∃ (z1 : Nat → Int32), pb_sX8_charge dC dI (va_A [(h0, .inr (8, [.ref co, .ref le, .int months, .int full, .int lean])), (co, .inl (kco, 325, .inl fco))] sz) h0 co le months full lean kco fco p0 p1 p2 z1 t) (va_A [(h0, .inr (8, [.ref co, .ref le, .int months, .int full, .int lean])), (co, .inl (kco, 325, .inl fco))] sz)) 0 0 (va_A [(h0, .inr (8, [.ref co, .ref le, .int months, .int full, .int lean])), (co, .inl (kco, 325, .inl fco))] sz) := by
  refine Met.ofW (cc := cX8_charge) (maxL := 4) (ret := none) (by decide) rfl ?_
  intro p e s m args below meth c s₁ B hml hv
  obtain ⟨rfl, hsz, hP, hK, hD0, hz⟩ := hv
  have hx := B.exec
  have hb := B.bytes
  have hr := B.returns
  have hts := atoms_spec (ws := (.code yX8_charge cX8_charge 4 none :: wsGA)) B.pre
  have hown : s.vm.findClass RX8 = some m.cls := findClass_of_methodNamed B.named
  have hlocks := B.notSynchronized
  subst hsz
  have hD := hD0.self (sz := s.heap.size)
  generalize hAe : va_A [(h0, .inr (8, [.ref co, .ref le, .int months, .int full, .int lean])), (co, .inl (kco, 325, .inl fco))] s.heap.size = A at hD ⊢
  have hA : ∀ q : Nat, s.heap.size ≤ q → A q := fun q h => by rw [← hAe]; exact Or.inr h
  have hS : va_S A s.heap s.heap [] := va_S.rf
  have hl := lv_entry ([.ref h0, .int p0, .int p1, .int p2]) (n := 4) (Nat.le_of_ble_eq_true rfl)
  rw [lg_entry_eq]
  generalize (lg_sl ([.ref h0, .int p0, .int p1, .int p2]) ++ List.replicate (4 - (lg_sl ([.ref h0, .int p0, .int p1, .int p2])).length) Slot.unset).toArray = ls at hl ⊢
  have hl : lv_has ls 4 [(0, .ref h0), (1, .int p0), (2, .int p1), (3, .int p2)] := hl
  refine lv_aload_n hx hb (dk_at dkX8_charge 0 rfl) rfl (lv_at hl 0 rfl) ?_
  refine va_get (D := (dC, dI)) (ci := 8) (v := .ref co) (C := RX8) (T := TX8) (N := 5) hx hb hts (fun w h => List.mem_cons_of_mem _ (jnGA_X8 w h)) hown hK hP 0 rfl rfl 0 (by decide) (hts _ (List.mem_cons_of_mem _ mGA_117)) (fun _ h9 => h9) rfl (dk_at dkX8_charge 1 rfl) ?_
  refine lv_iload_n hx hb (dk_at dkX8_charge 2 rfl) rfl (lv_at hl 1 rfl) ?_
  refine lv_iload_n hx hb (dk_at dkX8_charge 3 rfl) rfl (lv_at hl 2 rfl) ?_
  have hPc := hP.sub (ws' := []) [] rfl
  have hKc := hK.sub (tys' := []) [] rfl
  refine va_calli (va_runSN (As := [.int p0, .int p1]) (rest := [.ref co]) ⟨hx, hb, hml, hown, hts⟩ (sX11_cell l dC dI p0 p1 gp0 gp1) (⟨va_cnB 2 hts (gz_gP mGA_585 goodGA) rfl rfl rfl (nzA_X8_24 hz) (hts _ (List.mem_cons_of_mem _ mGA_1)) (by decide +kernel) ⟨Nat.le_of_ble_eq_true rfl, Nat.le_of_ble_eq_true rfl⟩, (hts _ (List.mem_cons_of_mem _ mGA_584)), trivial⟩) ⟨bl_I (bl_a bl_P (bl_a bl_K bl_nz)), fun U hU hW => ⟨rfl, by rw [hU]; exact hPc, va_K.moved hW.alike hKc, nzA_warm hW hz⟩⟩ rfl rfl hl.1 rfl (lv_room (Nat.le_of_ble_eq_true rfl)) (dk_at dkX8_charge 4 rfl) ⟨Nat.zero_le _, Nat.zero_le _⟩) hS (fun q _ h => h.elim) (fun q h => h.elim) (fun r_9 u t H1 locs ht hvm hw hB hz1 hk1 hS => ?_)
  have hP := gz_keep hP hk1
  generalize H1 = H at hP hS ⊢
  have gr_9 : gi r_9 0 324 := hw
  refine lv_dup2_11 hx hb (dk_at dkX8_charge 5 rfl) rfl rfl ?_
  refine va_iald hx hb hK hP 1 0 rfl rfl (gi_in gr_9 (by decide)) (dk_at dkX8_charge 6 rfl) ?_
  refine lv_topi (fun x_10 ex_10 => ?_)
  refine lv_iload_n hx hb (dk_at dkX8_charge 7 rfl) rfl (lv_at hl 3 rfl) ?_
  refine lv_iadd hx hb (dk_at dkX8_charge 8 rfl) ?_
  refine lv_topi (fun x_11 ex_11 => ?_)
  refine va_iast hx hb hK hP hD hS 1 0 rfl rfl (gi_in gr_9 (by decide)) (dk_at dkX8_charge 9 rfl) (fun H locs hP hD hS => ?_)
  obtain ⟨hP, hD⟩ := gz_both (w := [(h0, .inr (8, [.ref co, .ref le, .int months, .int full, .int lean])), (co, .inl (kco, 325, .inl (upd fco (r_9 : Int32).toNatClampNeg x_11)))]) hP hD
  generalize upd fco (r_9 : Int32).toNatClampNeg x_11 = f_12 at hP hD
  exact W.vret hx hb hr (fun t ht hW => ⟨⟨(), rfl, trivial, f_12, by rw [ht]; exact hP, hD⟩, hS.F ht⟩) hS.2.2 (dk_at dkX8_charge 10 rfl)
noncomputable def lsX8_withFull : List (Nat × Instr × Nat) := [(0, .aload_n 0, 1), (1, .getfield 15, 3), (4, .iload_n 1, 1), (5, .iconst 1, 1), (6, .iadd, 1), (7, .iload_n 2, 1), (8, .iconst 1, 1), (9, .iadd, 1), (10, .iload_n 3, 1), (11, .aload_n 0, 1), (12, .getfield 38, 3), (15, .invokestatic 74, 3), (18, .invokestatic 71, 3), (21, .iaload, 1), (22, .ireturn, 1)]
theorem dkX8_withFull : dkAll cX8_withFull lsX8_withFull = true := by decide +kernel
set_option maxHeartbeats 4000000 in
set_option maxRecDepth 100000 in
theorem sX8_withFull (l : Launch) (dC : Nat → ClassId) (dI : Nat → Nat → Nat) (h0 : Nat) (le : Nat) (co : Nat) (months : Int32) (full : Int32) (lean : Int32) (kle : ClassId) (fle : Nat → Int32) (p0 : Int32) (p1 : Int32) (p2 : Int32) (gmonths : gi months 0 24) (gfull : gi full 0 5) (glean : gi lean 0 5) (gp0 : gi p0 0 23) (gp1 : gi p1 0 23) (gp2 : gi p2 0 10) : Met l yX8_withFull (.code yX8_withFull cX8_withFull 4 (some .int) :: wsGA) ({ frames := 2, cells := 0, slots := 0, locals := 43 }) (va_Pc [.ref h0, .int p0, .int p1, .int p2] (fun U => va_P (dC, dI) vwCl [(h0, .inr (8, [.ref co, .ref le, .int months, .int full, .int lean])), (le, .inl (kle, 3575, .inl fle))] U.heap ∧ va_K (dC, dI) vwCl [(kle, .int)] U ∧ nzA U)) (va_Qi (fun (r : Int32) (u : Unit) => gi r (-2147483648) 2147483647) (fun _ _ => True) (fun _ => False)) 0 0 (fun _ => False) := by
  refine Met.ofW (cc := cX8_withFull) (maxL := 4) (ret := (some .int)) (by decide) rfl ?_
  intro p e s m args below meth c s₁ B hml hv
  obtain ⟨rfl, hP, hK, hz⟩ := hv
  have hx := B.exec
  have hb := B.bytes
  have hr := B.returns
  have hts := atoms_spec (ws := (.code yX8_withFull cX8_withFull 4 (some .int) :: wsGA)) B.pre
  have hown : s.vm.findClass RX8 = some m.cls := findClass_of_methodNamed B.named
  have hlocks := B.notSynchronized
  have hS : va_S (fun _ => False) s.heap s.heap [] := va_S.rf
  have hl := lv_entry ([.ref h0, .int p0, .int p1, .int p2]) (n := 4) (Nat.le_of_ble_eq_true rfl)
  rw [lg_entry_eq]
  generalize (lg_sl ([.ref h0, .int p0, .int p1, .int p2]) ++ List.replicate (4 - (lg_sl ([.ref h0, .int p0, .int p1, .int p2])).length) Slot.unset).toArray = ls at hl ⊢
  have hl : lv_has ls 4 [(0, .ref h0), (1, .int p0), (2, .int p1), (3, .int p2)] := hl
  refine lv_aload_n hx hb (dk_at dkX8_withFull 0 rfl) rfl (lv_at hl 0 rfl) ?_
  refine va_get (D := (dC, dI)) (ci := 8) (v := .ref le) (C := RX8) (T := TX8) (N := 5) hx hb hts (fun w h => List.mem_cons_of_mem _ (jnGA_X8 w h)) hown hK hP 0 rfl rfl 1 (by decide) (hts _ (List.mem_cons_of_mem _ mGA_118)) (fun _ h9 => h9) rfl (dk_at dkX8_withFull 1 rfl) ?_
  refine lv_iload_n hx hb (dk_at dkX8_withFull 2 rfl) rfl (lv_at hl 1 rfl) ?_
  refine lv_iconst (v := 1) hx hb (dk_at dkX8_withFull 3 rfl) (by decide) ?_
  refine lv_iadd hx hb (dk_at dkX8_withFull 4 rfl) ?_
  refine lv_topi (fun x_6 ex_6 => ?_)
  have gx_6 : gi x_6 1 24 := gi_add ex_6 gp0 (gi_c 1 1 (by decide)) (by decide)
  refine lv_iload_n hx hb (dk_at dkX8_withFull 5 rfl) rfl (lv_at hl 2 rfl) ?_
  refine lv_iconst (v := 1) hx hb (dk_at dkX8_withFull 6 rfl) (by decide) ?_
  refine lv_iadd hx hb (dk_at dkX8_withFull 7 rfl) ?_
  refine lv_topi (fun x_7 ex_7 => ?_)
  have gx_7 : gi x_7 1 24 := gi_add ex_7 gp1 (gi_c 1 1 (by decide)) (by decide)
  refine lv_iload_n hx hb (dk_at dkX8_withFull 8 rfl) rfl (lv_at hl 3 rfl) ?_
  refine lv_aload_n hx hb (dk_at dkX8_withFull 9 rfl) rfl (lv_at hl 0 rfl) ?_
  refine va_get (D := (dC, dI)) (ci := 8) (v := .int full) (C := RX8) (T := TX8) (N := 5) hx hb hts (fun w h => List.mem_cons_of_mem _ (jnGA_X8 w h)) hown hK hP 0 rfl rfl 3 (by decide) (hts _ (List.mem_cons_of_mem _ mGA_785)) (fun _ h9 => h9) rfl (dk_at dkX8_withFull 10 rfl) ?_
  have hPc := hP.sub (ws' := []) [] rfl
  have hKc := hK.sub (tys' := []) [] rfl
  refine va_calli (va_runSN (As := [.int p2, .int full]) (rest := [.int x_7, .int x_6, .ref le]) ⟨hx, hb, hml, hown, hts⟩ (sX11_runWithFull l dC dI p2 full gp2 gfull) (⟨va_cnB 2 hts (gz_gP mGA_508 goodGA) rfl rfl rfl (nzA_X8_74 hz) (hts _ (List.mem_cons_of_mem _ mGA_1)) (by decide +kernel) ⟨Nat.le_of_ble_eq_true rfl, Nat.le_of_ble_eq_true rfl⟩, (hts _ (List.mem_cons_of_mem _ mGA_507)), trivial⟩) ⟨bl_I (bl_a bl_P (bl_a bl_K bl_nz)), fun U hU hW => ⟨rfl, by rw [hU]; exact hPc, va_K.moved hW.alike hKc, nzA_warm hW hz⟩⟩ rfl rfl hl.1 rfl (lv_room (Nat.le_of_ble_eq_true rfl)) (dk_at dkX8_withFull 11 rfl) ⟨Nat.zero_le _, Nat.zero_le _⟩) hS (fun q _ h => h.elim) (fun q h => h.elim) (fun r_8 u t H1 locs ht hvm hw hB hz1 hk1 hS => ?_)
  have hP := gz_keep hP hk1
  generalize H1 = H at hP hS ⊢
  have gr_8 : gi r_8 0 5 := hw
  have hPc := hP.sub (ws' := []) [] rfl
  have hKc := hK.sub (tys' := []) [] rfl
  refine va_calli (va_runSN (As := [.int x_6, .int x_7, .int r_8]) (rest := [.ref le]) ⟨hx, hb, hml, hown, hts⟩ (sX11_spot l dC dI x_6 x_7 r_8 (gi_w gx_6 (by decide)) (gi_w gx_7 (by decide)) (gi_w gr_8 (by decide))) (⟨va_cnB 3 hts (gz_gP mGA_582 goodGA) rfl rfl rfl (nzA_X8_71 hz) (hts _ (List.mem_cons_of_mem _ mGA_1)) (by decide +kernel) ⟨Nat.le_of_ble_eq_true rfl, Nat.le_of_ble_eq_true rfl⟩, (hts _ (List.mem_cons_of_mem _ mGA_581)), trivial⟩) ⟨bl_I (bl_a bl_P (bl_a bl_K bl_nz)), fun U hU hW => ⟨rfl, by rw [hU]; exact hPc, va_K.moved hW.alike hKc, nzA_warm hW hz⟩⟩ rfl rfl hl.1 rfl (lv_room (Nat.le_of_ble_eq_true rfl)) (dk_at dkX8_withFull 12 rfl) ⟨Nat.zero_le _, Nat.zero_le _⟩) hS (fun q _ h => h.elim) (fun q h => h.elim) (fun r_9 u t H1 locs ht hvm hw hB hz1 hk1 hS => ?_)
  have hP := gz_keep hP hk1
  generalize H1 = H at hP hS ⊢
  have gr_9 : gi r_9 0 3574 := hw
  refine va_iald hx hb hK hP 1 0 rfl rfl (gi_in gr_9 (by decide)) (dk_at dkX8_withFull 13 rfl) ?_
  refine lv_topi (fun x_10 ex_10 => ?_)
  exact W.iret (v := x_10) hx hb hr (fun t ht hW => ⟨⟨x_10, (), rfl, (gi_any x_10), trivial⟩, hS.F ht⟩) hS.2.2 (dk_at dkX8_withFull 14 rfl)
noncomputable def lsX8_withLean : List (Nat × Instr × Nat) := [(0, .aload_n 0, 1), (1, .getfield 15, 3), (4, .iload_n 1, 1), (5, .iconst 1, 1), (6, .iadd, 1), (7, .iload_n 2, 1), (8, .iload_n 3, 1), (9, .aload_n 0, 1), (10, .getfield 38, 3), (13, .aload_n 0, 1), (14, .getfield 42, 3), (17, .invokestatic 77, 3), (20, .invokestatic 71, 3), (23, .iaload, 1), (24, .ireturn, 1)]
theorem dkX8_withLean : dkAll cX8_withLean lsX8_withLean = true := by decide +kernel
set_option maxHeartbeats 4000000 in
set_option maxRecDepth 100000 in
theorem sX8_withLean (l : Launch) (dC : Nat → ClassId) (dI : Nat → Nat → Nat) (h0 : Nat) (le : Nat) (co : Nat) (months : Int32) (full : Int32) (lean : Int32) (kle : ClassId) (fle : Nat → Int32) (p0 : Int32) (p1 : Int32) (p2 : Int32) (gmonths : gi months 0 24) (gfull : gi full 0 5) (glean : gi lean 0 5) (gp0 : gi p0 0 23) (gp1 : gi p1 0 24) (gp2 : gi p2 0 10) : Met l yX8_withLean (.code yX8_withLean cX8_withLean 4 (some .int) :: wsGA) ({ frames := 2, cells := 0, slots := 0, locals := 43 }) (va_Pc [.ref h0, .int p0, .int p1, .int p2] (fun U => va_P (dC, dI) vwCl [(h0, .inr (8, [.ref co, .ref le, .int months, .int full, .int lean])), (le, .inl (kle, 3575, .inl fle))] U.heap ∧ va_K (dC, dI) vwCl [(kle, .int)] U ∧ nzA U)) (va_Qi (fun (r : Int32) (u : Unit) => gi r (-2147483648) 2147483647) (fun _ _ => True) (fun _ => False)) 0 0 (fun _ => False) := by
  refine Met.ofW (cc := cX8_withLean) (maxL := 4) (ret := (some .int)) (by decide) rfl ?_
  intro p e s m args below meth c s₁ B hml hv
  obtain ⟨rfl, hP, hK, hz⟩ := hv
  have hx := B.exec
  have hb := B.bytes
  have hr := B.returns
  have hts := atoms_spec (ws := (.code yX8_withLean cX8_withLean 4 (some .int) :: wsGA)) B.pre
  have hown : s.vm.findClass RX8 = some m.cls := findClass_of_methodNamed B.named
  have hlocks := B.notSynchronized
  have hS : va_S (fun _ => False) s.heap s.heap [] := va_S.rf
  have hl := lv_entry ([.ref h0, .int p0, .int p1, .int p2]) (n := 4) (Nat.le_of_ble_eq_true rfl)
  rw [lg_entry_eq]
  generalize (lg_sl ([.ref h0, .int p0, .int p1, .int p2]) ++ List.replicate (4 - (lg_sl ([.ref h0, .int p0, .int p1, .int p2])).length) Slot.unset).toArray = ls at hl ⊢
  have hl : lv_has ls 4 [(0, .ref h0), (1, .int p0), (2, .int p1), (3, .int p2)] := hl
  refine lv_aload_n hx hb (dk_at dkX8_withLean 0 rfl) rfl (lv_at hl 0 rfl) ?_
  refine va_get (D := (dC, dI)) (ci := 8) (v := .ref le) (C := RX8) (T := TX8) (N := 5) hx hb hts (fun w h => List.mem_cons_of_mem _ (jnGA_X8 w h)) hown hK hP 0 rfl rfl 1 (by decide) (hts _ (List.mem_cons_of_mem _ mGA_118)) (fun _ h9 => h9) rfl (dk_at dkX8_withLean 1 rfl) ?_
  refine lv_iload_n hx hb (dk_at dkX8_withLean 2 rfl) rfl (lv_at hl 1 rfl) ?_
  refine lv_iconst (v := 1) hx hb (dk_at dkX8_withLean 3 rfl) (by decide) ?_
  refine lv_iadd hx hb (dk_at dkX8_withLean 4 rfl) ?_
  refine lv_topi (fun x_5 ex_5 => ?_)
  have gx_5 : gi x_5 1 24 := gi_add ex_5 gp0 (gi_c 1 1 (by decide)) (by decide)
  refine lv_iload_n hx hb (dk_at dkX8_withLean 5 rfl) rfl (lv_at hl 2 rfl) ?_
  refine lv_iload_n hx hb (dk_at dkX8_withLean 6 rfl) rfl (lv_at hl 3 rfl) ?_
  refine lv_aload_n hx hb (dk_at dkX8_withLean 7 rfl) rfl (lv_at hl 0 rfl) ?_
  refine va_get (D := (dC, dI)) (ci := 8) (v := .int full) (C := RX8) (T := TX8) (N := 5) hx hb hts (fun w h => List.mem_cons_of_mem _ (jnGA_X8 w h)) hown hK hP 0 rfl rfl 3 (by decide) (hts _ (List.mem_cons_of_mem _ mGA_785)) (fun _ h9 => h9) rfl (dk_at dkX8_withLean 8 rfl) ?_
  refine lv_aload_n hx hb (dk_at dkX8_withLean 9 rfl) rfl (lv_at hl 0 rfl) ?_
  refine va_get (D := (dC, dI)) (ci := 8) (v := .int lean) (C := RX8) (T := TX8) (N := 5) hx hb hts (fun w h => List.mem_cons_of_mem _ (jnGA_X8 w h)) hown hK hP 0 rfl rfl 4 (by decide) (hts _ (List.mem_cons_of_mem _ mGA_787)) (fun _ h9 => h9) rfl (dk_at dkX8_withLean 10 rfl) ?_
  have hPc := hP.sub (ws' := []) [] rfl
  have hKc := hK.sub (tys' := []) [] rfl
  refine va_calli (va_runSN (As := [.int p2, .int full, .int lean]) (rest := [.int p1, .int x_5, .ref le]) ⟨hx, hb, hml, hown, hts⟩ (sX11_runWithLean l dC dI p2 full lean gp2 gfull glean) (⟨va_cnB 3 hts (gz_gP mGA_510 goodGA) rfl rfl rfl (nzA_X8_77 hz) (hts _ (List.mem_cons_of_mem _ mGA_1)) (by decide +kernel) ⟨Nat.le_of_ble_eq_true rfl, Nat.le_of_ble_eq_true rfl⟩, (hts _ (List.mem_cons_of_mem _ mGA_509)), trivial⟩) ⟨bl_I (bl_a bl_P (bl_a bl_K bl_nz)), fun U hU hW => ⟨rfl, by rw [hU]; exact hPc, va_K.moved hW.alike hKc, nzA_warm hW hz⟩⟩ rfl rfl hl.1 rfl (lv_room (Nat.le_of_ble_eq_true rfl)) (dk_at dkX8_withLean 11 rfl) ⟨Nat.zero_le _, Nat.zero_le _⟩) hS (fun q _ h => h.elim) (fun q h => h.elim) (fun r_6 u t H1 locs ht hvm hw hB hz1 hk1 hS => ?_)
  have hP := gz_keep hP hk1
  generalize H1 = H at hP hS ⊢
  have gr_6 : gi r_6 0 10 := hw
  have hPc := hP.sub (ws' := []) [] rfl
  have hKc := hK.sub (tys' := []) [] rfl
  refine va_calli (va_runSN (As := [.int x_5, .int p1, .int r_6]) (rest := [.ref le]) ⟨hx, hb, hml, hown, hts⟩ (sX11_spot l dC dI x_5 p1 r_6 (gi_w gx_5 (by decide)) gp1 gr_6) (⟨va_cnB 3 hts (gz_gP mGA_582 goodGA) rfl rfl rfl (nzA_X8_71 hz) (hts _ (List.mem_cons_of_mem _ mGA_1)) (by decide +kernel) ⟨Nat.le_of_ble_eq_true rfl, Nat.le_of_ble_eq_true rfl⟩, (hts _ (List.mem_cons_of_mem _ mGA_581)), trivial⟩) ⟨bl_I (bl_a bl_P (bl_a bl_K bl_nz)), fun U hU hW => ⟨rfl, by rw [hU]; exact hPc, va_K.moved hW.alike hKc, nzA_warm hW hz⟩⟩ rfl rfl hl.1 rfl (lv_room (Nat.le_of_ble_eq_true rfl)) (dk_at dkX8_withLean 12 rfl) ⟨Nat.zero_le _, Nat.zero_le _⟩) hS (fun q _ h => h.elim) (fun q h => h.elim) (fun r_7 u t H1 locs ht hvm hw hB hz1 hk1 hS => ?_)
  have hP := gz_keep hP hk1
  generalize H1 = H at hP hS ⊢
  have gr_7 : gi r_7 0 3574 := hw
  refine va_iald hx hb hK hP 1 0 rfl rfl (gi_in gr_7 (by decide)) (dk_at dkX8_withLean 13 rfl) ?_
  refine lv_topi (fun x_8 ex_8 => ?_)
  exact W.iret (v := x_8) hx hb hr (fun t ht hW => ⟨⟨x_8, (), rfl, (gi_any x_8), trivial⟩, hS.F ht⟩) hS.2.2 (dk_at dkX8_withLean 14 rfl)
noncomputable def lsX8_least : List (Nat × Instr × Nat) := [(0, .aload_n 0, 1), (1, .getfield 15, 3), (4, .iconst 0, 1), (5, .iaload, 1), (6, .ireturn, 1)]
theorem dkX8_least : dkAll cX8_least lsX8_least = true := by decide +kernel
set_option maxHeartbeats 4000000 in
set_option maxRecDepth 100000 in
theorem sX8_least (l : Launch) (dC : Nat → ClassId) (dI : Nat → Nat → Nat) (h0 : Nat) (le : Nat) (co : Nat) (months : Int32) (full : Int32) (lean : Int32) (kle : ClassId) (fle : Nat → Int32) (gmonths : gi months 0 24) (gfull : gi full 0 5) (glean : gi lean 0 5) : Met l yX8_least (.code yX8_least cX8_least 1 (some .int) :: wsGA) ({ frames := 0, cells := 0, slots := 0, locals := 0 }) (va_Pc [.ref h0] (fun U => va_P (dC, dI) vwCl [(h0, .inr (8, [.ref co, .ref le, .int months, .int full, .int lean])), (le, .inl (kle, 3575, .inl fle))] U.heap ∧ va_K (dC, dI) vwCl [(kle, .int)] U ∧ nzA U)) (va_Qi (fun (r : Int32) (u : Unit) => gi r (-2147483648) 2147483647) (fun _ _ => True) (fun _ => False)) 0 0 (fun _ => False) := by
  refine Met.ofW (cc := cX8_least) (maxL := 1) (ret := (some .int)) (by decide) rfl ?_
  intro p e s m args below meth c s₁ B hml hv
  obtain ⟨rfl, hP, hK, hz⟩ := hv
  have hx := B.exec
  have hb := B.bytes
  have hr := B.returns
  have hts := atoms_spec (ws := (.code yX8_least cX8_least 1 (some .int) :: wsGA)) B.pre
  have hown : s.vm.findClass RX8 = some m.cls := findClass_of_methodNamed B.named
  have hlocks := B.notSynchronized
  have hS : va_S (fun _ => False) s.heap s.heap [] := va_S.rf
  have hl := lv_entry ([.ref h0]) (n := 1) (Nat.le_of_ble_eq_true rfl)
  rw [lg_entry_eq]
  generalize (lg_sl ([.ref h0]) ++ List.replicate (1 - (lg_sl ([.ref h0])).length) Slot.unset).toArray = ls at hl ⊢
  have hl : lv_has ls 1 [(0, .ref h0)] := hl
  refine lv_aload_n hx hb (dk_at dkX8_least 0 rfl) rfl (lv_at hl 0 rfl) ?_
  refine va_get (D := (dC, dI)) (ci := 8) (v := .ref le) (C := RX8) (T := TX8) (N := 5) hx hb hts (fun w h => List.mem_cons_of_mem _ (jnGA_X8 w h)) hown hK hP 0 rfl rfl 1 (by decide) (hts _ (List.mem_cons_of_mem _ mGA_118)) (fun _ h9 => h9) rfl (dk_at dkX8_least 1 rfl) ?_
  refine lv_iconst (v := 0) hx hb (dk_at dkX8_least 2 rfl) (by decide) ?_
  refine va_iald hx hb hK hP 1 0 rfl rfl (gi_in (gi_c 0 0 (by decide)) (by decide)) (dk_at dkX8_least 3 rfl) ?_
  refine lv_topi (fun x_2 ex_2 => ?_)
  exact W.iret (v := x_2) hx hb hr (fun t ht hW => ⟨⟨x_2, (), rfl, (gi_any x_2), trivial⟩, hS.F ht⟩) hS.2.2 (dk_at dkX8_least 4 rfl)
noncomputable def lsX8_fillCell : List (Nat × Instr × Nat) := [(0, .iload_n 1, 1), (1, .invokestatic 52, 3), (4, .istore_n 3, 1), (5, .iload_n 3, 1), (6, .iload_n 1, 1), (7, .aload_n 0, 1), (8, .getfield 38, 3), (11, .aload_n 0, 1), (12, .getfield 42, 3), (15, .invokestatic 56, 3), (18, .if_icmp .gt 71, 3), (21, .iload_n 1, 1), (22, .aload_n 0, 1), (23, .getfield 34, 3), (26, .if_icmp .ne 7, 3), (29, .iconst 0, 1), (30, .goto 20, 3), (33, .aload_n 0, 1), (34, .iload_n 1, 1), (35, .iload_n 2, 1), (36, .iload_n 3, 1), (37, .invokevirtual 60, 3), (40, .aload_n 0, 1), (41, .iload_n 1, 1), (42, .iload_n 2, 1), (43, .iload_n 3, 1), (44, .invokevirtual 63, 3), (47, .invokestatic 66, 3), (50, .istore 4, 2), (52, .iload 4, 2), (54, .ldc 43, 2), (56, .if_icmp .ge 27, 3), (59, .aload_n 0, 1), (60, .getfield 15, 3), (63, .iload_n 1, 1), (64, .iload_n 2, 1), (65, .iload_n 3, 1), (66, .invokestatic 71, 3), (69, .iload 4, 2), (71, .aload_n 0, 1), (72, .getfield 9, 3), (75, .iload_n 1, 1), (76, .iload_n 2, 1), (77, .invokestatic 24, 3), (80, .iaload, 1), (81, .iadd, 1), (82, .iastore, 1), (83, .iinc 3 1, 3), (86, .goto (-81), 3), (89, .return_, 1)]
theorem dkX8_fillCell : dkAll cX8_fillCell lsX8_fillCell = true := by decide +kernel
set_option maxHeartbeats 4000000 in
set_option maxRecDepth 100000 in
theorem lp_sX8_fillCell {p : Program} {l : Launch} {e : Env} {R : Room} {s : State} {m : MethodId} {args : Array Value} {below : List Frame} {meth : Method} {c : Code} {Q : State → Prop} {A : Nat → Prop} {cells slots : Nat} {dC : Nat → ClassId} {dI : Nat → Nat → Nat} (h0 : Nat) (co : Nat) (le : Nat) (months : Int32) (full : Int32) (lean : Int32) (kco : ClassId) (fco : Nat → Int32) (kle : ClassId) (fle : Nat → Int32) (p0 : Int32) (p1 : Int32) (gmonths : gi months 0 24) (gfull : gi full 0 5) (glean : gi lean 0 5) (gp0 : gi p0 0 24) (gp1 : gi p1 0 24) (hle_gp0_gmonths : p0.toInt ≤ months.toInt) (hle_gp1_gp0 : p1.toInt ≤ p0.toInt) (hx : p.tables.exec = Jvm.exec) (hb : c.code = cX8_fillCell) (hml : c.maxLocals = 5) (hown : s.vm.findClass RX8 = some m.cls) (hts : ∀ w ∈ ((.code yX8_fillCell cX8_fillCell 5 none :: wsGA) : List Cond), w.before args s = true) (hK : va_K (dC, dI) vwCl [(kco, .int), (kle, .int)] s) (hz : nzA s) (hA : ∀ q : Nat, s.heap.size ≤ q → A q) (hRf : 3 ≤ R.frames) (hRl : 66 ≤ R.locals) (hRc : cells ≤ R.cells) (hRs : slots ≤ R.slots) (kr89 : ∀ (z2 : Nat → Int32) (H : Heap) (locs : List Loc) (ls : Array Slot), va_P (dC, dI) vwCl [(h0, .inr (8, [.ref co, .ref le, .int months, .int full, .int lean])), (co, .inl (kco, 325, .inl fco)), (le, .inl (kle, 3575, .inl z2))] H → va_D A [(h0, .inr (8, [.ref co, .ref le, .int months, .int full, .int lean])), (co, .inl (kco, 325, .inl fco)), (le, .inl (kle, 3575, .inl z2))] → va_S A s.heap H locs → lv_has ls 5 [] → W p l e R s m args below meth c H locs cells slots Q (F0 m 89 ls [])) : ∀ z : Nat, (∀ (v3 : Int32) (z2 : Nat → Int32) (H : Heap) (locs : List Loc) (ls : Array Slot), gi v3 0 11 → 23 + (-2) * v3.toInt < (z : Int) → va_P (dC, dI) vwCl [(h0, .inr (8, [.ref co, .ref le, .int months, .int full, .int lean])), (co, .inl (kco, 325, .inl fco)), (le, .inl (kle, 3575, .inl z2))] H → va_D A [(h0, .inr (8, [.ref co, .ref le, .int months, .int full, .int lean])), (co, .inl (kco, 325, .inl fco)), (le, .inl (kle, 3575, .inl z2))] → va_S A s.heap H locs → lv_has ls 5 [(0, .ref h0), (1, .int p0), (2, .int p1), (3, .int v3)] → W p l e R s m args below meth c H locs cells slots Q (F0 m 5 ls [])) := by
  intro z
  induction z with
  | zero =>
    intro v3 z2 H locs ls gv3 hmu hP hD hS hl
    exact absurd hmu (by have hv31 := gv3.1; have hv32 := gv3.2; omega)
  | succ z ih =>
      intro v3 z2 H locs ls gv3 hmu hP hD hS hl
      refine lv_iload_n hx hb (dk_at dkX8_fillCell 3 rfl) rfl (lv_at hl 3 rfl) ?_
      refine lv_iload_n hx hb (dk_at dkX8_fillCell 4 rfl) rfl (lv_at hl 1 rfl) ?_
      refine lv_aload_n hx hb (dk_at dkX8_fillCell 5 rfl) rfl (lv_at hl 0 rfl) ?_
      refine va_get (D := (dC, dI)) (ci := 8) (v := .int full) (C := RX8) (T := TX8) (N := 5) hx hb hts (fun w h => List.mem_cons_of_mem _ (jnGA_X8 w h)) hown hK hP 0 rfl rfl 3 (by decide) (hts _ (List.mem_cons_of_mem _ mGA_785)) (fun _ h9 => h9) rfl (dk_at dkX8_fillCell 6 rfl) ?_
      refine lv_aload_n hx hb (dk_at dkX8_fillCell 7 rfl) rfl (lv_at hl 0 rfl) ?_
      refine va_get (D := (dC, dI)) (ci := 8) (v := .int lean) (C := RX8) (T := TX8) (N := 5) hx hb hts (fun w h => List.mem_cons_of_mem _ (jnGA_X8 w h)) hown hK hP 0 rfl rfl 4 (by decide) (hts _ (List.mem_cons_of_mem _ mGA_787)) (fun _ h9 => h9) rfl (dk_at dkX8_fillCell 8 rfl) ?_
      have hPc := hP.sub (ws' := []) [] rfl
      have hKc := hK.sub (tys' := []) [] rfl
      refine va_calli (va_runSN (As := [.int p0, .int full, .int lean]) (rest := [.int v3]) ⟨hx, hb, hml, hown, hts⟩ (sX11_lastRun l dC dI p0 full lean gp0 gfull glean) (⟨va_cnB 3 hts (gz_gP mGA_506 goodGA) rfl rfl rfl (nzA_X8_56 hz) (hts _ (List.mem_cons_of_mem _ mGA_1)) (by decide +kernel) ⟨Nat.le_trans (Nat.le_of_ble_eq_true rfl) hRf, Nat.le_trans (Nat.le_of_ble_eq_true rfl) hRl⟩, (hts _ (List.mem_cons_of_mem _ mGA_505)), trivial⟩) ⟨bl_I (bl_a bl_P (bl_a bl_K bl_nz)), fun U hU hW => ⟨rfl, by rw [hU]; exact hPc, va_K.moved hW.alike hKc, nzA_warm hW hz⟩⟩ rfl rfl hl.1 rfl (lv_room (Nat.le_of_ble_eq_true rfl)) (dk_at dkX8_fillCell 9 rfl) ⟨hRc, hRs⟩) hS (fun q _ h => h.elim) (fun q h => h.elim) (fun r_281 u t H1 locs ht hvm hw hB hz1 hk1 hS => ?_)
      have hP := gz_keep hP hk1
      generalize H1 = H at hP hS ⊢
      have gr_281 : gi r_281 0 10 := hw
      refine lv_icmp_gt (tgt := 89) hx hb (dk_at dkX8_fillCell 10 rfl) (by decide) (fun c_282 => ?_) (fun c_282 => ?_)
      · have g_283 : gi v3 1 11 := gi_lt_r c_282 gr_281 gv3 (by decide)
        exact kr89 z2 _ _ _ hP hD hS (lv_sub hl [] rfl)
      · have g_284 : gi v3 0 10 := gi_le_l (Int32.not_lt.mp c_282) gv3 gr_281
        refine lv_iload_n hx hb (dk_at dkX8_fillCell 11 rfl) rfl (lv_at hl 1 rfl) ?_
        refine lv_aload_n hx hb (dk_at dkX8_fillCell 12 rfl) rfl (lv_at hl 0 rfl) ?_
        refine va_get (D := (dC, dI)) (ci := 8) (v := .int months) (C := RX8) (T := TX8) (N := 5) hx hb hts (fun w h => List.mem_cons_of_mem _ (jnGA_X8 w h)) hown hK hP 0 rfl rfl 2 (by decide) (hts _ (List.mem_cons_of_mem _ mGA_783)) (fun _ h9 => h9) rfl (dk_at dkX8_fillCell 13 rfl) ?_
        refine lv_icmp_ne (tgt := 33) hx hb (dk_at dkX8_fillCell 14 rfl) (by decide) (fun c_285 => ?_) (fun c_285 => ?_)
        · have g_286 : gi p0 0 23 := gi_nele hle_gp0_gmonths c_285 gp0 gmonths (by decide)
          have g_287 : gi p1 0 23 := gi_rel hle_gp1_gp0 gp1 g_286
          refine lv_aload_n hx hb (dk_at dkX8_fillCell 17 rfl) rfl (lv_at hl 0 rfl) ?_
          refine lv_iload_n hx hb (dk_at dkX8_fillCell 18 rfl) rfl (lv_at hl 1 rfl) ?_
          refine lv_iload_n hx hb (dk_at dkX8_fillCell 19 rfl) rfl (lv_at hl 2 rfl) ?_
          refine lv_iload_n hx hb (dk_at dkX8_fillCell 20 rfl) rfl (lv_at hl 3 rfl) ?_
          have hPc := hP.sub (ws' := [(h0, .inr (8, [.ref co, .ref le, .int months, .int full, .int lean])), (le, .inl (kle, 3575, .inl z2))]) [0, 2] rfl
          have hKc := hK.sub (tys' := [(kle, .int)]) [1] rfl
          refine va_calli (va_runV (As := [.int p0, .int p1, .int v3]) (rest := []) ⟨hx, hb, hml, hown, hts⟩ (sX8_withFull l dC dI h0 le co months full lean kle z2 p0 p1 v3 gmonths gfull glean g_286 g_287 g_284) (cwV 3 hts (gz_gV mGA_795 mGA_796 mGA_797 mGA_31 mGA_798 goodGA) rfl rfl rfl (by decide +kernel) ⟨Nat.le_trans (Nat.le_of_ble_eq_true rfl) hRf, Nat.le_trans (Nat.le_of_ble_eq_true rfl) hRl⟩) ⟨bl_I (bl_a bl_P (bl_a bl_K bl_nz)), va_recv hKc hPc (ci := 8) (q0 := 0) rfl rfl, fun U hU hW => ⟨rfl, by rw [hU]; exact hPc, va_K.moved hW.alike hKc, nzA_warm hW hz⟩⟩ rfl rfl hl.1 rfl (lv_room (Nat.le_of_ble_eq_true rfl)) (dk_at dkX8_fillCell 21 rfl) ⟨hRc, hRs⟩) hS (fun q _ h => h.elim) (fun q h => h.elim) (fun r_288 u t H1 locs ht hvm hw hB hz1 hk1 hS => ?_)
          have hP := gz_keep hP hk1
          generalize H1 = H at hP hS ⊢
          refine lv_aload_n hx hb (dk_at dkX8_fillCell 22 rfl) rfl (lv_at hl 0 rfl) ?_
          refine lv_iload_n hx hb (dk_at dkX8_fillCell 23 rfl) rfl (lv_at hl 1 rfl) ?_
          refine lv_iload_n hx hb (dk_at dkX8_fillCell 24 rfl) rfl (lv_at hl 2 rfl) ?_
          refine lv_iload_n hx hb (dk_at dkX8_fillCell 25 rfl) rfl (lv_at hl 3 rfl) ?_
          have hPc := hP.sub (ws' := [(h0, .inr (8, [.ref co, .ref le, .int months, .int full, .int lean])), (le, .inl (kle, 3575, .inl z2))]) [0, 2] rfl
          have hKc := hK.sub (tys' := [(kle, .int)]) [1] rfl
          refine va_calli (va_runV (As := [.int p0, .int p1, .int v3]) (rest := [.int r_288]) ⟨hx, hb, hml, hown, hts⟩ (sX8_withLean l dC dI h0 le co months full lean kle z2 p0 p1 v3 gmonths gfull glean g_286 (gi_w g_287 (by decide)) g_284) (cwV 3 hts (gz_gV mGA_799 mGA_800 mGA_801 mGA_31 mGA_802 goodGA) rfl rfl rfl (by decide +kernel) ⟨Nat.le_trans (Nat.le_of_ble_eq_true rfl) hRf, Nat.le_trans (Nat.le_of_ble_eq_true rfl) hRl⟩) ⟨bl_I (bl_a bl_P (bl_a bl_K bl_nz)), va_recv hKc hPc (ci := 8) (q0 := 0) rfl rfl, fun U hU hW => ⟨rfl, by rw [hU]; exact hPc, va_K.moved hW.alike hKc, nzA_warm hW hz⟩⟩ rfl rfl hl.1 rfl (lv_room (Nat.le_of_ble_eq_true rfl)) (dk_at dkX8_fillCell 26 rfl) ⟨hRc, hRs⟩) hS (fun q _ h => h.elim) (fun q h => h.elim) (fun r_289 u t H1 locs ht hvm hw hB hz1 hk1 hS => ?_)
          have hP := gz_keep hP hk1
          generalize H1 = H at hP hS ⊢
          refine va_mmin (own := RX8) hx hb (by rw [hml]; exact hl.1.symm) hown (hts _ (List.mem_cons_of_mem _ mGA_794)) (hts _ (List.mem_cons_of_mem _ mGA_268)) (hts _ (List.mem_cons_of_mem _ mGA_269)) (hts _ (List.mem_cons_of_mem _ mGA_270)) (Nat.le_trans (Nat.le_of_ble_eq_true rfl) hRf) (Nat.le_trans (Nat.le_of_ble_eq_true rfl) hRl) hRc hRs (dk_at dkX8_fillCell 27 rfl) ?_
          refine lv_topi (fun x_290 ex_290 => ?_)
          refine lv_istore (lv' := [(4, .int x_290), (0, .ref h0), (1, .int p0), (2, .int p1), (3, .int v3)]) hx hb (dk_at dkX8_fillCell 28 rfl) hl (by decide) rfl (fun ls hl => ?_)
          refine lv_iload hx hb (dk_at dkX8_fillCell 29 rfl) (lv_at hl 0 rfl) ?_
          refine lv_ldc (own := RX8) (v := 1000000) hx hb hown (hts _ (List.mem_cons_of_mem _ mGA_788)) (dk_at dkX8_fillCell 30 rfl) ?_
          refine lv_icmp_ge (tgt := 83) hx hb (dk_at dkX8_fillCell 31 rfl) (by decide) (fun c_291 => ?_) (fun c_291 => ?_)
          · have g_292 : gi x_290 1000000 2147483647 := gi_le_r c_291 (gi_c 1000000 1000000 (by decide)) (gi_any x_290)
            obtain ⟨x_293, ex_293⟩ : ∃ y : Int32, y = v3 + 1 := ⟨_, rfl⟩
            have gx_293 : gi x_293 1 11 := gi_add ex_293 g_284 (gi_c 1 1 (by decide)) (by decide)
            refine lv_iinc (v := x_293) (lv' := [(3, .int x_293), (4, .int x_290), (0, .ref h0), (1, .int p0), (2, .int p1)]) hx hb (dk_at dkX8_fillCell 47 rfl) hl (k := 4) rfl (by rw [ex_293]; rfl) (by decide) rfl (fun ls hl => ?_)
            refine lv_goto (tgt := 5) hx hb (dk_at dkX8_fillCell 48 rfl) (by decide) ?_
            exact ih x_293 z2 _ _ _ (gi_w gx_293 (by decide)) (by have av3 := gv3.1; have bv3 := gv3.2; have qgx_293 := gx_293.1; have rgx_293 := gx_293.2; have igx_293 : x_293.toInt = v3.toInt + 1 := (by have hc1 : (1 : Int32).toInt = 1 := (by decide); have h9 := gi_addI ex_293 (by have h1 := g_284.1; have h2 := (gi_c 1 1 (by decide)).1; have h3 := g_284.2; have h4 := (gi_c 1 1 (by decide)).2; omega) (by have h1 := g_284.1; have h2 := (gi_c 1 1 (by decide)).1; have h3 := g_284.2; have h4 := (gi_c 1 1 (by decide)).2; omega); rw [hc1] at h9; exact h9); have qgv3 := g_284.1; have rgv3 := g_284.2; omega) hP hD hS (lv_sub hl [2, 3, 4, 0] rfl)
          · have g_294 : gi x_290 (-2147483648) 999999 := gi_lt_l (Int32.not_le.mp c_291) (gi_any x_290) (gi_c 1000000 1000000 (by decide)) (by decide)
            refine lv_aload_n hx hb (dk_at dkX8_fillCell 32 rfl) rfl (lv_at hl 1 rfl) ?_
            refine va_get (D := (dC, dI)) (ci := 8) (v := .ref le) (C := RX8) (T := TX8) (N := 5) hx hb hts (fun w h => List.mem_cons_of_mem _ (jnGA_X8 w h)) hown hK hP 0 rfl rfl 1 (by decide) (hts _ (List.mem_cons_of_mem _ mGA_118)) (fun _ h9 => h9) rfl (dk_at dkX8_fillCell 33 rfl) ?_
            refine lv_iload_n hx hb (dk_at dkX8_fillCell 34 rfl) rfl (lv_at hl 2 rfl) ?_
            refine lv_iload_n hx hb (dk_at dkX8_fillCell 35 rfl) rfl (lv_at hl 3 rfl) ?_
            refine lv_iload_n hx hb (dk_at dkX8_fillCell 36 rfl) rfl (lv_at hl 4 rfl) ?_
            have hPc := hP.sub (ws' := []) [] rfl
            have hKc := hK.sub (tys' := []) [] rfl
            refine va_calli (va_runSN (As := [.int p0, .int p1, .int v3]) (rest := [.ref le]) ⟨hx, hb, hml, hown, hts⟩ (sX11_spot l dC dI p0 p1 v3 (gi_w g_286 (by decide)) (gi_w g_287 (by decide)) g_284) (⟨va_cnB 3 hts (gz_gP mGA_582 goodGA) rfl rfl rfl (nzA_X8_71 hz) (hts _ (List.mem_cons_of_mem _ mGA_1)) (by decide +kernel) ⟨Nat.le_trans (Nat.le_of_ble_eq_true rfl) hRf, Nat.le_trans (Nat.le_of_ble_eq_true rfl) hRl⟩, (hts _ (List.mem_cons_of_mem _ mGA_581)), trivial⟩) ⟨bl_I (bl_a bl_P (bl_a bl_K bl_nz)), fun U hU hW => ⟨rfl, by rw [hU]; exact hPc, va_K.moved hW.alike hKc, nzA_warm hW hz⟩⟩ rfl rfl hl.1 rfl (lv_room (Nat.le_of_ble_eq_true rfl)) (dk_at dkX8_fillCell 37 rfl) ⟨hRc, hRs⟩) hS (fun q _ h => h.elim) (fun q h => h.elim) (fun r_295 u t H1 locs ht hvm hw hB hz1 hk1 hS => ?_)
            have hP := gz_keep hP hk1
            generalize H1 = H at hP hS ⊢
            have gr_295 : gi r_295 0 3574 := hw
            refine lv_iload hx hb (dk_at dkX8_fillCell 38 rfl) (lv_at hl 0 rfl) ?_
            refine lv_aload_n hx hb (dk_at dkX8_fillCell 39 rfl) rfl (lv_at hl 1 rfl) ?_
            refine va_get (D := (dC, dI)) (ci := 8) (v := .ref co) (C := RX8) (T := TX8) (N := 5) hx hb hts (fun w h => List.mem_cons_of_mem _ (jnGA_X8 w h)) hown hK hP 0 rfl rfl 0 (by decide) (hts _ (List.mem_cons_of_mem _ mGA_117)) (fun _ h9 => h9) rfl (dk_at dkX8_fillCell 40 rfl) ?_
            refine lv_iload_n hx hb (dk_at dkX8_fillCell 41 rfl) rfl (lv_at hl 2 rfl) ?_
            refine lv_iload_n hx hb (dk_at dkX8_fillCell 42 rfl) rfl (lv_at hl 3 rfl) ?_
            have hPc := hP.sub (ws' := []) [] rfl
            have hKc := hK.sub (tys' := []) [] rfl
            refine va_calli (va_runSN (As := [.int p0, .int p1]) (rest := [.ref co, .int x_290, .int r_295, .ref le]) ⟨hx, hb, hml, hown, hts⟩ (sX11_cell l dC dI p0 p1 (gi_w g_286 (by decide)) (gi_w g_287 (by decide))) (⟨va_cnB 2 hts (gz_gP mGA_585 goodGA) rfl rfl rfl (nzA_X8_24 hz) (hts _ (List.mem_cons_of_mem _ mGA_1)) (by decide +kernel) ⟨Nat.le_trans (Nat.le_of_ble_eq_true rfl) hRf, Nat.le_trans (Nat.le_of_ble_eq_true rfl) hRl⟩, (hts _ (List.mem_cons_of_mem _ mGA_584)), trivial⟩) ⟨bl_I (bl_a bl_P (bl_a bl_K bl_nz)), fun U hU hW => ⟨rfl, by rw [hU]; exact hPc, va_K.moved hW.alike hKc, nzA_warm hW hz⟩⟩ rfl rfl hl.1 rfl (lv_room (Nat.le_of_ble_eq_true rfl)) (dk_at dkX8_fillCell 43 rfl) ⟨hRc, hRs⟩) hS (fun q _ h => h.elim) (fun q h => h.elim) (fun r_296 u t H1 locs ht hvm hw hB hz1 hk1 hS => ?_)
            have hP := gz_keep hP hk1
            generalize H1 = H at hP hS ⊢
            have gr_296 : gi r_296 0 324 := hw
            refine va_iald hx hb hK hP 1 0 rfl rfl (gi_in gr_296 (by decide)) (dk_at dkX8_fillCell 44 rfl) ?_
            refine lv_topi (fun x_297 ex_297 => ?_)
            refine lv_iadd hx hb (dk_at dkX8_fillCell 45 rfl) ?_
            refine lv_topi (fun x_298 ex_298 => ?_)
            refine va_iast hx hb hK hP hD hS 2 1 rfl rfl (gi_in gr_295 (by decide)) (dk_at dkX8_fillCell 46 rfl) (fun H locs hP hD hS => ?_)
            obtain ⟨hP, hD⟩ := gz_both (w := [(h0, .inr (8, [.ref co, .ref le, .int months, .int full, .int lean])), (co, .inl (kco, 325, .inl fco)), (le, .inl (kle, 3575, .inl (upd z2 (r_295 : Int32).toNatClampNeg x_298)))]) hP hD
            generalize upd z2 (r_295 : Int32).toNatClampNeg x_298 = f_299 at hP hD
            obtain ⟨x_300, ex_300⟩ : ∃ y : Int32, y = v3 + 1 := ⟨_, rfl⟩
            have gx_300 : gi x_300 1 11 := gi_add ex_300 g_284 (gi_c 1 1 (by decide)) (by decide)
            refine lv_iinc (v := x_300) (lv' := [(3, .int x_300), (4, .int x_290), (0, .ref h0), (1, .int p0), (2, .int p1)]) hx hb (dk_at dkX8_fillCell 47 rfl) hl (k := 4) rfl (by rw [ex_300]; rfl) (by decide) rfl (fun ls hl => ?_)
            refine lv_goto (tgt := 5) hx hb (dk_at dkX8_fillCell 48 rfl) (by decide) ?_
            exact ih x_300 f_299 _ _ _ (gi_w gx_300 (by decide)) (by have av3 := gv3.1; have bv3 := gv3.2; have qgx_300 := gx_300.1; have rgx_300 := gx_300.2; have igx_300 : x_300.toInt = v3.toInt + 1 := (by have hc1 : (1 : Int32).toInt = 1 := (by decide); have h9 := gi_addI ex_300 (by have h1 := g_284.1; have h2 := (gi_c 1 1 (by decide)).1; have h3 := g_284.2; have h4 := (gi_c 1 1 (by decide)).2; omega) (by have h1 := g_284.1; have h2 := (gi_c 1 1 (by decide)).1; have h3 := g_284.2; have h4 := (gi_c 1 1 (by decide)).2; omega); rw [hc1] at h9; exact h9); have qgv3 := g_284.1; have rgv3 := g_284.2; omega) hP hD hS (lv_sub hl [2, 3, 4, 0] rfl)
        · refine lv_iconst (v := 0) hx hb (dk_at dkX8_fillCell 15 rfl) (by decide) ?_
          refine lv_goto (tgt := 50) hx hb (dk_at dkX8_fillCell 16 rfl) (by decide) ?_
          refine lv_istore (lv' := [(4, .int 0), (0, .ref h0), (1, .int p0), (2, .int p1), (3, .int v3)]) hx hb (dk_at dkX8_fillCell 28 rfl) hl (by decide) rfl (fun ls hl => ?_)
          refine lv_iload hx hb (dk_at dkX8_fillCell 29 rfl) (lv_at hl 0 rfl) ?_
          refine lv_ldc (own := RX8) (v := 1000000) hx hb hown (hts _ (List.mem_cons_of_mem _ mGA_788)) (dk_at dkX8_fillCell 30 rfl) ?_
          refine lv_icmp_ge (tgt := 83) hx hb (dk_at dkX8_fillCell 31 rfl) (by decide) (fun c_301 => absurd c_301 (gi_no_le (gi_c 1000000 1000000 (by decide)) (gi_c 0 0 (by decide)) (by decide))) (fun c_301 => ?_)
          refine lv_aload_n hx hb (dk_at dkX8_fillCell 32 rfl) rfl (lv_at hl 1 rfl) ?_
          refine va_get (D := (dC, dI)) (ci := 8) (v := .ref le) (C := RX8) (T := TX8) (N := 5) hx hb hts (fun w h => List.mem_cons_of_mem _ (jnGA_X8 w h)) hown hK hP 0 rfl rfl 1 (by decide) (hts _ (List.mem_cons_of_mem _ mGA_118)) (fun _ h9 => h9) rfl (dk_at dkX8_fillCell 33 rfl) ?_
          refine lv_iload_n hx hb (dk_at dkX8_fillCell 34 rfl) rfl (lv_at hl 2 rfl) ?_
          refine lv_iload_n hx hb (dk_at dkX8_fillCell 35 rfl) rfl (lv_at hl 3 rfl) ?_
          refine lv_iload_n hx hb (dk_at dkX8_fillCell 36 rfl) rfl (lv_at hl 4 rfl) ?_
          have hPc := hP.sub (ws' := []) [] rfl
          have hKc := hK.sub (tys' := []) [] rfl
          refine va_calli (va_runSN (As := [.int p0, .int p1, .int v3]) (rest := [.ref le]) ⟨hx, hb, hml, hown, hts⟩ (sX11_spot l dC dI p0 p1 v3 gp0 gp1 g_284) (⟨va_cnB 3 hts (gz_gP mGA_582 goodGA) rfl rfl rfl (nzA_X8_71 hz) (hts _ (List.mem_cons_of_mem _ mGA_1)) (by decide +kernel) ⟨Nat.le_trans (Nat.le_of_ble_eq_true rfl) hRf, Nat.le_trans (Nat.le_of_ble_eq_true rfl) hRl⟩, (hts _ (List.mem_cons_of_mem _ mGA_581)), trivial⟩) ⟨bl_I (bl_a bl_P (bl_a bl_K bl_nz)), fun U hU hW => ⟨rfl, by rw [hU]; exact hPc, va_K.moved hW.alike hKc, nzA_warm hW hz⟩⟩ rfl rfl hl.1 rfl (lv_room (Nat.le_of_ble_eq_true rfl)) (dk_at dkX8_fillCell 37 rfl) ⟨hRc, hRs⟩) hS (fun q _ h => h.elim) (fun q h => h.elim) (fun r_302 u t H1 locs ht hvm hw hB hz1 hk1 hS => ?_)
          have hP := gz_keep hP hk1
          generalize H1 = H at hP hS ⊢
          have gr_302 : gi r_302 0 3574 := hw
          refine lv_iload hx hb (dk_at dkX8_fillCell 38 rfl) (lv_at hl 0 rfl) ?_
          refine lv_aload_n hx hb (dk_at dkX8_fillCell 39 rfl) rfl (lv_at hl 1 rfl) ?_
          refine va_get (D := (dC, dI)) (ci := 8) (v := .ref co) (C := RX8) (T := TX8) (N := 5) hx hb hts (fun w h => List.mem_cons_of_mem _ (jnGA_X8 w h)) hown hK hP 0 rfl rfl 0 (by decide) (hts _ (List.mem_cons_of_mem _ mGA_117)) (fun _ h9 => h9) rfl (dk_at dkX8_fillCell 40 rfl) ?_
          refine lv_iload_n hx hb (dk_at dkX8_fillCell 41 rfl) rfl (lv_at hl 2 rfl) ?_
          refine lv_iload_n hx hb (dk_at dkX8_fillCell 42 rfl) rfl (lv_at hl 3 rfl) ?_
          have hPc := hP.sub (ws' := []) [] rfl
          have hKc := hK.sub (tys' := []) [] rfl
          refine va_calli (va_runSN (As := [.int p0, .int p1]) (rest := [.ref co, .int 0, .int r_302, .ref le]) ⟨hx, hb, hml, hown, hts⟩ (sX11_cell l dC dI p0 p1 gp0 gp1) (⟨va_cnB 2 hts (gz_gP mGA_585 goodGA) rfl rfl rfl (nzA_X8_24 hz) (hts _ (List.mem_cons_of_mem _ mGA_1)) (by decide +kernel) ⟨Nat.le_trans (Nat.le_of_ble_eq_true rfl) hRf, Nat.le_trans (Nat.le_of_ble_eq_true rfl) hRl⟩, (hts _ (List.mem_cons_of_mem _ mGA_584)), trivial⟩) ⟨bl_I (bl_a bl_P (bl_a bl_K bl_nz)), fun U hU hW => ⟨rfl, by rw [hU]; exact hPc, va_K.moved hW.alike hKc, nzA_warm hW hz⟩⟩ rfl rfl hl.1 rfl (lv_room (Nat.le_of_ble_eq_true rfl)) (dk_at dkX8_fillCell 43 rfl) ⟨hRc, hRs⟩) hS (fun q _ h => h.elim) (fun q h => h.elim) (fun r_303 u t H1 locs ht hvm hw hB hz1 hk1 hS => ?_)
          have hP := gz_keep hP hk1
          generalize H1 = H at hP hS ⊢
          have gr_303 : gi r_303 0 324 := hw
          refine va_iald hx hb hK hP 1 0 rfl rfl (gi_in gr_303 (by decide)) (dk_at dkX8_fillCell 44 rfl) ?_
          refine lv_topi (fun x_304 ex_304 => ?_)
          refine lv_iadd hx hb (dk_at dkX8_fillCell 45 rfl) ?_
          refine lv_topi (fun x_305 ex_305 => ?_)
          refine va_iast hx hb hK hP hD hS 2 1 rfl rfl (gi_in gr_302 (by decide)) (dk_at dkX8_fillCell 46 rfl) (fun H locs hP hD hS => ?_)
          obtain ⟨hP, hD⟩ := gz_both (w := [(h0, .inr (8, [.ref co, .ref le, .int months, .int full, .int lean])), (co, .inl (kco, 325, .inl fco)), (le, .inl (kle, 3575, .inl (upd z2 (r_302 : Int32).toNatClampNeg x_305)))]) hP hD
          generalize upd z2 (r_302 : Int32).toNatClampNeg x_305 = f_306 at hP hD
          obtain ⟨x_307, ex_307⟩ : ∃ y : Int32, y = v3 + 1 := ⟨_, rfl⟩
          have gx_307 : gi x_307 1 11 := gi_add ex_307 g_284 (gi_c 1 1 (by decide)) (by decide)
          refine lv_iinc (v := x_307) (lv' := [(3, .int x_307), (4, .int 0), (0, .ref h0), (1, .int p0), (2, .int p1)]) hx hb (dk_at dkX8_fillCell 47 rfl) hl (k := 4) rfl (by rw [ex_307]; rfl) (by decide) rfl (fun ls hl => ?_)
          refine lv_goto (tgt := 5) hx hb (dk_at dkX8_fillCell 48 rfl) (by decide) ?_
          exact ih x_307 f_306 _ _ _ (gi_w gx_307 (by decide)) (by have av3 := gv3.1; have bv3 := gv3.2; have qgx_307 := gx_307.1; have rgx_307 := gx_307.2; have igx_307 : x_307.toInt = v3.toInt + 1 := (by have hc1 : (1 : Int32).toInt = 1 := (by decide); have h9 := gi_addI ex_307 (by have h1 := g_284.1; have h2 := (gi_c 1 1 (by decide)).1; have h3 := g_284.2; have h4 := (gi_c 1 1 (by decide)).2; omega) (by have h1 := g_284.1; have h2 := (gi_c 1 1 (by decide)).1; have h3 := g_284.2; have h4 := (gi_c 1 1 (by decide)).2; omega); rw [hc1] at h9; exact h9); have qgv3 := g_284.1; have rgv3 := g_284.2; omega) hP hD hS (lv_sub hl [2, 3, 4, 0] rfl)
abbrev pb_sX8_fillCell (dC : Nat → ClassId) (dI : Nat → Nat → Nat) (A9 : Nat → Prop) (h0 : Nat) (co : Nat) (le : Nat) (months : Int32) (full : Int32) (lean : Int32) (kco : ClassId) (fco : Nat → Int32) (kle : ClassId) (fle : Nat → Int32) (p0 : Int32) (p1 : Int32) (z2 : Nat → Int32) (t : State) : Prop := va_P (dC, dI) vwCl [(h0, .inr (8, [.ref co, .ref le, .int months, .int full, .int lean])), (co, .inl (kco, 325, .inl fco)), (le, .inl (kle, 3575, .inl z2))] t.heap ∧ va_D A9 [(h0, .inr (8, [.ref co, .ref le, .int months, .int full, .int lean])), (co, .inl (kco, 325, .inl fco)), (le, .inl (kle, 3575, .inl z2))]
set_option maxHeartbeats 4000000 in
set_option maxRecDepth 100000 in
theorem sX8_fillCell (l : Launch) (dC : Nat → ClassId) (dI : Nat → Nat → Nat) (sz : Nat) (h0 : Nat) (co : Nat) (le : Nat) (months : Int32) (full : Int32) (lean : Int32) (kco : ClassId) (fco : Nat → Int32) (kle : ClassId) (fle : Nat → Int32) (p0 : Int32) (p1 : Int32) (gmonths : gi months 0 24) (gfull : gi full 0 5) (glean : gi lean 0 5) (gp0 : gi p0 0 24) (gp1 : gi p1 0 24) (hle_gp0_gmonths : p0.toInt ≤ months.toInt) (hle_gp1_gp0 : p1.toInt ≤ p0.toInt) : Met l yX8_fillCell (.code yX8_fillCell cX8_fillCell 5 none :: wsGA) ({ frames := 3, cells := 0, slots := 0, locals := 66 }) (va_Pc [.ref h0, .int p0, .int p1] (fun U => U.heap.size = sz ∧ va_P (dC, dI) vwCl [(h0, .inr (8, [.ref co, .ref le, .int months, .int full, .int lean])), (co, .inl (kco, 325, .inl fco)), (le, .inl (kle, 3575, .inl fle))] U.heap ∧ va_K (dC, dI) vwCl [(kco, .int), (kle, .int)] U ∧ va_D (fun _ => True) [(h0, .inr (8, [.ref co, .ref le, .int months, .int full, .int lean])), (co, .inl (kco, 325, .inl fco)), (le, .inl (kle, 3575, .inl fle))] ∧ nzA U)) (va_Qv (fun (u : Unit) => True) (fun _ t => ∃ (z2 : Nat → Int32), pb_sX8_fillCell dC dI (va_A [(h0, .inr (8, [.ref co, .ref le, .int months, .int full, .int lean])), (co, .inl (kco, 325, .inl fco)), (le, .inl (kle, 3575, .inl fle))] sz) h0 co le months full lean kco fco kle fle p0 p1 z2 t) (va_A [(h0, .inr (8, [.ref co, .ref le, .int months, .int full, .int lean])), (co, .inl (kco, 325, .inl fco)), (le, .inl (kle, 3575, .inl fle))] sz)) 0 0 (va_A [(h0, .inr (8, [.ref co, .ref le, .int months, .int full, .int lean])), (co, .inl (kco, 325, .inl fco)), (le, .inl (kle, 3575, .inl fle))] sz) := by
  refine Met.ofW (cc := cX8_fillCell) (maxL := 5) (ret := none) (by decide) rfl ?_
  intro p e s m args below meth c s₁ B hml hv
  obtain ⟨rfl, hsz, hP, hK, hD0, hz⟩ := hv
  have hx := B.exec
  have hb := B.bytes
  have hr := B.returns
  have hts := atoms_spec (ws := (.code yX8_fillCell cX8_fillCell 5 none :: wsGA)) B.pre
  have hown : s.vm.findClass RX8 = some m.cls := findClass_of_methodNamed B.named
  have hlocks := B.notSynchronized
  subst hsz
  have hD := hD0.self (sz := s.heap.size)
  generalize hAe : va_A [(h0, .inr (8, [.ref co, .ref le, .int months, .int full, .int lean])), (co, .inl (kco, 325, .inl fco)), (le, .inl (kle, 3575, .inl fle))] s.heap.size = A at hD ⊢
  have hA : ∀ q : Nat, s.heap.size ≤ q → A q := fun q h => by rw [← hAe]; exact Or.inr h
  have hS : va_S A s.heap s.heap [] := va_S.rf
  have hl := lv_entry ([.ref h0, .int p0, .int p1]) (n := 5) (Nat.le_of_ble_eq_true rfl)
  rw [lg_entry_eq]
  generalize (lg_sl ([.ref h0, .int p0, .int p1]) ++ List.replicate (5 - (lg_sl ([.ref h0, .int p0, .int p1])).length) Slot.unset).toArray = ls at hl ⊢
  have hl : lv_has ls 5 [(0, .ref h0), (1, .int p0), (2, .int p1)] := hl
  refine lv_iload_n hx hb (dk_at dkX8_fillCell 0 rfl) rfl (lv_at hl 1 rfl) ?_
  have hPc := hP.sub (ws' := []) [] rfl
  have hKc := hK.sub (tys' := []) [] rfl
  refine va_calli (va_runSN (As := [.int p0]) (rest := []) ⟨hx, hb, hml, hown, hts⟩ (sX11_firstRun l dC dI p0 gp0) (⟨va_cnB 1 hts (gz_gP mGA_504 goodGA) rfl rfl rfl (nzA_X8_52 hz) (hts _ (List.mem_cons_of_mem _ mGA_1)) (by decide +kernel) ⟨Nat.le_of_ble_eq_true rfl, Nat.le_of_ble_eq_true rfl⟩, (hts _ (List.mem_cons_of_mem _ mGA_503)), trivial⟩) ⟨bl_I (bl_a bl_P (bl_a bl_K bl_nz)), fun U hU hW => ⟨rfl, by rw [hU]; exact hPc, va_K.moved hW.alike hKc, nzA_warm hW hz⟩⟩ rfl rfl hl.1 rfl (lv_room (Nat.le_of_ble_eq_true rfl)) (dk_at dkX8_fillCell 1 rfl) ⟨Nat.zero_le _, Nat.zero_le _⟩) hS (fun q _ h => h.elim) (fun q h => h.elim) (fun r_308 u t H1 locs ht hvm hw hB hz1 hk1 hS => ?_)
  have hP := gz_keep hP hk1
  generalize H1 = H at hP hS ⊢
  have gr_308 : gi r_308 0 1 := hw
  refine lv_istore_n (lv' := [(3, .int r_308), (0, .ref h0), (1, .int p0), (2, .int p1)]) hx hb (dk_at dkX8_fillCell 2 rfl) rfl hl (by decide) rfl (fun ls hl => ?_)
  refine (lp_sX8_fillCell h0 co le months full lean kco fco kle fle p0 p1 gmonths gfull glean gp0 gp1 hle_gp0_gmonths hle_gp1_gp0 hx hb hml hown hts hK hz hA (Nat.le_of_ble_eq_true rfl) (Nat.le_of_ble_eq_true rfl) (Nat.zero_le _) (Nat.zero_le _) (fun z2 H locs ls hP hD hS hl => ?_) 36) r_308 fle _ _ _ (gi_w gr_308 (by decide)) (by have qgr_308 := gr_308.1; have rgr_308 := gr_308.2; omega) hP hD hS (lv_sub hl [1, 2, 3, 0] rfl)
  · skip
    exact W.vret hx hb hr (fun t ht hW => ⟨⟨(), rfl, trivial, z2, by rw [ht]; exact hP, hD⟩, hS.F ht⟩) hS.2.2 (dk_at dkX8_fillCell 49 rfl)
noncomputable def lsX8_run : List (Nat × Instr × Nat) := [(0, .aload_n 0, 1), (1, .aload_n 1, 1), (2, .getfield 28, 3), (5, .putfield 34, 3), (8, .aload_n 0, 1), (9, .aload_n 1, 1), (10, .getfield 35, 3), (13, .putfield 38, 3), (16, .aload_n 0, 1), (17, .aload_n 1, 1), (18, .getfield 39, 3), (21, .putfield 42, 3), (24, .aload_n 0, 1), (25, .getfield 15, 3), (28, .ldc 43, 2), (30, .invokestatic 18, 3), (33, .aload_n 0, 1), (34, .getfield 34, 3), (37, .istore_n 2, 1), (38, .iload_n 2, 1), (39, .ifCond .lt 37, 3), (42, .iconst 0, 1), (43, .istore_n 3, 1), (44, .iload_n 3, 1), (45, .iload_n 2, 1), (46, .if_icmp .gt 24, 3), (49, .aload_n 1, 1), (50, .iload_n 2, 1), (51, .iload_n 3, 1), (52, .invokevirtual 44, 3), (55, .ifCond .eq 9, 3), (58, .aload_n 0, 1), (59, .iload_n 2, 1), (60, .iload_n 3, 1), (61, .invokevirtual 48, 3), (64, .iinc 3 1, 3), (67, .goto (-23), 3), (70, .iinc 2 (-1), 3), (73, .goto (-35), 3), (76, .return_, 1)]
theorem dkX8_run : dkAll cX8_run lsX8_run = true := by decide +kernel
set_option maxHeartbeats 4000000 in
set_option maxRecDepth 100000 in
theorem lp_sX8_run {p : Program} {l : Launch} {e : Env} {R : Room} {s : State} {m : MethodId} {args : Array Value} {below : List Frame} {meth : Method} {c : Code} {Q : State → Prop} {A : Nat → Prop} {cells slots : Nat} {dC : Nat → ClassId} {dI : Nat → Nat → Nat} (h0 : Nat) (co : Nat) (le : Nat) (fr : Nat) (fral : Nat) (months : Int32) (full : Int32) (lean : Int32) (kco : ClassId) (fco : Nat → Int32) (kle : ClassId) (fle : Nat → Int32) (frmonths : Int32) (frfull : Int32) (frlean : Int32) (fron : Nat) (kfral : ClassId) (ffral : Nat → Int32) (gmonths : gi months 0 24) (gfull : gi full 0 5) (glean : gi lean 0 5) (gfrmonths : gi frmonths 0 24) (gfrfull : gi frfull 0 5) (gfrlean : gi frlean 0 5) (hx : p.tables.exec = Jvm.exec) (hb : c.code = cX8_run) (hml : c.maxLocals = 4) (hown : s.vm.findClass RX8 = some m.cls) (hts : ∀ w ∈ ((.code yX8_run cX8_run 4 none :: wsGA) : List Cond), w.before args s = true) (hK : va_K (dC, dI) vwCl [(kco, .int), (kle, .int), (kfral, .int)] s) (hz : nzA s) (hA : ∀ q : Nat, s.heap.size ≤ q → A q) (hRf : 4 ≤ R.frames) (hRl : 90 ≤ R.locals) (hRc : cells ≤ R.cells) (hRs : slots ≤ R.slots) (kr76 : ∀ (w0_2 : Int32) (w0_3 : Int32) (w0_4 : Int32) (z2 : Nat → Int32) (H : Heap) (locs : List Loc) (ls : Array Slot), gi w0_2 0 24 → gi w0_3 0 5 → gi w0_4 0 5 → va_P (dC, dI) vwCl [(h0, .inr (8, [.ref co, .ref le, .int w0_2, .int w0_3, .int w0_4])), (co, .inl (kco, 325, .inl fco)), (le, .inl (kle, 3575, .inl z2)), (fr, .inr (3, [.int frmonths, .int frfull, .int frlean, .ref fral, .ref fron])), (fral, .inl (kfral, 25, .inl ffral))] H → va_D A [(h0, .inr (8, [.ref co, .ref le, .int w0_2, .int w0_3, .int w0_4])), (co, .inl (kco, 325, .inl fco)), (le, .inl (kle, 3575, .inl z2)), (fr, .inr (3, [.int frmonths, .int frfull, .int frlean, .ref fral, .ref fron])), (fral, .inl (kfral, 25, .inl ffral))] → va_S A s.heap H locs → lv_has ls 4 [] → W p l e R s m args below meth c H locs cells slots Q (F0 m 76 ls [])) : ∀ z : Nat, (∀ (v2 : Int32) (w0_2 : Int32) (w0_3 : Int32) (w0_4 : Int32) (z2 : Nat → Int32) (H : Heap) (locs : List Loc) (ls : Array Slot), gi v2 (-1) 24 → gi w0_2 0 24 → gi w0_3 0 5 → gi w0_4 0 5 → v2.toInt ≤ w0_2.toInt → 57 + 56 * v2.toInt < (z : Int) → va_P (dC, dI) vwCl [(h0, .inr (8, [.ref co, .ref le, .int w0_2, .int w0_3, .int w0_4])), (co, .inl (kco, 325, .inl fco)), (le, .inl (kle, 3575, .inl z2)), (fr, .inr (3, [.int frmonths, .int frfull, .int frlean, .ref fral, .ref fron])), (fral, .inl (kfral, 25, .inl ffral))] H → va_D A [(h0, .inr (8, [.ref co, .ref le, .int w0_2, .int w0_3, .int w0_4])), (co, .inl (kco, 325, .inl fco)), (le, .inl (kle, 3575, .inl z2)), (fr, .inr (3, [.int frmonths, .int frfull, .int frlean, .ref fral, .ref fron])), (fral, .inl (kfral, 25, .inl ffral))] → va_S A s.heap H locs → lv_has ls 4 [(0, .ref h0), (1, .ref fr), (2, .int v2)] → W p l e R s m args below meth c H locs cells slots Q (F0 m 38 ls [])) ∧ (∀ (v2 : Int32) (v3 : Int32) (w0_2 : Int32) (w0_3 : Int32) (w0_4 : Int32) (z2 : Nat → Int32) (H : Heap) (locs : List Loc) (ls : Array Slot), gi v2 0 24 → gi v3 0 25 → gi w0_2 0 24 → gi w0_3 0 5 → gi w0_4 0 5 → v2.toInt ≤ w0_2.toInt → 52 + 56 * v2.toInt + (-2) * v3.toInt < (z : Int) → va_P (dC, dI) vwCl [(h0, .inr (8, [.ref co, .ref le, .int w0_2, .int w0_3, .int w0_4])), (co, .inl (kco, 325, .inl fco)), (le, .inl (kle, 3575, .inl z2)), (fr, .inr (3, [.int frmonths, .int frfull, .int frlean, .ref fral, .ref fron])), (fral, .inl (kfral, 25, .inl ffral))] H → va_D A [(h0, .inr (8, [.ref co, .ref le, .int w0_2, .int w0_3, .int w0_4])), (co, .inl (kco, 325, .inl fco)), (le, .inl (kle, 3575, .inl z2)), (fr, .inr (3, [.int frmonths, .int frfull, .int frlean, .ref fral, .ref fron])), (fral, .inl (kfral, 25, .inl ffral))] → va_S A s.heap H locs → lv_has ls 4 [(0, .ref h0), (1, .ref fr), (2, .int v2), (3, .int v3)] → W p l e R s m args below meth c H locs cells slots Q (F0 m 44 ls [])) := by
  intro z
  induction z with
  | zero =>
    refine ⟨?_, ?_⟩
    · intro v2 w0_2 w0_3 w0_4 z2 H locs ls gv2 gw0_2 gw0_3 gw0_4 hle_gv2_gw0_2 hmu hP hD hS hl
      exact absurd hmu (by have hv21 := gv2.1; have hv22 := gv2.2; omega)
    · intro v2 v3 w0_2 w0_3 w0_4 z2 H locs ls gv2 gv3 gw0_2 gw0_3 gw0_4 hle_gv2_gw0_2 hmu hP hD hS hl
      exact absurd hmu (by have hv21 := gv2.1; have hv22 := gv2.2; have hv31 := gv3.1; have hv32 := gv3.2; omega)
  | succ z ih =>
    refine ⟨?_, ?_⟩
    · intro v2 w0_2 w0_3 w0_4 z2 H locs ls gv2 gw0_2 gw0_3 gw0_4 hle_gv2_gw0_2 hmu hP hD hS hl
      refine lv_iload_n hx hb (dk_at dkX8_run 19 rfl) rfl (lv_at hl 2 rfl) ?_
      refine lv_if_lt (tgt := 76) hx hb (dk_at dkX8_run 20 rfl) (by decide) (fun c_266 => ?_) (fun c_266 => ?_)
      · have g_267 : gi v2 (-1) (-1) := gi_lt_l c_266 gv2 (gi_c 0 0 (by decide)) (by decide)
        exact kr76 w0_2 w0_3 w0_4 z2 _ _ _ gw0_2 gw0_3 gw0_4 hP hD hS (lv_sub hl [] rfl)
      · have g_268 : gi v2 0 24 := gi_le_r (Int32.not_lt.mp c_266) (gi_c 0 0 (by decide)) gv2
        refine lv_iconst (v := 0) hx hb (dk_at dkX8_run 21 rfl) (by decide) ?_
        refine lv_istore_n (lv' := [(3, .int 0), (0, .ref h0), (1, .ref fr), (2, .int v2)]) hx hb (dk_at dkX8_run 22 rfl) rfl hl (by decide) rfl (fun ls hl => ?_)
        exact ih.2 v2 0 w0_2 w0_3 w0_4 z2 _ _ _ g_268 (gi_w (gi_c 0 0 (by decide)) (by decide)) gw0_2 gw0_3 gw0_4 (by have qgw0_2 := gw0_2.1; have rgw0_2 := gw0_2.2; have qgv2 := g_268.1; have rgv2 := g_268.2; omega) (by have k0 : (0 : Int32).toInt = 0 := (by decide); have av2 := gv2.1; have bv2 := gv2.2; have qgv2 := g_268.1; have rgv2 := g_268.2; omega) hP hD hS (lv_sub hl [1, 2, 3, 0] rfl)
    · intro v2 v3 w0_2 w0_3 w0_4 z2 H locs ls gv2 gv3 gw0_2 gw0_3 gw0_4 hle_gv2_gw0_2 hmu hP hD hS hl
      refine lv_iload_n hx hb (dk_at dkX8_run 23 rfl) rfl (lv_at hl 3 rfl) ?_
      refine lv_iload_n hx hb (dk_at dkX8_run 24 rfl) rfl (lv_at hl 2 rfl) ?_
      refine lv_icmp_gt (tgt := 70) hx hb (dk_at dkX8_run 25 rfl) (by decide) (fun c_269 => ?_) (fun c_269 => ?_)
      · have g_270 : gi v3 1 25 := gi_lt_r c_269 gv2 gv3 (by decide)
        obtain ⟨x_271, ex_271⟩ : ∃ y : Int32, y = v2 + (-1) := ⟨_, rfl⟩
        have gx_271 : gi x_271 (-1) 23 := gi_add ex_271 gv2 (gi_c (-1) (-1) (by decide)) (by decide)
        refine lv_iinc (v := x_271) (lv' := [(2, .int x_271), (0, .ref h0), (1, .ref fr), (3, .int v3)]) hx hb (dk_at dkX8_run 37 rfl) hl (k := 2) rfl (by rw [ex_271]; rfl) (by decide) rfl (fun ls hl => ?_)
        refine lv_goto (tgt := 38) hx hb (dk_at dkX8_run 38 rfl) (by decide) ?_
        exact ih.1 x_271 w0_2 w0_3 w0_4 z2 _ _ _ (gi_w gx_271 (by decide)) gw0_2 gw0_3 gw0_4 (by have qgw0_2 := gw0_2.1; have rgw0_2 := gw0_2.2; have qgx_271 := gx_271.1; have rgx_271 := gx_271.2; have igx_271 : x_271.toInt = v2.toInt + (-1) := (by have hcm1 : ((-1) : Int32).toInt = (-1) := (by decide); have h9 := gi_addI ex_271 (by have h1 := gv2.1; have h2 := (gi_c (-1) (-1) (by decide)).1; have h3 := gv2.2; have h4 := (gi_c (-1) (-1) (by decide)).2; omega) (by have h1 := gv2.1; have h2 := (gi_c (-1) (-1) (by decide)).1; have h3 := gv2.2; have h4 := (gi_c (-1) (-1) (by decide)).2; omega); rw [hcm1] at h9; exact h9); have qgv2 := gv2.1; have rgv2 := gv2.2; have y1 := (Int32.lt_iff_toInt_lt.mp c_269); omega) (by have av2 := gv2.1; have bv2 := gv2.2; have av3 := gv3.1; have bv3 := gv3.2; have qgx_271 := gx_271.1; have rgx_271 := gx_271.2; have igx_271 : x_271.toInt = v2.toInt + (-1) := (by have hcm1 : ((-1) : Int32).toInt = (-1) := (by decide); have h9 := gi_addI ex_271 (by have h1 := gv2.1; have h2 := (gi_c (-1) (-1) (by decide)).1; have h3 := gv2.2; have h4 := (gi_c (-1) (-1) (by decide)).2; omega) (by have h1 := gv2.1; have h2 := (gi_c (-1) (-1) (by decide)).1; have h3 := gv2.2; have h4 := (gi_c (-1) (-1) (by decide)).2; omega); rw [hcm1] at h9; exact h9); have qgv2 := gv2.1; have rgv2 := gv2.2; omega) hP hD hS (lv_sub hl [1, 2, 0] rfl)
      · have g_272 : gi v3 0 24 := gi_le_l (Int32.not_lt.mp c_269) gv3 gv2
        refine lv_aload_n hx hb (dk_at dkX8_run 26 rfl) rfl (lv_at hl 1 rfl) ?_
        refine lv_iload_n hx hb (dk_at dkX8_run 27 rfl) rfl (lv_at hl 2 rfl) ?_
        refine lv_iload_n hx hb (dk_at dkX8_run 28 rfl) rfl (lv_at hl 3 rfl) ?_
        have hPc := hP.sub (ws' := [(fr, .inr (3, [.int frmonths, .int frfull, .int frlean, .ref fral, .ref fron])), (fral, .inl (kfral, 25, .inl ffral))]) [3, 4] rfl
        have hKc := hK.sub (tys' := [(kfral, .int)]) [2] rfl
        refine va_calli (va_runV (As := [.int v2, .int v3]) (rest := []) ⟨hx, hb, hml, hown, hts⟩ (sX3_allows l dC dI fr fral frmonths frfull frlean fron kfral ffral v2 v3 gfrmonths gfrfull gfrlean gv2) (cwV 2 hts (gz_gV mGA_789 mGA_574 mGA_575 mGA_18 mGA_576 goodGA) rfl rfl rfl (by decide +kernel) ⟨Nat.le_trans (Nat.le_of_ble_eq_true rfl) hRf, Nat.le_trans (Nat.le_of_ble_eq_true rfl) hRl⟩) ⟨bl_I (bl_a bl_P (bl_a bl_K bl_nz)), va_recv hKc hPc (ci := 3) (q0 := 0) rfl rfl, fun U hU hW => ⟨rfl, by rw [hU]; exact hPc, va_K.moved hW.alike hKc, nzA_warm hW hz⟩⟩ rfl rfl hl.1 rfl (lv_room (Nat.le_of_ble_eq_true rfl)) (dk_at dkX8_run 29 rfl) ⟨hRc, hRs⟩) hS (fun q _ h => h.elim) (fun q h => h.elim) (fun r_273 u t H1 locs ht hvm hw hB hz1 hk1 hS => ?_)
        have hP := gz_keep hP hk1
        generalize H1 = H at hP hS ⊢
        have gr_273 : gi r_273 0 1 := hw
        refine lv_if_eq (tgt := 64) hx hb (dk_at dkX8_run 30 rfl) (by decide) (fun c_274 => ?_) (fun c_274 => ?_)
        · have g_275 : gi r_273 0 0 := gi_eq c_274 (gi_c 0 0 (by decide))
          obtain ⟨x_276, ex_276⟩ : ∃ y : Int32, y = v3 + 1 := ⟨_, rfl⟩
          have gx_276 : gi x_276 1 25 := gi_add ex_276 g_272 (gi_c 1 1 (by decide)) (by decide)
          refine lv_iinc (v := x_276) (lv' := [(3, .int x_276), (0, .ref h0), (1, .ref fr), (2, .int v2)]) hx hb (dk_at dkX8_run 35 rfl) hl (k := 3) rfl (by rw [ex_276]; rfl) (by decide) rfl (fun ls hl => ?_)
          refine lv_goto (tgt := 44) hx hb (dk_at dkX8_run 36 rfl) (by decide) ?_
          exact ih.2 v2 x_276 w0_2 w0_3 w0_4 z2 _ _ _ gv2 (gi_w gx_276 (by decide)) gw0_2 gw0_3 gw0_4 (by have qgw0_2 := gw0_2.1; have rgw0_2 := gw0_2.2; have qgv2 := gv2.1; have rgv2 := gv2.2; have y1 := (Int32.le_iff_toInt_le.mp (Int32.not_lt.mp c_269)); omega) (by have av2 := gv2.1; have bv2 := gv2.2; have av3 := gv3.1; have bv3 := gv3.2; have qgx_276 := gx_276.1; have rgx_276 := gx_276.2; have igx_276 : x_276.toInt = v3.toInt + 1 := (by have hc1 : (1 : Int32).toInt = 1 := (by decide); have h9 := gi_addI ex_276 (by have h1 := g_272.1; have h2 := (gi_c 1 1 (by decide)).1; have h3 := g_272.2; have h4 := (gi_c 1 1 (by decide)).2; omega) (by have h1 := g_272.1; have h2 := (gi_c 1 1 (by decide)).1; have h3 := g_272.2; have h4 := (gi_c 1 1 (by decide)).2; omega); rw [hc1] at h9; exact h9); have qgv3 := g_272.1; have rgv3 := g_272.2; have qgv2 := gv2.1; have rgv2 := gv2.2; omega) hP hD hS (lv_sub hl [1, 2, 3, 0] rfl)
        · have g_277 : gi r_273 1 1 := gi_ne_lo c_274 gr_273 (gi_c 0 0 (by decide)) (by decide)
          refine lv_aload_n hx hb (dk_at dkX8_run 31 rfl) rfl (lv_at hl 0 rfl) ?_
          refine lv_iload_n hx hb (dk_at dkX8_run 32 rfl) rfl (lv_at hl 2 rfl) ?_
          refine lv_iload_n hx hb (dk_at dkX8_run 33 rfl) rfl (lv_at hl 3 rfl) ?_
          obtain ⟨hPc, hDc, hFc⟩ := gz_cut (wc := [(h0, .inr (8, [.ref co, .ref le, .int w0_2, .int w0_3, .int w0_4])), (co, .inl (kco, 325, .inl fco)), (le, .inl (kle, 3575, .inl z2))]) hP hD hS hA [0, 1, 2] (by decide) rfl
          have hKc := hK.sub (tys' := [(kco, .int), (kle, .int)]) [0, 1] rfl
          refine va_callv (va_runV (As := [.int v2, .int v3]) (rest := []) ⟨hx, hb, hml, hown, hts⟩ (sX8_fillCell l dC dI H.size h0 co le w0_2 w0_3 w0_4 kco fco kle z2 v2 v3 gw0_2 gw0_3 gw0_4 gv2 g_272 (by have qgw0_2 := gw0_2.1; have rgw0_2 := gw0_2.2; have qgv2 := gv2.1; have rgv2 := gv2.2; have y1 := (Int32.le_iff_toInt_le.mp (Int32.not_lt.mp c_269)); omega) (by have qgv2 := gv2.1; have rgv2 := gv2.2; have qgv3 := g_272.1; have rgv3 := g_272.2; have y1 := (Int32.le_iff_toInt_le.mp (Int32.not_lt.mp c_269)); omega)) (cwV 2 hts (gz_gV mGA_790 mGA_791 mGA_792 mGA_31 mGA_793 goodGA) rfl rfl rfl (by decide +kernel) ⟨Nat.le_trans (Nat.le_of_ble_eq_true rfl) hRf, Nat.le_trans (Nat.le_of_ble_eq_true rfl) hRl⟩) ⟨bl_I (bl_a bl_sz (bl_a bl_P (bl_a bl_K (bl_a bl_c bl_nz)))), va_recv hKc hPc (ci := 8) (q0 := 0) rfl rfl, fun U hU hW => ⟨rfl, by rw [hU], by rw [hU]; exact hPc, va_K.moved hW.alike hKc, hDc.weaken (fun _ _ _ _ => trivial), nzA_warm hW hz⟩⟩ rfl rfl hl.1 rfl (lv_room (Nat.le_of_ble_eq_true rfl)) (dk_at dkX8_run 34 rfl) ⟨hRc, hRs⟩) hS (fun q _ h => hFc q h) hFc (fun u t H1 locs ht hvm hw hB hz1 hk1 hS => ?_)
          obtain ⟨f_279, hB⟩ := hB
          obtain ⟨hP1, hD1⟩ := hB
          rw [ht] at hP1
          obtain ⟨hP, hD⟩ := gz_back hP hD hk1 hFc hP1 hD1 [0, 1, 2] rfl rfl
          obtain ⟨hP, hD⟩ := gz_both (w := [(h0, .inr (8, [.ref co, .ref le, .int w0_2, .int w0_3, .int w0_4])), (co, .inl (kco, 325, .inl fco)), (le, .inl (kle, 3575, .inl f_279)), (fr, .inr (3, [.int frmonths, .int frfull, .int frlean, .ref fral, .ref fron])), (fral, .inl (kfral, 25, .inl ffral))]) hP hD
          generalize H1 = H at hP hS ⊢
          obtain ⟨x_280, ex_280⟩ : ∃ y : Int32, y = v3 + 1 := ⟨_, rfl⟩
          have gx_280 : gi x_280 1 25 := gi_add ex_280 g_272 (gi_c 1 1 (by decide)) (by decide)
          refine lv_iinc (v := x_280) (lv' := [(3, .int x_280), (0, .ref h0), (1, .ref fr), (2, .int v2)]) hx hb (dk_at dkX8_run 35 rfl) hl (k := 3) rfl (by rw [ex_280]; rfl) (by decide) rfl (fun ls hl => ?_)
          refine lv_goto (tgt := 44) hx hb (dk_at dkX8_run 36 rfl) (by decide) ?_
          exact ih.2 v2 x_280 w0_2 w0_3 w0_4 f_279 _ _ _ gv2 (gi_w gx_280 (by decide)) gw0_2 gw0_3 gw0_4 (by have qgw0_2 := gw0_2.1; have rgw0_2 := gw0_2.2; have qgv2 := gv2.1; have rgv2 := gv2.2; have y1 := (Int32.le_iff_toInt_le.mp (Int32.not_lt.mp c_269)); omega) (by have av2 := gv2.1; have bv2 := gv2.2; have av3 := gv3.1; have bv3 := gv3.2; have qgx_280 := gx_280.1; have rgx_280 := gx_280.2; have igx_280 : x_280.toInt = v3.toInt + 1 := (by have hc1 : (1 : Int32).toInt = 1 := (by decide); have h9 := gi_addI ex_280 (by have h1 := g_272.1; have h2 := (gi_c 1 1 (by decide)).1; have h3 := g_272.2; have h4 := (gi_c 1 1 (by decide)).2; omega) (by have h1 := g_272.1; have h2 := (gi_c 1 1 (by decide)).1; have h3 := g_272.2; have h4 := (gi_c 1 1 (by decide)).2; omega); rw [hc1] at h9; exact h9); have qgv3 := g_272.1; have rgv3 := g_272.2; have qgv2 := gv2.1; have rgv2 := gv2.2; omega) hP hD hS (lv_sub hl [1, 2, 3, 0] rfl)
abbrev pb_sX8_run (dC : Nat → ClassId) (dI : Nat → Nat → Nat) (A9 : Nat → Prop) (h0 : Nat) (co : Nat) (le : Nat) (fr : Nat) (fral : Nat) (months : Int32) (full : Int32) (lean : Int32) (kco : ClassId) (fco : Nat → Int32) (kle : ClassId) (fle : Nat → Int32) (frmonths : Int32) (frfull : Int32) (frlean : Int32) (fron : Nat) (kfral : ClassId) (ffral : Nat → Int32) (w0_2 : Int32) (w0_3 : Int32) (w0_4 : Int32) (z2 : Nat → Int32) (t : State) : Prop := gi w0_2 0 24 ∧ gi w0_3 0 5 ∧ gi w0_4 0 5 ∧ va_P (dC, dI) vwCl [(h0, .inr (8, [.ref co, .ref le, .int w0_2, .int w0_3, .int w0_4])), (co, .inl (kco, 325, .inl fco)), (le, .inl (kle, 3575, .inl z2)), (fr, .inr (3, [.int frmonths, .int frfull, .int frlean, .ref fral, .ref fron])), (fral, .inl (kfral, 25, .inl ffral))] t.heap ∧ va_D A9 [(h0, .inr (8, [.ref co, .ref le, .int w0_2, .int w0_3, .int w0_4])), (co, .inl (kco, 325, .inl fco)), (le, .inl (kle, 3575, .inl z2)), (fr, .inr (3, [.int frmonths, .int frfull, .int frlean, .ref fral, .ref fron])), (fral, .inl (kfral, 25, .inl ffral))]
set_option maxHeartbeats 4000000 in
set_option maxRecDepth 100000 in
theorem sX8_run (l : Launch) (dC : Nat → ClassId) (dI : Nat → Nat → Nat) (sz : Nat) (h0 : Nat) (co : Nat) (le : Nat) (fr : Nat) (fral : Nat) (months : Int32) (full : Int32) (lean : Int32) (kco : ClassId) (fco : Nat → Int32) (kle : ClassId) (fle : Nat → Int32) (frmonths : Int32) (frfull : Int32) (frlean : Int32) (fron : Nat) (kfral : ClassId) (ffral : Nat → Int32) (gmonths : gi months 0 24) (gfull : gi full 0 5) (glean : gi lean 0 5) (gfrmonths : gi frmonths 0 24) (gfrfull : gi frfull 0 5) (gfrlean : gi frlean 0 5) : Met l yX8_run (.code yX8_run cX8_run 4 none :: wsGA) ({ frames := 4, cells := 0, slots := 0, locals := 90 }) (va_Pc [.ref h0, .ref fr] (fun U => U.heap.size = sz ∧ va_P (dC, dI) vwCl [(h0, .inr (8, [.ref co, .ref le, .int months, .int full, .int lean])), (co, .inl (kco, 325, .inl fco)), (le, .inl (kle, 3575, .inl fle)), (fr, .inr (3, [.int frmonths, .int frfull, .int frlean, .ref fral, .ref fron])), (fral, .inl (kfral, 25, .inl ffral))] U.heap ∧ va_K (dC, dI) vwCl [(kco, .int), (kle, .int), (kfral, .int)] U ∧ va_D (fun _ => True) [(h0, .inr (8, [.ref co, .ref le, .int months, .int full, .int lean])), (co, .inl (kco, 325, .inl fco)), (le, .inl (kle, 3575, .inl fle)), (fr, .inr (3, [.int frmonths, .int frfull, .int frlean, .ref fral, .ref fron])), (fral, .inl (kfral, 25, .inl ffral))] ∧ nzA U)) (va_Qv (fun (u : Unit) => True) (fun _ t => ∃ (w0_2 : Int32) (w0_3 : Int32) (w0_4 : Int32) (z2 : Nat → Int32), pb_sX8_run dC dI (va_A [(h0, .inr (8, [.ref co, .ref le, .int months, .int full, .int lean])), (co, .inl (kco, 325, .inl fco)), (le, .inl (kle, 3575, .inl fle)), (fr, .inr (3, [.int frmonths, .int frfull, .int frlean, .ref fral, .ref fron])), (fral, .inl (kfral, 25, .inl ffral))] sz) h0 co le fr fral months full lean kco fco kle fle frmonths frfull frlean fron kfral ffral w0_2 w0_3 w0_4 z2 t) (va_A [(h0, .inr (8, [.ref co, .ref le, .int months, .int full, .int lean])), (co, .inl (kco, 325, .inl fco)), (le, .inl (kle, 3575, .inl fle)), (fr, .inr (3, [.int frmonths, .int frfull, .int frlean, .ref fral, .ref fron])), (fral, .inl (kfral, 25, .inl ffral))] sz)) 0 0 (va_A [(h0, .inr (8, [.ref co, .ref le, .int months, .int full, .int lean])), (co, .inl (kco, 325, .inl fco)), (le, .inl (kle, 3575, .inl fle)), (fr, .inr (3, [.int frmonths, .int frfull, .int frlean, .ref fral, .ref fron])), (fral, .inl (kfral, 25, .inl ffral))] sz) := by
  refine Met.ofW (cc := cX8_run) (maxL := 4) (ret := none) (by decide) rfl ?_
  intro p e s m args below meth c s₁ B hml hv
  obtain ⟨rfl, hsz, hP, hK, hD0, hz⟩ := hv
  have hx := B.exec
  have hb := B.bytes
  have hr := B.returns
  have hts := atoms_spec (ws := (.code yX8_run cX8_run 4 none :: wsGA)) B.pre
  have hown : s.vm.findClass RX8 = some m.cls := findClass_of_methodNamed B.named
  have hlocks := B.notSynchronized
  subst hsz
  have hD := hD0.self (sz := s.heap.size)
  generalize hAe : va_A [(h0, .inr (8, [.ref co, .ref le, .int months, .int full, .int lean])), (co, .inl (kco, 325, .inl fco)), (le, .inl (kle, 3575, .inl fle)), (fr, .inr (3, [.int frmonths, .int frfull, .int frlean, .ref fral, .ref fron])), (fral, .inl (kfral, 25, .inl ffral))] s.heap.size = A at hD ⊢
  have hA : ∀ q : Nat, s.heap.size ≤ q → A q := fun q h => by rw [← hAe]; exact Or.inr h
  have hS : va_S A s.heap s.heap [] := va_S.rf
  have hl := lv_entry ([.ref h0, .ref fr]) (n := 4) (Nat.le_of_ble_eq_true rfl)
  rw [lg_entry_eq]
  generalize (lg_sl ([.ref h0, .ref fr]) ++ List.replicate (4 - (lg_sl ([.ref h0, .ref fr])).length) Slot.unset).toArray = ls at hl ⊢
  have hl : lv_has ls 4 [(0, .ref h0), (1, .ref fr)] := hl
  refine lv_aload_n hx hb (dk_at dkX8_run 0 rfl) rfl (lv_at hl 0 rfl) ?_
  refine lv_aload_n hx hb (dk_at dkX8_run 1 rfl) rfl (lv_at hl 1 rfl) ?_
  refine va_get (D := (dC, dI)) (ci := 3) (v := .int frmonths) (C := RX3) (T := TX3) (N := 5) hx hb hts (fun w h => List.mem_cons_of_mem _ (jnGA_X3 w h)) hown hK hP 3 rfl rfl 0 (by decide) (hts _ (List.mem_cons_of_mem _ mGA_782)) (fun _ h9 => h9) rfl (dk_at dkX8_run 2 rfl) ?_
  refine va_put (D := (dC, dI)) (ci := 8) (v := .int frmonths) (ty := .int) (C := RX8) (T := TX8) (N := 5) hx hb hts (fun w h => List.mem_cons_of_mem _ (jnGA_X8 w h)) tyX8 tyX8_ok nmX8 hown hK hP hD hS 0 rfl rfl 2 (by decide) (hts _ (List.mem_cons_of_mem _ mGA_783)) (fun _ h9 => h9) rfl (by decide +kernel) rfl rfl (Nat.le_of_ble_eq_true rfl) (dk_at dkX8_run 3 rfl) (fun H locs hP hD hS => ?_)
  obtain ⟨hP, hD⟩ := gz_both (w := [(h0, .inr (8, [.ref co, .ref le, .int frmonths, .int full, .int lean])), (co, .inl (kco, 325, .inl fco)), (le, .inl (kle, 3575, .inl fle)), (fr, .inr (3, [.int frmonths, .int frfull, .int frlean, .ref fral, .ref fron])), (fral, .inl (kfral, 25, .inl ffral))]) hP hD
  refine lv_aload_n hx hb (dk_at dkX8_run 4 rfl) rfl (lv_at hl 0 rfl) ?_
  refine lv_aload_n hx hb (dk_at dkX8_run 5 rfl) rfl (lv_at hl 1 rfl) ?_
  refine va_get (D := (dC, dI)) (ci := 3) (v := .int frfull) (C := RX3) (T := TX3) (N := 5) hx hb hts (fun w h => List.mem_cons_of_mem _ (jnGA_X3 w h)) hown hK hP 3 rfl rfl 1 (by decide) (hts _ (List.mem_cons_of_mem _ mGA_784)) (fun _ h9 => h9) rfl (dk_at dkX8_run 6 rfl) ?_
  refine va_put (D := (dC, dI)) (ci := 8) (v := .int frfull) (ty := .int) (C := RX8) (T := TX8) (N := 5) hx hb hts (fun w h => List.mem_cons_of_mem _ (jnGA_X8 w h)) tyX8 tyX8_ok nmX8 hown hK hP hD hS 0 rfl rfl 3 (by decide) (hts _ (List.mem_cons_of_mem _ mGA_785)) (fun _ h9 => h9) rfl (by decide +kernel) rfl rfl (Nat.le_of_ble_eq_true rfl) (dk_at dkX8_run 7 rfl) (fun H locs hP hD hS => ?_)
  obtain ⟨hP, hD⟩ := gz_both (w := [(h0, .inr (8, [.ref co, .ref le, .int frmonths, .int frfull, .int lean])), (co, .inl (kco, 325, .inl fco)), (le, .inl (kle, 3575, .inl fle)), (fr, .inr (3, [.int frmonths, .int frfull, .int frlean, .ref fral, .ref fron])), (fral, .inl (kfral, 25, .inl ffral))]) hP hD
  refine lv_aload_n hx hb (dk_at dkX8_run 8 rfl) rfl (lv_at hl 0 rfl) ?_
  refine lv_aload_n hx hb (dk_at dkX8_run 9 rfl) rfl (lv_at hl 1 rfl) ?_
  refine va_get (D := (dC, dI)) (ci := 3) (v := .int frlean) (C := RX3) (T := TX3) (N := 5) hx hb hts (fun w h => List.mem_cons_of_mem _ (jnGA_X3 w h)) hown hK hP 3 rfl rfl 2 (by decide) (hts _ (List.mem_cons_of_mem _ mGA_786)) (fun _ h9 => h9) rfl (dk_at dkX8_run 10 rfl) ?_
  refine va_put (D := (dC, dI)) (ci := 8) (v := .int frlean) (ty := .int) (C := RX8) (T := TX8) (N := 5) hx hb hts (fun w h => List.mem_cons_of_mem _ (jnGA_X8 w h)) tyX8 tyX8_ok nmX8 hown hK hP hD hS 0 rfl rfl 4 (by decide) (hts _ (List.mem_cons_of_mem _ mGA_787)) (fun _ h9 => h9) rfl (by decide +kernel) rfl rfl (Nat.le_of_ble_eq_true rfl) (dk_at dkX8_run 11 rfl) (fun H locs hP hD hS => ?_)
  obtain ⟨hP, hD⟩ := gz_both (w := [(h0, .inr (8, [.ref co, .ref le, .int frmonths, .int frfull, .int frlean])), (co, .inl (kco, 325, .inl fco)), (le, .inl (kle, 3575, .inl fle)), (fr, .inr (3, [.int frmonths, .int frfull, .int frlean, .ref fral, .ref fron])), (fral, .inl (kfral, 25, .inl ffral))]) hP hD
  refine lv_aload_n hx hb (dk_at dkX8_run 12 rfl) rfl (lv_at hl 0 rfl) ?_
  refine va_get (D := (dC, dI)) (ci := 8) (v := .ref le) (C := RX8) (T := TX8) (N := 5) hx hb hts (fun w h => List.mem_cons_of_mem _ (jnGA_X8 w h)) hown hK hP 0 rfl rfl 1 (by decide) (hts _ (List.mem_cons_of_mem _ mGA_118)) (fun _ h9 => h9) rfl (dk_at dkX8_run 13 rfl) ?_
  refine lv_ldc (own := RX8) (v := 1000000) hx hb hown (hts _ (List.mem_cons_of_mem _ mGA_788)) (dk_at dkX8_run 14 rfl) ?_
  obtain ⟨hPc, hDc, hFc⟩ := gz_cut (wc := [(le, .inl (kle, 3575, .inl fle))]) hP hD hS hA [2] (by decide) rfl
  have hKc := hK.sub (tys' := [(kle, .int)]) [1] rfl
  refine va_callv (va_runS (As := [.ref le, .int 1000000]) (rest := []) ⟨hx, hb, hml, hown, hts⟩ (sJ7_fill3575 l dC dI H.size le kle fle 1000000) (⟨callB_of 2 hts (gz_gP mGA_568 goodGA) rfl rfl rfl (hts _ (List.mem_cons_of_mem _ mGA_567)) (hts _ (List.mem_cons_of_mem _ mGA_773)) (by decide +kernel) ⟨Nat.le_of_ble_eq_true rfl, Nat.le_of_ble_eq_true rfl⟩, (hts _ (List.mem_cons_of_mem _ mGA_566))⟩) ⟨bl_I (bl_a bl_sz (bl_a bl_P (bl_a bl_K (bl_a bl_c bl_nz)))), fun U hU hW => ⟨rfl, by rw [hU], by rw [hU]; exact hPc, va_K.moved hW.alike hKc, hDc.weaken (fun _ _ _ _ => trivial), nzA_warm hW hz⟩⟩ rfl rfl hl.1 rfl (lv_room (Nat.le_of_ble_eq_true rfl)) (dk_at dkX8_run 15 rfl) ⟨Nat.zero_le _, Nat.zero_le _⟩) hS (fun q _ h => hFc q h) hFc (fun u t H1 locs ht hvm hw hB hz1 hk1 hS => ?_)
  obtain ⟨f_282, hB⟩ := hB
  obtain ⟨hP1, hD1⟩ := hB
  rw [ht] at hP1
  obtain ⟨hP, hD⟩ := gz_back hP hD hk1 hFc hP1 hD1 [2] rfl rfl
  obtain ⟨hP, hD⟩ := gz_both (w := [(h0, .inr (8, [.ref co, .ref le, .int frmonths, .int frfull, .int frlean])), (co, .inl (kco, 325, .inl fco)), (le, .inl (kle, 3575, .inl f_282)), (fr, .inr (3, [.int frmonths, .int frfull, .int frlean, .ref fral, .ref fron])), (fral, .inl (kfral, 25, .inl ffral))]) hP hD
  generalize H1 = H at hP hS ⊢
  refine lv_aload_n hx hb (dk_at dkX8_run 16 rfl) rfl (lv_at hl 0 rfl) ?_
  refine va_get (D := (dC, dI)) (ci := 8) (v := .int frmonths) (C := RX8) (T := TX8) (N := 5) hx hb hts (fun w h => List.mem_cons_of_mem _ (jnGA_X8 w h)) hown hK hP 0 rfl rfl 2 (by decide) (hts _ (List.mem_cons_of_mem _ mGA_783)) (fun _ h9 => h9) rfl (dk_at dkX8_run 17 rfl) ?_
  refine lv_istore_n (lv' := [(2, .int frmonths), (0, .ref h0), (1, .ref fr)]) hx hb (dk_at dkX8_run 18 rfl) rfl hl (by decide) rfl (fun ls hl => ?_)
  refine (lp_sX8_run h0 co le fr fral months full lean kco fco kle fle frmonths frfull frlean fron kfral ffral gmonths gfull glean gfrmonths gfrfull gfrlean hx hb hml hown hts hK hz hA (Nat.le_of_ble_eq_true rfl) (Nat.le_of_ble_eq_true rfl) (Nat.zero_le _) (Nat.zero_le _) (fun w0_2 w0_3 w0_4 z2 H locs ls gw0_2 gw0_3 gw0_4 hP hD hS hl => ?_) 1522).1 frmonths frmonths frfull frlean f_282 _ _ _ (gi_w gfrmonths (by decide)) gfrmonths gfrfull gfrlean (by have qgfrmonths := gfrmonths.1; have rgfrmonths := gfrmonths.2; omega) (by have qgfrmonths := gfrmonths.1; have rgfrmonths := gfrmonths.2; omega) hP hD hS (lv_sub hl [1, 2, 0] rfl)
  · skip
    exact W.vret hx hb hr (fun t ht hW => ⟨⟨(), rfl, trivial, w0_2, w0_3, w0_4, z2, gw0_2, gw0_3, gw0_4, by rw [ht]; exact hP, hD⟩, hS.F ht⟩) hS.2.2 (dk_at dkX8_run 39 rfl)
noncomputable def lsX8_fullBits : List (Nat × Instr × Nat) := [(0, .iconst 0, 1), (1, .istore_n 1, 1), (2, .iconst 0, 1), (3, .istore_n 2, 1), (4, .iconst 0, 1), (5, .istore_n 3, 1), (6, .iconst 0, 1), (7, .istore 4, 2), (9, .iload 4, 2), (11, .aload_n 0, 1), (12, .getfield 34, 3), (15, .if_icmp .ge 63, 3), (18, .aload_n 0, 1), (19, .iload 4, 2), (21, .iload_n 2, 1), (22, .iload_n 3, 1), (23, .invokevirtual 63, 3), (26, .aload_n 0, 1), (27, .iload 4, 2), (29, .iload_n 2, 1), (30, .iload_n 3, 1), (31, .invokevirtual 60, 3), (34, .if_icmp .gt 19, 3), (37, .iload_n 3, 1), (38, .aload_n 0, 1), (39, .getfield 38, 3), (42, .aload_n 0, 1), (43, .getfield 42, 3), (46, .invokestatic 77, 3), (49, .istore_n 3, 1), (50, .goto 22, 3), (53, .iload_n 1, 1), (54, .iconst 1, 1), (55, .iload 4, 2), (57, .ishl, 1), (58, .ior, 1), (59, .istore_n 1, 1), (60, .iload_n 3, 1), (61, .aload_n 0, 1), (62, .getfield 38, 3), (65, .invokestatic 74, 3), (68, .istore_n 3, 1), (69, .iinc 2 1, 3), (72, .iinc 4 1, 3), (75, .goto (-66), 3), (78, .iload_n 1, 1), (79, .ireturn, 1)]
theorem dkX8_fullBits : dkAll cX8_fullBits lsX8_fullBits = true := by decide +kernel
set_option maxHeartbeats 4000000 in
set_option maxRecDepth 100000 in
theorem lp_sX8_fullBits {p : Program} {l : Launch} {e : Env} {R : Room} {s : State} {m : MethodId} {args : Array Value} {below : List Frame} {meth : Method} {c : Code} {Q : State → Prop} {A : Nat → Prop} {cells slots : Nat} {dC : Nat → ClassId} {dI : Nat → Nat → Nat} (h0 : Nat) (le : Nat) (co : Nat) (months : Int32) (full : Int32) (lean : Int32) (kle : ClassId) (fle : Nat → Int32) (gmonths : gi months 0 24) (gfull : gi full 0 5) (glean : gi lean 0 5) (hx : p.tables.exec = Jvm.exec) (hb : c.code = cX8_fullBits) (hml : c.maxLocals = 5) (hown : s.vm.findClass RX8 = some m.cls) (hts : ∀ w ∈ ((.code yX8_fullBits cX8_fullBits 5 (some .int) :: wsGA) : List Cond), w.before args s = true) (hK : va_K (dC, dI) vwCl [(kle, .int)] s) (hz : nzA s) (hRf : 3 ≤ R.frames) (hRl : 66 ≤ R.locals) (hRc : cells ≤ R.cells) (hRs : slots ≤ R.slots) (kr79 : ∀ (v : Int32) (H : Heap) (locs : List Loc) (ls : Array Slot), va_P (dC, dI) vwCl [(h0, .inr (8, [.ref co, .ref le, .int months, .int full, .int lean])), (le, .inl (kle, 3575, .inl fle))] H → va_S A s.heap H locs → lv_has ls 5 [] → W p l e R s m args below meth c H locs cells slots Q (F0 m 79 ls [.int v])) : ∀ z : Nat, (∀ (v1 : Int32) (v2 : Int32) (v3 : Int32) (v4 : Int32) (H : Heap) (locs : List Loc) (ls : Array Slot), gi v2 0 24 → gi v3 0 10 → gi v4 0 24 → v2.toInt ≤ v4.toInt → 49 + (-2) * v4.toInt < (z : Int) → va_P (dC, dI) vwCl [(h0, .inr (8, [.ref co, .ref le, .int months, .int full, .int lean])), (le, .inl (kle, 3575, .inl fle))] H → va_S A s.heap H locs → lv_has ls 5 [(0, .ref h0), (1, .int v1), (2, .int v2), (3, .int v3), (4, .int v4)] → W p l e R s m args below meth c H locs cells slots Q (F0 m 9 ls [])) := by
  intro z
  induction z with
  | zero =>
    intro v1 v2 v3 v4 H locs ls gv2 gv3 gv4 hle_gv2_gv4 hmu hP hS hl
    exact absurd hmu (by have hv41 := gv4.1; have hv42 := gv4.2; omega)
  | succ z ih =>
      intro v1 v2 v3 v4 H locs ls gv2 gv3 gv4 hle_gv2_gv4 hmu hP hS hl
      refine lv_iload hx hb (dk_at dkX8_fullBits 8 rfl) (lv_at hl 4 rfl) ?_
      refine lv_aload_n hx hb (dk_at dkX8_fullBits 9 rfl) rfl (lv_at hl 0 rfl) ?_
      refine va_get (D := (dC, dI)) (ci := 8) (v := .int months) (C := RX8) (T := TX8) (N := 5) hx hb hts (fun w h => List.mem_cons_of_mem _ (jnGA_X8 w h)) hown hK hP 0 rfl rfl 2 (by decide) (hts _ (List.mem_cons_of_mem _ mGA_783)) (fun _ h9 => h9) rfl (dk_at dkX8_fullBits 10 rfl) ?_
      refine lv_icmp_ge (tgt := 78) hx hb (dk_at dkX8_fullBits 11 rfl) (by decide) (fun c_227 => ?_) (fun c_227 => ?_)
      · refine lv_iload_n hx hb (dk_at dkX8_fullBits 45 rfl) rfl (lv_at hl 1 rfl) ?_
        exact kr79 v1 _ _ _ hP hS (lv_sub hl [] rfl)
      · have g_228 : gi v4 0 23 := gi_lt_l (Int32.not_le.mp c_227) gv4 gmonths (by decide)
        have g_229 : gi v2 0 23 := gi_rel hle_gv2_gv4 gv2 g_228
        have g_230 : gi months 1 24 := gi_lt_r (Int32.not_le.mp c_227) gv4 gmonths (by decide)
        refine lv_aload_n hx hb (dk_at dkX8_fullBits 12 rfl) rfl (lv_at hl 0 rfl) ?_
        refine lv_iload hx hb (dk_at dkX8_fullBits 13 rfl) (lv_at hl 4 rfl) ?_
        refine lv_iload_n hx hb (dk_at dkX8_fullBits 14 rfl) rfl (lv_at hl 2 rfl) ?_
        refine lv_iload_n hx hb (dk_at dkX8_fullBits 15 rfl) rfl (lv_at hl 3 rfl) ?_
        have hPc := hP.sub (ws' := [(h0, .inr (8, [.ref co, .ref le, .int months, .int full, .int lean])), (le, .inl (kle, 3575, .inl fle))]) [0, 1] rfl
        have hKc := hK.sub (tys' := [(kle, .int)]) [0] rfl
        refine va_calli (va_runV (As := [.int v4, .int v2, .int v3]) (rest := []) ⟨hx, hb, hml, hown, hts⟩ (sX8_withLean l dC dI h0 le co months full lean kle fle v4 v2 v3 (gi_w g_230 (by decide)) gfull glean g_228 (gi_w g_229 (by decide)) gv3) (cwV 3 hts (gz_gV mGA_799 mGA_800 mGA_801 mGA_31 mGA_802 goodGA) rfl rfl rfl (by decide +kernel) ⟨Nat.le_trans (Nat.le_of_ble_eq_true rfl) hRf, Nat.le_trans (Nat.le_of_ble_eq_true rfl) hRl⟩) ⟨bl_I (bl_a bl_P (bl_a bl_K bl_nz)), va_recv hKc hPc (ci := 8) (q0 := 0) rfl rfl, fun U hU hW => ⟨rfl, by rw [hU]; exact hPc, va_K.moved hW.alike hKc, nzA_warm hW hz⟩⟩ rfl rfl hl.1 rfl (lv_room (Nat.le_of_ble_eq_true rfl)) (dk_at dkX8_fullBits 16 rfl) ⟨hRc, hRs⟩) hS (fun q _ h => h.elim) (fun q h => h.elim) (fun r_231 u t H1 locs ht hvm hw hB hz1 hk1 hS => ?_)
        have hP := gz_keep hP hk1
        generalize H1 = H at hP hS ⊢
        refine lv_aload_n hx hb (dk_at dkX8_fullBits 17 rfl) rfl (lv_at hl 0 rfl) ?_
        refine lv_iload hx hb (dk_at dkX8_fullBits 18 rfl) (lv_at hl 4 rfl) ?_
        refine lv_iload_n hx hb (dk_at dkX8_fullBits 19 rfl) rfl (lv_at hl 2 rfl) ?_
        refine lv_iload_n hx hb (dk_at dkX8_fullBits 20 rfl) rfl (lv_at hl 3 rfl) ?_
        have hPc := hP.sub (ws' := [(h0, .inr (8, [.ref co, .ref le, .int months, .int full, .int lean])), (le, .inl (kle, 3575, .inl fle))]) [0, 1] rfl
        have hKc := hK.sub (tys' := [(kle, .int)]) [0] rfl
        refine va_calli (va_runV (As := [.int v4, .int v2, .int v3]) (rest := [.int r_231]) ⟨hx, hb, hml, hown, hts⟩ (sX8_withFull l dC dI h0 le co months full lean kle fle v4 v2 v3 (gi_w g_230 (by decide)) gfull glean g_228 g_229 gv3) (cwV 3 hts (gz_gV mGA_795 mGA_796 mGA_797 mGA_31 mGA_798 goodGA) rfl rfl rfl (by decide +kernel) ⟨Nat.le_trans (Nat.le_of_ble_eq_true rfl) hRf, Nat.le_trans (Nat.le_of_ble_eq_true rfl) hRl⟩) ⟨bl_I (bl_a bl_P (bl_a bl_K bl_nz)), va_recv hKc hPc (ci := 8) (q0 := 0) rfl rfl, fun U hU hW => ⟨rfl, by rw [hU]; exact hPc, va_K.moved hW.alike hKc, nzA_warm hW hz⟩⟩ rfl rfl hl.1 rfl (lv_room (Nat.le_of_ble_eq_true rfl)) (dk_at dkX8_fullBits 21 rfl) ⟨hRc, hRs⟩) hS (fun q _ h => h.elim) (fun q h => h.elim) (fun r_232 u t H1 locs ht hvm hw hB hz1 hk1 hS => ?_)
        have hP := gz_keep hP hk1
        generalize H1 = H at hP hS ⊢
        refine lv_icmp_gt (tgt := 53) hx hb (dk_at dkX8_fullBits 22 rfl) (by decide) (fun c_233 => ?_) (fun c_233 => ?_)
        · have g_234 : gi r_232 (-2147483648) 2147483646 := gi_lt_l c_233 (gi_any r_232) (gi_any r_231) (by decide)
          have g_235 : gi r_231 (-2147483647) 2147483647 := gi_lt_r c_233 (gi_any r_232) (gi_any r_231) (by decide)
          refine lv_iload_n hx hb (dk_at dkX8_fullBits 31 rfl) rfl (lv_at hl 1 rfl) ?_
          refine lv_iconst (v := 1) hx hb (dk_at dkX8_fullBits 32 rfl) (by decide) ?_
          refine lv_iload hx hb (dk_at dkX8_fullBits 33 rfl) (lv_at hl 4 rfl) ?_
          refine lv_ishl hx hb (dk_at dkX8_fullBits 34 rfl) ?_
          refine lv_topi (fun x_236 ex_236 => ?_)
          refine lv_ior hx hb (dk_at dkX8_fullBits 35 rfl) ?_
          refine lv_topi (fun x_237 ex_237 => ?_)
          refine lv_istore_n (lv' := [(1, .int x_237), (0, .ref h0), (2, .int v2), (3, .int v3), (4, .int v4)]) hx hb (dk_at dkX8_fullBits 36 rfl) rfl hl (by decide) rfl (fun ls hl => ?_)
          refine lv_iload_n hx hb (dk_at dkX8_fullBits 37 rfl) rfl (lv_at hl 3 rfl) ?_
          refine lv_aload_n hx hb (dk_at dkX8_fullBits 38 rfl) rfl (lv_at hl 1 rfl) ?_
          refine va_get (D := (dC, dI)) (ci := 8) (v := .int full) (C := RX8) (T := TX8) (N := 5) hx hb hts (fun w h => List.mem_cons_of_mem _ (jnGA_X8 w h)) hown hK hP 0 rfl rfl 3 (by decide) (hts _ (List.mem_cons_of_mem _ mGA_785)) (fun _ h9 => h9) rfl (dk_at dkX8_fullBits 39 rfl) ?_
          have hPc := hP.sub (ws' := []) [] rfl
          have hKc := hK.sub (tys' := []) [] rfl
          refine va_calli (va_runSN (As := [.int v3, .int full]) (rest := []) ⟨hx, hb, hml, hown, hts⟩ (sX11_runWithFull l dC dI v3 full gv3 gfull) (⟨va_cnB 2 hts (gz_gP mGA_508 goodGA) rfl rfl rfl (nzA_X8_74 hz) (hts _ (List.mem_cons_of_mem _ mGA_1)) (by decide +kernel) ⟨Nat.le_trans (Nat.le_of_ble_eq_true rfl) hRf, Nat.le_trans (Nat.le_of_ble_eq_true rfl) hRl⟩, (hts _ (List.mem_cons_of_mem _ mGA_507)), trivial⟩) ⟨bl_I (bl_a bl_P (bl_a bl_K bl_nz)), fun U hU hW => ⟨rfl, by rw [hU]; exact hPc, va_K.moved hW.alike hKc, nzA_warm hW hz⟩⟩ rfl rfl hl.1 rfl (lv_room (Nat.le_of_ble_eq_true rfl)) (dk_at dkX8_fullBits 40 rfl) ⟨hRc, hRs⟩) hS (fun q _ h => h.elim) (fun q h => h.elim) (fun r_238 u t H1 locs ht hvm hw hB hz1 hk1 hS => ?_)
          have hP := gz_keep hP hk1
          generalize H1 = H at hP hS ⊢
          have gr_238 : gi r_238 0 5 := hw
          refine lv_istore_n (lv' := [(3, .int r_238), (1, .int x_237), (0, .ref h0), (2, .int v2), (4, .int v4)]) hx hb (dk_at dkX8_fullBits 41 rfl) rfl hl (by decide) rfl (fun ls hl => ?_)
          obtain ⟨x_239, ex_239⟩ : ∃ y : Int32, y = v2 + 1 := ⟨_, rfl⟩
          have gx_239 : gi x_239 1 24 := gi_add ex_239 g_229 (gi_c 1 1 (by decide)) (by decide)
          refine lv_iinc (v := x_239) (lv' := [(2, .int x_239), (3, .int r_238), (1, .int x_237), (0, .ref h0), (4, .int v4)]) hx hb (dk_at dkX8_fullBits 42 rfl) hl (k := 3) rfl (by rw [ex_239]; rfl) (by decide) rfl (fun ls hl => ?_)
          obtain ⟨x_240, ex_240⟩ : ∃ y : Int32, y = v4 + 1 := ⟨_, rfl⟩
          have gx_240 : gi x_240 1 24 := gi_add ex_240 g_228 (gi_c 1 1 (by decide)) (by decide)
          refine lv_iinc (v := x_240) (lv' := [(4, .int x_240), (2, .int x_239), (3, .int r_238), (1, .int x_237), (0, .ref h0)]) hx hb (dk_at dkX8_fullBits 43 rfl) hl (k := 4) rfl (by rw [ex_240]; rfl) (by decide) rfl (fun ls hl => ?_)
          refine lv_goto (tgt := 9) hx hb (dk_at dkX8_fullBits 44 rfl) (by decide) ?_
          exact ih x_237 x_239 r_238 x_240 _ _ _ (gi_w gx_239 (by decide)) (gi_w gr_238 (by decide)) (gi_w gx_240 (by decide)) (by have qgx_240 := gx_240.1; have rgx_240 := gx_240.2; have igx_240 : x_240.toInt = v4.toInt + 1 := (by have hc1 : (1 : Int32).toInt = 1 := (by decide); have h9 := gi_addI ex_240 (by have h1 := g_228.1; have h2 := (gi_c 1 1 (by decide)).1; have h3 := g_228.2; have h4 := (gi_c 1 1 (by decide)).2; omega) (by have h1 := g_228.1; have h2 := (gi_c 1 1 (by decide)).1; have h3 := g_228.2; have h4 := (gi_c 1 1 (by decide)).2; omega); rw [hc1] at h9; exact h9); have qgv4 := g_228.1; have rgv4 := g_228.2; have qgx_239 := gx_239.1; have rgx_239 := gx_239.2; have igx_239 : x_239.toInt = v2.toInt + 1 := (by have hc1 : (1 : Int32).toInt = 1 := (by decide); have h9 := gi_addI ex_239 (by have h1 := g_229.1; have h2 := (gi_c 1 1 (by decide)).1; have h3 := g_229.2; have h4 := (gi_c 1 1 (by decide)).2; omega) (by have h1 := g_229.1; have h2 := (gi_c 1 1 (by decide)).1; have h3 := g_229.2; have h4 := (gi_c 1 1 (by decide)).2; omega); rw [hc1] at h9; exact h9); have qgv2 := g_229.1; have rgv2 := g_229.2; have y1 := (Int32.lt_iff_toInt_lt.mp (Int32.not_le.mp c_227)); have y2 := (Int32.lt_iff_toInt_lt.mp c_233); omega) (by have av4 := gv4.1; have bv4 := gv4.2; have qgx_240 := gx_240.1; have rgx_240 := gx_240.2; have igx_240 : x_240.toInt = v4.toInt + 1 := (by have hc1 : (1 : Int32).toInt = 1 := (by decide); have h9 := gi_addI ex_240 (by have h1 := g_228.1; have h2 := (gi_c 1 1 (by decide)).1; have h3 := g_228.2; have h4 := (gi_c 1 1 (by decide)).2; omega) (by have h1 := g_228.1; have h2 := (gi_c 1 1 (by decide)).1; have h3 := g_228.2; have h4 := (gi_c 1 1 (by decide)).2; omega); rw [hc1] at h9; exact h9); have qgv4 := g_228.1; have rgv4 := g_228.2; omega) hP hS (lv_sub hl [4, 3, 1, 2, 0] rfl)
        · refine lv_iload_n hx hb (dk_at dkX8_fullBits 23 rfl) rfl (lv_at hl 3 rfl) ?_
          refine lv_aload_n hx hb (dk_at dkX8_fullBits 24 rfl) rfl (lv_at hl 0 rfl) ?_
          refine va_get (D := (dC, dI)) (ci := 8) (v := .int full) (C := RX8) (T := TX8) (N := 5) hx hb hts (fun w h => List.mem_cons_of_mem _ (jnGA_X8 w h)) hown hK hP 0 rfl rfl 3 (by decide) (hts _ (List.mem_cons_of_mem _ mGA_785)) (fun _ h9 => h9) rfl (dk_at dkX8_fullBits 25 rfl) ?_
          refine lv_aload_n hx hb (dk_at dkX8_fullBits 26 rfl) rfl (lv_at hl 0 rfl) ?_
          refine va_get (D := (dC, dI)) (ci := 8) (v := .int lean) (C := RX8) (T := TX8) (N := 5) hx hb hts (fun w h => List.mem_cons_of_mem _ (jnGA_X8 w h)) hown hK hP 0 rfl rfl 4 (by decide) (hts _ (List.mem_cons_of_mem _ mGA_787)) (fun _ h9 => h9) rfl (dk_at dkX8_fullBits 27 rfl) ?_
          have hPc := hP.sub (ws' := []) [] rfl
          have hKc := hK.sub (tys' := []) [] rfl
          refine va_calli (va_runSN (As := [.int v3, .int full, .int lean]) (rest := []) ⟨hx, hb, hml, hown, hts⟩ (sX11_runWithLean l dC dI v3 full lean gv3 gfull glean) (⟨va_cnB 3 hts (gz_gP mGA_510 goodGA) rfl rfl rfl (nzA_X8_77 hz) (hts _ (List.mem_cons_of_mem _ mGA_1)) (by decide +kernel) ⟨Nat.le_trans (Nat.le_of_ble_eq_true rfl) hRf, Nat.le_trans (Nat.le_of_ble_eq_true rfl) hRl⟩, (hts _ (List.mem_cons_of_mem _ mGA_509)), trivial⟩) ⟨bl_I (bl_a bl_P (bl_a bl_K bl_nz)), fun U hU hW => ⟨rfl, by rw [hU]; exact hPc, va_K.moved hW.alike hKc, nzA_warm hW hz⟩⟩ rfl rfl hl.1 rfl (lv_room (Nat.le_of_ble_eq_true rfl)) (dk_at dkX8_fullBits 28 rfl) ⟨hRc, hRs⟩) hS (fun q _ h => h.elim) (fun q h => h.elim) (fun r_241 u t H1 locs ht hvm hw hB hz1 hk1 hS => ?_)
          have hP := gz_keep hP hk1
          generalize H1 = H at hP hS ⊢
          have gr_241 : gi r_241 0 10 := hw
          refine lv_istore_n (lv' := [(3, .int r_241), (0, .ref h0), (1, .int v1), (2, .int v2), (4, .int v4)]) hx hb (dk_at dkX8_fullBits 29 rfl) rfl hl (by decide) rfl (fun ls hl => ?_)
          refine lv_goto (tgt := 72) hx hb (dk_at dkX8_fullBits 30 rfl) (by decide) ?_
          obtain ⟨x_242, ex_242⟩ : ∃ y : Int32, y = v4 + 1 := ⟨_, rfl⟩
          have gx_242 : gi x_242 1 24 := gi_add ex_242 g_228 (gi_c 1 1 (by decide)) (by decide)
          refine lv_iinc (v := x_242) (lv' := [(4, .int x_242), (3, .int r_241), (0, .ref h0), (1, .int v1), (2, .int v2)]) hx hb (dk_at dkX8_fullBits 43 rfl) hl (k := 4) rfl (by rw [ex_242]; rfl) (by decide) rfl (fun ls hl => ?_)
          refine lv_goto (tgt := 9) hx hb (dk_at dkX8_fullBits 44 rfl) (by decide) ?_
          exact ih v1 v2 r_241 x_242 _ _ _ (gi_w g_229 (by decide)) gr_241 (gi_w gx_242 (by decide)) (by have qgx_242 := gx_242.1; have rgx_242 := gx_242.2; have igx_242 : x_242.toInt = v4.toInt + 1 := (by have hc1 : (1 : Int32).toInt = 1 := (by decide); have h9 := gi_addI ex_242 (by have h1 := g_228.1; have h2 := (gi_c 1 1 (by decide)).1; have h3 := g_228.2; have h4 := (gi_c 1 1 (by decide)).2; omega) (by have h1 := g_228.1; have h2 := (gi_c 1 1 (by decide)).1; have h3 := g_228.2; have h4 := (gi_c 1 1 (by decide)).2; omega); rw [hc1] at h9; exact h9); have qgv4 := g_228.1; have rgv4 := g_228.2; have qgv2 := g_229.1; have rgv2 := g_229.2; have y1 := (Int32.lt_iff_toInt_lt.mp (Int32.not_le.mp c_227)); have y2 := (Int32.le_iff_toInt_le.mp (Int32.not_lt.mp c_233)); omega) (by have av4 := gv4.1; have bv4 := gv4.2; have qgx_242 := gx_242.1; have rgx_242 := gx_242.2; have igx_242 : x_242.toInt = v4.toInt + 1 := (by have hc1 : (1 : Int32).toInt = 1 := (by decide); have h9 := gi_addI ex_242 (by have h1 := g_228.1; have h2 := (gi_c 1 1 (by decide)).1; have h3 := g_228.2; have h4 := (gi_c 1 1 (by decide)).2; omega) (by have h1 := g_228.1; have h2 := (gi_c 1 1 (by decide)).1; have h3 := g_228.2; have h4 := (gi_c 1 1 (by decide)).2; omega); rw [hc1] at h9; exact h9); have qgv4 := g_228.1; have rgv4 := g_228.2; omega) hP hS (lv_sub hl [2, 3, 4, 1, 0] rfl)
set_option maxHeartbeats 4000000 in
set_option maxRecDepth 100000 in
theorem sX8_fullBits (l : Launch) (dC : Nat → ClassId) (dI : Nat → Nat → Nat) (h0 : Nat) (le : Nat) (co : Nat) (months : Int32) (full : Int32) (lean : Int32) (kle : ClassId) (fle : Nat → Int32) (gmonths : gi months 0 24) (gfull : gi full 0 5) (glean : gi lean 0 5) : Met l yX8_fullBits (.code yX8_fullBits cX8_fullBits 5 (some .int) :: wsGA) ({ frames := 3, cells := 0, slots := 0, locals := 66 }) (va_Pc [.ref h0] (fun U => va_P (dC, dI) vwCl [(h0, .inr (8, [.ref co, .ref le, .int months, .int full, .int lean])), (le, .inl (kle, 3575, .inl fle))] U.heap ∧ va_K (dC, dI) vwCl [(kle, .int)] U ∧ nzA U)) (va_Qi (fun (r : Int32) (u : Unit) => gi r (-2147483648) 2147483647) (fun _ _ => True) (fun _ => False)) 0 0 (fun _ => False) := by
  refine Met.ofW (cc := cX8_fullBits) (maxL := 5) (ret := (some .int)) (by decide) rfl ?_
  intro p e s m args below meth c s₁ B hml hv
  obtain ⟨rfl, hP, hK, hz⟩ := hv
  have hx := B.exec
  have hb := B.bytes
  have hr := B.returns
  have hts := atoms_spec (ws := (.code yX8_fullBits cX8_fullBits 5 (some .int) :: wsGA)) B.pre
  have hown : s.vm.findClass RX8 = some m.cls := findClass_of_methodNamed B.named
  have hlocks := B.notSynchronized
  have hS : va_S (fun _ => False) s.heap s.heap [] := va_S.rf
  have hl := lv_entry ([.ref h0]) (n := 5) (Nat.le_of_ble_eq_true rfl)
  rw [lg_entry_eq]
  generalize (lg_sl ([.ref h0]) ++ List.replicate (5 - (lg_sl ([.ref h0])).length) Slot.unset).toArray = ls at hl ⊢
  have hl : lv_has ls 5 [(0, .ref h0)] := hl
  refine lv_iconst (v := 0) hx hb (dk_at dkX8_fullBits 0 rfl) (by decide) ?_
  refine lv_istore_n (lv' := [(1, .int 0), (0, .ref h0)]) hx hb (dk_at dkX8_fullBits 1 rfl) rfl hl (by decide) rfl (fun ls hl => ?_)
  refine lv_iconst (v := 0) hx hb (dk_at dkX8_fullBits 2 rfl) (by decide) ?_
  refine lv_istore_n (lv' := [(2, .int 0), (1, .int 0), (0, .ref h0)]) hx hb (dk_at dkX8_fullBits 3 rfl) rfl hl (by decide) rfl (fun ls hl => ?_)
  refine lv_iconst (v := 0) hx hb (dk_at dkX8_fullBits 4 rfl) (by decide) ?_
  refine lv_istore_n (lv' := [(3, .int 0), (2, .int 0), (1, .int 0), (0, .ref h0)]) hx hb (dk_at dkX8_fullBits 5 rfl) rfl hl (by decide) rfl (fun ls hl => ?_)
  refine lv_iconst (v := 0) hx hb (dk_at dkX8_fullBits 6 rfl) (by decide) ?_
  refine lv_istore (lv' := [(4, .int 0), (3, .int 0), (2, .int 0), (1, .int 0), (0, .ref h0)]) hx hb (dk_at dkX8_fullBits 7 rfl) hl (by decide) rfl (fun ls hl => ?_)
  refine (lp_sX8_fullBits h0 le co months full lean kle fle gmonths gfull glean hx hb hml hown hts hK hz (Nat.le_of_ble_eq_true rfl) (Nat.le_of_ble_eq_true rfl) (Nat.zero_le _) (Nat.zero_le _) (fun v H locs ls hP hS hl => ?_) 62) 0 0 0 0 _ _ _ (gi_w (gi_c 0 0 (by decide)) (by decide)) (gi_w (gi_c 0 0 (by decide)) (by decide)) (gi_w (gi_c 0 0 (by decide)) (by decide)) (by have k0 : (0 : Int32).toInt = 0 := (by decide); have k0 : (0 : Int32).toInt = 0 := (by decide); omega) (by have k0 : (0 : Int32).toInt = 0 := (by decide); omega) hP hS (lv_sub hl [4, 3, 2, 1, 0] rfl)
  · skip
    exact W.iret (v := v) hx hb hr (fun t ht hW => ⟨⟨v, (), rfl, (gi_any v), trivial⟩, hS.F ht⟩) hS.2.2 (dk_at dkX8_fullBits 46 rfl)
noncomputable def lsX12_isMonth : List (Nat × Instr × Nat) := [(0, .iload_n 1, 1), (1, .i2l, 1), (2, .lconst 0, 1), (3, .aload_n 0, 1), (4, .getfield 117, 3), (7, .iconst 1, 1), (8, .isub, 1), (9, .i2l, 1), (10, .invokestatic 102, 3), (13, .ireturn, 1)]
theorem dkX12_isMonth : dkAll cX12_isMonth lsX12_isMonth = true := by decide +kernel
set_option maxHeartbeats 4000000 in
set_option maxRecDepth 100000 in
theorem sX12_isMonth (l : Launch) (dC : Nat → ClassId) (dI : Nat → Nat → Nat) (h0 : Nat) (mi : Nat → Int32) (mr : Nat → Nat) (km : Nat → ClassId) (fm_trust : Nat → Int32) (fm_letter : Nat → Int32) (fm_reportPlace : Nat → Int32) (fm_reportKind : Nat → Int32) (fm_struck : Nat → Int32) (fm_reportMonth : Nat → Int32) (fm_reportDay : Nat → Int32) (fm_reportKnown : Nat → Int32) (fm_deedMonth : Nat → Int32) (fm_deedDay : Nat → Int32) (fm_deedLong : Nat → Int32) (fm_deedKind : Nat → Int32) (fm_kept : Nat → Int32) (fm_tape : Nat → Int32) (fm_must : Nat → Int32) (fm_least : Nat → Int32) (fm_pin : Nat → Int32) (fm_ways : Nat → Int32) (fm_verdict : Nat → Int32) (fm_row : Nat → Int32) (fm_official : Nat → Int32) (fm_aside : Nat → Int32) (fm_worth : Nat → Int32) (fm_out : Nat → Int32) (p1 : Int32) (gmi_0 : gi (mi 0) 0 24) (gmi_1 : gi (mi 1) 0 5) (gmi_2 : gi (mi 2) 0 5) (gmi_4 : gi (mi 4) 0 1) (gmi_7 : gi (mi 7) 0 6) (gmi_10 : gi (mi 10) 0 24) (gmi_17 : gi (mi 17) 0 8) (gmi_23 : gi (mi 23) 0 300) (gmi_24 : gi (mi 24) 0 1) (gmi_26 : gi (mi 26) 0 1600) (gmi_29 : gi (mi 29) 0 1600) (gmi_30 : gi (mi 30) 0 1600) (gmi_33 : gi (mi 33) 0 1) (gmi_37 : gi (mi 37) 0 1) (gmi_41 : gi (mi 41) 0 24) (gmi_50 : gi (mi 50) 0 1) (gmi_51 : gi (mi 51) 0 1) (gmi_56 : gi (mi 56) 0 80) : Met l yX12_isMonth (.code yX12_isMonth cX12_isMonth 2 (some .boolean) :: wsGB) ({ frames := 1, cells := 0, slots := 0, locals := 25 }) (va_Pc [.ref h0, .int p1] (fun U => va_P (dC, dI) vwCl (MWn h0 mr km (mi 0) (mi 1) (mi 2) (mi 3) (mi 4) (mi 5) (mi 6) (mi 7) (mi 10) (mi 17) (mi 23) (mi 24) (mi 26) (mi 27) (mi 28) (mi 29) (mi 30) (mi 31) (mi 32) (mi 33) (mi 37) (mi 41) (mi 42) (mi 43) (mi 44) (mi 45) (mi 47) (mi 48) (mi 49) (mi 50) (mi 51) (mi 54) (mi 56) fm_trust fm_letter fm_reportPlace fm_reportKind fm_struck fm_reportMonth fm_reportDay fm_reportKnown fm_deedMonth fm_deedDay fm_deedLong fm_deedKind fm_kept fm_tape fm_must fm_least fm_pin fm_ways fm_verdict fm_row fm_official fm_aside fm_worth fm_out) U.heap ∧ va_K (dC, dI) vwCl (MT km) U)) (va_Qi (fun (r : Int32) (u : Unit) => gi r 0 1 ∧ (r.toInt = 1 → gi p1 0 23)) (fun _ _ => True) (fun _ => False)) 0 0 (fun _ => False) := by
  refine Met.ofW (cc := cX12_isMonth) (maxL := 2) (ret := (some .boolean)) (by decide) rfl ?_
  intro p e s m args below meth c s₁ B hml hv
  obtain ⟨rfl, hP, hK⟩ := hv
  have hx := B.exec
  have hb := B.bytes
  have hr := B.returns
  have hts := atoms_spec (ws := (.code yX12_isMonth cX12_isMonth 2 (some .boolean) :: wsGB)) B.pre
  have hown : s.vm.findClass RX12 = some m.cls := findClass_of_methodNamed B.named
  have hlocks := B.notSynchronized
  have hS : va_S (fun _ => False) s.heap s.heap [] := va_S.rf
  have hl := lv_entry ([.ref h0, .int p1]) (n := 2) (Nat.le_of_ble_eq_true rfl)
  rw [lg_entry_eq]
  generalize (lg_sl ([.ref h0, .int p1]) ++ List.replicate (2 - (lg_sl ([.ref h0, .int p1])).length) Slot.unset).toArray = ls at hl ⊢
  have hl : lv_has ls 2 [(0, .ref h0), (1, .int p1)] := hl
  refine lv_iload_n hx hb (dk_at dkX12_isMonth 0 rfl) rfl (lv_at hl 1 rfl) ?_
  refine lv_i2l (v := (p1).toInt64) hx hb (dk_at dkX12_isMonth 1 rfl) rfl ?_
  refine lv_topl (fun l_5 el_5 => ?_)
  refine lv_lconst (v := 0) hx hb (dk_at dkX12_isMonth 2 rfl) (by decide) ?_
  refine lv_aload_n hx hb (dk_at dkX12_isMonth 3 rfl) rfl (lv_at hl 0 rfl) ?_
  refine va_get (D := (dC, dI)) (ci := 12) (v := .int (mi 0)) (C := RX12) (T := TX12) (N := 57) hx hb hts (fun w h => List.mem_cons_of_mem _ (jnGB_X12 w h)) hown hK hP 0 rfl rfl 0 (by decide) (hts _ (List.mem_cons_of_mem _ mGB_103)) (fun _ h9 => h9) rfl (dk_at dkX12_isMonth 4 rfl) ?_
  refine lv_iconst (v := 1) hx hb (dk_at dkX12_isMonth 5 rfl) (by decide) ?_
  refine lv_isub hx hb (dk_at dkX12_isMonth 6 rfl) ?_
  refine lv_topi (fun x_6 ex_6 => ?_)
  have gx_6 : gi x_6 (-1) 23 := gi_sub ex_6 gmi_0 (gi_c 1 1 (by decide)) (by decide)
  refine lv_i2l (v := (x_6).toInt64) hx hb (dk_at dkX12_isMonth 7 rfl) rfl ?_
  refine lv_topl (fun l_7 el_7 => ?_)
  have hPc := hP.sub (ws' := []) [] rfl
  have hKc := hK.sub (tys' := []) [] rfl
  refine va_calli (va_runS (As := [.long l_5, .long 0, .long l_7]) (rest := []) ⟨hx, hb, hml, hown, hts⟩ (sX12_in l dC dI l_5 0 l_7) (cwS 3 hts (gz_gS mGB_47 mGB_48 mGB_1 mGB_49 goodGB) rfl rfl rfl (by decide +kernel) ⟨Nat.le_of_ble_eq_true rfl, Nat.le_of_ble_eq_true rfl⟩) ⟨bl_R, fun U hU hW => ⟨rfl, by rw [hU]; exact hPc, va_K.moved hW.alike hKc⟩⟩ rfl rfl hl.1 rfl (lv_room (Nat.le_of_ble_eq_true rfl)) (dk_at dkX12_isMonth 8 rfl) ⟨Nat.zero_le _, Nat.zero_le _⟩) hS (fun q _ h => h.elim) (fun q h => h.elim) (fun r_8 u t H1 locs ht hvm hw hB hz1 hk1 hS => ?_)
  obtain ⟨hw, hE⟩ := hw
  have hP := gz_keep hP hk1
  generalize H1 = H at hP hS ⊢
  have gr_8 : gi r_8 0 1 := hw.1
  have hqr_8 := hw.2
  exact W.zret (v := r_8) hx hb hr (gz_nb gr_8) (fun t ht hW => ⟨⟨r_8, (), rfl, ⟨gr_8, (fun h1 => (gi_w (gz_inr (hqr_8.1 h1) el_5 (A := 0) (B := 23) (by decide) (gz_l2u el_7 gx_6)) (by decide)))⟩, trivial⟩, hS.F ht⟩) hS.2.2 (dk_at dkX12_isMonth 9 rfl)
noncomputable def lsX12_lengthBy : List (Nat × Instr × Nat) := [(0, .aload_n 0, 1), (1, .getfield 87, 3), (4, .iload_n 1, 1), (5, .iconst 1, 1), (6, .iadd, 1), (7, .iaload, 1), (8, .aload_n 0, 1), (9, .getfield 87, 3), (12, .iload_n 1, 1), (13, .iaload, 1), (14, .isub, 1), (15, .ireturn, 1)]
theorem dkX12_lengthBy : dkAll cX12_lengthBy lsX12_lengthBy = true := by decide +kernel
set_option maxHeartbeats 4000000 in
set_option maxRecDepth 100000 in
theorem sX12_lengthBy (l : Launch) (dC : Nat → ClassId) (dI : Nat → Nat → Nat) (h0 : Nat) (mi : Nat → Int32) (mr : Nat → Nat) (km : Nat → ClassId) (fm_official : Nat → Int32) (fm_trust : Nat → Int32) (fm_letter : Nat → Int32) (fm_reportPlace : Nat → Int32) (fm_reportKind : Nat → Int32) (fm_struck : Nat → Int32) (fm_reportMonth : Nat → Int32) (fm_reportDay : Nat → Int32) (fm_reportKnown : Nat → Int32) (fm_deedMonth : Nat → Int32) (fm_deedDay : Nat → Int32) (fm_deedLong : Nat → Int32) (fm_deedKind : Nat → Int32) (fm_kept : Nat → Int32) (fm_tape : Nat → Int32) (fm_must : Nat → Int32) (fm_least : Nat → Int32) (fm_pin : Nat → Int32) (fm_ways : Nat → Int32) (fm_verdict : Nat → Int32) (fm_row : Nat → Int32) (fm_aside : Nat → Int32) (fm_worth : Nat → Int32) (fm_out : Nat → Int32) (p1 : Int32) (gmi_0 : gi (mi 0) 0 24) (gmi_1 : gi (mi 1) 0 5) (gmi_2 : gi (mi 2) 0 5) (gmi_4 : gi (mi 4) 0 1) (gmi_7 : gi (mi 7) 0 6) (gmi_10 : gi (mi 10) 0 24) (gmi_17 : gi (mi 17) 0 8) (gmi_23 : gi (mi 23) 0 300) (gmi_24 : gi (mi 24) 0 1) (gmi_26 : gi (mi 26) 0 1600) (gmi_29 : gi (mi 29) 0 1600) (gmi_30 : gi (mi 30) 0 1600) (gmi_33 : gi (mi 33) 0 1) (gmi_37 : gi (mi 37) 0 1) (gmi_41 : gi (mi 41) 0 24) (gmi_50 : gi (mi 50) 0 1) (gmi_51 : gi (mi 51) 0 1) (gmi_56 : gi (mi 56) 0 80) (gp1 : gi p1 0 23) : Met l yX12_lengthBy (.code yX12_lengthBy cX12_lengthBy 2 (some .int) :: wsGB) ({ frames := 0, cells := 0, slots := 0, locals := 0 }) (va_Pc [.ref h0, .int p1] (fun U => va_P (dC, dI) vwCl (MWn h0 mr km (mi 0) (mi 1) (mi 2) (mi 3) (mi 4) (mi 5) (mi 6) (mi 7) (mi 10) (mi 17) (mi 23) (mi 24) (mi 26) (mi 27) (mi 28) (mi 29) (mi 30) (mi 31) (mi 32) (mi 33) (mi 37) (mi 41) (mi 42) (mi 43) (mi 44) (mi 45) (mi 47) (mi 48) (mi 49) (mi 50) (mi 51) (mi 54) (mi 56) fm_trust fm_letter fm_reportPlace fm_reportKind fm_struck fm_reportMonth fm_reportDay fm_reportKnown fm_deedMonth fm_deedDay fm_deedLong fm_deedKind fm_kept fm_tape fm_must fm_least fm_pin fm_ways fm_verdict fm_row fm_official fm_aside fm_worth fm_out) U.heap ∧ va_K (dC, dI) vwCl (MT km) U)) (va_Qi (fun (r : Int32) (u : Unit) => gi r (-2147483648) 2147483647) (fun _ _ => True) (fun _ => False)) 0 0 (fun _ => False) := by
  refine Met.ofW (cc := cX12_lengthBy) (maxL := 2) (ret := (some .int)) (by decide) rfl ?_
  intro p e s m args below meth c s₁ B hml hv
  obtain ⟨rfl, hP, hK⟩ := hv
  have hx := B.exec
  have hb := B.bytes
  have hr := B.returns
  have hts := atoms_spec (ws := (.code yX12_lengthBy cX12_lengthBy 2 (some .int) :: wsGB)) B.pre
  have hown : s.vm.findClass RX12 = some m.cls := findClass_of_methodNamed B.named
  have hlocks := B.notSynchronized
  have hS : va_S (fun _ => False) s.heap s.heap [] := va_S.rf
  have hl := lv_entry ([.ref h0, .int p1]) (n := 2) (Nat.le_of_ble_eq_true rfl)
  rw [lg_entry_eq]
  generalize (lg_sl ([.ref h0, .int p1]) ++ List.replicate (2 - (lg_sl ([.ref h0, .int p1])).length) Slot.unset).toArray = ls at hl ⊢
  have hl : lv_has ls 2 [(0, .ref h0), (1, .int p1)] := hl
  refine lv_aload_n hx hb (dk_at dkX12_lengthBy 0 rfl) rfl (lv_at hl 0 rfl) ?_
  refine va_get (D := (dC, dI)) (ci := 12) (v := .ref (mr 20)) (C := RX12) (T := TX12) (N := 57) hx hb hts (fun w h => List.mem_cons_of_mem _ (jnGB_X12 w h)) hown hK hP 0 rfl rfl 46 (by decide) (hts _ (List.mem_cons_of_mem _ mGB_36)) (fun _ h9 => h9) rfl (dk_at dkX12_lengthBy 1 rfl) ?_
  refine lv_iload_n hx hb (dk_at dkX12_lengthBy 2 rfl) rfl (lv_at hl 1 rfl) ?_
  refine lv_iconst (v := 1) hx hb (dk_at dkX12_lengthBy 3 rfl) (by decide) ?_
  refine lv_iadd hx hb (dk_at dkX12_lengthBy 4 rfl) ?_
  refine lv_topi (fun x_5 ex_5 => ?_)
  have gx_5 : gi x_5 1 24 := gi_add ex_5 gp1 (gi_c 1 1 (by decide)) (by decide)
  refine va_iald hx hb hK hP 21 20 rfl rfl (gi_in gx_5 (by decide)) (dk_at dkX12_lengthBy 5 rfl) ?_
  refine lv_topi (fun x_6 ex_6 => ?_)
  refine lv_aload_n hx hb (dk_at dkX12_lengthBy 6 rfl) rfl (lv_at hl 0 rfl) ?_
  refine va_get (D := (dC, dI)) (ci := 12) (v := .ref (mr 20)) (C := RX12) (T := TX12) (N := 57) hx hb hts (fun w h => List.mem_cons_of_mem _ (jnGB_X12 w h)) hown hK hP 0 rfl rfl 46 (by decide) (hts _ (List.mem_cons_of_mem _ mGB_36)) (fun _ h9 => h9) rfl (dk_at dkX12_lengthBy 7 rfl) ?_
  refine lv_iload_n hx hb (dk_at dkX12_lengthBy 8 rfl) rfl (lv_at hl 1 rfl) ?_
  refine va_iald hx hb hK hP 21 20 rfl rfl (gi_in gp1 (by decide)) (dk_at dkX12_lengthBy 9 rfl) ?_
  refine lv_topi (fun x_7 ex_7 => ?_)
  refine lv_isub hx hb (dk_at dkX12_lengthBy 10 rfl) ?_
  refine lv_topi (fun x_8 ex_8 => ?_)
  exact W.iret (v := x_8) hx hb hr (fun t ht hW => ⟨⟨x_8, (), rfl, (gi_any x_8), trivial⟩, hS.F ht⟩) hS.2.2 (dk_at dkX12_lengthBy 11 rfl)
noncomputable def lsX12_dayBy : List (Nat × Instr × Nat) := [(0, .aload_n 0, 1), (1, .getfield 87, 3), (4, .iload_n 1, 1), (5, .iaload, 1), (6, .iload_n 2, 1), (7, .aload_n 0, 1), (8, .iload_n 1, 1), (9, .invokevirtual 404, 3), (12, .invokestatic 168, 3), (15, .iadd, 1), (16, .iconst 1, 1), (17, .isub, 1), (18, .ireturn, 1)]
theorem dkX12_dayBy : dkAll cX12_dayBy lsX12_dayBy = true := by decide +kernel
set_option maxHeartbeats 4000000 in
set_option maxRecDepth 100000 in
theorem sX12_dayBy (l : Launch) (dC : Nat → ClassId) (dI : Nat → Nat → Nat) (h0 : Nat) (mi : Nat → Int32) (mr : Nat → Nat) (km : Nat → ClassId) (fm_official : Nat → Int32) (fm_trust : Nat → Int32) (fm_letter : Nat → Int32) (fm_reportPlace : Nat → Int32) (fm_reportKind : Nat → Int32) (fm_struck : Nat → Int32) (fm_reportMonth : Nat → Int32) (fm_reportDay : Nat → Int32) (fm_reportKnown : Nat → Int32) (fm_deedMonth : Nat → Int32) (fm_deedDay : Nat → Int32) (fm_deedLong : Nat → Int32) (fm_deedKind : Nat → Int32) (fm_kept : Nat → Int32) (fm_tape : Nat → Int32) (fm_must : Nat → Int32) (fm_least : Nat → Int32) (fm_pin : Nat → Int32) (fm_ways : Nat → Int32) (fm_verdict : Nat → Int32) (fm_row : Nat → Int32) (fm_aside : Nat → Int32) (fm_worth : Nat → Int32) (fm_out : Nat → Int32) (p1 : Int32) (p2 : Int32) (gmi_0 : gi (mi 0) 0 24) (gmi_1 : gi (mi 1) 0 5) (gmi_2 : gi (mi 2) 0 5) (gmi_4 : gi (mi 4) 0 1) (gmi_7 : gi (mi 7) 0 6) (gmi_10 : gi (mi 10) 0 24) (gmi_17 : gi (mi 17) 0 8) (gmi_23 : gi (mi 23) 0 300) (gmi_24 : gi (mi 24) 0 1) (gmi_26 : gi (mi 26) 0 1600) (gmi_29 : gi (mi 29) 0 1600) (gmi_30 : gi (mi 30) 0 1600) (gmi_33 : gi (mi 33) 0 1) (gmi_37 : gi (mi 37) 0 1) (gmi_41 : gi (mi 41) 0 24) (gmi_50 : gi (mi 50) 0 1) (gmi_51 : gi (mi 51) 0 1) (gmi_56 : gi (mi 56) 0 80) (gp1 : gi p1 0 23) : Met l yX12_dayBy (.code yX12_dayBy cX12_dayBy 3 (some .int) :: wsGB) ({ frames := 1, cells := 0, slots := 0, locals := 21 }) (va_Pc [.ref h0, .int p1, .int p2] (fun U => va_P (dC, dI) vwCl (MWn h0 mr km (mi 0) (mi 1) (mi 2) (mi 3) (mi 4) (mi 5) (mi 6) (mi 7) (mi 10) (mi 17) (mi 23) (mi 24) (mi 26) (mi 27) (mi 28) (mi 29) (mi 30) (mi 31) (mi 32) (mi 33) (mi 37) (mi 41) (mi 42) (mi 43) (mi 44) (mi 45) (mi 47) (mi 48) (mi 49) (mi 50) (mi 51) (mi 54) (mi 56) fm_trust fm_letter fm_reportPlace fm_reportKind fm_struck fm_reportMonth fm_reportDay fm_reportKnown fm_deedMonth fm_deedDay fm_deedLong fm_deedKind fm_kept fm_tape fm_must fm_least fm_pin fm_ways fm_verdict fm_row fm_official fm_aside fm_worth fm_out) U.heap ∧ va_K (dC, dI) vwCl (MT km) U)) (va_Qi (fun (r : Int32) (u : Unit) => gi r (-2147483648) 2147483647) (fun _ _ => True) (fun _ => False)) 0 0 (fun _ => False) := by
  refine Met.ofW (cc := cX12_dayBy) (maxL := 3) (ret := (some .int)) (by decide) rfl ?_
  intro p e s m args below meth c s₁ B hml hv
  obtain ⟨rfl, hP, hK⟩ := hv
  have hx := B.exec
  have hb := B.bytes
  have hr := B.returns
  have hts := atoms_spec (ws := (.code yX12_dayBy cX12_dayBy 3 (some .int) :: wsGB)) B.pre
  have hown : s.vm.findClass RX12 = some m.cls := findClass_of_methodNamed B.named
  have hlocks := B.notSynchronized
  have hS : va_S (fun _ => False) s.heap s.heap [] := va_S.rf
  have hl := lv_entry ([.ref h0, .int p1, .int p2]) (n := 3) (Nat.le_of_ble_eq_true rfl)
  rw [lg_entry_eq]
  generalize (lg_sl ([.ref h0, .int p1, .int p2]) ++ List.replicate (3 - (lg_sl ([.ref h0, .int p1, .int p2])).length) Slot.unset).toArray = ls at hl ⊢
  have hl : lv_has ls 3 [(0, .ref h0), (1, .int p1), (2, .int p2)] := hl
  refine lv_aload_n hx hb (dk_at dkX12_dayBy 0 rfl) rfl (lv_at hl 0 rfl) ?_
  refine va_get (D := (dC, dI)) (ci := 12) (v := .ref (mr 20)) (C := RX12) (T := TX12) (N := 57) hx hb hts (fun w h => List.mem_cons_of_mem _ (jnGB_X12 w h)) hown hK hP 0 rfl rfl 46 (by decide) (hts _ (List.mem_cons_of_mem _ mGB_36)) (fun _ h9 => h9) rfl (dk_at dkX12_dayBy 1 rfl) ?_
  refine lv_iload_n hx hb (dk_at dkX12_dayBy 2 rfl) rfl (lv_at hl 1 rfl) ?_
  refine va_iald hx hb hK hP 21 20 rfl rfl (gi_in gp1 (by decide)) (dk_at dkX12_dayBy 3 rfl) ?_
  refine lv_topi (fun x_6 ex_6 => ?_)
  refine lv_iload_n hx hb (dk_at dkX12_dayBy 4 rfl) rfl (lv_at hl 2 rfl) ?_
  refine lv_aload_n hx hb (dk_at dkX12_dayBy 5 rfl) rfl (lv_at hl 0 rfl) ?_
  refine lv_iload_n hx hb (dk_at dkX12_dayBy 6 rfl) rfl (lv_at hl 1 rfl) ?_
  refine va_calli (va_runV (As := [.int p1]) (rest := [.int p2, .int x_6]) ⟨hx, hb, hml, hown, hts⟩ (sX12_lengthBy l dC dI h0 mi mr km fm_official fm_trust fm_letter fm_reportPlace fm_reportKind fm_struck fm_reportMonth fm_reportDay fm_reportKnown fm_deedMonth fm_deedDay fm_deedLong fm_deedKind fm_kept fm_tape fm_must fm_least fm_pin fm_ways fm_verdict fm_row fm_aside fm_worth fm_out p1 gmi_0 gmi_1 gmi_2 gmi_4 gmi_7 gmi_10 gmi_17 gmi_23 gmi_24 gmi_26 gmi_29 gmi_30 gmi_33 gmi_37 gmi_41 gmi_50 gmi_51 gmi_56 gp1) (cwV 1 hts (gz_gV mGB_423 mGB_424 mGB_425 mGB_1 mGB_426 goodGB) rfl rfl rfl (by decide +kernel) ⟨Nat.le_of_ble_eq_true rfl, Nat.le_of_ble_eq_true rfl⟩) ⟨bl_R, mw_recv hK hP, fun U hU hW => ⟨rfl, by rw [hU]; exact hP, va_K.moved hW.alike hK⟩⟩ rfl rfl hl.1 rfl (lv_room (Nat.le_of_ble_eq_true rfl)) (dk_at dkX12_dayBy 7 rfl) ⟨Nat.zero_le _, Nat.zero_le _⟩) hS (fun q _ h => h.elim) (fun q h => h.elim) (fun r_7 u t H1 locs ht hvm hw hB hz1 hk1 hS => ?_)
  have hP := gz_keep hP hk1
  generalize H1 = H at hP hS ⊢
  refine va_mmin (own := RX12) hx hb (by rw [hml]; exact hl.1.symm) hown (hts _ (List.mem_cons_of_mem _ mGB_138)) (hts _ (List.mem_cons_of_mem _ mGB_97)) (hts _ (List.mem_cons_of_mem _ mGB_98)) (hts _ (List.mem_cons_of_mem _ mGB_99)) (Nat.le_of_ble_eq_true rfl) (Nat.le_of_ble_eq_true rfl) (Nat.zero_le _) (Nat.zero_le _) (dk_at dkX12_dayBy 8 rfl) ?_
  refine lv_topi (fun x_8 ex_8 => ?_)
  refine lv_iadd hx hb (dk_at dkX12_dayBy 9 rfl) ?_
  refine lv_topi (fun x_9 ex_9 => ?_)
  refine lv_iconst (v := 1) hx hb (dk_at dkX12_dayBy 10 rfl) (by decide) ?_
  refine lv_isub hx hb (dk_at dkX12_dayBy 11 rfl) ?_
  refine lv_topi (fun x_10 ex_10 => ?_)
  exact W.iret (v := x_10) hx hb hr (fun t ht hW => ⟨⟨x_10, (), rfl, (gi_any x_10), trivial⟩, hS.F ht⟩) hS.2.2 (dk_at dkX12_dayBy 12 rfl)
noncomputable def lsX12_isInMonth : List (Nat × Instr × Nat) := [(0, .iload_n 0, 1), (1, .i2l, 1), (2, .lconst 1, 1), (3, .ldc2_w 407, 3), (6, .invokestatic 102, 3), (9, .ireturn, 1)]
theorem dkX12_isInMonth : dkAll cX12_isInMonth lsX12_isInMonth = true := by decide +kernel
set_option maxHeartbeats 4000000 in
set_option maxRecDepth 100000 in
theorem sX12_isInMonth (l : Launch) (dC : Nat → ClassId) (dI : Nat → Nat → Nat) (p0 : Int32)  : Met l yX12_isInMonth (.code yX12_isInMonth cX12_isInMonth 1 (some .boolean) :: wsGB) ({ frames := 1, cells := 0, slots := 0, locals := 25 }) (va_Pc [.int p0] (fun U => va_P (dC, dI) vwCl [] U.heap ∧ va_K (dC, dI) vwCl [] U)) (va_Qi (fun (r : Int32) (u : Unit) => gi r 0 1 ∧ (r.toInt = 1 → gi p0 1 30)) (fun _ _ => True) (fun _ => False)) 0 0 (fun _ => False) := by
  refine Met.ofW (cc := cX12_isInMonth) (maxL := 1) (ret := (some .boolean)) (by decide) rfl ?_
  intro p e s m args below meth c s₁ B hml hv
  obtain ⟨rfl, hP, hK⟩ := hv
  have hx := B.exec
  have hb := B.bytes
  have hr := B.returns
  have hts := atoms_spec (ws := (.code yX12_isInMonth cX12_isInMonth 1 (some .boolean) :: wsGB)) B.pre
  have hown : s.vm.findClass RX12 = some m.cls := findClass_of_methodNamed B.named
  have hlocks := B.notSynchronized
  have hS : va_S (fun _ => False) s.heap s.heap [] := va_S.rf
  have hl := lv_entry ([.int p0]) (n := 1) (Nat.le_of_ble_eq_true rfl)
  rw [lg_entry_eq]
  generalize (lg_sl ([.int p0]) ++ List.replicate (1 - (lg_sl ([.int p0])).length) Slot.unset).toArray = ls at hl ⊢
  have hl : lv_has ls 1 [(0, .int p0)] := hl
  refine lv_iload_n hx hb (dk_at dkX12_isInMonth 0 rfl) rfl (lv_at hl 0 rfl) ?_
  refine lv_i2l (v := (p0).toInt64) hx hb (dk_at dkX12_isInMonth 1 rfl) rfl ?_
  refine lv_topl (fun l_3 el_3 => ?_)
  refine lv_lconst (v := 1) hx hb (dk_at dkX12_isInMonth 2 rfl) (by decide) ?_
  refine lv_ldc2 (own := RX12) (v := 30) hx hb hown (hts _ (List.mem_cons_of_mem _ mGB_418)) (dk_at dkX12_isInMonth 3 rfl) ?_
  have hPc := hP.sub (ws' := []) [] rfl
  have hKc := hK.sub (tys' := []) [] rfl
  refine va_calli (va_runS (As := [.long l_3, .long 1, .long 30]) (rest := []) ⟨hx, hb, hml, hown, hts⟩ (sX12_in l dC dI l_3 1 30) (cwS 3 hts (gz_gS mGB_47 mGB_48 mGB_1 mGB_49 goodGB) rfl rfl rfl (by decide +kernel) ⟨Nat.le_of_ble_eq_true rfl, Nat.le_of_ble_eq_true rfl⟩) ⟨bl_R, fun U hU hW => ⟨rfl, by rw [hU]; exact hPc, va_K.moved hW.alike hKc⟩⟩ rfl rfl hl.1 rfl (lv_room (Nat.le_of_ble_eq_true rfl)) (dk_at dkX12_isInMonth 4 rfl) ⟨Nat.zero_le _, Nat.zero_le _⟩) hS (fun q _ h => h.elim) (fun q h => h.elim) (fun r_4 u t H1 locs ht hvm hw hB hz1 hk1 hS => ?_)
  obtain ⟨hw, hE⟩ := hw
  have hP := gz_keep hP hk1
  generalize H1 = H at hP hS ⊢
  have gr_4 : gi r_4 0 1 := hw.1
  have hqr_4 := hw.2
  exact W.zret (v := r_4) hx hb hr (gz_nb gr_4) (fun t ht hW => ⟨⟨r_4, (), rfl, ⟨gr_4, (fun h1 => (gi_w (gz_inr (hqr_4.1 h1) el_3 (A := 1) (B := 30) (by decide) (by decide)) (by decide)))⟩, trivial⟩, hS.F ht⟩) hS.2.2 (dk_at dkX12_isInMonth 5 rfl)
noncomputable def lsX12_datesWith : List (Nat × Instr × Nat) := [(0, .iload_n 3, 1), (1, .iload_n 2, 1), (2, .isub, 1), (3, .iconst 1, 1), (4, .iadd, 1), (5, .istore 4, 2), (7, .iload_n 2, 1), (8, .bipush 30, 2), (10, .if_icmp .ge 13, 3), (13, .aload_n 0, 1), (14, .iload_n 1, 1), (15, .iload 4, 2), (17, .invokevirtual 388, 3), (20, .goto 18, 3), (23, .aload_n 0, 1), (24, .iload_n 1, 1), (25, .iload 4, 2), (27, .iload_n 1, 1), (28, .iconst 1, 1), (29, .iadd, 1), (30, .iload 4, 2), (32, .bipush 30, 2), (34, .iadd, 1), (35, .invokevirtual 385, 3), (38, .ireturn, 1)]
theorem dkX12_datesWith : dkAll cX12_datesWith lsX12_datesWith = true := by decide +kernel
abbrev pb_sX12_datesWith (dC : Nat → ClassId) (dI : Nat → Nat → Nat) (A9 : Nat → Prop) (h0 : Nat) (mi : Nat → Int32) (mr : Nat → Nat) (km : Nat → ClassId) (fm_must : Nat → Int32) (fm_least : Nat → Int32) (fm_pin : Nat → Int32) (fm_ways : Nat → Int32) (fm_trust : Nat → Int32) (fm_letter : Nat → Int32) (fm_reportPlace : Nat → Int32) (fm_reportKind : Nat → Int32) (fm_struck : Nat → Int32) (fm_reportMonth : Nat → Int32) (fm_reportDay : Nat → Int32) (fm_reportKnown : Nat → Int32) (fm_deedMonth : Nat → Int32) (fm_deedDay : Nat → Int32) (fm_deedLong : Nat → Int32) (fm_deedKind : Nat → Int32) (fm_kept : Nat → Int32) (fm_tape : Nat → Int32) (fm_verdict : Nat → Int32) (fm_row : Nat → Int32) (fm_official : Nat → Int32) (fm_aside : Nat → Int32) (fm_worth : Nat → Int32) (fm_out : Nat → Int32) (p1 : Int32) (p2 : Int32) (p3 : Int32) (z3 : Nat → Int32) (z4 : Nat → Int32) (t : State) : Prop := va_P (dC, dI) vwCl (MWn h0 mr km (mi 0) (mi 1) (mi 2) (mi 3) (mi 4) (mi 5) (mi 6) (mi 7) (mi 10) (mi 17) (mi 23) (mi 24) (mi 26) (mi 27) (mi 28) (mi 29) (mi 30) (mi 31) (mi 32) (mi 33) (mi 37) (mi 41) (mi 42) (mi 43) (mi 44) (mi 45) (mi 47) (mi 48) (mi 49) (mi 50) (mi 51) (mi 54) (mi 56) fm_trust fm_letter fm_reportPlace fm_reportKind fm_struck fm_reportMonth fm_reportDay fm_reportKnown fm_deedMonth fm_deedDay fm_deedLong fm_deedKind fm_kept fm_tape fm_must fm_least z3 z4 fm_verdict fm_row fm_official fm_aside fm_worth fm_out) t.heap ∧ va_D A9 (MWn h0 mr km (mi 0) (mi 1) (mi 2) (mi 3) (mi 4) (mi 5) (mi 6) (mi 7) (mi 10) (mi 17) (mi 23) (mi 24) (mi 26) (mi 27) (mi 28) (mi 29) (mi 30) (mi 31) (mi 32) (mi 33) (mi 37) (mi 41) (mi 42) (mi 43) (mi 44) (mi 45) (mi 47) (mi 48) (mi 49) (mi 50) (mi 51) (mi 54) (mi 56) fm_trust fm_letter fm_reportPlace fm_reportKind fm_struck fm_reportMonth fm_reportDay fm_reportKnown fm_deedMonth fm_deedDay fm_deedLong fm_deedKind fm_kept fm_tape fm_must fm_least z3 z4 fm_verdict fm_row fm_official fm_aside fm_worth fm_out)
set_option maxHeartbeats 4000000 in
set_option maxRecDepth 100000 in
theorem sX12_datesWith (l : Launch) (dC : Nat → ClassId) (dI : Nat → Nat → Nat) (sz : Nat) (h0 : Nat) (mi : Nat → Int32) (mr : Nat → Nat) (km : Nat → ClassId) (fm_must : Nat → Int32) (fm_least : Nat → Int32) (fm_pin : Nat → Int32) (fm_ways : Nat → Int32) (fm_trust : Nat → Int32) (fm_letter : Nat → Int32) (fm_reportPlace : Nat → Int32) (fm_reportKind : Nat → Int32) (fm_struck : Nat → Int32) (fm_reportMonth : Nat → Int32) (fm_reportDay : Nat → Int32) (fm_reportKnown : Nat → Int32) (fm_deedMonth : Nat → Int32) (fm_deedDay : Nat → Int32) (fm_deedLong : Nat → Int32) (fm_deedKind : Nat → Int32) (fm_kept : Nat → Int32) (fm_tape : Nat → Int32) (fm_verdict : Nat → Int32) (fm_row : Nat → Int32) (fm_official : Nat → Int32) (fm_aside : Nat → Int32) (fm_worth : Nat → Int32) (fm_out : Nat → Int32) (p1 : Int32) (p2 : Int32) (p3 : Int32) (gmi_0 : gi (mi 0) 0 24) (gmi_1 : gi (mi 1) 0 5) (gmi_2 : gi (mi 2) 0 5) (gmi_4 : gi (mi 4) 0 1) (gmi_7 : gi (mi 7) 0 6) (gmi_10 : gi (mi 10) 0 24) (gmi_17 : gi (mi 17) 0 8) (gmi_23 : gi (mi 23) 0 300) (gmi_24 : gi (mi 24) 0 1) (gmi_26 : gi (mi 26) 0 1600) (gmi_29 : gi (mi 29) 0 1600) (gmi_30 : gi (mi 30) 0 1600) (gmi_33 : gi (mi 33) 0 1) (gmi_37 : gi (mi 37) 0 1) (gmi_41 : gi (mi 41) 0 24) (gmi_50 : gi (mi 50) 0 1) (gmi_51 : gi (mi 51) 0 1) (gmi_56 : gi (mi 56) 0 80) (gp1 : gi p1 0 23) : Met l yX12_datesWith (.code yX12_datesWith cX12_datesWith 5 (some .int) :: wsGB) ({ frames := 5, cells := 0, slots := 0, locals := 123 }) (va_Pc [.ref h0, .int p1, .int p2, .int p3] (fun U => U.heap.size = sz ∧ va_P (dC, dI) vwCl (MWn h0 mr km (mi 0) (mi 1) (mi 2) (mi 3) (mi 4) (mi 5) (mi 6) (mi 7) (mi 10) (mi 17) (mi 23) (mi 24) (mi 26) (mi 27) (mi 28) (mi 29) (mi 30) (mi 31) (mi 32) (mi 33) (mi 37) (mi 41) (mi 42) (mi 43) (mi 44) (mi 45) (mi 47) (mi 48) (mi 49) (mi 50) (mi 51) (mi 54) (mi 56) fm_trust fm_letter fm_reportPlace fm_reportKind fm_struck fm_reportMonth fm_reportDay fm_reportKnown fm_deedMonth fm_deedDay fm_deedLong fm_deedKind fm_kept fm_tape fm_must fm_least fm_pin fm_ways fm_verdict fm_row fm_official fm_aside fm_worth fm_out) U.heap ∧ va_K (dC, dI) vwCl (MT km) U ∧ va_D (fun _ => True) (MWn h0 mr km (mi 0) (mi 1) (mi 2) (mi 3) (mi 4) (mi 5) (mi 6) (mi 7) (mi 10) (mi 17) (mi 23) (mi 24) (mi 26) (mi 27) (mi 28) (mi 29) (mi 30) (mi 31) (mi 32) (mi 33) (mi 37) (mi 41) (mi 42) (mi 43) (mi 44) (mi 45) (mi 47) (mi 48) (mi 49) (mi 50) (mi 51) (mi 54) (mi 56) fm_trust fm_letter fm_reportPlace fm_reportKind fm_struck fm_reportMonth fm_reportDay fm_reportKnown fm_deedMonth fm_deedDay fm_deedLong fm_deedKind fm_kept fm_tape fm_must fm_least fm_pin fm_ways fm_verdict fm_row fm_official fm_aside fm_worth fm_out))) (va_Qi (fun (r : Int32) (u : Unit) => gi r (-2147483648) 2147483647) (fun _ t => ∃ (z3 : Nat → Int32) (z4 : Nat → Int32), pb_sX12_datesWith dC dI (va_A (MWn h0 mr km (mi 0) (mi 1) (mi 2) (mi 3) (mi 4) (mi 5) (mi 6) (mi 7) (mi 10) (mi 17) (mi 23) (mi 24) (mi 26) (mi 27) (mi 28) (mi 29) (mi 30) (mi 31) (mi 32) (mi 33) (mi 37) (mi 41) (mi 42) (mi 43) (mi 44) (mi 45) (mi 47) (mi 48) (mi 49) (mi 50) (mi 51) (mi 54) (mi 56) fm_trust fm_letter fm_reportPlace fm_reportKind fm_struck fm_reportMonth fm_reportDay fm_reportKnown fm_deedMonth fm_deedDay fm_deedLong fm_deedKind fm_kept fm_tape fm_must fm_least fm_pin fm_ways fm_verdict fm_row fm_official fm_aside fm_worth fm_out) sz) h0 mi mr km fm_must fm_least fm_pin fm_ways fm_trust fm_letter fm_reportPlace fm_reportKind fm_struck fm_reportMonth fm_reportDay fm_reportKnown fm_deedMonth fm_deedDay fm_deedLong fm_deedKind fm_kept fm_tape fm_verdict fm_row fm_official fm_aside fm_worth fm_out p1 p2 p3 z3 z4 t) (va_A (MWn h0 mr km (mi 0) (mi 1) (mi 2) (mi 3) (mi 4) (mi 5) (mi 6) (mi 7) (mi 10) (mi 17) (mi 23) (mi 24) (mi 26) (mi 27) (mi 28) (mi 29) (mi 30) (mi 31) (mi 32) (mi 33) (mi 37) (mi 41) (mi 42) (mi 43) (mi 44) (mi 45) (mi 47) (mi 48) (mi 49) (mi 50) (mi 51) (mi 54) (mi 56) fm_trust fm_letter fm_reportPlace fm_reportKind fm_struck fm_reportMonth fm_reportDay fm_reportKnown fm_deedMonth fm_deedDay fm_deedLong fm_deedKind fm_kept fm_tape fm_must fm_least fm_pin fm_ways fm_verdict fm_row fm_official fm_aside fm_worth fm_out) sz)) 0 0 (va_A (MWn h0 mr km (mi 0) (mi 1) (mi 2) (mi 3) (mi 4) (mi 5) (mi 6) (mi 7) (mi 10) (mi 17) (mi 23) (mi 24) (mi 26) (mi 27) (mi 28) (mi 29) (mi 30) (mi 31) (mi 32) (mi 33) (mi 37) (mi 41) (mi 42) (mi 43) (mi 44) (mi 45) (mi 47) (mi 48) (mi 49) (mi 50) (mi 51) (mi 54) (mi 56) fm_trust fm_letter fm_reportPlace fm_reportKind fm_struck fm_reportMonth fm_reportDay fm_reportKnown fm_deedMonth fm_deedDay fm_deedLong fm_deedKind fm_kept fm_tape fm_must fm_least fm_pin fm_ways fm_verdict fm_row fm_official fm_aside fm_worth fm_out) sz) := by
  refine Met.ofW (cc := cX12_datesWith) (maxL := 5) (ret := (some .int)) (by decide) rfl ?_
  intro p e s m args below meth c s₁ B hml hv
  obtain ⟨rfl, hsz, hP, hK, hD0⟩ := hv
  have hx := B.exec
  have hb := B.bytes
  have hr := B.returns
  have hts := atoms_spec (ws := (.code yX12_datesWith cX12_datesWith 5 (some .int) :: wsGB)) B.pre
  have hown : s.vm.findClass RX12 = some m.cls := findClass_of_methodNamed B.named
  have hlocks := B.notSynchronized
  subst hsz
  have hD := hD0.self (sz := s.heap.size)
  generalize hAe : va_A (MWn h0 mr km (mi 0) (mi 1) (mi 2) (mi 3) (mi 4) (mi 5) (mi 6) (mi 7) (mi 10) (mi 17) (mi 23) (mi 24) (mi 26) (mi 27) (mi 28) (mi 29) (mi 30) (mi 31) (mi 32) (mi 33) (mi 37) (mi 41) (mi 42) (mi 43) (mi 44) (mi 45) (mi 47) (mi 48) (mi 49) (mi 50) (mi 51) (mi 54) (mi 56) fm_trust fm_letter fm_reportPlace fm_reportKind fm_struck fm_reportMonth fm_reportDay fm_reportKnown fm_deedMonth fm_deedDay fm_deedLong fm_deedKind fm_kept fm_tape fm_must fm_least fm_pin fm_ways fm_verdict fm_row fm_official fm_aside fm_worth fm_out) s.heap.size = A at hD ⊢
  have hA : ∀ q : Nat, s.heap.size ≤ q → A q := fun q h => by rw [← hAe]; exact Or.inr h
  have hS : va_S A s.heap s.heap [] := va_S.rf
  have hl := lv_entry ([.ref h0, .int p1, .int p2, .int p3]) (n := 5) (Nat.le_of_ble_eq_true rfl)
  rw [lg_entry_eq]
  generalize (lg_sl ([.ref h0, .int p1, .int p2, .int p3]) ++ List.replicate (5 - (lg_sl ([.ref h0, .int p1, .int p2, .int p3])).length) Slot.unset).toArray = ls at hl ⊢
  have hl : lv_has ls 5 [(0, .ref h0), (1, .int p1), (2, .int p2), (3, .int p3)] := hl
  refine lv_iload_n hx hb (dk_at dkX12_datesWith 0 rfl) rfl (lv_at hl 3 rfl) ?_
  refine lv_iload_n hx hb (dk_at dkX12_datesWith 1 rfl) rfl (lv_at hl 2 rfl) ?_
  refine lv_isub hx hb (dk_at dkX12_datesWith 2 rfl) ?_
  refine lv_topi (fun x_27 ex_27 => ?_)
  refine lv_iconst (v := 1) hx hb (dk_at dkX12_datesWith 3 rfl) (by decide) ?_
  refine lv_iadd hx hb (dk_at dkX12_datesWith 4 rfl) ?_
  refine lv_topi (fun x_28 ex_28 => ?_)
  refine lv_istore (lv' := [(4, .int x_28), (0, .ref h0), (1, .int p1), (2, .int p2), (3, .int p3)]) hx hb (dk_at dkX12_datesWith 5 rfl) hl (by decide) rfl (fun ls hl => ?_)
  refine lv_iload_n hx hb (dk_at dkX12_datesWith 6 rfl) rfl (lv_at hl 3 rfl) ?_
  refine lv_bipush (v := 30) hx hb (dk_at dkX12_datesWith 7 rfl) (by decide) ?_
  refine lv_icmp_ge (tgt := 23) hx hb (dk_at dkX12_datesWith 8 rfl) (by decide) (fun c_29 => ?_) (fun c_29 => ?_)
  · have g_30 : gi p2 30 2147483647 := gi_le_r c_29 (gi_c 30 30 (by decide)) (gi_any p2)
    refine lv_aload_n hx hb (dk_at dkX12_datesWith 14 rfl) rfl (lv_at hl 1 rfl) ?_
    refine lv_iload_n hx hb (dk_at dkX12_datesWith 15 rfl) rfl (lv_at hl 2 rfl) ?_
    refine lv_iload hx hb (dk_at dkX12_datesWith 16 rfl) (lv_at hl 0 rfl) ?_
    refine lv_iload_n hx hb (dk_at dkX12_datesWith 17 rfl) rfl (lv_at hl 2 rfl) ?_
    refine lv_iconst (v := 1) hx hb (dk_at dkX12_datesWith 18 rfl) (by decide) ?_
    refine lv_iadd hx hb (dk_at dkX12_datesWith 19 rfl) ?_
    refine lv_topi (fun x_31 ex_31 => ?_)
    have gx_31 : gi x_31 1 24 := gi_add ex_31 gp1 (gi_c 1 1 (by decide)) (by decide)
    refine lv_iload hx hb (dk_at dkX12_datesWith 20 rfl) (lv_at hl 0 rfl) ?_
    refine lv_bipush (v := 30) hx hb (dk_at dkX12_datesWith 21 rfl) (by decide) ?_
    refine lv_iadd hx hb (dk_at dkX12_datesWith 22 rfl) ?_
    refine lv_topi (fun x_32 ex_32 => ?_)
    have hFc := gz_fullF hD hS hA
    refine va_calli (va_runV (As := [.int p1, .int x_28, .int x_31, .int x_32]) (rest := []) ⟨hx, hb, hml, hown, hts⟩ (sX12_countsWith l dC dI s.heap.size h0 mi mr km fm_must fm_least fm_pin fm_ways fm_trust fm_letter fm_reportPlace fm_reportKind fm_struck fm_reportMonth fm_reportDay fm_reportKnown fm_deedMonth fm_deedDay fm_deedLong fm_deedKind fm_kept fm_tape fm_verdict fm_row fm_official fm_aside fm_worth fm_out p1 x_28 x_31 x_32 gmi_0 gmi_1 gmi_2 gmi_4 gmi_7 gmi_10 gmi_17 gmi_23 gmi_24 gmi_26 gmi_29 gmi_30 gmi_33 gmi_37 gmi_41 gmi_50 gmi_51 gmi_56 (gi_w gp1 (by decide)) (gi_w gx_31 (by decide))) (cwV 4 hts (gz_gV mGB_377 mGB_378 mGB_379 mGB_1 mGB_380 goodGB) rfl rfl rfl (by decide +kernel) ⟨Nat.le_of_ble_eq_true rfl, Nat.le_of_ble_eq_true rfl⟩) ⟨bl_W, mw_recv hK hP, fun U hU hW => ⟨rfl, by rw [hU], by rw [hU]; exact hP, va_K.moved hW.alike hK, hD.weaken (fun _ _ _ _ => trivial)⟩⟩ rfl rfl hl.1 rfl (lv_room (Nat.le_of_ble_eq_true rfl)) (dk_at dkX12_datesWith 23 rfl) ⟨Nat.zero_le _, Nat.zero_le _⟩) hS (fun q _ h => hFc q h) hFc (fun r_33 u t H1 locs ht hvm hw hB hz1 hk1 hS => ?_)
    obtain ⟨f_34, f_35, hB⟩ := hB
    obtain ⟨hP1, hD1⟩ := hB
    rw [ht] at hP1
    have hD : va_D A (MWn h0 mr km (mi 0) (mi 1) (mi 2) (mi 3) (mi 4) (mi 5) (mi 6) (mi 7) (mi 10) (mi 17) (mi 23) (mi 24) (mi 26) (mi 27) (mi 28) (mi 29) (mi 30) (mi 31) (mi 32) (mi 33) (mi 37) (mi 41) (mi 42) (mi 43) (mi 44) (mi 45) (mi 47) (mi 48) (mi 49) (mi 50) (mi 51) (mi 54) (mi 56) fm_trust fm_letter fm_reportPlace fm_reportKind fm_struck fm_reportMonth fm_reportDay fm_reportKnown fm_deedMonth fm_deedDay fm_deedLong fm_deedKind fm_kept fm_tape fm_must fm_least f_34 f_35 fm_verdict fm_row fm_official fm_aside fm_worth fm_out) := gz_fullD hFc hD1
    have hP : va_P (dC, dI) vwCl (MWn h0 mr km (mi 0) (mi 1) (mi 2) (mi 3) (mi 4) (mi 5) (mi 6) (mi 7) (mi 10) (mi 17) (mi 23) (mi 24) (mi 26) (mi 27) (mi 28) (mi 29) (mi 30) (mi 31) (mi 32) (mi 33) (mi 37) (mi 41) (mi 42) (mi 43) (mi 44) (mi 45) (mi 47) (mi 48) (mi 49) (mi 50) (mi 51) (mi 54) (mi 56) fm_trust fm_letter fm_reportPlace fm_reportKind fm_struck fm_reportMonth fm_reportDay fm_reportKnown fm_deedMonth fm_deedDay fm_deedLong fm_deedKind fm_kept fm_tape fm_must fm_least f_34 f_35 fm_verdict fm_row fm_official fm_aside fm_worth fm_out) H1 := hP1
    generalize H1 = H at hP hS ⊢
    exact W.iret (v := r_33) hx hb hr (fun t ht hW => ⟨⟨r_33, (), rfl, (gi_any r_33), f_34, f_35, by rw [ht]; exact hP, hD⟩, hS.F ht⟩) hS.2.2 (dk_at dkX12_datesWith 24 rfl)
  · have g_36 : gi p2 (-2147483648) 29 := gi_lt_l (Int32.not_le.mp c_29) (gi_any p2) (gi_c 30 30 (by decide)) (by decide)
    refine lv_aload_n hx hb (dk_at dkX12_datesWith 9 rfl) rfl (lv_at hl 1 rfl) ?_
    refine lv_iload_n hx hb (dk_at dkX12_datesWith 10 rfl) rfl (lv_at hl 2 rfl) ?_
    refine lv_iload hx hb (dk_at dkX12_datesWith 11 rfl) (lv_at hl 0 rfl) ?_
    have hFc := gz_fullF hD hS hA
    refine va_calli (va_runV (As := [.int p1, .int x_28]) (rest := []) ⟨hx, hb, hml, hown, hts⟩ (sX12_beginsOn l dC dI s.heap.size h0 mi mr km fm_must fm_least fm_pin fm_ways fm_trust fm_letter fm_reportPlace fm_reportKind fm_struck fm_reportMonth fm_reportDay fm_reportKnown fm_deedMonth fm_deedDay fm_deedLong fm_deedKind fm_kept fm_tape fm_verdict fm_row fm_official fm_aside fm_worth fm_out p1 x_28 gmi_0 gmi_1 gmi_2 gmi_4 gmi_7 gmi_10 gmi_17 gmi_23 gmi_24 gmi_26 gmi_29 gmi_30 gmi_33 gmi_37 gmi_41 gmi_50 gmi_51 gmi_56 (gi_w gp1 (by decide))) (cwV 2 hts (gz_gV mGB_373 mGB_374 mGB_375 mGB_1 mGB_376 goodGB) rfl rfl rfl (by decide +kernel) ⟨Nat.le_of_ble_eq_true rfl, Nat.le_of_ble_eq_true rfl⟩) ⟨bl_W, mw_recv hK hP, fun U hU hW => ⟨rfl, by rw [hU], by rw [hU]; exact hP, va_K.moved hW.alike hK, hD.weaken (fun _ _ _ _ => trivial)⟩⟩ rfl rfl hl.1 rfl (lv_room (Nat.le_of_ble_eq_true rfl)) (dk_at dkX12_datesWith 12 rfl) ⟨Nat.zero_le _, Nat.zero_le _⟩) hS (fun q _ h => hFc q h) hFc (fun r_37 u t H1 locs ht hvm hw hB hz1 hk1 hS => ?_)
    obtain ⟨f_38, f_39, hB⟩ := hB
    obtain ⟨hP1, hD1⟩ := hB
    rw [ht] at hP1
    have hD : va_D A (MWn h0 mr km (mi 0) (mi 1) (mi 2) (mi 3) (mi 4) (mi 5) (mi 6) (mi 7) (mi 10) (mi 17) (mi 23) (mi 24) (mi 26) (mi 27) (mi 28) (mi 29) (mi 30) (mi 31) (mi 32) (mi 33) (mi 37) (mi 41) (mi 42) (mi 43) (mi 44) (mi 45) (mi 47) (mi 48) (mi 49) (mi 50) (mi 51) (mi 54) (mi 56) fm_trust fm_letter fm_reportPlace fm_reportKind fm_struck fm_reportMonth fm_reportDay fm_reportKnown fm_deedMonth fm_deedDay fm_deedLong fm_deedKind fm_kept fm_tape fm_must fm_least f_38 f_39 fm_verdict fm_row fm_official fm_aside fm_worth fm_out) := gz_fullD hFc hD1
    have hP : va_P (dC, dI) vwCl (MWn h0 mr km (mi 0) (mi 1) (mi 2) (mi 3) (mi 4) (mi 5) (mi 6) (mi 7) (mi 10) (mi 17) (mi 23) (mi 24) (mi 26) (mi 27) (mi 28) (mi 29) (mi 30) (mi 31) (mi 32) (mi 33) (mi 37) (mi 41) (mi 42) (mi 43) (mi 44) (mi 45) (mi 47) (mi 48) (mi 49) (mi 50) (mi 51) (mi 54) (mi 56) fm_trust fm_letter fm_reportPlace fm_reportKind fm_struck fm_reportMonth fm_reportDay fm_reportKnown fm_deedMonth fm_deedDay fm_deedLong fm_deedKind fm_kept fm_tape fm_must fm_least f_38 f_39 fm_verdict fm_row fm_official fm_aside fm_worth fm_out) H1 := hP1
    generalize H1 = H at hP hS ⊢
    refine lv_goto (tgt := 38) hx hb (dk_at dkX12_datesWith 13 rfl) (by decide) ?_
    exact W.iret (v := r_37) hx hb hr (fun t ht hW => ⟨⟨r_37, (), rfl, (gi_any r_37), f_38, f_39, by rw [ht]; exact hP, hD⟩, hS.F ht⟩) hS.2.2 (dk_at dkX12_datesWith 24 rfl)
noncomputable def lsX12_fallsOn : List (Nat × Instr × Nat) := [(0, .iload_n 2, 1), (1, .bipush 30, 2), (3, .if_icmp .ge 14, 3), (6, .aload_n 0, 1), (7, .iload_n 1, 1), (8, .iload_n 3, 1), (9, .iload_n 2, 1), (10, .isub, 1), (11, .iconst 1, 1), (12, .iadd, 1), (13, .invokevirtual 388, 3), (16, .ireturn, 1), (17, .iload_n 3, 1), (18, .bipush 29, 2), (20, .isub, 1), (21, .istore 4, 2), (23, .aload_n 0, 1), (24, .iload_n 1, 1), (25, .iload 4, 2), (27, .iload_n 1, 1), (28, .iconst 1, 1), (29, .iadd, 1), (30, .iload 4, 2), (32, .bipush 30, 2), (34, .iadd, 1), (35, .invokevirtual 385, 3), (38, .aload_n 0, 1), (39, .iload_n 1, 1), (40, .iload 4, 2), (42, .iconst 1, 1), (43, .iadd, 1), (44, .iload_n 1, 1), (45, .iconst 1, 1), (46, .iadd, 1), (47, .iload 4, 2), (49, .iconst 1, 1), (50, .iadd, 1), (51, .bipush 29, 2), (53, .iadd, 1), (54, .invokevirtual 385, 3), (57, .iadd, 1), (58, .ireturn, 1)]
theorem dkX12_fallsOn : dkAll cX12_fallsOn lsX12_fallsOn = true := by decide +kernel
abbrev pb_sX12_fallsOn (dC : Nat → ClassId) (dI : Nat → Nat → Nat) (A9 : Nat → Prop) (h0 : Nat) (mi : Nat → Int32) (mr : Nat → Nat) (km : Nat → ClassId) (fm_must : Nat → Int32) (fm_least : Nat → Int32) (fm_pin : Nat → Int32) (fm_ways : Nat → Int32) (fm_trust : Nat → Int32) (fm_letter : Nat → Int32) (fm_reportPlace : Nat → Int32) (fm_reportKind : Nat → Int32) (fm_struck : Nat → Int32) (fm_reportMonth : Nat → Int32) (fm_reportDay : Nat → Int32) (fm_reportKnown : Nat → Int32) (fm_deedMonth : Nat → Int32) (fm_deedDay : Nat → Int32) (fm_deedLong : Nat → Int32) (fm_deedKind : Nat → Int32) (fm_kept : Nat → Int32) (fm_tape : Nat → Int32) (fm_verdict : Nat → Int32) (fm_row : Nat → Int32) (fm_official : Nat → Int32) (fm_aside : Nat → Int32) (fm_worth : Nat → Int32) (fm_out : Nat → Int32) (p1 : Int32) (p2 : Int32) (p3 : Int32) (z3 : Nat → Int32) (z4 : Nat → Int32) (t : State) : Prop := va_P (dC, dI) vwCl (MWn h0 mr km (mi 0) (mi 1) (mi 2) (mi 3) (mi 4) (mi 5) (mi 6) (mi 7) (mi 10) (mi 17) (mi 23) (mi 24) (mi 26) (mi 27) (mi 28) (mi 29) (mi 30) (mi 31) (mi 32) (mi 33) (mi 37) (mi 41) (mi 42) (mi 43) (mi 44) (mi 45) (mi 47) (mi 48) (mi 49) (mi 50) (mi 51) (mi 54) (mi 56) fm_trust fm_letter fm_reportPlace fm_reportKind fm_struck fm_reportMonth fm_reportDay fm_reportKnown fm_deedMonth fm_deedDay fm_deedLong fm_deedKind fm_kept fm_tape fm_must fm_least z3 z4 fm_verdict fm_row fm_official fm_aside fm_worth fm_out) t.heap ∧ va_D A9 (MWn h0 mr km (mi 0) (mi 1) (mi 2) (mi 3) (mi 4) (mi 5) (mi 6) (mi 7) (mi 10) (mi 17) (mi 23) (mi 24) (mi 26) (mi 27) (mi 28) (mi 29) (mi 30) (mi 31) (mi 32) (mi 33) (mi 37) (mi 41) (mi 42) (mi 43) (mi 44) (mi 45) (mi 47) (mi 48) (mi 49) (mi 50) (mi 51) (mi 54) (mi 56) fm_trust fm_letter fm_reportPlace fm_reportKind fm_struck fm_reportMonth fm_reportDay fm_reportKnown fm_deedMonth fm_deedDay fm_deedLong fm_deedKind fm_kept fm_tape fm_must fm_least z3 z4 fm_verdict fm_row fm_official fm_aside fm_worth fm_out)
set_option maxHeartbeats 4000000 in
set_option maxRecDepth 100000 in
theorem sX12_fallsOn (l : Launch) (dC : Nat → ClassId) (dI : Nat → Nat → Nat) (sz : Nat) (h0 : Nat) (mi : Nat → Int32) (mr : Nat → Nat) (km : Nat → ClassId) (fm_must : Nat → Int32) (fm_least : Nat → Int32) (fm_pin : Nat → Int32) (fm_ways : Nat → Int32) (fm_trust : Nat → Int32) (fm_letter : Nat → Int32) (fm_reportPlace : Nat → Int32) (fm_reportKind : Nat → Int32) (fm_struck : Nat → Int32) (fm_reportMonth : Nat → Int32) (fm_reportDay : Nat → Int32) (fm_reportKnown : Nat → Int32) (fm_deedMonth : Nat → Int32) (fm_deedDay : Nat → Int32) (fm_deedLong : Nat → Int32) (fm_deedKind : Nat → Int32) (fm_kept : Nat → Int32) (fm_tape : Nat → Int32) (fm_verdict : Nat → Int32) (fm_row : Nat → Int32) (fm_official : Nat → Int32) (fm_aside : Nat → Int32) (fm_worth : Nat → Int32) (fm_out : Nat → Int32) (p1 : Int32) (p2 : Int32) (p3 : Int32) (gmi_0 : gi (mi 0) 0 24) (gmi_1 : gi (mi 1) 0 5) (gmi_2 : gi (mi 2) 0 5) (gmi_4 : gi (mi 4) 0 1) (gmi_7 : gi (mi 7) 0 6) (gmi_10 : gi (mi 10) 0 24) (gmi_17 : gi (mi 17) 0 8) (gmi_23 : gi (mi 23) 0 300) (gmi_24 : gi (mi 24) 0 1) (gmi_26 : gi (mi 26) 0 1600) (gmi_29 : gi (mi 29) 0 1600) (gmi_30 : gi (mi 30) 0 1600) (gmi_33 : gi (mi 33) 0 1) (gmi_37 : gi (mi 37) 0 1) (gmi_41 : gi (mi 41) 0 24) (gmi_50 : gi (mi 50) 0 1) (gmi_51 : gi (mi 51) 0 1) (gmi_56 : gi (mi 56) 0 80) (gp1 : gi p1 0 23) : Met l yX12_fallsOn (.code yX12_fallsOn cX12_fallsOn 5 (some .int) :: wsGB) ({ frames := 5, cells := 0, slots := 0, locals := 123 }) (va_Pc [.ref h0, .int p1, .int p2, .int p3] (fun U => U.heap.size = sz ∧ va_P (dC, dI) vwCl (MWn h0 mr km (mi 0) (mi 1) (mi 2) (mi 3) (mi 4) (mi 5) (mi 6) (mi 7) (mi 10) (mi 17) (mi 23) (mi 24) (mi 26) (mi 27) (mi 28) (mi 29) (mi 30) (mi 31) (mi 32) (mi 33) (mi 37) (mi 41) (mi 42) (mi 43) (mi 44) (mi 45) (mi 47) (mi 48) (mi 49) (mi 50) (mi 51) (mi 54) (mi 56) fm_trust fm_letter fm_reportPlace fm_reportKind fm_struck fm_reportMonth fm_reportDay fm_reportKnown fm_deedMonth fm_deedDay fm_deedLong fm_deedKind fm_kept fm_tape fm_must fm_least fm_pin fm_ways fm_verdict fm_row fm_official fm_aside fm_worth fm_out) U.heap ∧ va_K (dC, dI) vwCl (MT km) U ∧ va_D (fun _ => True) (MWn h0 mr km (mi 0) (mi 1) (mi 2) (mi 3) (mi 4) (mi 5) (mi 6) (mi 7) (mi 10) (mi 17) (mi 23) (mi 24) (mi 26) (mi 27) (mi 28) (mi 29) (mi 30) (mi 31) (mi 32) (mi 33) (mi 37) (mi 41) (mi 42) (mi 43) (mi 44) (mi 45) (mi 47) (mi 48) (mi 49) (mi 50) (mi 51) (mi 54) (mi 56) fm_trust fm_letter fm_reportPlace fm_reportKind fm_struck fm_reportMonth fm_reportDay fm_reportKnown fm_deedMonth fm_deedDay fm_deedLong fm_deedKind fm_kept fm_tape fm_must fm_least fm_pin fm_ways fm_verdict fm_row fm_official fm_aside fm_worth fm_out))) (va_Qi (fun (r : Int32) (u : Unit) => gi r (-2147483648) 2147483647) (fun _ t => ∃ (z3 : Nat → Int32) (z4 : Nat → Int32), pb_sX12_fallsOn dC dI (va_A (MWn h0 mr km (mi 0) (mi 1) (mi 2) (mi 3) (mi 4) (mi 5) (mi 6) (mi 7) (mi 10) (mi 17) (mi 23) (mi 24) (mi 26) (mi 27) (mi 28) (mi 29) (mi 30) (mi 31) (mi 32) (mi 33) (mi 37) (mi 41) (mi 42) (mi 43) (mi 44) (mi 45) (mi 47) (mi 48) (mi 49) (mi 50) (mi 51) (mi 54) (mi 56) fm_trust fm_letter fm_reportPlace fm_reportKind fm_struck fm_reportMonth fm_reportDay fm_reportKnown fm_deedMonth fm_deedDay fm_deedLong fm_deedKind fm_kept fm_tape fm_must fm_least fm_pin fm_ways fm_verdict fm_row fm_official fm_aside fm_worth fm_out) sz) h0 mi mr km fm_must fm_least fm_pin fm_ways fm_trust fm_letter fm_reportPlace fm_reportKind fm_struck fm_reportMonth fm_reportDay fm_reportKnown fm_deedMonth fm_deedDay fm_deedLong fm_deedKind fm_kept fm_tape fm_verdict fm_row fm_official fm_aside fm_worth fm_out p1 p2 p3 z3 z4 t) (va_A (MWn h0 mr km (mi 0) (mi 1) (mi 2) (mi 3) (mi 4) (mi 5) (mi 6) (mi 7) (mi 10) (mi 17) (mi 23) (mi 24) (mi 26) (mi 27) (mi 28) (mi 29) (mi 30) (mi 31) (mi 32) (mi 33) (mi 37) (mi 41) (mi 42) (mi 43) (mi 44) (mi 45) (mi 47) (mi 48) (mi 49) (mi 50) (mi 51) (mi 54) (mi 56) fm_trust fm_letter fm_reportPlace fm_reportKind fm_struck fm_reportMonth fm_reportDay fm_reportKnown fm_deedMonth fm_deedDay fm_deedLong fm_deedKind fm_kept fm_tape fm_must fm_least fm_pin fm_ways fm_verdict fm_row fm_official fm_aside fm_worth fm_out) sz)) 0 0 (va_A (MWn h0 mr km (mi 0) (mi 1) (mi 2) (mi 3) (mi 4) (mi 5) (mi 6) (mi 7) (mi 10) (mi 17) (mi 23) (mi 24) (mi 26) (mi 27) (mi 28) (mi 29) (mi 30) (mi 31) (mi 32) (mi 33) (mi 37) (mi 41) (mi 42) (mi 43) (mi 44) (mi 45) (mi 47) (mi 48) (mi 49) (mi 50) (mi 51) (mi 54) (mi 56) fm_trust fm_letter fm_reportPlace fm_reportKind fm_struck fm_reportMonth fm_reportDay fm_reportKnown fm_deedMonth fm_deedDay fm_deedLong fm_deedKind fm_kept fm_tape fm_must fm_least fm_pin fm_ways fm_verdict fm_row fm_official fm_aside fm_worth fm_out) sz) := by
  refine Met.ofW (cc := cX12_fallsOn) (maxL := 5) (ret := (some .int)) (by decide) rfl ?_
  intro p e s m args below meth c s₁ B hml hv
  obtain ⟨rfl, hsz, hP, hK, hD0⟩ := hv
  have hx := B.exec
  have hb := B.bytes
  have hr := B.returns
  have hts := atoms_spec (ws := (.code yX12_fallsOn cX12_fallsOn 5 (some .int) :: wsGB)) B.pre
  have hown : s.vm.findClass RX12 = some m.cls := findClass_of_methodNamed B.named
  have hlocks := B.notSynchronized
  subst hsz
  have hD := hD0.self (sz := s.heap.size)
  generalize hAe : va_A (MWn h0 mr km (mi 0) (mi 1) (mi 2) (mi 3) (mi 4) (mi 5) (mi 6) (mi 7) (mi 10) (mi 17) (mi 23) (mi 24) (mi 26) (mi 27) (mi 28) (mi 29) (mi 30) (mi 31) (mi 32) (mi 33) (mi 37) (mi 41) (mi 42) (mi 43) (mi 44) (mi 45) (mi 47) (mi 48) (mi 49) (mi 50) (mi 51) (mi 54) (mi 56) fm_trust fm_letter fm_reportPlace fm_reportKind fm_struck fm_reportMonth fm_reportDay fm_reportKnown fm_deedMonth fm_deedDay fm_deedLong fm_deedKind fm_kept fm_tape fm_must fm_least fm_pin fm_ways fm_verdict fm_row fm_official fm_aside fm_worth fm_out) s.heap.size = A at hD ⊢
  have hA : ∀ q : Nat, s.heap.size ≤ q → A q := fun q h => by rw [← hAe]; exact Or.inr h
  have hS : va_S A s.heap s.heap [] := va_S.rf
  have hl := lv_entry ([.ref h0, .int p1, .int p2, .int p3]) (n := 5) (Nat.le_of_ble_eq_true rfl)
  rw [lg_entry_eq]
  generalize (lg_sl ([.ref h0, .int p1, .int p2, .int p3]) ++ List.replicate (5 - (lg_sl ([.ref h0, .int p1, .int p2, .int p3])).length) Slot.unset).toArray = ls at hl ⊢
  have hl : lv_has ls 5 [(0, .ref h0), (1, .int p1), (2, .int p2), (3, .int p3)] := hl
  refine lv_iload_n hx hb (dk_at dkX12_fallsOn 0 rfl) rfl (lv_at hl 2 rfl) ?_
  refine lv_bipush (v := 30) hx hb (dk_at dkX12_fallsOn 1 rfl) (by decide) ?_
  refine lv_icmp_ge (tgt := 17) hx hb (dk_at dkX12_fallsOn 2 rfl) (by decide) (fun c_45 => ?_) (fun c_45 => ?_)
  · have g_46 : gi p2 30 2147483647 := gi_le_r c_45 (gi_c 30 30 (by decide)) (gi_any p2)
    refine lv_iload_n hx hb (dk_at dkX12_fallsOn 12 rfl) rfl (lv_at hl 3 rfl) ?_
    refine lv_bipush (v := 29) hx hb (dk_at dkX12_fallsOn 13 rfl) (by decide) ?_
    refine lv_isub hx hb (dk_at dkX12_fallsOn 14 rfl) ?_
    refine lv_topi (fun x_47 ex_47 => ?_)
    refine lv_istore (lv' := [(4, .int x_47), (0, .ref h0), (1, .int p1), (2, .int p2), (3, .int p3)]) hx hb (dk_at dkX12_fallsOn 15 rfl) hl (by decide) rfl (fun ls hl => ?_)
    refine lv_aload_n hx hb (dk_at dkX12_fallsOn 16 rfl) rfl (lv_at hl 1 rfl) ?_
    refine lv_iload_n hx hb (dk_at dkX12_fallsOn 17 rfl) rfl (lv_at hl 2 rfl) ?_
    refine lv_iload hx hb (dk_at dkX12_fallsOn 18 rfl) (lv_at hl 0 rfl) ?_
    refine lv_iload_n hx hb (dk_at dkX12_fallsOn 19 rfl) rfl (lv_at hl 2 rfl) ?_
    refine lv_iconst (v := 1) hx hb (dk_at dkX12_fallsOn 20 rfl) (by decide) ?_
    refine lv_iadd hx hb (dk_at dkX12_fallsOn 21 rfl) ?_
    refine lv_topi (fun x_48 ex_48 => ?_)
    have gx_48 : gi x_48 1 24 := gi_add ex_48 gp1 (gi_c 1 1 (by decide)) (by decide)
    refine lv_iload hx hb (dk_at dkX12_fallsOn 22 rfl) (lv_at hl 0 rfl) ?_
    refine lv_bipush (v := 30) hx hb (dk_at dkX12_fallsOn 23 rfl) (by decide) ?_
    refine lv_iadd hx hb (dk_at dkX12_fallsOn 24 rfl) ?_
    refine lv_topi (fun x_49 ex_49 => ?_)
    have hFc := gz_fullF hD hS hA
    refine va_calli (va_runV (As := [.int p1, .int x_47, .int x_48, .int x_49]) (rest := []) ⟨hx, hb, hml, hown, hts⟩ (sX12_countsWith l dC dI s.heap.size h0 mi mr km fm_must fm_least fm_pin fm_ways fm_trust fm_letter fm_reportPlace fm_reportKind fm_struck fm_reportMonth fm_reportDay fm_reportKnown fm_deedMonth fm_deedDay fm_deedLong fm_deedKind fm_kept fm_tape fm_verdict fm_row fm_official fm_aside fm_worth fm_out p1 x_47 x_48 x_49 gmi_0 gmi_1 gmi_2 gmi_4 gmi_7 gmi_10 gmi_17 gmi_23 gmi_24 gmi_26 gmi_29 gmi_30 gmi_33 gmi_37 gmi_41 gmi_50 gmi_51 gmi_56 (gi_w gp1 (by decide)) (gi_w gx_48 (by decide))) (cwV 4 hts (gz_gV mGB_377 mGB_378 mGB_379 mGB_1 mGB_380 goodGB) rfl rfl rfl (by decide +kernel) ⟨Nat.le_of_ble_eq_true rfl, Nat.le_of_ble_eq_true rfl⟩) ⟨bl_W, mw_recv hK hP, fun U hU hW => ⟨rfl, by rw [hU], by rw [hU]; exact hP, va_K.moved hW.alike hK, hD.weaken (fun _ _ _ _ => trivial)⟩⟩ rfl rfl hl.1 rfl (lv_room (Nat.le_of_ble_eq_true rfl)) (dk_at dkX12_fallsOn 25 rfl) ⟨Nat.zero_le _, Nat.zero_le _⟩) hS (fun q _ h => hFc q h) hFc (fun r_50 u t H1 locs ht hvm hw hB hz1 hk1 hS => ?_)
    obtain ⟨f_51, f_52, hB⟩ := hB
    obtain ⟨hP1, hD1⟩ := hB
    rw [ht] at hP1
    have hD : va_D A (MWn h0 mr km (mi 0) (mi 1) (mi 2) (mi 3) (mi 4) (mi 5) (mi 6) (mi 7) (mi 10) (mi 17) (mi 23) (mi 24) (mi 26) (mi 27) (mi 28) (mi 29) (mi 30) (mi 31) (mi 32) (mi 33) (mi 37) (mi 41) (mi 42) (mi 43) (mi 44) (mi 45) (mi 47) (mi 48) (mi 49) (mi 50) (mi 51) (mi 54) (mi 56) fm_trust fm_letter fm_reportPlace fm_reportKind fm_struck fm_reportMonth fm_reportDay fm_reportKnown fm_deedMonth fm_deedDay fm_deedLong fm_deedKind fm_kept fm_tape fm_must fm_least f_51 f_52 fm_verdict fm_row fm_official fm_aside fm_worth fm_out) := gz_fullD hFc hD1
    have hP : va_P (dC, dI) vwCl (MWn h0 mr km (mi 0) (mi 1) (mi 2) (mi 3) (mi 4) (mi 5) (mi 6) (mi 7) (mi 10) (mi 17) (mi 23) (mi 24) (mi 26) (mi 27) (mi 28) (mi 29) (mi 30) (mi 31) (mi 32) (mi 33) (mi 37) (mi 41) (mi 42) (mi 43) (mi 44) (mi 45) (mi 47) (mi 48) (mi 49) (mi 50) (mi 51) (mi 54) (mi 56) fm_trust fm_letter fm_reportPlace fm_reportKind fm_struck fm_reportMonth fm_reportDay fm_reportKnown fm_deedMonth fm_deedDay fm_deedLong fm_deedKind fm_kept fm_tape fm_must fm_least f_51 f_52 fm_verdict fm_row fm_official fm_aside fm_worth fm_out) H1 := hP1
    generalize H1 = H at hP hS ⊢
    refine lv_aload_n hx hb (dk_at dkX12_fallsOn 26 rfl) rfl (lv_at hl 1 rfl) ?_
    refine lv_iload_n hx hb (dk_at dkX12_fallsOn 27 rfl) rfl (lv_at hl 2 rfl) ?_
    refine lv_iload hx hb (dk_at dkX12_fallsOn 28 rfl) (lv_at hl 0 rfl) ?_
    refine lv_iconst (v := 1) hx hb (dk_at dkX12_fallsOn 29 rfl) (by decide) ?_
    refine lv_iadd hx hb (dk_at dkX12_fallsOn 30 rfl) ?_
    refine lv_topi (fun x_53 ex_53 => ?_)
    refine lv_iload_n hx hb (dk_at dkX12_fallsOn 31 rfl) rfl (lv_at hl 2 rfl) ?_
    refine lv_iconst (v := 1) hx hb (dk_at dkX12_fallsOn 32 rfl) (by decide) ?_
    refine lv_iadd hx hb (dk_at dkX12_fallsOn 33 rfl) ?_
    refine lv_topi (fun x_54 ex_54 => ?_)
    have gx_54 : gi x_54 1 24 := gi_add ex_54 gp1 (gi_c 1 1 (by decide)) (by decide)
    refine lv_iload hx hb (dk_at dkX12_fallsOn 34 rfl) (lv_at hl 0 rfl) ?_
    refine lv_iconst (v := 1) hx hb (dk_at dkX12_fallsOn 35 rfl) (by decide) ?_
    refine lv_iadd hx hb (dk_at dkX12_fallsOn 36 rfl) ?_
    refine lv_topi (fun x_55 ex_55 => ?_)
    refine lv_bipush (v := 29) hx hb (dk_at dkX12_fallsOn 37 rfl) (by decide) ?_
    refine lv_iadd hx hb (dk_at dkX12_fallsOn 38 rfl) ?_
    refine lv_topi (fun x_56 ex_56 => ?_)
    have hFc := gz_fullF hD hS hA
    refine va_calli (va_runV (As := [.int p1, .int x_53, .int x_54, .int x_56]) (rest := [.int r_50]) ⟨hx, hb, hml, hown, hts⟩ (sX12_countsWith l dC dI H.size h0 mi mr km fm_must fm_least f_51 f_52 fm_trust fm_letter fm_reportPlace fm_reportKind fm_struck fm_reportMonth fm_reportDay fm_reportKnown fm_deedMonth fm_deedDay fm_deedLong fm_deedKind fm_kept fm_tape fm_verdict fm_row fm_official fm_aside fm_worth fm_out p1 x_53 x_54 x_56 gmi_0 gmi_1 gmi_2 gmi_4 gmi_7 gmi_10 gmi_17 gmi_23 gmi_24 gmi_26 gmi_29 gmi_30 gmi_33 gmi_37 gmi_41 gmi_50 gmi_51 gmi_56 (gi_w gp1 (by decide)) (gi_w gx_54 (by decide))) (cwV 4 hts (gz_gV mGB_377 mGB_378 mGB_379 mGB_1 mGB_380 goodGB) rfl rfl rfl (by decide +kernel) ⟨Nat.le_of_ble_eq_true rfl, Nat.le_of_ble_eq_true rfl⟩) ⟨bl_W, mw_recv hK hP, fun U hU hW => ⟨rfl, by rw [hU], by rw [hU]; exact hP, va_K.moved hW.alike hK, hD.weaken (fun _ _ _ _ => trivial)⟩⟩ rfl rfl hl.1 rfl (lv_room (Nat.le_of_ble_eq_true rfl)) (dk_at dkX12_fallsOn 39 rfl) ⟨Nat.zero_le _, Nat.zero_le _⟩) hS (fun q _ h => hFc q h) hFc (fun r_57 u t H1 locs ht hvm hw hB hz1 hk1 hS => ?_)
    obtain ⟨f_58, f_59, hB⟩ := hB
    obtain ⟨hP1, hD1⟩ := hB
    rw [ht] at hP1
    have hD : va_D A (MWn h0 mr km (mi 0) (mi 1) (mi 2) (mi 3) (mi 4) (mi 5) (mi 6) (mi 7) (mi 10) (mi 17) (mi 23) (mi 24) (mi 26) (mi 27) (mi 28) (mi 29) (mi 30) (mi 31) (mi 32) (mi 33) (mi 37) (mi 41) (mi 42) (mi 43) (mi 44) (mi 45) (mi 47) (mi 48) (mi 49) (mi 50) (mi 51) (mi 54) (mi 56) fm_trust fm_letter fm_reportPlace fm_reportKind fm_struck fm_reportMonth fm_reportDay fm_reportKnown fm_deedMonth fm_deedDay fm_deedLong fm_deedKind fm_kept fm_tape fm_must fm_least f_58 f_59 fm_verdict fm_row fm_official fm_aside fm_worth fm_out) := gz_fullD hFc hD1
    have hP : va_P (dC, dI) vwCl (MWn h0 mr km (mi 0) (mi 1) (mi 2) (mi 3) (mi 4) (mi 5) (mi 6) (mi 7) (mi 10) (mi 17) (mi 23) (mi 24) (mi 26) (mi 27) (mi 28) (mi 29) (mi 30) (mi 31) (mi 32) (mi 33) (mi 37) (mi 41) (mi 42) (mi 43) (mi 44) (mi 45) (mi 47) (mi 48) (mi 49) (mi 50) (mi 51) (mi 54) (mi 56) fm_trust fm_letter fm_reportPlace fm_reportKind fm_struck fm_reportMonth fm_reportDay fm_reportKnown fm_deedMonth fm_deedDay fm_deedLong fm_deedKind fm_kept fm_tape fm_must fm_least f_58 f_59 fm_verdict fm_row fm_official fm_aside fm_worth fm_out) H1 := hP1
    generalize H1 = H at hP hS ⊢
    refine lv_iadd hx hb (dk_at dkX12_fallsOn 40 rfl) ?_
    refine lv_topi (fun x_60 ex_60 => ?_)
    exact W.iret (v := x_60) hx hb hr (fun t ht hW => ⟨⟨x_60, (), rfl, (gi_any x_60), f_58, f_59, by rw [ht]; exact hP, hD⟩, hS.F ht⟩) hS.2.2 (dk_at dkX12_fallsOn 41 rfl)
  · have g_61 : gi p2 (-2147483648) 29 := gi_lt_l (Int32.not_le.mp c_45) (gi_any p2) (gi_c 30 30 (by decide)) (by decide)
    refine lv_aload_n hx hb (dk_at dkX12_fallsOn 3 rfl) rfl (lv_at hl 0 rfl) ?_
    refine lv_iload_n hx hb (dk_at dkX12_fallsOn 4 rfl) rfl (lv_at hl 1 rfl) ?_
    refine lv_iload_n hx hb (dk_at dkX12_fallsOn 5 rfl) rfl (lv_at hl 3 rfl) ?_
    refine lv_iload_n hx hb (dk_at dkX12_fallsOn 6 rfl) rfl (lv_at hl 2 rfl) ?_
    refine lv_isub hx hb (dk_at dkX12_fallsOn 7 rfl) ?_
    refine lv_topi (fun x_62 ex_62 => ?_)
    refine lv_iconst (v := 1) hx hb (dk_at dkX12_fallsOn 8 rfl) (by decide) ?_
    refine lv_iadd hx hb (dk_at dkX12_fallsOn 9 rfl) ?_
    refine lv_topi (fun x_63 ex_63 => ?_)
    have hFc := gz_fullF hD hS hA
    refine va_calli (va_runV (As := [.int p1, .int x_63]) (rest := []) ⟨hx, hb, hml, hown, hts⟩ (sX12_beginsOn l dC dI s.heap.size h0 mi mr km fm_must fm_least fm_pin fm_ways fm_trust fm_letter fm_reportPlace fm_reportKind fm_struck fm_reportMonth fm_reportDay fm_reportKnown fm_deedMonth fm_deedDay fm_deedLong fm_deedKind fm_kept fm_tape fm_verdict fm_row fm_official fm_aside fm_worth fm_out p1 x_63 gmi_0 gmi_1 gmi_2 gmi_4 gmi_7 gmi_10 gmi_17 gmi_23 gmi_24 gmi_26 gmi_29 gmi_30 gmi_33 gmi_37 gmi_41 gmi_50 gmi_51 gmi_56 (gi_w gp1 (by decide))) (cwV 2 hts (gz_gV mGB_373 mGB_374 mGB_375 mGB_1 mGB_376 goodGB) rfl rfl rfl (by decide +kernel) ⟨Nat.le_of_ble_eq_true rfl, Nat.le_of_ble_eq_true rfl⟩) ⟨bl_W, mw_recv hK hP, fun U hU hW => ⟨rfl, by rw [hU], by rw [hU]; exact hP, va_K.moved hW.alike hK, hD.weaken (fun _ _ _ _ => trivial)⟩⟩ rfl rfl hl.1 rfl (lv_room (Nat.le_of_ble_eq_true rfl)) (dk_at dkX12_fallsOn 10 rfl) ⟨Nat.zero_le _, Nat.zero_le _⟩) hS (fun q _ h => hFc q h) hFc (fun r_64 u t H1 locs ht hvm hw hB hz1 hk1 hS => ?_)
    obtain ⟨f_65, f_66, hB⟩ := hB
    obtain ⟨hP1, hD1⟩ := hB
    rw [ht] at hP1
    have hD : va_D A (MWn h0 mr km (mi 0) (mi 1) (mi 2) (mi 3) (mi 4) (mi 5) (mi 6) (mi 7) (mi 10) (mi 17) (mi 23) (mi 24) (mi 26) (mi 27) (mi 28) (mi 29) (mi 30) (mi 31) (mi 32) (mi 33) (mi 37) (mi 41) (mi 42) (mi 43) (mi 44) (mi 45) (mi 47) (mi 48) (mi 49) (mi 50) (mi 51) (mi 54) (mi 56) fm_trust fm_letter fm_reportPlace fm_reportKind fm_struck fm_reportMonth fm_reportDay fm_reportKnown fm_deedMonth fm_deedDay fm_deedLong fm_deedKind fm_kept fm_tape fm_must fm_least f_65 f_66 fm_verdict fm_row fm_official fm_aside fm_worth fm_out) := gz_fullD hFc hD1
    have hP : va_P (dC, dI) vwCl (MWn h0 mr km (mi 0) (mi 1) (mi 2) (mi 3) (mi 4) (mi 5) (mi 6) (mi 7) (mi 10) (mi 17) (mi 23) (mi 24) (mi 26) (mi 27) (mi 28) (mi 29) (mi 30) (mi 31) (mi 32) (mi 33) (mi 37) (mi 41) (mi 42) (mi 43) (mi 44) (mi 45) (mi 47) (mi 48) (mi 49) (mi 50) (mi 51) (mi 54) (mi 56) fm_trust fm_letter fm_reportPlace fm_reportKind fm_struck fm_reportMonth fm_reportDay fm_reportKnown fm_deedMonth fm_deedDay fm_deedLong fm_deedKind fm_kept fm_tape fm_must fm_least f_65 f_66 fm_verdict fm_row fm_official fm_aside fm_worth fm_out) H1 := hP1
    generalize H1 = H at hP hS ⊢
    exact W.iret (v := r_64) hx hb hr (fun t ht hW => ⟨⟨r_64, (), rfl, (gi_any r_64), f_65, f_66, by rw [ht]; exact hP, hD⟩, hS.F ht⟩) hS.2.2 (dk_at dkX12_fallsOn 11 rfl)
noncomputable def lsX12_both : List (Nat × Instr × Nat) := [(0, .aload_n 0, 1), (1, .iload_n 1, 1), (2, .invokevirtual 303, 3), (5, .ifCond .eq 11, 3), (8, .aload_n 0, 1), (9, .iload_n 2, 1), (10, .invokevirtual 303, 3), (13, .ifCond .ne 6, 3), (16, .bipush (-2), 2), (18, .ireturn, 1), (19, .aload_n 0, 1), (20, .iload_n 1, 1), (21, .iload_n 2, 1), (22, .invokevirtual 373, 3), (25, .ifCond .eq 7, 3), (28, .iconst 1, 1), (29, .goto 4, 3), (32, .iconst 0, 1), (33, .ireturn, 1)]
theorem dkX12_both : dkAll cX12_both lsX12_both = true := by decide +kernel
abbrev pb_sX12_both (dC : Nat → ClassId) (dI : Nat → Nat → Nat) (A9 : Nat → Prop) (h0 : Nat) (mi : Nat → Int32) (mr : Nat → Nat) (km : Nat → ClassId) (fm_must : Nat → Int32) (fm_least : Nat → Int32) (fm_pin : Nat → Int32) (fm_ways : Nat → Int32) (fm_verdict : Nat → Int32) (fm_row : Nat → Int32) (fm_struck : Nat → Int32) (fm_reportKnown : Nat → Int32) (fm_reportPlace : Nat → Int32) (fm_reportMonth : Nat → Int32) (fm_reportDay : Nat → Int32) (fm_reportKind : Nat → Int32) (fm_trust : Nat → Int32) (fm_letter : Nat → Int32) (fm_deedMonth : Nat → Int32) (fm_deedDay : Nat → Int32) (fm_deedLong : Nat → Int32) (fm_deedKind : Nat → Int32) (fm_kept : Nat → Int32) (fm_tape : Nat → Int32) (fm_official : Nat → Int32) (fm_aside : Nat → Int32) (fm_worth : Nat → Int32) (fm_out : Nat → Int32) (p1 : Int32) (p2 : Int32) (w0_37 : Int32) (z1 : Nat → Int32) (z2 : Nat → Int32) (z3 : Nat → Int32) (z4 : Nat → Int32) (t : State) : Prop := gi w0_37 0 1 ∧ va_P (dC, dI) vwCl (MWn h0 mr km (mi 0) (mi 1) (mi 2) (mi 3) (mi 4) (mi 5) (mi 6) (mi 7) (mi 10) (mi 17) (mi 23) (mi 24) (mi 26) (mi 27) (mi 28) (mi 29) (mi 30) (mi 31) (mi 32) (mi 33) w0_37 (mi 41) (mi 42) (mi 43) (mi 44) (mi 45) (mi 47) (mi 48) (mi 49) (mi 50) (mi 51) (mi 54) (mi 56) fm_trust fm_letter fm_reportPlace fm_reportKind fm_struck fm_reportMonth fm_reportDay fm_reportKnown fm_deedMonth fm_deedDay fm_deedLong fm_deedKind fm_kept fm_tape z1 z2 z3 z4 fm_verdict fm_row fm_official fm_aside fm_worth fm_out) t.heap ∧ va_D A9 (MWn h0 mr km (mi 0) (mi 1) (mi 2) (mi 3) (mi 4) (mi 5) (mi 6) (mi 7) (mi 10) (mi 17) (mi 23) (mi 24) (mi 26) (mi 27) (mi 28) (mi 29) (mi 30) (mi 31) (mi 32) (mi 33) w0_37 (mi 41) (mi 42) (mi 43) (mi 44) (mi 45) (mi 47) (mi 48) (mi 49) (mi 50) (mi 51) (mi 54) (mi 56) fm_trust fm_letter fm_reportPlace fm_reportKind fm_struck fm_reportMonth fm_reportDay fm_reportKnown fm_deedMonth fm_deedDay fm_deedLong fm_deedKind fm_kept fm_tape z1 z2 z3 z4 fm_verdict fm_row fm_official fm_aside fm_worth fm_out)
set_option maxHeartbeats 4000000 in
set_option maxRecDepth 100000 in
theorem sX12_both (l : Launch) (dC : Nat → ClassId) (dI : Nat → Nat → Nat) (sz : Nat) (h0 : Nat) (mi : Nat → Int32) (mr : Nat → Nat) (km : Nat → ClassId) (fm_must : Nat → Int32) (fm_least : Nat → Int32) (fm_pin : Nat → Int32) (fm_ways : Nat → Int32) (fm_verdict : Nat → Int32) (fm_row : Nat → Int32) (fm_struck : Nat → Int32) (fm_reportKnown : Nat → Int32) (fm_reportPlace : Nat → Int32) (fm_reportMonth : Nat → Int32) (fm_reportDay : Nat → Int32) (fm_reportKind : Nat → Int32) (fm_trust : Nat → Int32) (fm_letter : Nat → Int32) (fm_deedMonth : Nat → Int32) (fm_deedDay : Nat → Int32) (fm_deedLong : Nat → Int32) (fm_deedKind : Nat → Int32) (fm_kept : Nat → Int32) (fm_tape : Nat → Int32) (fm_official : Nat → Int32) (fm_aside : Nat → Int32) (fm_worth : Nat → Int32) (fm_out : Nat → Int32) (p1 : Int32) (p2 : Int32) (gmi_0 : gi (mi 0) 0 24) (gmi_1 : gi (mi 1) 0 5) (gmi_2 : gi (mi 2) 0 5) (gmi_4 : gi (mi 4) 0 1) (gmi_7 : gi (mi 7) 0 6) (gmi_10 : gi (mi 10) 0 24) (gmi_17 : gi (mi 17) 0 8) (gmi_23 : gi (mi 23) 0 300) (gmi_24 : gi (mi 24) 0 1) (gmi_26 : gi (mi 26) 0 1600) (gmi_29 : gi (mi 29) 0 1600) (gmi_30 : gi (mi 30) 0 1600) (gmi_33 : gi (mi 33) 0 1) (gmi_37 : gi (mi 37) 0 1) (gmi_41 : gi (mi 41) 0 24) (gmi_50 : gi (mi 50) 0 1) (gmi_51 : gi (mi 51) 0 1) (gmi_56 : gi (mi 56) 0 80) (gfm_row : ga fm_row 24 0 23) (gfm_struck : ga fm_struck 24 0 1) (gfm_reportKnown : ga fm_reportKnown 24 0 999) (gfm_reportPlace : ga fm_reportPlace 24 0 5) (gfm_reportMonth : ga fm_reportMonth 24 0 23) (gfm_reportDay : ga fm_reportDay 24 0 999) : Met l yX12_both (.code yX12_both cX12_both 3 (some .int) :: wsGB) ({ frames := 4, cells := 0, slots := 0, locals := 95 }) (va_Pc [.ref h0, .int p1, .int p2] (fun U => U.heap.size = sz ∧ va_P (dC, dI) vwCl (MWn h0 mr km (mi 0) (mi 1) (mi 2) (mi 3) (mi 4) (mi 5) (mi 6) (mi 7) (mi 10) (mi 17) (mi 23) (mi 24) (mi 26) (mi 27) (mi 28) (mi 29) (mi 30) (mi 31) (mi 32) (mi 33) (mi 37) (mi 41) (mi 42) (mi 43) (mi 44) (mi 45) (mi 47) (mi 48) (mi 49) (mi 50) (mi 51) (mi 54) (mi 56) fm_trust fm_letter fm_reportPlace fm_reportKind fm_struck fm_reportMonth fm_reportDay fm_reportKnown fm_deedMonth fm_deedDay fm_deedLong fm_deedKind fm_kept fm_tape fm_must fm_least fm_pin fm_ways fm_verdict fm_row fm_official fm_aside fm_worth fm_out) U.heap ∧ va_K (dC, dI) vwCl (MT km) U ∧ va_D (fun _ => True) (MWn h0 mr km (mi 0) (mi 1) (mi 2) (mi 3) (mi 4) (mi 5) (mi 6) (mi 7) (mi 10) (mi 17) (mi 23) (mi 24) (mi 26) (mi 27) (mi 28) (mi 29) (mi 30) (mi 31) (mi 32) (mi 33) (mi 37) (mi 41) (mi 42) (mi 43) (mi 44) (mi 45) (mi 47) (mi 48) (mi 49) (mi 50) (mi 51) (mi 54) (mi 56) fm_trust fm_letter fm_reportPlace fm_reportKind fm_struck fm_reportMonth fm_reportDay fm_reportKnown fm_deedMonth fm_deedDay fm_deedLong fm_deedKind fm_kept fm_tape fm_must fm_least fm_pin fm_ways fm_verdict fm_row fm_official fm_aside fm_worth fm_out))) (va_Qi (fun (r : Int32) (u : Unit) => gi r (-2) 1) (fun _ t => ∃ (w0_37 : Int32) (z1 : Nat → Int32) (z2 : Nat → Int32) (z3 : Nat → Int32) (z4 : Nat → Int32), pb_sX12_both dC dI (va_A (MWn h0 mr km (mi 0) (mi 1) (mi 2) (mi 3) (mi 4) (mi 5) (mi 6) (mi 7) (mi 10) (mi 17) (mi 23) (mi 24) (mi 26) (mi 27) (mi 28) (mi 29) (mi 30) (mi 31) (mi 32) (mi 33) (mi 37) (mi 41) (mi 42) (mi 43) (mi 44) (mi 45) (mi 47) (mi 48) (mi 49) (mi 50) (mi 51) (mi 54) (mi 56) fm_trust fm_letter fm_reportPlace fm_reportKind fm_struck fm_reportMonth fm_reportDay fm_reportKnown fm_deedMonth fm_deedDay fm_deedLong fm_deedKind fm_kept fm_tape fm_must fm_least fm_pin fm_ways fm_verdict fm_row fm_official fm_aside fm_worth fm_out) sz) h0 mi mr km fm_must fm_least fm_pin fm_ways fm_verdict fm_row fm_struck fm_reportKnown fm_reportPlace fm_reportMonth fm_reportDay fm_reportKind fm_trust fm_letter fm_deedMonth fm_deedDay fm_deedLong fm_deedKind fm_kept fm_tape fm_official fm_aside fm_worth fm_out p1 p2 w0_37 z1 z2 z3 z4 t) (va_A (MWn h0 mr km (mi 0) (mi 1) (mi 2) (mi 3) (mi 4) (mi 5) (mi 6) (mi 7) (mi 10) (mi 17) (mi 23) (mi 24) (mi 26) (mi 27) (mi 28) (mi 29) (mi 30) (mi 31) (mi 32) (mi 33) (mi 37) (mi 41) (mi 42) (mi 43) (mi 44) (mi 45) (mi 47) (mi 48) (mi 49) (mi 50) (mi 51) (mi 54) (mi 56) fm_trust fm_letter fm_reportPlace fm_reportKind fm_struck fm_reportMonth fm_reportDay fm_reportKnown fm_deedMonth fm_deedDay fm_deedLong fm_deedKind fm_kept fm_tape fm_must fm_least fm_pin fm_ways fm_verdict fm_row fm_official fm_aside fm_worth fm_out) sz)) 0 0 (va_A (MWn h0 mr km (mi 0) (mi 1) (mi 2) (mi 3) (mi 4) (mi 5) (mi 6) (mi 7) (mi 10) (mi 17) (mi 23) (mi 24) (mi 26) (mi 27) (mi 28) (mi 29) (mi 30) (mi 31) (mi 32) (mi 33) (mi 37) (mi 41) (mi 42) (mi 43) (mi 44) (mi 45) (mi 47) (mi 48) (mi 49) (mi 50) (mi 51) (mi 54) (mi 56) fm_trust fm_letter fm_reportPlace fm_reportKind fm_struck fm_reportMonth fm_reportDay fm_reportKnown fm_deedMonth fm_deedDay fm_deedLong fm_deedKind fm_kept fm_tape fm_must fm_least fm_pin fm_ways fm_verdict fm_row fm_official fm_aside fm_worth fm_out) sz) := by
  refine Met.ofW (cc := cX12_both) (maxL := 3) (ret := (some .int)) (by decide) rfl ?_
  intro p e s m args below meth c s₁ B hml hv
  obtain ⟨rfl, hsz, hP, hK, hD0⟩ := hv
  have hx := B.exec
  have hb := B.bytes
  have hr := B.returns
  have hts := atoms_spec (ws := (.code yX12_both cX12_both 3 (some .int) :: wsGB)) B.pre
  have hown : s.vm.findClass RX12 = some m.cls := findClass_of_methodNamed B.named
  have hlocks := B.notSynchronized
  subst hsz
  have hD := hD0.self (sz := s.heap.size)
  generalize hAe : va_A (MWn h0 mr km (mi 0) (mi 1) (mi 2) (mi 3) (mi 4) (mi 5) (mi 6) (mi 7) (mi 10) (mi 17) (mi 23) (mi 24) (mi 26) (mi 27) (mi 28) (mi 29) (mi 30) (mi 31) (mi 32) (mi 33) (mi 37) (mi 41) (mi 42) (mi 43) (mi 44) (mi 45) (mi 47) (mi 48) (mi 49) (mi 50) (mi 51) (mi 54) (mi 56) fm_trust fm_letter fm_reportPlace fm_reportKind fm_struck fm_reportMonth fm_reportDay fm_reportKnown fm_deedMonth fm_deedDay fm_deedLong fm_deedKind fm_kept fm_tape fm_must fm_least fm_pin fm_ways fm_verdict fm_row fm_official fm_aside fm_worth fm_out) s.heap.size = A at hD ⊢
  have hA : ∀ q : Nat, s.heap.size ≤ q → A q := fun q h => by rw [← hAe]; exact Or.inr h
  have hS : va_S A s.heap s.heap [] := va_S.rf
  have hl := lv_entry ([.ref h0, .int p1, .int p2]) (n := 3) (Nat.le_of_ble_eq_true rfl)
  rw [lg_entry_eq]
  generalize (lg_sl ([.ref h0, .int p1, .int p2]) ++ List.replicate (3 - (lg_sl ([.ref h0, .int p1, .int p2])).length) Slot.unset).toArray = ls at hl ⊢
  have hl : lv_has ls 3 [(0, .ref h0), (1, .int p1), (2, .int p2)] := hl
  refine lv_aload_n hx hb (dk_at dkX12_both 0 rfl) rfl (lv_at hl 0 rfl) ?_
  refine lv_iload_n hx hb (dk_at dkX12_both 1 rfl) rfl (lv_at hl 1 rfl) ?_
  refine va_calli (va_runV (As := [.int p1]) (rest := []) ⟨hx, hb, hml, hown, hts⟩ (sX12_isReport l dC dI h0 mi mr km fm_trust fm_letter fm_reportPlace fm_reportKind fm_struck fm_reportMonth fm_reportDay fm_reportKnown fm_deedMonth fm_deedDay fm_deedLong fm_deedKind fm_kept fm_tape fm_must fm_least fm_pin fm_ways fm_verdict fm_row fm_official fm_aside fm_worth fm_out p1 gmi_0 gmi_1 gmi_2 gmi_4 gmi_7 gmi_10 gmi_17 gmi_23 gmi_24 gmi_26 gmi_29 gmi_30 gmi_33 gmi_37 gmi_41 gmi_50 gmi_51 gmi_56) (cwV 1 hts (gz_gV mGB_235 mGB_236 mGB_237 mGB_1 mGB_238 goodGB) rfl rfl rfl (by decide +kernel) ⟨Nat.le_of_ble_eq_true rfl, Nat.le_of_ble_eq_true rfl⟩) ⟨bl_R, mw_recv hK hP, fun U hU hW => ⟨rfl, by rw [hU]; exact hP, va_K.moved hW.alike hK⟩⟩ rfl rfl hl.1 rfl (lv_room (Nat.le_of_ble_eq_true rfl)) (dk_at dkX12_both 2 rfl) ⟨Nat.zero_le _, Nat.zero_le _⟩) hS (fun q _ h => h.elim) (fun q h => h.elim) (fun r_39 u t H1 locs ht hvm hw hB hz1 hk1 hS => ?_)
  obtain ⟨hw, hE⟩ := hw
  have hP := gz_keep hP hk1
  generalize H1 = H at hP hS ⊢
  have gr_39 : gi r_39 0 1 := hw.1
  have hqr_39 := hw.2
  refine lv_if_eq (tgt := 16) hx hb (dk_at dkX12_both 3 rfl) (by decide) (fun c_40 => ?_) (fun c_40 => ?_)
  · have g_41 : gi r_39 0 0 := gi_eq c_40 (gi_c 0 0 (by decide))
    refine lv_bipush (v := (-2)) hx hb (dk_at dkX12_both 8 rfl) (by decide) ?_
    exact W.iret (v := (-2)) hx hb hr (fun t ht hW => ⟨⟨(-2), (), rfl, (gi_w (gi_c (-2) (-2) (by decide)) (by decide)), (mi 37), fm_must, fm_least, fm_pin, fm_ways, gmi_37, by rw [ht]; exact hP, hD⟩, hS.F ht⟩) hS.2.2 (dk_at dkX12_both 9 rfl)
  · have g_42 : gi r_39 1 1 := gi_ne_lo c_40 gr_39 (gi_c 0 0 (by decide)) (by decide)
    have g_43 : gi p1 0 23 := gi_cap (gi_any p1) (hqr_39 (gz_one g_42)) (by decide)
    refine lv_aload_n hx hb (dk_at dkX12_both 4 rfl) rfl (lv_at hl 0 rfl) ?_
    refine lv_iload_n hx hb (dk_at dkX12_both 5 rfl) rfl (lv_at hl 2 rfl) ?_
    refine va_calli (va_runV (As := [.int p2]) (rest := []) ⟨hx, hb, hml, hown, hts⟩ (sX12_isReport l dC dI h0 mi mr km fm_trust fm_letter fm_reportPlace fm_reportKind fm_struck fm_reportMonth fm_reportDay fm_reportKnown fm_deedMonth fm_deedDay fm_deedLong fm_deedKind fm_kept fm_tape fm_must fm_least fm_pin fm_ways fm_verdict fm_row fm_official fm_aside fm_worth fm_out p2 gmi_0 gmi_1 gmi_2 gmi_4 gmi_7 gmi_10 gmi_17 gmi_23 gmi_24 gmi_26 gmi_29 gmi_30 gmi_33 gmi_37 gmi_41 gmi_50 gmi_51 gmi_56) (cwV 1 hts (gz_gV mGB_235 mGB_236 mGB_237 mGB_1 mGB_238 goodGB) rfl rfl rfl (by decide +kernel) ⟨Nat.le_of_ble_eq_true rfl, Nat.le_of_ble_eq_true rfl⟩) ⟨bl_R, mw_recv hK hP, fun U hU hW => ⟨rfl, by rw [hU]; exact hP, va_K.moved hW.alike hK⟩⟩ rfl rfl hl.1 rfl (lv_room (Nat.le_of_ble_eq_true rfl)) (dk_at dkX12_both 6 rfl) ⟨Nat.zero_le _, Nat.zero_le _⟩) hS (fun q _ h => h.elim) (fun q h => h.elim) (fun r_44 u t H1 locs ht hvm hw hB hz1 hk1 hS => ?_)
    obtain ⟨hw, hE⟩ := hw
    have hP := gz_keep hP hk1
    generalize H1 = H at hP hS ⊢
    have gr_44 : gi r_44 0 1 := hw.1
    have hqr_44 := hw.2
    refine lv_if_ne (tgt := 19) hx hb (dk_at dkX12_both 7 rfl) (by decide) (fun c_45 => ?_) (fun c_45 => ?_)
    · have g_46 : gi r_44 1 1 := gi_ne_lo c_45 gr_44 (gi_c 0 0 (by decide)) (by decide)
      have g_47 : gi p2 0 23 := gi_cap (gi_any p2) (hqr_44 (gz_one g_46)) (by decide)
      refine lv_aload_n hx hb (dk_at dkX12_both 10 rfl) rfl (lv_at hl 0 rfl) ?_
      refine lv_iload_n hx hb (dk_at dkX12_both 11 rfl) rfl (lv_at hl 1 rfl) ?_
      refine lv_iload_n hx hb (dk_at dkX12_both 12 rfl) rfl (lv_at hl 2 rfl) ?_
      have hFc := gz_fullF hD hS hA
      refine va_calli (va_runV (As := [.int p1, .int p2]) (rest := []) ⟨hx, hb, hml, hown, hts⟩ (sX12_areBoth l dC dI H.size h0 mi mr km fm_must fm_least fm_pin fm_ways fm_reportMonth fm_reportDay fm_reportKind fm_trust fm_letter fm_reportPlace fm_struck fm_reportKnown fm_deedMonth fm_deedDay fm_deedLong fm_deedKind fm_kept fm_tape fm_verdict fm_row fm_official fm_aside fm_worth fm_out p1 p2 gmi_0 gmi_1 gmi_2 gmi_4 gmi_7 gmi_10 gmi_17 gmi_23 gmi_24 gmi_26 gmi_29 gmi_30 gmi_33 gmi_37 gmi_41 gmi_50 gmi_51 gmi_56 gfm_reportMonth gfm_reportDay g_43 g_47) (cwV 2 hts (gz_gV mGB_338 mGB_339 mGB_340 mGB_1 mGB_341 goodGB) rfl rfl rfl (by decide +kernel) ⟨Nat.le_of_ble_eq_true rfl, Nat.le_of_ble_eq_true rfl⟩) ⟨bl_W, mw_recv hK hP, fun U hU hW => ⟨rfl, by rw [hU], by rw [hU]; exact hP, va_K.moved hW.alike hK, hD.weaken (fun _ _ _ _ => trivial)⟩⟩ rfl rfl hl.1 rfl (lv_room (Nat.le_of_ble_eq_true rfl)) (dk_at dkX12_both 13 rfl) ⟨Nat.zero_le _, Nat.zero_le _⟩) hS (fun q _ h => hFc q h) hFc (fun r_48 u t H1 locs ht hvm hw hB hz1 hk1 hS => ?_)
      obtain ⟨y_49, f_50, f_51, f_52, f_53, hB⟩ := hB
      obtain ⟨gy_49, hP1, hD1⟩ := hB
      rw [ht] at hP1
      have hD : va_D A (MWn h0 mr km (mi 0) (mi 1) (mi 2) (mi 3) (mi 4) (mi 5) (mi 6) (mi 7) (mi 10) (mi 17) (mi 23) (mi 24) (mi 26) (mi 27) (mi 28) (mi 29) (mi 30) (mi 31) (mi 32) (mi 33) y_49 (mi 41) (mi 42) (mi 43) (mi 44) (mi 45) (mi 47) (mi 48) (mi 49) (mi 50) (mi 51) (mi 54) (mi 56) fm_trust fm_letter fm_reportPlace fm_reportKind fm_struck fm_reportMonth fm_reportDay fm_reportKnown fm_deedMonth fm_deedDay fm_deedLong fm_deedKind fm_kept fm_tape f_50 f_51 f_52 f_53 fm_verdict fm_row fm_official fm_aside fm_worth fm_out) := gz_fullD hFc hD1
      have hP : va_P (dC, dI) vwCl (MWn h0 mr km (mi 0) (mi 1) (mi 2) (mi 3) (mi 4) (mi 5) (mi 6) (mi 7) (mi 10) (mi 17) (mi 23) (mi 24) (mi 26) (mi 27) (mi 28) (mi 29) (mi 30) (mi 31) (mi 32) (mi 33) y_49 (mi 41) (mi 42) (mi 43) (mi 44) (mi 45) (mi 47) (mi 48) (mi 49) (mi 50) (mi 51) (mi 54) (mi 56) fm_trust fm_letter fm_reportPlace fm_reportKind fm_struck fm_reportMonth fm_reportDay fm_reportKnown fm_deedMonth fm_deedDay fm_deedLong fm_deedKind fm_kept fm_tape f_50 f_51 f_52 f_53 fm_verdict fm_row fm_official fm_aside fm_worth fm_out) H1 := hP1
      generalize H1 = H at hP hS ⊢
      have gr_48 : gi r_48 0 1 := hw
      refine lv_if_eq (tgt := 32) hx hb (dk_at dkX12_both 14 rfl) (by decide) (fun c_54 => ?_) (fun c_54 => ?_)
      · have g_55 : gi r_48 0 0 := gi_eq c_54 (gi_c 0 0 (by decide))
        refine lv_iconst (v := 0) hx hb (dk_at dkX12_both 17 rfl) (by decide) ?_
        exact W.iret (v := 0) hx hb hr (fun t ht hW => ⟨⟨0, (), rfl, (gi_w (gi_c 0 0 (by decide)) (by decide)), y_49, f_50, f_51, f_52, f_53, gy_49, by rw [ht]; exact hP, hD⟩, hS.F ht⟩) hS.2.2 (dk_at dkX12_both 18 rfl)
      · have g_56 : gi r_48 1 1 := gi_ne_lo c_54 gr_48 (gi_c 0 0 (by decide)) (by decide)
        refine lv_iconst (v := 1) hx hb (dk_at dkX12_both 15 rfl) (by decide) ?_
        refine lv_goto (tgt := 33) hx hb (dk_at dkX12_both 16 rfl) (by decide) ?_
        exact W.iret (v := 1) hx hb hr (fun t ht hW => ⟨⟨1, (), rfl, (gi_w (gi_c 1 1 (by decide)) (by decide)), y_49, f_50, f_51, f_52, f_53, gy_49, by rw [ht]; exact hP, hD⟩, hS.F ht⟩) hS.2.2 (dk_at dkX12_both 18 rfl)
    · have g_57 : gi r_44 0 0 := gi_eq c_45 (gi_c 0 0 (by decide))
      refine lv_bipush (v := (-2)) hx hb (dk_at dkX12_both 8 rfl) (by decide) ?_
      exact W.iret (v := (-2)) hx hb hr (fun t ht hW => ⟨⟨(-2), (), rfl, (gi_w (gi_c (-2) (-2) (by decide)) (by decide)), (mi 37), fm_must, fm_least, fm_pin, fm_ways, gmi_37, by rw [ht]; exact hP, hD⟩, hS.F ht⟩) hS.2.2 (dk_at dkX12_both 9 rfl)
noncomputable def lsX12_later : List (Nat × Instr × Nat) := [(0, .aload_n 0, 1), (1, .iload_n 1, 1), (2, .invokevirtual 359, 3), (5, .ifCond .ne 6, 3), (8, .bipush (-2), 2), (10, .ireturn, 1), (11, .aload_n 0, 1), (12, .sipush 999, 3), (15, .invokevirtual 362, 3), (18, .iconst 0, 1), (19, .istore_n 2, 1), (20, .iconst 0, 1), (21, .istore_n 3, 1), (22, .iload_n 3, 1), (23, .aload_n 0, 1), (24, .getfield 141, 3), (27, .if_icmp .ge 37, 3), (30, .iload_n 2, 1), (31, .aload_n 0, 1), (32, .getfield 69, 3), (35, .iload_n 3, 1), (36, .iaload, 1), (37, .ifCond .ne 18, 3), (40, .aload_n 0, 1), (41, .iload_n 3, 1), (42, .iload_n 1, 1), (43, .invokevirtual 341, 3), (46, .ifCond .ne 9, 3), (49, .iconst 1, 1), (50, .iload_n 3, 1), (51, .ishl, 1), (52, .goto 4, 3), (55, .iconst 0, 1), (56, .ior, 1), (57, .istore_n 2, 1), (58, .iinc 3 1, 3), (61, .goto (-39), 3), (64, .iload_n 2, 1), (65, .ireturn, 1)]
theorem dkX12_later : dkAll cX12_later lsX12_later = true := by decide +kernel
set_option maxHeartbeats 4000000 in
set_option maxRecDepth 100000 in
theorem lp_sX12_later {p : Program} {l : Launch} {e : Env} {R : Room} {s : State} {m : MethodId} {args : Array Value} {below : List Frame} {meth : Method} {c : Code} {Q : State → Prop} {A : Nat → Prop} {cells slots : Nat} {dC : Nat → ClassId} {dI : Nat → Nat → Nat} (h0 : Nat) (mi : Nat → Int32) (mr : Nat → Nat) (km : Nat → ClassId) (fm_must : Nat → Int32) (fm_least : Nat → Int32) (fm_pin : Nat → Int32) (fm_ways : Nat → Int32) (fm_verdict : Nat → Int32) (fm_row : Nat → Int32) (fm_struck : Nat → Int32) (fm_reportKnown : Nat → Int32) (fm_reportPlace : Nat → Int32) (fm_reportMonth : Nat → Int32) (fm_reportDay : Nat → Int32) (fm_reportKind : Nat → Int32) (fm_trust : Nat → Int32) (fm_letter : Nat → Int32) (fm_deedMonth : Nat → Int32) (fm_deedDay : Nat → Int32) (fm_deedLong : Nat → Int32) (fm_deedKind : Nat → Int32) (fm_kept : Nat → Int32) (fm_tape : Nat → Int32) (fm_official : Nat → Int32) (fm_aside : Nat → Int32) (fm_worth : Nat → Int32) (fm_out : Nat → Int32) (p1 : Int32) (gmi_0 : gi (mi 0) 0 24) (gmi_1 : gi (mi 1) 0 5) (gmi_2 : gi (mi 2) 0 5) (gmi_4 : gi (mi 4) 0 1) (gmi_7 : gi (mi 7) 0 6) (gmi_10 : gi (mi 10) 0 24) (gmi_17 : gi (mi 17) 0 8) (gmi_23 : gi (mi 23) 0 300) (gmi_24 : gi (mi 24) 0 1) (gmi_26 : gi (mi 26) 0 1600) (gmi_29 : gi (mi 29) 0 1600) (gmi_30 : gi (mi 30) 0 1600) (gmi_33 : gi (mi 33) 0 1) (gmi_37 : gi (mi 37) 0 1) (gmi_41 : gi (mi 41) 0 24) (gmi_50 : gi (mi 50) 0 1) (gmi_51 : gi (mi 51) 0 1) (gmi_56 : gi (mi 56) 0 80) (gfm_row : ga fm_row 24 0 23) (gfm_struck : ga fm_struck 24 0 1) (gfm_reportKnown : ga fm_reportKnown 24 0 999) (gfm_reportPlace : ga fm_reportPlace 24 0 5) (gfm_reportMonth : ga fm_reportMonth 24 0 23) (gfm_reportDay : ga fm_reportDay 24 0 999) (hx : p.tables.exec = Jvm.exec) (hb : c.code = cX12_later) (hml : c.maxLocals = 4) (hown : s.vm.findClass RX12 = some m.cls) (hts : ∀ w ∈ ((.code yX12_later cX12_later 4 (some .int) :: wsGB) : List Cond), w.before args s = true) (hK : va_K (dC, dI) vwCl (MT km) s) (hA : ∀ q : Nat, s.heap.size ≤ q → A q) (hRf : 5 ≤ R.frames) (hRl : 119 ≤ R.locals) (hRc : cells ≤ R.cells) (hRs : slots ≤ R.slots) (kr10 : ∀ (v : Int32) (w0_37 : Int32) (w0_41 : Int32) (z1 : Nat → Int32) (z2 : Nat → Int32) (z3 : Nat → Int32) (z4 : Nat → Int32) (z5 : Nat → Int32) (z6 : Nat → Int32) (H : Heap) (locs : List Loc) (ls : Array Slot), gi v (-2) (-2) → gi w0_37 0 1 → gi w0_41 0 24 → ga z6 24 0 23 → va_P (dC, dI) vwCl (MWn h0 mr km (mi 0) (mi 1) (mi 2) (mi 3) (mi 4) (mi 5) (mi 6) (mi 7) (mi 10) (mi 17) (mi 23) (mi 24) (mi 26) (mi 27) (mi 28) (mi 29) (mi 30) (mi 31) (mi 32) (mi 33) w0_37 w0_41 (mi 42) (mi 43) (mi 44) (mi 45) (mi 47) (mi 48) (mi 49) (mi 50) (mi 51) (mi 54) (mi 56) fm_trust fm_letter fm_reportPlace fm_reportKind fm_struck fm_reportMonth fm_reportDay fm_reportKnown fm_deedMonth fm_deedDay fm_deedLong fm_deedKind fm_kept fm_tape z1 z2 z3 z4 z5 z6 fm_official fm_aside fm_worth fm_out) H → va_D A (MWn h0 mr km (mi 0) (mi 1) (mi 2) (mi 3) (mi 4) (mi 5) (mi 6) (mi 7) (mi 10) (mi 17) (mi 23) (mi 24) (mi 26) (mi 27) (mi 28) (mi 29) (mi 30) (mi 31) (mi 32) (mi 33) w0_37 w0_41 (mi 42) (mi 43) (mi 44) (mi 45) (mi 47) (mi 48) (mi 49) (mi 50) (mi 51) (mi 54) (mi 56) fm_trust fm_letter fm_reportPlace fm_reportKind fm_struck fm_reportMonth fm_reportDay fm_reportKnown fm_deedMonth fm_deedDay fm_deedLong fm_deedKind fm_kept fm_tape z1 z2 z3 z4 z5 z6 fm_official fm_aside fm_worth fm_out) → va_S A s.heap H locs → lv_has ls 4 [] → W p l e R s m args below meth c H locs cells slots Q (F0 m 10 ls [.int v])) (kr65 : ∀ (v : Int32) (w0_37 : Int32) (w0_41 : Int32) (z1 : Nat → Int32) (z2 : Nat → Int32) (z3 : Nat → Int32) (z4 : Nat → Int32) (z5 : Nat → Int32) (z6 : Nat → Int32) (H : Heap) (locs : List Loc) (ls : Array Slot), gi w0_37 0 1 → gi w0_41 0 24 → ga z6 24 0 23 → va_P (dC, dI) vwCl (MWn h0 mr km (mi 0) (mi 1) (mi 2) (mi 3) (mi 4) (mi 5) (mi 6) (mi 7) (mi 10) (mi 17) (mi 23) (mi 24) (mi 26) (mi 27) (mi 28) (mi 29) (mi 30) (mi 31) (mi 32) (mi 33) w0_37 w0_41 (mi 42) (mi 43) (mi 44) (mi 45) (mi 47) (mi 48) (mi 49) (mi 50) (mi 51) (mi 54) (mi 56) fm_trust fm_letter fm_reportPlace fm_reportKind fm_struck fm_reportMonth fm_reportDay fm_reportKnown fm_deedMonth fm_deedDay fm_deedLong fm_deedKind fm_kept fm_tape z1 z2 z3 z4 z5 z6 fm_official fm_aside fm_worth fm_out) H → va_D A (MWn h0 mr km (mi 0) (mi 1) (mi 2) (mi 3) (mi 4) (mi 5) (mi 6) (mi 7) (mi 10) (mi 17) (mi 23) (mi 24) (mi 26) (mi 27) (mi 28) (mi 29) (mi 30) (mi 31) (mi 32) (mi 33) w0_37 w0_41 (mi 42) (mi 43) (mi 44) (mi 45) (mi 47) (mi 48) (mi 49) (mi 50) (mi 51) (mi 54) (mi 56) fm_trust fm_letter fm_reportPlace fm_reportKind fm_struck fm_reportMonth fm_reportDay fm_reportKnown fm_deedMonth fm_deedDay fm_deedLong fm_deedKind fm_kept fm_tape z1 z2 z3 z4 z5 z6 fm_official fm_aside fm_worth fm_out) → va_S A s.heap H locs → lv_has ls 4 [] → W p l e R s m args below meth c H locs cells slots Q (F0 m 65 ls [.int v])) : ∀ z : Nat, (∀ (v2 : Int32) (v3 : Int32) (w0_37 : Int32) (w0_41 : Int32) (z1 : Nat → Int32) (z2 : Nat → Int32) (z3 : Nat → Int32) (z4 : Nat → Int32) (z5 : Nat → Int32) (z6 : Nat → Int32) (H : Heap) (locs : List Loc) (ls : Array Slot), gi p1 0 999 → gi v3 0 24 → gi w0_37 0 1 → gi w0_41 0 24 → ga z6 24 0 23 → 49 + (-2) * v3.toInt < (z : Int) → va_P (dC, dI) vwCl (MWn h0 mr km (mi 0) (mi 1) (mi 2) (mi 3) (mi 4) (mi 5) (mi 6) (mi 7) (mi 10) (mi 17) (mi 23) (mi 24) (mi 26) (mi 27) (mi 28) (mi 29) (mi 30) (mi 31) (mi 32) (mi 33) w0_37 w0_41 (mi 42) (mi 43) (mi 44) (mi 45) (mi 47) (mi 48) (mi 49) (mi 50) (mi 51) (mi 54) (mi 56) fm_trust fm_letter fm_reportPlace fm_reportKind fm_struck fm_reportMonth fm_reportDay fm_reportKnown fm_deedMonth fm_deedDay fm_deedLong fm_deedKind fm_kept fm_tape z1 z2 z3 z4 z5 z6 fm_official fm_aside fm_worth fm_out) H → va_D A (MWn h0 mr km (mi 0) (mi 1) (mi 2) (mi 3) (mi 4) (mi 5) (mi 6) (mi 7) (mi 10) (mi 17) (mi 23) (mi 24) (mi 26) (mi 27) (mi 28) (mi 29) (mi 30) (mi 31) (mi 32) (mi 33) w0_37 w0_41 (mi 42) (mi 43) (mi 44) (mi 45) (mi 47) (mi 48) (mi 49) (mi 50) (mi 51) (mi 54) (mi 56) fm_trust fm_letter fm_reportPlace fm_reportKind fm_struck fm_reportMonth fm_reportDay fm_reportKnown fm_deedMonth fm_deedDay fm_deedLong fm_deedKind fm_kept fm_tape z1 z2 z3 z4 z5 z6 fm_official fm_aside fm_worth fm_out) → va_S A s.heap H locs → lv_has ls 4 [(0, .ref h0), (1, .int p1), (2, .int v2), (3, .int v3)] → W p l e R s m args below meth c H locs cells slots Q (F0 m 22 ls [])) := by
  intro z
  induction z with
  | zero =>
    intro v2 v3 w0_37 w0_41 z1 z2 z3 z4 z5 z6 H locs ls gf_p1 gv3 gw0_37 gw0_41 gz6 hmu hP hD hS hl
    exact absurd hmu (by have hv31 := gv3.1; have hv32 := gv3.2; omega)
  | succ z ih =>
      intro v2 v3 w0_37 w0_41 z1 z2 z3 z4 z5 z6 H locs ls gf_p1 gv3 gw0_37 gw0_41 gz6 hmu hP hD hS hl
      refine lv_iload_n hx hb (dk_at dkX12_later 13 rfl) rfl (lv_at hl 3 rfl) ?_
      refine lv_aload_n hx hb (dk_at dkX12_later 14 rfl) rfl (lv_at hl 0 rfl) ?_
      refine va_get (D := (dC, dI)) (ci := 12) (v := .int (mi 10)) (C := RX12) (T := TX12) (N := 57) hx hb hts (fun w h => List.mem_cons_of_mem _ (jnGB_X12 w h)) hown hK hP 0 rfl rfl 10 (by decide) (hts _ (List.mem_cons_of_mem _ mGB_111)) (fun _ h9 => h9) rfl (dk_at dkX12_later 15 rfl) ?_
      refine lv_icmp_ge (tgt := 64) hx hb (dk_at dkX12_later 16 rfl) (by decide) (fun c_466 => ?_) (fun c_466 => ?_)
      · refine lv_iload_n hx hb (dk_at dkX12_later 37 rfl) rfl (lv_at hl 2 rfl) ?_
        exact kr65 v2 w0_37 w0_41 z1 z2 z3 z4 z5 z6 _ _ _ gw0_37 gw0_41 gz6 hP hD hS (lv_sub hl [] rfl)
      · have g_467 : gi v3 0 23 := gi_lt_l (Int32.not_le.mp c_466) gv3 gmi_10 (by decide)
        have g_468 : gi (mi 10) 1 24 := gi_lt_r (Int32.not_le.mp c_466) gv3 gmi_10 (by decide)
        refine lv_iload_n hx hb (dk_at dkX12_later 17 rfl) rfl (lv_at hl 2 rfl) ?_
        refine lv_aload_n hx hb (dk_at dkX12_later 18 rfl) rfl (lv_at hl 0 rfl) ?_
        refine va_get (D := (dC, dI)) (ci := 12) (v := .ref (mr 18)) (C := RX12) (T := TX12) (N := 57) hx hb hts (fun w h => List.mem_cons_of_mem _ (jnGB_X12 w h)) hown hK hP 0 rfl rfl 39 (by decide) (hts _ (List.mem_cons_of_mem _ mGB_30)) (fun _ h9 => h9) rfl (dk_at dkX12_later 19 rfl) ?_
        refine lv_iload_n hx hb (dk_at dkX12_later 20 rfl) rfl (lv_at hl 3 rfl) ?_
        refine va_iald hx hb hK hP 19 18 rfl rfl (gi_in g_467 (by decide)) (dk_at dkX12_later 21 rfl) ?_
        refine lv_topi (fun x_469 ex_469 => ?_)
        refine lv_if_ne (tgt := 55) hx hb (dk_at dkX12_later 22 rfl) (by decide) (fun c_470 => ?_) (fun c_470 => ?_)
        · refine lv_iconst (v := 0) hx hb (dk_at dkX12_later 32 rfl) (by decide) ?_
          refine lv_ior hx hb (dk_at dkX12_later 33 rfl) ?_
          refine lv_topi (fun x_471 ex_471 => ?_)
          refine lv_istore_n (lv' := [(2, .int x_471), (0, .ref h0), (1, .int p1), (3, .int v3)]) hx hb (dk_at dkX12_later 34 rfl) rfl hl (by decide) rfl (fun ls hl => ?_)
          obtain ⟨x_472, ex_472⟩ : ∃ y : Int32, y = v3 + 1 := ⟨_, rfl⟩
          have gx_472 : gi x_472 1 24 := gi_add ex_472 g_467 (gi_c 1 1 (by decide)) (by decide)
          refine lv_iinc (v := x_472) (lv' := [(3, .int x_472), (2, .int x_471), (0, .ref h0), (1, .int p1)]) hx hb (dk_at dkX12_later 35 rfl) hl (k := 3) rfl (by rw [ex_472]; rfl) (by decide) rfl (fun ls hl => ?_)
          refine lv_goto (tgt := 22) hx hb (dk_at dkX12_later 36 rfl) (by decide) ?_
          exact ih x_471 x_472 w0_37 w0_41 z1 z2 z3 z4 z5 z6 _ _ _ gf_p1 (gi_w gx_472 (by decide)) gw0_37 gw0_41 gz6 (by have av3 := gv3.1; have bv3 := gv3.2; have qgx_472 := gx_472.1; have rgx_472 := gx_472.2; have igx_472 : x_472.toInt = v3.toInt + 1 := (by have hc1 : (1 : Int32).toInt = 1 := (by decide); have h9 := gi_addI ex_472 (by have h1 := g_467.1; have h2 := (gi_c 1 1 (by decide)).1; have h3 := g_467.2; have h4 := (gi_c 1 1 (by decide)).2; omega) (by have h1 := g_467.1; have h2 := (gi_c 1 1 (by decide)).1; have h3 := g_467.2; have h4 := (gi_c 1 1 (by decide)).2; omega); rw [hc1] at h9; exact h9); have qgv3 := g_467.1; have rgv3 := g_467.2; omega) hP hD hS (lv_sub hl [2, 3, 1, 0] rfl)
        · have g_473 : gi x_469 0 0 := gi_eq c_470 (gi_c 0 0 (by decide))
          refine lv_aload_n hx hb (dk_at dkX12_later 23 rfl) rfl (lv_at hl 0 rfl) ?_
          refine lv_iload_n hx hb (dk_at dkX12_later 24 rfl) rfl (lv_at hl 3 rfl) ?_
          refine lv_iload_n hx hb (dk_at dkX12_later 25 rfl) rfl (lv_at hl 1 rfl) ?_
          refine va_calli (va_runV (As := [.int v3, .int p1]) (rest := [.int v2]) ⟨hx, hb, hml, hown, hts⟩ (sX12_isKnown l dC dI h0 (upd (upd mi 37 w0_37) 41 w0_41) mr km fm_struck fm_reportKnown fm_trust fm_letter fm_reportPlace fm_reportKind fm_reportMonth fm_reportDay fm_deedMonth fm_deedDay fm_deedLong fm_deedKind fm_kept fm_tape z1 z2 z3 z4 z5 z6 fm_official fm_aside fm_worth fm_out v3 p1 gmi_0 gmi_1 gmi_2 gmi_4 gmi_7 (gi_w g_468 (by decide)) gmi_17 gmi_23 gmi_24 gmi_26 gmi_29 gmi_30 gmi_33 gw0_37 gw0_41 gmi_50 gmi_51 gmi_56 gfm_struck gfm_reportKnown g_467) (cwV 2 hts (gz_gV mGB_279 mGB_280 mGB_281 mGB_1 mGB_282 goodGB) rfl rfl rfl (by decide +kernel) ⟨Nat.le_trans (Nat.le_of_ble_eq_true rfl) hRf, Nat.le_trans (Nat.le_of_ble_eq_true rfl) hRl⟩) ⟨bl_R, mw_recv hK hP, fun U hU hW => ⟨rfl, by rw [hU]; exact hP, va_K.moved hW.alike hK⟩⟩ rfl rfl hl.1 rfl (lv_room (Nat.le_of_ble_eq_true rfl)) (dk_at dkX12_later 26 rfl) ⟨hRc, hRs⟩) hS (fun q _ h => h.elim) (fun q h => h.elim) (fun r_474 u t H1 locs ht hvm hw hB hz1 hk1 hS => ?_)
          obtain ⟨hw, hE⟩ := hw
          have hP := gz_keep hP hk1
          generalize H1 = H at hP hS ⊢
          have gr_474 : gi r_474 0 1 := hw
          refine lv_if_ne (tgt := 55) hx hb (dk_at dkX12_later 27 rfl) (by decide) (fun c_475 => ?_) (fun c_475 => ?_)
          · have g_476 : gi r_474 1 1 := gi_ne_lo c_475 gr_474 (gi_c 0 0 (by decide)) (by decide)
            refine lv_iconst (v := 0) hx hb (dk_at dkX12_later 32 rfl) (by decide) ?_
            refine lv_ior hx hb (dk_at dkX12_later 33 rfl) ?_
            refine lv_topi (fun x_477 ex_477 => ?_)
            refine lv_istore_n (lv' := [(2, .int x_477), (0, .ref h0), (1, .int p1), (3, .int v3)]) hx hb (dk_at dkX12_later 34 rfl) rfl hl (by decide) rfl (fun ls hl => ?_)
            obtain ⟨x_478, ex_478⟩ : ∃ y : Int32, y = v3 + 1 := ⟨_, rfl⟩
            have gx_478 : gi x_478 1 24 := gi_add ex_478 g_467 (gi_c 1 1 (by decide)) (by decide)
            refine lv_iinc (v := x_478) (lv' := [(3, .int x_478), (2, .int x_477), (0, .ref h0), (1, .int p1)]) hx hb (dk_at dkX12_later 35 rfl) hl (k := 3) rfl (by rw [ex_478]; rfl) (by decide) rfl (fun ls hl => ?_)
            refine lv_goto (tgt := 22) hx hb (dk_at dkX12_later 36 rfl) (by decide) ?_
            exact ih x_477 x_478 w0_37 w0_41 z1 z2 z3 z4 z5 z6 _ _ _ gf_p1 (gi_w gx_478 (by decide)) gw0_37 gw0_41 gz6 (by have av3 := gv3.1; have bv3 := gv3.2; have qgx_478 := gx_478.1; have rgx_478 := gx_478.2; have igx_478 : x_478.toInt = v3.toInt + 1 := (by have hc1 : (1 : Int32).toInt = 1 := (by decide); have h9 := gi_addI ex_478 (by have h1 := g_467.1; have h2 := (gi_c 1 1 (by decide)).1; have h3 := g_467.2; have h4 := (gi_c 1 1 (by decide)).2; omega) (by have h1 := g_467.1; have h2 := (gi_c 1 1 (by decide)).1; have h3 := g_467.2; have h4 := (gi_c 1 1 (by decide)).2; omega); rw [hc1] at h9; exact h9); have qgv3 := g_467.1; have rgv3 := g_467.2; omega) hP hD hS (lv_sub hl [2, 3, 1, 0] rfl)
          · have g_479 : gi r_474 0 0 := gi_eq c_475 (gi_c 0 0 (by decide))
            refine lv_iconst (v := 1) hx hb (dk_at dkX12_later 28 rfl) (by decide) ?_
            refine lv_iload_n hx hb (dk_at dkX12_later 29 rfl) rfl (lv_at hl 3 rfl) ?_
            refine lv_ishl hx hb (dk_at dkX12_later 30 rfl) ?_
            refine lv_topi (fun x_480 ex_480 => ?_)
            refine lv_goto (tgt := 56) hx hb (dk_at dkX12_later 31 rfl) (by decide) ?_
            refine lv_ior hx hb (dk_at dkX12_later 33 rfl) ?_
            refine lv_topi (fun x_481 ex_481 => ?_)
            refine lv_istore_n (lv' := [(2, .int x_481), (0, .ref h0), (1, .int p1), (3, .int v3)]) hx hb (dk_at dkX12_later 34 rfl) rfl hl (by decide) rfl (fun ls hl => ?_)
            obtain ⟨x_482, ex_482⟩ : ∃ y : Int32, y = v3 + 1 := ⟨_, rfl⟩
            have gx_482 : gi x_482 1 24 := gi_add ex_482 g_467 (gi_c 1 1 (by decide)) (by decide)
            refine lv_iinc (v := x_482) (lv' := [(3, .int x_482), (2, .int x_481), (0, .ref h0), (1, .int p1)]) hx hb (dk_at dkX12_later 35 rfl) hl (k := 3) rfl (by rw [ex_482]; rfl) (by decide) rfl (fun ls hl => ?_)
            refine lv_goto (tgt := 22) hx hb (dk_at dkX12_later 36 rfl) (by decide) ?_
            exact ih x_481 x_482 w0_37 w0_41 z1 z2 z3 z4 z5 z6 _ _ _ gf_p1 (gi_w gx_482 (by decide)) gw0_37 gw0_41 gz6 (by have av3 := gv3.1; have bv3 := gv3.2; have qgx_482 := gx_482.1; have rgx_482 := gx_482.2; have igx_482 : x_482.toInt = v3.toInt + 1 := (by have hc1 : (1 : Int32).toInt = 1 := (by decide); have h9 := gi_addI ex_482 (by have h1 := g_467.1; have h2 := (gi_c 1 1 (by decide)).1; have h3 := g_467.2; have h4 := (gi_c 1 1 (by decide)).2; omega) (by have h1 := g_467.1; have h2 := (gi_c 1 1 (by decide)).1; have h3 := g_467.2; have h4 := (gi_c 1 1 (by decide)).2; omega); rw [hc1] at h9; exact h9); have qgv3 := g_467.1; have rgv3 := g_467.2; omega) hP hD hS (lv_sub hl [2, 3, 1, 0] rfl)
abbrev pb_sX12_later (dC : Nat → ClassId) (dI : Nat → Nat → Nat) (A9 : Nat → Prop) (h0 : Nat) (mi : Nat → Int32) (mr : Nat → Nat) (km : Nat → ClassId) (fm_must : Nat → Int32) (fm_least : Nat → Int32) (fm_pin : Nat → Int32) (fm_ways : Nat → Int32) (fm_verdict : Nat → Int32) (fm_row : Nat → Int32) (fm_struck : Nat → Int32) (fm_reportKnown : Nat → Int32) (fm_reportPlace : Nat → Int32) (fm_reportMonth : Nat → Int32) (fm_reportDay : Nat → Int32) (fm_reportKind : Nat → Int32) (fm_trust : Nat → Int32) (fm_letter : Nat → Int32) (fm_deedMonth : Nat → Int32) (fm_deedDay : Nat → Int32) (fm_deedLong : Nat → Int32) (fm_deedKind : Nat → Int32) (fm_kept : Nat → Int32) (fm_tape : Nat → Int32) (fm_official : Nat → Int32) (fm_aside : Nat → Int32) (fm_worth : Nat → Int32) (fm_out : Nat → Int32) (p1 : Int32) (w0_37 : Int32) (w0_41 : Int32) (z1 : Nat → Int32) (z2 : Nat → Int32) (z3 : Nat → Int32) (z4 : Nat → Int32) (z5 : Nat → Int32) (z6 : Nat → Int32) (t : State) : Prop := gi w0_37 0 1 ∧ gi w0_41 0 24 ∧ ga z6 24 0 23 ∧ va_P (dC, dI) vwCl (MWn h0 mr km (mi 0) (mi 1) (mi 2) (mi 3) (mi 4) (mi 5) (mi 6) (mi 7) (mi 10) (mi 17) (mi 23) (mi 24) (mi 26) (mi 27) (mi 28) (mi 29) (mi 30) (mi 31) (mi 32) (mi 33) w0_37 w0_41 (mi 42) (mi 43) (mi 44) (mi 45) (mi 47) (mi 48) (mi 49) (mi 50) (mi 51) (mi 54) (mi 56) fm_trust fm_letter fm_reportPlace fm_reportKind fm_struck fm_reportMonth fm_reportDay fm_reportKnown fm_deedMonth fm_deedDay fm_deedLong fm_deedKind fm_kept fm_tape z1 z2 z3 z4 z5 z6 fm_official fm_aside fm_worth fm_out) t.heap ∧ va_D A9 (MWn h0 mr km (mi 0) (mi 1) (mi 2) (mi 3) (mi 4) (mi 5) (mi 6) (mi 7) (mi 10) (mi 17) (mi 23) (mi 24) (mi 26) (mi 27) (mi 28) (mi 29) (mi 30) (mi 31) (mi 32) (mi 33) w0_37 w0_41 (mi 42) (mi 43) (mi 44) (mi 45) (mi 47) (mi 48) (mi 49) (mi 50) (mi 51) (mi 54) (mi 56) fm_trust fm_letter fm_reportPlace fm_reportKind fm_struck fm_reportMonth fm_reportDay fm_reportKnown fm_deedMonth fm_deedDay fm_deedLong fm_deedKind fm_kept fm_tape z1 z2 z3 z4 z5 z6 fm_official fm_aside fm_worth fm_out)
set_option maxHeartbeats 4000000 in
set_option maxRecDepth 100000 in
theorem sX12_later (l : Launch) (dC : Nat → ClassId) (dI : Nat → Nat → Nat) (sz : Nat) (h0 : Nat) (mi : Nat → Int32) (mr : Nat → Nat) (km : Nat → ClassId) (fm_must : Nat → Int32) (fm_least : Nat → Int32) (fm_pin : Nat → Int32) (fm_ways : Nat → Int32) (fm_verdict : Nat → Int32) (fm_row : Nat → Int32) (fm_struck : Nat → Int32) (fm_reportKnown : Nat → Int32) (fm_reportPlace : Nat → Int32) (fm_reportMonth : Nat → Int32) (fm_reportDay : Nat → Int32) (fm_reportKind : Nat → Int32) (fm_trust : Nat → Int32) (fm_letter : Nat → Int32) (fm_deedMonth : Nat → Int32) (fm_deedDay : Nat → Int32) (fm_deedLong : Nat → Int32) (fm_deedKind : Nat → Int32) (fm_kept : Nat → Int32) (fm_tape : Nat → Int32) (fm_official : Nat → Int32) (fm_aside : Nat → Int32) (fm_worth : Nat → Int32) (fm_out : Nat → Int32) (p1 : Int32) (gmi_0 : gi (mi 0) 0 24) (gmi_1 : gi (mi 1) 0 5) (gmi_2 : gi (mi 2) 0 5) (gmi_4 : gi (mi 4) 0 1) (gmi_7 : gi (mi 7) 0 6) (gmi_10 : gi (mi 10) 0 24) (gmi_17 : gi (mi 17) 0 8) (gmi_23 : gi (mi 23) 0 300) (gmi_24 : gi (mi 24) 0 1) (gmi_26 : gi (mi 26) 0 1600) (gmi_29 : gi (mi 29) 0 1600) (gmi_30 : gi (mi 30) 0 1600) (gmi_33 : gi (mi 33) 0 1) (gmi_37 : gi (mi 37) 0 1) (gmi_41 : gi (mi 41) 0 24) (gmi_50 : gi (mi 50) 0 1) (gmi_51 : gi (mi 51) 0 1) (gmi_56 : gi (mi 56) 0 80) (gfm_row : ga fm_row 24 0 23) (gfm_struck : ga fm_struck 24 0 1) (gfm_reportKnown : ga fm_reportKnown 24 0 999) (gfm_reportPlace : ga fm_reportPlace 24 0 5) (gfm_reportMonth : ga fm_reportMonth 24 0 23) (gfm_reportDay : ga fm_reportDay 24 0 999) : Met l yX12_later (.code yX12_later cX12_later 4 (some .int) :: wsGB) ({ frames := 5, cells := 0, slots := 0, locals := 119 }) (va_Pc [.ref h0, .int p1] (fun U => U.heap.size = sz ∧ va_P (dC, dI) vwCl (MWn h0 mr km (mi 0) (mi 1) (mi 2) (mi 3) (mi 4) (mi 5) (mi 6) (mi 7) (mi 10) (mi 17) (mi 23) (mi 24) (mi 26) (mi 27) (mi 28) (mi 29) (mi 30) (mi 31) (mi 32) (mi 33) (mi 37) (mi 41) (mi 42) (mi 43) (mi 44) (mi 45) (mi 47) (mi 48) (mi 49) (mi 50) (mi 51) (mi 54) (mi 56) fm_trust fm_letter fm_reportPlace fm_reportKind fm_struck fm_reportMonth fm_reportDay fm_reportKnown fm_deedMonth fm_deedDay fm_deedLong fm_deedKind fm_kept fm_tape fm_must fm_least fm_pin fm_ways fm_verdict fm_row fm_official fm_aside fm_worth fm_out) U.heap ∧ va_K (dC, dI) vwCl (MT km) U ∧ va_D (fun _ => True) (MWn h0 mr km (mi 0) (mi 1) (mi 2) (mi 3) (mi 4) (mi 5) (mi 6) (mi 7) (mi 10) (mi 17) (mi 23) (mi 24) (mi 26) (mi 27) (mi 28) (mi 29) (mi 30) (mi 31) (mi 32) (mi 33) (mi 37) (mi 41) (mi 42) (mi 43) (mi 44) (mi 45) (mi 47) (mi 48) (mi 49) (mi 50) (mi 51) (mi 54) (mi 56) fm_trust fm_letter fm_reportPlace fm_reportKind fm_struck fm_reportMonth fm_reportDay fm_reportKnown fm_deedMonth fm_deedDay fm_deedLong fm_deedKind fm_kept fm_tape fm_must fm_least fm_pin fm_ways fm_verdict fm_row fm_official fm_aside fm_worth fm_out))) (va_Qi (fun (r : Int32) (u : Unit) => gi r (-2147483648) 2147483647) (fun _ t => ∃ (w0_37 : Int32) (w0_41 : Int32) (z1 : Nat → Int32) (z2 : Nat → Int32) (z3 : Nat → Int32) (z4 : Nat → Int32) (z5 : Nat → Int32) (z6 : Nat → Int32), pb_sX12_later dC dI (va_A (MWn h0 mr km (mi 0) (mi 1) (mi 2) (mi 3) (mi 4) (mi 5) (mi 6) (mi 7) (mi 10) (mi 17) (mi 23) (mi 24) (mi 26) (mi 27) (mi 28) (mi 29) (mi 30) (mi 31) (mi 32) (mi 33) (mi 37) (mi 41) (mi 42) (mi 43) (mi 44) (mi 45) (mi 47) (mi 48) (mi 49) (mi 50) (mi 51) (mi 54) (mi 56) fm_trust fm_letter fm_reportPlace fm_reportKind fm_struck fm_reportMonth fm_reportDay fm_reportKnown fm_deedMonth fm_deedDay fm_deedLong fm_deedKind fm_kept fm_tape fm_must fm_least fm_pin fm_ways fm_verdict fm_row fm_official fm_aside fm_worth fm_out) sz) h0 mi mr km fm_must fm_least fm_pin fm_ways fm_verdict fm_row fm_struck fm_reportKnown fm_reportPlace fm_reportMonth fm_reportDay fm_reportKind fm_trust fm_letter fm_deedMonth fm_deedDay fm_deedLong fm_deedKind fm_kept fm_tape fm_official fm_aside fm_worth fm_out p1 w0_37 w0_41 z1 z2 z3 z4 z5 z6 t) (va_A (MWn h0 mr km (mi 0) (mi 1) (mi 2) (mi 3) (mi 4) (mi 5) (mi 6) (mi 7) (mi 10) (mi 17) (mi 23) (mi 24) (mi 26) (mi 27) (mi 28) (mi 29) (mi 30) (mi 31) (mi 32) (mi 33) (mi 37) (mi 41) (mi 42) (mi 43) (mi 44) (mi 45) (mi 47) (mi 48) (mi 49) (mi 50) (mi 51) (mi 54) (mi 56) fm_trust fm_letter fm_reportPlace fm_reportKind fm_struck fm_reportMonth fm_reportDay fm_reportKnown fm_deedMonth fm_deedDay fm_deedLong fm_deedKind fm_kept fm_tape fm_must fm_least fm_pin fm_ways fm_verdict fm_row fm_official fm_aside fm_worth fm_out) sz)) 0 0 (va_A (MWn h0 mr km (mi 0) (mi 1) (mi 2) (mi 3) (mi 4) (mi 5) (mi 6) (mi 7) (mi 10) (mi 17) (mi 23) (mi 24) (mi 26) (mi 27) (mi 28) (mi 29) (mi 30) (mi 31) (mi 32) (mi 33) (mi 37) (mi 41) (mi 42) (mi 43) (mi 44) (mi 45) (mi 47) (mi 48) (mi 49) (mi 50) (mi 51) (mi 54) (mi 56) fm_trust fm_letter fm_reportPlace fm_reportKind fm_struck fm_reportMonth fm_reportDay fm_reportKnown fm_deedMonth fm_deedDay fm_deedLong fm_deedKind fm_kept fm_tape fm_must fm_least fm_pin fm_ways fm_verdict fm_row fm_official fm_aside fm_worth fm_out) sz) := by
  refine Met.ofW (cc := cX12_later) (maxL := 4) (ret := (some .int)) (by decide) rfl ?_
  intro p e s m args below meth c s₁ B hml hv
  obtain ⟨rfl, hsz, hP, hK, hD0⟩ := hv
  have hx := B.exec
  have hb := B.bytes
  have hr := B.returns
  have hts := atoms_spec (ws := (.code yX12_later cX12_later 4 (some .int) :: wsGB)) B.pre
  have hown : s.vm.findClass RX12 = some m.cls := findClass_of_methodNamed B.named
  have hlocks := B.notSynchronized
  subst hsz
  have hD := hD0.self (sz := s.heap.size)
  generalize hAe : va_A (MWn h0 mr km (mi 0) (mi 1) (mi 2) (mi 3) (mi 4) (mi 5) (mi 6) (mi 7) (mi 10) (mi 17) (mi 23) (mi 24) (mi 26) (mi 27) (mi 28) (mi 29) (mi 30) (mi 31) (mi 32) (mi 33) (mi 37) (mi 41) (mi 42) (mi 43) (mi 44) (mi 45) (mi 47) (mi 48) (mi 49) (mi 50) (mi 51) (mi 54) (mi 56) fm_trust fm_letter fm_reportPlace fm_reportKind fm_struck fm_reportMonth fm_reportDay fm_reportKnown fm_deedMonth fm_deedDay fm_deedLong fm_deedKind fm_kept fm_tape fm_must fm_least fm_pin fm_ways fm_verdict fm_row fm_official fm_aside fm_worth fm_out) s.heap.size = A at hD ⊢
  have hA : ∀ q : Nat, s.heap.size ≤ q → A q := fun q h => by rw [← hAe]; exact Or.inr h
  have hS : va_S A s.heap s.heap [] := va_S.rf
  have hl := lv_entry ([.ref h0, .int p1]) (n := 4) (Nat.le_of_ble_eq_true rfl)
  rw [lg_entry_eq]
  generalize (lg_sl ([.ref h0, .int p1]) ++ List.replicate (4 - (lg_sl ([.ref h0, .int p1])).length) Slot.unset).toArray = ls at hl ⊢
  have hl : lv_has ls 4 [(0, .ref h0), (1, .int p1)] := hl
  refine lv_aload_n hx hb (dk_at dkX12_later 0 rfl) rfl (lv_at hl 0 rfl) ?_
  refine lv_iload_n hx hb (dk_at dkX12_later 1 rfl) rfl (lv_at hl 1 rfl) ?_
  refine va_calli (va_runV (As := [.int p1]) (rest := []) ⟨hx, hb, hml, hown, hts⟩ (sX12_isTime l dC dI h0 mi mr km fm_trust fm_letter fm_reportPlace fm_reportKind fm_struck fm_reportMonth fm_reportDay fm_reportKnown fm_deedMonth fm_deedDay fm_deedLong fm_deedKind fm_kept fm_tape fm_must fm_least fm_pin fm_ways fm_verdict fm_row fm_official fm_aside fm_worth fm_out p1 gmi_0 gmi_1 gmi_2 gmi_4 gmi_7 gmi_10 gmi_17 gmi_23 gmi_24 gmi_26 gmi_29 gmi_30 gmi_33 gmi_37 gmi_41 gmi_50 gmi_51 gmi_56) (cwV 1 hts (gz_gV mGB_256 mGB_257 mGB_258 mGB_1 mGB_259 goodGB) rfl rfl rfl (by decide +kernel) ⟨Nat.le_of_ble_eq_true rfl, Nat.le_of_ble_eq_true rfl⟩) ⟨bl_R, mw_recv hK hP, fun U hU hW => ⟨rfl, by rw [hU]; exact hP, va_K.moved hW.alike hK⟩⟩ rfl rfl hl.1 rfl (lv_room (Nat.le_of_ble_eq_true rfl)) (dk_at dkX12_later 2 rfl) ⟨Nat.zero_le _, Nat.zero_le _⟩) hS (fun q _ h => h.elim) (fun q h => h.elim) (fun r_483 u t H1 locs ht hvm hw hB hz1 hk1 hS => ?_)
  obtain ⟨hw, hE⟩ := hw
  have hP := gz_keep hP hk1
  generalize H1 = H at hP hS ⊢
  have gr_483 : gi r_483 0 1 := hw.1
  have hqr_483 := hw.2
  refine lv_if_ne (tgt := 11) hx hb (dk_at dkX12_later 3 rfl) (by decide) (fun c_484 => ?_) (fun c_484 => ?_)
  · have g_485 : gi r_483 1 1 := gi_ne_lo c_484 gr_483 (gi_c 0 0 (by decide)) (by decide)
    have g_486 : gi p1 0 999 := gi_cap (gi_any p1) (hqr_483 (gz_one g_485)) (by decide)
    refine lv_aload_n hx hb (dk_at dkX12_later 6 rfl) rfl (lv_at hl 0 rfl) ?_
    refine lv_sipush (v := 999) hx hb (dk_at dkX12_later 7 rfl) (by decide) ?_
    have hFc := gz_fullF hD hS hA
    refine va_callv (va_runV (As := [.int 999]) (rest := []) ⟨hx, hb, hml, hown, hts⟩ (sX12_judgesAll l dC dI H.size h0 mi mr km fm_must fm_least fm_pin fm_ways fm_verdict fm_row fm_struck fm_reportKnown fm_reportPlace fm_reportMonth fm_reportDay fm_reportKind fm_trust fm_letter fm_deedMonth fm_deedDay fm_deedLong fm_deedKind fm_kept fm_tape fm_official fm_aside fm_worth fm_out 999 gmi_0 gmi_1 gmi_2 gmi_4 gmi_7 gmi_10 gmi_17 gmi_23 gmi_24 gmi_26 gmi_29 gmi_30 gmi_33 gmi_37 gmi_41 gmi_50 gmi_51 gmi_56 gfm_row gfm_struck gfm_reportKnown gfm_reportPlace gfm_reportMonth gfm_reportDay) (cwV 1 hts (gz_gV mGB_261 mGB_262 mGB_263 mGB_1 mGB_264 goodGB) rfl rfl rfl (by decide +kernel) ⟨Nat.le_of_ble_eq_true rfl, Nat.le_of_ble_eq_true rfl⟩) ⟨bl_W, mw_recv hK hP, fun U hU hW => ⟨rfl, by rw [hU], by rw [hU]; exact hP, va_K.moved hW.alike hK, hD.weaken (fun _ _ _ _ => trivial)⟩⟩ rfl rfl hl.1 rfl (lv_room (Nat.le_of_ble_eq_true rfl)) (dk_at dkX12_later 8 rfl) ⟨Nat.zero_le _, Nat.zero_le _⟩) hS (fun q _ h => hFc q h) hFc (fun u t H1 locs ht hvm hw hB hz1 hk1 hS => ?_)
    obtain ⟨y_488, y_489, f_490, f_491, f_492, f_493, f_494, f_495, hB⟩ := hB
    obtain ⟨gy_488, gy_489, gf_495, hP1, hD1⟩ := hB
    rw [ht] at hP1
    have hD : va_D A (MWn h0 mr km (mi 0) (mi 1) (mi 2) (mi 3) (mi 4) (mi 5) (mi 6) (mi 7) (mi 10) (mi 17) (mi 23) (mi 24) (mi 26) (mi 27) (mi 28) (mi 29) (mi 30) (mi 31) (mi 32) (mi 33) y_488 y_489 (mi 42) (mi 43) (mi 44) (mi 45) (mi 47) (mi 48) (mi 49) (mi 50) (mi 51) (mi 54) (mi 56) fm_trust fm_letter fm_reportPlace fm_reportKind fm_struck fm_reportMonth fm_reportDay fm_reportKnown fm_deedMonth fm_deedDay fm_deedLong fm_deedKind fm_kept fm_tape f_490 f_491 f_492 f_493 f_494 f_495 fm_official fm_aside fm_worth fm_out) := gz_fullD hFc hD1
    have hP : va_P (dC, dI) vwCl (MWn h0 mr km (mi 0) (mi 1) (mi 2) (mi 3) (mi 4) (mi 5) (mi 6) (mi 7) (mi 10) (mi 17) (mi 23) (mi 24) (mi 26) (mi 27) (mi 28) (mi 29) (mi 30) (mi 31) (mi 32) (mi 33) y_488 y_489 (mi 42) (mi 43) (mi 44) (mi 45) (mi 47) (mi 48) (mi 49) (mi 50) (mi 51) (mi 54) (mi 56) fm_trust fm_letter fm_reportPlace fm_reportKind fm_struck fm_reportMonth fm_reportDay fm_reportKnown fm_deedMonth fm_deedDay fm_deedLong fm_deedKind fm_kept fm_tape f_490 f_491 f_492 f_493 f_494 f_495 fm_official fm_aside fm_worth fm_out) H1 := hP1
    generalize H1 = H at hP hS ⊢
    refine lv_iconst (v := 0) hx hb (dk_at dkX12_later 9 rfl) (by decide) ?_
    refine lv_istore_n (lv' := [(2, .int 0), (0, .ref h0), (1, .int p1)]) hx hb (dk_at dkX12_later 10 rfl) rfl hl (by decide) rfl (fun ls hl => ?_)
    refine lv_iconst (v := 0) hx hb (dk_at dkX12_later 11 rfl) (by decide) ?_
    refine lv_istore_n (lv' := [(3, .int 0), (2, .int 0), (0, .ref h0), (1, .int p1)]) hx hb (dk_at dkX12_later 12 rfl) rfl hl (by decide) rfl (fun ls hl => ?_)
    refine (lp_sX12_later h0 mi mr km fm_must fm_least fm_pin fm_ways fm_verdict fm_row fm_struck fm_reportKnown fm_reportPlace fm_reportMonth fm_reportDay fm_reportKind fm_trust fm_letter fm_deedMonth fm_deedDay fm_deedLong fm_deedKind fm_kept fm_tape fm_official fm_aside fm_worth fm_out p1 gmi_0 gmi_1 gmi_2 gmi_4 gmi_7 gmi_10 gmi_17 gmi_23 gmi_24 gmi_26 gmi_29 gmi_30 gmi_33 gmi_37 gmi_41 gmi_50 gmi_51 gmi_56 gfm_row gfm_struck gfm_reportKnown gfm_reportPlace gfm_reportMonth gfm_reportDay hx hb hml hown hts hK hA (Nat.le_of_ble_eq_true rfl) (Nat.le_of_ble_eq_true rfl) (Nat.zero_le _) (Nat.zero_le _) (fun v w0_37 w0_41 z1 z2 z3 z4 z5 z6 H locs ls gv gw0_37 gw0_41 gz6 hP hD hS hl => ?_) (fun v w0_37 w0_41 z1 z2 z3 z4 z5 z6 H locs ls gw0_37 gw0_41 gz6 hP hD hS hl => ?_) 62) 0 0 y_488 y_489 f_490 f_491 f_492 f_493 f_494 f_495 _ _ _ g_486 (gi_w (gi_c 0 0 (by decide)) (by decide)) gy_488 gy_489 gf_495 (by have k0 : (0 : Int32).toInt = 0 := (by decide); omega) hP hD hS (lv_sub hl [2, 3, 1, 0] rfl)
    · skip
      exact W.iret (v := v) hx hb hr (fun t ht hW => ⟨⟨v, (), rfl, (gi_any v), w0_37, w0_41, z1, z2, z3, z4, z5, z6, gw0_37, gw0_41, gz6, by rw [ht]; exact hP, hD⟩, hS.F ht⟩) hS.2.2 (dk_at dkX12_later 5 rfl)
    · skip
      exact W.iret (v := v) hx hb hr (fun t ht hW => ⟨⟨v, (), rfl, (gi_any v), w0_37, w0_41, z1, z2, z3, z4, z5, z6, gw0_37, gw0_41, gz6, by rw [ht]; exact hP, hD⟩, hS.F ht⟩) hS.2.2 (dk_at dkX12_later 38 rfl)
  · have g_496 : gi r_483 0 0 := gi_eq c_484 (gi_c 0 0 (by decide))
    refine lv_bipush (v := (-2)) hx hb (dk_at dkX12_later 4 rfl) (by decide) ?_
    exact W.iret (v := (-2)) hx hb hr (fun t ht hW => ⟨⟨(-2), (), rfl, (gi_any (-2)), (mi 37), (mi 41), fm_must, fm_least, fm_pin, fm_ways, fm_verdict, fm_row, gmi_37, gmi_41, gfm_row, by rw [ht]; exact hP, hD⟩, hS.F ht⟩) hS.2.2 (dk_at dkX12_later 5 rfl)
noncomputable def lsX12_lasts : List (Nat × Instr × Nat) := [(0, .aload_n 0, 1), (1, .iload_n 1, 1), (2, .invokevirtual 359, 3), (5, .ifCond .eq 11, 3), (8, .aload_n 0, 1), (9, .iload_n 2, 1), (10, .invokevirtual 394, 3), (13, .ifCond .ne 6, 3), (16, .bipush (-2), 2), (18, .ireturn, 1), (19, .aload_n 0, 1), (20, .iload_n 1, 1), (21, .invokevirtual 382, 3), (24, .aload_n 0, 1), (25, .getfield 87, 3), (28, .iload_n 2, 1), (29, .iconst 1, 1), (30, .iadd, 1), (31, .iaload, 1), (32, .aload_n 0, 1), (33, .getfield 87, 3), (36, .iload_n 2, 1), (37, .iaload, 1), (38, .isub, 1), (39, .ireturn, 1)]
theorem dkX12_lasts : dkAll cX12_lasts lsX12_lasts = true := by decide +kernel
abbrev pb_sX12_lasts (dC : Nat → ClassId) (dI : Nat → Nat → Nat) (A9 : Nat → Prop) (h0 : Nat) (mi : Nat → Int32) (mr : Nat → Nat) (km : Nat → ClassId) (fm_must : Nat → Int32) (fm_least : Nat → Int32) (fm_pin : Nat → Int32) (fm_ways : Nat → Int32) (fm_verdict : Nat → Int32) (fm_row : Nat → Int32) (fm_struck : Nat → Int32) (fm_reportKnown : Nat → Int32) (fm_reportPlace : Nat → Int32) (fm_reportMonth : Nat → Int32) (fm_reportDay : Nat → Int32) (fm_reportKind : Nat → Int32) (fm_trust : Nat → Int32) (fm_letter : Nat → Int32) (fm_official : Nat → Int32) (fm_deedMonth : Nat → Int32) (fm_deedDay : Nat → Int32) (fm_deedLong : Nat → Int32) (fm_deedKind : Nat → Int32) (fm_kept : Nat → Int32) (fm_tape : Nat → Int32) (fm_aside : Nat → Int32) (fm_worth : Nat → Int32) (fm_out : Nat → Int32) (p1 : Int32) (p2 : Int32) (w0_37 : Int32) (w0_41 : Int32) (z1 : Nat → Int32) (z2 : Nat → Int32) (z3 : Nat → Int32) (z4 : Nat → Int32) (z5 : Nat → Int32) (z6 : Nat → Int32) (z15 : Nat → Int32) (t : State) : Prop := gi w0_37 0 1 ∧ gi w0_41 0 24 ∧ ga z6 24 0 23 ∧ va_P (dC, dI) vwCl (MWn h0 mr km (mi 0) (mi 1) (mi 2) (mi 3) (mi 4) (mi 5) (mi 6) (mi 7) (mi 10) (mi 17) (mi 23) (mi 24) (mi 26) (mi 27) (mi 28) (mi 29) (mi 30) (mi 31) (mi 32) (mi 33) w0_37 w0_41 (mi 42) (mi 43) (mi 44) (mi 45) (mi 47) (mi 48) (mi 49) (mi 50) (mi 51) (mi 54) (mi 56) fm_trust fm_letter fm_reportPlace fm_reportKind fm_struck fm_reportMonth fm_reportDay fm_reportKnown fm_deedMonth fm_deedDay fm_deedLong fm_deedKind fm_kept fm_tape z1 z2 z3 z4 z5 z6 z15 fm_aside fm_worth fm_out) t.heap ∧ va_D A9 (MWn h0 mr km (mi 0) (mi 1) (mi 2) (mi 3) (mi 4) (mi 5) (mi 6) (mi 7) (mi 10) (mi 17) (mi 23) (mi 24) (mi 26) (mi 27) (mi 28) (mi 29) (mi 30) (mi 31) (mi 32) (mi 33) w0_37 w0_41 (mi 42) (mi 43) (mi 44) (mi 45) (mi 47) (mi 48) (mi 49) (mi 50) (mi 51) (mi 54) (mi 56) fm_trust fm_letter fm_reportPlace fm_reportKind fm_struck fm_reportMonth fm_reportDay fm_reportKnown fm_deedMonth fm_deedDay fm_deedLong fm_deedKind fm_kept fm_tape z1 z2 z3 z4 z5 z6 z15 fm_aside fm_worth fm_out)
set_option maxHeartbeats 4000000 in
set_option maxRecDepth 100000 in
theorem sX12_lasts (l : Launch) (dC : Nat → ClassId) (dI : Nat → Nat → Nat) (sz : Nat) (h0 : Nat) (mi : Nat → Int32) (mr : Nat → Nat) (km : Nat → ClassId) (fm_must : Nat → Int32) (fm_least : Nat → Int32) (fm_pin : Nat → Int32) (fm_ways : Nat → Int32) (fm_verdict : Nat → Int32) (fm_row : Nat → Int32) (fm_struck : Nat → Int32) (fm_reportKnown : Nat → Int32) (fm_reportPlace : Nat → Int32) (fm_reportMonth : Nat → Int32) (fm_reportDay : Nat → Int32) (fm_reportKind : Nat → Int32) (fm_trust : Nat → Int32) (fm_letter : Nat → Int32) (fm_official : Nat → Int32) (fm_deedMonth : Nat → Int32) (fm_deedDay : Nat → Int32) (fm_deedLong : Nat → Int32) (fm_deedKind : Nat → Int32) (fm_kept : Nat → Int32) (fm_tape : Nat → Int32) (fm_aside : Nat → Int32) (fm_worth : Nat → Int32) (fm_out : Nat → Int32) (p1 : Int32) (p2 : Int32) (gmi_0 : gi (mi 0) 0 24) (gmi_1 : gi (mi 1) 0 5) (gmi_2 : gi (mi 2) 0 5) (gmi_4 : gi (mi 4) 0 1) (gmi_7 : gi (mi 7) 0 6) (gmi_10 : gi (mi 10) 0 24) (gmi_17 : gi (mi 17) 0 8) (gmi_23 : gi (mi 23) 0 300) (gmi_24 : gi (mi 24) 0 1) (gmi_26 : gi (mi 26) 0 1600) (gmi_29 : gi (mi 29) 0 1600) (gmi_30 : gi (mi 30) 0 1600) (gmi_33 : gi (mi 33) 0 1) (gmi_37 : gi (mi 37) 0 1) (gmi_41 : gi (mi 41) 0 24) (gmi_50 : gi (mi 50) 0 1) (gmi_51 : gi (mi 51) 0 1) (gmi_56 : gi (mi 56) 0 80) (gfm_row : ga fm_row 24 0 23) (gfm_struck : ga fm_struck 24 0 1) (gfm_reportKnown : ga fm_reportKnown 24 0 999) (gfm_reportPlace : ga fm_reportPlace 24 0 5) (gfm_reportMonth : ga fm_reportMonth 24 0 23) (gfm_reportDay : ga fm_reportDay 24 0 999) : Met l yX12_lasts (.code yX12_lasts cX12_lasts 3 (some .int) :: wsGB) ({ frames := 6, cells := 0, slots := 0, locals := 140 }) (va_Pc [.ref h0, .int p1, .int p2] (fun U => U.heap.size = sz ∧ va_P (dC, dI) vwCl (MWn h0 mr km (mi 0) (mi 1) (mi 2) (mi 3) (mi 4) (mi 5) (mi 6) (mi 7) (mi 10) (mi 17) (mi 23) (mi 24) (mi 26) (mi 27) (mi 28) (mi 29) (mi 30) (mi 31) (mi 32) (mi 33) (mi 37) (mi 41) (mi 42) (mi 43) (mi 44) (mi 45) (mi 47) (mi 48) (mi 49) (mi 50) (mi 51) (mi 54) (mi 56) fm_trust fm_letter fm_reportPlace fm_reportKind fm_struck fm_reportMonth fm_reportDay fm_reportKnown fm_deedMonth fm_deedDay fm_deedLong fm_deedKind fm_kept fm_tape fm_must fm_least fm_pin fm_ways fm_verdict fm_row fm_official fm_aside fm_worth fm_out) U.heap ∧ va_K (dC, dI) vwCl (MT km) U ∧ va_D (fun _ => True) (MWn h0 mr km (mi 0) (mi 1) (mi 2) (mi 3) (mi 4) (mi 5) (mi 6) (mi 7) (mi 10) (mi 17) (mi 23) (mi 24) (mi 26) (mi 27) (mi 28) (mi 29) (mi 30) (mi 31) (mi 32) (mi 33) (mi 37) (mi 41) (mi 42) (mi 43) (mi 44) (mi 45) (mi 47) (mi 48) (mi 49) (mi 50) (mi 51) (mi 54) (mi 56) fm_trust fm_letter fm_reportPlace fm_reportKind fm_struck fm_reportMonth fm_reportDay fm_reportKnown fm_deedMonth fm_deedDay fm_deedLong fm_deedKind fm_kept fm_tape fm_must fm_least fm_pin fm_ways fm_verdict fm_row fm_official fm_aside fm_worth fm_out))) (va_Qi (fun (r : Int32) (u : Unit) => gi r (-2147483648) 2147483647) (fun _ t => ∃ (w0_37 : Int32) (w0_41 : Int32) (z1 : Nat → Int32) (z2 : Nat → Int32) (z3 : Nat → Int32) (z4 : Nat → Int32) (z5 : Nat → Int32) (z6 : Nat → Int32) (z15 : Nat → Int32), pb_sX12_lasts dC dI (va_A (MWn h0 mr km (mi 0) (mi 1) (mi 2) (mi 3) (mi 4) (mi 5) (mi 6) (mi 7) (mi 10) (mi 17) (mi 23) (mi 24) (mi 26) (mi 27) (mi 28) (mi 29) (mi 30) (mi 31) (mi 32) (mi 33) (mi 37) (mi 41) (mi 42) (mi 43) (mi 44) (mi 45) (mi 47) (mi 48) (mi 49) (mi 50) (mi 51) (mi 54) (mi 56) fm_trust fm_letter fm_reportPlace fm_reportKind fm_struck fm_reportMonth fm_reportDay fm_reportKnown fm_deedMonth fm_deedDay fm_deedLong fm_deedKind fm_kept fm_tape fm_must fm_least fm_pin fm_ways fm_verdict fm_row fm_official fm_aside fm_worth fm_out) sz) h0 mi mr km fm_must fm_least fm_pin fm_ways fm_verdict fm_row fm_struck fm_reportKnown fm_reportPlace fm_reportMonth fm_reportDay fm_reportKind fm_trust fm_letter fm_official fm_deedMonth fm_deedDay fm_deedLong fm_deedKind fm_kept fm_tape fm_aside fm_worth fm_out p1 p2 w0_37 w0_41 z1 z2 z3 z4 z5 z6 z15 t) (va_A (MWn h0 mr km (mi 0) (mi 1) (mi 2) (mi 3) (mi 4) (mi 5) (mi 6) (mi 7) (mi 10) (mi 17) (mi 23) (mi 24) (mi 26) (mi 27) (mi 28) (mi 29) (mi 30) (mi 31) (mi 32) (mi 33) (mi 37) (mi 41) (mi 42) (mi 43) (mi 44) (mi 45) (mi 47) (mi 48) (mi 49) (mi 50) (mi 51) (mi 54) (mi 56) fm_trust fm_letter fm_reportPlace fm_reportKind fm_struck fm_reportMonth fm_reportDay fm_reportKnown fm_deedMonth fm_deedDay fm_deedLong fm_deedKind fm_kept fm_tape fm_must fm_least fm_pin fm_ways fm_verdict fm_row fm_official fm_aside fm_worth fm_out) sz)) 0 0 (va_A (MWn h0 mr km (mi 0) (mi 1) (mi 2) (mi 3) (mi 4) (mi 5) (mi 6) (mi 7) (mi 10) (mi 17) (mi 23) (mi 24) (mi 26) (mi 27) (mi 28) (mi 29) (mi 30) (mi 31) (mi 32) (mi 33) (mi 37) (mi 41) (mi 42) (mi 43) (mi 44) (mi 45) (mi 47) (mi 48) (mi 49) (mi 50) (mi 51) (mi 54) (mi 56) fm_trust fm_letter fm_reportPlace fm_reportKind fm_struck fm_reportMonth fm_reportDay fm_reportKnown fm_deedMonth fm_deedDay fm_deedLong fm_deedKind fm_kept fm_tape fm_must fm_least fm_pin fm_ways fm_verdict fm_row fm_official fm_aside fm_worth fm_out) sz) := by
  refine Met.ofW (cc := cX12_lasts) (maxL := 3) (ret := (some .int)) (by decide) rfl ?_
  intro p e s m args below meth c s₁ B hml hv
  obtain ⟨rfl, hsz, hP, hK, hD0⟩ := hv
  have hx := B.exec
  have hb := B.bytes
  have hr := B.returns
  have hts := atoms_spec (ws := (.code yX12_lasts cX12_lasts 3 (some .int) :: wsGB)) B.pre
  have hown : s.vm.findClass RX12 = some m.cls := findClass_of_methodNamed B.named
  have hlocks := B.notSynchronized
  subst hsz
  have hD := hD0.self (sz := s.heap.size)
  generalize hAe : va_A (MWn h0 mr km (mi 0) (mi 1) (mi 2) (mi 3) (mi 4) (mi 5) (mi 6) (mi 7) (mi 10) (mi 17) (mi 23) (mi 24) (mi 26) (mi 27) (mi 28) (mi 29) (mi 30) (mi 31) (mi 32) (mi 33) (mi 37) (mi 41) (mi 42) (mi 43) (mi 44) (mi 45) (mi 47) (mi 48) (mi 49) (mi 50) (mi 51) (mi 54) (mi 56) fm_trust fm_letter fm_reportPlace fm_reportKind fm_struck fm_reportMonth fm_reportDay fm_reportKnown fm_deedMonth fm_deedDay fm_deedLong fm_deedKind fm_kept fm_tape fm_must fm_least fm_pin fm_ways fm_verdict fm_row fm_official fm_aside fm_worth fm_out) s.heap.size = A at hD ⊢
  have hA : ∀ q : Nat, s.heap.size ≤ q → A q := fun q h => by rw [← hAe]; exact Or.inr h
  have hS : va_S A s.heap s.heap [] := va_S.rf
  have hl := lv_entry ([.ref h0, .int p1, .int p2]) (n := 3) (Nat.le_of_ble_eq_true rfl)
  rw [lg_entry_eq]
  generalize (lg_sl ([.ref h0, .int p1, .int p2]) ++ List.replicate (3 - (lg_sl ([.ref h0, .int p1, .int p2])).length) Slot.unset).toArray = ls at hl ⊢
  have hl : lv_has ls 3 [(0, .ref h0), (1, .int p1), (2, .int p2)] := hl
  refine lv_aload_n hx hb (dk_at dkX12_lasts 0 rfl) rfl (lv_at hl 0 rfl) ?_
  refine lv_iload_n hx hb (dk_at dkX12_lasts 1 rfl) rfl (lv_at hl 1 rfl) ?_
  refine va_calli (va_runV (As := [.int p1]) (rest := []) ⟨hx, hb, hml, hown, hts⟩ (sX12_isTime l dC dI h0 mi mr km fm_trust fm_letter fm_reportPlace fm_reportKind fm_struck fm_reportMonth fm_reportDay fm_reportKnown fm_deedMonth fm_deedDay fm_deedLong fm_deedKind fm_kept fm_tape fm_must fm_least fm_pin fm_ways fm_verdict fm_row fm_official fm_aside fm_worth fm_out p1 gmi_0 gmi_1 gmi_2 gmi_4 gmi_7 gmi_10 gmi_17 gmi_23 gmi_24 gmi_26 gmi_29 gmi_30 gmi_33 gmi_37 gmi_41 gmi_50 gmi_51 gmi_56) (cwV 1 hts (gz_gV mGB_256 mGB_257 mGB_258 mGB_1 mGB_259 goodGB) rfl rfl rfl (by decide +kernel) ⟨Nat.le_of_ble_eq_true rfl, Nat.le_of_ble_eq_true rfl⟩) ⟨bl_R, mw_recv hK hP, fun U hU hW => ⟨rfl, by rw [hU]; exact hP, va_K.moved hW.alike hK⟩⟩ rfl rfl hl.1 rfl (lv_room (Nat.le_of_ble_eq_true rfl)) (dk_at dkX12_lasts 2 rfl) ⟨Nat.zero_le _, Nat.zero_le _⟩) hS (fun q _ h => h.elim) (fun q h => h.elim) (fun r_49 u t H1 locs ht hvm hw hB hz1 hk1 hS => ?_)
  obtain ⟨hw, hE⟩ := hw
  have hP := gz_keep hP hk1
  generalize H1 = H at hP hS ⊢
  have gr_49 : gi r_49 0 1 := hw.1
  have hqr_49 := hw.2
  refine lv_if_eq (tgt := 16) hx hb (dk_at dkX12_lasts 3 rfl) (by decide) (fun c_50 => ?_) (fun c_50 => ?_)
  · have g_51 : gi r_49 0 0 := gi_eq c_50 (gi_c 0 0 (by decide))
    refine lv_bipush (v := (-2)) hx hb (dk_at dkX12_lasts 8 rfl) (by decide) ?_
    exact W.iret (v := (-2)) hx hb hr (fun t ht hW => ⟨⟨(-2), (), rfl, (gi_any (-2)), (mi 37), (mi 41), fm_must, fm_least, fm_pin, fm_ways, fm_verdict, fm_row, fm_official, gmi_37, gmi_41, gfm_row, by rw [ht]; exact hP, hD⟩, hS.F ht⟩) hS.2.2 (dk_at dkX12_lasts 9 rfl)
  · have g_52 : gi r_49 1 1 := gi_ne_lo c_50 gr_49 (gi_c 0 0 (by decide)) (by decide)
    have g_53 : gi p1 0 999 := gi_cap (gi_any p1) (hqr_49 (gz_one g_52)) (by decide)
    refine lv_aload_n hx hb (dk_at dkX12_lasts 4 rfl) rfl (lv_at hl 0 rfl) ?_
    refine lv_iload_n hx hb (dk_at dkX12_lasts 5 rfl) rfl (lv_at hl 2 rfl) ?_
    refine va_calli (va_runV (As := [.int p2]) (rest := []) ⟨hx, hb, hml, hown, hts⟩ (sX12_isMonth l dC dI h0 mi mr km fm_trust fm_letter fm_reportPlace fm_reportKind fm_struck fm_reportMonth fm_reportDay fm_reportKnown fm_deedMonth fm_deedDay fm_deedLong fm_deedKind fm_kept fm_tape fm_must fm_least fm_pin fm_ways fm_verdict fm_row fm_official fm_aside fm_worth fm_out p2 gmi_0 gmi_1 gmi_2 gmi_4 gmi_7 gmi_10 gmi_17 gmi_23 gmi_24 gmi_26 gmi_29 gmi_30 gmi_33 gmi_37 gmi_41 gmi_50 gmi_51 gmi_56) (cwV 1 hts (gz_gV mGB_387 mGB_388 mGB_389 mGB_1 mGB_390 goodGB) rfl rfl rfl (by decide +kernel) ⟨Nat.le_of_ble_eq_true rfl, Nat.le_of_ble_eq_true rfl⟩) ⟨bl_R, mw_recv hK hP, fun U hU hW => ⟨rfl, by rw [hU]; exact hP, va_K.moved hW.alike hK⟩⟩ rfl rfl hl.1 rfl (lv_room (Nat.le_of_ble_eq_true rfl)) (dk_at dkX12_lasts 6 rfl) ⟨Nat.zero_le _, Nat.zero_le _⟩) hS (fun q _ h => h.elim) (fun q h => h.elim) (fun r_54 u t H1 locs ht hvm hw hB hz1 hk1 hS => ?_)
    have hP := gz_keep hP hk1
    generalize H1 = H at hP hS ⊢
    have gr_54 : gi r_54 0 1 := hw.1
    have hqr_54 := hw.2
    refine lv_if_ne (tgt := 19) hx hb (dk_at dkX12_lasts 7 rfl) (by decide) (fun c_55 => ?_) (fun c_55 => ?_)
    · have g_56 : gi r_54 1 1 := gi_ne_lo c_55 gr_54 (gi_c 0 0 (by decide)) (by decide)
      have g_57 : gi p2 0 23 := gi_cap (gi_any p2) (hqr_54 (gz_one g_56)) (by decide)
      refine lv_aload_n hx hb (dk_at dkX12_lasts 10 rfl) rfl (lv_at hl 0 rfl) ?_
      refine lv_iload_n hx hb (dk_at dkX12_lasts 11 rfl) rfl (lv_at hl 1 rfl) ?_
      have hFc := gz_fullF hD hS hA
      refine va_callv (va_runV (As := [.int p1]) (rest := []) ⟨hx, hb, hml, hown, hts⟩ (sX12_officialBy l dC dI H.size h0 mi mr km fm_must fm_least fm_pin fm_ways fm_verdict fm_row fm_struck fm_reportKnown fm_reportPlace fm_reportMonth fm_reportDay fm_reportKind fm_trust fm_letter fm_official fm_deedMonth fm_deedDay fm_deedLong fm_deedKind fm_kept fm_tape fm_aside fm_worth fm_out p1 gmi_0 gmi_1 gmi_2 gmi_4 gmi_7 gmi_10 gmi_17 gmi_23 gmi_24 gmi_26 gmi_29 gmi_30 gmi_33 gmi_37 gmi_41 gmi_50 gmi_51 gmi_56 gfm_row gfm_struck gfm_reportKnown gfm_reportPlace gfm_reportMonth gfm_reportDay) (cwV 1 hts (gz_gV mGB_358 mGB_359 mGB_360 mGB_1 mGB_361 goodGB) rfl rfl rfl (by decide +kernel) ⟨Nat.le_of_ble_eq_true rfl, Nat.le_of_ble_eq_true rfl⟩) ⟨bl_W, mw_recv hK hP, fun U hU hW => ⟨rfl, by rw [hU], by rw [hU]; exact hP, va_K.moved hW.alike hK, hD.weaken (fun _ _ _ _ => trivial)⟩⟩ rfl rfl hl.1 rfl (lv_room (Nat.le_of_ble_eq_true rfl)) (dk_at dkX12_lasts 12 rfl) ⟨Nat.zero_le _, Nat.zero_le _⟩) hS (fun q _ h => hFc q h) hFc (fun u t H1 locs ht hvm hw hB hz1 hk1 hS => ?_)
      obtain ⟨y_59, y_60, f_61, f_62, f_63, f_64, f_65, f_66, f_67, hB⟩ := hB
      obtain ⟨gy_59, gy_60, gf_66, hP1, hD1⟩ := hB
      rw [ht] at hP1
      have hD : va_D A (MWn h0 mr km (mi 0) (mi 1) (mi 2) (mi 3) (mi 4) (mi 5) (mi 6) (mi 7) (mi 10) (mi 17) (mi 23) (mi 24) (mi 26) (mi 27) (mi 28) (mi 29) (mi 30) (mi 31) (mi 32) (mi 33) y_59 y_60 (mi 42) (mi 43) (mi 44) (mi 45) (mi 47) (mi 48) (mi 49) (mi 50) (mi 51) (mi 54) (mi 56) fm_trust fm_letter fm_reportPlace fm_reportKind fm_struck fm_reportMonth fm_reportDay fm_reportKnown fm_deedMonth fm_deedDay fm_deedLong fm_deedKind fm_kept fm_tape f_61 f_62 f_63 f_64 f_65 f_66 f_67 fm_aside fm_worth fm_out) := gz_fullD hFc hD1
      have hP : va_P (dC, dI) vwCl (MWn h0 mr km (mi 0) (mi 1) (mi 2) (mi 3) (mi 4) (mi 5) (mi 6) (mi 7) (mi 10) (mi 17) (mi 23) (mi 24) (mi 26) (mi 27) (mi 28) (mi 29) (mi 30) (mi 31) (mi 32) (mi 33) y_59 y_60 (mi 42) (mi 43) (mi 44) (mi 45) (mi 47) (mi 48) (mi 49) (mi 50) (mi 51) (mi 54) (mi 56) fm_trust fm_letter fm_reportPlace fm_reportKind fm_struck fm_reportMonth fm_reportDay fm_reportKnown fm_deedMonth fm_deedDay fm_deedLong fm_deedKind fm_kept fm_tape f_61 f_62 f_63 f_64 f_65 f_66 f_67 fm_aside fm_worth fm_out) H1 := hP1
      generalize H1 = H at hP hS ⊢
      refine lv_aload_n hx hb (dk_at dkX12_lasts 13 rfl) rfl (lv_at hl 0 rfl) ?_
      refine va_get (D := (dC, dI)) (ci := 12) (v := .ref (mr 20)) (C := RX12) (T := TX12) (N := 57) hx hb hts (fun w h => List.mem_cons_of_mem _ (jnGB_X12 w h)) hown hK hP 0 rfl rfl 46 (by decide) (hts _ (List.mem_cons_of_mem _ mGB_36)) (fun _ h9 => h9) rfl (dk_at dkX12_lasts 14 rfl) ?_
      refine lv_iload_n hx hb (dk_at dkX12_lasts 15 rfl) rfl (lv_at hl 2 rfl) ?_
      refine lv_iconst (v := 1) hx hb (dk_at dkX12_lasts 16 rfl) (by decide) ?_
      refine lv_iadd hx hb (dk_at dkX12_lasts 17 rfl) ?_
      refine lv_topi (fun x_68 ex_68 => ?_)
      have gx_68 : gi x_68 1 24 := gi_add ex_68 g_57 (gi_c 1 1 (by decide)) (by decide)
      refine va_iald hx hb hK hP 21 20 rfl rfl (gi_in gx_68 (by decide)) (dk_at dkX12_lasts 18 rfl) ?_
      refine lv_topi (fun x_69 ex_69 => ?_)
      refine lv_aload_n hx hb (dk_at dkX12_lasts 19 rfl) rfl (lv_at hl 0 rfl) ?_
      refine va_get (D := (dC, dI)) (ci := 12) (v := .ref (mr 20)) (C := RX12) (T := TX12) (N := 57) hx hb hts (fun w h => List.mem_cons_of_mem _ (jnGB_X12 w h)) hown hK hP 0 rfl rfl 46 (by decide) (hts _ (List.mem_cons_of_mem _ mGB_36)) (fun _ h9 => h9) rfl (dk_at dkX12_lasts 20 rfl) ?_
      refine lv_iload_n hx hb (dk_at dkX12_lasts 21 rfl) rfl (lv_at hl 2 rfl) ?_
      refine va_iald hx hb hK hP 21 20 rfl rfl (gi_in g_57 (by decide)) (dk_at dkX12_lasts 22 rfl) ?_
      refine lv_topi (fun x_70 ex_70 => ?_)
      refine lv_isub hx hb (dk_at dkX12_lasts 23 rfl) ?_
      refine lv_topi (fun x_71 ex_71 => ?_)
      exact W.iret (v := x_71) hx hb hr (fun t ht hW => ⟨⟨x_71, (), rfl, (gi_any x_71), y_59, y_60, f_61, f_62, f_63, f_64, f_65, f_66, f_67, gy_59, gy_60, gf_66, by rw [ht]; exact hP, hD⟩, hS.F ht⟩) hS.2.2 (dk_at dkX12_lasts 24 rfl)
    · have g_72 : gi r_54 0 0 := gi_eq c_55 (gi_c 0 0 (by decide))
      refine lv_bipush (v := (-2)) hx hb (dk_at dkX12_lasts 8 rfl) (by decide) ?_
      exact W.iret (v := (-2)) hx hb hr (fun t ht hW => ⟨⟨(-2), (), rfl, (gi_any (-2)), (mi 37), (mi 41), fm_must, fm_least, fm_pin, fm_ways, fm_verdict, fm_row, fm_official, gmi_37, gmi_41, gfm_row, by rw [ht]; exact hP, hD⟩, hS.F ht⟩) hS.2.2 (dk_at dkX12_lasts 9 rfl)
noncomputable def lsX12_could : List (Nat × Instr × Nat) := [(0, .aload_n 0, 1), (1, .iload_n 1, 1), (2, .invokevirtual 359, 3), (5, .ifCond .eq 11, 3), (8, .aload_n 0, 1), (9, .iload_n 2, 1), (10, .invokevirtual 379, 3), (13, .ifCond .ne 6, 3), (16, .bipush (-2), 2), (18, .ireturn, 1), (19, .aload_n 0, 1), (20, .iload_n 1, 1), (21, .invokevirtual 362, 3), (24, .iload_n 3, 1), (25, .ifCond .ge 7, 3), (28, .iconst 0, 1), (29, .goto 9, 3), (32, .aload_n 0, 1), (33, .iload_n 2, 1), (34, .iload_n 3, 1), (35, .invokevirtual 388, 3), (38, .ireturn, 1)]
theorem dkX12_could : dkAll cX12_could lsX12_could = true := by decide +kernel
abbrev pb_sX12_could (dC : Nat → ClassId) (dI : Nat → Nat → Nat) (A9 : Nat → Prop) (h0 : Nat) (mi : Nat → Int32) (mr : Nat → Nat) (km : Nat → ClassId) (fm_must : Nat → Int32) (fm_least : Nat → Int32) (fm_pin : Nat → Int32) (fm_ways : Nat → Int32) (fm_verdict : Nat → Int32) (fm_row : Nat → Int32) (fm_struck : Nat → Int32) (fm_reportKnown : Nat → Int32) (fm_reportPlace : Nat → Int32) (fm_reportMonth : Nat → Int32) (fm_reportDay : Nat → Int32) (fm_reportKind : Nat → Int32) (fm_trust : Nat → Int32) (fm_letter : Nat → Int32) (fm_deedMonth : Nat → Int32) (fm_deedDay : Nat → Int32) (fm_deedLong : Nat → Int32) (fm_deedKind : Nat → Int32) (fm_kept : Nat → Int32) (fm_tape : Nat → Int32) (fm_official : Nat → Int32) (fm_aside : Nat → Int32) (fm_worth : Nat → Int32) (fm_out : Nat → Int32) (p1 : Int32) (p2 : Int32) (p3 : Int32) (w0_37 : Int32) (w0_41 : Int32) (z1 : Nat → Int32) (z2 : Nat → Int32) (z3 : Nat → Int32) (z4 : Nat → Int32) (z5 : Nat → Int32) (z6 : Nat → Int32) (t : State) : Prop := gi w0_37 0 1 ∧ gi w0_41 0 24 ∧ ga z6 24 0 23 ∧ va_P (dC, dI) vwCl (MWn h0 mr km (mi 0) (mi 1) (mi 2) (mi 3) (mi 4) (mi 5) (mi 6) (mi 7) (mi 10) (mi 17) (mi 23) (mi 24) (mi 26) (mi 27) (mi 28) (mi 29) (mi 30) (mi 31) (mi 32) (mi 33) w0_37 w0_41 (mi 42) (mi 43) (mi 44) (mi 45) (mi 47) (mi 48) (mi 49) (mi 50) (mi 51) (mi 54) (mi 56) fm_trust fm_letter fm_reportPlace fm_reportKind fm_struck fm_reportMonth fm_reportDay fm_reportKnown fm_deedMonth fm_deedDay fm_deedLong fm_deedKind fm_kept fm_tape z1 z2 z3 z4 z5 z6 fm_official fm_aside fm_worth fm_out) t.heap ∧ va_D A9 (MWn h0 mr km (mi 0) (mi 1) (mi 2) (mi 3) (mi 4) (mi 5) (mi 6) (mi 7) (mi 10) (mi 17) (mi 23) (mi 24) (mi 26) (mi 27) (mi 28) (mi 29) (mi 30) (mi 31) (mi 32) (mi 33) w0_37 w0_41 (mi 42) (mi 43) (mi 44) (mi 45) (mi 47) (mi 48) (mi 49) (mi 50) (mi 51) (mi 54) (mi 56) fm_trust fm_letter fm_reportPlace fm_reportKind fm_struck fm_reportMonth fm_reportDay fm_reportKnown fm_deedMonth fm_deedDay fm_deedLong fm_deedKind fm_kept fm_tape z1 z2 z3 z4 z5 z6 fm_official fm_aside fm_worth fm_out)
set_option maxHeartbeats 4000000 in
set_option maxRecDepth 100000 in
theorem sX12_could (l : Launch) (dC : Nat → ClassId) (dI : Nat → Nat → Nat) (sz : Nat) (h0 : Nat) (mi : Nat → Int32) (mr : Nat → Nat) (km : Nat → ClassId) (fm_must : Nat → Int32) (fm_least : Nat → Int32) (fm_pin : Nat → Int32) (fm_ways : Nat → Int32) (fm_verdict : Nat → Int32) (fm_row : Nat → Int32) (fm_struck : Nat → Int32) (fm_reportKnown : Nat → Int32) (fm_reportPlace : Nat → Int32) (fm_reportMonth : Nat → Int32) (fm_reportDay : Nat → Int32) (fm_reportKind : Nat → Int32) (fm_trust : Nat → Int32) (fm_letter : Nat → Int32) (fm_deedMonth : Nat → Int32) (fm_deedDay : Nat → Int32) (fm_deedLong : Nat → Int32) (fm_deedKind : Nat → Int32) (fm_kept : Nat → Int32) (fm_tape : Nat → Int32) (fm_official : Nat → Int32) (fm_aside : Nat → Int32) (fm_worth : Nat → Int32) (fm_out : Nat → Int32) (p1 : Int32) (p2 : Int32) (p3 : Int32) (gmi_0 : gi (mi 0) 0 24) (gmi_1 : gi (mi 1) 0 5) (gmi_2 : gi (mi 2) 0 5) (gmi_4 : gi (mi 4) 0 1) (gmi_7 : gi (mi 7) 0 6) (gmi_10 : gi (mi 10) 0 24) (gmi_17 : gi (mi 17) 0 8) (gmi_23 : gi (mi 23) 0 300) (gmi_24 : gi (mi 24) 0 1) (gmi_26 : gi (mi 26) 0 1600) (gmi_29 : gi (mi 29) 0 1600) (gmi_30 : gi (mi 30) 0 1600) (gmi_33 : gi (mi 33) 0 1) (gmi_37 : gi (mi 37) 0 1) (gmi_41 : gi (mi 41) 0 24) (gmi_50 : gi (mi 50) 0 1) (gmi_51 : gi (mi 51) 0 1) (gmi_56 : gi (mi 56) 0 80) (gfm_row : ga fm_row 24 0 23) (gfm_struck : ga fm_struck 24 0 1) (gfm_reportKnown : ga fm_reportKnown 24 0 999) (gfm_reportPlace : ga fm_reportPlace 24 0 5) (gfm_reportMonth : ga fm_reportMonth 24 0 23) (gfm_reportDay : ga fm_reportDay 24 0 999) : Met l yX12_could (.code yX12_could cX12_could 4 (some .int) :: wsGB) ({ frames := 5, cells := 0, slots := 0, locals := 123 }) (va_Pc [.ref h0, .int p1, .int p2, .int p3] (fun U => U.heap.size = sz ∧ va_P (dC, dI) vwCl (MWn h0 mr km (mi 0) (mi 1) (mi 2) (mi 3) (mi 4) (mi 5) (mi 6) (mi 7) (mi 10) (mi 17) (mi 23) (mi 24) (mi 26) (mi 27) (mi 28) (mi 29) (mi 30) (mi 31) (mi 32) (mi 33) (mi 37) (mi 41) (mi 42) (mi 43) (mi 44) (mi 45) (mi 47) (mi 48) (mi 49) (mi 50) (mi 51) (mi 54) (mi 56) fm_trust fm_letter fm_reportPlace fm_reportKind fm_struck fm_reportMonth fm_reportDay fm_reportKnown fm_deedMonth fm_deedDay fm_deedLong fm_deedKind fm_kept fm_tape fm_must fm_least fm_pin fm_ways fm_verdict fm_row fm_official fm_aside fm_worth fm_out) U.heap ∧ va_K (dC, dI) vwCl (MT km) U ∧ va_D (fun _ => True) (MWn h0 mr km (mi 0) (mi 1) (mi 2) (mi 3) (mi 4) (mi 5) (mi 6) (mi 7) (mi 10) (mi 17) (mi 23) (mi 24) (mi 26) (mi 27) (mi 28) (mi 29) (mi 30) (mi 31) (mi 32) (mi 33) (mi 37) (mi 41) (mi 42) (mi 43) (mi 44) (mi 45) (mi 47) (mi 48) (mi 49) (mi 50) (mi 51) (mi 54) (mi 56) fm_trust fm_letter fm_reportPlace fm_reportKind fm_struck fm_reportMonth fm_reportDay fm_reportKnown fm_deedMonth fm_deedDay fm_deedLong fm_deedKind fm_kept fm_tape fm_must fm_least fm_pin fm_ways fm_verdict fm_row fm_official fm_aside fm_worth fm_out))) (va_Qi (fun (r : Int32) (u : Unit) => gi r (-2147483648) 2147483647) (fun _ t => ∃ (w0_37 : Int32) (w0_41 : Int32) (z1 : Nat → Int32) (z2 : Nat → Int32) (z3 : Nat → Int32) (z4 : Nat → Int32) (z5 : Nat → Int32) (z6 : Nat → Int32), pb_sX12_could dC dI (va_A (MWn h0 mr km (mi 0) (mi 1) (mi 2) (mi 3) (mi 4) (mi 5) (mi 6) (mi 7) (mi 10) (mi 17) (mi 23) (mi 24) (mi 26) (mi 27) (mi 28) (mi 29) (mi 30) (mi 31) (mi 32) (mi 33) (mi 37) (mi 41) (mi 42) (mi 43) (mi 44) (mi 45) (mi 47) (mi 48) (mi 49) (mi 50) (mi 51) (mi 54) (mi 56) fm_trust fm_letter fm_reportPlace fm_reportKind fm_struck fm_reportMonth fm_reportDay fm_reportKnown fm_deedMonth fm_deedDay fm_deedLong fm_deedKind fm_kept fm_tape fm_must fm_least fm_pin fm_ways fm_verdict fm_row fm_official fm_aside fm_worth fm_out) sz) h0 mi mr km fm_must fm_least fm_pin fm_ways fm_verdict fm_row fm_struck fm_reportKnown fm_reportPlace fm_reportMonth fm_reportDay fm_reportKind fm_trust fm_letter fm_deedMonth fm_deedDay fm_deedLong fm_deedKind fm_kept fm_tape fm_official fm_aside fm_worth fm_out p1 p2 p3 w0_37 w0_41 z1 z2 z3 z4 z5 z6 t) (va_A (MWn h0 mr km (mi 0) (mi 1) (mi 2) (mi 3) (mi 4) (mi 5) (mi 6) (mi 7) (mi 10) (mi 17) (mi 23) (mi 24) (mi 26) (mi 27) (mi 28) (mi 29) (mi 30) (mi 31) (mi 32) (mi 33) (mi 37) (mi 41) (mi 42) (mi 43) (mi 44) (mi 45) (mi 47) (mi 48) (mi 49) (mi 50) (mi 51) (mi 54) (mi 56) fm_trust fm_letter fm_reportPlace fm_reportKind fm_struck fm_reportMonth fm_reportDay fm_reportKnown fm_deedMonth fm_deedDay fm_deedLong fm_deedKind fm_kept fm_tape fm_must fm_least fm_pin fm_ways fm_verdict fm_row fm_official fm_aside fm_worth fm_out) sz)) 0 0 (va_A (MWn h0 mr km (mi 0) (mi 1) (mi 2) (mi 3) (mi 4) (mi 5) (mi 6) (mi 7) (mi 10) (mi 17) (mi 23) (mi 24) (mi 26) (mi 27) (mi 28) (mi 29) (mi 30) (mi 31) (mi 32) (mi 33) (mi 37) (mi 41) (mi 42) (mi 43) (mi 44) (mi 45) (mi 47) (mi 48) (mi 49) (mi 50) (mi 51) (mi 54) (mi 56) fm_trust fm_letter fm_reportPlace fm_reportKind fm_struck fm_reportMonth fm_reportDay fm_reportKnown fm_deedMonth fm_deedDay fm_deedLong fm_deedKind fm_kept fm_tape fm_must fm_least fm_pin fm_ways fm_verdict fm_row fm_official fm_aside fm_worth fm_out) sz) := by
  refine Met.ofW (cc := cX12_could) (maxL := 4) (ret := (some .int)) (by decide) rfl ?_
  intro p e s m args below meth c s₁ B hml hv
  obtain ⟨rfl, hsz, hP, hK, hD0⟩ := hv
  have hx := B.exec
  have hb := B.bytes
  have hr := B.returns
  have hts := atoms_spec (ws := (.code yX12_could cX12_could 4 (some .int) :: wsGB)) B.pre
  have hown : s.vm.findClass RX12 = some m.cls := findClass_of_methodNamed B.named
  have hlocks := B.notSynchronized
  subst hsz
  have hD := hD0.self (sz := s.heap.size)
  generalize hAe : va_A (MWn h0 mr km (mi 0) (mi 1) (mi 2) (mi 3) (mi 4) (mi 5) (mi 6) (mi 7) (mi 10) (mi 17) (mi 23) (mi 24) (mi 26) (mi 27) (mi 28) (mi 29) (mi 30) (mi 31) (mi 32) (mi 33) (mi 37) (mi 41) (mi 42) (mi 43) (mi 44) (mi 45) (mi 47) (mi 48) (mi 49) (mi 50) (mi 51) (mi 54) (mi 56) fm_trust fm_letter fm_reportPlace fm_reportKind fm_struck fm_reportMonth fm_reportDay fm_reportKnown fm_deedMonth fm_deedDay fm_deedLong fm_deedKind fm_kept fm_tape fm_must fm_least fm_pin fm_ways fm_verdict fm_row fm_official fm_aside fm_worth fm_out) s.heap.size = A at hD ⊢
  have hA : ∀ q : Nat, s.heap.size ≤ q → A q := fun q h => by rw [← hAe]; exact Or.inr h
  have hS : va_S A s.heap s.heap [] := va_S.rf
  have hl := lv_entry ([.ref h0, .int p1, .int p2, .int p3]) (n := 4) (Nat.le_of_ble_eq_true rfl)
  rw [lg_entry_eq]
  generalize (lg_sl ([.ref h0, .int p1, .int p2, .int p3]) ++ List.replicate (4 - (lg_sl ([.ref h0, .int p1, .int p2, .int p3])).length) Slot.unset).toArray = ls at hl ⊢
  have hl : lv_has ls 4 [(0, .ref h0), (1, .int p1), (2, .int p2), (3, .int p3)] := hl
  refine lv_aload_n hx hb (dk_at dkX12_could 0 rfl) rfl (lv_at hl 0 rfl) ?_
  refine lv_iload_n hx hb (dk_at dkX12_could 1 rfl) rfl (lv_at hl 1 rfl) ?_
  refine va_calli (va_runV (As := [.int p1]) (rest := []) ⟨hx, hb, hml, hown, hts⟩ (sX12_isTime l dC dI h0 mi mr km fm_trust fm_letter fm_reportPlace fm_reportKind fm_struck fm_reportMonth fm_reportDay fm_reportKnown fm_deedMonth fm_deedDay fm_deedLong fm_deedKind fm_kept fm_tape fm_must fm_least fm_pin fm_ways fm_verdict fm_row fm_official fm_aside fm_worth fm_out p1 gmi_0 gmi_1 gmi_2 gmi_4 gmi_7 gmi_10 gmi_17 gmi_23 gmi_24 gmi_26 gmi_29 gmi_30 gmi_33 gmi_37 gmi_41 gmi_50 gmi_51 gmi_56) (cwV 1 hts (gz_gV mGB_256 mGB_257 mGB_258 mGB_1 mGB_259 goodGB) rfl rfl rfl (by decide +kernel) ⟨Nat.le_of_ble_eq_true rfl, Nat.le_of_ble_eq_true rfl⟩) ⟨bl_R, mw_recv hK hP, fun U hU hW => ⟨rfl, by rw [hU]; exact hP, va_K.moved hW.alike hK⟩⟩ rfl rfl hl.1 rfl (lv_room (Nat.le_of_ble_eq_true rfl)) (dk_at dkX12_could 2 rfl) ⟨Nat.zero_le _, Nat.zero_le _⟩) hS (fun q _ h => h.elim) (fun q h => h.elim) (fun r_51 u t H1 locs ht hvm hw hB hz1 hk1 hS => ?_)
  obtain ⟨hw, hE⟩ := hw
  have hP := gz_keep hP hk1
  generalize H1 = H at hP hS ⊢
  have gr_51 : gi r_51 0 1 := hw.1
  have hqr_51 := hw.2
  refine lv_if_eq (tgt := 16) hx hb (dk_at dkX12_could 3 rfl) (by decide) (fun c_52 => ?_) (fun c_52 => ?_)
  · have g_53 : gi r_51 0 0 := gi_eq c_52 (gi_c 0 0 (by decide))
    refine lv_bipush (v := (-2)) hx hb (dk_at dkX12_could 8 rfl) (by decide) ?_
    exact W.iret (v := (-2)) hx hb hr (fun t ht hW => ⟨⟨(-2), (), rfl, (gi_any (-2)), (mi 37), (mi 41), fm_must, fm_least, fm_pin, fm_ways, fm_verdict, fm_row, gmi_37, gmi_41, gfm_row, by rw [ht]; exact hP, hD⟩, hS.F ht⟩) hS.2.2 (dk_at dkX12_could 9 rfl)
  · have g_54 : gi r_51 1 1 := gi_ne_lo c_52 gr_51 (gi_c 0 0 (by decide)) (by decide)
    have g_55 : gi p1 0 999 := gi_cap (gi_any p1) (hqr_51 (gz_one g_54)) (by decide)
    refine lv_aload_n hx hb (dk_at dkX12_could 4 rfl) rfl (lv_at hl 0 rfl) ?_
    refine lv_iload_n hx hb (dk_at dkX12_could 5 rfl) rfl (lv_at hl 2 rfl) ?_
    refine va_calli (va_runV (As := [.int p2]) (rest := []) ⟨hx, hb, hml, hown, hts⟩ (sX12_isBegin l dC dI h0 mi mr km fm_trust fm_letter fm_reportPlace fm_reportKind fm_struck fm_reportMonth fm_reportDay fm_reportKnown fm_deedMonth fm_deedDay fm_deedLong fm_deedKind fm_kept fm_tape fm_must fm_least fm_pin fm_ways fm_verdict fm_row fm_official fm_aside fm_worth fm_out p2 gmi_0 gmi_1 gmi_2 gmi_4 gmi_7 gmi_10 gmi_17 gmi_23 gmi_24 gmi_26 gmi_29 gmi_30 gmi_33 gmi_37 gmi_41 gmi_50 gmi_51 gmi_56) (cwV 1 hts (gz_gV mGB_354 mGB_355 mGB_356 mGB_1 mGB_357 goodGB) rfl rfl rfl (by decide +kernel) ⟨Nat.le_of_ble_eq_true rfl, Nat.le_of_ble_eq_true rfl⟩) ⟨bl_R, mw_recv hK hP, fun U hU hW => ⟨rfl, by rw [hU]; exact hP, va_K.moved hW.alike hK⟩⟩ rfl rfl hl.1 rfl (lv_room (Nat.le_of_ble_eq_true rfl)) (dk_at dkX12_could 6 rfl) ⟨Nat.zero_le _, Nat.zero_le _⟩) hS (fun q _ h => h.elim) (fun q h => h.elim) (fun r_56 u t H1 locs ht hvm hw hB hz1 hk1 hS => ?_)
    have hP := gz_keep hP hk1
    generalize H1 = H at hP hS ⊢
    have gr_56 : gi r_56 0 1 := hw.1
    have hqr_56 := hw.2
    refine lv_if_ne (tgt := 19) hx hb (dk_at dkX12_could 7 rfl) (by decide) (fun c_57 => ?_) (fun c_57 => ?_)
    · have g_58 : gi r_56 1 1 := gi_ne_lo c_57 gr_56 (gi_c 0 0 (by decide)) (by decide)
      have g_59 : gi p2 0 24 := gi_cap (gi_any p2) (hqr_56 (gz_one g_58)) (by decide)
      refine lv_aload_n hx hb (dk_at dkX12_could 10 rfl) rfl (lv_at hl 0 rfl) ?_
      refine lv_iload_n hx hb (dk_at dkX12_could 11 rfl) rfl (lv_at hl 1 rfl) ?_
      have hFc := gz_fullF hD hS hA
      refine va_callv (va_runV (As := [.int p1]) (rest := []) ⟨hx, hb, hml, hown, hts⟩ (sX12_judgesAll l dC dI H.size h0 mi mr km fm_must fm_least fm_pin fm_ways fm_verdict fm_row fm_struck fm_reportKnown fm_reportPlace fm_reportMonth fm_reportDay fm_reportKind fm_trust fm_letter fm_deedMonth fm_deedDay fm_deedLong fm_deedKind fm_kept fm_tape fm_official fm_aside fm_worth fm_out p1 gmi_0 gmi_1 gmi_2 gmi_4 gmi_7 gmi_10 gmi_17 gmi_23 gmi_24 gmi_26 gmi_29 gmi_30 gmi_33 gmi_37 gmi_41 gmi_50 gmi_51 gmi_56 gfm_row gfm_struck gfm_reportKnown gfm_reportPlace gfm_reportMonth gfm_reportDay) (cwV 1 hts (gz_gV mGB_261 mGB_262 mGB_263 mGB_1 mGB_264 goodGB) rfl rfl rfl (by decide +kernel) ⟨Nat.le_of_ble_eq_true rfl, Nat.le_of_ble_eq_true rfl⟩) ⟨bl_W, mw_recv hK hP, fun U hU hW => ⟨rfl, by rw [hU], by rw [hU]; exact hP, va_K.moved hW.alike hK, hD.weaken (fun _ _ _ _ => trivial)⟩⟩ rfl rfl hl.1 rfl (lv_room (Nat.le_of_ble_eq_true rfl)) (dk_at dkX12_could 12 rfl) ⟨Nat.zero_le _, Nat.zero_le _⟩) hS (fun q _ h => hFc q h) hFc (fun u t H1 locs ht hvm hw hB hz1 hk1 hS => ?_)
      obtain ⟨y_61, y_62, f_63, f_64, f_65, f_66, f_67, f_68, hB⟩ := hB
      obtain ⟨gy_61, gy_62, gf_68, hP1, hD1⟩ := hB
      rw [ht] at hP1
      have hD : va_D A (MWn h0 mr km (mi 0) (mi 1) (mi 2) (mi 3) (mi 4) (mi 5) (mi 6) (mi 7) (mi 10) (mi 17) (mi 23) (mi 24) (mi 26) (mi 27) (mi 28) (mi 29) (mi 30) (mi 31) (mi 32) (mi 33) y_61 y_62 (mi 42) (mi 43) (mi 44) (mi 45) (mi 47) (mi 48) (mi 49) (mi 50) (mi 51) (mi 54) (mi 56) fm_trust fm_letter fm_reportPlace fm_reportKind fm_struck fm_reportMonth fm_reportDay fm_reportKnown fm_deedMonth fm_deedDay fm_deedLong fm_deedKind fm_kept fm_tape f_63 f_64 f_65 f_66 f_67 f_68 fm_official fm_aside fm_worth fm_out) := gz_fullD hFc hD1
      have hP : va_P (dC, dI) vwCl (MWn h0 mr km (mi 0) (mi 1) (mi 2) (mi 3) (mi 4) (mi 5) (mi 6) (mi 7) (mi 10) (mi 17) (mi 23) (mi 24) (mi 26) (mi 27) (mi 28) (mi 29) (mi 30) (mi 31) (mi 32) (mi 33) y_61 y_62 (mi 42) (mi 43) (mi 44) (mi 45) (mi 47) (mi 48) (mi 49) (mi 50) (mi 51) (mi 54) (mi 56) fm_trust fm_letter fm_reportPlace fm_reportKind fm_struck fm_reportMonth fm_reportDay fm_reportKnown fm_deedMonth fm_deedDay fm_deedLong fm_deedKind fm_kept fm_tape f_63 f_64 f_65 f_66 f_67 f_68 fm_official fm_aside fm_worth fm_out) H1 := hP1
      generalize H1 = H at hP hS ⊢
      refine lv_iload_n hx hb (dk_at dkX12_could 13 rfl) rfl (lv_at hl 3 rfl) ?_
      refine lv_if_ge (tgt := 32) hx hb (dk_at dkX12_could 14 rfl) (by decide) (fun c_69 => ?_) (fun c_69 => ?_)
      · have g_70 : gi p3 0 2147483647 := gi_le_r c_69 (gi_c 0 0 (by decide)) (gi_any p3)
        refine lv_aload_n hx hb (dk_at dkX12_could 17 rfl) rfl (lv_at hl 0 rfl) ?_
        refine lv_iload_n hx hb (dk_at dkX12_could 18 rfl) rfl (lv_at hl 2 rfl) ?_
        refine lv_iload_n hx hb (dk_at dkX12_could 19 rfl) rfl (lv_at hl 3 rfl) ?_
        have hFc := gz_fullF hD hS hA
        refine va_calli (va_runV (As := [.int p2, .int p3]) (rest := []) ⟨hx, hb, hml, hown, hts⟩ (sX12_beginsOn l dC dI H.size h0 (upd (upd mi 37 y_61) 41 y_62) mr km f_63 f_64 f_65 f_66 fm_trust fm_letter fm_reportPlace fm_reportKind fm_struck fm_reportMonth fm_reportDay fm_reportKnown fm_deedMonth fm_deedDay fm_deedLong fm_deedKind fm_kept fm_tape f_67 f_68 fm_official fm_aside fm_worth fm_out p2 p3 gmi_0 gmi_1 gmi_2 gmi_4 gmi_7 gmi_10 gmi_17 gmi_23 gmi_24 gmi_26 gmi_29 gmi_30 gmi_33 gy_61 gy_62 gmi_50 gmi_51 gmi_56 g_59) (cwV 2 hts (gz_gV mGB_373 mGB_374 mGB_375 mGB_1 mGB_376 goodGB) rfl rfl rfl (by decide +kernel) ⟨Nat.le_of_ble_eq_true rfl, Nat.le_of_ble_eq_true rfl⟩) ⟨bl_W, mw_recv hK hP, fun U hU hW => ⟨rfl, by rw [hU], by rw [hU]; exact hP, va_K.moved hW.alike hK, hD.weaken (fun _ _ _ _ => trivial)⟩⟩ rfl rfl hl.1 rfl (lv_room (Nat.le_of_ble_eq_true rfl)) (dk_at dkX12_could 20 rfl) ⟨Nat.zero_le _, Nat.zero_le _⟩) hS (fun q _ h => hFc q h) hFc (fun r_71 u t H1 locs ht hvm hw hB hz1 hk1 hS => ?_)
        obtain ⟨f_72, f_73, hB⟩ := hB
        obtain ⟨hP1, hD1⟩ := hB
        rw [ht] at hP1
        have hD : va_D A (MWn h0 mr km (mi 0) (mi 1) (mi 2) (mi 3) (mi 4) (mi 5) (mi 6) (mi 7) (mi 10) (mi 17) (mi 23) (mi 24) (mi 26) (mi 27) (mi 28) (mi 29) (mi 30) (mi 31) (mi 32) (mi 33) y_61 y_62 (mi 42) (mi 43) (mi 44) (mi 45) (mi 47) (mi 48) (mi 49) (mi 50) (mi 51) (mi 54) (mi 56) fm_trust fm_letter fm_reportPlace fm_reportKind fm_struck fm_reportMonth fm_reportDay fm_reportKnown fm_deedMonth fm_deedDay fm_deedLong fm_deedKind fm_kept fm_tape f_63 f_64 f_72 f_73 f_67 f_68 fm_official fm_aside fm_worth fm_out) := gz_fullD hFc hD1
        have hP : va_P (dC, dI) vwCl (MWn h0 mr km (mi 0) (mi 1) (mi 2) (mi 3) (mi 4) (mi 5) (mi 6) (mi 7) (mi 10) (mi 17) (mi 23) (mi 24) (mi 26) (mi 27) (mi 28) (mi 29) (mi 30) (mi 31) (mi 32) (mi 33) y_61 y_62 (mi 42) (mi 43) (mi 44) (mi 45) (mi 47) (mi 48) (mi 49) (mi 50) (mi 51) (mi 54) (mi 56) fm_trust fm_letter fm_reportPlace fm_reportKind fm_struck fm_reportMonth fm_reportDay fm_reportKnown fm_deedMonth fm_deedDay fm_deedLong fm_deedKind fm_kept fm_tape f_63 f_64 f_72 f_73 f_67 f_68 fm_official fm_aside fm_worth fm_out) H1 := hP1
        generalize H1 = H at hP hS ⊢
        exact W.iret (v := r_71) hx hb hr (fun t ht hW => ⟨⟨r_71, (), rfl, (gi_any r_71), y_61, y_62, f_63, f_64, f_72, f_73, f_67, f_68, gy_61, gy_62, gf_68, by rw [ht]; exact hP, hD⟩, hS.F ht⟩) hS.2.2 (dk_at dkX12_could 21 rfl)
      · have g_74 : gi p3 (-2147483648) (-1) := gi_lt_l (Int32.not_le.mp c_69) (gi_any p3) (gi_c 0 0 (by decide)) (by decide)
        refine lv_iconst (v := 0) hx hb (dk_at dkX12_could 15 rfl) (by decide) ?_
        refine lv_goto (tgt := 38) hx hb (dk_at dkX12_could 16 rfl) (by decide) ?_
        exact W.iret (v := 0) hx hb hr (fun t ht hW => ⟨⟨0, (), rfl, (gi_any 0), y_61, y_62, f_63, f_64, f_65, f_66, f_67, f_68, gy_61, gy_62, gf_68, by rw [ht]; exact hP, hD⟩, hS.F ht⟩) hS.2.2 (dk_at dkX12_could 21 rfl)
    · have g_75 : gi r_56 0 0 := gi_eq c_57 (gi_c 0 0 (by decide))
      refine lv_bipush (v := (-2)) hx hb (dk_at dkX12_could 8 rfl) (by decide) ?_
      exact W.iret (v := (-2)) hx hb hr (fun t ht hW => ⟨⟨(-2), (), rfl, (gi_any (-2)), (mi 37), (mi 41), fm_must, fm_least, fm_pin, fm_ways, fm_verdict, fm_row, gmi_37, gmi_41, gfm_row, by rw [ht]; exact hP, hD⟩, hS.F ht⟩) hS.2.2 (dk_at dkX12_could 9 rfl)
