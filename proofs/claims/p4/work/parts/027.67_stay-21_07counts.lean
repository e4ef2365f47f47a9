def REL (vx : Nat → Int32) (fx : Nat → Nat → Int32) (gx : Nat → Nat → Int64) (mi : Nat → Int32) (fm : Nat → Nat → Int32) : Prop := REL0 vx fx mi fm
theorem pr_stay {vx : Nat → Int32} {fx : Nat → Nat → Int32} {gx : Nat → Nat → Int64} {mi : Nat → Int32} {fm : Nat → Nat → Int32} (h : REL vx fx gx mi fm) {v : Nat → Int32} {f : Nat → Nat → Int32} {g : Nat → Nat → Int64} {mi2 : Nat → Int32} {fm2 : Nat → Nat → Int32} (hx : styX vx fx v f) (hm : styM mi fm mi2 fm2) : REL v f g mi2 fm2 := by
  obtain ⟨x0, x1, x2, x3⟩ := hx
  obtain ⟨m0, m1, m2, m3⟩ := hm
  unfold REL REL0 at h ⊢
  rw [x0, x1, x2, x3, m0, m1, m2, m3]
  exact h
theorem pr_feed {vx : Nat → Int32} {fx : Nat → Nat → Int32} {gx : Nat → Nat → Int64} {mi : Nat → Int32} {fm : Nat → Nat → Int32} (hXI : XI vx fx) (hMI : MI mi fm) (h : REL vx fx gx mi fm) {r r2 : Int32} {v : Nat → Int32} {f : Nat → Nat → Int32} {g : Nat → Nat → Int64} {mi2 : Nat → Int32} {fm2 : Nat → Nat → Int32} {p1 p2 p3 p4 p5 : Int32} (hx : (r, v, f, g) = xs_feed vx fx gx p1 p2 p3 p4 p5) (hm : (r2, mi2, fm2) = ms_feed mi fm p1 p2 p3 p4 p5) : REL v f g mi2 fm2 ∧ r = r2 := rl_feed h hx hm
theorem pr_end {vx : Nat → Int32} {fx : Nat → Nat → Int32} {gx : Nat → Nat → Int64} {mi : Nat → Int32} {fm : Nat → Nat → Int32} (hXI : XI vx fx) (hMI : MI mi fm) (h : REL vx fx gx mi fm) {r r2 : Int32} {v : Nat → Int32} {f : Nat → Nat → Int32} {g : Nat → Nat → Int64} {mi2 : Nat → Int32} {fm2 : Nat → Nat → Int32} {p1 : Int32} (hx : (r, v, f, g) = xs_end vx fx gx p1) (hm : (r2, mi2, fm2) = ms_end mi fm p1) : REL v f g mi2 fm2 ∧ r = r2 := rl_end h hx hm
theorem pr_almanac {vx : Nat → Int32} {fx : Nat → Nat → Int32} {gx : Nat → Nat → Int64} {mi : Nat → Int32} {fm : Nat → Nat → Int32} (hXI : XI vx fx) (hMI : MI mi fm) (h : REL vx fx gx mi fm) {r r2 : Int32} {v : Nat → Int32} {f : Nat → Nat → Int32} {g : Nat → Nat → Int64} {mi2 : Nat → Int32} {fm2 : Nat → Nat → Int32} (hx : (r, v, f, g) = xs_almanac vx fx gx) (hm : (r2, mi2, fm2) = ms_almanac mi fm) : REL v f g mi2 fm2 ∧ r = r2 := rl_almanac h hx hm
theorem pr_fault {vx : Nat → Int32} {fx : Nat → Nat → Int32} {gx : Nat → Nat → Int64} {mi : Nat → Int32} {fm : Nat → Nat → Int32} (hXI : XI vx fx) (hMI : MI mi fm) (h : REL vx fx gx mi fm) {r r2 : Int32} {v : Nat → Int32} {f : Nat → Nat → Int32} {g : Nat → Nat → Int64} {mi2 : Nat → Int32} {fm2 : Nat → Nat → Int32} {p1 : Int32} (hx : (r, v, f, g) = xs_fault vx fx gx p1) (hm : (r2, mi2, fm2) = ms_fault mi fm p1) : REL v f g mi2 fm2 ∧ r = r2 := rl_fault h hx hm
def VX0 : Nat → Int32 := (fun n => ([0, 0, (-1), 0, 0, 0, (-1), 0, 0, 0, 0, 0, 0, 0, 0, 0, 0, 0, 0, 0, 0, 0, 0, 0, 0, 0, 0, 0, 0, 0, 0, 0, 0, 0, 0, 0, 0, 0, 0, 0, 0, 0, 0, 0, 0, 0, 0, 0, 0, 0, 0, 0, 0, 0, 0, 0, 0, 0, 0, 0, 0] : List Int32).getD n 0)
def MI0 : Nat → Int32 := (fun n => ([0, 0, 0, 0, 0, 0, 0, 0, 0, 0, 0, 0, 0, 0, 0, 0, 0, 0, 0, 0, 0, 0, 0, 0, 0, 0, 0, 0, (-1), 0, 0, 0, 0, 0, 0, 0, 0, 0, 0, 0, 0, 0, (-1), (-1), (-1), (-1), 0, 0, 0, 0, 0, 0, 0, 0, 0, 0, 0] : List Int32).getD n 0)
theorem rel_start {vx : Nat → Int32} {fx : Nat → Nat → Int32} {gx : Nat → Nat → Int64} {mi : Nat → Int32} {fm : Nat → Nat → Int32} (hx : vx = VX0 ∧ fx = (fun _ _ => 0) ∧ gx = (fun _ _ => 0)) (hm : mi = MI0 ∧ fm = (fun _ _ => 0)) : REL vx fx gx mi fm := by
  obtain ⟨rfl, rfl, rfl⟩ := hx
  obtain ⟨rfl, rfl⟩ := hm
  exact ⟨⟨0, by omega, rfl, rfl, fun j hj => absurd hj (by omega)⟩, rfl, rfl⟩
theorem dX8_wipe_0 : decode cX8_wipe 0 = .ok (.aload_n 0, 1) := by decide +kernel
theorem dX8_wipe_1 : decode cX8_wipe 1 = .ok (.getfield 9, 3) := by decide +kernel
theorem dX8_wipe_4 : decode cX8_wipe 4 = .ok (.iconst 0, 1) := by decide +kernel
theorem dX8_wipe_5 : decode cX8_wipe 5 = .ok (.invokestatic 18, 3) := by decide +kernel
theorem dX8_wipe_8 : decode cX8_wipe 8 = .ok (.return_, 1) := by decide +kernel
set_option maxHeartbeats 4000000 in
set_option maxRecDepth 100000 in
theorem sX8_wipe (l : Launch) (dC : Nat → ClassId) (dI : Nat → Nat → Nat) (sz : Nat) (h0 : Nat) (co : Nat) (le : Nat) (months : Int32) (full : Int32) (lean : Int32) (kco : ClassId) (fco : Nat → Int32) (gmonths : gi months 0 24) (gfull : gi full 0 5) (glean : gi lean 0 5) : Met l yX8_wipe (.code yX8_wipe cX8_wipe 1 none :: wsGA) ({ frames := 1, cells := 0, slots := 0, locals := 23 }) (va_Pc [.ref h0] (fun U => U.heap.size = sz ∧ va_P (dC, dI) vwCl [(h0, .inr (8, [.ref co, .ref le, .int months, .int full, .int lean])), (co, .inl (kco, 325, .inl fco))] U.heap ∧ va_K (dC, dI) vwCl [(kco, .int)] U ∧ va_D (fun _ => True) [(h0, .inr (8, [.ref co, .ref le, .int months, .int full, .int lean])), (co, .inl (kco, 325, .inl fco))] ∧ nzA U)) (va_Qv (fun (u : Unit) => True) (fun _ t => ∃ (z1 : Nat → Int32), va_P (dC, dI) vwCl [(h0, .inr (8, [.ref co, .ref le, .int months, .int full, .int lean])), (co, .inl (kco, 325, .inl z1))] t.heap ∧ va_D (va_A [(h0, .inr (8, [.ref co, .ref le, .int months, .int full, .int lean])), (co, .inl (kco, 325, .inl fco))] sz) [(h0, .inr (8, [.ref co, .ref le, .int months, .int full, .int lean])), (co, .inl (kco, 325, .inl z1))]) (va_A [(h0, .inr (8, [.ref co, .ref le, .int months, .int full, .int lean])), (co, .inl (kco, 325, .inl fco))] sz)) 0 0 (va_A [(h0, .inr (8, [.ref co, .ref le, .int months, .int full, .int lean])), (co, .inl (kco, 325, .inl fco))] sz) := by
  refine Met.ofW (cc := cX8_wipe) (maxL := 1) (ret := none) (by decide) rfl ?_
  intro p e s m args below meth c s₁ B hml hv
  obtain ⟨rfl, hsz, hP, hK, hD0, hz⟩ := hv
  have hx := B.exec
  have hb := B.bytes
  have hr := B.returns
  have hts := atoms_spec (ws := (.code yX8_wipe cX8_wipe 1 none :: wsGA)) B.pre
  have hown : s.vm.findClass RX8 = some m.cls := findClass_of_methodNamed B.named
  have hlocks := B.notSynchronized
  subst hsz
  have hD := hD0.self (sz := s.heap.size)
  generalize hAe : va_A [(h0, .inr (8, [.ref co, .ref le, .int months, .int full, .int lean])), (co, .inl (kco, 325, .inl fco))] s.heap.size = A at hD ⊢
  have hA : ∀ q : Nat, s.heap.size ≤ q → A q := fun q h => by rw [← hAe]; exact Or.inr h
  have hS : va_S A s.heap s.heap [] := va_S.rf
  have hl := lv_entry ([.ref h0]) (n := 1) (Nat.le_of_ble_eq_true rfl)
  rw [lg_entry_eq]
  generalize (lg_sl ([.ref h0]) ++ List.replicate (1 - (lg_sl ([.ref h0])).length) Slot.unset).toArray = ls at hl ⊢
  have hl : lv_has ls 1 [(0, .ref h0)] := hl
  refine lv_aload_n hx hb dX8_wipe_0 rfl (lv_at hl 0 rfl) ?_
  refine va_get (D := (dC, dI)) (ci := 8) (v := .ref co) (C := RX8) (T := TX8) (N := 5) hx hb hts (fun w h => List.mem_cons_of_mem _ (jnGA_X8 w h)) hown hK hP 0 rfl rfl 0 (by decide) (hts _ (List.mem_cons_of_mem _ mGA_117)) (fun _ h9 => h9) rfl dX8_wipe_1 ?_
  refine lv_iconst (v := 0) hx hb dX8_wipe_4 (by decide) ?_
  have hPc := hP.sub (ws' := [(co, .inl (kco, 325, .inl fco))]) [1] rfl
  have hKc := hK.sub (tys' := [(kco, .int)]) [0] rfl
  have hDc := hD.sub (ws' := [(co, .inl (kco, 325, .inl fco))]) [1] (by decide) rfl
  have hFc := va_free (wc := [(co, .inl (kco, 325, .inl fco))]) hD hS hA [1] rfl
  refine va_callv (va_runS (As := [.ref co, .int 0]) (rest := []) ⟨hx, hb, hml, hown, hts⟩ (sJ7_fill325 l dC dI s.heap.size co kco fco 0) (⟨callB_of 2 hts (gz_gP mGA_568 goodGA) rfl rfl rfl (hts _ (List.mem_cons_of_mem _ mGA_567)) (hts _ (List.mem_cons_of_mem _ mGA_773)) (by decide +kernel) ⟨Nat.le_of_ble_eq_true rfl, Nat.le_of_ble_eq_true rfl⟩, (hts _ (List.mem_cons_of_mem _ mGA_566))⟩) ⟨fun a U g mk q => by obtain ⟨q0, q1, qP, qK, qD, qZ⟩ := q; exact ⟨q0, q1, qP, va_K.moved (u := U) (U := U.calling g mk a) (Vm.Alike.refl U.vm) qK, qD, nzA_same (u := U) (U := U.calling g mk a) rfl qZ⟩, fun U hU hW => ⟨rfl, by rw [hU], by rw [hU]; exact hPc, va_K.moved hW.alike hKc, hDc.weaken (fun _ _ _ _ => trivial), nzA_warm hW hz⟩⟩ rfl rfl hl.1 rfl (lv_room (Nat.le_of_ble_eq_true rfl)) dX8_wipe_5 ⟨Nat.zero_le _, Nat.zero_le _⟩) hS (fun q _ h => hFc q h) hFc (fun u t H1 locs ht hvm hw hB hz1 hk1 hS => ?_)
  obtain ⟨f_6, hP1, hD1⟩ := hB
  rw [ht] at hP1
  obtain ⟨hP, hD⟩ := va_join (wr := [(h0, .inr (8, [.ref co, .ref le, .int months, .int full, .int lean]))]) (w1 := [(co, .inl (kco, 325, .inl f_6))]) hP hD [1] [0] rfl rfl (by decide) (by decide) hk1 hFc hP1 hD1
  have hP := hP.sub (ws' := [(h0, .inr (8, [.ref co, .ref le, .int months, .int full, .int lean])), (co, .inl (kco, 325, .inl f_6))]) [0, 1] rfl
  have hD := hD.sub (ws' := [(h0, .inr (8, [.ref co, .ref le, .int months, .int full, .int lean])), (co, .inl (kco, 325, .inl f_6))]) [0, 1] (by decide) rfl
  generalize H1 = H at hP hS ⊢
  exact W.vret hx hb hr (fun t ht hW => ⟨⟨(), rfl, trivial, f_6, by rw [ht]; exact hP, hD⟩, hS.F ht⟩) hS.2.2 dX8_wipe_8
theorem dX8_charge_0 : decode cX8_charge 0 = .ok (.aload_n 0, 1) := by decide +kernel
theorem dX8_charge_1 : decode cX8_charge 1 = .ok (.getfield 9, 3) := by decide +kernel
theorem dX8_charge_4 : decode cX8_charge 4 = .ok (.iload_n 1, 1) := by decide +kernel
theorem dX8_charge_5 : decode cX8_charge 5 = .ok (.iload_n 2, 1) := by decide +kernel
theorem dX8_charge_6 : decode cX8_charge 6 = .ok (.invokestatic 24, 3) := by decide +kernel
theorem dX8_charge_9 : decode cX8_charge 9 = .ok (.dup2, 1) := by decide +kernel
theorem dX8_charge_10 : decode cX8_charge 10 = .ok (.iaload, 1) := by decide +kernel
theorem dX8_charge_11 : decode cX8_charge 11 = .ok (.iload_n 3, 1) := by decide +kernel
theorem dX8_charge_12 : decode cX8_charge 12 = .ok (.iadd, 1) := by decide +kernel
theorem dX8_charge_13 : decode cX8_charge 13 = .ok (.iastore, 1) := by decide +kernel
theorem dX8_charge_14 : decode cX8_charge 14 = .ok (.return_, 1) := by decide +kernel
set_option maxHeartbeats 4000000 in
set_option maxRecDepth 100000 in
theorem sX8_charge (l : Launch) (dC : Nat → ClassId) (dI : Nat → Nat → Nat) (sz : Nat) (h0 : Nat) (co : Nat) (le : Nat) (months : Int32) (full : Int32) (lean : Int32) (kco : ClassId) (fco : Nat → Int32) (p0 : Int32) (p1 : Int32) (p2 : Int32) (gmonths : gi months 0 24) (gfull : gi full 0 5) (glean : gi lean 0 5) (gp0 : gi p0 0 24) (gp1 : gi p1 0 24) : Met l yX8_charge (.code yX8_charge cX8_charge 4 none :: wsGA) ({ frames := 1, cells := 0, slots := 0, locals := 21 }) (va_Pc [.ref h0, .int p0, .int p1, .int p2] (fun U => U.heap.size = sz ∧ va_P (dC, dI) vwCl [(h0, .inr (8, [.ref co, .ref le, .int months, .int full, .int lean])), (co, .inl (kco, 325, .inl fco))] U.heap ∧ va_K (dC, dI) vwCl [(kco, .int)] U ∧ va_D (fun _ => True) [(h0, .inr (8, [.ref co, .ref le, .int months, .int full, .int lean])), (co, .inl (kco, 325, .inl fco))] ∧ nzA U)) (va_Qv (fun (u : Unit) => True) (fun _ t => ∃ (z1 : Nat → Int32), va_P (dC, dI) vwCl [(h0, .inr (8, [.ref co, .ref le, .int months, .int full, .int lean])), (co, .inl (kco, 325, .inl z1))] t.heap ∧ va_D (va_A [(h0, .inr (8, [.ref co, .ref le, .int months, .int full, .int lean])), (co, .inl (kco, 325, .inl fco))] sz) [(h0, .inr (8, [.ref co, .ref le, .int months, .int full, .int lean])), (co, .inl (kco, 325, .inl z1))]) (va_A [(h0, .inr (8, [.ref co, .ref le, .int months, .int full, .int lean])), (co, .inl (kco, 325, .inl fco))] sz)) 0 0 (va_A [(h0, .inr (8, [.ref co, .ref le, .int months, .int full, .int lean])), (co, .inl (kco, 325, .inl fco))] sz) := by
  refine Met.ofW (cc := cX8_charge) (maxL := 4) (ret := none) (by decide) rfl ?_
  intro p e s m args below meth c s₁ B hml hv
  obtain ⟨rfl, hsz, hP, hK, hD0, hz⟩ := hv
  have hx := B.exec
  have hb := B.bytes
  have hr := B.returns
  have hts := atoms_spec (ws := (.code yX8_charge cX8_charge 4 none :: wsGA)) B.pre
  have hown : s.vm.findClass RX8 = some m.cls := findClass_of_methodNamed B.named
  have hlocks := B.notSynchronized
  subst hsz
  have hD := hD0.self (sz := s.heap.size)
  generalize hAe : va_A [(h0, .inr (8, [.ref co, .ref le, .int months, .int full, .int lean])), (co, .inl (kco, 325, .inl fco))] s.heap.size = A at hD ⊢
  have hA : ∀ q : Nat, s.heap.size ≤ q → A q := fun q h => by rw [← hAe]; exact Or.inr h
  have hS : va_S A s.heap s.heap [] := va_S.rf
  have hl := lv_entry ([.ref h0, .int p0, .int p1, .int p2]) (n := 4) (Nat.le_of_ble_eq_true rfl)
  rw [lg_entry_eq]
  generalize (lg_sl ([.ref h0, .int p0, .int p1, .int p2]) ++ List.replicate (4 - (lg_sl ([.ref h0, .int p0, .int p1, .int p2])).length) Slot.unset).toArray = ls at hl ⊢
  have hl : lv_has ls 4 [(0, .ref h0), (1, .int p0), (2, .int p1), (3, .int p2)] := hl
  refine lv_aload_n hx hb dX8_charge_0 rfl (lv_at hl 0 rfl) ?_
  refine va_get (D := (dC, dI)) (ci := 8) (v := .ref co) (C := RX8) (T := TX8) (N := 5) hx hb hts (fun w h => List.mem_cons_of_mem _ (jnGA_X8 w h)) hown hK hP 0 rfl rfl 0 (by decide) (hts _ (List.mem_cons_of_mem _ mGA_117)) (fun _ h9 => h9) rfl dX8_charge_1 ?_
  refine lv_iload_n hx hb dX8_charge_4 rfl (lv_at hl 1 rfl) ?_
  refine lv_iload_n hx hb dX8_charge_5 rfl (lv_at hl 2 rfl) ?_
  have hPc := hP.sub (ws' := []) [] rfl
  have hKc := hK.sub (tys' := []) [] rfl
  refine va_calli (va_runSN (As := [.int p0, .int p1]) (rest := [.ref co]) ⟨hx, hb, hml, hown, hts⟩ (sX11_cell l dC dI p0 p1 gp0 gp1) (⟨va_cnB 2 hts (gz_gP mGA_585 goodGA) rfl rfl rfl (nzA_X8_24 hz) (hts _ (List.mem_cons_of_mem _ mGA_1)) (by decide +kernel) ⟨Nat.le_of_ble_eq_true rfl, Nat.le_of_ble_eq_true rfl⟩, (hts _ (List.mem_cons_of_mem _ mGA_584)), trivial⟩) ⟨fun a U g mk q => by obtain ⟨q0, qP, qK, qZ⟩ := q; exact ⟨q0, qP, va_K.moved (u := U) (U := U.calling g mk a) (Vm.Alike.refl U.vm) qK, nzA_same (u := U) (U := U.calling g mk a) rfl qZ⟩, fun U hU hW => ⟨rfl, by rw [hU]; exact hPc, va_K.moved hW.alike hKc, nzA_warm hW hz⟩⟩ rfl rfl hl.1 rfl (lv_room (Nat.le_of_ble_eq_true rfl)) dX8_charge_6 ⟨Nat.zero_le _, Nat.zero_le _⟩) hS (fun q _ h => h.elim) (fun q h => h.elim) (fun r_9 u t H1 locs ht hvm hw hB hz1 hk1 hS => ?_)
  have hP := gz_keep hP hk1
  generalize H1 = H at hP hS ⊢
  have gr_9 : gi r_9 0 324 := hw
  refine lv_dup2_11 hx hb dX8_charge_9 rfl rfl ?_
  refine va_iald hx hb hK hP 1 0 rfl rfl (gi_in gr_9 (by decide)) dX8_charge_10 ?_
  refine lv_topi (fun x_10 ex_10 => ?_)
  refine lv_iload_n hx hb dX8_charge_11 rfl (lv_at hl 3 rfl) ?_
  refine lv_iadd hx hb dX8_charge_12 ?_
  refine lv_topi (fun x_11 ex_11 => ?_)
  refine va_iast hx hb hK hP hD hS 1 0 rfl rfl (gi_in gr_9 (by decide)) dX8_charge_13 (fun H locs hP hD hS => ?_)
  have hP : va_P (dC, dI) vwCl [(h0, .inr (8, [.ref co, .ref le, .int months, .int full, .int lean])), (co, .inl (kco, 325, .inl (upd fco (r_9 : Int32).toNatClampNeg x_11)))] H := hP
  have hD : va_D A [(h0, .inr (8, [.ref co, .ref le, .int months, .int full, .int lean])), (co, .inl (kco, 325, .inl (upd fco (r_9 : Int32).toNatClampNeg x_11)))] := hD
  generalize upd fco (r_9 : Int32).toNatClampNeg x_11 = f_12 at hP hD
  exact W.vret hx hb hr (fun t ht hW => ⟨⟨(), rfl, trivial, f_12, by rw [ht]; exact hP, hD⟩, hS.F ht⟩) hS.2.2 dX8_charge_14
theorem dX8_withFull_0 : decode cX8_withFull 0 = .ok (.aload_n 0, 1) := by decide +kernel
theorem dX8_withFull_1 : decode cX8_withFull 1 = .ok (.getfield 15, 3) := by decide +kernel
theorem dX8_withFull_4 : decode cX8_withFull 4 = .ok (.iload_n 1, 1) := by decide +kernel
theorem dX8_withFull_5 : decode cX8_withFull 5 = .ok (.iconst 1, 1) := by decide +kernel
theorem dX8_withFull_6 : decode cX8_withFull 6 = .ok (.iadd, 1) := by decide +kernel
theorem dX8_withFull_7 : decode cX8_withFull 7 = .ok (.iload_n 2, 1) := by decide +kernel
theorem dX8_withFull_8 : decode cX8_withFull 8 = .ok (.iconst 1, 1) := by decide +kernel
theorem dX8_withFull_9 : decode cX8_withFull 9 = .ok (.iadd, 1) := by decide +kernel
theorem dX8_withFull_10 : decode cX8_withFull 10 = .ok (.iload_n 3, 1) := by decide +kernel
theorem dX8_withFull_11 : decode cX8_withFull 11 = .ok (.aload_n 0, 1) := by decide +kernel
theorem dX8_withFull_12 : decode cX8_withFull 12 = .ok (.getfield 38, 3) := by decide +kernel
theorem dX8_withFull_15 : decode cX8_withFull 15 = .ok (.invokestatic 74, 3) := by decide +kernel
theorem dX8_withFull_18 : decode cX8_withFull 18 = .ok (.invokestatic 71, 3) := by decide +kernel
theorem dX8_withFull_21 : decode cX8_withFull 21 = .ok (.iaload, 1) := by decide +kernel
theorem dX8_withFull_22 : decode cX8_withFull 22 = .ok (.ireturn, 1) := by decide +kernel
set_option maxHeartbeats 4000000 in
set_option maxRecDepth 100000 in
theorem sX8_withFull (l : Launch) (dC : Nat → ClassId) (dI : Nat → Nat → Nat) (h0 : Nat) (le : Nat) (co : Nat) (months : Int32) (full : Int32) (lean : Int32) (kle : ClassId) (fle : Nat → Int32) (p0 : Int32) (p1 : Int32) (p2 : Int32) (gmonths : gi months 0 24) (gfull : gi full 0 5) (glean : gi lean 0 5) (gp0 : gi p0 0 23) (gp1 : gi p1 0 23) (gp2 : gi p2 0 10) : Met l yX8_withFull (.code yX8_withFull cX8_withFull 4 (some .int) :: wsGA) ({ frames := 2, cells := 0, slots := 0, locals := 43 }) (va_Pc [.ref h0, .int p0, .int p1, .int p2] (fun U => va_P (dC, dI) vwCl [(h0, .inr (8, [.ref co, .ref le, .int months, .int full, .int lean])), (le, .inl (kle, 3575, .inl fle))] U.heap ∧ va_K (dC, dI) vwCl [(kle, .int)] U ∧ nzA U)) (va_Qi (fun (r : Int32) (u : Unit) => gi r (-2147483648) 2147483647) (fun _ _ => True) (fun _ => False)) 0 0 (fun _ => False) := by
  refine Met.ofW (cc := cX8_withFull) (maxL := 4) (ret := (some .int)) (by decide) rfl ?_
  intro p e s m args below meth c s₁ B hml hv
  obtain ⟨rfl, hP, hK, hz⟩ := hv
  have hx := B.exec
  have hb := B.bytes
  have hr := B.returns
  have hts := atoms_spec (ws := (.code yX8_withFull cX8_withFull 4 (some .int) :: wsGA)) B.pre
  have hown : s.vm.findClass RX8 = some m.cls := findClass_of_methodNamed B.named
  have hlocks := B.notSynchronized
  have hS : va_S (fun _ => False) s.heap s.heap [] := va_S.rf
  have hl := lv_entry ([.ref h0, .int p0, .int p1, .int p2]) (n := 4) (Nat.le_of_ble_eq_true rfl)
  rw [lg_entry_eq]
  generalize (lg_sl ([.ref h0, .int p0, .int p1, .int p2]) ++ List.replicate (4 - (lg_sl ([.ref h0, .int p0, .int p1, .int p2])).length) Slot.unset).toArray = ls at hl ⊢
  have hl : lv_has ls 4 [(0, .ref h0), (1, .int p0), (2, .int p1), (3, .int p2)] := hl
  refine lv_aload_n hx hb dX8_withFull_0 rfl (lv_at hl 0 rfl) ?_
  refine va_get (D := (dC, dI)) (ci := 8) (v := .ref le) (C := RX8) (T := TX8) (N := 5) hx hb hts (fun w h => List.mem_cons_of_mem _ (jnGA_X8 w h)) hown hK hP 0 rfl rfl 1 (by decide) (hts _ (List.mem_cons_of_mem _ mGA_118)) (fun _ h9 => h9) rfl dX8_withFull_1 ?_
  refine lv_iload_n hx hb dX8_withFull_4 rfl (lv_at hl 1 rfl) ?_
  refine lv_iconst (v := 1) hx hb dX8_withFull_5 (by decide) ?_
  refine lv_iadd hx hb dX8_withFull_6 ?_
  refine lv_topi (fun x_6 ex_6 => ?_)
  have gx_6 : gi x_6 1 24 := gi_add ex_6 gp0 (gi_c 1 1 (by decide)) (by decide)
  refine lv_iload_n hx hb dX8_withFull_7 rfl (lv_at hl 2 rfl) ?_
  refine lv_iconst (v := 1) hx hb dX8_withFull_8 (by decide) ?_
  refine lv_iadd hx hb dX8_withFull_9 ?_
  refine lv_topi (fun x_7 ex_7 => ?_)
  have gx_7 : gi x_7 1 24 := gi_add ex_7 gp1 (gi_c 1 1 (by decide)) (by decide)
  refine lv_iload_n hx hb dX8_withFull_10 rfl (lv_at hl 3 rfl) ?_
  refine lv_aload_n hx hb dX8_withFull_11 rfl (lv_at hl 0 rfl) ?_
  refine va_get (D := (dC, dI)) (ci := 8) (v := .int full) (C := RX8) (T := TX8) (N := 5) hx hb hts (fun w h => List.mem_cons_of_mem _ (jnGA_X8 w h)) hown hK hP 0 rfl rfl 3 (by decide) (hts _ (List.mem_cons_of_mem _ mGA_785)) (fun _ h9 => h9) rfl dX8_withFull_12 ?_
  have hPc := hP.sub (ws' := []) [] rfl
  have hKc := hK.sub (tys' := []) [] rfl
  refine va_calli (va_runSN (As := [.int p2, .int full]) (rest := [.int x_7, .int x_6, .ref le]) ⟨hx, hb, hml, hown, hts⟩ (sX11_runWithFull l dC dI p2 full gp2 gfull) (⟨va_cnB 2 hts (gz_gP mGA_508 goodGA) rfl rfl rfl (nzA_X8_74 hz) (hts _ (List.mem_cons_of_mem _ mGA_1)) (by decide +kernel) ⟨Nat.le_of_ble_eq_true rfl, Nat.le_of_ble_eq_true rfl⟩, (hts _ (List.mem_cons_of_mem _ mGA_507)), trivial⟩) ⟨fun a U g mk q => by obtain ⟨q0, qP, qK, qZ⟩ := q; exact ⟨q0, qP, va_K.moved (u := U) (U := U.calling g mk a) (Vm.Alike.refl U.vm) qK, nzA_same (u := U) (U := U.calling g mk a) rfl qZ⟩, fun U hU hW => ⟨rfl, by rw [hU]; exact hPc, va_K.moved hW.alike hKc, nzA_warm hW hz⟩⟩ rfl rfl hl.1 rfl (lv_room (Nat.le_of_ble_eq_true rfl)) dX8_withFull_15 ⟨Nat.zero_le _, Nat.zero_le _⟩) hS (fun q _ h => h.elim) (fun q h => h.elim) (fun r_8 u t H1 locs ht hvm hw hB hz1 hk1 hS => ?_)
  have hP := gz_keep hP hk1
  generalize H1 = H at hP hS ⊢
  have gr_8 : gi r_8 0 5 := hw
  have hPc := hP.sub (ws' := []) [] rfl
  have hKc := hK.sub (tys' := []) [] rfl
  refine va_calli (va_runSN (As := [.int x_6, .int x_7, .int r_8]) (rest := [.ref le]) ⟨hx, hb, hml, hown, hts⟩ (sX11_spot l dC dI x_6 x_7 r_8 (gi_w gx_6 (by decide)) (gi_w gx_7 (by decide)) (gi_w gr_8 (by decide))) (⟨va_cnB 3 hts (gz_gP mGA_582 goodGA) rfl rfl rfl (nzA_X8_71 hz) (hts _ (List.mem_cons_of_mem _ mGA_1)) (by decide +kernel) ⟨Nat.le_of_ble_eq_true rfl, Nat.le_of_ble_eq_true rfl⟩, (hts _ (List.mem_cons_of_mem _ mGA_581)), trivial⟩) ⟨fun a U g mk q => by obtain ⟨q0, qP, qK, qZ⟩ := q; exact ⟨q0, qP, va_K.moved (u := U) (U := U.calling g mk a) (Vm.Alike.refl U.vm) qK, nzA_same (u := U) (U := U.calling g mk a) rfl qZ⟩, fun U hU hW => ⟨rfl, by rw [hU]; exact hPc, va_K.moved hW.alike hKc, nzA_warm hW hz⟩⟩ rfl rfl hl.1 rfl (lv_room (Nat.le_of_ble_eq_true rfl)) dX8_withFull_18 ⟨Nat.zero_le _, Nat.zero_le _⟩) hS (fun q _ h => h.elim) (fun q h => h.elim) (fun r_9 u t H1 locs ht hvm hw hB hz1 hk1 hS => ?_)
  have hP := gz_keep hP hk1
  generalize H1 = H at hP hS ⊢
  have gr_9 : gi r_9 0 3574 := hw
  refine va_iald hx hb hK hP 1 0 rfl rfl (gi_in gr_9 (by decide)) dX8_withFull_21 ?_
  refine lv_topi (fun x_10 ex_10 => ?_)
  exact W.iret (v := x_10) hx hb hr (fun t ht hW => ⟨⟨x_10, (), rfl, (gi_any x_10), trivial⟩, hS.F ht⟩) hS.2.2 dX8_withFull_22
theorem dX8_withLean_0 : decode cX8_withLean 0 = .ok (.aload_n 0, 1) := by decide +kernel
theorem dX8_withLean_1 : decode cX8_withLean 1 = .ok (.getfield 15, 3) := by decide +kernel
theorem dX8_withLean_4 : decode cX8_withLean 4 = .ok (.iload_n 1, 1) := by decide +kernel
theorem dX8_withLean_5 : decode cX8_withLean 5 = .ok (.iconst 1, 1) := by decide +kernel
theorem dX8_withLean_6 : decode cX8_withLean 6 = .ok (.iadd, 1) := by decide +kernel
theorem dX8_withLean_7 : decode cX8_withLean 7 = .ok (.iload_n 2, 1) := by decide +kernel
theorem dX8_withLean_8 : decode cX8_withLean 8 = .ok (.iload_n 3, 1) := by decide +kernel
theorem dX8_withLean_9 : decode cX8_withLean 9 = .ok (.aload_n 0, 1) := by decide +kernel
theorem dX8_withLean_10 : decode cX8_withLean 10 = .ok (.getfield 38, 3) := by decide +kernel
theorem dX8_withLean_13 : decode cX8_withLean 13 = .ok (.aload_n 0, 1) := by decide +kernel
theorem dX8_withLean_14 : decode cX8_withLean 14 = .ok (.getfield 42, 3) := by decide +kernel
theorem dX8_withLean_17 : decode cX8_withLean 17 = .ok (.invokestatic 77, 3) := by decide +kernel
theorem dX8_withLean_20 : decode cX8_withLean 20 = .ok (.invokestatic 71, 3) := by decide +kernel
theorem dX8_withLean_23 : decode cX8_withLean 23 = .ok (.iaload, 1) := by decide +kernel
theorem dX8_withLean_24 : decode cX8_withLean 24 = .ok (.ireturn, 1) := by decide +kernel
set_option maxHeartbeats 4000000 in
set_option maxRecDepth 100000 in
theorem sX8_withLean (l : Launch) (dC : Nat → ClassId) (dI : Nat → Nat → Nat) (h0 : Nat) (le : Nat) (co : Nat) (months : Int32) (full : Int32) (lean : Int32) (kle : ClassId) (fle : Nat → Int32) (p0 : Int32) (p1 : Int32) (p2 : Int32) (gmonths : gi months 0 24) (gfull : gi full 0 5) (glean : gi lean 0 5) (gp0 : gi p0 0 23) (gp1 : gi p1 0 24) (gp2 : gi p2 0 10) : Met l yX8_withLean (.code yX8_withLean cX8_withLean 4 (some .int) :: wsGA) ({ frames := 2, cells := 0, slots := 0, locals := 43 }) (va_Pc [.ref h0, .int p0, .int p1, .int p2] (fun U => va_P (dC, dI) vwCl [(h0, .inr (8, [.ref co, .ref le, .int months, .int full, .int lean])), (le, .inl (kle, 3575, .inl fle))] U.heap ∧ va_K (dC, dI) vwCl [(kle, .int)] U ∧ nzA U)) (va_Qi (fun (r : Int32) (u : Unit) => gi r (-2147483648) 2147483647) (fun _ _ => True) (fun _ => False)) 0 0 (fun _ => False) := by
  refine Met.ofW (cc := cX8_withLean) (maxL := 4) (ret := (some .int)) (by decide) rfl ?_
  intro p e s m args below meth c s₁ B hml hv
  obtain ⟨rfl, hP, hK, hz⟩ := hv
  have hx := B.exec
  have hb := B.bytes
  have hr := B.returns
  have hts := atoms_spec (ws := (.code yX8_withLean cX8_withLean 4 (some .int) :: wsGA)) B.pre
  have hown : s.vm.findClass RX8 = some m.cls := findClass_of_methodNamed B.named
  have hlocks := B.notSynchronized
  have hS : va_S (fun _ => False) s.heap s.heap [] := va_S.rf
  have hl := lv_entry ([.ref h0, .int p0, .int p1, .int p2]) (n := 4) (Nat.le_of_ble_eq_true rfl)
  rw [lg_entry_eq]
  generalize (lg_sl ([.ref h0, .int p0, .int p1, .int p2]) ++ List.replicate (4 - (lg_sl ([.ref h0, .int p0, .int p1, .int p2])).length) Slot.unset).toArray = ls at hl ⊢
  have hl : lv_has ls 4 [(0, .ref h0), (1, .int p0), (2, .int p1), (3, .int p2)] := hl
  refine lv_aload_n hx hb dX8_withLean_0 rfl (lv_at hl 0 rfl) ?_
  refine va_get (D := (dC, dI)) (ci := 8) (v := .ref le) (C := RX8) (T := TX8) (N := 5) hx hb hts (fun w h => List.mem_cons_of_mem _ (jnGA_X8 w h)) hown hK hP 0 rfl rfl 1 (by decide) (hts _ (List.mem_cons_of_mem _ mGA_118)) (fun _ h9 => h9) rfl dX8_withLean_1 ?_
  refine lv_iload_n hx hb dX8_withLean_4 rfl (lv_at hl 1 rfl) ?_
  refine lv_iconst (v := 1) hx hb dX8_withLean_5 (by decide) ?_
  refine lv_iadd hx hb dX8_withLean_6 ?_
  refine lv_topi (fun x_5 ex_5 => ?_)
  have gx_5 : gi x_5 1 24 := gi_add ex_5 gp0 (gi_c 1 1 (by decide)) (by decide)
  refine lv_iload_n hx hb dX8_withLean_7 rfl (lv_at hl 2 rfl) ?_
  refine lv_iload_n hx hb dX8_withLean_8 rfl (lv_at hl 3 rfl) ?_
  refine lv_aload_n hx hb dX8_withLean_9 rfl (lv_at hl 0 rfl) ?_
  refine va_get (D := (dC, dI)) (ci := 8) (v := .int full) (C := RX8) (T := TX8) (N := 5) hx hb hts (fun w h => List.mem_cons_of_mem _ (jnGA_X8 w h)) hown hK hP 0 rfl rfl 3 (by decide) (hts _ (List.mem_cons_of_mem _ mGA_785)) (fun _ h9 => h9) rfl dX8_withLean_10 ?_
  refine lv_aload_n hx hb dX8_withLean_13 rfl (lv_at hl 0 rfl) ?_
  refine va_get (D := (dC, dI)) (ci := 8) (v := .int lean) (C := RX8) (T := TX8) (N := 5) hx hb hts (fun w h => List.mem_cons_of_mem _ (jnGA_X8 w h)) hown hK hP 0 rfl rfl 4 (by decide) (hts _ (List.mem_cons_of_mem _ mGA_787)) (fun _ h9 => h9) rfl dX8_withLean_14 ?_
  have hPc := hP.sub (ws' := []) [] rfl
  have hKc := hK.sub (tys' := []) [] rfl
  refine va_calli (va_runSN (As := [.int p2, .int full, .int lean]) (rest := [.int p1, .int x_5, .ref le]) ⟨hx, hb, hml, hown, hts⟩ (sX11_runWithLean l dC dI p2 full lean gp2 gfull glean) (⟨va_cnB 3 hts (gz_gP mGA_510 goodGA) rfl rfl rfl (nzA_X8_77 hz) (hts _ (List.mem_cons_of_mem _ mGA_1)) (by decide +kernel) ⟨Nat.le_of_ble_eq_true rfl, Nat.le_of_ble_eq_true rfl⟩, (hts _ (List.mem_cons_of_mem _ mGA_509)), trivial⟩) ⟨fun a U g mk q => by obtain ⟨q0, qP, qK, qZ⟩ := q; exact ⟨q0, qP, va_K.moved (u := U) (U := U.calling g mk a) (Vm.Alike.refl U.vm) qK, nzA_same (u := U) (U := U.calling g mk a) rfl qZ⟩, fun U hU hW => ⟨rfl, by rw [hU]; exact hPc, va_K.moved hW.alike hKc, nzA_warm hW hz⟩⟩ rfl rfl hl.1 rfl (lv_room (Nat.le_of_ble_eq_true rfl)) dX8_withLean_17 ⟨Nat.zero_le _, Nat.zero_le _⟩) hS (fun q _ h => h.elim) (fun q h => h.elim) (fun r_6 u t H1 locs ht hvm hw hB hz1 hk1 hS => ?_)
  have hP := gz_keep hP hk1
  generalize H1 = H at hP hS ⊢
  have gr_6 : gi r_6 0 10 := hw
  have hPc := hP.sub (ws' := []) [] rfl
  have hKc := hK.sub (tys' := []) [] rfl
  refine va_calli (va_runSN (As := [.int x_5, .int p1, .int r_6]) (rest := [.ref le]) ⟨hx, hb, hml, hown, hts⟩ (sX11_spot l dC dI x_5 p1 r_6 (gi_w gx_5 (by decide)) gp1 gr_6) (⟨va_cnB 3 hts (gz_gP mGA_582 goodGA) rfl rfl rfl (nzA_X8_71 hz) (hts _ (List.mem_cons_of_mem _ mGA_1)) (by decide +kernel) ⟨Nat.le_of_ble_eq_true rfl, Nat.le_of_ble_eq_true rfl⟩, (hts _ (List.mem_cons_of_mem _ mGA_581)), trivial⟩) ⟨fun a U g mk q => by obtain ⟨q0, qP, qK, qZ⟩ := q; exact ⟨q0, qP, va_K.moved (u := U) (U := U.calling g mk a) (Vm.Alike.refl U.vm) qK, nzA_same (u := U) (U := U.calling g mk a) rfl qZ⟩, fun U hU hW => ⟨rfl, by rw [hU]; exact hPc, va_K.moved hW.alike hKc, nzA_warm hW hz⟩⟩ rfl rfl hl.1 rfl (lv_room (Nat.le_of_ble_eq_true rfl)) dX8_withLean_20 ⟨Nat.zero_le _, Nat.zero_le _⟩) hS (fun q _ h => h.elim) (fun q h => h.elim) (fun r_7 u t H1 locs ht hvm hw hB hz1 hk1 hS => ?_)
  have hP := gz_keep hP hk1
  generalize H1 = H at hP hS ⊢
  have gr_7 : gi r_7 0 3574 := hw
  refine va_iald hx hb hK hP 1 0 rfl rfl (gi_in gr_7 (by decide)) dX8_withLean_23 ?_
  refine lv_topi (fun x_8 ex_8 => ?_)
  exact W.iret (v := x_8) hx hb hr (fun t ht hW => ⟨⟨x_8, (), rfl, (gi_any x_8), trivial⟩, hS.F ht⟩) hS.2.2 dX8_withLean_24
theorem dX8_least_0 : decode cX8_least 0 = .ok (.aload_n 0, 1) := by decide +kernel
theorem dX8_least_1 : decode cX8_least 1 = .ok (.getfield 15, 3) := by decide +kernel
theorem dX8_least_4 : decode cX8_least 4 = .ok (.iconst 0, 1) := by decide +kernel
theorem dX8_least_5 : decode cX8_least 5 = .ok (.iaload, 1) := by decide +kernel
theorem dX8_least_6 : decode cX8_least 6 = .ok (.ireturn, 1) := by decide +kernel
set_option maxHeartbeats 4000000 in
set_option maxRecDepth 100000 in
theorem sX8_least (l : Launch) (dC : Nat → ClassId) (dI : Nat → Nat → Nat) (h0 : Nat) (le : Nat) (co : Nat) (months : Int32) (full : Int32) (lean : Int32) (kle : ClassId) (fle : Nat → Int32) (gmonths : gi months 0 24) (gfull : gi full 0 5) (glean : gi lean 0 5) : Met l yX8_least (.code yX8_least cX8_least 1 (some .int) :: wsGA) ({ frames := 0, cells := 0, slots := 0, locals := 0 }) (va_Pc [.ref h0] (fun U => va_P (dC, dI) vwCl [(h0, .inr (8, [.ref co, .ref le, .int months, .int full, .int lean])), (le, .inl (kle, 3575, .inl fle))] U.heap ∧ va_K (dC, dI) vwCl [(kle, .int)] U ∧ nzA U)) (va_Qi (fun (r : Int32) (u : Unit) => gi r (-2147483648) 2147483647) (fun _ _ => True) (fun _ => False)) 0 0 (fun _ => False) := by
  refine Met.ofW (cc := cX8_least) (maxL := 1) (ret := (some .int)) (by decide) rfl ?_
  intro p e s m args below meth c s₁ B hml hv
  obtain ⟨rfl, hP, hK, hz⟩ := hv
  have hx := B.exec
  have hb := B.bytes
  have hr := B.returns
  have hts := atoms_spec (ws := (.code yX8_least cX8_least 1 (some .int) :: wsGA)) B.pre
  have hown : s.vm.findClass RX8 = some m.cls := findClass_of_methodNamed B.named
  have hlocks := B.notSynchronized
  have hS : va_S (fun _ => False) s.heap s.heap [] := va_S.rf
  have hl := lv_entry ([.ref h0]) (n := 1) (Nat.le_of_ble_eq_true rfl)
  rw [lg_entry_eq]
  generalize (lg_sl ([.ref h0]) ++ List.replicate (1 - (lg_sl ([.ref h0])).length) Slot.unset).toArray = ls at hl ⊢
  have hl : lv_has ls 1 [(0, .ref h0)] := hl
  refine lv_aload_n hx hb dX8_least_0 rfl (lv_at hl 0 rfl) ?_
  refine va_get (D := (dC, dI)) (ci := 8) (v := .ref le) (C := RX8) (T := TX8) (N := 5) hx hb hts (fun w h => List.mem_cons_of_mem _ (jnGA_X8 w h)) hown hK hP 0 rfl rfl 1 (by decide) (hts _ (List.mem_cons_of_mem _ mGA_118)) (fun _ h9 => h9) rfl dX8_least_1 ?_
  refine lv_iconst (v := 0) hx hb dX8_least_4 (by decide) ?_
  refine va_iald hx hb hK hP 1 0 rfl rfl (gi_in (gi_c 0 0 (by decide)) (by decide)) dX8_least_5 ?_
  refine lv_topi (fun x_2 ex_2 => ?_)
  exact W.iret (v := x_2) hx hb hr (fun t ht hW => ⟨⟨x_2, (), rfl, (gi_any x_2), trivial⟩, hS.F ht⟩) hS.2.2 dX8_least_6
theorem dX8_fillCell_0 : decode cX8_fillCell 0 = .ok (.iload_n 1, 1) := by decide +kernel
theorem dX8_fillCell_1 : decode cX8_fillCell 1 = .ok (.invokestatic 52, 3) := by decide +kernel
theorem dX8_fillCell_4 : decode cX8_fillCell 4 = .ok (.istore_n 3, 1) := by decide +kernel
theorem dX8_fillCell_5 : decode cX8_fillCell 5 = .ok (.iload_n 3, 1) := by decide +kernel
theorem dX8_fillCell_6 : decode cX8_fillCell 6 = .ok (.iload_n 1, 1) := by decide +kernel
theorem dX8_fillCell_7 : decode cX8_fillCell 7 = .ok (.aload_n 0, 1) := by decide +kernel
theorem dX8_fillCell_8 : decode cX8_fillCell 8 = .ok (.getfield 38, 3) := by decide +kernel
theorem dX8_fillCell_11 : decode cX8_fillCell 11 = .ok (.aload_n 0, 1) := by decide +kernel
theorem dX8_fillCell_12 : decode cX8_fillCell 12 = .ok (.getfield 42, 3) := by decide +kernel
theorem dX8_fillCell_15 : decode cX8_fillCell 15 = .ok (.invokestatic 56, 3) := by decide +kernel
theorem dX8_fillCell_18 : decode cX8_fillCell 18 = .ok (.if_icmp .gt 71, 3) := by decide +kernel
theorem dX8_fillCell_21 : decode cX8_fillCell 21 = .ok (.iload_n 1, 1) := by decide +kernel
theorem dX8_fillCell_22 : decode cX8_fillCell 22 = .ok (.aload_n 0, 1) := by decide +kernel
theorem dX8_fillCell_23 : decode cX8_fillCell 23 = .ok (.getfield 34, 3) := by decide +kernel
theorem dX8_fillCell_26 : decode cX8_fillCell 26 = .ok (.if_icmp .ne 7, 3) := by decide +kernel
theorem dX8_fillCell_29 : decode cX8_fillCell 29 = .ok (.iconst 0, 1) := by decide +kernel
theorem dX8_fillCell_30 : decode cX8_fillCell 30 = .ok (.goto 20, 3) := by decide +kernel
theorem dX8_fillCell_33 : decode cX8_fillCell 33 = .ok (.aload_n 0, 1) := by decide +kernel
theorem dX8_fillCell_34 : decode cX8_fillCell 34 = .ok (.iload_n 1, 1) := by decide +kernel
theorem dX8_fillCell_35 : decode cX8_fillCell 35 = .ok (.iload_n 2, 1) := by decide +kernel
theorem dX8_fillCell_36 : decode cX8_fillCell 36 = .ok (.iload_n 3, 1) := by decide +kernel
theorem dX8_fillCell_37 : decode cX8_fillCell 37 = .ok (.invokevirtual 60, 3) := by decide +kernel
theorem dX8_fillCell_40 : decode cX8_fillCell 40 = .ok (.aload_n 0, 1) := by decide +kernel
theorem dX8_fillCell_41 : decode cX8_fillCell 41 = .ok (.iload_n 1, 1) := by decide +kernel
theorem dX8_fillCell_42 : decode cX8_fillCell 42 = .ok (.iload_n 2, 1) := by decide +kernel
theorem dX8_fillCell_43 : decode cX8_fillCell 43 = .ok (.iload_n 3, 1) := by decide +kernel
theorem dX8_fillCell_44 : decode cX8_fillCell 44 = .ok (.invokevirtual 63, 3) := by decide +kernel
theorem dX8_fillCell_47 : decode cX8_fillCell 47 = .ok (.invokestatic 66, 3) := by decide +kernel
theorem dX8_fillCell_50 : decode cX8_fillCell 50 = .ok (.istore 4, 2) := by decide +kernel
theorem dX8_fillCell_52 : decode cX8_fillCell 52 = .ok (.iload 4, 2) := by decide +kernel
theorem dX8_fillCell_54 : decode cX8_fillCell 54 = .ok (.ldc 43, 2) := by decide +kernel
theorem dX8_fillCell_56 : decode cX8_fillCell 56 = .ok (.if_icmp .ge 27, 3) := by decide +kernel
theorem dX8_fillCell_59 : decode cX8_fillCell 59 = .ok (.aload_n 0, 1) := by decide +kernel
theorem dX8_fillCell_60 : decode cX8_fillCell 60 = .ok (.getfield 15, 3) := by decide +kernel
theorem dX8_fillCell_63 : decode cX8_fillCell 63 = .ok (.iload_n 1, 1) := by decide +kernel
theorem dX8_fillCell_64 : decode cX8_fillCell 64 = .ok (.iload_n 2, 1) := by decide +kernel
theorem dX8_fillCell_65 : decode cX8_fillCell 65 = .ok (.iload_n 3, 1) := by decide +kernel
theorem dX8_fillCell_66 : decode cX8_fillCell 66 = .ok (.invokestatic 71, 3) := by decide +kernel
theorem dX8_fillCell_69 : decode cX8_fillCell 69 = .ok (.iload 4, 2) := by decide +kernel
theorem dX8_fillCell_71 : decode cX8_fillCell 71 = .ok (.aload_n 0, 1) := by decide +kernel
theorem dX8_fillCell_72 : decode cX8_fillCell 72 = .ok (.getfield 9, 3) := by decide +kernel
theorem dX8_fillCell_75 : decode cX8_fillCell 75 = .ok (.iload_n 1, 1) := by decide +kernel
theorem dX8_fillCell_76 : decode cX8_fillCell 76 = .ok (.iload_n 2, 1) := by decide +kernel
theorem dX8_fillCell_77 : decode cX8_fillCell 77 = .ok (.invokestatic 24, 3) := by decide +kernel
theorem dX8_fillCell_80 : decode cX8_fillCell 80 = .ok (.iaload, 1) := by decide +kernel
theorem dX8_fillCell_81 : decode cX8_fillCell 81 = .ok (.iadd, 1) := by decide +kernel
theorem dX8_fillCell_82 : decode cX8_fillCell 82 = .ok (.iastore, 1) := by decide +kernel
theorem dX8_fillCell_83 : decode cX8_fillCell 83 = .ok (.iinc 3 1, 3) := by decide +kernel
theorem dX8_fillCell_86 : decode cX8_fillCell 86 = .ok (.goto (-81), 3) := by decide +kernel
theorem dX8_fillCell_89 : decode cX8_fillCell 89 = .ok (.return_, 1) := by decide +kernel
set_option maxHeartbeats 4000000 in
set_option maxRecDepth 100000 in
theorem lp_sX8_fillCell {p : Program} {l : Launch} {e : Env} {R : Room} {s : State} {m : MethodId} {args : Array Value} {below : List Frame} {meth : Method} {c : Code} {Q : State → Prop} {A : Nat → Prop} {cells slots : Nat} {dC : Nat → ClassId} {dI : Nat → Nat → Nat} (h0 : Nat) (co : Nat) (le : Nat) (months : Int32) (full : Int32) (lean : Int32) (kco : ClassId) (fco : Nat → Int32) (kle : ClassId) (fle : Nat → Int32) (p0 : Int32) (p1 : Int32) (gmonths : gi months 0 24) (gfull : gi full 0 5) (glean : gi lean 0 5) (gp0 : gi p0 0 24) (gp1 : gi p1 0 24) (hle_gp0_gmonths : p0.toInt ≤ months.toInt) (hle_gp1_gp0 : p1.toInt ≤ p0.toInt) (hx : p.tables.exec = Jvm.exec) (hb : c.code = cX8_fillCell) (hml : c.maxLocals = 5) (hown : s.vm.findClass RX8 = some m.cls) (hts : ∀ w ∈ ((.code yX8_fillCell cX8_fillCell 5 none :: wsGA) : List Cond), w.before args s = true) (hK : va_K (dC, dI) vwCl [(kco, .int), (kle, .int)] s) (hz : nzA s) (hA : ∀ q : Nat, s.heap.size ≤ q → A q) (hRf : 3 ≤ R.frames) (hRl : 66 ≤ R.locals) (hRc : cells ≤ R.cells) (hRs : slots ≤ R.slots) (kr89 : ∀ (z2 : Nat → Int32) (H : Heap) (locs : List Loc) (ls : Array Slot), va_P (dC, dI) vwCl [(h0, .inr (8, [.ref co, .ref le, .int months, .int full, .int lean])), (co, .inl (kco, 325, .inl fco)), (le, .inl (kle, 3575, .inl z2))] H → va_D A [(h0, .inr (8, [.ref co, .ref le, .int months, .int full, .int lean])), (co, .inl (kco, 325, .inl fco)), (le, .inl (kle, 3575, .inl z2))] → va_S A s.heap H locs → lv_has ls 5 [] → W p l e R s m args below meth c H locs cells slots Q (F0 m 89 ls [])) : ∀ z : Nat, (∀ (v3 : Int32) (z2 : Nat → Int32) (H : Heap) (locs : List Loc) (ls : Array Slot), gi v3 0 11 → 23 + (-2) * v3.toInt < (z : Int) → va_P (dC, dI) vwCl [(h0, .inr (8, [.ref co, .ref le, .int months, .int full, .int lean])), (co, .inl (kco, 325, .inl fco)), (le, .inl (kle, 3575, .inl z2))] H → va_D A [(h0, .inr (8, [.ref co, .ref le, .int months, .int full, .int lean])), (co, .inl (kco, 325, .inl fco)), (le, .inl (kle, 3575, .inl z2))] → va_S A s.heap H locs → lv_has ls 5 [(0, .ref h0), (1, .int p0), (2, .int p1), (3, .int v3)] → W p l e R s m args below meth c H locs cells slots Q (F0 m 5 ls [])) := by
  intro z
  induction z with
  | zero =>
    intro v3 z2 H locs ls gv3 hmu hP hD hS hl
    exact absurd hmu (by have hv31 := gv3.1; have hv32 := gv3.2; omega)
  | succ z ih =>
      intro v3 z2 H locs ls gv3 hmu hP hD hS hl
      refine lv_iload_n hx hb dX8_fillCell_5 rfl (lv_at hl 3 rfl) ?_
      refine lv_iload_n hx hb dX8_fillCell_6 rfl (lv_at hl 1 rfl) ?_
      refine lv_aload_n hx hb dX8_fillCell_7 rfl (lv_at hl 0 rfl) ?_
      refine va_get (D := (dC, dI)) (ci := 8) (v := .int full) (C := RX8) (T := TX8) (N := 5) hx hb hts (fun w h => List.mem_cons_of_mem _ (jnGA_X8 w h)) hown hK hP 0 rfl rfl 3 (by decide) (hts _ (List.mem_cons_of_mem _ mGA_785)) (fun _ h9 => h9) rfl dX8_fillCell_8 ?_
      refine lv_aload_n hx hb dX8_fillCell_11 rfl (lv_at hl 0 rfl) ?_
      refine va_get (D := (dC, dI)) (ci := 8) (v := .int lean) (C := RX8) (T := TX8) (N := 5) hx hb hts (fun w h => List.mem_cons_of_mem _ (jnGA_X8 w h)) hown hK hP 0 rfl rfl 4 (by decide) (hts _ (List.mem_cons_of_mem _ mGA_787)) (fun _ h9 => h9) rfl dX8_fillCell_12 ?_
      have hPc := hP.sub (ws' := []) [] rfl
      have hKc := hK.sub (tys' := []) [] rfl
      refine va_calli (va_runSN (As := [.int p0, .int full, .int lean]) (rest := [.int v3]) ⟨hx, hb, hml, hown, hts⟩ (sX11_lastRun l dC dI p0 full lean gp0 gfull glean) (⟨va_cnB 3 hts (gz_gP mGA_506 goodGA) rfl rfl rfl (nzA_X8_56 hz) (hts _ (List.mem_cons_of_mem _ mGA_1)) (by decide +kernel) ⟨Nat.le_trans (Nat.le_of_ble_eq_true rfl) hRf, Nat.le_trans (Nat.le_of_ble_eq_true rfl) hRl⟩, (hts _ (List.mem_cons_of_mem _ mGA_505)), trivial⟩) ⟨fun a U g mk q => by obtain ⟨q0, qP, qK, qZ⟩ := q; exact ⟨q0, qP, va_K.moved (u := U) (U := U.calling g mk a) (Vm.Alike.refl U.vm) qK, nzA_same (u := U) (U := U.calling g mk a) rfl qZ⟩, fun U hU hW => ⟨rfl, by rw [hU]; exact hPc, va_K.moved hW.alike hKc, nzA_warm hW hz⟩⟩ rfl rfl hl.1 rfl (lv_room (Nat.le_of_ble_eq_true rfl)) dX8_fillCell_15 ⟨hRc, hRs⟩) hS (fun q _ h => h.elim) (fun q h => h.elim) (fun r_281 u t H1 locs ht hvm hw hB hz1 hk1 hS => ?_)
      have hP := gz_keep hP hk1
      generalize H1 = H at hP hS ⊢
      have gr_281 : gi r_281 0 10 := hw
      refine lv_icmp_gt (tgt := 89) hx hb dX8_fillCell_18 (by decide) (fun c_282 => ?_) (fun c_282 => ?_)
      · have g_283 : gi v3 1 11 := gi_lt_r c_282 gr_281 gv3 (by decide)
        exact kr89 z2 _ _ _ hP hD hS (lv_sub hl [] rfl)
      · have g_284 : gi v3 0 10 := gi_le_l (Int32.not_lt.mp c_282) gv3 gr_281
        refine lv_iload_n hx hb dX8_fillCell_21 rfl (lv_at hl 1 rfl) ?_
        refine lv_aload_n hx hb dX8_fillCell_22 rfl (lv_at hl 0 rfl) ?_
        refine va_get (D := (dC, dI)) (ci := 8) (v := .int months) (C := RX8) (T := TX8) (N := 5) hx hb hts (fun w h => List.mem_cons_of_mem _ (jnGA_X8 w h)) hown hK hP 0 rfl rfl 2 (by decide) (hts _ (List.mem_cons_of_mem _ mGA_783)) (fun _ h9 => h9) rfl dX8_fillCell_23 ?_
        refine lv_icmp_ne (tgt := 33) hx hb dX8_fillCell_26 (by decide) (fun c_285 => ?_) (fun c_285 => ?_)
        · have g_286 : gi p0 0 23 := gi_nele hle_gp0_gmonths c_285 gp0 gmonths (by decide)
          have g_287 : gi p1 0 23 := gi_rel hle_gp1_gp0 gp1 g_286
          refine lv_aload_n hx hb dX8_fillCell_33 rfl (lv_at hl 0 rfl) ?_
          refine lv_iload_n hx hb dX8_fillCell_34 rfl (lv_at hl 1 rfl) ?_
          refine lv_iload_n hx hb dX8_fillCell_35 rfl (lv_at hl 2 rfl) ?_
          refine lv_iload_n hx hb dX8_fillCell_36 rfl (lv_at hl 3 rfl) ?_
          have hPc := hP.sub (ws' := [(h0, .inr (8, [.ref co, .ref le, .int months, .int full, .int lean])), (le, .inl (kle, 3575, .inl z2))]) [0, 2] rfl
          have hKc := hK.sub (tys' := [(kle, .int)]) [1] rfl
          refine va_calli (va_runV (As := [.int p0, .int p1, .int v3]) (rest := []) ⟨hx, hb, hml, hown, hts⟩ (sX8_withFull l dC dI h0 le co months full lean kle z2 p0 p1 v3 gmonths gfull glean g_286 g_287 g_284) (cwV 3 hts (gz_gV mGA_795 mGA_796 mGA_797 mGA_31 mGA_798 goodGA) rfl rfl rfl (by decide +kernel) ⟨Nat.le_trans (Nat.le_of_ble_eq_true rfl) hRf, Nat.le_trans (Nat.le_of_ble_eq_true rfl) hRl⟩) ⟨fun a U g mk q => by obtain ⟨q0, qP, qK, qZ⟩ := q; exact ⟨q0, qP, va_K.moved (u := U) (U := U.calling g mk a) (Vm.Alike.refl U.vm) qK, nzA_same (u := U) (U := U.calling g mk a) rfl qZ⟩, va_recv hKc hPc (ci := 8) (q0 := 0) rfl rfl, fun U hU hW => ⟨rfl, by rw [hU]; exact hPc, va_K.moved hW.alike hKc, nzA_warm hW hz⟩⟩ rfl rfl hl.1 rfl (lv_room (Nat.le_of_ble_eq_true rfl)) dX8_fillCell_37 ⟨hRc, hRs⟩) hS (fun q _ h => h.elim) (fun q h => h.elim) (fun r_288 u t H1 locs ht hvm hw hB hz1 hk1 hS => ?_)
          have hP := gz_keep hP hk1
          generalize H1 = H at hP hS ⊢
          refine lv_aload_n hx hb dX8_fillCell_40 rfl (lv_at hl 0 rfl) ?_
          refine lv_iload_n hx hb dX8_fillCell_41 rfl (lv_at hl 1 rfl) ?_
          refine lv_iload_n hx hb dX8_fillCell_42 rfl (lv_at hl 2 rfl) ?_
          refine lv_iload_n hx hb dX8_fillCell_43 rfl (lv_at hl 3 rfl) ?_
          have hPc := hP.sub (ws' := [(h0, .inr (8, [.ref co, .ref le, .int months, .int full, .int lean])), (le, .inl (kle, 3575, .inl z2))]) [0, 2] rfl
          have hKc := hK.sub (tys' := [(kle, .int)]) [1] rfl
          refine va_calli (va_runV (As := [.int p0, .int p1, .int v3]) (rest := [.int r_288]) ⟨hx, hb, hml, hown, hts⟩ (sX8_withLean l dC dI h0 le co months full lean kle z2 p0 p1 v3 gmonths gfull glean g_286 (gi_w g_287 (by decide)) g_284) (cwV 3 hts (gz_gV mGA_799 mGA_800 mGA_801 mGA_31 mGA_802 goodGA) rfl rfl rfl (by decide +kernel) ⟨Nat.le_trans (Nat.le_of_ble_eq_true rfl) hRf, Nat.le_trans (Nat.le_of_ble_eq_true rfl) hRl⟩) ⟨fun a U g mk q => by obtain ⟨q0, qP, qK, qZ⟩ := q; exact ⟨q0, qP, va_K.moved (u := U) (U := U.calling g mk a) (Vm.Alike.refl U.vm) qK, nzA_same (u := U) (U := U.calling g mk a) rfl qZ⟩, va_recv hKc hPc (ci := 8) (q0 := 0) rfl rfl, fun U hU hW => ⟨rfl, by rw [hU]; exact hPc, va_K.moved hW.alike hKc, nzA_warm hW hz⟩⟩ rfl rfl hl.1 rfl (lv_room (Nat.le_of_ble_eq_true rfl)) dX8_fillCell_44 ⟨hRc, hRs⟩) hS (fun q _ h => h.elim) (fun q h => h.elim) (fun r_289 u t H1 locs ht hvm hw hB hz1 hk1 hS => ?_)
          have hP := gz_keep hP hk1
          generalize H1 = H at hP hS ⊢
          refine va_mmin (own := RX8) hx hb (by rw [hml]; exact hl.1.symm) hown (hts _ (List.mem_cons_of_mem _ mGA_794)) (hts _ (List.mem_cons_of_mem _ mGA_268)) (hts _ (List.mem_cons_of_mem _ mGA_269)) (hts _ (List.mem_cons_of_mem _ mGA_270)) (Nat.le_trans (Nat.le_of_ble_eq_true rfl) hRf) (Nat.le_trans (Nat.le_of_ble_eq_true rfl) hRl) hRc hRs dX8_fillCell_47 ?_
          refine lv_topi (fun x_290 ex_290 => ?_)
          refine lv_istore (lv' := [(4, .int x_290), (0, .ref h0), (1, .int p0), (2, .int p1), (3, .int v3)]) hx hb dX8_fillCell_50 hl (by decide) rfl (fun ls hl => ?_)
          refine lv_iload hx hb dX8_fillCell_52 (lv_at hl 0 rfl) ?_
          refine lv_ldc (own := RX8) (v := 1000000) hx hb hown (hts _ (List.mem_cons_of_mem _ mGA_788)) dX8_fillCell_54 ?_
          refine lv_icmp_ge (tgt := 83) hx hb dX8_fillCell_56 (by decide) (fun c_291 => ?_) (fun c_291 => ?_)
          · have g_292 : gi x_290 1000000 2147483647 := gi_le_r c_291 (gi_c 1000000 1000000 (by decide)) (gi_any x_290)
            obtain ⟨x_293, ex_293⟩ : ∃ y : Int32, y = v3 + 1 := ⟨_, rfl⟩
            have gx_293 : gi x_293 1 11 := gi_add ex_293 g_284 (gi_c 1 1 (by decide)) (by decide)
            refine lv_iinc (v := x_293) (lv' := [(3, .int x_293), (4, .int x_290), (0, .ref h0), (1, .int p0), (2, .int p1)]) hx hb dX8_fillCell_83 hl (k := 4) rfl (by rw [ex_293]; rfl) (by decide) rfl (fun ls hl => ?_)
            refine lv_goto (tgt := 5) hx hb dX8_fillCell_86 (by decide) ?_
            exact ih x_293 z2 _ _ _ (gi_w gx_293 (by decide)) (by have av3 := gv3.1; have bv3 := gv3.2; have qgx_293 := gx_293.1; have rgx_293 := gx_293.2; have igx_293 : x_293.toInt = v3.toInt + 1 := (by have hc1 : (1 : Int32).toInt = 1 := (by decide); have h9 := gi_addI ex_293 (by have h1 := g_284.1; have h2 := (gi_c 1 1 (by decide)).1; have h3 := g_284.2; have h4 := (gi_c 1 1 (by decide)).2; omega) (by have h1 := g_284.1; have h2 := (gi_c 1 1 (by decide)).1; have h3 := g_284.2; have h4 := (gi_c 1 1 (by decide)).2; omega); rw [hc1] at h9; exact h9); have qgv3 := g_284.1; have rgv3 := g_284.2; omega) hP hD hS (lv_sub hl [2, 3, 4, 0] rfl)
          · have g_294 : gi x_290 (-2147483648) 999999 := gi_lt_l (Int32.not_le.mp c_291) (gi_any x_290) (gi_c 1000000 1000000 (by decide)) (by decide)
            refine lv_aload_n hx hb dX8_fillCell_59 rfl (lv_at hl 1 rfl) ?_
            refine va_get (D := (dC, dI)) (ci := 8) (v := .ref le) (C := RX8) (T := TX8) (N := 5) hx hb hts (fun w h => List.mem_cons_of_mem _ (jnGA_X8 w h)) hown hK hP 0 rfl rfl 1 (by decide) (hts _ (List.mem_cons_of_mem _ mGA_118)) (fun _ h9 => h9) rfl dX8_fillCell_60 ?_
            refine lv_iload_n hx hb dX8_fillCell_63 rfl (lv_at hl 2 rfl) ?_
            refine lv_iload_n hx hb dX8_fillCell_64 rfl (lv_at hl 3 rfl) ?_
            refine lv_iload_n hx hb dX8_fillCell_65 rfl (lv_at hl 4 rfl) ?_
            have hPc := hP.sub (ws' := []) [] rfl
            have hKc := hK.sub (tys' := []) [] rfl
            refine va_calli (va_runSN (As := [.int p0, .int p1, .int v3]) (rest := [.ref le]) ⟨hx, hb, hml, hown, hts⟩ (sX11_spot l dC dI p0 p1 v3 (gi_w g_286 (by decide)) (gi_w g_287 (by decide)) g_284) (⟨va_cnB 3 hts (gz_gP mGA_582 goodGA) rfl rfl rfl (nzA_X8_71 hz) (hts _ (List.mem_cons_of_mem _ mGA_1)) (by decide +kernel) ⟨Nat.le_trans (Nat.le_of_ble_eq_true rfl) hRf, Nat.le_trans (Nat.le_of_ble_eq_true rfl) hRl⟩, (hts _ (List.mem_cons_of_mem _ mGA_581)), trivial⟩) ⟨fun a U g mk q => by obtain ⟨q0, qP, qK, qZ⟩ := q; exact ⟨q0, qP, va_K.moved (u := U) (U := U.calling g mk a) (Vm.Alike.refl U.vm) qK, nzA_same (u := U) (U := U.calling g mk a) rfl qZ⟩, fun U hU hW => ⟨rfl, by rw [hU]; exact hPc, va_K.moved hW.alike hKc, nzA_warm hW hz⟩⟩ rfl rfl hl.1 rfl (lv_room (Nat.le_of_ble_eq_true rfl)) dX8_fillCell_66 ⟨hRc, hRs⟩) hS (fun q _ h => h.elim) (fun q h => h.elim) (fun r_295 u t H1 locs ht hvm hw hB hz1 hk1 hS => ?_)
            have hP := gz_keep hP hk1
            generalize H1 = H at hP hS ⊢
            have gr_295 : gi r_295 0 3574 := hw
            refine lv_iload hx hb dX8_fillCell_69 (lv_at hl 0 rfl) ?_
            refine lv_aload_n hx hb dX8_fillCell_71 rfl (lv_at hl 1 rfl) ?_
            refine va_get (D := (dC, dI)) (ci := 8) (v := .ref co) (C := RX8) (T := TX8) (N := 5) hx hb hts (fun w h => List.mem_cons_of_mem _ (jnGA_X8 w h)) hown hK hP 0 rfl rfl 0 (by decide) (hts _ (List.mem_cons_of_mem _ mGA_117)) (fun _ h9 => h9) rfl dX8_fillCell_72 ?_
            refine lv_iload_n hx hb dX8_fillCell_75 rfl (lv_at hl 2 rfl) ?_
            refine lv_iload_n hx hb dX8_fillCell_76 rfl (lv_at hl 3 rfl) ?_
            have hPc := hP.sub (ws' := []) [] rfl
            have hKc := hK.sub (tys' := []) [] rfl
            refine va_calli (va_runSN (As := [.int p0, .int p1]) (rest := [.ref co, .int x_290, .int r_295, .ref le]) ⟨hx, hb, hml, hown, hts⟩ (sX11_cell l dC dI p0 p1 (gi_w g_286 (by decide)) (gi_w g_287 (by decide))) (⟨va_cnB 2 hts (gz_gP mGA_585 goodGA) rfl rfl rfl (nzA_X8_24 hz) (hts _ (List.mem_cons_of_mem _ mGA_1)) (by decide +kernel) ⟨Nat.le_trans (Nat.le_of_ble_eq_true rfl) hRf, Nat.le_trans (Nat.le_of_ble_eq_true rfl) hRl⟩, (hts _ (List.mem_cons_of_mem _ mGA_584)), trivial⟩) ⟨fun a U g mk q => by obtain ⟨q0, qP, qK, qZ⟩ := q; exact ⟨q0, qP, va_K.moved (u := U) (U := U.calling g mk a) (Vm.Alike.refl U.vm) qK, nzA_same (u := U) (U := U.calling g mk a) rfl qZ⟩, fun U hU hW => ⟨rfl, by rw [hU]; exact hPc, va_K.moved hW.alike hKc, nzA_warm hW hz⟩⟩ rfl rfl hl.1 rfl (lv_room (Nat.le_of_ble_eq_true rfl)) dX8_fillCell_77 ⟨hRc, hRs⟩) hS (fun q _ h => h.elim) (fun q h => h.elim) (fun r_296 u t H1 locs ht hvm hw hB hz1 hk1 hS => ?_)
            have hP := gz_keep hP hk1
            generalize H1 = H at hP hS ⊢
            have gr_296 : gi r_296 0 324 := hw
            refine va_iald hx hb hK hP 1 0 rfl rfl (gi_in gr_296 (by decide)) dX8_fillCell_80 ?_
            refine lv_topi (fun x_297 ex_297 => ?_)
            refine lv_iadd hx hb dX8_fillCell_81 ?_
            refine lv_topi (fun x_298 ex_298 => ?_)
            refine va_iast hx hb hK hP hD hS 2 1 rfl rfl (gi_in gr_295 (by decide)) dX8_fillCell_82 (fun H locs hP hD hS => ?_)
            have hP : va_P (dC, dI) vwCl [(h0, .inr (8, [.ref co, .ref le, .int months, .int full, .int lean])), (co, .inl (kco, 325, .inl fco)), (le, .inl (kle, 3575, .inl (upd z2 (r_295 : Int32).toNatClampNeg x_298)))] H := hP
            have hD : va_D A [(h0, .inr (8, [.ref co, .ref le, .int months, .int full, .int lean])), (co, .inl (kco, 325, .inl fco)), (le, .inl (kle, 3575, .inl (upd z2 (r_295 : Int32).toNatClampNeg x_298)))] := hD
            generalize upd z2 (r_295 : Int32).toNatClampNeg x_298 = f_299 at hP hD
            obtain ⟨x_300, ex_300⟩ : ∃ y : Int32, y = v3 + 1 := ⟨_, rfl⟩
            have gx_300 : gi x_300 1 11 := gi_add ex_300 g_284 (gi_c 1 1 (by decide)) (by decide)
            refine lv_iinc (v := x_300) (lv' := [(3, .int x_300), (4, .int x_290), (0, .ref h0), (1, .int p0), (2, .int p1)]) hx hb dX8_fillCell_83 hl (k := 4) rfl (by rw [ex_300]; rfl) (by decide) rfl (fun ls hl => ?_)
            refine lv_goto (tgt := 5) hx hb dX8_fillCell_86 (by decide) ?_
            exact ih x_300 f_299 _ _ _ (gi_w gx_300 (by decide)) (by have av3 := gv3.1; have bv3 := gv3.2; have qgx_300 := gx_300.1; have rgx_300 := gx_300.2; have igx_300 : x_300.toInt = v3.toInt + 1 := (by have hc1 : (1 : Int32).toInt = 1 := (by decide); have h9 := gi_addI ex_300 (by have h1 := g_284.1; have h2 := (gi_c 1 1 (by decide)).1; have h3 := g_284.2; have h4 := (gi_c 1 1 (by decide)).2; omega) (by have h1 := g_284.1; have h2 := (gi_c 1 1 (by decide)).1; have h3 := g_284.2; have h4 := (gi_c 1 1 (by decide)).2; omega); rw [hc1] at h9; exact h9); have qgv3 := g_284.1; have rgv3 := g_284.2; omega) hP hD hS (lv_sub hl [2, 3, 4, 0] rfl)
        · refine lv_iconst (v := 0) hx hb dX8_fillCell_29 (by decide) ?_
          refine lv_goto (tgt := 50) hx hb dX8_fillCell_30 (by decide) ?_
          refine lv_istore (lv' := [(4, .int 0), (0, .ref h0), (1, .int p0), (2, .int p1), (3, .int v3)]) hx hb dX8_fillCell_50 hl (by decide) rfl (fun ls hl => ?_)
          refine lv_iload hx hb dX8_fillCell_52 (lv_at hl 0 rfl) ?_
          refine lv_ldc (own := RX8) (v := 1000000) hx hb hown (hts _ (List.mem_cons_of_mem _ mGA_788)) dX8_fillCell_54 ?_
          refine lv_icmp_ge (tgt := 83) hx hb dX8_fillCell_56 (by decide) (fun c_301 => absurd c_301 (gi_no_le (gi_c 1000000 1000000 (by decide)) (gi_c 0 0 (by decide)) (by decide))) (fun c_301 => ?_)
          refine lv_aload_n hx hb dX8_fillCell_59 rfl (lv_at hl 1 rfl) ?_
          refine va_get (D := (dC, dI)) (ci := 8) (v := .ref le) (C := RX8) (T := TX8) (N := 5) hx hb hts (fun w h => List.mem_cons_of_mem _ (jnGA_X8 w h)) hown hK hP 0 rfl rfl 1 (by decide) (hts _ (List.mem_cons_of_mem _ mGA_118)) (fun _ h9 => h9) rfl dX8_fillCell_60 ?_
          refine lv_iload_n hx hb dX8_fillCell_63 rfl (lv_at hl 2 rfl) ?_
          refine lv_iload_n hx hb dX8_fillCell_64 rfl (lv_at hl 3 rfl) ?_
          refine lv_iload_n hx hb dX8_fillCell_65 rfl (lv_at hl 4 rfl) ?_
          have hPc := hP.sub (ws' := []) [] rfl
          have hKc := hK.sub (tys' := []) [] rfl
          refine va_calli (va_runSN (As := [.int p0, .int p1, .int v3]) (rest := [.ref le]) ⟨hx, hb, hml, hown, hts⟩ (sX11_spot l dC dI p0 p1 v3 gp0 gp1 g_284) (⟨va_cnB 3 hts (gz_gP mGA_582 goodGA) rfl rfl rfl (nzA_X8_71 hz) (hts _ (List.mem_cons_of_mem _ mGA_1)) (by decide +kernel) ⟨Nat.le_trans (Nat.le_of_ble_eq_true rfl) hRf, Nat.le_trans (Nat.le_of_ble_eq_true rfl) hRl⟩, (hts _ (List.mem_cons_of_mem _ mGA_581)), trivial⟩) ⟨fun a U g mk q => by obtain ⟨q0, qP, qK, qZ⟩ := q; exact ⟨q0, qP, va_K.moved (u := U) (U := U.calling g mk a) (Vm.Alike.refl U.vm) qK, nzA_same (u := U) (U := U.calling g mk a) rfl qZ⟩, fun U hU hW => ⟨rfl, by rw [hU]; exact hPc, va_K.moved hW.alike hKc, nzA_warm hW hz⟩⟩ rfl rfl hl.1 rfl (lv_room (Nat.le_of_ble_eq_true rfl)) dX8_fillCell_66 ⟨hRc, hRs⟩) hS (fun q _ h => h.elim) (fun q h => h.elim) (fun r_302 u t H1 locs ht hvm hw hB hz1 hk1 hS => ?_)
          have hP := gz_keep hP hk1
          generalize H1 = H at hP hS ⊢
          have gr_302 : gi r_302 0 3574 := hw
          refine lv_iload hx hb dX8_fillCell_69 (lv_at hl 0 rfl) ?_
          refine lv_aload_n hx hb dX8_fillCell_71 rfl (lv_at hl 1 rfl) ?_
          refine va_get (D := (dC, dI)) (ci := 8) (v := .ref co) (C := RX8) (T := TX8) (N := 5) hx hb hts (fun w h => List.mem_cons_of_mem _ (jnGA_X8 w h)) hown hK hP 0 rfl rfl 0 (by decide) (hts _ (List.mem_cons_of_mem _ mGA_117)) (fun _ h9 => h9) rfl dX8_fillCell_72 ?_
          refine lv_iload_n hx hb dX8_fillCell_75 rfl (lv_at hl 2 rfl) ?_
          refine lv_iload_n hx hb dX8_fillCell_76 rfl (lv_at hl 3 rfl) ?_
          have hPc := hP.sub (ws' := []) [] rfl
          have hKc := hK.sub (tys' := []) [] rfl
          refine va_calli (va_runSN (As := [.int p0, .int p1]) (rest := [.ref co, .int 0, .int r_302, .ref le]) ⟨hx, hb, hml, hown, hts⟩ (sX11_cell l dC dI p0 p1 gp0 gp1) (⟨va_cnB 2 hts (gz_gP mGA_585 goodGA) rfl rfl rfl (nzA_X8_24 hz) (hts _ (List.mem_cons_of_mem _ mGA_1)) (by decide +kernel) ⟨Nat.le_trans (Nat.le_of_ble_eq_true rfl) hRf, Nat.le_trans (Nat.le_of_ble_eq_true rfl) hRl⟩, (hts _ (List.mem_cons_of_mem _ mGA_584)), trivial⟩) ⟨fun a U g mk q => by obtain ⟨q0, qP, qK, qZ⟩ := q; exact ⟨q0, qP, va_K.moved (u := U) (U := U.calling g mk a) (Vm.Alike.refl U.vm) qK, nzA_same (u := U) (U := U.calling g mk a) rfl qZ⟩, fun U hU hW => ⟨rfl, by rw [hU]; exact hPc, va_K.moved hW.alike hKc, nzA_warm hW hz⟩⟩ rfl rfl hl.1 rfl (lv_room (Nat.le_of_ble_eq_true rfl)) dX8_fillCell_77 ⟨hRc, hRs⟩) hS (fun q _ h => h.elim) (fun q h => h.elim) (fun r_303 u t H1 locs ht hvm hw hB hz1 hk1 hS => ?_)
          have hP := gz_keep hP hk1
          generalize H1 = H at hP hS ⊢
          have gr_303 : gi r_303 0 324 := hw
          refine va_iald hx hb hK hP 1 0 rfl rfl (gi_in gr_303 (by decide)) dX8_fillCell_80 ?_
          refine lv_topi (fun x_304 ex_304 => ?_)
          refine lv_iadd hx hb dX8_fillCell_81 ?_
          refine lv_topi (fun x_305 ex_305 => ?_)
          refine va_iast hx hb hK hP hD hS 2 1 rfl rfl (gi_in gr_302 (by decide)) dX8_fillCell_82 (fun H locs hP hD hS => ?_)
          have hP : va_P (dC, dI) vwCl [(h0, .inr (8, [.ref co, .ref le, .int months, .int full, .int lean])), (co, .inl (kco, 325, .inl fco)), (le, .inl (kle, 3575, .inl (upd z2 (r_302 : Int32).toNatClampNeg x_305)))] H := hP
          have hD : va_D A [(h0, .inr (8, [.ref co, .ref le, .int months, .int full, .int lean])), (co, .inl (kco, 325, .inl fco)), (le, .inl (kle, 3575, .inl (upd z2 (r_302 : Int32).toNatClampNeg x_305)))] := hD
          generalize upd z2 (r_302 : Int32).toNatClampNeg x_305 = f_306 at hP hD
          obtain ⟨x_307, ex_307⟩ : ∃ y : Int32, y = v3 + 1 := ⟨_, rfl⟩
          have gx_307 : gi x_307 1 11 := gi_add ex_307 g_284 (gi_c 1 1 (by decide)) (by decide)
          refine lv_iinc (v := x_307) (lv' := [(3, .int x_307), (4, .int 0), (0, .ref h0), (1, .int p0), (2, .int p1)]) hx hb dX8_fillCell_83 hl (k := 4) rfl (by rw [ex_307]; rfl) (by decide) rfl (fun ls hl => ?_)
          refine lv_goto (tgt := 5) hx hb dX8_fillCell_86 (by decide) ?_
          exact ih x_307 f_306 _ _ _ (gi_w gx_307 (by decide)) (by have av3 := gv3.1; have bv3 := gv3.2; have qgx_307 := gx_307.1; have rgx_307 := gx_307.2; have igx_307 : x_307.toInt = v3.toInt + 1 := (by have hc1 : (1 : Int32).toInt = 1 := (by decide); have h9 := gi_addI ex_307 (by have h1 := g_284.1; have h2 := (gi_c 1 1 (by decide)).1; have h3 := g_284.2; have h4 := (gi_c 1 1 (by decide)).2; omega) (by have h1 := g_284.1; have h2 := (gi_c 1 1 (by decide)).1; have h3 := g_284.2; have h4 := (gi_c 1 1 (by decide)).2; omega); rw [hc1] at h9; exact h9); have qgv3 := g_284.1; have rgv3 := g_284.2; omega) hP hD hS (lv_sub hl [2, 3, 4, 0] rfl)
set_option maxHeartbeats 4000000 in
set_option maxRecDepth 100000 in
theorem sX8_fillCell (l : Launch) (dC : Nat → ClassId) (dI : Nat → Nat → Nat) (sz : Nat) (h0 : Nat) (co : Nat) (le : Nat) (months : Int32) (full : Int32) (lean : Int32) (kco : ClassId) (fco : Nat → Int32) (kle : ClassId) (fle : Nat → Int32) (p0 : Int32) (p1 : Int32) (gmonths : gi months 0 24) (gfull : gi full 0 5) (glean : gi lean 0 5) (gp0 : gi p0 0 24) (gp1 : gi p1 0 24) (hle_gp0_gmonths : p0.toInt ≤ months.toInt) (hle_gp1_gp0 : p1.toInt ≤ p0.toInt) : Met l yX8_fillCell (.code yX8_fillCell cX8_fillCell 5 none :: wsGA) ({ frames := 3, cells := 0, slots := 0, locals := 66 }) (va_Pc [.ref h0, .int p0, .int p1] (fun U => U.heap.size = sz ∧ va_P (dC, dI) vwCl [(h0, .inr (8, [.ref co, .ref le, .int months, .int full, .int lean])), (co, .inl (kco, 325, .inl fco)), (le, .inl (kle, 3575, .inl fle))] U.heap ∧ va_K (dC, dI) vwCl [(kco, .int), (kle, .int)] U ∧ va_D (fun _ => True) [(h0, .inr (8, [.ref co, .ref le, .int months, .int full, .int lean])), (co, .inl (kco, 325, .inl fco)), (le, .inl (kle, 3575, .inl fle))] ∧ nzA U)) (va_Qv (fun (u : Unit) => True) (fun _ t => ∃ (z2 : Nat → Int32), va_P (dC, dI) vwCl [(h0, .inr (8, [.ref co, .ref le, .int months, .int full, .int lean])), (co, .inl (kco, 325, .inl fco)), (le, .inl (kle, 3575, .inl z2))] t.heap ∧ va_D (va_A [(h0, .inr (8, [.ref co, .ref le, .int months, .int full, .int lean])), (co, .inl (kco, 325, .inl fco)), (le, .inl (kle, 3575, .inl fle))] sz) [(h0, .inr (8, [.ref co, .ref le, .int months, .int full, .int lean])), (co, .inl (kco, 325, .inl fco)), (le, .inl (kle, 3575, .inl z2))]) (va_A [(h0, .inr (8, [.ref co, .ref le, .int months, .int full, .int lean])), (co, .inl (kco, 325, .inl fco)), (le, .inl (kle, 3575, .inl fle))] sz)) 0 0 (va_A [(h0, .inr (8, [.ref co, .ref le, .int months, .int full, .int lean])), (co, .inl (kco, 325, .inl fco)), (le, .inl (kle, 3575, .inl fle))] sz) := by
  refine Met.ofW (cc := cX8_fillCell) (maxL := 5) (ret := none) (by decide) rfl ?_
  intro p e s m args below meth c s₁ B hml hv
  obtain ⟨rfl, hsz, hP, hK, hD0, hz⟩ := hv
  have hx := B.exec
  have hb := B.bytes
  have hr := B.returns
  have hts := atoms_spec (ws := (.code yX8_fillCell cX8_fillCell 5 none :: wsGA)) B.pre
  have hown : s.vm.findClass RX8 = some m.cls := findClass_of_methodNamed B.named
  have hlocks := B.notSynchronized
  subst hsz
  have hD := hD0.self (sz := s.heap.size)
  generalize hAe : va_A [(h0, .inr (8, [.ref co, .ref le, .int months, .int full, .int lean])), (co, .inl (kco, 325, .inl fco)), (le, .inl (kle, 3575, .inl fle))] s.heap.size = A at hD ⊢
  have hA : ∀ q : Nat, s.heap.size ≤ q → A q := fun q h => by rw [← hAe]; exact Or.inr h
  have hS : va_S A s.heap s.heap [] := va_S.rf
  have hl := lv_entry ([.ref h0, .int p0, .int p1]) (n := 5) (Nat.le_of_ble_eq_true rfl)
  rw [lg_entry_eq]
  generalize (lg_sl ([.ref h0, .int p0, .int p1]) ++ List.replicate (5 - (lg_sl ([.ref h0, .int p0, .int p1])).length) Slot.unset).toArray = ls at hl ⊢
  have hl : lv_has ls 5 [(0, .ref h0), (1, .int p0), (2, .int p1)] := hl
  refine lv_iload_n hx hb dX8_fillCell_0 rfl (lv_at hl 1 rfl) ?_
  have hPc := hP.sub (ws' := []) [] rfl
  have hKc := hK.sub (tys' := []) [] rfl
  refine va_calli (va_runSN (As := [.int p0]) (rest := []) ⟨hx, hb, hml, hown, hts⟩ (sX11_firstRun l dC dI p0 gp0) (⟨va_cnB 1 hts (gz_gP mGA_504 goodGA) rfl rfl rfl (nzA_X8_52 hz) (hts _ (List.mem_cons_of_mem _ mGA_1)) (by decide +kernel) ⟨Nat.le_of_ble_eq_true rfl, Nat.le_of_ble_eq_true rfl⟩, (hts _ (List.mem_cons_of_mem _ mGA_503)), trivial⟩) ⟨fun a U g mk q => by obtain ⟨q0, qP, qK, qZ⟩ := q; exact ⟨q0, qP, va_K.moved (u := U) (U := U.calling g mk a) (Vm.Alike.refl U.vm) qK, nzA_same (u := U) (U := U.calling g mk a) rfl qZ⟩, fun U hU hW => ⟨rfl, by rw [hU]; exact hPc, va_K.moved hW.alike hKc, nzA_warm hW hz⟩⟩ rfl rfl hl.1 rfl (lv_room (Nat.le_of_ble_eq_true rfl)) dX8_fillCell_1 ⟨Nat.zero_le _, Nat.zero_le _⟩) hS (fun q _ h => h.elim) (fun q h => h.elim) (fun r_308 u t H1 locs ht hvm hw hB hz1 hk1 hS => ?_)
  have hP := gz_keep hP hk1
  generalize H1 = H at hP hS ⊢
  have gr_308 : gi r_308 0 1 := hw
  refine lv_istore_n (lv' := [(3, .int r_308), (0, .ref h0), (1, .int p0), (2, .int p1)]) hx hb dX8_fillCell_4 rfl hl (by decide) rfl (fun ls hl => ?_)
  refine (lp_sX8_fillCell h0 co le months full lean kco fco kle fle p0 p1 gmonths gfull glean gp0 gp1 hle_gp0_gmonths hle_gp1_gp0 hx hb hml hown hts hK hz hA (Nat.le_of_ble_eq_true rfl) (Nat.le_of_ble_eq_true rfl) (Nat.zero_le _) (Nat.zero_le _) (fun z2 H locs ls hP hD hS hl => ?_) 36) r_308 fle _ _ _ (gi_w gr_308 (by decide)) (by have qgr_308 := gr_308.1; have rgr_308 := gr_308.2; omega) hP hD hS (lv_sub hl [1, 2, 3, 0] rfl)
  · skip
    exact W.vret hx hb hr (fun t ht hW => ⟨⟨(), rfl, trivial, z2, by rw [ht]; exact hP, hD⟩, hS.F ht⟩) hS.2.2 dX8_fillCell_89
theorem dX8_run_0 : decode cX8_run 0 = .ok (.aload_n 0, 1) := by decide +kernel
theorem dX8_run_1 : decode cX8_run 1 = .ok (.aload_n 1, 1) := by decide +kernel
theorem dX8_run_2 : decode cX8_run 2 = .ok (.getfield 28, 3) := by decide +kernel
theorem dX8_run_5 : decode cX8_run 5 = .ok (.putfield 34, 3) := by decide +kernel
theorem dX8_run_8 : decode cX8_run 8 = .ok (.aload_n 0, 1) := by decide +kernel
theorem dX8_run_9 : decode cX8_run 9 = .ok (.aload_n 1, 1) := by decide +kernel
theorem dX8_run_10 : decode cX8_run 10 = .ok (.getfield 35, 3) := by decide +kernel
theorem dX8_run_13 : decode cX8_run 13 = .ok (.putfield 38, 3) := by decide +kernel
theorem dX8_run_16 : decode cX8_run 16 = .ok (.aload_n 0, 1) := by decide +kernel
theorem dX8_run_17 : decode cX8_run 17 = .ok (.aload_n 1, 1) := by decide +kernel
theorem dX8_run_18 : decode cX8_run 18 = .ok (.getfield 39, 3) := by decide +kernel
theorem dX8_run_21 : decode cX8_run 21 = .ok (.putfield 42, 3) := by decide +kernel
theorem dX8_run_24 : decode cX8_run 24 = .ok (.aload_n 0, 1) := by decide +kernel
theorem dX8_run_25 : decode cX8_run 25 = .ok (.getfield 15, 3) := by decide +kernel
theorem dX8_run_28 : decode cX8_run 28 = .ok (.ldc 43, 2) := by decide +kernel
theorem dX8_run_30 : decode cX8_run 30 = .ok (.invokestatic 18, 3) := by decide +kernel
theorem dX8_run_33 : decode cX8_run 33 = .ok (.aload_n 0, 1) := by decide +kernel
theorem dX8_run_34 : decode cX8_run 34 = .ok (.getfield 34, 3) := by decide +kernel
theorem dX8_run_37 : decode cX8_run 37 = .ok (.istore_n 2, 1) := by decide +kernel
theorem dX8_run_38 : decode cX8_run 38 = .ok (.iload_n 2, 1) := by decide +kernel
theorem dX8_run_39 : decode cX8_run 39 = .ok (.ifCond .lt 37, 3) := by decide +kernel
theorem dX8_run_42 : decode cX8_run 42 = .ok (.iconst 0, 1) := by decide +kernel
theorem dX8_run_43 : decode cX8_run 43 = .ok (.istore_n 3, 1) := by decide +kernel
theorem dX8_run_44 : decode cX8_run 44 = .ok (.iload_n 3, 1) := by decide +kernel
theorem dX8_run_45 : decode cX8_run 45 = .ok (.iload_n 2, 1) := by decide +kernel
theorem dX8_run_46 : decode cX8_run 46 = .ok (.if_icmp .gt 24, 3) := by decide +kernel
theorem dX8_run_49 : decode cX8_run 49 = .ok (.aload_n 1, 1) := by decide +kernel
theorem dX8_run_50 : decode cX8_run 50 = .ok (.iload_n 2, 1) := by decide +kernel
theorem dX8_run_51 : decode cX8_run 51 = .ok (.iload_n 3, 1) := by decide +kernel
theorem dX8_run_52 : decode cX8_run 52 = .ok (.invokevirtual 44, 3) := by decide +kernel
theorem dX8_run_55 : decode cX8_run 55 = .ok (.ifCond .eq 9, 3) := by decide +kernel
theorem dX8_run_58 : decode cX8_run 58 = .ok (.aload_n 0, 1) := by decide +kernel
theorem dX8_run_59 : decode cX8_run 59 = .ok (.iload_n 2, 1) := by decide +kernel
theorem dX8_run_60 : decode cX8_run 60 = .ok (.iload_n 3, 1) := by decide +kernel
theorem dX8_run_61 : decode cX8_run 61 = .ok (.invokevirtual 48, 3) := by decide +kernel
theorem dX8_run_64 : decode cX8_run 64 = .ok (.iinc 3 1, 3) := by decide +kernel
theorem dX8_run_67 : decode cX8_run 67 = .ok (.goto (-23), 3) := by decide +kernel
theorem dX8_run_70 : decode cX8_run 70 = .ok (.iinc 2 (-1), 3) := by decide +kernel
theorem dX8_run_73 : decode cX8_run 73 = .ok (.goto (-35), 3) := by decide +kernel
theorem dX8_run_76 : decode cX8_run 76 = .ok (.return_, 1) := by decide +kernel
set_option maxHeartbeats 4000000 in
set_option maxRecDepth 100000 in
theorem lp_sX8_run {p : Program} {l : Launch} {e : Env} {R : Room} {s : State} {m : MethodId} {args : Array Value} {below : List Frame} {meth : Method} {c : Code} {Q : State → Prop} {A : Nat → Prop} {cells slots : Nat} {dC : Nat → ClassId} {dI : Nat → Nat → Nat} (h0 : Nat) (co : Nat) (le : Nat) (fr : Nat) (fral : Nat) (months : Int32) (full : Int32) (lean : Int32) (kco : ClassId) (fco : Nat → Int32) (kle : ClassId) (fle : Nat → Int32) (frmonths : Int32) (frfull : Int32) (frlean : Int32) (fron : Nat) (kfral : ClassId) (ffral : Nat → Int32) (gmonths : gi months 0 24) (gfull : gi full 0 5) (glean : gi lean 0 5) (gfrmonths : gi frmonths 0 24) (gfrfull : gi frfull 0 5) (gfrlean : gi frlean 0 5) (hx : p.tables.exec = Jvm.exec) (hb : c.code = cX8_run) (hml : c.maxLocals = 4) (hown : s.vm.findClass RX8 = some m.cls) (hts : ∀ w ∈ ((.code yX8_run cX8_run 4 none :: wsGA) : List Cond), w.before args s = true) (hK : va_K (dC, dI) vwCl [(kco, .int), (kle, .int), (kfral, .int)] s) (hz : nzA s) (hA : ∀ q : Nat, s.heap.size ≤ q → A q) (hRf : 4 ≤ R.frames) (hRl : 90 ≤ R.locals) (hRc : cells ≤ R.cells) (hRs : slots ≤ R.slots) (kr76 : ∀ (w0_2 : Int32) (w0_3 : Int32) (w0_4 : Int32) (z2 : Nat → Int32) (H : Heap) (locs : List Loc) (ls : Array Slot), gi w0_2 0 24 → gi w0_3 0 5 → gi w0_4 0 5 → va_P (dC, dI) vwCl [(h0, .inr (8, [.ref co, .ref le, .int w0_2, .int w0_3, .int w0_4])), (co, .inl (kco, 325, .inl fco)), (le, .inl (kle, 3575, .inl z2)), (fr, .inr (3, [.int frmonths, .int frfull, .int frlean, .ref fral, .ref fron])), (fral, .inl (kfral, 25, .inl ffral))] H → va_D A [(h0, .inr (8, [.ref co, .ref le, .int w0_2, .int w0_3, .int w0_4])), (co, .inl (kco, 325, .inl fco)), (le, .inl (kle, 3575, .inl z2)), (fr, .inr (3, [.int frmonths, .int frfull, .int frlean, .ref fral, .ref fron])), (fral, .inl (kfral, 25, .inl ffral))] → va_S A s.heap H locs → lv_has ls 4 [] → W p l e R s m args below meth c H locs cells slots Q (F0 m 76 ls [])) : ∀ z : Nat, (∀ (v2 : Int32) (w0_2 : Int32) (w0_3 : Int32) (w0_4 : Int32) (z2 : Nat → Int32) (H : Heap) (locs : List Loc) (ls : Array Slot), gi v2 (-1) 24 → gi w0_2 0 24 → gi w0_3 0 5 → gi w0_4 0 5 → v2.toInt ≤ w0_2.toInt → 57 + 56 * v2.toInt < (z : Int) → va_P (dC, dI) vwCl [(h0, .inr (8, [.ref co, .ref le, .int w0_2, .int w0_3, .int w0_4])), (co, .inl (kco, 325, .inl fco)), (le, .inl (kle, 3575, .inl z2)), (fr, .inr (3, [.int frmonths, .int frfull, .int frlean, .ref fral, .ref fron])), (fral, .inl (kfral, 25, .inl ffral))] H → va_D A [(h0, .inr (8, [.ref co, .ref le, .int w0_2, .int w0_3, .int w0_4])), (co, .inl (kco, 325, .inl fco)), (le, .inl (kle, 3575, .inl z2)), (fr, .inr (3, [.int frmonths, .int frfull, .int frlean, .ref fral, .ref fron])), (fral, .inl (kfral, 25, .inl ffral))] → va_S A s.heap H locs → lv_has ls 4 [(0, .ref h0), (1, .ref fr), (2, .int v2)] → W p l e R s m args below meth c H locs cells slots Q (F0 m 38 ls [])) ∧ (∀ (v2 : Int32) (v3 : Int32) (w0_2 : Int32) (w0_3 : Int32) (w0_4 : Int32) (z2 : Nat → Int32) (H : Heap) (locs : List Loc) (ls : Array Slot), gi v2 0 24 → gi v3 0 25 → gi w0_2 0 24 → gi w0_3 0 5 → gi w0_4 0 5 → v2.toInt ≤ w0_2.toInt → 52 + 56 * v2.toInt + (-2) * v3.toInt < (z : Int) → va_P (dC, dI) vwCl [(h0, .inr (8, [.ref co, .ref le, .int w0_2, .int w0_3, .int w0_4])), (co, .inl (kco, 325, .inl fco)), (le, .inl (kle, 3575, .inl z2)), (fr, .inr (3, [.int frmonths, .int frfull, .int frlean, .ref fral, .ref fron])), (fral, .inl (kfral, 25, .inl ffral))] H → va_D A [(h0, .inr (8, [.ref co, .ref le, .int w0_2, .int w0_3, .int w0_4])), (co, .inl (kco, 325, .inl fco)), (le, .inl (kle, 3575, .inl z2)), (fr, .inr (3, [.int frmonths, .int frfull, .int frlean, .ref fral, .ref fron])), (fral, .inl (kfral, 25, .inl ffral))] → va_S A s.heap H locs → lv_has ls 4 [(0, .ref h0), (1, .ref fr), (2, .int v2), (3, .int v3)] → W p l e R s m args below meth c H locs cells slots Q (F0 m 44 ls [])) := by
  intro z
  induction z with
  | zero =>
    refine ⟨?_, ?_⟩
    · intro v2 w0_2 w0_3 w0_4 z2 H locs ls gv2 gw0_2 gw0_3 gw0_4 hle_gv2_gw0_2 hmu hP hD hS hl
      exact absurd hmu (by have hv21 := gv2.1; have hv22 := gv2.2; omega)
    · intro v2 v3 w0_2 w0_3 w0_4 z2 H locs ls gv2 gv3 gw0_2 gw0_3 gw0_4 hle_gv2_gw0_2 hmu hP hD hS hl
      exact absurd hmu (by have hv21 := gv2.1; have hv22 := gv2.2; have hv31 := gv3.1; have hv32 := gv3.2; omega)
  | succ z ih =>
    refine ⟨?_, ?_⟩
    · intro v2 w0_2 w0_3 w0_4 z2 H locs ls gv2 gw0_2 gw0_3 gw0_4 hle_gv2_gw0_2 hmu hP hD hS hl
      refine lv_iload_n hx hb dX8_run_38 rfl (lv_at hl 2 rfl) ?_
      refine lv_if_lt (tgt := 76) hx hb dX8_run_39 (by decide) (fun c_266 => ?_) (fun c_266 => ?_)
      · have g_267 : gi v2 (-1) (-1) := gi_lt_l c_266 gv2 (gi_c 0 0 (by decide)) (by decide)
        exact kr76 w0_2 w0_3 w0_4 z2 _ _ _ gw0_2 gw0_3 gw0_4 hP hD hS (lv_sub hl [] rfl)
      · have g_268 : gi v2 0 24 := gi_le_r (Int32.not_lt.mp c_266) (gi_c 0 0 (by decide)) gv2
        refine lv_iconst (v := 0) hx hb dX8_run_42 (by decide) ?_
        refine lv_istore_n (lv' := [(3, .int 0), (0, .ref h0), (1, .ref fr), (2, .int v2)]) hx hb dX8_run_43 rfl hl (by decide) rfl (fun ls hl => ?_)
        exact ih.2 v2 0 w0_2 w0_3 w0_4 z2 _ _ _ g_268 (gi_w (gi_c 0 0 (by decide)) (by decide)) gw0_2 gw0_3 gw0_4 (by have qgw0_2 := gw0_2.1; have rgw0_2 := gw0_2.2; have qgv2 := g_268.1; have rgv2 := g_268.2; omega) (by have k0 : (0 : Int32).toInt = 0 := (by decide); have av2 := gv2.1; have bv2 := gv2.2; have qgv2 := g_268.1; have rgv2 := g_268.2; omega) hP hD hS (lv_sub hl [1, 2, 3, 0] rfl)
    · intro v2 v3 w0_2 w0_3 w0_4 z2 H locs ls gv2 gv3 gw0_2 gw0_3 gw0_4 hle_gv2_gw0_2 hmu hP hD hS hl
      refine lv_iload_n hx hb dX8_run_44 rfl (lv_at hl 3 rfl) ?_
      refine lv_iload_n hx hb dX8_run_45 rfl (lv_at hl 2 rfl) ?_
      refine lv_icmp_gt (tgt := 70) hx hb dX8_run_46 (by decide) (fun c_269 => ?_) (fun c_269 => ?_)
      · have g_270 : gi v3 1 25 := gi_lt_r c_269 gv2 gv3 (by decide)
        obtain ⟨x_271, ex_271⟩ : ∃ y : Int32, y = v2 + (-1) := ⟨_, rfl⟩
        have gx_271 : gi x_271 (-1) 23 := gi_add ex_271 gv2 (gi_c (-1) (-1) (by decide)) (by decide)
        refine lv_iinc (v := x_271) (lv' := [(2, .int x_271), (0, .ref h0), (1, .ref fr), (3, .int v3)]) hx hb dX8_run_70 hl (k := 2) rfl (by rw [ex_271]; rfl) (by decide) rfl (fun ls hl => ?_)
        refine lv_goto (tgt := 38) hx hb dX8_run_73 (by decide) ?_
        exact ih.1 x_271 w0_2 w0_3 w0_4 z2 _ _ _ (gi_w gx_271 (by decide)) gw0_2 gw0_3 gw0_4 (by have qgw0_2 := gw0_2.1; have rgw0_2 := gw0_2.2; have qgx_271 := gx_271.1; have rgx_271 := gx_271.2; have igx_271 : x_271.toInt = v2.toInt + (-1) := (by have hcm1 : ((-1) : Int32).toInt = (-1) := (by decide); have h9 := gi_addI ex_271 (by have h1 := gv2.1; have h2 := (gi_c (-1) (-1) (by decide)).1; have h3 := gv2.2; have h4 := (gi_c (-1) (-1) (by decide)).2; omega) (by have h1 := gv2.1; have h2 := (gi_c (-1) (-1) (by decide)).1; have h3 := gv2.2; have h4 := (gi_c (-1) (-1) (by decide)).2; omega); rw [hcm1] at h9; exact h9); have qgv2 := gv2.1; have rgv2 := gv2.2; have y1 := (Int32.lt_iff_toInt_lt.mp c_269); omega) (by have av2 := gv2.1; have bv2 := gv2.2; have av3 := gv3.1; have bv3 := gv3.2; have qgx_271 := gx_271.1; have rgx_271 := gx_271.2; have igx_271 : x_271.toInt = v2.toInt + (-1) := (by have hcm1 : ((-1) : Int32).toInt = (-1) := (by decide); have h9 := gi_addI ex_271 (by have h1 := gv2.1; have h2 := (gi_c (-1) (-1) (by decide)).1; have h3 := gv2.2; have h4 := (gi_c (-1) (-1) (by decide)).2; omega) (by have h1 := gv2.1; have h2 := (gi_c (-1) (-1) (by decide)).1; have h3 := gv2.2; have h4 := (gi_c (-1) (-1) (by decide)).2; omega); rw [hcm1] at h9; exact h9); have qgv2 := gv2.1; have rgv2 := gv2.2; omega) hP hD hS (lv_sub hl [1, 2, 0] rfl)
      · have g_272 : gi v3 0 24 := gi_le_l (Int32.not_lt.mp c_269) gv3 gv2
        refine lv_aload_n hx hb dX8_run_49 rfl (lv_at hl 1 rfl) ?_
        refine lv_iload_n hx hb dX8_run_50 rfl (lv_at hl 2 rfl) ?_
        refine lv_iload_n hx hb dX8_run_51 rfl (lv_at hl 3 rfl) ?_
        have hPc := hP.sub (ws' := [(fr, .inr (3, [.int frmonths, .int frfull, .int frlean, .ref fral, .ref fron])), (fral, .inl (kfral, 25, .inl ffral))]) [3, 4] rfl
        have hKc := hK.sub (tys' := [(kfral, .int)]) [2] rfl
        refine va_calli (va_runV (As := [.int v2, .int v3]) (rest := []) ⟨hx, hb, hml, hown, hts⟩ (sX3_allows l dC dI fr fral frmonths frfull frlean fron kfral ffral v2 v3 gfrmonths gfrfull gfrlean gv2) (cwV 2 hts (gz_gV mGA_789 mGA_574 mGA_575 mGA_18 mGA_576 goodGA) rfl rfl rfl (by decide +kernel) ⟨Nat.le_trans (Nat.le_of_ble_eq_true rfl) hRf, Nat.le_trans (Nat.le_of_ble_eq_true rfl) hRl⟩) ⟨fun a U g mk q => by obtain ⟨q0, qP, qK, qZ⟩ := q; exact ⟨q0, qP, va_K.moved (u := U) (U := U.calling g mk a) (Vm.Alike.refl U.vm) qK, nzA_same (u := U) (U := U.calling g mk a) rfl qZ⟩, va_recv hKc hPc (ci := 3) (q0 := 0) rfl rfl, fun U hU hW => ⟨rfl, by rw [hU]; exact hPc, va_K.moved hW.alike hKc, nzA_warm hW hz⟩⟩ rfl rfl hl.1 rfl (lv_room (Nat.le_of_ble_eq_true rfl)) dX8_run_52 ⟨hRc, hRs⟩) hS (fun q _ h => h.elim) (fun q h => h.elim) (fun r_273 u t H1 locs ht hvm hw hB hz1 hk1 hS => ?_)
        have hP := gz_keep hP hk1
        generalize H1 = H at hP hS ⊢
        have gr_273 : gi r_273 0 1 := hw
        refine lv_if_eq (tgt := 64) hx hb dX8_run_55 (by decide) (fun c_274 => ?_) (fun c_274 => ?_)
        · have g_275 : gi r_273 0 0 := gi_eq c_274 (gi_c 0 0 (by decide))
          obtain ⟨x_276, ex_276⟩ : ∃ y : Int32, y = v3 + 1 := ⟨_, rfl⟩
          have gx_276 : gi x_276 1 25 := gi_add ex_276 g_272 (gi_c 1 1 (by decide)) (by decide)
          refine lv_iinc (v := x_276) (lv' := [(3, .int x_276), (0, .ref h0), (1, .ref fr), (2, .int v2)]) hx hb dX8_run_64 hl (k := 3) rfl (by rw [ex_276]; rfl) (by decide) rfl (fun ls hl => ?_)
          refine lv_goto (tgt := 44) hx hb dX8_run_67 (by decide) ?_
          exact ih.2 v2 x_276 w0_2 w0_3 w0_4 z2 _ _ _ gv2 (gi_w gx_276 (by decide)) gw0_2 gw0_3 gw0_4 (by have qgw0_2 := gw0_2.1; have rgw0_2 := gw0_2.2; have qgv2 := gv2.1; have rgv2 := gv2.2; have y1 := (Int32.le_iff_toInt_le.mp (Int32.not_lt.mp c_269)); omega) (by have av2 := gv2.1; have bv2 := gv2.2; have av3 := gv3.1; have bv3 := gv3.2; have qgx_276 := gx_276.1; have rgx_276 := gx_276.2; have igx_276 : x_276.toInt = v3.toInt + 1 := (by have hc1 : (1 : Int32).toInt = 1 := (by decide); have h9 := gi_addI ex_276 (by have h1 := g_272.1; have h2 := (gi_c 1 1 (by decide)).1; have h3 := g_272.2; have h4 := (gi_c 1 1 (by decide)).2; omega) (by have h1 := g_272.1; have h2 := (gi_c 1 1 (by decide)).1; have h3 := g_272.2; have h4 := (gi_c 1 1 (by decide)).2; omega); rw [hc1] at h9; exact h9); have qgv3 := g_272.1; have rgv3 := g_272.2; have qgv2 := gv2.1; have rgv2 := gv2.2; omega) hP hD hS (lv_sub hl [1, 2, 3, 0] rfl)
        · have g_277 : gi r_273 1 1 := gi_ne_lo c_274 gr_273 (gi_c 0 0 (by decide)) (by decide)
          refine lv_aload_n hx hb dX8_run_58 rfl (lv_at hl 0 rfl) ?_
          refine lv_iload_n hx hb dX8_run_59 rfl (lv_at hl 2 rfl) ?_
          refine lv_iload_n hx hb dX8_run_60 rfl (lv_at hl 3 rfl) ?_
          have hPc := hP.sub (ws' := [(h0, .inr (8, [.ref co, .ref le, .int w0_2, .int w0_3, .int w0_4])), (co, .inl (kco, 325, .inl fco)), (le, .inl (kle, 3575, .inl z2))]) [0, 1, 2] rfl
          have hKc := hK.sub (tys' := [(kco, .int), (kle, .int)]) [0, 1] rfl
          have hDc := hD.sub (ws' := [(h0, .inr (8, [.ref co, .ref le, .int w0_2, .int w0_3, .int w0_4])), (co, .inl (kco, 325, .inl fco)), (le, .inl (kle, 3575, .inl z2))]) [0, 1, 2] (by decide) rfl
          have hFc := va_free (wc := [(h0, .inr (8, [.ref co, .ref le, .int w0_2, .int w0_3, .int w0_4])), (co, .inl (kco, 325, .inl fco)), (le, .inl (kle, 3575, .inl z2))]) hD hS hA [0, 1, 2] rfl
          refine va_callv (va_runV (As := [.int v2, .int v3]) (rest := []) ⟨hx, hb, hml, hown, hts⟩ (sX8_fillCell l dC dI H.size h0 co le w0_2 w0_3 w0_4 kco fco kle z2 v2 v3 gw0_2 gw0_3 gw0_4 gv2 g_272 (by have qgw0_2 := gw0_2.1; have rgw0_2 := gw0_2.2; have qgv2 := gv2.1; have rgv2 := gv2.2; have y1 := (Int32.le_iff_toInt_le.mp (Int32.not_lt.mp c_269)); omega) (by have qgv2 := gv2.1; have rgv2 := gv2.2; have qgv3 := g_272.1; have rgv3 := g_272.2; have y1 := (Int32.le_iff_toInt_le.mp (Int32.not_lt.mp c_269)); omega)) (cwV 2 hts (gz_gV mGA_790 mGA_791 mGA_792 mGA_31 mGA_793 goodGA) rfl rfl rfl (by decide +kernel) ⟨Nat.le_trans (Nat.le_of_ble_eq_true rfl) hRf, Nat.le_trans (Nat.le_of_ble_eq_true rfl) hRl⟩) ⟨fun a U g mk q => by obtain ⟨q0, q1, qP, qK, qD, qZ⟩ := q; exact ⟨q0, q1, qP, va_K.moved (u := U) (U := U.calling g mk a) (Vm.Alike.refl U.vm) qK, qD, nzA_same (u := U) (U := U.calling g mk a) rfl qZ⟩, va_recv hKc hPc (ci := 8) (q0 := 0) rfl rfl, fun U hU hW => ⟨rfl, by rw [hU], by rw [hU]; exact hPc, va_K.moved hW.alike hKc, hDc.weaken (fun _ _ _ _ => trivial), nzA_warm hW hz⟩⟩ rfl rfl hl.1 rfl (lv_room (Nat.le_of_ble_eq_true rfl)) dX8_run_61 ⟨hRc, hRs⟩) hS (fun q _ h => hFc q h) hFc (fun u t H1 locs ht hvm hw hB hz1 hk1 hS => ?_)
          obtain ⟨f_279, hP1, hD1⟩ := hB
          rw [ht] at hP1
          obtain ⟨hP, hD⟩ := va_join (wr := [(fr, .inr (3, [.int frmonths, .int frfull, .int frlean, .ref fral, .ref fron])), (fral, .inl (kfral, 25, .inl ffral))]) (w1 := [(h0, .inr (8, [.ref co, .ref le, .int w0_2, .int w0_3, .int w0_4])), (co, .inl (kco, 325, .inl fco)), (le, .inl (kle, 3575, .inl f_279))]) hP hD [0, 1, 2] [3, 4] rfl rfl (by decide) (by decide) hk1 hFc hP1 hD1
          have hP := hP.sub (ws' := [(h0, .inr (8, [.ref co, .ref le, .int w0_2, .int w0_3, .int w0_4])), (co, .inl (kco, 325, .inl fco)), (le, .inl (kle, 3575, .inl f_279)), (fr, .inr (3, [.int frmonths, .int frfull, .int frlean, .ref fral, .ref fron])), (fral, .inl (kfral, 25, .inl ffral))]) [2, 3, 4, 0, 1] rfl
          have hD := hD.sub (ws' := [(h0, .inr (8, [.ref co, .ref le, .int w0_2, .int w0_3, .int w0_4])), (co, .inl (kco, 325, .inl fco)), (le, .inl (kle, 3575, .inl f_279)), (fr, .inr (3, [.int frmonths, .int frfull, .int frlean, .ref fral, .ref fron])), (fral, .inl (kfral, 25, .inl ffral))]) [2, 3, 4, 0, 1] (by decide) rfl
          generalize H1 = H at hP hS ⊢
          obtain ⟨x_280, ex_280⟩ : ∃ y : Int32, y = v3 + 1 := ⟨_, rfl⟩
          have gx_280 : gi x_280 1 25 := gi_add ex_280 g_272 (gi_c 1 1 (by decide)) (by decide)
          refine lv_iinc (v := x_280) (lv' := [(3, .int x_280), (0, .ref h0), (1, .ref fr), (2, .int v2)]) hx hb dX8_run_64 hl (k := 3) rfl (by rw [ex_280]; rfl) (by decide) rfl (fun ls hl => ?_)
          refine lv_goto (tgt := 44) hx hb dX8_run_67 (by decide) ?_
          exact ih.2 v2 x_280 w0_2 w0_3 w0_4 f_279 _ _ _ gv2 (gi_w gx_280 (by decide)) gw0_2 gw0_3 gw0_4 (by have qgw0_2 := gw0_2.1; have rgw0_2 := gw0_2.2; have qgv2 := gv2.1; have rgv2 := gv2.2; have y1 := (Int32.le_iff_toInt_le.mp (Int32.not_lt.mp c_269)); omega) (by have av2 := gv2.1; have bv2 := gv2.2; have av3 := gv3.1; have bv3 := gv3.2; have qgx_280 := gx_280.1; have rgx_280 := gx_280.2; have igx_280 : x_280.toInt = v3.toInt + 1 := (by have hc1 : (1 : Int32).toInt = 1 := (by decide); have h9 := gi_addI ex_280 (by have h1 := g_272.1; have h2 := (gi_c 1 1 (by decide)).1; have h3 := g_272.2; have h4 := (gi_c 1 1 (by decide)).2; omega) (by have h1 := g_272.1; have h2 := (gi_c 1 1 (by decide)).1; have h3 := g_272.2; have h4 := (gi_c 1 1 (by decide)).2; omega); rw [hc1] at h9; exact h9); have qgv3 := g_272.1; have rgv3 := g_272.2; have qgv2 := gv2.1; have rgv2 := gv2.2; omega) hP hD hS (lv_sub hl [1, 2, 3, 0] rfl)
set_option maxHeartbeats 4000000 in
set_option maxRecDepth 100000 in
theorem sX8_run (l : Launch) (dC : Nat → ClassId) (dI : Nat → Nat → Nat) (sz : Nat) (h0 : Nat) (co : Nat) (le : Nat) (fr : Nat) (fral : Nat) (months : Int32) (full : Int32) (lean : Int32) (kco : ClassId) (fco : Nat → Int32) (kle : ClassId) (fle : Nat → Int32) (frmonths : Int32) (frfull : Int32) (frlean : Int32) (fron : Nat) (kfral : ClassId) (ffral : Nat → Int32) (gmonths : gi months 0 24) (gfull : gi full 0 5) (glean : gi lean 0 5) (gfrmonths : gi frmonths 0 24) (gfrfull : gi frfull 0 5) (gfrlean : gi frlean 0 5) : Met l yX8_run (.code yX8_run cX8_run 4 none :: wsGA) ({ frames := 4, cells := 0, slots := 0, locals := 90 }) (va_Pc [.ref h0, .ref fr] (fun U => U.heap.size = sz ∧ va_P (dC, dI) vwCl [(h0, .inr (8, [.ref co, .ref le, .int months, .int full, .int lean])), (co, .inl (kco, 325, .inl fco)), (le, .inl (kle, 3575, .inl fle)), (fr, .inr (3, [.int frmonths, .int frfull, .int frlean, .ref fral, .ref fron])), (fral, .inl (kfral, 25, .inl ffral))] U.heap ∧ va_K (dC, dI) vwCl [(kco, .int), (kle, .int), (kfral, .int)] U ∧ va_D (fun _ => True) [(h0, .inr (8, [.ref co, .ref le, .int months, .int full, .int lean])), (co, .inl (kco, 325, .inl fco)), (le, .inl (kle, 3575, .inl fle)), (fr, .inr (3, [.int frmonths, .int frfull, .int frlean, .ref fral, .ref fron])), (fral, .inl (kfral, 25, .inl ffral))] ∧ nzA U)) (va_Qv (fun (u : Unit) => True) (fun _ t => ∃ (w0_2 : Int32) (w0_3 : Int32) (w0_4 : Int32) (z2 : Nat → Int32), gi w0_2 0 24 ∧ gi w0_3 0 5 ∧ gi w0_4 0 5 ∧ va_P (dC, dI) vwCl [(h0, .inr (8, [.ref co, .ref le, .int w0_2, .int w0_3, .int w0_4])), (co, .inl (kco, 325, .inl fco)), (le, .inl (kle, 3575, .inl z2)), (fr, .inr (3, [.int frmonths, .int frfull, .int frlean, .ref fral, .ref fron])), (fral, .inl (kfral, 25, .inl ffral))] t.heap ∧ va_D (va_A [(h0, .inr (8, [.ref co, .ref le, .int months, .int full, .int lean])), (co, .inl (kco, 325, .inl fco)), (le, .inl (kle, 3575, .inl fle)), (fr, .inr (3, [.int frmonths, .int frfull, .int frlean, .ref fral, .ref fron])), (fral, .inl (kfral, 25, .inl ffral))] sz) [(h0, .inr (8, [.ref co, .ref le, .int w0_2, .int w0_3, .int w0_4])), (co, .inl (kco, 325, .inl fco)), (le, .inl (kle, 3575, .inl z2)), (fr, .inr (3, [.int frmonths, .int frfull, .int frlean, .ref fral, .ref fron])), (fral, .inl (kfral, 25, .inl ffral))]) (va_A [(h0, .inr (8, [.ref co, .ref le, .int months, .int full, .int lean])), (co, .inl (kco, 325, .inl fco)), (le, .inl (kle, 3575, .inl fle)), (fr, .inr (3, [.int frmonths, .int frfull, .int frlean, .ref fral, .ref fron])), (fral, .inl (kfral, 25, .inl ffral))] sz)) 0 0 (va_A [(h0, .inr (8, [.ref co, .ref le, .int months, .int full, .int lean])), (co, .inl (kco, 325, .inl fco)), (le, .inl (kle, 3575, .inl fle)), (fr, .inr (3, [.int frmonths, .int frfull, .int frlean, .ref fral, .ref fron])), (fral, .inl (kfral, 25, .inl ffral))] sz) := by
  refine Met.ofW (cc := cX8_run) (maxL := 4) (ret := none) (by decide) rfl ?_
  intro p e s m args below meth c s₁ B hml hv
  obtain ⟨rfl, hsz, hP, hK, hD0, hz⟩ := hv
  have hx := B.exec
  have hb := B.bytes
  have hr := B.returns
  have hts := atoms_spec (ws := (.code yX8_run cX8_run 4 none :: wsGA)) B.pre
  have hown : s.vm.findClass RX8 = some m.cls := findClass_of_methodNamed B.named
  have hlocks := B.notSynchronized
  subst hsz
  have hD := hD0.self (sz := s.heap.size)
  generalize hAe : va_A [(h0, .inr (8, [.ref co, .ref le, .int months, .int full, .int lean])), (co, .inl (kco, 325, .inl fco)), (le, .inl (kle, 3575, .inl fle)), (fr, .inr (3, [.int frmonths, .int frfull, .int frlean, .ref fral, .ref fron])), (fral, .inl (kfral, 25, .inl ffral))] s.heap.size = A at hD ⊢
  have hA : ∀ q : Nat, s.heap.size ≤ q → A q := fun q h => by rw [← hAe]; exact Or.inr h
  have hS : va_S A s.heap s.heap [] := va_S.rf
  have hl := lv_entry ([.ref h0, .ref fr]) (n := 4) (Nat.le_of_ble_eq_true rfl)
  rw [lg_entry_eq]
  generalize (lg_sl ([.ref h0, .ref fr]) ++ List.replicate (4 - (lg_sl ([.ref h0, .ref fr])).length) Slot.unset).toArray = ls at hl ⊢
  have hl : lv_has ls 4 [(0, .ref h0), (1, .ref fr)] := hl
  refine lv_aload_n hx hb dX8_run_0 rfl (lv_at hl 0 rfl) ?_
  refine lv_aload_n hx hb dX8_run_1 rfl (lv_at hl 1 rfl) ?_
  refine va_get (D := (dC, dI)) (ci := 3) (v := .int frmonths) (C := RX3) (T := TX3) (N := 5) hx hb hts (fun w h => List.mem_cons_of_mem _ (jnGA_X3 w h)) hown hK hP 3 rfl rfl 0 (by decide) (hts _ (List.mem_cons_of_mem _ mGA_782)) (fun _ h9 => h9) rfl dX8_run_2 ?_
  refine va_put (D := (dC, dI)) (ci := 8) (v := .int frmonths) (ty := .int) (C := RX8) (T := TX8) (N := 5) hx hb hts (fun w h => List.mem_cons_of_mem _ (jnGA_X8 w h)) tyX8 tyX8_ok nmX8 hown hK hP hD hS 0 rfl rfl 2 (by decide) (hts _ (List.mem_cons_of_mem _ mGA_783)) (fun _ h9 => h9) rfl (by decide +kernel) rfl rfl (Nat.le_of_ble_eq_true rfl) dX8_run_5 (fun H locs hP hD hS => ?_)
  have hP : va_P (dC, dI) vwCl [(h0, .inr (8, [.ref co, .ref le, .int frmonths, .int full, .int lean])), (co, .inl (kco, 325, .inl fco)), (le, .inl (kle, 3575, .inl fle)), (fr, .inr (3, [.int frmonths, .int frfull, .int frlean, .ref fral, .ref fron])), (fral, .inl (kfral, 25, .inl ffral))] H := hP
  have hD : va_D A [(h0, .inr (8, [.ref co, .ref le, .int frmonths, .int full, .int lean])), (co, .inl (kco, 325, .inl fco)), (le, .inl (kle, 3575, .inl fle)), (fr, .inr (3, [.int frmonths, .int frfull, .int frlean, .ref fral, .ref fron])), (fral, .inl (kfral, 25, .inl ffral))] := hD
  refine lv_aload_n hx hb dX8_run_8 rfl (lv_at hl 0 rfl) ?_
  refine lv_aload_n hx hb dX8_run_9 rfl (lv_at hl 1 rfl) ?_
  refine va_get (D := (dC, dI)) (ci := 3) (v := .int frfull) (C := RX3) (T := TX3) (N := 5) hx hb hts (fun w h => List.mem_cons_of_mem _ (jnGA_X3 w h)) hown hK hP 3 rfl rfl 1 (by decide) (hts _ (List.mem_cons_of_mem _ mGA_784)) (fun _ h9 => h9) rfl dX8_run_10 ?_
  refine va_put (D := (dC, dI)) (ci := 8) (v := .int frfull) (ty := .int) (C := RX8) (T := TX8) (N := 5) hx hb hts (fun w h => List.mem_cons_of_mem _ (jnGA_X8 w h)) tyX8 tyX8_ok nmX8 hown hK hP hD hS 0 rfl rfl 3 (by decide) (hts _ (List.mem_cons_of_mem _ mGA_785)) (fun _ h9 => h9) rfl (by decide +kernel) rfl rfl (Nat.le_of_ble_eq_true rfl) dX8_run_13 (fun H locs hP hD hS => ?_)
  have hP : va_P (dC, dI) vwCl [(h0, .inr (8, [.ref co, .ref le, .int frmonths, .int frfull, .int lean])), (co, .inl (kco, 325, .inl fco)), (le, .inl (kle, 3575, .inl fle)), (fr, .inr (3, [.int frmonths, .int frfull, .int frlean, .ref fral, .ref fron])), (fral, .inl (kfral, 25, .inl ffral))] H := hP
  have hD : va_D A [(h0, .inr (8, [.ref co, .ref le, .int frmonths, .int frfull, .int lean])), (co, .inl (kco, 325, .inl fco)), (le, .inl (kle, 3575, .inl fle)), (fr, .inr (3, [.int frmonths, .int frfull, .int frlean, .ref fral, .ref fron])), (fral, .inl (kfral, 25, .inl ffral))] := hD
  refine lv_aload_n hx hb dX8_run_16 rfl (lv_at hl 0 rfl) ?_
  refine lv_aload_n hx hb dX8_run_17 rfl (lv_at hl 1 rfl) ?_
  refine va_get (D := (dC, dI)) (ci := 3) (v := .int frlean) (C := RX3) (T := TX3) (N := 5) hx hb hts (fun w h => List.mem_cons_of_mem _ (jnGA_X3 w h)) hown hK hP 3 rfl rfl 2 (by decide) (hts _ (List.mem_cons_of_mem _ mGA_786)) (fun _ h9 => h9) rfl dX8_run_18 ?_
  refine va_put (D := (dC, dI)) (ci := 8) (v := .int frlean) (ty := .int) (C := RX8) (T := TX8) (N := 5) hx hb hts (fun w h => List.mem_cons_of_mem _ (jnGA_X8 w h)) tyX8 tyX8_ok nmX8 hown hK hP hD hS 0 rfl rfl 4 (by decide) (hts _ (List.mem_cons_of_mem _ mGA_787)) (fun _ h9 => h9) rfl (by decide +kernel) rfl rfl (Nat.le_of_ble_eq_true rfl) dX8_run_21 (fun H locs hP hD hS => ?_)
  have hP : va_P (dC, dI) vwCl [(h0, .inr (8, [.ref co, .ref le, .int frmonths, .int frfull, .int frlean])), (co, .inl (kco, 325, .inl fco)), (le, .inl (kle, 3575, .inl fle)), (fr, .inr (3, [.int frmonths, .int frfull, .int frlean, .ref fral, .ref fron])), (fral, .inl (kfral, 25, .inl ffral))] H := hP
  have hD : va_D A [(h0, .inr (8, [.ref co, .ref le, .int frmonths, .int frfull, .int frlean])), (co, .inl (kco, 325, .inl fco)), (le, .inl (kle, 3575, .inl fle)), (fr, .inr (3, [.int frmonths, .int frfull, .int frlean, .ref fral, .ref fron])), (fral, .inl (kfral, 25, .inl ffral))] := hD
  refine lv_aload_n hx hb dX8_run_24 rfl (lv_at hl 0 rfl) ?_
  refine va_get (D := (dC, dI)) (ci := 8) (v := .ref le) (C := RX8) (T := TX8) (N := 5) hx hb hts (fun w h => List.mem_cons_of_mem _ (jnGA_X8 w h)) hown hK hP 0 rfl rfl 1 (by decide) (hts _ (List.mem_cons_of_mem _ mGA_118)) (fun _ h9 => h9) rfl dX8_run_25 ?_
  refine lv_ldc (own := RX8) (v := 1000000) hx hb hown (hts _ (List.mem_cons_of_mem _ mGA_788)) dX8_run_28 ?_
  have hPc := hP.sub (ws' := [(le, .inl (kle, 3575, .inl fle))]) [2] rfl
  have hKc := hK.sub (tys' := [(kle, .int)]) [1] rfl
  have hDc := hD.sub (ws' := [(le, .inl (kle, 3575, .inl fle))]) [2] (by decide) rfl
  have hFc := va_free (wc := [(le, .inl (kle, 3575, .inl fle))]) hD hS hA [2] rfl
  refine va_callv (va_runS (As := [.ref le, .int 1000000]) (rest := []) ⟨hx, hb, hml, hown, hts⟩ (sJ7_fill3575 l dC dI H.size le kle fle 1000000) (⟨callB_of 2 hts (gz_gP mGA_568 goodGA) rfl rfl rfl (hts _ (List.mem_cons_of_mem _ mGA_567)) (hts _ (List.mem_cons_of_mem _ mGA_773)) (by decide +kernel) ⟨Nat.le_of_ble_eq_true rfl, Nat.le_of_ble_eq_true rfl⟩, (hts _ (List.mem_cons_of_mem _ mGA_566))⟩) ⟨fun a U g mk q => by obtain ⟨q0, q1, qP, qK, qD, qZ⟩ := q; exact ⟨q0, q1, qP, va_K.moved (u := U) (U := U.calling g mk a) (Vm.Alike.refl U.vm) qK, qD, nzA_same (u := U) (U := U.calling g mk a) rfl qZ⟩, fun U hU hW => ⟨rfl, by rw [hU], by rw [hU]; exact hPc, va_K.moved hW.alike hKc, hDc.weaken (fun _ _ _ _ => trivial), nzA_warm hW hz⟩⟩ rfl rfl hl.1 rfl (lv_room (Nat.le_of_ble_eq_true rfl)) dX8_run_30 ⟨Nat.zero_le _, Nat.zero_le _⟩) hS (fun q _ h => hFc q h) hFc (fun u t H1 locs ht hvm hw hB hz1 hk1 hS => ?_)
  obtain ⟨f_282, hP1, hD1⟩ := hB
  rw [ht] at hP1
  obtain ⟨hP, hD⟩ := va_join (wr := [(h0, .inr (8, [.ref co, .ref le, .int frmonths, .int frfull, .int frlean])), (co, .inl (kco, 325, .inl fco)), (fr, .inr (3, [.int frmonths, .int frfull, .int frlean, .ref fral, .ref fron])), (fral, .inl (kfral, 25, .inl ffral))]) (w1 := [(le, .inl (kle, 3575, .inl f_282))]) hP hD [2] [0, 1, 3, 4] rfl rfl (by decide) (by decide) hk1 hFc hP1 hD1
  have hP := hP.sub (ws' := [(h0, .inr (8, [.ref co, .ref le, .int frmonths, .int frfull, .int frlean])), (co, .inl (kco, 325, .inl fco)), (le, .inl (kle, 3575, .inl f_282)), (fr, .inr (3, [.int frmonths, .int frfull, .int frlean, .ref fral, .ref fron])), (fral, .inl (kfral, 25, .inl ffral))]) [0, 1, 4, 2, 3] rfl
  have hD := hD.sub (ws' := [(h0, .inr (8, [.ref co, .ref le, .int frmonths, .int frfull, .int frlean])), (co, .inl (kco, 325, .inl fco)), (le, .inl (kle, 3575, .inl f_282)), (fr, .inr (3, [.int frmonths, .int frfull, .int frlean, .ref fral, .ref fron])), (fral, .inl (kfral, 25, .inl ffral))]) [0, 1, 4, 2, 3] (by decide) rfl
  generalize H1 = H at hP hS ⊢
  refine lv_aload_n hx hb dX8_run_33 rfl (lv_at hl 0 rfl) ?_
  refine va_get (D := (dC, dI)) (ci := 8) (v := .int frmonths) (C := RX8) (T := TX8) (N := 5) hx hb hts (fun w h => List.mem_cons_of_mem _ (jnGA_X8 w h)) hown hK hP 0 rfl rfl 2 (by decide) (hts _ (List.mem_cons_of_mem _ mGA_783)) (fun _ h9 => h9) rfl dX8_run_34 ?_
  refine lv_istore_n (lv' := [(2, .int frmonths), (0, .ref h0), (1, .ref fr)]) hx hb dX8_run_37 rfl hl (by decide) rfl (fun ls hl => ?_)
  refine (lp_sX8_run h0 co le fr fral months full lean kco fco kle fle frmonths frfull frlean fron kfral ffral gmonths gfull glean gfrmonths gfrfull gfrlean hx hb hml hown hts hK hz hA (Nat.le_of_ble_eq_true rfl) (Nat.le_of_ble_eq_true rfl) (Nat.zero_le _) (Nat.zero_le _) (fun w0_2 w0_3 w0_4 z2 H locs ls gw0_2 gw0_3 gw0_4 hP hD hS hl => ?_) 1522).1 frmonths frmonths frfull frlean f_282 _ _ _ (gi_w gfrmonths (by decide)) gfrmonths gfrfull gfrlean (by have qgfrmonths := gfrmonths.1; have rgfrmonths := gfrmonths.2; omega) (by have qgfrmonths := gfrmonths.1; have rgfrmonths := gfrmonths.2; omega) hP hD hS (lv_sub hl [1, 2, 0] rfl)
  · skip
    exact W.vret hx hb hr (fun t ht hW => ⟨⟨(), rfl, trivial, w0_2, w0_3, w0_4, z2, gw0_2, gw0_3, gw0_4, by rw [ht]; exact hP, hD⟩, hS.F ht⟩) hS.2.2 dX8_run_76
theorem dX8_fullBits_0 : decode cX8_fullBits 0 = .ok (.iconst 0, 1) := by decide +kernel
theorem dX8_fullBits_1 : decode cX8_fullBits 1 = .ok (.istore_n 1, 1) := by decide +kernel
theorem dX8_fullBits_2 : decode cX8_fullBits 2 = .ok (.iconst 0, 1) := by decide +kernel
theorem dX8_fullBits_3 : decode cX8_fullBits 3 = .ok (.istore_n 2, 1) := by decide +kernel
theorem dX8_fullBits_4 : decode cX8_fullBits 4 = .ok (.iconst 0, 1) := by decide +kernel
theorem dX8_fullBits_5 : decode cX8_fullBits 5 = .ok (.istore_n 3, 1) := by decide +kernel
theorem dX8_fullBits_6 : decode cX8_fullBits 6 = .ok (.iconst 0, 1) := by decide +kernel
theorem dX8_fullBits_7 : decode cX8_fullBits 7 = .ok (.istore 4, 2) := by decide +kernel
theorem dX8_fullBits_9 : decode cX8_fullBits 9 = .ok (.iload 4, 2) := by decide +kernel
theorem dX8_fullBits_11 : decode cX8_fullBits 11 = .ok (.aload_n 0, 1) := by decide +kernel
theorem dX8_fullBits_12 : decode cX8_fullBits 12 = .ok (.getfield 34, 3) := by decide +kernel
theorem dX8_fullBits_15 : decode cX8_fullBits 15 = .ok (.if_icmp .ge 63, 3) := by decide +kernel
theorem dX8_fullBits_18 : decode cX8_fullBits 18 = .ok (.aload_n 0, 1) := by decide +kernel
theorem dX8_fullBits_19 : decode cX8_fullBits 19 = .ok (.iload 4, 2) := by decide +kernel
theorem dX8_fullBits_21 : decode cX8_fullBits 21 = .ok (.iload_n 2, 1) := by decide +kernel
theorem dX8_fullBits_22 : decode cX8_fullBits 22 = .ok (.iload_n 3, 1) := by decide +kernel
theorem dX8_fullBits_23 : decode cX8_fullBits 23 = .ok (.invokevirtual 63, 3) := by decide +kernel
theorem dX8_fullBits_26 : decode cX8_fullBits 26 = .ok (.aload_n 0, 1) := by decide +kernel
theorem dX8_fullBits_27 : decode cX8_fullBits 27 = .ok (.iload 4, 2) := by decide +kernel
theorem dX8_fullBits_29 : decode cX8_fullBits 29 = .ok (.iload_n 2, 1) := by decide +kernel
theorem dX8_fullBits_30 : decode cX8_fullBits 30 = .ok (.iload_n 3, 1) := by decide +kernel
theorem dX8_fullBits_31 : decode cX8_fullBits 31 = .ok (.invokevirtual 60, 3) := by decide +kernel
theorem dX8_fullBits_34 : decode cX8_fullBits 34 = .ok (.if_icmp .gt 19, 3) := by decide +kernel
theorem dX8_fullBits_37 : decode cX8_fullBits 37 = .ok (.iload_n 3, 1) := by decide +kernel
theorem dX8_fullBits_38 : decode cX8_fullBits 38 = .ok (.aload_n 0, 1) := by decide +kernel
theorem dX8_fullBits_39 : decode cX8_fullBits 39 = .ok (.getfield 38, 3) := by decide +kernel
theorem dX8_fullBits_42 : decode cX8_fullBits 42 = .ok (.aload_n 0, 1) := by decide +kernel
theorem dX8_fullBits_43 : decode cX8_fullBits 43 = .ok (.getfield 42, 3) := by decide +kernel
theorem dX8_fullBits_46 : decode cX8_fullBits 46 = .ok (.invokestatic 77, 3) := by decide +kernel
theorem dX8_fullBits_49 : decode cX8_fullBits 49 = .ok (.istore_n 3, 1) := by decide +kernel
theorem dX8_fullBits_50 : decode cX8_fullBits 50 = .ok (.goto 22, 3) := by decide +kernel
theorem dX8_fullBits_53 : decode cX8_fullBits 53 = .ok (.iload_n 1, 1) := by decide +kernel
theorem dX8_fullBits_54 : decode cX8_fullBits 54 = .ok (.iconst 1, 1) := by decide +kernel
theorem dX8_fullBits_55 : decode cX8_fullBits 55 = .ok (.iload 4, 2) := by decide +kernel
theorem dX8_fullBits_57 : decode cX8_fullBits 57 = .ok (.ishl, 1) := by decide +kernel
theorem dX8_fullBits_58 : decode cX8_fullBits 58 = .ok (.ior, 1) := by decide +kernel
theorem dX8_fullBits_59 : decode cX8_fullBits 59 = .ok (.istore_n 1, 1) := by decide +kernel
theorem dX8_fullBits_60 : decode cX8_fullBits 60 = .ok (.iload_n 3, 1) := by decide +kernel
theorem dX8_fullBits_61 : decode cX8_fullBits 61 = .ok (.aload_n 0, 1) := by decide +kernel
theorem dX8_fullBits_62 : decode cX8_fullBits 62 = .ok (.getfield 38, 3) := by decide +kernel
theorem dX8_fullBits_65 : decode cX8_fullBits 65 = .ok (.invokestatic 74, 3) := by decide +kernel
theorem dX8_fullBits_68 : decode cX8_fullBits 68 = .ok (.istore_n 3, 1) := by decide +kernel
theorem dX8_fullBits_69 : decode cX8_fullBits 69 = .ok (.iinc 2 1, 3) := by decide +kernel
theorem dX8_fullBits_72 : decode cX8_fullBits 72 = .ok (.iinc 4 1, 3) := by decide +kernel
theorem dX8_fullBits_75 : decode cX8_fullBits 75 = .ok (.goto (-66), 3) := by decide +kernel
theorem dX8_fullBits_78 : decode cX8_fullBits 78 = .ok (.iload_n 1, 1) := by decide +kernel
theorem dX8_fullBits_79 : decode cX8_fullBits 79 = .ok (.ireturn, 1) := by decide +kernel
set_option maxHeartbeats 4000000 in
set_option maxRecDepth 100000 in
theorem lp_sX8_fullBits {p : Program} {l : Launch} {e : Env} {R : Room} {s : State} {m : MethodId} {args : Array Value} {below : List Frame} {meth : Method} {c : Code} {Q : State → Prop} {A : Nat → Prop} {cells slots : Nat} {dC : Nat → ClassId} {dI : Nat → Nat → Nat} (h0 : Nat) (le : Nat) (co : Nat) (months : Int32) (full : Int32) (lean : Int32) (kle : ClassId) (fle : Nat → Int32) (gmonths : gi months 0 24) (gfull : gi full 0 5) (glean : gi lean 0 5) (hx : p.tables.exec = Jvm.exec) (hb : c.code = cX8_fullBits) (hml : c.maxLocals = 5) (hown : s.vm.findClass RX8 = some m.cls) (hts : ∀ w ∈ ((.code yX8_fullBits cX8_fullBits 5 (some .int) :: wsGA) : List Cond), w.before args s = true) (hK : va_K (dC, dI) vwCl [(kle, .int)] s) (hz : nzA s) (hRf : 3 ≤ R.frames) (hRl : 66 ≤ R.locals) (hRc : cells ≤ R.cells) (hRs : slots ≤ R.slots) (kr79 : ∀ (v : Int32) (H : Heap) (locs : List Loc) (ls : Array Slot), va_P (dC, dI) vwCl [(h0, .inr (8, [.ref co, .ref le, .int months, .int full, .int lean])), (le, .inl (kle, 3575, .inl fle))] H → va_S A s.heap H locs → lv_has ls 5 [] → W p l e R s m args below meth c H locs cells slots Q (F0 m 79 ls [.int v])) : ∀ z : Nat, (∀ (v1 : Int32) (v2 : Int32) (v3 : Int32) (v4 : Int32) (H : Heap) (locs : List Loc) (ls : Array Slot), gi v2 0 24 → gi v3 0 10 → gi v4 0 24 → v2.toInt ≤ v4.toInt → 49 + (-2) * v4.toInt < (z : Int) → va_P (dC, dI) vwCl [(h0, .inr (8, [.ref co, .ref le, .int months, .int full, .int lean])), (le, .inl (kle, 3575, .inl fle))] H → va_S A s.heap H locs → lv_has ls 5 [(0, .ref h0), (1, .int v1), (2, .int v2), (3, .int v3), (4, .int v4)] → W p l e R s m args below meth c H locs cells slots Q (F0 m 9 ls [])) := by
  intro z
  induction z with
  | zero =>
    intro v1 v2 v3 v4 H locs ls gv2 gv3 gv4 hle_gv2_gv4 hmu hP hS hl
    exact absurd hmu (by have hv41 := gv4.1; have hv42 := gv4.2; omega)
  | succ z ih =>
      intro v1 v2 v3 v4 H locs ls gv2 gv3 gv4 hle_gv2_gv4 hmu hP hS hl
      refine lv_iload hx hb dX8_fullBits_9 (lv_at hl 4 rfl) ?_
      refine lv_aload_n hx hb dX8_fullBits_11 rfl (lv_at hl 0 rfl) ?_
      refine va_get (D := (dC, dI)) (ci := 8) (v := .int months) (C := RX8) (T := TX8) (N := 5) hx hb hts (fun w h => List.mem_cons_of_mem _ (jnGA_X8 w h)) hown hK hP 0 rfl rfl 2 (by decide) (hts _ (List.mem_cons_of_mem _ mGA_783)) (fun _ h9 => h9) rfl dX8_fullBits_12 ?_
      refine lv_icmp_ge (tgt := 78) hx hb dX8_fullBits_15 (by decide) (fun c_227 => ?_) (fun c_227 => ?_)
      · refine lv_iload_n hx hb dX8_fullBits_78 rfl (lv_at hl 1 rfl) ?_
        exact kr79 v1 _ _ _ hP hS (lv_sub hl [] rfl)
      · have g_228 : gi v4 0 23 := gi_lt_l (Int32.not_le.mp c_227) gv4 gmonths (by decide)
        have g_229 : gi v2 0 23 := gi_rel hle_gv2_gv4 gv2 g_228
        have g_230 : gi months 1 24 := gi_lt_r (Int32.not_le.mp c_227) gv4 gmonths (by decide)
        refine lv_aload_n hx hb dX8_fullBits_18 rfl (lv_at hl 0 rfl) ?_
        refine lv_iload hx hb dX8_fullBits_19 (lv_at hl 4 rfl) ?_
        refine lv_iload_n hx hb dX8_fullBits_21 rfl (lv_at hl 2 rfl) ?_
        refine lv_iload_n hx hb dX8_fullBits_22 rfl (lv_at hl 3 rfl) ?_
        have hPc := hP.sub (ws' := [(h0, .inr (8, [.ref co, .ref le, .int months, .int full, .int lean])), (le, .inl (kle, 3575, .inl fle))]) [0, 1] rfl
        have hKc := hK.sub (tys' := [(kle, .int)]) [0] rfl
        refine va_calli (va_runV (As := [.int v4, .int v2, .int v3]) (rest := []) ⟨hx, hb, hml, hown, hts⟩ (sX8_withLean l dC dI h0 le co months full lean kle fle v4 v2 v3 (gi_w g_230 (by decide)) gfull glean g_228 (gi_w g_229 (by decide)) gv3) (cwV 3 hts (gz_gV mGA_799 mGA_800 mGA_801 mGA_31 mGA_802 goodGA) rfl rfl rfl (by decide +kernel) ⟨Nat.le_trans (Nat.le_of_ble_eq_true rfl) hRf, Nat.le_trans (Nat.le_of_ble_eq_true rfl) hRl⟩) ⟨fun a U g mk q => by obtain ⟨q0, qP, qK, qZ⟩ := q; exact ⟨q0, qP, va_K.moved (u := U) (U := U.calling g mk a) (Vm.Alike.refl U.vm) qK, nzA_same (u := U) (U := U.calling g mk a) rfl qZ⟩, va_recv hKc hPc (ci := 8) (q0 := 0) rfl rfl, fun U hU hW => ⟨rfl, by rw [hU]; exact hPc, va_K.moved hW.alike hKc, nzA_warm hW hz⟩⟩ rfl rfl hl.1 rfl (lv_room (Nat.le_of_ble_eq_true rfl)) dX8_fullBits_23 ⟨hRc, hRs⟩) hS (fun q _ h => h.elim) (fun q h => h.elim) (fun r_231 u t H1 locs ht hvm hw hB hz1 hk1 hS => ?_)
        have hP := gz_keep hP hk1
        generalize H1 = H at hP hS ⊢
        refine lv_aload_n hx hb dX8_fullBits_26 rfl (lv_at hl 0 rfl) ?_
        refine lv_iload hx hb dX8_fullBits_27 (lv_at hl 4 rfl) ?_
        refine lv_iload_n hx hb dX8_fullBits_29 rfl (lv_at hl 2 rfl) ?_
        refine lv_iload_n hx hb dX8_fullBits_30 rfl (lv_at hl 3 rfl) ?_
        have hPc := hP.sub (ws' := [(h0, .inr (8, [.ref co, .ref le, .int months, .int full, .int lean])), (le, .inl (kle, 3575, .inl fle))]) [0, 1] rfl
        have hKc := hK.sub (tys' := [(kle, .int)]) [0] rfl
        refine va_calli (va_runV (As := [.int v4, .int v2, .int v3]) (rest := [.int r_231]) ⟨hx, hb, hml, hown, hts⟩ (sX8_withFull l dC dI h0 le co months full lean kle fle v4 v2 v3 (gi_w g_230 (by decide)) gfull glean g_228 g_229 gv3) (cwV 3 hts (gz_gV mGA_795 mGA_796 mGA_797 mGA_31 mGA_798 goodGA) rfl rfl rfl (by decide +kernel) ⟨Nat.le_trans (Nat.le_of_ble_eq_true rfl) hRf, Nat.le_trans (Nat.le_of_ble_eq_true rfl) hRl⟩) ⟨fun a U g mk q => by obtain ⟨q0, qP, qK, qZ⟩ := q; exact ⟨q0, qP, va_K.moved (u := U) (U := U.calling g mk a) (Vm.Alike.refl U.vm) qK, nzA_same (u := U) (U := U.calling g mk a) rfl qZ⟩, va_recv hKc hPc (ci := 8) (q0 := 0) rfl rfl, fun U hU hW => ⟨rfl, by rw [hU]; exact hPc, va_K.moved hW.alike hKc, nzA_warm hW hz⟩⟩ rfl rfl hl.1 rfl (lv_room (Nat.le_of_ble_eq_true rfl)) dX8_fullBits_31 ⟨hRc, hRs⟩) hS (fun q _ h => h.elim) (fun q h => h.elim) (fun r_232 u t H1 locs ht hvm hw hB hz1 hk1 hS => ?_)
        have hP := gz_keep hP hk1
        generalize H1 = H at hP hS ⊢
        refine lv_icmp_gt (tgt := 53) hx hb dX8_fullBits_34 (by decide) (fun c_233 => ?_) (fun c_233 => ?_)
        · have g_234 : gi r_232 (-2147483648) 2147483646 := gi_lt_l c_233 (gi_any r_232) (gi_any r_231) (by decide)
          have g_235 : gi r_231 (-2147483647) 2147483647 := gi_lt_r c_233 (gi_any r_232) (gi_any r_231) (by decide)
          refine lv_iload_n hx hb dX8_fullBits_53 rfl (lv_at hl 1 rfl) ?_
          refine lv_iconst (v := 1) hx hb dX8_fullBits_54 (by decide) ?_
          refine lv_iload hx hb dX8_fullBits_55 (lv_at hl 4 rfl) ?_
          refine lv_ishl hx hb dX8_fullBits_57 ?_
          refine lv_topi (fun x_236 ex_236 => ?_)
          refine lv_ior hx hb dX8_fullBits_58 ?_
          refine lv_topi (fun x_237 ex_237 => ?_)
          refine lv_istore_n (lv' := [(1, .int x_237), (0, .ref h0), (2, .int v2), (3, .int v3), (4, .int v4)]) hx hb dX8_fullBits_59 rfl hl (by decide) rfl (fun ls hl => ?_)
          refine lv_iload_n hx hb dX8_fullBits_60 rfl (lv_at hl 3 rfl) ?_
          refine lv_aload_n hx hb dX8_fullBits_61 rfl (lv_at hl 1 rfl) ?_
          refine va_get (D := (dC, dI)) (ci := 8) (v := .int full) (C := RX8) (T := TX8) (N := 5) hx hb hts (fun w h => List.mem_cons_of_mem _ (jnGA_X8 w h)) hown hK hP 0 rfl rfl 3 (by decide) (hts _ (List.mem_cons_of_mem _ mGA_785)) (fun _ h9 => h9) rfl dX8_fullBits_62 ?_
          have hPc := hP.sub (ws' := []) [] rfl
          have hKc := hK.sub (tys' := []) [] rfl
          refine va_calli (va_runSN (As := [.int v3, .int full]) (rest := []) ⟨hx, hb, hml, hown, hts⟩ (sX11_runWithFull l dC dI v3 full gv3 gfull) (⟨va_cnB 2 hts (gz_gP mGA_508 goodGA) rfl rfl rfl (nzA_X8_74 hz) (hts _ (List.mem_cons_of_mem _ mGA_1)) (by decide +kernel) ⟨Nat.le_trans (Nat.le_of_ble_eq_true rfl) hRf, Nat.le_trans (Nat.le_of_ble_eq_true rfl) hRl⟩, (hts _ (List.mem_cons_of_mem _ mGA_507)), trivial⟩) ⟨fun a U g mk q => by obtain ⟨q0, qP, qK, qZ⟩ := q; exact ⟨q0, qP, va_K.moved (u := U) (U := U.calling g mk a) (Vm.Alike.refl U.vm) qK, nzA_same (u := U) (U := U.calling g mk a) rfl qZ⟩, fun U hU hW => ⟨rfl, by rw [hU]; exact hPc, va_K.moved hW.alike hKc, nzA_warm hW hz⟩⟩ rfl rfl hl.1 rfl (lv_room (Nat.le_of_ble_eq_true rfl)) dX8_fullBits_65 ⟨hRc, hRs⟩) hS (fun q _ h => h.elim) (fun q h => h.elim) (fun r_238 u t H1 locs ht hvm hw hB hz1 hk1 hS => ?_)
          have hP := gz_keep hP hk1
          generalize H1 = H at hP hS ⊢
          have gr_238 : gi r_238 0 5 := hw
          refine lv_istore_n (lv' := [(3, .int r_238), (1, .int x_237), (0, .ref h0), (2, .int v2), (4, .int v4)]) hx hb dX8_fullBits_68 rfl hl (by decide) rfl (fun ls hl => ?_)
          obtain ⟨x_239, ex_239⟩ : ∃ y : Int32, y = v2 + 1 := ⟨_, rfl⟩
          have gx_239 : gi x_239 1 24 := gi_add ex_239 g_229 (gi_c 1 1 (by decide)) (by decide)
          refine lv_iinc (v := x_239) (lv' := [(2, .int x_239), (3, .int r_238), (1, .int x_237), (0, .ref h0), (4, .int v4)]) hx hb dX8_fullBits_69 hl (k := 3) rfl (by rw [ex_239]; rfl) (by decide) rfl (fun ls hl => ?_)
          obtain ⟨x_240, ex_240⟩ : ∃ y : Int32, y = v4 + 1 := ⟨_, rfl⟩
          have gx_240 : gi x_240 1 24 := gi_add ex_240 g_228 (gi_c 1 1 (by decide)) (by decide)
          refine lv_iinc (v := x_240) (lv' := [(4, .int x_240), (2, .int x_239), (3, .int r_238), (1, .int x_237), (0, .ref h0)]) hx hb dX8_fullBits_72 hl (k := 4) rfl (by rw [ex_240]; rfl) (by decide) rfl (fun ls hl => ?_)
          refine lv_goto (tgt := 9) hx hb dX8_fullBits_75 (by decide) ?_
          exact ih x_237 x_239 r_238 x_240 _ _ _ (gi_w gx_239 (by decide)) (gi_w gr_238 (by decide)) (gi_w gx_240 (by decide)) (by have qgx_240 := gx_240.1; have rgx_240 := gx_240.2; have igx_240 : x_240.toInt = v4.toInt + 1 := (by have hc1 : (1 : Int32).toInt = 1 := (by decide); have h9 := gi_addI ex_240 (by have h1 := g_228.1; have h2 := (gi_c 1 1 (by decide)).1; have h3 := g_228.2; have h4 := (gi_c 1 1 (by decide)).2; omega) (by have h1 := g_228.1; have h2 := (gi_c 1 1 (by decide)).1; have h3 := g_228.2; have h4 := (gi_c 1 1 (by decide)).2; omega); rw [hc1] at h9; exact h9); have qgv4 := g_228.1; have rgv4 := g_228.2; have qgx_239 := gx_239.1; have rgx_239 := gx_239.2; have igx_239 : x_239.toInt = v2.toInt + 1 := (by have hc1 : (1 : Int32).toInt = 1 := (by decide); have h9 := gi_addI ex_239 (by have h1 := g_229.1; have h2 := (gi_c 1 1 (by decide)).1; have h3 := g_229.2; have h4 := (gi_c 1 1 (by decide)).2; omega) (by have h1 := g_229.1; have h2 := (gi_c 1 1 (by decide)).1; have h3 := g_229.2; have h4 := (gi_c 1 1 (by decide)).2; omega); rw [hc1] at h9; exact h9); have qgv2 := g_229.1; have rgv2 := g_229.2; have y1 := (Int32.lt_iff_toInt_lt.mp (Int32.not_le.mp c_227)); have y2 := (Int32.lt_iff_toInt_lt.mp c_233); omega) (by have av4 := gv4.1; have bv4 := gv4.2; have qgx_240 := gx_240.1; have rgx_240 := gx_240.2; have igx_240 : x_240.toInt = v4.toInt + 1 := (by have hc1 : (1 : Int32).toInt = 1 := (by decide); have h9 := gi_addI ex_240 (by have h1 := g_228.1; have h2 := (gi_c 1 1 (by decide)).1; have h3 := g_228.2; have h4 := (gi_c 1 1 (by decide)).2; omega) (by have h1 := g_228.1; have h2 := (gi_c 1 1 (by decide)).1; have h3 := g_228.2; have h4 := (gi_c 1 1 (by decide)).2; omega); rw [hc1] at h9; exact h9); have qgv4 := g_228.1; have rgv4 := g_228.2; omega) hP hS (lv_sub hl [4, 3, 1, 2, 0] rfl)
        · refine lv_iload_n hx hb dX8_fullBits_37 rfl (lv_at hl 3 rfl) ?_
          refine lv_aload_n hx hb dX8_fullBits_38 rfl (lv_at hl 0 rfl) ?_
          refine va_get (D := (dC, dI)) (ci := 8) (v := .int full) (C := RX8) (T := TX8) (N := 5) hx hb hts (fun w h => List.mem_cons_of_mem _ (jnGA_X8 w h)) hown hK hP 0 rfl rfl 3 (by decide) (hts _ (List.mem_cons_of_mem _ mGA_785)) (fun _ h9 => h9) rfl dX8_fullBits_39 ?_
          refine lv_aload_n hx hb dX8_fullBits_42 rfl (lv_at hl 0 rfl) ?_
          refine va_get (D := (dC, dI)) (ci := 8) (v := .int lean) (C := RX8) (T := TX8) (N := 5) hx hb hts (fun w h => List.mem_cons_of_mem _ (jnGA_X8 w h)) hown hK hP 0 rfl rfl 4 (by decide) (hts _ (List.mem_cons_of_mem _ mGA_787)) (fun _ h9 => h9) rfl dX8_fullBits_43 ?_
          have hPc := hP.sub (ws' := []) [] rfl
          have hKc := hK.sub (tys' := []) [] rfl
          refine va_calli (va_runSN (As := [.int v3, .int full, .int lean]) (rest := []) ⟨hx, hb, hml, hown, hts⟩ (sX11_runWithLean l dC dI v3 full lean gv3 gfull glean) (⟨va_cnB 3 hts (gz_gP mGA_510 goodGA) rfl rfl rfl (nzA_X8_77 hz) (hts _ (List.mem_cons_of_mem _ mGA_1)) (by decide +kernel) ⟨Nat.le_trans (Nat.le_of_ble_eq_true rfl) hRf, Nat.le_trans (Nat.le_of_ble_eq_true rfl) hRl⟩, (hts _ (List.mem_cons_of_mem _ mGA_509)), trivial⟩) ⟨fun a U g mk q => by obtain ⟨q0, qP, qK, qZ⟩ := q; exact ⟨q0, qP, va_K.moved (u := U) (U := U.calling g mk a) (Vm.Alike.refl U.vm) qK, nzA_same (u := U) (U := U.calling g mk a) rfl qZ⟩, fun U hU hW => ⟨rfl, by rw [hU]; exact hPc, va_K.moved hW.alike hKc, nzA_warm hW hz⟩⟩ rfl rfl hl.1 rfl (lv_room (Nat.le_of_ble_eq_true rfl)) dX8_fullBits_46 ⟨hRc, hRs⟩) hS (fun q _ h => h.elim) (fun q h => h.elim) (fun r_241 u t H1 locs ht hvm hw hB hz1 hk1 hS => ?_)
          have hP := gz_keep hP hk1
          generalize H1 = H at hP hS ⊢
          have gr_241 : gi r_241 0 10 := hw
          refine lv_istore_n (lv' := [(3, .int r_241), (0, .ref h0), (1, .int v1), (2, .int v2), (4, .int v4)]) hx hb dX8_fullBits_49 rfl hl (by decide) rfl (fun ls hl => ?_)
          refine lv_goto (tgt := 72) hx hb dX8_fullBits_50 (by decide) ?_
          obtain ⟨x_242, ex_242⟩ : ∃ y : Int32, y = v4 + 1 := ⟨_, rfl⟩
          have gx_242 : gi x_242 1 24 := gi_add ex_242 g_228 (gi_c 1 1 (by decide)) (by decide)
          refine lv_iinc (v := x_242) (lv' := [(4, .int x_242), (3, .int r_241), (0, .ref h0), (1, .int v1), (2, .int v2)]) hx hb dX8_fullBits_72 hl (k := 4) rfl (by rw [ex_242]; rfl) (by decide) rfl (fun ls hl => ?_)
          refine lv_goto (tgt := 9) hx hb dX8_fullBits_75 (by decide) ?_
          exact ih v1 v2 r_241 x_242 _ _ _ (gi_w g_229 (by decide)) gr_241 (gi_w gx_242 (by decide)) (by have qgx_242 := gx_242.1; have rgx_242 := gx_242.2; have igx_242 : x_242.toInt = v4.toInt + 1 := (by have hc1 : (1 : Int32).toInt = 1 := (by decide); have h9 := gi_addI ex_242 (by have h1 := g_228.1; have h2 := (gi_c 1 1 (by decide)).1; have h3 := g_228.2; have h4 := (gi_c 1 1 (by decide)).2; omega) (by have h1 := g_228.1; have h2 := (gi_c 1 1 (by decide)).1; have h3 := g_228.2; have h4 := (gi_c 1 1 (by decide)).2; omega); rw [hc1] at h9; exact h9); have qgv4 := g_228.1; have rgv4 := g_228.2; have qgv2 := g_229.1; have rgv2 := g_229.2; have y1 := (Int32.lt_iff_toInt_lt.mp (Int32.not_le.mp c_227)); have y2 := (Int32.le_iff_toInt_le.mp (Int32.not_lt.mp c_233)); omega) (by have av4 := gv4.1; have bv4 := gv4.2; have qgx_242 := gx_242.1; have rgx_242 := gx_242.2; have igx_242 : x_242.toInt = v4.toInt + 1 := (by have hc1 : (1 : Int32).toInt = 1 := (by decide); have h9 := gi_addI ex_242 (by have h1 := g_228.1; have h2 := (gi_c 1 1 (by decide)).1; have h3 := g_228.2; have h4 := (gi_c 1 1 (by decide)).2; omega) (by have h1 := g_228.1; have h2 := (gi_c 1 1 (by decide)).1; have h3 := g_228.2; have h4 := (gi_c 1 1 (by decide)).2; omega); rw [hc1] at h9; exact h9); have qgv4 := g_228.1; have rgv4 := g_228.2; omega) hP hS (lv_sub hl [2, 3, 4, 1, 0] rfl)
set_option maxHeartbeats 4000000 in
set_option maxRecDepth 100000 in
theorem sX8_fullBits (l : Launch) (dC : Nat → ClassId) (dI : Nat → Nat → Nat) (h0 : Nat) (le : Nat) (co : Nat) (months : Int32) (full : Int32) (lean : Int32) (kle : ClassId) (fle : Nat → Int32) (gmonths : gi months 0 24) (gfull : gi full 0 5) (glean : gi lean 0 5) : Met l yX8_fullBits (.code yX8_fullBits cX8_fullBits 5 (some .int) :: wsGA) ({ frames := 3, cells := 0, slots := 0, locals := 66 }) (va_Pc [.ref h0] (fun U => va_P (dC, dI) vwCl [(h0, .inr (8, [.ref co, .ref le, .int months, .int full, .int lean])), (le, .inl (kle, 3575, .inl fle))] U.heap ∧ va_K (dC, dI) vwCl [(kle, .int)] U ∧ nzA U)) (va_Qi (fun (r : Int32) (u : Unit) => gi r (-2147483648) 2147483647) (fun _ _ => True) (fun _ => False)) 0 0 (fun _ => False) := by
  refine Met.ofW (cc := cX8_fullBits) (maxL := 5) (ret := (some .int)) (by decide) rfl ?_
  intro p e s m args below meth c s₁ B hml hv
  obtain ⟨rfl, hP, hK, hz⟩ := hv
  have hx := B.exec
  have hb := B.bytes
  have hr := B.returns
  have hts := atoms_spec (ws := (.code yX8_fullBits cX8_fullBits 5 (some .int) :: wsGA)) B.pre
  have hown : s.vm.findClass RX8 = some m.cls := findClass_of_methodNamed B.named
  have hlocks := B.notSynchronized
  have hS : va_S (fun _ => False) s.heap s.heap [] := va_S.rf
  have hl := lv_entry ([.ref h0]) (n := 5) (Nat.le_of_ble_eq_true rfl)
  rw [lg_entry_eq]
  generalize (lg_sl ([.ref h0]) ++ List.replicate (5 - (lg_sl ([.ref h0])).length) Slot.unset).toArray = ls at hl ⊢
  have hl : lv_has ls 5 [(0, .ref h0)] := hl
  refine lv_iconst (v := 0) hx hb dX8_fullBits_0 (by decide) ?_
  refine lv_istore_n (lv' := [(1, .int 0), (0, .ref h0)]) hx hb dX8_fullBits_1 rfl hl (by decide) rfl (fun ls hl => ?_)
  refine lv_iconst (v := 0) hx hb dX8_fullBits_2 (by decide) ?_
  refine lv_istore_n (lv' := [(2, .int 0), (1, .int 0), (0, .ref h0)]) hx hb dX8_fullBits_3 rfl hl (by decide) rfl (fun ls hl => ?_)
  refine lv_iconst (v := 0) hx hb dX8_fullBits_4 (by decide) ?_
  refine lv_istore_n (lv' := [(3, .int 0), (2, .int 0), (1, .int 0), (0, .ref h0)]) hx hb dX8_fullBits_5 rfl hl (by decide) rfl (fun ls hl => ?_)
  refine lv_iconst (v := 0) hx hb dX8_fullBits_6 (by decide) ?_
  refine lv_istore (lv' := [(4, .int 0), (3, .int 0), (2, .int 0), (1, .int 0), (0, .ref h0)]) hx hb dX8_fullBits_7 hl (by decide) rfl (fun ls hl => ?_)
  refine (lp_sX8_fullBits h0 le co months full lean kle fle gmonths gfull glean hx hb hml hown hts hK hz (Nat.le_of_ble_eq_true rfl) (Nat.le_of_ble_eq_true rfl) (Nat.zero_le _) (Nat.zero_le _) (fun v H locs ls hP hS hl => ?_) 62) 0 0 0 0 _ _ _ (gi_w (gi_c 0 0 (by decide)) (by decide)) (gi_w (gi_c 0 0 (by decide)) (by decide)) (gi_w (gi_c 0 0 (by decide)) (by decide)) (by have k0 : (0 : Int32).toInt = 0 := (by decide); have k0 : (0 : Int32).toInt = 0 := (by decide); omega) (by have k0 : (0 : Int32).toInt = 0 := (by decide); omega) hP hS (lv_sub hl [4, 3, 2, 1, 0] rfl)
  · skip
    exact W.iret (v := v) hx hb hr (fun t ht hW => ⟨⟨v, (), rfl, (gi_any v), trivial⟩, hS.F ht⟩) hS.2.2 dX8_fullBits_79
theorem dX12_earlyOf_0 : decode cX12_earlyOf 0 = .ok (.aload_n 0, 1) := by decide +kernel
theorem dX12_earlyOf_1 : decode cX12_earlyOf 1 = .ok (.getfield 132, 3) := by decide +kernel
theorem dX12_earlyOf_4 : decode cX12_earlyOf 4 = .ok (.iload_n 1, 1) := by decide +kernel
theorem dX12_earlyOf_5 : decode cX12_earlyOf 5 = .ok (.aload_n 0, 1) := by decide +kernel
theorem dX12_earlyOf_6 : decode cX12_earlyOf 6 = .ok (.getfield 135, 3) := by decide +kernel
theorem dX12_earlyOf_9 : decode cX12_earlyOf 9 = .ok (.imul, 1) := by decide +kernel
theorem dX12_earlyOf_10 : decode cX12_earlyOf 10 = .ok (.iadd, 1) := by decide +kernel
theorem dX12_earlyOf_11 : decode cX12_earlyOf 11 = .ok (.sipush 1000, 3) := by decide +kernel
theorem dX12_earlyOf_14 : decode cX12_earlyOf 14 = .ok (.idiv, 1) := by decide +kernel
theorem dX12_earlyOf_15 : decode cX12_earlyOf 15 = .ok (.ireturn, 1) := by decide +kernel
set_option maxHeartbeats 4000000 in
set_option maxRecDepth 100000 in
theorem sX12_earlyOf (l : Launch) (dC : Nat → ClassId) (dI : Nat → Nat → Nat) (h0 : Nat) (mi : Nat → Int32) (mr : Nat → Nat) (p1 : Int32) (gmi_0 : gi (mi 0) 0 24) (gmi_1 : gi (mi 1) 0 5) (gmi_2 : gi (mi 2) 0 5) (gmi_4 : gi (mi 4) 0 1) (gmi_7 : gi (mi 7) 0 6) (gmi_10 : gi (mi 10) 0 24) (gmi_17 : gi (mi 17) 0 8) (gmi_23 : gi (mi 23) 0 300) (gmi_24 : gi (mi 24) 0 1) (gmi_26 : gi (mi 26) 0 1600) (gmi_29 : gi (mi 29) 0 1600) (gmi_30 : gi (mi 30) 0 1600) (gmi_33 : gi (mi 33) 0 1) (gmi_37 : gi (mi 37) 0 1) (gmi_41 : gi (mi 41) 0 24) (gmi_50 : gi (mi 50) 0 1) (gmi_51 : gi (mi 51) 0 1) (gmi_56 : gi (mi 56) 0 80) : Met l yX12_earlyOf (.code yX12_earlyOf cX12_earlyOf 2 (some .int) :: wsGB) ({ frames := 0, cells := 0, slots := 0, locals := 0 }) (va_Pc [.ref h0, .int p1] (fun U => va_P (dC, dI) vwCl [(h0, .inr (12, fsMM mi mr))] U.heap ∧ va_K (dC, dI) vwCl [] U)) (va_Qi (fun (r : Int32) (u : Unit) => gi r (-2147483648) 2147483647) (fun _ _ => True) (fun _ => False)) 0 0 (fun _ => False) := by
  refine Met.ofW (cc := cX12_earlyOf) (maxL := 2) (ret := (some .int)) (by decide) rfl ?_
  intro p e s m args below meth c s₁ B hml hv
  obtain ⟨rfl, hP, hK⟩ := hv
  have hx := B.exec
  have hb := B.bytes
  have hr := B.returns
  have hts := atoms_spec (ws := (.code yX12_earlyOf cX12_earlyOf 2 (some .int) :: wsGB)) B.pre
  have hown : s.vm.findClass RX12 = some m.cls := findClass_of_methodNamed B.named
  have hlocks := B.notSynchronized
  have hS : va_S (fun _ => False) s.heap s.heap [] := va_S.rf
  have hl := lv_entry ([.ref h0, .int p1]) (n := 2) (Nat.le_of_ble_eq_true rfl)
  rw [lg_entry_eq]
  generalize (lg_sl ([.ref h0, .int p1]) ++ List.replicate (2 - (lg_sl ([.ref h0, .int p1])).length) Slot.unset).toArray = ls at hl ⊢
  have hl : lv_has ls 2 [(0, .ref h0), (1, .int p1)] := hl
  refine lv_aload_n hx hb dX12_earlyOf_0 rfl (lv_at hl 0 rfl) ?_
  refine va_get (D := (dC, dI)) (ci := 12) (v := .int (mi 5)) (C := RX12) (T := TX12) (N := 57) hx hb hts (fun w h => List.mem_cons_of_mem _ (jnGB_X12 w h)) hown hK hP 0 rfl rfl 5 (by decide) (hts _ (List.mem_cons_of_mem _ mGB_108)) (fun _ h9 => h9) rfl dX12_earlyOf_1 ?_
  refine lv_iload_n hx hb dX12_earlyOf_4 rfl (lv_at hl 1 rfl) ?_
  refine lv_aload_n hx hb dX12_earlyOf_5 rfl (lv_at hl 0 rfl) ?_
  refine va_get (D := (dC, dI)) (ci := 12) (v := .int (mi 6)) (C := RX12) (T := TX12) (N := 57) hx hb hts (fun w h => List.mem_cons_of_mem _ (jnGB_X12 w h)) hown hK hP 0 rfl rfl 6 (by decide) (hts _ (List.mem_cons_of_mem _ mGB_109)) (fun _ h9 => h9) rfl dX12_earlyOf_6 ?_
  refine lv_imul hx hb dX12_earlyOf_9 ?_
  refine lv_topi (fun x_4 ex_4 => ?_)
  refine lv_iadd hx hb dX12_earlyOf_10 ?_
  refine lv_topi (fun x_5 ex_5 => ?_)
  refine lv_sipush (v := 1000) hx hb dX12_earlyOf_11 (by decide) ?_
  refine lv_idiv hx hb dX12_earlyOf_14 (by decide) ?_
  refine lv_topi (fun x_6 ex_6 => ?_)
  exact W.iret (v := x_6) hx hb hr (fun t ht hW => ⟨⟨x_6, (), rfl, (gi_any x_6), trivial⟩, hS.F ht⟩) hS.2.2 dX12_earlyOf_15
theorem dX12_unpins_0 : decode cX12_unpins 0 = .ok (.iconst 0, 1) := by decide +kernel
theorem dX12_unpins_1 : decode cX12_unpins 1 = .ok (.istore_n 1, 1) := by decide +kernel
theorem dX12_unpins_2 : decode cX12_unpins 2 = .ok (.iload_n 1, 1) := by decide +kernel
theorem dX12_unpins_3 : decode cX12_unpins 3 = .ok (.bipush 24, 2) := by decide +kernel
theorem dX12_unpins_5 : decode cX12_unpins 5 = .ok (.if_icmp .gt 16, 3) := by decide +kernel
theorem dX12_unpins_8 : decode cX12_unpins 8 = .ok (.aload_n 0, 1) := by decide +kernel
theorem dX12_unpins_9 : decode cX12_unpins 9 = .ok (.getfield 63, 3) := by decide +kernel
theorem dX12_unpins_12 : decode cX12_unpins 12 = .ok (.iload_n 1, 1) := by decide +kernel
theorem dX12_unpins_13 : decode cX12_unpins 13 = .ok (.iconst (-1), 1) := by decide +kernel
theorem dX12_unpins_14 : decode cX12_unpins 14 = .ok (.iastore, 1) := by decide +kernel
theorem dX12_unpins_15 : decode cX12_unpins 15 = .ok (.iinc 1 1, 3) := by decide +kernel
theorem dX12_unpins_18 : decode cX12_unpins 18 = .ok (.goto (-16), 3) := by decide +kernel
theorem dX12_unpins_21 : decode cX12_unpins 21 = .ok (.return_, 1) := by decide +kernel
set_option maxHeartbeats 4000000 in
set_option maxRecDepth 100000 in
theorem lp_sX12_unpins {p : Program} {l : Launch} {e : Env} {R : Room} {s : State} {m : MethodId} {args : Array Value} {below : List Frame} {meth : Method} {c : Code} {Q : State → Prop} {A : Nat → Prop} {cells slots : Nat} {dC : Nat → ClassId} {dI : Nat → Nat → Nat} (h0 : Nat) (mi : Nat → Int32) (mr : Nat → Nat) (km_pin : ClassId) (fm_pin : Nat → Int32) (gmi_0 : gi (mi 0) 0 24) (gmi_1 : gi (mi 1) 0 5) (gmi_2 : gi (mi 2) 0 5) (gmi_4 : gi (mi 4) 0 1) (gmi_7 : gi (mi 7) 0 6) (gmi_10 : gi (mi 10) 0 24) (gmi_17 : gi (mi 17) 0 8) (gmi_23 : gi (mi 23) 0 300) (gmi_24 : gi (mi 24) 0 1) (gmi_26 : gi (mi 26) 0 1600) (gmi_29 : gi (mi 29) 0 1600) (gmi_30 : gi (mi 30) 0 1600) (gmi_33 : gi (mi 33) 0 1) (gmi_37 : gi (mi 37) 0 1) (gmi_41 : gi (mi 41) 0 24) (gmi_50 : gi (mi 50) 0 1) (gmi_51 : gi (mi 51) 0 1) (gmi_56 : gi (mi 56) 0 80) (hx : p.tables.exec = Jvm.exec) (hb : c.code = cX12_unpins) (hml : c.maxLocals = 2) (hown : s.vm.findClass RX12 = some m.cls) (hts : ∀ w ∈ ((.code yX12_unpins cX12_unpins 2 none :: wsGB) : List Cond), w.before args s = true) (hK : va_K (dC, dI) vwCl [(km_pin, .int)] s) (hA : ∀ q : Nat, s.heap.size ≤ q → A q) (hRf : 0 ≤ R.frames) (hRl : 0 ≤ R.locals) (hRc : cells ≤ R.cells) (hRs : slots ≤ R.slots) (kr21 : ∀ (z1 : Nat → Int32) (H : Heap) (locs : List Loc) (ls : Array Slot), va_P (dC, dI) vwCl [(h0, .inr (12, fsMM mi mr)), ((mr 16), .inl (km_pin, 25, .inl z1))] H → va_D A [(h0, .inr (12, fsMM mi mr)), ((mr 16), .inl (km_pin, 25, .inl z1))] → va_S A s.heap H locs → lv_has ls 2 [] → W p l e R s m args below meth c H locs cells slots Q (F0 m 21 ls [])) : ∀ z : Nat, (∀ (v1 : Int32) (z1 : Nat → Int32) (H : Heap) (locs : List Loc) (ls : Array Slot), gi v1 0 25 → 51 + (-2) * v1.toInt < (z : Int) → va_P (dC, dI) vwCl [(h0, .inr (12, fsMM mi mr)), ((mr 16), .inl (km_pin, 25, .inl z1))] H → va_D A [(h0, .inr (12, fsMM mi mr)), ((mr 16), .inl (km_pin, 25, .inl z1))] → va_S A s.heap H locs → lv_has ls 2 [(0, .ref h0), (1, .int v1)] → W p l e R s m args below meth c H locs cells slots Q (F0 m 2 ls [])) := by
  intro z
  induction z with
  | zero =>
    intro v1 z1 H locs ls gv1 hmu hP hD hS hl
    exact absurd hmu (by have hv11 := gv1.1; have hv12 := gv1.2; omega)
  | succ z ih =>
      intro v1 z1 H locs ls gv1 hmu hP hD hS hl
      refine lv_iload_n hx hb dX12_unpins_2 rfl (lv_at hl 1 rfl) ?_
      refine lv_bipush (v := 24) hx hb dX12_unpins_3 (by decide) ?_
      refine lv_icmp_gt (tgt := 21) hx hb dX12_unpins_5 (by decide) (fun c_51 => ?_) (fun c_51 => ?_)
      · have g_52 : gi v1 25 25 := gi_lt_r c_51 (gi_c 24 24 (by decide)) gv1 (by decide)
        exact kr21 z1 _ _ _ hP hD hS (lv_sub hl [] rfl)
      · have g_53 : gi v1 0 24 := gi_le_l (Int32.not_lt.mp c_51) gv1 (gi_c 24 24 (by decide))
        refine lv_aload_n hx hb dX12_unpins_8 rfl (lv_at hl 0 rfl) ?_
        refine va_get (D := (dC, dI)) (ci := 12) (v := .ref (mr 16)) (C := RX12) (T := TX12) (N := 57) hx hb hts (fun w h => List.mem_cons_of_mem _ (jnGB_X12 w h)) hown hK hP 0 rfl rfl 36 (by decide) (hts _ (List.mem_cons_of_mem _ mGB_28)) (fun _ h9 => h9) rfl dX12_unpins_9 ?_
        refine lv_iload_n hx hb dX12_unpins_12 rfl (lv_at hl 1 rfl) ?_
        refine lv_iconst (v := (-1)) hx hb dX12_unpins_13 (by decide) ?_
        refine va_iast hx hb hK hP hD hS 1 0 rfl rfl (gi_in g_53 (by decide)) dX12_unpins_14 (fun H locs hP hD hS => ?_)
        have hP : va_P (dC, dI) vwCl [(h0, .inr (12, fsMM mi mr)), ((mr 16), .inl (km_pin, 25, .inl (upd z1 (v1 : Int32).toNatClampNeg (-1))))] H := hP
        have hD : va_D A [(h0, .inr (12, fsMM mi mr)), ((mr 16), .inl (km_pin, 25, .inl (upd z1 (v1 : Int32).toNatClampNeg (-1))))] := hD
        generalize upd z1 (v1 : Int32).toNatClampNeg (-1) = f_54 at hP hD
        obtain ⟨x_55, ex_55⟩ : ∃ y : Int32, y = v1 + 1 := ⟨_, rfl⟩
        have gx_55 : gi x_55 1 25 := gi_add ex_55 g_53 (gi_c 1 1 (by decide)) (by decide)
        refine lv_iinc (v := x_55) (lv' := [(1, .int x_55), (0, .ref h0)]) hx hb dX12_unpins_15 hl (k := 1) rfl (by rw [ex_55]; rfl) (by decide) rfl (fun ls hl => ?_)
        refine lv_goto (tgt := 2) hx hb dX12_unpins_18 (by decide) ?_
        exact ih x_55 f_54 _ _ _ (gi_w gx_55 (by decide)) (by have av1 := gv1.1; have bv1 := gv1.2; have qgx_55 := gx_55.1; have rgx_55 := gx_55.2; have igx_55 : x_55.toInt = v1.toInt + 1 := (by have hc1 : (1 : Int32).toInt = 1 := (by decide); have h9 := gi_addI ex_55 (by have h1 := g_53.1; have h2 := (gi_c 1 1 (by decide)).1; have h3 := g_53.2; have h4 := (gi_c 1 1 (by decide)).2; omega) (by have h1 := g_53.1; have h2 := (gi_c 1 1 (by decide)).1; have h3 := g_53.2; have h4 := (gi_c 1 1 (by decide)).2; omega); rw [hc1] at h9; exact h9); have qgv1 := g_53.1; have rgv1 := g_53.2; omega) hP hD hS (lv_sub hl [1, 0] rfl)
set_option maxHeartbeats 4000000 in
set_option maxRecDepth 100000 in
theorem sX12_unpins (l : Launch) (dC : Nat → ClassId) (dI : Nat → Nat → Nat) (sz : Nat) (h0 : Nat) (mi : Nat → Int32) (mr : Nat → Nat) (km_pin : ClassId) (fm_pin : Nat → Int32) (gmi_0 : gi (mi 0) 0 24) (gmi_1 : gi (mi 1) 0 5) (gmi_2 : gi (mi 2) 0 5) (gmi_4 : gi (mi 4) 0 1) (gmi_7 : gi (mi 7) 0 6) (gmi_10 : gi (mi 10) 0 24) (gmi_17 : gi (mi 17) 0 8) (gmi_23 : gi (mi 23) 0 300) (gmi_24 : gi (mi 24) 0 1) (gmi_26 : gi (mi 26) 0 1600) (gmi_29 : gi (mi 29) 0 1600) (gmi_30 : gi (mi 30) 0 1600) (gmi_33 : gi (mi 33) 0 1) (gmi_37 : gi (mi 37) 0 1) (gmi_41 : gi (mi 41) 0 24) (gmi_50 : gi (mi 50) 0 1) (gmi_51 : gi (mi 51) 0 1) (gmi_56 : gi (mi 56) 0 80) : Met l yX12_unpins (.code yX12_unpins cX12_unpins 2 none :: wsGB) ({ frames := 0, cells := 0, slots := 0, locals := 0 }) (va_Pc [.ref h0] (fun U => U.heap.size = sz ∧ va_P (dC, dI) vwCl [(h0, .inr (12, fsMM mi mr)), ((mr 16), .inl (km_pin, 25, .inl fm_pin))] U.heap ∧ va_K (dC, dI) vwCl [(km_pin, .int)] U ∧ va_D (fun _ => True) [(h0, .inr (12, fsMM mi mr)), ((mr 16), .inl (km_pin, 25, .inl fm_pin))])) (va_Qv (fun (u : Unit) => True) (fun _ t => ∃ (z1 : Nat → Int32), va_P (dC, dI) vwCl [(h0, .inr (12, fsMM mi mr)), ((mr 16), .inl (km_pin, 25, .inl z1))] t.heap ∧ va_D (va_A [(h0, .inr (12, fsMM mi mr)), ((mr 16), .inl (km_pin, 25, .inl fm_pin))] sz) [(h0, .inr (12, fsMM mi mr)), ((mr 16), .inl (km_pin, 25, .inl z1))]) (va_A [(h0, .inr (12, fsMM mi mr)), ((mr 16), .inl (km_pin, 25, .inl fm_pin))] sz)) 0 0 (va_A [(h0, .inr (12, fsMM mi mr)), ((mr 16), .inl (km_pin, 25, .inl fm_pin))] sz) := by
  refine Met.ofW (cc := cX12_unpins) (maxL := 2) (ret := none) (by decide) rfl ?_
  intro p e s m args below meth c s₁ B hml hv
  obtain ⟨rfl, hsz, hP, hK, hD0⟩ := hv
  have hx := B.exec
  have hb := B.bytes
  have hr := B.returns
  have hts := atoms_spec (ws := (.code yX12_unpins cX12_unpins 2 none :: wsGB)) B.pre
  have hown : s.vm.findClass RX12 = some m.cls := findClass_of_methodNamed B.named
  have hlocks := B.notSynchronized
  subst hsz
  have hD := hD0.self (sz := s.heap.size)
  generalize hAe : va_A [(h0, .inr (12, fsMM mi mr)), ((mr 16), .inl (km_pin, 25, .inl fm_pin))] s.heap.size = A at hD ⊢
  have hA : ∀ q : Nat, s.heap.size ≤ q → A q := fun q h => by rw [← hAe]; exact Or.inr h
  have hS : va_S A s.heap s.heap [] := va_S.rf
  have hl := lv_entry ([.ref h0]) (n := 2) (Nat.le_of_ble_eq_true rfl)
  rw [lg_entry_eq]
  generalize (lg_sl ([.ref h0]) ++ List.replicate (2 - (lg_sl ([.ref h0])).length) Slot.unset).toArray = ls at hl ⊢
  have hl : lv_has ls 2 [(0, .ref h0)] := hl
  refine lv_iconst (v := 0) hx hb dX12_unpins_0 (by decide) ?_
  refine lv_istore_n (lv' := [(1, .int 0), (0, .ref h0)]) hx hb dX12_unpins_1 rfl hl (by decide) rfl (fun ls hl => ?_)
  refine (lp_sX12_unpins h0 mi mr km_pin fm_pin gmi_0 gmi_1 gmi_2 gmi_4 gmi_7 gmi_10 gmi_17 gmi_23 gmi_24 gmi_26 gmi_29 gmi_30 gmi_33 gmi_37 gmi_41 gmi_50 gmi_51 gmi_56 hx hb hml hown hts hK hA (Nat.le_of_ble_eq_true rfl) (Nat.le_of_ble_eq_true rfl) (Nat.zero_le _) (Nat.zero_le _) (fun z1 H locs ls hP hD hS hl => ?_) 64) 0 fm_pin _ _ _ (gi_w (gi_c 0 0 (by decide)) (by decide)) (by have k0 : (0 : Int32).toInt = 0 := (by decide); omega) hP hD hS (lv_sub hl [1, 0] rfl)
  · skip
    exact W.vret hx hb hr (fun t ht hW => ⟨⟨(), rfl, trivial, z1, by rw [ht]; exact hP, hD⟩, hS.F ht⟩) hS.2.2 dX12_unpins_21
theorem dX12_frees_0 : decode cX12_frees 0 = .ok (.aload_n 0, 1) := by decide +kernel
theorem dX12_frees_1 : decode cX12_frees 1 = .ok (.iconst 0, 1) := by decide +kernel
theorem dX12_frees_2 : decode cX12_frees 2 = .ok (.putfield 312, 3) := by decide +kernel
theorem dX12_frees_5 : decode cX12_frees 5 = .ok (.iconst 0, 1) := by decide +kernel
theorem dX12_frees_6 : decode cX12_frees 6 = .ok (.istore_n 1, 1) := by decide +kernel
theorem dX12_frees_7 : decode cX12_frees 7 = .ok (.iload_n 1, 1) := by decide +kernel
theorem dX12_frees_8 : decode cX12_frees 8 = .ok (.bipush 24, 2) := by decide +kernel
theorem dX12_frees_10 : decode cX12_frees 10 = .ok (.if_icmp .gt 23, 3) := by decide +kernel
theorem dX12_frees_13 : decode cX12_frees 13 = .ok (.aload_n 0, 1) := by decide +kernel
theorem dX12_frees_14 : decode cX12_frees 14 = .ok (.getfield 57, 3) := by decide +kernel
theorem dX12_frees_17 : decode cX12_frees 17 = .ok (.iload_n 1, 1) := by decide +kernel
theorem dX12_frees_18 : decode cX12_frees 18 = .ok (.iconst (-1), 1) := by decide +kernel
theorem dX12_frees_19 : decode cX12_frees 19 = .ok (.iastore, 1) := by decide +kernel
theorem dX12_frees_20 : decode cX12_frees 20 = .ok (.aload_n 0, 1) := by decide +kernel
theorem dX12_frees_21 : decode cX12_frees 21 = .ok (.getfield 60, 3) := by decide +kernel
theorem dX12_frees_24 : decode cX12_frees 24 = .ok (.iload_n 1, 1) := by decide +kernel
theorem dX12_frees_25 : decode cX12_frees 25 = .ok (.iconst 0, 1) := by decide +kernel
theorem dX12_frees_26 : decode cX12_frees 26 = .ok (.iastore, 1) := by decide +kernel
theorem dX12_frees_27 : decode cX12_frees 27 = .ok (.iinc 1 1, 3) := by decide +kernel
theorem dX12_frees_30 : decode cX12_frees 30 = .ok (.goto (-23), 3) := by decide +kernel
theorem dX12_frees_33 : decode cX12_frees 33 = .ok (.aload_n 0, 1) := by decide +kernel
theorem dX12_frees_34 : decode cX12_frees 34 = .ok (.invokevirtual 315, 3) := by decide +kernel
theorem dX12_frees_37 : decode cX12_frees 37 = .ok (.return_, 1) := by decide +kernel
set_option maxHeartbeats 4000000 in
set_option maxRecDepth 100000 in
theorem lp_sX12_frees {p : Program} {l : Launch} {e : Env} {R : Room} {s : State} {m : MethodId} {args : Array Value} {below : List Frame} {meth : Method} {c : Code} {Q : State → Prop} {A : Nat → Prop} {cells slots : Nat} {dC : Nat → ClassId} {dI : Nat → Nat → Nat} (h0 : Nat) (mi : Nat → Int32) (mr : Nat → Nat) (km_must : ClassId) (fm_must : Nat → Int32) (km_least : ClassId) (fm_least : Nat → Int32) (km_pin : ClassId) (fm_pin : Nat → Int32) (gmi_0 : gi (mi 0) 0 24) (gmi_1 : gi (mi 1) 0 5) (gmi_2 : gi (mi 2) 0 5) (gmi_4 : gi (mi 4) 0 1) (gmi_7 : gi (mi 7) 0 6) (gmi_10 : gi (mi 10) 0 24) (gmi_17 : gi (mi 17) 0 8) (gmi_23 : gi (mi 23) 0 300) (gmi_24 : gi (mi 24) 0 1) (gmi_26 : gi (mi 26) 0 1600) (gmi_29 : gi (mi 29) 0 1600) (gmi_30 : gi (mi 30) 0 1600) (gmi_33 : gi (mi 33) 0 1) (gmi_37 : gi (mi 37) 0 1) (gmi_41 : gi (mi 41) 0 24) (gmi_50 : gi (mi 50) 0 1) (gmi_51 : gi (mi 51) 0 1) (gmi_56 : gi (mi 56) 0 80) (hx : p.tables.exec = Jvm.exec) (hb : c.code = cX12_frees) (hml : c.maxLocals = 2) (hown : s.vm.findClass RX12 = some m.cls) (hts : ∀ w ∈ ((.code yX12_frees cX12_frees 2 none :: wsGB) : List Cond), w.before args s = true) (hK : va_K (dC, dI) vwCl [(km_must, .int), (km_least, .int), (km_pin, .int)] s) (hA : ∀ q : Nat, s.heap.size ≤ q → A q) (hRf : 1 ≤ R.frames) (hRl : 21 ≤ R.locals) (hRc : cells ≤ R.cells) (hRs : slots ≤ R.slots) (kr37 : ∀ (w0_37 : Int32) (z1 : Nat → Int32) (z2 : Nat → Int32) (z3 : Nat → Int32) (H : Heap) (locs : List Loc) (ls : Array Slot), gi w0_37 0 1 → va_P (dC, dI) vwCl [(h0, .inr (12, fsMM (upd mi 37 w0_37) mr)), ((mr 14), .inl (km_must, 25, .inl z1)), ((mr 15), .inl (km_least, 25, .inl z2)), ((mr 16), .inl (km_pin, 25, .inl z3))] H → va_D A [(h0, .inr (12, fsMM (upd mi 37 w0_37) mr)), ((mr 14), .inl (km_must, 25, .inl z1)), ((mr 15), .inl (km_least, 25, .inl z2)), ((mr 16), .inl (km_pin, 25, .inl z3))] → va_S A s.heap H locs → lv_has ls 2 [] → W p l e R s m args below meth c H locs cells slots Q (F0 m 37 ls [])) : ∀ z : Nat, (∀ (v1 : Int32) (w0_37 : Int32) (z1 : Nat → Int32) (z2 : Nat → Int32) (H : Heap) (locs : List Loc) (ls : Array Slot), gi v1 0 25 → gi w0_37 0 1 → 51 + (-2) * v1.toInt < (z : Int) → va_P (dC, dI) vwCl [(h0, .inr (12, fsMM (upd mi 37 w0_37) mr)), ((mr 14), .inl (km_must, 25, .inl z1)), ((mr 15), .inl (km_least, 25, .inl z2)), ((mr 16), .inl (km_pin, 25, .inl fm_pin))] H → va_D A [(h0, .inr (12, fsMM (upd mi 37 w0_37) mr)), ((mr 14), .inl (km_must, 25, .inl z1)), ((mr 15), .inl (km_least, 25, .inl z2)), ((mr 16), .inl (km_pin, 25, .inl fm_pin))] → va_S A s.heap H locs → lv_has ls 2 [(0, .ref h0), (1, .int v1)] → W p l e R s m args below meth c H locs cells slots Q (F0 m 7 ls [])) := by
  intro z
  induction z with
  | zero =>
    intro v1 w0_37 z1 z2 H locs ls gv1 gw0_37 hmu hP hD hS hl
    exact absurd hmu (by have hv11 := gv1.1; have hv12 := gv1.2; omega)
  | succ z ih =>
      intro v1 w0_37 z1 z2 H locs ls gv1 gw0_37 hmu hP hD hS hl
      refine lv_iload_n hx hb dX12_frees_7 rfl (lv_at hl 1 rfl) ?_
      refine lv_bipush (v := 24) hx hb dX12_frees_8 (by decide) ?_
      refine lv_icmp_gt (tgt := 33) hx hb dX12_frees_10 (by decide) (fun c_77 => ?_) (fun c_77 => ?_)
      · have g_78 : gi v1 25 25 := gi_lt_r c_77 (gi_c 24 24 (by decide)) gv1 (by decide)
        refine lv_aload_n hx hb dX12_frees_33 rfl (lv_at hl 0 rfl) ?_
        have hPc := hP.sub (ws' := [(h0, .inr (12, fsMM (upd mi 37 w0_37) mr)), ((mr 16), .inl (km_pin, 25, .inl fm_pin))]) [0, 3] rfl
        have hKc := hK.sub (tys' := [(km_pin, .int)]) [2] rfl
        have hDc := hD.sub (ws' := [(h0, .inr (12, fsMM (upd mi 37 w0_37) mr)), ((mr 16), .inl (km_pin, 25, .inl fm_pin))]) [0, 3] (by decide) rfl
        have hFc := va_free (wc := [(h0, .inr (12, fsMM (upd mi 37 w0_37) mr)), ((mr 16), .inl (km_pin, 25, .inl fm_pin))]) hD hS hA [0, 3] rfl
        refine va_callv (va_runV (As := []) (rest := []) ⟨hx, hb, hml, hown, hts⟩ (sX12_unpins l dC dI H.size h0 (upd mi 37 w0_37) mr km_pin fm_pin gmi_0 gmi_1 gmi_2 gmi_4 gmi_7 gmi_10 gmi_17 gmi_23 gmi_24 gmi_26 gmi_29 gmi_30 gmi_33 gw0_37 gmi_41 gmi_50 gmi_51 gmi_56) (cwV 0 hts (gz_gV mGB_271 mGB_272 mGB_273 mGB_1 mGB_274 goodGB) rfl rfl rfl (by decide +kernel) ⟨Nat.le_trans (Nat.le_of_ble_eq_true rfl) hRf, Nat.le_trans (Nat.le_of_ble_eq_true rfl) hRl⟩) ⟨fun a U g mk q => by obtain ⟨q0, q1, qP, qK, qD⟩ := q; exact ⟨q0, q1, qP, va_K.moved (u := U) (U := U.calling g mk a) (Vm.Alike.refl U.vm) qK, qD⟩, va_recv hKc hPc (ci := 12) (q0 := 0) rfl rfl, fun U hU hW => ⟨rfl, by rw [hU], by rw [hU]; exact hPc, va_K.moved hW.alike hKc, hDc.weaken (fun _ _ _ _ => trivial)⟩⟩ rfl rfl hl.1 rfl (lv_room (Nat.le_of_ble_eq_true rfl)) dX12_frees_34 ⟨hRc, hRs⟩) hS (fun q _ h => hFc q h) hFc (fun u t H1 locs ht hvm hw hB hz1 hk1 hS => ?_)
        obtain ⟨f_80, hP1, hD1⟩ := hB
        rw [ht] at hP1
        obtain ⟨hP, hD⟩ := va_join (wr := [((mr 14), .inl (km_must, 25, .inl z1)), ((mr 15), .inl (km_least, 25, .inl z2))]) (w1 := [(h0, .inr (12, fsMM (upd mi 37 w0_37) mr)), ((mr 16), .inl (km_pin, 25, .inl f_80))]) hP hD [0, 3] [1, 2] rfl rfl (by decide) (by decide) hk1 hFc hP1 hD1
        have hP := hP.sub (ws' := [(h0, .inr (12, fsMM (upd mi 37 w0_37) mr)), ((mr 14), .inl (km_must, 25, .inl z1)), ((mr 15), .inl (km_least, 25, .inl z2)), ((mr 16), .inl (km_pin, 25, .inl f_80))]) [2, 0, 1, 3] rfl
        have hD := hD.sub (ws' := [(h0, .inr (12, fsMM (upd mi 37 w0_37) mr)), ((mr 14), .inl (km_must, 25, .inl z1)), ((mr 15), .inl (km_least, 25, .inl z2)), ((mr 16), .inl (km_pin, 25, .inl f_80))]) [2, 0, 1, 3] (by decide) rfl
        generalize H1 = H at hP hS ⊢
        exact kr37 w0_37 z1 z2 f_80 _ _ _ gw0_37 hP hD hS (lv_sub hl [] rfl)
      · have g_81 : gi v1 0 24 := gi_le_l (Int32.not_lt.mp c_77) gv1 (gi_c 24 24 (by decide))
        refine lv_aload_n hx hb dX12_frees_13 rfl (lv_at hl 0 rfl) ?_
        refine va_get (D := (dC, dI)) (ci := 12) (v := .ref (mr 14)) (C := RX12) (T := TX12) (N := 57) hx hb hts (fun w h => List.mem_cons_of_mem _ (jnGB_X12 w h)) hown hK hP 0 rfl rfl 34 (by decide) (hts _ (List.mem_cons_of_mem _ mGB_26)) (fun _ h9 => h9) rfl dX12_frees_14 ?_
        refine lv_iload_n hx hb dX12_frees_17 rfl (lv_at hl 1 rfl) ?_
        refine lv_iconst (v := (-1)) hx hb dX12_frees_18 (by decide) ?_
        refine va_iast hx hb hK hP hD hS 1 0 rfl rfl (gi_in g_81 (by decide)) dX12_frees_19 (fun H locs hP hD hS => ?_)
        have hP : va_P (dC, dI) vwCl [(h0, .inr (12, fsMM (upd mi 37 w0_37) mr)), ((mr 14), .inl (km_must, 25, .inl (upd z1 (v1 : Int32).toNatClampNeg (-1)))), ((mr 15), .inl (km_least, 25, .inl z2)), ((mr 16), .inl (km_pin, 25, .inl fm_pin))] H := hP
        have hD : va_D A [(h0, .inr (12, fsMM (upd mi 37 w0_37) mr)), ((mr 14), .inl (km_must, 25, .inl (upd z1 (v1 : Int32).toNatClampNeg (-1)))), ((mr 15), .inl (km_least, 25, .inl z2)), ((mr 16), .inl (km_pin, 25, .inl fm_pin))] := hD
        generalize upd z1 (v1 : Int32).toNatClampNeg (-1) = f_82 at hP hD
        refine lv_aload_n hx hb dX12_frees_20 rfl (lv_at hl 0 rfl) ?_
        refine va_get (D := (dC, dI)) (ci := 12) (v := .ref (mr 15)) (C := RX12) (T := TX12) (N := 57) hx hb hts (fun w h => List.mem_cons_of_mem _ (jnGB_X12 w h)) hown hK hP 0 rfl rfl 35 (by decide) (hts _ (List.mem_cons_of_mem _ mGB_27)) (fun _ h9 => h9) rfl dX12_frees_21 ?_
        refine lv_iload_n hx hb dX12_frees_24 rfl (lv_at hl 1 rfl) ?_
        refine lv_iconst (v := 0) hx hb dX12_frees_25 (by decide) ?_
        refine va_iast hx hb hK hP hD hS 2 1 rfl rfl (gi_in g_81 (by decide)) dX12_frees_26 (fun H locs hP hD hS => ?_)
        have hP : va_P (dC, dI) vwCl [(h0, .inr (12, fsMM (upd mi 37 w0_37) mr)), ((mr 14), .inl (km_must, 25, .inl f_82)), ((mr 15), .inl (km_least, 25, .inl (upd z2 (v1 : Int32).toNatClampNeg 0))), ((mr 16), .inl (km_pin, 25, .inl fm_pin))] H := hP
        have hD : va_D A [(h0, .inr (12, fsMM (upd mi 37 w0_37) mr)), ((mr 14), .inl (km_must, 25, .inl f_82)), ((mr 15), .inl (km_least, 25, .inl (upd z2 (v1 : Int32).toNatClampNeg 0))), ((mr 16), .inl (km_pin, 25, .inl fm_pin))] := hD
        generalize upd z2 (v1 : Int32).toNatClampNeg 0 = f_83 at hP hD
        obtain ⟨x_84, ex_84⟩ : ∃ y : Int32, y = v1 + 1 := ⟨_, rfl⟩
        have gx_84 : gi x_84 1 25 := gi_add ex_84 g_81 (gi_c 1 1 (by decide)) (by decide)
        refine lv_iinc (v := x_84) (lv' := [(1, .int x_84), (0, .ref h0)]) hx hb dX12_frees_27 hl (k := 1) rfl (by rw [ex_84]; rfl) (by decide) rfl (fun ls hl => ?_)
        refine lv_goto (tgt := 7) hx hb dX12_frees_30 (by decide) ?_
        exact ih x_84 w0_37 f_82 f_83 _ _ _ (gi_w gx_84 (by decide)) gw0_37 (by have av1 := gv1.1; have bv1 := gv1.2; have qgx_84 := gx_84.1; have rgx_84 := gx_84.2; have igx_84 : x_84.toInt = v1.toInt + 1 := (by have hc1 : (1 : Int32).toInt = 1 := (by decide); have h9 := gi_addI ex_84 (by have h1 := g_81.1; have h2 := (gi_c 1 1 (by decide)).1; have h3 := g_81.2; have h4 := (gi_c 1 1 (by decide)).2; omega) (by have h1 := g_81.1; have h2 := (gi_c 1 1 (by decide)).1; have h3 := g_81.2; have h4 := (gi_c 1 1 (by decide)).2; omega); rw [hc1] at h9; exact h9); have qgv1 := g_81.1; have rgv1 := g_81.2; omega) hP hD hS (lv_sub hl [1, 0] rfl)
set_option maxHeartbeats 4000000 in
set_option maxRecDepth 100000 in
theorem sX12_frees (l : Launch) (dC : Nat → ClassId) (dI : Nat → Nat → Nat) (sz : Nat) (h0 : Nat) (mi : Nat → Int32) (mr : Nat → Nat) (km_must : ClassId) (fm_must : Nat → Int32) (km_least : ClassId) (fm_least : Nat → Int32) (km_pin : ClassId) (fm_pin : Nat → Int32) (gmi_0 : gi (mi 0) 0 24) (gmi_1 : gi (mi 1) 0 5) (gmi_2 : gi (mi 2) 0 5) (gmi_4 : gi (mi 4) 0 1) (gmi_7 : gi (mi 7) 0 6) (gmi_10 : gi (mi 10) 0 24) (gmi_17 : gi (mi 17) 0 8) (gmi_23 : gi (mi 23) 0 300) (gmi_24 : gi (mi 24) 0 1) (gmi_26 : gi (mi 26) 0 1600) (gmi_29 : gi (mi 29) 0 1600) (gmi_30 : gi (mi 30) 0 1600) (gmi_33 : gi (mi 33) 0 1) (gmi_37 : gi (mi 37) 0 1) (gmi_41 : gi (mi 41) 0 24) (gmi_50 : gi (mi 50) 0 1) (gmi_51 : gi (mi 51) 0 1) (gmi_56 : gi (mi 56) 0 80) : Met l yX12_frees (.code yX12_frees cX12_frees 2 none :: wsGB) ({ frames := 1, cells := 0, slots := 0, locals := 21 }) (va_Pc [.ref h0] (fun U => U.heap.size = sz ∧ va_P (dC, dI) vwCl [(h0, .inr (12, fsMM mi mr)), ((mr 14), .inl (km_must, 25, .inl fm_must)), ((mr 15), .inl (km_least, 25, .inl fm_least)), ((mr 16), .inl (km_pin, 25, .inl fm_pin))] U.heap ∧ va_K (dC, dI) vwCl [(km_must, .int), (km_least, .int), (km_pin, .int)] U ∧ va_D (fun _ => True) [(h0, .inr (12, fsMM mi mr)), ((mr 14), .inl (km_must, 25, .inl fm_must)), ((mr 15), .inl (km_least, 25, .inl fm_least)), ((mr 16), .inl (km_pin, 25, .inl fm_pin))])) (va_Qv (fun (u : Unit) => True) (fun _ t => ∃ (w0_37 : Int32) (z1 : Nat → Int32) (z2 : Nat → Int32) (z3 : Nat → Int32), gi w0_37 0 1 ∧ va_P (dC, dI) vwCl [(h0, .inr (12, fsMM (upd mi 37 w0_37) mr)), ((mr 14), .inl (km_must, 25, .inl z1)), ((mr 15), .inl (km_least, 25, .inl z2)), ((mr 16), .inl (km_pin, 25, .inl z3))] t.heap ∧ va_D (va_A [(h0, .inr (12, fsMM mi mr)), ((mr 14), .inl (km_must, 25, .inl fm_must)), ((mr 15), .inl (km_least, 25, .inl fm_least)), ((mr 16), .inl (km_pin, 25, .inl fm_pin))] sz) [(h0, .inr (12, fsMM (upd mi 37 w0_37) mr)), ((mr 14), .inl (km_must, 25, .inl z1)), ((mr 15), .inl (km_least, 25, .inl z2)), ((mr 16), .inl (km_pin, 25, .inl z3))]) (va_A [(h0, .inr (12, fsMM mi mr)), ((mr 14), .inl (km_must, 25, .inl fm_must)), ((mr 15), .inl (km_least, 25, .inl fm_least)), ((mr 16), .inl (km_pin, 25, .inl fm_pin))] sz)) 0 0 (va_A [(h0, .inr (12, fsMM mi mr)), ((mr 14), .inl (km_must, 25, .inl fm_must)), ((mr 15), .inl (km_least, 25, .inl fm_least)), ((mr 16), .inl (km_pin, 25, .inl fm_pin))] sz) := by
  refine Met.ofW (cc := cX12_frees) (maxL := 2) (ret := none) (by decide) rfl ?_
  intro p e s m args below meth c s₁ B hml hv
  obtain ⟨rfl, hsz, hP, hK, hD0⟩ := hv
  have hx := B.exec
  have hb := B.bytes
  have hr := B.returns
  have hts := atoms_spec (ws := (.code yX12_frees cX12_frees 2 none :: wsGB)) B.pre
  have hown : s.vm.findClass RX12 = some m.cls := findClass_of_methodNamed B.named
  have hlocks := B.notSynchronized
  subst hsz
  have hD := hD0.self (sz := s.heap.size)
  generalize hAe : va_A [(h0, .inr (12, fsMM mi mr)), ((mr 14), .inl (km_must, 25, .inl fm_must)), ((mr 15), .inl (km_least, 25, .inl fm_least)), ((mr 16), .inl (km_pin, 25, .inl fm_pin))] s.heap.size = A at hD ⊢
  have hA : ∀ q : Nat, s.heap.size ≤ q → A q := fun q h => by rw [← hAe]; exact Or.inr h
  have hS : va_S A s.heap s.heap [] := va_S.rf
  have hl := lv_entry ([.ref h0]) (n := 2) (Nat.le_of_ble_eq_true rfl)
  rw [lg_entry_eq]
  generalize (lg_sl ([.ref h0]) ++ List.replicate (2 - (lg_sl ([.ref h0])).length) Slot.unset).toArray = ls at hl ⊢
  have hl : lv_has ls 2 [(0, .ref h0)] := hl
  refine lv_aload_n hx hb dX12_frees_0 rfl (lv_at hl 0 rfl) ?_
  refine lv_iconst (v := 0) hx hb dX12_frees_1 (by decide) ?_
  refine va_put (D := (dC, dI)) (ci := 12) (v := .int 0) (ty := .boolean) (C := RX12) (T := TX12) (N := 57) hx hb hts (fun w h => List.mem_cons_of_mem _ (jnGB_X12 w h)) tyX12 tyX12_ok nmX12 hown hK hP hD hS 0 rfl rfl 37 (by decide) (hts _ (List.mem_cons_of_mem _ mGB_270)) (fun _ h9 => h9) rfl (by decide +kernel) rfl rfl (Nat.le_of_ble_eq_true rfl) dX12_frees_2 (fun H locs hP hD hS => ?_)
  have hP : va_P (dC, dI) vwCl [(h0, .inr (12, fsMM (upd mi 37 0) mr)), ((mr 14), .inl (km_must, 25, .inl fm_must)), ((mr 15), .inl (km_least, 25, .inl fm_least)), ((mr 16), .inl (km_pin, 25, .inl fm_pin))] H := hP
  have hD : va_D A [(h0, .inr (12, fsMM (upd mi 37 0) mr)), ((mr 14), .inl (km_must, 25, .inl fm_must)), ((mr 15), .inl (km_least, 25, .inl fm_least)), ((mr 16), .inl (km_pin, 25, .inl fm_pin))] := hD
  refine lv_iconst (v := 0) hx hb dX12_frees_5 (by decide) ?_
  refine lv_istore_n (lv' := [(1, .int 0), (0, .ref h0)]) hx hb dX12_frees_6 rfl hl (by decide) rfl (fun ls hl => ?_)
  refine (lp_sX12_frees h0 mi mr km_must fm_must km_least fm_least km_pin fm_pin gmi_0 gmi_1 gmi_2 gmi_4 gmi_7 gmi_10 gmi_17 gmi_23 gmi_24 gmi_26 gmi_29 gmi_30 gmi_33 gmi_37 gmi_41 gmi_50 gmi_51 gmi_56 hx hb hml hown hts hK hA (Nat.le_of_ble_eq_true rfl) (Nat.le_of_ble_eq_true rfl) (Nat.zero_le _) (Nat.zero_le _) (fun w0_37 z1 z2 z3 H locs ls gw0_37 hP hD hS hl => ?_) 64) 0 0 fm_must fm_least _ _ _ (gi_w (gi_c 0 0 (by decide)) (by decide)) (gi_w (gi_c 0 0 (by decide)) (by decide)) (by have k0 : (0 : Int32).toInt = 0 := (by decide); omega) hP hD hS (lv_sub hl [1, 0] rfl)
  · skip
    exact W.vret hx hb hr (fun t ht hW => ⟨⟨(), rfl, trivial, w0_37, z1, z2, z3, gw0_37, by rw [ht]; exact hP, hD⟩, hS.F ht⟩) hS.2.2 dX12_frees_37
theorem dX12_isOpen_0 : decode cX12_isOpen 0 = .ok (.aload_n 0, 1) := by decide +kernel
theorem dX12_isOpen_1 : decode cX12_isOpen 1 = .ok (.getfield 57, 3) := by decide +kernel
theorem dX12_isOpen_4 : decode cX12_isOpen 4 = .ok (.iload_n 1, 1) := by decide +kernel
theorem dX12_isOpen_5 : decode cX12_isOpen 5 = .ok (.iaload, 1) := by decide +kernel
theorem dX12_isOpen_6 : decode cX12_isOpen 6 = .ok (.iconst (-1), 1) := by decide +kernel
theorem dX12_isOpen_7 : decode cX12_isOpen 7 = .ok (.if_icmp .eq 13, 3) := by decide +kernel
theorem dX12_isOpen_10 : decode cX12_isOpen 10 = .ok (.aload_n 0, 1) := by decide +kernel
theorem dX12_isOpen_11 : decode cX12_isOpen 11 = .ok (.getfield 57, 3) := by decide +kernel
theorem dX12_isOpen_14 : decode cX12_isOpen 14 = .ok (.iload_n 1, 1) := by decide +kernel
theorem dX12_isOpen_15 : decode cX12_isOpen 15 = .ok (.iaload, 1) := by decide +kernel
theorem dX12_isOpen_16 : decode cX12_isOpen 16 = .ok (.iload_n 2, 1) := by decide +kernel
theorem dX12_isOpen_17 : decode cX12_isOpen 17 = .ok (.if_icmp .ne 37, 3) := by decide +kernel
theorem dX12_isOpen_20 : decode cX12_isOpen 20 = .ok (.iload_n 2, 1) := by decide +kernel
theorem dX12_isOpen_21 : decode cX12_isOpen 21 = .ok (.aload_n 0, 1) := by decide +kernel
theorem dX12_isOpen_22 : decode cX12_isOpen 22 = .ok (.getfield 60, 3) := by decide +kernel
theorem dX12_isOpen_25 : decode cX12_isOpen 25 = .ok (.iload_n 1, 1) := by decide +kernel
theorem dX12_isOpen_26 : decode cX12_isOpen 26 = .ok (.iaload, 1) := by decide +kernel
theorem dX12_isOpen_27 : decode cX12_isOpen 27 = .ok (.if_icmp .lt 27, 3) := by decide +kernel
theorem dX12_isOpen_30 : decode cX12_isOpen 30 = .ok (.aload_n 0, 1) := by decide +kernel
theorem dX12_isOpen_31 : decode cX12_isOpen 31 = .ok (.getfield 63, 3) := by decide +kernel
theorem dX12_isOpen_34 : decode cX12_isOpen 34 = .ok (.iload_n 1, 1) := by decide +kernel
theorem dX12_isOpen_35 : decode cX12_isOpen 35 = .ok (.iaload, 1) := by decide +kernel
theorem dX12_isOpen_36 : decode cX12_isOpen 36 = .ok (.iconst (-1), 1) := by decide +kernel
theorem dX12_isOpen_37 : decode cX12_isOpen 37 = .ok (.if_icmp .eq 13, 3) := by decide +kernel
theorem dX12_isOpen_40 : decode cX12_isOpen 40 = .ok (.aload_n 0, 1) := by decide +kernel
theorem dX12_isOpen_41 : decode cX12_isOpen 41 = .ok (.getfield 63, 3) := by decide +kernel
theorem dX12_isOpen_44 : decode cX12_isOpen 44 = .ok (.iload_n 1, 1) := by decide +kernel
theorem dX12_isOpen_45 : decode cX12_isOpen 45 = .ok (.iaload, 1) := by decide +kernel
theorem dX12_isOpen_46 : decode cX12_isOpen 46 = .ok (.iload_n 2, 1) := by decide +kernel
theorem dX12_isOpen_47 : decode cX12_isOpen 47 = .ok (.if_icmp .ne 7, 3) := by decide +kernel
theorem dX12_isOpen_50 : decode cX12_isOpen 50 = .ok (.iconst 1, 1) := by decide +kernel
theorem dX12_isOpen_51 : decode cX12_isOpen 51 = .ok (.goto 4, 3) := by decide +kernel
theorem dX12_isOpen_54 : decode cX12_isOpen 54 = .ok (.iconst 0, 1) := by decide +kernel
theorem dX12_isOpen_55 : decode cX12_isOpen 55 = .ok (.ireturn, 1) := by decide +kernel
set_option maxHeartbeats 4000000 in
set_option maxRecDepth 100000 in
theorem sX12_isOpen (l : Launch) (dC : Nat → ClassId) (dI : Nat → Nat → Nat) (h0 : Nat) (mi : Nat → Int32) (mr : Nat → Nat) (km_must : ClassId) (fm_must : Nat → Int32) (km_least : ClassId) (fm_least : Nat → Int32) (km_pin : ClassId) (fm_pin : Nat → Int32) (p1 : Int32) (p2 : Int32) (gmi_0 : gi (mi 0) 0 24) (gmi_1 : gi (mi 1) 0 5) (gmi_2 : gi (mi 2) 0 5) (gmi_4 : gi (mi 4) 0 1) (gmi_7 : gi (mi 7) 0 6) (gmi_10 : gi (mi 10) 0 24) (gmi_17 : gi (mi 17) 0 8) (gmi_23 : gi (mi 23) 0 300) (gmi_24 : gi (mi 24) 0 1) (gmi_26 : gi (mi 26) 0 1600) (gmi_29 : gi (mi 29) 0 1600) (gmi_30 : gi (mi 30) 0 1600) (gmi_33 : gi (mi 33) 0 1) (gmi_37 : gi (mi 37) 0 1) (gmi_41 : gi (mi 41) 0 24) (gmi_50 : gi (mi 50) 0 1) (gmi_51 : gi (mi 51) 0 1) (gmi_56 : gi (mi 56) 0 80) (gp1 : gi p1 0 24) : Met l yX12_isOpen (.code yX12_isOpen cX12_isOpen 3 (some .boolean) :: wsGB) ({ frames := 0, cells := 0, slots := 0, locals := 0 }) (va_Pc [.ref h0, .int p1, .int p2] (fun U => va_P (dC, dI) vwCl [(h0, .inr (12, fsMM mi mr)), ((mr 14), .inl (km_must, 25, .inl fm_must)), ((mr 15), .inl (km_least, 25, .inl fm_least)), ((mr 16), .inl (km_pin, 25, .inl fm_pin))] U.heap ∧ va_K (dC, dI) vwCl [(km_must, .int), (km_least, .int), (km_pin, .int)] U)) (va_Qi (fun (r : Int32) (u : Unit) => gi r 0 1) (fun _ _ => True) (fun _ => False)) 0 0 (fun _ => False) := by
  refine Met.ofW (cc := cX12_isOpen) (maxL := 3) (ret := (some .boolean)) (by decide) rfl ?_
  intro p e s m args below meth c s₁ B hml hv
  obtain ⟨rfl, hP, hK⟩ := hv
  have hx := B.exec
  have hb := B.bytes
  have hr := B.returns
  have hts := atoms_spec (ws := (.code yX12_isOpen cX12_isOpen 3 (some .boolean) :: wsGB)) B.pre
  have hown : s.vm.findClass RX12 = some m.cls := findClass_of_methodNamed B.named
  have hlocks := B.notSynchronized
  have hS : va_S (fun _ => False) s.heap s.heap [] := va_S.rf
  have hl := lv_entry ([.ref h0, .int p1, .int p2]) (n := 3) (Nat.le_of_ble_eq_true rfl)
  rw [lg_entry_eq]
  generalize (lg_sl ([.ref h0, .int p1, .int p2]) ++ List.replicate (3 - (lg_sl ([.ref h0, .int p1, .int p2])).length) Slot.unset).toArray = ls at hl ⊢
  have hl : lv_has ls 3 [(0, .ref h0), (1, .int p1), (2, .int p2)] := hl
  refine lv_aload_n hx hb dX12_isOpen_0 rfl (lv_at hl 0 rfl) ?_
  refine va_get (D := (dC, dI)) (ci := 12) (v := .ref (mr 14)) (C := RX12) (T := TX12) (N := 57) hx hb hts (fun w h => List.mem_cons_of_mem _ (jnGB_X12 w h)) hown hK hP 0 rfl rfl 34 (by decide) (hts _ (List.mem_cons_of_mem _ mGB_26)) (fun _ h9 => h9) rfl dX12_isOpen_1 ?_
  refine lv_iload_n hx hb dX12_isOpen_4 rfl (lv_at hl 1 rfl) ?_
  refine va_iald hx hb hK hP 1 0 rfl rfl (gi_in gp1 (by decide)) dX12_isOpen_5 ?_
  refine lv_topi (fun x_24 ex_24 => ?_)
  refine lv_iconst (v := (-1)) hx hb dX12_isOpen_6 (by decide) ?_
  refine lv_icmp_eq (tgt := 20) hx hb dX12_isOpen_7 (by decide) (fun c_25 => ?_) (fun c_25 => ?_)
  · have g_26 : gi x_24 (-1) (-1) := gi_eq c_25 (gi_c (-1) (-1) (by decide))
    refine lv_iload_n hx hb dX12_isOpen_20 rfl (lv_at hl 2 rfl) ?_
    refine lv_aload_n hx hb dX12_isOpen_21 rfl (lv_at hl 0 rfl) ?_
    refine va_get (D := (dC, dI)) (ci := 12) (v := .ref (mr 15)) (C := RX12) (T := TX12) (N := 57) hx hb hts (fun w h => List.mem_cons_of_mem _ (jnGB_X12 w h)) hown hK hP 0 rfl rfl 35 (by decide) (hts _ (List.mem_cons_of_mem _ mGB_27)) (fun _ h9 => h9) rfl dX12_isOpen_22 ?_
    refine lv_iload_n hx hb dX12_isOpen_25 rfl (lv_at hl 1 rfl) ?_
    refine va_iald hx hb hK hP 2 1 rfl rfl (gi_in gp1 (by decide)) dX12_isOpen_26 ?_
    refine lv_topi (fun x_27 ex_27 => ?_)
    refine lv_icmp_lt (tgt := 54) hx hb dX12_isOpen_27 (by decide) (fun c_28 => ?_) (fun c_28 => ?_)
    · have g_29 : gi p2 (-2147483648) 2147483646 := gi_lt_l c_28 (gi_any p2) (gi_any x_27) (by decide)
      have g_30 : gi x_27 (-2147483647) 2147483647 := gi_lt_r c_28 (gi_any p2) (gi_any x_27) (by decide)
      refine lv_iconst (v := 0) hx hb dX12_isOpen_54 (by decide) ?_
      exact W.zret (v := 0) hx hb hr (by decide) (fun t ht hW => ⟨⟨0, (), rfl, (gi_w (gi_c 0 0 (by decide)) (by decide)), trivial⟩, hS.F ht⟩) hS.2.2 dX12_isOpen_55
    · refine lv_aload_n hx hb dX12_isOpen_30 rfl (lv_at hl 0 rfl) ?_
      refine va_get (D := (dC, dI)) (ci := 12) (v := .ref (mr 16)) (C := RX12) (T := TX12) (N := 57) hx hb hts (fun w h => List.mem_cons_of_mem _ (jnGB_X12 w h)) hown hK hP 0 rfl rfl 36 (by decide) (hts _ (List.mem_cons_of_mem _ mGB_28)) (fun _ h9 => h9) rfl dX12_isOpen_31 ?_
      refine lv_iload_n hx hb dX12_isOpen_34 rfl (lv_at hl 1 rfl) ?_
      refine va_iald hx hb hK hP 3 2 rfl rfl (gi_in gp1 (by decide)) dX12_isOpen_35 ?_
      refine lv_topi (fun x_31 ex_31 => ?_)
      refine lv_iconst (v := (-1)) hx hb dX12_isOpen_36 (by decide) ?_
      refine lv_icmp_eq (tgt := 50) hx hb dX12_isOpen_37 (by decide) (fun c_32 => ?_) (fun c_32 => ?_)
      · have g_33 : gi x_31 (-1) (-1) := gi_eq c_32 (gi_c (-1) (-1) (by decide))
        refine lv_iconst (v := 1) hx hb dX12_isOpen_50 (by decide) ?_
        refine lv_goto (tgt := 55) hx hb dX12_isOpen_51 (by decide) ?_
        exact W.zret (v := 1) hx hb hr (by decide) (fun t ht hW => ⟨⟨1, (), rfl, (gi_w (gi_c 1 1 (by decide)) (by decide)), trivial⟩, hS.F ht⟩) hS.2.2 dX12_isOpen_55
      · refine lv_aload_n hx hb dX12_isOpen_40 rfl (lv_at hl 0 rfl) ?_
        refine va_get (D := (dC, dI)) (ci := 12) (v := .ref (mr 16)) (C := RX12) (T := TX12) (N := 57) hx hb hts (fun w h => List.mem_cons_of_mem _ (jnGB_X12 w h)) hown hK hP 0 rfl rfl 36 (by decide) (hts _ (List.mem_cons_of_mem _ mGB_28)) (fun _ h9 => h9) rfl dX12_isOpen_41 ?_
        refine lv_iload_n hx hb dX12_isOpen_44 rfl (lv_at hl 1 rfl) ?_
        refine va_iald hx hb hK hP 3 2 rfl rfl (gi_in gp1 (by decide)) dX12_isOpen_45 ?_
        refine lv_topi (fun x_34 ex_34 => ?_)
        refine lv_iload_n hx hb dX12_isOpen_46 rfl (lv_at hl 2 rfl) ?_
        refine lv_icmp_ne (tgt := 54) hx hb dX12_isOpen_47 (by decide) (fun c_35 => ?_) (fun c_35 => ?_)
        · refine lv_iconst (v := 0) hx hb dX12_isOpen_54 (by decide) ?_
          exact W.zret (v := 0) hx hb hr (by decide) (fun t ht hW => ⟨⟨0, (), rfl, (gi_w (gi_c 0 0 (by decide)) (by decide)), trivial⟩, hS.F ht⟩) hS.2.2 dX12_isOpen_55
        · refine lv_iconst (v := 1) hx hb dX12_isOpen_50 (by decide) ?_
          refine lv_goto (tgt := 55) hx hb dX12_isOpen_51 (by decide) ?_
          exact W.zret (v := 1) hx hb hr (by decide) (fun t ht hW => ⟨⟨1, (), rfl, (gi_w (gi_c 1 1 (by decide)) (by decide)), trivial⟩, hS.F ht⟩) hS.2.2 dX12_isOpen_55
  · refine lv_aload_n hx hb dX12_isOpen_10 rfl (lv_at hl 0 rfl) ?_
    refine va_get (D := (dC, dI)) (ci := 12) (v := .ref (mr 14)) (C := RX12) (T := TX12) (N := 57) hx hb hts (fun w h => List.mem_cons_of_mem _ (jnGB_X12 w h)) hown hK hP 0 rfl rfl 34 (by decide) (hts _ (List.mem_cons_of_mem _ mGB_26)) (fun _ h9 => h9) rfl dX12_isOpen_11 ?_
    refine lv_iload_n hx hb dX12_isOpen_14 rfl (lv_at hl 1 rfl) ?_
    refine va_iald hx hb hK hP 1 0 rfl rfl (gi_in gp1 (by decide)) dX12_isOpen_15 ?_
    refine lv_topi (fun x_36 ex_36 => ?_)
    refine lv_iload_n hx hb dX12_isOpen_16 rfl (lv_at hl 2 rfl) ?_
    refine lv_icmp_ne (tgt := 54) hx hb dX12_isOpen_17 (by decide) (fun c_37 => ?_) (fun c_37 => ?_)
    · refine lv_iconst (v := 0) hx hb dX12_isOpen_54 (by decide) ?_
      exact W.zret (v := 0) hx hb hr (by decide) (fun t ht hW => ⟨⟨0, (), rfl, (gi_w (gi_c 0 0 (by decide)) (by decide)), trivial⟩, hS.F ht⟩) hS.2.2 dX12_isOpen_55
    · refine lv_iload_n hx hb dX12_isOpen_20 rfl (lv_at hl 2 rfl) ?_
      refine lv_aload_n hx hb dX12_isOpen_21 rfl (lv_at hl 0 rfl) ?_
      refine va_get (D := (dC, dI)) (ci := 12) (v := .ref (mr 15)) (C := RX12) (T := TX12) (N := 57) hx hb hts (fun w h => List.mem_cons_of_mem _ (jnGB_X12 w h)) hown hK hP 0 rfl rfl 35 (by decide) (hts _ (List.mem_cons_of_mem _ mGB_27)) (fun _ h9 => h9) rfl dX12_isOpen_22 ?_
      refine lv_iload_n hx hb dX12_isOpen_25 rfl (lv_at hl 1 rfl) ?_
      refine va_iald hx hb hK hP 2 1 rfl rfl (gi_in gp1 (by decide)) dX12_isOpen_26 ?_
      refine lv_topi (fun x_38 ex_38 => ?_)
      refine lv_icmp_lt (tgt := 54) hx hb dX12_isOpen_27 (by decide) (fun c_39 => ?_) (fun c_39 => ?_)
      · have g_40 : gi p2 (-2147483648) 2147483646 := gi_lt_l c_39 (gi_any p2) (gi_any x_38) (by decide)
        have g_41 : gi x_38 (-2147483647) 2147483647 := gi_lt_r c_39 (gi_any p2) (gi_any x_38) (by decide)
        refine lv_iconst (v := 0) hx hb dX12_isOpen_54 (by decide) ?_
        exact W.zret (v := 0) hx hb hr (by decide) (fun t ht hW => ⟨⟨0, (), rfl, (gi_w (gi_c 0 0 (by decide)) (by decide)), trivial⟩, hS.F ht⟩) hS.2.2 dX12_isOpen_55
      · refine lv_aload_n hx hb dX12_isOpen_30 rfl (lv_at hl 0 rfl) ?_
        refine va_get (D := (dC, dI)) (ci := 12) (v := .ref (mr 16)) (C := RX12) (T := TX12) (N := 57) hx hb hts (fun w h => List.mem_cons_of_mem _ (jnGB_X12 w h)) hown hK hP 0 rfl rfl 36 (by decide) (hts _ (List.mem_cons_of_mem _ mGB_28)) (fun _ h9 => h9) rfl dX12_isOpen_31 ?_
        refine lv_iload_n hx hb dX12_isOpen_34 rfl (lv_at hl 1 rfl) ?_
        refine va_iald hx hb hK hP 3 2 rfl rfl (gi_in gp1 (by decide)) dX12_isOpen_35 ?_
        refine lv_topi (fun x_42 ex_42 => ?_)
        refine lv_iconst (v := (-1)) hx hb dX12_isOpen_36 (by decide) ?_
        refine lv_icmp_eq (tgt := 50) hx hb dX12_isOpen_37 (by decide) (fun c_43 => ?_) (fun c_43 => ?_)
        · have g_44 : gi x_42 (-1) (-1) := gi_eq c_43 (gi_c (-1) (-1) (by decide))
          refine lv_iconst (v := 1) hx hb dX12_isOpen_50 (by decide) ?_
          refine lv_goto (tgt := 55) hx hb dX12_isOpen_51 (by decide) ?_
          exact W.zret (v := 1) hx hb hr (by decide) (fun t ht hW => ⟨⟨1, (), rfl, (gi_w (gi_c 1 1 (by decide)) (by decide)), trivial⟩, hS.F ht⟩) hS.2.2 dX12_isOpen_55
        · refine lv_aload_n hx hb dX12_isOpen_40 rfl (lv_at hl 0 rfl) ?_
          refine va_get (D := (dC, dI)) (ci := 12) (v := .ref (mr 16)) (C := RX12) (T := TX12) (N := 57) hx hb hts (fun w h => List.mem_cons_of_mem _ (jnGB_X12 w h)) hown hK hP 0 rfl rfl 36 (by decide) (hts _ (List.mem_cons_of_mem _ mGB_28)) (fun _ h9 => h9) rfl dX12_isOpen_41 ?_
          refine lv_iload_n hx hb dX12_isOpen_44 rfl (lv_at hl 1 rfl) ?_
          refine va_iald hx hb hK hP 3 2 rfl rfl (gi_in gp1 (by decide)) dX12_isOpen_45 ?_
          refine lv_topi (fun x_45 ex_45 => ?_)
          refine lv_iload_n hx hb dX12_isOpen_46 rfl (lv_at hl 2 rfl) ?_
          refine lv_icmp_ne (tgt := 54) hx hb dX12_isOpen_47 (by decide) (fun c_46 => ?_) (fun c_46 => ?_)
          · refine lv_iconst (v := 0) hx hb dX12_isOpen_54 (by decide) ?_
            exact W.zret (v := 0) hx hb hr (by decide) (fun t ht hW => ⟨⟨0, (), rfl, (gi_w (gi_c 0 0 (by decide)) (by decide)), trivial⟩, hS.F ht⟩) hS.2.2 dX12_isOpen_55
          · refine lv_iconst (v := 1) hx hb dX12_isOpen_50 (by decide) ?_
            refine lv_goto (tgt := 55) hx hb dX12_isOpen_51 (by decide) ?_
            exact W.zret (v := 1) hx hb hr (by decide) (fun t ht hW => ⟨⟨1, (), rfl, (gi_w (gi_c 1 1 (by decide)) (by decide)), trivial⟩, hS.F ht⟩) hS.2.2 dX12_isOpen_55
theorem dX12_runBehind_0 : decode cX12_runBehind 0 = .ok (.iload_n 2, 1) := by decide +kernel
theorem dX12_runBehind_1 : decode cX12_runBehind 1 = .ok (.iconst 1, 1) := by decide +kernel
theorem dX12_runBehind_2 : decode cX12_runBehind 2 = .ok (.if_icmp .ne 18, 3) := by decide +kernel
theorem dX12_runBehind_5 : decode cX12_runBehind 5 = .ok (.iload_n 1, 1) := by decide +kernel
theorem dX12_runBehind_6 : decode cX12_runBehind 6 = .ok (.iconst 5, 1) := by decide +kernel
theorem dX12_runBehind_7 : decode cX12_runBehind 7 = .ok (.if_icmp .gt 9, 3) := by decide +kernel
theorem dX12_runBehind_10 : decode cX12_runBehind 10 = .ok (.iload_n 1, 1) := by decide +kernel
theorem dX12_runBehind_11 : decode cX12_runBehind 11 = .ok (.iconst 1, 1) := by decide +kernel
theorem dX12_runBehind_12 : decode cX12_runBehind 12 = .ok (.iadd, 1) := by decide +kernel
theorem dX12_runBehind_13 : decode cX12_runBehind 13 = .ok (.goto 21, 3) := by decide +kernel
theorem dX12_runBehind_16 : decode cX12_runBehind 16 = .ok (.iconst 1, 1) := by decide +kernel
theorem dX12_runBehind_17 : decode cX12_runBehind 17 = .ok (.goto 17, 3) := by decide +kernel
theorem dX12_runBehind_20 : decode cX12_runBehind 20 = .ok (.iload_n 1, 1) := by decide +kernel
theorem dX12_runBehind_21 : decode cX12_runBehind 21 = .ok (.iconst 5, 1) := by decide +kernel
theorem dX12_runBehind_22 : decode cX12_runBehind 22 = .ok (.if_icmp .le 11, 3) := by decide +kernel
theorem dX12_runBehind_25 : decode cX12_runBehind 25 = .ok (.iload_n 1, 1) := by decide +kernel
theorem dX12_runBehind_26 : decode cX12_runBehind 26 = .ok (.iconst 5, 1) := by decide +kernel
theorem dX12_runBehind_27 : decode cX12_runBehind 27 = .ok (.isub, 1) := by decide +kernel
theorem dX12_runBehind_28 : decode cX12_runBehind 28 = .ok (.iconst 1, 1) := by decide +kernel
theorem dX12_runBehind_29 : decode cX12_runBehind 29 = .ok (.iadd, 1) := by decide +kernel
theorem dX12_runBehind_30 : decode cX12_runBehind 30 = .ok (.goto 4, 3) := by decide +kernel
theorem dX12_runBehind_33 : decode cX12_runBehind 33 = .ok (.iconst 1, 1) := by decide +kernel
theorem dX12_runBehind_34 : decode cX12_runBehind 34 = .ok (.istore_n 3, 1) := by decide +kernel
theorem dX12_runBehind_35 : decode cX12_runBehind 35 = .ok (.iload_n 3, 1) := by decide +kernel
theorem dX12_runBehind_36 : decode cX12_runBehind 36 = .ok (.iload_n 2, 1) := by decide +kernel
theorem dX12_runBehind_37 : decode cX12_runBehind 37 = .ok (.iconst 1, 1) := by decide +kernel
theorem dX12_runBehind_38 : decode cX12_runBehind 38 = .ok (.if_icmp .ne 10, 3) := by decide +kernel
theorem dX12_runBehind_41 : decode cX12_runBehind 41 = .ok (.aload_n 0, 1) := by decide +kernel
theorem dX12_runBehind_42 : decode cX12_runBehind 42 = .ok (.getfield 120, 3) := by decide +kernel
theorem dX12_runBehind_45 : decode cX12_runBehind 45 = .ok (.goto 7, 3) := by decide +kernel
theorem dX12_runBehind_48 : decode cX12_runBehind 48 = .ok (.aload_n 0, 1) := by decide +kernel
theorem dX12_runBehind_49 : decode cX12_runBehind 49 = .ok (.getfield 123, 3) := by decide +kernel
theorem dX12_runBehind_52 : decode cX12_runBehind 52 = .ok (.if_icmp .le 5, 3) := by decide +kernel
theorem dX12_runBehind_55 : decode cX12_runBehind 55 = .ok (.iconst (-1), 1) := by decide +kernel
theorem dX12_runBehind_56 : decode cX12_runBehind 56 = .ok (.ireturn, 1) := by decide +kernel
theorem dX12_runBehind_57 : decode cX12_runBehind 57 = .ok (.iload_n 2, 1) := by decide +kernel
theorem dX12_runBehind_58 : decode cX12_runBehind 58 = .ok (.iconst 1, 1) := by decide +kernel
theorem dX12_runBehind_59 : decode cX12_runBehind 59 = .ok (.if_icmp .ne 7, 3) := by decide +kernel
theorem dX12_runBehind_62 : decode cX12_runBehind 62 = .ok (.iload_n 3, 1) := by decide +kernel
theorem dX12_runBehind_63 : decode cX12_runBehind 63 = .ok (.goto 6, 3) := by decide +kernel
theorem dX12_runBehind_66 : decode cX12_runBehind 66 = .ok (.iload_n 3, 1) := by decide +kernel
theorem dX12_runBehind_67 : decode cX12_runBehind 67 = .ok (.iconst 5, 1) := by decide +kernel
theorem dX12_runBehind_68 : decode cX12_runBehind 68 = .ok (.iadd, 1) := by decide +kernel
theorem dX12_runBehind_69 : decode cX12_runBehind 69 = .ok (.ireturn, 1) := by decide +kernel
set_option maxHeartbeats 4000000 in
set_option maxRecDepth 100000 in
theorem sX12_runBehind (l : Launch) (dC : Nat → ClassId) (dI : Nat → Nat → Nat) (h0 : Nat) (mi : Nat → Int32) (mr : Nat → Nat) (p1 : Int32) (p2 : Int32) (gmi_0 : gi (mi 0) 0 24) (gmi_1 : gi (mi 1) 0 5) (gmi_2 : gi (mi 2) 0 5) (gmi_4 : gi (mi 4) 0 1) (gmi_7 : gi (mi 7) 0 6) (gmi_10 : gi (mi 10) 0 24) (gmi_17 : gi (mi 17) 0 8) (gmi_23 : gi (mi 23) 0 300) (gmi_24 : gi (mi 24) 0 1) (gmi_26 : gi (mi 26) 0 1600) (gmi_29 : gi (mi 29) 0 1600) (gmi_30 : gi (mi 30) 0 1600) (gmi_33 : gi (mi 33) 0 1) (gmi_37 : gi (mi 37) 0 1) (gmi_41 : gi (mi 41) 0 24) (gmi_50 : gi (mi 50) 0 1) (gmi_51 : gi (mi 51) 0 1) (gmi_56 : gi (mi 56) 0 80) (gp1 : gi p1 (-1) 10) (gp2 : gi p2 0 1) : Met l yX12_runBehind (.code yX12_runBehind cX12_runBehind 4 (some .int) :: wsGB) ({ frames := 0, cells := 0, slots := 0, locals := 0 }) (va_Pc [.ref h0, .int p1, .int p2] (fun U => va_P (dC, dI) vwCl [(h0, .inr (12, fsMM mi mr))] U.heap ∧ va_K (dC, dI) vwCl [] U)) (va_Qi (fun (r : Int32) (u : Unit) => gi r (-1) 10) (fun _ _ => True) (fun _ => False)) 0 0 (fun _ => False) := by
  refine Met.ofW (cc := cX12_runBehind) (maxL := 4) (ret := (some .int)) (by decide) rfl ?_
  intro p e s m args below meth c s₁ B hml hv
  obtain ⟨rfl, hP, hK⟩ := hv
  have hx := B.exec
  have hb := B.bytes
  have hr := B.returns
  have hts := atoms_spec (ws := (.code yX12_runBehind cX12_runBehind 4 (some .int) :: wsGB)) B.pre
  have hown : s.vm.findClass RX12 = some m.cls := findClass_of_methodNamed B.named
  have hlocks := B.notSynchronized
  have hS : va_S (fun _ => False) s.heap s.heap [] := va_S.rf
  have hl := lv_entry ([.ref h0, .int p1, .int p2]) (n := 4) (Nat.le_of_ble_eq_true rfl)
  rw [lg_entry_eq]
  generalize (lg_sl ([.ref h0, .int p1, .int p2]) ++ List.replicate (4 - (lg_sl ([.ref h0, .int p1, .int p2])).length) Slot.unset).toArray = ls at hl ⊢
  have hl : lv_has ls 4 [(0, .ref h0), (1, .int p1), (2, .int p2)] := hl
  refine lv_iload_n hx hb dX12_runBehind_0 rfl (lv_at hl 2 rfl) ?_
  refine lv_iconst (v := 1) hx hb dX12_runBehind_1 (by decide) ?_
  refine lv_icmp_ne (tgt := 20) hx hb dX12_runBehind_2 (by decide) (fun c_34 => ?_) (fun c_34 => ?_)
  · have g_35 : gi p2 0 0 := gi_ne_hi c_34 gp2 (gi_c 1 1 (by decide)) (by decide)
    refine lv_iload_n hx hb dX12_runBehind_20 rfl (lv_at hl 1 rfl) ?_
    refine lv_iconst (v := 5) hx hb dX12_runBehind_21 (by decide) ?_
    refine lv_icmp_le (tgt := 33) hx hb dX12_runBehind_22 (by decide) (fun c_36 => ?_) (fun c_36 => ?_)
    · have g_37 : gi p1 (-1) 5 := gi_le_l c_36 gp1 (gi_c 5 5 (by decide))
      refine lv_iconst (v := 1) hx hb dX12_runBehind_33 (by decide) ?_
      refine lv_istore_n (lv' := [(3, .int 1), (0, .ref h0), (1, .int p1), (2, .int p2)]) hx hb dX12_runBehind_34 rfl hl (by decide) rfl (fun ls hl => ?_)
      refine lv_iload_n hx hb dX12_runBehind_35 rfl (lv_at hl 0 rfl) ?_
      refine lv_iload_n hx hb dX12_runBehind_36 rfl (lv_at hl 3 rfl) ?_
      refine lv_iconst (v := 1) hx hb dX12_runBehind_37 (by decide) ?_
      refine lv_icmp_ne (tgt := 48) hx hb dX12_runBehind_38 (by decide) (fun c_38 => ?_) (fun c_38 => absurd c_38 (gi_no_eq g_35 (gi_c 1 1 (by decide)) (by decide)))
      refine lv_aload_n hx hb dX12_runBehind_48 rfl (lv_at hl 1 rfl) ?_
      refine va_get (D := (dC, dI)) (ci := 12) (v := .int (mi 2)) (C := RX12) (T := TX12) (N := 57) hx hb hts (fun w h => List.mem_cons_of_mem _ (jnGB_X12 w h)) hown hK hP 0 rfl rfl 2 (by decide) (hts _ (List.mem_cons_of_mem _ mGB_105)) (fun _ h9 => h9) rfl dX12_runBehind_49 ?_
      refine lv_icmp_le (tgt := 57) hx hb dX12_runBehind_52 (by decide) (fun c_39 => ?_) (fun c_39 => ?_)
      · have g_40 : gi (mi 2) 1 5 := gi_le_r c_39 (gi_c 1 1 (by decide)) gmi_2
        refine lv_iload_n hx hb dX12_runBehind_57 rfl (lv_at hl 3 rfl) ?_
        refine lv_iconst (v := 1) hx hb dX12_runBehind_58 (by decide) ?_
        refine lv_icmp_ne (tgt := 66) hx hb dX12_runBehind_59 (by decide) (fun c_41 => ?_) (fun c_41 => absurd c_41 (gi_no_eq g_35 (gi_c 1 1 (by decide)) (by decide)))
        refine lv_iload_n hx hb dX12_runBehind_66 rfl (lv_at hl 0 rfl) ?_
        refine lv_iconst (v := 5) hx hb dX12_runBehind_67 (by decide) ?_
        refine lv_iadd hx hb dX12_runBehind_68 ?_
        refine gz_topi (y := 6) (by decide) ?_
        exact W.iret (v := 6) hx hb hr (fun t ht hW => ⟨⟨6, (), rfl, (gi_w (gi_c 6 6 (by decide)) (by decide)), trivial⟩, hS.F ht⟩) hS.2.2 dX12_runBehind_69
      · have g_42 : gi (mi 2) 0 0 := gi_lt_l (Int32.not_le.mp c_39) gmi_2 (gi_c 1 1 (by decide)) (by decide)
        refine lv_iconst (v := (-1)) hx hb dX12_runBehind_55 (by decide) ?_
        exact W.iret (v := (-1)) hx hb hr (fun t ht hW => ⟨⟨(-1), (), rfl, (gi_w (gi_c (-1) (-1) (by decide)) (by decide)), trivial⟩, hS.F ht⟩) hS.2.2 dX12_runBehind_56
    · have g_43 : gi p1 6 10 := gi_lt_r (Int32.not_le.mp c_36) (gi_c 5 5 (by decide)) gp1 (by decide)
      refine lv_iload_n hx hb dX12_runBehind_25 rfl (lv_at hl 1 rfl) ?_
      refine lv_iconst (v := 5) hx hb dX12_runBehind_26 (by decide) ?_
      refine lv_isub hx hb dX12_runBehind_27 ?_
      refine lv_topi (fun x_44 ex_44 => ?_)
      have gx_44 : gi x_44 1 5 := gi_sub ex_44 g_43 (gi_c 5 5 (by decide)) (by decide)
      refine lv_iconst (v := 1) hx hb dX12_runBehind_28 (by decide) ?_
      refine lv_iadd hx hb dX12_runBehind_29 ?_
      refine lv_topi (fun x_45 ex_45 => ?_)
      have gx_45 : gi x_45 2 6 := gi_add ex_45 gx_44 (gi_c 1 1 (by decide)) (by decide)
      refine lv_goto (tgt := 34) hx hb dX12_runBehind_30 (by decide) ?_
      refine lv_istore_n (lv' := [(3, .int x_45), (0, .ref h0), (1, .int p1), (2, .int p2)]) hx hb dX12_runBehind_34 rfl hl (by decide) rfl (fun ls hl => ?_)
      refine lv_iload_n hx hb dX12_runBehind_35 rfl (lv_at hl 0 rfl) ?_
      refine lv_iload_n hx hb dX12_runBehind_36 rfl (lv_at hl 3 rfl) ?_
      refine lv_iconst (v := 1) hx hb dX12_runBehind_37 (by decide) ?_
      refine lv_icmp_ne (tgt := 48) hx hb dX12_runBehind_38 (by decide) (fun c_46 => ?_) (fun c_46 => absurd c_46 (gi_no_eq g_35 (gi_c 1 1 (by decide)) (by decide)))
      refine lv_aload_n hx hb dX12_runBehind_48 rfl (lv_at hl 1 rfl) ?_
      refine va_get (D := (dC, dI)) (ci := 12) (v := .int (mi 2)) (C := RX12) (T := TX12) (N := 57) hx hb hts (fun w h => List.mem_cons_of_mem _ (jnGB_X12 w h)) hown hK hP 0 rfl rfl 2 (by decide) (hts _ (List.mem_cons_of_mem _ mGB_105)) (fun _ h9 => h9) rfl dX12_runBehind_49 ?_
      refine lv_icmp_le (tgt := 57) hx hb dX12_runBehind_52 (by decide) (fun c_47 => ?_) (fun c_47 => ?_)
      · have g_48 : gi x_45 2 5 := gi_le_l c_47 gx_45 gmi_2
        have g_49 : gi (mi 2) 2 5 := gi_le_r c_47 gx_45 gmi_2
        refine lv_iload_n hx hb dX12_runBehind_57 rfl (lv_at hl 3 rfl) ?_
        refine lv_iconst (v := 1) hx hb dX12_runBehind_58 (by decide) ?_
        refine lv_icmp_ne (tgt := 66) hx hb dX12_runBehind_59 (by decide) (fun c_50 => ?_) (fun c_50 => absurd c_50 (gi_no_eq g_35 (gi_c 1 1 (by decide)) (by decide)))
        refine lv_iload_n hx hb dX12_runBehind_66 rfl (lv_at hl 0 rfl) ?_
        refine lv_iconst (v := 5) hx hb dX12_runBehind_67 (by decide) ?_
        refine lv_iadd hx hb dX12_runBehind_68 ?_
        refine lv_topi (fun x_51 ex_51 => ?_)
        have gx_51 : gi x_51 7 10 := gi_add ex_51 g_48 (gi_c 5 5 (by decide)) (by decide)
        exact W.iret (v := x_51) hx hb hr (fun t ht hW => ⟨⟨x_51, (), rfl, (gi_w gx_51 (by decide)), trivial⟩, hS.F ht⟩) hS.2.2 dX12_runBehind_69
      · refine lv_iconst (v := (-1)) hx hb dX12_runBehind_55 (by decide) ?_
        exact W.iret (v := (-1)) hx hb hr (fun t ht hW => ⟨⟨(-1), (), rfl, (gi_w (gi_c (-1) (-1) (by decide)) (by decide)), trivial⟩, hS.F ht⟩) hS.2.2 dX12_runBehind_56
  · have g_52 : gi p2 1 1 := gi_eq c_34 (gi_c 1 1 (by decide))
    refine lv_iload_n hx hb dX12_runBehind_5 rfl (lv_at hl 1 rfl) ?_
    refine lv_iconst (v := 5) hx hb dX12_runBehind_6 (by decide) ?_
    refine lv_icmp_gt (tgt := 16) hx hb dX12_runBehind_7 (by decide) (fun c_53 => ?_) (fun c_53 => ?_)
    · have g_54 : gi p1 6 10 := gi_lt_r c_53 (gi_c 5 5 (by decide)) gp1 (by decide)
      refine lv_iconst (v := 1) hx hb dX12_runBehind_16 (by decide) ?_
      refine lv_goto (tgt := 34) hx hb dX12_runBehind_17 (by decide) ?_
      refine lv_istore_n (lv' := [(3, .int 1), (0, .ref h0), (1, .int p1), (2, .int p2)]) hx hb dX12_runBehind_34 rfl hl (by decide) rfl (fun ls hl => ?_)
      refine lv_iload_n hx hb dX12_runBehind_35 rfl (lv_at hl 0 rfl) ?_
      refine lv_iload_n hx hb dX12_runBehind_36 rfl (lv_at hl 3 rfl) ?_
      refine lv_iconst (v := 1) hx hb dX12_runBehind_37 (by decide) ?_
      refine lv_icmp_ne (tgt := 48) hx hb dX12_runBehind_38 (by decide) (fun c_55 => absurd (gi_is_eq g_52 (gi_c 1 1 (by decide))) c_55) (fun c_55 => ?_)
      refine lv_aload_n hx hb dX12_runBehind_41 rfl (lv_at hl 1 rfl) ?_
      refine va_get (D := (dC, dI)) (ci := 12) (v := .int (mi 1)) (C := RX12) (T := TX12) (N := 57) hx hb hts (fun w h => List.mem_cons_of_mem _ (jnGB_X12 w h)) hown hK hP 0 rfl rfl 1 (by decide) (hts _ (List.mem_cons_of_mem _ mGB_104)) (fun _ h9 => h9) rfl dX12_runBehind_42 ?_
      refine lv_goto (tgt := 52) hx hb dX12_runBehind_45 (by decide) ?_
      refine lv_icmp_le (tgt := 57) hx hb dX12_runBehind_52 (by decide) (fun c_56 => ?_) (fun c_56 => ?_)
      · have g_57 : gi (mi 1) 1 5 := gi_le_r c_56 (gi_c 1 1 (by decide)) gmi_1
        refine lv_iload_n hx hb dX12_runBehind_57 rfl (lv_at hl 3 rfl) ?_
        refine lv_iconst (v := 1) hx hb dX12_runBehind_58 (by decide) ?_
        refine lv_icmp_ne (tgt := 66) hx hb dX12_runBehind_59 (by decide) (fun c_58 => absurd (gi_is_eq g_52 (gi_c 1 1 (by decide))) c_58) (fun c_58 => ?_)
        refine lv_iload_n hx hb dX12_runBehind_62 rfl (lv_at hl 0 rfl) ?_
        refine lv_goto (tgt := 69) hx hb dX12_runBehind_63 (by decide) ?_
        exact W.iret (v := 1) hx hb hr (fun t ht hW => ⟨⟨1, (), rfl, (gi_w (gi_c 1 1 (by decide)) (by decide)), trivial⟩, hS.F ht⟩) hS.2.2 dX12_runBehind_69
      · have g_59 : gi (mi 1) 0 0 := gi_lt_l (Int32.not_le.mp c_56) gmi_1 (gi_c 1 1 (by decide)) (by decide)
        refine lv_iconst (v := (-1)) hx hb dX12_runBehind_55 (by decide) ?_
        exact W.iret (v := (-1)) hx hb hr (fun t ht hW => ⟨⟨(-1), (), rfl, (gi_w (gi_c (-1) (-1) (by decide)) (by decide)), trivial⟩, hS.F ht⟩) hS.2.2 dX12_runBehind_56
    · have g_60 : gi p1 (-1) 5 := gi_le_l (Int32.not_lt.mp c_53) gp1 (gi_c 5 5 (by decide))
      refine lv_iload_n hx hb dX12_runBehind_10 rfl (lv_at hl 1 rfl) ?_
      refine lv_iconst (v := 1) hx hb dX12_runBehind_11 (by decide) ?_
      refine lv_iadd hx hb dX12_runBehind_12 ?_
      refine lv_topi (fun x_61 ex_61 => ?_)
      have gx_61 : gi x_61 0 6 := gi_add ex_61 g_60 (gi_c 1 1 (by decide)) (by decide)
      refine lv_goto (tgt := 34) hx hb dX12_runBehind_13 (by decide) ?_
      refine lv_istore_n (lv' := [(3, .int x_61), (0, .ref h0), (1, .int p1), (2, .int p2)]) hx hb dX12_runBehind_34 rfl hl (by decide) rfl (fun ls hl => ?_)
      refine lv_iload_n hx hb dX12_runBehind_35 rfl (lv_at hl 0 rfl) ?_
      refine lv_iload_n hx hb dX12_runBehind_36 rfl (lv_at hl 3 rfl) ?_
      refine lv_iconst (v := 1) hx hb dX12_runBehind_37 (by decide) ?_
      refine lv_icmp_ne (tgt := 48) hx hb dX12_runBehind_38 (by decide) (fun c_62 => absurd (gi_is_eq g_52 (gi_c 1 1 (by decide))) c_62) (fun c_62 => ?_)
      refine lv_aload_n hx hb dX12_runBehind_41 rfl (lv_at hl 1 rfl) ?_
      refine va_get (D := (dC, dI)) (ci := 12) (v := .int (mi 1)) (C := RX12) (T := TX12) (N := 57) hx hb hts (fun w h => List.mem_cons_of_mem _ (jnGB_X12 w h)) hown hK hP 0 rfl rfl 1 (by decide) (hts _ (List.mem_cons_of_mem _ mGB_104)) (fun _ h9 => h9) rfl dX12_runBehind_42 ?_
      refine lv_goto (tgt := 52) hx hb dX12_runBehind_45 (by decide) ?_
      refine lv_icmp_le (tgt := 57) hx hb dX12_runBehind_52 (by decide) (fun c_63 => ?_) (fun c_63 => ?_)
      · have g_64 : gi x_61 0 5 := gi_le_l c_63 gx_61 gmi_1
        refine lv_iload_n hx hb dX12_runBehind_57 rfl (lv_at hl 3 rfl) ?_
        refine lv_iconst (v := 1) hx hb dX12_runBehind_58 (by decide) ?_
        refine lv_icmp_ne (tgt := 66) hx hb dX12_runBehind_59 (by decide) (fun c_65 => absurd (gi_is_eq g_52 (gi_c 1 1 (by decide))) c_65) (fun c_65 => ?_)
        refine lv_iload_n hx hb dX12_runBehind_62 rfl (lv_at hl 0 rfl) ?_
        refine lv_goto (tgt := 69) hx hb dX12_runBehind_63 (by decide) ?_
        exact W.iret (v := x_61) hx hb hr (fun t ht hW => ⟨⟨x_61, (), rfl, (gi_w g_64 (by decide)), trivial⟩, hS.F ht⟩) hS.2.2 dX12_runBehind_69
      · have g_66 : gi x_61 1 6 := gi_lt_r (Int32.not_le.mp c_63) gmi_1 gx_61 (by decide)
        refine lv_iconst (v := (-1)) hx hb dX12_runBehind_55 (by decide) ?_
        exact W.iret (v := (-1)) hx hb hr (fun t ht hW => ⟨⟨(-1), (), rfl, (gi_w (gi_c (-1) (-1) (by decide)) (by decide)), trivial⟩, hS.F ht⟩) hS.2.2 dX12_runBehind_56
theorem dX12_placeOf_0 : decode cX12_placeOf 0 = .ok (.sipush 275, 3) := by decide +kernel
theorem dX12_placeOf_3 : decode cX12_placeOf 3 = .ok (.iload_n 0, 1) := by decide +kernel
theorem dX12_placeOf_4 : decode cX12_placeOf 4 = .ok (.imul, 1) := by decide +kernel
theorem dX12_placeOf_5 : decode cX12_placeOf 5 = .ok (.bipush 11, 2) := by decide +kernel
theorem dX12_placeOf_7 : decode cX12_placeOf 7 = .ok (.iload_n 1, 1) := by decide +kernel
theorem dX12_placeOf_8 : decode cX12_placeOf 8 = .ok (.imul, 1) := by decide +kernel
theorem dX12_placeOf_9 : decode cX12_placeOf 9 = .ok (.iadd, 1) := by decide +kernel
theorem dX12_placeOf_10 : decode cX12_placeOf 10 = .ok (.iload_n 2, 1) := by decide +kernel
theorem dX12_placeOf_11 : decode cX12_placeOf 11 = .ok (.iadd, 1) := by decide +kernel
theorem dX12_placeOf_12 : decode cX12_placeOf 12 = .ok (.ireturn, 1) := by decide +kernel
set_option maxHeartbeats 4000000 in
set_option maxRecDepth 100000 in
theorem sX12_placeOf (l : Launch) (dC : Nat → ClassId) (dI : Nat → Nat → Nat) (p0 : Int32) (p1 : Int32) (p2 : Int32) (gp0 : gi p0 0 24) (gp1 : gi p1 0 24) (gp2 : gi p2 0 10) : Met l yX12_placeOf (.code yX12_placeOf cX12_placeOf 3 (some .int) :: wsGB) ({ frames := 0, cells := 0, slots := 0, locals := 0 }) (va_Pc [.int p0, .int p1, .int p2] (fun U => va_P (dC, dI) vwCl [] U.heap ∧ va_K (dC, dI) vwCl [] U)) (va_Qi (fun (r : Int32) (u : Unit) => gi r 0 6874) (fun _ _ => True) (fun _ => False)) 0 0 (fun _ => False) := by
  refine Met.ofW (cc := cX12_placeOf) (maxL := 3) (ret := (some .int)) (by decide) rfl ?_
  intro p e s m args below meth c s₁ B hml hv
  obtain ⟨rfl, hP, hK⟩ := hv
  have hx := B.exec
  have hb := B.bytes
  have hr := B.returns
  have hts := atoms_spec (ws := (.code yX12_placeOf cX12_placeOf 3 (some .int) :: wsGB)) B.pre
  have hown : s.vm.findClass RX12 = some m.cls := findClass_of_methodNamed B.named
  have hlocks := B.notSynchronized
  have hS : va_S (fun _ => False) s.heap s.heap [] := va_S.rf
  have hl := lv_entry ([.int p0, .int p1, .int p2]) (n := 3) (Nat.le_of_ble_eq_true rfl)
  rw [lg_entry_eq]
  generalize (lg_sl ([.int p0, .int p1, .int p2]) ++ List.replicate (3 - (lg_sl ([.int p0, .int p1, .int p2])).length) Slot.unset).toArray = ls at hl ⊢
  have hl : lv_has ls 3 [(0, .int p0), (1, .int p1), (2, .int p2)] := hl
  refine lv_sipush (v := 275) hx hb dX12_placeOf_0 (by decide) ?_
  refine lv_iload_n hx hb dX12_placeOf_3 rfl (lv_at hl 0 rfl) ?_
  refine lv_imul hx hb dX12_placeOf_4 ?_
  refine lv_topi (fun x_5 ex_5 => ?_)
  have gx_5 : gi x_5 0 6600 := gi_mul ex_5 (gi_c 275 275 (by decide)) gp0 (by decide)
  refine lv_bipush (v := 11) hx hb dX12_placeOf_5 (by decide) ?_
  refine lv_iload_n hx hb dX12_placeOf_7 rfl (lv_at hl 1 rfl) ?_
  refine lv_imul hx hb dX12_placeOf_8 ?_
  refine lv_topi (fun x_6 ex_6 => ?_)
  have gx_6 : gi x_6 0 264 := gi_mul ex_6 (gi_c 11 11 (by decide)) gp1 (by decide)
  refine lv_iadd hx hb dX12_placeOf_9 ?_
  refine lv_topi (fun x_7 ex_7 => ?_)
  have gx_7 : gi x_7 0 6864 := gi_add ex_7 gx_5 gx_6 (by decide)
  refine lv_iload_n hx hb dX12_placeOf_10 rfl (lv_at hl 2 rfl) ?_
  refine lv_iadd hx hb dX12_placeOf_11 ?_
  refine lv_topi (fun x_8 ex_8 => ?_)
  have gx_8 : gi x_8 0 6874 := gi_add ex_8 gx_7 gp2 (by decide)
  exact W.iret (v := x_8) hx hb hr (fun t ht hW => ⟨⟨x_8, (), rfl, gx_8, trivial⟩, hS.F ht⟩) hS.2.2 dX12_placeOf_12
theorem dX12_waysBy_0 : decode cX12_waysBy 0 = .ok (.aload_n 0, 1) := by decide +kernel
theorem dX12_waysBy_1 : decode cX12_waysBy 1 = .ok (.iload_n 3, 1) := by decide +kernel
theorem dX12_waysBy_2 : decode cX12_waysBy 2 = .ok (.iload 4, 2) := by decide +kernel
theorem dX12_waysBy_4 : decode cX12_waysBy 4 = .ok (.invokevirtual 318, 3) := by decide +kernel
theorem dX12_waysBy_7 : decode cX12_waysBy 7 = .ok (.istore 5, 2) := by decide +kernel
theorem dX12_waysBy_9 : decode cX12_waysBy 9 = .ok (.iload 5, 2) := by decide +kernel
theorem dX12_waysBy_11 : decode cX12_waysBy 11 = .ok (.iconst (-1), 1) := by decide +kernel
theorem dX12_waysBy_12 : decode cX12_waysBy 12 = .ok (.if_icmp .ne 7, 3) := by decide +kernel
theorem dX12_waysBy_15 : decode cX12_waysBy 15 = .ok (.iconst 0, 1) := by decide +kernel
theorem dX12_waysBy_16 : decode cX12_waysBy 16 = .ok (.goto 20, 3) := by decide +kernel
theorem dX12_waysBy_19 : decode cX12_waysBy 19 = .ok (.aload_n 0, 1) := by decide +kernel
theorem dX12_waysBy_20 : decode cX12_waysBy 20 = .ok (.getfield 66, 3) := by decide +kernel
theorem dX12_waysBy_23 : decode cX12_waysBy 23 = .ok (.iload_n 1, 1) := by decide +kernel
theorem dX12_waysBy_24 : decode cX12_waysBy 24 = .ok (.iconst 1, 1) := by decide +kernel
theorem dX12_waysBy_25 : decode cX12_waysBy 25 = .ok (.iadd, 1) := by decide +kernel
theorem dX12_waysBy_26 : decode cX12_waysBy 26 = .ok (.iload_n 2, 1) := by decide +kernel
theorem dX12_waysBy_27 : decode cX12_waysBy 27 = .ok (.iload 4, 2) := by decide +kernel
theorem dX12_waysBy_29 : decode cX12_waysBy 29 = .ok (.iadd, 1) := by decide +kernel
theorem dX12_waysBy_30 : decode cX12_waysBy 30 = .ok (.iload 5, 2) := by decide +kernel
theorem dX12_waysBy_32 : decode cX12_waysBy 32 = .ok (.invokestatic 321, 3) := by decide +kernel
theorem dX12_waysBy_35 : decode cX12_waysBy 35 = .ok (.iaload, 1) := by decide +kernel
theorem dX12_waysBy_36 : decode cX12_waysBy 36 = .ok (.ireturn, 1) := by decide +kernel
set_option maxHeartbeats 4000000 in
set_option maxRecDepth 100000 in
theorem sX12_waysBy (l : Launch) (dC : Nat → ClassId) (dI : Nat → Nat → Nat) (h0 : Nat) (mi : Nat → Int32) (mr : Nat → Nat) (km_ways : ClassId) (fm_ways : Nat → Int32) (p1 : Int32) (p2 : Int32) (p3 : Int32) (p4 : Int32) (gmi_0 : gi (mi 0) 0 24) (gmi_1 : gi (mi 1) 0 5) (gmi_2 : gi (mi 2) 0 5) (gmi_4 : gi (mi 4) 0 1) (gmi_7 : gi (mi 7) 0 6) (gmi_10 : gi (mi 10) 0 24) (gmi_17 : gi (mi 17) 0 8) (gmi_23 : gi (mi 23) 0 300) (gmi_24 : gi (mi 24) 0 1) (gmi_26 : gi (mi 26) 0 1600) (gmi_29 : gi (mi 29) 0 1600) (gmi_30 : gi (mi 30) 0 1600) (gmi_33 : gi (mi 33) 0 1) (gmi_37 : gi (mi 37) 0 1) (gmi_41 : gi (mi 41) 0 24) (gmi_50 : gi (mi 50) 0 1) (gmi_51 : gi (mi 51) 0 1) (gmi_56 : gi (mi 56) 0 80) (gp1 : gi p1 0 23) (gp2 : gi p2 0 23) (gp3 : gi p3 (-1) 10) (gp4 : gi p4 0 1) : Met l yX12_waysBy (.code yX12_waysBy cX12_waysBy 6 (some .int) :: wsGB) ({ frames := 1, cells := 0, slots := 0, locals := 23 }) (va_Pc [.ref h0, .int p1, .int p2, .int p3, .int p4] (fun U => va_P (dC, dI) vwCl [(h0, .inr (12, fsMM mi mr)), ((mr 17), .inl (km_ways, 6875, .inl fm_ways))] U.heap ∧ va_K (dC, dI) vwCl [(km_ways, .int)] U)) (va_Qi (fun (r : Int32) (u : Unit) => gi r (-2147483648) 2147483647) (fun _ _ => True) (fun _ => False)) 0 0 (fun _ => False) := by
  refine Met.ofW (cc := cX12_waysBy) (maxL := 6) (ret := (some .int)) (by decide) rfl ?_
  intro p e s m args below meth c s₁ B hml hv
  obtain ⟨rfl, hP, hK⟩ := hv
  have hx := B.exec
  have hb := B.bytes
  have hr := B.returns
  have hts := atoms_spec (ws := (.code yX12_waysBy cX12_waysBy 6 (some .int) :: wsGB)) B.pre
  have hown : s.vm.findClass RX12 = some m.cls := findClass_of_methodNamed B.named
  have hlocks := B.notSynchronized
  have hS : va_S (fun _ => False) s.heap s.heap [] := va_S.rf
  have hl := lv_entry ([.ref h0, .int p1, .int p2, .int p3, .int p4]) (n := 6) (Nat.le_of_ble_eq_true rfl)
  rw [lg_entry_eq]
  generalize (lg_sl ([.ref h0, .int p1, .int p2, .int p3, .int p4]) ++ List.replicate (6 - (lg_sl ([.ref h0, .int p1, .int p2, .int p3, .int p4])).length) Slot.unset).toArray = ls at hl ⊢
  have hl : lv_has ls 6 [(0, .ref h0), (1, .int p1), (2, .int p2), (3, .int p3), (4, .int p4)] := hl
  refine lv_aload_n hx hb dX12_waysBy_0 rfl (lv_at hl 0 rfl) ?_
  refine lv_iload_n hx hb dX12_waysBy_1 rfl (lv_at hl 3 rfl) ?_
  refine lv_iload hx hb dX12_waysBy_2 (lv_at hl 4 rfl) ?_
  have hPc := hP.sub (ws' := [(h0, .inr (12, fsMM mi mr))]) [0] rfl
  have hKc := hK.sub (tys' := []) [] rfl
  refine va_calli (va_runV (As := [.int p3, .int p4]) (rest := []) ⟨hx, hb, hml, hown, hts⟩ (sX12_runBehind l dC dI h0 mi mr p3 p4 gmi_0 gmi_1 gmi_2 gmi_4 gmi_7 gmi_10 gmi_17 gmi_23 gmi_24 gmi_26 gmi_29 gmi_30 gmi_33 gmi_37 gmi_41 gmi_50 gmi_51 gmi_56 gp3 gp4) (cwV 2 hts (gz_gV mGB_311 mGB_312 mGB_313 mGB_1 mGB_314 goodGB) rfl rfl rfl (by decide +kernel) ⟨Nat.le_of_ble_eq_true rfl, Nat.le_of_ble_eq_true rfl⟩) ⟨fun a U g mk q => by obtain ⟨q0, qP, qK⟩ := q; exact ⟨q0, qP, va_K.moved (u := U) (U := U.calling g mk a) (Vm.Alike.refl U.vm) qK⟩, va_recv hKc hPc (ci := 12) (q0 := 0) rfl rfl, fun U hU hW => ⟨rfl, by rw [hU]; exact hPc, va_K.moved hW.alike hKc⟩⟩ rfl rfl hl.1 rfl (lv_room (Nat.le_of_ble_eq_true rfl)) dX12_waysBy_4 ⟨Nat.zero_le _, Nat.zero_le _⟩) hS (fun q _ h => h.elim) (fun q h => h.elim) (fun r_9 u t H1 locs ht hvm hw hB hz1 hk1 hS => ?_)
  have hP := gz_keep hP hk1
  generalize H1 = H at hP hS ⊢
  have gr_9 : gi r_9 (-1) 10 := hw
  refine lv_istore (lv' := [(5, .int r_9), (0, .ref h0), (1, .int p1), (2, .int p2), (3, .int p3), (4, .int p4)]) hx hb dX12_waysBy_7 hl (by decide) rfl (fun ls hl => ?_)
  refine lv_iload hx hb dX12_waysBy_9 (lv_at hl 0 rfl) ?_
  refine lv_iconst (v := (-1)) hx hb dX12_waysBy_11 (by decide) ?_
  refine lv_icmp_ne (tgt := 19) hx hb dX12_waysBy_12 (by decide) (fun c_10 => ?_) (fun c_10 => ?_)
  · have g_11 : gi r_9 0 10 := gi_ne_lo c_10 gr_9 (gi_c (-1) (-1) (by decide)) (by decide)
    refine lv_aload_n hx hb dX12_waysBy_19 rfl (lv_at hl 1 rfl) ?_
    refine va_get (D := (dC, dI)) (ci := 12) (v := .ref (mr 17)) (C := RX12) (T := TX12) (N := 57) hx hb hts (fun w h => List.mem_cons_of_mem _ (jnGB_X12 w h)) hown hK hP 0 rfl rfl 38 (by decide) (hts _ (List.mem_cons_of_mem _ mGB_29)) (fun _ h9 => h9) rfl dX12_waysBy_20 ?_
    refine lv_iload_n hx hb dX12_waysBy_23 rfl (lv_at hl 2 rfl) ?_
    refine lv_iconst (v := 1) hx hb dX12_waysBy_24 (by decide) ?_
    refine lv_iadd hx hb dX12_waysBy_25 ?_
    refine lv_topi (fun x_12 ex_12 => ?_)
    have gx_12 : gi x_12 1 24 := gi_add ex_12 gp1 (gi_c 1 1 (by decide)) (by decide)
    refine lv_iload_n hx hb dX12_waysBy_26 rfl (lv_at hl 3 rfl) ?_
    refine lv_iload hx hb dX12_waysBy_27 (lv_at hl 5 rfl) ?_
    refine lv_iadd hx hb dX12_waysBy_29 ?_
    refine lv_topi (fun x_13 ex_13 => ?_)
    have gx_13 : gi x_13 0 24 := gi_add ex_13 gp2 gp4 (by decide)
    refine lv_iload hx hb dX12_waysBy_30 (lv_at hl 0 rfl) ?_
    have hPc := hP.sub (ws' := []) [] rfl
    have hKc := hK.sub (tys' := []) [] rfl
    refine va_calli (va_runS (As := [.int x_12, .int x_13, .int r_9]) (rest := [.ref (mr 17)]) ⟨hx, hb, hml, hown, hts⟩ (sX12_placeOf l dC dI x_12 x_13 r_9 (gi_w gx_12 (by decide)) gx_13 g_11) (cwS 3 hts (gz_gS mGB_315 mGB_316 mGB_1 mGB_317 goodGB) rfl rfl rfl (by decide +kernel) ⟨Nat.le_of_ble_eq_true rfl, Nat.le_of_ble_eq_true rfl⟩) ⟨fun a U g mk q => by obtain ⟨q0, qP, qK⟩ := q; exact ⟨q0, qP, va_K.moved (u := U) (U := U.calling g mk a) (Vm.Alike.refl U.vm) qK⟩, fun U hU hW => ⟨rfl, by rw [hU]; exact hPc, va_K.moved hW.alike hKc⟩⟩ rfl rfl hl.1 rfl (lv_room (Nat.le_of_ble_eq_true rfl)) dX12_waysBy_32 ⟨Nat.zero_le _, Nat.zero_le _⟩) hS (fun q _ h => h.elim) (fun q h => h.elim) (fun r_14 u t H1 locs ht hvm hw hB hz1 hk1 hS => ?_)
    have hP := gz_keep hP hk1
    generalize H1 = H at hP hS ⊢
    have gr_14 : gi r_14 0 6874 := hw
    refine va_iald hx hb hK hP 1 0 rfl rfl (gi_in gr_14 (by decide)) dX12_waysBy_35 ?_
    refine lv_topi (fun x_15 ex_15 => ?_)
    exact W.iret (v := x_15) hx hb hr (fun t ht hW => ⟨⟨x_15, (), rfl, (gi_any x_15), trivial⟩, hS.F ht⟩) hS.2.2 dX12_waysBy_36
  · have g_16 : gi r_9 (-1) (-1) := gi_eq c_10 (gi_c (-1) (-1) (by decide))
    refine lv_iconst (v := 0) hx hb dX12_waysBy_15 (by decide) ?_
    refine lv_goto (tgt := 36) hx hb dX12_waysBy_16 (by decide) ?_
    exact W.iret (v := 0) hx hb hr (fun t ht hW => ⟨⟨0, (), rfl, (gi_any 0), trivial⟩, hS.F ht⟩) hS.2.2 dX12_waysBy_36
theorem dX12_counts_0 : decode cX12_counts 0 = .ok (.aload_n 0, 1) := by decide +kernel
theorem dX12_counts_1 : decode cX12_counts 1 = .ok (.getfield 117, 3) := by decide +kernel
theorem dX12_counts_4 : decode cX12_counts 4 = .ok (.istore_n 1, 1) := by decide +kernel
theorem dX12_counts_5 : decode cX12_counts 5 = .ok (.iload_n 1, 1) := by decide +kernel
theorem dX12_counts_6 : decode cX12_counts 6 = .ok (.ifCond .lt 120, 3) := by decide +kernel
theorem dX12_counts_9 : decode cX12_counts 9 = .ok (.iconst 0, 1) := by decide +kernel
theorem dX12_counts_10 : decode cX12_counts 10 = .ok (.istore_n 2, 1) := by decide +kernel
theorem dX12_counts_11 : decode cX12_counts 11 = .ok (.iload_n 2, 1) := by decide +kernel
theorem dX12_counts_12 : decode cX12_counts 12 = .ok (.iload_n 1, 1) := by decide +kernel
theorem dX12_counts_13 : decode cX12_counts 13 = .ok (.if_icmp .gt 107, 3) := by decide +kernel
theorem dX12_counts_16 : decode cX12_counts 16 = .ok (.aload_n 0, 1) := by decide +kernel
theorem dX12_counts_17 : decode cX12_counts 17 = .ok (.getfield 312, 3) := by decide +kernel
theorem dX12_counts_20 : decode cX12_counts 20 = .ok (.ifCond .ne 21, 3) := by decide +kernel
theorem dX12_counts_23 : decode cX12_counts 23 = .ok (.aload_n 0, 1) := by decide +kernel
theorem dX12_counts_24 : decode cX12_counts 24 = .ok (.iload_n 1, 1) := by decide +kernel
theorem dX12_counts_25 : decode cX12_counts 25 = .ok (.bipush 29, 2) := by decide +kernel
theorem dX12_counts_27 : decode cX12_counts 27 = .ok (.iload_n 1, 1) := by decide +kernel
theorem dX12_counts_28 : decode cX12_counts 28 = .ok (.imul, 1) := by decide +kernel
theorem dX12_counts_29 : decode cX12_counts 29 = .ok (.iload_n 2, 1) := by decide +kernel
theorem dX12_counts_30 : decode cX12_counts 30 = .ok (.iadd, 1) := by decide +kernel
theorem dX12_counts_31 : decode cX12_counts 31 = .ok (.invokevirtual 325, 3) := by decide +kernel
theorem dX12_counts_34 : decode cX12_counts 34 = .ok (.ifCond .eq 7, 3) := by decide +kernel
theorem dX12_counts_37 : decode cX12_counts 37 = .ok (.iconst 1, 1) := by decide +kernel
theorem dX12_counts_38 : decode cX12_counts 38 = .ok (.goto 4, 3) := by decide +kernel
theorem dX12_counts_41 : decode cX12_counts 41 = .ok (.iconst 0, 1) := by decide +kernel
theorem dX12_counts_42 : decode cX12_counts 42 = .ok (.istore_n 3, 1) := by decide +kernel
theorem dX12_counts_43 : decode cX12_counts 43 = .ok (.iconst 0, 1) := by decide +kernel
theorem dX12_counts_44 : decode cX12_counts 44 = .ok (.istore 4, 2) := by decide +kernel
theorem dX12_counts_46 : decode cX12_counts 46 = .ok (.iload 4, 2) := by decide +kernel
theorem dX12_counts_48 : decode cX12_counts 48 = .ok (.bipush 10, 2) := by decide +kernel
theorem dX12_counts_50 : decode cX12_counts 50 = .ok (.if_icmp .gt 64, 3) := by decide +kernel
theorem dX12_counts_53 : decode cX12_counts 53 = .ok (.iload_n 3, 1) := by decide +kernel
theorem dX12_counts_54 : decode cX12_counts 54 = .ok (.ifCond .ne 7, 3) := by decide +kernel
theorem dX12_counts_57 : decode cX12_counts 57 = .ok (.iconst 0, 1) := by decide +kernel
theorem dX12_counts_58 : decode cX12_counts 58 = .ok (.goto 34, 3) := by decide +kernel
theorem dX12_counts_61 : decode cX12_counts 61 = .ok (.iload_n 1, 1) := by decide +kernel
theorem dX12_counts_62 : decode cX12_counts 62 = .ok (.aload_n 0, 1) := by decide +kernel
theorem dX12_counts_63 : decode cX12_counts 63 = .ok (.getfield 117, 3) := by decide +kernel
theorem dX12_counts_66 : decode cX12_counts 66 = .ok (.if_icmp .ne 7, 3) := by decide +kernel
theorem dX12_counts_69 : decode cX12_counts 69 = .ok (.iconst 1, 1) := by decide +kernel
theorem dX12_counts_70 : decode cX12_counts 70 = .ok (.goto 22, 3) := by decide +kernel
theorem dX12_counts_73 : decode cX12_counts 73 = .ok (.aload_n 0, 1) := by decide +kernel
theorem dX12_counts_74 : decode cX12_counts 74 = .ok (.iload_n 1, 1) := by decide +kernel
theorem dX12_counts_75 : decode cX12_counts 75 = .ok (.iload_n 2, 1) := by decide +kernel
theorem dX12_counts_76 : decode cX12_counts 76 = .ok (.iload 4, 2) := by decide +kernel
theorem dX12_counts_78 : decode cX12_counts 78 = .ok (.iconst 0, 1) := by decide +kernel
theorem dX12_counts_79 : decode cX12_counts 79 = .ok (.invokevirtual 328, 3) := by decide +kernel
theorem dX12_counts_82 : decode cX12_counts 82 = .ok (.aload_n 0, 1) := by decide +kernel
theorem dX12_counts_83 : decode cX12_counts 83 = .ok (.iload_n 1, 1) := by decide +kernel
theorem dX12_counts_84 : decode cX12_counts 84 = .ok (.iload_n 2, 1) := by decide +kernel
theorem dX12_counts_85 : decode cX12_counts 85 = .ok (.iload 4, 2) := by decide +kernel
theorem dX12_counts_87 : decode cX12_counts 87 = .ok (.iconst 1, 1) := by decide +kernel
theorem dX12_counts_88 : decode cX12_counts 88 = .ok (.invokevirtual 328, 3) := by decide +kernel
theorem dX12_counts_91 : decode cX12_counts 91 = .ok (.iadd, 1) := by decide +kernel
theorem dX12_counts_92 : decode cX12_counts 92 = .ok (.istore 5, 2) := by decide +kernel
theorem dX12_counts_94 : decode cX12_counts 94 = .ok (.aload_n 0, 1) := by decide +kernel
theorem dX12_counts_95 : decode cX12_counts 95 = .ok (.getfield 66, 3) := by decide +kernel
theorem dX12_counts_98 : decode cX12_counts 98 = .ok (.iload_n 1, 1) := by decide +kernel
theorem dX12_counts_99 : decode cX12_counts 99 = .ok (.iload_n 2, 1) := by decide +kernel
theorem dX12_counts_100 : decode cX12_counts 100 = .ok (.iload 4, 2) := by decide +kernel
theorem dX12_counts_102 : decode cX12_counts 102 = .ok (.invokestatic 321, 3) := by decide +kernel
theorem dX12_counts_105 : decode cX12_counts 105 = .ok (.iload 5, 2) := by decide +kernel
theorem dX12_counts_107 : decode cX12_counts 107 = .ok (.iastore, 1) := by decide +kernel
theorem dX12_counts_108 : decode cX12_counts 108 = .ok (.iinc 4 1, 3) := by decide +kernel
theorem dX12_counts_111 : decode cX12_counts 111 = .ok (.goto (-65), 3) := by decide +kernel
theorem dX12_counts_114 : decode cX12_counts 114 = .ok (.iinc 2 1, 3) := by decide +kernel
theorem dX12_counts_117 : decode cX12_counts 117 = .ok (.goto (-106), 3) := by decide +kernel
theorem dX12_counts_120 : decode cX12_counts 120 = .ok (.iinc 1 (-1), 3) := by decide +kernel
theorem dX12_counts_123 : decode cX12_counts 123 = .ok (.goto (-118), 3) := by decide +kernel
theorem dX12_counts_126 : decode cX12_counts 126 = .ok (.aload_n 0, 1) := by decide +kernel
theorem dX12_counts_127 : decode cX12_counts 127 = .ok (.getfield 66, 3) := by decide +kernel
theorem dX12_counts_130 : decode cX12_counts 130 = .ok (.iconst 0, 1) := by decide +kernel
theorem dX12_counts_131 : decode cX12_counts 131 = .ok (.iaload, 1) := by decide +kernel
theorem dX12_counts_132 : decode cX12_counts 132 = .ok (.ireturn, 1) := by decide +kernel
set_option maxHeartbeats 4000000 in
set_option maxRecDepth 100000 in
theorem lp_sX12_counts {p : Program} {l : Launch} {e : Env} {R : Room} {s : State} {m : MethodId} {args : Array Value} {below : List Frame} {meth : Method} {c : Code} {Q : State → Prop} {A : Nat → Prop} {cells slots : Nat} {dC : Nat → ClassId} {dI : Nat → Nat → Nat} (h0 : Nat) (mi : Nat → Int32) (mr : Nat → Nat) (km_must : ClassId) (fm_must : Nat → Int32) (km_least : ClassId) (fm_least : Nat → Int32) (km_pin : ClassId) (fm_pin : Nat → Int32) (km_ways : ClassId) (fm_ways : Nat → Int32) (gmi_0 : gi (mi 0) 0 24) (gmi_1 : gi (mi 1) 0 5) (gmi_2 : gi (mi 2) 0 5) (gmi_4 : gi (mi 4) 0 1) (gmi_7 : gi (mi 7) 0 6) (gmi_10 : gi (mi 10) 0 24) (gmi_17 : gi (mi 17) 0 8) (gmi_23 : gi (mi 23) 0 300) (gmi_24 : gi (mi 24) 0 1) (gmi_26 : gi (mi 26) 0 1600) (gmi_29 : gi (mi 29) 0 1600) (gmi_30 : gi (mi 30) 0 1600) (gmi_33 : gi (mi 33) 0 1) (gmi_37 : gi (mi 37) 0 1) (gmi_41 : gi (mi 41) 0 24) (gmi_50 : gi (mi 50) 0 1) (gmi_51 : gi (mi 51) 0 1) (gmi_56 : gi (mi 56) 0 80) (hx : p.tables.exec = Jvm.exec) (hb : c.code = cX12_counts) (hml : c.maxLocals = 6) (hown : s.vm.findClass RX12 = some m.cls) (hts : ∀ w ∈ ((.code yX12_counts cX12_counts 6 (some .int) :: wsGB) : List Cond), w.before args s = true) (hK : va_K (dC, dI) vwCl [(km_must, .int), (km_least, .int), (km_pin, .int), (km_ways, .int)] s) (hA : ∀ q : Nat, s.heap.size ≤ q → A q) (hRf : 2 ≤ R.frames) (hRl : 48 ≤ R.locals) (hRc : cells ≤ R.cells) (hRs : slots ≤ R.slots) (kr132 : ∀ (v : Int32) (z4 : Nat → Int32) (H : Heap) (locs : List Loc) (ls : Array Slot), va_P (dC, dI) vwCl [(h0, .inr (12, fsMM mi mr)), ((mr 14), .inl (km_must, 25, .inl fm_must)), ((mr 15), .inl (km_least, 25, .inl fm_least)), ((mr 16), .inl (km_pin, 25, .inl fm_pin)), ((mr 17), .inl (km_ways, 6875, .inl z4))] H → va_D A [(h0, .inr (12, fsMM mi mr)), ((mr 14), .inl (km_must, 25, .inl fm_must)), ((mr 15), .inl (km_least, 25, .inl fm_least)), ((mr 16), .inl (km_pin, 25, .inl fm_pin)), ((mr 17), .inl (km_ways, 6875, .inl z4))] → va_S A s.heap H locs → lv_has ls 6 [] → W p l e R s m args below meth c H locs cells slots Q (F0 m 132 ls [.int v])) : ∀ z : Nat, (∀ (v1 : Int32) (z4 : Nat → Int32) (H : Heap) (locs : List Loc) (ls : Array Slot), gi v1 (-1) 24 → v1.toInt ≤ (mi 0).toInt → 759 + 758 * v1.toInt < (z : Int) → va_P (dC, dI) vwCl [(h0, .inr (12, fsMM mi mr)), ((mr 14), .inl (km_must, 25, .inl fm_must)), ((mr 15), .inl (km_least, 25, .inl fm_least)), ((mr 16), .inl (km_pin, 25, .inl fm_pin)), ((mr 17), .inl (km_ways, 6875, .inl z4))] H → va_D A [(h0, .inr (12, fsMM mi mr)), ((mr 14), .inl (km_must, 25, .inl fm_must)), ((mr 15), .inl (km_least, 25, .inl fm_least)), ((mr 16), .inl (km_pin, 25, .inl fm_pin)), ((mr 17), .inl (km_ways, 6875, .inl z4))] → va_S A s.heap H locs → lv_has ls 6 [(0, .ref h0), (1, .int v1)] → W p l e R s m args below meth c H locs cells slots Q (F0 m 5 ls [])) ∧ (∀ (v1 : Int32) (v2 : Int32) (z4 : Nat → Int32) (H : Heap) (locs : List Loc) (ls : Array Slot), gi v1 0 24 → gi v2 0 25 → v1.toInt ≤ (mi 0).toInt → 702 + 758 * v1.toInt + (-28) * v2.toInt < (z : Int) → va_P (dC, dI) vwCl [(h0, .inr (12, fsMM mi mr)), ((mr 14), .inl (km_must, 25, .inl fm_must)), ((mr 15), .inl (km_least, 25, .inl fm_least)), ((mr 16), .inl (km_pin, 25, .inl fm_pin)), ((mr 17), .inl (km_ways, 6875, .inl z4))] H → va_D A [(h0, .inr (12, fsMM mi mr)), ((mr 14), .inl (km_must, 25, .inl fm_must)), ((mr 15), .inl (km_least, 25, .inl fm_least)), ((mr 16), .inl (km_pin, 25, .inl fm_pin)), ((mr 17), .inl (km_ways, 6875, .inl z4))] → va_S A s.heap H locs → lv_has ls 6 [(0, .ref h0), (1, .int v1), (2, .int v2)] → W p l e R s m args below meth c H locs cells slots Q (F0 m 11 ls [])) ∧ (∀ (v1 : Int32) (v2 : Int32) (v3 : Int32) (v4 : Int32) (z4 : Nat → Int32) (H : Heap) (locs : List Loc) (ls : Array Slot), gi v1 0 24 → gi v2 0 24 → gi v3 0 1 → gi v4 0 11 → v1.toInt ≤ (mi 0).toInt → v2.toInt ≤ v1.toInt → 697 + 758 * v1.toInt + (-28) * v2.toInt + (-2) * v4.toInt < (z : Int) → va_P (dC, dI) vwCl [(h0, .inr (12, fsMM mi mr)), ((mr 14), .inl (km_must, 25, .inl fm_must)), ((mr 15), .inl (km_least, 25, .inl fm_least)), ((mr 16), .inl (km_pin, 25, .inl fm_pin)), ((mr 17), .inl (km_ways, 6875, .inl z4))] H → va_D A [(h0, .inr (12, fsMM mi mr)), ((mr 14), .inl (km_must, 25, .inl fm_must)), ((mr 15), .inl (km_least, 25, .inl fm_least)), ((mr 16), .inl (km_pin, 25, .inl fm_pin)), ((mr 17), .inl (km_ways, 6875, .inl z4))] → va_S A s.heap H locs → lv_has ls 6 [(0, .ref h0), (1, .int v1), (2, .int v2), (3, .int v3), (4, .int v4)] → W p l e R s m args below meth c H locs cells slots Q (F0 m 46 ls [])) := by
  intro z
  induction z with
  | zero =>
    refine ⟨?_, ?_, ?_⟩
    · intro v1 z4 H locs ls gv1 hle_gv1_gmi_0 hmu hP hD hS hl
      exact absurd hmu (by have hv11 := gv1.1; have hv12 := gv1.2; omega)
    · intro v1 v2 z4 H locs ls gv1 gv2 hle_gv1_gmi_0 hmu hP hD hS hl
      exact absurd hmu (by have hv11 := gv1.1; have hv12 := gv1.2; have hv21 := gv2.1; have hv22 := gv2.2; omega)
    · intro v1 v2 v3 v4 z4 H locs ls gv1 gv2 gv3 gv4 hle_gv1_gmi_0 hle_gv2_gv1 hmu hP hD hS hl
      exact absurd hmu (by have hv11 := gv1.1; have hv12 := gv1.2; have hv21 := gv2.1; have hv22 := gv2.2; have hv41 := gv4.1; have hv42 := gv4.2; omega)
  | succ z ih =>
    refine ⟨?_, ?_, ?_⟩
    · intro v1 z4 H locs ls gv1 hle_gv1_gmi_0 hmu hP hD hS hl
      refine lv_iload_n hx hb dX12_counts_5 rfl (lv_at hl 1 rfl) ?_
      refine lv_if_lt (tgt := 126) hx hb dX12_counts_6 (by decide) (fun c_892 => ?_) (fun c_892 => ?_)
      · have g_893 : gi v1 (-1) (-1) := gi_lt_l c_892 gv1 (gi_c 0 0 (by decide)) (by decide)
        refine lv_aload_n hx hb dX12_counts_126 rfl (lv_at hl 0 rfl) ?_
        refine va_get (D := (dC, dI)) (ci := 12) (v := .ref (mr 17)) (C := RX12) (T := TX12) (N := 57) hx hb hts (fun w h => List.mem_cons_of_mem _ (jnGB_X12 w h)) hown hK hP 0 rfl rfl 38 (by decide) (hts _ (List.mem_cons_of_mem _ mGB_29)) (fun _ h9 => h9) rfl dX12_counts_127 ?_
        refine lv_iconst (v := 0) hx hb dX12_counts_130 (by decide) ?_
        refine va_iald hx hb hK hP 4 3 rfl rfl (gi_in (gi_c 0 0 (by decide)) (by decide)) dX12_counts_131 ?_
        refine lv_topi (fun x_894 ex_894 => ?_)
        exact kr132 x_894 z4 _ _ _ hP hD hS (lv_sub hl [] rfl)
      · have g_895 : gi v1 0 24 := gi_le_r (Int32.not_lt.mp c_892) (gi_c 0 0 (by decide)) gv1
        refine lv_iconst (v := 0) hx hb dX12_counts_9 (by decide) ?_
        refine lv_istore_n (lv' := [(2, .int 0), (0, .ref h0), (1, .int v1)]) hx hb dX12_counts_10 rfl hl (by decide) rfl (fun ls hl => ?_)
        exact ih.2.1 v1 0 z4 _ _ _ g_895 (gi_w (gi_c 0 0 (by decide)) (by decide)) (by have qgmi_0 := gmi_0.1; have rgmi_0 := gmi_0.2; have qgv1 := g_895.1; have rgv1 := g_895.2; omega) (by have k0 : (0 : Int32).toInt = 0 := (by decide); have av1 := gv1.1; have bv1 := gv1.2; have qgv1 := g_895.1; have rgv1 := g_895.2; omega) hP hD hS (lv_sub hl [1, 2, 0] rfl)
    · intro v1 v2 z4 H locs ls gv1 gv2 hle_gv1_gmi_0 hmu hP hD hS hl
      refine lv_iload_n hx hb dX12_counts_11 rfl (lv_at hl 2 rfl) ?_
      refine lv_iload_n hx hb dX12_counts_12 rfl (lv_at hl 1 rfl) ?_
      refine lv_icmp_gt (tgt := 120) hx hb dX12_counts_13 (by decide) (fun c_896 => ?_) (fun c_896 => ?_)
      · have g_897 : gi v2 1 25 := gi_lt_r c_896 gv1 gv2 (by decide)
        obtain ⟨x_898, ex_898⟩ : ∃ y : Int32, y = v1 + (-1) := ⟨_, rfl⟩
        have gx_898 : gi x_898 (-1) 23 := gi_add ex_898 gv1 (gi_c (-1) (-1) (by decide)) (by decide)
        refine lv_iinc (v := x_898) (lv' := [(1, .int x_898), (0, .ref h0), (2, .int v2)]) hx hb dX12_counts_120 hl (k := 1) rfl (by rw [ex_898]; rfl) (by decide) rfl (fun ls hl => ?_)
        refine lv_goto (tgt := 5) hx hb dX12_counts_123 (by decide) ?_
        exact ih.1 x_898 z4 _ _ _ (gi_w gx_898 (by decide)) (by have qgmi_0 := gmi_0.1; have rgmi_0 := gmi_0.2; have qgx_898 := gx_898.1; have rgx_898 := gx_898.2; have igx_898 : x_898.toInt = v1.toInt + (-1) := (by have hcm1 : ((-1) : Int32).toInt = (-1) := (by decide); have h9 := gi_addI ex_898 (by have h1 := gv1.1; have h2 := (gi_c (-1) (-1) (by decide)).1; have h3 := gv1.2; have h4 := (gi_c (-1) (-1) (by decide)).2; omega) (by have h1 := gv1.1; have h2 := (gi_c (-1) (-1) (by decide)).1; have h3 := gv1.2; have h4 := (gi_c (-1) (-1) (by decide)).2; omega); rw [hcm1] at h9; exact h9); have qgv1 := gv1.1; have rgv1 := gv1.2; have y1 := (Int32.lt_iff_toInt_lt.mp c_896); omega) (by have av1 := gv1.1; have bv1 := gv1.2; have av2 := gv2.1; have bv2 := gv2.2; have qgx_898 := gx_898.1; have rgx_898 := gx_898.2; have igx_898 : x_898.toInt = v1.toInt + (-1) := (by have hcm1 : ((-1) : Int32).toInt = (-1) := (by decide); have h9 := gi_addI ex_898 (by have h1 := gv1.1; have h2 := (gi_c (-1) (-1) (by decide)).1; have h3 := gv1.2; have h4 := (gi_c (-1) (-1) (by decide)).2; omega) (by have h1 := gv1.1; have h2 := (gi_c (-1) (-1) (by decide)).1; have h3 := gv1.2; have h4 := (gi_c (-1) (-1) (by decide)).2; omega); rw [hcm1] at h9; exact h9); have qgv1 := gv1.1; have rgv1 := gv1.2; omega) hP hD hS (lv_sub hl [1, 0] rfl)
      · have g_899 : gi v2 0 24 := gi_le_l (Int32.not_lt.mp c_896) gv2 gv1
        refine lv_aload_n hx hb dX12_counts_16 rfl (lv_at hl 0 rfl) ?_
        refine va_get (D := (dC, dI)) (ci := 12) (v := .int (mi 37)) (C := RX12) (T := TX12) (N := 57) hx hb hts (fun w h => List.mem_cons_of_mem _ (jnGB_X12 w h)) hown hK hP 0 rfl rfl 37 (by decide) (hts _ (List.mem_cons_of_mem _ mGB_270)) (fun _ h9 => h9) rfl dX12_counts_17 ?_
        refine lv_if_ne (tgt := 41) hx hb dX12_counts_20 (by decide) (fun c_900 => ?_) (fun c_900 => ?_)
        · have g_901 : gi (mi 37) 1 1 := gi_ne_lo c_900 gmi_37 (gi_c 0 0 (by decide)) (by decide)
          refine lv_iconst (v := 0) hx hb dX12_counts_41 (by decide) ?_
          refine lv_istore_n (lv' := [(3, .int 0), (0, .ref h0), (1, .int v1), (2, .int v2)]) hx hb dX12_counts_42 rfl hl (by decide) rfl (fun ls hl => ?_)
          refine lv_iconst (v := 0) hx hb dX12_counts_43 (by decide) ?_
          refine lv_istore (lv' := [(4, .int 0), (3, .int 0), (0, .ref h0), (1, .int v1), (2, .int v2)]) hx hb dX12_counts_44 hl (by decide) rfl (fun ls hl => ?_)
          exact ih.2.2 v1 v2 0 0 z4 _ _ _ gv1 g_899 (gi_w (gi_c 0 0 (by decide)) (by decide)) (gi_w (gi_c 0 0 (by decide)) (by decide)) (by have qgmi_0 := gmi_0.1; have rgmi_0 := gmi_0.2; have qgv1 := gv1.1; have rgv1 := gv1.2; have y1 := (Int32.le_iff_toInt_le.mp (Int32.not_lt.mp c_896)); omega) (by have qgv1 := gv1.1; have rgv1 := gv1.2; have qgv2 := g_899.1; have rgv2 := g_899.2; have y1 := (Int32.le_iff_toInt_le.mp (Int32.not_lt.mp c_896)); omega) (by have k0 : (0 : Int32).toInt = 0 := (by decide); have av1 := gv1.1; have bv1 := gv1.2; have av2 := gv2.1; have bv2 := gv2.2; have qgv2 := g_899.1; have rgv2 := g_899.2; have qgv1 := gv1.1; have rgv1 := gv1.2; omega) hP hD hS (lv_sub hl [2, 3, 4, 1, 0] rfl)
        · have g_902 : gi (mi 37) 0 0 := gi_eq c_900 (gi_c 0 0 (by decide))
          refine lv_aload_n hx hb dX12_counts_23 rfl (lv_at hl 0 rfl) ?_
          refine lv_iload_n hx hb dX12_counts_24 rfl (lv_at hl 1 rfl) ?_
          refine lv_bipush (v := 29) hx hb dX12_counts_25 (by decide) ?_
          refine lv_iload_n hx hb dX12_counts_27 rfl (lv_at hl 1 rfl) ?_
          refine lv_imul hx hb dX12_counts_28 ?_
          refine lv_topi (fun x_903 ex_903 => ?_)
          have gx_903 : gi x_903 0 696 := gi_mul ex_903 (gi_c 29 29 (by decide)) gv1 (by decide)
          refine lv_iload_n hx hb dX12_counts_29 rfl (lv_at hl 2 rfl) ?_
          refine lv_iadd hx hb dX12_counts_30 ?_
          refine lv_topi (fun x_904 ex_904 => ?_)
          have gx_904 : gi x_904 0 720 := gi_add ex_904 gx_903 g_899 (by decide)
          have hPc := hP.sub (ws' := [(h0, .inr (12, fsMM mi mr)), ((mr 14), .inl (km_must, 25, .inl fm_must)), ((mr 15), .inl (km_least, 25, .inl fm_least)), ((mr 16), .inl (km_pin, 25, .inl fm_pin))]) [0, 1, 2, 3] rfl
          have hKc := hK.sub (tys' := [(km_must, .int), (km_least, .int), (km_pin, .int)]) [0, 1, 2] rfl
          refine va_calli (va_runV (As := [.int v1, .int x_904]) (rest := []) ⟨hx, hb, hml, hown, hts⟩ (sX12_isOpen l dC dI h0 mi mr km_must fm_must km_least fm_least km_pin fm_pin v1 x_904 gmi_0 gmi_1 gmi_2 gmi_4 gmi_7 gmi_10 gmi_17 gmi_23 gmi_24 gmi_26 gmi_29 gmi_30 gmi_33 (gi_w g_902 (by decide)) gmi_41 gmi_50 gmi_51 gmi_56 gv1) (cwV 2 hts (gz_gV mGB_303 mGB_304 mGB_305 mGB_1 mGB_306 goodGB) rfl rfl rfl (by decide +kernel) ⟨Nat.le_trans (Nat.le_of_ble_eq_true rfl) hRf, Nat.le_trans (Nat.le_of_ble_eq_true rfl) hRl⟩) ⟨fun a U g mk q => by obtain ⟨q0, qP, qK⟩ := q; exact ⟨q0, qP, va_K.moved (u := U) (U := U.calling g mk a) (Vm.Alike.refl U.vm) qK⟩, va_recv hKc hPc (ci := 12) (q0 := 0) rfl rfl, fun U hU hW => ⟨rfl, by rw [hU]; exact hPc, va_K.moved hW.alike hKc⟩⟩ rfl rfl hl.1 rfl (lv_room (Nat.le_of_ble_eq_true rfl)) dX12_counts_31 ⟨hRc, hRs⟩) hS (fun q _ h => h.elim) (fun q h => h.elim) (fun r_905 u t H1 locs ht hvm hw hB hz1 hk1 hS => ?_)
          have hP := gz_keep hP hk1
          generalize H1 = H at hP hS ⊢
          have gr_905 : gi r_905 0 1 := hw
          refine lv_if_eq (tgt := 41) hx hb dX12_counts_34 (by decide) (fun c_906 => ?_) (fun c_906 => ?_)
          · have g_907 : gi r_905 0 0 := gi_eq c_906 (gi_c 0 0 (by decide))
            refine lv_iconst (v := 0) hx hb dX12_counts_41 (by decide) ?_
            refine lv_istore_n (lv' := [(3, .int 0), (0, .ref h0), (1, .int v1), (2, .int v2)]) hx hb dX12_counts_42 rfl hl (by decide) rfl (fun ls hl => ?_)
            refine lv_iconst (v := 0) hx hb dX12_counts_43 (by decide) ?_
            refine lv_istore (lv' := [(4, .int 0), (3, .int 0), (0, .ref h0), (1, .int v1), (2, .int v2)]) hx hb dX12_counts_44 hl (by decide) rfl (fun ls hl => ?_)
            exact ih.2.2 v1 v2 0 0 z4 _ _ _ gv1 g_899 (gi_w (gi_c 0 0 (by decide)) (by decide)) (gi_w (gi_c 0 0 (by decide)) (by decide)) (by have qgmi_0 := gmi_0.1; have rgmi_0 := gmi_0.2; have qgv1 := gv1.1; have rgv1 := gv1.2; have y1 := (Int32.le_iff_toInt_le.mp (Int32.not_lt.mp c_896)); omega) (by have qgv1 := gv1.1; have rgv1 := gv1.2; have qgv2 := g_899.1; have rgv2 := g_899.2; have y1 := (Int32.le_iff_toInt_le.mp (Int32.not_lt.mp c_896)); omega) (by have k0 : (0 : Int32).toInt = 0 := (by decide); have av1 := gv1.1; have bv1 := gv1.2; have av2 := gv2.1; have bv2 := gv2.2; have qgv2 := g_899.1; have rgv2 := g_899.2; have qgv1 := gv1.1; have rgv1 := gv1.2; omega) hP hD hS (lv_sub hl [2, 3, 4, 1, 0] rfl)
          · have g_908 : gi r_905 1 1 := gi_ne_lo c_906 gr_905 (gi_c 0 0 (by decide)) (by decide)
            refine lv_iconst (v := 1) hx hb dX12_counts_37 (by decide) ?_
            refine lv_goto (tgt := 42) hx hb dX12_counts_38 (by decide) ?_
            refine lv_istore_n (lv' := [(3, .int 1), (0, .ref h0), (1, .int v1), (2, .int v2)]) hx hb dX12_counts_42 rfl hl (by decide) rfl (fun ls hl => ?_)
            refine lv_iconst (v := 0) hx hb dX12_counts_43 (by decide) ?_
            refine lv_istore (lv' := [(4, .int 0), (3, .int 1), (0, .ref h0), (1, .int v1), (2, .int v2)]) hx hb dX12_counts_44 hl (by decide) rfl (fun ls hl => ?_)
            exact ih.2.2 v1 v2 1 0 z4 _ _ _ gv1 g_899 (gi_w (gi_c 1 1 (by decide)) (by decide)) (gi_w (gi_c 0 0 (by decide)) (by decide)) (by have qgmi_0 := gmi_0.1; have rgmi_0 := gmi_0.2; have qgv1 := gv1.1; have rgv1 := gv1.2; have y1 := (Int32.le_iff_toInt_le.mp (Int32.not_lt.mp c_896)); omega) (by have qgv1 := gv1.1; have rgv1 := gv1.2; have qgv2 := g_899.1; have rgv2 := g_899.2; have y1 := (Int32.le_iff_toInt_le.mp (Int32.not_lt.mp c_896)); omega) (by have k0 : (0 : Int32).toInt = 0 := (by decide); have av1 := gv1.1; have bv1 := gv1.2; have av2 := gv2.1; have bv2 := gv2.2; have qgv2 := g_899.1; have rgv2 := g_899.2; have qgv1 := gv1.1; have rgv1 := gv1.2; omega) hP hD hS (lv_sub hl [2, 3, 4, 1, 0] rfl)
    · intro v1 v2 v3 v4 z4 H locs ls gv1 gv2 gv3 gv4 hle_gv1_gmi_0 hle_gv2_gv1 hmu hP hD hS hl
      refine lv_iload hx hb dX12_counts_46 (lv_at hl 4 rfl) ?_
      refine lv_bipush (v := 10) hx hb dX12_counts_48 (by decide) ?_
      refine lv_icmp_gt (tgt := 114) hx hb dX12_counts_50 (by decide) (fun c_909 => ?_) (fun c_909 => ?_)
      · have g_910 : gi v4 11 11 := gi_lt_r c_909 (gi_c 10 10 (by decide)) gv4 (by decide)
        obtain ⟨x_911, ex_911⟩ : ∃ y : Int32, y = v2 + 1 := ⟨_, rfl⟩
        have gx_911 : gi x_911 1 25 := gi_add ex_911 gv2 (gi_c 1 1 (by decide)) (by decide)
        refine lv_iinc (v := x_911) (lv' := [(2, .int x_911), (0, .ref h0), (1, .int v1), (3, .int v3), (4, .int v4)]) hx hb dX12_counts_114 hl (k := 2) rfl (by rw [ex_911]; rfl) (by decide) rfl (fun ls hl => ?_)
        refine lv_goto (tgt := 11) hx hb dX12_counts_117 (by decide) ?_
        exact ih.2.1 v1 x_911 z4 _ _ _ gv1 (gi_w gx_911 (by decide)) (by have qgmi_0 := gmi_0.1; have rgmi_0 := gmi_0.2; have qgv1 := gv1.1; have rgv1 := gv1.2; omega) (by have av1 := gv1.1; have bv1 := gv1.2; have av2 := gv2.1; have bv2 := gv2.2; have av4 := gv4.1; have bv4 := gv4.2; have qgx_911 := gx_911.1; have rgx_911 := gx_911.2; have igx_911 : x_911.toInt = v2.toInt + 1 := (by have hc1 : (1 : Int32).toInt = 1 := (by decide); have h9 := gi_addI ex_911 (by have h1 := gv2.1; have h2 := (gi_c 1 1 (by decide)).1; have h3 := gv2.2; have h4 := (gi_c 1 1 (by decide)).2; omega) (by have h1 := gv2.1; have h2 := (gi_c 1 1 (by decide)).1; have h3 := gv2.2; have h4 := (gi_c 1 1 (by decide)).2; omega); rw [hc1] at h9; exact h9); have qgv2 := gv2.1; have rgv2 := gv2.2; have qgv1 := gv1.1; have rgv1 := gv1.2; omega) hP hD hS (lv_sub hl [1, 2, 0] rfl)
      · have g_912 : gi v4 0 10 := gi_le_l (Int32.not_lt.mp c_909) gv4 (gi_c 10 10 (by decide))
        refine lv_iload_n hx hb dX12_counts_53 rfl (lv_at hl 3 rfl) ?_
        refine lv_if_ne (tgt := 61) hx hb dX12_counts_54 (by decide) (fun c_913 => ?_) (fun c_913 => ?_)
        · have g_914 : gi v3 1 1 := gi_ne_lo c_913 gv3 (gi_c 0 0 (by decide)) (by decide)
          refine lv_iload_n hx hb dX12_counts_61 rfl (lv_at hl 1 rfl) ?_
          refine lv_aload_n hx hb dX12_counts_62 rfl (lv_at hl 0 rfl) ?_
          refine va_get (D := (dC, dI)) (ci := 12) (v := .int (mi 0)) (C := RX12) (T := TX12) (N := 57) hx hb hts (fun w h => List.mem_cons_of_mem _ (jnGB_X12 w h)) hown hK hP 0 rfl rfl 0 (by decide) (hts _ (List.mem_cons_of_mem _ mGB_103)) (fun _ h9 => h9) rfl dX12_counts_63 ?_
          refine lv_icmp_ne (tgt := 73) hx hb dX12_counts_66 (by decide) (fun c_915 => ?_) (fun c_915 => ?_)
          · have g_916 : gi v1 0 23 := gi_nele hle_gv1_gmi_0 c_915 gv1 gmi_0 (by decide)
            have g_917 : gi v2 0 23 := gi_rel hle_gv2_gv1 gv2 g_916
            refine lv_aload_n hx hb dX12_counts_73 rfl (lv_at hl 0 rfl) ?_
            refine lv_iload_n hx hb dX12_counts_74 rfl (lv_at hl 1 rfl) ?_
            refine lv_iload_n hx hb dX12_counts_75 rfl (lv_at hl 2 rfl) ?_
            refine lv_iload hx hb dX12_counts_76 (lv_at hl 4 rfl) ?_
            refine lv_iconst (v := 0) hx hb dX12_counts_78 (by decide) ?_
            have hPc := hP.sub (ws' := [(h0, .inr (12, fsMM mi mr)), ((mr 17), .inl (km_ways, 6875, .inl z4))]) [0, 4] rfl
            have hKc := hK.sub (tys' := [(km_ways, .int)]) [3] rfl
            refine va_calli (va_runV (As := [.int v1, .int v2, .int v4, .int 0]) (rest := []) ⟨hx, hb, hml, hown, hts⟩ (sX12_waysBy l dC dI h0 mi mr km_ways z4 v1 v2 v4 0 gmi_0 gmi_1 gmi_2 gmi_4 gmi_7 gmi_10 gmi_17 gmi_23 gmi_24 gmi_26 gmi_29 gmi_30 gmi_33 gmi_37 gmi_41 gmi_50 gmi_51 gmi_56 g_916 g_917 (gi_w g_912 (by decide)) (gi_w (gi_c 0 0 (by decide)) (by decide))) (cwV 4 hts (gz_gV mGB_307 mGB_308 mGB_309 mGB_1 mGB_310 goodGB) rfl rfl rfl (by decide +kernel) ⟨Nat.le_trans (Nat.le_of_ble_eq_true rfl) hRf, Nat.le_trans (Nat.le_of_ble_eq_true rfl) hRl⟩) ⟨fun a U g mk q => by obtain ⟨q0, qP, qK⟩ := q; exact ⟨q0, qP, va_K.moved (u := U) (U := U.calling g mk a) (Vm.Alike.refl U.vm) qK⟩, va_recv hKc hPc (ci := 12) (q0 := 0) rfl rfl, fun U hU hW => ⟨rfl, by rw [hU]; exact hPc, va_K.moved hW.alike hKc⟩⟩ rfl rfl hl.1 rfl (lv_room (Nat.le_of_ble_eq_true rfl)) dX12_counts_79 ⟨hRc, hRs⟩) hS (fun q _ h => h.elim) (fun q h => h.elim) (fun r_918 u t H1 locs ht hvm hw hB hz1 hk1 hS => ?_)
            have hP := gz_keep hP hk1
            generalize H1 = H at hP hS ⊢
            refine lv_aload_n hx hb dX12_counts_82 rfl (lv_at hl 0 rfl) ?_
            refine lv_iload_n hx hb dX12_counts_83 rfl (lv_at hl 1 rfl) ?_
            refine lv_iload_n hx hb dX12_counts_84 rfl (lv_at hl 2 rfl) ?_
            refine lv_iload hx hb dX12_counts_85 (lv_at hl 4 rfl) ?_
            refine lv_iconst (v := 1) hx hb dX12_counts_87 (by decide) ?_
            have hPc := hP.sub (ws' := [(h0, .inr (12, fsMM mi mr)), ((mr 17), .inl (km_ways, 6875, .inl z4))]) [0, 4] rfl
            have hKc := hK.sub (tys' := [(km_ways, .int)]) [3] rfl
            refine va_calli (va_runV (As := [.int v1, .int v2, .int v4, .int 1]) (rest := [.int r_918]) ⟨hx, hb, hml, hown, hts⟩ (sX12_waysBy l dC dI h0 mi mr km_ways z4 v1 v2 v4 1 gmi_0 gmi_1 gmi_2 gmi_4 gmi_7 gmi_10 gmi_17 gmi_23 gmi_24 gmi_26 gmi_29 gmi_30 gmi_33 gmi_37 gmi_41 gmi_50 gmi_51 gmi_56 g_916 g_917 (gi_w g_912 (by decide)) (gi_w (gi_c 1 1 (by decide)) (by decide))) (cwV 4 hts (gz_gV mGB_307 mGB_308 mGB_309 mGB_1 mGB_310 goodGB) rfl rfl rfl (by decide +kernel) ⟨Nat.le_trans (Nat.le_of_ble_eq_true rfl) hRf, Nat.le_trans (Nat.le_of_ble_eq_true rfl) hRl⟩) ⟨fun a U g mk q => by obtain ⟨q0, qP, qK⟩ := q; exact ⟨q0, qP, va_K.moved (u := U) (U := U.calling g mk a) (Vm.Alike.refl U.vm) qK⟩, va_recv hKc hPc (ci := 12) (q0 := 0) rfl rfl, fun U hU hW => ⟨rfl, by rw [hU]; exact hPc, va_K.moved hW.alike hKc⟩⟩ rfl rfl hl.1 rfl (lv_room (Nat.le_of_ble_eq_true rfl)) dX12_counts_88 ⟨hRc, hRs⟩) hS (fun q _ h => h.elim) (fun q h => h.elim) (fun r_919 u t H1 locs ht hvm hw hB hz1 hk1 hS => ?_)
            have hP := gz_keep hP hk1
            generalize H1 = H at hP hS ⊢
            refine lv_iadd hx hb dX12_counts_91 ?_
            refine lv_topi (fun x_920 ex_920 => ?_)
            refine lv_istore (lv' := [(5, .int x_920), (0, .ref h0), (1, .int v1), (2, .int v2), (3, .int v3), (4, .int v4)]) hx hb dX12_counts_92 hl (by decide) rfl (fun ls hl => ?_)
            refine lv_aload_n hx hb dX12_counts_94 rfl (lv_at hl 1 rfl) ?_
            refine va_get (D := (dC, dI)) (ci := 12) (v := .ref (mr 17)) (C := RX12) (T := TX12) (N := 57) hx hb hts (fun w h => List.mem_cons_of_mem _ (jnGB_X12 w h)) hown hK hP 0 rfl rfl 38 (by decide) (hts _ (List.mem_cons_of_mem _ mGB_29)) (fun _ h9 => h9) rfl dX12_counts_95 ?_
            refine lv_iload_n hx hb dX12_counts_98 rfl (lv_at hl 2 rfl) ?_
            refine lv_iload_n hx hb dX12_counts_99 rfl (lv_at hl 3 rfl) ?_
            refine lv_iload hx hb dX12_counts_100 (lv_at hl 5 rfl) ?_
            have hPc := hP.sub (ws' := []) [] rfl
            have hKc := hK.sub (tys' := []) [] rfl
            refine va_calli (va_runS (As := [.int v1, .int v2, .int v4]) (rest := [.ref (mr 17)]) ⟨hx, hb, hml, hown, hts⟩ (sX12_placeOf l dC dI v1 v2 v4 (gi_w g_916 (by decide)) (gi_w g_917 (by decide)) g_912) (cwS 3 hts (gz_gS mGB_315 mGB_316 mGB_1 mGB_317 goodGB) rfl rfl rfl (by decide +kernel) ⟨Nat.le_trans (Nat.le_of_ble_eq_true rfl) hRf, Nat.le_trans (Nat.le_of_ble_eq_true rfl) hRl⟩) ⟨fun a U g mk q => by obtain ⟨q0, qP, qK⟩ := q; exact ⟨q0, qP, va_K.moved (u := U) (U := U.calling g mk a) (Vm.Alike.refl U.vm) qK⟩, fun U hU hW => ⟨rfl, by rw [hU]; exact hPc, va_K.moved hW.alike hKc⟩⟩ rfl rfl hl.1 rfl (lv_room (Nat.le_of_ble_eq_true rfl)) dX12_counts_102 ⟨hRc, hRs⟩) hS (fun q _ h => h.elim) (fun q h => h.elim) (fun r_921 u t H1 locs ht hvm hw hB hz1 hk1 hS => ?_)
            have hP := gz_keep hP hk1
            generalize H1 = H at hP hS ⊢
            have gr_921 : gi r_921 0 6874 := hw
            refine lv_iload hx hb dX12_counts_105 (lv_at hl 0 rfl) ?_
            refine va_iast hx hb hK hP hD hS 4 3 rfl rfl (gi_in gr_921 (by decide)) dX12_counts_107 (fun H locs hP hD hS => ?_)
            have hP : va_P (dC, dI) vwCl [(h0, .inr (12, fsMM mi mr)), ((mr 14), .inl (km_must, 25, .inl fm_must)), ((mr 15), .inl (km_least, 25, .inl fm_least)), ((mr 16), .inl (km_pin, 25, .inl fm_pin)), ((mr 17), .inl (km_ways, 6875, .inl (upd z4 (r_921 : Int32).toNatClampNeg x_920)))] H := hP
            have hD : va_D A [(h0, .inr (12, fsMM mi mr)), ((mr 14), .inl (km_must, 25, .inl fm_must)), ((mr 15), .inl (km_least, 25, .inl fm_least)), ((mr 16), .inl (km_pin, 25, .inl fm_pin)), ((mr 17), .inl (km_ways, 6875, .inl (upd z4 (r_921 : Int32).toNatClampNeg x_920)))] := hD
            generalize upd z4 (r_921 : Int32).toNatClampNeg x_920 = f_922 at hP hD
            obtain ⟨x_923, ex_923⟩ : ∃ y : Int32, y = v4 + 1 := ⟨_, rfl⟩
            have gx_923 : gi x_923 1 11 := gi_add ex_923 g_912 (gi_c 1 1 (by decide)) (by decide)
            refine lv_iinc (v := x_923) (lv' := [(4, .int x_923), (5, .int x_920), (0, .ref h0), (1, .int v1), (2, .int v2), (3, .int v3)]) hx hb dX12_counts_108 hl (k := 5) rfl (by rw [ex_923]; rfl) (by decide) rfl (fun ls hl => ?_)
            refine lv_goto (tgt := 46) hx hb dX12_counts_111 (by decide) ?_
            exact ih.2.2 v1 v2 v3 x_923 f_922 _ _ _ (gi_w g_916 (by decide)) (gi_w g_917 (by decide)) (gi_w g_914 (by decide)) (gi_w gx_923 (by decide)) (by have qgmi_0 := gmi_0.1; have rgmi_0 := gmi_0.2; have qgv1 := g_916.1; have rgv1 := g_916.2; omega) (by have qgv1 := g_916.1; have rgv1 := g_916.2; have qgv2 := g_917.1; have rgv2 := g_917.2; omega) (by have av1 := gv1.1; have bv1 := gv1.2; have av2 := gv2.1; have bv2 := gv2.2; have av4 := gv4.1; have bv4 := gv4.2; have qgx_923 := gx_923.1; have rgx_923 := gx_923.2; have igx_923 : x_923.toInt = v4.toInt + 1 := (by have hc1 : (1 : Int32).toInt = 1 := (by decide); have h9 := gi_addI ex_923 (by have h1 := g_912.1; have h2 := (gi_c 1 1 (by decide)).1; have h3 := g_912.2; have h4 := (gi_c 1 1 (by decide)).2; omega) (by have h1 := g_912.1; have h2 := (gi_c 1 1 (by decide)).1; have h3 := g_912.2; have h4 := (gi_c 1 1 (by decide)).2; omega); rw [hc1] at h9; exact h9); have qgv4 := g_912.1; have rgv4 := g_912.2; have qgv2 := g_917.1; have rgv2 := g_917.2; have qgv1 := g_916.1; have rgv1 := g_916.2; omega) hP hD hS (lv_sub hl [2, 3, 4, 5, 0] rfl)
          · refine lv_iconst (v := 1) hx hb dX12_counts_69 (by decide) ?_
            refine lv_goto (tgt := 92) hx hb dX12_counts_70 (by decide) ?_
            refine lv_istore (lv' := [(5, .int 1), (0, .ref h0), (1, .int v1), (2, .int v2), (3, .int v3), (4, .int v4)]) hx hb dX12_counts_92 hl (by decide) rfl (fun ls hl => ?_)
            refine lv_aload_n hx hb dX12_counts_94 rfl (lv_at hl 1 rfl) ?_
            refine va_get (D := (dC, dI)) (ci := 12) (v := .ref (mr 17)) (C := RX12) (T := TX12) (N := 57) hx hb hts (fun w h => List.mem_cons_of_mem _ (jnGB_X12 w h)) hown hK hP 0 rfl rfl 38 (by decide) (hts _ (List.mem_cons_of_mem _ mGB_29)) (fun _ h9 => h9) rfl dX12_counts_95 ?_
            refine lv_iload_n hx hb dX12_counts_98 rfl (lv_at hl 2 rfl) ?_
            refine lv_iload_n hx hb dX12_counts_99 rfl (lv_at hl 3 rfl) ?_
            refine lv_iload hx hb dX12_counts_100 (lv_at hl 5 rfl) ?_
            have hPc := hP.sub (ws' := []) [] rfl
            have hKc := hK.sub (tys' := []) [] rfl
            refine va_calli (va_runS (As := [.int v1, .int v2, .int v4]) (rest := [.ref (mr 17)]) ⟨hx, hb, hml, hown, hts⟩ (sX12_placeOf l dC dI v1 v2 v4 gv1 gv2 g_912) (cwS 3 hts (gz_gS mGB_315 mGB_316 mGB_1 mGB_317 goodGB) rfl rfl rfl (by decide +kernel) ⟨Nat.le_trans (Nat.le_of_ble_eq_true rfl) hRf, Nat.le_trans (Nat.le_of_ble_eq_true rfl) hRl⟩) ⟨fun a U g mk q => by obtain ⟨q0, qP, qK⟩ := q; exact ⟨q0, qP, va_K.moved (u := U) (U := U.calling g mk a) (Vm.Alike.refl U.vm) qK⟩, fun U hU hW => ⟨rfl, by rw [hU]; exact hPc, va_K.moved hW.alike hKc⟩⟩ rfl rfl hl.1 rfl (lv_room (Nat.le_of_ble_eq_true rfl)) dX12_counts_102 ⟨hRc, hRs⟩) hS (fun q _ h => h.elim) (fun q h => h.elim) (fun r_924 u t H1 locs ht hvm hw hB hz1 hk1 hS => ?_)
            have hP := gz_keep hP hk1
            generalize H1 = H at hP hS ⊢
            have gr_924 : gi r_924 0 6874 := hw
            refine lv_iload hx hb dX12_counts_105 (lv_at hl 0 rfl) ?_
            refine va_iast hx hb hK hP hD hS 4 3 rfl rfl (gi_in gr_924 (by decide)) dX12_counts_107 (fun H locs hP hD hS => ?_)
            have hP : va_P (dC, dI) vwCl [(h0, .inr (12, fsMM mi mr)), ((mr 14), .inl (km_must, 25, .inl fm_must)), ((mr 15), .inl (km_least, 25, .inl fm_least)), ((mr 16), .inl (km_pin, 25, .inl fm_pin)), ((mr 17), .inl (km_ways, 6875, .inl (upd z4 (r_924 : Int32).toNatClampNeg 1)))] H := hP
            have hD : va_D A [(h0, .inr (12, fsMM mi mr)), ((mr 14), .inl (km_must, 25, .inl fm_must)), ((mr 15), .inl (km_least, 25, .inl fm_least)), ((mr 16), .inl (km_pin, 25, .inl fm_pin)), ((mr 17), .inl (km_ways, 6875, .inl (upd z4 (r_924 : Int32).toNatClampNeg 1)))] := hD
            generalize upd z4 (r_924 : Int32).toNatClampNeg 1 = f_925 at hP hD
            obtain ⟨x_926, ex_926⟩ : ∃ y : Int32, y = v4 + 1 := ⟨_, rfl⟩
            have gx_926 : gi x_926 1 11 := gi_add ex_926 g_912 (gi_c 1 1 (by decide)) (by decide)
            refine lv_iinc (v := x_926) (lv' := [(4, .int x_926), (5, .int 1), (0, .ref h0), (1, .int v1), (2, .int v2), (3, .int v3)]) hx hb dX12_counts_108 hl (k := 5) rfl (by rw [ex_926]; rfl) (by decide) rfl (fun ls hl => ?_)
            refine lv_goto (tgt := 46) hx hb dX12_counts_111 (by decide) ?_
            exact ih.2.2 v1 v2 v3 x_926 f_925 _ _ _ gv1 gv2 (gi_w g_914 (by decide)) (gi_w gx_926 (by decide)) (by have qgmi_0 := gmi_0.1; have rgmi_0 := gmi_0.2; have qgv1 := gv1.1; have rgv1 := gv1.2; omega) (by have qgv1 := gv1.1; have rgv1 := gv1.2; have qgv2 := gv2.1; have rgv2 := gv2.2; omega) (by have av1 := gv1.1; have bv1 := gv1.2; have av2 := gv2.1; have bv2 := gv2.2; have av4 := gv4.1; have bv4 := gv4.2; have qgx_926 := gx_926.1; have rgx_926 := gx_926.2; have igx_926 : x_926.toInt = v4.toInt + 1 := (by have hc1 : (1 : Int32).toInt = 1 := (by decide); have h9 := gi_addI ex_926 (by have h1 := g_912.1; have h2 := (gi_c 1 1 (by decide)).1; have h3 := g_912.2; have h4 := (gi_c 1 1 (by decide)).2; omega) (by have h1 := g_912.1; have h2 := (gi_c 1 1 (by decide)).1; have h3 := g_912.2; have h4 := (gi_c 1 1 (by decide)).2; omega); rw [hc1] at h9; exact h9); have qgv4 := g_912.1; have rgv4 := g_912.2; have qgv2 := gv2.1; have rgv2 := gv2.2; have qgv1 := gv1.1; have rgv1 := gv1.2; omega) hP hD hS (lv_sub hl [2, 3, 4, 5, 0] rfl)
        · have g_927 : gi v3 0 0 := gi_eq c_913 (gi_c 0 0 (by decide))
          refine lv_iconst (v := 0) hx hb dX12_counts_57 (by decide) ?_
          refine lv_goto (tgt := 92) hx hb dX12_counts_58 (by decide) ?_
          refine lv_istore (lv' := [(5, .int 0), (0, .ref h0), (1, .int v1), (2, .int v2), (3, .int v3), (4, .int v4)]) hx hb dX12_counts_92 hl (by decide) rfl (fun ls hl => ?_)
          refine lv_aload_n hx hb dX12_counts_94 rfl (lv_at hl 1 rfl) ?_
          refine va_get (D := (dC, dI)) (ci := 12) (v := .ref (mr 17)) (C := RX12) (T := TX12) (N := 57) hx hb hts (fun w h => List.mem_cons_of_mem _ (jnGB_X12 w h)) hown hK hP 0 rfl rfl 38 (by decide) (hts _ (List.mem_cons_of_mem _ mGB_29)) (fun _ h9 => h9) rfl dX12_counts_95 ?_
          refine lv_iload_n hx hb dX12_counts_98 rfl (lv_at hl 2 rfl) ?_
          refine lv_iload_n hx hb dX12_counts_99 rfl (lv_at hl 3 rfl) ?_
          refine lv_iload hx hb dX12_counts_100 (lv_at hl 5 rfl) ?_
          have hPc := hP.sub (ws' := []) [] rfl
          have hKc := hK.sub (tys' := []) [] rfl
          refine va_calli (va_runS (As := [.int v1, .int v2, .int v4]) (rest := [.ref (mr 17)]) ⟨hx, hb, hml, hown, hts⟩ (sX12_placeOf l dC dI v1 v2 v4 gv1 gv2 g_912) (cwS 3 hts (gz_gS mGB_315 mGB_316 mGB_1 mGB_317 goodGB) rfl rfl rfl (by decide +kernel) ⟨Nat.le_trans (Nat.le_of_ble_eq_true rfl) hRf, Nat.le_trans (Nat.le_of_ble_eq_true rfl) hRl⟩) ⟨fun a U g mk q => by obtain ⟨q0, qP, qK⟩ := q; exact ⟨q0, qP, va_K.moved (u := U) (U := U.calling g mk a) (Vm.Alike.refl U.vm) qK⟩, fun U hU hW => ⟨rfl, by rw [hU]; exact hPc, va_K.moved hW.alike hKc⟩⟩ rfl rfl hl.1 rfl (lv_room (Nat.le_of_ble_eq_true rfl)) dX12_counts_102 ⟨hRc, hRs⟩) hS (fun q _ h => h.elim) (fun q h => h.elim) (fun r_928 u t H1 locs ht hvm hw hB hz1 hk1 hS => ?_)
          have hP := gz_keep hP hk1
          generalize H1 = H at hP hS ⊢
          have gr_928 : gi r_928 0 6874 := hw
          refine lv_iload hx hb dX12_counts_105 (lv_at hl 0 rfl) ?_
          refine va_iast hx hb hK hP hD hS 4 3 rfl rfl (gi_in gr_928 (by decide)) dX12_counts_107 (fun H locs hP hD hS => ?_)
          have hP : va_P (dC, dI) vwCl [(h0, .inr (12, fsMM mi mr)), ((mr 14), .inl (km_must, 25, .inl fm_must)), ((mr 15), .inl (km_least, 25, .inl fm_least)), ((mr 16), .inl (km_pin, 25, .inl fm_pin)), ((mr 17), .inl (km_ways, 6875, .inl (upd z4 (r_928 : Int32).toNatClampNeg 0)))] H := hP
          have hD : va_D A [(h0, .inr (12, fsMM mi mr)), ((mr 14), .inl (km_must, 25, .inl fm_must)), ((mr 15), .inl (km_least, 25, .inl fm_least)), ((mr 16), .inl (km_pin, 25, .inl fm_pin)), ((mr 17), .inl (km_ways, 6875, .inl (upd z4 (r_928 : Int32).toNatClampNeg 0)))] := hD
          generalize upd z4 (r_928 : Int32).toNatClampNeg 0 = f_929 at hP hD
          obtain ⟨x_930, ex_930⟩ : ∃ y : Int32, y = v4 + 1 := ⟨_, rfl⟩
          have gx_930 : gi x_930 1 11 := gi_add ex_930 g_912 (gi_c 1 1 (by decide)) (by decide)
          refine lv_iinc (v := x_930) (lv' := [(4, .int x_930), (5, .int 0), (0, .ref h0), (1, .int v1), (2, .int v2), (3, .int v3)]) hx hb dX12_counts_108 hl (k := 5) rfl (by rw [ex_930]; rfl) (by decide) rfl (fun ls hl => ?_)
          refine lv_goto (tgt := 46) hx hb dX12_counts_111 (by decide) ?_
          exact ih.2.2 v1 v2 v3 x_930 f_929 _ _ _ gv1 gv2 (gi_w g_927 (by decide)) (gi_w gx_930 (by decide)) (by have qgmi_0 := gmi_0.1; have rgmi_0 := gmi_0.2; have qgv1 := gv1.1; have rgv1 := gv1.2; omega) (by have qgv1 := gv1.1; have rgv1 := gv1.2; have qgv2 := gv2.1; have rgv2 := gv2.2; omega) (by have av1 := gv1.1; have bv1 := gv1.2; have av2 := gv2.1; have bv2 := gv2.2; have av4 := gv4.1; have bv4 := gv4.2; have qgx_930 := gx_930.1; have rgx_930 := gx_930.2; have igx_930 : x_930.toInt = v4.toInt + 1 := (by have hc1 : (1 : Int32).toInt = 1 := (by decide); have h9 := gi_addI ex_930 (by have h1 := g_912.1; have h2 := (gi_c 1 1 (by decide)).1; have h3 := g_912.2; have h4 := (gi_c 1 1 (by decide)).2; omega) (by have h1 := g_912.1; have h2 := (gi_c 1 1 (by decide)).1; have h3 := g_912.2; have h4 := (gi_c 1 1 (by decide)).2; omega); rw [hc1] at h9; exact h9); have qgv4 := g_912.1; have rgv4 := g_912.2; have qgv2 := gv2.1; have rgv2 := gv2.2; have qgv1 := gv1.1; have rgv1 := gv1.2; omega) hP hD hS (lv_sub hl [2, 3, 4, 5, 0] rfl)
set_option maxHeartbeats 4000000 in
set_option maxRecDepth 100000 in
theorem sX12_counts (l : Launch) (dC : Nat → ClassId) (dI : Nat → Nat → Nat) (sz : Nat) (h0 : Nat) (mi : Nat → Int32) (mr : Nat → Nat) (km_must : ClassId) (fm_must : Nat → Int32) (km_least : ClassId) (fm_least : Nat → Int32) (km_pin : ClassId) (fm_pin : Nat → Int32) (km_ways : ClassId) (fm_ways : Nat → Int32) (gmi_0 : gi (mi 0) 0 24) (gmi_1 : gi (mi 1) 0 5) (gmi_2 : gi (mi 2) 0 5) (gmi_4 : gi (mi 4) 0 1) (gmi_7 : gi (mi 7) 0 6) (gmi_10 : gi (mi 10) 0 24) (gmi_17 : gi (mi 17) 0 8) (gmi_23 : gi (mi 23) 0 300) (gmi_24 : gi (mi 24) 0 1) (gmi_26 : gi (mi 26) 0 1600) (gmi_29 : gi (mi 29) 0 1600) (gmi_30 : gi (mi 30) 0 1600) (gmi_33 : gi (mi 33) 0 1) (gmi_37 : gi (mi 37) 0 1) (gmi_41 : gi (mi 41) 0 24) (gmi_50 : gi (mi 50) 0 1) (gmi_51 : gi (mi 51) 0 1) (gmi_56 : gi (mi 56) 0 80) : Met l yX12_counts (.code yX12_counts cX12_counts 6 (some .int) :: wsGB) ({ frames := 2, cells := 0, slots := 0, locals := 48 }) (va_Pc [.ref h0] (fun U => U.heap.size = sz ∧ va_P (dC, dI) vwCl [(h0, .inr (12, fsMM mi mr)), ((mr 14), .inl (km_must, 25, .inl fm_must)), ((mr 15), .inl (km_least, 25, .inl fm_least)), ((mr 16), .inl (km_pin, 25, .inl fm_pin)), ((mr 17), .inl (km_ways, 6875, .inl fm_ways))] U.heap ∧ va_K (dC, dI) vwCl [(km_must, .int), (km_least, .int), (km_pin, .int), (km_ways, .int)] U ∧ va_D (fun _ => True) [(h0, .inr (12, fsMM mi mr)), ((mr 14), .inl (km_must, 25, .inl fm_must)), ((mr 15), .inl (km_least, 25, .inl fm_least)), ((mr 16), .inl (km_pin, 25, .inl fm_pin)), ((mr 17), .inl (km_ways, 6875, .inl fm_ways))])) (va_Qi (fun (r : Int32) (u : Unit) => gi r (-2147483648) 2147483647) (fun _ t => ∃ (z4 : Nat → Int32), va_P (dC, dI) vwCl [(h0, .inr (12, fsMM mi mr)), ((mr 14), .inl (km_must, 25, .inl fm_must)), ((mr 15), .inl (km_least, 25, .inl fm_least)), ((mr 16), .inl (km_pin, 25, .inl fm_pin)), ((mr 17), .inl (km_ways, 6875, .inl z4))] t.heap ∧ va_D (va_A [(h0, .inr (12, fsMM mi mr)), ((mr 14), .inl (km_must, 25, .inl fm_must)), ((mr 15), .inl (km_least, 25, .inl fm_least)), ((mr 16), .inl (km_pin, 25, .inl fm_pin)), ((mr 17), .inl (km_ways, 6875, .inl fm_ways))] sz) [(h0, .inr (12, fsMM mi mr)), ((mr 14), .inl (km_must, 25, .inl fm_must)), ((mr 15), .inl (km_least, 25, .inl fm_least)), ((mr 16), .inl (km_pin, 25, .inl fm_pin)), ((mr 17), .inl (km_ways, 6875, .inl z4))]) (va_A [(h0, .inr (12, fsMM mi mr)), ((mr 14), .inl (km_must, 25, .inl fm_must)), ((mr 15), .inl (km_least, 25, .inl fm_least)), ((mr 16), .inl (km_pin, 25, .inl fm_pin)), ((mr 17), .inl (km_ways, 6875, .inl fm_ways))] sz)) 0 0 (va_A [(h0, .inr (12, fsMM mi mr)), ((mr 14), .inl (km_must, 25, .inl fm_must)), ((mr 15), .inl (km_least, 25, .inl fm_least)), ((mr 16), .inl (km_pin, 25, .inl fm_pin)), ((mr 17), .inl (km_ways, 6875, .inl fm_ways))] sz) := by
  refine Met.ofW (cc := cX12_counts) (maxL := 6) (ret := (some .int)) (by decide) rfl ?_
  intro p e s m args below meth c s₁ B hml hv
  obtain ⟨rfl, hsz, hP, hK, hD0⟩ := hv
  have hx := B.exec
  have hb := B.bytes
  have hr := B.returns
  have hts := atoms_spec (ws := (.code yX12_counts cX12_counts 6 (some .int) :: wsGB)) B.pre
  have hown : s.vm.findClass RX12 = some m.cls := findClass_of_methodNamed B.named
  have hlocks := B.notSynchronized
  subst hsz
  have hD := hD0.self (sz := s.heap.size)
  generalize hAe : va_A [(h0, .inr (12, fsMM mi mr)), ((mr 14), .inl (km_must, 25, .inl fm_must)), ((mr 15), .inl (km_least, 25, .inl fm_least)), ((mr 16), .inl (km_pin, 25, .inl fm_pin)), ((mr 17), .inl (km_ways, 6875, .inl fm_ways))] s.heap.size = A at hD ⊢
  have hA : ∀ q : Nat, s.heap.size ≤ q → A q := fun q h => by rw [← hAe]; exact Or.inr h
  have hS : va_S A s.heap s.heap [] := va_S.rf
  have hl := lv_entry ([.ref h0]) (n := 6) (Nat.le_of_ble_eq_true rfl)
  rw [lg_entry_eq]
  generalize (lg_sl ([.ref h0]) ++ List.replicate (6 - (lg_sl ([.ref h0])).length) Slot.unset).toArray = ls at hl ⊢
  have hl : lv_has ls 6 [(0, .ref h0)] := hl
  refine lv_aload_n hx hb dX12_counts_0 rfl (lv_at hl 0 rfl) ?_
  refine va_get (D := (dC, dI)) (ci := 12) (v := .int (mi 0)) (C := RX12) (T := TX12) (N := 57) hx hb hts (fun w h => List.mem_cons_of_mem _ (jnGB_X12 w h)) hown hK hP 0 rfl rfl 0 (by decide) (hts _ (List.mem_cons_of_mem _ mGB_103)) (fun _ h9 => h9) rfl dX12_counts_1 ?_
  refine lv_istore_n (lv' := [(1, .int (mi 0)), (0, .ref h0)]) hx hb dX12_counts_4 rfl hl (by decide) rfl (fun ls hl => ?_)
  refine (lp_sX12_counts h0 mi mr km_must fm_must km_least fm_least km_pin fm_pin km_ways fm_ways gmi_0 gmi_1 gmi_2 gmi_4 gmi_7 gmi_10 gmi_17 gmi_23 gmi_24 gmi_26 gmi_29 gmi_30 gmi_33 gmi_37 gmi_41 gmi_50 gmi_51 gmi_56 hx hb hml hown hts hK hA (Nat.le_of_ble_eq_true rfl) (Nat.le_of_ble_eq_true rfl) (Nat.zero_le _) (Nat.zero_le _) (fun v z4 H locs ls hP hD hS hl => ?_) 20476).1 (mi 0) fm_ways _ _ _ (gi_w gmi_0 (by decide)) (by have qgmi_0 := gmi_0.1; have rgmi_0 := gmi_0.2; omega) (by have qgmi_0 := gmi_0.1; have rgmi_0 := gmi_0.2; omega) hP hD hS (lv_sub hl [1, 0] rfl)
  · skip
    exact W.iret (v := v) hx hb hr (fun t ht hW => ⟨⟨v, (), rfl, (gi_any v), z4, by rw [ht]; exact hP, hD⟩, hS.F ht⟩) hS.2.2 dX12_counts_132
