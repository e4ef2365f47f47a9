theorem dX2_endOffset_0 : decode cX2_endOffset 0 = .ok (.aload_n 0, 1) := by decide +kernel
theorem dX2_endOffset_1 : decode cX2_endOffset 1 = .ok (.getfield 20, 3) := by decide +kernel
theorem dX2_endOffset_4 : decode cX2_endOffset 4 = .ok (.invokestatic 29, 3) := by decide +kernel
theorem dX2_endOffset_7 : decode cX2_endOffset 7 = .ok (.aload_n 0, 1) := by decide +kernel
theorem dX2_endOffset_8 : decode cX2_endOffset 8 = .ok (.getfield 7, 3) := by decide +kernel
theorem dX2_endOffset_11 : decode cX2_endOffset 11 = .ok (.ifCond .eq 10, 3) := by decide +kernel
theorem dX2_endOffset_14 : decode cX2_endOffset 14 = .ok (.aload_n 0, 1) := by decide +kernel
theorem dX2_endOffset_15 : decode cX2_endOffset 15 = .ok (.getfield 17, 3) := by decide +kernel
theorem dX2_endOffset_18 : decode cX2_endOffset 18 = .ok (.goto 4, 3) := by decide +kernel
theorem dX2_endOffset_21 : decode cX2_endOffset 21 = .ok (.iconst 0, 1) := by decide +kernel
theorem dX2_endOffset_22 : decode cX2_endOffset 22 = .ok (.iadd, 1) := by decide +kernel
theorem dX2_endOffset_23 : decode cX2_endOffset 23 = .ok (.ireturn, 1) := by decide +kernel
set_option maxHeartbeats 4000000 in
set_option maxRecDepth 100000 in
theorem sX2_endOffset (l : Launch) (dC : Nat → ClassId) (dI : Nat → Nat → Nat) (h0 : Nat) (month : Int32) (day : Int32) (length : Int32) (inDays : Int32) (gmonth : gi month 0 23) (glength : gi length 0 600) (ginDays : gi inDays 0 1) : Met l yX2_endOffset (.code yX2_endOffset cX2_endOffset 1 (some .int) :: wsGA) ({ frames := 1, cells := 0, slots := 0, locals := 20 }) (va_Pc [.ref h0] (fun U => va_P (dC, dI) vwCl [(h0, .inr (2, [.int month, .int day, .int length, .int inDays]))] U.heap ∧ va_K (dC, dI) vwCl [] U ∧ nzA U)) (va_Qi (fun (r : Int32) (u : Unit) => gi r (-2147483648) 2147483647) (fun _ _ => True) (fun _ => False)) 0 0 (fun _ => False) := by
  refine Met.ofW (cc := cX2_endOffset) (maxL := 1) (ret := (some .int)) (by decide) rfl ?_
  intro p e s m args below meth c s₁ B hml hv
  obtain ⟨rfl, hP, hK, hz⟩ := hv
  have hx := B.exec
  have hb := B.bytes
  have hr := B.returns
  have hts := atoms_spec (ws := (.code yX2_endOffset cX2_endOffset 1 (some .int) :: wsGA)) B.pre
  have hown : s.vm.findClass RX2 = some m.cls := findClass_of_methodNamed B.named
  have hlocks := B.notSynchronized
  have hS : va_S (fun _ => False) s.heap s.heap [] := va_S.rf
  have hl := lv_entry ([.ref h0]) (n := 1) (Nat.le_of_ble_eq_true rfl)
  rw [lg_entry_eq]
  generalize (lg_sl ([.ref h0]) ++ List.replicate (1 - (lg_sl ([.ref h0])).length) Slot.unset).toArray = ls at hl ⊢
  have hl : lv_has ls 1 [(0, .ref h0)] := hl
  refine lv_aload_n hx hb dX2_endOffset_0 rfl (lv_at hl 0 rfl) ?_
  refine va_get (D := (dC, dI)) (ci := 2) (v := .int day) (C := RX2) (T := TX2) (N := 4) hx hb hts (fun w h => List.mem_cons_of_mem _ (jnGA_X2 w h)) hown hK hP 0 rfl rfl 1 (by decide) (hts _ (List.mem_cons_of_mem _ mGA_748)) (fun _ h9 => h9) rfl dX2_endOffset_1 ?_
  have hPc := hP.sub (ws' := []) [] rfl
  have hKc := hK.sub (tys' := []) [] rfl
  refine va_calli (va_runSN (As := [.int day]) (rest := []) ⟨hx, hb, hml, hown, hts⟩ (sX11_offsetOf l dC dI day) (⟨va_cnB 1 hts (gz_gP mGA_679 goodGA) rfl rfl rfl (nzA_X2_29 hz) (hts _ (List.mem_cons_of_mem _ mGA_1)) (by decide +kernel) ⟨Nat.le_of_ble_eq_true rfl, Nat.le_of_ble_eq_true rfl⟩, (hts _ (List.mem_cons_of_mem _ mGA_678)), trivial⟩) ⟨fun a U g mk q => by obtain ⟨q0, qP, qK, qZ⟩ := q; exact ⟨q0, qP, va_K.moved (u := U) (U := U.calling g mk a) (Vm.Alike.refl U.vm) qK, nzA_same (u := U) (U := U.calling g mk a) rfl qZ⟩, fun U hU hW => ⟨rfl, by rw [hU]; exact hPc, va_K.moved hW.alike hKc, nzA_warm hW hz⟩⟩ rfl rfl hl.1 rfl (lv_room (Nat.le_of_ble_eq_true rfl)) dX2_endOffset_4 ⟨Nat.zero_le _, Nat.zero_le _⟩) hS (fun q _ h => h.elim) (fun q h => h.elim) (fun r_7 u t H1 locs ht hvm hw hB hz1 hk1 hS => ?_)
  have hP := gz_keep hP hk1
  generalize H1 = H at hP hS ⊢
  refine lv_aload_n hx hb dX2_endOffset_7 rfl (lv_at hl 0 rfl) ?_
  refine va_get (D := (dC, dI)) (ci := 2) (v := .int inDays) (C := RX2) (T := TX2) (N := 4) hx hb hts (fun w h => List.mem_cons_of_mem _ (jnGA_X2 w h)) hown hK hP 0 rfl rfl 3 (by decide) (hts _ (List.mem_cons_of_mem _ mGA_745)) (fun _ h9 => h9) rfl dX2_endOffset_8 ?_
  refine lv_if_eq (tgt := 21) hx hb dX2_endOffset_11 (by decide) (fun c_8 => ?_) (fun c_8 => ?_)
  · have g_9 : gi inDays 0 0 := gi_eq c_8 (gi_c 0 0 (by decide))
    refine lv_iconst (v := 0) hx hb dX2_endOffset_21 (by decide) ?_
    refine lv_iadd hx hb dX2_endOffset_22 ?_
    refine lv_topi (fun x_10 ex_10 => ?_)
    exact W.iret (v := x_10) hx hb hr (fun t ht hW => ⟨⟨x_10, (), rfl, (gi_any x_10), trivial⟩, hS.F ht⟩) hS.2.2 dX2_endOffset_23
  · have g_11 : gi inDays 1 1 := gi_ne_lo c_8 ginDays (gi_c 0 0 (by decide)) (by decide)
    refine lv_aload_n hx hb dX2_endOffset_14 rfl (lv_at hl 0 rfl) ?_
    refine va_get (D := (dC, dI)) (ci := 2) (v := .int length) (C := RX2) (T := TX2) (N := 4) hx hb hts (fun w h => List.mem_cons_of_mem _ (jnGA_X2 w h)) hown hK hP 0 rfl rfl 2 (by decide) (hts _ (List.mem_cons_of_mem _ mGA_747)) (fun _ h9 => h9) rfl dX2_endOffset_15 ?_
    refine lv_goto (tgt := 22) hx hb dX2_endOffset_18 (by decide) ?_
    refine lv_iadd hx hb dX2_endOffset_22 ?_
    refine lv_topi (fun x_12 ex_12 => ?_)
    exact W.iret (v := x_12) hx hb hr (fun t ht hW => ⟨⟨x_12, (), rfl, (gi_any x_12), trivial⟩, hS.F ht⟩) hS.2.2 dX2_endOffset_23
