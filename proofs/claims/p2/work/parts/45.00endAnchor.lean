theorem dX2_endAnchor_0 : decode cX2_endAnchor 0 = .ok (.aload_n 0, 1) := by decide +kernel
theorem dX2_endAnchor_1 : decode cX2_endAnchor 1 = .ok (.getfield 7, 3) := by decide +kernel
theorem dX2_endAnchor_4 : decode cX2_endAnchor 4 = .ok (.ifCond .eq 10, 3) := by decide +kernel
theorem dX2_endAnchor_7 : decode cX2_endAnchor 7 = .ok (.aload_n 0, 1) := by decide +kernel
theorem dX2_endAnchor_8 : decode cX2_endAnchor 8 = .ok (.getfield 13, 3) := by decide +kernel
theorem dX2_endAnchor_11 : decode cX2_endAnchor 11 = .ok (.goto 12, 3) := by decide +kernel
theorem dX2_endAnchor_14 : decode cX2_endAnchor 14 = .ok (.aload_n 0, 1) := by decide +kernel
theorem dX2_endAnchor_15 : decode cX2_endAnchor 15 = .ok (.getfield 13, 3) := by decide +kernel
theorem dX2_endAnchor_18 : decode cX2_endAnchor 18 = .ok (.aload_n 0, 1) := by decide +kernel
theorem dX2_endAnchor_19 : decode cX2_endAnchor 19 = .ok (.getfield 17, 3) := by decide +kernel
theorem dX2_endAnchor_22 : decode cX2_endAnchor 22 = .ok (.iadd, 1) := by decide +kernel
theorem dX2_endAnchor_23 : decode cX2_endAnchor 23 = .ok (.aload_n 0, 1) := by decide +kernel
theorem dX2_endAnchor_24 : decode cX2_endAnchor 24 = .ok (.getfield 20, 3) := by decide +kernel
theorem dX2_endAnchor_27 : decode cX2_endAnchor 27 = .ok (.invokestatic 23, 3) := by decide +kernel
theorem dX2_endAnchor_30 : decode cX2_endAnchor 30 = .ok (.ireturn, 1) := by decide +kernel
set_option maxHeartbeats 4000000 in
set_option maxRecDepth 100000 in
theorem sX2_endAnchor (l : Launch) (dC : Nat → ClassId) (dI : Nat → Nat → Nat) (h0 : Nat) (month : Int32) (day : Int32) (length : Int32) (inDays : Int32) (gmonth : gi month 0 23) (glength : gi length 0 600) (ginDays : gi inDays 0 1) (hpq0 : (inDays.toInt ≠ 0 ∨ month.toInt + length.toInt ≤ 23)) : Met l yX2_endAnchor (.code yX2_endAnchor cX2_endAnchor 1 (some .int) :: wsGA) ({ frames := 1, cells := 0, slots := 0, locals := 21 }) (va_Pc [.ref h0] (fun U => va_P (dC, dI) vwCl [(h0, .inr (2, [.int month, .int day, .int length, .int inDays]))] U.heap ∧ va_K (dC, dI) vwCl [] U ∧ nzA U)) (va_Qi (fun (r : Int32) (u : Unit) => gi r 0 24) (fun _ _ => True) (fun _ => False)) 0 0 (fun _ => False) := by
  refine Met.ofW (cc := cX2_endAnchor) (maxL := 1) (ret := (some .int)) (by decide) rfl ?_
  intro p e s m args below meth c s₁ B hml hv
  obtain ⟨rfl, hP, hK, hz⟩ := hv
  have hx := B.exec
  have hb := B.bytes
  have hr := B.returns
  have hts := atoms_spec (ws := (.code yX2_endAnchor cX2_endAnchor 1 (some .int) :: wsGA)) B.pre
  have hown : s.vm.findClass RX2 = some m.cls := findClass_of_methodNamed B.named
  have hlocks := B.notSynchronized
  have hS : va_S (fun _ => False) s.heap s.heap [] := va_S.rf
  have hl := lv_entry ([.ref h0]) (n := 1) (Nat.le_of_ble_eq_true rfl)
  rw [lg_entry_eq]
  generalize (lg_sl ([.ref h0]) ++ List.replicate (1 - (lg_sl ([.ref h0])).length) Slot.unset).toArray = ls at hl ⊢
  have hl : lv_has ls 1 [(0, .ref h0)] := hl
  refine lv_aload_n hx hb dX2_endAnchor_0 rfl (lv_at hl 0 rfl) ?_
  refine va_get (D := (dC, dI)) (ci := 2) (v := .int inDays) (C := RX2) (T := TX2) (N := 4) hx hb hts (fun w h => List.mem_cons_of_mem _ (jnGA_X2 w h)) hown hK hP 0 rfl rfl 3 (by decide) (hts _ (List.mem_cons_of_mem _ mGA_745)) (fun _ h9 => h9) rfl dX2_endAnchor_1 ?_
  refine lv_if_eq (tgt := 14) hx hb dX2_endAnchor_4 (by decide) (fun c_9 => ?_) (fun c_9 => ?_)
  · have hc_10 : inDays.toInt = 0 := by have h9 := congrArg Int32.toInt c_9; rw [show (0 : Int32).toInt = 0 from by decide] at h9; exact h9
    have g_11 : gi inDays 0 0 := gi_eq c_9 (gi_c 0 0 (by decide))
    refine lv_aload_n hx hb dX2_endAnchor_14 rfl (lv_at hl 0 rfl) ?_
    refine va_get (D := (dC, dI)) (ci := 2) (v := .int month) (C := RX2) (T := TX2) (N := 4) hx hb hts (fun w h => List.mem_cons_of_mem _ (jnGA_X2 w h)) hown hK hP 0 rfl rfl 0 (by decide) (hts _ (List.mem_cons_of_mem _ mGA_746)) (fun _ h9 => h9) rfl dX2_endAnchor_15 ?_
    refine lv_aload_n hx hb dX2_endAnchor_18 rfl (lv_at hl 0 rfl) ?_
    refine va_get (D := (dC, dI)) (ci := 2) (v := .int length) (C := RX2) (T := TX2) (N := 4) hx hb hts (fun w h => List.mem_cons_of_mem _ (jnGA_X2 w h)) hown hK hP 0 rfl rfl 2 (by decide) (hts _ (List.mem_cons_of_mem _ mGA_747)) (fun _ h9 => h9) rfl dX2_endAnchor_19 ?_
    refine lv_iadd hx hb dX2_endAnchor_22 ?_
    refine lv_topi (fun x_12 ex_12 => ?_)
    have gx_12 : gi x_12 0 623 := gi_add ex_12 gmonth glength (by decide)
    refine lv_aload_n hx hb dX2_endAnchor_23 rfl (lv_at hl 0 rfl) ?_
    refine va_get (D := (dC, dI)) (ci := 2) (v := .int day) (C := RX2) (T := TX2) (N := 4) hx hb hts (fun w h => List.mem_cons_of_mem _ (jnGA_X2 w h)) hown hK hP 0 rfl rfl 1 (by decide) (hts _ (List.mem_cons_of_mem _ mGA_748)) (fun _ h9 => h9) rfl dX2_endAnchor_24 ?_
    have hPc := hP.sub (ws' := []) [] rfl
    have hKc := hK.sub (tys' := []) [] rfl
    refine va_calli (va_runSN (As := [.int x_12, .int day]) (rest := []) ⟨hx, hb, hml, hown, hts⟩ (sX11_anchorOf l dC dI x_12 day (show gi x_12 0 23 from ⟨by have qgx_12 := gx_12.1; have rgx_12 := gx_12.2; have igx_12 : x_12.toInt = month.toInt + length.toInt := (by have h9 := gi_addI ex_12 (by have h1 := gmonth.1; have h2 := glength.1; have h3 := gmonth.2; have h4 := glength.2; omega) (by have h1 := gmonth.1; have h2 := glength.1; have h3 := gmonth.2; have h4 := glength.2; omega); exact h9); have qglength := glength.1; have rglength := glength.2; have qgmonth := gmonth.1; have rgmonth := gmonth.2; have qginDays := g_11.1; have rginDays := g_11.2; omega, by have qgx_12 := gx_12.1; have rgx_12 := gx_12.2; have igx_12 : x_12.toInt = month.toInt + length.toInt := (by have h9 := gi_addI ex_12 (by have h1 := gmonth.1; have h2 := glength.1; have h3 := gmonth.2; have h4 := glength.2; omega) (by have h1 := gmonth.1; have h2 := glength.1; have h3 := gmonth.2; have h4 := glength.2; omega); exact h9); have qglength := glength.1; have rglength := glength.2; have qgmonth := gmonth.1; have rgmonth := gmonth.2; have qginDays := g_11.1; have rginDays := g_11.2; omega⟩)) (⟨va_cnB 2 hts (gz_gP mGA_676 goodGA) rfl rfl rfl (nzA_X2_23 hz) (hts _ (List.mem_cons_of_mem _ mGA_1)) (by decide +kernel) ⟨Nat.le_of_ble_eq_true rfl, Nat.le_of_ble_eq_true rfl⟩, (hts _ (List.mem_cons_of_mem _ mGA_675)), trivial⟩) ⟨fun a U g mk q => by obtain ⟨q0, qP, qK, qZ⟩ := q; exact ⟨q0, qP, va_K.moved (u := U) (U := U.calling g mk a) (Vm.Alike.refl U.vm) qK, nzA_same (u := U) (U := U.calling g mk a) rfl qZ⟩, fun U hU hW => ⟨rfl, by rw [hU]; exact hPc, va_K.moved hW.alike hKc, nzA_warm hW hz⟩⟩ rfl rfl hl.1 rfl (lv_room (Nat.le_of_ble_eq_true rfl)) dX2_endAnchor_27 ⟨Nat.zero_le _, Nat.zero_le _⟩) hS (fun q _ h => h.elim) (fun q h => h.elim) (fun r_13 u t H1 locs ht hvm hw hB hz1 hk1 hS => ?_)
    have hP := gz_keep hP hk1
    generalize H1 = H at hP hS ⊢
    have gr_13 : gi r_13 0 24 := hw
    exact W.iret (v := r_13) hx hb hr (fun t ht hW => ⟨⟨r_13, (), rfl, gr_13, trivial⟩, hS.F ht⟩) hS.2.2 dX2_endAnchor_30
  · have hc_14 : inDays.toInt ≠ 0 := fun h9 => c_9 (Int32.toInt_inj.mp (by rw [show (0 : Int32).toInt = 0 from by decide]; exact h9))
    have g_15 : gi inDays 1 1 := gi_ne_lo c_9 ginDays (gi_c 0 0 (by decide)) (by decide)
    refine lv_aload_n hx hb dX2_endAnchor_7 rfl (lv_at hl 0 rfl) ?_
    refine va_get (D := (dC, dI)) (ci := 2) (v := .int month) (C := RX2) (T := TX2) (N := 4) hx hb hts (fun w h => List.mem_cons_of_mem _ (jnGA_X2 w h)) hown hK hP 0 rfl rfl 0 (by decide) (hts _ (List.mem_cons_of_mem _ mGA_746)) (fun _ h9 => h9) rfl dX2_endAnchor_8 ?_
    refine lv_goto (tgt := 23) hx hb dX2_endAnchor_11 (by decide) ?_
    refine lv_aload_n hx hb dX2_endAnchor_23 rfl (lv_at hl 0 rfl) ?_
    refine va_get (D := (dC, dI)) (ci := 2) (v := .int day) (C := RX2) (T := TX2) (N := 4) hx hb hts (fun w h => List.mem_cons_of_mem _ (jnGA_X2 w h)) hown hK hP 0 rfl rfl 1 (by decide) (hts _ (List.mem_cons_of_mem _ mGA_748)) (fun _ h9 => h9) rfl dX2_endAnchor_24 ?_
    have hPc := hP.sub (ws' := []) [] rfl
    have hKc := hK.sub (tys' := []) [] rfl
    refine va_calli (va_runSN (As := [.int month, .int day]) (rest := []) ⟨hx, hb, hml, hown, hts⟩ (sX11_anchorOf l dC dI month day gmonth) (⟨va_cnB 2 hts (gz_gP mGA_676 goodGA) rfl rfl rfl (nzA_X2_23 hz) (hts _ (List.mem_cons_of_mem _ mGA_1)) (by decide +kernel) ⟨Nat.le_of_ble_eq_true rfl, Nat.le_of_ble_eq_true rfl⟩, (hts _ (List.mem_cons_of_mem _ mGA_675)), trivial⟩) ⟨fun a U g mk q => by obtain ⟨q0, qP, qK, qZ⟩ := q; exact ⟨q0, qP, va_K.moved (u := U) (U := U.calling g mk a) (Vm.Alike.refl U.vm) qK, nzA_same (u := U) (U := U.calling g mk a) rfl qZ⟩, fun U hU hW => ⟨rfl, by rw [hU]; exact hPc, va_K.moved hW.alike hKc, nzA_warm hW hz⟩⟩ rfl rfl hl.1 rfl (lv_room (Nat.le_of_ble_eq_true rfl)) dX2_endAnchor_27 ⟨Nat.zero_le _, Nat.zero_le _⟩) hS (fun q _ h => h.elim) (fun q h => h.elim) (fun r_16 u t H1 locs ht hvm hw hB hz1 hk1 hS => ?_)
    have hP := gz_keep hP hk1
    generalize H1 = H at hP hS ⊢
    have gr_16 : gi r_16 0 24 := hw
    exact W.iret (v := r_16) hx hb hr (fun t ht hW => ⟨⟨r_16, (), rfl, gr_16, trivial⟩, hS.F ht⟩) hS.2.2 dX2_endAnchor_30
