theorem dX11_dayOf_0 : decode cX11_dayOf 0 = .ok (.bipush 29, 2) := by decide +kernel
theorem dX11_dayOf_2 : decode cX11_dayOf 2 = .ok (.iload_n 0, 1) := by decide +kernel
theorem dX11_dayOf_3 : decode cX11_dayOf 3 = .ok (.imul, 1) := by decide +kernel
theorem dX11_dayOf_4 : decode cX11_dayOf 4 = .ok (.iload_n 1, 1) := by decide +kernel
theorem dX11_dayOf_5 : decode cX11_dayOf 5 = .ok (.iadd, 1) := by decide +kernel
theorem dX11_dayOf_6 : decode cX11_dayOf 6 = .ok (.ireturn, 1) := by decide +kernel
set_option maxHeartbeats 4000000 in
set_option maxRecDepth 100000 in
theorem sX11_dayOf (l : Launch) (dC : Nat → ClassId) (dI : Nat → Nat → Nat) (p0 : Int32) (p1 : Int32)  : Met l yX11_dayOf (.code yX11_dayOf cX11_dayOf 2 (some .int) :: wsGA) ({ frames := 0, cells := 0, slots := 0, locals := 0 }) (va_Pc [.int p0, .int p1] (fun U => va_P (dC, dI) vwCl [] U.heap ∧ va_K (dC, dI) vwCl [] U ∧ nzA U)) (va_Qi (fun (r : Int32) (u : Unit) => gi r (-2147483648) 2147483647) (fun _ _ => True) (fun _ => False)) 0 0 (fun _ => False) := by
  refine Met.ofW (cc := cX11_dayOf) (maxL := 2) (ret := (some .int)) (by decide) rfl ?_
  intro p e s m args below meth c s₁ B hml hv
  obtain ⟨rfl, hP, hK, hz⟩ := hv
  have hx := B.exec
  have hb := B.bytes
  have hr := B.returns
  have hts := atoms_spec (ws := (.code yX11_dayOf cX11_dayOf 2 (some .int) :: wsGA)) B.pre
  have hown : s.vm.findClass RX11 = some m.cls := findClass_of_methodNamed B.named
  have hlocks := B.notSynchronized
  have hS : va_S (fun _ => False) s.heap s.heap [] := va_S.rf
  have hl := lv_entry ([.int p0, .int p1]) (n := 2) (Nat.le_of_ble_eq_true rfl)
  rw [lg_entry_eq]
  generalize (lg_sl ([.int p0, .int p1]) ++ List.replicate (2 - (lg_sl ([.int p0, .int p1])).length) Slot.unset).toArray = ls at hl ⊢
  have hl : lv_has ls 2 [(0, .int p0), (1, .int p1)] := hl
  refine lv_bipush (v := 29) hx hb dX11_dayOf_0 (by decide) ?_
  refine lv_iload_n hx hb dX11_dayOf_2 rfl (lv_at hl 0 rfl) ?_
  refine lv_imul hx hb dX11_dayOf_3 ?_
  refine lv_topi (fun x_3 ex_3 => ?_)
  refine lv_iload_n hx hb dX11_dayOf_4 rfl (lv_at hl 1 rfl) ?_
  refine lv_iadd hx hb dX11_dayOf_5 ?_
  refine lv_topi (fun x_4 ex_4 => ?_)
  exact W.iret (v := x_4) hx hb hr (fun t ht hW => ⟨⟨x_4, (), rfl, (gi_any x_4), trivial⟩, hS.F ht⟩) hS.2.2 dX11_dayOf_6
theorem dX11_anchorOf_0 : decode cX11_anchorOf 0 = .ok (.iload_n 1, 1) := by decide +kernel
theorem dX11_anchorOf_1 : decode cX11_anchorOf 1 = .ok (.bipush 30, 2) := by decide +kernel
theorem dX11_anchorOf_3 : decode cX11_anchorOf 3 = .ok (.if_icmp .ne 9, 3) := by decide +kernel
theorem dX11_anchorOf_6 : decode cX11_anchorOf 6 = .ok (.iload_n 0, 1) := by decide +kernel
theorem dX11_anchorOf_7 : decode cX11_anchorOf 7 = .ok (.iconst 1, 1) := by decide +kernel
theorem dX11_anchorOf_8 : decode cX11_anchorOf 8 = .ok (.iadd, 1) := by decide +kernel
theorem dX11_anchorOf_9 : decode cX11_anchorOf 9 = .ok (.goto 4, 3) := by decide +kernel
theorem dX11_anchorOf_12 : decode cX11_anchorOf 12 = .ok (.iload_n 0, 1) := by decide +kernel
theorem dX11_anchorOf_13 : decode cX11_anchorOf 13 = .ok (.ireturn, 1) := by decide +kernel
set_option maxHeartbeats 4000000 in
set_option maxRecDepth 100000 in
theorem sX11_anchorOf (l : Launch) (dC : Nat → ClassId) (dI : Nat → Nat → Nat) (p0 : Int32) (p1 : Int32) (gp0 : gi p0 0 23) : Met l yX11_anchorOf (.code yX11_anchorOf cX11_anchorOf 2 (some .int) :: wsGA) ({ frames := 0, cells := 0, slots := 0, locals := 0 }) (va_Pc [.int p0, .int p1] (fun U => va_P (dC, dI) vwCl [] U.heap ∧ va_K (dC, dI) vwCl [] U ∧ nzA U)) (va_Qi (fun (r : Int32) (u : Unit) => gi r 0 24) (fun _ _ => True) (fun _ => False)) 0 0 (fun _ => False) := by
  refine Met.ofW (cc := cX11_anchorOf) (maxL := 2) (ret := (some .int)) (by decide) rfl ?_
  intro p e s m args below meth c s₁ B hml hv
  obtain ⟨rfl, hP, hK, hz⟩ := hv
  have hx := B.exec
  have hb := B.bytes
  have hr := B.returns
  have hts := atoms_spec (ws := (.code yX11_anchorOf cX11_anchorOf 2 (some .int) :: wsGA)) B.pre
  have hown : s.vm.findClass RX11 = some m.cls := findClass_of_methodNamed B.named
  have hlocks := B.notSynchronized
  have hS : va_S (fun _ => False) s.heap s.heap [] := va_S.rf
  have hl := lv_entry ([.int p0, .int p1]) (n := 2) (Nat.le_of_ble_eq_true rfl)
  rw [lg_entry_eq]
  generalize (lg_sl ([.int p0, .int p1]) ++ List.replicate (2 - (lg_sl ([.int p0, .int p1])).length) Slot.unset).toArray = ls at hl ⊢
  have hl : lv_has ls 2 [(0, .int p0), (1, .int p1)] := hl
  refine lv_iload_n hx hb dX11_anchorOf_0 rfl (lv_at hl 1 rfl) ?_
  refine lv_bipush (v := 30) hx hb dX11_anchorOf_1 (by decide) ?_
  refine lv_icmp_ne (tgt := 12) hx hb dX11_anchorOf_3 (by decide) (fun c_4 => ?_) (fun c_4 => ?_)
  · refine lv_iload_n hx hb dX11_anchorOf_12 rfl (lv_at hl 0 rfl) ?_
    exact W.iret (v := p0) hx hb hr (fun t ht hW => ⟨⟨p0, (), rfl, (gi_w gp0 (by decide)), trivial⟩, hS.F ht⟩) hS.2.2 dX11_anchorOf_13
  · have g_5 : gi p1 30 30 := gi_eq c_4 (gi_c 30 30 (by decide))
    refine lv_iload_n hx hb dX11_anchorOf_6 rfl (lv_at hl 0 rfl) ?_
    refine lv_iconst (v := 1) hx hb dX11_anchorOf_7 (by decide) ?_
    refine lv_iadd hx hb dX11_anchorOf_8 ?_
    refine lv_topi (fun x_6 ex_6 => ?_)
    have gx_6 : gi x_6 1 24 := gi_add ex_6 gp0 (gi_c 1 1 (by decide)) (by decide)
    refine lv_goto (tgt := 13) hx hb dX11_anchorOf_9 (by decide) ?_
    exact W.iret (v := x_6) hx hb hr (fun t ht hW => ⟨⟨x_6, (), rfl, (gi_w gx_6 (by decide)), trivial⟩, hS.F ht⟩) hS.2.2 dX11_anchorOf_13
theorem dX11_offsetOf_0 : decode cX11_offsetOf 0 = .ok (.iload_n 0, 1) := by decide +kernel
theorem dX11_offsetOf_1 : decode cX11_offsetOf 1 = .ok (.bipush 30, 2) := by decide +kernel
theorem dX11_offsetOf_3 : decode cX11_offsetOf 3 = .ok (.if_icmp .ne 7, 3) := by decide +kernel
theorem dX11_offsetOf_6 : decode cX11_offsetOf 6 = .ok (.iconst (-1), 1) := by decide +kernel
theorem dX11_offsetOf_7 : decode cX11_offsetOf 7 = .ok (.goto 6, 3) := by decide +kernel
theorem dX11_offsetOf_10 : decode cX11_offsetOf 10 = .ok (.iload_n 0, 1) := by decide +kernel
theorem dX11_offsetOf_11 : decode cX11_offsetOf 11 = .ok (.iconst 1, 1) := by decide +kernel
theorem dX11_offsetOf_12 : decode cX11_offsetOf 12 = .ok (.isub, 1) := by decide +kernel
theorem dX11_offsetOf_13 : decode cX11_offsetOf 13 = .ok (.ireturn, 1) := by decide +kernel
set_option maxHeartbeats 4000000 in
set_option maxRecDepth 100000 in
theorem sX11_offsetOf (l : Launch) (dC : Nat → ClassId) (dI : Nat → Nat → Nat) (p0 : Int32)  : Met l yX11_offsetOf (.code yX11_offsetOf cX11_offsetOf 1 (some .int) :: wsGA) ({ frames := 0, cells := 0, slots := 0, locals := 0 }) (va_Pc [.int p0] (fun U => va_P (dC, dI) vwCl [] U.heap ∧ va_K (dC, dI) vwCl [] U ∧ nzA U)) (va_Qi (fun (r : Int32) (u : Unit) => gi r (-2147483648) 2147483647) (fun _ _ => True) (fun _ => False)) 0 0 (fun _ => False) := by
  refine Met.ofW (cc := cX11_offsetOf) (maxL := 1) (ret := (some .int)) (by decide) rfl ?_
  intro p e s m args below meth c s₁ B hml hv
  obtain ⟨rfl, hP, hK, hz⟩ := hv
  have hx := B.exec
  have hb := B.bytes
  have hr := B.returns
  have hts := atoms_spec (ws := (.code yX11_offsetOf cX11_offsetOf 1 (some .int) :: wsGA)) B.pre
  have hown : s.vm.findClass RX11 = some m.cls := findClass_of_methodNamed B.named
  have hlocks := B.notSynchronized
  have hS : va_S (fun _ => False) s.heap s.heap [] := va_S.rf
  have hl := lv_entry ([.int p0]) (n := 1) (Nat.le_of_ble_eq_true rfl)
  rw [lg_entry_eq]
  generalize (lg_sl ([.int p0]) ++ List.replicate (1 - (lg_sl ([.int p0])).length) Slot.unset).toArray = ls at hl ⊢
  have hl : lv_has ls 1 [(0, .int p0)] := hl
  refine lv_iload_n hx hb dX11_offsetOf_0 rfl (lv_at hl 0 rfl) ?_
  refine lv_bipush (v := 30) hx hb dX11_offsetOf_1 (by decide) ?_
  refine lv_icmp_ne (tgt := 10) hx hb dX11_offsetOf_3 (by decide) (fun c_4 => ?_) (fun c_4 => ?_)
  · refine lv_iload_n hx hb dX11_offsetOf_10 rfl (lv_at hl 0 rfl) ?_
    refine lv_iconst (v := 1) hx hb dX11_offsetOf_11 (by decide) ?_
    refine lv_isub hx hb dX11_offsetOf_12 ?_
    refine lv_topi (fun x_5 ex_5 => ?_)
    exact W.iret (v := x_5) hx hb hr (fun t ht hW => ⟨⟨x_5, (), rfl, (gi_any x_5), trivial⟩, hS.F ht⟩) hS.2.2 dX11_offsetOf_13
  · have g_6 : gi p0 30 30 := gi_eq c_4 (gi_c 30 30 (by decide))
    refine lv_iconst (v := (-1)) hx hb dX11_offsetOf_6 (by decide) ?_
    refine lv_goto (tgt := 13) hx hb dX11_offsetOf_7 (by decide) ?_
    exact W.iret (v := (-1)) hx hb hr (fun t ht hW => ⟨⟨(-1), (), rfl, (gi_any (-1)), trivial⟩, hS.F ht⟩) hS.2.2 dX11_offsetOf_13
theorem dX11_runWithFull_0 : decode cX11_runWithFull 0 = .ok (.iload_n 0, 1) := by decide +kernel
theorem dX11_runWithFull_1 : decode cX11_runWithFull 1 = .ok (.ifCond .eq 8, 3) := by decide +kernel
theorem dX11_runWithFull_4 : decode cX11_runWithFull 4 = .ok (.iload_n 0, 1) := by decide +kernel
theorem dX11_runWithFull_5 : decode cX11_runWithFull 5 = .ok (.iload_n 1, 1) := by decide +kernel
theorem dX11_runWithFull_6 : decode cX11_runWithFull 6 = .ok (.if_icmp .le 5, 3) := by decide +kernel
theorem dX11_runWithFull_9 : decode cX11_runWithFull 9 = .ok (.iconst 1, 1) := by decide +kernel
theorem dX11_runWithFull_10 : decode cX11_runWithFull 10 = .ok (.ireturn, 1) := by decide +kernel
theorem dX11_runWithFull_11 : decode cX11_runWithFull 11 = .ok (.iload_n 0, 1) := by decide +kernel
theorem dX11_runWithFull_12 : decode cX11_runWithFull 12 = .ok (.iload_n 1, 1) := by decide +kernel
theorem dX11_runWithFull_13 : decode cX11_runWithFull 13 = .ok (.if_icmp .ge 9, 3) := by decide +kernel
theorem dX11_runWithFull_16 : decode cX11_runWithFull 16 = .ok (.iload_n 0, 1) := by decide +kernel
theorem dX11_runWithFull_17 : decode cX11_runWithFull 17 = .ok (.iconst 1, 1) := by decide +kernel
theorem dX11_runWithFull_18 : decode cX11_runWithFull 18 = .ok (.iadd, 1) := by decide +kernel
theorem dX11_runWithFull_19 : decode cX11_runWithFull 19 = .ok (.goto 4, 3) := by decide +kernel
theorem dX11_runWithFull_22 : decode cX11_runWithFull 22 = .ok (.iconst 0, 1) := by decide +kernel
theorem dX11_runWithFull_23 : decode cX11_runWithFull 23 = .ok (.ireturn, 1) := by decide +kernel
set_option maxHeartbeats 4000000 in
set_option maxRecDepth 100000 in
theorem sX11_runWithFull (l : Launch) (dC : Nat → ClassId) (dI : Nat → Nat → Nat) (p0 : Int32) (p1 : Int32) (gp0 : gi p0 0 10) (gp1 : gi p1 0 5) : Met l yX11_runWithFull (.code yX11_runWithFull cX11_runWithFull 2 (some .int) :: wsGA) ({ frames := 0, cells := 0, slots := 0, locals := 0 }) (va_Pc [.int p0, .int p1] (fun U => va_P (dC, dI) vwCl [] U.heap ∧ va_K (dC, dI) vwCl [] U ∧ nzA U)) (va_Qi (fun (r : Int32) (u : Unit) => gi r 0 5) (fun _ _ => True) (fun _ => False)) 0 0 (fun _ => False) := by
  refine Met.ofW (cc := cX11_runWithFull) (maxL := 2) (ret := (some .int)) (by decide) rfl ?_
  intro p e s m args below meth c s₁ B hml hv
  obtain ⟨rfl, hP, hK, hz⟩ := hv
  have hx := B.exec
  have hb := B.bytes
  have hr := B.returns
  have hts := atoms_spec (ws := (.code yX11_runWithFull cX11_runWithFull 2 (some .int) :: wsGA)) B.pre
  have hown : s.vm.findClass RX11 = some m.cls := findClass_of_methodNamed B.named
  have hlocks := B.notSynchronized
  have hS : va_S (fun _ => False) s.heap s.heap [] := va_S.rf
  have hl := lv_entry ([.int p0, .int p1]) (n := 2) (Nat.le_of_ble_eq_true rfl)
  rw [lg_entry_eq]
  generalize (lg_sl ([.int p0, .int p1]) ++ List.replicate (2 - (lg_sl ([.int p0, .int p1])).length) Slot.unset).toArray = ls at hl ⊢
  have hl : lv_has ls 2 [(0, .int p0), (1, .int p1)] := hl
  refine lv_iload_n hx hb dX11_runWithFull_0 rfl (lv_at hl 0 rfl) ?_
  refine lv_if_eq (tgt := 9) hx hb dX11_runWithFull_1 (by decide) (fun c_11 => ?_) (fun c_11 => ?_)
  · have g_12 : gi p0 0 0 := gi_eq c_11 (gi_c 0 0 (by decide))
    refine lv_iconst (v := 1) hx hb dX11_runWithFull_9 (by decide) ?_
    exact W.iret (v := 1) hx hb hr (fun t ht hW => ⟨⟨1, (), rfl, (gi_w (gi_c 1 1 (by decide)) (by decide)), trivial⟩, hS.F ht⟩) hS.2.2 dX11_runWithFull_10
  · have g_13 : gi p0 1 10 := gi_ne_lo c_11 gp0 (gi_c 0 0 (by decide)) (by decide)
    refine lv_iload_n hx hb dX11_runWithFull_4 rfl (lv_at hl 0 rfl) ?_
    refine lv_iload_n hx hb dX11_runWithFull_5 rfl (lv_at hl 1 rfl) ?_
    refine lv_icmp_le (tgt := 11) hx hb dX11_runWithFull_6 (by decide) (fun c_14 => ?_) (fun c_14 => ?_)
    · have g_15 : gi p0 1 5 := gi_le_l c_14 g_13 gp1
      have g_16 : gi p1 1 5 := gi_le_r c_14 g_13 gp1
      refine lv_iload_n hx hb dX11_runWithFull_11 rfl (lv_at hl 0 rfl) ?_
      refine lv_iload_n hx hb dX11_runWithFull_12 rfl (lv_at hl 1 rfl) ?_
      refine lv_icmp_ge (tgt := 22) hx hb dX11_runWithFull_13 (by decide) (fun c_17 => ?_) (fun c_17 => ?_)
      · refine lv_iconst (v := 0) hx hb dX11_runWithFull_22 (by decide) ?_
        exact W.iret (v := 0) hx hb hr (fun t ht hW => ⟨⟨0, (), rfl, (gi_w (gi_c 0 0 (by decide)) (by decide)), trivial⟩, hS.F ht⟩) hS.2.2 dX11_runWithFull_23
      · have g_18 : gi p0 1 4 := gi_lt_l (Int32.not_le.mp c_17) g_15 g_16 (by decide)
        have g_19 : gi p1 2 5 := gi_lt_r (Int32.not_le.mp c_17) g_15 g_16 (by decide)
        refine lv_iload_n hx hb dX11_runWithFull_16 rfl (lv_at hl 0 rfl) ?_
        refine lv_iconst (v := 1) hx hb dX11_runWithFull_17 (by decide) ?_
        refine lv_iadd hx hb dX11_runWithFull_18 ?_
        refine lv_topi (fun x_20 ex_20 => ?_)
        have gx_20 : gi x_20 2 5 := gi_add ex_20 g_18 (gi_c 1 1 (by decide)) (by decide)
        refine lv_goto (tgt := 23) hx hb dX11_runWithFull_19 (by decide) ?_
        exact W.iret (v := x_20) hx hb hr (fun t ht hW => ⟨⟨x_20, (), rfl, (gi_w gx_20 (by decide)), trivial⟩, hS.F ht⟩) hS.2.2 dX11_runWithFull_23
    · refine lv_iconst (v := 1) hx hb dX11_runWithFull_9 (by decide) ?_
      exact W.iret (v := 1) hx hb hr (fun t ht hW => ⟨⟨1, (), rfl, (gi_w (gi_c 1 1 (by decide)) (by decide)), trivial⟩, hS.F ht⟩) hS.2.2 dX11_runWithFull_10
theorem dX11_runWithLean_0 : decode cX11_runWithLean 0 = .ok (.iload_n 0, 1) := by decide +kernel
theorem dX11_runWithLean_1 : decode cX11_runWithLean 1 = .ok (.iload_n 1, 1) := by decide +kernel
theorem dX11_runWithLean_2 : decode cX11_runWithLean 2 = .ok (.if_icmp .gt 7, 3) := by decide +kernel
theorem dX11_runWithLean_5 : decode cX11_runWithLean 5 = .ok (.iload_n 1, 1) := by decide +kernel
theorem dX11_runWithLean_6 : decode cX11_runWithLean 6 = .ok (.iconst 1, 1) := by decide +kernel
theorem dX11_runWithLean_7 : decode cX11_runWithLean 7 = .ok (.iadd, 1) := by decide +kernel
theorem dX11_runWithLean_8 : decode cX11_runWithLean 8 = .ok (.ireturn, 1) := by decide +kernel
theorem dX11_runWithLean_9 : decode cX11_runWithLean 9 = .ok (.iload_n 0, 1) := by decide +kernel
theorem dX11_runWithLean_10 : decode cX11_runWithLean 10 = .ok (.iload_n 1, 1) := by decide +kernel
theorem dX11_runWithLean_11 : decode cX11_runWithLean 11 = .ok (.iload_n 2, 1) := by decide +kernel
theorem dX11_runWithLean_12 : decode cX11_runWithLean 12 = .ok (.iadd, 1) := by decide +kernel
theorem dX11_runWithLean_13 : decode cX11_runWithLean 13 = .ok (.if_icmp .ge 9, 3) := by decide +kernel
theorem dX11_runWithLean_16 : decode cX11_runWithLean 16 = .ok (.iload_n 0, 1) := by decide +kernel
theorem dX11_runWithLean_17 : decode cX11_runWithLean 17 = .ok (.iconst 1, 1) := by decide +kernel
theorem dX11_runWithLean_18 : decode cX11_runWithLean 18 = .ok (.iadd, 1) := by decide +kernel
theorem dX11_runWithLean_19 : decode cX11_runWithLean 19 = .ok (.goto 4, 3) := by decide +kernel
theorem dX11_runWithLean_22 : decode cX11_runWithLean 22 = .ok (.iconst 0, 1) := by decide +kernel
theorem dX11_runWithLean_23 : decode cX11_runWithLean 23 = .ok (.ireturn, 1) := by decide +kernel
set_option maxHeartbeats 4000000 in
set_option maxRecDepth 100000 in
theorem sX11_runWithLean (l : Launch) (dC : Nat → ClassId) (dI : Nat → Nat → Nat) (p0 : Int32) (p1 : Int32) (p2 : Int32) (gp0 : gi p0 0 10) (gp1 : gi p1 0 5) (gp2 : gi p2 0 5) : Met l yX11_runWithLean (.code yX11_runWithLean cX11_runWithLean 3 (some .int) :: wsGA) ({ frames := 0, cells := 0, slots := 0, locals := 0 }) (va_Pc [.int p0, .int p1, .int p2] (fun U => va_P (dC, dI) vwCl [] U.heap ∧ va_K (dC, dI) vwCl [] U ∧ nzA U)) (va_Qi (fun (r : Int32) (u : Unit) => gi r 0 10) (fun _ _ => True) (fun _ => False)) 0 0 (fun _ => False) := by
  refine Met.ofW (cc := cX11_runWithLean) (maxL := 3) (ret := (some .int)) (by decide) rfl ?_
  intro p e s m args below meth c s₁ B hml hv
  obtain ⟨rfl, hP, hK, hz⟩ := hv
  have hx := B.exec
  have hb := B.bytes
  have hr := B.returns
  have hts := atoms_spec (ws := (.code yX11_runWithLean cX11_runWithLean 3 (some .int) :: wsGA)) B.pre
  have hown : s.vm.findClass RX11 = some m.cls := findClass_of_methodNamed B.named
  have hlocks := B.notSynchronized
  have hS : va_S (fun _ => False) s.heap s.heap [] := va_S.rf
  have hl := lv_entry ([.int p0, .int p1, .int p2]) (n := 3) (Nat.le_of_ble_eq_true rfl)
  rw [lg_entry_eq]
  generalize (lg_sl ([.int p0, .int p1, .int p2]) ++ List.replicate (3 - (lg_sl ([.int p0, .int p1, .int p2])).length) Slot.unset).toArray = ls at hl ⊢
  have hl : lv_has ls 3 [(0, .int p0), (1, .int p1), (2, .int p2)] := hl
  refine lv_iload_n hx hb dX11_runWithLean_0 rfl (lv_at hl 0 rfl) ?_
  refine lv_iload_n hx hb dX11_runWithLean_1 rfl (lv_at hl 1 rfl) ?_
  refine lv_icmp_gt (tgt := 9) hx hb dX11_runWithLean_2 (by decide) (fun c_10 => ?_) (fun c_10 => ?_)
  · have g_11 : gi p0 1 10 := gi_lt_r c_10 gp1 gp0 (by decide)
    refine lv_iload_n hx hb dX11_runWithLean_9 rfl (lv_at hl 0 rfl) ?_
    refine lv_iload_n hx hb dX11_runWithLean_10 rfl (lv_at hl 1 rfl) ?_
    refine lv_iload_n hx hb dX11_runWithLean_11 rfl (lv_at hl 2 rfl) ?_
    refine lv_iadd hx hb dX11_runWithLean_12 ?_
    refine lv_topi (fun x_12 ex_12 => ?_)
    have gx_12 : gi x_12 0 10 := gi_add ex_12 gp1 gp2 (by decide)
    refine lv_icmp_ge (tgt := 22) hx hb dX11_runWithLean_13 (by decide) (fun c_13 => ?_) (fun c_13 => ?_)
    · refine lv_iconst (v := 0) hx hb dX11_runWithLean_22 (by decide) ?_
      exact W.iret (v := 0) hx hb hr (fun t ht hW => ⟨⟨0, (), rfl, (gi_w (gi_c 0 0 (by decide)) (by decide)), trivial⟩, hS.F ht⟩) hS.2.2 dX11_runWithLean_23
    · have g_14 : gi p0 1 9 := gi_lt_l (Int32.not_le.mp c_13) g_11 gx_12 (by decide)
      have g_15 : gi x_12 2 10 := gi_lt_r (Int32.not_le.mp c_13) g_11 gx_12 (by decide)
      refine lv_iload_n hx hb dX11_runWithLean_16 rfl (lv_at hl 0 rfl) ?_
      refine lv_iconst (v := 1) hx hb dX11_runWithLean_17 (by decide) ?_
      refine lv_iadd hx hb dX11_runWithLean_18 ?_
      refine lv_topi (fun x_16 ex_16 => ?_)
      have gx_16 : gi x_16 2 10 := gi_add ex_16 g_14 (gi_c 1 1 (by decide)) (by decide)
      refine lv_goto (tgt := 23) hx hb dX11_runWithLean_19 (by decide) ?_
      exact W.iret (v := x_16) hx hb hr (fun t ht hW => ⟨⟨x_16, (), rfl, (gi_w gx_16 (by decide)), trivial⟩, hS.F ht⟩) hS.2.2 dX11_runWithLean_23
  · have g_17 : gi p0 0 5 := gi_le_l (Int32.not_lt.mp c_10) gp0 gp1
    refine lv_iload_n hx hb dX11_runWithLean_5 rfl (lv_at hl 1 rfl) ?_
    refine lv_iconst (v := 1) hx hb dX11_runWithLean_6 (by decide) ?_
    refine lv_iadd hx hb dX11_runWithLean_7 ?_
    refine lv_topi (fun x_18 ex_18 => ?_)
    have gx_18 : gi x_18 1 6 := gi_add ex_18 gp1 (gi_c 1 1 (by decide)) (by decide)
    exact W.iret (v := x_18) hx hb hr (fun t ht hW => ⟨⟨x_18, (), rfl, (gi_w gx_18 (by decide)), trivial⟩, hS.F ht⟩) hS.2.2 dX11_runWithLean_8
theorem dX11_firstRun_0 : decode cX11_firstRun 0 = .ok (.iload_n 0, 1) := by decide +kernel
theorem dX11_firstRun_1 : decode cX11_firstRun 1 = .ok (.ifCond .ne 7, 3) := by decide +kernel
theorem dX11_firstRun_4 : decode cX11_firstRun 4 = .ok (.iconst 0, 1) := by decide +kernel
theorem dX11_firstRun_5 : decode cX11_firstRun 5 = .ok (.goto 4, 3) := by decide +kernel
theorem dX11_firstRun_8 : decode cX11_firstRun 8 = .ok (.iconst 1, 1) := by decide +kernel
theorem dX11_firstRun_9 : decode cX11_firstRun 9 = .ok (.ireturn, 1) := by decide +kernel
set_option maxHeartbeats 4000000 in
set_option maxRecDepth 100000 in
theorem sX11_firstRun (l : Launch) (dC : Nat → ClassId) (dI : Nat → Nat → Nat) (p0 : Int32) (gp0 : gi p0 0 24) : Met l yX11_firstRun (.code yX11_firstRun cX11_firstRun 1 (some .int) :: wsGA) ({ frames := 0, cells := 0, slots := 0, locals := 0 }) (va_Pc [.int p0] (fun U => va_P (dC, dI) vwCl [] U.heap ∧ va_K (dC, dI) vwCl [] U ∧ nzA U)) (va_Qi (fun (r : Int32) (u : Unit) => gi r 0 1) (fun _ _ => True) (fun _ => False)) 0 0 (fun _ => False) := by
  refine Met.ofW (cc := cX11_firstRun) (maxL := 1) (ret := (some .int)) (by decide) rfl ?_
  intro p e s m args below meth c s₁ B hml hv
  obtain ⟨rfl, hP, hK, hz⟩ := hv
  have hx := B.exec
  have hb := B.bytes
  have hr := B.returns
  have hts := atoms_spec (ws := (.code yX11_firstRun cX11_firstRun 1 (some .int) :: wsGA)) B.pre
  have hown : s.vm.findClass RX11 = some m.cls := findClass_of_methodNamed B.named
  have hlocks := B.notSynchronized
  have hS : va_S (fun _ => False) s.heap s.heap [] := va_S.rf
  have hl := lv_entry ([.int p0]) (n := 1) (Nat.le_of_ble_eq_true rfl)
  rw [lg_entry_eq]
  generalize (lg_sl ([.int p0]) ++ List.replicate (1 - (lg_sl ([.int p0])).length) Slot.unset).toArray = ls at hl ⊢
  have hl : lv_has ls 1 [(0, .int p0)] := hl
  refine lv_iload_n hx hb dX11_firstRun_0 rfl (lv_at hl 0 rfl) ?_
  refine lv_if_ne (tgt := 8) hx hb dX11_firstRun_1 (by decide) (fun c_4 => ?_) (fun c_4 => ?_)
  · have g_5 : gi p0 1 24 := gi_ne_lo c_4 gp0 (gi_c 0 0 (by decide)) (by decide)
    refine lv_iconst (v := 1) hx hb dX11_firstRun_8 (by decide) ?_
    exact W.iret (v := 1) hx hb hr (fun t ht hW => ⟨⟨1, (), rfl, (gi_w (gi_c 1 1 (by decide)) (by decide)), trivial⟩, hS.F ht⟩) hS.2.2 dX11_firstRun_9
  · have g_6 : gi p0 0 0 := gi_eq c_4 (gi_c 0 0 (by decide))
    refine lv_iconst (v := 0) hx hb dX11_firstRun_4 (by decide) ?_
    refine lv_goto (tgt := 9) hx hb dX11_firstRun_5 (by decide) ?_
    exact W.iret (v := 0) hx hb hr (fun t ht hW => ⟨⟨0, (), rfl, (gi_w (gi_c 0 0 (by decide)) (by decide)), trivial⟩, hS.F ht⟩) hS.2.2 dX11_firstRun_9
theorem dX11_lastRun_0 : decode cX11_lastRun 0 = .ok (.iload_n 0, 1) := by decide +kernel
theorem dX11_lastRun_1 : decode cX11_lastRun 1 = .ok (.ifCond .ne 7, 3) := by decide +kernel
theorem dX11_lastRun_4 : decode cX11_lastRun 4 = .ok (.iconst 0, 1) := by decide +kernel
theorem dX11_lastRun_5 : decode cX11_lastRun 5 = .ok (.goto 6, 3) := by decide +kernel
theorem dX11_lastRun_8 : decode cX11_lastRun 8 = .ok (.iload_n 1, 1) := by decide +kernel
theorem dX11_lastRun_9 : decode cX11_lastRun 9 = .ok (.iload_n 2, 1) := by decide +kernel
theorem dX11_lastRun_10 : decode cX11_lastRun 10 = .ok (.iadd, 1) := by decide +kernel
theorem dX11_lastRun_11 : decode cX11_lastRun 11 = .ok (.ireturn, 1) := by decide +kernel
set_option maxHeartbeats 4000000 in
set_option maxRecDepth 100000 in
theorem sX11_lastRun (l : Launch) (dC : Nat → ClassId) (dI : Nat → Nat → Nat) (p0 : Int32) (p1 : Int32) (p2 : Int32) (gp0 : gi p0 0 24) (gp1 : gi p1 0 5) (gp2 : gi p2 0 5) : Met l yX11_lastRun (.code yX11_lastRun cX11_lastRun 3 (some .int) :: wsGA) ({ frames := 0, cells := 0, slots := 0, locals := 0 }) (va_Pc [.int p0, .int p1, .int p2] (fun U => va_P (dC, dI) vwCl [] U.heap ∧ va_K (dC, dI) vwCl [] U ∧ nzA U)) (va_Qi (fun (r : Int32) (u : Unit) => gi r 0 10) (fun _ _ => True) (fun _ => False)) 0 0 (fun _ => False) := by
  refine Met.ofW (cc := cX11_lastRun) (maxL := 3) (ret := (some .int)) (by decide) rfl ?_
  intro p e s m args below meth c s₁ B hml hv
  obtain ⟨rfl, hP, hK, hz⟩ := hv
  have hx := B.exec
  have hb := B.bytes
  have hr := B.returns
  have hts := atoms_spec (ws := (.code yX11_lastRun cX11_lastRun 3 (some .int) :: wsGA)) B.pre
  have hown : s.vm.findClass RX11 = some m.cls := findClass_of_methodNamed B.named
  have hlocks := B.notSynchronized
  have hS : va_S (fun _ => False) s.heap s.heap [] := va_S.rf
  have hl := lv_entry ([.int p0, .int p1, .int p2]) (n := 3) (Nat.le_of_ble_eq_true rfl)
  rw [lg_entry_eq]
  generalize (lg_sl ([.int p0, .int p1, .int p2]) ++ List.replicate (3 - (lg_sl ([.int p0, .int p1, .int p2])).length) Slot.unset).toArray = ls at hl ⊢
  have hl : lv_has ls 3 [(0, .int p0), (1, .int p1), (2, .int p2)] := hl
  refine lv_iload_n hx hb dX11_lastRun_0 rfl (lv_at hl 0 rfl) ?_
  refine lv_if_ne (tgt := 8) hx hb dX11_lastRun_1 (by decide) (fun c_5 => ?_) (fun c_5 => ?_)
  · have g_6 : gi p0 1 24 := gi_ne_lo c_5 gp0 (gi_c 0 0 (by decide)) (by decide)
    refine lv_iload_n hx hb dX11_lastRun_8 rfl (lv_at hl 1 rfl) ?_
    refine lv_iload_n hx hb dX11_lastRun_9 rfl (lv_at hl 2 rfl) ?_
    refine lv_iadd hx hb dX11_lastRun_10 ?_
    refine lv_topi (fun x_7 ex_7 => ?_)
    have gx_7 : gi x_7 0 10 := gi_add ex_7 gp1 gp2 (by decide)
    exact W.iret (v := x_7) hx hb hr (fun t ht hW => ⟨⟨x_7, (), rfl, gx_7, trivial⟩, hS.F ht⟩) hS.2.2 dX11_lastRun_11
  · have g_8 : gi p0 0 0 := gi_eq c_5 (gi_c 0 0 (by decide))
    refine lv_iconst (v := 0) hx hb dX11_lastRun_4 (by decide) ?_
    refine lv_goto (tgt := 11) hx hb dX11_lastRun_5 (by decide) ?_
    exact W.iret (v := 0) hx hb hr (fun t ht hW => ⟨⟨0, (), rfl, (gi_w (gi_c 0 0 (by decide)) (by decide)), trivial⟩, hS.F ht⟩) hS.2.2 dX11_lastRun_11
theorem dX11_cell_0 : decode cX11_cell 0 = .ok (.iload_n 0, 1) := by decide +kernel
theorem dX11_cell_1 : decode cX11_cell 1 = .ok (.iload_n 0, 1) := by decide +kernel
theorem dX11_cell_2 : decode cX11_cell 2 = .ok (.iconst 1, 1) := by decide +kernel
theorem dX11_cell_3 : decode cX11_cell 3 = .ok (.iadd, 1) := by decide +kernel
theorem dX11_cell_4 : decode cX11_cell 4 = .ok (.imul, 1) := by decide +kernel
theorem dX11_cell_5 : decode cX11_cell 5 = .ok (.iconst 2, 1) := by decide +kernel
theorem dX11_cell_6 : decode cX11_cell 6 = .ok (.idiv, 1) := by decide +kernel
theorem dX11_cell_7 : decode cX11_cell 7 = .ok (.iload_n 1, 1) := by decide +kernel
theorem dX11_cell_8 : decode cX11_cell 8 = .ok (.iadd, 1) := by decide +kernel
theorem dX11_cell_9 : decode cX11_cell 9 = .ok (.ireturn, 1) := by decide +kernel
set_option maxHeartbeats 4000000 in
set_option maxRecDepth 100000 in
theorem sX11_cell0 (l : Launch) (dC : Nat → ClassId) (dI : Nat → Nat → Nat) (p0 : Int32) (p1 : Int32) (gp0 : gi p0 0 24) (gp1 : gi p1 0 0) : Met l yX11_cell (.code yX11_cell cX11_cell 2 (some .int) :: wsGA) ({ frames := 0, cells := 0, slots := 0, locals := 0 }) (va_Pc [.int p0, .int p1] (fun U => va_P (dC, dI) vwCl [] U.heap ∧ va_K (dC, dI) vwCl [] U ∧ nzA U)) (va_Qi (fun (r : Int32) (u : Unit) => gi r 0 300) (fun _ _ => True) (fun _ => False)) 0 0 (fun _ => False) := by
  refine Met.ofW (cc := cX11_cell) (maxL := 2) (ret := (some .int)) (by decide) rfl ?_
  intro p e s m args below meth c s₁ B hml hv
  obtain ⟨rfl, hP, hK, hz⟩ := hv
  have hx := B.exec
  have hb := B.bytes
  have hr := B.returns
  have hts := atoms_spec (ws := (.code yX11_cell cX11_cell 2 (some .int) :: wsGA)) B.pre
  have hown : s.vm.findClass RX11 = some m.cls := findClass_of_methodNamed B.named
  have hlocks := B.notSynchronized
  have hS : va_S (fun _ => False) s.heap s.heap [] := va_S.rf
  have hl := lv_entry ([.int p0, .int p1]) (n := 2) (Nat.le_of_ble_eq_true rfl)
  rw [lg_entry_eq]
  generalize (lg_sl ([.int p0, .int p1]) ++ List.replicate (2 - (lg_sl ([.int p0, .int p1])).length) Slot.unset).toArray = ls at hl ⊢
  have hl : lv_has ls 2 [(0, .int p0), (1, .int p1)] := hl
  refine lv_iload_n hx hb dX11_cell_0 rfl (lv_at hl 0 rfl) ?_
  refine lv_iload_n hx hb dX11_cell_1 rfl (lv_at hl 0 rfl) ?_
  refine lv_iconst (v := 1) hx hb dX11_cell_2 (by decide) ?_
  refine lv_iadd hx hb dX11_cell_3 ?_
  refine lv_topi (fun x_5 ex_5 => ?_)
  have gx_5 : gi x_5 1 25 := gi_add ex_5 gp0 (gi_c 1 1 (by decide)) (by decide)
  refine lv_imul hx hb dX11_cell_4 ?_
  refine lv_topi (fun x_6 ex_6 => ?_)
  have gx_6 : gi x_6 0 600 := gi_mul ex_6 gp0 gx_5 (by decide)
  refine lv_iconst (v := 2) hx hb dX11_cell_5 (by decide) ?_
  refine lv_idiv hx hb dX11_cell_6 (by decide) ?_
  refine lv_topi (fun x_7 ex_7 => ?_)
  have gx_7 : gi x_7 0 300 := gi_div ex_7 gx_6 (gi_c 2 2 (by decide)) (by decide)
  refine lv_iload_n hx hb dX11_cell_7 rfl (lv_at hl 1 rfl) ?_
  refine lv_iadd hx hb dX11_cell_8 ?_
  refine lv_topi (fun x_8 ex_8 => ?_)
  have gx_8 : gi x_8 0 300 := gi_add ex_8 gx_7 gp1 (by decide)
  exact W.iret (v := x_8) hx hb hr (fun t ht hW => ⟨⟨x_8, (), rfl, gx_8, trivial⟩, hS.F ht⟩) hS.2.2 dX11_cell_9
set_option maxHeartbeats 4000000 in
set_option maxRecDepth 100000 in
theorem sX11_cell (l : Launch) (dC : Nat → ClassId) (dI : Nat → Nat → Nat) (p0 : Int32) (p1 : Int32) (gp0 : gi p0 0 24) (gp1 : gi p1 0 24) : Met l yX11_cell (.code yX11_cell cX11_cell 2 (some .int) :: wsGA) ({ frames := 0, cells := 0, slots := 0, locals := 0 }) (va_Pc [.int p0, .int p1] (fun U => va_P (dC, dI) vwCl [] U.heap ∧ va_K (dC, dI) vwCl [] U ∧ nzA U)) (va_Qi (fun (r : Int32) (u : Unit) => gi r 0 324) (fun _ _ => True) (fun _ => False)) 0 0 (fun _ => False) := by
  refine Met.ofW (cc := cX11_cell) (maxL := 2) (ret := (some .int)) (by decide) rfl ?_
  intro p e s m args below meth c s₁ B hml hv
  obtain ⟨rfl, hP, hK, hz⟩ := hv
  have hx := B.exec
  have hb := B.bytes
  have hr := B.returns
  have hts := atoms_spec (ws := (.code yX11_cell cX11_cell 2 (some .int) :: wsGA)) B.pre
  have hown : s.vm.findClass RX11 = some m.cls := findClass_of_methodNamed B.named
  have hlocks := B.notSynchronized
  have hS : va_S (fun _ => False) s.heap s.heap [] := va_S.rf
  have hl := lv_entry ([.int p0, .int p1]) (n := 2) (Nat.le_of_ble_eq_true rfl)
  rw [lg_entry_eq]
  generalize (lg_sl ([.int p0, .int p1]) ++ List.replicate (2 - (lg_sl ([.int p0, .int p1])).length) Slot.unset).toArray = ls at hl ⊢
  have hl : lv_has ls 2 [(0, .int p0), (1, .int p1)] := hl
  refine lv_iload_n hx hb dX11_cell_0 rfl (lv_at hl 0 rfl) ?_
  refine lv_iload_n hx hb dX11_cell_1 rfl (lv_at hl 0 rfl) ?_
  refine lv_iconst (v := 1) hx hb dX11_cell_2 (by decide) ?_
  refine lv_iadd hx hb dX11_cell_3 ?_
  refine lv_topi (fun x_5 ex_5 => ?_)
  have gx_5 : gi x_5 1 25 := gi_add ex_5 gp0 (gi_c 1 1 (by decide)) (by decide)
  refine lv_imul hx hb dX11_cell_4 ?_
  refine lv_topi (fun x_6 ex_6 => ?_)
  have gx_6 : gi x_6 0 600 := gi_mul ex_6 gp0 gx_5 (by decide)
  refine lv_iconst (v := 2) hx hb dX11_cell_5 (by decide) ?_
  refine lv_idiv hx hb dX11_cell_6 (by decide) ?_
  refine lv_topi (fun x_7 ex_7 => ?_)
  have gx_7 : gi x_7 0 300 := gi_div ex_7 gx_6 (gi_c 2 2 (by decide)) (by decide)
  refine lv_iload_n hx hb dX11_cell_7 rfl (lv_at hl 1 rfl) ?_
  refine lv_iadd hx hb dX11_cell_8 ?_
  refine lv_topi (fun x_8 ex_8 => ?_)
  have gx_8 : gi x_8 0 324 := gi_add ex_8 gx_7 gp1 (by decide)
  exact W.iret (v := x_8) hx hb hr (fun t ht hW => ⟨⟨x_8, (), rfl, gx_8, trivial⟩, hS.F ht⟩) hS.2.2 dX11_cell_9
theorem dX11_spot_0 : decode cX11_spot 0 = .ok (.iload_n 0, 1) := by decide +kernel
theorem dX11_spot_1 : decode cX11_spot 1 = .ok (.iload_n 1, 1) := by decide +kernel
theorem dX11_spot_2 : decode cX11_spot 2 = .ok (.invokestatic 425, 3) := by decide +kernel
theorem dX11_spot_5 : decode cX11_spot 5 = .ok (.bipush 11, 2) := by decide +kernel
theorem dX11_spot_7 : decode cX11_spot 7 = .ok (.imul, 1) := by decide +kernel
theorem dX11_spot_8 : decode cX11_spot 8 = .ok (.iload_n 2, 1) := by decide +kernel
theorem dX11_spot_9 : decode cX11_spot 9 = .ok (.iadd, 1) := by decide +kernel
theorem dX11_spot_10 : decode cX11_spot 10 = .ok (.ireturn, 1) := by decide +kernel
set_option maxHeartbeats 4000000 in
set_option maxRecDepth 100000 in
theorem sX11_spot00 (l : Launch) (dC : Nat → ClassId) (dI : Nat → Nat → Nat) (p0 : Int32) (p1 : Int32) (p2 : Int32) (gp0 : gi p0 0 24) (gp1 : gi p1 0 0) (gp2 : gi p2 0 0) : Met l yX11_spot (.code yX11_spot cX11_spot 3 (some .int) :: wsGA) ({ frames := 1, cells := 0, slots := 0, locals := 21 }) (va_Pc [.int p0, .int p1, .int p2] (fun U => va_P (dC, dI) vwCl [] U.heap ∧ va_K (dC, dI) vwCl [] U ∧ nzA U)) (va_Qi (fun (r : Int32) (u : Unit) => gi r 0 3300) (fun _ _ => True) (fun _ => False)) 0 0 (fun _ => False) := by
  refine Met.ofW (cc := cX11_spot) (maxL := 3) (ret := (some .int)) (by decide) rfl ?_
  intro p e s m args below meth c s₁ B hml hv
  obtain ⟨rfl, hP, hK, hz⟩ := hv
  have hx := B.exec
  have hb := B.bytes
  have hr := B.returns
  have hts := atoms_spec (ws := (.code yX11_spot cX11_spot 3 (some .int) :: wsGA)) B.pre
  have hown : s.vm.findClass RX11 = some m.cls := findClass_of_methodNamed B.named
  have hlocks := B.notSynchronized
  have hS : va_S (fun _ => False) s.heap s.heap [] := va_S.rf
  have hl := lv_entry ([.int p0, .int p1, .int p2]) (n := 3) (Nat.le_of_ble_eq_true rfl)
  rw [lg_entry_eq]
  generalize (lg_sl ([.int p0, .int p1, .int p2]) ++ List.replicate (3 - (lg_sl ([.int p0, .int p1, .int p2])).length) Slot.unset).toArray = ls at hl ⊢
  have hl : lv_has ls 3 [(0, .int p0), (1, .int p1), (2, .int p2)] := hl
  refine lv_iload_n hx hb dX11_spot_0 rfl (lv_at hl 0 rfl) ?_
  refine lv_iload_n hx hb dX11_spot_1 rfl (lv_at hl 1 rfl) ?_
  have hPc := hP.sub (ws' := []) [] rfl
  have hKc := hK.sub (tys' := []) [] rfl
  refine va_calli (va_runS (As := [.int p0, .int p1]) (rest := []) ⟨hx, hb, hml, hown, hts⟩ (sX11_cell0 l dC dI p0 p1 gp0 gp1) (cwS 2 hts (gz_gS mGA_583 mGA_584 mGA_1 mGA_585 goodGA) rfl rfl rfl (by decide +kernel) ⟨Nat.le_of_ble_eq_true rfl, Nat.le_of_ble_eq_true rfl⟩) ⟨fun a U g mk q => by obtain ⟨q0, qP, qK, qZ⟩ := q; exact ⟨q0, qP, va_K.moved (u := U) (U := U.calling g mk a) (Vm.Alike.refl U.vm) qK, nzA_same (u := U) (U := U.calling g mk a) rfl qZ⟩, fun U hU hW => ⟨rfl, by rw [hU]; exact hPc, va_K.moved hW.alike hKc, nzA_warm hW hz⟩⟩ rfl rfl hl.1 rfl (lv_room (Nat.le_of_ble_eq_true rfl)) dX11_spot_2 ⟨Nat.zero_le _, Nat.zero_le _⟩) hS (fun q _ h => h.elim) (fun q h => h.elim) (fun r_4 u t H1 locs ht hvm hw hB hz1 hk1 hS => ?_)
  have hP := gz_keep hP hk1
  generalize H1 = H at hP hS ⊢
  have gr_4 : gi r_4 0 300 := hw
  refine lv_bipush (v := 11) hx hb dX11_spot_5 (by decide) ?_
  refine lv_imul hx hb dX11_spot_7 ?_
  refine lv_topi (fun x_5 ex_5 => ?_)
  have gx_5 : gi x_5 0 3300 := gi_mul ex_5 gr_4 (gi_c 11 11 (by decide)) (by decide)
  refine lv_iload_n hx hb dX11_spot_8 rfl (lv_at hl 2 rfl) ?_
  refine lv_iadd hx hb dX11_spot_9 ?_
  refine lv_topi (fun x_6 ex_6 => ?_)
  have gx_6 : gi x_6 0 3300 := gi_add ex_6 gx_5 gp2 (by decide)
  exact W.iret (v := x_6) hx hb hr (fun t ht hW => ⟨⟨x_6, (), rfl, gx_6, trivial⟩, hS.F ht⟩) hS.2.2 dX11_spot_10
set_option maxHeartbeats 4000000 in
set_option maxRecDepth 100000 in
theorem sX11_spot0 (l : Launch) (dC : Nat → ClassId) (dI : Nat → Nat → Nat) (p0 : Int32) (p1 : Int32) (p2 : Int32) (gp0 : gi p0 0 24) (gp1 : gi p1 0 24) (gp2 : gi p2 0 0) : Met l yX11_spot (.code yX11_spot cX11_spot 3 (some .int) :: wsGA) ({ frames := 1, cells := 0, slots := 0, locals := 21 }) (va_Pc [.int p0, .int p1, .int p2] (fun U => va_P (dC, dI) vwCl [] U.heap ∧ va_K (dC, dI) vwCl [] U ∧ nzA U)) (va_Qi (fun (r : Int32) (u : Unit) => gi r 0 3564) (fun _ _ => True) (fun _ => False)) 0 0 (fun _ => False) := by
  refine Met.ofW (cc := cX11_spot) (maxL := 3) (ret := (some .int)) (by decide) rfl ?_
  intro p e s m args below meth c s₁ B hml hv
  obtain ⟨rfl, hP, hK, hz⟩ := hv
  have hx := B.exec
  have hb := B.bytes
  have hr := B.returns
  have hts := atoms_spec (ws := (.code yX11_spot cX11_spot 3 (some .int) :: wsGA)) B.pre
  have hown : s.vm.findClass RX11 = some m.cls := findClass_of_methodNamed B.named
  have hlocks := B.notSynchronized
  have hS : va_S (fun _ => False) s.heap s.heap [] := va_S.rf
  have hl := lv_entry ([.int p0, .int p1, .int p2]) (n := 3) (Nat.le_of_ble_eq_true rfl)
  rw [lg_entry_eq]
  generalize (lg_sl ([.int p0, .int p1, .int p2]) ++ List.replicate (3 - (lg_sl ([.int p0, .int p1, .int p2])).length) Slot.unset).toArray = ls at hl ⊢
  have hl : lv_has ls 3 [(0, .int p0), (1, .int p1), (2, .int p2)] := hl
  refine lv_iload_n hx hb dX11_spot_0 rfl (lv_at hl 0 rfl) ?_
  refine lv_iload_n hx hb dX11_spot_1 rfl (lv_at hl 1 rfl) ?_
  have hPc := hP.sub (ws' := []) [] rfl
  have hKc := hK.sub (tys' := []) [] rfl
  refine va_calli (va_runS (As := [.int p0, .int p1]) (rest := []) ⟨hx, hb, hml, hown, hts⟩ (sX11_cell l dC dI p0 p1 gp0 gp1) (cwS 2 hts (gz_gS mGA_583 mGA_584 mGA_1 mGA_585 goodGA) rfl rfl rfl (by decide +kernel) ⟨Nat.le_of_ble_eq_true rfl, Nat.le_of_ble_eq_true rfl⟩) ⟨fun a U g mk q => by obtain ⟨q0, qP, qK, qZ⟩ := q; exact ⟨q0, qP, va_K.moved (u := U) (U := U.calling g mk a) (Vm.Alike.refl U.vm) qK, nzA_same (u := U) (U := U.calling g mk a) rfl qZ⟩, fun U hU hW => ⟨rfl, by rw [hU]; exact hPc, va_K.moved hW.alike hKc, nzA_warm hW hz⟩⟩ rfl rfl hl.1 rfl (lv_room (Nat.le_of_ble_eq_true rfl)) dX11_spot_2 ⟨Nat.zero_le _, Nat.zero_le _⟩) hS (fun q _ h => h.elim) (fun q h => h.elim) (fun r_4 u t H1 locs ht hvm hw hB hz1 hk1 hS => ?_)
  have hP := gz_keep hP hk1
  generalize H1 = H at hP hS ⊢
  have gr_4 : gi r_4 0 324 := hw
  refine lv_bipush (v := 11) hx hb dX11_spot_5 (by decide) ?_
  refine lv_imul hx hb dX11_spot_7 ?_
  refine lv_topi (fun x_5 ex_5 => ?_)
  have gx_5 : gi x_5 0 3564 := gi_mul ex_5 gr_4 (gi_c 11 11 (by decide)) (by decide)
  refine lv_iload_n hx hb dX11_spot_8 rfl (lv_at hl 2 rfl) ?_
  refine lv_iadd hx hb dX11_spot_9 ?_
  refine lv_topi (fun x_6 ex_6 => ?_)
  have gx_6 : gi x_6 0 3564 := gi_add ex_6 gx_5 gp2 (by decide)
  exact W.iret (v := x_6) hx hb hr (fun t ht hW => ⟨⟨x_6, (), rfl, gx_6, trivial⟩, hS.F ht⟩) hS.2.2 dX11_spot_10
set_option maxHeartbeats 4000000 in
set_option maxRecDepth 100000 in
theorem sX11_spot (l : Launch) (dC : Nat → ClassId) (dI : Nat → Nat → Nat) (p0 : Int32) (p1 : Int32) (p2 : Int32) (gp0 : gi p0 0 24) (gp1 : gi p1 0 24) (gp2 : gi p2 0 10) : Met l yX11_spot (.code yX11_spot cX11_spot 3 (some .int) :: wsGA) ({ frames := 1, cells := 0, slots := 0, locals := 21 }) (va_Pc [.int p0, .int p1, .int p2] (fun U => va_P (dC, dI) vwCl [] U.heap ∧ va_K (dC, dI) vwCl [] U ∧ nzA U)) (va_Qi (fun (r : Int32) (u : Unit) => gi r 0 3574) (fun _ _ => True) (fun _ => False)) 0 0 (fun _ => False) := by
  refine Met.ofW (cc := cX11_spot) (maxL := 3) (ret := (some .int)) (by decide) rfl ?_
  intro p e s m args below meth c s₁ B hml hv
  obtain ⟨rfl, hP, hK, hz⟩ := hv
  have hx := B.exec
  have hb := B.bytes
  have hr := B.returns
  have hts := atoms_spec (ws := (.code yX11_spot cX11_spot 3 (some .int) :: wsGA)) B.pre
  have hown : s.vm.findClass RX11 = some m.cls := findClass_of_methodNamed B.named
  have hlocks := B.notSynchronized
  have hS : va_S (fun _ => False) s.heap s.heap [] := va_S.rf
  have hl := lv_entry ([.int p0, .int p1, .int p2]) (n := 3) (Nat.le_of_ble_eq_true rfl)
  rw [lg_entry_eq]
  generalize (lg_sl ([.int p0, .int p1, .int p2]) ++ List.replicate (3 - (lg_sl ([.int p0, .int p1, .int p2])).length) Slot.unset).toArray = ls at hl ⊢
  have hl : lv_has ls 3 [(0, .int p0), (1, .int p1), (2, .int p2)] := hl
  refine lv_iload_n hx hb dX11_spot_0 rfl (lv_at hl 0 rfl) ?_
  refine lv_iload_n hx hb dX11_spot_1 rfl (lv_at hl 1 rfl) ?_
  have hPc := hP.sub (ws' := []) [] rfl
  have hKc := hK.sub (tys' := []) [] rfl
  refine va_calli (va_runS (As := [.int p0, .int p1]) (rest := []) ⟨hx, hb, hml, hown, hts⟩ (sX11_cell l dC dI p0 p1 gp0 gp1) (cwS 2 hts (gz_gS mGA_583 mGA_584 mGA_1 mGA_585 goodGA) rfl rfl rfl (by decide +kernel) ⟨Nat.le_of_ble_eq_true rfl, Nat.le_of_ble_eq_true rfl⟩) ⟨fun a U g mk q => by obtain ⟨q0, qP, qK, qZ⟩ := q; exact ⟨q0, qP, va_K.moved (u := U) (U := U.calling g mk a) (Vm.Alike.refl U.vm) qK, nzA_same (u := U) (U := U.calling g mk a) rfl qZ⟩, fun U hU hW => ⟨rfl, by rw [hU]; exact hPc, va_K.moved hW.alike hKc, nzA_warm hW hz⟩⟩ rfl rfl hl.1 rfl (lv_room (Nat.le_of_ble_eq_true rfl)) dX11_spot_2 ⟨Nat.zero_le _, Nat.zero_le _⟩) hS (fun q _ h => h.elim) (fun q h => h.elim) (fun r_4 u t H1 locs ht hvm hw hB hz1 hk1 hS => ?_)
  have hP := gz_keep hP hk1
  generalize H1 = H at hP hS ⊢
  have gr_4 : gi r_4 0 324 := hw
  refine lv_bipush (v := 11) hx hb dX11_spot_5 (by decide) ?_
  refine lv_imul hx hb dX11_spot_7 ?_
  refine lv_topi (fun x_5 ex_5 => ?_)
  have gx_5 : gi x_5 0 3564 := gi_mul ex_5 gr_4 (gi_c 11 11 (by decide)) (by decide)
  refine lv_iload_n hx hb dX11_spot_8 rfl (lv_at hl 2 rfl) ?_
  refine lv_iadd hx hb dX11_spot_9 ?_
  refine lv_topi (fun x_6 ex_6 => ?_)
  have gx_6 : gi x_6 0 3574 := gi_add ex_6 gx_5 gp2 (by decide)
  exact W.iret (v := x_6) hx hb hr (fun t ht hW => ⟨⟨x_6, (), rfl, gx_6, trivial⟩, hS.F ht⟩) hS.2.2 dX11_spot_10
theorem dX11_isEither_0 : decode cX11_isEither 0 = .ok (.iload_n 0, 1) := by decide +kernel
theorem dX11_isEither_1 : decode cX11_isEither 1 = .ok (.ifCond .eq 8, 3) := by decide +kernel
theorem dX11_isEither_4 : decode cX11_isEither 4 = .ok (.iload_n 0, 1) := by decide +kernel
theorem dX11_isEither_5 : decode cX11_isEither 5 = .ok (.iconst 1, 1) := by decide +kernel
theorem dX11_isEither_6 : decode cX11_isEither 6 = .ok (.if_icmp .ne 7, 3) := by decide +kernel
theorem dX11_isEither_9 : decode cX11_isEither 9 = .ok (.iconst 1, 1) := by decide +kernel
theorem dX11_isEither_10 : decode cX11_isEither 10 = .ok (.goto 4, 3) := by decide +kernel
theorem dX11_isEither_13 : decode cX11_isEither 13 = .ok (.iconst 0, 1) := by decide +kernel
theorem dX11_isEither_14 : decode cX11_isEither 14 = .ok (.ireturn, 1) := by decide +kernel
set_option maxHeartbeats 4000000 in
set_option maxRecDepth 100000 in
theorem sX11_isEither (l : Launch) (dC : Nat → ClassId) (dI : Nat → Nat → Nat) (p0 : Int32)  : Met l yX11_isEither (.code yX11_isEither cX11_isEither 1 (some .boolean) :: wsGA) ({ frames := 0, cells := 0, slots := 0, locals := 0 }) (va_Pc [.int p0] (fun U => va_P (dC, dI) vwCl [] U.heap ∧ va_K (dC, dI) vwCl [] U ∧ nzA U)) (va_Qi (fun (r : Int32) (u : Unit) => gi r 0 1) (fun _ _ => True) (fun _ => False)) 0 0 (fun _ => False) := by
  refine Met.ofW (cc := cX11_isEither) (maxL := 1) (ret := (some .boolean)) (by decide) rfl ?_
  intro p e s m args below meth c s₁ B hml hv
  obtain ⟨rfl, hP, hK, hz⟩ := hv
  have hx := B.exec
  have hb := B.bytes
  have hr := B.returns
  have hts := atoms_spec (ws := (.code yX11_isEither cX11_isEither 1 (some .boolean) :: wsGA)) B.pre
  have hown : s.vm.findClass RX11 = some m.cls := findClass_of_methodNamed B.named
  have hlocks := B.notSynchronized
  have hS : va_S (fun _ => False) s.heap s.heap [] := va_S.rf
  have hl := lv_entry ([.int p0]) (n := 1) (Nat.le_of_ble_eq_true rfl)
  rw [lg_entry_eq]
  generalize (lg_sl ([.int p0]) ++ List.replicate (1 - (lg_sl ([.int p0])).length) Slot.unset).toArray = ls at hl ⊢
  have hl : lv_has ls 1 [(0, .int p0)] := hl
  refine lv_iload_n hx hb dX11_isEither_0 rfl (lv_at hl 0 rfl) ?_
  refine lv_if_eq (tgt := 9) hx hb dX11_isEither_1 (by decide) (fun c_5 => ?_) (fun c_5 => ?_)
  · have g_6 : gi p0 0 0 := gi_eq c_5 (gi_c 0 0 (by decide))
    refine lv_iconst (v := 1) hx hb dX11_isEither_9 (by decide) ?_
    refine lv_goto (tgt := 14) hx hb dX11_isEither_10 (by decide) ?_
    exact W.zret (v := 1) hx hb hr (by decide) (fun t ht hW => ⟨⟨1, (), rfl, (gi_w (gi_c 1 1 (by decide)) (by decide)), trivial⟩, hS.F ht⟩) hS.2.2 dX11_isEither_14
  · refine lv_iload_n hx hb dX11_isEither_4 rfl (lv_at hl 0 rfl) ?_
    refine lv_iconst (v := 1) hx hb dX11_isEither_5 (by decide) ?_
    refine lv_icmp_ne (tgt := 13) hx hb dX11_isEither_6 (by decide) (fun c_7 => ?_) (fun c_7 => ?_)
    · refine lv_iconst (v := 0) hx hb dX11_isEither_13 (by decide) ?_
      exact W.zret (v := 0) hx hb hr (by decide) (fun t ht hW => ⟨⟨0, (), rfl, (gi_w (gi_c 0 0 (by decide)) (by decide)), trivial⟩, hS.F ht⟩) hS.2.2 dX11_isEither_14
    · have g_8 : gi p0 1 1 := gi_eq c_7 (gi_c 1 1 (by decide))
      refine lv_iconst (v := 1) hx hb dX11_isEither_9 (by decide) ?_
      refine lv_goto (tgt := 14) hx hb dX11_isEither_10 (by decide) ?_
      exact W.zret (v := 1) hx hb hr (by decide) (fun t ht hW => ⟨⟨1, (), rfl, (gi_w (gi_c 1 1 (by decide)) (by decide)), trivial⟩, hS.F ht⟩) hS.2.2 dX11_isEither_14
theorem dX6_isLetter_0 : decode cX6_isLetter 0 = .ok (.iload_n 0, 1) := by decide +kernel
theorem dX6_isLetter_1 : decode cX6_isLetter 1 = .ok (.bipush 97, 2) := by decide +kernel
theorem dX6_isLetter_3 : decode cX6_isLetter 3 = .ok (.if_icmp .lt 13, 3) := by decide +kernel
theorem dX6_isLetter_6 : decode cX6_isLetter 6 = .ok (.iload_n 0, 1) := by decide +kernel
theorem dX6_isLetter_7 : decode cX6_isLetter 7 = .ok (.bipush 122, 2) := by decide +kernel
theorem dX6_isLetter_9 : decode cX6_isLetter 9 = .ok (.if_icmp .gt 7, 3) := by decide +kernel
theorem dX6_isLetter_12 : decode cX6_isLetter 12 = .ok (.iconst 1, 1) := by decide +kernel
theorem dX6_isLetter_13 : decode cX6_isLetter 13 = .ok (.goto 4, 3) := by decide +kernel
theorem dX6_isLetter_16 : decode cX6_isLetter 16 = .ok (.iconst 0, 1) := by decide +kernel
theorem dX6_isLetter_17 : decode cX6_isLetter 17 = .ok (.ireturn, 1) := by decide +kernel
set_option maxHeartbeats 4000000 in
set_option maxRecDepth 100000 in
theorem sX6_isLetter (l : Launch) (dC : Nat → ClassId) (dI : Nat → Nat → Nat) (p0 : Int32)  : Met l yX6_isLetter (.code yX6_isLetter cX6_isLetter 1 (some .boolean) :: wsGA) ({ frames := 0, cells := 0, slots := 0, locals := 0 }) (va_Pc [.int p0] (fun U => va_P (dC, dI) vwCl [] U.heap ∧ va_K (dC, dI) vwCl [] U ∧ nzA U)) (va_Qi (fun (r : Int32) (u : Unit) => gi r 0 1) (fun _ _ => True) (fun _ => False)) 0 0 (fun _ => False) := by
  refine Met.ofW (cc := cX6_isLetter) (maxL := 1) (ret := (some .boolean)) (by decide) rfl ?_
  intro p e s m args below meth c s₁ B hml hv
  obtain ⟨rfl, hP, hK, hz⟩ := hv
  have hx := B.exec
  have hb := B.bytes
  have hr := B.returns
  have hts := atoms_spec (ws := (.code yX6_isLetter cX6_isLetter 1 (some .boolean) :: wsGA)) B.pre
  have hown : s.vm.findClass RX6 = some m.cls := findClass_of_methodNamed B.named
  have hlocks := B.notSynchronized
  have hS : va_S (fun _ => False) s.heap s.heap [] := va_S.rf
  have hl := lv_entry ([.int p0]) (n := 1) (Nat.le_of_ble_eq_true rfl)
  rw [lg_entry_eq]
  generalize (lg_sl ([.int p0]) ++ List.replicate (1 - (lg_sl ([.int p0])).length) Slot.unset).toArray = ls at hl ⊢
  have hl : lv_has ls 1 [(0, .int p0)] := hl
  refine lv_iload_n hx hb dX6_isLetter_0 rfl (lv_at hl 0 rfl) ?_
  refine lv_bipush (v := 97) hx hb dX6_isLetter_1 (by decide) ?_
  refine lv_icmp_lt (tgt := 16) hx hb dX6_isLetter_3 (by decide) (fun c_7 => ?_) (fun c_7 => ?_)
  · have g_8 : gi p0 (-2147483648) 96 := gi_lt_l c_7 (gi_any p0) (gi_c 97 97 (by decide)) (by decide)
    refine lv_iconst (v := 0) hx hb dX6_isLetter_16 (by decide) ?_
    exact W.zret (v := 0) hx hb hr (by decide) (fun t ht hW => ⟨⟨0, (), rfl, (gi_w (gi_c 0 0 (by decide)) (by decide)), trivial⟩, hS.F ht⟩) hS.2.2 dX6_isLetter_17
  · have g_9 : gi p0 97 2147483647 := gi_le_r (Int32.not_lt.mp c_7) (gi_c 97 97 (by decide)) (gi_any p0)
    refine lv_iload_n hx hb dX6_isLetter_6 rfl (lv_at hl 0 rfl) ?_
    refine lv_bipush (v := 122) hx hb dX6_isLetter_7 (by decide) ?_
    refine lv_icmp_gt (tgt := 16) hx hb dX6_isLetter_9 (by decide) (fun c_10 => ?_) (fun c_10 => ?_)
    · have g_11 : gi p0 123 2147483647 := gi_lt_r c_10 (gi_c 122 122 (by decide)) g_9 (by decide)
      refine lv_iconst (v := 0) hx hb dX6_isLetter_16 (by decide) ?_
      exact W.zret (v := 0) hx hb hr (by decide) (fun t ht hW => ⟨⟨0, (), rfl, (gi_w (gi_c 0 0 (by decide)) (by decide)), trivial⟩, hS.F ht⟩) hS.2.2 dX6_isLetter_17
    · have g_12 : gi p0 97 122 := gi_le_l (Int32.not_lt.mp c_10) g_9 (gi_c 122 122 (by decide))
      refine lv_iconst (v := 1) hx hb dX6_isLetter_12 (by decide) ?_
      refine lv_goto (tgt := 17) hx hb dX6_isLetter_13 (by decide) ?_
      exact W.zret (v := 1) hx hb hr (by decide) (fun t ht hW => ⟨⟨1, (), rfl, (gi_w (gi_c 1 1 (by decide)) (by decide)), trivial⟩, hS.F ht⟩) hS.2.2 dX6_isLetter_17
theorem dX6_isDigit_0 : decode cX6_isDigit 0 = .ok (.iload_n 0, 1) := by decide +kernel
theorem dX6_isDigit_1 : decode cX6_isDigit 1 = .ok (.bipush 48, 2) := by decide +kernel
theorem dX6_isDigit_3 : decode cX6_isDigit 3 = .ok (.if_icmp .lt 13, 3) := by decide +kernel
theorem dX6_isDigit_6 : decode cX6_isDigit 6 = .ok (.iload_n 0, 1) := by decide +kernel
theorem dX6_isDigit_7 : decode cX6_isDigit 7 = .ok (.bipush 57, 2) := by decide +kernel
theorem dX6_isDigit_9 : decode cX6_isDigit 9 = .ok (.if_icmp .gt 7, 3) := by decide +kernel
theorem dX6_isDigit_12 : decode cX6_isDigit 12 = .ok (.iconst 1, 1) := by decide +kernel
theorem dX6_isDigit_13 : decode cX6_isDigit 13 = .ok (.goto 4, 3) := by decide +kernel
theorem dX6_isDigit_16 : decode cX6_isDigit 16 = .ok (.iconst 0, 1) := by decide +kernel
theorem dX6_isDigit_17 : decode cX6_isDigit 17 = .ok (.ireturn, 1) := by decide +kernel
set_option maxHeartbeats 4000000 in
set_option maxRecDepth 100000 in
theorem sX6_isDigit (l : Launch) (dC : Nat → ClassId) (dI : Nat → Nat → Nat) (p0 : Int32)  : Met l yX6_isDigit (.code yX6_isDigit cX6_isDigit 1 (some .boolean) :: wsGA) ({ frames := 0, cells := 0, slots := 0, locals := 0 }) (va_Pc [.int p0] (fun U => va_P (dC, dI) vwCl [] U.heap ∧ va_K (dC, dI) vwCl [] U ∧ nzA U)) (va_Qi (fun (r : Int32) (u : Unit) => gi r 0 1) (fun _ _ => True) (fun _ => False)) 0 0 (fun _ => False) := by
  refine Met.ofW (cc := cX6_isDigit) (maxL := 1) (ret := (some .boolean)) (by decide) rfl ?_
  intro p e s m args below meth c s₁ B hml hv
  obtain ⟨rfl, hP, hK, hz⟩ := hv
  have hx := B.exec
  have hb := B.bytes
  have hr := B.returns
  have hts := atoms_spec (ws := (.code yX6_isDigit cX6_isDigit 1 (some .boolean) :: wsGA)) B.pre
  have hown : s.vm.findClass RX6 = some m.cls := findClass_of_methodNamed B.named
  have hlocks := B.notSynchronized
  have hS : va_S (fun _ => False) s.heap s.heap [] := va_S.rf
  have hl := lv_entry ([.int p0]) (n := 1) (Nat.le_of_ble_eq_true rfl)
  rw [lg_entry_eq]
  generalize (lg_sl ([.int p0]) ++ List.replicate (1 - (lg_sl ([.int p0])).length) Slot.unset).toArray = ls at hl ⊢
  have hl : lv_has ls 1 [(0, .int p0)] := hl
  refine lv_iload_n hx hb dX6_isDigit_0 rfl (lv_at hl 0 rfl) ?_
  refine lv_bipush (v := 48) hx hb dX6_isDigit_1 (by decide) ?_
  refine lv_icmp_lt (tgt := 16) hx hb dX6_isDigit_3 (by decide) (fun c_7 => ?_) (fun c_7 => ?_)
  · have g_8 : gi p0 (-2147483648) 47 := gi_lt_l c_7 (gi_any p0) (gi_c 48 48 (by decide)) (by decide)
    refine lv_iconst (v := 0) hx hb dX6_isDigit_16 (by decide) ?_
    exact W.zret (v := 0) hx hb hr (by decide) (fun t ht hW => ⟨⟨0, (), rfl, (gi_w (gi_c 0 0 (by decide)) (by decide)), trivial⟩, hS.F ht⟩) hS.2.2 dX6_isDigit_17
  · have g_9 : gi p0 48 2147483647 := gi_le_r (Int32.not_lt.mp c_7) (gi_c 48 48 (by decide)) (gi_any p0)
    refine lv_iload_n hx hb dX6_isDigit_6 rfl (lv_at hl 0 rfl) ?_
    refine lv_bipush (v := 57) hx hb dX6_isDigit_7 (by decide) ?_
    refine lv_icmp_gt (tgt := 16) hx hb dX6_isDigit_9 (by decide) (fun c_10 => ?_) (fun c_10 => ?_)
    · have g_11 : gi p0 58 2147483647 := gi_lt_r c_10 (gi_c 57 57 (by decide)) g_9 (by decide)
      refine lv_iconst (v := 0) hx hb dX6_isDigit_16 (by decide) ?_
      exact W.zret (v := 0) hx hb hr (by decide) (fun t ht hW => ⟨⟨0, (), rfl, (gi_w (gi_c 0 0 (by decide)) (by decide)), trivial⟩, hS.F ht⟩) hS.2.2 dX6_isDigit_17
    · have g_12 : gi p0 48 57 := gi_le_l (Int32.not_lt.mp c_10) g_9 (gi_c 57 57 (by decide))
      refine lv_iconst (v := 1) hx hb dX6_isDigit_12 (by decide) ?_
      refine lv_goto (tgt := 17) hx hb dX6_isDigit_13 (by decide) ?_
      exact W.zret (v := 1) hx hb hr (by decide) (fun t ht hW => ⟨⟨1, (), rfl, (gi_w (gi_c 1 1 (by decide)) (by decide)), trivial⟩, hS.F ht⟩) hS.2.2 dX6_isDigit_17
theorem dX6_isBlank_0 : decode cX6_isBlank 0 = .ok (.iload_n 0, 1) := by decide +kernel
theorem dX6_isBlank_1 : decode cX6_isBlank 1 = .ok (.bipush 32, 2) := by decide +kernel
theorem dX6_isBlank_3 : decode cX6_isBlank 3 = .ok (.if_icmp .eq 9, 3) := by decide +kernel
theorem dX6_isBlank_6 : decode cX6_isBlank 6 = .ok (.iload_n 0, 1) := by decide +kernel
theorem dX6_isBlank_7 : decode cX6_isBlank 7 = .ok (.bipush 10, 2) := by decide +kernel
theorem dX6_isBlank_9 : decode cX6_isBlank 9 = .ok (.if_icmp .ne 7, 3) := by decide +kernel
theorem dX6_isBlank_12 : decode cX6_isBlank 12 = .ok (.iconst 1, 1) := by decide +kernel
theorem dX6_isBlank_13 : decode cX6_isBlank 13 = .ok (.goto 4, 3) := by decide +kernel
theorem dX6_isBlank_16 : decode cX6_isBlank 16 = .ok (.iconst 0, 1) := by decide +kernel
theorem dX6_isBlank_17 : decode cX6_isBlank 17 = .ok (.ireturn, 1) := by decide +kernel
set_option maxHeartbeats 4000000 in
set_option maxRecDepth 100000 in
theorem sX6_isBlank (l : Launch) (dC : Nat → ClassId) (dI : Nat → Nat → Nat) (p0 : Int32)  : Met l yX6_isBlank (.code yX6_isBlank cX6_isBlank 1 (some .boolean) :: wsGA) ({ frames := 0, cells := 0, slots := 0, locals := 0 }) (va_Pc [.int p0] (fun U => va_P (dC, dI) vwCl [] U.heap ∧ va_K (dC, dI) vwCl [] U ∧ nzA U)) (va_Qi (fun (r : Int32) (u : Unit) => gi r 0 1) (fun _ _ => True) (fun _ => False)) 0 0 (fun _ => False) := by
  refine Met.ofW (cc := cX6_isBlank) (maxL := 1) (ret := (some .boolean)) (by decide) rfl ?_
  intro p e s m args below meth c s₁ B hml hv
  obtain ⟨rfl, hP, hK, hz⟩ := hv
  have hx := B.exec
  have hb := B.bytes
  have hr := B.returns
  have hts := atoms_spec (ws := (.code yX6_isBlank cX6_isBlank 1 (some .boolean) :: wsGA)) B.pre
  have hown : s.vm.findClass RX6 = some m.cls := findClass_of_methodNamed B.named
  have hlocks := B.notSynchronized
  have hS : va_S (fun _ => False) s.heap s.heap [] := va_S.rf
  have hl := lv_entry ([.int p0]) (n := 1) (Nat.le_of_ble_eq_true rfl)
  rw [lg_entry_eq]
  generalize (lg_sl ([.int p0]) ++ List.replicate (1 - (lg_sl ([.int p0])).length) Slot.unset).toArray = ls at hl ⊢
  have hl : lv_has ls 1 [(0, .int p0)] := hl
  refine lv_iload_n hx hb dX6_isBlank_0 rfl (lv_at hl 0 rfl) ?_
  refine lv_bipush (v := 32) hx hb dX6_isBlank_1 (by decide) ?_
  refine lv_icmp_eq (tgt := 12) hx hb dX6_isBlank_3 (by decide) (fun c_5 => ?_) (fun c_5 => ?_)
  · have g_6 : gi p0 32 32 := gi_eq c_5 (gi_c 32 32 (by decide))
    refine lv_iconst (v := 1) hx hb dX6_isBlank_12 (by decide) ?_
    refine lv_goto (tgt := 17) hx hb dX6_isBlank_13 (by decide) ?_
    exact W.zret (v := 1) hx hb hr (by decide) (fun t ht hW => ⟨⟨1, (), rfl, (gi_w (gi_c 1 1 (by decide)) (by decide)), trivial⟩, hS.F ht⟩) hS.2.2 dX6_isBlank_17
  · refine lv_iload_n hx hb dX6_isBlank_6 rfl (lv_at hl 0 rfl) ?_
    refine lv_bipush (v := 10) hx hb dX6_isBlank_7 (by decide) ?_
    refine lv_icmp_ne (tgt := 16) hx hb dX6_isBlank_9 (by decide) (fun c_7 => ?_) (fun c_7 => ?_)
    · refine lv_iconst (v := 0) hx hb dX6_isBlank_16 (by decide) ?_
      exact W.zret (v := 0) hx hb hr (by decide) (fun t ht hW => ⟨⟨0, (), rfl, (gi_w (gi_c 0 0 (by decide)) (by decide)), trivial⟩, hS.F ht⟩) hS.2.2 dX6_isBlank_17
    · have g_8 : gi p0 10 10 := gi_eq c_7 (gi_c 10 10 (by decide))
      refine lv_iconst (v := 1) hx hb dX6_isBlank_12 (by decide) ?_
      refine lv_goto (tgt := 17) hx hb dX6_isBlank_13 (by decide) ?_
      exact W.zret (v := 1) hx hb hr (by decide) (fun t ht hW => ⟨⟨1, (), rfl, (gi_w (gi_c 1 1 (by decide)) (by decide)), trivial⟩, hS.F ht⟩) hS.2.2 dX6_isBlank_17
