theorem dX11_dayOf_0 : decode cX11_dayOf 0 = .ok (.bipush 29, 2) := by decide +kernel
theorem dX11_dayOf_2 : decode cX11_dayOf 2 = .ok (.iload_n 0, 1) := by decide +kernel
theorem dX11_dayOf_3 : decode cX11_dayOf 3 = .ok (.imul, 1) := by decide +kernel
theorem dX11_dayOf_4 : decode cX11_dayOf 4 = .ok (.iload_n 1, 1) := by decide +kernel
theorem dX11_dayOf_5 : decode cX11_dayOf 5 = .ok (.iadd, 1) := by decide +kernel
theorem dX11_dayOf_6 : decode cX11_dayOf 6 = .ok (.ireturn, 1) := by decide +kernel
set_option maxHeartbeats 4000000 in
set_option maxRecDepth 100000 in
theorem sX11_dayOf (l : Launch) (dC : Nat → ClassId) (dI : Nat → Nat → Nat) (p0 : Int32) (p1 : Int32)  : Met l yX11_dayOf (.code yX11_dayOf cX11_dayOf 2 (some .int) :: wsGA) ({ frames := 0, cells := 0, slots := 0, locals := 0 }) (va_Pc [.int p0, .int p1] (fun U => va_P (dC, dI) vwCl [] U.heap ∧ va_K (dC, dI) vwCl [] U ∧ nzA U)) (va_Qi (fun (r : Int32) (u : Unit) => gi r (-2147483648) 2147483647) (fun _ _ => True) (fun _ => False)) 0 0 (fun _ => False) := by
  refine Met.ofW (cc := cX11_dayOf) (maxL := 2) (ret := (some .int)) (by decide) rfl ?_
  intro p e s m args below meth c s₁ B hml hv
  obtain ⟨rfl, hP, hK, hz⟩ := hv
  have hx := B.exec
  have hb := B.bytes
  have hr := B.returns
  have hts := atoms_spec (ws := (.code yX11_dayOf cX11_dayOf 2 (some .int) :: wsGA)) B.pre
  have hown : s.vm.findClass RX11 = some m.cls := findClass_of_methodNamed B.named
  have hlocks := B.notSynchronized
  have hS : va_S (fun _ => False) s.heap s.heap [] := va_S.rf
  have hl := lv_entry ([.int p0, .int p1]) (n := 2) (Nat.le_of_ble_eq_true rfl)
  rw [lg_entry_eq]
  generalize (lg_sl ([.int p0, .int p1]) ++ List.replicate (2 - (lg_sl ([.int p0, .int p1])).length) Slot.unset).toArray = ls at hl ⊢
  have hl : lv_has ls 2 [(0, .int p0), (1, .int p1)] := hl
  refine lv_bipush (v := 29) hx hb dX11_dayOf_0 (by decide) ?_
  refine lv_iload_n hx hb dX11_dayOf_2 rfl (lv_at hl 0 rfl) ?_
  refine lv_imul hx hb dX11_dayOf_3 ?_
  refine lv_topi (fun x_3 ex_3 => ?_)
  refine lv_iload_n hx hb dX11_dayOf_4 rfl (lv_at hl 1 rfl) ?_
  refine lv_iadd hx hb dX11_dayOf_5 ?_
  refine lv_topi (fun x_4 ex_4 => ?_)
  exact W.iret (v := x_4) hx hb hr (fun t ht hW => ⟨⟨x_4, (), rfl, (gi_any x_4), trivial⟩, hS.F ht⟩) hS.2.2 dX11_dayOf_6
theorem dX11_anchorOf_0 : decode cX11_anchorOf 0 = .ok (.iload_n 1, 1) := by decide +kernel
theorem dX11_anchorOf_1 : decode cX11_anchorOf 1 = .ok (.bipush 30, 2) := by decide +kernel
theorem dX11_anchorOf_3 : decode cX11_anchorOf 3 = .ok (.if_icmp .ne 9, 3) := by decide +kernel
theorem dX11_anchorOf_6 : decode cX11_anchorOf 6 = .ok (.iload_n 0, 1) := by decide +kernel
theorem dX11_anchorOf_7 : decode cX11_anchorOf 7 = .ok (.iconst 1, 1) := by decide +kernel
theorem dX11_anchorOf_8 : decode cX11_anchorOf 8 = .ok (.iadd, 1) := by decide +kernel
theorem dX11_anchorOf_9 : decode cX11_anchorOf 9 = .ok (.goto 4, 3) := by decide +kernel
theorem dX11_anchorOf_12 : decode cX11_anchorOf 12 = .ok (.iload_n 0, 1) := by decide +kernel
theorem dX11_anchorOf_13 : decode cX11_anchorOf 13 = .ok (.ireturn, 1) := by decide +kernel
set_option maxHeartbeats 4000000 in
set_option maxRecDepth 100000 in
theorem sX11_anchorOf (l : Launch) (dC : Nat → ClassId) (dI : Nat → Nat → Nat) (p0 : Int32) (p1 : Int32) (gp0 : gi p0 0 23) : Met l yX11_anchorOf (.code yX11_anchorOf cX11_anchorOf 2 (some .int) :: wsGA) ({ frames := 0, cells := 0, slots := 0, locals := 0 }) (va_Pc [.int p0, .int p1] (fun U => va_P (dC, dI) vwCl [] U.heap ∧ va_K (dC, dI) vwCl [] U ∧ nzA U)) (va_Qi (fun (r : Int32) (u : Unit) => gi r 0 24) (fun _ _ => True) (fun _ => False)) 0 0 (fun _ => False) := by
  refine Met.ofW (cc := cX11_anchorOf) (maxL := 2) (ret := (some .int)) (by decide) rfl ?_
  intro p e s m args below meth c s₁ B hml hv
  obtain ⟨rfl, hP, hK, hz⟩ := hv
  have hx := B.exec
  have hb := B.bytes
  have hr := B.returns
  have hts := atoms_spec (ws := (.code yX11_anchorOf cX11_anchorOf 2 (some .int) :: wsGA)) B.pre
  have hown : s.vm.findClass RX11 = some m.cls := findClass_of_methodNamed B.named
  have hlocks := B.notSynchronized
  have hS : va_S (fun _ => False) s.heap s.heap [] := va_S.rf
  have hl := lv_entry ([.int p0, .int p1]) (n := 2) (Nat.le_of_ble_eq_true rfl)
  rw [lg_entry_eq]
  generalize (lg_sl ([.int p0, .int p1]) ++ List.replicate (2 - (lg_sl ([.int p0, .int p1])).length) Slot.unset).toArray = ls at hl ⊢
  have hl : lv_has ls 2 [(0, .int p0), (1, .int p1)] := hl
  refine lv_iload_n hx hb dX11_anchorOf_0 rfl (lv_at hl 1 rfl) ?_
  refine lv_bipush (v := 30) hx hb dX11_anchorOf_1 (by decide) ?_
  refine lv_icmp_ne (tgt := 12) hx hb dX11_anchorOf_3 (by decide) (fun c_4 => ?_) (fun c_4 => ?_)
  · refine lv_iload_n hx hb dX11_anchorOf_12 rfl (lv_at hl 0 rfl) ?_
    exact W.iret (v := p0) hx hb hr (fun t ht hW => ⟨⟨p0, (), rfl, (gi_w gp0 (by decide)), trivial⟩, hS.F ht⟩) hS.2.2 dX11_anchorOf_13
  · have g_5 : gi p1 30 30 := gi_eq c_4 (gi_c 30 30 (by decide))
    refine lv_iload_n hx hb dX11_anchorOf_6 rfl (lv_at hl 0 rfl) ?_
    refine lv_iconst (v := 1) hx hb dX11_anchorOf_7 (by decide) ?_
    refine lv_iadd hx hb dX11_anchorOf_8 ?_
    refine lv_topi (fun x_6 ex_6 => ?_)
    have gx_6 : gi x_6 1 24 := gi_add ex_6 gp0 (gi_c 1 1 (by decide)) (by decide)
    refine lv_goto (tgt := 13) hx hb dX11_anchorOf_9 (by decide) ?_
    exact W.iret (v := x_6) hx hb hr (fun t ht hW => ⟨⟨x_6, (), rfl, (gi_w gx_6 (by decide)), trivial⟩, hS.F ht⟩) hS.2.2 dX11_anchorOf_13
theorem dX11_offsetOf_0 : decode cX11_offsetOf 0 = .ok (.iload_n 0, 1) := by decide +kernel
theorem dX11_offsetOf_1 : decode cX11_offsetOf 1 = .ok (.bipush 30, 2) := by decide +kernel
theorem dX11_offsetOf_3 : decode cX11_offsetOf 3 = .ok (.if_icmp .ne 7, 3) := by decide +kernel
theorem dX11_offsetOf_6 : decode cX11_offsetOf 6 = .ok (.iconst (-1), 1) := by decide +kernel
theorem dX11_offsetOf_7 : decode cX11_offsetOf 7 = .ok (.goto 6, 3) := by decide +kernel
theorem dX11_offsetOf_10 : decode cX11_offsetOf 10 = .ok (.iload_n 0, 1) := by decide +kernel
theorem dX11_offsetOf_11 : decode cX11_offsetOf 11 = .ok (.iconst 1, 1) := by decide +kernel
theorem dX11_offsetOf_12 : decode cX11_offsetOf 12 = .ok (.isub, 1) := by decide +kernel
theorem dX11_offsetOf_13 : decode cX11_offsetOf 13 = .ok (.ireturn, 1) := by decide +kernel
set_option maxHeartbeats 4000000 in
set_option maxRecDepth 100000 in
theorem sX11_offsetOf (l : Launch) (dC : Nat → ClassId) (dI : Nat → Nat → Nat) (p0 : Int32)  : Met l yX11_offsetOf (.code yX11_offsetOf cX11_offsetOf 1 (some .int) :: wsGA) ({ frames := 0, cells := 0, slots := 0, locals := 0 }) (va_Pc [.int p0] (fun U => va_P (dC, dI) vwCl [] U.heap ∧ va_K (dC, dI) vwCl [] U ∧ nzA U)) (va_Qi (fun (r : Int32) (u : Unit) => gi r (-2147483648) 2147483647) (fun _ _ => True) (fun _ => False)) 0 0 (fun _ => False) := by
  refine Met.ofW (cc := cX11_offsetOf) (maxL := 1) (ret := (some .int)) (by decide) rfl ?_
  intro p e s m args below meth c s₁ B hml hv
  obtain ⟨rfl, hP, hK, hz⟩ := hv
  have hx := B.exec
  have hb := B.bytes
  have hr := B.returns
  have hts := atoms_spec (ws := (.code yX11_offsetOf cX11_offsetOf 1 (some .int) :: wsGA)) B.pre
  have hown : s.vm.findClass RX11 = some m.cls := findClass_of_methodNamed B.named
  have hlocks := B.notSynchronized
  have hS : va_S (fun _ => False) s.heap s.heap [] := va_S.rf
  have hl := lv_entry ([.int p0]) (n := 1) (Nat.le_of_ble_eq_true rfl)
  rw [lg_entry_eq]
  generalize (lg_sl ([.int p0]) ++ List.replicate (1 - (lg_sl ([.int p0])).length) Slot.unset).toArray = ls at hl ⊢
  have hl : lv_has ls 1 [(0, .int p0)] := hl
  refine lv_iload_n hx hb dX11_offsetOf_0 rfl (lv_at hl 0 rfl) ?_
  refine lv_bipush (v := 30) hx hb dX11_offsetOf_1 (by decide) ?_
  refine lv_icmp_ne (tgt := 10) hx hb dX11_offsetOf_3 (by decide) (fun c_4 => ?_) (fun c_4 => ?_)
  · refine lv_iload_n hx hb dX11_offsetOf_10 rfl (lv_at hl 0 rfl) ?_
    refine lv_iconst (v := 1) hx hb dX11_offsetOf_11 (by decide) ?_
    refine lv_isub hx hb dX11_offsetOf_12 ?_
    refine lv_topi (fun x_5 ex_5 => ?_)
    exact W.iret (v := x_5) hx hb hr (fun t ht hW => ⟨⟨x_5, (), rfl, (gi_any x_5), trivial⟩, hS.F ht⟩) hS.2.2 dX11_offsetOf_13
  · have g_6 : gi p0 30 30 := gi_eq c_4 (gi_c 30 30 (by decide))
    refine lv_iconst (v := (-1)) hx hb dX11_offsetOf_6 (by decide) ?_
    refine lv_goto (tgt := 13) hx hb dX11_offsetOf_7 (by decide) ?_
    exact W.iret (v := (-1)) hx hb hr (fun t ht hW => ⟨⟨(-1), (), rfl, (gi_any (-1)), trivial⟩, hS.F ht⟩) hS.2.2 dX11_offsetOf_13
theorem dX11_runWithFull_0 : decode cX11_runWithFull 0 = .ok (.iload_n 0, 1) := by decide +kernel
theorem dX11_runWithFull_1 : decode cX11_runWithFull 1 = .ok (.ifCond .eq 8, 3) := by decide +kernel
theorem dX11_runWithFull_4 : decode cX11_runWithFull 4 = .ok (.iload_n 0, 1) := by decide +kernel
theorem dX11_runWithFull_5 : decode cX11_runWithFull 5 = .ok (.iload_n 1, 1) := by decide +kernel
theorem dX11_runWithFull_6 : decode cX11_runWithFull 6 = .ok (.if_icmp .le 5, 3) := by decide +kernel
theorem dX11_runWithFull_9 : decode cX11_runWithFull 9 = .ok (.iconst 1, 1) := by decide +kernel
theorem dX11_runWithFull_10 : decode cX11_runWithFull 10 = .ok (.ireturn, 1) := by decide +kernel
theorem dX11_runWithFull_11 : decode cX11_runWithFull 11 = .ok (.iload_n 0, 1) := by decide +kernel
theorem dX11_runWithFull_12 : decode cX11_runWithFull 12 = .ok (.iload_n 1, 1) := by decide +kernel
theorem dX11_runWithFull_13 : decode cX11_runWithFull 13 = .ok (.if_icmp .ge 9, 3) := by decide +kernel
theorem dX11_runWithFull_16 : decode cX11_runWithFull 16 = .ok (.iload_n 0, 1) := by decide +kernel
theorem dX11_runWithFull_17 : decode cX11_runWithFull 17 = .ok (.iconst 1, 1) := by decide +kernel
theorem dX11_runWithFull_18 : decode cX11_runWithFull 18 = .ok (.iadd, 1) := by decide +kernel
theorem dX11_runWithFull_19 : decode cX11_runWithFull 19 = .ok (.goto 4, 3) := by decide +kernel
theorem dX11_runWithFull_22 : decode cX11_runWithFull 22 = .ok (.iconst 0, 1) := by decide +kernel
theorem dX11_runWithFull_23 : decode cX11_runWithFull 23 = .ok (.ireturn, 1) := by decide +kernel
set_option maxHeartbeats 4000000 in
set_option maxRecDepth 100000 in
theorem sX11_runWithFull (l : Launch) (dC : Nat → ClassId) (dI : Nat → Nat → Nat) (p0 : Int32) (p1 : Int32) (gp0 : gi p0 0 10) (gp1 : gi p1 0 5) : Met l yX11_runWithFull (.code yX11_runWithFull cX11_runWithFull 2 (some .int) :: wsGA) ({ frames := 0, cells := 0, slots := 0, locals := 0 }) (va_Pc [.int p0, .int p1] (fun U => va_P (dC, dI) vwCl [] U.heap ∧ va_K (dC, dI) vwCl [] U ∧ nzA U)) (va_Qi (fun (r : Int32) (u : Unit) => gi r 0 5) (fun _ _ => True) (fun _ => False)) 0 0 (fun _ => False) := by
  refine Met.ofW (cc := cX11_runWithFull) (maxL := 2) (ret := (some .int)) (by decide) rfl ?_
  intro p e s m args below meth c s₁ B hml hv
  obtain ⟨rfl, hP, hK, hz⟩ := hv
  have hx := B.exec
  have hb := B.bytes
  have hr := B.returns
  have hts := atoms_spec (ws := (.code yX11_runWithFull cX11_runWithFull 2 (some .int) :: wsGA)) B.pre
  have hown : s.vm.findClass RX11 = some m.cls := findClass_of_methodNamed B.named
  have hlocks := B.notSynchronized
  have hS : va_S (fun _ => False) s.heap s.heap [] := va_S.rf
  have hl := lv_entry ([.int p0, .int p1]) (n := 2) (Nat.le_of_ble_eq_true rfl)
  rw [lg_entry_eq]
  generalize (lg_sl ([.int p0, .int p1]) ++ List.replicate (2 - (lg_sl ([.int p0, .int p1])).length) Slot.unset).toArray = ls at hl ⊢
  have hl : lv_has ls 2 [(0, .int p0), (1, .int p1)] := hl
  refine lv_iload_n hx hb dX11_runWithFull_0 rfl (lv_at hl 0 rfl) ?_
  refine lv_if_eq (tgt := 9) hx hb dX11_runWithFull_1 (by decide) (fun c_11 => ?_) (fun c_11 => ?_)
  · have g_12 : gi p0 0 0 := gi_eq c_11 (gi_c 0 0 (by decide))
    refine lv_iconst (v := 1) hx hb dX11_runWithFull_9 (by decide) ?_
    exact W.iret (v := 1) hx hb hr (fun t ht hW => ⟨⟨1, (), rfl, (gi_w (gi_c 1 1 (by decide)) (by decide)), trivial⟩, hS.F ht⟩) hS.2.2 dX11_runWithFull_10
  · have g_13 : gi p0 1 10 := gi_ne_lo c_11 gp0 (gi_c 0 0 (by decide)) (by decide)
    refine lv_iload_n hx hb dX11_runWithFull_4 rfl (lv_at hl 0 rfl) ?_
    refine lv_iload_n hx hb dX11_runWithFull_5 rfl (lv_at hl 1 rfl) ?_
    refine lv_icmp_le (tgt := 11) hx hb dX11_runWithFull_6 (by decide) (fun c_14 => ?_) (fun c_14 => ?_)
    · have g_15 : gi p0 1 5 := gi_le_l c_14 g_13 gp1
      have g_16 : gi p1 1 5 := gi_le_r c_14 g_13 gp1
      refine lv_iload_n hx hb dX11_runWithFull_11 rfl (lv_at hl 0 rfl) ?_
      refine lv_iload_n hx hb dX11_runWithFull_12 rfl (lv_at hl 1 rfl) ?_
      refine lv_icmp_ge (tgt := 22) hx hb dX11_runWithFull_13 (by decide) (fun c_17 => ?_) (fun c_17 => ?_)
      · refine lv_iconst (v := 0) hx hb dX11_runWithFull_22 (by decide) ?_
        exact W.iret (v := 0) hx hb hr (fun t ht hW => ⟨⟨0, (), rfl, (gi_w (gi_c 0 0 (by decide)) (by decide)), trivial⟩, hS.F ht⟩) hS.2.2 dX11_runWithFull_23
      · have g_18 : gi p0 1 4 := gi_lt_l (Int32.not_le.mp c_17) g_15 g_16 (by decide)
        have g_19 : gi p1 2 5 := gi_lt_r (Int32.not_le.mp c_17) g_15 g_16 (by decide)
        refine lv_iload_n hx hb dX11_runWithFull_16 rfl (lv_at hl 0 rfl) ?_
        refine lv_iconst (v := 1) hx hb dX11_runWithFull_17 (by decide) ?_
        refine lv_iadd hx hb dX11_runWithFull_18 ?_
        refine lv_topi (fun x_20 ex_20 => ?_)
        have gx_20 : gi x_20 2 5 := gi_add ex_20 g_18 (gi_c 1 1 (by decide)) (by decide)
        refine lv_goto (tgt := 23) hx hb dX11_runWithFull_19 (by decide) ?_
        exact W.iret (v := x_20) hx hb hr (fun t ht hW => ⟨⟨x_20, (), rfl, (gi_w gx_20 (by decide)), trivial⟩, hS.F ht⟩) hS.2.2 dX11_runWithFull_23
    · refine lv_iconst (v := 1) hx hb dX11_runWithFull_9 (by decide) ?_
      exact W.iret (v := 1) hx hb hr (fun t ht hW => ⟨⟨1, (), rfl, (gi_w (gi_c 1 1 (by decide)) (by decide)), trivial⟩, hS.F ht⟩) hS.2.2 dX11_runWithFull_10
theorem dX11_runWithLean_0 : decode cX11_runWithLean 0 = .ok (.iload_n 0, 1) := by decide +kernel
theorem dX11_runWithLean_1 : decode cX11_runWithLean 1 = .ok (.iload_n 1, 1) := by decide +kernel
theorem dX11_runWithLean_2 : decode cX11_runWithLean 2 = .ok (.if_icmp .gt 7, 3) := by decide +kernel
theorem dX11_runWithLean_5 : decode cX11_runWithLean 5 = .ok (.iload_n 1, 1) := by decide +kernel
theorem dX11_runWithLean_6 : decode cX11_runWithLean 6 = .ok (.iconst 1, 1) := by decide +kernel
theorem dX11_runWithLean_7 : decode cX11_runWithLean 7 = .ok (.iadd, 1) := by decide +kernel
theorem dX11_runWithLean_8 : decode cX11_runWithLean 8 = .ok (.ireturn, 1) := by decide +kernel
theorem dX11_runWithLean_9 : decode cX11_runWithLean 9 = .ok (.iload_n 0, 1) := by decide +kernel
theorem dX11_runWithLean_10 : decode cX11_runWithLean 10 = .ok (.iload_n 1, 1) := by decide +kernel
theorem dX11_runWithLean_11 : decode cX11_runWithLean 11 = .ok (.iload_n 2, 1) := by decide +kernel
theorem dX11_runWithLean_12 : decode cX11_runWithLean 12 = .ok (.iadd, 1) := by decide +kernel
theorem dX11_runWithLean_13 : decode cX11_runWithLean 13 = .ok (.if_icmp .ge 9, 3) := by decide +kernel
theorem dX11_runWithLean_16 : decode cX11_runWithLean 16 = .ok (.iload_n 0, 1) := by decide +kernel
theorem dX11_runWithLean_17 : decode cX11_runWithLean 17 = .ok (.iconst 1, 1) := by decide +kernel
theorem dX11_runWithLean_18 : decode cX11_runWithLean 18 = .ok (.iadd, 1) := by decide +kernel
theorem dX11_runWithLean_19 : decode cX11_runWithLean 19 = .ok (.goto 4, 3) := by decide +kernel
theorem dX11_runWithLean_22 : decode cX11_runWithLean 22 = .ok (.iconst 0, 1) := by decide +kernel
theorem dX11_runWithLean_23 : decode cX11_runWithLean 23 = .ok (.ireturn, 1) := by decide +kernel
set_option maxHeartbeats 4000000 in
set_option maxRecDepth 100000 in
theorem sX11_runWithLean (l : Launch) (dC : Nat → ClassId) (dI : Nat → Nat → Nat) (p0 : Int32) (p1 : Int32) (p2 : Int32) (gp0 : gi p0 0 10) (gp1 : gi p1 0 5) (gp2 : gi p2 0 5) : Met l yX11_runWithLean (.code yX11_runWithLean cX11_runWithLean 3 (some .int) :: wsGA) ({ frames := 0, cells := 0, slots := 0, locals := 0 }) (va_Pc [.int p0, .int p1, .int p2] (fun U => va_P (dC, dI) vwCl [] U.heap ∧ va_K (dC, dI) vwCl [] U ∧ nzA U)) (va_Qi (fun (r : Int32) (u : Unit) => gi r 0 10) (fun _ _ => True) (fun _ => False)) 0 0 (fun _ => False) := by
  refine Met.ofW (cc := cX11_runWithLean) (maxL := 3) (ret := (some .int)) (by decide) rfl ?_
  intro p e s m args below meth c s₁ B hml hv
  obtain ⟨rfl, hP, hK, hz⟩ := hv
  have hx := B.exec
  have hb := B.bytes
  have hr := B.returns
  have hts := atoms_spec (ws := (.code yX11_runWithLean cX11_runWithLean 3 (some .int) :: wsGA)) B.pre
  have hown : s.vm.findClass RX11 = some m.cls := findClass_of_methodNamed B.named
  have hlocks := B.notSynchronized
  have hS : va_S (fun _ => False) s.heap s.heap [] := va_S.rf
  have hl := lv_entry ([.int p0, .int p1, .int p2]) (n := 3) (Nat.le_of_ble_eq_true rfl)
  rw [lg_entry_eq]
  generalize (lg_sl ([.int p0, .int p1, .int p2]) ++ List.replicate (3 - (lg_sl ([.int p0, .int p1, .int p2])).length) Slot.unset).toArray = ls at hl ⊢
  have hl : lv_has ls 3 [(0, .int p0), (1, .int p1), (2, .int p2)] := hl
  refine lv_iload_n hx hb dX11_runWithLean_0 rfl (lv_at hl 0 rfl) ?_
  refine lv_iload_n hx hb dX11_runWithLean_1 rfl (lv_at hl 1 rfl) ?_
  refine lv_icmp_gt (tgt := 9) hx hb dX11_runWithLean_2 (by decide) (fun c_10 => ?_) (fun c_10 => ?_)
  · have g_11 : gi p0 1 10 := gi_lt_r c_10 gp1 gp0 (by decide)
    refine lv_iload_n hx hb dX11_runWithLean_9 rfl (lv_at hl 0 rfl) ?_
    refine lv_iload_n hx hb dX11_runWithLean_10 rfl (lv_at hl 1 rfl) ?_
    refine lv_iload_n hx hb dX11_runWithLean_11 rfl (lv_at hl 2 rfl) ?_
    refine lv_iadd hx hb dX11_runWithLean_12 ?_
    refine lv_topi (fun x_12 ex_12 => ?_)
    have gx_12 : gi x_12 0 10 := gi_add ex_12 gp1 gp2 (by decide)
    refine lv_icmp_ge (tgt := 22) hx hb dX11_runWithLean_13 (by decide) (fun c_13 => ?_) (fun c_13 => ?_)
    · refine lv_iconst (v := 0) hx hb dX11_runWithLean_22 (by decide) ?_
      exact W.iret (v := 0) hx hb hr (fun t ht hW => ⟨⟨0, (), rfl, (gi_w (gi_c 0 0 (by decide)) (by decide)), trivial⟩, hS.F ht⟩) hS.2.2 dX11_runWithLean_23
    · have g_14 : gi p0 1 9 := gi_lt_l (Int32.not_le.mp c_13) g_11 gx_12 (by decide)
      have g_15 : gi x_12 2 10 := gi_lt_r (Int32.not_le.mp c_13) g_11 gx_12 (by decide)
      refine lv_iload_n hx hb dX11_runWithLean_16 rfl (lv_at hl 0 rfl) ?_
      refine lv_iconst (v := 1) hx hb dX11_runWithLean_17 (by decide) ?_
      refine lv_iadd hx hb dX11_runWithLean_18 ?_
      refine lv_topi (fun x_16 ex_16 => ?_)
      have gx_16 : gi x_16 2 10 := gi_add ex_16 g_14 (gi_c 1 1 (by decide)) (by decide)
      refine lv_goto (tgt := 23) hx hb dX11_runWithLean_19 (by decide) ?_
      exact W.iret (v := x_16) hx hb hr (fun t ht hW => ⟨⟨x_16, (), rfl, (gi_w gx_16 (by decide)), trivial⟩, hS.F ht⟩) hS.2.2 dX11_runWithLean_23
  · have g_17 : gi p0 0 5 := gi_le_l (Int32.not_lt.mp c_10) gp0 gp1
    refine lv_iload_n hx hb dX11_runWithLean_5 rfl (lv_at hl 1 rfl) ?_
    refine lv_iconst (v := 1) hx hb dX11_runWithLean_6 (by decide) ?_
    refine lv_iadd hx hb dX11_runWithLean_7 ?_
    refine lv_topi (fun x_18 ex_18 => ?_)
    have gx_18 : gi x_18 1 6 := gi_add ex_18 gp1 (gi_c 1 1 (by decide)) (by decide)
    exact W.iret (v := x_18) hx hb hr (fun t ht hW => ⟨⟨x_18, (), rfl, (gi_w gx_18 (by decide)), trivial⟩, hS.F ht⟩) hS.2.2 dX11_runWithLean_8
theorem dX11_firstRun_0 : decode cX11_firstRun 0 = .ok (.iload_n 0, 1) := by decide +kernel
theorem dX11_firstRun_1 : decode cX11_firstRun 1 = .ok (.ifCond .ne 7, 3) := by decide +kernel
theorem dX11_firstRun_4 : decode cX11_firstRun 4 = .ok (.iconst 0, 1) := by decide +kernel
theorem dX11_firstRun_5 : decode cX11_firstRun 5 = .ok (.goto 4, 3) := by decide +kernel
theorem dX11_firstRun_8 : decode cX11_firstRun 8 = .ok (.iconst 1, 1) := by decide +kernel
theorem dX11_firstRun_9 : decode cX11_firstRun 9 = .ok (.ireturn, 1) := by decide +kernel
set_option maxHeartbeats 4000000 in
set_option maxRecDepth 100000 in
theorem sX11_firstRun (l : Launch) (dC : Nat → ClassId) (dI : Nat → Nat → Nat) (p0 : Int32) (gp0 : gi p0 0 24) : Met l yX11_firstRun (.code yX11_firstRun cX11_firstRun 1 (some .int) :: wsGA) ({ frames := 0, cells := 0, slots := 0, locals := 0 }) (va_Pc [.int p0] (fun U => va_P (dC, dI) vwCl [] U.heap ∧ va_K (dC, dI) vwCl [] U ∧ nzA U)) (va_Qi (fun (r : Int32) (u : Unit) => gi r 0 1) (fun _ _ => True) (fun _ => False)) 0 0 (fun _ => False) := by
  refine Met.ofW (cc := cX11_firstRun) (maxL := 1) (ret := (some .int)) (by decide) rfl ?_
  intro p e s m args below meth c s₁ B hml hv
  obtain ⟨rfl, hP, hK, hz⟩ := hv
  have hx := B.exec
  have hb := B.bytes
  have hr := B.returns
  have hts := atoms_spec (ws := (.code yX11_firstRun cX11_firstRun 1 (some .int) :: wsGA)) B.pre
  have hown : s.vm.findClass RX11 = some m.cls := findClass_of_methodNamed B.named
  have hlocks := B.notSynchronized
  have hS : va_S (fun _ => False) s.heap s.heap [] := va_S.rf
  have hl := lv_entry ([.int p0]) (n := 1) (Nat.le_of_ble_eq_true rfl)
  rw [lg_entry_eq]
  generalize (lg_sl ([.int p0]) ++ List.replicate (1 - (lg_sl ([.int p0])).length) Slot.unset).toArray = ls at hl ⊢
  have hl : lv_has ls 1 [(0, .int p0)] := hl
  refine lv_iload_n hx hb dX11_firstRun_0 rfl (lv_at hl 0 rfl) ?_
  refine lv_if_ne (tgt := 8) hx hb dX11_firstRun_1 (by decide) (fun c_4 => ?_) (fun c_4 => ?_)
  · have g_5 : gi p0 1 24 := gi_ne_lo c_4 gp0 (gi_c 0 0 (by decide)) (by decide)
    refine lv_iconst (v := 1) hx hb dX11_firstRun_8 (by decide) ?_
    exact W.iret (v := 1) hx hb hr (fun t ht hW => ⟨⟨1, (), rfl, (gi_w (gi_c 1 1 (by decide)) (by decide)), trivial⟩, hS.F ht⟩) hS.2.2 dX11_firstRun_9
  · have g_6 : gi p0 0 0 := gi_eq c_4 (gi_c 0 0 (by decide))
    refine lv_iconst (v := 0) hx hb dX11_firstRun_4 (by decide) ?_
    refine lv_goto (tgt := 9) hx hb dX11_firstRun_5 (by decide) ?_
    exact W.iret (v := 0) hx hb hr (fun t ht hW => ⟨⟨0, (), rfl, (gi_w (gi_c 0 0 (by decide)) (by decide)), trivial⟩, hS.F ht⟩) hS.2.2 dX11_firstRun_9
theorem dX11_lastRun_0 : decode cX11_lastRun 0 = .ok (.iload_n 0, 1) := by decide +kernel
theorem dX11_lastRun_1 : decode cX11_lastRun 1 = .ok (.ifCond .ne 7, 3) := by decide +kernel
theorem dX11_lastRun_4 : decode cX11_lastRun 4 = .ok (.iconst 0, 1) := by decide +kernel
theorem dX11_lastRun_5 : decode cX11_lastRun 5 = .ok (.goto 6, 3) := by decide +kernel
theorem dX11_lastRun_8 : decode cX11_lastRun 8 = .ok (.iload_n 1, 1) := by decide +kernel
theorem dX11_lastRun_9 : decode cX11_lastRun 9 = .ok (.iload_n 2, 1) := by decide +kernel
theorem dX11_lastRun_10 : decode cX11_lastRun 10 = .ok (.iadd, 1) := by decide +kernel
theorem dX11_lastRun_11 : decode cX11_lastRun 11 = .ok (.ireturn, 1) := by decide +kernel
set_option maxHeartbeats 4000000 in
set_option maxRecDepth 100000 in
theorem sX11_lastRun (l : Launch) (dC : Nat → ClassId) (dI : Nat → Nat → Nat) (p0 : Int32) (p1 : Int32) (p2 : Int32) (gp0 : gi p0 0 24) (gp1 : gi p1 0 5) (gp2 : gi p2 0 5) : Met l yX11_lastRun (.code yX11_lastRun cX11_lastRun 3 (some .int) :: wsGA) ({ frames := 0, cells := 0, slots := 0, locals := 0 }) (va_Pc [.int p0, .int p1, .int p2] (fun U => va_P (dC, dI) vwCl [] U.heap ∧ va_K (dC, dI) vwCl [] U ∧ nzA U)) (va_Qi (fun (r : Int32) (u : Unit) => gi r 0 10) (fun _ _ => True) (fun _ => False)) 0 0 (fun _ => False) := by
  refine Met.ofW (cc := cX11_lastRun) (maxL := 3) (ret := (some .int)) (by decide) rfl ?_
  intro p e s m args below meth c s₁ B hml hv
  obtain ⟨rfl, hP, hK, hz⟩ := hv
  have hx := B.exec
  have hb := B.bytes
  have hr := B.returns
  have hts := atoms_spec (ws := (.code yX11_lastRun cX11_lastRun 3 (some .int) :: wsGA)) B.pre
  have hown : s.vm.findClass RX11 = some m.cls := findClass_of_methodNamed B.named
  have hlocks := B.notSynchronized
  have hS : va_S (fun _ => False) s.heap s.heap [] := va_S.rf
  have hl := lv_entry ([.int p0, .int p1, .int p2]) (n := 3) (Nat.le_of_ble_eq_true rfl)
  rw [lg_entry_eq]
  generalize (lg_sl ([.int p0, .int p1, .int p2]) ++ List.replicate (3 - (lg_sl ([.int p0, .int p1, .int p2])).length) Slot.unset).toArray = ls at hl ⊢
  have hl : lv_has ls 3 [(0, .int p0), (1, .int p1), (2, .int p2)] := hl
  refine lv_iload_n hx hb dX11_lastRun_0 rfl (lv_at hl 0 rfl) ?_
  refine lv_if_ne (tgt := 8) hx hb dX11_lastRun_1 (by decide) (fun c_5 => ?_) (fun c_5 => ?_)
  · have g_6 : gi p0 1 24 := gi_ne_lo c_5 gp0 (gi_c 0 0 (by decide)) (by decide)
    refine lv_iload_n hx hb dX11_lastRun_8 rfl (lv_at hl 1 rfl) ?_
    refine lv_iload_n hx hb dX11_lastRun_9 rfl (lv_at hl 2 rfl) ?_
    refine lv_iadd hx hb dX11_lastRun_10 ?_
    refine lv_topi (fun x_7 ex_7 => ?_)
    have gx_7 : gi x_7 0 10 := gi_add ex_7 gp1 gp2 (by decide)
    exact W.iret (v := x_7) hx hb hr (fun t ht hW => ⟨⟨x_7, (), rfl, gx_7, trivial⟩, hS.F ht⟩) hS.2.2 dX11_lastRun_11
  · have g_8 : gi p0 0 0 := gi_eq c_5 (gi_c 0 0 (by decide))
    refine lv_iconst (v := 0) hx hb dX11_lastRun_4 (by decide) ?_
    refine lv_goto (tgt := 11) hx hb dX11_lastRun_5 (by decide) ?_
    exact W.iret (v := 0) hx hb hr (fun t ht hW => ⟨⟨0, (), rfl, (gi_w (gi_c 0 0 (by decide)) (by decide)), trivial⟩, hS.F ht⟩) hS.2.2 dX11_lastRun_11
theorem dX11_cell_0 : decode cX11_cell 0 = .ok (.iload_n 0, 1) := by decide +kernel
theorem dX11_cell_1 : decode cX11_cell 1 = .ok (.iload_n 0, 1) := by decide +kernel
theorem dX11_cell_2 : decode cX11_cell 2 = .ok (.iconst 1, 1) := by decide +kernel
theorem dX11_cell_3 : decode cX11_cell 3 = .ok (.iadd, 1) := by decide +kernel
theorem dX11_cell_4 : decode cX11_cell 4 = .ok (.imul, 1) := by decide +kernel
theorem dX11_cell_5 : decode cX11_cell 5 = .ok (.iconst 2, 1) := by decide +kernel
theorem dX11_cell_6 : decode cX11_cell 6 = .ok (.idiv, 1) := by decide +kernel
theorem dX11_cell_7 : decode cX11_cell 7 = .ok (.iload_n 1, 1) := by decide +kernel
theorem dX11_cell_8 : decode cX11_cell 8 = .ok (.iadd, 1) := by decide +kernel
theorem dX11_cell_9 : decode cX11_cell 9 = .ok (.ireturn, 1) := by decide +kernel
set_option maxHeartbeats 4000000 in
set_option maxRecDepth 100000 in
theorem sX11_cell0 (l : Launch) (dC : Nat → ClassId) (dI : Nat → Nat → Nat) (p0 : Int32) (p1 : Int32) (gp0 : gi p0 0 24) (gp1 : gi p1 0 0) : Met l yX11_cell (.code yX11_cell cX11_cell 2 (some .int) :: wsGA) ({ frames := 0, cells := 0, slots := 0, locals := 0 }) (va_Pc [.int p0, .int p1] (fun U => va_P (dC, dI) vwCl [] U.heap ∧ va_K (dC, dI) vwCl [] U ∧ nzA U)) (va_Qi (fun (r : Int32) (u : Unit) => gi r 0 300) (fun _ _ => True) (fun _ => False)) 0 0 (fun _ => False) := by
  refine Met.ofW (cc := cX11_cell) (maxL := 2) (ret := (some .int)) (by decide) rfl ?_
  intro p e s m args below meth c s₁ B hml hv
  obtain ⟨rfl, hP, hK, hz⟩ := hv
  have hx := B.exec
  have hb := B.bytes
  have hr := B.returns
  have hts := atoms_spec (ws := (.code yX11_cell cX11_cell 2 (some .int) :: wsGA)) B.pre
  have hown : s.vm.findClass RX11 = some m.cls := findClass_of_methodNamed B.named
  have hlocks := B.notSynchronized
  have hS : va_S (fun _ => False) s.heap s.heap [] := va_S.rf
  have hl := lv_entry ([.int p0, .int p1]) (n := 2) (Nat.le_of_ble_eq_true rfl)
  rw [lg_entry_eq]
  generalize (lg_sl ([.int p0, .int p1]) ++ List.replicate (2 - (lg_sl ([.int p0, .int p1])).length) Slot.unset).toArray = ls at hl ⊢
  have hl : lv_has ls 2 [(0, .int p0), (1, .int p1)] := hl
  refine lv_iload_n hx hb dX11_cell_0 rfl (lv_at hl 0 rfl) ?_
  refine lv_iload_n hx hb dX11_cell_1 rfl (lv_at hl 0 rfl) ?_
  refine lv_iconst (v := 1) hx hb dX11_cell_2 (by decide) ?_
  refine lv_iadd hx hb dX11_cell_3 ?_
  refine lv_topi (fun x_5 ex_5 => ?_)
  have gx_5 : gi x_5 1 25 := gi_add ex_5 gp0 (gi_c 1 1 (by decide)) (by decide)
  refine lv_imul hx hb dX11_cell_4 ?_
  refine lv_topi (fun x_6 ex_6 => ?_)
  have gx_6 : gi x_6 0 600 := gi_mul ex_6 gp0 gx_5 (by decide)
  refine lv_iconst (v := 2) hx hb dX11_cell_5 (by decide) ?_
  refine lv_idiv hx hb dX11_cell_6 (by decide) ?_
  refine lv_topi (fun x_7 ex_7 => ?_)
  have gx_7 : gi x_7 0 300 := gi_div ex_7 gx_6 (gi_c 2 2 (by decide)) (by decide)
  refine lv_iload_n hx hb dX11_cell_7 rfl (lv_at hl 1 rfl) ?_
  refine lv_iadd hx hb dX11_cell_8 ?_
  refine lv_topi (fun x_8 ex_8 => ?_)
  have gx_8 : gi x_8 0 300 := gi_add ex_8 gx_7 gp1 (by decide)
  exact W.iret (v := x_8) hx hb hr (fun t ht hW => ⟨⟨x_8, (), rfl, gx_8, trivial⟩, hS.F ht⟩) hS.2.2 dX11_cell_9
set_option maxHeartbeats 4000000 in
set_option maxRecDepth 100000 in
theorem sX11_cell (l : Launch) (dC : Nat → ClassId) (dI : Nat → Nat → Nat) (p0 : Int32) (p1 : Int32) (gp0 : gi p0 0 24) (gp1 : gi p1 0 24) : Met l yX11_cell (.code yX11_cell cX11_cell 2 (some .int) :: wsGA) ({ frames := 0, cells := 0, slots := 0, locals := 0 }) (va_Pc [.int p0, .int p1] (fun U => va_P (dC, dI) vwCl [] U.heap ∧ va_K (dC, dI) vwCl [] U ∧ nzA U)) (va_Qi (fun (r : Int32) (u : Unit) => gi r 0 324) (fun _ _ => True) (fun _ => False)) 0 0 (fun _ => False) := by
  refine Met.ofW (cc := cX11_cell) (maxL := 2) (ret := (some .int)) (by decide) rfl ?_
  intro p e s m args below meth c s₁ B hml hv
  obtain ⟨rfl, hP, hK, hz⟩ := hv
  have hx := B.exec
  have hb := B.bytes
  have hr := B.returns
  have hts := atoms_spec (ws := (.code yX11_cell cX11_cell 2 (some .int) :: wsGA)) B.pre
  have hown : s.vm.findClass RX11 = some m.cls := findClass_of_methodNamed B.named
  have hlocks := B.notSynchronized
  have hS : va_S (fun _ => False) s.heap s.heap [] := va_S.rf
  have hl := lv_entry ([.int p0, .int p1]) (n := 2) (Nat.le_of_ble_eq_true rfl)
  rw [lg_entry_eq]
  generalize (lg_sl ([.int p0, .int p1]) ++ List.replicate (2 - (lg_sl ([.int p0, .int p1])).length) Slot.unset).toArray = ls at hl ⊢
  have hl : lv_has ls 2 [(0, .int p0), (1, .int p1)] := hl
  refine lv_iload_n hx hb dX11_cell_0 rfl (lv_at hl 0 rfl) ?_
  refine lv_iload_n hx hb dX11_cell_1 rfl (lv_at hl 0 rfl) ?_
  refine lv_iconst (v := 1) hx hb dX11_cell_2 (by decide) ?_
  refine lv_iadd hx hb dX11_cell_3 ?_
  refine lv_topi (fun x_5 ex_5 => ?_)
  have gx_5 : gi x_5 1 25 := gi_add ex_5 gp0 (gi_c 1 1 (by decide)) (by decide)
  refine lv_imul hx hb dX11_cell_4 ?_
  refine lv_topi (fun x_6 ex_6 => ?_)
  have gx_6 : gi x_6 0 600 := gi_mul ex_6 gp0 gx_5 (by decide)
  refine lv_iconst (v := 2) hx hb dX11_cell_5 (by decide) ?_
  refine lv_idiv hx hb dX11_cell_6 (by decide) ?_
  refine lv_topi (fun x_7 ex_7 => ?_)
  have gx_7 : gi x_7 0 300 := gi_div ex_7 gx_6 (gi_c 2 2 (by decide)) (by decide)
  refine lv_iload_n hx hb dX11_cell_7 rfl (lv_at hl 1 rfl) ?_
  refine lv_iadd hx hb dX11_cell_8 ?_
  refine lv_topi (fun x_8 ex_8 => ?_)
  have gx_8 : gi x_8 0 324 := gi_add ex_8 gx_7 gp1 (by decide)
  exact W.iret (v := x_8) hx hb hr (fun t ht hW => ⟨⟨x_8, (), rfl, gx_8, trivial⟩, hS.F ht⟩) hS.2.2 dX11_cell_9
theorem dX11_spot_0 : decode cX11_spot 0 = .ok (.iload_n 0, 1) := by decide +kernel
theorem dX11_spot_1 : decode cX11_spot 1 = .ok (.iload_n 1, 1) := by decide +kernel
theorem dX11_spot_2 : decode cX11_spot 2 = .ok (.invokestatic 425, 3) := by decide +kernel
theorem dX11_spot_5 : decode cX11_spot 5 = .ok (.bipush 11, 2) := by decide +kernel
theorem dX11_spot_7 : decode cX11_spot 7 = .ok (.imul, 1) := by decide +kernel
theorem dX11_spot_8 : decode cX11_spot 8 = .ok (.iload_n 2, 1) := by decide +kernel
theorem dX11_spot_9 : decode cX11_spot 9 = .ok (.iadd, 1) := by decide +kernel
theorem dX11_spot_10 : decode cX11_spot 10 = .ok (.ireturn, 1) := by decide +kernel
set_option maxHeartbeats 4000000 in
set_option maxRecDepth 100000 in
theorem sX11_spot00 (l : Launch) (dC : Nat → ClassId) (dI : Nat → Nat → Nat) (p0 : Int32) (p1 : Int32) (p2 : Int32) (gp0 : gi p0 0 24) (gp1 : gi p1 0 0) (gp2 : gi p2 0 0) : Met l yX11_spot (.code yX11_spot cX11_spot 3 (some .int) :: wsGA) ({ frames := 1, cells := 0, slots := 0, locals := 21 }) (va_Pc [.int p0, .int p1, .int p2] (fun U => va_P (dC, dI) vwCl [] U.heap ∧ va_K (dC, dI) vwCl [] U ∧ nzA U)) (va_Qi (fun (r : Int32) (u : Unit) => gi r 0 3300) (fun _ _ => True) (fun _ => False)) 0 0 (fun _ => False) := by
  refine Met.ofW (cc := cX11_spot) (maxL := 3) (ret := (some .int)) (by decide) rfl ?_
  intro p e s m args below meth c s₁ B hml hv
  obtain ⟨rfl, hP, hK, hz⟩ := hv
  have hx := B.exec
  have hb := B.bytes
  have hr := B.returns
  have hts := atoms_spec (ws := (.code yX11_spot cX11_spot 3 (some .int) :: wsGA)) B.pre
  have hown : s.vm.findClass RX11 = some m.cls := findClass_of_methodNamed B.named
  have hlocks := B.notSynchronized
  have hS : va_S (fun _ => False) s.heap s.heap [] := va_S.rf
  have hl := lv_entry ([.int p0, .int p1, .int p2]) (n := 3) (Nat.le_of_ble_eq_true rfl)
  rw [lg_entry_eq]
  generalize (lg_sl ([.int p0, .int p1, .int p2]) ++ List.replicate (3 - (lg_sl ([.int p0, .int p1, .int p2])).length) Slot.unset).toArray = ls at hl ⊢
  have hl : lv_has ls 3 [(0, .int p0), (1, .int p1), (2, .int p2)] := hl
  refine lv_iload_n hx hb dX11_spot_0 rfl (lv_at hl 0 rfl) ?_
  refine lv_iload_n hx hb dX11_spot_1 rfl (lv_at hl 1 rfl) ?_
  have hPc := hP.sub (ws' := []) [] rfl
  have hKc := hK.sub (tys' := []) [] rfl
  refine va_calli (va_runS (As := [.int p0, .int p1]) (rest := []) ⟨hx, hb, hml, hown, hts⟩ (sX11_cell0 l dC dI p0 p1 gp0 gp1) (cwS 2 hts (gz_gS mGA_583 mGA_584 mGA_1 mGA_585 goodGA) rfl rfl rfl (by decide +kernel) ⟨Nat.le_of_ble_eq_true rfl, Nat.le_of_ble_eq_true rfl⟩) ⟨fun a U g mk q => by obtain ⟨q0, qP, qK, qZ⟩ := q; exact ⟨q0, qP, va_K.moved (u := U) (U := U.calling g mk a) (Vm.Alike.refl U.vm) qK, nzA_same (u := U) (U := U.calling g mk a) rfl qZ⟩, fun U hU hW => ⟨rfl, by rw [hU]; exact hPc, va_K.moved hW.alike hKc, nzA_warm hW hz⟩⟩ rfl rfl hl.1 rfl (lv_room (Nat.le_of_ble_eq_true rfl)) dX11_spot_2 ⟨Nat.zero_le _, Nat.zero_le _⟩) hS (fun q _ h => h.elim) (fun q h => h.elim) (fun r_4 u t H1 locs ht hvm hw hB hz1 hk1 hS => ?_)
  have hP := gz_keep hP hk1
  generalize H1 = H at hP hS ⊢
  have gr_4 : gi r_4 0 300 := hw
  refine lv_bipush (v := 11) hx hb dX11_spot_5 (by decide) ?_
  refine lv_imul hx hb dX11_spot_7 ?_
  refine lv_topi (fun x_5 ex_5 => ?_)
  have gx_5 : gi x_5 0 3300 := gi_mul ex_5 gr_4 (gi_c 11 11 (by decide)) (by decide)
  refine lv_iload_n hx hb dX11_spot_8 rfl (lv_at hl 2 rfl) ?_
  refine lv_iadd hx hb dX11_spot_9 ?_
  refine lv_topi (fun x_6 ex_6 => ?_)
  have gx_6 : gi x_6 0 3300 := gi_add ex_6 gx_5 gp2 (by decide)
  exact W.iret (v := x_6) hx hb hr (fun t ht hW => ⟨⟨x_6, (), rfl, gx_6, trivial⟩, hS.F ht⟩) hS.2.2 dX11_spot_10
set_option maxHeartbeats 4000000 in
set_option maxRecDepth 100000 in
theorem sX11_spot0 (l : Launch) (dC : Nat → ClassId) (dI : Nat → Nat → Nat) (p0 : Int32) (p1 : Int32) (p2 : Int32) (gp0 : gi p0 0 24) (gp1 : gi p1 0 24) (gp2 : gi p2 0 0) : Met l yX11_spot (.code yX11_spot cX11_spot 3 (some .int) :: wsGA) ({ frames := 1, cells := 0, slots := 0, locals := 21 }) (va_Pc [.int p0, .int p1, .int p2] (fun U => va_P (dC, dI) vwCl [] U.heap ∧ va_K (dC, dI) vwCl [] U ∧ nzA U)) (va_Qi (fun (r : Int32) (u : Unit) => gi r 0 3564) (fun _ _ => True) (fun _ => False)) 0 0 (fun _ => False) := by
  refine Met.ofW (cc := cX11_spot) (maxL := 3) (ret := (some .int)) (by decide) rfl ?_
  intro p e s m args below meth c s₁ B hml hv
  obtain ⟨rfl, hP, hK, hz⟩ := hv
  have hx := B.exec
  have hb := B.bytes
  have hr := B.returns
  have hts := atoms_spec (ws := (.code yX11_spot cX11_spot 3 (some .int) :: wsGA)) B.pre
  have hown : s.vm.findClass RX11 = some m.cls := findClass_of_methodNamed B.named
  have hlocks := B.notSynchronized
  have hS : va_S (fun _ => False) s.heap s.heap [] := va_S.rf
  have hl := lv_entry ([.int p0, .int p1, .int p2]) (n := 3) (Nat.le_of_ble_eq_true rfl)
  rw [lg_entry_eq]
  generalize (lg_sl ([.int p0, .int p1, .int p2]) ++ List.replicate (3 - (lg_sl ([.int p0, .int p1, .int p2])).length) Slot.unset).toArray = ls at hl ⊢
  have hl : lv_has ls 3 [(0, .int p0), (1, .int p1), (2, .int p2)] := hl
  refine lv_iload_n hx hb dX11_spot_0 rfl (lv_at hl 0 rfl) ?_
  refine lv_iload_n hx hb dX11_spot_1 rfl (lv_at hl 1 rfl) ?_
  have hPc := hP.sub (ws' := []) [] rfl
  have hKc := hK.sub (tys' := []) [] rfl
  refine va_calli (va_runS (As := [.int p0, .int p1]) (rest := []) ⟨hx, hb, hml, hown, hts⟩ (sX11_cell l dC dI p0 p1 gp0 gp1) (cwS 2 hts (gz_gS mGA_583 mGA_584 mGA_1 mGA_585 goodGA) rfl rfl rfl (by decide +kernel) ⟨Nat.le_of_ble_eq_true rfl, Nat.le_of_ble_eq_true rfl⟩) ⟨fun a U g mk q => by obtain ⟨q0, qP, qK, qZ⟩ := q; exact ⟨q0, qP, va_K.moved (u := U) (U := U.calling g mk a) (Vm.Alike.refl U.vm) qK, nzA_same (u := U) (U := U.calling g mk a) rfl qZ⟩, fun U hU hW => ⟨rfl, by rw [hU]; exact hPc, va_K.moved hW.alike hKc, nzA_warm hW hz⟩⟩ rfl rfl hl.1 rfl (lv_room (Nat.le_of_ble_eq_true rfl)) dX11_spot_2 ⟨Nat.zero_le _, Nat.zero_le _⟩) hS (fun q _ h => h.elim) (fun q h => h.elim) (fun r_4 u t H1 locs ht hvm hw hB hz1 hk1 hS => ?_)
  have hP := gz_keep hP hk1
  generalize H1 = H at hP hS ⊢
  have gr_4 : gi r_4 0 324 := hw
  refine lv_bipush (v := 11) hx hb dX11_spot_5 (by decide) ?_
  refine lv_imul hx hb dX11_spot_7 ?_
  refine lv_topi (fun x_5 ex_5 => ?_)
  have gx_5 : gi x_5 0 3564 := gi_mul ex_5 gr_4 (gi_c 11 11 (by decide)) (by decide)
  refine lv_iload_n hx hb dX11_spot_8 rfl (lv_at hl 2 rfl) ?_
  refine lv_iadd hx hb dX11_spot_9 ?_
  refine lv_topi (fun x_6 ex_6 => ?_)
  have gx_6 : gi x_6 0 3564 := gi_add ex_6 gx_5 gp2 (by decide)
  exact W.iret (v := x_6) hx hb hr (fun t ht hW => ⟨⟨x_6, (), rfl, gx_6, trivial⟩, hS.F ht⟩) hS.2.2 dX11_spot_10
set_option maxHeartbeats 4000000 in
set_option maxRecDepth 100000 in
theorem sX11_spot (l : Launch) (dC : Nat → ClassId) (dI : Nat → Nat → Nat) (p0 : Int32) (p1 : Int32) (p2 : Int32) (gp0 : gi p0 0 24) (gp1 : gi p1 0 24) (gp2 : gi p2 0 10) : Met l yX11_spot (.code yX11_spot cX11_spot 3 (some .int) :: wsGA) ({ frames := 1, cells := 0, slots := 0, locals := 21 }) (va_Pc [.int p0, .int p1, .int p2] (fun U => va_P (dC, dI) vwCl [] U.heap ∧ va_K (dC, dI) vwCl [] U ∧ nzA U)) (va_Qi (fun (r : Int32) (u : Unit) => gi r 0 3574) (fun _ _ => True) (fun _ => False)) 0 0 (fun _ => False) := by
  refine Met.ofW (cc := cX11_spot) (maxL := 3) (ret := (some .int)) (by decide) rfl ?_
  intro p e s m args below meth c s₁ B hml hv
  obtain ⟨rfl, hP, hK, hz⟩ := hv
  have hx := B.exec
  have hb := B.bytes
  have hr := B.returns
  have hts := atoms_spec (ws := (.code yX11_spot cX11_spot 3 (some .int) :: wsGA)) B.pre
  have hown : s.vm.findClass RX11 = some m.cls := findClass_of_methodNamed B.named
  have hlocks := B.notSynchronized
  have hS : va_S (fun _ => False) s.heap s.heap [] := va_S.rf
  have hl := lv_entry ([.int p0, .int p1, .int p2]) (n := 3) (Nat.le_of_ble_eq_true rfl)
  rw [lg_entry_eq]
  generalize (lg_sl ([.int p0, .int p1, .int p2]) ++ List.replicate (3 - (lg_sl ([.int p0, .int p1, .int p2])).length) Slot.unset).toArray = ls at hl ⊢
  have hl : lv_has ls 3 [(0, .int p0), (1, .int p1), (2, .int p2)] := hl
  refine lv_iload_n hx hb dX11_spot_0 rfl (lv_at hl 0 rfl) ?_
  refine lv_iload_n hx hb dX11_spot_1 rfl (lv_at hl 1 rfl) ?_
  have hPc := hP.sub (ws' := []) [] rfl
  have hKc := hK.sub (tys' := []) [] rfl
  refine va_calli (va_runS (As := [.int p0, .int p1]) (rest := []) ⟨hx, hb, hml, hown, hts⟩ (sX11_cell l dC dI p0 p1 gp0 gp1) (cwS 2 hts (gz_gS mGA_583 mGA_584 mGA_1 mGA_585 goodGA) rfl rfl rfl (by decide +kernel) ⟨Nat.le_of_ble_eq_true rfl, Nat.le_of_ble_eq_true rfl⟩) ⟨fun a U g mk q => by obtain ⟨q0, qP, qK, qZ⟩ := q; exact ⟨q0, qP, va_K.moved (u := U) (U := U.calling g mk a) (Vm.Alike.refl U.vm) qK, nzA_same (u := U) (U := U.calling g mk a) rfl qZ⟩, fun U hU hW => ⟨rfl, by rw [hU]; exact hPc, va_K.moved hW.alike hKc, nzA_warm hW hz⟩⟩ rfl rfl hl.1 rfl (lv_room (Nat.le_of_ble_eq_true rfl)) dX11_spot_2 ⟨Nat.zero_le _, Nat.zero_le _⟩) hS (fun q _ h => h.elim) (fun q h => h.elim) (fun r_4 u t H1 locs ht hvm hw hB hz1 hk1 hS => ?_)
  have hP := gz_keep hP hk1
  generalize H1 = H at hP hS ⊢
  have gr_4 : gi r_4 0 324 := hw
  refine lv_bipush (v := 11) hx hb dX11_spot_5 (by decide) ?_
  refine lv_imul hx hb dX11_spot_7 ?_
  refine lv_topi (fun x_5 ex_5 => ?_)
  have gx_5 : gi x_5 0 3564 := gi_mul ex_5 gr_4 (gi_c 11 11 (by decide)) (by decide)
  refine lv_iload_n hx hb dX11_spot_8 rfl (lv_at hl 2 rfl) ?_
  refine lv_iadd hx hb dX11_spot_9 ?_
  refine lv_topi (fun x_6 ex_6 => ?_)
  have gx_6 : gi x_6 0 3574 := gi_add ex_6 gx_5 gp2 (by decide)
  exact W.iret (v := x_6) hx hb hr (fun t ht hW => ⟨⟨x_6, (), rfl, gx_6, trivial⟩, hS.F ht⟩) hS.2.2 dX11_spot_10
theorem dX11_isEither_0 : decode cX11_isEither 0 = .ok (.iload_n 0, 1) := by decide +kernel
theorem dX11_isEither_1 : decode cX11_isEither 1 = .ok (.ifCond .eq 8, 3) := by decide +kernel
theorem dX11_isEither_4 : decode cX11_isEither 4 = .ok (.iload_n 0, 1) := by decide +kernel
theorem dX11_isEither_5 : decode cX11_isEither 5 = .ok (.iconst 1, 1) := by decide +kernel
theorem dX11_isEither_6 : decode cX11_isEither 6 = .ok (.if_icmp .ne 7, 3) := by decide +kernel
theorem dX11_isEither_9 : decode cX11_isEither 9 = .ok (.iconst 1, 1) := by decide +kernel
theorem dX11_isEither_10 : decode cX11_isEither 10 = .ok (.goto 4, 3) := by decide +kernel
theorem dX11_isEither_13 : decode cX11_isEither 13 = .ok (.iconst 0, 1) := by decide +kernel
theorem dX11_isEither_14 : decode cX11_isEither 14 = .ok (.ireturn, 1) := by decide +kernel
set_option maxHeartbeats 4000000 in
set_option maxRecDepth 100000 in
theorem sX11_isEither (l : Launch) (dC : Nat → ClassId) (dI : Nat → Nat → Nat) (p0 : Int32)  : Met l yX11_isEither (.code yX11_isEither cX11_isEither 1 (some .boolean) :: wsGA) ({ frames := 0, cells := 0, slots := 0, locals := 0 }) (va_Pc [.int p0] (fun U => va_P (dC, dI) vwCl [] U.heap ∧ va_K (dC, dI) vwCl [] U ∧ nzA U)) (va_Qi (fun (r : Int32) (u : Unit) => gi r 0 1) (fun _ _ => True) (fun _ => False)) 0 0 (fun _ => False) := by
  refine Met.ofW (cc := cX11_isEither) (maxL := 1) (ret := (some .boolean)) (by decide) rfl ?_
  intro p e s m args below meth c s₁ B hml hv
  obtain ⟨rfl, hP, hK, hz⟩ := hv
  have hx := B.exec
  have hb := B.bytes
  have hr := B.returns
  have hts := atoms_spec (ws := (.code yX11_isEither cX11_isEither 1 (some .boolean) :: wsGA)) B.pre
  have hown : s.vm.findClass RX11 = some m.cls := findClass_of_methodNamed B.named
  have hlocks := B.notSynchronized
  have hS : va_S (fun _ => False) s.heap s.heap [] := va_S.rf
  have hl := lv_entry ([.int p0]) (n := 1) (Nat.le_of_ble_eq_true rfl)
  rw [lg_entry_eq]
  generalize (lg_sl ([.int p0]) ++ List.replicate (1 - (lg_sl ([.int p0])).length) Slot.unset).toArray = ls at hl ⊢
  have hl : lv_has ls 1 [(0, .int p0)] := hl
  refine lv_iload_n hx hb dX11_isEither_0 rfl (lv_at hl 0 rfl) ?_
  refine lv_if_eq (tgt := 9) hx hb dX11_isEither_1 (by decide) (fun c_5 => ?_) (fun c_5 => ?_)
  · have g_6 : gi p0 0 0 := gi_eq c_5 (gi_c 0 0 (by decide))
    refine lv_iconst (v := 1) hx hb dX11_isEither_9 (by decide) ?_
    refine lv_goto (tgt := 14) hx hb dX11_isEither_10 (by decide) ?_
    exact W.zret (v := 1) hx hb hr (by decide) (fun t ht hW => ⟨⟨1, (), rfl, (gi_w (gi_c 1 1 (by decide)) (by decide)), trivial⟩, hS.F ht⟩) hS.2.2 dX11_isEither_14
  · refine lv_iload_n hx hb dX11_isEither_4 rfl (lv_at hl 0 rfl) ?_
    refine lv_iconst (v := 1) hx hb dX11_isEither_5 (by decide) ?_
    refine lv_icmp_ne (tgt := 13) hx hb dX11_isEither_6 (by decide) (fun c_7 => ?_) (fun c_7 => ?_)
    · refine lv_iconst (v := 0) hx hb dX11_isEither_13 (by decide) ?_
      exact W.zret (v := 0) hx hb hr (by decide) (fun t ht hW => ⟨⟨0, (), rfl, (gi_w (gi_c 0 0 (by decide)) (by decide)), trivial⟩, hS.F ht⟩) hS.2.2 dX11_isEither_14
    · have g_8 : gi p0 1 1 := gi_eq c_7 (gi_c 1 1 (by decide))
      refine lv_iconst (v := 1) hx hb dX11_isEither_9 (by decide) ?_
      refine lv_goto (tgt := 14) hx hb dX11_isEither_10 (by decide) ?_
      exact W.zret (v := 1) hx hb hr (by decide) (fun t ht hW => ⟨⟨1, (), rfl, (gi_w (gi_c 1 1 (by decide)) (by decide)), trivial⟩, hS.F ht⟩) hS.2.2 dX11_isEither_14
theorem dX6_isLetter_0 : decode cX6_isLetter 0 = .ok (.iload_n 0, 1) := by decide +kernel
theorem dX6_isLetter_1 : decode cX6_isLetter 1 = .ok (.bipush 97, 2) := by decide +kernel
theorem dX6_isLetter_3 : decode cX6_isLetter 3 = .ok (.if_icmp .lt 13, 3) := by decide +kernel
theorem dX6_isLetter_6 : decode cX6_isLetter 6 = .ok (.iload_n 0, 1) := by decide +kernel
theorem dX6_isLetter_7 : decode cX6_isLetter 7 = .ok (.bipush 122, 2) := by decide +kernel
theorem dX6_isLetter_9 : decode cX6_isLetter 9 = .ok (.if_icmp .gt 7, 3) := by decide +kernel
theorem dX6_isLetter_12 : decode cX6_isLetter 12 = .ok (.iconst 1, 1) := by decide +kernel
theorem dX6_isLetter_13 : decode cX6_isLetter 13 = .ok (.goto 4, 3) := by decide +kernel
theorem dX6_isLetter_16 : decode cX6_isLetter 16 = .ok (.iconst 0, 1) := by decide +kernel
theorem dX6_isLetter_17 : decode cX6_isLetter 17 = .ok (.ireturn, 1) := by decide +kernel
set_option maxHeartbeats 4000000 in
set_option maxRecDepth 100000 in
theorem sX6_isLetter (l : Launch) (dC : Nat → ClassId) (dI : Nat → Nat → Nat) (p0 : Int32)  : Met l yX6_isLetter (.code yX6_isLetter cX6_isLetter 1 (some .boolean) :: wsGA) ({ frames := 0, cells := 0, slots := 0, locals := 0 }) (va_Pc [.int p0] (fun U => va_P (dC, dI) vwCl [] U.heap ∧ va_K (dC, dI) vwCl [] U ∧ nzA U)) (va_Qi (fun (r : Int32) (u : Unit) => gi r 0 1) (fun _ _ => True) (fun _ => False)) 0 0 (fun _ => False) := by
  refine Met.ofW (cc := cX6_isLetter) (maxL := 1) (ret := (some .boolean)) (by decide) rfl ?_
  intro p e s m args below meth c s₁ B hml hv
  obtain ⟨rfl, hP, hK, hz⟩ := hv
  have hx := B.exec
  have hb := B.bytes
  have hr := B.returns
  have hts := atoms_spec (ws := (.code yX6_isLetter cX6_isLetter 1 (some .boolean) :: wsGA)) B.pre
  have hown : s.vm.findClass RX6 = some m.cls := findClass_of_methodNamed B.named
  have hlocks := B.notSynchronized
  have hS : va_S (fun _ => False) s.heap s.heap [] := va_S.rf
  have hl := lv_entry ([.int p0]) (n := 1) (Nat.le_of_ble_eq_true rfl)
  rw [lg_entry_eq]
  generalize (lg_sl ([.int p0]) ++ List.replicate (1 - (lg_sl ([.int p0])).length) Slot.unset).toArray = ls at hl ⊢
  have hl : lv_has ls 1 [(0, .int p0)] := hl
  refine lv_iload_n hx hb dX6_isLetter_0 rfl (lv_at hl 0 rfl) ?_
  refine lv_bipush (v := 97) hx hb dX6_isLetter_1 (by decide) ?_
  refine lv_icmp_lt (tgt := 16) hx hb dX6_isLetter_3 (by decide) (fun c_7 => ?_) (fun c_7 => ?_)
  · have g_8 : gi p0 (-2147483648) 96 := gi_lt_l c_7 (gi_any p0) (gi_c 97 97 (by decide)) (by decide)
    refine lv_iconst (v := 0) hx hb dX6_isLetter_16 (by decide) ?_
    exact W.zret (v := 0) hx hb hr (by decide) (fun t ht hW => ⟨⟨0, (), rfl, (gi_w (gi_c 0 0 (by decide)) (by decide)), trivial⟩, hS.F ht⟩) hS.2.2 dX6_isLetter_17
  · have g_9 : gi p0 97 2147483647 := gi_le_r (Int32.not_lt.mp c_7) (gi_c 97 97 (by decide)) (gi_any p0)
    refine lv_iload_n hx hb dX6_isLetter_6 rfl (lv_at hl 0 rfl) ?_
    refine lv_bipush (v := 122) hx hb dX6_isLetter_7 (by decide) ?_
    refine lv_icmp_gt (tgt := 16) hx hb dX6_isLetter_9 (by decide) (fun c_10 => ?_) (fun c_10 => ?_)
    · have g_11 : gi p0 123 2147483647 := gi_lt_r c_10 (gi_c 122 122 (by decide)) g_9 (by decide)
      refine lv_iconst (v := 0) hx hb dX6_isLetter_16 (by decide) ?_
      exact W.zret (v := 0) hx hb hr (by decide) (fun t ht hW => ⟨⟨0, (), rfl, (gi_w (gi_c 0 0 (by decide)) (by decide)), trivial⟩, hS.F ht⟩) hS.2.2 dX6_isLetter_17
    · have g_12 : gi p0 97 122 := gi_le_l (Int32.not_lt.mp c_10) g_9 (gi_c 122 122 (by decide))
      refine lv_iconst (v := 1) hx hb dX6_isLetter_12 (by decide) ?_
      refine lv_goto (tgt := 17) hx hb dX6_isLetter_13 (by decide) ?_
      exact W.zret (v := 1) hx hb hr (by decide) (fun t ht hW => ⟨⟨1, (), rfl, (gi_w (gi_c 1 1 (by decide)) (by decide)), trivial⟩, hS.F ht⟩) hS.2.2 dX6_isLetter_17
theorem dX6_isDigit_0 : decode cX6_isDigit 0 = .ok (.iload_n 0, 1) := by decide +kernel
theorem dX6_isDigit_1 : decode cX6_isDigit 1 = .ok (.bipush 48, 2) := by decide +kernel
theorem dX6_isDigit_3 : decode cX6_isDigit 3 = .ok (.if_icmp .lt 13, 3) := by decide +kernel
theorem dX6_isDigit_6 : decode cX6_isDigit 6 = .ok (.iload_n 0, 1) := by decide +kernel
theorem dX6_isDigit_7 : decode cX6_isDigit 7 = .ok (.bipush 57, 2) := by decide +kernel
theorem dX6_isDigit_9 : decode cX6_isDigit 9 = .ok (.if_icmp .gt 7, 3) := by decide +kernel
theorem dX6_isDigit_12 : decode cX6_isDigit 12 = .ok (.iconst 1, 1) := by decide +kernel
theorem dX6_isDigit_13 : decode cX6_isDigit 13 = .ok (.goto 4, 3) := by decide +kernel
theorem dX6_isDigit_16 : decode cX6_isDigit 16 = .ok (.iconst 0, 1) := by decide +kernel
theorem dX6_isDigit_17 : decode cX6_isDigit 17 = .ok (.ireturn, 1) := by decide +kernel
set_option maxHeartbeats 4000000 in
set_option maxRecDepth 100000 in
theorem sX6_isDigit (l : Launch) (dC : Nat → ClassId) (dI : Nat → Nat → Nat) (p0 : Int32)  : Met l yX6_isDigit (.code yX6_isDigit cX6_isDigit 1 (some .boolean) :: wsGA) ({ frames := 0, cells := 0, slots := 0, locals := 0 }) (va_Pc [.int p0] (fun U => va_P (dC, dI) vwCl [] U.heap ∧ va_K (dC, dI) vwCl [] U ∧ nzA U)) (va_Qi (fun (r : Int32) (u : Unit) => gi r 0 1) (fun _ _ => True) (fun _ => False)) 0 0 (fun _ => False) := by
  refine Met.ofW (cc := cX6_isDigit) (maxL := 1) (ret := (some .boolean)) (by decide) rfl ?_
  intro p e s m args below meth c s₁ B hml hv
  obtain ⟨rfl, hP, hK, hz⟩ := hv
  have hx := B.exec
  have hb := B.bytes
  have hr := B.returns
  have hts := atoms_spec (ws := (.code yX6_isDigit cX6_isDigit 1 (some .boolean) :: wsGA)) B.pre
  have hown : s.vm.findClass RX6 = some m.cls := findClass_of_methodNamed B.named
  have hlocks := B.notSynchronized
  have hS : va_S (fun _ => False) s.heap s.heap [] := va_S.rf
  have hl := lv_entry ([.int p0]) (n := 1) (Nat.le_of_ble_eq_true rfl)
  rw [lg_entry_eq]
  generalize (lg_sl ([.int p0]) ++ List.replicate (1 - (lg_sl ([.int p0])).length) Slot.unset).toArray = ls at hl ⊢
  have hl : lv_has ls 1 [(0, .int p0)] := hl
  refine lv_iload_n hx hb dX6_isDigit_0 rfl (lv_at hl 0 rfl) ?_
  refine lv_bipush (v := 48) hx hb dX6_isDigit_1 (by decide) ?_
  refine lv_icmp_lt (tgt := 16) hx hb dX6_isDigit_3 (by decide) (fun c_7 => ?_) (fun c_7 => ?_)
  · have g_8 : gi p0 (-2147483648) 47 := gi_lt_l c_7 (gi_any p0) (gi_c 48 48 (by decide)) (by decide)
    refine lv_iconst (v := 0) hx hb dX6_isDigit_16 (by decide) ?_
    exact W.zret (v := 0) hx hb hr (by decide) (fun t ht hW => ⟨⟨0, (), rfl, (gi_w (gi_c 0 0 (by decide)) (by decide)), trivial⟩, hS.F ht⟩) hS.2.2 dX6_isDigit_17
  · have g_9 : gi p0 48 2147483647 := gi_le_r (Int32.not_lt.mp c_7) (gi_c 48 48 (by decide)) (gi_any p0)
    refine lv_iload_n hx hb dX6_isDigit_6 rfl (lv_at hl 0 rfl) ?_
    refine lv_bipush (v := 57) hx hb dX6_isDigit_7 (by decide) ?_
    refine lv_icmp_gt (tgt := 16) hx hb dX6_isDigit_9 (by decide) (fun c_10 => ?_) (fun c_10 => ?_)
    · have g_11 : gi p0 58 2147483647 := gi_lt_r c_10 (gi_c 57 57 (by decide)) g_9 (by decide)
      refine lv_iconst (v := 0) hx hb dX6_isDigit_16 (by decide) ?_
      exact W.zret (v := 0) hx hb hr (by decide) (fun t ht hW => ⟨⟨0, (), rfl, (gi_w (gi_c 0 0 (by decide)) (by decide)), trivial⟩, hS.F ht⟩) hS.2.2 dX6_isDigit_17
    · have g_12 : gi p0 48 57 := gi_le_l (Int32.not_lt.mp c_10) g_9 (gi_c 57 57 (by decide))
      refine lv_iconst (v := 1) hx hb dX6_isDigit_12 (by decide) ?_
      refine lv_goto (tgt := 17) hx hb dX6_isDigit_13 (by decide) ?_
      exact W.zret (v := 1) hx hb hr (by decide) (fun t ht hW => ⟨⟨1, (), rfl, (gi_w (gi_c 1 1 (by decide)) (by decide)), trivial⟩, hS.F ht⟩) hS.2.2 dX6_isDigit_17
theorem dX6_isBlank_0 : decode cX6_isBlank 0 = .ok (.iload_n 0, 1) := by decide +kernel
theorem dX6_isBlank_1 : decode cX6_isBlank 1 = .ok (.bipush 32, 2) := by decide +kernel
theorem dX6_isBlank_3 : decode cX6_isBlank 3 = .ok (.if_icmp .eq 9, 3) := by decide +kernel
theorem dX6_isBlank_6 : decode cX6_isBlank 6 = .ok (.iload_n 0, 1) := by decide +kernel
theorem dX6_isBlank_7 : decode cX6_isBlank 7 = .ok (.bipush 10, 2) := by decide +kernel
theorem dX6_isBlank_9 : decode cX6_isBlank 9 = .ok (.if_icmp .ne 7, 3) := by decide +kernel
theorem dX6_isBlank_12 : decode cX6_isBlank 12 = .ok (.iconst 1, 1) := by decide +kernel
theorem dX6_isBlank_13 : decode cX6_isBlank 13 = .ok (.goto 4, 3) := by decide +kernel
theorem dX6_isBlank_16 : decode cX6_isBlank 16 = .ok (.iconst 0, 1) := by decide +kernel
theorem dX6_isBlank_17 : decode cX6_isBlank 17 = .ok (.ireturn, 1) := by decide +kernel
set_option maxHeartbeats 4000000 in
set_option maxRecDepth 100000 in
theorem sX6_isBlank (l : Launch) (dC : Nat → ClassId) (dI : Nat → Nat → Nat) (p0 : Int32)  : Met l yX6_isBlank (.code yX6_isBlank cX6_isBlank 1 (some .boolean) :: wsGA) ({ frames := 0, cells := 0, slots := 0, locals := 0 }) (va_Pc [.int p0] (fun U => va_P (dC, dI) vwCl [] U.heap ∧ va_K (dC, dI) vwCl [] U ∧ nzA U)) (va_Qi (fun (r : Int32) (u : Unit) => gi r 0 1) (fun _ _ => True) (fun _ => False)) 0 0 (fun _ => False) := by
  refine Met.ofW (cc := cX6_isBlank) (maxL := 1) (ret := (some .boolean)) (by decide) rfl ?_
  intro p e s m args below meth c s₁ B hml hv
  obtain ⟨rfl, hP, hK, hz⟩ := hv
  have hx := B.exec
  have hb := B.bytes
  have hr := B.returns
  have hts := atoms_spec (ws := (.code yX6_isBlank cX6_isBlank 1 (some .boolean) :: wsGA)) B.pre
  have hown : s.vm.findClass RX6 = some m.cls := findClass_of_methodNamed B.named
  have hlocks := B.notSynchronized
  have hS : va_S (fun _ => False) s.heap s.heap [] := va_S.rf
  have hl := lv_entry ([.int p0]) (n := 1) (Nat.le_of_ble_eq_true rfl)
  rw [lg_entry_eq]
  generalize (lg_sl ([.int p0]) ++ List.replicate (1 - (lg_sl ([.int p0])).length) Slot.unset).toArray = ls at hl ⊢
  have hl : lv_has ls 1 [(0, .int p0)] := hl
  refine lv_iload_n hx hb dX6_isBlank_0 rfl (lv_at hl 0 rfl) ?_
  refine lv_bipush (v := 32) hx hb dX6_isBlank_1 (by decide) ?_
  refine lv_icmp_eq (tgt := 12) hx hb dX6_isBlank_3 (by decide) (fun c_5 => ?_) (fun c_5 => ?_)
  · have g_6 : gi p0 32 32 := gi_eq c_5 (gi_c 32 32 (by decide))
    refine lv_iconst (v := 1) hx hb dX6_isBlank_12 (by decide) ?_
    refine lv_goto (tgt := 17) hx hb dX6_isBlank_13 (by decide) ?_
    exact W.zret (v := 1) hx hb hr (by decide) (fun t ht hW => ⟨⟨1, (), rfl, (gi_w (gi_c 1 1 (by decide)) (by decide)), trivial⟩, hS.F ht⟩) hS.2.2 dX6_isBlank_17
  · refine lv_iload_n hx hb dX6_isBlank_6 rfl (lv_at hl 0 rfl) ?_
    refine lv_bipush (v := 10) hx hb dX6_isBlank_7 (by decide) ?_
    refine lv_icmp_ne (tgt := 16) hx hb dX6_isBlank_9 (by decide) (fun c_7 => ?_) (fun c_7 => ?_)
    · refine lv_iconst (v := 0) hx hb dX6_isBlank_16 (by decide) ?_
      exact W.zret (v := 0) hx hb hr (by decide) (fun t ht hW => ⟨⟨0, (), rfl, (gi_w (gi_c 0 0 (by decide)) (by decide)), trivial⟩, hS.F ht⟩) hS.2.2 dX6_isBlank_17
    · have g_8 : gi p0 10 10 := gi_eq c_7 (gi_c 10 10 (by decide))
      refine lv_iconst (v := 1) hx hb dX6_isBlank_12 (by decide) ?_
      refine lv_goto (tgt := 17) hx hb dX6_isBlank_13 (by decide) ?_
      exact W.zret (v := 1) hx hb hr (by decide) (fun t ht hW => ⟨⟨1, (), rfl, (gi_w (gi_c 1 1 (by decide)) (by decide)), trivial⟩, hS.F ht⟩) hS.2.2 dX6_isBlank_17
theorem dX3_allows_0 : decode cX3_allows 0 = .ok (.aload_n 0, 1) := by decide +kernel
theorem dX3_allows_1 : decode cX3_allows 1 = .ok (.getfield 9, 3) := by decide +kernel
theorem dX3_allows_4 : decode cX3_allows 4 = .ok (.iload_n 1, 1) := by decide +kernel
theorem dX3_allows_5 : decode cX3_allows 5 = .ok (.iaload, 1) := by decide +kernel
theorem dX3_allows_6 : decode cX3_allows 6 = .ok (.iload_n 2, 1) := by decide +kernel
theorem dX3_allows_7 : decode cX3_allows 7 = .ok (.ishr, 1) := by decide +kernel
theorem dX3_allows_8 : decode cX3_allows 8 = .ok (.iconst 1, 1) := by decide +kernel
theorem dX3_allows_9 : decode cX3_allows 9 = .ok (.iand, 1) := by decide +kernel
theorem dX3_allows_10 : decode cX3_allows 10 = .ok (.ifCond .eq 7, 3) := by decide +kernel
theorem dX3_allows_13 : decode cX3_allows 13 = .ok (.iconst 1, 1) := by decide +kernel
theorem dX3_allows_14 : decode cX3_allows 14 = .ok (.goto 4, 3) := by decide +kernel
theorem dX3_allows_17 : decode cX3_allows 17 = .ok (.iconst 0, 1) := by decide +kernel
theorem dX3_allows_18 : decode cX3_allows 18 = .ok (.ireturn, 1) := by decide +kernel
set_option maxHeartbeats 4000000 in
set_option maxRecDepth 100000 in
theorem sX3_allows (l : Launch) (dC : Nat → ClassId) (dI : Nat → Nat → Nat) (h0 : Nat) (al : Nat) (months : Int32) (full : Int32) (lean : Int32) (on : Nat) (kal : ClassId) (fal : Nat → Int32) (p0 : Int32) (p1 : Int32) (gmonths : gi months 0 24) (gfull : gi full 0 5) (glean : gi lean 0 5) (gp0 : gi p0 0 24) : Met l yX3_allows (.code yX3_allows cX3_allows 3 (some .boolean) :: wsGA) ({ frames := 0, cells := 0, slots := 0, locals := 0 }) (va_Pc [.ref h0, .int p0, .int p1] (fun U => va_P (dC, dI) vwCl [(h0, .inr (3, [.int months, .int full, .int lean, .ref al, .ref on])), (al, .inl (kal, 25, .inl fal))] U.heap ∧ va_K (dC, dI) vwCl [(kal, .int)] U ∧ nzA U)) (va_Qi (fun (r : Int32) (u : Unit) => gi r 0 1) (fun _ _ => True) (fun _ => False)) 0 0 (fun _ => False) := by
  refine Met.ofW (cc := cX3_allows) (maxL := 3) (ret := (some .boolean)) (by decide) rfl ?_
  intro p e s m args below meth c s₁ B hml hv
  obtain ⟨rfl, hP, hK, hz⟩ := hv
  have hx := B.exec
  have hb := B.bytes
  have hr := B.returns
  have hts := atoms_spec (ws := (.code yX3_allows cX3_allows 3 (some .boolean) :: wsGA)) B.pre
  have hown : s.vm.findClass RX3 = some m.cls := findClass_of_methodNamed B.named
  have hlocks := B.notSynchronized
  have hS : va_S (fun _ => False) s.heap s.heap [] := va_S.rf
  have hl := lv_entry ([.ref h0, .int p0, .int p1]) (n := 3) (Nat.le_of_ble_eq_true rfl)
  rw [lg_entry_eq]
  generalize (lg_sl ([.ref h0, .int p0, .int p1]) ++ List.replicate (3 - (lg_sl ([.ref h0, .int p0, .int p1])).length) Slot.unset).toArray = ls at hl ⊢
  have hl : lv_has ls 3 [(0, .ref h0), (1, .int p0), (2, .int p1)] := hl
  refine lv_aload_n hx hb dX3_allows_0 rfl (lv_at hl 0 rfl) ?_
  refine va_get (D := (dC, dI)) (ci := 3) (v := .ref al) (C := RX3) (T := TX3) (N := 5) hx hb hts (fun w h => List.mem_cons_of_mem _ (jnGA_X3 w h)) hown hK hP 0 rfl rfl 3 (by decide) (hts _ (List.mem_cons_of_mem _ mGA_94)) (fun _ h9 => h9) rfl dX3_allows_1 ?_
  refine lv_iload_n hx hb dX3_allows_4 rfl (lv_at hl 1 rfl) ?_
  refine va_iald hx hb hK hP 1 0 rfl rfl (gi_in gp0 (by decide)) dX3_allows_5 ?_
  refine lv_topi (fun x_7 ex_7 => ?_)
  refine lv_iload_n hx hb dX3_allows_6 rfl (lv_at hl 2 rfl) ?_
  refine lv_ishr hx hb dX3_allows_7 ?_
  refine lv_topi (fun x_8 ex_8 => ?_)
  refine lv_iconst (v := 1) hx hb dX3_allows_8 (by decide) ?_
  refine lv_iand hx hb dX3_allows_9 ?_
  refine lv_topi (fun x_9 ex_9 => ?_)
  have gx_9 : gi x_9 0 1 := gi_and1 ex_9
  refine lv_if_eq (tgt := 17) hx hb dX3_allows_10 (by decide) (fun c_10 => ?_) (fun c_10 => ?_)
  · have g_11 : gi x_9 0 0 := gi_eq c_10 (gi_c 0 0 (by decide))
    refine lv_iconst (v := 0) hx hb dX3_allows_17 (by decide) ?_
    exact W.zret (v := 0) hx hb hr (by decide) (fun t ht hW => ⟨⟨0, (), rfl, (gi_w (gi_c 0 0 (by decide)) (by decide)), trivial⟩, hS.F ht⟩) hS.2.2 dX3_allows_18
  · have g_12 : gi x_9 1 1 := gi_ne_lo c_10 gx_9 (gi_c 0 0 (by decide)) (by decide)
    refine lv_iconst (v := 1) hx hb dX3_allows_13 (by decide) ?_
    refine lv_goto (tgt := 18) hx hb dX3_allows_14 (by decide) ?_
    exact W.zret (v := 1) hx hb hr (by decide) (fun t ht hW => ⟨⟨1, (), rfl, (gi_w (gi_c 1 1 (by decide)) (by decide)), trivial⟩, hS.F ht⟩) hS.2.2 dX3_allows_18
theorem dX3_fits_0 : decode cX3_fits 0 = .ok (.iconst 1, 1) := by decide +kernel
theorem dX3_fits_1 : decode cX3_fits 1 = .ok (.istore_n 1, 1) := by decide +kernel
theorem dX3_fits_2 : decode cX3_fits 2 = .ok (.iload_n 1, 1) := by decide +kernel
theorem dX3_fits_3 : decode cX3_fits 3 = .ok (.aload_n 0, 1) := by decide +kernel
theorem dX3_fits_4 : decode cX3_fits 4 = .ok (.getfield 28, 3) := by decide +kernel
theorem dX3_fits_7 : decode cX3_fits 7 = .ok (.aload_n 0, 1) := by decide +kernel
theorem dX3_fits_8 : decode cX3_fits 8 = .ok (.getfield 32, 3) := by decide +kernel
theorem dX3_fits_11 : decode cX3_fits 11 = .ok (.iadd, 1) := by decide +kernel
theorem dX3_fits_12 : decode cX3_fits 12 = .ok (.if_icmp .gt 32, 3) := by decide +kernel
theorem dX3_fits_15 : decode cX3_fits 15 = .ok (.aload_n 0, 1) := by decide +kernel
theorem dX3_fits_16 : decode cX3_fits 16 = .ok (.getfield 15, 3) := by decide +kernel
theorem dX3_fits_19 : decode cX3_fits 19 = .ok (.aload_n 0, 1) := by decide +kernel
theorem dX3_fits_20 : decode cX3_fits 20 = .ok (.getfield 24, 3) := by decide +kernel
theorem dX3_fits_23 : decode cX3_fits 23 = .ok (.bipush 11, 2) := by decide +kernel
theorem dX3_fits_25 : decode cX3_fits 25 = .ok (.imul, 1) := by decide +kernel
theorem dX3_fits_26 : decode cX3_fits 26 = .ok (.iload_n 1, 1) := by decide +kernel
theorem dX3_fits_27 : decode cX3_fits 27 = .ok (.iadd, 1) := by decide +kernel
theorem dX3_fits_28 : decode cX3_fits 28 = .ok (.aload_n 0, 1) := by decide +kernel
theorem dX3_fits_29 : decode cX3_fits 29 = .ok (.getfield 9, 3) := by decide +kernel
theorem dX3_fits_32 : decode cX3_fits 32 = .ok (.aload_n 0, 1) := by decide +kernel
theorem dX3_fits_33 : decode cX3_fits 33 = .ok (.getfield 24, 3) := by decide +kernel
theorem dX3_fits_36 : decode cX3_fits 36 = .ok (.iaload, 1) := by decide +kernel
theorem dX3_fits_37 : decode cX3_fits 37 = .ok (.iastore, 1) := by decide +kernel
theorem dX3_fits_38 : decode cX3_fits 38 = .ok (.iinc 1 1, 3) := by decide +kernel
theorem dX3_fits_41 : decode cX3_fits 41 = .ok (.goto (-39), 3) := by decide +kernel
theorem dX3_fits_44 : decode cX3_fits 44 = .ok (.aload_n 0, 1) := by decide +kernel
theorem dX3_fits_45 : decode cX3_fits 45 = .ok (.getfield 24, 3) := by decide +kernel
theorem dX3_fits_48 : decode cX3_fits 48 = .ok (.iconst 1, 1) := by decide +kernel
theorem dX3_fits_49 : decode cX3_fits 49 = .ok (.isub, 1) := by decide +kernel
theorem dX3_fits_50 : decode cX3_fits 50 = .ok (.istore_n 1, 1) := by decide +kernel
theorem dX3_fits_51 : decode cX3_fits 51 = .ok (.iload_n 1, 1) := by decide +kernel
theorem dX3_fits_52 : decode cX3_fits 52 = .ok (.ifCond .lt 106, 3) := by decide +kernel
theorem dX3_fits_55 : decode cX3_fits 55 = .ok (.iload_n 1, 1) := by decide +kernel
theorem dX3_fits_56 : decode cX3_fits 56 = .ok (.iconst 1, 1) := by decide +kernel
theorem dX3_fits_57 : decode cX3_fits 57 = .ok (.iadd, 1) := by decide +kernel
theorem dX3_fits_58 : decode cX3_fits 58 = .ok (.bipush 11, 2) := by decide +kernel
theorem dX3_fits_60 : decode cX3_fits 60 = .ok (.imul, 1) := by decide +kernel
theorem dX3_fits_61 : decode cX3_fits 61 = .ok (.istore_n 2, 1) := by decide +kernel
theorem dX3_fits_62 : decode cX3_fits 62 = .ok (.iload_n 1, 1) := by decide +kernel
theorem dX3_fits_63 : decode cX3_fits 63 = .ok (.invokestatic 48, 3) := by decide +kernel
theorem dX3_fits_66 : decode cX3_fits 66 = .ok (.istore_n 3, 1) := by decide +kernel
theorem dX3_fits_67 : decode cX3_fits 67 = .ok (.iload_n 3, 1) := by decide +kernel
theorem dX3_fits_68 : decode cX3_fits 68 = .ok (.iload_n 1, 1) := by decide +kernel
theorem dX3_fits_69 : decode cX3_fits 69 = .ok (.aload_n 0, 1) := by decide +kernel
theorem dX3_fits_70 : decode cX3_fits 70 = .ok (.getfield 28, 3) := by decide +kernel
theorem dX3_fits_73 : decode cX3_fits 73 = .ok (.aload_n 0, 1) := by decide +kernel
theorem dX3_fits_74 : decode cX3_fits 74 = .ok (.getfield 32, 3) := by decide +kernel
theorem dX3_fits_77 : decode cX3_fits 77 = .ok (.invokestatic 52, 3) := by decide +kernel
theorem dX3_fits_80 : decode cX3_fits 80 = .ok (.if_icmp .gt 72, 3) := by decide +kernel
theorem dX3_fits_83 : decode cX3_fits 83 = .ok (.aload_n 0, 1) := by decide +kernel
theorem dX3_fits_84 : decode cX3_fits 84 = .ok (.getfield 15, 3) := by decide +kernel
theorem dX3_fits_87 : decode cX3_fits 87 = .ok (.iload_n 2, 1) := by decide +kernel
theorem dX3_fits_88 : decode cX3_fits 88 = .ok (.iload_n 3, 1) := by decide +kernel
theorem dX3_fits_89 : decode cX3_fits 89 = .ok (.aload_n 0, 1) := by decide +kernel
theorem dX3_fits_90 : decode cX3_fits 90 = .ok (.getfield 28, 3) := by decide +kernel
theorem dX3_fits_93 : decode cX3_fits 93 = .ok (.invokestatic 56, 3) := by decide +kernel
theorem dX3_fits_96 : decode cX3_fits 96 = .ok (.iadd, 1) := by decide +kernel
theorem dX3_fits_97 : decode cX3_fits 97 = .ok (.iaload, 1) := by decide +kernel
theorem dX3_fits_98 : decode cX3_fits 98 = .ok (.iconst 1, 1) := by decide +kernel
theorem dX3_fits_99 : decode cX3_fits 99 = .ok (.ishr, 1) := by decide +kernel
theorem dX3_fits_100 : decode cX3_fits 100 = .ok (.istore 4, 2) := by decide +kernel
theorem dX3_fits_102 : decode cX3_fits 102 = .ok (.aload_n 0, 1) := by decide +kernel
theorem dX3_fits_103 : decode cX3_fits 103 = .ok (.getfield 15, 3) := by decide +kernel
theorem dX3_fits_106 : decode cX3_fits 106 = .ok (.iload_n 2, 1) := by decide +kernel
theorem dX3_fits_107 : decode cX3_fits 107 = .ok (.iload_n 3, 1) := by decide +kernel
theorem dX3_fits_108 : decode cX3_fits 108 = .ok (.aload_n 0, 1) := by decide +kernel
theorem dX3_fits_109 : decode cX3_fits 109 = .ok (.getfield 28, 3) := by decide +kernel
theorem dX3_fits_112 : decode cX3_fits 112 = .ok (.aload_n 0, 1) := by decide +kernel
theorem dX3_fits_113 : decode cX3_fits 113 = .ok (.getfield 32, 3) := by decide +kernel
theorem dX3_fits_116 : decode cX3_fits 116 = .ok (.invokestatic 60, 3) := by decide +kernel
theorem dX3_fits_119 : decode cX3_fits 119 = .ok (.iadd, 1) := by decide +kernel
theorem dX3_fits_120 : decode cX3_fits 120 = .ok (.iaload, 1) := by decide +kernel
theorem dX3_fits_121 : decode cX3_fits 121 = .ok (.istore 5, 2) := by decide +kernel
theorem dX3_fits_123 : decode cX3_fits 123 = .ok (.aload_n 0, 1) := by decide +kernel
theorem dX3_fits_124 : decode cX3_fits 124 = .ok (.getfield 15, 3) := by decide +kernel
theorem dX3_fits_127 : decode cX3_fits 127 = .ok (.iload_n 1, 1) := by decide +kernel
theorem dX3_fits_128 : decode cX3_fits 128 = .ok (.bipush 11, 2) := by decide +kernel
theorem dX3_fits_130 : decode cX3_fits 130 = .ok (.imul, 1) := by decide +kernel
theorem dX3_fits_131 : decode cX3_fits 131 = .ok (.iload_n 3, 1) := by decide +kernel
theorem dX3_fits_132 : decode cX3_fits 132 = .ok (.iadd, 1) := by decide +kernel
theorem dX3_fits_133 : decode cX3_fits 133 = .ok (.aload_n 0, 1) := by decide +kernel
theorem dX3_fits_134 : decode cX3_fits 134 = .ok (.getfield 9, 3) := by decide +kernel
theorem dX3_fits_137 : decode cX3_fits 137 = .ok (.iload_n 1, 1) := by decide +kernel
theorem dX3_fits_138 : decode cX3_fits 138 = .ok (.iaload, 1) := by decide +kernel
theorem dX3_fits_139 : decode cX3_fits 139 = .ok (.iload 4, 2) := by decide +kernel
theorem dX3_fits_141 : decode cX3_fits 141 = .ok (.iload 5, 2) := by decide +kernel
theorem dX3_fits_143 : decode cX3_fits 143 = .ok (.ior, 1) := by decide +kernel
theorem dX3_fits_144 : decode cX3_fits 144 = .ok (.iand, 1) := by decide +kernel
theorem dX3_fits_145 : decode cX3_fits 145 = .ok (.iastore, 1) := by decide +kernel
theorem dX3_fits_146 : decode cX3_fits 146 = .ok (.iinc 3 1, 3) := by decide +kernel
theorem dX3_fits_149 : decode cX3_fits 149 = .ok (.goto (-82), 3) := by decide +kernel
theorem dX3_fits_152 : decode cX3_fits 152 = .ok (.iinc 1 (-1), 3) := by decide +kernel
theorem dX3_fits_155 : decode cX3_fits 155 = .ok (.goto (-104), 3) := by decide +kernel
theorem dX3_fits_158 : decode cX3_fits 158 = .ok (.aload_n 0, 1) := by decide +kernel
theorem dX3_fits_159 : decode cX3_fits 159 = .ok (.getfield 15, 3) := by decide +kernel
theorem dX3_fits_162 : decode cX3_fits 162 = .ok (.iconst 0, 1) := by decide +kernel
theorem dX3_fits_163 : decode cX3_fits 163 = .ok (.iaload, 1) := by decide +kernel
theorem dX3_fits_164 : decode cX3_fits 164 = .ok (.iconst 1, 1) := by decide +kernel
theorem dX3_fits_165 : decode cX3_fits 165 = .ok (.iand, 1) := by decide +kernel
theorem dX3_fits_166 : decode cX3_fits 166 = .ok (.ifCond .eq 7, 3) := by decide +kernel
theorem dX3_fits_169 : decode cX3_fits 169 = .ok (.iconst 1, 1) := by decide +kernel
theorem dX3_fits_170 : decode cX3_fits 170 = .ok (.goto 4, 3) := by decide +kernel
theorem dX3_fits_173 : decode cX3_fits 173 = .ok (.iconst 0, 1) := by decide +kernel
theorem dX3_fits_174 : decode cX3_fits 174 = .ok (.ireturn, 1) := by decide +kernel
set_option maxHeartbeats 4000000 in
set_option maxRecDepth 100000 in
theorem lp_sX3_fits {p : Program} {l : Launch} {e : Env} {R : Room} {s : State} {m : MethodId} {args : Array Value} {below : List Frame} {meth : Method} {c : Code} {Q : State → Prop} {A : Nat → Prop} {cells slots : Nat} {dC : Nat → ClassId} {dI : Nat → Nat → Nat} (h0 : Nat) (al : Nat) (on : Nat) (months : Int32) (full : Int32) (lean : Int32) (kal : ClassId) (fal : Nat → Int32) (kon : ClassId) (fon : Nat → Int32) (gmonths : gi months 0 24) (gfull : gi full 0 5) (glean : gi lean 0 5) (hx : p.tables.exec = Jvm.exec) (hb : c.code = cX3_fits) (hml : c.maxLocals = 6) (hown : s.vm.findClass RX3 = some m.cls) (hts : ∀ w ∈ ((.code yX3_fits cX3_fits 6 (some .boolean) :: wsGA) : List Cond), w.before args s = true) (hK : va_K (dC, dI) vwCl [(kal, .int), (kon, .int)] s) (hz : nzA s) (hA : ∀ q : Nat, s.heap.size ≤ q → A q) (hRf : 1 ≤ R.frames) (hRl : 22 ≤ R.locals) (hRc : cells ≤ R.cells) (hRs : slots ≤ R.slots) (kr174 : ∀ (v : Int32) (z2 : Nat → Int32) (H : Heap) (locs : List Loc) (ls : Array Slot), gi v 0 1 → va_P (dC, dI) vwCl [(h0, .inr (3, [.int months, .int full, .int lean, .ref al, .ref on])), (al, .inl (kal, 25, .inl fal)), (on, .inl (kon, 275, .inl z2))] H → va_D A [(h0, .inr (3, [.int months, .int full, .int lean, .ref al, .ref on])), (al, .inl (kal, 25, .inl fal)), (on, .inl (kon, 275, .inl z2))] → va_S A s.heap H locs → lv_has ls 6 [] → W p l e R s m args below meth c H locs cells slots Q (F0 m 174 ls [.int v])) : ∀ z : Nat, (∀ (v1 : Int32) (z2 : Nat → Int32) (H : Heap) (locs : List Loc) (ls : Array Slot), gi v1 1 11 → 751 + (-2) * v1.toInt < (z : Int) → va_P (dC, dI) vwCl [(h0, .inr (3, [.int months, .int full, .int lean, .ref al, .ref on])), (al, .inl (kal, 25, .inl fal)), (on, .inl (kon, 275, .inl z2))] H → va_D A [(h0, .inr (3, [.int months, .int full, .int lean, .ref al, .ref on])), (al, .inl (kal, 25, .inl fal)), (on, .inl (kon, 275, .inl z2))] → va_S A s.heap H locs → lv_has ls 6 [(0, .ref h0), (1, .int v1)] → W p l e R s m args below meth c H locs cells slots Q (F0 m 2 ls [])) ∧ (∀ (v1 : Int32) (z2 : Nat → Int32) (H : Heap) (locs : List Loc) (ls : Array Slot), gi v1 (-1) 23 → 29 + 28 * v1.toInt < (z : Int) → va_P (dC, dI) vwCl [(h0, .inr (3, [.int months, .int full, .int lean, .ref al, .ref on])), (al, .inl (kal, 25, .inl fal)), (on, .inl (kon, 275, .inl z2))] H → va_D A [(h0, .inr (3, [.int months, .int full, .int lean, .ref al, .ref on])), (al, .inl (kal, 25, .inl fal)), (on, .inl (kon, 275, .inl z2))] → va_S A s.heap H locs → lv_has ls 6 [(0, .ref h0), (1, .int v1)] → W p l e R s m args below meth c H locs cells slots Q (F0 m 51 ls [])) ∧ (∀ (v1 : Int32) (v2 : Int32) (v3 : Int32) (z2 : Nat → Int32) (H : Heap) (locs : List Loc) (ls : Array Slot), gi v1 0 23 → gi v2 11 264 → gi v3 0 11 → 24 + 28 * v1.toInt + (-2) * v3.toInt < (z : Int) → va_P (dC, dI) vwCl [(h0, .inr (3, [.int months, .int full, .int lean, .ref al, .ref on])), (al, .inl (kal, 25, .inl fal)), (on, .inl (kon, 275, .inl z2))] H → va_D A [(h0, .inr (3, [.int months, .int full, .int lean, .ref al, .ref on])), (al, .inl (kal, 25, .inl fal)), (on, .inl (kon, 275, .inl z2))] → va_S A s.heap H locs → lv_has ls 6 [(0, .ref h0), (1, .int v1), (2, .int v2), (3, .int v3)] → W p l e R s m args below meth c H locs cells slots Q (F0 m 67 ls [])) := by
  intro z
  induction z with
  | zero =>
    refine ⟨?_, ?_, ?_⟩
    · intro v1 z2 H locs ls gv1 hmu hP hD hS hl
      exact absurd hmu (by have hv11 := gv1.1; have hv12 := gv1.2; omega)
    · intro v1 z2 H locs ls gv1 hmu hP hD hS hl
      exact absurd hmu (by have hv11 := gv1.1; have hv12 := gv1.2; omega)
    · intro v1 v2 v3 z2 H locs ls gv1 gv2 gv3 hmu hP hD hS hl
      exact absurd hmu (by have hv11 := gv1.1; have hv12 := gv1.2; have hv31 := gv3.1; have hv32 := gv3.2; omega)
  | succ z ih =>
    refine ⟨?_, ?_, ?_⟩
    · intro v1 z2 H locs ls gv1 hmu hP hD hS hl
      refine lv_iload_n hx hb dX3_fits_2 rfl (lv_at hl 1 rfl) ?_
      refine lv_aload_n hx hb dX3_fits_3 rfl (lv_at hl 0 rfl) ?_
      refine va_get (D := (dC, dI)) (ci := 3) (v := .int full) (C := RX3) (T := TX3) (N := 5) hx hb hts (fun w h => List.mem_cons_of_mem _ (jnGA_X3 w h)) hown hK hP 0 rfl rfl 1 (by decide) (hts _ (List.mem_cons_of_mem _ mGA_479)) (fun _ h9 => h9) rfl dX3_fits_4 ?_
      refine lv_aload_n hx hb dX3_fits_7 rfl (lv_at hl 0 rfl) ?_
      refine va_get (D := (dC, dI)) (ci := 3) (v := .int lean) (C := RX3) (T := TX3) (N := 5) hx hb hts (fun w h => List.mem_cons_of_mem _ (jnGA_X3 w h)) hown hK hP 0 rfl rfl 2 (by decide) (hts _ (List.mem_cons_of_mem _ mGA_481)) (fun _ h9 => h9) rfl dX3_fits_8 ?_
      refine lv_iadd hx hb dX3_fits_11 ?_
      refine lv_topi (fun x_401 ex_401 => ?_)
      have gx_401 : gi x_401 0 10 := gi_add ex_401 gfull glean (by decide)
      refine lv_icmp_gt (tgt := 44) hx hb dX3_fits_12 (by decide) (fun c_402 => ?_) (fun c_402 => ?_)
      · refine lv_aload_n hx hb dX3_fits_44 rfl (lv_at hl 0 rfl) ?_
        refine va_get (D := (dC, dI)) (ci := 3) (v := .int months) (C := RX3) (T := TX3) (N := 5) hx hb hts (fun w h => List.mem_cons_of_mem _ (jnGA_X3 w h)) hown hK hP 0 rfl rfl 0 (by decide) (hts _ (List.mem_cons_of_mem _ mGA_477)) (fun _ h9 => h9) rfl dX3_fits_45 ?_
        refine lv_iconst (v := 1) hx hb dX3_fits_48 (by decide) ?_
        refine lv_isub hx hb dX3_fits_49 ?_
        refine lv_topi (fun x_403 ex_403 => ?_)
        have gx_403 : gi x_403 (-1) 23 := gi_sub ex_403 gmonths (gi_c 1 1 (by decide)) (by decide)
        refine lv_istore_n (lv' := [(1, .int x_403), (0, .ref h0)]) hx hb dX3_fits_50 rfl hl (by decide) rfl (fun ls hl => ?_)
        exact ih.2.1 x_403 z2 _ _ _ gx_403 (by have av1 := gv1.1; have bv1 := gv1.2; have qgx_403 := gx_403.1; have rgx_403 := gx_403.2; have igx_403 : x_403.toInt = months.toInt - 1 := (by have hc1 : (1 : Int32).toInt = 1 := (by decide); have h9 := gi_subI ex_403 (by have h1 := gmonths.1; have h2 := (gi_c 1 1 (by decide)).1; have h3 := gmonths.2; have h4 := (gi_c 1 1 (by decide)).2; omega) (by have h1 := gmonths.1; have h2 := (gi_c 1 1 (by decide)).1; have h3 := gmonths.2; have h4 := (gi_c 1 1 (by decide)).2; omega); rw [hc1] at h9; exact h9); have qgmonths := gmonths.1; have rgmonths := gmonths.2; omega) hP hD hS (lv_sub hl [1, 0] rfl)
      · have g_404 : gi v1 1 10 := gi_le_l (Int32.not_lt.mp c_402) gv1 gx_401
        have g_405 : gi x_401 1 10 := gi_le_r (Int32.not_lt.mp c_402) gv1 gx_401
        refine lv_aload_n hx hb dX3_fits_15 rfl (lv_at hl 0 rfl) ?_
        refine va_get (D := (dC, dI)) (ci := 3) (v := .ref on) (C := RX3) (T := TX3) (N := 5) hx hb hts (fun w h => List.mem_cons_of_mem _ (jnGA_X3 w h)) hown hK hP 0 rfl rfl 4 (by decide) (hts _ (List.mem_cons_of_mem _ mGA_95)) (fun _ h9 => h9) rfl dX3_fits_16 ?_
        refine lv_aload_n hx hb dX3_fits_19 rfl (lv_at hl 0 rfl) ?_
        refine va_get (D := (dC, dI)) (ci := 3) (v := .int months) (C := RX3) (T := TX3) (N := 5) hx hb hts (fun w h => List.mem_cons_of_mem _ (jnGA_X3 w h)) hown hK hP 0 rfl rfl 0 (by decide) (hts _ (List.mem_cons_of_mem _ mGA_477)) (fun _ h9 => h9) rfl dX3_fits_20 ?_
        refine lv_bipush (v := 11) hx hb dX3_fits_23 (by decide) ?_
        refine lv_imul hx hb dX3_fits_25 ?_
        refine lv_topi (fun x_406 ex_406 => ?_)
        have gx_406 : gi x_406 0 264 := gi_mul ex_406 gmonths (gi_c 11 11 (by decide)) (by decide)
        refine lv_iload_n hx hb dX3_fits_26 rfl (lv_at hl 1 rfl) ?_
        refine lv_iadd hx hb dX3_fits_27 ?_
        refine lv_topi (fun x_407 ex_407 => ?_)
        have gx_407 : gi x_407 1 274 := gi_add ex_407 gx_406 g_404 (by decide)
        refine lv_aload_n hx hb dX3_fits_28 rfl (lv_at hl 0 rfl) ?_
        refine va_get (D := (dC, dI)) (ci := 3) (v := .ref al) (C := RX3) (T := TX3) (N := 5) hx hb hts (fun w h => List.mem_cons_of_mem _ (jnGA_X3 w h)) hown hK hP 0 rfl rfl 3 (by decide) (hts _ (List.mem_cons_of_mem _ mGA_94)) (fun _ h9 => h9) rfl dX3_fits_29 ?_
        refine lv_aload_n hx hb dX3_fits_32 rfl (lv_at hl 0 rfl) ?_
        refine va_get (D := (dC, dI)) (ci := 3) (v := .int months) (C := RX3) (T := TX3) (N := 5) hx hb hts (fun w h => List.mem_cons_of_mem _ (jnGA_X3 w h)) hown hK hP 0 rfl rfl 0 (by decide) (hts _ (List.mem_cons_of_mem _ mGA_477)) (fun _ h9 => h9) rfl dX3_fits_33 ?_
        refine va_iald hx hb hK hP 1 0 rfl rfl (gi_in gmonths (by decide)) dX3_fits_36 ?_
        refine lv_topi (fun x_408 ex_408 => ?_)
        refine va_iast hx hb hK hP hD hS 2 1 rfl rfl (gi_in gx_407 (by decide)) dX3_fits_37 (fun H locs hP hD hS => ?_)
        have hP : va_P (dC, dI) vwCl [(h0, .inr (3, [.int months, .int full, .int lean, .ref al, .ref on])), (al, .inl (kal, 25, .inl fal)), (on, .inl (kon, 275, .inl (upd z2 (x_407 : Int32).toNatClampNeg x_408)))] H := hP
        have hD : va_D A [(h0, .inr (3, [.int months, .int full, .int lean, .ref al, .ref on])), (al, .inl (kal, 25, .inl fal)), (on, .inl (kon, 275, .inl (upd z2 (x_407 : Int32).toNatClampNeg x_408)))] := hD
        generalize upd z2 (x_407 : Int32).toNatClampNeg x_408 = f_409 at hP hD
        obtain ⟨x_410, ex_410⟩ : ∃ y : Int32, y = v1 + 1 := ⟨_, rfl⟩
        have gx_410 : gi x_410 2 11 := gi_add ex_410 g_404 (gi_c 1 1 (by decide)) (by decide)
        refine lv_iinc (v := x_410) (lv' := [(1, .int x_410), (0, .ref h0)]) hx hb dX3_fits_38 hl (k := 1) rfl (by rw [ex_410]; rfl) (by decide) rfl (fun ls hl => ?_)
        refine lv_goto (tgt := 2) hx hb dX3_fits_41 (by decide) ?_
        exact ih.1 x_410 f_409 _ _ _ (gi_w gx_410 (by decide)) (by have av1 := gv1.1; have bv1 := gv1.2; have qgx_410 := gx_410.1; have rgx_410 := gx_410.2; have igx_410 : x_410.toInt = v1.toInt + 1 := (by have hc1 : (1 : Int32).toInt = 1 := (by decide); have h9 := gi_addI ex_410 (by have h1 := g_404.1; have h2 := (gi_c 1 1 (by decide)).1; have h3 := g_404.2; have h4 := (gi_c 1 1 (by decide)).2; omega) (by have h1 := g_404.1; have h2 := (gi_c 1 1 (by decide)).1; have h3 := g_404.2; have h4 := (gi_c 1 1 (by decide)).2; omega); rw [hc1] at h9; exact h9); have qgv1 := g_404.1; have rgv1 := g_404.2; omega) hP hD hS (lv_sub hl [1, 0] rfl)
    · intro v1 z2 H locs ls gv1 hmu hP hD hS hl
      refine lv_iload_n hx hb dX3_fits_51 rfl (lv_at hl 1 rfl) ?_
      refine lv_if_lt (tgt := 158) hx hb dX3_fits_52 (by decide) (fun c_411 => ?_) (fun c_411 => ?_)
      · have g_412 : gi v1 (-1) (-1) := gi_lt_l c_411 gv1 (gi_c 0 0 (by decide)) (by decide)
        refine lv_aload_n hx hb dX3_fits_158 rfl (lv_at hl 0 rfl) ?_
        refine va_get (D := (dC, dI)) (ci := 3) (v := .ref on) (C := RX3) (T := TX3) (N := 5) hx hb hts (fun w h => List.mem_cons_of_mem _ (jnGA_X3 w h)) hown hK hP 0 rfl rfl 4 (by decide) (hts _ (List.mem_cons_of_mem _ mGA_95)) (fun _ h9 => h9) rfl dX3_fits_159 ?_
        refine lv_iconst (v := 0) hx hb dX3_fits_162 (by decide) ?_
        refine va_iald hx hb hK hP 2 1 rfl rfl (gi_in (gi_c 0 0 (by decide)) (by decide)) dX3_fits_163 ?_
        refine lv_topi (fun x_413 ex_413 => ?_)
        refine lv_iconst (v := 1) hx hb dX3_fits_164 (by decide) ?_
        refine lv_iand hx hb dX3_fits_165 ?_
        refine lv_topi (fun x_414 ex_414 => ?_)
        have gx_414 : gi x_414 0 1 := gi_and1 ex_414
        refine lv_if_eq (tgt := 173) hx hb dX3_fits_166 (by decide) (fun c_415 => ?_) (fun c_415 => ?_)
        · have g_416 : gi x_414 0 0 := gi_eq c_415 (gi_c 0 0 (by decide))
          refine lv_iconst (v := 0) hx hb dX3_fits_173 (by decide) ?_
          exact kr174 0 z2 _ _ _ (gi_w (gi_c 0 0 (by decide)) (by decide)) hP hD hS (lv_sub hl [] rfl)
        · have g_417 : gi x_414 1 1 := gi_ne_lo c_415 gx_414 (gi_c 0 0 (by decide)) (by decide)
          refine lv_iconst (v := 1) hx hb dX3_fits_169 (by decide) ?_
          refine lv_goto (tgt := 174) hx hb dX3_fits_170 (by decide) ?_
          exact kr174 1 z2 _ _ _ (gi_w (gi_c 1 1 (by decide)) (by decide)) hP hD hS (lv_sub hl [] rfl)
      · have g_418 : gi v1 0 23 := gi_le_r (Int32.not_lt.mp c_411) (gi_c 0 0 (by decide)) gv1
        refine lv_iload_n hx hb dX3_fits_55 rfl (lv_at hl 1 rfl) ?_
        refine lv_iconst (v := 1) hx hb dX3_fits_56 (by decide) ?_
        refine lv_iadd hx hb dX3_fits_57 ?_
        refine lv_topi (fun x_419 ex_419 => ?_)
        have gx_419 : gi x_419 1 24 := gi_add ex_419 g_418 (gi_c 1 1 (by decide)) (by decide)
        refine lv_bipush (v := 11) hx hb dX3_fits_58 (by decide) ?_
        refine lv_imul hx hb dX3_fits_60 ?_
        refine lv_topi (fun x_420 ex_420 => ?_)
        have gx_420 : gi x_420 11 264 := gi_mul ex_420 gx_419 (gi_c 11 11 (by decide)) (by decide)
        refine lv_istore_n (lv' := [(2, .int x_420), (0, .ref h0), (1, .int v1)]) hx hb dX3_fits_61 rfl hl (by decide) rfl (fun ls hl => ?_)
        refine lv_iload_n hx hb dX3_fits_62 rfl (lv_at hl 2 rfl) ?_
        have hPc := hP.sub (ws' := []) [] rfl
        have hKc := hK.sub (tys' := []) [] rfl
        refine va_calli (va_runSN (As := [.int v1]) (rest := []) ⟨hx, hb, hml, hown, hts⟩ (sX11_firstRun l dC dI v1 (gi_w g_418 (by decide))) (⟨va_cnB 1 hts (gz_gP mGA_504 goodGA) rfl rfl rfl (nzA_X3_48 hz) (hts _ (List.mem_cons_of_mem _ mGA_1)) (by decide +kernel) ⟨Nat.le_trans (Nat.le_of_ble_eq_true rfl) hRf, Nat.le_trans (Nat.le_of_ble_eq_true rfl) hRl⟩, (hts _ (List.mem_cons_of_mem _ mGA_503)), trivial⟩) ⟨fun a U g mk q => by obtain ⟨q0, qP, qK, qZ⟩ := q; exact ⟨q0, qP, va_K.moved (u := U) (U := U.calling g mk a) (Vm.Alike.refl U.vm) qK, nzA_same (u := U) (U := U.calling g mk a) rfl qZ⟩, fun U hU hW => ⟨rfl, by rw [hU]; exact hPc, va_K.moved hW.alike hKc, nzA_warm hW hz⟩⟩ rfl rfl hl.1 rfl (lv_room (Nat.le_of_ble_eq_true rfl)) dX3_fits_63 ⟨hRc, hRs⟩) hS (fun q _ h => h.elim) (fun q h => h.elim) (fun r_421 u t H1 locs ht hvm hw hB hz1 hk1 hS => ?_)
        have hP := gz_keep hP hk1
        generalize H1 = H at hP hS ⊢
        have gr_421 : gi r_421 0 1 := hw
        refine lv_istore_n (lv' := [(3, .int r_421), (2, .int x_420), (0, .ref h0), (1, .int v1)]) hx hb dX3_fits_66 rfl hl (by decide) rfl (fun ls hl => ?_)
        exact ih.2.2 v1 x_420 r_421 z2 _ _ _ g_418 gx_420 (gi_w gr_421 (by decide)) (by have av1 := gv1.1; have bv1 := gv1.2; have qgv1 := g_418.1; have rgv1 := g_418.2; have qgr_421 := gr_421.1; have rgr_421 := gr_421.2; omega) hP hD hS (lv_sub hl [2, 3, 1, 0] rfl)
    · intro v1 v2 v3 z2 H locs ls gv1 gv2 gv3 hmu hP hD hS hl
      refine lv_iload_n hx hb dX3_fits_67 rfl (lv_at hl 3 rfl) ?_
      refine lv_iload_n hx hb dX3_fits_68 rfl (lv_at hl 1 rfl) ?_
      refine lv_aload_n hx hb dX3_fits_69 rfl (lv_at hl 0 rfl) ?_
      refine va_get (D := (dC, dI)) (ci := 3) (v := .int full) (C := RX3) (T := TX3) (N := 5) hx hb hts (fun w h => List.mem_cons_of_mem _ (jnGA_X3 w h)) hown hK hP 0 rfl rfl 1 (by decide) (hts _ (List.mem_cons_of_mem _ mGA_479)) (fun _ h9 => h9) rfl dX3_fits_70 ?_
      refine lv_aload_n hx hb dX3_fits_73 rfl (lv_at hl 0 rfl) ?_
      refine va_get (D := (dC, dI)) (ci := 3) (v := .int lean) (C := RX3) (T := TX3) (N := 5) hx hb hts (fun w h => List.mem_cons_of_mem _ (jnGA_X3 w h)) hown hK hP 0 rfl rfl 2 (by decide) (hts _ (List.mem_cons_of_mem _ mGA_481)) (fun _ h9 => h9) rfl dX3_fits_74 ?_
      have hPc := hP.sub (ws' := []) [] rfl
      have hKc := hK.sub (tys' := []) [] rfl
      refine va_calli (va_runSN (As := [.int v1, .int full, .int lean]) (rest := [.int v3]) ⟨hx, hb, hml, hown, hts⟩ (sX11_lastRun l dC dI v1 full lean (gi_w gv1 (by decide)) gfull glean) (⟨va_cnB 3 hts (gz_gP mGA_506 goodGA) rfl rfl rfl (nzA_X3_52 hz) (hts _ (List.mem_cons_of_mem _ mGA_1)) (by decide +kernel) ⟨Nat.le_trans (Nat.le_of_ble_eq_true rfl) hRf, Nat.le_trans (Nat.le_of_ble_eq_true rfl) hRl⟩, (hts _ (List.mem_cons_of_mem _ mGA_505)), trivial⟩) ⟨fun a U g mk q => by obtain ⟨q0, qP, qK, qZ⟩ := q; exact ⟨q0, qP, va_K.moved (u := U) (U := U.calling g mk a) (Vm.Alike.refl U.vm) qK, nzA_same (u := U) (U := U.calling g mk a) rfl qZ⟩, fun U hU hW => ⟨rfl, by rw [hU]; exact hPc, va_K.moved hW.alike hKc, nzA_warm hW hz⟩⟩ rfl rfl hl.1 rfl (lv_room (Nat.le_of_ble_eq_true rfl)) dX3_fits_77 ⟨hRc, hRs⟩) hS (fun q _ h => h.elim) (fun q h => h.elim) (fun r_422 u t H1 locs ht hvm hw hB hz1 hk1 hS => ?_)
      have hP := gz_keep hP hk1
      generalize H1 = H at hP hS ⊢
      have gr_422 : gi r_422 0 10 := hw
      refine lv_icmp_gt (tgt := 152) hx hb dX3_fits_80 (by decide) (fun c_423 => ?_) (fun c_423 => ?_)
      · have g_424 : gi v3 1 11 := gi_lt_r c_423 gr_422 gv3 (by decide)
        obtain ⟨x_425, ex_425⟩ : ∃ y : Int32, y = v1 + (-1) := ⟨_, rfl⟩
        have gx_425 : gi x_425 (-1) 22 := gi_add ex_425 gv1 (gi_c (-1) (-1) (by decide)) (by decide)
        refine lv_iinc (v := x_425) (lv' := [(1, .int x_425), (0, .ref h0), (2, .int v2), (3, .int v3)]) hx hb dX3_fits_152 hl (k := 1) rfl (by rw [ex_425]; rfl) (by decide) rfl (fun ls hl => ?_)
        refine lv_goto (tgt := 51) hx hb dX3_fits_155 (by decide) ?_
        exact ih.2.1 x_425 z2 _ _ _ (gi_w gx_425 (by decide)) (by have av1 := gv1.1; have bv1 := gv1.2; have av3 := gv3.1; have bv3 := gv3.2; have qgx_425 := gx_425.1; have rgx_425 := gx_425.2; have igx_425 : x_425.toInt = v1.toInt + (-1) := (by have hcm1 : ((-1) : Int32).toInt = (-1) := (by decide); have h9 := gi_addI ex_425 (by have h1 := gv1.1; have h2 := (gi_c (-1) (-1) (by decide)).1; have h3 := gv1.2; have h4 := (gi_c (-1) (-1) (by decide)).2; omega) (by have h1 := gv1.1; have h2 := (gi_c (-1) (-1) (by decide)).1; have h3 := gv1.2; have h4 := (gi_c (-1) (-1) (by decide)).2; omega); rw [hcm1] at h9; exact h9); have qgv1 := gv1.1; have rgv1 := gv1.2; omega) hP hD hS (lv_sub hl [1, 0] rfl)
      · have g_426 : gi v3 0 10 := gi_le_l (Int32.not_lt.mp c_423) gv3 gr_422
        refine lv_aload_n hx hb dX3_fits_83 rfl (lv_at hl 0 rfl) ?_
        refine va_get (D := (dC, dI)) (ci := 3) (v := .ref on) (C := RX3) (T := TX3) (N := 5) hx hb hts (fun w h => List.mem_cons_of_mem _ (jnGA_X3 w h)) hown hK hP 0 rfl rfl 4 (by decide) (hts _ (List.mem_cons_of_mem _ mGA_95)) (fun _ h9 => h9) rfl dX3_fits_84 ?_
        refine lv_iload_n hx hb dX3_fits_87 rfl (lv_at hl 2 rfl) ?_
        refine lv_iload_n hx hb dX3_fits_88 rfl (lv_at hl 3 rfl) ?_
        refine lv_aload_n hx hb dX3_fits_89 rfl (lv_at hl 0 rfl) ?_
        refine va_get (D := (dC, dI)) (ci := 3) (v := .int full) (C := RX3) (T := TX3) (N := 5) hx hb hts (fun w h => List.mem_cons_of_mem _ (jnGA_X3 w h)) hown hK hP 0 rfl rfl 1 (by decide) (hts _ (List.mem_cons_of_mem _ mGA_479)) (fun _ h9 => h9) rfl dX3_fits_90 ?_
        have hPc := hP.sub (ws' := []) [] rfl
        have hKc := hK.sub (tys' := []) [] rfl
        refine va_calli (va_runSN (As := [.int v3, .int full]) (rest := [.int v2, .ref on]) ⟨hx, hb, hml, hown, hts⟩ (sX11_runWithFull l dC dI v3 full g_426 gfull) (⟨va_cnB 2 hts (gz_gP mGA_508 goodGA) rfl rfl rfl (nzA_X3_56 hz) (hts _ (List.mem_cons_of_mem _ mGA_1)) (by decide +kernel) ⟨Nat.le_trans (Nat.le_of_ble_eq_true rfl) hRf, Nat.le_trans (Nat.le_of_ble_eq_true rfl) hRl⟩, (hts _ (List.mem_cons_of_mem _ mGA_507)), trivial⟩) ⟨fun a U g mk q => by obtain ⟨q0, qP, qK, qZ⟩ := q; exact ⟨q0, qP, va_K.moved (u := U) (U := U.calling g mk a) (Vm.Alike.refl U.vm) qK, nzA_same (u := U) (U := U.calling g mk a) rfl qZ⟩, fun U hU hW => ⟨rfl, by rw [hU]; exact hPc, va_K.moved hW.alike hKc, nzA_warm hW hz⟩⟩ rfl rfl hl.1 rfl (lv_room (Nat.le_of_ble_eq_true rfl)) dX3_fits_93 ⟨hRc, hRs⟩) hS (fun q _ h => h.elim) (fun q h => h.elim) (fun r_427 u t H1 locs ht hvm hw hB hz1 hk1 hS => ?_)
        have hP := gz_keep hP hk1
        generalize H1 = H at hP hS ⊢
        have gr_427 : gi r_427 0 5 := hw
        refine lv_iadd hx hb dX3_fits_96 ?_
        refine lv_topi (fun x_428 ex_428 => ?_)
        have gx_428 : gi x_428 11 269 := gi_add ex_428 gv2 gr_427 (by decide)
        refine va_iald hx hb hK hP 2 1 rfl rfl (gi_in gx_428 (by decide)) dX3_fits_97 ?_
        refine lv_topi (fun x_429 ex_429 => ?_)
        refine lv_iconst (v := 1) hx hb dX3_fits_98 (by decide) ?_
        refine lv_ishr hx hb dX3_fits_99 ?_
        refine lv_topi (fun x_430 ex_430 => ?_)
        refine lv_istore (lv' := [(4, .int x_430), (0, .ref h0), (1, .int v1), (2, .int v2), (3, .int v3)]) hx hb dX3_fits_100 hl (by decide) rfl (fun ls hl => ?_)
        refine lv_aload_n hx hb dX3_fits_102 rfl (lv_at hl 1 rfl) ?_
        refine va_get (D := (dC, dI)) (ci := 3) (v := .ref on) (C := RX3) (T := TX3) (N := 5) hx hb hts (fun w h => List.mem_cons_of_mem _ (jnGA_X3 w h)) hown hK hP 0 rfl rfl 4 (by decide) (hts _ (List.mem_cons_of_mem _ mGA_95)) (fun _ h9 => h9) rfl dX3_fits_103 ?_
        refine lv_iload_n hx hb dX3_fits_106 rfl (lv_at hl 3 rfl) ?_
        refine lv_iload_n hx hb dX3_fits_107 rfl (lv_at hl 4 rfl) ?_
        refine lv_aload_n hx hb dX3_fits_108 rfl (lv_at hl 1 rfl) ?_
        refine va_get (D := (dC, dI)) (ci := 3) (v := .int full) (C := RX3) (T := TX3) (N := 5) hx hb hts (fun w h => List.mem_cons_of_mem _ (jnGA_X3 w h)) hown hK hP 0 rfl rfl 1 (by decide) (hts _ (List.mem_cons_of_mem _ mGA_479)) (fun _ h9 => h9) rfl dX3_fits_109 ?_
        refine lv_aload_n hx hb dX3_fits_112 rfl (lv_at hl 1 rfl) ?_
        refine va_get (D := (dC, dI)) (ci := 3) (v := .int lean) (C := RX3) (T := TX3) (N := 5) hx hb hts (fun w h => List.mem_cons_of_mem _ (jnGA_X3 w h)) hown hK hP 0 rfl rfl 2 (by decide) (hts _ (List.mem_cons_of_mem _ mGA_481)) (fun _ h9 => h9) rfl dX3_fits_113 ?_
        have hPc := hP.sub (ws' := []) [] rfl
        have hKc := hK.sub (tys' := []) [] rfl
        refine va_calli (va_runSN (As := [.int v3, .int full, .int lean]) (rest := [.int v2, .ref on]) ⟨hx, hb, hml, hown, hts⟩ (sX11_runWithLean l dC dI v3 full lean g_426 gfull glean) (⟨va_cnB 3 hts (gz_gP mGA_510 goodGA) rfl rfl rfl (nzA_X3_60 hz) (hts _ (List.mem_cons_of_mem _ mGA_1)) (by decide +kernel) ⟨Nat.le_trans (Nat.le_of_ble_eq_true rfl) hRf, Nat.le_trans (Nat.le_of_ble_eq_true rfl) hRl⟩, (hts _ (List.mem_cons_of_mem _ mGA_509)), trivial⟩) ⟨fun a U g mk q => by obtain ⟨q0, qP, qK, qZ⟩ := q; exact ⟨q0, qP, va_K.moved (u := U) (U := U.calling g mk a) (Vm.Alike.refl U.vm) qK, nzA_same (u := U) (U := U.calling g mk a) rfl qZ⟩, fun U hU hW => ⟨rfl, by rw [hU]; exact hPc, va_K.moved hW.alike hKc, nzA_warm hW hz⟩⟩ rfl rfl hl.1 rfl (lv_room (Nat.le_of_ble_eq_true rfl)) dX3_fits_116 ⟨hRc, hRs⟩) hS (fun q _ h => h.elim) (fun q h => h.elim) (fun r_431 u t H1 locs ht hvm hw hB hz1 hk1 hS => ?_)
        have hP := gz_keep hP hk1
        generalize H1 = H at hP hS ⊢
        have gr_431 : gi r_431 0 10 := hw
        refine lv_iadd hx hb dX3_fits_119 ?_
        refine lv_topi (fun x_432 ex_432 => ?_)
        have gx_432 : gi x_432 11 274 := gi_add ex_432 gv2 gr_431 (by decide)
        refine va_iald hx hb hK hP 2 1 rfl rfl (gi_in gx_432 (by decide)) dX3_fits_120 ?_
        refine lv_topi (fun x_433 ex_433 => ?_)
        refine lv_istore (lv' := [(5, .int x_433), (4, .int x_430), (0, .ref h0), (1, .int v1), (2, .int v2), (3, .int v3)]) hx hb dX3_fits_121 hl (by decide) rfl (fun ls hl => ?_)
        refine lv_aload_n hx hb dX3_fits_123 rfl (lv_at hl 2 rfl) ?_
        refine va_get (D := (dC, dI)) (ci := 3) (v := .ref on) (C := RX3) (T := TX3) (N := 5) hx hb hts (fun w h => List.mem_cons_of_mem _ (jnGA_X3 w h)) hown hK hP 0 rfl rfl 4 (by decide) (hts _ (List.mem_cons_of_mem _ mGA_95)) (fun _ h9 => h9) rfl dX3_fits_124 ?_
        refine lv_iload_n hx hb dX3_fits_127 rfl (lv_at hl 3 rfl) ?_
        refine lv_bipush (v := 11) hx hb dX3_fits_128 (by decide) ?_
        refine lv_imul hx hb dX3_fits_130 ?_
        refine lv_topi (fun x_434 ex_434 => ?_)
        have gx_434 : gi x_434 0 253 := gi_mul ex_434 gv1 (gi_c 11 11 (by decide)) (by decide)
        refine lv_iload_n hx hb dX3_fits_131 rfl (lv_at hl 5 rfl) ?_
        refine lv_iadd hx hb dX3_fits_132 ?_
        refine lv_topi (fun x_435 ex_435 => ?_)
        have gx_435 : gi x_435 0 263 := gi_add ex_435 gx_434 g_426 (by decide)
        refine lv_aload_n hx hb dX3_fits_133 rfl (lv_at hl 2 rfl) ?_
        refine va_get (D := (dC, dI)) (ci := 3) (v := .ref al) (C := RX3) (T := TX3) (N := 5) hx hb hts (fun w h => List.mem_cons_of_mem _ (jnGA_X3 w h)) hown hK hP 0 rfl rfl 3 (by decide) (hts _ (List.mem_cons_of_mem _ mGA_94)) (fun _ h9 => h9) rfl dX3_fits_134 ?_
        refine lv_iload_n hx hb dX3_fits_137 rfl (lv_at hl 3 rfl) ?_
        refine va_iald hx hb hK hP 1 0 rfl rfl (gi_in gv1 (by decide)) dX3_fits_138 ?_
        refine lv_topi (fun x_436 ex_436 => ?_)
        refine lv_iload hx hb dX3_fits_139 (lv_at hl 1 rfl) ?_
        refine lv_iload hx hb dX3_fits_141 (lv_at hl 0 rfl) ?_
        refine lv_ior hx hb dX3_fits_143 ?_
        refine lv_topi (fun x_437 ex_437 => ?_)
        refine lv_iand hx hb dX3_fits_144 ?_
        refine lv_topi (fun x_438 ex_438 => ?_)
        refine va_iast hx hb hK hP hD hS 2 1 rfl rfl (gi_in gx_435 (by decide)) dX3_fits_145 (fun H locs hP hD hS => ?_)
        have hP : va_P (dC, dI) vwCl [(h0, .inr (3, [.int months, .int full, .int lean, .ref al, .ref on])), (al, .inl (kal, 25, .inl fal)), (on, .inl (kon, 275, .inl (upd z2 (x_435 : Int32).toNatClampNeg x_438)))] H := hP
        have hD : va_D A [(h0, .inr (3, [.int months, .int full, .int lean, .ref al, .ref on])), (al, .inl (kal, 25, .inl fal)), (on, .inl (kon, 275, .inl (upd z2 (x_435 : Int32).toNatClampNeg x_438)))] := hD
        generalize upd z2 (x_435 : Int32).toNatClampNeg x_438 = f_439 at hP hD
        obtain ⟨x_440, ex_440⟩ : ∃ y : Int32, y = v3 + 1 := ⟨_, rfl⟩
        have gx_440 : gi x_440 1 11 := gi_add ex_440 g_426 (gi_c 1 1 (by decide)) (by decide)
        refine lv_iinc (v := x_440) (lv' := [(3, .int x_440), (5, .int x_433), (4, .int x_430), (0, .ref h0), (1, .int v1), (2, .int v2)]) hx hb dX3_fits_146 hl (k := 5) rfl (by rw [ex_440]; rfl) (by decide) rfl (fun ls hl => ?_)
        refine lv_goto (tgt := 67) hx hb dX3_fits_149 (by decide) ?_
        exact ih.2.2 v1 v2 x_440 f_439 _ _ _ gv1 gv2 (gi_w gx_440 (by decide)) (by have av1 := gv1.1; have bv1 := gv1.2; have av3 := gv3.1; have bv3 := gv3.2; have qgx_440 := gx_440.1; have rgx_440 := gx_440.2; have igx_440 : x_440.toInt = v3.toInt + 1 := (by have hc1 : (1 : Int32).toInt = 1 := (by decide); have h9 := gi_addI ex_440 (by have h1 := g_426.1; have h2 := (gi_c 1 1 (by decide)).1; have h3 := g_426.2; have h4 := (gi_c 1 1 (by decide)).2; omega) (by have h1 := g_426.1; have h2 := (gi_c 1 1 (by decide)).1; have h3 := g_426.2; have h4 := (gi_c 1 1 (by decide)).2; omega); rw [hc1] at h9; exact h9); have qgv3 := g_426.1; have rgv3 := g_426.2; have qgv1 := gv1.1; have rgv1 := gv1.2; omega) hP hD hS (lv_sub hl [3, 4, 5, 0] rfl)
set_option maxHeartbeats 4000000 in
set_option maxRecDepth 100000 in
theorem sX3_fits (l : Launch) (dC : Nat → ClassId) (dI : Nat → Nat → Nat) (sz : Nat) (h0 : Nat) (al : Nat) (on : Nat) (months : Int32) (full : Int32) (lean : Int32) (kal : ClassId) (fal : Nat → Int32) (kon : ClassId) (fon : Nat → Int32) (gmonths : gi months 0 24) (gfull : gi full 0 5) (glean : gi lean 0 5) : Met l yX3_fits (.code yX3_fits cX3_fits 6 (some .boolean) :: wsGA) ({ frames := 1, cells := 0, slots := 0, locals := 22 }) (va_Pc [.ref h0] (fun U => U.heap.size = sz ∧ va_P (dC, dI) vwCl [(h0, .inr (3, [.int months, .int full, .int lean, .ref al, .ref on])), (al, .inl (kal, 25, .inl fal)), (on, .inl (kon, 275, .inl fon))] U.heap ∧ va_K (dC, dI) vwCl [(kal, .int), (kon, .int)] U ∧ va_D (fun _ => True) [(h0, .inr (3, [.int months, .int full, .int lean, .ref al, .ref on])), (al, .inl (kal, 25, .inl fal)), (on, .inl (kon, 275, .inl fon))] ∧ nzA U)) (va_Qi (fun (r : Int32) (u : Unit) => gi r 0 1) (fun _ t => ∃ (z2 : Nat → Int32), va_P (dC, dI) vwCl [(h0, .inr (3, [.int months, .int full, .int lean, .ref al, .ref on])), (al, .inl (kal, 25, .inl fal)), (on, .inl (kon, 275, .inl z2))] t.heap ∧ va_D (va_A [(h0, .inr (3, [.int months, .int full, .int lean, .ref al, .ref on])), (al, .inl (kal, 25, .inl fal)), (on, .inl (kon, 275, .inl fon))] sz) [(h0, .inr (3, [.int months, .int full, .int lean, .ref al, .ref on])), (al, .inl (kal, 25, .inl fal)), (on, .inl (kon, 275, .inl z2))]) (va_A [(h0, .inr (3, [.int months, .int full, .int lean, .ref al, .ref on])), (al, .inl (kal, 25, .inl fal)), (on, .inl (kon, 275, .inl fon))] sz)) 0 0 (va_A [(h0, .inr (3, [.int months, .int full, .int lean, .ref al, .ref on])), (al, .inl (kal, 25, .inl fal)), (on, .inl (kon, 275, .inl fon))] sz) := by
  refine Met.ofW (cc := cX3_fits) (maxL := 6) (ret := (some .boolean)) (by decide) rfl ?_
  intro p e s m args below meth c s₁ B hml hv
  obtain ⟨rfl, hsz, hP, hK, hD0, hz⟩ := hv
  have hx := B.exec
  have hb := B.bytes
  have hr := B.returns
  have hts := atoms_spec (ws := (.code yX3_fits cX3_fits 6 (some .boolean) :: wsGA)) B.pre
  have hown : s.vm.findClass RX3 = some m.cls := findClass_of_methodNamed B.named
  have hlocks := B.notSynchronized
  subst hsz
  have hD := hD0.self (sz := s.heap.size)
  generalize hAe : va_A [(h0, .inr (3, [.int months, .int full, .int lean, .ref al, .ref on])), (al, .inl (kal, 25, .inl fal)), (on, .inl (kon, 275, .inl fon))] s.heap.size = A at hD ⊢
  have hA : ∀ q : Nat, s.heap.size ≤ q → A q := fun q h => by rw [← hAe]; exact Or.inr h
  have hS : va_S A s.heap s.heap [] := va_S.rf
  have hl := lv_entry ([.ref h0]) (n := 6) (Nat.le_of_ble_eq_true rfl)
  rw [lg_entry_eq]
  generalize (lg_sl ([.ref h0]) ++ List.replicate (6 - (lg_sl ([.ref h0])).length) Slot.unset).toArray = ls at hl ⊢
  have hl : lv_has ls 6 [(0, .ref h0)] := hl
  refine lv_iconst (v := 1) hx hb dX3_fits_0 (by decide) ?_
  refine lv_istore_n (lv' := [(1, .int 1), (0, .ref h0)]) hx hb dX3_fits_1 rfl hl (by decide) rfl (fun ls hl => ?_)
  refine (lp_sX3_fits h0 al on months full lean kal fal kon fon gmonths gfull glean hx hb hml hown hts hK hz hA (Nat.le_of_ble_eq_true rfl) (Nat.le_of_ble_eq_true rfl) (Nat.zero_le _) (Nat.zero_le _) (fun v z2 H locs ls gv hP hD hS hl => ?_) 762).1 1 fon _ _ _ (gi_w (gi_c 1 1 (by decide)) (by decide)) (by have k1 : (1 : Int32).toInt = 1 := (by decide); omega) hP hD hS (lv_sub hl [1, 0] rfl)
  · skip
    exact W.zret (v := v) hx hb hr (gz_nb gv) (fun t ht hW => ⟨⟨v, (), rfl, gv, z2, by rw [ht]; exact hP, hD⟩, hS.F ht⟩) hS.2.2 dX3_fits_174
theorem dX3_beginsInto_0 : decode cX3_beginsInto 0 = .ok (.iconst 0, 1) := by decide +kernel
theorem dX3_beginsInto_1 : decode cX3_beginsInto 1 = .ok (.istore_n 2, 1) := by decide +kernel
theorem dX3_beginsInto_2 : decode cX3_beginsInto 2 = .ok (.iconst 0, 1) := by decide +kernel
theorem dX3_beginsInto_3 : decode cX3_beginsInto 3 = .ok (.istore_n 3, 1) := by decide +kernel
theorem dX3_beginsInto_4 : decode cX3_beginsInto 4 = .ok (.aload_n 1, 1) := by decide +kernel
theorem dX3_beginsInto_5 : decode cX3_beginsInto 5 = .ok (.iconst 0, 1) := by decide +kernel
theorem dX3_beginsInto_6 : decode cX3_beginsInto 6 = .ok (.iconst 0, 1) := by decide +kernel
theorem dX3_beginsInto_7 : decode cX3_beginsInto 7 = .ok (.iastore, 1) := by decide +kernel
theorem dX3_beginsInto_8 : decode cX3_beginsInto 8 = .ok (.iconst 0, 1) := by decide +kernel
theorem dX3_beginsInto_9 : decode cX3_beginsInto 9 = .ok (.istore 4, 2) := by decide +kernel
theorem dX3_beginsInto_11 : decode cX3_beginsInto 11 = .ok (.iload 4, 2) := by decide +kernel
theorem dX3_beginsInto_13 : decode cX3_beginsInto 13 = .ok (.aload_n 0, 1) := by decide +kernel
theorem dX3_beginsInto_14 : decode cX3_beginsInto 14 = .ok (.getfield 24, 3) := by decide +kernel
theorem dX3_beginsInto_17 : decode cX3_beginsInto 17 = .ok (.if_icmp .ge 79, 3) := by decide +kernel
theorem dX3_beginsInto_20 : decode cX3_beginsInto 20 = .ok (.iload_n 3, 1) := by decide +kernel
theorem dX3_beginsInto_21 : decode cX3_beginsInto 21 = .ok (.aload_n 0, 1) := by decide +kernel
theorem dX3_beginsInto_22 : decode cX3_beginsInto 22 = .ok (.getfield 28, 3) := by decide +kernel
theorem dX3_beginsInto_25 : decode cX3_beginsInto 25 = .ok (.invokestatic 56, 3) := by decide +kernel
theorem dX3_beginsInto_28 : decode cX3_beginsInto 28 = .ok (.istore 5, 2) := by decide +kernel
theorem dX3_beginsInto_30 : decode cX3_beginsInto 30 = .ok (.aload_n 0, 1) := by decide +kernel
theorem dX3_beginsInto_31 : decode cX3_beginsInto 31 = .ok (.getfield 15, 3) := by decide +kernel
theorem dX3_beginsInto_34 : decode cX3_beginsInto 34 = .ok (.iload 4, 2) := by decide +kernel
theorem dX3_beginsInto_36 : decode cX3_beginsInto 36 = .ok (.iconst 1, 1) := by decide +kernel
theorem dX3_beginsInto_37 : decode cX3_beginsInto 37 = .ok (.iadd, 1) := by decide +kernel
theorem dX3_beginsInto_38 : decode cX3_beginsInto 38 = .ok (.bipush 11, 2) := by decide +kernel
theorem dX3_beginsInto_40 : decode cX3_beginsInto 40 = .ok (.imul, 1) := by decide +kernel
theorem dX3_beginsInto_41 : decode cX3_beginsInto 41 = .ok (.iload 5, 2) := by decide +kernel
theorem dX3_beginsInto_43 : decode cX3_beginsInto 43 = .ok (.iadd, 1) := by decide +kernel
theorem dX3_beginsInto_44 : decode cX3_beginsInto 44 = .ok (.iaload, 1) := by decide +kernel
theorem dX3_beginsInto_45 : decode cX3_beginsInto 45 = .ok (.iload_n 2, 1) := by decide +kernel
theorem dX3_beginsInto_46 : decode cX3_beginsInto 46 = .ok (.iconst 1, 1) := by decide +kernel
theorem dX3_beginsInto_47 : decode cX3_beginsInto 47 = .ok (.iadd, 1) := by decide +kernel
theorem dX3_beginsInto_48 : decode cX3_beginsInto 48 = .ok (.ishr, 1) := by decide +kernel
theorem dX3_beginsInto_49 : decode cX3_beginsInto 49 = .ok (.iconst 1, 1) := by decide +kernel
theorem dX3_beginsInto_50 : decode cX3_beginsInto 50 = .ok (.iand, 1) := by decide +kernel
theorem dX3_beginsInto_51 : decode cX3_beginsInto 51 = .ok (.ifCond .eq 12, 3) := by decide +kernel
theorem dX3_beginsInto_54 : decode cX3_beginsInto 54 = .ok (.iload 5, 2) := by decide +kernel
theorem dX3_beginsInto_56 : decode cX3_beginsInto 56 = .ok (.istore_n 3, 1) := by decide +kernel
theorem dX3_beginsInto_57 : decode cX3_beginsInto 57 = .ok (.iinc 2 1, 3) := by decide +kernel
theorem dX3_beginsInto_60 : decode cX3_beginsInto 60 = .ok (.goto 16, 3) := by decide +kernel
theorem dX3_beginsInto_63 : decode cX3_beginsInto 63 = .ok (.iload_n 3, 1) := by decide +kernel
theorem dX3_beginsInto_64 : decode cX3_beginsInto 64 = .ok (.aload_n 0, 1) := by decide +kernel
theorem dX3_beginsInto_65 : decode cX3_beginsInto 65 = .ok (.getfield 28, 3) := by decide +kernel
theorem dX3_beginsInto_68 : decode cX3_beginsInto 68 = .ok (.aload_n 0, 1) := by decide +kernel
theorem dX3_beginsInto_69 : decode cX3_beginsInto 69 = .ok (.getfield 32, 3) := by decide +kernel
theorem dX3_beginsInto_72 : decode cX3_beginsInto 72 = .ok (.invokestatic 60, 3) := by decide +kernel
theorem dX3_beginsInto_75 : decode cX3_beginsInto 75 = .ok (.istore_n 3, 1) := by decide +kernel
theorem dX3_beginsInto_76 : decode cX3_beginsInto 76 = .ok (.aload_n 1, 1) := by decide +kernel
theorem dX3_beginsInto_77 : decode cX3_beginsInto 77 = .ok (.iload 4, 2) := by decide +kernel
theorem dX3_beginsInto_79 : decode cX3_beginsInto 79 = .ok (.iconst 1, 1) := by decide +kernel
theorem dX3_beginsInto_80 : decode cX3_beginsInto 80 = .ok (.iadd, 1) := by decide +kernel
theorem dX3_beginsInto_81 : decode cX3_beginsInto 81 = .ok (.iload 4, 2) := by decide +kernel
theorem dX3_beginsInto_83 : decode cX3_beginsInto 83 = .ok (.iconst 1, 1) := by decide +kernel
theorem dX3_beginsInto_84 : decode cX3_beginsInto 84 = .ok (.iadd, 1) := by decide +kernel
theorem dX3_beginsInto_85 : decode cX3_beginsInto 85 = .ok (.iload_n 2, 1) := by decide +kernel
theorem dX3_beginsInto_86 : decode cX3_beginsInto 86 = .ok (.invokestatic 63, 3) := by decide +kernel
theorem dX3_beginsInto_89 : decode cX3_beginsInto 89 = .ok (.iastore, 1) := by decide +kernel
theorem dX3_beginsInto_90 : decode cX3_beginsInto 90 = .ok (.iinc 4 1, 3) := by decide +kernel
theorem dX3_beginsInto_93 : decode cX3_beginsInto 93 = .ok (.goto (-82), 3) := by decide +kernel
theorem dX3_beginsInto_96 : decode cX3_beginsInto 96 = .ok (.return_, 1) := by decide +kernel
set_option maxHeartbeats 4000000 in
set_option maxRecDepth 100000 in
theorem lp_sX3_beginsInto {p : Program} {l : Launch} {e : Env} {R : Room} {s : State} {m : MethodId} {args : Array Value} {below : List Frame} {meth : Method} {c : Code} {Q : State → Prop} {A : Nat → Prop} {cells slots : Nat} {dC : Nat → ClassId} {dI : Nat → Nat → Nat} (h0 : Nat) (al : Nat) (on : Nat) (bg : Nat) (months : Int32) (full : Int32) (lean : Int32) (kal : ClassId) (fal : Nat → Int32) (kon : ClassId) (fon : Nat → Int32) (kbg : ClassId) (fbg : Nat → Int32) (gmonths : gi months 0 24) (gfull : gi full 0 5) (glean : gi lean 0 5) (hx : p.tables.exec = Jvm.exec) (hb : c.code = cX3_beginsInto) (hml : c.maxLocals = 6) (hown : s.vm.findClass RX3 = some m.cls) (hts : ∀ w ∈ ((.code yX3_beginsInto cX3_beginsInto 6 none :: wsGA) : List Cond), w.before args s = true) (hK : va_K (dC, dI) vwCl [(kal, .int), (kon, .int), (kbg, .int)] s) (hz : nzA s) (hA : ∀ q : Nat, s.heap.size ≤ q → A q) (hRf : 1 ≤ R.frames) (hRl : 22 ≤ R.locals) (hRc : cells ≤ R.cells) (hRs : slots ≤ R.slots) (kr96 : ∀ (z3 : Nat → Int32) (H : Heap) (locs : List Loc) (ls : Array Slot), va_P (dC, dI) vwCl [(h0, .inr (3, [.int months, .int full, .int lean, .ref al, .ref on])), (al, .inl (kal, 25, .inl fal)), (on, .inl (kon, 275, .inl fon)), (bg, .inl (kbg, 25, .inl z3))] H → va_D A [(h0, .inr (3, [.int months, .int full, .int lean, .ref al, .ref on])), (al, .inl (kal, 25, .inl fal)), (on, .inl (kon, 275, .inl fon)), (bg, .inl (kbg, 25, .inl z3))] → va_S A s.heap H locs → lv_has ls 6 [] → W p l e R s m args below meth c H locs cells slots Q (F0 m 96 ls [])) : ∀ z : Nat, (∀ (v2 : Int32) (v3 : Int32) (v4 : Int32) (z3 : Nat → Int32) (H : Heap) (locs : List Loc) (ls : Array Slot), gi v3 0 10 → gi v4 0 24 → 49 + (-2) * v4.toInt < (z : Int) → va_P (dC, dI) vwCl [(h0, .inr (3, [.int months, .int full, .int lean, .ref al, .ref on])), (al, .inl (kal, 25, .inl fal)), (on, .inl (kon, 275, .inl fon)), (bg, .inl (kbg, 25, .inl z3))] H → va_D A [(h0, .inr (3, [.int months, .int full, .int lean, .ref al, .ref on])), (al, .inl (kal, 25, .inl fal)), (on, .inl (kon, 275, .inl fon)), (bg, .inl (kbg, 25, .inl z3))] → va_S A s.heap H locs → lv_has ls 6 [(0, .ref h0), (1, .ref bg), (2, .int v2), (3, .int v3), (4, .int v4)] → W p l e R s m args below meth c H locs cells slots Q (F0 m 11 ls [])) := by
  intro z
  induction z with
  | zero =>
    intro v2 v3 v4 z3 H locs ls gv3 gv4 hmu hP hD hS hl
    exact absurd hmu (by have hv41 := gv4.1; have hv42 := gv4.2; omega)
  | succ z ih =>
      intro v2 v3 v4 z3 H locs ls gv3 gv4 hmu hP hD hS hl
      refine lv_iload hx hb dX3_beginsInto_11 (lv_at hl 4 rfl) ?_
      refine lv_aload_n hx hb dX3_beginsInto_13 rfl (lv_at hl 0 rfl) ?_
      refine va_get (D := (dC, dI)) (ci := 3) (v := .int months) (C := RX3) (T := TX3) (N := 5) hx hb hts (fun w h => List.mem_cons_of_mem _ (jnGA_X3 w h)) hown hK hP 0 rfl rfl 0 (by decide) (hts _ (List.mem_cons_of_mem _ mGA_477)) (fun _ h9 => h9) rfl dX3_beginsInto_14 ?_
      refine lv_icmp_ge (tgt := 96) hx hb dX3_beginsInto_17 (by decide) (fun c_1054 => ?_) (fun c_1054 => ?_)
      · exact kr96 z3 _ _ _ hP hD hS (lv_sub hl [] rfl)
      · have g_1055 : gi v4 0 23 := gi_lt_l (Int32.not_le.mp c_1054) gv4 gmonths (by decide)
        have g_1056 : gi months 1 24 := gi_lt_r (Int32.not_le.mp c_1054) gv4 gmonths (by decide)
        refine lv_iload_n hx hb dX3_beginsInto_20 rfl (lv_at hl 3 rfl) ?_
        refine lv_aload_n hx hb dX3_beginsInto_21 rfl (lv_at hl 0 rfl) ?_
        refine va_get (D := (dC, dI)) (ci := 3) (v := .int full) (C := RX3) (T := TX3) (N := 5) hx hb hts (fun w h => List.mem_cons_of_mem _ (jnGA_X3 w h)) hown hK hP 0 rfl rfl 1 (by decide) (hts _ (List.mem_cons_of_mem _ mGA_479)) (fun _ h9 => h9) rfl dX3_beginsInto_22 ?_
        have hPc := hP.sub (ws' := []) [] rfl
        have hKc := hK.sub (tys' := []) [] rfl
        refine va_calli (va_runSN (As := [.int v3, .int full]) (rest := []) ⟨hx, hb, hml, hown, hts⟩ (sX11_runWithFull l dC dI v3 full gv3 gfull) (⟨va_cnB 2 hts (gz_gP mGA_508 goodGA) rfl rfl rfl (nzA_X3_56 hz) (hts _ (List.mem_cons_of_mem _ mGA_1)) (by decide +kernel) ⟨Nat.le_trans (Nat.le_of_ble_eq_true rfl) hRf, Nat.le_trans (Nat.le_of_ble_eq_true rfl) hRl⟩, (hts _ (List.mem_cons_of_mem _ mGA_507)), trivial⟩) ⟨fun a U g mk q => by obtain ⟨q0, qP, qK, qZ⟩ := q; exact ⟨q0, qP, va_K.moved (u := U) (U := U.calling g mk a) (Vm.Alike.refl U.vm) qK, nzA_same (u := U) (U := U.calling g mk a) rfl qZ⟩, fun U hU hW => ⟨rfl, by rw [hU]; exact hPc, va_K.moved hW.alike hKc, nzA_warm hW hz⟩⟩ rfl rfl hl.1 rfl (lv_room (Nat.le_of_ble_eq_true rfl)) dX3_beginsInto_25 ⟨hRc, hRs⟩) hS (fun q _ h => h.elim) (fun q h => h.elim) (fun r_1057 u t H1 locs ht hvm hw hB hz1 hk1 hS => ?_)
        have hP := gz_keep hP hk1
        generalize H1 = H at hP hS ⊢
        have gr_1057 : gi r_1057 0 5 := hw
        refine lv_istore (lv' := [(5, .int r_1057), (0, .ref h0), (1, .ref bg), (2, .int v2), (3, .int v3), (4, .int v4)]) hx hb dX3_beginsInto_28 hl (by decide) rfl (fun ls hl => ?_)
        refine lv_aload_n hx hb dX3_beginsInto_30 rfl (lv_at hl 1 rfl) ?_
        refine va_get (D := (dC, dI)) (ci := 3) (v := .ref on) (C := RX3) (T := TX3) (N := 5) hx hb hts (fun w h => List.mem_cons_of_mem _ (jnGA_X3 w h)) hown hK hP 0 rfl rfl 4 (by decide) (hts _ (List.mem_cons_of_mem _ mGA_95)) (fun _ h9 => h9) rfl dX3_beginsInto_31 ?_
        refine lv_iload hx hb dX3_beginsInto_34 (lv_at hl 5 rfl) ?_
        refine lv_iconst (v := 1) hx hb dX3_beginsInto_36 (by decide) ?_
        refine lv_iadd hx hb dX3_beginsInto_37 ?_
        refine lv_topi (fun x_1058 ex_1058 => ?_)
        have gx_1058 : gi x_1058 1 24 := gi_add ex_1058 g_1055 (gi_c 1 1 (by decide)) (by decide)
        refine lv_bipush (v := 11) hx hb dX3_beginsInto_38 (by decide) ?_
        refine lv_imul hx hb dX3_beginsInto_40 ?_
        refine lv_topi (fun x_1059 ex_1059 => ?_)
        have gx_1059 : gi x_1059 11 264 := gi_mul ex_1059 gx_1058 (gi_c 11 11 (by decide)) (by decide)
        refine lv_iload hx hb dX3_beginsInto_41 (lv_at hl 0 rfl) ?_
        refine lv_iadd hx hb dX3_beginsInto_43 ?_
        refine lv_topi (fun x_1060 ex_1060 => ?_)
        have gx_1060 : gi x_1060 11 269 := gi_add ex_1060 gx_1059 gr_1057 (by decide)
        refine va_iald hx hb hK hP 2 1 rfl rfl (gi_in gx_1060 (by decide)) dX3_beginsInto_44 ?_
        refine lv_topi (fun x_1061 ex_1061 => ?_)
        refine lv_iload_n hx hb dX3_beginsInto_45 rfl (lv_at hl 3 rfl) ?_
        refine lv_iconst (v := 1) hx hb dX3_beginsInto_46 (by decide) ?_
        refine lv_iadd hx hb dX3_beginsInto_47 ?_
        refine lv_topi (fun x_1062 ex_1062 => ?_)
        refine lv_ishr hx hb dX3_beginsInto_48 ?_
        refine lv_topi (fun x_1063 ex_1063 => ?_)
        refine lv_iconst (v := 1) hx hb dX3_beginsInto_49 (by decide) ?_
        refine lv_iand hx hb dX3_beginsInto_50 ?_
        refine lv_topi (fun x_1064 ex_1064 => ?_)
        have gx_1064 : gi x_1064 0 1 := gi_and1 ex_1064
        refine lv_if_eq (tgt := 63) hx hb dX3_beginsInto_51 (by decide) (fun c_1065 => ?_) (fun c_1065 => ?_)
        · have g_1066 : gi x_1064 0 0 := gi_eq c_1065 (gi_c 0 0 (by decide))
          refine lv_iload_n hx hb dX3_beginsInto_63 rfl (lv_at hl 4 rfl) ?_
          refine lv_aload_n hx hb dX3_beginsInto_64 rfl (lv_at hl 1 rfl) ?_
          refine va_get (D := (dC, dI)) (ci := 3) (v := .int full) (C := RX3) (T := TX3) (N := 5) hx hb hts (fun w h => List.mem_cons_of_mem _ (jnGA_X3 w h)) hown hK hP 0 rfl rfl 1 (by decide) (hts _ (List.mem_cons_of_mem _ mGA_479)) (fun _ h9 => h9) rfl dX3_beginsInto_65 ?_
          refine lv_aload_n hx hb dX3_beginsInto_68 rfl (lv_at hl 1 rfl) ?_
          refine va_get (D := (dC, dI)) (ci := 3) (v := .int lean) (C := RX3) (T := TX3) (N := 5) hx hb hts (fun w h => List.mem_cons_of_mem _ (jnGA_X3 w h)) hown hK hP 0 rfl rfl 2 (by decide) (hts _ (List.mem_cons_of_mem _ mGA_481)) (fun _ h9 => h9) rfl dX3_beginsInto_69 ?_
          have hPc := hP.sub (ws' := []) [] rfl
          have hKc := hK.sub (tys' := []) [] rfl
          refine va_calli (va_runSN (As := [.int v3, .int full, .int lean]) (rest := []) ⟨hx, hb, hml, hown, hts⟩ (sX11_runWithLean l dC dI v3 full lean gv3 gfull glean) (⟨va_cnB 3 hts (gz_gP mGA_510 goodGA) rfl rfl rfl (nzA_X3_60 hz) (hts _ (List.mem_cons_of_mem _ mGA_1)) (by decide +kernel) ⟨Nat.le_trans (Nat.le_of_ble_eq_true rfl) hRf, Nat.le_trans (Nat.le_of_ble_eq_true rfl) hRl⟩, (hts _ (List.mem_cons_of_mem _ mGA_509)), trivial⟩) ⟨fun a U g mk q => by obtain ⟨q0, qP, qK, qZ⟩ := q; exact ⟨q0, qP, va_K.moved (u := U) (U := U.calling g mk a) (Vm.Alike.refl U.vm) qK, nzA_same (u := U) (U := U.calling g mk a) rfl qZ⟩, fun U hU hW => ⟨rfl, by rw [hU]; exact hPc, va_K.moved hW.alike hKc, nzA_warm hW hz⟩⟩ rfl rfl hl.1 rfl (lv_room (Nat.le_of_ble_eq_true rfl)) dX3_beginsInto_72 ⟨hRc, hRs⟩) hS (fun q _ h => h.elim) (fun q h => h.elim) (fun r_1067 u t H1 locs ht hvm hw hB hz1 hk1 hS => ?_)
          have hP := gz_keep hP hk1
          generalize H1 = H at hP hS ⊢
          have gr_1067 : gi r_1067 0 10 := hw
          refine lv_istore_n (lv' := [(3, .int r_1067), (5, .int r_1057), (0, .ref h0), (1, .ref bg), (2, .int v2), (4, .int v4)]) hx hb dX3_beginsInto_75 rfl hl (by decide) rfl (fun ls hl => ?_)
          refine lv_aload_n hx hb dX3_beginsInto_76 rfl (lv_at hl 3 rfl) ?_
          refine lv_iload hx hb dX3_beginsInto_77 (lv_at hl 5 rfl) ?_
          refine lv_iconst (v := 1) hx hb dX3_beginsInto_79 (by decide) ?_
          refine lv_iadd hx hb dX3_beginsInto_80 ?_
          refine lv_topi (fun x_1068 ex_1068 => ?_)
          have gx_1068 : gi x_1068 1 24 := gi_add ex_1068 g_1055 (gi_c 1 1 (by decide)) (by decide)
          refine lv_iload hx hb dX3_beginsInto_81 (lv_at hl 5 rfl) ?_
          refine lv_iconst (v := 1) hx hb dX3_beginsInto_83 (by decide) ?_
          refine lv_iadd hx hb dX3_beginsInto_84 ?_
          refine lv_topi (fun x_1069 ex_1069 => ?_)
          have gx_1069 : gi x_1069 1 24 := gi_add ex_1069 g_1055 (gi_c 1 1 (by decide)) (by decide)
          refine lv_iload_n hx hb dX3_beginsInto_85 rfl (lv_at hl 4 rfl) ?_
          have hPc := hP.sub (ws' := []) [] rfl
          have hKc := hK.sub (tys' := []) [] rfl
          refine va_calli (va_runSN (As := [.int x_1069, .int v2]) (rest := [.int x_1068, .ref bg]) ⟨hx, hb, hml, hown, hts⟩ (sX11_dayOf l dC dI x_1069 v2) (⟨va_cnB 2 hts (gz_gP mGA_516 goodGA) rfl rfl rfl (nzA_X3_63 hz) (hts _ (List.mem_cons_of_mem _ mGA_1)) (by decide +kernel) ⟨Nat.le_trans (Nat.le_of_ble_eq_true rfl) hRf, Nat.le_trans (Nat.le_of_ble_eq_true rfl) hRl⟩, (hts _ (List.mem_cons_of_mem _ mGA_515)), trivial⟩) ⟨fun a U g mk q => by obtain ⟨q0, qP, qK, qZ⟩ := q; exact ⟨q0, qP, va_K.moved (u := U) (U := U.calling g mk a) (Vm.Alike.refl U.vm) qK, nzA_same (u := U) (U := U.calling g mk a) rfl qZ⟩, fun U hU hW => ⟨rfl, by rw [hU]; exact hPc, va_K.moved hW.alike hKc, nzA_warm hW hz⟩⟩ rfl rfl hl.1 rfl (lv_room (Nat.le_of_ble_eq_true rfl)) dX3_beginsInto_86 ⟨hRc, hRs⟩) hS (fun q _ h => h.elim) (fun q h => h.elim) (fun r_1070 u t H1 locs ht hvm hw hB hz1 hk1 hS => ?_)
          have hP := gz_keep hP hk1
          generalize H1 = H at hP hS ⊢
          refine va_iast hx hb hK hP hD hS 3 2 rfl rfl (gi_in gx_1068 (by decide)) dX3_beginsInto_89 (fun H locs hP hD hS => ?_)
          have hP : va_P (dC, dI) vwCl [(h0, .inr (3, [.int months, .int full, .int lean, .ref al, .ref on])), (al, .inl (kal, 25, .inl fal)), (on, .inl (kon, 275, .inl fon)), (bg, .inl (kbg, 25, .inl (upd z3 (x_1068 : Int32).toNatClampNeg r_1070)))] H := hP
          have hD : va_D A [(h0, .inr (3, [.int months, .int full, .int lean, .ref al, .ref on])), (al, .inl (kal, 25, .inl fal)), (on, .inl (kon, 275, .inl fon)), (bg, .inl (kbg, 25, .inl (upd z3 (x_1068 : Int32).toNatClampNeg r_1070)))] := hD
          generalize upd z3 (x_1068 : Int32).toNatClampNeg r_1070 = f_1071 at hP hD
          obtain ⟨x_1072, ex_1072⟩ : ∃ y : Int32, y = v4 + 1 := ⟨_, rfl⟩
          have gx_1072 : gi x_1072 1 24 := gi_add ex_1072 g_1055 (gi_c 1 1 (by decide)) (by decide)
          refine lv_iinc (v := x_1072) (lv' := [(4, .int x_1072), (3, .int r_1067), (5, .int r_1057), (0, .ref h0), (1, .ref bg), (2, .int v2)]) hx hb dX3_beginsInto_90 hl (k := 5) rfl (by rw [ex_1072]; rfl) (by decide) rfl (fun ls hl => ?_)
          refine lv_goto (tgt := 11) hx hb dX3_beginsInto_93 (by decide) ?_
          exact ih v2 r_1067 x_1072 f_1071 _ _ _ gr_1067 (gi_w gx_1072 (by decide)) (by have av4 := gv4.1; have bv4 := gv4.2; have qgx_1072 := gx_1072.1; have rgx_1072 := gx_1072.2; have igx_1072 : x_1072.toInt = v4.toInt + 1 := (by have hc1 : (1 : Int32).toInt = 1 := (by decide); have h9 := gi_addI ex_1072 (by have h1 := g_1055.1; have h2 := (gi_c 1 1 (by decide)).1; have h3 := g_1055.2; have h4 := (gi_c 1 1 (by decide)).2; omega) (by have h1 := g_1055.1; have h2 := (gi_c 1 1 (by decide)).1; have h3 := g_1055.2; have h4 := (gi_c 1 1 (by decide)).2; omega); rw [hc1] at h9; exact h9); have qgv4 := g_1055.1; have rgv4 := g_1055.2; omega) hP hD hS (lv_sub hl [3, 4, 5, 1, 0] rfl)
        · have g_1073 : gi x_1064 1 1 := gi_ne_lo c_1065 gx_1064 (gi_c 0 0 (by decide)) (by decide)
          refine lv_iload hx hb dX3_beginsInto_54 (lv_at hl 0 rfl) ?_
          refine lv_istore_n (lv' := [(3, .int r_1057), (5, .int r_1057), (0, .ref h0), (1, .ref bg), (2, .int v2), (4, .int v4)]) hx hb dX3_beginsInto_56 rfl hl (by decide) rfl (fun ls hl => ?_)
          obtain ⟨x_1074, ex_1074⟩ : ∃ y : Int32, y = v2 + 1 := ⟨_, rfl⟩
          refine lv_iinc (v := x_1074) (lv' := [(2, .int x_1074), (3, .int r_1057), (5, .int r_1057), (0, .ref h0), (1, .ref bg), (4, .int v4)]) hx hb dX3_beginsInto_57 hl (k := 4) rfl (by rw [ex_1074]; rfl) (by decide) rfl (fun ls hl => ?_)
          refine lv_goto (tgt := 76) hx hb dX3_beginsInto_60 (by decide) ?_
          refine lv_aload_n hx hb dX3_beginsInto_76 rfl (lv_at hl 4 rfl) ?_
          refine lv_iload hx hb dX3_beginsInto_77 (lv_at hl 5 rfl) ?_
          refine lv_iconst (v := 1) hx hb dX3_beginsInto_79 (by decide) ?_
          refine lv_iadd hx hb dX3_beginsInto_80 ?_
          refine lv_topi (fun x_1075 ex_1075 => ?_)
          have gx_1075 : gi x_1075 1 24 := gi_add ex_1075 g_1055 (gi_c 1 1 (by decide)) (by decide)
          refine lv_iload hx hb dX3_beginsInto_81 (lv_at hl 5 rfl) ?_
          refine lv_iconst (v := 1) hx hb dX3_beginsInto_83 (by decide) ?_
          refine lv_iadd hx hb dX3_beginsInto_84 ?_
          refine lv_topi (fun x_1076 ex_1076 => ?_)
          have gx_1076 : gi x_1076 1 24 := gi_add ex_1076 g_1055 (gi_c 1 1 (by decide)) (by decide)
          refine lv_iload_n hx hb dX3_beginsInto_85 rfl (lv_at hl 0 rfl) ?_
          have hPc := hP.sub (ws' := []) [] rfl
          have hKc := hK.sub (tys' := []) [] rfl
          refine va_calli (va_runSN (As := [.int x_1076, .int x_1074]) (rest := [.int x_1075, .ref bg]) ⟨hx, hb, hml, hown, hts⟩ (sX11_dayOf l dC dI x_1076 x_1074) (⟨va_cnB 2 hts (gz_gP mGA_516 goodGA) rfl rfl rfl (nzA_X3_63 hz) (hts _ (List.mem_cons_of_mem _ mGA_1)) (by decide +kernel) ⟨Nat.le_trans (Nat.le_of_ble_eq_true rfl) hRf, Nat.le_trans (Nat.le_of_ble_eq_true rfl) hRl⟩, (hts _ (List.mem_cons_of_mem _ mGA_515)), trivial⟩) ⟨fun a U g mk q => by obtain ⟨q0, qP, qK, qZ⟩ := q; exact ⟨q0, qP, va_K.moved (u := U) (U := U.calling g mk a) (Vm.Alike.refl U.vm) qK, nzA_same (u := U) (U := U.calling g mk a) rfl qZ⟩, fun U hU hW => ⟨rfl, by rw [hU]; exact hPc, va_K.moved hW.alike hKc, nzA_warm hW hz⟩⟩ rfl rfl hl.1 rfl (lv_room (Nat.le_of_ble_eq_true rfl)) dX3_beginsInto_86 ⟨hRc, hRs⟩) hS (fun q _ h => h.elim) (fun q h => h.elim) (fun r_1077 u t H1 locs ht hvm hw hB hz1 hk1 hS => ?_)
          have hP := gz_keep hP hk1
          generalize H1 = H at hP hS ⊢
          refine va_iast hx hb hK hP hD hS 3 2 rfl rfl (gi_in gx_1075 (by decide)) dX3_beginsInto_89 (fun H locs hP hD hS => ?_)
          have hP : va_P (dC, dI) vwCl [(h0, .inr (3, [.int months, .int full, .int lean, .ref al, .ref on])), (al, .inl (kal, 25, .inl fal)), (on, .inl (kon, 275, .inl fon)), (bg, .inl (kbg, 25, .inl (upd z3 (x_1075 : Int32).toNatClampNeg r_1077)))] H := hP
          have hD : va_D A [(h0, .inr (3, [.int months, .int full, .int lean, .ref al, .ref on])), (al, .inl (kal, 25, .inl fal)), (on, .inl (kon, 275, .inl fon)), (bg, .inl (kbg, 25, .inl (upd z3 (x_1075 : Int32).toNatClampNeg r_1077)))] := hD
          generalize upd z3 (x_1075 : Int32).toNatClampNeg r_1077 = f_1078 at hP hD
          obtain ⟨x_1079, ex_1079⟩ : ∃ y : Int32, y = v4 + 1 := ⟨_, rfl⟩
          have gx_1079 : gi x_1079 1 24 := gi_add ex_1079 g_1055 (gi_c 1 1 (by decide)) (by decide)
          refine lv_iinc (v := x_1079) (lv' := [(4, .int x_1079), (2, .int x_1074), (3, .int r_1057), (5, .int r_1057), (0, .ref h0), (1, .ref bg)]) hx hb dX3_beginsInto_90 hl (k := 5) rfl (by rw [ex_1079]; rfl) (by decide) rfl (fun ls hl => ?_)
          refine lv_goto (tgt := 11) hx hb dX3_beginsInto_93 (by decide) ?_
          exact ih x_1074 r_1057 x_1079 f_1078 _ _ _ (gi_w gr_1057 (by decide)) (gi_w gx_1079 (by decide)) (by have av4 := gv4.1; have bv4 := gv4.2; have qgx_1079 := gx_1079.1; have rgx_1079 := gx_1079.2; have igx_1079 : x_1079.toInt = v4.toInt + 1 := (by have hc1 : (1 : Int32).toInt = 1 := (by decide); have h9 := gi_addI ex_1079 (by have h1 := g_1055.1; have h2 := (gi_c 1 1 (by decide)).1; have h3 := g_1055.2; have h4 := (gi_c 1 1 (by decide)).2; omega) (by have h1 := g_1055.1; have h2 := (gi_c 1 1 (by decide)).1; have h3 := g_1055.2; have h4 := (gi_c 1 1 (by decide)).2; omega); rw [hc1] at h9; exact h9); have qgv4 := g_1055.1; have rgv4 := g_1055.2; omega) hP hD hS (lv_sub hl [4, 5, 1, 2, 0] rfl)
set_option maxHeartbeats 4000000 in
set_option maxRecDepth 100000 in
theorem sX3_beginsInto (l : Launch) (dC : Nat → ClassId) (dI : Nat → Nat → Nat) (sz : Nat) (h0 : Nat) (al : Nat) (on : Nat) (bg : Nat) (months : Int32) (full : Int32) (lean : Int32) (kal : ClassId) (fal : Nat → Int32) (kon : ClassId) (fon : Nat → Int32) (kbg : ClassId) (fbg : Nat → Int32) (gmonths : gi months 0 24) (gfull : gi full 0 5) (glean : gi lean 0 5) : Met l yX3_beginsInto (.code yX3_beginsInto cX3_beginsInto 6 none :: wsGA) ({ frames := 1, cells := 0, slots := 0, locals := 22 }) (va_Pc [.ref h0, .ref bg] (fun U => U.heap.size = sz ∧ va_P (dC, dI) vwCl [(h0, .inr (3, [.int months, .int full, .int lean, .ref al, .ref on])), (al, .inl (kal, 25, .inl fal)), (on, .inl (kon, 275, .inl fon)), (bg, .inl (kbg, 25, .inl fbg))] U.heap ∧ va_K (dC, dI) vwCl [(kal, .int), (kon, .int), (kbg, .int)] U ∧ va_D (fun _ => True) [(h0, .inr (3, [.int months, .int full, .int lean, .ref al, .ref on])), (al, .inl (kal, 25, .inl fal)), (on, .inl (kon, 275, .inl fon)), (bg, .inl (kbg, 25, .inl fbg))] ∧ nzA U)) (va_Qv (fun (u : Unit) => True) (fun _ t => ∃ (z3 : Nat → Int32), va_P (dC, dI) vwCl [(h0, .inr (3, [.int months, .int full, .int lean, .ref al, .ref on])), (al, .inl (kal, 25, .inl fal)), (on, .inl (kon, 275, .inl fon)), (bg, .inl (kbg, 25, .inl z3))] t.heap ∧ va_D (va_A [(h0, .inr (3, [.int months, .int full, .int lean, .ref al, .ref on])), (al, .inl (kal, 25, .inl fal)), (on, .inl (kon, 275, .inl fon)), (bg, .inl (kbg, 25, .inl fbg))] sz) [(h0, .inr (3, [.int months, .int full, .int lean, .ref al, .ref on])), (al, .inl (kal, 25, .inl fal)), (on, .inl (kon, 275, .inl fon)), (bg, .inl (kbg, 25, .inl z3))]) (va_A [(h0, .inr (3, [.int months, .int full, .int lean, .ref al, .ref on])), (al, .inl (kal, 25, .inl fal)), (on, .inl (kon, 275, .inl fon)), (bg, .inl (kbg, 25, .inl fbg))] sz)) 0 0 (va_A [(h0, .inr (3, [.int months, .int full, .int lean, .ref al, .ref on])), (al, .inl (kal, 25, .inl fal)), (on, .inl (kon, 275, .inl fon)), (bg, .inl (kbg, 25, .inl fbg))] sz) := by
  refine Met.ofW (cc := cX3_beginsInto) (maxL := 6) (ret := none) (by decide) rfl ?_
  intro p e s m args below meth c s₁ B hml hv
  obtain ⟨rfl, hsz, hP, hK, hD0, hz⟩ := hv
  have hx := B.exec
  have hb := B.bytes
  have hr := B.returns
  have hts := atoms_spec (ws := (.code yX3_beginsInto cX3_beginsInto 6 none :: wsGA)) B.pre
  have hown : s.vm.findClass RX3 = some m.cls := findClass_of_methodNamed B.named
  have hlocks := B.notSynchronized
  subst hsz
  have hD := hD0.self (sz := s.heap.size)
  generalize hAe : va_A [(h0, .inr (3, [.int months, .int full, .int lean, .ref al, .ref on])), (al, .inl (kal, 25, .inl fal)), (on, .inl (kon, 275, .inl fon)), (bg, .inl (kbg, 25, .inl fbg))] s.heap.size = A at hD ⊢
  have hA : ∀ q : Nat, s.heap.size ≤ q → A q := fun q h => by rw [← hAe]; exact Or.inr h
  have hS : va_S A s.heap s.heap [] := va_S.rf
  have hl := lv_entry ([.ref h0, .ref bg]) (n := 6) (Nat.le_of_ble_eq_true rfl)
  rw [lg_entry_eq]
  generalize (lg_sl ([.ref h0, .ref bg]) ++ List.replicate (6 - (lg_sl ([.ref h0, .ref bg])).length) Slot.unset).toArray = ls at hl ⊢
  have hl : lv_has ls 6 [(0, .ref h0), (1, .ref bg)] := hl
  refine lv_iconst (v := 0) hx hb dX3_beginsInto_0 (by decide) ?_
  refine lv_istore_n (lv' := [(2, .int 0), (0, .ref h0), (1, .ref bg)]) hx hb dX3_beginsInto_1 rfl hl (by decide) rfl (fun ls hl => ?_)
  refine lv_iconst (v := 0) hx hb dX3_beginsInto_2 (by decide) ?_
  refine lv_istore_n (lv' := [(3, .int 0), (2, .int 0), (0, .ref h0), (1, .ref bg)]) hx hb dX3_beginsInto_3 rfl hl (by decide) rfl (fun ls hl => ?_)
  refine lv_aload_n hx hb dX3_beginsInto_4 rfl (lv_at hl 3 rfl) ?_
  refine lv_iconst (v := 0) hx hb dX3_beginsInto_5 (by decide) ?_
  refine lv_iconst (v := 0) hx hb dX3_beginsInto_6 (by decide) ?_
  refine va_iast hx hb hK hP hD hS 3 2 rfl rfl (gi_in (gi_c 0 0 (by decide)) (by decide)) dX3_beginsInto_7 (fun H locs hP hD hS => ?_)
  have hP : va_P (dC, dI) vwCl [(h0, .inr (3, [.int months, .int full, .int lean, .ref al, .ref on])), (al, .inl (kal, 25, .inl fal)), (on, .inl (kon, 275, .inl fon)), (bg, .inl (kbg, 25, .inl (upd fbg (0 : Int32).toNatClampNeg 0)))] H := hP
  have hD : va_D A [(h0, .inr (3, [.int months, .int full, .int lean, .ref al, .ref on])), (al, .inl (kal, 25, .inl fal)), (on, .inl (kon, 275, .inl fon)), (bg, .inl (kbg, 25, .inl (upd fbg (0 : Int32).toNatClampNeg 0)))] := hD
  generalize upd fbg (0 : Int32).toNatClampNeg 0 = f_1080 at hP hD
  refine lv_iconst (v := 0) hx hb dX3_beginsInto_8 (by decide) ?_
  refine lv_istore (lv' := [(4, .int 0), (3, .int 0), (2, .int 0), (0, .ref h0), (1, .ref bg)]) hx hb dX3_beginsInto_9 hl (by decide) rfl (fun ls hl => ?_)
  refine (lp_sX3_beginsInto h0 al on bg months full lean kal fal kon fon kbg fbg gmonths gfull glean hx hb hml hown hts hK hz hA (Nat.le_of_ble_eq_true rfl) (Nat.le_of_ble_eq_true rfl) (Nat.zero_le _) (Nat.zero_le _) (fun z3 H locs ls hP hD hS hl => ?_) 62) 0 0 0 f_1080 _ _ _ (gi_w (gi_c 0 0 (by decide)) (by decide)) (gi_w (gi_c 0 0 (by decide)) (by decide)) (by have k0 : (0 : Int32).toInt = 0 := (by decide); omega) hP hD hS (lv_sub hl [3, 4, 2, 1, 0] rfl)
  · skip
    exact W.vret hx hb hr (fun t ht hW => ⟨⟨(), rfl, trivial, z3, by rw [ht]; exact hP, hD⟩, hS.F ht⟩) hS.2.2 dX3_beginsInto_96
theorem dX3_open_0 : decode cX3_open 0 = .ok (.aload_n 0, 1) := by decide +kernel
theorem dX3_open_1 : decode cX3_open 1 = .ok (.aload_n 1, 1) := by decide +kernel
theorem dX3_open_2 : decode cX3_open 2 = .ok (.getfield 18, 3) := by decide +kernel
theorem dX3_open_5 : decode cX3_open 5 = .ok (.putfield 24, 3) := by decide +kernel
theorem dX3_open_8 : decode cX3_open 8 = .ok (.aload_n 0, 1) := by decide +kernel
theorem dX3_open_9 : decode cX3_open 9 = .ok (.aload_n 1, 1) := by decide +kernel
theorem dX3_open_10 : decode cX3_open 10 = .ok (.getfield 25, 3) := by decide +kernel
theorem dX3_open_13 : decode cX3_open 13 = .ok (.putfield 28, 3) := by decide +kernel
theorem dX3_open_16 : decode cX3_open 16 = .ok (.aload_n 0, 1) := by decide +kernel
theorem dX3_open_17 : decode cX3_open 17 = .ok (.aload_n 1, 1) := by decide +kernel
theorem dX3_open_18 : decode cX3_open 18 = .ok (.getfield 29, 3) := by decide +kernel
theorem dX3_open_21 : decode cX3_open 21 = .ok (.putfield 32, 3) := by decide +kernel
theorem dX3_open_24 : decode cX3_open 24 = .ok (.iconst 0, 1) := by decide +kernel
theorem dX3_open_25 : decode cX3_open 25 = .ok (.istore_n 2, 1) := by decide +kernel
theorem dX3_open_26 : decode cX3_open 26 = .ok (.iload_n 2, 1) := by decide +kernel
theorem dX3_open_27 : decode cX3_open 27 = .ok (.aload_n 0, 1) := by decide +kernel
theorem dX3_open_28 : decode cX3_open 28 = .ok (.getfield 24, 3) := by decide +kernel
theorem dX3_open_31 : decode cX3_open 31 = .ok (.if_icmp .gt 20, 3) := by decide +kernel
theorem dX3_open_34 : decode cX3_open 34 = .ok (.aload_n 0, 1) := by decide +kernel
theorem dX3_open_35 : decode cX3_open 35 = .ok (.getfield 9, 3) := by decide +kernel
theorem dX3_open_38 : decode cX3_open 38 = .ok (.iload_n 2, 1) := by decide +kernel
theorem dX3_open_39 : decode cX3_open 39 = .ok (.iconst 2, 1) := by decide +kernel
theorem dX3_open_40 : decode cX3_open 40 = .ok (.iload_n 2, 1) := by decide +kernel
theorem dX3_open_41 : decode cX3_open 41 = .ok (.ishl, 1) := by decide +kernel
theorem dX3_open_42 : decode cX3_open 42 = .ok (.iconst 1, 1) := by decide +kernel
theorem dX3_open_43 : decode cX3_open 43 = .ok (.isub, 1) := by decide +kernel
theorem dX3_open_44 : decode cX3_open 44 = .ok (.iastore, 1) := by decide +kernel
theorem dX3_open_45 : decode cX3_open 45 = .ok (.iinc 2 1, 3) := by decide +kernel
theorem dX3_open_48 : decode cX3_open 48 = .ok (.goto (-22), 3) := by decide +kernel
theorem dX3_open_51 : decode cX3_open 51 = .ok (.return_, 1) := by decide +kernel
set_option maxHeartbeats 4000000 in
set_option maxRecDepth 100000 in
theorem lp_sX3_open {p : Program} {l : Launch} {e : Env} {R : Room} {s : State} {m : MethodId} {args : Array Value} {below : List Frame} {meth : Method} {c : Code} {Q : State → Prop} {A : Nat → Prop} {cells slots : Nat} {dC : Nat → ClassId} {dI : Nat → Nat → Nat} (h0 : Nat) (al : Nat) (am : Nat) (months : Int32) (full : Int32) (lean : Int32) (on : Nat) (kal : ClassId) (fal : Nat → Int32) (amonths : Int32) (afull : Int32) (alean : Int32) (alines : Int32) (ahasMoon : Int32) (amoonStart : Int32) (amoonStep : Int32) (aplaceCount : Int32) (areportCount : Int32) (adeedCount : Int32) (aplaces : Nat) (areports : Nat) (adeeds : Nat) (gmonths : gi months 0 24) (gfull : gi full 0 5) (glean : gi lean 0 5) (gamonths : gi amonths 0 24) (gafull : gi afull 0 5) (galean : gi alean 0 5) (gahasMoon : gi ahasMoon 0 1) (gaplaceCount : gi aplaceCount 0 6) (gareportCount : gi areportCount 0 24) (gadeedCount : gi adeedCount 0 8) (hx : p.tables.exec = Jvm.exec) (hb : c.code = cX3_open) (hml : c.maxLocals = 3) (hown : s.vm.findClass RX3 = some m.cls) (hts : ∀ w ∈ ((.code yX3_open cX3_open 3 none :: wsGA) : List Cond), w.before args s = true) (hK : va_K (dC, dI) vwCl [(kal, .int)] s) (hz : nzA s) (hR : va_P (dC, dI) vwCl [(am, .inr (0, [.int amonths, .int afull, .int alean, .int alines, .int ahasMoon, .int amoonStart, .int amoonStep, .int aplaceCount, .int areportCount, .int adeedCount, .ref aplaces, .ref areports, .ref adeeds]))] s.heap) (hRA : gz_ap A [(am, .inr (0, [.int amonths, .int afull, .int alean, .int alines, .int ahasMoon, .int amoonStart, .int amoonStep, .int aplaceCount, .int areportCount, .int adeedCount, .ref aplaces, .ref areports, .ref adeeds]))]) (hA : ∀ q : Nat, s.heap.size ≤ q → A q) (hRf : 0 ≤ R.frames) (hRl : 0 ≤ R.locals) (hRc : cells ≤ R.cells) (hRs : slots ≤ R.slots) (kr51 : ∀ (w0_0 : Int32) (w0_1 : Int32) (w0_2 : Int32) (z1 : Nat → Int32) (H : Heap) (locs : List Loc) (ls : Array Slot), gi w0_0 0 24 → gi w0_1 0 5 → gi w0_2 0 5 → va_P (dC, dI) vwCl [(h0, .inr (3, [.int w0_0, .int w0_1, .int w0_2, .ref al, .ref on])), (al, .inl (kal, 25, .inl z1))] H → va_D A [(h0, .inr (3, [.int w0_0, .int w0_1, .int w0_2, .ref al, .ref on])), (al, .inl (kal, 25, .inl z1))] → va_S A s.heap H locs → lv_has ls 3 [] → W p l e R s m args below meth c H locs cells slots Q (F0 m 51 ls [])) : ∀ z : Nat, (∀ (v2 : Int32) (w0_0 : Int32) (w0_1 : Int32) (w0_2 : Int32) (z1 : Nat → Int32) (H : Heap) (locs : List Loc) (ls : Array Slot), gi v2 0 25 → gi w0_0 0 24 → gi w0_1 0 5 → gi w0_2 0 5 → 51 + (-2) * v2.toInt < (z : Int) → va_P (dC, dI) vwCl [(h0, .inr (3, [.int w0_0, .int w0_1, .int w0_2, .ref al, .ref on])), (al, .inl (kal, 25, .inl z1))] H → va_D A [(h0, .inr (3, [.int w0_0, .int w0_1, .int w0_2, .ref al, .ref on])), (al, .inl (kal, 25, .inl z1))] → va_S A s.heap H locs → lv_has ls 3 [(0, .ref h0), (1, .ref am), (2, .int v2)] → W p l e R s m args below meth c H locs cells slots Q (F0 m 26 ls [])) := by
  intro z
  induction z with
  | zero =>
    intro v2 w0_0 w0_1 w0_2 z1 H locs ls gv2 gw0_0 gw0_1 gw0_2 hmu hP hD hS hl
    exact absurd hmu (by have hv21 := gv2.1; have hv22 := gv2.2; omega)
  | succ z ih =>
      intro v2 w0_0 w0_1 w0_2 z1 H locs ls gv2 gw0_0 gw0_1 gw0_2 hmu hP hD hS hl
      refine lv_iload_n hx hb dX3_open_26 rfl (lv_at hl 2 rfl) ?_
      refine lv_aload_n hx hb dX3_open_27 rfl (lv_at hl 0 rfl) ?_
      refine va_get (D := (dC, dI)) (ci := 3) (v := .int w0_0) (C := RX3) (T := TX3) (N := 5) hx hb hts (fun w h => List.mem_cons_of_mem _ (jnGA_X3 w h)) hown hK hP 0 rfl rfl 0 (by decide) (hts _ (List.mem_cons_of_mem _ mGA_477)) (fun _ h9 => h9) rfl dX3_open_28 ?_
      refine lv_icmp_gt (tgt := 51) hx hb dX3_open_31 (by decide) (fun c_111 => ?_) (fun c_111 => ?_)
      · have g_112 : gi v2 1 25 := gi_lt_r c_111 gw0_0 gv2 (by decide)
        exact kr51 w0_0 w0_1 w0_2 z1 _ _ _ gw0_0 gw0_1 gw0_2 hP hD hS (lv_sub hl [] rfl)
      · have g_113 : gi v2 0 24 := gi_le_l (Int32.not_lt.mp c_111) gv2 gw0_0
        refine lv_aload_n hx hb dX3_open_34 rfl (lv_at hl 0 rfl) ?_
        refine va_get (D := (dC, dI)) (ci := 3) (v := .ref al) (C := RX3) (T := TX3) (N := 5) hx hb hts (fun w h => List.mem_cons_of_mem _ (jnGA_X3 w h)) hown hK hP 0 rfl rfl 3 (by decide) (hts _ (List.mem_cons_of_mem _ mGA_94)) (fun _ h9 => h9) rfl dX3_open_35 ?_
        refine lv_iload_n hx hb dX3_open_38 rfl (lv_at hl 2 rfl) ?_
        refine lv_iconst (v := 2) hx hb dX3_open_39 (by decide) ?_
        refine lv_iload_n hx hb dX3_open_40 rfl (lv_at hl 2 rfl) ?_
        refine lv_ishl hx hb dX3_open_41 ?_
        refine lv_topi (fun x_114 ex_114 => ?_)
        refine lv_iconst (v := 1) hx hb dX3_open_42 (by decide) ?_
        refine lv_isub hx hb dX3_open_43 ?_
        refine lv_topi (fun x_115 ex_115 => ?_)
        refine va_iast hx hb hK hP hD hS 1 0 rfl rfl (gi_in g_113 (by decide)) dX3_open_44 (fun H locs hP hD hS => ?_)
        have hP : va_P (dC, dI) vwCl [(h0, .inr (3, [.int w0_0, .int w0_1, .int w0_2, .ref al, .ref on])), (al, .inl (kal, 25, .inl (upd z1 (v2 : Int32).toNatClampNeg x_115)))] H := hP
        have hD : va_D A [(h0, .inr (3, [.int w0_0, .int w0_1, .int w0_2, .ref al, .ref on])), (al, .inl (kal, 25, .inl (upd z1 (v2 : Int32).toNatClampNeg x_115)))] := hD
        generalize upd z1 (v2 : Int32).toNatClampNeg x_115 = f_116 at hP hD
        obtain ⟨x_117, ex_117⟩ : ∃ y : Int32, y = v2 + 1 := ⟨_, rfl⟩
        have gx_117 : gi x_117 1 25 := gi_add ex_117 g_113 (gi_c 1 1 (by decide)) (by decide)
        refine lv_iinc (v := x_117) (lv' := [(2, .int x_117), (0, .ref h0), (1, .ref am)]) hx hb dX3_open_45 hl (k := 2) rfl (by rw [ex_117]; rfl) (by decide) rfl (fun ls hl => ?_)
        refine lv_goto (tgt := 26) hx hb dX3_open_48 (by decide) ?_
        exact ih x_117 w0_0 w0_1 w0_2 f_116 _ _ _ (gi_w gx_117 (by decide)) gw0_0 gw0_1 gw0_2 (by have av2 := gv2.1; have bv2 := gv2.2; have qgx_117 := gx_117.1; have rgx_117 := gx_117.2; have igx_117 : x_117.toInt = v2.toInt + 1 := (by have hc1 : (1 : Int32).toInt = 1 := (by decide); have h9 := gi_addI ex_117 (by have h1 := g_113.1; have h2 := (gi_c 1 1 (by decide)).1; have h3 := g_113.2; have h4 := (gi_c 1 1 (by decide)).2; omega) (by have h1 := g_113.1; have h2 := (gi_c 1 1 (by decide)).1; have h3 := g_113.2; have h4 := (gi_c 1 1 (by decide)).2; omega); rw [hc1] at h9; exact h9); have qgv2 := g_113.1; have rgv2 := g_113.2; omega) hP hD hS (lv_sub hl [1, 2, 0] rfl)
set_option maxHeartbeats 4000000 in
set_option maxRecDepth 100000 in
theorem sX3_open (l : Launch) (dC : Nat → ClassId) (dI : Nat → Nat → Nat) (sz : Nat) (h0 : Nat) (al : Nat) (am : Nat) (months : Int32) (full : Int32) (lean : Int32) (on : Nat) (kal : ClassId) (fal : Nat → Int32) (amonths : Int32) (afull : Int32) (alean : Int32) (alines : Int32) (ahasMoon : Int32) (amoonStart : Int32) (amoonStep : Int32) (aplaceCount : Int32) (areportCount : Int32) (adeedCount : Int32) (aplaces : Nat) (areports : Nat) (adeeds : Nat) (gmonths : gi months 0 24) (gfull : gi full 0 5) (glean : gi lean 0 5) (gamonths : gi amonths 0 24) (gafull : gi afull 0 5) (galean : gi alean 0 5) (gahasMoon : gi ahasMoon 0 1) (gaplaceCount : gi aplaceCount 0 6) (gareportCount : gi areportCount 0 24) (gadeedCount : gi adeedCount 0 8) : Met l yX3_open (.code yX3_open cX3_open 3 none :: wsGA) ({ frames := 0, cells := 0, slots := 0, locals := 0 }) (va_Pc [.ref h0, .ref am] (fun U => U.heap.size = sz ∧ va_P (dC, dI) vwCl [(h0, .inr (3, [.int months, .int full, .int lean, .ref al, .ref on])), (al, .inl (kal, 25, .inl fal))] U.heap ∧ va_K (dC, dI) vwCl [(kal, .int)] U ∧ va_D (fun _ => True) [(h0, .inr (3, [.int months, .int full, .int lean, .ref al, .ref on])), (al, .inl (kal, 25, .inl fal))] ∧ nzA U ∧ va_P (dC, dI) vwCl [(am, .inr (0, [.int amonths, .int afull, .int alean, .int alines, .int ahasMoon, .int amoonStart, .int amoonStep, .int aplaceCount, .int areportCount, .int adeedCount, .ref aplaces, .ref areports, .ref adeeds]))] U.heap ∧ gz_ap (va_A [(h0, .inr (3, [.int months, .int full, .int lean, .ref al, .ref on])), (al, .inl (kal, 25, .inl fal))] sz) [(am, .inr (0, [.int amonths, .int afull, .int alean, .int alines, .int ahasMoon, .int amoonStart, .int amoonStep, .int aplaceCount, .int areportCount, .int adeedCount, .ref aplaces, .ref areports, .ref adeeds]))])) (va_Qv (fun (u : Unit) => True) (fun _ t => ∃ (w0_0 : Int32) (w0_1 : Int32) (w0_2 : Int32) (z1 : Nat → Int32), gi w0_0 0 24 ∧ gi w0_1 0 5 ∧ gi w0_2 0 5 ∧ va_P (dC, dI) vwCl [(h0, .inr (3, [.int w0_0, .int w0_1, .int w0_2, .ref al, .ref on])), (al, .inl (kal, 25, .inl z1))] t.heap ∧ va_D (va_A [(h0, .inr (3, [.int months, .int full, .int lean, .ref al, .ref on])), (al, .inl (kal, 25, .inl fal))] sz) [(h0, .inr (3, [.int w0_0, .int w0_1, .int w0_2, .ref al, .ref on])), (al, .inl (kal, 25, .inl z1))]) (va_A [(h0, .inr (3, [.int months, .int full, .int lean, .ref al, .ref on])), (al, .inl (kal, 25, .inl fal))] sz)) 0 0 (va_A [(h0, .inr (3, [.int months, .int full, .int lean, .ref al, .ref on])), (al, .inl (kal, 25, .inl fal))] sz) := by
  refine Met.ofW (cc := cX3_open) (maxL := 3) (ret := none) (by decide) rfl ?_
  intro p e s m args below meth c s₁ B hml hv
  obtain ⟨rfl, hsz, hP, hK, hD0, hz, hR, hRA⟩ := hv
  have hx := B.exec
  have hb := B.bytes
  have hr := B.returns
  have hts := atoms_spec (ws := (.code yX3_open cX3_open 3 none :: wsGA)) B.pre
  have hown : s.vm.findClass RX3 = some m.cls := findClass_of_methodNamed B.named
  have hlocks := B.notSynchronized
  subst hsz
  have hD := hD0.self (sz := s.heap.size)
  generalize hAe : va_A [(h0, .inr (3, [.int months, .int full, .int lean, .ref al, .ref on])), (al, .inl (kal, 25, .inl fal))] s.heap.size = A at hD hRA ⊢
  have hA : ∀ q : Nat, s.heap.size ≤ q → A q := fun q h => by rw [← hAe]; exact Or.inr h
  have hS : va_S A s.heap s.heap [] := va_S.rf
  have hl := lv_entry ([.ref h0, .ref am]) (n := 3) (Nat.le_of_ble_eq_true rfl)
  rw [lg_entry_eq]
  generalize (lg_sl ([.ref h0, .ref am]) ++ List.replicate (3 - (lg_sl ([.ref h0, .ref am])).length) Slot.unset).toArray = ls at hl ⊢
  have hl : lv_has ls 3 [(0, .ref h0), (1, .ref am)] := hl
  refine lv_aload_n hx hb dX3_open_0 rfl (lv_at hl 0 rfl) ?_
  refine lv_aload_n hx hb dX3_open_1 rfl (lv_at hl 1 rfl) ?_
  refine va_get (D := (dC, dI)) (ci := 0) (v := .int amonths) (C := RX0) (T := TX0) (N := 13) hx hb hts (fun w h => List.mem_cons_of_mem _ (jnGA_X0 w h)) hown hK (gz_ro hR hRA hS) 0 rfl rfl 0 (by decide) (hts _ (List.mem_cons_of_mem _ mGA_476)) (fun _ h9 => h9) rfl dX3_open_2 ?_
  refine va_put (D := (dC, dI)) (ci := 3) (v := .int amonths) (ty := .int) (C := RX3) (T := TX3) (N := 5) hx hb hts (fun w h => List.mem_cons_of_mem _ (jnGA_X3 w h)) tyX3 tyX3_ok nmX3 hown hK hP hD hS 0 rfl rfl 0 (by decide) (hts _ (List.mem_cons_of_mem _ mGA_477)) (fun _ h9 => h9) rfl (by decide +kernel) rfl rfl (Nat.le_of_ble_eq_true rfl) dX3_open_5 (fun H locs hP hD hS => ?_)
  have hP : va_P (dC, dI) vwCl [(h0, .inr (3, [.int amonths, .int full, .int lean, .ref al, .ref on])), (al, .inl (kal, 25, .inl fal))] H := hP
  have hD : va_D A [(h0, .inr (3, [.int amonths, .int full, .int lean, .ref al, .ref on])), (al, .inl (kal, 25, .inl fal))] := hD
  refine lv_aload_n hx hb dX3_open_8 rfl (lv_at hl 0 rfl) ?_
  refine lv_aload_n hx hb dX3_open_9 rfl (lv_at hl 1 rfl) ?_
  refine va_get (D := (dC, dI)) (ci := 0) (v := .int afull) (C := RX0) (T := TX0) (N := 13) hx hb hts (fun w h => List.mem_cons_of_mem _ (jnGA_X0 w h)) hown hK (gz_ro hR hRA hS) 0 rfl rfl 1 (by decide) (hts _ (List.mem_cons_of_mem _ mGA_478)) (fun _ h9 => h9) rfl dX3_open_10 ?_
  refine va_put (D := (dC, dI)) (ci := 3) (v := .int afull) (ty := .int) (C := RX3) (T := TX3) (N := 5) hx hb hts (fun w h => List.mem_cons_of_mem _ (jnGA_X3 w h)) tyX3 tyX3_ok nmX3 hown hK hP hD hS 0 rfl rfl 1 (by decide) (hts _ (List.mem_cons_of_mem _ mGA_479)) (fun _ h9 => h9) rfl (by decide +kernel) rfl rfl (Nat.le_of_ble_eq_true rfl) dX3_open_13 (fun H locs hP hD hS => ?_)
  have hP : va_P (dC, dI) vwCl [(h0, .inr (3, [.int amonths, .int afull, .int lean, .ref al, .ref on])), (al, .inl (kal, 25, .inl fal))] H := hP
  have hD : va_D A [(h0, .inr (3, [.int amonths, .int afull, .int lean, .ref al, .ref on])), (al, .inl (kal, 25, .inl fal))] := hD
  refine lv_aload_n hx hb dX3_open_16 rfl (lv_at hl 0 rfl) ?_
  refine lv_aload_n hx hb dX3_open_17 rfl (lv_at hl 1 rfl) ?_
  refine va_get (D := (dC, dI)) (ci := 0) (v := .int alean) (C := RX0) (T := TX0) (N := 13) hx hb hts (fun w h => List.mem_cons_of_mem _ (jnGA_X0 w h)) hown hK (gz_ro hR hRA hS) 0 rfl rfl 2 (by decide) (hts _ (List.mem_cons_of_mem _ mGA_480)) (fun _ h9 => h9) rfl dX3_open_18 ?_
  refine va_put (D := (dC, dI)) (ci := 3) (v := .int alean) (ty := .int) (C := RX3) (T := TX3) (N := 5) hx hb hts (fun w h => List.mem_cons_of_mem _ (jnGA_X3 w h)) tyX3 tyX3_ok nmX3 hown hK hP hD hS 0 rfl rfl 2 (by decide) (hts _ (List.mem_cons_of_mem _ mGA_481)) (fun _ h9 => h9) rfl (by decide +kernel) rfl rfl (Nat.le_of_ble_eq_true rfl) dX3_open_21 (fun H locs hP hD hS => ?_)
  have hP : va_P (dC, dI) vwCl [(h0, .inr (3, [.int amonths, .int afull, .int alean, .ref al, .ref on])), (al, .inl (kal, 25, .inl fal))] H := hP
  have hD : va_D A [(h0, .inr (3, [.int amonths, .int afull, .int alean, .ref al, .ref on])), (al, .inl (kal, 25, .inl fal))] := hD
  refine lv_iconst (v := 0) hx hb dX3_open_24 (by decide) ?_
  refine lv_istore_n (lv' := [(2, .int 0), (0, .ref h0), (1, .ref am)]) hx hb dX3_open_25 rfl hl (by decide) rfl (fun ls hl => ?_)
  refine (lp_sX3_open h0 al am months full lean on kal fal amonths afull alean alines ahasMoon amoonStart amoonStep aplaceCount areportCount adeedCount aplaces areports adeeds gmonths gfull glean gamonths gafull galean gahasMoon gaplaceCount gareportCount gadeedCount hx hb hml hown hts hK hz hR hRA hA (Nat.le_of_ble_eq_true rfl) (Nat.le_of_ble_eq_true rfl) (Nat.zero_le _) (Nat.zero_le _) (fun w0_0 w0_1 w0_2 z1 H locs ls gw0_0 gw0_1 gw0_2 hP hD hS hl => ?_) 64) 0 amonths afull alean fal _ _ _ (gi_w (gi_c 0 0 (by decide)) (by decide)) gamonths gafull galean (by have k0 : (0 : Int32).toInt = 0 := (by decide); omega) hP hD hS (lv_sub hl [1, 2, 0] rfl)
  · skip
    exact W.vret hx hb hr (fun t ht hW => ⟨⟨(), rfl, trivial, w0_0, w0_1, w0_2, z1, gw0_0, gw0_1, gw0_2, by rw [ht]; exact hP, hD⟩, hS.F ht⟩) hS.2.2 dX3_open_51
theorem dX3_rightFor_0 : decode cX3_rightFor 0 = .ok (.iconst 2, 1) := by decide +kernel
theorem dX3_rightFor_1 : decode cX3_rightFor 1 = .ok (.aload_n 0, 1) := by decide +kernel
theorem dX3_rightFor_2 : decode cX3_rightFor 2 = .ok (.getfield 33, 3) := by decide +kernel
theorem dX3_rightFor_5 : decode cX3_rightFor 5 = .ok (.ishl, 1) := by decide +kernel
theorem dX3_rightFor_6 : decode cX3_rightFor 6 = .ok (.iconst 1, 1) := by decide +kernel
theorem dX3_rightFor_7 : decode cX3_rightFor 7 = .ok (.isub, 1) := by decide +kernel
theorem dX3_rightFor_8 : decode cX3_rightFor 8 = .ok (.istore_n 1, 1) := by decide +kernel
theorem dX3_rightFor_9 : decode cX3_rightFor 9 = .ok (.aload_n 0, 1) := by decide +kernel
theorem dX3_rightFor_10 : decode cX3_rightFor 10 = .ok (.getfield 38, 3) := by decide +kernel
theorem dX3_rightFor_13 : decode cX3_rightFor 13 = .ok (.iconst 1, 1) := by decide +kernel
theorem dX3_rightFor_14 : decode cX3_rightFor 14 = .ok (.iadd, 1) := by decide +kernel
theorem dX3_rightFor_15 : decode cX3_rightFor 15 = .ok (.bipush 29, 2) := by decide +kernel
theorem dX3_rightFor_17 : decode cX3_rightFor 17 = .ok (.aload_n 0, 1) := by decide +kernel
theorem dX3_rightFor_18 : decode cX3_rightFor 18 = .ok (.getfield 33, 3) := by decide +kernel
theorem dX3_rightFor_21 : decode cX3_rightFor 21 = .ok (.imul, 1) := by decide +kernel
theorem dX3_rightFor_22 : decode cX3_rightFor 22 = .ok (.isub, 1) := by decide +kernel
theorem dX3_rightFor_23 : decode cX3_rightFor 23 = .ok (.istore_n 2, 1) := by decide +kernel
theorem dX3_rightFor_24 : decode cX3_rightFor 24 = .ok (.aload_n 0, 1) := by decide +kernel
theorem dX3_rightFor_25 : decode cX3_rightFor 25 = .ok (.getfield 41, 3) := by decide +kernel
theorem dX3_rightFor_28 : decode cX3_rightFor 28 = .ok (.iconst 2, 1) := by decide +kernel
theorem dX3_rightFor_29 : decode cX3_rightFor 29 = .ok (.if_icmp .eq 15, 3) := by decide +kernel
theorem dX3_rightFor_32 : decode cX3_rightFor 32 = .ok (.aload_n 0, 1) := by decide +kernel
theorem dX3_rightFor_33 : decode cX3_rightFor 33 = .ok (.getfield 41, 3) := by decide +kernel
theorem dX3_rightFor_36 : decode cX3_rightFor 36 = .ok (.iconst 1, 1) := by decide +kernel
theorem dX3_rightFor_37 : decode cX3_rightFor 37 = .ok (.if_icmp .ne 9, 3) := by decide +kernel
theorem dX3_rightFor_40 : decode cX3_rightFor 40 = .ok (.iload_n 2, 1) := by decide +kernel
theorem dX3_rightFor_41 : decode cX3_rightFor 41 = .ok (.ifCond .ge 5, 3) := by decide +kernel
theorem dX3_rightFor_44 : decode cX3_rightFor 44 = .ok (.iload_n 1, 1) := by decide +kernel
theorem dX3_rightFor_45 : decode cX3_rightFor 45 = .ok (.ireturn, 1) := by decide +kernel
theorem dX3_rightFor_46 : decode cX3_rightFor 46 = .ok (.iload_n 2, 1) := by decide +kernel
theorem dX3_rightFor_47 : decode cX3_rightFor 47 = .ok (.ifCond .lt 11, 3) := by decide +kernel
theorem dX3_rightFor_50 : decode cX3_rightFor 50 = .ok (.iload_n 2, 1) := by decide +kernel
theorem dX3_rightFor_51 : decode cX3_rightFor 51 = .ok (.aload_n 0, 1) := by decide +kernel
theorem dX3_rightFor_52 : decode cX3_rightFor 52 = .ok (.getfield 33, 3) := by decide +kernel
theorem dX3_rightFor_55 : decode cX3_rightFor 55 = .ok (.if_icmp .le 5, 3) := by decide +kernel
theorem dX3_rightFor_58 : decode cX3_rightFor 58 = .ok (.iconst 0, 1) := by decide +kernel
theorem dX3_rightFor_59 : decode cX3_rightFor 59 = .ok (.ireturn, 1) := by decide +kernel
theorem dX3_rightFor_60 : decode cX3_rightFor 60 = .ok (.aload_n 0, 1) := by decide +kernel
theorem dX3_rightFor_61 : decode cX3_rightFor 61 = .ok (.getfield 41, 3) := by decide +kernel
theorem dX3_rightFor_64 : decode cX3_rightFor 64 = .ok (.ifCond .ne 9, 3) := by decide +kernel
theorem dX3_rightFor_67 : decode cX3_rightFor 67 = .ok (.iconst 1, 1) := by decide +kernel
theorem dX3_rightFor_68 : decode cX3_rightFor 68 = .ok (.iload_n 2, 1) := by decide +kernel
theorem dX3_rightFor_69 : decode cX3_rightFor 69 = .ok (.ishl, 1) := by decide +kernel
theorem dX3_rightFor_70 : decode cX3_rightFor 70 = .ok (.goto 9, 3) := by decide +kernel
theorem dX3_rightFor_73 : decode cX3_rightFor 73 = .ok (.iload_n 1, 1) := by decide +kernel
theorem dX3_rightFor_74 : decode cX3_rightFor 74 = .ok (.bipush (-2), 2) := by decide +kernel
theorem dX3_rightFor_76 : decode cX3_rightFor 76 = .ok (.iload_n 2, 1) := by decide +kernel
theorem dX3_rightFor_77 : decode cX3_rightFor 77 = .ok (.ishl, 1) := by decide +kernel
theorem dX3_rightFor_78 : decode cX3_rightFor 78 = .ok (.iand, 1) := by decide +kernel
theorem dX3_rightFor_79 : decode cX3_rightFor 79 = .ok (.ireturn, 1) := by decide +kernel
set_option maxHeartbeats 4000000 in
set_option maxRecDepth 100000 in
theorem sX3_rightFor (l : Launch) (dC : Nat → ClassId) (dI : Nat → Nat → Nat) (rp : Nat) (qplace : Int32) (qkind : Int32) (qmonth : Int32) (qday : Int32) (qknown : Int32) (qstruck : Int32) (gqplace : gi qplace 0 5) (gqmonth : gi qmonth 0 23) (gqstruck : gi qstruck 0 1) : Met l yX3_rightFor (.code yX3_rightFor cX3_rightFor 3 (some .int) :: wsGA) ({ frames := 0, cells := 0, slots := 0, locals := 0 }) (va_Pc [.ref rp] (fun U => va_P (dC, dI) vwCl [(rp, .inr (7, [.int qplace, .int qkind, .int qmonth, .int qday, .int qknown, .int qstruck]))] U.heap ∧ va_K (dC, dI) vwCl [] U ∧ nzA U)) (va_Qi (fun (r : Int32) (u : Unit) => gi r (-2147483648) 2147483647) (fun _ _ => True) (fun _ => False)) 0 0 (fun _ => False) := by
  refine Met.ofW (cc := cX3_rightFor) (maxL := 3) (ret := (some .int)) (by decide) rfl ?_
  intro p e s m args below meth c s₁ B hml hv
  obtain ⟨rfl, hP, hK, hz⟩ := hv
  have hx := B.exec
  have hb := B.bytes
  have hr := B.returns
  have hts := atoms_spec (ws := (.code yX3_rightFor cX3_rightFor 3 (some .int) :: wsGA)) B.pre
  have hown : s.vm.findClass RX3 = some m.cls := findClass_of_methodNamed B.named
  have hlocks := B.notSynchronized
  have hS : va_S (fun _ => False) s.heap s.heap [] := va_S.rf
  have hl := lv_entry ([.ref rp]) (n := 3) (Nat.le_of_ble_eq_true rfl)
  rw [lg_entry_eq]
  generalize (lg_sl ([.ref rp]) ++ List.replicate (3 - (lg_sl ([.ref rp])).length) Slot.unset).toArray = ls at hl ⊢
  have hl : lv_has ls 3 [(0, .ref rp)] := hl
  refine lv_iconst (v := 2) hx hb dX3_rightFor_0 (by decide) ?_
  refine lv_aload_n hx hb dX3_rightFor_1 rfl (lv_at hl 0 rfl) ?_
  refine va_get (D := (dC, dI)) (ci := 7) (v := .int qmonth) (C := RX7) (T := TX7) (N := 6) hx hb hts (fun w h => List.mem_cons_of_mem _ (jnGA_X7 w h)) hown hK hP 0 rfl rfl 2 (by decide) (hts _ (List.mem_cons_of_mem _ mGA_493)) (fun _ h9 => h9) rfl dX3_rightFor_2 ?_
  refine lv_ishl hx hb dX3_rightFor_5 ?_
  refine lv_topi (fun x_31 ex_31 => ?_)
  refine lv_iconst (v := 1) hx hb dX3_rightFor_6 (by decide) ?_
  refine lv_isub hx hb dX3_rightFor_7 ?_
  refine lv_topi (fun x_32 ex_32 => ?_)
  refine lv_istore_n (lv' := [(1, .int x_32), (0, .ref rp)]) hx hb dX3_rightFor_8 rfl hl (by decide) rfl (fun ls hl => ?_)
  refine lv_aload_n hx hb dX3_rightFor_9 rfl (lv_at hl 1 rfl) ?_
  refine va_get (D := (dC, dI)) (ci := 7) (v := .int qday) (C := RX7) (T := TX7) (N := 6) hx hb hts (fun w h => List.mem_cons_of_mem _ (jnGA_X7 w h)) hown hK hP 0 rfl rfl 3 (by decide) (hts _ (List.mem_cons_of_mem _ mGA_497)) (fun _ h9 => h9) rfl dX3_rightFor_10 ?_
  refine lv_iconst (v := 1) hx hb dX3_rightFor_13 (by decide) ?_
  refine lv_iadd hx hb dX3_rightFor_14 ?_
  refine lv_topi (fun x_33 ex_33 => ?_)
  refine lv_bipush (v := 29) hx hb dX3_rightFor_15 (by decide) ?_
  refine lv_aload_n hx hb dX3_rightFor_17 rfl (lv_at hl 1 rfl) ?_
  refine va_get (D := (dC, dI)) (ci := 7) (v := .int qmonth) (C := RX7) (T := TX7) (N := 6) hx hb hts (fun w h => List.mem_cons_of_mem _ (jnGA_X7 w h)) hown hK hP 0 rfl rfl 2 (by decide) (hts _ (List.mem_cons_of_mem _ mGA_493)) (fun _ h9 => h9) rfl dX3_rightFor_18 ?_
  refine lv_imul hx hb dX3_rightFor_21 ?_
  refine lv_topi (fun x_34 ex_34 => ?_)
  have gx_34 : gi x_34 0 667 := gi_mul ex_34 (gi_c 29 29 (by decide)) gqmonth (by decide)
  refine lv_isub hx hb dX3_rightFor_22 ?_
  refine lv_topi (fun x_35 ex_35 => ?_)
  refine lv_istore_n (lv' := [(2, .int x_35), (1, .int x_32), (0, .ref rp)]) hx hb dX3_rightFor_23 rfl hl (by decide) rfl (fun ls hl => ?_)
  refine lv_aload_n hx hb dX3_rightFor_24 rfl (lv_at hl 2 rfl) ?_
  refine va_get (D := (dC, dI)) (ci := 7) (v := .int qkind) (C := RX7) (T := TX7) (N := 6) hx hb hts (fun w h => List.mem_cons_of_mem _ (jnGA_X7 w h)) hown hK hP 0 rfl rfl 1 (by decide) (hts _ (List.mem_cons_of_mem _ mGA_498)) (fun _ h9 => h9) rfl dX3_rightFor_25 ?_
  refine lv_iconst (v := 2) hx hb dX3_rightFor_28 (by decide) ?_
  refine lv_icmp_eq (tgt := 44) hx hb dX3_rightFor_29 (by decide) (fun c_36 => ?_) (fun c_36 => ?_)
  · have g_37 : gi qkind 2 2 := gi_eq c_36 (gi_c 2 2 (by decide))
    refine lv_iload_n hx hb dX3_rightFor_44 rfl (lv_at hl 1 rfl) ?_
    exact W.iret (v := x_32) hx hb hr (fun t ht hW => ⟨⟨x_32, (), rfl, (gi_any x_32), trivial⟩, hS.F ht⟩) hS.2.2 dX3_rightFor_45
  · refine lv_aload_n hx hb dX3_rightFor_32 rfl (lv_at hl 2 rfl) ?_
    refine va_get (D := (dC, dI)) (ci := 7) (v := .int qkind) (C := RX7) (T := TX7) (N := 6) hx hb hts (fun w h => List.mem_cons_of_mem _ (jnGA_X7 w h)) hown hK hP 0 rfl rfl 1 (by decide) (hts _ (List.mem_cons_of_mem _ mGA_498)) (fun _ h9 => h9) rfl dX3_rightFor_33 ?_
    refine lv_iconst (v := 1) hx hb dX3_rightFor_36 (by decide) ?_
    refine lv_icmp_ne (tgt := 46) hx hb dX3_rightFor_37 (by decide) (fun c_38 => ?_) (fun c_38 => ?_)
    · refine lv_iload_n hx hb dX3_rightFor_46 rfl (lv_at hl 0 rfl) ?_
      refine lv_if_lt (tgt := 58) hx hb dX3_rightFor_47 (by decide) (fun c_39 => ?_) (fun c_39 => ?_)
      · have g_40 : gi x_35 (-2147483648) (-1) := gi_lt_l c_39 (gi_any x_35) (gi_c 0 0 (by decide)) (by decide)
        refine lv_iconst (v := 0) hx hb dX3_rightFor_58 (by decide) ?_
        exact W.iret (v := 0) hx hb hr (fun t ht hW => ⟨⟨0, (), rfl, (gi_any 0), trivial⟩, hS.F ht⟩) hS.2.2 dX3_rightFor_59
      · have g_41 : gi x_35 0 2147483647 := gi_le_r (Int32.not_lt.mp c_39) (gi_c 0 0 (by decide)) (gi_any x_35)
        refine lv_iload_n hx hb dX3_rightFor_50 rfl (lv_at hl 0 rfl) ?_
        refine lv_aload_n hx hb dX3_rightFor_51 rfl (lv_at hl 2 rfl) ?_
        refine va_get (D := (dC, dI)) (ci := 7) (v := .int qmonth) (C := RX7) (T := TX7) (N := 6) hx hb hts (fun w h => List.mem_cons_of_mem _ (jnGA_X7 w h)) hown hK hP 0 rfl rfl 2 (by decide) (hts _ (List.mem_cons_of_mem _ mGA_493)) (fun _ h9 => h9) rfl dX3_rightFor_52 ?_
        refine lv_icmp_le (tgt := 60) hx hb dX3_rightFor_55 (by decide) (fun c_42 => ?_) (fun c_42 => ?_)
        · have g_43 : gi x_35 0 23 := gi_le_l c_42 g_41 gqmonth
          refine lv_aload_n hx hb dX3_rightFor_60 rfl (lv_at hl 2 rfl) ?_
          refine va_get (D := (dC, dI)) (ci := 7) (v := .int qkind) (C := RX7) (T := TX7) (N := 6) hx hb hts (fun w h => List.mem_cons_of_mem _ (jnGA_X7 w h)) hown hK hP 0 rfl rfl 1 (by decide) (hts _ (List.mem_cons_of_mem _ mGA_498)) (fun _ h9 => h9) rfl dX3_rightFor_61 ?_
          refine lv_if_ne (tgt := 73) hx hb dX3_rightFor_64 (by decide) (fun c_44 => ?_) (fun c_44 => ?_)
          · refine lv_iload_n hx hb dX3_rightFor_73 rfl (lv_at hl 1 rfl) ?_
            refine lv_bipush (v := (-2)) hx hb dX3_rightFor_74 (by decide) ?_
            refine lv_iload_n hx hb dX3_rightFor_76 rfl (lv_at hl 0 rfl) ?_
            refine lv_ishl hx hb dX3_rightFor_77 ?_
            refine lv_topi (fun x_45 ex_45 => ?_)
            refine lv_iand hx hb dX3_rightFor_78 ?_
            refine lv_topi (fun x_46 ex_46 => ?_)
            exact W.iret (v := x_46) hx hb hr (fun t ht hW => ⟨⟨x_46, (), rfl, (gi_any x_46), trivial⟩, hS.F ht⟩) hS.2.2 dX3_rightFor_79
          · have g_47 : gi qkind 0 0 := gi_eq c_44 (gi_c 0 0 (by decide))
            refine lv_iconst (v := 1) hx hb dX3_rightFor_67 (by decide) ?_
            refine lv_iload_n hx hb dX3_rightFor_68 rfl (lv_at hl 0 rfl) ?_
            refine lv_ishl hx hb dX3_rightFor_69 ?_
            refine lv_topi (fun x_48 ex_48 => ?_)
            refine lv_goto (tgt := 79) hx hb dX3_rightFor_70 (by decide) ?_
            exact W.iret (v := x_48) hx hb hr (fun t ht hW => ⟨⟨x_48, (), rfl, (gi_any x_48), trivial⟩, hS.F ht⟩) hS.2.2 dX3_rightFor_79
        · have g_49 : gi x_35 1 2147483647 := gi_lt_r (Int32.not_le.mp c_42) gqmonth g_41 (by decide)
          refine lv_iconst (v := 0) hx hb dX3_rightFor_58 (by decide) ?_
          exact W.iret (v := 0) hx hb hr (fun t ht hW => ⟨⟨0, (), rfl, (gi_any 0), trivial⟩, hS.F ht⟩) hS.2.2 dX3_rightFor_59
    · have g_50 : gi qkind 1 1 := gi_eq c_38 (gi_c 1 1 (by decide))
      refine lv_iload_n hx hb dX3_rightFor_40 rfl (lv_at hl 0 rfl) ?_
      refine lv_if_ge (tgt := 46) hx hb dX3_rightFor_41 (by decide) (fun c_51 => ?_) (fun c_51 => ?_)
      · have g_52 : gi x_35 0 2147483647 := gi_le_r c_51 (gi_c 0 0 (by decide)) (gi_any x_35)
        refine lv_iload_n hx hb dX3_rightFor_46 rfl (lv_at hl 0 rfl) ?_
        refine lv_if_lt (tgt := 58) hx hb dX3_rightFor_47 (by decide) (fun c_53 => absurd c_53 (gi_no_lt g_52 (gi_c 0 0 (by decide)) (by decide))) (fun c_53 => ?_)
        refine lv_iload_n hx hb dX3_rightFor_50 rfl (lv_at hl 0 rfl) ?_
        refine lv_aload_n hx hb dX3_rightFor_51 rfl (lv_at hl 2 rfl) ?_
        refine va_get (D := (dC, dI)) (ci := 7) (v := .int qmonth) (C := RX7) (T := TX7) (N := 6) hx hb hts (fun w h => List.mem_cons_of_mem _ (jnGA_X7 w h)) hown hK hP 0 rfl rfl 2 (by decide) (hts _ (List.mem_cons_of_mem _ mGA_493)) (fun _ h9 => h9) rfl dX3_rightFor_52 ?_
        refine lv_icmp_le (tgt := 60) hx hb dX3_rightFor_55 (by decide) (fun c_54 => ?_) (fun c_54 => ?_)
        · have g_55 : gi x_35 0 23 := gi_le_l c_54 g_52 gqmonth
          refine lv_aload_n hx hb dX3_rightFor_60 rfl (lv_at hl 2 rfl) ?_
          refine va_get (D := (dC, dI)) (ci := 7) (v := .int qkind) (C := RX7) (T := TX7) (N := 6) hx hb hts (fun w h => List.mem_cons_of_mem _ (jnGA_X7 w h)) hown hK hP 0 rfl rfl 1 (by decide) (hts _ (List.mem_cons_of_mem _ mGA_498)) (fun _ h9 => h9) rfl dX3_rightFor_61 ?_
          refine lv_if_ne (tgt := 73) hx hb dX3_rightFor_64 (by decide) (fun c_56 => ?_) (fun c_56 => absurd c_56 (gi_no_eq g_50 (gi_c 0 0 (by decide)) (by decide)))
          refine lv_iload_n hx hb dX3_rightFor_73 rfl (lv_at hl 1 rfl) ?_
          refine lv_bipush (v := (-2)) hx hb dX3_rightFor_74 (by decide) ?_
          refine lv_iload_n hx hb dX3_rightFor_76 rfl (lv_at hl 0 rfl) ?_
          refine lv_ishl hx hb dX3_rightFor_77 ?_
          refine lv_topi (fun x_57 ex_57 => ?_)
          refine lv_iand hx hb dX3_rightFor_78 ?_
          refine lv_topi (fun x_58 ex_58 => ?_)
          exact W.iret (v := x_58) hx hb hr (fun t ht hW => ⟨⟨x_58, (), rfl, (gi_any x_58), trivial⟩, hS.F ht⟩) hS.2.2 dX3_rightFor_79
        · have g_59 : gi x_35 1 2147483647 := gi_lt_r (Int32.not_le.mp c_54) gqmonth g_52 (by decide)
          refine lv_iconst (v := 0) hx hb dX3_rightFor_58 (by decide) ?_
          exact W.iret (v := 0) hx hb hr (fun t ht hW => ⟨⟨0, (), rfl, (gi_any 0), trivial⟩, hS.F ht⟩) hS.2.2 dX3_rightFor_59
      · have g_60 : gi x_35 (-2147483648) (-1) := gi_lt_l (Int32.not_le.mp c_51) (gi_any x_35) (gi_c 0 0 (by decide)) (by decide)
        refine lv_iload_n hx hb dX3_rightFor_44 rfl (lv_at hl 1 rfl) ?_
        exact W.iret (v := x_32) hx hb hr (fun t ht hW => ⟨⟨x_32, (), rfl, (gi_any x_32), trivial⟩, hS.F ht⟩) hS.2.2 dX3_rightFor_45
theorem dX3_narrow_0 : decode cX3_narrow 0 = .ok (.aload_n 0, 1) := by decide +kernel
theorem dX3_narrow_1 : decode cX3_narrow 1 = .ok (.getfield 9, 3) := by decide +kernel
theorem dX3_narrow_4 : decode cX3_narrow 4 = .ok (.aload_n 1, 1) := by decide +kernel
theorem dX3_narrow_5 : decode cX3_narrow 5 = .ok (.getfield 33, 3) := by decide +kernel
theorem dX3_narrow_8 : decode cX3_narrow 8 = .ok (.dup2, 1) := by decide +kernel
theorem dX3_narrow_9 : decode cX3_narrow 9 = .ok (.iaload, 1) := by decide +kernel
theorem dX3_narrow_10 : decode cX3_narrow 10 = .ok (.aload_n 1, 1) := by decide +kernel
theorem dX3_narrow_11 : decode cX3_narrow 11 = .ok (.invokestatic 44, 3) := by decide +kernel
theorem dX3_narrow_14 : decode cX3_narrow 14 = .ok (.iand, 1) := by decide +kernel
theorem dX3_narrow_15 : decode cX3_narrow 15 = .ok (.iastore, 1) := by decide +kernel
theorem dX3_narrow_16 : decode cX3_narrow 16 = .ok (.return_, 1) := by decide +kernel
set_option maxHeartbeats 4000000 in
set_option maxRecDepth 100000 in
theorem sX3_narrow (l : Launch) (dC : Nat → ClassId) (dI : Nat → Nat → Nat) (sz : Nat) (h0 : Nat) (al : Nat) (rp : Nat) (months : Int32) (full : Int32) (lean : Int32) (on : Nat) (kal : ClassId) (fal : Nat → Int32) (qplace : Int32) (qkind : Int32) (qmonth : Int32) (qday : Int32) (qknown : Int32) (qstruck : Int32) (gmonths : gi months 0 24) (gfull : gi full 0 5) (glean : gi lean 0 5) (gqplace : gi qplace 0 5) (gqmonth : gi qmonth 0 23) (gqstruck : gi qstruck 0 1) : Met l yX3_narrow (.code yX3_narrow cX3_narrow 2 none :: wsGA) ({ frames := 1, cells := 0, slots := 0, locals := 22 }) (va_Pc [.ref h0, .ref rp] (fun U => U.heap.size = sz ∧ va_P (dC, dI) vwCl [(h0, .inr (3, [.int months, .int full, .int lean, .ref al, .ref on])), (al, .inl (kal, 25, .inl fal))] U.heap ∧ va_K (dC, dI) vwCl [(kal, .int)] U ∧ va_D (fun _ => True) [(h0, .inr (3, [.int months, .int full, .int lean, .ref al, .ref on])), (al, .inl (kal, 25, .inl fal))] ∧ nzA U ∧ va_P (dC, dI) vwCl [(rp, .inr (7, [.int qplace, .int qkind, .int qmonth, .int qday, .int qknown, .int qstruck]))] U.heap ∧ gz_ap (va_A [(h0, .inr (3, [.int months, .int full, .int lean, .ref al, .ref on])), (al, .inl (kal, 25, .inl fal))] sz) [(rp, .inr (7, [.int qplace, .int qkind, .int qmonth, .int qday, .int qknown, .int qstruck]))])) (va_Qv (fun (u : Unit) => True) (fun _ t => ∃ (z1 : Nat → Int32), va_P (dC, dI) vwCl [(h0, .inr (3, [.int months, .int full, .int lean, .ref al, .ref on])), (al, .inl (kal, 25, .inl z1))] t.heap ∧ va_D (va_A [(h0, .inr (3, [.int months, .int full, .int lean, .ref al, .ref on])), (al, .inl (kal, 25, .inl fal))] sz) [(h0, .inr (3, [.int months, .int full, .int lean, .ref al, .ref on])), (al, .inl (kal, 25, .inl z1))]) (va_A [(h0, .inr (3, [.int months, .int full, .int lean, .ref al, .ref on])), (al, .inl (kal, 25, .inl fal))] sz)) 0 0 (va_A [(h0, .inr (3, [.int months, .int full, .int lean, .ref al, .ref on])), (al, .inl (kal, 25, .inl fal))] sz) := by
  refine Met.ofW (cc := cX3_narrow) (maxL := 2) (ret := none) (by decide) rfl ?_
  intro p e s m args below meth c s₁ B hml hv
  obtain ⟨rfl, hsz, hP, hK, hD0, hz, hR, hRA⟩ := hv
  have hx := B.exec
  have hb := B.bytes
  have hr := B.returns
  have hts := atoms_spec (ws := (.code yX3_narrow cX3_narrow 2 none :: wsGA)) B.pre
  have hown : s.vm.findClass RX3 = some m.cls := findClass_of_methodNamed B.named
  have hlocks := B.notSynchronized
  subst hsz
  have hD := hD0.self (sz := s.heap.size)
  generalize hAe : va_A [(h0, .inr (3, [.int months, .int full, .int lean, .ref al, .ref on])), (al, .inl (kal, 25, .inl fal))] s.heap.size = A at hD hRA ⊢
  have hA : ∀ q : Nat, s.heap.size ≤ q → A q := fun q h => by rw [← hAe]; exact Or.inr h
  have hS : va_S A s.heap s.heap [] := va_S.rf
  have hl := lv_entry ([.ref h0, .ref rp]) (n := 2) (Nat.le_of_ble_eq_true rfl)
  rw [lg_entry_eq]
  generalize (lg_sl ([.ref h0, .ref rp]) ++ List.replicate (2 - (lg_sl ([.ref h0, .ref rp])).length) Slot.unset).toArray = ls at hl ⊢
  have hl : lv_has ls 2 [(0, .ref h0), (1, .ref rp)] := hl
  refine lv_aload_n hx hb dX3_narrow_0 rfl (lv_at hl 0 rfl) ?_
  refine va_get (D := (dC, dI)) (ci := 3) (v := .ref al) (C := RX3) (T := TX3) (N := 5) hx hb hts (fun w h => List.mem_cons_of_mem _ (jnGA_X3 w h)) hown hK hP 0 rfl rfl 3 (by decide) (hts _ (List.mem_cons_of_mem _ mGA_94)) (fun _ h9 => h9) rfl dX3_narrow_1 ?_
  refine lv_aload_n hx hb dX3_narrow_4 rfl (lv_at hl 1 rfl) ?_
  refine va_get (D := (dC, dI)) (ci := 7) (v := .int qmonth) (C := RX7) (T := TX7) (N := 6) hx hb hts (fun w h => List.mem_cons_of_mem _ (jnGA_X7 w h)) hown hK (gz_ro hR hRA hS) 0 rfl rfl 2 (by decide) (hts _ (List.mem_cons_of_mem _ mGA_493)) (fun _ h9 => h9) rfl dX3_narrow_5 ?_
  refine lv_dup2_11 hx hb dX3_narrow_8 rfl rfl ?_
  refine va_iald hx hb hK hP 1 0 rfl rfl (gi_in gqmonth (by decide)) dX3_narrow_9 ?_
  refine lv_topi (fun x_9 ex_9 => ?_)
  refine lv_aload_n hx hb dX3_narrow_10 rfl (lv_at hl 1 rfl) ?_
  have hPc : va_P (dC, dI) vwCl [(rp, .inr (7, [.int qplace, .int qkind, .int qmonth, .int qday, .int qknown, .int qstruck]))] s.heap := ((gz_ro hR hRA hS).sub [0] rfl)
  have hKc := hK.sub (tys' := []) [] rfl
  refine va_calli (va_runS (As := [.ref rp]) (rest := [.int x_9, .int qmonth, .ref al]) ⟨hx, hb, hml, hown, hts⟩ (sX3_rightFor l dC dI rp qplace qkind qmonth qday qknown qstruck gqplace gqmonth gqstruck) (cwS 1 hts (gz_gS mGA_494 mGA_495 mGA_18 mGA_496 goodGA) rfl rfl rfl (by decide +kernel) ⟨Nat.le_of_ble_eq_true rfl, Nat.le_of_ble_eq_true rfl⟩) ⟨fun a U g mk q => by obtain ⟨q0, qP, qK, qZ⟩ := q; exact ⟨q0, qP, va_K.moved (u := U) (U := U.calling g mk a) (Vm.Alike.refl U.vm) qK, nzA_same (u := U) (U := U.calling g mk a) rfl qZ⟩, fun U hU hW => ⟨rfl, by rw [hU]; exact hPc, va_K.moved hW.alike hKc, nzA_warm hW hz⟩⟩ rfl rfl hl.1 rfl (lv_room (Nat.le_of_ble_eq_true rfl)) dX3_narrow_11 ⟨Nat.zero_le _, Nat.zero_le _⟩) hS (fun q _ h => h.elim) (fun q h => h.elim) (fun r_10 u t H1 locs ht hvm hw hB hz1 hk1 hS => ?_)
  have hP := gz_keep hP hk1
  generalize H1 = H at hP hS ⊢
  refine lv_iand hx hb dX3_narrow_14 ?_
  refine lv_topi (fun x_11 ex_11 => ?_)
  refine va_iast hx hb hK hP hD hS 1 0 rfl rfl (gi_in gqmonth (by decide)) dX3_narrow_15 (fun H locs hP hD hS => ?_)
  have hP : va_P (dC, dI) vwCl [(h0, .inr (3, [.int months, .int full, .int lean, .ref al, .ref on])), (al, .inl (kal, 25, .inl (upd fal (qmonth : Int32).toNatClampNeg x_11)))] H := hP
  have hD : va_D A [(h0, .inr (3, [.int months, .int full, .int lean, .ref al, .ref on])), (al, .inl (kal, 25, .inl (upd fal (qmonth : Int32).toNatClampNeg x_11)))] := hD
  generalize upd fal (qmonth : Int32).toNatClampNeg x_11 = f_12 at hP hD
  exact W.vret hx hb hr (fun t ht hW => ⟨⟨(), rfl, trivial, f_12, by rw [ht]; exact hP, hD⟩, hS.F ht⟩) hS.2.2 dX3_narrow_16
theorem dX7_isKnownBy_0 : decode cX7_isKnownBy 0 = .ok (.aload_n 0, 1) := by decide +kernel
theorem dX7_isKnownBy_1 : decode cX7_isKnownBy 1 = .ok (.getfield 7, 3) := by decide +kernel
theorem dX7_isKnownBy_4 : decode cX7_isKnownBy 4 = .ok (.ifCond .ne 15, 3) := by decide +kernel
theorem dX7_isKnownBy_7 : decode cX7_isKnownBy 7 = .ok (.aload_n 0, 1) := by decide +kernel
theorem dX7_isKnownBy_8 : decode cX7_isKnownBy 8 = .ok (.getfield 13, 3) := by decide +kernel
theorem dX7_isKnownBy_11 : decode cX7_isKnownBy 11 = .ok (.iload_n 1, 1) := by decide +kernel
theorem dX7_isKnownBy_12 : decode cX7_isKnownBy 12 = .ok (.if_icmp .gt 7, 3) := by decide +kernel
theorem dX7_isKnownBy_15 : decode cX7_isKnownBy 15 = .ok (.iconst 1, 1) := by decide +kernel
theorem dX7_isKnownBy_16 : decode cX7_isKnownBy 16 = .ok (.goto 4, 3) := by decide +kernel
theorem dX7_isKnownBy_19 : decode cX7_isKnownBy 19 = .ok (.iconst 0, 1) := by decide +kernel
theorem dX7_isKnownBy_20 : decode cX7_isKnownBy 20 = .ok (.ireturn, 1) := by decide +kernel
set_option maxHeartbeats 4000000 in
set_option maxRecDepth 100000 in
theorem sX7_isKnownBy (l : Launch) (dC : Nat → ClassId) (dI : Nat → Nat → Nat) (h0 : Nat) (place : Int32) (kind : Int32) (month : Int32) (day : Int32) (known : Int32) (struck : Int32) (p0 : Int32) (gplace : gi place 0 5) (gmonth : gi month 0 23) (gstruck : gi struck 0 1) : Met l yX7_isKnownBy (.code yX7_isKnownBy cX7_isKnownBy 2 (some .boolean) :: wsGA) ({ frames := 0, cells := 0, slots := 0, locals := 0 }) (va_Pc [.ref h0, .int p0] (fun U => va_P (dC, dI) vwCl [(h0, .inr (7, [.int place, .int kind, .int month, .int day, .int known, .int struck]))] U.heap ∧ va_K (dC, dI) vwCl [] U ∧ nzA U)) (va_Qi (fun (r : Int32) (u : Unit) => gi r 0 1) (fun _ _ => True) (fun _ => False)) 0 0 (fun _ => False) := by
  refine Met.ofW (cc := cX7_isKnownBy) (maxL := 2) (ret := (some .boolean)) (by decide) rfl ?_
  intro p e s m args below meth c s₁ B hml hv
  obtain ⟨rfl, hP, hK, hz⟩ := hv
  have hx := B.exec
  have hb := B.bytes
  have hr := B.returns
  have hts := atoms_spec (ws := (.code yX7_isKnownBy cX7_isKnownBy 2 (some .boolean) :: wsGA)) B.pre
  have hown : s.vm.findClass RX7 = some m.cls := findClass_of_methodNamed B.named
  have hlocks := B.notSynchronized
  have hS : va_S (fun _ => False) s.heap s.heap [] := va_S.rf
  have hl := lv_entry ([.ref h0, .int p0]) (n := 2) (Nat.le_of_ble_eq_true rfl)
  rw [lg_entry_eq]
  generalize (lg_sl ([.ref h0, .int p0]) ++ List.replicate (2 - (lg_sl ([.ref h0, .int p0])).length) Slot.unset).toArray = ls at hl ⊢
  have hl : lv_has ls 2 [(0, .ref h0), (1, .int p0)] := hl
  refine lv_aload_n hx hb dX7_isKnownBy_0 rfl (lv_at hl 0 rfl) ?_
  refine va_get (D := (dC, dI)) (ci := 7) (v := .int struck) (C := RX7) (T := TX7) (N := 6) hx hb hts (fun w h => List.mem_cons_of_mem _ (jnGA_X7 w h)) hown hK hP 0 rfl rfl 5 (by decide) (hts _ (List.mem_cons_of_mem _ mGA_441)) (fun _ h9 => h9) rfl dX7_isKnownBy_1 ?_
  refine lv_if_ne (tgt := 19) hx hb dX7_isKnownBy_4 (by decide) (fun c_7 => ?_) (fun c_7 => ?_)
  · have g_8 : gi struck 1 1 := gi_ne_lo c_7 gstruck (gi_c 0 0 (by decide)) (by decide)
    refine lv_iconst (v := 0) hx hb dX7_isKnownBy_19 (by decide) ?_
    exact W.zret (v := 0) hx hb hr (by decide) (fun t ht hW => ⟨⟨0, (), rfl, (gi_w (gi_c 0 0 (by decide)) (by decide)), trivial⟩, hS.F ht⟩) hS.2.2 dX7_isKnownBy_20
  · have g_9 : gi struck 0 0 := gi_eq c_7 (gi_c 0 0 (by decide))
    refine lv_aload_n hx hb dX7_isKnownBy_7 rfl (lv_at hl 0 rfl) ?_
    refine va_get (D := (dC, dI)) (ci := 7) (v := .int known) (C := RX7) (T := TX7) (N := 6) hx hb hts (fun w h => List.mem_cons_of_mem _ (jnGA_X7 w h)) hown hK hP 0 rfl rfl 4 (by decide) (hts _ (List.mem_cons_of_mem _ mGA_442)) (fun _ h9 => h9) rfl dX7_isKnownBy_8 ?_
    refine lv_iload_n hx hb dX7_isKnownBy_11 rfl (lv_at hl 1 rfl) ?_
    refine lv_icmp_gt (tgt := 19) hx hb dX7_isKnownBy_12 (by decide) (fun c_10 => ?_) (fun c_10 => ?_)
    · have g_11 : gi p0 (-2147483648) 2147483646 := gi_lt_l c_10 (gi_any p0) (gi_any known) (by decide)
      have g_12 : gi known (-2147483647) 2147483647 := gi_lt_r c_10 (gi_any p0) (gi_any known) (by decide)
      refine lv_iconst (v := 0) hx hb dX7_isKnownBy_19 (by decide) ?_
      exact W.zret (v := 0) hx hb hr (by decide) (fun t ht hW => ⟨⟨0, (), rfl, (gi_w (gi_c 0 0 (by decide)) (by decide)), trivial⟩, hS.F ht⟩) hS.2.2 dX7_isKnownBy_20
    · refine lv_iconst (v := 1) hx hb dX7_isKnownBy_15 (by decide) ?_
      refine lv_goto (tgt := 20) hx hb dX7_isKnownBy_16 (by decide) ?_
      exact W.zret (v := 1) hx hb hr (by decide) (fun t ht hW => ⟨⟨1, (), rfl, (gi_w (gi_c 1 1 (by decide)) (by decide)), trivial⟩, hS.F ht⟩) hS.2.2 dX7_isKnownBy_20
theorem dJ7_fill_53178_0 : decode cJ7_fill_53178 0 = .ok (.iconst 0, 1) := by decide +kernel
theorem dJ7_fill_53178_1 : decode cJ7_fill_53178 1 = .ok (.istore_n 2, 1) := by decide +kernel
theorem dJ7_fill_53178_2 : decode cJ7_fill_53178 2 = .ok (.aload_n 0, 1) := by decide +kernel
theorem dJ7_fill_53178_3 : decode cJ7_fill_53178 3 = .ok (.arraylength, 1) := by decide +kernel
theorem dJ7_fill_53178_4 : decode cJ7_fill_53178 4 = .ok (.istore_n 3, 1) := by decide +kernel
theorem dJ7_fill_53178_5 : decode cJ7_fill_53178 5 = .ok (.iload_n 2, 1) := by decide +kernel
theorem dJ7_fill_53178_6 : decode cJ7_fill_53178 6 = .ok (.iload_n 3, 1) := by decide +kernel
theorem dJ7_fill_53178_7 : decode cJ7_fill_53178 7 = .ok (.if_icmp .ge 13, 3) := by decide +kernel
theorem dJ7_fill_53178_10 : decode cJ7_fill_53178 10 = .ok (.aload_n 0, 1) := by decide +kernel
theorem dJ7_fill_53178_11 : decode cJ7_fill_53178 11 = .ok (.iload_n 2, 1) := by decide +kernel
theorem dJ7_fill_53178_12 : decode cJ7_fill_53178 12 = .ok (.iload_n 1, 1) := by decide +kernel
theorem dJ7_fill_53178_13 : decode cJ7_fill_53178 13 = .ok (.iastore, 1) := by decide +kernel
theorem dJ7_fill_53178_14 : decode cJ7_fill_53178 14 = .ok (.iinc 2 1, 3) := by decide +kernel
theorem dJ7_fill_53178_17 : decode cJ7_fill_53178 17 = .ok (.goto (-12), 3) := by decide +kernel
theorem dJ7_fill_53178_20 : decode cJ7_fill_53178 20 = .ok (.return_, 1) := by decide +kernel
set_option maxHeartbeats 4000000 in
set_option maxRecDepth 100000 in
theorem lp_sJ7_fill325 {p : Program} {l : Launch} {e : Env} {R : Room} {s : State} {m : MethodId} {args : Array Value} {below : List Frame} {meth : Method} {c : Code} {Q : State → Prop} {A : Nat → Prop} {cells slots : Nat} {dC : Nat → ClassId} {dI : Nat → Nat → Nat} (a : Nat) (ka : ClassId) (fa : Nat → Int32) (p1 : Int32)  (hx : p.tables.exec = Jvm.exec) (hb : c.code = cJ7_fill_53178) (hml : c.maxLocals = 4) (hown : s.vm.findClass RJ7 = some m.cls) (hts : ∀ w ∈ ((.code yJ7_fill_53178 cJ7_fill_53178 4 none :: wsGA) : List Cond), w.before args s = true) (hK : va_K (dC, dI) vwCl [(ka, .int)] s) (hz : nzA s) (hA : ∀ q : Nat, s.heap.size ≤ q → A q) (hRf : 0 ≤ R.frames) (hRl : 0 ≤ R.locals) (hRc : cells ≤ R.cells) (hRs : slots ≤ R.slots) (kr20 : ∀ (z0 : Nat → Int32) (H : Heap) (locs : List Loc) (ls : Array Slot), va_P (dC, dI) vwCl [(a, .inl (ka, 325, .inl z0))] H → va_D A [(a, .inl (ka, 325, .inl z0))] → va_S A s.heap H locs → lv_has ls 4 [] → W p l e R s m args below meth c H locs cells slots Q (F0 m 20 ls [])) : ∀ z : Nat, (∀ (v2 : Int32) (v3 : Int32) (z0 : Nat → Int32) (H : Heap) (locs : List Loc) (ls : Array Slot), gi v2 0 599 → gi v3 325 325 → 1199 + (-2) * v2.toInt < (z : Int) → va_P (dC, dI) vwCl [(a, .inl (ka, 325, .inl z0))] H → va_D A [(a, .inl (ka, 325, .inl z0))] → va_S A s.heap H locs → lv_has ls 4 [(0, .ref a), (1, .int p1), (2, .int v2), (3, .int v3)] → W p l e R s m args below meth c H locs cells slots Q (F0 m 5 ls [])) := by
  intro z
  induction z with
  | zero =>
    intro v2 v3 z0 H locs ls gv2 gv3 hmu hP hD hS hl
    exact absurd hmu (by have hv21 := gv2.1; have hv22 := gv2.2; omega)
  | succ z ih =>
      intro v2 v3 z0 H locs ls gv2 gv3 hmu hP hD hS hl
      refine lv_iload_n hx hb dJ7_fill_53178_5 rfl (lv_at hl 2 rfl) ?_
      refine lv_iload_n hx hb dJ7_fill_53178_6 rfl (lv_at hl 3 rfl) ?_
      refine lv_icmp_ge (tgt := 20) hx hb dJ7_fill_53178_7 (by decide) (fun c_84 => ?_) (fun c_84 => ?_)
      · have g_85 : gi v2 325 599 := gi_le_r c_84 gv3 gv2
        exact kr20 z0 _ _ _ hP hD hS (lv_sub hl [] rfl)
      · have g_86 : gi v2 0 324 := gi_lt_l (Int32.not_le.mp c_84) gv2 gv3 (by decide)
        refine lv_aload_n hx hb dJ7_fill_53178_10 rfl (lv_at hl 0 rfl) ?_
        refine lv_iload_n hx hb dJ7_fill_53178_11 rfl (lv_at hl 2 rfl) ?_
        refine lv_iload_n hx hb dJ7_fill_53178_12 rfl (lv_at hl 1 rfl) ?_
        refine va_iast hx hb hK hP hD hS 0 0 rfl rfl (gi_in g_86 (by decide)) dJ7_fill_53178_13 (fun H locs hP hD hS => ?_)
        have hP : va_P (dC, dI) vwCl [(a, .inl (ka, 325, .inl (upd z0 (v2 : Int32).toNatClampNeg p1)))] H := hP
        have hD : va_D A [(a, .inl (ka, 325, .inl (upd z0 (v2 : Int32).toNatClampNeg p1)))] := hD
        generalize upd z0 (v2 : Int32).toNatClampNeg p1 = f_87 at hP hD
        obtain ⟨x_88, ex_88⟩ : ∃ y : Int32, y = v2 + 1 := ⟨_, rfl⟩
        have gx_88 : gi x_88 1 325 := gi_add ex_88 g_86 (gi_c 1 1 (by decide)) (by decide)
        refine lv_iinc (v := x_88) (lv' := [(2, .int x_88), (0, .ref a), (1, .int p1), (3, .int v3)]) hx hb dJ7_fill_53178_14 hl (k := 2) rfl (by rw [ex_88]; rfl) (by decide) rfl (fun ls hl => ?_)
        refine lv_goto (tgt := 5) hx hb dJ7_fill_53178_17 (by decide) ?_
        exact ih x_88 v3 f_87 _ _ _ (gi_w gx_88 (by decide)) gv3 (by have av2 := gv2.1; have bv2 := gv2.2; have qgx_88 := gx_88.1; have rgx_88 := gx_88.2; have igx_88 : x_88.toInt = v2.toInt + 1 := (by have hc1 : (1 : Int32).toInt = 1 := (by decide); have h9 := gi_addI ex_88 (by have h1 := g_86.1; have h2 := (gi_c 1 1 (by decide)).1; have h3 := g_86.2; have h4 := (gi_c 1 1 (by decide)).2; omega) (by have h1 := g_86.1; have h2 := (gi_c 1 1 (by decide)).1; have h3 := g_86.2; have h4 := (gi_c 1 1 (by decide)).2; omega); rw [hc1] at h9; exact h9); have qgv2 := g_86.1; have rgv2 := g_86.2; omega) hP hD hS (lv_sub hl [1, 2, 0, 3] rfl)
set_option maxHeartbeats 4000000 in
set_option maxRecDepth 100000 in
theorem sJ7_fill325 (l : Launch) (dC : Nat → ClassId) (dI : Nat → Nat → Nat) (sz : Nat) (a : Nat) (ka : ClassId) (fa : Nat → Int32) (p1 : Int32)  : Met l yJ7_fill_53178 (.code yJ7_fill_53178 cJ7_fill_53178 4 none :: wsGA) ({ frames := 0, cells := 0, slots := 0, locals := 0 }) (va_Pc [.ref a, .int p1] (fun U => U.heap.size = sz ∧ va_P (dC, dI) vwCl [(a, .inl (ka, 325, .inl fa))] U.heap ∧ va_K (dC, dI) vwCl [(ka, .int)] U ∧ va_D (fun _ => True) [(a, .inl (ka, 325, .inl fa))] ∧ nzA U)) (va_Qv (fun (u : Unit) => True) (fun _ t => ∃ (z0 : Nat → Int32), va_P (dC, dI) vwCl [(a, .inl (ka, 325, .inl z0))] t.heap ∧ va_D (va_A [(a, .inl (ka, 325, .inl fa))] sz) [(a, .inl (ka, 325, .inl z0))]) (va_A [(a, .inl (ka, 325, .inl fa))] sz)) 0 0 (va_A [(a, .inl (ka, 325, .inl fa))] sz) := by
  refine Met.ofW (cc := cJ7_fill_53178) (maxL := 4) (ret := none) (by decide) rfl ?_
  intro p e s m args below meth c s₁ B hml hv
  obtain ⟨rfl, hsz, hP, hK, hD0, hz⟩ := hv
  have hx := B.exec
  have hb := B.bytes
  have hr := B.returns
  have hts := atoms_spec (ws := (.code yJ7_fill_53178 cJ7_fill_53178 4 none :: wsGA)) B.pre
  have hown : s.vm.findClass RJ7 = some m.cls := findClass_of_methodNamed B.named
  have hlocks := B.notSynchronized
  subst hsz
  have hD := hD0.self (sz := s.heap.size)
  generalize hAe : va_A [(a, .inl (ka, 325, .inl fa))] s.heap.size = A at hD ⊢
  have hA : ∀ q : Nat, s.heap.size ≤ q → A q := fun q h => by rw [← hAe]; exact Or.inr h
  have hS : va_S A s.heap s.heap [] := va_S.rf
  have hl := lv_entry ([.ref a, .int p1]) (n := 4) (Nat.le_of_ble_eq_true rfl)
  rw [lg_entry_eq]
  generalize (lg_sl ([.ref a, .int p1]) ++ List.replicate (4 - (lg_sl ([.ref a, .int p1])).length) Slot.unset).toArray = ls at hl ⊢
  have hl : lv_has ls 4 [(0, .ref a), (1, .int p1)] := hl
  refine lv_iconst (v := 0) hx hb dJ7_fill_53178_0 (by decide) ?_
  refine lv_istore_n (lv' := [(2, .int 0), (0, .ref a), (1, .int p1)]) hx hb dJ7_fill_53178_1 rfl hl (by decide) rfl (fun ls hl => ?_)
  refine lv_aload_n hx hb dJ7_fill_53178_2 rfl (lv_at hl 1 rfl) ?_
  refine va_alen (v := 325) hx hb hK hP 0 0 rfl rfl rfl dJ7_fill_53178_3 ?_
  refine lv_istore_n (lv' := [(3, .int 325), (2, .int 0), (0, .ref a), (1, .int p1)]) hx hb dJ7_fill_53178_4 rfl hl (by decide) rfl (fun ls hl => ?_)
  refine (lp_sJ7_fill325 a ka fa p1  hx hb hml hown hts hK hz hA (Nat.le_of_ble_eq_true rfl) (Nat.le_of_ble_eq_true rfl) (Nat.zero_le _) (Nat.zero_le _) (fun z0 H locs ls hP hD hS hl => ?_) 1212) 0 325 fa _ _ _ (gi_w (gi_c 0 0 (by decide)) (by decide)) (gi_c 325 325 (by decide)) (by have k0 : (0 : Int32).toInt = 0 := (by decide); omega) hP hD hS (lv_sub hl [2, 3, 1, 0] rfl)
  · skip
    exact W.vret hx hb hr (fun t ht hW => ⟨⟨(), rfl, trivial, z0, by rw [ht]; exact hP, hD⟩, hS.F ht⟩) hS.2.2 dJ7_fill_53178_20
set_option maxHeartbeats 4000000 in
set_option maxRecDepth 100000 in
theorem lp_sJ7_fill3575 {p : Program} {l : Launch} {e : Env} {R : Room} {s : State} {m : MethodId} {args : Array Value} {below : List Frame} {meth : Method} {c : Code} {Q : State → Prop} {A : Nat → Prop} {cells slots : Nat} {dC : Nat → ClassId} {dI : Nat → Nat → Nat} (a : Nat) (ka : ClassId) (fa : Nat → Int32) (p1 : Int32)  (hx : p.tables.exec = Jvm.exec) (hb : c.code = cJ7_fill_53178) (hml : c.maxLocals = 4) (hown : s.vm.findClass RJ7 = some m.cls) (hts : ∀ w ∈ ((.code yJ7_fill_53178 cJ7_fill_53178 4 none :: wsGA) : List Cond), w.before args s = true) (hK : va_K (dC, dI) vwCl [(ka, .int)] s) (hz : nzA s) (hA : ∀ q : Nat, s.heap.size ≤ q → A q) (hRf : 0 ≤ R.frames) (hRl : 0 ≤ R.locals) (hRc : cells ≤ R.cells) (hRs : slots ≤ R.slots) (kr20 : ∀ (z0 : Nat → Int32) (H : Heap) (locs : List Loc) (ls : Array Slot), va_P (dC, dI) vwCl [(a, .inl (ka, 3575, .inl z0))] H → va_D A [(a, .inl (ka, 3575, .inl z0))] → va_S A s.heap H locs → lv_has ls 4 [] → W p l e R s m args below meth c H locs cells slots Q (F0 m 20 ls [])) : ∀ z : Nat, (∀ (v2 : Int32) (v3 : Int32) (z0 : Nat → Int32) (H : Heap) (locs : List Loc) (ls : Array Slot), gi v2 0 3575 → gi v3 3575 3575 → 7151 + (-2) * v2.toInt < (z : Int) → va_P (dC, dI) vwCl [(a, .inl (ka, 3575, .inl z0))] H → va_D A [(a, .inl (ka, 3575, .inl z0))] → va_S A s.heap H locs → lv_has ls 4 [(0, .ref a), (1, .int p1), (2, .int v2), (3, .int v3)] → W p l e R s m args below meth c H locs cells slots Q (F0 m 5 ls [])) := by
  intro z
  induction z with
  | zero =>
    intro v2 v3 z0 H locs ls gv2 gv3 hmu hP hD hS hl
    exact absurd hmu (by have hv21 := gv2.1; have hv22 := gv2.2; omega)
  | succ z ih =>
      intro v2 v3 z0 H locs ls gv2 gv3 hmu hP hD hS hl
      refine lv_iload_n hx hb dJ7_fill_53178_5 rfl (lv_at hl 2 rfl) ?_
      refine lv_iload_n hx hb dJ7_fill_53178_6 rfl (lv_at hl 3 rfl) ?_
      refine lv_icmp_ge (tgt := 20) hx hb dJ7_fill_53178_7 (by decide) (fun c_111 => ?_) (fun c_111 => ?_)
      · have g_112 : gi v2 3575 3575 := gi_le_r c_111 gv3 gv2
        exact kr20 z0 _ _ _ hP hD hS (lv_sub hl [] rfl)
      · have g_113 : gi v2 0 3574 := gi_lt_l (Int32.not_le.mp c_111) gv2 gv3 (by decide)
        refine lv_aload_n hx hb dJ7_fill_53178_10 rfl (lv_at hl 0 rfl) ?_
        refine lv_iload_n hx hb dJ7_fill_53178_11 rfl (lv_at hl 2 rfl) ?_
        refine lv_iload_n hx hb dJ7_fill_53178_12 rfl (lv_at hl 1 rfl) ?_
        refine va_iast hx hb hK hP hD hS 0 0 rfl rfl (gi_in g_113 (by decide)) dJ7_fill_53178_13 (fun H locs hP hD hS => ?_)
        have hP : va_P (dC, dI) vwCl [(a, .inl (ka, 3575, .inl (upd z0 (v2 : Int32).toNatClampNeg p1)))] H := hP
        have hD : va_D A [(a, .inl (ka, 3575, .inl (upd z0 (v2 : Int32).toNatClampNeg p1)))] := hD
        generalize upd z0 (v2 : Int32).toNatClampNeg p1 = f_114 at hP hD
        obtain ⟨x_115, ex_115⟩ : ∃ y : Int32, y = v2 + 1 := ⟨_, rfl⟩
        have gx_115 : gi x_115 1 3575 := gi_add ex_115 g_113 (gi_c 1 1 (by decide)) (by decide)
        refine lv_iinc (v := x_115) (lv' := [(2, .int x_115), (0, .ref a), (1, .int p1), (3, .int v3)]) hx hb dJ7_fill_53178_14 hl (k := 2) rfl (by rw [ex_115]; rfl) (by decide) rfl (fun ls hl => ?_)
        refine lv_goto (tgt := 5) hx hb dJ7_fill_53178_17 (by decide) ?_
        exact ih x_115 v3 f_114 _ _ _ (gi_w gx_115 (by decide)) gv3 (by have av2 := gv2.1; have bv2 := gv2.2; have qgx_115 := gx_115.1; have rgx_115 := gx_115.2; have igx_115 : x_115.toInt = v2.toInt + 1 := (by have hc1 : (1 : Int32).toInt = 1 := (by decide); have h9 := gi_addI ex_115 (by have h1 := g_113.1; have h2 := (gi_c 1 1 (by decide)).1; have h3 := g_113.2; have h4 := (gi_c 1 1 (by decide)).2; omega) (by have h1 := g_113.1; have h2 := (gi_c 1 1 (by decide)).1; have h3 := g_113.2; have h4 := (gi_c 1 1 (by decide)).2; omega); rw [hc1] at h9; exact h9); have qgv2 := g_113.1; have rgv2 := g_113.2; omega) hP hD hS (lv_sub hl [1, 2, 0, 3] rfl)
set_option maxHeartbeats 4000000 in
set_option maxRecDepth 100000 in
theorem sJ7_fill3575 (l : Launch) (dC : Nat → ClassId) (dI : Nat → Nat → Nat) (sz : Nat) (a : Nat) (ka : ClassId) (fa : Nat → Int32) (p1 : Int32)  : Met l yJ7_fill_53178 (.code yJ7_fill_53178 cJ7_fill_53178 4 none :: wsGA) ({ frames := 0, cells := 0, slots := 0, locals := 0 }) (va_Pc [.ref a, .int p1] (fun U => U.heap.size = sz ∧ va_P (dC, dI) vwCl [(a, .inl (ka, 3575, .inl fa))] U.heap ∧ va_K (dC, dI) vwCl [(ka, .int)] U ∧ va_D (fun _ => True) [(a, .inl (ka, 3575, .inl fa))] ∧ nzA U)) (va_Qv (fun (u : Unit) => True) (fun _ t => ∃ (z0 : Nat → Int32), va_P (dC, dI) vwCl [(a, .inl (ka, 3575, .inl z0))] t.heap ∧ va_D (va_A [(a, .inl (ka, 3575, .inl fa))] sz) [(a, .inl (ka, 3575, .inl z0))]) (va_A [(a, .inl (ka, 3575, .inl fa))] sz)) 0 0 (va_A [(a, .inl (ka, 3575, .inl fa))] sz) := by
  refine Met.ofW (cc := cJ7_fill_53178) (maxL := 4) (ret := none) (by decide) rfl ?_
  intro p e s m args below meth c s₁ B hml hv
  obtain ⟨rfl, hsz, hP, hK, hD0, hz⟩ := hv
  have hx := B.exec
  have hb := B.bytes
  have hr := B.returns
  have hts := atoms_spec (ws := (.code yJ7_fill_53178 cJ7_fill_53178 4 none :: wsGA)) B.pre
  have hown : s.vm.findClass RJ7 = some m.cls := findClass_of_methodNamed B.named
  have hlocks := B.notSynchronized
  subst hsz
  have hD := hD0.self (sz := s.heap.size)
  generalize hAe : va_A [(a, .inl (ka, 3575, .inl fa))] s.heap.size = A at hD ⊢
  have hA : ∀ q : Nat, s.heap.size ≤ q → A q := fun q h => by rw [← hAe]; exact Or.inr h
  have hS : va_S A s.heap s.heap [] := va_S.rf
  have hl := lv_entry ([.ref a, .int p1]) (n := 4) (Nat.le_of_ble_eq_true rfl)
  rw [lg_entry_eq]
  generalize (lg_sl ([.ref a, .int p1]) ++ List.replicate (4 - (lg_sl ([.ref a, .int p1])).length) Slot.unset).toArray = ls at hl ⊢
  have hl : lv_has ls 4 [(0, .ref a), (1, .int p1)] := hl
  refine lv_iconst (v := 0) hx hb dJ7_fill_53178_0 (by decide) ?_
  refine lv_istore_n (lv' := [(2, .int 0), (0, .ref a), (1, .int p1)]) hx hb dJ7_fill_53178_1 rfl hl (by decide) rfl (fun ls hl => ?_)
  refine lv_aload_n hx hb dJ7_fill_53178_2 rfl (lv_at hl 1 rfl) ?_
  refine va_alen (v := 3575) hx hb hK hP 0 0 rfl rfl rfl dJ7_fill_53178_3 ?_
  refine lv_istore_n (lv' := [(3, .int 3575), (2, .int 0), (0, .ref a), (1, .int p1)]) hx hb dJ7_fill_53178_4 rfl hl (by decide) rfl (fun ls hl => ?_)
  refine (lp_sJ7_fill3575 a ka fa p1  hx hb hml hown hts hK hz hA (Nat.le_of_ble_eq_true rfl) (Nat.le_of_ble_eq_true rfl) (Nat.zero_le _) (Nat.zero_le _) (fun z0 H locs ls hP hD hS hl => ?_) 7164) 0 3575 fa _ _ _ (gi_w (gi_c 0 0 (by decide)) (by decide)) (gi_c 3575 3575 (by decide)) (by have k0 : (0 : Int32).toInt = 0 := (by decide); omega) hP hD hS (lv_sub hl [2, 3, 1, 0] rfl)
  · skip
    exact W.vret hx hb hr (fun t ht hW => ⟨⟨(), rfl, trivial, z0, by rw [ht]; exact hP, hD⟩, hS.F ht⟩) hS.2.2 dJ7_fill_53178_20
theorem dX8_wipe_0 : decode cX8_wipe 0 = .ok (.aload_n 0, 1) := by decide +kernel
theorem dX8_wipe_1 : decode cX8_wipe 1 = .ok (.getfield 9, 3) := by decide +kernel
theorem dX8_wipe_4 : decode cX8_wipe 4 = .ok (.iconst 0, 1) := by decide +kernel
theorem dX8_wipe_5 : decode cX8_wipe 5 = .ok (.invokestatic 18, 3) := by decide +kernel
theorem dX8_wipe_8 : decode cX8_wipe 8 = .ok (.return_, 1) := by decide +kernel
set_option maxHeartbeats 4000000 in
set_option maxRecDepth 100000 in
theorem sX8_wipe (l : Launch) (dC : Nat → ClassId) (dI : Nat → Nat → Nat) (sz : Nat) (h0 : Nat) (co : Nat) (le : Nat) (months : Int32) (full : Int32) (lean : Int32) (kco : ClassId) (fco : Nat → Int32) (gmonths : gi months 0 24) (gfull : gi full 0 5) (glean : gi lean 0 5) : Met l yX8_wipe (.code yX8_wipe cX8_wipe 1 none :: wsGA) ({ frames := 1, cells := 0, slots := 0, locals := 23 }) (va_Pc [.ref h0] (fun U => U.heap.size = sz ∧ va_P (dC, dI) vwCl [(h0, .inr (8, [.ref co, .ref le, .int months, .int full, .int lean])), (co, .inl (kco, 325, .inl fco))] U.heap ∧ va_K (dC, dI) vwCl [(kco, .int)] U ∧ va_D (fun _ => True) [(h0, .inr (8, [.ref co, .ref le, .int months, .int full, .int lean])), (co, .inl (kco, 325, .inl fco))] ∧ nzA U)) (va_Qv (fun (u : Unit) => True) (fun _ t => ∃ (z1 : Nat → Int32), va_P (dC, dI) vwCl [(h0, .inr (8, [.ref co, .ref le, .int months, .int full, .int lean])), (co, .inl (kco, 325, .inl z1))] t.heap ∧ va_D (va_A [(h0, .inr (8, [.ref co, .ref le, .int months, .int full, .int lean])), (co, .inl (kco, 325, .inl fco))] sz) [(h0, .inr (8, [.ref co, .ref le, .int months, .int full, .int lean])), (co, .inl (kco, 325, .inl z1))]) (va_A [(h0, .inr (8, [.ref co, .ref le, .int months, .int full, .int lean])), (co, .inl (kco, 325, .inl fco))] sz)) 0 0 (va_A [(h0, .inr (8, [.ref co, .ref le, .int months, .int full, .int lean])), (co, .inl (kco, 325, .inl fco))] sz) := by
  refine Met.ofW (cc := cX8_wipe) (maxL := 1) (ret := none) (by decide) rfl ?_
  intro p e s m args below meth c s₁ B hml hv
  obtain ⟨rfl, hsz, hP, hK, hD0, hz⟩ := hv
  have hx := B.exec
  have hb := B.bytes
  have hr := B.returns
  have hts := atoms_spec (ws := (.code yX8_wipe cX8_wipe 1 none :: wsGA)) B.pre
  have hown : s.vm.findClass RX8 = some m.cls := findClass_of_methodNamed B.named
  have hlocks := B.notSynchronized
  subst hsz
  have hD := hD0.self (sz := s.heap.size)
  generalize hAe : va_A [(h0, .inr (8, [.ref co, .ref le, .int months, .int full, .int lean])), (co, .inl (kco, 325, .inl fco))] s.heap.size = A at hD ⊢
  have hA : ∀ q : Nat, s.heap.size ≤ q → A q := fun q h => by rw [← hAe]; exact Or.inr h
  have hS : va_S A s.heap s.heap [] := va_S.rf
  have hl := lv_entry ([.ref h0]) (n := 1) (Nat.le_of_ble_eq_true rfl)
  rw [lg_entry_eq]
  generalize (lg_sl ([.ref h0]) ++ List.replicate (1 - (lg_sl ([.ref h0])).length) Slot.unset).toArray = ls at hl ⊢
  have hl : lv_has ls 1 [(0, .ref h0)] := hl
  refine lv_aload_n hx hb dX8_wipe_0 rfl (lv_at hl 0 rfl) ?_
  refine va_get (D := (dC, dI)) (ci := 8) (v := .ref co) (C := RX8) (T := TX8) (N := 5) hx hb hts (fun w h => List.mem_cons_of_mem _ (jnGA_X8 w h)) hown hK hP 0 rfl rfl 0 (by decide) (hts _ (List.mem_cons_of_mem _ mGA_117)) (fun _ h9 => h9) rfl dX8_wipe_1 ?_
  refine lv_iconst (v := 0) hx hb dX8_wipe_4 (by decide) ?_
  have hPc := hP.sub (ws' := [(co, .inl (kco, 325, .inl fco))]) [1] rfl
  have hKc := hK.sub (tys' := [(kco, .int)]) [0] rfl
  have hDc := hD.sub (ws' := [(co, .inl (kco, 325, .inl fco))]) [1] (by decide) rfl
  have hFc := va_free (wc := [(co, .inl (kco, 325, .inl fco))]) hD hS hA [1] rfl
  refine va_callv (va_runS (As := [.ref co, .int 0]) (rest := []) ⟨hx, hb, hml, hown, hts⟩ (sJ7_fill325 l dC dI s.heap.size co kco fco 0) (⟨callB_of 2 hts (gz_gP mGA_568 goodGA) rfl rfl rfl (hts _ (List.mem_cons_of_mem _ mGA_567)) (hts _ (List.mem_cons_of_mem _ mGA_773)) (by decide +kernel) ⟨Nat.le_of_ble_eq_true rfl, Nat.le_of_ble_eq_true rfl⟩, (hts _ (List.mem_cons_of_mem _ mGA_566))⟩) ⟨fun a U g mk q => by obtain ⟨q0, q1, qP, qK, qD, qZ⟩ := q; exact ⟨q0, q1, qP, va_K.moved (u := U) (U := U.calling g mk a) (Vm.Alike.refl U.vm) qK, qD, nzA_same (u := U) (U := U.calling g mk a) rfl qZ⟩, fun U hU hW => ⟨rfl, by rw [hU], by rw [hU]; exact hPc, va_K.moved hW.alike hKc, hDc.weaken (fun _ _ _ _ => trivial), nzA_warm hW hz⟩⟩ rfl rfl hl.1 rfl (lv_room (Nat.le_of_ble_eq_true rfl)) dX8_wipe_5 ⟨Nat.zero_le _, Nat.zero_le _⟩) hS (fun q _ h => hFc q h) hFc (fun u t H1 locs ht hvm hw hB hz1 hk1 hS => ?_)
  obtain ⟨f_6, hP1, hD1⟩ := hB
  rw [ht] at hP1
  obtain ⟨hP, hD⟩ := va_join (wr := [(h0, .inr (8, [.ref co, .ref le, .int months, .int full, .int lean]))]) (w1 := [(co, .inl (kco, 325, .inl f_6))]) hP hD [1] [0] rfl rfl (by decide) (by decide) hk1 hFc hP1 hD1
  have hP := hP.sub (ws' := [(h0, .inr (8, [.ref co, .ref le, .int months, .int full, .int lean])), (co, .inl (kco, 325, .inl f_6))]) [0, 1] rfl
  have hD := hD.sub (ws' := [(h0, .inr (8, [.ref co, .ref le, .int months, .int full, .int lean])), (co, .inl (kco, 325, .inl f_6))]) [0, 1] (by decide) rfl
  generalize H1 = H at hP hS ⊢
  exact W.vret hx hb hr (fun t ht hW => ⟨⟨(), rfl, trivial, f_6, by rw [ht]; exact hP, hD⟩, hS.F ht⟩) hS.2.2 dX8_wipe_8
theorem dX8_charge_0 : decode cX8_charge 0 = .ok (.aload_n 0, 1) := by decide +kernel
theorem dX8_charge_1 : decode cX8_charge 1 = .ok (.getfield 9, 3) := by decide +kernel
theorem dX8_charge_4 : decode cX8_charge 4 = .ok (.iload_n 1, 1) := by decide +kernel
theorem dX8_charge_5 : decode cX8_charge 5 = .ok (.iload_n 2, 1) := by decide +kernel
theorem dX8_charge_6 : decode cX8_charge 6 = .ok (.invokestatic 24, 3) := by decide +kernel
theorem dX8_charge_9 : decode cX8_charge 9 = .ok (.dup2, 1) := by decide +kernel
theorem dX8_charge_10 : decode cX8_charge 10 = .ok (.iaload, 1) := by decide +kernel
theorem dX8_charge_11 : decode cX8_charge 11 = .ok (.iload_n 3, 1) := by decide +kernel
theorem dX8_charge_12 : decode cX8_charge 12 = .ok (.iadd, 1) := by decide +kernel
theorem dX8_charge_13 : decode cX8_charge 13 = .ok (.iastore, 1) := by decide +kernel
theorem dX8_charge_14 : decode cX8_charge 14 = .ok (.return_, 1) := by decide +kernel
set_option maxHeartbeats 4000000 in
set_option maxRecDepth 100000 in
theorem sX8_charge (l : Launch) (dC : Nat → ClassId) (dI : Nat → Nat → Nat) (sz : Nat) (h0 : Nat) (co : Nat) (le : Nat) (months : Int32) (full : Int32) (lean : Int32) (kco : ClassId) (fco : Nat → Int32) (p0 : Int32) (p1 : Int32) (p2 : Int32) (gmonths : gi months 0 24) (gfull : gi full 0 5) (glean : gi lean 0 5) (gp0 : gi p0 0 24) (gp1 : gi p1 0 24) : Met l yX8_charge (.code yX8_charge cX8_charge 4 none :: wsGA) ({ frames := 1, cells := 0, slots := 0, locals := 21 }) (va_Pc [.ref h0, .int p0, .int p1, .int p2] (fun U => U.heap.size = sz ∧ va_P (dC, dI) vwCl [(h0, .inr (8, [.ref co, .ref le, .int months, .int full, .int lean])), (co, .inl (kco, 325, .inl fco))] U.heap ∧ va_K (dC, dI) vwCl [(kco, .int)] U ∧ va_D (fun _ => True) [(h0, .inr (8, [.ref co, .ref le, .int months, .int full, .int lean])), (co, .inl (kco, 325, .inl fco))] ∧ nzA U)) (va_Qv (fun (u : Unit) => True) (fun _ t => ∃ (z1 : Nat → Int32), va_P (dC, dI) vwCl [(h0, .inr (8, [.ref co, .ref le, .int months, .int full, .int lean])), (co, .inl (kco, 325, .inl z1))] t.heap ∧ va_D (va_A [(h0, .inr (8, [.ref co, .ref le, .int months, .int full, .int lean])), (co, .inl (kco, 325, .inl fco))] sz) [(h0, .inr (8, [.ref co, .ref le, .int months, .int full, .int lean])), (co, .inl (kco, 325, .inl z1))]) (va_A [(h0, .inr (8, [.ref co, .ref le, .int months, .int full, .int lean])), (co, .inl (kco, 325, .inl fco))] sz)) 0 0 (va_A [(h0, .inr (8, [.ref co, .ref le, .int months, .int full, .int lean])), (co, .inl (kco, 325, .inl fco))] sz) := by
  refine Met.ofW (cc := cX8_charge) (maxL := 4) (ret := none) (by decide) rfl ?_
  intro p e s m args below meth c s₁ B hml hv
  obtain ⟨rfl, hsz, hP, hK, hD0, hz⟩ := hv
  have hx := B.exec
  have hb := B.bytes
  have hr := B.returns
  have hts := atoms_spec (ws := (.code yX8_charge cX8_charge 4 none :: wsGA)) B.pre
  have hown : s.vm.findClass RX8 = some m.cls := findClass_of_methodNamed B.named
  have hlocks := B.notSynchronized
  subst hsz
  have hD := hD0.self (sz := s.heap.size)
  generalize hAe : va_A [(h0, .inr (8, [.ref co, .ref le, .int months, .int full, .int lean])), (co, .inl (kco, 325, .inl fco))] s.heap.size = A at hD ⊢
  have hA : ∀ q : Nat, s.heap.size ≤ q → A q := fun q h => by rw [← hAe]; exact Or.inr h
  have hS : va_S A s.heap s.heap [] := va_S.rf
  have hl := lv_entry ([.ref h0, .int p0, .int p1, .int p2]) (n := 4) (Nat.le_of_ble_eq_true rfl)
  rw [lg_entry_eq]
  generalize (lg_sl ([.ref h0, .int p0, .int p1, .int p2]) ++ List.replicate (4 - (lg_sl ([.ref h0, .int p0, .int p1, .int p2])).length) Slot.unset).toArray = ls at hl ⊢
  have hl : lv_has ls 4 [(0, .ref h0), (1, .int p0), (2, .int p1), (3, .int p2)] := hl
  refine lv_aload_n hx hb dX8_charge_0 rfl (lv_at hl 0 rfl) ?_
  refine va_get (D := (dC, dI)) (ci := 8) (v := .ref co) (C := RX8) (T := TX8) (N := 5) hx hb hts (fun w h => List.mem_cons_of_mem _ (jnGA_X8 w h)) hown hK hP 0 rfl rfl 0 (by decide) (hts _ (List.mem_cons_of_mem _ mGA_117)) (fun _ h9 => h9) rfl dX8_charge_1 ?_
  refine lv_iload_n hx hb dX8_charge_4 rfl (lv_at hl 1 rfl) ?_
  refine lv_iload_n hx hb dX8_charge_5 rfl (lv_at hl 2 rfl) ?_
  have hPc := hP.sub (ws' := []) [] rfl
  have hKc := hK.sub (tys' := []) [] rfl
  refine va_calli (va_runSN (As := [.int p0, .int p1]) (rest := [.ref co]) ⟨hx, hb, hml, hown, hts⟩ (sX11_cell l dC dI p0 p1 gp0 gp1) (⟨va_cnB 2 hts (gz_gP mGA_585 goodGA) rfl rfl rfl (nzA_X8_24 hz) (hts _ (List.mem_cons_of_mem _ mGA_1)) (by decide +kernel) ⟨Nat.le_of_ble_eq_true rfl, Nat.le_of_ble_eq_true rfl⟩, (hts _ (List.mem_cons_of_mem _ mGA_584)), trivial⟩) ⟨fun a U g mk q => by obtain ⟨q0, qP, qK, qZ⟩ := q; exact ⟨q0, qP, va_K.moved (u := U) (U := U.calling g mk a) (Vm.Alike.refl U.vm) qK, nzA_same (u := U) (U := U.calling g mk a) rfl qZ⟩, fun U hU hW => ⟨rfl, by rw [hU]; exact hPc, va_K.moved hW.alike hKc, nzA_warm hW hz⟩⟩ rfl rfl hl.1 rfl (lv_room (Nat.le_of_ble_eq_true rfl)) dX8_charge_6 ⟨Nat.zero_le _, Nat.zero_le _⟩) hS (fun q _ h => h.elim) (fun q h => h.elim) (fun r_9 u t H1 locs ht hvm hw hB hz1 hk1 hS => ?_)
  have hP := gz_keep hP hk1
  generalize H1 = H at hP hS ⊢
  have gr_9 : gi r_9 0 324 := hw
  refine lv_dup2_11 hx hb dX8_charge_9 rfl rfl ?_
  refine va_iald hx hb hK hP 1 0 rfl rfl (gi_in gr_9 (by decide)) dX8_charge_10 ?_
  refine lv_topi (fun x_10 ex_10 => ?_)
  refine lv_iload_n hx hb dX8_charge_11 rfl (lv_at hl 3 rfl) ?_
  refine lv_iadd hx hb dX8_charge_12 ?_
  refine lv_topi (fun x_11 ex_11 => ?_)
  refine va_iast hx hb hK hP hD hS 1 0 rfl rfl (gi_in gr_9 (by decide)) dX8_charge_13 (fun H locs hP hD hS => ?_)
  have hP : va_P (dC, dI) vwCl [(h0, .inr (8, [.ref co, .ref le, .int months, .int full, .int lean])), (co, .inl (kco, 325, .inl (upd fco (r_9 : Int32).toNatClampNeg x_11)))] H := hP
  have hD : va_D A [(h0, .inr (8, [.ref co, .ref le, .int months, .int full, .int lean])), (co, .inl (kco, 325, .inl (upd fco (r_9 : Int32).toNatClampNeg x_11)))] := hD
  generalize upd fco (r_9 : Int32).toNatClampNeg x_11 = f_12 at hP hD
  exact W.vret hx hb hr (fun t ht hW => ⟨⟨(), rfl, trivial, f_12, by rw [ht]; exact hP, hD⟩, hS.F ht⟩) hS.2.2 dX8_charge_14
theorem dX8_withFull_0 : decode cX8_withFull 0 = .ok (.aload_n 0, 1) := by decide +kernel
theorem dX8_withFull_1 : decode cX8_withFull 1 = .ok (.getfield 15, 3) := by decide +kernel
theorem dX8_withFull_4 : decode cX8_withFull 4 = .ok (.iload_n 1, 1) := by decide +kernel
theorem dX8_withFull_5 : decode cX8_withFull 5 = .ok (.iconst 1, 1) := by decide +kernel
theorem dX8_withFull_6 : decode cX8_withFull 6 = .ok (.iadd, 1) := by decide +kernel
theorem dX8_withFull_7 : decode cX8_withFull 7 = .ok (.iload_n 2, 1) := by decide +kernel
theorem dX8_withFull_8 : decode cX8_withFull 8 = .ok (.iconst 1, 1) := by decide +kernel
theorem dX8_withFull_9 : decode cX8_withFull 9 = .ok (.iadd, 1) := by decide +kernel
theorem dX8_withFull_10 : decode cX8_withFull 10 = .ok (.iload_n 3, 1) := by decide +kernel
theorem dX8_withFull_11 : decode cX8_withFull 11 = .ok (.aload_n 0, 1) := by decide +kernel
theorem dX8_withFull_12 : decode cX8_withFull 12 = .ok (.getfield 38, 3) := by decide +kernel
theorem dX8_withFull_15 : decode cX8_withFull 15 = .ok (.invokestatic 74, 3) := by decide +kernel
theorem dX8_withFull_18 : decode cX8_withFull 18 = .ok (.invokestatic 71, 3) := by decide +kernel
theorem dX8_withFull_21 : decode cX8_withFull 21 = .ok (.iaload, 1) := by decide +kernel
theorem dX8_withFull_22 : decode cX8_withFull 22 = .ok (.ireturn, 1) := by decide +kernel
set_option maxHeartbeats 4000000 in
set_option maxRecDepth 100000 in
theorem sX8_withFull (l : Launch) (dC : Nat → ClassId) (dI : Nat → Nat → Nat) (h0 : Nat) (le : Nat) (co : Nat) (months : Int32) (full : Int32) (lean : Int32) (kle : ClassId) (fle : Nat → Int32) (p0 : Int32) (p1 : Int32) (p2 : Int32) (gmonths : gi months 0 24) (gfull : gi full 0 5) (glean : gi lean 0 5) (gp0 : gi p0 0 23) (gp1 : gi p1 0 23) (gp2 : gi p2 0 10) : Met l yX8_withFull (.code yX8_withFull cX8_withFull 4 (some .int) :: wsGA) ({ frames := 2, cells := 0, slots := 0, locals := 43 }) (va_Pc [.ref h0, .int p0, .int p1, .int p2] (fun U => va_P (dC, dI) vwCl [(h0, .inr (8, [.ref co, .ref le, .int months, .int full, .int lean])), (le, .inl (kle, 3575, .inl fle))] U.heap ∧ va_K (dC, dI) vwCl [(kle, .int)] U ∧ nzA U)) (va_Qi (fun (r : Int32) (u : Unit) => gi r (-2147483648) 2147483647) (fun _ _ => True) (fun _ => False)) 0 0 (fun _ => False) := by
  refine Met.ofW (cc := cX8_withFull) (maxL := 4) (ret := (some .int)) (by decide) rfl ?_
  intro p e s m args below meth c s₁ B hml hv
  obtain ⟨rfl, hP, hK, hz⟩ := hv
  have hx := B.exec
  have hb := B.bytes
  have hr := B.returns
  have hts := atoms_spec (ws := (.code yX8_withFull cX8_withFull 4 (some .int) :: wsGA)) B.pre
  have hown : s.vm.findClass RX8 = some m.cls := findClass_of_methodNamed B.named
  have hlocks := B.notSynchronized
  have hS : va_S (fun _ => False) s.heap s.heap [] := va_S.rf
  have hl := lv_entry ([.ref h0, .int p0, .int p1, .int p2]) (n := 4) (Nat.le_of_ble_eq_true rfl)
  rw [lg_entry_eq]
  generalize (lg_sl ([.ref h0, .int p0, .int p1, .int p2]) ++ List.replicate (4 - (lg_sl ([.ref h0, .int p0, .int p1, .int p2])).length) Slot.unset).toArray = ls at hl ⊢
  have hl : lv_has ls 4 [(0, .ref h0), (1, .int p0), (2, .int p1), (3, .int p2)] := hl
  refine lv_aload_n hx hb dX8_withFull_0 rfl (lv_at hl 0 rfl) ?_
  refine va_get (D := (dC, dI)) (ci := 8) (v := .ref le) (C := RX8) (T := TX8) (N := 5) hx hb hts (fun w h => List.mem_cons_of_mem _ (jnGA_X8 w h)) hown hK hP 0 rfl rfl 1 (by decide) (hts _ (List.mem_cons_of_mem _ mGA_118)) (fun _ h9 => h9) rfl dX8_withFull_1 ?_
  refine lv_iload_n hx hb dX8_withFull_4 rfl (lv_at hl 1 rfl) ?_
  refine lv_iconst (v := 1) hx hb dX8_withFull_5 (by decide) ?_
  refine lv_iadd hx hb dX8_withFull_6 ?_
  refine lv_topi (fun x_6 ex_6 => ?_)
  have gx_6 : gi x_6 1 24 := gi_add ex_6 gp0 (gi_c 1 1 (by decide)) (by decide)
  refine lv_iload_n hx hb dX8_withFull_7 rfl (lv_at hl 2 rfl) ?_
  refine lv_iconst (v := 1) hx hb dX8_withFull_8 (by decide) ?_
  refine lv_iadd hx hb dX8_withFull_9 ?_
  refine lv_topi (fun x_7 ex_7 => ?_)
  have gx_7 : gi x_7 1 24 := gi_add ex_7 gp1 (gi_c 1 1 (by decide)) (by decide)
  refine lv_iload_n hx hb dX8_withFull_10 rfl (lv_at hl 3 rfl) ?_
  refine lv_aload_n hx hb dX8_withFull_11 rfl (lv_at hl 0 rfl) ?_
  refine va_get (D := (dC, dI)) (ci := 8) (v := .int full) (C := RX8) (T := TX8) (N := 5) hx hb hts (fun w h => List.mem_cons_of_mem _ (jnGA_X8 w h)) hown hK hP 0 rfl rfl 3 (by decide) (hts _ (List.mem_cons_of_mem _ mGA_785)) (fun _ h9 => h9) rfl dX8_withFull_12 ?_
  have hPc := hP.sub (ws' := []) [] rfl
  have hKc := hK.sub (tys' := []) [] rfl
  refine va_calli (va_runSN (As := [.int p2, .int full]) (rest := [.int x_7, .int x_6, .ref le]) ⟨hx, hb, hml, hown, hts⟩ (sX11_runWithFull l dC dI p2 full gp2 gfull) (⟨va_cnB 2 hts (gz_gP mGA_508 goodGA) rfl rfl rfl (nzA_X8_74 hz) (hts _ (List.mem_cons_of_mem _ mGA_1)) (by decide +kernel) ⟨Nat.le_of_ble_eq_true rfl, Nat.le_of_ble_eq_true rfl⟩, (hts _ (List.mem_cons_of_mem _ mGA_507)), trivial⟩) ⟨fun a U g mk q => by obtain ⟨q0, qP, qK, qZ⟩ := q; exact ⟨q0, qP, va_K.moved (u := U) (U := U.calling g mk a) (Vm.Alike.refl U.vm) qK, nzA_same (u := U) (U := U.calling g mk a) rfl qZ⟩, fun U hU hW => ⟨rfl, by rw [hU]; exact hPc, va_K.moved hW.alike hKc, nzA_warm hW hz⟩⟩ rfl rfl hl.1 rfl (lv_room (Nat.le_of_ble_eq_true rfl)) dX8_withFull_15 ⟨Nat.zero_le _, Nat.zero_le _⟩) hS (fun q _ h => h.elim) (fun q h => h.elim) (fun r_8 u t H1 locs ht hvm hw hB hz1 hk1 hS => ?_)
  have hP := gz_keep hP hk1
  generalize H1 = H at hP hS ⊢
  have gr_8 : gi r_8 0 5 := hw
  have hPc := hP.sub (ws' := []) [] rfl
  have hKc := hK.sub (tys' := []) [] rfl
  refine va_calli (va_runSN (As := [.int x_6, .int x_7, .int r_8]) (rest := [.ref le]) ⟨hx, hb, hml, hown, hts⟩ (sX11_spot l dC dI x_6 x_7 r_8 (gi_w gx_6 (by decide)) (gi_w gx_7 (by decide)) (gi_w gr_8 (by decide))) (⟨va_cnB 3 hts (gz_gP mGA_582 goodGA) rfl rfl rfl (nzA_X8_71 hz) (hts _ (List.mem_cons_of_mem _ mGA_1)) (by decide +kernel) ⟨Nat.le_of_ble_eq_true rfl, Nat.le_of_ble_eq_true rfl⟩, (hts _ (List.mem_cons_of_mem _ mGA_581)), trivial⟩) ⟨fun a U g mk q => by obtain ⟨q0, qP, qK, qZ⟩ := q; exact ⟨q0, qP, va_K.moved (u := U) (U := U.calling g mk a) (Vm.Alike.refl U.vm) qK, nzA_same (u := U) (U := U.calling g mk a) rfl qZ⟩, fun U hU hW => ⟨rfl, by rw [hU]; exact hPc, va_K.moved hW.alike hKc, nzA_warm hW hz⟩⟩ rfl rfl hl.1 rfl (lv_room (Nat.le_of_ble_eq_true rfl)) dX8_withFull_18 ⟨Nat.zero_le _, Nat.zero_le _⟩) hS (fun q _ h => h.elim) (fun q h => h.elim) (fun r_9 u t H1 locs ht hvm hw hB hz1 hk1 hS => ?_)
  have hP := gz_keep hP hk1
  generalize H1 = H at hP hS ⊢
  have gr_9 : gi r_9 0 3574 := hw
  refine va_iald hx hb hK hP 1 0 rfl rfl (gi_in gr_9 (by decide)) dX8_withFull_21 ?_
  refine lv_topi (fun x_10 ex_10 => ?_)
  exact W.iret (v := x_10) hx hb hr (fun t ht hW => ⟨⟨x_10, (), rfl, (gi_any x_10), trivial⟩, hS.F ht⟩) hS.2.2 dX8_withFull_22
theorem dX8_withLean_0 : decode cX8_withLean 0 = .ok (.aload_n 0, 1) := by decide +kernel
theorem dX8_withLean_1 : decode cX8_withLean 1 = .ok (.getfield 15, 3) := by decide +kernel
theorem dX8_withLean_4 : decode cX8_withLean 4 = .ok (.iload_n 1, 1) := by decide +kernel
theorem dX8_withLean_5 : decode cX8_withLean 5 = .ok (.iconst 1, 1) := by decide +kernel
theorem dX8_withLean_6 : decode cX8_withLean 6 = .ok (.iadd, 1) := by decide +kernel
theorem dX8_withLean_7 : decode cX8_withLean 7 = .ok (.iload_n 2, 1) := by decide +kernel
theorem dX8_withLean_8 : decode cX8_withLean 8 = .ok (.iload_n 3, 1) := by decide +kernel
theorem dX8_withLean_9 : decode cX8_withLean 9 = .ok (.aload_n 0, 1) := by decide +kernel
theorem dX8_withLean_10 : decode cX8_withLean 10 = .ok (.getfield 38, 3) := by decide +kernel
theorem dX8_withLean_13 : decode cX8_withLean 13 = .ok (.aload_n 0, 1) := by decide +kernel
theorem dX8_withLean_14 : decode cX8_withLean 14 = .ok (.getfield 42, 3) := by decide +kernel
theorem dX8_withLean_17 : decode cX8_withLean 17 = .ok (.invokestatic 77, 3) := by decide +kernel
theorem dX8_withLean_20 : decode cX8_withLean 20 = .ok (.invokestatic 71, 3) := by decide +kernel
theorem dX8_withLean_23 : decode cX8_withLean 23 = .ok (.iaload, 1) := by decide +kernel
theorem dX8_withLean_24 : decode cX8_withLean 24 = .ok (.ireturn, 1) := by decide +kernel
set_option maxHeartbeats 4000000 in
set_option maxRecDepth 100000 in
theorem sX8_withLean (l : Launch) (dC : Nat → ClassId) (dI : Nat → Nat → Nat) (h0 : Nat) (le : Nat) (co : Nat) (months : Int32) (full : Int32) (lean : Int32) (kle : ClassId) (fle : Nat → Int32) (p0 : Int32) (p1 : Int32) (p2 : Int32) (gmonths : gi months 0 24) (gfull : gi full 0 5) (glean : gi lean 0 5) (gp0 : gi p0 0 23) (gp1 : gi p1 0 24) (gp2 : gi p2 0 10) : Met l yX8_withLean (.code yX8_withLean cX8_withLean 4 (some .int) :: wsGA) ({ frames := 2, cells := 0, slots := 0, locals := 43 }) (va_Pc [.ref h0, .int p0, .int p1, .int p2] (fun U => va_P (dC, dI) vwCl [(h0, .inr (8, [.ref co, .ref le, .int months, .int full, .int lean])), (le, .inl (kle, 3575, .inl fle))] U.heap ∧ va_K (dC, dI) vwCl [(kle, .int)] U ∧ nzA U)) (va_Qi (fun (r : Int32) (u : Unit) => gi r (-2147483648) 2147483647) (fun _ _ => True) (fun _ => False)) 0 0 (fun _ => False) := by
  refine Met.ofW (cc := cX8_withLean) (maxL := 4) (ret := (some .int)) (by decide) rfl ?_
  intro p e s m args below meth c s₁ B hml hv
  obtain ⟨rfl, hP, hK, hz⟩ := hv
  have hx := B.exec
  have hb := B.bytes
  have hr := B.returns
  have hts := atoms_spec (ws := (.code yX8_withLean cX8_withLean 4 (some .int) :: wsGA)) B.pre
  have hown : s.vm.findClass RX8 = some m.cls := findClass_of_methodNamed B.named
  have hlocks := B.notSynchronized
  have hS : va_S (fun _ => False) s.heap s.heap [] := va_S.rf
  have hl := lv_entry ([.ref h0, .int p0, .int p1, .int p2]) (n := 4) (Nat.le_of_ble_eq_true rfl)
  rw [lg_entry_eq]
  generalize (lg_sl ([.ref h0, .int p0, .int p1, .int p2]) ++ List.replicate (4 - (lg_sl ([.ref h0, .int p0, .int p1, .int p2])).length) Slot.unset).toArray = ls at hl ⊢
  have hl : lv_has ls 4 [(0, .ref h0), (1, .int p0), (2, .int p1), (3, .int p2)] := hl
  refine lv_aload_n hx hb dX8_withLean_0 rfl (lv_at hl 0 rfl) ?_
  refine va_get (D := (dC, dI)) (ci := 8) (v := .ref le) (C := RX8) (T := TX8) (N := 5) hx hb hts (fun w h => List.mem_cons_of_mem _ (jnGA_X8 w h)) hown hK hP 0 rfl rfl 1 (by decide) (hts _ (List.mem_cons_of_mem _ mGA_118)) (fun _ h9 => h9) rfl dX8_withLean_1 ?_
  refine lv_iload_n hx hb dX8_withLean_4 rfl (lv_at hl 1 rfl) ?_
  refine lv_iconst (v := 1) hx hb dX8_withLean_5 (by decide) ?_
  refine lv_iadd hx hb dX8_withLean_6 ?_
  refine lv_topi (fun x_5 ex_5 => ?_)
  have gx_5 : gi x_5 1 24 := gi_add ex_5 gp0 (gi_c 1 1 (by decide)) (by decide)
  refine lv_iload_n hx hb dX8_withLean_7 rfl (lv_at hl 2 rfl) ?_
  refine lv_iload_n hx hb dX8_withLean_8 rfl (lv_at hl 3 rfl) ?_
  refine lv_aload_n hx hb dX8_withLean_9 rfl (lv_at hl 0 rfl) ?_
  refine va_get (D := (dC, dI)) (ci := 8) (v := .int full) (C := RX8) (T := TX8) (N := 5) hx hb hts (fun w h => List.mem_cons_of_mem _ (jnGA_X8 w h)) hown hK hP 0 rfl rfl 3 (by decide) (hts _ (List.mem_cons_of_mem _ mGA_785)) (fun _ h9 => h9) rfl dX8_withLean_10 ?_
  refine lv_aload_n hx hb dX8_withLean_13 rfl (lv_at hl 0 rfl) ?_
  refine va_get (D := (dC, dI)) (ci := 8) (v := .int lean) (C := RX8) (T := TX8) (N := 5) hx hb hts (fun w h => List.mem_cons_of_mem _ (jnGA_X8 w h)) hown hK hP 0 rfl rfl 4 (by decide) (hts _ (List.mem_cons_of_mem _ mGA_787)) (fun _ h9 => h9) rfl dX8_withLean_14 ?_
  have hPc := hP.sub (ws' := []) [] rfl
  have hKc := hK.sub (tys' := []) [] rfl
  refine va_calli (va_runSN (As := [.int p2, .int full, .int lean]) (rest := [.int p1, .int x_5, .ref le]) ⟨hx, hb, hml, hown, hts⟩ (sX11_runWithLean l dC dI p2 full lean gp2 gfull glean) (⟨va_cnB 3 hts (gz_gP mGA_510 goodGA) rfl rfl rfl (nzA_X8_77 hz) (hts _ (List.mem_cons_of_mem _ mGA_1)) (by decide +kernel) ⟨Nat.le_of_ble_eq_true rfl, Nat.le_of_ble_eq_true rfl⟩, (hts _ (List.mem_cons_of_mem _ mGA_509)), trivial⟩) ⟨fun a U g mk q => by obtain ⟨q0, qP, qK, qZ⟩ := q; exact ⟨q0, qP, va_K.moved (u := U) (U := U.calling g mk a) (Vm.Alike.refl U.vm) qK, nzA_same (u := U) (U := U.calling g mk a) rfl qZ⟩, fun U hU hW => ⟨rfl, by rw [hU]; exact hPc, va_K.moved hW.alike hKc, nzA_warm hW hz⟩⟩ rfl rfl hl.1 rfl (lv_room (Nat.le_of_ble_eq_true rfl)) dX8_withLean_17 ⟨Nat.zero_le _, Nat.zero_le _⟩) hS (fun q _ h => h.elim) (fun q h => h.elim) (fun r_6 u t H1 locs ht hvm hw hB hz1 hk1 hS => ?_)
  have hP := gz_keep hP hk1
  generalize H1 = H at hP hS ⊢
  have gr_6 : gi r_6 0 10 := hw
  have hPc := hP.sub (ws' := []) [] rfl
  have hKc := hK.sub (tys' := []) [] rfl
  refine va_calli (va_runSN (As := [.int x_5, .int p1, .int r_6]) (rest := [.ref le]) ⟨hx, hb, hml, hown, hts⟩ (sX11_spot l dC dI x_5 p1 r_6 (gi_w gx_5 (by decide)) gp1 gr_6) (⟨va_cnB 3 hts (gz_gP mGA_582 goodGA) rfl rfl rfl (nzA_X8_71 hz) (hts _ (List.mem_cons_of_mem _ mGA_1)) (by decide +kernel) ⟨Nat.le_of_ble_eq_true rfl, Nat.le_of_ble_eq_true rfl⟩, (hts _ (List.mem_cons_of_mem _ mGA_581)), trivial⟩) ⟨fun a U g mk q => by obtain ⟨q0, qP, qK, qZ⟩ := q; exact ⟨q0, qP, va_K.moved (u := U) (U := U.calling g mk a) (Vm.Alike.refl U.vm) qK, nzA_same (u := U) (U := U.calling g mk a) rfl qZ⟩, fun U hU hW => ⟨rfl, by rw [hU]; exact hPc, va_K.moved hW.alike hKc, nzA_warm hW hz⟩⟩ rfl rfl hl.1 rfl (lv_room (Nat.le_of_ble_eq_true rfl)) dX8_withLean_20 ⟨Nat.zero_le _, Nat.zero_le _⟩) hS (fun q _ h => h.elim) (fun q h => h.elim) (fun r_7 u t H1 locs ht hvm hw hB hz1 hk1 hS => ?_)
  have hP := gz_keep hP hk1
  generalize H1 = H at hP hS ⊢
  have gr_7 : gi r_7 0 3574 := hw
  refine va_iald hx hb hK hP 1 0 rfl rfl (gi_in gr_7 (by decide)) dX8_withLean_23 ?_
  refine lv_topi (fun x_8 ex_8 => ?_)
  exact W.iret (v := x_8) hx hb hr (fun t ht hW => ⟨⟨x_8, (), rfl, (gi_any x_8), trivial⟩, hS.F ht⟩) hS.2.2 dX8_withLean_24
theorem dX8_least_0 : decode cX8_least 0 = .ok (.aload_n 0, 1) := by decide +kernel
theorem dX8_least_1 : decode cX8_least 1 = .ok (.getfield 15, 3) := by decide +kernel
theorem dX8_least_4 : decode cX8_least 4 = .ok (.iconst 0, 1) := by decide +kernel
theorem dX8_least_5 : decode cX8_least 5 = .ok (.iaload, 1) := by decide +kernel
theorem dX8_least_6 : decode cX8_least 6 = .ok (.ireturn, 1) := by decide +kernel
set_option maxHeartbeats 4000000 in
set_option maxRecDepth 100000 in
theorem sX8_least (l : Launch) (dC : Nat → ClassId) (dI : Nat → Nat → Nat) (h0 : Nat) (le : Nat) (co : Nat) (months : Int32) (full : Int32) (lean : Int32) (kle : ClassId) (fle : Nat → Int32) (gmonths : gi months 0 24) (gfull : gi full 0 5) (glean : gi lean 0 5) : Met l yX8_least (.code yX8_least cX8_least 1 (some .int) :: wsGA) ({ frames := 0, cells := 0, slots := 0, locals := 0 }) (va_Pc [.ref h0] (fun U => va_P (dC, dI) vwCl [(h0, .inr (8, [.ref co, .ref le, .int months, .int full, .int lean])), (le, .inl (kle, 3575, .inl fle))] U.heap ∧ va_K (dC, dI) vwCl [(kle, .int)] U ∧ nzA U)) (va_Qi (fun (r : Int32) (u : Unit) => gi r (-2147483648) 2147483647) (fun _ _ => True) (fun _ => False)) 0 0 (fun _ => False) := by
  refine Met.ofW (cc := cX8_least) (maxL := 1) (ret := (some .int)) (by decide) rfl ?_
  intro p e s m args below meth c s₁ B hml hv
  obtain ⟨rfl, hP, hK, hz⟩ := hv
  have hx := B.exec
  have hb := B.bytes
  have hr := B.returns
  have hts := atoms_spec (ws := (.code yX8_least cX8_least 1 (some .int) :: wsGA)) B.pre
  have hown : s.vm.findClass RX8 = some m.cls := findClass_of_methodNamed B.named
  have hlocks := B.notSynchronized
  have hS : va_S (fun _ => False) s.heap s.heap [] := va_S.rf
  have hl := lv_entry ([.ref h0]) (n := 1) (Nat.le_of_ble_eq_true rfl)
  rw [lg_entry_eq]
  generalize (lg_sl ([.ref h0]) ++ List.replicate (1 - (lg_sl ([.ref h0])).length) Slot.unset).toArray = ls at hl ⊢
  have hl : lv_has ls 1 [(0, .ref h0)] := hl
  refine lv_aload_n hx hb dX8_least_0 rfl (lv_at hl 0 rfl) ?_
  refine va_get (D := (dC, dI)) (ci := 8) (v := .ref le) (C := RX8) (T := TX8) (N := 5) hx hb hts (fun w h => List.mem_cons_of_mem _ (jnGA_X8 w h)) hown hK hP 0 rfl rfl 1 (by decide) (hts _ (List.mem_cons_of_mem _ mGA_118)) (fun _ h9 => h9) rfl dX8_least_1 ?_
  refine lv_iconst (v := 0) hx hb dX8_least_4 (by decide) ?_
  refine va_iald hx hb hK hP 1 0 rfl rfl (gi_in (gi_c 0 0 (by decide)) (by decide)) dX8_least_5 ?_
  refine lv_topi (fun x_2 ex_2 => ?_)
  exact W.iret (v := x_2) hx hb hr (fun t ht hW => ⟨⟨x_2, (), rfl, (gi_any x_2), trivial⟩, hS.F ht⟩) hS.2.2 dX8_least_6
theorem dX8_fillCell_0 : decode cX8_fillCell 0 = .ok (.iload_n 1, 1) := by decide +kernel
theorem dX8_fillCell_1 : decode cX8_fillCell 1 = .ok (.invokestatic 52, 3) := by decide +kernel
theorem dX8_fillCell_4 : decode cX8_fillCell 4 = .ok (.istore_n 3, 1) := by decide +kernel
theorem dX8_fillCell_5 : decode cX8_fillCell 5 = .ok (.iload_n 3, 1) := by decide +kernel
theorem dX8_fillCell_6 : decode cX8_fillCell 6 = .ok (.iload_n 1, 1) := by decide +kernel
theorem dX8_fillCell_7 : decode cX8_fillCell 7 = .ok (.aload_n 0, 1) := by decide +kernel
theorem dX8_fillCell_8 : decode cX8_fillCell 8 = .ok (.getfield 38, 3) := by decide +kernel
theorem dX8_fillCell_11 : decode cX8_fillCell 11 = .ok (.aload_n 0, 1) := by decide +kernel
theorem dX8_fillCell_12 : decode cX8_fillCell 12 = .ok (.getfield 42, 3) := by decide +kernel
theorem dX8_fillCell_15 : decode cX8_fillCell 15 = .ok (.invokestatic 56, 3) := by decide +kernel
theorem dX8_fillCell_18 : decode cX8_fillCell 18 = .ok (.if_icmp .gt 71, 3) := by decide +kernel
theorem dX8_fillCell_21 : decode cX8_fillCell 21 = .ok (.iload_n 1, 1) := by decide +kernel
theorem dX8_fillCell_22 : decode cX8_fillCell 22 = .ok (.aload_n 0, 1) := by decide +kernel
theorem dX8_fillCell_23 : decode cX8_fillCell 23 = .ok (.getfield 34, 3) := by decide +kernel
theorem dX8_fillCell_26 : decode cX8_fillCell 26 = .ok (.if_icmp .ne 7, 3) := by decide +kernel
theorem dX8_fillCell_29 : decode cX8_fillCell 29 = .ok (.iconst 0, 1) := by decide +kernel
theorem dX8_fillCell_30 : decode cX8_fillCell 30 = .ok (.goto 20, 3) := by decide +kernel
theorem dX8_fillCell_33 : decode cX8_fillCell 33 = .ok (.aload_n 0, 1) := by decide +kernel
theorem dX8_fillCell_34 : decode cX8_fillCell 34 = .ok (.iload_n 1, 1) := by decide +kernel
theorem dX8_fillCell_35 : decode cX8_fillCell 35 = .ok (.iload_n 2, 1) := by decide +kernel
theorem dX8_fillCell_36 : decode cX8_fillCell 36 = .ok (.iload_n 3, 1) := by decide +kernel
theorem dX8_fillCell_37 : decode cX8_fillCell 37 = .ok (.invokevirtual 60, 3) := by decide +kernel
theorem dX8_fillCell_40 : decode cX8_fillCell 40 = .ok (.aload_n 0, 1) := by decide +kernel
theorem dX8_fillCell_41 : decode cX8_fillCell 41 = .ok (.iload_n 1, 1) := by decide +kernel
theorem dX8_fillCell_42 : decode cX8_fillCell 42 = .ok (.iload_n 2, 1) := by decide +kernel
theorem dX8_fillCell_43 : decode cX8_fillCell 43 = .ok (.iload_n 3, 1) := by decide +kernel
theorem dX8_fillCell_44 : decode cX8_fillCell 44 = .ok (.invokevirtual 63, 3) := by decide +kernel
theorem dX8_fillCell_47 : decode cX8_fillCell 47 = .ok (.invokestatic 66, 3) := by decide +kernel
theorem dX8_fillCell_50 : decode cX8_fillCell 50 = .ok (.istore 4, 2) := by decide +kernel
theorem dX8_fillCell_52 : decode cX8_fillCell 52 = .ok (.iload 4, 2) := by decide +kernel
theorem dX8_fillCell_54 : decode cX8_fillCell 54 = .ok (.ldc 43, 2) := by decide +kernel
theorem dX8_fillCell_56 : decode cX8_fillCell 56 = .ok (.if_icmp .ge 27, 3) := by decide +kernel
theorem dX8_fillCell_59 : decode cX8_fillCell 59 = .ok (.aload_n 0, 1) := by decide +kernel
theorem dX8_fillCell_60 : decode cX8_fillCell 60 = .ok (.getfield 15, 3) := by decide +kernel
theorem dX8_fillCell_63 : decode cX8_fillCell 63 = .ok (.iload_n 1, 1) := by decide +kernel
theorem dX8_fillCell_64 : decode cX8_fillCell 64 = .ok (.iload_n 2, 1) := by decide +kernel
theorem dX8_fillCell_65 : decode cX8_fillCell 65 = .ok (.iload_n 3, 1) := by decide +kernel
theorem dX8_fillCell_66 : decode cX8_fillCell 66 = .ok (.invokestatic 71, 3) := by decide +kernel
theorem dX8_fillCell_69 : decode cX8_fillCell 69 = .ok (.iload 4, 2) := by decide +kernel
theorem dX8_fillCell_71 : decode cX8_fillCell 71 = .ok (.aload_n 0, 1) := by decide +kernel
theorem dX8_fillCell_72 : decode cX8_fillCell 72 = .ok (.getfield 9, 3) := by decide +kernel
theorem dX8_fillCell_75 : decode cX8_fillCell 75 = .ok (.iload_n 1, 1) := by decide +kernel
theorem dX8_fillCell_76 : decode cX8_fillCell 76 = .ok (.iload_n 2, 1) := by decide +kernel
theorem dX8_fillCell_77 : decode cX8_fillCell 77 = .ok (.invokestatic 24, 3) := by decide +kernel
theorem dX8_fillCell_80 : decode cX8_fillCell 80 = .ok (.iaload, 1) := by decide +kernel
theorem dX8_fillCell_81 : decode cX8_fillCell 81 = .ok (.iadd, 1) := by decide +kernel
theorem dX8_fillCell_82 : decode cX8_fillCell 82 = .ok (.iastore, 1) := by decide +kernel
theorem dX8_fillCell_83 : decode cX8_fillCell 83 = .ok (.iinc 3 1, 3) := by decide +kernel
theorem dX8_fillCell_86 : decode cX8_fillCell 86 = .ok (.goto (-81), 3) := by decide +kernel
theorem dX8_fillCell_89 : decode cX8_fillCell 89 = .ok (.return_, 1) := by decide +kernel
set_option maxHeartbeats 4000000 in
set_option maxRecDepth 100000 in
theorem lp_sX8_fillCell {p : Program} {l : Launch} {e : Env} {R : Room} {s : State} {m : MethodId} {args : Array Value} {below : List Frame} {meth : Method} {c : Code} {Q : State → Prop} {A : Nat → Prop} {cells slots : Nat} {dC : Nat → ClassId} {dI : Nat → Nat → Nat} (h0 : Nat) (co : Nat) (le : Nat) (months : Int32) (full : Int32) (lean : Int32) (kco : ClassId) (fco : Nat → Int32) (kle : ClassId) (fle : Nat → Int32) (p0 : Int32) (p1 : Int32) (gmonths : gi months 0 24) (gfull : gi full 0 5) (glean : gi lean 0 5) (gp0 : gi p0 0 24) (gp1 : gi p1 0 24) (hle_gp0_gmonths : p0.toInt ≤ months.toInt) (hle_gp1_gp0 : p1.toInt ≤ p0.toInt) (hx : p.tables.exec = Jvm.exec) (hb : c.code = cX8_fillCell) (hml : c.maxLocals = 5) (hown : s.vm.findClass RX8 = some m.cls) (hts : ∀ w ∈ ((.code yX8_fillCell cX8_fillCell 5 none :: wsGA) : List Cond), w.before args s = true) (hK : va_K (dC, dI) vwCl [(kco, .int), (kle, .int)] s) (hz : nzA s) (hA : ∀ q : Nat, s.heap.size ≤ q → A q) (hRf : 3 ≤ R.frames) (hRl : 66 ≤ R.locals) (hRc : cells ≤ R.cells) (hRs : slots ≤ R.slots) (kr89 : ∀ (z2 : Nat → Int32) (H : Heap) (locs : List Loc) (ls : Array Slot), va_P (dC, dI) vwCl [(h0, .inr (8, [.ref co, .ref le, .int months, .int full, .int lean])), (co, .inl (kco, 325, .inl fco)), (le, .inl (kle, 3575, .inl z2))] H → va_D A [(h0, .inr (8, [.ref co, .ref le, .int months, .int full, .int lean])), (co, .inl (kco, 325, .inl fco)), (le, .inl (kle, 3575, .inl z2))] → va_S A s.heap H locs → lv_has ls 5 [] → W p l e R s m args below meth c H locs cells slots Q (F0 m 89 ls [])) : ∀ z : Nat, (∀ (v3 : Int32) (z2 : Nat → Int32) (H : Heap) (locs : List Loc) (ls : Array Slot), gi v3 0 11 → 23 + (-2) * v3.toInt < (z : Int) → va_P (dC, dI) vwCl [(h0, .inr (8, [.ref co, .ref le, .int months, .int full, .int lean])), (co, .inl (kco, 325, .inl fco)), (le, .inl (kle, 3575, .inl z2))] H → va_D A [(h0, .inr (8, [.ref co, .ref le, .int months, .int full, .int lean])), (co, .inl (kco, 325, .inl fco)), (le, .inl (kle, 3575, .inl z2))] → va_S A s.heap H locs → lv_has ls 5 [(0, .ref h0), (1, .int p0), (2, .int p1), (3, .int v3)] → W p l e R s m args below meth c H locs cells slots Q (F0 m 5 ls [])) := by
  intro z
  induction z with
  | zero =>
    intro v3 z2 H locs ls gv3 hmu hP hD hS hl
    exact absurd hmu (by have hv31 := gv3.1; have hv32 := gv3.2; omega)
  | succ z ih =>
      intro v3 z2 H locs ls gv3 hmu hP hD hS hl
      refine lv_iload_n hx hb dX8_fillCell_5 rfl (lv_at hl 3 rfl) ?_
      refine lv_iload_n hx hb dX8_fillCell_6 rfl (lv_at hl 1 rfl) ?_
      refine lv_aload_n hx hb dX8_fillCell_7 rfl (lv_at hl 0 rfl) ?_
      refine va_get (D := (dC, dI)) (ci := 8) (v := .int full) (C := RX8) (T := TX8) (N := 5) hx hb hts (fun w h => List.mem_cons_of_mem _ (jnGA_X8 w h)) hown hK hP 0 rfl rfl 3 (by decide) (hts _ (List.mem_cons_of_mem _ mGA_785)) (fun _ h9 => h9) rfl dX8_fillCell_8 ?_
      refine lv_aload_n hx hb dX8_fillCell_11 rfl (lv_at hl 0 rfl) ?_
      refine va_get (D := (dC, dI)) (ci := 8) (v := .int lean) (C := RX8) (T := TX8) (N := 5) hx hb hts (fun w h => List.mem_cons_of_mem _ (jnGA_X8 w h)) hown hK hP 0 rfl rfl 4 (by decide) (hts _ (List.mem_cons_of_mem _ mGA_787)) (fun _ h9 => h9) rfl dX8_fillCell_12 ?_
      have hPc := hP.sub (ws' := []) [] rfl
      have hKc := hK.sub (tys' := []) [] rfl
      refine va_calli (va_runSN (As := [.int p0, .int full, .int lean]) (rest := [.int v3]) ⟨hx, hb, hml, hown, hts⟩ (sX11_lastRun l dC dI p0 full lean gp0 gfull glean) (⟨va_cnB 3 hts (gz_gP mGA_506 goodGA) rfl rfl rfl (nzA_X8_56 hz) (hts _ (List.mem_cons_of_mem _ mGA_1)) (by decide +kernel) ⟨Nat.le_trans (Nat.le_of_ble_eq_true rfl) hRf, Nat.le_trans (Nat.le_of_ble_eq_true rfl) hRl⟩, (hts _ (List.mem_cons_of_mem _ mGA_505)), trivial⟩) ⟨fun a U g mk q => by obtain ⟨q0, qP, qK, qZ⟩ := q; exact ⟨q0, qP, va_K.moved (u := U) (U := U.calling g mk a) (Vm.Alike.refl U.vm) qK, nzA_same (u := U) (U := U.calling g mk a) rfl qZ⟩, fun U hU hW => ⟨rfl, by rw [hU]; exact hPc, va_K.moved hW.alike hKc, nzA_warm hW hz⟩⟩ rfl rfl hl.1 rfl (lv_room (Nat.le_of_ble_eq_true rfl)) dX8_fillCell_15 ⟨hRc, hRs⟩) hS (fun q _ h => h.elim) (fun q h => h.elim) (fun r_281 u t H1 locs ht hvm hw hB hz1 hk1 hS => ?_)
      have hP := gz_keep hP hk1
      generalize H1 = H at hP hS ⊢
      have gr_281 : gi r_281 0 10 := hw
      refine lv_icmp_gt (tgt := 89) hx hb dX8_fillCell_18 (by decide) (fun c_282 => ?_) (fun c_282 => ?_)
      · have g_283 : gi v3 1 11 := gi_lt_r c_282 gr_281 gv3 (by decide)
        exact kr89 z2 _ _ _ hP hD hS (lv_sub hl [] rfl)
      · have g_284 : gi v3 0 10 := gi_le_l (Int32.not_lt.mp c_282) gv3 gr_281
        refine lv_iload_n hx hb dX8_fillCell_21 rfl (lv_at hl 1 rfl) ?_
        refine lv_aload_n hx hb dX8_fillCell_22 rfl (lv_at hl 0 rfl) ?_
        refine va_get (D := (dC, dI)) (ci := 8) (v := .int months) (C := RX8) (T := TX8) (N := 5) hx hb hts (fun w h => List.mem_cons_of_mem _ (jnGA_X8 w h)) hown hK hP 0 rfl rfl 2 (by decide) (hts _ (List.mem_cons_of_mem _ mGA_783)) (fun _ h9 => h9) rfl dX8_fillCell_23 ?_
        refine lv_icmp_ne (tgt := 33) hx hb dX8_fillCell_26 (by decide) (fun c_285 => ?_) (fun c_285 => ?_)
        · have g_286 : gi p0 0 23 := gi_nele hle_gp0_gmonths c_285 gp0 gmonths (by decide)
          have g_287 : gi p1 0 23 := gi_rel hle_gp1_gp0 gp1 g_286
          refine lv_aload_n hx hb dX8_fillCell_33 rfl (lv_at hl 0 rfl) ?_
          refine lv_iload_n hx hb dX8_fillCell_34 rfl (lv_at hl 1 rfl) ?_
          refine lv_iload_n hx hb dX8_fillCell_35 rfl (lv_at hl 2 rfl) ?_
          refine lv_iload_n hx hb dX8_fillCell_36 rfl (lv_at hl 3 rfl) ?_
          have hPc := hP.sub (ws' := [(h0, .inr (8, [.ref co, .ref le, .int months, .int full, .int lean])), (le, .inl (kle, 3575, .inl z2))]) [0, 2] rfl
          have hKc := hK.sub (tys' := [(kle, .int)]) [1] rfl
          refine va_calli (va_runV (As := [.int p0, .int p1, .int v3]) (rest := []) ⟨hx, hb, hml, hown, hts⟩ (sX8_withFull l dC dI h0 le co months full lean kle z2 p0 p1 v3 gmonths gfull glean g_286 g_287 g_284) (cwV 3 hts (gz_gV mGA_795 mGA_796 mGA_797 mGA_31 mGA_798 goodGA) rfl rfl rfl (by decide +kernel) ⟨Nat.le_trans (Nat.le_of_ble_eq_true rfl) hRf, Nat.le_trans (Nat.le_of_ble_eq_true rfl) hRl⟩) ⟨fun a U g mk q => by obtain ⟨q0, qP, qK, qZ⟩ := q; exact ⟨q0, qP, va_K.moved (u := U) (U := U.calling g mk a) (Vm.Alike.refl U.vm) qK, nzA_same (u := U) (U := U.calling g mk a) rfl qZ⟩, va_recv hKc hPc (ci := 8) (q0 := 0) rfl rfl, fun U hU hW => ⟨rfl, by rw [hU]; exact hPc, va_K.moved hW.alike hKc, nzA_warm hW hz⟩⟩ rfl rfl hl.1 rfl (lv_room (Nat.le_of_ble_eq_true rfl)) dX8_fillCell_37 ⟨hRc, hRs⟩) hS (fun q _ h => h.elim) (fun q h => h.elim) (fun r_288 u t H1 locs ht hvm hw hB hz1 hk1 hS => ?_)
          have hP := gz_keep hP hk1
          generalize H1 = H at hP hS ⊢
          refine lv_aload_n hx hb dX8_fillCell_40 rfl (lv_at hl 0 rfl) ?_
          refine lv_iload_n hx hb dX8_fillCell_41 rfl (lv_at hl 1 rfl) ?_
          refine lv_iload_n hx hb dX8_fillCell_42 rfl (lv_at hl 2 rfl) ?_
          refine lv_iload_n hx hb dX8_fillCell_43 rfl (lv_at hl 3 rfl) ?_
          have hPc := hP.sub (ws' := [(h0, .inr (8, [.ref co, .ref le, .int months, .int full, .int lean])), (le, .inl (kle, 3575, .inl z2))]) [0, 2] rfl
          have hKc := hK.sub (tys' := [(kle, .int)]) [1] rfl
          refine va_calli (va_runV (As := [.int p0, .int p1, .int v3]) (rest := [.int r_288]) ⟨hx, hb, hml, hown, hts⟩ (sX8_withLean l dC dI h0 le co months full lean kle z2 p0 p1 v3 gmonths gfull glean g_286 (gi_w g_287 (by decide)) g_284) (cwV 3 hts (gz_gV mGA_799 mGA_800 mGA_801 mGA_31 mGA_802 goodGA) rfl rfl rfl (by decide +kernel) ⟨Nat.le_trans (Nat.le_of_ble_eq_true rfl) hRf, Nat.le_trans (Nat.le_of_ble_eq_true rfl) hRl⟩) ⟨fun a U g mk q => by obtain ⟨q0, qP, qK, qZ⟩ := q; exact ⟨q0, qP, va_K.moved (u := U) (U := U.calling g mk a) (Vm.Alike.refl U.vm) qK, nzA_same (u := U) (U := U.calling g mk a) rfl qZ⟩, va_recv hKc hPc (ci := 8) (q0 := 0) rfl rfl, fun U hU hW => ⟨rfl, by rw [hU]; exact hPc, va_K.moved hW.alike hKc, nzA_warm hW hz⟩⟩ rfl rfl hl.1 rfl (lv_room (Nat.le_of_ble_eq_true rfl)) dX8_fillCell_44 ⟨hRc, hRs⟩) hS (fun q _ h => h.elim) (fun q h => h.elim) (fun r_289 u t H1 locs ht hvm hw hB hz1 hk1 hS => ?_)
          have hP := gz_keep hP hk1
          generalize H1 = H at hP hS ⊢
          refine va_mmin (own := RX8) hx hb (by rw [hml]; exact hl.1.symm) hown (hts _ (List.mem_cons_of_mem _ mGA_794)) (hts _ (List.mem_cons_of_mem _ mGA_268)) (hts _ (List.mem_cons_of_mem _ mGA_269)) (hts _ (List.mem_cons_of_mem _ mGA_270)) (Nat.le_trans (Nat.le_of_ble_eq_true rfl) hRf) (Nat.le_trans (Nat.le_of_ble_eq_true rfl) hRl) hRc hRs dX8_fillCell_47 ?_
          refine lv_topi (fun x_290 ex_290 => ?_)
          refine lv_istore (lv' := [(4, .int x_290), (0, .ref h0), (1, .int p0), (2, .int p1), (3, .int v3)]) hx hb dX8_fillCell_50 hl (by decide) rfl (fun ls hl => ?_)
          refine lv_iload hx hb dX8_fillCell_52 (lv_at hl 0 rfl) ?_
          refine lv_ldc (own := RX8) (v := 1000000) hx hb hown (hts _ (List.mem_cons_of_mem _ mGA_788)) dX8_fillCell_54 ?_
          refine lv_icmp_ge (tgt := 83) hx hb dX8_fillCell_56 (by decide) (fun c_291 => ?_) (fun c_291 => ?_)
          · have g_292 : gi x_290 1000000 2147483647 := gi_le_r c_291 (gi_c 1000000 1000000 (by decide)) (gi_any x_290)
            obtain ⟨x_293, ex_293⟩ : ∃ y : Int32, y = v3 + 1 := ⟨_, rfl⟩
            have gx_293 : gi x_293 1 11 := gi_add ex_293 g_284 (gi_c 1 1 (by decide)) (by decide)
            refine lv_iinc (v := x_293) (lv' := [(3, .int x_293), (4, .int x_290), (0, .ref h0), (1, .int p0), (2, .int p1)]) hx hb dX8_fillCell_83 hl (k := 4) rfl (by rw [ex_293]; rfl) (by decide) rfl (fun ls hl => ?_)
            refine lv_goto (tgt := 5) hx hb dX8_fillCell_86 (by decide) ?_
            exact ih x_293 z2 _ _ _ (gi_w gx_293 (by decide)) (by have av3 := gv3.1; have bv3 := gv3.2; have qgx_293 := gx_293.1; have rgx_293 := gx_293.2; have igx_293 : x_293.toInt = v3.toInt + 1 := (by have hc1 : (1 : Int32).toInt = 1 := (by decide); have h9 := gi_addI ex_293 (by have h1 := g_284.1; have h2 := (gi_c 1 1 (by decide)).1; have h3 := g_284.2; have h4 := (gi_c 1 1 (by decide)).2; omega) (by have h1 := g_284.1; have h2 := (gi_c 1 1 (by decide)).1; have h3 := g_284.2; have h4 := (gi_c 1 1 (by decide)).2; omega); rw [hc1] at h9; exact h9); have qgv3 := g_284.1; have rgv3 := g_284.2; omega) hP hD hS (lv_sub hl [2, 3, 4, 0] rfl)
          · have g_294 : gi x_290 (-2147483648) 999999 := gi_lt_l (Int32.not_le.mp c_291) (gi_any x_290) (gi_c 1000000 1000000 (by decide)) (by decide)
            refine lv_aload_n hx hb dX8_fillCell_59 rfl (lv_at hl 1 rfl) ?_
            refine va_get (D := (dC, dI)) (ci := 8) (v := .ref le) (C := RX8) (T := TX8) (N := 5) hx hb hts (fun w h => List.mem_cons_of_mem _ (jnGA_X8 w h)) hown hK hP 0 rfl rfl 1 (by decide) (hts _ (List.mem_cons_of_mem _ mGA_118)) (fun _ h9 => h9) rfl dX8_fillCell_60 ?_
            refine lv_iload_n hx hb dX8_fillCell_63 rfl (lv_at hl 2 rfl) ?_
            refine lv_iload_n hx hb dX8_fillCell_64 rfl (lv_at hl 3 rfl) ?_
            refine lv_iload_n hx hb dX8_fillCell_65 rfl (lv_at hl 4 rfl) ?_
            have hPc := hP.sub (ws' := []) [] rfl
            have hKc := hK.sub (tys' := []) [] rfl
            refine va_calli (va_runSN (As := [.int p0, .int p1, .int v3]) (rest := [.ref le]) ⟨hx, hb, hml, hown, hts⟩ (sX11_spot l dC dI p0 p1 v3 (gi_w g_286 (by decide)) (gi_w g_287 (by decide)) g_284) (⟨va_cnB 3 hts (gz_gP mGA_582 goodGA) rfl rfl rfl (nzA_X8_71 hz) (hts _ (List.mem_cons_of_mem _ mGA_1)) (by decide +kernel) ⟨Nat.le_trans (Nat.le_of_ble_eq_true rfl) hRf, Nat.le_trans (Nat.le_of_ble_eq_true rfl) hRl⟩, (hts _ (List.mem_cons_of_mem _ mGA_581)), trivial⟩) ⟨fun a U g mk q => by obtain ⟨q0, qP, qK, qZ⟩ := q; exact ⟨q0, qP, va_K.moved (u := U) (U := U.calling g mk a) (Vm.Alike.refl U.vm) qK, nzA_same (u := U) (U := U.calling g mk a) rfl qZ⟩, fun U hU hW => ⟨rfl, by rw [hU]; exact hPc, va_K.moved hW.alike hKc, nzA_warm hW hz⟩⟩ rfl rfl hl.1 rfl (lv_room (Nat.le_of_ble_eq_true rfl)) dX8_fillCell_66 ⟨hRc, hRs⟩) hS (fun q _ h => h.elim) (fun q h => h.elim) (fun r_295 u t H1 locs ht hvm hw hB hz1 hk1 hS => ?_)
            have hP := gz_keep hP hk1
            generalize H1 = H at hP hS ⊢
            have gr_295 : gi r_295 0 3574 := hw
            refine lv_iload hx hb dX8_fillCell_69 (lv_at hl 0 rfl) ?_
            refine lv_aload_n hx hb dX8_fillCell_71 rfl (lv_at hl 1 rfl) ?_
            refine va_get (D := (dC, dI)) (ci := 8) (v := .ref co) (C := RX8) (T := TX8) (N := 5) hx hb hts (fun w h => List.mem_cons_of_mem _ (jnGA_X8 w h)) hown hK hP 0 rfl rfl 0 (by decide) (hts _ (List.mem_cons_of_mem _ mGA_117)) (fun _ h9 => h9) rfl dX8_fillCell_72 ?_
            refine lv_iload_n hx hb dX8_fillCell_75 rfl (lv_at hl 2 rfl) ?_
            refine lv_iload_n hx hb dX8_fillCell_76 rfl (lv_at hl 3 rfl) ?_
            have hPc := hP.sub (ws' := []) [] rfl
            have hKc := hK.sub (tys' := []) [] rfl
            refine va_calli (va_runSN (As := [.int p0, .int p1]) (rest := [.ref co, .int x_290, .int r_295, .ref le]) ⟨hx, hb, hml, hown, hts⟩ (sX11_cell l dC dI p0 p1 (gi_w g_286 (by decide)) (gi_w g_287 (by decide))) (⟨va_cnB 2 hts (gz_gP mGA_585 goodGA) rfl rfl rfl (nzA_X8_24 hz) (hts _ (List.mem_cons_of_mem _ mGA_1)) (by decide +kernel) ⟨Nat.le_trans (Nat.le_of_ble_eq_true rfl) hRf, Nat.le_trans (Nat.le_of_ble_eq_true rfl) hRl⟩, (hts _ (List.mem_cons_of_mem _ mGA_584)), trivial⟩) ⟨fun a U g mk q => by obtain ⟨q0, qP, qK, qZ⟩ := q; exact ⟨q0, qP, va_K.moved (u := U) (U := U.calling g mk a) (Vm.Alike.refl U.vm) qK, nzA_same (u := U) (U := U.calling g mk a) rfl qZ⟩, fun U hU hW => ⟨rfl, by rw [hU]; exact hPc, va_K.moved hW.alike hKc, nzA_warm hW hz⟩⟩ rfl rfl hl.1 rfl (lv_room (Nat.le_of_ble_eq_true rfl)) dX8_fillCell_77 ⟨hRc, hRs⟩) hS (fun q _ h => h.elim) (fun q h => h.elim) (fun r_296 u t H1 locs ht hvm hw hB hz1 hk1 hS => ?_)
            have hP := gz_keep hP hk1
            generalize H1 = H at hP hS ⊢
            have gr_296 : gi r_296 0 324 := hw
            refine va_iald hx hb hK hP 1 0 rfl rfl (gi_in gr_296 (by decide)) dX8_fillCell_80 ?_
            refine lv_topi (fun x_297 ex_297 => ?_)
            refine lv_iadd hx hb dX8_fillCell_81 ?_
            refine lv_topi (fun x_298 ex_298 => ?_)
            refine va_iast hx hb hK hP hD hS 2 1 rfl rfl (gi_in gr_295 (by decide)) dX8_fillCell_82 (fun H locs hP hD hS => ?_)
            have hP : va_P (dC, dI) vwCl [(h0, .inr (8, [.ref co, .ref le, .int months, .int full, .int lean])), (co, .inl (kco, 325, .inl fco)), (le, .inl (kle, 3575, .inl (upd z2 (r_295 : Int32).toNatClampNeg x_298)))] H := hP
            have hD : va_D A [(h0, .inr (8, [.ref co, .ref le, .int months, .int full, .int lean])), (co, .inl (kco, 325, .inl fco)), (le, .inl (kle, 3575, .inl (upd z2 (r_295 : Int32).toNatClampNeg x_298)))] := hD
            generalize upd z2 (r_295 : Int32).toNatClampNeg x_298 = f_299 at hP hD
            obtain ⟨x_300, ex_300⟩ : ∃ y : Int32, y = v3 + 1 := ⟨_, rfl⟩
            have gx_300 : gi x_300 1 11 := gi_add ex_300 g_284 (gi_c 1 1 (by decide)) (by decide)
            refine lv_iinc (v := x_300) (lv' := [(3, .int x_300), (4, .int x_290), (0, .ref h0), (1, .int p0), (2, .int p1)]) hx hb dX8_fillCell_83 hl (k := 4) rfl (by rw [ex_300]; rfl) (by decide) rfl (fun ls hl => ?_)
            refine lv_goto (tgt := 5) hx hb dX8_fillCell_86 (by decide) ?_
            exact ih x_300 f_299 _ _ _ (gi_w gx_300 (by decide)) (by have av3 := gv3.1; have bv3 := gv3.2; have qgx_300 := gx_300.1; have rgx_300 := gx_300.2; have igx_300 : x_300.toInt = v3.toInt + 1 := (by have hc1 : (1 : Int32).toInt = 1 := (by decide); have h9 := gi_addI ex_300 (by have h1 := g_284.1; have h2 := (gi_c 1 1 (by decide)).1; have h3 := g_284.2; have h4 := (gi_c 1 1 (by decide)).2; omega) (by have h1 := g_284.1; have h2 := (gi_c 1 1 (by decide)).1; have h3 := g_284.2; have h4 := (gi_c 1 1 (by decide)).2; omega); rw [hc1] at h9; exact h9); have qgv3 := g_284.1; have rgv3 := g_284.2; omega) hP hD hS (lv_sub hl [2, 3, 4, 0] rfl)
        · refine lv_iconst (v := 0) hx hb dX8_fillCell_29 (by decide) ?_
          refine lv_goto (tgt := 50) hx hb dX8_fillCell_30 (by decide) ?_
          refine lv_istore (lv' := [(4, .int 0), (0, .ref h0), (1, .int p0), (2, .int p1), (3, .int v3)]) hx hb dX8_fillCell_50 hl (by decide) rfl (fun ls hl => ?_)
          refine lv_iload hx hb dX8_fillCell_52 (lv_at hl 0 rfl) ?_
          refine lv_ldc (own := RX8) (v := 1000000) hx hb hown (hts _ (List.mem_cons_of_mem _ mGA_788)) dX8_fillCell_54 ?_
          refine lv_icmp_ge (tgt := 83) hx hb dX8_fillCell_56 (by decide) (fun c_301 => absurd c_301 (gi_no_le (gi_c 1000000 1000000 (by decide)) (gi_c 0 0 (by decide)) (by decide))) (fun c_301 => ?_)
          refine lv_aload_n hx hb dX8_fillCell_59 rfl (lv_at hl 1 rfl) ?_
          refine va_get (D := (dC, dI)) (ci := 8) (v := .ref le) (C := RX8) (T := TX8) (N := 5) hx hb hts (fun w h => List.mem_cons_of_mem _ (jnGA_X8 w h)) hown hK hP 0 rfl rfl 1 (by decide) (hts _ (List.mem_cons_of_mem _ mGA_118)) (fun _ h9 => h9) rfl dX8_fillCell_60 ?_
          refine lv_iload_n hx hb dX8_fillCell_63 rfl (lv_at hl 2 rfl) ?_
          refine lv_iload_n hx hb dX8_fillCell_64 rfl (lv_at hl 3 rfl) ?_
          refine lv_iload_n hx hb dX8_fillCell_65 rfl (lv_at hl 4 rfl) ?_
          have hPc := hP.sub (ws' := []) [] rfl
          have hKc := hK.sub (tys' := []) [] rfl
          refine va_calli (va_runSN (As := [.int p0, .int p1, .int v3]) (rest := [.ref le]) ⟨hx, hb, hml, hown, hts⟩ (sX11_spot l dC dI p0 p1 v3 gp0 gp1 g_284) (⟨va_cnB 3 hts (gz_gP mGA_582 goodGA) rfl rfl rfl (nzA_X8_71 hz) (hts _ (List.mem_cons_of_mem _ mGA_1)) (by decide +kernel) ⟨Nat.le_trans (Nat.le_of_ble_eq_true rfl) hRf, Nat.le_trans (Nat.le_of_ble_eq_true rfl) hRl⟩, (hts _ (List.mem_cons_of_mem _ mGA_581)), trivial⟩) ⟨fun a U g mk q => by obtain ⟨q0, qP, qK, qZ⟩ := q; exact ⟨q0, qP, va_K.moved (u := U) (U := U.calling g mk a) (Vm.Alike.refl U.vm) qK, nzA_same (u := U) (U := U.calling g mk a) rfl qZ⟩, fun U hU hW => ⟨rfl, by rw [hU]; exact hPc, va_K.moved hW.alike hKc, nzA_warm hW hz⟩⟩ rfl rfl hl.1 rfl (lv_room (Nat.le_of_ble_eq_true rfl)) dX8_fillCell_66 ⟨hRc, hRs⟩) hS (fun q _ h => h.elim) (fun q h => h.elim) (fun r_302 u t H1 locs ht hvm hw hB hz1 hk1 hS => ?_)
          have hP := gz_keep hP hk1
          generalize H1 = H at hP hS ⊢
          have gr_302 : gi r_302 0 3574 := hw
          refine lv_iload hx hb dX8_fillCell_69 (lv_at hl 0 rfl) ?_
          refine lv_aload_n hx hb dX8_fillCell_71 rfl (lv_at hl 1 rfl) ?_
          refine va_get (D := (dC, dI)) (ci := 8) (v := .ref co) (C := RX8) (T := TX8) (N := 5) hx hb hts (fun w h => List.mem_cons_of_mem _ (jnGA_X8 w h)) hown hK hP 0 rfl rfl 0 (by decide) (hts _ (List.mem_cons_of_mem _ mGA_117)) (fun _ h9 => h9) rfl dX8_fillCell_72 ?_
          refine lv_iload_n hx hb dX8_fillCell_75 rfl (lv_at hl 2 rfl) ?_
          refine lv_iload_n hx hb dX8_fillCell_76 rfl (lv_at hl 3 rfl) ?_
          have hPc := hP.sub (ws' := []) [] rfl
          have hKc := hK.sub (tys' := []) [] rfl
          refine va_calli (va_runSN (As := [.int p0, .int p1]) (rest := [.ref co, .int 0, .int r_302, .ref le]) ⟨hx, hb, hml, hown, hts⟩ (sX11_cell l dC dI p0 p1 gp0 gp1) (⟨va_cnB 2 hts (gz_gP mGA_585 goodGA) rfl rfl rfl (nzA_X8_24 hz) (hts _ (List.mem_cons_of_mem _ mGA_1)) (by decide +kernel) ⟨Nat.le_trans (Nat.le_of_ble_eq_true rfl) hRf, Nat.le_trans (Nat.le_of_ble_eq_true rfl) hRl⟩, (hts _ (List.mem_cons_of_mem _ mGA_584)), trivial⟩) ⟨fun a U g mk q => by obtain ⟨q0, qP, qK, qZ⟩ := q; exact ⟨q0, qP, va_K.moved (u := U) (U := U.calling g mk a) (Vm.Alike.refl U.vm) qK, nzA_same (u := U) (U := U.calling g mk a) rfl qZ⟩, fun U hU hW => ⟨rfl, by rw [hU]; exact hPc, va_K.moved hW.alike hKc, nzA_warm hW hz⟩⟩ rfl rfl hl.1 rfl (lv_room (Nat.le_of_ble_eq_true rfl)) dX8_fillCell_77 ⟨hRc, hRs⟩) hS (fun q _ h => h.elim) (fun q h => h.elim) (fun r_303 u t H1 locs ht hvm hw hB hz1 hk1 hS => ?_)
          have hP := gz_keep hP hk1
          generalize H1 = H at hP hS ⊢
          have gr_303 : gi r_303 0 324 := hw
          refine va_iald hx hb hK hP 1 0 rfl rfl (gi_in gr_303 (by decide)) dX8_fillCell_80 ?_
          refine lv_topi (fun x_304 ex_304 => ?_)
          refine lv_iadd hx hb dX8_fillCell_81 ?_
          refine lv_topi (fun x_305 ex_305 => ?_)
          refine va_iast hx hb hK hP hD hS 2 1 rfl rfl (gi_in gr_302 (by decide)) dX8_fillCell_82 (fun H locs hP hD hS => ?_)
          have hP : va_P (dC, dI) vwCl [(h0, .inr (8, [.ref co, .ref le, .int months, .int full, .int lean])), (co, .inl (kco, 325, .inl fco)), (le, .inl (kle, 3575, .inl (upd z2 (r_302 : Int32).toNatClampNeg x_305)))] H := hP
          have hD : va_D A [(h0, .inr (8, [.ref co, .ref le, .int months, .int full, .int lean])), (co, .inl (kco, 325, .inl fco)), (le, .inl (kle, 3575, .inl (upd z2 (r_302 : Int32).toNatClampNeg x_305)))] := hD
          generalize upd z2 (r_302 : Int32).toNatClampNeg x_305 = f_306 at hP hD
          obtain ⟨x_307, ex_307⟩ : ∃ y : Int32, y = v3 + 1 := ⟨_, rfl⟩
          have gx_307 : gi x_307 1 11 := gi_add ex_307 g_284 (gi_c 1 1 (by decide)) (by decide)
          refine lv_iinc (v := x_307) (lv' := [(3, .int x_307), (4, .int 0), (0, .ref h0), (1, .int p0), (2, .int p1)]) hx hb dX8_fillCell_83 hl (k := 4) rfl (by rw [ex_307]; rfl) (by decide) rfl (fun ls hl => ?_)
          refine lv_goto (tgt := 5) hx hb dX8_fillCell_86 (by decide) ?_
          exact ih x_307 f_306 _ _ _ (gi_w gx_307 (by decide)) (by have av3 := gv3.1; have bv3 := gv3.2; have qgx_307 := gx_307.1; have rgx_307 := gx_307.2; have igx_307 : x_307.toInt = v3.toInt + 1 := (by have hc1 : (1 : Int32).toInt = 1 := (by decide); have h9 := gi_addI ex_307 (by have h1 := g_284.1; have h2 := (gi_c 1 1 (by decide)).1; have h3 := g_284.2; have h4 := (gi_c 1 1 (by decide)).2; omega) (by have h1 := g_284.1; have h2 := (gi_c 1 1 (by decide)).1; have h3 := g_284.2; have h4 := (gi_c 1 1 (by decide)).2; omega); rw [hc1] at h9; exact h9); have qgv3 := g_284.1; have rgv3 := g_284.2; omega) hP hD hS (lv_sub hl [2, 3, 4, 0] rfl)
set_option maxHeartbeats 4000000 in
set_option maxRecDepth 100000 in
theorem sX8_fillCell (l : Launch) (dC : Nat → ClassId) (dI : Nat → Nat → Nat) (sz : Nat) (h0 : Nat) (co : Nat) (le : Nat) (months : Int32) (full : Int32) (lean : Int32) (kco : ClassId) (fco : Nat → Int32) (kle : ClassId) (fle : Nat → Int32) (p0 : Int32) (p1 : Int32) (gmonths : gi months 0 24) (gfull : gi full 0 5) (glean : gi lean 0 5) (gp0 : gi p0 0 24) (gp1 : gi p1 0 24) (hle_gp0_gmonths : p0.toInt ≤ months.toInt) (hle_gp1_gp0 : p1.toInt ≤ p0.toInt) : Met l yX8_fillCell (.code yX8_fillCell cX8_fillCell 5 none :: wsGA) ({ frames := 3, cells := 0, slots := 0, locals := 66 }) (va_Pc [.ref h0, .int p0, .int p1] (fun U => U.heap.size = sz ∧ va_P (dC, dI) vwCl [(h0, .inr (8, [.ref co, .ref le, .int months, .int full, .int lean])), (co, .inl (kco, 325, .inl fco)), (le, .inl (kle, 3575, .inl fle))] U.heap ∧ va_K (dC, dI) vwCl [(kco, .int), (kle, .int)] U ∧ va_D (fun _ => True) [(h0, .inr (8, [.ref co, .ref le, .int months, .int full, .int lean])), (co, .inl (kco, 325, .inl fco)), (le, .inl (kle, 3575, .inl fle))] ∧ nzA U)) (va_Qv (fun (u : Unit) => True) (fun _ t => ∃ (z2 : Nat → Int32), va_P (dC, dI) vwCl [(h0, .inr (8, [.ref co, .ref le, .int months, .int full, .int lean])), (co, .inl (kco, 325, .inl fco)), (le, .inl (kle, 3575, .inl z2))] t.heap ∧ va_D (va_A [(h0, .inr (8, [.ref co, .ref le, .int months, .int full, .int lean])), (co, .inl (kco, 325, .inl fco)), (le, .inl (kle, 3575, .inl fle))] sz) [(h0, .inr (8, [.ref co, .ref le, .int months, .int full, .int lean])), (co, .inl (kco, 325, .inl fco)), (le, .inl (kle, 3575, .inl z2))]) (va_A [(h0, .inr (8, [.ref co, .ref le, .int months, .int full, .int lean])), (co, .inl (kco, 325, .inl fco)), (le, .inl (kle, 3575, .inl fle))] sz)) 0 0 (va_A [(h0, .inr (8, [.ref co, .ref le, .int months, .int full, .int lean])), (co, .inl (kco, 325, .inl fco)), (le, .inl (kle, 3575, .inl fle))] sz) := by
  refine Met.ofW (cc := cX8_fillCell) (maxL := 5) (ret := none) (by decide) rfl ?_
  intro p e s m args below meth c s₁ B hml hv
  obtain ⟨rfl, hsz, hP, hK, hD0, hz⟩ := hv
  have hx := B.exec
  have hb := B.bytes
  have hr := B.returns
  have hts := atoms_spec (ws := (.code yX8_fillCell cX8_fillCell 5 none :: wsGA)) B.pre
  have hown : s.vm.findClass RX8 = some m.cls := findClass_of_methodNamed B.named
  have hlocks := B.notSynchronized
  subst hsz
  have hD := hD0.self (sz := s.heap.size)
  generalize hAe : va_A [(h0, .inr (8, [.ref co, .ref le, .int months, .int full, .int lean])), (co, .inl (kco, 325, .inl fco)), (le, .inl (kle, 3575, .inl fle))] s.heap.size = A at hD ⊢
  have hA : ∀ q : Nat, s.heap.size ≤ q → A q := fun q h => by rw [← hAe]; exact Or.inr h
  have hS : va_S A s.heap s.heap [] := va_S.rf
  have hl := lv_entry ([.ref h0, .int p0, .int p1]) (n := 5) (Nat.le_of_ble_eq_true rfl)
  rw [lg_entry_eq]
  generalize (lg_sl ([.ref h0, .int p0, .int p1]) ++ List.replicate (5 - (lg_sl ([.ref h0, .int p0, .int p1])).length) Slot.unset).toArray = ls at hl ⊢
  have hl : lv_has ls 5 [(0, .ref h0), (1, .int p0), (2, .int p1)] := hl
  refine lv_iload_n hx hb dX8_fillCell_0 rfl (lv_at hl 1 rfl) ?_
  have hPc := hP.sub (ws' := []) [] rfl
  have hKc := hK.sub (tys' := []) [] rfl
  refine va_calli (va_runSN (As := [.int p0]) (rest := []) ⟨hx, hb, hml, hown, hts⟩ (sX11_firstRun l dC dI p0 gp0) (⟨va_cnB 1 hts (gz_gP mGA_504 goodGA) rfl rfl rfl (nzA_X8_52 hz) (hts _ (List.mem_cons_of_mem _ mGA_1)) (by decide +kernel) ⟨Nat.le_of_ble_eq_true rfl, Nat.le_of_ble_eq_true rfl⟩, (hts _ (List.mem_cons_of_mem _ mGA_503)), trivial⟩) ⟨fun a U g mk q => by obtain ⟨q0, qP, qK, qZ⟩ := q; exact ⟨q0, qP, va_K.moved (u := U) (U := U.calling g mk a) (Vm.Alike.refl U.vm) qK, nzA_same (u := U) (U := U.calling g mk a) rfl qZ⟩, fun U hU hW => ⟨rfl, by rw [hU]; exact hPc, va_K.moved hW.alike hKc, nzA_warm hW hz⟩⟩ rfl rfl hl.1 rfl (lv_room (Nat.le_of_ble_eq_true rfl)) dX8_fillCell_1 ⟨Nat.zero_le _, Nat.zero_le _⟩) hS (fun q _ h => h.elim) (fun q h => h.elim) (fun r_308 u t H1 locs ht hvm hw hB hz1 hk1 hS => ?_)
  have hP := gz_keep hP hk1
  generalize H1 = H at hP hS ⊢
  have gr_308 : gi r_308 0 1 := hw
  refine lv_istore_n (lv' := [(3, .int r_308), (0, .ref h0), (1, .int p0), (2, .int p1)]) hx hb dX8_fillCell_4 rfl hl (by decide) rfl (fun ls hl => ?_)
  refine (lp_sX8_fillCell h0 co le months full lean kco fco kle fle p0 p1 gmonths gfull glean gp0 gp1 hle_gp0_gmonths hle_gp1_gp0 hx hb hml hown hts hK hz hA (Nat.le_of_ble_eq_true rfl) (Nat.le_of_ble_eq_true rfl) (Nat.zero_le _) (Nat.zero_le _) (fun z2 H locs ls hP hD hS hl => ?_) 36) r_308 fle _ _ _ (gi_w gr_308 (by decide)) (by have qgr_308 := gr_308.1; have rgr_308 := gr_308.2; omega) hP hD hS (lv_sub hl [1, 2, 3, 0] rfl)
  · skip
    exact W.vret hx hb hr (fun t ht hW => ⟨⟨(), rfl, trivial, z2, by rw [ht]; exact hP, hD⟩, hS.F ht⟩) hS.2.2 dX8_fillCell_89
theorem dX8_run_0 : decode cX8_run 0 = .ok (.aload_n 0, 1) := by decide +kernel
theorem dX8_run_1 : decode cX8_run 1 = .ok (.aload_n 1, 1) := by decide +kernel
theorem dX8_run_2 : decode cX8_run 2 = .ok (.getfield 28, 3) := by decide +kernel
theorem dX8_run_5 : decode cX8_run 5 = .ok (.putfield 34, 3) := by decide +kernel
theorem dX8_run_8 : decode cX8_run 8 = .ok (.aload_n 0, 1) := by decide +kernel
theorem dX8_run_9 : decode cX8_run 9 = .ok (.aload_n 1, 1) := by decide +kernel
theorem dX8_run_10 : decode cX8_run 10 = .ok (.getfield 35, 3) := by decide +kernel
theorem dX8_run_13 : decode cX8_run 13 = .ok (.putfield 38, 3) := by decide +kernel
theorem dX8_run_16 : decode cX8_run 16 = .ok (.aload_n 0, 1) := by decide +kernel
theorem dX8_run_17 : decode cX8_run 17 = .ok (.aload_n 1, 1) := by decide +kernel
theorem dX8_run_18 : decode cX8_run 18 = .ok (.getfield 39, 3) := by decide +kernel
theorem dX8_run_21 : decode cX8_run 21 = .ok (.putfield 42, 3) := by decide +kernel
theorem dX8_run_24 : decode cX8_run 24 = .ok (.aload_n 0, 1) := by decide +kernel
theorem dX8_run_25 : decode cX8_run 25 = .ok (.getfield 15, 3) := by decide +kernel
theorem dX8_run_28 : decode cX8_run 28 = .ok (.ldc 43, 2) := by decide +kernel
theorem dX8_run_30 : decode cX8_run 30 = .ok (.invokestatic 18, 3) := by decide +kernel
theorem dX8_run_33 : decode cX8_run 33 = .ok (.aload_n 0, 1) := by decide +kernel
theorem dX8_run_34 : decode cX8_run 34 = .ok (.getfield 34, 3) := by decide +kernel
theorem dX8_run_37 : decode cX8_run 37 = .ok (.istore_n 2, 1) := by decide +kernel
theorem dX8_run_38 : decode cX8_run 38 = .ok (.iload_n 2, 1) := by decide +kernel
theorem dX8_run_39 : decode cX8_run 39 = .ok (.ifCond .lt 37, 3) := by decide +kernel
theorem dX8_run_42 : decode cX8_run 42 = .ok (.iconst 0, 1) := by decide +kernel
theorem dX8_run_43 : decode cX8_run 43 = .ok (.istore_n 3, 1) := by decide +kernel
theorem dX8_run_44 : decode cX8_run 44 = .ok (.iload_n 3, 1) := by decide +kernel
theorem dX8_run_45 : decode cX8_run 45 = .ok (.iload_n 2, 1) := by decide +kernel
theorem dX8_run_46 : decode cX8_run 46 = .ok (.if_icmp .gt 24, 3) := by decide +kernel
theorem dX8_run_49 : decode cX8_run 49 = .ok (.aload_n 1, 1) := by decide +kernel
theorem dX8_run_50 : decode cX8_run 50 = .ok (.iload_n 2, 1) := by decide +kernel
theorem dX8_run_51 : decode cX8_run 51 = .ok (.iload_n 3, 1) := by decide +kernel
theorem dX8_run_52 : decode cX8_run 52 = .ok (.invokevirtual 44, 3) := by decide +kernel
theorem dX8_run_55 : decode cX8_run 55 = .ok (.ifCond .eq 9, 3) := by decide +kernel
theorem dX8_run_58 : decode cX8_run 58 = .ok (.aload_n 0, 1) := by decide +kernel
theorem dX8_run_59 : decode cX8_run 59 = .ok (.iload_n 2, 1) := by decide +kernel
theorem dX8_run_60 : decode cX8_run 60 = .ok (.iload_n 3, 1) := by decide +kernel
theorem dX8_run_61 : decode cX8_run 61 = .ok (.invokevirtual 48, 3) := by decide +kernel
theorem dX8_run_64 : decode cX8_run 64 = .ok (.iinc 3 1, 3) := by decide +kernel
theorem dX8_run_67 : decode cX8_run 67 = .ok (.goto (-23), 3) := by decide +kernel
theorem dX8_run_70 : decode cX8_run 70 = .ok (.iinc 2 (-1), 3) := by decide +kernel
theorem dX8_run_73 : decode cX8_run 73 = .ok (.goto (-35), 3) := by decide +kernel
theorem dX8_run_76 : decode cX8_run 76 = .ok (.return_, 1) := by decide +kernel
set_option maxHeartbeats 4000000 in
set_option maxRecDepth 100000 in
theorem lp_sX8_run {p : Program} {l : Launch} {e : Env} {R : Room} {s : State} {m : MethodId} {args : Array Value} {below : List Frame} {meth : Method} {c : Code} {Q : State → Prop} {A : Nat → Prop} {cells slots : Nat} {dC : Nat → ClassId} {dI : Nat → Nat → Nat} (h0 : Nat) (co : Nat) (le : Nat) (fr : Nat) (fral : Nat) (months : Int32) (full : Int32) (lean : Int32) (kco : ClassId) (fco : Nat → Int32) (kle : ClassId) (fle : Nat → Int32) (frmonths : Int32) (frfull : Int32) (frlean : Int32) (fron : Nat) (kfral : ClassId) (ffral : Nat → Int32) (gmonths : gi months 0 24) (gfull : gi full 0 5) (glean : gi lean 0 5) (gfrmonths : gi frmonths 0 24) (gfrfull : gi frfull 0 5) (gfrlean : gi frlean 0 5) (hx : p.tables.exec = Jvm.exec) (hb : c.code = cX8_run) (hml : c.maxLocals = 4) (hown : s.vm.findClass RX8 = some m.cls) (hts : ∀ w ∈ ((.code yX8_run cX8_run 4 none :: wsGA) : List Cond), w.before args s = true) (hK : va_K (dC, dI) vwCl [(kco, .int), (kle, .int), (kfral, .int)] s) (hz : nzA s) (hA : ∀ q : Nat, s.heap.size ≤ q → A q) (hRf : 4 ≤ R.frames) (hRl : 90 ≤ R.locals) (hRc : cells ≤ R.cells) (hRs : slots ≤ R.slots) (kr76 : ∀ (w0_2 : Int32) (w0_3 : Int32) (w0_4 : Int32) (z2 : Nat → Int32) (H : Heap) (locs : List Loc) (ls : Array Slot), gi w0_2 0 24 → gi w0_3 0 5 → gi w0_4 0 5 → va_P (dC, dI) vwCl [(h0, .inr (8, [.ref co, .ref le, .int w0_2, .int w0_3, .int w0_4])), (co, .inl (kco, 325, .inl fco)), (le, .inl (kle, 3575, .inl z2)), (fr, .inr (3, [.int frmonths, .int frfull, .int frlean, .ref fral, .ref fron])), (fral, .inl (kfral, 25, .inl ffral))] H → va_D A [(h0, .inr (8, [.ref co, .ref le, .int w0_2, .int w0_3, .int w0_4])), (co, .inl (kco, 325, .inl fco)), (le, .inl (kle, 3575, .inl z2)), (fr, .inr (3, [.int frmonths, .int frfull, .int frlean, .ref fral, .ref fron])), (fral, .inl (kfral, 25, .inl ffral))] → va_S A s.heap H locs → lv_has ls 4 [] → W p l e R s m args below meth c H locs cells slots Q (F0 m 76 ls [])) : ∀ z : Nat, (∀ (v2 : Int32) (w0_2 : Int32) (w0_3 : Int32) (w0_4 : Int32) (z2 : Nat → Int32) (H : Heap) (locs : List Loc) (ls : Array Slot), gi v2 (-1) 24 → gi w0_2 0 24 → gi w0_3 0 5 → gi w0_4 0 5 → v2.toInt ≤ w0_2.toInt → 57 + 56 * v2.toInt < (z : Int) → va_P (dC, dI) vwCl [(h0, .inr (8, [.ref co, .ref le, .int w0_2, .int w0_3, .int w0_4])), (co, .inl (kco, 325, .inl fco)), (le, .inl (kle, 3575, .inl z2)), (fr, .inr (3, [.int frmonths, .int frfull, .int frlean, .ref fral, .ref fron])), (fral, .inl (kfral, 25, .inl ffral))] H → va_D A [(h0, .inr (8, [.ref co, .ref le, .int w0_2, .int w0_3, .int w0_4])), (co, .inl (kco, 325, .inl fco)), (le, .inl (kle, 3575, .inl z2)), (fr, .inr (3, [.int frmonths, .int frfull, .int frlean, .ref fral, .ref fron])), (fral, .inl (kfral, 25, .inl ffral))] → va_S A s.heap H locs → lv_has ls 4 [(0, .ref h0), (1, .ref fr), (2, .int v2)] → W p l e R s m args below meth c H locs cells slots Q (F0 m 38 ls [])) ∧ (∀ (v2 : Int32) (v3 : Int32) (w0_2 : Int32) (w0_3 : Int32) (w0_4 : Int32) (z2 : Nat → Int32) (H : Heap) (locs : List Loc) (ls : Array Slot), gi v2 0 24 → gi v3 0 25 → gi w0_2 0 24 → gi w0_3 0 5 → gi w0_4 0 5 → v2.toInt ≤ w0_2.toInt → 52 + 56 * v2.toInt + (-2) * v3.toInt < (z : Int) → va_P (dC, dI) vwCl [(h0, .inr (8, [.ref co, .ref le, .int w0_2, .int w0_3, .int w0_4])), (co, .inl (kco, 325, .inl fco)), (le, .inl (kle, 3575, .inl z2)), (fr, .inr (3, [.int frmonths, .int frfull, .int frlean, .ref fral, .ref fron])), (fral, .inl (kfral, 25, .inl ffral))] H → va_D A [(h0, .inr (8, [.ref co, .ref le, .int w0_2, .int w0_3, .int w0_4])), (co, .inl (kco, 325, .inl fco)), (le, .inl (kle, 3575, .inl z2)), (fr, .inr (3, [.int frmonths, .int frfull, .int frlean, .ref fral, .ref fron])), (fral, .inl (kfral, 25, .inl ffral))] → va_S A s.heap H locs → lv_has ls 4 [(0, .ref h0), (1, .ref fr), (2, .int v2), (3, .int v3)] → W p l e R s m args below meth c H locs cells slots Q (F0 m 44 ls [])) := by
  intro z
  induction z with
  | zero =>
    refine ⟨?_, ?_⟩
    · intro v2 w0_2 w0_3 w0_4 z2 H locs ls gv2 gw0_2 gw0_3 gw0_4 hle_gv2_gw0_2 hmu hP hD hS hl
      exact absurd hmu (by have hv21 := gv2.1; have hv22 := gv2.2; omega)
    · intro v2 v3 w0_2 w0_3 w0_4 z2 H locs ls gv2 gv3 gw0_2 gw0_3 gw0_4 hle_gv2_gw0_2 hmu hP hD hS hl
      exact absurd hmu (by have hv21 := gv2.1; have hv22 := gv2.2; have hv31 := gv3.1; have hv32 := gv3.2; omega)
  | succ z ih =>
    refine ⟨?_, ?_⟩
    · intro v2 w0_2 w0_3 w0_4 z2 H locs ls gv2 gw0_2 gw0_3 gw0_4 hle_gv2_gw0_2 hmu hP hD hS hl
      refine lv_iload_n hx hb dX8_run_38 rfl (lv_at hl 2 rfl) ?_
      refine lv_if_lt (tgt := 76) hx hb dX8_run_39 (by decide) (fun c_266 => ?_) (fun c_266 => ?_)
      · have g_267 : gi v2 (-1) (-1) := gi_lt_l c_266 gv2 (gi_c 0 0 (by decide)) (by decide)
        exact kr76 w0_2 w0_3 w0_4 z2 _ _ _ gw0_2 gw0_3 gw0_4 hP hD hS (lv_sub hl [] rfl)
      · have g_268 : gi v2 0 24 := gi_le_r (Int32.not_lt.mp c_266) (gi_c 0 0 (by decide)) gv2
        refine lv_iconst (v := 0) hx hb dX8_run_42 (by decide) ?_
        refine lv_istore_n (lv' := [(3, .int 0), (0, .ref h0), (1, .ref fr), (2, .int v2)]) hx hb dX8_run_43 rfl hl (by decide) rfl (fun ls hl => ?_)
        exact ih.2 v2 0 w0_2 w0_3 w0_4 z2 _ _ _ g_268 (gi_w (gi_c 0 0 (by decide)) (by decide)) gw0_2 gw0_3 gw0_4 (by have qgw0_2 := gw0_2.1; have rgw0_2 := gw0_2.2; have qgv2 := g_268.1; have rgv2 := g_268.2; omega) (by have k0 : (0 : Int32).toInt = 0 := (by decide); have av2 := gv2.1; have bv2 := gv2.2; have qgv2 := g_268.1; have rgv2 := g_268.2; omega) hP hD hS (lv_sub hl [1, 2, 3, 0] rfl)
    · intro v2 v3 w0_2 w0_3 w0_4 z2 H locs ls gv2 gv3 gw0_2 gw0_3 gw0_4 hle_gv2_gw0_2 hmu hP hD hS hl
      refine lv_iload_n hx hb dX8_run_44 rfl (lv_at hl 3 rfl) ?_
      refine lv_iload_n hx hb dX8_run_45 rfl (lv_at hl 2 rfl) ?_
      refine lv_icmp_gt (tgt := 70) hx hb dX8_run_46 (by decide) (fun c_269 => ?_) (fun c_269 => ?_)
      · have g_270 : gi v3 1 25 := gi_lt_r c_269 gv2 gv3 (by decide)
        obtain ⟨x_271, ex_271⟩ : ∃ y : Int32, y = v2 + (-1) := ⟨_, rfl⟩
        have gx_271 : gi x_271 (-1) 23 := gi_add ex_271 gv2 (gi_c (-1) (-1) (by decide)) (by decide)
        refine lv_iinc (v := x_271) (lv' := [(2, .int x_271), (0, .ref h0), (1, .ref fr), (3, .int v3)]) hx hb dX8_run_70 hl (k := 2) rfl (by rw [ex_271]; rfl) (by decide) rfl (fun ls hl => ?_)
        refine lv_goto (tgt := 38) hx hb dX8_run_73 (by decide) ?_
        exact ih.1 x_271 w0_2 w0_3 w0_4 z2 _ _ _ (gi_w gx_271 (by decide)) gw0_2 gw0_3 gw0_4 (by have qgw0_2 := gw0_2.1; have rgw0_2 := gw0_2.2; have qgx_271 := gx_271.1; have rgx_271 := gx_271.2; have igx_271 : x_271.toInt = v2.toInt + (-1) := (by have hcm1 : ((-1) : Int32).toInt = (-1) := (by decide); have h9 := gi_addI ex_271 (by have h1 := gv2.1; have h2 := (gi_c (-1) (-1) (by decide)).1; have h3 := gv2.2; have h4 := (gi_c (-1) (-1) (by decide)).2; omega) (by have h1 := gv2.1; have h2 := (gi_c (-1) (-1) (by decide)).1; have h3 := gv2.2; have h4 := (gi_c (-1) (-1) (by decide)).2; omega); rw [hcm1] at h9; exact h9); have qgv2 := gv2.1; have rgv2 := gv2.2; have y1 := (Int32.lt_iff_toInt_lt.mp c_269); omega) (by have av2 := gv2.1; have bv2 := gv2.2; have av3 := gv3.1; have bv3 := gv3.2; have qgx_271 := gx_271.1; have rgx_271 := gx_271.2; have igx_271 : x_271.toInt = v2.toInt + (-1) := (by have hcm1 : ((-1) : Int32).toInt = (-1) := (by decide); have h9 := gi_addI ex_271 (by have h1 := gv2.1; have h2 := (gi_c (-1) (-1) (by decide)).1; have h3 := gv2.2; have h4 := (gi_c (-1) (-1) (by decide)).2; omega) (by have h1 := gv2.1; have h2 := (gi_c (-1) (-1) (by decide)).1; have h3 := gv2.2; have h4 := (gi_c (-1) (-1) (by decide)).2; omega); rw [hcm1] at h9; exact h9); have qgv2 := gv2.1; have rgv2 := gv2.2; omega) hP hD hS (lv_sub hl [1, 2, 0] rfl)
      · have g_272 : gi v3 0 24 := gi_le_l (Int32.not_lt.mp c_269) gv3 gv2
        refine lv_aload_n hx hb dX8_run_49 rfl (lv_at hl 1 rfl) ?_
        refine lv_iload_n hx hb dX8_run_50 rfl (lv_at hl 2 rfl) ?_
        refine lv_iload_n hx hb dX8_run_51 rfl (lv_at hl 3 rfl) ?_
        have hPc := hP.sub (ws' := [(fr, .inr (3, [.int frmonths, .int frfull, .int frlean, .ref fral, .ref fron])), (fral, .inl (kfral, 25, .inl ffral))]) [3, 4] rfl
        have hKc := hK.sub (tys' := [(kfral, .int)]) [2] rfl
        refine va_calli (va_runV (As := [.int v2, .int v3]) (rest := []) ⟨hx, hb, hml, hown, hts⟩ (sX3_allows l dC dI fr fral frmonths frfull frlean fron kfral ffral v2 v3 gfrmonths gfrfull gfrlean gv2) (cwV 2 hts (gz_gV mGA_789 mGA_574 mGA_575 mGA_18 mGA_576 goodGA) rfl rfl rfl (by decide +kernel) ⟨Nat.le_trans (Nat.le_of_ble_eq_true rfl) hRf, Nat.le_trans (Nat.le_of_ble_eq_true rfl) hRl⟩) ⟨fun a U g mk q => by obtain ⟨q0, qP, qK, qZ⟩ := q; exact ⟨q0, qP, va_K.moved (u := U) (U := U.calling g mk a) (Vm.Alike.refl U.vm) qK, nzA_same (u := U) (U := U.calling g mk a) rfl qZ⟩, va_recv hKc hPc (ci := 3) (q0 := 0) rfl rfl, fun U hU hW => ⟨rfl, by rw [hU]; exact hPc, va_K.moved hW.alike hKc, nzA_warm hW hz⟩⟩ rfl rfl hl.1 rfl (lv_room (Nat.le_of_ble_eq_true rfl)) dX8_run_52 ⟨hRc, hRs⟩) hS (fun q _ h => h.elim) (fun q h => h.elim) (fun r_273 u t H1 locs ht hvm hw hB hz1 hk1 hS => ?_)
        have hP := gz_keep hP hk1
        generalize H1 = H at hP hS ⊢
        have gr_273 : gi r_273 0 1 := hw
        refine lv_if_eq (tgt := 64) hx hb dX8_run_55 (by decide) (fun c_274 => ?_) (fun c_274 => ?_)
        · have g_275 : gi r_273 0 0 := gi_eq c_274 (gi_c 0 0 (by decide))
          obtain ⟨x_276, ex_276⟩ : ∃ y : Int32, y = v3 + 1 := ⟨_, rfl⟩
          have gx_276 : gi x_276 1 25 := gi_add ex_276 g_272 (gi_c 1 1 (by decide)) (by decide)
          refine lv_iinc (v := x_276) (lv' := [(3, .int x_276), (0, .ref h0), (1, .ref fr), (2, .int v2)]) hx hb dX8_run_64 hl (k := 3) rfl (by rw [ex_276]; rfl) (by decide) rfl (fun ls hl => ?_)
          refine lv_goto (tgt := 44) hx hb dX8_run_67 (by decide) ?_
          exact ih.2 v2 x_276 w0_2 w0_3 w0_4 z2 _ _ _ gv2 (gi_w gx_276 (by decide)) gw0_2 gw0_3 gw0_4 (by have qgw0_2 := gw0_2.1; have rgw0_2 := gw0_2.2; have qgv2 := gv2.1; have rgv2 := gv2.2; have y1 := (Int32.le_iff_toInt_le.mp (Int32.not_lt.mp c_269)); omega) (by have av2 := gv2.1; have bv2 := gv2.2; have av3 := gv3.1; have bv3 := gv3.2; have qgx_276 := gx_276.1; have rgx_276 := gx_276.2; have igx_276 : x_276.toInt = v3.toInt + 1 := (by have hc1 : (1 : Int32).toInt = 1 := (by decide); have h9 := gi_addI ex_276 (by have h1 := g_272.1; have h2 := (gi_c 1 1 (by decide)).1; have h3 := g_272.2; have h4 := (gi_c 1 1 (by decide)).2; omega) (by have h1 := g_272.1; have h2 := (gi_c 1 1 (by decide)).1; have h3 := g_272.2; have h4 := (gi_c 1 1 (by decide)).2; omega); rw [hc1] at h9; exact h9); have qgv3 := g_272.1; have rgv3 := g_272.2; have qgv2 := gv2.1; have rgv2 := gv2.2; omega) hP hD hS (lv_sub hl [1, 2, 3, 0] rfl)
        · have g_277 : gi r_273 1 1 := gi_ne_lo c_274 gr_273 (gi_c 0 0 (by decide)) (by decide)
          refine lv_aload_n hx hb dX8_run_58 rfl (lv_at hl 0 rfl) ?_
          refine lv_iload_n hx hb dX8_run_59 rfl (lv_at hl 2 rfl) ?_
          refine lv_iload_n hx hb dX8_run_60 rfl (lv_at hl 3 rfl) ?_
          have hPc := hP.sub (ws' := [(h0, .inr (8, [.ref co, .ref le, .int w0_2, .int w0_3, .int w0_4])), (co, .inl (kco, 325, .inl fco)), (le, .inl (kle, 3575, .inl z2))]) [0, 1, 2] rfl
          have hKc := hK.sub (tys' := [(kco, .int), (kle, .int)]) [0, 1] rfl
          have hDc := hD.sub (ws' := [(h0, .inr (8, [.ref co, .ref le, .int w0_2, .int w0_3, .int w0_4])), (co, .inl (kco, 325, .inl fco)), (le, .inl (kle, 3575, .inl z2))]) [0, 1, 2] (by decide) rfl
          have hFc := va_free (wc := [(h0, .inr (8, [.ref co, .ref le, .int w0_2, .int w0_3, .int w0_4])), (co, .inl (kco, 325, .inl fco)), (le, .inl (kle, 3575, .inl z2))]) hD hS hA [0, 1, 2] rfl
          refine va_callv (va_runV (As := [.int v2, .int v3]) (rest := []) ⟨hx, hb, hml, hown, hts⟩ (sX8_fillCell l dC dI H.size h0 co le w0_2 w0_3 w0_4 kco fco kle z2 v2 v3 gw0_2 gw0_3 gw0_4 gv2 g_272 (by have qgw0_2 := gw0_2.1; have rgw0_2 := gw0_2.2; have qgv2 := gv2.1; have rgv2 := gv2.2; have y1 := (Int32.le_iff_toInt_le.mp (Int32.not_lt.mp c_269)); omega) (by have qgv2 := gv2.1; have rgv2 := gv2.2; have qgv3 := g_272.1; have rgv3 := g_272.2; have y1 := (Int32.le_iff_toInt_le.mp (Int32.not_lt.mp c_269)); omega)) (cwV 2 hts (gz_gV mGA_790 mGA_791 mGA_792 mGA_31 mGA_793 goodGA) rfl rfl rfl (by decide +kernel) ⟨Nat.le_trans (Nat.le_of_ble_eq_true rfl) hRf, Nat.le_trans (Nat.le_of_ble_eq_true rfl) hRl⟩) ⟨fun a U g mk q => by obtain ⟨q0, q1, qP, qK, qD, qZ⟩ := q; exact ⟨q0, q1, qP, va_K.moved (u := U) (U := U.calling g mk a) (Vm.Alike.refl U.vm) qK, qD, nzA_same (u := U) (U := U.calling g mk a) rfl qZ⟩, va_recv hKc hPc (ci := 8) (q0 := 0) rfl rfl, fun U hU hW => ⟨rfl, by rw [hU], by rw [hU]; exact hPc, va_K.moved hW.alike hKc, hDc.weaken (fun _ _ _ _ => trivial), nzA_warm hW hz⟩⟩ rfl rfl hl.1 rfl (lv_room (Nat.le_of_ble_eq_true rfl)) dX8_run_61 ⟨hRc, hRs⟩) hS (fun q _ h => hFc q h) hFc (fun u t H1 locs ht hvm hw hB hz1 hk1 hS => ?_)
          obtain ⟨f_279, hP1, hD1⟩ := hB
          rw [ht] at hP1
          obtain ⟨hP, hD⟩ := va_join (wr := [(fr, .inr (3, [.int frmonths, .int frfull, .int frlean, .ref fral, .ref fron])), (fral, .inl (kfral, 25, .inl ffral))]) (w1 := [(h0, .inr (8, [.ref co, .ref le, .int w0_2, .int w0_3, .int w0_4])), (co, .inl (kco, 325, .inl fco)), (le, .inl (kle, 3575, .inl f_279))]) hP hD [0, 1, 2] [3, 4] rfl rfl (by decide) (by decide) hk1 hFc hP1 hD1
          have hP := hP.sub (ws' := [(h0, .inr (8, [.ref co, .ref le, .int w0_2, .int w0_3, .int w0_4])), (co, .inl (kco, 325, .inl fco)), (le, .inl (kle, 3575, .inl f_279)), (fr, .inr (3, [.int frmonths, .int frfull, .int frlean, .ref fral, .ref fron])), (fral, .inl (kfral, 25, .inl ffral))]) [2, 3, 4, 0, 1] rfl
          have hD := hD.sub (ws' := [(h0, .inr (8, [.ref co, .ref le, .int w0_2, .int w0_3, .int w0_4])), (co, .inl (kco, 325, .inl fco)), (le, .inl (kle, 3575, .inl f_279)), (fr, .inr (3, [.int frmonths, .int frfull, .int frlean, .ref fral, .ref fron])), (fral, .inl (kfral, 25, .inl ffral))]) [2, 3, 4, 0, 1] (by decide) rfl
          generalize H1 = H at hP hS ⊢
          obtain ⟨x_280, ex_280⟩ : ∃ y : Int32, y = v3 + 1 := ⟨_, rfl⟩
          have gx_280 : gi x_280 1 25 := gi_add ex_280 g_272 (gi_c 1 1 (by decide)) (by decide)
          refine lv_iinc (v := x_280) (lv' := [(3, .int x_280), (0, .ref h0), (1, .ref fr), (2, .int v2)]) hx hb dX8_run_64 hl (k := 3) rfl (by rw [ex_280]; rfl) (by decide) rfl (fun ls hl => ?_)
          refine lv_goto (tgt := 44) hx hb dX8_run_67 (by decide) ?_
          exact ih.2 v2 x_280 w0_2 w0_3 w0_4 f_279 _ _ _ gv2 (gi_w gx_280 (by decide)) gw0_2 gw0_3 gw0_4 (by have qgw0_2 := gw0_2.1; have rgw0_2 := gw0_2.2; have qgv2 := gv2.1; have rgv2 := gv2.2; have y1 := (Int32.le_iff_toInt_le.mp (Int32.not_lt.mp c_269)); omega) (by have av2 := gv2.1; have bv2 := gv2.2; have av3 := gv3.1; have bv3 := gv3.2; have qgx_280 := gx_280.1; have rgx_280 := gx_280.2; have igx_280 : x_280.toInt = v3.toInt + 1 := (by have hc1 : (1 : Int32).toInt = 1 := (by decide); have h9 := gi_addI ex_280 (by have h1 := g_272.1; have h2 := (gi_c 1 1 (by decide)).1; have h3 := g_272.2; have h4 := (gi_c 1 1 (by decide)).2; omega) (by have h1 := g_272.1; have h2 := (gi_c 1 1 (by decide)).1; have h3 := g_272.2; have h4 := (gi_c 1 1 (by decide)).2; omega); rw [hc1] at h9; exact h9); have qgv3 := g_272.1; have rgv3 := g_272.2; have qgv2 := gv2.1; have rgv2 := gv2.2; omega) hP hD hS (lv_sub hl [1, 2, 3, 0] rfl)
set_option maxHeartbeats 4000000 in
set_option maxRecDepth 100000 in
theorem sX8_run (l : Launch) (dC : Nat → ClassId) (dI : Nat → Nat → Nat) (sz : Nat) (h0 : Nat) (co : Nat) (le : Nat) (fr : Nat) (fral : Nat) (months : Int32) (full : Int32) (lean : Int32) (kco : ClassId) (fco : Nat → Int32) (kle : ClassId) (fle : Nat → Int32) (frmonths : Int32) (frfull : Int32) (frlean : Int32) (fron : Nat) (kfral : ClassId) (ffral : Nat → Int32) (gmonths : gi months 0 24) (gfull : gi full 0 5) (glean : gi lean 0 5) (gfrmonths : gi frmonths 0 24) (gfrfull : gi frfull 0 5) (gfrlean : gi frlean 0 5) : Met l yX8_run (.code yX8_run cX8_run 4 none :: wsGA) ({ frames := 4, cells := 0, slots := 0, locals := 90 }) (va_Pc [.ref h0, .ref fr] (fun U => U.heap.size = sz ∧ va_P (dC, dI) vwCl [(h0, .inr (8, [.ref co, .ref le, .int months, .int full, .int lean])), (co, .inl (kco, 325, .inl fco)), (le, .inl (kle, 3575, .inl fle)), (fr, .inr (3, [.int frmonths, .int frfull, .int frlean, .ref fral, .ref fron])), (fral, .inl (kfral, 25, .inl ffral))] U.heap ∧ va_K (dC, dI) vwCl [(kco, .int), (kle, .int), (kfral, .int)] U ∧ va_D (fun _ => True) [(h0, .inr (8, [.ref co, .ref le, .int months, .int full, .int lean])), (co, .inl (kco, 325, .inl fco)), (le, .inl (kle, 3575, .inl fle)), (fr, .inr (3, [.int frmonths, .int frfull, .int frlean, .ref fral, .ref fron])), (fral, .inl (kfral, 25, .inl ffral))] ∧ nzA U)) (va_Qv (fun (u : Unit) => True) (fun _ t => ∃ (w0_2 : Int32) (w0_3 : Int32) (w0_4 : Int32) (z2 : Nat → Int32), gi w0_2 0 24 ∧ gi w0_3 0 5 ∧ gi w0_4 0 5 ∧ va_P (dC, dI) vwCl [(h0, .inr (8, [.ref co, .ref le, .int w0_2, .int w0_3, .int w0_4])), (co, .inl (kco, 325, .inl fco)), (le, .inl (kle, 3575, .inl z2)), (fr, .inr (3, [.int frmonths, .int frfull, .int frlean, .ref fral, .ref fron])), (fral, .inl (kfral, 25, .inl ffral))] t.heap ∧ va_D (va_A [(h0, .inr (8, [.ref co, .ref le, .int months, .int full, .int lean])), (co, .inl (kco, 325, .inl fco)), (le, .inl (kle, 3575, .inl fle)), (fr, .inr (3, [.int frmonths, .int frfull, .int frlean, .ref fral, .ref fron])), (fral, .inl (kfral, 25, .inl ffral))] sz) [(h0, .inr (8, [.ref co, .ref le, .int w0_2, .int w0_3, .int w0_4])), (co, .inl (kco, 325, .inl fco)), (le, .inl (kle, 3575, .inl z2)), (fr, .inr (3, [.int frmonths, .int frfull, .int frlean, .ref fral, .ref fron])), (fral, .inl (kfral, 25, .inl ffral))]) (va_A [(h0, .inr (8, [.ref co, .ref le, .int months, .int full, .int lean])), (co, .inl (kco, 325, .inl fco)), (le, .inl (kle, 3575, .inl fle)), (fr, .inr (3, [.int frmonths, .int frfull, .int frlean, .ref fral, .ref fron])), (fral, .inl (kfral, 25, .inl ffral))] sz)) 0 0 (va_A [(h0, .inr (8, [.ref co, .ref le, .int months, .int full, .int lean])), (co, .inl (kco, 325, .inl fco)), (le, .inl (kle, 3575, .inl fle)), (fr, .inr (3, [.int frmonths, .int frfull, .int frlean, .ref fral, .ref fron])), (fral, .inl (kfral, 25, .inl ffral))] sz) := by
  refine Met.ofW (cc := cX8_run) (maxL := 4) (ret := none) (by decide) rfl ?_
  intro p e s m args below meth c s₁ B hml hv
  obtain ⟨rfl, hsz, hP, hK, hD0, hz⟩ := hv
  have hx := B.exec
  have hb := B.bytes
  have hr := B.returns
  have hts := atoms_spec (ws := (.code yX8_run cX8_run 4 none :: wsGA)) B.pre
  have hown : s.vm.findClass RX8 = some m.cls := findClass_of_methodNamed B.named
  have hlocks := B.notSynchronized
  subst hsz
  have hD := hD0.self (sz := s.heap.size)
  generalize hAe : va_A [(h0, .inr (8, [.ref co, .ref le, .int months, .int full, .int lean])), (co, .inl (kco, 325, .inl fco)), (le, .inl (kle, 3575, .inl fle)), (fr, .inr (3, [.int frmonths, .int frfull, .int frlean, .ref fral, .ref fron])), (fral, .inl (kfral, 25, .inl ffral))] s.heap.size = A at hD ⊢
  have hA : ∀ q : Nat, s.heap.size ≤ q → A q := fun q h => by rw [← hAe]; exact Or.inr h
  have hS : va_S A s.heap s.heap [] := va_S.rf
  have hl := lv_entry ([.ref h0, .ref fr]) (n := 4) (Nat.le_of_ble_eq_true rfl)
  rw [lg_entry_eq]
  generalize (lg_sl ([.ref h0, .ref fr]) ++ List.replicate (4 - (lg_sl ([.ref h0, .ref fr])).length) Slot.unset).toArray = ls at hl ⊢
  have hl : lv_has ls 4 [(0, .ref h0), (1, .ref fr)] := hl
  refine lv_aload_n hx hb dX8_run_0 rfl (lv_at hl 0 rfl) ?_
  refine lv_aload_n hx hb dX8_run_1 rfl (lv_at hl 1 rfl) ?_
  refine va_get (D := (dC, dI)) (ci := 3) (v := .int frmonths) (C := RX3) (T := TX3) (N := 5) hx hb hts (fun w h => List.mem_cons_of_mem _ (jnGA_X3 w h)) hown hK hP 3 rfl rfl 0 (by decide) (hts _ (List.mem_cons_of_mem _ mGA_782)) (fun _ h9 => h9) rfl dX8_run_2 ?_
  refine va_put (D := (dC, dI)) (ci := 8) (v := .int frmonths) (ty := .int) (C := RX8) (T := TX8) (N := 5) hx hb hts (fun w h => List.mem_cons_of_mem _ (jnGA_X8 w h)) tyX8 tyX8_ok nmX8 hown hK hP hD hS 0 rfl rfl 2 (by decide) (hts _ (List.mem_cons_of_mem _ mGA_783)) (fun _ h9 => h9) rfl (by decide +kernel) rfl rfl (Nat.le_of_ble_eq_true rfl) dX8_run_5 (fun H locs hP hD hS => ?_)
  have hP : va_P (dC, dI) vwCl [(h0, .inr (8, [.ref co, .ref le, .int frmonths, .int full, .int lean])), (co, .inl (kco, 325, .inl fco)), (le, .inl (kle, 3575, .inl fle)), (fr, .inr (3, [.int frmonths, .int frfull, .int frlean, .ref fral, .ref fron])), (fral, .inl (kfral, 25, .inl ffral))] H := hP
  have hD : va_D A [(h0, .inr (8, [.ref co, .ref le, .int frmonths, .int full, .int lean])), (co, .inl (kco, 325, .inl fco)), (le, .inl (kle, 3575, .inl fle)), (fr, .inr (3, [.int frmonths, .int frfull, .int frlean, .ref fral, .ref fron])), (fral, .inl (kfral, 25, .inl ffral))] := hD
  refine lv_aload_n hx hb dX8_run_8 rfl (lv_at hl 0 rfl) ?_
  refine lv_aload_n hx hb dX8_run_9 rfl (lv_at hl 1 rfl) ?_
  refine va_get (D := (dC, dI)) (ci := 3) (v := .int frfull) (C := RX3) (T := TX3) (N := 5) hx hb hts (fun w h => List.mem_cons_of_mem _ (jnGA_X3 w h)) hown hK hP 3 rfl rfl 1 (by decide) (hts _ (List.mem_cons_of_mem _ mGA_784)) (fun _ h9 => h9) rfl dX8_run_10 ?_
  refine va_put (D := (dC, dI)) (ci := 8) (v := .int frfull) (ty := .int) (C := RX8) (T := TX8) (N := 5) hx hb hts (fun w h => List.mem_cons_of_mem _ (jnGA_X8 w h)) tyX8 tyX8_ok nmX8 hown hK hP hD hS 0 rfl rfl 3 (by decide) (hts _ (List.mem_cons_of_mem _ mGA_785)) (fun _ h9 => h9) rfl (by decide +kernel) rfl rfl (Nat.le_of_ble_eq_true rfl) dX8_run_13 (fun H locs hP hD hS => ?_)
  have hP : va_P (dC, dI) vwCl [(h0, .inr (8, [.ref co, .ref le, .int frmonths, .int frfull, .int lean])), (co, .inl (kco, 325, .inl fco)), (le, .inl (kle, 3575, .inl fle)), (fr, .inr (3, [.int frmonths, .int frfull, .int frlean, .ref fral, .ref fron])), (fral, .inl (kfral, 25, .inl ffral))] H := hP
  have hD : va_D A [(h0, .inr (8, [.ref co, .ref le, .int frmonths, .int frfull, .int lean])), (co, .inl (kco, 325, .inl fco)), (le, .inl (kle, 3575, .inl fle)), (fr, .inr (3, [.int frmonths, .int frfull, .int frlean, .ref fral, .ref fron])), (fral, .inl (kfral, 25, .inl ffral))] := hD
  refine lv_aload_n hx hb dX8_run_16 rfl (lv_at hl 0 rfl) ?_
  refine lv_aload_n hx hb dX8_run_17 rfl (lv_at hl 1 rfl) ?_
  refine va_get (D := (dC, dI)) (ci := 3) (v := .int frlean) (C := RX3) (T := TX3) (N := 5) hx hb hts (fun w h => List.mem_cons_of_mem _ (jnGA_X3 w h)) hown hK hP 3 rfl rfl 2 (by decide) (hts _ (List.mem_cons_of_mem _ mGA_786)) (fun _ h9 => h9) rfl dX8_run_18 ?_
  refine va_put (D := (dC, dI)) (ci := 8) (v := .int frlean) (ty := .int) (C := RX8) (T := TX8) (N := 5) hx hb hts (fun w h => List.mem_cons_of_mem _ (jnGA_X8 w h)) tyX8 tyX8_ok nmX8 hown hK hP hD hS 0 rfl rfl 4 (by decide) (hts _ (List.mem_cons_of_mem _ mGA_787)) (fun _ h9 => h9) rfl (by decide +kernel) rfl rfl (Nat.le_of_ble_eq_true rfl) dX8_run_21 (fun H locs hP hD hS => ?_)
  have hP : va_P (dC, dI) vwCl [(h0, .inr (8, [.ref co, .ref le, .int frmonths, .int frfull, .int frlean])), (co, .inl (kco, 325, .inl fco)), (le, .inl (kle, 3575, .inl fle)), (fr, .inr (3, [.int frmonths, .int frfull, .int frlean, .ref fral, .ref fron])), (fral, .inl (kfral, 25, .inl ffral))] H := hP
  have hD : va_D A [(h0, .inr (8, [.ref co, .ref le, .int frmonths, .int frfull, .int frlean])), (co, .inl (kco, 325, .inl fco)), (le, .inl (kle, 3575, .inl fle)), (fr, .inr (3, [.int frmonths, .int frfull, .int frlean, .ref fral, .ref fron])), (fral, .inl (kfral, 25, .inl ffral))] := hD
  refine lv_aload_n hx hb dX8_run_24 rfl (lv_at hl 0 rfl) ?_
  refine va_get (D := (dC, dI)) (ci := 8) (v := .ref le) (C := RX8) (T := TX8) (N := 5) hx hb hts (fun w h => List.mem_cons_of_mem _ (jnGA_X8 w h)) hown hK hP 0 rfl rfl 1 (by decide) (hts _ (List.mem_cons_of_mem _ mGA_118)) (fun _ h9 => h9) rfl dX8_run_25 ?_
  refine lv_ldc (own := RX8) (v := 1000000) hx hb hown (hts _ (List.mem_cons_of_mem _ mGA_788)) dX8_run_28 ?_
  have hPc := hP.sub (ws' := [(le, .inl (kle, 3575, .inl fle))]) [2] rfl
  have hKc := hK.sub (tys' := [(kle, .int)]) [1] rfl
  have hDc := hD.sub (ws' := [(le, .inl (kle, 3575, .inl fle))]) [2] (by decide) rfl
  have hFc := va_free (wc := [(le, .inl (kle, 3575, .inl fle))]) hD hS hA [2] rfl
  refine va_callv (va_runS (As := [.ref le, .int 1000000]) (rest := []) ⟨hx, hb, hml, hown, hts⟩ (sJ7_fill3575 l dC dI H.size le kle fle 1000000) (⟨callB_of 2 hts (gz_gP mGA_568 goodGA) rfl rfl rfl (hts _ (List.mem_cons_of_mem _ mGA_567)) (hts _ (List.mem_cons_of_mem _ mGA_773)) (by decide +kernel) ⟨Nat.le_of_ble_eq_true rfl, Nat.le_of_ble_eq_true rfl⟩, (hts _ (List.mem_cons_of_mem _ mGA_566))⟩) ⟨fun a U g mk q => by obtain ⟨q0, q1, qP, qK, qD, qZ⟩ := q; exact ⟨q0, q1, qP, va_K.moved (u := U) (U := U.calling g mk a) (Vm.Alike.refl U.vm) qK, qD, nzA_same (u := U) (U := U.calling g mk a) rfl qZ⟩, fun U hU hW => ⟨rfl, by rw [hU], by rw [hU]; exact hPc, va_K.moved hW.alike hKc, hDc.weaken (fun _ _ _ _ => trivial), nzA_warm hW hz⟩⟩ rfl rfl hl.1 rfl (lv_room (Nat.le_of_ble_eq_true rfl)) dX8_run_30 ⟨Nat.zero_le _, Nat.zero_le _⟩) hS (fun q _ h => hFc q h) hFc (fun u t H1 locs ht hvm hw hB hz1 hk1 hS => ?_)
  obtain ⟨f_282, hP1, hD1⟩ := hB
  rw [ht] at hP1
  obtain ⟨hP, hD⟩ := va_join (wr := [(h0, .inr (8, [.ref co, .ref le, .int frmonths, .int frfull, .int frlean])), (co, .inl (kco, 325, .inl fco)), (fr, .inr (3, [.int frmonths, .int frfull, .int frlean, .ref fral, .ref fron])), (fral, .inl (kfral, 25, .inl ffral))]) (w1 := [(le, .inl (kle, 3575, .inl f_282))]) hP hD [2] [0, 1, 3, 4] rfl rfl (by decide) (by decide) hk1 hFc hP1 hD1
  have hP := hP.sub (ws' := [(h0, .inr (8, [.ref co, .ref le, .int frmonths, .int frfull, .int frlean])), (co, .inl (kco, 325, .inl fco)), (le, .inl (kle, 3575, .inl f_282)), (fr, .inr (3, [.int frmonths, .int frfull, .int frlean, .ref fral, .ref fron])), (fral, .inl (kfral, 25, .inl ffral))]) [0, 1, 4, 2, 3] rfl
  have hD := hD.sub (ws' := [(h0, .inr (8, [.ref co, .ref le, .int frmonths, .int frfull, .int frlean])), (co, .inl (kco, 325, .inl fco)), (le, .inl (kle, 3575, .inl f_282)), (fr, .inr (3, [.int frmonths, .int frfull, .int frlean, .ref fral, .ref fron])), (fral, .inl (kfral, 25, .inl ffral))]) [0, 1, 4, 2, 3] (by decide) rfl
  generalize H1 = H at hP hS ⊢
  refine lv_aload_n hx hb dX8_run_33 rfl (lv_at hl 0 rfl) ?_
  refine va_get (D := (dC, dI)) (ci := 8) (v := .int frmonths) (C := RX8) (T := TX8) (N := 5) hx hb hts (fun w h => List.mem_cons_of_mem _ (jnGA_X8 w h)) hown hK hP 0 rfl rfl 2 (by decide) (hts _ (List.mem_cons_of_mem _ mGA_783)) (fun _ h9 => h9) rfl dX8_run_34 ?_
  refine lv_istore_n (lv' := [(2, .int frmonths), (0, .ref h0), (1, .ref fr)]) hx hb dX8_run_37 rfl hl (by decide) rfl (fun ls hl => ?_)
  refine (lp_sX8_run h0 co le fr fral months full lean kco fco kle fle frmonths frfull frlean fron kfral ffral gmonths gfull glean gfrmonths gfrfull gfrlean hx hb hml hown hts hK hz hA (Nat.le_of_ble_eq_true rfl) (Nat.le_of_ble_eq_true rfl) (Nat.zero_le _) (Nat.zero_le _) (fun w0_2 w0_3 w0_4 z2 H locs ls gw0_2 gw0_3 gw0_4 hP hD hS hl => ?_) 1522).1 frmonths frmonths frfull frlean f_282 _ _ _ (gi_w gfrmonths (by decide)) gfrmonths gfrfull gfrlean (by have qgfrmonths := gfrmonths.1; have rgfrmonths := gfrmonths.2; omega) (by have qgfrmonths := gfrmonths.1; have rgfrmonths := gfrmonths.2; omega) hP hD hS (lv_sub hl [1, 2, 0] rfl)
  · skip
    exact W.vret hx hb hr (fun t ht hW => ⟨⟨(), rfl, trivial, w0_2, w0_3, w0_4, z2, gw0_2, gw0_3, gw0_4, by rw [ht]; exact hP, hD⟩, hS.F ht⟩) hS.2.2 dX8_run_76
theorem dX8_fullBits_0 : decode cX8_fullBits 0 = .ok (.iconst 0, 1) := by decide +kernel
theorem dX8_fullBits_1 : decode cX8_fullBits 1 = .ok (.istore_n 1, 1) := by decide +kernel
theorem dX8_fullBits_2 : decode cX8_fullBits 2 = .ok (.iconst 0, 1) := by decide +kernel
theorem dX8_fullBits_3 : decode cX8_fullBits 3 = .ok (.istore_n 2, 1) := by decide +kernel
theorem dX8_fullBits_4 : decode cX8_fullBits 4 = .ok (.iconst 0, 1) := by decide +kernel
theorem dX8_fullBits_5 : decode cX8_fullBits 5 = .ok (.istore_n 3, 1) := by decide +kernel
theorem dX8_fullBits_6 : decode cX8_fullBits 6 = .ok (.iconst 0, 1) := by decide +kernel
theorem dX8_fullBits_7 : decode cX8_fullBits 7 = .ok (.istore 4, 2) := by decide +kernel
theorem dX8_fullBits_9 : decode cX8_fullBits 9 = .ok (.iload 4, 2) := by decide +kernel
theorem dX8_fullBits_11 : decode cX8_fullBits 11 = .ok (.aload_n 0, 1) := by decide +kernel
theorem dX8_fullBits_12 : decode cX8_fullBits 12 = .ok (.getfield 34, 3) := by decide +kernel
theorem dX8_fullBits_15 : decode cX8_fullBits 15 = .ok (.if_icmp .ge 63, 3) := by decide +kernel
theorem dX8_fullBits_18 : decode cX8_fullBits 18 = .ok (.aload_n 0, 1) := by decide +kernel
theorem dX8_fullBits_19 : decode cX8_fullBits 19 = .ok (.iload 4, 2) := by decide +kernel
theorem dX8_fullBits_21 : decode cX8_fullBits 21 = .ok (.iload_n 2, 1) := by decide +kernel
theorem dX8_fullBits_22 : decode cX8_fullBits 22 = .ok (.iload_n 3, 1) := by decide +kernel
theorem dX8_fullBits_23 : decode cX8_fullBits 23 = .ok (.invokevirtual 63, 3) := by decide +kernel
theorem dX8_fullBits_26 : decode cX8_fullBits 26 = .ok (.aload_n 0, 1) := by decide +kernel
theorem dX8_fullBits_27 : decode cX8_fullBits 27 = .ok (.iload 4, 2) := by decide +kernel
theorem dX8_fullBits_29 : decode cX8_fullBits 29 = .ok (.iload_n 2, 1) := by decide +kernel
theorem dX8_fullBits_30 : decode cX8_fullBits 30 = .ok (.iload_n 3, 1) := by decide +kernel
theorem dX8_fullBits_31 : decode cX8_fullBits 31 = .ok (.invokevirtual 60, 3) := by decide +kernel
theorem dX8_fullBits_34 : decode cX8_fullBits 34 = .ok (.if_icmp .gt 19, 3) := by decide +kernel
theorem dX8_fullBits_37 : decode cX8_fullBits 37 = .ok (.iload_n 3, 1) := by decide +kernel
theorem dX8_fullBits_38 : decode cX8_fullBits 38 = .ok (.aload_n 0, 1) := by decide +kernel
theorem dX8_fullBits_39 : decode cX8_fullBits 39 = .ok (.getfield 38, 3) := by decide +kernel
theorem dX8_fullBits_42 : decode cX8_fullBits 42 = .ok (.aload_n 0, 1) := by decide +kernel
theorem dX8_fullBits_43 : decode cX8_fullBits 43 = .ok (.getfield 42, 3) := by decide +kernel
theorem dX8_fullBits_46 : decode cX8_fullBits 46 = .ok (.invokestatic 77, 3) := by decide +kernel
theorem dX8_fullBits_49 : decode cX8_fullBits 49 = .ok (.istore_n 3, 1) := by decide +kernel
theorem dX8_fullBits_50 : decode cX8_fullBits 50 = .ok (.goto 22, 3) := by decide +kernel
theorem dX8_fullBits_53 : decode cX8_fullBits 53 = .ok (.iload_n 1, 1) := by decide +kernel
theorem dX8_fullBits_54 : decode cX8_fullBits 54 = .ok (.iconst 1, 1) := by decide +kernel
theorem dX8_fullBits_55 : decode cX8_fullBits 55 = .ok (.iload 4, 2) := by decide +kernel
theorem dX8_fullBits_57 : decode cX8_fullBits 57 = .ok (.ishl, 1) := by decide +kernel
theorem dX8_fullBits_58 : decode cX8_fullBits 58 = .ok (.ior, 1) := by decide +kernel
theorem dX8_fullBits_59 : decode cX8_fullBits 59 = .ok (.istore_n 1, 1) := by decide +kernel
theorem dX8_fullBits_60 : decode cX8_fullBits 60 = .ok (.iload_n 3, 1) := by decide +kernel
theorem dX8_fullBits_61 : decode cX8_fullBits 61 = .ok (.aload_n 0, 1) := by decide +kernel
theorem dX8_fullBits_62 : decode cX8_fullBits 62 = .ok (.getfield 38, 3) := by decide +kernel
theorem dX8_fullBits_65 : decode cX8_fullBits 65 = .ok (.invokestatic 74, 3) := by decide +kernel
theorem dX8_fullBits_68 : decode cX8_fullBits 68 = .ok (.istore_n 3, 1) := by decide +kernel
theorem dX8_fullBits_69 : decode cX8_fullBits 69 = .ok (.iinc 2 1, 3) := by decide +kernel
theorem dX8_fullBits_72 : decode cX8_fullBits 72 = .ok (.iinc 4 1, 3) := by decide +kernel
theorem dX8_fullBits_75 : decode cX8_fullBits 75 = .ok (.goto (-66), 3) := by decide +kernel
theorem dX8_fullBits_78 : decode cX8_fullBits 78 = .ok (.iload_n 1, 1) := by decide +kernel
theorem dX8_fullBits_79 : decode cX8_fullBits 79 = .ok (.ireturn, 1) := by decide +kernel
set_option maxHeartbeats 4000000 in
set_option maxRecDepth 100000 in
theorem lp_sX8_fullBits {p : Program} {l : Launch} {e : Env} {R : Room} {s : State} {m : MethodId} {args : Array Value} {below : List Frame} {meth : Method} {c : Code} {Q : State → Prop} {A : Nat → Prop} {cells slots : Nat} {dC : Nat → ClassId} {dI : Nat → Nat → Nat} (h0 : Nat) (le : Nat) (co : Nat) (months : Int32) (full : Int32) (lean : Int32) (kle : ClassId) (fle : Nat → Int32) (gmonths : gi months 0 24) (gfull : gi full 0 5) (glean : gi lean 0 5) (hx : p.tables.exec = Jvm.exec) (hb : c.code = cX8_fullBits) (hml : c.maxLocals = 5) (hown : s.vm.findClass RX8 = some m.cls) (hts : ∀ w ∈ ((.code yX8_fullBits cX8_fullBits 5 (some .int) :: wsGA) : List Cond), w.before args s = true) (hK : va_K (dC, dI) vwCl [(kle, .int)] s) (hz : nzA s) (hRf : 3 ≤ R.frames) (hRl : 66 ≤ R.locals) (hRc : cells ≤ R.cells) (hRs : slots ≤ R.slots) (kr79 : ∀ (v : Int32) (H : Heap) (locs : List Loc) (ls : Array Slot), va_P (dC, dI) vwCl [(h0, .inr (8, [.ref co, .ref le, .int months, .int full, .int lean])), (le, .inl (kle, 3575, .inl fle))] H → va_S A s.heap H locs → lv_has ls 5 [] → W p l e R s m args below meth c H locs cells slots Q (F0 m 79 ls [.int v])) : ∀ z : Nat, (∀ (v1 : Int32) (v2 : Int32) (v3 : Int32) (v4 : Int32) (H : Heap) (locs : List Loc) (ls : Array Slot), gi v2 0 24 → gi v3 0 10 → gi v4 0 24 → v2.toInt ≤ v4.toInt → 49 + (-2) * v4.toInt < (z : Int) → va_P (dC, dI) vwCl [(h0, .inr (8, [.ref co, .ref le, .int months, .int full, .int lean])), (le, .inl (kle, 3575, .inl fle))] H → va_S A s.heap H locs → lv_has ls 5 [(0, .ref h0), (1, .int v1), (2, .int v2), (3, .int v3), (4, .int v4)] → W p l e R s m args below meth c H locs cells slots Q (F0 m 9 ls [])) := by
  intro z
  induction z with
  | zero =>
    intro v1 v2 v3 v4 H locs ls gv2 gv3 gv4 hle_gv2_gv4 hmu hP hS hl
    exact absurd hmu (by have hv41 := gv4.1; have hv42 := gv4.2; omega)
  | succ z ih =>
      intro v1 v2 v3 v4 H locs ls gv2 gv3 gv4 hle_gv2_gv4 hmu hP hS hl
      refine lv_iload hx hb dX8_fullBits_9 (lv_at hl 4 rfl) ?_
      refine lv_aload_n hx hb dX8_fullBits_11 rfl (lv_at hl 0 rfl) ?_
      refine va_get (D := (dC, dI)) (ci := 8) (v := .int months) (C := RX8) (T := TX8) (N := 5) hx hb hts (fun w h => List.mem_cons_of_mem _ (jnGA_X8 w h)) hown hK hP 0 rfl rfl 2 (by decide) (hts _ (List.mem_cons_of_mem _ mGA_783)) (fun _ h9 => h9) rfl dX8_fullBits_12 ?_
      refine lv_icmp_ge (tgt := 78) hx hb dX8_fullBits_15 (by decide) (fun c_227 => ?_) (fun c_227 => ?_)
      · refine lv_iload_n hx hb dX8_fullBits_78 rfl (lv_at hl 1 rfl) ?_
        exact kr79 v1 _ _ _ hP hS (lv_sub hl [] rfl)
      · have g_228 : gi v4 0 23 := gi_lt_l (Int32.not_le.mp c_227) gv4 gmonths (by decide)
        have g_229 : gi v2 0 23 := gi_rel hle_gv2_gv4 gv2 g_228
        have g_230 : gi months 1 24 := gi_lt_r (Int32.not_le.mp c_227) gv4 gmonths (by decide)
        refine lv_aload_n hx hb dX8_fullBits_18 rfl (lv_at hl 0 rfl) ?_
        refine lv_iload hx hb dX8_fullBits_19 (lv_at hl 4 rfl) ?_
        refine lv_iload_n hx hb dX8_fullBits_21 rfl (lv_at hl 2 rfl) ?_
        refine lv_iload_n hx hb dX8_fullBits_22 rfl (lv_at hl 3 rfl) ?_
        have hPc := hP.sub (ws' := [(h0, .inr (8, [.ref co, .ref le, .int months, .int full, .int lean])), (le, .inl (kle, 3575, .inl fle))]) [0, 1] rfl
        have hKc := hK.sub (tys' := [(kle, .int)]) [0] rfl
        refine va_calli (va_runV (As := [.int v4, .int v2, .int v3]) (rest := []) ⟨hx, hb, hml, hown, hts⟩ (sX8_withLean l dC dI h0 le co months full lean kle fle v4 v2 v3 (gi_w g_230 (by decide)) gfull glean g_228 (gi_w g_229 (by decide)) gv3) (cwV 3 hts (gz_gV mGA_799 mGA_800 mGA_801 mGA_31 mGA_802 goodGA) rfl rfl rfl (by decide +kernel) ⟨Nat.le_trans (Nat.le_of_ble_eq_true rfl) hRf, Nat.le_trans (Nat.le_of_ble_eq_true rfl) hRl⟩) ⟨fun a U g mk q => by obtain ⟨q0, qP, qK, qZ⟩ := q; exact ⟨q0, qP, va_K.moved (u := U) (U := U.calling g mk a) (Vm.Alike.refl U.vm) qK, nzA_same (u := U) (U := U.calling g mk a) rfl qZ⟩, va_recv hKc hPc (ci := 8) (q0 := 0) rfl rfl, fun U hU hW => ⟨rfl, by rw [hU]; exact hPc, va_K.moved hW.alike hKc, nzA_warm hW hz⟩⟩ rfl rfl hl.1 rfl (lv_room (Nat.le_of_ble_eq_true rfl)) dX8_fullBits_23 ⟨hRc, hRs⟩) hS (fun q _ h => h.elim) (fun q h => h.elim) (fun r_231 u t H1 locs ht hvm hw hB hz1 hk1 hS => ?_)
        have hP := gz_keep hP hk1
        generalize H1 = H at hP hS ⊢
        refine lv_aload_n hx hb dX8_fullBits_26 rfl (lv_at hl 0 rfl) ?_
        refine lv_iload hx hb dX8_fullBits_27 (lv_at hl 4 rfl) ?_
        refine lv_iload_n hx hb dX8_fullBits_29 rfl (lv_at hl 2 rfl) ?_
        refine lv_iload_n hx hb dX8_fullBits_30 rfl (lv_at hl 3 rfl) ?_
        have hPc := hP.sub (ws' := [(h0, .inr (8, [.ref co, .ref le, .int months, .int full, .int lean])), (le, .inl (kle, 3575, .inl fle))]) [0, 1] rfl
        have hKc := hK.sub (tys' := [(kle, .int)]) [0] rfl
        refine va_calli (va_runV (As := [.int v4, .int v2, .int v3]) (rest := [.int r_231]) ⟨hx, hb, hml, hown, hts⟩ (sX8_withFull l dC dI h0 le co months full lean kle fle v4 v2 v3 (gi_w g_230 (by decide)) gfull glean g_228 g_229 gv3) (cwV 3 hts (gz_gV mGA_795 mGA_796 mGA_797 mGA_31 mGA_798 goodGA) rfl rfl rfl (by decide +kernel) ⟨Nat.le_trans (Nat.le_of_ble_eq_true rfl) hRf, Nat.le_trans (Nat.le_of_ble_eq_true rfl) hRl⟩) ⟨fun a U g mk q => by obtain ⟨q0, qP, qK, qZ⟩ := q; exact ⟨q0, qP, va_K.moved (u := U) (U := U.calling g mk a) (Vm.Alike.refl U.vm) qK, nzA_same (u := U) (U := U.calling g mk a) rfl qZ⟩, va_recv hKc hPc (ci := 8) (q0 := 0) rfl rfl, fun U hU hW => ⟨rfl, by rw [hU]; exact hPc, va_K.moved hW.alike hKc, nzA_warm hW hz⟩⟩ rfl rfl hl.1 rfl (lv_room (Nat.le_of_ble_eq_true rfl)) dX8_fullBits_31 ⟨hRc, hRs⟩) hS (fun q _ h => h.elim) (fun q h => h.elim) (fun r_232 u t H1 locs ht hvm hw hB hz1 hk1 hS => ?_)
        have hP := gz_keep hP hk1
        generalize H1 = H at hP hS ⊢
        refine lv_icmp_gt (tgt := 53) hx hb dX8_fullBits_34 (by decide) (fun c_233 => ?_) (fun c_233 => ?_)
        · have g_234 : gi r_232 (-2147483648) 2147483646 := gi_lt_l c_233 (gi_any r_232) (gi_any r_231) (by decide)
          have g_235 : gi r_231 (-2147483647) 2147483647 := gi_lt_r c_233 (gi_any r_232) (gi_any r_231) (by decide)
          refine lv_iload_n hx hb dX8_fullBits_53 rfl (lv_at hl 1 rfl) ?_
          refine lv_iconst (v := 1) hx hb dX8_fullBits_54 (by decide) ?_
          refine lv_iload hx hb dX8_fullBits_55 (lv_at hl 4 rfl) ?_
          refine lv_ishl hx hb dX8_fullBits_57 ?_
          refine lv_topi (fun x_236 ex_236 => ?_)
          refine lv_ior hx hb dX8_fullBits_58 ?_
          refine lv_topi (fun x_237 ex_237 => ?_)
          refine lv_istore_n (lv' := [(1, .int x_237), (0, .ref h0), (2, .int v2), (3, .int v3), (4, .int v4)]) hx hb dX8_fullBits_59 rfl hl (by decide) rfl (fun ls hl => ?_)
          refine lv_iload_n hx hb dX8_fullBits_60 rfl (lv_at hl 3 rfl) ?_
          refine lv_aload_n hx hb dX8_fullBits_61 rfl (lv_at hl 1 rfl) ?_
          refine va_get (D := (dC, dI)) (ci := 8) (v := .int full) (C := RX8) (T := TX8) (N := 5) hx hb hts (fun w h => List.mem_cons_of_mem _ (jnGA_X8 w h)) hown hK hP 0 rfl rfl 3 (by decide) (hts _ (List.mem_cons_of_mem _ mGA_785)) (fun _ h9 => h9) rfl dX8_fullBits_62 ?_
          have hPc := hP.sub (ws' := []) [] rfl
          have hKc := hK.sub (tys' := []) [] rfl
          refine va_calli (va_runSN (As := [.int v3, .int full]) (rest := []) ⟨hx, hb, hml, hown, hts⟩ (sX11_runWithFull l dC dI v3 full gv3 gfull) (⟨va_cnB 2 hts (gz_gP mGA_508 goodGA) rfl rfl rfl (nzA_X8_74 hz) (hts _ (List.mem_cons_of_mem _ mGA_1)) (by decide +kernel) ⟨Nat.le_trans (Nat.le_of_ble_eq_true rfl) hRf, Nat.le_trans (Nat.le_of_ble_eq_true rfl) hRl⟩, (hts _ (List.mem_cons_of_mem _ mGA_507)), trivial⟩) ⟨fun a U g mk q => by obtain ⟨q0, qP, qK, qZ⟩ := q; exact ⟨q0, qP, va_K.moved (u := U) (U := U.calling g mk a) (Vm.Alike.refl U.vm) qK, nzA_same (u := U) (U := U.calling g mk a) rfl qZ⟩, fun U hU hW => ⟨rfl, by rw [hU]; exact hPc, va_K.moved hW.alike hKc, nzA_warm hW hz⟩⟩ rfl rfl hl.1 rfl (lv_room (Nat.le_of_ble_eq_true rfl)) dX8_fullBits_65 ⟨hRc, hRs⟩) hS (fun q _ h => h.elim) (fun q h => h.elim) (fun r_238 u t H1 locs ht hvm hw hB hz1 hk1 hS => ?_)
          have hP := gz_keep hP hk1
          generalize H1 = H at hP hS ⊢
          have gr_238 : gi r_238 0 5 := hw
          refine lv_istore_n (lv' := [(3, .int r_238), (1, .int x_237), (0, .ref h0), (2, .int v2), (4, .int v4)]) hx hb dX8_fullBits_68 rfl hl (by decide) rfl (fun ls hl => ?_)
          obtain ⟨x_239, ex_239⟩ : ∃ y : Int32, y = v2 + 1 := ⟨_, rfl⟩
          have gx_239 : gi x_239 1 24 := gi_add ex_239 g_229 (gi_c 1 1 (by decide)) (by decide)
          refine lv_iinc (v := x_239) (lv' := [(2, .int x_239), (3, .int r_238), (1, .int x_237), (0, .ref h0), (4, .int v4)]) hx hb dX8_fullBits_69 hl (k := 3) rfl (by rw [ex_239]; rfl) (by decide) rfl (fun ls hl => ?_)
          obtain ⟨x_240, ex_240⟩ : ∃ y : Int32, y = v4 + 1 := ⟨_, rfl⟩
          have gx_240 : gi x_240 1 24 := gi_add ex_240 g_228 (gi_c 1 1 (by decide)) (by decide)
          refine lv_iinc (v := x_240) (lv' := [(4, .int x_240), (2, .int x_239), (3, .int r_238), (1, .int x_237), (0, .ref h0)]) hx hb dX8_fullBits_72 hl (k := 4) rfl (by rw [ex_240]; rfl) (by decide) rfl (fun ls hl => ?_)
          refine lv_goto (tgt := 9) hx hb dX8_fullBits_75 (by decide) ?_
          exact ih x_237 x_239 r_238 x_240 _ _ _ (gi_w gx_239 (by decide)) (gi_w gr_238 (by decide)) (gi_w gx_240 (by decide)) (by have qgx_240 := gx_240.1; have rgx_240 := gx_240.2; have igx_240 : x_240.toInt = v4.toInt + 1 := (by have hc1 : (1 : Int32).toInt = 1 := (by decide); have h9 := gi_addI ex_240 (by have h1 := g_228.1; have h2 := (gi_c 1 1 (by decide)).1; have h3 := g_228.2; have h4 := (gi_c 1 1 (by decide)).2; omega) (by have h1 := g_228.1; have h2 := (gi_c 1 1 (by decide)).1; have h3 := g_228.2; have h4 := (gi_c 1 1 (by decide)).2; omega); rw [hc1] at h9; exact h9); have qgv4 := g_228.1; have rgv4 := g_228.2; have qgx_239 := gx_239.1; have rgx_239 := gx_239.2; have igx_239 : x_239.toInt = v2.toInt + 1 := (by have hc1 : (1 : Int32).toInt = 1 := (by decide); have h9 := gi_addI ex_239 (by have h1 := g_229.1; have h2 := (gi_c 1 1 (by decide)).1; have h3 := g_229.2; have h4 := (gi_c 1 1 (by decide)).2; omega) (by have h1 := g_229.1; have h2 := (gi_c 1 1 (by decide)).1; have h3 := g_229.2; have h4 := (gi_c 1 1 (by decide)).2; omega); rw [hc1] at h9; exact h9); have qgv2 := g_229.1; have rgv2 := g_229.2; have y1 := (Int32.lt_iff_toInt_lt.mp (Int32.not_le.mp c_227)); have y2 := (Int32.lt_iff_toInt_lt.mp c_233); omega) (by have av4 := gv4.1; have bv4 := gv4.2; have qgx_240 := gx_240.1; have rgx_240 := gx_240.2; have igx_240 : x_240.toInt = v4.toInt + 1 := (by have hc1 : (1 : Int32).toInt = 1 := (by decide); have h9 := gi_addI ex_240 (by have h1 := g_228.1; have h2 := (gi_c 1 1 (by decide)).1; have h3 := g_228.2; have h4 := (gi_c 1 1 (by decide)).2; omega) (by have h1 := g_228.1; have h2 := (gi_c 1 1 (by decide)).1; have h3 := g_228.2; have h4 := (gi_c 1 1 (by decide)).2; omega); rw [hc1] at h9; exact h9); have qgv4 := g_228.1; have rgv4 := g_228.2; omega) hP hS (lv_sub hl [4, 3, 1, 2, 0] rfl)
        · refine lv_iload_n hx hb dX8_fullBits_37 rfl (lv_at hl 3 rfl) ?_
          refine lv_aload_n hx hb dX8_fullBits_38 rfl (lv_at hl 0 rfl) ?_
          refine va_get (D := (dC, dI)) (ci := 8) (v := .int full) (C := RX8) (T := TX8) (N := 5) hx hb hts (fun w h => List.mem_cons_of_mem _ (jnGA_X8 w h)) hown hK hP 0 rfl rfl 3 (by decide) (hts _ (List.mem_cons_of_mem _ mGA_785)) (fun _ h9 => h9) rfl dX8_fullBits_39 ?_
          refine lv_aload_n hx hb dX8_fullBits_42 rfl (lv_at hl 0 rfl) ?_
          refine va_get (D := (dC, dI)) (ci := 8) (v := .int lean) (C := RX8) (T := TX8) (N := 5) hx hb hts (fun w h => List.mem_cons_of_mem _ (jnGA_X8 w h)) hown hK hP 0 rfl rfl 4 (by decide) (hts _ (List.mem_cons_of_mem _ mGA_787)) (fun _ h9 => h9) rfl dX8_fullBits_43 ?_
          have hPc := hP.sub (ws' := []) [] rfl
          have hKc := hK.sub (tys' := []) [] rfl
          refine va_calli (va_runSN (As := [.int v3, .int full, .int lean]) (rest := []) ⟨hx, hb, hml, hown, hts⟩ (sX11_runWithLean l dC dI v3 full lean gv3 gfull glean) (⟨va_cnB 3 hts (gz_gP mGA_510 goodGA) rfl rfl rfl (nzA_X8_77 hz) (hts _ (List.mem_cons_of_mem _ mGA_1)) (by decide +kernel) ⟨Nat.le_trans (Nat.le_of_ble_eq_true rfl) hRf, Nat.le_trans (Nat.le_of_ble_eq_true rfl) hRl⟩, (hts _ (List.mem_cons_of_mem _ mGA_509)), trivial⟩) ⟨fun a U g mk q => by obtain ⟨q0, qP, qK, qZ⟩ := q; exact ⟨q0, qP, va_K.moved (u := U) (U := U.calling g mk a) (Vm.Alike.refl U.vm) qK, nzA_same (u := U) (U := U.calling g mk a) rfl qZ⟩, fun U hU hW => ⟨rfl, by rw [hU]; exact hPc, va_K.moved hW.alike hKc, nzA_warm hW hz⟩⟩ rfl rfl hl.1 rfl (lv_room (Nat.le_of_ble_eq_true rfl)) dX8_fullBits_46 ⟨hRc, hRs⟩) hS (fun q _ h => h.elim) (fun q h => h.elim) (fun r_241 u t H1 locs ht hvm hw hB hz1 hk1 hS => ?_)
          have hP := gz_keep hP hk1
          generalize H1 = H at hP hS ⊢
          have gr_241 : gi r_241 0 10 := hw
          refine lv_istore_n (lv' := [(3, .int r_241), (0, .ref h0), (1, .int v1), (2, .int v2), (4, .int v4)]) hx hb dX8_fullBits_49 rfl hl (by decide) rfl (fun ls hl => ?_)
          refine lv_goto (tgt := 72) hx hb dX8_fullBits_50 (by decide) ?_
          obtain ⟨x_242, ex_242⟩ : ∃ y : Int32, y = v4 + 1 := ⟨_, rfl⟩
          have gx_242 : gi x_242 1 24 := gi_add ex_242 g_228 (gi_c 1 1 (by decide)) (by decide)
          refine lv_iinc (v := x_242) (lv' := [(4, .int x_242), (3, .int r_241), (0, .ref h0), (1, .int v1), (2, .int v2)]) hx hb dX8_fullBits_72 hl (k := 4) rfl (by rw [ex_242]; rfl) (by decide) rfl (fun ls hl => ?_)
          refine lv_goto (tgt := 9) hx hb dX8_fullBits_75 (by decide) ?_
          exact ih v1 v2 r_241 x_242 _ _ _ (gi_w g_229 (by decide)) gr_241 (gi_w gx_242 (by decide)) (by have qgx_242 := gx_242.1; have rgx_242 := gx_242.2; have igx_242 : x_242.toInt = v4.toInt + 1 := (by have hc1 : (1 : Int32).toInt = 1 := (by decide); have h9 := gi_addI ex_242 (by have h1 := g_228.1; have h2 := (gi_c 1 1 (by decide)).1; have h3 := g_228.2; have h4 := (gi_c 1 1 (by decide)).2; omega) (by have h1 := g_228.1; have h2 := (gi_c 1 1 (by decide)).1; have h3 := g_228.2; have h4 := (gi_c 1 1 (by decide)).2; omega); rw [hc1] at h9; exact h9); have qgv4 := g_228.1; have rgv4 := g_228.2; have qgv2 := g_229.1; have rgv2 := g_229.2; have y1 := (Int32.lt_iff_toInt_lt.mp (Int32.not_le.mp c_227)); have y2 := (Int32.le_iff_toInt_le.mp (Int32.not_lt.mp c_233)); omega) (by have av4 := gv4.1; have bv4 := gv4.2; have qgx_242 := gx_242.1; have rgx_242 := gx_242.2; have igx_242 : x_242.toInt = v4.toInt + 1 := (by have hc1 : (1 : Int32).toInt = 1 := (by decide); have h9 := gi_addI ex_242 (by have h1 := g_228.1; have h2 := (gi_c 1 1 (by decide)).1; have h3 := g_228.2; have h4 := (gi_c 1 1 (by decide)).2; omega) (by have h1 := g_228.1; have h2 := (gi_c 1 1 (by decide)).1; have h3 := g_228.2; have h4 := (gi_c 1 1 (by decide)).2; omega); rw [hc1] at h9; exact h9); have qgv4 := g_228.1; have rgv4 := g_228.2; omega) hP hS (lv_sub hl [2, 3, 4, 1, 0] rfl)
set_option maxHeartbeats 4000000 in
set_option maxRecDepth 100000 in
theorem sX8_fullBits (l : Launch) (dC : Nat → ClassId) (dI : Nat → Nat → Nat) (h0 : Nat) (le : Nat) (co : Nat) (months : Int32) (full : Int32) (lean : Int32) (kle : ClassId) (fle : Nat → Int32) (gmonths : gi months 0 24) (gfull : gi full 0 5) (glean : gi lean 0 5) : Met l yX8_fullBits (.code yX8_fullBits cX8_fullBits 5 (some .int) :: wsGA) ({ frames := 3, cells := 0, slots := 0, locals := 66 }) (va_Pc [.ref h0] (fun U => va_P (dC, dI) vwCl [(h0, .inr (8, [.ref co, .ref le, .int months, .int full, .int lean])), (le, .inl (kle, 3575, .inl fle))] U.heap ∧ va_K (dC, dI) vwCl [(kle, .int)] U ∧ nzA U)) (va_Qi (fun (r : Int32) (u : Unit) => gi r (-2147483648) 2147483647) (fun _ _ => True) (fun _ => False)) 0 0 (fun _ => False) := by
  refine Met.ofW (cc := cX8_fullBits) (maxL := 5) (ret := (some .int)) (by decide) rfl ?_
  intro p e s m args below meth c s₁ B hml hv
  obtain ⟨rfl, hP, hK, hz⟩ := hv
  have hx := B.exec
  have hb := B.bytes
  have hr := B.returns
  have hts := atoms_spec (ws := (.code yX8_fullBits cX8_fullBits 5 (some .int) :: wsGA)) B.pre
  have hown : s.vm.findClass RX8 = some m.cls := findClass_of_methodNamed B.named
  have hlocks := B.notSynchronized
  have hS : va_S (fun _ => False) s.heap s.heap [] := va_S.rf
  have hl := lv_entry ([.ref h0]) (n := 5) (Nat.le_of_ble_eq_true rfl)
  rw [lg_entry_eq]
  generalize (lg_sl ([.ref h0]) ++ List.replicate (5 - (lg_sl ([.ref h0])).length) Slot.unset).toArray = ls at hl ⊢
  have hl : lv_has ls 5 [(0, .ref h0)] := hl
  refine lv_iconst (v := 0) hx hb dX8_fullBits_0 (by decide) ?_
  refine lv_istore_n (lv' := [(1, .int 0), (0, .ref h0)]) hx hb dX8_fullBits_1 rfl hl (by decide) rfl (fun ls hl => ?_)
  refine lv_iconst (v := 0) hx hb dX8_fullBits_2 (by decide) ?_
  refine lv_istore_n (lv' := [(2, .int 0), (1, .int 0), (0, .ref h0)]) hx hb dX8_fullBits_3 rfl hl (by decide) rfl (fun ls hl => ?_)
  refine lv_iconst (v := 0) hx hb dX8_fullBits_4 (by decide) ?_
  refine lv_istore_n (lv' := [(3, .int 0), (2, .int 0), (1, .int 0), (0, .ref h0)]) hx hb dX8_fullBits_5 rfl hl (by decide) rfl (fun ls hl => ?_)
  refine lv_iconst (v := 0) hx hb dX8_fullBits_6 (by decide) ?_
  refine lv_istore (lv' := [(4, .int 0), (3, .int 0), (2, .int 0), (1, .int 0), (0, .ref h0)]) hx hb dX8_fullBits_7 hl (by decide) rfl (fun ls hl => ?_)
  refine (lp_sX8_fullBits h0 le co months full lean kle fle gmonths gfull glean hx hb hml hown hts hK hz (Nat.le_of_ble_eq_true rfl) (Nat.le_of_ble_eq_true rfl) (Nat.zero_le _) (Nat.zero_le _) (fun v H locs ls hP hS hl => ?_) 62) 0 0 0 0 _ _ _ (gi_w (gi_c 0 0 (by decide)) (by decide)) (gi_w (gi_c 0 0 (by decide)) (by decide)) (gi_w (gi_c 0 0 (by decide)) (by decide)) (by have k0 : (0 : Int32).toInt = 0 := (by decide); have k0 : (0 : Int32).toInt = 0 := (by decide); omega) (by have k0 : (0 : Int32).toInt = 0 := (by decide); omega) hP hS (lv_sub hl [4, 3, 2, 1, 0] rfl)
  · skip
    exact W.iret (v := v) hx hb hr (fun t ht hW => ⟨⟨v, (), rfl, (gi_any v), trivial⟩, hS.F ht⟩) hS.2.2 dX8_fullBits_79
